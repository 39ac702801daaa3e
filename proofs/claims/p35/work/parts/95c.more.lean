/-! p35: QUERIES at their edges -/
/-- a state that an object can have -/
def QE (g : Nat → Nat) : Prop := GV g ∧ ∃ (c : Int32) (st : Int64) (al ti tc se : Int32) (k w so ch : Nat → Int32), CR g c st al ti tc se k w so ch
/-- a number that no lantern has -/
def no_l (g : Nat → Nat) (v : Int32) : Prop := v < 0 ∨ nI (g 0) ≤ v
section More
variable {g : Nat → Nat} {B : Nat} {c al ti tc se : Int32} {st : Int64} {k w so ch : Nat → Int32} {v1 v2 : Int32}
theorem hung_f (hC : CR g c st al ti tc se k w so ch) (h : no_l g v1) : J_X2_isHung c v1 = some (nI 0) := by rw [hC.1.1]; exact X2_isHung_f h
theorem hung_t (hG : GV g) (hC : CR g c st al ti tc se k w so ch) {l : Nat} (hl : l < g 0) : J_X2_isHung c (nI l) = some (nI 1) := by rw [hC.1.1]; exact X2_isHung_t hl hG.1
theorem n00 : nI 0 = (0 : Int32) := rfl
theorem n10 : ¬ nI 1 = (0 : Int32) := by decide +kernel
theorem qe_lanternOf_none (h : QE g) (hv : no_l g v1) : q_lanternOf g v1 v2 = -nI 11 := by
  obtain ⟨hG, c, st, al, ti, tc, se, k, w, so, ch, hC⟩ := h
  have e := lanternOf_q hG hC v1 v2
  unfold J_X9_lanternOf at e
  rw [hung_f hC hv, bn1, if_pos n00] at e
  exact (Option.some.inj e).symm
theorem qe_lanternOf_bad (h : QE g) {l : Nat} (hl : l < g 0) (h0 : ∀ i, i < 8 → ¬ v2 = nI i) : q_lanternOf g (nI l) v2 = -nI 12 := by
  obtain ⟨hG, c, st, al, ti, tc, se, k, w, so, ch, hC⟩ := h
  have e := lanternOf_q hG hC (nI l) v2
  unfold J_X9_lanternOf at e
  rw [hung_t hG hC hl, bn1, if_neg n10, if_neg (show ¬ v2 = (0 : Int32) from h0 0 (by omega)), if_neg (show ¬ v2 = (1 : Int32) from h0 1 (by omega)), if_neg (show ¬ v2 = (2 : Int32) from h0 2 (by omega)), if_neg (show ¬ v2 = (3 : Int32) from h0 3 (by omega)), if_neg (show ¬ v2 = (4 : Int32) from h0 4 (by omega)), if_neg (show ¬ v2 = (5 : Int32) from h0 5 (by omega)), if_neg (show ¬ v2 = (6 : Int32) from h0 6 (by omega)), if_neg (show ¬ v2 = (7 : Int32) from h0 7 (by omega))] at e
  exact (Option.some.inj e).symm
theorem qe_wireOf_none (h : QE g) (hv : no_l g v1) : q_wireOf g v1 v2 = -nI 11 := by
  obtain ⟨hG, c, st, al, ti, tc, se, k, w, so, ch, hC⟩ := h
  have e := wireOf_q hG hC v1 v2
  unfold J_X9_wireOf at e
  rw [hung_f hC hv, bn1, if_pos n00] at e
  exact (Option.some.inj e).symm
theorem qe_wireOf_bad (h : QE g) {l : Nat} (hl : l < g 0) (hv : v2 < 0 ∨ nI 3 ≤ v2) : q_wireOf g (nI l) v2 = -nI 12 := by
  obtain ⟨hG, c, st, al, ti, tc, se, k, w, so, ch, hC⟩ := h
  have e := wireOf_q hG hC (nI l) v2
  unfold J_X9_wireOf at e
  rw [hung_t hG hC hl, bn1, if_neg n10, X9_isPlace_f hv, bn1, if_pos n00] at e
  exact (Option.some.inj e).symm
theorem qe_wireOf (h : QE g) {l p : Nat} (hl : l < g 0) (hp : p < 3) : q_wireOf g (nI l) (nI p) = if src g l p = 0 then -nI 15 else nI (src g l p - 1) := by
  obtain ⟨hG, c, st, al, ti, tc, se, k, w, so, ch, hC⟩ := h
  have h16 := hG.1
  have e := wireOf_q hG hC (nI l) (nI p)
  have hs := GV_src hG (show l < 16 by omega) hp
  unfold J_X9_wireOf J_X9_wireOf_b45 at e
  rw [hung_t hG hC hl, bn1, if_neg n10, X9_isPlace_t hp, bn1, if_neg n10, X2_sourceOf hC.1 (show l < 16 by omega) hp, bn1] at e
  by_cases q : src g l p = 0
  · rw [if_pos (show sV (src g l p) = (-1 : Int32) from (sV_m1 (by omega)).2 q)] at e
    rw [if_pos q]
    exact (Option.some.inj e).symm
  · rw [if_neg (show ¬ sV (src g l p) = (-1 : Int32) from fun z => q ((sV_m1 (by omega)).1 z)), sV_s q] at e
    rw [if_neg q]
    exact (Option.some.inj e).symm
theorem qe_leads_none (h : QE g) (hv : no_l g v1) : q_leads g v1 = -nI 11 := by
  obtain ⟨hG, c, st, al, ti, tc, se, k, w, so, ch, hC⟩ := h
  have e := leads_q hG hC v1
  unfold J_X9_leads J_X9_leads_b24 at e
  rw [hung_f hC hv, bn1, if_pos n00] at e
  exact (Option.some.inj e).symm
theorem qe_switchesOf_none (h : QE g) (hv : no_l g v1) : q_switchesOf g v1 = -nI 11 := by
  obtain ⟨hG, c, st, al, ti, tc, se, k, w, so, ch, hC⟩ := h
  have e := switchesOf_q hG hC v1
  unfold J_X9_switchesOf J_X9_switchesOf_b24 at e
  rw [hung_f hC hv, bn1, if_pos n00] at e
  exact (Option.some.inj e).symm
theorem qe_depth_none (h : QE g) (hv : no_l g v1) : q_depth g v1 = -nI 11 := by
  obtain ⟨hG, c, st, al, ti, tc, se, k, w, so, ch, hC⟩ := h
  obtain ⟨⟨kn', e⟩, -⟩ := depth_q hG hC z0 z0 v1
  unfold J_X9_depth J_X9_depth_b28 at e
  rw [hung_f hC hv, bn1, if_pos n00] at e
  exact (congrArg (fun z => z.1) (Option.some.inj e)).symm
theorem qe_table_none (h : QE g) (hv : no_l g v1) : q_table g v1 = -nI 11 := by
  obtain ⟨hG, c, st, al, ti, tc, se, k, w, so, ch, hC⟩ := h
  obtain ⟨⟨kn', e⟩, -⟩ := table_q hG hC z0 z0 v1
  unfold J_X9_table at e
  rw [hung_f hC hv, bn1, if_pos n00] at e
  exact (congrArg (fun z => z.1) (Option.some.inj e)).symm
theorem qe_table_sw (h : QE g) {l : Nat} (hl : l < g 0) (h0 : GA g l 0 = 0) : q_table g (nI l) = -nI 15 := by
  obtain ⟨hG, c, st, al, ti, tc, se, k, w, so, ch, hC⟩ := h
  obtain ⟨⟨kn', e⟩, -⟩ := table_q hG hC z0 z0 (nI l)
  unfold J_X9_table J_X9_hasTable J_X9_hasTable_b45 J_X9_hasTable_b46 J_X9_table_b35 at e
  rw [hung_t hG hC hl, bn1, if_neg n10, X2_isSwitch hG hC.1 hl, decide_eq_true h0, b2_t, bn1, if_neg n10, il_0, chz_0, bn2, if_pos rfl] at e
  exact (congrArg (fun z => z.1) (Option.some.inj e)).symm
theorem qe_flickers_none (h : QE g) (hv : no_l g v1 ∨ (∃ l, l < g 0 ∧ v1 = nI l) ∧ no_l g v2) : q_flickers g v1 v2 = -nI 11 := by
  obtain ⟨hG, c, st, al, ti, tc, se, k, w, so, ch, hC⟩ := h
  have e := flickers_q hG hC v1 v2
  unfold J_X9_flickers J_X9_flickers_b22 at e
  rcases hv with hv | ⟨⟨l, hl, rfl⟩, hv⟩
  · rw [hung_f hC hv, bn1, if_pos n00] at e
    exact (Option.some.inj e).symm
  · rw [hung_t hG hC hl, hung_f hC hv, bn1, if_neg n10, bn1, if_pos n00] at e
    exact (Option.some.inj e).symm
theorem qe_flickers_sw (h : QE g) {l b : Nat} (hl : l < g 0) (hb : b < g 0) (h0 : GA g l 0 = 0) : q_flickers g (nI l) (nI b) = -nI 12 := by
  obtain ⟨hG, c, st, al, ti, tc, se, k, w, so, ch, hC⟩ := h
  have e := flickers_q hG hC (nI l) (nI b)
  unfold J_X9_flickers J_X9_flickers_b47 at e
  rw [hung_t hG hC hl, hung_t hG hC hb, bn1, if_neg n10, bn1, if_neg n10, X2_isSwitch hG hC.1 hl, decide_eq_true h0, b2_t, bn1, if_neg n10] at e
  exact (Option.some.inj e).symm
theorem qe_account_bad (hG : GW g B) (h : QE g) (u n : Nat) (h0 : ∀ i, i < 13 → ¬ v1 = nI i) : q_account g u n v1 = -nI 12 := by
  obtain ⟨-, c, st, al, ti, tc, se, k, w, so, ch, hC⟩ := h
  obtain ⟨kn', e⟩ := account_q hG hC u n z0 v1
  unfold J_X9_account at e
  rw [if_neg (show ¬ v1 = (0 : Int32) from h0 0 (by omega)), if_neg (show ¬ v1 = (1 : Int32) from h0 1 (by omega)), if_neg (show ¬ v1 = (2 : Int32) from h0 2 (by omega)), if_neg (show ¬ v1 = (3 : Int32) from h0 3 (by omega)), if_neg (show ¬ v1 = (4 : Int32) from h0 4 (by omega)), if_neg (show ¬ v1 = (5 : Int32) from h0 5 (by omega)), if_neg (show ¬ v1 = (6 : Int32) from h0 6 (by omega)), if_neg (show ¬ v1 = (7 : Int32) from h0 7 (by omega)), if_neg (show ¬ v1 = (8 : Int32) from h0 8 (by omega)), if_neg (show ¬ v1 = (9 : Int32) from h0 9 (by omega)), if_neg (show ¬ v1 = (10 : Int32) from h0 10 (by omega)), if_neg (show ¬ v1 = (11 : Int32) from h0 11 (by omega)), if_neg (show ¬ v1 = (12 : Int32) from h0 12 (by omega))] at e
  exact (congrArg (fun z => z.1) (Option.some.inj e)).symm
theorem qe_acc0 (hG : GW g B) (h : QE g) (u n : Nat) : q_account g u n (nI 0) = nI (g 2) := by
  obtain ⟨-, c, st, al, ti, tc, se, k, w, so, ch, hC⟩ := h
  obtain ⟨kn', e⟩ := account_q hG hC u n z0 (nI 0)
  unfold J_X9_account J_X2_ticks at e
  rw [if_pos (show nI 0 = (0 : Int32) from rfl), bn1, hC.2.2.2.2.1] at e
  exact (congrArg (fun z => z.1) (Option.some.inj e)).symm
theorem qe_acc1 (hG : GW g B) (h : QE g) (u n : Nat) : q_account g u n (nI 1) = nI (g 0) := by
  obtain ⟨-, c, st, al, ti, tc, se, k, w, so, ch, hC⟩ := h
  obtain ⟨kn', e⟩ := account_q hG hC u n z0 (nI 1)
  unfold J_X9_account J_X2_count at e
  rw [if_neg (show ¬ nI 1 = (0 : Int32) by decide +kernel), if_pos (show nI 1 = (1 : Int32) from rfl), bn1, hC.1.1] at e
  exact (congrArg (fun z => z.1) (Option.some.inj e)).symm
theorem qe_acc4 (hG : GW g B) (h : QE g) (u n : Nat) : q_account g u n (nI 4) = nI (gct g) := by
  obtain ⟨-, c, st, al, ti, tc, se, k, w, so, ch, hC⟩ := h
  obtain ⟨kn', e⟩ := account_q hG hC u n z0 (nI 4)
  obtain ⟨x, hx, hb⟩ := X2_glow st
  unfold J_X9_account at e
  rw [if_neg (show ¬ nI 4 = (0 : Int32) by decide +kernel), if_neg (show ¬ nI 4 = (1 : Int32) by decide +kernel), if_neg (show ¬ nI 4 = (2 : Int32) by decide +kernel), if_neg (show ¬ nI 4 = (3 : Int32) by decide +kernel), if_pos (show nI 4 = (4 : Int32) from rfl), hx, bn1, gct_bits hG.1 hb hC.2.1, bn1] at e
  exact (congrArg (fun z => z.1) (Option.some.inj e)).symm
theorem qe_acc6 (hG : GW g B) (h : QE g) (u n : Nat) : q_account g u n (nI 6) = nI (g 1) := by
  obtain ⟨-, c, st, al, ti, tc, se, k, w, so, ch, hC⟩ := h
  obtain ⟨kn', e⟩ := account_q hG hC u n z0 (nI 6)
  have h1 := hG.1.2.1
  unfold J_X9_account J_X2_areLoopsAllowed J_X9_account_b140 at e
  rw [if_neg (show ¬ nI 6 = (0 : Int32) by decide +kernel), if_neg (show ¬ nI 6 = (1 : Int32) by decide +kernel), if_neg (show ¬ nI 6 = (2 : Int32) by decide +kernel), if_neg (show ¬ nI 6 = (3 : Int32) by decide +kernel), if_neg (show ¬ nI 6 = (4 : Int32) by decide +kernel), if_neg (show ¬ nI 6 = (5 : Int32) by decide +kernel), if_pos (show nI 6 = (6 : Int32) from rfl), hC.2.2.2.1] at e
  rcases (show g 1 = 0 ∨ g 1 = 1 by omega) with q | q
  · rw [q, chz_0, bn1, if_pos n00] at e
    rw [q]
    exact (congrArg (fun z => z.1) (Option.some.inj e)).symm
  · rw [q, chz_1, bn1, if_neg n10] at e
    rw [q]
    exact (congrArg (fun z => z.1) (Option.some.inj e)).symm
theorem qe_acc8 (hG : GW g B) (h : QE g) (u n : Nat) : q_account g u n (nI 8) = nI (g 3) := by
  obtain ⟨-, c, st, al, ti, tc, se, k, w, so, ch, hC⟩ := h
  obtain ⟨kn', e⟩ := account_q hG hC u n z0 (nI 8)
  unfold J_X9_account J_X2_tickChanges at e
  rw [if_neg (show ¬ nI 8 = (0 : Int32) by decide +kernel), if_neg (show ¬ nI 8 = (1 : Int32) by decide +kernel), if_neg (show ¬ nI 8 = (2 : Int32) by decide +kernel), if_neg (show ¬ nI 8 = (3 : Int32) by decide +kernel), if_neg (show ¬ nI 8 = (4 : Int32) by decide +kernel), if_neg (show ¬ nI 8 = (5 : Int32) by decide +kernel), if_neg (show ¬ nI 8 = (6 : Int32) by decide +kernel), if_neg (show ¬ nI 8 = (7 : Int32) by decide +kernel), if_pos (show nI 8 = (8 : Int32) from rfl), bn1, hC.2.2.2.2.2.1] at e
  exact (congrArg (fun z => z.1) (Option.some.inj e)).symm
theorem qe_acc11 (hG : GW g B) (h : QE g) (u n : Nat) : q_account g u n (nI 11) = nI n := by
  obtain ⟨-, c, st, al, ti, tc, se, k, w, so, ch, hC⟩ := h
  obtain ⟨kn', e⟩ := account_q hG hC u n z0 (nI 11)
  unfold J_X9_account J_X8_length at e
  rw [if_neg (show ¬ nI 11 = (0 : Int32) by decide +kernel), if_neg (show ¬ nI 11 = (1 : Int32) by decide +kernel), if_neg (show ¬ nI 11 = (2 : Int32) by decide +kernel), if_neg (show ¬ nI 11 = (3 : Int32) by decide +kernel), if_neg (show ¬ nI 11 = (4 : Int32) by decide +kernel), if_neg (show ¬ nI 11 = (5 : Int32) by decide +kernel), if_neg (show ¬ nI 11 = (6 : Int32) by decide +kernel), if_neg (show ¬ nI 11 = (7 : Int32) by decide +kernel), if_neg (show ¬ nI 11 = (8 : Int32) by decide +kernel), if_neg (show ¬ nI 11 = (9 : Int32) by decide +kernel), if_neg (show ¬ nI 11 = (10 : Int32) by decide +kernel), if_pos (show nI 11 = (11 : Int32) from rfl), bn1] at e
  exact (congrArg (fun z => z.1) (Option.some.inj e)).symm
theorem qe_acc12 (hG : GW g B) (h : QE g) (u n : Nat) : q_account g u n (nI 12) = nI u := by
  obtain ⟨-, c, st, al, ti, tc, se, k, w, so, ch, hC⟩ := h
  obtain ⟨kn', e⟩ := account_q hG hC u n z0 (nI 12)
  unfold J_X9_account J_X4_undoable at e
  rw [if_neg (show ¬ nI 12 = (0 : Int32) by decide +kernel), if_neg (show ¬ nI 12 = (1 : Int32) by decide +kernel), if_neg (show ¬ nI 12 = (2 : Int32) by decide +kernel), if_neg (show ¬ nI 12 = (3 : Int32) by decide +kernel), if_neg (show ¬ nI 12 = (4 : Int32) by decide +kernel), if_neg (show ¬ nI 12 = (5 : Int32) by decide +kernel), if_neg (show ¬ nI 12 = (6 : Int32) by decide +kernel), if_neg (show ¬ nI 12 = (7 : Int32) by decide +kernel), if_neg (show ¬ nI 12 = (8 : Int32) by decide +kernel), if_neg (show ¬ nI 12 = (9 : Int32) by decide +kernel), if_neg (show ¬ nI 12 = (10 : Int32) by decide +kernel), if_neg (show ¬ nI 12 = (11 : Int32) by decide +kernel), if_pos (show nI 12 = (12 : Int32) from rfl), bn1] at e
  exact (congrArg (fun z => z.1) (Option.some.inj e)).symm
/-! texts, lines, reasons -/
theorem append_bad {n : Nat} {sg : Nat → Int32} (hv : v1 < nI 32 ∨ nI 126 < v1) : J_X9_append (nI n) sg v1 = some (-nI 12, nI n, sg) := by
  unfold J_X9_append J_X8_add J_X8_add_b12
  by_cases h : v1 < (32 : Int32)
  · rw [if_pos h, bn3, il_12]
  · rw [if_neg h, if_neg (show ¬ v1 ≤ (126 : Int32) from fun z => absurd z (fa_of_lt (hv.resolve_left h)).2.1), bn3, il_12]
theorem append_ok {n v : Nat} {tg : Nat → Nat} {sg : Nat → Int32} (hT : TG n tg sg) (hn : n < 60) (hv : 32 ≤ v) (hv2 : v ≤ 126) : J_X9_append (nI n) sg (nI v) = some (nI (n + 1), nI (n + 1), upd sg n (nI v)) ∧ TG (n + 1) (updn tg n v) (upd sg n (nI v)) := by
  refine ⟨?_, TG_add hT hn (by omega)⟩
  obtain ⟨n', tg', x, sg', tx', e1, -, h1, -⟩ := append_both hT hT (nI v)
  unfold J_X9_append J_X8_add J_X8_add_b12 J_X8_add_b31
  have hch : vp_nar .char (nI v) = nI v ∧ ((nI v).toUInt32 % 65536).toInt32 = nI v := by
    have h9 : ∀ v, v < 128 → vp_nar .char (nI v) = nI v ∧ ((nI v).toUInt32 % 65536).toInt32 = nI v := by decide +kernel
    exact h9 v (by omega)
  simp (disch := omega) only [↓reduceIte, nm_x, chk_nI, chz_0, chz_1, chz_b2, chn_nI, oi_1, oi_2, oi_m1, il_0, il_1, il_2, il_3, il_4, il_5, il_6, il_7, il_8, il_9, il_10, il_11, il_12, il_13, il_14, il_15, il_16, il_32, il_35, il_40, il_41, il_42, il_43, il_44, il_45, il_46, il_48, il_57, il_58, il_59, il_60, il_99, il_104, il_115, il_116, il_119, il_126, il_133, il_255, il_256, il_512, il_931, il_1000, il_65536, bn0, bn1, bn2, bn3, bn4, bn5, bn6, bn7, bn8, bn9, bn10, bn11, bn12, bn13, bn14, bn15, nI_leI, nI_ltI, nI_eq, nI_clamp, nI_add, pk_mul, nI_lt0, ng_lt0, ng_ge0, ng_eqn, ng_neq, ng_len, ng_eq, sV_m1, sV_lt0, sV_ge0, if_true, if_false, Nat.le_refl, Nat.lt_irrefl, Nat.not_lt_zero, Nat.zero_le, not_true_eq_false, not_false_eq_true, false_and, true_and, and_true, and_false, true_or, or_true, false_or, or_false, reduceCtorEq, il_126, show ¬ v < 32 by omega, hv2, show ¬ 60 ≤ n by omega, hch.1, hch.2, hn]
theorem append_full {tg : Nat → Nat} {sg : Nat → Int32} {v : Nat} (hv : 32 ≤ v) (hv2 : v ≤ 126) : J_X9_append (nI 60) sg (nI v) = some (-nI 13, nI 60, sg) := by
  unfold J_X9_append J_X8_add J_X8_add_b12 J_X8_add_b31
  simp (disch := omega) only [↓reduceIte, nm_x, chk_nI, chz_0, chz_1, chz_b2, chn_nI, oi_1, oi_2, oi_m1, il_0, il_1, il_2, il_3, il_4, il_5, il_6, il_7, il_8, il_9, il_10, il_11, il_12, il_13, il_14, il_15, il_16, il_32, il_35, il_40, il_41, il_42, il_43, il_44, il_45, il_46, il_48, il_57, il_58, il_59, il_60, il_99, il_104, il_115, il_116, il_119, il_126, il_133, il_255, il_256, il_512, il_931, il_1000, il_65536, bn0, bn1, bn2, bn3, bn4, bn5, bn6, bn7, bn8, bn9, bn10, bn11, bn12, bn13, bn14, bn15, nI_leI, nI_ltI, nI_eq, nI_clamp, nI_add, pk_mul, nI_lt0, ng_lt0, ng_ge0, ng_eqn, ng_neq, ng_len, ng_eq, sV_m1, sV_lt0, sV_ge0, if_true, if_false, Nat.le_refl, Nat.lt_irrefl, Nat.not_lt_zero, Nat.zero_le, not_true_eq_false, not_false_eq_true, false_and, true_and, and_true, and_false, true_or, or_true, false_or, or_false, reduceCtorEq, il_126, show ¬ v < 32 by omega, hv2, Nat.reduceLT]
theorem lamp_none (hC : CR g c st al ti tc se k w so ch) (hv : no_l g v1) (n : Int32) (ls : Nat → Int32) : J_X9_tellLantern c st k w so n ls v1 = some (-nI 11, n, ls) := by
  unfold J_X9_tellLantern
  rw [hung_f hC hv, bn1, if_pos n00, il_11]
theorem char_none {n : Nat} {ls : Nat → Int32} (hn : n ≤ 32) (hv : v1 < nI 0 ∨ nI 32 ≤ v1) : J_X9_character (nI n) ls v1 = some (-nI 11) := by
  unfold J_X9_character J_X3_codeAt J_X3_codeAt_b27 J_X3_codeAt_b29
  by_cases h : v1 < (0 : Int32)
  · rw [if_pos h, bn1, il_11]
  · have h2 : nI n ≤ v1 := by
      have h3 := hv.resolve_left h
      rw [fa_le, nI_toInt (by omega)] at h3 ⊢
      omega
    rw [if_neg h, if_pos h2, bn1, il_11]
theorem char_at {n i : Nat} {lc ls : Nat → Int32} (hL : LX n lc ls) (hi : i < n) : J_X9_character (nI n) ls (nI i) = some (lc i) := by
  have hn := hL.1
  unfold J_X9_character J_X3_codeAt J_X3_codeAt_b27 J_X3_codeAt_b29
  simp (disch := omega) only [↓reduceIte, nm_x, chk_nI, chz_0, chz_1, chz_b2, chn_nI, oi_1, oi_2, oi_m1, il_0, il_1, il_2, il_3, il_4, il_5, il_6, il_7, il_8, il_9, il_10, il_11, il_12, il_13, il_14, il_15, il_16, il_32, il_35, il_40, il_41, il_42, il_43, il_44, il_45, il_46, il_48, il_57, il_58, il_59, il_60, il_99, il_104, il_115, il_116, il_119, il_126, il_133, il_255, il_256, il_512, il_931, il_1000, il_65536, bn0, bn1, bn2, bn3, bn4, bn5, bn6, bn7, bn8, bn9, bn10, bn11, bn12, bn13, bn14, bn15, nI_leI, nI_ltI, nI_eq, nI_clamp, nI_add, pk_mul, nI_lt0, ng_lt0, ng_ge0, ng_eqn, ng_neq, ng_len, ng_eq, sV_m1, sV_lt0, sV_ge0, if_true, if_false, Nat.le_refl, Nat.lt_irrefl, Nat.not_lt_zero, Nat.zero_le, not_true_eq_false, not_false_eq_true, false_and, true_and, and_true, and_false, true_or, or_true, false_or, or_false, reduceCtorEq, show ¬ n ≤ i by omega, show ¬ 32 ≤ i by omega]
  rw [hL.2 i hi]
/-- what reason answers -/
def RS (nr : Nat) (rn rd : Nat → Int32) (i b : Nat) : Int32 := if nr ≤ i then -nI 15 else if b = 0 then rn i else rd i
theorem reason_q {nr i b : Nat} {rn rd : Nat → Int32} (hr : nr ≤ 3) (hi : i ≤ 3) (hb : b ≤ 1) : J_X9_reason (nI nr) rn rd (nI i) (nI b) = some (RS nr rn rd i b) := by
  unfold J_X9_reason J_X9_reason_b23 J_X6_numberAt J_X6_detailAt J_X6_numberAt_b19 J_X6_detailAt_b19 RS
  rw [il_0]
  by_cases h : nr ≤ i
  · have ek : J_X6_isKept (nI nr) (nI i) = some (nI 0) := by
      unfold J_X6_isKept J_X6_isKept_b21 J_X6_isKept_b22
      simp (disch := omega) only [↓reduceIte, nm_x, chk_nI, chz_0, chz_1, chz_b2, chn_nI, oi_1, oi_2, oi_m1, il_0, il_1, il_2, il_3, il_4, il_5, il_6, il_7, il_8, il_9, il_10, il_11, il_12, il_13, il_14, il_15, il_16, il_32, il_35, il_40, il_41, il_42, il_43, il_44, il_45, il_46, il_48, il_57, il_58, il_59, il_60, il_99, il_104, il_115, il_116, il_119, il_126, il_133, il_255, il_256, il_512, il_931, il_1000, il_65536, bn0, bn1, bn2, bn3, bn4, bn5, bn6, bn7, bn8, bn9, bn10, bn11, bn12, bn13, bn14, bn15, nI_leI, nI_ltI, nI_eq, nI_clamp, nI_add, pk_mul, nI_lt0, ng_lt0, ng_ge0, ng_eqn, ng_neq, ng_len, ng_eq, sV_m1, sV_lt0, sV_ge0, if_true, if_false, Nat.le_refl, Nat.lt_irrefl, Nat.not_lt_zero, Nat.zero_le, not_true_eq_false, not_false_eq_true, false_and, true_and, and_true, and_false, true_or, or_true, false_or, or_false, reduceCtorEq, h]
    rw [ek, if_pos h]
    simp only [bn1, if_true, ite_self, il_15]
  · have ek : J_X6_isKept (nI nr) (nI i) = some (nI 1) := by
      unfold J_X6_isKept J_X6_isKept_b21 J_X6_isKept_b22
      simp (disch := omega) only [↓reduceIte, nm_x, chk_nI, chz_0, chz_1, chz_b2, chn_nI, oi_1, oi_2, oi_m1, il_0, il_1, il_2, il_3, il_4, il_5, il_6, il_7, il_8, il_9, il_10, il_11, il_12, il_13, il_14, il_15, il_16, il_32, il_35, il_40, il_41, il_42, il_43, il_44, il_45, il_46, il_48, il_57, il_58, il_59, il_60, il_99, il_104, il_115, il_116, il_119, il_126, il_133, il_255, il_256, il_512, il_931, il_1000, il_65536, bn0, bn1, bn2, bn3, bn4, bn5, bn6, bn7, bn8, bn9, bn10, bn11, bn12, bn13, bn14, bn15, nI_leI, nI_ltI, nI_eq, nI_clamp, nI_add, pk_mul, nI_lt0, ng_lt0, ng_ge0, ng_eqn, ng_neq, ng_len, ng_eq, sV_m1, sV_lt0, sV_ge0, if_true, if_false, Nat.le_refl, Nat.lt_irrefl, Nat.not_lt_zero, Nat.zero_le, not_true_eq_false, not_false_eq_true, false_and, true_and, and_true, and_false, true_or, or_true, false_or, or_false, reduceCtorEq, h, show ¬ 3 ≤ i by omega]
    rw [ek, if_neg h]
    rcases (show b = 0 ∨ b = 1 by omega) with rfl | rfl
    · rw [if_pos rfl, if_pos rfl]
      simp (disch := omega) only [↓reduceIte, nm_x, chk_nI, chz_0, chz_1, chz_b2, chn_nI, oi_1, oi_2, oi_m1, il_0, il_1, il_2, il_3, il_4, il_5, il_6, il_7, il_8, il_9, il_10, il_11, il_12, il_13, il_14, il_15, il_16, il_32, il_35, il_40, il_41, il_42, il_43, il_44, il_45, il_46, il_48, il_57, il_58, il_59, il_60, il_99, il_104, il_115, il_116, il_119, il_126, il_133, il_255, il_256, il_512, il_931, il_1000, il_65536, bn0, bn1, bn2, bn3, bn4, bn5, bn6, bn7, bn8, bn9, bn10, bn11, bn12, bn13, bn14, bn15, nI_leI, nI_ltI, nI_eq, nI_clamp, nI_add, pk_mul, nI_lt0, ng_lt0, ng_ge0, ng_eqn, ng_neq, ng_len, ng_eq, sV_m1, sV_lt0, sV_ge0, if_true, if_false, Nat.le_refl, Nat.lt_irrefl, Nat.not_lt_zero, Nat.zero_le, not_true_eq_false, not_false_eq_true, false_and, true_and, and_true, and_false, true_or, or_true, false_or, or_false, reduceCtorEq, show ¬ 3 ≤ i by omega]
    · rw [if_neg (show ¬ nI 1 = nI 0 by decide +kernel), if_neg (show ¬ (1 : Nat) = 0 by decide)]
      simp (disch := omega) only [↓reduceIte, nm_x, chk_nI, chz_0, chz_1, chz_b2, chn_nI, oi_1, oi_2, oi_m1, il_0, il_1, il_2, il_3, il_4, il_5, il_6, il_7, il_8, il_9, il_10, il_11, il_12, il_13, il_14, il_15, il_16, il_32, il_35, il_40, il_41, il_42, il_43, il_44, il_45, il_46, il_48, il_57, il_58, il_59, il_60, il_99, il_104, il_115, il_116, il_119, il_126, il_133, il_255, il_256, il_512, il_931, il_1000, il_65536, bn0, bn1, bn2, bn3, bn4, bn5, bn6, bn7, bn8, bn9, bn10, bn11, bn12, bn13, bn14, bn15, nI_leI, nI_ltI, nI_eq, nI_clamp, nI_add, pk_mul, nI_lt0, ng_lt0, ng_ge0, ng_eqn, ng_neq, ng_len, ng_eq, sV_m1, sV_lt0, sV_ge0, if_true, if_false, Nat.le_refl, Nat.lt_irrefl, Nat.not_lt_zero, Nat.zero_le, not_true_eq_false, not_false_eq_true, false_and, true_and, and_true, and_false, true_or, or_true, false_or, or_false, reduceCtorEq, show ¬ 3 ≤ i by omega]
theorem reason_neg {nr : Nat} {rn rd : Nat → Int32} {b : Nat} (hv : v1 < nI 0) (hb : b ≤ 1) : J_X9_reason (nI nr) rn rd v1 (nI b) = some (-nI 15) := by
  unfold J_X9_reason J_X9_reason_b23 J_X6_numberAt J_X6_detailAt J_X6_numberAt_b19 J_X6_detailAt_b19
  rw [il_0]
  have ek : J_X6_isKept (nI nr) v1 = some (nI 0) := by
    unfold J_X6_isKept J_X6_isKept_b21 J_X6_isKept_b22
    rw [il_0, if_pos hv, chz_0]
  rw [ek]
  simp only [bn1, if_true, ite_self, il_15]
end More

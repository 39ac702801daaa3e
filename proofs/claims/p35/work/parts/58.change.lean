/-! THE CHANGES, one by one: class and reference alike -/
/-- the class' cells of all that changes can change -/
def CR (g : Nat → Nat) (c : Int32) (st : Int64) (al ti tc se : Int32) (k w so ch : Nat → Int32) : Prop := SR g c k w so ∧ ER g st ∧ (∀ l, l < 16 → ch l = nI (GA g l 3)) ∧ al = nI (g 1) ∧ ti = nI (g 2) ∧ tc = nI (g 3) ∧ se = nI (g 4)
/-- the reasons of both -/
def RR (n : Nat) (rc : Int32) (rn rd : Nat → Int32) (wh : Int32) (wy mo : Nat → Int32) : Prop := n ≤ 3 ∧ rc = nI n ∧ wh = nI n ∧ ∀ i, i < n → wy i = rn i ∧ mo i = rd i
/-- the answers of a change -/
def OUT (xc xm an : Int32) (same : Prop) (n : Nat) : Prop := (∃ a, a < 2 ^ 31 ∧ xc = nI a ∧ xm = nI 0 ∧ an = nI a) ∨ (same ∧ ∃ e, 11 ≤ e ∧ e ≤ 14 ∧ xc = -nI e ∧ xm = -nI e ∧ (e = 14 → 1 ≤ n ∧ n ≤ 2))
theorem refuse_c (rn rd : Nat → Int32) (a b : Int32) : J_X9_refuse rn rd a b = some (-nI 14, nI 1, upd rn 0 a, upd rd 0 b) := by
  unfold J_X9_refuse J_X6_start
  simp (disch := omega) only [↓reduceIte, nm_x, chk_nI, chz_0, chz_1, chz_b2, chn_nI, oi_1, oi_2, oi_m1, il_0, il_1, il_2, il_3, il_4, il_5, il_6, il_7, il_8, il_9, il_10, il_11, il_12, il_13, il_14, il_15, il_16, il_32, il_35, il_40, il_41, il_42, il_43, il_44, il_45, il_46, il_48, il_57, il_58, il_59, il_60, il_99, il_104, il_115, il_116, il_119, il_126, il_133, il_255, il_256, il_512, il_931, il_1000, il_65536, bn0, bn1, bn2, bn3, bn4, bn5, bn6, bn7, bn8, bn9, bn10, bn11, bn12, bn13, bn14, bn15, nI_leI, nI_ltI, nI_eq, nI_clamp, nI_add, pk_mul, nI_lt0, ng_lt0, ng_ge0, ng_eqn, ng_neq, ng_len, ng_eq, sV_m1, sV_lt0, sV_ge0, if_true, if_false, Nat.le_refl, Nat.lt_irrefl, Nat.not_lt_zero, Nat.zero_le, not_true_eq_false, not_false_eq_true, false_and, true_and, and_true, and_false, true_or, or_true, false_or, or_false, reduceCtorEq]
theorem refuse_m (wy mo : Nat → Int32) (a b : Int32) : J_X10_refuses wy mo a b = some (-nI 14, nI 1, upd wy 0 a, upd mo 0 b) := by
  unfold J_X10_refuses
  simp (disch := omega) only [↓reduceIte, nm_x, chk_nI, chz_0, chz_1, chz_b2, chn_nI, oi_1, oi_2, oi_m1, il_0, il_1, il_2, il_3, il_4, il_5, il_6, il_7, il_8, il_9, il_10, il_11, il_12, il_13, il_14, il_15, il_16, il_32, il_35, il_40, il_41, il_42, il_43, il_44, il_45, il_46, il_48, il_57, il_58, il_59, il_60, il_99, il_104, il_115, il_116, il_119, il_126, il_133, il_255, il_256, il_512, il_931, il_1000, il_65536, bn0, bn1, bn2, bn3, bn4, bn5, bn6, bn7, bn8, bn9, bn10, bn11, bn12, bn13, bn14, bn15, nI_leI, nI_ltI, nI_eq, nI_clamp, nI_add, pk_mul, nI_lt0, ng_lt0, ng_ge0, ng_eqn, ng_neq, ng_len, ng_eq, sV_m1, sV_lt0, sV_ge0, if_true, if_false, Nat.le_refl, Nat.lt_irrefl, Nat.not_lt_zero, Nat.zero_le, not_true_eq_false, not_false_eq_true, false_and, true_and, and_true, and_false, true_or, or_true, false_or, or_false, reduceCtorEq]
theorem RR_1 (rn rd wy mo : Nat → Int32) (a b : Int32) : RR 1 (nI 1) (upd rn 0 a) (upd rd 0 b) (nI 1) (upd wy 0 a) (upd mo 0 b) := ⟨by omega, rfl, rfl, fun i hi => by
  obtain rfl : i = 0 := by omega
  exact ⟨rfl, rfl⟩⟩
theorem behind_c (rn rd : Nat → Int32) (a b : Int32) : J_X6_putBehind (nI 1) rn rd a b = some (nI 2, upd rn 1 a, upd rd 1 b) := by
  unfold J_X6_putBehind J_X6_putBehind_b45
  simp (disch := omega) only [↓reduceIte, nm_x, chk_nI, chz_0, chz_1, chz_b2, chn_nI, oi_1, oi_2, oi_m1, il_0, il_1, il_2, il_3, il_4, il_5, il_6, il_7, il_8, il_9, il_10, il_11, il_12, il_13, il_14, il_15, il_16, il_32, il_35, il_40, il_41, il_42, il_43, il_44, il_45, il_46, il_48, il_57, il_58, il_59, il_60, il_99, il_104, il_115, il_116, il_119, il_126, il_133, il_255, il_256, il_512, il_931, il_1000, il_65536, bn0, bn1, bn2, bn3, bn4, bn5, bn6, bn7, bn8, bn9, bn10, bn11, bn12, bn13, bn14, bn15, nI_leI, nI_ltI, nI_eq, nI_clamp, nI_add, pk_mul, nI_lt0, ng_lt0, ng_ge0, ng_eqn, ng_neq, ng_len, ng_eq, sV_m1, sV_lt0, sV_ge0, if_true, if_false, Nat.le_refl, Nat.lt_irrefl, Nat.not_lt_zero, Nat.zero_le, not_true_eq_false, not_false_eq_true, false_and, true_and, and_true, and_false, true_or, or_true, false_or, or_false, reduceCtorEq, show ¬ 3 ≤ 1 by omega]
theorem behind_m (wy mo : Nat → Int32) (a b : Int32) : J_X10_behind (nI 1) wy mo a b = some (-nI 14, nI 2, upd wy 1 a, upd mo 1 b) := by
  unfold J_X10_behind
  simp (disch := omega) only [↓reduceIte, nm_x, chk_nI, chz_0, chz_1, chz_b2, chn_nI, oi_1, oi_2, oi_m1, il_0, il_1, il_2, il_3, il_4, il_5, il_6, il_7, il_8, il_9, il_10, il_11, il_12, il_13, il_14, il_15, il_16, il_32, il_35, il_40, il_41, il_42, il_43, il_44, il_45, il_46, il_48, il_57, il_58, il_59, il_60, il_99, il_104, il_115, il_116, il_119, il_126, il_133, il_255, il_256, il_512, il_931, il_1000, il_65536, bn0, bn1, bn2, bn3, bn4, bn5, bn6, bn7, bn8, bn9, bn10, bn11, bn12, bn13, bn14, bn15, nI_leI, nI_ltI, nI_eq, nI_clamp, nI_add, pk_mul, nI_lt0, ng_lt0, ng_ge0, ng_eqn, ng_neq, ng_len, ng_eq, sV_m1, sV_lt0, sV_ge0, if_true, if_false, Nat.le_refl, Nat.lt_irrefl, Nat.not_lt_zero, Nat.zero_le, not_true_eq_false, not_false_eq_true, false_and, true_and, and_true, and_false, true_or, or_true, false_or, or_false, reduceCtorEq]
theorem RR_2 {rc wh : Int32} {rn rd wy mo : Nat → Int32} (h : RR 1 rc rn rd wh wy mo) (a b : Int32) : RR 2 (nI 2) (upd rn 1 a) (upd rd 1 b) (nI 2) (upd wy 1 a) (upd mo 1 b) := ⟨by omega, rfl, rfl, fun i hi => by
  unfold upd
  by_cases e : i = 1
  · rw [if_pos e, if_pos e, if_pos e, if_pos e]; exact ⟨rfl, rfl⟩
  · rw [if_neg e, if_neg e, if_neg e, if_neg e]; exact h.2.2.2 i (by omega)⟩
theorem X9_isPlace_t {p : Nat} (hp : p < 3) : J_X9_isPlace (nI p) = some (nI 1) := by
  unfold J_X9_isPlace J_X9_isPlace_b14
  simp (disch := omega) only [↓reduceIte, nm_x, chk_nI, chz_0, chz_1, chz_b2, chn_nI, oi_1, oi_2, oi_m1, il_0, il_1, il_2, il_3, il_4, il_5, il_6, il_7, il_8, il_9, il_10, il_11, il_12, il_13, il_14, il_15, il_16, il_32, il_35, il_40, il_41, il_42, il_43, il_44, il_45, il_46, il_48, il_57, il_58, il_59, il_60, il_99, il_104, il_115, il_116, il_119, il_126, il_133, il_255, il_256, il_512, il_931, il_1000, il_65536, bn0, bn1, bn2, bn3, bn4, bn5, bn6, bn7, bn8, bn9, bn10, bn11, bn12, bn13, bn14, bn15, nI_leI, nI_ltI, nI_eq, nI_clamp, nI_add, pk_mul, nI_lt0, ng_lt0, ng_ge0, ng_eqn, ng_neq, ng_len, ng_eq, sV_m1, sV_lt0, sV_ge0, if_true, if_false, Nat.le_refl, Nat.lt_irrefl, Nat.not_lt_zero, Nat.zero_le, not_true_eq_false, not_false_eq_true, false_and, true_and, and_true, and_false, true_or, or_true, false_or, or_false, reduceCtorEq, show ¬ 3 ≤ p by omega]
theorem X9_isPlace_f {v : Int32} (h : v < 0 ∨ nI 3 ≤ v) : J_X9_isPlace v = some (nI 0) := by
  unfold J_X9_isPlace J_X9_isPlace_b13 J_X9_isPlace_b14
  rcases h with h | h
  · rw [if_pos h]; simp only [↓reduceIte, nm_x, chk_nI, chz_0, chz_1, chz_b2, chn_nI, oi_1, oi_2, oi_m1, il_0, il_1, il_2, il_3, il_4, il_5, il_6, il_7, il_8, il_9, il_10, il_11, il_12, il_13, il_14, il_15, il_16, il_32, il_35, il_40, il_41, il_42, il_43, il_44, il_45, il_46, il_48, il_57, il_58, il_59, il_60, il_99, il_104, il_115, il_116, il_119, il_126, il_133, il_255, il_256, il_512, il_931, il_1000, il_65536, bn0, bn1, bn2, bn3, bn4, bn5, bn6, bn7, bn8, bn9, bn10, bn11, bn12, bn13, bn14, bn15, nI_leI, nI_ltI, nI_eq, nI_clamp, nI_add, pk_mul, nI_lt0, ng_lt0, ng_ge0, ng_eqn, ng_neq, ng_len, ng_eq, sV_m1, sV_lt0, sV_ge0, if_true, if_false, Nat.le_refl, Nat.lt_irrefl, Nat.not_lt_zero, Nat.zero_le, not_true_eq_false, not_false_eq_true, false_and, true_and, and_true, and_false, true_or, or_true, false_or, or_false, reduceCtorEq]
  · by_cases h0 : v < 0
    · rw [if_pos h0]; simp only [↓reduceIte, nm_x, chk_nI, chz_0, chz_1, chz_b2, chn_nI, oi_1, oi_2, oi_m1, il_0, il_1, il_2, il_3, il_4, il_5, il_6, il_7, il_8, il_9, il_10, il_11, il_12, il_13, il_14, il_15, il_16, il_32, il_35, il_40, il_41, il_42, il_43, il_44, il_45, il_46, il_48, il_57, il_58, il_59, il_60, il_99, il_104, il_115, il_116, il_119, il_126, il_133, il_255, il_256, il_512, il_931, il_1000, il_65536, bn0, bn1, bn2, bn3, bn4, bn5, bn6, bn7, bn8, bn9, bn10, bn11, bn12, bn13, bn14, bn15, nI_leI, nI_ltI, nI_eq, nI_clamp, nI_add, pk_mul, nI_lt0, ng_lt0, ng_ge0, ng_eqn, ng_neq, ng_len, ng_eq, sV_m1, sV_lt0, sV_ge0, if_true, if_false, Nat.le_refl, Nat.lt_irrefl, Nat.not_lt_zero, Nat.zero_le, not_true_eq_false, not_false_eq_true, false_and, true_and, and_true, and_false, true_or, or_true, false_or, or_false, reduceCtorEq]
    · rw [if_neg h0, if_pos (show (3 : Int32) ≤ v from h)]; simp only [↓reduceIte, nm_x, chk_nI, chz_0, chz_1, chz_b2, chn_nI, oi_1, oi_2, oi_m1, il_0, il_1, il_2, il_3, il_4, il_5, il_6, il_7, il_8, il_9, il_10, il_11, il_12, il_13, il_14, il_15, il_16, il_32, il_35, il_40, il_41, il_42, il_43, il_44, il_45, il_46, il_48, il_57, il_58, il_59, il_60, il_99, il_104, il_115, il_116, il_119, il_126, il_133, il_255, il_256, il_512, il_931, il_1000, il_65536, bn0, bn1, bn2, bn3, bn4, bn5, bn6, bn7, bn8, bn9, bn10, bn11, bn12, bn13, bn14, bn15, nI_leI, nI_ltI, nI_eq, nI_clamp, nI_add, pk_mul, nI_lt0, ng_lt0, ng_ge0, ng_eqn, ng_neq, ng_len, ng_eq, sV_m1, sV_lt0, sV_ge0, if_true, if_false, Nat.le_refl, Nat.lt_irrefl, Nat.not_lt_zero, Nat.zero_le, not_true_eq_false, not_false_eq_true, false_and, true_and, and_true, and_false, true_or, or_true, false_or, or_false, reduceCtorEq]
theorem in02_f {v : Int32} (h : v < 0 ∨ nI 3 ≤ v) : J_X10_in v (nI 0) (nI 2) = some (nI 0) := by
  refine X10_in_f ?_
  rcases h with h | h
  · exact Or.inl h
  · right
    rw [fa_le, nI_toInt (by omega)] at h
    rw [fa_lt, nI_toInt (by omega)]
    omega
theorem in02_t {p : Nat} (hp : p < 3) : J_X10_in (nI p) (nI 0) (nI 2) = some (nI 1) := X10_in_t (nI_pos (by omega)) (nI_nlt (by omega) (by omega))
/-! a wire put or cut -/
section SrcUpd
variable {g : Nat → Nat} {l p v : Nat}
theorem srcu_GA (hp : p < 3) {l' w' : Nat} (hw : w' < 4 ∨ w' = 7) : GA (updn g (5 + 8 * l + (4 + p)) v) l' w' = GA g l' w' := updn_GA_ne (by omega) (by omega) (by omega)
theorem srcu_src (hp : p < 3) {l' p' : Nat} (hp' : p' < 3) : src (updn g (5 + 8 * l + (4 + p)) v) l' p' = if l' = l ∧ p' = p then v else src g l' p' := by
  unfold src
  by_cases e : l' = l ∧ p' = p
  · rw [if_pos e, e.1, e.2, updn_GA]
  · rw [if_neg e]
    exact updn_GA_ne (by omega) (by omega) (by omega)
theorem srcu_0 {i : Nat} (hi : i < 5) : updn g (5 + 8 * l + (4 + p)) v i = g i := by unfold updn; rw [if_neg (by omega)]
theorem GV_srcu (hG : GV g) (hl : l < g 0) (hp : p < 3) (hk : GA g l 0 ≠ 0) (hv : v ≤ g 0) : GV (updn g (5 + 8 * l + (4 + p)) v) := by
  have hn := hG.1
  refine ⟨by rw [srcu_0 (by omega)]; exact hn, by rw [srcu_0 (by omega)]; exact hG.2.1, fun l' hl' => ?_, fun l' hl' => ?_, fun l' hl' h0 => ?_, fun i hi hi2 => ?_⟩
  · have h := GV_l hG hl'
    rw [srcu_GA hp (by omega), srcu_GA hp (by omega), srcu_GA hp (by omega), srcu_GA hp (by omega), srcu_0 (by omega)]
    refine ⟨h.1, h.2.1, h.2.2.1, h.2.2.2.1, fun p' hp' => ?_⟩
    rw [srcu_src hp hp']
    split
    · exact hv
    · exact h.2.2.2.2 p' hp'
  · rw [srcu_0 (by omega)] at hl'
    rw [srcu_GA hp (by omega), srcu_GA hp (by omega)]
    exact hG.2.2.2.1 l' hl'
  · rw [srcu_GA hp (by omega)] at h0 ⊢
    refine ⟨(hG.2.2.2.2.1 l' hl' h0).1, fun p' hp' => ?_⟩
    rw [srcu_src hp hp', if_neg (fun e => hk (by rw [← e.1]; exact h0))]
    exact (hG.2.2.2.2.1 l' hl' h0).2 p' hp'
  · rw [srcu_0 (by omega)] at hi
    unfold updn
    rw [if_neg (by omega)]
    exact hG.2.2.2.2.2 i hi hi2
theorem GW_srcu {B : Nat} (hG : GW g B) (hl : l < g 0) (hp : p < 3) (hk : GA g l 0 ≠ 0) (hv : v ≤ g 0) : GW (updn g (5 + 8 * l + (4 + p)) v) B := by
  refine ⟨GV_srcu hG.1 hl hp hk hv, fun l' hl' => by rw [srcu_GA hp (by omega), srcu_GA hp (by omega)]; exact hG.2.1 l' hl', ?_, by rw [srcu_0 (by omega), srcu_0 (by omega)]; exact hG.2.2.2⟩
  rw [srcu_0 (by omega), srcu_0 (by omega), ← hG.2.2.1]
  exact fb_sm_cong fun l' _ => srcu_GA hp (by omega)
theorem CR_srcu {c : Int32} {st : Int64} {al ti tc se : Int32} {k w so ch : Nat → Int32} (hC : CR g c st al ti tc se k w so ch) (hl : l < 16) (hp : p < 3) : CR (updn g (5 + 8 * l + (4 + p)) v) c st al ti tc se k w (upd so (l * 3 + p) (sV v)) ch := by
  obtain ⟨hS, hE, h3, h4, h5, h6, h7⟩ := hC
  refine ⟨⟨by rw [srcu_0 (by omega)]; exact hS.1, fun l' hl' => by rw [srcu_GA hp (by omega)]; exact hS.2.1 l' hl', fun l' hl' => by rw [srcu_GA hp (by omega)]; exact hS.2.2.1 l' hl', fun l' p' hl' hp' => ?_⟩, ⟨fun l' hl' => ?_, fun l' j hl' hj => by rw [srcu_GA hp (by omega)]; exact hE.2 l' j hl' hj⟩, fun l' hl' => by rw [srcu_GA hp (by omega)]; exact h3 l' hl', by rw [srcu_0 (by omega)]; exact h4, by rw [srcu_0 (by omega)]; exact h5, by rw [srcu_0 (by omega)]; exact h6, by rw [srcu_0 (by omega)]; exact h7⟩
  · rw [srcu_src hp hp']
    unfold upd
    by_cases e : l' = l ∧ p' = p
    · rw [if_pos e, if_pos (by rw [e.1, e.2])]
    · rw [if_neg e, if_neg (by omega)]
      exact hS.2.2.2 l' p' hl' hp'
  · unfold gw
    rw [srcu_GA hp (by omega)]
    exact hE.1 l' hl'
theorem X2_connect {c : Int32} {so : Nat → Int32} {n : Nat} (hc : c = nI n) (hn : n ≤ 16) (hl : l < n) (hp : p < 3) (v3 : Int32) : J_X2_connect c so (nI l) (nI p) v3 = some (upd so (l * 3 + p) v3) := by
  unfold J_X2_connect J_X2_connect_b26
  rw [hc, X2_isHung_t hl hn, X9_isPlace_t hp]
  simp (disch := omega) only [↓reduceIte, nm_x, chk_nI, chz_0, chz_1, chz_b2, chn_nI, oi_1, oi_2, oi_m1, il_0, il_1, il_2, il_3, il_4, il_5, il_6, il_7, il_8, il_9, il_10, il_11, il_12, il_13, il_14, il_15, il_16, il_32, il_35, il_40, il_41, il_42, il_43, il_44, il_45, il_46, il_48, il_57, il_58, il_59, il_60, il_99, il_104, il_115, il_116, il_119, il_126, il_133, il_255, il_256, il_512, il_931, il_1000, il_65536, bn0, bn1, bn2, bn3, bn4, bn5, bn6, bn7, bn8, bn9, bn10, bn11, bn12, bn13, bn14, bn15, nI_leI, nI_ltI, nI_eq, nI_clamp, nI_add, pk_mul, nI_lt0, ng_lt0, ng_ge0, ng_eqn, ng_neq, ng_len, ng_eq, sV_m1, sV_lt0, sV_ge0, if_true, if_false, Nat.le_refl, Nat.lt_irrefl, Nat.not_lt_zero, Nat.zero_le, not_true_eq_false, not_false_eq_true, false_and, true_and, and_true, and_false, true_or, or_true, false_or, or_false, reduceCtorEq]
end SrcUpd
/-! a lantern hung up -/
def hgn (g : Nat → Nat) (a b : Nat) : Nat → Nat := fun i => if i = 0 then g 0 + 1 else if i = 5 + 8 * g 0 then a else if i = 5 + 8 * g 0 + 1 then b else g i
section Hang
variable {g : Nat → Nat} {a b : Nat}
theorem hgn_GA (g : Nat → Nat) (a b : Nat) {l w : Nat} (hw : w < 8) : GA (hgn g a b) l w = if l = g 0 ∧ w = 0 then a else if l = g 0 ∧ w = 1 then b else GA g l w := by
  unfold GA hgn
  rw [if_neg (by omega)]
  by_cases e : l = g 0 ∧ w = 0
  · rw [if_pos (by omega), if_pos e]
  · rw [if_neg (by omega), if_neg e]
    by_cases e2 : l = g 0 ∧ w = 1
    · rw [if_pos (by omega), if_pos e2]
    · rw [if_neg (by omega), if_neg e2]
theorem hgn_GA2 (g : Nat → Nat) (a b : Nat) {l w : Nat} (hw : w < 8) (h2 : 2 ≤ w) : GA (hgn g a b) l w = GA g l w := by
  rw [hgn_GA g a b hw, if_neg (by omega), if_neg (by omega)]
theorem hgn_s {i : Nat} (h0 : i ≠ 0) (h5 : i < 5) : hgn g a b i = g i := by unfold hgn; rw [if_neg h0, if_neg (by omega), if_neg (by omega)]
theorem GV_hgn (hG : GV g) (hn : g 0 < 16) (ha : a ≤ 6) (hb : 1 ≤ b) (hb4 : b ≤ 4) : GV (hgn g a b) := by
  have hz : ∀ w, w < 8 → GA g (g 0) w = 0 := fun w hw => hG.2.2.2.2.2 _ (by omega) (by omega)
  have h0 : hgn g a b 0 = g 0 + 1 := if_pos rfl
  refine ⟨by rw [h0]; omega, by rw [hgn_s (by omega) (by omega)]; exact hG.2.1, fun l hl => ?_, fun l hl => ?_, fun l hl hl0 => ?_, fun i hi hi2 => ?_⟩
  · have h := GV_l hG hl
    rw [hgn_GA g a b (by omega), hgn_GA g a b (by omega), hgn_GA2 g a b (by omega) (by omega), hgn_GA2 g a b (by omega) (by omega), h0]
    refine ⟨?_, ?_, h.2.2.1, h.2.2.2.1, fun p hp => ?_⟩
    · split
      · exact ha
      · rw [if_neg (by omega)]; exact h.1
    · rw [if_neg (by omega)]
      split
      · exact hb4
      · exact h.2.1
    · have := h.2.2.2.2 p hp
      have e : src (hgn g a b) l p = src g l p := hgn_GA2 g a b (by omega) (by omega)
      omega
  · rw [h0] at hl
    rw [hgn_GA2 g a b (w := 7) (by omega) (by omega), hgn_GA g a b (w := 1) (by omega), if_neg (by omega)]
    by_cases e : l = g 0
    · rw [if_pos ⟨e, rfl⟩, e, hz 7 (by omega)]
      exact ⟨hb, Nat.two_pow_pos _⟩
    · rw [if_neg (by omega)]
      exact hG.2.2.2.1 l (by omega)
  · rw [hgn_GA2 g a b (w := 7) (by omega) (by omega)]
    have hs : ∀ p, p < 3 → src (hgn g a b) l p = src g l p := fun p hp => hgn_GA2 g a b (by omega) (by omega)
    by_cases e : l = g 0
    · subst e
      exact ⟨hz 7 (by omega), fun p hp => by rw [hs p hp]; exact hz _ (by omega)⟩
    · rw [hgn_GA g a b (by omega), if_neg (by omega), if_neg (by omega)] at hl0
      exact ⟨(hG.2.2.2.2.1 l hl hl0).1, fun p hp => by rw [hs p hp]; exact (hG.2.2.2.2.1 l hl hl0).2 p hp⟩
  · rw [h0] at hi
    unfold hgn
    rw [if_neg (by omega), if_neg (by omega), if_neg (by omega)]
    exact hG.2.2.2.2.2 i (by omega) hi2
theorem GW_hgn {B : Nat} (hG : GW g B) (hn : g 0 < 16) (ha : a ≤ 6) (hb : 1 ≤ b) (hb4 : b ≤ 4) : GW (hgn g a b) B := by
  refine ⟨GV_hgn hG.1 hn ha hb hb4, fun l hl => by rw [hgn_GA2 g a b (by omega) (by omega), hgn_GA2 g a b (by omega) (by omega)]; exact hG.2.1 l hl, ?_, by rw [hgn_s (by omega) (by omega), hgn_s (by omega) (by omega)]; exact hG.2.2.2⟩
  rw [hgn_s (by omega) (by omega), hgn_s (by omega) (by omega), ← hG.2.2.1]
  exact fb_sm_cong fun l _ => hgn_GA2 g a b (by omega) (by omega)
theorem X10_hangs_L (hG : GV g) (hn : g 0 < 16) (ha : a ≤ 6) (hb4 : b ≤ 4) (wh an : Int32) (wy mo : Nat → Int32) : ∀ d nf j (nw : Nat → Int32), j + d = 8 → d < nf → (∀ i, i < 133 → nw i = nI (if i = 0 then g 0 + 1 else g i)) → ∃ nw', J_X10_hangs_L56 (nI a) (nI b) nf wh an nw wy mo (nI (g 0)) (nI j) = some (nI 0, wh, nI (g 0), nw', wy, mo) ∧ MR (hgn g a b) nw' := by
  intro d
  induction d with
  | zero =>
    intro nf j nw hj hd hM
    obtain ⟨m, rfl, -⟩ := nf_of hd
    obtain rfl : j = 8 := by omega
    rw [J_X10_hangs_L56]
    unfold J_X10_does
    simp (disch := omega) only [↓reduceIte, nm_x, chk_nI, chz_0, chz_1, chz_b2, chn_nI, oi_1, oi_2, oi_m1, il_0, il_1, il_2, il_3, il_4, il_5, il_6, il_7, il_8, il_9, il_10, il_11, il_12, il_13, il_14, il_15, il_16, il_32, il_35, il_40, il_41, il_42, il_43, il_44, il_45, il_46, il_48, il_57, il_58, il_59, il_60, il_99, il_104, il_115, il_116, il_119, il_126, il_133, il_255, il_256, il_512, il_931, il_1000, il_65536, bn0, bn1, bn2, bn3, bn4, bn5, bn6, bn7, bn8, bn9, bn10, bn11, bn12, bn13, bn14, bn15, nI_leI, nI_ltI, nI_eq, nI_clamp, nI_add, pk_mul, nI_lt0, ng_lt0, ng_ge0, ng_eqn, ng_neq, ng_len, ng_eq, sV_m1, sV_lt0, sV_ge0, if_true, if_false, Nat.le_refl, Nat.lt_irrefl, Nat.not_lt_zero, Nat.zero_le, not_true_eq_false, not_false_eq_true, false_and, true_and, and_true, and_false, true_or, or_true, false_or, or_false, reduceCtorEq, X10_sets hn (show 0 < 8 by omega), X10_sets hn (show 1 < 8 by omega)]
    refine ⟨_, rfl, fun i hi => ?_⟩
    unfold upd hgn
    by_cases e1 : i = 5 + 8 * g 0 + 1
    · rw [if_pos e1, if_neg (by omega), if_neg (by omega), if_pos e1]
    · rw [if_neg e1]
      by_cases e0 : i = 5 + 8 * g 0
      · rw [if_pos (by omega), if_neg (by omega), if_pos e0]
      · rw [if_neg (by omega), hM i hi]
        by_cases ez : i = 0
        · rw [if_pos ez, if_pos ez]
        · rw [if_neg ez, if_neg ez, if_neg e0, if_neg e1]
  | succ d ih =>
    intro nf j nw hj hd hM
    obtain ⟨m, rfl, hm⟩ := nf_of hd
    rw [J_X10_hangs_L56]
    simp (disch := omega) only [↓reduceIte, nm_x, chk_nI, chz_0, chz_1, chz_b2, chn_nI, oi_1, oi_2, oi_m1, il_0, il_1, il_2, il_3, il_4, il_5, il_6, il_7, il_8, il_9, il_10, il_11, il_12, il_13, il_14, il_15, il_16, il_32, il_35, il_40, il_41, il_42, il_43, il_44, il_45, il_46, il_48, il_57, il_58, il_59, il_60, il_99, il_104, il_115, il_116, il_119, il_126, il_133, il_255, il_256, il_512, il_931, il_1000, il_65536, bn0, bn1, bn2, bn3, bn4, bn5, bn6, bn7, bn8, bn9, bn10, bn11, bn12, bn13, bn14, bn15, nI_leI, nI_ltI, nI_eq, nI_clamp, nI_add, pk_mul, nI_lt0, ng_lt0, ng_ge0, ng_eqn, ng_neq, ng_len, ng_eq, sV_m1, sV_lt0, sV_ge0, if_true, if_false, Nat.le_refl, Nat.lt_irrefl, Nat.not_lt_zero, Nat.zero_le, not_true_eq_false, not_false_eq_true, false_and, true_and, and_true, and_false, true_or, or_true, false_or, or_false, reduceCtorEq, show ¬ 8 ≤ j by omega, X10_sets hn (show j < 8 by omega)]
    refine ih m (j + 1) _ (by omega) hm fun i hi => ?_
    unfold upd
    by_cases e : i = 5 + 8 * g 0 + j
    · rw [if_pos e, if_neg (by omega), e, hG.2.2.2.2.2 _ (by omega) (by omega)]
    · rw [if_neg e]; exact hM i hi
end Hang
section Ops
variable {g : Nat → Nat} {B n : Nat} {c al ti tc se rc wh : Int32} {st : Int64} {k w so ch rn rd nw wy mo : Nat → Int32}
theorem hang_both (hG : GW g B) (hC : CR g c st al ti tc se k w so ch) (hM : MR g nw) (hR : RR n rc rn rd wh wy mo) (an v1 v2 : Int32) : ∃ g' n' xc c' k' w' rc' rn' rd' xm wh' an' nw' wy' mo', J_X9_hangUp c k w rc rn rd v1 v2 = some (xc, c', k', w', rc', rn', rd') ∧ J_X10_hangs wh an nw wy mo v1 v2 = some (xm, wh', an', nw', wy', mo') ∧ CR g' c' st al ti tc se k' w' so ch ∧ MR g' nw' ∧ GW g' B ∧ RR n' rc' rn' rd' wh' wy' mo' ∧ OUT xc xm an' (g' = g) n' := by
  have hn := hG.1.1
  have hc := hC.1.1
  by_cases hv : (v1 < 0 ∨ nI 6 < v1) ∨ (v2 < nI 1 ∨ nI 4 < v2)
  · have e1 : J_X9_hangUp c k w rc rn rd v1 v2 = some (-nI 12, c, k, w, rc, rn, rd) := by
      unfold J_X9_hangUp J_X9_hangUp_b20
      by_cases a1 : v1 < 0
      · rw [if_pos a1, il_12]
      · rw [if_neg a1]
        by_cases a2 : (6 : Int32) < v1
        · rw [if_pos a2, il_12]
        · rw [if_neg a2]
          by_cases a3 : v2 < 1
          · rw [if_pos a3, il_12]
          · have h4 : nI 4 < v2 := by
              rcases hv with (h | h) | (h | h)
              · exact absurd h a1
              · exact absurd h a2
              · exact absurd h a3
              · exact h
            rw [if_neg a3, if_neg (show ¬ v2 ≤ (4 : Int32) from fun h => absurd h (fa_of_lt h4).2.1), il_12]
    have e2 : J_X10_hangs wh an nw wy mo v1 v2 = some (-nI 12, wh, an, nw, wy, mo) := by
      unfold J_X10_hangs J_X10_hangs_b19
      simp only [il_0, il_6, il_1, il_4, il_12]
      by_cases h1 : v1 < nI 0 ∨ nI 6 < v1
      · rw [X10_in_f h1, bn1, if_pos rfl]
      · rw [X10_in_t (fun h => h1 (Or.inl h)) (fun h => h1 (Or.inr h)), bn1, if_neg (by decide +kernel), X10_in_f (hv.resolve_left h1), bn1, if_pos rfl]
    exact ⟨g, n, _, _, _, _, _, _, _, _, _, _, _, _, _, e1, e2, hC, hM, hG, hR, Or.inr ⟨rfl, 12, by omega, by omega, rfl, rfl, fun h => by omega⟩⟩
  · have a1 : ¬ v1 < 0 := fun h => hv (Or.inl (Or.inl h))
    have a2 : ¬ nI 6 < v1 := fun h => hv (Or.inl (Or.inr h))
    have a3 : ¬ v2 < nI 1 := fun h => hv (Or.inr (Or.inl h))
    have a4 : ¬ nI 4 < v2 := fun h => hv (Or.inr (Or.inr h))
    obtain ⟨a, ha, rfl⟩ := nI_of2 (M := nI 6) (n := 6) (nI_toInt (by omega)) a1 (fa_of_nlt a2)
    have a5 : ¬ v2 < 0 := fun h => a3 (by rw [fa_lt] at h ⊢; rw [nI_toInt (by omega)]; rw [il_0, nI_toInt (by omega)] at h; omega)
    obtain ⟨b, hb, rfl⟩ := nI_of2 (M := nI 4) (n := 4) (nI_toInt (by omega)) a5 (fa_of_nlt a4)
    rw [nI_ltI (by omega) (by omega)] at a3
    have in1 : J_X10_in (nI a) (nI 0) (nI 6) = some (nI 1) := X10_in_t (nI_pos (by omega)) (nI_nlt ha (by omega))
    have in2 : J_X10_in (nI b) (nI 1) (nI 4) = some (nI 1) := X10_in_t (nI_nlt (by omega) (by omega)) (nI_nlt hb (by omega))
    by_cases h16 : g 0 = 16
    · have e1 : J_X9_hangUp c k w rc rn rd (nI a) (nI b) = some (-nI 14, c, k, w, nI 1, upd rn 0 (nI 1), upd rd 0 (nI 16)) := by
        unfold J_X9_hangUp J_X9_hangUp_b50 J_X2_add J_X2_add_b15
        rw [hc, h16]
        simp (disch := omega) only [↓reduceIte, nm_x, chk_nI, chz_0, chz_1, chz_b2, chn_nI, oi_1, oi_2, oi_m1, il_0, il_1, il_2, il_3, il_4, il_5, il_6, il_7, il_8, il_9, il_10, il_11, il_12, il_13, il_14, il_15, il_16, il_32, il_35, il_40, il_41, il_42, il_43, il_44, il_45, il_46, il_48, il_57, il_58, il_59, il_60, il_99, il_104, il_115, il_116, il_119, il_126, il_133, il_255, il_256, il_512, il_931, il_1000, il_65536, bn0, bn1, bn2, bn3, bn4, bn5, bn6, bn7, bn8, bn9, bn10, bn11, bn12, bn13, bn14, bn15, nI_leI, nI_ltI, nI_eq, nI_clamp, nI_add, pk_mul, nI_lt0, ng_lt0, ng_ge0, ng_eqn, ng_neq, ng_len, ng_eq, sV_m1, sV_lt0, sV_ge0, if_true, if_false, Nat.le_refl, Nat.lt_irrefl, Nat.not_lt_zero, Nat.zero_le, not_true_eq_false, not_false_eq_true, false_and, true_and, and_true, and_false, true_or, or_true, false_or, or_false, reduceCtorEq, show ¬ 6 < a by omega, show ¬ b < 1 by omega, hb, refuse_c]
      have e2 : J_X10_hangs wh an nw wy mo (nI a) (nI b) = some (-nI 14, nI 1, an, nw, upd wy 0 (nI 1), upd mo 0 (nI 16)) := by
        unfold J_X10_hangs
        simp (disch := omega) only [↓reduceIte, nm_x, chk_nI, chz_0, chz_1, chz_b2, chn_nI, oi_1, oi_2, oi_m1, il_0, il_1, il_2, il_3, il_4, il_5, il_6, il_7, il_8, il_9, il_10, il_11, il_12, il_13, il_14, il_15, il_16, il_32, il_35, il_40, il_41, il_42, il_43, il_44, il_45, il_46, il_48, il_57, il_58, il_59, il_60, il_99, il_104, il_115, il_116, il_119, il_126, il_133, il_255, il_256, il_512, il_931, il_1000, il_65536, bn0, bn1, bn2, bn3, bn4, bn5, bn6, bn7, bn8, bn9, bn10, bn11, bn12, bn13, bn14, bn15, nI_leI, nI_ltI, nI_eq, nI_clamp, nI_add, pk_mul, nI_lt0, ng_lt0, ng_ge0, ng_eqn, ng_neq, ng_len, ng_eq, sV_m1, sV_lt0, sV_ge0, if_true, if_false, Nat.le_refl, Nat.lt_irrefl, Nat.not_lt_zero, Nat.zero_le, not_true_eq_false, not_false_eq_true, false_and, true_and, and_true, and_false, true_or, or_true, false_or, or_false, reduceCtorEq, in1, in2, hM 0 (by omega), h16, refuse_m]
      exact ⟨g, 1, _, _, _, _, _, _, _, _, _, _, _, _, _, e1, e2, hC, hM, hG, RR_1 _ _ _ _ _ _, Or.inr ⟨rfl, 14, by omega, by omega, rfl, rfl, fun _ => by omega⟩⟩
    · have hn16 : g 0 < 16 := by omega
      have e1 : J_X9_hangUp c k w rc rn rd (nI a) (nI b) = some (nI (g 0), nI (g 0 + 1), upd k (g 0) (nI a), upd w (g 0) (nI b), rc, rn, rd) := by
        unfold J_X9_hangUp J_X9_hangUp_b50 J_X2_add
        rw [hc]
        simp (disch := omega) only [↓reduceIte, nm_x, chk_nI, chz_0, chz_1, chz_b2, chn_nI, oi_1, oi_2, oi_m1, il_0, il_1, il_2, il_3, il_4, il_5, il_6, il_7, il_8, il_9, il_10, il_11, il_12, il_13, il_14, il_15, il_16, il_32, il_35, il_40, il_41, il_42, il_43, il_44, il_45, il_46, il_48, il_57, il_58, il_59, il_60, il_99, il_104, il_115, il_116, il_119, il_126, il_133, il_255, il_256, il_512, il_931, il_1000, il_65536, bn0, bn1, bn2, bn3, bn4, bn5, bn6, bn7, bn8, bn9, bn10, bn11, bn12, bn13, bn14, bn15, nI_leI, nI_ltI, nI_eq, nI_clamp, nI_add, pk_mul, nI_lt0, ng_lt0, ng_ge0, ng_eqn, ng_neq, ng_len, ng_eq, sV_m1, sV_lt0, sV_ge0, if_true, if_false, Nat.le_refl, Nat.lt_irrefl, Nat.not_lt_zero, Nat.zero_le, not_true_eq_false, not_false_eq_true, false_and, true_and, and_true, and_false, true_or, or_true, false_or, or_false, reduceCtorEq, show ¬ 6 < a by omega, show ¬ b < 1 by omega, hb, hn16]
      obtain ⟨nw', e3, h3⟩ := X10_hangs_L hG.1 hn16 ha hb wh an wy mo 8 FU 0 (upd nw 0 (nI (g 0 + 1))) rfl (by unfold FU; omega) (fun i hi => by
        unfold upd
        by_cases e : i = 0
        · rw [if_pos e, if_pos e]
        · rw [if_neg e, if_neg e]; exact hM i hi)
      have e2 : J_X10_hangs wh an nw wy mo (nI a) (nI b) = some (nI 0, wh, nI (g 0), nw', wy, mo) := by
        unfold J_X10_hangs
        simp (disch := omega) only [↓reduceIte, nm_x, chk_nI, chz_0, chz_1, chz_b2, chn_nI, oi_1, oi_2, oi_m1, il_0, il_1, il_2, il_3, il_4, il_5, il_6, il_7, il_8, il_9, il_10, il_11, il_12, il_13, il_14, il_15, il_16, il_32, il_35, il_40, il_41, il_42, il_43, il_44, il_45, il_46, il_48, il_57, il_58, il_59, il_60, il_99, il_104, il_115, il_116, il_119, il_126, il_133, il_255, il_256, il_512, il_931, il_1000, il_65536, bn0, bn1, bn2, bn3, bn4, bn5, bn6, bn7, bn8, bn9, bn10, bn11, bn12, bn13, bn14, bn15, nI_leI, nI_ltI, nI_eq, nI_clamp, nI_add, pk_mul, nI_lt0, ng_lt0, ng_ge0, ng_eqn, ng_neq, ng_len, ng_eq, sV_m1, sV_lt0, sV_ge0, if_true, if_false, Nat.le_refl, Nat.lt_irrefl, Nat.not_lt_zero, Nat.zero_le, not_true_eq_false, not_false_eq_true, false_and, true_and, and_true, and_false, true_or, or_true, false_or, or_false, reduceCtorEq, in1, in2, hM 0 (by omega), h16]
        exact e3
      obtain ⟨hS, hE, h4, h5, h6, h7, h8⟩ := hC
      refine ⟨hgn g a b, n, _, _, _, _, _, _, _, _, _, _, _, _, _, e1, e2, ⟨⟨rfl, fun l hl => ?_, fun l hl => ?_, fun l p hl hp => ?_⟩, ⟨fun l hl => ?_, fun l j hl hj => ?_⟩, fun l hl => ?_, ?_, ?_, ?_, ?_⟩, h3, GW_hgn hG hn16 ha (by omega) hb, hR, Or.inl ⟨g 0, by omega, rfl, rfl, rfl⟩⟩
      · rw [hgn_GA g a b (by omega)]
        unfold upd
        by_cases e : l = g 0
        · rw [if_pos e, if_pos ⟨e, rfl⟩]
        · rw [if_neg e, if_neg (by omega), if_neg (by omega)]; exact hS.2.1 l hl
      · rw [hgn_GA g a b (by omega), if_neg (by omega)]
        unfold upd
        by_cases e : l = g 0
        · rw [if_pos e, if_pos ⟨e, rfl⟩]
        · rw [if_neg e, if_neg (by omega)]; exact hS.2.2.1 l hl
      · rw [show src (hgn g a b) l p = src g l p from hgn_GA2 g a b (by omega) (by omega)]; exact hS.2.2.2 l p hl hp
      · unfold gw; rw [hgn_GA2 g a b (by omega) (by omega)]; exact hE.1 l hl
      · rw [hgn_GA2 g a b (by omega) (by omega)]; exact hE.2 l j hl hj
      · rw [hgn_GA2 g a b (by omega) (by omega)]; exact h4 l hl
      · rw [hgn_s (by omega) (by omega)]; exact h5
      · rw [hgn_s (by omega) (by omega)]; exact h6
      · rw [hgn_s (by omega) (by omega)]; exact h7
      · rw [hgn_s (by omega) (by omega)]; exact h8
/-- what wires that are put and wires that are cut are refused for -/
theorem place_c (hG : GW g B) (hC : CR g c st al ti tc se k w so ch) {l p : Nat} (hl : l < g 0) (hp : p < 3) (rc : Int32) (rn rd : Nat → Int32) : J_X9_isPlaceRefused c k rc rn rd (nI l) (nI p) = if GA g l 0 = 0 then some (nI 1, nI 1, upd rn 0 (nI 2), upd rd 0 (nI l)) else if plc (GA g l 0) ≤ p then some (nI 1, nI 1, upd rn 0 (nI 3), upd rd 0 (nI (plc (GA g l 0)))) else some (nI 0, rc, rn, rd) := by
  have h6 := (GV_l hG.1 (show l < 16 by have := hG.1.1; omega)).1
  have h3 := plc_le (GA g l 0)
  unfold J_X9_isPlaceRefused
  rw [X2_isSwitch hG.1 hC.1 hl, X2_kindOf hG.1 hC.1 hl]
  simp (disch := omega) only [↓reduceIte, nm_x, chk_nI, chz_0, chz_1, chz_b2, chn_nI, oi_1, oi_2, oi_m1, il_0, il_1, il_2, il_3, il_4, il_5, il_6, il_7, il_8, il_9, il_10, il_11, il_12, il_13, il_14, il_15, il_16, il_32, il_35, il_40, il_41, il_42, il_43, il_44, il_45, il_46, il_48, il_57, il_58, il_59, il_60, il_99, il_104, il_115, il_116, il_119, il_126, il_133, il_255, il_256, il_512, il_931, il_1000, il_65536, bn0, bn1, bn2, bn3, bn4, bn5, bn6, bn7, bn8, bn9, bn10, bn11, bn12, bn13, bn14, bn15, nI_leI, nI_ltI, nI_eq, nI_clamp, nI_add, pk_mul, nI_lt0, ng_lt0, ng_ge0, ng_eqn, ng_neq, ng_len, ng_eq, sV_m1, sV_lt0, sV_ge0, if_true, if_false, Nat.le_refl, Nat.lt_irrefl, Nat.not_lt_zero, Nat.zero_le, not_true_eq_false, not_false_eq_true, false_and, true_and, and_true, and_false, true_or, or_true, false_or, or_false, reduceCtorEq, b2_0, decide_eq_false_iff_not, X9_placesOf h6, refuse_c]
  by_cases h0 : GA g l 0 = 0
  · rw [if_neg (by simpa using h0), if_pos h0]
  · rw [if_pos h0, if_neg h0]
    by_cases hpl : p < plc (GA g l 0)
    · rw [if_pos hpl, if_neg (by omega)]
    · rw [if_neg hpl, if_pos (by omega)]
theorem cut_both (hG : GW g B) (hC : CR g c st al ti tc se k w so ch) (hM : MR g nw) (hR : RR n rc rn rd wh wy mo) (an v1 v2 : Int32) : ∃ g' n' xc so' rc' rn' rd' xm wh' an' nw' wy' mo', J_X9_cutWire c k so rc rn rd v1 v2 = some (xc, so', rc', rn', rd') ∧ J_X10_cuts wh an nw wy mo v1 v2 = some (xm, wh', an', nw', wy', mo') ∧ CR g' c st al ti tc se k w so' ch ∧ MR g' nw' ∧ GW g' B ∧ RR n' rc' rn' rd' wh' wy' mo' ∧ OUT xc xm an' (g' = g) n' := by
  have hn := hG.1.1
  have hc := hC.1.1
  rcases pk_ix v1 (n := g 0) (by omega) with h | h | ⟨l, hl, rfl⟩
  · have e1 : J_X9_cutWire c k so rc rn rd v1 v2 = some (-nI 11, so, rc, rn, rd) := by
      unfold J_X9_cutWire
      rw [hc, X2_isHung_f (Or.inl h)]
      simp (disch := omega) only [↓reduceIte, nm_x, chk_nI, chz_0, chz_1, chz_b2, chn_nI, oi_1, oi_2, oi_m1, il_0, il_1, il_2, il_3, il_4, il_5, il_6, il_7, il_8, il_9, il_10, il_11, il_12, il_13, il_14, il_15, il_16, il_32, il_35, il_40, il_41, il_42, il_43, il_44, il_45, il_46, il_48, il_57, il_58, il_59, il_60, il_99, il_104, il_115, il_116, il_119, il_126, il_133, il_255, il_256, il_512, il_931, il_1000, il_65536, bn0, bn1, bn2, bn3, bn4, bn5, bn6, bn7, bn8, bn9, bn10, bn11, bn12, bn13, bn14, bn15, nI_leI, nI_ltI, nI_eq, nI_clamp, nI_add, pk_mul, nI_lt0, ng_lt0, ng_ge0, ng_eqn, ng_neq, ng_len, ng_eq, sV_m1, sV_lt0, sV_ge0, if_true, if_false, Nat.le_refl, Nat.lt_irrefl, Nat.not_lt_zero, Nat.zero_le, not_true_eq_false, not_false_eq_true, false_and, true_and, and_true, and_false, true_or, or_true, false_or, or_false, reduceCtorEq]
    have e2 : J_X10_cuts wh an nw wy mo v1 v2 = some (-nI 11, wh, an, nw, wy, mo) := by
      unfold J_X10_cuts
      rw [X10_isLantern_f hG.1 hM (Or.inl h)]
      simp (disch := omega) only [↓reduceIte, nm_x, chk_nI, chz_0, chz_1, chz_b2, chn_nI, oi_1, oi_2, oi_m1, il_0, il_1, il_2, il_3, il_4, il_5, il_6, il_7, il_8, il_9, il_10, il_11, il_12, il_13, il_14, il_15, il_16, il_32, il_35, il_40, il_41, il_42, il_43, il_44, il_45, il_46, il_48, il_57, il_58, il_59, il_60, il_99, il_104, il_115, il_116, il_119, il_126, il_133, il_255, il_256, il_512, il_931, il_1000, il_65536, bn0, bn1, bn2, bn3, bn4, bn5, bn6, bn7, bn8, bn9, bn10, bn11, bn12, bn13, bn14, bn15, nI_leI, nI_ltI, nI_eq, nI_clamp, nI_add, pk_mul, nI_lt0, ng_lt0, ng_ge0, ng_eqn, ng_neq, ng_len, ng_eq, sV_m1, sV_lt0, sV_ge0, if_true, if_false, Nat.le_refl, Nat.lt_irrefl, Nat.not_lt_zero, Nat.zero_le, not_true_eq_false, not_false_eq_true, false_and, true_and, and_true, and_false, true_or, or_true, false_or, or_false, reduceCtorEq]
    exact ⟨g, n, _, _, _, _, _, _, _, _, _, _, _, e1, e2, hC, hM, hG, hR, Or.inr ⟨rfl, 11, by omega, by omega, rfl, rfl, fun h => by omega⟩⟩
  · have e1 : J_X9_cutWire c k so rc rn rd v1 v2 = some (-nI 11, so, rc, rn, rd) := by
      unfold J_X9_cutWire
      rw [hc, X2_isHung_f (Or.inr h)]
      simp (disch := omega) only [↓reduceIte, nm_x, chk_nI, chz_0, chz_1, chz_b2, chn_nI, oi_1, oi_2, oi_m1, il_0, il_1, il_2, il_3, il_4, il_5, il_6, il_7, il_8, il_9, il_10, il_11, il_12, il_13, il_14, il_15, il_16, il_32, il_35, il_40, il_41, il_42, il_43, il_44, il_45, il_46, il_48, il_57, il_58, il_59, il_60, il_99, il_104, il_115, il_116, il_119, il_126, il_133, il_255, il_256, il_512, il_931, il_1000, il_65536, bn0, bn1, bn2, bn3, bn4, bn5, bn6, bn7, bn8, bn9, bn10, bn11, bn12, bn13, bn14, bn15, nI_leI, nI_ltI, nI_eq, nI_clamp, nI_add, pk_mul, nI_lt0, ng_lt0, ng_ge0, ng_eqn, ng_neq, ng_len, ng_eq, sV_m1, sV_lt0, sV_ge0, if_true, if_false, Nat.le_refl, Nat.lt_irrefl, Nat.not_lt_zero, Nat.zero_le, not_true_eq_false, not_false_eq_true, false_and, true_and, and_true, and_false, true_or, or_true, false_or, or_false, reduceCtorEq]
    have e2 : J_X10_cuts wh an nw wy mo v1 v2 = some (-nI 11, wh, an, nw, wy, mo) := by
      unfold J_X10_cuts
      rw [X10_isLantern_f hG.1 hM (Or.inr h)]
      simp (disch := omega) only [↓reduceIte, nm_x, chk_nI, chz_0, chz_1, chz_b2, chn_nI, oi_1, oi_2, oi_m1, il_0, il_1, il_2, il_3, il_4, il_5, il_6, il_7, il_8, il_9, il_10, il_11, il_12, il_13, il_14, il_15, il_16, il_32, il_35, il_40, il_41, il_42, il_43, il_44, il_45, il_46, il_48, il_57, il_58, il_59, il_60, il_99, il_104, il_115, il_116, il_119, il_126, il_133, il_255, il_256, il_512, il_931, il_1000, il_65536, bn0, bn1, bn2, bn3, bn4, bn5, bn6, bn7, bn8, bn9, bn10, bn11, bn12, bn13, bn14, bn15, nI_leI, nI_ltI, nI_eq, nI_clamp, nI_add, pk_mul, nI_lt0, ng_lt0, ng_ge0, ng_eqn, ng_neq, ng_len, ng_eq, sV_m1, sV_lt0, sV_ge0, if_true, if_false, Nat.le_refl, Nat.lt_irrefl, Nat.not_lt_zero, Nat.zero_le, not_true_eq_false, not_false_eq_true, false_and, true_and, and_true, and_false, true_or, or_true, false_or, or_false, reduceCtorEq]
    exact ⟨g, n, _, _, _, _, _, _, _, _, _, _, _, e1, e2, hC, hM, hG, hR, Or.inr ⟨rfl, 11, by omega, by omega, rfl, rfl, fun h => by omega⟩⟩
  · have hl16 : l < 16 := by omega
    have hh : J_X2_isHung c (nI l) = some (nI 1) := by rw [hc]; exact X2_isHung_t hl hn
    have hlt := X10_isLantern_t hG.1 hM hl
    have bad : (v2 < 0 ∨ nI 3 ≤ v2) → ∃ g' n' xc so' rc' rn' rd' xm wh' an' nw' wy' mo', J_X9_cutWire c k so rc rn rd (nI l) v2 = some (xc, so', rc', rn', rd') ∧ J_X10_cuts wh an nw wy mo (nI l) v2 = some (xm, wh', an', nw', wy', mo') ∧ CR g' c st al ti tc se k w so' ch ∧ MR g' nw' ∧ GW g' B ∧ RR n' rc' rn' rd' wh' wy' mo' ∧ OUT xc xm an' (g' = g) n' := fun h => by
      have e1 : J_X9_cutWire c k so rc rn rd (nI l) v2 = some (-nI 12, so, rc, rn, rd) := by
        unfold J_X9_cutWire
        rw [hh, X9_isPlace_f h]
        simp (disch := omega) only [↓reduceIte, nm_x, chk_nI, chz_0, chz_1, chz_b2, chn_nI, oi_1, oi_2, oi_m1, il_0, il_1, il_2, il_3, il_4, il_5, il_6, il_7, il_8, il_9, il_10, il_11, il_12, il_13, il_14, il_15, il_16, il_32, il_35, il_40, il_41, il_42, il_43, il_44, il_45, il_46, il_48, il_57, il_58, il_59, il_60, il_99, il_104, il_115, il_116, il_119, il_126, il_133, il_255, il_256, il_512, il_931, il_1000, il_65536, bn0, bn1, bn2, bn3, bn4, bn5, bn6, bn7, bn8, bn9, bn10, bn11, bn12, bn13, bn14, bn15, nI_leI, nI_ltI, nI_eq, nI_clamp, nI_add, pk_mul, nI_lt0, ng_lt0, ng_ge0, ng_eqn, ng_neq, ng_len, ng_eq, sV_m1, sV_lt0, sV_ge0, if_true, if_false, Nat.le_refl, Nat.lt_irrefl, Nat.not_lt_zero, Nat.zero_le, not_true_eq_false, not_false_eq_true, false_and, true_and, and_true, and_false, true_or, or_true, false_or, or_false, reduceCtorEq]
      have e2 : J_X10_cuts wh an nw wy mo (nI l) v2 = some (-nI 12, wh, an, nw, wy, mo) := by
        unfold J_X10_cuts
        rw [hlt]
        simp (disch := omega) only [↓reduceIte, nm_x, chk_nI, chz_0, chz_1, chz_b2, chn_nI, oi_1, oi_2, oi_m1, il_0, il_1, il_2, il_3, il_4, il_5, il_6, il_7, il_8, il_9, il_10, il_11, il_12, il_13, il_14, il_15, il_16, il_32, il_35, il_40, il_41, il_42, il_43, il_44, il_45, il_46, il_48, il_57, il_58, il_59, il_60, il_99, il_104, il_115, il_116, il_119, il_126, il_133, il_255, il_256, il_512, il_931, il_1000, il_65536, bn0, bn1, bn2, bn3, bn4, bn5, bn6, bn7, bn8, bn9, bn10, bn11, bn12, bn13, bn14, bn15, nI_leI, nI_ltI, nI_eq, nI_clamp, nI_add, pk_mul, nI_lt0, ng_lt0, ng_ge0, ng_eqn, ng_neq, ng_len, ng_eq, sV_m1, sV_lt0, sV_ge0, if_true, if_false, Nat.le_refl, Nat.lt_irrefl, Nat.not_lt_zero, Nat.zero_le, not_true_eq_false, not_false_eq_true, false_and, true_and, and_true, and_false, true_or, or_true, false_or, or_false, reduceCtorEq, in02_f h]
      exact ⟨g, n, _, _, _, _, _, _, _, _, _, _, _, e1, e2, hC, hM, hG, hR, Or.inr ⟨rfl, 12, by omega, by omega, rfl, rfl, fun h => by omega⟩⟩
    rcases pk_ix v2 (n := 3) (by omega) with h | h | ⟨p, hp, rfl⟩
    · exact bad (Or.inl h)
    · exact bad (Or.inr h)
    · have hpc := place_c hG hC hl hp rc rn rd
      have hsm := X10_isSwitch hG.1 hM hl16
      have hplm := X10_places hG.1 hM hl16
      have hwm := X10_wired hM hl16 hp
      have hsc := X2_sourceOf hC.1 hl16 hp
      have hsr := GV_src hG.1 hl16 hp
      have hpl3 := plc_le (GA g l 0)
      by_cases h0 : GA g l 0 = 0
      · rw [if_pos h0] at hpc
        rw [decide_eq_true h0, b2_t] at hsm
        have e1 : J_X9_cutWire c k so rc rn rd (nI l) (nI p) = some (-nI 14, so, nI 1, upd rn 0 (nI 2), upd rd 0 (nI l)) := by
          unfold J_X9_cutWire
          rw [hh, X9_isPlace_t hp, hpc]
          simp (disch := omega) only [↓reduceIte, nm_x, chk_nI, chz_0, chz_1, chz_b2, chn_nI, oi_1, oi_2, oi_m1, il_0, il_1, il_2, il_3, il_4, il_5, il_6, il_7, il_8, il_9, il_10, il_11, il_12, il_13, il_14, il_15, il_16, il_32, il_35, il_40, il_41, il_42, il_43, il_44, il_45, il_46, il_48, il_57, il_58, il_59, il_60, il_99, il_104, il_115, il_116, il_119, il_126, il_133, il_255, il_256, il_512, il_931, il_1000, il_65536, bn0, bn1, bn2, bn3, bn4, bn5, bn6, bn7, bn8, bn9, bn10, bn11, bn12, bn13, bn14, bn15, nI_leI, nI_ltI, nI_eq, nI_clamp, nI_add, pk_mul, nI_lt0, ng_lt0, ng_ge0, ng_eqn, ng_neq, ng_len, ng_eq, sV_m1, sV_lt0, sV_ge0, if_true, if_false, Nat.le_refl, Nat.lt_irrefl, Nat.not_lt_zero, Nat.zero_le, not_true_eq_false, not_false_eq_true, false_and, true_and, and_true, and_false, true_or, or_true, false_or, or_false, reduceCtorEq]
        have e2 : J_X10_cuts wh an nw wy mo (nI l) (nI p) = some (-nI 14, nI 1, an, nw, upd wy 0 (nI 2), upd mo 0 (nI l)) := by
          unfold J_X10_cuts
          rw [hlt]
          simp (disch := omega) only [↓reduceIte, nm_x, chk_nI, chz_0, chz_1, chz_b2, chn_nI, oi_1, oi_2, oi_m1, il_0, il_1, il_2, il_3, il_4, il_5, il_6, il_7, il_8, il_9, il_10, il_11, il_12, il_13, il_14, il_15, il_16, il_32, il_35, il_40, il_41, il_42, il_43, il_44, il_45, il_46, il_48, il_57, il_58, il_59, il_60, il_99, il_104, il_115, il_116, il_119, il_126, il_133, il_255, il_256, il_512, il_931, il_1000, il_65536, bn0, bn1, bn2, bn3, bn4, bn5, bn6, bn7, bn8, bn9, bn10, bn11, bn12, bn13, bn14, bn15, nI_leI, nI_ltI, nI_eq, nI_clamp, nI_add, pk_mul, nI_lt0, ng_lt0, ng_ge0, ng_eqn, ng_neq, ng_len, ng_eq, sV_m1, sV_lt0, sV_ge0, if_true, if_false, Nat.le_refl, Nat.lt_irrefl, Nat.not_lt_zero, Nat.zero_le, not_true_eq_false, not_false_eq_true, false_and, true_and, and_true, and_false, true_or, or_true, false_or, or_false, reduceCtorEq, in02_t hp, hsm, refuse_m]
        exact ⟨g, 1, _, _, _, _, _, _, _, _, _, _, _, e1, e2, hC, hM, hG, RR_1 _ _ _ _ _ _, Or.inr ⟨rfl, 14, by omega, by omega, rfl, rfl, fun _ => by omega⟩⟩
      · rw [if_neg h0] at hpc
        rw [decide_eq_false h0, b2_f] at hsm
        by_cases hpl : plc (GA g l 0) ≤ p
        · rw [if_pos hpl] at hpc
          have e1 : J_X9_cutWire c k so rc rn rd (nI l) (nI p) = some (-nI 14, so, nI 1, upd rn 0 (nI 3), upd rd 0 (nI (plc (GA g l 0)))) := by
            unfold J_X9_cutWire
            rw [hh, X9_isPlace_t hp, hpc]
            simp (disch := omega) only [↓reduceIte, nm_x, chk_nI, chz_0, chz_1, chz_b2, chn_nI, oi_1, oi_2, oi_m1, il_0, il_1, il_2, il_3, il_4, il_5, il_6, il_7, il_8, il_9, il_10, il_11, il_12, il_13, il_14, il_15, il_16, il_32, il_35, il_40, il_41, il_42, il_43, il_44, il_45, il_46, il_48, il_57, il_58, il_59, il_60, il_99, il_104, il_115, il_116, il_119, il_126, il_133, il_255, il_256, il_512, il_931, il_1000, il_65536, bn0, bn1, bn2, bn3, bn4, bn5, bn6, bn7, bn8, bn9, bn10, bn11, bn12, bn13, bn14, bn15, nI_leI, nI_ltI, nI_eq, nI_clamp, nI_add, pk_mul, nI_lt0, ng_lt0, ng_ge0, ng_eqn, ng_neq, ng_len, ng_eq, sV_m1, sV_lt0, sV_ge0, if_true, if_false, Nat.le_refl, Nat.lt_irrefl, Nat.not_lt_zero, Nat.zero_le, not_true_eq_false, not_false_eq_true, false_and, true_and, and_true, and_false, true_or, or_true, false_or, or_false, reduceCtorEq]
          have e2 : J_X10_cuts wh an nw wy mo (nI l) (nI p) = some (-nI 14, nI 1, an, nw, upd wy 0 (nI 3), upd mo 0 (nI (plc (GA g l 0)))) := by
            unfold J_X10_cuts
            rw [hlt]
            simp (disch := omega) only [↓reduceIte, nm_x, chk_nI, chz_0, chz_1, chz_b2, chn_nI, oi_1, oi_2, oi_m1, il_0, il_1, il_2, il_3, il_4, il_5, il_6, il_7, il_8, il_9, il_10, il_11, il_12, il_13, il_14, il_15, il_16, il_32, il_35, il_40, il_41, il_42, il_43, il_44, il_45, il_46, il_48, il_57, il_58, il_59, il_60, il_99, il_104, il_115, il_116, il_119, il_126, il_133, il_255, il_256, il_512, il_931, il_1000, il_65536, bn0, bn1, bn2, bn3, bn4, bn5, bn6, bn7, bn8, bn9, bn10, bn11, bn12, bn13, bn14, bn15, nI_leI, nI_ltI, nI_eq, nI_clamp, nI_add, pk_mul, nI_lt0, ng_lt0, ng_ge0, ng_eqn, ng_neq, ng_len, ng_eq, sV_m1, sV_lt0, sV_ge0, if_true, if_false, Nat.le_refl, Nat.lt_irrefl, Nat.not_lt_zero, Nat.zero_le, not_true_eq_false, not_false_eq_true, false_and, true_and, and_true, and_false, true_or, or_true, false_or, or_false, reduceCtorEq, in02_t hp, hsm, refuse_m, hplm, show ¬ p < plc (GA g l 0) by omega]
          exact ⟨g, 1, _, _, _, _, _, _, _, _, _, _, _, e1, e2, hC, hM, hG, RR_1 _ _ _ _ _ _, Or.inr ⟨rfl, 14, by omega, by omega, rfl, rfl, fun _ => by omega⟩⟩
        · rw [if_neg hpl] at hpc
          by_cases hs : src g l p = 0
          · have e1 : J_X9_cutWire c k so rc rn rd (nI l) (nI p) = some (-nI 14, so, nI 1, upd rn 0 (nI 5), upd rd 0 (nI p)) := by
              unfold J_X9_cutWire
              rw [hh, X9_isPlace_t hp, hpc, hsc]
              simp (disch := omega) only [↓reduceIte, nm_x, chk_nI, chz_0, chz_1, chz_b2, chn_nI, oi_1, oi_2, oi_m1, il_0, il_1, il_2, il_3, il_4, il_5, il_6, il_7, il_8, il_9, il_10, il_11, il_12, il_13, il_14, il_15, il_16, il_32, il_35, il_40, il_41, il_42, il_43, il_44, il_45, il_46, il_48, il_57, il_58, il_59, il_60, il_99, il_104, il_115, il_116, il_119, il_126, il_133, il_255, il_256, il_512, il_931, il_1000, il_65536, bn0, bn1, bn2, bn3, bn4, bn5, bn6, bn7, bn8, bn9, bn10, bn11, bn12, bn13, bn14, bn15, nI_leI, nI_ltI, nI_eq, nI_clamp, nI_add, pk_mul, nI_lt0, ng_lt0, ng_ge0, ng_eqn, ng_neq, ng_len, ng_eq, sV_m1, sV_lt0, sV_ge0, if_true, if_false, Nat.le_refl, Nat.lt_irrefl, Nat.not_lt_zero, Nat.zero_le, not_true_eq_false, not_false_eq_true, false_and, true_and, and_true, and_false, true_or, or_true, false_or, or_false, reduceCtorEq, hs, refuse_c]
            have e2 : J_X10_cuts wh an nw wy mo (nI l) (nI p) = some (-nI 14, nI 1, an, nw, upd wy 0 (nI 5), upd mo 0 (nI p)) := by
              unfold J_X10_cuts
              rw [hlt]
              simp (disch := omega) only [↓reduceIte, nm_x, chk_nI, chz_0, chz_1, chz_b2, chn_nI, oi_1, oi_2, oi_m1, il_0, il_1, il_2, il_3, il_4, il_5, il_6, il_7, il_8, il_9, il_10, il_11, il_12, il_13, il_14, il_15, il_16, il_32, il_35, il_40, il_41, il_42, il_43, il_44, il_45, il_46, il_48, il_57, il_58, il_59, il_60, il_99, il_104, il_115, il_116, il_119, il_126, il_133, il_255, il_256, il_512, il_931, il_1000, il_65536, bn0, bn1, bn2, bn3, bn4, bn5, bn6, bn7, bn8, bn9, bn10, bn11, bn12, bn13, bn14, bn15, nI_leI, nI_ltI, nI_eq, nI_clamp, nI_add, pk_mul, nI_lt0, ng_lt0, ng_ge0, ng_eqn, ng_neq, ng_len, ng_eq, sV_m1, sV_lt0, sV_ge0, if_true, if_false, Nat.le_refl, Nat.lt_irrefl, Nat.not_lt_zero, Nat.zero_le, not_true_eq_false, not_false_eq_true, false_and, true_and, and_true, and_false, true_or, or_true, false_or, or_false, reduceCtorEq, in02_t hp, hsm, refuse_m, hplm, show p < plc (GA g l 0) by omega, hwm, hs]
            exact ⟨g, 1, _, _, _, _, _, _, _, _, _, _, _, e1, e2, hC, hM, hG, RR_1 _ _ _ _ _ _, Or.inr ⟨rfl, 14, by omega, by omega, rfl, rfl, fun _ => by omega⟩⟩
          · have e1 : J_X9_cutWire c k so rc rn rd (nI l) (nI p) = some (nI (src g l p - 1), upd so (l * 3 + p) (sV 0), rc, rn, rd) := by
              unfold J_X9_cutWire
              rw [hh, X9_isPlace_t hp, hpc, hsc]
              simp (disch := omega) only [↓reduceIte, nm_x, chk_nI, chz_0, chz_1, chz_b2, chn_nI, oi_1, oi_2, oi_m1, il_0, il_1, il_2, il_3, il_4, il_5, il_6, il_7, il_8, il_9, il_10, il_11, il_12, il_13, il_14, il_15, il_16, il_32, il_35, il_40, il_41, il_42, il_43, il_44, il_45, il_46, il_48, il_57, il_58, il_59, il_60, il_99, il_104, il_115, il_116, il_119, il_126, il_133, il_255, il_256, il_512, il_931, il_1000, il_65536, bn0, bn1, bn2, bn3, bn4, bn5, bn6, bn7, bn8, bn9, bn10, bn11, bn12, bn13, bn14, bn15, nI_leI, nI_ltI, nI_eq, nI_clamp, nI_add, pk_mul, nI_lt0, ng_lt0, ng_ge0, ng_eqn, ng_neq, ng_len, ng_eq, sV_m1, sV_lt0, sV_ge0, if_true, if_false, Nat.le_refl, Nat.lt_irrefl, Nat.not_lt_zero, Nat.zero_le, not_true_eq_false, not_false_eq_true, false_and, true_and, and_true, and_false, true_or, or_true, false_or, or_false, reduceCtorEq, hs, X2_connect hc hn hl hp]
              rw [sV_s hs, sV_0]
            have e2 : J_X10_cuts wh an nw wy mo (nI l) (nI p) = some (nI 0, wh, nI (src g l p - 1), upd nw (5 + 8 * l + (4 + p)) (nI 0), wy, mo) := by
              unfold J_X10_cuts J_X10_does
              rw [hlt]
              simp (disch := omega) only [↓reduceIte, nm_x, chk_nI, chz_0, chz_1, chz_b2, chn_nI, oi_1, oi_2, oi_m1, il_0, il_1, il_2, il_3, il_4, il_5, il_6, il_7, il_8, il_9, il_10, il_11, il_12, il_13, il_14, il_15, il_16, il_32, il_35, il_40, il_41, il_42, il_43, il_44, il_45, il_46, il_48, il_57, il_58, il_59, il_60, il_99, il_104, il_115, il_116, il_119, il_126, il_133, il_255, il_256, il_512, il_931, il_1000, il_65536, bn0, bn1, bn2, bn3, bn4, bn5, bn6, bn7, bn8, bn9, bn10, bn11, bn12, bn13, bn14, bn15, nI_leI, nI_ltI, nI_eq, nI_clamp, nI_add, pk_mul, nI_lt0, ng_lt0, ng_ge0, ng_eqn, ng_neq, ng_len, ng_eq, sV_m1, sV_lt0, sV_ge0, if_true, if_false, Nat.le_refl, Nat.lt_irrefl, Nat.not_lt_zero, Nat.zero_le, not_true_eq_false, not_false_eq_true, false_and, true_and, and_true, and_false, true_or, or_true, false_or, or_false, reduceCtorEq, in02_t hp, hsm, hplm, show p < plc (GA g l 0) by omega, hwm, hs, X10_sets hl16 (show 4 + p < 8 by omega)]
              rw [sV_s hs]
            exact ⟨_, n, _, _, _, _, _, _, _, _, _, _, _, e1, e2, CR_srcu hC hl16 hp, MR_upd hM _ _, GW_srcu hG hl hp h0 (Nat.zero_le _), hR, Or.inl ⟨src g l p - 1, by omega, rfl, rfl, rfl⟩⟩
end Ops

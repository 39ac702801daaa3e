/-! p35: WHAT THE LAW'S CHANGES DO, in the words that a call's row asks for -/
abbrev PTr : Int32 → (Nat → Nat) → Nat → (Nat → Int32) → (Nat → Int32) → Prop := fun _ _ _ _ _ => True
/-- refused with a code, and for no reason -/
abbrev PSm (x0 : Int32) (nr : Nat) (rn rd : Nat → Int32) : Int32 → (Nat → Nat) → Nat → (Nat → Int32) → (Nat → Int32) → Prop := fun x _ n' rn' rd' => x = x0 ∧ n' = nr ∧ rn' = rn ∧ rd' = rd
/-- refused for one reason -/
abbrev PR1 (a b : Int32) : Int32 → (Nat → Nat) → Nat → (Nat → Int32) → (Nat → Int32) → Prop := fun x _ n' rn' rd' => x = -nI 14 ∧ n' = 1 ∧ rn' 0 = a ∧ rd' 0 = b
/-- .. for two -/
abbrev PR2 (a b a2 b2 : Int32) : Int32 → (Nat → Nat) → Nat → (Nat → Int32) → (Nat → Int32) → Prop := fun x _ n' rn' rd' => x = -nI 14 ∧ n' = 2 ∧ rn' 0 = a ∧ rd' 0 = b ∧ rn' 1 = a2 ∧ rd' 1 = b2
/-- done: the answer and the state behind it -/
abbrev POK1 (x0 : Int32) (g0 : Nat → Nat) : Int32 → (Nat → Nat) → Nat → (Nat → Int32) → (Nat → Int32) → Prop := fun x g' _ _ _ => x = x0 ∧ g' = g0
section Ins
variable {g : Nat → Nat} {hl : Nat → Nat → Nat} {B N u nr n : Nat} {rn rd : Nat → Int32} {v1 v2 v3 : Int32} {tg : Nat → Nat}
theorem m_lt {n : Nat} (h : 0 < n) (hn : n < 2 ^ 31) : -nI n < 0 := (ng_lt0 h hn).2 trivial
theorem RC_1 : RC 1 (nI 1) := ⟨by omega, rfl⟩
theorem RC_2 : RC 2 (nI 2) := ⟨by omega, rfl⟩
theorem IN_hang_any (hG : GW g B) : IN_hang PTr g B nr rn rd v1 v2 := fun c al ti tc se rc st k w so ch hC hR => by
  obtain ⟨g', n', x, c', k', w', rc', rn', rd', e1, h1, h2, h3, h4⟩ := hang_any (rn := rn) (rd := rd) hG hC hR v1 v2
  exact ⟨g', n', x, c', k', w', rc', rn', rd', e1, h1, h2.up (by omega), h3, h4, trivial⟩
theorem IN_wire_any (hG : GW g B) : IN_wire PTr g B nr rn rd v1 v2 v3 := fun c al ti tc se rc st k w so ch hC hR => by
  obtain ⟨g', n', x, so', rc', rn', rd', e1, h1, h2, h3, h4⟩ := wire_any (rn := rn) (rd := rd) hG hC hR v1 v2 v3
  exact ⟨g', n', x, so', rc', rn', rd', e1, h1, h2.up (by omega), h3, h4, trivial⟩
theorem IN_cut_any (hG : GW g B) : IN_cut PTr g B nr rn rd v1 v2 := fun c al ti tc se rc st k w so ch hC hR => by
  obtain ⟨g', n', x, so', rc', rn', rd', e1, h1, h2, h3, h4⟩ := cut_any (rn := rn) (rd := rd) hG hC hR v1 v2
  exact ⟨g', n', x, so', rc', rn', rd', e1, h1, h2.up (by omega), h3, h4, trivial⟩
theorem IN_set_any (hG : GW g B) {b : Nat} (hb : b ≤ 1) : IN_set PTr g B nr rn rd v1 (nI b) := fun c al ti tc se rc st k w so ch hC hR => by
  obtain ⟨g', n', x, st', se', ch', rc', rn', rd', e1, h1, h2, h3, h4⟩ := set_any (rn := rn) (rd := rd) hG hC hR v1 hb
  exact ⟨g', n', x, st', se', ch', rc', rn', rd', e1, h1, h2.up (by omega), h3, h4, trivial⟩
theorem IN_tick_any (hG : GW g B) : IN_tick PTr g B nr rn rd v1 := fun c al ti tc se rc st k w so ch hC hR => by
  obtain ⟨g', x, st', ti', tc', ch', e1, h1, h2, h4⟩ := tick_any hG hC v1
  exact ⟨g', nr, x, st', ti', tc', ch', rn, rd, e1, h1, h2.up (by omega), hR, h4, trivial, rfl, rfl, rfl⟩
theorem IN_loops_any (hG : GW g B) {b : Nat} (hb : b ≤ 1) : IN_loops PTr g B nr rn rd (nI b) := fun c al ti tc se rc st k w so ch hC hR => by
  have h1 := hG.1.2.1
  by_cases h : b = 0 ∧ ∃ i, Leads g i i
  · obtain ⟨rfl, i, hi⟩ := h
    obtain ⟨r, x, -, -, -, -, e1⟩ := loops_no (rc := rc) (rn := rn) (rd := rd) hG hC hi
    exact ⟨g, 2, _, _, _, _, _, e1, hC, hG.up (by omega), RC_2, fun _ => rfl, trivial⟩
  · obtain ⟨e1, h2, h3⟩ := loops_ok (rc := rc) (rn := rn) (rd := rd) hG hC hb (fun hb0 i hi => h ⟨hb0, i, hi⟩)
    exact ⟨updn g 1 b, nr, _, _, _, _, _, e1, h2, h3.up (by omega), hR, fun hx => absurd hx (nI_pos (by omega)), trivial⟩
/-! refused without a reason -/
theorem IN_hang_bad (hG : GW g B) (hv : (v1 < nI 0 ∨ nI 6 < v1) ∨ (v2 < nI 1 ∨ nI 4 < v2)) : IN_hang (PSm (-nI 12) nr rn rd) g B nr rn rd v1 v2 := fun c al ti tc se rc st k w so ch hC hR =>
  ⟨g, nr, _, _, _, _, _, _, _, hang_bad hv, hC, hG.up (by omega), hR, fun _ => rfl, rfl, rfl, rfl, rfl⟩
theorem IN_wire_none (hG : GW g B) (hv : no_l g v1 ∨ (∃ l, l < g 0 ∧ v1 = nI l) ∧ no_l g v3) : IN_wire (PSm (-nI 11) nr rn rd) g B nr rn rd v1 v2 v3 := fun c al ti tc se rc st k w so ch hC hR =>
  ⟨g, nr, _, _, _, _, _, wire_none hG hC hv, hC, hG.up (by omega), hR, fun _ => rfl, rfl, rfl, rfl, rfl⟩
theorem IN_wire_bad (hG : GW g B) {l f : Nat} (hl : l < g 0) (hf : f < g 0) (hv : v2 < 0 ∨ nI 3 ≤ v2) : IN_wire (PSm (-nI 12) nr rn rd) g B nr rn rd (nI l) v2 (nI f) := fun c al ti tc se rc st k w so ch hC hR =>
  ⟨g, nr, _, _, _, _, _, wire_bad hG hC hl hf hv, hC, hG.up (by omega), hR, fun _ => rfl, rfl, rfl, rfl, rfl⟩
theorem IN_cut_none (hG : GW g B) (hv : no_l g v1) : IN_cut (PSm (-nI 11) nr rn rd) g B nr rn rd v1 v2 := fun c al ti tc se rc st k w so ch hC hR => by
  refine ⟨g, nr, -nI 11, so, rc, rn, rd, ?_, hC, hG.up (by omega), hR, fun _ => rfl, rfl, rfl, rfl, rfl⟩
  unfold J_X9_cutWire
  rw [hung_f hC hv, bn1, if_pos n00, il_11]
theorem IN_cut_bad (hG : GW g B) {l : Nat} (hl : l < g 0) (hv : v2 < 0 ∨ nI 3 ≤ v2) : IN_cut (PSm (-nI 12) nr rn rd) g B nr rn rd (nI l) v2 := fun c al ti tc se rc st k w so ch hC hR => by
  refine ⟨g, nr, -nI 12, so, rc, rn, rd, ?_, hC, hG.up (by omega), hR, fun _ => rfl, rfl, rfl, rfl, rfl⟩
  unfold J_X9_cutWire
  rw [hung_t hG.1 hC hl, bn1, if_neg n10, X9_isPlace_f hv, bn1, if_pos n00, il_12]
theorem IN_set_none (hG : GW g B) (hv : no_l g v1) : IN_set (PSm (-nI 11) nr rn rd) g B nr rn rd v1 v2 := fun c al ti tc se rc st k w so ch hC hR => by
  refine ⟨g, nr, -nI 11, st, se, ch, rc, rn, rd, ?_, hC, hG.up (by omega), hR, fun _ => rfl, rfl, rfl, rfl, rfl⟩
  unfold J_X9_setSwitch
  rw [hung_f hC hv, bn1, if_pos n00, il_11]
theorem IN_tick_bad (hG : GW g B) (hv : v1 < nI 1 ∨ nI 99 < v1) : IN_tick (PSm (-nI 12) nr rn rd) g B nr rn rd v1 := fun c al ti tc se rc st k w so ch hC hR =>
  ⟨g, nr, _, _, _, _, _, rn, rd, tick_bad hv, hC, hG.up (by omega), hR, fun _ => rfl, ⟨rfl, rfl, rfl, rfl⟩, rfl, rfl, rfl⟩
/-! refused for a reason -/
theorem IN_wire_sw (hG : GW g B) {l f p : Nat} (hl : l < g 0) (hf : f < g 0) (hp : p < 3) (h0 : GA g l 0 = 0) : IN_wire (PR1 (nI 2) (nI l)) g B nr rn rd (nI l) (nI p) (nI f) := fun c al ti tc se rc st k w so ch hC hR =>
  ⟨g, 1, _, _, _, _, _, wire_sw hG hC hl hf hp h0, hC, hG.up (by omega), RC_1, fun _ => rfl, rfl, rfl, rfl, rfl⟩
theorem IN_hang_full (hG : GW g B) {a b : Nat} (ha : a ≤ 6) (a3 : 1 ≤ b) (hb : b ≤ 4) (h16 : g 0 = 16) : IN_hang (PR1 (nI 1) (nI 16)) g B nr rn rd (nI a) (nI b) := fun c al ti tc se rc st k w so ch hC hR =>
  ⟨g, 1, _, _, _, _, _, _, _, hang_full hC ha a3 hb h16, hC, hG.up (by omega), RC_1, fun _ => rfl, rfl, rfl, rfl, rfl⟩
/-! done -/
theorem IN_hang_ok (hG : GW g B) {a b : Nat} (ha : a ≤ 6) (a3 : 1 ≤ b) (hb : b ≤ 4) (hn : g 0 < 16) : IN_hang (POK1 (nI (g 0)) (hgn g a b)) g B nr rn rd (nI a) (nI b) := fun c al ti tc se rc st k w so ch hC hR => by
  obtain ⟨c', k', w', e1, h1, h2⟩ := hang_ok (rc := rc) (rn := rn) (rd := rd) hG hC ha a3 hb hn
  exact ⟨_, nr, _, c', k', w', rc, rn, rd, e1, h1, h2.up (by omega), hR, fun hx => absurd hx (nI_pos (by omega)), rfl, rfl⟩
theorem IN_tick_ok (hG : GW g B) {tt : Nat} (a1 : 1 ≤ tt) (htt : tt ≤ 99) : IN_tick (POK1 (nI (tsum g tt)) (tki g tt)) g B nr rn rd (nI tt) := fun c al ti tc se rc st k w so ch hC hR => by
  have ht := tsum_le g tt
  obtain ⟨st', ti', tc', ch', e1, h1, h2⟩ := tick_ok hG hC a1 htt
  exact ⟨_, nr, _, st', ti', tc', ch', rn, rd, e1, h1, h2.up (by omega), hR, fun hx => absurd hx (nI_pos (by omega)), ⟨rfl, rfl⟩, rfl, rfl, rfl⟩
/-- a wire to a place that is free, while loops are allowed, or the wire closes none -/
theorem IN_wire_free (hG : GW g B) {l f p : Nat} (hl : l < g 0) (hf : f < g 0) (hp : p < 3) (h0 : GA g l 0 ≠ 0) (hpl : p < plc (GA g l 0)) (hs : src g l p = 0) (ha1 : g 1 = 1) : IN_wire (POK1 (nI (wct (updn g (5 + 8 * l + (4 + p)) (f + 1)) l)) (updn g (5 + 8 * l + (4 + p)) (f + 1))) g B nr rn rd (nI l) (nI p) (nI f) := fun c al ti tc se rc st k w so ch hC hR => by
  obtain ⟨so', e1, h1, h2⟩ := wire_free (rc := rc) (rn := rn) (rd := rd) hG hC hl hf hp h0 hpl hs (Or.inl ha1)
  have hw : wct (updn g (5 + 8 * l + (4 + p)) (f + 1)) l ≤ 3 := wct_srcu
  exact ⟨_, nr, _, so', rc, rn, rd, e1, h1, h2.up (by omega), hR, fun hx => absurd hx (nI_pos (by omega)), rfl, rfl⟩
/-- a wire's codes where lanterns and place are right, while loops are allowed: done, or refused -/
def PWr (g : Nat → Nat) : Int32 → (Nat → Nat) → Nat → (Nat → Int32) → (Nat → Int32) → Prop := fun x g' _ _ _ => ((∃ a, a < 2 ^ 31 ∧ x = nI a) ∨ x = -nI 14) ∧ g' 0 = g 0 ∧ g' 1 = g 1 ∧ ∀ l, l < 16 → GA g' l 0 = GA g l 0 ∧ GA g' l 2 = GA g l 2
theorem IN_wire_valid (hG : GW g B) {l f p : Nat} (hl : l < g 0) (hf : f < g 0) (hp : p < 3) (ha1 : g 1 = 1) : IN_wire (PWr g) g B nr rn rd (nI l) (nI p) (nI f) := fun c al ti tc se rc st k w so ch hC hR => by
  have hn := hG.1.1
  have hl16 : l < 16 := by omega
  by_cases h0 : GA g l 0 = 0
  · exact ⟨g, 1, _, _, _, _, _, wire_sw hG hC hl hf hp h0, hC, hG.up (by omega), RC_1, fun _ => rfl, Or.inr rfl, rfl, rfl, fun _ _ => ⟨rfl, rfl⟩⟩
  · by_cases hpl : p < plc (GA g l 0)
    · by_cases hs : src g l p = 0
      · obtain ⟨so', e1, h1, h2⟩ := wire_free (rc := rc) (rn := rn) (rd := rd) hG hC hl hf hp h0 hpl hs (Or.inl ha1)
        have hw : wct (updn g (5 + 8 * l + (4 + p)) (f + 1)) l ≤ 3 := wct_srcu
        exact ⟨_, nr, _, so', rc, rn, rd, e1, h1, h2.up (by omega), hR, fun hx => absurd hx (nI_pos (by omega)), Or.inl ⟨_, by omega, rfl⟩, srcu_0 (by omega), srcu_0 (by omega), fun l' _ => ⟨srcu_GA hp (by omega), srcu_GA hp (by omega)⟩⟩
      · have hpc := place_c hG hC hl hp rc rn rd
        rw [if_neg h0, if_neg (by omega)] at hpc
        have hsr := GV_src hG.1 hl16 hp
        refine ⟨g, 1, -nI 14, so, nI 1, upd rn 0 (nI 4), upd rd 0 (nI (src g l p - 1)), ?_, hC, hG.up (by omega), RC_1, fun _ => rfl, Or.inr rfl, rfl, rfl, fun _ _ => ⟨rfl, rfl⟩⟩
        unfold J_X9_putWire
        rw [hung_t hG.1 hC hl, hung_t hG.1 hC hf, X9_isPlace_t hp, hpc, X2_sourceOf hC.1 hl16 hp, sV_s hs]
        simp (disch := omega) only [↓reduceIte, nm_x, chk_nI, chz_0, chz_1, chz_b2, chn_nI, oi_1, oi_2, oi_m1, il_0, il_1, il_2, il_3, il_4, il_5, il_6, il_7, il_8, il_9, il_10, il_11, il_12, il_13, il_14, il_15, il_16, il_32, il_35, il_40, il_41, il_42, il_43, il_44, il_45, il_46, il_48, il_57, il_58, il_59, il_60, il_99, il_104, il_115, il_116, il_119, il_126, il_133, il_255, il_256, il_512, il_931, il_1000, il_65536, bn0, bn1, bn2, bn3, bn4, bn5, bn6, bn7, bn8, bn9, bn10, bn11, bn12, bn13, bn14, bn15, nI_leI, nI_ltI, nI_eq, nI_clamp, nI_add, pk_mul, nI_lt0, ng_lt0, ng_ge0, ng_eqn, ng_neq, ng_len, ng_eq, sV_m1, sV_lt0, sV_ge0, if_true, if_false, Nat.le_refl, Nat.lt_irrefl, Nat.not_lt_zero, Nat.zero_le, not_true_eq_false, not_false_eq_true, false_and, true_and, and_true, and_false, true_or, or_true, false_or, or_false, reduceCtorEq, refuse_c]
    · have hpc := place_c hG hC hl hp rc rn rd
      rw [if_neg h0, if_pos (by omega)] at hpc
      refine ⟨g, 1, -nI 14, so, nI 1, upd rn 0 (nI 3), upd rd 0 (nI (plc (GA g l 0))), ?_, hC, hG.up (by omega), RC_1, fun _ => rfl, Or.inr rfl, rfl, rfl, fun _ _ => ⟨rfl, rfl⟩⟩
      unfold J_X9_putWire
      rw [hung_t hG.1 hC hl, hung_t hG.1 hC hf, X9_isPlace_t hp, hpc]
      simp (disch := omega) only [↓reduceIte, nm_x, chk_nI, chz_0, chz_1, chz_b2, chn_nI, oi_1, oi_2, oi_m1, il_0, il_1, il_2, il_3, il_4, il_5, il_6, il_7, il_8, il_9, il_10, il_11, il_12, il_13, il_14, il_15, il_16, il_32, il_35, il_40, il_41, il_42, il_43, il_44, il_45, il_46, il_48, il_57, il_58, il_59, il_60, il_99, il_104, il_115, il_116, il_119, il_126, il_133, il_255, il_256, il_512, il_931, il_1000, il_65536, bn0, bn1, bn2, bn3, bn4, bn5, bn6, bn7, bn8, bn9, bn10, bn11, bn12, bn13, bn14, bn15, nI_leI, nI_ltI, nI_eq, nI_clamp, nI_add, pk_mul, nI_lt0, ng_lt0, ng_ge0, ng_eqn, ng_neq, ng_len, ng_eq, sV_m1, sV_lt0, sV_ge0, if_true, if_false, Nat.le_refl, Nat.lt_irrefl, Nat.not_lt_zero, Nat.zero_le, not_true_eq_false, not_false_eq_true, false_and, true_and, and_true, and_false, true_or, or_true, false_or, or_false, reduceCtorEq]
/-- a wire that would close a loop of d wires -/
theorem IN_wire_loop (hG : GW g B) {l f p d : Nat} (hl : l < g 0) (hf : f < g 0) (hp : p < 3) (h0 : GA g l 0 ≠ 0) (hpl : p < plc (GA g l 0)) (hs : src g l p = 0) (ha : g 1 = 0) (hd : d < 16) (hw : Wy g d l f) (hmin : ∀ f', f' < d → ¬ Wy g f' l f) : IN_wire (PR2 (nI 8) (nI f) (nI 11) (nI (d + 1))) g B nr rn rd (nI l) (nI p) (nI f) := fun c al ti tc se rc st k w so ch hC hR => by
  have hn := hG.1.1
  have hl16 : l < 16 := by omega
  have hpc := place_c hG hC hl hp rc rn rd
  rw [if_neg h0, if_neg (by omega)] at hpc
  have hal : al = nI 0 := by rw [hC.2.2.2.1, ha]
  have hfe : J_X5_fewestWires c so (nI l) (nI f) = some (nI d) := by
    rcases X5_fewest hG.1 hC.1 hl hf with ⟨f2, a1, a2, a3, a4⟩ | ⟨a1, -⟩
    · have h1 : ¬ f2 < d := fun h => hmin f2 h a2
      have h2 : ¬ d < f2 := fun h => a3 d h hw
      rw [show d = f2 by omega]
      exact a4
    · exact absurd hw (a1 d)
  refine ⟨g, 2, -nI 14, so, nI 2, upd (upd rn 0 (nI 8)) 1 (nI 11), upd (upd rd 0 (nI f)) 1 (nI (d + 1)), ?_, hC, hG.up (by omega), RC_2, fun _ => rfl, rfl, rfl, rfl, rfl, rfl, rfl⟩
  unfold J_X9_putWire J_X9_putWire_b96 J_X2_areLoopsAllowed
  rw [hung_t hG.1 hC hl, hung_t hG.1 hC hf, X9_isPlace_t hp, hpc, X2_sourceOf hC.1 hl16 hp, hs, hal, sV_0]
  simp (disch := omega) only [↓reduceIte, nm_x, chk_nI, chz_0, chz_1, chz_b2, chn_nI, oi_1, oi_2, oi_m1, il_0, il_1, il_2, il_3, il_4, il_5, il_6, il_7, il_8, il_9, il_10, il_11, il_12, il_13, il_14, il_15, il_16, il_32, il_35, il_40, il_41, il_42, il_43, il_44, il_45, il_46, il_48, il_57, il_58, il_59, il_60, il_99, il_104, il_115, il_116, il_119, il_126, il_133, il_255, il_256, il_512, il_931, il_1000, il_65536, bn0, bn1, bn2, bn3, bn4, bn5, bn6, bn7, bn8, bn9, bn10, bn11, bn12, bn13, bn14, bn15, nI_leI, nI_ltI, nI_eq, nI_clamp, nI_add, pk_mul, nI_lt0, ng_lt0, ng_ge0, ng_eqn, ng_neq, ng_len, ng_eq, sV_m1, sV_lt0, sV_ge0, if_true, if_false, Nat.le_refl, Nat.lt_irrefl, Nat.not_lt_zero, Nat.zero_le, not_true_eq_false, not_false_eq_true, false_and, true_and, and_true, and_false, true_or, or_true, false_or, or_false, reduceCtorEq, hfe, refuse_c, behind_c]
/-- a wire that is cut -/
theorem IN_cut_ok (hG : GW g B) {l p : Nat} (hl : l < g 0) (hp : p < 3) (h0 : GA g l 0 ≠ 0) (hpl : p < plc (GA g l 0)) (hs : src g l p ≠ 0) : IN_cut (POK1 (nI (src g l p - 1)) (updn g (5 + 8 * l + (4 + p)) 0)) g B nr rn rd (nI l) (nI p) := fun c al ti tc se rc st k w so ch hC hR => by
  have hn := hG.1.1
  have hc := hC.1.1
  have hl16 : l < 16 := by omega
  have hpc := place_c hG hC hl hp rc rn rd
  rw [if_neg h0, if_neg (by omega)] at hpc
  have hsr := GV_src hG.1 hl16 hp
  have hC' := CR_srcu (v := 0) hC hl16 hp
  rw [show sV 0 = -nI 1 from rfl] at hC'
  refine ⟨_, nr, _, _, rc, rn, rd, ?_, hC', (GW_srcu (v := 0) hG hl hp h0 (by omega)).up (by omega), hR, fun hx => absurd hx (nI_pos (by omega)), rfl, rfl⟩
  unfold J_X9_cutWire
  rw [hung_t hG.1 hC hl, X9_isPlace_t hp, hpc, X2_sourceOf hC.1 hl16 hp, sV_s hs]
  simp (disch := omega) only [↓reduceIte, nm_x, chk_nI, chz_0, chz_1, chz_b2, chn_nI, oi_1, oi_2, oi_m1, il_0, il_1, il_2, il_3, il_4, il_5, il_6, il_7, il_8, il_9, il_10, il_11, il_12, il_13, il_14, il_15, il_16, il_32, il_35, il_40, il_41, il_42, il_43, il_44, il_45, il_46, il_48, il_57, il_58, il_59, il_60, il_99, il_104, il_115, il_116, il_119, il_126, il_133, il_255, il_256, il_512, il_931, il_1000, il_65536, bn0, bn1, bn2, bn3, bn4, bn5, bn6, bn7, bn8, bn9, bn10, bn11, bn12, bn13, bn14, bn15, nI_leI, nI_ltI, nI_eq, nI_clamp, nI_add, pk_mul, nI_lt0, ng_lt0, ng_ge0, ng_eqn, ng_neq, ng_len, ng_eq, sV_m1, sV_lt0, sV_ge0, if_true, if_false, Nat.le_refl, Nat.lt_irrefl, Nat.not_lt_zero, Nat.zero_le, not_true_eq_false, not_false_eq_true, false_and, true_and, and_true, and_false, true_or, or_true, false_or, or_false, reduceCtorEq, X2_connect (so := so) hc hn hl hp (-nI 1)]
/-- a dark switch that is set -/
theorem IN_set_on (hG : GW g B) {l b : Nat} (hl : l < g 0) (hb : b ≤ 1) (h0 : GA g l 0 = 0) (hs : GA g l 2 ≠ b) : IN_set (POK1 (nI (gct (stn g l b))) (stn g l b)) g B nr rn rd (nI l) (nI b) := fun c al ti tc se rc st k w so ch hC hR => by
  have hl16 : l < 16 := by have := hG.1.1; omega
  have hsx := X2_isSwitch hG.1 hC.1 hl
  have hgl := X2_isGlowing (st := st) hC.2.1 hl16
  have hl2 := (GV_l hG.1 hl16).2.2.1
  rw [decide_eq_true h0, b2_t] at hsx
  have hgb : b2 (gw g l) = nI (GA g l 2) := by
    rw [gw_n hG.1 hl16]
    cases gw g l <;> rfl
  rw [hgb] at hgl
  have hG' := GW_stn hG hl hb hs
  have hE' : ER (stn g l b) (st ^^^ ((1 : Int64) <<< ((nI l).toInt64 &&& 63))) := by
    have h := ER_glow hG.1 hC.2.1 hl
    have hb2 : 1 - GA g l 2 = b := by omega
    rw [hb2] at h
    refine ⟨fun l' hl' => ?_, fun l' j hl' hj => ?_⟩
    · rw [h.1 l' hl']
      unfold gw
      rw [stn_GA g l b (by omega)]
      by_cases e : l' = l
      · rw [e, updn_GA, if_pos ⟨rfl, rfl⟩]
      · rw [updn_GA_ne (by omega) (by omega) (by omega), if_neg (by omega), if_neg (by omega)]
    · rw [h.2 l' j hl' hj, updn_GA_ne (by omega) (by omega) (by omega), stn_GAn g l b (by omega) (by omega) (by omega)]
  have hch := hC.2.2.1 l hl16
  have hse := hC.2.2.2.2.2.2
  have hh := hung_t hG.1 hC hl
  have htn : J_X2_turn c st se ch (nI l) = some (st ^^^ ((1 : Int64) <<< ((nI l).toInt64 &&& 63)), nI (g 4 + 1), upd ch l (nI (GA g l 3 + 1))) := by
    unfold J_X2_turn J_X2_turn_b40
    rw [hh, hse]
    simp (disch := omega) only [↓reduceIte, nm_x, chk_nI, chz_0, chz_1, chz_b2, chn_nI, oi_1, oi_2, oi_m1, il_0, il_1, il_2, il_3, il_4, il_5, il_6, il_7, il_8, il_9, il_10, il_11, il_12, il_13, il_14, il_15, il_16, il_32, il_35, il_40, il_41, il_42, il_43, il_44, il_45, il_46, il_48, il_57, il_58, il_59, il_60, il_99, il_104, il_115, il_116, il_119, il_126, il_133, il_255, il_256, il_512, il_931, il_1000, il_65536, bn0, bn1, bn2, bn3, bn4, bn5, bn6, bn7, bn8, bn9, bn10, bn11, bn12, bn13, bn14, bn15, nI_leI, nI_ltI, nI_eq, nI_clamp, nI_add, pk_mul, nI_lt0, ng_lt0, ng_ge0, ng_eqn, ng_neq, ng_len, ng_eq, sV_m1, sV_lt0, sV_ge0, if_true, if_false, Nat.le_refl, Nat.lt_irrefl, Nat.not_lt_zero, Nat.zero_le, not_true_eq_false, not_false_eq_true, false_and, true_and, and_true, and_false, true_or, or_true, false_or, or_false, reduceCtorEq, hch]
  obtain ⟨x, ex, hx⟩ := X2_glow (st ^^^ ((1 : Int64) <<< ((nI l).toInt64 &&& 63)))
  have hbc := gct_bits hG'.1 hx hE'
  have hgle := gct_le hG'.1
  have e1 : J_X9_setSwitch c st se k ch rc rn rd (nI l) (nI b) = some (nI (gct (stn g l b)), st ^^^ ((1 : Int64) <<< ((nI l).toInt64 &&& 63)), nI (g 4 + 1), upd ch l (nI (GA g l 3 + 1)), rc, rn, rd) := by
    unfold J_X9_setSwitch
    rw [hh, hsx, hgl]
    simp (disch := omega) only [↓reduceIte, nm_x, chk_nI, chz_0, chz_1, chz_b2, chn_nI, oi_1, oi_2, oi_m1, il_0, il_1, il_2, il_3, il_4, il_5, il_6, il_7, il_8, il_9, il_10, il_11, il_12, il_13, il_14, il_15, il_16, il_32, il_35, il_40, il_41, il_42, il_43, il_44, il_45, il_46, il_48, il_57, il_58, il_59, il_60, il_99, il_104, il_115, il_116, il_119, il_126, il_133, il_255, il_256, il_512, il_931, il_1000, il_65536, bn0, bn1, bn2, bn3, bn4, bn5, bn6, bn7, bn8, bn9, bn10, bn11, bn12, bn13, bn14, bn15, nI_leI, nI_ltI, nI_eq, nI_clamp, nI_add, pk_mul, nI_lt0, ng_lt0, ng_ge0, ng_eqn, ng_neq, ng_len, ng_eq, sV_m1, sV_lt0, sV_ge0, if_true, if_false, Nat.le_refl, Nat.lt_irrefl, Nat.not_lt_zero, Nat.zero_le, not_true_eq_false, not_false_eq_true, false_and, true_and, and_true, and_false, true_or, or_true, false_or, or_false, reduceCtorEq, hs, htn, ex, hbc]
  obtain ⟨hS, hE, h3, h4, h5, h6, h7⟩ := hC
  refine ⟨_, nr, _, _, _, _, _, _, _, e1, ⟨⟨by rw [stn_s g l b (by omega)]; exact hS.1, fun l' hl' => by rw [stn_GAn g l b (by omega) (by omega) (by omega)]; exact hS.2.1 l' hl', fun l' hl' => by rw [stn_GAn g l b (by omega) (by omega) (by omega)]; exact hS.2.2.1 l' hl', fun l' p hl' hp => by rw [show src (stn g l b) l' p = src g l' p from stn_GAn g l b (by omega) (by omega) (by omega)]; exact hS.2.2.2 l' p hl' hp⟩, hE', fun l' hl' => ?_, by rw [stn_s g l b (by omega)]; exact h4, by rw [stn_s g l b (by omega)]; exact h5, by rw [stn_s g l b (by omega)]; exact h6, by rw [stn_4]⟩, hG'.up (by omega), hR, fun hx => absurd hx (nI_pos (by omega)), rfl, rfl⟩
  rw [stn_GA g l b (by omega), if_neg (by omega)]
  unfold upd
  by_cases e : l' = l
  · rw [if_pos e, if_pos ⟨e, rfl⟩]
  · rw [if_neg e, if_neg (by omega)]; exact h3 l' hl'
theorem IN_loops_ok (hG : GW g B) {b : Nat} (hb : b ≤ 1) (hno : b = 0 → ∀ i, ¬ Leads g i i) : IN_loops (POK1 (nI (g 1)) (updn g 1 b)) g B nr rn rd (nI b) := fun c al ti tc se rc st k w so ch hC hR => by
  have h1 := hG.1.2.1
  obtain ⟨e1, h2, h3⟩ := loops_ok (rc := rc) (rn := rn) (rd := rd) hG hC hb hno
  exact ⟨updn g 1 b, nr, _, _, _, _, _, e1, h2, h3.up (by omega), hR, fun hx => absurd hx (nI_pos (by omega)), rfl, rfl⟩
theorem IN_loops_no (hG : GW g B) {r n : Nat} (hr : Leads g r r) (hlow : ∀ j, j < r → ¬ Leads g j j) (hn : ∀ x, MS x (fun i => Leads g i i) → fb_ct (bt x) 16 = n) : IN_loops (PR2 (nI 9) (nI r) (nI 12) (nI n)) g B nr rn rd (nI 0) := fun c al ti tc se rc st k w so ch hC hR => by
  obtain ⟨r', x, h1, h2, h3, h4, e1⟩ := loops_no (rc := rc) (rn := rn) (rd := rd) hG hC hr
  have hrr : r' = r := by
    have a1 : ¬ r' < r := fun h => hlow r' h h2
    have a2 : ¬ r < r' := fun h => h3 r h hr
    omega
  subst hrr
  rw [hn x h4] at e1
  exact ⟨g, 2, _, _, _, _, _, e1, hC, hG.up (by omega), RC_2, fun _ => rfl, rfl, rfl, rfl, rfl, rfl, rfl⟩
/-! texts -/
theorem CHX.up {x : Int32} {B B' tp : Nat} {top und : Int32} {Rc : Nat → Int32} {Rk Rw Rs Rch : Nat → Nat → Int32} {Rst : Nat → Int64} {Ral Rti Rtc Rse : Nat → Int32} (h : CHX x g hl N u B top und Rc Rk Rw Rs Rch Rst Ral Rti Rtc Rse) (hB : B ≤ B') : CHX x g hl N u B' top und Rc Rk Rw Rs Rch Rst Ral Rti Rtc Rse := by
  obtain ⟨tp', h⟩ := h
  rcases h with ⟨h1, h2⟩ | ⟨h1, h2⟩
  · exact ⟨tp', Or.inl ⟨h1, h2.up hB⟩⟩
  · exact ⟨tp', Or.inr ⟨h1, h2.up hB⟩⟩
theorem IN_run_any (hG : GW g B) : IN_run PTr g hl N u B nr rn rd n tg := fun c al ti tc se rc st k w so ch top und Rc Rk Rw Rs Rch Rst Ral Rti Rtc Rse sg a0 w0 f0 s0 t0 m0 tp hC hR hH hT => by
  obtain ⟨g', n', x, c', st', al', ti', tc', se', k', w', so', ch', top', und', at', wd', f', s', t', m', rc', rn', rd', Rc', Rk', Rw', Rs', Rch', Rst', Ral', Rti', Rtc', Rse', e1, h1, h2, h3, h4, h5, -⟩ := run_x (rn := rn) (rd := rd) hT hG hC hR hH a0 w0 f0 s0 t0 m0
  exact ⟨g', n', x, c', st', al', ti', tc', se', k', w', so', ch', top', und', at', wd', f', s', t', m', rc', rn', rd', Rc', Rk', Rw', Rs', Rch', Rst', Ral', Rti', Rtc', Rse', e1, h1, h2, h3, h4, h5.up (tp := 0) (by omega), trivial⟩
theorem IN_run_wrong (hG : GW g B) {a : Nat} (hRF : RF n tg 61 0 = (a, false)) : IN_run (PSm ((-1000 : Int32) - nI a) nr rn rd) g hl N u B nr rn rd n tg := fun c al ti tc se rc st k w so ch top und Rc Rk Rw Rs Rch Rst Ral Rti Rtc Rse sg a0 w0 f0 s0 t0 m0 tp hC hR hH hT => by
  obtain ⟨g', n', x, c', st', al', ti', tc', se', k', w', so', ch', top', und', at', wd', f', s', t', m', rc', rn', rd', Rc', Rk', Rw', Rs', Rch', Rst', Ral', Rti', Rtc', Rse', e1, h1, h2, h3, h4, h5, h6⟩ := run_x (rn := rn) (rd := rd) hT hG hC hR hH a0 w0 f0 s0 t0 m0
  rw [hRF] at h6
  obtain ⟨q1, q2, q3, q4⟩ := h6 rfl
  have hn : n' = nr := by
    have e9 := h3.2
    rw [q2, hR.2, nI_eq (by have := hR.1; omega) (by have := h3.1; omega)] at e9
    exact e9.symm
  exact ⟨g', n', x, c', st', al', ti', tc', se', k', w', so', ch', top', und', at', wd', f', s', t', m', rc', rn', rd', Rc', Rk', Rw', Rs', Rch', Rst', Ral', Rti', Rtc', Rse', e1, h1, h2, h3, h4, h5.up (tp := 0) (by omega), q1, hn, q3, q4⟩
end Ins

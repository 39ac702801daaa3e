/-! THE GHOST: one array of 133 numbers, laid as the reference lays its own; what the class' cells have to do with it -/
def GA (g : Nat → Nat) (l w : Nat) : Nat := g (5 + 8 * l + w)
def src (g : Nat → Nat) (l p : Nat) : Nat := GA g l (4 + p)
def gw (g : Nat → Nat) (l : Nat) : Bool := decide (GA g l 2 = 1)
def GV (g : Nat → Nat) : Prop := g 0 ≤ 16 ∧ g 1 ≤ 1 ∧ (∀ l, l < 16 → GA g l 0 ≤ 6 ∧ GA g l 1 ≤ 4 ∧ GA g l 2 ≤ 1 ∧ GA g l 7 < 8 ∧ ∀ p, p < 3 → src g l p ≤ g 0) ∧ (∀ l, l < g 0 → 1 ≤ GA g l 1 ∧ GA g l 7 < 2 ^ (GA g l 1 - 1)) ∧ (∀ l, l < 16 → GA g l 0 = 0 → GA g l 7 = 0 ∧ ∀ p, p < 3 → src g l p = 0) ∧ (∀ i, 5 + 8 * g 0 ≤ i → i < 133 → g i = 0)
/-- the class' static cells -/
def SR (g : Nat → Nat) (c : Int32) (k w so : Nat → Int32) : Prop := c = nI (g 0) ∧ (∀ l, l < 16 → k l = nI (GA g l 0)) ∧ (∀ l, l < 16 → w l = nI (GA g l 1)) ∧ ∀ l p, l < 16 → p < 3 → so (l * 3 + p) = sV (src g l p)
/-- the class' state -/
def ER (g : Nat → Nat) (st : Int64) : Prop := (∀ l, l < 16 → bl st l = gw g l) ∧ ∀ l j, l < 16 → j < 3 → bl st (16 + 3 * l + j) = (GA g l 7).testBit j
/-- the reference's array -/
def MR (g : Nat → Nat) (nw : Nat → Int32) : Prop := ∀ i, i < 133 → nw i = nI (g i)
def wct (g : Nat → Nat) (l : Nat) : Nat := fb_ct (fun p => decide (src g l p ≠ 0)) 3
def lit (g : Nat → Nat) (G : Nat → Bool) (l : Nat) : Nat := fb_ct (fun p => decide (src g l p ≠ 0) && G (src g l p - 1)) 3
def fnd (kd w li : Nat) : Bool := if w = 0 then false else if kd = 1 then decide (li = 0) else if kd = 2 then decide (li = w) else if kd = 4 then decide (li % 2 = 1) else if kd = 5 then decide (w < 2 * li) else decide (0 < li)
def fin (g : Nat → Nat) (G : Nat → Bool) (l : Nat) : Bool := fnd (GA g l 0) (wct g l) (lit g G l)
theorem GV_n {g : Nat → Nat} (h : GV g) : g 0 ≤ 16 := h.1
theorem GV_l {g : Nat → Nat} (h : GV g) {l : Nat} (hl : l < 16) : GA g l 0 ≤ 6 ∧ GA g l 1 ≤ 4 ∧ GA g l 2 ≤ 1 ∧ GA g l 7 < 8 ∧ ∀ p, p < 3 → src g l p ≤ g 0 := h.2.2.1 l hl
theorem GV_src {g : Nat → Nat} (h : GV g) {l p : Nat} (hl : l < 16) (hp : p < 3) : src g l p ≤ 16 := Nat.le_trans ((GV_l h hl).2.2.2.2 p hp) h.1
/-! the class' own words of a lantern -/
theorem X2_isHung_t {n l : Nat} (h : l < n) (hn : n ≤ 16) : J_X2_isHung (nI n) (nI l) = some (nI 1) := by
  unfold J_X2_isHung J_X2_isHung_b23
  simp (disch := omega) only [↓reduceIte, nm_x, chk_nI, chz_0, chz_1, chz_b2, chn_nI, oi_1, oi_2, oi_m1, il_0, il_1, il_2, il_3, il_4, il_5, il_6, il_7, il_8, il_9, il_10, il_11, il_12, il_13, il_14, il_15, il_16, il_32, il_35, il_40, il_41, il_42, il_43, il_44, il_45, il_46, il_48, il_57, il_58, il_59, il_60, il_99, il_104, il_115, il_116, il_119, il_126, il_133, il_255, il_256, il_512, il_931, il_1000, il_65536, bn0, bn1, bn2, bn3, bn4, bn5, bn6, bn7, bn8, bn9, bn10, bn11, bn12, bn13, bn14, bn15, nI_leI, nI_ltI, nI_eq, nI_clamp, nI_add, pk_mul, nI_lt0, ng_lt0, ng_ge0, ng_eqn, ng_neq, ng_len, ng_eq, sV_m1, sV_lt0, sV_ge0, if_true, if_false, Nat.le_refl, Nat.lt_irrefl, Nat.not_lt_zero, Nat.zero_le, not_true_eq_false, not_false_eq_true, false_and, true_and, and_true, and_false, true_or, or_true, false_or, or_false, reduceCtorEq, Nat.not_le.mpr h, show ¬ 16 ≤ l by omega]
theorem X2_isHung_f {n : Nat} {v : Int32} (h : v < 0 ∨ nI n ≤ v) : J_X2_isHung (nI n) v = some (nI 0) := by
  unfold J_X2_isHung J_X2_isHung_b22 J_X2_isHung_b23
  rcases h with h | h
  · rw [if_pos h]; simp only [↓reduceIte, nm_x, chk_nI, chz_0, chz_1, chz_b2, chn_nI, oi_1, oi_2, oi_m1, il_0, il_1, il_2, il_3, il_4, il_5, il_6, il_7, il_8, il_9, il_10, il_11, il_12, il_13, il_14, il_15, il_16, il_32, il_35, il_40, il_41, il_42, il_43, il_44, il_45, il_46, il_48, il_57, il_58, il_59, il_60, il_99, il_104, il_115, il_116, il_119, il_126, il_133, il_255, il_256, il_512, il_931, il_1000, il_65536, bn0, bn1, bn2, bn3, bn4, bn5, bn6, bn7, bn8, bn9, bn10, bn11, bn12, bn13, bn14, bn15, nI_leI, nI_ltI, nI_eq, nI_clamp, nI_add, pk_mul, nI_lt0, ng_lt0, ng_ge0, ng_eqn, ng_neq, ng_len, ng_eq, sV_m1, sV_lt0, sV_ge0, if_true, if_false, Nat.le_refl, Nat.lt_irrefl, Nat.not_lt_zero, Nat.zero_le, not_true_eq_false, not_false_eq_true, false_and, true_and, and_true, and_false, true_or, or_true, false_or, or_false, reduceCtorEq]
  · by_cases h0 : v < 0
    · rw [if_pos h0]; simp only [↓reduceIte, nm_x, chk_nI, chz_0, chz_1, chz_b2, chn_nI, oi_1, oi_2, oi_m1, il_0, il_1, il_2, il_3, il_4, il_5, il_6, il_7, il_8, il_9, il_10, il_11, il_12, il_13, il_14, il_15, il_16, il_32, il_35, il_40, il_41, il_42, il_43, il_44, il_45, il_46, il_48, il_57, il_58, il_59, il_60, il_99, il_104, il_115, il_116, il_119, il_126, il_133, il_255, il_256, il_512, il_931, il_1000, il_65536, bn0, bn1, bn2, bn3, bn4, bn5, bn6, bn7, bn8, bn9, bn10, bn11, bn12, bn13, bn14, bn15, nI_leI, nI_ltI, nI_eq, nI_clamp, nI_add, pk_mul, nI_lt0, ng_lt0, ng_ge0, ng_eqn, ng_neq, ng_len, ng_eq, sV_m1, sV_lt0, sV_ge0, if_true, if_false, Nat.le_refl, Nat.lt_irrefl, Nat.not_lt_zero, Nat.zero_le, not_true_eq_false, not_false_eq_true, false_and, true_and, and_true, and_false, true_or, or_true, false_or, or_false, reduceCtorEq]
    · rw [if_neg h0, if_pos h]; simp only [↓reduceIte, nm_x, chk_nI, chz_0, chz_1, chz_b2, chn_nI, oi_1, oi_2, oi_m1, il_0, il_1, il_2, il_3, il_4, il_5, il_6, il_7, il_8, il_9, il_10, il_11, il_12, il_13, il_14, il_15, il_16, il_32, il_35, il_40, il_41, il_42, il_43, il_44, il_45, il_46, il_48, il_57, il_58, il_59, il_60, il_99, il_104, il_115, il_116, il_119, il_126, il_133, il_255, il_256, il_512, il_931, il_1000, il_65536, bn0, bn1, bn2, bn3, bn4, bn5, bn6, bn7, bn8, bn9, bn10, bn11, bn12, bn13, bn14, bn15, nI_leI, nI_ltI, nI_eq, nI_clamp, nI_add, pk_mul, nI_lt0, ng_lt0, ng_ge0, ng_eqn, ng_neq, ng_len, ng_eq, sV_m1, sV_lt0, sV_ge0, if_true, if_false, Nat.le_refl, Nat.lt_irrefl, Nat.not_lt_zero, Nat.zero_le, not_true_eq_false, not_false_eq_true, false_and, true_and, and_true, and_false, true_or, or_true, false_or, or_false, reduceCtorEq]
section LantX2
variable {g : Nat → Nat} {c : Int32} {k w so : Nat → Int32} {st : Int64}
theorem X2_kindOf (hG : GV g) (hS : SR g c k w so) {l : Nat} (hl : l < g 0) : J_X2_kindOf c k (nI l) = some (nI (GA g l 0)) := by
  have hn := hG.1
  unfold J_X2_kindOf J_X2_kindOf_b18
  rw [hS.1, X2_isHung_t hl hn]
  simp (disch := omega) only [↓reduceIte, nm_x, chk_nI, chz_0, chz_1, chz_b2, chn_nI, oi_1, oi_2, oi_m1, il_0, il_1, il_2, il_3, il_4, il_5, il_6, il_7, il_8, il_9, il_10, il_11, il_12, il_13, il_14, il_15, il_16, il_32, il_35, il_40, il_41, il_42, il_43, il_44, il_45, il_46, il_48, il_57, il_58, il_59, il_60, il_99, il_104, il_115, il_116, il_119, il_126, il_133, il_255, il_256, il_512, il_931, il_1000, il_65536, bn0, bn1, bn2, bn3, bn4, bn5, bn6, bn7, bn8, bn9, bn10, bn11, bn12, bn13, bn14, bn15, nI_leI, nI_ltI, nI_eq, nI_clamp, nI_add, pk_mul, nI_lt0, ng_lt0, ng_ge0, ng_eqn, ng_neq, ng_len, ng_eq, sV_m1, sV_lt0, sV_ge0, if_true, if_false, Nat.le_refl, Nat.lt_irrefl, Nat.not_lt_zero, Nat.zero_le, not_true_eq_false, not_false_eq_true, false_and, true_and, and_true, and_false, true_or, or_true, false_or, or_false, reduceCtorEq, hS.2.1]
theorem X2_wickOf (hG : GV g) (hS : SR g c k w so) {l : Nat} (hl : l < g 0) : J_X2_wickOf c w (nI l) = some (nI (GA g l 1)) := by
  have hn := hG.1
  unfold J_X2_wickOf J_X2_wickOf_b18
  rw [hS.1, X2_isHung_t hl hn]
  simp (disch := omega) only [↓reduceIte, nm_x, chk_nI, chz_0, chz_1, chz_b2, chn_nI, oi_1, oi_2, oi_m1, il_0, il_1, il_2, il_3, il_4, il_5, il_6, il_7, il_8, il_9, il_10, il_11, il_12, il_13, il_14, il_15, il_16, il_32, il_35, il_40, il_41, il_42, il_43, il_44, il_45, il_46, il_48, il_57, il_58, il_59, il_60, il_99, il_104, il_115, il_116, il_119, il_126, il_133, il_255, il_256, il_512, il_931, il_1000, il_65536, bn0, bn1, bn2, bn3, bn4, bn5, bn6, bn7, bn8, bn9, bn10, bn11, bn12, bn13, bn14, bn15, nI_leI, nI_ltI, nI_eq, nI_clamp, nI_add, pk_mul, nI_lt0, ng_lt0, ng_ge0, ng_eqn, ng_neq, ng_len, ng_eq, sV_m1, sV_lt0, sV_ge0, if_true, if_false, Nat.le_refl, Nat.lt_irrefl, Nat.not_lt_zero, Nat.zero_le, not_true_eq_false, not_false_eq_true, false_and, true_and, and_true, and_false, true_or, or_true, false_or, or_false, reduceCtorEq, hS.2.2.1]
theorem X2_changesOf (hG : GV g) (hS : SR g c k w so) (ch : Nat → Int32) {l : Nat} (hl : l < g 0) : J_X2_changesOf c ch (nI l) = some (ch l) := by
  have hn := hG.1
  unfold J_X2_changesOf J_X2_changesOf_b18
  rw [hS.1, X2_isHung_t hl hn]
  simp (disch := omega) only [↓reduceIte, nm_x, chk_nI, chz_0, chz_1, chz_b2, chn_nI, oi_1, oi_2, oi_m1, il_0, il_1, il_2, il_3, il_4, il_5, il_6, il_7, il_8, il_9, il_10, il_11, il_12, il_13, il_14, il_15, il_16, il_32, il_35, il_40, il_41, il_42, il_43, il_44, il_45, il_46, il_48, il_57, il_58, il_59, il_60, il_99, il_104, il_115, il_116, il_119, il_126, il_133, il_255, il_256, il_512, il_931, il_1000, il_65536, bn0, bn1, bn2, bn3, bn4, bn5, bn6, bn7, bn8, bn9, bn10, bn11, bn12, bn13, bn14, bn15, nI_leI, nI_ltI, nI_eq, nI_clamp, nI_add, pk_mul, nI_lt0, ng_lt0, ng_ge0, ng_eqn, ng_neq, ng_len, ng_eq, sV_m1, sV_lt0, sV_ge0, if_true, if_false, Nat.le_refl, Nat.lt_irrefl, Nat.not_lt_zero, Nat.zero_le, not_true_eq_false, not_false_eq_true, false_and, true_and, and_true, and_false, true_or, or_true, false_or, or_false, reduceCtorEq]
theorem X2_isSwitch (hG : GV g) (hS : SR g c k w so) {l : Nat} (hl : l < g 0) : J_X2_isSwitch c k (nI l) = some (b2 (decide (GA g l 0 = 0))) := by
  have hn := hG.1
  have h6 := (GV_l hG (show l < 16 by omega)).1
  unfold J_X2_isSwitch J_X2_isSwitch_b22 J_X2_isSwitch_b21 J_X2_isSwitch_b22
  rw [hS.1, X2_isHung_t hl hn]
  simp (disch := omega) only [↓reduceIte, nm_x, chk_nI, chz_0, chz_1, chz_b2, chn_nI, oi_1, oi_2, oi_m1, il_0, il_1, il_2, il_3, il_4, il_5, il_6, il_7, il_8, il_9, il_10, il_11, il_12, il_13, il_14, il_15, il_16, il_32, il_35, il_40, il_41, il_42, il_43, il_44, il_45, il_46, il_48, il_57, il_58, il_59, il_60, il_99, il_104, il_115, il_116, il_119, il_126, il_133, il_255, il_256, il_512, il_931, il_1000, il_65536, bn0, bn1, bn2, bn3, bn4, bn5, bn6, bn7, bn8, bn9, bn10, bn11, bn12, bn13, bn14, bn15, nI_leI, nI_ltI, nI_eq, nI_clamp, nI_add, pk_mul, nI_lt0, ng_lt0, ng_ge0, ng_eqn, ng_neq, ng_len, ng_eq, sV_m1, sV_lt0, sV_ge0, if_true, if_false, Nat.le_refl, Nat.lt_irrefl, Nat.not_lt_zero, Nat.zero_le, not_true_eq_false, not_false_eq_true, false_and, true_and, and_true, and_false, true_or, or_true, false_or, or_false, reduceCtorEq, hS.2.1]
  by_cases h : GA g l 0 = 0
  · simp only [h, if_true, decide_true, b2_t]
  · simp only [h, if_false, decide_false, b2_f]
theorem X2_sourceOf (hS : SR g c k w so) {l p : Nat} (hl : l < 16) (hp : p < 3) : J_X2_sourceOf so (nI l) (nI p) = some (sV (src g l p)) := by
  unfold J_X2_sourceOf J_X2_sourceOf_b24 J_X2_sourceOf_b43
  simp (disch := omega) only [↓reduceIte, nm_x, chk_nI, chz_0, chz_1, chz_b2, chn_nI, oi_1, oi_2, oi_m1, il_0, il_1, il_2, il_3, il_4, il_5, il_6, il_7, il_8, il_9, il_10, il_11, il_12, il_13, il_14, il_15, il_16, il_32, il_35, il_40, il_41, il_42, il_43, il_44, il_45, il_46, il_48, il_57, il_58, il_59, il_60, il_99, il_104, il_115, il_116, il_119, il_126, il_133, il_255, il_256, il_512, il_931, il_1000, il_65536, bn0, bn1, bn2, bn3, bn4, bn5, bn6, bn7, bn8, bn9, bn10, bn11, bn12, bn13, bn14, bn15, nI_leI, nI_ltI, nI_eq, nI_clamp, nI_add, pk_mul, nI_lt0, ng_lt0, ng_ge0, ng_eqn, ng_neq, ng_len, ng_eq, sV_m1, sV_lt0, sV_ge0, if_true, if_false, Nat.le_refl, Nat.lt_irrefl, Nat.not_lt_zero, Nat.zero_le, not_true_eq_false, not_false_eq_true, false_and, true_and, and_true, and_false, true_or, or_true, false_or, or_false, reduceCtorEq, show ¬ 16 ≤ l by omega, show ¬ 3 ≤ p by omega, hS.2.2.2]
theorem X2_glow (st : Int64) : ∃ x, J_X2_glow st = some x ∧ ∀ i, i < 32 → bt x i = (decide (i < 16) && bl st i) := by
  refine ⟨_, rfl, fun i hi => ?_⟩
  rw [l_to32 _ hi, l_and, l_65535, Bool.and_comm]
theorem X2_glowIn (st : Int64) : ∃ x, J_X2_glowIn st = some x ∧ ∀ i, i < 32 → bt x i = (decide (i < 16) && bl st i) := by
  refine ⟨_, rfl, fun i hi => ?_⟩
  rw [l_to32 _ hi, l_and, l_65535, Bool.and_comm]
theorem X9_isIn (x : Int32) {i : Nat} (hi : i < 32) : J_X9_isIn x (nI i) = some (b2 (bt x i)) := by
  unfold J_X9_isIn J_X9_isIn_b14
  simp only [nm_x, il_1, bit_and x i hi]
  cases bt x i
  · simp (disch := omega) only [↓reduceIte, nm_x, chk_nI, chz_0, chz_1, chz_b2, chn_nI, oi_1, oi_2, oi_m1, il_0, il_1, il_2, il_3, il_4, il_5, il_6, il_7, il_8, il_9, il_10, il_11, il_12, il_13, il_14, il_15, il_16, il_32, il_35, il_40, il_41, il_42, il_43, il_44, il_45, il_46, il_48, il_57, il_58, il_59, il_60, il_99, il_104, il_115, il_116, il_119, il_126, il_133, il_255, il_256, il_512, il_931, il_1000, il_65536, bn0, bn1, bn2, bn3, bn4, bn5, bn6, bn7, bn8, bn9, bn10, bn11, bn12, bn13, bn14, bn15, nI_leI, nI_ltI, nI_eq, nI_clamp, nI_add, pk_mul, nI_lt0, ng_lt0, ng_ge0, ng_eqn, ng_neq, ng_len, ng_eq, sV_m1, sV_lt0, sV_ge0, if_true, if_false, Nat.le_refl, Nat.lt_irrefl, Nat.not_lt_zero, Nat.zero_le, not_true_eq_false, not_false_eq_true, false_and, true_and, and_true, and_false, true_or, or_true, false_or, or_false, reduceCtorEq, b2_f, Bool.false_eq_true]
  · simp (disch := omega) only [↓reduceIte, nm_x, chk_nI, chz_0, chz_1, chz_b2, chn_nI, oi_1, oi_2, oi_m1, il_0, il_1, il_2, il_3, il_4, il_5, il_6, il_7, il_8, il_9, il_10, il_11, il_12, il_13, il_14, il_15, il_16, il_32, il_35, il_40, il_41, il_42, il_43, il_44, il_45, il_46, il_48, il_57, il_58, il_59, il_60, il_99, il_104, il_115, il_116, il_119, il_126, il_133, il_255, il_256, il_512, il_931, il_1000, il_65536, bn0, bn1, bn2, bn3, bn4, bn5, bn6, bn7, bn8, bn9, bn10, bn11, bn12, bn13, bn14, bn15, nI_leI, nI_ltI, nI_eq, nI_clamp, nI_add, pk_mul, nI_lt0, ng_lt0, ng_ge0, ng_eqn, ng_neq, ng_len, ng_eq, sV_m1, sV_lt0, sV_ge0, if_true, if_false, Nat.le_refl, Nat.lt_irrefl, Nat.not_lt_zero, Nat.zero_le, not_true_eq_false, not_false_eq_true, false_and, true_and, and_true, and_false, true_or, or_true, false_or, or_false, reduceCtorEq, b2_t]
theorem X2_isGlowing (hE : ER g st) {l : Nat} (hl : l < 16) : J_X2_isGlowing st (nI l) = some (b2 (gw g l)) := by
  unfold J_X2_isGlowing
  obtain ⟨x, hx, hb⟩ := X2_glow st
  rw [hx]
  simp only [bn1]
  rw [X9_isIn x (show l < 32 by omega), hb l (by omega), hE.1 l hl]
  simp only [↓reduceIte, nm_x, chk_nI, chz_0, chz_1, chz_b2, chn_nI, oi_1, oi_2, oi_m1, il_0, il_1, il_2, il_3, il_4, il_5, il_6, il_7, il_8, il_9, il_10, il_11, il_12, il_13, il_14, il_15, il_16, il_32, il_35, il_40, il_41, il_42, il_43, il_44, il_45, il_46, il_48, il_57, il_58, il_59, il_60, il_99, il_104, il_115, il_116, il_119, il_126, il_133, il_255, il_256, il_512, il_931, il_1000, il_65536, bn0, bn1, bn2, bn3, bn4, bn5, bn6, bn7, bn8, bn9, bn10, bn11, bn12, bn13, bn14, bn15, nI_leI, nI_ltI, nI_eq, nI_clamp, nI_add, pk_mul, nI_lt0, ng_lt0, ng_ge0, ng_eqn, ng_neq, ng_len, ng_eq, sV_m1, sV_lt0, sV_ge0, if_true, if_false, Nat.le_refl, Nat.lt_irrefl, Nat.not_lt_zero, Nat.zero_le, not_true_eq_false, not_false_eq_true, false_and, true_and, and_true, and_false, true_or, or_true, false_or, or_false, reduceCtorEq, hl, decide_true, Bool.true_and]
/-- the foundIn of a state -/
theorem X2_foundIn (hG : GV g) (hE : ER g st) {l : Nat} (hl : l < 16) : J_X2_foundIn st (nI l) = some (nI (GA g l 7)) := by
  unfold J_X2_foundIn
  simp only [nm_x, il_16, il_3, pk_mul, nI_add]
  congr 1
  apply b_ext
  intro i hi
  have h8 := (GV_l hG hl).2.2.2.1
  rw [l_to32 _ hi, l_and, l_7, l_ushr (16 + 3 * l) (by omega)]
  have hb : bt (nI (GA g l 7)) i = (GA g l 7).testBit i := by
    unfold bt nI
    show (BitVec.ofNat 32 (GA g l 7)).getLsbD i = _
    rw [BitVec.getLsbD_ofNat]
    simp [hi]
  rw [hb]
  rcases Nat.lt_or_ge i 3 with h | h
  · rw [hE.2 l i hl h]
    simp [h]
  · have : (GA g l 7).testBit i = false := Nat.testBit_lt_two_pow (Nat.lt_of_lt_of_le h8 (p2le h))
    rw [this, decide_eq_false (by omega)]
    simp
/-! what a gate finds -/
theorem fin_end (hG : GV g) (hS : SR g c k w so) {l li wd : Nat} (hl : l < 16) (hw : wd ≤ 3) (hli : li ≤ 3) (h0 : GA g l 0 = 0 → wd = 0) (m : Nat) (v2 : Int32) : J_X2_isFinding_L20 k so (nI l) v2 (m + 1) (nI wd) (nI li) (nI 3) = some (b2 (fnd (GA g l 0) wd li)) := by
  have h6 := (GV_l hG hl).1
  rw [J_X2_isFinding_L20]
  unfold J_X2_isFinding_b126 J_X2_isFinding_b138 J_X2_isFinding_b149 J_X2_isFinding_b163 J_X2_isFinding_b177
  have hm : nI li &&& nI 1 = nI (li % 2) := fa_mask li 1
  simp (disch := omega) only [↓reduceIte, nm_x, chk_nI, chz_0, chz_1, chz_b2, chn_nI, oi_1, oi_2, oi_m1, il_0, il_1, il_2, il_3, il_4, il_5, il_6, il_7, il_8, il_9, il_10, il_11, il_12, il_13, il_14, il_15, il_16, il_32, il_35, il_40, il_41, il_42, il_43, il_44, il_45, il_46, il_48, il_57, il_58, il_59, il_60, il_99, il_104, il_115, il_116, il_119, il_126, il_133, il_255, il_256, il_512, il_931, il_1000, il_65536, bn0, bn1, bn2, bn3, bn4, bn5, bn6, bn7, bn8, bn9, bn10, bn11, bn12, bn13, bn14, bn15, nI_leI, nI_ltI, nI_eq, nI_clamp, nI_add, pk_mul, nI_lt0, ng_lt0, ng_ge0, ng_eqn, ng_neq, ng_len, ng_eq, sV_m1, sV_lt0, sV_ge0, if_true, if_false, Nat.le_refl, Nat.lt_irrefl, Nat.not_lt_zero, Nat.zero_le, not_true_eq_false, not_false_eq_true, false_and, true_and, and_true, and_false, true_or, or_true, false_or, or_false, reduceCtorEq, hS.2.1, hm]
  unfold fnd
  by_cases hw0 : wd = 0
  · simp only [hw0, if_true, b2_f]
  · have hk0 : GA g l 0 ≠ 0 := fun h => hw0 (h0 h)
    simp only [hw0, if_false]
    rcases (show GA g l 0 = 1 ∨ GA g l 0 = 2 ∨ GA g l 0 = 3 ∨ GA g l 0 = 4 ∨ GA g l 0 = 5 ∨ GA g l 0 = 6 by omega) with h | h | h | h | h | h <;> simp only [h, if_true, if_false, Nat.reduceEqDiff, if_true, if_false, Nat.le_refl, Nat.lt_irrefl, Nat.not_lt_zero, Nat.zero_le, not_true_eq_false, not_false_eq_true, false_and, true_and, and_true, and_false, true_or, or_true, false_or, or_false, reduceCtorEq]
    · by_cases q : li = 0 <;> simp [q, b2_t, b2_f]
    · by_cases q : li = wd <;> simp [q, b2_t, b2_f]
    · by_cases q : li = 0
      · simp [q, b2_f]
      · simp [q, show 0 < li by omega, b2_t]
    · by_cases q : li % 2 = 1 <;> simp [q, b2_t, b2_f]
    · by_cases q : 2 * li ≤ wd
      · rw [if_pos q, decide_eq_false (by omega), b2_f]
      · rw [if_neg q, decide_eq_true (by omega), b2_t]
    · by_cases q : li = 0
      · simp [q, b2_f]
      · simp [q, show 0 < li by omega, b2_t]
theorem X2_isFinding_L (hG : GV g) (hS : SR g c k w so) {l : Nat} (hl : l < 16) (v2 : Int32) : ∀ j nf p, p + j = 3 → j < nf → J_X2_isFinding_L20 k so (nI l) v2 nf (nI (fb_ct (fun p => decide (src g l p ≠ 0)) p)) (nI (fb_ct (fun p => decide (src g l p ≠ 0) && bt v2 (src g l p - 1)) p)) (nI p) = some (b2 (fin g (bt v2) l)) := by
  intro j
  induction j with
  | zero =>
    intro nf p hp hj
    obtain ⟨m, rfl, -⟩ := nf_of hj
    obtain rfl : p = 3 := by omega
    refine fin_end hG hS hl (fb_ct_le _ _) (fb_ct_le _ _) (fun h => ?_) m v2
    exact fb_ct_zero.mpr fun p hp => by rw [(hG.2.2.2.2.1 l hl h).2 p hp]; rfl
  | succ j ih =>
    intro nf p hp hj
    obtain ⟨m, rfl, hm⟩ := nf_of hj
    have hs := GV_src hG hl (show p < 3 by omega)
    have ih' := ih m (p + 1) (by omega) (by omega)
    rw [fb_ct_succ, fb_ct_succ] at ih'
    rw [J_X2_isFinding_L20]
    unfold J_X2_isFinding_b59
    simp (disch := omega) only [↓reduceIte, nm_x, chk_nI, chz_0, chz_1, chz_b2, chn_nI, oi_1, oi_2, oi_m1, il_0, il_1, il_2, il_3, il_4, il_5, il_6, il_7, il_8, il_9, il_10, il_11, il_12, il_13, il_14, il_15, il_16, il_32, il_35, il_40, il_41, il_42, il_43, il_44, il_45, il_46, il_48, il_57, il_58, il_59, il_60, il_99, il_104, il_115, il_116, il_119, il_126, il_133, il_255, il_256, il_512, il_931, il_1000, il_65536, bn0, bn1, bn2, bn3, bn4, bn5, bn6, bn7, bn8, bn9, bn10, bn11, bn12, bn13, bn14, bn15, nI_leI, nI_ltI, nI_eq, nI_clamp, nI_add, pk_mul, nI_lt0, ng_lt0, ng_ge0, ng_eqn, ng_neq, ng_len, ng_eq, sV_m1, sV_lt0, sV_ge0, if_true, if_false, Nat.le_refl, Nat.lt_irrefl, Nat.not_lt_zero, Nat.zero_le, not_true_eq_false, not_false_eq_true, false_and, true_and, and_true, and_false, true_or, or_true, false_or, or_false, reduceCtorEq, show ¬ 3 ≤ p by omega, hS.2.2.2]
    by_cases h : src g l p = 0
    · simp only [h, if_true]
      simp only [h, ne_eq, not_true_eq_false, decide_false, Bool.false_and, Bool.false_eq_true, if_false, Nat.add_zero] at ih'
      exact ih'
    · simp only [h, if_false, sV_s h, bit_and v2 (src g l p - 1) (by omega)]
      simp only [h, ne_eq, not_false_eq_true, decide_true, Bool.true_and, if_true] at ih'
      cases hb : bt v2 (src g l p - 1)
      · simp only [hb, if_false, Bool.false_eq_true, Nat.add_zero] at ih' ⊢
        rw [nI_add]
        exact ih'
      · simp only [hb, if_true] at ih' ⊢
        rw [nI_add]
        exact ih'
theorem X2_isFinding (hG : GV g) (hS : SR g c k w so) {l : Nat} (hl : l < 16) (v2 : Int32) : J_X2_isFinding k so (nI l) v2 = some (b2 (fin g (bt v2) l)) := by
  unfold J_X2_isFinding
  simp (disch := omega) only [↓reduceIte, nm_x, chk_nI, chz_0, chz_1, chz_b2, chn_nI, oi_1, oi_2, oi_m1, il_0, il_1, il_2, il_3, il_4, il_5, il_6, il_7, il_8, il_9, il_10, il_11, il_12, il_13, il_14, il_15, il_16, il_32, il_35, il_40, il_41, il_42, il_43, il_44, il_45, il_46, il_48, il_57, il_58, il_59, il_60, il_99, il_104, il_115, il_116, il_119, il_126, il_133, il_255, il_256, il_512, il_931, il_1000, il_65536, bn0, bn1, bn2, bn3, bn4, bn5, bn6, bn7, bn8, bn9, bn10, bn11, bn12, bn13, bn14, bn15, nI_leI, nI_ltI, nI_eq, nI_clamp, nI_add, pk_mul, nI_lt0, ng_lt0, ng_ge0, ng_eqn, ng_neq, ng_len, ng_eq, sV_m1, sV_lt0, sV_ge0, if_true, if_false, Nat.le_refl, Nat.lt_irrefl, Nat.not_lt_zero, Nat.zero_le, not_true_eq_false, not_false_eq_true, false_and, true_and, and_true, and_false, true_or, or_true, false_or, or_false, reduceCtorEq, hl]
  exact X2_isFinding_L hG hS hl v2 3 FU 0 rfl (by unfold FU; omega)
theorem lit_cong (hG : GV g) {l : Nat} (hl : l < 16) {G G' : Nat → Bool} (h : ∀ i, i < 16 → G i = G' i) : lit g G l = lit g G' l :=
  fb_ct_cong fun p hp => by
    have hs := GV_src hG hl hp
    by_cases e : src g l p = 0
    · simp [e]
    · rw [h _ (by omega)]
theorem fin_cong (hG : GV g) {l : Nat} (hl : l < 16) {G G' : Nat → Bool} (h : ∀ i, i < 16 → G i = G' i) : fin g G l = fin g G' l := by
  unfold fin
  rw [lit_cong hG hl h]
end LantX2
/-! a tick -/
def nv (g : Nat → Nat) (l : Nat) : Nat := GA g l 7 ||| (if fin g (gw g) l then 2 ^ (GA g l 1 - 1) else 0)
def ng (g : Nat → Nat) (l : Nat) : Nat := if GA g l 0 = 0 then GA g l 2 else nv g l % 2
def nfd (g : Nat → Nat) (l : Nat) : Nat := if GA g l 0 = 0 then GA g l 7 else nv g l / 2
def dg (g : Nat → Nat) (l : Nat) : Nat := if ng g l = GA g l 2 then 0 else 1
theorem nv_lt {g : Nat → Nat} (hG : GV g) {l : Nat} (hl : l < 16) : nv g l < 16 := by
  have h := GV_l hG hl
  unfold nv
  refine Nat.or_lt_two_pow (n := 4) (by omega) ?_
  split
  · exact Nat.pow_lt_pow_right (by decide) (by omega)
  · decide
theorem bl_nI {f i : Nat} (hf : f < 16) (hi : i < 64) : bl (nI f).toInt64 i = f.testBit i := by
  have hb : ∀ j, j < 32 → bt (nI f) j = f.testBit j := fun j hj => by
    unfold bt nI
    show (BitVec.ofNat 32 f).getLsbD j = _
    rw [BitVec.getLsbD_ofNat]
    simp [hj]
  rw [l_of32 _ hi]
  split
  · exact hb i (by assumption)
  · rw [hb 31 (by omega), Nat.testBit_lt_two_pow (Nat.lt_of_lt_of_le hf (p2le (a := 4) (by omega))), Nat.testBit_lt_two_pow (Nat.lt_of_lt_of_le hf (p2le (a := 4) (by omega)))]
/-- the bits of the state behind a tick, for the lanterns below j -/
def BI (g : Nat → Nat) (j : Nat) (v : Int64) : Prop := (∀ l, l < 16 → bl v l = (decide (l < j) && decide (ng g l = 1))) ∧ ∀ l i, l < 16 → i < 3 → bl v (16 + 3 * l + i) = (decide (l < j) && (nfd g l).testBit i)
section TickX2
variable {g : Nat → Nat} {c : Int32} {k w so : Nat → Int32} {st : Int64}
theorem tick_sw (hE : ER g st) {j : Nat} (hj : j < 16) (h0 : GA g j 0 = 0) (h7 : GA g j 7 = 0) {v : Int64} (hv : BI g j v) : BI g (j + 1) (v ||| (st &&& ((1 : Int64) <<< ((nI j).toInt64 &&& 63)))) := by
  constructor
  · intro l hl
    rw [l_or, l_and, l_shl j (by omega) _ (by omega), l_1, hv.1 l hl, hE.1 l hl]
    by_cases e : l = j
    · subst e
      simp [gw, ng, h0]
    · rw [dlt e]
      by_cases e2 : j ≤ l
      · simp [show ¬ l - j = 0 by omega]
      · simp [e2]
  · intro l i hl hi
    rw [l_or, l_and, l_shl j (by omega) _ (by omega), l_1, hv.2 l i hl hi]
    by_cases e : l = j
    · subst e
      simp [nfd, h0, h7]
      omega
    · rw [dlt e]
      simp [show ¬ 16 + 3 * l + i - j = 0 by omega]
theorem tick_gate (hG : GV g) {j : Nat} (hj : j < 16) (h0 : GA g j 0 ≠ 0) {v x : Int64} (hv : BI g j v) (hx : ∀ i, i < 64 → bl x i = (nv g j).testBit i) :
    BI g (j + 1) ((v ||| ((x &&& (1 : Int64)) <<< ((nI j).toInt64 &&& 63))) ||| ((x >>> ((nI 1).toInt64 &&& 63)) <<< ((nI (16 + 3 * j)).toInt64 &&& 63))) := by
  have hnv := nv_lt hG hj
  have hbig : ∀ i, 4 ≤ i → (nv g j).testBit i = false := fun i hi => Nat.testBit_lt_two_pow (Nat.lt_of_lt_of_le hnv (p2le hi))
  have hsh : ∀ i, i < 64 → bl (x >>> ((nI 1).toInt64 &&& 63)) i = (nv g j).testBit (i + 1) := fun i hi => by
    rw [l_sshr 1 (by omega) x hi]
    split
    · rw [hx _ (by omega), Nat.add_comm]
    · rw [hx 63 (by omega), hbig 63 (by omega), hbig _ (by omega)]
  constructor
  · intro l hl
    rw [l_or, l_or, l_shl j (by omega) _ (by omega), l_shl (16 + 3 * j) (by omega) _ (by omega), l_and, l_1, hv.1 l hl, hx (l - j) (by omega)]
    by_cases e : l = j
    · subst e
      simp [ng, h0, Nat.testBit_zero]
      omega
    · rw [dlt e]
      by_cases e2 : j ≤ l
      · simp [show ¬ l - j = 0 by omega]; omega
      · simp [e2]; omega
  · intro l i hl hi
    rw [l_or, l_or, l_shl j (by omega) _ (by omega), l_shl (16 + 3 * j) (by omega) _ (by omega), l_and, l_1, hv.2 l i hl hi, hsh _ (by omega)]
    by_cases e : l = j
    · subst e
      rw [show 16 + 3 * l + i - (16 + 3 * l) = i by omega]
      simp [nfd, h0, show ¬ 16 + 3 * l + i - l = 0 by omega, Nat.testBit_succ]
    · rw [dlt e]
      by_cases e2 : 16 + 3 * j ≤ 16 + 3 * l + i
      · rw [hbig _ (by omega)]
        simp [show ¬ 16 + 3 * l + i - j = 0 by omega]
      · simp [e2, show ¬ 16 + 3 * l + i - j = 0 by omega]
theorem X2_behindTick_L (hG : GV g) (hS : SR g c k w so) (hE : ER g st) {v3 : Int32} (h3 : ∀ i, i < 32 → bt v3 i = (decide (i < 16) && bl st i)) : ∀ d nf j (v : Int64), j + d = g 0 → d < nf → BI g j v → ∃ st', J_X2_behindTick_L11 c k w so st nf v3 v (nI j) = some st' ∧ BI g (g 0) st' := by
  have hn := hG.1
  have hc := hS.1
  intro d
  induction d with
  | zero =>
    intro nf j v hj hd hv
    obtain ⟨m, rfl, -⟩ := nf_of hd
    obtain rfl : j = g 0 := by omega
    refine ⟨v, ?_, hv⟩
    rw [J_X2_behindTick_L11, hc]
    unfold J_X2_behindTick_b121
    simp (disch := omega) only [↓reduceIte, nm_x, chk_nI, chz_0, chz_1, chz_b2, chn_nI, oi_1, oi_2, oi_m1, il_0, il_1, il_2, il_3, il_4, il_5, il_6, il_7, il_8, il_9, il_10, il_11, il_12, il_13, il_14, il_15, il_16, il_32, il_35, il_40, il_41, il_42, il_43, il_44, il_45, il_46, il_48, il_57, il_58, il_59, il_60, il_99, il_104, il_115, il_116, il_119, il_126, il_133, il_255, il_256, il_512, il_931, il_1000, il_65536, bn0, bn1, bn2, bn3, bn4, bn5, bn6, bn7, bn8, bn9, bn10, bn11, bn12, bn13, bn14, bn15, nI_leI, nI_ltI, nI_eq, nI_clamp, nI_add, pk_mul, nI_lt0, ng_lt0, ng_ge0, ng_eqn, ng_neq, ng_len, ng_eq, sV_m1, sV_lt0, sV_ge0, if_true, if_false, Nat.le_refl, Nat.lt_irrefl, Nat.not_lt_zero, Nat.zero_le, not_true_eq_false, not_false_eq_true, false_and, true_and, and_true, and_false, true_or, or_true, false_or, or_false, reduceCtorEq]
  | succ d ih =>
    intro nf j v hj hd hv
    obtain ⟨m, rfl, hm⟩ := nf_of hd
    have hj16 : j < 16 := by omega
    have hl := GV_l hG hj16
    rw [J_X2_behindTick_L11, hc]
    unfold J_X2_behindTick_b115 J_X2_behindTick_b83 J_X2_behindTick_b115
    rw [X2_foundIn hG hE hj16, X2_isFinding hG hS hj16]
    have hfin : fin g (bt v3) j = fin g (gw g) j := fin_cong hG hj16 fun i hi => by rw [h3 i (by omega), hE.1 i hi]; simp [hi]
    simp (disch := omega) only [↓reduceIte, nm_x, chk_nI, chz_0, chz_1, chz_b2, chn_nI, oi_1, oi_2, oi_m1, il_0, il_1, il_2, il_3, il_4, il_5, il_6, il_7, il_8, il_9, il_10, il_11, il_12, il_13, il_14, il_15, il_16, il_32, il_35, il_40, il_41, il_42, il_43, il_44, il_45, il_46, il_48, il_57, il_58, il_59, il_60, il_99, il_104, il_115, il_116, il_119, il_126, il_133, il_255, il_256, il_512, il_931, il_1000, il_65536, bn0, bn1, bn2, bn3, bn4, bn5, bn6, bn7, bn8, bn9, bn10, bn11, bn12, bn13, bn14, bn15, nI_leI, nI_ltI, nI_eq, nI_clamp, nI_add, pk_mul, nI_lt0, ng_lt0, ng_ge0, ng_eqn, ng_neq, ng_len, ng_eq, sV_m1, sV_lt0, sV_ge0, if_true, if_false, Nat.le_refl, Nat.lt_irrefl, Nat.not_lt_zero, Nat.zero_le, not_true_eq_false, not_false_eq_true, false_and, true_and, and_true, and_false, true_or, or_true, false_or, or_false, reduceCtorEq, show ¬ g 0 ≤ j by omega, show ¬ 16 ≤ j by omega, hS.2.1, hS.2.2.1, b2_0, hfin]
    rw [← hc]
    by_cases h0 : GA g j 0 = 0
    · rw [if_pos h0]
      exact ih m (j + 1) _ (by omega) hm (tick_sw hE hj16 h0 (hG.2.2.2.2.1 j hj16 h0).1 hv)
    · rw [if_neg h0]
      by_cases hf : fin g (gw g) j = false
      · rw [if_pos hf]
        exact ih m (j + 1) _ (by omega) hm (tick_gate hG hj16 h0 hv (fun i hi => by
          rw [l_or, l_0, bl_nI (by omega) hi, nv, hf]
          simp))
      · rw [if_neg hf]
        have hw1 := (hG.2.2.2.1 j (by omega)).1
        rw [pk_sub hw1]
        exact ih m (j + 1) _ (by omega) hm (tick_gate hG hj16 h0 hv (fun i hi => by
          rw [l_or, l_shl _ (by omega) _ hi, l_1, bl_nI (by omega) hi, nv, if_pos (by simpa using hf), Nat.testBit_or, Nat.testBit_two_pow]
          congr 1
          by_cases e : GA g j 1 - 1 = i
          · simp [e]
          · by_cases e2 : GA g j 1 - 1 ≤ i
            · simp [e, e2]; omega
            · simp [e, e2]))
theorem X2_behindTick (hG : GV g) (hS : SR g c k w so) (hE : ER g st) : ∃ st', J_X2_behindTick c k w so st = some st' ∧ (∀ l, l < 16 → bl st' l = decide (ng g l = 1)) ∧ ∀ l i, l < 16 → i < 3 → bl st' (16 + 3 * l + i) = (nfd g l).testBit i := by
  unfold J_X2_behindTick
  obtain ⟨v3, e3, h3⟩ := X2_glowIn st
  rw [e3]
  simp only [bn1, il_0]
  obtain ⟨st', h1, h2⟩ := X2_behindTick_L hG hS hE h3 (g 0) FU 0 0 (by omega) (by have := hG.1; unfold FU; omega) ⟨fun l hl => by rw [l_0]; simp, fun l i hl hi => by rw [l_0]; simp⟩
  have hz : ∀ l, l < 16 → ¬ l < g 0 → GA g l 0 = 0 ∧ GA g l 2 = 0 ∧ GA g l 7 = 0 := fun l hl h => by
    have := hG.2.2.2.2.2
    exact ⟨this _ (by omega) (by omega), this _ (by omega) (by omega), this _ (by omega) (by omega)⟩
  refine ⟨st', h1, fun l hl => ?_, fun l i hl hi => ?_⟩
  · rw [h2.1 l hl]
    by_cases h : l < g 0
    · simp [h]
    · obtain ⟨a1, a2, a3⟩ := hz l hl h
      simp [h, ng, a1, a2]
  · rw [h2.2 l i hl hi]
    by_cases h : l < g 0
    · simp [h]
    · obtain ⟨a1, a2, a3⟩ := hz l hl h
      simp [h, nfd, a1, a3]
end TickX2

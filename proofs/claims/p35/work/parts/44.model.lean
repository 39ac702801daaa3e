/-! THE REFERENCE: its own words of a lantern -/
def updn (g : Nat → Nat) (i x : Nat) : Nat → Nat := fun j => if j = i then x else g j
theorem MR_upd {g : Nat → Nat} {nw : Nat → Int32} (h : MR g nw) (i x : Nat) : MR (updn g i x) (upd nw i (nI x)) := fun j hj => by
  unfold updn upd
  by_cases e : j = i
  · rw [if_pos e, if_pos e]
  · rw [if_neg e, if_neg e]; exact h j hj
theorem X10_in_t {v a b : Int32} (h1 : ¬ v < a) (h2 : ¬ b < v) : J_X10_in v a b = some (nI 1) := by
  unfold J_X10_in J_X10_in_b15
  rw [if_neg h1, if_neg h2]
  simp only [↓reduceIte, nm_x, chk_nI, chz_0, chz_1, chz_b2, chn_nI, oi_1, oi_2, oi_m1, il_0, il_1, il_2, il_3, il_4, il_5, il_6, il_7, il_8, il_9, il_10, il_11, il_12, il_13, il_14, il_15, il_16, il_32, il_35, il_40, il_41, il_42, il_43, il_44, il_45, il_46, il_48, il_57, il_58, il_59, il_60, il_99, il_104, il_115, il_116, il_119, il_126, il_133, il_255, il_256, il_512, il_931, il_1000, il_65536, bn0, bn1, bn2, bn3, bn4, bn5, bn6, bn7, bn8, bn9, bn10, bn11, bn12, bn13, bn14, bn15, nI_leI, nI_ltI, nI_eq, nI_clamp, nI_add, pk_mul, nI_lt0, ng_lt0, ng_ge0, ng_eqn, ng_neq, ng_len, ng_eq, sV_m1, sV_lt0, sV_ge0, if_true, if_false, Nat.le_refl, Nat.lt_irrefl, Nat.not_lt_zero, Nat.zero_le, not_true_eq_false, not_false_eq_true, false_and, true_and, and_true, and_false, true_or, or_true, false_or, or_false, reduceCtorEq]
theorem X10_in_f {v a b : Int32} (h : v < a ∨ b < v) : J_X10_in v a b = some (nI 0) := by
  unfold J_X10_in J_X10_in_b14 J_X10_in_b15
  by_cases h1 : v < a
  · rw [if_pos h1]; simp only [↓reduceIte, nm_x, chk_nI, chz_0, chz_1, chz_b2, chn_nI, oi_1, oi_2, oi_m1, il_0, il_1, il_2, il_3, il_4, il_5, il_6, il_7, il_8, il_9, il_10, il_11, il_12, il_13, il_14, il_15, il_16, il_32, il_35, il_40, il_41, il_42, il_43, il_44, il_45, il_46, il_48, il_57, il_58, il_59, il_60, il_99, il_104, il_115, il_116, il_119, il_126, il_133, il_255, il_256, il_512, il_931, il_1000, il_65536, bn0, bn1, bn2, bn3, bn4, bn5, bn6, bn7, bn8, bn9, bn10, bn11, bn12, bn13, bn14, bn15, nI_leI, nI_ltI, nI_eq, nI_clamp, nI_add, pk_mul, nI_lt0, ng_lt0, ng_ge0, ng_eqn, ng_neq, ng_len, ng_eq, sV_m1, sV_lt0, sV_ge0, if_true, if_false, Nat.le_refl, Nat.lt_irrefl, Nat.not_lt_zero, Nat.zero_le, not_true_eq_false, not_false_eq_true, false_and, true_and, and_true, and_false, true_or, or_true, false_or, or_false, reduceCtorEq]
  · rw [if_neg h1, if_pos (h.resolve_left h1)]; simp only [↓reduceIte, nm_x, chk_nI, chz_0, chz_1, chz_b2, chn_nI, oi_1, oi_2, oi_m1, il_0, il_1, il_2, il_3, il_4, il_5, il_6, il_7, il_8, il_9, il_10, il_11, il_12, il_13, il_14, il_15, il_16, il_32, il_35, il_40, il_41, il_42, il_43, il_44, il_45, il_46, il_48, il_57, il_58, il_59, il_60, il_99, il_104, il_115, il_116, il_119, il_126, il_133, il_255, il_256, il_512, il_931, il_1000, il_65536, bn0, bn1, bn2, bn3, bn4, bn5, bn6, bn7, bn8, bn9, bn10, bn11, bn12, bn13, bn14, bn15, nI_leI, nI_ltI, nI_eq, nI_clamp, nI_add, pk_mul, nI_lt0, ng_lt0, ng_ge0, ng_eqn, ng_neq, ng_len, ng_eq, sV_m1, sV_lt0, sV_ge0, if_true, if_false, Nat.le_refl, Nat.lt_irrefl, Nat.not_lt_zero, Nat.zero_le, not_true_eq_false, not_false_eq_true, false_and, true_and, and_true, and_false, true_or, or_true, false_or, or_false, reduceCtorEq]
section Mdl
variable {g : Nat → Nat} {nw : Nat → Int32}
theorem MR_0 (hM : MR g nw) : nw (nI 0).toNatClampNeg = nI (g 0) := by rw [nI_clamp (by omega)]; exact hM 0 (by omega)
theorem X10_isLantern_t (hG : GV g) (hM : MR g nw) {l : Nat} (hl : l < g 0) : J_X10_isLantern nw (nI l) = some (nI 1) := by
  have hn := hG.1
  unfold J_X10_isLantern
  simp only [il_0, il_1, nm_x]
  have hin : J_X10_in (nI l) (nI 0) (nI (g 0 - 1)) = some (nI 1) := X10_in_t (nI_pos (by omega)) (nI_nlt (by omega) (by omega))
  rw [chk_nI (by omega) (by omega), MR_0 hM, sV_sub, sV_s (by omega), hin]
  simp only [↓reduceIte, nm_x, chk_nI, chz_0, chz_1, chz_b2, chn_nI, oi_1, oi_2, oi_m1, il_0, il_1, il_2, il_3, il_4, il_5, il_6, il_7, il_8, il_9, il_10, il_11, il_12, il_13, il_14, il_15, il_16, il_32, il_35, il_40, il_41, il_42, il_43, il_44, il_45, il_46, il_48, il_57, il_58, il_59, il_60, il_99, il_104, il_115, il_116, il_119, il_126, il_133, il_255, il_256, il_512, il_931, il_1000, il_65536, bn0, bn1, bn2, bn3, bn4, bn5, bn6, bn7, bn8, bn9, bn10, bn11, bn12, bn13, bn14, bn15, nI_leI, nI_ltI, nI_eq, nI_clamp, nI_add, pk_mul, nI_lt0, ng_lt0, ng_ge0, ng_eqn, ng_neq, ng_len, ng_eq, sV_m1, sV_lt0, sV_ge0, if_true, if_false, Nat.le_refl, Nat.lt_irrefl, Nat.not_lt_zero, Nat.zero_le, not_true_eq_false, not_false_eq_true, false_and, true_and, and_true, and_false, true_or, or_true, false_or, or_false, reduceCtorEq]
theorem X10_isLantern_f (hG : GV g) (hM : MR g nw) {v : Int32} (hv : v < 0 ∨ nI (g 0) ≤ v) : J_X10_isLantern nw v = some (nI 0) := by
  have hn := hG.1
  unfold J_X10_isLantern
  simp only [il_0, il_1, nm_x]
  rw [chk_nI (by omega) (by omega), MR_0 hM, sV_sub, X10_in_f]
  · simp only [↓reduceIte, nm_x, chk_nI, chz_0, chz_1, chz_b2, chn_nI, oi_1, oi_2, oi_m1, il_0, il_1, il_2, il_3, il_4, il_5, il_6, il_7, il_8, il_9, il_10, il_11, il_12, il_13, il_14, il_15, il_16, il_32, il_35, il_40, il_41, il_42, il_43, il_44, il_45, il_46, il_48, il_57, il_58, il_59, il_60, il_99, il_104, il_115, il_116, il_119, il_126, il_133, il_255, il_256, il_512, il_931, il_1000, il_65536, bn0, bn1, bn2, bn3, bn4, bn5, bn6, bn7, bn8, bn9, bn10, bn11, bn12, bn13, bn14, bn15, nI_leI, nI_ltI, nI_eq, nI_clamp, nI_add, pk_mul, nI_lt0, ng_lt0, ng_ge0, ng_eqn, ng_neq, ng_len, ng_eq, sV_m1, sV_lt0, sV_ge0, if_true, if_false, Nat.le_refl, Nat.lt_irrefl, Nat.not_lt_zero, Nat.zero_le, not_true_eq_false, not_false_eq_true, false_and, true_and, and_true, and_false, true_or, or_true, false_or, or_false, reduceCtorEq]
  · by_cases h0 : v < nI 0
    · exact Or.inl h0
    · right
      have h1 := hv.resolve_left h0
      obtain ⟨j, hj, rfl⟩ := nI_of h0
      rw [nI_leI (by omega) hj] at h1
      by_cases e : g 0 = 0
      · rw [e, sV_0]
        rw [fa_lt, nI_toInt hj, ng_toInt (by omega)]
        omega
      · rw [sV_s e, nI_ltI (by omega) hj]
        omega
theorem X10_of (hM : MR g nw) {l w : Nat} (hl : l < 16) (hw : w < 8) : J_X10_of nw (nI l) (nI w) = some (nI (GA g l w)) := by
  unfold J_X10_of
  simp (disch := omega) only [↓reduceIte, nm_x, chk_nI, chz_0, chz_1, chz_b2, chn_nI, oi_1, oi_2, oi_m1, il_0, il_1, il_2, il_3, il_4, il_5, il_6, il_7, il_8, il_9, il_10, il_11, il_12, il_13, il_14, il_15, il_16, il_32, il_35, il_40, il_41, il_42, il_43, il_44, il_45, il_46, il_48, il_57, il_58, il_59, il_60, il_99, il_104, il_115, il_116, il_119, il_126, il_133, il_255, il_256, il_512, il_931, il_1000, il_65536, bn0, bn1, bn2, bn3, bn4, bn5, bn6, bn7, bn8, bn9, bn10, bn11, bn12, bn13, bn14, bn15, nI_leI, nI_ltI, nI_eq, nI_clamp, nI_add, pk_mul, nI_lt0, ng_lt0, ng_ge0, ng_eqn, ng_neq, ng_len, ng_eq, sV_m1, sV_lt0, sV_ge0, if_true, if_false, Nat.le_refl, Nat.lt_irrefl, Nat.not_lt_zero, Nat.zero_le, not_true_eq_false, not_false_eq_true, false_and, true_and, and_true, and_false, true_or, or_true, false_or, or_false, reduceCtorEq]
  rw [hM _ (by omega)]
  rfl
theorem X10_sets {l w : Nat} (hl : l < 16) (hw : w < 8) (v : Int32) : J_X10_sets nw (nI l) (nI w) v = some (upd nw (5 + 8 * l + w) v) := by
  unfold J_X10_sets
  simp (disch := omega) only [↓reduceIte, nm_x, chk_nI, chz_0, chz_1, chz_b2, chn_nI, oi_1, oi_2, oi_m1, il_0, il_1, il_2, il_3, il_4, il_5, il_6, il_7, il_8, il_9, il_10, il_11, il_12, il_13, il_14, il_15, il_16, il_32, il_35, il_40, il_41, il_42, il_43, il_44, il_45, il_46, il_48, il_57, il_58, il_59, il_60, il_99, il_104, il_115, il_116, il_119, il_126, il_133, il_255, il_256, il_512, il_931, il_1000, il_65536, bn0, bn1, bn2, bn3, bn4, bn5, bn6, bn7, bn8, bn9, bn10, bn11, bn12, bn13, bn14, bn15, nI_leI, nI_ltI, nI_eq, nI_clamp, nI_add, pk_mul, nI_lt0, ng_lt0, ng_ge0, ng_eqn, ng_neq, ng_len, ng_eq, sV_m1, sV_lt0, sV_ge0, if_true, if_false, Nat.le_refl, Nat.lt_irrefl, Nat.not_lt_zero, Nat.zero_le, not_true_eq_false, not_false_eq_true, false_and, true_and, and_true, and_false, true_or, or_true, false_or, or_false, reduceCtorEq]
theorem X10_isSwitch (hG : GV g) (hM : MR g nw) {l : Nat} (hl : l < 16) : J_X10_isSwitch nw (nI l) = some (b2 (decide (GA g l 0 = 0))) := by
  have h6 := (GV_l hG hl).1
  unfold J_X10_isSwitch J_X10_isSwitch_b14
  simp only [il_0]
  rw [X10_of hM hl (by omega)]
  simp (disch := omega) only [↓reduceIte, nm_x, chk_nI, chz_0, chz_1, chz_b2, chn_nI, oi_1, oi_2, oi_m1, il_0, il_1, il_2, il_3, il_4, il_5, il_6, il_7, il_8, il_9, il_10, il_11, il_12, il_13, il_14, il_15, il_16, il_32, il_35, il_40, il_41, il_42, il_43, il_44, il_45, il_46, il_48, il_57, il_58, il_59, il_60, il_99, il_104, il_115, il_116, il_119, il_126, il_133, il_255, il_256, il_512, il_931, il_1000, il_65536, bn0, bn1, bn2, bn3, bn4, bn5, bn6, bn7, bn8, bn9, bn10, bn11, bn12, bn13, bn14, bn15, nI_leI, nI_ltI, nI_eq, nI_clamp, nI_add, pk_mul, nI_lt0, ng_lt0, ng_ge0, ng_eqn, ng_neq, ng_len, ng_eq, sV_m1, sV_lt0, sV_ge0, if_true, if_false, Nat.le_refl, Nat.lt_irrefl, Nat.not_lt_zero, Nat.zero_le, not_true_eq_false, not_false_eq_true, false_and, true_and, and_true, and_false, true_or, or_true, false_or, or_false, reduceCtorEq]
  by_cases h : GA g l 0 = 0
  · simp only [h, if_true, decide_true, b2_t]
  · simp only [h, if_false, decide_false, b2_f]
def plc (kd : Nat) : Nat := if kd = 0 then 0 else if kd = 1 then 1 else if kd = 6 then 1 else if kd = 4 then 2 else 3
theorem plc_le (kd : Nat) : plc kd ≤ 3 := by unfold plc; (repeat' split) <;> omega
theorem X10_places (hG : GV g) (hM : MR g nw) {l : Nat} (hl : l < 16) : J_X10_places nw (nI l) = some (nI (plc (GA g l 0))) := by
  have h6 := (GV_l hG hl).1
  unfold J_X10_places
  simp only [il_0]
  rw [X10_of hM hl (by omega)]
  simp (disch := omega) only [↓reduceIte, nm_x, chk_nI, chz_0, chz_1, chz_b2, chn_nI, oi_1, oi_2, oi_m1, il_0, il_1, il_2, il_3, il_4, il_5, il_6, il_7, il_8, il_9, il_10, il_11, il_12, il_13, il_14, il_15, il_16, il_32, il_35, il_40, il_41, il_42, il_43, il_44, il_45, il_46, il_48, il_57, il_58, il_59, il_60, il_99, il_104, il_115, il_116, il_119, il_126, il_133, il_255, il_256, il_512, il_931, il_1000, il_65536, bn0, bn1, bn2, bn3, bn4, bn5, bn6, bn7, bn8, bn9, bn10, bn11, bn12, bn13, bn14, bn15, nI_leI, nI_ltI, nI_eq, nI_clamp, nI_add, pk_mul, nI_lt0, ng_lt0, ng_ge0, ng_eqn, ng_neq, ng_len, ng_eq, sV_m1, sV_lt0, sV_ge0, if_true, if_false, Nat.le_refl, Nat.lt_irrefl, Nat.not_lt_zero, Nat.zero_le, not_true_eq_false, not_false_eq_true, false_and, true_and, and_true, and_false, true_or, or_true, false_or, or_false, reduceCtorEq]
  rcases (show GA g l 0 = 0 ∨ GA g l 0 = 1 ∨ GA g l 0 = 2 ∨ GA g l 0 = 3 ∨ GA g l 0 = 4 ∨ GA g l 0 = 5 ∨ GA g l 0 = 6 by omega) with h | h | h | h | h | h | h <;> rw [h] <;> rfl
theorem X9_placesOf {kd : Nat} (h : kd ≤ 6) : J_X9_placesOf (nI kd) = some (nI (plc kd)) := by
  unfold J_X9_placesOf
  simp (disch := omega) only [↓reduceIte, nm_x, chk_nI, chz_0, chz_1, chz_b2, chn_nI, oi_1, oi_2, oi_m1, il_0, il_1, il_2, il_3, il_4, il_5, il_6, il_7, il_8, il_9, il_10, il_11, il_12, il_13, il_14, il_15, il_16, il_32, il_35, il_40, il_41, il_42, il_43, il_44, il_45, il_46, il_48, il_57, il_58, il_59, il_60, il_99, il_104, il_115, il_116, il_119, il_126, il_133, il_255, il_256, il_512, il_931, il_1000, il_65536, bn0, bn1, bn2, bn3, bn4, bn5, bn6, bn7, bn8, bn9, bn10, bn11, bn12, bn13, bn14, bn15, nI_leI, nI_ltI, nI_eq, nI_clamp, nI_add, pk_mul, nI_lt0, ng_lt0, ng_ge0, ng_eqn, ng_neq, ng_len, ng_eq, sV_m1, sV_lt0, sV_ge0, if_true, if_false, Nat.le_refl, Nat.lt_irrefl, Nat.not_lt_zero, Nat.zero_le, not_true_eq_false, not_false_eq_true, false_and, true_and, and_true, and_false, true_or, or_true, false_or, or_false, reduceCtorEq]
  rcases (show kd = 0 ∨ kd = 1 ∨ kd = 2 ∨ kd = 3 ∨ kd = 4 ∨ kd = 5 ∨ kd = 6 by omega) with h | h | h | h | h | h | h <;> rw [h] <;> rfl
theorem X10_wired (hM : MR g nw) {l p : Nat} (hl : l < 16) (hp : p < 3) : J_X10_wired nw (nI l) (nI p) = some (sV (src g l p)) := by
  unfold J_X10_wired
  simp only [il_4, nm_x, nI_add]
  rw [X10_of hM hl (by omega)]
  simp only [bn1, il_1, sV_sub]
  rfl
theorem X10_wiresTo_L (hG : GV g) (hM : MR g nw) {l : Nat} (hl : l < 16) : ∀ j nf p, p + j = 3 → j < nf → J_X10_wiresTo_L4 nw (nI l) nf (nI (fb_ct (fun p => decide (src g l p ≠ 0)) p)) (nI p) = some (nI (wct g l)) := by
  intro j
  induction j with
  | zero =>
    intro nf p hp hj
    obtain ⟨m, rfl, -⟩ := nf_of hj
    obtain rfl : p = 3 := by omega
    rw [J_X10_wiresTo_L4]
    simp (disch := omega) only [↓reduceIte, nm_x, chk_nI, chz_0, chz_1, chz_b2, chn_nI, oi_1, oi_2, oi_m1, il_0, il_1, il_2, il_3, il_4, il_5, il_6, il_7, il_8, il_9, il_10, il_11, il_12, il_13, il_14, il_15, il_16, il_32, il_35, il_40, il_41, il_42, il_43, il_44, il_45, il_46, il_48, il_57, il_58, il_59, il_60, il_99, il_104, il_115, il_116, il_119, il_126, il_133, il_255, il_256, il_512, il_931, il_1000, il_65536, bn0, bn1, bn2, bn3, bn4, bn5, bn6, bn7, bn8, bn9, bn10, bn11, bn12, bn13, bn14, bn15, nI_leI, nI_ltI, nI_eq, nI_clamp, nI_add, pk_mul, nI_lt0, ng_lt0, ng_ge0, ng_eqn, ng_neq, ng_len, ng_eq, sV_m1, sV_lt0, sV_ge0, if_true, if_false, Nat.le_refl, Nat.lt_irrefl, Nat.not_lt_zero, Nat.zero_le, not_true_eq_false, not_false_eq_true, false_and, true_and, and_true, and_false, true_or, or_true, false_or, or_false, reduceCtorEq]
    rfl
  | succ j ih =>
    intro nf p hp hj
    obtain ⟨m, rfl, hm⟩ := nf_of hj
    have hs := GV_src hG hl (show p < 3 by omega)
    have ih' := ih m (p + 1) (by omega) (by omega)
    rw [fb_ct_succ] at ih'
    rw [J_X10_wiresTo_L4, X10_wired hM hl (by omega)]
    unfold J_X10_wiresTo_b21
    simp (disch := omega) only [↓reduceIte, nm_x, chk_nI, chz_0, chz_1, chz_b2, chn_nI, oi_1, oi_2, oi_m1, il_0, il_1, il_2, il_3, il_4, il_5, il_6, il_7, il_8, il_9, il_10, il_11, il_12, il_13, il_14, il_15, il_16, il_32, il_35, il_40, il_41, il_42, il_43, il_44, il_45, il_46, il_48, il_57, il_58, il_59, il_60, il_99, il_104, il_115, il_116, il_119, il_126, il_133, il_255, il_256, il_512, il_931, il_1000, il_65536, bn0, bn1, bn2, bn3, bn4, bn5, bn6, bn7, bn8, bn9, bn10, bn11, bn12, bn13, bn14, bn15, nI_leI, nI_ltI, nI_eq, nI_clamp, nI_add, pk_mul, nI_lt0, ng_lt0, ng_ge0, ng_eqn, ng_neq, ng_len, ng_eq, sV_m1, sV_lt0, sV_ge0, if_true, if_false, Nat.le_refl, Nat.lt_irrefl, Nat.not_lt_zero, Nat.zero_le, not_true_eq_false, not_false_eq_true, false_and, true_and, and_true, and_false, true_or, or_true, false_or, or_false, reduceCtorEq, show ¬ 3 ≤ p by omega]
    by_cases h : src g l p = 0
    · simp only [h, if_true]
      simp only [h, ne_eq, not_true_eq_false, decide_false, Bool.false_eq_true, if_false, Nat.add_zero] at ih'
      exact ih'
    · simp only [h, if_false]
      simp only [h, ne_eq, not_false_eq_true, decide_true, if_true] at ih'
      exact ih'
theorem X10_wiresTo (hG : GV g) (hM : MR g nw) {l : Nat} (hl : l < 16) : J_X10_wiresTo nw (nI l) = some (nI (wct g l)) := by
  unfold J_X10_wiresTo
  simp only [il_0]
  exact X10_wiresTo_L hG hM hl 3 FU 0 rfl (by unfold FU; omega)
theorem X10_found {kd li wd : Nat} (h6 : kd ≤ 6) (hw : wd ≤ 3) (hli : li ≤ 3) : J_X10_found (nI kd) (nI li) (nI wd) = some (b2 (fnd kd wd li)) := by
  unfold J_X10_found J_X10_found_b49 J_X10_found_b60 J_X10_found_b77 J_X10_found_b87
  have hr : nI li - nI li / nI 2 * nI 2 = nI (li % 2) := pk_rem (by omega) (by omega) (by omega)
  simp (disch := omega) only [↓reduceIte, nm_x, chk_nI, chz_0, chz_1, chz_b2, chn_nI, oi_1, oi_2, oi_m1, il_0, il_1, il_2, il_3, il_4, il_5, il_6, il_7, il_8, il_9, il_10, il_11, il_12, il_13, il_14, il_15, il_16, il_32, il_35, il_40, il_41, il_42, il_43, il_44, il_45, il_46, il_48, il_57, il_58, il_59, il_60, il_99, il_104, il_115, il_116, il_119, il_126, il_133, il_255, il_256, il_512, il_931, il_1000, il_65536, bn0, bn1, bn2, bn3, bn4, bn5, bn6, bn7, bn8, bn9, bn10, bn11, bn12, bn13, bn14, bn15, nI_leI, nI_ltI, nI_eq, nI_clamp, nI_add, pk_mul, nI_lt0, ng_lt0, ng_ge0, ng_eqn, ng_neq, ng_len, ng_eq, sV_m1, sV_lt0, sV_ge0, if_true, if_false, Nat.le_refl, Nat.lt_irrefl, Nat.not_lt_zero, Nat.zero_le, not_true_eq_false, not_false_eq_true, false_and, true_and, and_true, and_false, true_or, or_true, false_or, or_false, reduceCtorEq, hr]
  unfold fnd
  by_cases hw0 : wd = 0
  · simp only [hw0, if_true, b2_f]
  · simp only [hw0, if_false]
    rcases (show kd = 0 ∨ kd = 1 ∨ kd = 2 ∨ kd = 3 ∨ kd = 4 ∨ kd = 5 ∨ kd = 6 by omega) with h | h | h | h | h | h | h <;> subst h <;> simp only [if_true, if_false, Nat.reduceEqDiff, if_true, if_false, Nat.le_refl, Nat.lt_irrefl, Nat.not_lt_zero, Nat.zero_le, not_true_eq_false, not_false_eq_true, false_and, true_and, and_true, and_false, true_or, or_true, false_or, or_false, reduceCtorEq]
    · by_cases q : li = 0
      · simp [q, b2_f]
      · simp [q, show 0 < li by omega, b2_t]
    · by_cases q : li = 0 <;> simp [q, b2_t, b2_f]
    · by_cases q : li = wd <;> simp [q, b2_t, b2_f]
    · by_cases q : li = 0
      · simp [q, b2_f]
      · simp [q, show 0 < li by omega, b2_t]
    · rcases Nat.mod_two_eq_zero_or_one li with q | q <;> simp [q, b2_t, b2_f]
    · by_cases q : 2 * li ≤ wd
      · rw [if_pos q, decide_eq_false (by omega), b2_f]
      · rw [if_neg q, decide_eq_true (by omega), b2_t]
    · by_cases q : li = 0
      · simp [q, b2_f]
      · simp [q, show 0 < li by omega, b2_t]
theorem gw_n (hG : GV g) {l : Nat} (hl : l < 16) : GA g l 2 = if gw g l then 1 else 0 := by
  have := (GV_l hG hl).2.2.1
  unfold gw
  by_cases e : GA g l 2 = 1
  · simp [e]
  · simp [e]; omega
theorem X10_findsNow_L (hG : GV g) (hM : MR g nw) {l : Nat} (hl : l < 16) : ∀ j nf p, p + j = 3 → j < nf → J_X10_findsNow_L14 nw (nI l) nf (nI (fb_ct (fun p => decide (src g l p ≠ 0) && gw g (src g l p - 1)) p)) (nI p) = some (b2 (fin g (gw g) l)) := by
  intro j
  induction j with
  | zero =>
    intro nf p hp hj
    obtain ⟨m, rfl, -⟩ := nf_of hj
    obtain rfl : p = 3 := by omega
    rw [J_X10_findsNow_L14]
    simp only [il_0]
    rw [X10_of hM hl (by omega), X10_wiresTo hG hM hl]
    simp (disch := omega) only [↓reduceIte, nm_x, chk_nI, chz_0, chz_1, chz_b2, chn_nI, oi_1, oi_2, oi_m1, il_0, il_1, il_2, il_3, il_4, il_5, il_6, il_7, il_8, il_9, il_10, il_11, il_12, il_13, il_14, il_15, il_16, il_32, il_35, il_40, il_41, il_42, il_43, il_44, il_45, il_46, il_48, il_57, il_58, il_59, il_60, il_99, il_104, il_115, il_116, il_119, il_126, il_133, il_255, il_256, il_512, il_931, il_1000, il_65536, bn0, bn1, bn2, bn3, bn4, bn5, bn6, bn7, bn8, bn9, bn10, bn11, bn12, bn13, bn14, bn15, nI_leI, nI_ltI, nI_eq, nI_clamp, nI_add, pk_mul, nI_lt0, ng_lt0, ng_ge0, ng_eqn, ng_neq, ng_len, ng_eq, sV_m1, sV_lt0, sV_ge0, if_true, if_false, Nat.le_refl, Nat.lt_irrefl, Nat.not_lt_zero, Nat.zero_le, not_true_eq_false, not_false_eq_true, false_and, true_and, and_true, and_false, true_or, or_true, false_or, or_false, reduceCtorEq]
    have hf := X10_found (kd := GA g l 0) (li := lit g (gw g) l) (wd := wct g l) (GV_l hG hl).1 (fb_ct_le _ _) (fb_ct_le _ _)
    rw [show fb_ct (fun p => decide (src g l p ≠ 0) && gw g (src g l p - 1)) 3 = lit g (gw g) l from rfl, hf]
    rfl
  | succ j ih =>
    intro nf p hp hj
    obtain ⟨m, rfl, hm⟩ := nf_of hj
    have hs := GV_src hG hl (show p < 3 by omega)
    have ih' := ih m (p + 1) (by omega) (by omega)
    rw [fb_ct_succ] at ih'
    rw [J_X10_findsNow_L14, X10_wired hM hl (by omega)]
    unfold J_X10_findsNow_b42
    simp (disch := omega) only [↓reduceIte, nm_x, chk_nI, chz_0, chz_1, chz_b2, chn_nI, oi_1, oi_2, oi_m1, il_0, il_1, il_2, il_3, il_4, il_5, il_6, il_7, il_8, il_9, il_10, il_11, il_12, il_13, il_14, il_15, il_16, il_32, il_35, il_40, il_41, il_42, il_43, il_44, il_45, il_46, il_48, il_57, il_58, il_59, il_60, il_99, il_104, il_115, il_116, il_119, il_126, il_133, il_255, il_256, il_512, il_931, il_1000, il_65536, bn0, bn1, bn2, bn3, bn4, bn5, bn6, bn7, bn8, bn9, bn10, bn11, bn12, bn13, bn14, bn15, nI_leI, nI_ltI, nI_eq, nI_clamp, nI_add, pk_mul, nI_lt0, ng_lt0, ng_ge0, ng_eqn, ng_neq, ng_len, ng_eq, sV_m1, sV_lt0, sV_ge0, if_true, if_false, Nat.le_refl, Nat.lt_irrefl, Nat.not_lt_zero, Nat.zero_le, not_true_eq_false, not_false_eq_true, false_and, true_and, and_true, and_false, true_or, or_true, false_or, or_false, reduceCtorEq, show ¬ 3 ≤ p by omega]
    by_cases h : src g l p = 0
    · simp only [h, if_true]
      simp only [h, ne_eq, not_true_eq_false, decide_false, Bool.false_and, Bool.false_eq_true, if_false, Nat.add_zero] at ih'
      exact ih'
    · simp only [h, if_false, sV_s h]
      rw [X10_of hM (show src g l p - 1 < 16 by omega) (by omega)]
      simp only [h, ne_eq, not_false_eq_true, decide_true, Bool.true_and] at ih'
      simp only [bn1, nI_add]
      rw [gw_n hG (show src g l p - 1 < 16 by omega)]
      exact ih'
theorem X10_findsNow (hG : GV g) (hM : MR g nw) {l : Nat} (hl : l < 16) : J_X10_findsNow nw (nI l) = some (b2 (fin g (gw g) l)) := by
  unfold J_X10_findsNow
  rw [X10_isSwitch hG hM hl]
  simp only [bn1, il_0, b2_0, decide_eq_false_iff_not]
  by_cases h : GA g l 0 = 0
  · rw [if_neg (by simpa using h)]
    have : fin g (gw g) l = false := by
      have h0 : wct g l = 0 := fb_ct_zero.mpr fun p hp => by rw [(hG.2.2.2.2.1 l hl h).2 p hp]; rfl
      unfold fin fnd
      rw [h0, if_pos rfl]
    rw [this, b2_f]
  · rw [if_pos h]
    exact X10_findsNow_L hG hM hl 3 FU 0 rfl (by unfold FU; omega)
theorem X10_allFind_L (hG : GV g) (hM : MR g nw) : ∀ d nf j (fi : Nat → Int32), j + d = g 0 → d < nf → (∀ l, l < j → fi l = b2 (fin g (gw g) l)) → ∃ fi', J_X10_allFind_L2 nw nf fi (nI j) = some fi' ∧ ∀ l, l < g 0 → fi' l = b2 (fin g (gw g) l) := by
  have hn := hG.1
  intro d
  induction d with
  | zero =>
    intro nf j fi hj hd hf
    obtain ⟨m, rfl, -⟩ := nf_of hd
    obtain rfl : j = g 0 := by omega
    refine ⟨fi, ?_, hf⟩
    rw [J_X10_allFind_L2]
    simp (disch := omega) only [↓reduceIte, nm_x, chk_nI, chz_0, chz_1, chz_b2, chn_nI, oi_1, oi_2, oi_m1, il_0, il_1, il_2, il_3, il_4, il_5, il_6, il_7, il_8, il_9, il_10, il_11, il_12, il_13, il_14, il_15, il_16, il_32, il_35, il_40, il_41, il_42, il_43, il_44, il_45, il_46, il_48, il_57, il_58, il_59, il_60, il_99, il_104, il_115, il_116, il_119, il_126, il_133, il_255, il_256, il_512, il_931, il_1000, il_65536, bn0, bn1, bn2, bn3, bn4, bn5, bn6, bn7, bn8, bn9, bn10, bn11, bn12, bn13, bn14, bn15, nI_leI, nI_ltI, nI_eq, nI_clamp, nI_add, pk_mul, nI_lt0, ng_lt0, ng_ge0, ng_eqn, ng_neq, ng_len, ng_eq, sV_m1, sV_lt0, sV_ge0, if_true, if_false, Nat.le_refl, Nat.lt_irrefl, Nat.not_lt_zero, Nat.zero_le, not_true_eq_false, not_false_eq_true, false_and, true_and, and_true, and_false, true_or, or_true, false_or, or_false, reduceCtorEq, hM 0 (by omega)]
  | succ d ih =>
    intro nf j fi hj hd hf
    obtain ⟨m, rfl, hm⟩ := nf_of hd
    rw [J_X10_allFind_L2, X10_findsNow hG hM (show j < 16 by omega)]
    simp (disch := omega) only [↓reduceIte, nm_x, chk_nI, chz_0, chz_1, chz_b2, chn_nI, oi_1, oi_2, oi_m1, il_0, il_1, il_2, il_3, il_4, il_5, il_6, il_7, il_8, il_9, il_10, il_11, il_12, il_13, il_14, il_15, il_16, il_32, il_35, il_40, il_41, il_42, il_43, il_44, il_45, il_46, il_48, il_57, il_58, il_59, il_60, il_99, il_104, il_115, il_116, il_119, il_126, il_133, il_255, il_256, il_512, il_931, il_1000, il_65536, bn0, bn1, bn2, bn3, bn4, bn5, bn6, bn7, bn8, bn9, bn10, bn11, bn12, bn13, bn14, bn15, nI_leI, nI_ltI, nI_eq, nI_clamp, nI_add, pk_mul, nI_lt0, ng_lt0, ng_ge0, ng_eqn, ng_neq, ng_len, ng_eq, sV_m1, sV_lt0, sV_ge0, if_true, if_false, Nat.le_refl, Nat.lt_irrefl, Nat.not_lt_zero, Nat.zero_le, not_true_eq_false, not_false_eq_true, false_and, true_and, and_true, and_false, true_or, or_true, false_or, or_false, reduceCtorEq, hM 0 (by omega), show ¬ g 0 ≤ j by omega]
    refine ih m (j + 1) _ (by omega) hm fun l hl => ?_
    unfold upd
    by_cases e : l = j
    · rw [if_pos e, e]
    · rw [if_neg e]; exact hf l (by omega)
theorem X10_allFind (hG : GV g) (hM : MR g nw) (fi : Nat → Int32) : ∃ fi', J_X10_allFind nw fi = some fi' ∧ ∀ l, l < g 0 → fi' l = b2 (fin g (gw g) l) := by
  unfold J_X10_allFind
  simp only [il_0]
  exact X10_allFind_L hG hM (g 0) FU 0 fi (by omega) (by have := hG.1; unfold FU; omega) fun l hl => absurd hl (Nat.not_lt_zero _)
end Mdl
/-! a tick of the reference -/
theorem nv_small : ∀ f, f < 8 → ∀ wk, wk < 5 → 1 ≤ wk → f < 2 ^ (wk - 1) → ∀ b : Bool, (if wk = 1 then nI b.toNat else nI f &&& nI 1) = nI ((f ||| (if b then 2 ^ (wk - 1) else 0)) % 2) ∧ (if wk = 1 then nI 0 else (nI f >>> (nI 1 &&& 31)) ||| (nI b.toNat <<< ((nI wk - nI 2) &&& 31))) = nI ((f ||| (if b then 2 ^ (wk - 1) else 0)) / 2) := by decide +kernel
section MTick
variable {nw fi : Nat → Int32}
theorem X10_glowBehind {l wk f : Nat} {b : Bool} (hl : l < 16) (hw : nw (5 + 8 * l + 1) = nI wk) (hf : nw (5 + 8 * l + 7) = nI f) (hb : fi l = b2 b) (h1 : f < 8) (h2 : wk < 5) (h3 : 1 ≤ wk) (h4 : f < 2 ^ (wk - 1)) : J_X10_glowBehind nw fi (nI l) = some (nI ((f ||| (if b then 2 ^ (wk - 1) else 0)) % 2)) := by
  have h := (nv_small f h1 wk h2 h3 h4 b).1
  unfold J_X10_glowBehind J_X10_glowBehind_b28 J_X10_of
  simp (disch := omega) only [↓reduceIte, nm_x, chk_nI, chz_0, chz_1, chz_b2, chn_nI, oi_1, oi_2, oi_m1, il_0, il_1, il_2, il_3, il_4, il_5, il_6, il_7, il_8, il_9, il_10, il_11, il_12, il_13, il_14, il_15, il_16, il_32, il_35, il_40, il_41, il_42, il_43, il_44, il_45, il_46, il_48, il_57, il_58, il_59, il_60, il_99, il_104, il_115, il_116, il_119, il_126, il_133, il_255, il_256, il_512, il_931, il_1000, il_65536, bn0, bn1, bn2, bn3, bn4, bn5, bn6, bn7, bn8, bn9, bn10, bn11, bn12, bn13, bn14, bn15, nI_leI, nI_ltI, nI_eq, nI_clamp, nI_add, pk_mul, nI_lt0, ng_lt0, ng_ge0, ng_eqn, ng_neq, ng_len, ng_eq, sV_m1, sV_lt0, sV_ge0, if_true, if_false, Nat.le_refl, Nat.lt_irrefl, Nat.not_lt_zero, Nat.zero_le, not_true_eq_false, not_false_eq_true, false_and, true_and, and_true, and_false, true_or, or_true, false_or, or_false, reduceCtorEq, hw, hf, hb]
  rw [← h, b2_n]
  by_cases e : wk = 1
  · rw [if_pos e, if_pos e]
  · rw [if_neg e, if_neg e]
theorem X10_foundBehind {l wk f : Nat} {b : Bool} (hl : l < 16) (hw : nw (5 + 8 * l + 1) = nI wk) (hf : nw (5 + 8 * l + 7) = nI f) (hb : fi l = b2 b) (h1 : f < 8) (h2 : wk < 5) (h3 : 1 ≤ wk) (h4 : f < 2 ^ (wk - 1)) : J_X10_foundBehind nw fi (nI l) = some (nI ((f ||| (if b then 2 ^ (wk - 1) else 0)) / 2)) := by
  have h := (nv_small f h1 wk h2 h3 h4 b).2
  unfold J_X10_foundBehind J_X10_foundBehind_b36 J_X10_of
  simp (disch := omega) only [↓reduceIte, nm_x, chk_nI, chz_0, chz_1, chz_b2, chn_nI, oi_1, oi_2, oi_m1, il_0, il_1, il_2, il_3, il_4, il_5, il_6, il_7, il_8, il_9, il_10, il_11, il_12, il_13, il_14, il_15, il_16, il_32, il_35, il_40, il_41, il_42, il_43, il_44, il_45, il_46, il_48, il_57, il_58, il_59, il_60, il_99, il_104, il_115, il_116, il_119, il_126, il_133, il_255, il_256, il_512, il_931, il_1000, il_65536, bn0, bn1, bn2, bn3, bn4, bn5, bn6, bn7, bn8, bn9, bn10, bn11, bn12, bn13, bn14, bn15, nI_leI, nI_ltI, nI_eq, nI_clamp, nI_add, pk_mul, nI_lt0, ng_lt0, ng_ge0, ng_eqn, ng_neq, ng_len, ng_eq, sV_m1, sV_lt0, sV_ge0, if_true, if_false, Nat.le_refl, Nat.lt_irrefl, Nat.not_lt_zero, Nat.zero_le, not_true_eq_false, not_false_eq_true, false_and, true_and, and_true, and_false, true_or, or_true, false_or, or_false, reduceCtorEq, hw, hf, hb]
  rw [← h, b2_n]
  by_cases e : wk = 1
  · rw [if_pos e, if_pos e]
  · rw [if_neg e, if_neg e]
end MTick
/-- the lantern's own places behind a tick -/
def tkl (g : Nat → Nat) (l w : Nat) : Nat := if w = 2 then ng g l else if w = 3 then GA g l 3 + dg g l else if w = 7 then nfd g l else GA g l w
def tkj (g : Nat → Nat) (j : Nat) : Nat → Nat := fun i => if 5 ≤ i ∧ i < 5 + 8 * j then tkl g ((i - 5) / 8) ((i - 5) % 8) else g i
def tk (g : Nat → Nat) : Nat → Nat := fun i => if i = 2 then g 2 + 1 else if i = 3 then g 3 + fb_sm (dg g) 16 else tkj g 16 i
theorem tkj_in (g : Nat → Nat) {j l w : Nat} (hl : l < j) (hw : w < 8) : GA (tkj g j) l w = tkl g l w := by
  unfold GA tkj
  rw [if_pos (by omega), show (5 + 8 * l + w - 5) / 8 = l by omega, show (5 + 8 * l + w - 5) % 8 = w by omega]
theorem tkj_out (g : Nat → Nat) {j i : Nat} (hi : i < 5 ∨ 5 + 8 * j ≤ i) : tkj g j i = g i := if_neg (by omega)
theorem tk_GA (g : Nat → Nat) {l w : Nat} (hl : l < 16) (hw : w < 8) : GA (tk g) l w = tkl g l w := by
  rw [← tkj_in g hl hw]
  unfold GA tk
  rw [if_neg (by omega), if_neg (by omega)]
theorem dg_sw {g : Nat → Nat} {l : Nat} (h : GA g l 0 = 0) : dg g l = 0 := by unfold dg ng; rw [if_pos h, if_pos rfl]
theorem tkl_0 {g : Nat → Nat} (hG : GV g) {l w : Nat} (hl : l < 16) (hl2 : g 0 ≤ l) (hw : w < 8) : tkl g l w = GA g l w := by
  have hz : ∀ w, w < 8 → GA g l w = 0 := fun w hw => hG.2.2.2.2.2 _ (by omega) (by omega)
  have h0 := hz 0 (by omega)
  unfold tkl
  rw [dg_sw h0]
  unfold ng nfd
  rw [if_pos h0, if_pos h0]
  repeat' split
  all_goals first | (subst_vars; rfl) | rfl
theorem tkj_16 {g : Nat → Nat} (hG : GV g) {i : Nat} (hi : i < 133) : tkj g (g 0) i = tkj g 16 i := by
  have hn := hG.1
  by_cases h : i < 5 + 8 * g 0
  · unfold tkj
    by_cases h5 : 5 ≤ i
    · rw [if_pos ⟨h5, h⟩, if_pos (by omega)]
    · rw [if_neg (by omega), if_neg (by omega)]
  · rw [tkj_out g (Or.inr (by omega))]
    unfold tkj
    rw [if_pos (by omega), tkl_0 hG (by omega) (by omega) (by omega)]
    unfold GA
    congr 1
    omega
theorem dg_sum {g : Nat → Nat} (hG : GV g) : fb_sm (dg g) (g 0) = fb_sm (dg g) 16 := by
  have hn := hG.1
  have h := fb_sm_split (dg g) (g 0) (16 - g 0)
  rw [show g 0 + (16 - g 0) = 16 by omega] at h
  have hz : ∀ k, k < 16 - g 0 → dg g (g 0 + k) = 0 := fun k hk => dg_sw (hG.2.2.2.2.2 _ (by omega) (by omega))
  rw [h, fb_sm_cong hz, fb_sm_const, Nat.mul_zero, Nat.add_zero]
theorem dg_le (g : Nat → Nat) (l : Nat) : dg g l ≤ 1 := by unfold dg; split <;> omega
section MGo
variable {g : Nat → Nat} {nw fi : Nat → Int32}
/-- the lantern j's places written -/
theorem MR_tkj {j : Nat} (hj : j < 16) (hM : MR (tkj g j) nw) {nw' : Nat → Int32} (h2 : nw' (5 + 8 * j + 2) = nI (ng g j)) (h3 : nw' (5 + 8 * j + 3) = nI (GA g j 3 + dg g j)) (h7 : nw' (5 + 8 * j + 7) = nI (nfd g j)) (hr : ∀ i, i ≠ 5 + 8 * j + 2 → i ≠ 5 + 8 * j + 3 → i ≠ 5 + 8 * j + 7 → nw' i = nw i) : MR (tkj g (j + 1)) nw' := by
  intro i hi
  by_cases hin : 5 + 8 * j ≤ i ∧ i < 5 + 8 * (j + 1)
  · obtain ⟨w, hw, rfl⟩ : ∃ w, w < 8 ∧ i = 5 + 8 * j + w := ⟨i - (5 + 8 * j), by omega, by omega⟩
    have e : tkj g (j + 1) (5 + 8 * j + w) = tkl g j w := tkj_in g (Nat.lt_succ_self j) hw
    rw [e]
    unfold tkl
    by_cases w2 : w = 2
    · rw [if_pos w2, w2, h2]
    · by_cases w3 : w = 3
      · rw [if_neg w2, if_pos w3, w3, h3]
      · by_cases w7 : w = 7
        · rw [if_neg w2, if_neg w3, if_pos w7, w7, h7]
        · rw [if_neg w2, if_neg w3, if_neg w7, hr _ (by omega) (by omega) (by omega), hM _ hi, tkj_out g (Or.inr (by omega))]
          rfl
  · rw [hr _ (by omega) (by omega) (by omega), hM i hi]
    congr 1
    unfold tkj
    by_cases h : 5 ≤ i ∧ i < 5 + 8 * j
    · rw [if_pos h, if_pos (by omega)]
    · rw [if_neg h, if_neg (by omega)]
theorem X10_goes_L (hG : GV g) (hf : ∀ l, l < g 0 → fi l = b2 (fin g (gw g) l)) : ∀ d nf j (nw : Nat → Int32), j + d = g 0 → d < nf → MR (tkj g j) nw → ∃ nw', J_X10_goes_L8 nf nw fi (nI (fb_sm (dg g) j)) (nI j) = some (nI (fb_sm (dg g) 16), nw', fi) ∧ MR (tk g) nw' := by
  have hn := hG.1
  intro d
  induction d with
  | zero =>
    intro nf j nw hj hd hM
    obtain ⟨m, rfl, -⟩ := nf_of hd
    obtain rfl : j = g 0 := by omega
    rw [J_X10_goes_L8]
    have h0 := hM 0 (by omega)
    have h2 := hM 2 (by omega)
    have h3 := hM 3 (by omega)
    rw [tkj_out g (Or.inl (by omega))] at h0 h2 h3
    rw [dg_sum hG]
    simp (disch := omega) only [↓reduceIte, nm_x, chk_nI, chz_0, chz_1, chz_b2, chn_nI, oi_1, oi_2, oi_m1, il_0, il_1, il_2, il_3, il_4, il_5, il_6, il_7, il_8, il_9, il_10, il_11, il_12, il_13, il_14, il_15, il_16, il_32, il_35, il_40, il_41, il_42, il_43, il_44, il_45, il_46, il_48, il_57, il_58, il_59, il_60, il_99, il_104, il_115, il_116, il_119, il_126, il_133, il_255, il_256, il_512, il_931, il_1000, il_65536, bn0, bn1, bn2, bn3, bn4, bn5, bn6, bn7, bn8, bn9, bn10, bn11, bn12, bn13, bn14, bn15, nI_leI, nI_ltI, nI_eq, nI_clamp, nI_add, pk_mul, nI_lt0, ng_lt0, ng_ge0, ng_eqn, ng_neq, ng_len, ng_eq, sV_m1, sV_lt0, sV_ge0, if_true, if_false, Nat.le_refl, Nat.lt_irrefl, Nat.not_lt_zero, Nat.zero_le, not_true_eq_false, not_false_eq_true, false_and, true_and, and_true, and_false, true_or, or_true, false_or, or_false, reduceCtorEq, h0, h2, h3, upd, Nat.reduceEqDiff]
    refine ⟨_, rfl, fun i hi => ?_⟩
    unfold tk
    by_cases e2 : i = 2
    · subst e2
      simp [upd]
    · by_cases e3 : i = 3
      · subst e3
        simp [upd]
      · simp only [upd, e2, e3, if_false]
        rw [hM i hi, tkj_16 hG hi]
  | succ d ih =>
    intro nf j nw hj hd hM
    obtain ⟨m, rfl, hm⟩ := nf_of hd
    have hj16 : j < 16 := by omega
    have hl := GV_l hG hj16
    have hA : ∀ w, w < 8 → nw (5 + 8 * j + w) = nI (GA g j w) := fun w hw => by
      rw [hM _ (by omega), tkj_out g (Or.inr (by omega))]; rfl
    have h0 := hM 0 (by omega)
    rw [tkj_out g (Or.inl (by omega))] at h0
    have hof : ∀ w, w < 8 → J_X10_of nw (nI j) (nI w) = some (nI (GA g j w)) := fun w hw => by
      unfold J_X10_of
      simp (disch := omega) only [↓reduceIte, nm_x, chk_nI, chz_0, chz_1, chz_b2, chn_nI, oi_1, oi_2, oi_m1, il_0, il_1, il_2, il_3, il_4, il_5, il_6, il_7, il_8, il_9, il_10, il_11, il_12, il_13, il_14, il_15, il_16, il_32, il_35, il_40, il_41, il_42, il_43, il_44, il_45, il_46, il_48, il_57, il_58, il_59, il_60, il_99, il_104, il_115, il_116, il_119, il_126, il_133, il_255, il_256, il_512, il_931, il_1000, il_65536, bn0, bn1, bn2, bn3, bn4, bn5, bn6, bn7, bn8, bn9, bn10, bn11, bn12, bn13, bn14, bn15, nI_leI, nI_ltI, nI_eq, nI_clamp, nI_add, pk_mul, nI_lt0, ng_lt0, ng_ge0, ng_eqn, ng_neq, ng_len, ng_eq, sV_m1, sV_lt0, sV_ge0, if_true, if_false, Nat.le_refl, Nat.lt_irrefl, Nat.not_lt_zero, Nat.zero_le, not_true_eq_false, not_false_eq_true, false_and, true_and, and_true, and_false, true_or, or_true, false_or, or_false, reduceCtorEq, hA w hw]
    have hsw : J_X10_isSwitch nw (nI j) = some (b2 (decide (GA g j 0 = 0))) := by
      unfold J_X10_isSwitch J_X10_isSwitch_b14
      simp only [il_0]
      rw [hof 0 (by omega)]
      simp (disch := omega) only [↓reduceIte, nm_x, chk_nI, chz_0, chz_1, chz_b2, chn_nI, oi_1, oi_2, oi_m1, il_0, il_1, il_2, il_3, il_4, il_5, il_6, il_7, il_8, il_9, il_10, il_11, il_12, il_13, il_14, il_15, il_16, il_32, il_35, il_40, il_41, il_42, il_43, il_44, il_45, il_46, il_48, il_57, il_58, il_59, il_60, il_99, il_104, il_115, il_116, il_119, il_126, il_133, il_255, il_256, il_512, il_931, il_1000, il_65536, bn0, bn1, bn2, bn3, bn4, bn5, bn6, bn7, bn8, bn9, bn10, bn11, bn12, bn13, bn14, bn15, nI_leI, nI_ltI, nI_eq, nI_clamp, nI_add, pk_mul, nI_lt0, ng_lt0, ng_ge0, ng_eqn, ng_neq, ng_len, ng_eq, sV_m1, sV_lt0, sV_ge0, if_true, if_false, Nat.le_refl, Nat.lt_irrefl, Nat.not_lt_zero, Nat.zero_le, not_true_eq_false, not_false_eq_true, false_and, true_and, and_true, and_false, true_or, or_true, false_or, or_false, reduceCtorEq]
      by_cases h : GA g j 0 = 0
      · simp only [h, if_true, decide_true, b2_t]
      · simp only [h, if_false, decide_false, b2_f]
    rw [J_X10_goes_L8, hsw]
    unfold J_X10_goes_b85 J_X10_goes_b69 J_X10_goes_b85
    simp (disch := omega) only [↓reduceIte, nm_x, chk_nI, chz_0, chz_1, chz_b2, chn_nI, oi_1, oi_2, oi_m1, il_0, il_1, il_2, il_3, il_4, il_5, il_6, il_7, il_8, il_9, il_10, il_11, il_12, il_13, il_14, il_15, il_16, il_32, il_35, il_40, il_41, il_42, il_43, il_44, il_45, il_46, il_48, il_57, il_58, il_59, il_60, il_99, il_104, il_115, il_116, il_119, il_126, il_133, il_255, il_256, il_512, il_931, il_1000, il_65536, bn0, bn1, bn2, bn3, bn4, bn5, bn6, bn7, bn8, bn9, bn10, bn11, bn12, bn13, bn14, bn15, nI_leI, nI_ltI, nI_eq, nI_clamp, nI_add, pk_mul, nI_lt0, ng_lt0, ng_ge0, ng_eqn, ng_neq, ng_len, ng_eq, sV_m1, sV_lt0, sV_ge0, if_true, if_false, Nat.le_refl, Nat.lt_irrefl, Nat.not_lt_zero, Nat.zero_le, not_true_eq_false, not_false_eq_true, false_and, true_and, and_true, and_false, true_or, or_true, false_or, or_false, reduceCtorEq, h0, show ¬ g 0 ≤ j by omega, b2_0, decide_eq_false_iff_not]
    by_cases hk : GA g j 0 = 0
    · rw [if_neg (by simpa using hk)]
      have hd0 := dg_sw hk
      have ih' := ih m (j + 1) nw (by omega) hm (MR_tkj hj16 hM (by rw [hA 2 (by omega), ng, if_pos hk]) (by rw [hA 3 (by omega), hd0]; rfl) (by rw [hA 7 (by omega), nfd, if_pos hk]) (fun _ _ _ _ => rfl))
      rw [fb_sm_succ, hd0] at ih'
      exact ih'
    · rw [if_pos hk]
      have hw := hG.2.2.2.1 j (by omega)
      have e1 := X10_glowBehind (fi := fi) hj16 (hA 1 (by omega)) (hA 7 (by omega)) (hf j (by omega)) hl.2.2.2.1 (show GA g j 1 < 5 by omega) hw.1 hw.2
      have e2 := X10_foundBehind (fi := fi) hj16 (hA 1 (by omega)) (hA 7 (by omega)) (hf j (by omega)) hl.2.2.2.1 (show GA g j 1 < 5 by omega) hw.1 hw.2
      have n1 : ((GA g j 7 ||| (if fin g (gw g) j = true then 2 ^ (GA g j 1 - 1) else 0)) % 2) = ng g j := by rw [ng, if_neg hk]; rfl
      have n2 : ((GA g j 7 ||| (if fin g (gw g) j = true then 2 ^ (GA g j 1 - 1) else 0)) / 2) = nfd g j := by rw [nfd, if_neg hk]; rfl
      rw [n1] at e1
      rw [n2] at e2
      have hng : ng g j < 2 := by rw [← n1]; omega
      rw [e1, e2, hof 2 (by omega)]
      simp (disch := omega) only [↓reduceIte, nm_x, chk_nI, chz_0, chz_1, chz_b2, chn_nI, oi_1, oi_2, oi_m1, il_0, il_1, il_2, il_3, il_4, il_5, il_6, il_7, il_8, il_9, il_10, il_11, il_12, il_13, il_14, il_15, il_16, il_32, il_35, il_40, il_41, il_42, il_43, il_44, il_45, il_46, il_48, il_57, il_58, il_59, il_60, il_99, il_104, il_115, il_116, il_119, il_126, il_133, il_255, il_256, il_512, il_931, il_1000, il_65536, bn0, bn1, bn2, bn3, bn4, bn5, bn6, bn7, bn8, bn9, bn10, bn11, bn12, bn13, bn14, bn15, nI_leI, nI_ltI, nI_eq, nI_clamp, nI_add, pk_mul, nI_lt0, ng_lt0, ng_ge0, ng_eqn, ng_neq, ng_len, ng_eq, sV_m1, sV_lt0, sV_ge0, if_true, if_false, Nat.le_refl, Nat.lt_irrefl, Nat.not_lt_zero, Nat.zero_le, not_true_eq_false, not_false_eq_true, false_and, true_and, and_true, and_false, true_or, or_true, false_or, or_false, reduceCtorEq]
      by_cases hc : ng g j = GA g j 2
      · rw [if_pos hc]
        have hd0 : dg g j = 0 := if_pos hc
        simp only [X10_sets hj16 (show 2 < 8 by omega), X10_sets hj16 (show 7 < 8 by omega), bn1]
        have ih' := ih m (j + 1) (upd (upd nw (5 + 8 * j + 2) (nI (ng g j))) (5 + 8 * j + 7) (nI (nfd g j))) (by omega) hm (MR_tkj hj16 hM (by simp [upd]) (by simp [upd]; rw [hA 3 (by omega), hd0]; rfl) (by simp [upd]) (fun i a b c => by simp [upd, a, c]))
        rw [fb_sm_succ, hd0] at ih'
        exact ih'
      · rw [if_neg hc]
        have hd1 : dg g j = 1 := if_neg hc
        rw [hof 3 (by omega)]
        simp only [X10_sets hj16 (show 3 < 8 by omega), X10_sets hj16 (show 2 < 8 by omega), X10_sets hj16 (show 7 < 8 by omega), bn1, nI_add]
        have ih' := ih m (j + 1) (upd (upd (upd nw (5 + 8 * j + 3) (nI (GA g j 3 + 1))) (5 + 8 * j + 2) (nI (ng g j))) (5 + 8 * j + 7) (nI (nfd g j))) (by omega) hm (MR_tkj hj16 hM (by simp [upd]) (by simp [upd, hd1]) (by simp [upd]) (fun i a b c => by simp [upd, a, b, c]))
        rw [fb_sm_succ, hd1] at ih'
        exact ih'
theorem X10_goes (hG : GV g) (hM : MR g nw) (fi : Nat → Int32) : ∃ nw' fi', J_X10_goes nw fi = some (nI (fb_sm (dg g) 16), nw', fi') ∧ MR (tk g) nw' := by
  unfold J_X10_goes
  obtain ⟨fi', e, hf⟩ := X10_allFind hG hM fi
  rw [e]
  simp only [bn1, il_0]
  obtain ⟨nw', h1, h2⟩ := X10_goes_L hG hf (g 0) FU 0 nw (by omega) (by have := hG.1; unfold FU; omega) (fun i hi => by rw [hM i hi, tkj]; rw [if_neg (by omega)])
  exact ⟨nw', fi', h1, h2⟩
/-- all is settled -/
def stl (g : Nat → Nat) : Prop := ∀ l, l < 16 → ng g l = GA g l 2 ∧ nfd g l = GA g l 7
theorem stl_sw {l : Nat} (h : GA g l 0 = 0) : ng g l = GA g l 2 ∧ nfd g l = GA g l 7 := ⟨if_pos h, if_pos h⟩
theorem X10_isSettled_L (hG : GV g) (hM : MR g nw) (hf : ∀ l, l < g 0 → fi l = b2 (fin g (gw g) l)) : ∀ d nf j, j + d = g 0 → d < nf → (∀ l, l < j → ng g l = GA g l 2 ∧ nfd g l = GA g l 7) → ∃ b, J_X10_isSettled_L6 nw nf fi (nI j) = some (b2 b, fi) ∧ (b = true ↔ stl g) := by
  have hn := hG.1
  have h0 := hM 0 (by omega)
  intro d
  induction d with
  | zero =>
    intro nf j hj hd hs
    obtain ⟨m, rfl, -⟩ := nf_of hd
    obtain rfl : j = g 0 := by omega
    refine ⟨true, ?_, ⟨fun _ l hl => ?_, fun _ => rfl⟩⟩
    · rw [J_X10_isSettled_L6]
      simp (disch := omega) only [↓reduceIte, nm_x, chk_nI, chz_0, chz_1, chz_b2, chn_nI, oi_1, oi_2, oi_m1, il_0, il_1, il_2, il_3, il_4, il_5, il_6, il_7, il_8, il_9, il_10, il_11, il_12, il_13, il_14, il_15, il_16, il_32, il_35, il_40, il_41, il_42, il_43, il_44, il_45, il_46, il_48, il_57, il_58, il_59, il_60, il_99, il_104, il_115, il_116, il_119, il_126, il_133, il_255, il_256, il_512, il_931, il_1000, il_65536, bn0, bn1, bn2, bn3, bn4, bn5, bn6, bn7, bn8, bn9, bn10, bn11, bn12, bn13, bn14, bn15, nI_leI, nI_ltI, nI_eq, nI_clamp, nI_add, pk_mul, nI_lt0, ng_lt0, ng_ge0, ng_eqn, ng_neq, ng_len, ng_eq, sV_m1, sV_lt0, sV_ge0, if_true, if_false, Nat.le_refl, Nat.lt_irrefl, Nat.not_lt_zero, Nat.zero_le, not_true_eq_false, not_false_eq_true, false_and, true_and, and_true, and_false, true_or, or_true, false_or, or_false, reduceCtorEq, h0, b2_t]
    · by_cases q : l < g 0
      · exact hs l q
      · exact stl_sw (hG.2.2.2.2.2 _ (by omega) (by omega))
  | succ d ih =>
    intro nf j hj hd hs
    obtain ⟨m, rfl, hm⟩ := nf_of hd
    have hj16 : j < 16 := by omega
    have hl := GV_l hG hj16
    have hA : ∀ w, w < 8 → nw (5 + 8 * j + w) = nI (GA g j w) := fun w hw => hM _ (by omega)
    have step : ng g j = GA g j 2 ∧ nfd g j = GA g j 7 → ∀ l, l < j + 1 → ng g l = GA g l 2 ∧ nfd g l = GA g l 7 := fun h l hl => by
      rcases Nat.lt_or_ge l j with q | q
      · exact hs l q
      · obtain rfl : l = j := by omega
        exact h
    rw [J_X10_isSettled_L6, X10_isSwitch hG hM hj16]
    unfold J_X10_isSettled_b55 J_X10_isSettled_b53
    simp (disch := omega) only [↓reduceIte, nm_x, chk_nI, chz_0, chz_1, chz_b2, chn_nI, oi_1, oi_2, oi_m1, il_0, il_1, il_2, il_3, il_4, il_5, il_6, il_7, il_8, il_9, il_10, il_11, il_12, il_13, il_14, il_15, il_16, il_32, il_35, il_40, il_41, il_42, il_43, il_44, il_45, il_46, il_48, il_57, il_58, il_59, il_60, il_99, il_104, il_115, il_116, il_119, il_126, il_133, il_255, il_256, il_512, il_931, il_1000, il_65536, bn0, bn1, bn2, bn3, bn4, bn5, bn6, bn7, bn8, bn9, bn10, bn11, bn12, bn13, bn14, bn15, nI_leI, nI_ltI, nI_eq, nI_clamp, nI_add, pk_mul, nI_lt0, ng_lt0, ng_ge0, ng_eqn, ng_neq, ng_len, ng_eq, sV_m1, sV_lt0, sV_ge0, if_true, if_false, Nat.le_refl, Nat.lt_irrefl, Nat.not_lt_zero, Nat.zero_le, not_true_eq_false, not_false_eq_true, false_and, true_and, and_true, and_false, true_or, or_true, false_or, or_false, reduceCtorEq, h0, show ¬ g 0 ≤ j by omega, b2_0, decide_eq_false_iff_not]
    by_cases hk : GA g j 0 = 0
    · rw [if_neg (by simpa using hk)]
      exact ih m (j + 1) (by omega) hm (step (stl_sw hk))
    · rw [if_pos hk]
      have hw := hG.2.2.2.1 j (by omega)
      have e1 := X10_glowBehind (fi := fi) hj16 (hA 1 (by omega)) (hA 7 (by omega)) (hf j (by omega)) hl.2.2.2.1 (show GA g j 1 < 5 by omega) hw.1 hw.2
      have e2 := X10_foundBehind (fi := fi) hj16 (hA 1 (by omega)) (hA 7 (by omega)) (hf j (by omega)) hl.2.2.2.1 (show GA g j 1 < 5 by omega) hw.1 hw.2
      have n1 : ((GA g j 7 ||| (if fin g (gw g) j = true then 2 ^ (GA g j 1 - 1) else 0)) % 2) = ng g j := by rw [ng, if_neg hk]; rfl
      have n2 : ((GA g j 7 ||| (if fin g (gw g) j = true then 2 ^ (GA g j 1 - 1) else 0)) / 2) = nfd g j := by rw [nfd, if_neg hk]; rfl
      rw [n1] at e1
      rw [n2] at e2
      have hng : ng g j < 2 := by rw [← n1]; omega
      have hnf : nfd g j < 8 := by
        have := nv_lt hG hj16
        rw [nfd, if_neg hk]; omega
      rw [e1, e2, X10_of hM hj16 (by omega), X10_of hM hj16 (by omega)]
      simp (disch := omega) only [↓reduceIte, nm_x, chk_nI, chz_0, chz_1, chz_b2, chn_nI, oi_1, oi_2, oi_m1, il_0, il_1, il_2, il_3, il_4, il_5, il_6, il_7, il_8, il_9, il_10, il_11, il_12, il_13, il_14, il_15, il_16, il_32, il_35, il_40, il_41, il_42, il_43, il_44, il_45, il_46, il_48, il_57, il_58, il_59, il_60, il_99, il_104, il_115, il_116, il_119, il_126, il_133, il_255, il_256, il_512, il_931, il_1000, il_65536, bn0, bn1, bn2, bn3, bn4, bn5, bn6, bn7, bn8, bn9, bn10, bn11, bn12, bn13, bn14, bn15, nI_leI, nI_ltI, nI_eq, nI_clamp, nI_add, pk_mul, nI_lt0, ng_lt0, ng_ge0, ng_eqn, ng_neq, ng_len, ng_eq, sV_m1, sV_lt0, sV_ge0, if_true, if_false, Nat.le_refl, Nat.lt_irrefl, Nat.not_lt_zero, Nat.zero_le, not_true_eq_false, not_false_eq_true, false_and, true_and, and_true, and_false, true_or, or_true, false_or, or_false, reduceCtorEq]
      by_cases hc : ng g j = GA g j 2
      · rw [if_pos hc]
        by_cases hc2 : nfd g j = GA g j 7
        · rw [if_pos hc2]
          exact ih m (j + 1) (by omega) hm (step ⟨hc, hc2⟩)
        · rw [if_neg hc2]
          exact ⟨false, rfl, ⟨fun h => (by cases h), fun h => absurd (h j hj16).2 hc2⟩⟩
      · rw [if_neg hc]
        exact ⟨false, rfl, ⟨fun h => (by cases h), fun h => absurd (h j hj16).1 hc⟩⟩
theorem X10_isSettled (hG : GV g) (hM : MR g nw) (fi : Nat → Int32) : ∃ b fi', J_X10_isSettled nw fi = some (b2 b, fi') ∧ (b = true ↔ stl g) := by
  unfold J_X10_isSettled
  obtain ⟨fi', e, hf⟩ := X10_allFind hG hM fi
  rw [e]
  simp only [bn1, il_0]
  obtain ⟨b, h1, h2⟩ := X10_isSettled_L hG hM hf (g 0) FU 0 (by omega) (by have := hG.1; unfold FU; omega) (fun l hl => absurd hl (Nat.not_lt_zero _))
  exact ⟨b, fi', h1, h2⟩
end MGo

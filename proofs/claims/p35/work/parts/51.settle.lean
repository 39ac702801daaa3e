/-! WHAT COMES: the reference's thought, settling, and when all repeats -/
theorem lgc0 (x y : Int64) : lg_cmp x y = nI 0 ↔ x = y := by
  unfold lg_cmp
  by_cases h : x > y
  · rw [if_pos h]
    exact ⟨fun e => absurd e (by decide +kernel), fun e => by subst e; rw [gt_iff_lt, fa_lt64] at h; omega⟩
  · rw [if_neg h]
    by_cases e : x = y
    · rw [if_pos e]; exact ⟨fun _ => e, fun _ => rfl⟩
    · rw [if_neg e]; exact ⟨fun h => absurd h (by decide +kernel), fun h => absurd h e⟩
theorem X10_tries_L (a : Nat → Int32) : ∀ d nf j (b : Nat → Int32), j + d = 133 → d < nf → (∀ i, i < j → b i = a i) → ∃ b', J_X10_tries_L2 a nf b (nI j) = some b' ∧ ∀ i, i < 133 → b' i = a i := by
  intro d
  induction d with
  | zero =>
    intro nf j b hj hd hb
    obtain ⟨m, rfl, -⟩ := nf_of hd
    obtain rfl : j = 133 := by omega
    refine ⟨b, ?_, hb⟩
    rw [J_X10_tries_L2]
    simp (disch := omega) only [↓reduceIte, nm_x, chk_nI, chz_0, chz_1, chz_b2, chn_nI, oi_1, oi_2, oi_m1, il_0, il_1, il_2, il_3, il_4, il_5, il_6, il_7, il_8, il_9, il_10, il_11, il_12, il_13, il_14, il_15, il_16, il_32, il_35, il_40, il_41, il_42, il_43, il_44, il_45, il_46, il_48, il_57, il_58, il_59, il_60, il_99, il_104, il_115, il_116, il_119, il_126, il_133, il_255, il_256, il_512, il_931, il_1000, il_65536, bn0, bn1, bn2, bn3, bn4, bn5, bn6, bn7, bn8, bn9, bn10, bn11, bn12, bn13, bn14, bn15, nI_leI, nI_ltI, nI_eq, nI_clamp, nI_add, pk_mul, nI_lt0, ng_lt0, ng_ge0, ng_eqn, ng_neq, ng_len, ng_eq, sV_m1, sV_lt0, sV_ge0, if_true, if_false, Nat.le_refl, Nat.lt_irrefl, Nat.not_lt_zero, Nat.zero_le, not_true_eq_false, not_false_eq_true, false_and, true_and, and_true, and_false, true_or, or_true, false_or, or_false, reduceCtorEq]
  | succ d ih =>
    intro nf j b hj hd hb
    obtain ⟨m, rfl, hm⟩ := nf_of hd
    rw [J_X10_tries_L2]
    simp (disch := omega) only [↓reduceIte, nm_x, chk_nI, chz_0, chz_1, chz_b2, chn_nI, oi_1, oi_2, oi_m1, il_0, il_1, il_2, il_3, il_4, il_5, il_6, il_7, il_8, il_9, il_10, il_11, il_12, il_13, il_14, il_15, il_16, il_32, il_35, il_40, il_41, il_42, il_43, il_44, il_45, il_46, il_48, il_57, il_58, il_59, il_60, il_99, il_104, il_115, il_116, il_119, il_126, il_133, il_255, il_256, il_512, il_931, il_1000, il_65536, bn0, bn1, bn2, bn3, bn4, bn5, bn6, bn7, bn8, bn9, bn10, bn11, bn12, bn13, bn14, bn15, nI_leI, nI_ltI, nI_eq, nI_clamp, nI_add, pk_mul, nI_lt0, ng_lt0, ng_ge0, ng_eqn, ng_neq, ng_len, ng_eq, sV_m1, sV_lt0, sV_ge0, if_true, if_false, Nat.le_refl, Nat.lt_irrefl, Nat.not_lt_zero, Nat.zero_le, not_true_eq_false, not_false_eq_true, false_and, true_and, and_true, and_false, true_or, or_true, false_or, or_false, reduceCtorEq, show ¬ 133 ≤ j by omega]
    refine ih m (j + 1) _ (by omega) hm fun i hi => ?_
    unfold upd
    by_cases e : i = j
    · rw [if_pos e, e]
    · rw [if_neg e]; exact hb i (by omega)
theorem X10_tries (a b : Nat → Int32) : ∃ b', J_X10_tries a b = some b' ∧ ∀ i, i < 133 → b' i = a i := by
  unfold J_X10_tries
  rw [il_0]
  exact X10_tries_L a 133 FU 0 b rfl (by unfold FU; omega) (fun i hi => absurd hi (Nat.not_lt_zero i))
theorem X10_comesBack_L (a : Nat → Int32) : ∀ d nf j (b : Nat → Int32), j + d = 133 → d < nf → (∀ i, i < j → b i = a i) → ∃ b', J_X10_comesBack_L2 a nf b (nI j) = some b' ∧ ∀ i, i < 133 → b' i = a i := by
  intro d
  induction d with
  | zero =>
    intro nf j b hj hd hb
    obtain ⟨m, rfl, -⟩ := nf_of hd
    obtain rfl : j = 133 := by omega
    refine ⟨b, ?_, hb⟩
    rw [J_X10_comesBack_L2]
    simp (disch := omega) only [↓reduceIte, nm_x, chk_nI, chz_0, chz_1, chz_b2, chn_nI, oi_1, oi_2, oi_m1, il_0, il_1, il_2, il_3, il_4, il_5, il_6, il_7, il_8, il_9, il_10, il_11, il_12, il_13, il_14, il_15, il_16, il_32, il_35, il_40, il_41, il_42, il_43, il_44, il_45, il_46, il_48, il_57, il_58, il_59, il_60, il_99, il_104, il_115, il_116, il_119, il_126, il_133, il_255, il_256, il_512, il_931, il_1000, il_65536, bn0, bn1, bn2, bn3, bn4, bn5, bn6, bn7, bn8, bn9, bn10, bn11, bn12, bn13, bn14, bn15, nI_leI, nI_ltI, nI_eq, nI_clamp, nI_add, pk_mul, nI_lt0, ng_lt0, ng_ge0, ng_eqn, ng_neq, ng_len, ng_eq, sV_m1, sV_lt0, sV_ge0, if_true, if_false, Nat.le_refl, Nat.lt_irrefl, Nat.not_lt_zero, Nat.zero_le, not_true_eq_false, not_false_eq_true, false_and, true_and, and_true, and_false, true_or, or_true, false_or, or_false, reduceCtorEq]
  | succ d ih =>
    intro nf j b hj hd hb
    obtain ⟨m, rfl, hm⟩ := nf_of hd
    rw [J_X10_comesBack_L2]
    simp (disch := omega) only [↓reduceIte, nm_x, chk_nI, chz_0, chz_1, chz_b2, chn_nI, oi_1, oi_2, oi_m1, il_0, il_1, il_2, il_3, il_4, il_5, il_6, il_7, il_8, il_9, il_10, il_11, il_12, il_13, il_14, il_15, il_16, il_32, il_35, il_40, il_41, il_42, il_43, il_44, il_45, il_46, il_48, il_57, il_58, il_59, il_60, il_99, il_104, il_115, il_116, il_119, il_126, il_133, il_255, il_256, il_512, il_931, il_1000, il_65536, bn0, bn1, bn2, bn3, bn4, bn5, bn6, bn7, bn8, bn9, bn10, bn11, bn12, bn13, bn14, bn15, nI_leI, nI_ltI, nI_eq, nI_clamp, nI_add, pk_mul, nI_lt0, ng_lt0, ng_ge0, ng_eqn, ng_neq, ng_len, ng_eq, sV_m1, sV_lt0, sV_ge0, if_true, if_false, Nat.le_refl, Nat.lt_irrefl, Nat.not_lt_zero, Nat.zero_le, not_true_eq_false, not_false_eq_true, false_and, true_and, and_true, and_false, true_or, or_true, false_or, or_false, reduceCtorEq, show ¬ 133 ≤ j by omega]
    refine ih m (j + 1) _ (by omega) hm fun i hi => ?_
    unfold upd
    by_cases e : i = j
    · rw [if_pos e, e]
    · rw [if_neg e]; exact hb i (by omega)
theorem X10_comesBack (a b : Nat → Int32) : ∃ b', J_X10_comesBack b a = some b' ∧ ∀ i, i < 133 → b' i = a i := by
  unfold J_X10_comesBack
  rw [il_0]
  exact X10_comesBack_L a 133 FU 0 b rfl (by unfold FU; omega) (fun i hi => absurd hi (Nat.not_lt_zero i))
theorem X10_thinks_L (a : Nat → Int32) : ∀ d nf j (b : Nat → Int32), j + d = 133 → d < nf → (∀ i, i < j → b i = a i) → ∃ b', J_X10_thinks_L2 a nf b (nI j) = some b' ∧ ∀ i, i < 133 → b' i = a i := by
  intro d
  induction d with
  | zero =>
    intro nf j b hj hd hb
    obtain ⟨m, rfl, -⟩ := nf_of hd
    obtain rfl : j = 133 := by omega
    refine ⟨b, ?_, hb⟩
    rw [J_X10_thinks_L2]
    simp (disch := omega) only [↓reduceIte, nm_x, chk_nI, chz_0, chz_1, chz_b2, chn_nI, oi_1, oi_2, oi_m1, il_0, il_1, il_2, il_3, il_4, il_5, il_6, il_7, il_8, il_9, il_10, il_11, il_12, il_13, il_14, il_15, il_16, il_32, il_35, il_40, il_41, il_42, il_43, il_44, il_45, il_46, il_48, il_57, il_58, il_59, il_60, il_99, il_104, il_115, il_116, il_119, il_126, il_133, il_255, il_256, il_512, il_931, il_1000, il_65536, bn0, bn1, bn2, bn3, bn4, bn5, bn6, bn7, bn8, bn9, bn10, bn11, bn12, bn13, bn14, bn15, nI_leI, nI_ltI, nI_eq, nI_clamp, nI_add, pk_mul, nI_lt0, ng_lt0, ng_ge0, ng_eqn, ng_neq, ng_len, ng_eq, sV_m1, sV_lt0, sV_ge0, if_true, if_false, Nat.le_refl, Nat.lt_irrefl, Nat.not_lt_zero, Nat.zero_le, not_true_eq_false, not_false_eq_true, false_and, true_and, and_true, and_false, true_or, or_true, false_or, or_false, reduceCtorEq]
  | succ d ih =>
    intro nf j b hj hd hb
    obtain ⟨m, rfl, hm⟩ := nf_of hd
    rw [J_X10_thinks_L2]
    simp (disch := omega) only [↓reduceIte, nm_x, chk_nI, chz_0, chz_1, chz_b2, chn_nI, oi_1, oi_2, oi_m1, il_0, il_1, il_2, il_3, il_4, il_5, il_6, il_7, il_8, il_9, il_10, il_11, il_12, il_13, il_14, il_15, il_16, il_32, il_35, il_40, il_41, il_42, il_43, il_44, il_45, il_46, il_48, il_57, il_58, il_59, il_60, il_99, il_104, il_115, il_116, il_119, il_126, il_133, il_255, il_256, il_512, il_931, il_1000, il_65536, bn0, bn1, bn2, bn3, bn4, bn5, bn6, bn7, bn8, bn9, bn10, bn11, bn12, bn13, bn14, bn15, nI_leI, nI_ltI, nI_eq, nI_clamp, nI_add, pk_mul, nI_lt0, ng_lt0, ng_ge0, ng_eqn, ng_neq, ng_len, ng_eq, sV_m1, sV_lt0, sV_ge0, if_true, if_false, Nat.le_refl, Nat.lt_irrefl, Nat.not_lt_zero, Nat.zero_le, not_true_eq_false, not_false_eq_true, false_and, true_and, and_true, and_false, true_or, or_true, false_or, or_false, reduceCtorEq, show ¬ 133 ≤ j by omega]
    refine ih m (j + 1) _ (by omega) hm fun i hi => ?_
    unfold upd
    by_cases e : i = j
    · rw [if_pos e, e]
    · rw [if_neg e]; exact hb i (by omega)
theorem X10_thinks (a b : Nat → Int32) : ∃ b', J_X10_thinks a b = some b' ∧ ∀ i, i < 133 → b' i = a i := by
  unfold J_X10_thinks
  rw [il_0]
  exact X10_thinks_L a 133 FU 0 b rfl (by unfold FU; omega) (fun i hi => absurd hi (Nat.not_lt_zero i))
theorem X10_thinksNoMore_L (a : Nat → Int32) : ∀ d nf j (b : Nat → Int32), j + d = 133 → d < nf → (∀ i, i < j → b i = a i) → ∃ b', J_X10_thinksNoMore_L2 a nf b (nI j) = some b' ∧ ∀ i, i < 133 → b' i = a i := by
  intro d
  induction d with
  | zero =>
    intro nf j b hj hd hb
    obtain ⟨m, rfl, -⟩ := nf_of hd
    obtain rfl : j = 133 := by omega
    refine ⟨b, ?_, hb⟩
    rw [J_X10_thinksNoMore_L2]
    simp (disch := omega) only [↓reduceIte, nm_x, chk_nI, chz_0, chz_1, chz_b2, chn_nI, oi_1, oi_2, oi_m1, il_0, il_1, il_2, il_3, il_4, il_5, il_6, il_7, il_8, il_9, il_10, il_11, il_12, il_13, il_14, il_15, il_16, il_32, il_35, il_40, il_41, il_42, il_43, il_44, il_45, il_46, il_48, il_57, il_58, il_59, il_60, il_99, il_104, il_115, il_116, il_119, il_126, il_133, il_255, il_256, il_512, il_931, il_1000, il_65536, bn0, bn1, bn2, bn3, bn4, bn5, bn6, bn7, bn8, bn9, bn10, bn11, bn12, bn13, bn14, bn15, nI_leI, nI_ltI, nI_eq, nI_clamp, nI_add, pk_mul, nI_lt0, ng_lt0, ng_ge0, ng_eqn, ng_neq, ng_len, ng_eq, sV_m1, sV_lt0, sV_ge0, if_true, if_false, Nat.le_refl, Nat.lt_irrefl, Nat.not_lt_zero, Nat.zero_le, not_true_eq_false, not_false_eq_true, false_and, true_and, and_true, and_false, true_or, or_true, false_or, or_false, reduceCtorEq]
  | succ d ih =>
    intro nf j b hj hd hb
    obtain ⟨m, rfl, hm⟩ := nf_of hd
    rw [J_X10_thinksNoMore_L2]
    simp (disch := omega) only [↓reduceIte, nm_x, chk_nI, chz_0, chz_1, chz_b2, chn_nI, oi_1, oi_2, oi_m1, il_0, il_1, il_2, il_3, il_4, il_5, il_6, il_7, il_8, il_9, il_10, il_11, il_12, il_13, il_14, il_15, il_16, il_32, il_35, il_40, il_41, il_42, il_43, il_44, il_45, il_46, il_48, il_57, il_58, il_59, il_60, il_99, il_104, il_115, il_116, il_119, il_126, il_133, il_255, il_256, il_512, il_931, il_1000, il_65536, bn0, bn1, bn2, bn3, bn4, bn5, bn6, bn7, bn8, bn9, bn10, bn11, bn12, bn13, bn14, bn15, nI_leI, nI_ltI, nI_eq, nI_clamp, nI_add, pk_mul, nI_lt0, ng_lt0, ng_ge0, ng_eqn, ng_neq, ng_len, ng_eq, sV_m1, sV_lt0, sV_ge0, if_true, if_false, Nat.le_refl, Nat.lt_irrefl, Nat.not_lt_zero, Nat.zero_le, not_true_eq_false, not_false_eq_true, false_and, true_and, and_true, and_false, true_or, or_true, false_or, or_false, reduceCtorEq, show ¬ 133 ≤ j by omega]
    refine ih m (j + 1) _ (by omega) hm fun i hi => ?_
    unfold upd
    by_cases e : i = j
    · rw [if_pos e, e]
    · rw [if_neg e]; exact hb i (by omega)
theorem X10_thinksNoMore (a b : Nat → Int32) : ∃ b', J_X10_thinksNoMore b a = some b' ∧ ∀ i, i < 133 → b' i = a i := by
  unfold J_X10_thinksNoMore
  rw [il_0]
  exact X10_thinksNoMore_L a 133 FU 0 b rfl (by unfold FU; omega) (fun i hi => absurd hi (Nat.not_lt_zero i))
theorem MR_copy {g : Nat → Nat} {a b : Nat → Int32} (h : ∀ i, i < 133 → b i = a i) (hM : MR g a) : MR g b := fun i hi => by rw [h i hi]; exact hM i hi
section Settle
variable {g : Nat → Nat} {nw fi : Nat → Int32}
/-- the reference lets ticks go by until all is settled -/
theorem X10_settles_L (hG : GV g) : ∀ d nf t (nw fi : Nat → Int32), t + d = 257 → d < nf → MR (tki g t) nw → (∀ s, s < t → ¬ stl (tki g s)) → ∃ x nw' fi', J_X10_settles_L2 nf nw fi (nI t) = some (x, nw', fi') ∧ ((∃ t', t' ≤ 256 ∧ x = nI t' ∧ stl (tki g t') ∧ (∀ s, s < t' → ¬ stl (tki g s)) ∧ MR (tki g t') nw') ∨ (x = -nI 1 ∧ (∀ s, s ≤ 256 → ¬ stl (tki g s)) ∧ MR (tki g 257) nw')) := by
  intro d
  induction d with
  | zero =>
    intro nf t nw fi ht hd hM hs
    obtain ⟨m, rfl, -⟩ := nf_of hd
    obtain rfl : t = 257 := by omega
    refine ⟨_, nw, fi, ?_, Or.inr ⟨rfl, fun s h => hs s (by omega), hM⟩⟩
    rw [J_X10_settles_L2]
    simp (disch := omega) only [↓reduceIte, nm_x, chk_nI, chz_0, chz_1, chz_b2, chn_nI, oi_1, oi_2, oi_m1, il_0, il_1, il_2, il_3, il_4, il_5, il_6, il_7, il_8, il_9, il_10, il_11, il_12, il_13, il_14, il_15, il_16, il_32, il_35, il_40, il_41, il_42, il_43, il_44, il_45, il_46, il_48, il_57, il_58, il_59, il_60, il_99, il_104, il_115, il_116, il_119, il_126, il_133, il_255, il_256, il_512, il_931, il_1000, il_65536, bn0, bn1, bn2, bn3, bn4, bn5, bn6, bn7, bn8, bn9, bn10, bn11, bn12, bn13, bn14, bn15, nI_leI, nI_ltI, nI_eq, nI_clamp, nI_add, pk_mul, nI_lt0, ng_lt0, ng_ge0, ng_eqn, ng_neq, ng_len, ng_eq, sV_m1, sV_lt0, sV_ge0, if_true, if_false, Nat.le_refl, Nat.lt_irrefl, Nat.not_lt_zero, Nat.zero_le, not_true_eq_false, not_false_eq_true, false_and, true_and, and_true, and_false, true_or, or_true, false_or, or_false, reduceCtorEq, show 256 < 257 by omega]
  | succ d ih =>
    intro nf t nw fi ht hd hM hs
    obtain ⟨m, rfl, hm⟩ := nf_of hd
    obtain ⟨b, fi1, e1, h1⟩ := X10_isSettled (GV_tki hG t) hM fi
    rw [J_X10_settles_L2]
    simp (disch := omega) only [↓reduceIte, nm_x, chk_nI, chz_0, chz_1, chz_b2, chn_nI, oi_1, oi_2, oi_m1, il_0, il_1, il_2, il_3, il_4, il_5, il_6, il_7, il_8, il_9, il_10, il_11, il_12, il_13, il_14, il_15, il_16, il_32, il_35, il_40, il_41, il_42, il_43, il_44, il_45, il_46, il_48, il_57, il_58, il_59, il_60, il_99, il_104, il_115, il_116, il_119, il_126, il_133, il_255, il_256, il_512, il_931, il_1000, il_65536, bn0, bn1, bn2, bn3, bn4, bn5, bn6, bn7, bn8, bn9, bn10, bn11, bn12, bn13, bn14, bn15, nI_leI, nI_ltI, nI_eq, nI_clamp, nI_add, pk_mul, nI_lt0, ng_lt0, ng_ge0, ng_eqn, ng_neq, ng_len, ng_eq, sV_m1, sV_lt0, sV_ge0, if_true, if_false, Nat.le_refl, Nat.lt_irrefl, Nat.not_lt_zero, Nat.zero_le, not_true_eq_false, not_false_eq_true, false_and, true_and, and_true, and_false, true_or, or_true, false_or, or_false, reduceCtorEq, show ¬ 256 < t by omega, e1, b2_0]
    cases hb : b
    · rw [if_pos rfl]
      obtain ⟨nw1, fi2, e2, h2⟩ := X10_goes (GV_tki hG t) hM fi1
      simp (disch := omega) only [↓reduceIte, nm_x, chk_nI, chz_0, chz_1, chz_b2, chn_nI, oi_1, oi_2, oi_m1, il_0, il_1, il_2, il_3, il_4, il_5, il_6, il_7, il_8, il_9, il_10, il_11, il_12, il_13, il_14, il_15, il_16, il_32, il_35, il_40, il_41, il_42, il_43, il_44, il_45, il_46, il_48, il_57, il_58, il_59, il_60, il_99, il_104, il_115, il_116, il_119, il_126, il_133, il_255, il_256, il_512, il_931, il_1000, il_65536, bn0, bn1, bn2, bn3, bn4, bn5, bn6, bn7, bn8, bn9, bn10, bn11, bn12, bn13, bn14, bn15, nI_leI, nI_ltI, nI_eq, nI_clamp, nI_add, pk_mul, nI_lt0, ng_lt0, ng_ge0, ng_eqn, ng_neq, ng_len, ng_eq, sV_m1, sV_lt0, sV_ge0, if_true, if_false, Nat.le_refl, Nat.lt_irrefl, Nat.not_lt_zero, Nat.zero_le, not_true_eq_false, not_false_eq_true, false_and, true_and, and_true, and_false, true_or, or_true, false_or, or_false, reduceCtorEq, e2]
      refine ih m (t + 1) nw1 fi2 (by omega) hm h2 fun s hst => ?_
      rcases Nat.lt_or_ge s t with q | q
      · exact hs s q
      · obtain rfl : s = t := by omega
        intro h
        have := h1.mpr h
        rw [hb] at this
        cases this
    · rw [if_neg (by decide)]
      exact ⟨_, _, _, rfl, Or.inl ⟨t, by omega, rfl, h1.mp hb, hs, hM⟩⟩
theorem X10_settles (hG : GV g) (hM : MR g nw) (fi : Nat → Int32) : ∃ x nw' fi', J_X10_settles nw fi = some (x, nw', fi') ∧ ((∃ t', t' ≤ 256 ∧ x = nI t' ∧ stl (tki g t') ∧ (∀ s, s < t' → ¬ stl (tki g s)) ∧ MR (tki g t') nw') ∨ (x = -nI 1 ∧ (∀ s, s ≤ 256 → ¬ stl (tki g s)) ∧ MR (tki g 257) nw')) := by
  unfold J_X10_settles
  rw [il_0]
  exact X10_settles_L hG 257 FU 0 nw fi rfl (by unfold FU; omega) hM (fun s hs => absurd hs (Nat.not_lt_zero s))
theorem X1_settle_L {c : Int32} {k w so : Nat → Int32} (st0 : Int64) (hG : GV g) (hS : SR g c k w so) : ∀ d nf t st, t + d = 257 → d < nf → ER (tki g t) st → (∀ s, s < t → ¬ stl (tki g s)) → ∃ x, J_X1_ticksToSettle_L8 c st0 k w so nf st (nI t) = some x ∧ ((∃ t', t' ≤ 256 ∧ x = nI t' ∧ stl (tki g t') ∧ ∀ s, s < t' → ¬ stl (tki g s)) ∨ (x = -nI 15 ∧ ∀ s, s ≤ 256 → ¬ stl (tki g s))) := by
  intro d
  induction d with
  | zero =>
    intro nf t st ht hd hE hs
    obtain ⟨m, rfl, -⟩ := nf_of hd
    obtain rfl : t = 257 := by omega
    refine ⟨_, ?_, Or.inr ⟨rfl, fun s h => hs s (by omega)⟩⟩
    rw [J_X1_ticksToSettle_L8]
    simp (disch := omega) only [↓reduceIte, nm_x, chk_nI, chz_0, chz_1, chz_b2, chn_nI, oi_1, oi_2, oi_m1, il_0, il_1, il_2, il_3, il_4, il_5, il_6, il_7, il_8, il_9, il_10, il_11, il_12, il_13, il_14, il_15, il_16, il_32, il_35, il_40, il_41, il_42, il_43, il_44, il_45, il_46, il_48, il_57, il_58, il_59, il_60, il_99, il_104, il_115, il_116, il_119, il_126, il_133, il_255, il_256, il_512, il_931, il_1000, il_65536, bn0, bn1, bn2, bn3, bn4, bn5, bn6, bn7, bn8, bn9, bn10, bn11, bn12, bn13, bn14, bn15, nI_leI, nI_ltI, nI_eq, nI_clamp, nI_add, pk_mul, nI_lt0, ng_lt0, ng_ge0, ng_eqn, ng_neq, ng_len, ng_eq, sV_m1, sV_lt0, sV_ge0, if_true, if_false, Nat.le_refl, Nat.lt_irrefl, Nat.not_lt_zero, Nat.zero_le, not_true_eq_false, not_false_eq_true, false_and, true_and, and_true, and_false, true_or, or_true, false_or, or_false, reduceCtorEq, show 256 < 257 by omega]
  | succ d ih =>
    intro nf t st ht hd hE hs
    obtain ⟨m, rfl, hm⟩ := nf_of hd
    obtain ⟨st', e1, h1⟩ := X2_tick (GV_tki hG t) (SR_SEq (tki_SEq g t) hS) hE
    have heq : st' = st ↔ stl (tki g t) := (ER_eq (GV_tki hG (t + 1)) (GV_tki hG t) h1 hE).trans (stl_deq _).symm
    rw [J_X1_ticksToSettle_L8]
    simp (disch := omega) only [↓reduceIte, nm_x, chk_nI, chz_0, chz_1, chz_b2, chn_nI, oi_1, oi_2, oi_m1, il_0, il_1, il_2, il_3, il_4, il_5, il_6, il_7, il_8, il_9, il_10, il_11, il_12, il_13, il_14, il_15, il_16, il_32, il_35, il_40, il_41, il_42, il_43, il_44, il_45, il_46, il_48, il_57, il_58, il_59, il_60, il_99, il_104, il_115, il_116, il_119, il_126, il_133, il_255, il_256, il_512, il_931, il_1000, il_65536, bn0, bn1, bn2, bn3, bn4, bn5, bn6, bn7, bn8, bn9, bn10, bn11, bn12, bn13, bn14, bn15, nI_leI, nI_ltI, nI_eq, nI_clamp, nI_add, pk_mul, nI_lt0, ng_lt0, ng_ge0, ng_eqn, ng_neq, ng_len, ng_eq, sV_m1, sV_lt0, sV_ge0, if_true, if_false, Nat.le_refl, Nat.lt_irrefl, Nat.not_lt_zero, Nat.zero_le, not_true_eq_false, not_false_eq_true, false_and, true_and, and_true, and_false, true_or, or_true, false_or, or_false, reduceCtorEq, show ¬ 256 < t by omega, e1, lgc0]
    by_cases q : st' = st
    · rw [if_pos q]
      exact ⟨_, rfl, Or.inl ⟨t, by omega, rfl, heq.mp q, hs⟩⟩
    · rw [if_neg q]
      refine ih m (t + 1) st' (by omega) hm h1 fun s hst => ?_
      rcases Nat.lt_or_ge s t with a | a
      · exact hs s a
      · obtain rfl : s = t := by omega
        exact fun h => q (heq.mpr h)
theorem settle_both {c : Int32} {k w so : Nat → Int32} {st : Int64} (hG : GV g) (hS : SR g c k w so) (hE : ER g st) (hM : MR g nw) (th fi : Nat → Int32) : ∃ x nw' th' fi', J_X1_ticksToSettle c st k w so = some x ∧ J_X10_settlesIn nw th fi = some (x, nw', th', fi') ∧ MR g nw' := by
  obtain ⟨th1, e1, h1⟩ := X10_thinks nw th
  obtain ⟨y, nw1, fi1, e2, h2⟩ := X10_settles hG hM fi
  obtain ⟨nw2, e3, h3⟩ := X10_thinksNoMore th1 nw1
  have hM2 : MR g nw2 := MR_copy h3 (MR_copy h1 hM)
  obtain ⟨x, e4, h4⟩ := X1_settle_L st hG hS 257 FU 0 st rfl (by unfold FU; omega) hE (fun s hs => absurd hs (Nat.not_lt_zero s))
  have e5 : J_X1_ticksToSettle c st k w so = some x := by
    unfold J_X1_ticksToSettle J_X2_state
    rw [bn1, il_0]
    exact e4
  refine ⟨x, nw2, th1, fi1, e5, ?_, hM2⟩
  unfold J_X10_settlesIn J_X10_settlesIn_b23
  rw [e1, bn1, e2, bn3, e3, bn1, il_0]
  rcases h2 with ⟨t, a1, rfl, a3, a4, -⟩ | ⟨rfl, a2, -⟩
  · rcases h4 with ⟨t', b1, rfl, b3, b4⟩ | ⟨-, b2⟩
    · have : t = t' := by
        rcases Nat.lt_trichotomy t t' with q | q | q
        · exact absurd a3 (b4 t q)
        · exact q
        · exact absurd b3 (a4 t' q)
      rw [if_pos (show nI 0 ≤ nI t from nI_pos' (by omega)), this]
    · exact absurd a3 (b2 t a1)
  · rcases h4 with ⟨t', b1, -, b3, -⟩ | ⟨rfl, -⟩
    · exact absurd b3 (a2 t' b1)
    · rw [if_neg (by rw [ng_ge0 (by omega) (by omega)]; exact fun h => h), il_15]
end Settle

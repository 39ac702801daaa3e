/-! TEXTS: one order carried out, or refused -/
section Carry
variable {g : Nat → Nat} {B n : Nat} {c al ti tc se rc wh : Int32} {st : Int64} {k w so ch rn rd nw wy mo : Nat → Int32}
theorem carry_both (hG : GW g B) (hC : CR g c st al ti tc se k w so ch) (hM : MR g nw) (hR : RR n rc rn rd wh wy mo) {K x y z : Nat} (hK : K ≤ 4) (hy : K = 3 → y ≤ 1) {wd f s t o : Int32} {told : Nat → Int32} (h1 : OK1 (some (K, x, y, z)) wd f s t) (h2 : OK2 (some (K, x, y, z)) o told) (an : Int32) (fi sp : Nat → Int32) : ∃ g' n' xc c' st' ti' tc' se' k' w' so' ch' rc' rn' rd' xm wh' an' nw' fi' sp' wy' mo', J_X9_carryOut c st al ti tc se k w so ch wd f s t rc rn rd = some (xc, c', st', ti', tc', se', k', w', so', ch', rc', rn', rd') ∧ J_X10_carries o wh an nw fi sp told wy mo = some (xm, wh', an', nw', fi', sp', wy', mo') ∧ CR g' c' st' al ti' tc' se' k' w' so' ch' ∧ MR g' nw' ∧ GW g' (B + 1584) ∧ RR n' rc' rn' rd' wh' wy' mo' ∧ OUT xc xm an' (g' = g) n' := by
  obtain ⟨rfl, rfl, hs, ht⟩ := h1 K x y z rfl
  obtain ⟨rfl, q0, q1, q2⟩ := h2 K x y z rfl
  unfold J_X9_carryOut J_X9_carryOut_b124 J_X8_word J_X8_first J_X8_second J_X8_third J_X10_carries
  rw [bn1]
  by_cases k0 : K = 0
  · subst k0
    obtain rfl := hs (by omega)
    have q1' := q1 (by omega)
    obtain ⟨g', n', xc, c', k', w', rc', rn', rd', xm, wh', an', nw', wy', mo', e1, e2, hC', hM', hG', hR', hO⟩ := hang_both hG hC hM hR an (nI x) (nI y)
    rw [if_pos (show nI 0 = (0 : Int32) from rfl), bn1, bn1, e1, bn7]
    simp (disch := omega) only [↓reduceIte, nm_x, chk_nI, chz_0, chz_1, chz_b2, chn_nI, oi_1, oi_2, oi_m1, il_0, il_1, il_2, il_3, il_4, il_5, il_6, il_7, il_8, il_9, il_10, il_11, il_12, il_13, il_14, il_15, il_16, il_32, il_35, il_40, il_41, il_42, il_43, il_44, il_45, il_46, il_48, il_57, il_58, il_59, il_60, il_99, il_104, il_115, il_116, il_119, il_126, il_133, il_255, il_256, il_512, il_931, il_1000, il_65536, bn0, bn1, bn2, bn3, bn4, bn5, bn6, bn7, bn8, bn9, bn10, bn11, bn12, bn13, bn14, bn15, nI_leI, nI_ltI, nI_eq, nI_clamp, nI_add, pk_mul, nI_lt0, ng_lt0, ng_ge0, ng_eqn, ng_neq, ng_len, ng_eq, sV_m1, sV_lt0, sV_ge0, if_true, if_false, Nat.le_refl, Nat.lt_irrefl, Nat.not_lt_zero, Nat.zero_le, not_true_eq_false, not_false_eq_true, false_and, true_and, and_true, and_false, true_or, or_true, false_or, or_false, reduceCtorEq, oc, q0, q1', e2, show ¬ (104 = 99) by omega, bnd6]
    exact ⟨_, _, _, _, _, _, _, _, _, _, _, _, _, _, _, _, _, _, _, _, _, _, _, rfl, rfl, hC', hM', hG'.up (by omega), hR', hO⟩
  by_cases k1 : K = 1
  · subst k1
    obtain rfl := hs (by omega)
    obtain rfl := ht rfl
    have q1' := q1 (by omega)
    have q2' := q2 rfl
    obtain ⟨g', n', xc, so', rc', rn', rd', xm, wh', an', nw', sp', wy', mo', e1, e2, hC', hM', hG', hR', hO⟩ := wire_both hG hC hM hR an (nI x) (nI y) (nI z) sp
    rw [if_neg (show ¬ nI 1 = (0 : Int32) by decide +kernel), if_pos (show nI 1 = (1 : Int32) from rfl), bn1, bn1, bn1, e1, bn5]
    simp (disch := omega) only [↓reduceIte, nm_x, chk_nI, chz_0, chz_1, chz_b2, chn_nI, oi_1, oi_2, oi_m1, il_0, il_1, il_2, il_3, il_4, il_5, il_6, il_7, il_8, il_9, il_10, il_11, il_12, il_13, il_14, il_15, il_16, il_32, il_35, il_40, il_41, il_42, il_43, il_44, il_45, il_46, il_48, il_57, il_58, il_59, il_60, il_99, il_104, il_115, il_116, il_119, il_126, il_133, il_255, il_256, il_512, il_931, il_1000, il_65536, bn0, bn1, bn2, bn3, bn4, bn5, bn6, bn7, bn8, bn9, bn10, bn11, bn12, bn13, bn14, bn15, nI_leI, nI_ltI, nI_eq, nI_clamp, nI_add, pk_mul, nI_lt0, ng_lt0, ng_ge0, ng_eqn, ng_neq, ng_len, ng_eq, sV_m1, sV_lt0, sV_ge0, if_true, if_false, Nat.le_refl, Nat.lt_irrefl, Nat.not_lt_zero, Nat.zero_le, not_true_eq_false, not_false_eq_true, false_and, true_and, and_true, and_false, true_or, or_true, false_or, or_false, reduceCtorEq, oc, q0, q1', q2', e2]
    exact ⟨_, _, _, _, _, _, _, _, _, _, _, _, _, _, _, _, _, _, _, _, _, _, _, rfl, rfl, hC', hM', hG'.up (by omega), hR', hO⟩
  by_cases k2 : K = 2
  · subst k2
    obtain rfl := hs (by omega)
    have q1' := q1 (by omega)
    obtain ⟨g', n', xc, so', rc', rn', rd', xm, wh', an', nw', wy', mo', e1, e2, hC', hM', hG', hR', hO⟩ := cut_both hG hC hM hR an (nI x) (nI y)
    rw [if_neg (show ¬ nI 2 = (0 : Int32) by decide +kernel), if_neg (show ¬ nI 2 = (1 : Int32) by decide +kernel), if_pos (show nI 2 = (2 : Int32) from rfl), bn1, bn1, e1, bn5]
    simp (disch := omega) only [↓reduceIte, nm_x, chk_nI, chz_0, chz_1, chz_b2, chn_nI, oi_1, oi_2, oi_m1, il_0, il_1, il_2, il_3, il_4, il_5, il_6, il_7, il_8, il_9, il_10, il_11, il_12, il_13, il_14, il_15, il_16, il_32, il_35, il_40, il_41, il_42, il_43, il_44, il_45, il_46, il_48, il_57, il_58, il_59, il_60, il_99, il_104, il_115, il_116, il_119, il_126, il_133, il_255, il_256, il_512, il_931, il_1000, il_65536, bn0, bn1, bn2, bn3, bn4, bn5, bn6, bn7, bn8, bn9, bn10, bn11, bn12, bn13, bn14, bn15, nI_leI, nI_ltI, nI_eq, nI_clamp, nI_add, pk_mul, nI_lt0, ng_lt0, ng_ge0, ng_eqn, ng_neq, ng_len, ng_eq, sV_m1, sV_lt0, sV_ge0, if_true, if_false, Nat.le_refl, Nat.lt_irrefl, Nat.not_lt_zero, Nat.zero_le, not_true_eq_false, not_false_eq_true, false_and, true_and, and_true, and_false, true_or, or_true, false_or, or_false, reduceCtorEq, oc, q0, q1', e2]
    exact ⟨_, _, _, _, _, _, _, _, _, _, _, _, _, _, _, _, _, _, _, _, _, _, _, rfl, rfl, hC', hM', hG'.up (by omega), hR', hO⟩
  by_cases k3 : K = 3
  · subst k3
    obtain rfl := hs (by omega)
    have q1' := q1 (by omega)
    have hy1 := hy rfl
    obtain ⟨g', n', xc, st', se', ch', rc', rn', rd', xm, wh', an', nw', wy', mo', e1, e2, hC', hM', hG', hR', hO⟩ := set_both hG hC hM hR an (nI x) hy1
    have e1' : (if nI y = nI 1 then J_X9_setSwitch c st se k ch rc rn rd (nI x) (nI 1) else J_X9_setSwitch c st se k ch rc rn rd (nI x) (nI 0)) = J_X9_setSwitch c st se k ch rc rn rd (nI x) (nI y) := by
      rcases (show y = 0 ∨ y = 1 by omega) with rfl | rfl
      · rw [if_neg (by decide +kernel)]
      · rw [if_pos rfl]
    rw [if_neg (show ¬ nI 3 = (0 : Int32) by decide +kernel), if_neg (show ¬ nI 3 = (1 : Int32) by decide +kernel), if_neg (show ¬ nI 3 = (2 : Int32) by decide +kernel), if_pos (show nI 3 = (3 : Int32) from rfl), bn1, bn1]
    rcases (show y = 0 ∨ y = 1 by omega) with rfl | rfl
    · rw [if_neg (show ¬ nI 0 = (1 : Int32) by decide +kernel), il_0, e1, bn7]
      simp (disch := omega) only [↓reduceIte, nm_x, chk_nI, chz_0, chz_1, chz_b2, chn_nI, oi_1, oi_2, oi_m1, il_0, il_1, il_2, il_3, il_4, il_5, il_6, il_7, il_8, il_9, il_10, il_11, il_12, il_13, il_14, il_15, il_16, il_32, il_35, il_40, il_41, il_42, il_43, il_44, il_45, il_46, il_48, il_57, il_58, il_59, il_60, il_99, il_104, il_115, il_116, il_119, il_126, il_133, il_255, il_256, il_512, il_931, il_1000, il_65536, bn0, bn1, bn2, bn3, bn4, bn5, bn6, bn7, bn8, bn9, bn10, bn11, bn12, bn13, bn14, bn15, nI_leI, nI_ltI, nI_eq, nI_clamp, nI_add, pk_mul, nI_lt0, ng_lt0, ng_ge0, ng_eqn, ng_neq, ng_len, ng_eq, sV_m1, sV_lt0, sV_ge0, if_true, if_false, Nat.le_refl, Nat.lt_irrefl, Nat.not_lt_zero, Nat.zero_le, not_true_eq_false, not_false_eq_true, false_and, true_and, and_true, and_false, true_or, or_true, false_or, or_false, reduceCtorEq, oc, q0, q1', e2]
      exact ⟨_, _, _, _, _, _, _, _, _, _, _, _, _, _, _, _, _, _, _, _, _, _, _, rfl, rfl, hC', hM', hG'.up (by omega), hR', hO⟩
    · rw [if_pos (show nI 1 = (1 : Int32) from rfl), il_1, e1, bn7]
      simp (disch := omega) only [↓reduceIte, nm_x, chk_nI, chz_0, chz_1, chz_b2, chn_nI, oi_1, oi_2, oi_m1, il_0, il_1, il_2, il_3, il_4, il_5, il_6, il_7, il_8, il_9, il_10, il_11, il_12, il_13, il_14, il_15, il_16, il_32, il_35, il_40, il_41, il_42, il_43, il_44, il_45, il_46, il_48, il_57, il_58, il_59, il_60, il_99, il_104, il_115, il_116, il_119, il_126, il_133, il_255, il_256, il_512, il_931, il_1000, il_65536, bn0, bn1, bn2, bn3, bn4, bn5, bn6, bn7, bn8, bn9, bn10, bn11, bn12, bn13, bn14, bn15, nI_leI, nI_ltI, nI_eq, nI_clamp, nI_add, pk_mul, nI_lt0, ng_lt0, ng_ge0, ng_eqn, ng_neq, ng_len, ng_eq, sV_m1, sV_lt0, sV_ge0, if_true, if_false, Nat.le_refl, Nat.lt_irrefl, Nat.not_lt_zero, Nat.zero_le, not_true_eq_false, not_false_eq_true, false_and, true_and, and_true, and_false, true_or, or_true, false_or, or_false, reduceCtorEq, oc, q0, q1', e2]
      exact ⟨_, _, _, _, _, _, _, _, _, _, _, _, _, _, _, _, _, _, _, _, _, _, _, rfl, rfl, hC', hM', hG'.up (by omega), hR', hO⟩
  obtain rfl : K = 4 := by omega
  obtain ⟨g', xc, st', ti', tc', ch', xm, an', nw', fi', e1, e2, hC', hM', hG', hO⟩ := tick_both hG hC hM an (nI x) fi n
  rw [if_neg (show ¬ nI 4 = (0 : Int32) by decide +kernel), if_neg (show ¬ nI 4 = (1 : Int32) by decide +kernel), if_neg (show ¬ nI 4 = (2 : Int32) by decide +kernel), if_neg (show ¬ nI 4 = (3 : Int32) by decide +kernel), bn1, e1, bn5]
  simp (disch := omega) only [↓reduceIte, nm_x, chk_nI, chz_0, chz_1, chz_b2, chn_nI, oi_1, oi_2, oi_m1, il_0, il_1, il_2, il_3, il_4, il_5, il_6, il_7, il_8, il_9, il_10, il_11, il_12, il_13, il_14, il_15, il_16, il_32, il_35, il_40, il_41, il_42, il_43, il_44, il_45, il_46, il_48, il_57, il_58, il_59, il_60, il_99, il_104, il_115, il_116, il_119, il_126, il_133, il_255, il_256, il_512, il_931, il_1000, il_65536, bn0, bn1, bn2, bn3, bn4, bn5, bn6, bn7, bn8, bn9, bn10, bn11, bn12, bn13, bn14, bn15, nI_leI, nI_ltI, nI_eq, nI_clamp, nI_add, pk_mul, nI_lt0, ng_lt0, ng_ge0, ng_eqn, ng_neq, ng_len, ng_eq, sV_m1, sV_lt0, sV_ge0, if_true, if_false, Nat.le_refl, Nat.lt_irrefl, Nat.not_lt_zero, Nat.zero_le, not_true_eq_false, not_false_eq_true, false_and, true_and, and_true, and_false, true_or, or_true, false_or, or_false, reduceCtorEq, oc, q0, e2]
  exact ⟨_, _, _, _, _, _, _, _, _, _, _, _, _, _, _, _, _, _, _, _, _, _, _, rfl, rfl, hC', hM', hG', hR, hO⟩
theorem refuseOrder_both (hR : RR n rc rn rd wh wy mo) {j e : Nat} (hj : j < 2 ^ 31) (he : 11 ≤ e ∧ e ≤ 14 ∧ (e = 14 → 1 ≤ n ∧ n ≤ 2)) : ∃ n' rc' rn' rd' wh' wy' mo', J_X9_refuseOrder rc rn rd (nI j) (-nI e) = some (-nI 14, rc', rn', rd') ∧ J_X10_stops wh wy mo (nI j) (-nI e) = some (-nI 14, wh', wy', mo') ∧ RR n' rc' rn' rd' wh' wy' mo' := by
  obtain ⟨h3, rfl, rfl, h4⟩ := hR
  unfold J_X9_refuseOrder J_X9_refuseOrder_b39 J_X10_stops J_X10_stops_b14
  by_cases h14 : e = 14
  · obtain ⟨n1, n2⟩ := he.2.2 h14
    subst h14
    rw [if_pos (show -nI 14 = (-14 : Int32) from rfl), if_pos (show -nI 14 = (-14 : Int32) from rfl)]
    unfold J_X6_putAhead
    rcases (show n = 1 ∨ n = 2 by omega) with rfl | rfl
    · obtain ⟨m, hm⟩ : ∃ m, FU = m + 1 + 1 := ⟨998, rfl⟩
      rw [hm]
      rw [il_2, nm_x, if_neg (show ¬ nI 2 < nI 1 by decide +kernel)]
      simp (disch := omega) only [↓reduceIte, nm_x, chk_nI, chz_0, chz_1, chz_b2, chn_nI, oi_1, oi_2, oi_m1, il_0, il_1, il_2, il_3, il_4, il_5, il_6, il_7, il_8, il_9, il_10, il_11, il_12, il_13, il_14, il_15, il_16, il_32, il_35, il_40, il_41, il_42, il_43, il_44, il_45, il_46, il_48, il_57, il_58, il_59, il_60, il_99, il_104, il_115, il_116, il_119, il_126, il_133, il_255, il_256, il_512, il_931, il_1000, il_65536, bn0, bn1, bn2, bn3, bn4, bn5, bn6, bn7, bn8, bn9, bn10, bn11, bn12, bn13, bn14, bn15, nI_leI, nI_ltI, nI_eq, nI_clamp, nI_add, pk_mul, nI_lt0, ng_lt0, ng_ge0, ng_eqn, ng_neq, ng_len, ng_eq, sV_m1, sV_lt0, sV_ge0, if_true, if_false, Nat.le_refl, Nat.lt_irrefl, Nat.not_lt_zero, Nat.zero_le, not_true_eq_false, not_false_eq_true, false_and, true_and, and_true, and_false, true_or, or_true, false_or, or_false, reduceCtorEq, J_X6_putAhead_L12, J_X10_stops_L18, J_X10_stops_b101, pk_sub, show ¬ 1 ≤ 0 by omega, show (nI 1 : Int32) - nI 1 = nI 0 from rfl]
      refine ⟨2, _, _, _, _, _, _, rfl, rfl, by omega, rfl, rfl, fun i hi => ?_⟩
      have q := h4 0 (by omega)
      unfold upd
      rcases (show i = 0 ∨ i = 1 by omega) with rfl | rfl
      · exact ⟨rfl, rfl⟩
      · exact q
    · obtain ⟨m, hm⟩ : ∃ m, FU = m + 1 + 1 + 1 := ⟨997, rfl⟩
      rw [hm]
      rw [il_2, nm_x, if_neg (show ¬ nI 2 < nI 2 by decide +kernel)]
      simp (disch := omega) only [↓reduceIte, nm_x, chk_nI, chz_0, chz_1, chz_b2, chn_nI, oi_1, oi_2, oi_m1, il_0, il_1, il_2, il_3, il_4, il_5, il_6, il_7, il_8, il_9, il_10, il_11, il_12, il_13, il_14, il_15, il_16, il_32, il_35, il_40, il_41, il_42, il_43, il_44, il_45, il_46, il_48, il_57, il_58, il_59, il_60, il_99, il_104, il_115, il_116, il_119, il_126, il_133, il_255, il_256, il_512, il_931, il_1000, il_65536, bn0, bn1, bn2, bn3, bn4, bn5, bn6, bn7, bn8, bn9, bn10, bn11, bn12, bn13, bn14, bn15, nI_leI, nI_ltI, nI_eq, nI_clamp, nI_add, pk_mul, nI_lt0, ng_lt0, ng_ge0, ng_eqn, ng_neq, ng_len, ng_eq, sV_m1, sV_lt0, sV_ge0, if_true, if_false, Nat.le_refl, Nat.lt_irrefl, Nat.not_lt_zero, Nat.zero_le, not_true_eq_false, not_false_eq_true, false_and, true_and, and_true, and_false, true_or, or_true, false_or, or_false, reduceCtorEq, J_X6_putAhead_L12, J_X10_stops_L18, J_X10_stops_b101, pk_sub, show ¬ 1 ≤ 0 by omega, show ¬ 2 ≤ 0 by omega, show (nI 1 : Int32) - nI 1 = nI 0 from rfl, show (nI 2 : Int32) - nI 1 = nI 1 from rfl]
      refine ⟨3, _, _, _, _, _, _, rfl, rfl, by omega, rfl, rfl, fun i hi => ?_⟩
      have q := h4 0 (by omega)
      have q' := h4 1 (by omega)
      unfold upd
      rcases (show i = 0 ∨ i = 1 ∨ i = 2 by omega) with rfl | rfl | rfl
      · exact ⟨rfl, rfl⟩
      · exact q
      · exact q'
  · have hne : ¬ -nI e = (-14 : Int32) := fun q => h14 ((ng_eq (by omega) (by omega)).1 (show -nI e = -nI 14 from q))
    rw [if_neg hne, if_neg hne]
    rw [show FU = 999 + 1 from rfl, J_X10_stops_L18]
    rw [if_pos (show (0 : Int32) ≤ 0 by decide +kernel)]
    have e1 : J_X6_start rn rd (10 : Int32) (nI j) = some (nI 1, upd rn 0 (nI 10), upd rd 0 (nI j)) := by
      unfold J_X6_start
      simp (disch := omega) only [↓reduceIte, nm_x, chk_nI, chz_0, chz_1, chz_b2, chn_nI, oi_1, oi_2, oi_m1, il_0, il_1, il_2, il_3, il_4, il_5, il_6, il_7, il_8, il_9, il_10, il_11, il_12, il_13, il_14, il_15, il_16, il_32, il_35, il_40, il_41, il_42, il_43, il_44, il_45, il_46, il_48, il_57, il_58, il_59, il_60, il_99, il_104, il_115, il_116, il_119, il_126, il_133, il_255, il_256, il_512, il_931, il_1000, il_65536, bn0, bn1, bn2, bn3, bn4, bn5, bn6, bn7, bn8, bn9, bn10, bn11, bn12, bn13, bn14, bn15, nI_leI, nI_ltI, nI_eq, nI_clamp, nI_add, pk_mul, nI_lt0, ng_lt0, ng_ge0, ng_eqn, ng_neq, ng_len, ng_eq, sV_m1, sV_lt0, sV_ge0, if_true, if_false, Nat.le_refl, Nat.lt_irrefl, Nat.not_lt_zero, Nat.zero_le, not_true_eq_false, not_false_eq_true, false_and, true_and, and_true, and_false, true_or, or_true, false_or, or_false, reduceCtorEq]
    rw [e1, bn3, il_13, behind_c, bn3]
    simp (disch := omega) only [↓reduceIte, nm_x, chk_nI, chz_0, chz_1, chz_b2, chn_nI, oi_1, oi_2, oi_m1, il_0, il_1, il_2, il_3, il_4, il_5, il_6, il_7, il_8, il_9, il_10, il_11, il_12, il_13, il_14, il_15, il_16, il_32, il_35, il_40, il_41, il_42, il_43, il_44, il_45, il_46, il_48, il_57, il_58, il_59, il_60, il_99, il_104, il_115, il_116, il_119, il_126, il_133, il_255, il_256, il_512, il_931, il_1000, il_65536, bn0, bn1, bn2, bn3, bn4, bn5, bn6, bn7, bn8, bn9, bn10, bn11, bn12, bn13, bn14, bn15, nI_leI, nI_ltI, nI_eq, nI_clamp, nI_add, pk_mul, nI_lt0, ng_lt0, ng_ge0, ng_eqn, ng_neq, ng_len, ng_eq, sV_m1, sV_lt0, sV_ge0, if_true, if_false, Nat.le_refl, Nat.lt_irrefl, Nat.not_lt_zero, Nat.zero_le, not_true_eq_false, not_false_eq_true, false_and, true_and, and_true, and_false, true_or, or_true, false_or, or_false, reduceCtorEq]
    rw [if_neg h14, Nat.zero_add, behind_m, bn4]
    exact ⟨2, _, _, _, _, _, _, rfl, rfl, RR_2 (RR_1 rn rd wy mo (nI 10) (nI j)) (nI 13) (-nI e)⟩
end Carry

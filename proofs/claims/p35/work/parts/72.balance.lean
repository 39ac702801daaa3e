/-! BALANCED, and the calls that only look ahead -/
theorem div2 {a : Nat} (h : a < 2 ^ 31) : nI a / nI 2 = nI (a / 2) := by
  rw [fa_eq, Int32.toInt_div, nI_toInt h, nI_toInt (by omega), nI_toInt (by omega)]
  have e : ((a : Nat) : Int).tdiv ((2 : Nat) : Int) = ((a / 2 : Nat) : Int) := rfl
  rw [e]
  exact Int.bmod_eq_of_le (by omega) (by omega)
theorem mod2 {a : Nat} (h : a < 2 ^ 31) : nI a - nI a / nI 2 * nI 2 = nI (a % 2) := by
  rw [div2 h, pk_mul, pk_sub (by omega)]
  congr 1
  omega
theorem chn2 {β : Type} (b : Option β) : chn (nI 2) b = b := by
  unfold chn
  rw [if_neg (by decide +kernel)]
section Balance
variable {g : Nat → Nat} {B : Nat} {c al ti tc se : Int32} {st : Int64} {k w so ch nw : Nat → Int32}
theorem bal_c (hW : GW g B) (hC : CR g c st al ti tc se k w so ch) : ∀ d nf j, j + d = g 0 → d < nf → J_X9_isBalanced_L2 c st tc se ch nf (nI j) = some (nI 1) := by
  have hG := hW.1
  have hn := hG.1
  intro d
  induction d with
  | zero =>
    intro nf j hj hd
    obtain ⟨m, rfl, -⟩ := nf_of hd
    obtain rfl : j = g 0 := by omega
    rw [J_X9_isBalanced_L2]
    unfold J_X2_count J_X2_tickChanges J_X2_sets J_X9_isBalanced_b83
    rw [bn1, hC.1.1, if_pos ((nI_leI (by omega) (by omega)).2 (Nat.le_refl _)), ← hC.1.1, X2_changes hG hC.1 hC.2.2.1, ch_sum hW, bn1, bn1, bn1, hC.2.2.2.2.2.1, hC.2.2.2.2.2.2, nI_add, if_pos rfl]
    rfl
  | succ d ih =>
    intro nf j hj hd
    obtain ⟨m, rfl, hm⟩ := nf_of hd
    rw [J_X9_isBalanced_L2]
    unfold J_X2_count J_X9_isBalanced_b32
    have h1 := hW.2.1 j (by omega)
    have h2 := (GV_l hG (l := j) (by omega)).2.2.1
    rw [bn1, if_neg (show ¬ c ≤ nI j by rw [hC.1.1, nI_leI (by omega) (by omega)]; omega), X2_changesOf hG hC.1 ch (by omega), bn1, nm_x, hC.2.2.1 j (by omega), show (1 : Int32) = nI (2 ^ 1 - 1) from rfl, fa_mask, X2_isGlowing hC.2.1 (by omega), bn1, bn1, gw]
    rw [show (2 : Nat) ^ 1 = 2 from rfl, h1]
    have ih' := ih m (j + 1) (by omega) hm
    rcases (show GA g j 2 = 0 ∨ GA g j 2 = 1 by omega) with q | q <;> rw [q]
    · rw [if_neg (show ¬ nI 0 = nI (2 - 1) by decide +kernel), decide_eq_false (by omega), b2_f, if_pos (show (0 : Int32) = nI 0 from rfl), oi_1, nI_add, nm_x]
      exact ih'
    · rw [if_pos (show nI 1 = nI (2 - 1) from rfl), decide_eq_true rfl, b2_t, if_pos (show nI (2 - 1) = nI 1 from rfl), oi_1, nI_add, nm_x]
      exact ih'
theorem bal_m (hW : GW g B) (hB : B < 2 ^ 31) (hM : MR g nw) : ∀ d nf j, j + d = g 0 → d < nf → J_X10_isBalanced_L4 nw nf (nI (fb_sm (fun l => GA g l 3) j)) (nI j) = some (nI 1) := by
  have hG := hW.1
  have hn := hG.1
  intro d
  induction d with
  | zero =>
    intro nf j hj hd
    obtain ⟨m, rfl, -⟩ := nf_of hd
    obtain rfl : j = g 0 := by omega
    rw [J_X10_isBalanced_L4, ch_sum hW]
    unfold J_X10_isBalanced_b70
    simp (disch := omega) only [↓reduceIte, nm_x, chk_nI, chz_0, chz_1, chz_b2, chn_nI, oi_1, oi_2, oi_m1, il_0, il_1, il_2, il_3, il_4, il_5, il_6, il_7, il_8, il_9, il_10, il_11, il_12, il_13, il_14, il_15, il_16, il_32, il_35, il_40, il_41, il_42, il_43, il_44, il_45, il_46, il_48, il_57, il_58, il_59, il_60, il_99, il_104, il_115, il_116, il_119, il_126, il_133, il_255, il_256, il_512, il_931, il_1000, il_65536, bn0, bn1, bn2, bn3, bn4, bn5, bn6, bn7, bn8, bn9, bn10, bn11, bn12, bn13, bn14, bn15, nI_leI, nI_ltI, nI_eq, nI_clamp, nI_add, pk_mul, nI_lt0, ng_lt0, ng_ge0, ng_eqn, ng_neq, ng_len, ng_eq, sV_m1, sV_lt0, sV_ge0, if_true, if_false, Nat.le_refl, Nat.lt_irrefl, Nat.not_lt_zero, Nat.zero_le, not_true_eq_false, not_false_eq_true, false_and, true_and, and_true, and_false, true_or, or_true, false_or, or_false, reduceCtorEq, hM 0 (by omega), hM 3 (by omega), hM 4 (by omega)]
  | succ d ih =>
    intro nf j hj hd
    obtain ⟨m, rfl, hm⟩ := nf_of hd
    have h1 := hW.2.1 j (by omega)
    have h3 := hW.ch (l := j) (by omega)
    have ih' := ih m (j + 1) (by omega) hm
    rw [fb_sm_succ] at ih'
    rw [J_X10_isBalanced_L4, il_3, il_2, X10_of hM (by omega) (by omega), X10_of hM (by omega) (by omega)]
    have hmod := mod2 (show GA g j 3 < 2 ^ 31 by omega)
    simp (disch := omega) only [↓reduceIte, nm_x, chk_nI, chz_0, chz_1, chz_b2, chn_nI, oi_1, oi_2, oi_m1, il_0, il_1, il_2, il_3, il_4, il_5, il_6, il_7, il_8, il_9, il_10, il_11, il_12, il_13, il_14, il_15, il_16, il_32, il_35, il_40, il_41, il_42, il_43, il_44, il_45, il_46, il_48, il_57, il_58, il_59, il_60, il_99, il_104, il_115, il_116, il_119, il_126, il_133, il_255, il_256, il_512, il_931, il_1000, il_65536, bn0, bn1, bn2, bn3, bn4, bn5, bn6, bn7, bn8, bn9, bn10, bn11, bn12, bn13, bn14, bn15, nI_leI, nI_ltI, nI_eq, nI_clamp, nI_add, pk_mul, nI_lt0, ng_lt0, ng_ge0, ng_eqn, ng_neq, ng_len, ng_eq, sV_m1, sV_lt0, sV_ge0, if_true, if_false, Nat.le_refl, Nat.lt_irrefl, Nat.not_lt_zero, Nat.zero_le, not_true_eq_false, not_false_eq_true, false_and, true_and, and_true, and_false, true_or, or_true, false_or, or_false, reduceCtorEq, hM 0 (by omega), show ¬ g 0 ≤ j by omega, chn2, hmod, h1]
    exact ih'
theorem balanced_both (hW : GW g B) (hB : B < 2 ^ 31) (hC : CR g c st al ti tc se k w so ch) (hM : MR g nw) : J_X9_isBalanced c st tc se ch = some (nI 1) ∧ J_X10_isBalanced nw = some (nI 1) := by
  have hn := hW.1.1
  refine ⟨?_, ?_⟩
  · unfold J_X9_isBalanced
    rw [il_0]
    exact bal_c hW hC (g 0) FU 0 (by omega) (by unfold FU; omega)
  · unfold J_X10_isBalanced
    rw [il_0]
    exact bal_m hW hB hM (g 0) FU 0 (by omega) (by unfold FU; omega)
theorem settles_call (hG : GV g) (hC : CR g c st al ti tc se k w so ch) (hM : MR g nw) (th fi : Nat → Int32) : ∃ x nw' th' fi', J_X9_settlesIn c st k w so = some x ∧ J_X10_settlesIn nw th fi = some (x, nw', th', fi') ∧ MR g nw' := by
  obtain ⟨x, nw', th', fi', e1, e2, e3⟩ := settle_both hG hC.1 hC.2.1 hM th fi
  unfold J_X9_settlesIn
  rw [e1, bn1]
  exact ⟨x, nw', th', fi', rfl, e2, e3⟩
theorem period_call (hG : GV g) (hC : CR g c st al ti tc se k w so ch) (hM : MR g nw) (sn : Nat → Int64) (th fi gl lo up : Nat → Int32) : ∃ x sn' nw' th' fi' gl' lo' up', J_X9_period c st k w so sn = some (x, sn') ∧ J_X9_periodAgain c st k w so = some x ∧ J_X10_period nw th fi gl lo up = some (x, nw', th', fi', gl', lo', up') ∧ J_X10_periodAgain nw th fi gl lo up = some (x, nw', th', fi', gl', lo', up') ∧ MR g nw' := by
  obtain ⟨x, sn', a1, a2⟩ := X1_keep hG hC.1 hC.2.1 sn
  obtain ⟨y, b1, b2⟩ := X1_going hG hC.1 hC.2.1
  obtain ⟨z, nw', th', fi', gl', lo', up', c1, c2, c3⟩ := X10_period hG hM th fi gl lo up
  obtain rfl := b2.uniq a2
  obtain rfl := c3.uniq a2
  unfold J_X9_period J_X9_periodAgain J_X10_periodAgain
  rw [a1, b1, c1, bn2, bn1, bn7]
  exact ⟨_, _, _, _, _, _, _, _, rfl, rfl, rfl, rfl, c2⟩
theorem flickers_call (hG : GV g) (hC : CR g c st al ti tc se k w so ch) (hM : MR g nw) (th fi : Nat → Int32) (v1 v2 : Int32) : ∃ x nw' th' fi', J_X9_flickers c st k w so v1 v2 = some x ∧ J_X10_flickers nw th fi v1 v2 = some (x, nw', th', fi') ∧ MR g nw' := by
  have h16 := hG.1
  unfold J_X9_flickers J_X9_flickers_b22 J_X9_flickers_b47
  rcases ix_case v1 (n := g 0) (by omega) with hv | ⟨l, hl, rfl⟩
  · unfold J_X10_flickers J_X10_flickers_b16
    rw [hC.1.1, X2_isHung_f hv, X10_isLantern_f hG hM hv]
    simp only [bn1]
    rw [if_pos (show nI 0 = (0 : Int32) from rfl), if_pos (show nI 0 = (0 : Int32) from rfl)]
    exact ⟨_, _, _, _, rfl, rfl, hM⟩
  have hh : J_X2_isHung c (nI l) = some (nI 1) := by rw [hC.1.1]; exact X2_isHung_t hl h16
  rw [hh, bn1, if_neg (show ¬ nI 1 = (0 : Int32) by decide +kernel)]
  rcases ix_case v2 (n := g 0) (by omega) with hv | ⟨b, hb, rfl⟩
  · unfold J_X10_flickers J_X10_flickers_b16
    rw [hC.1.1, X2_isHung_f hv, X10_isLantern_t hG hM hl, X10_isLantern_f hG hM hv, bn1, if_pos (show nI 0 = (0 : Int32) from rfl), bn1, if_neg (show ¬ nI 1 = (0 : Int32) by decide +kernel), bn1, if_pos (show nI 0 = (0 : Int32) from rfl)]
    exact ⟨_, _, _, _, rfl, rfl, hM⟩
  have hh2 : J_X2_isHung c (nI b) = some (nI 1) := by rw [hC.1.1]; exact X2_isHung_t hb h16
  rw [hh2, bn1, if_neg (show ¬ nI 1 = (0 : Int32) by decide +kernel), X2_isSwitch hG hC.1 hl, X2_isSwitch hG hC.1 hb, bn1]
  by_cases hk : GA g l 0 = 0
  · rw [decide_eq_true hk, b2_t, if_neg (show ¬ nI 1 = (0 : Int32) by decide +kernel)]
    unfold J_X10_flickers J_X10_flickers_b35
    rw [X10_isLantern_t hG hM hl, X10_isLantern_t hG hM hb, X10_isSwitch hG hM (by omega), bn1, if_neg (show ¬ nI 1 = (0 : Int32) by decide +kernel), bn1, if_neg (show ¬ nI 1 = (0 : Int32) by decide +kernel), bn1, decide_eq_true hk, b2_t, if_neg (show ¬ nI 1 = (0 : Int32) by decide +kernel)]
    exact ⟨_, _, _, _, rfl, rfl, hM⟩
  · rw [decide_eq_false hk, b2_f, if_pos (show nI 0 = (0 : Int32) from rfl), bn1]
    by_cases hk2 : GA g b 0 = 0
    · obtain ⟨x, nw', th', fi', e1, e2, e3⟩ := flick_both hG hC.1 hC.2.1 hM hl hb hk hk2 th fi
      rw [decide_eq_true hk2, b2_t, if_neg (show ¬ nI 1 = (0 : Int32) by decide +kernel), e1, bn1]
      exact ⟨x, nw', th', fi', rfl, e2, e3⟩
    · rw [decide_eq_false hk2, b2_f, if_pos (show nI 0 = (0 : Int32) from rfl)]
      unfold J_X10_flickers J_X10_flickers_b35
      rw [X10_isLantern_t hG hM hl, X10_isLantern_t hG hM hb, X10_isSwitch hG hM (by omega), X10_isSwitch hG hM (by omega), bn1, if_neg (show ¬ nI 1 = (0 : Int32) by decide +kernel), bn1, if_neg (show ¬ nI 1 = (0 : Int32) by decide +kernel), bn1, decide_eq_false hk, b2_f, if_pos (show nI 0 = (0 : Int32) from rfl), bn1, decide_eq_false hk2, b2_f, if_pos (show nI 0 = (0 : Int32) from rfl)]
      exact ⟨_, _, _, _, rfl, rfl, hM⟩
end Balance

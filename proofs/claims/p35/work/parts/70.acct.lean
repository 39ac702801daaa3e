/-! THE ACCOUNT -/
section Acct
variable {g : Nat → Nat} {B : Nat} {c al ti tc se : Int32} {st : Int64} {k w so ch nw : Nat → Int32}
theorem fb_ct_in (p : Nat → Bool) {n : Nat} (hn : n ≤ 16) : fb_ct (fun i => decide (i < n) && p i) 16 = fb_ct p n := by
  have h1 := fb_ct_split (fun i => decide (i < n) && p i) n (16 - n)
  rw [show n + (16 - n) = 16 by omega] at h1
  have hz : fb_ct (fun k => decide (n + k < n) && p (n + k)) (16 - n) = 0 := fb_ct_zero.2 (fun i hi => by
    show (decide (n + i < n) && p (n + i)) = false
    rw [decide_eq_false (by omega)]
    rfl)
  rw [h1, fb_ct_cong (q := p) (n := n) (fun i hi => by rw [decide_eq_true hi]; rfl), hz, Nat.add_zero]
theorem acct_sw (hG : GV g) (hM : MR g nw) (u ln v1 : Int32) : ∀ d nf j (r : Nat → Int32), j + d = g 0 → d < nf → J_X10_account_L84 u ln nw v1 nf r (nI (fb_ct (fun i => decide (GA g i 0 = 0)) j)) (nI j) = some (nI (fb_ct (fun i => decide (GA g i 0 = 0)) (g 0)), r) := by
  have hn := hG.1
  intro d
  induction d with
  | zero =>
    intro nf j r hj hd
    obtain ⟨m, rfl, -⟩ := nf_of hd
    obtain rfl : j = g 0 := by omega
    rw [J_X10_account_L84]
    simp (disch := omega) only [↓reduceIte, nm_x, chk_nI, chz_0, chz_1, chz_b2, chn_nI, oi_1, oi_2, oi_m1, il_0, il_1, il_2, il_3, il_4, il_5, il_6, il_7, il_8, il_9, il_10, il_11, il_12, il_13, il_14, il_15, il_16, il_32, il_35, il_40, il_41, il_42, il_43, il_44, il_45, il_46, il_48, il_57, il_58, il_59, il_60, il_99, il_104, il_115, il_116, il_119, il_126, il_133, il_255, il_256, il_512, il_931, il_1000, il_65536, bn0, bn1, bn2, bn3, bn4, bn5, bn6, bn7, bn8, bn9, bn10, bn11, bn12, bn13, bn14, bn15, nI_leI, nI_ltI, nI_eq, nI_clamp, nI_add, pk_mul, nI_lt0, ng_lt0, ng_ge0, ng_eqn, ng_neq, ng_len, ng_eq, sV_m1, sV_lt0, sV_ge0, if_true, if_false, Nat.le_refl, Nat.lt_irrefl, Nat.not_lt_zero, Nat.zero_le, not_true_eq_false, not_false_eq_true, false_and, true_and, and_true, and_false, true_or, or_true, false_or, or_false, reduceCtorEq, hM 0 (by omega)]
  | succ d ih =>
    intro nf j r hj hd
    obtain ⟨m, rfl, hm⟩ := nf_of hd
    have ih' := ih m (j + 1) r (by omega) hm
    rw [fb_ct_succ] at ih'
    rw [J_X10_account_L84, X10_isSwitch hG hM (by omega)]
    unfold J_X10_account_b105
    have := fb_ct_le (fun i => decide (GA g i 0 = 0)) j
    simp (disch := omega) only [↓reduceIte, nm_x, chk_nI, chz_0, chz_1, chz_b2, chn_nI, oi_1, oi_2, oi_m1, il_0, il_1, il_2, il_3, il_4, il_5, il_6, il_7, il_8, il_9, il_10, il_11, il_12, il_13, il_14, il_15, il_16, il_32, il_35, il_40, il_41, il_42, il_43, il_44, il_45, il_46, il_48, il_57, il_58, il_59, il_60, il_99, il_104, il_115, il_116, il_119, il_126, il_133, il_255, il_256, il_512, il_931, il_1000, il_65536, bn0, bn1, bn2, bn3, bn4, bn5, bn6, bn7, bn8, bn9, bn10, bn11, bn12, bn13, bn14, bn15, nI_leI, nI_ltI, nI_eq, nI_clamp, nI_add, pk_mul, nI_lt0, ng_lt0, ng_ge0, ng_eqn, ng_neq, ng_len, ng_eq, sV_m1, sV_lt0, sV_ge0, if_true, if_false, Nat.le_refl, Nat.lt_irrefl, Nat.not_lt_zero, Nat.zero_le, not_true_eq_false, not_false_eq_true, false_and, true_and, and_true, and_false, true_or, or_true, false_or, or_false, reduceCtorEq, hM 0 (by omega), show ¬ g 0 ≤ j by omega, b2_0]
    by_cases q : GA g j 0 = 0
    · rw [decide_eq_true q] at ih' ⊢
      rw [if_pos rfl] at ih'
      simp (disch := omega) only [↓reduceIte, nm_x, chk_nI, chz_0, chz_1, chz_b2, chn_nI, oi_1, oi_2, oi_m1, il_0, il_1, il_2, il_3, il_4, il_5, il_6, il_7, il_8, il_9, il_10, il_11, il_12, il_13, il_14, il_15, il_16, il_32, il_35, il_40, il_41, il_42, il_43, il_44, il_45, il_46, il_48, il_57, il_58, il_59, il_60, il_99, il_104, il_115, il_116, il_119, il_126, il_133, il_255, il_256, il_512, il_931, il_1000, il_65536, bn0, bn1, bn2, bn3, bn4, bn5, bn6, bn7, bn8, bn9, bn10, bn11, bn12, bn13, bn14, bn15, nI_leI, nI_ltI, nI_eq, nI_clamp, nI_add, pk_mul, nI_lt0, ng_lt0, ng_ge0, ng_eqn, ng_neq, ng_len, ng_eq, sV_m1, sV_lt0, sV_ge0, if_true, if_false, Nat.le_refl, Nat.lt_irrefl, Nat.not_lt_zero, Nat.zero_le, not_true_eq_false, not_false_eq_true, false_and, true_and, and_true, and_false, true_or, or_true, false_or, or_false, reduceCtorEq, Bool.true_eq_false]
      exact ih'
    · rw [decide_eq_false q] at ih' ⊢
      simp (disch := omega) only [↓reduceIte, nm_x, chk_nI, chz_0, chz_1, chz_b2, chn_nI, oi_1, oi_2, oi_m1, il_0, il_1, il_2, il_3, il_4, il_5, il_6, il_7, il_8, il_9, il_10, il_11, il_12, il_13, il_14, il_15, il_16, il_32, il_35, il_40, il_41, il_42, il_43, il_44, il_45, il_46, il_48, il_57, il_58, il_59, il_60, il_99, il_104, il_115, il_116, il_119, il_126, il_133, il_255, il_256, il_512, il_931, il_1000, il_65536, bn0, bn1, bn2, bn3, bn4, bn5, bn6, bn7, bn8, bn9, bn10, bn11, bn12, bn13, bn14, bn15, nI_leI, nI_ltI, nI_eq, nI_clamp, nI_add, pk_mul, nI_lt0, ng_lt0, ng_ge0, ng_eqn, ng_neq, ng_len, ng_eq, sV_m1, sV_lt0, sV_ge0, if_true, if_false, Nat.le_refl, Nat.lt_irrefl, Nat.not_lt_zero, Nat.zero_le, not_true_eq_false, not_false_eq_true, false_and, true_and, and_true, and_false, true_or, or_true, false_or, or_false, reduceCtorEq]
      exact ih'
theorem acct_wr (hG : GV g) (hM : MR g nw) (u ln v1 : Int32) : ∀ d nf j (r : Nat → Int32), j + d = g 0 → d < nf → J_X10_account_L115 u ln nw v1 nf r (nI (fb_sm (wct g) j)) (nI j) = some (nI (fb_sm (wct g) (g 0)), r) := by
  have hn := hG.1
  intro d
  induction d with
  | zero =>
    intro nf j r hj hd
    obtain ⟨m, rfl, -⟩ := nf_of hd
    obtain rfl : j = g 0 := by omega
    rw [J_X10_account_L115]
    simp (disch := omega) only [↓reduceIte, nm_x, chk_nI, chz_0, chz_1, chz_b2, chn_nI, oi_1, oi_2, oi_m1, il_0, il_1, il_2, il_3, il_4, il_5, il_6, il_7, il_8, il_9, il_10, il_11, il_12, il_13, il_14, il_15, il_16, il_32, il_35, il_40, il_41, il_42, il_43, il_44, il_45, il_46, il_48, il_57, il_58, il_59, il_60, il_99, il_104, il_115, il_116, il_119, il_126, il_133, il_255, il_256, il_512, il_931, il_1000, il_65536, bn0, bn1, bn2, bn3, bn4, bn5, bn6, bn7, bn8, bn9, bn10, bn11, bn12, bn13, bn14, bn15, nI_leI, nI_ltI, nI_eq, nI_clamp, nI_add, pk_mul, nI_lt0, ng_lt0, ng_ge0, ng_eqn, ng_neq, ng_len, ng_eq, sV_m1, sV_lt0, sV_ge0, if_true, if_false, Nat.le_refl, Nat.lt_irrefl, Nat.not_lt_zero, Nat.zero_le, not_true_eq_false, not_false_eq_true, false_and, true_and, and_true, and_false, true_or, or_true, false_or, or_false, reduceCtorEq, hM 0 (by omega)]
  | succ d ih =>
    intro nf j r hj hd
    obtain ⟨m, rfl, hm⟩ := nf_of hd
    have ih' := ih m (j + 1) r (by omega) hm
    rw [fb_sm_succ] at ih'
    rw [J_X10_account_L115, X10_wiresTo hG hM (by omega)]
    simp (disch := omega) only [↓reduceIte, nm_x, chk_nI, chz_0, chz_1, chz_b2, chn_nI, oi_1, oi_2, oi_m1, il_0, il_1, il_2, il_3, il_4, il_5, il_6, il_7, il_8, il_9, il_10, il_11, il_12, il_13, il_14, il_15, il_16, il_32, il_35, il_40, il_41, il_42, il_43, il_44, il_45, il_46, il_48, il_57, il_58, il_59, il_60, il_99, il_104, il_115, il_116, il_119, il_126, il_133, il_255, il_256, il_512, il_931, il_1000, il_65536, bn0, bn1, bn2, bn3, bn4, bn5, bn6, bn7, bn8, bn9, bn10, bn11, bn12, bn13, bn14, bn15, nI_leI, nI_ltI, nI_eq, nI_clamp, nI_add, pk_mul, nI_lt0, ng_lt0, ng_ge0, ng_eqn, ng_neq, ng_len, ng_eq, sV_m1, sV_lt0, sV_ge0, if_true, if_false, Nat.le_refl, Nat.lt_irrefl, Nat.not_lt_zero, Nat.zero_le, not_true_eq_false, not_false_eq_true, false_and, true_and, and_true, and_false, true_or, or_true, false_or, or_false, reduceCtorEq, hM 0 (by omega), show ¬ g 0 ≤ j by omega]
    exact ih'
theorem acct_dp (hG : GV g) (hM : MR g nw) (u ln v1 : Int32) : ∀ d nf j (r : Nat → Int32), j + d = g 0 → d < nf → ∃ r', J_X10_account_L191 u ln nw v1 nf r (nI (mx (dz g) j)) (nI j) = some (nI (mx (dz g) (g 0)), r') := by
  have hn := hG.1
  intro d
  induction d with
  | zero =>
    intro nf j r hj hd
    obtain ⟨m, rfl, -⟩ := nf_of hd
    obtain rfl : j = g 0 := by omega
    refine ⟨r, ?_⟩
    rw [J_X10_account_L191]
    simp (disch := omega) only [↓reduceIte, nm_x, chk_nI, chz_0, chz_1, chz_b2, chn_nI, oi_1, oi_2, oi_m1, il_0, il_1, il_2, il_3, il_4, il_5, il_6, il_7, il_8, il_9, il_10, il_11, il_12, il_13, il_14, il_15, il_16, il_32, il_35, il_40, il_41, il_42, il_43, il_44, il_45, il_46, il_48, il_57, il_58, il_59, il_60, il_99, il_104, il_115, il_116, il_119, il_126, il_133, il_255, il_256, il_512, il_931, il_1000, il_65536, bn0, bn1, bn2, bn3, bn4, bn5, bn6, bn7, bn8, bn9, bn10, bn11, bn12, bn13, bn14, bn15, nI_leI, nI_ltI, nI_eq, nI_clamp, nI_add, pk_mul, nI_lt0, ng_lt0, ng_ge0, ng_eqn, ng_neq, ng_len, ng_eq, sV_m1, sV_lt0, sV_ge0, if_true, if_false, Nat.le_refl, Nat.lt_irrefl, Nat.not_lt_zero, Nat.zero_le, not_true_eq_false, not_false_eq_true, false_and, true_and, and_true, and_false, true_or, or_true, false_or, or_false, reduceCtorEq, hM 0 (by omega)]
  | succ d ih =>
    intro nf j r hj hd
    obtain ⟨m, rfl, hm⟩ := nf_of hd
    obtain ⟨x, r1, e1, h3⟩ := X10_deep hG hM (show j < 16 by omega) r
    have ih' := ih m (j + 1) r1 (by omega) hm
    rw [mx] at ih'
    rw [J_X10_account_L191, e1]
    have hb := mx_le (F := dz g) (b := 64) (n := j) (fun q hq => dz_le hG (by omega))
    simp (disch := omega) only [↓reduceIte, nm_x, chk_nI, chz_0, chz_1, chz_b2, chn_nI, oi_1, oi_2, oi_m1, il_0, il_1, il_2, il_3, il_4, il_5, il_6, il_7, il_8, il_9, il_10, il_11, il_12, il_13, il_14, il_15, il_16, il_32, il_35, il_40, il_41, il_42, il_43, il_44, il_45, il_46, il_48, il_57, il_58, il_59, il_60, il_99, il_104, il_115, il_116, il_119, il_126, il_133, il_255, il_256, il_512, il_931, il_1000, il_65536, bn0, bn1, bn2, bn3, bn4, bn5, bn6, bn7, bn8, bn9, bn10, bn11, bn12, bn13, bn14, bn15, nI_leI, nI_ltI, nI_eq, nI_clamp, nI_add, pk_mul, nI_lt0, ng_lt0, ng_ge0, ng_eqn, ng_neq, ng_len, ng_eq, sV_m1, sV_lt0, sV_ge0, if_true, if_false, Nat.le_refl, Nat.lt_irrefl, Nat.not_lt_zero, Nat.zero_le, not_true_eq_false, not_false_eq_true, false_and, true_and, and_true, and_false, true_or, or_true, false_or, or_false, reduceCtorEq, hM 0 (by omega), show ¬ g 0 ≤ j by omega]
    rcases h3 with ⟨h3, rfl⟩ | ⟨h3, rfl⟩
    · have hb1 := DV_le hG (show j < 16 by omega)
      rw [dz_t h3] at ih'
      by_cases q : mx (dz g) j < DV g j
      · rw [if_pos q] at ih'
        rw [if_pos ((nI_ltI (by omega) (by omega)).2 q)]
        exact ih'
      · rw [if_neg q] at ih'
        rw [if_neg (fun h => q ((nI_ltI (by omega) (by omega)).1 h))]
        exact ih'
    · rw [dz_f h3, if_neg (Nat.not_lt_zero _)] at ih'
      rw [if_neg (by rw [fa_lt, ng_toInt (by omega), nI_toInt (by omega)]; omega)]
      exact ih'
theorem ch_sum (hW : GW g B) : fb_sm (fun l => GA g l 3) (g 0) = g 3 + g 4 := by
  rw [← hW.2.2.1]
  exact (fb_sm_tail hW.1.1 fun l h1 h2 => hW.1.2.2.2.2.2 _ (by omega) (by omega)).symm
theorem account_both (hW : GW g B) (hC : CR g c st al ti tc se k w so ch) (hM : MR g nw) (u n : Nat) (kn rr : Nat → Int32) (v1 : Int32) : ∃ x kn' rr', J_X9_account c st al ti tc se k w so ch (nI u) kn (nI n) v1 = some (x, kn') ∧ J_X10_account (nI u) (nI n) nw rr v1 = some (x, rr') := by
  have hG := hW.1
  have h16 := hG.1
  unfold J_X9_account J_X9_account_b140 J_X10_account J_X2_ticks J_X2_count J_X2_tickChanges J_X2_sets J_X8_length J_X4_undoable J_X2_areLoopsAllowed
  by_cases h0 : v1 = (0 : Int32)
  · rw [if_pos h0, if_pos h0, bn1, hC.2.2.2.2.1]
    simp (disch := omega) only [↓reduceIte, nm_x, chk_nI, chz_0, chz_1, chz_b2, chn_nI, oi_1, oi_2, oi_m1, il_0, il_1, il_2, il_3, il_4, il_5, il_6, il_7, il_8, il_9, il_10, il_11, il_12, il_13, il_14, il_15, il_16, il_32, il_35, il_40, il_41, il_42, il_43, il_44, il_45, il_46, il_48, il_57, il_58, il_59, il_60, il_99, il_104, il_115, il_116, il_119, il_126, il_133, il_255, il_256, il_512, il_931, il_1000, il_65536, bn0, bn1, bn2, bn3, bn4, bn5, bn6, bn7, bn8, bn9, bn10, bn11, bn12, bn13, bn14, bn15, nI_leI, nI_ltI, nI_eq, nI_clamp, nI_add, pk_mul, nI_lt0, ng_lt0, ng_ge0, ng_eqn, ng_neq, ng_len, ng_eq, sV_m1, sV_lt0, sV_ge0, if_true, if_false, Nat.le_refl, Nat.lt_irrefl, Nat.not_lt_zero, Nat.zero_le, not_true_eq_false, not_false_eq_true, false_and, true_and, and_true, and_false, true_or, or_true, false_or, or_false, reduceCtorEq, hM 2 (by omega)]
    exact ⟨_, _, _, rfl, rfl⟩
  rw [if_neg h0, if_neg h0]
  by_cases h1 : v1 = (1 : Int32)
  · rw [if_pos h1, if_pos h1, bn1, hC.1.1]
    simp (disch := omega) only [↓reduceIte, nm_x, chk_nI, chz_0, chz_1, chz_b2, chn_nI, oi_1, oi_2, oi_m1, il_0, il_1, il_2, il_3, il_4, il_5, il_6, il_7, il_8, il_9, il_10, il_11, il_12, il_13, il_14, il_15, il_16, il_32, il_35, il_40, il_41, il_42, il_43, il_44, il_45, il_46, il_48, il_57, il_58, il_59, il_60, il_99, il_104, il_115, il_116, il_119, il_126, il_133, il_255, il_256, il_512, il_931, il_1000, il_65536, bn0, bn1, bn2, bn3, bn4, bn5, bn6, bn7, bn8, bn9, bn10, bn11, bn12, bn13, bn14, bn15, nI_leI, nI_ltI, nI_eq, nI_clamp, nI_add, pk_mul, nI_lt0, ng_lt0, ng_ge0, ng_eqn, ng_neq, ng_len, ng_eq, sV_m1, sV_lt0, sV_ge0, if_true, if_false, Nat.le_refl, Nat.lt_irrefl, Nat.not_lt_zero, Nat.zero_le, not_true_eq_false, not_false_eq_true, false_and, true_and, and_true, and_false, true_or, or_true, false_or, or_false, reduceCtorEq, hM 0 (by omega)]
    exact ⟨_, _, _, rfl, rfl⟩
  rw [if_neg h1, if_neg h1]
  by_cases h2 : v1 = (2 : Int32)
  · rw [if_pos h2, if_pos h2]
    obtain ⟨x, e1, e2⟩ := X2_switches hG hC.1
    have hbt : ∀ i, bt x i = (decide (i < g 0) && decide (GA g i 0 = 0)) := fun i => by
      rw [← Bool.decide_and]
      by_cases q : i < g 0 ∧ GA g i 0 = 0
      · rw [decide_eq_true q]; exact (e2 i).2 q
      · rw [decide_eq_false q]
        exact Bool.eq_false_iff.2 fun h => q ((e2 i).1 h)
    have e3 := bitCount_eq (x := x) (fun i hi => by rw [hbt, decide_eq_false (by omega)]; rfl)
    rw [fb_ct_cong (q := fun i => decide (i < g 0) && decide (GA g i 0 = 0)) (fun i _ => hbt i), fb_ct_in _ h16] at e3
    rw [e1, bn1, e3, bn1, il_0]
    exact ⟨_, _, _, rfl, acct_sw hG hM (nI u) (nI n) v1 (g 0) FU 0 rr (by omega) (by unfold FU; omega)⟩
  rw [if_neg h2, if_neg h2]
  by_cases h3 : v1 = (3 : Int32)
  · rw [if_pos h3, if_pos h3, X2_wires hG hC.1, bn1, il_0]
    exact ⟨_, _, _, rfl, acct_wr hG hM (nI u) (nI n) v1 (g 0) FU 0 rr (by omega) (by unfold FU; omega)⟩
  rw [if_neg h3, if_neg h3]
  by_cases h4 : v1 = (4 : Int32)
  · obtain ⟨x, e1, e2⟩ := X2_glow st
    rw [if_pos h4, if_pos h4, e1, bn1, gct_bits hG e2 hC.2.1, X10_glowing hG hM, bn1, bn1]
    exact ⟨_, _, _, rfl, rfl⟩
  rw [if_neg h4, if_neg h4]
  by_cases h5 : v1 = (5 : Int32)
  · obtain ⟨x, e1, e2⟩ := X5_inLoops hG hC.1
    obtain ⟨y, r', e3, e4, -⟩ := X10_loopSet hG hM rr
    obtain rfl := e4.uniq e2
    have e5 := bitCount_eq (x := y) (fun i hi => Bool.eq_false_iff.2 fun h => by
      have := ((e2 i).1 h).lt
      omega)
    rw [if_pos h5, if_pos h5, e1, e3, bn1, bn2, e5, bn1, bn1]
    exact ⟨_, _, _, rfl, rfl⟩
  rw [if_neg h5, if_neg h5]
  by_cases h6 : v1 = (6 : Int32)
  · rw [if_pos h6, if_pos h6, hC.2.2.2.1]
    have q := hG.2.1
    rcases (show g 1 = 0 ∨ g 1 = 1 by omega) with q | q
    · simp (disch := omega) only [↓reduceIte, nm_x, chk_nI, chz_0, chz_1, chz_b2, chn_nI, oi_1, oi_2, oi_m1, il_0, il_1, il_2, il_3, il_4, il_5, il_6, il_7, il_8, il_9, il_10, il_11, il_12, il_13, il_14, il_15, il_16, il_32, il_35, il_40, il_41, il_42, il_43, il_44, il_45, il_46, il_48, il_57, il_58, il_59, il_60, il_99, il_104, il_115, il_116, il_119, il_126, il_133, il_255, il_256, il_512, il_931, il_1000, il_65536, bn0, bn1, bn2, bn3, bn4, bn5, bn6, bn7, bn8, bn9, bn10, bn11, bn12, bn13, bn14, bn15, nI_leI, nI_ltI, nI_eq, nI_clamp, nI_add, pk_mul, nI_lt0, ng_lt0, ng_ge0, ng_eqn, ng_neq, ng_len, ng_eq, sV_m1, sV_lt0, sV_ge0, if_true, if_false, Nat.le_refl, Nat.lt_irrefl, Nat.not_lt_zero, Nat.zero_le, not_true_eq_false, not_false_eq_true, false_and, true_and, and_true, and_false, true_or, or_true, false_or, or_false, reduceCtorEq, hM 1 (by omega), q]
      exact ⟨_, _, _, rfl, rfl⟩
    · simp (disch := omega) only [↓reduceIte, nm_x, chk_nI, chz_0, chz_1, chz_b2, chn_nI, oi_1, oi_2, oi_m1, il_0, il_1, il_2, il_3, il_4, il_5, il_6, il_7, il_8, il_9, il_10, il_11, il_12, il_13, il_14, il_15, il_16, il_32, il_35, il_40, il_41, il_42, il_43, il_44, il_45, il_46, il_48, il_57, il_58, il_59, il_60, il_99, il_104, il_115, il_116, il_119, il_126, il_133, il_255, il_256, il_512, il_931, il_1000, il_65536, bn0, bn1, bn2, bn3, bn4, bn5, bn6, bn7, bn8, bn9, bn10, bn11, bn12, bn13, bn14, bn15, nI_leI, nI_ltI, nI_eq, nI_clamp, nI_add, pk_mul, nI_lt0, ng_lt0, ng_ge0, ng_eqn, ng_neq, ng_len, ng_eq, sV_m1, sV_lt0, sV_ge0, if_true, if_false, Nat.le_refl, Nat.lt_irrefl, Nat.not_lt_zero, Nat.zero_le, not_true_eq_false, not_false_eq_true, false_and, true_and, and_true, and_false, true_or, or_true, false_or, or_false, reduceCtorEq, hM 1 (by omega), q]
      exact ⟨_, _, _, rfl, rfl⟩
  rw [if_neg h6, if_neg h6]
  by_cases h7 : v1 = (7 : Int32)
  · rw [if_pos h7, if_pos h7, X2_changes hG hC.1 hC.2.2.1, ch_sum hW]
    simp (disch := omega) only [↓reduceIte, nm_x, chk_nI, chz_0, chz_1, chz_b2, chn_nI, oi_1, oi_2, oi_m1, il_0, il_1, il_2, il_3, il_4, il_5, il_6, il_7, il_8, il_9, il_10, il_11, il_12, il_13, il_14, il_15, il_16, il_32, il_35, il_40, il_41, il_42, il_43, il_44, il_45, il_46, il_48, il_57, il_58, il_59, il_60, il_99, il_104, il_115, il_116, il_119, il_126, il_133, il_255, il_256, il_512, il_931, il_1000, il_65536, bn0, bn1, bn2, bn3, bn4, bn5, bn6, bn7, bn8, bn9, bn10, bn11, bn12, bn13, bn14, bn15, nI_leI, nI_ltI, nI_eq, nI_clamp, nI_add, pk_mul, nI_lt0, ng_lt0, ng_ge0, ng_eqn, ng_neq, ng_len, ng_eq, sV_m1, sV_lt0, sV_ge0, if_true, if_false, Nat.le_refl, Nat.lt_irrefl, Nat.not_lt_zero, Nat.zero_le, not_true_eq_false, not_false_eq_true, false_and, true_and, and_true, and_false, true_or, or_true, false_or, or_false, reduceCtorEq, hM 3 (by omega), hM 4 (by omega)]
    exact ⟨_, _, _, rfl, rfl⟩
  rw [if_neg h7, if_neg h7]
  by_cases h8 : v1 = (8 : Int32)
  · rw [if_pos h8, if_pos h8, hC.2.2.2.2.2.1]
    simp (disch := omega) only [↓reduceIte, nm_x, chk_nI, chz_0, chz_1, chz_b2, chn_nI, oi_1, oi_2, oi_m1, il_0, il_1, il_2, il_3, il_4, il_5, il_6, il_7, il_8, il_9, il_10, il_11, il_12, il_13, il_14, il_15, il_16, il_32, il_35, il_40, il_41, il_42, il_43, il_44, il_45, il_46, il_48, il_57, il_58, il_59, il_60, il_99, il_104, il_115, il_116, il_119, il_126, il_133, il_255, il_256, il_512, il_931, il_1000, il_65536, bn0, bn1, bn2, bn3, bn4, bn5, bn6, bn7, bn8, bn9, bn10, bn11, bn12, bn13, bn14, bn15, nI_leI, nI_ltI, nI_eq, nI_clamp, nI_add, pk_mul, nI_lt0, ng_lt0, ng_ge0, ng_eqn, ng_neq, ng_len, ng_eq, sV_m1, sV_lt0, sV_ge0, if_true, if_false, Nat.le_refl, Nat.lt_irrefl, Nat.not_lt_zero, Nat.zero_le, not_true_eq_false, not_false_eq_true, false_and, true_and, and_true, and_false, true_or, or_true, false_or, or_false, reduceCtorEq, hM 3 (by omega)]
    exact ⟨_, _, _, rfl, rfl⟩
  rw [if_neg h8, if_neg h8]
  by_cases h9 : v1 = (9 : Int32)
  · rw [if_pos h9, if_pos h9, hC.2.2.2.2.2.2]
    simp (disch := omega) only [↓reduceIte, nm_x, chk_nI, chz_0, chz_1, chz_b2, chn_nI, oi_1, oi_2, oi_m1, il_0, il_1, il_2, il_3, il_4, il_5, il_6, il_7, il_8, il_9, il_10, il_11, il_12, il_13, il_14, il_15, il_16, il_32, il_35, il_40, il_41, il_42, il_43, il_44, il_45, il_46, il_48, il_57, il_58, il_59, il_60, il_99, il_104, il_115, il_116, il_119, il_126, il_133, il_255, il_256, il_512, il_931, il_1000, il_65536, bn0, bn1, bn2, bn3, bn4, bn5, bn6, bn7, bn8, bn9, bn10, bn11, bn12, bn13, bn14, bn15, nI_leI, nI_ltI, nI_eq, nI_clamp, nI_add, pk_mul, nI_lt0, ng_lt0, ng_ge0, ng_eqn, ng_neq, ng_len, ng_eq, sV_m1, sV_lt0, sV_ge0, if_true, if_false, Nat.le_refl, Nat.lt_irrefl, Nat.not_lt_zero, Nat.zero_le, not_true_eq_false, not_false_eq_true, false_and, true_and, and_true, and_false, true_or, or_true, false_or, or_false, reduceCtorEq, hM 4 (by omega)]
    exact ⟨_, _, _, rfl, rfl⟩
  rw [if_neg h9, if_neg h9]
  by_cases h10 : v1 = (10 : Int32)
  · obtain ⟨kn', e1⟩ := X0_greatest hG hC.1 kn
    obtain ⟨r', e2⟩ := acct_dp hG hM (nI u) (nI n) v1 (g 0) FU 0 rr (by omega) (by unfold FU; omega)
    rw [if_pos h10, if_pos h10, e1, bn2, il_0]
    exact ⟨_, _, _, rfl, e2⟩
  rw [if_neg h10, if_neg h10]
  by_cases h11 : v1 = (11 : Int32)
  · rw [if_pos h11, if_pos h11, bn1]
    exact ⟨_, _, _, rfl, rfl⟩
  rw [if_neg h11, if_neg h11]
  by_cases h12 : v1 = (12 : Int32)
  · rw [if_pos h12, if_pos h12, bn1]
    exact ⟨_, _, _, rfl, rfl⟩
  rw [if_neg h12, if_neg h12]
  exact ⟨_, _, _, rfl, rfl⟩
theorem lanternOf_both (hG : GV g) (hC : CR g c st al ti tc se k w so ch) (hM : MR g nw) (v1 v2 : Int32) : ∃ x, J_X9_lanternOf c st k w so ch v1 v2 = some x ∧ J_X10_lanternOf nw v1 v2 = some x := by
  have h16 := hG.1
  unfold J_X9_lanternOf J_X9_lanternOf_b94 J_X9_lanternOf_b145 J_X10_lanternOf J_X2_state
  rcases ix_case v1 (n := g 0) (by omega) with hv | ⟨l, hl, rfl⟩
  · rw [hC.1.1, X2_isHung_f hv, X10_isLantern_f hG hM hv]
    simp only [bn1]
    rw [if_pos (show nI 0 = (0 : Int32) from rfl), if_pos (show nI 0 = (0 : Int32) from rfl)]
    exact ⟨_, rfl, rfl⟩
  have hl16 : l < 16 := by omega
  have hh : J_X2_isHung c (nI l) = some (nI 1) := by rw [hC.1.1]; exact X2_isHung_t hl h16
  rw [hh, X10_isLantern_t hG hM hl]
  simp only [bn1]
  rw [if_neg (show ¬ nI 1 = (0 : Int32) by decide +kernel), if_neg (show ¬ nI 1 = (0 : Int32) by decide +kernel)]
  by_cases h0 : v2 = (0 : Int32)
  · rw [if_pos h0, if_pos h0, X2_kindOf hG hC.1 hl, h0, il_0, X10_of hM hl16 (by omega)]
    simp only [bn1]
    exact ⟨_, rfl, rfl⟩
  rw [if_neg h0, if_neg h0]
  by_cases h1 : v2 = (1 : Int32)
  · rw [if_pos h1, if_pos h1, X2_wickOf hG hC.1 hl, h1, il_1, X10_of hM hl16 (by omega)]
    simp only [bn1]
    exact ⟨_, rfl, rfl⟩
  rw [if_neg h1, if_neg h1]
  by_cases h2 : v2 = (2 : Int32)
  · have q2 := (GV_l hG (l := l) (by omega)).2.2.1
    rw [if_pos h2, if_pos h2, X2_isGlowing hC.2.1 hl16, h2, il_2, X10_of hM hl16 (by omega), bn1, bn1, gw]
    rcases (show GA g l 2 = 0 ∨ GA g l 2 = 1 by omega) with q | q
    · rw [q, decide_eq_false (show ¬ 0 = 1 by omega), b2_f, if_pos (show nI 0 = (0 : Int32) from rfl)]
      exact ⟨_, rfl, rfl⟩
    · rw [q, decide_eq_true (show 1 = 1 from rfl), b2_t, if_neg (show ¬ nI 1 = (0 : Int32) by decide +kernel)]
      exact ⟨_, rfl, rfl⟩
  rw [if_neg h2, if_neg h2]
  by_cases h3 : v2 = (3 : Int32)
  · rw [if_pos h3, if_pos h3, X2_wiresTo hG hC.1 hl16, X10_wiresTo hG hM hl16]
    simp only [bn1]
    exact ⟨_, rfl, rfl⟩
  rw [if_neg h3, if_neg h3]
  by_cases h4 : v2 = (4 : Int32)
  · rw [if_pos h4, if_pos h4, X2_wiresFrom hG hC.1 hl16, X10_wiresFrom hG hM hl16]
    simp only [bn1]
    exact ⟨_, rfl, rfl⟩
  rw [if_neg h4, if_neg h4]
  by_cases h5 : v2 = (5 : Int32)
  · rw [if_pos h5, if_pos h5, X2_changesOf hG hC.1 ch hl, hC.2.2.1 l hl16, il_3, X10_of hM hl16 (by omega)]
    simp only [bn1]
    exact ⟨_, rfl, rfl⟩
  rw [if_neg h5, if_neg h5]
  by_cases h6 : v2 = (6 : Int32)
  · obtain ⟨x, e1, e2⟩ := X2_glow st
    have e3 := X2_isFinding hG hC.1 hl16 x
    rw [fin_cong hG hl16 (G' := gw g) (fun i hi => by rw [e2 i (by omega), hC.2.1.1 i hi, decide_eq_true hi]; rfl)] at e3
    rw [if_pos h6, if_pos h6, e1, bn1, e3, X10_findsNow hG hM hl16, bn1, bn1]
    rcases fin g (gw g) l with _ | _
    · rw [b2_f, if_pos (show nI 0 = (0 : Int32) from rfl)]
      exact ⟨_, rfl, rfl⟩
    · rw [b2_t, if_neg (show ¬ nI 1 = (0 : Int32) by decide +kernel)]
      exact ⟨_, rfl, rfl⟩
  rw [if_neg h6, if_neg h6]
  by_cases h7 : v2 = (7 : Int32)
  · rw [if_pos h7, if_pos h7, X2_foundIn hG hC.2.1 hl16, il_7, X10_of hM hl16 (by omega)]
    simp only [bn1]
    exact ⟨_, rfl, rfl⟩
  rw [if_neg h7, if_neg h7]
  exact ⟨_, rfl, rfl⟩
end Acct

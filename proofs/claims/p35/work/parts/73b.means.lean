/-! MEANS: a double and a float -/
def ddOK (S C : Nat) : Bool := decide (FP.ddiv (FP.i2d (nI S)) (FP.i2d (nI C)) &&& 0x7fffffffffffffff ≤ 0x7ff0000000000000)
def ffOK (S C : Nat) : Bool := decide (FP.fdiv (FP.i2f (nI S)) (FP.i2f (nI C)) &&& 0x7fffffff ≤ 0x7f800000) && decide (FP.f2d (FP.fdiv (FP.i2f (nI S)) (FP.i2f (nI C))) &&& 0x7fffffffffffffff ≤ 0x7ff0000000000000)
theorem dd_all : ((List.range 65).all fun S => (List.range 16).all fun C => ddOK S (C + 1)) = true := by decide +kernel
theorem ff_all : ((List.range 17).all fun S => (List.range 16).all fun C => ffOK S (C + 1)) = true := by decide +kernel
theorem ff_0 : decide (FP.f2d FP.fconst0 &&& 0x7fffffffffffffff ≤ 0x7ff0000000000000) = true := by decide +kernel
theorem dd_ok {S C : Nat} (hS : S ≤ 64) (h1 : 1 ≤ C) (h2 : C ≤ 16) : vf_n64 (FP.ddiv (FP.i2d (nI S)) (FP.i2d (nI C))) := by
  have h := List.all_eq_true.1 (List.all_eq_true.1 dd_all S (List.mem_range.2 (by omega))) (C - 1) (List.mem_range.2 (by omega))
  rw [show C - 1 + 1 = C by omega] at h
  unfold vf_n64
  exact of_decide_eq_true h
theorem ff_ok {S C : Nat} (hS : S ≤ 16) (h1 : 1 ≤ C) (h2 : C ≤ 16) : vf_n32 (FP.fdiv (FP.i2f (nI S)) (FP.i2f (nI C))) ∧ vf_n64 (FP.f2d (FP.fdiv (FP.i2f (nI S)) (FP.i2f (nI C)))) := by
  have h := List.all_eq_true.1 (List.all_eq_true.1 ff_all S (List.mem_range.2 (by omega))) (C - 1) (List.mem_range.2 (by omega))
  rw [show C - 1 + 1 = C by omega] at h
  have h' := Bool.and_eq_true_iff.1 h
  unfold vf_n32 vf_n64
  exact ⟨of_decide_eq_true h'.1, of_decide_eq_true h'.2⟩
def mwC (g : Nat → Nat) : Nat → Nat
  | 0 => 0
  | n + 1 => if GA g n 0 = 0 then mwC g n else mwC g n + 1
def mwS (g : Nat → Nat) : Nat → Nat
  | 0 => 0
  | n + 1 => if GA g n 0 = 0 then mwS g n else mwS g n + GA g n 1
theorem mwC_le (g : Nat → Nat) : ∀ n, mwC g n ≤ n := by
  intro n
  induction n with
  | zero => exact Nat.le_refl _
  | succ n ih =>
    rw [mwC]
    split <;> omega
theorem mwS_le {g : Nat → Nat} (hG : GV g) : ∀ n, n ≤ 16 → mwS g n ≤ 4 * n := by
  intro n
  induction n with
  | zero => intro _; exact Nat.le_refl _
  | succ n ih =>
    intro h
    have h1 := ih (by omega)
    have h2 := (GV_l hG (show n < 16 by omega)).2.1
    rw [mwS]
    split <;> omega
def mwR (S C : Nat) : UInt64 := if C = 0 then FP.dconst0 else FP.ddiv (FP.i2d (nI S)) (FP.i2d (nI C))
section Means
variable {g : Nat → Nat} {c al ti tc se : Int32} {st : Int64} {k w so ch nw : Nat → Int32}
theorem mean_c (hG : GV g) (hS : SR g c k w so) : ∀ d nf j, j + d = g 0 → d < nf → J_X9_meanWick_L6 c k w nf (nI (mwC g j)) (nI (mwS g j)) (nI j) = some (mwR (mwS g (g 0)) (mwC g (g 0))) := by
  have hn := hG.1
  have hc : c = nI (g 0) := hS.1
  subst hc
  intro d
  induction d with
  | zero =>
    intro nf j hj hd
    obtain ⟨m, rfl, -⟩ := nf_of hd
    obtain rfl : j = g 0 := by omega
    have hb := mwC_le g (g 0)
    have hs := mwS_le hG (g 0) hn
    rw [J_X9_meanWick_L6]
    unfold J_X2_count J_X9_meanWick_b61 mwR
    simp (disch := omega) only [↓reduceIte, nm_x, chk_nI, chz_0, chz_1, chz_b2, chn_nI, oi_1, oi_2, oi_m1, il_0, il_1, il_2, il_3, il_4, il_5, il_6, il_7, il_8, il_9, il_10, il_11, il_12, il_13, il_14, il_15, il_16, il_32, il_35, il_40, il_41, il_42, il_43, il_44, il_45, il_46, il_48, il_57, il_58, il_59, il_60, il_99, il_104, il_115, il_116, il_119, il_126, il_133, il_255, il_256, il_512, il_931, il_1000, il_65536, bn0, bn1, bn2, bn3, bn4, bn5, bn6, bn7, bn8, bn9, bn10, bn11, bn12, bn13, bn14, bn15, nI_leI, nI_ltI, nI_eq, nI_clamp, nI_add, pk_mul, nI_lt0, ng_lt0, ng_ge0, ng_eqn, ng_neq, ng_len, ng_eq, sV_m1, sV_lt0, sV_ge0, if_true, if_false, Nat.le_refl, Nat.lt_irrefl, Nat.not_lt_zero, Nat.zero_le, not_true_eq_false, not_false_eq_true, false_and, true_and, and_true, and_false, true_or, or_true, false_or, or_false, reduceCtorEq]
    by_cases q : mwC g (g 0) = 0
    · rw [if_pos q, if_pos q]
    · rw [if_neg q, if_neg q, chd_go (dd_ok (by omega) (by omega) (by omega))]
  | succ d ih =>
    intro nf j hj hd
    obtain ⟨m, rfl, hm⟩ := nf_of hd
    have ih' := ih m (j + 1) (by omega) hm
    have hb := mwC_le g j
    have hs := mwS_le hG j (by omega)
    rw [mwC, mwS] at ih'
    rw [J_X9_meanWick_L6, X2_isSwitch hG hS (show j < g 0 by omega), X2_wickOf hG hS (show j < g 0 by omega)]
    unfold J_X2_count J_X9_meanWick_b42
    have h2 := (GV_l hG (show j < 16 by omega)).2.1
    simp (disch := omega) only [↓reduceIte, nm_x, chk_nI, chz_0, chz_1, chz_b2, chn_nI, oi_1, oi_2, oi_m1, il_0, il_1, il_2, il_3, il_4, il_5, il_6, il_7, il_8, il_9, il_10, il_11, il_12, il_13, il_14, il_15, il_16, il_32, il_35, il_40, il_41, il_42, il_43, il_44, il_45, il_46, il_48, il_57, il_58, il_59, il_60, il_99, il_104, il_115, il_116, il_119, il_126, il_133, il_255, il_256, il_512, il_931, il_1000, il_65536, bn0, bn1, bn2, bn3, bn4, bn5, bn6, bn7, bn8, bn9, bn10, bn11, bn12, bn13, bn14, bn15, nI_leI, nI_ltI, nI_eq, nI_clamp, nI_add, pk_mul, nI_lt0, ng_lt0, ng_ge0, ng_eqn, ng_neq, ng_len, ng_eq, sV_m1, sV_lt0, sV_ge0, if_true, if_false, Nat.le_refl, Nat.lt_irrefl, Nat.not_lt_zero, Nat.zero_le, not_true_eq_false, not_false_eq_true, false_and, true_and, and_true, and_false, true_or, or_true, false_or, or_false, reduceCtorEq, show ¬ g 0 ≤ j by omega, b2_0]
    by_cases q : GA g j 0 = 0
    · rw [if_pos q, if_pos q] at ih'
      rw [decide_eq_true q]
      simp (disch := omega) only [↓reduceIte, nm_x, chk_nI, chz_0, chz_1, chz_b2, chn_nI, oi_1, oi_2, oi_m1, il_0, il_1, il_2, il_3, il_4, il_5, il_6, il_7, il_8, il_9, il_10, il_11, il_12, il_13, il_14, il_15, il_16, il_32, il_35, il_40, il_41, il_42, il_43, il_44, il_45, il_46, il_48, il_57, il_58, il_59, il_60, il_99, il_104, il_115, il_116, il_119, il_126, il_133, il_255, il_256, il_512, il_931, il_1000, il_65536, bn0, bn1, bn2, bn3, bn4, bn5, bn6, bn7, bn8, bn9, bn10, bn11, bn12, bn13, bn14, bn15, nI_leI, nI_ltI, nI_eq, nI_clamp, nI_add, pk_mul, nI_lt0, ng_lt0, ng_ge0, ng_eqn, ng_neq, ng_len, ng_eq, sV_m1, sV_lt0, sV_ge0, if_true, if_false, Nat.le_refl, Nat.lt_irrefl, Nat.not_lt_zero, Nat.zero_le, not_true_eq_false, not_false_eq_true, false_and, true_and, and_true, and_false, true_or, or_true, false_or, or_false, reduceCtorEq, Bool.true_eq_false]
      exact ih'
    · rw [if_neg q, if_neg q] at ih'
      rw [decide_eq_false q]
      simp (disch := omega) only [↓reduceIte, nm_x, chk_nI, chz_0, chz_1, chz_b2, chn_nI, oi_1, oi_2, oi_m1, il_0, il_1, il_2, il_3, il_4, il_5, il_6, il_7, il_8, il_9, il_10, il_11, il_12, il_13, il_14, il_15, il_16, il_32, il_35, il_40, il_41, il_42, il_43, il_44, il_45, il_46, il_48, il_57, il_58, il_59, il_60, il_99, il_104, il_115, il_116, il_119, il_126, il_133, il_255, il_256, il_512, il_931, il_1000, il_65536, bn0, bn1, bn2, bn3, bn4, bn5, bn6, bn7, bn8, bn9, bn10, bn11, bn12, bn13, bn14, bn15, nI_leI, nI_ltI, nI_eq, nI_clamp, nI_add, pk_mul, nI_lt0, ng_lt0, ng_ge0, ng_eqn, ng_neq, ng_len, ng_eq, sV_m1, sV_lt0, sV_ge0, if_true, if_false, Nat.le_refl, Nat.lt_irrefl, Nat.not_lt_zero, Nat.zero_le, not_true_eq_false, not_false_eq_true, false_and, true_and, and_true, and_false, true_or, or_true, false_or, or_false, reduceCtorEq]
      exact ih'
theorem mean_m (hG : GV g) (hM : MR g nw) : ∀ d nf j, j + d = g 0 → d < nf → J_X10_meanWick_L6 nw nf (nI (mwC g j)) (nI (mwS g j)) (nI j) = some (mwR (mwS g (g 0)) (mwC g (g 0))) := by
  have hn := hG.1
  intro d
  induction d with
  | zero =>
    intro nf j hj hd
    obtain ⟨m, rfl, -⟩ := nf_of hd
    obtain rfl : j = g 0 := by omega
    have hb := mwC_le g (g 0)
    have hs := mwS_le hG (g 0) hn
    rw [J_X10_meanWick_L6]
    unfold J_X10_meanWick_b58 mwR
    simp (disch := omega) only [↓reduceIte, nm_x, chk_nI, chz_0, chz_1, chz_b2, chn_nI, oi_1, oi_2, oi_m1, il_0, il_1, il_2, il_3, il_4, il_5, il_6, il_7, il_8, il_9, il_10, il_11, il_12, il_13, il_14, il_15, il_16, il_32, il_35, il_40, il_41, il_42, il_43, il_44, il_45, il_46, il_48, il_57, il_58, il_59, il_60, il_99, il_104, il_115, il_116, il_119, il_126, il_133, il_255, il_256, il_512, il_931, il_1000, il_65536, bn0, bn1, bn2, bn3, bn4, bn5, bn6, bn7, bn8, bn9, bn10, bn11, bn12, bn13, bn14, bn15, nI_leI, nI_ltI, nI_eq, nI_clamp, nI_add, pk_mul, nI_lt0, ng_lt0, ng_ge0, ng_eqn, ng_neq, ng_len, ng_eq, sV_m1, sV_lt0, sV_ge0, if_true, if_false, Nat.le_refl, Nat.lt_irrefl, Nat.not_lt_zero, Nat.zero_le, not_true_eq_false, not_false_eq_true, false_and, true_and, and_true, and_false, true_or, or_true, false_or, or_false, reduceCtorEq, hM 0 (by omega)]
    by_cases q : mwC g (g 0) = 0
    · rw [if_pos q, if_pos q]
    · rw [if_neg q, if_neg q, chd_go (dd_ok (by omega) (by omega) (by omega))]
  | succ d ih =>
    intro nf j hj hd
    obtain ⟨m, rfl, hm⟩ := nf_of hd
    have ih' := ih m (j + 1) (by omega) hm
    have hb := mwC_le g j
    have hs := mwS_le hG j (by omega)
    have ho := X10_of hM (l := j) (w := 1) (by omega) (by omega)
    rw [mwC, mwS] at ih'
    rw [J_X10_meanWick_L6, X10_isSwitch hG hM (show j < 16 by omega)]
    unfold J_X10_meanWick_b39
    have h2 := (GV_l hG (show j < 16 by omega)).2.1
    simp (disch := omega) only [↓reduceIte, nm_x, chk_nI, chz_0, chz_1, chz_b2, chn_nI, oi_1, oi_2, oi_m1, il_0, il_1, il_2, il_3, il_4, il_5, il_6, il_7, il_8, il_9, il_10, il_11, il_12, il_13, il_14, il_15, il_16, il_32, il_35, il_40, il_41, il_42, il_43, il_44, il_45, il_46, il_48, il_57, il_58, il_59, il_60, il_99, il_104, il_115, il_116, il_119, il_126, il_133, il_255, il_256, il_512, il_931, il_1000, il_65536, bn0, bn1, bn2, bn3, bn4, bn5, bn6, bn7, bn8, bn9, bn10, bn11, bn12, bn13, bn14, bn15, nI_leI, nI_ltI, nI_eq, nI_clamp, nI_add, pk_mul, nI_lt0, ng_lt0, ng_ge0, ng_eqn, ng_neq, ng_len, ng_eq, sV_m1, sV_lt0, sV_ge0, if_true, if_false, Nat.le_refl, Nat.lt_irrefl, Nat.not_lt_zero, Nat.zero_le, not_true_eq_false, not_false_eq_true, false_and, true_and, and_true, and_false, true_or, or_true, false_or, or_false, reduceCtorEq, hM 0 (by omega), show ¬ g 0 ≤ j by omega, b2_0, ho]
    by_cases q : GA g j 0 = 0
    · rw [if_pos q, if_pos q] at ih'
      rw [decide_eq_true q]
      simp (disch := omega) only [↓reduceIte, nm_x, chk_nI, chz_0, chz_1, chz_b2, chn_nI, oi_1, oi_2, oi_m1, il_0, il_1, il_2, il_3, il_4, il_5, il_6, il_7, il_8, il_9, il_10, il_11, il_12, il_13, il_14, il_15, il_16, il_32, il_35, il_40, il_41, il_42, il_43, il_44, il_45, il_46, il_48, il_57, il_58, il_59, il_60, il_99, il_104, il_115, il_116, il_119, il_126, il_133, il_255, il_256, il_512, il_931, il_1000, il_65536, bn0, bn1, bn2, bn3, bn4, bn5, bn6, bn7, bn8, bn9, bn10, bn11, bn12, bn13, bn14, bn15, nI_leI, nI_ltI, nI_eq, nI_clamp, nI_add, pk_mul, nI_lt0, ng_lt0, ng_ge0, ng_eqn, ng_neq, ng_len, ng_eq, sV_m1, sV_lt0, sV_ge0, if_true, if_false, Nat.le_refl, Nat.lt_irrefl, Nat.not_lt_zero, Nat.zero_le, not_true_eq_false, not_false_eq_true, false_and, true_and, and_true, and_false, true_or, or_true, false_or, or_false, reduceCtorEq, Bool.true_eq_false]
      exact ih'
    · rw [if_neg q, if_neg q] at ih'
      rw [decide_eq_false q]
      simp (disch := omega) only [↓reduceIte, nm_x, chk_nI, chz_0, chz_1, chz_b2, chn_nI, oi_1, oi_2, oi_m1, il_0, il_1, il_2, il_3, il_4, il_5, il_6, il_7, il_8, il_9, il_10, il_11, il_12, il_13, il_14, il_15, il_16, il_32, il_35, il_40, il_41, il_42, il_43, il_44, il_45, il_46, il_48, il_57, il_58, il_59, il_60, il_99, il_104, il_115, il_116, il_119, il_126, il_133, il_255, il_256, il_512, il_931, il_1000, il_65536, bn0, bn1, bn2, bn3, bn4, bn5, bn6, bn7, bn8, bn9, bn10, bn11, bn12, bn13, bn14, bn15, nI_leI, nI_ltI, nI_eq, nI_clamp, nI_add, pk_mul, nI_lt0, ng_lt0, ng_ge0, ng_eqn, ng_neq, ng_len, ng_eq, sV_m1, sV_lt0, sV_ge0, if_true, if_false, Nat.le_refl, Nat.lt_irrefl, Nat.not_lt_zero, Nat.zero_le, not_true_eq_false, not_false_eq_true, false_and, true_and, and_true, and_false, true_or, or_true, false_or, or_false, reduceCtorEq]
      exact ih'
theorem mean_both (hG : GV g) (hC : CR g c st al ti tc se k w so ch) (hM : MR g nw) : ∃ r, J_X9_meanWick c k w = some r ∧ J_X10_meanWick nw = some r := by
  have hn := hG.1
  exact ⟨_, mean_c hG hC.1 (g 0) FU 0 (by omega) (by unfold FU; omega), mean_m hG hM (g 0) FU 0 (by omega) (by unfold FU; omega)⟩
theorem glow_both (hG : GV g) (hC : CR g c st al ti tc se k w so ch) (hM : MR g nw) : ∃ r, J_X9_glowShare c st = some r ∧ J_X10_glowShare nw = some r ∧ vf_n64 (FP.f2d r) := by
  have hn := hG.1
  have hc : c = nI (g 0) := hC.1.1
  obtain ⟨x, e1, e2⟩ := X2_glow st
  have e3 := gct_bits hG e2 hC.2.1
  have e4 := X10_glowing hG hM
  have hb := gct_le hG
  unfold J_X9_glowShare J_X10_glowShare J_X9_glowShare_b30 J_X10_glowShare_b26 J_X2_count
  rw [hc, e1, e4]
  simp (disch := omega) only [↓reduceIte, nm_x, chk_nI, chz_0, chz_1, chz_b2, chn_nI, oi_1, oi_2, oi_m1, il_0, il_1, il_2, il_3, il_4, il_5, il_6, il_7, il_8, il_9, il_10, il_11, il_12, il_13, il_14, il_15, il_16, il_32, il_35, il_40, il_41, il_42, il_43, il_44, il_45, il_46, il_48, il_57, il_58, il_59, il_60, il_99, il_104, il_115, il_116, il_119, il_126, il_133, il_255, il_256, il_512, il_931, il_1000, il_65536, bn0, bn1, bn2, bn3, bn4, bn5, bn6, bn7, bn8, bn9, bn10, bn11, bn12, bn13, bn14, bn15, nI_leI, nI_ltI, nI_eq, nI_clamp, nI_add, pk_mul, nI_lt0, ng_lt0, ng_ge0, ng_eqn, ng_neq, ng_len, ng_eq, sV_m1, sV_lt0, sV_ge0, if_true, if_false, Nat.le_refl, Nat.lt_irrefl, Nat.not_lt_zero, Nat.zero_le, not_true_eq_false, not_false_eq_true, false_and, true_and, and_true, and_false, true_or, or_true, false_or, or_false, reduceCtorEq, hM 0 (by omega), e3]
  by_cases q : g 0 = 0
  · rw [if_pos q]
    have h0 : vf_n64 (FP.f2d FP.fconst0) := by
      unfold vf_n64
      exact of_decide_eq_true ff_0
    exact ⟨_, rfl, rfl, h0⟩
  · obtain ⟨h1, h2⟩ := ff_ok (S := gct g) (C := g 0) hb (by omega) (by omega)
    rw [if_neg q, chf_go h1]
    exact ⟨_, rfl, rfl, h2⟩
end Means

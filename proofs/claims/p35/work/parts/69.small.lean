/-! THE SMALL CALLS -/
theorem ix_case (v : Int32) {n : Nat} (hn : n < 2 ^ 31) : (v < 0 ∨ nI n ≤ v) ∨ ∃ l, l < n ∧ v = nI l := by
  rcases pk_ix v (n := n) (by omega) with h | h | ⟨l, hl, rfl⟩
  · exact Or.inl (Or.inl h)
  · exact Or.inl (Or.inr h)
  · exact Or.inr ⟨l, hl, rfl⟩
theorem sV_lt {n : Nat} {v : Int32} (hn : n < 2 ^ 31) (h : nI n ≤ v) : sV n < v := by
  rw [fa_le, nI_toInt hn] at h
  rw [fa_lt]
  by_cases hz : n = 0
  · subst hz
    rw [sV_0, ng_toInt (by omega)]
    omega
  · rw [sV_s hz, nI_toInt (by omega)]
    omega
theorem in_sV {n : Nat} (hn : n < 2 ^ 31) (v : Int32) : (J_X10_in v (nI 0) (nI n - nI 1) = some (nI 0) ∧ (v < 0 ∨ nI n ≤ v)) ∨ (J_X10_in v (nI 0) (nI n - nI 1) = some (nI 1) ∧ ∃ l, l < n ∧ v = nI l) := by
  rw [sV_sub]
  rcases ix_case v hn with h | ⟨l, hl, rfl⟩
  · exact Or.inl ⟨X10_in_f (h.elim (fun h => Or.inl h) (fun h => Or.inr (sV_lt hn h))), h⟩
  · refine Or.inr ⟨X10_in_t (nI_pos (by omega)) ?_, l, hl, rfl⟩
    rw [sV_s (by omega)]
    exact nI_nlt (by omega) (by omega)
theorem character_both {n : Nat} {ls ln : Nat → Int32} (h : WL n ls ln) (v1 : Int32) : ∃ x, J_X9_character (nI n) ls v1 = some x ∧ J_X10_character (nI n) ln v1 = some x := by
  have h32 := h.1
  unfold J_X9_character J_X3_codeAt J_X3_codeAt_b27 J_X3_codeAt_b29 J_X10_character J_X10_character_b25
  rw [il_0, il_1]
  simp only [nm_x]
  rcases in_sV (show n < 2 ^ 31 by omega) v1 with ⟨e, hv⟩ | ⟨e, l, hl, rfl⟩
  · rw [e, bn1, if_pos rfl]
    rcases hv with hv | hv
    · rw [if_pos (show v1 < nI 0 from hv), bn1]
      exact ⟨_, rfl, rfl⟩
    · by_cases h0 : v1 < nI 0
      · rw [if_pos h0, bn1]
        exact ⟨_, rfl, rfl⟩
      · rw [if_neg h0, if_pos hv, bn1]
        exact ⟨_, rfl, rfl⟩
  · rw [e, bn1, if_neg (show ¬ nI 1 = nI 0 by decide +kernel)]
    simp (disch := omega) only [↓reduceIte, nm_x, chk_nI, chz_0, chz_1, chz_b2, chn_nI, oi_1, oi_2, oi_m1, il_0, il_1, il_2, il_3, il_4, il_5, il_6, il_7, il_8, il_9, il_10, il_11, il_12, il_13, il_14, il_15, il_16, il_32, il_35, il_40, il_41, il_42, il_43, il_44, il_45, il_46, il_48, il_57, il_58, il_59, il_60, il_99, il_104, il_115, il_116, il_119, il_126, il_133, il_255, il_256, il_512, il_931, il_1000, il_65536, bn0, bn1, bn2, bn3, bn4, bn5, bn6, bn7, bn8, bn9, bn10, bn11, bn12, bn13, bn14, bn15, nI_leI, nI_ltI, nI_eq, nI_clamp, nI_add, pk_mul, nI_lt0, ng_lt0, ng_ge0, ng_eqn, ng_neq, ng_len, ng_eq, sV_m1, sV_lt0, sV_ge0, if_true, if_false, Nat.le_refl, Nat.lt_irrefl, Nat.not_lt_zero, Nat.zero_le, not_true_eq_false, not_false_eq_true, false_and, true_and, and_true, and_false, true_or, or_true, false_or, or_false, reduceCtorEq, show ¬ n ≤ l by omega, show ¬ 32 ≤ l by omega]
    exact ⟨_, rfl, by rw [h.2 l hl]⟩
theorem reason_both {n : Nat} {rc wh : Int32} {rn rd wy mo : Nat → Int32} (hR : RR n rc rn rd wh wy mo) (v1 v2 : Int32) : ∃ x, J_X9_reason rc rn rd v1 v2 = some x ∧ J_X10_reason wh wy mo v1 v2 = some x := by
  obtain ⟨h3, rfl, rfl, h4⟩ := hR
  unfold J_X9_reason J_X9_reason_b23 J_X6_numberAt J_X6_detailAt J_X6_numberAt_b19 J_X6_detailAt_b19 J_X10_reason J_X10_reason_b36
  rw [il_0, il_1]
  simp only [nm_x]
  rcases in_sV (show n < 2 ^ 31 by omega) v1 with ⟨e, hv⟩ | ⟨e, l, hl, rfl⟩
  · have ek : J_X6_isKept (nI n) v1 = some (nI 0) := by
      unfold J_X6_isKept J_X6_isKept_b21 J_X6_isKept_b22
      rw [il_0]
      rcases hv with hv | hv
      · rw [if_pos (show v1 < nI 0 from hv), chz_0]
      · by_cases h0 : v1 < nI 0
        · rw [if_pos h0, chz_0]
        · rw [if_neg h0, if_pos hv, chz_0]
    rw [e, ek]
    simp only [bn1, if_true, ite_self]
    exact ⟨_, rfl, rfl⟩
  · have ek : J_X6_isKept (nI n) (nI l) = some (nI 1) := by
      unfold J_X6_isKept J_X6_isKept_b21 J_X6_isKept_b22
      simp (disch := omega) only [↓reduceIte, nm_x, chk_nI, chz_0, chz_1, chz_b2, chn_nI, oi_1, oi_2, oi_m1, il_0, il_1, il_2, il_3, il_4, il_5, il_6, il_7, il_8, il_9, il_10, il_11, il_12, il_13, il_14, il_15, il_16, il_32, il_35, il_40, il_41, il_42, il_43, il_44, il_45, il_46, il_48, il_57, il_58, il_59, il_60, il_99, il_104, il_115, il_116, il_119, il_126, il_133, il_255, il_256, il_512, il_931, il_1000, il_65536, bn0, bn1, bn2, bn3, bn4, bn5, bn6, bn7, bn8, bn9, bn10, bn11, bn12, bn13, bn14, bn15, nI_leI, nI_ltI, nI_eq, nI_clamp, nI_add, pk_mul, nI_lt0, ng_lt0, ng_ge0, ng_eqn, ng_neq, ng_len, ng_eq, sV_m1, sV_lt0, sV_ge0, if_true, if_false, Nat.le_refl, Nat.lt_irrefl, Nat.not_lt_zero, Nat.zero_le, not_true_eq_false, not_false_eq_true, false_and, true_and, and_true, and_false, true_or, or_true, false_or, or_false, reduceCtorEq, show ¬ n ≤ l by omega, show ¬ 3 ≤ l by omega]
    obtain ⟨q1, q2⟩ := h4 l hl
    rw [e, ek]
    simp (disch := omega) only [↓reduceIte, nm_x, chk_nI, chz_0, chz_1, chz_b2, chn_nI, oi_1, oi_2, oi_m1, il_0, il_1, il_2, il_3, il_4, il_5, il_6, il_7, il_8, il_9, il_10, il_11, il_12, il_13, il_14, il_15, il_16, il_32, il_35, il_40, il_41, il_42, il_43, il_44, il_45, il_46, il_48, il_57, il_58, il_59, il_60, il_99, il_104, il_115, il_116, il_119, il_126, il_133, il_255, il_256, il_512, il_931, il_1000, il_65536, bn0, bn1, bn2, bn3, bn4, bn5, bn6, bn7, bn8, bn9, bn10, bn11, bn12, bn13, bn14, bn15, nI_leI, nI_ltI, nI_eq, nI_clamp, nI_add, pk_mul, nI_lt0, ng_lt0, ng_ge0, ng_eqn, ng_neq, ng_len, ng_eq, sV_m1, sV_lt0, sV_ge0, if_true, if_false, Nat.le_refl, Nat.lt_irrefl, Nat.not_lt_zero, Nat.zero_le, not_true_eq_false, not_false_eq_true, false_and, true_and, and_true, and_false, true_or, or_true, false_or, or_false, reduceCtorEq]
    by_cases hz : v2 = nI 0
    · rw [if_pos hz, if_pos hz]
      exact ⟨_, rfl, by rw [q1]⟩
    · rw [if_neg hz, if_neg hz]
      exact ⟨_, rfl, by rw [q2]⟩
theorem TG_add {n : Nat} {tg : Nat → Nat} {sg : Nat → Int32} (h : TG n tg sg) (hn : n < 60) {v : Nat} (hv : v < 128) : TG (n + 1) (updn tg n v) (upd sg n (nI v)) := ⟨by omega, fun i hi => by
  unfold updn upd
  by_cases e : i = n
  · rw [if_pos e, if_pos e]
    exact ⟨rfl, hv⟩
  · rw [if_neg e, if_neg e]
    exact h.2 i (by omega)⟩
theorem append_both {n : Nat} {tg : Nat → Nat} {sg tx : Nat → Int32} (h1 : TG n tg sg) (h2 : TG n tg tx) (v1 : Int32) : ∃ n' tg' x sg' tx', J_X9_append (nI n) sg v1 = some (x, nI n', sg') ∧ J_X10_append (nI n) tx v1 = some (x, nI n', tx') ∧ TG n' tg' sg' ∧ TG n' tg' tx' := by
  have h60 := h1.1
  unfold J_X9_append J_X8_add J_X8_add_b12 J_X8_add_b31 J_X10_append
  rw [il_32, il_126]
  rcases ix_case v1 (n := 127) (by omega) with hv | ⟨l, hl, rfl⟩
  · have e : J_X10_in v1 (nI 32) (nI 126) = some (nI 0) := X10_in_f (by
      rcases hv with hv | hv
      · refine Or.inl ?_
        rw [fa_lt, nI_toInt (by omega)] at *
        rw [show (0 : Int32).toInt = 0 from rfl] at hv
        omega
      · refine Or.inr ?_
        rw [fa_le, nI_toInt (by omega)] at hv
        rw [fa_lt, nI_toInt (by omega)]
        omega)
    rw [e, bn1, if_pos (show nI 0 = (0 : Int32) from rfl)]
    by_cases h32 : v1 < nI 32
    · rw [if_pos h32, bn3]
      exact ⟨n, tg, _, _, _, rfl, rfl, h1, h2⟩
    · have h126 : ¬ v1 ≤ nI 126 := by
        rw [fa_lt, nI_toInt (by omega)] at h32
        rw [fa_le, nI_toInt (by omega)]
        rcases hv with hv | hv
        · rw [fa_lt, show (0 : Int32).toInt = 0 from rfl] at hv
          omega
        · rw [fa_le, nI_toInt (by omega)] at hv
          omega
      rw [if_neg h32, if_neg h126, bn3]
      exact ⟨n, tg, _, _, _, rfl, rfl, h1, h2⟩
  · by_cases h32 : l < 32
    · rw [X10_in_f (Or.inl ((nI_ltI (by omega) (by omega)).2 h32)), bn1, if_pos (show nI 0 = (0 : Int32) from rfl), if_pos ((nI_ltI (by omega) (by omega)).2 h32), bn3]
      exact ⟨n, tg, _, _, _, rfl, rfl, h1, h2⟩
    · rw [X10_in_t (nI_nlt (by omega) (by omega)) (nI_nlt (by omega) (by omega)), bn1, if_neg (show ¬ nI 1 = (0 : Int32) by decide +kernel), if_neg (fun q => h32 ((nI_ltI (by omega) (by omega)).1 q)), if_pos ((nI_leI (by omega) (by omega)).2 (show l ≤ 126 by omega)), ch_nI (by omega), nm_x, nm_x, nar_c (by omega)]
      by_cases hn : n = 60
      · simp (disch := omega) only [↓reduceIte, nm_x, chk_nI, chz_0, chz_1, chz_b2, chn_nI, oi_1, oi_2, oi_m1, il_0, il_1, il_2, il_3, il_4, il_5, il_6, il_7, il_8, il_9, il_10, il_11, il_12, il_13, il_14, il_15, il_16, il_32, il_35, il_40, il_41, il_42, il_43, il_44, il_45, il_46, il_48, il_57, il_58, il_59, il_60, il_99, il_104, il_115, il_116, il_119, il_126, il_133, il_255, il_256, il_512, il_931, il_1000, il_65536, bn0, bn1, bn2, bn3, bn4, bn5, bn6, bn7, bn8, bn9, bn10, bn11, bn12, bn13, bn14, bn15, nI_leI, nI_ltI, nI_eq, nI_clamp, nI_add, pk_mul, nI_lt0, ng_lt0, ng_ge0, ng_eqn, ng_neq, ng_len, ng_eq, sV_m1, sV_lt0, sV_ge0, if_true, if_false, Nat.le_refl, Nat.lt_irrefl, Nat.not_lt_zero, Nat.zero_le, not_true_eq_false, not_false_eq_true, false_and, true_and, and_true, and_false, true_or, or_true, false_or, or_false, reduceCtorEq, show ¬ n < 60 by omega, hn]
        exact ⟨60, tg, _, _, _, rfl, rfl, hn ▸ h1, hn ▸ h2⟩
      · simp (disch := omega) only [↓reduceIte, nm_x, chk_nI, chz_0, chz_1, chz_b2, chn_nI, oi_1, oi_2, oi_m1, il_0, il_1, il_2, il_3, il_4, il_5, il_6, il_7, il_8, il_9, il_10, il_11, il_12, il_13, il_14, il_15, il_16, il_32, il_35, il_40, il_41, il_42, il_43, il_44, il_45, il_46, il_48, il_57, il_58, il_59, il_60, il_99, il_104, il_115, il_116, il_119, il_126, il_133, il_255, il_256, il_512, il_931, il_1000, il_65536, bn0, bn1, bn2, bn3, bn4, bn5, bn6, bn7, bn8, bn9, bn10, bn11, bn12, bn13, bn14, bn15, nI_leI, nI_ltI, nI_eq, nI_clamp, nI_add, pk_mul, nI_lt0, ng_lt0, ng_ge0, ng_eqn, ng_neq, ng_len, ng_eq, sV_m1, sV_lt0, sV_ge0, if_true, if_false, Nat.le_refl, Nat.lt_irrefl, Nat.not_lt_zero, Nat.zero_le, not_true_eq_false, not_false_eq_true, false_and, true_and, and_true, and_false, true_or, or_true, false_or, or_false, reduceCtorEq, show n < 60 by omega, hn]
        exact ⟨n + 1, _, _, _, _, rfl, rfl, TG_add h1 (by omega) (show l < 128 by omega), (by rw [nar_c (show l < 128 by omega)]; exact TG_add h2 (by omega) (show l < 128 by omega))⟩
section Small
variable {g : Nat → Nat} {c al ti tc se : Int32} {st : Int64} {k w so ch nw : Nat → Int32}
theorem wireOf_both (hG : GV g) (hC : CR g c st al ti tc se k w so ch) (hM : MR g nw) (v1 v2 : Int32) : ∃ x, J_X9_wireOf c so v1 v2 = some x ∧ J_X10_wireOf nw v1 v2 = some x := by
  have h16 := hG.1
  unfold J_X9_wireOf J_X9_wireOf_b45 J_X10_wireOf J_X10_wireOf_b43
  rcases ix_case v1 (n := g 0) (by omega) with hv | ⟨l, hl, rfl⟩
  · rw [hC.1.1, X2_isHung_f hv, X10_isLantern_f hG hM hv, bn1, bn1, if_pos (show nI 0 = (0 : Int32) from rfl), if_pos (show nI 0 = (0 : Int32) from rfl)]
    exact ⟨_, rfl, rfl⟩
  · rw [hC.1.1, X2_isHung_t hl h16, X10_isLantern_t hG hM hl, bn1, bn1, if_neg (show ¬ nI 1 = (0 : Int32) by decide +kernel), if_neg (show ¬ nI 1 = (0 : Int32) by decide +kernel), il_0, il_2]
    rcases ix_case v2 (n := 3) (by omega) with hp | ⟨p, hp, rfl⟩
    · rw [X9_isPlace_f hp, in02_f hp, bn1, bn1, if_pos rfl, if_pos rfl]
      exact ⟨_, rfl, rfl⟩
    · rw [X9_isPlace_t hp, in02_t hp, bn1, bn1, if_neg (show ¬ nI 1 = nI 0 by decide +kernel), if_neg (show ¬ nI 1 = nI 0 by decide +kernel), X2_sourceOf hC.1 (by omega) hp, X10_wired hM (by omega) hp, bn1, bn1, bn1]
      have hs := (GV_l hG (l := l) (by omega)).2.2.2.2 p hp
      by_cases hz : src g l p = 0
      · rw [hz, if_pos (show sV 0 = (-1 : Int32) from rfl), if_neg (show ¬ nI 0 ≤ sV 0 by decide +kernel)]
        exact ⟨_, rfl, rfl⟩
      · rw [if_neg (show ¬ sV (src g l p) = (-1 : Int32) from fun q => hz ((sV_m1 (by omega)).1 (show sV (src g l p) = -nI 1 from q))), if_pos ((sV_ge0 (by omega)).2 hz)]
        exact ⟨_, rfl, rfl⟩
theorem leads_both (hG : GV g) (hC : CR g c st al ti tc se k w so ch) (hM : MR g nw) (rr : Nat → Int32) (v1 : Int32) : ∃ x rr', J_X9_leads c so v1 = some x ∧ J_X10_leads nw rr v1 = some (x, rr') := by
  have h16 := hG.1
  unfold J_X9_leads J_X9_leads_b24 J_X10_leads
  rcases ix_case v1 (n := g 0) (by omega) with hv | ⟨l, hl, rfl⟩
  · rw [hC.1.1, X2_isHung_f hv, X10_isLantern_f hG hM hv, bn1, bn1, if_pos (show nI 0 = (0 : Int32) from rfl), if_pos (show nI 0 = (0 : Int32) from rfl)]
    exact ⟨_, _, rfl, rfl⟩
  · obtain ⟨x, e1, e2⟩ := X5_ledFrom hG hC.1 (l := l) (by omega)
    obtain ⟨r', e3, e4⟩ := X10_reaches hG hM rr
    rw [e1, e3, hC.1.1, X2_isHung_t hl h16, X10_isLantern_t hG hM hl]
    simp only [bn1]
    rw [if_neg (show ¬ nI 1 = (0 : Int32) by decide +kernel), if_neg (show ¬ nI 1 = (0 : Int32) by decide +kernel), chk_nI (by omega) (by omega), nI_clamp (by omega), nm_x, (e4 l (by omega)).uniq e2]
    exact ⟨_, _, rfl, rfl⟩
theorem looped_both (hG : GV g) (hC : CR g c st al ti tc se k w so ch) (hM : MR g nw) (rr : Nat → Int32) : ∃ x rr', J_X9_looped c so = some x ∧ J_X10_looped nw rr = some (x, rr') := by
  unfold J_X9_looped J_X10_looped
  obtain ⟨x, e1, e2⟩ := X5_inLoops hG hC.1
  obtain ⟨y, r', e3, e4, -⟩ := X10_loopSet hG hM rr
  rw [e1, e3, bn1, bn2, e4.uniq e2]
  exact ⟨_, _, rfl, rfl⟩
theorem switchesOf_both (hG : GV g) (hC : CR g c st al ti tc se k w so ch) (hM : MR g nw) (rr : Nat → Int32) (v1 : Int32) : ∃ x rr', J_X9_switchesOf c k so v1 = some x ∧ J_X10_switchesOf nw rr v1 = some (x, rr') := by
  have h16 := hG.1
  unfold J_X9_switchesOf J_X9_switchesOf_b24 J_X10_switchesOf J_X10_switchesOf_b18
  rcases ix_case v1 (n := g 0) (by omega) with hv | ⟨l, hl, rfl⟩
  · rw [hC.1.1, X2_isHung_f hv, X10_isLantern_f hG hM hv, bn1, bn1, if_pos (show nI 0 = (0 : Int32) from rfl), if_pos (show nI 0 = (0 : Int32) from rfl)]
    exact ⟨_, _, rfl, rfl⟩
  · obtain ⟨x, e1, e2⟩ := X5_switchesTo hG hC.1 (l := l) (by omega)
    obtain ⟨y, r', e3, e4⟩ := X10_switchSet hG hM (l := l) (by omega) rr
    rw [e1, e3, hC.1.1, X2_isHung_t hl h16, X10_isLantern_t hG hM hl]
    simp only [bn1, bn2]
    rw [if_neg (show ¬ nI 1 = (0 : Int32) by decide +kernel), if_neg (show ¬ nI 1 = (0 : Int32) by decide +kernel), e4.uniq e2]
    exact ⟨_, _, rfl, rfl⟩
theorem dep_uniq {l : Nat} {x y : Int32} (h : (HD g l ∧ x = nI (DV g l)) ∨ (¬ HD g l ∧ x = -nI 15)) (h' : (HD g l ∧ y = nI (DV g l)) ∨ (¬ HD g l ∧ y = -nI 15)) : x = y := by
  rcases h with ⟨a, rfl⟩ | ⟨a, rfl⟩ <;> rcases h' with ⟨b, rfl⟩ | ⟨b, rfl⟩
  · rfl
  · exact absurd a b
  · exact absurd b a
  · rfl
theorem depth_both (hG : GV g) (hC : CR g c st al ti tc se k w so ch) (hM : MR g nw) (kn kn2 rr rr2 : Nat → Int32) (v1 : Int32) : ∃ x kn' kn2' rr' rr2', J_X9_depth c k w so kn v1 = some (x, kn') ∧ J_X9_depthAgain c k w so kn2 v1 = some (x, kn2') ∧ J_X10_depth nw rr v1 = some (x, rr') ∧ J_X10_depthAgain nw rr2 v1 = some (x, rr2') := by
  have h16 := hG.1
  unfold J_X9_depth J_X9_depth_b28 J_X9_depthAgain J_X9_depthAgain_b28 J_X10_depthAgain
  rcases ix_case v1 (n := g 0) (by omega) with hv | ⟨l, hl, rfl⟩
  · have e : ∀ r, J_X10_depth nw r v1 = some (-11, r) := fun r => by
      unfold J_X10_depth J_X10_depth_b29
      rw [X10_isLantern_f hG hM hv, bn1, if_pos (show nI 0 = (0 : Int32) from rfl)]
    rw [hC.1.1, X2_isHung_f hv, e, e, bn1, if_pos (show nI 0 = (0 : Int32) from rfl), bn1, if_pos (show nI 0 = (0 : Int32) from rfl), bn2]
    exact ⟨_, _, _, _, _, rfl, rfl, rfl, rfl⟩
  · obtain ⟨x1, k1, a1, a2⟩ := X0_byWires hG hC.1 hl kn
    obtain ⟨x2, k2, b1, b2⟩ := X0_byRounds hG hC.1 hl kn2
    obtain ⟨x3, k3, c1, c2⟩ := X10_depth hG hM hl rr
    obtain ⟨x4, k4, d1, d2⟩ := X10_depth hG hM hl rr2
    have hh : J_X2_isHung c (nI l) = some (nI 1) := by rw [hC.1.1]; exact X2_isHung_t hl h16
    rw [a1, b1, c1, d1, hh, bn1, if_neg (show ¬ nI 1 = (0 : Int32) by decide +kernel), bn2, bn1, if_neg (show ¬ nI 1 = (0 : Int32) by decide +kernel), bn2, bn2, dep_uniq b2 a2, dep_uniq c2 a2, dep_uniq d2 a2]
    exact ⟨_, _, _, _, _, rfl, rfl, rfl, rfl⟩
end Small

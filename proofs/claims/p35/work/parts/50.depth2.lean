/-! HOW DEEP: both ways of the class, and the greatest -/
def flv (n : Nat) (v : Int32) (a : Nat → Int32) : Nat → Int32 := fun j => if j < n then v else a j
theorem X7_fill_L (n : Nat) (hn : n < 2 ^ 31) (v : Int32) (a : Nat → Int32) : ∀ (k nf : Nat) (i : Nat), i + k = n → k < nf → J_J7_fill_53178_L5 n v nf (flv i v a) (nI i) (nI n) = some (flv n v a) := by
  intro k
  induction k with
  | zero =>
    intro nf i hi hk
    obtain ⟨m, rfl, -⟩ := nf_of hk
    obtain rfl : i = n := by omega
    rw [J_J7_fill_53178_L5]
    simp (disch := omega) only [↓reduceIte, nm_x, chk_nI, chz_0, chz_1, chz_b2, chn_nI, oi_1, oi_2, oi_m1, il_0, il_1, il_2, il_3, il_4, il_5, il_6, il_7, il_8, il_9, il_10, il_11, il_12, il_13, il_14, il_15, il_16, il_32, il_35, il_40, il_41, il_42, il_43, il_44, il_45, il_46, il_48, il_57, il_58, il_59, il_60, il_99, il_104, il_115, il_116, il_119, il_126, il_133, il_255, il_256, il_512, il_931, il_1000, il_65536, bn0, bn1, bn2, bn3, bn4, bn5, bn6, bn7, bn8, bn9, bn10, bn11, bn12, bn13, bn14, bn15, nI_leI, nI_ltI, nI_eq, nI_clamp, nI_add, pk_mul, nI_lt0, ng_lt0, ng_ge0, ng_eqn, ng_neq, ng_len, ng_eq, sV_m1, sV_lt0, sV_ge0, if_true, if_false, Nat.le_refl, Nat.lt_irrefl, Nat.not_lt_zero, Nat.zero_le, not_true_eq_false, not_false_eq_true, false_and, true_and, and_true, and_false, true_or, or_true, false_or, or_false, reduceCtorEq]
  | succ k ih =>
    intro nf i hi hk
    obtain ⟨m, rfl, hm⟩ := nf_of hk
    rw [J_J7_fill_53178_L5]
    simp (disch := omega) only [↓reduceIte, nm_x, chk_nI, chz_0, chz_1, chz_b2, chn_nI, oi_1, oi_2, oi_m1, il_0, il_1, il_2, il_3, il_4, il_5, il_6, il_7, il_8, il_9, il_10, il_11, il_12, il_13, il_14, il_15, il_16, il_32, il_35, il_40, il_41, il_42, il_43, il_44, il_45, il_46, il_48, il_57, il_58, il_59, il_60, il_99, il_104, il_115, il_116, il_119, il_126, il_133, il_255, il_256, il_512, il_931, il_1000, il_65536, bn0, bn1, bn2, bn3, bn4, bn5, bn6, bn7, bn8, bn9, bn10, bn11, bn12, bn13, bn14, bn15, nI_leI, nI_ltI, nI_eq, nI_clamp, nI_add, pk_mul, nI_lt0, ng_lt0, ng_ge0, ng_eqn, ng_neq, ng_len, ng_eq, sV_m1, sV_lt0, sV_ge0, if_true, if_false, Nat.le_refl, Nat.lt_irrefl, Nat.not_lt_zero, Nat.zero_le, not_true_eq_false, not_false_eq_true, false_and, true_and, and_true, and_false, true_or, or_true, false_or, or_false, reduceCtorEq, show ¬ n ≤ i by omega]
    have e2 : upd (flv i v a) i v = flv (i + 1) v a := by
      funext j
      unfold upd flv
      by_cases h1 : j = i
      · rw [if_pos h1, if_pos (by omega)]
      · rw [if_neg h1]
        by_cases h2 : j < i
        · rw [if_pos h2, if_pos (by omega)]
        · rw [if_neg h2, if_neg (by omega)]
    rw [e2]
    exact ih m (i + 1) (by omega) (by omega)
theorem X7_fill {n : Nat} (hn : n < 1000) (v : Int32) (a : Nat → Int32) : J_J7_fill_53178 n a v = some (flv n v a) := by
  unfold J_J7_fill_53178
  have h := X7_fill_L n (by omega) v a n FU 0 (by omega) (by unfold FU; omega)
  have e : flv 0 v a = a := by funext j; unfold flv; rw [if_neg (by omega)]
  rw [e] at h
  rw [il_0]
  exact h
/-- the depth, 0 without one -/
noncomputable def dz (g : Nat → Nat) (l : Nat) : Nat := @ite Nat (HD g l) (Classical.propDecidable _) (DV g l) 0
theorem dz_t {g : Nat → Nat} {l : Nat} (h : HD g l) : dz g l = DV g l := by unfold dz; exact @if_pos _ (Classical.propDecidable _) h _ _ _
theorem dz_f {g : Nat → Nat} {l : Nat} (h : ¬ HD g l) : dz g l = 0 := by unfold dz; exact @if_neg _ (Classical.propDecidable _) h _ _ _
theorem dz_le {g : Nat → Nat} (hG : GV g) {l : Nat} (hl : l < 16) : dz g l ≤ 64 := by
  rcases Classical.em (HD g l) with h | h
  · rw [dz_t h]; exact DV_le hG hl
  · rw [dz_f h]; omega
section Depth2X
variable {g : Nat → Nat} {c : Int32} {k w so : Nat → Int32}
theorem KN_none (g : Nat → Nat) (a : Nat → Int32) (A : Nat → Prop) : KN g (flv 16 (-nI 1) a) A := fun x hx => Or.inl (by unfold flv; rw [if_pos hx])
theorem X0_byWires (hG : GV g) (hS : SR g c k w so) {l : Nat} (hl : l < g 0) (kn : Nat → Int32) : ∃ x kn', J_X0_byWires kn c k w so (nI l) = some (x, kn') ∧ ((HD g l ∧ x = nI (DV g l)) ∨ (¬ HD g l ∧ x = -nI 15)) := by
  unfold J_X0_byWires
  simp only [il_1, il_0]
  rw [X7_fill (by omega)]
  simp only [bn1]
  obtain ⟨r, kn', e1, h1, h2, h3⟩ := X0_below hG hS 20 l 0 (flv 16 (-nI 1) kn) (fun _ => False) hl (KN_none g kn _) (fun x hx => hx.elim) (by have := unk_16 (flv 16 (-nI 1) kn); omega) (by have := unk_16 (flv 16 (-nI 1) kn); omega)
  rw [e1]
  simp only [bn2]
  refine ⟨r, kn', rfl, ?_⟩
  rcases h3 with h3 | ⟨h3, h4 | h4⟩
  · exact Or.inl h3
  · exact Or.inr ⟨h4, h3⟩
  · exact h4.elim
theorem X0_greatest_L (hG : GV g) (hS : SR g c k w so) : ∀ d nf j kn, j + d = g 0 → d < nf → KN g kn (fun _ => False) → ∃ kn', J_X0_greatest_L12 c k w so nf kn (nI (mx (dz g) j)) (nI j) = some (nI (mx (dz g) (g 0)), kn') := by
  have hn := hG.1
  intro d
  induction d with
  | zero =>
    intro nf j kn hj hd hk
    obtain ⟨m, rfl, -⟩ := nf_of hd
    obtain rfl : j = g 0 := by omega
    refine ⟨kn, ?_⟩
    rw [J_X0_greatest_L12, hS.1]
    unfold J_X2_count
    simp (disch := omega) only [↓reduceIte, nm_x, chk_nI, chz_0, chz_1, chz_b2, chn_nI, oi_1, oi_2, oi_m1, il_0, il_1, il_2, il_3, il_4, il_5, il_6, il_7, il_8, il_9, il_10, il_11, il_12, il_13, il_14, il_15, il_16, il_32, il_35, il_40, il_41, il_42, il_43, il_44, il_45, il_46, il_48, il_57, il_58, il_59, il_60, il_99, il_104, il_115, il_116, il_119, il_126, il_133, il_255, il_256, il_512, il_931, il_1000, il_65536, bn0, bn1, bn2, bn3, bn4, bn5, bn6, bn7, bn8, bn9, bn10, bn11, bn12, bn13, bn14, bn15, nI_leI, nI_ltI, nI_eq, nI_clamp, nI_add, pk_mul, nI_lt0, ng_lt0, ng_ge0, ng_eqn, ng_neq, ng_len, ng_eq, sV_m1, sV_lt0, sV_ge0, if_true, if_false, Nat.le_refl, Nat.lt_irrefl, Nat.not_lt_zero, Nat.zero_le, not_true_eq_false, not_false_eq_true, false_and, true_and, and_true, and_false, true_or, or_true, false_or, or_false, reduceCtorEq]
  | succ d ih =>
    intro nf j kn hj hd hk
    obtain ⟨m, rfl, hm⟩ := nf_of hd
    obtain ⟨r, kn', e1, h1, h2, h3⟩ := X0_below hG hS 20 j 0 kn (fun _ => False) (by omega) hk (fun x hx => hx.elim) (by have := unk_16 kn; omega) (by have := unk_16 kn; omega)
    have ih' := ih m (j + 1) kn' (by omega) hm h1
    rw [mx] at ih'
    rw [hS.1] at e1 ih' ⊢
    rw [J_X0_greatest_L12]
    unfold J_X2_count
    have hb := mx_le (F := dz g) (b := 64) (n := j) (fun q hq => dz_le hG (by omega))
    simp (disch := omega) only [↓reduceIte, nm_x, chk_nI, chz_0, chz_1, chz_b2, chn_nI, oi_1, oi_2, oi_m1, il_0, il_1, il_2, il_3, il_4, il_5, il_6, il_7, il_8, il_9, il_10, il_11, il_12, il_13, il_14, il_15, il_16, il_32, il_35, il_40, il_41, il_42, il_43, il_44, il_45, il_46, il_48, il_57, il_58, il_59, il_60, il_99, il_104, il_115, il_116, il_119, il_126, il_133, il_255, il_256, il_512, il_931, il_1000, il_65536, bn0, bn1, bn2, bn3, bn4, bn5, bn6, bn7, bn8, bn9, bn10, bn11, bn12, bn13, bn14, bn15, nI_leI, nI_ltI, nI_eq, nI_clamp, nI_add, pk_mul, nI_lt0, ng_lt0, ng_ge0, ng_eqn, ng_neq, ng_len, ng_eq, sV_m1, sV_lt0, sV_ge0, if_true, if_false, Nat.le_refl, Nat.lt_irrefl, Nat.not_lt_zero, Nat.zero_le, not_true_eq_false, not_false_eq_true, false_and, true_and, and_true, and_false, true_or, or_true, false_or, or_false, reduceCtorEq, show ¬ g 0 ≤ j by omega, e1]
    rcases h3 with ⟨h3, rfl⟩ | ⟨rfl, h3⟩
    · have hb1 := DV_le hG (show j < 16 by omega)
      rw [dz_t h3] at ih'
      simp (disch := omega) only [↓reduceIte, nm_x, chk_nI, chz_0, chz_1, chz_b2, chn_nI, oi_1, oi_2, oi_m1, il_0, il_1, il_2, il_3, il_4, il_5, il_6, il_7, il_8, il_9, il_10, il_11, il_12, il_13, il_14, il_15, il_16, il_32, il_35, il_40, il_41, il_42, il_43, il_44, il_45, il_46, il_48, il_57, il_58, il_59, il_60, il_99, il_104, il_115, il_116, il_119, il_126, il_133, il_255, il_256, il_512, il_931, il_1000, il_65536, bn0, bn1, bn2, bn3, bn4, bn5, bn6, bn7, bn8, bn9, bn10, bn11, bn12, bn13, bn14, bn15, nI_leI, nI_ltI, nI_eq, nI_clamp, nI_add, pk_mul, nI_lt0, ng_lt0, ng_ge0, ng_eqn, ng_neq, ng_len, ng_eq, sV_m1, sV_lt0, sV_ge0, if_true, if_false, Nat.le_refl, Nat.lt_irrefl, Nat.not_lt_zero, Nat.zero_le, not_true_eq_false, not_false_eq_true, false_and, true_and, and_true, and_false, true_or, or_true, false_or, or_false, reduceCtorEq]
      by_cases q : mx (dz g) j < DV g j
      · rw [if_pos q] at ih' ⊢; exact ih'
      · rw [if_neg q] at ih' ⊢; exact ih'
    · rw [dz_f (h3.resolve_right fun h => h), if_neg (Nat.not_lt_zero _)] at ih'
      rw [if_neg (by rw [fa_lt, ng_toInt (by omega), nI_toInt (by omega)]; omega)]
      exact ih'
theorem X0_greatest (hG : GV g) (hS : SR g c k w so) (kn : Nat → Int32) : ∃ kn', J_X0_greatest kn c k w so = some (nI (mx (dz g) (g 0)), kn') := by
  unfold J_X0_greatest
  simp only [il_1, il_0]
  rw [X7_fill (by omega)]
  simp only [bn1]
  exact X0_greatest_L hG hS (g 0) FU 0 _ (by omega) (by have := hG.1; unfold FU; omega) (KN_none g kn _)
/-- what is known in rounds -/
def KR (g : Nat → Nat) (kn : Nat → Int32) : Prop := ∀ x, x < 16 → kn x = -nI 1 ∨ (HD g x ∧ kn x = nI (DV g x))
theorem X0_deepest_L (hG : GV g) (hS : SR g c k w so) {kn : Nat → Int32} (hk : KR g kn) {l : Nat} (hl : l < 16) : ∀ d nf p, p + d = 3 → d < nf → (∀ q, q < p → src g l q ≠ 0 → kn (src g l q - 1) ≠ -nI 1) → ∃ x, J_X0_deepestSource_L5 kn c so (nI l) nf (nI (mx (fun q => if src g l q = 0 then 0 else DV g (src g l q - 1)) p)) (nI p) = some x ∧ ((x = -nI 1 ∧ ∃ q, q < 3 ∧ src g l q ≠ 0 ∧ kn (src g l q - 1) = -nI 1) ∨ ((∀ q, q < 3 → src g l q ≠ 0 → kn (src g l q - 1) ≠ -nI 1) ∧ x = nI (mx (fun q => if src g l q = 0 then 0 else DV g (src g l q - 1)) 3))) := by
  have hn := hG.1
  have hbd : ∀ p, p < 3 → (if src g l p = 0 then 0 else DV g (src g l p - 1)) ≤ 64 := fun p hp => by
    split
    · omega
    · exact DV_le hG (by have := src_lt hG hl hp (by assumption); omega)
  intro d
  induction d with
  | zero =>
    intro nf p hp hd hq
    obtain ⟨m, rfl, -⟩ := nf_of hd
    obtain rfl : p = 3 := by omega
    refine ⟨_, ?_, Or.inr ⟨hq, rfl⟩⟩
    rw [J_X0_deepestSource_L5]
    simp (disch := omega) only [↓reduceIte, nm_x, chk_nI, chz_0, chz_1, chz_b2, chn_nI, oi_1, oi_2, oi_m1, il_0, il_1, il_2, il_3, il_4, il_5, il_6, il_7, il_8, il_9, il_10, il_11, il_12, il_13, il_14, il_15, il_16, il_32, il_35, il_40, il_41, il_42, il_43, il_44, il_45, il_46, il_48, il_57, il_58, il_59, il_60, il_99, il_104, il_115, il_116, il_119, il_126, il_133, il_255, il_256, il_512, il_931, il_1000, il_65536, bn0, bn1, bn2, bn3, bn4, bn5, bn6, bn7, bn8, bn9, bn10, bn11, bn12, bn13, bn14, bn15, nI_leI, nI_ltI, nI_eq, nI_clamp, nI_add, pk_mul, nI_lt0, ng_lt0, ng_ge0, ng_eqn, ng_neq, ng_len, ng_eq, sV_m1, sV_lt0, sV_ge0, if_true, if_false, Nat.le_refl, Nat.lt_irrefl, Nat.not_lt_zero, Nat.zero_le, not_true_eq_false, not_false_eq_true, false_and, true_and, and_true, and_false, true_or, or_true, false_or, or_false, reduceCtorEq]
  | succ d ih =>
    intro nf p hp hd hq
    obtain ⟨m, rfl, hm⟩ := nf_of hd
    have hsr := GV_src hG hl (show p < 3 by omega)
    have hb2 := mx_le (F := fun q => if src g l q = 0 then 0 else DV g (src g l q - 1)) (n := p) (fun q hq => hbd q (by omega))
    rw [J_X0_deepestSource_L5, X2_sourceOf hS hl (by omega)]
    unfold J_X0_deepestSource_b54
    simp (disch := omega) only [↓reduceIte, nm_x, chk_nI, chz_0, chz_1, chz_b2, chn_nI, oi_1, oi_2, oi_m1, il_0, il_1, il_2, il_3, il_4, il_5, il_6, il_7, il_8, il_9, il_10, il_11, il_12, il_13, il_14, il_15, il_16, il_32, il_35, il_40, il_41, il_42, il_43, il_44, il_45, il_46, il_48, il_57, il_58, il_59, il_60, il_99, il_104, il_115, il_116, il_119, il_126, il_133, il_255, il_256, il_512, il_931, il_1000, il_65536, bn0, bn1, bn2, bn3, bn4, bn5, bn6, bn7, bn8, bn9, bn10, bn11, bn12, bn13, bn14, bn15, nI_leI, nI_ltI, nI_eq, nI_clamp, nI_add, pk_mul, nI_lt0, ng_lt0, ng_ge0, ng_eqn, ng_neq, ng_len, ng_eq, sV_m1, sV_lt0, sV_ge0, if_true, if_false, Nat.le_refl, Nat.lt_irrefl, Nat.not_lt_zero, Nat.zero_le, not_true_eq_false, not_false_eq_true, false_and, true_and, and_true, and_false, true_or, or_true, false_or, or_false, reduceCtorEq, show ¬ 3 ≤ p by omega]
    by_cases h : src g l p = 0
    · have hh : J_X2_isHung c (sV (src g l p)) = some (nI 0) := by
        rw [h, hS.1]; exact X2_isHung_f (Or.inl (by decide +kernel))
      rw [hh]
      simp (disch := omega) only [↓reduceIte, nm_x, chk_nI, chz_0, chz_1, chz_b2, chn_nI, oi_1, oi_2, oi_m1, il_0, il_1, il_2, il_3, il_4, il_5, il_6, il_7, il_8, il_9, il_10, il_11, il_12, il_13, il_14, il_15, il_16, il_32, il_35, il_40, il_41, il_42, il_43, il_44, il_45, il_46, il_48, il_57, il_58, il_59, il_60, il_99, il_104, il_115, il_116, il_119, il_126, il_133, il_255, il_256, il_512, il_931, il_1000, il_65536, bn0, bn1, bn2, bn3, bn4, bn5, bn6, bn7, bn8, bn9, bn10, bn11, bn12, bn13, bn14, bn15, nI_leI, nI_ltI, nI_eq, nI_clamp, nI_add, pk_mul, nI_lt0, ng_lt0, ng_ge0, ng_eqn, ng_neq, ng_len, ng_eq, sV_m1, sV_lt0, sV_ge0, if_true, if_false, Nat.le_refl, Nat.lt_irrefl, Nat.not_lt_zero, Nat.zero_le, not_true_eq_false, not_false_eq_true, false_and, true_and, and_true, and_false, true_or, or_true, false_or, or_false, reduceCtorEq]
      have ih' := ih m (p + 1) (by omega) (by omega) (fun q hq1 hq0 => by
        rcases Nat.lt_or_ge q p with x | x
        · exact hq q x hq0
        · obtain rfl : q = p := by omega
          exact absurd h hq0)
      rw [mx] at ih'
      simp only [h, if_true, Nat.not_lt_zero, if_false] at ih'
      exact ih'
    · have hs := src_lt hG hl (show p < 3 by omega) h
      have hh : J_X2_isHung c (nI (src g l p - 1)) = some (nI 1) := by
        rw [hS.1]; exact X2_isHung_t hs hn
      rw [sV_s h, hh]
      simp (disch := omega) only [↓reduceIte, nm_x, chk_nI, chz_0, chz_1, chz_b2, chn_nI, oi_1, oi_2, oi_m1, il_0, il_1, il_2, il_3, il_4, il_5, il_6, il_7, il_8, il_9, il_10, il_11, il_12, il_13, il_14, il_15, il_16, il_32, il_35, il_40, il_41, il_42, il_43, il_44, il_45, il_46, il_48, il_57, il_58, il_59, il_60, il_99, il_104, il_115, il_116, il_119, il_126, il_133, il_255, il_256, il_512, il_931, il_1000, il_65536, bn0, bn1, bn2, bn3, bn4, bn5, bn6, bn7, bn8, bn9, bn10, bn11, bn12, bn13, bn14, bn15, nI_leI, nI_ltI, nI_eq, nI_clamp, nI_add, pk_mul, nI_lt0, ng_lt0, ng_ge0, ng_eqn, ng_neq, ng_len, ng_eq, sV_m1, sV_lt0, sV_ge0, if_true, if_false, Nat.le_refl, Nat.lt_irrefl, Nat.not_lt_zero, Nat.zero_le, not_true_eq_false, not_false_eq_true, false_and, true_and, and_true, and_false, true_or, or_true, false_or, or_false, reduceCtorEq]
      by_cases hu : kn (src g l p - 1) = -nI 1
      · rw [if_pos hu]
        exact ⟨_, rfl, Or.inl ⟨rfl, p, by omega, h, hu⟩⟩
      · rw [if_neg hu]
        obtain ⟨hH, hv⟩ := (hk _ (by omega)).resolve_left hu
        have hb1 := hbd p (by omega)
        rw [if_neg h] at hb1
        have ih' := ih m (p + 1) (by omega) (by omega) (fun q hq1 hq0 => by
          rcases Nat.lt_or_ge q p with x | x
          · exact hq q x hq0
          · obtain rfl : q = p := by omega
            exact hu)
        rw [mx] at ih'
        simp only [h, if_false] at ih'
        rw [hv]
        simp (disch := omega) only [↓reduceIte, nm_x, chk_nI, chz_0, chz_1, chz_b2, chn_nI, oi_1, oi_2, oi_m1, il_0, il_1, il_2, il_3, il_4, il_5, il_6, il_7, il_8, il_9, il_10, il_11, il_12, il_13, il_14, il_15, il_16, il_32, il_35, il_40, il_41, il_42, il_43, il_44, il_45, il_46, il_48, il_57, il_58, il_59, il_60, il_99, il_104, il_115, il_116, il_119, il_126, il_133, il_255, il_256, il_512, il_931, il_1000, il_65536, bn0, bn1, bn2, bn3, bn4, bn5, bn6, bn7, bn8, bn9, bn10, bn11, bn12, bn13, bn14, bn15, nI_leI, nI_ltI, nI_eq, nI_clamp, nI_add, pk_mul, nI_lt0, ng_lt0, ng_ge0, ng_eqn, ng_neq, ng_len, ng_eq, sV_m1, sV_lt0, sV_ge0, if_true, if_false, Nat.le_refl, Nat.lt_irrefl, Nat.not_lt_zero, Nat.zero_le, not_true_eq_false, not_false_eq_true, false_and, true_and, and_true, and_false, true_or, or_true, false_or, or_false, reduceCtorEq]
        by_cases q : mx (fun q => if src g l q = 0 then 0 else DV g (src g l q - 1)) p < DV g (src g l p - 1)
        · rw [if_pos q] at ih' ⊢; exact ih'
        · rw [if_neg q] at ih' ⊢; exact ih'
theorem X0_look_L (hG : GV g) (hS : SR g c k w so) (r : Nat) : ∀ d nf j kn, j + d = g 0 → d < nf → KR g kn → (∀ x, x < g 0 → dk g r x → kn x ≠ -nI 1) → (∀ x, x < j → dk g (r + 1) x → kn x ≠ -nI 1) → ∃ kn', J_X0_lookAtAll_L2 c k w so nf kn (nI j) = some kn' ∧ KR g kn' ∧ ∀ x, x < g 0 → dk g (r + 1) x → kn' x ≠ -nI 1 := by
  have hn := hG.1
  intro d
  induction d with
  | zero =>
    intro nf j kn hj hd hk h1 h2
    obtain ⟨m, rfl, -⟩ := nf_of hd
    obtain rfl : j = g 0 := by omega
    refine ⟨kn, ?_, hk, h2⟩
    rw [J_X0_lookAtAll_L2, hS.1]
    unfold J_X2_count J_X0_lookAtAll_b46
    simp (disch := omega) only [↓reduceIte, nm_x, chk_nI, chz_0, chz_1, chz_b2, chn_nI, oi_1, oi_2, oi_m1, il_0, il_1, il_2, il_3, il_4, il_5, il_6, il_7, il_8, il_9, il_10, il_11, il_12, il_13, il_14, il_15, il_16, il_32, il_35, il_40, il_41, il_42, il_43, il_44, il_45, il_46, il_48, il_57, il_58, il_59, il_60, il_99, il_104, il_115, il_116, il_119, il_126, il_133, il_255, il_256, il_512, il_931, il_1000, il_65536, bn0, bn1, bn2, bn3, bn4, bn5, bn6, bn7, bn8, bn9, bn10, bn11, bn12, bn13, bn14, bn15, nI_leI, nI_ltI, nI_eq, nI_clamp, nI_add, pk_mul, nI_lt0, ng_lt0, ng_ge0, ng_eqn, ng_neq, ng_len, ng_eq, sV_m1, sV_lt0, sV_ge0, if_true, if_false, Nat.le_refl, Nat.lt_irrefl, Nat.not_lt_zero, Nat.zero_le, not_true_eq_false, not_false_eq_true, false_and, true_and, and_true, and_false, true_or, or_true, false_or, or_false, reduceCtorEq]
  | succ d ih =>
    intro nf j kn hj hd hk h1 h2
    obtain ⟨m, rfl, hm⟩ := nf_of hd
    have hj16 : j < 16 := by omega
    obtain ⟨x, e1, h3⟩ := X0_deepest_L hG hS hk hj16 3 FU 0 rfl (by unfold FU; omega) (fun q hq => absurd hq (Nat.not_lt_zero q))
    have hdp : J_X0_deepestSource kn c so (nI j) = some x := by unfold J_X0_deepestSource; rw [il_0]; exact e1
    have hi := ih m (j + 1)
    rw [hS.1] at hdp hi ⊢
    rw [J_X0_lookAtAll_L2]
    unfold J_X2_count J_X0_lookAtAll_b40
    simp (disch := omega) only [↓reduceIte, nm_x, chk_nI, chz_0, chz_1, chz_b2, chn_nI, oi_1, oi_2, oi_m1, il_0, il_1, il_2, il_3, il_4, il_5, il_6, il_7, il_8, il_9, il_10, il_11, il_12, il_13, il_14, il_15, il_16, il_32, il_35, il_40, il_41, il_42, il_43, il_44, il_45, il_46, il_48, il_57, il_58, il_59, il_60, il_99, il_104, il_115, il_116, il_119, il_126, il_133, il_255, il_256, il_512, il_931, il_1000, il_65536, bn0, bn1, bn2, bn3, bn4, bn5, bn6, bn7, bn8, bn9, bn10, bn11, bn12, bn13, bn14, bn15, nI_leI, nI_ltI, nI_eq, nI_clamp, nI_add, pk_mul, nI_lt0, ng_lt0, ng_ge0, ng_eqn, ng_neq, ng_len, ng_eq, sV_m1, sV_lt0, sV_ge0, if_true, if_false, Nat.le_refl, Nat.lt_irrefl, Nat.not_lt_zero, Nat.zero_le, not_true_eq_false, not_false_eq_true, false_and, true_and, and_true, and_false, true_or, or_true, false_or, or_false, reduceCtorEq, show ¬ g 0 ≤ j by omega, show ¬ 16 ≤ j by omega, hdp]
    rcases h3 with ⟨rfl, q, hq, hq0, hqu⟩ | ⟨hall, rfl⟩
    · simp (disch := omega) only [↓reduceIte, nm_x, chk_nI, chz_0, chz_1, chz_b2, chn_nI, oi_1, oi_2, oi_m1, il_0, il_1, il_2, il_3, il_4, il_5, il_6, il_7, il_8, il_9, il_10, il_11, il_12, il_13, il_14, il_15, il_16, il_32, il_35, il_40, il_41, il_42, il_43, il_44, il_45, il_46, il_48, il_57, il_58, il_59, il_60, il_99, il_104, il_115, il_116, il_119, il_126, il_133, il_255, il_256, il_512, il_931, il_1000, il_65536, bn0, bn1, bn2, bn3, bn4, bn5, bn6, bn7, bn8, bn9, bn10, bn11, bn12, bn13, bn14, bn15, nI_leI, nI_ltI, nI_eq, nI_clamp, nI_add, pk_mul, nI_lt0, ng_lt0, ng_ge0, ng_eqn, ng_neq, ng_len, ng_eq, sV_m1, sV_lt0, sV_ge0, if_true, if_false, Nat.le_refl, Nat.lt_irrefl, Nat.not_lt_zero, Nat.zero_le, not_true_eq_false, not_false_eq_true, false_and, true_and, and_true, and_false, true_or, or_true, false_or, or_false, reduceCtorEq]
      refine hi kn (by omega) hm hk h1 fun y hy hdy => ?_
      rcases Nat.lt_or_ge y j with a | a
      · exact h2 y a hdy
      · obtain rfl : y = j := by omega
        rcases hdy with h | h
        · exact absurd ((hG.2.2.2.2.1 y hj16 h).2 q hq) hq0
        · exact absurd hqu (h1 _ (src_lt hG hj16 hq hq0) (h q hq hq0))
    · have hb2 := mx_le (F := fun q => if src g j q = 0 then 0 else DV g (src g j q - 1)) (n := 3) (b := 64) (fun p hp => by
        show (if src g j p = 0 then 0 else DV g (src g j p - 1)) ≤ 64
        split
        · omega
        · exact DV_le hG (by have := src_lt hG hj16 hp (by assumption); omega))
      have ho := X0_ownDepth hG hS (show j < g 0 by omega) (dd := mx (fun q => if src g j q = 0 then 0 else DV g (src g j q - 1)) 3)
      rw [hS.1] at ho
      have hH : HD g j := (HD_iff hG hj16).mpr (Or.inr fun p hp h0 => ((hk _ (by have := src_lt hG hj16 hp h0; omega)).resolve_left (hall p hp h0)).1)
      have hdv := DV_eq hG hj16 hH
      rw [← hdv] at ho
      simp (disch := omega) only [↓reduceIte, nm_x, chk_nI, chz_0, chz_1, chz_b2, chn_nI, oi_1, oi_2, oi_m1, il_0, il_1, il_2, il_3, il_4, il_5, il_6, il_7, il_8, il_9, il_10, il_11, il_12, il_13, il_14, il_15, il_16, il_32, il_35, il_40, il_41, il_42, il_43, il_44, il_45, il_46, il_48, il_57, il_58, il_59, il_60, il_99, il_104, il_115, il_116, il_119, il_126, il_133, il_255, il_256, il_512, il_931, il_1000, il_65536, bn0, bn1, bn2, bn3, bn4, bn5, bn6, bn7, bn8, bn9, bn10, bn11, bn12, bn13, bn14, bn15, nI_leI, nI_ltI, nI_eq, nI_clamp, nI_add, pk_mul, nI_lt0, ng_lt0, ng_ge0, ng_eqn, ng_neq, ng_len, ng_eq, sV_m1, sV_lt0, sV_ge0, if_true, if_false, Nat.le_refl, Nat.lt_irrefl, Nat.not_lt_zero, Nat.zero_le, not_true_eq_false, not_false_eq_true, false_and, true_and, and_true, and_false, true_or, or_true, false_or, or_false, reduceCtorEq, ho]
      have hne : nI (DV g j) ≠ -nI 1 := fun e => by rw [ng_neq (by omega) (by omega) (by have := DV_le hG hj16; omega)] at e; exact e
      refine hi _ (by omega) hm (fun y hy => ?_) (fun y hy hdy => ?_) (fun y hy hdy => ?_)
      · unfold upd
        by_cases e : y = j
        · rw [if_pos e, e]; exact Or.inr ⟨hH, rfl⟩
        · rw [if_neg e]; exact hk y hy
      · unfold upd
        by_cases e : y = j
        · rw [if_pos e]; exact hne
        · rw [if_neg e]; exact h1 y hy hdy
      · unfold upd
        by_cases e : y = j
        · rw [if_pos e]; exact hne
        · rw [if_neg e]; exact h2 y (by omega) hdy
theorem X0_byRounds_L (hG : GV g) (hS : SR g c k w so) {l : Nat} (hl : l < g 0) : ∀ d nf r kn, r + d = 16 → d < nf → KR g kn → (∀ x, x < g 0 → dk g r x → kn x ≠ -nI 1) → ∃ x kn', J_X0_byRounds_L10 c k w so (nI l) nf kn (nI r) = some (x, kn') ∧ ((HD g l ∧ x = nI (DV g l)) ∨ (¬ HD g l ∧ x = -nI 15)) := by
  have hn := hG.1
  have hl16 : l < 16 := by omega
  intro d
  induction d with
  | zero =>
    intro nf r kn hr hd hk h1
    obtain ⟨m, rfl, -⟩ := nf_of hd
    obtain rfl : r = 16 := by omega
    have hh : J_X2_isHung c (nI l) = some (nI 1) := by rw [hS.1]; exact X2_isHung_t hl hn
    rw [J_X0_byRounds_L10, hh]
    unfold J_X0_byRounds_b49 J_X0_byRounds_b50 J_X0_byRounds_b66
    simp (disch := omega) only [↓reduceIte, nm_x, chk_nI, chz_0, chz_1, chz_b2, chn_nI, oi_1, oi_2, oi_m1, il_0, il_1, il_2, il_3, il_4, il_5, il_6, il_7, il_8, il_9, il_10, il_11, il_12, il_13, il_14, il_15, il_16, il_32, il_35, il_40, il_41, il_42, il_43, il_44, il_45, il_46, il_48, il_57, il_58, il_59, il_60, il_99, il_104, il_115, il_116, il_119, il_126, il_133, il_255, il_256, il_512, il_931, il_1000, il_65536, bn0, bn1, bn2, bn3, bn4, bn5, bn6, bn7, bn8, bn9, bn10, bn11, bn12, bn13, bn14, bn15, nI_leI, nI_ltI, nI_eq, nI_clamp, nI_add, pk_mul, nI_lt0, ng_lt0, ng_ge0, ng_eqn, ng_neq, ng_len, ng_eq, sV_m1, sV_lt0, sV_ge0, if_true, if_false, Nat.le_refl, Nat.lt_irrefl, Nat.not_lt_zero, Nat.zero_le, not_true_eq_false, not_false_eq_true, false_and, true_and, and_true, and_false, true_or, or_true, false_or, or_false, reduceCtorEq]
    by_cases h : kn l = -nI 1
    · rw [if_pos h]
      exact ⟨_, _, rfl, Or.inr ⟨fun hH => h1 l hl hH h, rfl⟩⟩
    · rw [if_neg h]
      exact ⟨_, _, rfl, Or.inl ((hk l hl16).resolve_left h)⟩
  | succ d ih =>
    intro nf r kn hr hd hk h1
    obtain ⟨m, rfl, hm⟩ := nf_of hd
    obtain ⟨kn', e1, h2, h3⟩ := X0_look_L hG hS r (g 0) FU 0 kn (by omega) (by unfold FU; omega) hk h1 (fun x hx => absurd hx (Nat.not_lt_zero x))
    have e2 : J_X0_lookAtAll kn c k w so = some kn' := by unfold J_X0_lookAtAll; rw [il_0]; exact e1
    rw [J_X0_byRounds_L10]
    simp (disch := omega) only [↓reduceIte, nm_x, chk_nI, chz_0, chz_1, chz_b2, chn_nI, oi_1, oi_2, oi_m1, il_0, il_1, il_2, il_3, il_4, il_5, il_6, il_7, il_8, il_9, il_10, il_11, il_12, il_13, il_14, il_15, il_16, il_32, il_35, il_40, il_41, il_42, il_43, il_44, il_45, il_46, il_48, il_57, il_58, il_59, il_60, il_99, il_104, il_115, il_116, il_119, il_126, il_133, il_255, il_256, il_512, il_931, il_1000, il_65536, bn0, bn1, bn2, bn3, bn4, bn5, bn6, bn7, bn8, bn9, bn10, bn11, bn12, bn13, bn14, bn15, nI_leI, nI_ltI, nI_eq, nI_clamp, nI_add, pk_mul, nI_lt0, ng_lt0, ng_ge0, ng_eqn, ng_neq, ng_len, ng_eq, sV_m1, sV_lt0, sV_ge0, if_true, if_false, Nat.le_refl, Nat.lt_irrefl, Nat.not_lt_zero, Nat.zero_le, not_true_eq_false, not_false_eq_true, false_and, true_and, and_true, and_false, true_or, or_true, false_or, or_false, reduceCtorEq, show ¬ 16 ≤ r by omega, e2]
    exact ih m (r + 1) kn' (by omega) hm h2 h3
theorem X0_byRounds (hG : GV g) (hS : SR g c k w so) {l : Nat} (hl : l < g 0) (kn : Nat → Int32) : ∃ x kn', J_X0_byRounds kn c k w so (nI l) = some (x, kn') ∧ ((HD g l ∧ x = nI (DV g l)) ∨ (¬ HD g l ∧ x = -nI 15)) := by
  unfold J_X0_byRounds
  simp only [il_1, il_0]
  rw [X7_fill (by omega)]
  simp only [bn1]
  exact X0_byRounds_L hG hS hl 16 FU 0 _ rfl (by unfold FU; omega) (fun x hx => Or.inl (by unfold flv; rw [if_pos hx])) (fun x _ h => h.elim)
end Depth2X
section Depth2M
variable {g : Nat → Nat} {nw : Nat → Int32}
theorem X10_depth (hG : GV g) (hM : MR g nw) {l : Nat} (hl : l < g 0) (r : Nat → Int32) : ∃ x r', J_X10_depth nw r (nI l) = some (x, r') ∧ ((HD g l ∧ x = nI (DV g l)) ∨ (¬ HD g l ∧ x = -nI 15)) := by
  have hn := hG.1
  have hl16 : l < 16 := by omega
  unfold J_X10_depth J_X10_depth_b29
  rw [X10_isLantern_t hG hM hl]
  obtain ⟨x, r1, e1, h1⟩ := X10_deep hG hM hl16 r
  simp (disch := omega) only [↓reduceIte, nm_x, chk_nI, chz_0, chz_1, chz_b2, chn_nI, oi_1, oi_2, oi_m1, il_0, il_1, il_2, il_3, il_4, il_5, il_6, il_7, il_8, il_9, il_10, il_11, il_12, il_13, il_14, il_15, il_16, il_32, il_35, il_40, il_41, il_42, il_43, il_44, il_45, il_46, il_48, il_57, il_58, il_59, il_60, il_99, il_104, il_115, il_116, il_119, il_126, il_133, il_255, il_256, il_512, il_931, il_1000, il_65536, bn0, bn1, bn2, bn3, bn4, bn5, bn6, bn7, bn8, bn9, bn10, bn11, bn12, bn13, bn14, bn15, nI_leI, nI_ltI, nI_eq, nI_clamp, nI_add, pk_mul, nI_lt0, ng_lt0, ng_ge0, ng_eqn, ng_neq, ng_len, ng_eq, sV_m1, sV_lt0, sV_ge0, if_true, if_false, Nat.le_refl, Nat.lt_irrefl, Nat.not_lt_zero, Nat.zero_le, not_true_eq_false, not_false_eq_true, false_and, true_and, and_true, and_false, true_or, or_true, false_or, or_false, reduceCtorEq, e1]
  rcases h1 with ⟨h1, rfl⟩ | ⟨h1, rfl⟩
  · have hb := DV_le hG hl16
    obtain ⟨y, r2, e2, h2⟩ := X10_deep hG hM hl16 r1
    simp (disch := omega) only [↓reduceIte, nm_x, chk_nI, chz_0, chz_1, chz_b2, chn_nI, oi_1, oi_2, oi_m1, il_0, il_1, il_2, il_3, il_4, il_5, il_6, il_7, il_8, il_9, il_10, il_11, il_12, il_13, il_14, il_15, il_16, il_32, il_35, il_40, il_41, il_42, il_43, il_44, il_45, il_46, il_48, il_57, il_58, il_59, il_60, il_99, il_104, il_115, il_116, il_119, il_126, il_133, il_255, il_256, il_512, il_931, il_1000, il_65536, bn0, bn1, bn2, bn3, bn4, bn5, bn6, bn7, bn8, bn9, bn10, bn11, bn12, bn13, bn14, bn15, nI_leI, nI_ltI, nI_eq, nI_clamp, nI_add, pk_mul, nI_lt0, ng_lt0, ng_ge0, ng_eqn, ng_neq, ng_len, ng_eq, sV_m1, sV_lt0, sV_ge0, if_true, if_false, Nat.le_refl, Nat.lt_irrefl, Nat.not_lt_zero, Nat.zero_le, not_true_eq_false, not_false_eq_true, false_and, true_and, and_true, and_false, true_or, or_true, false_or, or_false, reduceCtorEq, e2, nI_ge0]
    exact ⟨y, r2, rfl, Or.inl (h2.resolve_right fun h => h.1 h1)⟩
  · simp (disch := omega) only [↓reduceIte, nm_x, chk_nI, chz_0, chz_1, chz_b2, chn_nI, oi_1, oi_2, oi_m1, il_0, il_1, il_2, il_3, il_4, il_5, il_6, il_7, il_8, il_9, il_10, il_11, il_12, il_13, il_14, il_15, il_16, il_32, il_35, il_40, il_41, il_42, il_43, il_44, il_45, il_46, il_48, il_57, il_58, il_59, il_60, il_99, il_104, il_115, il_116, il_119, il_126, il_133, il_255, il_256, il_512, il_931, il_1000, il_65536, bn0, bn1, bn2, bn3, bn4, bn5, bn6, bn7, bn8, bn9, bn10, bn11, bn12, bn13, bn14, bn15, nI_leI, nI_ltI, nI_eq, nI_clamp, nI_add, pk_mul, nI_lt0, ng_lt0, ng_ge0, ng_eqn, ng_neq, ng_len, ng_eq, sV_m1, sV_lt0, sV_ge0, if_true, if_false, Nat.le_refl, Nat.lt_irrefl, Nat.not_lt_zero, Nat.zero_le, not_true_eq_false, not_false_eq_true, false_and, true_and, and_true, and_false, true_or, or_true, false_or, or_false, reduceCtorEq]
    exact ⟨_, _, rfl, Or.inr ⟨h1, rfl⟩⟩
end Depth2M

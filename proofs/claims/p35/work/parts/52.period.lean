/-! WHEN ALL REPEATS -/
/-- a tick takes the same to the same -/
theorem find_deq {g g' : Nat → Nat} (hG : GV g) (hG' : GV g') (hS : SEq g g') (h : deq g g') {l : Nat} (hl : l < 16) : fin g' (gw g') l = fin g (gw g) l := by
  have hg : ∀ i, i < 16 → gw g' i = gw g i := fun i hi => by unfold gw; rw [(h i hi).1]
  rw [fin_cong hG' hl hg]
  have hs := (hS.2 l hl).2.2
  unfold fin wct lit
  rw [(hS.2 l hl).1, fb_ct_cong (p := fun p => decide (src g' l p ≠ 0)) (q := fun p => decide (src g l p ≠ 0)) (fun p hp => by rw [hs p hp]), fb_ct_cong (p := fun p => decide (src g' l p ≠ 0) && gw g (src g' l p - 1)) (q := fun p => decide (src g l p ≠ 0) && gw g (src g l p - 1)) (fun p hp => by rw [hs p hp])]
theorem ng_deq {g g' : Nat → Nat} (hG : GV g) (hG' : GV g') (hS : SEq g g') (h : deq g g') {l : Nat} (hl : l < 16) : ng g' l = ng g l ∧ nfd g' l = nfd g l := by
  unfold ng nfd nv
  rw [find_deq hG hG' hS h hl, (hS.2 l hl).1, (hS.2 l hl).2.1, (h l hl).1, (h l hl).2]
  exact ⟨rfl, rfl⟩
theorem tk_deq {g g' : Nat → Nat} (hG : GV g) (hG' : GV g') (hS : SEq g g') (h : deq g g') : deq (tk g) (tk g') := fun l hl => by
  have := ng_deq hG hG' hS h hl
  rw [tk_g2 g hl, tk_g2 g' hl, tk_g7 g hl, tk_g7 g' hl]
  exact ⟨this.1.symm, this.2.symm⟩
theorem deq.rf (g : Nat → Nat) : deq g g := fun _ _ => ⟨rfl, rfl⟩
theorem deq.sm {g g' : Nat → Nat} (h : deq g g') : deq g' g := fun l hl => ⟨(h l hl).1.symm, (h l hl).2.symm⟩
theorem deq.tr {a b c : Nat → Nat} (h : deq a b) (h2 : deq b c) : deq a c := fun l hl => ⟨(h l hl).1.trans (h2 l hl).1, (h l hl).2.trans (h2 l hl).2⟩
/-- the state a ticks on is that b ticks on -/
def EQ (g : Nat → Nat) (a b : Nat) : Prop := deq (tki g a) (tki g b)
theorem EQ.up {g : Nat → Nat} (hG : GV g) {a b : Nat} (h : EQ g a b) : ∀ d, EQ g (a + d) (b + d)
  | 0 => h
  | d + 1 => tk_deq (GV_tki hG (a + d)) (GV_tki hG (b + d)) ⟨((tki_SEq g (b + d)).1).trans ((tki_SEq g (a + d)).1).symm, fun l hl => ⟨(((tki_SEq g (b + d)).2 l hl).1).trans (((tki_SEq g (a + d)).2 l hl).1).symm, (((tki_SEq g (b + d)).2 l hl).2.1).trans (((tki_SEq g (a + d)).2 l hl).2.1).symm, fun p hp => (((tki_SEq g (b + d)).2 l hl).2.2 p hp).trans (((tki_SEq g (a + d)).2 l hl).2.2 p hp).symm⟩⟩ (EQ.up hG h d)
/-- what the period is -/
def PR (g : Nat → Nat) (x : Int32) : Prop := (∃ t k, t ≤ 256 ∧ k < t ∧ EQ g k t ∧ (∀ t', t' < t → ∀ k', k' < t' → ¬ EQ g k' t') ∧ x = nI (t - k)) ∨ ((∀ t, t ≤ 256 → ∀ k, k < t → ¬ EQ g k t) ∧ x = -nI 15)
theorem PR.uniq {g : Nat → Nat} {x y : Int32} (h : PR g x) (h' : PR g y) : x = y := by
  rcases h with ⟨t, k, h1, h2, h3, h4, rfl⟩ | ⟨h1, rfl⟩
  · rcases h' with ⟨t', k', a1, a2, a3, a4, rfl⟩ | ⟨a1, -⟩
    · have et : t = t' := by
        rcases Nat.lt_trichotomy t t' with q | q | q
        · exact absurd h3 (a4 t q k h2)
        · exact q
        · exact absurd a3 (h4 t' q k' a2)
      subst et
      have ek : k = k' := by
        rcases Nat.lt_trichotomy k k' with q | q | q
        · exact absurd (h3.tr a3.sm) (h4 k' a2 k q)
        · exact q
        · exact absurd (a3.tr h3.sm) (h4 k h2 k' q)
      rw [ek]
    · exact absurd h3 (a1 t h1 k h2)
  · rcases h' with ⟨t', k', a1, a2, a3, a4, rfl⟩ | ⟨a1, rfl⟩
    · exact absurd a3 (h1 t' a1 k' a2)
    · rfl
/-! on the way round -/
section Round
variable {g : Nat → Nat}
theorem EQ.mul (hG : GV g) {k0 lam : Nat} (h : EQ g k0 (k0 + lam)) {a : Nat} (ha : k0 ≤ a) : ∀ q, EQ g a (a + q * lam)
  | 0 => by rw [Nat.zero_mul]; exact deq.rf _
  | q + 1 => by
    have h1 := EQ.mul hG h ha q
    have h2 := EQ.up hG h (a + q * lam - k0)
    rw [show k0 + (a + q * lam - k0) = a + q * lam by omega, show k0 + lam + (a + q * lam - k0) = a + (q + 1) * lam by rw [Nat.succ_mul]; omega] at h2
    exact h1.tr h2
/-- each state behind k0 is one of the first round -/
theorem EQ.back (hG : GV g) {k0 lam : Nat} (hl : 0 < lam) (h : EQ g k0 (k0 + lam)) {a : Nat} (ha : k0 ≤ a) : EQ g (k0 + (a - k0) % lam) a := by
  have h1 := EQ.mul hG h (show k0 ≤ k0 + (a - k0) % lam by omega) ((a - k0) / lam)
  have := Nat.div_add_mod (a - k0) lam
  rw [Nat.mul_comm] at this
  rw [show k0 + (a - k0) % lam + (a - k0) / lam * lam = a by omega] at h1
  exact h1
/-- the first time that a state comes again: k0 and t0; if K comes again behind p steps and not before, p is the way round -/
theorem round_is (hG : GV g) {k0 t0 K p : Nat} (h0 : k0 < t0) (he : EQ g k0 t0) (hfirst : ∀ t', t' < t0 → ∀ k', k' < t' → ¬ EQ g k' t') (hp : 0 < p) (hK : EQ g K (K + p)) (hmin : ∀ s, 0 < s → s < p → ¬ EQ g K (K + s)) : p = t0 - k0 := by
  have hlam : 0 < t0 - k0 := by omega
  have he' : EQ g k0 (k0 + (t0 - k0)) := by rw [show k0 + (t0 - k0) = t0 by omega]; exact he
  have ht : t0 ≤ K + p := by
    rcases Nat.lt_or_ge (K + p) t0 with q | q
    · exact absurd hK (hfirst _ q K (by omega))
    · exact q
  have hKk : k0 ≤ K := by
    rcases Nat.lt_or_ge K k0 with q | q
    · exfalso
      have h1 := EQ.back hG hlam he' (show k0 ≤ K + p by omega)
      have h2 := Nat.mod_lt (K + p - k0) hlam
      exact hfirst (k0 + (K + p - k0) % (t0 - k0)) (by omega) K (by omega) (hK.tr h1.sm)
    · exact q
  have h3 := EQ.mul hG he' hKk 1
  rw [Nat.one_mul] at h3
  rcases Nat.lt_trichotomy p (t0 - k0) with q | q | q
  · exfalso
    have b1 := EQ.back hG hlam he' hKk
    have b2 := EQ.back hG hlam he' (show k0 ≤ K + p by omega)
    have e3 := (b1.tr hK).tr b2.sm
    have m1 := Nat.mod_lt (K - k0) hlam
    have m2 := Nat.mod_lt (K + p - k0) hlam
    have hne : (K - k0) % (t0 - k0) ≠ (K + p - k0) % (t0 - k0) := fun e => by
      have d1 := Nat.div_add_mod (K - k0) (t0 - k0)
      have d2 := Nat.div_add_mod (K + p - k0) (t0 - k0)
      have hq : (K + p - k0) / (t0 - k0) = (K - k0) / (t0 - k0) ∨ (K - k0) / (t0 - k0) + 1 ≤ (K + p - k0) / (t0 - k0) := by
        have := Nat.div_le_div_right (c := t0 - k0) (show K - k0 ≤ K + p - k0 by omega)
        omega
      rcases hq with hq | hq
      · rw [hq, ← e] at d2; omega
      · have := Nat.mul_le_mul_left (t0 - k0) hq
        rw [Nat.mul_add, Nat.mul_one] at this
        omega
    rcases Nat.lt_or_ge ((K - k0) % (t0 - k0)) ((K + p - k0) % (t0 - k0)) with a | a
    · exact hfirst _ (by omega) _ (by omega) e3
    · exact hfirst (k0 + (K - k0) % (t0 - k0)) (by omega) (k0 + (K + p - k0) % (t0 - k0)) (by omega) e3.sm
  · exact q
  · exact absurd h3 (hmin (t0 - k0) hlam q)
end Round
/-! the class: by keeping all -/
section PeriodX
variable {g : Nat → Nat} {c : Int32} {k w so : Nat → Int32}
theorem X1_keep_L41 (hG : GV g) (st0 : Int64) (k12 : (Nat → Int64) → Int32 → Option (Int32 × (Nat → Int64))) {t : Nat} (ht : t ≤ 256) {sn : Nat → Int64} (hsn : ∀ i, i ≤ t → ER (tki g i) (sn i)) : ∀ j nf, j ≤ t → j < nf → (∀ i, j ≤ i → i < t → ¬ EQ g i t) → (∃ i, i < t ∧ EQ g i t ∧ J_X1_periodByKeeping_L41 k12 c st0 k w so nf sn (nI t) (sV j) = some (nI (t - i), sn)) ∨ ((∀ i, i < t → ¬ EQ g i t) ∧ J_X1_periodByKeeping_L41 k12 c st0 k w so nf sn (nI t) (sV j) = k12 sn (nI (t + 1))) := by
  intro j
  induction j with
  | zero =>
    intro nf hj hnf hno
    obtain ⟨m, rfl, -⟩ := nf_of hnf
    refine Or.inr ⟨fun i hi => hno i (Nat.zero_le _) hi, ?_⟩
    rw [J_X1_periodByKeeping_L41]
    simp (disch := omega) only [↓reduceIte, nm_x, chk_nI, chz_0, chz_1, chz_b2, chn_nI, oi_1, oi_2, oi_m1, il_0, il_1, il_2, il_3, il_4, il_5, il_6, il_7, il_8, il_9, il_10, il_11, il_12, il_13, il_14, il_15, il_16, il_32, il_35, il_40, il_41, il_42, il_43, il_44, il_45, il_46, il_48, il_57, il_58, il_59, il_60, il_99, il_104, il_115, il_116, il_119, il_126, il_133, il_255, il_256, il_512, il_931, il_1000, il_65536, bn0, bn1, bn2, bn3, bn4, bn5, bn6, bn7, bn8, bn9, bn10, bn11, bn12, bn13, bn14, bn15, nI_leI, nI_ltI, nI_eq, nI_clamp, nI_add, pk_mul, nI_lt0, ng_lt0, ng_ge0, ng_eqn, ng_neq, ng_len, ng_eq, sV_m1, sV_lt0, sV_ge0, if_true, if_false, Nat.le_refl, Nat.lt_irrefl, Nat.not_lt_zero, Nat.zero_le, not_true_eq_false, not_false_eq_true, false_and, true_and, and_true, and_false, true_or, or_true, false_or, or_false, reduceCtorEq]
  | succ j ih =>
    intro nf hj hnf hno
    obtain ⟨m, rfl, hm⟩ := nf_of hnf
    rw [J_X1_periodByKeeping_L41, sV_s (by omega), show j + 1 - 1 = j by omega]
    have heq : sn j = sn t ↔ EQ g j t := ER_eq (GV_tki hG j) (GV_tki hG t) (hsn j (by omega)) (hsn t (by omega))
    have hpred : nI j + -nI 1 = sV j := by rw [← sV_sub, Int32.sub_eq_add_neg]
    simp (disch := omega) only [↓reduceIte, nm_x, chk_nI, chz_0, chz_1, chz_b2, chn_nI, oi_1, oi_2, oi_m1, il_0, il_1, il_2, il_3, il_4, il_5, il_6, il_7, il_8, il_9, il_10, il_11, il_12, il_13, il_14, il_15, il_16, il_32, il_35, il_40, il_41, il_42, il_43, il_44, il_45, il_46, il_48, il_57, il_58, il_59, il_60, il_99, il_104, il_115, il_116, il_119, il_126, il_133, il_255, il_256, il_512, il_931, il_1000, il_65536, bn0, bn1, bn2, bn3, bn4, bn5, bn6, bn7, bn8, bn9, bn10, bn11, bn12, bn13, bn14, bn15, nI_leI, nI_ltI, nI_eq, nI_clamp, nI_add, pk_mul, nI_lt0, ng_lt0, ng_ge0, ng_eqn, ng_neq, ng_len, ng_eq, sV_m1, sV_lt0, sV_ge0, if_true, if_false, Nat.le_refl, Nat.lt_irrefl, Nat.not_lt_zero, Nat.zero_le, not_true_eq_false, not_false_eq_true, false_and, true_and, and_true, and_false, true_or, or_true, false_or, or_false, reduceCtorEq, lgc0, hpred]
    by_cases q : sn j = sn t
    · rw [if_pos q, pk_sub (by omega)]
      exact Or.inl ⟨j, by omega, heq.mp q, rfl⟩
    · rw [if_neg q]
      exact ih m (by omega) (by omega) fun i hi hit => by
        rcases Nat.lt_or_ge j i with a | a
        · exact hno i a hit
        · obtain rfl : i = j := by omega
          exact fun h => q (heq.mpr h)
theorem X1_keep_L (hG : GV g) (hS : SR g c k w so) (st0 : Int64) : ∀ d nf t (sn : Nat → Int64), t + d = 257 → 0 < t → d < nf → (∀ i, i < t → ER (tki g i) (sn i)) → (∀ t', t' < t → ∀ k', k' < t' → ¬ EQ g k' t') → ∃ x sn', J_X1_periodByKeeping_L12 c st0 k w so nf sn (nI t) = some (x, sn') ∧ PR g x := by
  intro d
  induction d with
  | zero =>
    intro nf t sn ht h0 hd hsn hno
    obtain ⟨m, rfl, -⟩ := nf_of hd
    obtain rfl : t = 257 := by omega
    refine ⟨_, sn, ?_, Or.inr ⟨fun t ht => hno t (by omega), rfl⟩⟩
    rw [J_X1_periodByKeeping_L12]
    simp (disch := omega) only [↓reduceIte, nm_x, chk_nI, chz_0, chz_1, chz_b2, chn_nI, oi_1, oi_2, oi_m1, il_0, il_1, il_2, il_3, il_4, il_5, il_6, il_7, il_8, il_9, il_10, il_11, il_12, il_13, il_14, il_15, il_16, il_32, il_35, il_40, il_41, il_42, il_43, il_44, il_45, il_46, il_48, il_57, il_58, il_59, il_60, il_99, il_104, il_115, il_116, il_119, il_126, il_133, il_255, il_256, il_512, il_931, il_1000, il_65536, bn0, bn1, bn2, bn3, bn4, bn5, bn6, bn7, bn8, bn9, bn10, bn11, bn12, bn13, bn14, bn15, nI_leI, nI_ltI, nI_eq, nI_clamp, nI_add, pk_mul, nI_lt0, ng_lt0, ng_ge0, ng_eqn, ng_neq, ng_len, ng_eq, sV_m1, sV_lt0, sV_ge0, if_true, if_false, Nat.le_refl, Nat.lt_irrefl, Nat.not_lt_zero, Nat.zero_le, not_true_eq_false, not_false_eq_true, false_and, true_and, and_true, and_false, true_or, or_true, false_or, or_false, reduceCtorEq, show 256 < 257 by omega]
  | succ d ih =>
    intro nf t sn ht h0 hd hsn hno
    obtain ⟨m, rfl, hm⟩ := nf_of hd
    obtain ⟨t, rfl⟩ : ∃ u, t = u + 1 := ⟨t - 1, by omega⟩
    obtain ⟨st', e1, h1⟩ := X2_tick (GV_tki hG t) (SR_SEq (tki_SEq g t) hS) (hsn t (by omega))
    rw [J_X1_periodByKeeping_L12]
    have hp : nI (t + 1) - nI 1 = nI t := nI_pred t
    simp (disch := omega) only [↓reduceIte, nm_x, chk_nI, chz_0, chz_1, chz_b2, chn_nI, oi_1, oi_2, oi_m1, il_0, il_1, il_2, il_3, il_4, il_5, il_6, il_7, il_8, il_9, il_10, il_11, il_12, il_13, il_14, il_15, il_16, il_32, il_35, il_40, il_41, il_42, il_43, il_44, il_45, il_46, il_48, il_57, il_58, il_59, il_60, il_99, il_104, il_115, il_116, il_119, il_126, il_133, il_255, il_256, il_512, il_931, il_1000, il_65536, bn0, bn1, bn2, bn3, bn4, bn5, bn6, bn7, bn8, bn9, bn10, bn11, bn12, bn13, bn14, bn15, nI_leI, nI_ltI, nI_eq, nI_clamp, nI_add, pk_mul, nI_lt0, ng_lt0, ng_ge0, ng_eqn, ng_neq, ng_len, ng_eq, sV_m1, sV_lt0, sV_ge0, if_true, if_false, Nat.le_refl, Nat.lt_irrefl, Nat.not_lt_zero, Nat.zero_le, not_true_eq_false, not_false_eq_true, false_and, true_and, and_true, and_false, true_or, or_true, false_or, or_false, reduceCtorEq, show ¬ 256 < t + 1 by omega, hp, e1]
    have hsn' : ∀ i, i ≤ t + 1 → ER (tki g i) (vp_updL sn (t + 1) st' i) := fun i hi => by
      unfold vp_updL
      by_cases e : i = t + 1
      · rw [if_pos e, e]; exact h1
      · rw [if_neg e]; exact hsn i (by omega)
    have hL := X1_keep_L41 (c := c) (k := k) (w := w) (so := so) hG st0 (fun z0 z1 => J_X1_periodByKeeping_L12 c st0 k w so m z0 z1) (show t + 1 ≤ 256 by omega) hsn' (t + 1) FU (Nat.le_refl _) (by unfold FU; omega) (fun i hi hi2 => by omega)
    rw [sV_s (by omega), show t + 1 - 1 = t by omega] at hL
    rcases hL with ⟨i, hi, he, e2⟩ | ⟨hn, e2⟩
    · rw [e2]
      exact ⟨_, _, rfl, Or.inl ⟨t + 1, i, by omega, hi, he, hno, rfl⟩⟩
    · rw [e2]
      refine ih m (t + 2) _ (by omega) (by omega) hm (fun i hi => hsn' i (by omega)) fun t' ht' k' hk' => ?_
      rcases Nat.lt_or_ge t' (t + 1) with a | a
      · exact hno t' a k' hk'
      · obtain rfl : t' = t + 1 := by omega
        exact hn k' hk'
theorem X1_keep (hG : GV g) (hS : SR g c k w so) {st : Int64} (hE : ER g st) (sn : Nat → Int64) : ∃ x sn', J_X1_periodByKeeping sn c st k w so = some (x, sn') ∧ PR g x := by
  unfold J_X1_periodByKeeping J_X2_state
  simp (disch := omega) only [↓reduceIte, nm_x, chk_nI, chz_0, chz_1, chz_b2, chn_nI, oi_1, oi_2, oi_m1, il_0, il_1, il_2, il_3, il_4, il_5, il_6, il_7, il_8, il_9, il_10, il_11, il_12, il_13, il_14, il_15, il_16, il_32, il_35, il_40, il_41, il_42, il_43, il_44, il_45, il_46, il_48, il_57, il_58, il_59, il_60, il_99, il_104, il_115, il_116, il_119, il_126, il_133, il_255, il_256, il_512, il_931, il_1000, il_65536, bn0, bn1, bn2, bn3, bn4, bn5, bn6, bn7, bn8, bn9, bn10, bn11, bn12, bn13, bn14, bn15, nI_leI, nI_ltI, nI_eq, nI_clamp, nI_add, pk_mul, nI_lt0, ng_lt0, ng_ge0, ng_eqn, ng_neq, ng_len, ng_eq, sV_m1, sV_lt0, sV_ge0, if_true, if_false, Nat.le_refl, Nat.lt_irrefl, Nat.not_lt_zero, Nat.zero_le, not_true_eq_false, not_false_eq_true, false_and, true_and, and_true, and_false, true_or, or_true, false_or, or_false, reduceCtorEq]
  exact X1_keep_L hG hS st 256 FU 1 _ rfl (by omega) (by unfold FU; omega) (fun i hi => by
    obtain rfl : i = 0 := by omega
    unfold vp_updL
    rw [if_pos rfl]
    exact hE) (fun t' ht' k' hk' => by omega)
/-! .. by going on -/
theorem X1_seen_L (hG : GV g) (hS : SR g c k w so) (st0 : Int64) {p : Nat} (hp0 : 0 < p) (hp : p ≤ 512) : ∀ d nf t v2 v4, t + d = 257 → 0 < t → d < nf → ER (tki g (t - 1 - p)) v2 → ER (tki g (t - 1)) v4 → (∀ t', t' < t → p ≤ t' → ¬ EQ g (t' - p) t') → ∃ b, J_X1_isSeenInTime_L11 c st0 k w so (nI p) nf v2 v4 (nI t) = some (b2 b) ∧ (b = true ↔ ∃ t', t' ≤ 256 ∧ p ≤ t' ∧ EQ g (t' - p) t') := by
  intro d
  induction d with
  | zero =>
    intro nf t v2 v4 ht h0 hd h2 h4 hno
    obtain ⟨m, rfl, -⟩ := nf_of hd
    obtain rfl : t = 257 := by omega
    refine ⟨false, ?_, ⟨fun h => (by cases h), fun ⟨t', a1, a2, a3⟩ => absurd a3 (hno t' (by omega) a2)⟩⟩
    rw [J_X1_isSeenInTime_L11]
    simp (disch := omega) only [↓reduceIte, nm_x, chk_nI, chz_0, chz_1, chz_b2, chn_nI, oi_1, oi_2, oi_m1, il_0, il_1, il_2, il_3, il_4, il_5, il_6, il_7, il_8, il_9, il_10, il_11, il_12, il_13, il_14, il_15, il_16, il_32, il_35, il_40, il_41, il_42, il_43, il_44, il_45, il_46, il_48, il_57, il_58, il_59, il_60, il_99, il_104, il_115, il_116, il_119, il_126, il_133, il_255, il_256, il_512, il_931, il_1000, il_65536, bn0, bn1, bn2, bn3, bn4, bn5, bn6, bn7, bn8, bn9, bn10, bn11, bn12, bn13, bn14, bn15, nI_leI, nI_ltI, nI_eq, nI_clamp, nI_add, pk_mul, nI_lt0, ng_lt0, ng_ge0, ng_eqn, ng_neq, ng_len, ng_eq, sV_m1, sV_lt0, sV_ge0, if_true, if_false, Nat.le_refl, Nat.lt_irrefl, Nat.not_lt_zero, Nat.zero_le, not_true_eq_false, not_false_eq_true, false_and, true_and, and_true, and_false, true_or, or_true, false_or, or_false, reduceCtorEq, show 256 < 257 by omega, b2_f]
  | succ d ih =>
    intro nf t v2 v4 ht h0 hd h2 h4 hno
    obtain ⟨m, rfl, hm⟩ := nf_of hd
    obtain ⟨t, rfl⟩ : ∃ u, t = u + 1 := ⟨t - 1, by omega⟩
    rw [show t + 1 - 1 = t by omega] at h2 h4
    obtain ⟨s4, e1, h1⟩ := X2_tick (GV_tki hG t) (SR_SEq (tki_SEq g t) hS) h4
    rw [J_X1_isSeenInTime_L11]
    unfold J_X1_isSeenInTime_b39 J_X1_isSeenInTime_b54
    simp (disch := omega) only [↓reduceIte, nm_x, chk_nI, chz_0, chz_1, chz_b2, chn_nI, oi_1, oi_2, oi_m1, il_0, il_1, il_2, il_3, il_4, il_5, il_6, il_7, il_8, il_9, il_10, il_11, il_12, il_13, il_14, il_15, il_16, il_32, il_35, il_40, il_41, il_42, il_43, il_44, il_45, il_46, il_48, il_57, il_58, il_59, il_60, il_99, il_104, il_115, il_116, il_119, il_126, il_133, il_255, il_256, il_512, il_931, il_1000, il_65536, bn0, bn1, bn2, bn3, bn4, bn5, bn6, bn7, bn8, bn9, bn10, bn11, bn12, bn13, bn14, bn15, nI_leI, nI_ltI, nI_eq, nI_clamp, nI_add, pk_mul, nI_lt0, ng_lt0, ng_ge0, ng_eqn, ng_neq, ng_len, ng_eq, sV_m1, sV_lt0, sV_ge0, if_true, if_false, Nat.le_refl, Nat.lt_irrefl, Nat.not_lt_zero, Nat.zero_le, not_true_eq_false, not_false_eq_true, false_and, true_and, and_true, and_false, true_or, or_true, false_or, or_false, reduceCtorEq, show ¬ 256 < t + 1 by omega, e1, lgc0]
    by_cases q : t + 1 ≤ p
    · rw [if_pos q]
      have h2' : ER (tki g (t + 2 - 1 - p)) v2 := by
        rw [show t + 2 - 1 - p = 0 by omega]
        rw [show t - p = 0 by omega] at h2
        exact h2
      by_cases q2 : t + 1 < p
      · rw [if_pos q2]
        exact ih m (t + 2) _ _ (by omega) (by omega) hm h2' h1 fun t' ht' hpt => hno t' (by omega) hpt
      · rw [if_neg q2]
        have hpt : p = t + 1 := by omega
        have heq : s4 = v2 ↔ EQ g (t + 1) (t + 1 - p) := ER_eq (GV_tki hG _) (GV_tki hG _) h1 (by rw [show t + 1 - p = t + 2 - 1 - p by omega]; exact h2')
        by_cases q3 : s4 = v2
        · rw [if_pos q3]
          exact ⟨true, rfl, ⟨fun _ => ⟨t + 1, by omega, by omega, (heq.mp q3).sm⟩, fun _ => rfl⟩⟩
        · rw [if_neg q3]
          exact ih m (t + 2) _ _ (by omega) (by omega) hm h2' h1 fun t' ht' hpt' => by
            rcases Nat.lt_or_ge t' (t + 1) with a | a
            · exact hno t' a hpt'
            · obtain rfl : t' = t + 1 := by omega
              exact fun h => q3 (heq.mpr h.sm)
    · rw [if_neg q]
      obtain ⟨s2, e2, h3⟩ := X2_tick (GV_tki hG (t - p)) (SR_SEq (tki_SEq g (t - p)) hS) h2
      have h2' : ER (tki g (t + 2 - 1 - p)) s2 := by
        rw [show t + 2 - 1 - p = (t - p) + 1 by omega]
        exact h3
      simp (disch := omega) only [↓reduceIte, nm_x, chk_nI, chz_0, chz_1, chz_b2, chn_nI, oi_1, oi_2, oi_m1, il_0, il_1, il_2, il_3, il_4, il_5, il_6, il_7, il_8, il_9, il_10, il_11, il_12, il_13, il_14, il_15, il_16, il_32, il_35, il_40, il_41, il_42, il_43, il_44, il_45, il_46, il_48, il_57, il_58, il_59, il_60, il_99, il_104, il_115, il_116, il_119, il_126, il_133, il_255, il_256, il_512, il_931, il_1000, il_65536, bn0, bn1, bn2, bn3, bn4, bn5, bn6, bn7, bn8, bn9, bn10, bn11, bn12, bn13, bn14, bn15, nI_leI, nI_ltI, nI_eq, nI_clamp, nI_add, pk_mul, nI_lt0, ng_lt0, ng_ge0, ng_eqn, ng_neq, ng_len, ng_eq, sV_m1, sV_lt0, sV_ge0, if_true, if_false, Nat.le_refl, Nat.lt_irrefl, Nat.not_lt_zero, Nat.zero_le, not_true_eq_false, not_false_eq_true, false_and, true_and, and_true, and_false, true_or, or_true, false_or, or_false, reduceCtorEq, e2, show ¬ t + 1 < p by omega, lgc0]
      have heq : s4 = s2 ↔ EQ g (t + 1) (t + 1 - p) := ER_eq (GV_tki hG _) (GV_tki hG _) h1 (by rw [show t + 1 - p = t + 2 - 1 - p by omega]; exact h2')
      by_cases q3 : s4 = s2
      · rw [if_pos q3]
        exact ⟨true, rfl, ⟨fun _ => ⟨t + 1, by omega, by omega, (heq.mp q3).sm⟩, fun _ => rfl⟩⟩
      · rw [if_neg q3]
        exact ih m (t + 2) _ _ (by omega) (by omega) hm h2' h1 fun t' ht' hpt' => by
          rcases Nat.lt_or_ge t' (t + 1) with a | a
          · exact hno t' a hpt'
          · obtain rfl : t' = t + 1 := by omega
            exact fun h => q3 (heq.mpr h.sm)
theorem X1_seen (hG : GV g) (hS : SR g c k w so) {st : Int64} (hE : ER g st) {p : Nat} (hp0 : 0 < p) (hp : p ≤ 512) : ∃ b, J_X1_isSeenInTime c st k w so (nI p) = some (b2 b) ∧ (b = true ↔ ∃ t', t' ≤ 256 ∧ p ≤ t' ∧ EQ g (t' - p) t') := by
  unfold J_X1_isSeenInTime J_X2_state
  simp only [bn1, il_1]
  refine X1_seen_L hG hS st hp0 hp 256 FU 1 st st rfl (by omega) (by unfold FU; omega) ?_ hE (fun t' h1 h2 => by omega)
  rw [show 1 - 1 - p = 0 by omega]
  exact hE
theorem X1_going_L (hG : GV g) (hS : SR g c k w so) {st : Int64} (hE0 : ER g st) : ∀ d nf t K room v2 v4, t + d = 512 → d < nf → K ≤ t → t < K + room → K + 1 = room → (room ≤ 256 → 256 % room = 0) → (256 < room → room = 512 ∨ 512 < room) → (256 < room → ∀ s, 0 < s → s ≤ 256 → ¬ EQ g 255 (255 + s)) → ER (tki g K) v2 → ER (tki g t) v4 → (∀ s, 0 < s → s ≤ t - K → ¬ EQ g K (K + s)) → ∃ x, J_X1_periodByGoingOn_L17 c st k w so nf v2 v4 (nI (t - K)) (nI room) (nI t) = some x ∧ PR g x := by
  intro d
  induction d with
  | zero =>
    intro nf t K room v2 v4 ht hd hK hroom hKr hdiv hbig h255 h2 h4 hno
    obtain ⟨m, rfl, -⟩ := nf_of hd
    obtain rfl : t = 512 := by omega
    refine ⟨_, ?_, Or.inr ⟨fun t' ht' k' hk' he => ?_, rfl⟩⟩
    · rw [J_X1_periodByGoingOn_L17]
      simp (disch := omega) only [↓reduceIte, nm_x, chk_nI, chz_0, chz_1, chz_b2, chn_nI, oi_1, oi_2, oi_m1, il_0, il_1, il_2, il_3, il_4, il_5, il_6, il_7, il_8, il_9, il_10, il_11, il_12, il_13, il_14, il_15, il_16, il_32, il_35, il_40, il_41, il_42, il_43, il_44, il_45, il_46, il_48, il_57, il_58, il_59, il_60, il_99, il_104, il_115, il_116, il_119, il_126, il_133, il_255, il_256, il_512, il_931, il_1000, il_65536, bn0, bn1, bn2, bn3, bn4, bn5, bn6, bn7, bn8, bn9, bn10, bn11, bn12, bn13, bn14, bn15, nI_leI, nI_ltI, nI_eq, nI_clamp, nI_add, pk_mul, nI_lt0, ng_lt0, ng_ge0, ng_eqn, ng_neq, ng_len, ng_eq, sV_m1, sV_lt0, sV_ge0, if_true, if_false, Nat.le_refl, Nat.lt_irrefl, Nat.not_lt_zero, Nat.zero_le, not_true_eq_false, not_false_eq_true, false_and, true_and, and_true, and_false, true_or, or_true, false_or, or_false, reduceCtorEq]
    · -- a state that comes again within 256 would have been met again from 255 on
      obtain ⟨t0, ⟨k0, hk0, he0⟩, hf0⟩ := pk_least (fun t => ∃ k, k < t ∧ EQ g k t) ⟨t', k', hk', he⟩
      have ht0 : t0 ≤ t' := by
        rcases Nat.lt_or_ge t' t0 with q | q
        · exact absurd ⟨k', hk', he⟩ (hf0 t' q)
        · exact q
      have he0' : EQ g k0 (k0 + (t0 - k0)) := by rw [show k0 + (t0 - k0) = t0 by omega]; exact he0
      have := EQ.mul hG he0' (show k0 ≤ 255 by omega) 1
      rw [Nat.one_mul] at this
      exact h255 (by omega) (t0 - k0) (by omega) (by omega) this
  | succ d ih =>
    intro nf t K room v2 v4 ht hd hK hroom hKr hdiv hbig h255 h2 h4 hno
    obtain ⟨m, rfl, hm⟩ := nf_of hd
    obtain ⟨s4, e1, h1⟩ := X2_tick (GV_tki hG t) (SR_SEq (tki_SEq g t) hS) h4
    have heq : s4 = v2 ↔ EQ g (t + 1) K := ER_eq (GV_tki hG _) (GV_tki hG _) h1 h2
    rw [J_X1_periodByGoingOn_L17]
    unfold J_X1_periodByGoingOn_b59 J_X1_periodByGoingOn_b79
    simp (disch := omega) only [↓reduceIte, nm_x, chk_nI, chz_0, chz_1, chz_b2, chn_nI, oi_1, oi_2, oi_m1, il_0, il_1, il_2, il_3, il_4, il_5, il_6, il_7, il_8, il_9, il_10, il_11, il_12, il_13, il_14, il_15, il_16, il_32, il_35, il_40, il_41, il_42, il_43, il_44, il_45, il_46, il_48, il_57, il_58, il_59, il_60, il_99, il_104, il_115, il_116, il_119, il_126, il_133, il_255, il_256, il_512, il_931, il_1000, il_65536, bn0, bn1, bn2, bn3, bn4, bn5, bn6, bn7, bn8, bn9, bn10, bn11, bn12, bn13, bn14, bn15, nI_leI, nI_ltI, nI_eq, nI_clamp, nI_add, pk_mul, nI_lt0, ng_lt0, ng_ge0, ng_eqn, ng_neq, ng_len, ng_eq, sV_m1, sV_lt0, sV_ge0, if_true, if_false, Nat.le_refl, Nat.lt_irrefl, Nat.not_lt_zero, Nat.zero_le, not_true_eq_false, not_false_eq_true, false_and, true_and, and_true, and_false, true_or, or_true, false_or, or_false, reduceCtorEq, show ¬ 512 ≤ t by omega, e1, lgc0]
    rw [show t - K + 1 = t + 1 - K by omega]
    by_cases q : s4 = v2
    · rw [if_pos q]
      have hKe : EQ g K (K + (t + 1 - K)) := by rw [show K + (t + 1 - K) = t + 1 by omega]; exact (heq.mp q).sm
      obtain ⟨b, e2, hb⟩ := X1_seen hG hS hE0 (p := t + 1 - K) (by omega) (by omega)
      simp only [e2, bn1, b2_0]
      obtain ⟨t0, ⟨k0, hk0, he0⟩, hf0⟩ := pk_least (fun t => ∃ k, k < t ∧ EQ g k t) ⟨K + (t + 1 - K), K, by omega, hKe⟩
      have hlam := round_is hG hk0 he0 (fun t' h k' hk' he => hf0 t' h ⟨k', hk', he⟩) (show 0 < t + 1 - K by omega) hKe (fun s hs1 hs2 => hno s hs1 (by omega))
      cases hbb : b
      · rw [if_pos rfl]
        refine ⟨_, rfl, Or.inr ⟨fun t' ht' k' hk' he => ?_, rfl⟩⟩
        have ht0 : t0 ≤ t' := by
          rcases Nat.lt_or_ge t' t0 with q | q
          · exact absurd ⟨k', hk', he⟩ (hf0 t' q)
          · exact q
        have := hb.mpr ⟨t0, by omega, by omega, by rw [hlam, show t0 - (t0 - k0) = k0 by omega]; exact he0⟩
        rw [hbb] at this
        cases this
      · rw [if_neg (by decide)]
        obtain ⟨t', a1, a2, a3⟩ := hb.mp hbb
        have ht0 : t0 ≤ t' := by
          rcases Nat.lt_or_ge t' t0 with q | q
          · exact absurd ⟨t' - (t + 1 - K), by omega, a3⟩ (hf0 t' q)
          · exact q
        exact ⟨_, rfl, Or.inl ⟨t0, k0, by omega, hk0, he0, fun t' h k' hk' he => hf0 t' h ⟨k', hk', he⟩, by rw [hlam]⟩⟩
    · rw [if_neg q]
      have hno' : ∀ s, 0 < s → s ≤ t + 1 - K → ¬ EQ g K (K + s) := fun s hs1 hs2 => by
        rcases Nat.lt_or_ge s (t + 1 - K) with a | a
        · exact hno s hs1 (by omega)
        · have : K + s = t + 1 := by omega
          rw [this]
          exact fun h => q (heq.mpr h.sm)
      by_cases q2 : t + 1 - K = room
      · rw [if_pos q2]
        have hr : room ≤ 256 := by omega
        have hr2 : 256 < room * 2 → room = 256 := fun h => by
          have := hdiv hr
          have hd1 := Nat.div_add_mod 256 room
          rw [this] at hd1
          have : 256 / room < 2 := Nat.div_lt_of_lt_mul (by omega)
          have : 0 < 256 / room := Nat.div_pos hr (by omega)
          have : 256 / room = 1 := by omega
          rw [this] at hd1
          omega
        have := ih m (t + 1) (t + 1) (room * 2) s4 s4 (by omega) hm (Nat.le_refl _) (by omega) (by omega) (fun h => by
          have hd1 := hdiv hr
          -- 256 is a power of two: room divides it and is not 256
          have hpow : room = 1 ∨ room = 2 ∨ room = 4 ∨ room = 8 ∨ room = 16 ∨ room = 32 ∨ room = 64 ∨ room = 128 ∨ room = 256 := by
            have key : ∀ r, r < 257 → 256 % r = 0 → (r = 0 ∨ r = 1 ∨ r = 2 ∨ r = 4 ∨ r = 8 ∨ r = 16 ∨ r = 32 ∨ r = 64 ∨ r = 128 ∨ r = 256) := by decide +kernel
            have := key room (by omega) hd1
            omega
          rcases hpow with e | e | e | e | e | e | e | e | e <;> subst e <;> omega) (fun h => by have := hr2 h; omega) (fun h s hs1 hs2 => by
            have := hr2 h
            rw [show 255 = K by omega]
            exact hno' s hs1 (by omega)) h1 h1 (fun s hs1 hs2 => by omega)
        rw [show t + 1 - (t + 1) = 0 by omega] at this
        exact this
      · rw [if_neg q2]
        exact ih m (t + 1) K room v2 s4 (by omega) hm (by omega) (by omega) hKr hdiv hbig h255 h2 h1 hno'
theorem X1_going (hG : GV g) (hS : SR g c k w so) {st : Int64} (hE : ER g st) : ∃ x, J_X1_periodByGoingOn c st k w so = some x ∧ PR g x := by
  unfold J_X1_periodByGoingOn J_X2_state
  simp only [bn1, il_1, il_0]
  exact X1_going_L hG hS hE 512 FU 0 0 1 st st rfl (by unfold FU; omega) (Nat.le_refl _) (by omega) (by omega) (fun _ => rfl) (fun h => by omega) (fun h => by omega) hE hE (fun s h1 h2 => by omega)
end PeriodX

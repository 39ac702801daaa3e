/-! WHO LEADS TO WHOM, by the reference: its table filled up until nothing is added -/
/-- sound and with every wire in it -/
def RG (g : Nat → Nat) (r : Nat → Int32) : Prop := ∀ l, l < 16 → (∀ k, bt (r l) k = true → Leads g l k) ∧ ∀ k, wr g l k → bt (r l) k = true
def rmu (r : Nat → Int32) : Nat := fb_sm (fun l => fb_ct (bt (r l)) 16) 16
theorem fb_ct_lt {p q : Nat → Bool} : ∀ {n : Nat}, (∀ k, k < n → p k = true → q k = true) → (∃ k, k < n ∧ q k = true ∧ p k = false) → fb_ct p n < fb_ct q n
  | 0, _, h => by obtain ⟨k, hk, _⟩ := h; exact absurd hk (Nat.not_lt_zero k)
  | n + 1, hs, h => by
    obtain ⟨k, hk, hq, hp⟩ := h
    rw [fb_ct_succ, fb_ct_succ]
    have h1 := fb_ct_sub (n := n) (fun k hk => hs k (by omega))
    by_cases e : k = n
    · subst e
      rw [hq, hp]
      simp
      omega
    · have h2 := fb_ct_lt (n := n) (fun k hk => hs k (by omega)) ⟨k, by omega, hq, hp⟩
      have h3 := hs n (by omega)
      cases a : p n <;> cases b : q n <;> simp_all <;> omega
theorem fb_sm_lt {f f' : Nat → Nat} {n : Nat} (h : ∀ k, k < n → f k ≤ f' k) {i : Nat} (hi : i < n) (hl : f i < f' i) : fb_sm f n < fb_sm f' n := by
  induction n with
  | zero => exact absurd hi (Nat.not_lt_zero i)
  | succ n ih =>
    rw [fb_sm_succ, fb_sm_succ]
    have h1 := fb_sm_le (n := n) (fun k hk => h k (by omega))
    have h2 := h n (by omega)
    by_cases e : i = n
    · subst e; omega
    · have := ih (fun k hk => h k (by omega)) (by omega); omega
theorem rmu_le (r : Nat → Int32) : rmu r ≤ 256 := by
  have := fb_sm_bound (f := fun l => fb_ct (bt (r l)) 16) (c := 16) (n := 16) (fun k _ => fb_ct_le _ _)
  exact this
section MReach
variable {g : Nat → Nat} {nw : Nat → Int32}
/-- the three wires of the lantern l told of to those they come from -/
theorem X10_reaches_L35 (hG : GV g) (hM : MR g nw) (k23 : (Nat → Int32) → Int32 → Option (Nat → Int32)) {l : Nat} (hl : l < g 0) : ∀ d nf p (r : Nat → Int32), p + d = 3 → d < nf → (∀ a, a < 16 → ∀ k, bt (r a) k = true ↔ (wr g a k ∧ (k < l ∨ (k = l ∧ ∃ q, q < p ∧ src g l q = a + 1)))) → ∃ r', J_X10_reaches_L35 k23 nw nf r (nI l) (nI p) = k23 r' (nI (l + 1)) ∧ ∀ a, a < 16 → ∀ k, bt (r' a) k = true ↔ (wr g a k ∧ k < l + 1) := by
  have hn := hG.1
  have hl16 : l < 16 := by omega
  intro d
  induction d with
  | zero =>
    intro nf p r hp hd hr
    obtain ⟨m, rfl, -⟩ := nf_of hd
    obtain rfl : p = 3 := by omega
    refine ⟨r, ?_, fun a ha k => ?_⟩
    · rw [J_X10_reaches_L35]
      simp (disch := omega) only [↓reduceIte, nm_x, chk_nI, chz_0, chz_1, chz_b2, chn_nI, oi_1, oi_2, oi_m1, il_0, il_1, il_2, il_3, il_4, il_5, il_6, il_7, il_8, il_9, il_10, il_11, il_12, il_13, il_14, il_15, il_16, il_32, il_35, il_40, il_41, il_42, il_43, il_44, il_45, il_46, il_48, il_57, il_58, il_59, il_60, il_99, il_104, il_115, il_116, il_119, il_126, il_133, il_255, il_256, il_512, il_931, il_1000, il_65536, bn0, bn1, bn2, bn3, bn4, bn5, bn6, bn7, bn8, bn9, bn10, bn11, bn12, bn13, bn14, bn15, nI_leI, nI_ltI, nI_eq, nI_clamp, nI_add, pk_mul, nI_lt0, ng_lt0, ng_ge0, ng_eqn, ng_neq, ng_len, ng_eq, sV_m1, sV_lt0, sV_ge0, if_true, if_false, Nat.le_refl, Nat.lt_irrefl, Nat.not_lt_zero, Nat.zero_le, not_true_eq_false, not_false_eq_true, false_and, true_and, and_true, and_false, true_or, or_true, false_or, or_false, reduceCtorEq]
    · rw [hr a ha k]
      constructor
      · rintro ⟨h1, h2 | ⟨h2, h3⟩⟩ <;> exact ⟨h1, by omega⟩
      · rintro ⟨h1, h2⟩
        refine ⟨h1, ?_⟩
        by_cases e : k = l
        · subst e; exact Or.inr ⟨rfl, h1.2⟩
        · exact Or.inl (by omega)
  | succ d ih =>
    intro nf p r hp hd hr
    obtain ⟨m, rfl, hm⟩ := nf_of hd
    have hs := GV_src hG hl16 (show p < 3 by omega)
    rw [J_X10_reaches_L35, X10_wired hM hl16 (by omega)]
    unfold J_X10_reaches_b66
    simp (disch := omega) only [↓reduceIte, nm_x, chk_nI, chz_0, chz_1, chz_b2, chn_nI, oi_1, oi_2, oi_m1, il_0, il_1, il_2, il_3, il_4, il_5, il_6, il_7, il_8, il_9, il_10, il_11, il_12, il_13, il_14, il_15, il_16, il_32, il_35, il_40, il_41, il_42, il_43, il_44, il_45, il_46, il_48, il_57, il_58, il_59, il_60, il_99, il_104, il_115, il_116, il_119, il_126, il_133, il_255, il_256, il_512, il_931, il_1000, il_65536, bn0, bn1, bn2, bn3, bn4, bn5, bn6, bn7, bn8, bn9, bn10, bn11, bn12, bn13, bn14, bn15, nI_leI, nI_ltI, nI_eq, nI_clamp, nI_add, pk_mul, nI_lt0, ng_lt0, ng_ge0, ng_eqn, ng_neq, ng_len, ng_eq, sV_m1, sV_lt0, sV_ge0, if_true, if_false, Nat.le_refl, Nat.lt_irrefl, Nat.not_lt_zero, Nat.zero_le, not_true_eq_false, not_false_eq_true, false_and, true_and, and_true, and_false, true_or, or_true, false_or, or_false, reduceCtorEq, show ¬ 3 ≤ p by omega]
    by_cases h : src g l p = 0
    · simp only [h, if_true]
      refine ih m (p + 1) r (by omega) (by omega) fun a ha k => ?_
      rw [hr a ha k]
      constructor
      · rintro ⟨h1, h2 | ⟨h2, q, h3, h4⟩⟩
        · exact ⟨h1, Or.inl h2⟩
        · exact ⟨h1, Or.inr ⟨h2, q, by omega, h4⟩⟩
      · rintro ⟨h1, h2 | ⟨h2, q, h3, h4⟩⟩
        · exact ⟨h1, Or.inl h2⟩
        · refine ⟨h1, Or.inr ⟨h2, q, ?_, h4⟩⟩
          rcases Nat.lt_or_ge q p with x | x
          · exact x
          · obtain rfl : q = p := by omega
            omega
    · simp only [h, if_false, sV_s h]
      simp (disch := omega) only [↓reduceIte, nm_x, chk_nI, chz_0, chz_1, chz_b2, chn_nI, oi_1, oi_2, oi_m1, il_0, il_1, il_2, il_3, il_4, il_5, il_6, il_7, il_8, il_9, il_10, il_11, il_12, il_13, il_14, il_15, il_16, il_32, il_35, il_40, il_41, il_42, il_43, il_44, il_45, il_46, il_48, il_57, il_58, il_59, il_60, il_99, il_104, il_115, il_116, il_119, il_126, il_133, il_255, il_256, il_512, il_931, il_1000, il_65536, bn0, bn1, bn2, bn3, bn4, bn5, bn6, bn7, bn8, bn9, bn10, bn11, bn12, bn13, bn14, bn15, nI_leI, nI_ltI, nI_eq, nI_clamp, nI_add, pk_mul, nI_lt0, ng_lt0, ng_ge0, ng_eqn, ng_neq, ng_len, ng_eq, sV_m1, sV_lt0, sV_ge0, if_true, if_false, Nat.le_refl, Nat.lt_irrefl, Nat.not_lt_zero, Nat.zero_le, not_true_eq_false, not_false_eq_true, false_and, true_and, and_true, and_false, true_or, or_true, false_or, or_false, reduceCtorEq]
      refine ih m (p + 1) _ (by omega) (by omega) fun a ha k => ?_
      unfold upd
      by_cases e : a = src g l p - 1
      · rw [if_pos e, b_set _ l k (by omega), Bool.or_eq_true, decide_eq_true_iff, ← e, hr a ha k]
        have hw : wr g a l := ⟨hl, p, by omega, by omega⟩
        constructor
        · rintro (⟨h1, h2 | ⟨h2, q, h3, h4⟩⟩ | h1)
          · exact ⟨h1, Or.inl h2⟩
          · exact ⟨h1, Or.inr ⟨h2, q, by omega, h4⟩⟩
          · subst h1; exact ⟨hw, Or.inr ⟨rfl, p, by omega, by omega⟩⟩
        · rintro ⟨h1, h2 | ⟨h2, q, h3, h4⟩⟩
          · exact Or.inl ⟨h1, Or.inl h2⟩
          · exact Or.inr h2
      · rw [if_neg e, hr a ha k]
        constructor
        · rintro ⟨h1, h2 | ⟨h2, q, h3, h4⟩⟩
          · exact ⟨h1, Or.inl h2⟩
          · exact ⟨h1, Or.inr ⟨h2, q, by omega, h4⟩⟩
        · rintro ⟨h1, h2 | ⟨h2, q, h3, h4⟩⟩
          · exact ⟨h1, Or.inl h2⟩
          · refine ⟨h1, Or.inr ⟨h2, q, ?_, h4⟩⟩
            rcases Nat.lt_or_ge q p with x | x
            · exact x
            · obtain rfl : q = p := by omega
              omega
/-- .. and of all lanterns: then the filling up begins -/
theorem X10_reaches_L23 (hG : GV g) (hM : MR g nw) : ∀ d nf l (r : Nat → Int32), l + d = g 0 → d < nf → (∀ a, a < 16 → ∀ k, bt (r a) k = true ↔ (wr g a k ∧ k < l)) → ∃ r', J_X10_reaches_L23 nw nf r (nI l) = J_X10_reaches_L80 nw FU r' (nI 1) ∧ RG g r' := by
  have hn := hG.1
  intro d
  induction d with
  | zero =>
    intro nf l r hl hd hr
    obtain ⟨m, rfl, -⟩ := nf_of hd
    obtain rfl : l = g 0 := by omega
    refine ⟨r, ?_, fun a ha => ⟨fun k hk => Leads.of ((hr a ha k).mp hk).1, fun k hk => (hr a ha k).mpr ⟨hk, hk.1⟩⟩⟩
    rw [J_X10_reaches_L23]
    simp (disch := omega) only [↓reduceIte, nm_x, chk_nI, chz_0, chz_1, chz_b2, chn_nI, oi_1, oi_2, oi_m1, il_0, il_1, il_2, il_3, il_4, il_5, il_6, il_7, il_8, il_9, il_10, il_11, il_12, il_13, il_14, il_15, il_16, il_32, il_35, il_40, il_41, il_42, il_43, il_44, il_45, il_46, il_48, il_57, il_58, il_59, il_60, il_99, il_104, il_115, il_116, il_119, il_126, il_133, il_255, il_256, il_512, il_931, il_1000, il_65536, bn0, bn1, bn2, bn3, bn4, bn5, bn6, bn7, bn8, bn9, bn10, bn11, bn12, bn13, bn14, bn15, nI_leI, nI_ltI, nI_eq, nI_clamp, nI_add, pk_mul, nI_lt0, ng_lt0, ng_ge0, ng_eqn, ng_neq, ng_len, ng_eq, sV_m1, sV_lt0, sV_ge0, if_true, if_false, Nat.le_refl, Nat.lt_irrefl, Nat.not_lt_zero, Nat.zero_le, not_true_eq_false, not_false_eq_true, false_and, true_and, and_true, and_false, true_or, or_true, false_or, or_false, reduceCtorEq, hM 0 (by omega)]
  | succ d ih =>
    intro nf l r hl hd hr
    obtain ⟨m, rfl, hm⟩ := nf_of hd
    rw [J_X10_reaches_L23]
    simp (disch := omega) only [↓reduceIte, nm_x, chk_nI, chz_0, chz_1, chz_b2, chn_nI, oi_1, oi_2, oi_m1, il_0, il_1, il_2, il_3, il_4, il_5, il_6, il_7, il_8, il_9, il_10, il_11, il_12, il_13, il_14, il_15, il_16, il_32, il_35, il_40, il_41, il_42, il_43, il_44, il_45, il_46, il_48, il_57, il_58, il_59, il_60, il_99, il_104, il_115, il_116, il_119, il_126, il_133, il_255, il_256, il_512, il_931, il_1000, il_65536, bn0, bn1, bn2, bn3, bn4, bn5, bn6, bn7, bn8, bn9, bn10, bn11, bn12, bn13, bn14, bn15, nI_leI, nI_ltI, nI_eq, nI_clamp, nI_add, pk_mul, nI_lt0, ng_lt0, ng_ge0, ng_eqn, ng_neq, ng_len, ng_eq, sV_m1, sV_lt0, sV_ge0, if_true, if_false, Nat.le_refl, Nat.lt_irrefl, Nat.not_lt_zero, Nat.zero_le, not_true_eq_false, not_false_eq_true, false_and, true_and, and_true, and_false, true_or, or_true, false_or, or_false, reduceCtorEq, hM 0 (by omega), show ¬ g 0 ≤ l by omega]
    obtain ⟨r1, e1, h1⟩ := X10_reaches_L35 hG hM (fun z0 z1 => J_X10_reaches_L23 nw m z0 z1) (show l < g 0 by omega) 3 FU 0 r rfl (by unfold FU; omega) (fun a ha k => by
      rw [hr a ha k]
      constructor
      · rintro ⟨h1, h2⟩; exact ⟨h1, Or.inl h2⟩
      · rintro ⟨h1, h2 | ⟨h2, q, h3, h4⟩⟩
        · exact ⟨h1, h2⟩
        · exact absurd h3 (Nat.not_lt_zero q))
    rw [e1]
    exact ih m (l + 1) r1 (by omega) hm h1
/-- one lantern's set filled up by the sets of those in it -/
theorem X10_reaches_L108 (hG : GV g) (hM : MR g nw) (k80 : (Nat → Int32) → Int32 → Option (Nat → Int32)) (k88 : (Nat → Int32) → Int32 → Int32 → Option (Nat → Int32)) {r : Nat → Int32} (hr : RG g r) {l : Nat} (hl : l < g 0) (b : Bool) : ∀ d nf j (v : Int32), j + d = g 0 → d < nf → (∀ k, bt v k = true → Leads g l k) → (∀ k, bt (r l) k = true → bt v k = true) → (∀ i, i < j → bt (r l) i = true → ∀ k, bt (r i) k = true → bt v k = true) → ∃ v' b', J_X10_reaches_L108 k80 k88 nw nf r (b2 b) (nI l) v (nI j) = k88 (upd r l v') (b2 b') (nI (l + 1)) ∧ (∀ k, bt v' k = true → Leads g l k) ∧ (∀ k, bt (r l) k = true → bt v' k = true) ∧ (∀ i, i < g 0 → bt (r l) i = true → ∀ k, bt (r i) k = true → bt v' k = true) ∧ b' = (b || !decide (v' = r l)) := by
  have hn := hG.1
  have hl16 : l < 16 := by omega
  intro d
  induction d with
  | zero =>
    intro nf j v hj hd h1 h2 h3
    obtain ⟨m, rfl, -⟩ := nf_of hd
    obtain rfl : j = g 0 := by omega
    rw [J_X10_reaches_L108]
    unfold J_X10_reaches_b166
    simp (disch := omega) only [↓reduceIte, nm_x, chk_nI, chz_0, chz_1, chz_b2, chn_nI, oi_1, oi_2, oi_m1, il_0, il_1, il_2, il_3, il_4, il_5, il_6, il_7, il_8, il_9, il_10, il_11, il_12, il_13, il_14, il_15, il_16, il_32, il_35, il_40, il_41, il_42, il_43, il_44, il_45, il_46, il_48, il_57, il_58, il_59, il_60, il_99, il_104, il_115, il_116, il_119, il_126, il_133, il_255, il_256, il_512, il_931, il_1000, il_65536, bn0, bn1, bn2, bn3, bn4, bn5, bn6, bn7, bn8, bn9, bn10, bn11, bn12, bn13, bn14, bn15, nI_leI, nI_ltI, nI_eq, nI_clamp, nI_add, pk_mul, nI_lt0, ng_lt0, ng_ge0, ng_eqn, ng_neq, ng_len, ng_eq, sV_m1, sV_lt0, sV_ge0, if_true, if_false, Nat.le_refl, Nat.lt_irrefl, Nat.not_lt_zero, Nat.zero_le, not_true_eq_false, not_false_eq_true, false_and, true_and, and_true, and_false, true_or, or_true, false_or, or_false, reduceCtorEq, hM 0 (by omega)]
    by_cases e : v = r l
    · rw [if_pos e]
      refine ⟨v, b, ?_, h1, h2, h3, by simp [e]⟩
      cases b <;> rfl
    · rw [if_neg e]
      refine ⟨v, true, ?_, h1, h2, h3, by simp [e]⟩
      cases b <;> rfl
  | succ d ih =>
    intro nf j v hj hd h1 h2 h3
    obtain ⟨m, rfl, hm⟩ := nf_of hd
    rw [J_X10_reaches_L108]
    unfold J_X10_reaches_b144
    simp (disch := omega) only [↓reduceIte, nm_x, chk_nI, chz_0, chz_1, chz_b2, chn_nI, oi_1, oi_2, oi_m1, il_0, il_1, il_2, il_3, il_4, il_5, il_6, il_7, il_8, il_9, il_10, il_11, il_12, il_13, il_14, il_15, il_16, il_32, il_35, il_40, il_41, il_42, il_43, il_44, il_45, il_46, il_48, il_57, il_58, il_59, il_60, il_99, il_104, il_115, il_116, il_119, il_126, il_133, il_255, il_256, il_512, il_931, il_1000, il_65536, bn0, bn1, bn2, bn3, bn4, bn5, bn6, bn7, bn8, bn9, bn10, bn11, bn12, bn13, bn14, bn15, nI_leI, nI_ltI, nI_eq, nI_clamp, nI_add, pk_mul, nI_lt0, ng_lt0, ng_ge0, ng_eqn, ng_neq, ng_len, ng_eq, sV_m1, sV_lt0, sV_ge0, if_true, if_false, Nat.le_refl, Nat.lt_irrefl, Nat.not_lt_zero, Nat.zero_le, not_true_eq_false, not_false_eq_true, false_and, true_and, and_true, and_false, true_or, or_true, false_or, or_false, reduceCtorEq, hM 0 (by omega), show ¬ g 0 ≤ j by omega]
    rw [bit_and _ j (by omega)]
    cases hb : bt (r l) j
    · simp (disch := omega) only [↓reduceIte, nm_x, chk_nI, chz_0, chz_1, chz_b2, chn_nI, oi_1, oi_2, oi_m1, il_0, il_1, il_2, il_3, il_4, il_5, il_6, il_7, il_8, il_9, il_10, il_11, il_12, il_13, il_14, il_15, il_16, il_32, il_35, il_40, il_41, il_42, il_43, il_44, il_45, il_46, il_48, il_57, il_58, il_59, il_60, il_99, il_104, il_115, il_116, il_119, il_126, il_133, il_255, il_256, il_512, il_931, il_1000, il_65536, bn0, bn1, bn2, bn3, bn4, bn5, bn6, bn7, bn8, bn9, bn10, bn11, bn12, bn13, bn14, bn15, nI_leI, nI_ltI, nI_eq, nI_clamp, nI_add, pk_mul, nI_lt0, ng_lt0, ng_ge0, ng_eqn, ng_neq, ng_len, ng_eq, sV_m1, sV_lt0, sV_ge0, if_true, if_false, Nat.le_refl, Nat.lt_irrefl, Nat.not_lt_zero, Nat.zero_le, not_true_eq_false, not_false_eq_true, false_and, true_and, and_true, and_false, true_or, or_true, false_or, or_false, reduceCtorEq, Bool.false_eq_true]
      refine ih m (j + 1) v (by omega) hm h1 h2 fun i hi hbi k hk => ?_
      rcases Nat.lt_or_ge i j with q | q
      · exact h3 i q hbi k hk
      · obtain rfl : i = j := by omega
        rw [hb] at hbi; cases hbi
    · simp (disch := omega) only [↓reduceIte, nm_x, chk_nI, chz_0, chz_1, chz_b2, chn_nI, oi_1, oi_2, oi_m1, il_0, il_1, il_2, il_3, il_4, il_5, il_6, il_7, il_8, il_9, il_10, il_11, il_12, il_13, il_14, il_15, il_16, il_32, il_35, il_40, il_41, il_42, il_43, il_44, il_45, il_46, il_48, il_57, il_58, il_59, il_60, il_99, il_104, il_115, il_116, il_119, il_126, il_133, il_255, il_256, il_512, il_931, il_1000, il_65536, bn0, bn1, bn2, bn3, bn4, bn5, bn6, bn7, bn8, bn9, bn10, bn11, bn12, bn13, bn14, bn15, nI_leI, nI_ltI, nI_eq, nI_clamp, nI_add, pk_mul, nI_lt0, ng_lt0, ng_ge0, ng_eqn, ng_neq, ng_len, ng_eq, sV_m1, sV_lt0, sV_ge0, if_true, if_false, Nat.le_refl, Nat.lt_irrefl, Nat.not_lt_zero, Nat.zero_le, not_true_eq_false, not_false_eq_true, false_and, true_and, and_true, and_false, true_or, or_true, false_or, or_false, reduceCtorEq]
      refine ih m (j + 1) _ (by omega) hm (fun k hk => ?_) (fun k hk => ?_) fun i hi hbi k hk => ?_
      · rw [b_or, Bool.or_eq_true] at hk
        rcases hk with hk | hk
        · exact h1 k hk
        · exact ((hr l hl16).1 j hb).tr ((hr j (by omega)).1 k hk)
      · rw [b_or, h2 k hk, Bool.true_or]
      · rw [b_or, Bool.or_eq_true]
        rcases Nat.lt_or_ge i j with q | q
        · exact Or.inl (h3 i q hbi k hk)
        · obtain rfl : i = j := by omega
          exact Or.inr hk
/-- a round: it adds something, or all is full -/
theorem X10_reaches_L88 (hG : GV g) (hM : MR g nw) (k80 : (Nat → Int32) → Int32 → Option (Nat → Int32)) (r0 : Nat → Int32) : ∀ d nf l (r : Nat → Int32) (b : Bool), l + d = g 0 → d < nf → RG g r → (b = true → rmu r0 < rmu r) → (b = false → r = r0 ∧ ∀ a, a < l → ∀ i, i < g 0 → bt (r0 a) i = true → ∀ k, bt (r0 i) k = true → bt (r0 a) k = true) → ∃ r' b', J_X10_reaches_L88 k80 nw nf r (b2 b) (nI l) = k80 r' (b2 b') ∧ RG g r' ∧ (b' = true → rmu r0 < rmu r') ∧ (b' = false → r' = r0 ∧ ∀ a, a < g 0 → ∀ i, i < g 0 → bt (r0 a) i = true → ∀ k, bt (r0 i) k = true → bt (r0 a) k = true) := by
  have hn := hG.1
  intro d
  induction d with
  | zero =>
    intro nf l r b hl hd hr ht hf
    obtain ⟨m, rfl, -⟩ := nf_of hd
    obtain rfl : l = g 0 := by omega
    refine ⟨r, b, ?_, hr, ht, hf⟩
    rw [J_X10_reaches_L88]
    simp (disch := omega) only [↓reduceIte, nm_x, chk_nI, chz_0, chz_1, chz_b2, chn_nI, oi_1, oi_2, oi_m1, il_0, il_1, il_2, il_3, il_4, il_5, il_6, il_7, il_8, il_9, il_10, il_11, il_12, il_13, il_14, il_15, il_16, il_32, il_35, il_40, il_41, il_42, il_43, il_44, il_45, il_46, il_48, il_57, il_58, il_59, il_60, il_99, il_104, il_115, il_116, il_119, il_126, il_133, il_255, il_256, il_512, il_931, il_1000, il_65536, bn0, bn1, bn2, bn3, bn4, bn5, bn6, bn7, bn8, bn9, bn10, bn11, bn12, bn13, bn14, bn15, nI_leI, nI_ltI, nI_eq, nI_clamp, nI_add, pk_mul, nI_lt0, ng_lt0, ng_ge0, ng_eqn, ng_neq, ng_len, ng_eq, sV_m1, sV_lt0, sV_ge0, if_true, if_false, Nat.le_refl, Nat.lt_irrefl, Nat.not_lt_zero, Nat.zero_le, not_true_eq_false, not_false_eq_true, false_and, true_and, and_true, and_false, true_or, or_true, false_or, or_false, reduceCtorEq, hM 0 (by omega)]
  | succ d ih =>
    intro nf l r b hl hd hr ht hf
    obtain ⟨m, rfl, hm⟩ := nf_of hd
    have hl16 : l < 16 := by omega
    rw [J_X10_reaches_L88]
    simp (disch := omega) only [↓reduceIte, nm_x, chk_nI, chz_0, chz_1, chz_b2, chn_nI, oi_1, oi_2, oi_m1, il_0, il_1, il_2, il_3, il_4, il_5, il_6, il_7, il_8, il_9, il_10, il_11, il_12, il_13, il_14, il_15, il_16, il_32, il_35, il_40, il_41, il_42, il_43, il_44, il_45, il_46, il_48, il_57, il_58, il_59, il_60, il_99, il_104, il_115, il_116, il_119, il_126, il_133, il_255, il_256, il_512, il_931, il_1000, il_65536, bn0, bn1, bn2, bn3, bn4, bn5, bn6, bn7, bn8, bn9, bn10, bn11, bn12, bn13, bn14, bn15, nI_leI, nI_ltI, nI_eq, nI_clamp, nI_add, pk_mul, nI_lt0, ng_lt0, ng_ge0, ng_eqn, ng_neq, ng_len, ng_eq, sV_m1, sV_lt0, sV_ge0, if_true, if_false, Nat.le_refl, Nat.lt_irrefl, Nat.not_lt_zero, Nat.zero_le, not_true_eq_false, not_false_eq_true, false_and, true_and, and_true, and_false, true_or, or_true, false_or, or_false, reduceCtorEq, hM 0 (by omega), show ¬ g 0 ≤ l by omega]
    obtain ⟨v', b', e1, h1, h2, h3, h4⟩ := X10_reaches_L108 hG hM k80 (fun z0 z1 z2 => J_X10_reaches_L88 k80 nw m z0 z1 z2) hr (show l < g 0 by omega) b (g 0) FU 0 (r l) (by omega) (by unfold FU; omega) (hr l hl16).1 (fun k hk => hk) (fun i hi => absurd hi (Nat.not_lt_zero i))
    rw [e1]
    have hr' : RG g (upd r l v') := fun a ha => by
      unfold upd
      by_cases e : a = l
      · subst e
        rw [if_pos rfl]
        exact ⟨h1, fun k hk => h2 k ((hr a ha).2 k hk)⟩
      · rw [if_neg e]; exact hr a ha
    have hle : ∀ a, a < 16 → fb_ct (bt (r a)) 16 ≤ fb_ct (bt (upd r l v' a)) 16 := fun a ha => by
      refine fb_ct_sub fun k hk hb => ?_
      unfold upd
      by_cases e : a = l
      · subst e; rw [if_pos rfl]; exact h2 k hb
      · rw [if_neg e]; exact hb
    have hmu : rmu r ≤ rmu (upd r l v') := fb_sm_le hle
    by_cases e : v' = r l
    · have hb' : b' = b := by rw [h4, e]; simp
      have hu : upd r l v' = r := by
        funext a
        unfold upd
        by_cases q : a = l
        · rw [if_pos q, e, q]
        · rw [if_neg q]
      rw [hb', hu]
      refine ih m (l + 1) r b (by omega) hm hr ht fun hb => ?_
      obtain ⟨a1, a2⟩ := hf hb
      refine ⟨a1, fun a ha i hi hbi k hk => ?_⟩
      rcases Nat.lt_or_ge a l with q | q
      · exact a2 a q i hi hbi k hk
      · obtain rfl : a = l := by omega
        rw [← a1] at hbi hk ⊢
        rw [← e]
        exact h3 i hi hbi k hk
    · have hb' : b' = true := by rw [h4]; simp [e]
      rw [hb']
      refine ih m (l + 1) _ true (by omega) hm hr' (fun _ => ?_) (fun h => by cases h)
      have hx : ∃ k, k < 16 ∧ bt v' k = true ∧ bt (r l) k = false := by
        refine Classical.byContradiction fun hn2 => e (b_ext fun k _ => ?_)
        cases a1 : bt (r l) k <;> cases a2 : bt v' k
        · rfl
        · exact absurd ⟨k, by have := (h1 k a2).lt; omega, a2, a1⟩ hn2
        · rw [h2 k a1] at a2; cases a2
        · rfl
      have hlt : rmu r < rmu (upd r l v') := by
        refine fb_sm_lt hle hl16 ?_
        have : upd r l v' l = v' := by unfold upd; rw [if_pos rfl]
        show fb_ct (bt (r l)) 16 < fb_ct (bt (upd r l v' l)) 16
        rw [this]
        exact fb_ct_lt (fun k _ hk => h2 k hk) hx
      have h0 : rmu r0 ≤ rmu r := by
        cases b
        · rw [(hf rfl).1]; exact Nat.le_refl _
        · exact Nat.le_of_lt (ht rfl)
      omega
/-- all rounds -/
theorem X10_reaches_L80 (hG : GV g) (hM : MR g nw) : ∀ d nf (r : Nat → Int32), 257 ≤ rmu r + d → d < nf → RG g r → ∃ r', J_X10_reaches_L80 nw nf r (nI 1) = some r' ∧ ∀ a, a < 16 → MS (r' a) (Leads g a) := by
  intro d
  induction d with
  | zero =>
    intro nf r hd _ _
    have := rmu_le r
    omega
  | succ d ih =>
    intro nf r hd hm hr
    obtain ⟨m, rfl, hm⟩ := nf_of hm
    rw [J_X10_reaches_L80]
    simp (disch := omega) only [↓reduceIte, nm_x, chk_nI, chz_0, chz_1, chz_b2, chn_nI, oi_1, oi_2, oi_m1, il_0, il_1, il_2, il_3, il_4, il_5, il_6, il_7, il_8, il_9, il_10, il_11, il_12, il_13, il_14, il_15, il_16, il_32, il_35, il_40, il_41, il_42, il_43, il_44, il_45, il_46, il_48, il_57, il_58, il_59, il_60, il_99, il_104, il_115, il_116, il_119, il_126, il_133, il_255, il_256, il_512, il_931, il_1000, il_65536, bn0, bn1, bn2, bn3, bn4, bn5, bn6, bn7, bn8, bn9, bn10, bn11, bn12, bn13, bn14, bn15, nI_leI, nI_ltI, nI_eq, nI_clamp, nI_add, pk_mul, nI_lt0, ng_lt0, ng_ge0, ng_eqn, ng_neq, ng_len, ng_eq, sV_m1, sV_lt0, sV_ge0, if_true, if_false, Nat.le_refl, Nat.lt_irrefl, Nat.not_lt_zero, Nat.zero_le, not_true_eq_false, not_false_eq_true, false_and, true_and, and_true, and_false, true_or, or_true, false_or, or_false, reduceCtorEq]
    obtain ⟨r', b', e1, h1, h2, h3⟩ := X10_reaches_L88 hG hM (fun z0 z1 => J_X10_reaches_L80 nw m z0 z1) r (g 0) FU 0 r false (by omega) (by have := hG.1; unfold FU; omega) hr (fun h => by cases h) (fun _ => ⟨rfl, fun a ha => absurd ha (Nat.not_lt_zero a)⟩)
    rw [b2_f] at e1
    rw [e1]
    cases hb : b'
    · obtain ⟨a1, a2⟩ := h3 hb
      obtain ⟨m', rfl⟩ : ∃ m', m = m' + 1 := ⟨m - 1, by omega⟩
      refine ⟨r', ?_, fun a ha k => ⟨fun h => (h1 a ha).1 k h, fun h => ?_⟩⟩
      · rw [b2_f]
        simp only [J_X10_reaches_L80, il_0, if_true]
      · obtain ⟨f, hf⟩ := h
        rw [a1] at h1 ⊢
        have hag : a < g 0 := Ld_lt' hG hf
        induction f generalizing k with
        | zero => exact (h1 a ha).2 k hf
        | succ f ihf =>
          rcases hf with hf | ⟨i, hf, hw⟩
          · exact ihf k hf
          · exact a2 a hag i (wr_lt' hG hw) (ihf i hf) k ((h1 i (by have := hG.1; have := wr_lt' hG hw; omega)).2 k hw)
    · have := h2 hb
      rw [b2_t]
      exact ih m r' (by omega) (by omega) h1
theorem X10_reaches_L2 (hG : GV g) (hM : MR g nw) : ∀ d nf l (r : Nat → Int32), l + d = 16 → d < nf → (∀ a, a < l → r a = nI 0) → ∃ r', J_X10_reaches_L2 nw nf r (nI l) = some r' ∧ ∀ a, a < 16 → MS (r' a) (Leads g a) := by
  intro d
  induction d with
  | zero =>
    intro nf l r hl hd hr
    obtain ⟨m, rfl, -⟩ := nf_of hd
    obtain rfl : l = 16 := by omega
    rw [J_X10_reaches_L2]
    simp (disch := omega) only [↓reduceIte, nm_x, chk_nI, chz_0, chz_1, chz_b2, chn_nI, oi_1, oi_2, oi_m1, il_0, il_1, il_2, il_3, il_4, il_5, il_6, il_7, il_8, il_9, il_10, il_11, il_12, il_13, il_14, il_15, il_16, il_32, il_35, il_40, il_41, il_42, il_43, il_44, il_45, il_46, il_48, il_57, il_58, il_59, il_60, il_99, il_104, il_115, il_116, il_119, il_126, il_133, il_255, il_256, il_512, il_931, il_1000, il_65536, bn0, bn1, bn2, bn3, bn4, bn5, bn6, bn7, bn8, bn9, bn10, bn11, bn12, bn13, bn14, bn15, nI_leI, nI_ltI, nI_eq, nI_clamp, nI_add, pk_mul, nI_lt0, ng_lt0, ng_ge0, ng_eqn, ng_neq, ng_len, ng_eq, sV_m1, sV_lt0, sV_ge0, if_true, if_false, Nat.le_refl, Nat.lt_irrefl, Nat.not_lt_zero, Nat.zero_le, not_true_eq_false, not_false_eq_true, false_and, true_and, and_true, and_false, true_or, or_true, false_or, or_false, reduceCtorEq]
    obtain ⟨r', e1, h1⟩ := X10_reaches_L23 hG hM (g 0) FU 0 r (by omega) (by have := hG.1; unfold FU; omega) (fun a ha k => by rw [hr a ha, b_n0]; simp)
    rw [e1]
    exact X10_reaches_L80 hG hM 257 FU r' (by omega) (by unfold FU; omega) h1
  | succ d ih =>
    intro nf l r hl hd hr
    obtain ⟨m, rfl, hm⟩ := nf_of hd
    rw [J_X10_reaches_L2]
    simp (disch := omega) only [↓reduceIte, nm_x, chk_nI, chz_0, chz_1, chz_b2, chn_nI, oi_1, oi_2, oi_m1, il_0, il_1, il_2, il_3, il_4, il_5, il_6, il_7, il_8, il_9, il_10, il_11, il_12, il_13, il_14, il_15, il_16, il_32, il_35, il_40, il_41, il_42, il_43, il_44, il_45, il_46, il_48, il_57, il_58, il_59, il_60, il_99, il_104, il_115, il_116, il_119, il_126, il_133, il_255, il_256, il_512, il_931, il_1000, il_65536, bn0, bn1, bn2, bn3, bn4, bn5, bn6, bn7, bn8, bn9, bn10, bn11, bn12, bn13, bn14, bn15, nI_leI, nI_ltI, nI_eq, nI_clamp, nI_add, pk_mul, nI_lt0, ng_lt0, ng_ge0, ng_eqn, ng_neq, ng_len, ng_eq, sV_m1, sV_lt0, sV_ge0, if_true, if_false, Nat.le_refl, Nat.lt_irrefl, Nat.not_lt_zero, Nat.zero_le, not_true_eq_false, not_false_eq_true, false_and, true_and, and_true, and_false, true_or, or_true, false_or, or_false, reduceCtorEq, show ¬ 16 ≤ l by omega]
    refine ih m (l + 1) _ (by omega) hm fun a ha => ?_
    unfold upd
    by_cases e : a = l
    · rw [if_pos e]
    · rw [if_neg e]; exact hr a (by omega)
theorem X10_reaches (hG : GV g) (hM : MR g nw) (r : Nat → Int32) : ∃ r', J_X10_reaches nw r = some r' ∧ ∀ a, a < 16 → MS (r' a) (Leads g a) := by
  unfold J_X10_reaches
  simp only [il_0]
  exact X10_reaches_L2 hG hM 16 FU 0 r rfl (by unfold FU; omega) (fun a ha => absurd ha (Nat.not_lt_zero a))
theorem X10_loopSet_L (hG : GV g) (hM : MR g nw) {r : Nat → Int32} (hr : ∀ a, a < 16 → MS (r a) (Leads g a)) : ∀ d nf j v, j + d = g 0 → d < nf → MS v (fun i => i < j ∧ Leads g i i) → ∃ x, J_X10_loopSet_L8 nw nf r v (nI j) = some (x, r) ∧ MS x (fun i => Leads g i i) := by
  have hn := hG.1
  intro d
  induction d with
  | zero =>
    intro nf j v hj hd hv
    obtain ⟨m, rfl, -⟩ := nf_of hd
    obtain rfl : j = g 0 := by omega
    refine ⟨v, ?_, hv.iff fun i => ⟨fun h => h.2, fun h => ⟨h.lt, h⟩⟩⟩
    rw [J_X10_loopSet_L8]
    simp (disch := omega) only [↓reduceIte, nm_x, chk_nI, chz_0, chz_1, chz_b2, chn_nI, oi_1, oi_2, oi_m1, il_0, il_1, il_2, il_3, il_4, il_5, il_6, il_7, il_8, il_9, il_10, il_11, il_12, il_13, il_14, il_15, il_16, il_32, il_35, il_40, il_41, il_42, il_43, il_44, il_45, il_46, il_48, il_57, il_58, il_59, il_60, il_99, il_104, il_115, il_116, il_119, il_126, il_133, il_255, il_256, il_512, il_931, il_1000, il_65536, bn0, bn1, bn2, bn3, bn4, bn5, bn6, bn7, bn8, bn9, bn10, bn11, bn12, bn13, bn14, bn15, nI_leI, nI_ltI, nI_eq, nI_clamp, nI_add, pk_mul, nI_lt0, ng_lt0, ng_ge0, ng_eqn, ng_neq, ng_len, ng_eq, sV_m1, sV_lt0, sV_ge0, if_true, if_false, Nat.le_refl, Nat.lt_irrefl, Nat.not_lt_zero, Nat.zero_le, not_true_eq_false, not_false_eq_true, false_and, true_and, and_true, and_false, true_or, or_true, false_or, or_false, reduceCtorEq, hM 0 (by omega)]
  | succ d ih =>
    intro nf j v hj hd hv
    obtain ⟨m, rfl, hm⟩ := nf_of hd
    have hj16 : j < 16 := by omega
    rw [J_X10_loopSet_L8]
    unfold J_X10_loopSet_b38
    simp (disch := omega) only [↓reduceIte, nm_x, chk_nI, chz_0, chz_1, chz_b2, chn_nI, oi_1, oi_2, oi_m1, il_0, il_1, il_2, il_3, il_4, il_5, il_6, il_7, il_8, il_9, il_10, il_11, il_12, il_13, il_14, il_15, il_16, il_32, il_35, il_40, il_41, il_42, il_43, il_44, il_45, il_46, il_48, il_57, il_58, il_59, il_60, il_99, il_104, il_115, il_116, il_119, il_126, il_133, il_255, il_256, il_512, il_931, il_1000, il_65536, bn0, bn1, bn2, bn3, bn4, bn5, bn6, bn7, bn8, bn9, bn10, bn11, bn12, bn13, bn14, bn15, nI_leI, nI_ltI, nI_eq, nI_clamp, nI_add, pk_mul, nI_lt0, ng_lt0, ng_ge0, ng_eqn, ng_neq, ng_len, ng_eq, sV_m1, sV_lt0, sV_ge0, if_true, if_false, Nat.le_refl, Nat.lt_irrefl, Nat.not_lt_zero, Nat.zero_le, not_true_eq_false, not_false_eq_true, false_and, true_and, and_true, and_false, true_or, or_true, false_or, or_false, reduceCtorEq, hM 0 (by omega), show ¬ g 0 ≤ j by omega]
    rw [bit_and _ j (by omega)]
    cases hb : bt (r j) j
    · simp (disch := omega) only [↓reduceIte, nm_x, chk_nI, chz_0, chz_1, chz_b2, chn_nI, oi_1, oi_2, oi_m1, il_0, il_1, il_2, il_3, il_4, il_5, il_6, il_7, il_8, il_9, il_10, il_11, il_12, il_13, il_14, il_15, il_16, il_32, il_35, il_40, il_41, il_42, il_43, il_44, il_45, il_46, il_48, il_57, il_58, il_59, il_60, il_99, il_104, il_115, il_116, il_119, il_126, il_133, il_255, il_256, il_512, il_931, il_1000, il_65536, bn0, bn1, bn2, bn3, bn4, bn5, bn6, bn7, bn8, bn9, bn10, bn11, bn12, bn13, bn14, bn15, nI_leI, nI_ltI, nI_eq, nI_clamp, nI_add, pk_mul, nI_lt0, ng_lt0, ng_ge0, ng_eqn, ng_neq, ng_len, ng_eq, sV_m1, sV_lt0, sV_ge0, if_true, if_false, Nat.le_refl, Nat.lt_irrefl, Nat.not_lt_zero, Nat.zero_le, not_true_eq_false, not_false_eq_true, false_and, true_and, and_true, and_false, true_or, or_true, false_or, or_false, reduceCtorEq, Bool.false_eq_true]
      refine ih m (j + 1) _ (by omega) hm fun i => ?_
      rw [hv i]
      constructor
      · rintro ⟨h1, h2⟩; exact ⟨by omega, h2⟩
      · rintro ⟨h1, h2⟩
        refine ⟨?_, h2⟩
        rcases Nat.lt_or_ge i j with a | a
        · exact a
        · obtain rfl : i = j := by omega
          rw [(hr i hj16 i).mpr h2] at hb
          cases hb
    · simp (disch := omega) only [↓reduceIte, nm_x, chk_nI, chz_0, chz_1, chz_b2, chn_nI, oi_1, oi_2, oi_m1, il_0, il_1, il_2, il_3, il_4, il_5, il_6, il_7, il_8, il_9, il_10, il_11, il_12, il_13, il_14, il_15, il_16, il_32, il_35, il_40, il_41, il_42, il_43, il_44, il_45, il_46, il_48, il_57, il_58, il_59, il_60, il_99, il_104, il_115, il_116, il_119, il_126, il_133, il_255, il_256, il_512, il_931, il_1000, il_65536, bn0, bn1, bn2, bn3, bn4, bn5, bn6, bn7, bn8, bn9, bn10, bn11, bn12, bn13, bn14, bn15, nI_leI, nI_ltI, nI_eq, nI_clamp, nI_add, pk_mul, nI_lt0, ng_lt0, ng_ge0, ng_eqn, ng_neq, ng_len, ng_eq, sV_m1, sV_lt0, sV_ge0, if_true, if_false, Nat.le_refl, Nat.lt_irrefl, Nat.not_lt_zero, Nat.zero_le, not_true_eq_false, not_false_eq_true, false_and, true_and, and_true, and_false, true_or, or_true, false_or, or_false, reduceCtorEq]
      refine ih m (j + 1) _ (by omega) hm fun i => ?_
      rw [(hv.set (show j < 32 by omega)) i]
      constructor
      · rintro (⟨h1, h2⟩ | rfl)
        · exact ⟨by omega, h2⟩
        · exact ⟨by omega, (hr i hj16 i).mp hb⟩
      · rintro ⟨h1, h2⟩
        by_cases e : i = j
        · exact Or.inr e
        · exact Or.inl ⟨by omega, h2⟩
theorem X10_loopSet (hG : GV g) (hM : MR g nw) (r : Nat → Int32) : ∃ x r', J_X10_loopSet nw r = some (x, r') ∧ MS x (fun i => Leads g i i) ∧ ∀ a, a < 16 → MS (r' a) (Leads g a) := by
  unfold J_X10_loopSet
  obtain ⟨r', e1, h1⟩ := X10_reaches hG hM r
  rw [e1]
  simp only [bn1, il_0]
  obtain ⟨x, e2, h2⟩ := X10_loopSet_L hG hM h1 (g 0) FU 0 (nI 0) (by omega) (by have := hG.1; unfold FU; omega) (MS.none.iff fun i => ⟨fun h => h.elim, fun h => absurd h.1 (Nat.not_lt_zero i)⟩)
  exact ⟨x, r', e2, h2, h1⟩
end MReach

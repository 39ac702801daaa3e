/-! TEXTS: right or not, and where reading ends -/
/-- what was read, and how far reading got -/
def POK (n a b : Nat) (v : Nat × Nat × Nat × Nat) : Prop := a + 1 ≤ b ∧ b ≤ n ∧ v.1 ≤ 4 ∧ v.2.1 ≤ 99 ∧ v.2.2.1 ≤ 9 ∧ (v.1 = 3 → v.2.2.1 ≤ 1) ∧ v.2.2.2 ≤ 99
theorem pkw_v {n : Nat} {tg : Nat → Nat} {a b : Nat} {v : Nat × Nat} (ha : a ≤ n) (h : pkw n tg a = (b, some v)) : a ≤ b ∧ b ≤ n ∧ v.1 ≤ 99 ∧ v.2 ≤ 9 := by
  unfold pkw at h
  rcases h1 : rdg n tg a with ⟨b1, _ | x⟩
  · rw [h1, pb_n] at h; cases h
  · obtain ⟨p1, p2, p3, -⟩ := rdg_v h1
    rw [h1, pb_s] at h
    have e2 := rwo_le (n := n) (tg := tg) [42] b1 (by omega)
    rcases h2 : rwo n tg [42] b1 with ⟨b2', _ | y⟩ <;> rw [h2] at h e2
    · rw [pb_n] at h; cases h
    · rw [pb_s] at h
      rcases h3 : rdg n tg b2' with ⟨b3, _ | z⟩
      · rw [h3, pb_n] at h; cases h
      · obtain ⟨q1, q2, q3, -⟩ := rdg_v h3
        rw [h3, pb_s] at h
        cases h
        exact ⟨by omega, by omega, by show x ≤ 99; omega, q3⟩
theorem plp_v {n : Nat} {tg : Nat → Nat} {a b : Nat} {v : Nat × Nat} (h : plp n tg a = (b, some v)) : a ≤ b ∧ b ≤ n ∧ v.1 ≤ 99 ∧ v.2 ≤ 9 := by
  unfold plp at h
  rcases h1 : rnm n tg a with ⟨b1, _ | x⟩
  · rw [h1, pb_n] at h; cases h
  · obtain ⟨p1, p2, p3⟩ := rnm_v h1
    rw [h1, pb_s] at h
    have e2 := rwo_le (tg := tg) [46] b1 p2
    rcases h2 : rwo n tg [46] b1 with ⟨b2', _ | y⟩ <;> rw [h2] at h e2
    · rw [pb_n] at h; cases h
    · rw [pb_s] at h
      rcases h3 : rdg n tg b2' with ⟨b3, _ | z⟩
      · rw [h3, pb_n] at h; cases h
      · obtain ⟨q1, q2, q3, -⟩ := rdg_v h3
        rw [h3, pb_s] at h
        cases h
        exact ⟨by omega, by omega, p3, q3⟩
theorem pfr_v {n : Nat} {tg : Nat → Nat} {a b v : Nat} (ha : a ≤ n) (h : pfr n tg a = (b, some v)) : a ≤ b ∧ b ≤ n ∧ v ≤ 99 := by
  unfold pfr at h
  have e1 := rwo_le (tg := tg) [60] a ha
  rcases h1 : rwo n tg [60] a with ⟨b1, _ | x⟩ <;> rw [h1] at h e1
  · rw [pb_n] at h; cases h
  · rw [pb_s] at h
    obtain ⟨p1, p2, p3⟩ := rnm_v h
    exact ⟨by omega, p2, p3⟩
theorem plg_v {n : Nat} {tg : Nat → Nat} {a b : Nat} {v : Nat × Nat} (h : plg n tg a = (b, some v)) : a ≤ b ∧ b ≤ n ∧ v.1 ≤ 99 ∧ v.2 ≤ 1 := by
  unfold plg at h
  rcases h1 : rnm n tg a with ⟨b1, _ | x⟩
  · rw [h1, pb_n] at h; cases h
  · obtain ⟨p1, p2, p3⟩ := rnm_v h1
    rw [h1, pb_s] at h
    have e2 := rsg_le (tg := tg) p2
    rcases h3 : rsg n tg b1 with ⟨b3, _ | z⟩ <;> rw [h3] at h e2
    · rw [pb_n] at h; cases h
    · rw [pb_s] at h
      cases h
      have hz : z ≤ 1 := by
        unfold rsg at h3
        split at h3
        · cases h3; omega
        · split at h3
          · cases h3; omega
          · cases h3
      exact ⟨by omega, e2.2, p3, hz⟩
theorem rwo_v {n : Nat} {tg : Nat → Nat} {ws : List Nat} {a b : Nat} {u : Unit} (ha : a ≤ n) (h : rwo n tg ws a = (b, some u)) : a ≤ b ∧ b ≤ n := by
  have e := rwo_le (tg := tg) ws a ha
  rw [h] at e
  exact e
theorem PO_v {n : Nat} {tg : Nat → Nat} {a b : Nat} {v : Nat × Nat × Nat × Nat} (h : PO n tg a = (b, some v)) : POK n a b v := by
  unfold PO at h
  by_cases hn : a < n
  · rw [if_neg (by omega)] at h
    by_cases h104 : tg a = 104
    · rw [if_pos h104] at h
      rcases h1 : rwo n tg [97, 110, 103, 32] (a + 1) with ⟨b1, _ | x⟩
      · rw [h1, pb_n] at h; cases h
      · rw [h1, pb_s] at h
        obtain ⟨p1, p2⟩ := rwo_v (by omega) h1
        rcases h2 : pkw n tg b1 with ⟨b2', _ | y⟩
        · rw [h2, pb_n] at h; cases h
        · rw [h2, pb_s] at h
          obtain ⟨q1, q2, q3, q4⟩ := pkw_v p2 h2
          cases h
          exact ⟨by omega, q2, Nat.zero_le _, q3, q4, (fun hh => by cases hh), Nat.zero_le _⟩
    · rw [if_neg h104] at h
      by_cases h119 : tg a = 119
      · rw [if_pos h119] at h
        rcases h1 : rwo n tg [105, 114, 101, 32] (a + 1) with ⟨b1, _ | x⟩
        · rw [h1, pb_n] at h; cases h
        · rw [h1, pb_s] at h
          obtain ⟨p1, p2⟩ := rwo_v (by omega) h1
          rcases h2 : plp n tg b1 with ⟨b2', _ | y⟩
          · rw [h2, pb_n] at h; cases h
          · rw [h2, pb_s] at h
            obtain ⟨q1, q2, q3, q4⟩ := plp_v h2
            rcases h3 : pfr n tg b2' with ⟨b3, _ | z⟩
            · rw [h3, pb_n] at h; cases h
            · rw [h3, pb_s] at h
              obtain ⟨r1, r2, r3⟩ := pfr_v q2 h3
              cases h
              exact ⟨by omega, r2, (by show 1 ≤ 4; omega), q3, q4, (fun hh => by cases hh), r3⟩
      · rw [if_neg h119] at h
        by_cases h99 : tg a = 99
        · rw [if_pos h99] at h
          rcases h1 : rwo n tg [117, 116, 32] (a + 1) with ⟨b1, _ | x⟩
          · rw [h1, pb_n] at h; cases h
          · rw [h1, pb_s] at h
            obtain ⟨p1, p2⟩ := rwo_v (by omega) h1
            rcases h2 : plp n tg b1 with ⟨b2', _ | y⟩
            · rw [h2, pb_n] at h; cases h
            · rw [h2, pb_s] at h
              obtain ⟨q1, q2, q3, q4⟩ := plp_v h2
              cases h
              exact ⟨by omega, q2, (by show 2 ≤ 4; omega), q3, q4, (fun hh => by cases hh), Nat.zero_le _⟩
        · rw [if_neg h99] at h
          by_cases h115 : tg a = 115
          · rw [if_pos h115] at h
            rcases h1 : rwo n tg [101, 116, 32] (a + 1) with ⟨b1, _ | x⟩
            · rw [h1, pb_n] at h; cases h
            · rw [h1, pb_s] at h
              obtain ⟨p1, p2⟩ := rwo_v (by omega) h1
              rcases h2 : plg n tg b1 with ⟨b2', _ | y⟩
              · rw [h2, pb_n] at h; cases h
              · rw [h2, pb_s] at h
                obtain ⟨q1, q2, q3, q4⟩ := plg_v h2
                cases h
                exact ⟨by omega, q2, (by show 3 ≤ 4; omega), q3, (by show y.2 ≤ 9; omega), fun _ => q4, Nat.zero_le _⟩
          · rw [if_neg h115] at h
            by_cases h116 : tg a = 116
            · rw [if_pos h116] at h
              rcases h1 : rwo n tg [105, 99, 107, 32] (a + 1) with ⟨b1, _ | x⟩
              · rw [h1, pb_n] at h; cases h
              · rw [h1, pb_s] at h
                obtain ⟨p1, p2⟩ := rwo_v (by omega) h1
                rcases h2 : rnm n tg b1 with ⟨b2', _ | y⟩
                · rw [h2, pb_n] at h; cases h
                · rw [h2, pb_s] at h
                  obtain ⟨q1, q2, q3⟩ := rnm_v h2
                  cases h
                  exact ⟨by omega, q2, Nat.le_refl _, q3, Nat.zero_le _, (fun hh => by cases hh), Nat.zero_le _⟩
            · rw [if_neg h116] at h; cases h
  · rw [if_pos hn] at h; cases h
theorem PO_le {n : Nat} {tg : Nat → Nat} {a : Nat} (ha : a ≤ n) : (PO n tg a).1 ≤ n := by
  unfold PO
  by_cases hn : a < n
  · rw [if_neg (by omega)]
    have W : ∀ (ws : List Nat) (f : Nat → Unit → Nat × Option (Nat × Nat × Nat × Nat)), (∀ b u, b ≤ n → (f b u).1 ≤ n) → (pb (rwo n tg ws (a + 1)) f).1 ≤ n := fun ws f hf => by
      have e := rwo_le (n := n) (tg := tg) ws (a + 1) (by omega)
      rcases h1 : rwo n tg ws (a + 1) with ⟨b1, _ | x⟩ <;> rw [h1] at e
      · exact e.2
      · exact hf b1 x e.2
    have V : ∀ {α : Type} (r : Nat × Option α) (f : Nat → α → Nat × Option (Nat × Nat × Nat × Nat)), r.1 ≤ n → (∀ b u, b ≤ n → (f b u).1 ≤ n) → (pb r f).1 ≤ n := fun r f hr hf => by
      obtain ⟨b1, _ | x⟩ := r
      · exact hr
      · exact hf b1 x hr
    split
    · exact W _ _ fun b _ hb => V _ _ (pkw_le hb) fun c _ hc => hc
    · split
      · exact W _ _ fun b _ hb => V _ _ (plp_le hb) fun c _ hc => V _ _ (pfr_le hc) fun d _ hd => hd
      · split
        · exact W _ _ fun b _ hb => V _ _ (plp_le hb) fun c _ hc => hc
        · split
          · exact W _ _ fun b _ hb => V _ _ (plg_le hb) fun c _ hc => hc
          · split
            · exact W _ _ fun b _ hb => V _ _ (rnm_le hb).2 fun c _ hc => hc
            · exact ha
  · rw [if_pos hn]; exact ha
/-- reading from an order's first sign on, to the text's end: where it ends, and whether the text is right -/
def RF (n : Nat) (tg : Nat → Nat) : Nat → Nat → Nat × Bool
  | 0, a => (a, false)
  | d + 1, a => match (PO n tg a).2 with
    | none => ((PO n tg a).1, false)
    | some _ => if (PO n tg a).1 = n then ((PO n tg a).1, true) else if tg (PO n tg a).1 = 59 then RF n tg d ((PO n tg a).1 + 1) else ((PO n tg a).1, false)
theorem RF_le {n : Nat} {tg : Nat → Nat} : ∀ d a, a ≤ n → (RF n tg d a).1 ≤ n := by
  intro d
  induction d with
  | zero => intro a ha; exact ha
  | succ d ih =>
    intro a ha
    have h := PO_le (tg := tg) ha
    rw [RF]
    split
    · exact h
    · split
      · exact h
      · split
        · exact ih _ (by omega)
        · exact h
section Right
variable {n : Nat} {tg : Nat → Nat} {sg tx : Nat → Int32}
theorem X8_isRight_L (hT : TG n tg sg) : ∀ d nf a v1 (w0 f0 s0 t0 m0 : Int32), n - a < d → d < nf → 2 * v1 ≤ a → a ≤ n → ∃ w f s t m, J_X8_isRight_L6 (nI n) sg nf (nI a) w0 f0 s0 t0 m0 (nI v1) = some (b2 (RF n tg d a).2, nI (RF n tg d a).1, w, f, s, t, m) := by
  have h60 := hT.1
  intro d
  induction d with
  | zero => intro nf a v1 w0 f0 s0 t0 m0 hd; omega
  | succ d ih =>
    intro nf a v1 w0 f0 s0 t0 m0 hd hnf hv ha
    obtain ⟨m, rfl, hm⟩ := nf_of hnf
    rw [J_X8_isRight_L6, RF]
    obtain ⟨w, f, s, t, mm, e1, -⟩ := X8_readOrder hT ha w0 f0 s0 t0 m0
    rw [e1]
    have hle := PO_le (tg := tg) ha
    rcases hp : PO n tg a with ⟨b, _ | v⟩ <;> rw [hp] at hle
    · simp (disch := omega) only [↓reduceIte, nm_x, chk_nI, chz_0, chz_1, chz_b2, chn_nI, oi_1, oi_2, oi_m1, il_0, il_1, il_2, il_3, il_4, il_5, il_6, il_7, il_8, il_9, il_10, il_11, il_12, il_13, il_14, il_15, il_16, il_32, il_35, il_40, il_41, il_42, il_43, il_44, il_45, il_46, il_48, il_57, il_58, il_59, il_60, il_99, il_104, il_115, il_116, il_119, il_126, il_133, il_255, il_256, il_512, il_931, il_1000, il_65536, bn0, bn1, bn2, bn3, bn4, bn5, bn6, bn7, bn8, bn9, bn10, bn11, bn12, bn13, bn14, bn15, nI_leI, nI_ltI, nI_eq, nI_clamp, nI_add, pk_mul, nI_lt0, ng_lt0, ng_ge0, ng_eqn, ng_neq, ng_len, ng_eq, sV_m1, sV_lt0, sV_ge0, if_true, if_false, Nat.le_refl, Nat.lt_irrefl, Nat.not_lt_zero, Nat.zero_le, not_true_eq_false, not_false_eq_true, false_and, true_and, and_true, and_false, true_or, or_true, false_or, or_false, reduceCtorEq, show ¬ 60 ≤ v1 by omega, oN, b2_f]
      exact ⟨_, _, _, _, _, rfl⟩
    · obtain ⟨p1, p2, -⟩ := PO_v hp
      replace hle : b ≤ n := hle
      simp (disch := omega) only [↓reduceIte, nm_x, chk_nI, chz_0, chz_1, chz_b2, chn_nI, oi_1, oi_2, oi_m1, il_0, il_1, il_2, il_3, il_4, il_5, il_6, il_7, il_8, il_9, il_10, il_11, il_12, il_13, il_14, il_15, il_16, il_32, il_35, il_40, il_41, il_42, il_43, il_44, il_45, il_46, il_48, il_57, il_58, il_59, il_60, il_99, il_104, il_115, il_116, il_119, il_126, il_133, il_255, il_256, il_512, il_931, il_1000, il_65536, bn0, bn1, bn2, bn3, bn4, bn5, bn6, bn7, bn8, bn9, bn10, bn11, bn12, bn13, bn14, bn15, nI_leI, nI_ltI, nI_eq, nI_clamp, nI_add, pk_mul, nI_lt0, ng_lt0, ng_ge0, ng_eqn, ng_neq, ng_len, ng_eq, sV_m1, sV_lt0, sV_ge0, if_true, if_false, Nat.le_refl, Nat.lt_irrefl, Nat.not_lt_zero, Nat.zero_le, not_true_eq_false, not_false_eq_true, false_and, true_and, and_true, and_false, true_or, or_true, false_or, or_false, reduceCtorEq, show ¬ 60 ≤ v1 by omega, oS, b2_t]
      by_cases hb : b = n
      · rw [if_pos hb, if_pos hb]
        exact ⟨_, _, _, _, _, rfl⟩
      · rw [if_neg hb, if_neg hb, X8_isRead hT hle (by omega)]
        by_cases h59 : tg b = 59
        · rw [if_pos ⟨by omega, h59⟩, if_pos h59]
          simp (disch := omega) only [↓reduceIte, nm_x, chk_nI, chz_0, chz_1, chz_b2, chn_nI, oi_1, oi_2, oi_m1, il_0, il_1, il_2, il_3, il_4, il_5, il_6, il_7, il_8, il_9, il_10, il_11, il_12, il_13, il_14, il_15, il_16, il_32, il_35, il_40, il_41, il_42, il_43, il_44, il_45, il_46, il_48, il_57, il_58, il_59, il_60, il_99, il_104, il_115, il_116, il_119, il_126, il_133, il_255, il_256, il_512, il_931, il_1000, il_65536, bn0, bn1, bn2, bn3, bn4, bn5, bn6, bn7, bn8, bn9, bn10, bn11, bn12, bn13, bn14, bn15, nI_leI, nI_ltI, nI_eq, nI_clamp, nI_add, pk_mul, nI_lt0, ng_lt0, ng_ge0, ng_eqn, ng_neq, ng_len, ng_eq, sV_m1, sV_lt0, sV_ge0, if_true, if_false, Nat.le_refl, Nat.lt_irrefl, Nat.not_lt_zero, Nat.zero_le, not_true_eq_false, not_false_eq_true, false_and, true_and, and_true, and_false, true_or, or_true, false_or, or_false, reduceCtorEq]
          exact ih m (b + 1) (v1 + 1) w f s t mm (by omega) hm (by omega) (by omega)
        · rw [if_neg (fun x => h59 x.2), if_neg h59]
          simp (disch := omega) only [↓reduceIte, nm_x, chk_nI, chz_0, chz_1, chz_b2, chn_nI, oi_1, oi_2, oi_m1, il_0, il_1, il_2, il_3, il_4, il_5, il_6, il_7, il_8, il_9, il_10, il_11, il_12, il_13, il_14, il_15, il_16, il_32, il_35, il_40, il_41, il_42, il_43, il_44, il_45, il_46, il_48, il_57, il_58, il_59, il_60, il_99, il_104, il_115, il_116, il_119, il_126, il_133, il_255, il_256, il_512, il_931, il_1000, il_65536, bn0, bn1, bn2, bn3, bn4, bn5, bn6, bn7, bn8, bn9, bn10, bn11, bn12, bn13, bn14, bn15, nI_leI, nI_ltI, nI_eq, nI_clamp, nI_add, pk_mul, nI_lt0, ng_lt0, ng_ge0, ng_eqn, ng_neq, ng_len, ng_eq, sV_m1, sV_lt0, sV_ge0, if_true, if_false, Nat.le_refl, Nat.lt_irrefl, Nat.not_lt_zero, Nat.zero_le, not_true_eq_false, not_false_eq_true, false_and, true_and, and_true, and_false, true_or, or_true, false_or, or_false, reduceCtorEq]
          exact ⟨_, _, _, _, _, rfl⟩
theorem X8_isRight (hT : TG n tg sg) (a0 w0 f0 s0 t0 m0 : Int32) : ∃ w f s t m, J_X8_isRight (nI n) a0 w0 f0 s0 t0 m0 sg = some (b2 (RF n tg 61 0).2, nI (RF n tg 61 0).1, w, f, s, t, m) := by
  have h60 := hT.1
  unfold J_X8_isRight J_X8_toStart
  rw [bn1]
  exact X8_isRight_L hT 61 FU 0 0 w0 f0 s0 t0 m0 (by omega) (by unfold FU; omega) (Nat.zero_le _) (Nat.zero_le _)
theorem X10_first_L (hT : TG n tg tx) (u wh an : Int32) (nw tr kp fi sp wy mo : Nat → Int32) : ∀ d nf a (o0 : Int32) (td : Nat → Int32), n - a < d → d < nf → a ≤ n → ∃ o td', J_X10_run_L14 tx (nf + 1) u (nI n) (nI (PO n tg a).1) o0 wh an nw tr kp fi sp td wy mo (b2 (PO n tg a).2.isSome) = J_X10_run_b55 tx u (nI n) (nI (RF n tg d a).1) o wh an nw tr kp fi sp td' wy mo (b2 (RF n tg d a).2) := by
  have h60 := hT.1
  intro d
  induction d with
  | zero => intro nf a o0 td hd; omega
  | succ d ih =>
    intro nf a o0 td hd hnf ha
    obtain ⟨m, rfl, hm⟩ := nf_of hnf
    have hle := PO_le (tg := tg) ha
    rw [J_X10_run_L14, RF]
    unfold J_X10_run_b50 J_X10_run_b51
    rcases hp : PO n tg a with ⟨b, _ | v⟩ <;> rw [hp] at hle
    · simp (disch := omega) only [↓reduceIte, nm_x, chk_nI, chz_0, chz_1, chz_b2, chn_nI, oi_1, oi_2, oi_m1, il_0, il_1, il_2, il_3, il_4, il_5, il_6, il_7, il_8, il_9, il_10, il_11, il_12, il_13, il_14, il_15, il_16, il_32, il_35, il_40, il_41, il_42, il_43, il_44, il_45, il_46, il_48, il_57, il_58, il_59, il_60, il_99, il_104, il_115, il_116, il_119, il_126, il_133, il_255, il_256, il_512, il_931, il_1000, il_65536, bn0, bn1, bn2, bn3, bn4, bn5, bn6, bn7, bn8, bn9, bn10, bn11, bn12, bn13, bn14, bn15, nI_leI, nI_ltI, nI_eq, nI_clamp, nI_add, pk_mul, nI_lt0, ng_lt0, ng_ge0, ng_eqn, ng_neq, ng_len, ng_eq, sV_m1, sV_lt0, sV_ge0, if_true, if_false, Nat.le_refl, Nat.lt_irrefl, Nat.not_lt_zero, Nat.zero_le, not_true_eq_false, not_false_eq_true, false_and, true_and, and_true, and_false, true_or, or_true, false_or, or_false, reduceCtorEq, oN, b2_f]
      exact ⟨_, _, rfl⟩
    · obtain ⟨p1, p2, -⟩ := PO_v hp
      replace hle : b ≤ n := hle
      rw [show (some v).isSome = true from rfl, b2_t, if_neg (show ¬ nI 1 = (0 : Int32) by decide +kernel)]
      show ∃ o td', (if nI n ≤ nI b then _ else _) = J_X10_run_b55 tx u (nI n) (nI (if b = n then (b, true) else if tg b = 59 then RF n tg d (b + 1) else (b, false)).1) o wh an nw tr kp fi sp td' wy mo (b2 (if b = n then (b, true) else if tg b = 59 then RF n tg d (b + 1) else (b, false)).2)
      by_cases hb : b = n
      · rw [if_pos hb, if_pos (by rw [nI_leI (by omega) (by omega)]; omega), b2_t]
        exact ⟨_, _, rfl⟩
      · rw [if_neg hb, if_neg (by rw [nI_leI (by omega) (by omega)]; omega), show ([59] : List Int32) = [59].map nI from rfl, X10_word hT (by decide) (by decide) hle]
        by_cases h59 : tg b = 59
        · rw [if_pos h59, show rwo n tg [59] b = (b + 1, some ()) by rw [rwo, if_pos ⟨by omega, h59⟩, rwo]]
          rw [oS, b2_t, bn2, if_neg (show ¬ nI 1 = (0 : Int32) by decide +kernel)]
          obtain ⟨o, td1, e1, -⟩ := X10_isOrder hT (show b + 1 ≤ n by omega) o0 td
          rw [e1, bn4]
          obtain ⟨o', td', e2⟩ := ih m (b + 1) o td1 (by omega) (by omega) (by omega)
          refine ⟨o', td', ?_⟩
          rw [← e2]
          rcases hq : (PO n tg (b + 1)).2 with _ | v'
          · rw [oN, b2_f, if_pos (show nI 0 = (0 : Int32) from rfl)]
            rfl
          · rw [oS, b2_t, if_neg (show ¬ nI 1 = (0 : Int32) by decide +kernel)]
            rfl
        · rw [if_neg h59, show rwo n tg [59] b = (b, none) by rw [rwo, if_neg (fun x => h59 x.2)]]
          rw [oN, b2_f, bn2, if_pos (show nI 0 = (0 : Int32) from rfl)]
          refine ⟨o0, td, ?_⟩
          show J_X10_run_L14 tx (m + 1) u (nI n) (nI b) o0 wh an nw tr kp fi sp td wy mo 0 = _
          rw [J_X10_run_L14, if_pos rfl]
          rfl
end Right

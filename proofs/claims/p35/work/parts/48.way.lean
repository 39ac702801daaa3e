/-! THE FEWEST WIRES of a way -/
/-- from a to b in at most f wires -/
def Wy (g : Nat → Nat) : Nat → Nat → Nat → Prop
  | 0, a, b => a = b
  | f + 1, a, b => Wy g f a b ∨ ∃ m, Wy g f a m ∧ wr g m b
theorem Wy_up {g : Nat → Nat} {f a b : Nat} (h : Wy g f a b) : ∀ d, Wy g (f + d) a b
  | 0 => h
  | d + 1 => Or.inl (Wy_up h d)
theorem Wy_mono {g : Nat → Nat} {f f' a b : Nat} (h : Wy g f a b) (hf : f ≤ f') : Wy g f' a b := by
  have := Wy_up h (f' - f)
  rwa [show f + (f' - f) = f' by omega] at this
theorem Wy_lt {g : Nat → Nat} {a b : Nat} (ha : a < g 0) : ∀ {f}, Wy g f a b → b < g 0
  | 0, h => by cases h; exact ha
  | f + 1, h => h.elim (fun h => Wy_lt ha h) fun ⟨_, _, h⟩ => wr_lt h
theorem Wy_self {g : Nat → Nat} (f a : Nat) : Wy g f a a := Wy_mono (f := 0) rfl (Nat.zero_le _)
/-- 15 wires are enough for 16 lanterns -/
theorem Wy_sat {g : Nat → Nat} (hG : GV g) {a b f : Nat} (ha : a < g 0) (h : Wy g f a b) : Wy g 15 a b := by
  have hn := hG.1
  have hb := Wy_lt ha h
  by_cases e : b = a
  · subst e; exact Wy_self _ _
  · -- the others, numbered from 0
    have hix : ∀ i, (if i < a then i else i + 1) ≠ a := fun i => by split <;> omega
    have key := sat (N := 15) (fun f i => Wy g f a (if i < a then i else i + 1)) (fun f i h => Or.inl h) (fun f hs i hi h => by
      rcases h with h | ⟨m, h, h2⟩
      · exact h
      · refine Or.inr ⟨m, ?_, h2⟩
        have hm := Wy_lt ha h
        by_cases q : m = a
        · subst q; exact Wy_self _ _
        · have := hs (if m < a then m else m - 1) (by split <;> omega)
          have e2 : (if (if m < a then m else m - 1) < a then (if m < a then m else m - 1) else (if m < a then m else m - 1) + 1) = m := by
            by_cases q2 : m < a
            · simp [q2]
            · rw [if_neg q2, if_neg (by omega)]; omega
          rw [e2] at this
          exact this h) f (if b < a then b else b - 1) (by split <;> omega)
    have e2 : (if (if b < a then b else b - 1) < a then (if b < a then b else b - 1) else (if b < a then b else b - 1) + 1) = b := by
      by_cases q2 : b < a
      · simp [q2]
      · rw [if_neg q2, if_neg (by omega)]; omega
    rw [e2] at key
    exact key h
section FewX
variable {g : Nat → Nat} {c : Int32} {k w so : Nat → Int32}
/-- the fewest wires, by the class: either a way of r wires at least, or none -/
theorem X5_fewest_L (hG : GV g) (hS : SR g c k w so) {a b : Nat} (ha : a < g 0) (hb : b < g 0) (v1 : Int32) : ∀ d nf r v, r + d = 16 → d < nf → MS v (Wy g r a) → (∀ f, f < r → ¬ Wy g f a b) → (∃ f, f < 16 ∧ Wy g f a b ∧ (∀ f', f' < f → ¬ Wy g f' a b) ∧ J_X5_fewestWires_L7 c so v1 (nI b) nf v (nI r) = some (nI f)) ∨ ((∀ f, ¬ Wy g f a b) ∧ J_X5_fewestWires_L7 c so v1 (nI b) nf v (nI r) = some (-nI 15)) := by
  have hn := hG.1
  intro d
  induction d with
  | zero =>
    intro nf r v hr hd hv hno
    obtain ⟨m, rfl, -⟩ := nf_of hd
    obtain rfl : r = 16 := by omega
    refine Or.inr ⟨fun f hf => hno 15 (by omega) (Wy_sat hG ha hf), ?_⟩
    rw [J_X5_fewestWires_L7]
    simp (disch := omega) only [↓reduceIte, nm_x, chk_nI, chz_0, chz_1, chz_b2, chn_nI, oi_1, oi_2, oi_m1, il_0, il_1, il_2, il_3, il_4, il_5, il_6, il_7, il_8, il_9, il_10, il_11, il_12, il_13, il_14, il_15, il_16, il_32, il_35, il_40, il_41, il_42, il_43, il_44, il_45, il_46, il_48, il_57, il_58, il_59, il_60, il_99, il_104, il_115, il_116, il_119, il_126, il_133, il_255, il_256, il_512, il_931, il_1000, il_65536, bn0, bn1, bn2, bn3, bn4, bn5, bn6, bn7, bn8, bn9, bn10, bn11, bn12, bn13, bn14, bn15, nI_leI, nI_ltI, nI_eq, nI_clamp, nI_add, pk_mul, nI_lt0, ng_lt0, ng_ge0, ng_eqn, ng_neq, ng_len, ng_eq, sV_m1, sV_lt0, sV_ge0, if_true, if_false, Nat.le_refl, Nat.lt_irrefl, Nat.not_lt_zero, Nat.zero_le, not_true_eq_false, not_false_eq_true, false_and, true_and, and_true, and_false, true_or, or_true, false_or, or_false, reduceCtorEq]
  | succ d ih =>
    intro nf r v hr hd hv hno
    obtain ⟨m, rfl, hm⟩ := nf_of hd
    rw [J_X5_fewestWires_L7, X9_isIn v (show b < 32 by omega)]
    simp (disch := omega) only [↓reduceIte, nm_x, chk_nI, chz_0, chz_1, chz_b2, chn_nI, oi_1, oi_2, oi_m1, il_0, il_1, il_2, il_3, il_4, il_5, il_6, il_7, il_8, il_9, il_10, il_11, il_12, il_13, il_14, il_15, il_16, il_32, il_35, il_40, il_41, il_42, il_43, il_44, il_45, il_46, il_48, il_57, il_58, il_59, il_60, il_99, il_104, il_115, il_116, il_119, il_126, il_133, il_255, il_256, il_512, il_931, il_1000, il_65536, bn0, bn1, bn2, bn3, bn4, bn5, bn6, bn7, bn8, bn9, bn10, bn11, bn12, bn13, bn14, bn15, nI_leI, nI_ltI, nI_eq, nI_clamp, nI_add, pk_mul, nI_lt0, ng_lt0, ng_ge0, ng_eqn, ng_neq, ng_len, ng_eq, sV_m1, sV_lt0, sV_ge0, if_true, if_false, Nat.le_refl, Nat.lt_irrefl, Nat.not_lt_zero, Nat.zero_le, not_true_eq_false, not_false_eq_true, false_and, true_and, and_true, and_false, true_or, or_true, false_or, or_false, reduceCtorEq, show ¬ 16 ≤ r by omega, b2_0]
    cases hbt : bt v b
    · rw [if_pos rfl]
      obtain ⟨x, ex, hx⟩ := X5_wiredFrom hG hS hv
      simp only [ex, bn1]
      have hnb : ¬ Wy g r a b := fun h => by rw [(hv b).mpr h] at hbt; cases hbt
      exact ih m (r + 1) _ (by omega) hm (hv.or hx) fun f hf h => by
        rcases Nat.lt_or_ge f r with q | q
        · exact hno f q h
        · obtain rfl : f = r := by omega
          exact hnb h
    · rw [if_neg (by decide)]
      exact Or.inl ⟨r, by omega, (hv b).mp hbt, hno, rfl⟩
theorem X5_fewest (hG : GV g) (hS : SR g c k w so) {a b : Nat} (ha : a < g 0) (hb : b < g 0) : (∃ f, f < 16 ∧ Wy g f a b ∧ (∀ f', f' < f → ¬ Wy g f' a b) ∧ J_X5_fewestWires c so (nI a) (nI b) = some (nI f)) ∨ ((∀ f, ¬ Wy g f a b) ∧ J_X5_fewestWires c so (nI a) (nI b) = some (-nI 15)) := by
  have hn := hG.1
  unfold J_X5_fewestWires
  simp only [nm_x, il_1, il_0]
  exact X5_fewest_L hG hS ha hb (nI a) 16 FU 0 _ rfl (by unfold FU; omega) ((MS.one (show a < 32 by omega)).iff fun i => ⟨fun h => h.symm, fun h => h.symm⟩) (fun f hf => absurd hf (Nat.not_lt_zero f))
end FewX
section WayM
variable {g : Nat → Nat} {nw : Nat → Int32}
/-- the steps behind n rounds -/
def WS (g : Nat → Nat) (a n l : Nat) (x : Int32) : Prop := (∃ d, d ≤ n ∧ x = nI d ∧ Wy g d a l ∧ ∀ f, f < d → ¬ Wy g f a l) ∨ (x = -nI 1 ∧ ¬ Wy g n a l)
theorem X10_way_L55 (hG : GV g) (hM : MR g nw) (k32 : (Nat → Int32) → Int32 → Option (Int32 × (Nat → Int32))) (k41 : (Nat → Int32) → Int32 → Int32 → Option (Int32 × (Nat → Int32))) {a : Nat} (ha : a < g 0) (v1 v2 : Int32) {n : Nat} (hn16 : n < 16) {l : Nat} (hl : l < g 0) : ∀ d nf p (s : Nat → Int32), p + d = 3 → d < nf → (∀ m, m < 16 → m ≠ l → WS g a n m (s m) ∨ WS g a (n + 1) m (s m)) → (WS g a (n + 1) l (s l) ∧ ¬ s l < nI 0) ∨ (s l = -nI 1 ∧ ¬ Wy g n a l ∧ ∀ q, q < p → src g l q ≠ 0 → ¬ Wy g n a (src g l q - 1)) → ∃ s', J_X10_way_L55 k32 k41 nw v1 v2 nf s (nI (n + 1)) (nI l) (nI p) = k41 s' (nI (n + 1)) (nI (l + 1)) ∧ (∀ m, m ≠ l → s' m = s m) ∧ WS g a (n + 1) l (s' l) := by
  have hn := hG.1
  have hl16 : l < 16 := by omega
  intro d
  induction d with
  | zero =>
    intro nf p s hp hd hs hc
    obtain ⟨m, rfl, -⟩ := nf_of hd
    obtain rfl : p = 3 := by omega
    refine ⟨s, ?_, fun _ _ => rfl, ?_⟩
    · rw [J_X10_way_L55]
      unfold J_X10_way_b115
      simp (disch := omega) only [↓reduceIte, nm_x, chk_nI, chz_0, chz_1, chz_b2, chn_nI, oi_1, oi_2, oi_m1, il_0, il_1, il_2, il_3, il_4, il_5, il_6, il_7, il_8, il_9, il_10, il_11, il_12, il_13, il_14, il_15, il_16, il_32, il_35, il_40, il_41, il_42, il_43, il_44, il_45, il_46, il_48, il_57, il_58, il_59, il_60, il_99, il_104, il_115, il_116, il_119, il_126, il_133, il_255, il_256, il_512, il_931, il_1000, il_65536, bn0, bn1, bn2, bn3, bn4, bn5, bn6, bn7, bn8, bn9, bn10, bn11, bn12, bn13, bn14, bn15, nI_leI, nI_ltI, nI_eq, nI_clamp, nI_add, pk_mul, nI_lt0, ng_lt0, ng_ge0, ng_eqn, ng_neq, ng_len, ng_eq, sV_m1, sV_lt0, sV_ge0, if_true, if_false, Nat.le_refl, Nat.lt_irrefl, Nat.not_lt_zero, Nat.zero_le, not_true_eq_false, not_false_eq_true, false_and, true_and, and_true, and_false, true_or, or_true, false_or, or_false, reduceCtorEq]
    · rcases hc with hc | ⟨h1, h2, h3⟩
      · exact hc.1
      · refine Or.inr ⟨h1, fun h => ?_⟩
        rcases h with h | ⟨m, h, h4, q, hq, e⟩
        · exact h2 h
        · refine h3 q hq (by omega) ?_
          rw [show src g l q - 1 = m by omega]
          exact h
  | succ d ih =>
    intro nf p s hp hd hs hc
    obtain ⟨m, rfl, hm⟩ := nf_of hd
    have hsr := GV_src hG hl16 (show p < 3 by omega)
    rw [J_X10_way_L55, X10_wired hM hl16 (by omega)]
    unfold J_X10_way_b115 J_X10_way_b109
    simp (disch := omega) only [↓reduceIte, nm_x, chk_nI, chz_0, chz_1, chz_b2, chn_nI, oi_1, oi_2, oi_m1, il_0, il_1, il_2, il_3, il_4, il_5, il_6, il_7, il_8, il_9, il_10, il_11, il_12, il_13, il_14, il_15, il_16, il_32, il_35, il_40, il_41, il_42, il_43, il_44, il_45, il_46, il_48, il_57, il_58, il_59, il_60, il_99, il_104, il_115, il_116, il_119, il_126, il_133, il_255, il_256, il_512, il_931, il_1000, il_65536, bn0, bn1, bn2, bn3, bn4, bn5, bn6, bn7, bn8, bn9, bn10, bn11, bn12, bn13, bn14, bn15, nI_leI, nI_ltI, nI_eq, nI_clamp, nI_add, pk_mul, nI_lt0, ng_lt0, ng_ge0, ng_eqn, ng_neq, ng_len, ng_eq, sV_m1, sV_lt0, sV_ge0, if_true, if_false, Nat.le_refl, Nat.lt_irrefl, Nat.not_lt_zero, Nat.zero_le, not_true_eq_false, not_false_eq_true, false_and, true_and, and_true, and_false, true_or, or_true, false_or, or_false, reduceCtorEq, show ¬ 3 ≤ p by omega]
    rcases hc with hc | ⟨h1, h2, h3⟩
    · rw [if_pos (fa_of_nlt hc.2)]
      exact ⟨s, rfl, fun _ _ => rfl, hc.1⟩
    · rw [if_neg (by rw [h1, ng_ge0 (by omega) (by omega)]; exact fun h => h)]
      by_cases h : src g l p = 0
      · rw [if_pos h]
        exact ih m (p + 1) s (by omega) (by omega) hs (Or.inr ⟨h1, h2, fun q hq hq0 => by
          rcases Nat.lt_or_ge q p with x | x
          · exact h3 q x hq0
          · obtain rfl : q = p := by omega
            exact absurd h hq0⟩)
      · rw [if_neg h, sV_s h]
        have hsub : nI (n + 1) - nI 1 = nI n := nI_pred n
        simp (disch := omega) only [↓reduceIte, nm_x, chk_nI, chz_0, chz_1, chz_b2, chn_nI, oi_1, oi_2, oi_m1, il_0, il_1, il_2, il_3, il_4, il_5, il_6, il_7, il_8, il_9, il_10, il_11, il_12, il_13, il_14, il_15, il_16, il_32, il_35, il_40, il_41, il_42, il_43, il_44, il_45, il_46, il_48, il_57, il_58, il_59, il_60, il_99, il_104, il_115, il_116, il_119, il_126, il_133, il_255, il_256, il_512, il_931, il_1000, il_65536, bn0, bn1, bn2, bn3, bn4, bn5, bn6, bn7, bn8, bn9, bn10, bn11, bn12, bn13, bn14, bn15, nI_leI, nI_ltI, nI_eq, nI_clamp, nI_add, pk_mul, nI_lt0, ng_lt0, ng_ge0, ng_eqn, ng_neq, ng_len, ng_eq, sV_m1, sV_lt0, sV_ge0, if_true, if_false, Nat.le_refl, Nat.lt_irrefl, Nat.not_lt_zero, Nat.zero_le, not_true_eq_false, not_false_eq_true, false_and, true_and, and_true, and_false, true_or, or_true, false_or, or_false, reduceCtorEq, hsub]
        have hwl : wr g (src g l p - 1) l := ⟨hl, p, by omega, by omega⟩
        -- the step of the source, as it stands now
        have hsrc : s (src g l p - 1) = nI n ↔ Wy g n a (src g l p - 1) := by
          have hsl : src g l p - 1 = l ∨ src g l p - 1 ≠ l := Decidable.em _
          rcases hsl with q | q
          · rw [q, h1]
            exact ⟨fun e => absurd e (by rw [ng_eqn (by omega) (by omega) (by omega)]; exact fun h => h), fun e => absurd e h2⟩
          · have notlow : s (src g l p - 1) = nI n ∨ s (src g l p - 1) ≠ nI n := Decidable.em _
            constructor
            · intro e
              rcases hs _ (by omega) q with (⟨d', hd1, hd2, hd3, -⟩ | ⟨hd1, -⟩) | (⟨d', hd1, hd2, hd3, -⟩ | ⟨hd1, -⟩)
              · rw [e, nI_eq (by omega) (by omega)] at hd2; subst hd2; exact hd3
              · rw [e, ng_neq (by omega) (by omega) (by omega)] at hd1; exact hd1.elim
              · rw [e, nI_eq (by omega) (by omega)] at hd2; subst hd2; exact hd3
              · rw [e, ng_neq (by omega) (by omega) (by omega)] at hd1; exact hd1.elim
            · intro e
              -- not in less than n: else l in n
              have hmin : ∀ f, f < n → ¬ Wy g f a (src g l p - 1) := fun f hf hw => h2 (Wy_mono (f := f + 1) (Or.inr ⟨_, hw, hwl⟩) hf)
              rcases hs _ (by omega) q with (⟨d', hd1, hd2, hd3, hd4⟩ | ⟨hd1, hd2⟩) | (⟨d', hd1, hd2, hd3, hd4⟩ | ⟨hd1, hd2⟩)
              · have : d' = n := by
                  rcases Nat.lt_trichotomy d' n with x | x | x
                  · exact absurd hd3 (hmin d' x)
                  · exact x
                  · exact absurd e (hd4 n x)
                rw [hd2, this]
              · exact absurd e hd2
              · have : d' = n := by
                  rcases Nat.lt_trichotomy d' n with x | x | x
                  · exact absurd hd3 (hmin d' x)
                  · exact x
                  · exact absurd e (hd4 n x)
                rw [hd2, this]
              · exact absurd (Wy_up e 1) hd2
        by_cases q : s (src g l p - 1) = nI n
        · rw [if_pos q]
          have hnew : WS g a (n + 1) l (nI (n + 1)) := Or.inl ⟨n + 1, by omega, rfl, Or.inr ⟨_, hsrc.mp q, hwl⟩, fun f hf hw => h2 (Wy_mono hw (by omega))⟩
          obtain ⟨s', e1, e2, e3⟩ := ih m (p + 1) (upd s l (nI (n + 1))) (by omega) (by omega) (fun m' hm' hne => by unfold upd; rw [if_neg hne]; exact hs m' hm' hne) (Or.inl (by unfold upd; rw [if_pos rfl]; exact ⟨hnew, by rw [nI_lt0 (by omega)]; exact fun h => h⟩))
          exact ⟨s', e1, fun m' hne => by rw [e2 m' hne]; unfold upd; rw [if_neg hne], e3⟩
        · rw [if_neg q]
          exact ih m (p + 1) s (by omega) (by omega) hs (Or.inr ⟨h1, h2, fun q' hq' hq0 => by
            rcases Nat.lt_or_ge q' p with x | x
            · exact h3 q' x hq0
            · obtain rfl : q' = p := by omega
              exact fun hw => q (hsrc.mpr hw)⟩)
theorem WS_up {a n l : Nat} {x : Int32} (h : WS g a n l x) (hx : ¬ x < nI 0) : WS g a (n + 1) l x := by
  rcases h with ⟨d, h1, h2⟩ | ⟨h1, -⟩
  · exact Or.inl ⟨d, by omega, h2⟩
  · rw [h1] at hx; exact absurd (by decide +kernel) hx
theorem X10_way_L41 (hG : GV g) (hM : MR g nw) (k32 : (Nat → Int32) → Int32 → Option (Int32 × (Nat → Int32))) {a : Nat} (ha : a < g 0) (v1 v2 : Int32) {n : Nat} (hn16 : n < 16) : ∀ d nf l (s : Nat → Int32), l + d = g 0 → d < nf → (∀ m, m < l → WS g a (n + 1) m (s m)) → (∀ m, l ≤ m → m < 16 → WS g a n m (s m)) → ∃ s', J_X10_way_L41 k32 nw v1 v2 nf s (nI (n + 1)) (nI l) = k32 s' (nI (n + 2)) ∧ (∀ m, m < g 0 → WS g a (n + 1) m (s' m)) ∧ ∀ m, g 0 ≤ m → s' m = s m := by
  have hn := hG.1
  intro d
  induction d with
  | zero =>
    intro nf l s hl hd h1 h2
    obtain ⟨m, rfl, -⟩ := nf_of hd
    obtain rfl : l = g 0 := by omega
    refine ⟨s, ?_, h1, fun _ _ => rfl⟩
    rw [J_X10_way_L41]
    simp (disch := omega) only [↓reduceIte, nm_x, chk_nI, chz_0, chz_1, chz_b2, chn_nI, oi_1, oi_2, oi_m1, il_0, il_1, il_2, il_3, il_4, il_5, il_6, il_7, il_8, il_9, il_10, il_11, il_12, il_13, il_14, il_15, il_16, il_32, il_35, il_40, il_41, il_42, il_43, il_44, il_45, il_46, il_48, il_57, il_58, il_59, il_60, il_99, il_104, il_115, il_116, il_119, il_126, il_133, il_255, il_256, il_512, il_931, il_1000, il_65536, bn0, bn1, bn2, bn3, bn4, bn5, bn6, bn7, bn8, bn9, bn10, bn11, bn12, bn13, bn14, bn15, nI_leI, nI_ltI, nI_eq, nI_clamp, nI_add, pk_mul, nI_lt0, ng_lt0, ng_ge0, ng_eqn, ng_neq, ng_len, ng_eq, sV_m1, sV_lt0, sV_ge0, if_true, if_false, Nat.le_refl, Nat.lt_irrefl, Nat.not_lt_zero, Nat.zero_le, not_true_eq_false, not_false_eq_true, false_and, true_and, and_true, and_false, true_or, or_true, false_or, or_false, reduceCtorEq, hM 0 (by omega)]
  | succ d ih =>
    intro nf l s hl hd h1 h2
    obtain ⟨m, rfl, hm⟩ := nf_of hd
    rw [J_X10_way_L41]
    simp (disch := omega) only [↓reduceIte, nm_x, chk_nI, chz_0, chz_1, chz_b2, chn_nI, oi_1, oi_2, oi_m1, il_0, il_1, il_2, il_3, il_4, il_5, il_6, il_7, il_8, il_9, il_10, il_11, il_12, il_13, il_14, il_15, il_16, il_32, il_35, il_40, il_41, il_42, il_43, il_44, il_45, il_46, il_48, il_57, il_58, il_59, il_60, il_99, il_104, il_115, il_116, il_119, il_126, il_133, il_255, il_256, il_512, il_931, il_1000, il_65536, bn0, bn1, bn2, bn3, bn4, bn5, bn6, bn7, bn8, bn9, bn10, bn11, bn12, bn13, bn14, bn15, nI_leI, nI_ltI, nI_eq, nI_clamp, nI_add, pk_mul, nI_lt0, ng_lt0, ng_ge0, ng_eqn, ng_neq, ng_len, ng_eq, sV_m1, sV_lt0, sV_ge0, if_true, if_false, Nat.le_refl, Nat.lt_irrefl, Nat.not_lt_zero, Nat.zero_le, not_true_eq_false, not_false_eq_true, false_and, true_and, and_true, and_false, true_or, or_true, false_or, or_false, reduceCtorEq, hM 0 (by omega), show ¬ g 0 ≤ l by omega]
    obtain ⟨s', e1, e2, e3⟩ := X10_way_L55 hG hM k32 (fun z0 z1 z2 => J_X10_way_L41 k32 nw v1 v2 m z0 z1 z2) ha v1 v2 hn16 (show l < g 0 by omega) 3 FU 0 s rfl (by unfold FU; omega) (fun m' hm' hne => by
      rcases Nat.lt_or_ge m' l with x | x
      · exact Or.inr (h1 m' x)
      · exact Or.inl (h2 m' x hm')) (by
      have hl := h2 l (Nat.le_refl l) (by omega)
      rcases hl with ⟨d', h3, h4, h5⟩ | ⟨h3, h4⟩
      · have hx : ¬ s l < nI 0 := by rw [h4, nI_lt0 (by omega)]; exact fun h => h
        exact Or.inl ⟨WS_up (Or.inl ⟨d', h3, h4, h5⟩) hx, hx⟩
      · exact Or.inr ⟨h3, h4, fun q hq => absurd hq (Nat.not_lt_zero q)⟩)
    rw [e1]
    obtain ⟨s2, f1, f2, f3⟩ := ih m (l + 1) s' (by omega) hm (fun m' hm' => by
      by_cases e : m' = l
      · subst e; exact e3
      · rw [e2 m' e]; exact h1 m' (by omega)) (fun m' hm' hm2 => by rw [e2 m' (by omega)]; exact h2 m' (by omega) hm2)
    exact ⟨s2, f1, f2, fun m' hm' => by rw [f3 m' hm', e2 m' (by omega)]⟩
theorem X10_way_L32 (hG : GV g) (hM : MR g nw) {a b : Nat} (ha : a < g 0) (hb : b < g 0) : ∀ d nf n (s : Nat → Int32), n + d = 16 → d < nf → (∀ m, m < 16 → WS g a n m (s m)) → ∃ x s', J_X10_way_L32 nw (nI a) (nI b) nf s (nI (n + 1)) = some (x, s') ∧ WS g a 16 b x := by
  have hn := hG.1
  intro d
  induction d with
  | zero =>
    intro nf n s hnd hd hs
    obtain ⟨m, rfl, -⟩ := nf_of hd
    obtain rfl : n = 16 := by omega
    refine ⟨s b, s, ?_, hs b (by omega)⟩
    rw [J_X10_way_L32]
    simp (disch := omega) only [↓reduceIte, nm_x, chk_nI, chz_0, chz_1, chz_b2, chn_nI, oi_1, oi_2, oi_m1, il_0, il_1, il_2, il_3, il_4, il_5, il_6, il_7, il_8, il_9, il_10, il_11, il_12, il_13, il_14, il_15, il_16, il_32, il_35, il_40, il_41, il_42, il_43, il_44, il_45, il_46, il_48, il_57, il_58, il_59, il_60, il_99, il_104, il_115, il_116, il_119, il_126, il_133, il_255, il_256, il_512, il_931, il_1000, il_65536, bn0, bn1, bn2, bn3, bn4, bn5, bn6, bn7, bn8, bn9, bn10, bn11, bn12, bn13, bn14, bn15, nI_leI, nI_ltI, nI_eq, nI_clamp, nI_add, pk_mul, nI_lt0, ng_lt0, ng_ge0, ng_eqn, ng_neq, ng_len, ng_eq, sV_m1, sV_lt0, sV_ge0, if_true, if_false, Nat.le_refl, Nat.lt_irrefl, Nat.not_lt_zero, Nat.zero_le, not_true_eq_false, not_false_eq_true, false_and, true_and, and_true, and_false, true_or, or_true, false_or, or_false, reduceCtorEq, show 16 < 16 + 1 by omega]
  | succ d ih =>
    intro nf n s hnd hd hs
    obtain ⟨m, rfl, hm⟩ := nf_of hd
    rw [J_X10_way_L32]
    simp (disch := omega) only [↓reduceIte, nm_x, chk_nI, chz_0, chz_1, chz_b2, chn_nI, oi_1, oi_2, oi_m1, il_0, il_1, il_2, il_3, il_4, il_5, il_6, il_7, il_8, il_9, il_10, il_11, il_12, il_13, il_14, il_15, il_16, il_32, il_35, il_40, il_41, il_42, il_43, il_44, il_45, il_46, il_48, il_57, il_58, il_59, il_60, il_99, il_104, il_115, il_116, il_119, il_126, il_133, il_255, il_256, il_512, il_931, il_1000, il_65536, bn0, bn1, bn2, bn3, bn4, bn5, bn6, bn7, bn8, bn9, bn10, bn11, bn12, bn13, bn14, bn15, nI_leI, nI_ltI, nI_eq, nI_clamp, nI_add, pk_mul, nI_lt0, ng_lt0, ng_ge0, ng_eqn, ng_neq, ng_len, ng_eq, sV_m1, sV_lt0, sV_ge0, if_true, if_false, Nat.le_refl, Nat.lt_irrefl, Nat.not_lt_zero, Nat.zero_le, not_true_eq_false, not_false_eq_true, false_and, true_and, and_true, and_false, true_or, or_true, false_or, or_false, reduceCtorEq, show ¬ 16 < n + 1 by omega]
    obtain ⟨s', e1, e2, e3⟩ := X10_way_L41 hG hM (fun z0 z1 => J_X10_way_L32 nw (nI a) (nI b) m z0 z1) ha (nI a) (nI b) (show n < 16 by omega) (g 0) FU 0 s (by omega) (by unfold FU; omega) (fun m hm => absurd hm (Nat.not_lt_zero m)) (fun m _ hm => hs m hm)
    rw [e1]
    refine ih m (n + 1) s' (by omega) hm fun m' hm' => ?_
    rcases Nat.lt_or_ge m' (g 0) with q | q
    · exact e2 m' q
    · rw [e3 m' q]
      rcases hs m' hm' with ⟨d', h1, h2, h3, h4⟩ | ⟨h1, h2⟩
      · have := Wy_lt ha h3; omega
      · exact Or.inr ⟨h1, fun h => by have := Wy_lt ha h; omega⟩
theorem X10_way_L2 (hG : GV g) (hM : MR g nw) {a b : Nat} (ha : a < g 0) (hb : b < g 0) : ∀ d nf j (s : Nat → Int32), j + d = 16 → d < nf → (∀ m, m < j → WS g a 0 m (s m)) → ∃ x s', J_X10_way_L2 nw (nI a) (nI b) nf s (nI j) = some (x, s') ∧ WS g a 16 b x := by
  have hn := hG.1
  intro d
  induction d with
  | zero =>
    intro nf j s hj hd hs
    obtain ⟨m, rfl, -⟩ := nf_of hd
    obtain rfl : j = 16 := by omega
    rw [J_X10_way_L2]
    simp (disch := omega) only [↓reduceIte, nm_x, chk_nI, chz_0, chz_1, chz_b2, chn_nI, oi_1, oi_2, oi_m1, il_0, il_1, il_2, il_3, il_4, il_5, il_6, il_7, il_8, il_9, il_10, il_11, il_12, il_13, il_14, il_15, il_16, il_32, il_35, il_40, il_41, il_42, il_43, il_44, il_45, il_46, il_48, il_57, il_58, il_59, il_60, il_99, il_104, il_115, il_116, il_119, il_126, il_133, il_255, il_256, il_512, il_931, il_1000, il_65536, bn0, bn1, bn2, bn3, bn4, bn5, bn6, bn7, bn8, bn9, bn10, bn11, bn12, bn13, bn14, bn15, nI_leI, nI_ltI, nI_eq, nI_clamp, nI_add, pk_mul, nI_lt0, ng_lt0, ng_ge0, ng_eqn, ng_neq, ng_len, ng_eq, sV_m1, sV_lt0, sV_ge0, if_true, if_false, Nat.le_refl, Nat.lt_irrefl, Nat.not_lt_zero, Nat.zero_le, not_true_eq_false, not_false_eq_true, false_and, true_and, and_true, and_false, true_or, or_true, false_or, or_false, reduceCtorEq]
    exact X10_way_L32 hG hM ha hb 16 FU 0 s rfl (by unfold FU; omega) hs
  | succ d ih =>
    intro nf j s hj hd hs
    obtain ⟨m, rfl, hm⟩ := nf_of hd
    rw [J_X10_way_L2]
    unfold J_X10_way_b23
    simp (disch := omega) only [↓reduceIte, nm_x, chk_nI, chz_0, chz_1, chz_b2, chn_nI, oi_1, oi_2, oi_m1, il_0, il_1, il_2, il_3, il_4, il_5, il_6, il_7, il_8, il_9, il_10, il_11, il_12, il_13, il_14, il_15, il_16, il_32, il_35, il_40, il_41, il_42, il_43, il_44, il_45, il_46, il_48, il_57, il_58, il_59, il_60, il_99, il_104, il_115, il_116, il_119, il_126, il_133, il_255, il_256, il_512, il_931, il_1000, il_65536, bn0, bn1, bn2, bn3, bn4, bn5, bn6, bn7, bn8, bn9, bn10, bn11, bn12, bn13, bn14, bn15, nI_leI, nI_ltI, nI_eq, nI_clamp, nI_add, pk_mul, nI_lt0, ng_lt0, ng_ge0, ng_eqn, ng_neq, ng_len, ng_eq, sV_m1, sV_lt0, sV_ge0, if_true, if_false, Nat.le_refl, Nat.lt_irrefl, Nat.not_lt_zero, Nat.zero_le, not_true_eq_false, not_false_eq_true, false_and, true_and, and_true, and_false, true_or, or_true, false_or, or_false, reduceCtorEq, show ¬ 16 ≤ j by omega]
    by_cases e : j = a
    · rw [if_pos e]
      refine ih m (j + 1) _ (by omega) hm fun m' hm' => ?_
      unfold upd
      by_cases q : m' = j
      · rw [if_pos q]
        exact Or.inl ⟨0, Nat.le_refl 0, rfl, by rw [q, e]; rfl, fun f hf => absurd hf (Nat.not_lt_zero f)⟩
      · rw [if_neg q]; exact hs m' (by omega)
    · rw [if_neg e]
      refine ih m (j + 1) _ (by omega) hm fun m' hm' => ?_
      unfold upd
      by_cases q : m' = j
      · rw [if_pos q]
        exact Or.inr ⟨rfl, fun h => e (by rw [← q]; exact h.symm)⟩
      · rw [if_neg q]; exact hs m' (by omega)
theorem X10_way (hG : GV g) (hM : MR g nw) {a b : Nat} (ha : a < g 0) (hb : b < g 0) (s : Nat → Int32) : ∃ x s', J_X10_way nw s (nI a) (nI b) = some (x, s') ∧ WS g a 16 b x := by
  unfold J_X10_way
  simp only [il_0]
  exact X10_way_L2 hG hM ha hb 16 FU 0 s rfl (by unfold FU; omega) (fun m hm => absurd hm (Nat.not_lt_zero m))
/-- both at once: a way of f wires, or none -/
theorem way_both {c : Int32} {k w so : Nat → Int32} (hG : GV g) (hM : MR g nw) (hS : SR g c k w so) {a b : Nat} (ha : a < g 0) (hb : b < g 0) (s : Nat → Int32) : ∃ s', (∃ f, f < 16 ∧ J_X5_fewestWires c so (nI a) (nI b) = some (nI f) ∧ J_X10_way nw s (nI a) (nI b) = some (nI f, s')) ∨ (J_X5_fewestWires c so (nI a) (nI b) = some (-nI 15) ∧ J_X10_way nw s (nI a) (nI b) = some (-nI 1, s')) := by
  obtain ⟨x, s', e1, h1⟩ := X10_way hG hM ha hb s
  refine ⟨s', ?_⟩
  rcases X5_fewest hG hS ha hb with ⟨f, h2, h3, h4, e2⟩ | ⟨h2, e2⟩
  · refine Or.inl ⟨f, h2, e2, ?_⟩
    rcases h1 with ⟨d, h5, h6, h7, h8⟩ | ⟨h5, h6⟩
    · have : d = f := by
        rcases Nat.lt_trichotomy d f with q | q | q
        · exact absurd h7 (h4 d q)
        · exact q
        · exact absurd h3 (h8 f q)
      rw [e1, h6, this]
    · exact absurd (Wy_mono h3 (by omega)) h6
  · refine Or.inr ⟨e2, ?_⟩
    rcases h1 with ⟨d, h5, h6, h7, h8⟩ | ⟨h5, h6⟩
    · exact absurd h7 (h2 d)
    · rw [e1, h5]
end WayM

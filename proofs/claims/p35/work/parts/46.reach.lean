/-! WHO LEADS TO WHOM -/
/-- a wire leads from a to b -/
def wr (g : Nat → Nat) (a b : Nat) : Prop := b < g 0 ∧ ∃ p, p < 3 ∧ src g b p = a + 1
/-- a leads to b in at most f + 1 wires -/
def Ld (g : Nat → Nat) : Nat → Nat → Nat → Prop
  | 0, a, b => wr g a b
  | f + 1, a, b => Ld g f a b ∨ ∃ m, Ld g f a m ∧ wr g m b
def Leads (g : Nat → Nat) (a b : Nat) : Prop := ∃ f, Ld g f a b
/-- x is the set of all i with P -/
def MS (x : Int32) (P : Nat → Prop) : Prop := ∀ i, bt x i = true ↔ P i
theorem MS.uniq {x y : Int32} {P : Nat → Prop} (h : MS x P) (h' : MS y P) : x = y := b_ext fun i _ => by
  cases hx : bt x i <;> cases hy : bt y i
  · rfl
  · have := (h i).mpr ((h' i).mp hy); rw [hx] at this; cases this
  · have := (h' i).mpr ((h i).mp hx); rw [hy] at this; cases this
  · rfl
theorem MS.iff {x : Int32} {P Q : Nat → Prop} (h : MS x P) (e : ∀ i, P i ↔ Q i) : MS x Q := fun i => (h i).trans (e i)
theorem MS.set {x : Int32} {P : Nat → Prop} (h : MS x P) {k : Nat} (hk : k < 32) : MS (x ||| (nI 1 <<< (nI k &&& 31))) (fun i => P i ∨ i = k) := fun i => by
  rw [b_set x k i hk, Bool.or_eq_true, h i, decide_eq_true_iff]
theorem MS.or {x y : Int32} {P Q : Nat → Prop} (h : MS x P) (h' : MS y Q) : MS (x ||| y) (fun i => P i ∨ Q i) := fun i => by
  rw [b_or, Bool.or_eq_true, h i, h' i]
theorem MS.none : MS (nI 0) (fun _ => False) := fun i => by rw [b_n0]; simp
theorem MS.one {k : Nat} (hk : k < 32) : MS (nI 1 <<< (nI k &&& 31)) (fun i => i = k) := fun i => by rw [b_one k i hk, decide_eq_true_iff]
theorem MS.meet {x y : Int32} {P Q : Nat → Prop} (h : MS x P) (h' : MS y Q) : x &&& y = nI 0 ↔ ¬ ∃ i, P i ∧ Q i := by
  constructor
  · intro e ⟨i, h1, h2⟩
    have : bt (x &&& y) i = true := by rw [b_and, Bool.and_eq_true]; exact ⟨(h i).mpr h1, (h' i).mpr h2⟩
    rw [e, b_n0] at this
    cases this
  · intro hn
    apply b_ext
    intro i _
    rw [b_n0, b_and]
    cases hx : bt x i <;> cases hy : bt y i <;> try rfl
    exact absurd ⟨i, (h i).mp hx, (h' i).mp hy⟩ hn
theorem MS.zero {x : Int32} {P : Nat → Prop} (h : MS x P) : x = nI 0 ↔ ¬ ∃ i, P i := by
  constructor
  · intro e ⟨i, h1⟩
    have := (h i).mpr h1
    rw [e, b_n0] at this
    cases this
  · intro hn
    apply b_ext
    intro i _
    rw [b_n0]
    cases hx : bt x i
    · rfl
    · exact absurd ⟨i, (h i).mp hx⟩ hn
section Lead
variable {g : Nat → Nat}
theorem wr_lt {a b : Nat} (h : wr g a b) : b < g 0 := h.1
theorem wr_lt' (hG : GV g) {a b : Nat} (h : wr g a b) : a < g 0 := by
  obtain ⟨hb, p, hp, e⟩ := h
  have hn := hG.1
  have := (GV_l hG (show b < 16 by omega)).2.2.2.2 p hp
  omega
theorem Ld_lt {a b : Nat} : ∀ {f}, Ld g f a b → b < g 0
  | 0, h => wr_lt h
  | f + 1, h => h.elim (fun h => Ld_lt h) fun ⟨_, _, h⟩ => wr_lt h
theorem Ld_lt' (hG : GV g) {a b : Nat} : ∀ {f}, Ld g f a b → a < g 0
  | 0, h => wr_lt' hG h
  | f + 1, h => h.elim (fun h => Ld_lt' hG h) fun ⟨_, h, _⟩ => Ld_lt' hG h
theorem Ld_up {f a b : Nat} (h : Ld g f a b) : ∀ d, Ld g (f + d) a b
  | 0 => h
  | d + 1 => Or.inl (Ld_up h d)
theorem Leads.lt {a b : Nat} (h : Leads g a b) : b < g 0 := h.elim fun _ h => Ld_lt h
theorem Leads.lt' (hG : GV g) {a b : Nat} (h : Leads g a b) : a < g 0 := h.elim fun _ h => Ld_lt' hG h
theorem Leads.wire {a b c : Nat} (h : Leads g a b) (h2 : wr g b c) : Leads g a c := h.elim fun f h => ⟨f + 1, Or.inr ⟨b, h, h2⟩⟩
theorem Leads.of {a b : Nat} (h : wr g a b) : Leads g a b := ⟨0, h⟩
theorem Leads.tr {a b c : Nat} (h : Leads g a b) (h2 : Leads g b c) : Leads g a c := by
  obtain ⟨f, h2⟩ := h2
  induction f generalizing c with
  | zero => exact h.wire h2
  | succ f ih =>
    rcases h2 with h2 | ⟨m, h2, h3⟩
    · exact ih h2
    · exact (ih h2).wire h3
theorem Ld_sat (hG : GV g) {f a b : Nat} (h : Ld g f a b) : Ld g 16 a b := by
  refine sat (N := 16) (fun f i => Ld g f a i) (fun f i h => Or.inl h) (fun f hs i hi h => ?_) f b (by have := hG.1; have := Ld_lt h; omega) h
  rcases h with h | ⟨m, h, h2⟩
  · exact h
  · exact Or.inr ⟨m, hs m (by have := hG.1; have := Ld_lt h; omega) h, h2⟩
/-- once a step adds nothing, it is all -/
theorem Ld_closed {a f : Nat} (h : ∀ i, Ld g (f + 1) a i → Ld g f a i) {b : Nat} (hb : Leads g a b) : Ld g f a b := by
  obtain ⟨d, hd⟩ := hb
  have key : ∀ d i, Ld g (f + d) a i → Ld g f a i := by
    intro d
    induction d with
    | zero => exact fun i h => h
    | succ d ih =>
      intro i hi
      rcases hi with hi | ⟨m, h1, h2⟩
      · exact ih i hi
      · exact h i (Or.inr ⟨m, ih m h1, h2⟩)
  have h1 := Ld_up hd f
  rw [Nat.add_comm] at h1
  exact key d b h1
end Lead
section PathsX
variable {g : Nat → Nat} {c : Int32} {k w so : Nat → Int32}
theorem X2_sourcesOf_L (hG : GV g) (hS : SR g c k w so) {l : Nat} (hl : l < 16) : ∀ j nf p v, p + j = 3 → j < nf → MS v (fun i => ∃ q, q < p ∧ src g l q = i + 1) → ∃ x, J_X2_sourcesOf_L16 so (nI l) nf v (nI p) = some x ∧ MS x (fun i => ∃ q, q < 3 ∧ src g l q = i + 1) := by
  intro j
  induction j with
  | zero =>
    intro nf p v hp hj hv
    obtain ⟨m, rfl, -⟩ := nf_of hj
    obtain rfl : p = 3 := by omega
    refine ⟨v, ?_, hv⟩
    rw [J_X2_sourcesOf_L16]
    simp (disch := omega) only [↓reduceIte, nm_x, chk_nI, chz_0, chz_1, chz_b2, chn_nI, oi_1, oi_2, oi_m1, il_0, il_1, il_2, il_3, il_4, il_5, il_6, il_7, il_8, il_9, il_10, il_11, il_12, il_13, il_14, il_15, il_16, il_32, il_35, il_40, il_41, il_42, il_43, il_44, il_45, il_46, il_48, il_57, il_58, il_59, il_60, il_99, il_104, il_115, il_116, il_119, il_126, il_133, il_255, il_256, il_512, il_931, il_1000, il_65536, bn0, bn1, bn2, bn3, bn4, bn5, bn6, bn7, bn8, bn9, bn10, bn11, bn12, bn13, bn14, bn15, nI_leI, nI_ltI, nI_eq, nI_clamp, nI_add, pk_mul, nI_lt0, ng_lt0, ng_ge0, ng_eqn, ng_neq, ng_len, ng_eq, sV_m1, sV_lt0, sV_ge0, if_true, if_false, Nat.le_refl, Nat.lt_irrefl, Nat.not_lt_zero, Nat.zero_le, not_true_eq_false, not_false_eq_true, false_and, true_and, and_true, and_false, true_or, or_true, false_or, or_false, reduceCtorEq]
  | succ j ih =>
    intro nf p v hp hj hv
    obtain ⟨m, rfl, hm⟩ := nf_of hj
    have hs := GV_src hG hl (show p < 3 by omega)
    rw [J_X2_sourcesOf_L16]
    unfold J_X2_sourcesOf_b48
    simp (disch := omega) only [↓reduceIte, nm_x, chk_nI, chz_0, chz_1, chz_b2, chn_nI, oi_1, oi_2, oi_m1, il_0, il_1, il_2, il_3, il_4, il_5, il_6, il_7, il_8, il_9, il_10, il_11, il_12, il_13, il_14, il_15, il_16, il_32, il_35, il_40, il_41, il_42, il_43, il_44, il_45, il_46, il_48, il_57, il_58, il_59, il_60, il_99, il_104, il_115, il_116, il_119, il_126, il_133, il_255, il_256, il_512, il_931, il_1000, il_65536, bn0, bn1, bn2, bn3, bn4, bn5, bn6, bn7, bn8, bn9, bn10, bn11, bn12, bn13, bn14, bn15, nI_leI, nI_ltI, nI_eq, nI_clamp, nI_add, pk_mul, nI_lt0, ng_lt0, ng_ge0, ng_eqn, ng_neq, ng_len, ng_eq, sV_m1, sV_lt0, sV_ge0, if_true, if_false, Nat.le_refl, Nat.lt_irrefl, Nat.not_lt_zero, Nat.zero_le, not_true_eq_false, not_false_eq_true, false_and, true_and, and_true, and_false, true_or, or_true, false_or, or_false, reduceCtorEq, show ¬ 3 ≤ p by omega, hS.2.2.2]
    by_cases h : src g l p = 0
    · simp only [h, if_true]
      refine ih m (p + 1) _ (by omega) (by omega) fun i => ?_
      rw [(hv.or MS.none) i]
      constructor
      · rintro (⟨q, h1, h2⟩ | h); exact ⟨q, by omega, h2⟩; exact h.elim
      · rintro ⟨q, h1, h2⟩
        refine Or.inl ⟨q, ?_, h2⟩
        rcases Nat.lt_or_ge q p with a | a
        · exact a
        · obtain rfl : q = p := by omega
          omega
    · simp only [h, if_false, sV_s h]
      refine ih m (p + 1) _ (by omega) (by omega) fun i => ?_
      rw [(hv.set (k := src g l p - 1) (by omega)) i]
      constructor
      · rintro (⟨q, h1, h2⟩ | h1)
        · exact ⟨q, by omega, h2⟩
        · exact ⟨p, by omega, by omega⟩
      · rintro ⟨q, h1, h2⟩
        rcases Nat.lt_or_ge q p with a | a
        · exact Or.inl ⟨q, a, h2⟩
        · obtain rfl : q = p := by omega
          exact Or.inr (by omega)
theorem X2_sourcesOf (hG : GV g) (hS : SR g c k w so) {l : Nat} (hl : l < 16) : ∃ x, J_X2_sourcesOf so (nI l) = some x ∧ MS x (fun i => ∃ q, q < 3 ∧ src g l q = i + 1) := by
  unfold J_X2_sourcesOf
  simp (disch := omega) only [↓reduceIte, nm_x, chk_nI, chz_0, chz_1, chz_b2, chn_nI, oi_1, oi_2, oi_m1, il_0, il_1, il_2, il_3, il_4, il_5, il_6, il_7, il_8, il_9, il_10, il_11, il_12, il_13, il_14, il_15, il_16, il_32, il_35, il_40, il_41, il_42, il_43, il_44, il_45, il_46, il_48, il_57, il_58, il_59, il_60, il_99, il_104, il_115, il_116, il_119, il_126, il_133, il_255, il_256, il_512, il_931, il_1000, il_65536, bn0, bn1, bn2, bn3, bn4, bn5, bn6, bn7, bn8, bn9, bn10, bn11, bn12, bn13, bn14, bn15, nI_leI, nI_ltI, nI_eq, nI_clamp, nI_add, pk_mul, nI_lt0, ng_lt0, ng_ge0, ng_eqn, ng_neq, ng_len, ng_eq, sV_m1, sV_lt0, sV_ge0, if_true, if_false, Nat.le_refl, Nat.lt_irrefl, Nat.not_lt_zero, Nat.zero_le, not_true_eq_false, not_false_eq_true, false_and, true_and, and_true, and_false, true_or, or_true, false_or, or_false, reduceCtorEq, hl]
  exact X2_sourcesOf_L hG hS hl 3 FU 0 _ rfl (by unfold FU; omega) (MS.none.iff fun i => ⟨fun h => h.elim, fun ⟨q, h, _⟩ => absurd h (Nat.not_lt_zero q)⟩)
theorem X5_wiredFrom_L (hG : GV g) (hS : SR g c k w so) {v1 : Int32} {P : Nat → Prop} (h1 : MS v1 P) : ∀ d nf j v, j + d = g 0 → d < nf → MS v (fun i => i < j ∧ ∃ a, P a ∧ wr g a i) → ∃ x, J_X5_wiredFrom_L4 c so v1 nf v (nI j) = some x ∧ MS x (fun i => ∃ a, P a ∧ wr g a i) := by
  have hn := hG.1
  intro d
  induction d with
  | zero =>
    intro nf j v hj hd hv
    obtain ⟨m, rfl, -⟩ := nf_of hd
    obtain rfl : j = g 0 := by omega
    refine ⟨v, ?_, hv.iff fun i => ⟨fun h => h.2, fun ⟨a, h1, h2⟩ => ⟨h2.1, a, h1, h2⟩⟩⟩
    rw [J_X5_wiredFrom_L4, hS.1]
    unfold J_X2_count
    simp (disch := omega) only [↓reduceIte, nm_x, chk_nI, chz_0, chz_1, chz_b2, chn_nI, oi_1, oi_2, oi_m1, il_0, il_1, il_2, il_3, il_4, il_5, il_6, il_7, il_8, il_9, il_10, il_11, il_12, il_13, il_14, il_15, il_16, il_32, il_35, il_40, il_41, il_42, il_43, il_44, il_45, il_46, il_48, il_57, il_58, il_59, il_60, il_99, il_104, il_115, il_116, il_119, il_126, il_133, il_255, il_256, il_512, il_931, il_1000, il_65536, bn0, bn1, bn2, bn3, bn4, bn5, bn6, bn7, bn8, bn9, bn10, bn11, bn12, bn13, bn14, bn15, nI_leI, nI_ltI, nI_eq, nI_clamp, nI_add, pk_mul, nI_lt0, ng_lt0, ng_ge0, ng_eqn, ng_neq, ng_len, ng_eq, sV_m1, sV_lt0, sV_ge0, if_true, if_false, Nat.le_refl, Nat.lt_irrefl, Nat.not_lt_zero, Nat.zero_le, not_true_eq_false, not_false_eq_true, false_and, true_and, and_true, and_false, true_or, or_true, false_or, or_false, reduceCtorEq]
  | succ d ih =>
    intro nf j v hj hd hv
    obtain ⟨m, rfl, hm⟩ := nf_of hd
    have hj16 : j < 16 := by omega
    obtain ⟨x, ex, hx⟩ := X2_sourcesOf hG hS hj16
    have hi := ih m (j + 1)
    rw [hS.1] at hi
    rw [J_X5_wiredFrom_L4, hS.1]
    unfold J_X2_count J_X5_wiredFrom_b28
    simp (disch := omega) only [↓reduceIte, nm_x, chk_nI, chz_0, chz_1, chz_b2, chn_nI, oi_1, oi_2, oi_m1, il_0, il_1, il_2, il_3, il_4, il_5, il_6, il_7, il_8, il_9, il_10, il_11, il_12, il_13, il_14, il_15, il_16, il_32, il_35, il_40, il_41, il_42, il_43, il_44, il_45, il_46, il_48, il_57, il_58, il_59, il_60, il_99, il_104, il_115, il_116, il_119, il_126, il_133, il_255, il_256, il_512, il_931, il_1000, il_65536, bn0, bn1, bn2, bn3, bn4, bn5, bn6, bn7, bn8, bn9, bn10, bn11, bn12, bn13, bn14, bn15, nI_leI, nI_ltI, nI_eq, nI_clamp, nI_add, pk_mul, nI_lt0, ng_lt0, ng_ge0, ng_eqn, ng_neq, ng_len, ng_eq, sV_m1, sV_lt0, sV_ge0, if_true, if_false, Nat.le_refl, Nat.lt_irrefl, Nat.not_lt_zero, Nat.zero_le, not_true_eq_false, not_false_eq_true, false_and, true_and, and_true, and_false, true_or, or_true, false_or, or_false, reduceCtorEq, show ¬ g 0 ≤ j by omega, ex]
    have hiff : (∃ i, (∃ q, q < 3 ∧ src g j q = i + 1) ∧ P i) ↔ ∃ a, P a ∧ wr g a j := ⟨fun ⟨i, h1, h2⟩ => ⟨i, h2, by omega, h1⟩, fun ⟨a, h1, h2⟩ => ⟨a, h2.2, h1⟩⟩
    have hq : x &&& v1 = nI 0 ↔ ¬ ∃ a, P a ∧ wr g a j := (hx.meet h1).trans (not_congr hiff)
    by_cases q : ∃ a, P a ∧ wr g a j
    · rw [if_neg (fun h => hq.mp h q)]
      refine hi _ (by omega) hm fun i => ?_
      rw [(hv.set (show j < 32 by omega)) i]
      constructor
      · rintro (⟨h1, h2⟩ | rfl)
        · exact ⟨by omega, h2⟩
        · exact ⟨by omega, q⟩
      · rintro ⟨h1, h2⟩
        by_cases e : i = j
        · exact Or.inr e
        · exact Or.inl ⟨by omega, h2⟩
    · rw [if_pos (hq.mpr q)]
      refine hi _ (by omega) hm fun i => ?_
      rw [hv i]
      constructor
      · rintro ⟨h1, h2⟩; exact ⟨by omega, h2⟩
      · rintro ⟨h1, h2⟩
        refine ⟨?_, h2⟩
        rcases Nat.lt_or_ge i j with a | a
        · exact a
        · obtain rfl : i = j := by omega
          exact absurd h2 q
theorem X5_wiredFrom (hG : GV g) (hS : SR g c k w so) {v1 : Int32} {P : Nat → Prop} (h1 : MS v1 P) : ∃ x, J_X5_wiredFrom c so v1 = some x ∧ MS x (fun i => ∃ a, P a ∧ wr g a i) := by
  unfold J_X5_wiredFrom
  simp only [il_0]
  exact X5_wiredFrom_L hG hS h1 (g 0) FU 0 _ (by omega) (by have := hG.1; unfold FU; omega) (MS.none.iff fun i => ⟨fun h => h.elim, fun h => absurd h.1 (Nat.not_lt_zero i)⟩)
theorem X5_ledFrom_L (hG : GV g) (hS : SR g c k w so) {l : Nat} (v1 : Int32) : ∀ d nf r v, r + d = 16 → d < nf → MS v (Ld g r l) → ∃ x, J_X5_ledFrom_L10 c so v1 nf v (nI r) = some x ∧ MS x (Leads g l) := by
  intro d
  induction d with
  | zero =>
    intro nf r v hr hd hv
    obtain ⟨m, rfl, -⟩ := nf_of hd
    obtain rfl : r = 16 := by omega
    refine ⟨v, ?_, hv.iff fun i => ⟨fun h => ⟨16, h⟩, fun ⟨f, h⟩ => Ld_sat hG h⟩⟩
    rw [J_X5_ledFrom_L10]
    unfold J_X5_ledFrom_b43
    simp (disch := omega) only [↓reduceIte, nm_x, chk_nI, chz_0, chz_1, chz_b2, chn_nI, oi_1, oi_2, oi_m1, il_0, il_1, il_2, il_3, il_4, il_5, il_6, il_7, il_8, il_9, il_10, il_11, il_12, il_13, il_14, il_15, il_16, il_32, il_35, il_40, il_41, il_42, il_43, il_44, il_45, il_46, il_48, il_57, il_58, il_59, il_60, il_99, il_104, il_115, il_116, il_119, il_126, il_133, il_255, il_256, il_512, il_931, il_1000, il_65536, bn0, bn1, bn2, bn3, bn4, bn5, bn6, bn7, bn8, bn9, bn10, bn11, bn12, bn13, bn14, bn15, nI_leI, nI_ltI, nI_eq, nI_clamp, nI_add, pk_mul, nI_lt0, ng_lt0, ng_ge0, ng_eqn, ng_neq, ng_len, ng_eq, sV_m1, sV_lt0, sV_ge0, if_true, if_false, Nat.le_refl, Nat.lt_irrefl, Nat.not_lt_zero, Nat.zero_le, not_true_eq_false, not_false_eq_true, false_and, true_and, and_true, and_false, true_or, or_true, false_or, or_false, reduceCtorEq]
  | succ d ih =>
    intro nf r v hr hd hv
    obtain ⟨m, rfl, hm⟩ := nf_of hd
    obtain ⟨x, ex, hx⟩ := X5_wiredFrom hG hS hv
    rw [J_X5_ledFrom_L10]
    unfold J_X5_ledFrom_b43
    simp (disch := omega) only [↓reduceIte, nm_x, chk_nI, chz_0, chz_1, chz_b2, chn_nI, oi_1, oi_2, oi_m1, il_0, il_1, il_2, il_3, il_4, il_5, il_6, il_7, il_8, il_9, il_10, il_11, il_12, il_13, il_14, il_15, il_16, il_32, il_35, il_40, il_41, il_42, il_43, il_44, il_45, il_46, il_48, il_57, il_58, il_59, il_60, il_99, il_104, il_115, il_116, il_119, il_126, il_133, il_255, il_256, il_512, il_931, il_1000, il_65536, bn0, bn1, bn2, bn3, bn4, bn5, bn6, bn7, bn8, bn9, bn10, bn11, bn12, bn13, bn14, bn15, nI_leI, nI_ltI, nI_eq, nI_clamp, nI_add, pk_mul, nI_lt0, ng_lt0, ng_ge0, ng_eqn, ng_neq, ng_len, ng_eq, sV_m1, sV_lt0, sV_ge0, if_true, if_false, Nat.le_refl, Nat.lt_irrefl, Nat.not_lt_zero, Nat.zero_le, not_true_eq_false, not_false_eq_true, false_and, true_and, and_true, and_false, true_or, or_true, false_or, or_false, reduceCtorEq, show ¬ 16 ≤ r by omega, ex]
    have hmore : MS (v ||| x) (Ld g (r + 1) l) := hv.or hx
    by_cases q : v ||| x = v
    · rw [if_pos q]
      rw [q] at hmore
      exact ⟨v, rfl, fun i => ⟨fun h => ⟨r, (hv i).mp h⟩, fun h => (hv i).mpr (Ld_closed (fun i h => (hv i).mp ((hmore i).mpr h)) h)⟩⟩
    · rw [if_neg q]
      exact ih m (r + 1) _ (by omega) hm hmore
theorem X5_ledFrom (hG : GV g) (hS : SR g c k w so) {l : Nat} (hl : l < 16) : ∃ x, J_X5_ledFrom c so (nI l) = some x ∧ MS x (Leads g l) := by
  unfold J_X5_ledFrom
  obtain ⟨x, ex, hx⟩ := X5_wiredFrom hG hS (MS.one (show l < 32 by omega))
  simp only [nm_x, il_1, ex, bn1, il_0]
  exact X5_ledFrom_L hG hS (nI l) 16 FU 0 x rfl (by unfold FU; omega) (hx.iff fun i => ⟨fun ⟨a, h1, h2⟩ => by subst h1; exact h2, fun h => ⟨l, rfl, h⟩⟩)
theorem X5_inLoops_L (hG : GV g) (hS : SR g c k w so) : ∀ d nf j v, j + d = g 0 → d < nf → MS v (fun i => i < j ∧ Leads g i i) → ∃ x, J_X5_inLoops_L4 c so nf v (nI j) = some x ∧ MS x (fun i => Leads g i i) := by
  have hn := hG.1
  intro d
  induction d with
  | zero =>
    intro nf j v hj hd hv
    obtain ⟨m, rfl, -⟩ := nf_of hd
    obtain rfl : j = g 0 := by omega
    refine ⟨v, ?_, hv.iff fun i => ⟨fun h => h.2, fun h => ⟨h.lt, h⟩⟩⟩
    rw [J_X5_inLoops_L4, hS.1]
    unfold J_X2_count
    simp (disch := omega) only [↓reduceIte, nm_x, chk_nI, chz_0, chz_1, chz_b2, chn_nI, oi_1, oi_2, oi_m1, il_0, il_1, il_2, il_3, il_4, il_5, il_6, il_7, il_8, il_9, il_10, il_11, il_12, il_13, il_14, il_15, il_16, il_32, il_35, il_40, il_41, il_42, il_43, il_44, il_45, il_46, il_48, il_57, il_58, il_59, il_60, il_99, il_104, il_115, il_116, il_119, il_126, il_133, il_255, il_256, il_512, il_931, il_1000, il_65536, bn0, bn1, bn2, bn3, bn4, bn5, bn6, bn7, bn8, bn9, bn10, bn11, bn12, bn13, bn14, bn15, nI_leI, nI_ltI, nI_eq, nI_clamp, nI_add, pk_mul, nI_lt0, ng_lt0, ng_ge0, ng_eqn, ng_neq, ng_len, ng_eq, sV_m1, sV_lt0, sV_ge0, if_true, if_false, Nat.le_refl, Nat.lt_irrefl, Nat.not_lt_zero, Nat.zero_le, not_true_eq_false, not_false_eq_true, false_and, true_and, and_true, and_false, true_or, or_true, false_or, or_false, reduceCtorEq]
  | succ d ih =>
    intro nf j v hj hd hv
    obtain ⟨m, rfl, hm⟩ := nf_of hd
    have hj16 : j < 16 := by omega
    obtain ⟨x, ex, hx⟩ := X5_ledFrom hG hS hj16
    have hi := ih m (j + 1)
    rw [hS.1] at hi ex
    rw [J_X5_inLoops_L4, hS.1]
    unfold J_X2_count J_X5_inLoops_b30
    simp (disch := omega) only [↓reduceIte, nm_x, chk_nI, chz_0, chz_1, chz_b2, chn_nI, oi_1, oi_2, oi_m1, il_0, il_1, il_2, il_3, il_4, il_5, il_6, il_7, il_8, il_9, il_10, il_11, il_12, il_13, il_14, il_15, il_16, il_32, il_35, il_40, il_41, il_42, il_43, il_44, il_45, il_46, il_48, il_57, il_58, il_59, il_60, il_99, il_104, il_115, il_116, il_119, il_126, il_133, il_255, il_256, il_512, il_931, il_1000, il_65536, bn0, bn1, bn2, bn3, bn4, bn5, bn6, bn7, bn8, bn9, bn10, bn11, bn12, bn13, bn14, bn15, nI_leI, nI_ltI, nI_eq, nI_clamp, nI_add, pk_mul, nI_lt0, ng_lt0, ng_ge0, ng_eqn, ng_neq, ng_len, ng_eq, sV_m1, sV_lt0, sV_ge0, if_true, if_false, Nat.le_refl, Nat.lt_irrefl, Nat.not_lt_zero, Nat.zero_le, not_true_eq_false, not_false_eq_true, false_and, true_and, and_true, and_false, true_or, or_true, false_or, or_false, reduceCtorEq, show ¬ g 0 ≤ j by omega, ex, X9_isIn, b2_0]
    cases hb : bt x j
    · rw [if_pos rfl]
      refine hi _ (by omega) hm fun i => ?_
      rw [hv i]
      constructor
      · rintro ⟨h1, h2⟩; exact ⟨by omega, h2⟩
      · rintro ⟨h1, h2⟩
        refine ⟨?_, h2⟩
        rcases Nat.lt_or_ge i j with a | a
        · exact a
        · obtain rfl : i = j := by omega
          rw [(hx i).mpr h2] at hb
          cases hb
    · rw [if_neg (by decide)]
      refine hi _ (by omega) hm fun i => ?_
      rw [(hv.set (show j < 32 by omega)) i]
      constructor
      · rintro (⟨h1, h2⟩ | rfl)
        · exact ⟨by omega, h2⟩
        · exact ⟨by omega, (hx i).mp hb⟩
      · rintro ⟨h1, h2⟩
        by_cases e : i = j
        · exact Or.inr e
        · exact Or.inl ⟨by omega, h2⟩
theorem X5_inLoops (hG : GV g) (hS : SR g c k w so) : ∃ x, J_X5_inLoops c so = some x ∧ MS x (fun i => Leads g i i) := by
  unfold J_X5_inLoops
  simp only [il_0]
  exact X5_inLoops_L hG hS (g 0) FU 0 _ (by omega) (by have := hG.1; unfold FU; omega) (MS.none.iff fun i => ⟨fun h => h.elim, fun h => absurd h.1 (Nat.not_lt_zero i)⟩)
theorem X5_switchesTo_L (hG : GV g) (hS : SR g c k w so) {l : Nat} (hl : l < 16) : ∀ d nf j v, j + d = g 0 → d < nf → MS v (fun i => i < j ∧ GA g i 0 = 0 ∧ Leads g i l) → ∃ x, J_X5_switchesTo_L4 c k so (nI l) nf v (nI j) = some x ∧ MS x (fun i => i < g 0 ∧ GA g i 0 = 0 ∧ Leads g i l) := by
  have hn := hG.1
  intro d
  induction d with
  | zero =>
    intro nf j v hj hd hv
    obtain ⟨m, rfl, -⟩ := nf_of hd
    obtain rfl : j = g 0 := by omega
    refine ⟨v, ?_, hv⟩
    rw [J_X5_switchesTo_L4, hS.1]
    unfold J_X2_count
    simp (disch := omega) only [↓reduceIte, nm_x, chk_nI, chz_0, chz_1, chz_b2, chn_nI, oi_1, oi_2, oi_m1, il_0, il_1, il_2, il_3, il_4, il_5, il_6, il_7, il_8, il_9, il_10, il_11, il_12, il_13, il_14, il_15, il_16, il_32, il_35, il_40, il_41, il_42, il_43, il_44, il_45, il_46, il_48, il_57, il_58, il_59, il_60, il_99, il_104, il_115, il_116, il_119, il_126, il_133, il_255, il_256, il_512, il_931, il_1000, il_65536, bn0, bn1, bn2, bn3, bn4, bn5, bn6, bn7, bn8, bn9, bn10, bn11, bn12, bn13, bn14, bn15, nI_leI, nI_ltI, nI_eq, nI_clamp, nI_add, pk_mul, nI_lt0, ng_lt0, ng_ge0, ng_eqn, ng_neq, ng_len, ng_eq, sV_m1, sV_lt0, sV_ge0, if_true, if_false, Nat.le_refl, Nat.lt_irrefl, Nat.not_lt_zero, Nat.zero_le, not_true_eq_false, not_false_eq_true, false_and, true_and, and_true, and_false, true_or, or_true, false_or, or_false, reduceCtorEq]
  | succ d ih =>
    intro nf j v hj hd hv
    obtain ⟨m, rfl, hm⟩ := nf_of hd
    have hj16 : j < 16 := by omega
    obtain ⟨x, ex, hx⟩ := X5_ledFrom hG hS hj16
    have es := X2_isSwitch hG hS (show j < g 0 by omega)
    have hi := ih m (j + 1)
    rw [hS.1] at hi ex es
    rw [J_X5_switchesTo_L4, hS.1]
    unfold J_X2_count J_X5_switchesTo_b38
    simp (disch := omega) only [↓reduceIte, nm_x, chk_nI, chz_0, chz_1, chz_b2, chn_nI, oi_1, oi_2, oi_m1, il_0, il_1, il_2, il_3, il_4, il_5, il_6, il_7, il_8, il_9, il_10, il_11, il_12, il_13, il_14, il_15, il_16, il_32, il_35, il_40, il_41, il_42, il_43, il_44, il_45, il_46, il_48, il_57, il_58, il_59, il_60, il_99, il_104, il_115, il_116, il_119, il_126, il_133, il_255, il_256, il_512, il_931, il_1000, il_65536, bn0, bn1, bn2, bn3, bn4, bn5, bn6, bn7, bn8, bn9, bn10, bn11, bn12, bn13, bn14, bn15, nI_leI, nI_ltI, nI_eq, nI_clamp, nI_add, pk_mul, nI_lt0, ng_lt0, ng_ge0, ng_eqn, ng_neq, ng_len, ng_eq, sV_m1, sV_lt0, sV_ge0, if_true, if_false, Nat.le_refl, Nat.lt_irrefl, Nat.not_lt_zero, Nat.zero_le, not_true_eq_false, not_false_eq_true, false_and, true_and, and_true, and_false, true_or, or_true, false_or, or_false, reduceCtorEq, show ¬ g 0 ≤ j by omega, ex, es, X9_isIn, b2_0, decide_eq_false_iff_not]
    have no : ¬ (GA g j 0 = 0 ∧ Leads g j l) → MS v (fun i => i < j + 1 ∧ GA g i 0 = 0 ∧ Leads g i l) := fun hq i => by
      rw [hv i]
      constructor
      · rintro ⟨h1, h2⟩; exact ⟨by omega, h2⟩
      · rintro ⟨h1, h2⟩
        refine ⟨?_, h2⟩
        rcases Nat.lt_or_ge i j with a | a
        · exact a
        · obtain rfl : i = j := by omega
          exact absurd h2 hq
    by_cases hk : GA g j 0 = 0
    · rw [if_neg (by simpa using hk)]
      cases hb : bt x l
      · rw [if_pos rfl]
        exact hi _ (by omega) hm (no fun h => by rw [(hx l).mpr h.2] at hb; cases hb)
      · rw [if_neg (by decide)]
        refine hi _ (by omega) hm fun i => ?_
        rw [(hv.set (show j < 32 by omega)) i]
        constructor
        · rintro (⟨h1, h2⟩ | rfl)
          · exact ⟨by omega, h2⟩
          · exact ⟨by omega, hk, (hx l).mp hb⟩
        · rintro ⟨h1, h2⟩
          by_cases e : i = j
          · exact Or.inr e
          · exact Or.inl ⟨by omega, h2⟩
    · rw [if_pos hk]
      exact hi _ (by omega) hm (no fun h => hk h.1)
theorem X5_switchesTo (hG : GV g) (hS : SR g c k w so) {l : Nat} (hl : l < 16) : ∃ x, J_X5_switchesTo c k so (nI l) = some x ∧ MS x (fun i => i < g 0 ∧ GA g i 0 = 0 ∧ Leads g i l) := by
  unfold J_X5_switchesTo
  simp only [il_0]
  exact X5_switchesTo_L hG hS hl (g 0) FU 0 _ (by omega) (by have := hG.1; unfold FU; omega) (MS.none.iff fun i => ⟨fun h => h.elim, fun h => absurd h.1 (Nat.not_lt_zero i)⟩)
end PathsX

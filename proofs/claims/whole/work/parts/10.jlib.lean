/-! OWN LIBRARY: methods as functions of the values of their cells (J_..), and the rows that tie them to the machine -/
def nm {α β : Type} (x : α) (f : α → β) : β := f x
def chk {β : Type} (i : Int32) (n : Nat) (b : Option β) : Option β := if i < 0 ∨ n ≤ i.toNatClampNeg then none else b
theorem chk_in {β : Type} {i : Int32} {n : Nat} {b : Option β} {o : β} (h : chk i n b = some o) : vp_in i n ∧ b = some o := by
  unfold chk at h
  by_cases hc : i < 0 ∨ n ≤ i.toNatClampNeg
  · rw [if_pos hc] at h; cases h
  · rw [if_neg hc] at h; exact ⟨hc, h⟩
def chz {β : Type} (v : Int32) (b : Option β) : Option β := if v = 0 ∨ v = 1 then b else none
theorem chz_ok {β : Type} {v : Int32} {b : Option β} {o : β} (h : chz v b = some o) : (v = 0 ∨ v = 1) ∧ b = some o := by
  unfold chz at h
  by_cases hc : v = 0 ∨ v = 1
  · rw [if_pos hc] at h; exact ⟨hc, h⟩
  · rw [if_neg hc] at h; cases h
def chn {β : Type} (v : Int32) (b : Option β) : Option β := if v = 0 then none else b
theorem chn_ok {β : Type} {v : Int32} {b : Option β} {o : β} (h : chn v b = some o) : ¬ v = 0 ∧ b = some o := by
  unfold chn at h
  by_cases hc : v = 0
  · rw [if_pos hc] at h; cases h
  · rw [if_neg hc] at h; exact ⟨hc, h⟩
theorem if_some_t {β : Type} {c : Prop} {d : Decidable c} {a b : Option β} {o : β} (h : (@ite _ c d a b) = some o) (hc : c) : a = some o := by rw [if_pos hc] at h; exact h
theorem if_some_f {β : Type} {c : Prop} {d : Decidable c} {a b : Option β} {o : β} (h : (@ite _ c d a b) = some o) (hc : ¬ c) : b = some o := by rw [if_neg hc] at h; exact h
def bnd0 {β : Type} (o : Option Unit) (f : Option β) : Option β := match o with | none => none | some _ => f
theorem bnd0_some {β : Type} {o : Option Unit} {f : Option β} {y : β} (h : bnd0 o f = some y) : o = some () ∧ f = some y := by
  cases o with
  | none => cases h
  | some a => exact ⟨rfl, h⟩
def bnd1 {α β : Type} (o : Option α) (f : α → Option β) : Option β := match o with | none => none | some a => f a
theorem bnd1_some {α β : Type} {o : Option α} {f : α → Option β} {y : β} (h : bnd1 o f = some y) : ∃ a, o = some a ∧ f a = some y := by
  cases o with
  | none => cases h
  | some a => exact ⟨a, rfl, h⟩
def bnd2 {T1 T2 Z : Type} (o : Option (T1 × T2)) (f : T1 → T2 → Option Z) : Option Z := match o with | none => none | some (a1, a2) => f a1 a2
theorem bnd2_some {T1 T2 Z : Type} {o : Option (T1 × T2)} {f : T1 → T2 → Option Z} {y : Z} (h : bnd2 o f = some y) : ∃ a1 a2, o = some (a1, a2) ∧ f a1 a2 = some y := by
  cases o with
  | none => cases h
  | some a => exact ⟨a.1, a.2, rfl, h⟩
def bnd3 {T1 T2 T3 Z : Type} (o : Option (T1 × T2 × T3)) (f : T1 → T2 → T3 → Option Z) : Option Z := match o with | none => none | some (a1, a2, a3) => f a1 a2 a3
theorem bnd3_some {T1 T2 T3 Z : Type} {o : Option (T1 × T2 × T3)} {f : T1 → T2 → T3 → Option Z} {y : Z} (h : bnd3 o f = some y) : ∃ a1 a2 a3, o = some (a1, a2, a3) ∧ f a1 a2 a3 = some y := by
  cases o with
  | none => cases h
  | some a => exact ⟨a.1, a.2.1, a.2.2, rfl, h⟩
def bnd4 {T1 T2 T3 T4 Z : Type} (o : Option (T1 × T2 × T3 × T4)) (f : T1 → T2 → T3 → T4 → Option Z) : Option Z := match o with | none => none | some (a1, a2, a3, a4) => f a1 a2 a3 a4
theorem bnd4_some {T1 T2 T3 T4 Z : Type} {o : Option (T1 × T2 × T3 × T4)} {f : T1 → T2 → T3 → T4 → Option Z} {y : Z} (h : bnd4 o f = some y) : ∃ a1 a2 a3 a4, o = some (a1, a2, a3, a4) ∧ f a1 a2 a3 a4 = some y := by
  cases o with
  | none => cases h
  | some a => exact ⟨a.1, a.2.1, a.2.2.1, a.2.2.2, rfl, h⟩
def bnd5 {T1 T2 T3 T4 T5 Z : Type} (o : Option (T1 × T2 × T3 × T4 × T5)) (f : T1 → T2 → T3 → T4 → T5 → Option Z) : Option Z := match o with | none => none | some (a1, a2, a3, a4, a5) => f a1 a2 a3 a4 a5
theorem bnd5_some {T1 T2 T3 T4 T5 Z : Type} {o : Option (T1 × T2 × T3 × T4 × T5)} {f : T1 → T2 → T3 → T4 → T5 → Option Z} {y : Z} (h : bnd5 o f = some y) : ∃ a1 a2 a3 a4 a5, o = some (a1, a2, a3, a4, a5) ∧ f a1 a2 a3 a4 a5 = some y := by
  cases o with
  | none => cases h
  | some a => exact ⟨a.1, a.2.1, a.2.2.1, a.2.2.2.1, a.2.2.2.2, rfl, h⟩
def bnd6 {T1 T2 T3 T4 T5 T6 Z : Type} (o : Option (T1 × T2 × T3 × T4 × T5 × T6)) (f : T1 → T2 → T3 → T4 → T5 → T6 → Option Z) : Option Z := match o with | none => none | some (a1, a2, a3, a4, a5, a6) => f a1 a2 a3 a4 a5 a6
theorem bnd6_some {T1 T2 T3 T4 T5 T6 Z : Type} {o : Option (T1 × T2 × T3 × T4 × T5 × T6)} {f : T1 → T2 → T3 → T4 → T5 → T6 → Option Z} {y : Z} (h : bnd6 o f = some y) : ∃ a1 a2 a3 a4 a5 a6, o = some (a1, a2, a3, a4, a5, a6) ∧ f a1 a2 a3 a4 a5 a6 = some y := by
  cases o with
  | none => cases h
  | some a => exact ⟨a.1, a.2.1, a.2.2.1, a.2.2.2.1, a.2.2.2.2.1, a.2.2.2.2.2, rfl, h⟩
def bnd7 {T1 T2 T3 T4 T5 T6 T7 Z : Type} (o : Option (T1 × T2 × T3 × T4 × T5 × T6 × T7)) (f : T1 → T2 → T3 → T4 → T5 → T6 → T7 → Option Z) : Option Z := match o with | none => none | some (a1, a2, a3, a4, a5, a6, a7) => f a1 a2 a3 a4 a5 a6 a7
theorem bnd7_some {T1 T2 T3 T4 T5 T6 T7 Z : Type} {o : Option (T1 × T2 × T3 × T4 × T5 × T6 × T7)} {f : T1 → T2 → T3 → T4 → T5 → T6 → T7 → Option Z} {y : Z} (h : bnd7 o f = some y) : ∃ a1 a2 a3 a4 a5 a6 a7, o = some (a1, a2, a3, a4, a5, a6, a7) ∧ f a1 a2 a3 a4 a5 a6 a7 = some y := by
  cases o with
  | none => cases h
  | some a => exact ⟨a.1, a.2.1, a.2.2.1, a.2.2.2.1, a.2.2.2.2.1, a.2.2.2.2.2.1, a.2.2.2.2.2.2, rfl, h⟩
def bnd8 {T1 T2 T3 T4 T5 T6 T7 T8 Z : Type} (o : Option (T1 × T2 × T3 × T4 × T5 × T6 × T7 × T8)) (f : T1 → T2 → T3 → T4 → T5 → T6 → T7 → T8 → Option Z) : Option Z := match o with | none => none | some (a1, a2, a3, a4, a5, a6, a7, a8) => f a1 a2 a3 a4 a5 a6 a7 a8
theorem bnd8_some {T1 T2 T3 T4 T5 T6 T7 T8 Z : Type} {o : Option (T1 × T2 × T3 × T4 × T5 × T6 × T7 × T8)} {f : T1 → T2 → T3 → T4 → T5 → T6 → T7 → T8 → Option Z} {y : Z} (h : bnd8 o f = some y) : ∃ a1 a2 a3 a4 a5 a6 a7 a8, o = some (a1, a2, a3, a4, a5, a6, a7, a8) ∧ f a1 a2 a3 a4 a5 a6 a7 a8 = some y := by
  cases o with
  | none => cases h
  | some a => exact ⟨a.1, a.2.1, a.2.2.1, a.2.2.2.1, a.2.2.2.2.1, a.2.2.2.2.2.1, a.2.2.2.2.2.2.1, a.2.2.2.2.2.2.2, rfl, h⟩
def bnd9 {T1 T2 T3 T4 T5 T6 T7 T8 T9 Z : Type} (o : Option (T1 × T2 × T3 × T4 × T5 × T6 × T7 × T8 × T9)) (f : T1 → T2 → T3 → T4 → T5 → T6 → T7 → T8 → T9 → Option Z) : Option Z := match o with | none => none | some (a1, a2, a3, a4, a5, a6, a7, a8, a9) => f a1 a2 a3 a4 a5 a6 a7 a8 a9
theorem bnd9_some {T1 T2 T3 T4 T5 T6 T7 T8 T9 Z : Type} {o : Option (T1 × T2 × T3 × T4 × T5 × T6 × T7 × T8 × T9)} {f : T1 → T2 → T3 → T4 → T5 → T6 → T7 → T8 → T9 → Option Z} {y : Z} (h : bnd9 o f = some y) : ∃ a1 a2 a3 a4 a5 a6 a7 a8 a9, o = some (a1, a2, a3, a4, a5, a6, a7, a8, a9) ∧ f a1 a2 a3 a4 a5 a6 a7 a8 a9 = some y := by
  cases o with
  | none => cases h
  | some a => exact ⟨a.1, a.2.1, a.2.2.1, a.2.2.2.1, a.2.2.2.2.1, a.2.2.2.2.2.1, a.2.2.2.2.2.2.1, a.2.2.2.2.2.2.2.1, a.2.2.2.2.2.2.2.2, rfl, h⟩
def bnd10 {T1 T2 T3 T4 T5 T6 T7 T8 T9 T10 Z : Type} (o : Option (T1 × T2 × T3 × T4 × T5 × T6 × T7 × T8 × T9 × T10)) (f : T1 → T2 → T3 → T4 → T5 → T6 → T7 → T8 → T9 → T10 → Option Z) : Option Z := match o with | none => none | some (a1, a2, a3, a4, a5, a6, a7, a8, a9, a10) => f a1 a2 a3 a4 a5 a6 a7 a8 a9 a10
theorem bnd10_some {T1 T2 T3 T4 T5 T6 T7 T8 T9 T10 Z : Type} {o : Option (T1 × T2 × T3 × T4 × T5 × T6 × T7 × T8 × T9 × T10)} {f : T1 → T2 → T3 → T4 → T5 → T6 → T7 → T8 → T9 → T10 → Option Z} {y : Z} (h : bnd10 o f = some y) : ∃ a1 a2 a3 a4 a5 a6 a7 a8 a9 a10, o = some (a1, a2, a3, a4, a5, a6, a7, a8, a9, a10) ∧ f a1 a2 a3 a4 a5 a6 a7 a8 a9 a10 = some y := by
  cases o with
  | none => cases h
  | some a => exact ⟨a.1, a.2.1, a.2.2.1, a.2.2.2.1, a.2.2.2.2.1, a.2.2.2.2.2.1, a.2.2.2.2.2.2.1, a.2.2.2.2.2.2.2.1, a.2.2.2.2.2.2.2.2.1, a.2.2.2.2.2.2.2.2.2, rfl, h⟩
def bnd11 {T1 T2 T3 T4 T5 T6 T7 T8 T9 T10 T11 Z : Type} (o : Option (T1 × T2 × T3 × T4 × T5 × T6 × T7 × T8 × T9 × T10 × T11)) (f : T1 → T2 → T3 → T4 → T5 → T6 → T7 → T8 → T9 → T10 → T11 → Option Z) : Option Z := match o with | none => none | some (a1, a2, a3, a4, a5, a6, a7, a8, a9, a10, a11) => f a1 a2 a3 a4 a5 a6 a7 a8 a9 a10 a11
theorem bnd11_some {T1 T2 T3 T4 T5 T6 T7 T8 T9 T10 T11 Z : Type} {o : Option (T1 × T2 × T3 × T4 × T5 × T6 × T7 × T8 × T9 × T10 × T11)} {f : T1 → T2 → T3 → T4 → T5 → T6 → T7 → T8 → T9 → T10 → T11 → Option Z} {y : Z} (h : bnd11 o f = some y) : ∃ a1 a2 a3 a4 a5 a6 a7 a8 a9 a10 a11, o = some (a1, a2, a3, a4, a5, a6, a7, a8, a9, a10, a11) ∧ f a1 a2 a3 a4 a5 a6 a7 a8 a9 a10 a11 = some y := by
  cases o with
  | none => cases h
  | some a => exact ⟨a.1, a.2.1, a.2.2.1, a.2.2.2.1, a.2.2.2.2.1, a.2.2.2.2.2.1, a.2.2.2.2.2.2.1, a.2.2.2.2.2.2.2.1, a.2.2.2.2.2.2.2.2.1, a.2.2.2.2.2.2.2.2.2.1, a.2.2.2.2.2.2.2.2.2.2, rfl, h⟩
def bnd12 {T1 T2 T3 T4 T5 T6 T7 T8 T9 T10 T11 T12 Z : Type} (o : Option (T1 × T2 × T3 × T4 × T5 × T6 × T7 × T8 × T9 × T10 × T11 × T12)) (f : T1 → T2 → T3 → T4 → T5 → T6 → T7 → T8 → T9 → T10 → T11 → T12 → Option Z) : Option Z := match o with | none => none | some (a1, a2, a3, a4, a5, a6, a7, a8, a9, a10, a11, a12) => f a1 a2 a3 a4 a5 a6 a7 a8 a9 a10 a11 a12
theorem bnd12_some {T1 T2 T3 T4 T5 T6 T7 T8 T9 T10 T11 T12 Z : Type} {o : Option (T1 × T2 × T3 × T4 × T5 × T6 × T7 × T8 × T9 × T10 × T11 × T12)} {f : T1 → T2 → T3 → T4 → T5 → T6 → T7 → T8 → T9 → T10 → T11 → T12 → Option Z} {y : Z} (h : bnd12 o f = some y) : ∃ a1 a2 a3 a4 a5 a6 a7 a8 a9 a10 a11 a12, o = some (a1, a2, a3, a4, a5, a6, a7, a8, a9, a10, a11, a12) ∧ f a1 a2 a3 a4 a5 a6 a7 a8 a9 a10 a11 a12 = some y := by
  cases o with
  | none => cases h
  | some a => exact ⟨a.1, a.2.1, a.2.2.1, a.2.2.2.1, a.2.2.2.2.1, a.2.2.2.2.2.1, a.2.2.2.2.2.2.1, a.2.2.2.2.2.2.2.1, a.2.2.2.2.2.2.2.2.1, a.2.2.2.2.2.2.2.2.2.1, a.2.2.2.2.2.2.2.2.2.2.1, a.2.2.2.2.2.2.2.2.2.2.2, rfl, h⟩
/-- the fuel of every loop -/
def FU : Nat := 1000
abbrev tyL (cI cJ cC cL : ClassId) : List (ClassId × FieldType) := [(cI, .int), (cJ, .long), (cC, .char), (cL, .object "LanternLogic$Lanterns")]
theorem jsw_ne {x c : Int32} (h : ¬ x = c) {k : Int} (hk : c.toInt = k) : ¬ x.toInt = k := fun e => h (Int32.toInt_inj.mp (e.trans hk.symm))
abbrev ring45 (cI : ClassId) (Q0 Q1 Q2 Q3 Q4 : Nat → Nat) (c : Nat → Int32) (k w so ch : Nat → Nat → Int32) (st : Nat → Int64) (al ti tc se : Nat → Int32) : va_W := [(Q0 0, .inr (2, [.int (c 0), .ref (Q1 0), .ref (Q2 0), .ref (Q3 0), .ref (Q4 0), .long (st 0), .int (al 0), .int (ti 0), .int (tc 0), .int (se 0)])), (Q1 0, .inl (cI, 16, .inl (k 0))), (Q2 0, .inl (cI, 16, .inl (w 0))), (Q3 0, .inl (cI, 48, .inl (so 0))), (Q4 0, .inl (cI, 16, .inl (ch 0))), (Q0 1, .inr (2, [.int (c 1), .ref (Q1 1), .ref (Q2 1), .ref (Q3 1), .ref (Q4 1), .long (st 1), .int (al 1), .int (ti 1), .int (tc 1), .int (se 1)])), (Q1 1, .inl (cI, 16, .inl (k 1))), (Q2 1, .inl (cI, 16, .inl (w 1))), (Q3 1, .inl (cI, 48, .inl (so 1))), (Q4 1, .inl (cI, 16, .inl (ch 1))), (Q0 2, .inr (2, [.int (c 2), .ref (Q1 2), .ref (Q2 2), .ref (Q3 2), .ref (Q4 2), .long (st 2), .int (al 2), .int (ti 2), .int (tc 2), .int (se 2)])), (Q1 2, .inl (cI, 16, .inl (k 2))), (Q2 2, .inl (cI, 16, .inl (w 2))), (Q3 2, .inl (cI, 48, .inl (so 2))), (Q4 2, .inl (cI, 16, .inl (ch 2))), (Q0 3, .inr (2, [.int (c 3), .ref (Q1 3), .ref (Q2 3), .ref (Q3 3), .ref (Q4 3), .long (st 3), .int (al 3), .int (ti 3), .int (tc 3), .int (se 3)])), (Q1 3, .inl (cI, 16, .inl (k 3))), (Q2 3, .inl (cI, 16, .inl (w 3))), (Q3 3, .inl (cI, 48, .inl (so 3))), (Q4 3, .inl (cI, 16, .inl (ch 3))), (Q0 4, .inr (2, [.int (c 4), .ref (Q1 4), .ref (Q2 4), .ref (Q3 4), .ref (Q4 4), .long (st 4), .int (al 4), .int (ti 4), .int (tc 4), .int (se 4)])), (Q1 4, .inl (cI, 16, .inl (k 4))), (Q2 4, .inl (cI, 16, .inl (w 4))), (Q3 4, .inl (cI, 48, .inl (so 4))), (Q4 4, .inl (cI, 16, .inl (ch 4))), (Q0 5, .inr (2, [.int (c 5), .ref (Q1 5), .ref (Q2 5), .ref (Q3 5), .ref (Q4 5), .long (st 5), .int (al 5), .int (ti 5), .int (tc 5), .int (se 5)])), (Q1 5, .inl (cI, 16, .inl (k 5))), (Q2 5, .inl (cI, 16, .inl (w 5))), (Q3 5, .inl (cI, 48, .inl (so 5))), (Q4 5, .inl (cI, 16, .inl (ch 5))), (Q0 6, .inr (2, [.int (c 6), .ref (Q1 6), .ref (Q2 6), .ref (Q3 6), .ref (Q4 6), .long (st 6), .int (al 6), .int (ti 6), .int (tc 6), .int (se 6)])), (Q1 6, .inl (cI, 16, .inl (k 6))), (Q2 6, .inl (cI, 16, .inl (w 6))), (Q3 6, .inl (cI, 48, .inl (so 6))), (Q4 6, .inl (cI, 16, .inl (ch 6))), (Q0 7, .inr (2, [.int (c 7), .ref (Q1 7), .ref (Q2 7), .ref (Q3 7), .ref (Q4 7), .long (st 7), .int (al 7), .int (ti 7), .int (tc 7), .int (se 7)])), (Q1 7, .inl (cI, 16, .inl (k 7))), (Q2 7, .inl (cI, 16, .inl (w 7))), (Q3 7, .inl (cI, 48, .inl (so 7))), (Q4 7, .inl (cI, 16, .inl (ch 7))), (Q0 8, .inr (2, [.int (c 8), .ref (Q1 8), .ref (Q2 8), .ref (Q3 8), .ref (Q4 8), .long (st 8), .int (al 8), .int (ti 8), .int (tc 8), .int (se 8)])), (Q1 8, .inl (cI, 16, .inl (k 8))), (Q2 8, .inl (cI, 16, .inl (w 8))), (Q3 8, .inl (cI, 48, .inl (so 8))), (Q4 8, .inl (cI, 16, .inl (ch 8)))]
section JLib
variable {p : Program} {l : Launch} {e : Env} {R : Room} {s : State} {m : MethodId} {args : Array Value} {below : List Frame} {meth : Method} {c : Code} {H : Heap} {locs : List Loc} {cells slots : Nat} {Q : State → Prop}
variable {cc : ByteArray} {pc : Nat} {ls : Array Slot} {rest : List Value} {D : va_G} {cl : List vw_C} {A : Nat → Prop} {a : Nat} {tys : List (ClassId × FieldType)} {ws : va_W} {H0 : Heap}
theorem jt_i {β : Type} {x : Int32} {f : Int32 → Option β} {o : β} (hJ : nm x f = some o) (k : ∀ y : Int32, f y = some o → W p l e R s m args below meth c H locs cells slots Q (F0 m pc ls (.int y :: rest))) : W p l e R s m args below meth c H locs cells slots Q (F0 m pc ls (.int x :: rest)) := k x hJ
theorem jt_l {β : Type} {x : Int64} {f : Int64 → Option β} {o : β} (hJ : nm x f = some o) (k : ∀ y : Int64, f y = some o → W p l e R s m args below meth c H locs cells slots Q (F0 m pc ls (.long y :: rest))) : W p l e R s m args below meth c H locs cells slots Q (F0 m pc ls (.long x :: rest)) := k x hJ
theorem jt_iinc {β : Type} {x : Int32} {f : Int32 → Option β} {o : β} {P : Prop} (hJ : nm x f = some o) (k : ∀ y : Int32, x = y → f y = some o → P) : P := k x rfl hJ
theorem jt_eq {α β : Type} {x : α} {f : α → Option β} {o : β} {P : Prop} (hJ : nm x f = some o) (k : ∀ y : α, x = y → f y = some o → P) : P := k x rfl hJ
theorem jif_icmp_eq (hexec : p.tables.exec = Jvm.exec) (hb : c.code = cc) {β : Type} {x y : Int32} {off : Int} {tgt : Nat} {u v : Option β} {o : β} (hdg : decode cc pc = .ok (.if_icmp .eq off, 3)) (ht : (pc : Int) + off = (tgt : Int)) (hJ : (if x = y then u else v) = some o) (kt : u = some o → W p l e R s m args below meth c H locs cells slots Q (F0 m tgt ls rest)) (kf : v = some o → W p l e R s m args below meth c H locs cells slots Q (F0 m (pc + 3) ls rest)) : W p l e R s m args below meth c H locs cells slots Q (F0 m pc ls (.int y :: .int x :: rest)) := lv_icmp_eq hexec hb hdg ht (fun hc => kt (if_some_t hJ hc)) (fun hc => kf (if_some_f hJ hc))
theorem jif_eq (hexec : p.tables.exec = Jvm.exec) (hb : c.code = cc) {β : Type} {x : Int32} {off : Int} {tgt : Nat} {u v : Option β} {o : β} (hdg : decode cc pc = .ok (.ifCond .eq off, 3)) (ht : (pc : Int) + off = (tgt : Int)) (hJ : (if x = 0 then u else v) = some o) (kt : u = some o → W p l e R s m args below meth c H locs cells slots Q (F0 m tgt ls rest)) (kf : v = some o → W p l e R s m args below meth c H locs cells slots Q (F0 m (pc + 3) ls rest)) : W p l e R s m args below meth c H locs cells slots Q (F0 m pc ls (.int x :: rest)) := lv_if_eq hexec hb hdg ht (fun hc => kt (if_some_t hJ hc)) (fun hc => kf (if_some_f hJ hc))
theorem jif_icmp_ne (hexec : p.tables.exec = Jvm.exec) (hb : c.code = cc) {β : Type} {x y : Int32} {off : Int} {tgt : Nat} {u v : Option β} {o : β} (hdg : decode cc pc = .ok (.if_icmp .ne off, 3)) (ht : (pc : Int) + off = (tgt : Int)) (hJ : (if x = y then v else u) = some o) (kt : u = some o → W p l e R s m args below meth c H locs cells slots Q (F0 m tgt ls rest)) (kf : v = some o → W p l e R s m args below meth c H locs cells slots Q (F0 m (pc + 3) ls rest)) : W p l e R s m args below meth c H locs cells slots Q (F0 m pc ls (.int y :: .int x :: rest)) := lv_icmp_ne hexec hb hdg ht (fun hc => kt (if_some_f hJ hc)) (fun hc => kf (if_some_t hJ hc))
theorem jif_ne (hexec : p.tables.exec = Jvm.exec) (hb : c.code = cc) {β : Type} {x : Int32} {off : Int} {tgt : Nat} {u v : Option β} {o : β} (hdg : decode cc pc = .ok (.ifCond .ne off, 3)) (ht : (pc : Int) + off = (tgt : Int)) (hJ : (if x = 0 then v else u) = some o) (kt : u = some o → W p l e R s m args below meth c H locs cells slots Q (F0 m tgt ls rest)) (kf : v = some o → W p l e R s m args below meth c H locs cells slots Q (F0 m (pc + 3) ls rest)) : W p l e R s m args below meth c H locs cells slots Q (F0 m pc ls (.int x :: rest)) := lv_if_ne hexec hb hdg ht (fun hc => kt (if_some_f hJ hc)) (fun hc => kf (if_some_t hJ hc))
theorem jif_icmp_lt (hexec : p.tables.exec = Jvm.exec) (hb : c.code = cc) {β : Type} {x y : Int32} {off : Int} {tgt : Nat} {u v : Option β} {o : β} (hdg : decode cc pc = .ok (.if_icmp .lt off, 3)) (ht : (pc : Int) + off = (tgt : Int)) (hJ : (if x < y then u else v) = some o) (kt : u = some o → W p l e R s m args below meth c H locs cells slots Q (F0 m tgt ls rest)) (kf : v = some o → W p l e R s m args below meth c H locs cells slots Q (F0 m (pc + 3) ls rest)) : W p l e R s m args below meth c H locs cells slots Q (F0 m pc ls (.int y :: .int x :: rest)) := lv_icmp_lt hexec hb hdg ht (fun hc => kt (if_some_t hJ hc)) (fun hc => kf (if_some_f hJ hc))
theorem jif_lt (hexec : p.tables.exec = Jvm.exec) (hb : c.code = cc) {β : Type} {x : Int32} {off : Int} {tgt : Nat} {u v : Option β} {o : β} (hdg : decode cc pc = .ok (.ifCond .lt off, 3)) (ht : (pc : Int) + off = (tgt : Int)) (hJ : (if x < 0 then u else v) = some o) (kt : u = some o → W p l e R s m args below meth c H locs cells slots Q (F0 m tgt ls rest)) (kf : v = some o → W p l e R s m args below meth c H locs cells slots Q (F0 m (pc + 3) ls rest)) : W p l e R s m args below meth c H locs cells slots Q (F0 m pc ls (.int x :: rest)) := lv_if_lt hexec hb hdg ht (fun hc => kt (if_some_t hJ hc)) (fun hc => kf (if_some_f hJ hc))
theorem jif_icmp_ge (hexec : p.tables.exec = Jvm.exec) (hb : c.code = cc) {β : Type} {x y : Int32} {off : Int} {tgt : Nat} {u v : Option β} {o : β} (hdg : decode cc pc = .ok (.if_icmp .ge off, 3)) (ht : (pc : Int) + off = (tgt : Int)) (hJ : (if y ≤ x then u else v) = some o) (kt : u = some o → W p l e R s m args below meth c H locs cells slots Q (F0 m tgt ls rest)) (kf : v = some o → W p l e R s m args below meth c H locs cells slots Q (F0 m (pc + 3) ls rest)) : W p l e R s m args below meth c H locs cells slots Q (F0 m pc ls (.int y :: .int x :: rest)) := lv_icmp_ge hexec hb hdg ht (fun hc => kt (if_some_t hJ hc)) (fun hc => kf (if_some_f hJ hc))
theorem jif_ge (hexec : p.tables.exec = Jvm.exec) (hb : c.code = cc) {β : Type} {x : Int32} {off : Int} {tgt : Nat} {u v : Option β} {o : β} (hdg : decode cc pc = .ok (.ifCond .ge off, 3)) (ht : (pc : Int) + off = (tgt : Int)) (hJ : (if 0 ≤ x then u else v) = some o) (kt : u = some o → W p l e R s m args below meth c H locs cells slots Q (F0 m tgt ls rest)) (kf : v = some o → W p l e R s m args below meth c H locs cells slots Q (F0 m (pc + 3) ls rest)) : W p l e R s m args below meth c H locs cells slots Q (F0 m pc ls (.int x :: rest)) := lv_if_ge hexec hb hdg ht (fun hc => kt (if_some_t hJ hc)) (fun hc => kf (if_some_f hJ hc))
theorem jif_icmp_gt (hexec : p.tables.exec = Jvm.exec) (hb : c.code = cc) {β : Type} {x y : Int32} {off : Int} {tgt : Nat} {u v : Option β} {o : β} (hdg : decode cc pc = .ok (.if_icmp .gt off, 3)) (ht : (pc : Int) + off = (tgt : Int)) (hJ : (if y < x then u else v) = some o) (kt : u = some o → W p l e R s m args below meth c H locs cells slots Q (F0 m tgt ls rest)) (kf : v = some o → W p l e R s m args below meth c H locs cells slots Q (F0 m (pc + 3) ls rest)) : W p l e R s m args below meth c H locs cells slots Q (F0 m pc ls (.int y :: .int x :: rest)) := lv_icmp_gt hexec hb hdg ht (fun hc => kt (if_some_t hJ hc)) (fun hc => kf (if_some_f hJ hc))
theorem jif_gt (hexec : p.tables.exec = Jvm.exec) (hb : c.code = cc) {β : Type} {x : Int32} {off : Int} {tgt : Nat} {u v : Option β} {o : β} (hdg : decode cc pc = .ok (.ifCond .gt off, 3)) (ht : (pc : Int) + off = (tgt : Int)) (hJ : (if 0 < x then u else v) = some o) (kt : u = some o → W p l e R s m args below meth c H locs cells slots Q (F0 m tgt ls rest)) (kf : v = some o → W p l e R s m args below meth c H locs cells slots Q (F0 m (pc + 3) ls rest)) : W p l e R s m args below meth c H locs cells slots Q (F0 m pc ls (.int x :: rest)) := lv_if_gt hexec hb hdg ht (fun hc => kt (if_some_t hJ hc)) (fun hc => kf (if_some_f hJ hc))
theorem jif_icmp_le (hexec : p.tables.exec = Jvm.exec) (hb : c.code = cc) {β : Type} {x y : Int32} {off : Int} {tgt : Nat} {u v : Option β} {o : β} (hdg : decode cc pc = .ok (.if_icmp .le off, 3)) (ht : (pc : Int) + off = (tgt : Int)) (hJ : (if x ≤ y then u else v) = some o) (kt : u = some o → W p l e R s m args below meth c H locs cells slots Q (F0 m tgt ls rest)) (kf : v = some o → W p l e R s m args below meth c H locs cells slots Q (F0 m (pc + 3) ls rest)) : W p l e R s m args below meth c H locs cells slots Q (F0 m pc ls (.int y :: .int x :: rest)) := lv_icmp_le hexec hb hdg ht (fun hc => kt (if_some_t hJ hc)) (fun hc => kf (if_some_f hJ hc))
theorem jif_le (hexec : p.tables.exec = Jvm.exec) (hb : c.code = cc) {β : Type} {x : Int32} {off : Int} {tgt : Nat} {u v : Option β} {o : β} (hdg : decode cc pc = .ok (.ifCond .le off, 3)) (ht : (pc : Int) + off = (tgt : Int)) (hJ : (if x ≤ 0 then u else v) = some o) (kt : u = some o → W p l e R s m args below meth c H locs cells slots Q (F0 m tgt ls rest)) (kf : v = some o → W p l e R s m args below meth c H locs cells slots Q (F0 m (pc + 3) ls rest)) : W p l e R s m args below meth c H locs cells slots Q (F0 m pc ls (.int x :: rest)) := lv_if_le hexec hb hdg ht (fun hc => kt (if_some_t hJ hc)) (fun hc => kf (if_some_f hJ hc))
/-- facts of the tables that a nest mate's call needs: they aren't among a method's words -/
def nst (U : State) : Prop := va_Nw (.methodLinkNest RX2 61 yX9_isPlace RX9) U ∧ va_Nw (.methodLinkNest RX2 94 yX9_isIn RX9) U ∧ va_Nw (.methodLinkNest RX5 28 yX9_isIn RX9) U ∧ va_Nw (.methodLinkNest RX7 37 yX9_isIn RX9) U ∧ va_Nw (.methodLinkNest RX9 28 yX0_init RX9) U ∧ va_Nw (.methodLinkNest RX9 35 yX1_init RX9) U ∧ va_Nw (.methodLinkNest RX9 42 yX8_init RX9) U ∧ va_Nw (.methodLinkNest RX9 49 yX3_init RX9) U ∧ va_Nw (.methodLinkNest RX9 56 yX6_init RX9) U
theorem nst_warm {s U : State} (hW : s.WarmedH U.vm) (h : nst s) : nst U := by
  obtain ⟨n0, n1, n2, n3, n4, n5, n6, n7, n8⟩ := h
  exact ⟨va_Nw.warmM hW n0, va_Nw.warmM hW n1, va_Nw.warmM hW n2, va_Nw.warmM hW n3, va_Nw.warmM hW n4, va_Nw.warmM hW n5, va_Nw.warmM hW n6, va_Nw.warmM hW n7, va_Nw.warmM hW n8⟩
theorem nst_same {u U : State} (hvm : u.vm = U.vm) (h : nst u) : nst U := by
  obtain ⟨n0, n1, n2, n3, n4, n5, n6, n7, n8⟩ := h
  exact ⟨va_Nw.same rfl hvm n0, va_Nw.same rfl hvm n1, va_Nw.same rfl hvm n2, va_Nw.same rfl hvm n3, va_Nw.same rfl hvm n4, va_Nw.same rfl hvm n5, va_Nw.same rfl hvm n6, va_Nw.same rfl hvm n7, va_Nw.same rfl hvm n8⟩
def jpre (D : va_G) (tys : List (ClassId × FieldType)) (W0 : va_W) (sz : Nat) (U : State) : Prop := U.heap.size = sz ∧ va_P D vwCl W0 U.heap ∧ va_K D vwCl tys U ∧ va_D (fun _ => True) W0 ∧ nst U
def jpost (D : va_G) (tys : List (ClassId × FieldType)) (A : Nat → Prop) (W1 : va_W) (t : State) : Prop := va_P D vwCl W1 t.heap ∧ va_K D vwCl tys t ∧ va_D A W1
theorem jpre_blind {av : List Value} {W0 : va_W} {sz : Nat} : FrameBlind (va_Pc av (jpre D tys W0 sz)) :=
  fun a U g mk q => by
    obtain ⟨q0, q1, qP, qK, qD, qN⟩ := q
    exact ⟨q0, q1, qP, va_K.moved (u := U) (U := U.calling g mk a) (Vm.Alike.refl U.vm) qK, qD, nst_same (u := U) (U := U.calling g mk a) rfl qN⟩
theorem jpre_at {av : List Value} {W0 : va_W} (hK : va_K D vwCl tys s) (hN : nst s) (hP : va_P D vwCl W0 H) (hD : va_D A W0) : ∀ U : State, U.heap = H → s.WarmedH U.vm → va_Pc av (jpre D tys W0 H.size) av.toArray U :=
  fun U hU hW => ⟨rfl, by rw [hU], by rw [hU]; exact hP, va_K.moved hW.alike hK, hD.weaken (fun _ _ _ _ => trivial), nst_warm hW hN⟩
theorem filterMap_of {α β : Type} {f : α → Option β} {l : List α} {l' : List β} (h : l.map f = l'.map some) : l.filterMap f = l' := by
  induction l generalizing l' with
  | nil => cases l' with
    | nil => rfl
    | cons b t => cases h
  | cons a t ih => cases l' with
    | nil => cases h
    | cons b t' =>
      simp only [List.map_cons, List.cons.injEq] at h
      rw [List.filterMap_cons, h.1]
      simp only [ih h.2]
/-- a method that answers an int: its walk, from its entry -/
theorem jE_i {y : MethodName} {ws0 ws' : List Cond} {rm : Room} {maxL : Nat} {own : String} {ret : Option FieldType} {av : List Value} {lv0 : List (Nat × Value)} {W0 W1 : va_W} {sz : Nat} {r : Int32}
    (hy : plainName y.cls = true) (hw : ws0 = Cond.code y cc maxL ret :: ws') (hyo : y.cls = own) (hret : ret = some .int) (hal : (lg_sl av).length ≤ maxL) (hlv : lv_args 0 av = lv0)
    (body : ∀ p e s m args below meth c A Q ls, p.tables.exec = Jvm.exec → c.code = cc → c.maxLocals = maxL → s.vm.findClass own = some m.cls → (∀ w ∈ ws0, w.before args s = true) → va_K D vwCl tys s → nst s → (∀ q : Nat, s.heap.size ≤ q → A q) → va_P D vwCl W0 s.heap → va_D A W0 → va_S A s.heap s.heap [] → lv_has ls maxL lv0 →
      (∀ {H : Heap} {locs : List Loc} {pc : Nat} {ls : Array Slot} {v : Int32}, va_P D vwCl W1 H → va_D A W1 → va_S A s.heap H locs → v = r → decode cc pc = .ok (.ireturn, 1) → W p l e rm s m args below meth c H locs 0 0 Q (F0 m pc ls [.int v])) →
      W p l e rm s m args below meth c s.heap [] 0 0 Q (F0 m 0 ls [])) :
    Met l y ws0 rm (va_Pc av (jpre D tys W0 sz)) (va_Qi (fun r' (_ : Unit) => r' = r) (fun _ t => jpost D tys (va_A W0 sz) W1 t) (va_A W0 sz)) 0 0 (va_A W0 sz) := by
  refine Met.ofW (cc := cc) (maxL := maxL) (ret := ret) hy hw ?_
  intro p e s m args below meth c s₁ B hml hv
  obtain ⟨rfl, hsz, hP, hK, hD0, hN⟩ := hv
  subst hsz
  have hl := lv_entry av hal
  rw [hlv] at hl
  rw [lg_entry_eq]
  have hown : s.vm.findClass own = some m.cls := hyo ▸ findClass_of_methodNamed B.named
  refine body p e s m _ below meth c (va_A W0 s.heap.size) _ _ B.exec B.bytes hml hown (atoms_spec (ws := ws0) B.pre) hK hN (fun q h => Or.inr h) hP hD0.self va_S.rf hl ?_
  intro H locs pc ls v hP hD hS hv hdg
  exact W.iret (v := v) B.exec B.bytes (hret ▸ B.returns) (fun t ht hW => ⟨⟨v, (), rfl, hv, by rw [ht]; exact hP, va_K.moved hW.alike hK, hD⟩, hS.F ht⟩) hS.2.2 hdg B.notSynchronized
/-- .. a boolean -/
theorem jE_z {y : MethodName} {ws0 ws' : List Cond} {rm : Room} {maxL : Nat} {own : String} {ret : Option FieldType} {av : List Value} {lv0 : List (Nat × Value)} {W0 W1 : va_W} {sz : Nat} {r : Int32}
    (hy : plainName y.cls = true) (hw : ws0 = Cond.code y cc maxL ret :: ws') (hyo : y.cls = own) (hret : ret = some .boolean) (hal : (lg_sl av).length ≤ maxL) (hlv : lv_args 0 av = lv0)
    (body : ∀ p e s m args below meth c A Q ls, p.tables.exec = Jvm.exec → c.code = cc → c.maxLocals = maxL → s.vm.findClass own = some m.cls → (∀ w ∈ ws0, w.before args s = true) → va_K D vwCl tys s → nst s → (∀ q : Nat, s.heap.size ≤ q → A q) → va_P D vwCl W0 s.heap → va_D A W0 → va_S A s.heap s.heap [] → lv_has ls maxL lv0 →
      (∀ {H : Heap} {locs : List Loc} {pc : Nat} {ls : Array Slot} {v : Int32}, va_P D vwCl W1 H → va_D A W1 → va_S A s.heap H locs → (v = 0 ∨ v = 1) → v = r → decode cc pc = .ok (.ireturn, 1) → W p l e rm s m args below meth c H locs 0 0 Q (F0 m pc ls [.int v])) →
      W p l e rm s m args below meth c s.heap [] 0 0 Q (F0 m 0 ls [])) :
    Met l y ws0 rm (va_Pc av (jpre D tys W0 sz)) (va_Qi (fun r' (_ : Unit) => r' = r) (fun _ t => jpost D tys (va_A W0 sz) W1 t) (va_A W0 sz)) 0 0 (va_A W0 sz) := by
  refine Met.ofW (cc := cc) (maxL := maxL) (ret := ret) hy hw ?_
  intro p e s m args below meth c s₁ B hml hv
  obtain ⟨rfl, hsz, hP, hK, hD0, hN⟩ := hv
  subst hsz
  have hl := lv_entry av hal
  rw [hlv] at hl
  rw [lg_entry_eq]
  have hown : s.vm.findClass own = some m.cls := hyo ▸ findClass_of_methodNamed B.named
  refine body p e s m _ below meth c (va_A W0 s.heap.size) _ _ B.exec B.bytes hml hown (atoms_spec (ws := ws0) B.pre) hK hN (fun q h => Or.inr h) hP hD0.self va_S.rf hl ?_
  intro H locs pc ls v hP hD hS h01 hv hdg
  exact W.zret (v := v) (ty := .boolean) B.exec B.bytes (hret ▸ B.returns) (by rcases h01 with h | h <;> (rw [h]; rfl)) (fun t ht hW => ⟨⟨v, (), rfl, hv, by rw [ht]; exact hP, va_K.moved hW.alike hK, hD⟩, hS.F ht⟩) hS.2.2 hdg B.notSynchronized
/-- .. a long -/
theorem jE_l {y : MethodName} {ws0 ws' : List Cond} {rm : Room} {maxL : Nat} {own : String} {ret : Option FieldType} {av : List Value} {lv0 : List (Nat × Value)} {W0 W1 : va_W} {sz : Nat} {r : Int64}
    (hy : plainName y.cls = true) (hw : ws0 = Cond.code y cc maxL ret :: ws') (hyo : y.cls = own) (hret : ret = some .long) (hal : (lg_sl av).length ≤ maxL) (hlv : lv_args 0 av = lv0)
    (body : ∀ p e s m args below meth c A Q ls, p.tables.exec = Jvm.exec → c.code = cc → c.maxLocals = maxL → s.vm.findClass own = some m.cls → (∀ w ∈ ws0, w.before args s = true) → va_K D vwCl tys s → nst s → (∀ q : Nat, s.heap.size ≤ q → A q) → va_P D vwCl W0 s.heap → va_D A W0 → va_S A s.heap s.heap [] → lv_has ls maxL lv0 →
      (∀ {H : Heap} {locs : List Loc} {pc : Nat} {ls : Array Slot} {v : Int64}, va_P D vwCl W1 H → va_D A W1 → va_S A s.heap H locs → v = r → decode cc pc = .ok (.lreturn, 1) → W p l e rm s m args below meth c H locs 0 0 Q (F0 m pc ls [.long v])) →
      W p l e rm s m args below meth c s.heap [] 0 0 Q (F0 m 0 ls [])) :
    Met l y ws0 rm (va_Pc av (jpre D tys W0 sz)) (va_Ql (fun r' (_ : Unit) => r' = r) (fun _ t => jpost D tys (va_A W0 sz) W1 t) (va_A W0 sz)) 0 0 (va_A W0 sz) := by
  refine Met.ofW (cc := cc) (maxL := maxL) (ret := ret) hy hw ?_
  intro p e s m args below meth c s₁ B hml hv
  obtain ⟨rfl, hsz, hP, hK, hD0, hN⟩ := hv
  subst hsz
  have hl := lv_entry av hal
  rw [hlv] at hl
  rw [lg_entry_eq]
  have hown : s.vm.findClass own = some m.cls := hyo ▸ findClass_of_methodNamed B.named
  refine body p e s m _ below meth c (va_A W0 s.heap.size) _ _ B.exec B.bytes hml hown (atoms_spec (ws := ws0) B.pre) hK hN (fun q h => Or.inr h) hP hD0.self va_S.rf hl ?_
  intro H locs pc ls v hP hD hS hv hdg
  exact W.lret (v := v) B.exec B.bytes (hret ▸ B.returns) (fun t ht hW => ⟨⟨v, (), rfl, hv, by rw [ht]; exact hP, va_K.moved hW.alike hK, hD⟩, hS.F ht⟩) hS.2.2 hdg B.notSynchronized
/-- .. nothing -/
theorem jE_v {y : MethodName} {ws0 ws' : List Cond} {rm : Room} {maxL : Nat} {own : String} {ret : Option FieldType} {av : List Value} {lv0 : List (Nat × Value)} {W0 W1 : va_W} {sz : Nat}
    (hy : plainName y.cls = true) (hw : ws0 = Cond.code y cc maxL ret :: ws') (hyo : y.cls = own) (hret : ret = none) (hal : (lg_sl av).length ≤ maxL) (hlv : lv_args 0 av = lv0)
    (body : ∀ p e s m args below meth c A Q ls, p.tables.exec = Jvm.exec → c.code = cc → c.maxLocals = maxL → s.vm.findClass own = some m.cls → (∀ w ∈ ws0, w.before args s = true) → va_K D vwCl tys s → nst s → (∀ q : Nat, s.heap.size ≤ q → A q) → va_P D vwCl W0 s.heap → va_D A W0 → va_S A s.heap s.heap [] → lv_has ls maxL lv0 →
      (∀ {H : Heap} {locs : List Loc} {pc : Nat} {ls : Array Slot}, va_P D vwCl W1 H → va_D A W1 → va_S A s.heap H locs → decode cc pc = .ok (.return_, 1) → W p l e rm s m args below meth c H locs 0 0 Q (F0 m pc ls [])) →
      W p l e rm s m args below meth c s.heap [] 0 0 Q (F0 m 0 ls [])) :
    Met l y ws0 rm (va_Pc av (jpre D tys W0 sz)) (va_Qv (fun (_ : Unit) => True) (fun _ t => jpost D tys (va_A W0 sz) W1 t) (va_A W0 sz)) 0 0 (va_A W0 sz) := by
  refine Met.ofW (cc := cc) (maxL := maxL) (ret := ret) hy hw ?_
  intro p e s m args below meth c s₁ B hml hv
  obtain ⟨rfl, hsz, hP, hK, hD0, hN⟩ := hv
  subst hsz
  have hl := lv_entry av hal
  rw [hlv] at hl
  rw [lg_entry_eq]
  have hown : s.vm.findClass own = some m.cls := hyo ▸ findClass_of_methodNamed B.named
  refine body p e s m _ below meth c (va_A W0 s.heap.size) _ _ B.exec B.bytes hml hown (atoms_spec (ws := ws0) B.pre) hK hN (fun q h => Or.inr h) hP hD0.self va_S.rf hl ?_
  intro H locs pc ls hP hD hS hdg
  exact W.vret B.exec B.bytes (hret ▸ B.returns) (fun t ht hW => ⟨⟨(), rfl, trivial, by rw [ht]; exact hP, va_K.moved hW.alike hK, hD⟩, hS.F ht⟩) hS.2.2 hdg B.notSynchronized
/-- behind a call: what came back beside the rest, in the caller's order -/
theorem jback {wc w1 wr ws2 : va_W} {H1 : Heap} {t : State} {isC isR isB : List Nat} (hP : va_P D vwCl ws H) (hD : va_D A ws) (hS : va_S A H0 H locs) (hA : ∀ q : Nat, H0.size ≤ q → A q) (hC : isC.map (fun i => ws[i]?) = wc.map some) (hR : isR.map (fun i => ws[i]?) = wr.map some) (hnR : va_nd isR = true) (hdis : ∀ i ∈ isR, i ∉ isC) (hB : isB.map (fun i => (wr ++ w1)[i]?) = ws2.map some) (hnB : va_nd isB = true)
    (ht : t.heap = H1) (hb : jpost D tys (va_A wc H.size) w1 t) (hk : ∀ q : Nat, q < H.size → ¬ va_A wc H.size q → H1[q]? = H[q]?) : va_P D vwCl ws2 H1 ∧ va_D A ws2 := by
  obtain ⟨hP1, -, hD1⟩ := hb
  rw [ht] at hP1
  have hF := va_free hD hS hA isC hC
  obtain ⟨a1, a2⟩ := va_join hP hD isC isR hC hR hnR hdis hk hF hP1 hD1
  exact ⟨a1.sub isB (filterMap_of hB), a2.sub isB hnB hB⟩
section JCall
variable {bytes : ByteArray} {maxL nL n index : Nat} {ret : Option FieldType} {wy : List Cond} {rm : Room} {Ts : List Cond} {own C : String} {b : Addr} {As : List Value} {st0 : List Value} {lv : List (Nat × Value)} {y : MethodName}
variable {wc w1 wr ws2 : va_W} {isC isR isB : List Nat} {ci q0 N : Nat} {T : u_T} {fs : List Value}
theorem jcV_i {r : Int32} (S : CallFix p m c cc nL s args Ts own) (hM : Met l y wy rm (va_Pc (.ref b :: As) (jpre D tys wc H.size)) (va_Qi (fun r' (_ : Unit) => r' = r) (fun _ t => jpost D tys (va_A wc H.size) w1 t) (va_A wc H.size)) 0 0 (va_A wc H.size))
    (cw : CallW R s args own C index y bytes maxL ret wy rm 0 0 n) (hn : As.length = n) (hls : lv_has ls nL lv) (hst : st0 = As.reverse ++ .ref b :: rest) (hW : (rest.map fun v => v.category).sum ≤ 8) (hdg : decode cc pc = .ok (.invokevirtual index, 3)) (hf : cells ≤ R.cells ∧ slots ≤ R.slots)
    (hK : va_K D vwCl tys s) (hN : nst s) (hP : va_P D vwCl ws H) (hD : va_D A ws) (hS : va_S A H0 H locs) (hA : ∀ q : Nat, H0.size ≤ q → A q) (hci : vwCl[ci]? = some (C, T, N)) (hq0 : wc[q0]? = some (b, .inr (ci, fs))) 
    (hC : isC.map (fun i => ws[i]?) = wc.map some) (hnC : va_nd isC = true) (hR : isR.map (fun i => ws[i]?) = wr.map some) (hnR : va_nd isR = true) (hdis : ∀ i ∈ isR, i ∉ isC) (hB : isB.map (fun i => (wr ++ w1)[i]?) = ws2.map some) (hnB : va_nd isB = true)
    (kk : ∀ (H1 : Heap) (locs1 : List Loc), va_P D vwCl ws2 H1 → va_D A ws2 → va_S A H0 H1 locs1 → W p l e R s m args below meth c H1 locs1 cells slots Q (F0 m (pc + 3) ls (.int r :: rest))) : W p l e R s m args below meth c H locs cells slots Q (F0 m pc ls st0) := by
  have hPc := hP.sub isC (filterMap_of hC)
  have hDc := hD.sub isC hnC hC
  have hF := va_free hD hS hA isC hC
  subst hst
  refine va_calli (va_runV (As := As) (rest := rest) S hM cw ⟨jpre_blind, va_recv hK hPc hci hq0, jpre_at hK hN hPc hDc⟩ rfl hn hls.1 rfl (lv_room hW) hdg hf) hS (fun q _ h => hF q h) hF (fun r' u t H1 locs1 ht hvm hw hB1 hz hk hS1 => ?_)
  have hw : r' = r := hw
  subst hw
  obtain ⟨a1, a2⟩ := jback hP hD hS hA hC hR hnR hdis hB hnB ht hB1 hk
  exact kk H1 locs1 a1 a2 hS1
theorem jcV_l {r : Int64} (S : CallFix p m c cc nL s args Ts own) (hM : Met l y wy rm (va_Pc (.ref b :: As) (jpre D tys wc H.size)) (va_Ql (fun r' (_ : Unit) => r' = r) (fun _ t => jpost D tys (va_A wc H.size) w1 t) (va_A wc H.size)) 0 0 (va_A wc H.size))
    (cw : CallW R s args own C index y bytes maxL ret wy rm 0 0 n) (hn : As.length = n) (hls : lv_has ls nL lv) (hst : st0 = As.reverse ++ .ref b :: rest) (hW : (rest.map fun v => v.category).sum ≤ 8) (hdg : decode cc pc = .ok (.invokevirtual index, 3)) (hf : cells ≤ R.cells ∧ slots ≤ R.slots)
    (hK : va_K D vwCl tys s) (hN : nst s) (hP : va_P D vwCl ws H) (hD : va_D A ws) (hS : va_S A H0 H locs) (hA : ∀ q : Nat, H0.size ≤ q → A q) (hci : vwCl[ci]? = some (C, T, N)) (hq0 : wc[q0]? = some (b, .inr (ci, fs))) 
    (hC : isC.map (fun i => ws[i]?) = wc.map some) (hnC : va_nd isC = true) (hR : isR.map (fun i => ws[i]?) = wr.map some) (hnR : va_nd isR = true) (hdis : ∀ i ∈ isR, i ∉ isC) (hB : isB.map (fun i => (wr ++ w1)[i]?) = ws2.map some) (hnB : va_nd isB = true)
    (kk : ∀ (H1 : Heap) (locs1 : List Loc), va_P D vwCl ws2 H1 → va_D A ws2 → va_S A H0 H1 locs1 → W p l e R s m args below meth c H1 locs1 cells slots Q (F0 m (pc + 3) ls (.long r :: rest))) : W p l e R s m args below meth c H locs cells slots Q (F0 m pc ls st0) := by
  have hPc := hP.sub isC (filterMap_of hC)
  have hDc := hD.sub isC hnC hC
  have hF := va_free hD hS hA isC hC
  subst hst
  refine va_calll (va_runV (As := As) (rest := rest) S hM cw ⟨jpre_blind, va_recv hK hPc hci hq0, jpre_at hK hN hPc hDc⟩ rfl hn hls.1 rfl (lv_room hW) hdg hf) hS (fun q _ h => hF q h) hF (fun r' u t H1 locs1 ht hvm hw hB1 hz hk hS1 => ?_)
  have hw : r' = r := hw
  subst hw
  obtain ⟨a1, a2⟩ := jback hP hD hS hA hC hR hnR hdis hB hnB ht hB1 hk
  exact kk H1 locs1 a1 a2 hS1
theorem jcV_v (S : CallFix p m c cc nL s args Ts own) (hM : Met l y wy rm (va_Pc (.ref b :: As) (jpre D tys wc H.size)) (va_Qv (fun (_ : Unit) => True) (fun _ t => jpost D tys (va_A wc H.size) w1 t) (va_A wc H.size)) 0 0 (va_A wc H.size))
    (cw : CallW R s args own C index y bytes maxL ret wy rm 0 0 n) (hn : As.length = n) (hls : lv_has ls nL lv) (hst : st0 = As.reverse ++ .ref b :: rest) (hW : (rest.map fun v => v.category).sum ≤ 8) (hdg : decode cc pc = .ok (.invokevirtual index, 3)) (hf : cells ≤ R.cells ∧ slots ≤ R.slots)
    (hK : va_K D vwCl tys s) (hN : nst s) (hP : va_P D vwCl ws H) (hD : va_D A ws) (hS : va_S A H0 H locs) (hA : ∀ q : Nat, H0.size ≤ q → A q) (hci : vwCl[ci]? = some (C, T, N)) (hq0 : wc[q0]? = some (b, .inr (ci, fs))) 
    (hC : isC.map (fun i => ws[i]?) = wc.map some) (hnC : va_nd isC = true) (hR : isR.map (fun i => ws[i]?) = wr.map some) (hnR : va_nd isR = true) (hdis : ∀ i ∈ isR, i ∉ isC) (hB : isB.map (fun i => (wr ++ w1)[i]?) = ws2.map some) (hnB : va_nd isB = true)
    (kk : ∀ (H1 : Heap) (locs1 : List Loc), va_P D vwCl ws2 H1 → va_D A ws2 → va_S A H0 H1 locs1 → W p l e R s m args below meth c H1 locs1 cells slots Q (F0 m (pc + 3) ls (rest))) : W p l e R s m args below meth c H locs cells slots Q (F0 m pc ls st0) := by
  have hPc := hP.sub isC (filterMap_of hC)
  have hDc := hD.sub isC hnC hC
  have hF := va_free hD hS hA isC hC
  subst hst
  refine va_callv (va_runV (As := As) (rest := rest) S hM cw ⟨jpre_blind, va_recv hK hPc hci hq0, jpre_at hK hN hPc hDc⟩ rfl hn hls.1 rfl (lv_room hW) hdg hf) hS (fun q _ h => hF q h) hF (fun u t H1 locs1 ht hvm hw hB1 hz hk hS1 => ?_)
  obtain ⟨a1, a2⟩ := jback hP hD hS hA hC hR hnR hdis hB hnB ht hB1 hk
  exact kk H1 locs1 a1 a2 hS1
theorem jcS_i {r : Int32} (S : CallFix p m c cc nL s args Ts own) (hM : Met l y wy rm (va_Pc (As) (jpre D tys wc H.size)) (va_Qi (fun r' (_ : Unit) => r' = r) (fun _ t => jpost D tys (va_A wc H.size) w1 t) (va_A wc H.size)) 0 0 (va_A wc H.size))
    (cw : CallB R s args own index y bytes maxL ret wy rm 0 0 n ∧ (Cond.static y).before args s = true) (hn : As.length = n) (hls : lv_has ls nL lv) (hst : st0 = As.reverse ++ rest) (hW : (rest.map fun v => v.category).sum ≤ 8) (hdg : decode cc pc = .ok (.invokestatic index, 3)) (hf : cells ≤ R.cells ∧ slots ≤ R.slots)
    (hK : va_K D vwCl tys s) (hN : nst s) (hP : va_P D vwCl ws H) (hD : va_D A ws) (hS : va_S A H0 H locs) (hA : ∀ q : Nat, H0.size ≤ q → A q) 
    (hC : isC.map (fun i => ws[i]?) = wc.map some) (hnC : va_nd isC = true) (hR : isR.map (fun i => ws[i]?) = wr.map some) (hnR : va_nd isR = true) (hdis : ∀ i ∈ isR, i ∉ isC) (hB : isB.map (fun i => (wr ++ w1)[i]?) = ws2.map some) (hnB : va_nd isB = true)
    (kk : ∀ (H1 : Heap) (locs1 : List Loc), va_P D vwCl ws2 H1 → va_D A ws2 → va_S A H0 H1 locs1 → W p l e R s m args below meth c H1 locs1 cells slots Q (F0 m (pc + 3) ls (.int r :: rest))) : W p l e R s m args below meth c H locs cells slots Q (F0 m pc ls st0) := by
  have hPc := hP.sub isC (filterMap_of hC)
  have hDc := hD.sub isC hnC hC
  have hF := va_free hD hS hA isC hC
  subst hst
  refine va_calli (va_runS (As := As) (rest := rest) S hM cw ⟨jpre_blind, jpre_at hK hN hPc hDc⟩ rfl hn hls.1 rfl (lv_room hW) hdg hf) hS (fun q _ h => hF q h) hF (fun r' u t H1 locs1 ht hvm hw hB1 hz hk hS1 => ?_)
  have hw : r' = r := hw
  subst hw
  obtain ⟨a1, a2⟩ := jback hP hD hS hA hC hR hnR hdis hB hnB ht hB1 hk
  exact kk H1 locs1 a1 a2 hS1
theorem jcS_l {r : Int64} (S : CallFix p m c cc nL s args Ts own) (hM : Met l y wy rm (va_Pc (As) (jpre D tys wc H.size)) (va_Ql (fun r' (_ : Unit) => r' = r) (fun _ t => jpost D tys (va_A wc H.size) w1 t) (va_A wc H.size)) 0 0 (va_A wc H.size))
    (cw : CallB R s args own index y bytes maxL ret wy rm 0 0 n ∧ (Cond.static y).before args s = true) (hn : As.length = n) (hls : lv_has ls nL lv) (hst : st0 = As.reverse ++ rest) (hW : (rest.map fun v => v.category).sum ≤ 8) (hdg : decode cc pc = .ok (.invokestatic index, 3)) (hf : cells ≤ R.cells ∧ slots ≤ R.slots)
    (hK : va_K D vwCl tys s) (hN : nst s) (hP : va_P D vwCl ws H) (hD : va_D A ws) (hS : va_S A H0 H locs) (hA : ∀ q : Nat, H0.size ≤ q → A q) 
    (hC : isC.map (fun i => ws[i]?) = wc.map some) (hnC : va_nd isC = true) (hR : isR.map (fun i => ws[i]?) = wr.map some) (hnR : va_nd isR = true) (hdis : ∀ i ∈ isR, i ∉ isC) (hB : isB.map (fun i => (wr ++ w1)[i]?) = ws2.map some) (hnB : va_nd isB = true)
    (kk : ∀ (H1 : Heap) (locs1 : List Loc), va_P D vwCl ws2 H1 → va_D A ws2 → va_S A H0 H1 locs1 → W p l e R s m args below meth c H1 locs1 cells slots Q (F0 m (pc + 3) ls (.long r :: rest))) : W p l e R s m args below meth c H locs cells slots Q (F0 m pc ls st0) := by
  have hPc := hP.sub isC (filterMap_of hC)
  have hDc := hD.sub isC hnC hC
  have hF := va_free hD hS hA isC hC
  subst hst
  refine va_calll (va_runS (As := As) (rest := rest) S hM cw ⟨jpre_blind, jpre_at hK hN hPc hDc⟩ rfl hn hls.1 rfl (lv_room hW) hdg hf) hS (fun q _ h => hF q h) hF (fun r' u t H1 locs1 ht hvm hw hB1 hz hk hS1 => ?_)
  have hw : r' = r := hw
  subst hw
  obtain ⟨a1, a2⟩ := jback hP hD hS hA hC hR hnR hdis hB hnB ht hB1 hk
  exact kk H1 locs1 a1 a2 hS1
theorem jcS_v (S : CallFix p m c cc nL s args Ts own) (hM : Met l y wy rm (va_Pc (As) (jpre D tys wc H.size)) (va_Qv (fun (_ : Unit) => True) (fun _ t => jpost D tys (va_A wc H.size) w1 t) (va_A wc H.size)) 0 0 (va_A wc H.size))
    (cw : CallB R s args own index y bytes maxL ret wy rm 0 0 n ∧ (Cond.static y).before args s = true) (hn : As.length = n) (hls : lv_has ls nL lv) (hst : st0 = As.reverse ++ rest) (hW : (rest.map fun v => v.category).sum ≤ 8) (hdg : decode cc pc = .ok (.invokestatic index, 3)) (hf : cells ≤ R.cells ∧ slots ≤ R.slots)
    (hK : va_K D vwCl tys s) (hN : nst s) (hP : va_P D vwCl ws H) (hD : va_D A ws) (hS : va_S A H0 H locs) (hA : ∀ q : Nat, H0.size ≤ q → A q) 
    (hC : isC.map (fun i => ws[i]?) = wc.map some) (hnC : va_nd isC = true) (hR : isR.map (fun i => ws[i]?) = wr.map some) (hnR : va_nd isR = true) (hdis : ∀ i ∈ isR, i ∉ isC) (hB : isB.map (fun i => (wr ++ w1)[i]?) = ws2.map some) (hnB : va_nd isB = true)
    (kk : ∀ (H1 : Heap) (locs1 : List Loc), va_P D vwCl ws2 H1 → va_D A ws2 → va_S A H0 H1 locs1 → W p l e R s m args below meth c H1 locs1 cells slots Q (F0 m (pc + 3) ls (rest))) : W p l e R s m args below meth c H locs cells slots Q (F0 m pc ls st0) := by
  have hPc := hP.sub isC (filterMap_of hC)
  have hDc := hD.sub isC hnC hC
  have hF := va_free hD hS hA isC hC
  subst hst
  refine va_callv (va_runS (As := As) (rest := rest) S hM cw ⟨jpre_blind, jpre_at hK hN hPc hDc⟩ rfl hn hls.1 rfl (lv_room hW) hdg hf) hS (fun q _ h => hF q h) hF (fun u t H1 locs1 ht hvm hw hB1 hz hk hS1 => ?_)
  obtain ⟨a1, a2⟩ := jback hP hD hS hA hC hR hnR hdis hB hnB ht hB1 hk
  exact kk H1 locs1 a1 a2 hS1
theorem jcN_i {host : String} {r : Int32} (S : CallFix p m c cc nL s args Ts own) (hM : Met l y wy rm (va_Pc (As) (jpre D tys wc H.size)) (va_Qi (fun r' (_ : Unit) => r' = r) (fun _ t => jpost D tys (va_A wc H.size) w1 t) (va_A wc H.size)) 0 0 (va_A wc H.size))
    (cw : va_CN R s args own index y host bytes maxL ret wy rm 0 0 n ∧ (Cond.static y).before args s = true ∧ True) (hn : As.length = n) (hls : lv_has ls nL lv) (hst : st0 = As.reverse ++ rest) (hW : (rest.map fun v => v.category).sum ≤ 8) (hdg : decode cc pc = .ok (.invokestatic index, 3)) (hf : cells ≤ R.cells ∧ slots ≤ R.slots)
    (hK : va_K D vwCl tys s) (hN : nst s) (hP : va_P D vwCl ws H) (hD : va_D A ws) (hS : va_S A H0 H locs) (hA : ∀ q : Nat, H0.size ≤ q → A q) 
    (hC : isC.map (fun i => ws[i]?) = wc.map some) (hnC : va_nd isC = true) (hR : isR.map (fun i => ws[i]?) = wr.map some) (hnR : va_nd isR = true) (hdis : ∀ i ∈ isR, i ∉ isC) (hB : isB.map (fun i => (wr ++ w1)[i]?) = ws2.map some) (hnB : va_nd isB = true)
    (kk : ∀ (H1 : Heap) (locs1 : List Loc), va_P D vwCl ws2 H1 → va_D A ws2 → va_S A H0 H1 locs1 → W p l e R s m args below meth c H1 locs1 cells slots Q (F0 m (pc + 3) ls (.int r :: rest))) : W p l e R s m args below meth c H locs cells slots Q (F0 m pc ls st0) := by
  have hPc := hP.sub isC (filterMap_of hC)
  have hDc := hD.sub isC hnC hC
  have hF := va_free hD hS hA isC hC
  subst hst
  refine va_calli (va_runSN (As := As) (rest := rest) S hM cw ⟨jpre_blind, jpre_at hK hN hPc hDc⟩ rfl hn hls.1 rfl (lv_room hW) hdg hf) hS (fun q _ h => hF q h) hF (fun r' u t H1 locs1 ht hvm hw hB1 hz hk hS1 => ?_)
  have hw : r' = r := hw
  subst hw
  obtain ⟨a1, a2⟩ := jback hP hD hS hA hC hR hnR hdis hB hnB ht hB1 hk
  exact kk H1 locs1 a1 a2 hS1
theorem jcN_l {host : String} {r : Int64} (S : CallFix p m c cc nL s args Ts own) (hM : Met l y wy rm (va_Pc (As) (jpre D tys wc H.size)) (va_Ql (fun r' (_ : Unit) => r' = r) (fun _ t => jpost D tys (va_A wc H.size) w1 t) (va_A wc H.size)) 0 0 (va_A wc H.size))
    (cw : va_CN R s args own index y host bytes maxL ret wy rm 0 0 n ∧ (Cond.static y).before args s = true ∧ True) (hn : As.length = n) (hls : lv_has ls nL lv) (hst : st0 = As.reverse ++ rest) (hW : (rest.map fun v => v.category).sum ≤ 8) (hdg : decode cc pc = .ok (.invokestatic index, 3)) (hf : cells ≤ R.cells ∧ slots ≤ R.slots)
    (hK : va_K D vwCl tys s) (hN : nst s) (hP : va_P D vwCl ws H) (hD : va_D A ws) (hS : va_S A H0 H locs) (hA : ∀ q : Nat, H0.size ≤ q → A q) 
    (hC : isC.map (fun i => ws[i]?) = wc.map some) (hnC : va_nd isC = true) (hR : isR.map (fun i => ws[i]?) = wr.map some) (hnR : va_nd isR = true) (hdis : ∀ i ∈ isR, i ∉ isC) (hB : isB.map (fun i => (wr ++ w1)[i]?) = ws2.map some) (hnB : va_nd isB = true)
    (kk : ∀ (H1 : Heap) (locs1 : List Loc), va_P D vwCl ws2 H1 → va_D A ws2 → va_S A H0 H1 locs1 → W p l e R s m args below meth c H1 locs1 cells slots Q (F0 m (pc + 3) ls (.long r :: rest))) : W p l e R s m args below meth c H locs cells slots Q (F0 m pc ls st0) := by
  have hPc := hP.sub isC (filterMap_of hC)
  have hDc := hD.sub isC hnC hC
  have hF := va_free hD hS hA isC hC
  subst hst
  refine va_calll (va_runSN (As := As) (rest := rest) S hM cw ⟨jpre_blind, jpre_at hK hN hPc hDc⟩ rfl hn hls.1 rfl (lv_room hW) hdg hf) hS (fun q _ h => hF q h) hF (fun r' u t H1 locs1 ht hvm hw hB1 hz hk hS1 => ?_)
  have hw : r' = r := hw
  subst hw
  obtain ⟨a1, a2⟩ := jback hP hD hS hA hC hR hnR hdis hB hnB ht hB1 hk
  exact kk H1 locs1 a1 a2 hS1
theorem jcN_v {host : String} (S : CallFix p m c cc nL s args Ts own) (hM : Met l y wy rm (va_Pc (As) (jpre D tys wc H.size)) (va_Qv (fun (_ : Unit) => True) (fun _ t => jpost D tys (va_A wc H.size) w1 t) (va_A wc H.size)) 0 0 (va_A wc H.size))
    (cw : va_CN R s args own index y host bytes maxL ret wy rm 0 0 n ∧ (Cond.static y).before args s = true ∧ True) (hn : As.length = n) (hls : lv_has ls nL lv) (hst : st0 = As.reverse ++ rest) (hW : (rest.map fun v => v.category).sum ≤ 8) (hdg : decode cc pc = .ok (.invokestatic index, 3)) (hf : cells ≤ R.cells ∧ slots ≤ R.slots)
    (hK : va_K D vwCl tys s) (hN : nst s) (hP : va_P D vwCl ws H) (hD : va_D A ws) (hS : va_S A H0 H locs) (hA : ∀ q : Nat, H0.size ≤ q → A q) 
    (hC : isC.map (fun i => ws[i]?) = wc.map some) (hnC : va_nd isC = true) (hR : isR.map (fun i => ws[i]?) = wr.map some) (hnR : va_nd isR = true) (hdis : ∀ i ∈ isR, i ∉ isC) (hB : isB.map (fun i => (wr ++ w1)[i]?) = ws2.map some) (hnB : va_nd isB = true)
    (kk : ∀ (H1 : Heap) (locs1 : List Loc), va_P D vwCl ws2 H1 → va_D A ws2 → va_S A H0 H1 locs1 → W p l e R s m args below meth c H1 locs1 cells slots Q (F0 m (pc + 3) ls (rest))) : W p l e R s m args below meth c H locs cells slots Q (F0 m pc ls st0) := by
  have hPc := hP.sub isC (filterMap_of hC)
  have hDc := hD.sub isC hnC hC
  have hF := va_free hD hS hA isC hC
  subst hst
  refine va_callv (va_runSN (As := As) (rest := rest) S hM cw ⟨jpre_blind, jpre_at hK hN hPc hDc⟩ rfl hn hls.1 rfl (lv_room hW) hdg hf) hS (fun q _ h => hF q h) hF (fun u t H1 locs1 ht hvm hw hB1 hz hk hS1 => ?_)
  obtain ⟨a1, a2⟩ := jback hP hD hS hA hC hR hnR hdis hB hnB ht hB1 hk
  exact kk H1 locs1 a1 a2 hS1
end JCall
end JLib

/-! OWN LIBRARY: methods as functions of the values of their cells (J_..), and the rows that tie them to the machine -/
def nm {α β : Type} (x : α) (f : α → β) : β := f x
def chk {β : Type} (i : Int32) (n : Nat) (b : Option β) : Option β := if i < 0 ∨ n ≤ i.toNatClampNeg then none else b
theorem chk_in {β : Type} {i : Int32} {n : Nat} {b : Option β} {o : β} (h : chk i n b = some o) : vp_in i n ∧ b = some o := by
  unfold chk at h
  by_cases hc : i < 0 ∨ n ≤ i.toNatClampNeg
  · rw [if_pos hc] at h; cases h
  · rw [if_neg hc] at h; exact ⟨hc, h⟩
def chz {β : Type} (v : Int32) (b : Option β) : Option β := if v = 0 ∨ v = 1 then b else none
theorem chz_ok {β : Type} {v : Int32} {b : Option β} {o : β} (h : chz v b = some o) : (v = 0 ∨ v = 1) ∧ b = some o := by
  unfold chz at h
  by_cases hc : v = 0 ∨ v = 1
  · rw [if_pos hc] at h; exact ⟨hc, h⟩
  · rw [if_neg hc] at h; cases h
def chn {β : Type} (v : Int32) (b : Option β) : Option β := if v = 0 then none else b
theorem chn_ok {β : Type} {v : Int32} {b : Option β} {o : β} (h : chn v b = some o) : ¬ v = 0 ∧ b = some o := by
  unfold chn at h
  by_cases hc : v = 0
  · rw [if_pos hc] at h; cases h
  · rw [if_neg hc] at h; exact ⟨hc, h⟩
theorem if_some_t {β : Type} {c : Prop} {d : Decidable c} {a b : Option β} {o : β} (h : (@ite _ c d a b) = some o) (hc : c) : a = some o := by rw [if_pos hc] at h; exact h
theorem if_some_f {β : Type} {c : Prop} {d : Decidable c} {a b : Option β} {o : β} (h : (@ite _ c d a b) = some o) (hc : ¬ c) : b = some o := by rw [if_neg hc] at h; exact h
def chc {β : Type} (v : Int32) (b : Option β) : Option β := if vp_nar .char v = v then b else none
theorem chc_ok {β : Type} {v : Int32} {b : Option β} {o : β} (h : chc v b = some o) : narrow .char (.int v) = .int v ∧ b = some o := by
  unfold chc at h
  by_cases hc : vp_nar .char v = v
  · rw [if_pos hc] at h; exact ⟨congrArg Value.int hc, h⟩
  · rw [if_neg hc] at h; cases h
def bnd0 {β : Type} (o : Option Unit) (f : Option β) : Option β := match o with | none => none | some _ => f
theorem bnd0_some {β : Type} {o : Option Unit} {f : Option β} {y : β} (h : bnd0 o f = some y) : o = some () ∧ f = some y := by
  cases o with
  | none => cases h
  | some a => exact ⟨rfl, h⟩
def bnd1 {α β : Type} (o : Option α) (f : α → Option β) : Option β := match o with | none => none | some a => f a
theorem bnd1_some {α β : Type} {o : Option α} {f : α → Option β} {y : β} (h : bnd1 o f = some y) : ∃ a, o = some a ∧ f a = some y := by
  cases o with
  | none => cases h
  | some a => exact ⟨a, rfl, h⟩
def bnd2 {T1 T2 Z : Type} (o : Option (T1 × T2)) (f : T1 → T2 → Option Z) : Option Z := match o with | none => none | some (a1, a2) => f a1 a2
theorem bnd2_some {T1 T2 Z : Type} {o : Option (T1 × T2)} {f : T1 → T2 → Option Z} {y : Z} (h : bnd2 o f = some y) : ∃ a1 a2, o = some (a1, a2) ∧ f a1 a2 = some y := by
  cases o with
  | none => cases h
  | some a => exact ⟨a.1, a.2, rfl, h⟩
def bnd3 {T1 T2 T3 Z : Type} (o : Option (T1 × T2 × T3)) (f : T1 → T2 → T3 → Option Z) : Option Z := match o with | none => none | some (a1, a2, a3) => f a1 a2 a3
theorem bnd3_some {T1 T2 T3 Z : Type} {o : Option (T1 × T2 × T3)} {f : T1 → T2 → T3 → Option Z} {y : Z} (h : bnd3 o f = some y) : ∃ a1 a2 a3, o = some (a1, a2, a3) ∧ f a1 a2 a3 = some y := by
  cases o with
  | none => cases h
  | some a => exact ⟨a.1, a.2.1, a.2.2, rfl, h⟩
def bnd4 {T1 T2 T3 T4 Z : Type} (o : Option (T1 × T2 × T3 × T4)) (f : T1 → T2 → T3 → T4 → Option Z) : Option Z := match o with | none => none | some (a1, a2, a3, a4) => f a1 a2 a3 a4
theorem bnd4_some {T1 T2 T3 T4 Z : Type} {o : Option (T1 × T2 × T3 × T4)} {f : T1 → T2 → T3 → T4 → Option Z} {y : Z} (h : bnd4 o f = some y) : ∃ a1 a2 a3 a4, o = some (a1, a2, a3, a4) ∧ f a1 a2 a3 a4 = some y := by
  cases o with
  | none => cases h
  | some a => exact ⟨a.1, a.2.1, a.2.2.1, a.2.2.2, rfl, h⟩
def bnd5 {T1 T2 T3 T4 T5 Z : Type} (o : Option (T1 × T2 × T3 × T4 × T5)) (f : T1 → T2 → T3 → T4 → T5 → Option Z) : Option Z := match o with | none => none | some (a1, a2, a3, a4, a5) => f a1 a2 a3 a4 a5
theorem bnd5_some {T1 T2 T3 T4 T5 Z : Type} {o : Option (T1 × T2 × T3 × T4 × T5)} {f : T1 → T2 → T3 → T4 → T5 → Option Z} {y : Z} (h : bnd5 o f = some y) : ∃ a1 a2 a3 a4 a5, o = some (a1, a2, a3, a4, a5) ∧ f a1 a2 a3 a4 a5 = some y := by
  cases o with
  | none => cases h
  | some a => exact ⟨a.1, a.2.1, a.2.2.1, a.2.2.2.1, a.2.2.2.2, rfl, h⟩
def bnd6 {T1 T2 T3 T4 T5 T6 Z : Type} (o : Option (T1 × T2 × T3 × T4 × T5 × T6)) (f : T1 → T2 → T3 → T4 → T5 → T6 → Option Z) : Option Z := match o with | none => none | some (a1, a2, a3, a4, a5, a6) => f a1 a2 a3 a4 a5 a6
theorem bnd6_some {T1 T2 T3 T4 T5 T6 Z : Type} {o : Option (T1 × T2 × T3 × T4 × T5 × T6)} {f : T1 → T2 → T3 → T4 → T5 → T6 → Option Z} {y : Z} (h : bnd6 o f = some y) : ∃ a1 a2 a3 a4 a5 a6, o = some (a1, a2, a3, a4, a5, a6) ∧ f a1 a2 a3 a4 a5 a6 = some y := by
  cases o with
  | none => cases h
  | some a => exact ⟨a.1, a.2.1, a.2.2.1, a.2.2.2.1, a.2.2.2.2.1, a.2.2.2.2.2, rfl, h⟩
def bnd7 {T1 T2 T3 T4 T5 T6 T7 Z : Type} (o : Option (T1 × T2 × T3 × T4 × T5 × T6 × T7)) (f : T1 → T2 → T3 → T4 → T5 → T6 → T7 → Option Z) : Option Z := match o with | none => none | some (a1, a2, a3, a4, a5, a6, a7) => f a1 a2 a3 a4 a5 a6 a7
theorem bnd7_some {T1 T2 T3 T4 T5 T6 T7 Z : Type} {o : Option (T1 × T2 × T3 × T4 × T5 × T6 × T7)} {f : T1 → T2 → T3 → T4 → T5 → T6 → T7 → Option Z} {y : Z} (h : bnd7 o f = some y) : ∃ a1 a2 a3 a4 a5 a6 a7, o = some (a1, a2, a3, a4, a5, a6, a7) ∧ f a1 a2 a3 a4 a5 a6 a7 = some y := by
  cases o with
  | none => cases h
  | some a => exact ⟨a.1, a.2.1, a.2.2.1, a.2.2.2.1, a.2.2.2.2.1, a.2.2.2.2.2.1, a.2.2.2.2.2.2, rfl, h⟩
def bnd8 {T1 T2 T3 T4 T5 T6 T7 T8 Z : Type} (o : Option (T1 × T2 × T3 × T4 × T5 × T6 × T7 × T8)) (f : T1 → T2 → T3 → T4 → T5 → T6 → T7 → T8 → Option Z) : Option Z := match o with | none => none | some (a1, a2, a3, a4, a5, a6, a7, a8) => f a1 a2 a3 a4 a5 a6 a7 a8
theorem bnd8_some {T1 T2 T3 T4 T5 T6 T7 T8 Z : Type} {o : Option (T1 × T2 × T3 × T4 × T5 × T6 × T7 × T8)} {f : T1 → T2 → T3 → T4 → T5 → T6 → T7 → T8 → Option Z} {y : Z} (h : bnd8 o f = some y) : ∃ a1 a2 a3 a4 a5 a6 a7 a8, o = some (a1, a2, a3, a4, a5, a6, a7, a8) ∧ f a1 a2 a3 a4 a5 a6 a7 a8 = some y := by
  cases o with
  | none => cases h
  | some a => exact ⟨a.1, a.2.1, a.2.2.1, a.2.2.2.1, a.2.2.2.2.1, a.2.2.2.2.2.1, a.2.2.2.2.2.2.1, a.2.2.2.2.2.2.2, rfl, h⟩
def bnd9 {T1 T2 T3 T4 T5 T6 T7 T8 T9 Z : Type} (o : Option (T1 × T2 × T3 × T4 × T5 × T6 × T7 × T8 × T9)) (f : T1 → T2 → T3 → T4 → T5 → T6 → T7 → T8 → T9 → Option Z) : Option Z := match o with | none => none | some (a1, a2, a3, a4, a5, a6, a7, a8, a9) => f a1 a2 a3 a4 a5 a6 a7 a8 a9
theorem bnd9_some {T1 T2 T3 T4 T5 T6 T7 T8 T9 Z : Type} {o : Option (T1 × T2 × T3 × T4 × T5 × T6 × T7 × T8 × T9)} {f : T1 → T2 → T3 → T4 → T5 → T6 → T7 → T8 → T9 → Option Z} {y : Z} (h : bnd9 o f = some y) : ∃ a1 a2 a3 a4 a5 a6 a7 a8 a9, o = some (a1, a2, a3, a4, a5, a6, a7, a8, a9) ∧ f a1 a2 a3 a4 a5 a6 a7 a8 a9 = some y := by
  cases o with
  | none => cases h
  | some a => exact ⟨a.1, a.2.1, a.2.2.1, a.2.2.2.1, a.2.2.2.2.1, a.2.2.2.2.2.1, a.2.2.2.2.2.2.1, a.2.2.2.2.2.2.2.1, a.2.2.2.2.2.2.2.2, rfl, h⟩
def bnd10 {T1 T2 T3 T4 T5 T6 T7 T8 T9 T10 Z : Type} (o : Option (T1 × T2 × T3 × T4 × T5 × T6 × T7 × T8 × T9 × T10)) (f : T1 → T2 → T3 → T4 → T5 → T6 → T7 → T8 → T9 → T10 → Option Z) : Option Z := match o with | none => none | some (a1, a2, a3, a4, a5, a6, a7, a8, a9, a10) => f a1 a2 a3 a4 a5 a6 a7 a8 a9 a10
theorem bnd10_some {T1 T2 T3 T4 T5 T6 T7 T8 T9 T10 Z : Type} {o : Option (T1 × T2 × T3 × T4 × T5 × T6 × T7 × T8 × T9 × T10)} {f : T1 → T2 → T3 → T4 → T5 → T6 → T7 → T8 → T9 → T10 → Option Z} {y : Z} (h : bnd10 o f = some y) : ∃ a1 a2 a3 a4 a5 a6 a7 a8 a9 a10, o = some (a1, a2, a3, a4, a5, a6, a7, a8, a9, a10) ∧ f a1 a2 a3 a4 a5 a6 a7 a8 a9 a10 = some y := by
  cases o with
  | none => cases h
  | some a => exact ⟨a.1, a.2.1, a.2.2.1, a.2.2.2.1, a.2.2.2.2.1, a.2.2.2.2.2.1, a.2.2.2.2.2.2.1, a.2.2.2.2.2.2.2.1, a.2.2.2.2.2.2.2.2.1, a.2.2.2.2.2.2.2.2.2, rfl, h⟩
def bnd11 {T1 T2 T3 T4 T5 T6 T7 T8 T9 T10 T11 Z : Type} (o : Option (T1 × T2 × T3 × T4 × T5 × T6 × T7 × T8 × T9 × T10 × T11)) (f : T1 → T2 → T3 → T4 → T5 → T6 → T7 → T8 → T9 → T10 → T11 → Option Z) : Option Z := match o with | none => none | some (a1, a2, a3, a4, a5, a6, a7, a8, a9, a10, a11) => f a1 a2 a3 a4 a5 a6 a7 a8 a9 a10 a11
theorem bnd11_some {T1 T2 T3 T4 T5 T6 T7 T8 T9 T10 T11 Z : Type} {o : Option (T1 × T2 × T3 × T4 × T5 × T6 × T7 × T8 × T9 × T10 × T11)} {f : T1 → T2 → T3 → T4 → T5 → T6 → T7 → T8 → T9 → T10 → T11 → Option Z} {y : Z} (h : bnd11 o f = some y) : ∃ a1 a2 a3 a4 a5 a6 a7 a8 a9 a10 a11, o = some (a1, a2, a3, a4, a5, a6, a7, a8, a9, a10, a11) ∧ f a1 a2 a3 a4 a5 a6 a7 a8 a9 a10 a11 = some y := by
  cases o with
  | none => cases h
  | some a => exact ⟨a.1, a.2.1, a.2.2.1, a.2.2.2.1, a.2.2.2.2.1, a.2.2.2.2.2.1, a.2.2.2.2.2.2.1, a.2.2.2.2.2.2.2.1, a.2.2.2.2.2.2.2.2.1, a.2.2.2.2.2.2.2.2.2.1, a.2.2.2.2.2.2.2.2.2.2, rfl, h⟩
def bnd12 {T1 T2 T3 T4 T5 T6 T7 T8 T9 T10 T11 T12 Z : Type} (o : Option (T1 × T2 × T3 × T4 × T5 × T6 × T7 × T8 × T9 × T10 × T11 × T12)) (f : T1 → T2 → T3 → T4 → T5 → T6 → T7 → T8 → T9 → T10 → T11 → T12 → Option Z) : Option Z := match o with | none => none | some (a1, a2, a3, a4, a5, a6, a7, a8, a9, a10, a11, a12) => f a1 a2 a3 a4 a5 a6 a7 a8 a9 a10 a11 a12
theorem bnd12_some {T1 T2 T3 T4 T5 T6 T7 T8 T9 T10 T11 T12 Z : Type} {o : Option (T1 × T2 × T3 × T4 × T5 × T6 × T7 × T8 × T9 × T10 × T11 × T12)} {f : T1 → T2 → T3 → T4 → T5 → T6 → T7 → T8 → T9 → T10 → T11 → T12 → Option Z} {y : Z} (h : bnd12 o f = some y) : ∃ a1 a2 a3 a4 a5 a6 a7 a8 a9 a10 a11 a12, o = some (a1, a2, a3, a4, a5, a6, a7, a8, a9, a10, a11, a12) ∧ f a1 a2 a3 a4 a5 a6 a7 a8 a9 a10 a11 a12 = some y := by
  cases o with
  | none => cases h
  | some a => exact ⟨a.1, a.2.1, a.2.2.1, a.2.2.2.1, a.2.2.2.2.1, a.2.2.2.2.2.1, a.2.2.2.2.2.2.1, a.2.2.2.2.2.2.2.1, a.2.2.2.2.2.2.2.2.1, a.2.2.2.2.2.2.2.2.2.1, a.2.2.2.2.2.2.2.2.2.2.1, a.2.2.2.2.2.2.2.2.2.2.2, rfl, h⟩
def bnd13 {T1 T2 T3 T4 T5 T6 T7 T8 T9 T10 T11 T12 T13 Z : Type} (o : Option (T1 × T2 × T3 × T4 × T5 × T6 × T7 × T8 × T9 × T10 × T11 × T12 × T13)) (f : T1 → T2 → T3 → T4 → T5 → T6 → T7 → T8 → T9 → T10 → T11 → T12 → T13 → Option Z) : Option Z := match o with | none => none | some (a1, a2, a3, a4, a5, a6, a7, a8, a9, a10, a11, a12, a13) => f a1 a2 a3 a4 a5 a6 a7 a8 a9 a10 a11 a12 a13
theorem bnd13_some {T1 T2 T3 T4 T5 T6 T7 T8 T9 T10 T11 T12 T13 Z : Type} {o : Option (T1 × T2 × T3 × T4 × T5 × T6 × T7 × T8 × T9 × T10 × T11 × T12 × T13)} {f : T1 → T2 → T3 → T4 → T5 → T6 → T7 → T8 → T9 → T10 → T11 → T12 → T13 → Option Z} {y : Z} (h : bnd13 o f = some y) : ∃ a1 a2 a3 a4 a5 a6 a7 a8 a9 a10 a11 a12 a13, o = some (a1, a2, a3, a4, a5, a6, a7, a8, a9, a10, a11, a12, a13) ∧ f a1 a2 a3 a4 a5 a6 a7 a8 a9 a10 a11 a12 a13 = some y := by
  cases o with
  | none => cases h
  | some a => exact ⟨a.1, a.2.1, a.2.2.1, a.2.2.2.1, a.2.2.2.2.1, a.2.2.2.2.2.1, a.2.2.2.2.2.2.1, a.2.2.2.2.2.2.2.1, a.2.2.2.2.2.2.2.2.1, a.2.2.2.2.2.2.2.2.2.1, a.2.2.2.2.2.2.2.2.2.2.1, a.2.2.2.2.2.2.2.2.2.2.2.1, a.2.2.2.2.2.2.2.2.2.2.2.2, rfl, h⟩
def bnd14 {T1 T2 T3 T4 T5 T6 T7 T8 T9 T10 T11 T12 T13 T14 Z : Type} (o : Option (T1 × T2 × T3 × T4 × T5 × T6 × T7 × T8 × T9 × T10 × T11 × T12 × T13 × T14)) (f : T1 → T2 → T3 → T4 → T5 → T6 → T7 → T8 → T9 → T10 → T11 → T12 → T13 → T14 → Option Z) : Option Z := match o with | none => none | some (a1, a2, a3, a4, a5, a6, a7, a8, a9, a10, a11, a12, a13, a14) => f a1 a2 a3 a4 a5 a6 a7 a8 a9 a10 a11 a12 a13 a14
theorem bnd14_some {T1 T2 T3 T4 T5 T6 T7 T8 T9 T10 T11 T12 T13 T14 Z : Type} {o : Option (T1 × T2 × T3 × T4 × T5 × T6 × T7 × T8 × T9 × T10 × T11 × T12 × T13 × T14)} {f : T1 → T2 → T3 → T4 → T5 → T6 → T7 → T8 → T9 → T10 → T11 → T12 → T13 → T14 → Option Z} {y : Z} (h : bnd14 o f = some y) : ∃ a1 a2 a3 a4 a5 a6 a7 a8 a9 a10 a11 a12 a13 a14, o = some (a1, a2, a3, a4, a5, a6, a7, a8, a9, a10, a11, a12, a13, a14) ∧ f a1 a2 a3 a4 a5 a6 a7 a8 a9 a10 a11 a12 a13 a14 = some y := by
  cases o with
  | none => cases h
  | some a => exact ⟨a.1, a.2.1, a.2.2.1, a.2.2.2.1, a.2.2.2.2.1, a.2.2.2.2.2.1, a.2.2.2.2.2.2.1, a.2.2.2.2.2.2.2.1, a.2.2.2.2.2.2.2.2.1, a.2.2.2.2.2.2.2.2.2.1, a.2.2.2.2.2.2.2.2.2.2.1, a.2.2.2.2.2.2.2.2.2.2.2.1, a.2.2.2.2.2.2.2.2.2.2.2.2.1, a.2.2.2.2.2.2.2.2.2.2.2.2.2, rfl, h⟩
def bnd15 {T1 T2 T3 T4 T5 T6 T7 T8 T9 T10 T11 T12 T13 T14 T15 Z : Type} (o : Option (T1 × T2 × T3 × T4 × T5 × T6 × T7 × T8 × T9 × T10 × T11 × T12 × T13 × T14 × T15)) (f : T1 → T2 → T3 → T4 → T5 → T6 → T7 → T8 → T9 → T10 → T11 → T12 → T13 → T14 → T15 → Option Z) : Option Z := match o with | none => none | some (a1, a2, a3, a4, a5, a6, a7, a8, a9, a10, a11, a12, a13, a14, a15) => f a1 a2 a3 a4 a5 a6 a7 a8 a9 a10 a11 a12 a13 a14 a15
theorem bnd15_some {T1 T2 T3 T4 T5 T6 T7 T8 T9 T10 T11 T12 T13 T14 T15 Z : Type} {o : Option (T1 × T2 × T3 × T4 × T5 × T6 × T7 × T8 × T9 × T10 × T11 × T12 × T13 × T14 × T15)} {f : T1 → T2 → T3 → T4 → T5 → T6 → T7 → T8 → T9 → T10 → T11 → T12 → T13 → T14 → T15 → Option Z} {y : Z} (h : bnd15 o f = some y) : ∃ a1 a2 a3 a4 a5 a6 a7 a8 a9 a10 a11 a12 a13 a14 a15, o = some (a1, a2, a3, a4, a5, a6, a7, a8, a9, a10, a11, a12, a13, a14, a15) ∧ f a1 a2 a3 a4 a5 a6 a7 a8 a9 a10 a11 a12 a13 a14 a15 = some y := by
  cases o with
  | none => cases h
  | some a => exact ⟨a.1, a.2.1, a.2.2.1, a.2.2.2.1, a.2.2.2.2.1, a.2.2.2.2.2.1, a.2.2.2.2.2.2.1, a.2.2.2.2.2.2.2.1, a.2.2.2.2.2.2.2.2.1, a.2.2.2.2.2.2.2.2.2.1, a.2.2.2.2.2.2.2.2.2.2.1, a.2.2.2.2.2.2.2.2.2.2.2.1, a.2.2.2.2.2.2.2.2.2.2.2.2.1, a.2.2.2.2.2.2.2.2.2.2.2.2.2.1, a.2.2.2.2.2.2.2.2.2.2.2.2.2.2, rfl, h⟩
def bnd32 {T1 T2 T3 T4 T5 T6 T7 T8 T9 T10 T11 T12 T13 T14 T15 T16 T17 T18 T19 T20 T21 T22 T23 T24 T25 T26 T27 T28 T29 T30 T31 T32 Z : Type} (o : Option (T1 × T2 × T3 × T4 × T5 × T6 × T7 × T8 × T9 × T10 × T11 × T12 × T13 × T14 × T15 × T16 × T17 × T18 × T19 × T20 × T21 × T22 × T23 × T24 × T25 × T26 × T27 × T28 × T29 × T30 × T31 × T32)) (f : T1 → T2 → T3 → T4 → T5 → T6 → T7 → T8 → T9 → T10 → T11 → T12 → T13 → T14 → T15 → T16 → T17 → T18 → T19 → T20 → T21 → T22 → T23 → T24 → T25 → T26 → T27 → T28 → T29 → T30 → T31 → T32 → Option Z) : Option Z := match o with | none => none | some (a1, a2, a3, a4, a5, a6, a7, a8, a9, a10, a11, a12, a13, a14, a15, a16, a17, a18, a19, a20, a21, a22, a23, a24, a25, a26, a27, a28, a29, a30, a31, a32) => f a1 a2 a3 a4 a5 a6 a7 a8 a9 a10 a11 a12 a13 a14 a15 a16 a17 a18 a19 a20 a21 a22 a23 a24 a25 a26 a27 a28 a29 a30 a31 a32
theorem bnd32_some {T1 T2 T3 T4 T5 T6 T7 T8 T9 T10 T11 T12 T13 T14 T15 T16 T17 T18 T19 T20 T21 T22 T23 T24 T25 T26 T27 T28 T29 T30 T31 T32 Z : Type} {o : Option (T1 × T2 × T3 × T4 × T5 × T6 × T7 × T8 × T9 × T10 × T11 × T12 × T13 × T14 × T15 × T16 × T17 × T18 × T19 × T20 × T21 × T22 × T23 × T24 × T25 × T26 × T27 × T28 × T29 × T30 × T31 × T32)} {f : T1 → T2 → T3 → T4 → T5 → T6 → T7 → T8 → T9 → T10 → T11 → T12 → T13 → T14 → T15 → T16 → T17 → T18 → T19 → T20 → T21 → T22 → T23 → T24 → T25 → T26 → T27 → T28 → T29 → T30 → T31 → T32 → Option Z} {y : Z} (h : bnd32 o f = some y) : ∃ a1 a2 a3 a4 a5 a6 a7 a8 a9 a10 a11 a12 a13 a14 a15 a16 a17 a18 a19 a20 a21 a22 a23 a24 a25 a26 a27 a28 a29 a30 a31 a32, o = some (a1, a2, a3, a4, a5, a6, a7, a8, a9, a10, a11, a12, a13, a14, a15, a16, a17, a18, a19, a20, a21, a22, a23, a24, a25, a26, a27, a28, a29, a30, a31, a32) ∧ f a1 a2 a3 a4 a5 a6 a7 a8 a9 a10 a11 a12 a13 a14 a15 a16 a17 a18 a19 a20 a21 a22 a23 a24 a25 a26 a27 a28 a29 a30 a31 a32 = some y := by
  cases o with
  | none => cases h
  | some a => exact ⟨a.1, a.2.1, a.2.2.1, a.2.2.2.1, a.2.2.2.2.1, a.2.2.2.2.2.1, a.2.2.2.2.2.2.1, a.2.2.2.2.2.2.2.1, a.2.2.2.2.2.2.2.2.1, a.2.2.2.2.2.2.2.2.2.1, a.2.2.2.2.2.2.2.2.2.2.1, a.2.2.2.2.2.2.2.2.2.2.2.1, a.2.2.2.2.2.2.2.2.2.2.2.2.1, a.2.2.2.2.2.2.2.2.2.2.2.2.2.1, a.2.2.2.2.2.2.2.2.2.2.2.2.2.2.1, a.2.2.2.2.2.2.2.2.2.2.2.2.2.2.2.1, a.2.2.2.2.2.2.2.2.2.2.2.2.2.2.2.2.1, a.2.2.2.2.2.2.2.2.2.2.2.2.2.2.2.2.2.1, a.2.2.2.2.2.2.2.2.2.2.2.2.2.2.2.2.2.2.1, a.2.2.2.2.2.2.2.2.2.2.2.2.2.2.2.2.2.2.2.1, a.2.2.2.2.2.2.2.2.2.2.2.2.2.2.2.2.2.2.2.2.1, a.2.2.2.2.2.2.2.2.2.2.2.2.2.2.2.2.2.2.2.2.2.1, a.2.2.2.2.2.2.2.2.2.2.2.2.2.2.2.2.2.2.2.2.2.2.1, a.2.2.2.2.2.2.2.2.2.2.2.2.2.2.2.2.2.2.2.2.2.2.2.1, a.2.2.2.2.2.2.2.2.2.2.2.2.2.2.2.2.2.2.2.2.2.2.2.2.1, a.2.2.2.2.2.2.2.2.2.2.2.2.2.2.2.2.2.2.2.2.2.2.2.2.2.1, a.2.2.2.2.2.2.2.2.2.2.2.2.2.2.2.2.2.2.2.2.2.2.2.2.2.2.1, a.2.2.2.2.2.2.2.2.2.2.2.2.2.2.2.2.2.2.2.2.2.2.2.2.2.2.2.1, a.2.2.2.2.2.2.2.2.2.2.2.2.2.2.2.2.2.2.2.2.2.2.2.2.2.2.2.2.1, a.2.2.2.2.2.2.2.2.2.2.2.2.2.2.2.2.2.2.2.2.2.2.2.2.2.2.2.2.2.1, a.2.2.2.2.2.2.2.2.2.2.2.2.2.2.2.2.2.2.2.2.2.2.2.2.2.2.2.2.2.2.1, a.2.2.2.2.2.2.2.2.2.2.2.2.2.2.2.2.2.2.2.2.2.2.2.2.2.2.2.2.2.2.2, rfl, h⟩
/-- the fuel of every loop -/
def FU : Nat := 1000
abbrev tyL (cI cJ cC cL : ClassId) : List (ClassId × FieldType) := [(cI, .int), (cJ, .long), (cC, .char), (cL, .object "LanternLogic$Lanterns")]
theorem jsw_ne {x c : Int32} (h : ¬ x = c) {k : Int} (hk : c.toInt = k) : ¬ x.toInt = k := fun e => h (Int32.toInt_inj.mp (e.trans hk.symm))
abbrev ring45 (cI : ClassId) (Q0 Q1 Q2 Q3 Q4 : Nat → Nat) (c : Nat → Int32) (k w so ch : Nat → Nat → Int32) (st : Nat → Int64) (al ti tc se : Nat → Int32) : va_W := [(Q0 0, .inr (2, [.int (c 0), .ref (Q1 0), .ref (Q2 0), .ref (Q3 0), .ref (Q4 0), .long (st 0), .int (al 0), .int (ti 0), .int (tc 0), .int (se 0)])), (Q1 0, .inl (cI, 16, .inl (k 0))), (Q2 0, .inl (cI, 16, .inl (w 0))), (Q3 0, .inl (cI, 48, .inl (so 0))), (Q4 0, .inl (cI, 16, .inl (ch 0))), (Q0 1, .inr (2, [.int (c 1), .ref (Q1 1), .ref (Q2 1), .ref (Q3 1), .ref (Q4 1), .long (st 1), .int (al 1), .int (ti 1), .int (tc 1), .int (se 1)])), (Q1 1, .inl (cI, 16, .inl (k 1))), (Q2 1, .inl (cI, 16, .inl (w 1))), (Q3 1, .inl (cI, 48, .inl (so 1))), (Q4 1, .inl (cI, 16, .inl (ch 1))), (Q0 2, .inr (2, [.int (c 2), .ref (Q1 2), .ref (Q2 2), .ref (Q3 2), .ref (Q4 2), .long (st 2), .int (al 2), .int (ti 2), .int (tc 2), .int (se 2)])), (Q1 2, .inl (cI, 16, .inl (k 2))), (Q2 2, .inl (cI, 16, .inl (w 2))), (Q3 2, .inl (cI, 48, .inl (so 2))), (Q4 2, .inl (cI, 16, .inl (ch 2))), (Q0 3, .inr (2, [.int (c 3), .ref (Q1 3), .ref (Q2 3), .ref (Q3 3), .ref (Q4 3), .long (st 3), .int (al 3), .int (ti 3), .int (tc 3), .int (se 3)])), (Q1 3, .inl (cI, 16, .inl (k 3))), (Q2 3, .inl (cI, 16, .inl (w 3))), (Q3 3, .inl (cI, 48, .inl (so 3))), (Q4 3, .inl (cI, 16, .inl (ch 3))), (Q0 4, .inr (2, [.int (c 4), .ref (Q1 4), .ref (Q2 4), .ref (Q3 4), .ref (Q4 4), .long (st 4), .int (al 4), .int (ti 4), .int (tc 4), .int (se 4)])), (Q1 4, .inl (cI, 16, .inl (k 4))), (Q2 4, .inl (cI, 16, .inl (w 4))), (Q3 4, .inl (cI, 48, .inl (so 4))), (Q4 4, .inl (cI, 16, .inl (ch 4))), (Q0 5, .inr (2, [.int (c 5), .ref (Q1 5), .ref (Q2 5), .ref (Q3 5), .ref (Q4 5), .long (st 5), .int (al 5), .int (ti 5), .int (tc 5), .int (se 5)])), (Q1 5, .inl (cI, 16, .inl (k 5))), (Q2 5, .inl (cI, 16, .inl (w 5))), (Q3 5, .inl (cI, 48, .inl (so 5))), (Q4 5, .inl (cI, 16, .inl (ch 5))), (Q0 6, .inr (2, [.int (c 6), .ref (Q1 6), .ref (Q2 6), .ref (Q3 6), .ref (Q4 6), .long (st 6), .int (al 6), .int (ti 6), .int (tc 6), .int (se 6)])), (Q1 6, .inl (cI, 16, .inl (k 6))), (Q2 6, .inl (cI, 16, .inl (w 6))), (Q3 6, .inl (cI, 48, .inl (so 6))), (Q4 6, .inl (cI, 16, .inl (ch 6))), (Q0 7, .inr (2, [.int (c 7), .ref (Q1 7), .ref (Q2 7), .ref (Q3 7), .ref (Q4 7), .long (st 7), .int (al 7), .int (ti 7), .int (tc 7), .int (se 7)])), (Q1 7, .inl (cI, 16, .inl (k 7))), (Q2 7, .inl (cI, 16, .inl (w 7))), (Q3 7, .inl (cI, 48, .inl (so 7))), (Q4 7, .inl (cI, 16, .inl (ch 7))), (Q0 8, .inr (2, [.int (c 8), .ref (Q1 8), .ref (Q2 8), .ref (Q3 8), .ref (Q4 8), .long (st 8), .int (al 8), .int (ti 8), .int (tc 8), .int (se 8)])), (Q1 8, .inl (cI, 16, .inl (k 8))), (Q2 8, .inl (cI, 16, .inl (w 8))), (Q3 8, .inl (cI, 48, .inl (so 8))), (Q4 8, .inl (cI, 16, .inl (ch 8)))]
section JLib
variable {p : Program} {l : Launch} {e : Env} {R : Room} {s : State} {m : MethodId} {args : Array Value} {below : List Frame} {meth : Method} {c : Code} {H : Heap} {locs : List Loc} {cells slots : Nat} {Q : State → Prop}
variable {cc : ByteArray} {pc : Nat} {ls : Array Slot} {rest : List Value} {D : va_G} {cl : List vw_C} {A : Nat → Prop} {a : Nat} {tys : List (ClassId × FieldType)} {ws : va_W} {H0 : Heap}
theorem jt_i {β : Type} {x : Int32} {f : Int32 → Option β} {o : β} (hJ : nm x f = some o) (k : ∀ y : Int32, f y = some o → W p l e R s m args below meth c H locs cells slots Q (F0 m pc ls (.int y :: rest))) : W p l e R s m args below meth c H locs cells slots Q (F0 m pc ls (.int x :: rest)) := k x hJ
theorem jt_l {β : Type} {x : Int64} {f : Int64 → Option β} {o : β} (hJ : nm x f = some o) (k : ∀ y : Int64, f y = some o → W p l e R s m args below meth c H locs cells slots Q (F0 m pc ls (.long y :: rest))) : W p l e R s m args below meth c H locs cells slots Q (F0 m pc ls (.long x :: rest)) := k x hJ
theorem jt_iinc {β : Type} {x : Int32} {f : Int32 → Option β} {o : β} {P : Prop} (hJ : nm x f = some o) (k : ∀ y : Int32, x = y → f y = some o → P) : P := k x rfl hJ
theorem jt_eq {α β : Type} {x : α} {f : α → Option β} {o : β} {P : Prop} (hJ : nm x f = some o) (k : ∀ y : α, x = y → f y = some o → P) : P := k x rfl hJ
theorem jif_icmp_eq (hexec : p.tables.exec = Jvm.exec) (hb : c.code = cc) {β : Type} {x y : Int32} {off : Int} {tgt : Nat} {u v : Option β} {o : β} (hdg : decode cc pc = .ok (.if_icmp .eq off, 3)) (ht : (pc : Int) + off = (tgt : Int)) (hJ : (if x = y then u else v) = some o) (kt : u = some o → W p l e R s m args below meth c H locs cells slots Q (F0 m tgt ls rest)) (kf : v = some o → W p l e R s m args below meth c H locs cells slots Q (F0 m (pc + 3) ls rest)) : W p l e R s m args below meth c H locs cells slots Q (F0 m pc ls (.int y :: .int x :: rest)) := lv_icmp_eq hexec hb hdg ht (fun hc => kt (if_some_t hJ hc)) (fun hc => kf (if_some_f hJ hc))
theorem jif_eq (hexec : p.tables.exec = Jvm.exec) (hb : c.code = cc) {β : Type} {x : Int32} {off : Int} {tgt : Nat} {u v : Option β} {o : β} (hdg : decode cc pc = .ok (.ifCond .eq off, 3)) (ht : (pc : Int) + off = (tgt : Int)) (hJ : (if x = 0 then u else v) = some o) (kt : u = some o → W p l e R s m args below meth c H locs cells slots Q (F0 m tgt ls rest)) (kf : v = some o → W p l e R s m args below meth c H locs cells slots Q (F0 m (pc + 3) ls rest)) : W p l e R s m args below meth c H locs cells slots Q (F0 m pc ls (.int x :: rest)) := lv_if_eq hexec hb hdg ht (fun hc => kt (if_some_t hJ hc)) (fun hc => kf (if_some_f hJ hc))
theorem jif_icmp_ne (hexec : p.tables.exec = Jvm.exec) (hb : c.code = cc) {β : Type} {x y : Int32} {off : Int} {tgt : Nat} {u v : Option β} {o : β} (hdg : decode cc pc = .ok (.if_icmp .ne off, 3)) (ht : (pc : Int) + off = (tgt : Int)) (hJ : (if x = y then v else u) = some o) (kt : u = some o → W p l e R s m args below meth c H locs cells slots Q (F0 m tgt ls rest)) (kf : v = some o → W p l e R s m args below meth c H locs cells slots Q (F0 m (pc + 3) ls rest)) : W p l e R s m args below meth c H locs cells slots Q (F0 m pc ls (.int y :: .int x :: rest)) := lv_icmp_ne hexec hb hdg ht (fun hc => kt (if_some_f hJ hc)) (fun hc => kf (if_some_t hJ hc))
theorem jif_ne (hexec : p.tables.exec = Jvm.exec) (hb : c.code = cc) {β : Type} {x : Int32} {off : Int} {tgt : Nat} {u v : Option β} {o : β} (hdg : decode cc pc = .ok (.ifCond .ne off, 3)) (ht : (pc : Int) + off = (tgt : Int)) (hJ : (if x = 0 then v else u) = some o) (kt : u = some o → W p l e R s m args below meth c H locs cells slots Q (F0 m tgt ls rest)) (kf : v = some o → W p l e R s m args below meth c H locs cells slots Q (F0 m (pc + 3) ls rest)) : W p l e R s m args below meth c H locs cells slots Q (F0 m pc ls (.int x :: rest)) := lv_if_ne hexec hb hdg ht (fun hc => kt (if_some_f hJ hc)) (fun hc => kf (if_some_t hJ hc))
theorem jif_icmp_lt (hexec : p.tables.exec = Jvm.exec) (hb : c.code = cc) {β : Type} {x y : Int32} {off : Int} {tgt : Nat} {u v : Option β} {o : β} (hdg : decode cc pc = .ok (.if_icmp .lt off, 3)) (ht : (pc : Int) + off = (tgt : Int)) (hJ : (if x < y then u else v) = some o) (kt : u = some o → W p l e R s m args below meth c H locs cells slots Q (F0 m tgt ls rest)) (kf : v = some o → W p l e R s m args below meth c H locs cells slots Q (F0 m (pc + 3) ls rest)) : W p l e R s m args below meth c H locs cells slots Q (F0 m pc ls (.int y :: .int x :: rest)) := lv_icmp_lt hexec hb hdg ht (fun hc => kt (if_some_t hJ hc)) (fun hc => kf (if_some_f hJ hc))
theorem jif_lt (hexec : p.tables.exec = Jvm.exec) (hb : c.code = cc) {β : Type} {x : Int32} {off : Int} {tgt : Nat} {u v : Option β} {o : β} (hdg : decode cc pc = .ok (.ifCond .lt off, 3)) (ht : (pc : Int) + off = (tgt : Int)) (hJ : (if x < 0 then u else v) = some o) (kt : u = some o → W p l e R s m args below meth c H locs cells slots Q (F0 m tgt ls rest)) (kf : v = some o → W p l e R s m args below meth c H locs cells slots Q (F0 m (pc + 3) ls rest)) : W p l e R s m args below meth c H locs cells slots Q (F0 m pc ls (.int x :: rest)) := lv_if_lt hexec hb hdg ht (fun hc => kt (if_some_t hJ hc)) (fun hc => kf (if_some_f hJ hc))
theorem jif_icmp_ge (hexec : p.tables.exec = Jvm.exec) (hb : c.code = cc) {β : Type} {x y : Int32} {off : Int} {tgt : Nat} {u v : Option β} {o : β} (hdg : decode cc pc = .ok (.if_icmp .ge off, 3)) (ht : (pc : Int) + off = (tgt : Int)) (hJ : (if y ≤ x then u else v) = some o) (kt : u = some o → W p l e R s m args below meth c H locs cells slots Q (F0 m tgt ls rest)) (kf : v = some o → W p l e R s m args below meth c H locs cells slots Q (F0 m (pc + 3) ls rest)) : W p l e R s m args below meth c H locs cells slots Q (F0 m pc ls (.int y :: .int x :: rest)) := lv_icmp_ge hexec hb hdg ht (fun hc => kt (if_some_t hJ hc)) (fun hc => kf (if_some_f hJ hc))
theorem jif_ge (hexec : p.tables.exec = Jvm.exec) (hb : c.code = cc) {β : Type} {x : Int32} {off : Int} {tgt : Nat} {u v : Option β} {o : β} (hdg : decode cc pc = .ok (.ifCond .ge off, 3)) (ht : (pc : Int) + off = (tgt : Int)) (hJ : (if 0 ≤ x then u else v) = some o) (kt : u = some o → W p l e R s m args below meth c H locs cells slots Q (F0 m tgt ls rest)) (kf : v = some o → W p l e R s m args below meth c H locs cells slots Q (F0 m (pc + 3) ls rest)) : W p l e R s m args below meth c H locs cells slots Q (F0 m pc ls (.int x :: rest)) := lv_if_ge hexec hb hdg ht (fun hc => kt (if_some_t hJ hc)) (fun hc => kf (if_some_f hJ hc))
theorem jif_icmp_gt (hexec : p.tables.exec = Jvm.exec) (hb : c.code = cc) {β : Type} {x y : Int32} {off : Int} {tgt : Nat} {u v : Option β} {o : β} (hdg : decode cc pc = .ok (.if_icmp .gt off, 3)) (ht : (pc : Int) + off = (tgt : Int)) (hJ : (if y < x then u else v) = some o) (kt : u = some o → W p l e R s m args below meth c H locs cells slots Q (F0 m tgt ls rest)) (kf : v = some o → W p l e R s m args below meth c H locs cells slots Q (F0 m (pc + 3) ls rest)) : W p l e R s m args below meth c H locs cells slots Q (F0 m pc ls (.int y :: .int x :: rest)) := lv_icmp_gt hexec hb hdg ht (fun hc => kt (if_some_t hJ hc)) (fun hc => kf (if_some_f hJ hc))
theorem jif_gt (hexec : p.tables.exec = Jvm.exec) (hb : c.code = cc) {β : Type} {x : Int32} {off : Int} {tgt : Nat} {u v : Option β} {o : β} (hdg : decode cc pc = .ok (.ifCond .gt off, 3)) (ht : (pc : Int) + off = (tgt : Int)) (hJ : (if 0 < x then u else v) = some o) (kt : u = some o → W p l e R s m args below meth c H locs cells slots Q (F0 m tgt ls rest)) (kf : v = some o → W p l e R s m args below meth c H locs cells slots Q (F0 m (pc + 3) ls rest)) : W p l e R s m args below meth c H locs cells slots Q (F0 m pc ls (.int x :: rest)) := lv_if_gt hexec hb hdg ht (fun hc => kt (if_some_t hJ hc)) (fun hc => kf (if_some_f hJ hc))
theorem jif_icmp_le (hexec : p.tables.exec = Jvm.exec) (hb : c.code = cc) {β : Type} {x y : Int32} {off : Int} {tgt : Nat} {u v : Option β} {o : β} (hdg : decode cc pc = .ok (.if_icmp .le off, 3)) (ht : (pc : Int) + off = (tgt : Int)) (hJ : (if x ≤ y then u else v) = some o) (kt : u = some o → W p l e R s m args below meth c H locs cells slots Q (F0 m tgt ls rest)) (kf : v = some o → W p l e R s m args below meth c H locs cells slots Q (F0 m (pc + 3) ls rest)) : W p l e R s m args below meth c H locs cells slots Q (F0 m pc ls (.int y :: .int x :: rest)) := lv_icmp_le hexec hb hdg ht (fun hc => kt (if_some_t hJ hc)) (fun hc => kf (if_some_f hJ hc))
theorem jif_le (hexec : p.tables.exec = Jvm.exec) (hb : c.code = cc) {β : Type} {x : Int32} {off : Int} {tgt : Nat} {u v : Option β} {o : β} (hdg : decode cc pc = .ok (.ifCond .le off, 3)) (ht : (pc : Int) + off = (tgt : Int)) (hJ : (if x ≤ 0 then u else v) = some o) (kt : u = some o → W p l e R s m args below meth c H locs cells slots Q (F0 m tgt ls rest)) (kf : v = some o → W p l e R s m args below meth c H locs cells slots Q (F0 m (pc + 3) ls rest)) : W p l e R s m args below meth c H locs cells slots Q (F0 m pc ls (.int x :: rest)) := lv_if_le hexec hb hdg ht (fun hc => kt (if_some_t hJ hc)) (fun hc => kf (if_some_f hJ hc))
/-- facts of the tables that a nest mate's call needs: they aren't among a method's words -/
def nst (U : State) : Prop := va_Nw (.methodLinkNest RX2 61 yX9_isPlace RX9) U ∧ va_Nw (.methodLinkNest RX2 94 yX9_isIn RX9) U ∧ va_Nw (.methodLinkNest RX5 28 yX9_isIn RX9) U ∧ va_Nw (.methodLinkNest RX7 37 yX9_isIn RX9) U ∧ va_Nw (.methodLinkNest RX9 28 yX0_init RX9) U ∧ va_Nw (.methodLinkNest RX9 35 yX1_init RX9) U ∧ va_Nw (.methodLinkNest RX9 42 yX8_init RX9) U ∧ va_Nw (.methodLinkNest RX9 49 yX3_init RX9) U ∧ va_Nw (.methodLinkNest RX9 56 yX6_init RX9) U
theorem nst_warm {s U : State} (hW : s.WarmedH U.vm) (h : nst s) : nst U := by
  obtain ⟨n0, n1, n2, n3, n4, n5, n6, n7, n8⟩ := h
  exact ⟨va_Nw.warmM hW n0, va_Nw.warmM hW n1, va_Nw.warmM hW n2, va_Nw.warmM hW n3, va_Nw.warmM hW n4, va_Nw.warmM hW n5, va_Nw.warmM hW n6, va_Nw.warmM hW n7, va_Nw.warmM hW n8⟩
theorem nst_same {u U : State} (hvm : u.vm = U.vm) (h : nst u) : nst U := by
  obtain ⟨n0, n1, n2, n3, n4, n5, n6, n7, n8⟩ := h
  exact ⟨va_Nw.same rfl hvm n0, va_Nw.same rfl hvm n1, va_Nw.same rfl hvm n2, va_Nw.same rfl hvm n3, va_Nw.same rfl hvm n4, va_Nw.same rfl hvm n5, va_Nw.same rfl hvm n6, va_Nw.same rfl hvm n7, va_Nw.same rfl hvm n8⟩
/-- what else a method needs of the heap, outside what it may change -/
abbrev jX : Type := (Nat → Prop) → State → Heap → Prop
def KX (X : jX) : Prop :=
  (∀ (A : Nat → Prop) (u U : State) (H : Heap), u.vm = U.vm → X A u H → X A U H) ∧
  (∀ (A : Nat → Prop) (s U : State) (H : Heap), s.WarmedH U.vm → X A s H → X A U H) ∧
  (∀ (A : Nat → Prop) (U : State) (H H1 : Heap), (∀ a : Nat, a < H.size → ¬ A a → H1[a]? = H[a]?) → X A U H → X A U H1) ∧
  (∀ (A B : Nat → Prop) (U : State) (H : Heap), (∀ q : Nat, B q → A q) → X A U H → X B U H)
abbrev XT : jX := fun _ _ _ => True
theorem KX_T : KX XT := ⟨fun _ _ _ _ _ _ => trivial, fun _ _ _ _ _ _ => trivial, fun _ _ _ _ _ _ => trivial, fun _ _ _ _ _ _ => trivial⟩
theorem KX_and {X Y : jX} (hX : KX X) (hY : KX Y) : KX (fun A U H => X A U H ∧ Y A U H) :=
  ⟨fun A u U H h q => ⟨hX.1 A u U H h q.1, hY.1 A u U H h q.2⟩, fun A s U H h q => ⟨hX.2.1 A s U H h q.1, hY.2.1 A s U H h q.2⟩, fun A U H H1 h q => ⟨hX.2.2.1 A U H H1 h q.1, hY.2.2.1 A U H H1 h q.2⟩, fun A B U H h q => ⟨hX.2.2.2 A B U H h q.1, hY.2.2.2 A B U H h q.2⟩⟩
theorem KX_ex {α : Type} {X : α → jX} (hX : ∀ a, KX (X a)) : KX (fun A U H => ∃ a, X a A U H) :=
  ⟨fun A u U H h q => q.elim fun a q => ⟨a, (hX a).1 A u U H h q⟩, fun A s U H h q => q.elim fun a q => ⟨a, (hX a).2.1 A s U H h q⟩, fun A U H H1 h q => q.elim fun a q => ⟨a, (hX a).2.2.1 A U H H1 h q⟩, fun A B U H h q => q.elim fun a q => ⟨a, (hX a).2.2.2 A B U H h q⟩⟩
theorem KX_all {α : Type} {P : α → Prop} {X : α → jX} (hX : ∀ a, KX (X a)) : KX (fun A U H => ∀ a, P a → X a A U H) :=
  ⟨fun A u U H h q a p => (hX a).1 A u U H h (q a p), fun A s U H h q a p => (hX a).2.1 A s U H h (q a p), fun A U H H1 h q a p => (hX a).2.2.1 A U H H1 h (q a p), fun A B U H h q a p => (hX a).2.2.2 A B U H h (q a p)⟩
theorem jalike_of {u U : State} (h : u.vm = U.vm) : u.vm.Alike U.vm := by rw [h]; exact Vm.Alike.refl U.vm
theorem KX_Z {C n d : String} {v : Value} : KX (va_Z C n d v) := ⟨fun _ _ _ _ h q => q.moved (jalike_of h), fun _ _ _ _ h q => q.moved h.alike, fun _ _ _ _ h q => q.kept h, fun _ _ _ _ h q => q.narrow h⟩
theorem KX_Zq {C n d : String} : KX (va_Zq C n d) := ⟨fun _ _ _ _ h q => q.moved (jalike_of h), fun _ _ _ _ h q => q.moved h.alike, fun _ _ _ _ h q => q.kept h, fun _ _ _ _ h q => q.narrow h⟩
theorem KX_O {E : String} {t : Nat} : KX (va_O E t) := ⟨fun _ _ _ _ h q => q.moved (jalike_of h), fun _ _ _ _ h q => q.moved h.alike, fun _ _ _ _ h q => q.kept h, fun _ _ _ _ h q => q.narrow h⟩
theorem KX_OF {o n d : String} {v : Value} {t : Nat} : KX (va_OF o n d v t) := ⟨fun _ _ _ _ h q => q.moved (jalike_of h), fun _ _ _ _ h q => q.moved h.alike, fun _ _ _ _ h q => q.kept h, fun _ _ _ _ h q => q.narrow h⟩
theorem KX_Tb {ty : FieldType} {t N : Nat} {f : Nat → Value} : KX (va_T ty t N f) := ⟨fun _ _ _ _ h q => q.moved (jalike_of h), fun _ _ _ _ h q => q.moved h.alike, fun _ _ _ _ h q => q.kept h, fun _ _ _ _ h q => q.narrow h⟩
theorem KX_R {own tx : String} {k a : Nat} : KX (fun _ U _ => vk_R own k tx a U) := ⟨fun _ _ _ _ h q => q.same h.symm, fun _ _ _ _ h q => q.warm h, fun _ _ _ _ _ q => q, fun _ _ _ _ _ q => q⟩
/-- the statics that String's own methods read -/
abbrev XZ : jX := fun A U H => va_Z "java/lang/String" "COMPACT_STRINGS" "Z" (.int 1) A U H ∧ va_Zq "jdk/internal/util/Preconditions" "SIOOBE_FORMATTER" "Ljava/util/function/BiFunction;" A U H
theorem KX_XZ : KX XZ := KX_and KX_Z KX_Zq
theorem Zq_rf {C n d : String} {A : Nat → Prop} {U : State} {H : Heap} (h : va_Zq C n d A U H) : ∃ fo : Option Nat, va_Z C n d (va_rf fo) A U H := by
  rcases h with h | ⟨t, h⟩
  · exact ⟨none, h⟩
  · exact ⟨some t, h⟩
/-- a byte array with these bytes; a String with these bytes -/
abbrev isByt (v : Nat) (bs : List Int32) : jX := fun A U H => va_T .byte v bs.length (fun j => .int (bs.getD j 0)) A U H
abbrev isStr (a : Nat) (bs : List Int32) : jX := fun A U H => va_O "java/lang/String" a A U H ∧ va_OF "java/lang/String" "coder" "B" (.int 0) a A U H ∧ ∃ v : Nat, va_OF "java/lang/String" "value" "[B" (.ref v) a A U H ∧ isByt v bs A U H
theorem KX_isStr {a : Nat} {bs : List Int32} : KX (isStr a bs) := KX_and KX_O (KX_and KX_OF (KX_ex fun _ => KX_and KX_OF KX_Tb))
abbrev XP (a : Nat) (bs : List Int32) : jX := fun A U H => XZ A U H ∧ isStr a bs A U H
theorem KX_XP {a : Nat} {bs : List Int32} : KX (XP a bs) := KX_and KX_XZ KX_isStr
abbrev XB (v : Nat) (bs : List Int32) : jX := fun A U H => XZ A U H ∧ isByt v bs A U H
theorem KX_XB {v : Nat} {bs : List Int32} : KX (XB v bs) := KX_and KX_XZ KX_Tb
/-- the claim's String constants: class, entry, text, bytes -/
def strTab : List (String × Nat × String × List Int32) := [(RX8, 45, "ang ", [97, 110, 103, 32]), (RX8, 54, "ire ", [105, 114, 101, 32]), (RX8, 62, "ut ", [117, 116, 32]), (RX8, 64, "et ", [101, 116, 32]), (RX8, 69, "tick ", [116, 105, 99, 107, 32]), (RX9, 350, "not", [110, 111, 116]), (RX9, 352, "and", [97, 110, 100]), (RX9, 354, "or", [111, 114]), (RX9, 356, "unlike", [117, 110, 108, 105, 107, 101]), (RX9, 358, "most", [109, 111, 115, 116]), (RX9, 360, "alike", [97, 108, 105, 107, 101]), (RX9, 362, "switch", [115, 119, 105, 116, 99, 104]), (RL, 139, "tick ", [116, 105, 99, 107, 32]), (RL, 147, ";set ", [59, 115, 101, 116, 32]), (RL, 149, "+", [43]), (RL, 155, "cut ", [99, 117, 116, 32]), (RL, 157, ".", [46]), (RL, 159, ";hang ", [59, 104, 97, 110, 103, 32]), (RL, 161, "*1", [42, 49]), (RL, 171, "q", [113]), (RL, 173, "tick 1;tick 0", [116, 105, 99, 107, 32, 49, 59, 116, 105, 99, 107, 32, 48])]
abbrev XS : jX := fun A U H => XZ A U H ∧ ∀ q : String × Nat × String × List Int32, q ∈ strTab → ∃ a : Nat, vk_R q.1 q.2.1 q.2.2.1 a U ∧ isStr a q.2.2.2 A U H
theorem KX_XS : KX XS := KX_and KX_XZ (KX_all fun _ => KX_ex fun _ => KX_and KX_R KX_isStr)
/-- texts of one class, at the addresses adr -/
abbrev XW (own : String) (tab : List (Nat × String × List Int32)) (adr : Nat → Nat) : jX := fun _ U _ => ∀ q : Nat × String × List Int32, q ∈ tab → vk_R own q.1 q.2.1 (adr q.1) U
theorem KX_XW {own : String} {tab : List (Nat × String × List Int32)} {adr : Nat → Nat} : KX (XW own tab adr) := KX_all fun _ => KX_R
theorem XS_adr {A : Nat → Prop} {U : State} {H : Heap} {own : String} {tab : List (Nat × String × List Int32)} (h : XS A U H) (ht : ∀ q ∈ tab, (own, q.1, q.2.1, q.2.2) ∈ strTab) : ∃ adr : Nat → Nat, ∀ q ∈ tab, vk_R own q.1 q.2.1 (adr q.1) U ∧ isStr (adr q.1) q.2.2 A U H := by
  obtain ⟨adr, hadr⟩ : ∃ adr : Nat → Nat, ∀ k : Nat, adr k = (match (Term.string own k).eval #[] U none [] U with | some (.ref a) => a | _ => 0) := ⟨_, fun _ => rfl⟩
  refine ⟨adr, fun q hq => ?_⟩
  obtain ⟨a, h1, h2⟩ := h.2 _ (ht q hq)
  have e : adr q.1 = a := by rw [hadr, h1.2]
  rw [e]
  exact ⟨h1, h2⟩
theorem str_recv {A : Nat → Prop} {s : State} {H : Heap} {locs : List Loc} {a : Nat} {bs : List Int32} (h : isStr a bs A s s.heap) (hS : va_S A s.heap H locs) : ∃ cell : Cell, H[a]? = some cell ∧ cell.vm.isStatics = false ∧ s.vm.findClass "java/lang/String" = some cell.cls := by
  obtain ⟨cell, h1, h2, h3, -⟩ := h.1.kept hS.2.1
  exact ⟨cell, h1, h2, h3⟩
def jpre (X : jX) (D : va_G) (tys : List (ClassId × FieldType)) (W0 : va_W) (sz : Nat) (U : State) : Prop := U.heap.size = sz ∧ va_P D vwCl W0 U.heap ∧ va_K D vwCl tys U ∧ va_D (fun _ => True) W0 ∧ nst U ∧ X (va_A W0 sz) U U.heap
def jpost (D : va_G) (tys : List (ClassId × FieldType)) (A : Nat → Prop) (W1 : va_W) (t : State) : Prop := va_P D vwCl W1 t.heap ∧ va_K D vwCl tys t ∧ va_D A W1
theorem jpre_blind {X : jX} {av : List Value} {W0 : va_W} {sz : Nat} (hKX : KX X) : FrameBlind (va_Pc av (jpre X D tys W0 sz)) :=
  fun a U g mk q => by
    obtain ⟨q0, q1, qP, qK, qD, qN, qX⟩ := q
    exact ⟨q0, q1, qP, va_K.moved (u := U) (U := U.calling g mk a) (Vm.Alike.refl U.vm) qK, qD, nst_same (u := U) (U := U.calling g mk a) rfl qN, hKX.1 _ U (U.calling g mk a) _ rfl qX⟩
theorem jpre_at {X : jX} {av : List Value} {W0 : va_W} (hKX : KX X) (hX : X A s s.heap) (hF : ∀ q : Nat, va_A W0 H.size q → A q) (hS : va_S A s.heap H locs) (hK : va_K D vwCl tys s) (hN : nst s) (hP : va_P D vwCl W0 H) (hD : va_D A W0) : ∀ U : State, U.heap = H → s.WarmedH U.vm → va_Pc av (jpre X D tys W0 H.size) av.toArray U :=
  fun U hU hW => ⟨rfl, by rw [hU], by rw [hU]; exact hP, va_K.moved hW.alike hK, hD.weaken (fun _ _ _ _ => trivial), nst_warm hW hN, by rw [hU]; exact hKX.2.1 _ s U H hW (hKX.2.2.2 A _ s H hF (hKX.2.2.1 A s s.heap H hS.2.1 hX))⟩
theorem filterMap_of {α β : Type} {f : α → Option β} {l : List α} {l' : List β} (h : l.map f = l'.map some) : l.filterMap f = l' := by
  induction l generalizing l' with
  | nil => cases l' with
    | nil => rfl
    | cons b t => cases h
  | cons a t ih => cases l' with
    | nil => cases h
    | cons b t' =>
      simp only [List.map_cons, List.cons.injEq] at h
      rw [List.filterMap_cons, h.1]
      simp only [ih h.2]
/-- ldc_w of a String constant -/
theorem jldcwS (hexec : p.tables.exec = Jvm.exec) (hb : c.code = cc) {own tx : String} {index q : Nat} (hown : s.vm.findClass own = some m.cls) (hZ : vk_R own index tx q s) (hdg : decode cc pc = .ok (.ldc_w index, 3))
    (k : W p l e R s m args below meth c H locs cells slots Q (F0 m (pc + 3) ls (.ref q :: rest))) : W p l e R s m args below meth c H locs cells slots Q (F0 m pc ls rest) := by
  intro T hT X
  obtain ⟨t, a1, b1⟩ := k T hT X
  have hZ2 : (Cond.stringRef own index tx).before args s = true := hZ.1
  have hZ3 : (Term.string own index).eval args s none [] s = some (.ref q) := hZ.2
  obtain ⟨kk, cf, i, q', hk, hcf, hcp, -, hres, hev'⟩ := Cond.stringRef_spec hown hZ2
  cases hZ3.symm.trans hev'
  obtain ⟨k', hk', he⟩ := X.warmed.alike.2.2 _ _ hk
  have hres' : k'.resolved[index]? = some (some (.string q)) := by
    rcases X.warmed.entry hk hk' index with h | ⟨h, -⟩
    · rw [h]; exact hres
    · rw [hres] at h; cases h
  refine ⟨t, ?_, b1⟩
  have hdg' : decode c.code pc = .ok (.ldc_w index, 3) := by rw [hb]; exact hdg
  jvm_step X.here [hexec, hdg', ldc_w.wp_string (e := e) (s := T) (f := F0 m pc ls rest) X.here.top hk' (by rw [he]; exact hcf) hcp hres']
  exact a1
/-- a method that answers an int: its walk, from its entry -/
theorem jE_i {X : jX} {y : MethodName} {ws0 ws' : List Cond} {rm : Room} {maxL : Nat} {own : String} {ret : Option FieldType} {av : List Value} {lv0 : List (Nat × Value)} {W0 W1 : va_W} {sz : Nat} {r : Int32}
    (hy : plainName y.cls = true) (hw : ws0 = Cond.code y cc maxL ret :: ws') (hyo : y.cls = own) (hret : ret = some .int) (hal : (lg_sl av).length ≤ maxL) (hlv : lv_args 0 av = lv0)
    (body : ∀ p e s m args below meth c A Q ls, p.tables.exec = Jvm.exec → c.code = cc → c.maxLocals = maxL → s.vm.findClass own = some m.cls → (∀ w ∈ ws0, w.before args s = true) → va_K D vwCl tys s → nst s → X A s s.heap → (∀ q : Nat, s.heap.size ≤ q → A q) → va_P D vwCl W0 s.heap → va_D A W0 → va_S A s.heap s.heap [] → lv_has ls maxL lv0 →
      (∀ {H : Heap} {locs : List Loc} {pc : Nat} {ls : Array Slot} {v : Int32}, va_P D vwCl W1 H → va_D A W1 → va_S A s.heap H locs → v = r → decode cc pc = .ok (.ireturn, 1) → W p l e rm s m args below meth c H locs 0 0 Q (F0 m pc ls [.int v])) →
      W p l e rm s m args below meth c s.heap [] 0 0 Q (F0 m 0 ls [])) :
    Met l y ws0 rm (va_Pc av (jpre X D tys W0 sz)) (va_Qi (fun r' (_ : Unit) => r' = r) (fun _ t => jpost D tys (va_A W0 sz) W1 t) (va_A W0 sz)) 0 0 (va_A W0 sz) := by
  refine Met.ofW (cc := cc) (maxL := maxL) (ret := ret) hy hw ?_
  intro p e s m args below meth c s₁ B hml hv
  obtain ⟨rfl, hsz, hP, hK, hD0, hN, hX⟩ := hv
  subst hsz
  have hl := lv_entry av hal
  rw [hlv] at hl
  rw [lg_entry_eq]
  have hown : s.vm.findClass own = some m.cls := hyo ▸ findClass_of_methodNamed B.named
  refine body p e s m _ below meth c (va_A W0 s.heap.size) _ _ B.exec B.bytes hml hown (atoms_spec (ws := ws0) B.pre) hK hN hX (fun q h => Or.inr h) hP hD0.self va_S.rf hl ?_
  intro H locs pc ls v hP hD hS hv hdg
  exact W.iret (v := v) B.exec B.bytes (hret ▸ B.returns) (fun t ht hW => ⟨⟨v, (), rfl, hv, by rw [ht]; exact hP, va_K.moved hW.alike hK, hD⟩, hS.F ht⟩) hS.2.2 hdg B.notSynchronized
/-- .. a boolean -/
theorem jE_z {X : jX} {y : MethodName} {ws0 ws' : List Cond} {rm : Room} {maxL : Nat} {own : String} {ret : Option FieldType} {av : List Value} {lv0 : List (Nat × Value)} {W0 W1 : va_W} {sz : Nat} {r : Int32}
    (hy : plainName y.cls = true) (hw : ws0 = Cond.code y cc maxL ret :: ws') (hyo : y.cls = own) (hret : ret = some .boolean) (hal : (lg_sl av).length ≤ maxL) (hlv : lv_args 0 av = lv0)
    (body : ∀ p e s m args below meth c A Q ls, p.tables.exec = Jvm.exec → c.code = cc → c.maxLocals = maxL → s.vm.findClass own = some m.cls → (∀ w ∈ ws0, w.before args s = true) → va_K D vwCl tys s → nst s → X A s s.heap → (∀ q : Nat, s.heap.size ≤ q → A q) → va_P D vwCl W0 s.heap → va_D A W0 → va_S A s.heap s.heap [] → lv_has ls maxL lv0 →
      (∀ {H : Heap} {locs : List Loc} {pc : Nat} {ls : Array Slot} {v : Int32}, va_P D vwCl W1 H → va_D A W1 → va_S A s.heap H locs → (v = 0 ∨ v = 1) → v = r → decode cc pc = .ok (.ireturn, 1) → W p l e rm s m args below meth c H locs 0 0 Q (F0 m pc ls [.int v])) →
      W p l e rm s m args below meth c s.heap [] 0 0 Q (F0 m 0 ls [])) :
    Met l y ws0 rm (va_Pc av (jpre X D tys W0 sz)) (va_Qi (fun r' (_ : Unit) => r' = r) (fun _ t => jpost D tys (va_A W0 sz) W1 t) (va_A W0 sz)) 0 0 (va_A W0 sz) := by
  refine Met.ofW (cc := cc) (maxL := maxL) (ret := ret) hy hw ?_
  intro p e s m args below meth c s₁ B hml hv
  obtain ⟨rfl, hsz, hP, hK, hD0, hN, hX⟩ := hv
  subst hsz
  have hl := lv_entry av hal
  rw [hlv] at hl
  rw [lg_entry_eq]
  have hown : s.vm.findClass own = some m.cls := hyo ▸ findClass_of_methodNamed B.named
  refine body p e s m _ below meth c (va_A W0 s.heap.size) _ _ B.exec B.bytes hml hown (atoms_spec (ws := ws0) B.pre) hK hN hX (fun q h => Or.inr h) hP hD0.self va_S.rf hl ?_
  intro H locs pc ls v hP hD hS h01 hv hdg
  exact W.zret (v := v) (ty := .boolean) B.exec B.bytes (hret ▸ B.returns) (by rcases h01 with h | h <;> (rw [h]; rfl)) (fun t ht hW => ⟨⟨v, (), rfl, hv, by rw [ht]; exact hP, va_K.moved hW.alike hK, hD⟩, hS.F ht⟩) hS.2.2 hdg B.notSynchronized
/-- .. a byte, 0 or 1 -/
theorem jE_b {X : jX} {y : MethodName} {ws0 ws' : List Cond} {rm : Room} {maxL : Nat} {own : String} {ret : Option FieldType} {av : List Value} {lv0 : List (Nat × Value)} {W0 W1 : va_W} {sz : Nat} {r : Int32}
    (hy : plainName y.cls = true) (hw : ws0 = Cond.code y cc maxL ret :: ws') (hyo : y.cls = own) (hret : ret = some .byte) (hal : (lg_sl av).length ≤ maxL) (hlv : lv_args 0 av = lv0)
    (body : ∀ p e s m args below meth c A Q ls, p.tables.exec = Jvm.exec → c.code = cc → c.maxLocals = maxL → s.vm.findClass own = some m.cls → (∀ w ∈ ws0, w.before args s = true) → va_K D vwCl tys s → nst s → X A s s.heap → (∀ q : Nat, s.heap.size ≤ q → A q) → va_P D vwCl W0 s.heap → va_D A W0 → va_S A s.heap s.heap [] → lv_has ls maxL lv0 →
      (∀ {H : Heap} {locs : List Loc} {pc : Nat} {ls : Array Slot} {v : Int32}, va_P D vwCl W1 H → va_D A W1 → va_S A s.heap H locs → (v = 0 ∨ v = 1) → v = r → decode cc pc = .ok (.ireturn, 1) → W p l e rm s m args below meth c H locs 0 0 Q (F0 m pc ls [.int v])) →
      W p l e rm s m args below meth c s.heap [] 0 0 Q (F0 m 0 ls [])) :
    Met l y ws0 rm (va_Pc av (jpre X D tys W0 sz)) (va_Qi (fun r' (_ : Unit) => r' = r) (fun _ t => jpost D tys (va_A W0 sz) W1 t) (va_A W0 sz)) 0 0 (va_A W0 sz) := by
  refine Met.ofW (cc := cc) (maxL := maxL) (ret := ret) hy hw ?_
  intro p e s m args below meth c s₁ B hml hv
  obtain ⟨rfl, hsz, hP, hK, hD0, hN, hX⟩ := hv
  subst hsz
  have hl := lv_entry av hal
  rw [hlv] at hl
  rw [lg_entry_eq]
  have hown : s.vm.findClass own = some m.cls := hyo ▸ findClass_of_methodNamed B.named
  refine body p e s m _ below meth c (va_A W0 s.heap.size) _ _ B.exec B.bytes hml hown (atoms_spec (ws := ws0) B.pre) hK hN hX (fun q h => Or.inr h) hP hD0.self va_S.rf hl ?_
  intro H locs pc ls v hP hD hS h01 hv hdg
  exact W.zret (v := v) (ty := .byte) B.exec B.bytes (hret ▸ B.returns) (by rcases h01 with h | h <;> (rw [h]; rfl)) (fun t ht hW => ⟨⟨v, (), rfl, hv, by rw [ht]; exact hP, va_K.moved hW.alike hK, hD⟩, hS.F ht⟩) hS.2.2 hdg B.notSynchronized
/-- .. a char -/
theorem jE_c {X : jX} {y : MethodName} {ws0 ws' : List Cond} {rm : Room} {maxL : Nat} {own : String} {ret : Option FieldType} {av : List Value} {lv0 : List (Nat × Value)} {W0 W1 : va_W} {sz : Nat} {r : Int32}
    (hy : plainName y.cls = true) (hw : ws0 = Cond.code y cc maxL ret :: ws') (hyo : y.cls = own) (hret : ret = some .char) (hal : (lg_sl av).length ≤ maxL) (hlv : lv_args 0 av = lv0)
    (body : ∀ p e s m args below meth c A Q ls, p.tables.exec = Jvm.exec → c.code = cc → c.maxLocals = maxL → s.vm.findClass own = some m.cls → (∀ w ∈ ws0, w.before args s = true) → va_K D vwCl tys s → nst s → X A s s.heap → (∀ q : Nat, s.heap.size ≤ q → A q) → va_P D vwCl W0 s.heap → va_D A W0 → va_S A s.heap s.heap [] → lv_has ls maxL lv0 →
      (∀ {H : Heap} {locs : List Loc} {pc : Nat} {ls : Array Slot} {v : Int32}, va_P D vwCl W1 H → va_D A W1 → va_S A s.heap H locs → narrow .char (.int v) = .int v → v = r → decode cc pc = .ok (.ireturn, 1) → W p l e rm s m args below meth c H locs 0 0 Q (F0 m pc ls [.int v])) →
      W p l e rm s m args below meth c s.heap [] 0 0 Q (F0 m 0 ls [])) :
    Met l y ws0 rm (va_Pc av (jpre X D tys W0 sz)) (va_Qi (fun r' (_ : Unit) => r' = r) (fun _ t => jpost D tys (va_A W0 sz) W1 t) (va_A W0 sz)) 0 0 (va_A W0 sz) := by
  refine Met.ofW (cc := cc) (maxL := maxL) (ret := ret) hy hw ?_
  intro p e s m args below meth c s₁ B hml hv
  obtain ⟨rfl, hsz, hP, hK, hD0, hN, hX⟩ := hv
  subst hsz
  have hl := lv_entry av hal
  rw [hlv] at hl
  rw [lg_entry_eq]
  have hown : s.vm.findClass own = some m.cls := hyo ▸ findClass_of_methodNamed B.named
  refine body p e s m _ below meth c (va_A W0 s.heap.size) _ _ B.exec B.bytes hml hown (atoms_spec (ws := ws0) B.pre) hK hN hX (fun q h => Or.inr h) hP hD0.self va_S.rf hl ?_
  intro H locs pc ls v hP hD hS h01 hv hdg
  exact W.zret (v := v) (ty := .char) B.exec B.bytes (hret ▸ B.returns) h01 (fun t ht hW => ⟨⟨v, (), rfl, hv, by rw [ht]; exact hP, va_K.moved hW.alike hK, hD⟩, hS.F ht⟩) hS.2.2 hdg B.notSynchronized
/-- .. a text, by its entry -/
theorem jE_s {X : jX} {y : MethodName} {ws0 ws' : List Cond} {rm : Room} {maxL : Nat} {own : String} {ret : Option FieldType} {av : List Value} {lv0 : List (Nat × Value)} {W0 W1 : va_W} {sz : Nat} {r : Nat} {adr : Nat → Nat} {cn : String}
    (hy : plainName y.cls = true) (hw : ws0 = Cond.code y cc maxL ret :: ws') (hyo : y.cls = own) (hret : ret = some (.object cn)) (hal : (lg_sl av).length ≤ maxL) (hlv : lv_args 0 av = lv0)
    (body : ∀ p e s m args below meth c A Q ls, p.tables.exec = Jvm.exec → c.code = cc → c.maxLocals = maxL → s.vm.findClass own = some m.cls → (∀ w ∈ ws0, w.before args s = true) → va_K D vwCl tys s → nst s → X A s s.heap → (∀ q : Nat, s.heap.size ≤ q → A q) → va_P D vwCl W0 s.heap → va_D A W0 → va_S A s.heap s.heap [] → lv_has ls maxL lv0 →
      (∀ {H : Heap} {locs : List Loc} {pc : Nat} {ls : Array Slot} {v : Nat}, va_P D vwCl W1 H → va_D A W1 → va_S A s.heap H locs → v = adr r → decode cc pc = .ok (.areturn, 1) → W p l e rm s m args below meth c H locs 0 0 Q (F0 m pc ls [.ref v])) →
      W p l e rm s m args below meth c s.heap [] 0 0 Q (F0 m 0 ls [])) :
    Met l y ws0 rm (va_Pc av (jpre X D tys W0 sz)) (va_Qr (fun (_ : Unit) => True) (fun _ a t => a = adr r ∧ jpost D tys (va_A W0 sz) W1 t) (va_A W0 sz)) 0 0 (va_A W0 sz) := by
  refine Met.ofW (cc := cc) (maxL := maxL) (ret := ret) hy hw ?_
  intro p e s m args below meth c s₁ B hml hv
  obtain ⟨rfl, hsz, hP, hK, hD0, hN, hX⟩ := hv
  subst hsz
  have hl := lv_entry av hal
  rw [hlv] at hl
  rw [lg_entry_eq]
  have hown : s.vm.findClass own = some m.cls := hyo ▸ findClass_of_methodNamed B.named
  refine body p e s m _ below meth c (va_A W0 s.heap.size) _ _ B.exec B.bytes hml hown (atoms_spec (ws := ws0) B.pre) hK hN hX (fun q h => Or.inr h) hP hD0.self va_S.rf hl ?_
  intro H locs pc ls v hP hD hS hv hdg
  exact W.aret (v := .ref v) B.exec B.bytes (hret ▸ B.returns) (Or.inl ⟨_, rfl⟩) (Or.inr ⟨_, rfl⟩) (fun t ht hW => ⟨⟨(), v, rfl, trivial, hv, by rw [ht]; exact hP, va_K.moved hW.alike hK, hD⟩, hS.F ht⟩) hS.2.2 hdg B.notSynchronized
/-- .. a long -/
theorem jE_l {X : jX} {y : MethodName} {ws0 ws' : List Cond} {rm : Room} {maxL : Nat} {own : String} {ret : Option FieldType} {av : List Value} {lv0 : List (Nat × Value)} {W0 W1 : va_W} {sz : Nat} {r : Int64}
    (hy : plainName y.cls = true) (hw : ws0 = Cond.code y cc maxL ret :: ws') (hyo : y.cls = own) (hret : ret = some .long) (hal : (lg_sl av).length ≤ maxL) (hlv : lv_args 0 av = lv0)
    (body : ∀ p e s m args below meth c A Q ls, p.tables.exec = Jvm.exec → c.code = cc → c.maxLocals = maxL → s.vm.findClass own = some m.cls → (∀ w ∈ ws0, w.before args s = true) → va_K D vwCl tys s → nst s → X A s s.heap → (∀ q : Nat, s.heap.size ≤ q → A q) → va_P D vwCl W0 s.heap → va_D A W0 → va_S A s.heap s.heap [] → lv_has ls maxL lv0 →
      (∀ {H : Heap} {locs : List Loc} {pc : Nat} {ls : Array Slot} {v : Int64}, va_P D vwCl W1 H → va_D A W1 → va_S A s.heap H locs → v = r → decode cc pc = .ok (.lreturn, 1) → W p l e rm s m args below meth c H locs 0 0 Q (F0 m pc ls [.long v])) →
      W p l e rm s m args below meth c s.heap [] 0 0 Q (F0 m 0 ls [])) :
    Met l y ws0 rm (va_Pc av (jpre X D tys W0 sz)) (va_Ql (fun r' (_ : Unit) => r' = r) (fun _ t => jpost D tys (va_A W0 sz) W1 t) (va_A W0 sz)) 0 0 (va_A W0 sz) := by
  refine Met.ofW (cc := cc) (maxL := maxL) (ret := ret) hy hw ?_
  intro p e s m args below meth c s₁ B hml hv
  obtain ⟨rfl, hsz, hP, hK, hD0, hN, hX⟩ := hv
  subst hsz
  have hl := lv_entry av hal
  rw [hlv] at hl
  rw [lg_entry_eq]
  have hown : s.vm.findClass own = some m.cls := hyo ▸ findClass_of_methodNamed B.named
  refine body p e s m _ below meth c (va_A W0 s.heap.size) _ _ B.exec B.bytes hml hown (atoms_spec (ws := ws0) B.pre) hK hN hX (fun q h => Or.inr h) hP hD0.self va_S.rf hl ?_
  intro H locs pc ls v hP hD hS hv hdg
  exact W.lret (v := v) B.exec B.bytes (hret ▸ B.returns) (fun t ht hW => ⟨⟨v, (), rfl, hv, by rw [ht]; exact hP, va_K.moved hW.alike hK, hD⟩, hS.F ht⟩) hS.2.2 hdg B.notSynchronized
/-- .. nothing -/
theorem jE_v {X : jX} {y : MethodName} {ws0 ws' : List Cond} {rm : Room} {maxL : Nat} {own : String} {ret : Option FieldType} {av : List Value} {lv0 : List (Nat × Value)} {W0 W1 : va_W} {sz : Nat}
    (hy : plainName y.cls = true) (hw : ws0 = Cond.code y cc maxL ret :: ws') (hyo : y.cls = own) (hret : ret = none) (hal : (lg_sl av).length ≤ maxL) (hlv : lv_args 0 av = lv0)
    (body : ∀ p e s m args below meth c A Q ls, p.tables.exec = Jvm.exec → c.code = cc → c.maxLocals = maxL → s.vm.findClass own = some m.cls → (∀ w ∈ ws0, w.before args s = true) → va_K D vwCl tys s → nst s → X A s s.heap → (∀ q : Nat, s.heap.size ≤ q → A q) → va_P D vwCl W0 s.heap → va_D A W0 → va_S A s.heap s.heap [] → lv_has ls maxL lv0 →
      (∀ {H : Heap} {locs : List Loc} {pc : Nat} {ls : Array Slot}, va_P D vwCl W1 H → va_D A W1 → va_S A s.heap H locs → decode cc pc = .ok (.return_, 1) → W p l e rm s m args below meth c H locs 0 0 Q (F0 m pc ls [])) →
      W p l e rm s m args below meth c s.heap [] 0 0 Q (F0 m 0 ls [])) :
    Met l y ws0 rm (va_Pc av (jpre X D tys W0 sz)) (va_Qv (fun (_ : Unit) => True) (fun _ t => jpost D tys (va_A W0 sz) W1 t) (va_A W0 sz)) 0 0 (va_A W0 sz) := by
  refine Met.ofW (cc := cc) (maxL := maxL) (ret := ret) hy hw ?_
  intro p e s m args below meth c s₁ B hml hv
  obtain ⟨rfl, hsz, hP, hK, hD0, hN, hX⟩ := hv
  subst hsz
  have hl := lv_entry av hal
  rw [hlv] at hl
  rw [lg_entry_eq]
  have hown : s.vm.findClass own = some m.cls := hyo ▸ findClass_of_methodNamed B.named
  refine body p e s m _ below meth c (va_A W0 s.heap.size) _ _ B.exec B.bytes hml hown (atoms_spec (ws := ws0) B.pre) hK hN hX (fun q h => Or.inr h) hP hD0.self va_S.rf hl ?_
  intro H locs pc ls hP hD hS hdg
  exact W.vret B.exec B.bytes (hret ▸ B.returns) (fun t ht hW => ⟨⟨(), rfl, trivial, by rw [ht]; exact hP, va_K.moved hW.alike hK, hD⟩, hS.F ht⟩) hS.2.2 hdg B.notSynchronized
/-- behind a call: what came back beside the rest, in the caller's order -/
theorem jback {wc w1 wr ws2 : va_W} {H1 : Heap} {t : State} {isC isR isB : List Nat} (hP : va_P D vwCl ws H) (hD : va_D A ws) (hS : va_S A H0 H locs) (hA : ∀ q : Nat, H0.size ≤ q → A q) (hC : isC.map (fun i => ws[i]?) = wc.map some) (hR : isR.map (fun i => ws[i]?) = wr.map some) (hnR : va_nd isR = true) (hdis : ∀ i ∈ isR, i ∉ isC) (hB : isB.map (fun i => (wr ++ w1)[i]?) = ws2.map some) (hnB : va_nd isB = true)
    (ht : t.heap = H1) (hb : jpost D tys (va_A wc H.size) w1 t) (hk : ∀ q : Nat, q < H.size → ¬ va_A wc H.size q → H1[q]? = H[q]?) : va_P D vwCl ws2 H1 ∧ va_D A ws2 := by
  obtain ⟨hP1, -, hD1⟩ := hb
  rw [ht] at hP1
  have hF := va_free hD hS hA isC hC
  obtain ⟨a1, a2⟩ := va_join hP hD isC isR hC hR hnR hdis hk hF hP1 hD1
  exact ⟨a1.sub isB (filterMap_of hB), a2.sub isB hnB hB⟩
section JCall
variable {bytes : ByteArray} {maxL nL n index : Nat} {ret : Option FieldType} {wy : List Cond} {rm : Room} {Ts : List Cond} {own C : String} {b : Addr} {As : List Value} {st0 : List Value} {lv : List (Nat × Value)} {y : MethodName}
variable {wc w1 wr ws2 : va_W} {isC isR isB : List Nat} {ci q0 N : Nat} {T : u_T} {fs : List Value}
theorem jcV_i {X : jX} {r : Int32} (S : CallFix p m c cc nL s args Ts own) (hM : Met l y wy rm (va_Pc (.ref b :: As) (jpre X D tys wc H.size)) (va_Qi (fun r' (_ : Unit) => r' = r) (fun _ t => jpost D tys (va_A wc H.size) w1 t) (va_A wc H.size)) 0 0 (va_A wc H.size))
    (cw : CallW R s args own C index y bytes maxL ret wy rm 0 0 n) (hn : As.length = n) (hls : lv_has ls nL lv) (hst : st0 = As.reverse ++ .ref b :: rest) (hW : (rest.map fun v => v.category).sum ≤ 8) (hdg : decode cc pc = .ok (.invokevirtual index, 3)) (hf : cells ≤ R.cells ∧ slots ≤ R.slots)
    (hK : va_K D vwCl tys s) (hN : nst s) (hKX : KX X) (hX : X A s s.heap) (hP : va_P D vwCl ws H) (hD : va_D A ws) (hS : va_S A s.heap H locs) (hA : ∀ q : Nat, s.heap.size ≤ q → A q) (hci : vwCl[ci]? = some (C, T, N)) (hq0 : wc[q0]? = some (b, .inr (ci, fs))) 
    (hC : isC.map (fun i => ws[i]?) = wc.map some) (hnC : va_nd isC = true) (hR : isR.map (fun i => ws[i]?) = wr.map some) (hnR : va_nd isR = true) (hdis : ∀ i ∈ isR, i ∉ isC) (hB : isB.map (fun i => (wr ++ w1)[i]?) = ws2.map some) (hnB : va_nd isB = true)
    (kk : ∀ (H1 : Heap) (locs1 : List Loc), va_P D vwCl ws2 H1 → va_D A ws2 → va_S A s.heap H1 locs1 → W p l e R s m args below meth c H1 locs1 cells slots Q (F0 m (pc + 3) ls (.int r :: rest))) : W p l e R s m args below meth c H locs cells slots Q (F0 m pc ls st0) := by
  have hPc := hP.sub isC (filterMap_of hC)
  have hDc := hD.sub isC hnC hC
  have hF := va_free hD hS hA isC hC
  subst hst
  refine va_calli (va_runV (As := As) (rest := rest) S hM cw ⟨jpre_blind hKX, va_recv hK hPc hci hq0, jpre_at hKX hX hF hS hK hN hPc hDc⟩ rfl hn hls.1 rfl (lv_room hW) hdg hf) hS (fun q _ h => hF q h) hF (fun r' u t H1 locs1 ht hvm hw hB1 hz hk hS1 => ?_)
  have hw : r' = r := hw
  subst hw
  obtain ⟨a1, a2⟩ := jback hP hD hS hA hC hR hnR hdis hB hnB ht hB1 hk
  exact kk H1 locs1 a1 a2 hS1
theorem jcV_l {X : jX} {r : Int64} (S : CallFix p m c cc nL s args Ts own) (hM : Met l y wy rm (va_Pc (.ref b :: As) (jpre X D tys wc H.size)) (va_Ql (fun r' (_ : Unit) => r' = r) (fun _ t => jpost D tys (va_A wc H.size) w1 t) (va_A wc H.size)) 0 0 (va_A wc H.size))
    (cw : CallW R s args own C index y bytes maxL ret wy rm 0 0 n) (hn : As.length = n) (hls : lv_has ls nL lv) (hst : st0 = As.reverse ++ .ref b :: rest) (hW : (rest.map fun v => v.category).sum ≤ 8) (hdg : decode cc pc = .ok (.invokevirtual index, 3)) (hf : cells ≤ R.cells ∧ slots ≤ R.slots)
    (hK : va_K D vwCl tys s) (hN : nst s) (hKX : KX X) (hX : X A s s.heap) (hP : va_P D vwCl ws H) (hD : va_D A ws) (hS : va_S A s.heap H locs) (hA : ∀ q : Nat, s.heap.size ≤ q → A q) (hci : vwCl[ci]? = some (C, T, N)) (hq0 : wc[q0]? = some (b, .inr (ci, fs))) 
    (hC : isC.map (fun i => ws[i]?) = wc.map some) (hnC : va_nd isC = true) (hR : isR.map (fun i => ws[i]?) = wr.map some) (hnR : va_nd isR = true) (hdis : ∀ i ∈ isR, i ∉ isC) (hB : isB.map (fun i => (wr ++ w1)[i]?) = ws2.map some) (hnB : va_nd isB = true)
    (kk : ∀ (H1 : Heap) (locs1 : List Loc), va_P D vwCl ws2 H1 → va_D A ws2 → va_S A s.heap H1 locs1 → W p l e R s m args below meth c H1 locs1 cells slots Q (F0 m (pc + 3) ls (.long r :: rest))) : W p l e R s m args below meth c H locs cells slots Q (F0 m pc ls st0) := by
  have hPc := hP.sub isC (filterMap_of hC)
  have hDc := hD.sub isC hnC hC
  have hF := va_free hD hS hA isC hC
  subst hst
  refine va_calll (va_runV (As := As) (rest := rest) S hM cw ⟨jpre_blind hKX, va_recv hK hPc hci hq0, jpre_at hKX hX hF hS hK hN hPc hDc⟩ rfl hn hls.1 rfl (lv_room hW) hdg hf) hS (fun q _ h => hF q h) hF (fun r' u t H1 locs1 ht hvm hw hB1 hz hk hS1 => ?_)
  have hw : r' = r := hw
  subst hw
  obtain ⟨a1, a2⟩ := jback hP hD hS hA hC hR hnR hdis hB hnB ht hB1 hk
  exact kk H1 locs1 a1 a2 hS1
theorem jcV_v {X : jX} (S : CallFix p m c cc nL s args Ts own) (hM : Met l y wy rm (va_Pc (.ref b :: As) (jpre X D tys wc H.size)) (va_Qv (fun (_ : Unit) => True) (fun _ t => jpost D tys (va_A wc H.size) w1 t) (va_A wc H.size)) 0 0 (va_A wc H.size))
    (cw : CallW R s args own C index y bytes maxL ret wy rm 0 0 n) (hn : As.length = n) (hls : lv_has ls nL lv) (hst : st0 = As.reverse ++ .ref b :: rest) (hW : (rest.map fun v => v.category).sum ≤ 8) (hdg : decode cc pc = .ok (.invokevirtual index, 3)) (hf : cells ≤ R.cells ∧ slots ≤ R.slots)
    (hK : va_K D vwCl tys s) (hN : nst s) (hKX : KX X) (hX : X A s s.heap) (hP : va_P D vwCl ws H) (hD : va_D A ws) (hS : va_S A s.heap H locs) (hA : ∀ q : Nat, s.heap.size ≤ q → A q) (hci : vwCl[ci]? = some (C, T, N)) (hq0 : wc[q0]? = some (b, .inr (ci, fs))) 
    (hC : isC.map (fun i => ws[i]?) = wc.map some) (hnC : va_nd isC = true) (hR : isR.map (fun i => ws[i]?) = wr.map some) (hnR : va_nd isR = true) (hdis : ∀ i ∈ isR, i ∉ isC) (hB : isB.map (fun i => (wr ++ w1)[i]?) = ws2.map some) (hnB : va_nd isB = true)
    (kk : ∀ (H1 : Heap) (locs1 : List Loc), va_P D vwCl ws2 H1 → va_D A ws2 → va_S A s.heap H1 locs1 → W p l e R s m args below meth c H1 locs1 cells slots Q (F0 m (pc + 3) ls (rest))) : W p l e R s m args below meth c H locs cells slots Q (F0 m pc ls st0) := by
  have hPc := hP.sub isC (filterMap_of hC)
  have hDc := hD.sub isC hnC hC
  have hF := va_free hD hS hA isC hC
  subst hst
  refine va_callv (va_runV (As := As) (rest := rest) S hM cw ⟨jpre_blind hKX, va_recv hK hPc hci hq0, jpre_at hKX hX hF hS hK hN hPc hDc⟩ rfl hn hls.1 rfl (lv_room hW) hdg hf) hS (fun q _ h => hF q h) hF (fun u t H1 locs1 ht hvm hw hB1 hz hk hS1 => ?_)
  obtain ⟨a1, a2⟩ := jback hP hD hS hA hC hR hnR hdis hB hnB ht hB1 hk
  exact kk H1 locs1 a1 a2 hS1
theorem jcV_s {X : jX} {r : Nat} {adr : Nat → Nat} (S : CallFix p m c cc nL s args Ts own) (hM : Met l y wy rm (va_Pc (.ref b :: As) (jpre X D tys wc H.size)) (va_Qr (fun (_ : Unit) => True) (fun _ a t => a = adr r ∧ jpost D tys (va_A wc H.size) w1 t) (va_A wc H.size)) 0 0 (va_A wc H.size))
    (cw : CallW R s args own C index y bytes maxL ret wy rm 0 0 n) (hn : As.length = n) (hls : lv_has ls nL lv) (hst : st0 = As.reverse ++ .ref b :: rest) (hW : (rest.map fun v => v.category).sum ≤ 8) (hdg : decode cc pc = .ok (.invokevirtual index, 3)) (hf : cells ≤ R.cells ∧ slots ≤ R.slots)
    (hK : va_K D vwCl tys s) (hN : nst s) (hKX : KX X) (hX : X A s s.heap) (hP : va_P D vwCl ws H) (hD : va_D A ws) (hS : va_S A s.heap H locs) (hA : ∀ q : Nat, s.heap.size ≤ q → A q) (hci : vwCl[ci]? = some (C, T, N)) (hq0 : wc[q0]? = some (b, .inr (ci, fs))) 
    (hC : isC.map (fun i => ws[i]?) = wc.map some) (hnC : va_nd isC = true) (hR : isR.map (fun i => ws[i]?) = wr.map some) (hnR : va_nd isR = true) (hdis : ∀ i ∈ isR, i ∉ isC) (hB : isB.map (fun i => (wr ++ w1)[i]?) = ws2.map some) (hnB : va_nd isB = true)
    (kk : ∀ (H1 : Heap) (locs1 : List Loc), va_P D vwCl ws2 H1 → va_D A ws2 → va_S A s.heap H1 locs1 → W p l e R s m args below meth c H1 locs1 cells slots Q (F0 m (pc + 3) ls (.ref (adr r) :: rest))) : W p l e R s m args below meth c H locs cells slots Q (F0 m pc ls st0) := by
  have hPc := hP.sub isC (filterMap_of hC)
  have hDc := hD.sub isC hnC hC
  have hF := va_free hD hS hA isC hC
  subst hst
  refine va_callr (va_runV (As := As) (rest := rest) S hM cw ⟨jpre_blind hKX, va_recv hK hPc hci hq0, jpre_at hKX hX hF hS hK hN hPc hDc⟩ rfl hn hls.1 rfl (lv_room hW) hdg hf) hS (fun q _ h => hF q h) hF (fun u ra t H1 locs1 ht hvm hw hB1 hz hk hS1 => ?_)
  obtain ⟨hw2, hB1⟩ := hB1
  subst hw2
  obtain ⟨a1, a2⟩ := jback hP hD hS hA hC hR hnR hdis hB hnB ht hB1 hk
  exact kk H1 locs1 a1 a2 hS1
theorem jcS_i {X : jX} {r : Int32} (S : CallFix p m c cc nL s args Ts own) (hM : Met l y wy rm (va_Pc (As) (jpre X D tys wc H.size)) (va_Qi (fun r' (_ : Unit) => r' = r) (fun _ t => jpost D tys (va_A wc H.size) w1 t) (va_A wc H.size)) 0 0 (va_A wc H.size))
    (cw : CallB R s args own index y bytes maxL ret wy rm 0 0 n ∧ (Cond.static y).before args s = true) (hn : As.length = n) (hls : lv_has ls nL lv) (hst : st0 = As.reverse ++ rest) (hW : (rest.map fun v => v.category).sum ≤ 8) (hdg : decode cc pc = .ok (.invokestatic index, 3)) (hf : cells ≤ R.cells ∧ slots ≤ R.slots)
    (hK : va_K D vwCl tys s) (hN : nst s) (hKX : KX X) (hX : X A s s.heap) (hP : va_P D vwCl ws H) (hD : va_D A ws) (hS : va_S A s.heap H locs) (hA : ∀ q : Nat, s.heap.size ≤ q → A q) 
    (hC : isC.map (fun i => ws[i]?) = wc.map some) (hnC : va_nd isC = true) (hR : isR.map (fun i => ws[i]?) = wr.map some) (hnR : va_nd isR = true) (hdis : ∀ i ∈ isR, i ∉ isC) (hB : isB.map (fun i => (wr ++ w1)[i]?) = ws2.map some) (hnB : va_nd isB = true)
    (kk : ∀ (H1 : Heap) (locs1 : List Loc), va_P D vwCl ws2 H1 → va_D A ws2 → va_S A s.heap H1 locs1 → W p l e R s m args below meth c H1 locs1 cells slots Q (F0 m (pc + 3) ls (.int r :: rest))) : W p l e R s m args below meth c H locs cells slots Q (F0 m pc ls st0) := by
  have hPc := hP.sub isC (filterMap_of hC)
  have hDc := hD.sub isC hnC hC
  have hF := va_free hD hS hA isC hC
  subst hst
  refine va_calli (va_runS (As := As) (rest := rest) S hM cw ⟨jpre_blind hKX, jpre_at hKX hX hF hS hK hN hPc hDc⟩ rfl hn hls.1 rfl (lv_room hW) hdg hf) hS (fun q _ h => hF q h) hF (fun r' u t H1 locs1 ht hvm hw hB1 hz hk hS1 => ?_)
  have hw : r' = r := hw
  subst hw
  obtain ⟨a1, a2⟩ := jback hP hD hS hA hC hR hnR hdis hB hnB ht hB1 hk
  exact kk H1 locs1 a1 a2 hS1
theorem jcS_l {X : jX} {r : Int64} (S : CallFix p m c cc nL s args Ts own) (hM : Met l y wy rm (va_Pc (As) (jpre X D tys wc H.size)) (va_Ql (fun r' (_ : Unit) => r' = r) (fun _ t => jpost D tys (va_A wc H.size) w1 t) (va_A wc H.size)) 0 0 (va_A wc H.size))
    (cw : CallB R s args own index y bytes maxL ret wy rm 0 0 n ∧ (Cond.static y).before args s = true) (hn : As.length = n) (hls : lv_has ls nL lv) (hst : st0 = As.reverse ++ rest) (hW : (rest.map fun v => v.category).sum ≤ 8) (hdg : decode cc pc = .ok (.invokestatic index, 3)) (hf : cells ≤ R.cells ∧ slots ≤ R.slots)
    (hK : va_K D vwCl tys s) (hN : nst s) (hKX : KX X) (hX : X A s s.heap) (hP : va_P D vwCl ws H) (hD : va_D A ws) (hS : va_S A s.heap H locs) (hA : ∀ q : Nat, s.heap.size ≤ q → A q) 
    (hC : isC.map (fun i => ws[i]?) = wc.map some) (hnC : va_nd isC = true) (hR : isR.map (fun i => ws[i]?) = wr.map some) (hnR : va_nd isR = true) (hdis : ∀ i ∈ isR, i ∉ isC) (hB : isB.map (fun i => (wr ++ w1)[i]?) = ws2.map some) (hnB : va_nd isB = true)
    (kk : ∀ (H1 : Heap) (locs1 : List Loc), va_P D vwCl ws2 H1 → va_D A ws2 → va_S A s.heap H1 locs1 → W p l e R s m args below meth c H1 locs1 cells slots Q (F0 m (pc + 3) ls (.long r :: rest))) : W p l e R s m args below meth c H locs cells slots Q (F0 m pc ls st0) := by
  have hPc := hP.sub isC (filterMap_of hC)
  have hDc := hD.sub isC hnC hC
  have hF := va_free hD hS hA isC hC
  subst hst
  refine va_calll (va_runS (As := As) (rest := rest) S hM cw ⟨jpre_blind hKX, jpre_at hKX hX hF hS hK hN hPc hDc⟩ rfl hn hls.1 rfl (lv_room hW) hdg hf) hS (fun q _ h => hF q h) hF (fun r' u t H1 locs1 ht hvm hw hB1 hz hk hS1 => ?_)
  have hw : r' = r := hw
  subst hw
  obtain ⟨a1, a2⟩ := jback hP hD hS hA hC hR hnR hdis hB hnB ht hB1 hk
  exact kk H1 locs1 a1 a2 hS1
theorem jcS_v {X : jX} (S : CallFix p m c cc nL s args Ts own) (hM : Met l y wy rm (va_Pc (As) (jpre X D tys wc H.size)) (va_Qv (fun (_ : Unit) => True) (fun _ t => jpost D tys (va_A wc H.size) w1 t) (va_A wc H.size)) 0 0 (va_A wc H.size))
    (cw : CallB R s args own index y bytes maxL ret wy rm 0 0 n ∧ (Cond.static y).before args s = true) (hn : As.length = n) (hls : lv_has ls nL lv) (hst : st0 = As.reverse ++ rest) (hW : (rest.map fun v => v.category).sum ≤ 8) (hdg : decode cc pc = .ok (.invokestatic index, 3)) (hf : cells ≤ R.cells ∧ slots ≤ R.slots)
    (hK : va_K D vwCl tys s) (hN : nst s) (hKX : KX X) (hX : X A s s.heap) (hP : va_P D vwCl ws H) (hD : va_D A ws) (hS : va_S A s.heap H locs) (hA : ∀ q : Nat, s.heap.size ≤ q → A q) 
    (hC : isC.map (fun i => ws[i]?) = wc.map some) (hnC : va_nd isC = true) (hR : isR.map (fun i => ws[i]?) = wr.map some) (hnR : va_nd isR = true) (hdis : ∀ i ∈ isR, i ∉ isC) (hB : isB.map (fun i => (wr ++ w1)[i]?) = ws2.map some) (hnB : va_nd isB = true)
    (kk : ∀ (H1 : Heap) (locs1 : List Loc), va_P D vwCl ws2 H1 → va_D A ws2 → va_S A s.heap H1 locs1 → W p l e R s m args below meth c H1 locs1 cells slots Q (F0 m (pc + 3) ls (rest))) : W p l e R s m args below meth c H locs cells slots Q (F0 m pc ls st0) := by
  have hPc := hP.sub isC (filterMap_of hC)
  have hDc := hD.sub isC hnC hC
  have hF := va_free hD hS hA isC hC
  subst hst
  refine va_callv (va_runS (As := As) (rest := rest) S hM cw ⟨jpre_blind hKX, jpre_at hKX hX hF hS hK hN hPc hDc⟩ rfl hn hls.1 rfl (lv_room hW) hdg hf) hS (fun q _ h => hF q h) hF (fun u t H1 locs1 ht hvm hw hB1 hz hk hS1 => ?_)
  obtain ⟨a1, a2⟩ := jback hP hD hS hA hC hR hnR hdis hB hnB ht hB1 hk
  exact kk H1 locs1 a1 a2 hS1
theorem jcS_s {X : jX} {r : Nat} {adr : Nat → Nat} (S : CallFix p m c cc nL s args Ts own) (hM : Met l y wy rm (va_Pc (As) (jpre X D tys wc H.size)) (va_Qr (fun (_ : Unit) => True) (fun _ a t => a = adr r ∧ jpost D tys (va_A wc H.size) w1 t) (va_A wc H.size)) 0 0 (va_A wc H.size))
    (cw : CallB R s args own index y bytes maxL ret wy rm 0 0 n ∧ (Cond.static y).before args s = true) (hn : As.length = n) (hls : lv_has ls nL lv) (hst : st0 = As.reverse ++ rest) (hW : (rest.map fun v => v.category).sum ≤ 8) (hdg : decode cc pc = .ok (.invokestatic index, 3)) (hf : cells ≤ R.cells ∧ slots ≤ R.slots)
    (hK : va_K D vwCl tys s) (hN : nst s) (hKX : KX X) (hX : X A s s.heap) (hP : va_P D vwCl ws H) (hD : va_D A ws) (hS : va_S A s.heap H locs) (hA : ∀ q : Nat, s.heap.size ≤ q → A q) 
    (hC : isC.map (fun i => ws[i]?) = wc.map some) (hnC : va_nd isC = true) (hR : isR.map (fun i => ws[i]?) = wr.map some) (hnR : va_nd isR = true) (hdis : ∀ i ∈ isR, i ∉ isC) (hB : isB.map (fun i => (wr ++ w1)[i]?) = ws2.map some) (hnB : va_nd isB = true)
    (kk : ∀ (H1 : Heap) (locs1 : List Loc), va_P D vwCl ws2 H1 → va_D A ws2 → va_S A s.heap H1 locs1 → W p l e R s m args below meth c H1 locs1 cells slots Q (F0 m (pc + 3) ls (.ref (adr r) :: rest))) : W p l e R s m args below meth c H locs cells slots Q (F0 m pc ls st0) := by
  have hPc := hP.sub isC (filterMap_of hC)
  have hDc := hD.sub isC hnC hC
  have hF := va_free hD hS hA isC hC
  subst hst
  refine va_callr (va_runS (As := As) (rest := rest) S hM cw ⟨jpre_blind hKX, jpre_at hKX hX hF hS hK hN hPc hDc⟩ rfl hn hls.1 rfl (lv_room hW) hdg hf) hS (fun q _ h => hF q h) hF (fun u ra t H1 locs1 ht hvm hw hB1 hz hk hS1 => ?_)
  obtain ⟨hw2, hB1⟩ := hB1
  subst hw2
  obtain ⟨a1, a2⟩ := jback hP hD hS hA hC hR hnR hdis hB hnB ht hB1 hk
  exact kk H1 locs1 a1 a2 hS1
theorem jcN_i {X : jX} {host : String} {r : Int32} (S : CallFix p m c cc nL s args Ts own) (hM : Met l y wy rm (va_Pc (As) (jpre X D tys wc H.size)) (va_Qi (fun r' (_ : Unit) => r' = r) (fun _ t => jpost D tys (va_A wc H.size) w1 t) (va_A wc H.size)) 0 0 (va_A wc H.size))
    (cw : va_CN R s args own index y host bytes maxL ret wy rm 0 0 n ∧ (Cond.static y).before args s = true ∧ True) (hn : As.length = n) (hls : lv_has ls nL lv) (hst : st0 = As.reverse ++ rest) (hW : (rest.map fun v => v.category).sum ≤ 8) (hdg : decode cc pc = .ok (.invokestatic index, 3)) (hf : cells ≤ R.cells ∧ slots ≤ R.slots)
    (hK : va_K D vwCl tys s) (hN : nst s) (hKX : KX X) (hX : X A s s.heap) (hP : va_P D vwCl ws H) (hD : va_D A ws) (hS : va_S A s.heap H locs) (hA : ∀ q : Nat, s.heap.size ≤ q → A q) 
    (hC : isC.map (fun i => ws[i]?) = wc.map some) (hnC : va_nd isC = true) (hR : isR.map (fun i => ws[i]?) = wr.map some) (hnR : va_nd isR = true) (hdis : ∀ i ∈ isR, i ∉ isC) (hB : isB.map (fun i => (wr ++ w1)[i]?) = ws2.map some) (hnB : va_nd isB = true)
    (kk : ∀ (H1 : Heap) (locs1 : List Loc), va_P D vwCl ws2 H1 → va_D A ws2 → va_S A s.heap H1 locs1 → W p l e R s m args below meth c H1 locs1 cells slots Q (F0 m (pc + 3) ls (.int r :: rest))) : W p l e R s m args below meth c H locs cells slots Q (F0 m pc ls st0) := by
  have hPc := hP.sub isC (filterMap_of hC)
  have hDc := hD.sub isC hnC hC
  have hF := va_free hD hS hA isC hC
  subst hst
  refine va_calli (va_runSN (As := As) (rest := rest) S hM cw ⟨jpre_blind hKX, jpre_at hKX hX hF hS hK hN hPc hDc⟩ rfl hn hls.1 rfl (lv_room hW) hdg hf) hS (fun q _ h => hF q h) hF (fun r' u t H1 locs1 ht hvm hw hB1 hz hk hS1 => ?_)
  have hw : r' = r := hw
  subst hw
  obtain ⟨a1, a2⟩ := jback hP hD hS hA hC hR hnR hdis hB hnB ht hB1 hk
  exact kk H1 locs1 a1 a2 hS1
theorem jcN_l {X : jX} {host : String} {r : Int64} (S : CallFix p m c cc nL s args Ts own) (hM : Met l y wy rm (va_Pc (As) (jpre X D tys wc H.size)) (va_Ql (fun r' (_ : Unit) => r' = r) (fun _ t => jpost D tys (va_A wc H.size) w1 t) (va_A wc H.size)) 0 0 (va_A wc H.size))
    (cw : va_CN R s args own index y host bytes maxL ret wy rm 0 0 n ∧ (Cond.static y).before args s = true ∧ True) (hn : As.length = n) (hls : lv_has ls nL lv) (hst : st0 = As.reverse ++ rest) (hW : (rest.map fun v => v.category).sum ≤ 8) (hdg : decode cc pc = .ok (.invokestatic index, 3)) (hf : cells ≤ R.cells ∧ slots ≤ R.slots)
    (hK : va_K D vwCl tys s) (hN : nst s) (hKX : KX X) (hX : X A s s.heap) (hP : va_P D vwCl ws H) (hD : va_D A ws) (hS : va_S A s.heap H locs) (hA : ∀ q : Nat, s.heap.size ≤ q → A q) 
    (hC : isC.map (fun i => ws[i]?) = wc.map some) (hnC : va_nd isC = true) (hR : isR.map (fun i => ws[i]?) = wr.map some) (hnR : va_nd isR = true) (hdis : ∀ i ∈ isR, i ∉ isC) (hB : isB.map (fun i => (wr ++ w1)[i]?) = ws2.map some) (hnB : va_nd isB = true)
    (kk : ∀ (H1 : Heap) (locs1 : List Loc), va_P D vwCl ws2 H1 → va_D A ws2 → va_S A s.heap H1 locs1 → W p l e R s m args below meth c H1 locs1 cells slots Q (F0 m (pc + 3) ls (.long r :: rest))) : W p l e R s m args below meth c H locs cells slots Q (F0 m pc ls st0) := by
  have hPc := hP.sub isC (filterMap_of hC)
  have hDc := hD.sub isC hnC hC
  have hF := va_free hD hS hA isC hC
  subst hst
  refine va_calll (va_runSN (As := As) (rest := rest) S hM cw ⟨jpre_blind hKX, jpre_at hKX hX hF hS hK hN hPc hDc⟩ rfl hn hls.1 rfl (lv_room hW) hdg hf) hS (fun q _ h => hF q h) hF (fun r' u t H1 locs1 ht hvm hw hB1 hz hk hS1 => ?_)
  have hw : r' = r := hw
  subst hw
  obtain ⟨a1, a2⟩ := jback hP hD hS hA hC hR hnR hdis hB hnB ht hB1 hk
  exact kk H1 locs1 a1 a2 hS1
theorem jcN_v {X : jX} {host : String} (S : CallFix p m c cc nL s args Ts own) (hM : Met l y wy rm (va_Pc (As) (jpre X D tys wc H.size)) (va_Qv (fun (_ : Unit) => True) (fun _ t => jpost D tys (va_A wc H.size) w1 t) (va_A wc H.size)) 0 0 (va_A wc H.size))
    (cw : va_CN R s args own index y host bytes maxL ret wy rm 0 0 n ∧ (Cond.static y).before args s = true ∧ True) (hn : As.length = n) (hls : lv_has ls nL lv) (hst : st0 = As.reverse ++ rest) (hW : (rest.map fun v => v.category).sum ≤ 8) (hdg : decode cc pc = .ok (.invokestatic index, 3)) (hf : cells ≤ R.cells ∧ slots ≤ R.slots)
    (hK : va_K D vwCl tys s) (hN : nst s) (hKX : KX X) (hX : X A s s.heap) (hP : va_P D vwCl ws H) (hD : va_D A ws) (hS : va_S A s.heap H locs) (hA : ∀ q : Nat, s.heap.size ≤ q → A q) 
    (hC : isC.map (fun i => ws[i]?) = wc.map some) (hnC : va_nd isC = true) (hR : isR.map (fun i => ws[i]?) = wr.map some) (hnR : va_nd isR = true) (hdis : ∀ i ∈ isR, i ∉ isC) (hB : isB.map (fun i => (wr ++ w1)[i]?) = ws2.map some) (hnB : va_nd isB = true)
    (kk : ∀ (H1 : Heap) (locs1 : List Loc), va_P D vwCl ws2 H1 → va_D A ws2 → va_S A s.heap H1 locs1 → W p l e R s m args below meth c H1 locs1 cells slots Q (F0 m (pc + 3) ls (rest))) : W p l e R s m args below meth c H locs cells slots Q (F0 m pc ls st0) := by
  have hPc := hP.sub isC (filterMap_of hC)
  have hDc := hD.sub isC hnC hC
  have hF := va_free hD hS hA isC hC
  subst hst
  refine va_callv (va_runSN (As := As) (rest := rest) S hM cw ⟨jpre_blind hKX, jpre_at hKX hX hF hS hK hN hPc hDc⟩ rfl hn hls.1 rfl (lv_room hW) hdg hf) hS (fun q _ h => hF q h) hF (fun u t H1 locs1 ht hvm hw hB1 hz hk hS1 => ?_)
  obtain ⟨a1, a2⟩ := jback hP hD hS hA hC hR hnR hdis hB hnB ht hB1 hk
  exact kk H1 locs1 a1 a2 hS1
theorem jcR_i {X : jX} {r : Int32} (S : CallFix p m c cc nL s args Ts own) (hM : Met l y wy rm (va_Pc (.ref b :: As) (jpre X D tys wc H.size)) (va_Qi (fun r' (_ : Unit) => r' = r) (fun _ t => jpost D tys (va_A wc H.size) w1 t) (va_A wc H.size)) 0 0 (va_A wc H.size))
    (cw : CallW R s args own C index y bytes maxL ret wy rm 0 0 n) (hn : As.length = n) (hls : lv_has ls nL lv) (hst : st0 = As.reverse ++ .ref b :: rest) (hW : (rest.map fun v => v.category).sum ≤ 8) (hdg : decode cc pc = .ok (.invokevirtual index, 3)) (hf : cells ≤ R.cells ∧ slots ≤ R.slots)
    (hK : va_K D vwCl tys s) (hN : nst s) (hKX : KX X) (hX : X A s s.heap) (hP : va_P D vwCl ws H) (hD : va_D A ws) (hS : va_S A s.heap H locs) (hA : ∀ q : Nat, s.heap.size ≤ q → A q) (hrecv : ∃ cell : Cell, H[b]? = some cell ∧ cell.vm.isStatics = false ∧ s.vm.findClass C = some cell.cls) 
    (hC : isC.map (fun i => ws[i]?) = wc.map some) (hnC : va_nd isC = true) (hR : isR.map (fun i => ws[i]?) = wr.map some) (hnR : va_nd isR = true) (hdis : ∀ i ∈ isR, i ∉ isC) (hB : isB.map (fun i => (wr ++ w1)[i]?) = ws2.map some) (hnB : va_nd isB = true)
    (kk : ∀ (H1 : Heap) (locs1 : List Loc), va_P D vwCl ws2 H1 → va_D A ws2 → va_S A s.heap H1 locs1 → W p l e R s m args below meth c H1 locs1 cells slots Q (F0 m (pc + 3) ls (.int r :: rest))) : W p l e R s m args below meth c H locs cells slots Q (F0 m pc ls st0) := by
  have hPc := hP.sub isC (filterMap_of hC)
  have hDc := hD.sub isC hnC hC
  have hF := va_free hD hS hA isC hC
  subst hst
  refine va_calli (va_runV (As := As) (rest := rest) S hM cw ⟨jpre_blind hKX, hrecv, jpre_at hKX hX hF hS hK hN hPc hDc⟩ rfl hn hls.1 rfl (lv_room hW) hdg hf) hS (fun q _ h => hF q h) hF (fun r' u t H1 locs1 ht hvm hw hB1 hz hk hS1 => ?_)
  have hw : r' = r := hw
  subst hw
  obtain ⟨a1, a2⟩ := jback hP hD hS hA hC hR hnR hdis hB hnB ht hB1 hk
  exact kk H1 locs1 a1 a2 hS1
end JCall
end JLib

/-! p35: THE LAW -/
theorem updh_a2 {hl : Nat → Nat → Nat} {N : Nat} {g : Nat → Nat} : updh hl N g N = g := if_pos rfl
theorem updh_n2 {hl : Nat → Nat → Nat} {N i : Nat} {g : Nat → Nat} (h : i ≠ N) : updh hl N g i = hl i := if_neg h
theorem rw_c : ∀ l, l < 16 → 2 ≤ l → hgn (ES l 0 1 0) 6 1 0 = l + 1 ∧ GA (hgn (ES l 0 1 0) 6 1) l 0 = 6 ∧ src (hgn (ES l 0 1 0) 6 1) l 0 = 0 ∧ hgn (ES l 0 1 0) 6 1 1 = 1 ∧ wct (updn (hgn (ES l 0 1 0) 6 1) (5 + 8 * l + (4 + 0)) (l - 1 + 1)) l = 1 := by decide +kernel
theorem law_t0 : tsum gz 99 = 0 := by
  have h1 := tsum_3 gz 99
  rw [gz_tick 99] at h1
  have h2 : gz 3 = 0 := gz_0 (by decide)
  rw [h2] at h1
  have h3 : (if 3 = 1 then 1 else if 3 = 2 then 99 else 0 : Nat) = 0 := by decide
  have h4 : (fun i => if i = 1 then 1 else if i = 2 then 99 else 0 : Nat → Nat) 3 = 0 := h3
  rw [h4] at h1
  omega
theorem law_RF : RF 60 (fun i => 65 + i) 61 0 = (0, false) := by decide +kernel
def LCx (p : Program) (s : State) (m : MethodId) (c : Code) (b L : Nat) (xs : Nat → Int32) (D : va_G) (cI cJ cC cL : ClassId) (A : Nat → Prop) : Prop := p.tables.exec = Jvm.exec ∧ c.code = cL_law ∧ c.maxLocals = 11 ∧ s.vm.findClass RL = some m.cls ∧ (∀ w ∈ wsL_law, w.before #[Value.ref b] s = true) ∧ XScr b L xs A s s.heap ∧ va_K D vwCl (tyL cI cJ cC cL) s ∧ nst s ∧ XS A s s.heap ∧ XN A s s.heap ∧ XCl A s s.heap ∧ XAO A s s.heap ∧ L < 2 ^ 31 ∧ ∀ q : Nat, s.heap.size ≤ q → A q

/-! p35: THE PAST BY NAME: the states that were, hl 0, hl 1, .., hl (N - 1); the last u of them can be brought back -/
def kpO (pg : Nat → Nat → Nat) : Nat → Int32 := fun x => nI (pg (x / 133) (x % 133))
def HX (hl : Nat → Nat → Nat) (N u tp B : Nat) (top und : Int32) (Rc : Nat → Int32) (Rk Rw Rs Rch : Nat → Nat → Int32) (Rst : Nat → Int64) (Ral Rti Rtc Rse : Nat → Int32) : Prop := u ≤ N ∧ u ≤ 8 ∧ tp ≤ 8 ∧ top = nI tp ∧ und = nI u ∧ ∀ i, i < u → GW (hl (N - u + i)) B ∧ SL (hl (N - u + i)) ((tp + 9 - u + i) % 9) Rc Rk Rw Rs Rch Rst Ral Rti Rtc Rse
def updh (hl : Nat → Nat → Nat) (N : Nat) (g : Nat → Nat) : Nat → Nat → Nat := fun i => if i = N then g else hl i
theorem updh_eq {hl : Nat → Nat → Nat} {N i : Nat} {g : Nat → Nat} (h : i = N) : updh hl N g i = g := if_pos h
theorem updh_ne {hl : Nat → Nat → Nat} {N i : Nat} {g : Nat → Nat} (h : i ≠ N) : updh hl N g i = hl i := if_neg h
def u8 (u : Nat) : Nat := if u = 8 then 8 else u + 1
/-- reasons: n of them -/
def RC (n : Nat) (rc : Int32) : Prop := n ≤ 3 ∧ rc = nI n
theorem RC_RR {n : Nat} {rc : Int32} {rn rd : Nat → Int32} (h : RC n rc) : RR n rc rn rd (nI n) rn rd := ⟨h.1, h.2, rfl, fun _ _ => ⟨rfl, rfl⟩⟩
theorem RR_RC {n : Nat} {rc wh : Int32} {rn rd wy mo : Nat → Int32} (h : RR n rc rn rd wh wy mo) : RC n rc := ⟨h.1, h.2.1⟩
theorem MR_O (g : Nat → Nat) : MR g (fun i => nI (g i)) := fun _ _ => rfl
section Past2
variable {g : Nat → Nat} {hl : Nat → Nat → Nat} {N u tp B : Nat} {c al ti tc se top und uds : Int32} {st : Int64} {k w so ch kp : Nat → Int32} {Rc : Nat → Int32} {Rk Rw Rs Rch : Nat → Nat → Int32} {Rst : Nat → Int64} {Ral Rti Rtc Rse : Nat → Int32}
theorem HX_HR (h : HX hl N u tp B top und Rc Rk Rw Rs Rch Rst Ral Rti Rtc Rse) : HR u tp (fun i => hl (N - u + i)) B top und Rc Rk Rw Rs Rch Rst Ral Rti Rtc Rse (nI u) (kpO fun i => hl (N - u + i)) := by
  obtain ⟨h0, h1, h2, h3, h4, h5⟩ := h
  refine ⟨h1, h2, h3, h4, rfl, fun i hi => ⟨(h5 i hi).1, (h5 i hi).2, fun j hj => ?_⟩⟩
  unfold kpO
  rw [show (133 * i + j) / 133 = i by omega, show (133 * i + j) % 133 = j by omega]
theorem HR_HX (hN : u ≤ N) (h : HR u tp (fun i => hl (N - u + i)) B top und Rc Rk Rw Rs Rch Rst Ral Rti Rtc Rse uds kp) : HX hl N u tp B top und Rc Rk Rw Rs Rch Rst Ral Rti Rtc Rse :=
  ⟨hN, h.1, h.2.1, h.2.2.1, h.2.2.2.1, fun i hi => ⟨(h.2.2.2.2.2 i hi).1, (h.2.2.2.2.2 i hi).2.1⟩⟩
theorem HX.up {B' : Nat} (h : HX hl N u tp B top und Rc Rk Rw Rs Rch Rst Ral Rti Rtc Rse) (hB : B ≤ B') : HX hl N u tp B' top und Rc Rk Rw Rs Rch Rst Ral Rti Rtc Rse :=
  ⟨h.1, h.2.1, h.2.2.1, h.2.2.2.1, h.2.2.2.2.1, fun i hi => ⟨(h.2.2.2.2.2 i hi).1.up hB, (h.2.2.2.2.2 i hi).2⟩⟩
theorem hold_x (hG : GV g) (hC : CR g c st al ti tc se k w so ch) (hH : HX hl N u tp B top und Rc Rk Rw Rs Rch Rst Ral Rti Rtc Rse) : ∃ Rc' Rk' Rw' Rs' Rch' Rst' Ral' Rti' Rtc' Rse', J_X4_hold top c st al ti tc se k w so ch Rc Rk Rw Rs Rch Rst Ral Rti Rtc Rse = some (Rc', Rk', Rw', Rs', Rch', Rst', Ral', Rti', Rtc', Rse') ∧ HX hl N u tp B top und Rc' Rk' Rw' Rs' Rch' Rst' Ral' Rti' Rtc' Rse' ∧ SL g tp Rc' Rk' Rw' Rs' Rch' Rst' Ral' Rti' Rtc' Rse' := by
  obtain ⟨Rc', Rk', Rw', Rs', Rch', Rst', Ral', Rti', Rtc', Rse', y1, y2, y3⟩ := hold_c hG hC (HX_HR hH)
  exact ⟨Rc', Rk', Rw', Rs', Rch', Rst', Ral', Rti', Rtc', Rse', y1, HR_HX hH.1 y2, y3⟩
theorem keep_x (hG : GW g B) (hH : HX hl N u tp B top und Rc Rk Rw Rs Rch Rst Ral Rti Rtc Rse) (hL : SL g tp Rc Rk Rw Rs Rch Rst Ral Rti Rtc Rse) : ∃ top' und', J_X4_keepHeld top und = some (top', und') ∧ HX (updh hl N g) (N + 1) (u8 u) ((tp + 1) % 9) B top' und' Rc Rk Rw Rs Rch Rst Ral Rti Rtc Rse := by
  obtain ⟨h0, h1, h2, h3, h4, h5⟩ := hH
  have e2 := keep_c h1 h2
  rw [h3, h4]
  refine ⟨_, _, e2, ?_⟩
  unfold u8
  by_cases h : u = 8
  · subst h
    rw [if_pos rfl]
    refine ⟨by omega, by omega, by omega, rfl, rfl, fun i hi => ?_⟩
    by_cases e7 : i = 7
    · rw [updh_eq (show N + 1 - 8 + i = N by omega)]
      refine ⟨hG, ?_⟩
      rw [show ((tp + 1) % 9 + 9 - 8 + i) % 9 = tp by omega]
      exact hL
    · rw [updh_ne (show N + 1 - 8 + i ≠ N by omega)]
      obtain ⟨a1, a2⟩ := h5 (i + 1) (by omega)
      rw [show N + 1 - 8 + i = N - 8 + (i + 1) by omega, show ((tp + 1) % 9 + 9 - 8 + i) % 9 = (tp + 9 - 8 + (i + 1)) % 9 by omega]
      exact ⟨a1, a2⟩
  · rw [if_neg h]
    refine ⟨by omega, by omega, by omega, rfl, rfl, fun i hi => ?_⟩
    by_cases eu : i = u
    · rw [updh_eq (show N + 1 - (u + 1) + i = N by omega)]
      refine ⟨hG, ?_⟩
      rw [show ((tp + 1) % 9 + 9 - (u + 1) + i) % 9 = tp by omega]
      exact hL
    · rw [updh_ne (show N + 1 - (u + 1) + i ≠ N by omega)]
      obtain ⟨a1, a2⟩ := h5 i (by omega)
      rw [show N + 1 - (u + 1) + i = N - u + i by omega, show ((tp + 1) % 9 + 9 - (u + 1) + i) % 9 = (tp + 9 - u + i) % 9 by omega]
      exact ⟨a1, a2⟩
/-- what a change makes of the past, by its answer -/
def CHX (x : Int32) (g : Nat → Nat) (hl : Nat → Nat → Nat) (N u B : Nat) (top und : Int32) (Rc : Nat → Int32) (Rk Rw Rs Rch : Nat → Nat → Int32) (Rst : Nat → Int64) (Ral Rti Rtc Rse : Nat → Int32) : Prop := ∃ tp', (¬ x < 0 ∧ HX (updh hl N g) (N + 1) (u8 u) tp' B top und Rc Rk Rw Rs Rch Rst Ral Rti Rtc Rse) ∨ (x < 0 ∧ HX hl N u tp' B top und Rc Rk Rw Rs Rch Rst Ral Rti Rtc Rse)
theorem kept_x (hG : GW g B) (hH : HX hl N u tp B top und Rc Rk Rw Rs Rch Rst Ral Rti Rtc Rse) (hL : SL g tp Rc Rk Rw Rs Rch Rst Ral Rti Rtc Rse) (x : Int32) : ∃ top' und', J_X9_kept top und x = some (x, top', und') ∧ CHX x g hl N u B top' und' Rc Rk Rw Rs Rch Rst Ral Rti Rtc Rse := by
  unfold J_X9_kept J_X9_kept_b11
  by_cases hx : x < 0
  · rw [if_pos hx]
    exact ⟨top, und, rfl, tp, Or.inr ⟨hx, hH⟩⟩
  · obtain ⟨top', und', e1, e2⟩ := keep_x hG hH hL
    rw [if_neg hx, e1, bn2]
    exact ⟨top', und', rfl, _, Or.inl ⟨hx, e2⟩⟩
end Past2

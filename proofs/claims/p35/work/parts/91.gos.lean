/-! p35: CHANGES: what is held and kept, over what the change itself answers -/
section Gos
variable {g : Nat → Nat} {hl : Nat → Nat → Nat} {N u tp B : Nat} {c al ti tc se top und rc v1 v2 v3 : Int32} {st : Int64} {k w so ch rn rd : Nat → Int32} {Rc : Nat → Int32} {Rk Rw Rs Rch : Nat → Nat → Int32} {Rst : Nat → Int64} {Ral Rti Rtc Rse : Nat → Int32}
theorem hang_go (hG : GW g B) (hC : CR g c st al ti tc se k w so ch) (hH : HX hl N u tp B top und Rc Rk Rw Rs Rch Rst Ral Rti Rtc Rse) {x : Int32} {c' : Int32} {k' : Nat → Int32} {w' : Nat → Int32} {rc' : Int32} {rn' : Nat → Int32} {rd' : Nat → Int32} (hin : J_X9_hangUp c k w rc rn rd v1 v2 = some (x, c', k', w', rc', rn', rd')) : ∃ (top' und' : Int32) (Rc' : Nat → Int32) (Rk' Rw' Rs' Rch' : Nat → Nat → Int32) (Rst' : Nat → Int64) (Ral' Rti' Rtc' Rse' : Nat → Int32), J_X9_hang c st al ti tc se k w so ch top und rc rn rd Rc Rk Rw Rs Rch Rst Ral Rti Rtc Rse v1 v2 = some (x, c', k', w', top', und', rc', rn', rd', Rc', Rk', Rw', Rs', Rch', Rst', Ral', Rti', Rtc', Rse') ∧ CHX x g hl N u B top' und' Rc' Rk' Rw' Rs' Rch' Rst' Ral' Rti' Rtc' Rse' := by
  obtain ⟨Rc', Rk', Rw', Rs', Rch', Rst', Ral', Rti', Rtc', Rse', y1, y2, y3⟩ := hold_x hG.1 hC hH
  obtain ⟨top', und', z1, z2⟩ := kept_x hG y2 y3 x
  refine ⟨top', und', Rc', Rk', Rw', Rs', Rch', Rst', Ral', Rti', Rtc', Rse', ?_, z2⟩
  unfold J_X9_hang
  rw [y1, bn10, hin, bn7, z1, bn3]
theorem wire_go (hG : GW g B) (hC : CR g c st al ti tc se k w so ch) (hH : HX hl N u tp B top und Rc Rk Rw Rs Rch Rst Ral Rti Rtc Rse) {x : Int32} {so' : Nat → Int32} {rc' : Int32} {rn' : Nat → Int32} {rd' : Nat → Int32} (hin : J_X9_putWire c al k so rc rn rd v1 v2 v3 = some (x, so', rc', rn', rd')) : ∃ (top' und' : Int32) (Rc' : Nat → Int32) (Rk' Rw' Rs' Rch' : Nat → Nat → Int32) (Rst' : Nat → Int64) (Ral' Rti' Rtc' Rse' : Nat → Int32), J_X9_wire c st al ti tc se k w so ch top und rc rn rd Rc Rk Rw Rs Rch Rst Ral Rti Rtc Rse v1 v2 v3 = some (x, so', top', und', rc', rn', rd', Rc', Rk', Rw', Rs', Rch', Rst', Ral', Rti', Rtc', Rse') ∧ CHX x g hl N u B top' und' Rc' Rk' Rw' Rs' Rch' Rst' Ral' Rti' Rtc' Rse' := by
  obtain ⟨Rc', Rk', Rw', Rs', Rch', Rst', Ral', Rti', Rtc', Rse', y1, y2, y3⟩ := hold_x hG.1 hC hH
  obtain ⟨top', und', z1, z2⟩ := kept_x hG y2 y3 x
  refine ⟨top', und', Rc', Rk', Rw', Rs', Rch', Rst', Ral', Rti', Rtc', Rse', ?_, z2⟩
  unfold J_X9_wire
  rw [y1, bn10, hin, bn5, z1, bn3]
theorem cut_go (hG : GW g B) (hC : CR g c st al ti tc se k w so ch) (hH : HX hl N u tp B top und Rc Rk Rw Rs Rch Rst Ral Rti Rtc Rse) {x : Int32} {so' : Nat → Int32} {rc' : Int32} {rn' : Nat → Int32} {rd' : Nat → Int32} (hin : J_X9_cutWire c k so rc rn rd v1 v2 = some (x, so', rc', rn', rd')) : ∃ (top' und' : Int32) (Rc' : Nat → Int32) (Rk' Rw' Rs' Rch' : Nat → Nat → Int32) (Rst' : Nat → Int64) (Ral' Rti' Rtc' Rse' : Nat → Int32), J_X9_cut c st al ti tc se k w so ch top und rc rn rd Rc Rk Rw Rs Rch Rst Ral Rti Rtc Rse v1 v2 = some (x, so', top', und', rc', rn', rd', Rc', Rk', Rw', Rs', Rch', Rst', Ral', Rti', Rtc', Rse') ∧ CHX x g hl N u B top' und' Rc' Rk' Rw' Rs' Rch' Rst' Ral' Rti' Rtc' Rse' := by
  obtain ⟨Rc', Rk', Rw', Rs', Rch', Rst', Ral', Rti', Rtc', Rse', y1, y2, y3⟩ := hold_x hG.1 hC hH
  obtain ⟨top', und', z1, z2⟩ := kept_x hG y2 y3 x
  refine ⟨top', und', Rc', Rk', Rw', Rs', Rch', Rst', Ral', Rti', Rtc', Rse', ?_, z2⟩
  unfold J_X9_cut
  rw [y1, bn10, hin, bn5, z1, bn3]
theorem set_go (hG : GW g B) (hC : CR g c st al ti tc se k w so ch) (hH : HX hl N u tp B top und Rc Rk Rw Rs Rch Rst Ral Rti Rtc Rse) {x : Int32} {st' : Int64} {se' : Int32} {ch' : Nat → Int32} {rc' : Int32} {rn' : Nat → Int32} {rd' : Nat → Int32} (hin : J_X9_setSwitch c st se k ch rc rn rd v1 v2 = some (x, st', se', ch', rc', rn', rd')) : ∃ (top' und' : Int32) (Rc' : Nat → Int32) (Rk' Rw' Rs' Rch' : Nat → Nat → Int32) (Rst' : Nat → Int64) (Ral' Rti' Rtc' Rse' : Nat → Int32), J_X9_set c st al ti tc se k w so ch top und rc rn rd Rc Rk Rw Rs Rch Rst Ral Rti Rtc Rse v1 v2 = some (x, st', se', ch', top', und', rc', rn', rd', Rc', Rk', Rw', Rs', Rch', Rst', Ral', Rti', Rtc', Rse') ∧ CHX x g hl N u B top' und' Rc' Rk' Rw' Rs' Rch' Rst' Ral' Rti' Rtc' Rse' := by
  obtain ⟨Rc', Rk', Rw', Rs', Rch', Rst', Ral', Rti', Rtc', Rse', y1, y2, y3⟩ := hold_x hG.1 hC hH
  obtain ⟨top', und', z1, z2⟩ := kept_x hG y2 y3 x
  refine ⟨top', und', Rc', Rk', Rw', Rs', Rch', Rst', Ral', Rti', Rtc', Rse', ?_, z2⟩
  unfold J_X9_set
  rw [y1, bn10, hin, bn7, z1, bn3]
theorem loops_go (hG : GW g B) (hC : CR g c st al ti tc se k w so ch) (hH : HX hl N u tp B top und Rc Rk Rw Rs Rch Rst Ral Rti Rtc Rse) {x : Int32} {al' : Int32} {rc' : Int32} {rn' : Nat → Int32} {rd' : Nat → Int32} (hin : J_X9_allowLoops c al so rc rn rd v1 = some (x, al', rc', rn', rd')) : ∃ (top' und' : Int32) (Rc' : Nat → Int32) (Rk' Rw' Rs' Rch' : Nat → Nat → Int32) (Rst' : Nat → Int64) (Ral' Rti' Rtc' Rse' : Nat → Int32), J_X9_loops c st al ti tc se k w so ch top und rc rn rd Rc Rk Rw Rs Rch Rst Ral Rti Rtc Rse v1 = some (x, al', top', und', rc', rn', rd', Rc', Rk', Rw', Rs', Rch', Rst', Ral', Rti', Rtc', Rse') ∧ CHX x g hl N u B top' und' Rc' Rk' Rw' Rs' Rch' Rst' Ral' Rti' Rtc' Rse' := by
  obtain ⟨Rc', Rk', Rw', Rs', Rch', Rst', Ral', Rti', Rtc', Rse', y1, y2, y3⟩ := hold_x hG.1 hC hH
  obtain ⟨top', und', z1, z2⟩ := kept_x hG y2 y3 x
  refine ⟨top', und', Rc', Rk', Rw', Rs', Rch', Rst', Ral', Rti', Rtc', Rse', ?_, z2⟩
  unfold J_X9_loops
  rw [y1, bn10, hin, bn5, z1, bn3]
theorem tick_go (hG : GW g B) (hC : CR g c st al ti tc se k w so ch) (hH : HX hl N u tp B top und Rc Rk Rw Rs Rch Rst Ral Rti Rtc Rse) {x : Int32} {st' : Int64} {ti' : Int32} {tc' : Int32} {ch' : Nat → Int32} (hin : J_X9_letGoBy c st ti tc k w so ch v1 = some (x, st', ti', tc', ch')) : ∃ (top' und' : Int32) (Rc' : Nat → Int32) (Rk' Rw' Rs' Rch' : Nat → Nat → Int32) (Rst' : Nat → Int64) (Ral' Rti' Rtc' Rse' : Nat → Int32), J_X9_tick c st al ti tc se k w so ch top und Rc Rk Rw Rs Rch Rst Ral Rti Rtc Rse v1 = some (x, st', ti', tc', ch', top', und', Rc', Rk', Rw', Rs', Rch', Rst', Ral', Rti', Rtc', Rse') ∧ CHX x g hl N u B top' und' Rc' Rk' Rw' Rs' Rch' Rst' Ral' Rti' Rtc' Rse' := by
  obtain ⟨Rc', Rk', Rw', Rs', Rch', Rst', Ral', Rti', Rtc', Rse', y1, y2, y3⟩ := hold_x hG.1 hC hH
  obtain ⟨top', und', z1, z2⟩ := kept_x hG y2 y3 x
  refine ⟨top', und', Rc', Rk', Rw', Rs', Rch', Rst', Ral', Rti', Rtc', Rse', ?_, z2⟩
  unfold J_X9_tick
  rw [y1, bn10, hin, bn5, z1, bn3]
end Gos

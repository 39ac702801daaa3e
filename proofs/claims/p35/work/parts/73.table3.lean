/-! TABLES, of any number -/
theorem table_call {g : Nat → Nat} {c al ti tc se : Int32} {st : Int64} {k w so ch nw : Nat → Int32} (hG : GV g) (hC : CR g c st al ti tc se k w so ch) (hM : MR g nw) (kn kn2 rr rr2 : Nat → Int32) (v1 : Int32) : ∃ x kn' kn2' rr' rr2', J_X9_table c k w so kn v1 = some (x, kn') ∧ J_X9_tableAgain c st k w so kn2 v1 = some (x, kn2') ∧ J_X10_table nw rr v1 = some (x, rr') ∧ J_X10_tableAgain nw rr2 v1 = some (x, rr2') := by
  have h16 := hG.1
  rcases ix_case v1 (n := g 0) (by omega) with hv | ⟨l, hl, rfl⟩
  · have e : ∀ r, J_X10_table nw r v1 = some (-11, r) := fun r => by
      unfold J_X10_table
      rw [X10_isLantern_f hG hM hv, bn1, if_pos (show nI 0 = (0 : Int32) from rfl)]
    unfold J_X9_table J_X9_tableAgain J_X10_tableAgain
    rw [hC.1.1, X2_isHung_f hv, e, e, bn1, if_pos (show nI 0 = (0 : Int32) from rfl), bn1, if_pos (show nI 0 = (0 : Int32) from rfl), bn2]
    exact ⟨_, _, _, _, _, rfl, rfl, rfl, rfl⟩
  · exact table_both hG hC.1 hC.2.1 hM hl kn kn2 rr rr2

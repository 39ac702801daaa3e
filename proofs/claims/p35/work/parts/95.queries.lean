/-! p35: QUERIES: answers as functions of the state -/
def gO (g : Nat → Nat) : Nat → Int32 := fun i => nI (g i)
abbrev z0 : Nat → Int32 := fun _ => 0
def q1 {α : Type} (o : Option α) (f : α → Int32) : Int32 := match o with | none => 0 | some a => f a
section Queries
variable {g : Nat → Nat} {B : Nat} {c al ti tc se : Int32} {st : Int64} {k w so ch : Nat → Int32}
def q_lanternOf (g : Nat → Nat) (v1 v2 : Int32) : Int32 := q1 (J_X10_lanternOf (gO g) v1 v2) id
theorem lanternOf_q (hG : GV g) (hC : CR g c st al ti tc se k w so ch) (v1 v2 : Int32) : J_X9_lanternOf c st k w so ch v1 v2 = some (q_lanternOf g v1 v2) := by
  obtain ⟨x, e1, e2⟩ := lanternOf_both hG hC (MR_O g) v1 v2
  rw [e1]
  exact congrArg some (show x = q1 (J_X10_lanternOf (gO g) v1 v2) id by rw [show J_X10_lanternOf (gO g) v1 v2 = some x from e2]; rfl)
def q_wireOf (g : Nat → Nat) (v1 v2 : Int32) : Int32 := q1 (J_X10_wireOf (gO g) v1 v2) id
theorem wireOf_q (hG : GV g) (hC : CR g c st al ti tc se k w so ch) (v1 v2 : Int32) : J_X9_wireOf c so v1 v2 = some (q_wireOf g v1 v2) := by
  obtain ⟨x, e1, e2⟩ := wireOf_both hG hC (MR_O g) v1 v2
  rw [e1]
  exact congrArg some (show x = q1 (J_X10_wireOf (gO g) v1 v2) id by rw [show J_X10_wireOf (gO g) v1 v2 = some x from e2]; rfl)
def q_leads (g : Nat → Nat) (v1 : Int32) : Int32 := q1 (J_X10_leads (gO g) z0 v1) (fun p => p.1)
theorem leads_q (hG : GV g) (hC : CR g c st al ti tc se k w so ch) (v1 : Int32) : J_X9_leads c so v1 = some (q_leads g v1) := by
  obtain ⟨x, rr, e1, e2⟩ := leads_both hG hC (MR_O g) z0 v1
  rw [e1]
  exact congrArg some (show x = q1 (J_X10_leads (gO g) z0 v1) (fun p => p.1) by rw [show J_X10_leads (gO g) z0 v1 = some (x, rr) from e2]; rfl)
def q_looped (g : Nat → Nat)  : Int32 := q1 (J_X10_looped (gO g) z0) (fun p => p.1)
theorem looped_q (hG : GV g) (hC : CR g c st al ti tc se k w so ch) : J_X9_looped c so = some (q_looped g) := by
  obtain ⟨x, rr, e1, e2⟩ := looped_both hG hC (MR_O g) z0
  rw [e1]
  exact congrArg some (show x = q1 (J_X10_looped (gO g) z0) (fun p => p.1) by rw [show J_X10_looped (gO g) z0 = some (x, rr) from e2]; rfl)
def q_switchesOf (g : Nat → Nat) (v1 : Int32) : Int32 := q1 (J_X10_switchesOf (gO g) z0 v1) (fun p => p.1)
theorem switchesOf_q (hG : GV g) (hC : CR g c st al ti tc se k w so ch) (v1 : Int32) : J_X9_switchesOf c k so v1 = some (q_switchesOf g v1) := by
  obtain ⟨x, rr, e1, e2⟩ := switchesOf_both hG hC (MR_O g) z0 v1
  rw [e1]
  exact congrArg some (show x = q1 (J_X10_switchesOf (gO g) z0 v1) (fun p => p.1) by rw [show J_X10_switchesOf (gO g) z0 v1 = some (x, rr) from e2]; rfl)
def q_depth (g : Nat → Nat) (v1 : Int32) : Int32 := q1 (J_X10_depth (gO g) z0 v1) (fun p => p.1)
theorem depth_q (hG : GV g) (hC : CR g c st al ti tc se k w so ch) (kn kn2 : Nat → Int32) (v1 : Int32) : (∃ kn', J_X9_depth c k w so kn v1 = some (q_depth g v1, kn')) ∧ ∃ kn2', J_X9_depthAgain c k w so kn2 v1 = some (q_depth g v1, kn2') := by
  obtain ⟨x, kn', kn2', rr, rr2, e1, e2, e3, e4⟩ := depth_both hG hC (MR_O g) kn kn2 z0 z0 v1
  have hx : x = q_depth g v1 := show x = q1 (J_X10_depth (gO g) z0 v1) (fun p => p.1) by rw [show J_X10_depth (gO g) z0 v1 = some (x, rr) from e3]; rfl
  rw [← hx]
  exact ⟨⟨kn', e1⟩, kn2', e2⟩
def q_table (g : Nat → Nat) (v1 : Int32) : Int32 := q1 (J_X10_table (gO g) z0 v1) (fun p => p.1)
theorem table_q (hG : GV g) (hC : CR g c st al ti tc se k w so ch) (kn kn2 : Nat → Int32) (v1 : Int32) : (∃ kn', J_X9_table c k w so kn v1 = some (q_table g v1, kn')) ∧ ∃ kn2', J_X9_tableAgain c st k w so kn2 v1 = some (q_table g v1, kn2') := by
  obtain ⟨x, kn', kn2', rr, rr2, e1, e2, e3, e4⟩ := table_call hG hC (MR_O g) kn kn2 z0 z0 v1
  have hx : x = q_table g v1 := show x = q1 (J_X10_table (gO g) z0 v1) (fun p => p.1) by rw [show J_X10_table (gO g) z0 v1 = some (x, rr) from e3]; rfl
  rw [← hx]
  exact ⟨⟨kn', e1⟩, kn2', e2⟩
def q_settlesIn (g : Nat → Nat)  : Int32 := q1 (J_X10_settlesIn (gO g) z0 z0) (fun p => p.1)
theorem settlesIn_q (hG : GV g) (hC : CR g c st al ti tc se k w so ch) : J_X9_settlesIn c st k w so = some (q_settlesIn g) := by
  obtain ⟨x, nw', th', fi', e1, e2, -⟩ := settles_call hG hC (MR_O g) z0 z0
  rw [e1]
  exact congrArg some (show x = q1 (J_X10_settlesIn (gO g) z0 z0) (fun p => p.1) by rw [show J_X10_settlesIn (gO g) z0 z0 = some (x, nw', th', fi') from e2]; rfl)
def q_period (g : Nat → Nat)  : Int32 := q1 (J_X10_period (gO g) z0 z0 z0 z0 z0) (fun p => p.1)
theorem period_q (hG : GV g) (hC : CR g c st al ti tc se k w so ch) (sn : Nat → Int64) : (∃ sn', J_X9_period c st k w so sn = some (q_period g, sn')) ∧ J_X9_periodAgain c st k w so = some (q_period g) := by
  obtain ⟨x, sn', nw', th', fi', gl', lo', up', e1, e2, e3, -⟩ := period_call hG hC (MR_O g) sn z0 z0 z0 z0 z0
  have hx : x = q_period g := show x = q1 (J_X10_period (gO g) z0 z0 z0 z0 z0) (fun p => p.1) by rw [show J_X10_period (gO g) z0 z0 z0 z0 z0 = some (x, nw', th', fi', gl', lo', up') from e3]; rfl
  rw [← hx]
  exact ⟨⟨sn', e1⟩, e2⟩
def q_flickers (g : Nat → Nat) (v1 v2 : Int32) : Int32 := q1 (J_X10_flickers (gO g) z0 z0 v1 v2) (fun p => p.1)
theorem flickers_q (hG : GV g) (hC : CR g c st al ti tc se k w so ch) (v1 v2 : Int32) : J_X9_flickers c st k w so v1 v2 = some (q_flickers g v1 v2) := by
  obtain ⟨x, nw', th', fi', e1, e2, -⟩ := flickers_call hG hC (MR_O g) z0 z0 v1 v2
  rw [e1]
  exact congrArg some (show x = q1 (J_X10_flickers (gO g) z0 z0 v1 v2) (fun p => p.1) by rw [show J_X10_flickers (gO g) z0 z0 v1 v2 = some (x, nw', th', fi') from e2]; rfl)
def q_account (g : Nat → Nat) (u n : Nat) (v1 : Int32) : Int32 := q1 (J_X10_account (nI u) (nI n) (gO g) z0 v1) (fun p => p.1)
theorem account_q (hG : GW g B) (hC : CR g c st al ti tc se k w so ch) (u n : Nat) (kn : Nat → Int32) (v1 : Int32) : ∃ kn', J_X9_account c st al ti tc se k w so ch (nI u) kn (nI n) v1 = some (q_account g u n v1, kn') := by
  obtain ⟨x, kn', rr', e1, e2⟩ := account_both hG hC (MR_O g) u n kn z0 v1
  have hx : x = q_account g u n v1 := show x = q1 (J_X10_account (nI u) (nI n) (gO g) z0 v1) (fun p => p.1) by rw [show J_X10_account (nI u) (nI n) (gO g) z0 v1 = some (x, rr') from e2]; rfl
  rw [← hx]
  exact ⟨kn', e1⟩
def q_mean (g : Nat → Nat) : UInt64 := match J_X10_meanWick (gO g) with | none => 0 | some r => r
theorem mean_q (hG : GV g) (hC : CR g c st al ti tc se k w so ch) : J_X9_meanWick c k w = some (q_mean g) := by
  obtain ⟨r, e1, e2⟩ := mean_both hG hC (MR_O g)
  rw [e1]
  exact congrArg some (show r = (match J_X10_meanWick (gO g) with | none => 0 | some r => r) by rw [show J_X10_meanWick (gO g) = some r from e2])
def q_glow (g : Nat → Nat) : UInt32 := match J_X10_glowShare (gO g) with | none => 0 | some r => r
theorem glow_q (hG : GV g) (hC : CR g c st al ti tc se k w so ch) : J_X9_glowShare c st = some (q_glow g) := by
  obtain ⟨r, e1, e2, -⟩ := glow_both hG hC (MR_O g)
  rw [e1]
  exact congrArg some (show r = (match J_X10_glowShare (gO g) with | none => 0 | some r => r) by rw [show J_X10_glowShare (gO g) = some r from e2])
end Queries

/-! TEXTS: run -/
section Run2
variable {g : Nat → Nat} {B n n0 u tp : Nat} {tg : Nat → Nat} {sg tx nw wy mo : Nat → Int32} {pg : Nat → Nat → Nat} {c al ti tc se top und uds rc wh : Int32} {st : Int64} {k w so ch rn rd : Nat → Int32} {Rc : Nat → Int32} {Rk Rw Rs Rch : Nat → Nat → Int32} {Rst : Nat → Int64} {Ral Rti Rtc Rse kp : Nat → Int32}
theorem run_both (hT1 : TG n tg sg) (hT2 : TG n tg tx) (hG : GW g B) (hC : CR g c st al ti tc se k w so ch) (hM : MR g nw) (hR : RR n0 rc rn rd wh wy mo) (hH : HR u tp pg B top und Rc Rk Rw Rs Rch Rst Ral Rti Rtc Rse uds kp) (a0 w0 f0 s0 t0 m0 am o0 an : Int32) (td fi sp tl : Nat → Int32) : ∃ (u' tp' : Nat) (pg' : Nat → Nat → Nat) (g' : Nat → Nat) (n' : Nat) (x c' : Int32) (st' : Int64) (al' ti' tc' se' : Int32) (k' w' so' ch' : Nat → Int32) (top' und' at' wd' f' s' t' m' rc' : Int32) (rn' rd' : Nat → Int32) (Rc' : Nat → Int32) (Rk' Rw' Rs' Rch' : Nat → Nat → Int32) (Rst' : Nat → Int64) (Ral' Rti' Rtc' Rse' : Nat → Int32) (uds' am' o' wh' an' : Int32) (nw' td' kp' fi' sp' tl' wy' mo' : Nat → Int32), J_X9_run c st al ti tc se k w so ch top und (nI n) a0 w0 f0 s0 t0 m0 sg rc rn rd Rc Rk Rw Rs Rch Rst Ral Rti Rtc Rse = some (x, c', st', al', ti', tc', se', k', w', so', ch', top', und', nI 0, at', wd', f', s', t', m', rc', rn', rd', Rc', Rk', Rw', Rs', Rch', Rst', Ral', Rti', Rtc', Rse') ∧ J_X10_run uds (nI n) am o0 wh an nw td kp fi sp tx tl wy mo = some (x, uds', nI 0, am', o', wh', an', nw', td', kp', fi', sp', tl', wy', mo') ∧ CR g' c' st' al' ti' tc' se' k' w' so' ch' ∧ MR g' nw' ∧ GW g' (B + 100000) ∧ RR n' rc' rn' rd' wh' wy' mo' ∧ HR u' tp' pg' (B + 100000) top' und' Rc' Rk' Rw' Rs' Rch' Rst' Ral' Rti' Rtc' Rse' uds' kp' := by
  have h60 := hT1.1
  obtain ⟨wd, f, s, t, mm, e1⟩ := X8_isRight hT1 a0 w0 f0 s0 t0 m0
  obtain ⟨td1, e2, e3⟩ := X10_tries nw td
  obtain ⟨o1, tl1, e4, -⟩ := X10_isOrder hT2 (Nat.zero_le n) o0 tl
  obtain ⟨o2, tl2, e5⟩ := X10_first_L hT2 uds wh an nw td1 kp fi sp wy mo 61 999 0 o1 tl1 (by omega) (by omega) (Nat.zero_le n)
  have hle := RF_le (n := n) (tg := tg) 61 0 (Nat.zero_le n)
  have eM : J_X10_run uds (nI n) am o0 wh an nw td kp fi sp tx tl wy mo = J_X10_run_b55 tx uds (nI n) (nI (RF n tg 61 0).1) o2 wh an nw td1 kp fi sp tl2 wy mo (b2 (RF n tg 61 0).2) := by
    unfold J_X10_run
    rw [e2, bn1, il_0, e4, bn4]
    exact e5
  rw [eM]
  unfold J_X9_run J_X9_run_b28 J_X8_empty J_X8_position J_X10_run_b55
  rw [e1, bn7]
  rcases hr : (RF n tg 61 0).2 with _ | _
  · rw [b2_f, if_pos (show nI 0 = (0 : Int32) from rfl), if_pos (show nI 0 = (0 : Int32) from rfl), bn1, nm_x, bn1]
    exact ⟨u, tp, pg, g, n0, _, _, _, _, _, _, _, _, _, _, _, _, _, _, _, _, _, _, _, _, _, _, _, _, _, _, _, _, _, _, _, _, uds, nI (RF n tg 61 0).1, o2, wh, an, nw, td1, kp, fi, sp, tl2, wy, mo, rfl, rfl, hC, hM, hG.up (by omega), hR, hH.up (by omega)⟩
  · rw [b2_t, if_neg (show ¬ nI 1 = (0 : Int32) by decide +kernel), if_neg (show ¬ nI 1 = (0 : Int32) by decide +kernel)]
    unfold J_X9_carryOutAll J_X8_toStart
    obtain ⟨Rc3, Rk3, Rw3, Rs3, Rch3, Rst3, Ral3, Rti3, Rtc3, Rse3, y1, y2, y3⟩ := hold_c hG.1 hC hH
    rw [y1, bn10, bn1]
    obtain ⟨u', tp', pg', g', n', x', c', st', al', ti', tc', se', k', w', so', ch', top', und', at', wd', f', s', t', m'', rc', rn', rd', uds', am', o', wh', an', nw', td', kp', fi', sp', tl', wy', mo', z1, z2, z3, z4, z5, z6, z7⟩ := run2_both hT1 hT2 y2 y3 hG (fun i hi => (e3 i hi).trans (hM i hi)) 61 FU FU 0 0 0 g B n0 c al ti tc se wd f s t mm rc st k w so ch rn rd o2 wh an nw fi sp tl2 wy mo (by omega) (by unfold FU; omega) (by unfold FU; omega) (by omega) (by omega) (Or.inl ⟨rfl, rfl⟩) hr (Nat.le_refl B) hG hC hM hR
    rw [il_0, il_1, z1, bn32, bn1]
    exact ⟨u', tp', pg', g', n', _, _, _, _, _, _, _, _, _, _, _, _, _, _, _, _, _, _, _, _, _, _, _, _, _, _, _, _, _, _, _, _, uds', am', o', wh', an', nw', td', kp', fi', sp', tl', wy', mo', rfl, z2, z3, z4, z5.up (by omega), z6, z7.up (by omega)⟩
end Run2

/-! CALLS: the changes with the past held and kept -/
section Calls
variable {g : Nat → Nat} {B n u tp : Nat} {pg : Nat → Nat → Nat} {c al ti tc se top und uds rc wh : Int32} {st : Int64} {k w so ch rn rd nw wy mo kp : Nat → Int32} {Rc : Nat → Int32} {Rk Rw Rs Rch : Nat → Nat → Int32} {Rst : Nat → Int64} {Ral Rti Rtc Rse : Nat → Int32}
theorem hang_call (hG : GW g B) (hC : CR g c st al ti tc se k w so ch) (hM : MR g nw) (hR : RR n rc rn rd wh wy mo) (hH : HR u tp pg B top und Rc Rk Rw Rs Rch Rst Ral Rti Rtc Rse uds kp) (an : Int32) (td : Nat → Int32) (v1 v2 : Int32) : ∃ (g' : Nat → Nat) (n' u' tp' : Nat) (pg' : Nat → Nat → Nat) (x c' : Int32) (k' w' : Nat → Int32) (top' und' rc' : Int32) (rn' rd' : Nat → Int32) (Rc' : Nat → Int32) (Rk' Rw' Rs' Rch' : Nat → Nat → Int32) (Rst' : Nat → Int64) (Ral' Rti' Rtc' Rse' : Nat → Int32) (uds' wh' an' : Int32) (nw' td' kp' wy' mo' : Nat → Int32), J_X9_hang c st al ti tc se k w so ch top und rc rn rd Rc Rk Rw Rs Rch Rst Ral Rti Rtc Rse v1 v2 = some (x, c', k', w', top', und', rc', rn', rd', Rc', Rk', Rw', Rs', Rch', Rst', Ral', Rti', Rtc', Rse') ∧ J_X10_hang uds wh an nw td kp wy mo v1 v2 = some (x, uds', wh', an', nw', td', kp', wy', mo') ∧ GW g' (B + 100000) ∧ CR g' c' st al ti tc se k' w' so ch ∧ MR g' nw' ∧ RR n' rc' rn' rd' wh' wy' mo' ∧ HR u' tp' pg' (B + 100000) top' und' Rc' Rk' Rw' Rs' Rch' Rst' Ral' Rti' Rtc' Rse' uds' kp' := by
  unfold J_X9_hang J_X10_hang
  obtain ⟨Rc', Rk', Rw', Rs', Rch', Rst', Ral', Rti', Rtc', Rse', y1, y2, y3⟩ := hold_c hG.1 hC hH
  obtain ⟨td', t1, t2⟩ := X10_tries nw td
  obtain ⟨g', n', xc, c', k', w', rc', rn', rd', xm, wh', an', nw', wy', mo', e1, e2, hC', hM', hG', hR', hO⟩ := hang_both hG hC hM hR an v1 v2
  obtain ⟨u', tp', pg', top', und', uds', kp', z1, z2, z3⟩ := end_both hG y2 y3 (MR_copy t2 hM) hO
  rw [y1, bn10, e1, bn7, z1, bn3, t1, bn1, e2, bnd6, z2, bn3]
  exact ⟨g', n', u', tp', pg', _, _, _, _, _, _, _, _, _, _, _, _, _, _, _, _, _, _, _, _, _, _, _, _, _, _, _, rfl, rfl, hG'.up (by omega), hC', hM', hR', z3.up (by omega)⟩
theorem wire_call (hG : GW g B) (hC : CR g c st al ti tc se k w so ch) (hM : MR g nw) (hR : RR n rc rn rd wh wy mo) (hH : HR u tp pg B top und Rc Rk Rw Rs Rch Rst Ral Rti Rtc Rse uds kp) (an : Int32) (td sp : Nat → Int32) (v1 v2 v3 : Int32) : ∃ (g' : Nat → Nat) (n' u' tp' : Nat) (pg' : Nat → Nat → Nat) (x : Int32) (so' : Nat → Int32) (top' und' rc' : Int32) (rn' rd' : Nat → Int32) (Rc' : Nat → Int32) (Rk' Rw' Rs' Rch' : Nat → Nat → Int32) (Rst' : Nat → Int64) (Ral' Rti' Rtc' Rse' : Nat → Int32) (uds' wh' an' : Int32) (nw' td' kp' sp' wy' mo' : Nat → Int32), J_X9_wire c st al ti tc se k w so ch top und rc rn rd Rc Rk Rw Rs Rch Rst Ral Rti Rtc Rse v1 v2 v3 = some (x, so', top', und', rc', rn', rd', Rc', Rk', Rw', Rs', Rch', Rst', Ral', Rti', Rtc', Rse') ∧ J_X10_wire uds wh an nw td kp sp wy mo v1 v2 v3 = some (x, uds', wh', an', nw', td', kp', sp', wy', mo') ∧ GW g' (B + 100000) ∧ CR g' c st al ti tc se k w so' ch ∧ MR g' nw' ∧ RR n' rc' rn' rd' wh' wy' mo' ∧ HR u' tp' pg' (B + 100000) top' und' Rc' Rk' Rw' Rs' Rch' Rst' Ral' Rti' Rtc' Rse' uds' kp' := by
  unfold J_X9_wire J_X10_wire
  obtain ⟨Rc', Rk', Rw', Rs', Rch', Rst', Ral', Rti', Rtc', Rse', y1, y2, y3⟩ := hold_c hG.1 hC hH
  obtain ⟨td', t1, t2⟩ := X10_tries nw td
  obtain ⟨g', n', xc, so', rc', rn', rd', xm, wh', an', nw', sp', wy', mo', e1, e2, hC', hM', hG', hR', hO⟩ := wire_both hG hC hM hR an v1 v2 v3 sp
  obtain ⟨u', tp', pg', top', und', uds', kp', z1, z2, z3⟩ := end_both hG y2 y3 (MR_copy t2 hM) hO
  rw [y1, bn10, e1, bn5, z1, bn3, t1, bn1, e2, bn7, z2, bn3]
  exact ⟨g', n', u', tp', pg', _, _, _, _, _, _, _, _, _, _, _, _, _, _, _, _, _, _, _, _, _, _, _, _, _, _, rfl, rfl, hG'.up (by omega), hC', hM', hR', z3.up (by omega)⟩
theorem cut_call (hG : GW g B) (hC : CR g c st al ti tc se k w so ch) (hM : MR g nw) (hR : RR n rc rn rd wh wy mo) (hH : HR u tp pg B top und Rc Rk Rw Rs Rch Rst Ral Rti Rtc Rse uds kp) (an : Int32) (td : Nat → Int32) (v1 v2 : Int32) : ∃ (g' : Nat → Nat) (n' u' tp' : Nat) (pg' : Nat → Nat → Nat) (x : Int32) (so' : Nat → Int32) (top' und' rc' : Int32) (rn' rd' : Nat → Int32) (Rc' : Nat → Int32) (Rk' Rw' Rs' Rch' : Nat → Nat → Int32) (Rst' : Nat → Int64) (Ral' Rti' Rtc' Rse' : Nat → Int32) (uds' wh' an' : Int32) (nw' td' kp' wy' mo' : Nat → Int32), J_X9_cut c st al ti tc se k w so ch top und rc rn rd Rc Rk Rw Rs Rch Rst Ral Rti Rtc Rse v1 v2 = some (x, so', top', und', rc', rn', rd', Rc', Rk', Rw', Rs', Rch', Rst', Ral', Rti', Rtc', Rse') ∧ J_X10_cut uds wh an nw td kp wy mo v1 v2 = some (x, uds', wh', an', nw', td', kp', wy', mo') ∧ GW g' (B + 100000) ∧ CR g' c st al ti tc se k w so' ch ∧ MR g' nw' ∧ RR n' rc' rn' rd' wh' wy' mo' ∧ HR u' tp' pg' (B + 100000) top' und' Rc' Rk' Rw' Rs' Rch' Rst' Ral' Rti' Rtc' Rse' uds' kp' := by
  unfold J_X9_cut J_X10_cut
  obtain ⟨Rc', Rk', Rw', Rs', Rch', Rst', Ral', Rti', Rtc', Rse', y1, y2, y3⟩ := hold_c hG.1 hC hH
  obtain ⟨td', t1, t2⟩ := X10_tries nw td
  obtain ⟨g', n', xc, so', rc', rn', rd', xm, wh', an', nw', wy', mo', e1, e2, hC', hM', hG', hR', hO⟩ := cut_both hG hC hM hR an v1 v2
  obtain ⟨u', tp', pg', top', und', uds', kp', z1, z2, z3⟩ := end_both hG y2 y3 (MR_copy t2 hM) hO
  rw [y1, bn10, e1, bn5, z1, bn3, t1, bn1, e2, bnd6, z2, bn3]
  exact ⟨g', n', u', tp', pg', _, _, _, _, _, _, _, _, _, _, _, _, _, _, _, _, _, _, _, _, _, _, _, _, _, rfl, rfl, hG'.up (by omega), hC', hM', hR', z3.up (by omega)⟩
theorem tick_call (hG : GW g B) (hC : CR g c st al ti tc se k w so ch) (hM : MR g nw) (hH : HR u tp pg B top und Rc Rk Rw Rs Rch Rst Ral Rti Rtc Rse uds kp) (an : Int32) (td fi : Nat → Int32) (v1 : Int32) : ∃ (g' : Nat → Nat) (u' tp' : Nat) (pg' : Nat → Nat → Nat) (x : Int32) (st' : Int64) (ti' tc' : Int32) (ch' : Nat → Int32) (top' und' : Int32) (Rc' : Nat → Int32) (Rk' Rw' Rs' Rch' : Nat → Nat → Int32) (Rst' : Nat → Int64) (Ral' Rti' Rtc' Rse' : Nat → Int32) (uds' an' : Int32) (nw' td' kp' fi' : Nat → Int32), J_X9_tick c st al ti tc se k w so ch top und Rc Rk Rw Rs Rch Rst Ral Rti Rtc Rse v1 = some (x, st', ti', tc', ch', top', und', Rc', Rk', Rw', Rs', Rch', Rst', Ral', Rti', Rtc', Rse') ∧ J_X10_tick uds an nw td kp fi v1 = some (x, uds', an', nw', td', kp', fi') ∧ GW g' (B + 100000) ∧ CR g' c st' al ti' tc' se k w so ch' ∧ MR g' nw' ∧ HR u' tp' pg' (B + 100000) top' und' Rc' Rk' Rw' Rs' Rch' Rst' Ral' Rti' Rtc' Rse' uds' kp' := by
  unfold J_X9_tick J_X10_tick
  obtain ⟨Rc', Rk', Rw', Rs', Rch', Rst', Ral', Rti', Rtc', Rse', y1, y2, y3⟩ := hold_c hG.1 hC hH
  obtain ⟨td', t1, t2⟩ := X10_tries nw td
  obtain ⟨g', xc, st', ti', tc', ch', xm, an', nw', fi', e1, e2, hC', hM', hG', hO⟩ := tick_both hG hC hM an v1 fi 1
  obtain ⟨u', tp', pg', top', und', uds', kp', z1, z2, z3⟩ := end_both hG y2 y3 (MR_copy t2 hM) hO
  rw [y1, bn10, e1, bn5, z1, bn3, t1, bn1, e2, bn4, z2, bn3]
  exact ⟨g', u', tp', pg', _, _, _, _, _, _, _, _, _, _, _, _, _, _, _, _, _, _, _, _, _, _, _, rfl, rfl, hG'.up (by omega), hC', hM', z3.up (by omega)⟩
theorem set_call (hG : GW g B) (hC : CR g c st al ti tc se k w so ch) (hM : MR g nw) (hR : RR n rc rn rd wh wy mo) (hH : HR u tp pg B top und Rc Rk Rw Rs Rch Rst Ral Rti Rtc Rse uds kp) (an : Int32) (td : Nat → Int32) (v1 : Int32) {b : Nat} (hb : b ≤ 1) : ∃ (g' : Nat → Nat) (n' u' tp' : Nat) (pg' : Nat → Nat → Nat) (x : Int32) (st' : Int64) (se' : Int32) (ch' : Nat → Int32) (top' und' rc' : Int32) (rn' rd' : Nat → Int32) (Rc' : Nat → Int32) (Rk' Rw' Rs' Rch' : Nat → Nat → Int32) (Rst' : Nat → Int64) (Ral' Rti' Rtc' Rse' : Nat → Int32) (uds' wh' an' : Int32) (nw' td' kp' wy' mo' : Nat → Int32), J_X9_set c st al ti tc se k w so ch top und rc rn rd Rc Rk Rw Rs Rch Rst Ral Rti Rtc Rse v1 (nI b) = some (x, st', se', ch', top', und', rc', rn', rd', Rc', Rk', Rw', Rs', Rch', Rst', Ral', Rti', Rtc', Rse') ∧ J_X10_set uds wh an nw td kp wy mo v1 (nI b) = some (x, uds', wh', an', nw', td', kp', wy', mo') ∧ GW g' (B + 100000) ∧ CR g' c st' al ti tc se' k w so ch' ∧ MR g' nw' ∧ RR n' rc' rn' rd' wh' wy' mo' ∧ HR u' tp' pg' (B + 100000) top' und' Rc' Rk' Rw' Rs' Rch' Rst' Ral' Rti' Rtc' Rse' uds' kp' := by
  unfold J_X9_set J_X10_set J_X10_set_b16
  obtain ⟨Rc', Rk', Rw', Rs', Rch', Rst', Ral', Rti', Rtc', Rse', y1, y2, y3⟩ := hold_c hG.1 hC hH
  obtain ⟨td', t1, t2⟩ := X10_tries nw td
  obtain ⟨g', n', xc, st', se', ch', rc', rn', rd', xm, wh', an', nw', wy', mo', e1, e2, hC', hM', hG', hR', hO⟩ := set_both hG hC hM hR an v1 hb
  obtain ⟨u', tp', pg', top', und', uds', kp', z1, z2, z3⟩ := end_both hG y2 y3 (MR_copy t2 hM) hO
  have ei : (if nI b = nI 0 then J_X10_switches wh an nw wy mo v1 (nI 0) else J_X10_switches wh an nw wy mo v1 (nI 1)) = J_X10_switches wh an nw wy mo v1 (nI b) := by
    rcases (show b = 0 ∨ b = 1 by omega) with rfl | rfl
    · rw [if_pos rfl]
    · rw [if_neg (by decide +kernel)]
  rw [y1, bn10, e1, bn7, z1, bn3, t1, bn1]
  refine ⟨g', n', u', tp', pg', _, _, _, _, _, _, _, _, _, _, _, _, _, _, _, _, _, _, _, uds', wh', an', nw', td', kp', wy', mo', rfl, ?_, hG'.up (by omega), hC', hM', hR', z3.up (by omega)⟩
  rcases (show b = 0 ∨ b = 1 by omega) with rfl | rfl
  · rw [if_pos (show nI 0 = (0 : Int32) from rfl), il_0, e2, bnd6, z2, bn3]
  · rw [if_neg (show ¬ nI 1 = (0 : Int32) by decide +kernel), il_1, e2, bnd6, z2, bn3]
theorem low_ex {P : Nat → Prop} (i : Nat) : P i → ∃ r, P r ∧ ∀ j, j < r → ¬ P j := by
  induction i using Nat.strongRecOn with
  | ind i ih =>
    intro h
    rcases Classical.em (∃ j, j < i ∧ P j) with ⟨j, hj, hp⟩ | hn
    · exact ih j hj hp
    · exact ⟨i, h, fun j hj hp => hn ⟨j, hj, hp⟩⟩
theorem al_GA (g : Nat → Nat) (b l w : Nat) : GA (updn g 1 b) l w = GA g l w := by
  unfold GA updn
  rw [if_neg (by omega)]
theorem al_ne (g : Nat → Nat) (b : Nat) {i : Nat} (h : i ≠ 1) : updn g 1 b i = g i := by unfold updn; rw [if_neg h]
theorem GW_al (hG : GW g B) {b : Nat} (hb : b ≤ 1) : GW (updn g 1 b) B := by
  have h0 := al_ne g b (show 0 ≠ 1 by omega)
  have h3 := al_ne g b (show 3 ≠ 1 by omega)
  have h4 := al_ne g b (show 4 ≠ 1 by omega)
  have h1 : updn g 1 b 1 = b := by unfold updn; rw [if_pos rfl]
  refine ⟨?_, ?_, ?_, ?_⟩
  · unfold GV
    simp only [src, al_GA, h0, h1]
    exact ⟨hG.1.1, hb, hG.1.2.2.1, hG.1.2.2.2.1, hG.1.2.2.2.2.1, fun i q1 q2 => by rw [al_ne g b (by omega)]; exact hG.1.2.2.2.2.2 i q1 q2⟩
  · simp only [al_GA]
    exact hG.2.1
  · simp only [al_GA, h3, h4]
    exact hG.2.2.1
  · rw [h3, h4]
    exact hG.2.2.2
theorem CR_al (hC : CR g c st al ti tc se k w so ch) (b : Nat) : CR (updn g 1 b) c st (nI b) ti tc se k w so ch := by
  refine ⟨?_, ?_, ?_, ?_, ?_, ?_, ?_⟩
  · unfold SR
    simp only [src, al_GA, al_ne g b (show 0 ≠ 1 by omega)]
    exact hC.1
  · unfold ER gw
    simp only [al_GA]
    exact hC.2.1
  · simp only [al_GA]
    exact hC.2.2.1
  · unfold updn; rw [if_pos rfl]
  · rw [al_ne g b (by omega)]; exact hC.2.2.2.2.1
  · rw [al_ne g b (by omega)]; exact hC.2.2.2.2.2.1
  · rw [al_ne g b (by omega)]; exact hC.2.2.2.2.2.2
theorem MR_al (hM : MR g nw) (b : Nat) : MR (updn g 1 b) (upd nw 1 (nI b)) := fun i hi => by
  unfold updn upd
  by_cases e : i = 1
  · rw [if_pos e, if_pos e]
  · rw [if_neg e, if_neg e]; exact hM i hi
theorem loops_call (hG : GW g B) (hC : CR g c st al ti tc se k w so ch) (hM : MR g nw) (hR : RR n rc rn rd wh wy mo) (hH : HR u tp pg B top und Rc Rk Rw Rs Rch Rst Ral Rti Rtc Rse uds kp) (td rr : Nat → Int32) {b : Nat} (hb : b ≤ 1) : ∃ (g' : Nat → Nat) (n' u' tp' : Nat) (pg' : Nat → Nat → Nat) (x al' top' und' rc' : Int32) (rn' rd' : Nat → Int32) (Rc' : Nat → Int32) (Rk' Rw' Rs' Rch' : Nat → Nat → Int32) (Rst' : Nat → Int64) (Ral' Rti' Rtc' Rse' : Nat → Int32) (uds' wh' : Int32) (nw' td' kp' rr' wy' mo' : Nat → Int32), J_X9_loops c st al ti tc se k w so ch top und rc rn rd Rc Rk Rw Rs Rch Rst Ral Rti Rtc Rse (nI b) = some (x, al', top', und', rc', rn', rd', Rc', Rk', Rw', Rs', Rch', Rst', Ral', Rti', Rtc', Rse') ∧ J_X10_loops uds wh nw td kp rr wy mo (nI b) = some (x, uds', wh', nw', td', kp', rr', wy', mo') ∧ GW g' (B + 100000) ∧ CR g' c st al' ti tc se k w so ch ∧ MR g' nw' ∧ RR n' rc' rn' rd' wh' wy' mo' ∧ HR u' tp' pg' (B + 100000) top' und' Rc' Rk' Rw' Rs' Rch' Rst' Ral' Rti' Rtc' Rse' uds' kp' := by
  have h16 := hG.1.1
  unfold J_X9_loops J_X10_loops
  obtain ⟨Rc', Rk', Rw', Rs', Rch', Rst', Ral', Rti', Rtc', Rse', y1, y2, y3⟩ := hold_c hG.1 hC hH
  obtain ⟨td', t1, t2⟩ := X10_tries nw td
  obtain ⟨x, e1, e2⟩ := X5_inLoops hG.1 hC.1
  obtain ⟨y, r', e3, e4, -⟩ := X10_loopSet hG.1 hM rr
  obtain rfl := e4.uniq e2
  have h1 := hG.1.2.1
  obtain ⟨u', tp', pg', top', und', uds', kp', z1, z2, z3⟩ := keep_both hG y2 y3 (MR_copy t2 hM) (nI (g 1))
  have hal : al = nI (g 1) := hC.2.2.2.1
  have hn1 := hM 1 (by omega)
  by_cases hgo : b = 0 ∧ y ≠ nI 0
  · obtain ⟨rfl, hy⟩ := hgo
    have hex : ∃ i, Leads g i i := Classical.byContradiction fun h => hy (e4.zero.2 h)
    obtain ⟨i, hi⟩ := hex
    obtain ⟨r, hr, hlow⟩ := low_ex (P := fun i => Leads g i i) i hi
    have hr16 : r < 16 := by have := hr.lt; omega
    have hbr : bt y r = true := (e4 r).2 hr
    have hbl : ∀ i, i < r → bt y i = false := fun i hi => Bool.eq_false_iff.2 fun h => hlow i hi ((e4 i).1 h)
    have hbh : ∀ i, 16 ≤ i → bt y i = false := fun i hi => Bool.eq_false_iff.2 fun h => by
      have := ((e4 i).1 h).lt
      omega
    have kf : J_X9_kept top und (-nI 14) = some (-nI 14, top, und) := by
      unfold J_X9_kept J_X9_kept_b11
      rw [if_pos (by decide +kernel)]
    have hcl : J_X9_allowLoops c al so rc rn rd (nI 0) = some (-nI 14, al, nI 2, upd (upd rn 0 (nI 9)) 1 (nI 12), upd (upd rd 0 (nI r)) 1 (nI (fb_ct (bt y) 16))) := by
      unfold J_X9_allowLoops J_X9_allowLoops_b15
      rw [if_pos (show nI 0 = (0 : Int32) from rfl), e1, bn1, if_neg (show ¬ y = (0 : Int32) from hy), X9_lowestIn hr16 hbr hbl, bn1, il_9, refuse_c, bn4, bitCount_eq hbh, bn1, il_12, behind_c, bn3]
      rfl
    rw [y1, bn10, hcl, bn5, kf, bn3, t1, bn1, e3, bn2, if_pos (show nI 0 = (0 : Int32) from rfl), if_neg (show ¬ y = (0 : Int32) from hy), ntz_eq hbh hbr hbl, bn1, il_9, refuse_m, bn4, bitCount_eq hbh, bn1, il_12, behind_m, bn4]
    exact ⟨g, 2, u, tp, pg, _, _, _, _, _, _, _, _, _, _, _, _, _, _, _, _, _, _, _, _, _, _, _, _, _, rfl, rfl, hG.up (by omega), hC, hM, RR_2 (RR_1 _ _ _ _ _ _) _ _, y2.up (by omega)⟩
  · have kept : J_X9_kept top und (nI (g 1)) = some (nI (g 1), top', und') := by
      unfold J_X9_kept J_X9_kept_b11
      rw [if_neg (nI_pos (by omega)), z1, bn2]
    have hz : chz (nI b) (some (nI b)) = some (nI b) := by
      rcases (show b = 0 ∨ b = 1 by omega) with rfl | rfl
      · exact chz_0 _
      · exact chz_1 _
    have hz1 : chz al (some al) = some (nI (g 1)) := by
      rw [hal]
      rcases (show g 1 = 0 ∨ g 1 = 1 by omega) with q | q <;> rw [q]
      · exact chz_0 _
      · exact chz_1 _
    have tail : J_X9_allowLoops_b15 c so (nI b) al rc rn rd 0 = some (nI (g 1), nI b, rc, rn, rd) := by
      unfold J_X9_allowLoops_b15 J_X9_allowLoops_b62 J_X2_allowLoops J_X2_areLoopsAllowed
      rw [if_pos rfl, hz1, bn1, hz]
      rcases (show g 1 = 0 ∨ g 1 = 1 by omega) with q | q <;> rw [q]
      · rw [if_pos (show nI 0 = (0 : Int32) from rfl), bn1]
        rfl
      · rw [if_neg (show ¬ nI 1 = (0 : Int32) by decide +kernel), bn1]
        rfl
    have hcl : J_X9_allowLoops c al so rc rn rd (nI b) = some (nI (g 1), nI b, rc, rn, rd) := by
      unfold J_X9_allowLoops
      by_cases q : b = 0
      · subst q
        have hy : y = 0 := Classical.byContradiction fun h => hgo ⟨rfl, h⟩
        rw [if_pos (show nI 0 = (0 : Int32) from rfl), e1, bn1, hy]
        exact tail
      · rw [if_neg (show ¬ nI b = (0 : Int32) from fun h => q ((nI_eq (by omega) (by omega)).1 (show nI b = nI 0 from h)))]
        exact tail
    have hmB : J_X10_loops_b39 (nI b) uds wh nw td' kp r' wy mo = some (nI (g 1), uds', wh, upd nw 1 (nI b), td', kp', r', wy, mo) := by
      unfold J_X10_loops_b39 J_X10_loops_b60
      rcases (show b = 0 ∨ b = 1 by omega) with rfl | rfl
      · simp (disch := omega) only [↓reduceIte, nm_x, chk_nI, chz_0, chz_1, chz_b2, chn_nI, oi_1, oi_2, oi_m1, il_0, il_1, il_2, il_3, il_4, il_5, il_6, il_7, il_8, il_9, il_10, il_11, il_12, il_13, il_14, il_15, il_16, il_32, il_35, il_40, il_41, il_42, il_43, il_44, il_45, il_46, il_48, il_57, il_58, il_59, il_60, il_99, il_104, il_115, il_116, il_119, il_126, il_133, il_255, il_256, il_512, il_931, il_1000, il_65536, bn0, bn1, bn2, bn3, bn4, bn5, bn6, bn7, bn8, bn9, bn10, bn11, bn12, bn13, bn14, bn15, nI_leI, nI_ltI, nI_eq, nI_clamp, nI_add, pk_mul, nI_lt0, ng_lt0, ng_ge0, ng_eqn, ng_neq, ng_len, ng_eq, sV_m1, sV_lt0, sV_ge0, if_true, if_false, Nat.le_refl, Nat.lt_irrefl, Nat.not_lt_zero, Nat.zero_le, not_true_eq_false, not_false_eq_true, false_and, true_and, and_true, and_false, true_or, or_true, false_or, or_false, reduceCtorEq, hn1, z2]
      · simp (disch := omega) only [↓reduceIte, nm_x, chk_nI, chz_0, chz_1, chz_b2, chn_nI, oi_1, oi_2, oi_m1, il_0, il_1, il_2, il_3, il_4, il_5, il_6, il_7, il_8, il_9, il_10, il_11, il_12, il_13, il_14, il_15, il_16, il_32, il_35, il_40, il_41, il_42, il_43, il_44, il_45, il_46, il_48, il_57, il_58, il_59, il_60, il_99, il_104, il_115, il_116, il_119, il_126, il_133, il_255, il_256, il_512, il_931, il_1000, il_65536, bn0, bn1, bn2, bn3, bn4, bn5, bn6, bn7, bn8, bn9, bn10, bn11, bn12, bn13, bn14, bn15, nI_leI, nI_ltI, nI_eq, nI_clamp, nI_add, pk_mul, nI_lt0, ng_lt0, ng_ge0, ng_eqn, ng_neq, ng_len, ng_eq, sV_m1, sV_lt0, sV_ge0, if_true, if_false, Nat.le_refl, Nat.lt_irrefl, Nat.not_lt_zero, Nat.zero_le, not_true_eq_false, not_false_eq_true, false_and, true_and, and_true, and_false, true_or, or_true, false_or, or_false, reduceCtorEq, hn1, z2]
    rw [y1, bn10, hcl, bn5, kept, bn3, t1, bn1, e3, bn2]
    refine ⟨updn g 1 b, n, u', tp', pg', _, _, _, _, _, _, _, _, _, _, _, _, _, _, _, _, _, uds', wh, upd nw 1 (nI b), td', kp', r', wy, mo, rfl, ?_, (GW_al hG hb).up (by omega), CR_al hC b, MR_al hM b, hR, z3.up (by omega)⟩
    by_cases q : b = 0
    · subst q
      rw [if_pos (show nI 0 = (0 : Int32) from rfl), if_pos (show y = (0 : Int32) from Classical.byContradiction fun h => hgo ⟨rfl, h⟩)]
      exact hmB
    · rw [if_neg (show ¬ nI b = (0 : Int32) from fun h => q ((nI_eq (by omega) (by omega)).1 (show nI b = nI 0 from h)))]
      exact hmB
end Calls

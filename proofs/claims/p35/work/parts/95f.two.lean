/-! p35: A TEXT OF TWO ORDERS "tick 1;tick 0", of which the second is refused -/
section Two
variable {g : Nat → Nat} {hl : Nat → Nat → Nat} {B N u nr n : Nat} {rn rd : Nat → Int32} {tg : Nat → Nat}
theorem carry_tick {c al ti tc se rc : Int32} {st : Int64} {k w so ch : Nat → Int32} {x : Nat} {wd f s t : Int32} (h1 : OK1 (some (4, x, 0, 0)) wd f s t) {r ti' tc' : Int32} {st' : Int64} {ch' : Nat → Int32} (e1 : J_X9_letGoBy c st ti tc k w so ch (nI x) = some (r, st', ti', tc', ch')) : J_X9_carryOut c st al ti tc se k w so ch wd f s t rc rn rd = some (r, c, st', ti', tc', se, k, w, so, ch', rc, rn, rd) := by
  obtain ⟨rfl, rfl, -, -⟩ := h1 4 x 0 0 rfl
  unfold J_X9_carryOut J_X8_word J_X8_first
  rw [bn1, if_neg (show ¬ nI 4 = (0 : Int32) by decide +kernel), if_neg (show ¬ nI 4 = (1 : Int32) by decide +kernel), if_neg (show ¬ nI 4 = (2 : Int32) by decide +kernel), if_neg (show ¬ nI 4 = (3 : Int32) by decide +kernel), bn1, e1, bn5]
theorem refuseOrder_bad (rc : Int32) {j e : Nat} (h14 : e ≠ 14) (he : e < 2 ^ 31) : J_X9_refuseOrder rc rn rd (nI j) (-nI e) = some (-nI 14, nI 2, upd (upd rn 0 (nI 10)) 1 (nI 13), upd (upd rd 0 (nI j)) 1 (-nI e)) := by
  unfold J_X9_refuseOrder J_X9_refuseOrder_b39
  have hne : ¬ -nI e = (-14 : Int32) := fun q => h14 ((ng_eq (by omega) (by omega)).1 (show -nI e = -nI 14 from q))
  rw [if_neg hne]
  have e1 : J_X6_start rn rd (10 : Int32) (nI j) = some (nI 1, upd rn 0 (nI 10), upd rd 0 (nI j)) := by
    unfold J_X6_start
    simp (disch := omega) only [↓reduceIte, nm_x, chk_nI, chz_0, chz_1, chz_b2, chn_nI, oi_1, oi_2, oi_m1, il_0, il_1, il_2, il_3, il_4, il_5, il_6, il_7, il_8, il_9, il_10, il_11, il_12, il_13, il_14, il_15, il_16, il_32, il_35, il_40, il_41, il_42, il_43, il_44, il_45, il_46, il_48, il_57, il_58, il_59, il_60, il_99, il_104, il_115, il_116, il_119, il_126, il_133, il_255, il_256, il_512, il_931, il_1000, il_65536, bn0, bn1, bn2, bn3, bn4, bn5, bn6, bn7, bn8, bn9, bn10, bn11, bn12, bn13, bn14, bn15, nI_leI, nI_ltI, nI_eq, nI_clamp, nI_add, pk_mul, nI_lt0, ng_lt0, ng_ge0, ng_eqn, ng_neq, ng_len, ng_eq, sV_m1, sV_lt0, sV_ge0, if_true, if_false, Nat.le_refl, Nat.lt_irrefl, Nat.not_lt_zero, Nat.zero_le, not_true_eq_false, not_false_eq_true, false_and, true_and, and_true, and_false, true_or, or_true, false_or, or_false, reduceCtorEq]
  rw [e1, bn3, il_13, behind_c, bn3]
  rfl
theorem IN_run_two (hG : GW g B) {b1 : Nat} (h1 : PO n tg 0 = (b1, some (4, 1, 0, 0))) (hb : b1 < n) (hb0 : 0 < b1) (h59 : tg b1 = 59) (h2 : PO n tg (b1 + 1) = (n, some (4, 0, 0, 0))) (hRF : RF n tg 61 0 = (n, true)) : IN_run (PR2 (nI 10) (nI 1) (nI 13) (-nI 12)) g hl N u B nr rn rd n tg := fun c al ti tc se rc st k w so ch top und Rc Rk Rw Rs Rch Rst Ral Rti Rtc Rse sg a0 w0 f0 s0 t0 m0 tp hC hR hH hT => by
  have h60 := hT.1
  obtain ⟨wd, f, s, t, mm, e1⟩ := X8_isRight hT a0 w0 f0 s0 t0 m0
  rw [hRF] at e1
  obtain ⟨ht8, htop⟩ : tp ≤ 8 ∧ top = nI tp := ⟨hH.2.2.1, hH.2.2.2.1⟩
  obtain ⟨Rc3, Rk3, Rw3, Rs3, Rch3, Rst3, Ral3, Rti3, Rtc3, Rse3, y1, y2, y3⟩ := hold_x hG.1 hC hH
  obtain ⟨wd1, f1, s1, t1, m1, n1, o1⟩ := X8_next hT (p := 0) (a := 0) (Or.inl ⟨rfl, rfl⟩) (Nat.zero_le n) wd f s t mm
  rw [h1] at n1 o1
  obtain ⟨st1, ti1, tc1, ch1, k1, hC1, hG1⟩ := tick_ok hG hC (tt := 1) (by omega) (by omega)
  have ht1 := tsum_le g 1
  obtain ⟨wd2, f2, s2, t2, m2, n2, o2⟩ := X8_next hT (p := b1) (a := b1 + 1) (Or.inr ⟨hb0, rfl, h59⟩) (by omega) wd1 f1 s1 t1 m1
  rw [h2] at n2 o2
  have k2 : J_X9_letGoBy c st1 ti1 tc1 k w so ch1 (nI 0) = some (-nI 12, st1, ti1, tc1, ch1) := tick_bad (Or.inl (by decide +kernel))
  obtain ⟨c4, st4, al4, ti4, tc4, se4, k4, w4, so4, ch4, z1, hC4⟩ := backHeld hG.1 ht8 y3 k w so ch1
  obtain ⟨q, hq⟩ : ∃ q, FU = q + 1 + 1 := ⟨998, rfl⟩
  refine ⟨g, 2, -nI 14, c4, st4, al4, ti4, tc4, se4, k4, w4, so4, ch4, top, und, nI n, wd2, f2, s2, t2, m2, nI 2, upd (upd rn 0 (nI 10)) 1 (nI 13), upd (upd rd 0 (nI 1)) 1 (-nI 12), Rc3, Rk3, Rw3, Rs3, Rch3, Rst3, Ral3, Rti3, Rtc3, Rse3, ?_, hC4, hG.up (by omega), RC_2, fun _ => rfl, ⟨tp, Or.inr ⟨m_lt (by omega) (by omega), y2.up (by omega)⟩⟩, rfl, rfl, rfl, rfl, rfl, rfl⟩
  have hL2 : J_X9_carryOutAll_L20 (nI n) sg (q + 1) c st1 al ti1 tc1 se k w so ch1 top und (nI b1) wd1 f1 s1 t1 m1 rc rn rd Rc3 Rk3 Rw3 Rs3 Rch3 Rst3 Ral3 Rti3 Rtc3 Rse3 (nI 1) = some (-nI 14, c4, st4, al4, ti4, tc4, se4, k4, w4, so4, ch4, top, und, nI n, wd2, f2, s2, t2, m2, nI 2, upd (upd rn 0 (nI 10)) 1 (nI 13), upd (upd rd 0 (nI 1)) 1 (-nI 12), Rc3, Rk3, Rw3, Rs3, Rch3, Rst3, Ral3, Rti3, Rtc3, Rse3) := by
    rw [J_X9_carryOutAll_L20, if_neg (show ¬ (60 : Int32) ≤ nI 1 by decide +kernel), n2, bn7, oS, b2_t, if_neg (show ¬ nI 1 = (0 : Int32) by decide +kernel), carry_tick o2 k2, bn13, if_neg (show ¬ (0 : Int32) ≤ -nI 12 by decide +kernel), htop, z1, bn10, refuseOrder_bad rc (by omega) (by omega), bn4]
  unfold J_X9_run J_X9_run_b28 J_X8_empty
  rw [e1, bn7, b2_t, if_neg (show ¬ nI 1 = (0 : Int32) by decide +kernel)]
  unfold J_X9_carryOutAll J_X8_toStart
  rw [y1, bn10, bn1, hq, J_X9_carryOutAll_L20, if_neg (show ¬ (60 : Int32) ≤ (0 : Int32) by decide +kernel), il_0, n1, bn7, oS, b2_t, if_neg (show ¬ nI 1 = nI 0 by decide +kernel), carry_tick o1 k1, bn13, if_pos (nI_le (Nat.zero_le _) (by omega)), oi_1, nI_add, nm_x, hL2, bn32, bn1]
end Two

/-! p35: UNDO, SAVE, RESTORE, LOOPS by name -/
section Undo2
variable {g : Nat → Nat} {hl : Nat → Nat → Nat} {N u tp B n : Nat} {c al ti tc se top und rc : Int32} {st : Int64} {k w so ch rn rd : Nat → Int32} {Rc : Nat → Int32} {Rk Rw Rs Rch : Nat → Nat → Int32} {Rst : Nat → Int64} {Ral Rti Rtc Rse : Nat → Int32}
theorem undo_0 (hH : HX hl N 0 tp B top und Rc Rk Rw Rs Rch Rst Ral Rti Rtc Rse) : J_X9_undo c st al ti tc se k w so ch top und Rc Rk Rw Rs Rch Rst Ral Rti Rtc Rse = some (-nI 15, c, st, al, ti, tc, se, k, w, so, ch, top, und) := by
  obtain ⟨h0, h1, h2, h3, h4, h5⟩ := hH
  unfold J_X9_undo J_X4_undoable
  rw [h4]
  simp (disch := omega) only [↓reduceIte, nm_x, chk_nI, chz_0, chz_1, chz_b2, chn_nI, oi_1, oi_2, oi_m1, il_0, il_1, il_2, il_3, il_4, il_5, il_6, il_7, il_8, il_9, il_10, il_11, il_12, il_13, il_14, il_15, il_16, il_32, il_35, il_40, il_41, il_42, il_43, il_44, il_45, il_46, il_48, il_57, il_58, il_59, il_60, il_99, il_104, il_115, il_116, il_119, il_126, il_133, il_255, il_256, il_512, il_931, il_1000, il_65536, bn0, bn1, bn2, bn3, bn4, bn5, bn6, bn7, bn8, bn9, bn10, bn11, bn12, bn13, bn14, bn15, nI_leI, nI_ltI, nI_eq, nI_clamp, nI_add, pk_mul, nI_lt0, ng_lt0, ng_ge0, ng_eqn, ng_neq, ng_len, ng_eq, sV_m1, sV_lt0, sV_ge0, if_true, if_false, Nat.le_refl, Nat.lt_irrefl, Nat.not_lt_zero, Nat.zero_le, not_true_eq_false, not_false_eq_true, false_and, true_and, and_true, and_false, true_or, or_true, false_or, or_false, reduceCtorEq]
theorem undo_s {v : Nat} (hH : HX hl N (v + 1) tp B top und Rc Rk Rw Rs Rch Rst Ral Rti Rtc Rse) : ∃ (c' : Int32) (st' : Int64) (al' ti' tc' se' : Int32) (k' w' so' ch' : Nat → Int32) (top' und' : Int32) (tp' : Nat), J_X9_undo c st al ti tc se k w so ch top und Rc Rk Rw Rs Rch Rst Ral Rti Rtc Rse = some (nI v, c', st', al', ti', tc', se', k', w', so', ch', top', und') ∧ CR (hl (N - 1)) c' st' al' ti' tc' se' k' w' so' ch' ∧ GW (hl (N - 1)) B ∧ HX hl (N - 1) v tp' B top' und' Rc Rk Rw Rs Rch Rst Ral Rti Rtc Rse := by
  obtain ⟨h0, h1, h2, h3, h4, h6⟩ := hH
  obtain ⟨a1, a2⟩ := h6 v (by omega)
  have hs : (tp + 9 - (v + 1) + v) % 9 = (tp + 8) % 9 := by omega
  have hn : N - (v + 1) + v = N - 1 := by omega
  rw [hs, hn] at a2
  rw [hn] at a1
  obtain ⟨k', w', so', ch', e1, hC'⟩ := X2_copy a1.1 a2 k w so ch
  have hp : nI (v + 1) - nI 1 = nI v := nI_pred v
  have e3 : J_X4_bringBackLatest (nI tp) (nI (v + 1)) c st al ti tc se k w so ch Rc Rk Rw Rs Rch Rst Ral Rti Rtc Rse = some (nI ((tp + 8) % 9), nI v, Rc ((tp + 8) % 9), Rst ((tp + 8) % 9), Ral ((tp + 8) % 9), Rti ((tp + 8) % 9), Rtc ((tp + 8) % 9), Rse ((tp + 8) % 9), k', w', so', ch') := by
    unfold J_X4_bringBackLatest J_X4_bringBackLatest_b19
    by_cases ht : tp = 0
    · subst ht
      rw [il_0, if_pos (nI_le (Nat.le_refl 0) (by omega))]
      simp (disch := omega) only [↓reduceIte, nm_x, chk_nI, chz_0, chz_1, chz_b2, chn_nI, oi_1, oi_2, oi_m1, il_0, il_1, il_2, il_3, il_4, il_5, il_6, il_7, il_8, il_9, il_10, il_11, il_12, il_13, il_14, il_15, il_16, il_32, il_35, il_40, il_41, il_42, il_43, il_44, il_45, il_46, il_48, il_57, il_58, il_59, il_60, il_99, il_104, il_115, il_116, il_119, il_126, il_133, il_255, il_256, il_512, il_931, il_1000, il_65536, bn0, bn1, bn2, bn3, bn4, bn5, bn6, bn7, bn8, bn9, bn10, bn11, bn12, bn13, bn14, bn15, nI_leI, nI_ltI, nI_eq, nI_clamp, nI_add, pk_mul, nI_lt0, ng_lt0, ng_ge0, ng_eqn, ng_neq, ng_len, ng_eq, sV_m1, sV_lt0, sV_ge0, if_true, if_false, Nat.le_refl, Nat.lt_irrefl, Nat.not_lt_zero, Nat.zero_le, not_true_eq_false, not_false_eq_true, false_and, true_and, and_true, and_false, true_or, or_true, false_or, or_false, reduceCtorEq, hp, atTop_nI]
      rw [show (0 + 8) % 9 = 8 from rfl] at e1 ⊢
      rw [e1, bn10]
    · obtain ⟨t, rfl⟩ : ∃ t, tp = t + 1 := ⟨tp - 1, by omega⟩
      have hpt : nI (t + 1) - nI 1 = nI t := nI_pred t
      rw [il_0, if_neg (nI_ge (a := 0) (by omega) (by omega))]
      simp (disch := omega) only [↓reduceIte, nm_x, chk_nI, chz_0, chz_1, chz_b2, chn_nI, oi_1, oi_2, oi_m1, il_0, il_1, il_2, il_3, il_4, il_5, il_6, il_7, il_8, il_9, il_10, il_11, il_12, il_13, il_14, il_15, il_16, il_32, il_35, il_40, il_41, il_42, il_43, il_44, il_45, il_46, il_48, il_57, il_58, il_59, il_60, il_99, il_104, il_115, il_116, il_119, il_126, il_133, il_255, il_256, il_512, il_931, il_1000, il_65536, bn0, bn1, bn2, bn3, bn4, bn5, bn6, bn7, bn8, bn9, bn10, bn11, bn12, bn13, bn14, bn15, nI_leI, nI_ltI, nI_eq, nI_clamp, nI_add, pk_mul, nI_lt0, ng_lt0, ng_ge0, ng_eqn, ng_neq, ng_len, ng_eq, sV_m1, sV_lt0, sV_ge0, if_true, if_false, Nat.le_refl, Nat.lt_irrefl, Nat.not_lt_zero, Nat.zero_le, not_true_eq_false, not_false_eq_true, false_and, true_and, and_true, and_false, true_or, or_true, false_or, or_false, reduceCtorEq, hp, hpt, atTop_nI]
      rw [show (t + 1 + 8) % 9 = t by omega] at e1 ⊢
      rw [e1, bn10]
  refine ⟨_, _, _, _, _, _, _, _, _, _, _, _, (tp + 8) % 9, ?_, hC', a1, by omega, by omega, by omega, rfl, rfl, fun i hi => ?_⟩
  · unfold J_X9_undo J_X4_undoable
    rw [h4, h3]
    simp only [bn1, il_0]
    rw [if_neg (show ¬ nI (v + 1) = nI 0 by rw [nI_eq (by omega) (by omega)]; omega), e3]
    simp only [bn12]
  · obtain ⟨b1, b2⟩ := h6 i (by omega)
    rw [show N - 1 - v + i = N - (v + 1) + i by omega]
    refine ⟨b1, ?_⟩
    rw [show ((tp + 8) % 9 + 9 - v + i) % 9 = (tp + 9 - (v + 1) + i) % 9 by omega]
    exact b2
/-- what is saved: b is 1 once something was -/
def SX (b : Nat) (gs : Nat → Nat) (B : Nat) (hs : Int32) (c : Int32) (st : Int64) (al ti tc se : Int32) (k w so ch : Nat → Int32) : Prop := b ≤ 1 ∧ hs = nI b ∧ (b = 1 → GW gs B ∧ CR gs c st al ti tc se k w so ch)
theorem SX.up {b B' : Nat} {gs : Nat → Nat} {hs : Int32} (h : SX b gs B hs c st al ti tc se k w so ch) (hB : B ≤ B') : SX b gs B' hs c st al ti tc se k w so ch :=
  ⟨h.1, h.2.1, fun e => ⟨(h.2.2 e).1.up hB, (h.2.2 e).2⟩⟩
theorem save_x (hG : GW g B) (hC : CR g c st al ti tc se k w so ch) (k0 w0 so0 ch0 : Nat → Int32) : ∃ (hs' c' : Int32) (st' : Int64) (al' ti' tc' se' : Int32) (k' w' so' ch' : Nat → Int32), J_X9_save c st al ti tc se k w so ch k0 w0 so0 ch0 = some (nI (g 0), hs', c', st', al', ti', tc', se', k', w', so', ch') ∧ SX 1 g B hs' c' st' al' ti' tc' se' k' w' so' ch' := by
  obtain ⟨k', w', so', ch', e1, hC'⟩ := X2_copy hG.1 hC k0 w0 so0 ch0
  refine ⟨nI 1, c, st, al, ti, tc, se, k', w', so', ch', ?_, by omega, rfl, fun _ => ⟨hG, hC'⟩⟩
  unfold J_X9_save J_X2_count
  rw [e1]
  simp only [bn10, bn1, il_1, chz_1, hC.1.1]
theorem restore_0 {hs c2 al2 ti2 tc2 se2 : Int32} {st2 : Int64} {k2 w2 so2 ch2 : Nat → Int32} {gs : Nat → Nat} (hS : SX 0 gs B hs c2 st2 al2 ti2 tc2 se2 k2 w2 so2 ch2) : J_X9_restore hs c st al ti tc se k w so ch c2 st2 al2 ti2 tc2 se2 k2 w2 so2 ch2 und = some (-nI 15, c, st, al, ti, tc, se, k, w, so, ch, und) := by
  unfold J_X9_restore
  rw [hS.2.1]
  simp (disch := omega) only [↓reduceIte, nm_x, chk_nI, chz_0, chz_1, chz_b2, chn_nI, oi_1, oi_2, oi_m1, il_0, il_1, il_2, il_3, il_4, il_5, il_6, il_7, il_8, il_9, il_10, il_11, il_12, il_13, il_14, il_15, il_16, il_32, il_35, il_40, il_41, il_42, il_43, il_44, il_45, il_46, il_48, il_57, il_58, il_59, il_60, il_99, il_104, il_115, il_116, il_119, il_126, il_133, il_255, il_256, il_512, il_931, il_1000, il_65536, bn0, bn1, bn2, bn3, bn4, bn5, bn6, bn7, bn8, bn9, bn10, bn11, bn12, bn13, bn14, bn15, nI_leI, nI_ltI, nI_eq, nI_clamp, nI_add, pk_mul, nI_lt0, ng_lt0, ng_ge0, ng_eqn, ng_neq, ng_len, ng_eq, sV_m1, sV_lt0, sV_ge0, if_true, if_false, Nat.le_refl, Nat.lt_irrefl, Nat.not_lt_zero, Nat.zero_le, not_true_eq_false, not_false_eq_true, false_and, true_and, and_true, and_false, true_or, or_true, false_or, or_false, reduceCtorEq]
theorem restore_1 {hs c2 al2 ti2 tc2 se2 : Int32} {st2 : Int64} {k2 w2 so2 ch2 : Nat → Int32} {gs : Nat → Nat} (hS : SX 1 gs B hs c2 st2 al2 ti2 tc2 se2 k2 w2 so2 ch2) (hH : HX hl N u tp B top und Rc Rk Rw Rs Rch Rst Ral Rti Rtc Rse) : ∃ (c' : Int32) (st' : Int64) (al' ti' tc' se' : Int32) (k' w' so' ch' : Nat → Int32) (und' : Int32), J_X9_restore hs c st al ti tc se k w so ch c2 st2 al2 ti2 tc2 se2 k2 w2 so2 ch2 und = some (nI (gs 0), c', st', al', ti', tc', se', k', w', so', ch', und') ∧ GW gs B ∧ CR gs c' st' al' ti' tc' se' k' w' so' ch' ∧ HX hl N 0 tp B top und' Rc Rk Rw Rs Rch Rst Ral Rti Rtc Rse := by
  obtain ⟨q1, q2⟩ := hS.2.2 rfl
  obtain ⟨k', w', so', ch', e1, hC'⟩ := X2_copy q1.1 q2 k w so ch
  refine ⟨c2, st2, al2, ti2, tc2, se2, k', w', so', ch', nI 0, ?_, q1, hC', Nat.zero_le _, by omega, hH.2.2.1, hH.2.2.2.1, rfl, fun i hi => absurd hi (Nat.not_lt_zero i)⟩
  unfold J_X9_restore J_X4_forget J_X2_count
  rw [hS.2.1]
  simp (disch := omega) only [↓reduceIte, nm_x, chk_nI, chz_0, chz_1, chz_b2, chn_nI, oi_1, oi_2, oi_m1, il_0, il_1, il_2, il_3, il_4, il_5, il_6, il_7, il_8, il_9, il_10, il_11, il_12, il_13, il_14, il_15, il_16, il_32, il_35, il_40, il_41, il_42, il_43, il_44, il_45, il_46, il_48, il_57, il_58, il_59, il_60, il_99, il_104, il_115, il_116, il_119, il_126, il_133, il_255, il_256, il_512, il_931, il_1000, il_65536, bn0, bn1, bn2, bn3, bn4, bn5, bn6, bn7, bn8, bn9, bn10, bn11, bn12, bn13, bn14, bn15, nI_leI, nI_ltI, nI_eq, nI_clamp, nI_add, pk_mul, nI_lt0, ng_lt0, ng_ge0, ng_eqn, ng_neq, ng_len, ng_eq, sV_m1, sV_lt0, sV_ge0, if_true, if_false, Nat.le_refl, Nat.lt_irrefl, Nat.not_lt_zero, Nat.zero_le, not_true_eq_false, not_false_eq_true, false_and, true_and, and_true, and_false, true_or, or_true, false_or, or_false, reduceCtorEq, e1]
  rw [← q2.1.1]
theorem loops_no (hG : GW g B) (hC : CR g c st al ti tc se k w so ch) {i : Nat} (hi : Leads g i i) : ∃ r x, r < 16 ∧ Leads g r r ∧ (∀ j, j < r → ¬ Leads g j j) ∧ MS x (fun i => Leads g i i) ∧ J_X9_allowLoops c al so rc rn rd (nI 0) = some (-nI 14, al, nI 2, upd (upd rn 0 (nI 9)) 1 (nI 12), upd (upd rd 0 (nI r)) 1 (nI (fb_ct (bt x) 16))) := by
  have h16 := hG.1.1
  obtain ⟨y, e1, e4⟩ := X5_inLoops hG.1 hC.1
  have hy : y ≠ nI 0 := fun h => (e4.zero.1 h) ⟨i, hi⟩
  obtain ⟨r, hr, hlow⟩ := low_ex (P := fun i => Leads g i i) i hi
  have hr16 : r < 16 := by have := hr.lt; omega
  have hbr : bt y r = true := (e4 r).2 hr
  have hbl : ∀ i, i < r → bt y i = false := fun i hi => Bool.eq_false_iff.2 fun h => hlow i hi ((e4 i).1 h)
  have hbh : ∀ i, 16 ≤ i → bt y i = false := fun i hi => Bool.eq_false_iff.2 fun h => by
    have := ((e4 i).1 h).lt
    omega
  have hcl : J_X9_allowLoops c al so rc rn rd (nI 0) = some (-nI 14, al, nI 2, upd (upd rn 0 (nI 9)) 1 (nI 12), upd (upd rd 0 (nI r)) 1 (nI (fb_ct (bt y) 16))) := by
    unfold J_X9_allowLoops J_X9_allowLoops_b15
    rw [if_pos (show nI 0 = (0 : Int32) from rfl), e1, bn1, if_neg (show ¬ y = (0 : Int32) from hy), X9_lowestIn hr16 hbr hbl, bn1, il_9, refuse_c, bn4, bitCount_eq hbh, bn1, il_12, behind_c, bn3]
    rfl
  exact ⟨r, y, hr16, hr, hlow, e4, hcl⟩
theorem loops_ok (hG : GW g B) (hC : CR g c st al ti tc se k w so ch) {b : Nat} (hb : b ≤ 1) (hno : b = 0 → ∀ i, ¬ Leads g i i) : J_X9_allowLoops c al so rc rn rd (nI b) = some (nI (g 1), nI b, rc, rn, rd) ∧ CR (updn g 1 b) c st (nI b) ti tc se k w so ch ∧ GW (updn g 1 b) B := by
  have h16 := hG.1.1
  have h1 := hG.1.2.1
  have hal : al = nI (g 1) := hC.2.2.2.1
  obtain ⟨y, e1, e4⟩ := X5_inLoops hG.1 hC.1
  refine ⟨?_, CR_al hC b, GW_al hG hb⟩
  have hz : chz (nI b) (some (nI b)) = some (nI b) := by
    rcases (show b = 0 ∨ b = 1 by omega) with rfl | rfl
    · exact chz_0 _
    · exact chz_1 _
  have hz1 : chz al (some al) = some (nI (g 1)) := by
    rw [hal]
    rcases (show g 1 = 0 ∨ g 1 = 1 by omega) with q | q <;> rw [q]
    · exact chz_0 _
    · exact chz_1 _
  have tail : J_X9_allowLoops_b15 c so (nI b) al rc rn rd 0 = some (nI (g 1), nI b, rc, rn, rd) := by
    unfold J_X9_allowLoops_b15 J_X9_allowLoops_b62 J_X2_allowLoops J_X2_areLoopsAllowed
    rw [if_pos rfl, hz1, bn1, hz]
    rcases (show g 1 = 0 ∨ g 1 = 1 by omega) with q | q <;> rw [q]
    · rw [if_pos (show nI 0 = (0 : Int32) from rfl), bn1]
      rfl
    · rw [if_neg (show ¬ nI 1 = (0 : Int32) by decide +kernel), bn1]
      rfl
  have hcl : J_X9_allowLoops c al so rc rn rd (nI b) = some (nI (g 1), nI b, rc, rn, rd) := by
    unfold J_X9_allowLoops
    by_cases q : b = 0
    · subst q
      have hy : y = 0 := e4.zero.2 (fun ⟨i, hi⟩ => hno rfl i hi)
      rw [if_pos (show nI 0 = (0 : Int32) from rfl), e1, bn1, hy]
      exact tail
    · rw [if_neg (show ¬ nI b = (0 : Int32) from fun h => q ((nI_eq (by omega) (by omega)).1 (show nI b = nI 0 from h)))]
      exact tail
  exact hcl
end Undo2

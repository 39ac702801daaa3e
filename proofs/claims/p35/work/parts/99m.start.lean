/-! p35: THE START: what the tables and the Statement give -/
theorem start_arq {s : State} {args : Array Value} {C : String} (h : (Cond.arrayOver (.object C)).before args s = true) : ∃ cA : ClassId, ArrOfT s cA (.object C) ∧ va_RA s cA (.object C) := by
  obtain ⟨comp, c, k, h1, -, h2, h3, h4⟩ := Cond.arrayOver_spec (args := args) (first := s) (o := none) (s := s) (idx := []) h
  exact ⟨c, fun n z => ⟨fun k h => (by cases h), k, h2, comp, h3⟩, k, comp, h2, h3, h1, h4⟩
theorem start_K {s : State} {args : Array Value} (htt : ∀ w ∈ tables_1, w.before args s = true) (htw : ∀ w ∈ wsL_law, w.before args s = true) : ∃ (D : va_G) (cI cJ cC cL : ClassId), va_K D vwCl (tyL cI cJ cC cL) s := by
  obtain ⟨cI, a1, a2⟩ := start_arr (htt (.arrayClass .int) (List.mem_of_getElem? (i := 73) (by decide +kernel)))
  obtain ⟨cJ, b1, b2⟩ := start_arr (htt (.arrayClass .long) (List.mem_of_getElem? (i := 113) (by decide +kernel)))
  obtain ⟨cC, c1, c2⟩ := start_arr (htt (.arrayClass .char) (List.mem_of_getElem? (i := 145) (by decide +kernel)))
  obtain ⟨cL, d1, d2⟩ := start_arq (htt (.arrayOver (.object "LanternLogic$Lanterns")) (List.mem_of_getElem? (i := 81) (by decide +kernel)))
  obtain ⟨k0, i0, u0⟩ := u_known (C := RX0) (T := TX0) (N := 1) (n := 1) htw inlX0 (htt (.instantiable RX0 1) (List.mem_of_getElem? (i := 94) (by decide +kernel)))
  obtain ⟨k1, i1, u1⟩ := u_known (C := RX1) (T := TX1) (N := 1) (n := 1) htw inlX1 (htt (.instantiable RX1 1) (List.mem_of_getElem? (i := 104) (by decide +kernel)))
  obtain ⟨k2, i2, u2⟩ := u_known (C := RX2) (T := TX2) (N := 10) (n := 10) htw inlX2 (htt (.instantiable RX2 10) (List.mem_of_getElem? (i := 34) (by decide +kernel)))
  obtain ⟨k3, i3, u3⟩ := u_known (C := RX3) (T := TX3) (N := 2) (n := 2) htw inlX3 (htt (.instantiable RX3 2) (List.mem_of_getElem? (i := 147) (by decide +kernel)))
  obtain ⟨k4, i4, u4⟩ := u_known (C := RX4) (T := TX4) (N := 3) (n := 3) htw inlX4 (htt (.instantiable RX4 3) (List.mem_of_getElem? (i := 75) (by decide +kernel)))
  obtain ⟨k5, i5, u5⟩ := u_known (C := RX6) (T := TX6) (N := 3) (n := 3) htw inlX6 (htt (.instantiable RX6 3) (List.mem_of_getElem? (i := 160) (by decide +kernel)))
  obtain ⟨k6, i6, u6⟩ := u_known (C := RX8) (T := TX8) (N := 8) (n := 8) htw inlX8 (htt (.instantiable RX8 8) (List.mem_of_getElem? (i := 115) (by decide +kernel)))
  obtain ⟨k7, i7, u7⟩ := u_known (C := RX9) (T := TX9) (N := 9) (n := 9) htw inlX9 (htt (.instantiable RX9 9) (List.mem_of_getElem? (i := 26) (by decide +kernel)))
  obtain ⟨k8, i8, u8⟩ := u_known (C := RJ4) (T := TJ4) (N := 4) (n := 4) htw inlJ4 (htt (.instantiable RJ4 4) (List.mem_of_getElem? (i := 912) (by decide +kernel)))
  obtain ⟨k9, i9, u9⟩ := u_known (C := RJ0) (T := TJ0) (N := 4) (n := 4) htw inlJ0 (htt (.instantiable RJ0 4) (List.mem_of_getElem? (i := 1069) (by decide +kernel)))
  refine ⟨(fun k => match k with | 0 => k0 | 1 => k1 | 2 => k2 | 3 => k3 | 4 => k4 | 5 => k5 | 6 => k6 | 7 => k7 | 8 => k8 | _ => k9, fun k => match k with | 0 => i0 | 1 => i1 | 2 => i2 | 3 => i3 | 4 => i4 | 5 => i5 | 6 => i6 | 7 => i7 | 8 => i8 | _ => i9), cI, cJ, cC, cL, ?_, ?_⟩
  · intro k q hq
    match k, hq with
    | 0, hq => cases hq; exact u0
    | 1, hq => cases hq; exact u1
    | 2, hq => cases hq; exact u2
    | 3, hq => cases hq; exact u3
    | 4, hq => cases hq; exact u4
    | 5, hq => cases hq; exact u5
    | 6, hq => cases hq; exact u6
    | 7, hq => cases hq; exact u7
    | 8, hq => cases hq; exact u8
    | 9, hq => cases hq; exact u9
    | k + 10, hq => simp [vwCl] at hq
  · intro k q hq
    match k, hq with
    | 0, hq => cases hq; exact ⟨a1, a2⟩
    | 1, hq => cases hq; exact ⟨b1, b2⟩
    | 2, hq => cases hq; exact ⟨c1, c2⟩
    | 3, hq => cases hq; exact ⟨d1, d2⟩
    | k + 4, hq => simp [tyL] at hq
theorem start_nst {s : State} {args : Array Value} (htt : ∀ w ∈ tables_1, w.before args s = true) : nst s := by
  exact ⟨va_tabs rfl rfl (htt (.methodLinkNest RX2 61 yX9_isPlace RX9) (List.mem_of_getElem? (i := 313) (by decide +kernel))), va_tabs rfl rfl (htt (.methodLinkNest RX2 94 yX9_isIn RX9) (List.mem_of_getElem? (i := 603) (by decide +kernel))), va_tabs rfl rfl (htt (.methodLinkNest RX5 28 yX9_isIn RX9) (List.mem_of_getElem? (i := 291) (by decide +kernel))), va_tabs rfl rfl (htt (.methodLinkNest RX7 37 yX9_isIn RX9) (List.mem_of_getElem? (i := 837) (by decide +kernel))), va_tabs rfl rfl (htt (.methodLinkNest RX9 28 yX0_init RX9) (List.mem_of_getElem? (i := 95) (by decide +kernel))), va_tabs rfl rfl (htt (.methodLinkNest RX9 35 yX1_init RX9) (List.mem_of_getElem? (i := 105) (by decide +kernel))), va_tabs rfl rfl (htt (.methodLinkNest RX9 42 yX8_init RX9) (List.mem_of_getElem? (i := 116) (by decide +kernel))), va_tabs rfl rfl (htt (.methodLinkNest RX9 49 yX3_init RX9) (List.mem_of_getElem? (i := 148) (by decide +kernel))), va_tabs rfl rfl (htt (.methodLinkNest RX9 56 yX6_init RX9) (List.mem_of_getElem? (i := 161) (by decide +kernel)))⟩
theorem start_AO {s : State} {args : Array Value} (htt : ∀ w ∈ tables_1, w.before args s = true) : va_AO "LanternLogic$Lanterns" s := va_AO.of (htt (.arrayOver (.object "LanternLogic$Lanterns")) (List.mem_of_getElem? (i := 81) (by decide +kernel)))
def sqw (t : Term) (bs : List Int32) : List Cond := [.exactly t "java/lang/String", .eq (.field t "java/lang/String" "coder" "B") (.int 0), .arrayOf (.field t "java/lang/String" "value" "[B") .byte, .eq (.length (.field t "java/lang/String" "value" "[B")) (.int (Int32.ofNat bs.length))] ++ (List.range bs.length).map fun j => .eq (.elem (.field t "java/lang/String" "value" "[B") (.int (Int32.ofNat j))) (.int (bs.getD j 0))
theorem str_one {s : State} {args : Array Value} {t : Term} {bs : List Int32} {A : Nat → Prop} (hl : bs.length < 2 ^ 31) (hw : ∀ w ∈ sqw t bs, w.before args s = true) (hA : ∀ a : Nat, a < s.heap.size → ¬ A a) : ∃ a : Nat, t.eval args s none [] s = some (.ref a) ∧ isStr a bs A s s.heap := by
  have h0 : (Cond.exactly t "java/lang/String").before args s = true := hw _ (List.mem_append_left _ (List.mem_of_getElem? (i := 0) rfl))
  have h1 : (Cond.eq (.field t "java/lang/String" "coder" "B") (.int 0)).before args s = true := hw _ (List.mem_append_left _ (List.mem_of_getElem? (i := 1) rfl))
  have h2 : (Cond.arrayOf (.field t "java/lang/String" "value" "[B") .byte).before args s = true := hw _ (List.mem_append_left _ (List.mem_of_getElem? (i := 2) rfl))
  have h3 : (Cond.eq (.length (.field t "java/lang/String" "value" "[B")) (.int (Int32.ofNat bs.length))).before args s = true := hw _ (List.mem_append_left _ (List.mem_of_getElem? (i := 3) rfl))
  have h4 : ∀ j : Nat, j < bs.length → (Cond.eq (.elem (.field t "java/lang/String" "value" "[B") (.int (Int32.ofNat j))) (.int (bs.getD j 0))).before args s = true := fun j hj => hw _ (List.mem_append_right _ (List.mem_map.2 ⟨j, List.mem_range.2 hj, rfl⟩))
  have hz : ∀ i : Nat, i < 1 → i = 0 := fun i hi => by omega
  obtain ⟨adK, adV, k1, k2⟩ := vk_Sof (args := args) (s := s) (N := 1) (tm := fun _ => t) (len := [bs.length]) (byt := [bs]) (A := A)
    (fun i hi => by rw [hz i hi]; exact hl) (fun i hi => h0) (fun i hi => h1) (fun i hi => h2) (fun i hi => by rw [hz i hi]; exact h3) (fun i hi j hj => by rw [hz i hi] at hj ⊢; exact h4 j hj)
    (fun i j hi hj hij => absurd ((hz i hi).trans (hz j hj).symm) hij) hA
  obtain ⟨q1, q2, q3, q4⟩ := k1.1 0 (by omega)
  exact ⟨adK 0, k2 0 (by omega), q1, q2, adV 0, q3, q4⟩
def st_pos : List (List Nat) := [[215, 216, 217, 218, 219, 220, 221, 222], [223, 224, 225, 226, 227, 228, 229, 230], [232, 233, 234, 235, 236, 237, 238], [241, 242, 243, 244, 245, 246, 247], [251, 252, 253, 254, 255, 256, 257, 258, 259], [264, 265, 266, 267, 268, 269, 270], [276, 277, 278, 279, 280, 281, 282], [289, 290, 291, 292, 293, 294], [302, 303, 304, 305, 306, 307, 308, 309, 310, 311], [320, 321, 322, 323, 324, 325, 326, 327], [337, 338, 339, 340, 341, 342, 343, 344, 345], [356, 357, 358, 359, 360, 361, 362, 363, 364, 365], [377, 378, 379, 380, 381, 382, 383, 384, 385], [398, 399, 400, 401, 402, 403, 404, 405, 406], [420, 421, 422, 423, 424], [439, 440, 441, 442, 443, 444, 445, 446], [462, 463, 464, 465, 466], [483, 484, 485, 486, 487, 488, 489, 490, 491, 492], [510, 511, 512, 513, 514, 515], [534, 535, 536, 537, 538], [558, 559, 560, 561, 562, 563, 564, 565, 566, 567, 568, 569, 570, 571, 572, 573, 574]]
def st_tps : List Nat := [477, 538, 551, 552, 557, 875, 876, 877, 878, 879, 880, 881, 941, 1062, 1063, 1121, 1122, 1123, 1124, 1133, 1134]
set_option maxRecDepth 100000 in
theorem st_key : strTab.map (fun q => sqw (.string q.1 q.2.1) q.2.2.2) = st_pos.map fun ps => ps.filterMap fun i => (flatC (Jvm.Cond.and given_1 narrow_1))[i]? := by decide +kernel
set_option maxRecDepth 100000 in
theorem st_ref : strTab.map (fun q => Cond.stringRef q.1 q.2.1 q.2.2.1) = st_tps.filterMap fun i => tables_1[i]? := by decide +kernel
theorem st_len : ∀ q ∈ strTab, q.2.2.2.length < 2 ^ 31 := by decide +kernel
theorem st_in : ∀ q ∈ strTab, ∀ w ∈ sqw (.string q.1 q.2.1) q.2.2.2, w ∈ flatC (Jvm.Cond.and given_1 narrow_1) := by
  intro q hq w hw
  have h1 : sqw (.string q.1 q.2.1) q.2.2.2 ∈ strTab.map (fun q => sqw (.string q.1 q.2.1) q.2.2.2) := List.mem_map.2 ⟨q, hq, rfl⟩
  rw [st_key] at h1
  obtain ⟨ps, -, h2⟩ := List.mem_map.1 h1
  rw [← h2] at hw
  obtain ⟨i, -, h3⟩ := List.mem_filterMap.1 hw
  exact List.mem_of_getElem? h3
theorem st_rin : ∀ q ∈ strTab, Cond.stringRef q.1 q.2.1 q.2.2.1 ∈ tables_1 := by
  intro q hq
  have h1 : Cond.stringRef q.1 q.2.1 q.2.2.1 ∈ strTab.map (fun q => Cond.stringRef q.1 q.2.1 q.2.2.1) := List.mem_map.2 ⟨q, hq, rfl⟩
  rw [st_ref] at h1
  obtain ⟨i, -, h3⟩ := List.mem_filterMap.1 h1
  exact List.mem_of_getElem? h3
theorem start_XS {s : State} {args : Array Value} (htt : ∀ w ∈ tables_1, w.before args s = true) (hgv : (Jvm.Cond.and given_1 narrow_1).before args s = true) : XS (fun q : Nat => s.heap.size ≤ q) s s.heap := by
  have hfl := flat_of_before _ hgv
  have hA : ∀ a : Nat, a < s.heap.size → ¬ (fun q : Nat => s.heap.size ≤ q) a := fun a h => Nat.not_le.mpr h
  have hi := htt (.initialized "java/lang/String") (List.mem_of_getElem? (i := 15) (by decide +kernel))
  have hj := htt (.initialized "jdk/internal/util/Preconditions") (List.mem_of_getElem? (i := 17) (by decide +kernel))
  have hc := htt (.laysStatic "java/lang/String" "COMPACT_STRINGS" "Z") (List.mem_of_getElem? (i := 491) (by decide +kernel))
  have hd := htt (.laysStatic "jdk/internal/util/Preconditions" "SIOOBE_FORMATTER" "Ljava/util/function/BiFunction;") (List.mem_of_getElem? (i := 507) (by decide +kernel))
  have he := hfl (.eq (.static "java/lang/String" "COMPACT_STRINGS" "Z") (.int 1)) (List.mem_of_getElem? (i := 4) (by decide +kernel))
  have hf := hfl (.isRef (.static "jdk/internal/util/Preconditions" "SIOOBE_FORMATTER" "Ljava/util/function/BiFunction;")) (List.mem_of_getElem? (i := 5) (by decide +kernel))
  refine ⟨⟨va_Zof hc hi (va_eqt he) hA, va_Zqof hd hj hf hA⟩, fun q hq => ?_⟩
  obtain ⟨a, h1, h2⟩ := str_one (st_len q hq) (fun w hw => hfl w (st_in q hq w hw)) hA
  exact ⟨a, vk_R.of (htt _ (st_rin q hq)) h1, h2⟩
set_option maxRecDepth 100000 in
theorem dg_one_k : ((List.range 100).map fun j => Cond.eq (.elem (.static "java/lang/Integer" "DigitOnes" "[B") (.int (Int32.ofNat j))) (.int (nI (48 + j % 10)))) = ([12, 13, 14, 15, 16, 17, 18, 19, 20, 21, 22, 23, 24, 25, 26, 27, 28, 29, 30, 31, 32, 33, 34, 35, 36, 37, 38, 39, 40, 41, 42, 43, 44, 45, 46, 47, 48, 49, 50, 51, 52, 53, 54, 55, 56, 57, 58, 59, 60, 61, 62, 63, 64, 65, 66, 67, 68, 69, 70, 71, 72, 73, 74, 75, 76, 77, 78, 79, 80, 81, 82, 83, 84, 85, 86, 87, 88, 89, 90, 91, 92, 93, 94, 95, 96, 97, 98, 99, 100, 101, 102, 103, 104, 105, 106, 107, 108, 109, 110, 111] : List Nat).filterMap fun i => (flatC (Jvm.Cond.and given_1 narrow_1))[i]? := by decide +kernel
theorem dg_one {s : State} {args : Array Value} {A : Nat → Prop} (htt : ∀ w ∈ tables_1, w.before args s = true) (hgv : (Jvm.Cond.and given_1 narrow_1).before args s = true) (hA : ∀ a : Nat, a < s.heap.size → ¬ A a) : ∃ t : Nat, va_Z "java/lang/Integer" "DigitOnes" "[B" (.ref t) A s s.heap ∧ va_T .byte t 100 (fun j => .int (nI (48 + j % 10))) A s s.heap := by
  have hfl := flat_of_before _ hgv
  have hc := htt (.laysStatic "java/lang/Integer" "DigitOnes" "[B") (List.mem_of_getElem? (i := 1051) (by decide +kernel))
  have hi := htt (.initialized "java/lang/Integer") (List.mem_of_getElem? (i := 12) (by decide +kernel))
  have h1 := hfl (.arrayOf (.static "java/lang/Integer" "DigitOnes" "[B") .byte) (List.mem_of_getElem? (i := 10) (by decide +kernel))
  have h2 := hfl (.eq (.length (.static "java/lang/Integer" "DigitOnes" "[B")) (.int 100)) (List.mem_of_getElem? (i := 11) (by decide +kernel))
  obtain ⟨t, e1, e2⟩ := va_Tof (N := 100) (f := fun j => .int (nI (48 + j % 10))) (by decide) h1 (va_eqt h2) (fun j hj => va_eqt (hfl _ (by
    have h3 : Cond.eq (.elem (.static "java/lang/Integer" "DigitOnes" "[B") (.int (Int32.ofNat j))) (.int (nI (48 + j % 10))) ∈ (List.range 100).map fun j => Cond.eq (.elem (.static "java/lang/Integer" "DigitOnes" "[B") (.int (Int32.ofNat j))) (.int (nI (48 + j % 10))) := List.mem_map.2 ⟨j, List.mem_range.2 hj, rfl⟩
    rw [dg_one_k] at h3
    obtain ⟨i, -, h4⟩ := List.mem_filterMap.1 h3
    exact List.mem_of_getElem? h4))) hA
  exact ⟨t, va_Zof hc hi e1 hA, e2⟩
set_option maxRecDepth 100000 in
theorem dg_ten_k : ((List.range 100).map fun j => Cond.eq (.elem (.static "java/lang/Integer" "DigitTens" "[B") (.int (Int32.ofNat j))) (.int (nI (48 + j / 10)))) = ([115, 116, 117, 118, 119, 120, 121, 122, 123, 124, 125, 126, 127, 128, 129, 130, 131, 132, 133, 134, 135, 136, 137, 138, 139, 140, 141, 142, 143, 144, 145, 146, 147, 148, 149, 150, 151, 152, 153, 154, 155, 156, 157, 158, 159, 160, 161, 162, 163, 164, 165, 166, 167, 168, 169, 170, 171, 172, 173, 174, 175, 176, 177, 178, 179, 180, 181, 182, 183, 184, 185, 186, 187, 188, 189, 190, 191, 192, 193, 194, 195, 196, 197, 198, 199, 200, 201, 202, 203, 204, 205, 206, 207, 208, 209, 210, 211, 212, 213, 214] : List Nat).filterMap fun i => (flatC (Jvm.Cond.and given_1 narrow_1))[i]? := by decide +kernel
theorem dg_ten {s : State} {args : Array Value} {A : Nat → Prop} (htt : ∀ w ∈ tables_1, w.before args s = true) (hgv : (Jvm.Cond.and given_1 narrow_1).before args s = true) (hA : ∀ a : Nat, a < s.heap.size → ¬ A a) : ∃ t : Nat, va_Z "java/lang/Integer" "DigitTens" "[B" (.ref t) A s s.heap ∧ va_T .byte t 100 (fun j => .int (nI (48 + j / 10))) A s s.heap := by
  have hfl := flat_of_before _ hgv
  have hc := htt (.laysStatic "java/lang/Integer" "DigitTens" "[B") (List.mem_of_getElem? (i := 1053) (by decide +kernel))
  have hi := htt (.initialized "java/lang/Integer") (List.mem_of_getElem? (i := 12) (by decide +kernel))
  have h1 := hfl (.arrayOf (.static "java/lang/Integer" "DigitTens" "[B") .byte) (List.mem_of_getElem? (i := 113) (by decide +kernel))
  have h2 := hfl (.eq (.length (.static "java/lang/Integer" "DigitTens" "[B")) (.int 100)) (List.mem_of_getElem? (i := 114) (by decide +kernel))
  obtain ⟨t, e1, e2⟩ := va_Tof (N := 100) (f := fun j => .int (nI (48 + j / 10))) (by decide) h1 (va_eqt h2) (fun j hj => va_eqt (hfl _ (by
    have h3 : Cond.eq (.elem (.static "java/lang/Integer" "DigitTens" "[B") (.int (Int32.ofNat j))) (.int (nI (48 + j / 10))) ∈ (List.range 100).map fun j => Cond.eq (.elem (.static "java/lang/Integer" "DigitTens" "[B") (.int (Int32.ofNat j))) (.int (nI (48 + j / 10))) := List.mem_map.2 ⟨j, List.mem_range.2 hj, rfl⟩
    rw [dg_ten_k] at h3
    obtain ⟨i, -, h4⟩ := List.mem_filterMap.1 h3
    exact List.mem_of_getElem? h4))) hA
  exact ⟨t, va_Zof hc hi e1 hA, e2⟩
theorem start_XN {s : State} {args : Array Value} (htt : ∀ w ∈ tables_1, w.before args s = true) (hgv : (Jvm.Cond.and given_1 narrow_1).before args s = true) : XN (fun q : Nat => s.heap.size ≤ q) s s.heap := by
  have hA : ∀ a : Nat, a < s.heap.size → ¬ (fun q : Nat => s.heap.size ≤ q) a := fun a h => Nat.not_le.mpr h
  obtain ⟨t1, a1, a2⟩ := dg_one htt hgv hA
  obtain ⟨t2, b1, b2⟩ := dg_ten htt hgv hA
  exact ⟨t1, t2, ⟨a1, a2⟩, b1, b2⟩
theorem start_XCl {s : State} {args : Array Value} (htt : ∀ w ∈ tables_1, w.before args s = true) : XCl (fun q : Nat => s.heap.size ≤ q) s s.heap := va_Nw.of rfl (htt (.castable "[B" "java/lang/Cloneable") (List.mem_of_getElem? (i := 978) (by decide +kernel)))
set_option maxRecDepth 100000 in
theorem OBJ_z {D : va_G} {cI cJ cC cL : ClassId} {A : Nat → Prop} {q : Nat} {ax : Nat → Nat} {H : Heap} (hl : Nat → Nat → Nat) (gs tg : Nat → Nat) (lc : Nat → Int32) (hP : va_P D vwCl (OWx cI cJ cC cL q ax 0 0 0 1 0 0 0 (fun _ => 0) (fun _ => 0) (flv 48 (-1 : Int32) (fun _ => 0)) (fun _ => 0) 0 0 1 0 0 0 (fun _ => 0) (fun _ => 0) (flv 48 (-1 : Int32) (fun _ => 0)) (fun _ => 0) 0 0 (fun _ => 0) (fun _ => 0) 0 0 0 0 0 0 (fun _ => 0) (fun _ => 0) 0 (fun _ => 0) (fun _ => 0) (fun _ => 0) (fun _ _ => 0) (fun _ _ => 0) (fun _ => flv 48 (-1 : Int32) (fun _ => 0)) (fun _ _ => 0) (fun _ => 0) (fun _ => 1) (fun _ => 0) (fun _ => 0) (fun _ => 0) 0 0) H) (hD : va_D A (OWx cI cJ cC cL q ax 0 0 0 1 0 0 0 (fun _ => 0) (fun _ => 0) (flv 48 (-1 : Int32) (fun _ => 0)) (fun _ => 0) 0 0 1 0 0 0 (fun _ => 0) (fun _ => 0) (flv 48 (-1 : Int32) (fun _ => 0)) (fun _ => 0) 0 0 (fun _ => 0) (fun _ => 0) 0 0 0 0 0 0 (fun _ => 0) (fun _ => 0) 0 (fun _ => 0) (fun _ => 0) (fun _ => 0) (fun _ _ => 0) (fun _ _ => 0) (fun _ => flv 48 (-1 : Int32) (fun _ => 0)) (fun _ _ => 0) (fun _ => 0) (fun _ => 1) (fun _ => 0) (fun _ => 0) (fun _ => 0) 0 0)) : OBJ D cI cJ cC cL A q ax 0 gz hl 0 0 0 gs 0 tg 0 lc 0 (fun _ => 0) (fun _ => 0) H :=
  ⟨0, 0, 0, 1, 0, 0, 0, (fun _ => 0), (fun _ => 0), (flv 48 (-1 : Int32) (fun _ => 0)), (fun _ => 0), 0, 0, 1, 0, 0, 0, (fun _ => 0), (fun _ => 0), (flv 48 (-1 : Int32) (fun _ => 0)), (fun _ => 0), 0, 0, (fun _ => 0), (fun _ => 0), 0, 0, 0, 0, 0, 0, (fun _ => 0), (fun _ => 0), 0, (fun _ => 0), (fun _ _ => 0), (fun _ _ => 0), (fun _ => flv 48 (-1 : Int32) (fun _ => 0)), (fun _ _ => 0), (fun _ => 0), (fun _ => 1), (fun _ => 0), (fun _ => 0), (fun _ => 0), ⟨GW_z, CR_z, ⟨by omega, rfl⟩, ⟨0, Nat.le_refl 0, by omega, by omega, rfl, rfl, fun i hi => absurd hi (Nat.not_lt_zero i)⟩, ⟨by omega, rfl, fun h => absurd h (by omega)⟩, ⟨by omega, fun i hi => absurd hi (Nat.not_lt_zero i)⟩, ⟨by omega, fun i hi => absurd hi (Nat.not_lt_zero i)⟩⟩, hP, hD⟩

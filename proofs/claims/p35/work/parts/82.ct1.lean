abbrev rmX1_init : Room := { frames := 1, cells := 1, slots := 257, locals := 12 }
set_option maxHeartbeats 8000000 in
set_option maxRecDepth 100000 in
theorem c_X1_init (l : Launch) (D : va_G) (cI cJ cC cL : ClassId) (q : Nat) (sz : Nat) : Met l yX1_init wsX1_init rmX1_init (va_Pc [.ref q] (jpre XAO D (tyL cI cJ cC cL) [(q, .inr (1, [.null]))] sz)) (va_Qv (fun (_ : Nat → Nat) => True) (fun ad t => jpost D (tyL cI cJ cC cL) (va_A [(q, .inr (1, [.null]))] sz) ((fun ad => [(q, .inr (1, [.ref (ad 0)])), ((ad 0), .inl (cJ, 257, .inr (.inl (fun _ => 0))))]) ad) t) (va_A [(q, .inr (1, [.null]))] sz)) 1 257 (va_A [(q, .inr (1, [.null]))] sz) := by
  refine jE_init (X := XAO) (y := yX1_init) (ws0 := wsX1_init) (rm := rmX1_init) (av := [.ref q]) (W0 := [(q, .inr (1, [.null]))]) (sz := sz) (mc := 1) (ms := 257) (cc := cX1_init) (maxL := 1) (own := RX1) (lv0 := [(0, .ref q)]) (W1 := (fun ad => [(q, .inr (1, [.ref (ad 0)])), ((ad 0), .inl (cJ, 257, .inr (.inl (fun _ => 0))))])) (by decide) rfl rfl rfl (Nat.le_of_ble_eq_true rfl) rfl ?_
  intro p e s m args below meth c A Q ls hx hb hml hown hts hK hN hX hin hA hP hD hS hl hRet
  have hF : CallFix p m c cX1_init 1 s args wsX1_init RX1 := ⟨hx, hb, hml, hown, hts⟩
  have fl_9 := hts (.fieldLink RX1 9 "LanternLogic$Foresight" "seen" "[J") (by decide +kernel)
  have hin_X1 : ∀ w ∈ u_ws RX1 TX1 1, w ∈ wsX1_init := by decide +kernel
  refine lv_aload_n hx hb dX1_init_0 rfl (lv_at hl 0 rfl) ?_
  refine W.objInit hx hb hown (hts (.methodLink RX1 3 objectInit) (by decide +kernel)) (hts (.instanceMethod objectInit) (by decide +kernel)) (hts (.code objectInit ⟨#[0xb1]⟩ 1 none) (by decide +kernel)) rfl (by rw [hml]; exact hl.1) rfl dX1_init_1 (Nat.le_of_ble_eq_true rfl) (Nat.le_of_ble_eq_true rfl) ?_
  refine W.eq (g2 := F0 m 4 _ []) rfl ?_
  refine lv_aload_n hx hb dX1_init_4 rfl (lv_at hl 0 rfl) ?_
  refine lv_sipush (v := (257 : Int32)) hx hb dX1_init_5 (by decide) ?_
  refine va_newa (atype := .long) (ty := .long) (N' := 257) (a0 := (257, .inr (.inl (fun _ => 0)))) hx hb (hts (.arrayClass .long) (by decide +kernel)) rfl hK hP hD hS hA (fun _ => rfl) (by decide) (by decide) (Nat.le_of_ble_eq_true rfl) (Nat.le_of_ble_eq_true rfl) (Nat.le_of_ble_eq_true rfl) dX1_init_8 (fun q8_1 cA H hK2 hP hD hS => ?_)
  have hcA := (jarr_prim (t := 1) rfl hK2 hK rfl).symm
  subst hcA
  clear hK2
  have hP : va_P D vwCl [(q, .inr (1, [.null])), (q8_1, .inl (cJ, 257, .inr (.inl (fun _ => 0))))] H := hP
  have hD : va_D A [(q, .inr (1, [.null])), (q8_1, .inl (cJ, 257, .inr (.inl (fun _ => 0))))] := hD
  refine va_putF (ci := 1) (v := .ref q8_1) (ty := (.array .long)) (C := RX1) (T := TX1) (N := 1) hx hb hts hin_X1 tyX1 tyX1_ok nmX1 hown hK hP hD hS 0 rfl rfl 0 (by decide) fl_9 (fun _ h9 => h9) rfl hin rfl (by decide +kernel) rfl rfl (Nat.le_of_ble_eq_true rfl) dX1_init_10 (fun H locs hP hD hS => ?_)
  have hP : va_P D vwCl [(q, .inr (1, [.ref q8_1])), (q8_1, .inl (cJ, 257, .inr (.inl (fun _ => 0))))] H := hP
  have hD : va_D A [(q, .inr (1, [.ref q8_1])), (q8_1, .inl (cJ, 257, .inr (.inl (fun _ => 0))))] := hD
  obtain ⟨ad, had⟩ : ∃ ad : Nat → Nat, ad = fun i => ([q8_1] : List Nat).getD i 0 := ⟨_, rfl⟩
  have hP9 : va_P D vwCl [(q, .inr (1, [.ref q8_1])), (q8_1, .inl (cJ, 257, .inr (.inl (fun _ => 0))))] H := hP.sub [0, 1] rfl
  have hD9 : va_D A [(q, .inr (1, [.ref q8_1])), (q8_1, .inl (cJ, 257, .inr (.inl (fun _ => 0))))] := hD.sub [0, 1] rfl rfl
  exact hRet ad (by rw [had]; exact hP9) (by rw [had]; exact hD9) hS dX1_init_13

abbrev rmX2_init : Room := { frames := 1, cells := 4, slots := 96, locals := 23 }
set_option maxHeartbeats 8000000 in
set_option maxRecDepth 100000 in
theorem c_X2_init (l : Launch) (D : va_G) (cI cJ cC cL : ClassId) (q : Nat) (sz : Nat) : Met l yX2_init wsX2_init rmX2_init (va_Pc [.ref q] (jpre XAO D (tyL cI cJ cC cL) [(q, .inr (2, [.int 0, .null, .null, .null, .null, .long 0, .int 0, .int 0, .int 0, .int 0]))] sz)) (va_Qv (fun (_ : Nat → Nat) => True) (fun ad t => jpost D (tyL cI cJ cC cL) (va_A [(q, .inr (2, [.int 0, .null, .null, .null, .null, .long 0, .int 0, .int 0, .int 0, .int 0]))] sz) ((fun ad => [(q, .inr (2, [.int 0, .ref (ad 0), .ref (ad 1), .ref (ad 2), .ref (ad 3), .long 0, .int (1 : Int32), .int 0, .int 0, .int 0])), ((ad 0), .inl (cI, 16, .inl (fun _ => 0))), ((ad 1), .inl (cI, 16, .inl (fun _ => 0))), ((ad 2), .inl (cI, 48, .inl (flv 48 (-1 : Int32) (fun _ => 0)))), ((ad 3), .inl (cI, 16, .inl (fun _ => 0)))]) ad) t) (va_A [(q, .inr (2, [.int 0, .null, .null, .null, .null, .long 0, .int 0, .int 0, .int 0, .int 0]))] sz)) 4 96 (va_A [(q, .inr (2, [.int 0, .null, .null, .null, .null, .long 0, .int 0, .int 0, .int 0, .int 0]))] sz) := by
  refine jE_init (X := XAO) (y := yX2_init) (ws0 := wsX2_init) (rm := rmX2_init) (av := [.ref q]) (W0 := [(q, .inr (2, [.int 0, .null, .null, .null, .null, .long 0, .int 0, .int 0, .int 0, .int 0]))]) (sz := sz) (mc := 4) (ms := 96) (cc := cX2_init) (maxL := 1) (own := RX2) (lv0 := [(0, .ref q)]) (W1 := (fun ad => [(q, .inr (2, [.int 0, .ref (ad 0), .ref (ad 1), .ref (ad 2), .ref (ad 3), .long 0, .int (1 : Int32), .int 0, .int 0, .int 0])), ((ad 0), .inl (cI, 16, .inl (fun _ => 0))), ((ad 1), .inl (cI, 16, .inl (fun _ => 0))), ((ad 2), .inl (cI, 48, .inl (flv 48 (-1 : Int32) (fun _ => 0)))), ((ad 3), .inl (cI, 16, .inl (fun _ => 0)))])) (by decide) rfl rfl rfl (Nat.le_of_ble_eq_true rfl) rfl ?_
  intro p e s m args below meth c A Q ls hx hb hml hown hts hK hN hX hin hA hP hD hS hl hRet
  have hF : CallFix p m c cX2_init 1 s args wsX2_init RX2 := ⟨hx, hb, hml, hown, hts⟩
  have fl_9 := hts (.fieldLink RX2 9 "LanternLogic$Lanterns" "kinds" "[I") (by decide +kernel)
  have fl_15 := hts (.fieldLink RX2 15 "LanternLogic$Lanterns" "wicks" "[I") (by decide +kernel)
  have fl_18 := hts (.fieldLink RX2 18 "LanternLogic$Lanterns" "sources" "[I") (by decide +kernel)
  have fl_21 := hts (.fieldLink RX2 21 "LanternLogic$Lanterns" "changes" "[I") (by decide +kernel)
  have fl_24 := hts (.fieldLink RX2 24 "LanternLogic$Lanterns" "areLoopsAllowed" "Z") (by decide +kernel)
  have hin_X2 : ∀ w ∈ u_ws RX2 TX2 10, w ∈ wsX2_init := by decide +kernel
  refine lv_aload_n hx hb dX2_init_0 rfl (lv_at hl 0 rfl) ?_
  refine W.objInit hx hb hown (hts (.methodLink RX2 3 objectInit) (by decide +kernel)) (hts (.instanceMethod objectInit) (by decide +kernel)) (hts (.code objectInit ⟨#[0xb1]⟩ 1 none) (by decide +kernel)) rfl (by rw [hml]; exact hl.1) rfl dX2_init_1 (Nat.le_of_ble_eq_true rfl) (Nat.le_of_ble_eq_true rfl) ?_
  refine W.eq (g2 := F0 m 4 _ []) rfl ?_
  refine lv_aload_n hx hb dX2_init_4 rfl (lv_at hl 0 rfl) ?_
  refine lv_bipush (v := (16 : Int32)) hx hb dX2_init_5 (by decide) ?_
  refine va_newa (atype := .int) (ty := .int) (N' := 16) (a0 := (16, .inl (fun _ => 0))) hx hb (hts (.arrayClass .int) (by decide +kernel)) rfl hK hP hD hS hA (fun _ => rfl) (by decide) (by decide) (Nat.le_of_ble_eq_true rfl) (Nat.le_of_ble_eq_true rfl) (Nat.le_of_ble_eq_true rfl) dX2_init_7 (fun q7_1 cA H hK2 hP hD hS => ?_)
  have hcA := (jarr_prim (t := 0) rfl hK2 hK rfl).symm
  subst hcA
  clear hK2
  have hP : va_P D vwCl [(q, .inr (2, [.int 0, .null, .null, .null, .null, .long 0, .int 0, .int 0, .int 0, .int 0])), (q7_1, .inl (cI, 16, .inl (fun _ => 0)))] H := hP
  have hD : va_D A [(q, .inr (2, [.int 0, .null, .null, .null, .null, .long 0, .int 0, .int 0, .int 0, .int 0])), (q7_1, .inl (cI, 16, .inl (fun _ => 0)))] := hD
  refine va_putF (ci := 2) (v := .ref q7_1) (ty := (.array .int)) (C := RX2) (T := TX2) (N := 10) hx hb hts hin_X2 tyX2 tyX2_ok nmX2 hown hK hP hD hS 0 rfl rfl 1 (by decide) fl_9 (fun _ h9 => h9) rfl hin rfl (by decide +kernel) rfl rfl (Nat.le_of_ble_eq_true rfl) dX2_init_9 (fun H locs hP hD hS => ?_)
  have hP : va_P D vwCl [(q, .inr (2, [.int 0, .ref q7_1, .null, .null, .null, .long 0, .int 0, .int 0, .int 0, .int 0])), (q7_1, .inl (cI, 16, .inl (fun _ => 0)))] H := hP
  have hD : va_D A [(q, .inr (2, [.int 0, .ref q7_1, .null, .null, .null, .long 0, .int 0, .int 0, .int 0, .int 0])), (q7_1, .inl (cI, 16, .inl (fun _ => 0)))] := hD
  refine lv_aload_n hx hb dX2_init_12 rfl (lv_at hl 0 rfl) ?_
  refine lv_bipush (v := (16 : Int32)) hx hb dX2_init_13 (by decide) ?_
  refine va_newa (atype := .int) (ty := .int) (N' := 16) (a0 := (16, .inl (fun _ => 0))) hx hb (hts (.arrayClass .int) (by decide +kernel)) rfl hK hP hD hS hA (fun _ => rfl) (by decide) (by decide) (Nat.le_of_ble_eq_true rfl) (Nat.le_of_ble_eq_true rfl) (Nat.le_of_ble_eq_true rfl) dX2_init_15 (fun q15_1 cA H hK2 hP hD hS => ?_)
  have hcA := (jarr_prim (t := 0) rfl hK2 hK rfl).symm
  subst hcA
  clear hK2
  have hP : va_P D vwCl [(q, .inr (2, [.int 0, .ref q7_1, .null, .null, .null, .long 0, .int 0, .int 0, .int 0, .int 0])), (q7_1, .inl (cI, 16, .inl (fun _ => 0))), (q15_1, .inl (cI, 16, .inl (fun _ => 0)))] H := hP
  have hD : va_D A [(q, .inr (2, [.int 0, .ref q7_1, .null, .null, .null, .long 0, .int 0, .int 0, .int 0, .int 0])), (q7_1, .inl (cI, 16, .inl (fun _ => 0))), (q15_1, .inl (cI, 16, .inl (fun _ => 0)))] := hD
  refine va_putF (ci := 2) (v := .ref q15_1) (ty := (.array .int)) (C := RX2) (T := TX2) (N := 10) hx hb hts hin_X2 tyX2 tyX2_ok nmX2 hown hK hP hD hS 0 rfl rfl 2 (by decide) fl_15 (fun _ h9 => h9) rfl hin rfl (by decide +kernel) rfl rfl (Nat.le_of_ble_eq_true rfl) dX2_init_17 (fun H locs hP hD hS => ?_)
  have hP : va_P D vwCl [(q, .inr (2, [.int 0, .ref q7_1, .ref q15_1, .null, .null, .long 0, .int 0, .int 0, .int 0, .int 0])), (q7_1, .inl (cI, 16, .inl (fun _ => 0))), (q15_1, .inl (cI, 16, .inl (fun _ => 0)))] H := hP
  have hD : va_D A [(q, .inr (2, [.int 0, .ref q7_1, .ref q15_1, .null, .null, .long 0, .int 0, .int 0, .int 0, .int 0])), (q7_1, .inl (cI, 16, .inl (fun _ => 0))), (q15_1, .inl (cI, 16, .inl (fun _ => 0)))] := hD
  refine lv_aload_n hx hb dX2_init_20 rfl (lv_at hl 0 rfl) ?_
  refine lv_bipush (v := (48 : Int32)) hx hb dX2_init_21 (by decide) ?_
  refine va_newa (atype := .int) (ty := .int) (N' := 48) (a0 := (48, .inl (fun _ => 0))) hx hb (hts (.arrayClass .int) (by decide +kernel)) rfl hK hP hD hS hA (fun _ => rfl) (by decide) (by decide) (Nat.le_of_ble_eq_true rfl) (Nat.le_of_ble_eq_true rfl) (Nat.le_of_ble_eq_true rfl) dX2_init_23 (fun q23_1 cA H hK2 hP hD hS => ?_)
  have hcA := (jarr_prim (t := 0) rfl hK2 hK rfl).symm
  subst hcA
  clear hK2
  have hP : va_P D vwCl [(q, .inr (2, [.int 0, .ref q7_1, .ref q15_1, .null, .null, .long 0, .int 0, .int 0, .int 0, .int 0])), (q7_1, .inl (cI, 16, .inl (fun _ => 0))), (q15_1, .inl (cI, 16, .inl (fun _ => 0))), (q23_1, .inl (cI, 48, .inl (fun _ => 0)))] H := hP
  have hD : va_D A [(q, .inr (2, [.int 0, .ref q7_1, .ref q15_1, .null, .null, .long 0, .int 0, .int 0, .int 0, .int 0])), (q7_1, .inl (cI, 16, .inl (fun _ => 0))), (q15_1, .inl (cI, 16, .inl (fun _ => 0))), (q23_1, .inl (cI, 48, .inl (fun _ => 0)))] := hD
  refine va_putF (ci := 2) (v := .ref q23_1) (ty := (.array .int)) (C := RX2) (T := TX2) (N := 10) hx hb hts hin_X2 tyX2 tyX2_ok nmX2 hown hK hP hD hS 0 rfl rfl 3 (by decide) fl_18 (fun _ h9 => h9) rfl hin rfl (by decide +kernel) rfl rfl (Nat.le_of_ble_eq_true rfl) dX2_init_25 (fun H locs hP hD hS => ?_)
  have hP : va_P D vwCl [(q, .inr (2, [.int 0, .ref q7_1, .ref q15_1, .ref q23_1, .null, .long 0, .int 0, .int 0, .int 0, .int 0])), (q7_1, .inl (cI, 16, .inl (fun _ => 0))), (q15_1, .inl (cI, 16, .inl (fun _ => 0))), (q23_1, .inl (cI, 48, .inl (fun _ => 0)))] H := hP
  have hD : va_D A [(q, .inr (2, [.int 0, .ref q7_1, .ref q15_1, .ref q23_1, .null, .long 0, .int 0, .int 0, .int 0, .int 0])), (q7_1, .inl (cI, 16, .inl (fun _ => 0))), (q15_1, .inl (cI, 16, .inl (fun _ => 0))), (q23_1, .inl (cI, 48, .inl (fun _ => 0)))] := hD
  refine lv_aload_n hx hb dX2_init_28 rfl (lv_at hl 0 rfl) ?_
  refine lv_bipush (v := (16 : Int32)) hx hb dX2_init_29 (by decide) ?_
  refine va_newa (atype := .int) (ty := .int) (N' := 16) (a0 := (16, .inl (fun _ => 0))) hx hb (hts (.arrayClass .int) (by decide +kernel)) rfl hK hP hD hS hA (fun _ => rfl) (by decide) (by decide) (Nat.le_of_ble_eq_true rfl) (Nat.le_of_ble_eq_true rfl) (Nat.le_of_ble_eq_true rfl) dX2_init_31 (fun q31_1 cA H hK2 hP hD hS => ?_)
  have hcA := (jarr_prim (t := 0) rfl hK2 hK rfl).symm
  subst hcA
  clear hK2
  have hP : va_P D vwCl [(q, .inr (2, [.int 0, .ref q7_1, .ref q15_1, .ref q23_1, .null, .long 0, .int 0, .int 0, .int 0, .int 0])), (q7_1, .inl (cI, 16, .inl (fun _ => 0))), (q15_1, .inl (cI, 16, .inl (fun _ => 0))), (q23_1, .inl (cI, 48, .inl (fun _ => 0))), (q31_1, .inl (cI, 16, .inl (fun _ => 0)))] H := hP
  have hD : va_D A [(q, .inr (2, [.int 0, .ref q7_1, .ref q15_1, .ref q23_1, .null, .long 0, .int 0, .int 0, .int 0, .int 0])), (q7_1, .inl (cI, 16, .inl (fun _ => 0))), (q15_1, .inl (cI, 16, .inl (fun _ => 0))), (q23_1, .inl (cI, 48, .inl (fun _ => 0))), (q31_1, .inl (cI, 16, .inl (fun _ => 0)))] := hD
  refine va_putF (ci := 2) (v := .ref q31_1) (ty := (.array .int)) (C := RX2) (T := TX2) (N := 10) hx hb hts hin_X2 tyX2 tyX2_ok nmX2 hown hK hP hD hS 0 rfl rfl 4 (by decide) fl_21 (fun _ h9 => h9) rfl hin rfl (by decide +kernel) rfl rfl (Nat.le_of_ble_eq_true rfl) dX2_init_33 (fun H locs hP hD hS => ?_)
  have hP : va_P D vwCl [(q, .inr (2, [.int 0, .ref q7_1, .ref q15_1, .ref q23_1, .ref q31_1, .long 0, .int 0, .int 0, .int 0, .int 0])), (q7_1, .inl (cI, 16, .inl (fun _ => 0))), (q15_1, .inl (cI, 16, .inl (fun _ => 0))), (q23_1, .inl (cI, 48, .inl (fun _ => 0))), (q31_1, .inl (cI, 16, .inl (fun _ => 0)))] H := hP
  have hD : va_D A [(q, .inr (2, [.int 0, .ref q7_1, .ref q15_1, .ref q23_1, .ref q31_1, .long 0, .int 0, .int 0, .int 0, .int 0])), (q7_1, .inl (cI, 16, .inl (fun _ => 0))), (q15_1, .inl (cI, 16, .inl (fun _ => 0))), (q23_1, .inl (cI, 48, .inl (fun _ => 0))), (q31_1, .inl (cI, 16, .inl (fun _ => 0)))] := hD
  refine lv_aload_n hx hb dX2_init_36 rfl (lv_at hl 0 rfl) ?_
  refine lv_iconst (v := (1 : Int32)) hx hb dX2_init_37 (by decide) ?_
  refine va_put (ci := 2) (v := .int (1 : Int32)) (ty := .boolean) (C := RX2) (T := TX2) (N := 10) hx hb hts hin_X2 tyX2 tyX2_ok nmX2 hown hK hP hD hS 0 rfl rfl 6 (by decide) fl_24 (fun _ h9 => h9) rfl (by decide +kernel) rfl rfl (Nat.le_of_ble_eq_true rfl) dX2_init_38 (fun H locs hP hD hS => ?_)
  have hP : va_P D vwCl [(q, .inr (2, [.int 0, .ref q7_1, .ref q15_1, .ref q23_1, .ref q31_1, .long 0, .int (1 : Int32), .int 0, .int 0, .int 0])), (q7_1, .inl (cI, 16, .inl (fun _ => 0))), (q15_1, .inl (cI, 16, .inl (fun _ => 0))), (q23_1, .inl (cI, 48, .inl (fun _ => 0))), (q31_1, .inl (cI, 16, .inl (fun _ => 0)))] H := hP
  have hD : va_D A [(q, .inr (2, [.int 0, .ref q7_1, .ref q15_1, .ref q23_1, .ref q31_1, .long 0, .int (1 : Int32), .int 0, .int 0, .int 0])), (q7_1, .inl (cI, 16, .inl (fun _ => 0))), (q15_1, .inl (cI, 16, .inl (fun _ => 0))), (q23_1, .inl (cI, 48, .inl (fun _ => 0))), (q31_1, .inl (cI, 16, .inl (fun _ => 0)))] := hD
  refine lv_aload_n hx hb dX2_init_41 rfl (lv_at hl 0 rfl) ?_
  refine va_get (ci := 2) (v := .ref q23_1) (C := RX2) (T := TX2) (N := 10) hx hb hts hin_X2 hown hK hP 0 rfl rfl 3 (by decide) fl_18 (fun _ h9 => h9) rfl dX2_init_42 ?_
  refine lv_iconst (v := (-1 : Int32)) hx hb dX2_init_45 (by decide) ?_
  refine jcS_v (As := [.ref q23_1, .int (-1 : Int32)]) (rest := []) (isC := [3]) (isR := [0, 1, 2, 4]) (isB := [0, 1, 2, 4, 3]) (wr := [(q, .inr (2, [.int 0, .ref q7_1, .ref q15_1, .ref q23_1, .ref q31_1, .long 0, .int (1 : Int32), .int 0, .int 0, .int 0])), (q7_1, .inl (cI, 16, .inl (fun _ => 0))), (q15_1, .inl (cI, 16, .inl (fun _ => 0))), (q31_1, .inl (cI, 16, .inl (fun _ => 0)))]) (ws2 := [(q, .inr (2, [.int 0, .ref q7_1, .ref q15_1, .ref q23_1, .ref q31_1, .long 0, .int (1 : Int32), .int 0, .int 0, .int 0])), (q7_1, .inl (cI, 16, .inl (fun _ => 0))), (q15_1, .inl (cI, 16, .inl (fun _ => 0))), (q23_1, .inl (cI, 48, .inl (flv 48 (-1 : Int32) (fun _ => 0)))), (q31_1, .inl (cI, 16, .inl (fun _ => 0)))]) hF (c_J7_fill_53178 l D cI cJ cC cL 48 q23_1 (fun _ => 0) (-1 : Int32) (flv 48 (-1 : Int32) (fun _ => 0)) (X7_fill (by decide) _ _) H.size) (va_cwS 2 hts gX2_init_J7_fill_53178 rfl rfl rfl (by decide +kernel) ⟨Nat.le_of_ble_eq_true rfl, Nat.le_of_ble_eq_true rfl⟩) rfl hl rfl (Nat.le_of_ble_eq_true rfl) dX2_init_46 ⟨Nat.le_of_ble_eq_true rfl, Nat.le_of_ble_eq_true rfl⟩ hK hN KX_T trivial hP hD hS hA rfl rfl rfl rfl (by decide) rfl rfl (fun H locs hP hD hS => ?_)
  obtain ⟨ad, had⟩ : ∃ ad : Nat → Nat, ad = fun i => ([q7_1, q15_1, q23_1, q31_1] : List Nat).getD i 0 := ⟨_, rfl⟩
  have hP9 : va_P D vwCl [(q, .inr (2, [.int 0, .ref q7_1, .ref q15_1, .ref q23_1, .ref q31_1, .long 0, .int (1 : Int32), .int 0, .int 0, .int 0])), (q7_1, .inl (cI, 16, .inl (fun _ => 0))), (q15_1, .inl (cI, 16, .inl (fun _ => 0))), (q23_1, .inl (cI, 48, .inl (flv 48 (-1 : Int32) (fun _ => 0)))), (q31_1, .inl (cI, 16, .inl (fun _ => 0)))] H := hP.sub [0, 1, 2, 3, 4] rfl
  have hD9 : va_D A [(q, .inr (2, [.int 0, .ref q7_1, .ref q15_1, .ref q23_1, .ref q31_1, .long 0, .int (1 : Int32), .int 0, .int 0, .int 0])), (q7_1, .inl (cI, 16, .inl (fun _ => 0))), (q15_1, .inl (cI, 16, .inl (fun _ => 0))), (q23_1, .inl (cI, 48, .inl (flv 48 (-1 : Int32) (fun _ => 0)))), (q31_1, .inl (cI, 16, .inl (fun _ => 0)))] := hD.sub [0, 1, 2, 3, 4] rfl rfl
  exact hRet ad (by rw [had]; exact hP9) (by rw [had]; exact hD9) hS dX2_init_49

abbrev rmX3_init : Room := { frames := 1, cells := 1, slots := 32, locals := 12 }
set_option maxHeartbeats 8000000 in
set_option maxRecDepth 100000 in
theorem c_X3_init (l : Launch) (D : va_G) (cI cJ cC cL : ClassId) (q : Nat) (sz : Nat) : Met l yX3_init wsX3_init rmX3_init (va_Pc [.ref q] (jpre XAO D (tyL cI cJ cC cL) [(q, .inr (3, [.null, .int 0]))] sz)) (va_Qv (fun (_ : Nat → Nat) => True) (fun ad t => jpost D (tyL cI cJ cC cL) (va_A [(q, .inr (3, [.null, .int 0]))] sz) ((fun ad => [(q, .inr (3, [.ref (ad 0), .int 0])), ((ad 0), .inl (cC, 32, .inl (fun _ => 0)))]) ad) t) (va_A [(q, .inr (3, [.null, .int 0]))] sz)) 1 32 (va_A [(q, .inr (3, [.null, .int 0]))] sz) := by
  refine jE_init (X := XAO) (y := yX3_init) (ws0 := wsX3_init) (rm := rmX3_init) (av := [.ref q]) (W0 := [(q, .inr (3, [.null, .int 0]))]) (sz := sz) (mc := 1) (ms := 32) (cc := cX3_init) (maxL := 1) (own := RX3) (lv0 := [(0, .ref q)]) (W1 := (fun ad => [(q, .inr (3, [.ref (ad 0), .int 0])), ((ad 0), .inl (cC, 32, .inl (fun _ => 0)))])) (by decide) rfl rfl rfl (Nat.le_of_ble_eq_true rfl) rfl ?_
  intro p e s m args below meth c A Q ls hx hb hml hown hts hK hN hX hin hA hP hD hS hl hRet
  have hF : CallFix p m c cX3_init 1 s args wsX3_init RX3 := ⟨hx, hb, hml, hown, hts⟩
  have fl_9 := hts (.fieldLink RX3 9 "LanternLogic$Line" "signs" "[C") (by decide +kernel)
  have hin_X3 : ∀ w ∈ u_ws RX3 TX3 2, w ∈ wsX3_init := by decide +kernel
  refine lv_aload_n hx hb dX3_init_0 rfl (lv_at hl 0 rfl) ?_
  refine W.objInit hx hb hown (hts (.methodLink RX3 3 objectInit) (by decide +kernel)) (hts (.instanceMethod objectInit) (by decide +kernel)) (hts (.code objectInit ⟨#[0xb1]⟩ 1 none) (by decide +kernel)) rfl (by rw [hml]; exact hl.1) rfl dX3_init_1 (Nat.le_of_ble_eq_true rfl) (Nat.le_of_ble_eq_true rfl) ?_
  refine W.eq (g2 := F0 m 4 _ []) rfl ?_
  refine lv_aload_n hx hb dX3_init_4 rfl (lv_at hl 0 rfl) ?_
  refine lv_bipush (v := (32 : Int32)) hx hb dX3_init_5 (by decide) ?_
  refine va_newa (atype := .char) (ty := .char) (N' := 32) (a0 := (32, .inl (fun _ => 0))) hx hb (hts (.arrayClass .char) (by decide +kernel)) rfl hK hP hD hS hA (fun _ => rfl) (by decide) (by decide) (Nat.le_of_ble_eq_true rfl) (Nat.le_of_ble_eq_true rfl) (Nat.le_of_ble_eq_true rfl) dX3_init_7 (fun q7_1 cA H hK2 hP hD hS => ?_)
  have hcA := (jarr_prim (t := 2) rfl hK2 hK rfl).symm
  subst hcA
  clear hK2
  have hP : va_P D vwCl [(q, .inr (3, [.null, .int 0])), (q7_1, .inl (cC, 32, .inl (fun _ => 0)))] H := hP
  have hD : va_D A [(q, .inr (3, [.null, .int 0])), (q7_1, .inl (cC, 32, .inl (fun _ => 0)))] := hD
  refine va_putF (ci := 3) (v := .ref q7_1) (ty := (.array .char)) (C := RX3) (T := TX3) (N := 2) hx hb hts hin_X3 tyX3 tyX3_ok nmX3 hown hK hP hD hS 0 rfl rfl 0 (by decide) fl_9 (fun _ h9 => h9) rfl hin rfl (by decide +kernel) rfl rfl (Nat.le_of_ble_eq_true rfl) dX3_init_9 (fun H locs hP hD hS => ?_)
  have hP : va_P D vwCl [(q, .inr (3, [.ref q7_1, .int 0])), (q7_1, .inl (cC, 32, .inl (fun _ => 0)))] H := hP
  have hD : va_D A [(q, .inr (3, [.ref q7_1, .int 0])), (q7_1, .inl (cC, 32, .inl (fun _ => 0)))] := hD
  obtain ⟨ad, had⟩ : ∃ ad : Nat → Nat, ad = fun i => ([q7_1] : List Nat).getD i 0 := ⟨_, rfl⟩
  have hP9 : va_P D vwCl [(q, .inr (3, [.ref q7_1, .int 0])), (q7_1, .inl (cC, 32, .inl (fun _ => 0)))] H := hP.sub [0, 1] rfl
  have hD9 : va_D A [(q, .inr (3, [.ref q7_1, .int 0])), (q7_1, .inl (cC, 32, .inl (fun _ => 0)))] := hD.sub [0, 1] rfl rfl
  exact hRet ad (by rw [had]; exact hP9) (by rw [had]; exact hD9) hS dX3_init_12

abbrev rmX6_init : Room := { frames := 1, cells := 2, slots := 6, locals := 12 }
set_option maxHeartbeats 8000000 in
set_option maxRecDepth 100000 in
theorem c_X6_init (l : Launch) (D : va_G) (cI cJ cC cL : ClassId) (q : Nat) (sz : Nat) : Met l yX6_init wsX6_init rmX6_init (va_Pc [.ref q] (jpre XAO D (tyL cI cJ cC cL) [(q, .inr (5, [.null, .null, .int 0]))] sz)) (va_Qv (fun (_ : Nat → Nat) => True) (fun ad t => jpost D (tyL cI cJ cC cL) (va_A [(q, .inr (5, [.null, .null, .int 0]))] sz) ((fun ad => [(q, .inr (5, [.ref (ad 0), .ref (ad 1), .int 0])), ((ad 0), .inl (cI, 3, .inl (fun _ => 0))), ((ad 1), .inl (cI, 3, .inl (fun _ => 0)))]) ad) t) (va_A [(q, .inr (5, [.null, .null, .int 0]))] sz)) 2 6 (va_A [(q, .inr (5, [.null, .null, .int 0]))] sz) := by
  refine jE_init (X := XAO) (y := yX6_init) (ws0 := wsX6_init) (rm := rmX6_init) (av := [.ref q]) (W0 := [(q, .inr (5, [.null, .null, .int 0]))]) (sz := sz) (mc := 2) (ms := 6) (cc := cX6_init) (maxL := 1) (own := RX6) (lv0 := [(0, .ref q)]) (W1 := (fun ad => [(q, .inr (5, [.ref (ad 0), .ref (ad 1), .int 0])), ((ad 0), .inl (cI, 3, .inl (fun _ => 0))), ((ad 1), .inl (cI, 3, .inl (fun _ => 0)))])) (by decide) rfl rfl rfl (Nat.le_of_ble_eq_true rfl) rfl ?_
  intro p e s m args below meth c A Q ls hx hb hml hown hts hK hN hX hin hA hP hD hS hl hRet
  have hF : CallFix p m c cX6_init 1 s args wsX6_init RX6 := ⟨hx, hb, hml, hown, hts⟩
  have fl_11 := hts (.fieldLink RX6 11 "LanternLogic$Reasons" "numbers" "[I") (by decide +kernel)
  have fl_15 := hts (.fieldLink RX6 15 "LanternLogic$Reasons" "details" "[I") (by decide +kernel)
  have hin_X6 : ∀ w ∈ u_ws RX6 TX6 3, w ∈ wsX6_init := by decide +kernel
  refine lv_aload_n hx hb dX6_init_0 rfl (lv_at hl 0 rfl) ?_
  refine W.objInit hx hb hown (hts (.methodLink RX6 3 objectInit) (by decide +kernel)) (hts (.instanceMethod objectInit) (by decide +kernel)) (hts (.code objectInit ⟨#[0xb1]⟩ 1 none) (by decide +kernel)) rfl (by rw [hml]; exact hl.1) rfl dX6_init_1 (Nat.le_of_ble_eq_true rfl) (Nat.le_of_ble_eq_true rfl) ?_
  refine W.eq (g2 := F0 m 4 _ []) rfl ?_
  refine lv_aload_n hx hb dX6_init_4 rfl (lv_at hl 0 rfl) ?_
  refine lv_iconst (v := (3 : Int32)) hx hb dX6_init_5 (by decide) ?_
  refine va_newa (atype := .int) (ty := .int) (N' := 3) (a0 := (3, .inl (fun _ => 0))) hx hb (hts (.arrayClass .int) (by decide +kernel)) rfl hK hP hD hS hA (fun _ => rfl) (by decide) (by decide) (Nat.le_of_ble_eq_true rfl) (Nat.le_of_ble_eq_true rfl) (Nat.le_of_ble_eq_true rfl) dX6_init_6 (fun q6_1 cA H hK2 hP hD hS => ?_)
  have hcA := (jarr_prim (t := 0) rfl hK2 hK rfl).symm
  subst hcA
  clear hK2
  have hP : va_P D vwCl [(q, .inr (5, [.null, .null, .int 0])), (q6_1, .inl (cI, 3, .inl (fun _ => 0)))] H := hP
  have hD : va_D A [(q, .inr (5, [.null, .null, .int 0])), (q6_1, .inl (cI, 3, .inl (fun _ => 0)))] := hD
  refine va_putF (ci := 5) (v := .ref q6_1) (ty := (.array .int)) (C := RX6) (T := TX6) (N := 3) hx hb hts hin_X6 tyX6 tyX6_ok nmX6 hown hK hP hD hS 0 rfl rfl 0 (by decide) fl_11 (fun _ h9 => h9) rfl hin rfl (by decide +kernel) rfl rfl (Nat.le_of_ble_eq_true rfl) dX6_init_8 (fun H locs hP hD hS => ?_)
  have hP : va_P D vwCl [(q, .inr (5, [.ref q6_1, .null, .int 0])), (q6_1, .inl (cI, 3, .inl (fun _ => 0)))] H := hP
  have hD : va_D A [(q, .inr (5, [.ref q6_1, .null, .int 0])), (q6_1, .inl (cI, 3, .inl (fun _ => 0)))] := hD
  refine lv_aload_n hx hb dX6_init_11 rfl (lv_at hl 0 rfl) ?_
  refine lv_iconst (v := (3 : Int32)) hx hb dX6_init_12 (by decide) ?_
  refine va_newa (atype := .int) (ty := .int) (N' := 3) (a0 := (3, .inl (fun _ => 0))) hx hb (hts (.arrayClass .int) (by decide +kernel)) rfl hK hP hD hS hA (fun _ => rfl) (by decide) (by decide) (Nat.le_of_ble_eq_true rfl) (Nat.le_of_ble_eq_true rfl) (Nat.le_of_ble_eq_true rfl) dX6_init_13 (fun q13_1 cA H hK2 hP hD hS => ?_)
  have hcA := (jarr_prim (t := 0) rfl hK2 hK rfl).symm
  subst hcA
  clear hK2
  have hP : va_P D vwCl [(q, .inr (5, [.ref q6_1, .null, .int 0])), (q6_1, .inl (cI, 3, .inl (fun _ => 0))), (q13_1, .inl (cI, 3, .inl (fun _ => 0)))] H := hP
  have hD : va_D A [(q, .inr (5, [.ref q6_1, .null, .int 0])), (q6_1, .inl (cI, 3, .inl (fun _ => 0))), (q13_1, .inl (cI, 3, .inl (fun _ => 0)))] := hD
  refine va_putF (ci := 5) (v := .ref q13_1) (ty := (.array .int)) (C := RX6) (T := TX6) (N := 3) hx hb hts hin_X6 tyX6 tyX6_ok nmX6 hown hK hP hD hS 0 rfl rfl 1 (by decide) fl_15 (fun _ h9 => h9) rfl hin rfl (by decide +kernel) rfl rfl (Nat.le_of_ble_eq_true rfl) dX6_init_15 (fun H locs hP hD hS => ?_)
  have hP : va_P D vwCl [(q, .inr (5, [.ref q6_1, .ref q13_1, .int 0])), (q6_1, .inl (cI, 3, .inl (fun _ => 0))), (q13_1, .inl (cI, 3, .inl (fun _ => 0)))] H := hP
  have hD : va_D A [(q, .inr (5, [.ref q6_1, .ref q13_1, .int 0])), (q6_1, .inl (cI, 3, .inl (fun _ => 0))), (q13_1, .inl (cI, 3, .inl (fun _ => 0)))] := hD
  obtain ⟨ad, had⟩ : ∃ ad : Nat → Nat, ad = fun i => ([q6_1, q13_1] : List Nat).getD i 0 := ⟨_, rfl⟩
  have hP9 : va_P D vwCl [(q, .inr (5, [.ref q6_1, .ref q13_1, .int 0])), (q6_1, .inl (cI, 3, .inl (fun _ => 0))), (q13_1, .inl (cI, 3, .inl (fun _ => 0)))] H := hP.sub [0, 1, 2] rfl
  have hD9 : va_D A [(q, .inr (5, [.ref q6_1, .ref q13_1, .int 0])), (q6_1, .inl (cI, 3, .inl (fun _ => 0))), (q13_1, .inl (cI, 3, .inl (fun _ => 0)))] := hD.sub [0, 1, 2] rfl rfl
  exact hRet ad (by rw [had]; exact hP9) (by rw [had]; exact hD9) hS dX6_init_18

abbrev rmX8_init : Room := { frames := 1, cells := 1, slots := 60, locals := 12 }
set_option maxHeartbeats 8000000 in
set_option maxRecDepth 100000 in
theorem c_X8_init (l : Launch) (D : va_G) (cI cJ cC cL : ClassId) (q : Nat) (sz : Nat) : Met l yX8_init wsX8_init rmX8_init (va_Pc [.ref q] (jpre XAO D (tyL cI cJ cC cL) [(q, .inr (6, [.null, .int 0, .int 0, .int 0, .int 0, .int 0, .int 0, .int 0]))] sz)) (va_Qv (fun (_ : Nat → Nat) => True) (fun ad t => jpost D (tyL cI cJ cC cL) (va_A [(q, .inr (6, [.null, .int 0, .int 0, .int 0, .int 0, .int 0, .int 0, .int 0]))] sz) ((fun ad => [(q, .inr (6, [.ref (ad 0), .int 0, .int 0, .int 0, .int 0, .int 0, .int 0, .int 0])), ((ad 0), .inl (cC, 60, .inl (fun _ => 0)))]) ad) t) (va_A [(q, .inr (6, [.null, .int 0, .int 0, .int 0, .int 0, .int 0, .int 0, .int 0]))] sz)) 1 60 (va_A [(q, .inr (6, [.null, .int 0, .int 0, .int 0, .int 0, .int 0, .int 0, .int 0]))] sz) := by
  refine jE_init (X := XAO) (y := yX8_init) (ws0 := wsX8_init) (rm := rmX8_init) (av := [.ref q]) (W0 := [(q, .inr (6, [.null, .int 0, .int 0, .int 0, .int 0, .int 0, .int 0, .int 0]))]) (sz := sz) (mc := 1) (ms := 60) (cc := cX8_init) (maxL := 1) (own := RX8) (lv0 := [(0, .ref q)]) (W1 := (fun ad => [(q, .inr (6, [.ref (ad 0), .int 0, .int 0, .int 0, .int 0, .int 0, .int 0, .int 0])), ((ad 0), .inl (cC, 60, .inl (fun _ => 0)))])) (by decide) rfl rfl rfl (Nat.le_of_ble_eq_true rfl) rfl ?_
  intro p e s m args below meth c A Q ls hx hb hml hown hts hK hN hX hin hA hP hD hS hl hRet
  have hF : CallFix p m c cX8_init 1 s args wsX8_init RX8 := ⟨hx, hb, hml, hown, hts⟩
  have fl_9 := hts (.fieldLink RX8 9 "LanternLogic$Text" "signs" "[C") (by decide +kernel)
  have hin_X8 : ∀ w ∈ u_ws RX8 TX8 8, w ∈ wsX8_init := by decide +kernel
  refine lv_aload_n hx hb dX8_init_0 rfl (lv_at hl 0 rfl) ?_
  refine W.objInit hx hb hown (hts (.methodLink RX8 3 objectInit) (by decide +kernel)) (hts (.instanceMethod objectInit) (by decide +kernel)) (hts (.code objectInit ⟨#[0xb1]⟩ 1 none) (by decide +kernel)) rfl (by rw [hml]; exact hl.1) rfl dX8_init_1 (Nat.le_of_ble_eq_true rfl) (Nat.le_of_ble_eq_true rfl) ?_
  refine W.eq (g2 := F0 m 4 _ []) rfl ?_
  refine lv_aload_n hx hb dX8_init_4 rfl (lv_at hl 0 rfl) ?_
  refine lv_bipush (v := (60 : Int32)) hx hb dX8_init_5 (by decide) ?_
  refine va_newa (atype := .char) (ty := .char) (N' := 60) (a0 := (60, .inl (fun _ => 0))) hx hb (hts (.arrayClass .char) (by decide +kernel)) rfl hK hP hD hS hA (fun _ => rfl) (by decide) (by decide) (Nat.le_of_ble_eq_true rfl) (Nat.le_of_ble_eq_true rfl) (Nat.le_of_ble_eq_true rfl) dX8_init_7 (fun q7_1 cA H hK2 hP hD hS => ?_)
  have hcA := (jarr_prim (t := 2) rfl hK2 hK rfl).symm
  subst hcA
  clear hK2
  have hP : va_P D vwCl [(q, .inr (6, [.null, .int 0, .int 0, .int 0, .int 0, .int 0, .int 0, .int 0])), (q7_1, .inl (cC, 60, .inl (fun _ => 0)))] H := hP
  have hD : va_D A [(q, .inr (6, [.null, .int 0, .int 0, .int 0, .int 0, .int 0, .int 0, .int 0])), (q7_1, .inl (cC, 60, .inl (fun _ => 0)))] := hD
  refine va_putF (ci := 6) (v := .ref q7_1) (ty := (.array .char)) (C := RX8) (T := TX8) (N := 8) hx hb hts hin_X8 tyX8 tyX8_ok nmX8 hown hK hP hD hS 0 rfl rfl 0 (by decide) fl_9 (fun _ h9 => h9) rfl hin rfl (by decide +kernel) rfl rfl (Nat.le_of_ble_eq_true rfl) dX8_init_9 (fun H locs hP hD hS => ?_)
  have hP : va_P D vwCl [(q, .inr (6, [.ref q7_1, .int 0, .int 0, .int 0, .int 0, .int 0, .int 0, .int 0])), (q7_1, .inl (cC, 60, .inl (fun _ => 0)))] H := hP
  have hD : va_D A [(q, .inr (6, [.ref q7_1, .int 0, .int 0, .int 0, .int 0, .int 0, .int 0, .int 0])), (q7_1, .inl (cC, 60, .inl (fun _ => 0)))] := hD
  obtain ⟨ad, had⟩ : ∃ ad : Nat → Nat, ad = fun i => ([q7_1] : List Nat).getD i 0 := ⟨_, rfl⟩
  have hP9 : va_P D vwCl [(q, .inr (6, [.ref q7_1, .int 0, .int 0, .int 0, .int 0, .int 0, .int 0, .int 0])), (q7_1, .inl (cC, 60, .inl (fun _ => 0)))] H := hP.sub [0, 1] rfl
  have hD9 : va_D A [(q, .inr (6, [.ref q7_1, .int 0, .int 0, .int 0, .int 0, .int 0, .int 0, .int 0])), (q7_1, .inl (cC, 60, .inl (fun _ => 0)))] := hD.sub [0, 1] rfl rfl
  exact hRet ad (by rw [had]; exact hP9) (by rw [had]; exact hD9) hS dX8_init_12


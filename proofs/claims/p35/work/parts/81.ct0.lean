abbrev rmX0_init : Room := { frames := 1, cells := 1, slots := 16, locals := 12 }
set_option maxHeartbeats 8000000 in
set_option maxRecDepth 100000 in
theorem c_X0_init (l : Launch) (D : va_G) (cI cJ cC cL : ClassId) (q : Nat) (sz : Nat) : Met l yX0_init wsX0_init rmX0_init (va_Pc [.ref q] (jpre XAO D (tyL cI cJ cC cL) [(q, .inr (0, [.null]))] sz)) (va_Qv (fun (_ : Nat → Nat) => True) (fun ad t => jpost D (tyL cI cJ cC cL) (va_A [(q, .inr (0, [.null]))] sz) ((fun ad => [(q, .inr (0, [.ref (ad 0)])), ((ad 0), .inl (cI, 16, .inl (fun _ => 0)))]) ad) t) (va_A [(q, .inr (0, [.null]))] sz)) 1 16 (va_A [(q, .inr (0, [.null]))] sz) := by
  refine jE_init (X := XAO) (y := yX0_init) (ws0 := wsX0_init) (rm := rmX0_init) (av := [.ref q]) (W0 := [(q, .inr (0, [.null]))]) (sz := sz) (mc := 1) (ms := 16) (cc := cX0_init) (maxL := 1) (own := RX0) (lv0 := [(0, .ref q)]) (W1 := (fun ad => [(q, .inr (0, [.ref (ad 0)])), ((ad 0), .inl (cI, 16, .inl (fun _ => 0)))])) (by decide) rfl rfl rfl (Nat.le_of_ble_eq_true rfl) rfl ?_
  intro p e s m args below meth c A Q ls hx hb hml hown hts hK hN hX hin hA hP hD hS hl hRet
  have hF : CallFix p m c cX0_init 1 s args wsX0_init RX0 := ⟨hx, hb, hml, hown, hts⟩
  have fl_9 := hts (.fieldLink RX0 9 "LanternLogic$Depths" "known" "[I") (by decide +kernel)
  have hin_X0 : ∀ w ∈ u_ws RX0 TX0 1, w ∈ wsX0_init := by decide +kernel
  refine lv_aload_n hx hb dX0_init_0 rfl (lv_at hl 0 rfl) ?_
  refine W.objInit hx hb hown (hts (.methodLink RX0 3 objectInit) (by decide +kernel)) (hts (.instanceMethod objectInit) (by decide +kernel)) (hts (.code objectInit ⟨#[0xb1]⟩ 1 none) (by decide +kernel)) rfl (by rw [hml]; exact hl.1) rfl dX0_init_1 (Nat.le_of_ble_eq_true rfl) (Nat.le_of_ble_eq_true rfl) ?_
  refine W.eq (g2 := F0 m 4 _ []) rfl ?_
  refine lv_aload_n hx hb dX0_init_4 rfl (lv_at hl 0 rfl) ?_
  refine lv_bipush (v := (16 : Int32)) hx hb dX0_init_5 (by decide) ?_
  refine va_newa (atype := .int) (ty := .int) (N' := 16) (a0 := (16, .inl (fun _ => 0))) hx hb (hts (.arrayClass .int) (by decide +kernel)) rfl hK hP hD hS hA (fun _ => rfl) (by decide) (by decide) (Nat.le_of_ble_eq_true rfl) (Nat.le_of_ble_eq_true rfl) (Nat.le_of_ble_eq_true rfl) dX0_init_7 (fun q7_1 cA H hK2 hP hD hS => ?_)
  have hcA := (jarr_prim (t := 0) rfl hK2 hK rfl).symm
  subst hcA
  clear hK2
  have hP : va_P D vwCl [(q, .inr (0, [.null])), (q7_1, .inl (cI, 16, .inl (fun _ => 0)))] H := hP
  have hD : va_D A [(q, .inr (0, [.null])), (q7_1, .inl (cI, 16, .inl (fun _ => 0)))] := hD
  refine va_putF (ci := 0) (v := .ref q7_1) (ty := (.array .int)) (C := RX0) (T := TX0) (N := 1) hx hb hts hin_X0 tyX0 tyX0_ok nmX0 hown hK hP hD hS 0 rfl rfl 0 (by decide) fl_9 (fun _ h9 => h9) rfl hin rfl (by decide +kernel) rfl rfl (Nat.le_of_ble_eq_true rfl) dX0_init_9 (fun H locs hP hD hS => ?_)
  have hP : va_P D vwCl [(q, .inr (0, [.ref q7_1])), (q7_1, .inl (cI, 16, .inl (fun _ => 0)))] H := hP
  have hD : va_D A [(q, .inr (0, [.ref q7_1])), (q7_1, .inl (cI, 16, .inl (fun _ => 0)))] := hD
  obtain ⟨ad, had⟩ : ∃ ad : Nat → Nat, ad = fun i => ([q7_1] : List Nat).getD i 0 := ⟨_, rfl⟩
  have hP9 : va_P D vwCl [(q, .inr (0, [.ref q7_1])), (q7_1, .inl (cI, 16, .inl (fun _ => 0)))] H := hP.sub [0, 1] rfl
  have hD9 : va_D A [(q, .inr (0, [.ref q7_1])), (q7_1, .inl (cI, 16, .inl (fun _ => 0)))] := hD.sub [0, 1] rfl rfl
  exact hRet ad (by rw [had]; exact hP9) (by rw [had]; exact hD9) hS dX0_init_12


/-! p35: StringBuilder's methods -/
abbrev rmJ5_init_d00df : Room := { frames := 1, cells := 1, slots := 16, locals := 40 }
set_option maxHeartbeats 8000000 in
set_option maxRecDepth 100000 in
theorem c_J5_init_d00df (l : Launch) (D : va_G) (cI cJ cC cL cB : ClassId) (q : Nat) (sz : Nat) : Met l yJ5_init_d00df wsJ5_init_d00df rmJ5_init_d00df (va_Pc [.ref q, .int (nI 16)] (jpre XQ D (tyB cI cJ cC cL cB) [(q, .inr (8, [.null, .int 0, .int 0, .int 0]))] sz)) (va_Qv (fun (_ : Nat → Nat) => True) (fun ad t => jpost D (tyB cI cJ cC cL cB) (va_A [(q, .inr (8, [.null, .int 0, .int 0, .int 0]))] sz) ((fun ad => [(q, .inr (8, [.ref (ad 0), .int 0, .int 0, .int (nI (0))])), ((ad 0), .inl (cB, 16, .inl (fun _ => 0)))]) ad) t) (va_A [(q, .inr (8, [.null, .int 0, .int 0, .int 0]))] sz)) 1 16 (va_A [(q, .inr (8, [.null, .int 0, .int 0, .int 0]))] sz) := by
  refine jE_init (y := yJ5_init_d00df) (cc := cJ5_init_d00df) (maxL := 2) (own := RJ5) (lv0 := [(0, .ref q), (1, .int (nI 16))]) (mc := 1) (ms := 16) (X := XQ) (W0 := [(q, .inr (8, [.null, .int 0, .int 0, .int 0]))]) (W1 := (fun ad => [(q, .inr (8, [.ref (ad 0), .int 0, .int 0, .int (nI (0))])), ((ad 0), .inl (cB, 16, .inl (fun _ => 0)))])) (by decide) rfl rfl rfl (Nat.le_of_ble_eq_true rfl) rfl ?_
  intro p e s m args below meth c A Q ls hx hb hml hown hts hK hN hX hin hA hP hD hS hl hRet
  have hF : CallFix p m c cJ5_init_d00df 2 s args wsJ5_init_d00df RJ5 := ⟨hx, hb, hml, hown, hts⟩
  have hK4 : va_K D vwCl (tyL cI cJ cC cL) s := hK.sub [0, 1, 2, 3] rfl
  have fl_15 := hts (.fieldLink RJ5 15 "java/lang/AbstractStringBuilder" "value" "[B") (by decide +kernel)
  have fl_18 := hts (.fieldLink RJ5 18 "java/lang/String" "COMPACT_STRINGS" "Z") (by decide +kernel)
  have fl_22 := hts (.fieldLink RJ5 22 "java/lang/AbstractStringBuilder" "coder" "B") (by decide +kernel)
  have hin_J4 : ∀ w ∈ u_ws RJ4 TJ4 4, w ∈ wsJ5_init_d00df := by decide +kernel
  have hP : va_P D vwCl [(q, .inr (8, [.null, .int 0, .int 0, .int 0]))] s.heap := hP
  have hD : va_D A [(q, .inr (8, [.null, .int 0, .int 0, .int 0]))] := hD
  refine lv_aload_n hx hb dJ5_init_d00df_0 rfl (lv_at hl 0 rfl) ?_
  refine W.objInit hx hb hown (hts (.methodLink RJ5 3 objectInit) (by decide +kernel)) (hts (.instanceMethod objectInit) (by decide +kernel)) (hts (.code objectInit ⟨#[0xb1]⟩ 1 none) (by decide +kernel)) rfl (by rw [hml]; exact hl.1) rfl dJ5_init_d00df_1 (Nat.le_of_ble_eq_true rfl) (Nat.le_of_ble_eq_true rfl) ?_
  refine W.eq (g2 := F0 m 4 _ []) rfl ?_
  refine va_gets (v := .int 1) hx hb hX.1.1 hS hown fl_18 (fun _ h9 => h9) dJ5_init_d00df_4 ?_
  refine lv_if_eq (tgt := 25) hx hb dJ5_init_d00df_7 (by decide) (fun hq => absurd hq (by decide)) (fun _ => ?_)
  refine lv_aload_n hx hb dJ5_init_d00df_10 rfl (lv_at hl 0 rfl) ?_
  refine lv_iload_n hx hb dJ5_init_d00df_11 rfl (lv_at hl 1 rfl) ?_
  refine va_newa (atype := .byte) (ty := .byte) (N' := 16) (a0 := (16, .inl (fun _ => 0))) hx hb (hts (.arrayClass .byte) (by decide +kernel)) rfl hK hP hD hS hA (fun _ => rfl) (by decide) (by decide) (Nat.le_of_ble_eq_true rfl) (Nat.le_of_ble_eq_true rfl) (Nat.le_of_ble_eq_true rfl) dJ5_init_d00df_12 (fun v cA H hK2 hP hD hS => ?_)
  have hcA := (jarr_prim (t := 4) rfl hK2 hK rfl).symm
  subst hcA
  clear hK2
  have hP : va_P D vwCl [(q, .inr (8, [.null, .int 0, .int 0, .int 0])), (v, .inl (cB, 16, .inl (fun _ => 0)))] _ := hP
  have hD : va_D A [(q, .inr (8, [.null, .int 0, .int 0, .int 0])), (v, .inl (cB, 16, .inl (fun _ => 0)))] := hD
  refine va_put (ci := 8) (v := .ref v) (ty := (.array .byte)) (C := RJ4) (T := TJ4) (N := 4) hx hb hts hin_J4 tyJ4 tyJ4_ok nmJ4 hown hK hP hD hS 0 rfl rfl 0 (by decide) fl_15 (fun _ h9 => h9) rfl (by decide +kernel) rfl rfl (Nat.le_of_ble_eq_true rfl) dJ5_init_d00df_14 (fun H locs hP hD hS => ?_)
  have hP : va_P D vwCl [(q, .inr (8, [.ref v, .int 0, .int 0, .int 0])), (v, .inl (cB, 16, .inl (fun _ => 0)))] _ := hP
  have hD : va_D A [(q, .inr (8, [.ref v, .int 0, .int 0, .int 0])), (v, .inl (cB, 16, .inl (fun _ => 0)))] := hD
  refine lv_aload_n hx hb dJ5_init_d00df_17 rfl (lv_at hl 0 rfl) ?_
  refine lv_iconst (v := nI 0) hx hb dJ5_init_d00df_18 (by decide) ?_
  refine va_put (ci := 8) (v := .int (nI 0)) (ty := .byte) (C := RJ4) (T := TJ4) (N := 4) hx hb hts hin_J4 tyJ4 tyJ4_ok nmJ4 hown hK hP hD hS 0 rfl rfl 1 (by decide) fl_22 (fun _ h9 => h9) rfl (by decide +kernel) rfl rfl (Nat.le_of_ble_eq_true rfl) dJ5_init_d00df_19 (fun H locs hP hD hS => ?_)
  have hP : va_P D vwCl [(q, .inr (8, [.ref v, .int (nI 0), .int 0, .int 0])), (v, .inl (cB, 16, .inl (fun _ => 0)))] _ := hP
  have hD : va_D A [(q, .inr (8, [.ref v, .int (nI 0), .int 0, .int 0])), (v, .inl (cB, 16, .inl (fun _ => 0)))] := hD
  refine lv_goto (tgt := 38) hx hb dJ5_init_d00df_22 (by decide) ?_
  exact hRet (fun _ => v) hP hD hS dJ5_init_d00df_38

abbrev rmJ4_init_da8c8 : Room := { frames := 2, cells := 1, slots := 16, locals := 61 }
set_option maxHeartbeats 8000000 in
set_option maxRecDepth 100000 in
theorem c_J4_init_da8c8 (l : Launch) (D : va_G) (cI cJ cC cL cB : ClassId) (q : Nat) (sz : Nat) : Met l yJ4_init_da8c8 wsJ4_init_da8c8 rmJ4_init_da8c8 (va_Pc [.ref q] (jpre XQ D (tyB cI cJ cC cL cB) [(q, .inr (8, [.null, .int 0, .int 0, .int 0]))] sz)) (va_Qv (fun (_ : Nat → Nat) => True) (fun ad t => jpost D (tyB cI cJ cC cL cB) (va_A [(q, .inr (8, [.null, .int 0, .int 0, .int 0]))] sz) ((fun ad => [(q, .inr (8, [.ref (ad 0), .int 0, .int 0, .int (nI (0))])), ((ad 0), .inl (cB, 16, .inl (fun _ => 0)))]) ad) t) (va_A [(q, .inr (8, [.null, .int 0, .int 0, .int 0]))] sz)) 1 16 (va_A [(q, .inr (8, [.null, .int 0, .int 0, .int 0]))] sz) := by
  refine jE_init (y := yJ4_init_da8c8) (cc := cJ4_init_da8c8) (maxL := 1) (own := RJ4) (lv0 := [(0, .ref q)]) (mc := 1) (ms := 16) (X := XQ) (W0 := [(q, .inr (8, [.null, .int 0, .int 0, .int 0]))]) (W1 := (fun ad => [(q, .inr (8, [.ref (ad 0), .int 0, .int 0, .int (nI (0))])), ((ad 0), .inl (cB, 16, .inl (fun _ => 0)))])) (by decide) rfl rfl rfl (Nat.le_of_ble_eq_true rfl) rfl ?_
  intro p e s m args below meth c A Q ls hx hb hml hown hts hK hN hX hin hA hP hD hS hl hRet
  have hF : CallFix p m c cJ4_init_da8c8 1 s args wsJ4_init_da8c8 RJ4 := ⟨hx, hb, hml, hown, hts⟩
  have hK4 : va_K D vwCl (tyL cI cJ cC cL) s := hK.sub [0, 1, 2, 3] rfl
  have hP : va_P D vwCl [(q, .inr (8, [.null, .int 0, .int 0, .int 0]))] s.heap := hP
  have hD : va_D A [(q, .inr (8, [.null, .int 0, .int 0, .int 0]))] := hD
  refine lv_aload_n hx hb dJ4_init_da8c8_0 rfl (lv_at hl 0 rfl) ?_
  refine lv_bipush (v := nI 16) hx hb dJ4_init_da8c8_1 (by decide) ?_
  refine jf_v (X := XQ) (tys := (tyB cI cJ cC cL cB)) (av := [.ref q, .int (nI 16)]) (wc := [(q, .inr (8, [.null, .int 0, .int 0, .int 0]))]) (wr := []) (w1 := (fun ad3 => [(q, .inr (8, [.ref (ad3 0), .int 0, .int 0, .int (nI (0))])), ((ad3 0), .inl (cB, 16, .inl (fun _ => 0)))])) (mc := 1) (ms := 16) KX_XQ hX hK hN hP hD hS hA (fun hb1 hp1 => va_runI (As := [.int (nI 16)]) (rest := []) hF (c_J5_init_d00df l D cI cJ cC cL cB q _) (cwI 1 hts gJ4_init_da8c8_J5_init_d00df rfl rfl rfl (hts (.initialized RJ5) (by decide +kernel)) (hts (.methodLink RJ4 1 yJ5_init_d00df) (by decide +kernel)) (hts (.instanceMethod yJ5_init_d00df) (by decide +kernel)) rfl (by decide +kernel) ⟨Nat.le_of_ble_eq_true rfl, Nat.le_of_ble_eq_true rfl⟩) ⟨hb1, hp1⟩ rfl rfl hl.1 rfl (lv_room (Nat.le_of_ble_eq_true rfl)) dJ4_init_da8c8_3 ⟨Nat.le_of_ble_eq_true rfl, Nat.le_of_ble_eq_true rfl⟩) (fun ad3 H locs hP hD hS hz => ?_)
  have hP : va_P D vwCl [(q, .inr (8, [.ref (ad3 0), .int 0, .int 0, .int (nI (0))])), ((ad3 0), .inl (cB, 16, .inl (fun _ => 0)))] _ := hP
  have hD : va_D A [(q, .inr (8, [.ref (ad3 0), .int 0, .int 0, .int (nI (0))])), ((ad3 0), .inl (cB, 16, .inl (fun _ => 0)))] := hD
  exact hRet ad3 hP hD hS dJ4_init_da8c8_6

abbrev rmJ5_isLatin1_aae02 : Room := { frames := 0, cells := 0, slots := 0, locals := 0 }
set_option maxHeartbeats 8000000 in
set_option maxRecDepth 100000 in
theorem c_J5_isLatin1_aae02 (l : Launch) (D : va_G) (cI cJ cC cL cB : ClassId) (q v n : Nat) (f : Nat → Int32) (sz : Nat) : Met l yJ5_isLatin1_aae02 wsJ5_isLatin1_aae02 rmJ5_isLatin1_aae02 (va_Pc [.ref q] (jpre XQ D (tyB cI cJ cC cL cB) [(q, .inr (8, [.ref v, .int 0, .int 0, .int (nI n)])), (v, .inl (cB, 16, .inl f))] sz)) (va_Qi (fun r' (_ : Unit) => r' = nI 1) (fun _ t => jpost D (tyB cI cJ cC cL cB) (va_A [(q, .inr (8, [.ref v, .int 0, .int 0, .int (nI n)])), (v, .inl (cB, 16, .inl f))] sz) [(q, .inr (8, [.ref v, .int 0, .int 0, .int (nI n)])), (v, .inl (cB, 16, .inl f))] t) (va_A [(q, .inr (8, [.ref v, .int 0, .int 0, .int (nI n)])), (v, .inl (cB, 16, .inl f))] sz)) 0 0 (va_A [(q, .inr (8, [.ref v, .int 0, .int 0, .int (nI n)])), (v, .inl (cB, 16, .inl f))] sz) := by
  refine jE_z (y := yJ5_isLatin1_aae02) (cc := cJ5_isLatin1_aae02) (maxL := 1) (own := RJ5) (lv0 := [(0, .ref q)]) (X := XQ) (W0 := [(q, .inr (8, [.ref v, .int 0, .int 0, .int (nI n)])), (v, .inl (cB, 16, .inl f))]) (W1 := [(q, .inr (8, [.ref v, .int 0, .int 0, .int (nI n)])), (v, .inl (cB, 16, .inl f))]) (ret := (some .boolean)) (r := nI 1) (by decide) rfl rfl rfl (Nat.le_of_ble_eq_true rfl) rfl ?_
  intro p e s m args below meth c A Q ls hx hb hml hown hts hK hN hX hA hP hD hS hl hRet
  have hF : CallFix p m c cJ5_isLatin1_aae02 1 s args wsJ5_isLatin1_aae02 RJ5 := ⟨hx, hb, hml, hown, hts⟩
  have hK4 : va_K D vwCl (tyL cI cJ cC cL) s := hK.sub [0, 1, 2, 3] rfl
  have fl_18 := hts (.fieldLink RJ5 18 "java/lang/String" "COMPACT_STRINGS" "Z") (by decide +kernel)
  have fl_22 := hts (.fieldLink RJ5 22 "java/lang/AbstractStringBuilder" "coder" "B") (by decide +kernel)
  have hin_J4 : ∀ w ∈ u_ws RJ4 TJ4 4, w ∈ wsJ5_isLatin1_aae02 := by decide +kernel
  have hP : va_P D vwCl [(q, .inr (8, [.ref v, .int 0, .int 0, .int (nI n)])), (v, .inl (cB, 16, .inl f))] s.heap := hP
  have hD : va_D A [(q, .inr (8, [.ref v, .int 0, .int 0, .int (nI n)])), (v, .inl (cB, 16, .inl f))] := hD
  refine va_gets (v := .int 1) hx hb hX.1.1 hS hown fl_18 (fun _ h9 => h9) dJ5_isLatin1_aae02_0 ?_
  refine lv_if_eq (tgt := 17) hx hb dJ5_isLatin1_aae02_3 (by decide) (fun hq => absurd hq (by decide)) (fun _ => ?_)
  refine lv_aload_n hx hb dJ5_isLatin1_aae02_6 rfl (lv_at hl 0 rfl) ?_
  refine va_get (ci := 8) (v := .int 0) (C := RJ4) (T := TJ4) (N := 4) hx hb hts hin_J4 hown hK hP 0 rfl rfl 1 (by decide) fl_22 (fun _ h9 => h9) rfl dJ5_isLatin1_aae02_7 ?_
  refine lv_if_ne (tgt := 17) hx hb dJ5_isLatin1_aae02_10 (by decide) (fun hq => absurd rfl hq) (fun _ => ?_)
  refine lv_iconst (v := nI 1) hx hb dJ5_isLatin1_aae02_13 (by decide) ?_
  refine lv_goto (tgt := 18) hx hb dJ5_isLatin1_aae02_14 (by decide) ?_
  exact hRet hP hD hS (Or.inr rfl) rfl dJ5_isLatin1_aae02_18

abbrev rmJ5_ensureCapacityInternal_d00df : Room := { frames := 0, cells := 0, slots := 0, locals := 0 }
set_option maxHeartbeats 8000000 in
set_option maxRecDepth 100000 in
theorem c_J5_ensureCapacityInternal_d00df (l : Launch) (D : va_G) (cI cJ cC cL cB : ClassId) (q v n : Nat) (f : Nat → Int32) (k : Nat) (hk : k < 17) (sz : Nat) : Met l yJ5_ensureCapacityInternal_d00df wsJ5_ensureCapacityInternal_d00df rmJ5_ensureCapacityInternal_d00df (va_Pc [.ref q, .int (nI k)] (jpre XQ D (tyB cI cJ cC cL cB) [(q, .inr (8, [.ref v, .int 0, .int 0, .int (nI n)])), (v, .inl (cB, 16, .inl f))] sz)) (va_Qv (fun (_ : Unit) => True) (fun _ t => jpost D (tyB cI cJ cC cL cB) (va_A [(q, .inr (8, [.ref v, .int 0, .int 0, .int (nI n)])), (v, .inl (cB, 16, .inl f))] sz) [(q, .inr (8, [.ref v, .int 0, .int 0, .int (nI n)])), (v, .inl (cB, 16, .inl f))] t) (va_A [(q, .inr (8, [.ref v, .int 0, .int 0, .int (nI n)])), (v, .inl (cB, 16, .inl f))] sz)) 0 0 (va_A [(q, .inr (8, [.ref v, .int 0, .int 0, .int (nI n)])), (v, .inl (cB, 16, .inl f))] sz) := by
  refine jE_v (y := yJ5_ensureCapacityInternal_d00df) (cc := cJ5_ensureCapacityInternal_d00df) (maxL := 3) (own := RJ5) (lv0 := [(0, .ref q), (1, .int (nI k))]) (X := XQ) (W0 := [(q, .inr (8, [.ref v, .int 0, .int 0, .int (nI n)])), (v, .inl (cB, 16, .inl f))]) (W1 := [(q, .inr (8, [.ref v, .int 0, .int 0, .int (nI n)])), (v, .inl (cB, 16, .inl f))]) (ret := none) (by decide) rfl rfl rfl (Nat.le_of_ble_eq_true rfl) rfl ?_
  intro p e s m args below meth c A Q ls hx hb hml hown hts hK hN hX hA hP hD hS hl hRet
  have hF : CallFix p m c cJ5_ensureCapacityInternal_d00df 3 s args wsJ5_ensureCapacityInternal_d00df RJ5 := ⟨hx, hb, hml, hown, hts⟩
  have hK4 : va_K D vwCl (tyL cI cJ cC cL) s := hK.sub [0, 1, 2, 3] rfl
  have fl_15 := hts (.fieldLink RJ5 15 "java/lang/AbstractStringBuilder" "value" "[B") (by decide +kernel)
  have fl_22 := hts (.fieldLink RJ5 22 "java/lang/AbstractStringBuilder" "coder" "B") (by decide +kernel)
  have hin_J4 : ∀ w ∈ u_ws RJ4 TJ4 4, w ∈ wsJ5_ensureCapacityInternal_d00df := by decide +kernel
  have hP : va_P D vwCl [(q, .inr (8, [.ref v, .int 0, .int 0, .int (nI n)])), (v, .inl (cB, 16, .inl f))] s.heap := hP
  have hD : va_D A [(q, .inr (8, [.ref v, .int 0, .int 0, .int (nI n)])), (v, .inl (cB, 16, .inl f))] := hD
  refine lv_aload_n hx hb dJ5_ensureCapacityInternal_d00df_0 rfl (lv_at hl 0 rfl) ?_
  refine va_get (ci := 8) (v := .ref v) (C := RJ4) (T := TJ4) (N := 4) hx hb hts hin_J4 hown hK hP 0 rfl rfl 0 (by decide) fl_15 (fun _ h9 => h9) rfl dJ5_ensureCapacityInternal_d00df_1 ?_
  refine va_alen (v := nI (16)) hx hb hK hP 1 4 rfl rfl rfl dJ5_ensureCapacityInternal_d00df_4 ?_
  refine lv_aload_n hx hb dJ5_ensureCapacityInternal_d00df_5 rfl (lv_at hl 0 rfl) ?_
  refine va_get (ci := 8) (v := .int 0) (C := RJ4) (T := TJ4) (N := 4) hx hb hts hin_J4 hown hK hP 0 rfl rfl 1 (by decide) fl_22 (fun _ h9 => h9) rfl dJ5_ensureCapacityInternal_d00df_6 ?_
  refine lv_ishr hx hb dJ5_ensureCapacityInternal_d00df_9 ?_
  refine lv_istore_n (lv' := [(2, .int ((nI (16)) >>> ((0) &&& 31))), (0, .ref q), (1, .int (nI k))]) hx hb dJ5_ensureCapacityInternal_d00df_10 rfl hl (by decide) rfl (fun ls hl => ?_)
  refine lv_iload_n hx hb dJ5_ensureCapacityInternal_d00df_11 rfl (lv_at hl 2 rfl) ?_
  refine lv_iload_n hx hb dJ5_ensureCapacityInternal_d00df_12 rfl (lv_at hl 0 rfl) ?_
  refine lv_isub hx hb dJ5_ensureCapacityInternal_d00df_13 ?_
  refine lv_if_le (tgt := 38) hx hb dJ5_ensureCapacityInternal_d00df_14 (by decide) (fun _ => ?_) (fun hq => absurd (bq_cap k hk) hq)
  exact hRet hP hD hS dJ5_ensureCapacityInternal_d00df_38

abbrev rmJ5_inflateIfNeededFor_a7421 : Room := { frames := 1, cells := 0, slots := 0, locals := 20 }
set_option maxHeartbeats 8000000 in
set_option maxRecDepth 100000 in
theorem c_J5_inflateIfNeededFor_a7421 (l : Launch) (D : va_G) (cI cJ cC cL cB : ClassId) (q v n : Nat) (f : Nat → Int32) (a : Nat) (cs : List Nat) (sz : Nat) : Met l yJ5_inflateIfNeededFor_a7421 wsJ5_inflateIfNeededFor_a7421 rmJ5_inflateIfNeededFor_a7421 (va_Pc [.ref q, .ref a] (jpre (XQS a (cs.map nI)) D (tyB cI cJ cC cL cB) [(q, .inr (8, [.ref v, .int 0, .int 0, .int (nI n)])), (v, .inl (cB, 16, .inl f))] sz)) (va_Qv (fun (_ : Unit) => True) (fun _ t => jpost D (tyB cI cJ cC cL cB) (va_A [(q, .inr (8, [.ref v, .int 0, .int 0, .int (nI n)])), (v, .inl (cB, 16, .inl f))] sz) [(q, .inr (8, [.ref v, .int 0, .int 0, .int (nI n)])), (v, .inl (cB, 16, .inl f))] t) (va_A [(q, .inr (8, [.ref v, .int 0, .int 0, .int (nI n)])), (v, .inl (cB, 16, .inl f))] sz)) 0 0 (va_A [(q, .inr (8, [.ref v, .int 0, .int 0, .int (nI n)])), (v, .inl (cB, 16, .inl f))] sz) := by
  refine jE_v (y := yJ5_inflateIfNeededFor_a7421) (cc := cJ5_inflateIfNeededFor_a7421) (maxL := 2) (own := RJ5) (lv0 := [(0, .ref q), (1, .ref a)]) (X := (XQS a (cs.map nI))) (W0 := [(q, .inr (8, [.ref v, .int 0, .int 0, .int (nI n)])), (v, .inl (cB, 16, .inl f))]) (W1 := [(q, .inr (8, [.ref v, .int 0, .int 0, .int (nI n)])), (v, .inl (cB, 16, .inl f))]) (ret := none) (by decide) rfl rfl rfl (Nat.le_of_ble_eq_true rfl) rfl ?_
  intro p e s m args below meth c A Q ls hx hb hml hown hts hK hN hX hA hP hD hS hl hRet
  have hF : CallFix p m c cJ5_inflateIfNeededFor_a7421 2 s args wsJ5_inflateIfNeededFor_a7421 RJ5 := ⟨hx, hb, hml, hown, hts⟩
  have hK4 : va_K D vwCl (tyL cI cJ cC cL) s := hK.sub [0, 1, 2, 3] rfl
  have fl_18 := hts (.fieldLink RJ5 18 "java/lang/String" "COMPACT_STRINGS" "Z") (by decide +kernel)
  have fl_22 := hts (.fieldLink RJ5 22 "java/lang/AbstractStringBuilder" "coder" "B") (by decide +kernel)
  have hin_J4 : ∀ w ∈ u_ws RJ4 TJ4 4, w ∈ wsJ5_inflateIfNeededFor_a7421 := by decide +kernel
  have hP : va_P D vwCl [(q, .inr (8, [.ref v, .int 0, .int 0, .int (nI n)])), (v, .inl (cB, 16, .inl f))] s.heap := hP
  have hD : va_D A [(q, .inr (8, [.ref v, .int 0, .int 0, .int (nI n)])), (v, .inl (cB, 16, .inl f))] := hD
  refine va_gets (v := .int 1) hx hb hX.1.1.1 hS hown fl_18 (fun _ h9 => h9) dJ5_inflateIfNeededFor_a7421_0 ?_
  refine lv_if_eq (tgt := 21) hx hb dJ5_inflateIfNeededFor_a7421_3 (by decide) (fun hq => absurd hq (by decide)) (fun _ => ?_)
  refine lv_aload_n hx hb dJ5_inflateIfNeededFor_a7421_6 rfl (lv_at hl 0 rfl) ?_
  refine va_get (ci := 8) (v := .int 0) (C := RJ4) (T := TJ4) (N := 4) hx hb hts hin_J4 hown hK hP 0 rfl rfl 1 (by decide) fl_22 (fun _ h9 => h9) rfl dJ5_inflateIfNeededFor_a7421_7 ?_
  refine lv_aload_n hx hb dJ5_inflateIfNeededFor_a7421_10 rfl (lv_at hl 1 rfl) ?_
  refine jpR_i (C := RJ0) (As := []) (rest := [.int (0)]) hF (c_J0_coder_7d493 l D cI cJ cC cL a (cs.map nI) 0 rfl _) (cwV 0 hts gJ5_inflateIfNeededFor_a7421_J0_coder_7d493 rfl rfl rfl (by decide +kernel) ⟨Nat.le_of_ble_eq_true rfl, Nat.le_of_ble_eq_true rfl⟩) rfl hl rfl (Nat.le_of_ble_eq_true rfl) dJ5_inflateIfNeededFor_a7421_11 ⟨Nat.zero_le _, Nat.zero_le _⟩ hK4 hN KX_XP (X_at KX_XP (show XP a (cs.map nI) A s s.heap from ⟨hX.1.1, hX.2⟩) hS (fun q h => hA q (Nat.le_trans hS.1 (free0 h)))) hS hA (str_recv hX.2 hS) (fun H locs hS hz hkj => ?_)
  have hP := hP.kept (fun k z h9 => hkj z.1 ((hP k z h9).lt))
  have hP : va_P D vwCl [(q, .inr (8, [.ref v, .int 0, .int 0, .int (nI n)])), (v, .inl (cB, 16, .inl f))] _ := hP
  have hD : va_D A [(q, .inr (8, [.ref v, .int 0, .int 0, .int (nI n)])), (v, .inl (cB, 16, .inl f))] := hD
  refine lv_icmp_eq (tgt := 21) hx hb dJ5_inflateIfNeededFor_a7421_14 (by decide) (fun _ => ?_) (fun hq => absurd rfl hq)
  exact hRet hP hD hS dJ5_inflateIfNeededFor_a7421_21

abbrev rmJ0_getBytes_840e7 : Room := { frames := 1, cells := 0, slots := 0, locals := 80 }
set_option maxHeartbeats 8000000 in
set_option maxRecDepth 100000 in
theorem c_J0_getBytes_840e7 (l : Launch) (D : va_G) (cI cJ cC cL cB : ClassId) (q v n : Nat) (f : Nat → Int32) (a : Nat) (cs : List Nat) (len : Nat) (hlen : cs.length = len) (hcs : ∀ c ∈ cs, 32 ≤ c ∧ c ≤ 126) (hn : n + len < 17) (sz : Nat) : Met l yJ0_getBytes_840e7 wsJ0_getBytes_840e7 rmJ0_getBytes_840e7 (va_Pc [.ref a, .ref v, .int (nI n), .int 0] (jpre (XQS a (cs.map nI)) D (tyB cI cJ cC cL cB) [(q, .inr (8, [.ref v, .int 0, .int 0, .int (nI n)])), (v, .inl (cB, 16, .inl f))] sz)) (va_Qv (fun (_ : Unit) => True) (fun _ t => jpost D (tyB cI cJ cC cL cB) (va_A [(q, .inr (8, [.ref v, .int 0, .int 0, .int (nI n)])), (v, .inl (cB, 16, .inl f))] sz) [(q, .inr (8, [.ref v, .int 0, .int 0, .int (nI n)])), (v, .inl (cB, 16, .inl (va_cpy (fun j => (cs.map nI).getD j 0) f 0 n len)))] t) (va_A [(q, .inr (8, [.ref v, .int 0, .int 0, .int (nI n)])), (v, .inl (cB, 16, .inl f))] sz)) 0 0 (va_A [(q, .inr (8, [.ref v, .int 0, .int 0, .int (nI n)])), (v, .inl (cB, 16, .inl f))] sz) := by
  refine jE_v (y := yJ0_getBytes_840e7) (cc := cJ0_getBytes_840e7) (maxL := 4) (own := RJ0) (lv0 := [(0, .ref a), (1, .ref v), (2, .int (nI n)), (3, .int 0)]) (X := (XQS a (cs.map nI))) (W0 := [(q, .inr (8, [.ref v, .int 0, .int 0, .int (nI n)])), (v, .inl (cB, 16, .inl f))]) (W1 := [(q, .inr (8, [.ref v, .int 0, .int 0, .int (nI n)])), (v, .inl (cB, 16, .inl (va_cpy (fun j => (cs.map nI).getD j 0) f 0 n len)))]) (ret := none) (by decide) rfl rfl rfl (Nat.le_of_ble_eq_true rfl) rfl ?_
  intro p e s m args below meth c A Q ls hx hb hml hown hts hK hN hX hA hP hD hS hl hRet
  have hF : CallFix p m c cJ0_getBytes_840e7 4 s args wsJ0_getBytes_840e7 RJ0 := ⟨hx, hb, hml, hown, hts⟩
  have hK4 : va_K D vwCl (tyL cI cJ cC cL) s := hK.sub [0, 1, 2, 3] rfl
  have fl_9 := hts (.fieldLink RJ0 9 "java/lang/String" "value" "[B") (by decide +kernel)
  have hP : va_P D vwCl [(q, .inr (8, [.ref v, .int 0, .int 0, .int (nI n)])), (v, .inl (cB, 16, .inl f))] s.heap := hP
  have hD : va_D A [(q, .inr (8, [.ref v, .int 0, .int 0, .int (nI n)])), (v, .inl (cB, 16, .inl f))] := hD
  obtain ⟨v0, hv0, hbt⟩ := hX.2.2.2
  refine lv_aload_n hx hb dJ0_getBytes_840e7_0 rfl (lv_at hl 0 rfl) ?_
  refine jpR_i (C := RJ0) (As := []) (rest := []) hF (c_J0_coder_7d493 l D cI cJ cC cL a (cs.map nI) 0 rfl _) (cwV 0 hts gJ0_getBytes_840e7_J0_coder_7d493 rfl rfl rfl (by decide +kernel) ⟨Nat.le_of_ble_eq_true rfl, Nat.le_of_ble_eq_true rfl⟩) rfl hl rfl (Nat.le_of_ble_eq_true rfl) dJ0_getBytes_840e7_1 ⟨Nat.zero_le _, Nat.zero_le _⟩ hK4 hN KX_XP (X_at KX_XP (show XP a (cs.map nI) A s s.heap from ⟨hX.1.1, hX.2⟩) hS (fun q h => hA q (Nat.le_trans hS.1 (free0 h)))) hS hA (str_recv hX.2 hS) (fun H locs hS hz hkj => ?_)
  have hP := hP.kept (fun k z h9 => hkj z.1 ((hP k z h9).lt))
  have hP : va_P D vwCl [(q, .inr (8, [.ref v, .int 0, .int 0, .int (nI n)])), (v, .inl (cB, 16, .inl f))] _ := hP
  have hD : va_D A [(q, .inr (8, [.ref v, .int 0, .int 0, .int (nI n)])), (v, .inl (cB, 16, .inl f))] := hD
  refine lv_iload_n hx hb dJ0_getBytes_840e7_4 rfl (lv_at hl 3 rfl) ?_
  refine lv_icmp_ne (tgt := 28) hx hb dJ0_getBytes_840e7_5 (by decide) (fun hq => absurd rfl hq) (fun _ => ?_)
  refine lv_aload_n hx hb dJ0_getBytes_840e7_8 rfl (lv_at hl 0 rfl) ?_
  refine vk_getf (v := .ref v0) hx hb hv0 hS hown fl_9 (fun _ h9 => h9) dJ0_getBytes_840e7_9 ?_
  refine lv_iconst (v := nI 0) hx hb dJ0_getBytes_840e7_12 (by decide) ?_
  refine lv_aload_n hx hb dJ0_getBytes_840e7_13 rfl (lv_at hl 1 rfl) ?_
  refine lv_iload_n hx hb dJ0_getBytes_840e7_14 rfl (lv_at hl 2 rfl) ?_
  refine lv_iload_n hx hb dJ0_getBytes_840e7_15 rfl (lv_at hl 3 rfl) ?_
  refine lv_ishl hx hb dJ0_getBytes_840e7_16 ?_
  rw [show nI n <<< ((0 : Int32) &&& 31) = nI n from bq_shl0 (nI n)]
  refine lv_aload_n hx hb dJ0_getBytes_840e7_17 rfl (lv_at hl 0 rfl) ?_
  refine vk_getf (v := .ref v0) hx hb hv0 hS hown fl_9 (fun _ h9 => h9) dJ0_getBytes_840e7_18 ?_
  refine va_tlen (v := nI len) hx hb hbt hS (by rw [List.length_map, hlen]; rfl) dJ0_getBytes_840e7_21 ?_
  have ebt : va_T .byte v0 len (fun j => .int ((cs.map nI).getD j 0)) A s s.heap := by rw [← hlen, ← List.length_map (as := cs) (f := nI)]; exact hbt
  refine vk_copyt (f := fun j => (cs.map nI).getD j 0) hx hb (hml.trans hl.1.symm) hown (hts (.methodLink RJ0 212 arraycopyName) (by decide +kernel)) (hts (.native arraycopyName) (by decide +kernel)) (hts (.static arraycopyName) (by decide +kernel)) (hts (.initialized "java/lang/System") (by decide +kernel)) hK hP hD hS ebt 1 4 rfl rfl (nI_pos (by omega)) (nI_pos (by omega)) (nI_pos (by omega)) (by rw [nI_clamp (by omega), nI_clamp (by omega)]; omega) (by rw [nI_clamp (by omega), nI_clamp (by omega)]; omega) (fun i hi => ?_) (Nat.le_of_ble_eq_true rfl) (by decide) dJ0_getBytes_840e7_22 (fun H locs hP hD hS => ?_)
  · rw [nI_clamp (by omega)] at hi
    rw [nI_clamp (by omega), Nat.zero_add, getD_nI (by omega)]
    exact bq_fit _ (by have := hcs (cs.getD i 0) (by rw [List.getD_eq_getElem?_getD, List.getElem?_eq_getElem (show i < cs.length by omega)]; exact List.getElem_mem _); omega)
  rw [nI_clamp (by omega), nI_clamp (by omega), nI_clamp (by omega)] at hP hD
  have hP : va_P D vwCl [(q, .inr (8, [.ref v, .int 0, .int 0, .int (nI n)])), (v, .inl (cB, 16, .inl (va_cpy (fun j => (cs.map nI).getD j 0) f 0 n len)))] _ := hP
  have hD : va_D A [(q, .inr (8, [.ref v, .int 0, .int 0, .int (nI n)])), (v, .inl (cB, 16, .inl (va_cpy (fun j => (cs.map nI).getD j 0) f 0 n len)))] := hD
  refine lv_goto (tgt := 43) hx hb dJ0_getBytes_840e7_25 (by decide) ?_
  exact hRet hP hD hS dJ0_getBytes_840e7_43

abbrev rmJ5_putStringAt_47b60 : Room := { frames := 2, cells := 0, slots := 0, locals := 103 }
set_option maxHeartbeats 8000000 in
set_option maxRecDepth 100000 in
theorem c_J5_putStringAt_47b60 (l : Launch) (D : va_G) (cI cJ cC cL cB : ClassId) (q v n : Nat) (f : Nat → Int32) (a : Nat) (cs : List Nat) (len : Nat) (hlen : cs.length = len) (hcs : ∀ c ∈ cs, 32 ≤ c ∧ c ≤ 126) (hn : n + len < 17) (sz : Nat) : Met l yJ5_putStringAt_47b60 wsJ5_putStringAt_47b60 rmJ5_putStringAt_47b60 (va_Pc [.ref q, .int (nI n), .ref a] (jpre (XQS a (cs.map nI)) D (tyB cI cJ cC cL cB) [(q, .inr (8, [.ref v, .int 0, .int 0, .int (nI n)])), (v, .inl (cB, 16, .inl f))] sz)) (va_Qv (fun (_ : Unit) => True) (fun _ t => jpost D (tyB cI cJ cC cL cB) (va_A [(q, .inr (8, [.ref v, .int 0, .int 0, .int (nI n)])), (v, .inl (cB, 16, .inl f))] sz) [(q, .inr (8, [.ref v, .int 0, .int 0, .int (nI n)])), (v, .inl (cB, 16, .inl (va_cpy (fun j => (cs.map nI).getD j 0) f 0 n len)))] t) (va_A [(q, .inr (8, [.ref v, .int 0, .int 0, .int (nI n)])), (v, .inl (cB, 16, .inl f))] sz)) 0 0 (va_A [(q, .inr (8, [.ref v, .int 0, .int 0, .int (nI n)])), (v, .inl (cB, 16, .inl f))] sz) := by
  refine jE_v (y := yJ5_putStringAt_47b60) (cc := cJ5_putStringAt_47b60) (maxL := 3) (own := RJ5) (lv0 := [(0, .ref q), (1, .int (nI n)), (2, .ref a)]) (X := (XQS a (cs.map nI))) (W0 := [(q, .inr (8, [.ref v, .int 0, .int 0, .int (nI n)])), (v, .inl (cB, 16, .inl f))]) (W1 := [(q, .inr (8, [.ref v, .int 0, .int 0, .int (nI n)])), (v, .inl (cB, 16, .inl (va_cpy (fun j => (cs.map nI).getD j 0) f 0 n len)))]) (ret := none) (by decide) rfl rfl rfl (Nat.le_of_ble_eq_true rfl) rfl ?_
  intro p e s m args below meth c A Q ls hx hb hml hown hts hK hN hX hA hP hD hS hl hRet
  have hF : CallFix p m c cJ5_putStringAt_47b60 3 s args wsJ5_putStringAt_47b60 RJ5 := ⟨hx, hb, hml, hown, hts⟩
  have hK4 : va_K D vwCl (tyL cI cJ cC cL) s := hK.sub [0, 1, 2, 3] rfl
  have fl_15 := hts (.fieldLink RJ5 15 "java/lang/AbstractStringBuilder" "value" "[B") (by decide +kernel)
  have fl_22 := hts (.fieldLink RJ5 22 "java/lang/AbstractStringBuilder" "coder" "B") (by decide +kernel)
  have hin_J4 : ∀ w ∈ u_ws RJ4 TJ4 4, w ∈ wsJ5_putStringAt_47b60 := by decide +kernel
  have hP : va_P D vwCl [(q, .inr (8, [.ref v, .int 0, .int 0, .int (nI n)])), (v, .inl (cB, 16, .inl f))] s.heap := hP
  have hD : va_D A [(q, .inr (8, [.ref v, .int 0, .int 0, .int (nI n)])), (v, .inl (cB, 16, .inl f))] := hD
  refine lv_aload_n hx hb dJ5_putStringAt_47b60_0 rfl (lv_at hl 0 rfl) ?_
  refine lv_aload_n hx hb dJ5_putStringAt_47b60_1 rfl (lv_at hl 2 rfl) ?_
  refine jf_u (X := (XQS a (cs.map nI))) (tys := (tyB cI cJ cC cL cB)) (av := [.ref q, .ref a]) (wc := [(q, .inr (8, [.ref v, .int 0, .int 0, .int (nI n)])), (v, .inl (cB, 16, .inl f))]) (wr := []) (w1 := [(q, .inr (8, [.ref v, .int 0, .int 0, .int (nI n)])), (v, .inl (cB, 16, .inl f))]) (mc := 0) (ms := 0) KX_XQS hX hK hN hP hD hS hA (fun hb1 hp1 => va_runU (C := RJ4) (As := [.ref a]) (rest := []) hF (c_J5_inflateIfNeededFor_a7421 l D cI cJ cC cL cB q v n f a cs _) (va_cwU 1 hts gJ5_putStringAt_47b60_J5_inflateIfNeededFor_a7421_u397J4 rfl rfl rfl rfl (by decide +kernel) ⟨Nat.le_of_ble_eq_true rfl, Nat.le_of_ble_eq_true rfl⟩) ⟨hb1, (va_recv hK hP (ci := 8) (q0 := 0) rfl rfl), hp1⟩ rfl rfl hl.1 rfl (lv_room (Nat.le_of_ble_eq_true rfl)) dJ5_putStringAt_47b60_2 ⟨Nat.le_of_ble_eq_true rfl, Nat.le_of_ble_eq_true rfl⟩) (fun H locs hP hD hS hz => ?_)
  have hP : va_P D vwCl [(q, .inr (8, [.ref v, .int 0, .int 0, .int (nI n)])), (v, .inl (cB, 16, .inl f))] _ := hP
  have hD : va_D A [(q, .inr (8, [.ref v, .int 0, .int 0, .int (nI n)])), (v, .inl (cB, 16, .inl f))] := hD
  refine lv_aload_n hx hb dJ5_putStringAt_47b60_5 rfl (lv_at hl 2 rfl) ?_
  refine lv_aload_n hx hb dJ5_putStringAt_47b60_6 rfl (lv_at hl 0 rfl) ?_
  refine va_get (ci := 8) (v := .ref v) (C := RJ4) (T := TJ4) (N := 4) hx hb hts hin_J4 hown hK hP 0 rfl rfl 0 (by decide) fl_15 (fun _ h9 => h9) rfl dJ5_putStringAt_47b60_7 ?_
  refine lv_iload_n hx hb dJ5_putStringAt_47b60_10 rfl (lv_at hl 1 rfl) ?_
  refine lv_aload_n hx hb dJ5_putStringAt_47b60_11 rfl (lv_at hl 0 rfl) ?_
  refine va_get (ci := 8) (v := .int 0) (C := RJ4) (T := TJ4) (N := 4) hx hb hts hin_J4 hown hK hP 0 rfl rfl 1 (by decide) fl_22 (fun _ h9 => h9) rfl dJ5_putStringAt_47b60_12 ?_
  refine jf_u (X := (XQS a (cs.map nI))) (tys := (tyB cI cJ cC cL cB)) (av := [.ref a, .ref v, .int (nI n), .int (0)]) (wc := [(q, .inr (8, [.ref v, .int 0, .int 0, .int (nI n)])), (v, .inl (cB, 16, .inl f))]) (wr := []) (w1 := [(q, .inr (8, [.ref v, .int 0, .int 0, .int (nI n)])), (v, .inl (cB, 16, .inl (va_cpy (fun j => (cs.map nI).getD j 0) f 0 n len)))]) (mc := 0) (ms := 0) KX_XQS hX hK hN hP hD hS hA (fun hb1 hp1 => va_runV (C := RJ0) (As := [.ref v, .int (nI n), .int (0)]) (rest := []) hF (c_J0_getBytes_840e7 l D cI cJ cC cL cB q v n f a cs len hlen hcs hn _) (cwV 3 hts gJ5_putStringAt_47b60_J0_getBytes_840e7 rfl rfl rfl (by decide +kernel) ⟨Nat.le_of_ble_eq_true rfl, Nat.le_of_ble_eq_true rfl⟩) ⟨hb1, str_recv hX.2 hS, hp1⟩ rfl rfl hl.1 rfl (lv_room (Nat.le_of_ble_eq_true rfl)) dJ5_putStringAt_47b60_15 ⟨Nat.le_of_ble_eq_true rfl, Nat.le_of_ble_eq_true rfl⟩) (fun H locs hP hD hS hz => ?_)
  have hP : va_P D vwCl [(q, .inr (8, [.ref v, .int 0, .int 0, .int (nI n)])), (v, .inl (cB, 16, .inl (va_cpy (fun j => (cs.map nI).getD j 0) f 0 n len)))] _ := hP
  have hD : va_D A [(q, .inr (8, [.ref v, .int 0, .int 0, .int (nI n)])), (v, .inl (cB, 16, .inl (va_cpy (fun j => (cs.map nI).getD j 0) f 0 n len)))] := hD
  exact hRet hP hD hS dJ5_putStringAt_47b60_18

abbrev rmJ5_append_cf1ce : Room := { frames := 3, cells := 0, slots := 0, locals := 125 }
set_option maxHeartbeats 8000000 in
set_option maxRecDepth 100000 in
theorem c_J5_append_cf1ce (l : Launch) (D : va_G) (cI cJ cC cL cB : ClassId) (q v n : Nat) (f : Nat → Int32) (a : Nat) (cs : List Nat) (len : Nat) (hlen : cs.length = len) (hcs : ∀ c ∈ cs, 32 ≤ c ∧ c ≤ 126) (hn : n + len < 17) (sz : Nat) : Met l yJ5_append_cf1ce wsJ5_append_cf1ce rmJ5_append_cf1ce (va_Pc [.ref q, .ref a] (jpre (XQS a (cs.map nI)) D (tyB cI cJ cC cL cB) [(q, .inr (8, [.ref v, .int 0, .int 0, .int (nI n)])), (v, .inl (cB, 16, .inl f))] sz)) (va_Qr (fun (_ : Nat → Nat) => True) (fun ad a t => a = (fun ad : Nat → Nat => q) ad ∧ jpost D (tyB cI cJ cC cL cB) (va_A [(q, .inr (8, [.ref v, .int 0, .int 0, .int (nI n)])), (v, .inl (cB, 16, .inl f))] sz) ((fun ad => [(q, .inr (8, [.ref v, .int 0, .int 0, .int (nI (n + len))])), (v, .inl (cB, 16, .inl (va_cpy (fun j => (cs.map nI).getD j 0) f 0 n len)))]) ad) t) (va_A [(q, .inr (8, [.ref v, .int 0, .int 0, .int (nI n)])), (v, .inl (cB, 16, .inl f))] sz)) 0 0 (va_A [(q, .inr (8, [.ref v, .int 0, .int 0, .int (nI n)])), (v, .inl (cB, 16, .inl f))] sz) := by
  refine jE_r (y := yJ5_append_cf1ce) (cc := cJ5_append_cf1ce) (maxL := 3) (own := RJ5) (lv0 := [(0, .ref q), (1, .ref a)]) (X := (XQS a (cs.map nI))) (W0 := [(q, .inr (8, [.ref v, .int 0, .int 0, .int (nI n)])), (v, .inl (cB, 16, .inl f))]) (W1 := (fun ad => [(q, .inr (8, [.ref v, .int 0, .int 0, .int (nI (n + len))])), (v, .inl (cB, 16, .inl (va_cpy (fun j => (cs.map nI).getD j 0) f 0 n len)))])) (ret := (some (.object "java/lang/AbstractStringBuilder"))) (rt := (.object "java/lang/AbstractStringBuilder")) (rr := fun ad => q) (mc := 0) (ms := 0) (by decide) rfl rfl rfl (Or.inl ⟨_, rfl⟩) (Nat.le_of_ble_eq_true rfl) rfl ?_
  intro p e s m args below meth c A Q ls hx hb hml hown hts hK hN hX hA hP hD hS hl hRet
  have hF : CallFix p m c cJ5_append_cf1ce 3 s args wsJ5_append_cf1ce RJ5 := ⟨hx, hb, hml, hown, hts⟩
  have hK4 : va_K D vwCl (tyL cI cJ cC cL) s := hK.sub [0, 1, 2, 3] rfl
  have fl_79 := hts (.fieldLink RJ5 79 "java/lang/AbstractStringBuilder" "count" "I") (by decide +kernel)
  have hin_J4 : ∀ w ∈ u_ws RJ4 TJ4 4, w ∈ wsJ5_append_cf1ce := by decide +kernel
  have hP : va_P D vwCl [(q, .inr (8, [.ref v, .int 0, .int 0, .int (nI n)])), (v, .inl (cB, 16, .inl f))] s.heap := hP
  have hD : va_D A [(q, .inr (8, [.ref v, .int 0, .int 0, .int (nI n)])), (v, .inl (cB, 16, .inl f))] := hD
  refine lv_aload_n hx hb dJ5_append_cf1ce_0 rfl (lv_at hl 1 rfl) ?_
  refine lv_ifnonnull (tgt := 9) hx hb dJ5_append_cf1ce_1 (by decide) ?_
  refine lv_aload_n hx hb dJ5_append_cf1ce_9 rfl (lv_at hl 1 rfl) ?_
  refine jpR_i (C := RJ0) (As := []) (rest := []) hF (c_J0_length_8abf5 l D cI cJ cC cL a (cs.map nI) (nI len) (by rw [← hlen]; exact str_len (by omega)) _) (cwV 0 hts gJ5_append_cf1ce_J0_length_8abf5 rfl rfl rfl (by decide +kernel) ⟨Nat.le_of_ble_eq_true rfl, Nat.le_of_ble_eq_true rfl⟩) rfl hl rfl (Nat.le_of_ble_eq_true rfl) dJ5_append_cf1ce_10 ⟨Nat.zero_le _, Nat.zero_le _⟩ hK4 hN KX_XP (X_at KX_XP (show XP a (cs.map nI) A s s.heap from ⟨hX.1.1, hX.2⟩) hS (fun q h => hA q (Nat.le_trans hS.1 (free0 h)))) hS hA (str_recv hX.2 hS) (fun H locs hS hz hkj => ?_)
  have hP := hP.kept (fun k z h9 => hkj z.1 ((hP k z h9).lt))
  have hP : va_P D vwCl [(q, .inr (8, [.ref v, .int 0, .int 0, .int (nI n)])), (v, .inl (cB, 16, .inl f))] _ := hP
  have hD : va_D A [(q, .inr (8, [.ref v, .int 0, .int 0, .int (nI n)])), (v, .inl (cB, 16, .inl f))] := hD
  refine lv_istore_n (lv' := [(2, .int (nI len)), (0, .ref q), (1, .ref a)]) hx hb dJ5_append_cf1ce_13 rfl hl (by decide) rfl (fun ls hl => ?_)
  refine lv_aload_n hx hb dJ5_append_cf1ce_14 rfl (lv_at hl 1 rfl) ?_
  refine lv_aload_n hx hb dJ5_append_cf1ce_15 rfl (lv_at hl 1 rfl) ?_
  refine va_get (ci := 8) (v := .int (nI n)) (C := RJ4) (T := TJ4) (N := 4) hx hb hts hin_J4 hown hK hP 0 rfl rfl 3 (by decide) fl_79 (fun _ h9 => h9) rfl dJ5_append_cf1ce_16 ?_
  refine lv_iload_n hx hb dJ5_append_cf1ce_19 rfl (lv_at hl 0 rfl) ?_
  refine lv_iadd hx hb dJ5_append_cf1ce_20 ?_
  rw [nI_add]
  refine jf_u (X := XQ) (tys := (tyB cI cJ cC cL cB)) (av := [.ref q, .int (nI (n + len))]) (wc := [(q, .inr (8, [.ref v, .int 0, .int 0, .int (nI n)])), (v, .inl (cB, 16, .inl f))]) (wr := []) (w1 := [(q, .inr (8, [.ref v, .int 0, .int 0, .int (nI n)])), (v, .inl (cB, 16, .inl f))]) (mc := 0) (ms := 0) KX_XQ hX.1 hK hN hP hD hS hA (fun hb1 hp1 => va_runU (C := RJ4) (As := [.int (nI (n + len))]) (rest := []) hF (c_J5_ensureCapacityInternal_d00df l D cI cJ cC cL cB q v n f (n + len) (by omega) _) (va_cwU 1 hts gJ5_append_cf1ce_J5_ensureCapacityInternal_d00df_u100J4 rfl rfl rfl rfl (by decide +kernel) ⟨Nat.le_of_ble_eq_true rfl, Nat.le_of_ble_eq_true rfl⟩) ⟨hb1, (va_recv hK hP (ci := 8) (q0 := 0) rfl rfl), hp1⟩ rfl rfl hl.1 rfl (lv_room (Nat.le_of_ble_eq_true rfl)) dJ5_append_cf1ce_21 ⟨Nat.le_of_ble_eq_true rfl, Nat.le_of_ble_eq_true rfl⟩) (fun H locs hP hD hS hz => ?_)
  have hP : va_P D vwCl [(q, .inr (8, [.ref v, .int 0, .int 0, .int (nI n)])), (v, .inl (cB, 16, .inl f))] _ := hP
  have hD : va_D A [(q, .inr (8, [.ref v, .int 0, .int 0, .int (nI n)])), (v, .inl (cB, 16, .inl f))] := hD
  refine lv_aload_n hx hb dJ5_append_cf1ce_24 rfl (lv_at hl 1 rfl) ?_
  refine lv_aload_n hx hb dJ5_append_cf1ce_25 rfl (lv_at hl 1 rfl) ?_
  refine va_get (ci := 8) (v := .int (nI n)) (C := RJ4) (T := TJ4) (N := 4) hx hb hts hin_J4 hown hK hP 0 rfl rfl 3 (by decide) fl_79 (fun _ h9 => h9) rfl dJ5_append_cf1ce_26 ?_
  refine lv_aload_n hx hb dJ5_append_cf1ce_29 rfl (lv_at hl 2 rfl) ?_
  refine jf_u (X := (XQS a (cs.map nI))) (tys := (tyB cI cJ cC cL cB)) (av := [.ref q, .int (nI n), .ref a]) (wc := [(q, .inr (8, [.ref v, .int 0, .int 0, .int (nI n)])), (v, .inl (cB, 16, .inl f))]) (wr := []) (w1 := [(q, .inr (8, [.ref v, .int 0, .int 0, .int (nI n)])), (v, .inl (cB, 16, .inl (va_cpy (fun j => (cs.map nI).getD j 0) f 0 n len)))]) (mc := 0) (ms := 0) KX_XQS hX hK hN hP hD hS hA (fun hb1 hp1 => va_runU (C := RJ4) (As := [.int (nI n), .ref a]) (rest := []) hF (c_J5_putStringAt_47b60 l D cI cJ cC cL cB q v n f a cs len hlen hcs hn _) (va_cwU 2 hts gJ5_append_cf1ce_J5_putStringAt_47b60_u208J4 rfl rfl rfl rfl (by decide +kernel) ⟨Nat.le_of_ble_eq_true rfl, Nat.le_of_ble_eq_true rfl⟩) ⟨hb1, (va_recv hK hP (ci := 8) (q0 := 0) rfl rfl), hp1⟩ rfl rfl hl.1 rfl (lv_room (Nat.le_of_ble_eq_true rfl)) dJ5_append_cf1ce_30 ⟨Nat.le_of_ble_eq_true rfl, Nat.le_of_ble_eq_true rfl⟩) (fun H locs hP hD hS hz => ?_)
  have hP : va_P D vwCl [(q, .inr (8, [.ref v, .int 0, .int 0, .int (nI n)])), (v, .inl (cB, 16, .inl (va_cpy (fun j => (cs.map nI).getD j 0) f 0 n len)))] _ := hP
  have hD : va_D A [(q, .inr (8, [.ref v, .int 0, .int 0, .int (nI n)])), (v, .inl (cB, 16, .inl (va_cpy (fun j => (cs.map nI).getD j 0) f 0 n len)))] := hD
  refine lv_aload_n hx hb dJ5_append_cf1ce_33 rfl (lv_at hl 1 rfl) ?_
  refine lv_dup hx hb dJ5_append_cf1ce_34 rfl ?_
  refine va_get (ci := 8) (v := .int (nI n)) (C := RJ4) (T := TJ4) (N := 4) hx hb hts hin_J4 hown hK hP 0 rfl rfl 3 (by decide) fl_79 (fun _ h9 => h9) rfl dJ5_append_cf1ce_35 ?_
  refine lv_iload_n hx hb dJ5_append_cf1ce_38 rfl (lv_at hl 0 rfl) ?_
  refine lv_iadd hx hb dJ5_append_cf1ce_39 ?_
  rw [nI_add]
  refine va_put (ci := 8) (v := .int (nI (n + len))) (ty := .int) (C := RJ4) (T := TJ4) (N := 4) hx hb hts hin_J4 tyJ4 tyJ4_ok nmJ4 hown hK hP hD hS 0 rfl rfl 3 (by decide) fl_79 (fun _ h9 => h9) rfl (by decide +kernel) rfl rfl (Nat.le_of_ble_eq_true rfl) dJ5_append_cf1ce_40 (fun H locs hP hD hS => ?_)
  have hP : va_P D vwCl [(q, .inr (8, [.ref v, .int 0, .int 0, .int (nI (n + len))])), (v, .inl (cB, 16, .inl (va_cpy (fun j => (cs.map nI).getD j 0) f 0 n len)))] _ := hP
  have hD : va_D A [(q, .inr (8, [.ref v, .int 0, .int 0, .int (nI (n + len))])), (v, .inl (cB, 16, .inl (va_cpy (fun j => (cs.map nI).getD j 0) f 0 n len)))] := hD
  refine lv_aload_n hx hb dJ5_append_cf1ce_43 rfl (lv_at hl 1 rfl) ?_
  exact hRet (fun _ => 0) hP hD hS dJ5_append_cf1ce_44

abbrev rmJ4_append_15ec4 : Room := { frames := 4, cells := 0, slots := 0, locals := 147 }
set_option maxHeartbeats 8000000 in
set_option maxRecDepth 100000 in
theorem c_J4_append_15ec4 (l : Launch) (D : va_G) (cI cJ cC cL cB : ClassId) (q v n : Nat) (f : Nat → Int32) (a : Nat) (cs : List Nat) (len : Nat) (hlen : cs.length = len) (hcs : ∀ c ∈ cs, 32 ≤ c ∧ c ≤ 126) (hn : n + len < 17) (sz : Nat) : Met l yJ4_append_15ec4 wsJ4_append_15ec4 rmJ4_append_15ec4 (va_Pc [.ref q, .ref a] (jpre (XQS a (cs.map nI)) D (tyB cI cJ cC cL cB) [(q, .inr (8, [.ref v, .int 0, .int 0, .int (nI n)])), (v, .inl (cB, 16, .inl f))] sz)) (va_Qr (fun (_ : Nat → Nat) => True) (fun ad a t => a = (fun ad : Nat → Nat => q) ad ∧ jpost D (tyB cI cJ cC cL cB) (va_A [(q, .inr (8, [.ref v, .int 0, .int 0, .int (nI n)])), (v, .inl (cB, 16, .inl f))] sz) ((fun ad => [(q, .inr (8, [.ref v, .int 0, .int 0, .int (nI (n + len))])), (v, .inl (cB, 16, .inl (va_cpy (fun j => (cs.map nI).getD j 0) f 0 n len)))]) ad) t) (va_A [(q, .inr (8, [.ref v, .int 0, .int 0, .int (nI n)])), (v, .inl (cB, 16, .inl f))] sz)) 0 0 (va_A [(q, .inr (8, [.ref v, .int 0, .int 0, .int (nI n)])), (v, .inl (cB, 16, .inl f))] sz) := by
  refine jE_r (y := yJ4_append_15ec4) (cc := cJ4_append_15ec4) (maxL := 2) (own := RJ4) (lv0 := [(0, .ref q), (1, .ref a)]) (X := (XQS a (cs.map nI))) (W0 := [(q, .inr (8, [.ref v, .int 0, .int 0, .int (nI n)])), (v, .inl (cB, 16, .inl f))]) (W1 := (fun ad => [(q, .inr (8, [.ref v, .int 0, .int 0, .int (nI (n + len))])), (v, .inl (cB, 16, .inl (va_cpy (fun j => (cs.map nI).getD j 0) f 0 n len)))])) (ret := (some (.object "java/lang/StringBuilder"))) (rt := (.object "java/lang/StringBuilder")) (rr := fun ad => q) (mc := 0) (ms := 0) (by decide) rfl rfl rfl (Or.inl ⟨_, rfl⟩) (Nat.le_of_ble_eq_true rfl) rfl ?_
  intro p e s m args below meth c A Q ls hx hb hml hown hts hK hN hX hA hP hD hS hl hRet
  have hF : CallFix p m c cJ4_append_15ec4 2 s args wsJ4_append_15ec4 RJ4 := ⟨hx, hb, hml, hown, hts⟩
  have hK4 : va_K D vwCl (tyL cI cJ cC cL) s := hK.sub [0, 1, 2, 3] rfl
  have hP : va_P D vwCl [(q, .inr (8, [.ref v, .int 0, .int 0, .int (nI n)])), (v, .inl (cB, 16, .inl f))] s.heap := hP
  have hD : va_D A [(q, .inr (8, [.ref v, .int 0, .int 0, .int (nI n)])), (v, .inl (cB, 16, .inl f))] := hD
  refine lv_aload_n hx hb dJ4_append_15ec4_0 rfl (lv_at hl 0 rfl) ?_
  refine lv_aload_n hx hb dJ4_append_15ec4_1 rfl (lv_at hl 1 rfl) ?_
  refine jf_r (X := (XQS a (cs.map nI))) (tys := (tyB cI cJ cC cL cB)) (av := [.ref q, .ref a]) (wc := [(q, .inr (8, [.ref v, .int 0, .int 0, .int (nI n)])), (v, .inl (cB, 16, .inl f))]) (wr := []) (w1 := (fun ad2 => [(q, .inr (8, [.ref v, .int 0, .int 0, .int (nI (n + len))])), (v, .inl (cB, 16, .inl (va_cpy (fun j => (cs.map nI).getD j 0) f 0 n len)))])) (rr := fun ad2 => q) (mc := 0) (ms := 0) KX_XQS hX hK hN hP hD hS hA (fun hb1 hp1 => va_runSU (C := RJ4) (As := [.ref a]) (rest := []) (hK.1 8 _ rfl).2 hF (c_J5_append_cf1ce l D cI cJ cC cL cB q v n f a cs len hlen hcs hn _) (va_cwSU 1 hts gJ4_append_15ec4_J5_append_cf1ce_s29 rfl rfl rfl (by decide +kernel) ⟨Nat.le_of_ble_eq_true rfl, Nat.le_of_ble_eq_true rfl⟩) ⟨hb1, (va_recv hK hP (ci := 8) (q0 := 0) rfl rfl), hp1⟩ rfl rfl hl.1 rfl (lv_room (Nat.le_of_ble_eq_true rfl)) dJ4_append_15ec4_2 ⟨Nat.le_of_ble_eq_true rfl, Nat.le_of_ble_eq_true rfl⟩) (fun ad2 H locs hP hD hS hz => ?_)
  have hP : va_P D vwCl [(q, .inr (8, [.ref v, .int 0, .int 0, .int (nI (n + len))])), (v, .inl (cB, 16, .inl (va_cpy (fun j => (cs.map nI).getD j 0) f 0 n len)))] _ := hP
  have hD : va_D A [(q, .inr (8, [.ref v, .int 0, .int 0, .int (nI (n + len))])), (v, .inl (cB, 16, .inl (va_cpy (fun j => (cs.map nI).getD j 0) f 0 n len)))] := hD
  refine lv_pop hx hb dJ4_append_15ec4_5 rfl ?_
  refine lv_aload_n hx hb dJ4_append_15ec4_6 rfl (lv_at hl 0 rfl) ?_
  exact hRet (fun _ => 0) hP hD hS dJ4_append_15ec4_7

abbrev rmJ6_getChars_ba4f3 : Room := { frames := 0, cells := 0, slots := 0, locals := 0 }
set_option maxHeartbeats 8000000 in
set_option maxRecDepth 100000 in
theorem c_J6_getChars_ba4f3 (l : Launch) (D : va_G) (cI cJ cC cL cB : ClassId) (q v n : Nat) (f : Nat → Int32) (k : Nat) (hk : k < 100) (m0 : Nat) (hm : dgl k ≤ m0) (hm2 : m0 < 17) (sz : Nat) : Met l yJ6_getChars_ba4f3 wsJ6_getChars_ba4f3 rmJ6_getChars_ba4f3 (va_Pc [.int (nI k), .int (nI m0), .ref v] (jpre XQ D (tyB cI cJ cC cL cB) [(q, .inr (8, [.ref v, .int 0, .int 0, .int (nI n)])), (v, .inl (cB, 16, .inl f))] sz)) (va_Qi (fun r' (_ : Unit) => r' = nI (m0 - dgl k)) (fun _ t => jpost D (tyB cI cJ cC cL cB) (va_A [(q, .inr (8, [.ref v, .int 0, .int 0, .int (nI n)])), (v, .inl (cB, 16, .inl f))] sz) [(q, .inr (8, [.ref v, .int 0, .int 0, .int (nI n)])), (v, .inl (cB, 16, .inl (dgf f m0 k)))] t) (va_A [(q, .inr (8, [.ref v, .int 0, .int 0, .int (nI n)])), (v, .inl (cB, 16, .inl f))] sz)) 0 0 (va_A [(q, .inr (8, [.ref v, .int 0, .int 0, .int (nI n)])), (v, .inl (cB, 16, .inl f))] sz) := by
  refine jE_i (y := yJ6_getChars_ba4f3) (cc := cJ6_getChars_ba4f3) (maxL := 7) (own := RJ6) (lv0 := [(0, .int (nI k)), (1, .int (nI m0)), (2, .ref v)]) (X := XQ) (W0 := [(q, .inr (8, [.ref v, .int 0, .int 0, .int (nI n)])), (v, .inl (cB, 16, .inl f))]) (W1 := [(q, .inr (8, [.ref v, .int 0, .int 0, .int (nI n)])), (v, .inl (cB, 16, .inl (dgf f m0 k)))]) (ret := (some .int)) (r := nI (m0 - dgl k)) (by decide) rfl rfl rfl (Nat.le_of_ble_eq_true rfl) rfl ?_
  intro p e s m args below meth c A Q ls hx hb hml hown hts hK hN hX hA hP hD hS hl hRet
  have hF : CallFix p m c cJ6_getChars_ba4f3 7 s args wsJ6_getChars_ba4f3 RJ6 := ⟨hx, hb, hml, hown, hts⟩
  have hK4 : va_K D vwCl (tyL cI cJ cC cL) s := hK.sub [0, 1, 2, 3] rfl
  have fl_83 := hts (.fieldLink RJ6 83 "java/lang/Integer" "DigitOnes" "[B") (by decide +kernel)
  have fl_87 := hts (.fieldLink RJ6 87 "java/lang/Integer" "DigitTens" "[B") (by decide +kernel)
  have hP : va_P D vwCl [(q, .inr (8, [.ref v, .int 0, .int 0, .int (nI n)])), (v, .inl (cB, 16, .inl f))] s.heap := hP
  have hD : va_D A [(q, .inr (8, [.ref v, .int 0, .int 0, .int (nI n)])), (v, .inl (cB, 16, .inl f))] := hD
  obtain ⟨t1, t2, hT1, hT2⟩ := hX.2.1
  have hd := dgl_le k
  refine lv_iload_n hx hb dJ6_getChars_ba4f3_0 rfl (lv_at hl 1 rfl) ?_
  refine lv_istore (lv' := [(5, .int (nI m0)), (0, .int (nI k)), (1, .int (nI m0)), (2, .ref v)]) hx hb dJ6_getChars_ba4f3_1 hl (by decide) rfl (fun ls hl => ?_)
  refine lv_iload_n hx hb dJ6_getChars_ba4f3_3 rfl (lv_at hl 1 rfl) ?_
  refine lv_if_ge (tgt := 11) hx hb dJ6_getChars_ba4f3_4 (by decide) (fun _ => ?_) (fun hq => absurd (nI_pos' (by omega)) hq)
  refine lv_iconst (v := nI 0) hx hb dJ6_getChars_ba4f3_11 (by decide) ?_
  refine lv_istore (lv' := [(6, .int (nI 0)), (5, .int (nI m0)), (0, .int (nI k)), (1, .int (nI m0)), (2, .ref v)]) hx hb dJ6_getChars_ba4f3_12 hl (by decide) rfl (fun ls hl => ?_)
  refine lv_iload hx hb dJ6_getChars_ba4f3_14 (lv_at hl 0 rfl) ?_
  refine lv_if_ne (tgt := 22) hx hb dJ6_getChars_ba4f3_16 (by decide) (fun hq => absurd rfl hq) (fun _ => ?_)
  refine lv_iload_n hx hb dJ6_getChars_ba4f3_19 rfl (lv_at hl 2 rfl) ?_
  refine lv_ineg hx hb dJ6_getChars_ba4f3_20 ?_
  refine lv_istore_n (lv' := [(0, .int (-(nI k))), (6, .int (nI 0)), (5, .int (nI m0)), (1, .int (nI m0)), (2, .ref v)]) hx hb dJ6_getChars_ba4f3_21 rfl hl (by decide) rfl (fun ls hl => ?_)
  refine lv_iload_n hx hb dJ6_getChars_ba4f3_22 rfl (lv_at hl 0 rfl) ?_
  refine lv_bipush (v := -nI 100) hx hb dJ6_getChars_ba4f3_23 (by decide) ?_
  refine lv_icmp_gt (tgt := 72) hx hb dJ6_getChars_ba4f3_25 (by decide) (fun _ => ?_) (fun hq => absurd (bq_100 k hk) hq)
  refine lv_aload_n hx hb dJ6_getChars_ba4f3_72 rfl (lv_at hl 4 rfl) ?_
  refine lv_iinc (v := nI (m0 - 1)) (lv' := [(5, .int (nI (m0 - 1))), (0, .int (-(nI k))), (6, .int (nI 0)), (1, .int (nI m0)), (2, .ref v)]) hx hb dJ6_getChars_ba4f3_73 hl (k := 2) rfl (bq_dec (by omega)) (by decide) rfl (fun ls hl => ?_)
  refine lv_iload hx hb dJ6_getChars_ba4f3_76 (lv_at hl 0 rfl) ?_
  refine va_gets (v := .ref t1) hx hb hT1.1 hS hown fl_83 (fun _ h9 => h9) dJ6_getChars_ba4f3_78 ?_
  refine lv_iload_n hx hb dJ6_getChars_ba4f3_81 rfl (lv_at hl 1 rfl) ?_
  refine lv_ineg hx hb dJ6_getChars_ba4f3_82 ?_
  rw [bq_neg2]
  refine va_tb (v := .int (nI (48 + k % 10))) hx hb hT1.2 hS (nI_in (by omega) (by omega)) (by rw [nI_clamp (by omega)]) dJ6_getChars_ba4f3_83 ?_
  refine va_bast hx hb hK hP hD hS 1 4 rfl rfl (nI_in (by omega) (by omega)) dJ6_getChars_ba4f3_84 (fun H locs hP hD hS => ?_)
  rw [nI_clamp (by omega), bq_nar _ (by omega)] at hP hD
  have hP : va_P D vwCl [(q, .inr (8, [.ref v, .int 0, .int 0, .int (nI n)])), (v, .inl (cB, 16, .inl (upd f (m0 - 1) (nI (48 + k % 10)))))] _ := hP
  have hD : va_D A [(q, .inr (8, [.ref v, .int 0, .int 0, .int (nI n)])), (v, .inl (cB, 16, .inl (upd f (m0 - 1) (nI (48 + k % 10)))))] := hD
  refine lv_iload_n hx hb dJ6_getChars_ba4f3_85 rfl (lv_at hl 1 rfl) ?_
  refine lv_bipush (v := -nI 9) hx hb dJ6_getChars_ba4f3_86 (by decide) ?_
  refine lv_icmp_ge (tgt := 104) hx hb dJ6_getChars_ba4f3_88 (by decide) (fun hc => ?_) (fun hc => ?_)
  · have hk9 : k ≤ 9 := Nat.not_lt.mp (fun h9 => bq_9f k hk h9 hc)
    refine lv_iload hx hb dJ6_getChars_ba4f3_104 (lv_at hl 2 rfl) ?_
    refine lv_if_eq (tgt := 118) hx hb dJ6_getChars_ba4f3_106 (by decide) (fun _ => ?_) (fun hq => absurd rfl hq)
    refine lv_iload hx hb dJ6_getChars_ba4f3_118 (lv_at hl 0 rfl) ?_
    have e1 : dgf f m0 k = (upd f (m0 - 1) (nI (48 + k % 10))) := if_pos hk9
    have e2 : dgl k = 1 := if_pos hk9
    exact hRet (by rw [e1]; exact hP) (by rw [e1]; exact hD) hS (by rw [e2]) dJ6_getChars_ba4f3_120
  · have hk9 : 9 < k := Nat.not_le.mp (fun h9 => hc (bq_9t k (by omega)))
    have hm3 : dgl k = 2 := if_neg (Nat.not_le.mpr hk9)
    rw [hm3] at hm
    refine lv_aload_n hx hb dJ6_getChars_ba4f3_91 rfl (lv_at hl 4 rfl) ?_
    refine lv_iinc (v := nI (m0 - 2)) (lv' := [(5, .int (nI (m0 - 2))), (0, .int (-(nI k))), (6, .int (nI 0)), (1, .int (nI m0)), (2, .ref v)]) hx hb dJ6_getChars_ba4f3_92 hl (k := 0) rfl (by rw [bq_dec (show 0 < m0 - 1 by omega)]; rfl) (by decide) rfl (fun ls hl => ?_)
    refine lv_iload hx hb dJ6_getChars_ba4f3_95 (lv_at hl 0 rfl) ?_
    refine va_gets (v := .ref t2) hx hb hT2.1 hS hown fl_87 (fun _ h9 => h9) dJ6_getChars_ba4f3_97 ?_
    refine lv_iload_n hx hb dJ6_getChars_ba4f3_100 rfl (lv_at hl 1 rfl) ?_
    refine lv_ineg hx hb dJ6_getChars_ba4f3_101 ?_
    rw [bq_neg2]
    refine va_tb (v := .int (nI (48 + k / 10))) hx hb hT2.2 hS (nI_in (by omega) (by omega)) (by rw [nI_clamp (by omega)]) dJ6_getChars_ba4f3_102 ?_
    refine va_bast hx hb hK hP hD hS 1 4 rfl rfl (nI_in (by omega) (by omega)) dJ6_getChars_ba4f3_103 (fun H locs hP hD hS => ?_)
    rw [nI_clamp (by omega), bq_nar _ (by omega)] at hP hD
    have hP : va_P D vwCl [(q, .inr (8, [.ref v, .int 0, .int 0, .int (nI n)])), (v, .inl (cB, 16, .inl (upd (upd f (m0 - 1) (nI (48 + k % 10))) (m0 - 2) (nI (48 + k / 10)))))] _ := hP
    have hD : va_D A [(q, .inr (8, [.ref v, .int 0, .int 0, .int (nI n)])), (v, .inl (cB, 16, .inl (upd (upd f (m0 - 1) (nI (48 + k % 10))) (m0 - 2) (nI (48 + k / 10)))))] := hD
    refine lv_iload hx hb dJ6_getChars_ba4f3_104 (lv_at hl 2 rfl) ?_
    refine lv_if_eq (tgt := 118) hx hb dJ6_getChars_ba4f3_106 (by decide) (fun _ => ?_) (fun hq => absurd rfl hq)
    refine lv_iload hx hb dJ6_getChars_ba4f3_118 (lv_at hl 0 rfl) ?_
    have e1 : dgf f m0 k = (upd (upd f (m0 - 1) (nI (48 + k % 10))) (m0 - 2) (nI (48 + k / 10))) := if_neg (Nat.not_le.mpr hk9)
    exact hRet (by rw [e1]; exact hP) (by rw [e1]; exact hD) hS (by rw [hm3]) dJ6_getChars_ba4f3_120

abbrev rmJ5_append_c97b9 : Room := { frames := 1, cells := 0, slots := 0, locals := 26 }
set_option maxHeartbeats 8000000 in
set_option maxRecDepth 100000 in
theorem c_J5_append_c97b9 (l : Launch) (D : va_G) (cI cJ cC cL cB : ClassId) (q v n : Nat) (f : Nat → Int32) (k : Nat) (hk : k < 100) (hn : n + dgl k < 17) (sz : Nat) : Met l yJ5_append_c97b9 wsJ5_append_c97b9 rmJ5_append_c97b9 (va_Pc [.ref q, .int (nI k)] (jpre XQ D (tyB cI cJ cC cL cB) [(q, .inr (8, [.ref v, .int 0, .int 0, .int (nI n)])), (v, .inl (cB, 16, .inl f))] sz)) (va_Qr (fun (_ : Nat → Nat) => True) (fun ad a t => a = (fun ad : Nat → Nat => q) ad ∧ jpost D (tyB cI cJ cC cL cB) (va_A [(q, .inr (8, [.ref v, .int 0, .int 0, .int (nI n)])), (v, .inl (cB, 16, .inl f))] sz) ((fun ad => [(q, .inr (8, [.ref v, .int 0, .int 0, .int (nI (n + dgl k))])), (v, .inl (cB, 16, .inl (dgf f (n + dgl k) k)))]) ad) t) (va_A [(q, .inr (8, [.ref v, .int 0, .int 0, .int (nI n)])), (v, .inl (cB, 16, .inl f))] sz)) 0 0 (va_A [(q, .inr (8, [.ref v, .int 0, .int 0, .int (nI n)])), (v, .inl (cB, 16, .inl f))] sz) := by
  refine jE_r (y := yJ5_append_c97b9) (cc := cJ5_append_c97b9) (maxL := 4) (own := RJ5) (lv0 := [(0, .ref q), (1, .int (nI k))]) (X := XQ) (W0 := [(q, .inr (8, [.ref v, .int 0, .int 0, .int (nI n)])), (v, .inl (cB, 16, .inl f))]) (W1 := (fun ad => [(q, .inr (8, [.ref v, .int 0, .int 0, .int (nI (n + dgl k))])), (v, .inl (cB, 16, .inl (dgf f (n + dgl k) k)))])) (ret := (some (.object "java/lang/AbstractStringBuilder"))) (rt := (.object "java/lang/AbstractStringBuilder")) (rr := fun ad => q) (mc := 0) (ms := 0) (by decide) rfl rfl rfl (Or.inl ⟨_, rfl⟩) (Nat.le_of_ble_eq_true rfl) rfl ?_
  intro p e s m args below meth c A Q ls hx hb hml hown hts hK hN hX hA hP hD hS hl hRet
  have hF : CallFix p m c cJ5_append_c97b9 4 s args wsJ5_append_c97b9 RJ5 := ⟨hx, hb, hml, hown, hts⟩
  have hK4 : va_K D vwCl (tyL cI cJ cC cL) s := hK.sub [0, 1, 2, 3] rfl
  have fl_15 := hts (.fieldLink RJ5 15 "java/lang/AbstractStringBuilder" "value" "[B") (by decide +kernel)
  have fl_79 := hts (.fieldLink RJ5 79 "java/lang/AbstractStringBuilder" "count" "I") (by decide +kernel)
  have hin_J4 : ∀ w ∈ u_ws RJ4 TJ4 4, w ∈ wsJ5_append_c97b9 := by decide +kernel
  have hP : va_P D vwCl [(q, .inr (8, [.ref v, .int 0, .int 0, .int (nI n)])), (v, .inl (cB, 16, .inl f))] s.heap := hP
  have hD : va_D A [(q, .inr (8, [.ref v, .int 0, .int 0, .int (nI n)])), (v, .inl (cB, 16, .inl f))] := hD
  have hd := dgl_le k
  refine lv_aload_n hx hb dJ5_append_c97b9_0 rfl (lv_at hl 0 rfl) ?_
  refine va_get (ci := 8) (v := .int (nI n)) (C := RJ4) (T := TJ4) (N := 4) hx hb hts hin_J4 hown hK hP 0 rfl rfl 3 (by decide) fl_79 (fun _ h9 => h9) rfl dJ5_append_c97b9_1 ?_
  refine lv_istore_n (lv' := [(2, .int (nI n)), (0, .ref q), (1, .int (nI k))]) hx hb dJ5_append_c97b9_4 rfl hl (by decide) rfl (fun ls hl => ?_)
  refine lv_iload_n hx hb dJ5_append_c97b9_5 rfl (lv_at hl 0 rfl) ?_
  refine lv_iload_n hx hb dJ5_append_c97b9_6 rfl (lv_at hl 2 rfl) ?_
  refine jpS_i (X := XT) (As := [.int (nI k)]) (rest := [.int (nI n)]) hF (c_J6_stringSize_0f7a4 l D cI cJ cC cL (nI k) (nI (dgl k)) (bq_size k hk) _) (va_cwS 1 hts gJ5_append_c97b9_J6_stringSize_0f7a4 rfl rfl rfl (by decide +kernel) ⟨Nat.le_of_ble_eq_true rfl, Nat.le_of_ble_eq_true rfl⟩) rfl hl rfl (Nat.le_of_ble_eq_true rfl) dJ5_append_c97b9_7 ⟨Nat.zero_le _, Nat.zero_le _⟩ hK4 hN KX_T (fun _ _ => trivial) hS hA (fun H locs hS hz hkj => ?_)
  have hP := hP.kept (fun k z h9 => hkj z.1 ((hP k z h9).lt))
  have hP : va_P D vwCl [(q, .inr (8, [.ref v, .int 0, .int 0, .int (nI n)])), (v, .inl (cB, 16, .inl f))] _ := hP
  have hD : va_D A [(q, .inr (8, [.ref v, .int 0, .int 0, .int (nI n)])), (v, .inl (cB, 16, .inl f))] := hD
  refine lv_iadd hx hb dJ5_append_c97b9_10 ?_
  rw [nI_add]
  refine lv_istore_n (lv' := [(3, .int (nI (n + dgl k))), (2, .int (nI n)), (0, .ref q), (1, .int (nI k))]) hx hb dJ5_append_c97b9_11 rfl hl (by decide) rfl (fun ls hl => ?_)
  refine lv_aload_n hx hb dJ5_append_c97b9_12 rfl (lv_at hl 2 rfl) ?_
  refine lv_iload_n hx hb dJ5_append_c97b9_13 rfl (lv_at hl 0 rfl) ?_
  refine jf_u (X := XQ) (tys := (tyB cI cJ cC cL cB)) (av := [.ref q, .int (nI (n + dgl k))]) (wc := [(q, .inr (8, [.ref v, .int 0, .int 0, .int (nI n)])), (v, .inl (cB, 16, .inl f))]) (wr := []) (w1 := [(q, .inr (8, [.ref v, .int 0, .int 0, .int (nI n)])), (v, .inl (cB, 16, .inl f))]) (mc := 0) (ms := 0) KX_XQ hX hK hN hP hD hS hA (fun hb1 hp1 => va_runU (C := RJ4) (As := [.int (nI (n + dgl k))]) (rest := []) hF (c_J5_ensureCapacityInternal_d00df l D cI cJ cC cL cB q v n f (n + dgl k) (by omega) _) (va_cwU 1 hts gJ5_append_c97b9_J5_ensureCapacityInternal_d00df_u100J4 rfl rfl rfl rfl (by decide +kernel) ⟨Nat.le_of_ble_eq_true rfl, Nat.le_of_ble_eq_true rfl⟩) ⟨hb1, (va_recv hK hP (ci := 8) (q0 := 0) rfl rfl), hp1⟩ rfl rfl hl.1 rfl (lv_room (Nat.le_of_ble_eq_true rfl)) dJ5_append_c97b9_14 ⟨Nat.le_of_ble_eq_true rfl, Nat.le_of_ble_eq_true rfl⟩) (fun H locs hP hD hS hz => ?_)
  have hP : va_P D vwCl [(q, .inr (8, [.ref v, .int 0, .int 0, .int (nI n)])), (v, .inl (cB, 16, .inl f))] _ := hP
  have hD : va_D A [(q, .inr (8, [.ref v, .int 0, .int 0, .int (nI n)])), (v, .inl (cB, 16, .inl f))] := hD
  refine lv_aload_n hx hb dJ5_append_c97b9_17 rfl (lv_at hl 2 rfl) ?_
  refine jf_i (X := XQ) (tys := (tyB cI cJ cC cL cB)) (av := [.ref q]) (wc := [(q, .inr (8, [.ref v, .int 0, .int 0, .int (nI n)])), (v, .inl (cB, 16, .inl f))]) (wr := []) (w1 := [(q, .inr (8, [.ref v, .int 0, .int 0, .int (nI n)])), (v, .inl (cB, 16, .inl f))]) (r := nI 1) (mc := 0) (ms := 0) KX_XQ hX hK hN hP hD hS hA (fun hb1 hp1 => va_runU (C := RJ4) (As := []) (rest := []) hF (c_J5_isLatin1_aae02 l D cI cJ cC cL cB q v n f _) (va_cwU 0 hts gJ5_append_c97b9_J5_isLatin1_aae02_u83J4 rfl rfl rfl rfl (by decide +kernel) ⟨Nat.le_of_ble_eq_true rfl, Nat.le_of_ble_eq_true rfl⟩) ⟨hb1, (va_recv hK hP (ci := 8) (q0 := 0) rfl rfl), hp1⟩ rfl rfl hl.1 rfl (lv_room (Nat.le_of_ble_eq_true rfl)) dJ5_append_c97b9_18 ⟨Nat.le_of_ble_eq_true rfl, Nat.le_of_ble_eq_true rfl⟩) (fun H locs hP hD hS hz => ?_)
  have hP : va_P D vwCl [(q, .inr (8, [.ref v, .int 0, .int 0, .int (nI n)])), (v, .inl (cB, 16, .inl f))] _ := hP
  have hD : va_D A [(q, .inr (8, [.ref v, .int 0, .int 0, .int (nI n)])), (v, .inl (cB, 16, .inl f))] := hD
  refine lv_if_eq (tgt := 37) hx hb dJ5_append_c97b9_21 (by decide) (fun hq => absurd hq (by decide)) (fun _ => ?_)
  refine lv_iload_n hx hb dJ5_append_c97b9_24 rfl (lv_at hl 3 rfl) ?_
  refine lv_iload_n hx hb dJ5_append_c97b9_25 rfl (lv_at hl 0 rfl) ?_
  refine lv_aload_n hx hb dJ5_append_c97b9_26 rfl (lv_at hl 2 rfl) ?_
  refine va_get (ci := 8) (v := .ref v) (C := RJ4) (T := TJ4) (N := 4) hx hb hts hin_J4 hown hK hP 0 rfl rfl 0 (by decide) fl_15 (fun _ h9 => h9) rfl dJ5_append_c97b9_27 ?_
  refine jf_i (X := XQ) (tys := (tyB cI cJ cC cL cB)) (av := [.int (nI k), .int (nI (n + dgl k)), .ref v]) (wc := [(q, .inr (8, [.ref v, .int 0, .int 0, .int (nI n)])), (v, .inl (cB, 16, .inl f))]) (wr := []) (w1 := [(q, .inr (8, [.ref v, .int 0, .int 0, .int (nI n)])), (v, .inl (cB, 16, .inl (dgf f (n + dgl k) k)))]) (r := nI (n + dgl k - dgl k)) (mc := 0) (ms := 0) KX_XQ hX hK hN hP hD hS hA (fun hb1 hp1 => va_runS (As := [.int (nI k), .int (nI (n + dgl k)), .ref v]) (rest := []) hF (c_J6_getChars_ba4f3 l D cI cJ cC cL cB q v n f k hk (n + dgl k) (Nat.le_add_left _ _) (by omega) _) (va_cwS 3 hts gJ5_append_c97b9_J6_getChars_ba4f3 rfl rfl rfl (by decide +kernel) ⟨Nat.le_of_ble_eq_true rfl, Nat.le_of_ble_eq_true rfl⟩) ⟨hb1, hp1⟩ rfl rfl hl.1 rfl (lv_room (Nat.le_of_ble_eq_true rfl)) dJ5_append_c97b9_30 ⟨Nat.le_of_ble_eq_true rfl, Nat.le_of_ble_eq_true rfl⟩) (fun H locs hP hD hS hz => ?_)
  have hP : va_P D vwCl [(q, .inr (8, [.ref v, .int 0, .int 0, .int (nI n)])), (v, .inl (cB, 16, .inl (dgf f (n + dgl k) k)))] _ := hP
  have hD : va_D A [(q, .inr (8, [.ref v, .int 0, .int 0, .int (nI n)])), (v, .inl (cB, 16, .inl (dgf f (n + dgl k) k)))] := hD
  refine lv_pop hx hb dJ5_append_c97b9_33 rfl ?_
  refine lv_goto (tgt := 48) hx hb dJ5_append_c97b9_34 (by decide) ?_
  refine lv_aload_n hx hb dJ5_append_c97b9_48 rfl (lv_at hl 2 rfl) ?_
  refine lv_iload_n hx hb dJ5_append_c97b9_49 rfl (lv_at hl 0 rfl) ?_
  refine va_put (ci := 8) (v := .int (nI (n + dgl k))) (ty := .int) (C := RJ4) (T := TJ4) (N := 4) hx hb hts hin_J4 tyJ4 tyJ4_ok nmJ4 hown hK hP hD hS 0 rfl rfl 3 (by decide) fl_79 (fun _ h9 => h9) rfl (by decide +kernel) rfl rfl (Nat.le_of_ble_eq_true rfl) dJ5_append_c97b9_50 (fun H locs hP hD hS => ?_)
  have hP : va_P D vwCl [(q, .inr (8, [.ref v, .int 0, .int 0, .int (nI (n + dgl k))])), (v, .inl (cB, 16, .inl (dgf f (n + dgl k) k)))] _ := hP
  have hD : va_D A [(q, .inr (8, [.ref v, .int 0, .int 0, .int (nI (n + dgl k))])), (v, .inl (cB, 16, .inl (dgf f (n + dgl k) k)))] := hD
  refine lv_aload_n hx hb dJ5_append_c97b9_53 rfl (lv_at hl 2 rfl) ?_
  exact hRet (fun _ => 0) hP hD hS dJ5_append_c97b9_54

abbrev rmJ4_append_bf812 : Room := { frames := 2, cells := 0, slots := 0, locals := 49 }
set_option maxHeartbeats 8000000 in
set_option maxRecDepth 100000 in
theorem c_J4_append_bf812 (l : Launch) (D : va_G) (cI cJ cC cL cB : ClassId) (q v n : Nat) (f : Nat → Int32) (k : Nat) (hk : k < 100) (hn : n + dgl k < 17) (sz : Nat) : Met l yJ4_append_bf812 wsJ4_append_bf812 rmJ4_append_bf812 (va_Pc [.ref q, .int (nI k)] (jpre XQ D (tyB cI cJ cC cL cB) [(q, .inr (8, [.ref v, .int 0, .int 0, .int (nI n)])), (v, .inl (cB, 16, .inl f))] sz)) (va_Qr (fun (_ : Nat → Nat) => True) (fun ad a t => a = (fun ad : Nat → Nat => q) ad ∧ jpost D (tyB cI cJ cC cL cB) (va_A [(q, .inr (8, [.ref v, .int 0, .int 0, .int (nI n)])), (v, .inl (cB, 16, .inl f))] sz) ((fun ad => [(q, .inr (8, [.ref v, .int 0, .int 0, .int (nI (n + dgl k))])), (v, .inl (cB, 16, .inl (dgf f (n + dgl k) k)))]) ad) t) (va_A [(q, .inr (8, [.ref v, .int 0, .int 0, .int (nI n)])), (v, .inl (cB, 16, .inl f))] sz)) 0 0 (va_A [(q, .inr (8, [.ref v, .int 0, .int 0, .int (nI n)])), (v, .inl (cB, 16, .inl f))] sz) := by
  refine jE_r (y := yJ4_append_bf812) (cc := cJ4_append_bf812) (maxL := 2) (own := RJ4) (lv0 := [(0, .ref q), (1, .int (nI k))]) (X := XQ) (W0 := [(q, .inr (8, [.ref v, .int 0, .int 0, .int (nI n)])), (v, .inl (cB, 16, .inl f))]) (W1 := (fun ad => [(q, .inr (8, [.ref v, .int 0, .int 0, .int (nI (n + dgl k))])), (v, .inl (cB, 16, .inl (dgf f (n + dgl k) k)))])) (ret := (some (.object "java/lang/StringBuilder"))) (rt := (.object "java/lang/StringBuilder")) (rr := fun ad => q) (mc := 0) (ms := 0) (by decide) rfl rfl rfl (Or.inl ⟨_, rfl⟩) (Nat.le_of_ble_eq_true rfl) rfl ?_
  intro p e s m args below meth c A Q ls hx hb hml hown hts hK hN hX hA hP hD hS hl hRet
  have hF : CallFix p m c cJ4_append_bf812 2 s args wsJ4_append_bf812 RJ4 := ⟨hx, hb, hml, hown, hts⟩
  have hK4 : va_K D vwCl (tyL cI cJ cC cL) s := hK.sub [0, 1, 2, 3] rfl
  have hP : va_P D vwCl [(q, .inr (8, [.ref v, .int 0, .int 0, .int (nI n)])), (v, .inl (cB, 16, .inl f))] s.heap := hP
  have hD : va_D A [(q, .inr (8, [.ref v, .int 0, .int 0, .int (nI n)])), (v, .inl (cB, 16, .inl f))] := hD
  refine lv_aload_n hx hb dJ4_append_bf812_0 rfl (lv_at hl 0 rfl) ?_
  refine lv_iload_n hx hb dJ4_append_bf812_1 rfl (lv_at hl 1 rfl) ?_
  refine jf_r (X := XQ) (tys := (tyB cI cJ cC cL cB)) (av := [.ref q, .int (nI k)]) (wc := [(q, .inr (8, [.ref v, .int 0, .int 0, .int (nI n)])), (v, .inl (cB, 16, .inl f))]) (wr := []) (w1 := (fun ad2 => [(q, .inr (8, [.ref v, .int 0, .int 0, .int (nI (n + dgl k))])), (v, .inl (cB, 16, .inl (dgf f (n + dgl k) k)))])) (rr := fun ad2 => q) (mc := 0) (ms := 0) KX_XQ hX hK hN hP hD hS hA (fun hb1 hp1 => va_runSU (C := RJ4) (As := [.int (nI k)]) (rest := []) (hK.1 8 _ rfl).2 hF (c_J5_append_c97b9 l D cI cJ cC cL cB q v n f k hk hn _) (va_cwSU 1 hts gJ4_append_bf812_J5_append_c97b9_s53 rfl rfl rfl (by decide +kernel) ⟨Nat.le_of_ble_eq_true rfl, Nat.le_of_ble_eq_true rfl⟩) ⟨hb1, (va_recv hK hP (ci := 8) (q0 := 0) rfl rfl), hp1⟩ rfl rfl hl.1 rfl (lv_room (Nat.le_of_ble_eq_true rfl)) dJ4_append_bf812_2 ⟨Nat.le_of_ble_eq_true rfl, Nat.le_of_ble_eq_true rfl⟩) (fun ad2 H locs hP hD hS hz => ?_)
  have hP : va_P D vwCl [(q, .inr (8, [.ref v, .int 0, .int 0, .int (nI (n + dgl k))])), (v, .inl (cB, 16, .inl (dgf f (n + dgl k) k)))] _ := hP
  have hD : va_D A [(q, .inr (8, [.ref v, .int 0, .int 0, .int (nI (n + dgl k))])), (v, .inl (cB, 16, .inl (dgf f (n + dgl k) k)))] := hD
  refine lv_pop hx hb dJ4_append_bf812_5 rfl ?_
  refine lv_aload_n hx hb dJ4_append_bf812_6 rfl (lv_at hl 0 rfl) ?_
  exact hRet (fun _ => 0) hP hD hS dJ4_append_bf812_7

abbrev rmJ5_getValue_6d5f1 : Room := { frames := 0, cells := 0, slots := 0, locals := 0 }
set_option maxHeartbeats 8000000 in
set_option maxRecDepth 100000 in
theorem c_J5_getValue_6d5f1 (l : Launch) (D : va_G) (cI cJ cC cL cB : ClassId) (q v n : Nat) (f : Nat → Int32) (sz : Nat) : Met l yJ5_getValue_6d5f1 wsJ5_getValue_6d5f1 rmJ5_getValue_6d5f1 (va_Pc [.ref q] (jpre XQ D (tyB cI cJ cC cL cB) [(q, .inr (8, [.ref v, .int 0, .int 0, .int (nI n)])), (v, .inl (cB, 16, .inl f))] sz)) (va_Qr (fun (_ : Nat → Nat) => True) (fun ad a t => a = (fun ad : Nat → Nat => v) ad ∧ jpost D (tyB cI cJ cC cL cB) (va_A [(q, .inr (8, [.ref v, .int 0, .int 0, .int (nI n)])), (v, .inl (cB, 16, .inl f))] sz) ((fun ad => [(q, .inr (8, [.ref v, .int 0, .int 0, .int (nI n)])), (v, .inl (cB, 16, .inl f))]) ad) t) (va_A [(q, .inr (8, [.ref v, .int 0, .int 0, .int (nI n)])), (v, .inl (cB, 16, .inl f))] sz)) 0 0 (va_A [(q, .inr (8, [.ref v, .int 0, .int 0, .int (nI n)])), (v, .inl (cB, 16, .inl f))] sz) := by
  refine jE_r (y := yJ5_getValue_6d5f1) (cc := cJ5_getValue_6d5f1) (maxL := 1) (own := RJ5) (lv0 := [(0, .ref q)]) (X := XQ) (W0 := [(q, .inr (8, [.ref v, .int 0, .int 0, .int (nI n)])), (v, .inl (cB, 16, .inl f))]) (W1 := (fun ad => [(q, .inr (8, [.ref v, .int 0, .int 0, .int (nI n)])), (v, .inl (cB, 16, .inl f))])) (ret := (some (.array .byte))) (rt := (.array .byte)) (rr := fun ad => v) (mc := 0) (ms := 0) (by decide) rfl rfl rfl (Or.inr ⟨_, rfl⟩) (Nat.le_of_ble_eq_true rfl) rfl ?_
  intro p e s m args below meth c A Q ls hx hb hml hown hts hK hN hX hA hP hD hS hl hRet
  have hF : CallFix p m c cJ5_getValue_6d5f1 1 s args wsJ5_getValue_6d5f1 RJ5 := ⟨hx, hb, hml, hown, hts⟩
  have hK4 : va_K D vwCl (tyL cI cJ cC cL) s := hK.sub [0, 1, 2, 3] rfl
  have fl_15 := hts (.fieldLink RJ5 15 "java/lang/AbstractStringBuilder" "value" "[B") (by decide +kernel)
  have hin_J4 : ∀ w ∈ u_ws RJ4 TJ4 4, w ∈ wsJ5_getValue_6d5f1 := by decide +kernel
  have hP : va_P D vwCl [(q, .inr (8, [.ref v, .int 0, .int 0, .int (nI n)])), (v, .inl (cB, 16, .inl f))] s.heap := hP
  have hD : va_D A [(q, .inr (8, [.ref v, .int 0, .int 0, .int (nI n)])), (v, .inl (cB, 16, .inl f))] := hD
  refine lv_aload_n hx hb dJ5_getValue_6d5f1_0 rfl (lv_at hl 0 rfl) ?_
  refine va_get (ci := 8) (v := .ref v) (C := RJ4) (T := TJ4) (N := 4) hx hb hts hin_J4 hown hK hP 0 rfl rfl 0 (by decide) fl_15 (fun _ h9 => h9) rfl dJ5_getValue_6d5f1_1 ?_
  exact hRet (fun _ => 0) hP hD hS dJ5_getValue_6d5f1_4

abbrev rmJ5_length_8abf5 : Room := { frames := 0, cells := 0, slots := 0, locals := 0 }
set_option maxHeartbeats 8000000 in
set_option maxRecDepth 100000 in
theorem c_J5_length_8abf5 (l : Launch) (D : va_G) (cI cJ cC cL cB : ClassId) (q v n : Nat) (f : Nat → Int32) (sz : Nat) : Met l yJ5_length_8abf5 wsJ5_length_8abf5 rmJ5_length_8abf5 (va_Pc [.ref q] (jpre XQ D (tyB cI cJ cC cL cB) [(q, .inr (8, [.ref v, .int 0, .int 0, .int (nI n)])), (v, .inl (cB, 16, .inl f))] sz)) (va_Qi (fun r' (_ : Unit) => r' = nI n) (fun _ t => jpost D (tyB cI cJ cC cL cB) (va_A [(q, .inr (8, [.ref v, .int 0, .int 0, .int (nI n)])), (v, .inl (cB, 16, .inl f))] sz) [(q, .inr (8, [.ref v, .int 0, .int 0, .int (nI n)])), (v, .inl (cB, 16, .inl f))] t) (va_A [(q, .inr (8, [.ref v, .int 0, .int 0, .int (nI n)])), (v, .inl (cB, 16, .inl f))] sz)) 0 0 (va_A [(q, .inr (8, [.ref v, .int 0, .int 0, .int (nI n)])), (v, .inl (cB, 16, .inl f))] sz) := by
  refine jE_i (y := yJ5_length_8abf5) (cc := cJ5_length_8abf5) (maxL := 1) (own := RJ5) (lv0 := [(0, .ref q)]) (X := XQ) (W0 := [(q, .inr (8, [.ref v, .int 0, .int 0, .int (nI n)])), (v, .inl (cB, 16, .inl f))]) (W1 := [(q, .inr (8, [.ref v, .int 0, .int 0, .int (nI n)])), (v, .inl (cB, 16, .inl f))]) (ret := (some .int)) (r := nI n) (by decide) rfl rfl rfl (Nat.le_of_ble_eq_true rfl) rfl ?_
  intro p e s m args below meth c A Q ls hx hb hml hown hts hK hN hX hA hP hD hS hl hRet
  have hF : CallFix p m c cJ5_length_8abf5 1 s args wsJ5_length_8abf5 RJ5 := ⟨hx, hb, hml, hown, hts⟩
  have hK4 : va_K D vwCl (tyL cI cJ cC cL) s := hK.sub [0, 1, 2, 3] rfl
  have fl_79 := hts (.fieldLink RJ5 79 "java/lang/AbstractStringBuilder" "count" "I") (by decide +kernel)
  have hin_J4 : ∀ w ∈ u_ws RJ4 TJ4 4, w ∈ wsJ5_length_8abf5 := by decide +kernel
  have hP : va_P D vwCl [(q, .inr (8, [.ref v, .int 0, .int 0, .int (nI n)])), (v, .inl (cB, 16, .inl f))] s.heap := hP
  have hD : va_D A [(q, .inr (8, [.ref v, .int 0, .int 0, .int (nI n)])), (v, .inl (cB, 16, .inl f))] := hD
  refine lv_aload_n hx hb dJ5_length_8abf5_0 rfl (lv_at hl 0 rfl) ?_
  refine va_get (ci := 8) (v := .int (nI n)) (C := RJ4) (T := TJ4) (N := 4) hx hb hts hin_J4 hown hK hP 0 rfl rfl 3 (by decide) fl_79 (fun _ h9 => h9) rfl dJ5_length_8abf5_1 ?_
  exact hRet hP hD hS rfl dJ5_length_8abf5_4

abbrev rmJ4_length_8abf5 : Room := { frames := 1, cells := 0, slots := 0, locals := 20 }
set_option maxHeartbeats 8000000 in
set_option maxRecDepth 100000 in
theorem c_J4_length_8abf5 (l : Launch) (D : va_G) (cI cJ cC cL cB : ClassId) (q v n : Nat) (f : Nat → Int32) (sz : Nat) : Met l yJ4_length_8abf5 wsJ4_length_8abf5 rmJ4_length_8abf5 (va_Pc [.ref q] (jpre XQ D (tyB cI cJ cC cL cB) [(q, .inr (8, [.ref v, .int 0, .int 0, .int (nI n)])), (v, .inl (cB, 16, .inl f))] sz)) (va_Qi (fun r' (_ : Unit) => r' = nI n) (fun _ t => jpost D (tyB cI cJ cC cL cB) (va_A [(q, .inr (8, [.ref v, .int 0, .int 0, .int (nI n)])), (v, .inl (cB, 16, .inl f))] sz) [(q, .inr (8, [.ref v, .int 0, .int 0, .int (nI n)])), (v, .inl (cB, 16, .inl f))] t) (va_A [(q, .inr (8, [.ref v, .int 0, .int 0, .int (nI n)])), (v, .inl (cB, 16, .inl f))] sz)) 0 0 (va_A [(q, .inr (8, [.ref v, .int 0, .int 0, .int (nI n)])), (v, .inl (cB, 16, .inl f))] sz) := by
  refine jE_i (y := yJ4_length_8abf5) (cc := cJ4_length_8abf5) (maxL := 1) (own := RJ4) (lv0 := [(0, .ref q)]) (X := XQ) (W0 := [(q, .inr (8, [.ref v, .int 0, .int 0, .int (nI n)])), (v, .inl (cB, 16, .inl f))]) (W1 := [(q, .inr (8, [.ref v, .int 0, .int 0, .int (nI n)])), (v, .inl (cB, 16, .inl f))]) (ret := (some .int)) (r := nI n) (by decide) rfl rfl rfl (Nat.le_of_ble_eq_true rfl) rfl ?_
  intro p e s m args below meth c A Q ls hx hb hml hown hts hK hN hX hA hP hD hS hl hRet
  have hF : CallFix p m c cJ4_length_8abf5 1 s args wsJ4_length_8abf5 RJ4 := ⟨hx, hb, hml, hown, hts⟩
  have hK4 : va_K D vwCl (tyL cI cJ cC cL) s := hK.sub [0, 1, 2, 3] rfl
  have hP : va_P D vwCl [(q, .inr (8, [.ref v, .int 0, .int 0, .int (nI n)])), (v, .inl (cB, 16, .inl f))] s.heap := hP
  have hD : va_D A [(q, .inr (8, [.ref v, .int 0, .int 0, .int (nI n)])), (v, .inl (cB, 16, .inl f))] := hD
  refine lv_aload_n hx hb dJ4_length_8abf5_0 rfl (lv_at hl 0 rfl) ?_
  refine jf_i (X := XQ) (tys := (tyB cI cJ cC cL cB)) (av := [.ref q]) (wc := [(q, .inr (8, [.ref v, .int 0, .int 0, .int (nI n)])), (v, .inl (cB, 16, .inl f))]) (wr := []) (w1 := [(q, .inr (8, [.ref v, .int 0, .int 0, .int (nI n)])), (v, .inl (cB, 16, .inl f))]) (r := nI n) (mc := 0) (ms := 0) KX_XQ hX hK hN hP hD hS hA (fun hb1 hp1 => va_runSU (C := RJ4) (As := []) (rest := []) (hK.1 8 _ rfl).2 hF (c_J5_length_8abf5 l D cI cJ cC cL cB q v n f _) (va_cwSU 0 hts gJ4_length_8abf5_J5_length_8abf5_s343 rfl rfl rfl (by decide +kernel) ⟨Nat.le_of_ble_eq_true rfl, Nat.le_of_ble_eq_true rfl⟩) ⟨hb1, (va_recv hK hP (ci := 8) (q0 := 0) rfl rfl), hp1⟩ rfl rfl hl.1 rfl (lv_room (Nat.le_of_ble_eq_true rfl)) dJ4_length_8abf5_1 ⟨Nat.le_of_ble_eq_true rfl, Nat.le_of_ble_eq_true rfl⟩) (fun H locs hP hD hS hz => ?_)
  have hP : va_P D vwCl [(q, .inr (8, [.ref v, .int 0, .int 0, .int (nI n)])), (v, .inl (cB, 16, .inl f))] _ := hP
  have hD : va_D A [(q, .inr (8, [.ref v, .int 0, .int 0, .int (nI n)])), (v, .inl (cB, 16, .inl f))] := hD
  exact hRet hP hD hS rfl dJ4_length_8abf5_4

abbrev rmJ7_copyOfRangeByte_39247 : Room := { frames := 1, cells := 1, slots := 16, locals := 80 }
set_option maxHeartbeats 8000000 in
set_option maxRecDepth 100000 in
theorem c_J7_copyOfRangeByte_39247 (l : Launch) (D : va_G) (cI cJ cC cL cB : ClassId) (q v n : Nat) (f : Nat → Int32) (hn : n < 17) (hfit : ∀ j, fits .byte (.int (f j)) = true) (sz : Nat) : Met l yJ7_copyOfRangeByte_39247 wsJ7_copyOfRangeByte_39247 rmJ7_copyOfRangeByte_39247 (va_Pc [.ref v, .int (nI 0), .int (nI n)] (jpre XQ D (tyB cI cJ cC cL cB) [(q, .inr (8, [.ref v, .int 0, .int 0, .int (nI n)])), (v, .inl (cB, 16, .inl f))] sz)) (va_Qr (fun (_ : Nat → Nat) => True) (fun ad a t => a = (fun ad : Nat → Nat => ad 0) ad ∧ jpost D (tyB cI cJ cC cL cB) (va_A [(q, .inr (8, [.ref v, .int 0, .int 0, .int (nI n)])), (v, .inl (cB, 16, .inl f))] sz) ((fun ad => [(q, .inr (8, [.ref v, .int 0, .int 0, .int (nI n)])), (v, .inl (cB, 16, .inl f)), ((ad 0), .inl (cB, n, .inl (va_cpy f (fun _ => 0) 0 0 n)))]) ad) t) (va_A [(q, .inr (8, [.ref v, .int 0, .int 0, .int (nI n)])), (v, .inl (cB, 16, .inl f))] sz)) 1 16 (va_A [(q, .inr (8, [.ref v, .int 0, .int 0, .int (nI n)])), (v, .inl (cB, 16, .inl f))] sz) := by
  refine jE_r (y := yJ7_copyOfRangeByte_39247) (cc := cJ7_copyOfRangeByte_39247) (maxL := 5) (own := RJ7) (lv0 := [(0, .ref v), (1, .int (nI 0)), (2, .int (nI n))]) (X := XQ) (W0 := [(q, .inr (8, [.ref v, .int 0, .int 0, .int (nI n)])), (v, .inl (cB, 16, .inl f))]) (W1 := (fun ad => [(q, .inr (8, [.ref v, .int 0, .int 0, .int (nI n)])), (v, .inl (cB, 16, .inl f)), ((ad 0), .inl (cB, n, .inl (va_cpy f (fun _ => 0) 0 0 n)))])) (ret := (some (.array .byte))) (rt := (.array .byte)) (rr := fun ad => ad 0) (mc := 1) (ms := 16) (by decide) rfl rfl rfl (Or.inr ⟨_, rfl⟩) (Nat.le_of_ble_eq_true rfl) rfl ?_
  intro p e s m args below meth c A Q ls hx hb hml hown hts hK hN hX hA hP hD hS hl hRet
  have hF : CallFix p m c cJ7_copyOfRangeByte_39247 5 s args wsJ7_copyOfRangeByte_39247 RJ7 := ⟨hx, hb, hml, hown, hts⟩
  have hK4 : va_K D vwCl (tyL cI cJ cC cL) s := hK.sub [0, 1, 2, 3] rfl
  have hP : va_P D vwCl [(q, .inr (8, [.ref v, .int 0, .int 0, .int (nI n)])), (v, .inl (cB, 16, .inl f))] s.heap := hP
  have hD : va_D A [(q, .inr (8, [.ref v, .int 0, .int 0, .int (nI n)])), (v, .inl (cB, 16, .inl f))] := hD
  refine lv_iload_n hx hb dJ7_copyOfRangeByte_39247_0 rfl (lv_at hl 1 rfl) ?_
  refine lv_iload_n hx hb dJ7_copyOfRangeByte_39247_1 rfl (lv_at hl 2 rfl) ?_
  refine jpS_v (X := XT) (As := [.int (nI 0), .int (nI n)]) (rest := []) hF (c_J7_checkLength_df160 l D cI cJ cC cL (nI 0) (nI n) (bq_len n hn) _) (va_cwS 2 hts gJ7_copyOfRangeByte_39247_J7_checkLength_df160 rfl rfl rfl (by decide +kernel) ⟨Nat.le_of_ble_eq_true rfl, Nat.le_of_ble_eq_true rfl⟩) rfl hl rfl (Nat.le_of_ble_eq_true rfl) dJ7_copyOfRangeByte_39247_2 ⟨Nat.zero_le _, Nat.zero_le _⟩ hK4 hN KX_T (fun _ _ => trivial) hS hA (fun H locs hS hz hkj => ?_)
  have hP := hP.kept (fun k z h9 => hkj z.1 ((hP k z h9).lt))
  have hP : va_P D vwCl [(q, .inr (8, [.ref v, .int 0, .int 0, .int (nI n)])), (v, .inl (cB, 16, .inl f))] _ := hP
  have hD : va_D A [(q, .inr (8, [.ref v, .int 0, .int 0, .int (nI n)])), (v, .inl (cB, 16, .inl f))] := hD
  refine lv_iload_n hx hb dJ7_copyOfRangeByte_39247_5 rfl (lv_at hl 2 rfl) ?_
  refine lv_iload_n hx hb dJ7_copyOfRangeByte_39247_6 rfl (lv_at hl 1 rfl) ?_
  refine lv_isub hx hb dJ7_copyOfRangeByte_39247_7 ?_
  rw [bq_sub0]
  refine lv_istore_n (lv' := [(3, .int (nI n)), (0, .ref v), (1, .int (nI 0)), (2, .int (nI n))]) hx hb dJ7_copyOfRangeByte_39247_8 rfl hl (by decide) rfl (fun ls hl => ?_)
  refine lv_iload_n hx hb dJ7_copyOfRangeByte_39247_9 rfl (lv_at hl 0 rfl) ?_
  refine va_newa (atype := .byte) (ty := .byte) (N' := n) (a0 := (n, .inl (fun _ => 0))) hx hb (hts (.arrayClass .byte) (by decide +kernel)) rfl hK hP hD hS hA (fun _ => rfl) (nI_pos (by omega)) (nI_clamp (by omega)) (by show n * 1 ≤ 536870912; omega) (Nat.le_of_ble_eq_true rfl) (by show 0 + n ≤ 16; omega) dJ7_copyOfRangeByte_39247_10 (fun v2 cA H hK2 hP hD hS => ?_)
  have hcA := (jarr_prim (t := 4) rfl hK2 hK rfl).symm
  subst hcA
  clear hK2
  refine W_raise (c1 := 1) (s1 := 16) (Nat.le_refl _) (by omega) ?_
  have hP : va_P D vwCl [(q, .inr (8, [.ref v, .int 0, .int 0, .int (nI n)])), (v, .inl (cB, 16, .inl f)), (v2, .inl (cB, n, .inl (fun _ => 0)))] _ := hP
  have hD : va_D A [(q, .inr (8, [.ref v, .int 0, .int 0, .int (nI n)])), (v, .inl (cB, 16, .inl f)), (v2, .inl (cB, n, .inl (fun _ => 0)))] := hD
  refine lv_astore (lv' := [(4, .ref v2), (3, .int (nI n)), (0, .ref v), (1, .int (nI 0)), (2, .int (nI n))]) hx hb dJ7_copyOfRangeByte_39247_12 hl (by decide) rfl (fun ls hl => ?_)
  refine lv_aload_n hx hb dJ7_copyOfRangeByte_39247_14 rfl (lv_at hl 2 rfl) ?_
  refine lv_iload_n hx hb dJ7_copyOfRangeByte_39247_15 rfl (lv_at hl 3 rfl) ?_
  refine lv_aload hx hb dJ7_copyOfRangeByte_39247_16 (lv_at hl 0 rfl) ?_
  refine lv_iconst (v := nI 0) hx hb dJ7_copyOfRangeByte_39247_18 (by decide) ?_
  refine lv_aload_n hx hb dJ7_copyOfRangeByte_39247_19 rfl (lv_at hl 2 rfl) ?_
  refine va_alen (v := nI (16)) hx hb hK hP 1 4 rfl rfl rfl dJ7_copyOfRangeByte_39247_20 ?_
  refine lv_iload_n hx hb dJ7_copyOfRangeByte_39247_21 rfl (lv_at hl 3 rfl) ?_
  refine lv_isub hx hb dJ7_copyOfRangeByte_39247_22 ?_
  rw [bq_sub0]
  refine lv_iload_n hx hb dJ7_copyOfRangeByte_39247_23 rfl (lv_at hl 1 rfl) ?_
  refine va_mmin hx hb (hml.trans hl.1.symm) hown (hts (.methodLink RJ7 304 Lib.Math.min.name) (by decide +kernel)) (hts (.static Lib.Math.min.name) (by decide +kernel)) (hts (.initialized "java/lang/Math") (by decide +kernel)) (hts (.code Lib.Math.min.name Lib.Math.min.code 2 (some .int)) (by decide +kernel)) (Nat.le_of_ble_eq_true rfl) (Nat.le_of_ble_eq_true rfl) (Nat.le_of_ble_eq_true rfl) (Nat.le_of_ble_eq_true rfl) dJ7_copyOfRangeByte_39247_24 ?_
  rw [bq_min n hn]
  refine va_copyi (ty := .byte) hx hb (hml.trans hl.1.symm) hown (hts (.methodLink RJ7 150 arraycopyName) (by decide +kernel)) (hts (.native arraycopyName) (by decide +kernel)) (hts (.static arraycopyName) (by decide +kernel)) (hts (.initialized "java/lang/System") (by decide +kernel)) hK hP hD hS 1 2 4 4 rfl rfl rfl rfl rfl (nI_pos (by omega)) (nI_pos (by omega)) (nI_pos (by omega)) (by rw [nI_clamp (by omega), nI_clamp (by omega)]; omega) (by rw [nI_clamp (by omega), nI_clamp (by omega)]; omega) (fun i hi => hfit _) (Nat.le_of_ble_eq_true rfl) (by decide) dJ7_copyOfRangeByte_39247_27 (fun H locs hP hD hS => ?_)
  rw [nI_clamp (by omega), nI_clamp (by omega)] at hP hD
  have hP : va_P D vwCl [(q, .inr (8, [.ref v, .int 0, .int 0, .int (nI n)])), (v, .inl (cB, 16, .inl f)), (v2, .inl (cB, n, .inl (va_cpy f (fun _ => 0) 0 0 n)))] _ := hP
  have hD : va_D A [(q, .inr (8, [.ref v, .int 0, .int 0, .int (nI n)])), (v, .inl (cB, 16, .inl f)), (v2, .inl (cB, n, .inl (va_cpy f (fun _ => 0) 0 0 n)))] := hD
  refine lv_aload hx hb dJ7_copyOfRangeByte_39247_30 (lv_at hl 0 rfl) ?_
  exact hRet (fun _ => v2) hP hD hS dJ7_copyOfRangeByte_39247_32

abbrev rmJ7_copyOfRange_39247 : Room := { frames := 2, cells := 1, slots := 16, locals := 104 }
set_option maxHeartbeats 8000000 in
set_option maxRecDepth 100000 in
theorem c_J7_copyOfRange_39247 (l : Launch) (D : va_G) (cI cJ cC cL cB : ClassId) (q v n : Nat) (f : Nat → Int32) (hn : n < 17) (hfit : ∀ j, fits .byte (.int (f j)) = true) (sz : Nat) : Met l yJ7_copyOfRange_39247 wsJ7_copyOfRange_39247 rmJ7_copyOfRange_39247 (va_Pc [.ref v, .int (nI 0), .int (nI n)] (jpre XQ D (tyB cI cJ cC cL cB) [(q, .inr (8, [.ref v, .int 0, .int 0, .int (nI n)])), (v, .inl (cB, 16, .inl f))] sz)) (va_Qr (fun (_ : Nat → Nat) => True) (fun ad a t => a = (fun ad : Nat → Nat => ad 0) ad ∧ jpost D (tyB cI cJ cC cL cB) (va_A [(q, .inr (8, [.ref v, .int 0, .int 0, .int (nI n)])), (v, .inl (cB, 16, .inl f))] sz) ((fun ad => [(q, .inr (8, [.ref v, .int 0, .int 0, .int (nI n)])), (v, .inl (cB, 16, .inl f)), ((ad 0), .inl (cB, n, .inl (va_cpy f (fun _ => 0) 0 0 n)))]) ad) t) (va_A [(q, .inr (8, [.ref v, .int 0, .int 0, .int (nI n)])), (v, .inl (cB, 16, .inl f))] sz)) 1 16 (va_A [(q, .inr (8, [.ref v, .int 0, .int 0, .int (nI n)])), (v, .inl (cB, 16, .inl f))] sz) := by
  refine jE_r (y := yJ7_copyOfRange_39247) (cc := cJ7_copyOfRange_39247) (maxL := 3) (own := RJ7) (lv0 := [(0, .ref v), (1, .int (nI 0)), (2, .int (nI n))]) (X := XQ) (W0 := [(q, .inr (8, [.ref v, .int 0, .int 0, .int (nI n)])), (v, .inl (cB, 16, .inl f))]) (W1 := (fun ad => [(q, .inr (8, [.ref v, .int 0, .int 0, .int (nI n)])), (v, .inl (cB, 16, .inl f)), ((ad 0), .inl (cB, n, .inl (va_cpy f (fun _ => 0) 0 0 n)))])) (ret := (some (.array .byte))) (rt := (.array .byte)) (rr := fun ad => ad 0) (mc := 1) (ms := 16) (by decide) rfl rfl rfl (Or.inr ⟨_, rfl⟩) (Nat.le_of_ble_eq_true rfl) rfl ?_
  intro p e s m args below meth c A Q ls hx hb hml hown hts hK hN hX hA hP hD hS hl hRet
  have hF : CallFix p m c cJ7_copyOfRange_39247 3 s args wsJ7_copyOfRange_39247 RJ7 := ⟨hx, hb, hml, hown, hts⟩
  have hK4 : va_K D vwCl (tyL cI cJ cC cL) s := hK.sub [0, 1, 2, 3] rfl
  have hP : va_P D vwCl [(q, .inr (8, [.ref v, .int 0, .int 0, .int (nI n)])), (v, .inl (cB, 16, .inl f))] s.heap := hP
  have hD : va_D A [(q, .inr (8, [.ref v, .int 0, .int 0, .int (nI n)])), (v, .inl (cB, 16, .inl f))] := hD
  refine lv_iload_n hx hb dJ7_copyOfRange_39247_0 rfl (lv_at hl 1 rfl) ?_
  refine lv_if_ne (tgt := 10) hx hb dJ7_copyOfRange_39247_1 (by decide) (fun hq => absurd (show nI 0 = 0 from nI_0) hq) (fun _ => ?_)
  refine lv_iload_n hx hb dJ7_copyOfRange_39247_4 rfl (lv_at hl 2 rfl) ?_
  refine lv_aload_n hx hb dJ7_copyOfRange_39247_5 rfl (lv_at hl 0 rfl) ?_
  refine va_alen (v := nI (16)) hx hb hK hP 1 4 rfl rfl rfl dJ7_copyOfRange_39247_6 ?_
  refine lv_icmp_eq (tgt := 17) hx hb dJ7_copyOfRange_39247_7 (by decide) (fun hc => ?_) (fun hc => ?_)
  · obtain rfl : n = 16 := (nI_eq (by omega) (by omega)).1 hc
    refine lv_aload_n hx hb dJ7_copyOfRange_39247_17 rfl (lv_at hl 0 rfl) ?_
    refine va_clone (ad := "[B") hx hb (hml.trans hl.1.symm) hown (hts (.methodLink RJ7 310 ⟨"[B", "clone", "()Ljava/lang/Object;"⟩) (by decide +kernel)) (hts (.sameMethod "[B" "java/lang/Object" "clone" "()Ljava/lang/Object;") (by decide +kernel)) (hts (.native ⟨"java/lang/Object", "clone", "()Ljava/lang/Object;"⟩) (by decide +kernel)) (hts (.instanceMethod ⟨"java/lang/Object", "clone", "()Ljava/lang/Object;"⟩) (by decide +kernel)) (hts (.selects "[B" ⟨"[B", "clone", "()Ljava/lang/Object;"⟩ ⟨"java/lang/Object", "clone", "()Ljava/lang/Object;"⟩) (by decide +kernel)) hX.2.2 hK hP hD hS hA 1 4 rfl rfl (hK.2 4 _ rfl).2 (fun i z hz => ?_) (Nat.le_of_ble_eq_true rfl) (Nat.le_of_ble_eq_true rfl) (Nat.le_of_ble_eq_true rfl) (Nat.le_of_ble_eq_true rfl) dJ7_copyOfRange_39247_18 (fun v2 H hK2 hP hD hS => ?_)
    · have h1 := (Array.getElem?_eq_some_iff.mp hz).1
      have h2 : (vp_cell cB (16, .inl f)).slots.size = 16 := arrV_size _ _ _
      rw [vp_cell_i, arrV_read _ _ (by omega)] at hz
      cases hz
      exact hfit _
    clear hK2
    have hP : va_P D vwCl [(q, .inr (8, [.ref v, .int 0, .int 0, .int (nI 16)])), (v, .inl (cB, 16, .inl f)), (v2, .inl (cB, 16, .inl f))] _ := hP
    have hD : va_D A [(q, .inr (8, [.ref v, .int 0, .int 0, .int (nI 16)])), (v, .inl (cB, 16, .inl f)), (v2, .inl (cB, 16, .inl f))] := hD
    refine va_castA hx hb hown (hts (.classLink RJ7 311 "[B") (by decide +kernel)) hP 2 rfl (hK.2 4 _ rfl).2 dJ7_copyOfRange_39247_21 ?_
    have hP := vP_int hP (k := 2) rfl (fun i hi => (show f i = va_cpy f (fun _ => 0) 0 0 16 i by unfold va_cpy; rw [if_pos ⟨Nat.zero_le _, by omega⟩, Nat.zero_add]; rfl))
    have hD : va_D A (List.set _ 2 _) := vD_row (e2 := .inl (cB, 16, .inl (va_cpy f (fun _ => 0) 0 0 16))) hD (k := 2) rfl
    exact hRet (fun _ => v2) hP hD hS dJ7_copyOfRange_39247_24
  · refine lv_aload_n hx hb dJ7_copyOfRange_39247_10 rfl (lv_at hl 0 rfl) ?_
    refine lv_iload_n hx hb dJ7_copyOfRange_39247_11 rfl (lv_at hl 1 rfl) ?_
    refine lv_iload_n hx hb dJ7_copyOfRange_39247_12 rfl (lv_at hl 2 rfl) ?_
    refine jf_r (X := XQ) (tys := (tyB cI cJ cC cL cB)) (av := [.ref v, .int (nI 0), .int (nI n)]) (wc := [(q, .inr (8, [.ref v, .int 0, .int 0, .int (nI n)])), (v, .inl (cB, 16, .inl f))]) (wr := []) (w1 := (fun ad13 => [(q, .inr (8, [.ref v, .int 0, .int 0, .int (nI n)])), (v, .inl (cB, 16, .inl f)), ((ad13 0), .inl (cB, n, .inl (va_cpy f (fun _ => 0) 0 0 n)))])) (rr := fun ad13 => ad13 0) (mc := 1) (ms := 16) KX_XQ hX hK hN hP hD hS hA (fun hb1 hp1 => va_runS (As := [.ref v, .int (nI 0), .int (nI n)]) (rest := []) hF (c_J7_copyOfRangeByte_39247 l D cI cJ cC cL cB q v n f hn hfit _) (va_cwS 3 hts gJ7_copyOfRange_39247_J7_copyOfRangeByte_39247 rfl rfl rfl (by decide +kernel) ⟨Nat.le_of_ble_eq_true rfl, Nat.le_of_ble_eq_true rfl⟩) ⟨hb1, hp1⟩ rfl rfl hl.1 rfl (lv_room (Nat.le_of_ble_eq_true rfl)) dJ7_copyOfRange_39247_13 ⟨Nat.le_of_ble_eq_true rfl, Nat.le_of_ble_eq_true rfl⟩) (fun ad13 H locs hP hD hS hz => ?_)
    have hP : va_P D vwCl [(q, .inr (8, [.ref v, .int 0, .int 0, .int (nI n)])), (v, .inl (cB, 16, .inl f)), ((ad13 0), .inl (cB, n, .inl (va_cpy f (fun _ => 0) 0 0 n)))] _ := hP
    have hD : va_D A [(q, .inr (8, [.ref v, .int 0, .int 0, .int (nI n)])), (v, .inl (cB, 16, .inl f)), ((ad13 0), .inl (cB, n, .inl (va_cpy f (fun _ => 0) 0 0 n)))] := hD
    exact hRet ad13 hP hD hS dJ7_copyOfRange_39247_16

abbrev rmJ0_init_db425 : Room := { frames := 3, cells := 1, slots := 16, locals := 126 }
set_option maxHeartbeats 8000000 in
set_option maxRecDepth 100000 in
theorem c_J0_init_db425 (l : Launch) (D : va_G) (cI cJ cC cL cB : ClassId) (q v n : Nat) (f : Nat → Int32) (a : Nat) (hn : n < 17) (hfit : ∀ j, fits .byte (.int (f j)) = true) (sz : Nat) : Met l yJ0_init_db425 wsJ0_init_db425 rmJ0_init_db425 (va_Pc [.ref a, .ref q, .null] (jpre XQ D (tyB cI cJ cC cL cB) [(q, .inr (8, [.ref v, .int 0, .int 0, .int (nI n)])), (v, .inl (cB, 16, .inl f)), (a, .inr (9, [.null, .int 0, .int 0, .int 0]))] sz)) (va_Qv (fun (_ : Nat → Nat) => True) (fun ad t => jpost D (tyB cI cJ cC cL cB) (va_A [(q, .inr (8, [.ref v, .int 0, .int 0, .int (nI n)])), (v, .inl (cB, 16, .inl f)), (a, .inr (9, [.null, .int 0, .int 0, .int 0]))] sz) ((fun ad => [(q, .inr (8, [.ref v, .int 0, .int 0, .int (nI n)])), (v, .inl (cB, 16, .inl f)), (a, .inr (9, [.ref (ad 0), .int 0, .int 0, .int 0])), ((ad 0), .inl (cB, n, .inl (va_cpy f (fun _ => 0) 0 0 n)))]) ad) t) (va_A [(q, .inr (8, [.ref v, .int 0, .int 0, .int (nI n)])), (v, .inl (cB, 16, .inl f)), (a, .inr (9, [.null, .int 0, .int 0, .int 0]))] sz)) 1 16 (va_A [(q, .inr (8, [.ref v, .int 0, .int 0, .int (nI n)])), (v, .inl (cB, 16, .inl f)), (a, .inr (9, [.null, .int 0, .int 0, .int 0]))] sz) := by
  refine jE_init (y := yJ0_init_db425) (cc := cJ0_init_db425) (maxL := 5) (own := RJ0) (lv0 := [(0, .ref a), (1, .ref q), (2, .null)]) (mc := 1) (ms := 16) (X := XQ) (W0 := [(q, .inr (8, [.ref v, .int 0, .int 0, .int (nI n)])), (v, .inl (cB, 16, .inl f)), (a, .inr (9, [.null, .int 0, .int 0, .int 0]))]) (W1 := (fun ad => [(q, .inr (8, [.ref v, .int 0, .int 0, .int (nI n)])), (v, .inl (cB, 16, .inl f)), (a, .inr (9, [.ref (ad 0), .int 0, .int 0, .int 0])), ((ad 0), .inl (cB, n, .inl (va_cpy f (fun _ => 0) 0 0 n)))])) (by decide) rfl rfl rfl (Nat.le_of_ble_eq_true rfl) rfl ?_
  intro p e s m args below meth c A Q ls hx hb hml hown hts hK hN hX hin hA hP hD hS hl hRet
  have hF : CallFix p m c cJ0_init_db425 5 s args wsJ0_init_db425 RJ0 := ⟨hx, hb, hml, hown, hts⟩
  have hK4 : va_K D vwCl (tyL cI cJ cC cL) s := hK.sub [0, 1, 2, 3] rfl
  have fl_9 := hts (.fieldLink RJ0 9 "java/lang/String" "value" "[B") (by decide +kernel)
  have fl_15 := hts (.fieldLink RJ0 15 "java/lang/String" "coder" "B") (by decide +kernel)
  have hin_J0 : ∀ w ∈ u_ws RJ0 TJ0 4, w ∈ wsJ0_init_db425 := by decide +kernel
  have hP : va_P D vwCl [(q, .inr (8, [.ref v, .int 0, .int 0, .int (nI n)])), (v, .inl (cB, 16, .inl f)), (a, .inr (9, [.null, .int 0, .int 0, .int 0]))] s.heap := hP
  have hD : va_D A [(q, .inr (8, [.ref v, .int 0, .int 0, .int (nI n)])), (v, .inl (cB, 16, .inl f)), (a, .inr (9, [.null, .int 0, .int 0, .int 0]))] := hD
  refine lv_aload_n hx hb dJ0_init_db425_0 rfl (lv_at hl 0 rfl) ?_
  refine W.objInit hx hb hown (hts (.methodLink RJ0 1 objectInit) (by decide +kernel)) (hts (.instanceMethod objectInit) (by decide +kernel)) (hts (.code objectInit ⟨#[0xb1]⟩ 1 none) (by decide +kernel)) rfl (by rw [hml]; exact hl.1) rfl dJ0_init_db425_1 (Nat.le_of_ble_eq_true rfl) (Nat.le_of_ble_eq_true rfl) ?_
  refine W.eq (g2 := F0 m 4 _ []) rfl ?_
  refine lv_aload_n hx hb dJ0_init_db425_4 rfl (lv_at hl 1 rfl) ?_
  refine jf_r (X := XQ) (tys := (tyB cI cJ cC cL cB)) (av := [.ref q]) (wc := [(q, .inr (8, [.ref v, .int 0, .int 0, .int (nI n)])), (v, .inl (cB, 16, .inl f))]) (wr := [(a, .inr (9, [.null, .int 0, .int 0, .int 0]))]) (w1 := (fun ad5 => [(q, .inr (8, [.ref v, .int 0, .int 0, .int (nI n)])), (v, .inl (cB, 16, .inl f))])) (rr := fun ad5 => v) (mc := 0) (ms := 0) KX_XQ hX hK hN hP hD hS hA (fun hb1 hp1 => va_runU (C := RJ4) (As := []) (rest := []) hF (c_J5_getValue_6d5f1 l D cI cJ cC cL cB q v n f _) (va_cwU 0 hts gJ0_init_db425_J5_getValue_6d5f1_u552J4 rfl rfl rfl rfl (by decide +kernel) ⟨Nat.le_of_ble_eq_true rfl, Nat.le_of_ble_eq_true rfl⟩) ⟨hb1, (va_recv hK hP (ci := 8) (q0 := 0) rfl rfl), hp1⟩ rfl rfl hl.1 rfl (lv_room (Nat.le_of_ble_eq_true rfl)) dJ0_init_db425_5 ⟨Nat.le_of_ble_eq_true rfl, Nat.le_of_ble_eq_true rfl⟩) (fun ad5 H locs hP hD hS hz => ?_)
  have hP : va_P D vwCl [(q, .inr (8, [.ref v, .int 0, .int 0, .int (nI n)])), (v, .inl (cB, 16, .inl f)), (a, .inr (9, [.null, .int 0, .int 0, .int 0]))] _ := hP
  have hD : va_D A [(q, .inr (8, [.ref v, .int 0, .int 0, .int (nI n)])), (v, .inl (cB, 16, .inl f)), (a, .inr (9, [.null, .int 0, .int 0, .int 0]))] := hD
  refine lv_astore_n (lv' := [(3, .ref v), (0, .ref a), (1, .ref q), (2, .null)]) hx hb dJ0_init_db425_8 rfl hl (by decide) rfl (fun ls hl => ?_)
  refine lv_aload_n hx hb dJ0_init_db425_9 rfl (lv_at hl 2 rfl) ?_
  refine jf_i (X := XQ) (tys := (tyB cI cJ cC cL cB)) (av := [.ref q]) (wc := [(q, .inr (8, [.ref v, .int 0, .int 0, .int (nI n)])), (v, .inl (cB, 16, .inl f))]) (wr := [(a, .inr (9, [.null, .int 0, .int 0, .int 0]))]) (w1 := [(q, .inr (8, [.ref v, .int 0, .int 0, .int (nI n)])), (v, .inl (cB, 16, .inl f))]) (r := nI n) (mc := 0) (ms := 0) KX_XQ hX hK hN hP hD hS hA (fun hb1 hp1 => va_runU (C := RJ4) (As := []) (rest := []) hF (c_J4_length_8abf5 l D cI cJ cC cL cB q v n f _) (va_cwO 0 hts gJ0_init_db425_J4_length_8abf5_u549J4 rfl rfl rfl (b0 := cJ5_length_8abf5) (m0 := 1) (r0 := some .int) (by decide +kernel) (by decide +kernel) ⟨Nat.le_of_ble_eq_true rfl, Nat.le_of_ble_eq_true rfl⟩) ⟨hb1, (va_recv hK hP (ci := 8) (q0 := 0) rfl rfl), hp1⟩ rfl rfl hl.1 rfl (lv_room (Nat.le_of_ble_eq_true rfl)) dJ0_init_db425_10 ⟨Nat.le_of_ble_eq_true rfl, Nat.le_of_ble_eq_true rfl⟩) (fun H locs hP hD hS hz => ?_)
  have hP : va_P D vwCl [(q, .inr (8, [.ref v, .int 0, .int 0, .int (nI n)])), (v, .inl (cB, 16, .inl f)), (a, .inr (9, [.null, .int 0, .int 0, .int 0]))] _ := hP
  have hD : va_D A [(q, .inr (8, [.ref v, .int 0, .int 0, .int (nI n)])), (v, .inl (cB, 16, .inl f)), (a, .inr (9, [.null, .int 0, .int 0, .int 0]))] := hD
  refine lv_istore (lv' := [(4, .int (nI n)), (3, .ref v), (0, .ref a), (1, .ref q), (2, .null)]) hx hb dJ0_init_db425_13 hl (by decide) rfl (fun ls hl => ?_)
  refine lv_aload_n hx hb dJ0_init_db425_15 rfl (lv_at hl 3 rfl) ?_
  refine jf_i (X := XQ) (tys := (tyB cI cJ cC cL cB)) (av := [.ref q]) (wc := [(q, .inr (8, [.ref v, .int 0, .int 0, .int (nI n)])), (v, .inl (cB, 16, .inl f))]) (wr := [(a, .inr (9, [.null, .int 0, .int 0, .int 0]))]) (w1 := [(q, .inr (8, [.ref v, .int 0, .int 0, .int (nI n)])), (v, .inl (cB, 16, .inl f))]) (r := nI 1) (mc := 0) (ms := 0) KX_XQ hX hK hN hP hD hS hA (fun hb1 hp1 => va_runU (C := RJ4) (As := []) (rest := []) hF (c_J5_isLatin1_aae02 l D cI cJ cC cL cB q v n f _) (va_cwU 0 hts gJ0_init_db425_J5_isLatin1_aae02_u1047J4 rfl rfl rfl rfl (by decide +kernel) ⟨Nat.le_of_ble_eq_true rfl, Nat.le_of_ble_eq_true rfl⟩) ⟨hb1, (va_recv hK hP (ci := 8) (q0 := 0) rfl rfl), hp1⟩ rfl rfl hl.1 rfl (lv_room (Nat.le_of_ble_eq_true rfl)) dJ0_init_db425_16 ⟨Nat.le_of_ble_eq_true rfl, Nat.le_of_ble_eq_true rfl⟩) (fun H locs hP hD hS hz => ?_)
  have hP : va_P D vwCl [(q, .inr (8, [.ref v, .int 0, .int 0, .int (nI n)])), (v, .inl (cB, 16, .inl f)), (a, .inr (9, [.null, .int 0, .int 0, .int 0]))] _ := hP
  have hD : va_D A [(q, .inr (8, [.ref v, .int 0, .int 0, .int (nI n)])), (v, .inl (cB, 16, .inl f)), (a, .inr (9, [.null, .int 0, .int 0, .int 0]))] := hD
  refine lv_if_eq (tgt := 41) hx hb dJ0_init_db425_19 (by decide) (fun hq => absurd hq (by decide)) (fun _ => ?_)
  refine lv_aload_n hx hb dJ0_init_db425_22 rfl (lv_at hl 2 rfl) ?_
  refine lv_iconst (v := nI 0) hx hb dJ0_init_db425_23 (by decide) ?_
  refine va_putF (ci := 9) (v := .int (nI 0)) (ty := .byte) (C := RJ0) (T := TJ0) (N := 4) hx hb hts hin_J0 tyJ0 tyJ0_ok nmJ0 hown hK hP hD hS 2 rfl rfl 1 (by decide) fl_15 (fun _ h9 => h9) rfl hin rfl (by decide +kernel) rfl rfl (Nat.le_of_ble_eq_true rfl) dJ0_init_db425_24 (fun H locs hP hD hS => ?_)
  have hP : va_P D vwCl [(q, .inr (8, [.ref v, .int 0, .int 0, .int (nI n)])), (v, .inl (cB, 16, .inl f)), (a, .inr (9, [.null, .int (nI 0), .int 0, .int 0]))] _ := hP
  have hD : va_D A [(q, .inr (8, [.ref v, .int 0, .int 0, .int (nI n)])), (v, .inl (cB, 16, .inl f)), (a, .inr (9, [.null, .int (nI 0), .int 0, .int 0]))] := hD
  refine lv_aload_n hx hb dJ0_init_db425_27 rfl (lv_at hl 2 rfl) ?_
  refine lv_aload_n hx hb dJ0_init_db425_28 rfl (lv_at hl 1 rfl) ?_
  refine lv_iconst (v := nI 0) hx hb dJ0_init_db425_29 (by decide) ?_
  refine lv_iload hx hb dJ0_init_db425_30 (lv_at hl 0 rfl) ?_
  refine jf_r (X := XQ) (tys := (tyB cI cJ cC cL cB)) (av := [.ref v, .int (nI 0), .int (nI n)]) (wc := [(q, .inr (8, [.ref v, .int 0, .int 0, .int (nI n)])), (v, .inl (cB, 16, .inl f))]) (wr := [(a, .inr (9, [.null, .int (nI 0), .int 0, .int 0]))]) (w1 := (fun ad32 => [(q, .inr (8, [.ref v, .int 0, .int 0, .int (nI n)])), (v, .inl (cB, 16, .inl f)), ((ad32 0), .inl (cB, n, .inl (va_cpy f (fun _ => 0) 0 0 n)))])) (rr := fun ad32 => ad32 0) (mc := 1) (ms := 16) KX_XQ hX hK hN hP hD hS hA (fun hb1 hp1 => va_runS (As := [.ref v, .int (nI 0), .int (nI n)]) (rest := [.ref a]) hF (c_J7_copyOfRange_39247 l D cI cJ cC cL cB q v n f hn hfit _) (va_cwS 3 hts gJ0_init_db425_J7_copyOfRange_39247 rfl rfl rfl (by decide +kernel) ⟨Nat.le_of_ble_eq_true rfl, Nat.le_of_ble_eq_true rfl⟩) ⟨hb1, hp1⟩ rfl rfl hl.1 rfl (lv_room (Nat.le_of_ble_eq_true rfl)) dJ0_init_db425_32 ⟨Nat.le_of_ble_eq_true rfl, Nat.le_of_ble_eq_true rfl⟩) (fun ad32 H locs hP hD hS hz => ?_)
  have hP : va_P D vwCl [(q, .inr (8, [.ref v, .int 0, .int 0, .int (nI n)])), (v, .inl (cB, 16, .inl f)), ((ad32 0), .inl (cB, n, .inl (va_cpy f (fun _ => 0) 0 0 n))), (a, .inr (9, [.null, .int (nI 0), .int 0, .int 0]))] _ := hP
  have hD : va_D A [(q, .inr (8, [.ref v, .int 0, .int 0, .int (nI n)])), (v, .inl (cB, 16, .inl f)), ((ad32 0), .inl (cB, n, .inl (va_cpy f (fun _ => 0) 0 0 n))), (a, .inr (9, [.null, .int (nI 0), .int 0, .int 0]))] := hD
  refine va_putF (ci := 9) (v := .ref (ad32 0)) (ty := (.array .byte)) (C := RJ0) (T := TJ0) (N := 4) hx hb hts hin_J0 tyJ0 tyJ0_ok nmJ0 hown hK hP hD hS 3 rfl rfl 0 (by decide) fl_9 (fun _ h9 => h9) rfl hin rfl (by decide +kernel) rfl rfl (Nat.le_of_ble_eq_true rfl) dJ0_init_db425_35 (fun H locs hP hD hS => ?_)
  have hP : va_P D vwCl [(q, .inr (8, [.ref v, .int 0, .int 0, .int (nI n)])), (v, .inl (cB, 16, .inl f)), ((ad32 0), .inl (cB, n, .inl (va_cpy f (fun _ => 0) 0 0 n))), (a, .inr (9, [.ref (ad32 0), .int (nI 0), .int 0, .int 0]))] _ := hP
  have hD : va_D A [(q, .inr (8, [.ref v, .int 0, .int 0, .int (nI n)])), (v, .inl (cB, 16, .inl f)), ((ad32 0), .inl (cB, n, .inl (va_cpy f (fun _ => 0) 0 0 n))), (a, .inr (9, [.ref (ad32 0), .int (nI 0), .int 0, .int 0]))] := hD
  refine lv_goto (tgt := 97) hx hb dJ0_init_db425_38 (by decide) ?_
  have hP : va_P D vwCl [(q, .inr (8, [.ref v, .int 0, .int 0, .int (nI n)])), (v, .inl (cB, 16, .inl f)), (a, .inr (9, [.ref (ad32 0), .int 0, .int 0, .int 0])), ((ad32 0), .inl (cB, n, .inl (va_cpy f (fun _ => 0) 0 0 n)))] _ := hP.sub [0, 1, 3, 2] rfl
  have hD : va_D A [(q, .inr (8, [.ref v, .int 0, .int 0, .int (nI n)])), (v, .inl (cB, 16, .inl f)), (a, .inr (9, [.ref (ad32 0), .int 0, .int 0, .int 0])), ((ad32 0), .inl (cB, n, .inl (va_cpy f (fun _ => 0) 0 0 n)))] := hD.sub [0, 1, 3, 2] rfl rfl
  exact hRet ad32 hP hD hS dJ0_init_db425_97

abbrev rmJ0_init_81219 : Room := { frames := 4, cells := 1, slots := 16, locals := 150 }
set_option maxHeartbeats 8000000 in
set_option maxRecDepth 100000 in
theorem c_J0_init_81219 (l : Launch) (D : va_G) (cI cJ cC cL cB : ClassId) (q v n : Nat) (f : Nat → Int32) (a : Nat) (hn : n < 17) (hfit : ∀ j, fits .byte (.int (f j)) = true) (sz : Nat) : Met l yJ0_init_81219 wsJ0_init_81219 rmJ0_init_81219 (va_Pc [.ref a, .ref q] (jpre XQ D (tyB cI cJ cC cL cB) [(q, .inr (8, [.ref v, .int 0, .int 0, .int (nI n)])), (v, .inl (cB, 16, .inl f)), (a, .inr (9, [.null, .int 0, .int 0, .int 0]))] sz)) (va_Qv (fun (_ : Nat → Nat) => True) (fun ad t => jpost D (tyB cI cJ cC cL cB) (va_A [(q, .inr (8, [.ref v, .int 0, .int 0, .int (nI n)])), (v, .inl (cB, 16, .inl f)), (a, .inr (9, [.null, .int 0, .int 0, .int 0]))] sz) ((fun ad => [(q, .inr (8, [.ref v, .int 0, .int 0, .int (nI n)])), (v, .inl (cB, 16, .inl f)), (a, .inr (9, [.ref (ad 0), .int 0, .int 0, .int 0])), ((ad 0), .inl (cB, n, .inl (va_cpy f (fun _ => 0) 0 0 n)))]) ad) t) (va_A [(q, .inr (8, [.ref v, .int 0, .int 0, .int (nI n)])), (v, .inl (cB, 16, .inl f)), (a, .inr (9, [.null, .int 0, .int 0, .int 0]))] sz)) 1 16 (va_A [(q, .inr (8, [.ref v, .int 0, .int 0, .int (nI n)])), (v, .inl (cB, 16, .inl f)), (a, .inr (9, [.null, .int 0, .int 0, .int 0]))] sz) := by
  refine jE_init (y := yJ0_init_81219) (cc := cJ0_init_81219) (maxL := 2) (own := RJ0) (lv0 := [(0, .ref a), (1, .ref q)]) (mc := 1) (ms := 16) (X := XQ) (W0 := [(q, .inr (8, [.ref v, .int 0, .int 0, .int (nI n)])), (v, .inl (cB, 16, .inl f)), (a, .inr (9, [.null, .int 0, .int 0, .int 0]))]) (W1 := (fun ad => [(q, .inr (8, [.ref v, .int 0, .int 0, .int (nI n)])), (v, .inl (cB, 16, .inl f)), (a, .inr (9, [.ref (ad 0), .int 0, .int 0, .int 0])), ((ad 0), .inl (cB, n, .inl (va_cpy f (fun _ => 0) 0 0 n)))])) (by decide) rfl rfl rfl (Nat.le_of_ble_eq_true rfl) rfl ?_
  intro p e s m args below meth c A Q ls hx hb hml hown hts hK hN hX hin hA hP hD hS hl hRet
  have hF : CallFix p m c cJ0_init_81219 2 s args wsJ0_init_81219 RJ0 := ⟨hx, hb, hml, hown, hts⟩
  have hK4 : va_K D vwCl (tyL cI cJ cC cL) s := hK.sub [0, 1, 2, 3] rfl
  have hP : va_P D vwCl [(q, .inr (8, [.ref v, .int 0, .int 0, .int (nI n)])), (v, .inl (cB, 16, .inl f)), (a, .inr (9, [.null, .int 0, .int 0, .int 0]))] s.heap := hP
  have hD : va_D A [(q, .inr (8, [.ref v, .int 0, .int 0, .int (nI n)])), (v, .inl (cB, 16, .inl f)), (a, .inr (9, [.null, .int 0, .int 0, .int 0]))] := hD
  refine lv_aload_n hx hb dJ0_init_81219_0 rfl (lv_at hl 0 rfl) ?_
  refine lv_aload_n hx hb dJ0_init_81219_1 rfl (lv_at hl 1 rfl) ?_
  refine lv_null hx hb dJ0_init_81219_2 ?_
  refine jf_v (X := XQ) (tys := (tyB cI cJ cC cL cB)) (av := [.ref a, .ref q, .null]) (wc := [(q, .inr (8, [.ref v, .int 0, .int 0, .int (nI n)])), (v, .inl (cB, 16, .inl f)), (a, .inr (9, [.null, .int 0, .int 0, .int 0]))]) (wr := []) (w1 := (fun ad3 => [(q, .inr (8, [.ref v, .int 0, .int 0, .int (nI n)])), (v, .inl (cB, 16, .inl f)), (a, .inr (9, [.ref (ad3 0), .int 0, .int 0, .int 0])), ((ad3 0), .inl (cB, n, .inl (va_cpy f (fun _ => 0) 0 0 n)))])) (mc := 1) (ms := 16) KX_XQ hX hK hN hP hD hS hA (fun hb1 hp1 => va_runI (As := [.ref q, .null]) (rest := []) hF (c_J0_init_db425 l D cI cJ cC cL cB q v n f a hn hfit _) (cwI 2 hts gJ0_init_81219_J0_init_db425 rfl rfl rfl (hts (.initialized RJ0) (by decide +kernel)) (hts (.methodLink RJ0 489 yJ0_init_db425) (by decide +kernel)) (hts (.instanceMethod yJ0_init_db425) (by decide +kernel)) rfl (by decide +kernel) ⟨Nat.le_of_ble_eq_true rfl, Nat.le_of_ble_eq_true rfl⟩) ⟨hb1, hp1⟩ rfl rfl hl.1 rfl (lv_room (Nat.le_of_ble_eq_true rfl)) dJ0_init_81219_3 ⟨Nat.le_of_ble_eq_true rfl, Nat.le_of_ble_eq_true rfl⟩) (fun ad3 H locs hP hD hS hz => ?_)
  have hP : va_P D vwCl [(q, .inr (8, [.ref v, .int 0, .int 0, .int (nI n)])), (v, .inl (cB, 16, .inl f)), (a, .inr (9, [.ref (ad3 0), .int 0, .int 0, .int 0])), ((ad3 0), .inl (cB, n, .inl (va_cpy f (fun _ => 0) 0 0 n)))] _ := hP
  have hD : va_D A [(q, .inr (8, [.ref v, .int 0, .int 0, .int (nI n)])), (v, .inl (cB, 16, .inl f)), (a, .inr (9, [.ref (ad3 0), .int 0, .int 0, .int 0])), ((ad3 0), .inl (cB, n, .inl (va_cpy f (fun _ => 0) 0 0 n)))] := hD
  exact hRet ad3 hP hD hS dJ0_init_81219_6

abbrev rmJ4_toString_0e30d : Room := { frames := 5, cells := 2, slots := 20, locals := 171 }
set_option maxHeartbeats 8000000 in
set_option maxRecDepth 100000 in
theorem c_J4_toString_0e30d (l : Launch) (D : va_G) (cI cJ cC cL cB : ClassId) (q v n : Nat) (f : Nat → Int32) (hn : n < 17) (hfit : ∀ j, fits .byte (.int (f j)) = true) (sz : Nat) : Met l yJ4_toString_0e30d wsJ4_toString_0e30d rmJ4_toString_0e30d (va_Pc [.ref q] (jpre XQ D (tyB cI cJ cC cL cB) [(q, .inr (8, [.ref v, .int 0, .int 0, .int (nI n)])), (v, .inl (cB, 16, .inl f))] sz)) (va_Qr (fun (_ : Nat → Nat) => True) (fun ad a t => a = (fun ad : Nat → Nat => ad 0) ad ∧ jpost D (tyB cI cJ cC cL cB) (va_A [(q, .inr (8, [.ref v, .int 0, .int 0, .int (nI n)])), (v, .inl (cB, 16, .inl f))] sz) ((fun ad => [(q, .inr (8, [.ref v, .int 0, .int 0, .int (nI n)])), (v, .inl (cB, 16, .inl f)), ((ad 0), .inr (9, [.ref (ad 1), .int 0, .int 0, .int 0])), ((ad 1), .inl (cB, n, .inl (va_cpy f (fun _ => 0) 0 0 n)))]) ad) t) (va_A [(q, .inr (8, [.ref v, .int 0, .int 0, .int (nI n)])), (v, .inl (cB, 16, .inl f))] sz)) 2 20 (va_A [(q, .inr (8, [.ref v, .int 0, .int 0, .int (nI n)])), (v, .inl (cB, 16, .inl f))] sz) := by
  refine jE_r (y := yJ4_toString_0e30d) (cc := cJ4_toString_0e30d) (maxL := 1) (own := RJ4) (lv0 := [(0, .ref q)]) (X := XQ) (W0 := [(q, .inr (8, [.ref v, .int 0, .int 0, .int (nI n)])), (v, .inl (cB, 16, .inl f))]) (W1 := (fun ad => [(q, .inr (8, [.ref v, .int 0, .int 0, .int (nI n)])), (v, .inl (cB, 16, .inl f)), ((ad 0), .inr (9, [.ref (ad 1), .int 0, .int 0, .int 0])), ((ad 1), .inl (cB, n, .inl (va_cpy f (fun _ => 0) 0 0 n)))])) (ret := (some (.object "java/lang/String"))) (rt := (.object "java/lang/String")) (rr := fun ad => ad 0) (mc := 2) (ms := 20) (by decide) rfl rfl rfl (Or.inl ⟨_, rfl⟩) (Nat.le_of_ble_eq_true rfl) rfl ?_
  intro p e s m args below meth c A Q ls hx hb hml hown hts hK hN hX hA hP hD hS hl hRet
  have hF : CallFix p m c cJ4_toString_0e30d 1 s args wsJ4_toString_0e30d RJ4 := ⟨hx, hb, hml, hown, hts⟩
  have hK4 : va_K D vwCl (tyL cI cJ cC cL) s := hK.sub [0, 1, 2, 3] rfl
  have hin_J0 : ∀ w ∈ u_ws RJ0 TJ0 4, w ∈ wsJ4_toString_0e30d := by decide +kernel
  have hP : va_P D vwCl [(q, .inr (8, [.ref v, .int 0, .int 0, .int (nI n)])), (v, .inl (cB, 16, .inl f))] s.heap := hP
  have hD : va_D A [(q, .inr (8, [.ref v, .int 0, .int 0, .int (nI n)])), (v, .inl (cB, 16, .inl f))] := hD
  refine va_new (ci := 9) (fs := [.null, .int 0, .int 0, .int 0]) (C := RJ0) (T := TJ0) (N := 4) hx hb hts hin_J0 tyJ0 tyJ0_ok hown (hts (.classLink RJ4 18 RJ0) (by decide +kernel)) (hts (.instantiable RJ0 4) (by decide +kernel)) (hts (.initialized RJ0) (by decide +kernel)) hK hP hD hS hA rfl (fun j hj => by rcases (show j = 0 ∨ j = 1 ∨ j = 2 ∨ j = 3 by omega) with rfl | rfl | rfl | rfl <;> rfl) (Nat.le_of_ble_eq_true rfl) (Nat.le_of_ble_eq_true rfl) dJ4_toString_0e30d_0 (fun a H hP hD hS => ?_)
  have hP : va_P D vwCl [(q, .inr (8, [.ref v, .int 0, .int 0, .int (nI n)])), (v, .inl (cB, 16, .inl f)), (a, .inr (9, [.null, .int 0, .int 0, .int 0]))] _ := hP
  have hD : va_D A [(q, .inr (8, [.ref v, .int 0, .int 0, .int (nI n)])), (v, .inl (cB, 16, .inl f)), (a, .inr (9, [.null, .int 0, .int 0, .int 0]))] := hD
  refine lv_dup hx hb dJ4_toString_0e30d_3 rfl ?_
  refine lv_aload_n hx hb dJ4_toString_0e30d_4 rfl (lv_at hl 0 rfl) ?_
  refine jf_v (X := XQ) (tys := (tyB cI cJ cC cL cB)) (av := [.ref a, .ref q]) (wc := [(q, .inr (8, [.ref v, .int 0, .int 0, .int (nI n)])), (v, .inl (cB, 16, .inl f)), (a, .inr (9, [.null, .int 0, .int 0, .int 0]))]) (wr := []) (w1 := (fun ad5 => [(q, .inr (8, [.ref v, .int 0, .int 0, .int (nI n)])), (v, .inl (cB, 16, .inl f)), (a, .inr (9, [.ref (ad5 0), .int 0, .int 0, .int 0])), ((ad5 0), .inl (cB, n, .inl (va_cpy f (fun _ => 0) 0 0 n)))])) (mc := 1) (ms := 16) KX_XQ hX hK hN hP hD hS hA (fun hb1 hp1 => va_runI (As := [.ref q]) (rest := [.ref a]) hF (c_J0_init_81219 l D cI cJ cC cL cB q v n f a hn hfit _) (cwI 1 hts gJ4_toString_0e30d_J0_init_81219 rfl rfl rfl (hts (.initialized RJ0) (by decide +kernel)) (hts (.methodLink RJ4 137 yJ0_init_81219) (by decide +kernel)) (hts (.instanceMethod yJ0_init_81219) (by decide +kernel)) rfl (by decide +kernel) ⟨Nat.le_of_ble_eq_true rfl, Nat.le_of_ble_eq_true rfl⟩) ⟨hb1, hp1⟩ rfl rfl hl.1 rfl (lv_room (Nat.le_of_ble_eq_true rfl)) dJ4_toString_0e30d_5 ⟨Nat.le_of_ble_eq_true rfl, Nat.le_of_ble_eq_true rfl⟩) (fun ad5 H locs hP hD hS hz => ?_)
  have hP : va_P D vwCl [(q, .inr (8, [.ref v, .int 0, .int 0, .int (nI n)])), (v, .inl (cB, 16, .inl f)), (a, .inr (9, [.ref (ad5 0), .int 0, .int 0, .int 0])), ((ad5 0), .inl (cB, n, .inl (va_cpy f (fun _ => 0) 0 0 n)))] _ := hP
  have hD : va_D A [(q, .inr (8, [.ref v, .int 0, .int 0, .int (nI n)])), (v, .inl (cB, 16, .inl f)), (a, .inr (9, [.ref (ad5 0), .int 0, .int 0, .int 0])), ((ad5 0), .inl (cB, n, .inl (va_cpy f (fun _ => 0) 0 0 n)))] := hD
  exact hRet (fun i => ([a, ad5 0] : List Nat).getD i 0) hP hD hS dJ4_toString_0e30d_8


def J_X3_length (t_length : Int32) : Option (Int32) :=
    some (t_length)
abbrev rmX3_length : Room := { frames := 0, cells := 0, slots := 0, locals := 0 }
set_option maxHeartbeats 4000000 in
set_option maxRecDepth 100000 in
theorem c_X3_length (l : Launch) (D : va_G) (cI cJ cC cL : ClassId) (q_t q_t_signs : Nat) (t_length : Int32) (r : Int32) (hJ : J_X3_length t_length = some (r)) (sz : Nat) : Met l yX3_length wsX3_length rmX3_length (va_Pc [.ref q_t] (jpre XT D (tyL cI cJ cC cL) [(q_t, .inr (3, [.ref q_t_signs, .int t_length]))] sz)) (va_Qi (fun r' (_ : Unit) => r' = r) (fun _ t => jpost D (tyL cI cJ cC cL) (va_A [(q_t, .inr (3, [.ref q_t_signs, .int t_length]))] sz) [(q_t, .inr (3, [.ref q_t_signs, .int t_length]))] t) (va_A [(q_t, .inr (3, [.ref q_t_signs, .int t_length]))] sz)) 0 0 (va_A [(q_t, .inr (3, [.ref q_t_signs, .int t_length]))] sz) := by
  refine jE_i (cc := cX3_length) (maxL := 1) (own := RX3) (ret := (some .int)) (lv0 := [(0, .ref q_t)]) (by decide) rfl rfl rfl (Nat.le_of_ble_eq_true rfl) rfl ?_
  intro p e s m args below meth c A Q ls hx hb hml hown hts hK hN hX hA hP hD hS hl hRet
  have hF : CallFix p m c cX3_length 1 s args wsX3_length RX3 := ⟨hx, hb, hml, hown, hts⟩
  have fl_15 := hts (.fieldLink RX3 15 "LanternLogic$Line" "length" "I") (by decide +kernel)
  have hin_X3 : ∀ w ∈ u_ws RX3 TX3 2, w ∈ wsX3_length := by decide +kernel
  unfold J_X3_length at hJ
  refine lv_aload_n hx hb dX3_length_0 rfl (lv_at hl 0 rfl) ?_
  refine va_get (ci := 3) (v := .int t_length) (C := RX3) (T := TX3) (N := 2) hx hb hts hin_X3 hown hK hP 0 rfl rfl 1 (by decide) fl_15 (fun _ h9 => h9) rfl dX3_length_1 ?_
  have e0 := Option.some.inj hJ
  exact hRet hP hD hS e0 dX3_length_4

def J_X3_empty  : Option (Int32) :=
    some ((0 : Int32))
abbrev rmX3_empty : Room := { frames := 0, cells := 0, slots := 0, locals := 0 }
set_option maxHeartbeats 4000000 in
set_option maxRecDepth 100000 in
theorem c_X3_empty (l : Launch) (D : va_G) (cI cJ cC cL : ClassId) (q_t q_t_signs : Nat) (t_length : Int32) (o_t_length : Int32) (hJ : J_X3_empty  = some (o_t_length)) (sz : Nat) : Met l yX3_empty wsX3_empty rmX3_empty (va_Pc [.ref q_t] (jpre XT D (tyL cI cJ cC cL) [(q_t, .inr (3, [.ref q_t_signs, .int t_length]))] sz)) (va_Qv (fun (_ : Unit) => True) (fun _ t => jpost D (tyL cI cJ cC cL) (va_A [(q_t, .inr (3, [.ref q_t_signs, .int t_length]))] sz) [(q_t, .inr (3, [.ref q_t_signs, .int o_t_length]))] t) (va_A [(q_t, .inr (3, [.ref q_t_signs, .int t_length]))] sz)) 0 0 (va_A [(q_t, .inr (3, [.ref q_t_signs, .int t_length]))] sz) := by
  refine jE_v (cc := cX3_empty) (maxL := 1) (own := RX3) (ret := none) (lv0 := [(0, .ref q_t)]) (by decide) rfl rfl rfl (Nat.le_of_ble_eq_true rfl) rfl ?_
  intro p e s m args below meth c A Q ls hx hb hml hown hts hK hN hX hA hP hD hS hl hRet
  have hF : CallFix p m c cX3_empty 1 s args wsX3_empty RX3 := ⟨hx, hb, hml, hown, hts⟩
  have fl_15 := hts (.fieldLink RX3 15 "LanternLogic$Line" "length" "I") (by decide +kernel)
  have hin_X3 : ∀ w ∈ u_ws RX3 TX3 2, w ∈ wsX3_empty := by decide +kernel
  unfold J_X3_empty at hJ
  refine lv_aload_n hx hb dX3_empty_0 rfl (lv_at hl 0 rfl) ?_
  refine lv_iconst (v := (0 : Int32)) hx hb dX3_empty_1 (by decide) ?_
  refine va_put (ci := 3) (v := .int (0 : Int32)) (ty := .int) (C := RX3) (T := TX3) (N := 2) hx hb hts hin_X3 tyX3 tyX3_ok nmX3 hown hK hP hD hS 0 rfl rfl 1 (by decide) fl_15 (fun _ h9 => h9) rfl (by decide +kernel) rfl rfl (Nat.le_of_ble_eq_true rfl) dX3_empty_2 (fun H locs hP hD hS => ?_)
  have hP : va_P D vwCl [(q_t, .inr (3, [.ref q_t_signs, .int (0 : Int32)]))] H := hP
  have hD : va_D A [(q_t, .inr (3, [.ref q_t_signs, .int (0 : Int32)]))] := hD
  have e0 := Option.some.inj hJ
  exact hRet (by rw [← e0]; exact hP) (by rw [← e0]; exact hD) hS dX3_empty_5

def J_X3_add_b36 (v1 : Int32) (t_length : Int32) (t_signs : Nat → Int32) : Option (Int32 × (Nat → Int32)) :=
    some (t_length, t_signs)
def J_X3_add (t_length : Int32) (t_signs : Nat → Int32) (v1 : Int32) : Option (Int32 × (Nat → Int32)) :=
    if t_length < 0 then (
    J_X3_add_b36 v1 t_length t_signs)
    else (
    if (32 : Int32) ≤ t_length then (
    J_X3_add_b36 v1 t_length t_signs)
    else (
    chk t_length 32 (
    nm (t_length + (1 : Int32)) fun x32 =>
    J_X3_add_b36 v1 x32 (upd t_signs t_length.toNatClampNeg (vp_nar .char v1)))))
abbrev rmX3_add : Room := { frames := 0, cells := 0, slots := 0, locals := 0 }
set_option maxHeartbeats 4000000 in
set_option maxRecDepth 100000 in
theorem c_X3_add (l : Launch) (D : va_G) (cI cJ cC cL : ClassId) (q_t q_t_signs : Nat) (t_length : Int32) (t_signs : Nat → Int32) (v1 : Int32) (o_t_length : Int32) (o_t_signs : Nat → Int32) (hJ : J_X3_add t_length t_signs v1 = some (o_t_length, o_t_signs)) (sz : Nat) : Met l yX3_add wsX3_add rmX3_add (va_Pc [.ref q_t, .int v1] (jpre XT D (tyL cI cJ cC cL) [(q_t, .inr (3, [.ref q_t_signs, .int t_length])), (q_t_signs, .inl (cC, 32, .inl t_signs))] sz)) (va_Qv (fun (_ : Unit) => True) (fun _ t => jpost D (tyL cI cJ cC cL) (va_A [(q_t, .inr (3, [.ref q_t_signs, .int t_length])), (q_t_signs, .inl (cC, 32, .inl t_signs))] sz) [(q_t, .inr (3, [.ref q_t_signs, .int o_t_length])), (q_t_signs, .inl (cC, 32, .inl o_t_signs))] t) (va_A [(q_t, .inr (3, [.ref q_t_signs, .int t_length])), (q_t_signs, .inl (cC, 32, .inl t_signs))] sz)) 0 0 (va_A [(q_t, .inr (3, [.ref q_t_signs, .int t_length])), (q_t_signs, .inl (cC, 32, .inl t_signs))] sz) := by
  refine jE_v (cc := cX3_add) (maxL := 2) (own := RX3) (ret := none) (lv0 := [(0, .ref q_t), (1, .int v1)]) (by decide) rfl rfl rfl (Nat.le_of_ble_eq_true rfl) rfl ?_
  intro p e s m args below meth c A Q ls hx hb hml hown hts hK hN hX hA hP hD hS hl hRet
  have hF : CallFix p m c cX3_add 2 s args wsX3_add RX3 := ⟨hx, hb, hml, hown, hts⟩
  have fl_9 := hts (.fieldLink RX3 9 "LanternLogic$Line" "signs" "[C") (by decide +kernel)
  have fl_15 := hts (.fieldLink RX3 15 "LanternLogic$Line" "length" "I") (by decide +kernel)
  have hin_X3 : ∀ w ∈ u_ws RX3 TX3 2, w ∈ wsX3_add := by decide +kernel
  have B36 : ∀ (t_length : Int32) (t_signs : Nat → Int32) (H : Heap) (locs : List Loc), va_P D vwCl [(q_t, .inr (3, [.ref q_t_signs, .int t_length])), (q_t_signs, .inl (cC, 32, .inl t_signs))] H → va_D A [(q_t, .inr (3, [.ref q_t_signs, .int t_length])), (q_t_signs, .inl (cC, 32, .inl t_signs))] → va_S A s.heap H locs → ∀ ls : Array Slot, lv_has ls 2 [] → J_X3_add_b36  v1 t_length t_signs = some (o_t_length, o_t_signs) → W p l e rmX3_add s m args below meth c H locs 0 0 Q (F0 m 36 ls []) := by
    intro t_length t_signs H locs hP hD hS ls hl hJ
    unfold J_X3_add_b36 at hJ
    have hJ := Option.some.inj hJ
    obtain ⟨e0, e1⟩ : (t_length) = o_t_length ∧ (t_signs) = o_t_signs := ⟨congrArg (fun z => z.1) hJ, congrArg (fun z => z.2) hJ⟩
    exact hRet (by rw [← e0, ← e1]; exact hP) (by rw [← e0, ← e1]; exact hD) hS dX3_add_36
  unfold J_X3_add at hJ
  refine lv_aload_n hx hb dX3_add_0 rfl (lv_at hl 0 rfl) ?_
  refine va_get (ci := 3) (v := .int t_length) (C := RX3) (T := TX3) (N := 2) hx hb hts hin_X3 hown hK hP 0 rfl rfl 1 (by decide) fl_15 (fun _ h9 => h9) rfl dX3_add_1 ?_
  refine jif_lt (tgt := 36) hx hb dX3_add_4 (by decide) hJ (fun hJ => ?_) (fun hJ => ?_)
  · exact B36  t_length t_signs  s.heap []  hP hD hS _ (lv_sub hl [] rfl) hJ
  · refine lv_aload_n hx hb dX3_add_7 rfl (lv_at hl 0 rfl) ?_
    refine va_get (ci := 3) (v := .int t_length) (C := RX3) (T := TX3) (N := 2) hx hb hts hin_X3 hown hK hP 0 rfl rfl 1 (by decide) fl_15 (fun _ h9 => h9) rfl dX3_add_8 ?_
    refine lv_bipush (v := (32 : Int32)) hx hb dX3_add_11 (by decide) ?_
    refine jif_icmp_ge (tgt := 36) hx hb dX3_add_13 (by decide) hJ (fun hJ => ?_) (fun hJ => ?_)
    · exact B36  t_length t_signs  s.heap []  hP hD hS _ (lv_sub hl [] rfl) hJ
    · refine lv_aload_n hx hb dX3_add_16 rfl (lv_at hl 0 rfl) ?_
      refine va_get (ci := 3) (v := .ref q_t_signs) (C := RX3) (T := TX3) (N := 2) hx hb hts hin_X3 hown hK hP 0 rfl rfl 0 (by decide) fl_9 (fun _ h9 => h9) rfl dX3_add_17 ?_
      refine lv_aload_n hx hb dX3_add_20 rfl (lv_at hl 0 rfl) ?_
      refine va_get (ci := 3) (v := .int t_length) (C := RX3) (T := TX3) (N := 2) hx hb hts hin_X3 hown hK hP 0 rfl rfl 1 (by decide) fl_15 (fun _ h9 => h9) rfl dX3_add_21 ?_
      refine lv_iload_n hx hb dX3_add_24 rfl (lv_at hl 1 rfl) ?_
      obtain ⟨hin, hJ⟩ := chk_in hJ
      refine va_cast hx hb hK hP hD hS 1 2 rfl rfl hin dX3_add_25 (fun H locs hP hD hS => ?_)
      have hP : va_P D vwCl [(q_t, .inr (3, [.ref q_t_signs, .int t_length])), (q_t_signs, .inl (cC, 32, .inl (upd t_signs t_length.toNatClampNeg (vp_nar .char v1))))] H := hP
      have hD : va_D A [(q_t, .inr (3, [.ref q_t_signs, .int t_length])), (q_t_signs, .inl (cC, 32, .inl (upd t_signs t_length.toNatClampNeg (vp_nar .char v1))))] := hD
      refine lv_aload_n hx hb dX3_add_26 rfl (lv_at hl 0 rfl) ?_
      refine lv_dup hx hb dX3_add_27 rfl ?_
      refine va_get (ci := 3) (v := .int t_length) (C := RX3) (T := TX3) (N := 2) hx hb hts hin_X3 hown hK hP 0 rfl rfl 1 (by decide) fl_15 (fun _ h9 => h9) rfl dX3_add_28 ?_
      refine lv_iconst (v := (1 : Int32)) hx hb dX3_add_31 (by decide) ?_
      refine lv_iadd hx hb dX3_add_32 ?_
      refine jt_i hJ (fun x32 hJ => ?_)
      refine va_put (ci := 3) (v := .int x32) (ty := .int) (C := RX3) (T := TX3) (N := 2) hx hb hts hin_X3 tyX3 tyX3_ok nmX3 hown hK hP hD hS 0 rfl rfl 1 (by decide) fl_15 (fun _ h9 => h9) rfl (by decide +kernel) rfl rfl (Nat.le_of_ble_eq_true rfl) dX3_add_33 (fun H locs hP hD hS => ?_)
      have hP : va_P D vwCl [(q_t, .inr (3, [.ref q_t_signs, .int x32])), (q_t_signs, .inl (cC, 32, .inl (upd t_signs t_length.toNatClampNeg (vp_nar .char v1))))] H := hP
      have hD : va_D A [(q_t, .inr (3, [.ref q_t_signs, .int x32])), (q_t_signs, .inl (cC, 32, .inl (upd t_signs t_length.toNatClampNeg (vp_nar .char v1))))] := hD
      exact B36  x32 (upd t_signs t_length.toNatClampNeg (vp_nar .char v1))  H locs  hP hD hS _ (lv_sub hl [] rfl) hJ

def J_X3_addNumber_b18 (v1 : Int32) (t_length : Int32) (t_signs : Nat → Int32) : Option (Int32 × (Nat → Int32)) :=
    chn (10 : Int32) (
    nm ((((48 : Int32) + (v1 - v1 / (10 : Int32) * (10 : Int32))).toUInt32 % 65536).toInt32) fun x26 =>
    bnd2 (J_X3_add t_length t_signs x26) fun t_length_27 t_signs_27 =>
    some (t_length_27, t_signs_27))
def J_X3_addNumber (t_length : Int32) (t_signs : Nat → Int32) (v1 : Int32) : Option (Int32 × (Nat → Int32)) :=
    if v1 < (10 : Int32) then (
    J_X3_addNumber_b18 v1 t_length t_signs)
    else (
    chn (10 : Int32) (
    nm ((((48 : Int32) + (v1 / (10 : Int32))).toUInt32 % 65536).toInt32) fun x14 =>
    bnd2 (J_X3_add t_length t_signs x14) fun t_length_15 t_signs_15 =>
    J_X3_addNumber_b18 v1 t_length_15 t_signs_15))
abbrev rmX3_addNumber : Room := { frames := 1, cells := 0, slots := 0, locals := 21 }
set_option maxHeartbeats 4000000 in
set_option maxRecDepth 100000 in
theorem c_X3_addNumber (l : Launch) (D : va_G) (cI cJ cC cL : ClassId) (q_t q_t_signs : Nat) (t_length : Int32) (t_signs : Nat → Int32) (v1 : Int32) (o_t_length : Int32) (o_t_signs : Nat → Int32) (hJ : J_X3_addNumber t_length t_signs v1 = some (o_t_length, o_t_signs)) (sz : Nat) : Met l yX3_addNumber wsX3_addNumber rmX3_addNumber (va_Pc [.ref q_t, .int v1] (jpre XT D (tyL cI cJ cC cL) [(q_t, .inr (3, [.ref q_t_signs, .int t_length])), (q_t_signs, .inl (cC, 32, .inl t_signs))] sz)) (va_Qv (fun (_ : Unit) => True) (fun _ t => jpost D (tyL cI cJ cC cL) (va_A [(q_t, .inr (3, [.ref q_t_signs, .int t_length])), (q_t_signs, .inl (cC, 32, .inl t_signs))] sz) [(q_t, .inr (3, [.ref q_t_signs, .int o_t_length])), (q_t_signs, .inl (cC, 32, .inl o_t_signs))] t) (va_A [(q_t, .inr (3, [.ref q_t_signs, .int t_length])), (q_t_signs, .inl (cC, 32, .inl t_signs))] sz)) 0 0 (va_A [(q_t, .inr (3, [.ref q_t_signs, .int t_length])), (q_t_signs, .inl (cC, 32, .inl t_signs))] sz) := by
  refine jE_v (cc := cX3_addNumber) (maxL := 2) (own := RX3) (ret := none) (lv0 := [(0, .ref q_t), (1, .int v1)]) (by decide) rfl rfl rfl (Nat.le_of_ble_eq_true rfl) rfl ?_
  intro p e s m args below meth c A Q ls hx hb hml hown hts hK hN hX hA hP hD hS hl hRet
  have hF : CallFix p m c cX3_addNumber 2 s args wsX3_addNumber RX3 := ⟨hx, hb, hml, hown, hts⟩
  have B18 : ∀ (t_length : Int32) (t_signs : Nat → Int32) (H : Heap) (locs : List Loc), va_P D vwCl [(q_t, .inr (3, [.ref q_t_signs, .int t_length])), (q_t_signs, .inl (cC, 32, .inl t_signs))] H → va_D A [(q_t, .inr (3, [.ref q_t_signs, .int t_length])), (q_t_signs, .inl (cC, 32, .inl t_signs))] → va_S A s.heap H locs → ∀ ls : Array Slot, lv_has ls 2 [(0, .ref q_t), (1, .int v1)] → J_X3_addNumber_b18  v1 t_length t_signs = some (o_t_length, o_t_signs) → W p l e rmX3_addNumber s m args below meth c H locs 0 0 Q (F0 m 18 ls []) := by
    intro t_length t_signs H locs hP hD hS ls hl hJ
    unfold J_X3_addNumber_b18 at hJ
    refine lv_aload_n hx hb dX3_addNumber_18 rfl (lv_at hl 0 rfl) ?_
    refine lv_bipush (v := (48 : Int32)) hx hb dX3_addNumber_19 (by decide) ?_
    refine lv_iload_n hx hb dX3_addNumber_21 rfl (lv_at hl 1 rfl) ?_
    refine lv_bipush (v := (10 : Int32)) hx hb dX3_addNumber_22 (by decide) ?_
    obtain ⟨hne, hJ⟩ := chn_ok hJ
    refine lv_irem hx hb dX3_addNumber_24 hne ?_
    refine lv_iadd hx hb dX3_addNumber_25 ?_
    refine lv_i2c (v := (((48 : Int32) + (v1 - v1 / (10 : Int32) * (10 : Int32))).toUInt32 % 65536).toInt32) hx hb dX3_addNumber_26 rfl ?_
    refine jt_i hJ (fun x26 hJ => ?_)
    obtain ⟨t_length_27, t_signs_27, hc27, hJ⟩ := bnd2_some hJ
    refine jcV_v (C := RX3) (T := TX3) (N := 2) (ci := 3) (q0 := 0) (As := [.int x26]) (rest := []) (isC := [0, 1]) (isR := []) (isB := [0, 1]) (wr := []) (ws2 := [(q_t, .inr (3, [.ref q_t_signs, .int t_length_27])), (q_t_signs, .inl (cC, 32, .inl t_signs_27))]) hF (c_X3_add l D cI cJ cC cL q_t q_t_signs t_length t_signs x26 t_length_27 t_signs_27 hc27 H.size) (cwV 1 hts gX3_addNumber_X3_add rfl rfl rfl (by decide +kernel) ⟨Nat.le_of_ble_eq_true rfl, Nat.le_of_ble_eq_true rfl⟩) rfl hl rfl (Nat.le_of_ble_eq_true rfl) dX3_addNumber_27 ⟨Nat.zero_le _, Nat.zero_le _⟩ hK hN KX_T trivial hP hD hS hA rfl rfl rfl rfl rfl rfl (by decide) rfl rfl (fun H locs hP hD hS => ?_)
    have hJ := Option.some.inj hJ
    obtain ⟨e0, e1⟩ : (t_length_27) = o_t_length ∧ (t_signs_27) = o_t_signs := ⟨congrArg (fun z => z.1) hJ, congrArg (fun z => z.2) hJ⟩
    exact hRet (by rw [← e0, ← e1]; exact hP) (by rw [← e0, ← e1]; exact hD) hS dX3_addNumber_30
  unfold J_X3_addNumber at hJ
  refine lv_iload_n hx hb dX3_addNumber_0 rfl (lv_at hl 1 rfl) ?_
  refine lv_bipush (v := (10 : Int32)) hx hb dX3_addNumber_1 (by decide) ?_
  refine jif_icmp_lt (tgt := 18) hx hb dX3_addNumber_3 (by decide) hJ (fun hJ => ?_) (fun hJ => ?_)
  · exact B18  t_length t_signs  s.heap []  hP hD hS _ (lv_sub hl [0, 1] rfl) hJ
  · refine lv_aload_n hx hb dX3_addNumber_6 rfl (lv_at hl 0 rfl) ?_
    refine lv_bipush (v := (48 : Int32)) hx hb dX3_addNumber_7 (by decide) ?_
    refine lv_iload_n hx hb dX3_addNumber_9 rfl (lv_at hl 1 rfl) ?_
    refine lv_bipush (v := (10 : Int32)) hx hb dX3_addNumber_10 (by decide) ?_
    obtain ⟨hne, hJ⟩ := chn_ok hJ
    refine lv_idiv hx hb dX3_addNumber_12 hne ?_
    refine lv_iadd hx hb dX3_addNumber_13 ?_
    refine lv_i2c (v := (((48 : Int32) + (v1 / (10 : Int32))).toUInt32 % 65536).toInt32) hx hb dX3_addNumber_14 rfl ?_
    refine jt_i hJ (fun x14 hJ => ?_)
    obtain ⟨t_length_15, t_signs_15, hc15, hJ⟩ := bnd2_some hJ
    refine jcV_v (C := RX3) (T := TX3) (N := 2) (ci := 3) (q0 := 0) (As := [.int x14]) (rest := []) (isC := [0, 1]) (isR := []) (isB := [0, 1]) (wr := []) (ws2 := [(q_t, .inr (3, [.ref q_t_signs, .int t_length_15])), (q_t_signs, .inl (cC, 32, .inl t_signs_15))]) hF (c_X3_add l D cI cJ cC cL q_t q_t_signs t_length t_signs x14 t_length_15 t_signs_15 hc15 s.heap.size) (cwV 1 hts gX3_addNumber_X3_add rfl rfl rfl (by decide +kernel) ⟨Nat.le_of_ble_eq_true rfl, Nat.le_of_ble_eq_true rfl⟩) rfl hl rfl (Nat.le_of_ble_eq_true rfl) dX3_addNumber_15 ⟨Nat.zero_le _, Nat.zero_le _⟩ hK hN KX_T trivial hP hD hS hA rfl rfl rfl rfl rfl rfl (by decide) rfl rfl (fun H locs hP hD hS => ?_)
    exact B18  t_length_15 t_signs_15  H locs  hP hD hS _ (lv_sub hl [0, 1] rfl) hJ

def J_X3_codeAt_b29 (t_length : Int32) (t_signs : Nat → Int32) (v1 : Int32) (s29_0 : Int32) : Option (Int32) :=
    some (s29_0)
def J_X3_codeAt_b27 (t_length : Int32) (t_signs : Nat → Int32) (v1 : Int32) : Option (Int32) :=
    J_X3_codeAt_b29 t_length t_signs v1 (-11 : Int32)
def J_X3_codeAt (t_length : Int32) (t_signs : Nat → Int32) (v1 : Int32) : Option (Int32) :=
    if v1 < 0 then (
    J_X3_codeAt_b27 t_length t_signs v1 )
    else (
    if t_length ≤ v1 then (
    J_X3_codeAt_b27 t_length t_signs v1 )
    else (
    if (32 : Int32) ≤ v1 then (
    J_X3_codeAt_b27 t_length t_signs v1 )
    else (
    chk v1 32 (
    nm (t_signs v1.toNatClampNeg) fun x23 =>
    J_X3_codeAt_b29 t_length t_signs v1 x23))))
abbrev rmX3_codeAt : Room := { frames := 0, cells := 0, slots := 0, locals := 0 }
set_option maxHeartbeats 4000000 in
set_option maxRecDepth 100000 in
theorem c_X3_codeAt (l : Launch) (D : va_G) (cI cJ cC cL : ClassId) (q_t q_t_signs : Nat) (t_length : Int32) (t_signs : Nat → Int32) (v1 : Int32) (r : Int32) (hJ : J_X3_codeAt t_length t_signs v1 = some (r)) (sz : Nat) : Met l yX3_codeAt wsX3_codeAt rmX3_codeAt (va_Pc [.ref q_t, .int v1] (jpre XT D (tyL cI cJ cC cL) [(q_t, .inr (3, [.ref q_t_signs, .int t_length])), (q_t_signs, .inl (cC, 32, .inl t_signs))] sz)) (va_Qi (fun r' (_ : Unit) => r' = r) (fun _ t => jpost D (tyL cI cJ cC cL) (va_A [(q_t, .inr (3, [.ref q_t_signs, .int t_length])), (q_t_signs, .inl (cC, 32, .inl t_signs))] sz) [(q_t, .inr (3, [.ref q_t_signs, .int t_length])), (q_t_signs, .inl (cC, 32, .inl t_signs))] t) (va_A [(q_t, .inr (3, [.ref q_t_signs, .int t_length])), (q_t_signs, .inl (cC, 32, .inl t_signs))] sz)) 0 0 (va_A [(q_t, .inr (3, [.ref q_t_signs, .int t_length])), (q_t_signs, .inl (cC, 32, .inl t_signs))] sz) := by
  refine jE_i (cc := cX3_codeAt) (maxL := 2) (own := RX3) (ret := (some .int)) (lv0 := [(0, .ref q_t), (1, .int v1)]) (by decide) rfl rfl rfl (Nat.le_of_ble_eq_true rfl) rfl ?_
  intro p e s m args below meth c A Q ls hx hb hml hown hts hK hN hX hA hP hD hS hl hRet
  have hF : CallFix p m c cX3_codeAt 2 s args wsX3_codeAt RX3 := ⟨hx, hb, hml, hown, hts⟩
  have fl_9 := hts (.fieldLink RX3 9 "LanternLogic$Line" "signs" "[C") (by decide +kernel)
  have fl_15 := hts (.fieldLink RX3 15 "LanternLogic$Line" "length" "I") (by decide +kernel)
  have hin_X3 : ∀ w ∈ u_ws RX3 TX3 2, w ∈ wsX3_codeAt := by decide +kernel
  have B29 : ∀ (s29_0 : Int32) (H : Heap) (locs : List Loc), va_P D vwCl [(q_t, .inr (3, [.ref q_t_signs, .int t_length])), (q_t_signs, .inl (cC, 32, .inl t_signs))] H → va_D A [(q_t, .inr (3, [.ref q_t_signs, .int t_length])), (q_t_signs, .inl (cC, 32, .inl t_signs))] → va_S A s.heap H locs → ∀ ls : Array Slot, lv_has ls 2 [] → J_X3_codeAt_b29  t_length t_signs v1 s29_0 = some (r) → W p l e rmX3_codeAt s m args below meth c H locs 0 0 Q (F0 m 29 ls [.int s29_0]) := by
    intro s29_0 H locs hP hD hS ls hl hJ
    unfold J_X3_codeAt_b29 at hJ
    have e0 := Option.some.inj hJ
    exact hRet hP hD hS e0 dX3_codeAt_29
  have B27 : ∀ (H : Heap) (locs : List Loc), va_P D vwCl [(q_t, .inr (3, [.ref q_t_signs, .int t_length])), (q_t_signs, .inl (cC, 32, .inl t_signs))] H → va_D A [(q_t, .inr (3, [.ref q_t_signs, .int t_length])), (q_t_signs, .inl (cC, 32, .inl t_signs))] → va_S A s.heap H locs → ∀ ls : Array Slot, lv_has ls 2 [] → J_X3_codeAt_b27  t_length t_signs v1  = some (r) → W p l e rmX3_codeAt s m args below meth c H locs 0 0 Q (F0 m 27 ls []) := by
    intro H locs hP hD hS ls hl hJ
    unfold J_X3_codeAt_b27 at hJ
    refine lv_bipush (v := (-11 : Int32)) hx hb dX3_codeAt_27 (by decide) ?_
    exact B29  (-11 : Int32)  H locs  hP hD hS _ (lv_sub hl [] rfl) hJ
  unfold J_X3_codeAt at hJ
  refine lv_iload_n hx hb dX3_codeAt_0 rfl (lv_at hl 1 rfl) ?_
  refine jif_lt (tgt := 27) hx hb dX3_codeAt_1 (by decide) hJ (fun hJ => ?_) (fun hJ => ?_)
  · exact B27    s.heap []  hP hD hS _ (lv_sub hl [] rfl) hJ
  · refine lv_iload_n hx hb dX3_codeAt_4 rfl (lv_at hl 1 rfl) ?_
    refine lv_aload_n hx hb dX3_codeAt_5 rfl (lv_at hl 0 rfl) ?_
    refine va_get (ci := 3) (v := .int t_length) (C := RX3) (T := TX3) (N := 2) hx hb hts hin_X3 hown hK hP 0 rfl rfl 1 (by decide) fl_15 (fun _ h9 => h9) rfl dX3_codeAt_6 ?_
    refine jif_icmp_ge (tgt := 27) hx hb dX3_codeAt_9 (by decide) hJ (fun hJ => ?_) (fun hJ => ?_)
    · exact B27    s.heap []  hP hD hS _ (lv_sub hl [] rfl) hJ
    · refine lv_iload_n hx hb dX3_codeAt_12 rfl (lv_at hl 1 rfl) ?_
      refine lv_bipush (v := (32 : Int32)) hx hb dX3_codeAt_13 (by decide) ?_
      refine jif_icmp_ge (tgt := 27) hx hb dX3_codeAt_15 (by decide) hJ (fun hJ => ?_) (fun hJ => ?_)
      · exact B27    s.heap []  hP hD hS _ (lv_sub hl [] rfl) hJ
      · refine lv_aload_n hx hb dX3_codeAt_18 rfl (lv_at hl 0 rfl) ?_
        refine va_get (ci := 3) (v := .ref q_t_signs) (C := RX3) (T := TX3) (N := 2) hx hb hts hin_X3 hown hK hP 0 rfl rfl 0 (by decide) fl_9 (fun _ h9 => h9) rfl dX3_codeAt_19 ?_
        refine lv_iload_n hx hb dX3_codeAt_22 rfl (lv_at hl 1 rfl) ?_
        obtain ⟨hin, hJ⟩ := chk_in hJ
        refine va_cald hx hb hK hP 1 2 rfl rfl hin dX3_codeAt_23 ?_
        refine jt_i hJ (fun x23 hJ => ?_)
        refine lv_goto (tgt := 29) hx hb dX3_codeAt_24 (by decide) ?_
        exact B29  x23  s.heap []  hP hD hS _ (lv_sub hl [] rfl) hJ

def J_X4_undoable (t_undoable : Int32) : Option (Int32) :=
    some (t_undoable)
abbrev rmX4_undoable : Room := { frames := 0, cells := 0, slots := 0, locals := 0 }
set_option maxHeartbeats 4000000 in
set_option maxRecDepth 100000 in
theorem c_X4_undoable (l : Launch) (D : va_G) (cI cJ cC cL : ClassId) (q_t q_t_ring : Nat) (t_top : Int32) (t_undoable : Int32) (r : Int32) (hJ : J_X4_undoable t_undoable = some (r)) (sz : Nat) : Met l yX4_undoable wsX4_undoable rmX4_undoable (va_Pc [.ref q_t] (jpre XT D (tyL cI cJ cC cL) [(q_t, .inr (4, [.ref q_t_ring, .int t_top, .int t_undoable]))] sz)) (va_Qi (fun r' (_ : Unit) => r' = r) (fun _ t => jpost D (tyL cI cJ cC cL) (va_A [(q_t, .inr (4, [.ref q_t_ring, .int t_top, .int t_undoable]))] sz) [(q_t, .inr (4, [.ref q_t_ring, .int t_top, .int t_undoable]))] t) (va_A [(q_t, .inr (4, [.ref q_t_ring, .int t_top, .int t_undoable]))] sz)) 0 0 (va_A [(q_t, .inr (4, [.ref q_t_ring, .int t_top, .int t_undoable]))] sz) := by
  refine jE_i (cc := cX4_undoable) (maxL := 1) (own := RX4) (ret := (some .int)) (lv0 := [(0, .ref q_t)]) (by decide) rfl rfl rfl (Nat.le_of_ble_eq_true rfl) rfl ?_
  intro p e s m args below meth c A Q ls hx hb hml hown hts hK hN hX hA hP hD hS hl hRet
  have hF : CallFix p m c cX4_undoable 1 s args wsX4_undoable RX4 := ⟨hx, hb, hml, hown, hts⟩
  have fl_18 := hts (.fieldLink RX4 18 "LanternLogic$Past" "undoable" "I") (by decide +kernel)
  have hin_X4 : ∀ w ∈ u_ws RX4 TX4 3, w ∈ wsX4_undoable := by decide +kernel
  unfold J_X4_undoable at hJ
  refine lv_aload_n hx hb dX4_undoable_0 rfl (lv_at hl 0 rfl) ?_
  refine va_get (ci := 4) (v := .int t_undoable) (C := RX4) (T := TX4) (N := 3) hx hb hts hin_X4 hown hK hP 0 rfl rfl 2 (by decide) fl_18 (fun _ h9 => h9) rfl dX4_undoable_1 ?_
  have e0 := Option.some.inj hJ
  exact hRet hP hD hS e0 dX4_undoable_4

def J_X4_keepHeld_b20 (t_top : Int32) (t_undoable : Int32) (s20_1 : Int32) : Option (Int32 × Int32) :=
    nm (t_undoable + (1 : Int32)) fun x29 =>
    nm (if (8 : Int32) < x29 then (8 : Int32) else x29) fun x32 =>
    some (s20_1, x32)
def J_X4_keepHeld (t_top : Int32) (t_undoable : Int32) : Option (Int32 × Int32) :=
    if (8 : Int32) ≤ t_top then (
    J_X4_keepHeld_b20  t_top t_undoable (0 : Int32))
    else (
    nm (t_top + (1 : Int32)) fun x15 =>
    J_X4_keepHeld_b20  t_top t_undoable x15)
abbrev rmX4_keepHeld : Room := { frames := 1, cells := 0, slots := 0, locals := 21 }
set_option maxHeartbeats 4000000 in
set_option maxRecDepth 100000 in
theorem c_X4_keepHeld (l : Launch) (D : va_G) (cI cJ cC cL : ClassId) (q_t q_t_ring : Nat) (t_top : Int32) (t_undoable : Int32) (o_t_top : Int32) (o_t_undoable : Int32) (hJ : J_X4_keepHeld t_top t_undoable = some (o_t_top, o_t_undoable)) (sz : Nat) : Met l yX4_keepHeld wsX4_keepHeld rmX4_keepHeld (va_Pc [.ref q_t] (jpre XT D (tyL cI cJ cC cL) [(q_t, .inr (4, [.ref q_t_ring, .int t_top, .int t_undoable]))] sz)) (va_Qv (fun (_ : Unit) => True) (fun _ t => jpost D (tyL cI cJ cC cL) (va_A [(q_t, .inr (4, [.ref q_t_ring, .int t_top, .int t_undoable]))] sz) [(q_t, .inr (4, [.ref q_t_ring, .int o_t_top, .int o_t_undoable]))] t) (va_A [(q_t, .inr (4, [.ref q_t_ring, .int t_top, .int t_undoable]))] sz)) 0 0 (va_A [(q_t, .inr (4, [.ref q_t_ring, .int t_top, .int t_undoable]))] sz) := by
  refine jE_v (cc := cX4_keepHeld) (maxL := 1) (own := RX4) (ret := none) (lv0 := [(0, .ref q_t)]) (by decide) rfl rfl rfl (Nat.le_of_ble_eq_true rfl) rfl ?_
  intro p e s m args below meth c A Q ls hx hb hml hown hts hK hN hX hA hP hD hS hl hRet
  have hF : CallFix p m c cX4_keepHeld 1 s args wsX4_keepHeld RX4 := ⟨hx, hb, hml, hown, hts⟩
  have fl_18 := hts (.fieldLink RX4 18 "LanternLogic$Past" "undoable" "I") (by decide +kernel)
  have fl_22 := hts (.fieldLink RX4 22 "LanternLogic$Past" "top" "I") (by decide +kernel)
  have hin_X4 : ∀ w ∈ u_ws RX4 TX4 3, w ∈ wsX4_keepHeld := by decide +kernel
  have B20 : ∀ (t_top : Int32) (t_undoable : Int32) (s20_1 : Int32) (H : Heap) (locs : List Loc), va_P D vwCl [(q_t, .inr (4, [.ref q_t_ring, .int t_top, .int t_undoable]))] H → va_D A [(q_t, .inr (4, [.ref q_t_ring, .int t_top, .int t_undoable]))] → va_S A s.heap H locs → ∀ ls : Array Slot, lv_has ls 1 [(0, .ref q_t)] → J_X4_keepHeld_b20   t_top t_undoable s20_1 = some (o_t_top, o_t_undoable) → W p l e rmX4_keepHeld s m args below meth c H locs 0 0 Q (F0 m 20 ls [.int s20_1, .ref q_t]) := by
    intro t_top t_undoable s20_1 H locs hP hD hS ls hl hJ
    unfold J_X4_keepHeld_b20 at hJ
    refine va_put (ci := 4) (v := .int s20_1) (ty := .int) (C := RX4) (T := TX4) (N := 3) hx hb hts hin_X4 tyX4 tyX4_ok nmX4 hown hK hP hD hS 0 rfl rfl 1 (by decide) fl_22 (fun _ h9 => h9) rfl (by decide +kernel) rfl rfl (Nat.le_of_ble_eq_true rfl) dX4_keepHeld_20 (fun H locs hP hD hS => ?_)
    have hP : va_P D vwCl [(q_t, .inr (4, [.ref q_t_ring, .int s20_1, .int t_undoable]))] H := hP
    have hD : va_D A [(q_t, .inr (4, [.ref q_t_ring, .int s20_1, .int t_undoable]))] := hD
    refine lv_aload_n hx hb dX4_keepHeld_23 rfl (lv_at hl 0 rfl) ?_
    refine lv_aload_n hx hb dX4_keepHeld_24 rfl (lv_at hl 0 rfl) ?_
    refine va_get (ci := 4) (v := .int t_undoable) (C := RX4) (T := TX4) (N := 3) hx hb hts hin_X4 hown hK hP 0 rfl rfl 2 (by decide) fl_18 (fun _ h9 => h9) rfl dX4_keepHeld_25 ?_
    refine lv_iconst (v := (1 : Int32)) hx hb dX4_keepHeld_28 (by decide) ?_
    refine lv_iadd hx hb dX4_keepHeld_29 ?_
    refine jt_i hJ (fun x29 hJ => ?_)
    refine lv_bipush (v := (8 : Int32)) hx hb dX4_keepHeld_30 (by decide) ?_
    refine va_mmin hx hb (hml.trans hl.1.symm) hown (hts (.methodLink RX4 33 Lib.Math.min.name) (by decide +kernel)) (hts (.static Lib.Math.min.name) (by decide +kernel)) (hts (.initialized "java/lang/Math") (by decide +kernel)) (hts (.code Lib.Math.min.name Lib.Math.min.code 2 (some .int)) (by decide +kernel)) (Nat.le_of_ble_eq_true rfl) (Nat.le_of_ble_eq_true rfl) (Nat.zero_le _) (Nat.zero_le _) dX4_keepHeld_32 ?_
    refine jt_i hJ (fun x32 hJ => ?_)
    refine va_put (ci := 4) (v := .int x32) (ty := .int) (C := RX4) (T := TX4) (N := 3) hx hb hts hin_X4 tyX4 tyX4_ok nmX4 hown hK hP hD hS 0 rfl rfl 2 (by decide) fl_18 (fun _ h9 => h9) rfl (by decide +kernel) rfl rfl (Nat.le_of_ble_eq_true rfl) dX4_keepHeld_35 (fun H locs hP hD hS => ?_)
    have hP : va_P D vwCl [(q_t, .inr (4, [.ref q_t_ring, .int s20_1, .int x32]))] H := hP
    have hD : va_D A [(q_t, .inr (4, [.ref q_t_ring, .int s20_1, .int x32]))] := hD
    have hJ := Option.some.inj hJ
    obtain ⟨e0, e1⟩ : (s20_1) = o_t_top ∧ (x32) = o_t_undoable := ⟨congrArg (fun z => z.1) hJ, congrArg (fun z => z.2) hJ⟩
    exact hRet (by rw [← e0, ← e1]; exact hP) (by rw [← e0, ← e1]; exact hD) hS dX4_keepHeld_38
  unfold J_X4_keepHeld at hJ
  refine lv_aload_n hx hb dX4_keepHeld_0 rfl (lv_at hl 0 rfl) ?_
  refine lv_aload_n hx hb dX4_keepHeld_1 rfl (lv_at hl 0 rfl) ?_
  refine va_get (ci := 4) (v := .int t_top) (C := RX4) (T := TX4) (N := 3) hx hb hts hin_X4 hown hK hP 0 rfl rfl 1 (by decide) fl_22 (fun _ h9 => h9) rfl dX4_keepHeld_2 ?_
  refine lv_bipush (v := (8 : Int32)) hx hb dX4_keepHeld_5 (by decide) ?_
  refine jif_icmp_ge (tgt := 19) hx hb dX4_keepHeld_7 (by decide) hJ (fun hJ => ?_) (fun hJ => ?_)
  · refine lv_iconst (v := (0 : Int32)) hx hb dX4_keepHeld_19 (by decide) ?_
    exact B20  t_top t_undoable (0 : Int32)  s.heap []  hP hD hS _ (lv_sub hl [0] rfl) hJ
  · refine lv_aload_n hx hb dX4_keepHeld_10 rfl (lv_at hl 0 rfl) ?_
    refine va_get (ci := 4) (v := .int t_top) (C := RX4) (T := TX4) (N := 3) hx hb hts hin_X4 hown hK hP 0 rfl rfl 1 (by decide) fl_22 (fun _ h9 => h9) rfl dX4_keepHeld_11 ?_
    refine lv_iconst (v := (1 : Int32)) hx hb dX4_keepHeld_14 (by decide) ?_
    refine lv_iadd hx hb dX4_keepHeld_15 ?_
    refine jt_i hJ (fun x15 hJ => ?_)
    refine lv_goto (tgt := 20) hx hb dX4_keepHeld_16 (by decide) ?_
    exact B20  t_top t_undoable x15  s.heap []  hP hD hS _ (lv_sub hl [0] rfl) hJ

def J_X4_forget  : Option (Int32) :=
    some ((0 : Int32))
abbrev rmX4_forget : Room := { frames := 0, cells := 0, slots := 0, locals := 0 }
set_option maxHeartbeats 4000000 in
set_option maxRecDepth 100000 in
theorem c_X4_forget (l : Launch) (D : va_G) (cI cJ cC cL : ClassId) (q_t q_t_ring : Nat) (t_top : Int32) (t_undoable : Int32) (o_t_undoable : Int32) (hJ : J_X4_forget  = some (o_t_undoable)) (sz : Nat) : Met l yX4_forget wsX4_forget rmX4_forget (va_Pc [.ref q_t] (jpre XT D (tyL cI cJ cC cL) [(q_t, .inr (4, [.ref q_t_ring, .int t_top, .int t_undoable]))] sz)) (va_Qv (fun (_ : Unit) => True) (fun _ t => jpost D (tyL cI cJ cC cL) (va_A [(q_t, .inr (4, [.ref q_t_ring, .int t_top, .int t_undoable]))] sz) [(q_t, .inr (4, [.ref q_t_ring, .int t_top, .int o_t_undoable]))] t) (va_A [(q_t, .inr (4, [.ref q_t_ring, .int t_top, .int t_undoable]))] sz)) 0 0 (va_A [(q_t, .inr (4, [.ref q_t_ring, .int t_top, .int t_undoable]))] sz) := by
  refine jE_v (cc := cX4_forget) (maxL := 1) (own := RX4) (ret := none) (lv0 := [(0, .ref q_t)]) (by decide) rfl rfl rfl (Nat.le_of_ble_eq_true rfl) rfl ?_
  intro p e s m args below meth c A Q ls hx hb hml hown hts hK hN hX hA hP hD hS hl hRet
  have hF : CallFix p m c cX4_forget 1 s args wsX4_forget RX4 := ⟨hx, hb, hml, hown, hts⟩
  have fl_18 := hts (.fieldLink RX4 18 "LanternLogic$Past" "undoable" "I") (by decide +kernel)
  have hin_X4 : ∀ w ∈ u_ws RX4 TX4 3, w ∈ wsX4_forget := by decide +kernel
  unfold J_X4_forget at hJ
  refine lv_aload_n hx hb dX4_forget_0 rfl (lv_at hl 0 rfl) ?_
  refine lv_iconst (v := (0 : Int32)) hx hb dX4_forget_1 (by decide) ?_
  refine va_put (ci := 4) (v := .int (0 : Int32)) (ty := .int) (C := RX4) (T := TX4) (N := 3) hx hb hts hin_X4 tyX4 tyX4_ok nmX4 hown hK hP hD hS 0 rfl rfl 2 (by decide) fl_18 (fun _ h9 => h9) rfl (by decide +kernel) rfl rfl (Nat.le_of_ble_eq_true rfl) dX4_forget_2 (fun H locs hP hD hS => ?_)
  have hP : va_P D vwCl [(q_t, .inr (4, [.ref q_t_ring, .int t_top, .int (0 : Int32)]))] H := hP
  have hD : va_D A [(q_t, .inr (4, [.ref q_t_ring, .int t_top, .int (0 : Int32)]))] := hD
  have e0 := Option.some.inj hJ
  exact hRet (by rw [← e0]; exact hP) (by rw [← e0]; exact hD) hS dX4_forget_5

def J_X5_wiredFrom_b28 (k4 : Int32 → Int32 → Option (Int32)) (a0_count : Int32) (a0_sources : Nat → Int32) (v1 : Int32) (v2 : Int32) (v3 : Int32) : Option (Int32) :=
    nm (v3 + Int32.ofInt 1) fun x28 =>
    k4 v2 x28
def J_X5_wiredFrom_L4 (a0_count : Int32) (a0_sources : Nat → Int32) (v1 : Int32) : Nat → Int32 → Int32 → Option (Int32)
  | 0, _, _ => none
  | nf + 1, v2, v3 =>
    bnd1 (J_X2_count a0_count) fun x6 =>
    if x6 ≤ v3 then (
    some (v2))
    else (
    bnd1 (J_X2_sourcesOf a0_sources v3) fun x14 =>
    if (x14 &&& v1) = 0 then (
    J_X5_wiredFrom_b28 (fun z0 z1 => J_X5_wiredFrom_L4 a0_count a0_sources v1 nf z0 z1) a0_count a0_sources v1 v2 v3)
    else (
    nm (v2 ||| ((1 : Int32) <<< (v3 &&& 31))) fun x26 =>
    J_X5_wiredFrom_b28 (fun z0 z1 => J_X5_wiredFrom_L4 a0_count a0_sources v1 nf z0 z1) a0_count a0_sources v1 x26 v3))
def J_X5_wiredFrom (a0_count : Int32) (a0_sources : Nat → Int32) (v1 : Int32) : Option (Int32) :=
    J_X5_wiredFrom_L4 a0_count a0_sources v1 FU (0 : Int32) (0 : Int32)
abbrev rmX5_wiredFrom : Room := { frames := 1, cells := 0, slots := 0, locals := 24 }
set_option maxHeartbeats 4000000 in
set_option maxRecDepth 100000 in
theorem c_X5_wiredFrom (l : Launch) (D : va_G) (cI cJ cC cL : ClassId) (q_a0 q_a0_kinds q_a0_wicks q_a0_sources q_a0_changes : Nat) (a0_count : Int32) (a0_state : Int64) (a0_areLoopsAllowed : Int32) (a0_ticks : Int32) (a0_tickChanges : Int32) (a0_sets : Int32) (a0_sources : Nat → Int32) (v1 : Int32) (r : Int32) (hJ : J_X5_wiredFrom a0_count a0_sources v1 = some (r)) (sz : Nat) : Met l yX5_wiredFrom wsX5_wiredFrom rmX5_wiredFrom (va_Pc [.ref q_a0, .int v1] (jpre XT D (tyL cI cJ cC cL) [(q_a0, .inr (2, [.int a0_count, .ref q_a0_kinds, .ref q_a0_wicks, .ref q_a0_sources, .ref q_a0_changes, .long a0_state, .int a0_areLoopsAllowed, .int a0_ticks, .int a0_tickChanges, .int a0_sets])), (q_a0_sources, .inl (cI, 48, .inl a0_sources))] sz)) (va_Qi (fun r' (_ : Unit) => r' = r) (fun _ t => jpost D (tyL cI cJ cC cL) (va_A [(q_a0, .inr (2, [.int a0_count, .ref q_a0_kinds, .ref q_a0_wicks, .ref q_a0_sources, .ref q_a0_changes, .long a0_state, .int a0_areLoopsAllowed, .int a0_ticks, .int a0_tickChanges, .int a0_sets])), (q_a0_sources, .inl (cI, 48, .inl a0_sources))] sz) [(q_a0, .inr (2, [.int a0_count, .ref q_a0_kinds, .ref q_a0_wicks, .ref q_a0_sources, .ref q_a0_changes, .long a0_state, .int a0_areLoopsAllowed, .int a0_ticks, .int a0_tickChanges, .int a0_sets])), (q_a0_sources, .inl (cI, 48, .inl a0_sources))] t) (va_A [(q_a0, .inr (2, [.int a0_count, .ref q_a0_kinds, .ref q_a0_wicks, .ref q_a0_sources, .ref q_a0_changes, .long a0_state, .int a0_areLoopsAllowed, .int a0_ticks, .int a0_tickChanges, .int a0_sets])), (q_a0_sources, .inl (cI, 48, .inl a0_sources))] sz)) 0 0 (va_A [(q_a0, .inr (2, [.int a0_count, .ref q_a0_kinds, .ref q_a0_wicks, .ref q_a0_sources, .ref q_a0_changes, .long a0_state, .int a0_areLoopsAllowed, .int a0_ticks, .int a0_tickChanges, .int a0_sets])), (q_a0_sources, .inl (cI, 48, .inl a0_sources))] sz) := by
  refine jE_i (cc := cX5_wiredFrom) (maxL := 4) (own := RX5) (ret := (some .int)) (lv0 := [(0, .ref q_a0), (1, .int v1)]) (by decide) rfl rfl rfl (Nat.le_of_ble_eq_true rfl) rfl ?_
  intro p e s m args below meth c A Q ls hx hb hml hown hts hK hN hX hA hP hD hS hl hRet
  have hF : CallFix p m c cX5_wiredFrom 4 s args wsX5_wiredFrom RX5 := ⟨hx, hb, hml, hown, hts⟩
  have B28 : ∀ (k4 : Int32 → Int32 → Option (Int32)), (∀ (v2 : Int32) (v3 : Int32) (H : Heap) (locs : List Loc), va_P D vwCl [(q_a0, .inr (2, [.int a0_count, .ref q_a0_kinds, .ref q_a0_wicks, .ref q_a0_sources, .ref q_a0_changes, .long a0_state, .int a0_areLoopsAllowed, .int a0_ticks, .int a0_tickChanges, .int a0_sets])), (q_a0_sources, .inl (cI, 48, .inl a0_sources))] H → va_D A [(q_a0, .inr (2, [.int a0_count, .ref q_a0_kinds, .ref q_a0_wicks, .ref q_a0_sources, .ref q_a0_changes, .long a0_state, .int a0_areLoopsAllowed, .int a0_ticks, .int a0_tickChanges, .int a0_sets])), (q_a0_sources, .inl (cI, 48, .inl a0_sources))] → va_S A s.heap H locs → ∀ ls : Array Slot, lv_has ls 4 [(0, .ref q_a0), (1, .int v1), (2, .int v2), (3, .int v3)] → k4 v2 v3 = some (r) → W p l e rmX5_wiredFrom s m args below meth c H locs 0 0 Q (F0 m 4 ls [])) → ∀ (v2 : Int32) (v3 : Int32) (H : Heap) (locs : List Loc), va_P D vwCl [(q_a0, .inr (2, [.int a0_count, .ref q_a0_kinds, .ref q_a0_wicks, .ref q_a0_sources, .ref q_a0_changes, .long a0_state, .int a0_areLoopsAllowed, .int a0_ticks, .int a0_tickChanges, .int a0_sets])), (q_a0_sources, .inl (cI, 48, .inl a0_sources))] H → va_D A [(q_a0, .inr (2, [.int a0_count, .ref q_a0_kinds, .ref q_a0_wicks, .ref q_a0_sources, .ref q_a0_changes, .long a0_state, .int a0_areLoopsAllowed, .int a0_ticks, .int a0_tickChanges, .int a0_sets])), (q_a0_sources, .inl (cI, 48, .inl a0_sources))] → va_S A s.heap H locs → ∀ ls : Array Slot, lv_has ls 4 [(0, .ref q_a0), (1, .int v1), (2, .int v2), (3, .int v3)] → J_X5_wiredFrom_b28 k4 a0_count a0_sources v1 v2 v3 = some (r) → W p l e rmX5_wiredFrom s m args below meth c H locs 0 0 Q (F0 m 28 ls []) := by
    intro k4 hk4 v2 v3 H locs hP hD hS ls hl hJ
    unfold J_X5_wiredFrom_b28 at hJ
    refine jt_iinc hJ (fun x28 ex28 hJ => ?_)
    refine lv_iinc (v := x28) (lv' := [(3, .int x28), (0, .ref q_a0), (1, .int v1), (2, .int v2)]) hx hb dX5_wiredFrom_28 hl (k := 3) rfl ex28 (by decide) rfl (fun ls hl => ?_)
    refine lv_goto (tgt := 4) hx hb dX5_wiredFrom_31 (by decide) ?_
    exact hk4 v2 x28  H locs  hP hD hS _ (lv_sub hl [1, 2, 3, 0] rfl) hJ
  have L4 : ∀ (nf : Nat), ∀ (v2 : Int32) (v3 : Int32) (H : Heap) (locs : List Loc), va_P D vwCl [(q_a0, .inr (2, [.int a0_count, .ref q_a0_kinds, .ref q_a0_wicks, .ref q_a0_sources, .ref q_a0_changes, .long a0_state, .int a0_areLoopsAllowed, .int a0_ticks, .int a0_tickChanges, .int a0_sets])), (q_a0_sources, .inl (cI, 48, .inl a0_sources))] H → va_D A [(q_a0, .inr (2, [.int a0_count, .ref q_a0_kinds, .ref q_a0_wicks, .ref q_a0_sources, .ref q_a0_changes, .long a0_state, .int a0_areLoopsAllowed, .int a0_ticks, .int a0_tickChanges, .int a0_sets])), (q_a0_sources, .inl (cI, 48, .inl a0_sources))] → va_S A s.heap H locs → ∀ ls : Array Slot, lv_has ls 4 [(0, .ref q_a0), (1, .int v1), (2, .int v2), (3, .int v3)] → J_X5_wiredFrom_L4  a0_count a0_sources v1 nf v2 v3 = some (r) → W p l e rmX5_wiredFrom s m args below meth c H locs 0 0 Q (F0 m 4 ls []) := by
    intro nf
    induction nf with
    | zero =>
      intro v2 v3 H locs hP hD hS ls hl hJ
      rw [J_X5_wiredFrom_L4] at hJ
      cases hJ
    | succ nf ih =>
      intro v2 v3 H locs hP hD hS ls hl hJ
      rw [J_X5_wiredFrom_L4] at hJ
      refine lv_iload_n hx hb dX5_wiredFrom_4 rfl (lv_at hl 3 rfl) ?_
      refine lv_aload_n hx hb dX5_wiredFrom_5 rfl (lv_at hl 0 rfl) ?_
      obtain ⟨x6, hc6, hJ⟩ := bnd1_some hJ
      refine jcV_i (C := RX2) (T := TX2) (N := 10) (ci := 2) (q0 := 0) (As := []) (rest := [.int v3]) (isC := [0]) (isR := [1]) (isB := [1, 0]) (wr := [(q_a0_sources, .inl (cI, 48, .inl a0_sources))]) (ws2 := [(q_a0, .inr (2, [.int a0_count, .ref q_a0_kinds, .ref q_a0_wicks, .ref q_a0_sources, .ref q_a0_changes, .long a0_state, .int a0_areLoopsAllowed, .int a0_ticks, .int a0_tickChanges, .int a0_sets])), (q_a0_sources, .inl (cI, 48, .inl a0_sources))]) hF (c_X2_count l D cI cJ cC cL q_a0 q_a0_kinds q_a0_wicks q_a0_sources q_a0_changes a0_count a0_state a0_areLoopsAllowed a0_ticks a0_tickChanges a0_sets x6 hc6 H.size) (cwV 0 hts gX5_wiredFrom_X2_count rfl rfl rfl (by decide +kernel) ⟨Nat.le_of_ble_eq_true rfl, Nat.le_of_ble_eq_true rfl⟩) rfl hl rfl (Nat.le_of_ble_eq_true rfl) dX5_wiredFrom_6 ⟨Nat.zero_le _, Nat.zero_le _⟩ hK hN KX_T trivial hP hD hS hA rfl rfl rfl rfl rfl rfl (by decide) rfl rfl (fun H locs hP hD hS => ?_)
      refine jif_icmp_ge (tgt := 34) hx hb dX5_wiredFrom_9 (by decide) hJ (fun hJ => ?_) (fun hJ => ?_)
      · refine lv_iload_n hx hb dX5_wiredFrom_34 rfl (lv_at hl 2 rfl) ?_
        have e0 := Option.some.inj hJ
        exact hRet hP hD hS e0 dX5_wiredFrom_35
      · refine lv_aload_n hx hb dX5_wiredFrom_12 rfl (lv_at hl 0 rfl) ?_
        refine lv_iload_n hx hb dX5_wiredFrom_13 rfl (lv_at hl 3 rfl) ?_
        obtain ⟨x14, hc14, hJ⟩ := bnd1_some hJ
        refine jcV_i (C := RX2) (T := TX2) (N := 10) (ci := 2) (q0 := 0) (As := [.int v3]) (rest := []) (isC := [0, 1]) (isR := []) (isB := [0, 1]) (wr := []) (ws2 := [(q_a0, .inr (2, [.int a0_count, .ref q_a0_kinds, .ref q_a0_wicks, .ref q_a0_sources, .ref q_a0_changes, .long a0_state, .int a0_areLoopsAllowed, .int a0_ticks, .int a0_tickChanges, .int a0_sets])), (q_a0_sources, .inl (cI, 48, .inl a0_sources))]) hF (c_X2_sourcesOf l D cI cJ cC cL q_a0 q_a0_kinds q_a0_wicks q_a0_sources q_a0_changes a0_count a0_state a0_areLoopsAllowed a0_ticks a0_tickChanges a0_sets a0_sources v3 x14 hc14 H.size) (cwV 1 hts gX5_wiredFrom_X2_sourcesOf rfl rfl rfl (by decide +kernel) ⟨Nat.le_of_ble_eq_true rfl, Nat.le_of_ble_eq_true rfl⟩) rfl hl rfl (Nat.le_of_ble_eq_true rfl) dX5_wiredFrom_14 ⟨Nat.zero_le _, Nat.zero_le _⟩ hK hN KX_T trivial hP hD hS hA rfl rfl rfl rfl rfl rfl (by decide) rfl rfl (fun H locs hP hD hS => ?_)
        refine lv_iload_n hx hb dX5_wiredFrom_17 rfl (lv_at hl 1 rfl) ?_
        refine lv_iand hx hb dX5_wiredFrom_18 ?_
        refine jif_eq (tgt := 28) hx hb dX5_wiredFrom_19 (by decide) hJ (fun hJ => ?_) (fun hJ => ?_)
        · exact B28 (fun z0 z1 => J_X5_wiredFrom_L4 a0_count a0_sources v1 nf z0 z1) ih v2 v3  H locs  hP hD hS _ (lv_sub hl [0, 1, 2, 3] rfl) hJ
        · refine lv_iload_n hx hb dX5_wiredFrom_22 rfl (lv_at hl 2 rfl) ?_
          refine lv_iconst (v := (1 : Int32)) hx hb dX5_wiredFrom_23 (by decide) ?_
          refine lv_iload_n hx hb dX5_wiredFrom_24 rfl (lv_at hl 3 rfl) ?_
          refine lv_ishl hx hb dX5_wiredFrom_25 ?_
          refine lv_ior hx hb dX5_wiredFrom_26 ?_
          refine jt_i hJ (fun x26 hJ => ?_)
          refine lv_istore_n (lv' := [(2, .int x26), (0, .ref q_a0), (1, .int v1), (3, .int v3)]) hx hb dX5_wiredFrom_27 rfl hl (by decide) rfl (fun ls hl => ?_)
          exact B28 (fun z0 z1 => J_X5_wiredFrom_L4 a0_count a0_sources v1 nf z0 z1) ih x26 v3  H locs  hP hD hS _ (lv_sub hl [1, 2, 0, 3] rfl) hJ
  unfold J_X5_wiredFrom at hJ
  refine lv_iconst (v := (0 : Int32)) hx hb dX5_wiredFrom_0 (by decide) ?_
  refine lv_istore_n (lv' := [(2, .int (0 : Int32)), (0, .ref q_a0), (1, .int v1)]) hx hb dX5_wiredFrom_1 rfl hl (by decide) rfl (fun ls hl => ?_)
  refine lv_iconst (v := (0 : Int32)) hx hb dX5_wiredFrom_2 (by decide) ?_
  refine lv_istore_n (lv' := [(3, .int (0 : Int32)), (2, .int (0 : Int32)), (0, .ref q_a0), (1, .int v1)]) hx hb dX5_wiredFrom_3 rfl hl (by decide) rfl (fun ls hl => ?_)
  exact L4  FU (0 : Int32) (0 : Int32)  s.heap []  hP hD hS _ (lv_sub hl [2, 3, 1, 0] rfl) hJ

def J_X5_ledFrom_b43 (a0_count : Int32) (a0_sources : Nat → Int32) (v1 : Int32) (v2 : Int32) : Option (Int32) :=
    some (v2)
def J_X5_ledFrom_L10 (a0_count : Int32) (a0_sources : Nat → Int32) (v1 : Int32) : Nat → Int32 → Int32 → Option (Int32)
  | 0, _, _ => none
  | nf + 1, v2, v3 =>
    if (16 : Int32) ≤ v3 then (
    J_X5_ledFrom_b43 a0_count a0_sources v1 v2)
    else (
    bnd1 (J_X5_wiredFrom a0_count a0_sources v2) fun x19 =>
    nm (v2 ||| x19) fun x22 =>
    if x22 = v2 then (
    J_X5_ledFrom_b43 a0_count a0_sources v1 v2)
    else (
    nm (v3 + Int32.ofInt 1) fun x37 =>
    J_X5_ledFrom_L10 a0_count a0_sources v1 nf x22 x37))
def J_X5_ledFrom (a0_count : Int32) (a0_sources : Nat → Int32) (v1 : Int32) : Option (Int32) :=
    nm ((1 : Int32) <<< (v1 &&& 31)) fun x3 =>
    bnd1 (J_X5_wiredFrom a0_count a0_sources x3) fun x4 =>
    J_X5_ledFrom_L10 a0_count a0_sources v1 FU x4 (0 : Int32)
abbrev rmX5_ledFrom : Room := { frames := 2, cells := 0, slots := 0, locals := 47 }
set_option maxHeartbeats 4000000 in
set_option maxRecDepth 100000 in
theorem c_X5_ledFrom (l : Launch) (D : va_G) (cI cJ cC cL : ClassId) (q_a0 q_a0_kinds q_a0_wicks q_a0_sources q_a0_changes : Nat) (a0_count : Int32) (a0_state : Int64) (a0_areLoopsAllowed : Int32) (a0_ticks : Int32) (a0_tickChanges : Int32) (a0_sets : Int32) (a0_sources : Nat → Int32) (v1 : Int32) (r : Int32) (hJ : J_X5_ledFrom a0_count a0_sources v1 = some (r)) (sz : Nat) : Met l yX5_ledFrom wsX5_ledFrom rmX5_ledFrom (va_Pc [.ref q_a0, .int v1] (jpre XT D (tyL cI cJ cC cL) [(q_a0, .inr (2, [.int a0_count, .ref q_a0_kinds, .ref q_a0_wicks, .ref q_a0_sources, .ref q_a0_changes, .long a0_state, .int a0_areLoopsAllowed, .int a0_ticks, .int a0_tickChanges, .int a0_sets])), (q_a0_sources, .inl (cI, 48, .inl a0_sources))] sz)) (va_Qi (fun r' (_ : Unit) => r' = r) (fun _ t => jpost D (tyL cI cJ cC cL) (va_A [(q_a0, .inr (2, [.int a0_count, .ref q_a0_kinds, .ref q_a0_wicks, .ref q_a0_sources, .ref q_a0_changes, .long a0_state, .int a0_areLoopsAllowed, .int a0_ticks, .int a0_tickChanges, .int a0_sets])), (q_a0_sources, .inl (cI, 48, .inl a0_sources))] sz) [(q_a0, .inr (2, [.int a0_count, .ref q_a0_kinds, .ref q_a0_wicks, .ref q_a0_sources, .ref q_a0_changes, .long a0_state, .int a0_areLoopsAllowed, .int a0_ticks, .int a0_tickChanges, .int a0_sets])), (q_a0_sources, .inl (cI, 48, .inl a0_sources))] t) (va_A [(q_a0, .inr (2, [.int a0_count, .ref q_a0_kinds, .ref q_a0_wicks, .ref q_a0_sources, .ref q_a0_changes, .long a0_state, .int a0_areLoopsAllowed, .int a0_ticks, .int a0_tickChanges, .int a0_sets])), (q_a0_sources, .inl (cI, 48, .inl a0_sources))] sz)) 0 0 (va_A [(q_a0, .inr (2, [.int a0_count, .ref q_a0_kinds, .ref q_a0_wicks, .ref q_a0_sources, .ref q_a0_changes, .long a0_state, .int a0_areLoopsAllowed, .int a0_ticks, .int a0_tickChanges, .int a0_sets])), (q_a0_sources, .inl (cI, 48, .inl a0_sources))] sz) := by
  refine jE_i (cc := cX5_ledFrom) (maxL := 5) (own := RX5) (ret := (some .int)) (lv0 := [(0, .ref q_a0), (1, .int v1)]) (by decide) rfl rfl rfl (Nat.le_of_ble_eq_true rfl) rfl ?_
  intro p e s m args below meth c A Q ls hx hb hml hown hts hK hN hX hA hP hD hS hl hRet
  have hF : CallFix p m c cX5_ledFrom 5 s args wsX5_ledFrom RX5 := ⟨hx, hb, hml, hown, hts⟩
  have B43 : ∀ (v2 : Int32) (H : Heap) (locs : List Loc), va_P D vwCl [(q_a0, .inr (2, [.int a0_count, .ref q_a0_kinds, .ref q_a0_wicks, .ref q_a0_sources, .ref q_a0_changes, .long a0_state, .int a0_areLoopsAllowed, .int a0_ticks, .int a0_tickChanges, .int a0_sets])), (q_a0_sources, .inl (cI, 48, .inl a0_sources))] H → va_D A [(q_a0, .inr (2, [.int a0_count, .ref q_a0_kinds, .ref q_a0_wicks, .ref q_a0_sources, .ref q_a0_changes, .long a0_state, .int a0_areLoopsAllowed, .int a0_ticks, .int a0_tickChanges, .int a0_sets])), (q_a0_sources, .inl (cI, 48, .inl a0_sources))] → va_S A s.heap H locs → ∀ ls : Array Slot, lv_has ls 5 [(2, .int v2)] → J_X5_ledFrom_b43  a0_count a0_sources v1 v2 = some (r) → W p l e rmX5_ledFrom s m args below meth c H locs 0 0 Q (F0 m 43 ls []) := by
    intro v2 H locs hP hD hS ls hl hJ
    unfold J_X5_ledFrom_b43 at hJ
    refine lv_iload_n hx hb dX5_ledFrom_43 rfl (lv_at hl 0 rfl) ?_
    have e0 := Option.some.inj hJ
    exact hRet hP hD hS e0 dX5_ledFrom_44
  have L10 : ∀ (nf : Nat), ∀ (v2 : Int32) (v3 : Int32) (H : Heap) (locs : List Loc), va_P D vwCl [(q_a0, .inr (2, [.int a0_count, .ref q_a0_kinds, .ref q_a0_wicks, .ref q_a0_sources, .ref q_a0_changes, .long a0_state, .int a0_areLoopsAllowed, .int a0_ticks, .int a0_tickChanges, .int a0_sets])), (q_a0_sources, .inl (cI, 48, .inl a0_sources))] H → va_D A [(q_a0, .inr (2, [.int a0_count, .ref q_a0_kinds, .ref q_a0_wicks, .ref q_a0_sources, .ref q_a0_changes, .long a0_state, .int a0_areLoopsAllowed, .int a0_ticks, .int a0_tickChanges, .int a0_sets])), (q_a0_sources, .inl (cI, 48, .inl a0_sources))] → va_S A s.heap H locs → ∀ ls : Array Slot, lv_has ls 5 [(0, .ref q_a0), (2, .int v2), (3, .int v3)] → J_X5_ledFrom_L10  a0_count a0_sources v1 nf v2 v3 = some (r) → W p l e rmX5_ledFrom s m args below meth c H locs 0 0 Q (F0 m 10 ls []) := by
    intro nf
    induction nf with
    | zero =>
      intro v2 v3 H locs hP hD hS ls hl hJ
      rw [J_X5_ledFrom_L10] at hJ
      cases hJ
    | succ nf ih =>
      intro v2 v3 H locs hP hD hS ls hl hJ
      rw [J_X5_ledFrom_L10] at hJ
      refine lv_iload_n hx hb dX5_ledFrom_10 rfl (lv_at hl 2 rfl) ?_
      refine lv_bipush (v := (16 : Int32)) hx hb dX5_ledFrom_11 (by decide) ?_
      refine jif_icmp_ge (tgt := 43) hx hb dX5_ledFrom_13 (by decide) hJ (fun hJ => ?_) (fun hJ => ?_)
      · exact B43  v2  H locs  hP hD hS _ (lv_sub hl [1] rfl) hJ
      · refine lv_iload_n hx hb dX5_ledFrom_16 rfl (lv_at hl 1 rfl) ?_
        refine lv_aload_n hx hb dX5_ledFrom_17 rfl (lv_at hl 0 rfl) ?_
        refine lv_iload_n hx hb dX5_ledFrom_18 rfl (lv_at hl 1 rfl) ?_
        obtain ⟨x19, hc19, hJ⟩ := bnd1_some hJ
        refine jcS_i (As := [.ref q_a0, .int v2]) (rest := [.int v2]) (isC := [0, 1]) (isR := []) (isB := [0, 1]) (wr := []) (ws2 := [(q_a0, .inr (2, [.int a0_count, .ref q_a0_kinds, .ref q_a0_wicks, .ref q_a0_sources, .ref q_a0_changes, .long a0_state, .int a0_areLoopsAllowed, .int a0_ticks, .int a0_tickChanges, .int a0_sets])), (q_a0_sources, .inl (cI, 48, .inl a0_sources))]) hF (c_X5_wiredFrom l D cI cJ cC cL q_a0 q_a0_kinds q_a0_wicks q_a0_sources q_a0_changes a0_count a0_state a0_areLoopsAllowed a0_ticks a0_tickChanges a0_sets a0_sources v2 x19 hc19 H.size) (va_cwS 2 hts gX5_ledFrom_X5_wiredFrom rfl rfl rfl (by decide +kernel) ⟨Nat.le_of_ble_eq_true rfl, Nat.le_of_ble_eq_true rfl⟩) rfl hl rfl (Nat.le_of_ble_eq_true rfl) dX5_ledFrom_19 ⟨Nat.zero_le _, Nat.zero_le _⟩ hK hN KX_T trivial hP hD hS hA rfl rfl rfl rfl (by decide) rfl rfl (fun H locs hP hD hS => ?_)
        refine lv_ior hx hb dX5_ledFrom_22 ?_
        refine jt_i hJ (fun x22 hJ => ?_)
        refine lv_istore (lv' := [(4, .int x22), (0, .ref q_a0), (2, .int v2), (3, .int v3)]) hx hb dX5_ledFrom_23 hl (by decide) rfl (fun ls hl => ?_)
        refine lv_iload hx hb dX5_ledFrom_25 (lv_at hl 0 rfl) ?_
        refine lv_iload_n hx hb dX5_ledFrom_27 rfl (lv_at hl 2 rfl) ?_
        refine jif_icmp_ne (tgt := 34) hx hb dX5_ledFrom_28 (by decide) hJ (fun hJ => ?_) (fun hJ => ?_)
        · refine lv_iload hx hb dX5_ledFrom_34 (lv_at hl 0 rfl) ?_
          refine lv_istore_n (lv' := [(2, .int x22), (4, .int x22), (0, .ref q_a0), (3, .int v3)]) hx hb dX5_ledFrom_36 rfl hl (by decide) rfl (fun ls hl => ?_)
          refine jt_iinc hJ (fun x37 ex37 hJ => ?_)
          refine lv_iinc (v := x37) (lv' := [(3, .int x37), (2, .int x22), (4, .int x22), (0, .ref q_a0)]) hx hb dX5_ledFrom_37 hl (k := 3) rfl ex37 (by decide) rfl (fun ls hl => ?_)
          refine lv_goto (tgt := 10) hx hb dX5_ledFrom_40 (by decide) ?_
          exact ih x22 x37  H locs  hP hD hS _ (lv_sub hl [3, 1, 0] rfl) hJ
        · refine lv_goto (tgt := 43) hx hb dX5_ledFrom_31 (by decide) ?_
          exact B43  v2  H locs  hP hD hS _ (lv_sub hl [2] rfl) hJ
  unfold J_X5_ledFrom at hJ
  refine lv_aload_n hx hb dX5_ledFrom_0 rfl (lv_at hl 0 rfl) ?_
  refine lv_iconst (v := (1 : Int32)) hx hb dX5_ledFrom_1 (by decide) ?_
  refine lv_iload_n hx hb dX5_ledFrom_2 rfl (lv_at hl 1 rfl) ?_
  refine lv_ishl hx hb dX5_ledFrom_3 ?_
  refine jt_i hJ (fun x3 hJ => ?_)
  obtain ⟨x4, hc4, hJ⟩ := bnd1_some hJ
  refine jcS_i (As := [.ref q_a0, .int x3]) (rest := []) (isC := [0, 1]) (isR := []) (isB := [0, 1]) (wr := []) (ws2 := [(q_a0, .inr (2, [.int a0_count, .ref q_a0_kinds, .ref q_a0_wicks, .ref q_a0_sources, .ref q_a0_changes, .long a0_state, .int a0_areLoopsAllowed, .int a0_ticks, .int a0_tickChanges, .int a0_sets])), (q_a0_sources, .inl (cI, 48, .inl a0_sources))]) hF (c_X5_wiredFrom l D cI cJ cC cL q_a0 q_a0_kinds q_a0_wicks q_a0_sources q_a0_changes a0_count a0_state a0_areLoopsAllowed a0_ticks a0_tickChanges a0_sets a0_sources x3 x4 hc4 s.heap.size) (va_cwS 2 hts gX5_ledFrom_X5_wiredFrom rfl rfl rfl (by decide +kernel) ⟨Nat.le_of_ble_eq_true rfl, Nat.le_of_ble_eq_true rfl⟩) rfl hl rfl (Nat.le_of_ble_eq_true rfl) dX5_ledFrom_4 ⟨Nat.zero_le _, Nat.zero_le _⟩ hK hN KX_T trivial hP hD hS hA rfl rfl rfl rfl (by decide) rfl rfl (fun H locs hP hD hS => ?_)
  refine lv_istore_n (lv' := [(2, .int x4), (0, .ref q_a0), (1, .int v1)]) hx hb dX5_ledFrom_7 rfl hl (by decide) rfl (fun ls hl => ?_)
  refine lv_iconst (v := (0 : Int32)) hx hb dX5_ledFrom_8 (by decide) ?_
  refine lv_istore_n (lv' := [(3, .int (0 : Int32)), (2, .int x4), (0, .ref q_a0), (1, .int v1)]) hx hb dX5_ledFrom_9 rfl hl (by decide) rfl (fun ls hl => ?_)
  exact L10  FU x4 (0 : Int32)  H locs  hP hD hS _ (lv_sub hl [2, 1, 0] rfl) hJ

def J_X5_inLoops_b30 (k4 : Int32 → Int32 → Option (Int32)) (a0_count : Int32) (a0_sources : Nat → Int32) (v1 : Int32) (v2 : Int32) : Option (Int32) :=
    nm (v2 + Int32.ofInt 1) fun x30 =>
    k4 v1 x30
def J_X5_inLoops_L4 (a0_count : Int32) (a0_sources : Nat → Int32) : Nat → Int32 → Int32 → Option (Int32)
  | 0, _, _ => none
  | nf + 1, v1, v2 =>
    bnd1 (J_X2_count a0_count) fun x6 =>
    if x6 ≤ v2 then (
    some (v1))
    else (
    bnd1 (J_X5_ledFrom a0_count a0_sources v2) fun x14 =>
    bnd1 (J_X9_isIn x14 v2) fun x18 =>
    if x18 = 0 then (
    J_X5_inLoops_b30 (fun z0 z1 => J_X5_inLoops_L4 a0_count a0_sources nf z0 z1) a0_count a0_sources v1 v2)
    else (
    nm (v1 ||| ((1 : Int32) <<< (v2 &&& 31))) fun x28 =>
    J_X5_inLoops_b30 (fun z0 z1 => J_X5_inLoops_L4 a0_count a0_sources nf z0 z1) a0_count a0_sources x28 v2))
def J_X5_inLoops (a0_count : Int32) (a0_sources : Nat → Int32) : Option (Int32) :=
    J_X5_inLoops_L4 a0_count a0_sources FU (0 : Int32) (0 : Int32)
abbrev rmX5_inLoops : Room := { frames := 3, cells := 0, slots := 0, locals := 71 }
set_option maxHeartbeats 4000000 in
set_option maxRecDepth 100000 in
theorem c_X5_inLoops (l : Launch) (D : va_G) (cI cJ cC cL : ClassId) (q_a0 q_a0_kinds q_a0_wicks q_a0_sources q_a0_changes : Nat) (a0_count : Int32) (a0_state : Int64) (a0_areLoopsAllowed : Int32) (a0_ticks : Int32) (a0_tickChanges : Int32) (a0_sets : Int32) (a0_sources : Nat → Int32) (r : Int32) (hJ : J_X5_inLoops a0_count a0_sources = some (r)) (sz : Nat) : Met l yX5_inLoops wsX5_inLoops rmX5_inLoops (va_Pc [.ref q_a0] (jpre XT D (tyL cI cJ cC cL) [(q_a0, .inr (2, [.int a0_count, .ref q_a0_kinds, .ref q_a0_wicks, .ref q_a0_sources, .ref q_a0_changes, .long a0_state, .int a0_areLoopsAllowed, .int a0_ticks, .int a0_tickChanges, .int a0_sets])), (q_a0_sources, .inl (cI, 48, .inl a0_sources))] sz)) (va_Qi (fun r' (_ : Unit) => r' = r) (fun _ t => jpost D (tyL cI cJ cC cL) (va_A [(q_a0, .inr (2, [.int a0_count, .ref q_a0_kinds, .ref q_a0_wicks, .ref q_a0_sources, .ref q_a0_changes, .long a0_state, .int a0_areLoopsAllowed, .int a0_ticks, .int a0_tickChanges, .int a0_sets])), (q_a0_sources, .inl (cI, 48, .inl a0_sources))] sz) [(q_a0, .inr (2, [.int a0_count, .ref q_a0_kinds, .ref q_a0_wicks, .ref q_a0_sources, .ref q_a0_changes, .long a0_state, .int a0_areLoopsAllowed, .int a0_ticks, .int a0_tickChanges, .int a0_sets])), (q_a0_sources, .inl (cI, 48, .inl a0_sources))] t) (va_A [(q_a0, .inr (2, [.int a0_count, .ref q_a0_kinds, .ref q_a0_wicks, .ref q_a0_sources, .ref q_a0_changes, .long a0_state, .int a0_areLoopsAllowed, .int a0_ticks, .int a0_tickChanges, .int a0_sets])), (q_a0_sources, .inl (cI, 48, .inl a0_sources))] sz)) 0 0 (va_A [(q_a0, .inr (2, [.int a0_count, .ref q_a0_kinds, .ref q_a0_wicks, .ref q_a0_sources, .ref q_a0_changes, .long a0_state, .int a0_areLoopsAllowed, .int a0_ticks, .int a0_tickChanges, .int a0_sets])), (q_a0_sources, .inl (cI, 48, .inl a0_sources))] sz) := by
  refine jE_i (cc := cX5_inLoops) (maxL := 3) (own := RX5) (ret := (some .int)) (lv0 := [(0, .ref q_a0)]) (by decide) rfl rfl rfl (Nat.le_of_ble_eq_true rfl) rfl ?_
  intro p e s m args below meth c A Q ls hx hb hml hown hts hK hN hX hA hP hD hS hl hRet
  have hF : CallFix p m c cX5_inLoops 3 s args wsX5_inLoops RX5 := ⟨hx, hb, hml, hown, hts⟩
  have B30 : ∀ (k4 : Int32 → Int32 → Option (Int32)), (∀ (v1 : Int32) (v2 : Int32) (H : Heap) (locs : List Loc), va_P D vwCl [(q_a0, .inr (2, [.int a0_count, .ref q_a0_kinds, .ref q_a0_wicks, .ref q_a0_sources, .ref q_a0_changes, .long a0_state, .int a0_areLoopsAllowed, .int a0_ticks, .int a0_tickChanges, .int a0_sets])), (q_a0_sources, .inl (cI, 48, .inl a0_sources))] H → va_D A [(q_a0, .inr (2, [.int a0_count, .ref q_a0_kinds, .ref q_a0_wicks, .ref q_a0_sources, .ref q_a0_changes, .long a0_state, .int a0_areLoopsAllowed, .int a0_ticks, .int a0_tickChanges, .int a0_sets])), (q_a0_sources, .inl (cI, 48, .inl a0_sources))] → va_S A s.heap H locs → ∀ ls : Array Slot, lv_has ls 3 [(0, .ref q_a0), (1, .int v1), (2, .int v2)] → k4 v1 v2 = some (r) → W p l e rmX5_inLoops s m args below meth c H locs 0 0 Q (F0 m 4 ls [])) → ∀ (v1 : Int32) (v2 : Int32) (H : Heap) (locs : List Loc), va_P D vwCl [(q_a0, .inr (2, [.int a0_count, .ref q_a0_kinds, .ref q_a0_wicks, .ref q_a0_sources, .ref q_a0_changes, .long a0_state, .int a0_areLoopsAllowed, .int a0_ticks, .int a0_tickChanges, .int a0_sets])), (q_a0_sources, .inl (cI, 48, .inl a0_sources))] H → va_D A [(q_a0, .inr (2, [.int a0_count, .ref q_a0_kinds, .ref q_a0_wicks, .ref q_a0_sources, .ref q_a0_changes, .long a0_state, .int a0_areLoopsAllowed, .int a0_ticks, .int a0_tickChanges, .int a0_sets])), (q_a0_sources, .inl (cI, 48, .inl a0_sources))] → va_S A s.heap H locs → ∀ ls : Array Slot, lv_has ls 3 [(0, .ref q_a0), (1, .int v1), (2, .int v2)] → J_X5_inLoops_b30 k4 a0_count a0_sources v1 v2 = some (r) → W p l e rmX5_inLoops s m args below meth c H locs 0 0 Q (F0 m 30 ls []) := by
    intro k4 hk4 v1 v2 H locs hP hD hS ls hl hJ
    unfold J_X5_inLoops_b30 at hJ
    refine jt_iinc hJ (fun x30 ex30 hJ => ?_)
    refine lv_iinc (v := x30) (lv' := [(2, .int x30), (0, .ref q_a0), (1, .int v1)]) hx hb dX5_inLoops_30 hl (k := 2) rfl ex30 (by decide) rfl (fun ls hl => ?_)
    refine lv_goto (tgt := 4) hx hb dX5_inLoops_33 (by decide) ?_
    exact hk4 v1 x30  H locs  hP hD hS _ (lv_sub hl [1, 2, 0] rfl) hJ
  have L4 : ∀ (nf : Nat), ∀ (v1 : Int32) (v2 : Int32) (H : Heap) (locs : List Loc), va_P D vwCl [(q_a0, .inr (2, [.int a0_count, .ref q_a0_kinds, .ref q_a0_wicks, .ref q_a0_sources, .ref q_a0_changes, .long a0_state, .int a0_areLoopsAllowed, .int a0_ticks, .int a0_tickChanges, .int a0_sets])), (q_a0_sources, .inl (cI, 48, .inl a0_sources))] H → va_D A [(q_a0, .inr (2, [.int a0_count, .ref q_a0_kinds, .ref q_a0_wicks, .ref q_a0_sources, .ref q_a0_changes, .long a0_state, .int a0_areLoopsAllowed, .int a0_ticks, .int a0_tickChanges, .int a0_sets])), (q_a0_sources, .inl (cI, 48, .inl a0_sources))] → va_S A s.heap H locs → ∀ ls : Array Slot, lv_has ls 3 [(0, .ref q_a0), (1, .int v1), (2, .int v2)] → J_X5_inLoops_L4  a0_count a0_sources nf v1 v2 = some (r) → W p l e rmX5_inLoops s m args below meth c H locs 0 0 Q (F0 m 4 ls []) := by
    intro nf
    induction nf with
    | zero =>
      intro v1 v2 H locs hP hD hS ls hl hJ
      rw [J_X5_inLoops_L4] at hJ
      cases hJ
    | succ nf ih =>
      intro v1 v2 H locs hP hD hS ls hl hJ
      rw [J_X5_inLoops_L4] at hJ
      refine lv_iload_n hx hb dX5_inLoops_4 rfl (lv_at hl 2 rfl) ?_
      refine lv_aload_n hx hb dX5_inLoops_5 rfl (lv_at hl 0 rfl) ?_
      obtain ⟨x6, hc6, hJ⟩ := bnd1_some hJ
      refine jcV_i (C := RX2) (T := TX2) (N := 10) (ci := 2) (q0 := 0) (As := []) (rest := [.int v2]) (isC := [0]) (isR := [1]) (isB := [1, 0]) (wr := [(q_a0_sources, .inl (cI, 48, .inl a0_sources))]) (ws2 := [(q_a0, .inr (2, [.int a0_count, .ref q_a0_kinds, .ref q_a0_wicks, .ref q_a0_sources, .ref q_a0_changes, .long a0_state, .int a0_areLoopsAllowed, .int a0_ticks, .int a0_tickChanges, .int a0_sets])), (q_a0_sources, .inl (cI, 48, .inl a0_sources))]) hF (c_X2_count l D cI cJ cC cL q_a0 q_a0_kinds q_a0_wicks q_a0_sources q_a0_changes a0_count a0_state a0_areLoopsAllowed a0_ticks a0_tickChanges a0_sets x6 hc6 H.size) (cwV 0 hts gX5_inLoops_X2_count rfl rfl rfl (by decide +kernel) ⟨Nat.le_of_ble_eq_true rfl, Nat.le_of_ble_eq_true rfl⟩) rfl hl rfl (Nat.le_of_ble_eq_true rfl) dX5_inLoops_6 ⟨Nat.zero_le _, Nat.zero_le _⟩ hK hN KX_T trivial hP hD hS hA rfl rfl rfl rfl rfl rfl (by decide) rfl rfl (fun H locs hP hD hS => ?_)
      refine jif_icmp_ge (tgt := 36) hx hb dX5_inLoops_9 (by decide) hJ (fun hJ => ?_) (fun hJ => ?_)
      · refine lv_iload_n hx hb dX5_inLoops_36 rfl (lv_at hl 1 rfl) ?_
        have e0 := Option.some.inj hJ
        exact hRet hP hD hS e0 dX5_inLoops_37
      · refine lv_aload_n hx hb dX5_inLoops_12 rfl (lv_at hl 0 rfl) ?_
        refine lv_iload_n hx hb dX5_inLoops_13 rfl (lv_at hl 2 rfl) ?_
        obtain ⟨x14, hc14, hJ⟩ := bnd1_some hJ
        refine jcS_i (As := [.ref q_a0, .int v2]) (rest := []) (isC := [0, 1]) (isR := []) (isB := [0, 1]) (wr := []) (ws2 := [(q_a0, .inr (2, [.int a0_count, .ref q_a0_kinds, .ref q_a0_wicks, .ref q_a0_sources, .ref q_a0_changes, .long a0_state, .int a0_areLoopsAllowed, .int a0_ticks, .int a0_tickChanges, .int a0_sets])), (q_a0_sources, .inl (cI, 48, .inl a0_sources))]) hF (c_X5_ledFrom l D cI cJ cC cL q_a0 q_a0_kinds q_a0_wicks q_a0_sources q_a0_changes a0_count a0_state a0_areLoopsAllowed a0_ticks a0_tickChanges a0_sets a0_sources v2 x14 hc14 H.size) (va_cwS 2 hts gX5_inLoops_X5_ledFrom rfl rfl rfl (by decide +kernel) ⟨Nat.le_of_ble_eq_true rfl, Nat.le_of_ble_eq_true rfl⟩) rfl hl rfl (Nat.le_of_ble_eq_true rfl) dX5_inLoops_14 ⟨Nat.zero_le _, Nat.zero_le _⟩ hK hN KX_T trivial hP hD hS hA rfl rfl rfl rfl (by decide) rfl rfl (fun H locs hP hD hS => ?_)
        refine lv_iload_n hx hb dX5_inLoops_17 rfl (lv_at hl 2 rfl) ?_
        obtain ⟨x18, hc18, hJ⟩ := bnd1_some hJ
        refine jcN_i (As := [.int x14, .int v2]) (rest := []) (isC := []) (isR := [0, 1]) (isB := [0, 1]) (wr := [(q_a0, .inr (2, [.int a0_count, .ref q_a0_kinds, .ref q_a0_wicks, .ref q_a0_sources, .ref q_a0_changes, .long a0_state, .int a0_areLoopsAllowed, .int a0_ticks, .int a0_tickChanges, .int a0_sets])), (q_a0_sources, .inl (cI, 48, .inl a0_sources))]) (ws2 := [(q_a0, .inr (2, [.int a0_count, .ref q_a0_kinds, .ref q_a0_wicks, .ref q_a0_sources, .ref q_a0_changes, .long a0_state, .int a0_areLoopsAllowed, .int a0_ticks, .int a0_tickChanges, .int a0_sets])), (q_a0_sources, .inl (cI, 48, .inl a0_sources))]) hF (c_X9_isIn l D cI cJ cC cL x14 v2 x18 hc18 H.size) ⟨va_cnB 2 hts gX5_inLoops_X9_isIn_n28 rfl rfl rfl (hN.2.2.1) (hts (.initialized RX9) (by decide +kernel)) (by decide +kernel) ⟨Nat.le_of_ble_eq_true rfl, Nat.le_of_ble_eq_true rfl⟩, hts (.static yX9_isIn) (by decide +kernel), trivial⟩ rfl hl rfl (Nat.le_of_ble_eq_true rfl) dX5_inLoops_18 ⟨Nat.zero_le _, Nat.zero_le _⟩ hK hN KX_T trivial hP hD hS hA rfl rfl rfl rfl (by decide) rfl rfl (fun H locs hP hD hS => ?_)
        refine jif_eq (tgt := 30) hx hb dX5_inLoops_21 (by decide) hJ (fun hJ => ?_) (fun hJ => ?_)
        · exact B30 (fun z0 z1 => J_X5_inLoops_L4 a0_count a0_sources nf z0 z1) ih v1 v2  H locs  hP hD hS _ (lv_sub hl [0, 1, 2] rfl) hJ
        · refine lv_iload_n hx hb dX5_inLoops_24 rfl (lv_at hl 1 rfl) ?_
          refine lv_iconst (v := (1 : Int32)) hx hb dX5_inLoops_25 (by decide) ?_
          refine lv_iload_n hx hb dX5_inLoops_26 rfl (lv_at hl 2 rfl) ?_
          refine lv_ishl hx hb dX5_inLoops_27 ?_
          refine lv_ior hx hb dX5_inLoops_28 ?_
          refine jt_i hJ (fun x28 hJ => ?_)
          refine lv_istore_n (lv' := [(1, .int x28), (0, .ref q_a0), (2, .int v2)]) hx hb dX5_inLoops_29 rfl hl (by decide) rfl (fun ls hl => ?_)
          exact B30 (fun z0 z1 => J_X5_inLoops_L4 a0_count a0_sources nf z0 z1) ih x28 v2  H locs  hP hD hS _ (lv_sub hl [1, 0, 2] rfl) hJ
  unfold J_X5_inLoops at hJ
  refine lv_iconst (v := (0 : Int32)) hx hb dX5_inLoops_0 (by decide) ?_
  refine lv_istore_n (lv' := [(1, .int (0 : Int32)), (0, .ref q_a0)]) hx hb dX5_inLoops_1 rfl hl (by decide) rfl (fun ls hl => ?_)
  refine lv_iconst (v := (0 : Int32)) hx hb dX5_inLoops_2 (by decide) ?_
  refine lv_istore_n (lv' := [(2, .int (0 : Int32)), (1, .int (0 : Int32)), (0, .ref q_a0)]) hx hb dX5_inLoops_3 rfl hl (by decide) rfl (fun ls hl => ?_)
  exact L4  FU (0 : Int32) (0 : Int32)  s.heap []  hP hD hS _ (lv_sub hl [2, 1, 0] rfl) hJ

def J_X5_switchesTo_b38 (k4 : Int32 → Int32 → Option (Int32)) (a0_count : Int32) (a0_kinds : Nat → Int32) (a0_sources : Nat → Int32) (v1 : Int32) (v2 : Int32) (v3 : Int32) : Option (Int32) :=
    nm (v3 + Int32.ofInt 1) fun x38 =>
    k4 v2 x38
def J_X5_switchesTo_L4 (a0_count : Int32) (a0_kinds : Nat → Int32) (a0_sources : Nat → Int32) (v1 : Int32) : Nat → Int32 → Int32 → Option (Int32)
  | 0, _, _ => none
  | nf + 1, v2, v3 =>
    bnd1 (J_X2_count a0_count) fun x6 =>
    if x6 ≤ v3 then (
    some (v2))
    else (
    bnd1 (J_X2_isSwitch a0_count a0_kinds v3) fun x14 =>
    if x14 = 0 then (
    J_X5_switchesTo_b38 (fun z0 z1 => J_X5_switchesTo_L4 a0_count a0_kinds a0_sources v1 nf z0 z1) a0_count a0_kinds a0_sources v1 v2 v3)
    else (
    bnd1 (J_X5_ledFrom a0_count a0_sources v3) fun x22 =>
    bnd1 (J_X9_isIn x22 v1) fun x26 =>
    if x26 = 0 then (
    J_X5_switchesTo_b38 (fun z0 z1 => J_X5_switchesTo_L4 a0_count a0_kinds a0_sources v1 nf z0 z1) a0_count a0_kinds a0_sources v1 v2 v3)
    else (
    nm (v2 ||| ((1 : Int32) <<< (v3 &&& 31))) fun x36 =>
    J_X5_switchesTo_b38 (fun z0 z1 => J_X5_switchesTo_L4 a0_count a0_kinds a0_sources v1 nf z0 z1) a0_count a0_kinds a0_sources v1 x36 v3)))
def J_X5_switchesTo (a0_count : Int32) (a0_kinds : Nat → Int32) (a0_sources : Nat → Int32) (v1 : Int32) : Option (Int32) :=
    J_X5_switchesTo_L4 a0_count a0_kinds a0_sources v1 FU (0 : Int32) (0 : Int32)
abbrev rmX5_switchesTo : Room := { frames := 3, cells := 0, slots := 0, locals := 71 }
set_option maxHeartbeats 4000000 in
set_option maxRecDepth 100000 in
theorem c_X5_switchesTo (l : Launch) (D : va_G) (cI cJ cC cL : ClassId) (q_a0 q_a0_kinds q_a0_wicks q_a0_sources q_a0_changes : Nat) (a0_count : Int32) (a0_state : Int64) (a0_areLoopsAllowed : Int32) (a0_ticks : Int32) (a0_tickChanges : Int32) (a0_sets : Int32) (a0_kinds : Nat → Int32) (a0_sources : Nat → Int32) (v1 : Int32) (r : Int32) (hJ : J_X5_switchesTo a0_count a0_kinds a0_sources v1 = some (r)) (sz : Nat) : Met l yX5_switchesTo wsX5_switchesTo rmX5_switchesTo (va_Pc [.ref q_a0, .int v1] (jpre XT D (tyL cI cJ cC cL) [(q_a0, .inr (2, [.int a0_count, .ref q_a0_kinds, .ref q_a0_wicks, .ref q_a0_sources, .ref q_a0_changes, .long a0_state, .int a0_areLoopsAllowed, .int a0_ticks, .int a0_tickChanges, .int a0_sets])), (q_a0_kinds, .inl (cI, 16, .inl a0_kinds)), (q_a0_sources, .inl (cI, 48, .inl a0_sources))] sz)) (va_Qi (fun r' (_ : Unit) => r' = r) (fun _ t => jpost D (tyL cI cJ cC cL) (va_A [(q_a0, .inr (2, [.int a0_count, .ref q_a0_kinds, .ref q_a0_wicks, .ref q_a0_sources, .ref q_a0_changes, .long a0_state, .int a0_areLoopsAllowed, .int a0_ticks, .int a0_tickChanges, .int a0_sets])), (q_a0_kinds, .inl (cI, 16, .inl a0_kinds)), (q_a0_sources, .inl (cI, 48, .inl a0_sources))] sz) [(q_a0, .inr (2, [.int a0_count, .ref q_a0_kinds, .ref q_a0_wicks, .ref q_a0_sources, .ref q_a0_changes, .long a0_state, .int a0_areLoopsAllowed, .int a0_ticks, .int a0_tickChanges, .int a0_sets])), (q_a0_kinds, .inl (cI, 16, .inl a0_kinds)), (q_a0_sources, .inl (cI, 48, .inl a0_sources))] t) (va_A [(q_a0, .inr (2, [.int a0_count, .ref q_a0_kinds, .ref q_a0_wicks, .ref q_a0_sources, .ref q_a0_changes, .long a0_state, .int a0_areLoopsAllowed, .int a0_ticks, .int a0_tickChanges, .int a0_sets])), (q_a0_kinds, .inl (cI, 16, .inl a0_kinds)), (q_a0_sources, .inl (cI, 48, .inl a0_sources))] sz)) 0 0 (va_A [(q_a0, .inr (2, [.int a0_count, .ref q_a0_kinds, .ref q_a0_wicks, .ref q_a0_sources, .ref q_a0_changes, .long a0_state, .int a0_areLoopsAllowed, .int a0_ticks, .int a0_tickChanges, .int a0_sets])), (q_a0_kinds, .inl (cI, 16, .inl a0_kinds)), (q_a0_sources, .inl (cI, 48, .inl a0_sources))] sz) := by
  refine jE_i (cc := cX5_switchesTo) (maxL := 4) (own := RX5) (ret := (some .int)) (lv0 := [(0, .ref q_a0), (1, .int v1)]) (by decide) rfl rfl rfl (Nat.le_of_ble_eq_true rfl) rfl ?_
  intro p e s m args below meth c A Q ls hx hb hml hown hts hK hN hX hA hP hD hS hl hRet
  have hF : CallFix p m c cX5_switchesTo 4 s args wsX5_switchesTo RX5 := ⟨hx, hb, hml, hown, hts⟩
  have B38 : ∀ (k4 : Int32 → Int32 → Option (Int32)), (∀ (v2 : Int32) (v3 : Int32) (H : Heap) (locs : List Loc), va_P D vwCl [(q_a0, .inr (2, [.int a0_count, .ref q_a0_kinds, .ref q_a0_wicks, .ref q_a0_sources, .ref q_a0_changes, .long a0_state, .int a0_areLoopsAllowed, .int a0_ticks, .int a0_tickChanges, .int a0_sets])), (q_a0_kinds, .inl (cI, 16, .inl a0_kinds)), (q_a0_sources, .inl (cI, 48, .inl a0_sources))] H → va_D A [(q_a0, .inr (2, [.int a0_count, .ref q_a0_kinds, .ref q_a0_wicks, .ref q_a0_sources, .ref q_a0_changes, .long a0_state, .int a0_areLoopsAllowed, .int a0_ticks, .int a0_tickChanges, .int a0_sets])), (q_a0_kinds, .inl (cI, 16, .inl a0_kinds)), (q_a0_sources, .inl (cI, 48, .inl a0_sources))] → va_S A s.heap H locs → ∀ ls : Array Slot, lv_has ls 4 [(0, .ref q_a0), (1, .int v1), (2, .int v2), (3, .int v3)] → k4 v2 v3 = some (r) → W p l e rmX5_switchesTo s m args below meth c H locs 0 0 Q (F0 m 4 ls [])) → ∀ (v2 : Int32) (v3 : Int32) (H : Heap) (locs : List Loc), va_P D vwCl [(q_a0, .inr (2, [.int a0_count, .ref q_a0_kinds, .ref q_a0_wicks, .ref q_a0_sources, .ref q_a0_changes, .long a0_state, .int a0_areLoopsAllowed, .int a0_ticks, .int a0_tickChanges, .int a0_sets])), (q_a0_kinds, .inl (cI, 16, .inl a0_kinds)), (q_a0_sources, .inl (cI, 48, .inl a0_sources))] H → va_D A [(q_a0, .inr (2, [.int a0_count, .ref q_a0_kinds, .ref q_a0_wicks, .ref q_a0_sources, .ref q_a0_changes, .long a0_state, .int a0_areLoopsAllowed, .int a0_ticks, .int a0_tickChanges, .int a0_sets])), (q_a0_kinds, .inl (cI, 16, .inl a0_kinds)), (q_a0_sources, .inl (cI, 48, .inl a0_sources))] → va_S A s.heap H locs → ∀ ls : Array Slot, lv_has ls 4 [(0, .ref q_a0), (1, .int v1), (2, .int v2), (3, .int v3)] → J_X5_switchesTo_b38 k4 a0_count a0_kinds a0_sources v1 v2 v3 = some (r) → W p l e rmX5_switchesTo s m args below meth c H locs 0 0 Q (F0 m 38 ls []) := by
    intro k4 hk4 v2 v3 H locs hP hD hS ls hl hJ
    unfold J_X5_switchesTo_b38 at hJ
    refine jt_iinc hJ (fun x38 ex38 hJ => ?_)
    refine lv_iinc (v := x38) (lv' := [(3, .int x38), (0, .ref q_a0), (1, .int v1), (2, .int v2)]) hx hb dX5_switchesTo_38 hl (k := 3) rfl ex38 (by decide) rfl (fun ls hl => ?_)
    refine lv_goto (tgt := 4) hx hb dX5_switchesTo_41 (by decide) ?_
    exact hk4 v2 x38  H locs  hP hD hS _ (lv_sub hl [1, 2, 3, 0] rfl) hJ
  have L4 : ∀ (nf : Nat), ∀ (v2 : Int32) (v3 : Int32) (H : Heap) (locs : List Loc), va_P D vwCl [(q_a0, .inr (2, [.int a0_count, .ref q_a0_kinds, .ref q_a0_wicks, .ref q_a0_sources, .ref q_a0_changes, .long a0_state, .int a0_areLoopsAllowed, .int a0_ticks, .int a0_tickChanges, .int a0_sets])), (q_a0_kinds, .inl (cI, 16, .inl a0_kinds)), (q_a0_sources, .inl (cI, 48, .inl a0_sources))] H → va_D A [(q_a0, .inr (2, [.int a0_count, .ref q_a0_kinds, .ref q_a0_wicks, .ref q_a0_sources, .ref q_a0_changes, .long a0_state, .int a0_areLoopsAllowed, .int a0_ticks, .int a0_tickChanges, .int a0_sets])), (q_a0_kinds, .inl (cI, 16, .inl a0_kinds)), (q_a0_sources, .inl (cI, 48, .inl a0_sources))] → va_S A s.heap H locs → ∀ ls : Array Slot, lv_has ls 4 [(0, .ref q_a0), (1, .int v1), (2, .int v2), (3, .int v3)] → J_X5_switchesTo_L4  a0_count a0_kinds a0_sources v1 nf v2 v3 = some (r) → W p l e rmX5_switchesTo s m args below meth c H locs 0 0 Q (F0 m 4 ls []) := by
    intro nf
    induction nf with
    | zero =>
      intro v2 v3 H locs hP hD hS ls hl hJ
      rw [J_X5_switchesTo_L4] at hJ
      cases hJ
    | succ nf ih =>
      intro v2 v3 H locs hP hD hS ls hl hJ
      rw [J_X5_switchesTo_L4] at hJ
      refine lv_iload_n hx hb dX5_switchesTo_4 rfl (lv_at hl 3 rfl) ?_
      refine lv_aload_n hx hb dX5_switchesTo_5 rfl (lv_at hl 0 rfl) ?_
      obtain ⟨x6, hc6, hJ⟩ := bnd1_some hJ
      refine jcV_i (C := RX2) (T := TX2) (N := 10) (ci := 2) (q0 := 0) (As := []) (rest := [.int v3]) (isC := [0]) (isR := [1, 2]) (isB := [2, 0, 1]) (wr := [(q_a0_kinds, .inl (cI, 16, .inl a0_kinds)), (q_a0_sources, .inl (cI, 48, .inl a0_sources))]) (ws2 := [(q_a0, .inr (2, [.int a0_count, .ref q_a0_kinds, .ref q_a0_wicks, .ref q_a0_sources, .ref q_a0_changes, .long a0_state, .int a0_areLoopsAllowed, .int a0_ticks, .int a0_tickChanges, .int a0_sets])), (q_a0_kinds, .inl (cI, 16, .inl a0_kinds)), (q_a0_sources, .inl (cI, 48, .inl a0_sources))]) hF (c_X2_count l D cI cJ cC cL q_a0 q_a0_kinds q_a0_wicks q_a0_sources q_a0_changes a0_count a0_state a0_areLoopsAllowed a0_ticks a0_tickChanges a0_sets x6 hc6 H.size) (cwV 0 hts gX5_switchesTo_X2_count rfl rfl rfl (by decide +kernel) ⟨Nat.le_of_ble_eq_true rfl, Nat.le_of_ble_eq_true rfl⟩) rfl hl rfl (Nat.le_of_ble_eq_true rfl) dX5_switchesTo_6 ⟨Nat.zero_le _, Nat.zero_le _⟩ hK hN KX_T trivial hP hD hS hA rfl rfl rfl rfl rfl rfl (by decide) rfl rfl (fun H locs hP hD hS => ?_)
      refine jif_icmp_ge (tgt := 44) hx hb dX5_switchesTo_9 (by decide) hJ (fun hJ => ?_) (fun hJ => ?_)
      · refine lv_iload_n hx hb dX5_switchesTo_44 rfl (lv_at hl 2 rfl) ?_
        have e0 := Option.some.inj hJ
        exact hRet hP hD hS e0 dX5_switchesTo_45
      · refine lv_aload_n hx hb dX5_switchesTo_12 rfl (lv_at hl 0 rfl) ?_
        refine lv_iload_n hx hb dX5_switchesTo_13 rfl (lv_at hl 3 rfl) ?_
        obtain ⟨x14, hc14, hJ⟩ := bnd1_some hJ
        refine jcV_i (C := RX2) (T := TX2) (N := 10) (ci := 2) (q0 := 0) (As := [.int v3]) (rest := []) (isC := [0, 1]) (isR := [2]) (isB := [1, 2, 0]) (wr := [(q_a0_sources, .inl (cI, 48, .inl a0_sources))]) (ws2 := [(q_a0, .inr (2, [.int a0_count, .ref q_a0_kinds, .ref q_a0_wicks, .ref q_a0_sources, .ref q_a0_changes, .long a0_state, .int a0_areLoopsAllowed, .int a0_ticks, .int a0_tickChanges, .int a0_sets])), (q_a0_kinds, .inl (cI, 16, .inl a0_kinds)), (q_a0_sources, .inl (cI, 48, .inl a0_sources))]) hF (c_X2_isSwitch l D cI cJ cC cL q_a0 q_a0_kinds q_a0_wicks q_a0_sources q_a0_changes a0_count a0_state a0_areLoopsAllowed a0_ticks a0_tickChanges a0_sets a0_kinds v3 x14 hc14 H.size) (cwV 1 hts gX5_switchesTo_X2_isSwitch rfl rfl rfl (by decide +kernel) ⟨Nat.le_of_ble_eq_true rfl, Nat.le_of_ble_eq_true rfl⟩) rfl hl rfl (Nat.le_of_ble_eq_true rfl) dX5_switchesTo_14 ⟨Nat.zero_le _, Nat.zero_le _⟩ hK hN KX_T trivial hP hD hS hA rfl rfl rfl rfl rfl rfl (by decide) rfl rfl (fun H locs hP hD hS => ?_)
        refine jif_eq (tgt := 38) hx hb dX5_switchesTo_17 (by decide) hJ (fun hJ => ?_) (fun hJ => ?_)
        · exact B38 (fun z0 z1 => J_X5_switchesTo_L4 a0_count a0_kinds a0_sources v1 nf z0 z1) ih v2 v3  H locs  hP hD hS _ (lv_sub hl [0, 1, 2, 3] rfl) hJ
        · refine lv_aload_n hx hb dX5_switchesTo_20 rfl (lv_at hl 0 rfl) ?_
          refine lv_iload_n hx hb dX5_switchesTo_21 rfl (lv_at hl 3 rfl) ?_
          obtain ⟨x22, hc22, hJ⟩ := bnd1_some hJ
          refine jcS_i (As := [.ref q_a0, .int v3]) (rest := []) (isC := [0, 2]) (isR := [1]) (isB := [1, 0, 2]) (wr := [(q_a0_kinds, .inl (cI, 16, .inl a0_kinds))]) (ws2 := [(q_a0, .inr (2, [.int a0_count, .ref q_a0_kinds, .ref q_a0_wicks, .ref q_a0_sources, .ref q_a0_changes, .long a0_state, .int a0_areLoopsAllowed, .int a0_ticks, .int a0_tickChanges, .int a0_sets])), (q_a0_kinds, .inl (cI, 16, .inl a0_kinds)), (q_a0_sources, .inl (cI, 48, .inl a0_sources))]) hF (c_X5_ledFrom l D cI cJ cC cL q_a0 q_a0_kinds q_a0_wicks q_a0_sources q_a0_changes a0_count a0_state a0_areLoopsAllowed a0_ticks a0_tickChanges a0_sets a0_sources v3 x22 hc22 H.size) (va_cwS 2 hts gX5_switchesTo_X5_ledFrom rfl rfl rfl (by decide +kernel) ⟨Nat.le_of_ble_eq_true rfl, Nat.le_of_ble_eq_true rfl⟩) rfl hl rfl (Nat.le_of_ble_eq_true rfl) dX5_switchesTo_22 ⟨Nat.zero_le _, Nat.zero_le _⟩ hK hN KX_T trivial hP hD hS hA rfl rfl rfl rfl (by decide) rfl rfl (fun H locs hP hD hS => ?_)
          refine lv_iload_n hx hb dX5_switchesTo_25 rfl (lv_at hl 1 rfl) ?_
          obtain ⟨x26, hc26, hJ⟩ := bnd1_some hJ
          refine jcN_i (As := [.int x22, .int v1]) (rest := []) (isC := []) (isR := [0, 1, 2]) (isB := [0, 1, 2]) (wr := [(q_a0, .inr (2, [.int a0_count, .ref q_a0_kinds, .ref q_a0_wicks, .ref q_a0_sources, .ref q_a0_changes, .long a0_state, .int a0_areLoopsAllowed, .int a0_ticks, .int a0_tickChanges, .int a0_sets])), (q_a0_kinds, .inl (cI, 16, .inl a0_kinds)), (q_a0_sources, .inl (cI, 48, .inl a0_sources))]) (ws2 := [(q_a0, .inr (2, [.int a0_count, .ref q_a0_kinds, .ref q_a0_wicks, .ref q_a0_sources, .ref q_a0_changes, .long a0_state, .int a0_areLoopsAllowed, .int a0_ticks, .int a0_tickChanges, .int a0_sets])), (q_a0_kinds, .inl (cI, 16, .inl a0_kinds)), (q_a0_sources, .inl (cI, 48, .inl a0_sources))]) hF (c_X9_isIn l D cI cJ cC cL x22 v1 x26 hc26 H.size) ⟨va_cnB 2 hts gX5_switchesTo_X9_isIn_n28 rfl rfl rfl (hN.2.2.1) (hts (.initialized RX9) (by decide +kernel)) (by decide +kernel) ⟨Nat.le_of_ble_eq_true rfl, Nat.le_of_ble_eq_true rfl⟩, hts (.static yX9_isIn) (by decide +kernel), trivial⟩ rfl hl rfl (Nat.le_of_ble_eq_true rfl) dX5_switchesTo_26 ⟨Nat.zero_le _, Nat.zero_le _⟩ hK hN KX_T trivial hP hD hS hA rfl rfl rfl rfl (by decide) rfl rfl (fun H locs hP hD hS => ?_)
          refine jif_eq (tgt := 38) hx hb dX5_switchesTo_29 (by decide) hJ (fun hJ => ?_) (fun hJ => ?_)
          · exact B38 (fun z0 z1 => J_X5_switchesTo_L4 a0_count a0_kinds a0_sources v1 nf z0 z1) ih v2 v3  H locs  hP hD hS _ (lv_sub hl [0, 1, 2, 3] rfl) hJ
          · refine lv_iload_n hx hb dX5_switchesTo_32 rfl (lv_at hl 2 rfl) ?_
            refine lv_iconst (v := (1 : Int32)) hx hb dX5_switchesTo_33 (by decide) ?_
            refine lv_iload_n hx hb dX5_switchesTo_34 rfl (lv_at hl 3 rfl) ?_
            refine lv_ishl hx hb dX5_switchesTo_35 ?_
            refine lv_ior hx hb dX5_switchesTo_36 ?_
            refine jt_i hJ (fun x36 hJ => ?_)
            refine lv_istore_n (lv' := [(2, .int x36), (0, .ref q_a0), (1, .int v1), (3, .int v3)]) hx hb dX5_switchesTo_37 rfl hl (by decide) rfl (fun ls hl => ?_)
            exact B38 (fun z0 z1 => J_X5_switchesTo_L4 a0_count a0_kinds a0_sources v1 nf z0 z1) ih x36 v3  H locs  hP hD hS _ (lv_sub hl [1, 2, 0, 3] rfl) hJ
  unfold J_X5_switchesTo at hJ
  refine lv_iconst (v := (0 : Int32)) hx hb dX5_switchesTo_0 (by decide) ?_
  refine lv_istore_n (lv' := [(2, .int (0 : Int32)), (0, .ref q_a0), (1, .int v1)]) hx hb dX5_switchesTo_1 rfl hl (by decide) rfl (fun ls hl => ?_)
  refine lv_iconst (v := (0 : Int32)) hx hb dX5_switchesTo_2 (by decide) ?_
  refine lv_istore_n (lv' := [(3, .int (0 : Int32)), (2, .int (0 : Int32)), (0, .ref q_a0), (1, .int v1)]) hx hb dX5_switchesTo_3 rfl hl (by decide) rfl (fun ls hl => ?_)
  exact L4  FU (0 : Int32) (0 : Int32)  s.heap []  hP hD hS _ (lv_sub hl [2, 3, 1, 0] rfl) hJ

def J_X5_fewestWires_L7 (a0_count : Int32) (a0_sources : Nat → Int32) (v1 : Int32) (v2 : Int32) : Nat → Int32 → Int32 → Option (Int32)
  | 0, _, _ => none
  | nf + 1, v3, v4 =>
    if (16 : Int32) ≤ v4 then (
    some ((-15 : Int32)))
    else (
    bnd1 (J_X9_isIn v3 v2) fun x16 =>
    if x16 = 0 then (
    bnd1 (J_X5_wiredFrom a0_count a0_sources v3) fun x28 =>
    nm (v3 ||| x28) fun x31 =>
    nm (v4 + Int32.ofInt 1) fun x33 =>
    J_X5_fewestWires_L7 a0_count a0_sources v1 v2 nf x31 x33)
    else (
    some (v4)))
def J_X5_fewestWires (a0_count : Int32) (a0_sources : Nat → Int32) (v1 : Int32) (v2 : Int32) : Option (Int32) :=
    nm ((1 : Int32) <<< (v1 &&& 31)) fun x2 =>
    J_X5_fewestWires_L7 a0_count a0_sources v1 v2 FU x2 (0 : Int32)
abbrev rmX5_fewestWires : Room := { frames := 2, cells := 0, slots := 0, locals := 47 }
set_option maxHeartbeats 4000000 in
set_option maxRecDepth 100000 in
theorem c_X5_fewestWires (l : Launch) (D : va_G) (cI cJ cC cL : ClassId) (q_a0 q_a0_kinds q_a0_wicks q_a0_sources q_a0_changes : Nat) (a0_count : Int32) (a0_state : Int64) (a0_areLoopsAllowed : Int32) (a0_ticks : Int32) (a0_tickChanges : Int32) (a0_sets : Int32) (a0_sources : Nat → Int32) (v1 : Int32) (v2 : Int32) (r : Int32) (hJ : J_X5_fewestWires a0_count a0_sources v1 v2 = some (r)) (sz : Nat) : Met l yX5_fewestWires wsX5_fewestWires rmX5_fewestWires (va_Pc [.ref q_a0, .int v1, .int v2] (jpre XT D (tyL cI cJ cC cL) [(q_a0, .inr (2, [.int a0_count, .ref q_a0_kinds, .ref q_a0_wicks, .ref q_a0_sources, .ref q_a0_changes, .long a0_state, .int a0_areLoopsAllowed, .int a0_ticks, .int a0_tickChanges, .int a0_sets])), (q_a0_sources, .inl (cI, 48, .inl a0_sources))] sz)) (va_Qi (fun r' (_ : Unit) => r' = r) (fun _ t => jpost D (tyL cI cJ cC cL) (va_A [(q_a0, .inr (2, [.int a0_count, .ref q_a0_kinds, .ref q_a0_wicks, .ref q_a0_sources, .ref q_a0_changes, .long a0_state, .int a0_areLoopsAllowed, .int a0_ticks, .int a0_tickChanges, .int a0_sets])), (q_a0_sources, .inl (cI, 48, .inl a0_sources))] sz) [(q_a0, .inr (2, [.int a0_count, .ref q_a0_kinds, .ref q_a0_wicks, .ref q_a0_sources, .ref q_a0_changes, .long a0_state, .int a0_areLoopsAllowed, .int a0_ticks, .int a0_tickChanges, .int a0_sets])), (q_a0_sources, .inl (cI, 48, .inl a0_sources))] t) (va_A [(q_a0, .inr (2, [.int a0_count, .ref q_a0_kinds, .ref q_a0_wicks, .ref q_a0_sources, .ref q_a0_changes, .long a0_state, .int a0_areLoopsAllowed, .int a0_ticks, .int a0_tickChanges, .int a0_sets])), (q_a0_sources, .inl (cI, 48, .inl a0_sources))] sz)) 0 0 (va_A [(q_a0, .inr (2, [.int a0_count, .ref q_a0_kinds, .ref q_a0_wicks, .ref q_a0_sources, .ref q_a0_changes, .long a0_state, .int a0_areLoopsAllowed, .int a0_ticks, .int a0_tickChanges, .int a0_sets])), (q_a0_sources, .inl (cI, 48, .inl a0_sources))] sz) := by
  refine jE_i (cc := cX5_fewestWires) (maxL := 5) (own := RX5) (ret := (some .int)) (lv0 := [(0, .ref q_a0), (1, .int v1), (2, .int v2)]) (by decide) rfl rfl rfl (Nat.le_of_ble_eq_true rfl) rfl ?_
  intro p e s m args below meth c A Q ls hx hb hml hown hts hK hN hX hA hP hD hS hl hRet
  have hF : CallFix p m c cX5_fewestWires 5 s args wsX5_fewestWires RX5 := ⟨hx, hb, hml, hown, hts⟩
  have L7 : ∀ (nf : Nat), ∀ (v3 : Int32) (v4 : Int32) (H : Heap) (locs : List Loc), va_P D vwCl [(q_a0, .inr (2, [.int a0_count, .ref q_a0_kinds, .ref q_a0_wicks, .ref q_a0_sources, .ref q_a0_changes, .long a0_state, .int a0_areLoopsAllowed, .int a0_ticks, .int a0_tickChanges, .int a0_sets])), (q_a0_sources, .inl (cI, 48, .inl a0_sources))] H → va_D A [(q_a0, .inr (2, [.int a0_count, .ref q_a0_kinds, .ref q_a0_wicks, .ref q_a0_sources, .ref q_a0_changes, .long a0_state, .int a0_areLoopsAllowed, .int a0_ticks, .int a0_tickChanges, .int a0_sets])), (q_a0_sources, .inl (cI, 48, .inl a0_sources))] → va_S A s.heap H locs → ∀ ls : Array Slot, lv_has ls 5 [(0, .ref q_a0), (2, .int v2), (3, .int v3), (4, .int v4)] → J_X5_fewestWires_L7  a0_count a0_sources v1 v2 nf v3 v4 = some (r) → W p l e rmX5_fewestWires s m args below meth c H locs 0 0 Q (F0 m 7 ls []) := by
    intro nf
    induction nf with
    | zero =>
      intro v3 v4 H locs hP hD hS ls hl hJ
      rw [J_X5_fewestWires_L7] at hJ
      cases hJ
    | succ nf ih =>
      intro v3 v4 H locs hP hD hS ls hl hJ
      rw [J_X5_fewestWires_L7] at hJ
      refine lv_iload hx hb dX5_fewestWires_7 (lv_at hl 3 rfl) ?_
      refine lv_bipush (v := (16 : Int32)) hx hb dX5_fewestWires_9 (by decide) ?_
      refine jif_icmp_ge (tgt := 39) hx hb dX5_fewestWires_11 (by decide) hJ (fun hJ => ?_) (fun hJ => ?_)
      · refine lv_bipush (v := (-15 : Int32)) hx hb dX5_fewestWires_39 (by decide) ?_
        have e0 := Option.some.inj hJ
        exact hRet hP hD hS e0 dX5_fewestWires_41
      · refine lv_iload_n hx hb dX5_fewestWires_14 rfl (lv_at hl 2 rfl) ?_
        refine lv_iload_n hx hb dX5_fewestWires_15 rfl (lv_at hl 1 rfl) ?_
        obtain ⟨x16, hc16, hJ⟩ := bnd1_some hJ
        refine jcN_i (As := [.int v3, .int v2]) (rest := []) (isC := []) (isR := [0, 1]) (isB := [0, 1]) (wr := [(q_a0, .inr (2, [.int a0_count, .ref q_a0_kinds, .ref q_a0_wicks, .ref q_a0_sources, .ref q_a0_changes, .long a0_state, .int a0_areLoopsAllowed, .int a0_ticks, .int a0_tickChanges, .int a0_sets])), (q_a0_sources, .inl (cI, 48, .inl a0_sources))]) (ws2 := [(q_a0, .inr (2, [.int a0_count, .ref q_a0_kinds, .ref q_a0_wicks, .ref q_a0_sources, .ref q_a0_changes, .long a0_state, .int a0_areLoopsAllowed, .int a0_ticks, .int a0_tickChanges, .int a0_sets])), (q_a0_sources, .inl (cI, 48, .inl a0_sources))]) hF (c_X9_isIn l D cI cJ cC cL v3 v2 x16 hc16 H.size) ⟨va_cnB 2 hts gX5_fewestWires_X9_isIn_n28 rfl rfl rfl (hN.2.2.1) (hts (.initialized RX9) (by decide +kernel)) (by decide +kernel) ⟨Nat.le_of_ble_eq_true rfl, Nat.le_of_ble_eq_true rfl⟩, hts (.static yX9_isIn) (by decide +kernel), trivial⟩ rfl hl rfl (Nat.le_of_ble_eq_true rfl) dX5_fewestWires_16 ⟨Nat.zero_le _, Nat.zero_le _⟩ hK hN KX_T trivial hP hD hS hA rfl rfl rfl rfl (by decide) rfl rfl (fun H locs hP hD hS => ?_)
        refine jif_eq (tgt := 25) hx hb dX5_fewestWires_19 (by decide) hJ (fun hJ => ?_) (fun hJ => ?_)
        · refine lv_iload_n hx hb dX5_fewestWires_25 rfl (lv_at hl 2 rfl) ?_
          refine lv_aload_n hx hb dX5_fewestWires_26 rfl (lv_at hl 0 rfl) ?_
          refine lv_iload_n hx hb dX5_fewestWires_27 rfl (lv_at hl 2 rfl) ?_
          obtain ⟨x28, hc28, hJ⟩ := bnd1_some hJ
          refine jcS_i (As := [.ref q_a0, .int v3]) (rest := [.int v3]) (isC := [0, 1]) (isR := []) (isB := [0, 1]) (wr := []) (ws2 := [(q_a0, .inr (2, [.int a0_count, .ref q_a0_kinds, .ref q_a0_wicks, .ref q_a0_sources, .ref q_a0_changes, .long a0_state, .int a0_areLoopsAllowed, .int a0_ticks, .int a0_tickChanges, .int a0_sets])), (q_a0_sources, .inl (cI, 48, .inl a0_sources))]) hF (c_X5_wiredFrom l D cI cJ cC cL q_a0 q_a0_kinds q_a0_wicks q_a0_sources q_a0_changes a0_count a0_state a0_areLoopsAllowed a0_ticks a0_tickChanges a0_sets a0_sources v3 x28 hc28 H.size) (va_cwS 2 hts gX5_fewestWires_X5_wiredFrom rfl rfl rfl (by decide +kernel) ⟨Nat.le_of_ble_eq_true rfl, Nat.le_of_ble_eq_true rfl⟩) rfl hl rfl (Nat.le_of_ble_eq_true rfl) dX5_fewestWires_28 ⟨Nat.zero_le _, Nat.zero_le _⟩ hK hN KX_T trivial hP hD hS hA rfl rfl rfl rfl (by decide) rfl rfl (fun H locs hP hD hS => ?_)
          refine lv_ior hx hb dX5_fewestWires_31 ?_
          refine jt_i hJ (fun x31 hJ => ?_)
          refine lv_istore_n (lv' := [(3, .int x31), (0, .ref q_a0), (2, .int v2), (4, .int v4)]) hx hb dX5_fewestWires_32 rfl hl (by decide) rfl (fun ls hl => ?_)
          refine jt_iinc hJ (fun x33 ex33 hJ => ?_)
          refine lv_iinc (v := x33) (lv' := [(4, .int x33), (3, .int x31), (0, .ref q_a0), (2, .int v2)]) hx hb dX5_fewestWires_33 hl (k := 3) rfl ex33 (by decide) rfl (fun ls hl => ?_)
          refine lv_goto (tgt := 7) hx hb dX5_fewestWires_36 (by decide) ?_
          exact ih x31 x33  H locs  hP hD hS _ (lv_sub hl [2, 3, 1, 0] rfl) hJ
        · refine lv_iload hx hb dX5_fewestWires_22 (lv_at hl 3 rfl) ?_
          have e0 := Option.some.inj hJ
          exact hRet hP hD hS e0 dX5_fewestWires_24
  unfold J_X5_fewestWires at hJ
  refine lv_iconst (v := (1 : Int32)) hx hb dX5_fewestWires_0 (by decide) ?_
  refine lv_iload_n hx hb dX5_fewestWires_1 rfl (lv_at hl 1 rfl) ?_
  refine lv_ishl hx hb dX5_fewestWires_2 ?_
  refine jt_i hJ (fun x2 hJ => ?_)
  refine lv_istore_n (lv' := [(3, .int x2), (0, .ref q_a0), (1, .int v1), (2, .int v2)]) hx hb dX5_fewestWires_3 rfl hl (by decide) rfl (fun ls hl => ?_)
  refine lv_iconst (v := (0 : Int32)) hx hb dX5_fewestWires_4 (by decide) ?_
  refine lv_istore (lv' := [(4, .int (0 : Int32)), (3, .int x2), (0, .ref q_a0), (1, .int v1), (2, .int v2)]) hx hb dX5_fewestWires_5 hl (by decide) rfl (fun ls hl => ?_)
  exact L7  FU x2 (0 : Int32)  s.heap []  hP hD hS _ (lv_sub hl [2, 4, 1, 0] rfl) hJ

def J_X6_start (t_numbers : Nat → Int32) (t_details : Nat → Int32) (v1 : Int32) (v2 : Int32) : Option (Int32 × (Nat → Int32) × (Nat → Int32)) :=
    chk (0 : Int32) 3 (
    chk (0 : Int32) 3 (
    some ((1 : Int32), (upd t_numbers (0 : Int32).toNatClampNeg v1), (upd t_details (0 : Int32).toNatClampNeg v2))))
abbrev rmX6_start : Room := { frames := 0, cells := 0, slots := 0, locals := 0 }
set_option maxHeartbeats 4000000 in
set_option maxRecDepth 100000 in
theorem c_X6_start (l : Launch) (D : va_G) (cI cJ cC cL : ClassId) (q_t q_t_numbers q_t_details : Nat) (t_count : Int32) (t_numbers : Nat → Int32) (t_details : Nat → Int32) (v1 : Int32) (v2 : Int32) (o_t_count : Int32) (o_t_numbers : Nat → Int32) (o_t_details : Nat → Int32) (hJ : J_X6_start t_numbers t_details v1 v2 = some (o_t_count, o_t_numbers, o_t_details)) (sz : Nat) : Met l yX6_start wsX6_start rmX6_start (va_Pc [.ref q_t, .int v1, .int v2] (jpre XT D (tyL cI cJ cC cL) [(q_t, .inr (5, [.ref q_t_numbers, .ref q_t_details, .int t_count])), (q_t_numbers, .inl (cI, 3, .inl t_numbers)), (q_t_details, .inl (cI, 3, .inl t_details))] sz)) (va_Qv (fun (_ : Unit) => True) (fun _ t => jpost D (tyL cI cJ cC cL) (va_A [(q_t, .inr (5, [.ref q_t_numbers, .ref q_t_details, .int t_count])), (q_t_numbers, .inl (cI, 3, .inl t_numbers)), (q_t_details, .inl (cI, 3, .inl t_details))] sz) [(q_t, .inr (5, [.ref q_t_numbers, .ref q_t_details, .int o_t_count])), (q_t_numbers, .inl (cI, 3, .inl o_t_numbers)), (q_t_details, .inl (cI, 3, .inl o_t_details))] t) (va_A [(q_t, .inr (5, [.ref q_t_numbers, .ref q_t_details, .int t_count])), (q_t_numbers, .inl (cI, 3, .inl t_numbers)), (q_t_details, .inl (cI, 3, .inl t_details))] sz)) 0 0 (va_A [(q_t, .inr (5, [.ref q_t_numbers, .ref q_t_details, .int t_count])), (q_t_numbers, .inl (cI, 3, .inl t_numbers)), (q_t_details, .inl (cI, 3, .inl t_details))] sz) := by
  refine jE_v (cc := cX6_start) (maxL := 3) (own := RX6) (ret := none) (lv0 := [(0, .ref q_t), (1, .int v1), (2, .int v2)]) (by decide) rfl rfl rfl (Nat.le_of_ble_eq_true rfl) rfl ?_
  intro p e s m args below meth c A Q ls hx hb hml hown hts hK hN hX hA hP hD hS hl hRet
  have hF : CallFix p m c cX6_start 3 s args wsX6_start RX6 := ⟨hx, hb, hml, hown, hts⟩
  have fl_11 := hts (.fieldLink RX6 11 "LanternLogic$Reasons" "numbers" "[I") (by decide +kernel)
  have fl_15 := hts (.fieldLink RX6 15 "LanternLogic$Reasons" "details" "[I") (by decide +kernel)
  have fl_18 := hts (.fieldLink RX6 18 "LanternLogic$Reasons" "count" "I") (by decide +kernel)
  have hin_X6 : ∀ w ∈ u_ws RX6 TX6 3, w ∈ wsX6_start := by decide +kernel
  unfold J_X6_start at hJ
  refine lv_aload_n hx hb dX6_start_0 rfl (lv_at hl 0 rfl) ?_
  refine va_get (ci := 5) (v := .ref q_t_numbers) (C := RX6) (T := TX6) (N := 3) hx hb hts hin_X6 hown hK hP 0 rfl rfl 0 (by decide) fl_11 (fun _ h9 => h9) rfl dX6_start_1 ?_
  refine lv_iconst (v := (0 : Int32)) hx hb dX6_start_4 (by decide) ?_
  refine lv_iload_n hx hb dX6_start_5 rfl (lv_at hl 1 rfl) ?_
  obtain ⟨hin, hJ⟩ := chk_in hJ
  refine va_iast hx hb hK hP hD hS 1 0 rfl rfl hin dX6_start_6 (fun H locs hP hD hS => ?_)
  have hP : va_P D vwCl [(q_t, .inr (5, [.ref q_t_numbers, .ref q_t_details, .int t_count])), (q_t_numbers, .inl (cI, 3, .inl (upd t_numbers (0 : Int32).toNatClampNeg v1))), (q_t_details, .inl (cI, 3, .inl t_details))] H := hP
  have hD : va_D A [(q_t, .inr (5, [.ref q_t_numbers, .ref q_t_details, .int t_count])), (q_t_numbers, .inl (cI, 3, .inl (upd t_numbers (0 : Int32).toNatClampNeg v1))), (q_t_details, .inl (cI, 3, .inl t_details))] := hD
  refine lv_aload_n hx hb dX6_start_7 rfl (lv_at hl 0 rfl) ?_
  refine va_get (ci := 5) (v := .ref q_t_details) (C := RX6) (T := TX6) (N := 3) hx hb hts hin_X6 hown hK hP 0 rfl rfl 1 (by decide) fl_15 (fun _ h9 => h9) rfl dX6_start_8 ?_
  refine lv_iconst (v := (0 : Int32)) hx hb dX6_start_11 (by decide) ?_
  refine lv_iload_n hx hb dX6_start_12 rfl (lv_at hl 2 rfl) ?_
  obtain ⟨hin, hJ⟩ := chk_in hJ
  refine va_iast hx hb hK hP hD hS 2 0 rfl rfl hin dX6_start_13 (fun H locs hP hD hS => ?_)
  have hP : va_P D vwCl [(q_t, .inr (5, [.ref q_t_numbers, .ref q_t_details, .int t_count])), (q_t_numbers, .inl (cI, 3, .inl (upd t_numbers (0 : Int32).toNatClampNeg v1))), (q_t_details, .inl (cI, 3, .inl (upd t_details (0 : Int32).toNatClampNeg v2)))] H := hP
  have hD : va_D A [(q_t, .inr (5, [.ref q_t_numbers, .ref q_t_details, .int t_count])), (q_t_numbers, .inl (cI, 3, .inl (upd t_numbers (0 : Int32).toNatClampNeg v1))), (q_t_details, .inl (cI, 3, .inl (upd t_details (0 : Int32).toNatClampNeg v2)))] := hD
  refine lv_aload_n hx hb dX6_start_14 rfl (lv_at hl 0 rfl) ?_
  refine lv_iconst (v := (1 : Int32)) hx hb dX6_start_15 (by decide) ?_
  refine va_put (ci := 5) (v := .int (1 : Int32)) (ty := .int) (C := RX6) (T := TX6) (N := 3) hx hb hts hin_X6 tyX6 tyX6_ok nmX6 hown hK hP hD hS 0 rfl rfl 2 (by decide) fl_18 (fun _ h9 => h9) rfl (by decide +kernel) rfl rfl (Nat.le_of_ble_eq_true rfl) dX6_start_16 (fun H locs hP hD hS => ?_)
  have hP : va_P D vwCl [(q_t, .inr (5, [.ref q_t_numbers, .ref q_t_details, .int (1 : Int32)])), (q_t_numbers, .inl (cI, 3, .inl (upd t_numbers (0 : Int32).toNatClampNeg v1))), (q_t_details, .inl (cI, 3, .inl (upd t_details (0 : Int32).toNatClampNeg v2)))] H := hP
  have hD : va_D A [(q_t, .inr (5, [.ref q_t_numbers, .ref q_t_details, .int (1 : Int32)])), (q_t_numbers, .inl (cI, 3, .inl (upd t_numbers (0 : Int32).toNatClampNeg v1))), (q_t_details, .inl (cI, 3, .inl (upd t_details (0 : Int32).toNatClampNeg v2)))] := hD
  have hJ := Option.some.inj hJ
  obtain ⟨e0, e1, e2⟩ : ((1 : Int32)) = o_t_count ∧ ((upd t_numbers (0 : Int32).toNatClampNeg v1)) = o_t_numbers ∧ ((upd t_details (0 : Int32).toNatClampNeg v2)) = o_t_details := ⟨congrArg (fun z => z.1) hJ, congrArg (fun z => z.2.1) hJ, congrArg (fun z => z.2.2) hJ⟩
  exact hRet (by rw [← e0, ← e1, ← e2]; exact hP) (by rw [← e0, ← e1, ← e2]; exact hD) hS dX6_start_19

def J_X6_putBehind_b45 (v1 : Int32) (v2 : Int32) (t_count : Int32) (t_numbers : Nat → Int32) (t_details : Nat → Int32) : Option (Int32 × (Nat → Int32) × (Nat → Int32)) :=
    some (t_count, t_numbers, t_details)
def J_X6_putBehind (t_count : Int32) (t_numbers : Nat → Int32) (t_details : Nat → Int32) (v1 : Int32) (v2 : Int32) : Option (Int32 × (Nat → Int32) × (Nat → Int32)) :=
    if t_count < 0 then (
    J_X6_putBehind_b45 v1 v2 t_count t_numbers t_details)
    else (
    if (3 : Int32) ≤ t_count then (
    J_X6_putBehind_b45 v1 v2 t_count t_numbers t_details)
    else (
    chk t_count 3 (
    chk t_count 3 (
    nm (t_count + (1 : Int32)) fun x41 =>
    J_X6_putBehind_b45 v1 v2 x41 (upd t_numbers t_count.toNatClampNeg v1) (upd t_details t_count.toNatClampNeg v2)))))
abbrev rmX6_putBehind : Room := { frames := 0, cells := 0, slots := 0, locals := 0 }
set_option maxHeartbeats 4000000 in
set_option maxRecDepth 100000 in
theorem c_X6_putBehind (l : Launch) (D : va_G) (cI cJ cC cL : ClassId) (q_t q_t_numbers q_t_details : Nat) (t_count : Int32) (t_numbers : Nat → Int32) (t_details : Nat → Int32) (v1 : Int32) (v2 : Int32) (o_t_count : Int32) (o_t_numbers : Nat → Int32) (o_t_details : Nat → Int32) (hJ : J_X6_putBehind t_count t_numbers t_details v1 v2 = some (o_t_count, o_t_numbers, o_t_details)) (sz : Nat) : Met l yX6_putBehind wsX6_putBehind rmX6_putBehind (va_Pc [.ref q_t, .int v1, .int v2] (jpre XT D (tyL cI cJ cC cL) [(q_t, .inr (5, [.ref q_t_numbers, .ref q_t_details, .int t_count])), (q_t_numbers, .inl (cI, 3, .inl t_numbers)), (q_t_details, .inl (cI, 3, .inl t_details))] sz)) (va_Qv (fun (_ : Unit) => True) (fun _ t => jpost D (tyL cI cJ cC cL) (va_A [(q_t, .inr (5, [.ref q_t_numbers, .ref q_t_details, .int t_count])), (q_t_numbers, .inl (cI, 3, .inl t_numbers)), (q_t_details, .inl (cI, 3, .inl t_details))] sz) [(q_t, .inr (5, [.ref q_t_numbers, .ref q_t_details, .int o_t_count])), (q_t_numbers, .inl (cI, 3, .inl o_t_numbers)), (q_t_details, .inl (cI, 3, .inl o_t_details))] t) (va_A [(q_t, .inr (5, [.ref q_t_numbers, .ref q_t_details, .int t_count])), (q_t_numbers, .inl (cI, 3, .inl t_numbers)), (q_t_details, .inl (cI, 3, .inl t_details))] sz)) 0 0 (va_A [(q_t, .inr (5, [.ref q_t_numbers, .ref q_t_details, .int t_count])), (q_t_numbers, .inl (cI, 3, .inl t_numbers)), (q_t_details, .inl (cI, 3, .inl t_details))] sz) := by
  refine jE_v (cc := cX6_putBehind) (maxL := 3) (own := RX6) (ret := none) (lv0 := [(0, .ref q_t), (1, .int v1), (2, .int v2)]) (by decide) rfl rfl rfl (Nat.le_of_ble_eq_true rfl) rfl ?_
  intro p e s m args below meth c A Q ls hx hb hml hown hts hK hN hX hA hP hD hS hl hRet
  have hF : CallFix p m c cX6_putBehind 3 s args wsX6_putBehind RX6 := ⟨hx, hb, hml, hown, hts⟩
  have fl_11 := hts (.fieldLink RX6 11 "LanternLogic$Reasons" "numbers" "[I") (by decide +kernel)
  have fl_15 := hts (.fieldLink RX6 15 "LanternLogic$Reasons" "details" "[I") (by decide +kernel)
  have fl_18 := hts (.fieldLink RX6 18 "LanternLogic$Reasons" "count" "I") (by decide +kernel)
  have hin_X6 : ∀ w ∈ u_ws RX6 TX6 3, w ∈ wsX6_putBehind := by decide +kernel
  have B45 : ∀ (t_count : Int32) (t_numbers : Nat → Int32) (t_details : Nat → Int32) (H : Heap) (locs : List Loc), va_P D vwCl [(q_t, .inr (5, [.ref q_t_numbers, .ref q_t_details, .int t_count])), (q_t_numbers, .inl (cI, 3, .inl t_numbers)), (q_t_details, .inl (cI, 3, .inl t_details))] H → va_D A [(q_t, .inr (5, [.ref q_t_numbers, .ref q_t_details, .int t_count])), (q_t_numbers, .inl (cI, 3, .inl t_numbers)), (q_t_details, .inl (cI, 3, .inl t_details))] → va_S A s.heap H locs → ∀ ls : Array Slot, lv_has ls 3 [] → J_X6_putBehind_b45  v1 v2 t_count t_numbers t_details = some (o_t_count, o_t_numbers, o_t_details) → W p l e rmX6_putBehind s m args below meth c H locs 0 0 Q (F0 m 45 ls []) := by
    intro t_count t_numbers t_details H locs hP hD hS ls hl hJ
    unfold J_X6_putBehind_b45 at hJ
    have hJ := Option.some.inj hJ
    obtain ⟨e0, e1, e2⟩ : (t_count) = o_t_count ∧ (t_numbers) = o_t_numbers ∧ (t_details) = o_t_details := ⟨congrArg (fun z => z.1) hJ, congrArg (fun z => z.2.1) hJ, congrArg (fun z => z.2.2) hJ⟩
    exact hRet (by rw [← e0, ← e1, ← e2]; exact hP) (by rw [← e0, ← e1, ← e2]; exact hD) hS dX6_putBehind_45
  unfold J_X6_putBehind at hJ
  refine lv_aload_n hx hb dX6_putBehind_0 rfl (lv_at hl 0 rfl) ?_
  refine va_get (ci := 5) (v := .int t_count) (C := RX6) (T := TX6) (N := 3) hx hb hts hin_X6 hown hK hP 0 rfl rfl 2 (by decide) fl_18 (fun _ h9 => h9) rfl dX6_putBehind_1 ?_
  refine jif_lt (tgt := 45) hx hb dX6_putBehind_4 (by decide) hJ (fun hJ => ?_) (fun hJ => ?_)
  · exact B45  t_count t_numbers t_details  s.heap []  hP hD hS _ (lv_sub hl [] rfl) hJ
  · refine lv_aload_n hx hb dX6_putBehind_7 rfl (lv_at hl 0 rfl) ?_
    refine va_get (ci := 5) (v := .int t_count) (C := RX6) (T := TX6) (N := 3) hx hb hts hin_X6 hown hK hP 0 rfl rfl 2 (by decide) fl_18 (fun _ h9 => h9) rfl dX6_putBehind_8 ?_
    refine lv_iconst (v := (3 : Int32)) hx hb dX6_putBehind_11 (by decide) ?_
    refine jif_icmp_ge (tgt := 45) hx hb dX6_putBehind_12 (by decide) hJ (fun hJ => ?_) (fun hJ => ?_)
    · exact B45  t_count t_numbers t_details  s.heap []  hP hD hS _ (lv_sub hl [] rfl) hJ
    · refine lv_aload_n hx hb dX6_putBehind_15 rfl (lv_at hl 0 rfl) ?_
      refine va_get (ci := 5) (v := .ref q_t_numbers) (C := RX6) (T := TX6) (N := 3) hx hb hts hin_X6 hown hK hP 0 rfl rfl 0 (by decide) fl_11 (fun _ h9 => h9) rfl dX6_putBehind_16 ?_
      refine lv_aload_n hx hb dX6_putBehind_19 rfl (lv_at hl 0 rfl) ?_
      refine va_get (ci := 5) (v := .int t_count) (C := RX6) (T := TX6) (N := 3) hx hb hts hin_X6 hown hK hP 0 rfl rfl 2 (by decide) fl_18 (fun _ h9 => h9) rfl dX6_putBehind_20 ?_
      refine lv_iload_n hx hb dX6_putBehind_23 rfl (lv_at hl 1 rfl) ?_
      obtain ⟨hin, hJ⟩ := chk_in hJ
      refine va_iast hx hb hK hP hD hS 1 0 rfl rfl hin dX6_putBehind_24 (fun H locs hP hD hS => ?_)
      have hP : va_P D vwCl [(q_t, .inr (5, [.ref q_t_numbers, .ref q_t_details, .int t_count])), (q_t_numbers, .inl (cI, 3, .inl (upd t_numbers t_count.toNatClampNeg v1))), (q_t_details, .inl (cI, 3, .inl t_details))] H := hP
      have hD : va_D A [(q_t, .inr (5, [.ref q_t_numbers, .ref q_t_details, .int t_count])), (q_t_numbers, .inl (cI, 3, .inl (upd t_numbers t_count.toNatClampNeg v1))), (q_t_details, .inl (cI, 3, .inl t_details))] := hD
      refine lv_aload_n hx hb dX6_putBehind_25 rfl (lv_at hl 0 rfl) ?_
      refine va_get (ci := 5) (v := .ref q_t_details) (C := RX6) (T := TX6) (N := 3) hx hb hts hin_X6 hown hK hP 0 rfl rfl 1 (by decide) fl_15 (fun _ h9 => h9) rfl dX6_putBehind_26 ?_
      refine lv_aload_n hx hb dX6_putBehind_29 rfl (lv_at hl 0 rfl) ?_
      refine va_get (ci := 5) (v := .int t_count) (C := RX6) (T := TX6) (N := 3) hx hb hts hin_X6 hown hK hP 0 rfl rfl 2 (by decide) fl_18 (fun _ h9 => h9) rfl dX6_putBehind_30 ?_
      refine lv_iload_n hx hb dX6_putBehind_33 rfl (lv_at hl 2 rfl) ?_
      obtain ⟨hin, hJ⟩ := chk_in hJ
      refine va_iast hx hb hK hP hD hS 2 0 rfl rfl hin dX6_putBehind_34 (fun H locs hP hD hS => ?_)
      have hP : va_P D vwCl [(q_t, .inr (5, [.ref q_t_numbers, .ref q_t_details, .int t_count])), (q_t_numbers, .inl (cI, 3, .inl (upd t_numbers t_count.toNatClampNeg v1))), (q_t_details, .inl (cI, 3, .inl (upd t_details t_count.toNatClampNeg v2)))] H := hP
      have hD : va_D A [(q_t, .inr (5, [.ref q_t_numbers, .ref q_t_details, .int t_count])), (q_t_numbers, .inl (cI, 3, .inl (upd t_numbers t_count.toNatClampNeg v1))), (q_t_details, .inl (cI, 3, .inl (upd t_details t_count.toNatClampNeg v2)))] := hD
      refine lv_aload_n hx hb dX6_putBehind_35 rfl (lv_at hl 0 rfl) ?_
      refine lv_dup hx hb dX6_putBehind_36 rfl ?_
      refine va_get (ci := 5) (v := .int t_count) (C := RX6) (T := TX6) (N := 3) hx hb hts hin_X6 hown hK hP 0 rfl rfl 2 (by decide) fl_18 (fun _ h9 => h9) rfl dX6_putBehind_37 ?_
      refine lv_iconst (v := (1 : Int32)) hx hb dX6_putBehind_40 (by decide) ?_
      refine lv_iadd hx hb dX6_putBehind_41 ?_
      refine jt_i hJ (fun x41 hJ => ?_)
      refine va_put (ci := 5) (v := .int x41) (ty := .int) (C := RX6) (T := TX6) (N := 3) hx hb hts hin_X6 tyX6 tyX6_ok nmX6 hown hK hP hD hS 0 rfl rfl 2 (by decide) fl_18 (fun _ h9 => h9) rfl (by decide +kernel) rfl rfl (Nat.le_of_ble_eq_true rfl) dX6_putBehind_42 (fun H locs hP hD hS => ?_)
      have hP : va_P D vwCl [(q_t, .inr (5, [.ref q_t_numbers, .ref q_t_details, .int x41])), (q_t_numbers, .inl (cI, 3, .inl (upd t_numbers t_count.toNatClampNeg v1))), (q_t_details, .inl (cI, 3, .inl (upd t_details t_count.toNatClampNeg v2)))] H := hP
      have hD : va_D A [(q_t, .inr (5, [.ref q_t_numbers, .ref q_t_details, .int x41])), (q_t_numbers, .inl (cI, 3, .inl (upd t_numbers t_count.toNatClampNeg v1))), (q_t_details, .inl (cI, 3, .inl (upd t_details t_count.toNatClampNeg v2)))] := hD
      exact B45  x41 (upd t_numbers t_count.toNatClampNeg v1) (upd t_details t_count.toNatClampNeg v2)  H locs  hP hD hS _ (lv_sub hl [] rfl) hJ

def J_X6_putAhead_L12 (v1 : Int32) (v2 : Int32) : Nat → Int32 → (Nat → Int32) → (Nat → Int32) → Int32 → Int32 → Option (Int32 × (Nat → Int32) × (Nat → Int32))
  | 0, _, _, _, _, _ => none
  | nf + 1, t_count, t_numbers, t_details, v3, v4 =>
    if v4 ≤ 0 then (
    chk (0 : Int32) 3 (
    chk (0 : Int32) 3 (
    nm (v3 + (1 : Int32)) fun x72 =>
    some (x72, (upd t_numbers (0 : Int32).toNatClampNeg v1), (upd t_details (0 : Int32).toNatClampNeg v2)))))
    else (
    nm (v4 - (1 : Int32)) fun x30 =>
    chk x30 3 (
    nm (t_numbers x30.toNatClampNeg) fun x31 =>
    chk v4 3 (
    nm (v4 - (1 : Int32)) fun x46 =>
    chk x46 3 (
    nm (t_details x46.toNatClampNeg) fun x47 =>
    chk v4 3 (
    nm (v4 + Int32.ofInt (-1)) fun x49 =>
    J_X6_putAhead_L12 v1 v2 nf t_count (upd t_numbers v4.toNatClampNeg x31) (upd t_details v4.toNatClampNeg x47) v3 x49)))))
def J_X6_putAhead (t_count : Int32) (t_numbers : Nat → Int32) (t_details : Nat → Int32) (v1 : Int32) (v2 : Int32) : Option (Int32 × (Nat → Int32) × (Nat → Int32)) :=
    nm (if (2 : Int32) < t_count then (2 : Int32) else t_count) fun x5 =>
    J_X6_putAhead_L12 v1 v2 FU t_count t_numbers t_details x5 x5
abbrev rmX6_putAhead : Room := { frames := 1, cells := 0, slots := 0, locals := 21 }
set_option maxHeartbeats 4000000 in
set_option maxRecDepth 100000 in
theorem c_X6_putAhead (l : Launch) (D : va_G) (cI cJ cC cL : ClassId) (q_t q_t_numbers q_t_details : Nat) (t_count : Int32) (t_numbers : Nat → Int32) (t_details : Nat → Int32) (v1 : Int32) (v2 : Int32) (o_t_count : Int32) (o_t_numbers : Nat → Int32) (o_t_details : Nat → Int32) (hJ : J_X6_putAhead t_count t_numbers t_details v1 v2 = some (o_t_count, o_t_numbers, o_t_details)) (sz : Nat) : Met l yX6_putAhead wsX6_putAhead rmX6_putAhead (va_Pc [.ref q_t, .int v1, .int v2] (jpre XT D (tyL cI cJ cC cL) [(q_t, .inr (5, [.ref q_t_numbers, .ref q_t_details, .int t_count])), (q_t_numbers, .inl (cI, 3, .inl t_numbers)), (q_t_details, .inl (cI, 3, .inl t_details))] sz)) (va_Qv (fun (_ : Unit) => True) (fun _ t => jpost D (tyL cI cJ cC cL) (va_A [(q_t, .inr (5, [.ref q_t_numbers, .ref q_t_details, .int t_count])), (q_t_numbers, .inl (cI, 3, .inl t_numbers)), (q_t_details, .inl (cI, 3, .inl t_details))] sz) [(q_t, .inr (5, [.ref q_t_numbers, .ref q_t_details, .int o_t_count])), (q_t_numbers, .inl (cI, 3, .inl o_t_numbers)), (q_t_details, .inl (cI, 3, .inl o_t_details))] t) (va_A [(q_t, .inr (5, [.ref q_t_numbers, .ref q_t_details, .int t_count])), (q_t_numbers, .inl (cI, 3, .inl t_numbers)), (q_t_details, .inl (cI, 3, .inl t_details))] sz)) 0 0 (va_A [(q_t, .inr (5, [.ref q_t_numbers, .ref q_t_details, .int t_count])), (q_t_numbers, .inl (cI, 3, .inl t_numbers)), (q_t_details, .inl (cI, 3, .inl t_details))] sz) := by
  refine jE_v (cc := cX6_putAhead) (maxL := 5) (own := RX6) (ret := none) (lv0 := [(0, .ref q_t), (1, .int v1), (2, .int v2)]) (by decide) rfl rfl rfl (Nat.le_of_ble_eq_true rfl) rfl ?_
  intro p e s m args below meth c A Q ls hx hb hml hown hts hK hN hX hA hP hD hS hl hRet
  have hF : CallFix p m c cX6_putAhead 5 s args wsX6_putAhead RX6 := ⟨hx, hb, hml, hown, hts⟩
  have fl_11 := hts (.fieldLink RX6 11 "LanternLogic$Reasons" "numbers" "[I") (by decide +kernel)
  have fl_15 := hts (.fieldLink RX6 15 "LanternLogic$Reasons" "details" "[I") (by decide +kernel)
  have fl_18 := hts (.fieldLink RX6 18 "LanternLogic$Reasons" "count" "I") (by decide +kernel)
  have hin_X6 : ∀ w ∈ u_ws RX6 TX6 3, w ∈ wsX6_putAhead := by decide +kernel
  have L12 : ∀ (nf : Nat), ∀ (t_count : Int32) (t_numbers : Nat → Int32) (t_details : Nat → Int32) (v3 : Int32) (v4 : Int32) (H : Heap) (locs : List Loc), va_P D vwCl [(q_t, .inr (5, [.ref q_t_numbers, .ref q_t_details, .int t_count])), (q_t_numbers, .inl (cI, 3, .inl t_numbers)), (q_t_details, .inl (cI, 3, .inl t_details))] H → va_D A [(q_t, .inr (5, [.ref q_t_numbers, .ref q_t_details, .int t_count])), (q_t_numbers, .inl (cI, 3, .inl t_numbers)), (q_t_details, .inl (cI, 3, .inl t_details))] → va_S A s.heap H locs → ∀ ls : Array Slot, lv_has ls 5 [(0, .ref q_t), (1, .int v1), (2, .int v2), (3, .int v3), (4, .int v4)] → J_X6_putAhead_L12  v1 v2 nf t_count t_numbers t_details v3 v4 = some (o_t_count, o_t_numbers, o_t_details) → W p l e rmX6_putAhead s m args below meth c H locs 0 0 Q (F0 m 12 ls []) := by
    intro nf
    induction nf with
    | zero =>
      intro t_count t_numbers t_details v3 v4 H locs hP hD hS ls hl hJ
      rw [J_X6_putAhead_L12] at hJ
      cases hJ
    | succ nf ih =>
      intro t_count t_numbers t_details v3 v4 H locs hP hD hS ls hl hJ
      rw [J_X6_putAhead_L12] at hJ
      refine lv_iload hx hb dX6_putAhead_12 (lv_at hl 4 rfl) ?_
      refine jif_le (tgt := 55) hx hb dX6_putAhead_14 (by decide) hJ (fun hJ => ?_) (fun hJ => ?_)
      · refine lv_aload_n hx hb dX6_putAhead_55 rfl (lv_at hl 0 rfl) ?_
        refine va_get (ci := 5) (v := .ref q_t_numbers) (C := RX6) (T := TX6) (N := 3) hx hb hts hin_X6 hown hK hP 0 rfl rfl 0 (by decide) fl_11 (fun _ h9 => h9) rfl dX6_putAhead_56 ?_
        refine lv_iconst (v := (0 : Int32)) hx hb dX6_putAhead_59 (by decide) ?_
        refine lv_iload_n hx hb dX6_putAhead_60 rfl (lv_at hl 1 rfl) ?_
        obtain ⟨hin, hJ⟩ := chk_in hJ
        refine va_iast hx hb hK hP hD hS 1 0 rfl rfl hin dX6_putAhead_61 (fun H locs hP hD hS => ?_)
        have hP : va_P D vwCl [(q_t, .inr (5, [.ref q_t_numbers, .ref q_t_details, .int t_count])), (q_t_numbers, .inl (cI, 3, .inl (upd t_numbers (0 : Int32).toNatClampNeg v1))), (q_t_details, .inl (cI, 3, .inl t_details))] H := hP
        have hD : va_D A [(q_t, .inr (5, [.ref q_t_numbers, .ref q_t_details, .int t_count])), (q_t_numbers, .inl (cI, 3, .inl (upd t_numbers (0 : Int32).toNatClampNeg v1))), (q_t_details, .inl (cI, 3, .inl t_details))] := hD
        refine lv_aload_n hx hb dX6_putAhead_62 rfl (lv_at hl 0 rfl) ?_
        refine va_get (ci := 5) (v := .ref q_t_details) (C := RX6) (T := TX6) (N := 3) hx hb hts hin_X6 hown hK hP 0 rfl rfl 1 (by decide) fl_15 (fun _ h9 => h9) rfl dX6_putAhead_63 ?_
        refine lv_iconst (v := (0 : Int32)) hx hb dX6_putAhead_66 (by decide) ?_
        refine lv_iload_n hx hb dX6_putAhead_67 rfl (lv_at hl 2 rfl) ?_
        obtain ⟨hin, hJ⟩ := chk_in hJ
        refine va_iast hx hb hK hP hD hS 2 0 rfl rfl hin dX6_putAhead_68 (fun H locs hP hD hS => ?_)
        have hP : va_P D vwCl [(q_t, .inr (5, [.ref q_t_numbers, .ref q_t_details, .int t_count])), (q_t_numbers, .inl (cI, 3, .inl (upd t_numbers (0 : Int32).toNatClampNeg v1))), (q_t_details, .inl (cI, 3, .inl (upd t_details (0 : Int32).toNatClampNeg v2)))] H := hP
        have hD : va_D A [(q_t, .inr (5, [.ref q_t_numbers, .ref q_t_details, .int t_count])), (q_t_numbers, .inl (cI, 3, .inl (upd t_numbers (0 : Int32).toNatClampNeg v1))), (q_t_details, .inl (cI, 3, .inl (upd t_details (0 : Int32).toNatClampNeg v2)))] := hD
        refine lv_aload_n hx hb dX6_putAhead_69 rfl (lv_at hl 0 rfl) ?_
        refine lv_iload_n hx hb dX6_putAhead_70 rfl (lv_at hl 3 rfl) ?_
        refine lv_iconst (v := (1 : Int32)) hx hb dX6_putAhead_71 (by decide) ?_
        refine lv_iadd hx hb dX6_putAhead_72 ?_
        refine jt_i hJ (fun x72 hJ => ?_)
        refine va_put (ci := 5) (v := .int x72) (ty := .int) (C := RX6) (T := TX6) (N := 3) hx hb hts hin_X6 tyX6 tyX6_ok nmX6 hown hK hP hD hS 0 rfl rfl 2 (by decide) fl_18 (fun _ h9 => h9) rfl (by decide +kernel) rfl rfl (Nat.le_of_ble_eq_true rfl) dX6_putAhead_73 (fun H locs hP hD hS => ?_)
        have hP : va_P D vwCl [(q_t, .inr (5, [.ref q_t_numbers, .ref q_t_details, .int x72])), (q_t_numbers, .inl (cI, 3, .inl (upd t_numbers (0 : Int32).toNatClampNeg v1))), (q_t_details, .inl (cI, 3, .inl (upd t_details (0 : Int32).toNatClampNeg v2)))] H := hP
        have hD : va_D A [(q_t, .inr (5, [.ref q_t_numbers, .ref q_t_details, .int x72])), (q_t_numbers, .inl (cI, 3, .inl (upd t_numbers (0 : Int32).toNatClampNeg v1))), (q_t_details, .inl (cI, 3, .inl (upd t_details (0 : Int32).toNatClampNeg v2)))] := hD
        have hJ := Option.some.inj hJ
        obtain ⟨e0, e1, e2⟩ : (x72) = o_t_count ∧ ((upd t_numbers (0 : Int32).toNatClampNeg v1)) = o_t_numbers ∧ ((upd t_details (0 : Int32).toNatClampNeg v2)) = o_t_details := ⟨congrArg (fun z => z.1) hJ, congrArg (fun z => z.2.1) hJ, congrArg (fun z => z.2.2) hJ⟩
        exact hRet (by rw [← e0, ← e1, ← e2]; exact hP) (by rw [← e0, ← e1, ← e2]; exact hD) hS dX6_putAhead_76
      · refine lv_aload_n hx hb dX6_putAhead_17 rfl (lv_at hl 0 rfl) ?_
        refine va_get (ci := 5) (v := .ref q_t_numbers) (C := RX6) (T := TX6) (N := 3) hx hb hts hin_X6 hown hK hP 0 rfl rfl 0 (by decide) fl_11 (fun _ h9 => h9) rfl dX6_putAhead_18 ?_
        refine lv_iload hx hb dX6_putAhead_21 (lv_at hl 4 rfl) ?_
        refine lv_aload_n hx hb dX6_putAhead_23 rfl (lv_at hl 0 rfl) ?_
        refine va_get (ci := 5) (v := .ref q_t_numbers) (C := RX6) (T := TX6) (N := 3) hx hb hts hin_X6 hown hK hP 0 rfl rfl 0 (by decide) fl_11 (fun _ h9 => h9) rfl dX6_putAhead_24 ?_
        refine lv_iload hx hb dX6_putAhead_27 (lv_at hl 4 rfl) ?_
        refine lv_iconst (v := (1 : Int32)) hx hb dX6_putAhead_29 (by decide) ?_
        refine lv_isub hx hb dX6_putAhead_30 ?_
        refine jt_i hJ (fun x30 hJ => ?_)
        obtain ⟨hin, hJ⟩ := chk_in hJ
        refine va_iald hx hb hK hP 1 0 rfl rfl hin dX6_putAhead_31 ?_
        refine jt_i hJ (fun x31 hJ => ?_)
        obtain ⟨hin, hJ⟩ := chk_in hJ
        refine va_iast hx hb hK hP hD hS 1 0 rfl rfl hin dX6_putAhead_32 (fun H locs hP hD hS => ?_)
        have hP : va_P D vwCl [(q_t, .inr (5, [.ref q_t_numbers, .ref q_t_details, .int t_count])), (q_t_numbers, .inl (cI, 3, .inl (upd t_numbers v4.toNatClampNeg x31))), (q_t_details, .inl (cI, 3, .inl t_details))] H := hP
        have hD : va_D A [(q_t, .inr (5, [.ref q_t_numbers, .ref q_t_details, .int t_count])), (q_t_numbers, .inl (cI, 3, .inl (upd t_numbers v4.toNatClampNeg x31))), (q_t_details, .inl (cI, 3, .inl t_details))] := hD
        refine lv_aload_n hx hb dX6_putAhead_33 rfl (lv_at hl 0 rfl) ?_
        refine va_get (ci := 5) (v := .ref q_t_details) (C := RX6) (T := TX6) (N := 3) hx hb hts hin_X6 hown hK hP 0 rfl rfl 1 (by decide) fl_15 (fun _ h9 => h9) rfl dX6_putAhead_34 ?_
        refine lv_iload hx hb dX6_putAhead_37 (lv_at hl 4 rfl) ?_
        refine lv_aload_n hx hb dX6_putAhead_39 rfl (lv_at hl 0 rfl) ?_
        refine va_get (ci := 5) (v := .ref q_t_details) (C := RX6) (T := TX6) (N := 3) hx hb hts hin_X6 hown hK hP 0 rfl rfl 1 (by decide) fl_15 (fun _ h9 => h9) rfl dX6_putAhead_40 ?_
        refine lv_iload hx hb dX6_putAhead_43 (lv_at hl 4 rfl) ?_
        refine lv_iconst (v := (1 : Int32)) hx hb dX6_putAhead_45 (by decide) ?_
        refine lv_isub hx hb dX6_putAhead_46 ?_
        refine jt_i hJ (fun x46 hJ => ?_)
        obtain ⟨hin, hJ⟩ := chk_in hJ
        refine va_iald hx hb hK hP 2 0 rfl rfl hin dX6_putAhead_47 ?_
        refine jt_i hJ (fun x47 hJ => ?_)
        obtain ⟨hin, hJ⟩ := chk_in hJ
        refine va_iast hx hb hK hP hD hS 2 0 rfl rfl hin dX6_putAhead_48 (fun H locs hP hD hS => ?_)
        have hP : va_P D vwCl [(q_t, .inr (5, [.ref q_t_numbers, .ref q_t_details, .int t_count])), (q_t_numbers, .inl (cI, 3, .inl (upd t_numbers v4.toNatClampNeg x31))), (q_t_details, .inl (cI, 3, .inl (upd t_details v4.toNatClampNeg x47)))] H := hP
        have hD : va_D A [(q_t, .inr (5, [.ref q_t_numbers, .ref q_t_details, .int t_count])), (q_t_numbers, .inl (cI, 3, .inl (upd t_numbers v4.toNatClampNeg x31))), (q_t_details, .inl (cI, 3, .inl (upd t_details v4.toNatClampNeg x47)))] := hD
        refine jt_iinc hJ (fun x49 ex49 hJ => ?_)
        refine lv_iinc (v := x49) (lv' := [(4, .int x49), (0, .ref q_t), (1, .int v1), (2, .int v2), (3, .int v3)]) hx hb dX6_putAhead_49 hl (k := 4) rfl ex49 (by decide) rfl (fun ls hl => ?_)
        refine lv_goto (tgt := 12) hx hb dX6_putAhead_52 (by decide) ?_
        exact ih t_count (upd t_numbers v4.toNatClampNeg x31) (upd t_details v4.toNatClampNeg x47) v3 x49  H locs  hP hD hS _ (lv_sub hl [1, 2, 3, 4, 0] rfl) hJ
  unfold J_X6_putAhead at hJ
  refine lv_aload_n hx hb dX6_putAhead_0 rfl (lv_at hl 0 rfl) ?_
  refine va_get (ci := 5) (v := .int t_count) (C := RX6) (T := TX6) (N := 3) hx hb hts hin_X6 hown hK hP 0 rfl rfl 2 (by decide) fl_18 (fun _ h9 => h9) rfl dX6_putAhead_1 ?_
  refine lv_iconst (v := (2 : Int32)) hx hb dX6_putAhead_4 (by decide) ?_
  refine va_mmin hx hb (hml.trans hl.1.symm) hown (hts (.methodLink RX6 22 Lib.Math.min.name) (by decide +kernel)) (hts (.static Lib.Math.min.name) (by decide +kernel)) (hts (.initialized "java/lang/Math") (by decide +kernel)) (hts (.code Lib.Math.min.name Lib.Math.min.code 2 (some .int)) (by decide +kernel)) (Nat.le_of_ble_eq_true rfl) (Nat.le_of_ble_eq_true rfl) (Nat.zero_le _) (Nat.zero_le _) dX6_putAhead_5 ?_
  refine jt_i hJ (fun x5 hJ => ?_)
  refine lv_istore_n (lv' := [(3, .int x5), (0, .ref q_t), (1, .int v1), (2, .int v2)]) hx hb dX6_putAhead_8 rfl hl (by decide) rfl (fun ls hl => ?_)
  refine lv_iload_n hx hb dX6_putAhead_9 rfl (lv_at hl 0 rfl) ?_
  refine lv_istore (lv' := [(4, .int x5), (3, .int x5), (0, .ref q_t), (1, .int v1), (2, .int v2)]) hx hb dX6_putAhead_10 hl (by decide) rfl (fun ls hl => ?_)
  exact L12  FU t_count t_numbers t_details x5 x5  s.heap []  hP hD hS _ (lv_sub hl [2, 3, 4, 1, 0] rfl) hJ

def J_X6_isKept_b22 (t_count : Int32) (v1 : Int32) (s22_0 : Int32) : Option (Int32) :=
    chz s22_0 (some (s22_0))
def J_X6_isKept_b21 (t_count : Int32) (v1 : Int32) : Option (Int32) :=
    J_X6_isKept_b22 t_count v1 (0 : Int32)
def J_X6_isKept (t_count : Int32) (v1 : Int32) : Option (Int32) :=
    if v1 < 0 then (
    J_X6_isKept_b21 t_count v1 )
    else (
    if t_count ≤ v1 then (
    J_X6_isKept_b21 t_count v1 )
    else (
    if (3 : Int32) ≤ v1 then (
    J_X6_isKept_b21 t_count v1 )
    else (
    J_X6_isKept_b22 t_count v1 (1 : Int32))))
abbrev rmX6_isKept : Room := { frames := 0, cells := 0, slots := 0, locals := 0 }
set_option maxHeartbeats 4000000 in
set_option maxRecDepth 100000 in
theorem c_X6_isKept (l : Launch) (D : va_G) (cI cJ cC cL : ClassId) (q_t q_t_numbers q_t_details : Nat) (t_count : Int32) (v1 : Int32) (r : Int32) (hJ : J_X6_isKept t_count v1 = some (r)) (sz : Nat) : Met l yX6_isKept wsX6_isKept rmX6_isKept (va_Pc [.ref q_t, .int v1] (jpre XT D (tyL cI cJ cC cL) [(q_t, .inr (5, [.ref q_t_numbers, .ref q_t_details, .int t_count]))] sz)) (va_Qi (fun r' (_ : Unit) => r' = r) (fun _ t => jpost D (tyL cI cJ cC cL) (va_A [(q_t, .inr (5, [.ref q_t_numbers, .ref q_t_details, .int t_count]))] sz) [(q_t, .inr (5, [.ref q_t_numbers, .ref q_t_details, .int t_count]))] t) (va_A [(q_t, .inr (5, [.ref q_t_numbers, .ref q_t_details, .int t_count]))] sz)) 0 0 (va_A [(q_t, .inr (5, [.ref q_t_numbers, .ref q_t_details, .int t_count]))] sz) := by
  refine jE_z (cc := cX6_isKept) (maxL := 2) (own := RX6) (ret := (some .boolean)) (lv0 := [(0, .ref q_t), (1, .int v1)]) (by decide) rfl rfl rfl (Nat.le_of_ble_eq_true rfl) rfl ?_
  intro p e s m args below meth c A Q ls hx hb hml hown hts hK hN hX hA hP hD hS hl hRet
  have hF : CallFix p m c cX6_isKept 2 s args wsX6_isKept RX6 := ⟨hx, hb, hml, hown, hts⟩
  have fl_18 := hts (.fieldLink RX6 18 "LanternLogic$Reasons" "count" "I") (by decide +kernel)
  have hin_X6 : ∀ w ∈ u_ws RX6 TX6 3, w ∈ wsX6_isKept := by decide +kernel
  have B22 : ∀ (s22_0 : Int32) (H : Heap) (locs : List Loc), va_P D vwCl [(q_t, .inr (5, [.ref q_t_numbers, .ref q_t_details, .int t_count]))] H → va_D A [(q_t, .inr (5, [.ref q_t_numbers, .ref q_t_details, .int t_count]))] → va_S A s.heap H locs → ∀ ls : Array Slot, lv_has ls 2 [] → J_X6_isKept_b22  t_count v1 s22_0 = some (r) → W p l e rmX6_isKept s m args below meth c H locs 0 0 Q (F0 m 22 ls [.int s22_0]) := by
    intro s22_0 H locs hP hD hS ls hl hJ
    unfold J_X6_isKept_b22 at hJ
    obtain ⟨h01, hJ⟩ := chz_ok hJ
    have e0 := Option.some.inj hJ
    exact hRet hP hD hS h01 e0 dX6_isKept_22
  have B21 : ∀ (H : Heap) (locs : List Loc), va_P D vwCl [(q_t, .inr (5, [.ref q_t_numbers, .ref q_t_details, .int t_count]))] H → va_D A [(q_t, .inr (5, [.ref q_t_numbers, .ref q_t_details, .int t_count]))] → va_S A s.heap H locs → ∀ ls : Array Slot, lv_has ls 2 [] → J_X6_isKept_b21  t_count v1  = some (r) → W p l e rmX6_isKept s m args below meth c H locs 0 0 Q (F0 m 21 ls []) := by
    intro H locs hP hD hS ls hl hJ
    unfold J_X6_isKept_b21 at hJ
    refine lv_iconst (v := (0 : Int32)) hx hb dX6_isKept_21 (by decide) ?_
    exact B22  (0 : Int32)  H locs  hP hD hS _ (lv_sub hl [] rfl) hJ
  unfold J_X6_isKept at hJ
  refine lv_iload_n hx hb dX6_isKept_0 rfl (lv_at hl 1 rfl) ?_
  refine jif_lt (tgt := 21) hx hb dX6_isKept_1 (by decide) hJ (fun hJ => ?_) (fun hJ => ?_)
  · exact B21    s.heap []  hP hD hS _ (lv_sub hl [] rfl) hJ
  · refine lv_iload_n hx hb dX6_isKept_4 rfl (lv_at hl 1 rfl) ?_
    refine lv_aload_n hx hb dX6_isKept_5 rfl (lv_at hl 0 rfl) ?_
    refine va_get (ci := 5) (v := .int t_count) (C := RX6) (T := TX6) (N := 3) hx hb hts hin_X6 hown hK hP 0 rfl rfl 2 (by decide) fl_18 (fun _ h9 => h9) rfl dX6_isKept_6 ?_
    refine jif_icmp_ge (tgt := 21) hx hb dX6_isKept_9 (by decide) hJ (fun hJ => ?_) (fun hJ => ?_)
    · exact B21    s.heap []  hP hD hS _ (lv_sub hl [] rfl) hJ
    · refine lv_iload_n hx hb dX6_isKept_12 rfl (lv_at hl 1 rfl) ?_
      refine lv_iconst (v := (3 : Int32)) hx hb dX6_isKept_13 (by decide) ?_
      refine jif_icmp_ge (tgt := 21) hx hb dX6_isKept_14 (by decide) hJ (fun hJ => ?_) (fun hJ => ?_)
      · exact B21    s.heap []  hP hD hS _ (lv_sub hl [] rfl) hJ
      · refine lv_iconst (v := (1 : Int32)) hx hb dX6_isKept_17 (by decide) ?_
        refine lv_goto (tgt := 22) hx hb dX6_isKept_18 (by decide) ?_
        exact B22  (1 : Int32)  s.heap []  hP hD hS _ (lv_sub hl [] rfl) hJ

def J_X7_isGlowingAtLast_b105 (k11 : Int32 → Int32 → Int32 → Option (Int32)) (k30 : Int32 → Int32 → Int32 → Int32 → Option (Int32)) (a0_count : Int32) (a0_kinds : Nat → Int32) (a0_sources : Nat → Int32) (v1 : Int32) (v2 : Int32) (v3 : Int32) (v4 : Int32) (v5 : Int32) (v6 : Int32) : Option (Int32) :=
    nm (v6 + Int32.ofInt 1) fun x105 =>
    k30 v3 v4 v5 x105
def J_X7_isGlowingAtLast_b103 (k11 : Int32 → Int32 → Int32 → Option (Int32)) (k30 : Int32 → Int32 → Int32 → Int32 → Option (Int32)) (a0_count : Int32) (a0_kinds : Nat → Int32) (a0_sources : Nat → Int32) (v1 : Int32) (v2 : Int32) (v4 : Int32) (v5 : Int32) (v6 : Int32) (s103_0 : Int32) (s103_1 : Int32) : Option (Int32) :=
    nm (s103_0 ||| s103_1) fun x103 =>
    J_X7_isGlowingAtLast_b105 k11 k30 a0_count a0_kinds a0_sources v1 v2 x103 v4 v5 v6
def J_X7_isGlowingAtLast_b58 (k11 : Int32 → Int32 → Int32 → Option (Int32)) (k30 : Int32 → Int32 → Int32 → Int32 → Option (Int32)) (a0_count : Int32) (a0_kinds : Nat → Int32) (a0_sources : Nat → Int32) (v1 : Int32) (v2 : Int32) (v3 : Int32) (v4 : Int32) (v5 : Int32) (v6 : Int32) (s58_0 : Int32) : Option (Int32) :=
    if s58_0 = 0 then (
    J_X7_isGlowingAtLast_b105 k11 k30 a0_count a0_kinds a0_sources v1 v2 v3 v4 v5 v6)
    else (
    bnd1 (J_X9_isIn v4 v6) fun x69 =>
    if x69 = 0 then (
    nm (v4 ||| ((1 : Int32) <<< (v6 &&& 31))) fun x81 =>
    bnd1 (J_X2_isFinding a0_kinds a0_sources v6 v3) fun x89 =>
    if x89 = 0 then (
    J_X7_isGlowingAtLast_b103 k11 k30 a0_count a0_kinds a0_sources v1 v2 x81 v5 v6 v3 (0 : Int32))
    else (
    nm ((1 : Int32) <<< (v6 &&& 31)) fun x98 =>
    J_X7_isGlowingAtLast_b103 k11 k30 a0_count a0_kinds a0_sources v1 v2 x81 v5 v6 v3 x98))
    else (
    J_X7_isGlowingAtLast_b105 k11 k30 a0_count a0_kinds a0_sources v1 v2 v3 v4 v5 v6))
def J_X7_isGlowingAtLast_L30 (k11 : Int32 → Int32 → Int32 → Option (Int32)) (a0_count : Int32) (a0_kinds : Nat → Int32) (a0_sources : Nat → Int32) (v1 : Int32) (v2 : Int32) : Nat → Int32 → Int32 → Int32 → Int32 → Option (Int32)
  | 0, _, _, _, _ => none
  | nf + 1, v3, v4, v5, v6 =>
    bnd1 (J_X2_count a0_count) fun x33 =>
    if x33 ≤ v6 then (
    nm (v5 + Int32.ofInt 1) fun x111 =>
    k11 v3 v4 x111)
    else (
    bnd1 (J_X2_sourcesOf a0_sources v6) fun x42 =>
    if (x42 &&& (v4 ^^^ (-1 : Int32))) = 0 then (
    J_X7_isGlowingAtLast_b58 k11 (fun z0 z1 z2 z3 => J_X7_isGlowingAtLast_L30 k11 a0_count a0_kinds a0_sources v1 v2 nf z0 z1 z2 z3) a0_count a0_kinds a0_sources v1 v2 v3 v4 v5 v6 (1 : Int32))
    else (
    J_X7_isGlowingAtLast_b58 k11 (fun z0 z1 z2 z3 => J_X7_isGlowingAtLast_L30 k11 a0_count a0_kinds a0_sources v1 v2 nf z0 z1 z2 z3) a0_count a0_kinds a0_sources v1 v2 v3 v4 v5 v6 (0 : Int32)))
def J_X7_isGlowingAtLast_b117 (a0_count : Int32) (a0_kinds : Nat → Int32) (a0_sources : Nat → Int32) (v1 : Int32) (v2 : Int32) (v3 : Int32) : Option (Int32) :=
    bnd1 (J_X9_isIn v3 v1) fun x119 =>
    chz x119 (some (x119))
def J_X7_isGlowingAtLast_L11 (a0_count : Int32) (a0_kinds : Nat → Int32) (a0_sources : Nat → Int32) (v1 : Int32) (v2 : Int32) : Nat → Int32 → Int32 → Int32 → Option (Int32)
  | 0, _, _, _ => none
  | nf + 1, v3, v4, v5 =>
    if (16 : Int32) ≤ v5 then (
    J_X7_isGlowingAtLast_b117 a0_count a0_kinds a0_sources v1 v2 v3)
    else (
    bnd1 (J_X9_isIn v4 v1) fun x21 =>
    if x21 = 0 then (
    J_X7_isGlowingAtLast_L30 (fun z0 z1 z2 => J_X7_isGlowingAtLast_L11 a0_count a0_kinds a0_sources v1 v2 nf z0 z1 z2) a0_count a0_kinds a0_sources v1 v2 FU v3 v4 v5 (0 : Int32))
    else (
    J_X7_isGlowingAtLast_b117 a0_count a0_kinds a0_sources v1 v2 v3))
def J_X7_isGlowingAtLast (a0_count : Int32) (a0_kinds : Nat → Int32) (a0_sources : Nat → Int32) (v1 : Int32) (v2 : Int32) : Option (Int32) :=
    bnd1 (J_X2_switches a0_count a0_kinds) fun x3 =>
    J_X7_isGlowingAtLast_L11 a0_count a0_kinds a0_sources v1 v2 FU v2 x3 (0 : Int32)
abbrev rmX7_isGlowingAtLast : Room := { frames := 3, cells := 0, slots := 0, locals := 64 }
set_option maxHeartbeats 4000000 in
set_option maxRecDepth 100000 in
theorem c_X7_isGlowingAtLast (l : Launch) (D : va_G) (cI cJ cC cL : ClassId) (q_a0 q_a0_kinds q_a0_wicks q_a0_sources q_a0_changes : Nat) (a0_count : Int32) (a0_state : Int64) (a0_areLoopsAllowed : Int32) (a0_ticks : Int32) (a0_tickChanges : Int32) (a0_sets : Int32) (a0_kinds : Nat → Int32) (a0_sources : Nat → Int32) (v1 : Int32) (v2 : Int32) (r : Int32) (hJ : J_X7_isGlowingAtLast a0_count a0_kinds a0_sources v1 v2 = some (r)) (sz : Nat) : Met l yX7_isGlowingAtLast wsX7_isGlowingAtLast rmX7_isGlowingAtLast (va_Pc [.ref q_a0, .int v1, .int v2] (jpre XT D (tyL cI cJ cC cL) [(q_a0, .inr (2, [.int a0_count, .ref q_a0_kinds, .ref q_a0_wicks, .ref q_a0_sources, .ref q_a0_changes, .long a0_state, .int a0_areLoopsAllowed, .int a0_ticks, .int a0_tickChanges, .int a0_sets])), (q_a0_kinds, .inl (cI, 16, .inl a0_kinds)), (q_a0_sources, .inl (cI, 48, .inl a0_sources))] sz)) (va_Qi (fun r' (_ : Unit) => r' = r) (fun _ t => jpost D (tyL cI cJ cC cL) (va_A [(q_a0, .inr (2, [.int a0_count, .ref q_a0_kinds, .ref q_a0_wicks, .ref q_a0_sources, .ref q_a0_changes, .long a0_state, .int a0_areLoopsAllowed, .int a0_ticks, .int a0_tickChanges, .int a0_sets])), (q_a0_kinds, .inl (cI, 16, .inl a0_kinds)), (q_a0_sources, .inl (cI, 48, .inl a0_sources))] sz) [(q_a0, .inr (2, [.int a0_count, .ref q_a0_kinds, .ref q_a0_wicks, .ref q_a0_sources, .ref q_a0_changes, .long a0_state, .int a0_areLoopsAllowed, .int a0_ticks, .int a0_tickChanges, .int a0_sets])), (q_a0_kinds, .inl (cI, 16, .inl a0_kinds)), (q_a0_sources, .inl (cI, 48, .inl a0_sources))] t) (va_A [(q_a0, .inr (2, [.int a0_count, .ref q_a0_kinds, .ref q_a0_wicks, .ref q_a0_sources, .ref q_a0_changes, .long a0_state, .int a0_areLoopsAllowed, .int a0_ticks, .int a0_tickChanges, .int a0_sets])), (q_a0_kinds, .inl (cI, 16, .inl a0_kinds)), (q_a0_sources, .inl (cI, 48, .inl a0_sources))] sz)) 0 0 (va_A [(q_a0, .inr (2, [.int a0_count, .ref q_a0_kinds, .ref q_a0_wicks, .ref q_a0_sources, .ref q_a0_changes, .long a0_state, .int a0_areLoopsAllowed, .int a0_ticks, .int a0_tickChanges, .int a0_sets])), (q_a0_kinds, .inl (cI, 16, .inl a0_kinds)), (q_a0_sources, .inl (cI, 48, .inl a0_sources))] sz) := by
  refine jE_z (cc := cX7_isGlowingAtLast) (maxL := 8) (own := RX7) (ret := (some .boolean)) (lv0 := [(0, .ref q_a0), (1, .int v1), (2, .int v2)]) (by decide) rfl rfl rfl (Nat.le_of_ble_eq_true rfl) rfl ?_
  intro p e s m args below meth c A Q ls hx hb hml hown hts hK hN hX hA hP hD hS hl hRet
  have hF : CallFix p m c cX7_isGlowingAtLast 8 s args wsX7_isGlowingAtLast RX7 := ⟨hx, hb, hml, hown, hts⟩
  have B105 : ∀ (k11 : Int32 → Int32 → Int32 → Option (Int32)), (∀ (v3 : Int32) (v4 : Int32) (v5 : Int32) (H : Heap) (locs : List Loc), va_P D vwCl [(q_a0, .inr (2, [.int a0_count, .ref q_a0_kinds, .ref q_a0_wicks, .ref q_a0_sources, .ref q_a0_changes, .long a0_state, .int a0_areLoopsAllowed, .int a0_ticks, .int a0_tickChanges, .int a0_sets])), (q_a0_kinds, .inl (cI, 16, .inl a0_kinds)), (q_a0_sources, .inl (cI, 48, .inl a0_sources))] H → va_D A [(q_a0, .inr (2, [.int a0_count, .ref q_a0_kinds, .ref q_a0_wicks, .ref q_a0_sources, .ref q_a0_changes, .long a0_state, .int a0_areLoopsAllowed, .int a0_ticks, .int a0_tickChanges, .int a0_sets])), (q_a0_kinds, .inl (cI, 16, .inl a0_kinds)), (q_a0_sources, .inl (cI, 48, .inl a0_sources))] → va_S A s.heap H locs → ∀ ls : Array Slot, lv_has ls 8 [(0, .ref q_a0), (1, .int v1), (3, .int v3), (4, .int v4), (5, .int v5)] → k11 v3 v4 v5 = some (r) → W p l e rmX7_isGlowingAtLast s m args below meth c H locs 0 0 Q (F0 m 11 ls [])) → ∀ (k30 : Int32 → Int32 → Int32 → Int32 → Option (Int32)), (∀ (v3 : Int32) (v4 : Int32) (v5 : Int32) (v6 : Int32) (H : Heap) (locs : List Loc), va_P D vwCl [(q_a0, .inr (2, [.int a0_count, .ref q_a0_kinds, .ref q_a0_wicks, .ref q_a0_sources, .ref q_a0_changes, .long a0_state, .int a0_areLoopsAllowed, .int a0_ticks, .int a0_tickChanges, .int a0_sets])), (q_a0_kinds, .inl (cI, 16, .inl a0_kinds)), (q_a0_sources, .inl (cI, 48, .inl a0_sources))] H → va_D A [(q_a0, .inr (2, [.int a0_count, .ref q_a0_kinds, .ref q_a0_wicks, .ref q_a0_sources, .ref q_a0_changes, .long a0_state, .int a0_areLoopsAllowed, .int a0_ticks, .int a0_tickChanges, .int a0_sets])), (q_a0_kinds, .inl (cI, 16, .inl a0_kinds)), (q_a0_sources, .inl (cI, 48, .inl a0_sources))] → va_S A s.heap H locs → ∀ ls : Array Slot, lv_has ls 8 [(0, .ref q_a0), (1, .int v1), (3, .int v3), (4, .int v4), (5, .int v5), (6, .int v6)] → k30 v3 v4 v5 v6 = some (r) → W p l e rmX7_isGlowingAtLast s m args below meth c H locs 0 0 Q (F0 m 30 ls [])) → ∀ (v3 : Int32) (v4 : Int32) (v5 : Int32) (v6 : Int32) (H : Heap) (locs : List Loc), va_P D vwCl [(q_a0, .inr (2, [.int a0_count, .ref q_a0_kinds, .ref q_a0_wicks, .ref q_a0_sources, .ref q_a0_changes, .long a0_state, .int a0_areLoopsAllowed, .int a0_ticks, .int a0_tickChanges, .int a0_sets])), (q_a0_kinds, .inl (cI, 16, .inl a0_kinds)), (q_a0_sources, .inl (cI, 48, .inl a0_sources))] H → va_D A [(q_a0, .inr (2, [.int a0_count, .ref q_a0_kinds, .ref q_a0_wicks, .ref q_a0_sources, .ref q_a0_changes, .long a0_state, .int a0_areLoopsAllowed, .int a0_ticks, .int a0_tickChanges, .int a0_sets])), (q_a0_kinds, .inl (cI, 16, .inl a0_kinds)), (q_a0_sources, .inl (cI, 48, .inl a0_sources))] → va_S A s.heap H locs → ∀ ls : Array Slot, lv_has ls 8 [(0, .ref q_a0), (1, .int v1), (3, .int v3), (4, .int v4), (5, .int v5), (6, .int v6)] → J_X7_isGlowingAtLast_b105 k11 k30 a0_count a0_kinds a0_sources v1 v2 v3 v4 v5 v6 = some (r) → W p l e rmX7_isGlowingAtLast s m args below meth c H locs 0 0 Q (F0 m 105 ls []) := by
    intro k11 hk11 k30 hk30 v3 v4 v5 v6 H locs hP hD hS ls hl hJ
    unfold J_X7_isGlowingAtLast_b105 at hJ
    refine jt_iinc hJ (fun x105 ex105 hJ => ?_)
    refine lv_iinc (v := x105) (lv' := [(6, .int x105), (0, .ref q_a0), (1, .int v1), (3, .int v3), (4, .int v4), (5, .int v5)]) hx hb dX7_isGlowingAtLast_105 hl (k := 5) rfl ex105 (by decide) rfl (fun ls hl => ?_)
    refine lv_goto (tgt := 30) hx hb dX7_isGlowingAtLast_108 (by decide) ?_
    exact hk30 v3 v4 v5 x105  H locs  hP hD hS _ (lv_sub hl [1, 2, 3, 4, 5, 0] rfl) hJ
  have B103 : ∀ (k11 : Int32 → Int32 → Int32 → Option (Int32)), (∀ (v3 : Int32) (v4 : Int32) (v5 : Int32) (H : Heap) (locs : List Loc), va_P D vwCl [(q_a0, .inr (2, [.int a0_count, .ref q_a0_kinds, .ref q_a0_wicks, .ref q_a0_sources, .ref q_a0_changes, .long a0_state, .int a0_areLoopsAllowed, .int a0_ticks, .int a0_tickChanges, .int a0_sets])), (q_a0_kinds, .inl (cI, 16, .inl a0_kinds)), (q_a0_sources, .inl (cI, 48, .inl a0_sources))] H → va_D A [(q_a0, .inr (2, [.int a0_count, .ref q_a0_kinds, .ref q_a0_wicks, .ref q_a0_sources, .ref q_a0_changes, .long a0_state, .int a0_areLoopsAllowed, .int a0_ticks, .int a0_tickChanges, .int a0_sets])), (q_a0_kinds, .inl (cI, 16, .inl a0_kinds)), (q_a0_sources, .inl (cI, 48, .inl a0_sources))] → va_S A s.heap H locs → ∀ ls : Array Slot, lv_has ls 8 [(0, .ref q_a0), (1, .int v1), (3, .int v3), (4, .int v4), (5, .int v5)] → k11 v3 v4 v5 = some (r) → W p l e rmX7_isGlowingAtLast s m args below meth c H locs 0 0 Q (F0 m 11 ls [])) → ∀ (k30 : Int32 → Int32 → Int32 → Int32 → Option (Int32)), (∀ (v3 : Int32) (v4 : Int32) (v5 : Int32) (v6 : Int32) (H : Heap) (locs : List Loc), va_P D vwCl [(q_a0, .inr (2, [.int a0_count, .ref q_a0_kinds, .ref q_a0_wicks, .ref q_a0_sources, .ref q_a0_changes, .long a0_state, .int a0_areLoopsAllowed, .int a0_ticks, .int a0_tickChanges, .int a0_sets])), (q_a0_kinds, .inl (cI, 16, .inl a0_kinds)), (q_a0_sources, .inl (cI, 48, .inl a0_sources))] H → va_D A [(q_a0, .inr (2, [.int a0_count, .ref q_a0_kinds, .ref q_a0_wicks, .ref q_a0_sources, .ref q_a0_changes, .long a0_state, .int a0_areLoopsAllowed, .int a0_ticks, .int a0_tickChanges, .int a0_sets])), (q_a0_kinds, .inl (cI, 16, .inl a0_kinds)), (q_a0_sources, .inl (cI, 48, .inl a0_sources))] → va_S A s.heap H locs → ∀ ls : Array Slot, lv_has ls 8 [(0, .ref q_a0), (1, .int v1), (3, .int v3), (4, .int v4), (5, .int v5), (6, .int v6)] → k30 v3 v4 v5 v6 = some (r) → W p l e rmX7_isGlowingAtLast s m args below meth c H locs 0 0 Q (F0 m 30 ls [])) → ∀ (v4 : Int32) (v5 : Int32) (v6 : Int32) (s103_0 : Int32) (s103_1 : Int32) (H : Heap) (locs : List Loc), va_P D vwCl [(q_a0, .inr (2, [.int a0_count, .ref q_a0_kinds, .ref q_a0_wicks, .ref q_a0_sources, .ref q_a0_changes, .long a0_state, .int a0_areLoopsAllowed, .int a0_ticks, .int a0_tickChanges, .int a0_sets])), (q_a0_kinds, .inl (cI, 16, .inl a0_kinds)), (q_a0_sources, .inl (cI, 48, .inl a0_sources))] H → va_D A [(q_a0, .inr (2, [.int a0_count, .ref q_a0_kinds, .ref q_a0_wicks, .ref q_a0_sources, .ref q_a0_changes, .long a0_state, .int a0_areLoopsAllowed, .int a0_ticks, .int a0_tickChanges, .int a0_sets])), (q_a0_kinds, .inl (cI, 16, .inl a0_kinds)), (q_a0_sources, .inl (cI, 48, .inl a0_sources))] → va_S A s.heap H locs → ∀ ls : Array Slot, lv_has ls 8 [(0, .ref q_a0), (1, .int v1), (4, .int v4), (5, .int v5), (6, .int v6)] → J_X7_isGlowingAtLast_b103 k11 k30 a0_count a0_kinds a0_sources v1 v2 v4 v5 v6 s103_0 s103_1 = some (r) → W p l e rmX7_isGlowingAtLast s m args below meth c H locs 0 0 Q (F0 m 103 ls [.int s103_1, .int s103_0]) := by
    intro k11 hk11 k30 hk30 v4 v5 v6 s103_0 s103_1 H locs hP hD hS ls hl hJ
    unfold J_X7_isGlowingAtLast_b103 at hJ
    refine lv_ior hx hb dX7_isGlowingAtLast_103 ?_
    refine jt_i hJ (fun x103 hJ => ?_)
    refine lv_istore_n (lv' := [(3, .int x103), (0, .ref q_a0), (1, .int v1), (4, .int v4), (5, .int v5), (6, .int v6)]) hx hb dX7_isGlowingAtLast_104 rfl hl (by decide) rfl (fun ls hl => ?_)
    exact B105 k11 hk11 k30 hk30 x103 v4 v5 v6  H locs  hP hD hS _ (lv_sub hl [1, 2, 0, 3, 4, 5] rfl) hJ
  have B58 : ∀ (k11 : Int32 → Int32 → Int32 → Option (Int32)), (∀ (v3 : Int32) (v4 : Int32) (v5 : Int32) (H : Heap) (locs : List Loc), va_P D vwCl [(q_a0, .inr (2, [.int a0_count, .ref q_a0_kinds, .ref q_a0_wicks, .ref q_a0_sources, .ref q_a0_changes, .long a0_state, .int a0_areLoopsAllowed, .int a0_ticks, .int a0_tickChanges, .int a0_sets])), (q_a0_kinds, .inl (cI, 16, .inl a0_kinds)), (q_a0_sources, .inl (cI, 48, .inl a0_sources))] H → va_D A [(q_a0, .inr (2, [.int a0_count, .ref q_a0_kinds, .ref q_a0_wicks, .ref q_a0_sources, .ref q_a0_changes, .long a0_state, .int a0_areLoopsAllowed, .int a0_ticks, .int a0_tickChanges, .int a0_sets])), (q_a0_kinds, .inl (cI, 16, .inl a0_kinds)), (q_a0_sources, .inl (cI, 48, .inl a0_sources))] → va_S A s.heap H locs → ∀ ls : Array Slot, lv_has ls 8 [(0, .ref q_a0), (1, .int v1), (3, .int v3), (4, .int v4), (5, .int v5)] → k11 v3 v4 v5 = some (r) → W p l e rmX7_isGlowingAtLast s m args below meth c H locs 0 0 Q (F0 m 11 ls [])) → ∀ (k30 : Int32 → Int32 → Int32 → Int32 → Option (Int32)), (∀ (v3 : Int32) (v4 : Int32) (v5 : Int32) (v6 : Int32) (H : Heap) (locs : List Loc), va_P D vwCl [(q_a0, .inr (2, [.int a0_count, .ref q_a0_kinds, .ref q_a0_wicks, .ref q_a0_sources, .ref q_a0_changes, .long a0_state, .int a0_areLoopsAllowed, .int a0_ticks, .int a0_tickChanges, .int a0_sets])), (q_a0_kinds, .inl (cI, 16, .inl a0_kinds)), (q_a0_sources, .inl (cI, 48, .inl a0_sources))] H → va_D A [(q_a0, .inr (2, [.int a0_count, .ref q_a0_kinds, .ref q_a0_wicks, .ref q_a0_sources, .ref q_a0_changes, .long a0_state, .int a0_areLoopsAllowed, .int a0_ticks, .int a0_tickChanges, .int a0_sets])), (q_a0_kinds, .inl (cI, 16, .inl a0_kinds)), (q_a0_sources, .inl (cI, 48, .inl a0_sources))] → va_S A s.heap H locs → ∀ ls : Array Slot, lv_has ls 8 [(0, .ref q_a0), (1, .int v1), (3, .int v3), (4, .int v4), (5, .int v5), (6, .int v6)] → k30 v3 v4 v5 v6 = some (r) → W p l e rmX7_isGlowingAtLast s m args below meth c H locs 0 0 Q (F0 m 30 ls [])) → ∀ (v3 : Int32) (v4 : Int32) (v5 : Int32) (v6 : Int32) (s58_0 : Int32) (H : Heap) (locs : List Loc), va_P D vwCl [(q_a0, .inr (2, [.int a0_count, .ref q_a0_kinds, .ref q_a0_wicks, .ref q_a0_sources, .ref q_a0_changes, .long a0_state, .int a0_areLoopsAllowed, .int a0_ticks, .int a0_tickChanges, .int a0_sets])), (q_a0_kinds, .inl (cI, 16, .inl a0_kinds)), (q_a0_sources, .inl (cI, 48, .inl a0_sources))] H → va_D A [(q_a0, .inr (2, [.int a0_count, .ref q_a0_kinds, .ref q_a0_wicks, .ref q_a0_sources, .ref q_a0_changes, .long a0_state, .int a0_areLoopsAllowed, .int a0_ticks, .int a0_tickChanges, .int a0_sets])), (q_a0_kinds, .inl (cI, 16, .inl a0_kinds)), (q_a0_sources, .inl (cI, 48, .inl a0_sources))] → va_S A s.heap H locs → ∀ ls : Array Slot, lv_has ls 8 [(0, .ref q_a0), (1, .int v1), (3, .int v3), (4, .int v4), (5, .int v5), (6, .int v6)] → J_X7_isGlowingAtLast_b58 k11 k30 a0_count a0_kinds a0_sources v1 v2 v3 v4 v5 v6 s58_0 = some (r) → W p l e rmX7_isGlowingAtLast s m args below meth c H locs 0 0 Q (F0 m 58 ls [.int s58_0]) := by
    intro k11 hk11 k30 hk30 v3 v4 v5 v6 s58_0 H locs hP hD hS ls hl hJ
    unfold J_X7_isGlowingAtLast_b58 at hJ
    refine lv_istore (lv' := [(7, .int s58_0), (0, .ref q_a0), (1, .int v1), (3, .int v3), (4, .int v4), (5, .int v5), (6, .int v6)]) hx hb dX7_isGlowingAtLast_58 hl (by decide) rfl (fun ls hl => ?_)
    refine lv_iload hx hb dX7_isGlowingAtLast_60 (lv_at hl 0 rfl) ?_
    refine jif_eq (tgt := 105) hx hb dX7_isGlowingAtLast_62 (by decide) hJ (fun hJ => ?_) (fun hJ => ?_)
    · exact B105 k11 hk11 k30 hk30 v3 v4 v5 v6  H locs  hP hD hS _ (lv_sub hl [1, 2, 3, 4, 5, 6] rfl) hJ
    · refine lv_iload hx hb dX7_isGlowingAtLast_65 (lv_at hl 4 rfl) ?_
      refine lv_iload hx hb dX7_isGlowingAtLast_67 (lv_at hl 6 rfl) ?_
      obtain ⟨x69, hc69, hJ⟩ := bnd1_some hJ
      refine jcN_i (As := [.int v4, .int v6]) (rest := []) (isC := []) (isR := [0, 1, 2]) (isB := [0, 1, 2]) (wr := [(q_a0, .inr (2, [.int a0_count, .ref q_a0_kinds, .ref q_a0_wicks, .ref q_a0_sources, .ref q_a0_changes, .long a0_state, .int a0_areLoopsAllowed, .int a0_ticks, .int a0_tickChanges, .int a0_sets])), (q_a0_kinds, .inl (cI, 16, .inl a0_kinds)), (q_a0_sources, .inl (cI, 48, .inl a0_sources))]) (ws2 := [(q_a0, .inr (2, [.int a0_count, .ref q_a0_kinds, .ref q_a0_wicks, .ref q_a0_sources, .ref q_a0_changes, .long a0_state, .int a0_areLoopsAllowed, .int a0_ticks, .int a0_tickChanges, .int a0_sets])), (q_a0_kinds, .inl (cI, 16, .inl a0_kinds)), (q_a0_sources, .inl (cI, 48, .inl a0_sources))]) hF (c_X9_isIn l D cI cJ cC cL v4 v6 x69 hc69 H.size) ⟨va_cnB 2 hts gX7_isGlowingAtLast_X9_isIn_n37 rfl rfl rfl (hN.2.2.2.1) (hts (.initialized RX9) (by decide +kernel)) (by decide +kernel) ⟨Nat.le_of_ble_eq_true rfl, Nat.le_of_ble_eq_true rfl⟩, hts (.static yX9_isIn) (by decide +kernel), trivial⟩ rfl hl rfl (Nat.le_of_ble_eq_true rfl) dX7_isGlowingAtLast_69 ⟨Nat.zero_le _, Nat.zero_le _⟩ hK hN KX_T trivial hP hD hS hA rfl rfl rfl rfl (by decide) rfl rfl (fun H locs hP hD hS => ?_)
      refine jif_ne (tgt := 105) hx hb dX7_isGlowingAtLast_72 (by decide) hJ (fun hJ => ?_) (fun hJ => ?_)
      · exact B105 k11 hk11 k30 hk30 v3 v4 v5 v6  H locs  hP hD hS _ (lv_sub hl [1, 2, 3, 4, 5, 6] rfl) hJ
      · refine lv_iload hx hb dX7_isGlowingAtLast_75 (lv_at hl 4 rfl) ?_
        refine lv_iconst (v := (1 : Int32)) hx hb dX7_isGlowingAtLast_77 (by decide) ?_
        refine lv_iload hx hb dX7_isGlowingAtLast_78 (lv_at hl 6 rfl) ?_
        refine lv_ishl hx hb dX7_isGlowingAtLast_80 ?_
        refine lv_ior hx hb dX7_isGlowingAtLast_81 ?_
        refine jt_i hJ (fun x81 hJ => ?_)
        refine lv_istore (lv' := [(4, .int x81), (7, .int s58_0), (0, .ref q_a0), (1, .int v1), (3, .int v3), (5, .int v5), (6, .int v6)]) hx hb dX7_isGlowingAtLast_82 hl (by decide) rfl (fun ls hl => ?_)
        refine lv_iload_n hx hb dX7_isGlowingAtLast_84 rfl (lv_at hl 4 rfl) ?_
        refine lv_aload_n hx hb dX7_isGlowingAtLast_85 rfl (lv_at hl 2 rfl) ?_
        refine lv_iload hx hb dX7_isGlowingAtLast_86 (lv_at hl 6 rfl) ?_
        refine lv_iload_n hx hb dX7_isGlowingAtLast_88 rfl (lv_at hl 4 rfl) ?_
        obtain ⟨x89, hc89, hJ⟩ := bnd1_some hJ
        refine jcV_i (C := RX2) (T := TX2) (N := 10) (ci := 2) (q0 := 0) (As := [.int v6, .int v3]) (rest := [.int v3]) (isC := [0, 1, 2]) (isR := []) (isB := [0, 1, 2]) (wr := []) (ws2 := [(q_a0, .inr (2, [.int a0_count, .ref q_a0_kinds, .ref q_a0_wicks, .ref q_a0_sources, .ref q_a0_changes, .long a0_state, .int a0_areLoopsAllowed, .int a0_ticks, .int a0_tickChanges, .int a0_sets])), (q_a0_kinds, .inl (cI, 16, .inl a0_kinds)), (q_a0_sources, .inl (cI, 48, .inl a0_sources))]) hF (c_X2_isFinding l D cI cJ cC cL q_a0 q_a0_kinds q_a0_wicks q_a0_sources q_a0_changes a0_count a0_state a0_areLoopsAllowed a0_ticks a0_tickChanges a0_sets a0_kinds a0_sources v6 v3 x89 hc89 H.size) (cwV 2 hts gX7_isGlowingAtLast_X2_isFinding rfl rfl rfl (by decide +kernel) ⟨Nat.le_of_ble_eq_true rfl, Nat.le_of_ble_eq_true rfl⟩) rfl hl rfl (Nat.le_of_ble_eq_true rfl) dX7_isGlowingAtLast_89 ⟨Nat.zero_le _, Nat.zero_le _⟩ hK hN KX_T trivial hP hD hS hA rfl rfl rfl rfl rfl rfl (by decide) rfl rfl (fun H locs hP hD hS => ?_)
        refine jif_eq (tgt := 102) hx hb dX7_isGlowingAtLast_92 (by decide) hJ (fun hJ => ?_) (fun hJ => ?_)
        · refine lv_iconst (v := (0 : Int32)) hx hb dX7_isGlowingAtLast_102 (by decide) ?_
          exact B103 k11 hk11 k30 hk30 x81 v5 v6 v3 (0 : Int32)  H locs  hP hD hS _ (lv_sub hl [2, 3, 0, 5, 6] rfl) hJ
        · refine lv_iconst (v := (1 : Int32)) hx hb dX7_isGlowingAtLast_95 (by decide) ?_
          refine lv_iload hx hb dX7_isGlowingAtLast_96 (lv_at hl 6 rfl) ?_
          refine lv_ishl hx hb dX7_isGlowingAtLast_98 ?_
          refine jt_i hJ (fun x98 hJ => ?_)
          refine lv_goto (tgt := 103) hx hb dX7_isGlowingAtLast_99 (by decide) ?_
          exact B103 k11 hk11 k30 hk30 x81 v5 v6 v3 x98  H locs  hP hD hS _ (lv_sub hl [2, 3, 0, 5, 6] rfl) hJ
  have L30 : ∀ (k11 : Int32 → Int32 → Int32 → Option (Int32)), (∀ (v3 : Int32) (v4 : Int32) (v5 : Int32) (H : Heap) (locs : List Loc), va_P D vwCl [(q_a0, .inr (2, [.int a0_count, .ref q_a0_kinds, .ref q_a0_wicks, .ref q_a0_sources, .ref q_a0_changes, .long a0_state, .int a0_areLoopsAllowed, .int a0_ticks, .int a0_tickChanges, .int a0_sets])), (q_a0_kinds, .inl (cI, 16, .inl a0_kinds)), (q_a0_sources, .inl (cI, 48, .inl a0_sources))] H → va_D A [(q_a0, .inr (2, [.int a0_count, .ref q_a0_kinds, .ref q_a0_wicks, .ref q_a0_sources, .ref q_a0_changes, .long a0_state, .int a0_areLoopsAllowed, .int a0_ticks, .int a0_tickChanges, .int a0_sets])), (q_a0_kinds, .inl (cI, 16, .inl a0_kinds)), (q_a0_sources, .inl (cI, 48, .inl a0_sources))] → va_S A s.heap H locs → ∀ ls : Array Slot, lv_has ls 8 [(0, .ref q_a0), (1, .int v1), (3, .int v3), (4, .int v4), (5, .int v5)] → k11 v3 v4 v5 = some (r) → W p l e rmX7_isGlowingAtLast s m args below meth c H locs 0 0 Q (F0 m 11 ls [])) → ∀ (nf : Nat), ∀ (v3 : Int32) (v4 : Int32) (v5 : Int32) (v6 : Int32) (H : Heap) (locs : List Loc), va_P D vwCl [(q_a0, .inr (2, [.int a0_count, .ref q_a0_kinds, .ref q_a0_wicks, .ref q_a0_sources, .ref q_a0_changes, .long a0_state, .int a0_areLoopsAllowed, .int a0_ticks, .int a0_tickChanges, .int a0_sets])), (q_a0_kinds, .inl (cI, 16, .inl a0_kinds)), (q_a0_sources, .inl (cI, 48, .inl a0_sources))] H → va_D A [(q_a0, .inr (2, [.int a0_count, .ref q_a0_kinds, .ref q_a0_wicks, .ref q_a0_sources, .ref q_a0_changes, .long a0_state, .int a0_areLoopsAllowed, .int a0_ticks, .int a0_tickChanges, .int a0_sets])), (q_a0_kinds, .inl (cI, 16, .inl a0_kinds)), (q_a0_sources, .inl (cI, 48, .inl a0_sources))] → va_S A s.heap H locs → ∀ ls : Array Slot, lv_has ls 8 [(0, .ref q_a0), (1, .int v1), (3, .int v3), (4, .int v4), (5, .int v5), (6, .int v6)] → J_X7_isGlowingAtLast_L30 k11 a0_count a0_kinds a0_sources v1 v2 nf v3 v4 v5 v6 = some (r) → W p l e rmX7_isGlowingAtLast s m args below meth c H locs 0 0 Q (F0 m 30 ls []) := by
    intro k11 hk11 nf
    induction nf with
    | zero =>
      intro v3 v4 v5 v6 H locs hP hD hS ls hl hJ
      rw [J_X7_isGlowingAtLast_L30] at hJ
      cases hJ
    | succ nf ih =>
      intro v3 v4 v5 v6 H locs hP hD hS ls hl hJ
      rw [J_X7_isGlowingAtLast_L30] at hJ
      refine lv_iload hx hb dX7_isGlowingAtLast_30 (lv_at hl 5 rfl) ?_
      refine lv_aload_n hx hb dX7_isGlowingAtLast_32 rfl (lv_at hl 0 rfl) ?_
      obtain ⟨x33, hc33, hJ⟩ := bnd1_some hJ
      refine jcV_i (C := RX2) (T := TX2) (N := 10) (ci := 2) (q0 := 0) (As := []) (rest := [.int v6]) (isC := [0]) (isR := [1, 2]) (isB := [2, 0, 1]) (wr := [(q_a0_kinds, .inl (cI, 16, .inl a0_kinds)), (q_a0_sources, .inl (cI, 48, .inl a0_sources))]) (ws2 := [(q_a0, .inr (2, [.int a0_count, .ref q_a0_kinds, .ref q_a0_wicks, .ref q_a0_sources, .ref q_a0_changes, .long a0_state, .int a0_areLoopsAllowed, .int a0_ticks, .int a0_tickChanges, .int a0_sets])), (q_a0_kinds, .inl (cI, 16, .inl a0_kinds)), (q_a0_sources, .inl (cI, 48, .inl a0_sources))]) hF (c_X2_count l D cI cJ cC cL q_a0 q_a0_kinds q_a0_wicks q_a0_sources q_a0_changes a0_count a0_state a0_areLoopsAllowed a0_ticks a0_tickChanges a0_sets x33 hc33 H.size) (cwV 0 hts gX7_isGlowingAtLast_X2_count rfl rfl rfl (by decide +kernel) ⟨Nat.le_of_ble_eq_true rfl, Nat.le_of_ble_eq_true rfl⟩) rfl hl rfl (Nat.le_of_ble_eq_true rfl) dX7_isGlowingAtLast_33 ⟨Nat.zero_le _, Nat.zero_le _⟩ hK hN KX_T trivial hP hD hS hA rfl rfl rfl rfl rfl rfl (by decide) rfl rfl (fun H locs hP hD hS => ?_)
      refine jif_icmp_ge (tgt := 111) hx hb dX7_isGlowingAtLast_36 (by decide) hJ (fun hJ => ?_) (fun hJ => ?_)
      · refine jt_iinc hJ (fun x111 ex111 hJ => ?_)
        refine lv_iinc (v := x111) (lv' := [(5, .int x111), (0, .ref q_a0), (1, .int v1), (3, .int v3), (4, .int v4), (6, .int v6)]) hx hb dX7_isGlowingAtLast_111 hl (k := 4) rfl ex111 (by decide) rfl (fun ls hl => ?_)
        refine lv_goto (tgt := 11) hx hb dX7_isGlowingAtLast_114 (by decide) ?_
        exact hk11 v3 v4 x111  H locs  hP hD hS _ (lv_sub hl [1, 2, 3, 4, 0] rfl) hJ
      · refine lv_aload_n hx hb dX7_isGlowingAtLast_39 rfl (lv_at hl 0 rfl) ?_
        refine lv_iload hx hb dX7_isGlowingAtLast_40 (lv_at hl 5 rfl) ?_
        obtain ⟨x42, hc42, hJ⟩ := bnd1_some hJ
        refine jcV_i (C := RX2) (T := TX2) (N := 10) (ci := 2) (q0 := 0) (As := [.int v6]) (rest := []) (isC := [0, 2]) (isR := [1]) (isB := [1, 0, 2]) (wr := [(q_a0_kinds, .inl (cI, 16, .inl a0_kinds))]) (ws2 := [(q_a0, .inr (2, [.int a0_count, .ref q_a0_kinds, .ref q_a0_wicks, .ref q_a0_sources, .ref q_a0_changes, .long a0_state, .int a0_areLoopsAllowed, .int a0_ticks, .int a0_tickChanges, .int a0_sets])), (q_a0_kinds, .inl (cI, 16, .inl a0_kinds)), (q_a0_sources, .inl (cI, 48, .inl a0_sources))]) hF (c_X2_sourcesOf l D cI cJ cC cL q_a0 q_a0_kinds q_a0_wicks q_a0_sources q_a0_changes a0_count a0_state a0_areLoopsAllowed a0_ticks a0_tickChanges a0_sets a0_sources v6 x42 hc42 H.size) (cwV 1 hts gX7_isGlowingAtLast_X2_sourcesOf rfl rfl rfl (by decide +kernel) ⟨Nat.le_of_ble_eq_true rfl, Nat.le_of_ble_eq_true rfl⟩) rfl hl rfl (Nat.le_of_ble_eq_true rfl) dX7_isGlowingAtLast_42 ⟨Nat.zero_le _, Nat.zero_le _⟩ hK hN KX_T trivial hP hD hS hA rfl rfl rfl rfl rfl rfl (by decide) rfl rfl (fun H locs hP hD hS => ?_)
        refine lv_iload hx hb dX7_isGlowingAtLast_45 (lv_at hl 3 rfl) ?_
        refine lv_iconst (v := (-1 : Int32)) hx hb dX7_isGlowingAtLast_47 (by decide) ?_
        refine lv_ixor hx hb dX7_isGlowingAtLast_48 ?_
        refine lv_iand hx hb dX7_isGlowingAtLast_49 ?_
        refine jif_ne (tgt := 57) hx hb dX7_isGlowingAtLast_50 (by decide) hJ (fun hJ => ?_) (fun hJ => ?_)
        · refine lv_iconst (v := (0 : Int32)) hx hb dX7_isGlowingAtLast_57 (by decide) ?_
          exact B58 k11 hk11 (fun z0 z1 z2 z3 => J_X7_isGlowingAtLast_L30 k11 a0_count a0_kinds a0_sources v1 v2 nf z0 z1 z2 z3) ih v3 v4 v5 v6 (0 : Int32)  H locs  hP hD hS _ (lv_sub hl [0, 1, 2, 3, 4, 5] rfl) hJ
        · refine lv_iconst (v := (1 : Int32)) hx hb dX7_isGlowingAtLast_53 (by decide) ?_
          refine lv_goto (tgt := 58) hx hb dX7_isGlowingAtLast_54 (by decide) ?_
          exact B58 k11 hk11 (fun z0 z1 z2 z3 => J_X7_isGlowingAtLast_L30 k11 a0_count a0_kinds a0_sources v1 v2 nf z0 z1 z2 z3) ih v3 v4 v5 v6 (1 : Int32)  H locs  hP hD hS _ (lv_sub hl [0, 1, 2, 3, 4, 5] rfl) hJ
  have B117 : ∀ (v3 : Int32) (H : Heap) (locs : List Loc), va_P D vwCl [(q_a0, .inr (2, [.int a0_count, .ref q_a0_kinds, .ref q_a0_wicks, .ref q_a0_sources, .ref q_a0_changes, .long a0_state, .int a0_areLoopsAllowed, .int a0_ticks, .int a0_tickChanges, .int a0_sets])), (q_a0_kinds, .inl (cI, 16, .inl a0_kinds)), (q_a0_sources, .inl (cI, 48, .inl a0_sources))] H → va_D A [(q_a0, .inr (2, [.int a0_count, .ref q_a0_kinds, .ref q_a0_wicks, .ref q_a0_sources, .ref q_a0_changes, .long a0_state, .int a0_areLoopsAllowed, .int a0_ticks, .int a0_tickChanges, .int a0_sets])), (q_a0_kinds, .inl (cI, 16, .inl a0_kinds)), (q_a0_sources, .inl (cI, 48, .inl a0_sources))] → va_S A s.heap H locs → ∀ ls : Array Slot, lv_has ls 8 [(1, .int v1), (3, .int v3)] → J_X7_isGlowingAtLast_b117  a0_count a0_kinds a0_sources v1 v2 v3 = some (r) → W p l e rmX7_isGlowingAtLast s m args below meth c H locs 0 0 Q (F0 m 117 ls []) := by
    intro v3 H locs hP hD hS ls hl hJ
    unfold J_X7_isGlowingAtLast_b117 at hJ
    refine lv_iload_n hx hb dX7_isGlowingAtLast_117 rfl (lv_at hl 1 rfl) ?_
    refine lv_iload_n hx hb dX7_isGlowingAtLast_118 rfl (lv_at hl 0 rfl) ?_
    obtain ⟨x119, hc119, hJ⟩ := bnd1_some hJ
    refine jcN_i (As := [.int v3, .int v1]) (rest := []) (isC := []) (isR := [0, 1, 2]) (isB := [0, 1, 2]) (wr := [(q_a0, .inr (2, [.int a0_count, .ref q_a0_kinds, .ref q_a0_wicks, .ref q_a0_sources, .ref q_a0_changes, .long a0_state, .int a0_areLoopsAllowed, .int a0_ticks, .int a0_tickChanges, .int a0_sets])), (q_a0_kinds, .inl (cI, 16, .inl a0_kinds)), (q_a0_sources, .inl (cI, 48, .inl a0_sources))]) (ws2 := [(q_a0, .inr (2, [.int a0_count, .ref q_a0_kinds, .ref q_a0_wicks, .ref q_a0_sources, .ref q_a0_changes, .long a0_state, .int a0_areLoopsAllowed, .int a0_ticks, .int a0_tickChanges, .int a0_sets])), (q_a0_kinds, .inl (cI, 16, .inl a0_kinds)), (q_a0_sources, .inl (cI, 48, .inl a0_sources))]) hF (c_X9_isIn l D cI cJ cC cL v3 v1 x119 hc119 H.size) ⟨va_cnB 2 hts gX7_isGlowingAtLast_X9_isIn_n37 rfl rfl rfl (hN.2.2.2.1) (hts (.initialized RX9) (by decide +kernel)) (by decide +kernel) ⟨Nat.le_of_ble_eq_true rfl, Nat.le_of_ble_eq_true rfl⟩, hts (.static yX9_isIn) (by decide +kernel), trivial⟩ rfl hl rfl (Nat.le_of_ble_eq_true rfl) dX7_isGlowingAtLast_119 ⟨Nat.zero_le _, Nat.zero_le _⟩ hK hN KX_T trivial hP hD hS hA rfl rfl rfl rfl (by decide) rfl rfl (fun H locs hP hD hS => ?_)
    obtain ⟨h01, hJ⟩ := chz_ok hJ
    have e0 := Option.some.inj hJ
    exact hRet hP hD hS h01 e0 dX7_isGlowingAtLast_122
  have L11 : ∀ (nf : Nat), ∀ (v3 : Int32) (v4 : Int32) (v5 : Int32) (H : Heap) (locs : List Loc), va_P D vwCl [(q_a0, .inr (2, [.int a0_count, .ref q_a0_kinds, .ref q_a0_wicks, .ref q_a0_sources, .ref q_a0_changes, .long a0_state, .int a0_areLoopsAllowed, .int a0_ticks, .int a0_tickChanges, .int a0_sets])), (q_a0_kinds, .inl (cI, 16, .inl a0_kinds)), (q_a0_sources, .inl (cI, 48, .inl a0_sources))] H → va_D A [(q_a0, .inr (2, [.int a0_count, .ref q_a0_kinds, .ref q_a0_wicks, .ref q_a0_sources, .ref q_a0_changes, .long a0_state, .int a0_areLoopsAllowed, .int a0_ticks, .int a0_tickChanges, .int a0_sets])), (q_a0_kinds, .inl (cI, 16, .inl a0_kinds)), (q_a0_sources, .inl (cI, 48, .inl a0_sources))] → va_S A s.heap H locs → ∀ ls : Array Slot, lv_has ls 8 [(0, .ref q_a0), (1, .int v1), (3, .int v3), (4, .int v4), (5, .int v5)] → J_X7_isGlowingAtLast_L11  a0_count a0_kinds a0_sources v1 v2 nf v3 v4 v5 = some (r) → W p l e rmX7_isGlowingAtLast s m args below meth c H locs 0 0 Q (F0 m 11 ls []) := by
    intro nf
    induction nf with
    | zero =>
      intro v3 v4 v5 H locs hP hD hS ls hl hJ
      rw [J_X7_isGlowingAtLast_L11] at hJ
      cases hJ
    | succ nf ih =>
      intro v3 v4 v5 H locs hP hD hS ls hl hJ
      rw [J_X7_isGlowingAtLast_L11] at hJ
      refine lv_iload hx hb dX7_isGlowingAtLast_11 (lv_at hl 4 rfl) ?_
      refine lv_bipush (v := (16 : Int32)) hx hb dX7_isGlowingAtLast_13 (by decide) ?_
      refine jif_icmp_ge (tgt := 117) hx hb dX7_isGlowingAtLast_15 (by decide) hJ (fun hJ => ?_) (fun hJ => ?_)
      · exact B117  v3  H locs  hP hD hS _ (lv_sub hl [1, 2] rfl) hJ
      · refine lv_iload hx hb dX7_isGlowingAtLast_18 (lv_at hl 3 rfl) ?_
        refine lv_iload_n hx hb dX7_isGlowingAtLast_20 rfl (lv_at hl 1 rfl) ?_
        obtain ⟨x21, hc21, hJ⟩ := bnd1_some hJ
        refine jcN_i (As := [.int v4, .int v1]) (rest := []) (isC := []) (isR := [0, 1, 2]) (isB := [0, 1, 2]) (wr := [(q_a0, .inr (2, [.int a0_count, .ref q_a0_kinds, .ref q_a0_wicks, .ref q_a0_sources, .ref q_a0_changes, .long a0_state, .int a0_areLoopsAllowed, .int a0_ticks, .int a0_tickChanges, .int a0_sets])), (q_a0_kinds, .inl (cI, 16, .inl a0_kinds)), (q_a0_sources, .inl (cI, 48, .inl a0_sources))]) (ws2 := [(q_a0, .inr (2, [.int a0_count, .ref q_a0_kinds, .ref q_a0_wicks, .ref q_a0_sources, .ref q_a0_changes, .long a0_state, .int a0_areLoopsAllowed, .int a0_ticks, .int a0_tickChanges, .int a0_sets])), (q_a0_kinds, .inl (cI, 16, .inl a0_kinds)), (q_a0_sources, .inl (cI, 48, .inl a0_sources))]) hF (c_X9_isIn l D cI cJ cC cL v4 v1 x21 hc21 H.size) ⟨va_cnB 2 hts gX7_isGlowingAtLast_X9_isIn_n37 rfl rfl rfl (hN.2.2.2.1) (hts (.initialized RX9) (by decide +kernel)) (by decide +kernel) ⟨Nat.le_of_ble_eq_true rfl, Nat.le_of_ble_eq_true rfl⟩, hts (.static yX9_isIn) (by decide +kernel), trivial⟩ rfl hl rfl (Nat.le_of_ble_eq_true rfl) dX7_isGlowingAtLast_21 ⟨Nat.zero_le _, Nat.zero_le _⟩ hK hN KX_T trivial hP hD hS hA rfl rfl rfl rfl (by decide) rfl rfl (fun H locs hP hD hS => ?_)
        refine jif_ne (tgt := 117) hx hb dX7_isGlowingAtLast_24 (by decide) hJ (fun hJ => ?_) (fun hJ => ?_)
        · exact B117  v3  H locs  hP hD hS _ (lv_sub hl [1, 2] rfl) hJ
        · refine lv_iconst (v := (0 : Int32)) hx hb dX7_isGlowingAtLast_27 (by decide) ?_
          refine lv_istore (lv' := [(6, .int (0 : Int32)), (0, .ref q_a0), (1, .int v1), (3, .int v3), (4, .int v4), (5, .int v5)]) hx hb dX7_isGlowingAtLast_28 hl (by decide) rfl (fun ls hl => ?_)
          exact L30 (fun z0 z1 z2 => J_X7_isGlowingAtLast_L11 a0_count a0_kinds a0_sources v1 v2 nf z0 z1 z2) ih FU v3 v4 v5 (0 : Int32)  H locs  hP hD hS _ (lv_sub hl [1, 2, 3, 4, 5, 0] rfl) hJ
  unfold J_X7_isGlowingAtLast at hJ
  refine lv_iload_n hx hb dX7_isGlowingAtLast_0 rfl (lv_at hl 2 rfl) ?_
  refine lv_istore_n (lv' := [(3, .int v2), (0, .ref q_a0), (1, .int v1), (2, .int v2)]) hx hb dX7_isGlowingAtLast_1 rfl hl (by decide) rfl (fun ls hl => ?_)
  refine lv_aload_n hx hb dX7_isGlowingAtLast_2 rfl (lv_at hl 1 rfl) ?_
  obtain ⟨x3, hc3, hJ⟩ := bnd1_some hJ
  refine jcV_i (C := RX2) (T := TX2) (N := 10) (ci := 2) (q0 := 0) (As := []) (rest := []) (isC := [0, 1]) (isR := [2]) (isB := [1, 2, 0]) (wr := [(q_a0_sources, .inl (cI, 48, .inl a0_sources))]) (ws2 := [(q_a0, .inr (2, [.int a0_count, .ref q_a0_kinds, .ref q_a0_wicks, .ref q_a0_sources, .ref q_a0_changes, .long a0_state, .int a0_areLoopsAllowed, .int a0_ticks, .int a0_tickChanges, .int a0_sets])), (q_a0_kinds, .inl (cI, 16, .inl a0_kinds)), (q_a0_sources, .inl (cI, 48, .inl a0_sources))]) hF (c_X2_switches l D cI cJ cC cL q_a0 q_a0_kinds q_a0_wicks q_a0_sources q_a0_changes a0_count a0_state a0_areLoopsAllowed a0_ticks a0_tickChanges a0_sets a0_kinds x3 hc3 s.heap.size) (cwV 0 hts gX7_isGlowingAtLast_X2_switches rfl rfl rfl (by decide +kernel) ⟨Nat.le_of_ble_eq_true rfl, Nat.le_of_ble_eq_true rfl⟩) rfl hl rfl (Nat.le_of_ble_eq_true rfl) dX7_isGlowingAtLast_3 ⟨Nat.zero_le _, Nat.zero_le _⟩ hK hN KX_T trivial hP hD hS hA rfl rfl rfl rfl rfl rfl (by decide) rfl rfl (fun H locs hP hD hS => ?_)
  refine lv_istore (lv' := [(4, .int x3), (3, .int v2), (0, .ref q_a0), (1, .int v1), (2, .int v2)]) hx hb dX7_isGlowingAtLast_6 hl (by decide) rfl (fun ls hl => ?_)
  refine lv_iconst (v := (0 : Int32)) hx hb dX7_isGlowingAtLast_8 (by decide) ?_
  refine lv_istore (lv' := [(5, .int (0 : Int32)), (4, .int x3), (3, .int v2), (0, .ref q_a0), (1, .int v1), (2, .int v2)]) hx hb dX7_isGlowingAtLast_9 hl (by decide) rfl (fun ls hl => ?_)
  exact L11  FU v2 x3 (0 : Int32)  H locs  hP hD hS _ (lv_sub hl [3, 4, 2, 1, 0] rfl) hJ

def J_X7_spread_b37 (k7 : Int32 → Int32 → Int32 → Option (Int32)) (v0 : Int32) (v1 : Int32) (v2 : Int32) (v3 : Int32) (v4 : Int32) : Option (Int32) :=
    nm (v4 + Int32.ofInt 1) fun x37 =>
    k7 v2 v3 x37
def J_X7_spread_L7 (v0 : Int32) (v1 : Int32) : Nat → Int32 → Int32 → Int32 → Option (Int32)
  | 0, _, _, _ => none
  | nf + 1, v2, v3, v4 =>
    if (16 : Int32) ≤ v4 then (
    some (v2))
    else (
    bnd1 (J_X9_isIn v1 v4) fun x17 =>
    if x17 = 0 then (
    J_X7_spread_b37 (fun z0 z1 z2 => J_X7_spread_L7 v0 v1 nf z0 z1 z2) v0 v1 v2 v3 v4)
    else (
    nm (v0 >>> (v3 &&& 31)) fun x26 =>
    nm (x26 &&& (1 : Int32)) fun x28 =>
    nm (v2 ||| (x28 <<< (v4 &&& 31))) fun x32 =>
    nm (v3 + Int32.ofInt 1) fun x34 =>
    J_X7_spread_b37 (fun z0 z1 z2 => J_X7_spread_L7 v0 v1 nf z0 z1 z2) v0 v1 x32 x34 v4))
def J_X7_spread (v0 : Int32) (v1 : Int32) : Option (Int32) :=
    J_X7_spread_L7 v0 v1 FU (0 : Int32) (0 : Int32) (0 : Int32)
abbrev rmX7_spread : Room := { frames := 1, cells := 0, slots := 0, locals := 21 }
set_option maxHeartbeats 4000000 in
set_option maxRecDepth 100000 in
theorem c_X7_spread (l : Launch) (D : va_G) (cI cJ cC cL : ClassId) (v0 : Int32) (v1 : Int32) (r : Int32) (hJ : J_X7_spread v0 v1 = some (r)) (sz : Nat) : Met l yX7_spread wsX7_spread rmX7_spread (va_Pc [.int v0, .int v1] (jpre XT D (tyL cI cJ cC cL) [] sz)) (va_Qi (fun r' (_ : Unit) => r' = r) (fun _ t => jpost D (tyL cI cJ cC cL) (va_A [] sz) [] t) (va_A [] sz)) 0 0 (va_A [] sz) := by
  refine jE_i (cc := cX7_spread) (maxL := 5) (own := RX7) (ret := (some .int)) (lv0 := [(0, .int v0), (1, .int v1)]) (by decide) rfl rfl rfl (Nat.le_of_ble_eq_true rfl) rfl ?_
  intro p e s m args below meth c A Q ls hx hb hml hown hts hK hN hX hA hP hD hS hl hRet
  have hF : CallFix p m c cX7_spread 5 s args wsX7_spread RX7 := ⟨hx, hb, hml, hown, hts⟩
  have B37 : ∀ (k7 : Int32 → Int32 → Int32 → Option (Int32)), (∀ (v2 : Int32) (v3 : Int32) (v4 : Int32) (H : Heap) (locs : List Loc), va_P D vwCl [] H → va_D A [] → va_S A s.heap H locs → ∀ ls : Array Slot, lv_has ls 5 [(0, .int v0), (1, .int v1), (2, .int v2), (3, .int v3), (4, .int v4)] → k7 v2 v3 v4 = some (r) → W p l e rmX7_spread s m args below meth c H locs 0 0 Q (F0 m 7 ls [])) → ∀ (v2 : Int32) (v3 : Int32) (v4 : Int32) (H : Heap) (locs : List Loc), va_P D vwCl [] H → va_D A [] → va_S A s.heap H locs → ∀ ls : Array Slot, lv_has ls 5 [(0, .int v0), (1, .int v1), (2, .int v2), (3, .int v3), (4, .int v4)] → J_X7_spread_b37 k7 v0 v1 v2 v3 v4 = some (r) → W p l e rmX7_spread s m args below meth c H locs 0 0 Q (F0 m 37 ls []) := by
    intro k7 hk7 v2 v3 v4 H locs hP hD hS ls hl hJ
    unfold J_X7_spread_b37 at hJ
    refine jt_iinc hJ (fun x37 ex37 hJ => ?_)
    refine lv_iinc (v := x37) (lv' := [(4, .int x37), (0, .int v0), (1, .int v1), (2, .int v2), (3, .int v3)]) hx hb dX7_spread_37 hl (k := 4) rfl ex37 (by decide) rfl (fun ls hl => ?_)
    refine lv_goto (tgt := 7) hx hb dX7_spread_40 (by decide) ?_
    exact hk7 v2 v3 x37  H locs  hP hD hS _ (lv_sub hl [1, 2, 3, 4, 0] rfl) hJ
  have L7 : ∀ (nf : Nat), ∀ (v2 : Int32) (v3 : Int32) (v4 : Int32) (H : Heap) (locs : List Loc), va_P D vwCl [] H → va_D A [] → va_S A s.heap H locs → ∀ ls : Array Slot, lv_has ls 5 [(0, .int v0), (1, .int v1), (2, .int v2), (3, .int v3), (4, .int v4)] → J_X7_spread_L7  v0 v1 nf v2 v3 v4 = some (r) → W p l e rmX7_spread s m args below meth c H locs 0 0 Q (F0 m 7 ls []) := by
    intro nf
    induction nf with
    | zero =>
      intro v2 v3 v4 H locs hP hD hS ls hl hJ
      rw [J_X7_spread_L7] at hJ
      cases hJ
    | succ nf ih =>
      intro v2 v3 v4 H locs hP hD hS ls hl hJ
      rw [J_X7_spread_L7] at hJ
      refine lv_iload hx hb dX7_spread_7 (lv_at hl 4 rfl) ?_
      refine lv_bipush (v := (16 : Int32)) hx hb dX7_spread_9 (by decide) ?_
      refine jif_icmp_ge (tgt := 43) hx hb dX7_spread_11 (by decide) hJ (fun hJ => ?_) (fun hJ => ?_)
      · refine lv_iload_n hx hb dX7_spread_43 rfl (lv_at hl 2 rfl) ?_
        have e0 := Option.some.inj hJ
        exact hRet hP hD hS e0 dX7_spread_44
      · refine lv_iload_n hx hb dX7_spread_14 rfl (lv_at hl 1 rfl) ?_
        refine lv_iload hx hb dX7_spread_15 (lv_at hl 4 rfl) ?_
        obtain ⟨x17, hc17, hJ⟩ := bnd1_some hJ
        refine jcN_i (As := [.int v1, .int v4]) (rest := []) (isC := []) (isR := []) (isB := []) (wr := []) (ws2 := []) hF (c_X9_isIn l D cI cJ cC cL v1 v4 x17 hc17 H.size) ⟨va_cnB 2 hts gX7_spread_X9_isIn_n37 rfl rfl rfl (hN.2.2.2.1) (hts (.initialized RX9) (by decide +kernel)) (by decide +kernel) ⟨Nat.le_of_ble_eq_true rfl, Nat.le_of_ble_eq_true rfl⟩, hts (.static yX9_isIn) (by decide +kernel), trivial⟩ rfl hl rfl (Nat.le_of_ble_eq_true rfl) dX7_spread_17 ⟨Nat.zero_le _, Nat.zero_le _⟩ hK hN KX_T trivial hP hD hS hA rfl rfl rfl rfl (by decide) rfl rfl (fun H locs hP hD hS => ?_)
        refine jif_eq (tgt := 37) hx hb dX7_spread_20 (by decide) hJ (fun hJ => ?_) (fun hJ => ?_)
        · exact B37 (fun z0 z1 z2 => J_X7_spread_L7 v0 v1 nf z0 z1 z2) ih v2 v3 v4  H locs  hP hD hS _ (lv_sub hl [0, 1, 2, 3, 4] rfl) hJ
        · refine lv_iload_n hx hb dX7_spread_23 rfl (lv_at hl 2 rfl) ?_
          refine lv_iload_n hx hb dX7_spread_24 rfl (lv_at hl 0 rfl) ?_
          refine lv_iload_n hx hb dX7_spread_25 rfl (lv_at hl 3 rfl) ?_
          refine lv_ishr hx hb dX7_spread_26 ?_
          refine jt_i hJ (fun x26 hJ => ?_)
          refine lv_iconst (v := (1 : Int32)) hx hb dX7_spread_27 (by decide) ?_
          refine lv_iand hx hb dX7_spread_28 ?_
          refine jt_i hJ (fun x28 hJ => ?_)
          refine lv_iload hx hb dX7_spread_29 (lv_at hl 4 rfl) ?_
          refine lv_ishl hx hb dX7_spread_31 ?_
          refine lv_ior hx hb dX7_spread_32 ?_
          refine jt_i hJ (fun x32 hJ => ?_)
          refine lv_istore_n (lv' := [(2, .int x32), (0, .int v0), (1, .int v1), (3, .int v3), (4, .int v4)]) hx hb dX7_spread_33 rfl hl (by decide) rfl (fun ls hl => ?_)
          refine jt_iinc hJ (fun x34 ex34 hJ => ?_)
          refine lv_iinc (v := x34) (lv' := [(3, .int x34), (2, .int x32), (0, .int v0), (1, .int v1), (4, .int v4)]) hx hb dX7_spread_34 hl (k := 3) rfl ex34 (by decide) rfl (fun ls hl => ?_)
          exact B37 (fun z0 z1 z2 => J_X7_spread_L7 v0 v1 nf z0 z1 z2) ih x32 x34 v4  H locs  hP hD hS _ (lv_sub hl [2, 3, 1, 0, 4] rfl) hJ
  unfold J_X7_spread at hJ
  refine lv_iconst (v := (0 : Int32)) hx hb dX7_spread_0 (by decide) ?_
  refine lv_istore_n (lv' := [(2, .int (0 : Int32)), (0, .int v0), (1, .int v1)]) hx hb dX7_spread_1 rfl hl (by decide) rfl (fun ls hl => ?_)
  refine lv_iconst (v := (0 : Int32)) hx hb dX7_spread_2 (by decide) ?_
  refine lv_istore_n (lv' := [(3, .int (0 : Int32)), (2, .int (0 : Int32)), (0, .int v0), (1, .int v1)]) hx hb dX7_spread_3 rfl hl (by decide) rfl (fun ls hl => ?_)
  refine lv_iconst (v := (0 : Int32)) hx hb dX7_spread_4 (by decide) ?_
  refine lv_istore (lv' := [(4, .int (0 : Int32)), (3, .int (0 : Int32)), (2, .int (0 : Int32)), (0, .int v0), (1, .int v1)]) hx hb dX7_spread_5 hl (by decide) rfl (fun ls hl => ?_)
  exact L7  FU (0 : Int32) (0 : Int32) (0 : Int32)  s.heap []  hP hD hS _ (lv_sub hl [3, 4, 2, 1, 0] rfl) hJ

def J_X8_length (t_length : Int32) : Option (Int32) :=
    some (t_length)
abbrev rmX8_length : Room := { frames := 0, cells := 0, slots := 0, locals := 0 }
set_option maxHeartbeats 4000000 in
set_option maxRecDepth 100000 in
theorem c_X8_length (l : Launch) (D : va_G) (cI cJ cC cL : ClassId) (q_t q_t_signs : Nat) (t_length : Int32) (t_at : Int32) (t_word : Int32) (t_first : Int32) (t_second : Int32) (t_third : Int32) (t_number : Int32) (r : Int32) (hJ : J_X8_length t_length = some (r)) (sz : Nat) : Met l yX8_length wsX8_length rmX8_length (va_Pc [.ref q_t] (jpre XT D (tyL cI cJ cC cL) [(q_t, .inr (6, [.ref q_t_signs, .int t_length, .int t_at, .int t_word, .int t_first, .int t_second, .int t_third, .int t_number]))] sz)) (va_Qi (fun r' (_ : Unit) => r' = r) (fun _ t => jpost D (tyL cI cJ cC cL) (va_A [(q_t, .inr (6, [.ref q_t_signs, .int t_length, .int t_at, .int t_word, .int t_first, .int t_second, .int t_third, .int t_number]))] sz) [(q_t, .inr (6, [.ref q_t_signs, .int t_length, .int t_at, .int t_word, .int t_first, .int t_second, .int t_third, .int t_number]))] t) (va_A [(q_t, .inr (6, [.ref q_t_signs, .int t_length, .int t_at, .int t_word, .int t_first, .int t_second, .int t_third, .int t_number]))] sz)) 0 0 (va_A [(q_t, .inr (6, [.ref q_t_signs, .int t_length, .int t_at, .int t_word, .int t_first, .int t_second, .int t_third, .int t_number]))] sz) := by
  refine jE_i (cc := cX8_length) (maxL := 1) (own := RX8) (ret := (some .int)) (lv0 := [(0, .ref q_t)]) (by decide) rfl rfl rfl (Nat.le_of_ble_eq_true rfl) rfl ?_
  intro p e s m args below meth c A Q ls hx hb hml hown hts hK hN hX hA hP hD hS hl hRet
  have hF : CallFix p m c cX8_length 1 s args wsX8_length RX8 := ⟨hx, hb, hml, hown, hts⟩
  have fl_15 := hts (.fieldLink RX8 15 "LanternLogic$Text" "length" "I") (by decide +kernel)
  have hin_X8 : ∀ w ∈ u_ws RX8 TX8 8, w ∈ wsX8_length := by decide +kernel
  unfold J_X8_length at hJ
  refine lv_aload_n hx hb dX8_length_0 rfl (lv_at hl 0 rfl) ?_
  refine va_get (ci := 6) (v := .int t_length) (C := RX8) (T := TX8) (N := 8) hx hb hts hin_X8 hown hK hP 0 rfl rfl 1 (by decide) fl_15 (fun _ h9 => h9) rfl dX8_length_1 ?_
  have e0 := Option.some.inj hJ
  exact hRet hP hD hS e0 dX8_length_4

def J_X8_position (t_at : Int32) : Option (Int32) :=
    some (t_at)
abbrev rmX8_position : Room := { frames := 0, cells := 0, slots := 0, locals := 0 }
set_option maxHeartbeats 4000000 in
set_option maxRecDepth 100000 in
theorem c_X8_position (l : Launch) (D : va_G) (cI cJ cC cL : ClassId) (q_t q_t_signs : Nat) (t_length : Int32) (t_at : Int32) (t_word : Int32) (t_first : Int32) (t_second : Int32) (t_third : Int32) (t_number : Int32) (r : Int32) (hJ : J_X8_position t_at = some (r)) (sz : Nat) : Met l yX8_position wsX8_position rmX8_position (va_Pc [.ref q_t] (jpre XT D (tyL cI cJ cC cL) [(q_t, .inr (6, [.ref q_t_signs, .int t_length, .int t_at, .int t_word, .int t_first, .int t_second, .int t_third, .int t_number]))] sz)) (va_Qi (fun r' (_ : Unit) => r' = r) (fun _ t => jpost D (tyL cI cJ cC cL) (va_A [(q_t, .inr (6, [.ref q_t_signs, .int t_length, .int t_at, .int t_word, .int t_first, .int t_second, .int t_third, .int t_number]))] sz) [(q_t, .inr (6, [.ref q_t_signs, .int t_length, .int t_at, .int t_word, .int t_first, .int t_second, .int t_third, .int t_number]))] t) (va_A [(q_t, .inr (6, [.ref q_t_signs, .int t_length, .int t_at, .int t_word, .int t_first, .int t_second, .int t_third, .int t_number]))] sz)) 0 0 (va_A [(q_t, .inr (6, [.ref q_t_signs, .int t_length, .int t_at, .int t_word, .int t_first, .int t_second, .int t_third, .int t_number]))] sz) := by
  refine jE_i (cc := cX8_position) (maxL := 1) (own := RX8) (ret := (some .int)) (lv0 := [(0, .ref q_t)]) (by decide) rfl rfl rfl (Nat.le_of_ble_eq_true rfl) rfl ?_
  intro p e s m args below meth c A Q ls hx hb hml hown hts hK hN hX hA hP hD hS hl hRet
  have hF : CallFix p m c cX8_position 1 s args wsX8_position RX8 := ⟨hx, hb, hml, hown, hts⟩
  have fl_19 := hts (.fieldLink RX8 19 "LanternLogic$Text" "at" "I") (by decide +kernel)
  have hin_X8 : ∀ w ∈ u_ws RX8 TX8 8, w ∈ wsX8_position := by decide +kernel
  unfold J_X8_position at hJ
  refine lv_aload_n hx hb dX8_position_0 rfl (lv_at hl 0 rfl) ?_
  refine va_get (ci := 6) (v := .int t_at) (C := RX8) (T := TX8) (N := 8) hx hb hts hin_X8 hown hK hP 0 rfl rfl 2 (by decide) fl_19 (fun _ h9 => h9) rfl dX8_position_1 ?_
  have e0 := Option.some.inj hJ
  exact hRet hP hD hS e0 dX8_position_4

def J_X8_word (t_word : Int32) : Option (Int32) :=
    some (t_word)
abbrev rmX8_word : Room := { frames := 0, cells := 0, slots := 0, locals := 0 }
set_option maxHeartbeats 4000000 in
set_option maxRecDepth 100000 in
theorem c_X8_word (l : Launch) (D : va_G) (cI cJ cC cL : ClassId) (q_t q_t_signs : Nat) (t_length : Int32) (t_at : Int32) (t_word : Int32) (t_first : Int32) (t_second : Int32) (t_third : Int32) (t_number : Int32) (r : Int32) (hJ : J_X8_word t_word = some (r)) (sz : Nat) : Met l yX8_word wsX8_word rmX8_word (va_Pc [.ref q_t] (jpre XT D (tyL cI cJ cC cL) [(q_t, .inr (6, [.ref q_t_signs, .int t_length, .int t_at, .int t_word, .int t_first, .int t_second, .int t_third, .int t_number]))] sz)) (va_Qi (fun r' (_ : Unit) => r' = r) (fun _ t => jpost D (tyL cI cJ cC cL) (va_A [(q_t, .inr (6, [.ref q_t_signs, .int t_length, .int t_at, .int t_word, .int t_first, .int t_second, .int t_third, .int t_number]))] sz) [(q_t, .inr (6, [.ref q_t_signs, .int t_length, .int t_at, .int t_word, .int t_first, .int t_second, .int t_third, .int t_number]))] t) (va_A [(q_t, .inr (6, [.ref q_t_signs, .int t_length, .int t_at, .int t_word, .int t_first, .int t_second, .int t_third, .int t_number]))] sz)) 0 0 (va_A [(q_t, .inr (6, [.ref q_t_signs, .int t_length, .int t_at, .int t_word, .int t_first, .int t_second, .int t_third, .int t_number]))] sz) := by
  refine jE_i (cc := cX8_word) (maxL := 1) (own := RX8) (ret := (some .int)) (lv0 := [(0, .ref q_t)]) (by decide) rfl rfl rfl (Nat.le_of_ble_eq_true rfl) rfl ?_
  intro p e s m args below meth c A Q ls hx hb hml hown hts hK hN hX hA hP hD hS hl hRet
  have hF : CallFix p m c cX8_word 1 s args wsX8_word RX8 := ⟨hx, hb, hml, hown, hts⟩
  have fl_22 := hts (.fieldLink RX8 22 "LanternLogic$Text" "word" "I") (by decide +kernel)
  have hin_X8 : ∀ w ∈ u_ws RX8 TX8 8, w ∈ wsX8_word := by decide +kernel
  unfold J_X8_word at hJ
  refine lv_aload_n hx hb dX8_word_0 rfl (lv_at hl 0 rfl) ?_
  refine va_get (ci := 6) (v := .int t_word) (C := RX8) (T := TX8) (N := 8) hx hb hts hin_X8 hown hK hP 0 rfl rfl 3 (by decide) fl_22 (fun _ h9 => h9) rfl dX8_word_1 ?_
  have e0 := Option.some.inj hJ
  exact hRet hP hD hS e0 dX8_word_4

def J_X8_first (t_first : Int32) : Option (Int32) :=
    some (t_first)
abbrev rmX8_first : Room := { frames := 0, cells := 0, slots := 0, locals := 0 }
set_option maxHeartbeats 4000000 in
set_option maxRecDepth 100000 in
theorem c_X8_first (l : Launch) (D : va_G) (cI cJ cC cL : ClassId) (q_t q_t_signs : Nat) (t_length : Int32) (t_at : Int32) (t_word : Int32) (t_first : Int32) (t_second : Int32) (t_third : Int32) (t_number : Int32) (r : Int32) (hJ : J_X8_first t_first = some (r)) (sz : Nat) : Met l yX8_first wsX8_first rmX8_first (va_Pc [.ref q_t] (jpre XT D (tyL cI cJ cC cL) [(q_t, .inr (6, [.ref q_t_signs, .int t_length, .int t_at, .int t_word, .int t_first, .int t_second, .int t_third, .int t_number]))] sz)) (va_Qi (fun r' (_ : Unit) => r' = r) (fun _ t => jpost D (tyL cI cJ cC cL) (va_A [(q_t, .inr (6, [.ref q_t_signs, .int t_length, .int t_at, .int t_word, .int t_first, .int t_second, .int t_third, .int t_number]))] sz) [(q_t, .inr (6, [.ref q_t_signs, .int t_length, .int t_at, .int t_word, .int t_first, .int t_second, .int t_third, .int t_number]))] t) (va_A [(q_t, .inr (6, [.ref q_t_signs, .int t_length, .int t_at, .int t_word, .int t_first, .int t_second, .int t_third, .int t_number]))] sz)) 0 0 (va_A [(q_t, .inr (6, [.ref q_t_signs, .int t_length, .int t_at, .int t_word, .int t_first, .int t_second, .int t_third, .int t_number]))] sz) := by
  refine jE_i (cc := cX8_first) (maxL := 1) (own := RX8) (ret := (some .int)) (lv0 := [(0, .ref q_t)]) (by decide) rfl rfl rfl (Nat.le_of_ble_eq_true rfl) rfl ?_
  intro p e s m args below meth c A Q ls hx hb hml hown hts hK hN hX hA hP hD hS hl hRet
  have hF : CallFix p m c cX8_first 1 s args wsX8_first RX8 := ⟨hx, hb, hml, hown, hts⟩
  have fl_25 := hts (.fieldLink RX8 25 "LanternLogic$Text" "first" "I") (by decide +kernel)
  have hin_X8 : ∀ w ∈ u_ws RX8 TX8 8, w ∈ wsX8_first := by decide +kernel
  unfold J_X8_first at hJ
  refine lv_aload_n hx hb dX8_first_0 rfl (lv_at hl 0 rfl) ?_
  refine va_get (ci := 6) (v := .int t_first) (C := RX8) (T := TX8) (N := 8) hx hb hts hin_X8 hown hK hP 0 rfl rfl 4 (by decide) fl_25 (fun _ h9 => h9) rfl dX8_first_1 ?_
  have e0 := Option.some.inj hJ
  exact hRet hP hD hS e0 dX8_first_4

def J_X8_second (t_second : Int32) : Option (Int32) :=
    some (t_second)
abbrev rmX8_second : Room := { frames := 0, cells := 0, slots := 0, locals := 0 }
set_option maxHeartbeats 4000000 in
set_option maxRecDepth 100000 in
theorem c_X8_second (l : Launch) (D : va_G) (cI cJ cC cL : ClassId) (q_t q_t_signs : Nat) (t_length : Int32) (t_at : Int32) (t_word : Int32) (t_first : Int32) (t_second : Int32) (t_third : Int32) (t_number : Int32) (r : Int32) (hJ : J_X8_second t_second = some (r)) (sz : Nat) : Met l yX8_second wsX8_second rmX8_second (va_Pc [.ref q_t] (jpre XT D (tyL cI cJ cC cL) [(q_t, .inr (6, [.ref q_t_signs, .int t_length, .int t_at, .int t_word, .int t_first, .int t_second, .int t_third, .int t_number]))] sz)) (va_Qi (fun r' (_ : Unit) => r' = r) (fun _ t => jpost D (tyL cI cJ cC cL) (va_A [(q_t, .inr (6, [.ref q_t_signs, .int t_length, .int t_at, .int t_word, .int t_first, .int t_second, .int t_third, .int t_number]))] sz) [(q_t, .inr (6, [.ref q_t_signs, .int t_length, .int t_at, .int t_word, .int t_first, .int t_second, .int t_third, .int t_number]))] t) (va_A [(q_t, .inr (6, [.ref q_t_signs, .int t_length, .int t_at, .int t_word, .int t_first, .int t_second, .int t_third, .int t_number]))] sz)) 0 0 (va_A [(q_t, .inr (6, [.ref q_t_signs, .int t_length, .int t_at, .int t_word, .int t_first, .int t_second, .int t_third, .int t_number]))] sz) := by
  refine jE_i (cc := cX8_second) (maxL := 1) (own := RX8) (ret := (some .int)) (lv0 := [(0, .ref q_t)]) (by decide) rfl rfl rfl (Nat.le_of_ble_eq_true rfl) rfl ?_
  intro p e s m args below meth c A Q ls hx hb hml hown hts hK hN hX hA hP hD hS hl hRet
  have hF : CallFix p m c cX8_second 1 s args wsX8_second RX8 := ⟨hx, hb, hml, hown, hts⟩
  have fl_28 := hts (.fieldLink RX8 28 "LanternLogic$Text" "second" "I") (by decide +kernel)
  have hin_X8 : ∀ w ∈ u_ws RX8 TX8 8, w ∈ wsX8_second := by decide +kernel
  unfold J_X8_second at hJ
  refine lv_aload_n hx hb dX8_second_0 rfl (lv_at hl 0 rfl) ?_
  refine va_get (ci := 6) (v := .int t_second) (C := RX8) (T := TX8) (N := 8) hx hb hts hin_X8 hown hK hP 0 rfl rfl 5 (by decide) fl_28 (fun _ h9 => h9) rfl dX8_second_1 ?_
  have e0 := Option.some.inj hJ
  exact hRet hP hD hS e0 dX8_second_4

def J_X8_third (t_third : Int32) : Option (Int32) :=
    some (t_third)
abbrev rmX8_third : Room := { frames := 0, cells := 0, slots := 0, locals := 0 }
set_option maxHeartbeats 4000000 in
set_option maxRecDepth 100000 in
theorem c_X8_third (l : Launch) (D : va_G) (cI cJ cC cL : ClassId) (q_t q_t_signs : Nat) (t_length : Int32) (t_at : Int32) (t_word : Int32) (t_first : Int32) (t_second : Int32) (t_third : Int32) (t_number : Int32) (r : Int32) (hJ : J_X8_third t_third = some (r)) (sz : Nat) : Met l yX8_third wsX8_third rmX8_third (va_Pc [.ref q_t] (jpre XT D (tyL cI cJ cC cL) [(q_t, .inr (6, [.ref q_t_signs, .int t_length, .int t_at, .int t_word, .int t_first, .int t_second, .int t_third, .int t_number]))] sz)) (va_Qi (fun r' (_ : Unit) => r' = r) (fun _ t => jpost D (tyL cI cJ cC cL) (va_A [(q_t, .inr (6, [.ref q_t_signs, .int t_length, .int t_at, .int t_word, .int t_first, .int t_second, .int t_third, .int t_number]))] sz) [(q_t, .inr (6, [.ref q_t_signs, .int t_length, .int t_at, .int t_word, .int t_first, .int t_second, .int t_third, .int t_number]))] t) (va_A [(q_t, .inr (6, [.ref q_t_signs, .int t_length, .int t_at, .int t_word, .int t_first, .int t_second, .int t_third, .int t_number]))] sz)) 0 0 (va_A [(q_t, .inr (6, [.ref q_t_signs, .int t_length, .int t_at, .int t_word, .int t_first, .int t_second, .int t_third, .int t_number]))] sz) := by
  refine jE_i (cc := cX8_third) (maxL := 1) (own := RX8) (ret := (some .int)) (lv0 := [(0, .ref q_t)]) (by decide) rfl rfl rfl (Nat.le_of_ble_eq_true rfl) rfl ?_
  intro p e s m args below meth c A Q ls hx hb hml hown hts hK hN hX hA hP hD hS hl hRet
  have hF : CallFix p m c cX8_third 1 s args wsX8_third RX8 := ⟨hx, hb, hml, hown, hts⟩
  have fl_31 := hts (.fieldLink RX8 31 "LanternLogic$Text" "third" "I") (by decide +kernel)
  have hin_X8 : ∀ w ∈ u_ws RX8 TX8 8, w ∈ wsX8_third := by decide +kernel
  unfold J_X8_third at hJ
  refine lv_aload_n hx hb dX8_third_0 rfl (lv_at hl 0 rfl) ?_
  refine va_get (ci := 6) (v := .int t_third) (C := RX8) (T := TX8) (N := 8) hx hb hts hin_X8 hown hK hP 0 rfl rfl 6 (by decide) fl_31 (fun _ h9 => h9) rfl dX8_third_1 ?_
  have e0 := Option.some.inj hJ
  exact hRet hP hD hS e0 dX8_third_4

def J_X8_add_b12 (v1 : Int32) (t_length : Int32) (t_signs : Nat → Int32) : Option (Int32 × Int32 × (Nat → Int32)) :=
    some ((-12 : Int32), t_length, t_signs)
def J_X8_add_b31 (v1 : Int32) (t_length : Int32) (t_signs : Nat → Int32) : Option (Int32 × Int32 × (Nat → Int32)) :=
    some ((-13 : Int32), t_length, t_signs)
def J_X8_add (t_length : Int32) (t_signs : Nat → Int32) (v1 : Int32) : Option (Int32 × Int32 × (Nat → Int32)) :=
    if v1 < (32 : Int32) then (
    J_X8_add_b12 v1 t_length t_signs)
    else (
    if v1 ≤ (126 : Int32) then (
    if t_length < 0 then (
    J_X8_add_b31 v1 t_length t_signs)
    else (
    if t_length < (60 : Int32) then (
    nm ((v1.toUInt32 % 65536).toInt32) fun x43 =>
    chk t_length 60 (
    nm (t_length + (1 : Int32)) fun x51 =>
    some (x51, x51, (upd t_signs t_length.toNatClampNeg (vp_nar .char x43)))))
    else (
    J_X8_add_b31 v1 t_length t_signs)))
    else (
    J_X8_add_b12 v1 t_length t_signs))
abbrev rmX8_add : Room := { frames := 0, cells := 0, slots := 0, locals := 0 }
set_option maxHeartbeats 4000000 in
set_option maxRecDepth 100000 in
theorem c_X8_add (l : Launch) (D : va_G) (cI cJ cC cL : ClassId) (q_t q_t_signs : Nat) (t_length : Int32) (t_at : Int32) (t_word : Int32) (t_first : Int32) (t_second : Int32) (t_third : Int32) (t_number : Int32) (t_signs : Nat → Int32) (v1 : Int32) (r : Int32) (o_t_length : Int32) (o_t_signs : Nat → Int32) (hJ : J_X8_add t_length t_signs v1 = some (r, o_t_length, o_t_signs)) (sz : Nat) : Met l yX8_add wsX8_add rmX8_add (va_Pc [.ref q_t, .int v1] (jpre XT D (tyL cI cJ cC cL) [(q_t, .inr (6, [.ref q_t_signs, .int t_length, .int t_at, .int t_word, .int t_first, .int t_second, .int t_third, .int t_number])), (q_t_signs, .inl (cC, 60, .inl t_signs))] sz)) (va_Qi (fun r' (_ : Unit) => r' = r) (fun _ t => jpost D (tyL cI cJ cC cL) (va_A [(q_t, .inr (6, [.ref q_t_signs, .int t_length, .int t_at, .int t_word, .int t_first, .int t_second, .int t_third, .int t_number])), (q_t_signs, .inl (cC, 60, .inl t_signs))] sz) [(q_t, .inr (6, [.ref q_t_signs, .int o_t_length, .int t_at, .int t_word, .int t_first, .int t_second, .int t_third, .int t_number])), (q_t_signs, .inl (cC, 60, .inl o_t_signs))] t) (va_A [(q_t, .inr (6, [.ref q_t_signs, .int t_length, .int t_at, .int t_word, .int t_first, .int t_second, .int t_third, .int t_number])), (q_t_signs, .inl (cC, 60, .inl t_signs))] sz)) 0 0 (va_A [(q_t, .inr (6, [.ref q_t_signs, .int t_length, .int t_at, .int t_word, .int t_first, .int t_second, .int t_third, .int t_number])), (q_t_signs, .inl (cC, 60, .inl t_signs))] sz) := by
  refine jE_i (cc := cX8_add) (maxL := 2) (own := RX8) (ret := (some .int)) (lv0 := [(0, .ref q_t), (1, .int v1)]) (by decide) rfl rfl rfl (Nat.le_of_ble_eq_true rfl) rfl ?_
  intro p e s m args below meth c A Q ls hx hb hml hown hts hK hN hX hA hP hD hS hl hRet
  have hF : CallFix p m c cX8_add 2 s args wsX8_add RX8 := ⟨hx, hb, hml, hown, hts⟩
  have fl_9 := hts (.fieldLink RX8 9 "LanternLogic$Text" "signs" "[C") (by decide +kernel)
  have fl_15 := hts (.fieldLink RX8 15 "LanternLogic$Text" "length" "I") (by decide +kernel)
  have hin_X8 : ∀ w ∈ u_ws RX8 TX8 8, w ∈ wsX8_add := by decide +kernel
  have B12 : ∀ (t_length : Int32) (t_signs : Nat → Int32) (H : Heap) (locs : List Loc), va_P D vwCl [(q_t, .inr (6, [.ref q_t_signs, .int t_length, .int t_at, .int t_word, .int t_first, .int t_second, .int t_third, .int t_number])), (q_t_signs, .inl (cC, 60, .inl t_signs))] H → va_D A [(q_t, .inr (6, [.ref q_t_signs, .int t_length, .int t_at, .int t_word, .int t_first, .int t_second, .int t_third, .int t_number])), (q_t_signs, .inl (cC, 60, .inl t_signs))] → va_S A s.heap H locs → ∀ ls : Array Slot, lv_has ls 2 [] → J_X8_add_b12  v1 t_length t_signs = some (r, o_t_length, o_t_signs) → W p l e rmX8_add s m args below meth c H locs 0 0 Q (F0 m 12 ls []) := by
    intro t_length t_signs H locs hP hD hS ls hl hJ
    unfold J_X8_add_b12 at hJ
    refine lv_bipush (v := (-12 : Int32)) hx hb dX8_add_12 (by decide) ?_
    have hJ := Option.some.inj hJ
    obtain ⟨e0, e1, e2⟩ : ((-12 : Int32)) = r ∧ (t_length) = o_t_length ∧ (t_signs) = o_t_signs := ⟨congrArg (fun z => z.1) hJ, congrArg (fun z => z.2.1) hJ, congrArg (fun z => z.2.2) hJ⟩
    exact hRet (by rw [← e1, ← e2]; exact hP) (by rw [← e1, ← e2]; exact hD) hS e0 dX8_add_14
  have B31 : ∀ (t_length : Int32) (t_signs : Nat → Int32) (H : Heap) (locs : List Loc), va_P D vwCl [(q_t, .inr (6, [.ref q_t_signs, .int t_length, .int t_at, .int t_word, .int t_first, .int t_second, .int t_third, .int t_number])), (q_t_signs, .inl (cC, 60, .inl t_signs))] H → va_D A [(q_t, .inr (6, [.ref q_t_signs, .int t_length, .int t_at, .int t_word, .int t_first, .int t_second, .int t_third, .int t_number])), (q_t_signs, .inl (cC, 60, .inl t_signs))] → va_S A s.heap H locs → ∀ ls : Array Slot, lv_has ls 2 [] → J_X8_add_b31  v1 t_length t_signs = some (r, o_t_length, o_t_signs) → W p l e rmX8_add s m args below meth c H locs 0 0 Q (F0 m 31 ls []) := by
    intro t_length t_signs H locs hP hD hS ls hl hJ
    unfold J_X8_add_b31 at hJ
    refine lv_bipush (v := (-13 : Int32)) hx hb dX8_add_31 (by decide) ?_
    have hJ := Option.some.inj hJ
    obtain ⟨e0, e1, e2⟩ : ((-13 : Int32)) = r ∧ (t_length) = o_t_length ∧ (t_signs) = o_t_signs := ⟨congrArg (fun z => z.1) hJ, congrArg (fun z => z.2.1) hJ, congrArg (fun z => z.2.2) hJ⟩
    exact hRet (by rw [← e1, ← e2]; exact hP) (by rw [← e1, ← e2]; exact hD) hS e0 dX8_add_33
  unfold J_X8_add at hJ
  refine lv_iload_n hx hb dX8_add_0 rfl (lv_at hl 1 rfl) ?_
  refine lv_bipush (v := (32 : Int32)) hx hb dX8_add_1 (by decide) ?_
  refine jif_icmp_lt (tgt := 12) hx hb dX8_add_3 (by decide) hJ (fun hJ => ?_) (fun hJ => ?_)
  · exact B12  t_length t_signs  s.heap []  hP hD hS _ (lv_sub hl [] rfl) hJ
  · refine lv_iload_n hx hb dX8_add_6 rfl (lv_at hl 1 rfl) ?_
    refine lv_bipush (v := (126 : Int32)) hx hb dX8_add_7 (by decide) ?_
    refine jif_icmp_le (tgt := 15) hx hb dX8_add_9 (by decide) hJ (fun hJ => ?_) (fun hJ => ?_)
    · refine lv_aload_n hx hb dX8_add_15 rfl (lv_at hl 0 rfl) ?_
      refine va_get (ci := 6) (v := .int t_length) (C := RX8) (T := TX8) (N := 8) hx hb hts hin_X8 hown hK hP 0 rfl rfl 1 (by decide) fl_15 (fun _ h9 => h9) rfl dX8_add_16 ?_
      refine jif_lt (tgt := 31) hx hb dX8_add_19 (by decide) hJ (fun hJ => ?_) (fun hJ => ?_)
      · exact B31  t_length t_signs  s.heap []  hP hD hS _ (lv_sub hl [] rfl) hJ
      · refine lv_aload_n hx hb dX8_add_22 rfl (lv_at hl 0 rfl) ?_
        refine va_get (ci := 6) (v := .int t_length) (C := RX8) (T := TX8) (N := 8) hx hb hts hin_X8 hown hK hP 0 rfl rfl 1 (by decide) fl_15 (fun _ h9 => h9) rfl dX8_add_23 ?_
        refine lv_bipush (v := (60 : Int32)) hx hb dX8_add_26 (by decide) ?_
        refine jif_icmp_lt (tgt := 34) hx hb dX8_add_28 (by decide) hJ (fun hJ => ?_) (fun hJ => ?_)
        · refine lv_aload_n hx hb dX8_add_34 rfl (lv_at hl 0 rfl) ?_
          refine va_get (ci := 6) (v := .ref q_t_signs) (C := RX8) (T := TX8) (N := 8) hx hb hts hin_X8 hown hK hP 0 rfl rfl 0 (by decide) fl_9 (fun _ h9 => h9) rfl dX8_add_35 ?_
          refine lv_aload_n hx hb dX8_add_38 rfl (lv_at hl 0 rfl) ?_
          refine va_get (ci := 6) (v := .int t_length) (C := RX8) (T := TX8) (N := 8) hx hb hts hin_X8 hown hK hP 0 rfl rfl 1 (by decide) fl_15 (fun _ h9 => h9) rfl dX8_add_39 ?_
          refine lv_iload_n hx hb dX8_add_42 rfl (lv_at hl 1 rfl) ?_
          refine lv_i2c (v := (v1.toUInt32 % 65536).toInt32) hx hb dX8_add_43 rfl ?_
          refine jt_i hJ (fun x43 hJ => ?_)
          obtain ⟨hin, hJ⟩ := chk_in hJ
          refine va_cast hx hb hK hP hD hS 1 2 rfl rfl hin dX8_add_44 (fun H locs hP hD hS => ?_)
          have hP : va_P D vwCl [(q_t, .inr (6, [.ref q_t_signs, .int t_length, .int t_at, .int t_word, .int t_first, .int t_second, .int t_third, .int t_number])), (q_t_signs, .inl (cC, 60, .inl (upd t_signs t_length.toNatClampNeg (vp_nar .char x43))))] H := hP
          have hD : va_D A [(q_t, .inr (6, [.ref q_t_signs, .int t_length, .int t_at, .int t_word, .int t_first, .int t_second, .int t_third, .int t_number])), (q_t_signs, .inl (cC, 60, .inl (upd t_signs t_length.toNatClampNeg (vp_nar .char x43))))] := hD
          refine lv_aload_n hx hb dX8_add_45 rfl (lv_at hl 0 rfl) ?_
          refine lv_dup hx hb dX8_add_46 rfl ?_
          refine va_get (ci := 6) (v := .int t_length) (C := RX8) (T := TX8) (N := 8) hx hb hts hin_X8 hown hK hP 0 rfl rfl 1 (by decide) fl_15 (fun _ h9 => h9) rfl dX8_add_47 ?_
          refine lv_iconst (v := (1 : Int32)) hx hb dX8_add_50 (by decide) ?_
          refine lv_iadd hx hb dX8_add_51 ?_
          refine jt_i hJ (fun x51 hJ => ?_)
          refine va_put (ci := 6) (v := .int x51) (ty := .int) (C := RX8) (T := TX8) (N := 8) hx hb hts hin_X8 tyX8 tyX8_ok nmX8 hown hK hP hD hS 0 rfl rfl 1 (by decide) fl_15 (fun _ h9 => h9) rfl (by decide +kernel) rfl rfl (Nat.le_of_ble_eq_true rfl) dX8_add_52 (fun H locs hP hD hS => ?_)
          have hP : va_P D vwCl [(q_t, .inr (6, [.ref q_t_signs, .int x51, .int t_at, .int t_word, .int t_first, .int t_second, .int t_third, .int t_number])), (q_t_signs, .inl (cC, 60, .inl (upd t_signs t_length.toNatClampNeg (vp_nar .char x43))))] H := hP
          have hD : va_D A [(q_t, .inr (6, [.ref q_t_signs, .int x51, .int t_at, .int t_word, .int t_first, .int t_second, .int t_third, .int t_number])), (q_t_signs, .inl (cC, 60, .inl (upd t_signs t_length.toNatClampNeg (vp_nar .char x43))))] := hD
          refine lv_aload_n hx hb dX8_add_55 rfl (lv_at hl 0 rfl) ?_
          refine va_get (ci := 6) (v := .int x51) (C := RX8) (T := TX8) (N := 8) hx hb hts hin_X8 hown hK hP 0 rfl rfl 1 (by decide) fl_15 (fun _ h9 => h9) rfl dX8_add_56 ?_
          have hJ := Option.some.inj hJ
          obtain ⟨e0, e1, e2⟩ : (x51) = r ∧ (x51) = o_t_length ∧ ((upd t_signs t_length.toNatClampNeg (vp_nar .char x43))) = o_t_signs := ⟨congrArg (fun z => z.1) hJ, congrArg (fun z => z.2.1) hJ, congrArg (fun z => z.2.2) hJ⟩
          exact hRet (by rw [← e1, ← e2]; exact hP) (by rw [← e1, ← e2]; exact hD) hS e0 dX8_add_59
        · exact B31  t_length t_signs  s.heap []  hP hD hS _ (lv_sub hl [] rfl) hJ
    · exact B12  t_length t_signs  s.heap []  hP hD hS _ (lv_sub hl [] rfl) hJ

def J_X8_empty  : Option (Int32) :=
    some ((0 : Int32))
abbrev rmX8_empty : Room := { frames := 0, cells := 0, slots := 0, locals := 0 }
set_option maxHeartbeats 4000000 in
set_option maxRecDepth 100000 in
theorem c_X8_empty (l : Launch) (D : va_G) (cI cJ cC cL : ClassId) (q_t q_t_signs : Nat) (t_length : Int32) (t_at : Int32) (t_word : Int32) (t_first : Int32) (t_second : Int32) (t_third : Int32) (t_number : Int32) (o_t_length : Int32) (hJ : J_X8_empty  = some (o_t_length)) (sz : Nat) : Met l yX8_empty wsX8_empty rmX8_empty (va_Pc [.ref q_t] (jpre XT D (tyL cI cJ cC cL) [(q_t, .inr (6, [.ref q_t_signs, .int t_length, .int t_at, .int t_word, .int t_first, .int t_second, .int t_third, .int t_number]))] sz)) (va_Qv (fun (_ : Unit) => True) (fun _ t => jpost D (tyL cI cJ cC cL) (va_A [(q_t, .inr (6, [.ref q_t_signs, .int t_length, .int t_at, .int t_word, .int t_first, .int t_second, .int t_third, .int t_number]))] sz) [(q_t, .inr (6, [.ref q_t_signs, .int o_t_length, .int t_at, .int t_word, .int t_first, .int t_second, .int t_third, .int t_number]))] t) (va_A [(q_t, .inr (6, [.ref q_t_signs, .int t_length, .int t_at, .int t_word, .int t_first, .int t_second, .int t_third, .int t_number]))] sz)) 0 0 (va_A [(q_t, .inr (6, [.ref q_t_signs, .int t_length, .int t_at, .int t_word, .int t_first, .int t_second, .int t_third, .int t_number]))] sz) := by
  refine jE_v (cc := cX8_empty) (maxL := 1) (own := RX8) (ret := none) (lv0 := [(0, .ref q_t)]) (by decide) rfl rfl rfl (Nat.le_of_ble_eq_true rfl) rfl ?_
  intro p e s m args below meth c A Q ls hx hb hml hown hts hK hN hX hA hP hD hS hl hRet
  have hF : CallFix p m c cX8_empty 1 s args wsX8_empty RX8 := ⟨hx, hb, hml, hown, hts⟩
  have fl_15 := hts (.fieldLink RX8 15 "LanternLogic$Text" "length" "I") (by decide +kernel)
  have hin_X8 : ∀ w ∈ u_ws RX8 TX8 8, w ∈ wsX8_empty := by decide +kernel
  unfold J_X8_empty at hJ
  refine lv_aload_n hx hb dX8_empty_0 rfl (lv_at hl 0 rfl) ?_
  refine lv_iconst (v := (0 : Int32)) hx hb dX8_empty_1 (by decide) ?_
  refine va_put (ci := 6) (v := .int (0 : Int32)) (ty := .int) (C := RX8) (T := TX8) (N := 8) hx hb hts hin_X8 tyX8 tyX8_ok nmX8 hown hK hP hD hS 0 rfl rfl 1 (by decide) fl_15 (fun _ h9 => h9) rfl (by decide +kernel) rfl rfl (Nat.le_of_ble_eq_true rfl) dX8_empty_2 (fun H locs hP hD hS => ?_)
  have hP : va_P D vwCl [(q_t, .inr (6, [.ref q_t_signs, .int (0 : Int32), .int t_at, .int t_word, .int t_first, .int t_second, .int t_third, .int t_number]))] H := hP
  have hD : va_D A [(q_t, .inr (6, [.ref q_t_signs, .int (0 : Int32), .int t_at, .int t_word, .int t_first, .int t_second, .int t_third, .int t_number]))] := hD
  have e0 := Option.some.inj hJ
  exact hRet (by rw [← e0]; exact hP) (by rw [← e0]; exact hD) hS dX8_empty_5

def J_X8_toStart  : Option (Int32) :=
    some ((0 : Int32))
abbrev rmX8_toStart : Room := { frames := 0, cells := 0, slots := 0, locals := 0 }
set_option maxHeartbeats 4000000 in
set_option maxRecDepth 100000 in
theorem c_X8_toStart (l : Launch) (D : va_G) (cI cJ cC cL : ClassId) (q_t q_t_signs : Nat) (t_length : Int32) (t_at : Int32) (t_word : Int32) (t_first : Int32) (t_second : Int32) (t_third : Int32) (t_number : Int32) (o_t_at : Int32) (hJ : J_X8_toStart  = some (o_t_at)) (sz : Nat) : Met l yX8_toStart wsX8_toStart rmX8_toStart (va_Pc [.ref q_t] (jpre XT D (tyL cI cJ cC cL) [(q_t, .inr (6, [.ref q_t_signs, .int t_length, .int t_at, .int t_word, .int t_first, .int t_second, .int t_third, .int t_number]))] sz)) (va_Qv (fun (_ : Unit) => True) (fun _ t => jpost D (tyL cI cJ cC cL) (va_A [(q_t, .inr (6, [.ref q_t_signs, .int t_length, .int t_at, .int t_word, .int t_first, .int t_second, .int t_third, .int t_number]))] sz) [(q_t, .inr (6, [.ref q_t_signs, .int t_length, .int o_t_at, .int t_word, .int t_first, .int t_second, .int t_third, .int t_number]))] t) (va_A [(q_t, .inr (6, [.ref q_t_signs, .int t_length, .int t_at, .int t_word, .int t_first, .int t_second, .int t_third, .int t_number]))] sz)) 0 0 (va_A [(q_t, .inr (6, [.ref q_t_signs, .int t_length, .int t_at, .int t_word, .int t_first, .int t_second, .int t_third, .int t_number]))] sz) := by
  refine jE_v (cc := cX8_toStart) (maxL := 1) (own := RX8) (ret := none) (lv0 := [(0, .ref q_t)]) (by decide) rfl rfl rfl (Nat.le_of_ble_eq_true rfl) rfl ?_
  intro p e s m args below meth c A Q ls hx hb hml hown hts hK hN hX hA hP hD hS hl hRet
  have hF : CallFix p m c cX8_toStart 1 s args wsX8_toStart RX8 := ⟨hx, hb, hml, hown, hts⟩
  have fl_19 := hts (.fieldLink RX8 19 "LanternLogic$Text" "at" "I") (by decide +kernel)
  have hin_X8 : ∀ w ∈ u_ws RX8 TX8 8, w ∈ wsX8_toStart := by decide +kernel
  unfold J_X8_toStart at hJ
  refine lv_aload_n hx hb dX8_toStart_0 rfl (lv_at hl 0 rfl) ?_
  refine lv_iconst (v := (0 : Int32)) hx hb dX8_toStart_1 (by decide) ?_
  refine va_put (ci := 6) (v := .int (0 : Int32)) (ty := .int) (C := RX8) (T := TX8) (N := 8) hx hb hts hin_X8 tyX8 tyX8_ok nmX8 hown hK hP hD hS 0 rfl rfl 2 (by decide) fl_19 (fun _ h9 => h9) rfl (by decide +kernel) rfl rfl (Nat.le_of_ble_eq_true rfl) dX8_toStart_2 (fun H locs hP hD hS => ?_)
  have hP : va_P D vwCl [(q_t, .inr (6, [.ref q_t_signs, .int t_length, .int (0 : Int32), .int t_word, .int t_first, .int t_second, .int t_third, .int t_number]))] H := hP
  have hD : va_D A [(q_t, .inr (6, [.ref q_t_signs, .int t_length, .int (0 : Int32), .int t_word, .int t_first, .int t_second, .int t_third, .int t_number]))] := hD
  have e0 := Option.some.inj hJ
  exact hRet (by rw [← e0]; exact hP) (by rw [← e0]; exact hD) hS dX8_toStart_5

def J_X8_isRead_b40 (t_length : Int32) (t_signs : Nat → Int32) (v1 : Int32) (t_at : Int32) : Option (Int32 × Int32) :=
    chz (0 : Int32) (some ((0 : Int32), t_at))
def J_X8_isRead (t_length : Int32) (t_at : Int32) (t_signs : Nat → Int32) (v1 : Int32) : Option (Int32 × Int32) :=
    if t_at < 0 then (
    J_X8_isRead_b40 t_length t_signs v1 t_at)
    else (
    if t_length ≤ t_at then (
    J_X8_isRead_b40 t_length t_signs v1 t_at)
    else (
    if (60 : Int32) ≤ t_at then (
    J_X8_isRead_b40 t_length t_signs v1 t_at)
    else (
    chk t_at 60 (
    nm (t_signs t_at.toNatClampNeg) fun x35 =>
    if x35 = v1 then (
    nm (t_at + (1 : Int32)) fun x48 =>
    chz (1 : Int32) (some ((1 : Int32), x48)))
    else (
    J_X8_isRead_b40 t_length t_signs v1 t_at)))))
abbrev rmX8_isRead : Room := { frames := 0, cells := 0, slots := 0, locals := 0 }
set_option maxHeartbeats 4000000 in
set_option maxRecDepth 100000 in
theorem c_X8_isRead (l : Launch) (D : va_G) (cI cJ cC cL : ClassId) (q_t q_t_signs : Nat) (t_length : Int32) (t_at : Int32) (t_word : Int32) (t_first : Int32) (t_second : Int32) (t_third : Int32) (t_number : Int32) (t_signs : Nat → Int32) (v1 : Int32) (r : Int32) (o_t_at : Int32) (hJ : J_X8_isRead t_length t_at t_signs v1 = some (r, o_t_at)) (sz : Nat) : Met l yX8_isRead wsX8_isRead rmX8_isRead (va_Pc [.ref q_t, .int v1] (jpre XT D (tyL cI cJ cC cL) [(q_t, .inr (6, [.ref q_t_signs, .int t_length, .int t_at, .int t_word, .int t_first, .int t_second, .int t_third, .int t_number])), (q_t_signs, .inl (cC, 60, .inl t_signs))] sz)) (va_Qi (fun r' (_ : Unit) => r' = r) (fun _ t => jpost D (tyL cI cJ cC cL) (va_A [(q_t, .inr (6, [.ref q_t_signs, .int t_length, .int t_at, .int t_word, .int t_first, .int t_second, .int t_third, .int t_number])), (q_t_signs, .inl (cC, 60, .inl t_signs))] sz) [(q_t, .inr (6, [.ref q_t_signs, .int t_length, .int o_t_at, .int t_word, .int t_first, .int t_second, .int t_third, .int t_number])), (q_t_signs, .inl (cC, 60, .inl t_signs))] t) (va_A [(q_t, .inr (6, [.ref q_t_signs, .int t_length, .int t_at, .int t_word, .int t_first, .int t_second, .int t_third, .int t_number])), (q_t_signs, .inl (cC, 60, .inl t_signs))] sz)) 0 0 (va_A [(q_t, .inr (6, [.ref q_t_signs, .int t_length, .int t_at, .int t_word, .int t_first, .int t_second, .int t_third, .int t_number])), (q_t_signs, .inl (cC, 60, .inl t_signs))] sz) := by
  refine jE_z (cc := cX8_isRead) (maxL := 2) (own := RX8) (ret := (some .boolean)) (lv0 := [(0, .ref q_t), (1, .int v1)]) (by decide) rfl rfl rfl (Nat.le_of_ble_eq_true rfl) rfl ?_
  intro p e s m args below meth c A Q ls hx hb hml hown hts hK hN hX hA hP hD hS hl hRet
  have hF : CallFix p m c cX8_isRead 2 s args wsX8_isRead RX8 := ⟨hx, hb, hml, hown, hts⟩
  have fl_9 := hts (.fieldLink RX8 9 "LanternLogic$Text" "signs" "[C") (by decide +kernel)
  have fl_15 := hts (.fieldLink RX8 15 "LanternLogic$Text" "length" "I") (by decide +kernel)
  have fl_19 := hts (.fieldLink RX8 19 "LanternLogic$Text" "at" "I") (by decide +kernel)
  have hin_X8 : ∀ w ∈ u_ws RX8 TX8 8, w ∈ wsX8_isRead := by decide +kernel
  have B40 : ∀ (t_at : Int32) (H : Heap) (locs : List Loc), va_P D vwCl [(q_t, .inr (6, [.ref q_t_signs, .int t_length, .int t_at, .int t_word, .int t_first, .int t_second, .int t_third, .int t_number])), (q_t_signs, .inl (cC, 60, .inl t_signs))] H → va_D A [(q_t, .inr (6, [.ref q_t_signs, .int t_length, .int t_at, .int t_word, .int t_first, .int t_second, .int t_third, .int t_number])), (q_t_signs, .inl (cC, 60, .inl t_signs))] → va_S A s.heap H locs → ∀ ls : Array Slot, lv_has ls 2 [] → J_X8_isRead_b40  t_length t_signs v1 t_at = some (r, o_t_at) → W p l e rmX8_isRead s m args below meth c H locs 0 0 Q (F0 m 40 ls []) := by
    intro t_at H locs hP hD hS ls hl hJ
    unfold J_X8_isRead_b40 at hJ
    refine lv_iconst (v := (0 : Int32)) hx hb dX8_isRead_40 (by decide) ?_
    obtain ⟨h01, hJ⟩ := chz_ok hJ
    have hJ := Option.some.inj hJ
    obtain ⟨e0, e1⟩ : ((0 : Int32)) = r ∧ (t_at) = o_t_at := ⟨congrArg (fun z => z.1) hJ, congrArg (fun z => z.2) hJ⟩
    exact hRet (by rw [← e1]; exact hP) (by rw [← e1]; exact hD) hS h01 e0 dX8_isRead_41
  unfold J_X8_isRead at hJ
  refine lv_aload_n hx hb dX8_isRead_0 rfl (lv_at hl 0 rfl) ?_
  refine va_get (ci := 6) (v := .int t_at) (C := RX8) (T := TX8) (N := 8) hx hb hts hin_X8 hown hK hP 0 rfl rfl 2 (by decide) fl_19 (fun _ h9 => h9) rfl dX8_isRead_1 ?_
  refine jif_lt (tgt := 40) hx hb dX8_isRead_4 (by decide) hJ (fun hJ => ?_) (fun hJ => ?_)
  · exact B40  t_at  s.heap []  hP hD hS _ (lv_sub hl [] rfl) hJ
  · refine lv_aload_n hx hb dX8_isRead_7 rfl (lv_at hl 0 rfl) ?_
    refine va_get (ci := 6) (v := .int t_at) (C := RX8) (T := TX8) (N := 8) hx hb hts hin_X8 hown hK hP 0 rfl rfl 2 (by decide) fl_19 (fun _ h9 => h9) rfl dX8_isRead_8 ?_
    refine lv_aload_n hx hb dX8_isRead_11 rfl (lv_at hl 0 rfl) ?_
    refine va_get (ci := 6) (v := .int t_length) (C := RX8) (T := TX8) (N := 8) hx hb hts hin_X8 hown hK hP 0 rfl rfl 1 (by decide) fl_15 (fun _ h9 => h9) rfl dX8_isRead_12 ?_
    refine jif_icmp_ge (tgt := 40) hx hb dX8_isRead_15 (by decide) hJ (fun hJ => ?_) (fun hJ => ?_)
    · exact B40  t_at  s.heap []  hP hD hS _ (lv_sub hl [] rfl) hJ
    · refine lv_aload_n hx hb dX8_isRead_18 rfl (lv_at hl 0 rfl) ?_
      refine va_get (ci := 6) (v := .int t_at) (C := RX8) (T := TX8) (N := 8) hx hb hts hin_X8 hown hK hP 0 rfl rfl 2 (by decide) fl_19 (fun _ h9 => h9) rfl dX8_isRead_19 ?_
      refine lv_bipush (v := (60 : Int32)) hx hb dX8_isRead_22 (by decide) ?_
      refine jif_icmp_ge (tgt := 40) hx hb dX8_isRead_24 (by decide) hJ (fun hJ => ?_) (fun hJ => ?_)
      · exact B40  t_at  s.heap []  hP hD hS _ (lv_sub hl [] rfl) hJ
      · refine lv_aload_n hx hb dX8_isRead_27 rfl (lv_at hl 0 rfl) ?_
        refine va_get (ci := 6) (v := .ref q_t_signs) (C := RX8) (T := TX8) (N := 8) hx hb hts hin_X8 hown hK hP 0 rfl rfl 0 (by decide) fl_9 (fun _ h9 => h9) rfl dX8_isRead_28 ?_
        refine lv_aload_n hx hb dX8_isRead_31 rfl (lv_at hl 0 rfl) ?_
        refine va_get (ci := 6) (v := .int t_at) (C := RX8) (T := TX8) (N := 8) hx hb hts hin_X8 hown hK hP 0 rfl rfl 2 (by decide) fl_19 (fun _ h9 => h9) rfl dX8_isRead_32 ?_
        obtain ⟨hin, hJ⟩ := chk_in hJ
        refine va_cald hx hb hK hP 1 2 rfl rfl hin dX8_isRead_35 ?_
        refine jt_i hJ (fun x35 hJ => ?_)
        refine lv_iload_n hx hb dX8_isRead_36 rfl (lv_at hl 1 rfl) ?_
        refine jif_icmp_eq (tgt := 42) hx hb dX8_isRead_37 (by decide) hJ (fun hJ => ?_) (fun hJ => ?_)
        · refine lv_aload_n hx hb dX8_isRead_42 rfl (lv_at hl 0 rfl) ?_
          refine lv_dup hx hb dX8_isRead_43 rfl ?_
          refine va_get (ci := 6) (v := .int t_at) (C := RX8) (T := TX8) (N := 8) hx hb hts hin_X8 hown hK hP 0 rfl rfl 2 (by decide) fl_19 (fun _ h9 => h9) rfl dX8_isRead_44 ?_
          refine lv_iconst (v := (1 : Int32)) hx hb dX8_isRead_47 (by decide) ?_
          refine lv_iadd hx hb dX8_isRead_48 ?_
          refine jt_i hJ (fun x48 hJ => ?_)
          refine va_put (ci := 6) (v := .int x48) (ty := .int) (C := RX8) (T := TX8) (N := 8) hx hb hts hin_X8 tyX8 tyX8_ok nmX8 hown hK hP hD hS 0 rfl rfl 2 (by decide) fl_19 (fun _ h9 => h9) rfl (by decide +kernel) rfl rfl (Nat.le_of_ble_eq_true rfl) dX8_isRead_49 (fun H locs hP hD hS => ?_)
          have hP : va_P D vwCl [(q_t, .inr (6, [.ref q_t_signs, .int t_length, .int x48, .int t_word, .int t_first, .int t_second, .int t_third, .int t_number])), (q_t_signs, .inl (cC, 60, .inl t_signs))] H := hP
          have hD : va_D A [(q_t, .inr (6, [.ref q_t_signs, .int t_length, .int x48, .int t_word, .int t_first, .int t_second, .int t_third, .int t_number])), (q_t_signs, .inl (cC, 60, .inl t_signs))] := hD
          refine lv_iconst (v := (1 : Int32)) hx hb dX8_isRead_52 (by decide) ?_
          obtain ⟨h01, hJ⟩ := chz_ok hJ
          have hJ := Option.some.inj hJ
          obtain ⟨e0, e1⟩ : ((1 : Int32)) = r ∧ (x48) = o_t_at := ⟨congrArg (fun z => z.1) hJ, congrArg (fun z => z.2) hJ⟩
          exact hRet (by rw [← e1]; exact hP) (by rw [← e1]; exact hD) hS h01 e0 dX8_isRead_53
        · exact B40  t_at  s.heap []  hP hD hS _ (lv_sub hl [] rfl) hJ

def J_X8_isDigitRead_b55 (t_length : Int32) (t_signs : Nat → Int32) (t_at : Int32) (t_number : Int32) : Option (Int32 × Int32 × Int32) :=
    chz (0 : Int32) (some ((0 : Int32), t_at, t_number))
def J_X8_isDigitRead (t_length : Int32) (t_at : Int32) (t_number : Int32) (t_signs : Nat → Int32) : Option (Int32 × Int32 × Int32) :=
    if t_at < 0 then (
    J_X8_isDigitRead_b55 t_length t_signs t_at t_number)
    else (
    if t_length ≤ t_at then (
    J_X8_isDigitRead_b55 t_length t_signs t_at t_number)
    else (
    if (60 : Int32) ≤ t_at then (
    J_X8_isDigitRead_b55 t_length t_signs t_at t_number)
    else (
    chk t_at 60 (
    nm (t_signs t_at.toNatClampNeg) fun x35 =>
    if x35 < (48 : Int32) then (
    J_X8_isDigitRead_b55 t_length t_signs t_at t_number)
    else (
    chk t_at 60 (
    nm (t_signs t_at.toNatClampNeg) fun x49 =>
    if x49 ≤ (57 : Int32) then (
    chk t_at 60 (
    nm (t_signs t_at.toNatClampNeg) fun x66 =>
    nm (x66 - (48 : Int32)) fun x69 =>
    nm (t_at + (1 : Int32)) fun x79 =>
    chz (1 : Int32) (some ((1 : Int32), x79, x69))))
    else (
    J_X8_isDigitRead_b55 t_length t_signs t_at t_number)))))))
abbrev rmX8_isDigitRead : Room := { frames := 0, cells := 0, slots := 0, locals := 0 }
set_option maxHeartbeats 4000000 in
set_option maxRecDepth 100000 in
theorem c_X8_isDigitRead (l : Launch) (D : va_G) (cI cJ cC cL : ClassId) (q_t q_t_signs : Nat) (t_length : Int32) (t_at : Int32) (t_word : Int32) (t_first : Int32) (t_second : Int32) (t_third : Int32) (t_number : Int32) (t_signs : Nat → Int32) (r : Int32) (o_t_at : Int32) (o_t_number : Int32) (hJ : J_X8_isDigitRead t_length t_at t_number t_signs = some (r, o_t_at, o_t_number)) (sz : Nat) : Met l yX8_isDigitRead wsX8_isDigitRead rmX8_isDigitRead (va_Pc [.ref q_t] (jpre XT D (tyL cI cJ cC cL) [(q_t, .inr (6, [.ref q_t_signs, .int t_length, .int t_at, .int t_word, .int t_first, .int t_second, .int t_third, .int t_number])), (q_t_signs, .inl (cC, 60, .inl t_signs))] sz)) (va_Qi (fun r' (_ : Unit) => r' = r) (fun _ t => jpost D (tyL cI cJ cC cL) (va_A [(q_t, .inr (6, [.ref q_t_signs, .int t_length, .int t_at, .int t_word, .int t_first, .int t_second, .int t_third, .int t_number])), (q_t_signs, .inl (cC, 60, .inl t_signs))] sz) [(q_t, .inr (6, [.ref q_t_signs, .int t_length, .int o_t_at, .int t_word, .int t_first, .int t_second, .int t_third, .int o_t_number])), (q_t_signs, .inl (cC, 60, .inl t_signs))] t) (va_A [(q_t, .inr (6, [.ref q_t_signs, .int t_length, .int t_at, .int t_word, .int t_first, .int t_second, .int t_third, .int t_number])), (q_t_signs, .inl (cC, 60, .inl t_signs))] sz)) 0 0 (va_A [(q_t, .inr (6, [.ref q_t_signs, .int t_length, .int t_at, .int t_word, .int t_first, .int t_second, .int t_third, .int t_number])), (q_t_signs, .inl (cC, 60, .inl t_signs))] sz) := by
  refine jE_z (cc := cX8_isDigitRead) (maxL := 1) (own := RX8) (ret := (some .boolean)) (lv0 := [(0, .ref q_t)]) (by decide) rfl rfl rfl (Nat.le_of_ble_eq_true rfl) rfl ?_
  intro p e s m args below meth c A Q ls hx hb hml hown hts hK hN hX hA hP hD hS hl hRet
  have hF : CallFix p m c cX8_isDigitRead 1 s args wsX8_isDigitRead RX8 := ⟨hx, hb, hml, hown, hts⟩
  have fl_9 := hts (.fieldLink RX8 9 "LanternLogic$Text" "signs" "[C") (by decide +kernel)
  have fl_15 := hts (.fieldLink RX8 15 "LanternLogic$Text" "length" "I") (by decide +kernel)
  have fl_19 := hts (.fieldLink RX8 19 "LanternLogic$Text" "at" "I") (by decide +kernel)
  have fl_77 := hts (.fieldLink RX8 77 "LanternLogic$Text" "number" "I") (by decide +kernel)
  have hin_X8 : ∀ w ∈ u_ws RX8 TX8 8, w ∈ wsX8_isDigitRead := by decide +kernel
  have B55 : ∀ (t_at : Int32) (t_number : Int32) (H : Heap) (locs : List Loc), va_P D vwCl [(q_t, .inr (6, [.ref q_t_signs, .int t_length, .int t_at, .int t_word, .int t_first, .int t_second, .int t_third, .int t_number])), (q_t_signs, .inl (cC, 60, .inl t_signs))] H → va_D A [(q_t, .inr (6, [.ref q_t_signs, .int t_length, .int t_at, .int t_word, .int t_first, .int t_second, .int t_third, .int t_number])), (q_t_signs, .inl (cC, 60, .inl t_signs))] → va_S A s.heap H locs → ∀ ls : Array Slot, lv_has ls 1 [] → J_X8_isDigitRead_b55  t_length t_signs t_at t_number = some (r, o_t_at, o_t_number) → W p l e rmX8_isDigitRead s m args below meth c H locs 0 0 Q (F0 m 55 ls []) := by
    intro t_at t_number H locs hP hD hS ls hl hJ
    unfold J_X8_isDigitRead_b55 at hJ
    refine lv_iconst (v := (0 : Int32)) hx hb dX8_isDigitRead_55 (by decide) ?_
    obtain ⟨h01, hJ⟩ := chz_ok hJ
    have hJ := Option.some.inj hJ
    obtain ⟨e0, e1, e2⟩ : ((0 : Int32)) = r ∧ (t_at) = o_t_at ∧ (t_number) = o_t_number := ⟨congrArg (fun z => z.1) hJ, congrArg (fun z => z.2.1) hJ, congrArg (fun z => z.2.2) hJ⟩
    exact hRet (by rw [← e1, ← e2]; exact hP) (by rw [← e1, ← e2]; exact hD) hS h01 e0 dX8_isDigitRead_56
  unfold J_X8_isDigitRead at hJ
  refine lv_aload_n hx hb dX8_isDigitRead_0 rfl (lv_at hl 0 rfl) ?_
  refine va_get (ci := 6) (v := .int t_at) (C := RX8) (T := TX8) (N := 8) hx hb hts hin_X8 hown hK hP 0 rfl rfl 2 (by decide) fl_19 (fun _ h9 => h9) rfl dX8_isDigitRead_1 ?_
  refine jif_lt (tgt := 55) hx hb dX8_isDigitRead_4 (by decide) hJ (fun hJ => ?_) (fun hJ => ?_)
  · exact B55  t_at t_number  s.heap []  hP hD hS _ (lv_sub hl [] rfl) hJ
  · refine lv_aload_n hx hb dX8_isDigitRead_7 rfl (lv_at hl 0 rfl) ?_
    refine va_get (ci := 6) (v := .int t_at) (C := RX8) (T := TX8) (N := 8) hx hb hts hin_X8 hown hK hP 0 rfl rfl 2 (by decide) fl_19 (fun _ h9 => h9) rfl dX8_isDigitRead_8 ?_
    refine lv_aload_n hx hb dX8_isDigitRead_11 rfl (lv_at hl 0 rfl) ?_
    refine va_get (ci := 6) (v := .int t_length) (C := RX8) (T := TX8) (N := 8) hx hb hts hin_X8 hown hK hP 0 rfl rfl 1 (by decide) fl_15 (fun _ h9 => h9) rfl dX8_isDigitRead_12 ?_
    refine jif_icmp_ge (tgt := 55) hx hb dX8_isDigitRead_15 (by decide) hJ (fun hJ => ?_) (fun hJ => ?_)
    · exact B55  t_at t_number  s.heap []  hP hD hS _ (lv_sub hl [] rfl) hJ
    · refine lv_aload_n hx hb dX8_isDigitRead_18 rfl (lv_at hl 0 rfl) ?_
      refine va_get (ci := 6) (v := .int t_at) (C := RX8) (T := TX8) (N := 8) hx hb hts hin_X8 hown hK hP 0 rfl rfl 2 (by decide) fl_19 (fun _ h9 => h9) rfl dX8_isDigitRead_19 ?_
      refine lv_bipush (v := (60 : Int32)) hx hb dX8_isDigitRead_22 (by decide) ?_
      refine jif_icmp_ge (tgt := 55) hx hb dX8_isDigitRead_24 (by decide) hJ (fun hJ => ?_) (fun hJ => ?_)
      · exact B55  t_at t_number  s.heap []  hP hD hS _ (lv_sub hl [] rfl) hJ
      · refine lv_aload_n hx hb dX8_isDigitRead_27 rfl (lv_at hl 0 rfl) ?_
        refine va_get (ci := 6) (v := .ref q_t_signs) (C := RX8) (T := TX8) (N := 8) hx hb hts hin_X8 hown hK hP 0 rfl rfl 0 (by decide) fl_9 (fun _ h9 => h9) rfl dX8_isDigitRead_28 ?_
        refine lv_aload_n hx hb dX8_isDigitRead_31 rfl (lv_at hl 0 rfl) ?_
        refine va_get (ci := 6) (v := .int t_at) (C := RX8) (T := TX8) (N := 8) hx hb hts hin_X8 hown hK hP 0 rfl rfl 2 (by decide) fl_19 (fun _ h9 => h9) rfl dX8_isDigitRead_32 ?_
        obtain ⟨hin, hJ⟩ := chk_in hJ
        refine va_cald hx hb hK hP 1 2 rfl rfl hin dX8_isDigitRead_35 ?_
        refine jt_i hJ (fun x35 hJ => ?_)
        refine lv_bipush (v := (48 : Int32)) hx hb dX8_isDigitRead_36 (by decide) ?_
        refine jif_icmp_lt (tgt := 55) hx hb dX8_isDigitRead_38 (by decide) hJ (fun hJ => ?_) (fun hJ => ?_)
        · exact B55  t_at t_number  s.heap []  hP hD hS _ (lv_sub hl [] rfl) hJ
        · refine lv_aload_n hx hb dX8_isDigitRead_41 rfl (lv_at hl 0 rfl) ?_
          refine va_get (ci := 6) (v := .ref q_t_signs) (C := RX8) (T := TX8) (N := 8) hx hb hts hin_X8 hown hK hP 0 rfl rfl 0 (by decide) fl_9 (fun _ h9 => h9) rfl dX8_isDigitRead_42 ?_
          refine lv_aload_n hx hb dX8_isDigitRead_45 rfl (lv_at hl 0 rfl) ?_
          refine va_get (ci := 6) (v := .int t_at) (C := RX8) (T := TX8) (N := 8) hx hb hts hin_X8 hown hK hP 0 rfl rfl 2 (by decide) fl_19 (fun _ h9 => h9) rfl dX8_isDigitRead_46 ?_
          obtain ⟨hin, hJ⟩ := chk_in hJ
          refine va_cald hx hb hK hP 1 2 rfl rfl hin dX8_isDigitRead_49 ?_
          refine jt_i hJ (fun x49 hJ => ?_)
          refine lv_bipush (v := (57 : Int32)) hx hb dX8_isDigitRead_50 (by decide) ?_
          refine jif_icmp_le (tgt := 57) hx hb dX8_isDigitRead_52 (by decide) hJ (fun hJ => ?_) (fun hJ => ?_)
          · refine lv_aload_n hx hb dX8_isDigitRead_57 rfl (lv_at hl 0 rfl) ?_
            refine lv_aload_n hx hb dX8_isDigitRead_58 rfl (lv_at hl 0 rfl) ?_
            refine va_get (ci := 6) (v := .ref q_t_signs) (C := RX8) (T := TX8) (N := 8) hx hb hts hin_X8 hown hK hP 0 rfl rfl 0 (by decide) fl_9 (fun _ h9 => h9) rfl dX8_isDigitRead_59 ?_
            refine lv_aload_n hx hb dX8_isDigitRead_62 rfl (lv_at hl 0 rfl) ?_
            refine va_get (ci := 6) (v := .int t_at) (C := RX8) (T := TX8) (N := 8) hx hb hts hin_X8 hown hK hP 0 rfl rfl 2 (by decide) fl_19 (fun _ h9 => h9) rfl dX8_isDigitRead_63 ?_
            obtain ⟨hin, hJ⟩ := chk_in hJ
            refine va_cald hx hb hK hP 1 2 rfl rfl hin dX8_isDigitRead_66 ?_
            refine jt_i hJ (fun x66 hJ => ?_)
            refine lv_bipush (v := (48 : Int32)) hx hb dX8_isDigitRead_67 (by decide) ?_
            refine lv_isub hx hb dX8_isDigitRead_69 ?_
            refine jt_i hJ (fun x69 hJ => ?_)
            refine va_put (ci := 6) (v := .int x69) (ty := .int) (C := RX8) (T := TX8) (N := 8) hx hb hts hin_X8 tyX8 tyX8_ok nmX8 hown hK hP hD hS 0 rfl rfl 7 (by decide) fl_77 (fun _ h9 => h9) rfl (by decide +kernel) rfl rfl (Nat.le_of_ble_eq_true rfl) dX8_isDigitRead_70 (fun H locs hP hD hS => ?_)
            have hP : va_P D vwCl [(q_t, .inr (6, [.ref q_t_signs, .int t_length, .int t_at, .int t_word, .int t_first, .int t_second, .int t_third, .int x69])), (q_t_signs, .inl (cC, 60, .inl t_signs))] H := hP
            have hD : va_D A [(q_t, .inr (6, [.ref q_t_signs, .int t_length, .int t_at, .int t_word, .int t_first, .int t_second, .int t_third, .int x69])), (q_t_signs, .inl (cC, 60, .inl t_signs))] := hD
            refine lv_aload_n hx hb dX8_isDigitRead_73 rfl (lv_at hl 0 rfl) ?_
            refine lv_dup hx hb dX8_isDigitRead_74 rfl ?_
            refine va_get (ci := 6) (v := .int t_at) (C := RX8) (T := TX8) (N := 8) hx hb hts hin_X8 hown hK hP 0 rfl rfl 2 (by decide) fl_19 (fun _ h9 => h9) rfl dX8_isDigitRead_75 ?_
            refine lv_iconst (v := (1 : Int32)) hx hb dX8_isDigitRead_78 (by decide) ?_
            refine lv_iadd hx hb dX8_isDigitRead_79 ?_
            refine jt_i hJ (fun x79 hJ => ?_)
            refine va_put (ci := 6) (v := .int x79) (ty := .int) (C := RX8) (T := TX8) (N := 8) hx hb hts hin_X8 tyX8 tyX8_ok nmX8 hown hK hP hD hS 0 rfl rfl 2 (by decide) fl_19 (fun _ h9 => h9) rfl (by decide +kernel) rfl rfl (Nat.le_of_ble_eq_true rfl) dX8_isDigitRead_80 (fun H locs hP hD hS => ?_)
            have hP : va_P D vwCl [(q_t, .inr (6, [.ref q_t_signs, .int t_length, .int x79, .int t_word, .int t_first, .int t_second, .int t_third, .int x69])), (q_t_signs, .inl (cC, 60, .inl t_signs))] H := hP
            have hD : va_D A [(q_t, .inr (6, [.ref q_t_signs, .int t_length, .int x79, .int t_word, .int t_first, .int t_second, .int t_third, .int x69])), (q_t_signs, .inl (cC, 60, .inl t_signs))] := hD
            refine lv_iconst (v := (1 : Int32)) hx hb dX8_isDigitRead_83 (by decide) ?_
            obtain ⟨h01, hJ⟩ := chz_ok hJ
            have hJ := Option.some.inj hJ
            obtain ⟨e0, e1, e2⟩ : ((1 : Int32)) = r ∧ (x79) = o_t_at ∧ (x69) = o_t_number := ⟨congrArg (fun z => z.1) hJ, congrArg (fun z => z.2.1) hJ, congrArg (fun z => z.2.2) hJ⟩
            exact hRet (by rw [← e1, ← e2]; exact hP) (by rw [← e1, ← e2]; exact hD) hS h01 e0 dX8_isDigitRead_84
          · exact B55  t_at t_number  s.heap []  hP hD hS _ (lv_sub hl [] rfl) hJ

def J_X8_areDigitsRead_b34 (t_length : Int32) (t_signs : Nat → Int32) (t_at : Int32) (t_number : Int32) : Option (Int32 × Int32 × Int32) :=
    chz (1 : Int32) (some ((1 : Int32), t_at, t_number))
def J_X8_areDigitsRead (t_length : Int32) (t_at : Int32) (t_number : Int32) (t_signs : Nat → Int32) : Option (Int32 × Int32 × Int32) :=
    bnd3 (J_X8_isDigitRead t_length t_at t_number t_signs) fun x1 t_at_1 t_number_1 =>
    if x1 = 0 then (
    chz (0 : Int32) (some ((0 : Int32), t_at_1, t_number_1)))
    else (
    bnd3 (J_X8_isDigitRead t_length t_at_1 t_number_1 t_signs) fun x15 t_at_15 t_number_15 =>
    if x15 = 0 then (
    J_X8_areDigitsRead_b34 t_length t_signs t_at_15 t_number_15)
    else (
    nm (t_number_15 + ((10 : Int32) * t_number_1)) fun x30 =>
    J_X8_areDigitsRead_b34 t_length t_signs t_at_15 x30))
abbrev rmX8_areDigitsRead : Room := { frames := 1, cells := 0, slots := 0, locals := 20 }
set_option maxHeartbeats 4000000 in
set_option maxRecDepth 100000 in
theorem c_X8_areDigitsRead (l : Launch) (D : va_G) (cI cJ cC cL : ClassId) (q_t q_t_signs : Nat) (t_length : Int32) (t_at : Int32) (t_word : Int32) (t_first : Int32) (t_second : Int32) (t_third : Int32) (t_number : Int32) (t_signs : Nat → Int32) (r : Int32) (o_t_at : Int32) (o_t_number : Int32) (hJ : J_X8_areDigitsRead t_length t_at t_number t_signs = some (r, o_t_at, o_t_number)) (sz : Nat) : Met l yX8_areDigitsRead wsX8_areDigitsRead rmX8_areDigitsRead (va_Pc [.ref q_t] (jpre XT D (tyL cI cJ cC cL) [(q_t, .inr (6, [.ref q_t_signs, .int t_length, .int t_at, .int t_word, .int t_first, .int t_second, .int t_third, .int t_number])), (q_t_signs, .inl (cC, 60, .inl t_signs))] sz)) (va_Qi (fun r' (_ : Unit) => r' = r) (fun _ t => jpost D (tyL cI cJ cC cL) (va_A [(q_t, .inr (6, [.ref q_t_signs, .int t_length, .int t_at, .int t_word, .int t_first, .int t_second, .int t_third, .int t_number])), (q_t_signs, .inl (cC, 60, .inl t_signs))] sz) [(q_t, .inr (6, [.ref q_t_signs, .int t_length, .int o_t_at, .int t_word, .int t_first, .int t_second, .int t_third, .int o_t_number])), (q_t_signs, .inl (cC, 60, .inl t_signs))] t) (va_A [(q_t, .inr (6, [.ref q_t_signs, .int t_length, .int t_at, .int t_word, .int t_first, .int t_second, .int t_third, .int t_number])), (q_t_signs, .inl (cC, 60, .inl t_signs))] sz)) 0 0 (va_A [(q_t, .inr (6, [.ref q_t_signs, .int t_length, .int t_at, .int t_word, .int t_first, .int t_second, .int t_third, .int t_number])), (q_t_signs, .inl (cC, 60, .inl t_signs))] sz) := by
  refine jE_z (cc := cX8_areDigitsRead) (maxL := 2) (own := RX8) (ret := (some .boolean)) (lv0 := [(0, .ref q_t)]) (by decide) rfl rfl rfl (Nat.le_of_ble_eq_true rfl) rfl ?_
  intro p e s m args below meth c A Q ls hx hb hml hown hts hK hN hX hA hP hD hS hl hRet
  have hF : CallFix p m c cX8_areDigitsRead 2 s args wsX8_areDigitsRead RX8 := ⟨hx, hb, hml, hown, hts⟩
  have fl_77 := hts (.fieldLink RX8 77 "LanternLogic$Text" "number" "I") (by decide +kernel)
  have hin_X8 : ∀ w ∈ u_ws RX8 TX8 8, w ∈ wsX8_areDigitsRead := by decide +kernel
  have B34 : ∀ (t_at : Int32) (t_number : Int32) (H : Heap) (locs : List Loc), va_P D vwCl [(q_t, .inr (6, [.ref q_t_signs, .int t_length, .int t_at, .int t_word, .int t_first, .int t_second, .int t_third, .int t_number])), (q_t_signs, .inl (cC, 60, .inl t_signs))] H → va_D A [(q_t, .inr (6, [.ref q_t_signs, .int t_length, .int t_at, .int t_word, .int t_first, .int t_second, .int t_third, .int t_number])), (q_t_signs, .inl (cC, 60, .inl t_signs))] → va_S A s.heap H locs → ∀ ls : Array Slot, lv_has ls 2 [] → J_X8_areDigitsRead_b34  t_length t_signs t_at t_number = some (r, o_t_at, o_t_number) → W p l e rmX8_areDigitsRead s m args below meth c H locs 0 0 Q (F0 m 34 ls []) := by
    intro t_at t_number H locs hP hD hS ls hl hJ
    unfold J_X8_areDigitsRead_b34 at hJ
    refine lv_iconst (v := (1 : Int32)) hx hb dX8_areDigitsRead_34 (by decide) ?_
    obtain ⟨h01, hJ⟩ := chz_ok hJ
    have hJ := Option.some.inj hJ
    obtain ⟨e0, e1, e2⟩ : ((1 : Int32)) = r ∧ (t_at) = o_t_at ∧ (t_number) = o_t_number := ⟨congrArg (fun z => z.1) hJ, congrArg (fun z => z.2.1) hJ, congrArg (fun z => z.2.2) hJ⟩
    exact hRet (by rw [← e1, ← e2]; exact hP) (by rw [← e1, ← e2]; exact hD) hS h01 e0 dX8_areDigitsRead_35
  unfold J_X8_areDigitsRead at hJ
  refine lv_aload_n hx hb dX8_areDigitsRead_0 rfl (lv_at hl 0 rfl) ?_
  obtain ⟨x1, t_at_1, t_number_1, hc1, hJ⟩ := bnd3_some hJ
  refine jcV_i (C := RX8) (T := TX8) (N := 8) (ci := 6) (q0 := 0) (As := []) (rest := []) (isC := [0, 1]) (isR := []) (isB := [0, 1]) (wr := []) (ws2 := [(q_t, .inr (6, [.ref q_t_signs, .int t_length, .int t_at_1, .int t_word, .int t_first, .int t_second, .int t_third, .int t_number_1])), (q_t_signs, .inl (cC, 60, .inl t_signs))]) hF (c_X8_isDigitRead l D cI cJ cC cL q_t q_t_signs t_length t_at t_word t_first t_second t_third t_number t_signs x1 t_at_1 t_number_1 hc1 s.heap.size) (cwV 0 hts gX8_areDigitsRead_X8_isDigitRead rfl rfl rfl (by decide +kernel) ⟨Nat.le_of_ble_eq_true rfl, Nat.le_of_ble_eq_true rfl⟩) rfl hl rfl (Nat.le_of_ble_eq_true rfl) dX8_areDigitsRead_1 ⟨Nat.zero_le _, Nat.zero_le _⟩ hK hN KX_T trivial hP hD hS hA rfl rfl rfl rfl rfl rfl (by decide) rfl rfl (fun H locs hP hD hS => ?_)
  refine jif_ne (tgt := 9) hx hb dX8_areDigitsRead_4 (by decide) hJ (fun hJ => ?_) (fun hJ => ?_)
  · refine lv_aload_n hx hb dX8_areDigitsRead_9 rfl (lv_at hl 0 rfl) ?_
    refine va_get (ci := 6) (v := .int t_number_1) (C := RX8) (T := TX8) (N := 8) hx hb hts hin_X8 hown hK hP 0 rfl rfl 7 (by decide) fl_77 (fun _ h9 => h9) rfl dX8_areDigitsRead_10 ?_
    refine lv_istore_n (lv' := [(1, .int t_number_1), (0, .ref q_t)]) hx hb dX8_areDigitsRead_13 rfl hl (by decide) rfl (fun ls hl => ?_)
    refine lv_aload_n hx hb dX8_areDigitsRead_14 rfl (lv_at hl 1 rfl) ?_
    obtain ⟨x15, t_at_15, t_number_15, hc15, hJ⟩ := bnd3_some hJ
    refine jcV_i (C := RX8) (T := TX8) (N := 8) (ci := 6) (q0 := 0) (As := []) (rest := []) (isC := [0, 1]) (isR := []) (isB := [0, 1]) (wr := []) (ws2 := [(q_t, .inr (6, [.ref q_t_signs, .int t_length, .int t_at_15, .int t_word, .int t_first, .int t_second, .int t_third, .int t_number_15])), (q_t_signs, .inl (cC, 60, .inl t_signs))]) hF (c_X8_isDigitRead l D cI cJ cC cL q_t q_t_signs t_length t_at_1 t_word t_first t_second t_third t_number_1 t_signs x15 t_at_15 t_number_15 hc15 H.size) (cwV 0 hts gX8_areDigitsRead_X8_isDigitRead rfl rfl rfl (by decide +kernel) ⟨Nat.le_of_ble_eq_true rfl, Nat.le_of_ble_eq_true rfl⟩) rfl hl rfl (Nat.le_of_ble_eq_true rfl) dX8_areDigitsRead_15 ⟨Nat.zero_le _, Nat.zero_le _⟩ hK hN KX_T trivial hP hD hS hA rfl rfl rfl rfl rfl rfl (by decide) rfl rfl (fun H locs hP hD hS => ?_)
    refine jif_eq (tgt := 34) hx hb dX8_areDigitsRead_18 (by decide) hJ (fun hJ => ?_) (fun hJ => ?_)
    · exact B34  t_at_15 t_number_15  H locs  hP hD hS _ (lv_sub hl [] rfl) hJ
    · refine lv_aload_n hx hb dX8_areDigitsRead_21 rfl (lv_at hl 1 rfl) ?_
      refine lv_dup hx hb dX8_areDigitsRead_22 rfl ?_
      refine va_get (ci := 6) (v := .int t_number_15) (C := RX8) (T := TX8) (N := 8) hx hb hts hin_X8 hown hK hP 0 rfl rfl 7 (by decide) fl_77 (fun _ h9 => h9) rfl dX8_areDigitsRead_23 ?_
      refine lv_bipush (v := (10 : Int32)) hx hb dX8_areDigitsRead_26 (by decide) ?_
      refine lv_iload_n hx hb dX8_areDigitsRead_28 rfl (lv_at hl 0 rfl) ?_
      refine lv_imul hx hb dX8_areDigitsRead_29 ?_
      refine lv_iadd hx hb dX8_areDigitsRead_30 ?_
      refine jt_i hJ (fun x30 hJ => ?_)
      refine va_put (ci := 6) (v := .int x30) (ty := .int) (C := RX8) (T := TX8) (N := 8) hx hb hts hin_X8 tyX8 tyX8_ok nmX8 hown hK hP hD hS 0 rfl rfl 7 (by decide) fl_77 (fun _ h9 => h9) rfl (by decide +kernel) rfl rfl (Nat.le_of_ble_eq_true rfl) dX8_areDigitsRead_31 (fun H locs hP hD hS => ?_)
      have hP : va_P D vwCl [(q_t, .inr (6, [.ref q_t_signs, .int t_length, .int t_at_15, .int t_word, .int t_first, .int t_second, .int t_third, .int x30])), (q_t_signs, .inl (cC, 60, .inl t_signs))] H := hP
      have hD : va_D A [(q_t, .inr (6, [.ref q_t_signs, .int t_length, .int t_at_15, .int t_word, .int t_first, .int t_second, .int t_third, .int x30])), (q_t_signs, .inl (cC, 60, .inl t_signs))] := hD
      exact B34  t_at_15 x30  H locs  hP hD hS _ (lv_sub hl [] rfl) hJ
  · refine lv_iconst (v := (0 : Int32)) hx hb dX8_areDigitsRead_7 (by decide) ?_
    obtain ⟨h01, hJ⟩ := chz_ok hJ
    have hJ := Option.some.inj hJ
    obtain ⟨e0, e1, e2⟩ : ((0 : Int32)) = r ∧ (t_at_1) = o_t_at ∧ (t_number_1) = o_t_number := ⟨congrArg (fun z => z.1) hJ, congrArg (fun z => z.2.1) hJ, congrArg (fun z => z.2.2) hJ⟩
    exact hRet (by rw [← e1, ← e2]; exact hP) (by rw [← e1, ← e2]; exact hD) hS h01 e0 dX8_areDigitsRead_8

def J_X0_ownDepth_b19 (a0_count : Int32) (a0_kinds : Nat → Int32) (a0_wicks : Nat → Int32) (v1 : Int32) (v2 : Int32) (s19_0 : Int32) : Option (Int32) :=
    some (s19_0)
def J_X0_ownDepth (a0_count : Int32) (a0_kinds : Nat → Int32) (a0_wicks : Nat → Int32) (v1 : Int32) (v2 : Int32) : Option (Int32) :=
    bnd1 (J_X2_isSwitch a0_count a0_kinds v1) fun x2 =>
    if x2 = 0 then (
    bnd1 (J_X2_wickOf a0_count a0_wicks v1) fun x15 =>
    nm (v2 + x15) fun x18 =>
    J_X0_ownDepth_b19 a0_count a0_kinds a0_wicks v1 v2 x18)
    else (
    J_X0_ownDepth_b19 a0_count a0_kinds a0_wicks v1 v2 (0 : Int32))
abbrev rmX0_ownDepth : Room := { frames := 2, cells := 0, slots := 0, locals := 42 }
set_option maxHeartbeats 4000000 in
set_option maxRecDepth 100000 in
theorem c_X0_ownDepth (l : Launch) (D : va_G) (cI cJ cC cL : ClassId) (q_a0 q_a0_kinds q_a0_wicks q_a0_sources q_a0_changes : Nat) (a0_count : Int32) (a0_state : Int64) (a0_areLoopsAllowed : Int32) (a0_ticks : Int32) (a0_tickChanges : Int32) (a0_sets : Int32) (a0_kinds : Nat → Int32) (a0_wicks : Nat → Int32) (v1 : Int32) (v2 : Int32) (r : Int32) (hJ : J_X0_ownDepth a0_count a0_kinds a0_wicks v1 v2 = some (r)) (sz : Nat) : Met l yX0_ownDepth wsX0_ownDepth rmX0_ownDepth (va_Pc [.ref q_a0, .int v1, .int v2] (jpre XT D (tyL cI cJ cC cL) [(q_a0, .inr (2, [.int a0_count, .ref q_a0_kinds, .ref q_a0_wicks, .ref q_a0_sources, .ref q_a0_changes, .long a0_state, .int a0_areLoopsAllowed, .int a0_ticks, .int a0_tickChanges, .int a0_sets])), (q_a0_kinds, .inl (cI, 16, .inl a0_kinds)), (q_a0_wicks, .inl (cI, 16, .inl a0_wicks))] sz)) (va_Qi (fun r' (_ : Unit) => r' = r) (fun _ t => jpost D (tyL cI cJ cC cL) (va_A [(q_a0, .inr (2, [.int a0_count, .ref q_a0_kinds, .ref q_a0_wicks, .ref q_a0_sources, .ref q_a0_changes, .long a0_state, .int a0_areLoopsAllowed, .int a0_ticks, .int a0_tickChanges, .int a0_sets])), (q_a0_kinds, .inl (cI, 16, .inl a0_kinds)), (q_a0_wicks, .inl (cI, 16, .inl a0_wicks))] sz) [(q_a0, .inr (2, [.int a0_count, .ref q_a0_kinds, .ref q_a0_wicks, .ref q_a0_sources, .ref q_a0_changes, .long a0_state, .int a0_areLoopsAllowed, .int a0_ticks, .int a0_tickChanges, .int a0_sets])), (q_a0_kinds, .inl (cI, 16, .inl a0_kinds)), (q_a0_wicks, .inl (cI, 16, .inl a0_wicks))] t) (va_A [(q_a0, .inr (2, [.int a0_count, .ref q_a0_kinds, .ref q_a0_wicks, .ref q_a0_sources, .ref q_a0_changes, .long a0_state, .int a0_areLoopsAllowed, .int a0_ticks, .int a0_tickChanges, .int a0_sets])), (q_a0_kinds, .inl (cI, 16, .inl a0_kinds)), (q_a0_wicks, .inl (cI, 16, .inl a0_wicks))] sz)) 0 0 (va_A [(q_a0, .inr (2, [.int a0_count, .ref q_a0_kinds, .ref q_a0_wicks, .ref q_a0_sources, .ref q_a0_changes, .long a0_state, .int a0_areLoopsAllowed, .int a0_ticks, .int a0_tickChanges, .int a0_sets])), (q_a0_kinds, .inl (cI, 16, .inl a0_kinds)), (q_a0_wicks, .inl (cI, 16, .inl a0_wicks))] sz) := by
  refine jE_i (cc := cX0_ownDepth) (maxL := 3) (own := RX0) (ret := (some .int)) (lv0 := [(0, .ref q_a0), (1, .int v1), (2, .int v2)]) (by decide) rfl rfl rfl (Nat.le_of_ble_eq_true rfl) rfl ?_
  intro p e s m args below meth c A Q ls hx hb hml hown hts hK hN hX hA hP hD hS hl hRet
  have hF : CallFix p m c cX0_ownDepth 3 s args wsX0_ownDepth RX0 := ⟨hx, hb, hml, hown, hts⟩
  have B19 : ∀ (s19_0 : Int32) (H : Heap) (locs : List Loc), va_P D vwCl [(q_a0, .inr (2, [.int a0_count, .ref q_a0_kinds, .ref q_a0_wicks, .ref q_a0_sources, .ref q_a0_changes, .long a0_state, .int a0_areLoopsAllowed, .int a0_ticks, .int a0_tickChanges, .int a0_sets])), (q_a0_kinds, .inl (cI, 16, .inl a0_kinds)), (q_a0_wicks, .inl (cI, 16, .inl a0_wicks))] H → va_D A [(q_a0, .inr (2, [.int a0_count, .ref q_a0_kinds, .ref q_a0_wicks, .ref q_a0_sources, .ref q_a0_changes, .long a0_state, .int a0_areLoopsAllowed, .int a0_ticks, .int a0_tickChanges, .int a0_sets])), (q_a0_kinds, .inl (cI, 16, .inl a0_kinds)), (q_a0_wicks, .inl (cI, 16, .inl a0_wicks))] → va_S A s.heap H locs → ∀ ls : Array Slot, lv_has ls 3 [] → J_X0_ownDepth_b19  a0_count a0_kinds a0_wicks v1 v2 s19_0 = some (r) → W p l e rmX0_ownDepth s m args below meth c H locs 0 0 Q (F0 m 19 ls [.int s19_0]) := by
    intro s19_0 H locs hP hD hS ls hl hJ
    unfold J_X0_ownDepth_b19 at hJ
    have e0 := Option.some.inj hJ
    exact hRet hP hD hS e0 dX0_ownDepth_19
  unfold J_X0_ownDepth at hJ
  refine lv_aload_n hx hb dX0_ownDepth_0 rfl (lv_at hl 0 rfl) ?_
  refine lv_iload_n hx hb dX0_ownDepth_1 rfl (lv_at hl 1 rfl) ?_
  obtain ⟨x2, hc2, hJ⟩ := bnd1_some hJ
  refine jcV_i (C := RX2) (T := TX2) (N := 10) (ci := 2) (q0 := 0) (As := [.int v1]) (rest := []) (isC := [0, 1]) (isR := [2]) (isB := [1, 2, 0]) (wr := [(q_a0_wicks, .inl (cI, 16, .inl a0_wicks))]) (ws2 := [(q_a0, .inr (2, [.int a0_count, .ref q_a0_kinds, .ref q_a0_wicks, .ref q_a0_sources, .ref q_a0_changes, .long a0_state, .int a0_areLoopsAllowed, .int a0_ticks, .int a0_tickChanges, .int a0_sets])), (q_a0_kinds, .inl (cI, 16, .inl a0_kinds)), (q_a0_wicks, .inl (cI, 16, .inl a0_wicks))]) hF (c_X2_isSwitch l D cI cJ cC cL q_a0 q_a0_kinds q_a0_wicks q_a0_sources q_a0_changes a0_count a0_state a0_areLoopsAllowed a0_ticks a0_tickChanges a0_sets a0_kinds v1 x2 hc2 s.heap.size) (cwV 1 hts gX0_ownDepth_X2_isSwitch rfl rfl rfl (by decide +kernel) ⟨Nat.le_of_ble_eq_true rfl, Nat.le_of_ble_eq_true rfl⟩) rfl hl rfl (Nat.le_of_ble_eq_true rfl) dX0_ownDepth_2 ⟨Nat.zero_le _, Nat.zero_le _⟩ hK hN KX_T trivial hP hD hS hA rfl rfl rfl rfl rfl rfl (by decide) rfl rfl (fun H locs hP hD hS => ?_)
  refine jif_eq (tgt := 12) hx hb dX0_ownDepth_5 (by decide) hJ (fun hJ => ?_) (fun hJ => ?_)
  · refine lv_iload_n hx hb dX0_ownDepth_12 rfl (lv_at hl 2 rfl) ?_
    refine lv_aload_n hx hb dX0_ownDepth_13 rfl (lv_at hl 0 rfl) ?_
    refine lv_iload_n hx hb dX0_ownDepth_14 rfl (lv_at hl 1 rfl) ?_
    obtain ⟨x15, hc15, hJ⟩ := bnd1_some hJ
    refine jcV_i (C := RX2) (T := TX2) (N := 10) (ci := 2) (q0 := 0) (As := [.int v1]) (rest := [.int v2]) (isC := [0, 2]) (isR := [1]) (isB := [1, 0, 2]) (wr := [(q_a0_kinds, .inl (cI, 16, .inl a0_kinds))]) (ws2 := [(q_a0, .inr (2, [.int a0_count, .ref q_a0_kinds, .ref q_a0_wicks, .ref q_a0_sources, .ref q_a0_changes, .long a0_state, .int a0_areLoopsAllowed, .int a0_ticks, .int a0_tickChanges, .int a0_sets])), (q_a0_kinds, .inl (cI, 16, .inl a0_kinds)), (q_a0_wicks, .inl (cI, 16, .inl a0_wicks))]) hF (c_X2_wickOf l D cI cJ cC cL q_a0 q_a0_kinds q_a0_wicks q_a0_sources q_a0_changes a0_count a0_state a0_areLoopsAllowed a0_ticks a0_tickChanges a0_sets a0_wicks v1 x15 hc15 H.size) (cwV 1 hts gX0_ownDepth_X2_wickOf rfl rfl rfl (by decide +kernel) ⟨Nat.le_of_ble_eq_true rfl, Nat.le_of_ble_eq_true rfl⟩) rfl hl rfl (Nat.le_of_ble_eq_true rfl) dX0_ownDepth_15 ⟨Nat.zero_le _, Nat.zero_le _⟩ hK hN KX_T trivial hP hD hS hA rfl rfl rfl rfl rfl rfl (by decide) rfl rfl (fun H locs hP hD hS => ?_)
    refine lv_iadd hx hb dX0_ownDepth_18 ?_
    refine jt_i hJ (fun x18 hJ => ?_)
    exact B19  x18  H locs  hP hD hS _ (lv_sub hl [] rfl) hJ
  · refine lv_iconst (v := (0 : Int32)) hx hb dX0_ownDepth_8 (by decide) ?_
    refine lv_goto (tgt := 19) hx hb dX0_ownDepth_9 (by decide) ?_
    exact B19  (0 : Int32)  H locs  hP hD hS _ (lv_sub hl [] rfl) hJ

def J_X0_deepestSource_b54 (k5 : Int32 → Int32 → Option (Int32)) (t_known : Nat → Int32) (a1_count : Int32) (a1_sources : Nat → Int32) (v2 : Int32) (v3 : Int32) (v4 : Int32) : Option (Int32) :=
    nm (v4 + Int32.ofInt 1) fun x54 =>
    k5 v3 x54
def J_X0_deepestSource_L5 (t_known : Nat → Int32) (a1_count : Int32) (a1_sources : Nat → Int32) (v2 : Int32) : Nat → Int32 → Int32 → Option (Int32)
  | 0, _, _ => none
  | nf + 1, v3, v4 =>
    if (3 : Int32) ≤ v4 then (
    some (v3))
    else (
    bnd1 (J_X2_sourceOf a1_sources v2 v4) fun x15 =>
    bnd1 (J_X2_isHung a1_count x15) fun x23 =>
    if x23 = 0 then (
    J_X0_deepestSource_b54 (fun z0 z1 => J_X0_deepestSource_L5 t_known a1_count a1_sources v2 nf z0 z1) t_known a1_count a1_sources v2 v3 v4)
    else (
    chk x15 16 (
    nm (t_known x15.toNatClampNeg) fun x35 =>
    if x35 = (-1 : Int32) then (
    some ((-1 : Int32)))
    else (
    chk x15 16 (
    nm (t_known x15.toNatClampNeg) fun x49 =>
    nm (if v3 < x49 then x49 else v3) fun x50 =>
    J_X0_deepestSource_b54 (fun z0 z1 => J_X0_deepestSource_L5 t_known a1_count a1_sources v2 nf z0 z1) t_known a1_count a1_sources v2 x50 v4)))))
def J_X0_deepestSource (t_known : Nat → Int32) (a1_count : Int32) (a1_sources : Nat → Int32) (v2 : Int32) : Option (Int32) :=
    J_X0_deepestSource_L5 t_known a1_count a1_sources v2 FU (0 : Int32) (0 : Int32)
abbrev rmX0_deepestSource : Room := { frames := 1, cells := 0, slots := 0, locals := 23 }
set_option maxHeartbeats 4000000 in
set_option maxRecDepth 100000 in
theorem c_X0_deepestSource (l : Launch) (D : va_G) (cI cJ cC cL : ClassId) (q_t q_t_known q_a1 q_a1_kinds q_a1_wicks q_a1_sources q_a1_changes : Nat) (t_known : Nat → Int32) (a1_count : Int32) (a1_state : Int64) (a1_areLoopsAllowed : Int32) (a1_ticks : Int32) (a1_tickChanges : Int32) (a1_sets : Int32) (a1_sources : Nat → Int32) (v2 : Int32) (r : Int32) (hJ : J_X0_deepestSource t_known a1_count a1_sources v2 = some (r)) (sz : Nat) : Met l yX0_deepestSource wsX0_deepestSource rmX0_deepestSource (va_Pc [.ref q_t, .ref q_a1, .int v2] (jpre XT D (tyL cI cJ cC cL) [(q_t, .inr (0, [.ref q_t_known])), (q_t_known, .inl (cI, 16, .inl t_known)), (q_a1, .inr (2, [.int a1_count, .ref q_a1_kinds, .ref q_a1_wicks, .ref q_a1_sources, .ref q_a1_changes, .long a1_state, .int a1_areLoopsAllowed, .int a1_ticks, .int a1_tickChanges, .int a1_sets])), (q_a1_sources, .inl (cI, 48, .inl a1_sources))] sz)) (va_Qi (fun r' (_ : Unit) => r' = r) (fun _ t => jpost D (tyL cI cJ cC cL) (va_A [(q_t, .inr (0, [.ref q_t_known])), (q_t_known, .inl (cI, 16, .inl t_known)), (q_a1, .inr (2, [.int a1_count, .ref q_a1_kinds, .ref q_a1_wicks, .ref q_a1_sources, .ref q_a1_changes, .long a1_state, .int a1_areLoopsAllowed, .int a1_ticks, .int a1_tickChanges, .int a1_sets])), (q_a1_sources, .inl (cI, 48, .inl a1_sources))] sz) [(q_t, .inr (0, [.ref q_t_known])), (q_t_known, .inl (cI, 16, .inl t_known)), (q_a1, .inr (2, [.int a1_count, .ref q_a1_kinds, .ref q_a1_wicks, .ref q_a1_sources, .ref q_a1_changes, .long a1_state, .int a1_areLoopsAllowed, .int a1_ticks, .int a1_tickChanges, .int a1_sets])), (q_a1_sources, .inl (cI, 48, .inl a1_sources))] t) (va_A [(q_t, .inr (0, [.ref q_t_known])), (q_t_known, .inl (cI, 16, .inl t_known)), (q_a1, .inr (2, [.int a1_count, .ref q_a1_kinds, .ref q_a1_wicks, .ref q_a1_sources, .ref q_a1_changes, .long a1_state, .int a1_areLoopsAllowed, .int a1_ticks, .int a1_tickChanges, .int a1_sets])), (q_a1_sources, .inl (cI, 48, .inl a1_sources))] sz)) 0 0 (va_A [(q_t, .inr (0, [.ref q_t_known])), (q_t_known, .inl (cI, 16, .inl t_known)), (q_a1, .inr (2, [.int a1_count, .ref q_a1_kinds, .ref q_a1_wicks, .ref q_a1_sources, .ref q_a1_changes, .long a1_state, .int a1_areLoopsAllowed, .int a1_ticks, .int a1_tickChanges, .int a1_sets])), (q_a1_sources, .inl (cI, 48, .inl a1_sources))] sz) := by
  refine jE_i (cc := cX0_deepestSource) (maxL := 6) (own := RX0) (ret := (some .int)) (lv0 := [(0, .ref q_t), (1, .ref q_a1), (2, .int v2)]) (by decide) rfl rfl rfl (Nat.le_of_ble_eq_true rfl) rfl ?_
  intro p e s m args below meth c A Q ls hx hb hml hown hts hK hN hX hA hP hD hS hl hRet
  have hF : CallFix p m c cX0_deepestSource 6 s args wsX0_deepestSource RX0 := ⟨hx, hb, hml, hown, hts⟩
  have fl_9 := hts (.fieldLink RX0 9 "LanternLogic$Depths" "known" "[I") (by decide +kernel)
  have hin_X0 : ∀ w ∈ u_ws RX0 TX0 1, w ∈ wsX0_deepestSource := by decide +kernel
  have B54 : ∀ (k5 : Int32 → Int32 → Option (Int32)), (∀ (v3 : Int32) (v4 : Int32) (H : Heap) (locs : List Loc), va_P D vwCl [(q_t, .inr (0, [.ref q_t_known])), (q_t_known, .inl (cI, 16, .inl t_known)), (q_a1, .inr (2, [.int a1_count, .ref q_a1_kinds, .ref q_a1_wicks, .ref q_a1_sources, .ref q_a1_changes, .long a1_state, .int a1_areLoopsAllowed, .int a1_ticks, .int a1_tickChanges, .int a1_sets])), (q_a1_sources, .inl (cI, 48, .inl a1_sources))] H → va_D A [(q_t, .inr (0, [.ref q_t_known])), (q_t_known, .inl (cI, 16, .inl t_known)), (q_a1, .inr (2, [.int a1_count, .ref q_a1_kinds, .ref q_a1_wicks, .ref q_a1_sources, .ref q_a1_changes, .long a1_state, .int a1_areLoopsAllowed, .int a1_ticks, .int a1_tickChanges, .int a1_sets])), (q_a1_sources, .inl (cI, 48, .inl a1_sources))] → va_S A s.heap H locs → ∀ ls : Array Slot, lv_has ls 6 [(0, .ref q_t), (1, .ref q_a1), (2, .int v2), (3, .int v3), (4, .int v4)] → k5 v3 v4 = some (r) → W p l e rmX0_deepestSource s m args below meth c H locs 0 0 Q (F0 m 5 ls [])) → ∀ (v3 : Int32) (v4 : Int32) (H : Heap) (locs : List Loc), va_P D vwCl [(q_t, .inr (0, [.ref q_t_known])), (q_t_known, .inl (cI, 16, .inl t_known)), (q_a1, .inr (2, [.int a1_count, .ref q_a1_kinds, .ref q_a1_wicks, .ref q_a1_sources, .ref q_a1_changes, .long a1_state, .int a1_areLoopsAllowed, .int a1_ticks, .int a1_tickChanges, .int a1_sets])), (q_a1_sources, .inl (cI, 48, .inl a1_sources))] H → va_D A [(q_t, .inr (0, [.ref q_t_known])), (q_t_known, .inl (cI, 16, .inl t_known)), (q_a1, .inr (2, [.int a1_count, .ref q_a1_kinds, .ref q_a1_wicks, .ref q_a1_sources, .ref q_a1_changes, .long a1_state, .int a1_areLoopsAllowed, .int a1_ticks, .int a1_tickChanges, .int a1_sets])), (q_a1_sources, .inl (cI, 48, .inl a1_sources))] → va_S A s.heap H locs → ∀ ls : Array Slot, lv_has ls 6 [(0, .ref q_t), (1, .ref q_a1), (2, .int v2), (3, .int v3), (4, .int v4)] → J_X0_deepestSource_b54 k5 t_known a1_count a1_sources v2 v3 v4 = some (r) → W p l e rmX0_deepestSource s m args below meth c H locs 0 0 Q (F0 m 54 ls []) := by
    intro k5 hk5 v3 v4 H locs hP hD hS ls hl hJ
    unfold J_X0_deepestSource_b54 at hJ
    refine jt_iinc hJ (fun x54 ex54 hJ => ?_)
    refine lv_iinc (v := x54) (lv' := [(4, .int x54), (0, .ref q_t), (1, .ref q_a1), (2, .int v2), (3, .int v3)]) hx hb dX0_deepestSource_54 hl (k := 4) rfl ex54 (by decide) rfl (fun ls hl => ?_)
    refine lv_goto (tgt := 5) hx hb dX0_deepestSource_57 (by decide) ?_
    exact hk5 v3 x54  H locs  hP hD hS _ (lv_sub hl [1, 2, 3, 4, 0] rfl) hJ
  have L5 : ∀ (nf : Nat), ∀ (v3 : Int32) (v4 : Int32) (H : Heap) (locs : List Loc), va_P D vwCl [(q_t, .inr (0, [.ref q_t_known])), (q_t_known, .inl (cI, 16, .inl t_known)), (q_a1, .inr (2, [.int a1_count, .ref q_a1_kinds, .ref q_a1_wicks, .ref q_a1_sources, .ref q_a1_changes, .long a1_state, .int a1_areLoopsAllowed, .int a1_ticks, .int a1_tickChanges, .int a1_sets])), (q_a1_sources, .inl (cI, 48, .inl a1_sources))] H → va_D A [(q_t, .inr (0, [.ref q_t_known])), (q_t_known, .inl (cI, 16, .inl t_known)), (q_a1, .inr (2, [.int a1_count, .ref q_a1_kinds, .ref q_a1_wicks, .ref q_a1_sources, .ref q_a1_changes, .long a1_state, .int a1_areLoopsAllowed, .int a1_ticks, .int a1_tickChanges, .int a1_sets])), (q_a1_sources, .inl (cI, 48, .inl a1_sources))] → va_S A s.heap H locs → ∀ ls : Array Slot, lv_has ls 6 [(0, .ref q_t), (1, .ref q_a1), (2, .int v2), (3, .int v3), (4, .int v4)] → J_X0_deepestSource_L5  t_known a1_count a1_sources v2 nf v3 v4 = some (r) → W p l e rmX0_deepestSource s m args below meth c H locs 0 0 Q (F0 m 5 ls []) := by
    intro nf
    induction nf with
    | zero =>
      intro v3 v4 H locs hP hD hS ls hl hJ
      rw [J_X0_deepestSource_L5] at hJ
      cases hJ
    | succ nf ih =>
      intro v3 v4 H locs hP hD hS ls hl hJ
      rw [J_X0_deepestSource_L5] at hJ
      refine lv_iload hx hb dX0_deepestSource_5 (lv_at hl 4 rfl) ?_
      refine lv_iconst (v := (3 : Int32)) hx hb dX0_deepestSource_7 (by decide) ?_
      refine jif_icmp_ge (tgt := 60) hx hb dX0_deepestSource_8 (by decide) hJ (fun hJ => ?_) (fun hJ => ?_)
      · refine lv_iload_n hx hb dX0_deepestSource_60 rfl (lv_at hl 3 rfl) ?_
        have e0 := Option.some.inj hJ
        exact hRet hP hD hS e0 dX0_deepestSource_61
      · refine lv_aload_n hx hb dX0_deepestSource_11 rfl (lv_at hl 1 rfl) ?_
        refine lv_iload_n hx hb dX0_deepestSource_12 rfl (lv_at hl 2 rfl) ?_
        refine lv_iload hx hb dX0_deepestSource_13 (lv_at hl 4 rfl) ?_
        obtain ⟨x15, hc15, hJ⟩ := bnd1_some hJ
        refine jcV_i (C := RX2) (T := TX2) (N := 10) (ci := 2) (q0 := 0) (As := [.int v2, .int v4]) (rest := []) (isC := [2, 3]) (isR := [0, 1]) (isB := [0, 1, 2, 3]) (wr := [(q_t, .inr (0, [.ref q_t_known])), (q_t_known, .inl (cI, 16, .inl t_known))]) (ws2 := [(q_t, .inr (0, [.ref q_t_known])), (q_t_known, .inl (cI, 16, .inl t_known)), (q_a1, .inr (2, [.int a1_count, .ref q_a1_kinds, .ref q_a1_wicks, .ref q_a1_sources, .ref q_a1_changes, .long a1_state, .int a1_areLoopsAllowed, .int a1_ticks, .int a1_tickChanges, .int a1_sets])), (q_a1_sources, .inl (cI, 48, .inl a1_sources))]) hF (c_X2_sourceOf l D cI cJ cC cL q_a1 q_a1_kinds q_a1_wicks q_a1_sources q_a1_changes a1_count a1_state a1_areLoopsAllowed a1_ticks a1_tickChanges a1_sets a1_sources v2 v4 x15 hc15 H.size) (cwV 2 hts gX0_deepestSource_X2_sourceOf rfl rfl rfl (by decide +kernel) ⟨Nat.le_of_ble_eq_true rfl, Nat.le_of_ble_eq_true rfl⟩) rfl hl rfl (Nat.le_of_ble_eq_true rfl) dX0_deepestSource_15 ⟨Nat.zero_le _, Nat.zero_le _⟩ hK hN KX_T trivial hP hD hS hA rfl rfl rfl rfl rfl rfl (by decide) rfl rfl (fun H locs hP hD hS => ?_)
        refine lv_istore (lv' := [(5, .int x15), (0, .ref q_t), (1, .ref q_a1), (2, .int v2), (3, .int v3), (4, .int v4)]) hx hb dX0_deepestSource_18 hl (by decide) rfl (fun ls hl => ?_)
        refine lv_aload_n hx hb dX0_deepestSource_20 rfl (lv_at hl 2 rfl) ?_
        refine lv_iload hx hb dX0_deepestSource_21 (lv_at hl 0 rfl) ?_
        obtain ⟨x23, hc23, hJ⟩ := bnd1_some hJ
        refine jcV_i (C := RX2) (T := TX2) (N := 10) (ci := 2) (q0 := 0) (As := [.int x15]) (rest := []) (isC := [2]) (isR := [0, 1, 3]) (isB := [0, 1, 3, 2]) (wr := [(q_t, .inr (0, [.ref q_t_known])), (q_t_known, .inl (cI, 16, .inl t_known)), (q_a1_sources, .inl (cI, 48, .inl a1_sources))]) (ws2 := [(q_t, .inr (0, [.ref q_t_known])), (q_t_known, .inl (cI, 16, .inl t_known)), (q_a1, .inr (2, [.int a1_count, .ref q_a1_kinds, .ref q_a1_wicks, .ref q_a1_sources, .ref q_a1_changes, .long a1_state, .int a1_areLoopsAllowed, .int a1_ticks, .int a1_tickChanges, .int a1_sets])), (q_a1_sources, .inl (cI, 48, .inl a1_sources))]) hF (c_X2_isHung l D cI cJ cC cL q_a1 q_a1_kinds q_a1_wicks q_a1_sources q_a1_changes a1_count a1_state a1_areLoopsAllowed a1_ticks a1_tickChanges a1_sets x15 x23 hc23 H.size) (cwV 1 hts gX0_deepestSource_X2_isHung rfl rfl rfl (by decide +kernel) ⟨Nat.le_of_ble_eq_true rfl, Nat.le_of_ble_eq_true rfl⟩) rfl hl rfl (Nat.le_of_ble_eq_true rfl) dX0_deepestSource_23 ⟨Nat.zero_le _, Nat.zero_le _⟩ hK hN KX_T trivial hP hD hS hA rfl rfl rfl rfl rfl rfl (by decide) rfl rfl (fun H locs hP hD hS => ?_)
        refine jif_eq (tgt := 54) hx hb dX0_deepestSource_26 (by decide) hJ (fun hJ => ?_) (fun hJ => ?_)
        · exact B54 (fun z0 z1 => J_X0_deepestSource_L5 t_known a1_count a1_sources v2 nf z0 z1) ih v3 v4  H locs  hP hD hS _ (lv_sub hl [1, 2, 3, 4, 5] rfl) hJ
        · refine lv_aload_n hx hb dX0_deepestSource_29 rfl (lv_at hl 1 rfl) ?_
          refine va_get (ci := 0) (v := .ref q_t_known) (C := RX0) (T := TX0) (N := 1) hx hb hts hin_X0 hown hK hP 0 rfl rfl 0 (by decide) fl_9 (fun _ h9 => h9) rfl dX0_deepestSource_30 ?_
          refine lv_iload hx hb dX0_deepestSource_33 (lv_at hl 0 rfl) ?_
          obtain ⟨hin, hJ⟩ := chk_in hJ
          refine va_iald hx hb hK hP 1 0 rfl rfl hin dX0_deepestSource_35 ?_
          refine jt_i hJ (fun x35 hJ => ?_)
          refine lv_iconst (v := (-1 : Int32)) hx hb dX0_deepestSource_36 (by decide) ?_
          refine jif_icmp_ne (tgt := 42) hx hb dX0_deepestSource_37 (by decide) hJ (fun hJ => ?_) (fun hJ => ?_)
          · refine lv_iload_n hx hb dX0_deepestSource_42 rfl (lv_at hl 4 rfl) ?_
            refine lv_aload_n hx hb dX0_deepestSource_43 rfl (lv_at hl 1 rfl) ?_
            refine va_get (ci := 0) (v := .ref q_t_known) (C := RX0) (T := TX0) (N := 1) hx hb hts hin_X0 hown hK hP 0 rfl rfl 0 (by decide) fl_9 (fun _ h9 => h9) rfl dX0_deepestSource_44 ?_
            refine lv_iload hx hb dX0_deepestSource_47 (lv_at hl 0 rfl) ?_
            obtain ⟨hin, hJ⟩ := chk_in hJ
            refine va_iald hx hb hK hP 1 0 rfl rfl hin dX0_deepestSource_49 ?_
            refine jt_i hJ (fun x49 hJ => ?_)
            refine va_mmax hx hb (hml.trans hl.1.symm) hown (hts (.methodLink RX0 35 Lib.Math.max.name) (by decide +kernel)) (hts (.static Lib.Math.max.name) (by decide +kernel)) (hts (.initialized "java/lang/Math") (by decide +kernel)) (hts (.code Lib.Math.max.name Lib.Math.max.code 2 (some .int)) (by decide +kernel)) (Nat.le_of_ble_eq_true rfl) (Nat.le_of_ble_eq_true rfl) (Nat.zero_le _) (Nat.zero_le _) dX0_deepestSource_50 ?_
            refine jt_i hJ (fun x50 hJ => ?_)
            refine lv_istore_n (lv' := [(3, .int x50), (5, .int x15), (0, .ref q_t), (1, .ref q_a1), (2, .int v2), (4, .int v4)]) hx hb dX0_deepestSource_53 rfl hl (by decide) rfl (fun ls hl => ?_)
            exact B54 (fun z0 z1 => J_X0_deepestSource_L5 t_known a1_count a1_sources v2 nf z0 z1) ih x50 v4  H locs  hP hD hS _ (lv_sub hl [2, 3, 4, 0, 5] rfl) hJ
          · refine lv_iconst (v := (-1 : Int32)) hx hb dX0_deepestSource_40 (by decide) ?_
            have e0 := Option.some.inj hJ
            exact hRet hP hD hS e0 dX0_deepestSource_41
  unfold J_X0_deepestSource at hJ
  refine lv_iconst (v := (0 : Int32)) hx hb dX0_deepestSource_0 (by decide) ?_
  refine lv_istore_n (lv' := [(3, .int (0 : Int32)), (0, .ref q_t), (1, .ref q_a1), (2, .int v2)]) hx hb dX0_deepestSource_1 rfl hl (by decide) rfl (fun ls hl => ?_)
  refine lv_iconst (v := (0 : Int32)) hx hb dX0_deepestSource_2 (by decide) ?_
  refine lv_istore (lv' := [(4, .int (0 : Int32)), (3, .int (0 : Int32)), (0, .ref q_t), (1, .ref q_a1), (2, .int v2)]) hx hb dX0_deepestSource_3 hl (by decide) rfl (fun ls hl => ?_)
  exact L5  FU (0 : Int32) (0 : Int32)  s.heap []  hP hD hS _ (lv_sub hl [2, 3, 4, 1, 0] rfl) hJ

def J_X6_numberAt_b19 (t_count : Int32) (t_numbers : Nat → Int32) (v1 : Int32) (s19_0 : Int32) : Option (Int32) :=
    some (s19_0)
def J_X6_numberAt (t_count : Int32) (t_numbers : Nat → Int32) (v1 : Int32) : Option (Int32) :=
    bnd1 (J_X6_isKept t_count v1) fun x2 =>
    if x2 = 0 then (
    J_X6_numberAt_b19 t_count t_numbers v1 (-15 : Int32))
    else (
    chk v1 3 (
    nm (t_numbers v1.toNatClampNeg) fun x13 =>
    J_X6_numberAt_b19 t_count t_numbers v1 x13))
abbrev rmX6_numberAt : Room := { frames := 1, cells := 0, slots := 0, locals := 21 }
set_option maxHeartbeats 4000000 in
set_option maxRecDepth 100000 in
theorem c_X6_numberAt (l : Launch) (D : va_G) (cI cJ cC cL : ClassId) (q_t q_t_numbers q_t_details : Nat) (t_count : Int32) (t_numbers : Nat → Int32) (v1 : Int32) (r : Int32) (hJ : J_X6_numberAt t_count t_numbers v1 = some (r)) (sz : Nat) : Met l yX6_numberAt wsX6_numberAt rmX6_numberAt (va_Pc [.ref q_t, .int v1] (jpre XT D (tyL cI cJ cC cL) [(q_t, .inr (5, [.ref q_t_numbers, .ref q_t_details, .int t_count])), (q_t_numbers, .inl (cI, 3, .inl t_numbers))] sz)) (va_Qi (fun r' (_ : Unit) => r' = r) (fun _ t => jpost D (tyL cI cJ cC cL) (va_A [(q_t, .inr (5, [.ref q_t_numbers, .ref q_t_details, .int t_count])), (q_t_numbers, .inl (cI, 3, .inl t_numbers))] sz) [(q_t, .inr (5, [.ref q_t_numbers, .ref q_t_details, .int t_count])), (q_t_numbers, .inl (cI, 3, .inl t_numbers))] t) (va_A [(q_t, .inr (5, [.ref q_t_numbers, .ref q_t_details, .int t_count])), (q_t_numbers, .inl (cI, 3, .inl t_numbers))] sz)) 0 0 (va_A [(q_t, .inr (5, [.ref q_t_numbers, .ref q_t_details, .int t_count])), (q_t_numbers, .inl (cI, 3, .inl t_numbers))] sz) := by
  refine jE_i (cc := cX6_numberAt) (maxL := 2) (own := RX6) (ret := (some .int)) (lv0 := [(0, .ref q_t), (1, .int v1)]) (by decide) rfl rfl rfl (Nat.le_of_ble_eq_true rfl) rfl ?_
  intro p e s m args below meth c A Q ls hx hb hml hown hts hK hN hX hA hP hD hS hl hRet
  have hF : CallFix p m c cX6_numberAt 2 s args wsX6_numberAt RX6 := ⟨hx, hb, hml, hown, hts⟩
  have fl_11 := hts (.fieldLink RX6 11 "LanternLogic$Reasons" "numbers" "[I") (by decide +kernel)
  have hin_X6 : ∀ w ∈ u_ws RX6 TX6 3, w ∈ wsX6_numberAt := by decide +kernel
  have B19 : ∀ (s19_0 : Int32) (H : Heap) (locs : List Loc), va_P D vwCl [(q_t, .inr (5, [.ref q_t_numbers, .ref q_t_details, .int t_count])), (q_t_numbers, .inl (cI, 3, .inl t_numbers))] H → va_D A [(q_t, .inr (5, [.ref q_t_numbers, .ref q_t_details, .int t_count])), (q_t_numbers, .inl (cI, 3, .inl t_numbers))] → va_S A s.heap H locs → ∀ ls : Array Slot, lv_has ls 2 [] → J_X6_numberAt_b19  t_count t_numbers v1 s19_0 = some (r) → W p l e rmX6_numberAt s m args below meth c H locs 0 0 Q (F0 m 19 ls [.int s19_0]) := by
    intro s19_0 H locs hP hD hS ls hl hJ
    unfold J_X6_numberAt_b19 at hJ
    have e0 := Option.some.inj hJ
    exact hRet hP hD hS e0 dX6_numberAt_19
  unfold J_X6_numberAt at hJ
  refine lv_aload_n hx hb dX6_numberAt_0 rfl (lv_at hl 0 rfl) ?_
  refine lv_iload_n hx hb dX6_numberAt_1 rfl (lv_at hl 1 rfl) ?_
  obtain ⟨x2, hc2, hJ⟩ := bnd1_some hJ
  refine jcV_i (C := RX6) (T := TX6) (N := 3) (ci := 5) (q0 := 0) (As := [.int v1]) (rest := []) (isC := [0]) (isR := [1]) (isB := [1, 0]) (wr := [(q_t_numbers, .inl (cI, 3, .inl t_numbers))]) (ws2 := [(q_t, .inr (5, [.ref q_t_numbers, .ref q_t_details, .int t_count])), (q_t_numbers, .inl (cI, 3, .inl t_numbers))]) hF (c_X6_isKept l D cI cJ cC cL q_t q_t_numbers q_t_details t_count v1 x2 hc2 s.heap.size) (cwV 1 hts gX6_numberAt_X6_isKept rfl rfl rfl (by decide +kernel) ⟨Nat.le_of_ble_eq_true rfl, Nat.le_of_ble_eq_true rfl⟩) rfl hl rfl (Nat.le_of_ble_eq_true rfl) dX6_numberAt_2 ⟨Nat.zero_le _, Nat.zero_le _⟩ hK hN KX_T trivial hP hD hS hA rfl rfl rfl rfl rfl rfl (by decide) rfl rfl (fun H locs hP hD hS => ?_)
  refine jif_eq (tgt := 17) hx hb dX6_numberAt_5 (by decide) hJ (fun hJ => ?_) (fun hJ => ?_)
  · refine lv_bipush (v := (-15 : Int32)) hx hb dX6_numberAt_17 (by decide) ?_
    exact B19  (-15 : Int32)  H locs  hP hD hS _ (lv_sub hl [] rfl) hJ
  · refine lv_aload_n hx hb dX6_numberAt_8 rfl (lv_at hl 0 rfl) ?_
    refine va_get (ci := 5) (v := .ref q_t_numbers) (C := RX6) (T := TX6) (N := 3) hx hb hts hin_X6 hown hK hP 0 rfl rfl 0 (by decide) fl_11 (fun _ h9 => h9) rfl dX6_numberAt_9 ?_
    refine lv_iload_n hx hb dX6_numberAt_12 rfl (lv_at hl 1 rfl) ?_
    obtain ⟨hin, hJ⟩ := chk_in hJ
    refine va_iald hx hb hK hP 1 0 rfl rfl hin dX6_numberAt_13 ?_
    refine jt_i hJ (fun x13 hJ => ?_)
    refine lv_goto (tgt := 19) hx hb dX6_numberAt_14 (by decide) ?_
    exact B19  x13  H locs  hP hD hS _ (lv_sub hl [] rfl) hJ

def J_X6_detailAt_b19 (t_count : Int32) (t_details : Nat → Int32) (v1 : Int32) (s19_0 : Int32) : Option (Int32) :=
    some (s19_0)
def J_X6_detailAt (t_count : Int32) (t_details : Nat → Int32) (v1 : Int32) : Option (Int32) :=
    bnd1 (J_X6_isKept t_count v1) fun x2 =>
    if x2 = 0 then (
    J_X6_detailAt_b19 t_count t_details v1 (-15 : Int32))
    else (
    chk v1 3 (
    nm (t_details v1.toNatClampNeg) fun x13 =>
    J_X6_detailAt_b19 t_count t_details v1 x13))
abbrev rmX6_detailAt : Room := { frames := 1, cells := 0, slots := 0, locals := 21 }
set_option maxHeartbeats 4000000 in
set_option maxRecDepth 100000 in
theorem c_X6_detailAt (l : Launch) (D : va_G) (cI cJ cC cL : ClassId) (q_t q_t_numbers q_t_details : Nat) (t_count : Int32) (t_details : Nat → Int32) (v1 : Int32) (r : Int32) (hJ : J_X6_detailAt t_count t_details v1 = some (r)) (sz : Nat) : Met l yX6_detailAt wsX6_detailAt rmX6_detailAt (va_Pc [.ref q_t, .int v1] (jpre XT D (tyL cI cJ cC cL) [(q_t, .inr (5, [.ref q_t_numbers, .ref q_t_details, .int t_count])), (q_t_details, .inl (cI, 3, .inl t_details))] sz)) (va_Qi (fun r' (_ : Unit) => r' = r) (fun _ t => jpost D (tyL cI cJ cC cL) (va_A [(q_t, .inr (5, [.ref q_t_numbers, .ref q_t_details, .int t_count])), (q_t_details, .inl (cI, 3, .inl t_details))] sz) [(q_t, .inr (5, [.ref q_t_numbers, .ref q_t_details, .int t_count])), (q_t_details, .inl (cI, 3, .inl t_details))] t) (va_A [(q_t, .inr (5, [.ref q_t_numbers, .ref q_t_details, .int t_count])), (q_t_details, .inl (cI, 3, .inl t_details))] sz)) 0 0 (va_A [(q_t, .inr (5, [.ref q_t_numbers, .ref q_t_details, .int t_count])), (q_t_details, .inl (cI, 3, .inl t_details))] sz) := by
  refine jE_i (cc := cX6_detailAt) (maxL := 2) (own := RX6) (ret := (some .int)) (lv0 := [(0, .ref q_t), (1, .int v1)]) (by decide) rfl rfl rfl (Nat.le_of_ble_eq_true rfl) rfl ?_
  intro p e s m args below meth c A Q ls hx hb hml hown hts hK hN hX hA hP hD hS hl hRet
  have hF : CallFix p m c cX6_detailAt 2 s args wsX6_detailAt RX6 := ⟨hx, hb, hml, hown, hts⟩
  have fl_15 := hts (.fieldLink RX6 15 "LanternLogic$Reasons" "details" "[I") (by decide +kernel)
  have hin_X6 : ∀ w ∈ u_ws RX6 TX6 3, w ∈ wsX6_detailAt := by decide +kernel
  have B19 : ∀ (s19_0 : Int32) (H : Heap) (locs : List Loc), va_P D vwCl [(q_t, .inr (5, [.ref q_t_numbers, .ref q_t_details, .int t_count])), (q_t_details, .inl (cI, 3, .inl t_details))] H → va_D A [(q_t, .inr (5, [.ref q_t_numbers, .ref q_t_details, .int t_count])), (q_t_details, .inl (cI, 3, .inl t_details))] → va_S A s.heap H locs → ∀ ls : Array Slot, lv_has ls 2 [] → J_X6_detailAt_b19  t_count t_details v1 s19_0 = some (r) → W p l e rmX6_detailAt s m args below meth c H locs 0 0 Q (F0 m 19 ls [.int s19_0]) := by
    intro s19_0 H locs hP hD hS ls hl hJ
    unfold J_X6_detailAt_b19 at hJ
    have e0 := Option.some.inj hJ
    exact hRet hP hD hS e0 dX6_detailAt_19
  unfold J_X6_detailAt at hJ
  refine lv_aload_n hx hb dX6_detailAt_0 rfl (lv_at hl 0 rfl) ?_
  refine lv_iload_n hx hb dX6_detailAt_1 rfl (lv_at hl 1 rfl) ?_
  obtain ⟨x2, hc2, hJ⟩ := bnd1_some hJ
  refine jcV_i (C := RX6) (T := TX6) (N := 3) (ci := 5) (q0 := 0) (As := [.int v1]) (rest := []) (isC := [0]) (isR := [1]) (isB := [1, 0]) (wr := [(q_t_details, .inl (cI, 3, .inl t_details))]) (ws2 := [(q_t, .inr (5, [.ref q_t_numbers, .ref q_t_details, .int t_count])), (q_t_details, .inl (cI, 3, .inl t_details))]) hF (c_X6_isKept l D cI cJ cC cL q_t q_t_numbers q_t_details t_count v1 x2 hc2 s.heap.size) (cwV 1 hts gX6_detailAt_X6_isKept rfl rfl rfl (by decide +kernel) ⟨Nat.le_of_ble_eq_true rfl, Nat.le_of_ble_eq_true rfl⟩) rfl hl rfl (Nat.le_of_ble_eq_true rfl) dX6_detailAt_2 ⟨Nat.zero_le _, Nat.zero_le _⟩ hK hN KX_T trivial hP hD hS hA rfl rfl rfl rfl rfl rfl (by decide) rfl rfl (fun H locs hP hD hS => ?_)
  refine jif_eq (tgt := 17) hx hb dX6_detailAt_5 (by decide) hJ (fun hJ => ?_) (fun hJ => ?_)
  · refine lv_bipush (v := (-15 : Int32)) hx hb dX6_detailAt_17 (by decide) ?_
    exact B19  (-15 : Int32)  H locs  hP hD hS _ (lv_sub hl [] rfl) hJ
  · refine lv_aload_n hx hb dX6_detailAt_8 rfl (lv_at hl 0 rfl) ?_
    refine va_get (ci := 5) (v := .ref q_t_details) (C := RX6) (T := TX6) (N := 3) hx hb hts hin_X6 hown hK hP 0 rfl rfl 1 (by decide) fl_15 (fun _ h9 => h9) rfl dX6_detailAt_9 ?_
    refine lv_iload_n hx hb dX6_detailAt_12 rfl (lv_at hl 1 rfl) ?_
    obtain ⟨hin, hJ⟩ := chk_in hJ
    refine va_iald hx hb hK hP 1 0 rfl rfl hin dX6_detailAt_13 ?_
    refine jt_i hJ (fun x13 hJ => ?_)
    refine lv_goto (tgt := 19) hx hb dX6_detailAt_14 (by decide) ?_
    exact B19  x13  H locs  hP hD hS _ (lv_sub hl [] rfl) hJ

def J_X7_byFinding_b48 (k19 : Int32 → Int32 → Int32 → Int32 → Option (Int32)) (a0_count : Int32) (a0_kinds : Nat → Int32) (a0_sources : Nat → Int32) (v1 : Int32) (v2 : Int32) (v3 : Int32) (v4 : Int32) (v5 : Int32) : Option (Int32) :=
    nm (v5 + Int32.ofInt 1) fun x48 =>
    k19 v2 v3 v4 x48
def J_X7_byFinding_L19 (a0_count : Int32) (a0_kinds : Nat → Int32) (a0_sources : Nat → Int32) (v1 : Int32) : Nat → Int32 → Int32 → Int32 → Int32 → Option (Int32)
  | 0, _, _, _, _ => none
  | nf + 1, v2, v3, v4, v5 =>
    if v3 ≤ v5 then (
    some (v4))
    else (
    bnd1 (J_X7_spread v5 v2) fun x30 =>
    bnd1 (J_X7_isGlowingAtLast a0_count a0_kinds a0_sources v1 x30) fun x33 =>
    if x33 = 0 then (
    J_X7_byFinding_b48 (fun z0 z1 z2 z3 => J_X7_byFinding_L19 a0_count a0_kinds a0_sources v1 nf z0 z1 z2 z3) a0_count a0_kinds a0_sources v1 v2 v3 v4 v5)
    else (
    nm (v4 ||| ((1 : Int32) <<< (v5 &&& 31))) fun x45 =>
    J_X7_byFinding_b48 (fun z0 z1 z2 z3 => J_X7_byFinding_L19 a0_count a0_kinds a0_sources v1 nf z0 z1 z2 z3) a0_count a0_kinds a0_sources v1 v2 v3 x45 v5))
def J_X7_byFinding (a0_count : Int32) (a0_kinds : Nat → Int32) (a0_sources : Nat → Int32) (v1 : Int32) : Option (Int32) :=
    bnd1 (J_X5_switchesTo a0_count a0_kinds a0_sources v1) fun x2 =>
    bnd1 (J_J6_bitCount_0f7a4 x2) fun x8 =>
    nm ((1 : Int32) <<< (x8 &&& 31)) fun x11 =>
    J_X7_byFinding_L19 a0_count a0_kinds a0_sources v1 FU x2 x11 (0 : Int32) (0 : Int32)
abbrev rmX7_byFinding : Room := { frames := 4, cells := 0, slots := 0, locals := 94 }
set_option maxHeartbeats 4000000 in
set_option maxRecDepth 100000 in
theorem c_X7_byFinding (l : Launch) (D : va_G) (cI cJ cC cL : ClassId) (q_a0 q_a0_kinds q_a0_wicks q_a0_sources q_a0_changes : Nat) (a0_count : Int32) (a0_state : Int64) (a0_areLoopsAllowed : Int32) (a0_ticks : Int32) (a0_tickChanges : Int32) (a0_sets : Int32) (a0_kinds : Nat → Int32) (a0_sources : Nat → Int32) (v1 : Int32) (r : Int32) (hJ : J_X7_byFinding a0_count a0_kinds a0_sources v1 = some (r)) (sz : Nat) : Met l yX7_byFinding wsX7_byFinding rmX7_byFinding (va_Pc [.ref q_a0, .int v1] (jpre XT D (tyL cI cJ cC cL) [(q_a0, .inr (2, [.int a0_count, .ref q_a0_kinds, .ref q_a0_wicks, .ref q_a0_sources, .ref q_a0_changes, .long a0_state, .int a0_areLoopsAllowed, .int a0_ticks, .int a0_tickChanges, .int a0_sets])), (q_a0_kinds, .inl (cI, 16, .inl a0_kinds)), (q_a0_sources, .inl (cI, 48, .inl a0_sources))] sz)) (va_Qi (fun r' (_ : Unit) => r' = r) (fun _ t => jpost D (tyL cI cJ cC cL) (va_A [(q_a0, .inr (2, [.int a0_count, .ref q_a0_kinds, .ref q_a0_wicks, .ref q_a0_sources, .ref q_a0_changes, .long a0_state, .int a0_areLoopsAllowed, .int a0_ticks, .int a0_tickChanges, .int a0_sets])), (q_a0_kinds, .inl (cI, 16, .inl a0_kinds)), (q_a0_sources, .inl (cI, 48, .inl a0_sources))] sz) [(q_a0, .inr (2, [.int a0_count, .ref q_a0_kinds, .ref q_a0_wicks, .ref q_a0_sources, .ref q_a0_changes, .long a0_state, .int a0_areLoopsAllowed, .int a0_ticks, .int a0_tickChanges, .int a0_sets])), (q_a0_kinds, .inl (cI, 16, .inl a0_kinds)), (q_a0_sources, .inl (cI, 48, .inl a0_sources))] t) (va_A [(q_a0, .inr (2, [.int a0_count, .ref q_a0_kinds, .ref q_a0_wicks, .ref q_a0_sources, .ref q_a0_changes, .long a0_state, .int a0_areLoopsAllowed, .int a0_ticks, .int a0_tickChanges, .int a0_sets])), (q_a0_kinds, .inl (cI, 16, .inl a0_kinds)), (q_a0_sources, .inl (cI, 48, .inl a0_sources))] sz)) 0 0 (va_A [(q_a0, .inr (2, [.int a0_count, .ref q_a0_kinds, .ref q_a0_wicks, .ref q_a0_sources, .ref q_a0_changes, .long a0_state, .int a0_areLoopsAllowed, .int a0_ticks, .int a0_tickChanges, .int a0_sets])), (q_a0_kinds, .inl (cI, 16, .inl a0_kinds)), (q_a0_sources, .inl (cI, 48, .inl a0_sources))] sz) := by
  refine jE_i (cc := cX7_byFinding) (maxL := 6) (own := RX7) (ret := (some .int)) (lv0 := [(0, .ref q_a0), (1, .int v1)]) (by decide) rfl rfl rfl (Nat.le_of_ble_eq_true rfl) rfl ?_
  intro p e s m args below meth c A Q ls hx hb hml hown hts hK hN hX hA hP hD hS hl hRet
  have hF : CallFix p m c cX7_byFinding 6 s args wsX7_byFinding RX7 := ⟨hx, hb, hml, hown, hts⟩
  have B48 : ∀ (k19 : Int32 → Int32 → Int32 → Int32 → Option (Int32)), (∀ (v2 : Int32) (v3 : Int32) (v4 : Int32) (v5 : Int32) (H : Heap) (locs : List Loc), va_P D vwCl [(q_a0, .inr (2, [.int a0_count, .ref q_a0_kinds, .ref q_a0_wicks, .ref q_a0_sources, .ref q_a0_changes, .long a0_state, .int a0_areLoopsAllowed, .int a0_ticks, .int a0_tickChanges, .int a0_sets])), (q_a0_kinds, .inl (cI, 16, .inl a0_kinds)), (q_a0_sources, .inl (cI, 48, .inl a0_sources))] H → va_D A [(q_a0, .inr (2, [.int a0_count, .ref q_a0_kinds, .ref q_a0_wicks, .ref q_a0_sources, .ref q_a0_changes, .long a0_state, .int a0_areLoopsAllowed, .int a0_ticks, .int a0_tickChanges, .int a0_sets])), (q_a0_kinds, .inl (cI, 16, .inl a0_kinds)), (q_a0_sources, .inl (cI, 48, .inl a0_sources))] → va_S A s.heap H locs → ∀ ls : Array Slot, lv_has ls 6 [(0, .ref q_a0), (1, .int v1), (2, .int v2), (3, .int v3), (4, .int v4), (5, .int v5)] → k19 v2 v3 v4 v5 = some (r) → W p l e rmX7_byFinding s m args below meth c H locs 0 0 Q (F0 m 19 ls [])) → ∀ (v2 : Int32) (v3 : Int32) (v4 : Int32) (v5 : Int32) (H : Heap) (locs : List Loc), va_P D vwCl [(q_a0, .inr (2, [.int a0_count, .ref q_a0_kinds, .ref q_a0_wicks, .ref q_a0_sources, .ref q_a0_changes, .long a0_state, .int a0_areLoopsAllowed, .int a0_ticks, .int a0_tickChanges, .int a0_sets])), (q_a0_kinds, .inl (cI, 16, .inl a0_kinds)), (q_a0_sources, .inl (cI, 48, .inl a0_sources))] H → va_D A [(q_a0, .inr (2, [.int a0_count, .ref q_a0_kinds, .ref q_a0_wicks, .ref q_a0_sources, .ref q_a0_changes, .long a0_state, .int a0_areLoopsAllowed, .int a0_ticks, .int a0_tickChanges, .int a0_sets])), (q_a0_kinds, .inl (cI, 16, .inl a0_kinds)), (q_a0_sources, .inl (cI, 48, .inl a0_sources))] → va_S A s.heap H locs → ∀ ls : Array Slot, lv_has ls 6 [(0, .ref q_a0), (1, .int v1), (2, .int v2), (3, .int v3), (4, .int v4), (5, .int v5)] → J_X7_byFinding_b48 k19 a0_count a0_kinds a0_sources v1 v2 v3 v4 v5 = some (r) → W p l e rmX7_byFinding s m args below meth c H locs 0 0 Q (F0 m 48 ls []) := by
    intro k19 hk19 v2 v3 v4 v5 H locs hP hD hS ls hl hJ
    unfold J_X7_byFinding_b48 at hJ
    refine jt_iinc hJ (fun x48 ex48 hJ => ?_)
    refine lv_iinc (v := x48) (lv' := [(5, .int x48), (0, .ref q_a0), (1, .int v1), (2, .int v2), (3, .int v3), (4, .int v4)]) hx hb dX7_byFinding_48 hl (k := 5) rfl ex48 (by decide) rfl (fun ls hl => ?_)
    refine lv_goto (tgt := 19) hx hb dX7_byFinding_51 (by decide) ?_
    exact hk19 v2 v3 v4 x48  H locs  hP hD hS _ (lv_sub hl [1, 2, 3, 4, 5, 0] rfl) hJ
  have L19 : ∀ (nf : Nat), ∀ (v2 : Int32) (v3 : Int32) (v4 : Int32) (v5 : Int32) (H : Heap) (locs : List Loc), va_P D vwCl [(q_a0, .inr (2, [.int a0_count, .ref q_a0_kinds, .ref q_a0_wicks, .ref q_a0_sources, .ref q_a0_changes, .long a0_state, .int a0_areLoopsAllowed, .int a0_ticks, .int a0_tickChanges, .int a0_sets])), (q_a0_kinds, .inl (cI, 16, .inl a0_kinds)), (q_a0_sources, .inl (cI, 48, .inl a0_sources))] H → va_D A [(q_a0, .inr (2, [.int a0_count, .ref q_a0_kinds, .ref q_a0_wicks, .ref q_a0_sources, .ref q_a0_changes, .long a0_state, .int a0_areLoopsAllowed, .int a0_ticks, .int a0_tickChanges, .int a0_sets])), (q_a0_kinds, .inl (cI, 16, .inl a0_kinds)), (q_a0_sources, .inl (cI, 48, .inl a0_sources))] → va_S A s.heap H locs → ∀ ls : Array Slot, lv_has ls 6 [(0, .ref q_a0), (1, .int v1), (2, .int v2), (3, .int v3), (4, .int v4), (5, .int v5)] → J_X7_byFinding_L19  a0_count a0_kinds a0_sources v1 nf v2 v3 v4 v5 = some (r) → W p l e rmX7_byFinding s m args below meth c H locs 0 0 Q (F0 m 19 ls []) := by
    intro nf
    induction nf with
    | zero =>
      intro v2 v3 v4 v5 H locs hP hD hS ls hl hJ
      rw [J_X7_byFinding_L19] at hJ
      cases hJ
    | succ nf ih =>
      intro v2 v3 v4 v5 H locs hP hD hS ls hl hJ
      rw [J_X7_byFinding_L19] at hJ
      refine lv_iload hx hb dX7_byFinding_19 (lv_at hl 5 rfl) ?_
      refine lv_iload_n hx hb dX7_byFinding_21 rfl (lv_at hl 3 rfl) ?_
      refine jif_icmp_ge (tgt := 54) hx hb dX7_byFinding_22 (by decide) hJ (fun hJ => ?_) (fun hJ => ?_)
      · refine lv_iload hx hb dX7_byFinding_54 (lv_at hl 4 rfl) ?_
        have e0 := Option.some.inj hJ
        exact hRet hP hD hS e0 dX7_byFinding_56
      · refine lv_aload_n hx hb dX7_byFinding_25 rfl (lv_at hl 0 rfl) ?_
        refine lv_iload_n hx hb dX7_byFinding_26 rfl (lv_at hl 1 rfl) ?_
        refine lv_iload hx hb dX7_byFinding_27 (lv_at hl 5 rfl) ?_
        refine lv_iload_n hx hb dX7_byFinding_29 rfl (lv_at hl 2 rfl) ?_
        obtain ⟨x30, hc30, hJ⟩ := bnd1_some hJ
        refine jcS_i (As := [.int v5, .int v2]) (rest := [.int v1, .ref q_a0]) (isC := []) (isR := [0, 1, 2]) (isB := [0, 1, 2]) (wr := [(q_a0, .inr (2, [.int a0_count, .ref q_a0_kinds, .ref q_a0_wicks, .ref q_a0_sources, .ref q_a0_changes, .long a0_state, .int a0_areLoopsAllowed, .int a0_ticks, .int a0_tickChanges, .int a0_sets])), (q_a0_kinds, .inl (cI, 16, .inl a0_kinds)), (q_a0_sources, .inl (cI, 48, .inl a0_sources))]) (ws2 := [(q_a0, .inr (2, [.int a0_count, .ref q_a0_kinds, .ref q_a0_wicks, .ref q_a0_sources, .ref q_a0_changes, .long a0_state, .int a0_areLoopsAllowed, .int a0_ticks, .int a0_tickChanges, .int a0_sets])), (q_a0_kinds, .inl (cI, 16, .inl a0_kinds)), (q_a0_sources, .inl (cI, 48, .inl a0_sources))]) hF (c_X7_spread l D cI cJ cC cL v5 v2 x30 hc30 H.size) (va_cwS 2 hts gX7_byFinding_X7_spread rfl rfl rfl (by decide +kernel) ⟨Nat.le_of_ble_eq_true rfl, Nat.le_of_ble_eq_true rfl⟩) rfl hl rfl (Nat.le_of_ble_eq_true rfl) dX7_byFinding_30 ⟨Nat.zero_le _, Nat.zero_le _⟩ hK hN KX_T trivial hP hD hS hA rfl rfl rfl rfl (by decide) rfl rfl (fun H locs hP hD hS => ?_)
        obtain ⟨x33, hc33, hJ⟩ := bnd1_some hJ
        refine jcS_i (As := [.ref q_a0, .int v1, .int x30]) (rest := []) (isC := [0, 1, 2]) (isR := []) (isB := [0, 1, 2]) (wr := []) (ws2 := [(q_a0, .inr (2, [.int a0_count, .ref q_a0_kinds, .ref q_a0_wicks, .ref q_a0_sources, .ref q_a0_changes, .long a0_state, .int a0_areLoopsAllowed, .int a0_ticks, .int a0_tickChanges, .int a0_sets])), (q_a0_kinds, .inl (cI, 16, .inl a0_kinds)), (q_a0_sources, .inl (cI, 48, .inl a0_sources))]) hF (c_X7_isGlowingAtLast l D cI cJ cC cL q_a0 q_a0_kinds q_a0_wicks q_a0_sources q_a0_changes a0_count a0_state a0_areLoopsAllowed a0_ticks a0_tickChanges a0_sets a0_kinds a0_sources v1 x30 x33 hc33 H.size) (va_cwS 3 hts gX7_byFinding_X7_isGlowingAtLast rfl rfl rfl (by decide +kernel) ⟨Nat.le_of_ble_eq_true rfl, Nat.le_of_ble_eq_true rfl⟩) rfl hl rfl (Nat.le_of_ble_eq_true rfl) dX7_byFinding_33 ⟨Nat.zero_le _, Nat.zero_le _⟩ hK hN KX_T trivial hP hD hS hA rfl rfl rfl rfl (by decide) rfl rfl (fun H locs hP hD hS => ?_)
        refine jif_eq (tgt := 48) hx hb dX7_byFinding_36 (by decide) hJ (fun hJ => ?_) (fun hJ => ?_)
        · exact B48 (fun z0 z1 z2 z3 => J_X7_byFinding_L19 a0_count a0_kinds a0_sources v1 nf z0 z1 z2 z3) ih v2 v3 v4 v5  H locs  hP hD hS _ (lv_sub hl [0, 1, 2, 3, 4, 5] rfl) hJ
        · refine lv_iload hx hb dX7_byFinding_39 (lv_at hl 4 rfl) ?_
          refine lv_iconst (v := (1 : Int32)) hx hb dX7_byFinding_41 (by decide) ?_
          refine lv_iload hx hb dX7_byFinding_42 (lv_at hl 5 rfl) ?_
          refine lv_ishl hx hb dX7_byFinding_44 ?_
          refine lv_ior hx hb dX7_byFinding_45 ?_
          refine jt_i hJ (fun x45 hJ => ?_)
          refine lv_istore (lv' := [(4, .int x45), (0, .ref q_a0), (1, .int v1), (2, .int v2), (3, .int v3), (5, .int v5)]) hx hb dX7_byFinding_46 hl (by decide) rfl (fun ls hl => ?_)
          exact B48 (fun z0 z1 z2 z3 => J_X7_byFinding_L19 a0_count a0_kinds a0_sources v1 nf z0 z1 z2 z3) ih v2 v3 x45 v5  H locs  hP hD hS _ (lv_sub hl [1, 2, 3, 4, 0, 5] rfl) hJ
  unfold J_X7_byFinding at hJ
  refine lv_aload_n hx hb dX7_byFinding_0 rfl (lv_at hl 0 rfl) ?_
  refine lv_iload_n hx hb dX7_byFinding_1 rfl (lv_at hl 1 rfl) ?_
  obtain ⟨x2, hc2, hJ⟩ := bnd1_some hJ
  refine jcS_i (As := [.ref q_a0, .int v1]) (rest := []) (isC := [0, 1, 2]) (isR := []) (isB := [0, 1, 2]) (wr := []) (ws2 := [(q_a0, .inr (2, [.int a0_count, .ref q_a0_kinds, .ref q_a0_wicks, .ref q_a0_sources, .ref q_a0_changes, .long a0_state, .int a0_areLoopsAllowed, .int a0_ticks, .int a0_tickChanges, .int a0_sets])), (q_a0_kinds, .inl (cI, 16, .inl a0_kinds)), (q_a0_sources, .inl (cI, 48, .inl a0_sources))]) hF (c_X5_switchesTo l D cI cJ cC cL q_a0 q_a0_kinds q_a0_wicks q_a0_sources q_a0_changes a0_count a0_state a0_areLoopsAllowed a0_ticks a0_tickChanges a0_sets a0_kinds a0_sources v1 x2 hc2 s.heap.size) (va_cwS 2 hts gX7_byFinding_X5_switchesTo rfl rfl rfl (by decide +kernel) ⟨Nat.le_of_ble_eq_true rfl, Nat.le_of_ble_eq_true rfl⟩) rfl hl rfl (Nat.le_of_ble_eq_true rfl) dX7_byFinding_2 ⟨Nat.zero_le _, Nat.zero_le _⟩ hK hN KX_T trivial hP hD hS hA rfl rfl rfl rfl (by decide) rfl rfl (fun H locs hP hD hS => ?_)
  refine lv_istore_n (lv' := [(2, .int x2), (0, .ref q_a0), (1, .int v1)]) hx hb dX7_byFinding_5 rfl hl (by decide) rfl (fun ls hl => ?_)
  refine lv_iconst (v := (1 : Int32)) hx hb dX7_byFinding_6 (by decide) ?_
  refine lv_iload_n hx hb dX7_byFinding_7 rfl (lv_at hl 0 rfl) ?_
  obtain ⟨x8, hc8, hJ⟩ := bnd1_some hJ
  refine jcS_i (As := [.int x2]) (rest := [.int (1 : Int32)]) (isC := []) (isR := [0, 1, 2]) (isB := [0, 1, 2]) (wr := [(q_a0, .inr (2, [.int a0_count, .ref q_a0_kinds, .ref q_a0_wicks, .ref q_a0_sources, .ref q_a0_changes, .long a0_state, .int a0_areLoopsAllowed, .int a0_ticks, .int a0_tickChanges, .int a0_sets])), (q_a0_kinds, .inl (cI, 16, .inl a0_kinds)), (q_a0_sources, .inl (cI, 48, .inl a0_sources))]) (ws2 := [(q_a0, .inr (2, [.int a0_count, .ref q_a0_kinds, .ref q_a0_wicks, .ref q_a0_sources, .ref q_a0_changes, .long a0_state, .int a0_areLoopsAllowed, .int a0_ticks, .int a0_tickChanges, .int a0_sets])), (q_a0_kinds, .inl (cI, 16, .inl a0_kinds)), (q_a0_sources, .inl (cI, 48, .inl a0_sources))]) hF (c_J6_bitCount_0f7a4 l D cI cJ cC cL x2 x8 hc8 H.size) (va_cwS 1 hts gX7_byFinding_J6_bitCount_0f7a4 rfl rfl rfl (by decide +kernel) ⟨Nat.le_of_ble_eq_true rfl, Nat.le_of_ble_eq_true rfl⟩) rfl hl rfl (Nat.le_of_ble_eq_true rfl) dX7_byFinding_8 ⟨Nat.zero_le _, Nat.zero_le _⟩ hK hN KX_T trivial hP hD hS hA rfl rfl rfl rfl (by decide) rfl rfl (fun H locs hP hD hS => ?_)
  refine lv_ishl hx hb dX7_byFinding_11 ?_
  refine jt_i hJ (fun x11 hJ => ?_)
  refine lv_istore_n (lv' := [(3, .int x11), (2, .int x2), (0, .ref q_a0), (1, .int v1)]) hx hb dX7_byFinding_12 rfl hl (by decide) rfl (fun ls hl => ?_)
  refine lv_iconst (v := (0 : Int32)) hx hb dX7_byFinding_13 (by decide) ?_
  refine lv_istore (lv' := [(4, .int (0 : Int32)), (3, .int x11), (2, .int x2), (0, .ref q_a0), (1, .int v1)]) hx hb dX7_byFinding_14 hl (by decide) rfl (fun ls hl => ?_)
  refine lv_iconst (v := (0 : Int32)) hx hb dX7_byFinding_16 (by decide) ?_
  refine lv_istore (lv' := [(5, .int (0 : Int32)), (4, .int (0 : Int32)), (3, .int x11), (2, .int x2), (0, .ref q_a0), (1, .int v1)]) hx hb dX7_byFinding_17 hl (by decide) rfl (fun ls hl => ?_)
  exact L19  FU x2 x11 (0 : Int32) (0 : Int32)  H locs  hP hD hS _ (lv_sub hl [4, 5, 3, 2, 1, 0] rfl) hJ

def J_X7_byTicks_L55 (k33 : Int32 → Int32 → Int64 → Int32 → Int32 → Option (Int32)) (a0_count : Int32) (a0_state : Int64) (a0_kinds : Nat → Int32) (a0_wicks : Nat → Int32) (a0_sources : Nat → Int32) (v1 : Int32) (v2 : Int32) : Nat → Int32 → Int32 → Int64 → Int32 → Int32 → Int64 → Int32 → Option (Int32)
  | 0, _, _, _, _, _, _, _ => none
  | nf + 1, v3, v4, v5, v7, v8, v9, v11 =>
    if v2 ≤ v11 then (
    nm (v9 >>> (v1.toInt64 &&& 63)) fun x80 =>
    nm ((x80 &&& (1 : Int64)).toInt32) fun x83 =>
    nm (v7 ||| (x83 <<< (v8 &&& 31))) fun x87 =>
    nm (v8 + Int32.ofInt 1) fun x90 =>
    k33 v3 v4 v5 x87 x90)
    else (
    bnd1 (J_X2_behindTick a0_count a0_kinds a0_wicks a0_sources v9) fun x64 =>
    nm (v11 + Int32.ofInt 1) fun x69 =>
    J_X7_byTicks_L55 k33 a0_count a0_state a0_kinds a0_wicks a0_sources v1 v2 nf v3 v4 v5 v7 v8 x64 x69)
def J_X7_byTicks_L33 (a0_count : Int32) (a0_state : Int64) (a0_kinds : Nat → Int32) (a0_wicks : Nat → Int32) (a0_sources : Nat → Int32) (v1 : Int32) (v2 : Int32) : Nat → Int32 → Int32 → Int64 → Int32 → Int32 → Option (Int32)
  | 0, _, _, _, _, _ => none
  | nf + 1, v3, v4, v5, v7, v8 =>
    if v4 ≤ v8 then (
    some (v7))
    else (
    bnd1 (J_X7_spread v8 v3) fun x45 =>
    nm (v5 ||| (x45.toInt64)) fun x49 =>
    J_X7_byTicks_L55 (fun z0 z1 z2 z3 z4 => J_X7_byTicks_L33 a0_count a0_state a0_kinds a0_wicks a0_sources v1 v2 nf z0 z1 z2 z3 z4) a0_count a0_state a0_kinds a0_wicks a0_sources v1 v2 FU v3 v4 v5 v7 v8 x49 (0 : Int32))
def J_X7_byTicks (a0_count : Int32) (a0_state : Int64) (a0_kinds : Nat → Int32) (a0_wicks : Nat → Int32) (a0_sources : Nat → Int32) (v1 : Int32) (v2 : Int32) : Option (Int32) :=
    bnd1 (J_X5_switchesTo a0_count a0_kinds a0_sources v1) fun x2 =>
    bnd1 (J_J6_bitCount_0f7a4 x2) fun x8 =>
    nm ((1 : Int32) <<< (x8 &&& 31)) fun x11 =>
    bnd1 (J_X2_state a0_state) fun x15 =>
    nm (x2.toInt64) fun x19 =>
    nm (x15 &&& (x19 ^^^ (-1 : Int64))) fun x24 =>
    J_X7_byTicks_L33 a0_count a0_state a0_kinds a0_wicks a0_sources v1 v2 FU x2 x11 x24 (0 : Int32) (0 : Int32)
abbrev rmX7_byTicks : Room := { frames := 4, cells := 0, slots := 0, locals := 94 }
set_option maxHeartbeats 4000000 in
set_option maxRecDepth 100000 in
theorem c_X7_byTicks (l : Launch) (D : va_G) (cI cJ cC cL : ClassId) (q_a0 q_a0_kinds q_a0_wicks q_a0_sources q_a0_changes : Nat) (a0_count : Int32) (a0_state : Int64) (a0_areLoopsAllowed : Int32) (a0_ticks : Int32) (a0_tickChanges : Int32) (a0_sets : Int32) (a0_kinds : Nat → Int32) (a0_wicks : Nat → Int32) (a0_sources : Nat → Int32) (v1 : Int32) (v2 : Int32) (r : Int32) (hJ : J_X7_byTicks a0_count a0_state a0_kinds a0_wicks a0_sources v1 v2 = some (r)) (sz : Nat) : Met l yX7_byTicks wsX7_byTicks rmX7_byTicks (va_Pc [.ref q_a0, .int v1, .int v2] (jpre XT D (tyL cI cJ cC cL) [(q_a0, .inr (2, [.int a0_count, .ref q_a0_kinds, .ref q_a0_wicks, .ref q_a0_sources, .ref q_a0_changes, .long a0_state, .int a0_areLoopsAllowed, .int a0_ticks, .int a0_tickChanges, .int a0_sets])), (q_a0_kinds, .inl (cI, 16, .inl a0_kinds)), (q_a0_wicks, .inl (cI, 16, .inl a0_wicks)), (q_a0_sources, .inl (cI, 48, .inl a0_sources))] sz)) (va_Qi (fun r' (_ : Unit) => r' = r) (fun _ t => jpost D (tyL cI cJ cC cL) (va_A [(q_a0, .inr (2, [.int a0_count, .ref q_a0_kinds, .ref q_a0_wicks, .ref q_a0_sources, .ref q_a0_changes, .long a0_state, .int a0_areLoopsAllowed, .int a0_ticks, .int a0_tickChanges, .int a0_sets])), (q_a0_kinds, .inl (cI, 16, .inl a0_kinds)), (q_a0_wicks, .inl (cI, 16, .inl a0_wicks)), (q_a0_sources, .inl (cI, 48, .inl a0_sources))] sz) [(q_a0, .inr (2, [.int a0_count, .ref q_a0_kinds, .ref q_a0_wicks, .ref q_a0_sources, .ref q_a0_changes, .long a0_state, .int a0_areLoopsAllowed, .int a0_ticks, .int a0_tickChanges, .int a0_sets])), (q_a0_kinds, .inl (cI, 16, .inl a0_kinds)), (q_a0_wicks, .inl (cI, 16, .inl a0_wicks)), (q_a0_sources, .inl (cI, 48, .inl a0_sources))] t) (va_A [(q_a0, .inr (2, [.int a0_count, .ref q_a0_kinds, .ref q_a0_wicks, .ref q_a0_sources, .ref q_a0_changes, .long a0_state, .int a0_areLoopsAllowed, .int a0_ticks, .int a0_tickChanges, .int a0_sets])), (q_a0_kinds, .inl (cI, 16, .inl a0_kinds)), (q_a0_wicks, .inl (cI, 16, .inl a0_wicks)), (q_a0_sources, .inl (cI, 48, .inl a0_sources))] sz)) 0 0 (va_A [(q_a0, .inr (2, [.int a0_count, .ref q_a0_kinds, .ref q_a0_wicks, .ref q_a0_sources, .ref q_a0_changes, .long a0_state, .int a0_areLoopsAllowed, .int a0_ticks, .int a0_tickChanges, .int a0_sets])), (q_a0_kinds, .inl (cI, 16, .inl a0_kinds)), (q_a0_wicks, .inl (cI, 16, .inl a0_wicks)), (q_a0_sources, .inl (cI, 48, .inl a0_sources))] sz) := by
  refine jE_i (cc := cX7_byTicks) (maxL := 12) (own := RX7) (ret := (some .int)) (lv0 := [(0, .ref q_a0), (1, .int v1), (2, .int v2)]) (by decide) rfl rfl rfl (Nat.le_of_ble_eq_true rfl) rfl ?_
  intro p e s m args below meth c A Q ls hx hb hml hown hts hK hN hX hA hP hD hS hl hRet
  have hF : CallFix p m c cX7_byTicks 12 s args wsX7_byTicks RX7 := ⟨hx, hb, hml, hown, hts⟩
  have L55 : ∀ (k33 : Int32 → Int32 → Int64 → Int32 → Int32 → Option (Int32)), (∀ (v3 : Int32) (v4 : Int32) (v5 : Int64) (v7 : Int32) (v8 : Int32) (H : Heap) (locs : List Loc), va_P D vwCl [(q_a0, .inr (2, [.int a0_count, .ref q_a0_kinds, .ref q_a0_wicks, .ref q_a0_sources, .ref q_a0_changes, .long a0_state, .int a0_areLoopsAllowed, .int a0_ticks, .int a0_tickChanges, .int a0_sets])), (q_a0_kinds, .inl (cI, 16, .inl a0_kinds)), (q_a0_wicks, .inl (cI, 16, .inl a0_wicks)), (q_a0_sources, .inl (cI, 48, .inl a0_sources))] H → va_D A [(q_a0, .inr (2, [.int a0_count, .ref q_a0_kinds, .ref q_a0_wicks, .ref q_a0_sources, .ref q_a0_changes, .long a0_state, .int a0_areLoopsAllowed, .int a0_ticks, .int a0_tickChanges, .int a0_sets])), (q_a0_kinds, .inl (cI, 16, .inl a0_kinds)), (q_a0_wicks, .inl (cI, 16, .inl a0_wicks)), (q_a0_sources, .inl (cI, 48, .inl a0_sources))] → va_S A s.heap H locs → ∀ ls : Array Slot, lv_has ls 12 [(0, .ref q_a0), (1, .int v1), (2, .int v2), (3, .int v3), (4, .int v4), (5, .long v5), (7, .int v7), (8, .int v8)] → k33 v3 v4 v5 v7 v8 = some (r) → W p l e rmX7_byTicks s m args below meth c H locs 0 0 Q (F0 m 33 ls [])) → ∀ (nf : Nat), ∀ (v3 : Int32) (v4 : Int32) (v5 : Int64) (v7 : Int32) (v8 : Int32) (v9 : Int64) (v11 : Int32) (H : Heap) (locs : List Loc), va_P D vwCl [(q_a0, .inr (2, [.int a0_count, .ref q_a0_kinds, .ref q_a0_wicks, .ref q_a0_sources, .ref q_a0_changes, .long a0_state, .int a0_areLoopsAllowed, .int a0_ticks, .int a0_tickChanges, .int a0_sets])), (q_a0_kinds, .inl (cI, 16, .inl a0_kinds)), (q_a0_wicks, .inl (cI, 16, .inl a0_wicks)), (q_a0_sources, .inl (cI, 48, .inl a0_sources))] H → va_D A [(q_a0, .inr (2, [.int a0_count, .ref q_a0_kinds, .ref q_a0_wicks, .ref q_a0_sources, .ref q_a0_changes, .long a0_state, .int a0_areLoopsAllowed, .int a0_ticks, .int a0_tickChanges, .int a0_sets])), (q_a0_kinds, .inl (cI, 16, .inl a0_kinds)), (q_a0_wicks, .inl (cI, 16, .inl a0_wicks)), (q_a0_sources, .inl (cI, 48, .inl a0_sources))] → va_S A s.heap H locs → ∀ ls : Array Slot, lv_has ls 12 [(0, .ref q_a0), (1, .int v1), (2, .int v2), (3, .int v3), (4, .int v4), (5, .long v5), (7, .int v7), (8, .int v8), (9, .long v9), (11, .int v11)] → J_X7_byTicks_L55 k33 a0_count a0_state a0_kinds a0_wicks a0_sources v1 v2 nf v3 v4 v5 v7 v8 v9 v11 = some (r) → W p l e rmX7_byTicks s m args below meth c H locs 0 0 Q (F0 m 55 ls []) := by
    intro k33 hk33 nf
    induction nf with
    | zero =>
      intro v3 v4 v5 v7 v8 v9 v11 H locs hP hD hS ls hl hJ
      rw [J_X7_byTicks_L55] at hJ
      cases hJ
    | succ nf ih =>
      intro v3 v4 v5 v7 v8 v9 v11 H locs hP hD hS ls hl hJ
      rw [J_X7_byTicks_L55] at hJ
      refine lv_iload hx hb dX7_byTicks_55 (lv_at hl 9 rfl) ?_
      refine lv_iload_n hx hb dX7_byTicks_57 rfl (lv_at hl 2 rfl) ?_
      refine jif_icmp_ge (tgt := 75) hx hb dX7_byTicks_58 (by decide) hJ (fun hJ => ?_) (fun hJ => ?_)
      · refine lv_iload hx hb dX7_byTicks_75 (lv_at hl 6 rfl) ?_
        refine lv_lload hx hb dX7_byTicks_77 (lv_at hl 8 rfl) ?_
        refine lv_iload_n hx hb dX7_byTicks_79 rfl (lv_at hl 1 rfl) ?_
        refine lv_lshr (v := v9 >>> (v1.toInt64 &&& 63)) hx hb dX7_byTicks_80 rfl ?_
        refine jt_l hJ (fun x80 hJ => ?_)
        refine lv_lconst (v := (1 : Int64)) hx hb dX7_byTicks_81 (by decide) ?_
        refine lv_land hx hb dX7_byTicks_82 ?_
        refine lv_l2i (v := (x80 &&& (1 : Int64)).toInt32) hx hb dX7_byTicks_83 rfl ?_
        refine jt_i hJ (fun x83 hJ => ?_)
        refine lv_iload hx hb dX7_byTicks_84 (lv_at hl 7 rfl) ?_
        refine lv_ishl hx hb dX7_byTicks_86 ?_
        refine lv_ior hx hb dX7_byTicks_87 ?_
        refine jt_i hJ (fun x87 hJ => ?_)
        refine lv_istore (lv' := [(7, .int x87), (0, .ref q_a0), (1, .int v1), (2, .int v2), (3, .int v3), (4, .int v4), (5, .long v5), (8, .int v8), (9, .long v9), (11, .int v11)]) hx hb dX7_byTicks_88 hl (by decide) rfl (fun ls hl => ?_)
        refine jt_iinc hJ (fun x90 ex90 hJ => ?_)
        refine lv_iinc (v := x90) (lv' := [(8, .int x90), (7, .int x87), (0, .ref q_a0), (1, .int v1), (2, .int v2), (3, .int v3), (4, .int v4), (5, .long v5), (9, .long v9), (11, .int v11)]) hx hb dX7_byTicks_90 hl (k := 7) rfl ex90 (by decide) rfl (fun ls hl => ?_)
        refine lv_goto (tgt := 33) hx hb dX7_byTicks_93 (by decide) ?_
        exact hk33 v3 v4 v5 x87 x90  H locs  hP hD hS _ (lv_sub hl [2, 3, 4, 5, 6, 7, 1, 0] rfl) hJ
      · refine lv_aload_n hx hb dX7_byTicks_61 rfl (lv_at hl 0 rfl) ?_
        refine lv_lload hx hb dX7_byTicks_62 (lv_at hl 8 rfl) ?_
        obtain ⟨x64, hc64, hJ⟩ := bnd1_some hJ
        refine jcV_l (C := RX2) (T := TX2) (N := 10) (ci := 2) (q0 := 0) (As := [.long v9]) (rest := []) (isC := [0, 1, 2, 3]) (isR := []) (isB := [0, 1, 2, 3]) (wr := []) (ws2 := [(q_a0, .inr (2, [.int a0_count, .ref q_a0_kinds, .ref q_a0_wicks, .ref q_a0_sources, .ref q_a0_changes, .long a0_state, .int a0_areLoopsAllowed, .int a0_ticks, .int a0_tickChanges, .int a0_sets])), (q_a0_kinds, .inl (cI, 16, .inl a0_kinds)), (q_a0_wicks, .inl (cI, 16, .inl a0_wicks)), (q_a0_sources, .inl (cI, 48, .inl a0_sources))]) hF (c_X2_behindTick l D cI cJ cC cL q_a0 q_a0_kinds q_a0_wicks q_a0_sources q_a0_changes a0_count a0_state a0_areLoopsAllowed a0_ticks a0_tickChanges a0_sets a0_kinds a0_wicks a0_sources v9 x64 hc64 H.size) (cwV 1 hts gX7_byTicks_X2_behindTick rfl rfl rfl (by decide +kernel) ⟨Nat.le_of_ble_eq_true rfl, Nat.le_of_ble_eq_true rfl⟩) rfl hl rfl (Nat.le_of_ble_eq_true rfl) dX7_byTicks_64 ⟨Nat.zero_le _, Nat.zero_le _⟩ hK hN KX_T trivial hP hD hS hA rfl rfl rfl rfl rfl rfl (by decide) rfl rfl (fun H locs hP hD hS => ?_)
        refine lv_lstore (lv' := [(9, .long x64), (0, .ref q_a0), (1, .int v1), (2, .int v2), (3, .int v3), (4, .int v4), (5, .long v5), (7, .int v7), (8, .int v8), (11, .int v11)]) hx hb dX7_byTicks_67 hl (by decide) rfl (fun ls hl => ?_)
        refine jt_iinc hJ (fun x69 ex69 hJ => ?_)
        refine lv_iinc (v := x69) (lv' := [(11, .int x69), (9, .long x64), (0, .ref q_a0), (1, .int v1), (2, .int v2), (3, .int v3), (4, .int v4), (5, .long v5), (7, .int v7), (8, .int v8)]) hx hb dX7_byTicks_69 hl (k := 9) rfl ex69 (by decide) rfl (fun ls hl => ?_)
        refine lv_goto (tgt := 55) hx hb dX7_byTicks_72 (by decide) ?_
        exact ih v3 v4 v5 v7 v8 x64 x69  H locs  hP hD hS _ (lv_sub hl [2, 3, 4, 5, 6, 7, 8, 9, 1, 0] rfl) hJ
  have L33 : ∀ (nf : Nat), ∀ (v3 : Int32) (v4 : Int32) (v5 : Int64) (v7 : Int32) (v8 : Int32) (H : Heap) (locs : List Loc), va_P D vwCl [(q_a0, .inr (2, [.int a0_count, .ref q_a0_kinds, .ref q_a0_wicks, .ref q_a0_sources, .ref q_a0_changes, .long a0_state, .int a0_areLoopsAllowed, .int a0_ticks, .int a0_tickChanges, .int a0_sets])), (q_a0_kinds, .inl (cI, 16, .inl a0_kinds)), (q_a0_wicks, .inl (cI, 16, .inl a0_wicks)), (q_a0_sources, .inl (cI, 48, .inl a0_sources))] H → va_D A [(q_a0, .inr (2, [.int a0_count, .ref q_a0_kinds, .ref q_a0_wicks, .ref q_a0_sources, .ref q_a0_changes, .long a0_state, .int a0_areLoopsAllowed, .int a0_ticks, .int a0_tickChanges, .int a0_sets])), (q_a0_kinds, .inl (cI, 16, .inl a0_kinds)), (q_a0_wicks, .inl (cI, 16, .inl a0_wicks)), (q_a0_sources, .inl (cI, 48, .inl a0_sources))] → va_S A s.heap H locs → ∀ ls : Array Slot, lv_has ls 12 [(0, .ref q_a0), (1, .int v1), (2, .int v2), (3, .int v3), (4, .int v4), (5, .long v5), (7, .int v7), (8, .int v8)] → J_X7_byTicks_L33  a0_count a0_state a0_kinds a0_wicks a0_sources v1 v2 nf v3 v4 v5 v7 v8 = some (r) → W p l e rmX7_byTicks s m args below meth c H locs 0 0 Q (F0 m 33 ls []) := by
    intro nf
    induction nf with
    | zero =>
      intro v3 v4 v5 v7 v8 H locs hP hD hS ls hl hJ
      rw [J_X7_byTicks_L33] at hJ
      cases hJ
    | succ nf ih =>
      intro v3 v4 v5 v7 v8 H locs hP hD hS ls hl hJ
      rw [J_X7_byTicks_L33] at hJ
      refine lv_iload hx hb dX7_byTicks_33 (lv_at hl 7 rfl) ?_
      refine lv_iload hx hb dX7_byTicks_35 (lv_at hl 4 rfl) ?_
      refine jif_icmp_ge (tgt := 96) hx hb dX7_byTicks_37 (by decide) hJ (fun hJ => ?_) (fun hJ => ?_)
      · refine lv_iload hx hb dX7_byTicks_96 (lv_at hl 6 rfl) ?_
        have e0 := Option.some.inj hJ
        exact hRet hP hD hS e0 dX7_byTicks_98
      · refine lv_lload hx hb dX7_byTicks_40 (lv_at hl 5 rfl) ?_
        refine lv_iload hx hb dX7_byTicks_42 (lv_at hl 7 rfl) ?_
        refine lv_iload_n hx hb dX7_byTicks_44 rfl (lv_at hl 3 rfl) ?_
        obtain ⟨x45, hc45, hJ⟩ := bnd1_some hJ
        refine jcS_i (As := [.int v8, .int v3]) (rest := [.long v5]) (isC := []) (isR := [0, 1, 2, 3]) (isB := [0, 1, 2, 3]) (wr := [(q_a0, .inr (2, [.int a0_count, .ref q_a0_kinds, .ref q_a0_wicks, .ref q_a0_sources, .ref q_a0_changes, .long a0_state, .int a0_areLoopsAllowed, .int a0_ticks, .int a0_tickChanges, .int a0_sets])), (q_a0_kinds, .inl (cI, 16, .inl a0_kinds)), (q_a0_wicks, .inl (cI, 16, .inl a0_wicks)), (q_a0_sources, .inl (cI, 48, .inl a0_sources))]) (ws2 := [(q_a0, .inr (2, [.int a0_count, .ref q_a0_kinds, .ref q_a0_wicks, .ref q_a0_sources, .ref q_a0_changes, .long a0_state, .int a0_areLoopsAllowed, .int a0_ticks, .int a0_tickChanges, .int a0_sets])), (q_a0_kinds, .inl (cI, 16, .inl a0_kinds)), (q_a0_wicks, .inl (cI, 16, .inl a0_wicks)), (q_a0_sources, .inl (cI, 48, .inl a0_sources))]) hF (c_X7_spread l D cI cJ cC cL v8 v3 x45 hc45 H.size) (va_cwS 2 hts gX7_byTicks_X7_spread rfl rfl rfl (by decide +kernel) ⟨Nat.le_of_ble_eq_true rfl, Nat.le_of_ble_eq_true rfl⟩) rfl hl rfl (Nat.le_of_ble_eq_true rfl) dX7_byTicks_45 ⟨Nat.zero_le _, Nat.zero_le _⟩ hK hN KX_T trivial hP hD hS hA rfl rfl rfl rfl (by decide) rfl rfl (fun H locs hP hD hS => ?_)
        refine lv_i2l (v := x45.toInt64) hx hb dX7_byTicks_48 rfl ?_
        refine lv_lor hx hb dX7_byTicks_49 ?_
        refine jt_l hJ (fun x49 hJ => ?_)
        refine lv_lstore (lv' := [(9, .long x49), (0, .ref q_a0), (1, .int v1), (2, .int v2), (3, .int v3), (4, .int v4), (5, .long v5), (7, .int v7), (8, .int v8)]) hx hb dX7_byTicks_50 hl (by decide) rfl (fun ls hl => ?_)
        refine lv_iconst (v := (0 : Int32)) hx hb dX7_byTicks_52 (by decide) ?_
        refine lv_istore (lv' := [(11, .int (0 : Int32)), (9, .long x49), (0, .ref q_a0), (1, .int v1), (2, .int v2), (3, .int v3), (4, .int v4), (5, .long v5), (7, .int v7), (8, .int v8)]) hx hb dX7_byTicks_53 hl (by decide) rfl (fun ls hl => ?_)
        exact L55 (fun z0 z1 z2 z3 z4 => J_X7_byTicks_L33 a0_count a0_state a0_kinds a0_wicks a0_sources v1 v2 nf z0 z1 z2 z3 z4) ih FU v3 v4 v5 v7 v8 x49 (0 : Int32)  H locs  hP hD hS _ (lv_sub hl [2, 3, 4, 5, 6, 7, 8, 9, 1, 0] rfl) hJ
  unfold J_X7_byTicks at hJ
  refine lv_aload_n hx hb dX7_byTicks_0 rfl (lv_at hl 0 rfl) ?_
  refine lv_iload_n hx hb dX7_byTicks_1 rfl (lv_at hl 1 rfl) ?_
  obtain ⟨x2, hc2, hJ⟩ := bnd1_some hJ
  refine jcS_i (As := [.ref q_a0, .int v1]) (rest := []) (isC := [0, 1, 3]) (isR := [2]) (isB := [1, 2, 0, 3]) (wr := [(q_a0_wicks, .inl (cI, 16, .inl a0_wicks))]) (ws2 := [(q_a0, .inr (2, [.int a0_count, .ref q_a0_kinds, .ref q_a0_wicks, .ref q_a0_sources, .ref q_a0_changes, .long a0_state, .int a0_areLoopsAllowed, .int a0_ticks, .int a0_tickChanges, .int a0_sets])), (q_a0_kinds, .inl (cI, 16, .inl a0_kinds)), (q_a0_wicks, .inl (cI, 16, .inl a0_wicks)), (q_a0_sources, .inl (cI, 48, .inl a0_sources))]) hF (c_X5_switchesTo l D cI cJ cC cL q_a0 q_a0_kinds q_a0_wicks q_a0_sources q_a0_changes a0_count a0_state a0_areLoopsAllowed a0_ticks a0_tickChanges a0_sets a0_kinds a0_sources v1 x2 hc2 s.heap.size) (va_cwS 2 hts gX7_byTicks_X5_switchesTo rfl rfl rfl (by decide +kernel) ⟨Nat.le_of_ble_eq_true rfl, Nat.le_of_ble_eq_true rfl⟩) rfl hl rfl (Nat.le_of_ble_eq_true rfl) dX7_byTicks_2 ⟨Nat.zero_le _, Nat.zero_le _⟩ hK hN KX_T trivial hP hD hS hA rfl rfl rfl rfl (by decide) rfl rfl (fun H locs hP hD hS => ?_)
  refine lv_istore_n (lv' := [(3, .int x2), (0, .ref q_a0), (1, .int v1), (2, .int v2)]) hx hb dX7_byTicks_5 rfl hl (by decide) rfl (fun ls hl => ?_)
  refine lv_iconst (v := (1 : Int32)) hx hb dX7_byTicks_6 (by decide) ?_
  refine lv_iload_n hx hb dX7_byTicks_7 rfl (lv_at hl 0 rfl) ?_
  obtain ⟨x8, hc8, hJ⟩ := bnd1_some hJ
  refine jcS_i (As := [.int x2]) (rest := [.int (1 : Int32)]) (isC := []) (isR := [0, 1, 2, 3]) (isB := [0, 1, 2, 3]) (wr := [(q_a0, .inr (2, [.int a0_count, .ref q_a0_kinds, .ref q_a0_wicks, .ref q_a0_sources, .ref q_a0_changes, .long a0_state, .int a0_areLoopsAllowed, .int a0_ticks, .int a0_tickChanges, .int a0_sets])), (q_a0_kinds, .inl (cI, 16, .inl a0_kinds)), (q_a0_wicks, .inl (cI, 16, .inl a0_wicks)), (q_a0_sources, .inl (cI, 48, .inl a0_sources))]) (ws2 := [(q_a0, .inr (2, [.int a0_count, .ref q_a0_kinds, .ref q_a0_wicks, .ref q_a0_sources, .ref q_a0_changes, .long a0_state, .int a0_areLoopsAllowed, .int a0_ticks, .int a0_tickChanges, .int a0_sets])), (q_a0_kinds, .inl (cI, 16, .inl a0_kinds)), (q_a0_wicks, .inl (cI, 16, .inl a0_wicks)), (q_a0_sources, .inl (cI, 48, .inl a0_sources))]) hF (c_J6_bitCount_0f7a4 l D cI cJ cC cL x2 x8 hc8 H.size) (va_cwS 1 hts gX7_byTicks_J6_bitCount_0f7a4 rfl rfl rfl (by decide +kernel) ⟨Nat.le_of_ble_eq_true rfl, Nat.le_of_ble_eq_true rfl⟩) rfl hl rfl (Nat.le_of_ble_eq_true rfl) dX7_byTicks_8 ⟨Nat.zero_le _, Nat.zero_le _⟩ hK hN KX_T trivial hP hD hS hA rfl rfl rfl rfl (by decide) rfl rfl (fun H locs hP hD hS => ?_)
  refine lv_ishl hx hb dX7_byTicks_11 ?_
  refine jt_i hJ (fun x11 hJ => ?_)
  refine lv_istore (lv' := [(4, .int x11), (3, .int x2), (0, .ref q_a0), (1, .int v1), (2, .int v2)]) hx hb dX7_byTicks_12 hl (by decide) rfl (fun ls hl => ?_)
  refine lv_aload_n hx hb dX7_byTicks_14 rfl (lv_at hl 2 rfl) ?_
  obtain ⟨x15, hc15, hJ⟩ := bnd1_some hJ
  refine jcV_l (C := RX2) (T := TX2) (N := 10) (ci := 2) (q0 := 0) (As := []) (rest := []) (isC := [0]) (isR := [1, 2, 3]) (isB := [3, 0, 1, 2]) (wr := [(q_a0_kinds, .inl (cI, 16, .inl a0_kinds)), (q_a0_wicks, .inl (cI, 16, .inl a0_wicks)), (q_a0_sources, .inl (cI, 48, .inl a0_sources))]) (ws2 := [(q_a0, .inr (2, [.int a0_count, .ref q_a0_kinds, .ref q_a0_wicks, .ref q_a0_sources, .ref q_a0_changes, .long a0_state, .int a0_areLoopsAllowed, .int a0_ticks, .int a0_tickChanges, .int a0_sets])), (q_a0_kinds, .inl (cI, 16, .inl a0_kinds)), (q_a0_wicks, .inl (cI, 16, .inl a0_wicks)), (q_a0_sources, .inl (cI, 48, .inl a0_sources))]) hF (c_X2_state l D cI cJ cC cL q_a0 q_a0_kinds q_a0_wicks q_a0_sources q_a0_changes a0_count a0_state a0_areLoopsAllowed a0_ticks a0_tickChanges a0_sets x15 hc15 H.size) (cwV 0 hts gX7_byTicks_X2_state rfl rfl rfl (by decide +kernel) ⟨Nat.le_of_ble_eq_true rfl, Nat.le_of_ble_eq_true rfl⟩) rfl hl rfl (Nat.le_of_ble_eq_true rfl) dX7_byTicks_15 ⟨Nat.zero_le _, Nat.zero_le _⟩ hK hN KX_T trivial hP hD hS hA rfl rfl rfl rfl rfl rfl (by decide) rfl rfl (fun H locs hP hD hS => ?_)
  refine lv_iload_n hx hb dX7_byTicks_18 rfl (lv_at hl 1 rfl) ?_
  refine lv_i2l (v := x2.toInt64) hx hb dX7_byTicks_19 rfl ?_
  refine jt_l hJ (fun x19 hJ => ?_)
  refine lv_ldc2 (v := (-1 : Int64)) hx hb hown (hts (.constantLong RX7 54 (-1 : Int64)) (by decide +kernel)) dX7_byTicks_20 ?_
  refine lv_lxor hx hb dX7_byTicks_23 ?_
  refine lv_land hx hb dX7_byTicks_24 ?_
  refine jt_l hJ (fun x24 hJ => ?_)
  refine lv_lstore (lv' := [(5, .long x24), (4, .int x11), (3, .int x2), (0, .ref q_a0), (1, .int v1), (2, .int v2)]) hx hb dX7_byTicks_25 hl (by decide) rfl (fun ls hl => ?_)
  refine lv_iconst (v := (0 : Int32)) hx hb dX7_byTicks_27 (by decide) ?_
  refine lv_istore (lv' := [(7, .int (0 : Int32)), (5, .long x24), (4, .int x11), (3, .int x2), (0, .ref q_a0), (1, .int v1), (2, .int v2)]) hx hb dX7_byTicks_28 hl (by decide) rfl (fun ls hl => ?_)
  refine lv_iconst (v := (0 : Int32)) hx hb dX7_byTicks_30 (by decide) ?_
  refine lv_istore (lv' := [(8, .int (0 : Int32)), (7, .int (0 : Int32)), (5, .long x24), (4, .int x11), (3, .int x2), (0, .ref q_a0), (1, .int v1), (2, .int v2)]) hx hb dX7_byTicks_31 hl (by decide) rfl (fun ls hl => ?_)
  exact L33  FU x2 x11 x24 (0 : Int32) (0 : Int32)  H locs  hP hD hS _ (lv_sub hl [5, 6, 7, 4, 3, 2, 1, 0] rfl) hJ

def J_X8_readKindAndWick_b33 (t_length : Int32) (t_signs : Nat → Int32) (t_at : Int32) (t_first : Int32) (t_second : Int32) (t_number : Int32) : Option (Int32 × Int32 × Int32 × Int32 × Int32) :=
    chz (0 : Int32) (some ((0 : Int32), t_at, t_first, t_second, t_number))
def J_X8_readKindAndWick (t_length : Int32) (t_at : Int32) (t_first : Int32) (t_second : Int32) (t_number : Int32) (t_signs : Nat → Int32) : Option (Int32 × Int32 × Int32 × Int32 × Int32) :=
    bnd3 (J_X8_isDigitRead t_length t_at t_number t_signs) fun x1 t_at_1 t_number_1 =>
    if x1 = 0 then (
    chz (0 : Int32) (some ((0 : Int32), t_at_1, t_first, t_second, t_number_1)))
    else (
    bnd2 (J_X8_isRead t_length t_at_1 t_signs (42 : Int32)) fun x20 t_at_20 =>
    if x20 = 0 then (
    J_X8_readKindAndWick_b33 t_length t_signs t_at_20 t_number_1 t_second t_number_1)
    else (
    bnd3 (J_X8_isDigitRead t_length t_at_20 t_number_1 t_signs) fun x27 t_at_27 t_number_27 =>
    if x27 = 0 then (
    J_X8_readKindAndWick_b33 t_length t_signs t_at_27 t_number_1 t_second t_number_27)
    else (
    chz (1 : Int32) (some ((1 : Int32), t_at_27, t_number_1, t_number_27, t_number_27)))))
abbrev rmX8_readKindAndWick : Room := { frames := 1, cells := 0, slots := 0, locals := 21 }
set_option maxHeartbeats 4000000 in
set_option maxRecDepth 100000 in
theorem c_X8_readKindAndWick (l : Launch) (D : va_G) (cI cJ cC cL : ClassId) (q_t q_t_signs : Nat) (t_length : Int32) (t_at : Int32) (t_word : Int32) (t_first : Int32) (t_second : Int32) (t_third : Int32) (t_number : Int32) (t_signs : Nat → Int32) (r : Int32) (o_t_at : Int32) (o_t_first : Int32) (o_t_second : Int32) (o_t_number : Int32) (hJ : J_X8_readKindAndWick t_length t_at t_first t_second t_number t_signs = some (r, o_t_at, o_t_first, o_t_second, o_t_number)) (sz : Nat) : Met l yX8_readKindAndWick wsX8_readKindAndWick rmX8_readKindAndWick (va_Pc [.ref q_t] (jpre XT D (tyL cI cJ cC cL) [(q_t, .inr (6, [.ref q_t_signs, .int t_length, .int t_at, .int t_word, .int t_first, .int t_second, .int t_third, .int t_number])), (q_t_signs, .inl (cC, 60, .inl t_signs))] sz)) (va_Qi (fun r' (_ : Unit) => r' = r) (fun _ t => jpost D (tyL cI cJ cC cL) (va_A [(q_t, .inr (6, [.ref q_t_signs, .int t_length, .int t_at, .int t_word, .int t_first, .int t_second, .int t_third, .int t_number])), (q_t_signs, .inl (cC, 60, .inl t_signs))] sz) [(q_t, .inr (6, [.ref q_t_signs, .int t_length, .int o_t_at, .int t_word, .int o_t_first, .int o_t_second, .int t_third, .int o_t_number])), (q_t_signs, .inl (cC, 60, .inl t_signs))] t) (va_A [(q_t, .inr (6, [.ref q_t_signs, .int t_length, .int t_at, .int t_word, .int t_first, .int t_second, .int t_third, .int t_number])), (q_t_signs, .inl (cC, 60, .inl t_signs))] sz)) 0 0 (va_A [(q_t, .inr (6, [.ref q_t_signs, .int t_length, .int t_at, .int t_word, .int t_first, .int t_second, .int t_third, .int t_number])), (q_t_signs, .inl (cC, 60, .inl t_signs))] sz) := by
  refine jE_z (cc := cX8_readKindAndWick) (maxL := 1) (own := RX8) (ret := (some .boolean)) (lv0 := [(0, .ref q_t)]) (by decide) rfl rfl rfl (Nat.le_of_ble_eq_true rfl) rfl ?_
  intro p e s m args below meth c A Q ls hx hb hml hown hts hK hN hX hA hP hD hS hl hRet
  have hF : CallFix p m c cX8_readKindAndWick 1 s args wsX8_readKindAndWick RX8 := ⟨hx, hb, hml, hown, hts⟩
  have fl_25 := hts (.fieldLink RX8 25 "LanternLogic$Text" "first" "I") (by decide +kernel)
  have fl_28 := hts (.fieldLink RX8 28 "LanternLogic$Text" "second" "I") (by decide +kernel)
  have fl_77 := hts (.fieldLink RX8 77 "LanternLogic$Text" "number" "I") (by decide +kernel)
  have hin_X8 : ∀ w ∈ u_ws RX8 TX8 8, w ∈ wsX8_readKindAndWick := by decide +kernel
  have B33 : ∀ (t_at : Int32) (t_first : Int32) (t_second : Int32) (t_number : Int32) (H : Heap) (locs : List Loc), va_P D vwCl [(q_t, .inr (6, [.ref q_t_signs, .int t_length, .int t_at, .int t_word, .int t_first, .int t_second, .int t_third, .int t_number])), (q_t_signs, .inl (cC, 60, .inl t_signs))] H → va_D A [(q_t, .inr (6, [.ref q_t_signs, .int t_length, .int t_at, .int t_word, .int t_first, .int t_second, .int t_third, .int t_number])), (q_t_signs, .inl (cC, 60, .inl t_signs))] → va_S A s.heap H locs → ∀ ls : Array Slot, lv_has ls 1 [] → J_X8_readKindAndWick_b33  t_length t_signs t_at t_first t_second t_number = some (r, o_t_at, o_t_first, o_t_second, o_t_number) → W p l e rmX8_readKindAndWick s m args below meth c H locs 0 0 Q (F0 m 33 ls []) := by
    intro t_at t_first t_second t_number H locs hP hD hS ls hl hJ
    unfold J_X8_readKindAndWick_b33 at hJ
    refine lv_iconst (v := (0 : Int32)) hx hb dX8_readKindAndWick_33 (by decide) ?_
    obtain ⟨h01, hJ⟩ := chz_ok hJ
    have hJ := Option.some.inj hJ
    obtain ⟨e0, e1, e2, e3, e4⟩ : ((0 : Int32)) = r ∧ (t_at) = o_t_at ∧ (t_first) = o_t_first ∧ (t_second) = o_t_second ∧ (t_number) = o_t_number := ⟨congrArg (fun z => z.1) hJ, congrArg (fun z => z.2.1) hJ, congrArg (fun z => z.2.2.1) hJ, congrArg (fun z => z.2.2.2.1) hJ, congrArg (fun z => z.2.2.2.2) hJ⟩
    exact hRet (by rw [← e1, ← e2, ← e3, ← e4]; exact hP) (by rw [← e1, ← e2, ← e3, ← e4]; exact hD) hS h01 e0 dX8_readKindAndWick_34
  unfold J_X8_readKindAndWick at hJ
  refine lv_aload_n hx hb dX8_readKindAndWick_0 rfl (lv_at hl 0 rfl) ?_
  obtain ⟨x1, t_at_1, t_number_1, hc1, hJ⟩ := bnd3_some hJ
  refine jcV_i (C := RX8) (T := TX8) (N := 8) (ci := 6) (q0 := 0) (As := []) (rest := []) (isC := [0, 1]) (isR := []) (isB := [0, 1]) (wr := []) (ws2 := [(q_t, .inr (6, [.ref q_t_signs, .int t_length, .int t_at_1, .int t_word, .int t_first, .int t_second, .int t_third, .int t_number_1])), (q_t_signs, .inl (cC, 60, .inl t_signs))]) hF (c_X8_isDigitRead l D cI cJ cC cL q_t q_t_signs t_length t_at t_word t_first t_second t_third t_number t_signs x1 t_at_1 t_number_1 hc1 s.heap.size) (cwV 0 hts gX8_readKindAndWick_X8_isDigitRead rfl rfl rfl (by decide +kernel) ⟨Nat.le_of_ble_eq_true rfl, Nat.le_of_ble_eq_true rfl⟩) rfl hl rfl (Nat.le_of_ble_eq_true rfl) dX8_readKindAndWick_1 ⟨Nat.zero_le _, Nat.zero_le _⟩ hK hN KX_T trivial hP hD hS hA rfl rfl rfl rfl rfl rfl (by decide) rfl rfl (fun H locs hP hD hS => ?_)
  refine jif_ne (tgt := 9) hx hb dX8_readKindAndWick_4 (by decide) hJ (fun hJ => ?_) (fun hJ => ?_)
  · refine lv_aload_n hx hb dX8_readKindAndWick_9 rfl (lv_at hl 0 rfl) ?_
    refine lv_aload_n hx hb dX8_readKindAndWick_10 rfl (lv_at hl 0 rfl) ?_
    refine va_get (ci := 6) (v := .int t_number_1) (C := RX8) (T := TX8) (N := 8) hx hb hts hin_X8 hown hK hP 0 rfl rfl 7 (by decide) fl_77 (fun _ h9 => h9) rfl dX8_readKindAndWick_11 ?_
    refine va_put (ci := 6) (v := .int t_number_1) (ty := .int) (C := RX8) (T := TX8) (N := 8) hx hb hts hin_X8 tyX8 tyX8_ok nmX8 hown hK hP hD hS 0 rfl rfl 4 (by decide) fl_25 (fun _ h9 => h9) rfl (by decide +kernel) rfl rfl (Nat.le_of_ble_eq_true rfl) dX8_readKindAndWick_14 (fun H locs hP hD hS => ?_)
    have hP : va_P D vwCl [(q_t, .inr (6, [.ref q_t_signs, .int t_length, .int t_at_1, .int t_word, .int t_number_1, .int t_second, .int t_third, .int t_number_1])), (q_t_signs, .inl (cC, 60, .inl t_signs))] H := hP
    have hD : va_D A [(q_t, .inr (6, [.ref q_t_signs, .int t_length, .int t_at_1, .int t_word, .int t_number_1, .int t_second, .int t_third, .int t_number_1])), (q_t_signs, .inl (cC, 60, .inl t_signs))] := hD
    refine lv_aload_n hx hb dX8_readKindAndWick_17 rfl (lv_at hl 0 rfl) ?_
    refine lv_bipush (v := (42 : Int32)) hx hb dX8_readKindAndWick_18 (by decide) ?_
    obtain ⟨x20, t_at_20, hc20, hJ⟩ := bnd2_some hJ
    refine jcV_i (C := RX8) (T := TX8) (N := 8) (ci := 6) (q0 := 0) (As := [.int (42 : Int32)]) (rest := []) (isC := [0, 1]) (isR := []) (isB := [0, 1]) (wr := []) (ws2 := [(q_t, .inr (6, [.ref q_t_signs, .int t_length, .int t_at_20, .int t_word, .int t_number_1, .int t_second, .int t_third, .int t_number_1])), (q_t_signs, .inl (cC, 60, .inl t_signs))]) hF (c_X8_isRead l D cI cJ cC cL q_t q_t_signs t_length t_at_1 t_word t_number_1 t_second t_third t_number_1 t_signs (42 : Int32) x20 t_at_20 hc20 H.size) (cwV 1 hts gX8_readKindAndWick_X8_isRead rfl rfl rfl (by decide +kernel) ⟨Nat.le_of_ble_eq_true rfl, Nat.le_of_ble_eq_true rfl⟩) rfl hl rfl (Nat.le_of_ble_eq_true rfl) dX8_readKindAndWick_20 ⟨Nat.zero_le _, Nat.zero_le _⟩ hK hN KX_T trivial hP hD hS hA rfl rfl rfl rfl rfl rfl (by decide) rfl rfl (fun H locs hP hD hS => ?_)
    refine jif_eq (tgt := 33) hx hb dX8_readKindAndWick_23 (by decide) hJ (fun hJ => ?_) (fun hJ => ?_)
    · exact B33  t_at_20 t_number_1 t_second t_number_1  H locs  hP hD hS _ (lv_sub hl [] rfl) hJ
    · refine lv_aload_n hx hb dX8_readKindAndWick_26 rfl (lv_at hl 0 rfl) ?_
      obtain ⟨x27, t_at_27, t_number_27, hc27, hJ⟩ := bnd3_some hJ
      refine jcV_i (C := RX8) (T := TX8) (N := 8) (ci := 6) (q0 := 0) (As := []) (rest := []) (isC := [0, 1]) (isR := []) (isB := [0, 1]) (wr := []) (ws2 := [(q_t, .inr (6, [.ref q_t_signs, .int t_length, .int t_at_27, .int t_word, .int t_number_1, .int t_second, .int t_third, .int t_number_27])), (q_t_signs, .inl (cC, 60, .inl t_signs))]) hF (c_X8_isDigitRead l D cI cJ cC cL q_t q_t_signs t_length t_at_20 t_word t_number_1 t_second t_third t_number_1 t_signs x27 t_at_27 t_number_27 hc27 H.size) (cwV 0 hts gX8_readKindAndWick_X8_isDigitRead rfl rfl rfl (by decide +kernel) ⟨Nat.le_of_ble_eq_true rfl, Nat.le_of_ble_eq_true rfl⟩) rfl hl rfl (Nat.le_of_ble_eq_true rfl) dX8_readKindAndWick_27 ⟨Nat.zero_le _, Nat.zero_le _⟩ hK hN KX_T trivial hP hD hS hA rfl rfl rfl rfl rfl rfl (by decide) rfl rfl (fun H locs hP hD hS => ?_)
      refine jif_ne (tgt := 35) hx hb dX8_readKindAndWick_30 (by decide) hJ (fun hJ => ?_) (fun hJ => ?_)
      · refine lv_aload_n hx hb dX8_readKindAndWick_35 rfl (lv_at hl 0 rfl) ?_
        refine lv_aload_n hx hb dX8_readKindAndWick_36 rfl (lv_at hl 0 rfl) ?_
        refine va_get (ci := 6) (v := .int t_number_27) (C := RX8) (T := TX8) (N := 8) hx hb hts hin_X8 hown hK hP 0 rfl rfl 7 (by decide) fl_77 (fun _ h9 => h9) rfl dX8_readKindAndWick_37 ?_
        refine va_put (ci := 6) (v := .int t_number_27) (ty := .int) (C := RX8) (T := TX8) (N := 8) hx hb hts hin_X8 tyX8 tyX8_ok nmX8 hown hK hP hD hS 0 rfl rfl 5 (by decide) fl_28 (fun _ h9 => h9) rfl (by decide +kernel) rfl rfl (Nat.le_of_ble_eq_true rfl) dX8_readKindAndWick_40 (fun H locs hP hD hS => ?_)
        have hP : va_P D vwCl [(q_t, .inr (6, [.ref q_t_signs, .int t_length, .int t_at_27, .int t_word, .int t_number_1, .int t_number_27, .int t_third, .int t_number_27])), (q_t_signs, .inl (cC, 60, .inl t_signs))] H := hP
        have hD : va_D A [(q_t, .inr (6, [.ref q_t_signs, .int t_length, .int t_at_27, .int t_word, .int t_number_1, .int t_number_27, .int t_third, .int t_number_27])), (q_t_signs, .inl (cC, 60, .inl t_signs))] := hD
        refine lv_iconst (v := (1 : Int32)) hx hb dX8_readKindAndWick_43 (by decide) ?_
        obtain ⟨h01, hJ⟩ := chz_ok hJ
        have hJ := Option.some.inj hJ
        obtain ⟨e0, e1, e2, e3, e4⟩ : ((1 : Int32)) = r ∧ (t_at_27) = o_t_at ∧ (t_number_1) = o_t_first ∧ (t_number_27) = o_t_second ∧ (t_number_27) = o_t_number := ⟨congrArg (fun z => z.1) hJ, congrArg (fun z => z.2.1) hJ, congrArg (fun z => z.2.2.1) hJ, congrArg (fun z => z.2.2.2.1) hJ, congrArg (fun z => z.2.2.2.2) hJ⟩
        exact hRet (by rw [← e1, ← e2, ← e3, ← e4]; exact hP) (by rw [← e1, ← e2, ← e3, ← e4]; exact hD) hS h01 e0 dX8_readKindAndWick_44
      · exact B33  t_at_27 t_number_1 t_second t_number_27  H locs  hP hD hS _ (lv_sub hl [] rfl) hJ
  · refine lv_iconst (v := (0 : Int32)) hx hb dX8_readKindAndWick_7 (by decide) ?_
    obtain ⟨h01, hJ⟩ := chz_ok hJ
    have hJ := Option.some.inj hJ
    obtain ⟨e0, e1, e2, e3, e4⟩ : ((0 : Int32)) = r ∧ (t_at_1) = o_t_at ∧ (t_first) = o_t_first ∧ (t_second) = o_t_second ∧ (t_number_1) = o_t_number := ⟨congrArg (fun z => z.1) hJ, congrArg (fun z => z.2.1) hJ, congrArg (fun z => z.2.2.1) hJ, congrArg (fun z => z.2.2.2.1) hJ, congrArg (fun z => z.2.2.2.2) hJ⟩
    exact hRet (by rw [← e1, ← e2, ← e3, ← e4]; exact hP) (by rw [← e1, ← e2, ← e3, ← e4]; exact hD) hS h01 e0 dX8_readKindAndWick_8

def J_X8_readLanternAndPlace_b33 (t_length : Int32) (t_signs : Nat → Int32) (t_at : Int32) (t_first : Int32) (t_second : Int32) (t_number : Int32) : Option (Int32 × Int32 × Int32 × Int32 × Int32) :=
    chz (0 : Int32) (some ((0 : Int32), t_at, t_first, t_second, t_number))
def J_X8_readLanternAndPlace (t_length : Int32) (t_at : Int32) (t_first : Int32) (t_second : Int32) (t_number : Int32) (t_signs : Nat → Int32) : Option (Int32 × Int32 × Int32 × Int32 × Int32) :=
    bnd3 (J_X8_areDigitsRead t_length t_at t_number t_signs) fun x1 t_at_1 t_number_1 =>
    if x1 = 0 then (
    chz (0 : Int32) (some ((0 : Int32), t_at_1, t_first, t_second, t_number_1)))
    else (
    bnd2 (J_X8_isRead t_length t_at_1 t_signs (46 : Int32)) fun x20 t_at_20 =>
    if x20 = 0 then (
    J_X8_readLanternAndPlace_b33 t_length t_signs t_at_20 t_number_1 t_second t_number_1)
    else (
    bnd3 (J_X8_isDigitRead t_length t_at_20 t_number_1 t_signs) fun x27 t_at_27 t_number_27 =>
    if x27 = 0 then (
    J_X8_readLanternAndPlace_b33 t_length t_signs t_at_27 t_number_1 t_second t_number_27)
    else (
    chz (1 : Int32) (some ((1 : Int32), t_at_27, t_number_1, t_number_27, t_number_27)))))
abbrev rmX8_readLanternAndPlace : Room := { frames := 2, cells := 0, slots := 0, locals := 41 }
set_option maxHeartbeats 4000000 in
set_option maxRecDepth 100000 in
theorem c_X8_readLanternAndPlace (l : Launch) (D : va_G) (cI cJ cC cL : ClassId) (q_t q_t_signs : Nat) (t_length : Int32) (t_at : Int32) (t_word : Int32) (t_first : Int32) (t_second : Int32) (t_third : Int32) (t_number : Int32) (t_signs : Nat → Int32) (r : Int32) (o_t_at : Int32) (o_t_first : Int32) (o_t_second : Int32) (o_t_number : Int32) (hJ : J_X8_readLanternAndPlace t_length t_at t_first t_second t_number t_signs = some (r, o_t_at, o_t_first, o_t_second, o_t_number)) (sz : Nat) : Met l yX8_readLanternAndPlace wsX8_readLanternAndPlace rmX8_readLanternAndPlace (va_Pc [.ref q_t] (jpre XT D (tyL cI cJ cC cL) [(q_t, .inr (6, [.ref q_t_signs, .int t_length, .int t_at, .int t_word, .int t_first, .int t_second, .int t_third, .int t_number])), (q_t_signs, .inl (cC, 60, .inl t_signs))] sz)) (va_Qi (fun r' (_ : Unit) => r' = r) (fun _ t => jpost D (tyL cI cJ cC cL) (va_A [(q_t, .inr (6, [.ref q_t_signs, .int t_length, .int t_at, .int t_word, .int t_first, .int t_second, .int t_third, .int t_number])), (q_t_signs, .inl (cC, 60, .inl t_signs))] sz) [(q_t, .inr (6, [.ref q_t_signs, .int t_length, .int o_t_at, .int t_word, .int o_t_first, .int o_t_second, .int t_third, .int o_t_number])), (q_t_signs, .inl (cC, 60, .inl t_signs))] t) (va_A [(q_t, .inr (6, [.ref q_t_signs, .int t_length, .int t_at, .int t_word, .int t_first, .int t_second, .int t_third, .int t_number])), (q_t_signs, .inl (cC, 60, .inl t_signs))] sz)) 0 0 (va_A [(q_t, .inr (6, [.ref q_t_signs, .int t_length, .int t_at, .int t_word, .int t_first, .int t_second, .int t_third, .int t_number])), (q_t_signs, .inl (cC, 60, .inl t_signs))] sz) := by
  refine jE_z (cc := cX8_readLanternAndPlace) (maxL := 1) (own := RX8) (ret := (some .boolean)) (lv0 := [(0, .ref q_t)]) (by decide) rfl rfl rfl (Nat.le_of_ble_eq_true rfl) rfl ?_
  intro p e s m args below meth c A Q ls hx hb hml hown hts hK hN hX hA hP hD hS hl hRet
  have hF : CallFix p m c cX8_readLanternAndPlace 1 s args wsX8_readLanternAndPlace RX8 := ⟨hx, hb, hml, hown, hts⟩
  have fl_25 := hts (.fieldLink RX8 25 "LanternLogic$Text" "first" "I") (by decide +kernel)
  have fl_28 := hts (.fieldLink RX8 28 "LanternLogic$Text" "second" "I") (by decide +kernel)
  have fl_77 := hts (.fieldLink RX8 77 "LanternLogic$Text" "number" "I") (by decide +kernel)
  have hin_X8 : ∀ w ∈ u_ws RX8 TX8 8, w ∈ wsX8_readLanternAndPlace := by decide +kernel
  have B33 : ∀ (t_at : Int32) (t_first : Int32) (t_second : Int32) (t_number : Int32) (H : Heap) (locs : List Loc), va_P D vwCl [(q_t, .inr (6, [.ref q_t_signs, .int t_length, .int t_at, .int t_word, .int t_first, .int t_second, .int t_third, .int t_number])), (q_t_signs, .inl (cC, 60, .inl t_signs))] H → va_D A [(q_t, .inr (6, [.ref q_t_signs, .int t_length, .int t_at, .int t_word, .int t_first, .int t_second, .int t_third, .int t_number])), (q_t_signs, .inl (cC, 60, .inl t_signs))] → va_S A s.heap H locs → ∀ ls : Array Slot, lv_has ls 1 [] → J_X8_readLanternAndPlace_b33  t_length t_signs t_at t_first t_second t_number = some (r, o_t_at, o_t_first, o_t_second, o_t_number) → W p l e rmX8_readLanternAndPlace s m args below meth c H locs 0 0 Q (F0 m 33 ls []) := by
    intro t_at t_first t_second t_number H locs hP hD hS ls hl hJ
    unfold J_X8_readLanternAndPlace_b33 at hJ
    refine lv_iconst (v := (0 : Int32)) hx hb dX8_readLanternAndPlace_33 (by decide) ?_
    obtain ⟨h01, hJ⟩ := chz_ok hJ
    have hJ := Option.some.inj hJ
    obtain ⟨e0, e1, e2, e3, e4⟩ : ((0 : Int32)) = r ∧ (t_at) = o_t_at ∧ (t_first) = o_t_first ∧ (t_second) = o_t_second ∧ (t_number) = o_t_number := ⟨congrArg (fun z => z.1) hJ, congrArg (fun z => z.2.1) hJ, congrArg (fun z => z.2.2.1) hJ, congrArg (fun z => z.2.2.2.1) hJ, congrArg (fun z => z.2.2.2.2) hJ⟩
    exact hRet (by rw [← e1, ← e2, ← e3, ← e4]; exact hP) (by rw [← e1, ← e2, ← e3, ← e4]; exact hD) hS h01 e0 dX8_readLanternAndPlace_34
  unfold J_X8_readLanternAndPlace at hJ
  refine lv_aload_n hx hb dX8_readLanternAndPlace_0 rfl (lv_at hl 0 rfl) ?_
  obtain ⟨x1, t_at_1, t_number_1, hc1, hJ⟩ := bnd3_some hJ
  refine jcV_i (C := RX8) (T := TX8) (N := 8) (ci := 6) (q0 := 0) (As := []) (rest := []) (isC := [0, 1]) (isR := []) (isB := [0, 1]) (wr := []) (ws2 := [(q_t, .inr (6, [.ref q_t_signs, .int t_length, .int t_at_1, .int t_word, .int t_first, .int t_second, .int t_third, .int t_number_1])), (q_t_signs, .inl (cC, 60, .inl t_signs))]) hF (c_X8_areDigitsRead l D cI cJ cC cL q_t q_t_signs t_length t_at t_word t_first t_second t_third t_number t_signs x1 t_at_1 t_number_1 hc1 s.heap.size) (cwV 0 hts gX8_readLanternAndPlace_X8_areDigitsRead rfl rfl rfl (by decide +kernel) ⟨Nat.le_of_ble_eq_true rfl, Nat.le_of_ble_eq_true rfl⟩) rfl hl rfl (Nat.le_of_ble_eq_true rfl) dX8_readLanternAndPlace_1 ⟨Nat.zero_le _, Nat.zero_le _⟩ hK hN KX_T trivial hP hD hS hA rfl rfl rfl rfl rfl rfl (by decide) rfl rfl (fun H locs hP hD hS => ?_)
  refine jif_ne (tgt := 9) hx hb dX8_readLanternAndPlace_4 (by decide) hJ (fun hJ => ?_) (fun hJ => ?_)
  · refine lv_aload_n hx hb dX8_readLanternAndPlace_9 rfl (lv_at hl 0 rfl) ?_
    refine lv_aload_n hx hb dX8_readLanternAndPlace_10 rfl (lv_at hl 0 rfl) ?_
    refine va_get (ci := 6) (v := .int t_number_1) (C := RX8) (T := TX8) (N := 8) hx hb hts hin_X8 hown hK hP 0 rfl rfl 7 (by decide) fl_77 (fun _ h9 => h9) rfl dX8_readLanternAndPlace_11 ?_
    refine va_put (ci := 6) (v := .int t_number_1) (ty := .int) (C := RX8) (T := TX8) (N := 8) hx hb hts hin_X8 tyX8 tyX8_ok nmX8 hown hK hP hD hS 0 rfl rfl 4 (by decide) fl_25 (fun _ h9 => h9) rfl (by decide +kernel) rfl rfl (Nat.le_of_ble_eq_true rfl) dX8_readLanternAndPlace_14 (fun H locs hP hD hS => ?_)
    have hP : va_P D vwCl [(q_t, .inr (6, [.ref q_t_signs, .int t_length, .int t_at_1, .int t_word, .int t_number_1, .int t_second, .int t_third, .int t_number_1])), (q_t_signs, .inl (cC, 60, .inl t_signs))] H := hP
    have hD : va_D A [(q_t, .inr (6, [.ref q_t_signs, .int t_length, .int t_at_1, .int t_word, .int t_number_1, .int t_second, .int t_third, .int t_number_1])), (q_t_signs, .inl (cC, 60, .inl t_signs))] := hD
    refine lv_aload_n hx hb dX8_readLanternAndPlace_17 rfl (lv_at hl 0 rfl) ?_
    refine lv_bipush (v := (46 : Int32)) hx hb dX8_readLanternAndPlace_18 (by decide) ?_
    obtain ⟨x20, t_at_20, hc20, hJ⟩ := bnd2_some hJ
    refine jcV_i (C := RX8) (T := TX8) (N := 8) (ci := 6) (q0 := 0) (As := [.int (46 : Int32)]) (rest := []) (isC := [0, 1]) (isR := []) (isB := [0, 1]) (wr := []) (ws2 := [(q_t, .inr (6, [.ref q_t_signs, .int t_length, .int t_at_20, .int t_word, .int t_number_1, .int t_second, .int t_third, .int t_number_1])), (q_t_signs, .inl (cC, 60, .inl t_signs))]) hF (c_X8_isRead l D cI cJ cC cL q_t q_t_signs t_length t_at_1 t_word t_number_1 t_second t_third t_number_1 t_signs (46 : Int32) x20 t_at_20 hc20 H.size) (cwV 1 hts gX8_readLanternAndPlace_X8_isRead rfl rfl rfl (by decide +kernel) ⟨Nat.le_of_ble_eq_true rfl, Nat.le_of_ble_eq_true rfl⟩) rfl hl rfl (Nat.le_of_ble_eq_true rfl) dX8_readLanternAndPlace_20 ⟨Nat.zero_le _, Nat.zero_le _⟩ hK hN KX_T trivial hP hD hS hA rfl rfl rfl rfl rfl rfl (by decide) rfl rfl (fun H locs hP hD hS => ?_)
    refine jif_eq (tgt := 33) hx hb dX8_readLanternAndPlace_23 (by decide) hJ (fun hJ => ?_) (fun hJ => ?_)
    · exact B33  t_at_20 t_number_1 t_second t_number_1  H locs  hP hD hS _ (lv_sub hl [] rfl) hJ
    · refine lv_aload_n hx hb dX8_readLanternAndPlace_26 rfl (lv_at hl 0 rfl) ?_
      obtain ⟨x27, t_at_27, t_number_27, hc27, hJ⟩ := bnd3_some hJ
      refine jcV_i (C := RX8) (T := TX8) (N := 8) (ci := 6) (q0 := 0) (As := []) (rest := []) (isC := [0, 1]) (isR := []) (isB := [0, 1]) (wr := []) (ws2 := [(q_t, .inr (6, [.ref q_t_signs, .int t_length, .int t_at_27, .int t_word, .int t_number_1, .int t_second, .int t_third, .int t_number_27])), (q_t_signs, .inl (cC, 60, .inl t_signs))]) hF (c_X8_isDigitRead l D cI cJ cC cL q_t q_t_signs t_length t_at_20 t_word t_number_1 t_second t_third t_number_1 t_signs x27 t_at_27 t_number_27 hc27 H.size) (cwV 0 hts gX8_readLanternAndPlace_X8_isDigitRead rfl rfl rfl (by decide +kernel) ⟨Nat.le_of_ble_eq_true rfl, Nat.le_of_ble_eq_true rfl⟩) rfl hl rfl (Nat.le_of_ble_eq_true rfl) dX8_readLanternAndPlace_27 ⟨Nat.zero_le _, Nat.zero_le _⟩ hK hN KX_T trivial hP hD hS hA rfl rfl rfl rfl rfl rfl (by decide) rfl rfl (fun H locs hP hD hS => ?_)
      refine jif_ne (tgt := 35) hx hb dX8_readLanternAndPlace_30 (by decide) hJ (fun hJ => ?_) (fun hJ => ?_)
      · refine lv_aload_n hx hb dX8_readLanternAndPlace_35 rfl (lv_at hl 0 rfl) ?_
        refine lv_aload_n hx hb dX8_readLanternAndPlace_36 rfl (lv_at hl 0 rfl) ?_
        refine va_get (ci := 6) (v := .int t_number_27) (C := RX8) (T := TX8) (N := 8) hx hb hts hin_X8 hown hK hP 0 rfl rfl 7 (by decide) fl_77 (fun _ h9 => h9) rfl dX8_readLanternAndPlace_37 ?_
        refine va_put (ci := 6) (v := .int t_number_27) (ty := .int) (C := RX8) (T := TX8) (N := 8) hx hb hts hin_X8 tyX8 tyX8_ok nmX8 hown hK hP hD hS 0 rfl rfl 5 (by decide) fl_28 (fun _ h9 => h9) rfl (by decide +kernel) rfl rfl (Nat.le_of_ble_eq_true rfl) dX8_readLanternAndPlace_40 (fun H locs hP hD hS => ?_)
        have hP : va_P D vwCl [(q_t, .inr (6, [.ref q_t_signs, .int t_length, .int t_at_27, .int t_word, .int t_number_1, .int t_number_27, .int t_third, .int t_number_27])), (q_t_signs, .inl (cC, 60, .inl t_signs))] H := hP
        have hD : va_D A [(q_t, .inr (6, [.ref q_t_signs, .int t_length, .int t_at_27, .int t_word, .int t_number_1, .int t_number_27, .int t_third, .int t_number_27])), (q_t_signs, .inl (cC, 60, .inl t_signs))] := hD
        refine lv_iconst (v := (1 : Int32)) hx hb dX8_readLanternAndPlace_43 (by decide) ?_
        obtain ⟨h01, hJ⟩ := chz_ok hJ
        have hJ := Option.some.inj hJ
        obtain ⟨e0, e1, e2, e3, e4⟩ : ((1 : Int32)) = r ∧ (t_at_27) = o_t_at ∧ (t_number_1) = o_t_first ∧ (t_number_27) = o_t_second ∧ (t_number_27) = o_t_number := ⟨congrArg (fun z => z.1) hJ, congrArg (fun z => z.2.1) hJ, congrArg (fun z => z.2.2.1) hJ, congrArg (fun z => z.2.2.2.1) hJ, congrArg (fun z => z.2.2.2.2) hJ⟩
        exact hRet (by rw [← e1, ← e2, ← e3, ← e4]; exact hP) (by rw [← e1, ← e2, ← e3, ← e4]; exact hD) hS h01 e0 dX8_readLanternAndPlace_44
      · exact B33  t_at_27 t_number_1 t_second t_number_27  H locs  hP hD hS _ (lv_sub hl [] rfl) hJ
  · refine lv_iconst (v := (0 : Int32)) hx hb dX8_readLanternAndPlace_7 (by decide) ?_
    obtain ⟨h01, hJ⟩ := chz_ok hJ
    have hJ := Option.some.inj hJ
    obtain ⟨e0, e1, e2, e3, e4⟩ : ((0 : Int32)) = r ∧ (t_at_1) = o_t_at ∧ (t_first) = o_t_first ∧ (t_second) = o_t_second ∧ (t_number_1) = o_t_number := ⟨congrArg (fun z => z.1) hJ, congrArg (fun z => z.2.1) hJ, congrArg (fun z => z.2.2.1) hJ, congrArg (fun z => z.2.2.2.1) hJ, congrArg (fun z => z.2.2.2.2) hJ⟩
    exact hRet (by rw [← e1, ← e2, ← e3, ← e4]; exact hP) (by rw [← e1, ← e2, ← e3, ← e4]; exact hD) hS h01 e0 dX8_readLanternAndPlace_8

def J_X8_readFrom_b16 (t_length : Int32) (t_signs : Nat → Int32) (t_at : Int32) (t_third : Int32) (t_number : Int32) : Option (Int32 × Int32 × Int32 × Int32) :=
    chz (0 : Int32) (some ((0 : Int32), t_at, t_third, t_number))
def J_X8_readFrom (t_length : Int32) (t_at : Int32) (t_third : Int32) (t_number : Int32) (t_signs : Nat → Int32) : Option (Int32 × Int32 × Int32 × Int32) :=
    bnd2 (J_X8_isRead t_length t_at t_signs (60 : Int32)) fun x3 t_at_3 =>
    if x3 = 0 then (
    J_X8_readFrom_b16 t_length t_signs t_at_3 t_third t_number)
    else (
    bnd3 (J_X8_areDigitsRead t_length t_at_3 t_number t_signs) fun x10 t_at_10 t_number_10 =>
    if x10 = 0 then (
    J_X8_readFrom_b16 t_length t_signs t_at_10 t_third t_number_10)
    else (
    chz (1 : Int32) (some ((1 : Int32), t_at_10, t_number_10, t_number_10))))
abbrev rmX8_readFrom : Room := { frames := 2, cells := 0, slots := 0, locals := 41 }
set_option maxHeartbeats 4000000 in
set_option maxRecDepth 100000 in
theorem c_X8_readFrom (l : Launch) (D : va_G) (cI cJ cC cL : ClassId) (q_t q_t_signs : Nat) (t_length : Int32) (t_at : Int32) (t_word : Int32) (t_first : Int32) (t_second : Int32) (t_third : Int32) (t_number : Int32) (t_signs : Nat → Int32) (r : Int32) (o_t_at : Int32) (o_t_third : Int32) (o_t_number : Int32) (hJ : J_X8_readFrom t_length t_at t_third t_number t_signs = some (r, o_t_at, o_t_third, o_t_number)) (sz : Nat) : Met l yX8_readFrom wsX8_readFrom rmX8_readFrom (va_Pc [.ref q_t] (jpre XT D (tyL cI cJ cC cL) [(q_t, .inr (6, [.ref q_t_signs, .int t_length, .int t_at, .int t_word, .int t_first, .int t_second, .int t_third, .int t_number])), (q_t_signs, .inl (cC, 60, .inl t_signs))] sz)) (va_Qi (fun r' (_ : Unit) => r' = r) (fun _ t => jpost D (tyL cI cJ cC cL) (va_A [(q_t, .inr (6, [.ref q_t_signs, .int t_length, .int t_at, .int t_word, .int t_first, .int t_second, .int t_third, .int t_number])), (q_t_signs, .inl (cC, 60, .inl t_signs))] sz) [(q_t, .inr (6, [.ref q_t_signs, .int t_length, .int o_t_at, .int t_word, .int t_first, .int t_second, .int o_t_third, .int o_t_number])), (q_t_signs, .inl (cC, 60, .inl t_signs))] t) (va_A [(q_t, .inr (6, [.ref q_t_signs, .int t_length, .int t_at, .int t_word, .int t_first, .int t_second, .int t_third, .int t_number])), (q_t_signs, .inl (cC, 60, .inl t_signs))] sz)) 0 0 (va_A [(q_t, .inr (6, [.ref q_t_signs, .int t_length, .int t_at, .int t_word, .int t_first, .int t_second, .int t_third, .int t_number])), (q_t_signs, .inl (cC, 60, .inl t_signs))] sz) := by
  refine jE_z (cc := cX8_readFrom) (maxL := 1) (own := RX8) (ret := (some .boolean)) (lv0 := [(0, .ref q_t)]) (by decide) rfl rfl rfl (Nat.le_of_ble_eq_true rfl) rfl ?_
  intro p e s m args below meth c A Q ls hx hb hml hown hts hK hN hX hA hP hD hS hl hRet
  have hF : CallFix p m c cX8_readFrom 1 s args wsX8_readFrom RX8 := ⟨hx, hb, hml, hown, hts⟩
  have fl_31 := hts (.fieldLink RX8 31 "LanternLogic$Text" "third" "I") (by decide +kernel)
  have fl_77 := hts (.fieldLink RX8 77 "LanternLogic$Text" "number" "I") (by decide +kernel)
  have hin_X8 : ∀ w ∈ u_ws RX8 TX8 8, w ∈ wsX8_readFrom := by decide +kernel
  have B16 : ∀ (t_at : Int32) (t_third : Int32) (t_number : Int32) (H : Heap) (locs : List Loc), va_P D vwCl [(q_t, .inr (6, [.ref q_t_signs, .int t_length, .int t_at, .int t_word, .int t_first, .int t_second, .int t_third, .int t_number])), (q_t_signs, .inl (cC, 60, .inl t_signs))] H → va_D A [(q_t, .inr (6, [.ref q_t_signs, .int t_length, .int t_at, .int t_word, .int t_first, .int t_second, .int t_third, .int t_number])), (q_t_signs, .inl (cC, 60, .inl t_signs))] → va_S A s.heap H locs → ∀ ls : Array Slot, lv_has ls 1 [] → J_X8_readFrom_b16  t_length t_signs t_at t_third t_number = some (r, o_t_at, o_t_third, o_t_number) → W p l e rmX8_readFrom s m args below meth c H locs 0 0 Q (F0 m 16 ls []) := by
    intro t_at t_third t_number H locs hP hD hS ls hl hJ
    unfold J_X8_readFrom_b16 at hJ
    refine lv_iconst (v := (0 : Int32)) hx hb dX8_readFrom_16 (by decide) ?_
    obtain ⟨h01, hJ⟩ := chz_ok hJ
    have hJ := Option.some.inj hJ
    obtain ⟨e0, e1, e2, e3⟩ : ((0 : Int32)) = r ∧ (t_at) = o_t_at ∧ (t_third) = o_t_third ∧ (t_number) = o_t_number := ⟨congrArg (fun z => z.1) hJ, congrArg (fun z => z.2.1) hJ, congrArg (fun z => z.2.2.1) hJ, congrArg (fun z => z.2.2.2) hJ⟩
    exact hRet (by rw [← e1, ← e2, ← e3]; exact hP) (by rw [← e1, ← e2, ← e3]; exact hD) hS h01 e0 dX8_readFrom_17
  unfold J_X8_readFrom at hJ
  refine lv_aload_n hx hb dX8_readFrom_0 rfl (lv_at hl 0 rfl) ?_
  refine lv_bipush (v := (60 : Int32)) hx hb dX8_readFrom_1 (by decide) ?_
  obtain ⟨x3, t_at_3, hc3, hJ⟩ := bnd2_some hJ
  refine jcV_i (C := RX8) (T := TX8) (N := 8) (ci := 6) (q0 := 0) (As := [.int (60 : Int32)]) (rest := []) (isC := [0, 1]) (isR := []) (isB := [0, 1]) (wr := []) (ws2 := [(q_t, .inr (6, [.ref q_t_signs, .int t_length, .int t_at_3, .int t_word, .int t_first, .int t_second, .int t_third, .int t_number])), (q_t_signs, .inl (cC, 60, .inl t_signs))]) hF (c_X8_isRead l D cI cJ cC cL q_t q_t_signs t_length t_at t_word t_first t_second t_third t_number t_signs (60 : Int32) x3 t_at_3 hc3 s.heap.size) (cwV 1 hts gX8_readFrom_X8_isRead rfl rfl rfl (by decide +kernel) ⟨Nat.le_of_ble_eq_true rfl, Nat.le_of_ble_eq_true rfl⟩) rfl hl rfl (Nat.le_of_ble_eq_true rfl) dX8_readFrom_3 ⟨Nat.zero_le _, Nat.zero_le _⟩ hK hN KX_T trivial hP hD hS hA rfl rfl rfl rfl rfl rfl (by decide) rfl rfl (fun H locs hP hD hS => ?_)
  refine jif_eq (tgt := 16) hx hb dX8_readFrom_6 (by decide) hJ (fun hJ => ?_) (fun hJ => ?_)
  · exact B16  t_at_3 t_third t_number  H locs  hP hD hS _ (lv_sub hl [] rfl) hJ
  · refine lv_aload_n hx hb dX8_readFrom_9 rfl (lv_at hl 0 rfl) ?_
    obtain ⟨x10, t_at_10, t_number_10, hc10, hJ⟩ := bnd3_some hJ
    refine jcV_i (C := RX8) (T := TX8) (N := 8) (ci := 6) (q0 := 0) (As := []) (rest := []) (isC := [0, 1]) (isR := []) (isB := [0, 1]) (wr := []) (ws2 := [(q_t, .inr (6, [.ref q_t_signs, .int t_length, .int t_at_10, .int t_word, .int t_first, .int t_second, .int t_third, .int t_number_10])), (q_t_signs, .inl (cC, 60, .inl t_signs))]) hF (c_X8_areDigitsRead l D cI cJ cC cL q_t q_t_signs t_length t_at_3 t_word t_first t_second t_third t_number t_signs x10 t_at_10 t_number_10 hc10 H.size) (cwV 0 hts gX8_readFrom_X8_areDigitsRead rfl rfl rfl (by decide +kernel) ⟨Nat.le_of_ble_eq_true rfl, Nat.le_of_ble_eq_true rfl⟩) rfl hl rfl (Nat.le_of_ble_eq_true rfl) dX8_readFrom_10 ⟨Nat.zero_le _, Nat.zero_le _⟩ hK hN KX_T trivial hP hD hS hA rfl rfl rfl rfl rfl rfl (by decide) rfl rfl (fun H locs hP hD hS => ?_)
    refine jif_ne (tgt := 18) hx hb dX8_readFrom_13 (by decide) hJ (fun hJ => ?_) (fun hJ => ?_)
    · refine lv_aload_n hx hb dX8_readFrom_18 rfl (lv_at hl 0 rfl) ?_
      refine lv_aload_n hx hb dX8_readFrom_19 rfl (lv_at hl 0 rfl) ?_
      refine va_get (ci := 6) (v := .int t_number_10) (C := RX8) (T := TX8) (N := 8) hx hb hts hin_X8 hown hK hP 0 rfl rfl 7 (by decide) fl_77 (fun _ h9 => h9) rfl dX8_readFrom_20 ?_
      refine va_put (ci := 6) (v := .int t_number_10) (ty := .int) (C := RX8) (T := TX8) (N := 8) hx hb hts hin_X8 tyX8 tyX8_ok nmX8 hown hK hP hD hS 0 rfl rfl 6 (by decide) fl_31 (fun _ h9 => h9) rfl (by decide +kernel) rfl rfl (Nat.le_of_ble_eq_true rfl) dX8_readFrom_23 (fun H locs hP hD hS => ?_)
      have hP : va_P D vwCl [(q_t, .inr (6, [.ref q_t_signs, .int t_length, .int t_at_10, .int t_word, .int t_first, .int t_second, .int t_number_10, .int t_number_10])), (q_t_signs, .inl (cC, 60, .inl t_signs))] H := hP
      have hD : va_D A [(q_t, .inr (6, [.ref q_t_signs, .int t_length, .int t_at_10, .int t_word, .int t_first, .int t_second, .int t_number_10, .int t_number_10])), (q_t_signs, .inl (cC, 60, .inl t_signs))] := hD
      refine lv_iconst (v := (1 : Int32)) hx hb dX8_readFrom_26 (by decide) ?_
      obtain ⟨h01, hJ⟩ := chz_ok hJ
      have hJ := Option.some.inj hJ
      obtain ⟨e0, e1, e2, e3⟩ : ((1 : Int32)) = r ∧ (t_at_10) = o_t_at ∧ (t_number_10) = o_t_third ∧ (t_number_10) = o_t_number := ⟨congrArg (fun z => z.1) hJ, congrArg (fun z => z.2.1) hJ, congrArg (fun z => z.2.2.1) hJ, congrArg (fun z => z.2.2.2) hJ⟩
      exact hRet (by rw [← e1, ← e2, ← e3]; exact hP) (by rw [← e1, ← e2, ← e3]; exact hD) hS h01 e0 dX8_readFrom_27
    · exact B16  t_at_10 t_third t_number_10  H locs  hP hD hS _ (lv_sub hl [] rfl) hJ

def J_X8_readLanternAndGlow_b57 (t_length : Int32) (t_signs : Nat → Int32) (t_at : Int32) (t_first : Int32) (t_second : Int32) (t_number : Int32) (s57_0 : Int32) : Option (Int32 × Int32 × Int32 × Int32 × Int32) :=
    chz s57_0 (some (s57_0, t_at, t_first, t_second, t_number))
def J_X8_readLanternAndGlow_b52 (t_length : Int32) (t_signs : Nat → Int32) (t_at : Int32) (t_first : Int32) (t_second : Int32) (t_number : Int32) : Option (Int32 × Int32 × Int32 × Int32 × Int32) :=
    J_X8_readLanternAndGlow_b57 t_length t_signs t_at t_first t_second t_number (1 : Int32)
def J_X8_readLanternAndGlow_b32 (t_length : Int32) (t_signs : Nat → Int32) (t_at : Int32) (t_first : Int32) (t_second : Int32) (t_number : Int32) (s32_1 : Int32) : Option (Int32 × Int32 × Int32 × Int32 × Int32) :=
    if s32_1 = (1 : Int32) then (
    J_X8_readLanternAndGlow_b52 t_length t_signs t_at t_first s32_1 t_number)
    else (
    bnd2 (J_X8_isRead t_length t_at t_signs (45 : Int32)) fun x46 t_at_46 =>
    if x46 = 0 then (
    J_X8_readLanternAndGlow_b57 t_length t_signs t_at_46 t_first s32_1 t_number (0 : Int32))
    else (
    J_X8_readLanternAndGlow_b52 t_length t_signs t_at_46 t_first s32_1 t_number))
def J_X8_readLanternAndGlow (t_length : Int32) (t_at : Int32) (t_first : Int32) (t_second : Int32) (t_number : Int32) (t_signs : Nat → Int32) : Option (Int32 × Int32 × Int32 × Int32 × Int32) :=
    bnd3 (J_X8_areDigitsRead t_length t_at t_number t_signs) fun x1 t_at_1 t_number_1 =>
    if x1 = 0 then (
    chz (0 : Int32) (some ((0 : Int32), t_at_1, t_first, t_second, t_number_1)))
    else (
    bnd2 (J_X8_isRead t_length t_at_1 t_signs (43 : Int32)) fun x21 t_at_21 =>
    if x21 = 0 then (
    J_X8_readLanternAndGlow_b32 t_length t_signs t_at_21 t_number_1 t_second t_number_1 (0 : Int32))
    else (
    J_X8_readLanternAndGlow_b32 t_length t_signs t_at_21 t_number_1 t_second t_number_1 (1 : Int32)))
abbrev rmX8_readLanternAndGlow : Room := { frames := 2, cells := 0, slots := 0, locals := 41 }
set_option maxHeartbeats 4000000 in
set_option maxRecDepth 100000 in
theorem c_X8_readLanternAndGlow (l : Launch) (D : va_G) (cI cJ cC cL : ClassId) (q_t q_t_signs : Nat) (t_length : Int32) (t_at : Int32) (t_word : Int32) (t_first : Int32) (t_second : Int32) (t_third : Int32) (t_number : Int32) (t_signs : Nat → Int32) (r : Int32) (o_t_at : Int32) (o_t_first : Int32) (o_t_second : Int32) (o_t_number : Int32) (hJ : J_X8_readLanternAndGlow t_length t_at t_first t_second t_number t_signs = some (r, o_t_at, o_t_first, o_t_second, o_t_number)) (sz : Nat) : Met l yX8_readLanternAndGlow wsX8_readLanternAndGlow rmX8_readLanternAndGlow (va_Pc [.ref q_t] (jpre XT D (tyL cI cJ cC cL) [(q_t, .inr (6, [.ref q_t_signs, .int t_length, .int t_at, .int t_word, .int t_first, .int t_second, .int t_third, .int t_number])), (q_t_signs, .inl (cC, 60, .inl t_signs))] sz)) (va_Qi (fun r' (_ : Unit) => r' = r) (fun _ t => jpost D (tyL cI cJ cC cL) (va_A [(q_t, .inr (6, [.ref q_t_signs, .int t_length, .int t_at, .int t_word, .int t_first, .int t_second, .int t_third, .int t_number])), (q_t_signs, .inl (cC, 60, .inl t_signs))] sz) [(q_t, .inr (6, [.ref q_t_signs, .int t_length, .int o_t_at, .int t_word, .int o_t_first, .int o_t_second, .int t_third, .int o_t_number])), (q_t_signs, .inl (cC, 60, .inl t_signs))] t) (va_A [(q_t, .inr (6, [.ref q_t_signs, .int t_length, .int t_at, .int t_word, .int t_first, .int t_second, .int t_third, .int t_number])), (q_t_signs, .inl (cC, 60, .inl t_signs))] sz)) 0 0 (va_A [(q_t, .inr (6, [.ref q_t_signs, .int t_length, .int t_at, .int t_word, .int t_first, .int t_second, .int t_third, .int t_number])), (q_t_signs, .inl (cC, 60, .inl t_signs))] sz) := by
  refine jE_z (cc := cX8_readLanternAndGlow) (maxL := 1) (own := RX8) (ret := (some .boolean)) (lv0 := [(0, .ref q_t)]) (by decide) rfl rfl rfl (Nat.le_of_ble_eq_true rfl) rfl ?_
  intro p e s m args below meth c A Q ls hx hb hml hown hts hK hN hX hA hP hD hS hl hRet
  have hF : CallFix p m c cX8_readLanternAndGlow 1 s args wsX8_readLanternAndGlow RX8 := ⟨hx, hb, hml, hown, hts⟩
  have fl_25 := hts (.fieldLink RX8 25 "LanternLogic$Text" "first" "I") (by decide +kernel)
  have fl_28 := hts (.fieldLink RX8 28 "LanternLogic$Text" "second" "I") (by decide +kernel)
  have fl_77 := hts (.fieldLink RX8 77 "LanternLogic$Text" "number" "I") (by decide +kernel)
  have hin_X8 : ∀ w ∈ u_ws RX8 TX8 8, w ∈ wsX8_readLanternAndGlow := by decide +kernel
  have B57 : ∀ (t_at : Int32) (t_first : Int32) (t_second : Int32) (t_number : Int32) (s57_0 : Int32) (H : Heap) (locs : List Loc), va_P D vwCl [(q_t, .inr (6, [.ref q_t_signs, .int t_length, .int t_at, .int t_word, .int t_first, .int t_second, .int t_third, .int t_number])), (q_t_signs, .inl (cC, 60, .inl t_signs))] H → va_D A [(q_t, .inr (6, [.ref q_t_signs, .int t_length, .int t_at, .int t_word, .int t_first, .int t_second, .int t_third, .int t_number])), (q_t_signs, .inl (cC, 60, .inl t_signs))] → va_S A s.heap H locs → ∀ ls : Array Slot, lv_has ls 1 [] → J_X8_readLanternAndGlow_b57  t_length t_signs t_at t_first t_second t_number s57_0 = some (r, o_t_at, o_t_first, o_t_second, o_t_number) → W p l e rmX8_readLanternAndGlow s m args below meth c H locs 0 0 Q (F0 m 57 ls [.int s57_0]) := by
    intro t_at t_first t_second t_number s57_0 H locs hP hD hS ls hl hJ
    unfold J_X8_readLanternAndGlow_b57 at hJ
    obtain ⟨h01, hJ⟩ := chz_ok hJ
    have hJ := Option.some.inj hJ
    obtain ⟨e0, e1, e2, e3, e4⟩ : (s57_0) = r ∧ (t_at) = o_t_at ∧ (t_first) = o_t_first ∧ (t_second) = o_t_second ∧ (t_number) = o_t_number := ⟨congrArg (fun z => z.1) hJ, congrArg (fun z => z.2.1) hJ, congrArg (fun z => z.2.2.1) hJ, congrArg (fun z => z.2.2.2.1) hJ, congrArg (fun z => z.2.2.2.2) hJ⟩
    exact hRet (by rw [← e1, ← e2, ← e3, ← e4]; exact hP) (by rw [← e1, ← e2, ← e3, ← e4]; exact hD) hS h01 e0 dX8_readLanternAndGlow_57
  have B52 : ∀ (t_at : Int32) (t_first : Int32) (t_second : Int32) (t_number : Int32) (H : Heap) (locs : List Loc), va_P D vwCl [(q_t, .inr (6, [.ref q_t_signs, .int t_length, .int t_at, .int t_word, .int t_first, .int t_second, .int t_third, .int t_number])), (q_t_signs, .inl (cC, 60, .inl t_signs))] H → va_D A [(q_t, .inr (6, [.ref q_t_signs, .int t_length, .int t_at, .int t_word, .int t_first, .int t_second, .int t_third, .int t_number])), (q_t_signs, .inl (cC, 60, .inl t_signs))] → va_S A s.heap H locs → ∀ ls : Array Slot, lv_has ls 1 [] → J_X8_readLanternAndGlow_b52  t_length t_signs t_at t_first t_second t_number = some (r, o_t_at, o_t_first, o_t_second, o_t_number) → W p l e rmX8_readLanternAndGlow s m args below meth c H locs 0 0 Q (F0 m 52 ls []) := by
    intro t_at t_first t_second t_number H locs hP hD hS ls hl hJ
    unfold J_X8_readLanternAndGlow_b52 at hJ
    refine lv_iconst (v := (1 : Int32)) hx hb dX8_readLanternAndGlow_52 (by decide) ?_
    refine lv_goto (tgt := 57) hx hb dX8_readLanternAndGlow_53 (by decide) ?_
    exact B57  t_at t_first t_second t_number (1 : Int32)  H locs  hP hD hS _ (lv_sub hl [] rfl) hJ
  have B32 : ∀ (t_at : Int32) (t_first : Int32) (t_second : Int32) (t_number : Int32) (s32_1 : Int32) (H : Heap) (locs : List Loc), va_P D vwCl [(q_t, .inr (6, [.ref q_t_signs, .int t_length, .int t_at, .int t_word, .int t_first, .int t_second, .int t_third, .int t_number])), (q_t_signs, .inl (cC, 60, .inl t_signs))] H → va_D A [(q_t, .inr (6, [.ref q_t_signs, .int t_length, .int t_at, .int t_word, .int t_first, .int t_second, .int t_third, .int t_number])), (q_t_signs, .inl (cC, 60, .inl t_signs))] → va_S A s.heap H locs → ∀ ls : Array Slot, lv_has ls 1 [(0, .ref q_t)] → J_X8_readLanternAndGlow_b32  t_length t_signs t_at t_first t_second t_number s32_1 = some (r, o_t_at, o_t_first, o_t_second, o_t_number) → W p l e rmX8_readLanternAndGlow s m args below meth c H locs 0 0 Q (F0 m 32 ls [.int s32_1, .ref q_t]) := by
    intro t_at t_first t_second t_number s32_1 H locs hP hD hS ls hl hJ
    unfold J_X8_readLanternAndGlow_b32 at hJ
    refine va_put (ci := 6) (v := .int s32_1) (ty := .int) (C := RX8) (T := TX8) (N := 8) hx hb hts hin_X8 tyX8 tyX8_ok nmX8 hown hK hP hD hS 0 rfl rfl 5 (by decide) fl_28 (fun _ h9 => h9) rfl (by decide +kernel) rfl rfl (Nat.le_of_ble_eq_true rfl) dX8_readLanternAndGlow_32 (fun H locs hP hD hS => ?_)
    have hP : va_P D vwCl [(q_t, .inr (6, [.ref q_t_signs, .int t_length, .int t_at, .int t_word, .int t_first, .int s32_1, .int t_third, .int t_number])), (q_t_signs, .inl (cC, 60, .inl t_signs))] H := hP
    have hD : va_D A [(q_t, .inr (6, [.ref q_t_signs, .int t_length, .int t_at, .int t_word, .int t_first, .int s32_1, .int t_third, .int t_number])), (q_t_signs, .inl (cC, 60, .inl t_signs))] := hD
    refine lv_aload_n hx hb dX8_readLanternAndGlow_35 rfl (lv_at hl 0 rfl) ?_
    refine va_get (ci := 6) (v := .int s32_1) (C := RX8) (T := TX8) (N := 8) hx hb hts hin_X8 hown hK hP 0 rfl rfl 5 (by decide) fl_28 (fun _ h9 => h9) rfl dX8_readLanternAndGlow_36 ?_
    refine lv_iconst (v := (1 : Int32)) hx hb dX8_readLanternAndGlow_39 (by decide) ?_
    refine jif_icmp_eq (tgt := 52) hx hb dX8_readLanternAndGlow_40 (by decide) hJ (fun hJ => ?_) (fun hJ => ?_)
    · exact B52  t_at t_first s32_1 t_number  H locs  hP hD hS _ (lv_sub hl [] rfl) hJ
    · refine lv_aload_n hx hb dX8_readLanternAndGlow_43 rfl (lv_at hl 0 rfl) ?_
      refine lv_bipush (v := (45 : Int32)) hx hb dX8_readLanternAndGlow_44 (by decide) ?_
      obtain ⟨x46, t_at_46, hc46, hJ⟩ := bnd2_some hJ
      refine jcV_i (C := RX8) (T := TX8) (N := 8) (ci := 6) (q0 := 0) (As := [.int (45 : Int32)]) (rest := []) (isC := [0, 1]) (isR := []) (isB := [0, 1]) (wr := []) (ws2 := [(q_t, .inr (6, [.ref q_t_signs, .int t_length, .int t_at_46, .int t_word, .int t_first, .int s32_1, .int t_third, .int t_number])), (q_t_signs, .inl (cC, 60, .inl t_signs))]) hF (c_X8_isRead l D cI cJ cC cL q_t q_t_signs t_length t_at t_word t_first s32_1 t_third t_number t_signs (45 : Int32) x46 t_at_46 hc46 H.size) (cwV 1 hts gX8_readLanternAndGlow_X8_isRead rfl rfl rfl (by decide +kernel) ⟨Nat.le_of_ble_eq_true rfl, Nat.le_of_ble_eq_true rfl⟩) rfl hl rfl (Nat.le_of_ble_eq_true rfl) dX8_readLanternAndGlow_46 ⟨Nat.zero_le _, Nat.zero_le _⟩ hK hN KX_T trivial hP hD hS hA rfl rfl rfl rfl rfl rfl (by decide) rfl rfl (fun H locs hP hD hS => ?_)
      refine jif_eq (tgt := 56) hx hb dX8_readLanternAndGlow_49 (by decide) hJ (fun hJ => ?_) (fun hJ => ?_)
      · refine lv_iconst (v := (0 : Int32)) hx hb dX8_readLanternAndGlow_56 (by decide) ?_
        exact B57  t_at_46 t_first s32_1 t_number (0 : Int32)  H locs  hP hD hS _ (lv_sub hl [] rfl) hJ
      · exact B52  t_at_46 t_first s32_1 t_number  H locs  hP hD hS _ (lv_sub hl [] rfl) hJ
  unfold J_X8_readLanternAndGlow at hJ
  refine lv_aload_n hx hb dX8_readLanternAndGlow_0 rfl (lv_at hl 0 rfl) ?_
  obtain ⟨x1, t_at_1, t_number_1, hc1, hJ⟩ := bnd3_some hJ
  refine jcV_i (C := RX8) (T := TX8) (N := 8) (ci := 6) (q0 := 0) (As := []) (rest := []) (isC := [0, 1]) (isR := []) (isB := [0, 1]) (wr := []) (ws2 := [(q_t, .inr (6, [.ref q_t_signs, .int t_length, .int t_at_1, .int t_word, .int t_first, .int t_second, .int t_third, .int t_number_1])), (q_t_signs, .inl (cC, 60, .inl t_signs))]) hF (c_X8_areDigitsRead l D cI cJ cC cL q_t q_t_signs t_length t_at t_word t_first t_second t_third t_number t_signs x1 t_at_1 t_number_1 hc1 s.heap.size) (cwV 0 hts gX8_readLanternAndGlow_X8_areDigitsRead rfl rfl rfl (by decide +kernel) ⟨Nat.le_of_ble_eq_true rfl, Nat.le_of_ble_eq_true rfl⟩) rfl hl rfl (Nat.le_of_ble_eq_true rfl) dX8_readLanternAndGlow_1 ⟨Nat.zero_le _, Nat.zero_le _⟩ hK hN KX_T trivial hP hD hS hA rfl rfl rfl rfl rfl rfl (by decide) rfl rfl (fun H locs hP hD hS => ?_)
  refine jif_ne (tgt := 9) hx hb dX8_readLanternAndGlow_4 (by decide) hJ (fun hJ => ?_) (fun hJ => ?_)
  · refine lv_aload_n hx hb dX8_readLanternAndGlow_9 rfl (lv_at hl 0 rfl) ?_
    refine lv_aload_n hx hb dX8_readLanternAndGlow_10 rfl (lv_at hl 0 rfl) ?_
    refine va_get (ci := 6) (v := .int t_number_1) (C := RX8) (T := TX8) (N := 8) hx hb hts hin_X8 hown hK hP 0 rfl rfl 7 (by decide) fl_77 (fun _ h9 => h9) rfl dX8_readLanternAndGlow_11 ?_
    refine va_put (ci := 6) (v := .int t_number_1) (ty := .int) (C := RX8) (T := TX8) (N := 8) hx hb hts hin_X8 tyX8 tyX8_ok nmX8 hown hK hP hD hS 0 rfl rfl 4 (by decide) fl_25 (fun _ h9 => h9) rfl (by decide +kernel) rfl rfl (Nat.le_of_ble_eq_true rfl) dX8_readLanternAndGlow_14 (fun H locs hP hD hS => ?_)
    have hP : va_P D vwCl [(q_t, .inr (6, [.ref q_t_signs, .int t_length, .int t_at_1, .int t_word, .int t_number_1, .int t_second, .int t_third, .int t_number_1])), (q_t_signs, .inl (cC, 60, .inl t_signs))] H := hP
    have hD : va_D A [(q_t, .inr (6, [.ref q_t_signs, .int t_length, .int t_at_1, .int t_word, .int t_number_1, .int t_second, .int t_third, .int t_number_1])), (q_t_signs, .inl (cC, 60, .inl t_signs))] := hD
    refine lv_aload_n hx hb dX8_readLanternAndGlow_17 rfl (lv_at hl 0 rfl) ?_
    refine lv_aload_n hx hb dX8_readLanternAndGlow_18 rfl (lv_at hl 0 rfl) ?_
    refine lv_bipush (v := (43 : Int32)) hx hb dX8_readLanternAndGlow_19 (by decide) ?_
    obtain ⟨x21, t_at_21, hc21, hJ⟩ := bnd2_some hJ
    refine jcV_i (C := RX8) (T := TX8) (N := 8) (ci := 6) (q0 := 0) (As := [.int (43 : Int32)]) (rest := [.ref q_t]) (isC := [0, 1]) (isR := []) (isB := [0, 1]) (wr := []) (ws2 := [(q_t, .inr (6, [.ref q_t_signs, .int t_length, .int t_at_21, .int t_word, .int t_number_1, .int t_second, .int t_third, .int t_number_1])), (q_t_signs, .inl (cC, 60, .inl t_signs))]) hF (c_X8_isRead l D cI cJ cC cL q_t q_t_signs t_length t_at_1 t_word t_number_1 t_second t_third t_number_1 t_signs (43 : Int32) x21 t_at_21 hc21 H.size) (cwV 1 hts gX8_readLanternAndGlow_X8_isRead rfl rfl rfl (by decide +kernel) ⟨Nat.le_of_ble_eq_true rfl, Nat.le_of_ble_eq_true rfl⟩) rfl hl rfl (Nat.le_of_ble_eq_true rfl) dX8_readLanternAndGlow_21 ⟨Nat.zero_le _, Nat.zero_le _⟩ hK hN KX_T trivial hP hD hS hA rfl rfl rfl rfl rfl rfl (by decide) rfl rfl (fun H locs hP hD hS => ?_)
    refine jif_eq (tgt := 31) hx hb dX8_readLanternAndGlow_24 (by decide) hJ (fun hJ => ?_) (fun hJ => ?_)
    · refine lv_iconst (v := (0 : Int32)) hx hb dX8_readLanternAndGlow_31 (by decide) ?_
      exact B32  t_at_21 t_number_1 t_second t_number_1 (0 : Int32)  H locs  hP hD hS _ (lv_sub hl [0] rfl) hJ
    · refine lv_iconst (v := (1 : Int32)) hx hb dX8_readLanternAndGlow_27 (by decide) ?_
      refine lv_goto (tgt := 32) hx hb dX8_readLanternAndGlow_28 (by decide) ?_
      exact B32  t_at_21 t_number_1 t_second t_number_1 (1 : Int32)  H locs  hP hD hS _ (lv_sub hl [0] rfl) hJ
  · refine lv_iconst (v := (0 : Int32)) hx hb dX8_readLanternAndGlow_7 (by decide) ?_
    obtain ⟨h01, hJ⟩ := chz_ok hJ
    have hJ := Option.some.inj hJ
    obtain ⟨e0, e1, e2, e3, e4⟩ : ((0 : Int32)) = r ∧ (t_at_1) = o_t_at ∧ (t_first) = o_t_first ∧ (t_second) = o_t_second ∧ (t_number_1) = o_t_number := ⟨congrArg (fun z => z.1) hJ, congrArg (fun z => z.2.1) hJ, congrArg (fun z => z.2.2.1) hJ, congrArg (fun z => z.2.2.2.1) hJ, congrArg (fun z => z.2.2.2.2) hJ⟩
    exact hRet (by rw [← e1, ← e2, ← e3, ← e4]; exact hP) (by rw [← e1, ← e2, ← e3, ← e4]; exact hD) hS h01 e0 dX8_readLanternAndGlow_8

def J_X8_readTicks (t_length : Int32) (t_at : Int32) (t_first : Int32) (t_number : Int32) (t_signs : Nat → Int32) : Option (Int32 × Int32 × Int32 × Int32) :=
    bnd3 (J_X8_areDigitsRead t_length t_at t_number t_signs) fun x1 t_at_1 t_number_1 =>
    if x1 = 0 then (
    chz (0 : Int32) (some ((0 : Int32), t_at_1, t_first, t_number_1)))
    else (
    chz (1 : Int32) (some ((1 : Int32), t_at_1, t_number_1, t_number_1)))
abbrev rmX8_readTicks : Room := { frames := 2, cells := 0, slots := 0, locals := 41 }
set_option maxHeartbeats 4000000 in
set_option maxRecDepth 100000 in
theorem c_X8_readTicks (l : Launch) (D : va_G) (cI cJ cC cL : ClassId) (q_t q_t_signs : Nat) (t_length : Int32) (t_at : Int32) (t_word : Int32) (t_first : Int32) (t_second : Int32) (t_third : Int32) (t_number : Int32) (t_signs : Nat → Int32) (r : Int32) (o_t_at : Int32) (o_t_first : Int32) (o_t_number : Int32) (hJ : J_X8_readTicks t_length t_at t_first t_number t_signs = some (r, o_t_at, o_t_first, o_t_number)) (sz : Nat) : Met l yX8_readTicks wsX8_readTicks rmX8_readTicks (va_Pc [.ref q_t] (jpre XT D (tyL cI cJ cC cL) [(q_t, .inr (6, [.ref q_t_signs, .int t_length, .int t_at, .int t_word, .int t_first, .int t_second, .int t_third, .int t_number])), (q_t_signs, .inl (cC, 60, .inl t_signs))] sz)) (va_Qi (fun r' (_ : Unit) => r' = r) (fun _ t => jpost D (tyL cI cJ cC cL) (va_A [(q_t, .inr (6, [.ref q_t_signs, .int t_length, .int t_at, .int t_word, .int t_first, .int t_second, .int t_third, .int t_number])), (q_t_signs, .inl (cC, 60, .inl t_signs))] sz) [(q_t, .inr (6, [.ref q_t_signs, .int t_length, .int o_t_at, .int t_word, .int o_t_first, .int t_second, .int t_third, .int o_t_number])), (q_t_signs, .inl (cC, 60, .inl t_signs))] t) (va_A [(q_t, .inr (6, [.ref q_t_signs, .int t_length, .int t_at, .int t_word, .int t_first, .int t_second, .int t_third, .int t_number])), (q_t_signs, .inl (cC, 60, .inl t_signs))] sz)) 0 0 (va_A [(q_t, .inr (6, [.ref q_t_signs, .int t_length, .int t_at, .int t_word, .int t_first, .int t_second, .int t_third, .int t_number])), (q_t_signs, .inl (cC, 60, .inl t_signs))] sz) := by
  refine jE_z (cc := cX8_readTicks) (maxL := 1) (own := RX8) (ret := (some .boolean)) (lv0 := [(0, .ref q_t)]) (by decide) rfl rfl rfl (Nat.le_of_ble_eq_true rfl) rfl ?_
  intro p e s m args below meth c A Q ls hx hb hml hown hts hK hN hX hA hP hD hS hl hRet
  have hF : CallFix p m c cX8_readTicks 1 s args wsX8_readTicks RX8 := ⟨hx, hb, hml, hown, hts⟩
  have fl_25 := hts (.fieldLink RX8 25 "LanternLogic$Text" "first" "I") (by decide +kernel)
  have fl_77 := hts (.fieldLink RX8 77 "LanternLogic$Text" "number" "I") (by decide +kernel)
  have hin_X8 : ∀ w ∈ u_ws RX8 TX8 8, w ∈ wsX8_readTicks := by decide +kernel
  unfold J_X8_readTicks at hJ
  refine lv_aload_n hx hb dX8_readTicks_0 rfl (lv_at hl 0 rfl) ?_
  obtain ⟨x1, t_at_1, t_number_1, hc1, hJ⟩ := bnd3_some hJ
  refine jcV_i (C := RX8) (T := TX8) (N := 8) (ci := 6) (q0 := 0) (As := []) (rest := []) (isC := [0, 1]) (isR := []) (isB := [0, 1]) (wr := []) (ws2 := [(q_t, .inr (6, [.ref q_t_signs, .int t_length, .int t_at_1, .int t_word, .int t_first, .int t_second, .int t_third, .int t_number_1])), (q_t_signs, .inl (cC, 60, .inl t_signs))]) hF (c_X8_areDigitsRead l D cI cJ cC cL q_t q_t_signs t_length t_at t_word t_first t_second t_third t_number t_signs x1 t_at_1 t_number_1 hc1 s.heap.size) (cwV 0 hts gX8_readTicks_X8_areDigitsRead rfl rfl rfl (by decide +kernel) ⟨Nat.le_of_ble_eq_true rfl, Nat.le_of_ble_eq_true rfl⟩) rfl hl rfl (Nat.le_of_ble_eq_true rfl) dX8_readTicks_1 ⟨Nat.zero_le _, Nat.zero_le _⟩ hK hN KX_T trivial hP hD hS hA rfl rfl rfl rfl rfl rfl (by decide) rfl rfl (fun H locs hP hD hS => ?_)
  refine jif_ne (tgt := 9) hx hb dX8_readTicks_4 (by decide) hJ (fun hJ => ?_) (fun hJ => ?_)
  · refine lv_aload_n hx hb dX8_readTicks_9 rfl (lv_at hl 0 rfl) ?_
    refine lv_aload_n hx hb dX8_readTicks_10 rfl (lv_at hl 0 rfl) ?_
    refine va_get (ci := 6) (v := .int t_number_1) (C := RX8) (T := TX8) (N := 8) hx hb hts hin_X8 hown hK hP 0 rfl rfl 7 (by decide) fl_77 (fun _ h9 => h9) rfl dX8_readTicks_11 ?_
    refine va_put (ci := 6) (v := .int t_number_1) (ty := .int) (C := RX8) (T := TX8) (N := 8) hx hb hts hin_X8 tyX8 tyX8_ok nmX8 hown hK hP hD hS 0 rfl rfl 4 (by decide) fl_25 (fun _ h9 => h9) rfl (by decide +kernel) rfl rfl (Nat.le_of_ble_eq_true rfl) dX8_readTicks_14 (fun H locs hP hD hS => ?_)
    have hP : va_P D vwCl [(q_t, .inr (6, [.ref q_t_signs, .int t_length, .int t_at_1, .int t_word, .int t_number_1, .int t_second, .int t_third, .int t_number_1])), (q_t_signs, .inl (cC, 60, .inl t_signs))] H := hP
    have hD : va_D A [(q_t, .inr (6, [.ref q_t_signs, .int t_length, .int t_at_1, .int t_word, .int t_number_1, .int t_second, .int t_third, .int t_number_1])), (q_t_signs, .inl (cC, 60, .inl t_signs))] := hD
    refine lv_iconst (v := (1 : Int32)) hx hb dX8_readTicks_17 (by decide) ?_
    obtain ⟨h01, hJ⟩ := chz_ok hJ
    have hJ := Option.some.inj hJ
    obtain ⟨e0, e1, e2, e3⟩ : ((1 : Int32)) = r ∧ (t_at_1) = o_t_at ∧ (t_number_1) = o_t_first ∧ (t_number_1) = o_t_number := ⟨congrArg (fun z => z.1) hJ, congrArg (fun z => z.2.1) hJ, congrArg (fun z => z.2.2.1) hJ, congrArg (fun z => z.2.2.2) hJ⟩
    exact hRet (by rw [← e1, ← e2, ← e3]; exact hP) (by rw [← e1, ← e2, ← e3]; exact hD) hS h01 e0 dX8_readTicks_18
  · refine lv_iconst (v := (0 : Int32)) hx hb dX8_readTicks_7 (by decide) ?_
    obtain ⟨h01, hJ⟩ := chz_ok hJ
    have hJ := Option.some.inj hJ
    obtain ⟨e0, e1, e2, e3⟩ : ((0 : Int32)) = r ∧ (t_at_1) = o_t_at ∧ (t_first) = o_t_first ∧ (t_number_1) = o_t_number := ⟨congrArg (fun z => z.1) hJ, congrArg (fun z => z.2.1) hJ, congrArg (fun z => z.2.2.1) hJ, congrArg (fun z => z.2.2.2) hJ⟩
    exact hRet (by rw [← e1, ← e2, ← e3]; exact hP) (by rw [← e1, ← e2, ← e3]; exact hD) hS h01 e0 dX8_readTicks_8

def J_X0_below_b14 (slf : Int32 → (Nat → Int32) → (Nat → Int32) → (Nat → Int32) → (Nat → Int32) → Int32 → Int32 → Option (Int32 × (Nat → Int32))) (a0_count : Int32) (a0_kinds : Nat → Int32) (a0_wicks : Nat → Int32) (a0_sources : Nat → Int32) (v1 : Int32) (v3 : Int32) (a2 : Nat → Int32) : Option (Int32 × (Nat → Int32)) :=
    some ((-15 : Int32), a2)
def J_X0_below_b74 (k39 : (Nat → Int32) → Int32 → Int32 → Option (Int32 × (Nat → Int32))) (slf : Int32 → (Nat → Int32) → (Nat → Int32) → (Nat → Int32) → (Nat → Int32) → Int32 → Int32 → Option (Int32 × (Nat → Int32))) (a0_count : Int32) (a0_kinds : Nat → Int32) (a0_wicks : Nat → Int32) (a0_sources : Nat → Int32) (v1 : Int32) (v3 : Int32) (a2 : Nat → Int32) (v4 : Int32) (v5 : Int32) (s74_0 : Int32) : Option (Int32 × (Nat → Int32)) :=
    if 0 ≤ s74_0 then (
    nm (if v4 < s74_0 then s74_0 else v4) fun x88 =>
    nm (v5 + Int32.ofInt 1) fun x93 =>
    k39 a2 x88 x93)
    else (
    some ((-15 : Int32), a2))
def J_X0_below_L39 (slf : Int32 → (Nat → Int32) → (Nat → Int32) → (Nat → Int32) → (Nat → Int32) → Int32 → Int32 → Option (Int32 × (Nat → Int32))) (a0_count : Int32) (a0_kinds : Nat → Int32) (a0_wicks : Nat → Int32) (a0_sources : Nat → Int32) (v1 : Int32) (v3 : Int32) : Nat → (Nat → Int32) → Int32 → Int32 → Option (Int32 × (Nat → Int32))
  | 0, _, _, _ => none
  | nf + 1, a2, v4, v5 =>
    if (3 : Int32) ≤ v5 then (
    bnd1 (J_X0_ownDepth a0_count a0_kinds a0_wicks v1 v4) fun x105 =>
    chk v1 16 (
    chk v1 16 (
    nm ((upd a2 v1.toNatClampNeg x105) v1.toNatClampNeg) fun x111 =>
    some (x111, (upd a2 v1.toNatClampNeg x105)))))
    else (
    bnd1 (J_X2_sourceOf a0_sources v1 v5) fun x49 =>
    if x49 = (-1 : Int32) then (
    J_X0_below_b74 (fun z0 z1 z2 => J_X0_below_L39 slf a0_count a0_kinds a0_wicks a0_sources v1 v3 nf z0 z1 z2) slf a0_count a0_kinds a0_wicks a0_sources v1 v3 a2 v4 v5 (0 : Int32))
    else (
    nm (v3 + (1 : Int32)) fun x70 =>
    bnd2 (slf a0_count a0_kinds a0_wicks a0_sources a2 x49 x70) fun x71 a2_71 =>
    J_X0_below_b74 (fun z0 z1 z2 => J_X0_below_L39 slf a0_count a0_kinds a0_wicks a0_sources v1 v3 nf z0 z1 z2) slf a0_count a0_kinds a0_wicks a0_sources v1 v3 a2_71 v4 v5 x71))
def J_X0_below_top (slf : Int32 → (Nat → Int32) → (Nat → Int32) → (Nat → Int32) → (Nat → Int32) → Int32 → Int32 → Option (Int32 × (Nat → Int32))) (a0_count : Int32) (a0_kinds : Nat → Int32) (a0_wicks : Nat → Int32) (a0_sources : Nat → Int32) (a2 : Nat → Int32) (v1 : Int32) (v3 : Int32) : Option (Int32 × (Nat → Int32)) :=
    bnd1 (J_X2_isHung a0_count v1) fun x2 =>
    if x2 = 0 then (
    J_X0_below_b14 slf a0_count a0_kinds a0_wicks a0_sources v1 v3 a2)
    else (
    if v3 ≤ (16 : Int32) then (
    chk v1 16 (
    nm (a2 v1.toNatClampNeg) fun x19 =>
    if x19 = (-1 : Int32) then (
    chk v1 16 (
    J_X0_below_L39 slf a0_count a0_kinds a0_wicks a0_sources v1 v3 FU (upd a2 v1.toNatClampNeg (-15 : Int32)) (0 : Int32) (0 : Int32)))
    else (
    chk v1 16 (
    nm (a2 v1.toNatClampNeg) fun x26 =>
    some (x26, a2)))))
    else (
    J_X0_below_b14 slf a0_count a0_kinds a0_wicks a0_sources v1 v3 a2))
def J_X0_below : Nat → Int32 → (Nat → Int32) → (Nat → Int32) → (Nat → Int32) → (Nat → Int32) → Int32 → Int32 → Option (Int32 × (Nat → Int32))
  | 0, _, _, _, _, _, _, _ => none
  | dp + 1, a0_count, a0_kinds, a0_wicks, a0_sources, a2, v1, v3 => J_X0_below_top (fun a0_count a0_kinds a0_wicks a0_sources a2 v1 v3 => J_X0_below dp a0_count a0_kinds a0_wicks a0_sources a2 v1 v3) a0_count a0_kinds a0_wicks a0_sources a2 v1 v3
def rmX0_below (d : Nat) : Room := { frames := 3 + d, cells := 0, slots := 0, locals := 64 + 27 * d }
set_option maxHeartbeats 4000000 in
set_option maxRecDepth 100000 in
theorem c_X0_below_all (l : Launch) (D : va_G) (cI cJ cC cL : ClassId) (q_a0 q_a0_kinds q_a0_wicks q_a0_sources q_a0_changes q_a2 : Nat) : ∀ (dp : Nat) (a0_count : Int32) (a0_state : Int64) (a0_areLoopsAllowed : Int32) (a0_ticks : Int32) (a0_tickChanges : Int32) (a0_sets : Int32) (a0_kinds : Nat → Int32) (a0_wicks : Nat → Int32) (a0_sources : Nat → Int32) (a2 : Nat → Int32) (v1 : Int32) (v3 : Int32) (r : Int32) (o_a2 : Nat → Int32) (hJ : J_X0_below dp a0_count a0_kinds a0_wicks a0_sources a2 v1 v3 = some (r, o_a2)) (sz : Nat), Met l yX0_below wsX0_below (rmX0_below dp) (va_Pc [.ref q_a0, .int v1, .ref q_a2, .int v3] (jpre XT D (tyL cI cJ cC cL) [(q_a0, .inr (2, [.int a0_count, .ref q_a0_kinds, .ref q_a0_wicks, .ref q_a0_sources, .ref q_a0_changes, .long a0_state, .int a0_areLoopsAllowed, .int a0_ticks, .int a0_tickChanges, .int a0_sets])), (q_a0_kinds, .inl (cI, 16, .inl a0_kinds)), (q_a0_wicks, .inl (cI, 16, .inl a0_wicks)), (q_a0_sources, .inl (cI, 48, .inl a0_sources)), (q_a2, .inl (cI, 16, .inl a2))] sz)) (va_Qi (fun r' (_ : Unit) => r' = r) (fun _ t => jpost D (tyL cI cJ cC cL) (va_A [(q_a0, .inr (2, [.int a0_count, .ref q_a0_kinds, .ref q_a0_wicks, .ref q_a0_sources, .ref q_a0_changes, .long a0_state, .int a0_areLoopsAllowed, .int a0_ticks, .int a0_tickChanges, .int a0_sets])), (q_a0_kinds, .inl (cI, 16, .inl a0_kinds)), (q_a0_wicks, .inl (cI, 16, .inl a0_wicks)), (q_a0_sources, .inl (cI, 48, .inl a0_sources)), (q_a2, .inl (cI, 16, .inl a2))] sz) [(q_a0, .inr (2, [.int a0_count, .ref q_a0_kinds, .ref q_a0_wicks, .ref q_a0_sources, .ref q_a0_changes, .long a0_state, .int a0_areLoopsAllowed, .int a0_ticks, .int a0_tickChanges, .int a0_sets])), (q_a0_kinds, .inl (cI, 16, .inl a0_kinds)), (q_a0_wicks, .inl (cI, 16, .inl a0_wicks)), (q_a0_sources, .inl (cI, 48, .inl a0_sources)), (q_a2, .inl (cI, 16, .inl o_a2))] t) (va_A [(q_a0, .inr (2, [.int a0_count, .ref q_a0_kinds, .ref q_a0_wicks, .ref q_a0_sources, .ref q_a0_changes, .long a0_state, .int a0_areLoopsAllowed, .int a0_ticks, .int a0_tickChanges, .int a0_sets])), (q_a0_kinds, .inl (cI, 16, .inl a0_kinds)), (q_a0_wicks, .inl (cI, 16, .inl a0_wicks)), (q_a0_sources, .inl (cI, 48, .inl a0_sources)), (q_a2, .inl (cI, 16, .inl a2))] sz)) 0 0 (va_A [(q_a0, .inr (2, [.int a0_count, .ref q_a0_kinds, .ref q_a0_wicks, .ref q_a0_sources, .ref q_a0_changes, .long a0_state, .int a0_areLoopsAllowed, .int a0_ticks, .int a0_tickChanges, .int a0_sets])), (q_a0_kinds, .inl (cI, 16, .inl a0_kinds)), (q_a0_wicks, .inl (cI, 16, .inl a0_wicks)), (q_a0_sources, .inl (cI, 48, .inl a0_sources)), (q_a2, .inl (cI, 16, .inl a2))] sz) := by
  intro dp
  induction dp with
  | zero =>
    intro a0_count a0_state a0_areLoopsAllowed a0_ticks a0_tickChanges a0_sets a0_kinds a0_wicks a0_sources a2 v1 v3 r o_a2 hJ sz
    rw [J_X0_below] at hJ
    cases hJ
  | succ dp ih =>
    intro a0_count a0_state a0_areLoopsAllowed a0_ticks a0_tickChanges a0_sets a0_kinds a0_wicks a0_sources a2 v1 v3 r o_a2 hJ sz
    rw [J_X0_below] at hJ
    obtain ⟨slf, hslfe⟩ : ∃ f : Int32 → (Nat → Int32) → (Nat → Int32) → (Nat → Int32) → (Nat → Int32) → Int32 → Int32 → Option (Int32 × (Nat → Int32)), f = (fun a0_count a0_kinds a0_wicks a0_sources a2 v1 v3 => J_X0_below dp a0_count a0_kinds a0_wicks a0_sources a2 v1 v3) := ⟨_, rfl⟩
    rw [← hslfe] at hJ
    have hslf : ∀ (a0_count : Int32) (a0_state : Int64) (a0_areLoopsAllowed : Int32) (a0_ticks : Int32) (a0_tickChanges : Int32) (a0_sets : Int32) (a0_kinds : Nat → Int32) (a0_wicks : Nat → Int32) (a0_sources : Nat → Int32) (a2 : Nat → Int32) (v1 : Int32) (v3 : Int32) (r : Int32) (o_a2 : Nat → Int32) (hJ : slf a0_count a0_kinds a0_wicks a0_sources a2 v1 v3 = some (r, o_a2)) (sz : Nat), Met l yX0_below wsX0_below (rmX0_below dp) (va_Pc [.ref q_a0, .int v1, .ref q_a2, .int v3] (jpre XT D (tyL cI cJ cC cL) [(q_a0, .inr (2, [.int a0_count, .ref q_a0_kinds, .ref q_a0_wicks, .ref q_a0_sources, .ref q_a0_changes, .long a0_state, .int a0_areLoopsAllowed, .int a0_ticks, .int a0_tickChanges, .int a0_sets])), (q_a0_kinds, .inl (cI, 16, .inl a0_kinds)), (q_a0_wicks, .inl (cI, 16, .inl a0_wicks)), (q_a0_sources, .inl (cI, 48, .inl a0_sources)), (q_a2, .inl (cI, 16, .inl a2))] sz)) (va_Qi (fun r' (_ : Unit) => r' = r) (fun _ t => jpost D (tyL cI cJ cC cL) (va_A [(q_a0, .inr (2, [.int a0_count, .ref q_a0_kinds, .ref q_a0_wicks, .ref q_a0_sources, .ref q_a0_changes, .long a0_state, .int a0_areLoopsAllowed, .int a0_ticks, .int a0_tickChanges, .int a0_sets])), (q_a0_kinds, .inl (cI, 16, .inl a0_kinds)), (q_a0_wicks, .inl (cI, 16, .inl a0_wicks)), (q_a0_sources, .inl (cI, 48, .inl a0_sources)), (q_a2, .inl (cI, 16, .inl a2))] sz) [(q_a0, .inr (2, [.int a0_count, .ref q_a0_kinds, .ref q_a0_wicks, .ref q_a0_sources, .ref q_a0_changes, .long a0_state, .int a0_areLoopsAllowed, .int a0_ticks, .int a0_tickChanges, .int a0_sets])), (q_a0_kinds, .inl (cI, 16, .inl a0_kinds)), (q_a0_wicks, .inl (cI, 16, .inl a0_wicks)), (q_a0_sources, .inl (cI, 48, .inl a0_sources)), (q_a2, .inl (cI, 16, .inl o_a2))] t) (va_A [(q_a0, .inr (2, [.int a0_count, .ref q_a0_kinds, .ref q_a0_wicks, .ref q_a0_sources, .ref q_a0_changes, .long a0_state, .int a0_areLoopsAllowed, .int a0_ticks, .int a0_tickChanges, .int a0_sets])), (q_a0_kinds, .inl (cI, 16, .inl a0_kinds)), (q_a0_wicks, .inl (cI, 16, .inl a0_wicks)), (q_a0_sources, .inl (cI, 48, .inl a0_sources)), (q_a2, .inl (cI, 16, .inl a2))] sz)) 0 0 (va_A [(q_a0, .inr (2, [.int a0_count, .ref q_a0_kinds, .ref q_a0_wicks, .ref q_a0_sources, .ref q_a0_changes, .long a0_state, .int a0_areLoopsAllowed, .int a0_ticks, .int a0_tickChanges, .int a0_sets])), (q_a0_kinds, .inl (cI, 16, .inl a0_kinds)), (q_a0_wicks, .inl (cI, 16, .inl a0_wicks)), (q_a0_sources, .inl (cI, 48, .inl a0_sources)), (q_a2, .inl (cI, 16, .inl a2))] sz) := by
      intro a0_count a0_state a0_areLoopsAllowed a0_ticks a0_tickChanges a0_sets a0_kinds a0_wicks a0_sources a2 v1 v3 r o_a2 hJ sz
      rw [hslfe] at hJ
      exact ih a0_count a0_state a0_areLoopsAllowed a0_ticks a0_tickChanges a0_sets a0_kinds a0_wicks a0_sources a2 v1 v3 r o_a2 hJ sz
    clear hslfe ih
    refine jE_i (cc := cX0_below) (maxL := 8) (own := RX0) (ret := (some .int)) (lv0 := [(0, .ref q_a0), (1, .int v1), (2, .ref q_a2), (3, .int v3)]) (by decide) rfl rfl rfl (Nat.le_of_ble_eq_true rfl) rfl ?_
    intro p e s m args below meth c A Q ls hx hb hml hown hts hK hN hX hA hP hD hS hl hRet
    have hF : CallFix p m c cX0_below 8 s args wsX0_below RX0 := ⟨hx, hb, hml, hown, hts⟩
    have B14 : ∀ (a2 : Nat → Int32) (H : Heap) (locs : List Loc), va_P D vwCl [(q_a0, .inr (2, [.int a0_count, .ref q_a0_kinds, .ref q_a0_wicks, .ref q_a0_sources, .ref q_a0_changes, .long a0_state, .int a0_areLoopsAllowed, .int a0_ticks, .int a0_tickChanges, .int a0_sets])), (q_a0_kinds, .inl (cI, 16, .inl a0_kinds)), (q_a0_wicks, .inl (cI, 16, .inl a0_wicks)), (q_a0_sources, .inl (cI, 48, .inl a0_sources)), (q_a2, .inl (cI, 16, .inl a2))] H → va_D A [(q_a0, .inr (2, [.int a0_count, .ref q_a0_kinds, .ref q_a0_wicks, .ref q_a0_sources, .ref q_a0_changes, .long a0_state, .int a0_areLoopsAllowed, .int a0_ticks, .int a0_tickChanges, .int a0_sets])), (q_a0_kinds, .inl (cI, 16, .inl a0_kinds)), (q_a0_wicks, .inl (cI, 16, .inl a0_wicks)), (q_a0_sources, .inl (cI, 48, .inl a0_sources)), (q_a2, .inl (cI, 16, .inl a2))] → va_S A s.heap H locs → ∀ ls : Array Slot, lv_has ls 8 [] → J_X0_below_b14  slf a0_count a0_kinds a0_wicks a0_sources v1 v3 a2 = some (r, o_a2) → W p l e (rmX0_below (dp + 1)) s m args below meth c H locs 0 0 Q (F0 m 14 ls []) := by
      intro a2 H locs hP hD hS ls hl hJ
      unfold J_X0_below_b14 at hJ
      refine lv_bipush (v := (-15 : Int32)) hx hb dX0_below_14 (by decide) ?_
      have hJ := Option.some.inj hJ
      obtain ⟨e0, e1⟩ : ((-15 : Int32)) = r ∧ (a2) = o_a2 := ⟨congrArg (fun z => z.1) hJ, congrArg (fun z => z.2) hJ⟩
      exact hRet (by rw [← e1]; exact hP) (by rw [← e1]; exact hD) hS e0 dX0_below_16
    have B74 : ∀ (k39 : (Nat → Int32) → Int32 → Int32 → Option (Int32 × (Nat → Int32))), (∀ (a2 : Nat → Int32) (v4 : Int32) (v5 : Int32) (H : Heap) (locs : List Loc), va_P D vwCl [(q_a0, .inr (2, [.int a0_count, .ref q_a0_kinds, .ref q_a0_wicks, .ref q_a0_sources, .ref q_a0_changes, .long a0_state, .int a0_areLoopsAllowed, .int a0_ticks, .int a0_tickChanges, .int a0_sets])), (q_a0_kinds, .inl (cI, 16, .inl a0_kinds)), (q_a0_wicks, .inl (cI, 16, .inl a0_wicks)), (q_a0_sources, .inl (cI, 48, .inl a0_sources)), (q_a2, .inl (cI, 16, .inl a2))] H → va_D A [(q_a0, .inr (2, [.int a0_count, .ref q_a0_kinds, .ref q_a0_wicks, .ref q_a0_sources, .ref q_a0_changes, .long a0_state, .int a0_areLoopsAllowed, .int a0_ticks, .int a0_tickChanges, .int a0_sets])), (q_a0_kinds, .inl (cI, 16, .inl a0_kinds)), (q_a0_wicks, .inl (cI, 16, .inl a0_wicks)), (q_a0_sources, .inl (cI, 48, .inl a0_sources)), (q_a2, .inl (cI, 16, .inl a2))] → va_S A s.heap H locs → ∀ ls : Array Slot, lv_has ls 8 [(0, .ref q_a0), (1, .int v1), (2, .ref q_a2), (3, .int v3), (4, .int v4), (5, .int v5)] → k39 a2 v4 v5 = some (r, o_a2) → W p l e (rmX0_below (dp + 1)) s m args below meth c H locs 0 0 Q (F0 m 39 ls [])) → ∀ (a2 : Nat → Int32) (v4 : Int32) (v5 : Int32) (s74_0 : Int32) (H : Heap) (locs : List Loc), va_P D vwCl [(q_a0, .inr (2, [.int a0_count, .ref q_a0_kinds, .ref q_a0_wicks, .ref q_a0_sources, .ref q_a0_changes, .long a0_state, .int a0_areLoopsAllowed, .int a0_ticks, .int a0_tickChanges, .int a0_sets])), (q_a0_kinds, .inl (cI, 16, .inl a0_kinds)), (q_a0_wicks, .inl (cI, 16, .inl a0_wicks)), (q_a0_sources, .inl (cI, 48, .inl a0_sources)), (q_a2, .inl (cI, 16, .inl a2))] H → va_D A [(q_a0, .inr (2, [.int a0_count, .ref q_a0_kinds, .ref q_a0_wicks, .ref q_a0_sources, .ref q_a0_changes, .long a0_state, .int a0_areLoopsAllowed, .int a0_ticks, .int a0_tickChanges, .int a0_sets])), (q_a0_kinds, .inl (cI, 16, .inl a0_kinds)), (q_a0_wicks, .inl (cI, 16, .inl a0_wicks)), (q_a0_sources, .inl (cI, 48, .inl a0_sources)), (q_a2, .inl (cI, 16, .inl a2))] → va_S A s.heap H locs → ∀ ls : Array Slot, lv_has ls 8 [(0, .ref q_a0), (1, .int v1), (2, .ref q_a2), (3, .int v3), (4, .int v4), (5, .int v5)] → J_X0_below_b74 k39 slf a0_count a0_kinds a0_wicks a0_sources v1 v3 a2 v4 v5 s74_0 = some (r, o_a2) → W p l e (rmX0_below (dp + 1)) s m args below meth c H locs 0 0 Q (F0 m 74 ls [.int s74_0]) := by
      intro k39 hk39 a2 v4 v5 s74_0 H locs hP hD hS ls hl hJ
      unfold J_X0_below_b74 at hJ
      refine lv_istore (lv' := [(7, .int s74_0), (0, .ref q_a0), (1, .int v1), (2, .ref q_a2), (3, .int v3), (4, .int v4), (5, .int v5)]) hx hb dX0_below_74 hl (by decide) rfl (fun ls hl => ?_)
      refine lv_iload hx hb dX0_below_76 (lv_at hl 0 rfl) ?_
      refine jif_ge (tgt := 84) hx hb dX0_below_78 (by decide) hJ (fun hJ => ?_) (fun hJ => ?_)
      · refine lv_iload hx hb dX0_below_84 (lv_at hl 5 rfl) ?_
        refine lv_iload hx hb dX0_below_86 (lv_at hl 0 rfl) ?_
        refine va_mmax hx hb (hml.trans hl.1.symm) hown (hts (.methodLink RX0 35 Lib.Math.max.name) (by decide +kernel)) (hts (.static Lib.Math.max.name) (by decide +kernel)) (hts (.initialized "java/lang/Math") (by decide +kernel)) (hts (.code Lib.Math.max.name Lib.Math.max.code 2 (some .int)) (by decide +kernel)) (by simp only [rmX0_below]; omega) (by show _ ≤ _; simp only [rmX0_below, List.map, List.sum_cons, List.sum_nil, Value.category]; omega) (Nat.zero_le _) (Nat.zero_le _) dX0_below_88 ?_
        refine jt_i hJ (fun x88 hJ => ?_)
        refine lv_istore (lv' := [(4, .int x88), (7, .int s74_0), (0, .ref q_a0), (1, .int v1), (2, .ref q_a2), (3, .int v3), (5, .int v5)]) hx hb dX0_below_91 hl (by decide) rfl (fun ls hl => ?_)
        refine jt_iinc hJ (fun x93 ex93 hJ => ?_)
        refine lv_iinc (v := x93) (lv' := [(5, .int x93), (4, .int x88), (7, .int s74_0), (0, .ref q_a0), (1, .int v1), (2, .ref q_a2), (3, .int v3)]) hx hb dX0_below_93 hl (k := 6) rfl ex93 (by decide) rfl (fun ls hl => ?_)
        refine lv_goto (tgt := 39) hx hb dX0_below_96 (by decide) ?_
        exact hk39 a2 x88 x93  H locs  hP hD hS _ (lv_sub hl [3, 4, 5, 6, 1, 0] rfl) hJ
      · refine lv_bipush (v := (-15 : Int32)) hx hb dX0_below_81 (by decide) ?_
        have hJ := Option.some.inj hJ
        obtain ⟨e0, e1⟩ : ((-15 : Int32)) = r ∧ (a2) = o_a2 := ⟨congrArg (fun z => z.1) hJ, congrArg (fun z => z.2) hJ⟩
        exact hRet (by rw [← e1]; exact hP) (by rw [← e1]; exact hD) hS e0 dX0_below_83
    have L39 : ∀ (nf : Nat), ∀ (a2 : Nat → Int32) (v4 : Int32) (v5 : Int32) (H : Heap) (locs : List Loc), va_P D vwCl [(q_a0, .inr (2, [.int a0_count, .ref q_a0_kinds, .ref q_a0_wicks, .ref q_a0_sources, .ref q_a0_changes, .long a0_state, .int a0_areLoopsAllowed, .int a0_ticks, .int a0_tickChanges, .int a0_sets])), (q_a0_kinds, .inl (cI, 16, .inl a0_kinds)), (q_a0_wicks, .inl (cI, 16, .inl a0_wicks)), (q_a0_sources, .inl (cI, 48, .inl a0_sources)), (q_a2, .inl (cI, 16, .inl a2))] H → va_D A [(q_a0, .inr (2, [.int a0_count, .ref q_a0_kinds, .ref q_a0_wicks, .ref q_a0_sources, .ref q_a0_changes, .long a0_state, .int a0_areLoopsAllowed, .int a0_ticks, .int a0_tickChanges, .int a0_sets])), (q_a0_kinds, .inl (cI, 16, .inl a0_kinds)), (q_a0_wicks, .inl (cI, 16, .inl a0_wicks)), (q_a0_sources, .inl (cI, 48, .inl a0_sources)), (q_a2, .inl (cI, 16, .inl a2))] → va_S A s.heap H locs → ∀ ls : Array Slot, lv_has ls 8 [(0, .ref q_a0), (1, .int v1), (2, .ref q_a2), (3, .int v3), (4, .int v4), (5, .int v5)] → J_X0_below_L39  slf a0_count a0_kinds a0_wicks a0_sources v1 v3 nf a2 v4 v5 = some (r, o_a2) → W p l e (rmX0_below (dp + 1)) s m args below meth c H locs 0 0 Q (F0 m 39 ls []) := by
      intro nf
      induction nf with
      | zero =>
        intro a2 v4 v5 H locs hP hD hS ls hl hJ
        rw [J_X0_below_L39] at hJ
        cases hJ
      | succ nf ih =>
        intro a2 v4 v5 H locs hP hD hS ls hl hJ
        rw [J_X0_below_L39] at hJ
        refine lv_iload hx hb dX0_below_39 (lv_at hl 5 rfl) ?_
        refine lv_iconst (v := (3 : Int32)) hx hb dX0_below_41 (by decide) ?_
        refine jif_icmp_ge (tgt := 99) hx hb dX0_below_42 (by decide) hJ (fun hJ => ?_) (fun hJ => ?_)
        · refine lv_aload_n hx hb dX0_below_99 rfl (lv_at hl 2 rfl) ?_
          refine lv_iload_n hx hb dX0_below_100 rfl (lv_at hl 1 rfl) ?_
          refine lv_aload_n hx hb dX0_below_101 rfl (lv_at hl 0 rfl) ?_
          refine lv_iload_n hx hb dX0_below_102 rfl (lv_at hl 1 rfl) ?_
          refine lv_iload hx hb dX0_below_103 (lv_at hl 4 rfl) ?_
          obtain ⟨x105, hc105, hJ⟩ := bnd1_some hJ
          refine jcS_i (As := [.ref q_a0, .int v1, .int v4]) (rest := [.int v1, .ref q_a2]) (isC := [0, 1, 2]) (isR := [3, 4]) (isB := [2, 3, 4, 0, 1]) (wr := [(q_a0_sources, .inl (cI, 48, .inl a0_sources)), (q_a2, .inl (cI, 16, .inl a2))]) (ws2 := [(q_a0, .inr (2, [.int a0_count, .ref q_a0_kinds, .ref q_a0_wicks, .ref q_a0_sources, .ref q_a0_changes, .long a0_state, .int a0_areLoopsAllowed, .int a0_ticks, .int a0_tickChanges, .int a0_sets])), (q_a0_kinds, .inl (cI, 16, .inl a0_kinds)), (q_a0_wicks, .inl (cI, 16, .inl a0_wicks)), (q_a0_sources, .inl (cI, 48, .inl a0_sources)), (q_a2, .inl (cI, 16, .inl a2))]) hF (c_X0_ownDepth l D cI cJ cC cL q_a0 q_a0_kinds q_a0_wicks q_a0_sources q_a0_changes a0_count a0_state a0_areLoopsAllowed a0_ticks a0_tickChanges a0_sets a0_kinds a0_wicks v1 v4 x105 hc105 H.size) (va_cwS 3 hts gX0_below_X0_ownDepth rfl rfl rfl (by decide +kernel) (by simp only [rmX0_below, rmX0_ownDepth]; omega)) rfl hl rfl (Nat.le_of_ble_eq_true rfl) dX0_below_105 ⟨Nat.zero_le _, Nat.zero_le _⟩ hK hN KX_T trivial hP hD hS hA rfl rfl rfl rfl (by decide) rfl rfl (fun H locs hP hD hS => ?_)
          obtain ⟨hin, hJ⟩ := chk_in hJ
          refine va_iast hx hb hK hP hD hS 4 0 rfl rfl hin dX0_below_108 (fun H locs hP hD hS => ?_)
          have hP : va_P D vwCl [(q_a0, .inr (2, [.int a0_count, .ref q_a0_kinds, .ref q_a0_wicks, .ref q_a0_sources, .ref q_a0_changes, .long a0_state, .int a0_areLoopsAllowed, .int a0_ticks, .int a0_tickChanges, .int a0_sets])), (q_a0_kinds, .inl (cI, 16, .inl a0_kinds)), (q_a0_wicks, .inl (cI, 16, .inl a0_wicks)), (q_a0_sources, .inl (cI, 48, .inl a0_sources)), (q_a2, .inl (cI, 16, .inl (upd a2 v1.toNatClampNeg x105)))] H := hP
          have hD : va_D A [(q_a0, .inr (2, [.int a0_count, .ref q_a0_kinds, .ref q_a0_wicks, .ref q_a0_sources, .ref q_a0_changes, .long a0_state, .int a0_areLoopsAllowed, .int a0_ticks, .int a0_tickChanges, .int a0_sets])), (q_a0_kinds, .inl (cI, 16, .inl a0_kinds)), (q_a0_wicks, .inl (cI, 16, .inl a0_wicks)), (q_a0_sources, .inl (cI, 48, .inl a0_sources)), (q_a2, .inl (cI, 16, .inl (upd a2 v1.toNatClampNeg x105)))] := hD
          refine lv_aload_n hx hb dX0_below_109 rfl (lv_at hl 2 rfl) ?_
          refine lv_iload_n hx hb dX0_below_110 rfl (lv_at hl 1 rfl) ?_
          obtain ⟨hin, hJ⟩ := chk_in hJ
          refine va_iald hx hb hK hP 4 0 rfl rfl hin dX0_below_111 ?_
          refine jt_i hJ (fun x111 hJ => ?_)
          have hJ := Option.some.inj hJ
          obtain ⟨e0, e1⟩ : (x111) = r ∧ ((upd a2 v1.toNatClampNeg x105)) = o_a2 := ⟨congrArg (fun z => z.1) hJ, congrArg (fun z => z.2) hJ⟩
          exact hRet (by rw [← e1]; exact hP) (by rw [← e1]; exact hD) hS e0 dX0_below_112
        · refine lv_aload_n hx hb dX0_below_45 rfl (lv_at hl 0 rfl) ?_
          refine lv_iload_n hx hb dX0_below_46 rfl (lv_at hl 1 rfl) ?_
          refine lv_iload hx hb dX0_below_47 (lv_at hl 5 rfl) ?_
          obtain ⟨x49, hc49, hJ⟩ := bnd1_some hJ
          refine jcV_i (C := RX2) (T := TX2) (N := 10) (ci := 2) (q0 := 0) (As := [.int v1, .int v5]) (rest := []) (isC := [0, 3]) (isR := [1, 2, 4]) (isB := [3, 0, 1, 4, 2]) (wr := [(q_a0_kinds, .inl (cI, 16, .inl a0_kinds)), (q_a0_wicks, .inl (cI, 16, .inl a0_wicks)), (q_a2, .inl (cI, 16, .inl a2))]) (ws2 := [(q_a0, .inr (2, [.int a0_count, .ref q_a0_kinds, .ref q_a0_wicks, .ref q_a0_sources, .ref q_a0_changes, .long a0_state, .int a0_areLoopsAllowed, .int a0_ticks, .int a0_tickChanges, .int a0_sets])), (q_a0_kinds, .inl (cI, 16, .inl a0_kinds)), (q_a0_wicks, .inl (cI, 16, .inl a0_wicks)), (q_a0_sources, .inl (cI, 48, .inl a0_sources)), (q_a2, .inl (cI, 16, .inl a2))]) hF (c_X2_sourceOf l D cI cJ cC cL q_a0 q_a0_kinds q_a0_wicks q_a0_sources q_a0_changes a0_count a0_state a0_areLoopsAllowed a0_ticks a0_tickChanges a0_sets a0_sources v1 v5 x49 hc49 H.size) (cwV 2 hts gX0_below_X2_sourceOf rfl rfl rfl (by decide +kernel) (by simp only [rmX0_below, rmX2_sourceOf]; omega)) rfl hl rfl (Nat.le_of_ble_eq_true rfl) dX0_below_49 ⟨Nat.zero_le _, Nat.zero_le _⟩ hK hN KX_T trivial hP hD hS hA rfl rfl rfl rfl rfl rfl (by decide) rfl rfl (fun H locs hP hD hS => ?_)
          refine lv_istore (lv' := [(6, .int x49), (0, .ref q_a0), (1, .int v1), (2, .ref q_a2), (3, .int v3), (4, .int v4), (5, .int v5)]) hx hb dX0_below_52 hl (by decide) rfl (fun ls hl => ?_)
          refine lv_iload hx hb dX0_below_54 (lv_at hl 0 rfl) ?_
          refine lv_iconst (v := (-1 : Int32)) hx hb dX0_below_56 (by decide) ?_
          refine jif_icmp_ne (tgt := 64) hx hb dX0_below_57 (by decide) hJ (fun hJ => ?_) (fun hJ => ?_)
          · refine lv_aload_n hx hb dX0_below_64 rfl (lv_at hl 1 rfl) ?_
            refine lv_iload hx hb dX0_below_65 (lv_at hl 0 rfl) ?_
            refine lv_aload_n hx hb dX0_below_67 rfl (lv_at hl 3 rfl) ?_
            refine lv_iload_n hx hb dX0_below_68 rfl (lv_at hl 4 rfl) ?_
            refine lv_iconst (v := (1 : Int32)) hx hb dX0_below_69 (by decide) ?_
            refine lv_iadd hx hb dX0_below_70 ?_
            refine jt_i hJ (fun x70 hJ => ?_)
            obtain ⟨x71, a2_71, hc71, hJ⟩ := bnd2_some hJ
            refine jcS_i (As := [.ref q_a0, .int x49, .ref q_a2, .int x70]) (rest := []) (isC := [0, 1, 2, 3, 4]) (isR := []) (isB := [0, 1, 2, 3, 4]) (wr := []) (ws2 := [(q_a0, .inr (2, [.int a0_count, .ref q_a0_kinds, .ref q_a0_wicks, .ref q_a0_sources, .ref q_a0_changes, .long a0_state, .int a0_areLoopsAllowed, .int a0_ticks, .int a0_tickChanges, .int a0_sets])), (q_a0_kinds, .inl (cI, 16, .inl a0_kinds)), (q_a0_wicks, .inl (cI, 16, .inl a0_wicks)), (q_a0_sources, .inl (cI, 48, .inl a0_sources)), (q_a2, .inl (cI, 16, .inl a2_71))]) hF (hslf a0_count a0_state a0_areLoopsAllowed a0_ticks a0_tickChanges a0_sets a0_kinds a0_wicks a0_sources a2 x49 x70 x71 a2_71 hc71 H.size) (va_cwS 4 hts gX0_below_X0_below rfl rfl rfl (by decide +kernel) (by simp only [rmX0_below]; omega)) rfl hl rfl (Nat.le_of_ble_eq_true rfl) dX0_below_71 ⟨Nat.zero_le _, Nat.zero_le _⟩ hK hN KX_T trivial hP hD hS hA rfl rfl rfl rfl (by decide) rfl rfl (fun H locs hP hD hS => ?_)
            exact B74 (fun z0 z1 z2 => J_X0_below_L39 slf a0_count a0_kinds a0_wicks a0_sources v1 v3 nf z0 z1 z2) ih a2_71 v4 v5 x71  H locs  hP hD hS _ (lv_sub hl [1, 2, 3, 4, 5, 6] rfl) hJ
          · refine lv_iconst (v := (0 : Int32)) hx hb dX0_below_60 (by decide) ?_
            refine lv_goto (tgt := 74) hx hb dX0_below_61 (by decide) ?_
            exact B74 (fun z0 z1 z2 => J_X0_below_L39 slf a0_count a0_kinds a0_wicks a0_sources v1 v3 nf z0 z1 z2) ih a2 v4 v5 (0 : Int32)  H locs  hP hD hS _ (lv_sub hl [1, 2, 3, 4, 5, 6] rfl) hJ
    unfold J_X0_below_top at hJ
    refine lv_aload_n hx hb dX0_below_0 rfl (lv_at hl 0 rfl) ?_
    refine lv_iload_n hx hb dX0_below_1 rfl (lv_at hl 1 rfl) ?_
    obtain ⟨x2, hc2, hJ⟩ := bnd1_some hJ
    refine jcV_i (C := RX2) (T := TX2) (N := 10) (ci := 2) (q0 := 0) (As := [.int v1]) (rest := []) (isC := [0]) (isR := [1, 2, 3, 4]) (isB := [4, 0, 1, 2, 3]) (wr := [(q_a0_kinds, .inl (cI, 16, .inl a0_kinds)), (q_a0_wicks, .inl (cI, 16, .inl a0_wicks)), (q_a0_sources, .inl (cI, 48, .inl a0_sources)), (q_a2, .inl (cI, 16, .inl a2))]) (ws2 := [(q_a0, .inr (2, [.int a0_count, .ref q_a0_kinds, .ref q_a0_wicks, .ref q_a0_sources, .ref q_a0_changes, .long a0_state, .int a0_areLoopsAllowed, .int a0_ticks, .int a0_tickChanges, .int a0_sets])), (q_a0_kinds, .inl (cI, 16, .inl a0_kinds)), (q_a0_wicks, .inl (cI, 16, .inl a0_wicks)), (q_a0_sources, .inl (cI, 48, .inl a0_sources)), (q_a2, .inl (cI, 16, .inl a2))]) hF (c_X2_isHung l D cI cJ cC cL q_a0 q_a0_kinds q_a0_wicks q_a0_sources q_a0_changes a0_count a0_state a0_areLoopsAllowed a0_ticks a0_tickChanges a0_sets v1 x2 hc2 s.heap.size) (cwV 1 hts gX0_below_X2_isHung rfl rfl rfl (by decide +kernel) (by simp only [rmX0_below, rmX2_isHung]; omega)) rfl hl rfl (Nat.le_of_ble_eq_true rfl) dX0_below_2 ⟨Nat.zero_le _, Nat.zero_le _⟩ hK hN KX_T trivial hP hD hS hA rfl rfl rfl rfl rfl rfl (by decide) rfl rfl (fun H locs hP hD hS => ?_)
    refine jif_eq (tgt := 14) hx hb dX0_below_5 (by decide) hJ (fun hJ => ?_) (fun hJ => ?_)
    · exact B14  a2  H locs  hP hD hS _ (lv_sub hl [] rfl) hJ
    · refine lv_iload_n hx hb dX0_below_8 rfl (lv_at hl 3 rfl) ?_
      refine lv_bipush (v := (16 : Int32)) hx hb dX0_below_9 (by decide) ?_
      refine jif_icmp_le (tgt := 17) hx hb dX0_below_11 (by decide) hJ (fun hJ => ?_) (fun hJ => ?_)
      · refine lv_aload_n hx hb dX0_below_17 rfl (lv_at hl 2 rfl) ?_
        refine lv_iload_n hx hb dX0_below_18 rfl (lv_at hl 1 rfl) ?_
        obtain ⟨hin, hJ⟩ := chk_in hJ
        refine va_iald hx hb hK hP 4 0 rfl rfl hin dX0_below_19 ?_
        refine jt_i hJ (fun x19 hJ => ?_)
        refine lv_iconst (v := (-1 : Int32)) hx hb dX0_below_20 (by decide) ?_
        refine jif_icmp_eq (tgt := 28) hx hb dX0_below_21 (by decide) hJ (fun hJ => ?_) (fun hJ => ?_)
        · refine lv_aload_n hx hb dX0_below_28 rfl (lv_at hl 2 rfl) ?_
          refine lv_iload_n hx hb dX0_below_29 rfl (lv_at hl 1 rfl) ?_
          refine lv_bipush (v := (-15 : Int32)) hx hb dX0_below_30 (by decide) ?_
          obtain ⟨hin, hJ⟩ := chk_in hJ
          refine va_iast hx hb hK hP hD hS 4 0 rfl rfl hin dX0_below_32 (fun H locs hP hD hS => ?_)
          have hP : va_P D vwCl [(q_a0, .inr (2, [.int a0_count, .ref q_a0_kinds, .ref q_a0_wicks, .ref q_a0_sources, .ref q_a0_changes, .long a0_state, .int a0_areLoopsAllowed, .int a0_ticks, .int a0_tickChanges, .int a0_sets])), (q_a0_kinds, .inl (cI, 16, .inl a0_kinds)), (q_a0_wicks, .inl (cI, 16, .inl a0_wicks)), (q_a0_sources, .inl (cI, 48, .inl a0_sources)), (q_a2, .inl (cI, 16, .inl (upd a2 v1.toNatClampNeg (-15 : Int32))))] H := hP
          have hD : va_D A [(q_a0, .inr (2, [.int a0_count, .ref q_a0_kinds, .ref q_a0_wicks, .ref q_a0_sources, .ref q_a0_changes, .long a0_state, .int a0_areLoopsAllowed, .int a0_ticks, .int a0_tickChanges, .int a0_sets])), (q_a0_kinds, .inl (cI, 16, .inl a0_kinds)), (q_a0_wicks, .inl (cI, 16, .inl a0_wicks)), (q_a0_sources, .inl (cI, 48, .inl a0_sources)), (q_a2, .inl (cI, 16, .inl (upd a2 v1.toNatClampNeg (-15 : Int32))))] := hD
          refine lv_iconst (v := (0 : Int32)) hx hb dX0_below_33 (by decide) ?_
          refine lv_istore (lv' := [(4, .int (0 : Int32)), (0, .ref q_a0), (1, .int v1), (2, .ref q_a2), (3, .int v3)]) hx hb dX0_below_34 hl (by decide) rfl (fun ls hl => ?_)
          refine lv_iconst (v := (0 : Int32)) hx hb dX0_below_36 (by decide) ?_
          refine lv_istore (lv' := [(5, .int (0 : Int32)), (4, .int (0 : Int32)), (0, .ref q_a0), (1, .int v1), (2, .ref q_a2), (3, .int v3)]) hx hb dX0_below_37 hl (by decide) rfl (fun ls hl => ?_)
          exact L39  FU (upd a2 v1.toNatClampNeg (-15 : Int32)) (0 : Int32) (0 : Int32)  H locs  hP hD hS _ (lv_sub hl [2, 3, 4, 5, 1, 0] rfl) hJ
        · refine lv_aload_n hx hb dX0_below_24 rfl (lv_at hl 2 rfl) ?_
          refine lv_iload_n hx hb dX0_below_25 rfl (lv_at hl 1 rfl) ?_
          obtain ⟨hin, hJ⟩ := chk_in hJ
          refine va_iald hx hb hK hP 4 0 rfl rfl hin dX0_below_26 ?_
          refine jt_i hJ (fun x26 hJ => ?_)
          have hJ := Option.some.inj hJ
          obtain ⟨e0, e1⟩ : (x26) = r ∧ (a2) = o_a2 := ⟨congrArg (fun z => z.1) hJ, congrArg (fun z => z.2) hJ⟩
          exact hRet (by rw [← e1]; exact hP) (by rw [← e1]; exact hD) hS e0 dX0_below_27
      · exact B14  a2  H locs  hP hD hS _ (lv_sub hl [] rfl) hJ
theorem c_X0_below (l : Launch) (D : va_G) (cI cJ cC cL : ClassId) (q_a0 q_a0_kinds q_a0_wicks q_a0_sources q_a0_changes q_a2 : Nat) (a0_count : Int32) (a0_state : Int64) (a0_areLoopsAllowed : Int32) (a0_ticks : Int32) (a0_tickChanges : Int32) (a0_sets : Int32) (a0_kinds : Nat → Int32) (a0_wicks : Nat → Int32) (a0_sources : Nat → Int32) (a2 : Nat → Int32) (v1 : Int32) (v3 : Int32) (r : Int32) (o_a2 : Nat → Int32) (hJ : J_X0_below 20 a0_count a0_kinds a0_wicks a0_sources a2 v1 v3 = some (r, o_a2)) (sz : Nat) : Met l yX0_below wsX0_below (rmX0_below 20) (va_Pc [.ref q_a0, .int v1, .ref q_a2, .int v3] (jpre XT D (tyL cI cJ cC cL) [(q_a0, .inr (2, [.int a0_count, .ref q_a0_kinds, .ref q_a0_wicks, .ref q_a0_sources, .ref q_a0_changes, .long a0_state, .int a0_areLoopsAllowed, .int a0_ticks, .int a0_tickChanges, .int a0_sets])), (q_a0_kinds, .inl (cI, 16, .inl a0_kinds)), (q_a0_wicks, .inl (cI, 16, .inl a0_wicks)), (q_a0_sources, .inl (cI, 48, .inl a0_sources)), (q_a2, .inl (cI, 16, .inl a2))] sz)) (va_Qi (fun r' (_ : Unit) => r' = r) (fun _ t => jpost D (tyL cI cJ cC cL) (va_A [(q_a0, .inr (2, [.int a0_count, .ref q_a0_kinds, .ref q_a0_wicks, .ref q_a0_sources, .ref q_a0_changes, .long a0_state, .int a0_areLoopsAllowed, .int a0_ticks, .int a0_tickChanges, .int a0_sets])), (q_a0_kinds, .inl (cI, 16, .inl a0_kinds)), (q_a0_wicks, .inl (cI, 16, .inl a0_wicks)), (q_a0_sources, .inl (cI, 48, .inl a0_sources)), (q_a2, .inl (cI, 16, .inl a2))] sz) [(q_a0, .inr (2, [.int a0_count, .ref q_a0_kinds, .ref q_a0_wicks, .ref q_a0_sources, .ref q_a0_changes, .long a0_state, .int a0_areLoopsAllowed, .int a0_ticks, .int a0_tickChanges, .int a0_sets])), (q_a0_kinds, .inl (cI, 16, .inl a0_kinds)), (q_a0_wicks, .inl (cI, 16, .inl a0_wicks)), (q_a0_sources, .inl (cI, 48, .inl a0_sources)), (q_a2, .inl (cI, 16, .inl o_a2))] t) (va_A [(q_a0, .inr (2, [.int a0_count, .ref q_a0_kinds, .ref q_a0_wicks, .ref q_a0_sources, .ref q_a0_changes, .long a0_state, .int a0_areLoopsAllowed, .int a0_ticks, .int a0_tickChanges, .int a0_sets])), (q_a0_kinds, .inl (cI, 16, .inl a0_kinds)), (q_a0_wicks, .inl (cI, 16, .inl a0_wicks)), (q_a0_sources, .inl (cI, 48, .inl a0_sources)), (q_a2, .inl (cI, 16, .inl a2))] sz)) 0 0 (va_A [(q_a0, .inr (2, [.int a0_count, .ref q_a0_kinds, .ref q_a0_wicks, .ref q_a0_sources, .ref q_a0_changes, .long a0_state, .int a0_areLoopsAllowed, .int a0_ticks, .int a0_tickChanges, .int a0_sets])), (q_a0_kinds, .inl (cI, 16, .inl a0_kinds)), (q_a0_wicks, .inl (cI, 16, .inl a0_wicks)), (q_a0_sources, .inl (cI, 48, .inl a0_sources)), (q_a2, .inl (cI, 16, .inl a2))] sz) := c_X0_below_all l D cI cJ cC cL q_a0 q_a0_kinds q_a0_wicks q_a0_sources q_a0_changes q_a2 20 a0_count a0_state a0_areLoopsAllowed a0_ticks a0_tickChanges a0_sets a0_kinds a0_wicks a0_sources a2 v1 v3 r o_a2 hJ sz

def J_X0_lookAtAll_b40 (k2 : (Nat → Int32) → Int32 → Option ((Nat → Int32))) (a1_count : Int32) (a1_kinds : Nat → Int32) (a1_wicks : Nat → Int32) (a1_sources : Nat → Int32) (t_known : Nat → Int32) (v2 : Int32) : Option ((Nat → Int32)) :=
    nm (v2 + Int32.ofInt 1) fun x40 =>
    k2 t_known x40
def J_X0_lookAtAll_b46 (a1_count : Int32) (a1_kinds : Nat → Int32) (a1_wicks : Nat → Int32) (a1_sources : Nat → Int32) (t_known : Nat → Int32) : Option ((Nat → Int32)) :=
    some (t_known)
def J_X0_lookAtAll_L2 (a1_count : Int32) (a1_kinds : Nat → Int32) (a1_wicks : Nat → Int32) (a1_sources : Nat → Int32) : Nat → (Nat → Int32) → Int32 → Option ((Nat → Int32))
  | 0, _, _ => none
  | nf + 1, t_known, v2 =>
    bnd1 (J_X2_count a1_count) fun x4 =>
    if x4 ≤ v2 then (
    J_X0_lookAtAll_b46 a1_count a1_kinds a1_wicks a1_sources t_known)
    else (
    if (16 : Int32) ≤ v2 then (
    J_X0_lookAtAll_b46 a1_count a1_kinds a1_wicks a1_sources t_known)
    else (
    bnd1 (J_X0_deepestSource t_known a1_count a1_sources v2) fun x19 =>
    if x19 = (-1 : Int32) then (
    J_X0_lookAtAll_b40 (fun z0 z1 => J_X0_lookAtAll_L2 a1_count a1_kinds a1_wicks a1_sources nf z0 z1) a1_count a1_kinds a1_wicks a1_sources t_known v2)
    else (
    bnd1 (J_X0_ownDepth a1_count a1_kinds a1_wicks v2 x19) fun x36 =>
    chk v2 16 (
    J_X0_lookAtAll_b40 (fun z0 z1 => J_X0_lookAtAll_L2 a1_count a1_kinds a1_wicks a1_sources nf z0 z1) a1_count a1_kinds a1_wicks a1_sources (upd t_known v2.toNatClampNeg x36) v2))))
def J_X0_lookAtAll (t_known : Nat → Int32) (a1_count : Int32) (a1_kinds : Nat → Int32) (a1_wicks : Nat → Int32) (a1_sources : Nat → Int32) : Option ((Nat → Int32)) :=
    J_X0_lookAtAll_L2 a1_count a1_kinds a1_wicks a1_sources FU t_known (0 : Int32)
abbrev rmX0_lookAtAll : Room := { frames := 3, cells := 0, slots := 0, locals := 64 }
set_option maxHeartbeats 4000000 in
set_option maxRecDepth 100000 in
theorem c_X0_lookAtAll (l : Launch) (D : va_G) (cI cJ cC cL : ClassId) (q_t q_t_known q_a1 q_a1_kinds q_a1_wicks q_a1_sources q_a1_changes : Nat) (t_known : Nat → Int32) (a1_count : Int32) (a1_state : Int64) (a1_areLoopsAllowed : Int32) (a1_ticks : Int32) (a1_tickChanges : Int32) (a1_sets : Int32) (a1_kinds : Nat → Int32) (a1_wicks : Nat → Int32) (a1_sources : Nat → Int32) (o_t_known : Nat → Int32) (hJ : J_X0_lookAtAll t_known a1_count a1_kinds a1_wicks a1_sources = some (o_t_known)) (sz : Nat) : Met l yX0_lookAtAll wsX0_lookAtAll rmX0_lookAtAll (va_Pc [.ref q_t, .ref q_a1] (jpre XT D (tyL cI cJ cC cL) [(q_t, .inr (0, [.ref q_t_known])), (q_t_known, .inl (cI, 16, .inl t_known)), (q_a1, .inr (2, [.int a1_count, .ref q_a1_kinds, .ref q_a1_wicks, .ref q_a1_sources, .ref q_a1_changes, .long a1_state, .int a1_areLoopsAllowed, .int a1_ticks, .int a1_tickChanges, .int a1_sets])), (q_a1_kinds, .inl (cI, 16, .inl a1_kinds)), (q_a1_wicks, .inl (cI, 16, .inl a1_wicks)), (q_a1_sources, .inl (cI, 48, .inl a1_sources))] sz)) (va_Qv (fun (_ : Unit) => True) (fun _ t => jpost D (tyL cI cJ cC cL) (va_A [(q_t, .inr (0, [.ref q_t_known])), (q_t_known, .inl (cI, 16, .inl t_known)), (q_a1, .inr (2, [.int a1_count, .ref q_a1_kinds, .ref q_a1_wicks, .ref q_a1_sources, .ref q_a1_changes, .long a1_state, .int a1_areLoopsAllowed, .int a1_ticks, .int a1_tickChanges, .int a1_sets])), (q_a1_kinds, .inl (cI, 16, .inl a1_kinds)), (q_a1_wicks, .inl (cI, 16, .inl a1_wicks)), (q_a1_sources, .inl (cI, 48, .inl a1_sources))] sz) [(q_t, .inr (0, [.ref q_t_known])), (q_t_known, .inl (cI, 16, .inl o_t_known)), (q_a1, .inr (2, [.int a1_count, .ref q_a1_kinds, .ref q_a1_wicks, .ref q_a1_sources, .ref q_a1_changes, .long a1_state, .int a1_areLoopsAllowed, .int a1_ticks, .int a1_tickChanges, .int a1_sets])), (q_a1_kinds, .inl (cI, 16, .inl a1_kinds)), (q_a1_wicks, .inl (cI, 16, .inl a1_wicks)), (q_a1_sources, .inl (cI, 48, .inl a1_sources))] t) (va_A [(q_t, .inr (0, [.ref q_t_known])), (q_t_known, .inl (cI, 16, .inl t_known)), (q_a1, .inr (2, [.int a1_count, .ref q_a1_kinds, .ref q_a1_wicks, .ref q_a1_sources, .ref q_a1_changes, .long a1_state, .int a1_areLoopsAllowed, .int a1_ticks, .int a1_tickChanges, .int a1_sets])), (q_a1_kinds, .inl (cI, 16, .inl a1_kinds)), (q_a1_wicks, .inl (cI, 16, .inl a1_wicks)), (q_a1_sources, .inl (cI, 48, .inl a1_sources))] sz)) 0 0 (va_A [(q_t, .inr (0, [.ref q_t_known])), (q_t_known, .inl (cI, 16, .inl t_known)), (q_a1, .inr (2, [.int a1_count, .ref q_a1_kinds, .ref q_a1_wicks, .ref q_a1_sources, .ref q_a1_changes, .long a1_state, .int a1_areLoopsAllowed, .int a1_ticks, .int a1_tickChanges, .int a1_sets])), (q_a1_kinds, .inl (cI, 16, .inl a1_kinds)), (q_a1_wicks, .inl (cI, 16, .inl a1_wicks)), (q_a1_sources, .inl (cI, 48, .inl a1_sources))] sz) := by
  refine jE_v (cc := cX0_lookAtAll) (maxL := 4) (own := RX0) (ret := none) (lv0 := [(0, .ref q_t), (1, .ref q_a1)]) (by decide) rfl rfl rfl (Nat.le_of_ble_eq_true rfl) rfl ?_
  intro p e s m args below meth c A Q ls hx hb hml hown hts hK hN hX hA hP hD hS hl hRet
  have hF : CallFix p m c cX0_lookAtAll 4 s args wsX0_lookAtAll RX0 := ⟨hx, hb, hml, hown, hts⟩
  have fl_9 := hts (.fieldLink RX0 9 "LanternLogic$Depths" "known" "[I") (by decide +kernel)
  have hin_X0 : ∀ w ∈ u_ws RX0 TX0 1, w ∈ wsX0_lookAtAll := by decide +kernel
  have B40 : ∀ (k2 : (Nat → Int32) → Int32 → Option ((Nat → Int32))), (∀ (t_known : Nat → Int32) (v2 : Int32) (H : Heap) (locs : List Loc), va_P D vwCl [(q_t, .inr (0, [.ref q_t_known])), (q_t_known, .inl (cI, 16, .inl t_known)), (q_a1, .inr (2, [.int a1_count, .ref q_a1_kinds, .ref q_a1_wicks, .ref q_a1_sources, .ref q_a1_changes, .long a1_state, .int a1_areLoopsAllowed, .int a1_ticks, .int a1_tickChanges, .int a1_sets])), (q_a1_kinds, .inl (cI, 16, .inl a1_kinds)), (q_a1_wicks, .inl (cI, 16, .inl a1_wicks)), (q_a1_sources, .inl (cI, 48, .inl a1_sources))] H → va_D A [(q_t, .inr (0, [.ref q_t_known])), (q_t_known, .inl (cI, 16, .inl t_known)), (q_a1, .inr (2, [.int a1_count, .ref q_a1_kinds, .ref q_a1_wicks, .ref q_a1_sources, .ref q_a1_changes, .long a1_state, .int a1_areLoopsAllowed, .int a1_ticks, .int a1_tickChanges, .int a1_sets])), (q_a1_kinds, .inl (cI, 16, .inl a1_kinds)), (q_a1_wicks, .inl (cI, 16, .inl a1_wicks)), (q_a1_sources, .inl (cI, 48, .inl a1_sources))] → va_S A s.heap H locs → ∀ ls : Array Slot, lv_has ls 4 [(0, .ref q_t), (1, .ref q_a1), (2, .int v2)] → k2 t_known v2 = some (o_t_known) → W p l e rmX0_lookAtAll s m args below meth c H locs 0 0 Q (F0 m 2 ls [])) → ∀ (t_known : Nat → Int32) (v2 : Int32) (H : Heap) (locs : List Loc), va_P D vwCl [(q_t, .inr (0, [.ref q_t_known])), (q_t_known, .inl (cI, 16, .inl t_known)), (q_a1, .inr (2, [.int a1_count, .ref q_a1_kinds, .ref q_a1_wicks, .ref q_a1_sources, .ref q_a1_changes, .long a1_state, .int a1_areLoopsAllowed, .int a1_ticks, .int a1_tickChanges, .int a1_sets])), (q_a1_kinds, .inl (cI, 16, .inl a1_kinds)), (q_a1_wicks, .inl (cI, 16, .inl a1_wicks)), (q_a1_sources, .inl (cI, 48, .inl a1_sources))] H → va_D A [(q_t, .inr (0, [.ref q_t_known])), (q_t_known, .inl (cI, 16, .inl t_known)), (q_a1, .inr (2, [.int a1_count, .ref q_a1_kinds, .ref q_a1_wicks, .ref q_a1_sources, .ref q_a1_changes, .long a1_state, .int a1_areLoopsAllowed, .int a1_ticks, .int a1_tickChanges, .int a1_sets])), (q_a1_kinds, .inl (cI, 16, .inl a1_kinds)), (q_a1_wicks, .inl (cI, 16, .inl a1_wicks)), (q_a1_sources, .inl (cI, 48, .inl a1_sources))] → va_S A s.heap H locs → ∀ ls : Array Slot, lv_has ls 4 [(0, .ref q_t), (1, .ref q_a1), (2, .int v2)] → J_X0_lookAtAll_b40 k2 a1_count a1_kinds a1_wicks a1_sources t_known v2 = some (o_t_known) → W p l e rmX0_lookAtAll s m args below meth c H locs 0 0 Q (F0 m 40 ls []) := by
    intro k2 hk2 t_known v2 H locs hP hD hS ls hl hJ
    unfold J_X0_lookAtAll_b40 at hJ
    refine jt_iinc hJ (fun x40 ex40 hJ => ?_)
    refine lv_iinc (v := x40) (lv' := [(2, .int x40), (0, .ref q_t), (1, .ref q_a1)]) hx hb dX0_lookAtAll_40 hl (k := 2) rfl ex40 (by decide) rfl (fun ls hl => ?_)
    refine lv_goto (tgt := 2) hx hb dX0_lookAtAll_43 (by decide) ?_
    exact hk2 t_known x40  H locs  hP hD hS _ (lv_sub hl [1, 2, 0] rfl) hJ
  have B46 : ∀ (t_known : Nat → Int32) (H : Heap) (locs : List Loc), va_P D vwCl [(q_t, .inr (0, [.ref q_t_known])), (q_t_known, .inl (cI, 16, .inl t_known)), (q_a1, .inr (2, [.int a1_count, .ref q_a1_kinds, .ref q_a1_wicks, .ref q_a1_sources, .ref q_a1_changes, .long a1_state, .int a1_areLoopsAllowed, .int a1_ticks, .int a1_tickChanges, .int a1_sets])), (q_a1_kinds, .inl (cI, 16, .inl a1_kinds)), (q_a1_wicks, .inl (cI, 16, .inl a1_wicks)), (q_a1_sources, .inl (cI, 48, .inl a1_sources))] H → va_D A [(q_t, .inr (0, [.ref q_t_known])), (q_t_known, .inl (cI, 16, .inl t_known)), (q_a1, .inr (2, [.int a1_count, .ref q_a1_kinds, .ref q_a1_wicks, .ref q_a1_sources, .ref q_a1_changes, .long a1_state, .int a1_areLoopsAllowed, .int a1_ticks, .int a1_tickChanges, .int a1_sets])), (q_a1_kinds, .inl (cI, 16, .inl a1_kinds)), (q_a1_wicks, .inl (cI, 16, .inl a1_wicks)), (q_a1_sources, .inl (cI, 48, .inl a1_sources))] → va_S A s.heap H locs → ∀ ls : Array Slot, lv_has ls 4 [] → J_X0_lookAtAll_b46  a1_count a1_kinds a1_wicks a1_sources t_known = some (o_t_known) → W p l e rmX0_lookAtAll s m args below meth c H locs 0 0 Q (F0 m 46 ls []) := by
    intro t_known H locs hP hD hS ls hl hJ
    unfold J_X0_lookAtAll_b46 at hJ
    have e0 := Option.some.inj hJ
    exact hRet (by rw [← e0]; exact hP) (by rw [← e0]; exact hD) hS dX0_lookAtAll_46
  have L2 : ∀ (nf : Nat), ∀ (t_known : Nat → Int32) (v2 : Int32) (H : Heap) (locs : List Loc), va_P D vwCl [(q_t, .inr (0, [.ref q_t_known])), (q_t_known, .inl (cI, 16, .inl t_known)), (q_a1, .inr (2, [.int a1_count, .ref q_a1_kinds, .ref q_a1_wicks, .ref q_a1_sources, .ref q_a1_changes, .long a1_state, .int a1_areLoopsAllowed, .int a1_ticks, .int a1_tickChanges, .int a1_sets])), (q_a1_kinds, .inl (cI, 16, .inl a1_kinds)), (q_a1_wicks, .inl (cI, 16, .inl a1_wicks)), (q_a1_sources, .inl (cI, 48, .inl a1_sources))] H → va_D A [(q_t, .inr (0, [.ref q_t_known])), (q_t_known, .inl (cI, 16, .inl t_known)), (q_a1, .inr (2, [.int a1_count, .ref q_a1_kinds, .ref q_a1_wicks, .ref q_a1_sources, .ref q_a1_changes, .long a1_state, .int a1_areLoopsAllowed, .int a1_ticks, .int a1_tickChanges, .int a1_sets])), (q_a1_kinds, .inl (cI, 16, .inl a1_kinds)), (q_a1_wicks, .inl (cI, 16, .inl a1_wicks)), (q_a1_sources, .inl (cI, 48, .inl a1_sources))] → va_S A s.heap H locs → ∀ ls : Array Slot, lv_has ls 4 [(0, .ref q_t), (1, .ref q_a1), (2, .int v2)] → J_X0_lookAtAll_L2  a1_count a1_kinds a1_wicks a1_sources nf t_known v2 = some (o_t_known) → W p l e rmX0_lookAtAll s m args below meth c H locs 0 0 Q (F0 m 2 ls []) := by
    intro nf
    induction nf with
    | zero =>
      intro t_known v2 H locs hP hD hS ls hl hJ
      rw [J_X0_lookAtAll_L2] at hJ
      cases hJ
    | succ nf ih =>
      intro t_known v2 H locs hP hD hS ls hl hJ
      rw [J_X0_lookAtAll_L2] at hJ
      refine lv_iload_n hx hb dX0_lookAtAll_2 rfl (lv_at hl 2 rfl) ?_
      refine lv_aload_n hx hb dX0_lookAtAll_3 rfl (lv_at hl 1 rfl) ?_
      obtain ⟨x4, hc4, hJ⟩ := bnd1_some hJ
      refine jcV_i (C := RX2) (T := TX2) (N := 10) (ci := 2) (q0 := 0) (As := []) (rest := [.int v2]) (isC := [2]) (isR := [0, 1, 3, 4, 5]) (isB := [0, 1, 5, 2, 3, 4]) (wr := [(q_t, .inr (0, [.ref q_t_known])), (q_t_known, .inl (cI, 16, .inl t_known)), (q_a1_kinds, .inl (cI, 16, .inl a1_kinds)), (q_a1_wicks, .inl (cI, 16, .inl a1_wicks)), (q_a1_sources, .inl (cI, 48, .inl a1_sources))]) (ws2 := [(q_t, .inr (0, [.ref q_t_known])), (q_t_known, .inl (cI, 16, .inl t_known)), (q_a1, .inr (2, [.int a1_count, .ref q_a1_kinds, .ref q_a1_wicks, .ref q_a1_sources, .ref q_a1_changes, .long a1_state, .int a1_areLoopsAllowed, .int a1_ticks, .int a1_tickChanges, .int a1_sets])), (q_a1_kinds, .inl (cI, 16, .inl a1_kinds)), (q_a1_wicks, .inl (cI, 16, .inl a1_wicks)), (q_a1_sources, .inl (cI, 48, .inl a1_sources))]) hF (c_X2_count l D cI cJ cC cL q_a1 q_a1_kinds q_a1_wicks q_a1_sources q_a1_changes a1_count a1_state a1_areLoopsAllowed a1_ticks a1_tickChanges a1_sets x4 hc4 H.size) (cwV 0 hts gX0_lookAtAll_X2_count rfl rfl rfl (by decide +kernel) ⟨Nat.le_of_ble_eq_true rfl, Nat.le_of_ble_eq_true rfl⟩) rfl hl rfl (Nat.le_of_ble_eq_true rfl) dX0_lookAtAll_4 ⟨Nat.zero_le _, Nat.zero_le _⟩ hK hN KX_T trivial hP hD hS hA rfl rfl rfl rfl rfl rfl (by decide) rfl rfl (fun H locs hP hD hS => ?_)
      refine jif_icmp_ge (tgt := 46) hx hb dX0_lookAtAll_7 (by decide) hJ (fun hJ => ?_) (fun hJ => ?_)
      · exact B46  t_known  H locs  hP hD hS _ (lv_sub hl [] rfl) hJ
      · refine lv_iload_n hx hb dX0_lookAtAll_10 rfl (lv_at hl 2 rfl) ?_
        refine lv_bipush (v := (16 : Int32)) hx hb dX0_lookAtAll_11 (by decide) ?_
        refine jif_icmp_ge (tgt := 46) hx hb dX0_lookAtAll_13 (by decide) hJ (fun hJ => ?_) (fun hJ => ?_)
        · exact B46  t_known  H locs  hP hD hS _ (lv_sub hl [] rfl) hJ
        · refine lv_aload_n hx hb dX0_lookAtAll_16 rfl (lv_at hl 0 rfl) ?_
          refine lv_aload_n hx hb dX0_lookAtAll_17 rfl (lv_at hl 1 rfl) ?_
          refine lv_iload_n hx hb dX0_lookAtAll_18 rfl (lv_at hl 2 rfl) ?_
          obtain ⟨x19, hc19, hJ⟩ := bnd1_some hJ
          refine jcV_i (C := RX0) (T := TX0) (N := 1) (ci := 0) (q0 := 0) (As := [.ref q_a1, .int v2]) (rest := []) (isC := [0, 1, 2, 5]) (isR := [3, 4]) (isB := [2, 3, 4, 0, 1, 5]) (wr := [(q_a1_kinds, .inl (cI, 16, .inl a1_kinds)), (q_a1_wicks, .inl (cI, 16, .inl a1_wicks))]) (ws2 := [(q_t, .inr (0, [.ref q_t_known])), (q_t_known, .inl (cI, 16, .inl t_known)), (q_a1, .inr (2, [.int a1_count, .ref q_a1_kinds, .ref q_a1_wicks, .ref q_a1_sources, .ref q_a1_changes, .long a1_state, .int a1_areLoopsAllowed, .int a1_ticks, .int a1_tickChanges, .int a1_sets])), (q_a1_kinds, .inl (cI, 16, .inl a1_kinds)), (q_a1_wicks, .inl (cI, 16, .inl a1_wicks)), (q_a1_sources, .inl (cI, 48, .inl a1_sources))]) hF (c_X0_deepestSource l D cI cJ cC cL q_t q_t_known q_a1 q_a1_kinds q_a1_wicks q_a1_sources q_a1_changes t_known a1_count a1_state a1_areLoopsAllowed a1_ticks a1_tickChanges a1_sets a1_sources v2 x19 hc19 H.size) (cwV 2 hts gX0_lookAtAll_X0_deepestSource rfl rfl rfl (by decide +kernel) ⟨Nat.le_of_ble_eq_true rfl, Nat.le_of_ble_eq_true rfl⟩) rfl hl rfl (Nat.le_of_ble_eq_true rfl) dX0_lookAtAll_19 ⟨Nat.zero_le _, Nat.zero_le _⟩ hK hN KX_T trivial hP hD hS hA rfl rfl rfl rfl rfl rfl (by decide) rfl rfl (fun H locs hP hD hS => ?_)
          refine lv_istore_n (lv' := [(3, .int x19), (0, .ref q_t), (1, .ref q_a1), (2, .int v2)]) hx hb dX0_lookAtAll_22 rfl hl (by decide) rfl (fun ls hl => ?_)
          refine lv_iload_n hx hb dX0_lookAtAll_23 rfl (lv_at hl 0 rfl) ?_
          refine lv_iconst (v := (-1 : Int32)) hx hb dX0_lookAtAll_24 (by decide) ?_
          refine jif_icmp_eq (tgt := 40) hx hb dX0_lookAtAll_25 (by decide) hJ (fun hJ => ?_) (fun hJ => ?_)
          · exact B40 (fun z0 z1 => J_X0_lookAtAll_L2 a1_count a1_kinds a1_wicks a1_sources nf z0 z1) ih t_known v2  H locs  hP hD hS _ (lv_sub hl [1, 2, 3] rfl) hJ
          · refine lv_aload_n hx hb dX0_lookAtAll_28 rfl (lv_at hl 1 rfl) ?_
            refine va_get (ci := 0) (v := .ref q_t_known) (C := RX0) (T := TX0) (N := 1) hx hb hts hin_X0 hown hK hP 0 rfl rfl 0 (by decide) fl_9 (fun _ h9 => h9) rfl dX0_lookAtAll_29 ?_
            refine lv_iload_n hx hb dX0_lookAtAll_32 rfl (lv_at hl 3 rfl) ?_
            refine lv_aload_n hx hb dX0_lookAtAll_33 rfl (lv_at hl 2 rfl) ?_
            refine lv_iload_n hx hb dX0_lookAtAll_34 rfl (lv_at hl 3 rfl) ?_
            refine lv_iload_n hx hb dX0_lookAtAll_35 rfl (lv_at hl 0 rfl) ?_
            obtain ⟨x36, hc36, hJ⟩ := bnd1_some hJ
            refine jcS_i (As := [.ref q_a1, .int v2, .int x19]) (rest := [.int v2, .ref q_t_known]) (isC := [2, 3, 4]) (isR := [0, 1, 5]) (isB := [0, 1, 3, 4, 5, 2]) (wr := [(q_t, .inr (0, [.ref q_t_known])), (q_t_known, .inl (cI, 16, .inl t_known)), (q_a1_sources, .inl (cI, 48, .inl a1_sources))]) (ws2 := [(q_t, .inr (0, [.ref q_t_known])), (q_t_known, .inl (cI, 16, .inl t_known)), (q_a1, .inr (2, [.int a1_count, .ref q_a1_kinds, .ref q_a1_wicks, .ref q_a1_sources, .ref q_a1_changes, .long a1_state, .int a1_areLoopsAllowed, .int a1_ticks, .int a1_tickChanges, .int a1_sets])), (q_a1_kinds, .inl (cI, 16, .inl a1_kinds)), (q_a1_wicks, .inl (cI, 16, .inl a1_wicks)), (q_a1_sources, .inl (cI, 48, .inl a1_sources))]) hF (c_X0_ownDepth l D cI cJ cC cL q_a1 q_a1_kinds q_a1_wicks q_a1_sources q_a1_changes a1_count a1_state a1_areLoopsAllowed a1_ticks a1_tickChanges a1_sets a1_kinds a1_wicks v2 x19 x36 hc36 H.size) (va_cwS 3 hts gX0_lookAtAll_X0_ownDepth rfl rfl rfl (by decide +kernel) ⟨Nat.le_of_ble_eq_true rfl, Nat.le_of_ble_eq_true rfl⟩) rfl hl rfl (Nat.le_of_ble_eq_true rfl) dX0_lookAtAll_36 ⟨Nat.zero_le _, Nat.zero_le _⟩ hK hN KX_T trivial hP hD hS hA rfl rfl rfl rfl (by decide) rfl rfl (fun H locs hP hD hS => ?_)
            obtain ⟨hin, hJ⟩ := chk_in hJ
            refine va_iast hx hb hK hP hD hS 1 0 rfl rfl hin dX0_lookAtAll_39 (fun H locs hP hD hS => ?_)
            have hP : va_P D vwCl [(q_t, .inr (0, [.ref q_t_known])), (q_t_known, .inl (cI, 16, .inl (upd t_known v2.toNatClampNeg x36))), (q_a1, .inr (2, [.int a1_count, .ref q_a1_kinds, .ref q_a1_wicks, .ref q_a1_sources, .ref q_a1_changes, .long a1_state, .int a1_areLoopsAllowed, .int a1_ticks, .int a1_tickChanges, .int a1_sets])), (q_a1_kinds, .inl (cI, 16, .inl a1_kinds)), (q_a1_wicks, .inl (cI, 16, .inl a1_wicks)), (q_a1_sources, .inl (cI, 48, .inl a1_sources))] H := hP
            have hD : va_D A [(q_t, .inr (0, [.ref q_t_known])), (q_t_known, .inl (cI, 16, .inl (upd t_known v2.toNatClampNeg x36))), (q_a1, .inr (2, [.int a1_count, .ref q_a1_kinds, .ref q_a1_wicks, .ref q_a1_sources, .ref q_a1_changes, .long a1_state, .int a1_areLoopsAllowed, .int a1_ticks, .int a1_tickChanges, .int a1_sets])), (q_a1_kinds, .inl (cI, 16, .inl a1_kinds)), (q_a1_wicks, .inl (cI, 16, .inl a1_wicks)), (q_a1_sources, .inl (cI, 48, .inl a1_sources))] := hD
            exact B40 (fun z0 z1 => J_X0_lookAtAll_L2 a1_count a1_kinds a1_wicks a1_sources nf z0 z1) ih (upd t_known v2.toNatClampNeg x36) v2  H locs  hP hD hS _ (lv_sub hl [1, 2, 3] rfl) hJ
  unfold J_X0_lookAtAll at hJ
  refine lv_iconst (v := (0 : Int32)) hx hb dX0_lookAtAll_0 (by decide) ?_
  refine lv_istore_n (lv' := [(2, .int (0 : Int32)), (0, .ref q_t), (1, .ref q_a1)]) hx hb dX0_lookAtAll_1 rfl hl (by decide) rfl (fun ls hl => ?_)
  exact L2  FU t_known (0 : Int32)  s.heap []  hP hD hS _ (lv_sub hl [1, 2, 0] rfl) hJ

def J_X0_greatest_L12 (a1_count : Int32) (a1_kinds : Nat → Int32) (a1_wicks : Nat → Int32) (a1_sources : Nat → Int32) : Nat → (Nat → Int32) → Int32 → Int32 → Option (Int32 × (Nat → Int32))
  | 0, _, _, _ => none
  | nf + 1, t_known, v2, v3 =>
    bnd1 (J_X2_count a1_count) fun x14 =>
    if x14 ≤ v3 then (
    some (v2, t_known))
    else (
    bnd2 (J_X0_below 20 a1_count a1_kinds a1_wicks a1_sources t_known v3 (0 : Int32)) fun x28 t_known_28 =>
    nm (if v2 < x28 then x28 else v2) fun x31 =>
    nm (v3 + Int32.ofInt 1) fun x35 =>
    J_X0_greatest_L12 a1_count a1_kinds a1_wicks a1_sources nf t_known_28 x31 x35)
def J_X0_greatest (t_known : Nat → Int32) (a1_count : Int32) (a1_kinds : Nat → Int32) (a1_wicks : Nat → Int32) (a1_sources : Nat → Int32) : Option (Int32 × (Nat → Int32)) :=
    bnd1 (J_J7_fill_53178 16 t_known (-1 : Int32)) fun t_known_5 =>
    J_X0_greatest_L12 a1_count a1_kinds a1_wicks a1_sources FU t_known_5 (0 : Int32) (0 : Int32)
abbrev rmX0_greatest : Room := { frames := 24, cells := 0, slots := 0, locals := 631 }
set_option maxHeartbeats 4000000 in
set_option maxRecDepth 100000 in
theorem c_X0_greatest (l : Launch) (D : va_G) (cI cJ cC cL : ClassId) (q_t q_t_known q_a1 q_a1_kinds q_a1_wicks q_a1_sources q_a1_changes : Nat) (t_known : Nat → Int32) (a1_count : Int32) (a1_state : Int64) (a1_areLoopsAllowed : Int32) (a1_ticks : Int32) (a1_tickChanges : Int32) (a1_sets : Int32) (a1_kinds : Nat → Int32) (a1_wicks : Nat → Int32) (a1_sources : Nat → Int32) (r : Int32) (o_t_known : Nat → Int32) (hJ : J_X0_greatest t_known a1_count a1_kinds a1_wicks a1_sources = some (r, o_t_known)) (sz : Nat) : Met l yX0_greatest wsX0_greatest rmX0_greatest (va_Pc [.ref q_t, .ref q_a1] (jpre XT D (tyL cI cJ cC cL) [(q_t, .inr (0, [.ref q_t_known])), (q_t_known, .inl (cI, 16, .inl t_known)), (q_a1, .inr (2, [.int a1_count, .ref q_a1_kinds, .ref q_a1_wicks, .ref q_a1_sources, .ref q_a1_changes, .long a1_state, .int a1_areLoopsAllowed, .int a1_ticks, .int a1_tickChanges, .int a1_sets])), (q_a1_kinds, .inl (cI, 16, .inl a1_kinds)), (q_a1_wicks, .inl (cI, 16, .inl a1_wicks)), (q_a1_sources, .inl (cI, 48, .inl a1_sources))] sz)) (va_Qi (fun r' (_ : Unit) => r' = r) (fun _ t => jpost D (tyL cI cJ cC cL) (va_A [(q_t, .inr (0, [.ref q_t_known])), (q_t_known, .inl (cI, 16, .inl t_known)), (q_a1, .inr (2, [.int a1_count, .ref q_a1_kinds, .ref q_a1_wicks, .ref q_a1_sources, .ref q_a1_changes, .long a1_state, .int a1_areLoopsAllowed, .int a1_ticks, .int a1_tickChanges, .int a1_sets])), (q_a1_kinds, .inl (cI, 16, .inl a1_kinds)), (q_a1_wicks, .inl (cI, 16, .inl a1_wicks)), (q_a1_sources, .inl (cI, 48, .inl a1_sources))] sz) [(q_t, .inr (0, [.ref q_t_known])), (q_t_known, .inl (cI, 16, .inl o_t_known)), (q_a1, .inr (2, [.int a1_count, .ref q_a1_kinds, .ref q_a1_wicks, .ref q_a1_sources, .ref q_a1_changes, .long a1_state, .int a1_areLoopsAllowed, .int a1_ticks, .int a1_tickChanges, .int a1_sets])), (q_a1_kinds, .inl (cI, 16, .inl a1_kinds)), (q_a1_wicks, .inl (cI, 16, .inl a1_wicks)), (q_a1_sources, .inl (cI, 48, .inl a1_sources))] t) (va_A [(q_t, .inr (0, [.ref q_t_known])), (q_t_known, .inl (cI, 16, .inl t_known)), (q_a1, .inr (2, [.int a1_count, .ref q_a1_kinds, .ref q_a1_wicks, .ref q_a1_sources, .ref q_a1_changes, .long a1_state, .int a1_areLoopsAllowed, .int a1_ticks, .int a1_tickChanges, .int a1_sets])), (q_a1_kinds, .inl (cI, 16, .inl a1_kinds)), (q_a1_wicks, .inl (cI, 16, .inl a1_wicks)), (q_a1_sources, .inl (cI, 48, .inl a1_sources))] sz)) 0 0 (va_A [(q_t, .inr (0, [.ref q_t_known])), (q_t_known, .inl (cI, 16, .inl t_known)), (q_a1, .inr (2, [.int a1_count, .ref q_a1_kinds, .ref q_a1_wicks, .ref q_a1_sources, .ref q_a1_changes, .long a1_state, .int a1_areLoopsAllowed, .int a1_ticks, .int a1_tickChanges, .int a1_sets])), (q_a1_kinds, .inl (cI, 16, .inl a1_kinds)), (q_a1_wicks, .inl (cI, 16, .inl a1_wicks)), (q_a1_sources, .inl (cI, 48, .inl a1_sources))] sz) := by
  refine jE_i (cc := cX0_greatest) (maxL := 4) (own := RX0) (ret := (some .int)) (lv0 := [(0, .ref q_t), (1, .ref q_a1)]) (by decide) rfl rfl rfl (Nat.le_of_ble_eq_true rfl) rfl ?_
  intro p e s m args below meth c A Q ls hx hb hml hown hts hK hN hX hA hP hD hS hl hRet
  have hF : CallFix p m c cX0_greatest 4 s args wsX0_greatest RX0 := ⟨hx, hb, hml, hown, hts⟩
  have fl_9 := hts (.fieldLink RX0 9 "LanternLogic$Depths" "known" "[I") (by decide +kernel)
  have hin_X0 : ∀ w ∈ u_ws RX0 TX0 1, w ∈ wsX0_greatest := by decide +kernel
  have L12 : ∀ (nf : Nat), ∀ (t_known : Nat → Int32) (v2 : Int32) (v3 : Int32) (H : Heap) (locs : List Loc), va_P D vwCl [(q_t, .inr (0, [.ref q_t_known])), (q_t_known, .inl (cI, 16, .inl t_known)), (q_a1, .inr (2, [.int a1_count, .ref q_a1_kinds, .ref q_a1_wicks, .ref q_a1_sources, .ref q_a1_changes, .long a1_state, .int a1_areLoopsAllowed, .int a1_ticks, .int a1_tickChanges, .int a1_sets])), (q_a1_kinds, .inl (cI, 16, .inl a1_kinds)), (q_a1_wicks, .inl (cI, 16, .inl a1_wicks)), (q_a1_sources, .inl (cI, 48, .inl a1_sources))] H → va_D A [(q_t, .inr (0, [.ref q_t_known])), (q_t_known, .inl (cI, 16, .inl t_known)), (q_a1, .inr (2, [.int a1_count, .ref q_a1_kinds, .ref q_a1_wicks, .ref q_a1_sources, .ref q_a1_changes, .long a1_state, .int a1_areLoopsAllowed, .int a1_ticks, .int a1_tickChanges, .int a1_sets])), (q_a1_kinds, .inl (cI, 16, .inl a1_kinds)), (q_a1_wicks, .inl (cI, 16, .inl a1_wicks)), (q_a1_sources, .inl (cI, 48, .inl a1_sources))] → va_S A s.heap H locs → ∀ ls : Array Slot, lv_has ls 4 [(0, .ref q_t), (1, .ref q_a1), (2, .int v2), (3, .int v3)] → J_X0_greatest_L12  a1_count a1_kinds a1_wicks a1_sources nf t_known v2 v3 = some (r, o_t_known) → W p l e rmX0_greatest s m args below meth c H locs 0 0 Q (F0 m 12 ls []) := by
    intro nf
    induction nf with
    | zero =>
      intro t_known v2 v3 H locs hP hD hS ls hl hJ
      rw [J_X0_greatest_L12] at hJ
      cases hJ
    | succ nf ih =>
      intro t_known v2 v3 H locs hP hD hS ls hl hJ
      rw [J_X0_greatest_L12] at hJ
      refine lv_iload_n hx hb dX0_greatest_12 rfl (lv_at hl 3 rfl) ?_
      refine lv_aload_n hx hb dX0_greatest_13 rfl (lv_at hl 1 rfl) ?_
      obtain ⟨x14, hc14, hJ⟩ := bnd1_some hJ
      refine jcV_i (C := RX2) (T := TX2) (N := 10) (ci := 2) (q0 := 0) (As := []) (rest := [.int v3]) (isC := [2]) (isR := [0, 1, 3, 4, 5]) (isB := [0, 1, 5, 2, 3, 4]) (wr := [(q_t, .inr (0, [.ref q_t_known])), (q_t_known, .inl (cI, 16, .inl t_known)), (q_a1_kinds, .inl (cI, 16, .inl a1_kinds)), (q_a1_wicks, .inl (cI, 16, .inl a1_wicks)), (q_a1_sources, .inl (cI, 48, .inl a1_sources))]) (ws2 := [(q_t, .inr (0, [.ref q_t_known])), (q_t_known, .inl (cI, 16, .inl t_known)), (q_a1, .inr (2, [.int a1_count, .ref q_a1_kinds, .ref q_a1_wicks, .ref q_a1_sources, .ref q_a1_changes, .long a1_state, .int a1_areLoopsAllowed, .int a1_ticks, .int a1_tickChanges, .int a1_sets])), (q_a1_kinds, .inl (cI, 16, .inl a1_kinds)), (q_a1_wicks, .inl (cI, 16, .inl a1_wicks)), (q_a1_sources, .inl (cI, 48, .inl a1_sources))]) hF (c_X2_count l D cI cJ cC cL q_a1 q_a1_kinds q_a1_wicks q_a1_sources q_a1_changes a1_count a1_state a1_areLoopsAllowed a1_ticks a1_tickChanges a1_sets x14 hc14 H.size) (cwV 0 hts gX0_greatest_X2_count rfl rfl rfl (by decide +kernel) ⟨Nat.le_of_ble_eq_true rfl, Nat.le_of_ble_eq_true rfl⟩) rfl hl rfl (Nat.le_of_ble_eq_true rfl) dX0_greatest_14 ⟨Nat.zero_le _, Nat.zero_le _⟩ hK hN KX_T trivial hP hD hS hA rfl rfl rfl rfl rfl rfl (by decide) rfl rfl (fun H locs hP hD hS => ?_)
      refine jif_icmp_ge (tgt := 41) hx hb dX0_greatest_17 (by decide) hJ (fun hJ => ?_) (fun hJ => ?_)
      · refine lv_iload_n hx hb dX0_greatest_41 rfl (lv_at hl 2 rfl) ?_
        have hJ := Option.some.inj hJ
        obtain ⟨e0, e1⟩ : (v2) = r ∧ (t_known) = o_t_known := ⟨congrArg (fun z => z.1) hJ, congrArg (fun z => z.2) hJ⟩
        exact hRet (by rw [← e1]; exact hP) (by rw [← e1]; exact hD) hS e0 dX0_greatest_42
      · refine lv_iload_n hx hb dX0_greatest_20 rfl (lv_at hl 2 rfl) ?_
        refine lv_aload_n hx hb dX0_greatest_21 rfl (lv_at hl 1 rfl) ?_
        refine lv_iload_n hx hb dX0_greatest_22 rfl (lv_at hl 3 rfl) ?_
        refine lv_aload_n hx hb dX0_greatest_23 rfl (lv_at hl 0 rfl) ?_
        refine va_get (ci := 0) (v := .ref q_t_known) (C := RX0) (T := TX0) (N := 1) hx hb hts hin_X0 hown hK hP 0 rfl rfl 0 (by decide) fl_9 (fun _ h9 => h9) rfl dX0_greatest_24 ?_
        refine lv_iconst (v := (0 : Int32)) hx hb dX0_greatest_27 (by decide) ?_
        obtain ⟨x28, t_known_28, hc28, hJ⟩ := bnd2_some hJ
        refine jcS_i (As := [.ref q_a1, .int v3, .ref q_t_known, .int (0 : Int32)]) (rest := [.int v2]) (isC := [2, 3, 4, 5, 1]) (isR := [0]) (isB := [0, 5, 1, 2, 3, 4]) (wr := [(q_t, .inr (0, [.ref q_t_known]))]) (ws2 := [(q_t, .inr (0, [.ref q_t_known])), (q_t_known, .inl (cI, 16, .inl t_known_28)), (q_a1, .inr (2, [.int a1_count, .ref q_a1_kinds, .ref q_a1_wicks, .ref q_a1_sources, .ref q_a1_changes, .long a1_state, .int a1_areLoopsAllowed, .int a1_ticks, .int a1_tickChanges, .int a1_sets])), (q_a1_kinds, .inl (cI, 16, .inl a1_kinds)), (q_a1_wicks, .inl (cI, 16, .inl a1_wicks)), (q_a1_sources, .inl (cI, 48, .inl a1_sources))]) hF (c_X0_below l D cI cJ cC cL q_a1 q_a1_kinds q_a1_wicks q_a1_sources q_a1_changes q_t_known a1_count a1_state a1_areLoopsAllowed a1_ticks a1_tickChanges a1_sets a1_kinds a1_wicks a1_sources t_known v3 (0 : Int32) x28 t_known_28 hc28 H.size) (va_cwS 4 hts gX0_greatest_X0_below rfl rfl rfl (by decide +kernel) ⟨Nat.le_of_ble_eq_true rfl, Nat.le_of_ble_eq_true rfl⟩) rfl hl rfl (Nat.le_of_ble_eq_true rfl) dX0_greatest_28 ⟨Nat.zero_le _, Nat.zero_le _⟩ hK hN KX_T trivial hP hD hS hA rfl rfl rfl rfl (by decide) rfl rfl (fun H locs hP hD hS => ?_)
        refine va_mmax hx hb (hml.trans hl.1.symm) hown (hts (.methodLink RX0 35 Lib.Math.max.name) (by decide +kernel)) (hts (.static Lib.Math.max.name) (by decide +kernel)) (hts (.initialized "java/lang/Math") (by decide +kernel)) (hts (.code Lib.Math.max.name Lib.Math.max.code 2 (some .int)) (by decide +kernel)) (Nat.le_of_ble_eq_true rfl) (Nat.le_of_ble_eq_true rfl) (Nat.zero_le _) (Nat.zero_le _) dX0_greatest_31 ?_
        refine jt_i hJ (fun x31 hJ => ?_)
        refine lv_istore_n (lv' := [(2, .int x31), (0, .ref q_t), (1, .ref q_a1), (3, .int v3)]) hx hb dX0_greatest_34 rfl hl (by decide) rfl (fun ls hl => ?_)
        refine jt_iinc hJ (fun x35 ex35 hJ => ?_)
        refine lv_iinc (v := x35) (lv' := [(3, .int x35), (2, .int x31), (0, .ref q_t), (1, .ref q_a1)]) hx hb dX0_greatest_35 hl (k := 3) rfl ex35 (by decide) rfl (fun ls hl => ?_)
        refine lv_goto (tgt := 12) hx hb dX0_greatest_38 (by decide) ?_
        exact ih t_known_28 x31 x35  H locs  hP hD hS _ (lv_sub hl [2, 3, 1, 0] rfl) hJ
  unfold J_X0_greatest at hJ
  refine lv_aload_n hx hb dX0_greatest_0 rfl (lv_at hl 0 rfl) ?_
  refine va_get (ci := 0) (v := .ref q_t_known) (C := RX0) (T := TX0) (N := 1) hx hb hts hin_X0 hown hK hP 0 rfl rfl 0 (by decide) fl_9 (fun _ h9 => h9) rfl dX0_greatest_1 ?_
  refine lv_iconst (v := (-1 : Int32)) hx hb dX0_greatest_4 (by decide) ?_
  obtain ⟨t_known_5, hc5, hJ⟩ := bnd1_some hJ
  refine jcS_v (As := [.ref q_t_known, .int (-1 : Int32)]) (rest := []) (isC := [1]) (isR := [0, 2, 3, 4, 5]) (isB := [0, 5, 1, 2, 3, 4]) (wr := [(q_t, .inr (0, [.ref q_t_known])), (q_a1, .inr (2, [.int a1_count, .ref q_a1_kinds, .ref q_a1_wicks, .ref q_a1_sources, .ref q_a1_changes, .long a1_state, .int a1_areLoopsAllowed, .int a1_ticks, .int a1_tickChanges, .int a1_sets])), (q_a1_kinds, .inl (cI, 16, .inl a1_kinds)), (q_a1_wicks, .inl (cI, 16, .inl a1_wicks)), (q_a1_sources, .inl (cI, 48, .inl a1_sources))]) (ws2 := [(q_t, .inr (0, [.ref q_t_known])), (q_t_known, .inl (cI, 16, .inl t_known_5)), (q_a1, .inr (2, [.int a1_count, .ref q_a1_kinds, .ref q_a1_wicks, .ref q_a1_sources, .ref q_a1_changes, .long a1_state, .int a1_areLoopsAllowed, .int a1_ticks, .int a1_tickChanges, .int a1_sets])), (q_a1_kinds, .inl (cI, 16, .inl a1_kinds)), (q_a1_wicks, .inl (cI, 16, .inl a1_wicks)), (q_a1_sources, .inl (cI, 48, .inl a1_sources))]) hF (c_J7_fill_53178 l D cI cJ cC cL 16 q_t_known t_known (-1 : Int32) t_known_5 hc5 s.heap.size) (va_cwS 2 hts gX0_greatest_J7_fill_53178 rfl rfl rfl (by decide +kernel) ⟨Nat.le_of_ble_eq_true rfl, Nat.le_of_ble_eq_true rfl⟩) rfl hl rfl (Nat.le_of_ble_eq_true rfl) dX0_greatest_5 ⟨Nat.zero_le _, Nat.zero_le _⟩ hK hN KX_T trivial hP hD hS hA rfl rfl rfl rfl (by decide) rfl rfl (fun H locs hP hD hS => ?_)
  refine lv_iconst (v := (0 : Int32)) hx hb dX0_greatest_8 (by decide) ?_
  refine lv_istore_n (lv' := [(2, .int (0 : Int32)), (0, .ref q_t), (1, .ref q_a1)]) hx hb dX0_greatest_9 rfl hl (by decide) rfl (fun ls hl => ?_)
  refine lv_iconst (v := (0 : Int32)) hx hb dX0_greatest_10 (by decide) ?_
  refine lv_istore_n (lv' := [(3, .int (0 : Int32)), (2, .int (0 : Int32)), (0, .ref q_t), (1, .ref q_a1)]) hx hb dX0_greatest_11 rfl hl (by decide) rfl (fun ls hl => ?_)
  exact L12  FU t_known_5 (0 : Int32) (0 : Int32)  H locs  hP hD hS _ (lv_sub hl [2, 3, 1, 0] rfl) hJ

def J_X1_ticksToSettle_L8 (a1_count : Int32) (a1_state : Int64) (a1_kinds : Nat → Int32) (a1_wicks : Nat → Int32) (a1_sources : Nat → Int32) : Nat → Int64 → Int32 → Option (Int32)
  | 0, _, _ => none
  | nf + 1, v2, v4 =>
    if (256 : Int32) < v4 then (
    some ((-15 : Int32)))
    else (
    bnd1 (J_X2_behindTick a1_count a1_kinds a1_wicks a1_sources v2) fun x18 =>
    if (lg_cmp x18 v2) = 0 then (
    some (v4))
    else (
    nm (v4 + Int32.ofInt 1) fun x36 =>
    J_X1_ticksToSettle_L8 a1_count a1_state a1_kinds a1_wicks a1_sources nf x18 x36))
def J_X1_ticksToSettle (a1_count : Int32) (a1_state : Int64) (a1_kinds : Nat → Int32) (a1_wicks : Nat → Int32) (a1_sources : Nat → Int32) : Option (Int32) :=
    bnd1 (J_X2_state a1_state) fun x1 =>
    J_X1_ticksToSettle_L8 a1_count a1_state a1_kinds a1_wicks a1_sources FU x1 (0 : Int32)
abbrev rmX1_ticksToSettle : Room := { frames := 2, cells := 0, slots := 0, locals := 54 }
set_option maxHeartbeats 4000000 in
set_option maxRecDepth 100000 in
theorem c_X1_ticksToSettle (l : Launch) (D : va_G) (cI cJ cC cL : ClassId) (q_t q_t_seen q_a1 q_a1_kinds q_a1_wicks q_a1_sources q_a1_changes : Nat) (a1_count : Int32) (a1_state : Int64) (a1_areLoopsAllowed : Int32) (a1_ticks : Int32) (a1_tickChanges : Int32) (a1_sets : Int32) (a1_kinds : Nat → Int32) (a1_wicks : Nat → Int32) (a1_sources : Nat → Int32) (r : Int32) (hJ : J_X1_ticksToSettle a1_count a1_state a1_kinds a1_wicks a1_sources = some (r)) (sz : Nat) : Met l yX1_ticksToSettle wsX1_ticksToSettle rmX1_ticksToSettle (va_Pc [.ref q_t, .ref q_a1] (jpre XT D (tyL cI cJ cC cL) [(q_t, .inr (1, [.ref q_t_seen])), (q_a1, .inr (2, [.int a1_count, .ref q_a1_kinds, .ref q_a1_wicks, .ref q_a1_sources, .ref q_a1_changes, .long a1_state, .int a1_areLoopsAllowed, .int a1_ticks, .int a1_tickChanges, .int a1_sets])), (q_a1_kinds, .inl (cI, 16, .inl a1_kinds)), (q_a1_wicks, .inl (cI, 16, .inl a1_wicks)), (q_a1_sources, .inl (cI, 48, .inl a1_sources))] sz)) (va_Qi (fun r' (_ : Unit) => r' = r) (fun _ t => jpost D (tyL cI cJ cC cL) (va_A [(q_t, .inr (1, [.ref q_t_seen])), (q_a1, .inr (2, [.int a1_count, .ref q_a1_kinds, .ref q_a1_wicks, .ref q_a1_sources, .ref q_a1_changes, .long a1_state, .int a1_areLoopsAllowed, .int a1_ticks, .int a1_tickChanges, .int a1_sets])), (q_a1_kinds, .inl (cI, 16, .inl a1_kinds)), (q_a1_wicks, .inl (cI, 16, .inl a1_wicks)), (q_a1_sources, .inl (cI, 48, .inl a1_sources))] sz) [(q_t, .inr (1, [.ref q_t_seen])), (q_a1, .inr (2, [.int a1_count, .ref q_a1_kinds, .ref q_a1_wicks, .ref q_a1_sources, .ref q_a1_changes, .long a1_state, .int a1_areLoopsAllowed, .int a1_ticks, .int a1_tickChanges, .int a1_sets])), (q_a1_kinds, .inl (cI, 16, .inl a1_kinds)), (q_a1_wicks, .inl (cI, 16, .inl a1_wicks)), (q_a1_sources, .inl (cI, 48, .inl a1_sources))] t) (va_A [(q_t, .inr (1, [.ref q_t_seen])), (q_a1, .inr (2, [.int a1_count, .ref q_a1_kinds, .ref q_a1_wicks, .ref q_a1_sources, .ref q_a1_changes, .long a1_state, .int a1_areLoopsAllowed, .int a1_ticks, .int a1_tickChanges, .int a1_sets])), (q_a1_kinds, .inl (cI, 16, .inl a1_kinds)), (q_a1_wicks, .inl (cI, 16, .inl a1_wicks)), (q_a1_sources, .inl (cI, 48, .inl a1_sources))] sz)) 0 0 (va_A [(q_t, .inr (1, [.ref q_t_seen])), (q_a1, .inr (2, [.int a1_count, .ref q_a1_kinds, .ref q_a1_wicks, .ref q_a1_sources, .ref q_a1_changes, .long a1_state, .int a1_areLoopsAllowed, .int a1_ticks, .int a1_tickChanges, .int a1_sets])), (q_a1_kinds, .inl (cI, 16, .inl a1_kinds)), (q_a1_wicks, .inl (cI, 16, .inl a1_wicks)), (q_a1_sources, .inl (cI, 48, .inl a1_sources))] sz) := by
  refine jE_i (cc := cX1_ticksToSettle) (maxL := 7) (own := RX1) (ret := (some .int)) (lv0 := [(0, .ref q_t), (1, .ref q_a1)]) (by decide) rfl rfl rfl (Nat.le_of_ble_eq_true rfl) rfl ?_
  intro p e s m args below meth c A Q ls hx hb hml hown hts hK hN hX hA hP hD hS hl hRet
  have hF : CallFix p m c cX1_ticksToSettle 7 s args wsX1_ticksToSettle RX1 := ⟨hx, hb, hml, hown, hts⟩
  have L8 : ∀ (nf : Nat), ∀ (v2 : Int64) (v4 : Int32) (H : Heap) (locs : List Loc), va_P D vwCl [(q_t, .inr (1, [.ref q_t_seen])), (q_a1, .inr (2, [.int a1_count, .ref q_a1_kinds, .ref q_a1_wicks, .ref q_a1_sources, .ref q_a1_changes, .long a1_state, .int a1_areLoopsAllowed, .int a1_ticks, .int a1_tickChanges, .int a1_sets])), (q_a1_kinds, .inl (cI, 16, .inl a1_kinds)), (q_a1_wicks, .inl (cI, 16, .inl a1_wicks)), (q_a1_sources, .inl (cI, 48, .inl a1_sources))] H → va_D A [(q_t, .inr (1, [.ref q_t_seen])), (q_a1, .inr (2, [.int a1_count, .ref q_a1_kinds, .ref q_a1_wicks, .ref q_a1_sources, .ref q_a1_changes, .long a1_state, .int a1_areLoopsAllowed, .int a1_ticks, .int a1_tickChanges, .int a1_sets])), (q_a1_kinds, .inl (cI, 16, .inl a1_kinds)), (q_a1_wicks, .inl (cI, 16, .inl a1_wicks)), (q_a1_sources, .inl (cI, 48, .inl a1_sources))] → va_S A s.heap H locs → ∀ ls : Array Slot, lv_has ls 7 [(1, .ref q_a1), (2, .long v2), (4, .int v4)] → J_X1_ticksToSettle_L8  a1_count a1_state a1_kinds a1_wicks a1_sources nf v2 v4 = some (r) → W p l e rmX1_ticksToSettle s m args below meth c H locs 0 0 Q (F0 m 8 ls []) := by
    intro nf
    induction nf with
    | zero =>
      intro v2 v4 H locs hP hD hS ls hl hJ
      rw [J_X1_ticksToSettle_L8] at hJ
      cases hJ
    | succ nf ih =>
      intro v2 v4 H locs hP hD hS ls hl hJ
      rw [J_X1_ticksToSettle_L8] at hJ
      refine lv_iload hx hb dX1_ticksToSettle_8 (lv_at hl 2 rfl) ?_
      refine lv_sipush (v := (256 : Int32)) hx hb dX1_ticksToSettle_10 (by decide) ?_
      refine jif_icmp_gt (tgt := 42) hx hb dX1_ticksToSettle_13 (by decide) hJ (fun hJ => ?_) (fun hJ => ?_)
      · refine lv_bipush (v := (-15 : Int32)) hx hb dX1_ticksToSettle_42 (by decide) ?_
        have e0 := Option.some.inj hJ
        exact hRet hP hD hS e0 dX1_ticksToSettle_44
      · refine lv_aload_n hx hb dX1_ticksToSettle_16 rfl (lv_at hl 0 rfl) ?_
        refine lv_lload_n hx hb dX1_ticksToSettle_17 rfl (lv_at hl 1 rfl) ?_
        obtain ⟨x18, hc18, hJ⟩ := bnd1_some hJ
        refine jcV_l (C := RX2) (T := TX2) (N := 10) (ci := 2) (q0 := 0) (As := [.long v2]) (rest := []) (isC := [1, 2, 3, 4]) (isR := [0]) (isB := [0, 1, 2, 3, 4]) (wr := [(q_t, .inr (1, [.ref q_t_seen]))]) (ws2 := [(q_t, .inr (1, [.ref q_t_seen])), (q_a1, .inr (2, [.int a1_count, .ref q_a1_kinds, .ref q_a1_wicks, .ref q_a1_sources, .ref q_a1_changes, .long a1_state, .int a1_areLoopsAllowed, .int a1_ticks, .int a1_tickChanges, .int a1_sets])), (q_a1_kinds, .inl (cI, 16, .inl a1_kinds)), (q_a1_wicks, .inl (cI, 16, .inl a1_wicks)), (q_a1_sources, .inl (cI, 48, .inl a1_sources))]) hF (c_X2_behindTick l D cI cJ cC cL q_a1 q_a1_kinds q_a1_wicks q_a1_sources q_a1_changes a1_count a1_state a1_areLoopsAllowed a1_ticks a1_tickChanges a1_sets a1_kinds a1_wicks a1_sources v2 x18 hc18 H.size) (cwV 1 hts gX1_ticksToSettle_X2_behindTick rfl rfl rfl (by decide +kernel) ⟨Nat.le_of_ble_eq_true rfl, Nat.le_of_ble_eq_true rfl⟩) rfl hl rfl (Nat.le_of_ble_eq_true rfl) dX1_ticksToSettle_18 ⟨Nat.zero_le _, Nat.zero_le _⟩ hK hN KX_T trivial hP hD hS hA rfl rfl rfl rfl rfl rfl (by decide) rfl rfl (fun H locs hP hD hS => ?_)
        refine lv_lstore (lv' := [(5, .long x18), (1, .ref q_a1), (2, .long v2), (4, .int v4)]) hx hb dX1_ticksToSettle_21 hl (by decide) rfl (fun ls hl => ?_)
        refine lv_lload hx hb dX1_ticksToSettle_23 (lv_at hl 0 rfl) ?_
        refine lv_lload_n hx hb dX1_ticksToSettle_25 rfl (lv_at hl 2 rfl) ?_
        refine W.lcmp hx hb dX1_ticksToSettle_26 ?_
        refine jif_ne (tgt := 33) hx hb dX1_ticksToSettle_27 (by decide) hJ (fun hJ => ?_) (fun hJ => ?_)
        · refine lv_lload hx hb dX1_ticksToSettle_33 (lv_at hl 0 rfl) ?_
          refine lv_lstore_n (lv' := [(2, .long x18), (5, .long x18), (1, .ref q_a1), (4, .int v4)]) hx hb dX1_ticksToSettle_35 rfl hl (by decide) rfl (fun ls hl => ?_)
          refine jt_iinc hJ (fun x36 ex36 hJ => ?_)
          refine lv_iinc (v := x36) (lv' := [(4, .int x36), (2, .long x18), (5, .long x18), (1, .ref q_a1)]) hx hb dX1_ticksToSettle_36 hl (k := 3) rfl ex36 (by decide) rfl (fun ls hl => ?_)
          refine lv_goto (tgt := 8) hx hb dX1_ticksToSettle_39 (by decide) ?_
          exact ih x18 x36  H locs  hP hD hS _ (lv_sub hl [3, 1, 0] rfl) hJ
        · refine lv_iload hx hb dX1_ticksToSettle_30 (lv_at hl 3 rfl) ?_
          have e0 := Option.some.inj hJ
          exact hRet hP hD hS e0 dX1_ticksToSettle_32
  unfold J_X1_ticksToSettle at hJ
  refine lv_aload_n hx hb dX1_ticksToSettle_0 rfl (lv_at hl 1 rfl) ?_
  obtain ⟨x1, hc1, hJ⟩ := bnd1_some hJ
  refine jcV_l (C := RX2) (T := TX2) (N := 10) (ci := 2) (q0 := 0) (As := []) (rest := []) (isC := [1]) (isR := [0, 2, 3, 4]) (isB := [0, 4, 1, 2, 3]) (wr := [(q_t, .inr (1, [.ref q_t_seen])), (q_a1_kinds, .inl (cI, 16, .inl a1_kinds)), (q_a1_wicks, .inl (cI, 16, .inl a1_wicks)), (q_a1_sources, .inl (cI, 48, .inl a1_sources))]) (ws2 := [(q_t, .inr (1, [.ref q_t_seen])), (q_a1, .inr (2, [.int a1_count, .ref q_a1_kinds, .ref q_a1_wicks, .ref q_a1_sources, .ref q_a1_changes, .long a1_state, .int a1_areLoopsAllowed, .int a1_ticks, .int a1_tickChanges, .int a1_sets])), (q_a1_kinds, .inl (cI, 16, .inl a1_kinds)), (q_a1_wicks, .inl (cI, 16, .inl a1_wicks)), (q_a1_sources, .inl (cI, 48, .inl a1_sources))]) hF (c_X2_state l D cI cJ cC cL q_a1 q_a1_kinds q_a1_wicks q_a1_sources q_a1_changes a1_count a1_state a1_areLoopsAllowed a1_ticks a1_tickChanges a1_sets x1 hc1 s.heap.size) (cwV 0 hts gX1_ticksToSettle_X2_state rfl rfl rfl (by decide +kernel) ⟨Nat.le_of_ble_eq_true rfl, Nat.le_of_ble_eq_true rfl⟩) rfl hl rfl (Nat.le_of_ble_eq_true rfl) dX1_ticksToSettle_1 ⟨Nat.zero_le _, Nat.zero_le _⟩ hK hN KX_T trivial hP hD hS hA rfl rfl rfl rfl rfl rfl (by decide) rfl rfl (fun H locs hP hD hS => ?_)
  refine lv_lstore_n (lv' := [(2, .long x1), (0, .ref q_t), (1, .ref q_a1)]) hx hb dX1_ticksToSettle_4 rfl hl (by decide) rfl (fun ls hl => ?_)
  refine lv_iconst (v := (0 : Int32)) hx hb dX1_ticksToSettle_5 (by decide) ?_
  refine lv_istore (lv' := [(4, .int (0 : Int32)), (2, .long x1), (0, .ref q_t), (1, .ref q_a1)]) hx hb dX1_ticksToSettle_6 hl (by decide) rfl (fun ls hl => ?_)
  exact L8  FU x1 (0 : Int32)  H locs  hP hD hS _ (lv_sub hl [3, 1, 0] rfl) hJ

def J_X1_periodByKeeping_L41 (k12 : (Nat → Int64) → Int32 → Option (Int32 × (Nat → Int64))) (a1_count : Int32) (a1_state : Int64) (a1_kinds : Nat → Int32) (a1_wicks : Nat → Int32) (a1_sources : Nat → Int32) : Nat → (Nat → Int64) → Int32 → Int32 → Option (Int32 × (Nat → Int64))
  | 0, _, _, _ => none
  | nf + 1, t_seen, v2, v3 =>
    if v3 < 0 then (
    nm (v2 + Int32.ofInt 1) fun x71 =>
    k12 t_seen x71)
    else (
    chk v3 257 (
    nm (t_seen v3.toNatClampNeg) fun x50 =>
    chk v2 257 (
    nm (t_seen v2.toNatClampNeg) fun x56 =>
    if (lg_cmp x50 x56) = 0 then (
    some (v2 - v3, t_seen))
    else (
    nm (v3 + Int32.ofInt (-1)) fun x65 =>
    J_X1_periodByKeeping_L41 k12 a1_count a1_state a1_kinds a1_wicks a1_sources nf t_seen v2 x65))))
def J_X1_periodByKeeping_L12 (a1_count : Int32) (a1_state : Int64) (a1_kinds : Nat → Int32) (a1_wicks : Nat → Int32) (a1_sources : Nat → Int32) : Nat → (Nat → Int64) → Int32 → Option (Int32 × (Nat → Int64))
  | 0, _, _ => none
  | nf + 1, t_seen, v2 =>
    if (256 : Int32) < v2 then (
    some ((-15 : Int32), t_seen))
    else (
    nm (v2 - (1 : Int32)) fun x31 =>
    chk x31 257 (
    nm (t_seen x31.toNatClampNeg) fun x32 =>
    bnd1 (J_X2_behindTick a1_count a1_kinds a1_wicks a1_sources x32) fun x33 =>
    chk v2 257 (
    nm (v2 - (1 : Int32)) fun x39 =>
    J_X1_periodByKeeping_L41 (fun z0 z1 => J_X1_periodByKeeping_L12 a1_count a1_state a1_kinds a1_wicks a1_sources nf z0 z1) a1_count a1_state a1_kinds a1_wicks a1_sources FU (vp_updL t_seen v2.toNatClampNeg x33) v2 x39)))
def J_X1_periodByKeeping (t_seen : Nat → Int64) (a1_count : Int32) (a1_state : Int64) (a1_kinds : Nat → Int32) (a1_wicks : Nat → Int32) (a1_sources : Nat → Int32) : Option (Int32 × (Nat → Int64)) :=
    bnd1 (J_X2_state a1_state) fun x6 =>
    chk (0 : Int32) 257 (
    J_X1_periodByKeeping_L12 a1_count a1_state a1_kinds a1_wicks a1_sources FU (vp_updL t_seen (0 : Int32).toNatClampNeg x6) (1 : Int32))
abbrev rmX1_periodByKeeping : Room := { frames := 2, cells := 0, slots := 0, locals := 54 }
set_option maxHeartbeats 4000000 in
set_option maxRecDepth 100000 in
theorem c_X1_periodByKeeping (l : Launch) (D : va_G) (cI cJ cC cL : ClassId) (q_t q_t_seen q_a1 q_a1_kinds q_a1_wicks q_a1_sources q_a1_changes : Nat) (t_seen : Nat → Int64) (a1_count : Int32) (a1_state : Int64) (a1_areLoopsAllowed : Int32) (a1_ticks : Int32) (a1_tickChanges : Int32) (a1_sets : Int32) (a1_kinds : Nat → Int32) (a1_wicks : Nat → Int32) (a1_sources : Nat → Int32) (r : Int32) (o_t_seen : Nat → Int64) (hJ : J_X1_periodByKeeping t_seen a1_count a1_state a1_kinds a1_wicks a1_sources = some (r, o_t_seen)) (sz : Nat) : Met l yX1_periodByKeeping wsX1_periodByKeeping rmX1_periodByKeeping (va_Pc [.ref q_t, .ref q_a1] (jpre XT D (tyL cI cJ cC cL) [(q_t, .inr (1, [.ref q_t_seen])), (q_t_seen, .inl (cJ, 257, .inr (.inl t_seen))), (q_a1, .inr (2, [.int a1_count, .ref q_a1_kinds, .ref q_a1_wicks, .ref q_a1_sources, .ref q_a1_changes, .long a1_state, .int a1_areLoopsAllowed, .int a1_ticks, .int a1_tickChanges, .int a1_sets])), (q_a1_kinds, .inl (cI, 16, .inl a1_kinds)), (q_a1_wicks, .inl (cI, 16, .inl a1_wicks)), (q_a1_sources, .inl (cI, 48, .inl a1_sources))] sz)) (va_Qi (fun r' (_ : Unit) => r' = r) (fun _ t => jpost D (tyL cI cJ cC cL) (va_A [(q_t, .inr (1, [.ref q_t_seen])), (q_t_seen, .inl (cJ, 257, .inr (.inl t_seen))), (q_a1, .inr (2, [.int a1_count, .ref q_a1_kinds, .ref q_a1_wicks, .ref q_a1_sources, .ref q_a1_changes, .long a1_state, .int a1_areLoopsAllowed, .int a1_ticks, .int a1_tickChanges, .int a1_sets])), (q_a1_kinds, .inl (cI, 16, .inl a1_kinds)), (q_a1_wicks, .inl (cI, 16, .inl a1_wicks)), (q_a1_sources, .inl (cI, 48, .inl a1_sources))] sz) [(q_t, .inr (1, [.ref q_t_seen])), (q_t_seen, .inl (cJ, 257, .inr (.inl o_t_seen))), (q_a1, .inr (2, [.int a1_count, .ref q_a1_kinds, .ref q_a1_wicks, .ref q_a1_sources, .ref q_a1_changes, .long a1_state, .int a1_areLoopsAllowed, .int a1_ticks, .int a1_tickChanges, .int a1_sets])), (q_a1_kinds, .inl (cI, 16, .inl a1_kinds)), (q_a1_wicks, .inl (cI, 16, .inl a1_wicks)), (q_a1_sources, .inl (cI, 48, .inl a1_sources))] t) (va_A [(q_t, .inr (1, [.ref q_t_seen])), (q_t_seen, .inl (cJ, 257, .inr (.inl t_seen))), (q_a1, .inr (2, [.int a1_count, .ref q_a1_kinds, .ref q_a1_wicks, .ref q_a1_sources, .ref q_a1_changes, .long a1_state, .int a1_areLoopsAllowed, .int a1_ticks, .int a1_tickChanges, .int a1_sets])), (q_a1_kinds, .inl (cI, 16, .inl a1_kinds)), (q_a1_wicks, .inl (cI, 16, .inl a1_wicks)), (q_a1_sources, .inl (cI, 48, .inl a1_sources))] sz)) 0 0 (va_A [(q_t, .inr (1, [.ref q_t_seen])), (q_t_seen, .inl (cJ, 257, .inr (.inl t_seen))), (q_a1, .inr (2, [.int a1_count, .ref q_a1_kinds, .ref q_a1_wicks, .ref q_a1_sources, .ref q_a1_changes, .long a1_state, .int a1_areLoopsAllowed, .int a1_ticks, .int a1_tickChanges, .int a1_sets])), (q_a1_kinds, .inl (cI, 16, .inl a1_kinds)), (q_a1_wicks, .inl (cI, 16, .inl a1_wicks)), (q_a1_sources, .inl (cI, 48, .inl a1_sources))] sz) := by
  refine jE_i (cc := cX1_periodByKeeping) (maxL := 4) (own := RX1) (ret := (some .int)) (lv0 := [(0, .ref q_t), (1, .ref q_a1)]) (by decide) rfl rfl rfl (Nat.le_of_ble_eq_true rfl) rfl ?_
  intro p e s m args below meth c A Q ls hx hb hml hown hts hK hN hX hA hP hD hS hl hRet
  have hF : CallFix p m c cX1_periodByKeeping 4 s args wsX1_periodByKeeping RX1 := ⟨hx, hb, hml, hown, hts⟩
  have fl_9 := hts (.fieldLink RX1 9 "LanternLogic$Foresight" "seen" "[J") (by decide +kernel)
  have hin_X1 : ∀ w ∈ u_ws RX1 TX1 1, w ∈ wsX1_periodByKeeping := by decide +kernel
  have L41 : ∀ (k12 : (Nat → Int64) → Int32 → Option (Int32 × (Nat → Int64))), (∀ (t_seen : Nat → Int64) (v2 : Int32) (H : Heap) (locs : List Loc), va_P D vwCl [(q_t, .inr (1, [.ref q_t_seen])), (q_t_seen, .inl (cJ, 257, .inr (.inl t_seen))), (q_a1, .inr (2, [.int a1_count, .ref q_a1_kinds, .ref q_a1_wicks, .ref q_a1_sources, .ref q_a1_changes, .long a1_state, .int a1_areLoopsAllowed, .int a1_ticks, .int a1_tickChanges, .int a1_sets])), (q_a1_kinds, .inl (cI, 16, .inl a1_kinds)), (q_a1_wicks, .inl (cI, 16, .inl a1_wicks)), (q_a1_sources, .inl (cI, 48, .inl a1_sources))] H → va_D A [(q_t, .inr (1, [.ref q_t_seen])), (q_t_seen, .inl (cJ, 257, .inr (.inl t_seen))), (q_a1, .inr (2, [.int a1_count, .ref q_a1_kinds, .ref q_a1_wicks, .ref q_a1_sources, .ref q_a1_changes, .long a1_state, .int a1_areLoopsAllowed, .int a1_ticks, .int a1_tickChanges, .int a1_sets])), (q_a1_kinds, .inl (cI, 16, .inl a1_kinds)), (q_a1_wicks, .inl (cI, 16, .inl a1_wicks)), (q_a1_sources, .inl (cI, 48, .inl a1_sources))] → va_S A s.heap H locs → ∀ ls : Array Slot, lv_has ls 4 [(0, .ref q_t), (1, .ref q_a1), (2, .int v2)] → k12 t_seen v2 = some (r, o_t_seen) → W p l e rmX1_periodByKeeping s m args below meth c H locs 0 0 Q (F0 m 12 ls [])) → ∀ (nf : Nat), ∀ (t_seen : Nat → Int64) (v2 : Int32) (v3 : Int32) (H : Heap) (locs : List Loc), va_P D vwCl [(q_t, .inr (1, [.ref q_t_seen])), (q_t_seen, .inl (cJ, 257, .inr (.inl t_seen))), (q_a1, .inr (2, [.int a1_count, .ref q_a1_kinds, .ref q_a1_wicks, .ref q_a1_sources, .ref q_a1_changes, .long a1_state, .int a1_areLoopsAllowed, .int a1_ticks, .int a1_tickChanges, .int a1_sets])), (q_a1_kinds, .inl (cI, 16, .inl a1_kinds)), (q_a1_wicks, .inl (cI, 16, .inl a1_wicks)), (q_a1_sources, .inl (cI, 48, .inl a1_sources))] H → va_D A [(q_t, .inr (1, [.ref q_t_seen])), (q_t_seen, .inl (cJ, 257, .inr (.inl t_seen))), (q_a1, .inr (2, [.int a1_count, .ref q_a1_kinds, .ref q_a1_wicks, .ref q_a1_sources, .ref q_a1_changes, .long a1_state, .int a1_areLoopsAllowed, .int a1_ticks, .int a1_tickChanges, .int a1_sets])), (q_a1_kinds, .inl (cI, 16, .inl a1_kinds)), (q_a1_wicks, .inl (cI, 16, .inl a1_wicks)), (q_a1_sources, .inl (cI, 48, .inl a1_sources))] → va_S A s.heap H locs → ∀ ls : Array Slot, lv_has ls 4 [(0, .ref q_t), (1, .ref q_a1), (2, .int v2), (3, .int v3)] → J_X1_periodByKeeping_L41 k12 a1_count a1_state a1_kinds a1_wicks a1_sources nf t_seen v2 v3 = some (r, o_t_seen) → W p l e rmX1_periodByKeeping s m args below meth c H locs 0 0 Q (F0 m 41 ls []) := by
    intro k12 hk12 nf
    induction nf with
    | zero =>
      intro t_seen v2 v3 H locs hP hD hS ls hl hJ
      rw [J_X1_periodByKeeping_L41] at hJ
      cases hJ
    | succ nf ih =>
      intro t_seen v2 v3 H locs hP hD hS ls hl hJ
      rw [J_X1_periodByKeeping_L41] at hJ
      refine lv_iload_n hx hb dX1_periodByKeeping_41 rfl (lv_at hl 3 rfl) ?_
      refine jif_lt (tgt := 71) hx hb dX1_periodByKeeping_42 (by decide) hJ (fun hJ => ?_) (fun hJ => ?_)
      · refine jt_iinc hJ (fun x71 ex71 hJ => ?_)
        refine lv_iinc (v := x71) (lv' := [(2, .int x71), (0, .ref q_t), (1, .ref q_a1), (3, .int v3)]) hx hb dX1_periodByKeeping_71 hl (k := 2) rfl ex71 (by decide) rfl (fun ls hl => ?_)
        refine lv_goto (tgt := 12) hx hb dX1_periodByKeeping_74 (by decide) ?_
        exact hk12 t_seen x71  H locs  hP hD hS _ (lv_sub hl [1, 2, 0] rfl) hJ
      · refine lv_aload_n hx hb dX1_periodByKeeping_45 rfl (lv_at hl 0 rfl) ?_
        refine va_get (ci := 1) (v := .ref q_t_seen) (C := RX1) (T := TX1) (N := 1) hx hb hts hin_X1 hown hK hP 0 rfl rfl 0 (by decide) fl_9 (fun _ h9 => h9) rfl dX1_periodByKeeping_46 ?_
        refine lv_iload_n hx hb dX1_periodByKeeping_49 rfl (lv_at hl 3 rfl) ?_
        obtain ⟨hin, hJ⟩ := chk_in hJ
        refine va_lald hx hb hK hP 1 1 rfl rfl hin dX1_periodByKeeping_50 ?_
        refine jt_l hJ (fun x50 hJ => ?_)
        refine lv_aload_n hx hb dX1_periodByKeeping_51 rfl (lv_at hl 0 rfl) ?_
        refine va_get (ci := 1) (v := .ref q_t_seen) (C := RX1) (T := TX1) (N := 1) hx hb hts hin_X1 hown hK hP 0 rfl rfl 0 (by decide) fl_9 (fun _ h9 => h9) rfl dX1_periodByKeeping_52 ?_
        refine lv_iload_n hx hb dX1_periodByKeeping_55 rfl (lv_at hl 2 rfl) ?_
        obtain ⟨hin, hJ⟩ := chk_in hJ
        refine va_lald hx hb hK hP 1 1 rfl rfl hin dX1_periodByKeeping_56 ?_
        refine jt_l hJ (fun x56 hJ => ?_)
        refine W.lcmp hx hb dX1_periodByKeeping_57 ?_
        refine jif_ne (tgt := 65) hx hb dX1_periodByKeeping_58 (by decide) hJ (fun hJ => ?_) (fun hJ => ?_)
        · refine jt_iinc hJ (fun x65 ex65 hJ => ?_)
          refine lv_iinc (v := x65) (lv' := [(3, .int x65), (0, .ref q_t), (1, .ref q_a1), (2, .int v2)]) hx hb dX1_periodByKeeping_65 hl (k := 3) rfl ex65 (by decide) rfl (fun ls hl => ?_)
          refine lv_goto (tgt := 41) hx hb dX1_periodByKeeping_68 (by decide) ?_
          exact ih t_seen v2 x65  H locs  hP hD hS _ (lv_sub hl [1, 2, 3, 0] rfl) hJ
        · refine lv_iload_n hx hb dX1_periodByKeeping_61 rfl (lv_at hl 2 rfl) ?_
          refine lv_iload_n hx hb dX1_periodByKeeping_62 rfl (lv_at hl 3 rfl) ?_
          refine lv_isub hx hb dX1_periodByKeeping_63 ?_
          have hJ := Option.some.inj hJ
          obtain ⟨e0, e1⟩ : (v2 - v3) = r ∧ (t_seen) = o_t_seen := ⟨congrArg (fun z => z.1) hJ, congrArg (fun z => z.2) hJ⟩
          exact hRet (by rw [← e1]; exact hP) (by rw [← e1]; exact hD) hS e0 dX1_periodByKeeping_64
  have L12 : ∀ (nf : Nat), ∀ (t_seen : Nat → Int64) (v2 : Int32) (H : Heap) (locs : List Loc), va_P D vwCl [(q_t, .inr (1, [.ref q_t_seen])), (q_t_seen, .inl (cJ, 257, .inr (.inl t_seen))), (q_a1, .inr (2, [.int a1_count, .ref q_a1_kinds, .ref q_a1_wicks, .ref q_a1_sources, .ref q_a1_changes, .long a1_state, .int a1_areLoopsAllowed, .int a1_ticks, .int a1_tickChanges, .int a1_sets])), (q_a1_kinds, .inl (cI, 16, .inl a1_kinds)), (q_a1_wicks, .inl (cI, 16, .inl a1_wicks)), (q_a1_sources, .inl (cI, 48, .inl a1_sources))] H → va_D A [(q_t, .inr (1, [.ref q_t_seen])), (q_t_seen, .inl (cJ, 257, .inr (.inl t_seen))), (q_a1, .inr (2, [.int a1_count, .ref q_a1_kinds, .ref q_a1_wicks, .ref q_a1_sources, .ref q_a1_changes, .long a1_state, .int a1_areLoopsAllowed, .int a1_ticks, .int a1_tickChanges, .int a1_sets])), (q_a1_kinds, .inl (cI, 16, .inl a1_kinds)), (q_a1_wicks, .inl (cI, 16, .inl a1_wicks)), (q_a1_sources, .inl (cI, 48, .inl a1_sources))] → va_S A s.heap H locs → ∀ ls : Array Slot, lv_has ls 4 [(0, .ref q_t), (1, .ref q_a1), (2, .int v2)] → J_X1_periodByKeeping_L12  a1_count a1_state a1_kinds a1_wicks a1_sources nf t_seen v2 = some (r, o_t_seen) → W p l e rmX1_periodByKeeping s m args below meth c H locs 0 0 Q (F0 m 12 ls []) := by
    intro nf
    induction nf with
    | zero =>
      intro t_seen v2 H locs hP hD hS ls hl hJ
      rw [J_X1_periodByKeeping_L12] at hJ
      cases hJ
    | succ nf ih =>
      intro t_seen v2 H locs hP hD hS ls hl hJ
      rw [J_X1_periodByKeeping_L12] at hJ
      refine lv_iload_n hx hb dX1_periodByKeeping_12 rfl (lv_at hl 2 rfl) ?_
      refine lv_sipush (v := (256 : Int32)) hx hb dX1_periodByKeeping_13 (by decide) ?_
      refine jif_icmp_gt (tgt := 77) hx hb dX1_periodByKeeping_16 (by decide) hJ (fun hJ => ?_) (fun hJ => ?_)
      · refine lv_bipush (v := (-15 : Int32)) hx hb dX1_periodByKeeping_77 (by decide) ?_
        have hJ := Option.some.inj hJ
        obtain ⟨e0, e1⟩ : ((-15 : Int32)) = r ∧ (t_seen) = o_t_seen := ⟨congrArg (fun z => z.1) hJ, congrArg (fun z => z.2) hJ⟩
        exact hRet (by rw [← e1]; exact hP) (by rw [← e1]; exact hD) hS e0 dX1_periodByKeeping_79
      · refine lv_aload_n hx hb dX1_periodByKeeping_19 rfl (lv_at hl 0 rfl) ?_
        refine va_get (ci := 1) (v := .ref q_t_seen) (C := RX1) (T := TX1) (N := 1) hx hb hts hin_X1 hown hK hP 0 rfl rfl 0 (by decide) fl_9 (fun _ h9 => h9) rfl dX1_periodByKeeping_20 ?_
        refine lv_iload_n hx hb dX1_periodByKeeping_23 rfl (lv_at hl 2 rfl) ?_
        refine lv_aload_n hx hb dX1_periodByKeeping_24 rfl (lv_at hl 1 rfl) ?_
        refine lv_aload_n hx hb dX1_periodByKeeping_25 rfl (lv_at hl 0 rfl) ?_
        refine va_get (ci := 1) (v := .ref q_t_seen) (C := RX1) (T := TX1) (N := 1) hx hb hts hin_X1 hown hK hP 0 rfl rfl 0 (by decide) fl_9 (fun _ h9 => h9) rfl dX1_periodByKeeping_26 ?_
        refine lv_iload_n hx hb dX1_periodByKeeping_29 rfl (lv_at hl 2 rfl) ?_
        refine lv_iconst (v := (1 : Int32)) hx hb dX1_periodByKeeping_30 (by decide) ?_
        refine lv_isub hx hb dX1_periodByKeeping_31 ?_
        refine jt_i hJ (fun x31 hJ => ?_)
        obtain ⟨hin, hJ⟩ := chk_in hJ
        refine va_lald hx hb hK hP 1 1 rfl rfl hin dX1_periodByKeeping_32 ?_
        refine jt_l hJ (fun x32 hJ => ?_)
        obtain ⟨x33, hc33, hJ⟩ := bnd1_some hJ
        refine jcV_l (C := RX2) (T := TX2) (N := 10) (ci := 2) (q0 := 0) (As := [.long x32]) (rest := [.int v2, .ref q_t_seen]) (isC := [2, 3, 4, 5]) (isR := [0, 1]) (isB := [0, 1, 2, 3, 4, 5]) (wr := [(q_t, .inr (1, [.ref q_t_seen])), (q_t_seen, .inl (cJ, 257, .inr (.inl t_seen)))]) (ws2 := [(q_t, .inr (1, [.ref q_t_seen])), (q_t_seen, .inl (cJ, 257, .inr (.inl t_seen))), (q_a1, .inr (2, [.int a1_count, .ref q_a1_kinds, .ref q_a1_wicks, .ref q_a1_sources, .ref q_a1_changes, .long a1_state, .int a1_areLoopsAllowed, .int a1_ticks, .int a1_tickChanges, .int a1_sets])), (q_a1_kinds, .inl (cI, 16, .inl a1_kinds)), (q_a1_wicks, .inl (cI, 16, .inl a1_wicks)), (q_a1_sources, .inl (cI, 48, .inl a1_sources))]) hF (c_X2_behindTick l D cI cJ cC cL q_a1 q_a1_kinds q_a1_wicks q_a1_sources q_a1_changes a1_count a1_state a1_areLoopsAllowed a1_ticks a1_tickChanges a1_sets a1_kinds a1_wicks a1_sources x32 x33 hc33 H.size) (cwV 1 hts gX1_periodByKeeping_X2_behindTick rfl rfl rfl (by decide +kernel) ⟨Nat.le_of_ble_eq_true rfl, Nat.le_of_ble_eq_true rfl⟩) rfl hl rfl (Nat.le_of_ble_eq_true rfl) dX1_periodByKeeping_33 ⟨Nat.zero_le _, Nat.zero_le _⟩ hK hN KX_T trivial hP hD hS hA rfl rfl rfl rfl rfl rfl (by decide) rfl rfl (fun H locs hP hD hS => ?_)
        obtain ⟨hin, hJ⟩ := chk_in hJ
        refine va_last hx hb hK hP hD hS 1 1 rfl rfl hin dX1_periodByKeeping_36 (fun H locs hP hD hS => ?_)
        have hP : va_P D vwCl [(q_t, .inr (1, [.ref q_t_seen])), (q_t_seen, .inl (cJ, 257, .inr (.inl (vp_updL t_seen v2.toNatClampNeg x33)))), (q_a1, .inr (2, [.int a1_count, .ref q_a1_kinds, .ref q_a1_wicks, .ref q_a1_sources, .ref q_a1_changes, .long a1_state, .int a1_areLoopsAllowed, .int a1_ticks, .int a1_tickChanges, .int a1_sets])), (q_a1_kinds, .inl (cI, 16, .inl a1_kinds)), (q_a1_wicks, .inl (cI, 16, .inl a1_wicks)), (q_a1_sources, .inl (cI, 48, .inl a1_sources))] H := hP
        have hD : va_D A [(q_t, .inr (1, [.ref q_t_seen])), (q_t_seen, .inl (cJ, 257, .inr (.inl (vp_updL t_seen v2.toNatClampNeg x33)))), (q_a1, .inr (2, [.int a1_count, .ref q_a1_kinds, .ref q_a1_wicks, .ref q_a1_sources, .ref q_a1_changes, .long a1_state, .int a1_areLoopsAllowed, .int a1_ticks, .int a1_tickChanges, .int a1_sets])), (q_a1_kinds, .inl (cI, 16, .inl a1_kinds)), (q_a1_wicks, .inl (cI, 16, .inl a1_wicks)), (q_a1_sources, .inl (cI, 48, .inl a1_sources))] := hD
        refine lv_iload_n hx hb dX1_periodByKeeping_37 rfl (lv_at hl 2 rfl) ?_
        refine lv_iconst (v := (1 : Int32)) hx hb dX1_periodByKeeping_38 (by decide) ?_
        refine lv_isub hx hb dX1_periodByKeeping_39 ?_
        refine jt_i hJ (fun x39 hJ => ?_)
        refine lv_istore_n (lv' := [(3, .int x39), (0, .ref q_t), (1, .ref q_a1), (2, .int v2)]) hx hb dX1_periodByKeeping_40 rfl hl (by decide) rfl (fun ls hl => ?_)
        exact L41 (fun z0 z1 => J_X1_periodByKeeping_L12 a1_count a1_state a1_kinds a1_wicks a1_sources nf z0 z1) ih FU (vp_updL t_seen v2.toNatClampNeg x33) v2 x39  H locs  hP hD hS _ (lv_sub hl [1, 2, 3, 0] rfl) hJ
  unfold J_X1_periodByKeeping at hJ
  refine lv_aload_n hx hb dX1_periodByKeeping_0 rfl (lv_at hl 0 rfl) ?_
  refine va_get (ci := 1) (v := .ref q_t_seen) (C := RX1) (T := TX1) (N := 1) hx hb hts hin_X1 hown hK hP 0 rfl rfl 0 (by decide) fl_9 (fun _ h9 => h9) rfl dX1_periodByKeeping_1 ?_
  refine lv_iconst (v := (0 : Int32)) hx hb dX1_periodByKeeping_4 (by decide) ?_
  refine lv_aload_n hx hb dX1_periodByKeeping_5 rfl (lv_at hl 1 rfl) ?_
  obtain ⟨x6, hc6, hJ⟩ := bnd1_some hJ
  refine jcV_l (C := RX2) (T := TX2) (N := 10) (ci := 2) (q0 := 0) (As := []) (rest := [.int (0 : Int32), .ref q_t_seen]) (isC := [2]) (isR := [0, 1, 3, 4, 5]) (isB := [0, 1, 5, 2, 3, 4]) (wr := [(q_t, .inr (1, [.ref q_t_seen])), (q_t_seen, .inl (cJ, 257, .inr (.inl t_seen))), (q_a1_kinds, .inl (cI, 16, .inl a1_kinds)), (q_a1_wicks, .inl (cI, 16, .inl a1_wicks)), (q_a1_sources, .inl (cI, 48, .inl a1_sources))]) (ws2 := [(q_t, .inr (1, [.ref q_t_seen])), (q_t_seen, .inl (cJ, 257, .inr (.inl t_seen))), (q_a1, .inr (2, [.int a1_count, .ref q_a1_kinds, .ref q_a1_wicks, .ref q_a1_sources, .ref q_a1_changes, .long a1_state, .int a1_areLoopsAllowed, .int a1_ticks, .int a1_tickChanges, .int a1_sets])), (q_a1_kinds, .inl (cI, 16, .inl a1_kinds)), (q_a1_wicks, .inl (cI, 16, .inl a1_wicks)), (q_a1_sources, .inl (cI, 48, .inl a1_sources))]) hF (c_X2_state l D cI cJ cC cL q_a1 q_a1_kinds q_a1_wicks q_a1_sources q_a1_changes a1_count a1_state a1_areLoopsAllowed a1_ticks a1_tickChanges a1_sets x6 hc6 s.heap.size) (cwV 0 hts gX1_periodByKeeping_X2_state rfl rfl rfl (by decide +kernel) ⟨Nat.le_of_ble_eq_true rfl, Nat.le_of_ble_eq_true rfl⟩) rfl hl rfl (Nat.le_of_ble_eq_true rfl) dX1_periodByKeeping_6 ⟨Nat.zero_le _, Nat.zero_le _⟩ hK hN KX_T trivial hP hD hS hA rfl rfl rfl rfl rfl rfl (by decide) rfl rfl (fun H locs hP hD hS => ?_)
  obtain ⟨hin, hJ⟩ := chk_in hJ
  refine va_last hx hb hK hP hD hS 1 1 rfl rfl hin dX1_periodByKeeping_9 (fun H locs hP hD hS => ?_)
  have hP : va_P D vwCl [(q_t, .inr (1, [.ref q_t_seen])), (q_t_seen, .inl (cJ, 257, .inr (.inl (vp_updL t_seen (0 : Int32).toNatClampNeg x6)))), (q_a1, .inr (2, [.int a1_count, .ref q_a1_kinds, .ref q_a1_wicks, .ref q_a1_sources, .ref q_a1_changes, .long a1_state, .int a1_areLoopsAllowed, .int a1_ticks, .int a1_tickChanges, .int a1_sets])), (q_a1_kinds, .inl (cI, 16, .inl a1_kinds)), (q_a1_wicks, .inl (cI, 16, .inl a1_wicks)), (q_a1_sources, .inl (cI, 48, .inl a1_sources))] H := hP
  have hD : va_D A [(q_t, .inr (1, [.ref q_t_seen])), (q_t_seen, .inl (cJ, 257, .inr (.inl (vp_updL t_seen (0 : Int32).toNatClampNeg x6)))), (q_a1, .inr (2, [.int a1_count, .ref q_a1_kinds, .ref q_a1_wicks, .ref q_a1_sources, .ref q_a1_changes, .long a1_state, .int a1_areLoopsAllowed, .int a1_ticks, .int a1_tickChanges, .int a1_sets])), (q_a1_kinds, .inl (cI, 16, .inl a1_kinds)), (q_a1_wicks, .inl (cI, 16, .inl a1_wicks)), (q_a1_sources, .inl (cI, 48, .inl a1_sources))] := hD
  refine lv_iconst (v := (1 : Int32)) hx hb dX1_periodByKeeping_10 (by decide) ?_
  refine lv_istore_n (lv' := [(2, .int (1 : Int32)), (0, .ref q_t), (1, .ref q_a1)]) hx hb dX1_periodByKeeping_11 rfl hl (by decide) rfl (fun ls hl => ?_)
  exact L12  FU (vp_updL t_seen (0 : Int32).toNatClampNeg x6) (1 : Int32)  H locs  hP hD hS _ (lv_sub hl [1, 2, 0] rfl) hJ

def J_X1_isSeenInTime_b54 (k11 : Int64 → Int64 → Int32 → Option (Int32)) (a0_count : Int32) (a0_state : Int64) (a0_kinds : Nat → Int32) (a0_wicks : Nat → Int32) (a0_sources : Nat → Int32) (v1 : Int32) (v2 : Int64) (v4 : Int64) (v6 : Int32) : Option (Int32) :=
    nm (v6 + Int32.ofInt 1) fun x54 =>
    k11 v2 v4 x54
def J_X1_isSeenInTime_b39 (k11 : Int64 → Int64 → Int32 → Option (Int32)) (a0_count : Int32) (a0_state : Int64) (a0_kinds : Nat → Int32) (a0_wicks : Nat → Int32) (a0_sources : Nat → Int32) (v1 : Int32) (v2 : Int64) (v4 : Int64) (v6 : Int32) : Option (Int32) :=
    if v6 < v1 then (
    J_X1_isSeenInTime_b54 k11 a0_count a0_state a0_kinds a0_wicks a0_sources v1 v2 v4 v6)
    else (
    if (lg_cmp v4 v2) = 0 then (
    chz (1 : Int32) (some ((1 : Int32))))
    else (
    J_X1_isSeenInTime_b54 k11 a0_count a0_state a0_kinds a0_wicks a0_sources v1 v2 v4 v6))
def J_X1_isSeenInTime_L11 (a0_count : Int32) (a0_state : Int64) (a0_kinds : Nat → Int32) (a0_wicks : Nat → Int32) (a0_sources : Nat → Int32) (v1 : Int32) : Nat → Int64 → Int64 → Int32 → Option (Int32)
  | 0, _, _, _ => none
  | nf + 1, v2, v4, v6 =>
    if (256 : Int32) < v6 then (
    chz (0 : Int32) (some ((0 : Int32))))
    else (
    bnd1 (J_X2_behindTick a0_count a0_kinds a0_wicks a0_sources v4) fun x22 =>
    if v6 ≤ v1 then (
    J_X1_isSeenInTime_b39 (fun z0 z1 z2 => J_X1_isSeenInTime_L11 a0_count a0_state a0_kinds a0_wicks a0_sources v1 nf z0 z1 z2) a0_count a0_state a0_kinds a0_wicks a0_sources v1 v2 x22 v6)
    else (
    bnd1 (J_X2_behindTick a0_count a0_kinds a0_wicks a0_sources v2) fun x35 =>
    J_X1_isSeenInTime_b39 (fun z0 z1 z2 => J_X1_isSeenInTime_L11 a0_count a0_state a0_kinds a0_wicks a0_sources v1 nf z0 z1 z2) a0_count a0_state a0_kinds a0_wicks a0_sources v1 x35 x22 v6))
def J_X1_isSeenInTime (a0_count : Int32) (a0_state : Int64) (a0_kinds : Nat → Int32) (a0_wicks : Nat → Int32) (a0_sources : Nat → Int32) (v1 : Int32) : Option (Int32) :=
    bnd1 (J_X2_state a0_state) fun x1 =>
    J_X1_isSeenInTime_L11 a0_count a0_state a0_kinds a0_wicks a0_sources v1 FU x1 x1 (1 : Int32)
abbrev rmX1_isSeenInTime : Room := { frames := 2, cells := 0, slots := 0, locals := 54 }
set_option maxHeartbeats 4000000 in
set_option maxRecDepth 100000 in
theorem c_X1_isSeenInTime (l : Launch) (D : va_G) (cI cJ cC cL : ClassId) (q_a0 q_a0_kinds q_a0_wicks q_a0_sources q_a0_changes : Nat) (a0_count : Int32) (a0_state : Int64) (a0_areLoopsAllowed : Int32) (a0_ticks : Int32) (a0_tickChanges : Int32) (a0_sets : Int32) (a0_kinds : Nat → Int32) (a0_wicks : Nat → Int32) (a0_sources : Nat → Int32) (v1 : Int32) (r : Int32) (hJ : J_X1_isSeenInTime a0_count a0_state a0_kinds a0_wicks a0_sources v1 = some (r)) (sz : Nat) : Met l yX1_isSeenInTime wsX1_isSeenInTime rmX1_isSeenInTime (va_Pc [.ref q_a0, .int v1] (jpre XT D (tyL cI cJ cC cL) [(q_a0, .inr (2, [.int a0_count, .ref q_a0_kinds, .ref q_a0_wicks, .ref q_a0_sources, .ref q_a0_changes, .long a0_state, .int a0_areLoopsAllowed, .int a0_ticks, .int a0_tickChanges, .int a0_sets])), (q_a0_kinds, .inl (cI, 16, .inl a0_kinds)), (q_a0_wicks, .inl (cI, 16, .inl a0_wicks)), (q_a0_sources, .inl (cI, 48, .inl a0_sources))] sz)) (va_Qi (fun r' (_ : Unit) => r' = r) (fun _ t => jpost D (tyL cI cJ cC cL) (va_A [(q_a0, .inr (2, [.int a0_count, .ref q_a0_kinds, .ref q_a0_wicks, .ref q_a0_sources, .ref q_a0_changes, .long a0_state, .int a0_areLoopsAllowed, .int a0_ticks, .int a0_tickChanges, .int a0_sets])), (q_a0_kinds, .inl (cI, 16, .inl a0_kinds)), (q_a0_wicks, .inl (cI, 16, .inl a0_wicks)), (q_a0_sources, .inl (cI, 48, .inl a0_sources))] sz) [(q_a0, .inr (2, [.int a0_count, .ref q_a0_kinds, .ref q_a0_wicks, .ref q_a0_sources, .ref q_a0_changes, .long a0_state, .int a0_areLoopsAllowed, .int a0_ticks, .int a0_tickChanges, .int a0_sets])), (q_a0_kinds, .inl (cI, 16, .inl a0_kinds)), (q_a0_wicks, .inl (cI, 16, .inl a0_wicks)), (q_a0_sources, .inl (cI, 48, .inl a0_sources))] t) (va_A [(q_a0, .inr (2, [.int a0_count, .ref q_a0_kinds, .ref q_a0_wicks, .ref q_a0_sources, .ref q_a0_changes, .long a0_state, .int a0_areLoopsAllowed, .int a0_ticks, .int a0_tickChanges, .int a0_sets])), (q_a0_kinds, .inl (cI, 16, .inl a0_kinds)), (q_a0_wicks, .inl (cI, 16, .inl a0_wicks)), (q_a0_sources, .inl (cI, 48, .inl a0_sources))] sz)) 0 0 (va_A [(q_a0, .inr (2, [.int a0_count, .ref q_a0_kinds, .ref q_a0_wicks, .ref q_a0_sources, .ref q_a0_changes, .long a0_state, .int a0_areLoopsAllowed, .int a0_ticks, .int a0_tickChanges, .int a0_sets])), (q_a0_kinds, .inl (cI, 16, .inl a0_kinds)), (q_a0_wicks, .inl (cI, 16, .inl a0_wicks)), (q_a0_sources, .inl (cI, 48, .inl a0_sources))] sz) := by
  refine jE_z (cc := cX1_isSeenInTime) (maxL := 7) (own := RX1) (ret := (some .boolean)) (lv0 := [(0, .ref q_a0), (1, .int v1)]) (by decide) rfl rfl rfl (Nat.le_of_ble_eq_true rfl) rfl ?_
  intro p e s m args below meth c A Q ls hx hb hml hown hts hK hN hX hA hP hD hS hl hRet
  have hF : CallFix p m c cX1_isSeenInTime 7 s args wsX1_isSeenInTime RX1 := ⟨hx, hb, hml, hown, hts⟩
  have B54 : ∀ (k11 : Int64 → Int64 → Int32 → Option (Int32)), (∀ (v2 : Int64) (v4 : Int64) (v6 : Int32) (H : Heap) (locs : List Loc), va_P D vwCl [(q_a0, .inr (2, [.int a0_count, .ref q_a0_kinds, .ref q_a0_wicks, .ref q_a0_sources, .ref q_a0_changes, .long a0_state, .int a0_areLoopsAllowed, .int a0_ticks, .int a0_tickChanges, .int a0_sets])), (q_a0_kinds, .inl (cI, 16, .inl a0_kinds)), (q_a0_wicks, .inl (cI, 16, .inl a0_wicks)), (q_a0_sources, .inl (cI, 48, .inl a0_sources))] H → va_D A [(q_a0, .inr (2, [.int a0_count, .ref q_a0_kinds, .ref q_a0_wicks, .ref q_a0_sources, .ref q_a0_changes, .long a0_state, .int a0_areLoopsAllowed, .int a0_ticks, .int a0_tickChanges, .int a0_sets])), (q_a0_kinds, .inl (cI, 16, .inl a0_kinds)), (q_a0_wicks, .inl (cI, 16, .inl a0_wicks)), (q_a0_sources, .inl (cI, 48, .inl a0_sources))] → va_S A s.heap H locs → ∀ ls : Array Slot, lv_has ls 7 [(0, .ref q_a0), (1, .int v1), (2, .long v2), (4, .long v4), (6, .int v6)] → k11 v2 v4 v6 = some (r) → W p l e rmX1_isSeenInTime s m args below meth c H locs 0 0 Q (F0 m 11 ls [])) → ∀ (v2 : Int64) (v4 : Int64) (v6 : Int32) (H : Heap) (locs : List Loc), va_P D vwCl [(q_a0, .inr (2, [.int a0_count, .ref q_a0_kinds, .ref q_a0_wicks, .ref q_a0_sources, .ref q_a0_changes, .long a0_state, .int a0_areLoopsAllowed, .int a0_ticks, .int a0_tickChanges, .int a0_sets])), (q_a0_kinds, .inl (cI, 16, .inl a0_kinds)), (q_a0_wicks, .inl (cI, 16, .inl a0_wicks)), (q_a0_sources, .inl (cI, 48, .inl a0_sources))] H → va_D A [(q_a0, .inr (2, [.int a0_count, .ref q_a0_kinds, .ref q_a0_wicks, .ref q_a0_sources, .ref q_a0_changes, .long a0_state, .int a0_areLoopsAllowed, .int a0_ticks, .int a0_tickChanges, .int a0_sets])), (q_a0_kinds, .inl (cI, 16, .inl a0_kinds)), (q_a0_wicks, .inl (cI, 16, .inl a0_wicks)), (q_a0_sources, .inl (cI, 48, .inl a0_sources))] → va_S A s.heap H locs → ∀ ls : Array Slot, lv_has ls 7 [(0, .ref q_a0), (1, .int v1), (2, .long v2), (4, .long v4), (6, .int v6)] → J_X1_isSeenInTime_b54 k11 a0_count a0_state a0_kinds a0_wicks a0_sources v1 v2 v4 v6 = some (r) → W p l e rmX1_isSeenInTime s m args below meth c H locs 0 0 Q (F0 m 54 ls []) := by
    intro k11 hk11 v2 v4 v6 H locs hP hD hS ls hl hJ
    unfold J_X1_isSeenInTime_b54 at hJ
    refine jt_iinc hJ (fun x54 ex54 hJ => ?_)
    refine lv_iinc (v := x54) (lv' := [(6, .int x54), (0, .ref q_a0), (1, .int v1), (2, .long v2), (4, .long v4)]) hx hb dX1_isSeenInTime_54 hl (k := 4) rfl ex54 (by decide) rfl (fun ls hl => ?_)
    refine lv_goto (tgt := 11) hx hb dX1_isSeenInTime_57 (by decide) ?_
    exact hk11 v2 v4 x54  H locs  hP hD hS _ (lv_sub hl [1, 2, 3, 4, 0] rfl) hJ
  have B39 : ∀ (k11 : Int64 → Int64 → Int32 → Option (Int32)), (∀ (v2 : Int64) (v4 : Int64) (v6 : Int32) (H : Heap) (locs : List Loc), va_P D vwCl [(q_a0, .inr (2, [.int a0_count, .ref q_a0_kinds, .ref q_a0_wicks, .ref q_a0_sources, .ref q_a0_changes, .long a0_state, .int a0_areLoopsAllowed, .int a0_ticks, .int a0_tickChanges, .int a0_sets])), (q_a0_kinds, .inl (cI, 16, .inl a0_kinds)), (q_a0_wicks, .inl (cI, 16, .inl a0_wicks)), (q_a0_sources, .inl (cI, 48, .inl a0_sources))] H → va_D A [(q_a0, .inr (2, [.int a0_count, .ref q_a0_kinds, .ref q_a0_wicks, .ref q_a0_sources, .ref q_a0_changes, .long a0_state, .int a0_areLoopsAllowed, .int a0_ticks, .int a0_tickChanges, .int a0_sets])), (q_a0_kinds, .inl (cI, 16, .inl a0_kinds)), (q_a0_wicks, .inl (cI, 16, .inl a0_wicks)), (q_a0_sources, .inl (cI, 48, .inl a0_sources))] → va_S A s.heap H locs → ∀ ls : Array Slot, lv_has ls 7 [(0, .ref q_a0), (1, .int v1), (2, .long v2), (4, .long v4), (6, .int v6)] → k11 v2 v4 v6 = some (r) → W p l e rmX1_isSeenInTime s m args below meth c H locs 0 0 Q (F0 m 11 ls [])) → ∀ (v2 : Int64) (v4 : Int64) (v6 : Int32) (H : Heap) (locs : List Loc), va_P D vwCl [(q_a0, .inr (2, [.int a0_count, .ref q_a0_kinds, .ref q_a0_wicks, .ref q_a0_sources, .ref q_a0_changes, .long a0_state, .int a0_areLoopsAllowed, .int a0_ticks, .int a0_tickChanges, .int a0_sets])), (q_a0_kinds, .inl (cI, 16, .inl a0_kinds)), (q_a0_wicks, .inl (cI, 16, .inl a0_wicks)), (q_a0_sources, .inl (cI, 48, .inl a0_sources))] H → va_D A [(q_a0, .inr (2, [.int a0_count, .ref q_a0_kinds, .ref q_a0_wicks, .ref q_a0_sources, .ref q_a0_changes, .long a0_state, .int a0_areLoopsAllowed, .int a0_ticks, .int a0_tickChanges, .int a0_sets])), (q_a0_kinds, .inl (cI, 16, .inl a0_kinds)), (q_a0_wicks, .inl (cI, 16, .inl a0_wicks)), (q_a0_sources, .inl (cI, 48, .inl a0_sources))] → va_S A s.heap H locs → ∀ ls : Array Slot, lv_has ls 7 [(0, .ref q_a0), (1, .int v1), (2, .long v2), (4, .long v4), (6, .int v6)] → J_X1_isSeenInTime_b39 k11 a0_count a0_state a0_kinds a0_wicks a0_sources v1 v2 v4 v6 = some (r) → W p l e rmX1_isSeenInTime s m args below meth c H locs 0 0 Q (F0 m 39 ls []) := by
    intro k11 hk11 v2 v4 v6 H locs hP hD hS ls hl hJ
    unfold J_X1_isSeenInTime_b39 at hJ
    refine lv_iload hx hb dX1_isSeenInTime_39 (lv_at hl 4 rfl) ?_
    refine lv_iload_n hx hb dX1_isSeenInTime_41 rfl (lv_at hl 1 rfl) ?_
    refine jif_icmp_lt (tgt := 54) hx hb dX1_isSeenInTime_42 (by decide) hJ (fun hJ => ?_) (fun hJ => ?_)
    · exact B54 k11 hk11 v2 v4 v6  H locs  hP hD hS _ (lv_sub hl [0, 1, 2, 3, 4] rfl) hJ
    · refine lv_lload hx hb dX1_isSeenInTime_45 (lv_at hl 3 rfl) ?_
      refine lv_lload_n hx hb dX1_isSeenInTime_47 rfl (lv_at hl 2 rfl) ?_
      refine W.lcmp hx hb dX1_isSeenInTime_48 ?_
      refine jif_ne (tgt := 54) hx hb dX1_isSeenInTime_49 (by decide) hJ (fun hJ => ?_) (fun hJ => ?_)
      · exact B54 k11 hk11 v2 v4 v6  H locs  hP hD hS _ (lv_sub hl [0, 1, 2, 3, 4] rfl) hJ
      · refine lv_iconst (v := (1 : Int32)) hx hb dX1_isSeenInTime_52 (by decide) ?_
        obtain ⟨h01, hJ⟩ := chz_ok hJ
        have e0 := Option.some.inj hJ
        exact hRet hP hD hS h01 e0 dX1_isSeenInTime_53
  have L11 : ∀ (nf : Nat), ∀ (v2 : Int64) (v4 : Int64) (v6 : Int32) (H : Heap) (locs : List Loc), va_P D vwCl [(q_a0, .inr (2, [.int a0_count, .ref q_a0_kinds, .ref q_a0_wicks, .ref q_a0_sources, .ref q_a0_changes, .long a0_state, .int a0_areLoopsAllowed, .int a0_ticks, .int a0_tickChanges, .int a0_sets])), (q_a0_kinds, .inl (cI, 16, .inl a0_kinds)), (q_a0_wicks, .inl (cI, 16, .inl a0_wicks)), (q_a0_sources, .inl (cI, 48, .inl a0_sources))] H → va_D A [(q_a0, .inr (2, [.int a0_count, .ref q_a0_kinds, .ref q_a0_wicks, .ref q_a0_sources, .ref q_a0_changes, .long a0_state, .int a0_areLoopsAllowed, .int a0_ticks, .int a0_tickChanges, .int a0_sets])), (q_a0_kinds, .inl (cI, 16, .inl a0_kinds)), (q_a0_wicks, .inl (cI, 16, .inl a0_wicks)), (q_a0_sources, .inl (cI, 48, .inl a0_sources))] → va_S A s.heap H locs → ∀ ls : Array Slot, lv_has ls 7 [(0, .ref q_a0), (1, .int v1), (2, .long v2), (4, .long v4), (6, .int v6)] → J_X1_isSeenInTime_L11  a0_count a0_state a0_kinds a0_wicks a0_sources v1 nf v2 v4 v6 = some (r) → W p l e rmX1_isSeenInTime s m args below meth c H locs 0 0 Q (F0 m 11 ls []) := by
    intro nf
    induction nf with
    | zero =>
      intro v2 v4 v6 H locs hP hD hS ls hl hJ
      rw [J_X1_isSeenInTime_L11] at hJ
      cases hJ
    | succ nf ih =>
      intro v2 v4 v6 H locs hP hD hS ls hl hJ
      rw [J_X1_isSeenInTime_L11] at hJ
      refine lv_iload hx hb dX1_isSeenInTime_11 (lv_at hl 4 rfl) ?_
      refine lv_sipush (v := (256 : Int32)) hx hb dX1_isSeenInTime_13 (by decide) ?_
      refine jif_icmp_gt (tgt := 60) hx hb dX1_isSeenInTime_16 (by decide) hJ (fun hJ => ?_) (fun hJ => ?_)
      · refine lv_iconst (v := (0 : Int32)) hx hb dX1_isSeenInTime_60 (by decide) ?_
        obtain ⟨h01, hJ⟩ := chz_ok hJ
        have e0 := Option.some.inj hJ
        exact hRet hP hD hS h01 e0 dX1_isSeenInTime_61
      · refine lv_aload_n hx hb dX1_isSeenInTime_19 rfl (lv_at hl 0 rfl) ?_
        refine lv_lload hx hb dX1_isSeenInTime_20 (lv_at hl 3 rfl) ?_
        obtain ⟨x22, hc22, hJ⟩ := bnd1_some hJ
        refine jcV_l (C := RX2) (T := TX2) (N := 10) (ci := 2) (q0 := 0) (As := [.long v4]) (rest := []) (isC := [0, 1, 2, 3]) (isR := []) (isB := [0, 1, 2, 3]) (wr := []) (ws2 := [(q_a0, .inr (2, [.int a0_count, .ref q_a0_kinds, .ref q_a0_wicks, .ref q_a0_sources, .ref q_a0_changes, .long a0_state, .int a0_areLoopsAllowed, .int a0_ticks, .int a0_tickChanges, .int a0_sets])), (q_a0_kinds, .inl (cI, 16, .inl a0_kinds)), (q_a0_wicks, .inl (cI, 16, .inl a0_wicks)), (q_a0_sources, .inl (cI, 48, .inl a0_sources))]) hF (c_X2_behindTick l D cI cJ cC cL q_a0 q_a0_kinds q_a0_wicks q_a0_sources q_a0_changes a0_count a0_state a0_areLoopsAllowed a0_ticks a0_tickChanges a0_sets a0_kinds a0_wicks a0_sources v4 x22 hc22 H.size) (cwV 1 hts gX1_isSeenInTime_X2_behindTick rfl rfl rfl (by decide +kernel) ⟨Nat.le_of_ble_eq_true rfl, Nat.le_of_ble_eq_true rfl⟩) rfl hl rfl (Nat.le_of_ble_eq_true rfl) dX1_isSeenInTime_22 ⟨Nat.zero_le _, Nat.zero_le _⟩ hK hN KX_T trivial hP hD hS hA rfl rfl rfl rfl rfl rfl (by decide) rfl rfl (fun H locs hP hD hS => ?_)
        refine lv_lstore (lv' := [(4, .long x22), (0, .ref q_a0), (1, .int v1), (2, .long v2), (6, .int v6)]) hx hb dX1_isSeenInTime_25 hl (by decide) rfl (fun ls hl => ?_)
        refine lv_iload hx hb dX1_isSeenInTime_27 (lv_at hl 4 rfl) ?_
        refine lv_iload_n hx hb dX1_isSeenInTime_29 rfl (lv_at hl 2 rfl) ?_
        refine jif_icmp_le (tgt := 39) hx hb dX1_isSeenInTime_30 (by decide) hJ (fun hJ => ?_) (fun hJ => ?_)
        · exact B39 (fun z0 z1 z2 => J_X1_isSeenInTime_L11 a0_count a0_state a0_kinds a0_wicks a0_sources v1 nf z0 z1 z2) ih v2 x22 v6  H locs  hP hD hS _ (lv_sub hl [1, 2, 3, 0, 4] rfl) hJ
        · refine lv_aload_n hx hb dX1_isSeenInTime_33 rfl (lv_at hl 1 rfl) ?_
          refine lv_lload_n hx hb dX1_isSeenInTime_34 rfl (lv_at hl 3 rfl) ?_
          obtain ⟨x35, hc35, hJ⟩ := bnd1_some hJ
          refine jcV_l (C := RX2) (T := TX2) (N := 10) (ci := 2) (q0 := 0) (As := [.long v2]) (rest := []) (isC := [0, 1, 2, 3]) (isR := []) (isB := [0, 1, 2, 3]) (wr := []) (ws2 := [(q_a0, .inr (2, [.int a0_count, .ref q_a0_kinds, .ref q_a0_wicks, .ref q_a0_sources, .ref q_a0_changes, .long a0_state, .int a0_areLoopsAllowed, .int a0_ticks, .int a0_tickChanges, .int a0_sets])), (q_a0_kinds, .inl (cI, 16, .inl a0_kinds)), (q_a0_wicks, .inl (cI, 16, .inl a0_wicks)), (q_a0_sources, .inl (cI, 48, .inl a0_sources))]) hF (c_X2_behindTick l D cI cJ cC cL q_a0 q_a0_kinds q_a0_wicks q_a0_sources q_a0_changes a0_count a0_state a0_areLoopsAllowed a0_ticks a0_tickChanges a0_sets a0_kinds a0_wicks a0_sources v2 x35 hc35 H.size) (cwV 1 hts gX1_isSeenInTime_X2_behindTick rfl rfl rfl (by decide +kernel) ⟨Nat.le_of_ble_eq_true rfl, Nat.le_of_ble_eq_true rfl⟩) rfl hl rfl (Nat.le_of_ble_eq_true rfl) dX1_isSeenInTime_35 ⟨Nat.zero_le _, Nat.zero_le _⟩ hK hN KX_T trivial hP hD hS hA rfl rfl rfl rfl rfl rfl (by decide) rfl rfl (fun H locs hP hD hS => ?_)
          refine lv_lstore_n (lv' := [(2, .long x35), (4, .long x22), (0, .ref q_a0), (1, .int v1), (6, .int v6)]) hx hb dX1_isSeenInTime_38 rfl hl (by decide) rfl (fun ls hl => ?_)
          exact B39 (fun z0 z1 z2 => J_X1_isSeenInTime_L11 a0_count a0_state a0_kinds a0_wicks a0_sources v1 nf z0 z1 z2) ih x35 x22 v6  H locs  hP hD hS _ (lv_sub hl [2, 3, 0, 1, 4] rfl) hJ
  unfold J_X1_isSeenInTime at hJ
  refine lv_aload_n hx hb dX1_isSeenInTime_0 rfl (lv_at hl 0 rfl) ?_
  obtain ⟨x1, hc1, hJ⟩ := bnd1_some hJ
  refine jcV_l (C := RX2) (T := TX2) (N := 10) (ci := 2) (q0 := 0) (As := []) (rest := []) (isC := [0]) (isR := [1, 2, 3]) (isB := [3, 0, 1, 2]) (wr := [(q_a0_kinds, .inl (cI, 16, .inl a0_kinds)), (q_a0_wicks, .inl (cI, 16, .inl a0_wicks)), (q_a0_sources, .inl (cI, 48, .inl a0_sources))]) (ws2 := [(q_a0, .inr (2, [.int a0_count, .ref q_a0_kinds, .ref q_a0_wicks, .ref q_a0_sources, .ref q_a0_changes, .long a0_state, .int a0_areLoopsAllowed, .int a0_ticks, .int a0_tickChanges, .int a0_sets])), (q_a0_kinds, .inl (cI, 16, .inl a0_kinds)), (q_a0_wicks, .inl (cI, 16, .inl a0_wicks)), (q_a0_sources, .inl (cI, 48, .inl a0_sources))]) hF (c_X2_state l D cI cJ cC cL q_a0 q_a0_kinds q_a0_wicks q_a0_sources q_a0_changes a0_count a0_state a0_areLoopsAllowed a0_ticks a0_tickChanges a0_sets x1 hc1 s.heap.size) (cwV 0 hts gX1_isSeenInTime_X2_state rfl rfl rfl (by decide +kernel) ⟨Nat.le_of_ble_eq_true rfl, Nat.le_of_ble_eq_true rfl⟩) rfl hl rfl (Nat.le_of_ble_eq_true rfl) dX1_isSeenInTime_1 ⟨Nat.zero_le _, Nat.zero_le _⟩ hK hN KX_T trivial hP hD hS hA rfl rfl rfl rfl rfl rfl (by decide) rfl rfl (fun H locs hP hD hS => ?_)
  refine lv_lstore_n (lv' := [(2, .long x1), (0, .ref q_a0), (1, .int v1)]) hx hb dX1_isSeenInTime_4 rfl hl (by decide) rfl (fun ls hl => ?_)
  refine lv_lload_n hx hb dX1_isSeenInTime_5 rfl (lv_at hl 0 rfl) ?_
  refine lv_lstore (lv' := [(4, .long x1), (2, .long x1), (0, .ref q_a0), (1, .int v1)]) hx hb dX1_isSeenInTime_6 hl (by decide) rfl (fun ls hl => ?_)
  refine lv_iconst (v := (1 : Int32)) hx hb dX1_isSeenInTime_8 (by decide) ?_
  refine lv_istore (lv' := [(6, .int (1 : Int32)), (4, .long x1), (2, .long x1), (0, .ref q_a0), (1, .int v1)]) hx hb dX1_isSeenInTime_9 hl (by decide) rfl (fun ls hl => ?_)
  exact L11  FU x1 x1 (1 : Int32)  H locs  hP hD hS _ (lv_sub hl [3, 4, 2, 1, 0] rfl) hJ

def J_X1_flickersOf_L35 (a1_count : Int32) (a1_state : Int64) (a1_kinds : Nat → Int32) (a1_wicks : Nat → Int32) (a1_sources : Nat → Int32) (v2 : Int32) (v3 : Int32) : Nat → Int64 → Int64 → Int32 → Int32 → Option (Int32)
  | 0, _, _, _, _ => none
  | nf + 1, v4, v6, v8, v9 =>
    if (256 : Int32) < v9 then (
    some ((-15 : Int32)))
    else (
    bnd1 (J_X2_behindTick a1_count a1_kinds a1_wicks a1_sources v6) fun x46 =>
    if (lg_cmp x46 v6) = 0 then (
    nm (v4 ^^^ v6) fun x65 =>
    nm (x65 >>> (v2.toInt64 &&& 63)) fun x67 =>
    some (v8 - ((x67 &&& (1 : Int64)).toInt32)))
    else (
    nm (v6 ^^^ x46) fun x79 =>
    nm (x79 >>> (v2.toInt64 &&& 63)) fun x81 =>
    nm (v8 + ((x81 &&& (1 : Int64)).toInt32)) fun x85 =>
    nm (v9 + Int32.ofInt 1) fun x92 =>
    J_X1_flickersOf_L35 a1_count a1_state a1_kinds a1_wicks a1_sources v2 v3 nf v4 x46 x85 x92))
def J_X1_flickersOf (a1_count : Int32) (a1_state : Int64) (a1_kinds : Nat → Int32) (a1_wicks : Nat → Int32) (a1_sources : Nat → Int32) (v2 : Int32) (v3 : Int32) : Option (Int32) :=
    bnd1 (J_X2_state a1_state) fun x1 =>
    bnd1 (J_X2_behindTick a1_count a1_kinds a1_wicks a1_sources x1) fun x9 =>
    if (lg_cmp x9 x1) = 0 then (
    nm (x1 ^^^ ((1 : Int64) <<< (v3.toInt64 &&& 63))) fun x26 =>
    J_X1_flickersOf_L35 a1_count a1_state a1_kinds a1_wicks a1_sources v2 v3 FU x1 x26 (0 : Int32) (0 : Int32))
    else (
    some ((-15 : Int32)))
abbrev rmX1_flickersOf : Room := { frames := 2, cells := 0, slots := 0, locals := 54 }
set_option maxHeartbeats 4000000 in
set_option maxRecDepth 100000 in
theorem c_X1_flickersOf (l : Launch) (D : va_G) (cI cJ cC cL : ClassId) (q_t q_t_seen q_a1 q_a1_kinds q_a1_wicks q_a1_sources q_a1_changes : Nat) (a1_count : Int32) (a1_state : Int64) (a1_areLoopsAllowed : Int32) (a1_ticks : Int32) (a1_tickChanges : Int32) (a1_sets : Int32) (a1_kinds : Nat → Int32) (a1_wicks : Nat → Int32) (a1_sources : Nat → Int32) (v2 : Int32) (v3 : Int32) (r : Int32) (hJ : J_X1_flickersOf a1_count a1_state a1_kinds a1_wicks a1_sources v2 v3 = some (r)) (sz : Nat) : Met l yX1_flickersOf wsX1_flickersOf rmX1_flickersOf (va_Pc [.ref q_t, .ref q_a1, .int v2, .int v3] (jpre XT D (tyL cI cJ cC cL) [(q_t, .inr (1, [.ref q_t_seen])), (q_a1, .inr (2, [.int a1_count, .ref q_a1_kinds, .ref q_a1_wicks, .ref q_a1_sources, .ref q_a1_changes, .long a1_state, .int a1_areLoopsAllowed, .int a1_ticks, .int a1_tickChanges, .int a1_sets])), (q_a1_kinds, .inl (cI, 16, .inl a1_kinds)), (q_a1_wicks, .inl (cI, 16, .inl a1_wicks)), (q_a1_sources, .inl (cI, 48, .inl a1_sources))] sz)) (va_Qi (fun r' (_ : Unit) => r' = r) (fun _ t => jpost D (tyL cI cJ cC cL) (va_A [(q_t, .inr (1, [.ref q_t_seen])), (q_a1, .inr (2, [.int a1_count, .ref q_a1_kinds, .ref q_a1_wicks, .ref q_a1_sources, .ref q_a1_changes, .long a1_state, .int a1_areLoopsAllowed, .int a1_ticks, .int a1_tickChanges, .int a1_sets])), (q_a1_kinds, .inl (cI, 16, .inl a1_kinds)), (q_a1_wicks, .inl (cI, 16, .inl a1_wicks)), (q_a1_sources, .inl (cI, 48, .inl a1_sources))] sz) [(q_t, .inr (1, [.ref q_t_seen])), (q_a1, .inr (2, [.int a1_count, .ref q_a1_kinds, .ref q_a1_wicks, .ref q_a1_sources, .ref q_a1_changes, .long a1_state, .int a1_areLoopsAllowed, .int a1_ticks, .int a1_tickChanges, .int a1_sets])), (q_a1_kinds, .inl (cI, 16, .inl a1_kinds)), (q_a1_wicks, .inl (cI, 16, .inl a1_wicks)), (q_a1_sources, .inl (cI, 48, .inl a1_sources))] t) (va_A [(q_t, .inr (1, [.ref q_t_seen])), (q_a1, .inr (2, [.int a1_count, .ref q_a1_kinds, .ref q_a1_wicks, .ref q_a1_sources, .ref q_a1_changes, .long a1_state, .int a1_areLoopsAllowed, .int a1_ticks, .int a1_tickChanges, .int a1_sets])), (q_a1_kinds, .inl (cI, 16, .inl a1_kinds)), (q_a1_wicks, .inl (cI, 16, .inl a1_wicks)), (q_a1_sources, .inl (cI, 48, .inl a1_sources))] sz)) 0 0 (va_A [(q_t, .inr (1, [.ref q_t_seen])), (q_a1, .inr (2, [.int a1_count, .ref q_a1_kinds, .ref q_a1_wicks, .ref q_a1_sources, .ref q_a1_changes, .long a1_state, .int a1_areLoopsAllowed, .int a1_ticks, .int a1_tickChanges, .int a1_sets])), (q_a1_kinds, .inl (cI, 16, .inl a1_kinds)), (q_a1_wicks, .inl (cI, 16, .inl a1_wicks)), (q_a1_sources, .inl (cI, 48, .inl a1_sources))] sz) := by
  refine jE_i (cc := cX1_flickersOf) (maxL := 12) (own := RX1) (ret := (some .int)) (lv0 := [(0, .ref q_t), (1, .ref q_a1), (2, .int v2), (3, .int v3)]) (by decide) rfl rfl rfl (Nat.le_of_ble_eq_true rfl) rfl ?_
  intro p e s m args below meth c A Q ls hx hb hml hown hts hK hN hX hA hP hD hS hl hRet
  have hF : CallFix p m c cX1_flickersOf 12 s args wsX1_flickersOf RX1 := ⟨hx, hb, hml, hown, hts⟩
  have L35 : ∀ (nf : Nat), ∀ (v4 : Int64) (v6 : Int64) (v8 : Int32) (v9 : Int32) (H : Heap) (locs : List Loc), va_P D vwCl [(q_t, .inr (1, [.ref q_t_seen])), (q_a1, .inr (2, [.int a1_count, .ref q_a1_kinds, .ref q_a1_wicks, .ref q_a1_sources, .ref q_a1_changes, .long a1_state, .int a1_areLoopsAllowed, .int a1_ticks, .int a1_tickChanges, .int a1_sets])), (q_a1_kinds, .inl (cI, 16, .inl a1_kinds)), (q_a1_wicks, .inl (cI, 16, .inl a1_wicks)), (q_a1_sources, .inl (cI, 48, .inl a1_sources))] H → va_D A [(q_t, .inr (1, [.ref q_t_seen])), (q_a1, .inr (2, [.int a1_count, .ref q_a1_kinds, .ref q_a1_wicks, .ref q_a1_sources, .ref q_a1_changes, .long a1_state, .int a1_areLoopsAllowed, .int a1_ticks, .int a1_tickChanges, .int a1_sets])), (q_a1_kinds, .inl (cI, 16, .inl a1_kinds)), (q_a1_wicks, .inl (cI, 16, .inl a1_wicks)), (q_a1_sources, .inl (cI, 48, .inl a1_sources))] → va_S A s.heap H locs → ∀ ls : Array Slot, lv_has ls 12 [(1, .ref q_a1), (2, .int v2), (4, .long v4), (6, .long v6), (8, .int v8), (9, .int v9)] → J_X1_flickersOf_L35  a1_count a1_state a1_kinds a1_wicks a1_sources v2 v3 nf v4 v6 v8 v9 = some (r) → W p l e rmX1_flickersOf s m args below meth c H locs 0 0 Q (F0 m 35 ls []) := by
    intro nf
    induction nf with
    | zero =>
      intro v4 v6 v8 v9 H locs hP hD hS ls hl hJ
      rw [J_X1_flickersOf_L35] at hJ
      cases hJ
    | succ nf ih =>
      intro v4 v6 v8 v9 H locs hP hD hS ls hl hJ
      rw [J_X1_flickersOf_L35] at hJ
      refine lv_iload hx hb dX1_flickersOf_35 (lv_at hl 5 rfl) ?_
      refine lv_sipush (v := (256 : Int32)) hx hb dX1_flickersOf_37 (by decide) ?_
      refine jif_icmp_gt (tgt := 98) hx hb dX1_flickersOf_40 (by decide) hJ (fun hJ => ?_) (fun hJ => ?_)
      · refine lv_bipush (v := (-15 : Int32)) hx hb dX1_flickersOf_98 (by decide) ?_
        have e0 := Option.some.inj hJ
        exact hRet hP hD hS e0 dX1_flickersOf_100
      · refine lv_aload_n hx hb dX1_flickersOf_43 rfl (lv_at hl 0 rfl) ?_
        refine lv_lload hx hb dX1_flickersOf_44 (lv_at hl 3 rfl) ?_
        obtain ⟨x46, hc46, hJ⟩ := bnd1_some hJ
        refine jcV_l (C := RX2) (T := TX2) (N := 10) (ci := 2) (q0 := 0) (As := [.long v6]) (rest := []) (isC := [1, 2, 3, 4]) (isR := [0]) (isB := [0, 1, 2, 3, 4]) (wr := [(q_t, .inr (1, [.ref q_t_seen]))]) (ws2 := [(q_t, .inr (1, [.ref q_t_seen])), (q_a1, .inr (2, [.int a1_count, .ref q_a1_kinds, .ref q_a1_wicks, .ref q_a1_sources, .ref q_a1_changes, .long a1_state, .int a1_areLoopsAllowed, .int a1_ticks, .int a1_tickChanges, .int a1_sets])), (q_a1_kinds, .inl (cI, 16, .inl a1_kinds)), (q_a1_wicks, .inl (cI, 16, .inl a1_wicks)), (q_a1_sources, .inl (cI, 48, .inl a1_sources))]) hF (c_X2_behindTick l D cI cJ cC cL q_a1 q_a1_kinds q_a1_wicks q_a1_sources q_a1_changes a1_count a1_state a1_areLoopsAllowed a1_ticks a1_tickChanges a1_sets a1_kinds a1_wicks a1_sources v6 x46 hc46 H.size) (cwV 1 hts gX1_flickersOf_X2_behindTick rfl rfl rfl (by decide +kernel) ⟨Nat.le_of_ble_eq_true rfl, Nat.le_of_ble_eq_true rfl⟩) rfl hl rfl (Nat.le_of_ble_eq_true rfl) dX1_flickersOf_46 ⟨Nat.zero_le _, Nat.zero_le _⟩ hK hN KX_T trivial hP hD hS hA rfl rfl rfl rfl rfl rfl (by decide) rfl rfl (fun H locs hP hD hS => ?_)
        refine lv_lstore (lv' := [(10, .long x46), (1, .ref q_a1), (2, .int v2), (4, .long v4), (6, .long v6), (8, .int v8), (9, .int v9)]) hx hb dX1_flickersOf_49 hl (by decide) rfl (fun ls hl => ?_)
        refine lv_lload hx hb dX1_flickersOf_51 (lv_at hl 0 rfl) ?_
        refine lv_lload hx hb dX1_flickersOf_53 (lv_at hl 4 rfl) ?_
        refine W.lcmp hx hb dX1_flickersOf_55 ?_
        refine jif_ne (tgt := 73) hx hb dX1_flickersOf_56 (by decide) hJ (fun hJ => ?_) (fun hJ => ?_)
        · refine lv_iload hx hb dX1_flickersOf_73 (lv_at hl 5 rfl) ?_
          refine lv_lload hx hb dX1_flickersOf_75 (lv_at hl 4 rfl) ?_
          refine lv_lload hx hb dX1_flickersOf_77 (lv_at hl 0 rfl) ?_
          refine lv_lxor hx hb dX1_flickersOf_79 ?_
          refine jt_l hJ (fun x79 hJ => ?_)
          refine lv_iload_n hx hb dX1_flickersOf_80 rfl (lv_at hl 2 rfl) ?_
          refine lv_lshr (v := x79 >>> (v2.toInt64 &&& 63)) hx hb dX1_flickersOf_81 rfl ?_
          refine jt_l hJ (fun x81 hJ => ?_)
          refine lv_lconst (v := (1 : Int64)) hx hb dX1_flickersOf_82 (by decide) ?_
          refine lv_land hx hb dX1_flickersOf_83 ?_
          refine lv_l2i (v := (x81 &&& (1 : Int64)).toInt32) hx hb dX1_flickersOf_84 rfl ?_
          refine lv_iadd hx hb dX1_flickersOf_85 ?_
          refine jt_i hJ (fun x85 hJ => ?_)
          refine lv_istore (lv' := [(8, .int x85), (10, .long x46), (1, .ref q_a1), (2, .int v2), (4, .long v4), (6, .long v6), (9, .int v9)]) hx hb dX1_flickersOf_86 hl (by decide) rfl (fun ls hl => ?_)
          refine lv_lload hx hb dX1_flickersOf_88 (lv_at hl 1 rfl) ?_
          refine lv_lstore (lv' := [(6, .long x46), (8, .int x85), (10, .long x46), (1, .ref q_a1), (2, .int v2), (4, .long v4), (9, .int v9)]) hx hb dX1_flickersOf_90 hl (by decide) rfl (fun ls hl => ?_)
          refine jt_iinc hJ (fun x92 ex92 hJ => ?_)
          refine lv_iinc (v := x92) (lv' := [(9, .int x92), (6, .long x46), (8, .int x85), (10, .long x46), (1, .ref q_a1), (2, .int v2), (4, .long v4)]) hx hb dX1_flickersOf_92 hl (k := 6) rfl ex92 (by decide) rfl (fun ls hl => ?_)
          refine lv_goto (tgt := 35) hx hb dX1_flickersOf_95 (by decide) ?_
          exact ih v4 x46 x85 x92  H locs  hP hD hS _ (lv_sub hl [4, 5, 6, 1, 2, 0] rfl) hJ
        · refine lv_iload hx hb dX1_flickersOf_59 (lv_at hl 5 rfl) ?_
          refine lv_lload hx hb dX1_flickersOf_61 (lv_at hl 3 rfl) ?_
          refine lv_lload hx hb dX1_flickersOf_63 (lv_at hl 4 rfl) ?_
          refine lv_lxor hx hb dX1_flickersOf_65 ?_
          refine jt_l hJ (fun x65 hJ => ?_)
          refine lv_iload_n hx hb dX1_flickersOf_66 rfl (lv_at hl 2 rfl) ?_
          refine lv_lshr (v := x65 >>> (v2.toInt64 &&& 63)) hx hb dX1_flickersOf_67 rfl ?_
          refine jt_l hJ (fun x67 hJ => ?_)
          refine lv_lconst (v := (1 : Int64)) hx hb dX1_flickersOf_68 (by decide) ?_
          refine lv_land hx hb dX1_flickersOf_69 ?_
          refine lv_l2i (v := (x67 &&& (1 : Int64)).toInt32) hx hb dX1_flickersOf_70 rfl ?_
          refine lv_isub hx hb dX1_flickersOf_71 ?_
          have e0 := Option.some.inj hJ
          exact hRet hP hD hS e0 dX1_flickersOf_72
  unfold J_X1_flickersOf at hJ
  refine lv_aload_n hx hb dX1_flickersOf_0 rfl (lv_at hl 1 rfl) ?_
  obtain ⟨x1, hc1, hJ⟩ := bnd1_some hJ
  refine jcV_l (C := RX2) (T := TX2) (N := 10) (ci := 2) (q0 := 0) (As := []) (rest := []) (isC := [1]) (isR := [0, 2, 3, 4]) (isB := [0, 4, 1, 2, 3]) (wr := [(q_t, .inr (1, [.ref q_t_seen])), (q_a1_kinds, .inl (cI, 16, .inl a1_kinds)), (q_a1_wicks, .inl (cI, 16, .inl a1_wicks)), (q_a1_sources, .inl (cI, 48, .inl a1_sources))]) (ws2 := [(q_t, .inr (1, [.ref q_t_seen])), (q_a1, .inr (2, [.int a1_count, .ref q_a1_kinds, .ref q_a1_wicks, .ref q_a1_sources, .ref q_a1_changes, .long a1_state, .int a1_areLoopsAllowed, .int a1_ticks, .int a1_tickChanges, .int a1_sets])), (q_a1_kinds, .inl (cI, 16, .inl a1_kinds)), (q_a1_wicks, .inl (cI, 16, .inl a1_wicks)), (q_a1_sources, .inl (cI, 48, .inl a1_sources))]) hF (c_X2_state l D cI cJ cC cL q_a1 q_a1_kinds q_a1_wicks q_a1_sources q_a1_changes a1_count a1_state a1_areLoopsAllowed a1_ticks a1_tickChanges a1_sets x1 hc1 s.heap.size) (cwV 0 hts gX1_flickersOf_X2_state rfl rfl rfl (by decide +kernel) ⟨Nat.le_of_ble_eq_true rfl, Nat.le_of_ble_eq_true rfl⟩) rfl hl rfl (Nat.le_of_ble_eq_true rfl) dX1_flickersOf_1 ⟨Nat.zero_le _, Nat.zero_le _⟩ hK hN KX_T trivial hP hD hS hA rfl rfl rfl rfl rfl rfl (by decide) rfl rfl (fun H locs hP hD hS => ?_)
  refine lv_lstore (lv' := [(4, .long x1), (0, .ref q_t), (1, .ref q_a1), (2, .int v2), (3, .int v3)]) hx hb dX1_flickersOf_4 hl (by decide) rfl (fun ls hl => ?_)
  refine lv_aload_n hx hb dX1_flickersOf_6 rfl (lv_at hl 2 rfl) ?_
  refine lv_lload hx hb dX1_flickersOf_7 (lv_at hl 0 rfl) ?_
  obtain ⟨x9, hc9, hJ⟩ := bnd1_some hJ
  refine jcV_l (C := RX2) (T := TX2) (N := 10) (ci := 2) (q0 := 0) (As := [.long x1]) (rest := []) (isC := [1, 2, 3, 4]) (isR := [0]) (isB := [0, 1, 2, 3, 4]) (wr := [(q_t, .inr (1, [.ref q_t_seen]))]) (ws2 := [(q_t, .inr (1, [.ref q_t_seen])), (q_a1, .inr (2, [.int a1_count, .ref q_a1_kinds, .ref q_a1_wicks, .ref q_a1_sources, .ref q_a1_changes, .long a1_state, .int a1_areLoopsAllowed, .int a1_ticks, .int a1_tickChanges, .int a1_sets])), (q_a1_kinds, .inl (cI, 16, .inl a1_kinds)), (q_a1_wicks, .inl (cI, 16, .inl a1_wicks)), (q_a1_sources, .inl (cI, 48, .inl a1_sources))]) hF (c_X2_behindTick l D cI cJ cC cL q_a1 q_a1_kinds q_a1_wicks q_a1_sources q_a1_changes a1_count a1_state a1_areLoopsAllowed a1_ticks a1_tickChanges a1_sets a1_kinds a1_wicks a1_sources x1 x9 hc9 H.size) (cwV 1 hts gX1_flickersOf_X2_behindTick rfl rfl rfl (by decide +kernel) ⟨Nat.le_of_ble_eq_true rfl, Nat.le_of_ble_eq_true rfl⟩) rfl hl rfl (Nat.le_of_ble_eq_true rfl) dX1_flickersOf_9 ⟨Nat.zero_le _, Nat.zero_le _⟩ hK hN KX_T trivial hP hD hS hA rfl rfl rfl rfl rfl rfl (by decide) rfl rfl (fun H locs hP hD hS => ?_)
  refine lv_lload hx hb dX1_flickersOf_12 (lv_at hl 0 rfl) ?_
  refine W.lcmp hx hb dX1_flickersOf_14 ?_
  refine jif_eq (tgt := 21) hx hb dX1_flickersOf_15 (by decide) hJ (fun hJ => ?_) (fun hJ => ?_)
  · refine lv_lload hx hb dX1_flickersOf_21 (lv_at hl 0 rfl) ?_
    refine lv_lconst (v := (1 : Int64)) hx hb dX1_flickersOf_23 (by decide) ?_
    refine lv_iload_n hx hb dX1_flickersOf_24 rfl (lv_at hl 4 rfl) ?_
    refine lv_lshl (v := (1 : Int64) <<< (v3.toInt64 &&& 63)) hx hb dX1_flickersOf_25 rfl ?_
    refine lv_lxor hx hb dX1_flickersOf_26 ?_
    refine jt_l hJ (fun x26 hJ => ?_)
    refine lv_lstore (lv' := [(6, .long x26), (4, .long x1), (0, .ref q_t), (1, .ref q_a1), (2, .int v2), (3, .int v3)]) hx hb dX1_flickersOf_27 hl (by decide) rfl (fun ls hl => ?_)
    refine lv_iconst (v := (0 : Int32)) hx hb dX1_flickersOf_29 (by decide) ?_
    refine lv_istore (lv' := [(8, .int (0 : Int32)), (6, .long x26), (4, .long x1), (0, .ref q_t), (1, .ref q_a1), (2, .int v2), (3, .int v3)]) hx hb dX1_flickersOf_30 hl (by decide) rfl (fun ls hl => ?_)
    refine lv_iconst (v := (0 : Int32)) hx hb dX1_flickersOf_32 (by decide) ?_
    refine lv_istore (lv' := [(9, .int (0 : Int32)), (8, .int (0 : Int32)), (6, .long x26), (4, .long x1), (0, .ref q_t), (1, .ref q_a1), (2, .int v2), (3, .int v3)]) hx hb dX1_flickersOf_33 hl (by decide) rfl (fun ls hl => ?_)
    exact L35  FU x1 x26 (0 : Int32) (0 : Int32)  H locs  hP hD hS _ (lv_sub hl [5, 6, 3, 2, 1, 0] rfl) hJ
  · refine lv_bipush (v := (-15 : Int32)) hx hb dX1_flickersOf_18 (by decide) ?_
    have e0 := Option.some.inj hJ
    exact hRet hP hD hS e0 dX1_flickersOf_20

def J_X0_byWires (t_known : Nat → Int32) (a1_count : Int32) (a1_kinds : Nat → Int32) (a1_wicks : Nat → Int32) (a1_sources : Nat → Int32) (v2 : Int32) : Option (Int32 × (Nat → Int32)) :=
    bnd1 (J_J7_fill_53178 16 t_known (-1 : Int32)) fun t_known_5 =>
    bnd2 (J_X0_below 20 a1_count a1_kinds a1_wicks a1_sources t_known_5 v2 (0 : Int32)) fun x15 t_known_15 =>
    some (x15, t_known_15)
abbrev rmX0_byWires : Room := { frames := 24, cells := 0, slots := 0, locals := 631 }
set_option maxHeartbeats 4000000 in
set_option maxRecDepth 100000 in
theorem c_X0_byWires (l : Launch) (D : va_G) (cI cJ cC cL : ClassId) (q_t q_t_known q_a1 q_a1_kinds q_a1_wicks q_a1_sources q_a1_changes : Nat) (t_known : Nat → Int32) (a1_count : Int32) (a1_state : Int64) (a1_areLoopsAllowed : Int32) (a1_ticks : Int32) (a1_tickChanges : Int32) (a1_sets : Int32) (a1_kinds : Nat → Int32) (a1_wicks : Nat → Int32) (a1_sources : Nat → Int32) (v2 : Int32) (r : Int32) (o_t_known : Nat → Int32) (hJ : J_X0_byWires t_known a1_count a1_kinds a1_wicks a1_sources v2 = some (r, o_t_known)) (sz : Nat) : Met l yX0_byWires wsX0_byWires rmX0_byWires (va_Pc [.ref q_t, .ref q_a1, .int v2] (jpre XT D (tyL cI cJ cC cL) [(q_t, .inr (0, [.ref q_t_known])), (q_t_known, .inl (cI, 16, .inl t_known)), (q_a1, .inr (2, [.int a1_count, .ref q_a1_kinds, .ref q_a1_wicks, .ref q_a1_sources, .ref q_a1_changes, .long a1_state, .int a1_areLoopsAllowed, .int a1_ticks, .int a1_tickChanges, .int a1_sets])), (q_a1_kinds, .inl (cI, 16, .inl a1_kinds)), (q_a1_wicks, .inl (cI, 16, .inl a1_wicks)), (q_a1_sources, .inl (cI, 48, .inl a1_sources))] sz)) (va_Qi (fun r' (_ : Unit) => r' = r) (fun _ t => jpost D (tyL cI cJ cC cL) (va_A [(q_t, .inr (0, [.ref q_t_known])), (q_t_known, .inl (cI, 16, .inl t_known)), (q_a1, .inr (2, [.int a1_count, .ref q_a1_kinds, .ref q_a1_wicks, .ref q_a1_sources, .ref q_a1_changes, .long a1_state, .int a1_areLoopsAllowed, .int a1_ticks, .int a1_tickChanges, .int a1_sets])), (q_a1_kinds, .inl (cI, 16, .inl a1_kinds)), (q_a1_wicks, .inl (cI, 16, .inl a1_wicks)), (q_a1_sources, .inl (cI, 48, .inl a1_sources))] sz) [(q_t, .inr (0, [.ref q_t_known])), (q_t_known, .inl (cI, 16, .inl o_t_known)), (q_a1, .inr (2, [.int a1_count, .ref q_a1_kinds, .ref q_a1_wicks, .ref q_a1_sources, .ref q_a1_changes, .long a1_state, .int a1_areLoopsAllowed, .int a1_ticks, .int a1_tickChanges, .int a1_sets])), (q_a1_kinds, .inl (cI, 16, .inl a1_kinds)), (q_a1_wicks, .inl (cI, 16, .inl a1_wicks)), (q_a1_sources, .inl (cI, 48, .inl a1_sources))] t) (va_A [(q_t, .inr (0, [.ref q_t_known])), (q_t_known, .inl (cI, 16, .inl t_known)), (q_a1, .inr (2, [.int a1_count, .ref q_a1_kinds, .ref q_a1_wicks, .ref q_a1_sources, .ref q_a1_changes, .long a1_state, .int a1_areLoopsAllowed, .int a1_ticks, .int a1_tickChanges, .int a1_sets])), (q_a1_kinds, .inl (cI, 16, .inl a1_kinds)), (q_a1_wicks, .inl (cI, 16, .inl a1_wicks)), (q_a1_sources, .inl (cI, 48, .inl a1_sources))] sz)) 0 0 (va_A [(q_t, .inr (0, [.ref q_t_known])), (q_t_known, .inl (cI, 16, .inl t_known)), (q_a1, .inr (2, [.int a1_count, .ref q_a1_kinds, .ref q_a1_wicks, .ref q_a1_sources, .ref q_a1_changes, .long a1_state, .int a1_areLoopsAllowed, .int a1_ticks, .int a1_tickChanges, .int a1_sets])), (q_a1_kinds, .inl (cI, 16, .inl a1_kinds)), (q_a1_wicks, .inl (cI, 16, .inl a1_wicks)), (q_a1_sources, .inl (cI, 48, .inl a1_sources))] sz) := by
  refine jE_i (cc := cX0_byWires) (maxL := 3) (own := RX0) (ret := (some .int)) (lv0 := [(0, .ref q_t), (1, .ref q_a1), (2, .int v2)]) (by decide) rfl rfl rfl (Nat.le_of_ble_eq_true rfl) rfl ?_
  intro p e s m args below meth c A Q ls hx hb hml hown hts hK hN hX hA hP hD hS hl hRet
  have hF : CallFix p m c cX0_byWires 3 s args wsX0_byWires RX0 := ⟨hx, hb, hml, hown, hts⟩
  have fl_9 := hts (.fieldLink RX0 9 "LanternLogic$Depths" "known" "[I") (by decide +kernel)
  have hin_X0 : ∀ w ∈ u_ws RX0 TX0 1, w ∈ wsX0_byWires := by decide +kernel
  unfold J_X0_byWires at hJ
  refine lv_aload_n hx hb dX0_byWires_0 rfl (lv_at hl 0 rfl) ?_
  refine va_get (ci := 0) (v := .ref q_t_known) (C := RX0) (T := TX0) (N := 1) hx hb hts hin_X0 hown hK hP 0 rfl rfl 0 (by decide) fl_9 (fun _ h9 => h9) rfl dX0_byWires_1 ?_
  refine lv_iconst (v := (-1 : Int32)) hx hb dX0_byWires_4 (by decide) ?_
  obtain ⟨t_known_5, hc5, hJ⟩ := bnd1_some hJ
  refine jcS_v (As := [.ref q_t_known, .int (-1 : Int32)]) (rest := []) (isC := [1]) (isR := [0, 2, 3, 4, 5]) (isB := [0, 5, 1, 2, 3, 4]) (wr := [(q_t, .inr (0, [.ref q_t_known])), (q_a1, .inr (2, [.int a1_count, .ref q_a1_kinds, .ref q_a1_wicks, .ref q_a1_sources, .ref q_a1_changes, .long a1_state, .int a1_areLoopsAllowed, .int a1_ticks, .int a1_tickChanges, .int a1_sets])), (q_a1_kinds, .inl (cI, 16, .inl a1_kinds)), (q_a1_wicks, .inl (cI, 16, .inl a1_wicks)), (q_a1_sources, .inl (cI, 48, .inl a1_sources))]) (ws2 := [(q_t, .inr (0, [.ref q_t_known])), (q_t_known, .inl (cI, 16, .inl t_known_5)), (q_a1, .inr (2, [.int a1_count, .ref q_a1_kinds, .ref q_a1_wicks, .ref q_a1_sources, .ref q_a1_changes, .long a1_state, .int a1_areLoopsAllowed, .int a1_ticks, .int a1_tickChanges, .int a1_sets])), (q_a1_kinds, .inl (cI, 16, .inl a1_kinds)), (q_a1_wicks, .inl (cI, 16, .inl a1_wicks)), (q_a1_sources, .inl (cI, 48, .inl a1_sources))]) hF (c_J7_fill_53178 l D cI cJ cC cL 16 q_t_known t_known (-1 : Int32) t_known_5 hc5 s.heap.size) (va_cwS 2 hts gX0_byWires_J7_fill_53178 rfl rfl rfl (by decide +kernel) ⟨Nat.le_of_ble_eq_true rfl, Nat.le_of_ble_eq_true rfl⟩) rfl hl rfl (Nat.le_of_ble_eq_true rfl) dX0_byWires_5 ⟨Nat.zero_le _, Nat.zero_le _⟩ hK hN KX_T trivial hP hD hS hA rfl rfl rfl rfl (by decide) rfl rfl (fun H locs hP hD hS => ?_)
  refine lv_aload_n hx hb dX0_byWires_8 rfl (lv_at hl 1 rfl) ?_
  refine lv_iload_n hx hb dX0_byWires_9 rfl (lv_at hl 2 rfl) ?_
  refine lv_aload_n hx hb dX0_byWires_10 rfl (lv_at hl 0 rfl) ?_
  refine va_get (ci := 0) (v := .ref q_t_known) (C := RX0) (T := TX0) (N := 1) hx hb hts hin_X0 hown hK hP 0 rfl rfl 0 (by decide) fl_9 (fun _ h9 => h9) rfl dX0_byWires_11 ?_
  refine lv_iconst (v := (0 : Int32)) hx hb dX0_byWires_14 (by decide) ?_
  obtain ⟨x15, t_known_15, hc15, hJ⟩ := bnd2_some hJ
  refine jcS_i (As := [.ref q_a1, .int v2, .ref q_t_known, .int (0 : Int32)]) (rest := []) (isC := [2, 3, 4, 5, 1]) (isR := [0]) (isB := [0, 5, 1, 2, 3, 4]) (wr := [(q_t, .inr (0, [.ref q_t_known]))]) (ws2 := [(q_t, .inr (0, [.ref q_t_known])), (q_t_known, .inl (cI, 16, .inl t_known_15)), (q_a1, .inr (2, [.int a1_count, .ref q_a1_kinds, .ref q_a1_wicks, .ref q_a1_sources, .ref q_a1_changes, .long a1_state, .int a1_areLoopsAllowed, .int a1_ticks, .int a1_tickChanges, .int a1_sets])), (q_a1_kinds, .inl (cI, 16, .inl a1_kinds)), (q_a1_wicks, .inl (cI, 16, .inl a1_wicks)), (q_a1_sources, .inl (cI, 48, .inl a1_sources))]) hF (c_X0_below l D cI cJ cC cL q_a1 q_a1_kinds q_a1_wicks q_a1_sources q_a1_changes q_t_known a1_count a1_state a1_areLoopsAllowed a1_ticks a1_tickChanges a1_sets a1_kinds a1_wicks a1_sources t_known_5 v2 (0 : Int32) x15 t_known_15 hc15 H.size) (va_cwS 4 hts gX0_byWires_X0_below rfl rfl rfl (by decide +kernel) ⟨Nat.le_of_ble_eq_true rfl, Nat.le_of_ble_eq_true rfl⟩) rfl hl rfl (Nat.le_of_ble_eq_true rfl) dX0_byWires_15 ⟨Nat.zero_le _, Nat.zero_le _⟩ hK hN KX_T trivial hP hD hS hA rfl rfl rfl rfl (by decide) rfl rfl (fun H locs hP hD hS => ?_)
  have hJ := Option.some.inj hJ
  obtain ⟨e0, e1⟩ : (x15) = r ∧ (t_known_15) = o_t_known := ⟨congrArg (fun z => z.1) hJ, congrArg (fun z => z.2) hJ⟩
  exact hRet (by rw [← e1]; exact hP) (by rw [← e1]; exact hD) hS e0 dX0_byWires_18

def J_X0_byRounds_b66 (a1_count : Int32) (a1_kinds : Nat → Int32) (a1_wicks : Nat → Int32) (a1_sources : Nat → Int32) (v2 : Int32) (t_known : Nat → Int32) (s66_0 : Int32) : Option (Int32 × (Nat → Int32)) :=
    some (s66_0, t_known)
def J_X0_byRounds_b50 (a1_count : Int32) (a1_kinds : Nat → Int32) (a1_wicks : Nat → Int32) (a1_sources : Nat → Int32) (v2 : Int32) (t_known : Nat → Int32) (s50_0 : Int32) : Option (Int32 × (Nat → Int32)) :=
    if s50_0 = 0 then (
    J_X0_byRounds_b66 a1_count a1_kinds a1_wicks a1_sources v2 t_known (-15 : Int32))
    else (
    chk v2 16 (
    nm (t_known v2.toNatClampNeg) fun x60 =>
    J_X0_byRounds_b66 a1_count a1_kinds a1_wicks a1_sources v2 t_known x60))
def J_X0_byRounds_b49 (a1_count : Int32) (a1_kinds : Nat → Int32) (a1_wicks : Nat → Int32) (a1_sources : Nat → Int32) (v2 : Int32) (t_known : Nat → Int32) : Option (Int32 × (Nat → Int32)) :=
    J_X0_byRounds_b50 a1_count a1_kinds a1_wicks a1_sources v2 t_known (0 : Int32)
def J_X0_byRounds_L10 (a1_count : Int32) (a1_kinds : Nat → Int32) (a1_wicks : Nat → Int32) (a1_sources : Nat → Int32) (v2 : Int32) : Nat → (Nat → Int32) → Int32 → Option (Int32 × (Nat → Int32))
  | 0, _, _ => none
  | nf + 1, t_known, v3 =>
    if (16 : Int32) ≤ v3 then (
    bnd1 (J_X2_isHung a1_count v2) fun x29 =>
    if x29 = 0 then (
    J_X0_byRounds_b49 a1_count a1_kinds a1_wicks a1_sources v2 t_known)
    else (
    chk v2 16 (
    nm (t_known v2.toNatClampNeg) fun x40 =>
    if x40 = (-1 : Int32) then (
    J_X0_byRounds_b49 a1_count a1_kinds a1_wicks a1_sources v2 t_known)
    else (
    J_X0_byRounds_b50 a1_count a1_kinds a1_wicks a1_sources v2 t_known (1 : Int32)))))
    else (
    bnd1 (J_X0_lookAtAll t_known a1_count a1_kinds a1_wicks a1_sources) fun t_known_18 =>
    nm (v3 + Int32.ofInt 1) fun x21 =>
    J_X0_byRounds_L10 a1_count a1_kinds a1_wicks a1_sources v2 nf t_known_18 x21)
def J_X0_byRounds (t_known : Nat → Int32) (a1_count : Int32) (a1_kinds : Nat → Int32) (a1_wicks : Nat → Int32) (a1_sources : Nat → Int32) (v2 : Int32) : Option (Int32 × (Nat → Int32)) :=
    bnd1 (J_J7_fill_53178 16 t_known (-1 : Int32)) fun t_known_5 =>
    J_X0_byRounds_L10 a1_count a1_kinds a1_wicks a1_sources v2 FU t_known_5 (0 : Int32)
abbrev rmX0_byRounds : Room := { frames := 4, cells := 0, slots := 0, locals := 87 }
set_option maxHeartbeats 4000000 in
set_option maxRecDepth 100000 in
theorem c_X0_byRounds (l : Launch) (D : va_G) (cI cJ cC cL : ClassId) (q_t q_t_known q_a1 q_a1_kinds q_a1_wicks q_a1_sources q_a1_changes : Nat) (t_known : Nat → Int32) (a1_count : Int32) (a1_state : Int64) (a1_areLoopsAllowed : Int32) (a1_ticks : Int32) (a1_tickChanges : Int32) (a1_sets : Int32) (a1_kinds : Nat → Int32) (a1_wicks : Nat → Int32) (a1_sources : Nat → Int32) (v2 : Int32) (r : Int32) (o_t_known : Nat → Int32) (hJ : J_X0_byRounds t_known a1_count a1_kinds a1_wicks a1_sources v2 = some (r, o_t_known)) (sz : Nat) : Met l yX0_byRounds wsX0_byRounds rmX0_byRounds (va_Pc [.ref q_t, .ref q_a1, .int v2] (jpre XT D (tyL cI cJ cC cL) [(q_t, .inr (0, [.ref q_t_known])), (q_t_known, .inl (cI, 16, .inl t_known)), (q_a1, .inr (2, [.int a1_count, .ref q_a1_kinds, .ref q_a1_wicks, .ref q_a1_sources, .ref q_a1_changes, .long a1_state, .int a1_areLoopsAllowed, .int a1_ticks, .int a1_tickChanges, .int a1_sets])), (q_a1_kinds, .inl (cI, 16, .inl a1_kinds)), (q_a1_wicks, .inl (cI, 16, .inl a1_wicks)), (q_a1_sources, .inl (cI, 48, .inl a1_sources))] sz)) (va_Qi (fun r' (_ : Unit) => r' = r) (fun _ t => jpost D (tyL cI cJ cC cL) (va_A [(q_t, .inr (0, [.ref q_t_known])), (q_t_known, .inl (cI, 16, .inl t_known)), (q_a1, .inr (2, [.int a1_count, .ref q_a1_kinds, .ref q_a1_wicks, .ref q_a1_sources, .ref q_a1_changes, .long a1_state, .int a1_areLoopsAllowed, .int a1_ticks, .int a1_tickChanges, .int a1_sets])), (q_a1_kinds, .inl (cI, 16, .inl a1_kinds)), (q_a1_wicks, .inl (cI, 16, .inl a1_wicks)), (q_a1_sources, .inl (cI, 48, .inl a1_sources))] sz) [(q_t, .inr (0, [.ref q_t_known])), (q_t_known, .inl (cI, 16, .inl o_t_known)), (q_a1, .inr (2, [.int a1_count, .ref q_a1_kinds, .ref q_a1_wicks, .ref q_a1_sources, .ref q_a1_changes, .long a1_state, .int a1_areLoopsAllowed, .int a1_ticks, .int a1_tickChanges, .int a1_sets])), (q_a1_kinds, .inl (cI, 16, .inl a1_kinds)), (q_a1_wicks, .inl (cI, 16, .inl a1_wicks)), (q_a1_sources, .inl (cI, 48, .inl a1_sources))] t) (va_A [(q_t, .inr (0, [.ref q_t_known])), (q_t_known, .inl (cI, 16, .inl t_known)), (q_a1, .inr (2, [.int a1_count, .ref q_a1_kinds, .ref q_a1_wicks, .ref q_a1_sources, .ref q_a1_changes, .long a1_state, .int a1_areLoopsAllowed, .int a1_ticks, .int a1_tickChanges, .int a1_sets])), (q_a1_kinds, .inl (cI, 16, .inl a1_kinds)), (q_a1_wicks, .inl (cI, 16, .inl a1_wicks)), (q_a1_sources, .inl (cI, 48, .inl a1_sources))] sz)) 0 0 (va_A [(q_t, .inr (0, [.ref q_t_known])), (q_t_known, .inl (cI, 16, .inl t_known)), (q_a1, .inr (2, [.int a1_count, .ref q_a1_kinds, .ref q_a1_wicks, .ref q_a1_sources, .ref q_a1_changes, .long a1_state, .int a1_areLoopsAllowed, .int a1_ticks, .int a1_tickChanges, .int a1_sets])), (q_a1_kinds, .inl (cI, 16, .inl a1_kinds)), (q_a1_wicks, .inl (cI, 16, .inl a1_wicks)), (q_a1_sources, .inl (cI, 48, .inl a1_sources))] sz) := by
  refine jE_i (cc := cX0_byRounds) (maxL := 4) (own := RX0) (ret := (some .int)) (lv0 := [(0, .ref q_t), (1, .ref q_a1), (2, .int v2)]) (by decide) rfl rfl rfl (Nat.le_of_ble_eq_true rfl) rfl ?_
  intro p e s m args below meth c A Q ls hx hb hml hown hts hK hN hX hA hP hD hS hl hRet
  have hF : CallFix p m c cX0_byRounds 4 s args wsX0_byRounds RX0 := ⟨hx, hb, hml, hown, hts⟩
  have fl_9 := hts (.fieldLink RX0 9 "LanternLogic$Depths" "known" "[I") (by decide +kernel)
  have hin_X0 : ∀ w ∈ u_ws RX0 TX0 1, w ∈ wsX0_byRounds := by decide +kernel
  have B66 : ∀ (t_known : Nat → Int32) (s66_0 : Int32) (H : Heap) (locs : List Loc), va_P D vwCl [(q_t, .inr (0, [.ref q_t_known])), (q_t_known, .inl (cI, 16, .inl t_known)), (q_a1, .inr (2, [.int a1_count, .ref q_a1_kinds, .ref q_a1_wicks, .ref q_a1_sources, .ref q_a1_changes, .long a1_state, .int a1_areLoopsAllowed, .int a1_ticks, .int a1_tickChanges, .int a1_sets])), (q_a1_kinds, .inl (cI, 16, .inl a1_kinds)), (q_a1_wicks, .inl (cI, 16, .inl a1_wicks)), (q_a1_sources, .inl (cI, 48, .inl a1_sources))] H → va_D A [(q_t, .inr (0, [.ref q_t_known])), (q_t_known, .inl (cI, 16, .inl t_known)), (q_a1, .inr (2, [.int a1_count, .ref q_a1_kinds, .ref q_a1_wicks, .ref q_a1_sources, .ref q_a1_changes, .long a1_state, .int a1_areLoopsAllowed, .int a1_ticks, .int a1_tickChanges, .int a1_sets])), (q_a1_kinds, .inl (cI, 16, .inl a1_kinds)), (q_a1_wicks, .inl (cI, 16, .inl a1_wicks)), (q_a1_sources, .inl (cI, 48, .inl a1_sources))] → va_S A s.heap H locs → ∀ ls : Array Slot, lv_has ls 4 [] → J_X0_byRounds_b66  a1_count a1_kinds a1_wicks a1_sources v2 t_known s66_0 = some (r, o_t_known) → W p l e rmX0_byRounds s m args below meth c H locs 0 0 Q (F0 m 66 ls [.int s66_0]) := by
    intro t_known s66_0 H locs hP hD hS ls hl hJ
    unfold J_X0_byRounds_b66 at hJ
    have hJ := Option.some.inj hJ
    obtain ⟨e0, e1⟩ : (s66_0) = r ∧ (t_known) = o_t_known := ⟨congrArg (fun z => z.1) hJ, congrArg (fun z => z.2) hJ⟩
    exact hRet (by rw [← e1]; exact hP) (by rw [← e1]; exact hD) hS e0 dX0_byRounds_66
  have B50 : ∀ (t_known : Nat → Int32) (s50_0 : Int32) (H : Heap) (locs : List Loc), va_P D vwCl [(q_t, .inr (0, [.ref q_t_known])), (q_t_known, .inl (cI, 16, .inl t_known)), (q_a1, .inr (2, [.int a1_count, .ref q_a1_kinds, .ref q_a1_wicks, .ref q_a1_sources, .ref q_a1_changes, .long a1_state, .int a1_areLoopsAllowed, .int a1_ticks, .int a1_tickChanges, .int a1_sets])), (q_a1_kinds, .inl (cI, 16, .inl a1_kinds)), (q_a1_wicks, .inl (cI, 16, .inl a1_wicks)), (q_a1_sources, .inl (cI, 48, .inl a1_sources))] H → va_D A [(q_t, .inr (0, [.ref q_t_known])), (q_t_known, .inl (cI, 16, .inl t_known)), (q_a1, .inr (2, [.int a1_count, .ref q_a1_kinds, .ref q_a1_wicks, .ref q_a1_sources, .ref q_a1_changes, .long a1_state, .int a1_areLoopsAllowed, .int a1_ticks, .int a1_tickChanges, .int a1_sets])), (q_a1_kinds, .inl (cI, 16, .inl a1_kinds)), (q_a1_wicks, .inl (cI, 16, .inl a1_wicks)), (q_a1_sources, .inl (cI, 48, .inl a1_sources))] → va_S A s.heap H locs → ∀ ls : Array Slot, lv_has ls 4 [(0, .ref q_t), (2, .int v2)] → J_X0_byRounds_b50  a1_count a1_kinds a1_wicks a1_sources v2 t_known s50_0 = some (r, o_t_known) → W p l e rmX0_byRounds s m args below meth c H locs 0 0 Q (F0 m 50 ls [.int s50_0]) := by
    intro t_known s50_0 H locs hP hD hS ls hl hJ
    unfold J_X0_byRounds_b50 at hJ
    refine lv_istore_n (lv' := [(3, .int s50_0), (0, .ref q_t), (2, .int v2)]) hx hb dX0_byRounds_50 rfl hl (by decide) rfl (fun ls hl => ?_)
    refine lv_iload_n hx hb dX0_byRounds_51 rfl (lv_at hl 0 rfl) ?_
    refine jif_eq (tgt := 64) hx hb dX0_byRounds_52 (by decide) hJ (fun hJ => ?_) (fun hJ => ?_)
    · refine lv_bipush (v := (-15 : Int32)) hx hb dX0_byRounds_64 (by decide) ?_
      exact B66  t_known (-15 : Int32)  H locs  hP hD hS _ (lv_sub hl [] rfl) hJ
    · refine lv_aload_n hx hb dX0_byRounds_55 rfl (lv_at hl 1 rfl) ?_
      refine va_get (ci := 0) (v := .ref q_t_known) (C := RX0) (T := TX0) (N := 1) hx hb hts hin_X0 hown hK hP 0 rfl rfl 0 (by decide) fl_9 (fun _ h9 => h9) rfl dX0_byRounds_56 ?_
      refine lv_iload_n hx hb dX0_byRounds_59 rfl (lv_at hl 2 rfl) ?_
      obtain ⟨hin, hJ⟩ := chk_in hJ
      refine va_iald hx hb hK hP 1 0 rfl rfl hin dX0_byRounds_60 ?_
      refine jt_i hJ (fun x60 hJ => ?_)
      refine lv_goto (tgt := 66) hx hb dX0_byRounds_61 (by decide) ?_
      exact B66  t_known x60  H locs  hP hD hS _ (lv_sub hl [] rfl) hJ
  have B49 : ∀ (t_known : Nat → Int32) (H : Heap) (locs : List Loc), va_P D vwCl [(q_t, .inr (0, [.ref q_t_known])), (q_t_known, .inl (cI, 16, .inl t_known)), (q_a1, .inr (2, [.int a1_count, .ref q_a1_kinds, .ref q_a1_wicks, .ref q_a1_sources, .ref q_a1_changes, .long a1_state, .int a1_areLoopsAllowed, .int a1_ticks, .int a1_tickChanges, .int a1_sets])), (q_a1_kinds, .inl (cI, 16, .inl a1_kinds)), (q_a1_wicks, .inl (cI, 16, .inl a1_wicks)), (q_a1_sources, .inl (cI, 48, .inl a1_sources))] H → va_D A [(q_t, .inr (0, [.ref q_t_known])), (q_t_known, .inl (cI, 16, .inl t_known)), (q_a1, .inr (2, [.int a1_count, .ref q_a1_kinds, .ref q_a1_wicks, .ref q_a1_sources, .ref q_a1_changes, .long a1_state, .int a1_areLoopsAllowed, .int a1_ticks, .int a1_tickChanges, .int a1_sets])), (q_a1_kinds, .inl (cI, 16, .inl a1_kinds)), (q_a1_wicks, .inl (cI, 16, .inl a1_wicks)), (q_a1_sources, .inl (cI, 48, .inl a1_sources))] → va_S A s.heap H locs → ∀ ls : Array Slot, lv_has ls 4 [(0, .ref q_t), (2, .int v2)] → J_X0_byRounds_b49  a1_count a1_kinds a1_wicks a1_sources v2 t_known = some (r, o_t_known) → W p l e rmX0_byRounds s m args below meth c H locs 0 0 Q (F0 m 49 ls []) := by
    intro t_known H locs hP hD hS ls hl hJ
    unfold J_X0_byRounds_b49 at hJ
    refine lv_iconst (v := (0 : Int32)) hx hb dX0_byRounds_49 (by decide) ?_
    exact B50  t_known (0 : Int32)  H locs  hP hD hS _ (lv_sub hl [0, 1] rfl) hJ
  have L10 : ∀ (nf : Nat), ∀ (t_known : Nat → Int32) (v3 : Int32) (H : Heap) (locs : List Loc), va_P D vwCl [(q_t, .inr (0, [.ref q_t_known])), (q_t_known, .inl (cI, 16, .inl t_known)), (q_a1, .inr (2, [.int a1_count, .ref q_a1_kinds, .ref q_a1_wicks, .ref q_a1_sources, .ref q_a1_changes, .long a1_state, .int a1_areLoopsAllowed, .int a1_ticks, .int a1_tickChanges, .int a1_sets])), (q_a1_kinds, .inl (cI, 16, .inl a1_kinds)), (q_a1_wicks, .inl (cI, 16, .inl a1_wicks)), (q_a1_sources, .inl (cI, 48, .inl a1_sources))] H → va_D A [(q_t, .inr (0, [.ref q_t_known])), (q_t_known, .inl (cI, 16, .inl t_known)), (q_a1, .inr (2, [.int a1_count, .ref q_a1_kinds, .ref q_a1_wicks, .ref q_a1_sources, .ref q_a1_changes, .long a1_state, .int a1_areLoopsAllowed, .int a1_ticks, .int a1_tickChanges, .int a1_sets])), (q_a1_kinds, .inl (cI, 16, .inl a1_kinds)), (q_a1_wicks, .inl (cI, 16, .inl a1_wicks)), (q_a1_sources, .inl (cI, 48, .inl a1_sources))] → va_S A s.heap H locs → ∀ ls : Array Slot, lv_has ls 4 [(0, .ref q_t), (1, .ref q_a1), (2, .int v2), (3, .int v3)] → J_X0_byRounds_L10  a1_count a1_kinds a1_wicks a1_sources v2 nf t_known v3 = some (r, o_t_known) → W p l e rmX0_byRounds s m args below meth c H locs 0 0 Q (F0 m 10 ls []) := by
    intro nf
    induction nf with
    | zero =>
      intro t_known v3 H locs hP hD hS ls hl hJ
      rw [J_X0_byRounds_L10] at hJ
      cases hJ
    | succ nf ih =>
      intro t_known v3 H locs hP hD hS ls hl hJ
      rw [J_X0_byRounds_L10] at hJ
      refine lv_iload_n hx hb dX0_byRounds_10 rfl (lv_at hl 3 rfl) ?_
      refine lv_bipush (v := (16 : Int32)) hx hb dX0_byRounds_11 (by decide) ?_
      refine jif_icmp_ge (tgt := 27) hx hb dX0_byRounds_13 (by decide) hJ (fun hJ => ?_) (fun hJ => ?_)
      · refine lv_aload_n hx hb dX0_byRounds_27 rfl (lv_at hl 1 rfl) ?_
        refine lv_iload_n hx hb dX0_byRounds_28 rfl (lv_at hl 2 rfl) ?_
        obtain ⟨x29, hc29, hJ⟩ := bnd1_some hJ
        refine jcV_i (C := RX2) (T := TX2) (N := 10) (ci := 2) (q0 := 0) (As := [.int v2]) (rest := []) (isC := [2]) (isR := [0, 1, 3, 4, 5]) (isB := [0, 1, 5, 2, 3, 4]) (wr := [(q_t, .inr (0, [.ref q_t_known])), (q_t_known, .inl (cI, 16, .inl t_known)), (q_a1_kinds, .inl (cI, 16, .inl a1_kinds)), (q_a1_wicks, .inl (cI, 16, .inl a1_wicks)), (q_a1_sources, .inl (cI, 48, .inl a1_sources))]) (ws2 := [(q_t, .inr (0, [.ref q_t_known])), (q_t_known, .inl (cI, 16, .inl t_known)), (q_a1, .inr (2, [.int a1_count, .ref q_a1_kinds, .ref q_a1_wicks, .ref q_a1_sources, .ref q_a1_changes, .long a1_state, .int a1_areLoopsAllowed, .int a1_ticks, .int a1_tickChanges, .int a1_sets])), (q_a1_kinds, .inl (cI, 16, .inl a1_kinds)), (q_a1_wicks, .inl (cI, 16, .inl a1_wicks)), (q_a1_sources, .inl (cI, 48, .inl a1_sources))]) hF (c_X2_isHung l D cI cJ cC cL q_a1 q_a1_kinds q_a1_wicks q_a1_sources q_a1_changes a1_count a1_state a1_areLoopsAllowed a1_ticks a1_tickChanges a1_sets v2 x29 hc29 H.size) (cwV 1 hts gX0_byRounds_X2_isHung rfl rfl rfl (by decide +kernel) ⟨Nat.le_of_ble_eq_true rfl, Nat.le_of_ble_eq_true rfl⟩) rfl hl rfl (Nat.le_of_ble_eq_true rfl) dX0_byRounds_29 ⟨Nat.zero_le _, Nat.zero_le _⟩ hK hN KX_T trivial hP hD hS hA rfl rfl rfl rfl rfl rfl (by decide) rfl rfl (fun H locs hP hD hS => ?_)
        refine jif_eq (tgt := 49) hx hb dX0_byRounds_32 (by decide) hJ (fun hJ => ?_) (fun hJ => ?_)
        · exact B49  t_known  H locs  hP hD hS _ (lv_sub hl [0, 2] rfl) hJ
        · refine lv_aload_n hx hb dX0_byRounds_35 rfl (lv_at hl 0 rfl) ?_
          refine va_get (ci := 0) (v := .ref q_t_known) (C := RX0) (T := TX0) (N := 1) hx hb hts hin_X0 hown hK hP 0 rfl rfl 0 (by decide) fl_9 (fun _ h9 => h9) rfl dX0_byRounds_36 ?_
          refine lv_iload_n hx hb dX0_byRounds_39 rfl (lv_at hl 2 rfl) ?_
          obtain ⟨hin, hJ⟩ := chk_in hJ
          refine va_iald hx hb hK hP 1 0 rfl rfl hin dX0_byRounds_40 ?_
          refine jt_i hJ (fun x40 hJ => ?_)
          refine lv_iconst (v := (-1 : Int32)) hx hb dX0_byRounds_41 (by decide) ?_
          refine jif_icmp_eq (tgt := 49) hx hb dX0_byRounds_42 (by decide) hJ (fun hJ => ?_) (fun hJ => ?_)
          · exact B49  t_known  H locs  hP hD hS _ (lv_sub hl [0, 2] rfl) hJ
          · refine lv_iconst (v := (1 : Int32)) hx hb dX0_byRounds_45 (by decide) ?_
            refine lv_goto (tgt := 50) hx hb dX0_byRounds_46 (by decide) ?_
            exact B50  t_known (1 : Int32)  H locs  hP hD hS _ (lv_sub hl [0, 2] rfl) hJ
      · refine lv_aload_n hx hb dX0_byRounds_16 rfl (lv_at hl 0 rfl) ?_
        refine lv_aload_n hx hb dX0_byRounds_17 rfl (lv_at hl 1 rfl) ?_
        obtain ⟨t_known_18, hc18, hJ⟩ := bnd1_some hJ
        refine jcV_v (C := RX0) (T := TX0) (N := 1) (ci := 0) (q0 := 0) (As := [.ref q_a1]) (rest := []) (isC := [0, 1, 2, 3, 4, 5]) (isR := []) (isB := [0, 1, 2, 3, 4, 5]) (wr := []) (ws2 := [(q_t, .inr (0, [.ref q_t_known])), (q_t_known, .inl (cI, 16, .inl t_known_18)), (q_a1, .inr (2, [.int a1_count, .ref q_a1_kinds, .ref q_a1_wicks, .ref q_a1_sources, .ref q_a1_changes, .long a1_state, .int a1_areLoopsAllowed, .int a1_ticks, .int a1_tickChanges, .int a1_sets])), (q_a1_kinds, .inl (cI, 16, .inl a1_kinds)), (q_a1_wicks, .inl (cI, 16, .inl a1_wicks)), (q_a1_sources, .inl (cI, 48, .inl a1_sources))]) hF (c_X0_lookAtAll l D cI cJ cC cL q_t q_t_known q_a1 q_a1_kinds q_a1_wicks q_a1_sources q_a1_changes t_known a1_count a1_state a1_areLoopsAllowed a1_ticks a1_tickChanges a1_sets a1_kinds a1_wicks a1_sources t_known_18 hc18 H.size) (cwV 1 hts gX0_byRounds_X0_lookAtAll rfl rfl rfl (by decide +kernel) ⟨Nat.le_of_ble_eq_true rfl, Nat.le_of_ble_eq_true rfl⟩) rfl hl rfl (Nat.le_of_ble_eq_true rfl) dX0_byRounds_18 ⟨Nat.zero_le _, Nat.zero_le _⟩ hK hN KX_T trivial hP hD hS hA rfl rfl rfl rfl rfl rfl (by decide) rfl rfl (fun H locs hP hD hS => ?_)
        refine jt_iinc hJ (fun x21 ex21 hJ => ?_)
        refine lv_iinc (v := x21) (lv' := [(3, .int x21), (0, .ref q_t), (1, .ref q_a1), (2, .int v2)]) hx hb dX0_byRounds_21 hl (k := 3) rfl ex21 (by decide) rfl (fun ls hl => ?_)
        refine lv_goto (tgt := 10) hx hb dX0_byRounds_24 (by decide) ?_
        exact ih t_known_18 x21  H locs  hP hD hS _ (lv_sub hl [1, 2, 3, 0] rfl) hJ
  unfold J_X0_byRounds at hJ
  refine lv_aload_n hx hb dX0_byRounds_0 rfl (lv_at hl 0 rfl) ?_
  refine va_get (ci := 0) (v := .ref q_t_known) (C := RX0) (T := TX0) (N := 1) hx hb hts hin_X0 hown hK hP 0 rfl rfl 0 (by decide) fl_9 (fun _ h9 => h9) rfl dX0_byRounds_1 ?_
  refine lv_iconst (v := (-1 : Int32)) hx hb dX0_byRounds_4 (by decide) ?_
  obtain ⟨t_known_5, hc5, hJ⟩ := bnd1_some hJ
  refine jcS_v (As := [.ref q_t_known, .int (-1 : Int32)]) (rest := []) (isC := [1]) (isR := [0, 2, 3, 4, 5]) (isB := [0, 5, 1, 2, 3, 4]) (wr := [(q_t, .inr (0, [.ref q_t_known])), (q_a1, .inr (2, [.int a1_count, .ref q_a1_kinds, .ref q_a1_wicks, .ref q_a1_sources, .ref q_a1_changes, .long a1_state, .int a1_areLoopsAllowed, .int a1_ticks, .int a1_tickChanges, .int a1_sets])), (q_a1_kinds, .inl (cI, 16, .inl a1_kinds)), (q_a1_wicks, .inl (cI, 16, .inl a1_wicks)), (q_a1_sources, .inl (cI, 48, .inl a1_sources))]) (ws2 := [(q_t, .inr (0, [.ref q_t_known])), (q_t_known, .inl (cI, 16, .inl t_known_5)), (q_a1, .inr (2, [.int a1_count, .ref q_a1_kinds, .ref q_a1_wicks, .ref q_a1_sources, .ref q_a1_changes, .long a1_state, .int a1_areLoopsAllowed, .int a1_ticks, .int a1_tickChanges, .int a1_sets])), (q_a1_kinds, .inl (cI, 16, .inl a1_kinds)), (q_a1_wicks, .inl (cI, 16, .inl a1_wicks)), (q_a1_sources, .inl (cI, 48, .inl a1_sources))]) hF (c_J7_fill_53178 l D cI cJ cC cL 16 q_t_known t_known (-1 : Int32) t_known_5 hc5 s.heap.size) (va_cwS 2 hts gX0_byRounds_J7_fill_53178 rfl rfl rfl (by decide +kernel) ⟨Nat.le_of_ble_eq_true rfl, Nat.le_of_ble_eq_true rfl⟩) rfl hl rfl (Nat.le_of_ble_eq_true rfl) dX0_byRounds_5 ⟨Nat.zero_le _, Nat.zero_le _⟩ hK hN KX_T trivial hP hD hS hA rfl rfl rfl rfl (by decide) rfl rfl (fun H locs hP hD hS => ?_)
  refine lv_iconst (v := (0 : Int32)) hx hb dX0_byRounds_8 (by decide) ?_
  refine lv_istore_n (lv' := [(3, .int (0 : Int32)), (0, .ref q_t), (1, .ref q_a1), (2, .int v2)]) hx hb dX0_byRounds_9 rfl hl (by decide) rfl (fun ls hl => ?_)
  exact L10  FU t_known_5 (0 : Int32)  H locs  hP hD hS _ (lv_sub hl [1, 2, 3, 0] rfl) hJ

def J_X1_periodByGoingOn_b59 (a1_count : Int32) (a1_state : Int64) (a1_kinds : Nat → Int32) (a1_wicks : Nat → Int32) (a1_sources : Nat → Int32) (s59_0 : Int32) : Option (Int32) :=
    some (s59_0)
def J_X1_periodByGoingOn_b79 (k17 : Int64 → Int64 → Int32 → Int32 → Int32 → Option (Int32)) (a1_count : Int32) (a1_state : Int64) (a1_kinds : Nat → Int32) (a1_wicks : Nat → Int32) (a1_sources : Nat → Int32) (v2 : Int64) (v4 : Int64) (v6 : Int32) (v7 : Int32) (v8 : Int32) : Option (Int32) :=
    nm (v8 + Int32.ofInt 1) fun x79 =>
    k17 v2 v4 v6 v7 x79
def J_X1_periodByGoingOn_L17 (a1_count : Int32) (a1_state : Int64) (a1_kinds : Nat → Int32) (a1_wicks : Nat → Int32) (a1_sources : Nat → Int32) : Nat → Int64 → Int64 → Int32 → Int32 → Int32 → Option (Int32)
  | 0, _, _, _, _, _ => none
  | nf + 1, v2, v4, v6, v7, v8 =>
    if (512 : Int32) ≤ v8 then (
    some ((-15 : Int32)))
    else (
    bnd1 (J_X2_behindTick a1_count a1_kinds a1_wicks a1_sources v4) fun x28 =>
    nm (v6 + Int32.ofInt 1) fun x33 =>
    if (lg_cmp x28 v2) = 0 then (
    bnd1 (J_X1_isSeenInTime a1_count a1_state a1_kinds a1_wicks a1_sources x33) fun x46 =>
    if x46 = 0 then (
    J_X1_periodByGoingOn_b59 a1_count a1_state a1_kinds a1_wicks a1_sources (-15 : Int32))
    else (
    J_X1_periodByGoingOn_b59 a1_count a1_state a1_kinds a1_wicks a1_sources x33))
    else (
    if x33 = v7 then (
    nm (v7 * (2 : Int32)) fun x76 =>
    J_X1_periodByGoingOn_b79 (fun z0 z1 z2 z3 z4 => J_X1_periodByGoingOn_L17 a1_count a1_state a1_kinds a1_wicks a1_sources nf z0 z1 z2 z3 z4) a1_count a1_state a1_kinds a1_wicks a1_sources x28 x28 (0 : Int32) x76 v8)
    else (
    J_X1_periodByGoingOn_b79 (fun z0 z1 z2 z3 z4 => J_X1_periodByGoingOn_L17 a1_count a1_state a1_kinds a1_wicks a1_sources nf z0 z1 z2 z3 z4) a1_count a1_state a1_kinds a1_wicks a1_sources v2 x28 x33 v7 v8)))
def J_X1_periodByGoingOn (a1_count : Int32) (a1_state : Int64) (a1_kinds : Nat → Int32) (a1_wicks : Nat → Int32) (a1_sources : Nat → Int32) : Option (Int32) :=
    bnd1 (J_X2_state a1_state) fun x1 =>
    J_X1_periodByGoingOn_L17 a1_count a1_state a1_kinds a1_wicks a1_sources FU x1 x1 (0 : Int32) (1 : Int32) (0 : Int32)
abbrev rmX1_periodByGoingOn : Room := { frames := 3, cells := 0, slots := 0, locals := 80 }
set_option maxHeartbeats 4000000 in
set_option maxRecDepth 100000 in
theorem c_X1_periodByGoingOn (l : Launch) (D : va_G) (cI cJ cC cL : ClassId) (q_t q_t_seen q_a1 q_a1_kinds q_a1_wicks q_a1_sources q_a1_changes : Nat) (a1_count : Int32) (a1_state : Int64) (a1_areLoopsAllowed : Int32) (a1_ticks : Int32) (a1_tickChanges : Int32) (a1_sets : Int32) (a1_kinds : Nat → Int32) (a1_wicks : Nat → Int32) (a1_sources : Nat → Int32) (r : Int32) (hJ : J_X1_periodByGoingOn a1_count a1_state a1_kinds a1_wicks a1_sources = some (r)) (sz : Nat) : Met l yX1_periodByGoingOn wsX1_periodByGoingOn rmX1_periodByGoingOn (va_Pc [.ref q_t, .ref q_a1] (jpre XT D (tyL cI cJ cC cL) [(q_t, .inr (1, [.ref q_t_seen])), (q_a1, .inr (2, [.int a1_count, .ref q_a1_kinds, .ref q_a1_wicks, .ref q_a1_sources, .ref q_a1_changes, .long a1_state, .int a1_areLoopsAllowed, .int a1_ticks, .int a1_tickChanges, .int a1_sets])), (q_a1_kinds, .inl (cI, 16, .inl a1_kinds)), (q_a1_wicks, .inl (cI, 16, .inl a1_wicks)), (q_a1_sources, .inl (cI, 48, .inl a1_sources))] sz)) (va_Qi (fun r' (_ : Unit) => r' = r) (fun _ t => jpost D (tyL cI cJ cC cL) (va_A [(q_t, .inr (1, [.ref q_t_seen])), (q_a1, .inr (2, [.int a1_count, .ref q_a1_kinds, .ref q_a1_wicks, .ref q_a1_sources, .ref q_a1_changes, .long a1_state, .int a1_areLoopsAllowed, .int a1_ticks, .int a1_tickChanges, .int a1_sets])), (q_a1_kinds, .inl (cI, 16, .inl a1_kinds)), (q_a1_wicks, .inl (cI, 16, .inl a1_wicks)), (q_a1_sources, .inl (cI, 48, .inl a1_sources))] sz) [(q_t, .inr (1, [.ref q_t_seen])), (q_a1, .inr (2, [.int a1_count, .ref q_a1_kinds, .ref q_a1_wicks, .ref q_a1_sources, .ref q_a1_changes, .long a1_state, .int a1_areLoopsAllowed, .int a1_ticks, .int a1_tickChanges, .int a1_sets])), (q_a1_kinds, .inl (cI, 16, .inl a1_kinds)), (q_a1_wicks, .inl (cI, 16, .inl a1_wicks)), (q_a1_sources, .inl (cI, 48, .inl a1_sources))] t) (va_A [(q_t, .inr (1, [.ref q_t_seen])), (q_a1, .inr (2, [.int a1_count, .ref q_a1_kinds, .ref q_a1_wicks, .ref q_a1_sources, .ref q_a1_changes, .long a1_state, .int a1_areLoopsAllowed, .int a1_ticks, .int a1_tickChanges, .int a1_sets])), (q_a1_kinds, .inl (cI, 16, .inl a1_kinds)), (q_a1_wicks, .inl (cI, 16, .inl a1_wicks)), (q_a1_sources, .inl (cI, 48, .inl a1_sources))] sz)) 0 0 (va_A [(q_t, .inr (1, [.ref q_t_seen])), (q_a1, .inr (2, [.int a1_count, .ref q_a1_kinds, .ref q_a1_wicks, .ref q_a1_sources, .ref q_a1_changes, .long a1_state, .int a1_areLoopsAllowed, .int a1_ticks, .int a1_tickChanges, .int a1_sets])), (q_a1_kinds, .inl (cI, 16, .inl a1_kinds)), (q_a1_wicks, .inl (cI, 16, .inl a1_wicks)), (q_a1_sources, .inl (cI, 48, .inl a1_sources))] sz) := by
  refine jE_i (cc := cX1_periodByGoingOn) (maxL := 9) (own := RX1) (ret := (some .int)) (lv0 := [(0, .ref q_t), (1, .ref q_a1)]) (by decide) rfl rfl rfl (Nat.le_of_ble_eq_true rfl) rfl ?_
  intro p e s m args below meth c A Q ls hx hb hml hown hts hK hN hX hA hP hD hS hl hRet
  have hF : CallFix p m c cX1_periodByGoingOn 9 s args wsX1_periodByGoingOn RX1 := ⟨hx, hb, hml, hown, hts⟩
  have B59 : ∀ (s59_0 : Int32) (H : Heap) (locs : List Loc), va_P D vwCl [(q_t, .inr (1, [.ref q_t_seen])), (q_a1, .inr (2, [.int a1_count, .ref q_a1_kinds, .ref q_a1_wicks, .ref q_a1_sources, .ref q_a1_changes, .long a1_state, .int a1_areLoopsAllowed, .int a1_ticks, .int a1_tickChanges, .int a1_sets])), (q_a1_kinds, .inl (cI, 16, .inl a1_kinds)), (q_a1_wicks, .inl (cI, 16, .inl a1_wicks)), (q_a1_sources, .inl (cI, 48, .inl a1_sources))] H → va_D A [(q_t, .inr (1, [.ref q_t_seen])), (q_a1, .inr (2, [.int a1_count, .ref q_a1_kinds, .ref q_a1_wicks, .ref q_a1_sources, .ref q_a1_changes, .long a1_state, .int a1_areLoopsAllowed, .int a1_ticks, .int a1_tickChanges, .int a1_sets])), (q_a1_kinds, .inl (cI, 16, .inl a1_kinds)), (q_a1_wicks, .inl (cI, 16, .inl a1_wicks)), (q_a1_sources, .inl (cI, 48, .inl a1_sources))] → va_S A s.heap H locs → ∀ ls : Array Slot, lv_has ls 9 [] → J_X1_periodByGoingOn_b59  a1_count a1_state a1_kinds a1_wicks a1_sources s59_0 = some (r) → W p l e rmX1_periodByGoingOn s m args below meth c H locs 0 0 Q (F0 m 59 ls [.int s59_0]) := by
    intro s59_0 H locs hP hD hS ls hl hJ
    unfold J_X1_periodByGoingOn_b59 at hJ
    have e0 := Option.some.inj hJ
    exact hRet hP hD hS e0 dX1_periodByGoingOn_59
  have B79 : ∀ (k17 : Int64 → Int64 → Int32 → Int32 → Int32 → Option (Int32)), (∀ (v2 : Int64) (v4 : Int64) (v6 : Int32) (v7 : Int32) (v8 : Int32) (H : Heap) (locs : List Loc), va_P D vwCl [(q_t, .inr (1, [.ref q_t_seen])), (q_a1, .inr (2, [.int a1_count, .ref q_a1_kinds, .ref q_a1_wicks, .ref q_a1_sources, .ref q_a1_changes, .long a1_state, .int a1_areLoopsAllowed, .int a1_ticks, .int a1_tickChanges, .int a1_sets])), (q_a1_kinds, .inl (cI, 16, .inl a1_kinds)), (q_a1_wicks, .inl (cI, 16, .inl a1_wicks)), (q_a1_sources, .inl (cI, 48, .inl a1_sources))] H → va_D A [(q_t, .inr (1, [.ref q_t_seen])), (q_a1, .inr (2, [.int a1_count, .ref q_a1_kinds, .ref q_a1_wicks, .ref q_a1_sources, .ref q_a1_changes, .long a1_state, .int a1_areLoopsAllowed, .int a1_ticks, .int a1_tickChanges, .int a1_sets])), (q_a1_kinds, .inl (cI, 16, .inl a1_kinds)), (q_a1_wicks, .inl (cI, 16, .inl a1_wicks)), (q_a1_sources, .inl (cI, 48, .inl a1_sources))] → va_S A s.heap H locs → ∀ ls : Array Slot, lv_has ls 9 [(1, .ref q_a1), (2, .long v2), (4, .long v4), (6, .int v6), (7, .int v7), (8, .int v8)] → k17 v2 v4 v6 v7 v8 = some (r) → W p l e rmX1_periodByGoingOn s m args below meth c H locs 0 0 Q (F0 m 17 ls [])) → ∀ (v2 : Int64) (v4 : Int64) (v6 : Int32) (v7 : Int32) (v8 : Int32) (H : Heap) (locs : List Loc), va_P D vwCl [(q_t, .inr (1, [.ref q_t_seen])), (q_a1, .inr (2, [.int a1_count, .ref q_a1_kinds, .ref q_a1_wicks, .ref q_a1_sources, .ref q_a1_changes, .long a1_state, .int a1_areLoopsAllowed, .int a1_ticks, .int a1_tickChanges, .int a1_sets])), (q_a1_kinds, .inl (cI, 16, .inl a1_kinds)), (q_a1_wicks, .inl (cI, 16, .inl a1_wicks)), (q_a1_sources, .inl (cI, 48, .inl a1_sources))] H → va_D A [(q_t, .inr (1, [.ref q_t_seen])), (q_a1, .inr (2, [.int a1_count, .ref q_a1_kinds, .ref q_a1_wicks, .ref q_a1_sources, .ref q_a1_changes, .long a1_state, .int a1_areLoopsAllowed, .int a1_ticks, .int a1_tickChanges, .int a1_sets])), (q_a1_kinds, .inl (cI, 16, .inl a1_kinds)), (q_a1_wicks, .inl (cI, 16, .inl a1_wicks)), (q_a1_sources, .inl (cI, 48, .inl a1_sources))] → va_S A s.heap H locs → ∀ ls : Array Slot, lv_has ls 9 [(1, .ref q_a1), (2, .long v2), (4, .long v4), (6, .int v6), (7, .int v7), (8, .int v8)] → J_X1_periodByGoingOn_b79 k17 a1_count a1_state a1_kinds a1_wicks a1_sources v2 v4 v6 v7 v8 = some (r) → W p l e rmX1_periodByGoingOn s m args below meth c H locs 0 0 Q (F0 m 79 ls []) := by
    intro k17 hk17 v2 v4 v6 v7 v8 H locs hP hD hS ls hl hJ
    unfold J_X1_periodByGoingOn_b79 at hJ
    refine jt_iinc hJ (fun x79 ex79 hJ => ?_)
    refine lv_iinc (v := x79) (lv' := [(8, .int x79), (1, .ref q_a1), (2, .long v2), (4, .long v4), (6, .int v6), (7, .int v7)]) hx hb dX1_periodByGoingOn_79 hl (k := 5) rfl ex79 (by decide) rfl (fun ls hl => ?_)
    refine lv_goto (tgt := 17) hx hb dX1_periodByGoingOn_82 (by decide) ?_
    exact hk17 v2 v4 v6 v7 x79  H locs  hP hD hS _ (lv_sub hl [1, 2, 3, 4, 5, 0] rfl) hJ
  have L17 : ∀ (nf : Nat), ∀ (v2 : Int64) (v4 : Int64) (v6 : Int32) (v7 : Int32) (v8 : Int32) (H : Heap) (locs : List Loc), va_P D vwCl [(q_t, .inr (1, [.ref q_t_seen])), (q_a1, .inr (2, [.int a1_count, .ref q_a1_kinds, .ref q_a1_wicks, .ref q_a1_sources, .ref q_a1_changes, .long a1_state, .int a1_areLoopsAllowed, .int a1_ticks, .int a1_tickChanges, .int a1_sets])), (q_a1_kinds, .inl (cI, 16, .inl a1_kinds)), (q_a1_wicks, .inl (cI, 16, .inl a1_wicks)), (q_a1_sources, .inl (cI, 48, .inl a1_sources))] H → va_D A [(q_t, .inr (1, [.ref q_t_seen])), (q_a1, .inr (2, [.int a1_count, .ref q_a1_kinds, .ref q_a1_wicks, .ref q_a1_sources, .ref q_a1_changes, .long a1_state, .int a1_areLoopsAllowed, .int a1_ticks, .int a1_tickChanges, .int a1_sets])), (q_a1_kinds, .inl (cI, 16, .inl a1_kinds)), (q_a1_wicks, .inl (cI, 16, .inl a1_wicks)), (q_a1_sources, .inl (cI, 48, .inl a1_sources))] → va_S A s.heap H locs → ∀ ls : Array Slot, lv_has ls 9 [(1, .ref q_a1), (2, .long v2), (4, .long v4), (6, .int v6), (7, .int v7), (8, .int v8)] → J_X1_periodByGoingOn_L17  a1_count a1_state a1_kinds a1_wicks a1_sources nf v2 v4 v6 v7 v8 = some (r) → W p l e rmX1_periodByGoingOn s m args below meth c H locs 0 0 Q (F0 m 17 ls []) := by
    intro nf
    induction nf with
    | zero =>
      intro v2 v4 v6 v7 v8 H locs hP hD hS ls hl hJ
      rw [J_X1_periodByGoingOn_L17] at hJ
      cases hJ
    | succ nf ih =>
      intro v2 v4 v6 v7 v8 H locs hP hD hS ls hl hJ
      rw [J_X1_periodByGoingOn_L17] at hJ
      refine lv_iload hx hb dX1_periodByGoingOn_17 (lv_at hl 5 rfl) ?_
      refine lv_sipush (v := (512 : Int32)) hx hb dX1_periodByGoingOn_19 (by decide) ?_
      refine jif_icmp_ge (tgt := 85) hx hb dX1_periodByGoingOn_22 (by decide) hJ (fun hJ => ?_) (fun hJ => ?_)
      · refine lv_bipush (v := (-15 : Int32)) hx hb dX1_periodByGoingOn_85 (by decide) ?_
        have e0 := Option.some.inj hJ
        exact hRet hP hD hS e0 dX1_periodByGoingOn_87
      · refine lv_aload_n hx hb dX1_periodByGoingOn_25 rfl (lv_at hl 0 rfl) ?_
        refine lv_lload hx hb dX1_periodByGoingOn_26 (lv_at hl 2 rfl) ?_
        obtain ⟨x28, hc28, hJ⟩ := bnd1_some hJ
        refine jcV_l (C := RX2) (T := TX2) (N := 10) (ci := 2) (q0 := 0) (As := [.long v4]) (rest := []) (isC := [1, 2, 3, 4]) (isR := [0]) (isB := [0, 1, 2, 3, 4]) (wr := [(q_t, .inr (1, [.ref q_t_seen]))]) (ws2 := [(q_t, .inr (1, [.ref q_t_seen])), (q_a1, .inr (2, [.int a1_count, .ref q_a1_kinds, .ref q_a1_wicks, .ref q_a1_sources, .ref q_a1_changes, .long a1_state, .int a1_areLoopsAllowed, .int a1_ticks, .int a1_tickChanges, .int a1_sets])), (q_a1_kinds, .inl (cI, 16, .inl a1_kinds)), (q_a1_wicks, .inl (cI, 16, .inl a1_wicks)), (q_a1_sources, .inl (cI, 48, .inl a1_sources))]) hF (c_X2_behindTick l D cI cJ cC cL q_a1 q_a1_kinds q_a1_wicks q_a1_sources q_a1_changes a1_count a1_state a1_areLoopsAllowed a1_ticks a1_tickChanges a1_sets a1_kinds a1_wicks a1_sources v4 x28 hc28 H.size) (cwV 1 hts gX1_periodByGoingOn_X2_behindTick rfl rfl rfl (by decide +kernel) ⟨Nat.le_of_ble_eq_true rfl, Nat.le_of_ble_eq_true rfl⟩) rfl hl rfl (Nat.le_of_ble_eq_true rfl) dX1_periodByGoingOn_28 ⟨Nat.zero_le _, Nat.zero_le _⟩ hK hN KX_T trivial hP hD hS hA rfl rfl rfl rfl rfl rfl (by decide) rfl rfl (fun H locs hP hD hS => ?_)
        refine lv_lstore (lv' := [(4, .long x28), (1, .ref q_a1), (2, .long v2), (6, .int v6), (7, .int v7), (8, .int v8)]) hx hb dX1_periodByGoingOn_31 hl (by decide) rfl (fun ls hl => ?_)
        refine jt_iinc hJ (fun x33 ex33 hJ => ?_)
        refine lv_iinc (v := x33) (lv' := [(6, .int x33), (4, .long x28), (1, .ref q_a1), (2, .long v2), (7, .int v7), (8, .int v8)]) hx hb dX1_periodByGoingOn_33 hl (k := 3) rfl ex33 (by decide) rfl (fun ls hl => ?_)
        refine lv_lload hx hb dX1_periodByGoingOn_36 (lv_at hl 1 rfl) ?_
        refine lv_lload_n hx hb dX1_periodByGoingOn_38 rfl (lv_at hl 3 rfl) ?_
        refine W.lcmp hx hb dX1_periodByGoingOn_39 ?_
        refine jif_ne (tgt := 60) hx hb dX1_periodByGoingOn_40 (by decide) hJ (fun hJ => ?_) (fun hJ => ?_)
        · refine lv_iload hx hb dX1_periodByGoingOn_60 (lv_at hl 0 rfl) ?_
          refine lv_iload hx hb dX1_periodByGoingOn_62 (lv_at hl 4 rfl) ?_
          refine jif_icmp_ne (tgt := 79) hx hb dX1_periodByGoingOn_64 (by decide) hJ (fun hJ => ?_) (fun hJ => ?_)
          · exact B79 (fun z0 z1 z2 z3 z4 => J_X1_periodByGoingOn_L17 a1_count a1_state a1_kinds a1_wicks a1_sources nf z0 z1 z2 z3 z4) ih v2 x28 x33 v7 v8  H locs  hP hD hS _ (lv_sub hl [2, 3, 1, 0, 4, 5] rfl) hJ
          · refine lv_lload hx hb dX1_periodByGoingOn_67 (lv_at hl 1 rfl) ?_
            refine lv_lstore_n (lv' := [(2, .long x28), (6, .int x33), (4, .long x28), (1, .ref q_a1), (7, .int v7), (8, .int v8)]) hx hb dX1_periodByGoingOn_69 rfl hl (by decide) rfl (fun ls hl => ?_)
            refine lv_iconst (v := (0 : Int32)) hx hb dX1_periodByGoingOn_70 (by decide) ?_
            refine lv_istore (lv' := [(6, .int (0 : Int32)), (2, .long x28), (4, .long x28), (1, .ref q_a1), (7, .int v7), (8, .int v8)]) hx hb dX1_periodByGoingOn_71 hl (by decide) rfl (fun ls hl => ?_)
            refine lv_iload hx hb dX1_periodByGoingOn_73 (lv_at hl 4 rfl) ?_
            refine lv_iconst (v := (2 : Int32)) hx hb dX1_periodByGoingOn_75 (by decide) ?_
            refine lv_imul hx hb dX1_periodByGoingOn_76 ?_
            refine jt_i hJ (fun x76 hJ => ?_)
            refine lv_istore (lv' := [(7, .int x76), (6, .int (0 : Int32)), (2, .long x28), (4, .long x28), (1, .ref q_a1), (8, .int v8)]) hx hb dX1_periodByGoingOn_77 hl (by decide) rfl (fun ls hl => ?_)
            exact B79 (fun z0 z1 z2 z3 z4 => J_X1_periodByGoingOn_L17 a1_count a1_state a1_kinds a1_wicks a1_sources nf z0 z1 z2 z3 z4) ih x28 x28 (0 : Int32) x76 v8  H locs  hP hD hS _ (lv_sub hl [4, 2, 3, 1, 0, 5] rfl) hJ
        · refine lv_aload_n hx hb dX1_periodByGoingOn_43 rfl (lv_at hl 2 rfl) ?_
          refine lv_iload hx hb dX1_periodByGoingOn_44 (lv_at hl 0 rfl) ?_
          obtain ⟨x46, hc46, hJ⟩ := bnd1_some hJ
          refine jcS_i (As := [.ref q_a1, .int x33]) (rest := []) (isC := [1, 2, 3, 4]) (isR := [0]) (isB := [0, 1, 2, 3, 4]) (wr := [(q_t, .inr (1, [.ref q_t_seen]))]) (ws2 := [(q_t, .inr (1, [.ref q_t_seen])), (q_a1, .inr (2, [.int a1_count, .ref q_a1_kinds, .ref q_a1_wicks, .ref q_a1_sources, .ref q_a1_changes, .long a1_state, .int a1_areLoopsAllowed, .int a1_ticks, .int a1_tickChanges, .int a1_sets])), (q_a1_kinds, .inl (cI, 16, .inl a1_kinds)), (q_a1_wicks, .inl (cI, 16, .inl a1_wicks)), (q_a1_sources, .inl (cI, 48, .inl a1_sources))]) hF (c_X1_isSeenInTime l D cI cJ cC cL q_a1 q_a1_kinds q_a1_wicks q_a1_sources q_a1_changes a1_count a1_state a1_areLoopsAllowed a1_ticks a1_tickChanges a1_sets a1_kinds a1_wicks a1_sources x33 x46 hc46 H.size) (va_cwS 2 hts gX1_periodByGoingOn_X1_isSeenInTime rfl rfl rfl (by decide +kernel) ⟨Nat.le_of_ble_eq_true rfl, Nat.le_of_ble_eq_true rfl⟩) rfl hl rfl (Nat.le_of_ble_eq_true rfl) dX1_periodByGoingOn_46 ⟨Nat.zero_le _, Nat.zero_le _⟩ hK hN KX_T trivial hP hD hS hA rfl rfl rfl rfl (by decide) rfl rfl (fun H locs hP hD hS => ?_)
          refine jif_eq (tgt := 57) hx hb dX1_periodByGoingOn_49 (by decide) hJ (fun hJ => ?_) (fun hJ => ?_)
          · refine lv_bipush (v := (-15 : Int32)) hx hb dX1_periodByGoingOn_57 (by decide) ?_
            exact B59  (-15 : Int32)  H locs  hP hD hS _ (lv_sub hl [] rfl) hJ
          · refine lv_iload hx hb dX1_periodByGoingOn_52 (lv_at hl 0 rfl) ?_
            refine lv_goto (tgt := 59) hx hb dX1_periodByGoingOn_54 (by decide) ?_
            exact B59  x33  H locs  hP hD hS _ (lv_sub hl [] rfl) hJ
  unfold J_X1_periodByGoingOn at hJ
  refine lv_aload_n hx hb dX1_periodByGoingOn_0 rfl (lv_at hl 1 rfl) ?_
  obtain ⟨x1, hc1, hJ⟩ := bnd1_some hJ
  refine jcV_l (C := RX2) (T := TX2) (N := 10) (ci := 2) (q0 := 0) (As := []) (rest := []) (isC := [1]) (isR := [0, 2, 3, 4]) (isB := [0, 4, 1, 2, 3]) (wr := [(q_t, .inr (1, [.ref q_t_seen])), (q_a1_kinds, .inl (cI, 16, .inl a1_kinds)), (q_a1_wicks, .inl (cI, 16, .inl a1_wicks)), (q_a1_sources, .inl (cI, 48, .inl a1_sources))]) (ws2 := [(q_t, .inr (1, [.ref q_t_seen])), (q_a1, .inr (2, [.int a1_count, .ref q_a1_kinds, .ref q_a1_wicks, .ref q_a1_sources, .ref q_a1_changes, .long a1_state, .int a1_areLoopsAllowed, .int a1_ticks, .int a1_tickChanges, .int a1_sets])), (q_a1_kinds, .inl (cI, 16, .inl a1_kinds)), (q_a1_wicks, .inl (cI, 16, .inl a1_wicks)), (q_a1_sources, .inl (cI, 48, .inl a1_sources))]) hF (c_X2_state l D cI cJ cC cL q_a1 q_a1_kinds q_a1_wicks q_a1_sources q_a1_changes a1_count a1_state a1_areLoopsAllowed a1_ticks a1_tickChanges a1_sets x1 hc1 s.heap.size) (cwV 0 hts gX1_periodByGoingOn_X2_state rfl rfl rfl (by decide +kernel) ⟨Nat.le_of_ble_eq_true rfl, Nat.le_of_ble_eq_true rfl⟩) rfl hl rfl (Nat.le_of_ble_eq_true rfl) dX1_periodByGoingOn_1 ⟨Nat.zero_le _, Nat.zero_le _⟩ hK hN KX_T trivial hP hD hS hA rfl rfl rfl rfl rfl rfl (by decide) rfl rfl (fun H locs hP hD hS => ?_)
  refine lv_lstore_n (lv' := [(2, .long x1), (0, .ref q_t), (1, .ref q_a1)]) hx hb dX1_periodByGoingOn_4 rfl hl (by decide) rfl (fun ls hl => ?_)
  refine lv_lload_n hx hb dX1_periodByGoingOn_5 rfl (lv_at hl 0 rfl) ?_
  refine lv_lstore (lv' := [(4, .long x1), (2, .long x1), (0, .ref q_t), (1, .ref q_a1)]) hx hb dX1_periodByGoingOn_6 hl (by decide) rfl (fun ls hl => ?_)
  refine lv_iconst (v := (0 : Int32)) hx hb dX1_periodByGoingOn_8 (by decide) ?_
  refine lv_istore (lv' := [(6, .int (0 : Int32)), (4, .long x1), (2, .long x1), (0, .ref q_t), (1, .ref q_a1)]) hx hb dX1_periodByGoingOn_9 hl (by decide) rfl (fun ls hl => ?_)
  refine lv_iconst (v := (1 : Int32)) hx hb dX1_periodByGoingOn_11 (by decide) ?_
  refine lv_istore (lv' := [(7, .int (1 : Int32)), (6, .int (0 : Int32)), (4, .long x1), (2, .long x1), (0, .ref q_t), (1, .ref q_a1)]) hx hb dX1_periodByGoingOn_12 hl (by decide) rfl (fun ls hl => ?_)
  refine lv_iconst (v := (0 : Int32)) hx hb dX1_periodByGoingOn_14 (by decide) ?_
  refine lv_istore (lv' := [(8, .int (0 : Int32)), (7, .int (1 : Int32)), (6, .int (0 : Int32)), (4, .long x1), (2, .long x1), (0, .ref q_t), (1, .ref q_a1)]) hx hb dX1_periodByGoingOn_15 hl (by decide) rfl (fun ls hl => ?_)
  exact L17  FU x1 x1 (0 : Int32) (1 : Int32) (0 : Int32)  H locs  hP hD hS _ (lv_sub hl [6, 4, 3, 2, 1, 0] rfl) hJ


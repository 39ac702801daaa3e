def J_J6_bitCount_0f7a4 (v0 : Int32) : Option (Int32) :=
    nm ((v0.toUInt32 >>> ((1 : Int32).toUInt32 &&& Int32.toUInt32 31)).toInt32) fun x3 =>
    nm (v0 - (x3 &&& (1431655765 : Int32))) fun x8 =>
    nm (x8 &&& (858993459 : Int32)) fun x14 =>
    nm ((x8.toUInt32 >>> ((2 : Int32).toUInt32 &&& Int32.toUInt32 31)).toInt32) fun x17 =>
    nm (x14 + (x17 &&& (858993459 : Int32))) fun x22 =>
    nm (x22 + ((x22.toUInt32 >>> ((4 : Int32).toUInt32 &&& Int32.toUInt32 31)).toInt32)) fun x28 =>
    nm (x28 &&& (252645135 : Int32)) fun x32 =>
    nm (x32 + ((x32.toUInt32 >>> ((8 : Int32).toUInt32 &&& Int32.toUInt32 31)).toInt32)) fun x39 =>
    nm (x39 + ((x39.toUInt32 >>> ((16 : Int32).toUInt32 &&& Int32.toUInt32 31)).toInt32)) fun x46 =>
    some (x46 &&& (63 : Int32))
abbrev rmJ6_bitCount_0f7a4 : Room := { frames := 0, cells := 0, slots := 0, locals := 0 }
set_option maxHeartbeats 4000000 in
set_option maxRecDepth 100000 in
theorem c_J6_bitCount_0f7a4 (l : Launch) (D : va_G) (cI cJ cC cL : ClassId) (v0 : Int32) (r : Int32) (hJ : J_J6_bitCount_0f7a4 v0 = some (r)) (sz : Nat) : Met l yJ6_bitCount_0f7a4 wsJ6_bitCount_0f7a4 rmJ6_bitCount_0f7a4 (va_Pc [.int v0] (jpre XT D (tyL cI cJ cC cL) [] sz)) (va_Qi (fun r' (_ : Unit) => r' = r) (fun _ t => jpost D (tyL cI cJ cC cL) (va_A [] sz) [] t) (va_A [] sz)) 0 0 (va_A [] sz) := by
  refine jE_i (cc := cJ6_bitCount_0f7a4) (maxL := 1) (own := RJ6) (ret := (some .int)) (lv0 := [(0, .int v0)]) (by decide) rfl rfl rfl (Nat.le_of_ble_eq_true rfl) rfl ?_
  intro p e s m args below meth c A Q ls hx hb hml hown hts hK hN hX hA hP hD hS hl hRet
  have hF : CallFix p m c cJ6_bitCount_0f7a4 1 s args wsJ6_bitCount_0f7a4 RJ6 := ⟨hx, hb, hml, hown, hts⟩
  unfold J_J6_bitCount_0f7a4 at hJ
  refine lv_iload_n hx hb dJ6_bitCount_0f7a4_0 rfl (lv_at hl 0 rfl) ?_
  refine lv_iload_n hx hb dJ6_bitCount_0f7a4_1 rfl (lv_at hl 0 rfl) ?_
  refine lv_iconst (v := (1 : Int32)) hx hb dJ6_bitCount_0f7a4_2 (by decide) ?_
  refine lv_iushr (v := (v0.toUInt32 >>> ((1 : Int32).toUInt32 &&& Int32.toUInt32 31)).toInt32) hx hb dJ6_bitCount_0f7a4_3 rfl ?_
  refine jt_i hJ (fun x3 hJ => ?_)
  refine lv_ldcw (v := (1431655765 : Int32)) hx hb hown (hts (.constant RJ6 265 (1431655765 : Int32)) (by decide +kernel)) dJ6_bitCount_0f7a4_4 ?_
  refine lv_iand hx hb dJ6_bitCount_0f7a4_7 ?_
  refine lv_isub hx hb dJ6_bitCount_0f7a4_8 ?_
  refine jt_i hJ (fun x8 hJ => ?_)
  refine lv_istore_n (lv' := [(0, .int x8)]) hx hb dJ6_bitCount_0f7a4_9 rfl hl (by decide) rfl (fun ls hl => ?_)
  refine lv_iload_n hx hb dJ6_bitCount_0f7a4_10 rfl (lv_at hl 0 rfl) ?_
  refine lv_ldcw (v := (858993459 : Int32)) hx hb hown (hts (.constant RJ6 266 (858993459 : Int32)) (by decide +kernel)) dJ6_bitCount_0f7a4_11 ?_
  refine lv_iand hx hb dJ6_bitCount_0f7a4_14 ?_
  refine jt_i hJ (fun x14 hJ => ?_)
  refine lv_iload_n hx hb dJ6_bitCount_0f7a4_15 rfl (lv_at hl 0 rfl) ?_
  refine lv_iconst (v := (2 : Int32)) hx hb dJ6_bitCount_0f7a4_16 (by decide) ?_
  refine lv_iushr (v := (x8.toUInt32 >>> ((2 : Int32).toUInt32 &&& Int32.toUInt32 31)).toInt32) hx hb dJ6_bitCount_0f7a4_17 rfl ?_
  refine jt_i hJ (fun x17 hJ => ?_)
  refine lv_ldcw (v := (858993459 : Int32)) hx hb hown (hts (.constant RJ6 266 (858993459 : Int32)) (by decide +kernel)) dJ6_bitCount_0f7a4_18 ?_
  refine lv_iand hx hb dJ6_bitCount_0f7a4_21 ?_
  refine lv_iadd hx hb dJ6_bitCount_0f7a4_22 ?_
  refine jt_i hJ (fun x22 hJ => ?_)
  refine lv_istore_n (lv' := [(0, .int x22)]) hx hb dJ6_bitCount_0f7a4_23 rfl hl (by decide) rfl (fun ls hl => ?_)
  refine lv_iload_n hx hb dJ6_bitCount_0f7a4_24 rfl (lv_at hl 0 rfl) ?_
  refine lv_iload_n hx hb dJ6_bitCount_0f7a4_25 rfl (lv_at hl 0 rfl) ?_
  refine lv_iconst (v := (4 : Int32)) hx hb dJ6_bitCount_0f7a4_26 (by decide) ?_
  refine lv_iushr (v := (x22.toUInt32 >>> ((4 : Int32).toUInt32 &&& Int32.toUInt32 31)).toInt32) hx hb dJ6_bitCount_0f7a4_27 rfl ?_
  refine lv_iadd hx hb dJ6_bitCount_0f7a4_28 ?_
  refine jt_i hJ (fun x28 hJ => ?_)
  refine lv_ldcw (v := (252645135 : Int32)) hx hb hown (hts (.constant RJ6 267 (252645135 : Int32)) (by decide +kernel)) dJ6_bitCount_0f7a4_29 ?_
  refine lv_iand hx hb dJ6_bitCount_0f7a4_32 ?_
  refine jt_i hJ (fun x32 hJ => ?_)
  refine lv_istore_n (lv' := [(0, .int x32)]) hx hb dJ6_bitCount_0f7a4_33 rfl hl (by decide) rfl (fun ls hl => ?_)
  refine lv_iload_n hx hb dJ6_bitCount_0f7a4_34 rfl (lv_at hl 0 rfl) ?_
  refine lv_iload_n hx hb dJ6_bitCount_0f7a4_35 rfl (lv_at hl 0 rfl) ?_
  refine lv_bipush (v := (8 : Int32)) hx hb dJ6_bitCount_0f7a4_36 (by decide) ?_
  refine lv_iushr (v := (x32.toUInt32 >>> ((8 : Int32).toUInt32 &&& Int32.toUInt32 31)).toInt32) hx hb dJ6_bitCount_0f7a4_38 rfl ?_
  refine lv_iadd hx hb dJ6_bitCount_0f7a4_39 ?_
  refine jt_i hJ (fun x39 hJ => ?_)
  refine lv_istore_n (lv' := [(0, .int x39)]) hx hb dJ6_bitCount_0f7a4_40 rfl hl (by decide) rfl (fun ls hl => ?_)
  refine lv_iload_n hx hb dJ6_bitCount_0f7a4_41 rfl (lv_at hl 0 rfl) ?_
  refine lv_iload_n hx hb dJ6_bitCount_0f7a4_42 rfl (lv_at hl 0 rfl) ?_
  refine lv_bipush (v := (16 : Int32)) hx hb dJ6_bitCount_0f7a4_43 (by decide) ?_
  refine lv_iushr (v := (x39.toUInt32 >>> ((16 : Int32).toUInt32 &&& Int32.toUInt32 31)).toInt32) hx hb dJ6_bitCount_0f7a4_45 rfl ?_
  refine lv_iadd hx hb dJ6_bitCount_0f7a4_46 ?_
  refine jt_i hJ (fun x46 hJ => ?_)
  refine lv_istore_n (lv' := [(0, .int x46)]) hx hb dJ6_bitCount_0f7a4_47 rfl hl (by decide) rfl (fun ls hl => ?_)
  refine lv_iload_n hx hb dJ6_bitCount_0f7a4_48 rfl (lv_at hl 0 rfl) ?_
  refine lv_bipush (v := (63 : Int32)) hx hb dJ6_bitCount_0f7a4_49 (by decide) ?_
  refine lv_iand hx hb dJ6_bitCount_0f7a4_51 ?_
  have e0 := Option.some.inj hJ
  exact hRet hP hD hS e0 dJ6_bitCount_0f7a4_52

def J_J6_numberOfTrailingZeros_0f7a4_b74 (v0 : Int32) (v1 : Int32) : Option (Int32) :=
    some (v1 + ((v0.toUInt32 >>> ((1 : Int32).toUInt32 &&& Int32.toUInt32 31)).toInt32))
def J_J6_numberOfTrailingZeros_0f7a4_b62 (v0 : Int32) (v1 : Int32) : Option (Int32) :=
    if v0 ≤ (4 : Int32) then (
    J_J6_numberOfTrailingZeros_0f7a4_b74  v0 v1)
    else (
    nm (v1 + Int32.ofInt 2) fun x67 =>
    nm ((v0.toUInt32 >>> ((2 : Int32).toUInt32 &&& Int32.toUInt32 31)).toInt32) fun x72 =>
    J_J6_numberOfTrailingZeros_0f7a4_b74  x72 x67)
def J_J6_numberOfTrailingZeros_0f7a4_b49 (v0 : Int32) (v1 : Int32) : Option (Int32) :=
    if v0 ≤ (16 : Int32) then (
    J_J6_numberOfTrailingZeros_0f7a4_b62  v0 v1)
    else (
    nm (v1 + Int32.ofInt 4) fun x55 =>
    nm ((v0.toUInt32 >>> ((4 : Int32).toUInt32 &&& Int32.toUInt32 31)).toInt32) fun x60 =>
    J_J6_numberOfTrailingZeros_0f7a4_b62  x60 x55)
def J_J6_numberOfTrailingZeros_0f7a4_b34 (v0 : Int32) (v1 : Int32) : Option (Int32) :=
    if v0 ≤ (256 : Int32) then (
    J_J6_numberOfTrailingZeros_0f7a4_b49  v0 v1)
    else (
    nm (v1 + Int32.ofInt 8) fun x41 =>
    nm ((v0.toUInt32 >>> ((8 : Int32).toUInt32 &&& Int32.toUInt32 31)).toInt32) fun x47 =>
    J_J6_numberOfTrailingZeros_0f7a4_b49  x47 x41)
def J_J6_numberOfTrailingZeros_0f7a4 (v0 : Int32) : Option (Int32) :=
    nm (v0 ^^^ (-1 : Int32)) fun x2 =>
    nm (x2 &&& (v0 - (1 : Int32))) fun x6 =>
    if 0 < x6 then (
    if x6 ≤ (65536 : Int32) then (
    J_J6_numberOfTrailingZeros_0f7a4_b34  x6 (1 : Int32))
    else (
    nm ((1 : Int32) + Int32.ofInt 16) fun x26 =>
    nm ((x6.toUInt32 >>> ((16 : Int32).toUInt32 &&& Int32.toUInt32 31)).toInt32) fun x32 =>
    J_J6_numberOfTrailingZeros_0f7a4_b34  x32 x26))
    else (
    some (x6 &&& (32 : Int32)))
abbrev rmJ6_numberOfTrailingZeros_0f7a4 : Room := { frames := 0, cells := 0, slots := 0, locals := 0 }
set_option maxHeartbeats 4000000 in
set_option maxRecDepth 100000 in
theorem c_J6_numberOfTrailingZeros_0f7a4 (l : Launch) (D : va_G) (cI cJ cC cL : ClassId) (v0 : Int32) (r : Int32) (hJ : J_J6_numberOfTrailingZeros_0f7a4 v0 = some (r)) (sz : Nat) : Met l yJ6_numberOfTrailingZeros_0f7a4 wsJ6_numberOfTrailingZeros_0f7a4 rmJ6_numberOfTrailingZeros_0f7a4 (va_Pc [.int v0] (jpre XT D (tyL cI cJ cC cL) [] sz)) (va_Qi (fun r' (_ : Unit) => r' = r) (fun _ t => jpost D (tyL cI cJ cC cL) (va_A [] sz) [] t) (va_A [] sz)) 0 0 (va_A [] sz) := by
  refine jE_i (cc := cJ6_numberOfTrailingZeros_0f7a4) (maxL := 2) (own := RJ6) (ret := (some .int)) (lv0 := [(0, .int v0)]) (by decide) rfl rfl rfl (Nat.le_of_ble_eq_true rfl) rfl ?_
  intro p e s m args below meth c A Q ls hx hb hml hown hts hK hN hX hA hP hD hS hl hRet
  have hF : CallFix p m c cJ6_numberOfTrailingZeros_0f7a4 2 s args wsJ6_numberOfTrailingZeros_0f7a4 RJ6 := ⟨hx, hb, hml, hown, hts⟩
  have B74 : ∀ (v0 : Int32) (v1 : Int32) (H : Heap) (locs : List Loc), va_P D vwCl [] H → va_D A [] → va_S A s.heap H locs → ∀ ls : Array Slot, lv_has ls 2 [(0, .int v0), (1, .int v1)] → J_J6_numberOfTrailingZeros_0f7a4_b74   v0 v1 = some (r) → W p l e rmJ6_numberOfTrailingZeros_0f7a4 s m args below meth c H locs 0 0 Q (F0 m 74 ls []) := by
    intro v0 v1 H locs hP hD hS ls hl hJ
    unfold J_J6_numberOfTrailingZeros_0f7a4_b74 at hJ
    refine lv_iload_n hx hb dJ6_numberOfTrailingZeros_0f7a4_74 rfl (lv_at hl 1 rfl) ?_
    refine lv_iload_n hx hb dJ6_numberOfTrailingZeros_0f7a4_75 rfl (lv_at hl 0 rfl) ?_
    refine lv_iconst (v := (1 : Int32)) hx hb dJ6_numberOfTrailingZeros_0f7a4_76 (by decide) ?_
    refine lv_iushr (v := (v0.toUInt32 >>> ((1 : Int32).toUInt32 &&& Int32.toUInt32 31)).toInt32) hx hb dJ6_numberOfTrailingZeros_0f7a4_77 rfl ?_
    refine lv_iadd hx hb dJ6_numberOfTrailingZeros_0f7a4_78 ?_
    have e0 := Option.some.inj hJ
    exact hRet hP hD hS e0 dJ6_numberOfTrailingZeros_0f7a4_79
  have B62 : ∀ (v0 : Int32) (v1 : Int32) (H : Heap) (locs : List Loc), va_P D vwCl [] H → va_D A [] → va_S A s.heap H locs → ∀ ls : Array Slot, lv_has ls 2 [(0, .int v0), (1, .int v1)] → J_J6_numberOfTrailingZeros_0f7a4_b62   v0 v1 = some (r) → W p l e rmJ6_numberOfTrailingZeros_0f7a4 s m args below meth c H locs 0 0 Q (F0 m 62 ls []) := by
    intro v0 v1 H locs hP hD hS ls hl hJ
    unfold J_J6_numberOfTrailingZeros_0f7a4_b62 at hJ
    refine lv_iload_n hx hb dJ6_numberOfTrailingZeros_0f7a4_62 rfl (lv_at hl 0 rfl) ?_
    refine lv_iconst (v := (4 : Int32)) hx hb dJ6_numberOfTrailingZeros_0f7a4_63 (by decide) ?_
    refine jif_icmp_le (tgt := 74) hx hb dJ6_numberOfTrailingZeros_0f7a4_64 (by decide) hJ (fun hJ => ?_) (fun hJ => ?_)
    · exact B74  v0 v1  H locs  hP hD hS _ (lv_sub hl [0, 1] rfl) hJ
    · refine jt_iinc hJ (fun x67 ex67 hJ => ?_)
      refine lv_iinc (v := x67) (lv' := [(1, .int x67), (0, .int v0)]) hx hb dJ6_numberOfTrailingZeros_0f7a4_67 hl (k := 1) rfl ex67 (by decide) rfl (fun ls hl => ?_)
      refine lv_iload_n hx hb dJ6_numberOfTrailingZeros_0f7a4_70 rfl (lv_at hl 1 rfl) ?_
      refine lv_iconst (v := (2 : Int32)) hx hb dJ6_numberOfTrailingZeros_0f7a4_71 (by decide) ?_
      refine lv_iushr (v := (v0.toUInt32 >>> ((2 : Int32).toUInt32 &&& Int32.toUInt32 31)).toInt32) hx hb dJ6_numberOfTrailingZeros_0f7a4_72 rfl ?_
      refine jt_i hJ (fun x72 hJ => ?_)
      refine lv_istore_n (lv' := [(0, .int x72), (1, .int x67)]) hx hb dJ6_numberOfTrailingZeros_0f7a4_73 rfl hl (by decide) rfl (fun ls hl => ?_)
      exact B74  x72 x67  H locs  hP hD hS _ (lv_sub hl [0, 1] rfl) hJ
  have B49 : ∀ (v0 : Int32) (v1 : Int32) (H : Heap) (locs : List Loc), va_P D vwCl [] H → va_D A [] → va_S A s.heap H locs → ∀ ls : Array Slot, lv_has ls 2 [(0, .int v0), (1, .int v1)] → J_J6_numberOfTrailingZeros_0f7a4_b49   v0 v1 = some (r) → W p l e rmJ6_numberOfTrailingZeros_0f7a4 s m args below meth c H locs 0 0 Q (F0 m 49 ls []) := by
    intro v0 v1 H locs hP hD hS ls hl hJ
    unfold J_J6_numberOfTrailingZeros_0f7a4_b49 at hJ
    refine lv_iload_n hx hb dJ6_numberOfTrailingZeros_0f7a4_49 rfl (lv_at hl 0 rfl) ?_
    refine lv_bipush (v := (16 : Int32)) hx hb dJ6_numberOfTrailingZeros_0f7a4_50 (by decide) ?_
    refine jif_icmp_le (tgt := 62) hx hb dJ6_numberOfTrailingZeros_0f7a4_52 (by decide) hJ (fun hJ => ?_) (fun hJ => ?_)
    · exact B62  v0 v1  H locs  hP hD hS _ (lv_sub hl [0, 1] rfl) hJ
    · refine jt_iinc hJ (fun x55 ex55 hJ => ?_)
      refine lv_iinc (v := x55) (lv' := [(1, .int x55), (0, .int v0)]) hx hb dJ6_numberOfTrailingZeros_0f7a4_55 hl (k := 1) rfl ex55 (by decide) rfl (fun ls hl => ?_)
      refine lv_iload_n hx hb dJ6_numberOfTrailingZeros_0f7a4_58 rfl (lv_at hl 1 rfl) ?_
      refine lv_iconst (v := (4 : Int32)) hx hb dJ6_numberOfTrailingZeros_0f7a4_59 (by decide) ?_
      refine lv_iushr (v := (v0.toUInt32 >>> ((4 : Int32).toUInt32 &&& Int32.toUInt32 31)).toInt32) hx hb dJ6_numberOfTrailingZeros_0f7a4_60 rfl ?_
      refine jt_i hJ (fun x60 hJ => ?_)
      refine lv_istore_n (lv' := [(0, .int x60), (1, .int x55)]) hx hb dJ6_numberOfTrailingZeros_0f7a4_61 rfl hl (by decide) rfl (fun ls hl => ?_)
      exact B62  x60 x55  H locs  hP hD hS _ (lv_sub hl [0, 1] rfl) hJ
  have B34 : ∀ (v0 : Int32) (v1 : Int32) (H : Heap) (locs : List Loc), va_P D vwCl [] H → va_D A [] → va_S A s.heap H locs → ∀ ls : Array Slot, lv_has ls 2 [(0, .int v0), (1, .int v1)] → J_J6_numberOfTrailingZeros_0f7a4_b34   v0 v1 = some (r) → W p l e rmJ6_numberOfTrailingZeros_0f7a4 s m args below meth c H locs 0 0 Q (F0 m 34 ls []) := by
    intro v0 v1 H locs hP hD hS ls hl hJ
    unfold J_J6_numberOfTrailingZeros_0f7a4_b34 at hJ
    refine lv_iload_n hx hb dJ6_numberOfTrailingZeros_0f7a4_34 rfl (lv_at hl 0 rfl) ?_
    refine lv_sipush (v := (256 : Int32)) hx hb dJ6_numberOfTrailingZeros_0f7a4_35 (by decide) ?_
    refine jif_icmp_le (tgt := 49) hx hb dJ6_numberOfTrailingZeros_0f7a4_38 (by decide) hJ (fun hJ => ?_) (fun hJ => ?_)
    · exact B49  v0 v1  H locs  hP hD hS _ (lv_sub hl [0, 1] rfl) hJ
    · refine jt_iinc hJ (fun x41 ex41 hJ => ?_)
      refine lv_iinc (v := x41) (lv' := [(1, .int x41), (0, .int v0)]) hx hb dJ6_numberOfTrailingZeros_0f7a4_41 hl (k := 1) rfl ex41 (by decide) rfl (fun ls hl => ?_)
      refine lv_iload_n hx hb dJ6_numberOfTrailingZeros_0f7a4_44 rfl (lv_at hl 1 rfl) ?_
      refine lv_bipush (v := (8 : Int32)) hx hb dJ6_numberOfTrailingZeros_0f7a4_45 (by decide) ?_
      refine lv_iushr (v := (v0.toUInt32 >>> ((8 : Int32).toUInt32 &&& Int32.toUInt32 31)).toInt32) hx hb dJ6_numberOfTrailingZeros_0f7a4_47 rfl ?_
      refine jt_i hJ (fun x47 hJ => ?_)
      refine lv_istore_n (lv' := [(0, .int x47), (1, .int x41)]) hx hb dJ6_numberOfTrailingZeros_0f7a4_48 rfl hl (by decide) rfl (fun ls hl => ?_)
      exact B49  x47 x41  H locs  hP hD hS _ (lv_sub hl [0, 1] rfl) hJ
  unfold J_J6_numberOfTrailingZeros_0f7a4 at hJ
  refine lv_iload_n hx hb dJ6_numberOfTrailingZeros_0f7a4_0 rfl (lv_at hl 0 rfl) ?_
  refine lv_iconst (v := (-1 : Int32)) hx hb dJ6_numberOfTrailingZeros_0f7a4_1 (by decide) ?_
  refine lv_ixor hx hb dJ6_numberOfTrailingZeros_0f7a4_2 ?_
  refine jt_i hJ (fun x2 hJ => ?_)
  refine lv_iload_n hx hb dJ6_numberOfTrailingZeros_0f7a4_3 rfl (lv_at hl 0 rfl) ?_
  refine lv_iconst (v := (1 : Int32)) hx hb dJ6_numberOfTrailingZeros_0f7a4_4 (by decide) ?_
  refine lv_isub hx hb dJ6_numberOfTrailingZeros_0f7a4_5 ?_
  refine lv_iand hx hb dJ6_numberOfTrailingZeros_0f7a4_6 ?_
  refine jt_i hJ (fun x6 hJ => ?_)
  refine lv_istore_n (lv' := [(0, .int x6)]) hx hb dJ6_numberOfTrailingZeros_0f7a4_7 rfl hl (by decide) rfl (fun ls hl => ?_)
  refine lv_iload_n hx hb dJ6_numberOfTrailingZeros_0f7a4_8 rfl (lv_at hl 0 rfl) ?_
  refine jif_gt (tgt := 17) hx hb dJ6_numberOfTrailingZeros_0f7a4_9 (by decide) hJ (fun hJ => ?_) (fun hJ => ?_)
  · refine lv_iconst (v := (1 : Int32)) hx hb dJ6_numberOfTrailingZeros_0f7a4_17 (by decide) ?_
    refine lv_istore_n (lv' := [(1, .int (1 : Int32)), (0, .int x6)]) hx hb dJ6_numberOfTrailingZeros_0f7a4_18 rfl hl (by decide) rfl (fun ls hl => ?_)
    refine lv_iload_n hx hb dJ6_numberOfTrailingZeros_0f7a4_19 rfl (lv_at hl 1 rfl) ?_
    refine lv_ldcw (v := (65536 : Int32)) hx hb hown (hts (.constant RJ6 264 (65536 : Int32)) (by decide +kernel)) dJ6_numberOfTrailingZeros_0f7a4_20 ?_
    refine jif_icmp_le (tgt := 34) hx hb dJ6_numberOfTrailingZeros_0f7a4_23 (by decide) hJ (fun hJ => ?_) (fun hJ => ?_)
    · exact B34  x6 (1 : Int32)  s.heap []  hP hD hS _ (lv_sub hl [1, 0] rfl) hJ
    · refine jt_iinc hJ (fun x26 ex26 hJ => ?_)
      refine lv_iinc (v := x26) (lv' := [(1, .int x26), (0, .int x6)]) hx hb dJ6_numberOfTrailingZeros_0f7a4_26 hl (k := 0) rfl ex26 (by decide) rfl (fun ls hl => ?_)
      refine lv_iload_n hx hb dJ6_numberOfTrailingZeros_0f7a4_29 rfl (lv_at hl 1 rfl) ?_
      refine lv_bipush (v := (16 : Int32)) hx hb dJ6_numberOfTrailingZeros_0f7a4_30 (by decide) ?_
      refine lv_iushr (v := (x6.toUInt32 >>> ((16 : Int32).toUInt32 &&& Int32.toUInt32 31)).toInt32) hx hb dJ6_numberOfTrailingZeros_0f7a4_32 rfl ?_
      refine jt_i hJ (fun x32 hJ => ?_)
      refine lv_istore_n (lv' := [(0, .int x32), (1, .int x26)]) hx hb dJ6_numberOfTrailingZeros_0f7a4_33 rfl hl (by decide) rfl (fun ls hl => ?_)
      exact B34  x32 x26  s.heap []  hP hD hS _ (lv_sub hl [0, 1] rfl) hJ
  · refine lv_iload_n hx hb dJ6_numberOfTrailingZeros_0f7a4_12 rfl (lv_at hl 0 rfl) ?_
    refine lv_bipush (v := (32 : Int32)) hx hb dJ6_numberOfTrailingZeros_0f7a4_13 (by decide) ?_
    refine lv_iand hx hb dJ6_numberOfTrailingZeros_0f7a4_15 ?_
    have e0 := Option.some.inj hJ
    exact hRet hP hD hS e0 dJ6_numberOfTrailingZeros_0f7a4_16

def J_J0_coder_7d493_b14 (b0 : List Int32) (s14_0 : Int32) : Option (Int32) :=
    chz s14_0 (some (s14_0))
def J_J0_coder_7d493 (b0 : List Int32) : Option (Int32) :=
    if (1 : Int32) = 0 then (
    J_J0_coder_7d493_b14 b0 (1 : Int32))
    else (
    J_J0_coder_7d493_b14 b0 (0 : Int32))
abbrev rmJ0_coder_7d493 : Room := { frames := 0, cells := 0, slots := 0, locals := 0 }
set_option maxHeartbeats 4000000 in
set_option maxRecDepth 100000 in
theorem c_J0_coder_7d493 (l : Launch) (D : va_G) (cI cJ cC cL : ClassId) (qb0 : Nat) (b0 : List Int32) (r : Int32) (hJ : J_J0_coder_7d493 b0 = some (r)) (sz : Nat) : Met l yJ0_coder_7d493 wsJ0_coder_7d493 rmJ0_coder_7d493 (va_Pc [.ref qb0] (jpre (XP qb0 b0) D (tyL cI cJ cC cL) [] sz)) (va_Qi (fun r' (_ : Unit) => r' = r) (fun _ t => jpost D (tyL cI cJ cC cL) (va_A [] sz) [] t) (va_A [] sz)) 0 0 (va_A [] sz) := by
  refine jE_b (cc := cJ0_coder_7d493) (maxL := 1) (own := RJ0) (ret := (some .byte)) (lv0 := [(0, .ref qb0)]) (by decide) rfl rfl rfl (Nat.le_of_ble_eq_true rfl) rfl ?_
  intro p e s m args below meth c A Q ls hx hb hml hown hts hK hN hX hA hP hD hS hl hRet
  have hF : CallFix p m c cJ0_coder_7d493 1 s args wsJ0_coder_7d493 RJ0 := ⟨hx, hb, hml, hown, hts⟩
  have fl_15 := hts (.fieldLink RJ0 15 "java/lang/String" "coder" "B") (by decide +kernel)
  have fl_38 := hts (.fieldLink RJ0 38 "java/lang/String" "COMPACT_STRINGS" "Z") (by decide +kernel)
  have B14 : ∀ (s14_0 : Int32) (H : Heap) (locs : List Loc), va_P D vwCl [] H → va_D A [] → va_S A s.heap H locs → ∀ ls : Array Slot, lv_has ls 1 [] → J_J0_coder_7d493_b14  b0 s14_0 = some (r) → W p l e rmJ0_coder_7d493 s m args below meth c H locs 0 0 Q (F0 m 14 ls [.int s14_0]) := by
    intro s14_0 H locs hP hD hS ls hl hJ
    unfold J_J0_coder_7d493_b14 at hJ
    obtain ⟨h01, hJ⟩ := chz_ok hJ
    have e0 := Option.some.inj hJ
    exact hRet hP hD hS h01 e0 dJ0_coder_7d493_14
  unfold J_J0_coder_7d493 at hJ
  refine va_gets (v := .int 1) hx hb hX.1.1 hS hown fl_38 (fun _ h9 => h9) dJ0_coder_7d493_0 ?_
  refine jif_eq (tgt := 13) hx hb dJ0_coder_7d493_3 (by decide) hJ (fun hJ => ?_) (fun hJ => ?_)
  · refine lv_iconst (v := (1 : Int32)) hx hb dJ0_coder_7d493_13 (by decide) ?_
    exact B14  (1 : Int32)  s.heap []  hP hD hS _ (lv_sub hl [] rfl) hJ
  · refine lv_aload_n hx hb dJ0_coder_7d493_6 rfl (lv_at hl 0 rfl) ?_
    refine vk_getf (v := .int 0) hx hb (hX.2).2.1 hS hown fl_15 (fun _ h9 => h9) dJ0_coder_7d493_7 ?_
    refine lv_goto (tgt := 14) hx hb dJ0_coder_7d493_10 (by decide) ?_
    exact B14  (0 : Int32)  s.heap []  hP hD hS _ (lv_sub hl [] rfl) hJ

def J_J0_isLatin1_aae02_b18 (b0 : List Int32) (s18_0 : Int32) : Option (Int32) :=
    chz s18_0 (some (s18_0))
def J_J0_isLatin1_aae02_b17 (b0 : List Int32) : Option (Int32) :=
    J_J0_isLatin1_aae02_b18 b0 (0 : Int32)
def J_J0_isLatin1_aae02 (b0 : List Int32) : Option (Int32) :=
    if (1 : Int32) = 0 then (
    J_J0_isLatin1_aae02_b17 b0 )
    else (
    if (0 : Int32) = 0 then (
    J_J0_isLatin1_aae02_b18 b0 (1 : Int32))
    else (
    J_J0_isLatin1_aae02_b17 b0 ))
abbrev rmJ0_isLatin1_aae02 : Room := { frames := 0, cells := 0, slots := 0, locals := 0 }
set_option maxHeartbeats 4000000 in
set_option maxRecDepth 100000 in
theorem c_J0_isLatin1_aae02 (l : Launch) (D : va_G) (cI cJ cC cL : ClassId) (qb0 : Nat) (b0 : List Int32) (r : Int32) (hJ : J_J0_isLatin1_aae02 b0 = some (r)) (sz : Nat) : Met l yJ0_isLatin1_aae02 wsJ0_isLatin1_aae02 rmJ0_isLatin1_aae02 (va_Pc [.ref qb0] (jpre (XP qb0 b0) D (tyL cI cJ cC cL) [] sz)) (va_Qi (fun r' (_ : Unit) => r' = r) (fun _ t => jpost D (tyL cI cJ cC cL) (va_A [] sz) [] t) (va_A [] sz)) 0 0 (va_A [] sz) := by
  refine jE_z (cc := cJ0_isLatin1_aae02) (maxL := 1) (own := RJ0) (ret := (some .boolean)) (lv0 := [(0, .ref qb0)]) (by decide) rfl rfl rfl (Nat.le_of_ble_eq_true rfl) rfl ?_
  intro p e s m args below meth c A Q ls hx hb hml hown hts hK hN hX hA hP hD hS hl hRet
  have hF : CallFix p m c cJ0_isLatin1_aae02 1 s args wsJ0_isLatin1_aae02 RJ0 := ⟨hx, hb, hml, hown, hts⟩
  have fl_15 := hts (.fieldLink RJ0 15 "java/lang/String" "coder" "B") (by decide +kernel)
  have fl_38 := hts (.fieldLink RJ0 38 "java/lang/String" "COMPACT_STRINGS" "Z") (by decide +kernel)
  have B18 : ∀ (s18_0 : Int32) (H : Heap) (locs : List Loc), va_P D vwCl [] H → va_D A [] → va_S A s.heap H locs → ∀ ls : Array Slot, lv_has ls 1 [] → J_J0_isLatin1_aae02_b18  b0 s18_0 = some (r) → W p l e rmJ0_isLatin1_aae02 s m args below meth c H locs 0 0 Q (F0 m 18 ls [.int s18_0]) := by
    intro s18_0 H locs hP hD hS ls hl hJ
    unfold J_J0_isLatin1_aae02_b18 at hJ
    obtain ⟨h01, hJ⟩ := chz_ok hJ
    have e0 := Option.some.inj hJ
    exact hRet hP hD hS h01 e0 dJ0_isLatin1_aae02_18
  have B17 : ∀ (H : Heap) (locs : List Loc), va_P D vwCl [] H → va_D A [] → va_S A s.heap H locs → ∀ ls : Array Slot, lv_has ls 1 [] → J_J0_isLatin1_aae02_b17  b0  = some (r) → W p l e rmJ0_isLatin1_aae02 s m args below meth c H locs 0 0 Q (F0 m 17 ls []) := by
    intro H locs hP hD hS ls hl hJ
    unfold J_J0_isLatin1_aae02_b17 at hJ
    refine lv_iconst (v := (0 : Int32)) hx hb dJ0_isLatin1_aae02_17 (by decide) ?_
    exact B18  (0 : Int32)  H locs  hP hD hS _ (lv_sub hl [] rfl) hJ
  unfold J_J0_isLatin1_aae02 at hJ
  refine va_gets (v := .int 1) hx hb hX.1.1 hS hown fl_38 (fun _ h9 => h9) dJ0_isLatin1_aae02_0 ?_
  refine jif_eq (tgt := 17) hx hb dJ0_isLatin1_aae02_3 (by decide) hJ (fun hJ => ?_) (fun hJ => ?_)
  · exact B17    s.heap []  hP hD hS _ (lv_sub hl [] rfl) hJ
  · refine lv_aload_n hx hb dJ0_isLatin1_aae02_6 rfl (lv_at hl 0 rfl) ?_
    refine vk_getf (v := .int 0) hx hb (hX.2).2.1 hS hown fl_15 (fun _ h9 => h9) dJ0_isLatin1_aae02_7 ?_
    refine jif_ne (tgt := 17) hx hb dJ0_isLatin1_aae02_10 (by decide) hJ (fun hJ => ?_) (fun hJ => ?_)
    · exact B17    s.heap []  hP hD hS _ (lv_sub hl [] rfl) hJ
    · refine lv_iconst (v := (1 : Int32)) hx hb dJ0_isLatin1_aae02_13 (by decide) ?_
      refine lv_goto (tgt := 18) hx hb dJ0_isLatin1_aae02_14 (by decide) ?_
      exact B18  (1 : Int32)  s.heap []  hP hD hS _ (lv_sub hl [] rfl) hJ

def J_J0_length_8abf5 (b0 : List Int32) : Option (Int32) :=
    bnd1 (J_J0_coder_7d493 b0) fun x6 =>
    some ((Int32.ofNat b0.length) >>> (x6 &&& 31))
abbrev rmJ0_length_8abf5 : Room := { frames := 1, cells := 0, slots := 0, locals := 20 }
set_option maxHeartbeats 4000000 in
set_option maxRecDepth 100000 in
theorem c_J0_length_8abf5 (l : Launch) (D : va_G) (cI cJ cC cL : ClassId) (qb0 : Nat) (b0 : List Int32) (r : Int32) (hJ : J_J0_length_8abf5 b0 = some (r)) (sz : Nat) : Met l yJ0_length_8abf5 wsJ0_length_8abf5 rmJ0_length_8abf5 (va_Pc [.ref qb0] (jpre (XP qb0 b0) D (tyL cI cJ cC cL) [] sz)) (va_Qi (fun r' (_ : Unit) => r' = r) (fun _ t => jpost D (tyL cI cJ cC cL) (va_A [] sz) [] t) (va_A [] sz)) 0 0 (va_A [] sz) := by
  refine jE_i (cc := cJ0_length_8abf5) (maxL := 1) (own := RJ0) (ret := (some .int)) (lv0 := [(0, .ref qb0)]) (by decide) rfl rfl rfl (Nat.le_of_ble_eq_true rfl) rfl ?_
  intro p e s m args below meth c A Q ls hx hb hml hown hts hK hN hX hA hP hD hS hl hRet
  have hF : CallFix p m c cJ0_length_8abf5 1 s args wsJ0_length_8abf5 RJ0 := ⟨hx, hb, hml, hown, hts⟩
  have fl_9 := hts (.fieldLink RJ0 9 "java/lang/String" "value" "[B") (by decide +kernel)
  unfold J_J0_length_8abf5 at hJ
  refine lv_aload_n hx hb dJ0_length_8abf5_0 rfl (lv_at hl 0 rfl) ?_
  obtain ⟨qv1, hv1, hb1⟩ := (hX.2).2.2
  refine vk_getf (v := .ref qv1) hx hb hv1 hS hown fl_9 (fun _ h9 => h9) dJ0_length_8abf5_1 ?_
  refine va_tlen (v := Int32.ofNat b0.length) hx hb hb1 hS rfl dJ0_length_8abf5_4 ?_
  refine lv_aload_n hx hb dJ0_length_8abf5_5 rfl (lv_at hl 0 rfl) ?_
  obtain ⟨x6, hc6, hJ⟩ := bnd1_some hJ
  refine jcR_i (C := RJ0) (As := []) (rest := [.int (Int32.ofNat b0.length)]) (isC := []) (isR := []) (isB := []) (wr := []) (ws2 := []) hF (c_J0_coder_7d493 l D cI cJ cC cL qb0 b0 x6 hc6 s.heap.size) (cwV 0 hts gJ0_length_8abf5_J0_coder_7d493 rfl rfl rfl (by decide +kernel) ⟨Nat.le_of_ble_eq_true rfl, Nat.le_of_ble_eq_true rfl⟩) rfl hl rfl (Nat.le_of_ble_eq_true rfl) dJ0_length_8abf5_6 ⟨Nat.zero_le _, Nat.zero_le _⟩ hK hN KX_XP ⟨hX.1, hX.2⟩ hP hD hS hA (str_recv hX.2 hS) rfl rfl rfl rfl (by decide) rfl rfl (fun H locs hP hD hS => ?_)
  refine lv_ishr hx hb dJ0_length_8abf5_9 ?_
  have e0 := Option.some.inj hJ
  exact hRet hP hD hS e0 dJ0_length_8abf5_10

def J_J7_fill_53178_L5 (n0 : Nat) (v1 : Int32) : Nat → (Nat → Int32) → Int32 → Int32 → Option ((Nat → Int32))
  | 0, _, _, _ => none
  | nf + 1, a0, v2, v3 =>
    if v3 ≤ v2 then (
    some (a0))
    else (
    chk v2 n0 (
    nm (v2 + Int32.ofInt 1) fun x14 =>
    J_J7_fill_53178_L5 n0 v1 nf (upd a0 v2.toNatClampNeg v1) x14 v3))
def J_J7_fill_53178 (n0 : Nat) (a0 : Nat → Int32) (v1 : Int32) : Option ((Nat → Int32)) :=
    J_J7_fill_53178_L5 n0 v1 FU a0 (0 : Int32) (Int32.ofNat n0)
abbrev rmJ7_fill_53178 : Room := { frames := 0, cells := 0, slots := 0, locals := 0 }
set_option maxHeartbeats 4000000 in
set_option maxRecDepth 100000 in
theorem c_J7_fill_53178 (l : Launch) (D : va_G) (cI cJ cC cL : ClassId) (n0 : Nat) (q_a0 : Nat) (a0 : Nat → Int32) (v1 : Int32) (o_a0 : Nat → Int32) (hJ : J_J7_fill_53178 n0 a0 v1 = some (o_a0)) (sz : Nat) : Met l yJ7_fill_53178 wsJ7_fill_53178 rmJ7_fill_53178 (va_Pc [.ref q_a0, .int v1] (jpre XT D (tyL cI cJ cC cL) [(q_a0, .inl (cI, n0, .inl a0))] sz)) (va_Qv (fun (_ : Unit) => True) (fun _ t => jpost D (tyL cI cJ cC cL) (va_A [(q_a0, .inl (cI, n0, .inl a0))] sz) [(q_a0, .inl (cI, n0, .inl o_a0))] t) (va_A [(q_a0, .inl (cI, n0, .inl a0))] sz)) 0 0 (va_A [(q_a0, .inl (cI, n0, .inl a0))] sz) := by
  refine jE_v (cc := cJ7_fill_53178) (maxL := 4) (own := RJ7) (ret := none) (lv0 := [(0, .ref q_a0), (1, .int v1)]) (by decide) rfl rfl rfl (Nat.le_of_ble_eq_true rfl) rfl ?_
  intro p e s m args below meth c A Q ls hx hb hml hown hts hK hN hX hA hP hD hS hl hRet
  have hF : CallFix p m c cJ7_fill_53178 4 s args wsJ7_fill_53178 RJ7 := ⟨hx, hb, hml, hown, hts⟩
  have L5 : ∀ (nf : Nat), ∀ (a0 : Nat → Int32) (v2 : Int32) (v3 : Int32) (H : Heap) (locs : List Loc), va_P D vwCl [(q_a0, .inl (cI, n0, .inl a0))] H → va_D A [(q_a0, .inl (cI, n0, .inl a0))] → va_S A s.heap H locs → ∀ ls : Array Slot, lv_has ls 4 [(0, .ref q_a0), (1, .int v1), (2, .int v2), (3, .int v3)] → J_J7_fill_53178_L5  n0 v1 nf a0 v2 v3 = some (o_a0) → W p l e rmJ7_fill_53178 s m args below meth c H locs 0 0 Q (F0 m 5 ls []) := by
    intro nf
    induction nf with
    | zero =>
      intro a0 v2 v3 H locs hP hD hS ls hl hJ
      rw [J_J7_fill_53178_L5] at hJ
      cases hJ
    | succ nf ih =>
      intro a0 v2 v3 H locs hP hD hS ls hl hJ
      rw [J_J7_fill_53178_L5] at hJ
      refine lv_iload_n hx hb dJ7_fill_53178_5 rfl (lv_at hl 2 rfl) ?_
      refine lv_iload_n hx hb dJ7_fill_53178_6 rfl (lv_at hl 3 rfl) ?_
      refine jif_icmp_ge (tgt := 20) hx hb dJ7_fill_53178_7 (by decide) hJ (fun hJ => ?_) (fun hJ => ?_)
      · have e0 := Option.some.inj hJ
        exact hRet (by rw [← e0]; exact hP) (by rw [← e0]; exact hD) hS dJ7_fill_53178_20
      · refine lv_aload_n hx hb dJ7_fill_53178_10 rfl (lv_at hl 0 rfl) ?_
        refine lv_iload_n hx hb dJ7_fill_53178_11 rfl (lv_at hl 2 rfl) ?_
        refine lv_iload_n hx hb dJ7_fill_53178_12 rfl (lv_at hl 1 rfl) ?_
        obtain ⟨hin, hJ⟩ := chk_in hJ
        refine va_iast hx hb hK hP hD hS 0 0 rfl rfl hin dJ7_fill_53178_13 (fun H locs hP hD hS => ?_)
        have hP : va_P D vwCl [(q_a0, .inl (cI, n0, .inl (upd a0 v2.toNatClampNeg v1)))] H := hP
        have hD : va_D A [(q_a0, .inl (cI, n0, .inl (upd a0 v2.toNatClampNeg v1)))] := hD
        refine jt_iinc hJ (fun x14 ex14 hJ => ?_)
        refine lv_iinc (v := x14) (lv' := [(2, .int x14), (0, .ref q_a0), (1, .int v1), (3, .int v3)]) hx hb dJ7_fill_53178_14 hl (k := 2) rfl ex14 (by decide) rfl (fun ls hl => ?_)
        refine lv_goto (tgt := 5) hx hb dJ7_fill_53178_17 (by decide) ?_
        exact ih (upd a0 v2.toNatClampNeg v1) x14 v3  H locs  hP hD hS _ (lv_sub hl [1, 2, 0, 3] rfl) hJ
  unfold J_J7_fill_53178 at hJ
  refine lv_iconst (v := (0 : Int32)) hx hb dJ7_fill_53178_0 (by decide) ?_
  refine lv_istore_n (lv' := [(2, .int (0 : Int32)), (0, .ref q_a0), (1, .int v1)]) hx hb dJ7_fill_53178_1 rfl hl (by decide) rfl (fun ls hl => ?_)
  refine lv_aload_n hx hb dJ7_fill_53178_2 rfl (lv_at hl 1 rfl) ?_
  refine va_alen (v := (Int32.ofNat n0)) hx hb hK hP 0 0 rfl rfl rfl dJ7_fill_53178_3 ?_
  refine lv_istore_n (lv' := [(3, .int (Int32.ofNat n0)), (2, .int (0 : Int32)), (0, .ref q_a0), (1, .int v1)]) hx hb dJ7_fill_53178_4 rfl hl (by decide) rfl (fun ls hl => ?_)
  exact L5  FU a0 (0 : Int32) (Int32.ofNat n0)  s.heap []  hP hD hS _ (lv_sub hl [2, 3, 1, 0] rfl) hJ

def J_J3_checkIndex_8e157_b9 (v0 : Int32) (v1 : Int32) : Option (Int32) :=
    none
def J_J3_checkIndex_8e157 (v0 : Int32) (v1 : Int32) : Option (Int32) :=
    if v0 < 0 then (
    J_J3_checkIndex_8e157_b9 v0 v1 )
    else (
    if v0 < v1 then (
    some (v0))
    else (
    J_J3_checkIndex_8e157_b9 v0 v1 ))
abbrev rmJ3_checkIndex_8e157 : Room := { frames := 0, cells := 0, slots := 0, locals := 0 }
set_option maxHeartbeats 4000000 in
set_option maxRecDepth 100000 in
theorem c_J3_checkIndex_8e157 (l : Launch) (D : va_G) (cI cJ cC cL : ClassId) (fo2 : Option Nat) (v0 : Int32) (v1 : Int32) (r : Int32) (hJ : J_J3_checkIndex_8e157 v0 v1 = some (r)) (sz : Nat) : Met l yJ3_checkIndex_8e157 wsJ3_checkIndex_8e157 rmJ3_checkIndex_8e157 (va_Pc [.int v0, .int v1, va_rf fo2] (jpre XT D (tyL cI cJ cC cL) [] sz)) (va_Qi (fun r' (_ : Unit) => r' = r) (fun _ t => jpost D (tyL cI cJ cC cL) (va_A [] sz) [] t) (va_A [] sz)) 0 0 (va_A [] sz) := by
  refine jE_i (cc := cJ3_checkIndex_8e157) (maxL := 3) (own := RJ3) (ret := (some .int)) (lv0 := [(0, .int v0), (1, .int v1), (2, va_rf fo2)]) (by decide) rfl rfl rfl (by cases fo2 <;> exact Nat.le_of_ble_eq_true rfl) rfl ?_
  intro p e s m args below meth c A Q ls hx hb hml hown hts hK hN hX hA hP hD hS hl hRet
  have hF : CallFix p m c cJ3_checkIndex_8e157 3 s args wsJ3_checkIndex_8e157 RJ3 := ⟨hx, hb, hml, hown, hts⟩
  have B9 : ∀ (H : Heap) (locs : List Loc), va_P D vwCl [] H → va_D A [] → va_S A s.heap H locs → ∀ ls : Array Slot, lv_has ls 3 [(0, .int v0), (1, .int v1), (2, va_rf fo2)] → J_J3_checkIndex_8e157_b9  v0 v1  = some (r) → W p l e rmJ3_checkIndex_8e157 s m args below meth c H locs 0 0 Q (F0 m 9 ls []) := by
    intro H locs hP hD hS ls hl hJ
    unfold J_J3_checkIndex_8e157_b9 at hJ
    cases hJ
  unfold J_J3_checkIndex_8e157 at hJ
  refine lv_iload_n hx hb dJ3_checkIndex_8e157_0 rfl (lv_at hl 0 rfl) ?_
  refine jif_lt (tgt := 9) hx hb dJ3_checkIndex_8e157_1 (by decide) hJ (fun hJ => ?_) (fun hJ => ?_)
  · exact B9    s.heap []  hP hD hS _ (lv_sub hl [0, 1, 2] rfl) hJ
  · refine lv_iload_n hx hb dJ3_checkIndex_8e157_4 rfl (lv_at hl 0 rfl) ?_
    refine lv_iload_n hx hb dJ3_checkIndex_8e157_5 rfl (lv_at hl 1 rfl) ?_
    refine jif_icmp_lt (tgt := 16) hx hb dJ3_checkIndex_8e157_6 (by decide) hJ (fun hJ => ?_) (fun hJ => ?_)
    · refine lv_iload_n hx hb dJ3_checkIndex_8e157_16 rfl (lv_at hl 0 rfl) ?_
      have e0 := Option.some.inj hJ
      exact hRet hP hD hS e0 dJ3_checkIndex_8e157_17
    · exact B9    s.heap []  hP hD hS _ (lv_sub hl [0, 1, 2] rfl) hJ

def J_J0_checkIndex_df160 (v0 : Int32) (v1 : Int32) : Option (Unit) :=
    bnd1 (J_J3_checkIndex_8e157 v0 v1) fun x5 =>
    some ()
abbrev rmJ0_checkIndex_df160 : Room := { frames := 1, cells := 0, slots := 0, locals := 22 }
set_option maxHeartbeats 4000000 in
set_option maxRecDepth 100000 in
theorem c_J0_checkIndex_df160 (l : Launch) (D : va_G) (cI cJ cC cL : ClassId) (v0 : Int32) (v1 : Int32) (hJ : J_J0_checkIndex_df160 v0 v1 = some ()) (sz : Nat) : Met l yJ0_checkIndex_df160 wsJ0_checkIndex_df160 rmJ0_checkIndex_df160 (va_Pc [.int v0, .int v1] (jpre XZ D (tyL cI cJ cC cL) [] sz)) (va_Qv (fun (_ : Unit) => True) (fun _ t => jpost D (tyL cI cJ cC cL) (va_A [] sz) [] t) (va_A [] sz)) 0 0 (va_A [] sz) := by
  refine jE_v (cc := cJ0_checkIndex_df160) (maxL := 2) (own := RJ0) (ret := none) (lv0 := [(0, .int v0), (1, .int v1)]) (by decide) rfl rfl rfl (Nat.le_of_ble_eq_true rfl) rfl ?_
  intro p e s m args below meth c A Q ls hx hb hml hown hts hK hN hX hA hP hD hS hl hRet
  have hF : CallFix p m c cJ0_checkIndex_df160 2 s args wsJ0_checkIndex_df160 RJ0 := ⟨hx, hb, hml, hown, hts⟩
  have fl_1053 := hts (.fieldLink RJ0 1053 "jdk/internal/util/Preconditions" "SIOOBE_FORMATTER" "Ljava/util/function/BiFunction;") (by decide +kernel)
  unfold J_J0_checkIndex_df160 at hJ
  refine lv_iload_n hx hb dJ0_checkIndex_df160_0 rfl (lv_at hl 0 rfl) ?_
  refine lv_iload_n hx hb dJ0_checkIndex_df160_1 rfl (lv_at hl 1 rfl) ?_
  obtain ⟨fo2, hfo2⟩ := Zq_rf hX.2
  refine va_gets (v := va_rf fo2) hx hb hfo2 hS hown fl_1053 (fun _ h9 => h9) dJ0_checkIndex_df160_2 ?_
  obtain ⟨x5, hc5, hJ⟩ := bnd1_some hJ
  refine jcS_i (As := [.int v0, .int v1, va_rf fo2]) (rest := []) (isC := []) (isR := []) (isB := []) (wr := []) (ws2 := []) hF (c_J3_checkIndex_8e157 l D cI cJ cC cL fo2 v0 v1 x5 hc5 s.heap.size) (va_cwS 3 hts gJ0_checkIndex_df160_J3_checkIndex_8e157 rfl rfl rfl (by decide +kernel) ⟨Nat.le_of_ble_eq_true rfl, Nat.le_of_ble_eq_true rfl⟩) rfl hl rfl (Nat.le_of_ble_eq_true rfl) dJ0_checkIndex_df160_5 ⟨Nat.zero_le _, Nat.zero_le _⟩ hK hN KX_T trivial hP hD hS hA rfl rfl rfl rfl (by decide) rfl rfl (fun H locs hP hD hS => ?_)
  refine lv_pop hx hb dJ0_checkIndex_df160_8 rfl ?_
  exact hRet hP hD hS dJ0_checkIndex_df160_9

def J_J1_charAt_3b067 (b0 : List Int32) (v1 : Int32) : Option (Int32) :=
    bnd0 (J_J0_checkIndex_df160 v1 (Int32.ofNat b0.length)) (
    chk v1 b0.length (
    nm (b0.getD v1.toNatClampNeg 0) fun x8 =>
    chc (((x8 &&& (255 : Int32)).toUInt32 % 65536).toInt32) (some (((x8 &&& (255 : Int32)).toUInt32 % 65536).toInt32))))
abbrev rmJ1_charAt_3b067 : Room := { frames := 2, cells := 0, slots := 0, locals := 43 }
set_option maxHeartbeats 4000000 in
set_option maxRecDepth 100000 in
theorem c_J1_charAt_3b067 (l : Launch) (D : va_G) (cI cJ cC cL : ClassId) (qb0 : Nat) (b0 : List Int32) (v1 : Int32) (r : Int32) (hJ : J_J1_charAt_3b067 b0 v1 = some (r)) (sz : Nat) : Met l yJ1_charAt_3b067 wsJ1_charAt_3b067 rmJ1_charAt_3b067 (va_Pc [.ref qb0, .int v1] (jpre (XB qb0 b0) D (tyL cI cJ cC cL) [] sz)) (va_Qi (fun r' (_ : Unit) => r' = r) (fun _ t => jpost D (tyL cI cJ cC cL) (va_A [] sz) [] t) (va_A [] sz)) 0 0 (va_A [] sz) := by
  refine jE_c (cc := cJ1_charAt_3b067) (maxL := 2) (own := RJ1) (ret := (some .char)) (lv0 := [(0, .ref qb0), (1, .int v1)]) (by decide) rfl rfl rfl (Nat.le_of_ble_eq_true rfl) rfl ?_
  intro p e s m args below meth c A Q ls hx hb hml hown hts hK hN hX hA hP hD hS hl hRet
  have hF : CallFix p m c cJ1_charAt_3b067 2 s args wsJ1_charAt_3b067 RJ1 := ⟨hx, hb, hml, hown, hts⟩
  unfold J_J1_charAt_3b067 at hJ
  refine lv_iload_n hx hb dJ1_charAt_3b067_0 rfl (lv_at hl 1 rfl) ?_
  refine lv_aload_n hx hb dJ1_charAt_3b067_1 rfl (lv_at hl 0 rfl) ?_
  refine va_tlen (v := Int32.ofNat b0.length) hx hb hX.2 hS rfl dJ1_charAt_3b067_2 ?_
  obtain ⟨hc3, hJ⟩ := bnd0_some hJ
  refine jcS_v (As := [.int v1, .int (Int32.ofNat b0.length)]) (rest := []) (isC := []) (isR := []) (isB := []) (wr := []) (ws2 := []) hF (c_J0_checkIndex_df160 l D cI cJ cC cL v1 (Int32.ofNat b0.length) hc3 s.heap.size) (va_cwS 2 hts gJ1_charAt_3b067_J0_checkIndex_df160 rfl rfl rfl (by decide +kernel) ⟨Nat.le_of_ble_eq_true rfl, Nat.le_of_ble_eq_true rfl⟩) rfl hl rfl (Nat.le_of_ble_eq_true rfl) dJ1_charAt_3b067_3 ⟨Nat.zero_le _, Nat.zero_le _⟩ hK hN KX_XZ hX.1 hP hD hS hA rfl rfl rfl rfl (by decide) rfl rfl (fun H locs hP hD hS => ?_)
  refine lv_aload_n hx hb dJ1_charAt_3b067_6 rfl (lv_at hl 0 rfl) ?_
  refine lv_iload_n hx hb dJ1_charAt_3b067_7 rfl (lv_at hl 1 rfl) ?_
  obtain ⟨hin, hJ⟩ := chk_in hJ
  refine va_tb (v := .int (b0.getD v1.toNatClampNeg 0)) hx hb hX.2 hS hin rfl dJ1_charAt_3b067_8 ?_
  refine jt_i hJ (fun x8 hJ => ?_)
  refine lv_sipush (v := (255 : Int32)) hx hb dJ1_charAt_3b067_9 (by decide) ?_
  refine lv_iand hx hb dJ1_charAt_3b067_12 ?_
  refine lv_i2c (v := ((x8 &&& (255 : Int32)).toUInt32 % 65536).toInt32) hx hb dJ1_charAt_3b067_13 rfl ?_
  obtain ⟨h01, hJ⟩ := chc_ok hJ
  have e0 := Option.some.inj hJ
  exact hRet hP hD hS h01 e0 dJ1_charAt_3b067_14

def J_J0_charAt_5068e (b0 : List Int32) (v1 : Int32) : Option (Int32) :=
    bnd1 (J_J0_isLatin1_aae02 b0) fun x1 =>
    if x1 = 0 then (
    none)
    else (
    bnd1 (J_J1_charAt_3b067 b0 v1) fun x12 =>
    chc x12 (some (x12)))
abbrev rmJ0_charAt_5068e : Room := { frames := 3, cells := 0, slots := 0, locals := 64 }
set_option maxHeartbeats 4000000 in
set_option maxRecDepth 100000 in
theorem c_J0_charAt_5068e (l : Launch) (D : va_G) (cI cJ cC cL : ClassId) (qb0 : Nat) (b0 : List Int32) (v1 : Int32) (r : Int32) (hJ : J_J0_charAt_5068e b0 v1 = some (r)) (sz : Nat) : Met l yJ0_charAt_5068e wsJ0_charAt_5068e rmJ0_charAt_5068e (va_Pc [.ref qb0, .int v1] (jpre (XP qb0 b0) D (tyL cI cJ cC cL) [] sz)) (va_Qi (fun r' (_ : Unit) => r' = r) (fun _ t => jpost D (tyL cI cJ cC cL) (va_A [] sz) [] t) (va_A [] sz)) 0 0 (va_A [] sz) := by
  refine jE_c (cc := cJ0_charAt_5068e) (maxL := 2) (own := RJ0) (ret := (some .char)) (lv0 := [(0, .ref qb0), (1, .int v1)]) (by decide) rfl rfl rfl (Nat.le_of_ble_eq_true rfl) rfl ?_
  intro p e s m args below meth c A Q ls hx hb hml hown hts hK hN hX hA hP hD hS hl hRet
  have hF : CallFix p m c cJ0_charAt_5068e 2 s args wsJ0_charAt_5068e RJ0 := ⟨hx, hb, hml, hown, hts⟩
  have fl_9 := hts (.fieldLink RJ0 9 "java/lang/String" "value" "[B") (by decide +kernel)
  unfold J_J0_charAt_5068e at hJ
  refine lv_aload_n hx hb dJ0_charAt_5068e_0 rfl (lv_at hl 0 rfl) ?_
  obtain ⟨x1, hc1, hJ⟩ := bnd1_some hJ
  refine jcR_i (C := RJ0) (As := []) (rest := []) (isC := []) (isR := []) (isB := []) (wr := []) (ws2 := []) hF (c_J0_isLatin1_aae02 l D cI cJ cC cL qb0 b0 x1 hc1 s.heap.size) (cwV 0 hts gJ0_charAt_5068e_J0_isLatin1_aae02 rfl rfl rfl (by decide +kernel) ⟨Nat.le_of_ble_eq_true rfl, Nat.le_of_ble_eq_true rfl⟩) rfl hl rfl (Nat.le_of_ble_eq_true rfl) dJ0_charAt_5068e_1 ⟨Nat.zero_le _, Nat.zero_le _⟩ hK hN KX_XP ⟨hX.1, hX.2⟩ hP hD hS hA (str_recv hX.2 hS) rfl rfl rfl rfl (by decide) rfl rfl (fun H locs hP hD hS => ?_)
  refine jif_eq (tgt := 16) hx hb dJ0_charAt_5068e_4 (by decide) hJ (fun hJ => ?_) (fun hJ => ?_)
  · cases hJ
  · refine lv_aload_n hx hb dJ0_charAt_5068e_7 rfl (lv_at hl 0 rfl) ?_
    obtain ⟨qv8, hv8, hb8⟩ := (hX.2).2.2
    refine vk_getf (v := .ref qv8) hx hb hv8 hS hown fl_9 (fun _ h9 => h9) dJ0_charAt_5068e_8 ?_
    refine lv_iload_n hx hb dJ0_charAt_5068e_11 rfl (lv_at hl 1 rfl) ?_
    obtain ⟨x12, hc12, hJ⟩ := bnd1_some hJ
    refine jcS_i (As := [.ref qv8, .int v1]) (rest := []) (isC := []) (isR := []) (isB := []) (wr := []) (ws2 := []) hF (c_J1_charAt_3b067 l D cI cJ cC cL qv8 b0 v1 x12 hc12 H.size) (va_cwS 2 hts gJ0_charAt_5068e_J1_charAt_3b067 rfl rfl rfl (by decide +kernel) ⟨Nat.le_of_ble_eq_true rfl, Nat.le_of_ble_eq_true rfl⟩) rfl hl rfl (Nat.le_of_ble_eq_true rfl) dJ0_charAt_5068e_12 ⟨Nat.zero_le _, Nat.zero_le _⟩ hK hN KX_XB ⟨hX.1, hb8⟩ hP hD hS hA rfl rfl rfl rfl (by decide) rfl rfl (fun H locs hP hD hS => ?_)
    obtain ⟨h01, hJ⟩ := chc_ok hJ
    have e0 := Option.some.inj hJ
    exact hRet hP hD hS h01 e0 dJ0_charAt_5068e_15


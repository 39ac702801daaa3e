def J_J6_bitCount_0f7a4 (v0 : Int32) : Option (Int32) :=
    nm ((v0.toUInt32 >>> ((1 : Int32).toUInt32 &&& Int32.toUInt32 31)).toInt32) fun x3 =>
    nm (v0 - (x3 &&& (1431655765 : Int32))) fun x8 =>
    nm (x8 &&& (858993459 : Int32)) fun x14 =>
    nm ((x8.toUInt32 >>> ((2 : Int32).toUInt32 &&& Int32.toUInt32 31)).toInt32) fun x17 =>
    nm (x14 + (x17 &&& (858993459 : Int32))) fun x22 =>
    nm (x22 + ((x22.toUInt32 >>> ((4 : Int32).toUInt32 &&& Int32.toUInt32 31)).toInt32)) fun x28 =>
    nm (x28 &&& (252645135 : Int32)) fun x32 =>
    nm (x32 + ((x32.toUInt32 >>> ((8 : Int32).toUInt32 &&& Int32.toUInt32 31)).toInt32)) fun x39 =>
    nm (x39 + ((x39.toUInt32 >>> ((16 : Int32).toUInt32 &&& Int32.toUInt32 31)).toInt32)) fun x46 =>
    some (x46 &&& (63 : Int32))
abbrev rmJ6_bitCount_0f7a4 : Room := { frames := 0, cells := 0, slots := 0, locals := 0 }
set_option maxHeartbeats 4000000 in
set_option maxRecDepth 100000 in
theorem c_J6_bitCount_0f7a4 (l : Launch) (D : va_G) (cI cJ cC cL : ClassId) (v0 : Int32) (r : Int32) (hJ : J_J6_bitCount_0f7a4 v0 = some (r)) (sz : Nat) : Met l yJ6_bitCount_0f7a4 wsJ6_bitCount_0f7a4 rmJ6_bitCount_0f7a4 (va_Pc [.int v0] (jpre XT D (tyL cI cJ cC cL) [] sz)) (va_Qi (fun r' (_ : Unit) => r' = r) (fun _ t => jpost D (tyL cI cJ cC cL) (va_A [] sz) [] t) (va_A [] sz)) 0 0 (va_A [] sz) := by
  refine jE_i (cc := cJ6_bitCount_0f7a4) (maxL := 1) (own := RJ6) (ret := (some .int)) (lv0 := [(0, .int v0)]) (by decide) rfl rfl rfl (Nat.le_of_ble_eq_true rfl) rfl ?_
  intro p e s m args below meth c A Q ls hx hb hml hown hts hK hN hX hA hP hD hS hl hRet
  have hF : CallFix p m c cJ6_bitCount_0f7a4 1 s args wsJ6_bitCount_0f7a4 RJ6 := ⟨hx, hb, hml, hown, hts⟩
  unfold J_J6_bitCount_0f7a4 at hJ
  refine lv_iload_n hx hb dJ6_bitCount_0f7a4_0 rfl (lv_at hl 0 rfl) ?_
  refine lv_iload_n hx hb dJ6_bitCount_0f7a4_1 rfl (lv_at hl 0 rfl) ?_
  refine lv_iconst (v := (1 : Int32)) hx hb dJ6_bitCount_0f7a4_2 (by decide) ?_
  refine lv_iushr (v := (v0.toUInt32 >>> ((1 : Int32).toUInt32 &&& Int32.toUInt32 31)).toInt32) hx hb dJ6_bitCount_0f7a4_3 rfl ?_
  refine jt_i hJ (fun x3 hJ => ?_)
  refine lv_ldcw (v := (1431655765 : Int32)) hx hb hown (hts (.constant RJ6 265 (1431655765 : Int32)) (by decide +kernel)) dJ6_bitCount_0f7a4_4 ?_
  refine lv_iand hx hb dJ6_bitCount_0f7a4_7 ?_
  refine lv_isub hx hb dJ6_bitCount_0f7a4_8 ?_
  refine jt_i hJ (fun x8 hJ => ?_)
  refine lv_istore_n (lv' := [(0, .int x8)]) hx hb dJ6_bitCount_0f7a4_9 rfl hl (by decide) rfl (fun ls hl => ?_)
  refine lv_iload_n hx hb dJ6_bitCount_0f7a4_10 rfl (lv_at hl 0 rfl) ?_
  refine lv_ldcw (v := (858993459 : Int32)) hx hb hown (hts (.constant RJ6 266 (858993459 : Int32)) (by decide +kernel)) dJ6_bitCount_0f7a4_11 ?_
  refine lv_iand hx hb dJ6_bitCount_0f7a4_14 ?_
  refine jt_i hJ (fun x14 hJ => ?_)
  refine lv_iload_n hx hb dJ6_bitCount_0f7a4_15 rfl (lv_at hl 0 rfl) ?_
  refine lv_iconst (v := (2 : Int32)) hx hb dJ6_bitCount_0f7a4_16 (by decide) ?_
  refine lv_iushr (v := (x8.toUInt32 >>> ((2 : Int32).toUInt32 &&& Int32.toUInt32 31)).toInt32) hx hb dJ6_bitCount_0f7a4_17 rfl ?_
  refine jt_i hJ (fun x17 hJ => ?_)
  refine lv_ldcw (v := (858993459 : Int32)) hx hb hown (hts (.constant RJ6 266 (858993459 : Int32)) (by decide +kernel)) dJ6_bitCount_0f7a4_18 ?_
  refine lv_iand hx hb dJ6_bitCount_0f7a4_21 ?_
  refine lv_iadd hx hb dJ6_bitCount_0f7a4_22 ?_
  refine jt_i hJ (fun x22 hJ => ?_)
  refine lv_istore_n (lv' := [(0, .int x22)]) hx hb dJ6_bitCount_0f7a4_23 rfl hl (by decide) rfl (fun ls hl => ?_)
  refine lv_iload_n hx hb dJ6_bitCount_0f7a4_24 rfl (lv_at hl 0 rfl) ?_
  refine lv_iload_n hx hb dJ6_bitCount_0f7a4_25 rfl (lv_at hl 0 rfl) ?_
  refine lv_iconst (v := (4 : Int32)) hx hb dJ6_bitCount_0f7a4_26 (by decide) ?_
  refine lv_iushr (v := (x22.toUInt32 >>> ((4 : Int32).toUInt32 &&& Int32.toUInt32 31)).toInt32) hx hb dJ6_bitCount_0f7a4_27 rfl ?_
  refine lv_iadd hx hb dJ6_bitCount_0f7a4_28 ?_
  refine jt_i hJ (fun x28 hJ => ?_)
  refine lv_ldcw (v := (252645135 : Int32)) hx hb hown (hts (.constant RJ6 267 (252645135 : Int32)) (by decide +kernel)) dJ6_bitCount_0f7a4_29 ?_
  refine lv_iand hx hb dJ6_bitCount_0f7a4_32 ?_
  refine jt_i hJ (fun x32 hJ => ?_)
  refine lv_istore_n (lv' := [(0, .int x32)]) hx hb dJ6_bitCount_0f7a4_33 rfl hl (by decide) rfl (fun ls hl => ?_)
  refine lv_iload_n hx hb dJ6_bitCount_0f7a4_34 rfl (lv_at hl 0 rfl) ?_
  refine lv_iload_n hx hb dJ6_bitCount_0f7a4_35 rfl (lv_at hl 0 rfl) ?_
  refine lv_bipush (v := (8 : Int32)) hx hb dJ6_bitCount_0f7a4_36 (by decide) ?_
  refine lv_iushr (v := (x32.toUInt32 >>> ((8 : Int32).toUInt32 &&& Int32.toUInt32 31)).toInt32) hx hb dJ6_bitCount_0f7a4_38 rfl ?_
  refine lv_iadd hx hb dJ6_bitCount_0f7a4_39 ?_
  refine jt_i hJ (fun x39 hJ => ?_)
  refine lv_istore_n (lv' := [(0, .int x39)]) hx hb dJ6_bitCount_0f7a4_40 rfl hl (by decide) rfl (fun ls hl => ?_)
  refine lv_iload_n hx hb dJ6_bitCount_0f7a4_41 rfl (lv_at hl 0 rfl) ?_
  refine lv_iload_n hx hb dJ6_bitCount_0f7a4_42 rfl (lv_at hl 0 rfl) ?_
  refine lv_bipush (v := (16 : Int32)) hx hb dJ6_bitCount_0f7a4_43 (by decide) ?_
  refine lv_iushr (v := (x39.toUInt32 >>> ((16 : Int32).toUInt32 &&& Int32.toUInt32 31)).toInt32) hx hb dJ6_bitCount_0f7a4_45 rfl ?_
  refine lv_iadd hx hb dJ6_bitCount_0f7a4_46 ?_
  refine jt_i hJ (fun x46 hJ => ?_)
  refine lv_istore_n (lv' := [(0, .int x46)]) hx hb dJ6_bitCount_0f7a4_47 rfl hl (by decide) rfl (fun ls hl => ?_)
  refine lv_iload_n hx hb dJ6_bitCount_0f7a4_48 rfl (lv_at hl 0 rfl) ?_
  refine lv_bipush (v := (63 : Int32)) hx hb dJ6_bitCount_0f7a4_49 (by decide) ?_
  refine lv_iand hx hb dJ6_bitCount_0f7a4_51 ?_
  have e0 := Option.some.inj hJ
  exact hRet hP hD hS e0 dJ6_bitCount_0f7a4_52

def J_J6_stringSize_0f7a4_L16  : Nat → Int32 → Int32 → Int32 → Int32 → Option (Int32)
  | 0, _, _, _, _ => none
  | nf + 1, v0, v1, v2, v3 =>
    if (10 : Int32) ≤ v3 then (
    some ((10 : Int32) + v1))
    else (
    if v0 ≤ v2 then (
    nm ((10 : Int32) * v2) fun x34 =>
    nm (v3 + Int32.ofInt 1) fun x36 =>
    J_J6_stringSize_0f7a4_L16  nf v0 v1 x34 x36)
    else (
    some (v3 + v1)))
def J_J6_stringSize_0f7a4_b11 (v0 : Int32) (v1 : Int32) : Option (Int32) :=
    J_J6_stringSize_0f7a4_L16  FU v0 v1 (-10 : Int32) (1 : Int32)
def J_J6_stringSize_0f7a4 (v0 : Int32) : Option (Int32) :=
    if v0 < 0 then (
    J_J6_stringSize_0f7a4_b11  v0 (1 : Int32))
    else (
    nm (-v0) fun x9 =>
    J_J6_stringSize_0f7a4_b11  x9 (0 : Int32))
abbrev rmJ6_stringSize_0f7a4 : Room := { frames := 0, cells := 0, slots := 0, locals := 0 }
set_option maxHeartbeats 4000000 in
set_option maxRecDepth 100000 in
theorem c_J6_stringSize_0f7a4 (l : Launch) (D : va_G) (cI cJ cC cL : ClassId) (v0 : Int32) (r : Int32) (hJ : J_J6_stringSize_0f7a4 v0 = some (r)) (sz : Nat) : Met l yJ6_stringSize_0f7a4 wsJ6_stringSize_0f7a4 rmJ6_stringSize_0f7a4 (va_Pc [.int v0] (jpre XT D (tyL cI cJ cC cL) [] sz)) (va_Qi (fun r' (_ : Unit) => r' = r) (fun _ t => jpost D (tyL cI cJ cC cL) (va_A [] sz) [] t) (va_A [] sz)) 0 0 (va_A [] sz) := by
  refine jE_i (cc := cJ6_stringSize_0f7a4) (maxL := 4) (own := RJ6) (ret := (some .int)) (lv0 := [(0, .int v0)]) (by decide) rfl rfl rfl (Nat.le_of_ble_eq_true rfl) rfl ?_
  intro p e s m args below meth c A Q ls hx hb hml hown hts hK hN hX hA hP hD hS hl hRet
  have hF : CallFix p m c cJ6_stringSize_0f7a4 4 s args wsJ6_stringSize_0f7a4 RJ6 := ⟨hx, hb, hml, hown, hts⟩
  have L16 : ∀ (nf : Nat), ∀ (v0 : Int32) (v1 : Int32) (v2 : Int32) (v3 : Int32) (H : Heap) (locs : List Loc), va_P D vwCl [] H → va_D A [] → va_S A s.heap H locs → ∀ ls : Array Slot, lv_has ls 4 [(0, .int v0), (1, .int v1), (2, .int v2), (3, .int v3)] → J_J6_stringSize_0f7a4_L16   nf v0 v1 v2 v3 = some (r) → W p l e rmJ6_stringSize_0f7a4 s m args below meth c H locs 0 0 Q (F0 m 16 ls []) := by
    intro nf
    induction nf with
    | zero =>
      intro v0 v1 v2 v3 H locs hP hD hS ls hl hJ
      rw [J_J6_stringSize_0f7a4_L16] at hJ
      cases hJ
    | succ nf ih =>
      intro v0 v1 v2 v3 H locs hP hD hS ls hl hJ
      rw [J_J6_stringSize_0f7a4_L16] at hJ
      refine lv_iload_n hx hb dJ6_stringSize_0f7a4_16 rfl (lv_at hl 3 rfl) ?_
      refine lv_bipush (v := (10 : Int32)) hx hb dJ6_stringSize_0f7a4_17 (by decide) ?_
      refine jif_icmp_ge (tgt := 42) hx hb dJ6_stringSize_0f7a4_19 (by decide) hJ (fun hJ => ?_) (fun hJ => ?_)
      · refine lv_bipush (v := (10 : Int32)) hx hb dJ6_stringSize_0f7a4_42 (by decide) ?_
        refine lv_iload_n hx hb dJ6_stringSize_0f7a4_44 rfl (lv_at hl 1 rfl) ?_
        refine lv_iadd hx hb dJ6_stringSize_0f7a4_45 ?_
        have e0 := Option.some.inj hJ
        exact hRet hP hD hS e0 dJ6_stringSize_0f7a4_46
      · refine lv_iload_n hx hb dJ6_stringSize_0f7a4_22 rfl (lv_at hl 0 rfl) ?_
        refine lv_iload_n hx hb dJ6_stringSize_0f7a4_23 rfl (lv_at hl 2 rfl) ?_
        refine jif_icmp_le (tgt := 31) hx hb dJ6_stringSize_0f7a4_24 (by decide) hJ (fun hJ => ?_) (fun hJ => ?_)
        · refine lv_bipush (v := (10 : Int32)) hx hb dJ6_stringSize_0f7a4_31 (by decide) ?_
          refine lv_iload_n hx hb dJ6_stringSize_0f7a4_33 rfl (lv_at hl 2 rfl) ?_
          refine lv_imul hx hb dJ6_stringSize_0f7a4_34 ?_
          refine jt_i hJ (fun x34 hJ => ?_)
          refine lv_istore_n (lv' := [(2, .int x34), (0, .int v0), (1, .int v1), (3, .int v3)]) hx hb dJ6_stringSize_0f7a4_35 rfl hl (by decide) rfl (fun ls hl => ?_)
          refine jt_iinc hJ (fun x36 ex36 hJ => ?_)
          refine lv_iinc (v := x36) (lv' := [(3, .int x36), (2, .int x34), (0, .int v0), (1, .int v1)]) hx hb dJ6_stringSize_0f7a4_36 hl (k := 3) rfl ex36 (by decide) rfl (fun ls hl => ?_)
          refine lv_goto (tgt := 16) hx hb dJ6_stringSize_0f7a4_39 (by decide) ?_
          exact ih v0 v1 x34 x36  H locs  hP hD hS _ (lv_sub hl [2, 3, 1, 0] rfl) hJ
        · refine lv_iload_n hx hb dJ6_stringSize_0f7a4_27 rfl (lv_at hl 3 rfl) ?_
          refine lv_iload_n hx hb dJ6_stringSize_0f7a4_28 rfl (lv_at hl 1 rfl) ?_
          refine lv_iadd hx hb dJ6_stringSize_0f7a4_29 ?_
          have e0 := Option.some.inj hJ
          exact hRet hP hD hS e0 dJ6_stringSize_0f7a4_30
  have B11 : ∀ (v0 : Int32) (v1 : Int32) (H : Heap) (locs : List Loc), va_P D vwCl [] H → va_D A [] → va_S A s.heap H locs → ∀ ls : Array Slot, lv_has ls 4 [(0, .int v0), (1, .int v1)] → J_J6_stringSize_0f7a4_b11   v0 v1 = some (r) → W p l e rmJ6_stringSize_0f7a4 s m args below meth c H locs 0 0 Q (F0 m 11 ls []) := by
    intro v0 v1 H locs hP hD hS ls hl hJ
    unfold J_J6_stringSize_0f7a4_b11 at hJ
    refine lv_bipush (v := (-10 : Int32)) hx hb dJ6_stringSize_0f7a4_11 (by decide) ?_
    refine lv_istore_n (lv' := [(2, .int (-10 : Int32)), (0, .int v0), (1, .int v1)]) hx hb dJ6_stringSize_0f7a4_13 rfl hl (by decide) rfl (fun ls hl => ?_)
    refine lv_iconst (v := (1 : Int32)) hx hb dJ6_stringSize_0f7a4_14 (by decide) ?_
    refine lv_istore_n (lv' := [(3, .int (1 : Int32)), (2, .int (-10 : Int32)), (0, .int v0), (1, .int v1)]) hx hb dJ6_stringSize_0f7a4_15 rfl hl (by decide) rfl (fun ls hl => ?_)
    exact L16  FU v0 v1 (-10 : Int32) (1 : Int32)  H locs  hP hD hS _ (lv_sub hl [2, 3, 1, 0] rfl) hJ
  unfold J_J6_stringSize_0f7a4 at hJ
  refine lv_iconst (v := (1 : Int32)) hx hb dJ6_stringSize_0f7a4_0 (by decide) ?_
  refine lv_istore_n (lv' := [(1, .int (1 : Int32)), (0, .int v0)]) hx hb dJ6_stringSize_0f7a4_1 rfl hl (by decide) rfl (fun ls hl => ?_)
  refine lv_iload_n hx hb dJ6_stringSize_0f7a4_2 rfl (lv_at hl 1 rfl) ?_
  refine jif_lt (tgt := 11) hx hb dJ6_stringSize_0f7a4_3 (by decide) hJ (fun hJ => ?_) (fun hJ => ?_)
  · exact B11  v0 (1 : Int32)  s.heap []  hP hD hS _ (lv_sub hl [1, 0] rfl) hJ
  · refine lv_iconst (v := (0 : Int32)) hx hb dJ6_stringSize_0f7a4_6 (by decide) ?_
    refine lv_istore_n (lv' := [(1, .int (0 : Int32)), (0, .int v0)]) hx hb dJ6_stringSize_0f7a4_7 rfl hl (by decide) rfl (fun ls hl => ?_)
    refine lv_iload_n hx hb dJ6_stringSize_0f7a4_8 rfl (lv_at hl 1 rfl) ?_
    refine lv_ineg hx hb dJ6_stringSize_0f7a4_9 ?_
    refine jt_i hJ (fun x9 hJ => ?_)
    refine lv_istore_n (lv' := [(0, .int x9), (1, .int (0 : Int32))]) hx hb dJ6_stringSize_0f7a4_10 rfl hl (by decide) rfl (fun ls hl => ?_)
    exact B11  x9 (0 : Int32)  s.heap []  hP hD hS _ (lv_sub hl [0, 1] rfl) hJ

def J_J0_coder_7d493_b14 (b0 : List Int32) (s14_0 : Int32) : Option (Int32) :=
    chz s14_0 (some (s14_0))
def J_J0_coder_7d493 (b0 : List Int32) : Option (Int32) :=
    if (1 : Int32) = 0 then (
    J_J0_coder_7d493_b14 b0 (1 : Int32))
    else (
    J_J0_coder_7d493_b14 b0 (0 : Int32))
abbrev rmJ0_coder_7d493 : Room := { frames := 0, cells := 0, slots := 0, locals := 0 }
set_option maxHeartbeats 4000000 in
set_option maxRecDepth 100000 in
theorem c_J0_coder_7d493 (l : Launch) (D : va_G) (cI cJ cC cL : ClassId) (qb0 : Nat) (b0 : List Int32) (r : Int32) (hJ : J_J0_coder_7d493 b0 = some (r)) (sz : Nat) : Met l yJ0_coder_7d493 wsJ0_coder_7d493 rmJ0_coder_7d493 (va_Pc [.ref qb0] (jpre (XP qb0 b0) D (tyL cI cJ cC cL) [] sz)) (va_Qi (fun r' (_ : Unit) => r' = r) (fun _ t => jpost D (tyL cI cJ cC cL) (va_A [] sz) [] t) (va_A [] sz)) 0 0 (va_A [] sz) := by
  refine jE_b (cc := cJ0_coder_7d493) (maxL := 1) (own := RJ0) (ret := (some .byte)) (lv0 := [(0, .ref qb0)]) (by decide) rfl rfl rfl (Nat.le_of_ble_eq_true rfl) rfl ?_
  intro p e s m args below meth c A Q ls hx hb hml hown hts hK hN hX hA hP hD hS hl hRet
  have hF : CallFix p m c cJ0_coder_7d493 1 s args wsJ0_coder_7d493 RJ0 := ⟨hx, hb, hml, hown, hts⟩
  have fl_15 := hts (.fieldLink RJ0 15 "java/lang/String" "coder" "B") (by decide +kernel)
  have fl_38 := hts (.fieldLink RJ0 38 "java/lang/String" "COMPACT_STRINGS" "Z") (by decide +kernel)
  have B14 : ∀ (s14_0 : Int32) (H : Heap) (locs : List Loc), va_P D vwCl [] H → va_D A [] → va_S A s.heap H locs → ∀ ls : Array Slot, lv_has ls 1 [] → J_J0_coder_7d493_b14  b0 s14_0 = some (r) → W p l e rmJ0_coder_7d493 s m args below meth c H locs 0 0 Q (F0 m 14 ls [.int s14_0]) := by
    intro s14_0 H locs hP hD hS ls hl hJ
    unfold J_J0_coder_7d493_b14 at hJ
    obtain ⟨h01, hJ⟩ := chz_ok hJ
    have e0 := Option.some.inj hJ
    exact hRet hP hD hS h01 e0 dJ0_coder_7d493_14
  unfold J_J0_coder_7d493 at hJ
  refine va_gets (v := .int 1) hx hb hX.1.1 hS hown fl_38 (fun _ h9 => h9) dJ0_coder_7d493_0 ?_
  refine jif_eq (tgt := 13) hx hb dJ0_coder_7d493_3 (by decide) hJ (fun hJ => ?_) (fun hJ => ?_)
  · refine lv_iconst (v := (1 : Int32)) hx hb dJ0_coder_7d493_13 (by decide) ?_
    exact B14  (1 : Int32)  s.heap []  hP hD hS _ (lv_sub hl [] rfl) hJ
  · refine lv_aload_n hx hb dJ0_coder_7d493_6 rfl (lv_at hl 0 rfl) ?_
    refine vk_getf (v := .int 0) hx hb (hX.2).2.1 hS hown fl_15 (fun _ h9 => h9) dJ0_coder_7d493_7 ?_
    refine lv_goto (tgt := 14) hx hb dJ0_coder_7d493_10 (by decide) ?_
    exact B14  (0 : Int32)  s.heap []  hP hD hS _ (lv_sub hl [] rfl) hJ

def J_J0_isLatin1_aae02_b18 (b0 : List Int32) (s18_0 : Int32) : Option (Int32) :=
    chz s18_0 (some (s18_0))
def J_J0_isLatin1_aae02_b17 (b0 : List Int32) : Option (Int32) :=
    J_J0_isLatin1_aae02_b18 b0 (0 : Int32)
def J_J0_isLatin1_aae02 (b0 : List Int32) : Option (Int32) :=
    if (1 : Int32) = 0 then (
    J_J0_isLatin1_aae02_b17 b0 )
    else (
    if (0 : Int32) = 0 then (
    J_J0_isLatin1_aae02_b18 b0 (1 : Int32))
    else (
    J_J0_isLatin1_aae02_b17 b0 ))
abbrev rmJ0_isLatin1_aae02 : Room := { frames := 0, cells := 0, slots := 0, locals := 0 }
set_option maxHeartbeats 4000000 in
set_option maxRecDepth 100000 in
theorem c_J0_isLatin1_aae02 (l : Launch) (D : va_G) (cI cJ cC cL : ClassId) (qb0 : Nat) (b0 : List Int32) (r : Int32) (hJ : J_J0_isLatin1_aae02 b0 = some (r)) (sz : Nat) : Met l yJ0_isLatin1_aae02 wsJ0_isLatin1_aae02 rmJ0_isLatin1_aae02 (va_Pc [.ref qb0] (jpre (XP qb0 b0) D (tyL cI cJ cC cL) [] sz)) (va_Qi (fun r' (_ : Unit) => r' = r) (fun _ t => jpost D (tyL cI cJ cC cL) (va_A [] sz) [] t) (va_A [] sz)) 0 0 (va_A [] sz) := by
  refine jE_z (cc := cJ0_isLatin1_aae02) (maxL := 1) (own := RJ0) (ret := (some .boolean)) (lv0 := [(0, .ref qb0)]) (by decide) rfl rfl rfl (Nat.le_of_ble_eq_true rfl) rfl ?_
  intro p e s m args below meth c A Q ls hx hb hml hown hts hK hN hX hA hP hD hS hl hRet
  have hF : CallFix p m c cJ0_isLatin1_aae02 1 s args wsJ0_isLatin1_aae02 RJ0 := ⟨hx, hb, hml, hown, hts⟩
  have fl_15 := hts (.fieldLink RJ0 15 "java/lang/String" "coder" "B") (by decide +kernel)
  have fl_38 := hts (.fieldLink RJ0 38 "java/lang/String" "COMPACT_STRINGS" "Z") (by decide +kernel)
  have B18 : ∀ (s18_0 : Int32) (H : Heap) (locs : List Loc), va_P D vwCl [] H → va_D A [] → va_S A s.heap H locs → ∀ ls : Array Slot, lv_has ls 1 [] → J_J0_isLatin1_aae02_b18  b0 s18_0 = some (r) → W p l e rmJ0_isLatin1_aae02 s m args below meth c H locs 0 0 Q (F0 m 18 ls [.int s18_0]) := by
    intro s18_0 H locs hP hD hS ls hl hJ
    unfold J_J0_isLatin1_aae02_b18 at hJ
    obtain ⟨h01, hJ⟩ := chz_ok hJ
    have e0 := Option.some.inj hJ
    exact hRet hP hD hS h01 e0 dJ0_isLatin1_aae02_18
  have B17 : ∀ (H : Heap) (locs : List Loc), va_P D vwCl [] H → va_D A [] → va_S A s.heap H locs → ∀ ls : Array Slot, lv_has ls 1 [] → J_J0_isLatin1_aae02_b17  b0  = some (r) → W p l e rmJ0_isLatin1_aae02 s m args below meth c H locs 0 0 Q (F0 m 17 ls []) := by
    intro H locs hP hD hS ls hl hJ
    unfold J_J0_isLatin1_aae02_b17 at hJ
    refine lv_iconst (v := (0 : Int32)) hx hb dJ0_isLatin1_aae02_17 (by decide) ?_
    exact B18  (0 : Int32)  H locs  hP hD hS _ (lv_sub hl [] rfl) hJ
  unfold J_J0_isLatin1_aae02 at hJ
  refine va_gets (v := .int 1) hx hb hX.1.1 hS hown fl_38 (fun _ h9 => h9) dJ0_isLatin1_aae02_0 ?_
  refine jif_eq (tgt := 17) hx hb dJ0_isLatin1_aae02_3 (by decide) hJ (fun hJ => ?_) (fun hJ => ?_)
  · exact B17    s.heap []  hP hD hS _ (lv_sub hl [] rfl) hJ
  · refine lv_aload_n hx hb dJ0_isLatin1_aae02_6 rfl (lv_at hl 0 rfl) ?_
    refine vk_getf (v := .int 0) hx hb (hX.2).2.1 hS hown fl_15 (fun _ h9 => h9) dJ0_isLatin1_aae02_7 ?_
    refine jif_ne (tgt := 17) hx hb dJ0_isLatin1_aae02_10 (by decide) hJ (fun hJ => ?_) (fun hJ => ?_)
    · exact B17    s.heap []  hP hD hS _ (lv_sub hl [] rfl) hJ
    · refine lv_iconst (v := (1 : Int32)) hx hb dJ0_isLatin1_aae02_13 (by decide) ?_
      refine lv_goto (tgt := 18) hx hb dJ0_isLatin1_aae02_14 (by decide) ?_
      exact B18  (1 : Int32)  s.heap []  hP hD hS _ (lv_sub hl [] rfl) hJ

def J_J0_length_8abf5 (b0 : List Int32) : Option (Int32) :=
    bnd1 (J_J0_coder_7d493 b0) fun x6 =>
    some ((Int32.ofNat b0.length) >>> (x6 &&& 31))
abbrev rmJ0_length_8abf5 : Room := { frames := 1, cells := 0, slots := 0, locals := 20 }
set_option maxHeartbeats 4000000 in
set_option maxRecDepth 100000 in
theorem c_J0_length_8abf5 (l : Launch) (D : va_G) (cI cJ cC cL : ClassId) (qb0 : Nat) (b0 : List Int32) (r : Int32) (hJ : J_J0_length_8abf5 b0 = some (r)) (sz : Nat) : Met l yJ0_length_8abf5 wsJ0_length_8abf5 rmJ0_length_8abf5 (va_Pc [.ref qb0] (jpre (XP qb0 b0) D (tyL cI cJ cC cL) [] sz)) (va_Qi (fun r' (_ : Unit) => r' = r) (fun _ t => jpost D (tyL cI cJ cC cL) (va_A [] sz) [] t) (va_A [] sz)) 0 0 (va_A [] sz) := by
  refine jE_i (cc := cJ0_length_8abf5) (maxL := 1) (own := RJ0) (ret := (some .int)) (lv0 := [(0, .ref qb0)]) (by decide) rfl rfl rfl (Nat.le_of_ble_eq_true rfl) rfl ?_
  intro p e s m args below meth c A Q ls hx hb hml hown hts hK hN hX hA hP hD hS hl hRet
  have hF : CallFix p m c cJ0_length_8abf5 1 s args wsJ0_length_8abf5 RJ0 := ⟨hx, hb, hml, hown, hts⟩
  have fl_9 := hts (.fieldLink RJ0 9 "java/lang/String" "value" "[B") (by decide +kernel)
  unfold J_J0_length_8abf5 at hJ
  refine lv_aload_n hx hb dJ0_length_8abf5_0 rfl (lv_at hl 0 rfl) ?_
  obtain ⟨qv1, hv1, hb1⟩ := (hX.2).2.2
  refine vk_getf (v := .ref qv1) hx hb hv1 hS hown fl_9 (fun _ h9 => h9) dJ0_length_8abf5_1 ?_
  refine va_tlen (v := Int32.ofNat b0.length) hx hb hb1 hS rfl dJ0_length_8abf5_4 ?_
  refine lv_aload_n hx hb dJ0_length_8abf5_5 rfl (lv_at hl 0 rfl) ?_
  obtain ⟨x6, hc6, hJ⟩ := bnd1_some hJ
  refine jcR_i (C := RJ0) (As := []) (rest := [.int (Int32.ofNat b0.length)]) (isC := []) (isR := []) (isB := []) (wr := []) (ws2 := []) hF (c_J0_coder_7d493 l D cI cJ cC cL qb0 b0 x6 hc6 s.heap.size) (cwV 0 hts gJ0_length_8abf5_J0_coder_7d493 rfl rfl rfl (by decide +kernel) ⟨Nat.le_of_ble_eq_true rfl, Nat.le_of_ble_eq_true rfl⟩) rfl hl rfl (Nat.le_of_ble_eq_true rfl) dJ0_length_8abf5_6 ⟨Nat.zero_le _, Nat.zero_le _⟩ hK hN KX_XP ⟨hX.1, hX.2⟩ hP hD hS hA (str_recv hX.2 hS) rfl rfl rfl rfl (by decide) rfl rfl (fun H locs hP hD hS => ?_)
  refine lv_ishr hx hb dJ0_length_8abf5_9 ?_
  have e0 := Option.some.inj hJ
  exact hRet hP hD hS e0 dJ0_length_8abf5_10

def J_J7_checkLength_df160 (v0 : Int32) (v1 : Int32) : Option (Unit) :=
    if v0 ≤ v1 then (
    some ())
    else (
    none)
abbrev rmJ7_checkLength_df160 : Room := { frames := 0, cells := 0, slots := 0, locals := 0 }
set_option maxHeartbeats 4000000 in
set_option maxRecDepth 100000 in
theorem c_J7_checkLength_df160 (l : Launch) (D : va_G) (cI cJ cC cL : ClassId) (v0 : Int32) (v1 : Int32) (hJ : J_J7_checkLength_df160 v0 v1 = some ()) (sz : Nat) : Met l yJ7_checkLength_df160 wsJ7_checkLength_df160 rmJ7_checkLength_df160 (va_Pc [.int v0, .int v1] (jpre XT D (tyL cI cJ cC cL) [] sz)) (va_Qv (fun (_ : Unit) => True) (fun _ t => jpost D (tyL cI cJ cC cL) (va_A [] sz) [] t) (va_A [] sz)) 0 0 (va_A [] sz) := by
  refine jE_v (cc := cJ7_checkLength_df160) (maxL := 2) (own := RJ7) (ret := none) (lv0 := [(0, .int v0), (1, .int v1)]) (by decide) rfl rfl rfl (Nat.le_of_ble_eq_true rfl) rfl ?_
  intro p e s m args below meth c A Q ls hx hb hml hown hts hK hN hX hA hP hD hS hl hRet
  have hF : CallFix p m c cJ7_checkLength_df160 2 s args wsJ7_checkLength_df160 RJ7 := ⟨hx, hb, hml, hown, hts⟩
  unfold J_J7_checkLength_df160 at hJ
  refine lv_iload_n hx hb dJ7_checkLength_df160_0 rfl (lv_at hl 1 rfl) ?_
  refine lv_iload_n hx hb dJ7_checkLength_df160_1 rfl (lv_at hl 0 rfl) ?_
  refine jif_icmp_ge (tgt := 37) hx hb dJ7_checkLength_df160_2 (by decide) hJ (fun hJ => ?_) (fun hJ => ?_)
  · exact hRet hP hD hS dJ7_checkLength_df160_37
  · cases hJ

def J_J7_fill_53178_L5 (n0 : Nat) (v1 : Int32) : Nat → (Nat → Int32) → Int32 → Int32 → Option ((Nat → Int32))
  | 0, _, _, _ => none
  | nf + 1, a0, v2, v3 =>
    if v3 ≤ v2 then (
    some (a0))
    else (
    chk v2 n0 (
    nm (v2 + Int32.ofInt 1) fun x14 =>
    J_J7_fill_53178_L5 n0 v1 nf (upd a0 v2.toNatClampNeg v1) x14 v3))
def J_J7_fill_53178 (n0 : Nat) (a0 : Nat → Int32) (v1 : Int32) : Option ((Nat → Int32)) :=
    J_J7_fill_53178_L5 n0 v1 FU a0 (0 : Int32) (Int32.ofNat n0)
abbrev rmJ7_fill_53178 : Room := { frames := 0, cells := 0, slots := 0, locals := 0 }
set_option maxHeartbeats 4000000 in
set_option maxRecDepth 100000 in
theorem c_J7_fill_53178 (l : Launch) (D : va_G) (cI cJ cC cL : ClassId) (n0 : Nat) (q_a0 : Nat) (a0 : Nat → Int32) (v1 : Int32) (o_a0 : Nat → Int32) (hJ : J_J7_fill_53178 n0 a0 v1 = some (o_a0)) (sz : Nat) : Met l yJ7_fill_53178 wsJ7_fill_53178 rmJ7_fill_53178 (va_Pc [.ref q_a0, .int v1] (jpre XT D (tyL cI cJ cC cL) [(q_a0, .inl (cI, n0, .inl a0))] sz)) (va_Qv (fun (_ : Unit) => True) (fun _ t => jpost D (tyL cI cJ cC cL) (va_A [(q_a0, .inl (cI, n0, .inl a0))] sz) [(q_a0, .inl (cI, n0, .inl o_a0))] t) (va_A [(q_a0, .inl (cI, n0, .inl a0))] sz)) 0 0 (va_A [(q_a0, .inl (cI, n0, .inl a0))] sz) := by
  refine jE_v (cc := cJ7_fill_53178) (maxL := 4) (own := RJ7) (ret := none) (lv0 := [(0, .ref q_a0), (1, .int v1)]) (by decide) rfl rfl rfl (Nat.le_of_ble_eq_true rfl) rfl ?_
  intro p e s m args below meth c A Q ls hx hb hml hown hts hK hN hX hA hP hD hS hl hRet
  have hF : CallFix p m c cJ7_fill_53178 4 s args wsJ7_fill_53178 RJ7 := ⟨hx, hb, hml, hown, hts⟩
  have L5 : ∀ (nf : Nat), ∀ (a0 : Nat → Int32) (v2 : Int32) (v3 : Int32) (H : Heap) (locs : List Loc), va_P D vwCl [(q_a0, .inl (cI, n0, .inl a0))] H → va_D A [(q_a0, .inl (cI, n0, .inl a0))] → va_S A s.heap H locs → ∀ ls : Array Slot, lv_has ls 4 [(0, .ref q_a0), (1, .int v1), (2, .int v2), (3, .int v3)] → J_J7_fill_53178_L5  n0 v1 nf a0 v2 v3 = some (o_a0) → W p l e rmJ7_fill_53178 s m args below meth c H locs 0 0 Q (F0 m 5 ls []) := by
    intro nf
    induction nf with
    | zero =>
      intro a0 v2 v3 H locs hP hD hS ls hl hJ
      rw [J_J7_fill_53178_L5] at hJ
      cases hJ
    | succ nf ih =>
      intro a0 v2 v3 H locs hP hD hS ls hl hJ
      rw [J_J7_fill_53178_L5] at hJ
      refine lv_iload_n hx hb dJ7_fill_53178_5 rfl (lv_at hl 2 rfl) ?_
      refine lv_iload_n hx hb dJ7_fill_53178_6 rfl (lv_at hl 3 rfl) ?_
      refine jif_icmp_ge (tgt := 20) hx hb dJ7_fill_53178_7 (by decide) hJ (fun hJ => ?_) (fun hJ => ?_)
      · have e0 := Option.some.inj hJ
        exact hRet (by rw [← e0]; exact hP) (by rw [← e0]; exact hD) hS dJ7_fill_53178_20
      · refine lv_aload_n hx hb dJ7_fill_53178_10 rfl (lv_at hl 0 rfl) ?_
        refine lv_iload_n hx hb dJ7_fill_53178_11 rfl (lv_at hl 2 rfl) ?_
        refine lv_iload_n hx hb dJ7_fill_53178_12 rfl (lv_at hl 1 rfl) ?_
        obtain ⟨hin, hJ⟩ := chk_in hJ
        refine va_iast hx hb hK hP hD hS 0 0 rfl rfl hin dJ7_fill_53178_13 (fun H locs hP hD hS => ?_)
        have hP : va_P D vwCl [(q_a0, .inl (cI, n0, .inl (upd a0 v2.toNatClampNeg v1)))] H := hP
        have hD : va_D A [(q_a0, .inl (cI, n0, .inl (upd a0 v2.toNatClampNeg v1)))] := hD
        refine jt_iinc hJ (fun x14 ex14 hJ => ?_)
        refine lv_iinc (v := x14) (lv' := [(2, .int x14), (0, .ref q_a0), (1, .int v1), (3, .int v3)]) hx hb dJ7_fill_53178_14 hl (k := 2) rfl ex14 (by decide) rfl (fun ls hl => ?_)
        refine lv_goto (tgt := 5) hx hb dJ7_fill_53178_17 (by decide) ?_
        exact ih (upd a0 v2.toNatClampNeg v1) x14 v3  H locs  hP hD hS _ (lv_sub hl [1, 2, 0, 3] rfl) hJ
  unfold J_J7_fill_53178 at hJ
  refine lv_iconst (v := (0 : Int32)) hx hb dJ7_fill_53178_0 (by decide) ?_
  refine lv_istore_n (lv' := [(2, .int (0 : Int32)), (0, .ref q_a0), (1, .int v1)]) hx hb dJ7_fill_53178_1 rfl hl (by decide) rfl (fun ls hl => ?_)
  refine lv_aload_n hx hb dJ7_fill_53178_2 rfl (lv_at hl 1 rfl) ?_
  refine va_alen (v := (Int32.ofNat n0)) hx hb hK hP 0 0 rfl rfl rfl dJ7_fill_53178_3 ?_
  refine lv_istore_n (lv' := [(3, .int (Int32.ofNat n0)), (2, .int (0 : Int32)), (0, .ref q_a0), (1, .int v1)]) hx hb dJ7_fill_53178_4 rfl hl (by decide) rfl (fun ls hl => ?_)
  exact L5  FU a0 (0 : Int32) (Int32.ofNat n0)  s.heap []  hP hD hS _ (lv_sub hl [2, 3, 1, 0] rfl) hJ

def J_J8_hugeLength_7cf53 (v0 : Int32) (v1 : Int32) : Option (Int32) :=
    nm (v0 + v1) fun x2 =>
    if 0 ≤ x2 then (
    if (2147483639 : Int32) < x2 then (
    some (x2))
    else (
    some ((2147483639 : Int32))))
    else (
    none)
abbrev rmJ8_hugeLength_7cf53 : Room := { frames := 0, cells := 0, slots := 0, locals := 0 }
set_option maxHeartbeats 4000000 in
set_option maxRecDepth 100000 in
theorem c_J8_hugeLength_7cf53 (l : Launch) (D : va_G) (cI cJ cC cL : ClassId) (v0 : Int32) (v1 : Int32) (r : Int32) (hJ : J_J8_hugeLength_7cf53 v0 v1 = some (r)) (sz : Nat) : Met l yJ8_hugeLength_7cf53 wsJ8_hugeLength_7cf53 rmJ8_hugeLength_7cf53 (va_Pc [.int v0, .int v1] (jpre XT D (tyL cI cJ cC cL) [] sz)) (va_Qi (fun r' (_ : Unit) => r' = r) (fun _ t => jpost D (tyL cI cJ cC cL) (va_A [] sz) [] t) (va_A [] sz)) 0 0 (va_A [] sz) := by
  refine jE_i (cc := cJ8_hugeLength_7cf53) (maxL := 3) (own := RJ8) (ret := (some .int)) (lv0 := [(0, .int v0), (1, .int v1)]) (by decide) rfl rfl rfl (Nat.le_of_ble_eq_true rfl) rfl ?_
  intro p e s m args below meth c A Q ls hx hb hml hown hts hK hN hX hA hP hD hS hl hRet
  have hF : CallFix p m c cJ8_hugeLength_7cf53 3 s args wsJ8_hugeLength_7cf53 RJ8 := ⟨hx, hb, hml, hown, hts⟩
  unfold J_J8_hugeLength_7cf53 at hJ
  refine lv_iload_n hx hb dJ8_hugeLength_7cf53_0 rfl (lv_at hl 0 rfl) ?_
  refine lv_iload_n hx hb dJ8_hugeLength_7cf53_1 rfl (lv_at hl 1 rfl) ?_
  refine lv_iadd hx hb dJ8_hugeLength_7cf53_2 ?_
  refine jt_i hJ (fun x2 hJ => ?_)
  refine lv_istore_n (lv' := [(2, .int x2), (0, .int v0), (1, .int v1)]) hx hb dJ8_hugeLength_7cf53_3 rfl hl (by decide) rfl (fun ls hl => ?_)
  refine lv_iload_n hx hb dJ8_hugeLength_7cf53_4 rfl (lv_at hl 0 rfl) ?_
  refine jif_ge (tgt := 49) hx hb dJ8_hugeLength_7cf53_5 (by decide) hJ (fun hJ => ?_) (fun hJ => ?_)
  · refine lv_iload_n hx hb dJ8_hugeLength_7cf53_49 rfl (lv_at hl 0 rfl) ?_
    refine lv_ldc (v := (2147483639 : Int32)) hx hb hown (hts (.constant RJ8 200 (2147483639 : Int32)) (by decide +kernel)) dJ8_hugeLength_7cf53_50 ?_
    refine jif_icmp_gt (tgt := 58) hx hb dJ8_hugeLength_7cf53_52 (by decide) hJ (fun hJ => ?_) (fun hJ => ?_)
    · refine lv_iload_n hx hb dJ8_hugeLength_7cf53_58 rfl (lv_at hl 0 rfl) ?_
      have e0 := Option.some.inj hJ
      exact hRet hP hD hS e0 dJ8_hugeLength_7cf53_59
    · refine lv_ldc (v := (2147483639 : Int32)) hx hb hown (hts (.constant RJ8 200 (2147483639 : Int32)) (by decide +kernel)) dJ8_hugeLength_7cf53_55 ?_
      have e0 := Option.some.inj hJ
      exact hRet hP hD hS e0 dJ8_hugeLength_7cf53_57
  · cases hJ

def J_J8_newLength_cabcc_b21 (v0 : Int32) (v1 : Int32) (v2 : Int32) : Option (Int32) :=
    bnd1 (J_J8_hugeLength_7cf53 v0 v1) fun x23 =>
    some (x23)
def J_J8_newLength_cabcc (v0 : Int32) (v1 : Int32) (v2 : Int32) : Option (Int32) :=
    nm (if v1 < v2 then v2 else v1) fun x3 =>
    nm (v0 + x3) fun x6 =>
    if x6 ≤ (0 : Int32) then (
    J_J8_newLength_cabcc_b21 v0 v1 v2 )
    else (
    if (2147483639 : Int32) < x6 then (
    J_J8_newLength_cabcc_b21 v0 v1 v2 )
    else (
    some (x6)))
abbrev rmJ8_newLength_cabcc : Room := { frames := 1, cells := 0, slots := 0, locals := 22 }
set_option maxHeartbeats 4000000 in
set_option maxRecDepth 100000 in
theorem c_J8_newLength_cabcc (l : Launch) (D : va_G) (cI cJ cC cL : ClassId) (v0 : Int32) (v1 : Int32) (v2 : Int32) (r : Int32) (hJ : J_J8_newLength_cabcc v0 v1 v2 = some (r)) (sz : Nat) : Met l yJ8_newLength_cabcc wsJ8_newLength_cabcc rmJ8_newLength_cabcc (va_Pc [.int v0, .int v1, .int v2] (jpre XT D (tyL cI cJ cC cL) [] sz)) (va_Qi (fun r' (_ : Unit) => r' = r) (fun _ t => jpost D (tyL cI cJ cC cL) (va_A [] sz) [] t) (va_A [] sz)) 0 0 (va_A [] sz) := by
  refine jE_i (cc := cJ8_newLength_cabcc) (maxL := 4) (own := RJ8) (ret := (some .int)) (lv0 := [(0, .int v0), (1, .int v1), (2, .int v2)]) (by decide) rfl rfl rfl (Nat.le_of_ble_eq_true rfl) rfl ?_
  intro p e s m args below meth c A Q ls hx hb hml hown hts hK hN hX hA hP hD hS hl hRet
  have hF : CallFix p m c cJ8_newLength_cabcc 4 s args wsJ8_newLength_cabcc RJ8 := ⟨hx, hb, hml, hown, hts⟩
  have B21 : ∀ (H : Heap) (locs : List Loc), va_P D vwCl [] H → va_D A [] → va_S A s.heap H locs → ∀ ls : Array Slot, lv_has ls 4 [(0, .int v0), (1, .int v1)] → J_J8_newLength_cabcc_b21  v0 v1 v2  = some (r) → W p l e rmJ8_newLength_cabcc s m args below meth c H locs 0 0 Q (F0 m 21 ls []) := by
    intro H locs hP hD hS ls hl hJ
    unfold J_J8_newLength_cabcc_b21 at hJ
    refine lv_iload_n hx hb dJ8_newLength_cabcc_21 rfl (lv_at hl 0 rfl) ?_
    refine lv_iload_n hx hb dJ8_newLength_cabcc_22 rfl (lv_at hl 1 rfl) ?_
    obtain ⟨x23, hc23, hJ⟩ := bnd1_some hJ
    refine jcS_i (As := [.int v0, .int v1]) (rest := []) (isC := []) (isR := []) (isB := []) (wr := []) (ws2 := []) hF (c_J8_hugeLength_7cf53 l D cI cJ cC cL v0 v1 x23 hc23 H.size) (va_cwS 2 hts gJ8_newLength_cabcc_J8_hugeLength_7cf53 rfl rfl rfl (by decide +kernel) ⟨Nat.le_of_ble_eq_true rfl, Nat.le_of_ble_eq_true rfl⟩) rfl hl rfl (Nat.le_of_ble_eq_true rfl) dJ8_newLength_cabcc_23 ⟨Nat.zero_le _, Nat.zero_le _⟩ hK hN KX_T trivial hP hD hS hA rfl rfl rfl rfl (by decide) rfl rfl (fun H locs hP hD hS => ?_)
    have e0 := Option.some.inj hJ
    exact hRet hP hD hS e0 dJ8_newLength_cabcc_26
  unfold J_J8_newLength_cabcc at hJ
  refine lv_iload_n hx hb dJ8_newLength_cabcc_0 rfl (lv_at hl 0 rfl) ?_
  refine lv_iload_n hx hb dJ8_newLength_cabcc_1 rfl (lv_at hl 1 rfl) ?_
  refine lv_iload_n hx hb dJ8_newLength_cabcc_2 rfl (lv_at hl 2 rfl) ?_
  refine va_mmax hx hb (hml.trans hl.1.symm) hown (hts (.methodLink RJ8 194 Lib.Math.max.name) (by decide +kernel)) (hts (.static Lib.Math.max.name) (by decide +kernel)) (hts (.initialized "java/lang/Math") (by decide +kernel)) (hts (.code Lib.Math.max.name Lib.Math.max.code 2 (some .int)) (by decide +kernel)) (Nat.le_of_ble_eq_true rfl) (Nat.le_of_ble_eq_true rfl) (Nat.zero_le _) (Nat.zero_le _) dJ8_newLength_cabcc_3 ?_
  refine jt_i hJ (fun x3 hJ => ?_)
  refine lv_iadd hx hb dJ8_newLength_cabcc_6 ?_
  refine jt_i hJ (fun x6 hJ => ?_)
  refine lv_istore_n (lv' := [(3, .int x6), (0, .int v0), (1, .int v1), (2, .int v2)]) hx hb dJ8_newLength_cabcc_7 rfl hl (by decide) rfl (fun ls hl => ?_)
  refine lv_iconst (v := (0 : Int32)) hx hb dJ8_newLength_cabcc_8 (by decide) ?_
  refine lv_iload_n hx hb dJ8_newLength_cabcc_9 rfl (lv_at hl 0 rfl) ?_
  refine jif_icmp_ge (tgt := 21) hx hb dJ8_newLength_cabcc_10 (by decide) hJ (fun hJ => ?_) (fun hJ => ?_)
  · exact B21    s.heap []  hP hD hS _ (lv_sub hl [1, 2] rfl) hJ
  · refine lv_iload_n hx hb dJ8_newLength_cabcc_13 rfl (lv_at hl 0 rfl) ?_
    refine lv_ldc (v := (2147483639 : Int32)) hx hb hown (hts (.constant RJ8 200 (2147483639 : Int32)) (by decide +kernel)) dJ8_newLength_cabcc_14 ?_
    refine jif_icmp_gt (tgt := 21) hx hb dJ8_newLength_cabcc_16 (by decide) hJ (fun hJ => ?_) (fun hJ => ?_)
    · exact B21    s.heap []  hP hD hS _ (lv_sub hl [1, 2] rfl) hJ
    · refine lv_iload_n hx hb dJ8_newLength_cabcc_19 rfl (lv_at hl 0 rfl) ?_
      have e0 := Option.some.inj hJ
      exact hRet hP hD hS e0 dJ8_newLength_cabcc_20

def J_J3_checkFromIndexSize_8c36e_b15 (v0 : Int32) (v1 : Int32) (v2 : Int32) : Option (Int32) :=
    none
def J_J3_checkFromIndexSize_8c36e (v0 : Int32) (v1 : Int32) (v2 : Int32) : Option (Int32) :=
    nm (v2 ||| v0) fun x2 =>
    if (x2 ||| v1) < 0 then (
    J_J3_checkFromIndexSize_8c36e_b15 v0 v1 v2 )
    else (
    if v1 ≤ (v2 - v0) then (
    some (v0))
    else (
    J_J3_checkFromIndexSize_8c36e_b15 v0 v1 v2 ))
abbrev rmJ3_checkFromIndexSize_8c36e : Room := { frames := 0, cells := 0, slots := 0, locals := 0 }
set_option maxHeartbeats 4000000 in
set_option maxRecDepth 100000 in
theorem c_J3_checkFromIndexSize_8c36e (l : Launch) (D : va_G) (cI cJ cC cL : ClassId) (fo3 : Option Nat) (v0 : Int32) (v1 : Int32) (v2 : Int32) (r : Int32) (hJ : J_J3_checkFromIndexSize_8c36e v0 v1 v2 = some (r)) (sz : Nat) : Met l yJ3_checkFromIndexSize_8c36e wsJ3_checkFromIndexSize_8c36e rmJ3_checkFromIndexSize_8c36e (va_Pc [.int v0, .int v1, .int v2, va_rf fo3] (jpre XT D (tyL cI cJ cC cL) [] sz)) (va_Qi (fun r' (_ : Unit) => r' = r) (fun _ t => jpost D (tyL cI cJ cC cL) (va_A [] sz) [] t) (va_A [] sz)) 0 0 (va_A [] sz) := by
  refine jE_i (cc := cJ3_checkFromIndexSize_8c36e) (maxL := 4) (own := RJ3) (ret := (some .int)) (lv0 := [(0, .int v0), (1, .int v1), (2, .int v2), (3, va_rf fo3)]) (by decide) rfl rfl rfl (by cases fo3 <;> exact Nat.le_of_ble_eq_true rfl) rfl ?_
  intro p e s m args below meth c A Q ls hx hb hml hown hts hK hN hX hA hP hD hS hl hRet
  have hF : CallFix p m c cJ3_checkFromIndexSize_8c36e 4 s args wsJ3_checkFromIndexSize_8c36e RJ3 := ⟨hx, hb, hml, hown, hts⟩
  have B15 : ∀ (H : Heap) (locs : List Loc), va_P D vwCl [] H → va_D A [] → va_S A s.heap H locs → ∀ ls : Array Slot, lv_has ls 4 [(0, .int v0), (1, .int v1), (2, .int v2), (3, va_rf fo3)] → J_J3_checkFromIndexSize_8c36e_b15  v0 v1 v2  = some (r) → W p l e rmJ3_checkFromIndexSize_8c36e s m args below meth c H locs 0 0 Q (F0 m 15 ls []) := by
    intro H locs hP hD hS ls hl hJ
    unfold J_J3_checkFromIndexSize_8c36e_b15 at hJ
    cases hJ
  unfold J_J3_checkFromIndexSize_8c36e at hJ
  refine lv_iload_n hx hb dJ3_checkFromIndexSize_8c36e_0 rfl (lv_at hl 2 rfl) ?_
  refine lv_iload_n hx hb dJ3_checkFromIndexSize_8c36e_1 rfl (lv_at hl 0 rfl) ?_
  refine lv_ior hx hb dJ3_checkFromIndexSize_8c36e_2 ?_
  refine jt_i hJ (fun x2 hJ => ?_)
  refine lv_iload_n hx hb dJ3_checkFromIndexSize_8c36e_3 rfl (lv_at hl 1 rfl) ?_
  refine lv_ior hx hb dJ3_checkFromIndexSize_8c36e_4 ?_
  refine jif_lt (tgt := 15) hx hb dJ3_checkFromIndexSize_8c36e_5 (by decide) hJ (fun hJ => ?_) (fun hJ => ?_)
  · exact B15    s.heap []  hP hD hS _ (lv_sub hl [0, 1, 2, 3] rfl) hJ
  · refine lv_iload_n hx hb dJ3_checkFromIndexSize_8c36e_8 rfl (lv_at hl 1 rfl) ?_
    refine lv_iload_n hx hb dJ3_checkFromIndexSize_8c36e_9 rfl (lv_at hl 2 rfl) ?_
    refine lv_iload_n hx hb dJ3_checkFromIndexSize_8c36e_10 rfl (lv_at hl 0 rfl) ?_
    refine lv_isub hx hb dJ3_checkFromIndexSize_8c36e_11 ?_
    refine jif_icmp_le (tgt := 23) hx hb dJ3_checkFromIndexSize_8c36e_12 (by decide) hJ (fun hJ => ?_) (fun hJ => ?_)
    · refine lv_iload_n hx hb dJ3_checkFromIndexSize_8c36e_23 rfl (lv_at hl 0 rfl) ?_
      have e0 := Option.some.inj hJ
      exact hRet hP hD hS e0 dJ3_checkFromIndexSize_8c36e_24
    · exact B15    s.heap []  hP hD hS _ (lv_sub hl [0, 1, 2, 3] rfl) hJ

def J_J3_checkFromToIndex_8c36e_b14 (v0 : Int32) (v1 : Int32) (v2 : Int32) : Option (Int32) :=
    none
def J_J3_checkFromToIndex_8c36e (v0 : Int32) (v1 : Int32) (v2 : Int32) : Option (Int32) :=
    if v0 < 0 then (
    J_J3_checkFromToIndex_8c36e_b14 v0 v1 v2 )
    else (
    if v1 < v0 then (
    J_J3_checkFromToIndex_8c36e_b14 v0 v1 v2 )
    else (
    if v1 ≤ v2 then (
    some (v0))
    else (
    J_J3_checkFromToIndex_8c36e_b14 v0 v1 v2 )))
abbrev rmJ3_checkFromToIndex_8c36e : Room := { frames := 0, cells := 0, slots := 0, locals := 0 }
set_option maxHeartbeats 4000000 in
set_option maxRecDepth 100000 in
theorem c_J3_checkFromToIndex_8c36e (l : Launch) (D : va_G) (cI cJ cC cL : ClassId) (fo3 : Option Nat) (v0 : Int32) (v1 : Int32) (v2 : Int32) (r : Int32) (hJ : J_J3_checkFromToIndex_8c36e v0 v1 v2 = some (r)) (sz : Nat) : Met l yJ3_checkFromToIndex_8c36e wsJ3_checkFromToIndex_8c36e rmJ3_checkFromToIndex_8c36e (va_Pc [.int v0, .int v1, .int v2, va_rf fo3] (jpre XT D (tyL cI cJ cC cL) [] sz)) (va_Qi (fun r' (_ : Unit) => r' = r) (fun _ t => jpost D (tyL cI cJ cC cL) (va_A [] sz) [] t) (va_A [] sz)) 0 0 (va_A [] sz) := by
  refine jE_i (cc := cJ3_checkFromToIndex_8c36e) (maxL := 4) (own := RJ3) (ret := (some .int)) (lv0 := [(0, .int v0), (1, .int v1), (2, .int v2), (3, va_rf fo3)]) (by decide) rfl rfl rfl (by cases fo3 <;> exact Nat.le_of_ble_eq_true rfl) rfl ?_
  intro p e s m args below meth c A Q ls hx hb hml hown hts hK hN hX hA hP hD hS hl hRet
  have hF : CallFix p m c cJ3_checkFromToIndex_8c36e 4 s args wsJ3_checkFromToIndex_8c36e RJ3 := ⟨hx, hb, hml, hown, hts⟩
  have B14 : ∀ (H : Heap) (locs : List Loc), va_P D vwCl [] H → va_D A [] → va_S A s.heap H locs → ∀ ls : Array Slot, lv_has ls 4 [(0, .int v0), (1, .int v1), (2, .int v2), (3, va_rf fo3)] → J_J3_checkFromToIndex_8c36e_b14  v0 v1 v2  = some (r) → W p l e rmJ3_checkFromToIndex_8c36e s m args below meth c H locs 0 0 Q (F0 m 14 ls []) := by
    intro H locs hP hD hS ls hl hJ
    unfold J_J3_checkFromToIndex_8c36e_b14 at hJ
    cases hJ
  unfold J_J3_checkFromToIndex_8c36e at hJ
  refine lv_iload_n hx hb dJ3_checkFromToIndex_8c36e_0 rfl (lv_at hl 0 rfl) ?_
  refine jif_lt (tgt := 14) hx hb dJ3_checkFromToIndex_8c36e_1 (by decide) hJ (fun hJ => ?_) (fun hJ => ?_)
  · exact B14    s.heap []  hP hD hS _ (lv_sub hl [0, 1, 2, 3] rfl) hJ
  · refine lv_iload_n hx hb dJ3_checkFromToIndex_8c36e_4 rfl (lv_at hl 0 rfl) ?_
    refine lv_iload_n hx hb dJ3_checkFromToIndex_8c36e_5 rfl (lv_at hl 1 rfl) ?_
    refine jif_icmp_gt (tgt := 14) hx hb dJ3_checkFromToIndex_8c36e_6 (by decide) hJ (fun hJ => ?_) (fun hJ => ?_)
    · exact B14    s.heap []  hP hD hS _ (lv_sub hl [0, 1, 2, 3] rfl) hJ
    · refine lv_iload_n hx hb dJ3_checkFromToIndex_8c36e_9 rfl (lv_at hl 1 rfl) ?_
      refine lv_iload_n hx hb dJ3_checkFromToIndex_8c36e_10 rfl (lv_at hl 2 rfl) ?_
      refine jif_icmp_le (tgt := 22) hx hb dJ3_checkFromToIndex_8c36e_11 (by decide) hJ (fun hJ => ?_) (fun hJ => ?_)
      · refine lv_iload_n hx hb dJ3_checkFromToIndex_8c36e_22 rfl (lv_at hl 0 rfl) ?_
        have e0 := Option.some.inj hJ
        exact hRet hP hD hS e0 dJ3_checkFromToIndex_8c36e_23
      · exact B14    s.heap []  hP hD hS _ (lv_sub hl [0, 1, 2, 3] rfl) hJ

def J_J3_checkIndex_8e157_b9 (v0 : Int32) (v1 : Int32) : Option (Int32) :=
    none
def J_J3_checkIndex_8e157 (v0 : Int32) (v1 : Int32) : Option (Int32) :=
    if v0 < 0 then (
    J_J3_checkIndex_8e157_b9 v0 v1 )
    else (
    if v0 < v1 then (
    some (v0))
    else (
    J_J3_checkIndex_8e157_b9 v0 v1 ))
abbrev rmJ3_checkIndex_8e157 : Room := { frames := 0, cells := 0, slots := 0, locals := 0 }
set_option maxHeartbeats 4000000 in
set_option maxRecDepth 100000 in
theorem c_J3_checkIndex_8e157 (l : Launch) (D : va_G) (cI cJ cC cL : ClassId) (fo2 : Option Nat) (v0 : Int32) (v1 : Int32) (r : Int32) (hJ : J_J3_checkIndex_8e157 v0 v1 = some (r)) (sz : Nat) : Met l yJ3_checkIndex_8e157 wsJ3_checkIndex_8e157 rmJ3_checkIndex_8e157 (va_Pc [.int v0, .int v1, va_rf fo2] (jpre XT D (tyL cI cJ cC cL) [] sz)) (va_Qi (fun r' (_ : Unit) => r' = r) (fun _ t => jpost D (tyL cI cJ cC cL) (va_A [] sz) [] t) (va_A [] sz)) 0 0 (va_A [] sz) := by
  refine jE_i (cc := cJ3_checkIndex_8e157) (maxL := 3) (own := RJ3) (ret := (some .int)) (lv0 := [(0, .int v0), (1, .int v1), (2, va_rf fo2)]) (by decide) rfl rfl rfl (by cases fo2 <;> exact Nat.le_of_ble_eq_true rfl) rfl ?_
  intro p e s m args below meth c A Q ls hx hb hml hown hts hK hN hX hA hP hD hS hl hRet
  have hF : CallFix p m c cJ3_checkIndex_8e157 3 s args wsJ3_checkIndex_8e157 RJ3 := ⟨hx, hb, hml, hown, hts⟩
  have B9 : ∀ (H : Heap) (locs : List Loc), va_P D vwCl [] H → va_D A [] → va_S A s.heap H locs → ∀ ls : Array Slot, lv_has ls 3 [(0, .int v0), (1, .int v1), (2, va_rf fo2)] → J_J3_checkIndex_8e157_b9  v0 v1  = some (r) → W p l e rmJ3_checkIndex_8e157 s m args below meth c H locs 0 0 Q (F0 m 9 ls []) := by
    intro H locs hP hD hS ls hl hJ
    unfold J_J3_checkIndex_8e157_b9 at hJ
    cases hJ
  unfold J_J3_checkIndex_8e157 at hJ
  refine lv_iload_n hx hb dJ3_checkIndex_8e157_0 rfl (lv_at hl 0 rfl) ?_
  refine jif_lt (tgt := 9) hx hb dJ3_checkIndex_8e157_1 (by decide) hJ (fun hJ => ?_) (fun hJ => ?_)
  · exact B9    s.heap []  hP hD hS _ (lv_sub hl [0, 1, 2] rfl) hJ
  · refine lv_iload_n hx hb dJ3_checkIndex_8e157_4 rfl (lv_at hl 0 rfl) ?_
    refine lv_iload_n hx hb dJ3_checkIndex_8e157_5 rfl (lv_at hl 1 rfl) ?_
    refine jif_icmp_lt (tgt := 16) hx hb dJ3_checkIndex_8e157_6 (by decide) hJ (fun hJ => ?_) (fun hJ => ?_)
    · refine lv_iload_n hx hb dJ3_checkIndex_8e157_16 rfl (lv_at hl 0 rfl) ?_
      have e0 := Option.some.inj hJ
      exact hRet hP hD hS e0 dJ3_checkIndex_8e157_17
    · exact B9    s.heap []  hP hD hS _ (lv_sub hl [0, 1, 2] rfl) hJ

def J_J0_checkBoundsBeginEnd_23922 (v0 : Int32) (v1 : Int32) (v2 : Int32) : Option (Unit) :=
    bnd1 (J_J3_checkFromToIndex_8c36e v0 v1 v2) fun x6 =>
    some ()
abbrev rmJ0_checkBoundsBeginEnd_23922 : Room := { frames := 1, cells := 0, slots := 0, locals := 23 }
set_option maxHeartbeats 4000000 in
set_option maxRecDepth 100000 in
theorem c_J0_checkBoundsBeginEnd_23922 (l : Launch) (D : va_G) (cI cJ cC cL : ClassId) (v0 : Int32) (v1 : Int32) (v2 : Int32) (hJ : J_J0_checkBoundsBeginEnd_23922 v0 v1 v2 = some ()) (sz : Nat) : Met l yJ0_checkBoundsBeginEnd_23922 wsJ0_checkBoundsBeginEnd_23922 rmJ0_checkBoundsBeginEnd_23922 (va_Pc [.int v0, .int v1, .int v2] (jpre XZ D (tyL cI cJ cC cL) [] sz)) (va_Qv (fun (_ : Unit) => True) (fun _ t => jpost D (tyL cI cJ cC cL) (va_A [] sz) [] t) (va_A [] sz)) 0 0 (va_A [] sz) := by
  refine jE_v (cc := cJ0_checkBoundsBeginEnd_23922) (maxL := 3) (own := RJ0) (ret := none) (lv0 := [(0, .int v0), (1, .int v1), (2, .int v2)]) (by decide) rfl rfl rfl (Nat.le_of_ble_eq_true rfl) rfl ?_
  intro p e s m args below meth c A Q ls hx hb hml hown hts hK hN hX hA hP hD hS hl hRet
  have hF : CallFix p m c cJ0_checkBoundsBeginEnd_23922 3 s args wsJ0_checkBoundsBeginEnd_23922 RJ0 := ⟨hx, hb, hml, hown, hts⟩
  have fl_1053 := hts (.fieldLink RJ0 1053 "jdk/internal/util/Preconditions" "SIOOBE_FORMATTER" "Ljava/util/function/BiFunction;") (by decide +kernel)
  unfold J_J0_checkBoundsBeginEnd_23922 at hJ
  refine lv_iload_n hx hb dJ0_checkBoundsBeginEnd_23922_0 rfl (lv_at hl 0 rfl) ?_
  refine lv_iload_n hx hb dJ0_checkBoundsBeginEnd_23922_1 rfl (lv_at hl 1 rfl) ?_
  refine lv_iload_n hx hb dJ0_checkBoundsBeginEnd_23922_2 rfl (lv_at hl 2 rfl) ?_
  obtain ⟨fo3, hfo3⟩ := Zq_rf hX.2
  refine va_gets (v := va_rf fo3) hx hb hfo3 hS hown fl_1053 (fun _ h9 => h9) dJ0_checkBoundsBeginEnd_23922_3 ?_
  obtain ⟨x6, hc6, hJ⟩ := bnd1_some hJ
  refine jcS_i (As := [.int v0, .int v1, .int v2, va_rf fo3]) (rest := []) (isC := []) (isR := []) (isB := []) (wr := []) (ws2 := []) hF (c_J3_checkFromToIndex_8c36e l D cI cJ cC cL fo3 v0 v1 v2 x6 hc6 s.heap.size) (va_cwS 4 hts gJ0_checkBoundsBeginEnd_23922_J3_checkFromToIndex_8c36e rfl rfl rfl (by decide +kernel) ⟨Nat.le_of_ble_eq_true rfl, Nat.le_of_ble_eq_true rfl⟩) rfl hl rfl (Nat.le_of_ble_eq_true rfl) dJ0_checkBoundsBeginEnd_23922_6 ⟨Nat.zero_le _, Nat.zero_le _⟩ hK hN KX_T trivial hP hD hS hA rfl rfl rfl rfl (by decide) rfl rfl (fun H locs hP hD hS => ?_)
  refine lv_pop hx hb dJ0_checkBoundsBeginEnd_23922_9 rfl ?_
  exact hRet hP hD hS dJ0_checkBoundsBeginEnd_23922_10

def J_J0_checkBoundsOffCount_cabcc (v0 : Int32) (v1 : Int32) (v2 : Int32) : Option (Int32) :=
    bnd1 (J_J3_checkFromIndexSize_8c36e v0 v1 v2) fun x6 =>
    some (x6)
abbrev rmJ0_checkBoundsOffCount_cabcc : Room := { frames := 1, cells := 0, slots := 0, locals := 23 }
set_option maxHeartbeats 4000000 in
set_option maxRecDepth 100000 in
theorem c_J0_checkBoundsOffCount_cabcc (l : Launch) (D : va_G) (cI cJ cC cL : ClassId) (v0 : Int32) (v1 : Int32) (v2 : Int32) (r : Int32) (hJ : J_J0_checkBoundsOffCount_cabcc v0 v1 v2 = some (r)) (sz : Nat) : Met l yJ0_checkBoundsOffCount_cabcc wsJ0_checkBoundsOffCount_cabcc rmJ0_checkBoundsOffCount_cabcc (va_Pc [.int v0, .int v1, .int v2] (jpre XZ D (tyL cI cJ cC cL) [] sz)) (va_Qi (fun r' (_ : Unit) => r' = r) (fun _ t => jpost D (tyL cI cJ cC cL) (va_A [] sz) [] t) (va_A [] sz)) 0 0 (va_A [] sz) := by
  refine jE_i (cc := cJ0_checkBoundsOffCount_cabcc) (maxL := 3) (own := RJ0) (ret := (some .int)) (lv0 := [(0, .int v0), (1, .int v1), (2, .int v2)]) (by decide) rfl rfl rfl (Nat.le_of_ble_eq_true rfl) rfl ?_
  intro p e s m args below meth c A Q ls hx hb hml hown hts hK hN hX hA hP hD hS hl hRet
  have hF : CallFix p m c cJ0_checkBoundsOffCount_cabcc 3 s args wsJ0_checkBoundsOffCount_cabcc RJ0 := ⟨hx, hb, hml, hown, hts⟩
  have fl_1053 := hts (.fieldLink RJ0 1053 "jdk/internal/util/Preconditions" "SIOOBE_FORMATTER" "Ljava/util/function/BiFunction;") (by decide +kernel)
  unfold J_J0_checkBoundsOffCount_cabcc at hJ
  refine lv_iload_n hx hb dJ0_checkBoundsOffCount_cabcc_0 rfl (lv_at hl 0 rfl) ?_
  refine lv_iload_n hx hb dJ0_checkBoundsOffCount_cabcc_1 rfl (lv_at hl 1 rfl) ?_
  refine lv_iload_n hx hb dJ0_checkBoundsOffCount_cabcc_2 rfl (lv_at hl 2 rfl) ?_
  obtain ⟨fo3, hfo3⟩ := Zq_rf hX.2
  refine va_gets (v := va_rf fo3) hx hb hfo3 hS hown fl_1053 (fun _ h9 => h9) dJ0_checkBoundsOffCount_cabcc_3 ?_
  obtain ⟨x6, hc6, hJ⟩ := bnd1_some hJ
  refine jcS_i (As := [.int v0, .int v1, .int v2, va_rf fo3]) (rest := []) (isC := []) (isR := []) (isB := []) (wr := []) (ws2 := []) hF (c_J3_checkFromIndexSize_8c36e l D cI cJ cC cL fo3 v0 v1 v2 x6 hc6 s.heap.size) (va_cwS 4 hts gJ0_checkBoundsOffCount_cabcc_J3_checkFromIndexSize_8c36e rfl rfl rfl (by decide +kernel) ⟨Nat.le_of_ble_eq_true rfl, Nat.le_of_ble_eq_true rfl⟩) rfl hl rfl (Nat.le_of_ble_eq_true rfl) dJ0_checkBoundsOffCount_cabcc_6 ⟨Nat.zero_le _, Nat.zero_le _⟩ hK hN KX_T trivial hP hD hS hA rfl rfl rfl rfl (by decide) rfl rfl (fun H locs hP hD hS => ?_)
  have e0 := Option.some.inj hJ
  exact hRet hP hD hS e0 dJ0_checkBoundsOffCount_cabcc_9

def J_J0_checkIndex_df160 (v0 : Int32) (v1 : Int32) : Option (Unit) :=
    bnd1 (J_J3_checkIndex_8e157 v0 v1) fun x5 =>
    some ()
abbrev rmJ0_checkIndex_df160 : Room := { frames := 1, cells := 0, slots := 0, locals := 22 }
set_option maxHeartbeats 4000000 in
set_option maxRecDepth 100000 in
theorem c_J0_checkIndex_df160 (l : Launch) (D : va_G) (cI cJ cC cL : ClassId) (v0 : Int32) (v1 : Int32) (hJ : J_J0_checkIndex_df160 v0 v1 = some ()) (sz : Nat) : Met l yJ0_checkIndex_df160 wsJ0_checkIndex_df160 rmJ0_checkIndex_df160 (va_Pc [.int v0, .int v1] (jpre XZ D (tyL cI cJ cC cL) [] sz)) (va_Qv (fun (_ : Unit) => True) (fun _ t => jpost D (tyL cI cJ cC cL) (va_A [] sz) [] t) (va_A [] sz)) 0 0 (va_A [] sz) := by
  refine jE_v (cc := cJ0_checkIndex_df160) (maxL := 2) (own := RJ0) (ret := none) (lv0 := [(0, .int v0), (1, .int v1)]) (by decide) rfl rfl rfl (Nat.le_of_ble_eq_true rfl) rfl ?_
  intro p e s m args below meth c A Q ls hx hb hml hown hts hK hN hX hA hP hD hS hl hRet
  have hF : CallFix p m c cJ0_checkIndex_df160 2 s args wsJ0_checkIndex_df160 RJ0 := ⟨hx, hb, hml, hown, hts⟩
  have fl_1053 := hts (.fieldLink RJ0 1053 "jdk/internal/util/Preconditions" "SIOOBE_FORMATTER" "Ljava/util/function/BiFunction;") (by decide +kernel)
  unfold J_J0_checkIndex_df160 at hJ
  refine lv_iload_n hx hb dJ0_checkIndex_df160_0 rfl (lv_at hl 0 rfl) ?_
  refine lv_iload_n hx hb dJ0_checkIndex_df160_1 rfl (lv_at hl 1 rfl) ?_
  obtain ⟨fo2, hfo2⟩ := Zq_rf hX.2
  refine va_gets (v := va_rf fo2) hx hb hfo2 hS hown fl_1053 (fun _ h9 => h9) dJ0_checkIndex_df160_2 ?_
  obtain ⟨x5, hc5, hJ⟩ := bnd1_some hJ
  refine jcS_i (As := [.int v0, .int v1, va_rf fo2]) (rest := []) (isC := []) (isR := []) (isB := []) (wr := []) (ws2 := []) hF (c_J3_checkIndex_8e157 l D cI cJ cC cL fo2 v0 v1 x5 hc5 s.heap.size) (va_cwS 3 hts gJ0_checkIndex_df160_J3_checkIndex_8e157 rfl rfl rfl (by decide +kernel) ⟨Nat.le_of_ble_eq_true rfl, Nat.le_of_ble_eq_true rfl⟩) rfl hl rfl (Nat.le_of_ble_eq_true rfl) dJ0_checkIndex_df160_5 ⟨Nat.zero_le _, Nat.zero_le _⟩ hK hN KX_T trivial hP hD hS hA rfl rfl rfl rfl (by decide) rfl rfl (fun H locs hP hD hS => ?_)
  refine lv_pop hx hb dJ0_checkIndex_df160_8 rfl ?_
  exact hRet hP hD hS dJ0_checkIndex_df160_9

def J_J1_charAt_3b067 (b0 : List Int32) (v1 : Int32) : Option (Int32) :=
    bnd0 (J_J0_checkIndex_df160 v1 (Int32.ofNat b0.length)) (
    chk v1 b0.length (
    nm (b0.getD v1.toNatClampNeg 0) fun x8 =>
    chc (((x8 &&& (255 : Int32)).toUInt32 % 65536).toInt32) (some (((x8 &&& (255 : Int32)).toUInt32 % 65536).toInt32))))
abbrev rmJ1_charAt_3b067 : Room := { frames := 2, cells := 0, slots := 0, locals := 43 }
set_option maxHeartbeats 4000000 in
set_option maxRecDepth 100000 in
theorem c_J1_charAt_3b067 (l : Launch) (D : va_G) (cI cJ cC cL : ClassId) (qb0 : Nat) (b0 : List Int32) (v1 : Int32) (r : Int32) (hJ : J_J1_charAt_3b067 b0 v1 = some (r)) (sz : Nat) : Met l yJ1_charAt_3b067 wsJ1_charAt_3b067 rmJ1_charAt_3b067 (va_Pc [.ref qb0, .int v1] (jpre (XB qb0 b0) D (tyL cI cJ cC cL) [] sz)) (va_Qi (fun r' (_ : Unit) => r' = r) (fun _ t => jpost D (tyL cI cJ cC cL) (va_A [] sz) [] t) (va_A [] sz)) 0 0 (va_A [] sz) := by
  refine jE_c (cc := cJ1_charAt_3b067) (maxL := 2) (own := RJ1) (ret := (some .char)) (lv0 := [(0, .ref qb0), (1, .int v1)]) (by decide) rfl rfl rfl (Nat.le_of_ble_eq_true rfl) rfl ?_
  intro p e s m args below meth c A Q ls hx hb hml hown hts hK hN hX hA hP hD hS hl hRet
  have hF : CallFix p m c cJ1_charAt_3b067 2 s args wsJ1_charAt_3b067 RJ1 := ⟨hx, hb, hml, hown, hts⟩
  unfold J_J1_charAt_3b067 at hJ
  refine lv_iload_n hx hb dJ1_charAt_3b067_0 rfl (lv_at hl 1 rfl) ?_
  refine lv_aload_n hx hb dJ1_charAt_3b067_1 rfl (lv_at hl 0 rfl) ?_
  refine va_tlen (v := Int32.ofNat b0.length) hx hb hX.2 hS rfl dJ1_charAt_3b067_2 ?_
  obtain ⟨hc3, hJ⟩ := bnd0_some hJ
  refine jcS_v (As := [.int v1, .int (Int32.ofNat b0.length)]) (rest := []) (isC := []) (isR := []) (isB := []) (wr := []) (ws2 := []) hF (c_J0_checkIndex_df160 l D cI cJ cC cL v1 (Int32.ofNat b0.length) hc3 s.heap.size) (va_cwS 2 hts gJ1_charAt_3b067_J0_checkIndex_df160 rfl rfl rfl (by decide +kernel) ⟨Nat.le_of_ble_eq_true rfl, Nat.le_of_ble_eq_true rfl⟩) rfl hl rfl (Nat.le_of_ble_eq_true rfl) dJ1_charAt_3b067_3 ⟨Nat.zero_le _, Nat.zero_le _⟩ hK hN KX_XZ hX.1 hP hD hS hA rfl rfl rfl rfl (by decide) rfl rfl (fun H locs hP hD hS => ?_)
  refine lv_aload_n hx hb dJ1_charAt_3b067_6 rfl (lv_at hl 0 rfl) ?_
  refine lv_iload_n hx hb dJ1_charAt_3b067_7 rfl (lv_at hl 1 rfl) ?_
  obtain ⟨hin, hJ⟩ := chk_in hJ
  refine va_tb (v := .int (b0.getD v1.toNatClampNeg 0)) hx hb hX.2 hS hin rfl dJ1_charAt_3b067_8 ?_
  refine jt_i hJ (fun x8 hJ => ?_)
  refine lv_sipush (v := (255 : Int32)) hx hb dJ1_charAt_3b067_9 (by decide) ?_
  refine lv_iand hx hb dJ1_charAt_3b067_12 ?_
  refine lv_i2c (v := ((x8 &&& (255 : Int32)).toUInt32 % 65536).toInt32) hx hb dJ1_charAt_3b067_13 rfl ?_
  obtain ⟨h01, hJ⟩ := chc_ok hJ
  have e0 := Option.some.inj hJ
  exact hRet hP hD hS h01 e0 dJ1_charAt_3b067_14

def J_J0_charAt_5068e (b0 : List Int32) (v1 : Int32) : Option (Int32) :=
    bnd1 (J_J0_isLatin1_aae02 b0) fun x1 =>
    if x1 = 0 then (
    none)
    else (
    bnd1 (J_J1_charAt_3b067 b0 v1) fun x12 =>
    chc x12 (some (x12)))
abbrev rmJ0_charAt_5068e : Room := { frames := 3, cells := 0, slots := 0, locals := 64 }
set_option maxHeartbeats 4000000 in
set_option maxRecDepth 100000 in
theorem c_J0_charAt_5068e (l : Launch) (D : va_G) (cI cJ cC cL : ClassId) (qb0 : Nat) (b0 : List Int32) (v1 : Int32) (r : Int32) (hJ : J_J0_charAt_5068e b0 v1 = some (r)) (sz : Nat) : Met l yJ0_charAt_5068e wsJ0_charAt_5068e rmJ0_charAt_5068e (va_Pc [.ref qb0, .int v1] (jpre (XP qb0 b0) D (tyL cI cJ cC cL) [] sz)) (va_Qi (fun r' (_ : Unit) => r' = r) (fun _ t => jpost D (tyL cI cJ cC cL) (va_A [] sz) [] t) (va_A [] sz)) 0 0 (va_A [] sz) := by
  refine jE_c (cc := cJ0_charAt_5068e) (maxL := 2) (own := RJ0) (ret := (some .char)) (lv0 := [(0, .ref qb0), (1, .int v1)]) (by decide) rfl rfl rfl (Nat.le_of_ble_eq_true rfl) rfl ?_
  intro p e s m args below meth c A Q ls hx hb hml hown hts hK hN hX hA hP hD hS hl hRet
  have hF : CallFix p m c cJ0_charAt_5068e 2 s args wsJ0_charAt_5068e RJ0 := ⟨hx, hb, hml, hown, hts⟩
  have fl_9 := hts (.fieldLink RJ0 9 "java/lang/String" "value" "[B") (by decide +kernel)
  unfold J_J0_charAt_5068e at hJ
  refine lv_aload_n hx hb dJ0_charAt_5068e_0 rfl (lv_at hl 0 rfl) ?_
  obtain ⟨x1, hc1, hJ⟩ := bnd1_some hJ
  refine jcR_i (C := RJ0) (As := []) (rest := []) (isC := []) (isR := []) (isB := []) (wr := []) (ws2 := []) hF (c_J0_isLatin1_aae02 l D cI cJ cC cL qb0 b0 x1 hc1 s.heap.size) (cwV 0 hts gJ0_charAt_5068e_J0_isLatin1_aae02 rfl rfl rfl (by decide +kernel) ⟨Nat.le_of_ble_eq_true rfl, Nat.le_of_ble_eq_true rfl⟩) rfl hl rfl (Nat.le_of_ble_eq_true rfl) dJ0_charAt_5068e_1 ⟨Nat.zero_le _, Nat.zero_le _⟩ hK hN KX_XP ⟨hX.1, hX.2⟩ hP hD hS hA (str_recv hX.2 hS) rfl rfl rfl rfl (by decide) rfl rfl (fun H locs hP hD hS => ?_)
  refine jif_eq (tgt := 16) hx hb dJ0_charAt_5068e_4 (by decide) hJ (fun hJ => ?_) (fun hJ => ?_)
  · cases hJ
  · refine lv_aload_n hx hb dJ0_charAt_5068e_7 rfl (lv_at hl 0 rfl) ?_
    obtain ⟨qv8, hv8, hb8⟩ := (hX.2).2.2
    refine vk_getf (v := .ref qv8) hx hb hv8 hS hown fl_9 (fun _ h9 => h9) dJ0_charAt_5068e_8 ?_
    refine lv_iload_n hx hb dJ0_charAt_5068e_11 rfl (lv_at hl 1 rfl) ?_
    obtain ⟨x12, hc12, hJ⟩ := bnd1_some hJ
    refine jcS_i (As := [.ref qv8, .int v1]) (rest := []) (isC := []) (isR := []) (isB := []) (wr := []) (ws2 := []) hF (c_J1_charAt_3b067 l D cI cJ cC cL qv8 b0 v1 x12 hc12 H.size) (va_cwS 2 hts gJ0_charAt_5068e_J1_charAt_3b067 rfl rfl rfl (by decide +kernel) ⟨Nat.le_of_ble_eq_true rfl, Nat.le_of_ble_eq_true rfl⟩) rfl hl rfl (Nat.le_of_ble_eq_true rfl) dJ0_charAt_5068e_12 ⟨Nat.zero_le _, Nat.zero_le _⟩ hK hN KX_XB ⟨hX.1, hb8⟩ hP hD hS hA rfl rfl rfl rfl (by decide) rfl rfl (fun H locs hP hD hS => ?_)
    obtain ⟨h01, hJ⟩ := chc_ok hJ
    have e0 := Option.some.inj hJ
    exact hRet hP hD hS h01 e0 dJ0_charAt_5068e_15


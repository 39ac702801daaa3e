def J_X9_isPlace_b14 (v0 : Int32) (s14_0 : Int32) : Option (Int32) :=
    chz s14_0 (some (s14_0))
def J_X9_isPlace_b13 (v0 : Int32) : Option (Int32) :=
    J_X9_isPlace_b14 v0 (0 : Int32)
def J_X9_isPlace (v0 : Int32) : Option (Int32) :=
    if v0 < 0 then (
    J_X9_isPlace_b13 v0 )
    else (
    if (3 : Int32) ≤ v0 then (
    J_X9_isPlace_b13 v0 )
    else (
    J_X9_isPlace_b14 v0 (1 : Int32)))
abbrev rmX9_isPlace : Room := { frames := 0, cells := 0, slots := 0, locals := 0 }
set_option maxHeartbeats 4000000 in
set_option maxRecDepth 100000 in
theorem c_X9_isPlace (l : Launch) (D : va_G) (cI cJ cC cL : ClassId) (v0 : Int32) (r : Int32) (hJ : J_X9_isPlace v0 = some (r)) (sz : Nat) : Met l yX9_isPlace wsX9_isPlace rmX9_isPlace (va_Pc [.int v0] (jpre XT D (tyL cI cJ cC cL) [] sz)) (va_Qi (fun r' (_ : Unit) => r' = r) (fun _ t => jpost D (tyL cI cJ cC cL) (va_A [] sz) [] t) (va_A [] sz)) 0 0 (va_A [] sz) := by
  refine jE_z (cc := cX9_isPlace) (maxL := 1) (own := RX9) (ret := (some .boolean)) (lv0 := [(0, .int v0)]) (by decide) rfl rfl rfl (Nat.le_of_ble_eq_true rfl) rfl ?_
  intro p e s m args below meth c A Q ls hx hb hml hown hts hK hN hX hA hP hD hS hl hRet
  have hF : CallFix p m c cX9_isPlace 1 s args wsX9_isPlace RX9 := ⟨hx, hb, hml, hown, hts⟩
  have B14 : ∀ (s14_0 : Int32) (H : Heap) (locs : List Loc), va_P D vwCl [] H → va_D A [] → va_S A s.heap H locs → ∀ ls : Array Slot, lv_has ls 1 [] → J_X9_isPlace_b14  v0 s14_0 = some (r) → W p l e rmX9_isPlace s m args below meth c H locs 0 0 Q (F0 m 14 ls [.int s14_0]) := by
    intro s14_0 H locs hP hD hS ls hl hJ
    unfold J_X9_isPlace_b14 at hJ
    obtain ⟨h01, hJ⟩ := chz_ok hJ
    have e0 := Option.some.inj hJ
    exact hRet hP hD hS h01 e0 dX9_isPlace_14
  have B13 : ∀ (H : Heap) (locs : List Loc), va_P D vwCl [] H → va_D A [] → va_S A s.heap H locs → ∀ ls : Array Slot, lv_has ls 1 [] → J_X9_isPlace_b13  v0  = some (r) → W p l e rmX9_isPlace s m args below meth c H locs 0 0 Q (F0 m 13 ls []) := by
    intro H locs hP hD hS ls hl hJ
    unfold J_X9_isPlace_b13 at hJ
    refine lv_iconst (v := (0 : Int32)) hx hb dX9_isPlace_13 (by decide) ?_
    exact B14  (0 : Int32)  H locs  hP hD hS _ (lv_sub hl [] rfl) hJ
  unfold J_X9_isPlace at hJ
  refine lv_iload_n hx hb dX9_isPlace_0 rfl (lv_at hl 0 rfl) ?_
  refine jif_lt (tgt := 13) hx hb dX9_isPlace_1 (by decide) hJ (fun hJ => ?_) (fun hJ => ?_)
  · exact B13    s.heap []  hP hD hS _ (lv_sub hl [] rfl) hJ
  · refine lv_iload_n hx hb dX9_isPlace_4 rfl (lv_at hl 0 rfl) ?_
    refine lv_iconst (v := (3 : Int32)) hx hb dX9_isPlace_5 (by decide) ?_
    refine jif_icmp_ge (tgt := 13) hx hb dX9_isPlace_6 (by decide) hJ (fun hJ => ?_) (fun hJ => ?_)
    · exact B13    s.heap []  hP hD hS _ (lv_sub hl [] rfl) hJ
    · refine lv_iconst (v := (1 : Int32)) hx hb dX9_isPlace_9 (by decide) ?_
      refine lv_goto (tgt := 14) hx hb dX9_isPlace_10 (by decide) ?_
      exact B14  (1 : Int32)  s.heap []  hP hD hS _ (lv_sub hl [] rfl) hJ

def J_X9_isIn_b14 (v0 : Int32) (v1 : Int32) (s14_0 : Int32) : Option (Int32) :=
    chz s14_0 (some (s14_0))
def J_X9_isIn (v0 : Int32) (v1 : Int32) : Option (Int32) :=
    nm (v0 >>> (v1 &&& 31)) fun x2 =>
    nm (x2 &&& (1 : Int32)) fun x4 =>
    if x4 = (1 : Int32) then (
    J_X9_isIn_b14 v0 v1 (1 : Int32))
    else (
    J_X9_isIn_b14 v0 v1 (0 : Int32))
abbrev rmX9_isIn : Room := { frames := 0, cells := 0, slots := 0, locals := 0 }
set_option maxHeartbeats 4000000 in
set_option maxRecDepth 100000 in
theorem c_X9_isIn (l : Launch) (D : va_G) (cI cJ cC cL : ClassId) (v0 : Int32) (v1 : Int32) (r : Int32) (hJ : J_X9_isIn v0 v1 = some (r)) (sz : Nat) : Met l yX9_isIn wsX9_isIn rmX9_isIn (va_Pc [.int v0, .int v1] (jpre XT D (tyL cI cJ cC cL) [] sz)) (va_Qi (fun r' (_ : Unit) => r' = r) (fun _ t => jpost D (tyL cI cJ cC cL) (va_A [] sz) [] t) (va_A [] sz)) 0 0 (va_A [] sz) := by
  refine jE_z (cc := cX9_isIn) (maxL := 2) (own := RX9) (ret := (some .boolean)) (lv0 := [(0, .int v0), (1, .int v1)]) (by decide) rfl rfl rfl (Nat.le_of_ble_eq_true rfl) rfl ?_
  intro p e s m args below meth c A Q ls hx hb hml hown hts hK hN hX hA hP hD hS hl hRet
  have hF : CallFix p m c cX9_isIn 2 s args wsX9_isIn RX9 := ⟨hx, hb, hml, hown, hts⟩
  have B14 : ∀ (s14_0 : Int32) (H : Heap) (locs : List Loc), va_P D vwCl [] H → va_D A [] → va_S A s.heap H locs → ∀ ls : Array Slot, lv_has ls 2 [] → J_X9_isIn_b14  v0 v1 s14_0 = some (r) → W p l e rmX9_isIn s m args below meth c H locs 0 0 Q (F0 m 14 ls [.int s14_0]) := by
    intro s14_0 H locs hP hD hS ls hl hJ
    unfold J_X9_isIn_b14 at hJ
    obtain ⟨h01, hJ⟩ := chz_ok hJ
    have e0 := Option.some.inj hJ
    exact hRet hP hD hS h01 e0 dX9_isIn_14
  unfold J_X9_isIn at hJ
  refine lv_iload_n hx hb dX9_isIn_0 rfl (lv_at hl 0 rfl) ?_
  refine lv_iload_n hx hb dX9_isIn_1 rfl (lv_at hl 1 rfl) ?_
  refine lv_ishr hx hb dX9_isIn_2 ?_
  refine jt_i hJ (fun x2 hJ => ?_)
  refine lv_iconst (v := (1 : Int32)) hx hb dX9_isIn_3 (by decide) ?_
  refine lv_iand hx hb dX9_isIn_4 ?_
  refine jt_i hJ (fun x4 hJ => ?_)
  refine lv_iconst (v := (1 : Int32)) hx hb dX9_isIn_5 (by decide) ?_
  refine jif_icmp_ne (tgt := 13) hx hb dX9_isIn_6 (by decide) hJ (fun hJ => ?_) (fun hJ => ?_)
  · refine lv_iconst (v := (0 : Int32)) hx hb dX9_isIn_13 (by decide) ?_
    exact B14  (0 : Int32)  s.heap []  hP hD hS _ (lv_sub hl [] rfl) hJ
  · refine lv_iconst (v := (1 : Int32)) hx hb dX9_isIn_9 (by decide) ?_
    refine lv_goto (tgt := 14) hx hb dX9_isIn_10 (by decide) ?_
    exact B14  (1 : Int32)  s.heap []  hP hD hS _ (lv_sub hl [] rfl) hJ

def J_X9_lowestIn_b22 (v0 : Int32) (v1 : Int32) : Option (Int32) :=
    some (v1)
def J_X9_lowestIn_L2 (v0 : Int32) : Nat → Int32 → Option (Int32)
  | 0, _ => none
  | nf + 1, v1 =>
    if (16 : Int32) ≤ v1 then (
    J_X9_lowestIn_b22 v0 v1)
    else (
    bnd1 (J_X9_isIn v0 v1) fun x10 =>
    if x10 = 0 then (
    nm (v1 + Int32.ofInt 1) fun x16 =>
    J_X9_lowestIn_L2 v0 nf x16)
    else (
    J_X9_lowestIn_b22 v0 v1))
def J_X9_lowestIn (v0 : Int32) : Option (Int32) :=
    J_X9_lowestIn_L2 v0 FU (0 : Int32)
abbrev rmX9_lowestIn : Room := { frames := 1, cells := 0, slots := 0, locals := 21 }
set_option maxHeartbeats 4000000 in
set_option maxRecDepth 100000 in
theorem c_X9_lowestIn (l : Launch) (D : va_G) (cI cJ cC cL : ClassId) (v0 : Int32) (r : Int32) (hJ : J_X9_lowestIn v0 = some (r)) (sz : Nat) : Met l yX9_lowestIn wsX9_lowestIn rmX9_lowestIn (va_Pc [.int v0] (jpre XT D (tyL cI cJ cC cL) [] sz)) (va_Qi (fun r' (_ : Unit) => r' = r) (fun _ t => jpost D (tyL cI cJ cC cL) (va_A [] sz) [] t) (va_A [] sz)) 0 0 (va_A [] sz) := by
  refine jE_i (cc := cX9_lowestIn) (maxL := 2) (own := RX9) (ret := (some .int)) (lv0 := [(0, .int v0)]) (by decide) rfl rfl rfl (Nat.le_of_ble_eq_true rfl) rfl ?_
  intro p e s m args below meth c A Q ls hx hb hml hown hts hK hN hX hA hP hD hS hl hRet
  have hF : CallFix p m c cX9_lowestIn 2 s args wsX9_lowestIn RX9 := ⟨hx, hb, hml, hown, hts⟩
  have B22 : ∀ (v1 : Int32) (H : Heap) (locs : List Loc), va_P D vwCl [] H → va_D A [] → va_S A s.heap H locs → ∀ ls : Array Slot, lv_has ls 2 [(1, .int v1)] → J_X9_lowestIn_b22  v0 v1 = some (r) → W p l e rmX9_lowestIn s m args below meth c H locs 0 0 Q (F0 m 22 ls []) := by
    intro v1 H locs hP hD hS ls hl hJ
    unfold J_X9_lowestIn_b22 at hJ
    refine lv_iload_n hx hb dX9_lowestIn_22 rfl (lv_at hl 0 rfl) ?_
    have e0 := Option.some.inj hJ
    exact hRet hP hD hS e0 dX9_lowestIn_23
  have L2 : ∀ (nf : Nat), ∀ (v1 : Int32) (H : Heap) (locs : List Loc), va_P D vwCl [] H → va_D A [] → va_S A s.heap H locs → ∀ ls : Array Slot, lv_has ls 2 [(0, .int v0), (1, .int v1)] → J_X9_lowestIn_L2  v0 nf v1 = some (r) → W p l e rmX9_lowestIn s m args below meth c H locs 0 0 Q (F0 m 2 ls []) := by
    intro nf
    induction nf with
    | zero =>
      intro v1 H locs hP hD hS ls hl hJ
      rw [J_X9_lowestIn_L2] at hJ
      cases hJ
    | succ nf ih =>
      intro v1 H locs hP hD hS ls hl hJ
      rw [J_X9_lowestIn_L2] at hJ
      refine lv_iload_n hx hb dX9_lowestIn_2 rfl (lv_at hl 1 rfl) ?_
      refine lv_bipush (v := (16 : Int32)) hx hb dX9_lowestIn_3 (by decide) ?_
      refine jif_icmp_ge (tgt := 22) hx hb dX9_lowestIn_5 (by decide) hJ (fun hJ => ?_) (fun hJ => ?_)
      · exact B22  v1  H locs  hP hD hS _ (lv_sub hl [1] rfl) hJ
      · refine lv_iload_n hx hb dX9_lowestIn_8 rfl (lv_at hl 0 rfl) ?_
        refine lv_iload_n hx hb dX9_lowestIn_9 rfl (lv_at hl 1 rfl) ?_
        obtain ⟨x10, hc10, hJ⟩ := bnd1_some hJ
        refine jcS_i (As := [.int v0, .int v1]) (rest := []) (isC := []) (isR := []) (isB := []) (wr := []) (ws2 := []) hF (c_X9_isIn l D cI cJ cC cL v0 v1 x10 hc10 H.size) (va_cwS 2 hts gX9_lowestIn_X9_isIn rfl rfl rfl (by decide +kernel) ⟨Nat.le_of_ble_eq_true rfl, Nat.le_of_ble_eq_true rfl⟩) rfl hl rfl (Nat.le_of_ble_eq_true rfl) dX9_lowestIn_10 ⟨Nat.zero_le _, Nat.zero_le _⟩ hK hN KX_T trivial hP hD hS hA rfl rfl rfl rfl (by decide) rfl rfl (fun H locs hP hD hS => ?_)
        refine jif_ne (tgt := 22) hx hb dX9_lowestIn_13 (by decide) hJ (fun hJ => ?_) (fun hJ => ?_)
        · exact B22  v1  H locs  hP hD hS _ (lv_sub hl [1] rfl) hJ
        · refine jt_iinc hJ (fun x16 ex16 hJ => ?_)
          refine lv_iinc (v := x16) (lv' := [(1, .int x16), (0, .int v0)]) hx hb dX9_lowestIn_16 hl (k := 1) rfl ex16 (by decide) rfl (fun ls hl => ?_)
          refine lv_goto (tgt := 2) hx hb dX9_lowestIn_19 (by decide) ?_
          exact ih x16  H locs  hP hD hS _ (lv_sub hl [1, 0] rfl) hJ
  unfold J_X9_lowestIn at hJ
  refine lv_iconst (v := (0 : Int32)) hx hb dX9_lowestIn_0 (by decide) ?_
  refine lv_istore_n (lv' := [(1, .int (0 : Int32)), (0, .int v0)]) hx hb dX9_lowestIn_1 rfl hl (by decide) rfl (fun ls hl => ?_)
  exact L2  FU (0 : Int32)  s.heap []  hP hD hS _ (lv_sub hl [1, 0] rfl) hJ

def J_X9_placesOf (v0 : Int32) : Option (Int32) :=
    if v0 = (1 : Int32) then (
    some ((1 : Int32)))
    else (
    if v0 = (2 : Int32) then (
    some ((3 : Int32)))
    else (
    if v0 = (3 : Int32) then (
    some ((3 : Int32)))
    else (
    if v0 = (4 : Int32) then (
    some ((2 : Int32)))
    else (
    if v0 = (5 : Int32) then (
    some ((3 : Int32)))
    else (
    if v0 = (6 : Int32) then (
    some ((1 : Int32)))
    else (
    some ((0 : Int32))))))))
abbrev rmX9_placesOf : Room := { frames := 0, cells := 0, slots := 0, locals := 0 }
set_option maxHeartbeats 4000000 in
set_option maxRecDepth 100000 in
theorem c_X9_placesOf (l : Launch) (D : va_G) (cI cJ cC cL : ClassId) (v0 : Int32) (r : Int32) (hJ : J_X9_placesOf v0 = some (r)) (sz : Nat) : Met l yX9_placesOf wsX9_placesOf rmX9_placesOf (va_Pc [.int v0] (jpre XT D (tyL cI cJ cC cL) [] sz)) (va_Qi (fun r' (_ : Unit) => r' = r) (fun _ t => jpost D (tyL cI cJ cC cL) (va_A [] sz) [] t) (va_A [] sz)) 0 0 (va_A [] sz) := by
  refine jE_i (cc := cX9_placesOf) (maxL := 1) (own := RX9) (ret := (some .int)) (lv0 := [(0, .int v0)]) (by decide) rfl rfl rfl (Nat.le_of_ble_eq_true rfl) rfl ?_
  intro p e s m args below meth c A Q ls hx hb hml hown hts hK hN hX hA hP hD hS hl hRet
  have hF : CallFix p m c cX9_placesOf 1 s args wsX9_placesOf RX9 := ⟨hx, hb, hml, hown, hts⟩
  unfold J_X9_placesOf at hJ
  refine lv_iload_n hx hb dX9_placesOf_0 rfl (lv_at hl 0 rfl) ?_
  by_cases hsw : v0 = (1 : Int32)
  · have hJ := if_some_t hJ hsw
    refine lv_tableIn (off := 39) (tgt := 40) hx hb dX9_placesOf_1 (by rw [hsw]; decide) (by rw [hsw]; decide) (by rw [hsw]; rfl) (by decide) ?_
    refine lv_iconst (v := (1 : Int32)) hx hb dX9_placesOf_40 (by decide) ?_
    have e0 := Option.some.inj hJ
    exact hRet hP hD hS e0 dX9_placesOf_41
  have hJ := if_some_f hJ hsw
  have hs0 := jsw_ne hsw (k := 1) (by decide)
  clear hsw
  by_cases hsw : v0 = (2 : Int32)
  · have hJ := if_some_t hJ hsw
    refine lv_tableIn (off := 43) (tgt := 44) hx hb dX9_placesOf_1 (by rw [hsw]; decide) (by rw [hsw]; decide) (by rw [hsw]; rfl) (by decide) ?_
    refine lv_iconst (v := (3 : Int32)) hx hb dX9_placesOf_44 (by decide) ?_
    have e0 := Option.some.inj hJ
    exact hRet hP hD hS e0 dX9_placesOf_45
  have hJ := if_some_f hJ hsw
  have hs1 := jsw_ne hsw (k := 2) (by decide)
  clear hsw
  by_cases hsw : v0 = (3 : Int32)
  · have hJ := if_some_t hJ hsw
    refine lv_tableIn (off := 43) (tgt := 44) hx hb dX9_placesOf_1 (by rw [hsw]; decide) (by rw [hsw]; decide) (by rw [hsw]; rfl) (by decide) ?_
    refine lv_iconst (v := (3 : Int32)) hx hb dX9_placesOf_44 (by decide) ?_
    have e0 := Option.some.inj hJ
    exact hRet hP hD hS e0 dX9_placesOf_45
  have hJ := if_some_f hJ hsw
  have hs2 := jsw_ne hsw (k := 3) (by decide)
  clear hsw
  by_cases hsw : v0 = (4 : Int32)
  · have hJ := if_some_t hJ hsw
    refine lv_tableIn (off := 41) (tgt := 42) hx hb dX9_placesOf_1 (by rw [hsw]; decide) (by rw [hsw]; decide) (by rw [hsw]; rfl) (by decide) ?_
    refine lv_iconst (v := (2 : Int32)) hx hb dX9_placesOf_42 (by decide) ?_
    have e0 := Option.some.inj hJ
    exact hRet hP hD hS e0 dX9_placesOf_43
  have hJ := if_some_f hJ hsw
  have hs3 := jsw_ne hsw (k := 4) (by decide)
  clear hsw
  by_cases hsw : v0 = (5 : Int32)
  · have hJ := if_some_t hJ hsw
    refine lv_tableIn (off := 43) (tgt := 44) hx hb dX9_placesOf_1 (by rw [hsw]; decide) (by rw [hsw]; decide) (by rw [hsw]; rfl) (by decide) ?_
    refine lv_iconst (v := (3 : Int32)) hx hb dX9_placesOf_44 (by decide) ?_
    have e0 := Option.some.inj hJ
    exact hRet hP hD hS e0 dX9_placesOf_45
  have hJ := if_some_f hJ hsw
  have hs4 := jsw_ne hsw (k := 5) (by decide)
  clear hsw
  by_cases hsw : v0 = (6 : Int32)
  · have hJ := if_some_t hJ hsw
    refine lv_tableIn (off := 39) (tgt := 40) hx hb dX9_placesOf_1 (by rw [hsw]; decide) (by rw [hsw]; decide) (by rw [hsw]; rfl) (by decide) ?_
    refine lv_iconst (v := (1 : Int32)) hx hb dX9_placesOf_40 (by decide) ?_
    have e0 := Option.some.inj hJ
    exact hRet hP hD hS e0 dX9_placesOf_41
  have hJ := if_some_f hJ hsw
  have hs5 := jsw_ne hsw (k := 6) (by decide)
  clear hsw
  refine lv_tableOut (tgt := 46) hx hb dX9_placesOf_1 (by omega) (by decide) ?_
  refine lv_iconst (v := (0 : Int32)) hx hb dX9_placesOf_46 (by decide) ?_
  have e0 := Option.some.inj hJ
  exact hRet hP hD hS e0 dX9_placesOf_47

def J_X2_copyFrom (t_kinds : Nat → Int32) (t_wicks : Nat → Int32) (t_sources : Nat → Int32) (t_changes : Nat → Int32) (a1_count : Int32) (a1_state : Int64) (a1_areLoopsAllowed : Int32) (a1_ticks : Int32) (a1_tickChanges : Int32) (a1_sets : Int32) (a1_kinds : Nat → Int32) (a1_wicks : Nat → Int32) (a1_sources : Nat → Int32) (a1_changes : Nat → Int32) : Option (Int32 × Int64 × Int32 × Int32 × Int32 × Int32 × (Nat → Int32) × (Nat → Int32) × (Nat → Int32) × (Nat → Int32)) :=
    chz a1_areLoopsAllowed (
    some (a1_count, a1_state, a1_areLoopsAllowed, a1_ticks, a1_tickChanges, a1_sets, (va_cpy a1_kinds t_kinds (0 : Int32).toNatClampNeg (0 : Int32).toNatClampNeg (16 : Int32).toNatClampNeg), (va_cpy a1_wicks t_wicks (0 : Int32).toNatClampNeg (0 : Int32).toNatClampNeg (16 : Int32).toNatClampNeg), (va_cpy a1_sources t_sources (0 : Int32).toNatClampNeg (0 : Int32).toNatClampNeg (48 : Int32).toNatClampNeg), (va_cpy a1_changes t_changes (0 : Int32).toNatClampNeg (0 : Int32).toNatClampNeg (16 : Int32).toNatClampNeg)))
abbrev rmX2_copyFrom : Room := { frames := 1, cells := 0, slots := 0, locals := 80 }
set_option maxHeartbeats 4000000 in
set_option maxRecDepth 100000 in
theorem c_X2_copyFrom (l : Launch) (D : va_G) (cI cJ cC cL : ClassId) (q_t q_t_kinds q_t_wicks q_t_sources q_t_changes q_a1 q_a1_kinds q_a1_wicks q_a1_sources q_a1_changes : Nat) (t_count : Int32) (t_state : Int64) (t_areLoopsAllowed : Int32) (t_ticks : Int32) (t_tickChanges : Int32) (t_sets : Int32) (t_kinds : Nat → Int32) (t_wicks : Nat → Int32) (t_sources : Nat → Int32) (t_changes : Nat → Int32) (a1_count : Int32) (a1_state : Int64) (a1_areLoopsAllowed : Int32) (a1_ticks : Int32) (a1_tickChanges : Int32) (a1_sets : Int32) (a1_kinds : Nat → Int32) (a1_wicks : Nat → Int32) (a1_sources : Nat → Int32) (a1_changes : Nat → Int32) (o_t_count : Int32) (o_t_state : Int64) (o_t_areLoopsAllowed : Int32) (o_t_ticks : Int32) (o_t_tickChanges : Int32) (o_t_sets : Int32) (o_t_kinds : Nat → Int32) (o_t_wicks : Nat → Int32) (o_t_sources : Nat → Int32) (o_t_changes : Nat → Int32) (hJ : J_X2_copyFrom t_kinds t_wicks t_sources t_changes a1_count a1_state a1_areLoopsAllowed a1_ticks a1_tickChanges a1_sets a1_kinds a1_wicks a1_sources a1_changes = some (o_t_count, o_t_state, o_t_areLoopsAllowed, o_t_ticks, o_t_tickChanges, o_t_sets, o_t_kinds, o_t_wicks, o_t_sources, o_t_changes)) (sz : Nat) : Met l yX2_copyFrom wsX2_copyFrom rmX2_copyFrom (va_Pc [.ref q_t, .ref q_a1] (jpre XT D (tyL cI cJ cC cL) [(q_t, .inr (2, [.int t_count, .ref q_t_kinds, .ref q_t_wicks, .ref q_t_sources, .ref q_t_changes, .long t_state, .int t_areLoopsAllowed, .int t_ticks, .int t_tickChanges, .int t_sets])), (q_t_kinds, .inl (cI, 16, .inl t_kinds)), (q_t_wicks, .inl (cI, 16, .inl t_wicks)), (q_t_sources, .inl (cI, 48, .inl t_sources)), (q_t_changes, .inl (cI, 16, .inl t_changes)), (q_a1, .inr (2, [.int a1_count, .ref q_a1_kinds, .ref q_a1_wicks, .ref q_a1_sources, .ref q_a1_changes, .long a1_state, .int a1_areLoopsAllowed, .int a1_ticks, .int a1_tickChanges, .int a1_sets])), (q_a1_kinds, .inl (cI, 16, .inl a1_kinds)), (q_a1_wicks, .inl (cI, 16, .inl a1_wicks)), (q_a1_sources, .inl (cI, 48, .inl a1_sources)), (q_a1_changes, .inl (cI, 16, .inl a1_changes))] sz)) (va_Qv (fun (_ : Unit) => True) (fun _ t => jpost D (tyL cI cJ cC cL) (va_A [(q_t, .inr (2, [.int t_count, .ref q_t_kinds, .ref q_t_wicks, .ref q_t_sources, .ref q_t_changes, .long t_state, .int t_areLoopsAllowed, .int t_ticks, .int t_tickChanges, .int t_sets])), (q_t_kinds, .inl (cI, 16, .inl t_kinds)), (q_t_wicks, .inl (cI, 16, .inl t_wicks)), (q_t_sources, .inl (cI, 48, .inl t_sources)), (q_t_changes, .inl (cI, 16, .inl t_changes)), (q_a1, .inr (2, [.int a1_count, .ref q_a1_kinds, .ref q_a1_wicks, .ref q_a1_sources, .ref q_a1_changes, .long a1_state, .int a1_areLoopsAllowed, .int a1_ticks, .int a1_tickChanges, .int a1_sets])), (q_a1_kinds, .inl (cI, 16, .inl a1_kinds)), (q_a1_wicks, .inl (cI, 16, .inl a1_wicks)), (q_a1_sources, .inl (cI, 48, .inl a1_sources)), (q_a1_changes, .inl (cI, 16, .inl a1_changes))] sz) [(q_t, .inr (2, [.int o_t_count, .ref q_t_kinds, .ref q_t_wicks, .ref q_t_sources, .ref q_t_changes, .long o_t_state, .int o_t_areLoopsAllowed, .int o_t_ticks, .int o_t_tickChanges, .int o_t_sets])), (q_t_kinds, .inl (cI, 16, .inl o_t_kinds)), (q_t_wicks, .inl (cI, 16, .inl o_t_wicks)), (q_t_sources, .inl (cI, 48, .inl o_t_sources)), (q_t_changes, .inl (cI, 16, .inl o_t_changes)), (q_a1, .inr (2, [.int a1_count, .ref q_a1_kinds, .ref q_a1_wicks, .ref q_a1_sources, .ref q_a1_changes, .long a1_state, .int a1_areLoopsAllowed, .int a1_ticks, .int a1_tickChanges, .int a1_sets])), (q_a1_kinds, .inl (cI, 16, .inl a1_kinds)), (q_a1_wicks, .inl (cI, 16, .inl a1_wicks)), (q_a1_sources, .inl (cI, 48, .inl a1_sources)), (q_a1_changes, .inl (cI, 16, .inl a1_changes))] t) (va_A [(q_t, .inr (2, [.int t_count, .ref q_t_kinds, .ref q_t_wicks, .ref q_t_sources, .ref q_t_changes, .long t_state, .int t_areLoopsAllowed, .int t_ticks, .int t_tickChanges, .int t_sets])), (q_t_kinds, .inl (cI, 16, .inl t_kinds)), (q_t_wicks, .inl (cI, 16, .inl t_wicks)), (q_t_sources, .inl (cI, 48, .inl t_sources)), (q_t_changes, .inl (cI, 16, .inl t_changes)), (q_a1, .inr (2, [.int a1_count, .ref q_a1_kinds, .ref q_a1_wicks, .ref q_a1_sources, .ref q_a1_changes, .long a1_state, .int a1_areLoopsAllowed, .int a1_ticks, .int a1_tickChanges, .int a1_sets])), (q_a1_kinds, .inl (cI, 16, .inl a1_kinds)), (q_a1_wicks, .inl (cI, 16, .inl a1_wicks)), (q_a1_sources, .inl (cI, 48, .inl a1_sources)), (q_a1_changes, .inl (cI, 16, .inl a1_changes))] sz)) 0 0 (va_A [(q_t, .inr (2, [.int t_count, .ref q_t_kinds, .ref q_t_wicks, .ref q_t_sources, .ref q_t_changes, .long t_state, .int t_areLoopsAllowed, .int t_ticks, .int t_tickChanges, .int t_sets])), (q_t_kinds, .inl (cI, 16, .inl t_kinds)), (q_t_wicks, .inl (cI, 16, .inl t_wicks)), (q_t_sources, .inl (cI, 48, .inl t_sources)), (q_t_changes, .inl (cI, 16, .inl t_changes)), (q_a1, .inr (2, [.int a1_count, .ref q_a1_kinds, .ref q_a1_wicks, .ref q_a1_sources, .ref q_a1_changes, .long a1_state, .int a1_areLoopsAllowed, .int a1_ticks, .int a1_tickChanges, .int a1_sets])), (q_a1_kinds, .inl (cI, 16, .inl a1_kinds)), (q_a1_wicks, .inl (cI, 16, .inl a1_wicks)), (q_a1_sources, .inl (cI, 48, .inl a1_sources)), (q_a1_changes, .inl (cI, 16, .inl a1_changes))] sz) := by
  refine jE_v (cc := cX2_copyFrom) (maxL := 2) (own := RX2) (ret := none) (lv0 := [(0, .ref q_t), (1, .ref q_a1)]) (by decide) rfl rfl rfl (Nat.le_of_ble_eq_true rfl) rfl ?_
  intro p e s m args below meth c A Q ls hx hb hml hown hts hK hN hX hA hP hD hS hl hRet
  have hF : CallFix p m c cX2_copyFrom 2 s args wsX2_copyFrom RX2 := ⟨hx, hb, hml, hown, hts⟩
  have fl_9 := hts (.fieldLink RX2 9 "LanternLogic$Lanterns" "kinds" "[I") (by decide +kernel)
  have fl_15 := hts (.fieldLink RX2 15 "LanternLogic$Lanterns" "wicks" "[I") (by decide +kernel)
  have fl_18 := hts (.fieldLink RX2 18 "LanternLogic$Lanterns" "sources" "[I") (by decide +kernel)
  have fl_21 := hts (.fieldLink RX2 21 "LanternLogic$Lanterns" "changes" "[I") (by decide +kernel)
  have fl_24 := hts (.fieldLink RX2 24 "LanternLogic$Lanterns" "areLoopsAllowed" "Z") (by decide +kernel)
  have fl_34 := hts (.fieldLink RX2 34 "LanternLogic$Lanterns" "count" "I") (by decide +kernel)
  have fl_44 := hts (.fieldLink RX2 44 "LanternLogic$Lanterns" "state" "J") (by decide +kernel)
  have fl_48 := hts (.fieldLink RX2 48 "LanternLogic$Lanterns" "ticks" "I") (by decide +kernel)
  have fl_51 := hts (.fieldLink RX2 51 "LanternLogic$Lanterns" "tickChanges" "I") (by decide +kernel)
  have fl_54 := hts (.fieldLink RX2 54 "LanternLogic$Lanterns" "sets" "I") (by decide +kernel)
  have hin_X2 : ∀ w ∈ u_ws RX2 TX2 10, w ∈ wsX2_copyFrom := by decide +kernel
  unfold J_X2_copyFrom at hJ
  refine lv_aload_n hx hb dX2_copyFrom_0 rfl (lv_at hl 0 rfl) ?_
  refine lv_aload_n hx hb dX2_copyFrom_1 rfl (lv_at hl 1 rfl) ?_
  refine va_get (ci := 2) (v := .int a1_count) (C := RX2) (T := TX2) (N := 10) hx hb hts hin_X2 hown hK hP 5 rfl rfl 0 (by decide) fl_34 (fun _ h9 => h9) rfl dX2_copyFrom_2 ?_
  refine va_put (ci := 2) (v := .int a1_count) (ty := .int) (C := RX2) (T := TX2) (N := 10) hx hb hts hin_X2 tyX2 tyX2_ok nmX2 hown hK hP hD hS 0 rfl rfl 0 (by decide) fl_34 (fun _ h9 => h9) rfl (by decide +kernel) rfl rfl (Nat.le_of_ble_eq_true rfl) dX2_copyFrom_5 (fun H locs hP hD hS => ?_)
  have hP : va_P D vwCl [(q_t, .inr (2, [.int a1_count, .ref q_t_kinds, .ref q_t_wicks, .ref q_t_sources, .ref q_t_changes, .long t_state, .int t_areLoopsAllowed, .int t_ticks, .int t_tickChanges, .int t_sets])), (q_t_kinds, .inl (cI, 16, .inl t_kinds)), (q_t_wicks, .inl (cI, 16, .inl t_wicks)), (q_t_sources, .inl (cI, 48, .inl t_sources)), (q_t_changes, .inl (cI, 16, .inl t_changes)), (q_a1, .inr (2, [.int a1_count, .ref q_a1_kinds, .ref q_a1_wicks, .ref q_a1_sources, .ref q_a1_changes, .long a1_state, .int a1_areLoopsAllowed, .int a1_ticks, .int a1_tickChanges, .int a1_sets])), (q_a1_kinds, .inl (cI, 16, .inl a1_kinds)), (q_a1_wicks, .inl (cI, 16, .inl a1_wicks)), (q_a1_sources, .inl (cI, 48, .inl a1_sources)), (q_a1_changes, .inl (cI, 16, .inl a1_changes))] H := hP
  have hD : va_D A [(q_t, .inr (2, [.int a1_count, .ref q_t_kinds, .ref q_t_wicks, .ref q_t_sources, .ref q_t_changes, .long t_state, .int t_areLoopsAllowed, .int t_ticks, .int t_tickChanges, .int t_sets])), (q_t_kinds, .inl (cI, 16, .inl t_kinds)), (q_t_wicks, .inl (cI, 16, .inl t_wicks)), (q_t_sources, .inl (cI, 48, .inl t_sources)), (q_t_changes, .inl (cI, 16, .inl t_changes)), (q_a1, .inr (2, [.int a1_count, .ref q_a1_kinds, .ref q_a1_wicks, .ref q_a1_sources, .ref q_a1_changes, .long a1_state, .int a1_areLoopsAllowed, .int a1_ticks, .int a1_tickChanges, .int a1_sets])), (q_a1_kinds, .inl (cI, 16, .inl a1_kinds)), (q_a1_wicks, .inl (cI, 16, .inl a1_wicks)), (q_a1_sources, .inl (cI, 48, .inl a1_sources)), (q_a1_changes, .inl (cI, 16, .inl a1_changes))] := hD
  refine lv_aload_n hx hb dX2_copyFrom_8 rfl (lv_at hl 1 rfl) ?_
  refine va_get (ci := 2) (v := .ref q_a1_kinds) (C := RX2) (T := TX2) (N := 10) hx hb hts hin_X2 hown hK hP 5 rfl rfl 1 (by decide) fl_9 (fun _ h9 => h9) rfl dX2_copyFrom_9 ?_
  refine lv_iconst (v := (0 : Int32)) hx hb dX2_copyFrom_12 (by decide) ?_
  refine lv_aload_n hx hb dX2_copyFrom_13 rfl (lv_at hl 0 rfl) ?_
  refine va_get (ci := 2) (v := .ref q_t_kinds) (C := RX2) (T := TX2) (N := 10) hx hb hts hin_X2 hown hK hP 0 rfl rfl 1 (by decide) fl_9 (fun _ h9 => h9) rfl dX2_copyFrom_14 ?_
  refine lv_iconst (v := (0 : Int32)) hx hb dX2_copyFrom_17 (by decide) ?_
  refine lv_bipush (v := (16 : Int32)) hx hb dX2_copyFrom_18 (by decide) ?_
  refine va_copyi hx hb (hml.trans hl.1.symm) hown (hts (.methodLink RX2 38 arraycopyName) (by decide +kernel)) (hts (.native arraycopyName) (by decide +kernel)) (hts (.static arraycopyName) (by decide +kernel)) (hts (.initialized "java/lang/System") (by decide +kernel)) hK hP hD hS 6 1 0 0 rfl rfl rfl rfl rfl (by decide) (by decide) (by decide) (by decide) (by decide) (fun _ _ => rfl) (Nat.le_of_ble_eq_true rfl) (by decide) dX2_copyFrom_20 (fun H locs hP hD hS => ?_)
  have hP : va_P D vwCl [(q_t, .inr (2, [.int a1_count, .ref q_t_kinds, .ref q_t_wicks, .ref q_t_sources, .ref q_t_changes, .long t_state, .int t_areLoopsAllowed, .int t_ticks, .int t_tickChanges, .int t_sets])), (q_t_kinds, .inl (cI, 16, .inl (va_cpy a1_kinds t_kinds (0 : Int32).toNatClampNeg (0 : Int32).toNatClampNeg (16 : Int32).toNatClampNeg))), (q_t_wicks, .inl (cI, 16, .inl t_wicks)), (q_t_sources, .inl (cI, 48, .inl t_sources)), (q_t_changes, .inl (cI, 16, .inl t_changes)), (q_a1, .inr (2, [.int a1_count, .ref q_a1_kinds, .ref q_a1_wicks, .ref q_a1_sources, .ref q_a1_changes, .long a1_state, .int a1_areLoopsAllowed, .int a1_ticks, .int a1_tickChanges, .int a1_sets])), (q_a1_kinds, .inl (cI, 16, .inl a1_kinds)), (q_a1_wicks, .inl (cI, 16, .inl a1_wicks)), (q_a1_sources, .inl (cI, 48, .inl a1_sources)), (q_a1_changes, .inl (cI, 16, .inl a1_changes))] H := hP
  have hD : va_D A [(q_t, .inr (2, [.int a1_count, .ref q_t_kinds, .ref q_t_wicks, .ref q_t_sources, .ref q_t_changes, .long t_state, .int t_areLoopsAllowed, .int t_ticks, .int t_tickChanges, .int t_sets])), (q_t_kinds, .inl (cI, 16, .inl (va_cpy a1_kinds t_kinds (0 : Int32).toNatClampNeg (0 : Int32).toNatClampNeg (16 : Int32).toNatClampNeg))), (q_t_wicks, .inl (cI, 16, .inl t_wicks)), (q_t_sources, .inl (cI, 48, .inl t_sources)), (q_t_changes, .inl (cI, 16, .inl t_changes)), (q_a1, .inr (2, [.int a1_count, .ref q_a1_kinds, .ref q_a1_wicks, .ref q_a1_sources, .ref q_a1_changes, .long a1_state, .int a1_areLoopsAllowed, .int a1_ticks, .int a1_tickChanges, .int a1_sets])), (q_a1_kinds, .inl (cI, 16, .inl a1_kinds)), (q_a1_wicks, .inl (cI, 16, .inl a1_wicks)), (q_a1_sources, .inl (cI, 48, .inl a1_sources)), (q_a1_changes, .inl (cI, 16, .inl a1_changes))] := hD
  refine lv_aload_n hx hb dX2_copyFrom_23 rfl (lv_at hl 1 rfl) ?_
  refine va_get (ci := 2) (v := .ref q_a1_wicks) (C := RX2) (T := TX2) (N := 10) hx hb hts hin_X2 hown hK hP 5 rfl rfl 2 (by decide) fl_15 (fun _ h9 => h9) rfl dX2_copyFrom_24 ?_
  refine lv_iconst (v := (0 : Int32)) hx hb dX2_copyFrom_27 (by decide) ?_
  refine lv_aload_n hx hb dX2_copyFrom_28 rfl (lv_at hl 0 rfl) ?_
  refine va_get (ci := 2) (v := .ref q_t_wicks) (C := RX2) (T := TX2) (N := 10) hx hb hts hin_X2 hown hK hP 0 rfl rfl 2 (by decide) fl_15 (fun _ h9 => h9) rfl dX2_copyFrom_29 ?_
  refine lv_iconst (v := (0 : Int32)) hx hb dX2_copyFrom_32 (by decide) ?_
  refine lv_bipush (v := (16 : Int32)) hx hb dX2_copyFrom_33 (by decide) ?_
  refine va_copyi hx hb (hml.trans hl.1.symm) hown (hts (.methodLink RX2 38 arraycopyName) (by decide +kernel)) (hts (.native arraycopyName) (by decide +kernel)) (hts (.static arraycopyName) (by decide +kernel)) (hts (.initialized "java/lang/System") (by decide +kernel)) hK hP hD hS 7 2 0 0 rfl rfl rfl rfl rfl (by decide) (by decide) (by decide) (by decide) (by decide) (fun _ _ => rfl) (Nat.le_of_ble_eq_true rfl) (by decide) dX2_copyFrom_35 (fun H locs hP hD hS => ?_)
  have hP : va_P D vwCl [(q_t, .inr (2, [.int a1_count, .ref q_t_kinds, .ref q_t_wicks, .ref q_t_sources, .ref q_t_changes, .long t_state, .int t_areLoopsAllowed, .int t_ticks, .int t_tickChanges, .int t_sets])), (q_t_kinds, .inl (cI, 16, .inl (va_cpy a1_kinds t_kinds (0 : Int32).toNatClampNeg (0 : Int32).toNatClampNeg (16 : Int32).toNatClampNeg))), (q_t_wicks, .inl (cI, 16, .inl (va_cpy a1_wicks t_wicks (0 : Int32).toNatClampNeg (0 : Int32).toNatClampNeg (16 : Int32).toNatClampNeg))), (q_t_sources, .inl (cI, 48, .inl t_sources)), (q_t_changes, .inl (cI, 16, .inl t_changes)), (q_a1, .inr (2, [.int a1_count, .ref q_a1_kinds, .ref q_a1_wicks, .ref q_a1_sources, .ref q_a1_changes, .long a1_state, .int a1_areLoopsAllowed, .int a1_ticks, .int a1_tickChanges, .int a1_sets])), (q_a1_kinds, .inl (cI, 16, .inl a1_kinds)), (q_a1_wicks, .inl (cI, 16, .inl a1_wicks)), (q_a1_sources, .inl (cI, 48, .inl a1_sources)), (q_a1_changes, .inl (cI, 16, .inl a1_changes))] H := hP
  have hD : va_D A [(q_t, .inr (2, [.int a1_count, .ref q_t_kinds, .ref q_t_wicks, .ref q_t_sources, .ref q_t_changes, .long t_state, .int t_areLoopsAllowed, .int t_ticks, .int t_tickChanges, .int t_sets])), (q_t_kinds, .inl (cI, 16, .inl (va_cpy a1_kinds t_kinds (0 : Int32).toNatClampNeg (0 : Int32).toNatClampNeg (16 : Int32).toNatClampNeg))), (q_t_wicks, .inl (cI, 16, .inl (va_cpy a1_wicks t_wicks (0 : Int32).toNatClampNeg (0 : Int32).toNatClampNeg (16 : Int32).toNatClampNeg))), (q_t_sources, .inl (cI, 48, .inl t_sources)), (q_t_changes, .inl (cI, 16, .inl t_changes)), (q_a1, .inr (2, [.int a1_count, .ref q_a1_kinds, .ref q_a1_wicks, .ref q_a1_sources, .ref q_a1_changes, .long a1_state, .int a1_areLoopsAllowed, .int a1_ticks, .int a1_tickChanges, .int a1_sets])), (q_a1_kinds, .inl (cI, 16, .inl a1_kinds)), (q_a1_wicks, .inl (cI, 16, .inl a1_wicks)), (q_a1_sources, .inl (cI, 48, .inl a1_sources)), (q_a1_changes, .inl (cI, 16, .inl a1_changes))] := hD
  refine lv_aload_n hx hb dX2_copyFrom_38 rfl (lv_at hl 1 rfl) ?_
  refine va_get (ci := 2) (v := .ref q_a1_sources) (C := RX2) (T := TX2) (N := 10) hx hb hts hin_X2 hown hK hP 5 rfl rfl 3 (by decide) fl_18 (fun _ h9 => h9) rfl dX2_copyFrom_39 ?_
  refine lv_iconst (v := (0 : Int32)) hx hb dX2_copyFrom_42 (by decide) ?_
  refine lv_aload_n hx hb dX2_copyFrom_43 rfl (lv_at hl 0 rfl) ?_
  refine va_get (ci := 2) (v := .ref q_t_sources) (C := RX2) (T := TX2) (N := 10) hx hb hts hin_X2 hown hK hP 0 rfl rfl 3 (by decide) fl_18 (fun _ h9 => h9) rfl dX2_copyFrom_44 ?_
  refine lv_iconst (v := (0 : Int32)) hx hb dX2_copyFrom_47 (by decide) ?_
  refine lv_bipush (v := (48 : Int32)) hx hb dX2_copyFrom_48 (by decide) ?_
  refine va_copyi hx hb (hml.trans hl.1.symm) hown (hts (.methodLink RX2 38 arraycopyName) (by decide +kernel)) (hts (.native arraycopyName) (by decide +kernel)) (hts (.static arraycopyName) (by decide +kernel)) (hts (.initialized "java/lang/System") (by decide +kernel)) hK hP hD hS 8 3 0 0 rfl rfl rfl rfl rfl (by decide) (by decide) (by decide) (by decide) (by decide) (fun _ _ => rfl) (Nat.le_of_ble_eq_true rfl) (by decide) dX2_copyFrom_50 (fun H locs hP hD hS => ?_)
  have hP : va_P D vwCl [(q_t, .inr (2, [.int a1_count, .ref q_t_kinds, .ref q_t_wicks, .ref q_t_sources, .ref q_t_changes, .long t_state, .int t_areLoopsAllowed, .int t_ticks, .int t_tickChanges, .int t_sets])), (q_t_kinds, .inl (cI, 16, .inl (va_cpy a1_kinds t_kinds (0 : Int32).toNatClampNeg (0 : Int32).toNatClampNeg (16 : Int32).toNatClampNeg))), (q_t_wicks, .inl (cI, 16, .inl (va_cpy a1_wicks t_wicks (0 : Int32).toNatClampNeg (0 : Int32).toNatClampNeg (16 : Int32).toNatClampNeg))), (q_t_sources, .inl (cI, 48, .inl (va_cpy a1_sources t_sources (0 : Int32).toNatClampNeg (0 : Int32).toNatClampNeg (48 : Int32).toNatClampNeg))), (q_t_changes, .inl (cI, 16, .inl t_changes)), (q_a1, .inr (2, [.int a1_count, .ref q_a1_kinds, .ref q_a1_wicks, .ref q_a1_sources, .ref q_a1_changes, .long a1_state, .int a1_areLoopsAllowed, .int a1_ticks, .int a1_tickChanges, .int a1_sets])), (q_a1_kinds, .inl (cI, 16, .inl a1_kinds)), (q_a1_wicks, .inl (cI, 16, .inl a1_wicks)), (q_a1_sources, .inl (cI, 48, .inl a1_sources)), (q_a1_changes, .inl (cI, 16, .inl a1_changes))] H := hP
  have hD : va_D A [(q_t, .inr (2, [.int a1_count, .ref q_t_kinds, .ref q_t_wicks, .ref q_t_sources, .ref q_t_changes, .long t_state, .int t_areLoopsAllowed, .int t_ticks, .int t_tickChanges, .int t_sets])), (q_t_kinds, .inl (cI, 16, .inl (va_cpy a1_kinds t_kinds (0 : Int32).toNatClampNeg (0 : Int32).toNatClampNeg (16 : Int32).toNatClampNeg))), (q_t_wicks, .inl (cI, 16, .inl (va_cpy a1_wicks t_wicks (0 : Int32).toNatClampNeg (0 : Int32).toNatClampNeg (16 : Int32).toNatClampNeg))), (q_t_sources, .inl (cI, 48, .inl (va_cpy a1_sources t_sources (0 : Int32).toNatClampNeg (0 : Int32).toNatClampNeg (48 : Int32).toNatClampNeg))), (q_t_changes, .inl (cI, 16, .inl t_changes)), (q_a1, .inr (2, [.int a1_count, .ref q_a1_kinds, .ref q_a1_wicks, .ref q_a1_sources, .ref q_a1_changes, .long a1_state, .int a1_areLoopsAllowed, .int a1_ticks, .int a1_tickChanges, .int a1_sets])), (q_a1_kinds, .inl (cI, 16, .inl a1_kinds)), (q_a1_wicks, .inl (cI, 16, .inl a1_wicks)), (q_a1_sources, .inl (cI, 48, .inl a1_sources)), (q_a1_changes, .inl (cI, 16, .inl a1_changes))] := hD
  refine lv_aload_n hx hb dX2_copyFrom_53 rfl (lv_at hl 1 rfl) ?_
  refine va_get (ci := 2) (v := .ref q_a1_changes) (C := RX2) (T := TX2) (N := 10) hx hb hts hin_X2 hown hK hP 5 rfl rfl 4 (by decide) fl_21 (fun _ h9 => h9) rfl dX2_copyFrom_54 ?_
  refine lv_iconst (v := (0 : Int32)) hx hb dX2_copyFrom_57 (by decide) ?_
  refine lv_aload_n hx hb dX2_copyFrom_58 rfl (lv_at hl 0 rfl) ?_
  refine va_get (ci := 2) (v := .ref q_t_changes) (C := RX2) (T := TX2) (N := 10) hx hb hts hin_X2 hown hK hP 0 rfl rfl 4 (by decide) fl_21 (fun _ h9 => h9) rfl dX2_copyFrom_59 ?_
  refine lv_iconst (v := (0 : Int32)) hx hb dX2_copyFrom_62 (by decide) ?_
  refine lv_bipush (v := (16 : Int32)) hx hb dX2_copyFrom_63 (by decide) ?_
  refine va_copyi hx hb (hml.trans hl.1.symm) hown (hts (.methodLink RX2 38 arraycopyName) (by decide +kernel)) (hts (.native arraycopyName) (by decide +kernel)) (hts (.static arraycopyName) (by decide +kernel)) (hts (.initialized "java/lang/System") (by decide +kernel)) hK hP hD hS 9 4 0 0 rfl rfl rfl rfl rfl (by decide) (by decide) (by decide) (by decide) (by decide) (fun _ _ => rfl) (Nat.le_of_ble_eq_true rfl) (by decide) dX2_copyFrom_65 (fun H locs hP hD hS => ?_)
  have hP : va_P D vwCl [(q_t, .inr (2, [.int a1_count, .ref q_t_kinds, .ref q_t_wicks, .ref q_t_sources, .ref q_t_changes, .long t_state, .int t_areLoopsAllowed, .int t_ticks, .int t_tickChanges, .int t_sets])), (q_t_kinds, .inl (cI, 16, .inl (va_cpy a1_kinds t_kinds (0 : Int32).toNatClampNeg (0 : Int32).toNatClampNeg (16 : Int32).toNatClampNeg))), (q_t_wicks, .inl (cI, 16, .inl (va_cpy a1_wicks t_wicks (0 : Int32).toNatClampNeg (0 : Int32).toNatClampNeg (16 : Int32).toNatClampNeg))), (q_t_sources, .inl (cI, 48, .inl (va_cpy a1_sources t_sources (0 : Int32).toNatClampNeg (0 : Int32).toNatClampNeg (48 : Int32).toNatClampNeg))), (q_t_changes, .inl (cI, 16, .inl (va_cpy a1_changes t_changes (0 : Int32).toNatClampNeg (0 : Int32).toNatClampNeg (16 : Int32).toNatClampNeg))), (q_a1, .inr (2, [.int a1_count, .ref q_a1_kinds, .ref q_a1_wicks, .ref q_a1_sources, .ref q_a1_changes, .long a1_state, .int a1_areLoopsAllowed, .int a1_ticks, .int a1_tickChanges, .int a1_sets])), (q_a1_kinds, .inl (cI, 16, .inl a1_kinds)), (q_a1_wicks, .inl (cI, 16, .inl a1_wicks)), (q_a1_sources, .inl (cI, 48, .inl a1_sources)), (q_a1_changes, .inl (cI, 16, .inl a1_changes))] H := hP
  have hD : va_D A [(q_t, .inr (2, [.int a1_count, .ref q_t_kinds, .ref q_t_wicks, .ref q_t_sources, .ref q_t_changes, .long t_state, .int t_areLoopsAllowed, .int t_ticks, .int t_tickChanges, .int t_sets])), (q_t_kinds, .inl (cI, 16, .inl (va_cpy a1_kinds t_kinds (0 : Int32).toNatClampNeg (0 : Int32).toNatClampNeg (16 : Int32).toNatClampNeg))), (q_t_wicks, .inl (cI, 16, .inl (va_cpy a1_wicks t_wicks (0 : Int32).toNatClampNeg (0 : Int32).toNatClampNeg (16 : Int32).toNatClampNeg))), (q_t_sources, .inl (cI, 48, .inl (va_cpy a1_sources t_sources (0 : Int32).toNatClampNeg (0 : Int32).toNatClampNeg (48 : Int32).toNatClampNeg))), (q_t_changes, .inl (cI, 16, .inl (va_cpy a1_changes t_changes (0 : Int32).toNatClampNeg (0 : Int32).toNatClampNeg (16 : Int32).toNatClampNeg))), (q_a1, .inr (2, [.int a1_count, .ref q_a1_kinds, .ref q_a1_wicks, .ref q_a1_sources, .ref q_a1_changes, .long a1_state, .int a1_areLoopsAllowed, .int a1_ticks, .int a1_tickChanges, .int a1_sets])), (q_a1_kinds, .inl (cI, 16, .inl a1_kinds)), (q_a1_wicks, .inl (cI, 16, .inl a1_wicks)), (q_a1_sources, .inl (cI, 48, .inl a1_sources)), (q_a1_changes, .inl (cI, 16, .inl a1_changes))] := hD
  refine lv_aload_n hx hb dX2_copyFrom_68 rfl (lv_at hl 0 rfl) ?_
  refine lv_aload_n hx hb dX2_copyFrom_69 rfl (lv_at hl 1 rfl) ?_
  refine va_get (ci := 2) (v := .long a1_state) (C := RX2) (T := TX2) (N := 10) hx hb hts hin_X2 hown hK hP 5 rfl rfl 5 (by decide) fl_44 (fun _ h9 => h9) rfl dX2_copyFrom_70 ?_
  refine va_put (ci := 2) (v := .long a1_state) (ty := .long) (C := RX2) (T := TX2) (N := 10) hx hb hts hin_X2 tyX2 tyX2_ok nmX2 hown hK hP hD hS 0 rfl rfl 5 (by decide) fl_44 (fun _ h9 => h9) rfl (by decide +kernel) rfl rfl (Nat.le_of_ble_eq_true rfl) dX2_copyFrom_73 (fun H locs hP hD hS => ?_)
  have hP : va_P D vwCl [(q_t, .inr (2, [.int a1_count, .ref q_t_kinds, .ref q_t_wicks, .ref q_t_sources, .ref q_t_changes, .long a1_state, .int t_areLoopsAllowed, .int t_ticks, .int t_tickChanges, .int t_sets])), (q_t_kinds, .inl (cI, 16, .inl (va_cpy a1_kinds t_kinds (0 : Int32).toNatClampNeg (0 : Int32).toNatClampNeg (16 : Int32).toNatClampNeg))), (q_t_wicks, .inl (cI, 16, .inl (va_cpy a1_wicks t_wicks (0 : Int32).toNatClampNeg (0 : Int32).toNatClampNeg (16 : Int32).toNatClampNeg))), (q_t_sources, .inl (cI, 48, .inl (va_cpy a1_sources t_sources (0 : Int32).toNatClampNeg (0 : Int32).toNatClampNeg (48 : Int32).toNatClampNeg))), (q_t_changes, .inl (cI, 16, .inl (va_cpy a1_changes t_changes (0 : Int32).toNatClampNeg (0 : Int32).toNatClampNeg (16 : Int32).toNatClampNeg))), (q_a1, .inr (2, [.int a1_count, .ref q_a1_kinds, .ref q_a1_wicks, .ref q_a1_sources, .ref q_a1_changes, .long a1_state, .int a1_areLoopsAllowed, .int a1_ticks, .int a1_tickChanges, .int a1_sets])), (q_a1_kinds, .inl (cI, 16, .inl a1_kinds)), (q_a1_wicks, .inl (cI, 16, .inl a1_wicks)), (q_a1_sources, .inl (cI, 48, .inl a1_sources)), (q_a1_changes, .inl (cI, 16, .inl a1_changes))] H := hP
  have hD : va_D A [(q_t, .inr (2, [.int a1_count, .ref q_t_kinds, .ref q_t_wicks, .ref q_t_sources, .ref q_t_changes, .long a1_state, .int t_areLoopsAllowed, .int t_ticks, .int t_tickChanges, .int t_sets])), (q_t_kinds, .inl (cI, 16, .inl (va_cpy a1_kinds t_kinds (0 : Int32).toNatClampNeg (0 : Int32).toNatClampNeg (16 : Int32).toNatClampNeg))), (q_t_wicks, .inl (cI, 16, .inl (va_cpy a1_wicks t_wicks (0 : Int32).toNatClampNeg (0 : Int32).toNatClampNeg (16 : Int32).toNatClampNeg))), (q_t_sources, .inl (cI, 48, .inl (va_cpy a1_sources t_sources (0 : Int32).toNatClampNeg (0 : Int32).toNatClampNeg (48 : Int32).toNatClampNeg))), (q_t_changes, .inl (cI, 16, .inl (va_cpy a1_changes t_changes (0 : Int32).toNatClampNeg (0 : Int32).toNatClampNeg (16 : Int32).toNatClampNeg))), (q_a1, .inr (2, [.int a1_count, .ref q_a1_kinds, .ref q_a1_wicks, .ref q_a1_sources, .ref q_a1_changes, .long a1_state, .int a1_areLoopsAllowed, .int a1_ticks, .int a1_tickChanges, .int a1_sets])), (q_a1_kinds, .inl (cI, 16, .inl a1_kinds)), (q_a1_wicks, .inl (cI, 16, .inl a1_wicks)), (q_a1_sources, .inl (cI, 48, .inl a1_sources)), (q_a1_changes, .inl (cI, 16, .inl a1_changes))] := hD
  refine lv_aload_n hx hb dX2_copyFrom_76 rfl (lv_at hl 0 rfl) ?_
  refine lv_aload_n hx hb dX2_copyFrom_77 rfl (lv_at hl 1 rfl) ?_
  refine va_get (ci := 2) (v := .int a1_areLoopsAllowed) (C := RX2) (T := TX2) (N := 10) hx hb hts hin_X2 hown hK hP 5 rfl rfl 6 (by decide) fl_24 (fun _ h9 => h9) rfl dX2_copyFrom_78 ?_
  obtain ⟨h01, hJ⟩ := chz_ok hJ
  refine va_put (ci := 2) (v := .int a1_areLoopsAllowed) (ty := .boolean) (C := RX2) (T := TX2) (N := 10) hx hb hts hin_X2 tyX2 tyX2_ok nmX2 hown hK hP hD hS 0 rfl rfl 6 (by decide) fl_24 (fun _ h9 => h9) rfl (by decide +kernel) (by rcases h01 with h | h <;> (rw [h]; rfl)) (by rcases h01 with h | h <;> (rw [h]; rfl)) (Nat.le_of_ble_eq_true rfl) dX2_copyFrom_81 (fun H locs hP hD hS => ?_)
  have hP : va_P D vwCl [(q_t, .inr (2, [.int a1_count, .ref q_t_kinds, .ref q_t_wicks, .ref q_t_sources, .ref q_t_changes, .long a1_state, .int a1_areLoopsAllowed, .int t_ticks, .int t_tickChanges, .int t_sets])), (q_t_kinds, .inl (cI, 16, .inl (va_cpy a1_kinds t_kinds (0 : Int32).toNatClampNeg (0 : Int32).toNatClampNeg (16 : Int32).toNatClampNeg))), (q_t_wicks, .inl (cI, 16, .inl (va_cpy a1_wicks t_wicks (0 : Int32).toNatClampNeg (0 : Int32).toNatClampNeg (16 : Int32).toNatClampNeg))), (q_t_sources, .inl (cI, 48, .inl (va_cpy a1_sources t_sources (0 : Int32).toNatClampNeg (0 : Int32).toNatClampNeg (48 : Int32).toNatClampNeg))), (q_t_changes, .inl (cI, 16, .inl (va_cpy a1_changes t_changes (0 : Int32).toNatClampNeg (0 : Int32).toNatClampNeg (16 : Int32).toNatClampNeg))), (q_a1, .inr (2, [.int a1_count, .ref q_a1_kinds, .ref q_a1_wicks, .ref q_a1_sources, .ref q_a1_changes, .long a1_state, .int a1_areLoopsAllowed, .int a1_ticks, .int a1_tickChanges, .int a1_sets])), (q_a1_kinds, .inl (cI, 16, .inl a1_kinds)), (q_a1_wicks, .inl (cI, 16, .inl a1_wicks)), (q_a1_sources, .inl (cI, 48, .inl a1_sources)), (q_a1_changes, .inl (cI, 16, .inl a1_changes))] H := hP
  have hD : va_D A [(q_t, .inr (2, [.int a1_count, .ref q_t_kinds, .ref q_t_wicks, .ref q_t_sources, .ref q_t_changes, .long a1_state, .int a1_areLoopsAllowed, .int t_ticks, .int t_tickChanges, .int t_sets])), (q_t_kinds, .inl (cI, 16, .inl (va_cpy a1_kinds t_kinds (0 : Int32).toNatClampNeg (0 : Int32).toNatClampNeg (16 : Int32).toNatClampNeg))), (q_t_wicks, .inl (cI, 16, .inl (va_cpy a1_wicks t_wicks (0 : Int32).toNatClampNeg (0 : Int32).toNatClampNeg (16 : Int32).toNatClampNeg))), (q_t_sources, .inl (cI, 48, .inl (va_cpy a1_sources t_sources (0 : Int32).toNatClampNeg (0 : Int32).toNatClampNeg (48 : Int32).toNatClampNeg))), (q_t_changes, .inl (cI, 16, .inl (va_cpy a1_changes t_changes (0 : Int32).toNatClampNeg (0 : Int32).toNatClampNeg (16 : Int32).toNatClampNeg))), (q_a1, .inr (2, [.int a1_count, .ref q_a1_kinds, .ref q_a1_wicks, .ref q_a1_sources, .ref q_a1_changes, .long a1_state, .int a1_areLoopsAllowed, .int a1_ticks, .int a1_tickChanges, .int a1_sets])), (q_a1_kinds, .inl (cI, 16, .inl a1_kinds)), (q_a1_wicks, .inl (cI, 16, .inl a1_wicks)), (q_a1_sources, .inl (cI, 48, .inl a1_sources)), (q_a1_changes, .inl (cI, 16, .inl a1_changes))] := hD
  refine lv_aload_n hx hb dX2_copyFrom_84 rfl (lv_at hl 0 rfl) ?_
  refine lv_aload_n hx hb dX2_copyFrom_85 rfl (lv_at hl 1 rfl) ?_
  refine va_get (ci := 2) (v := .int a1_ticks) (C := RX2) (T := TX2) (N := 10) hx hb hts hin_X2 hown hK hP 5 rfl rfl 7 (by decide) fl_48 (fun _ h9 => h9) rfl dX2_copyFrom_86 ?_
  refine va_put (ci := 2) (v := .int a1_ticks) (ty := .int) (C := RX2) (T := TX2) (N := 10) hx hb hts hin_X2 tyX2 tyX2_ok nmX2 hown hK hP hD hS 0 rfl rfl 7 (by decide) fl_48 (fun _ h9 => h9) rfl (by decide +kernel) rfl rfl (Nat.le_of_ble_eq_true rfl) dX2_copyFrom_89 (fun H locs hP hD hS => ?_)
  have hP : va_P D vwCl [(q_t, .inr (2, [.int a1_count, .ref q_t_kinds, .ref q_t_wicks, .ref q_t_sources, .ref q_t_changes, .long a1_state, .int a1_areLoopsAllowed, .int a1_ticks, .int t_tickChanges, .int t_sets])), (q_t_kinds, .inl (cI, 16, .inl (va_cpy a1_kinds t_kinds (0 : Int32).toNatClampNeg (0 : Int32).toNatClampNeg (16 : Int32).toNatClampNeg))), (q_t_wicks, .inl (cI, 16, .inl (va_cpy a1_wicks t_wicks (0 : Int32).toNatClampNeg (0 : Int32).toNatClampNeg (16 : Int32).toNatClampNeg))), (q_t_sources, .inl (cI, 48, .inl (va_cpy a1_sources t_sources (0 : Int32).toNatClampNeg (0 : Int32).toNatClampNeg (48 : Int32).toNatClampNeg))), (q_t_changes, .inl (cI, 16, .inl (va_cpy a1_changes t_changes (0 : Int32).toNatClampNeg (0 : Int32).toNatClampNeg (16 : Int32).toNatClampNeg))), (q_a1, .inr (2, [.int a1_count, .ref q_a1_kinds, .ref q_a1_wicks, .ref q_a1_sources, .ref q_a1_changes, .long a1_state, .int a1_areLoopsAllowed, .int a1_ticks, .int a1_tickChanges, .int a1_sets])), (q_a1_kinds, .inl (cI, 16, .inl a1_kinds)), (q_a1_wicks, .inl (cI, 16, .inl a1_wicks)), (q_a1_sources, .inl (cI, 48, .inl a1_sources)), (q_a1_changes, .inl (cI, 16, .inl a1_changes))] H := hP
  have hD : va_D A [(q_t, .inr (2, [.int a1_count, .ref q_t_kinds, .ref q_t_wicks, .ref q_t_sources, .ref q_t_changes, .long a1_state, .int a1_areLoopsAllowed, .int a1_ticks, .int t_tickChanges, .int t_sets])), (q_t_kinds, .inl (cI, 16, .inl (va_cpy a1_kinds t_kinds (0 : Int32).toNatClampNeg (0 : Int32).toNatClampNeg (16 : Int32).toNatClampNeg))), (q_t_wicks, .inl (cI, 16, .inl (va_cpy a1_wicks t_wicks (0 : Int32).toNatClampNeg (0 : Int32).toNatClampNeg (16 : Int32).toNatClampNeg))), (q_t_sources, .inl (cI, 48, .inl (va_cpy a1_sources t_sources (0 : Int32).toNatClampNeg (0 : Int32).toNatClampNeg (48 : Int32).toNatClampNeg))), (q_t_changes, .inl (cI, 16, .inl (va_cpy a1_changes t_changes (0 : Int32).toNatClampNeg (0 : Int32).toNatClampNeg (16 : Int32).toNatClampNeg))), (q_a1, .inr (2, [.int a1_count, .ref q_a1_kinds, .ref q_a1_wicks, .ref q_a1_sources, .ref q_a1_changes, .long a1_state, .int a1_areLoopsAllowed, .int a1_ticks, .int a1_tickChanges, .int a1_sets])), (q_a1_kinds, .inl (cI, 16, .inl a1_kinds)), (q_a1_wicks, .inl (cI, 16, .inl a1_wicks)), (q_a1_sources, .inl (cI, 48, .inl a1_sources)), (q_a1_changes, .inl (cI, 16, .inl a1_changes))] := hD
  refine lv_aload_n hx hb dX2_copyFrom_92 rfl (lv_at hl 0 rfl) ?_
  refine lv_aload_n hx hb dX2_copyFrom_93 rfl (lv_at hl 1 rfl) ?_
  refine va_get (ci := 2) (v := .int a1_tickChanges) (C := RX2) (T := TX2) (N := 10) hx hb hts hin_X2 hown hK hP 5 rfl rfl 8 (by decide) fl_51 (fun _ h9 => h9) rfl dX2_copyFrom_94 ?_
  refine va_put (ci := 2) (v := .int a1_tickChanges) (ty := .int) (C := RX2) (T := TX2) (N := 10) hx hb hts hin_X2 tyX2 tyX2_ok nmX2 hown hK hP hD hS 0 rfl rfl 8 (by decide) fl_51 (fun _ h9 => h9) rfl (by decide +kernel) rfl rfl (Nat.le_of_ble_eq_true rfl) dX2_copyFrom_97 (fun H locs hP hD hS => ?_)
  have hP : va_P D vwCl [(q_t, .inr (2, [.int a1_count, .ref q_t_kinds, .ref q_t_wicks, .ref q_t_sources, .ref q_t_changes, .long a1_state, .int a1_areLoopsAllowed, .int a1_ticks, .int a1_tickChanges, .int t_sets])), (q_t_kinds, .inl (cI, 16, .inl (va_cpy a1_kinds t_kinds (0 : Int32).toNatClampNeg (0 : Int32).toNatClampNeg (16 : Int32).toNatClampNeg))), (q_t_wicks, .inl (cI, 16, .inl (va_cpy a1_wicks t_wicks (0 : Int32).toNatClampNeg (0 : Int32).toNatClampNeg (16 : Int32).toNatClampNeg))), (q_t_sources, .inl (cI, 48, .inl (va_cpy a1_sources t_sources (0 : Int32).toNatClampNeg (0 : Int32).toNatClampNeg (48 : Int32).toNatClampNeg))), (q_t_changes, .inl (cI, 16, .inl (va_cpy a1_changes t_changes (0 : Int32).toNatClampNeg (0 : Int32).toNatClampNeg (16 : Int32).toNatClampNeg))), (q_a1, .inr (2, [.int a1_count, .ref q_a1_kinds, .ref q_a1_wicks, .ref q_a1_sources, .ref q_a1_changes, .long a1_state, .int a1_areLoopsAllowed, .int a1_ticks, .int a1_tickChanges, .int a1_sets])), (q_a1_kinds, .inl (cI, 16, .inl a1_kinds)), (q_a1_wicks, .inl (cI, 16, .inl a1_wicks)), (q_a1_sources, .inl (cI, 48, .inl a1_sources)), (q_a1_changes, .inl (cI, 16, .inl a1_changes))] H := hP
  have hD : va_D A [(q_t, .inr (2, [.int a1_count, .ref q_t_kinds, .ref q_t_wicks, .ref q_t_sources, .ref q_t_changes, .long a1_state, .int a1_areLoopsAllowed, .int a1_ticks, .int a1_tickChanges, .int t_sets])), (q_t_kinds, .inl (cI, 16, .inl (va_cpy a1_kinds t_kinds (0 : Int32).toNatClampNeg (0 : Int32).toNatClampNeg (16 : Int32).toNatClampNeg))), (q_t_wicks, .inl (cI, 16, .inl (va_cpy a1_wicks t_wicks (0 : Int32).toNatClampNeg (0 : Int32).toNatClampNeg (16 : Int32).toNatClampNeg))), (q_t_sources, .inl (cI, 48, .inl (va_cpy a1_sources t_sources (0 : Int32).toNatClampNeg (0 : Int32).toNatClampNeg (48 : Int32).toNatClampNeg))), (q_t_changes, .inl (cI, 16, .inl (va_cpy a1_changes t_changes (0 : Int32).toNatClampNeg (0 : Int32).toNatClampNeg (16 : Int32).toNatClampNeg))), (q_a1, .inr (2, [.int a1_count, .ref q_a1_kinds, .ref q_a1_wicks, .ref q_a1_sources, .ref q_a1_changes, .long a1_state, .int a1_areLoopsAllowed, .int a1_ticks, .int a1_tickChanges, .int a1_sets])), (q_a1_kinds, .inl (cI, 16, .inl a1_kinds)), (q_a1_wicks, .inl (cI, 16, .inl a1_wicks)), (q_a1_sources, .inl (cI, 48, .inl a1_sources)), (q_a1_changes, .inl (cI, 16, .inl a1_changes))] := hD
  refine lv_aload_n hx hb dX2_copyFrom_100 rfl (lv_at hl 0 rfl) ?_
  refine lv_aload_n hx hb dX2_copyFrom_101 rfl (lv_at hl 1 rfl) ?_
  refine va_get (ci := 2) (v := .int a1_sets) (C := RX2) (T := TX2) (N := 10) hx hb hts hin_X2 hown hK hP 5 rfl rfl 9 (by decide) fl_54 (fun _ h9 => h9) rfl dX2_copyFrom_102 ?_
  refine va_put (ci := 2) (v := .int a1_sets) (ty := .int) (C := RX2) (T := TX2) (N := 10) hx hb hts hin_X2 tyX2 tyX2_ok nmX2 hown hK hP hD hS 0 rfl rfl 9 (by decide) fl_54 (fun _ h9 => h9) rfl (by decide +kernel) rfl rfl (Nat.le_of_ble_eq_true rfl) dX2_copyFrom_105 (fun H locs hP hD hS => ?_)
  have hP : va_P D vwCl [(q_t, .inr (2, [.int a1_count, .ref q_t_kinds, .ref q_t_wicks, .ref q_t_sources, .ref q_t_changes, .long a1_state, .int a1_areLoopsAllowed, .int a1_ticks, .int a1_tickChanges, .int a1_sets])), (q_t_kinds, .inl (cI, 16, .inl (va_cpy a1_kinds t_kinds (0 : Int32).toNatClampNeg (0 : Int32).toNatClampNeg (16 : Int32).toNatClampNeg))), (q_t_wicks, .inl (cI, 16, .inl (va_cpy a1_wicks t_wicks (0 : Int32).toNatClampNeg (0 : Int32).toNatClampNeg (16 : Int32).toNatClampNeg))), (q_t_sources, .inl (cI, 48, .inl (va_cpy a1_sources t_sources (0 : Int32).toNatClampNeg (0 : Int32).toNatClampNeg (48 : Int32).toNatClampNeg))), (q_t_changes, .inl (cI, 16, .inl (va_cpy a1_changes t_changes (0 : Int32).toNatClampNeg (0 : Int32).toNatClampNeg (16 : Int32).toNatClampNeg))), (q_a1, .inr (2, [.int a1_count, .ref q_a1_kinds, .ref q_a1_wicks, .ref q_a1_sources, .ref q_a1_changes, .long a1_state, .int a1_areLoopsAllowed, .int a1_ticks, .int a1_tickChanges, .int a1_sets])), (q_a1_kinds, .inl (cI, 16, .inl a1_kinds)), (q_a1_wicks, .inl (cI, 16, .inl a1_wicks)), (q_a1_sources, .inl (cI, 48, .inl a1_sources)), (q_a1_changes, .inl (cI, 16, .inl a1_changes))] H := hP
  have hD : va_D A [(q_t, .inr (2, [.int a1_count, .ref q_t_kinds, .ref q_t_wicks, .ref q_t_sources, .ref q_t_changes, .long a1_state, .int a1_areLoopsAllowed, .int a1_ticks, .int a1_tickChanges, .int a1_sets])), (q_t_kinds, .inl (cI, 16, .inl (va_cpy a1_kinds t_kinds (0 : Int32).toNatClampNeg (0 : Int32).toNatClampNeg (16 : Int32).toNatClampNeg))), (q_t_wicks, .inl (cI, 16, .inl (va_cpy a1_wicks t_wicks (0 : Int32).toNatClampNeg (0 : Int32).toNatClampNeg (16 : Int32).toNatClampNeg))), (q_t_sources, .inl (cI, 48, .inl (va_cpy a1_sources t_sources (0 : Int32).toNatClampNeg (0 : Int32).toNatClampNeg (48 : Int32).toNatClampNeg))), (q_t_changes, .inl (cI, 16, .inl (va_cpy a1_changes t_changes (0 : Int32).toNatClampNeg (0 : Int32).toNatClampNeg (16 : Int32).toNatClampNeg))), (q_a1, .inr (2, [.int a1_count, .ref q_a1_kinds, .ref q_a1_wicks, .ref q_a1_sources, .ref q_a1_changes, .long a1_state, .int a1_areLoopsAllowed, .int a1_ticks, .int a1_tickChanges, .int a1_sets])), (q_a1_kinds, .inl (cI, 16, .inl a1_kinds)), (q_a1_wicks, .inl (cI, 16, .inl a1_wicks)), (q_a1_sources, .inl (cI, 48, .inl a1_sources)), (q_a1_changes, .inl (cI, 16, .inl a1_changes))] := hD
  have hJ := Option.some.inj hJ
  obtain ⟨e0, e1, e2, e3, e4, e5, e6, e7, e8, e9⟩ : (a1_count) = o_t_count ∧ (a1_state) = o_t_state ∧ (a1_areLoopsAllowed) = o_t_areLoopsAllowed ∧ (a1_ticks) = o_t_ticks ∧ (a1_tickChanges) = o_t_tickChanges ∧ (a1_sets) = o_t_sets ∧ ((va_cpy a1_kinds t_kinds (0 : Int32).toNatClampNeg (0 : Int32).toNatClampNeg (16 : Int32).toNatClampNeg)) = o_t_kinds ∧ ((va_cpy a1_wicks t_wicks (0 : Int32).toNatClampNeg (0 : Int32).toNatClampNeg (16 : Int32).toNatClampNeg)) = o_t_wicks ∧ ((va_cpy a1_sources t_sources (0 : Int32).toNatClampNeg (0 : Int32).toNatClampNeg (48 : Int32).toNatClampNeg)) = o_t_sources ∧ ((va_cpy a1_changes t_changes (0 : Int32).toNatClampNeg (0 : Int32).toNatClampNeg (16 : Int32).toNatClampNeg)) = o_t_changes := ⟨congrArg (fun z => z.1) hJ, congrArg (fun z => z.2.1) hJ, congrArg (fun z => z.2.2.1) hJ, congrArg (fun z => z.2.2.2.1) hJ, congrArg (fun z => z.2.2.2.2.1) hJ, congrArg (fun z => z.2.2.2.2.2.1) hJ, congrArg (fun z => z.2.2.2.2.2.2.1) hJ, congrArg (fun z => z.2.2.2.2.2.2.2.1) hJ, congrArg (fun z => z.2.2.2.2.2.2.2.2.1) hJ, congrArg (fun z => z.2.2.2.2.2.2.2.2.2) hJ⟩
  exact hRet (by rw [← e0, ← e1, ← e2, ← e3, ← e4, ← e5, ← e6, ← e7, ← e8, ← e9]; exact hP) (by rw [← e0, ← e1, ← e2, ← e3, ← e4, ← e5, ← e6, ← e7, ← e8, ← e9]; exact hD) hS dX2_copyFrom_108

def J_X2_count (t_count : Int32) : Option (Int32) :=
    some (t_count)
abbrev rmX2_count : Room := { frames := 0, cells := 0, slots := 0, locals := 0 }
set_option maxHeartbeats 4000000 in
set_option maxRecDepth 100000 in
theorem c_X2_count (l : Launch) (D : va_G) (cI cJ cC cL : ClassId) (q_t q_t_kinds q_t_wicks q_t_sources q_t_changes : Nat) (t_count : Int32) (t_state : Int64) (t_areLoopsAllowed : Int32) (t_ticks : Int32) (t_tickChanges : Int32) (t_sets : Int32) (r : Int32) (hJ : J_X2_count t_count = some (r)) (sz : Nat) : Met l yX2_count wsX2_count rmX2_count (va_Pc [.ref q_t] (jpre XT D (tyL cI cJ cC cL) [(q_t, .inr (2, [.int t_count, .ref q_t_kinds, .ref q_t_wicks, .ref q_t_sources, .ref q_t_changes, .long t_state, .int t_areLoopsAllowed, .int t_ticks, .int t_tickChanges, .int t_sets]))] sz)) (va_Qi (fun r' (_ : Unit) => r' = r) (fun _ t => jpost D (tyL cI cJ cC cL) (va_A [(q_t, .inr (2, [.int t_count, .ref q_t_kinds, .ref q_t_wicks, .ref q_t_sources, .ref q_t_changes, .long t_state, .int t_areLoopsAllowed, .int t_ticks, .int t_tickChanges, .int t_sets]))] sz) [(q_t, .inr (2, [.int t_count, .ref q_t_kinds, .ref q_t_wicks, .ref q_t_sources, .ref q_t_changes, .long t_state, .int t_areLoopsAllowed, .int t_ticks, .int t_tickChanges, .int t_sets]))] t) (va_A [(q_t, .inr (2, [.int t_count, .ref q_t_kinds, .ref q_t_wicks, .ref q_t_sources, .ref q_t_changes, .long t_state, .int t_areLoopsAllowed, .int t_ticks, .int t_tickChanges, .int t_sets]))] sz)) 0 0 (va_A [(q_t, .inr (2, [.int t_count, .ref q_t_kinds, .ref q_t_wicks, .ref q_t_sources, .ref q_t_changes, .long t_state, .int t_areLoopsAllowed, .int t_ticks, .int t_tickChanges, .int t_sets]))] sz) := by
  refine jE_i (cc := cX2_count) (maxL := 1) (own := RX2) (ret := (some .int)) (lv0 := [(0, .ref q_t)]) (by decide) rfl rfl rfl (Nat.le_of_ble_eq_true rfl) rfl ?_
  intro p e s m args below meth c A Q ls hx hb hml hown hts hK hN hX hA hP hD hS hl hRet
  have hF : CallFix p m c cX2_count 1 s args wsX2_count RX2 := ⟨hx, hb, hml, hown, hts⟩
  have fl_34 := hts (.fieldLink RX2 34 "LanternLogic$Lanterns" "count" "I") (by decide +kernel)
  have hin_X2 : ∀ w ∈ u_ws RX2 TX2 10, w ∈ wsX2_count := by decide +kernel
  unfold J_X2_count at hJ
  refine lv_aload_n hx hb dX2_count_0 rfl (lv_at hl 0 rfl) ?_
  refine va_get (ci := 2) (v := .int t_count) (C := RX2) (T := TX2) (N := 10) hx hb hts hin_X2 hown hK hP 0 rfl rfl 0 (by decide) fl_34 (fun _ h9 => h9) rfl dX2_count_1 ?_
  have e0 := Option.some.inj hJ
  exact hRet hP hD hS e0 dX2_count_4

def J_X2_state (t_state : Int64) : Option (Int64) :=
    some (t_state)
abbrev rmX2_state : Room := { frames := 0, cells := 0, slots := 0, locals := 0 }
set_option maxHeartbeats 4000000 in
set_option maxRecDepth 100000 in
theorem c_X2_state (l : Launch) (D : va_G) (cI cJ cC cL : ClassId) (q_t q_t_kinds q_t_wicks q_t_sources q_t_changes : Nat) (t_count : Int32) (t_state : Int64) (t_areLoopsAllowed : Int32) (t_ticks : Int32) (t_tickChanges : Int32) (t_sets : Int32) (r : Int64) (hJ : J_X2_state t_state = some (r)) (sz : Nat) : Met l yX2_state wsX2_state rmX2_state (va_Pc [.ref q_t] (jpre XT D (tyL cI cJ cC cL) [(q_t, .inr (2, [.int t_count, .ref q_t_kinds, .ref q_t_wicks, .ref q_t_sources, .ref q_t_changes, .long t_state, .int t_areLoopsAllowed, .int t_ticks, .int t_tickChanges, .int t_sets]))] sz)) (va_Ql (fun r' (_ : Unit) => r' = r) (fun _ t => jpost D (tyL cI cJ cC cL) (va_A [(q_t, .inr (2, [.int t_count, .ref q_t_kinds, .ref q_t_wicks, .ref q_t_sources, .ref q_t_changes, .long t_state, .int t_areLoopsAllowed, .int t_ticks, .int t_tickChanges, .int t_sets]))] sz) [(q_t, .inr (2, [.int t_count, .ref q_t_kinds, .ref q_t_wicks, .ref q_t_sources, .ref q_t_changes, .long t_state, .int t_areLoopsAllowed, .int t_ticks, .int t_tickChanges, .int t_sets]))] t) (va_A [(q_t, .inr (2, [.int t_count, .ref q_t_kinds, .ref q_t_wicks, .ref q_t_sources, .ref q_t_changes, .long t_state, .int t_areLoopsAllowed, .int t_ticks, .int t_tickChanges, .int t_sets]))] sz)) 0 0 (va_A [(q_t, .inr (2, [.int t_count, .ref q_t_kinds, .ref q_t_wicks, .ref q_t_sources, .ref q_t_changes, .long t_state, .int t_areLoopsAllowed, .int t_ticks, .int t_tickChanges, .int t_sets]))] sz) := by
  refine jE_l (cc := cX2_state) (maxL := 1) (own := RX2) (ret := (some .long)) (lv0 := [(0, .ref q_t)]) (by decide) rfl rfl rfl (Nat.le_of_ble_eq_true rfl) rfl ?_
  intro p e s m args below meth c A Q ls hx hb hml hown hts hK hN hX hA hP hD hS hl hRet
  have hF : CallFix p m c cX2_state 1 s args wsX2_state RX2 := ⟨hx, hb, hml, hown, hts⟩
  have fl_44 := hts (.fieldLink RX2 44 "LanternLogic$Lanterns" "state" "J") (by decide +kernel)
  have hin_X2 : ∀ w ∈ u_ws RX2 TX2 10, w ∈ wsX2_state := by decide +kernel
  unfold J_X2_state at hJ
  refine lv_aload_n hx hb dX2_state_0 rfl (lv_at hl 0 rfl) ?_
  refine va_get (ci := 2) (v := .long t_state) (C := RX2) (T := TX2) (N := 10) hx hb hts hin_X2 hown hK hP 0 rfl rfl 5 (by decide) fl_44 (fun _ h9 => h9) rfl dX2_state_1 ?_
  have e0 := Option.some.inj hJ
  exact hRet hP hD hS e0 dX2_state_4

def J_X2_ticks (t_ticks : Int32) : Option (Int32) :=
    some (t_ticks)
abbrev rmX2_ticks : Room := { frames := 0, cells := 0, slots := 0, locals := 0 }
set_option maxHeartbeats 4000000 in
set_option maxRecDepth 100000 in
theorem c_X2_ticks (l : Launch) (D : va_G) (cI cJ cC cL : ClassId) (q_t q_t_kinds q_t_wicks q_t_sources q_t_changes : Nat) (t_count : Int32) (t_state : Int64) (t_areLoopsAllowed : Int32) (t_ticks : Int32) (t_tickChanges : Int32) (t_sets : Int32) (r : Int32) (hJ : J_X2_ticks t_ticks = some (r)) (sz : Nat) : Met l yX2_ticks wsX2_ticks rmX2_ticks (va_Pc [.ref q_t] (jpre XT D (tyL cI cJ cC cL) [(q_t, .inr (2, [.int t_count, .ref q_t_kinds, .ref q_t_wicks, .ref q_t_sources, .ref q_t_changes, .long t_state, .int t_areLoopsAllowed, .int t_ticks, .int t_tickChanges, .int t_sets]))] sz)) (va_Qi (fun r' (_ : Unit) => r' = r) (fun _ t => jpost D (tyL cI cJ cC cL) (va_A [(q_t, .inr (2, [.int t_count, .ref q_t_kinds, .ref q_t_wicks, .ref q_t_sources, .ref q_t_changes, .long t_state, .int t_areLoopsAllowed, .int t_ticks, .int t_tickChanges, .int t_sets]))] sz) [(q_t, .inr (2, [.int t_count, .ref q_t_kinds, .ref q_t_wicks, .ref q_t_sources, .ref q_t_changes, .long t_state, .int t_areLoopsAllowed, .int t_ticks, .int t_tickChanges, .int t_sets]))] t) (va_A [(q_t, .inr (2, [.int t_count, .ref q_t_kinds, .ref q_t_wicks, .ref q_t_sources, .ref q_t_changes, .long t_state, .int t_areLoopsAllowed, .int t_ticks, .int t_tickChanges, .int t_sets]))] sz)) 0 0 (va_A [(q_t, .inr (2, [.int t_count, .ref q_t_kinds, .ref q_t_wicks, .ref q_t_sources, .ref q_t_changes, .long t_state, .int t_areLoopsAllowed, .int t_ticks, .int t_tickChanges, .int t_sets]))] sz) := by
  refine jE_i (cc := cX2_ticks) (maxL := 1) (own := RX2) (ret := (some .int)) (lv0 := [(0, .ref q_t)]) (by decide) rfl rfl rfl (Nat.le_of_ble_eq_true rfl) rfl ?_
  intro p e s m args below meth c A Q ls hx hb hml hown hts hK hN hX hA hP hD hS hl hRet
  have hF : CallFix p m c cX2_ticks 1 s args wsX2_ticks RX2 := ⟨hx, hb, hml, hown, hts⟩
  have fl_48 := hts (.fieldLink RX2 48 "LanternLogic$Lanterns" "ticks" "I") (by decide +kernel)
  have hin_X2 : ∀ w ∈ u_ws RX2 TX2 10, w ∈ wsX2_ticks := by decide +kernel
  unfold J_X2_ticks at hJ
  refine lv_aload_n hx hb dX2_ticks_0 rfl (lv_at hl 0 rfl) ?_
  refine va_get (ci := 2) (v := .int t_ticks) (C := RX2) (T := TX2) (N := 10) hx hb hts hin_X2 hown hK hP 0 rfl rfl 7 (by decide) fl_48 (fun _ h9 => h9) rfl dX2_ticks_1 ?_
  have e0 := Option.some.inj hJ
  exact hRet hP hD hS e0 dX2_ticks_4

def J_X2_tickChanges (t_tickChanges : Int32) : Option (Int32) :=
    some (t_tickChanges)
abbrev rmX2_tickChanges : Room := { frames := 0, cells := 0, slots := 0, locals := 0 }
set_option maxHeartbeats 4000000 in
set_option maxRecDepth 100000 in
theorem c_X2_tickChanges (l : Launch) (D : va_G) (cI cJ cC cL : ClassId) (q_t q_t_kinds q_t_wicks q_t_sources q_t_changes : Nat) (t_count : Int32) (t_state : Int64) (t_areLoopsAllowed : Int32) (t_ticks : Int32) (t_tickChanges : Int32) (t_sets : Int32) (r : Int32) (hJ : J_X2_tickChanges t_tickChanges = some (r)) (sz : Nat) : Met l yX2_tickChanges wsX2_tickChanges rmX2_tickChanges (va_Pc [.ref q_t] (jpre XT D (tyL cI cJ cC cL) [(q_t, .inr (2, [.int t_count, .ref q_t_kinds, .ref q_t_wicks, .ref q_t_sources, .ref q_t_changes, .long t_state, .int t_areLoopsAllowed, .int t_ticks, .int t_tickChanges, .int t_sets]))] sz)) (va_Qi (fun r' (_ : Unit) => r' = r) (fun _ t => jpost D (tyL cI cJ cC cL) (va_A [(q_t, .inr (2, [.int t_count, .ref q_t_kinds, .ref q_t_wicks, .ref q_t_sources, .ref q_t_changes, .long t_state, .int t_areLoopsAllowed, .int t_ticks, .int t_tickChanges, .int t_sets]))] sz) [(q_t, .inr (2, [.int t_count, .ref q_t_kinds, .ref q_t_wicks, .ref q_t_sources, .ref q_t_changes, .long t_state, .int t_areLoopsAllowed, .int t_ticks, .int t_tickChanges, .int t_sets]))] t) (va_A [(q_t, .inr (2, [.int t_count, .ref q_t_kinds, .ref q_t_wicks, .ref q_t_sources, .ref q_t_changes, .long t_state, .int t_areLoopsAllowed, .int t_ticks, .int t_tickChanges, .int t_sets]))] sz)) 0 0 (va_A [(q_t, .inr (2, [.int t_count, .ref q_t_kinds, .ref q_t_wicks, .ref q_t_sources, .ref q_t_changes, .long t_state, .int t_areLoopsAllowed, .int t_ticks, .int t_tickChanges, .int t_sets]))] sz) := by
  refine jE_i (cc := cX2_tickChanges) (maxL := 1) (own := RX2) (ret := (some .int)) (lv0 := [(0, .ref q_t)]) (by decide) rfl rfl rfl (Nat.le_of_ble_eq_true rfl) rfl ?_
  intro p e s m args below meth c A Q ls hx hb hml hown hts hK hN hX hA hP hD hS hl hRet
  have hF : CallFix p m c cX2_tickChanges 1 s args wsX2_tickChanges RX2 := ⟨hx, hb, hml, hown, hts⟩
  have fl_51 := hts (.fieldLink RX2 51 "LanternLogic$Lanterns" "tickChanges" "I") (by decide +kernel)
  have hin_X2 : ∀ w ∈ u_ws RX2 TX2 10, w ∈ wsX2_tickChanges := by decide +kernel
  unfold J_X2_tickChanges at hJ
  refine lv_aload_n hx hb dX2_tickChanges_0 rfl (lv_at hl 0 rfl) ?_
  refine va_get (ci := 2) (v := .int t_tickChanges) (C := RX2) (T := TX2) (N := 10) hx hb hts hin_X2 hown hK hP 0 rfl rfl 8 (by decide) fl_51 (fun _ h9 => h9) rfl dX2_tickChanges_1 ?_
  have e0 := Option.some.inj hJ
  exact hRet hP hD hS e0 dX2_tickChanges_4

def J_X2_sets (t_sets : Int32) : Option (Int32) :=
    some (t_sets)
abbrev rmX2_sets : Room := { frames := 0, cells := 0, slots := 0, locals := 0 }
set_option maxHeartbeats 4000000 in
set_option maxRecDepth 100000 in
theorem c_X2_sets (l : Launch) (D : va_G) (cI cJ cC cL : ClassId) (q_t q_t_kinds q_t_wicks q_t_sources q_t_changes : Nat) (t_count : Int32) (t_state : Int64) (t_areLoopsAllowed : Int32) (t_ticks : Int32) (t_tickChanges : Int32) (t_sets : Int32) (r : Int32) (hJ : J_X2_sets t_sets = some (r)) (sz : Nat) : Met l yX2_sets wsX2_sets rmX2_sets (va_Pc [.ref q_t] (jpre XT D (tyL cI cJ cC cL) [(q_t, .inr (2, [.int t_count, .ref q_t_kinds, .ref q_t_wicks, .ref q_t_sources, .ref q_t_changes, .long t_state, .int t_areLoopsAllowed, .int t_ticks, .int t_tickChanges, .int t_sets]))] sz)) (va_Qi (fun r' (_ : Unit) => r' = r) (fun _ t => jpost D (tyL cI cJ cC cL) (va_A [(q_t, .inr (2, [.int t_count, .ref q_t_kinds, .ref q_t_wicks, .ref q_t_sources, .ref q_t_changes, .long t_state, .int t_areLoopsAllowed, .int t_ticks, .int t_tickChanges, .int t_sets]))] sz) [(q_t, .inr (2, [.int t_count, .ref q_t_kinds, .ref q_t_wicks, .ref q_t_sources, .ref q_t_changes, .long t_state, .int t_areLoopsAllowed, .int t_ticks, .int t_tickChanges, .int t_sets]))] t) (va_A [(q_t, .inr (2, [.int t_count, .ref q_t_kinds, .ref q_t_wicks, .ref q_t_sources, .ref q_t_changes, .long t_state, .int t_areLoopsAllowed, .int t_ticks, .int t_tickChanges, .int t_sets]))] sz)) 0 0 (va_A [(q_t, .inr (2, [.int t_count, .ref q_t_kinds, .ref q_t_wicks, .ref q_t_sources, .ref q_t_changes, .long t_state, .int t_areLoopsAllowed, .int t_ticks, .int t_tickChanges, .int t_sets]))] sz) := by
  refine jE_i (cc := cX2_sets) (maxL := 1) (own := RX2) (ret := (some .int)) (lv0 := [(0, .ref q_t)]) (by decide) rfl rfl rfl (Nat.le_of_ble_eq_true rfl) rfl ?_
  intro p e s m args below meth c A Q ls hx hb hml hown hts hK hN hX hA hP hD hS hl hRet
  have hF : CallFix p m c cX2_sets 1 s args wsX2_sets RX2 := ⟨hx, hb, hml, hown, hts⟩
  have fl_54 := hts (.fieldLink RX2 54 "LanternLogic$Lanterns" "sets" "I") (by decide +kernel)
  have hin_X2 : ∀ w ∈ u_ws RX2 TX2 10, w ∈ wsX2_sets := by decide +kernel
  unfold J_X2_sets at hJ
  refine lv_aload_n hx hb dX2_sets_0 rfl (lv_at hl 0 rfl) ?_
  refine va_get (ci := 2) (v := .int t_sets) (C := RX2) (T := TX2) (N := 10) hx hb hts hin_X2 hown hK hP 0 rfl rfl 9 (by decide) fl_54 (fun _ h9 => h9) rfl dX2_sets_1 ?_
  have e0 := Option.some.inj hJ
  exact hRet hP hD hS e0 dX2_sets_4

def J_X2_areLoopsAllowed (t_areLoopsAllowed : Int32) : Option (Int32) :=
    chz t_areLoopsAllowed (some (t_areLoopsAllowed))
abbrev rmX2_areLoopsAllowed : Room := { frames := 0, cells := 0, slots := 0, locals := 0 }
set_option maxHeartbeats 4000000 in
set_option maxRecDepth 100000 in
theorem c_X2_areLoopsAllowed (l : Launch) (D : va_G) (cI cJ cC cL : ClassId) (q_t q_t_kinds q_t_wicks q_t_sources q_t_changes : Nat) (t_count : Int32) (t_state : Int64) (t_areLoopsAllowed : Int32) (t_ticks : Int32) (t_tickChanges : Int32) (t_sets : Int32) (r : Int32) (hJ : J_X2_areLoopsAllowed t_areLoopsAllowed = some (r)) (sz : Nat) : Met l yX2_areLoopsAllowed wsX2_areLoopsAllowed rmX2_areLoopsAllowed (va_Pc [.ref q_t] (jpre XT D (tyL cI cJ cC cL) [(q_t, .inr (2, [.int t_count, .ref q_t_kinds, .ref q_t_wicks, .ref q_t_sources, .ref q_t_changes, .long t_state, .int t_areLoopsAllowed, .int t_ticks, .int t_tickChanges, .int t_sets]))] sz)) (va_Qi (fun r' (_ : Unit) => r' = r) (fun _ t => jpost D (tyL cI cJ cC cL) (va_A [(q_t, .inr (2, [.int t_count, .ref q_t_kinds, .ref q_t_wicks, .ref q_t_sources, .ref q_t_changes, .long t_state, .int t_areLoopsAllowed, .int t_ticks, .int t_tickChanges, .int t_sets]))] sz) [(q_t, .inr (2, [.int t_count, .ref q_t_kinds, .ref q_t_wicks, .ref q_t_sources, .ref q_t_changes, .long t_state, .int t_areLoopsAllowed, .int t_ticks, .int t_tickChanges, .int t_sets]))] t) (va_A [(q_t, .inr (2, [.int t_count, .ref q_t_kinds, .ref q_t_wicks, .ref q_t_sources, .ref q_t_changes, .long t_state, .int t_areLoopsAllowed, .int t_ticks, .int t_tickChanges, .int t_sets]))] sz)) 0 0 (va_A [(q_t, .inr (2, [.int t_count, .ref q_t_kinds, .ref q_t_wicks, .ref q_t_sources, .ref q_t_changes, .long t_state, .int t_areLoopsAllowed, .int t_ticks, .int t_tickChanges, .int t_sets]))] sz) := by
  refine jE_z (cc := cX2_areLoopsAllowed) (maxL := 1) (own := RX2) (ret := (some .boolean)) (lv0 := [(0, .ref q_t)]) (by decide) rfl rfl rfl (Nat.le_of_ble_eq_true rfl) rfl ?_
  intro p e s m args below meth c A Q ls hx hb hml hown hts hK hN hX hA hP hD hS hl hRet
  have hF : CallFix p m c cX2_areLoopsAllowed 1 s args wsX2_areLoopsAllowed RX2 := ⟨hx, hb, hml, hown, hts⟩
  have fl_24 := hts (.fieldLink RX2 24 "LanternLogic$Lanterns" "areLoopsAllowed" "Z") (by decide +kernel)
  have hin_X2 : ∀ w ∈ u_ws RX2 TX2 10, w ∈ wsX2_areLoopsAllowed := by decide +kernel
  unfold J_X2_areLoopsAllowed at hJ
  refine lv_aload_n hx hb dX2_areLoopsAllowed_0 rfl (lv_at hl 0 rfl) ?_
  refine va_get (ci := 2) (v := .int t_areLoopsAllowed) (C := RX2) (T := TX2) (N := 10) hx hb hts hin_X2 hown hK hP 0 rfl rfl 6 (by decide) fl_24 (fun _ h9 => h9) rfl dX2_areLoopsAllowed_1 ?_
  obtain ⟨h01, hJ⟩ := chz_ok hJ
  have e0 := Option.some.inj hJ
  exact hRet hP hD hS h01 e0 dX2_areLoopsAllowed_4

def J_X2_allowLoops (v1 : Int32) : Option (Int32) :=
    chz v1 (
    some (v1))
abbrev rmX2_allowLoops : Room := { frames := 0, cells := 0, slots := 0, locals := 0 }
set_option maxHeartbeats 4000000 in
set_option maxRecDepth 100000 in
theorem c_X2_allowLoops (l : Launch) (D : va_G) (cI cJ cC cL : ClassId) (q_t q_t_kinds q_t_wicks q_t_sources q_t_changes : Nat) (t_count : Int32) (t_state : Int64) (t_areLoopsAllowed : Int32) (t_ticks : Int32) (t_tickChanges : Int32) (t_sets : Int32) (v1 : Int32) (o_t_areLoopsAllowed : Int32) (hJ : J_X2_allowLoops v1 = some (o_t_areLoopsAllowed)) (sz : Nat) : Met l yX2_allowLoops wsX2_allowLoops rmX2_allowLoops (va_Pc [.ref q_t, .int v1] (jpre XT D (tyL cI cJ cC cL) [(q_t, .inr (2, [.int t_count, .ref q_t_kinds, .ref q_t_wicks, .ref q_t_sources, .ref q_t_changes, .long t_state, .int t_areLoopsAllowed, .int t_ticks, .int t_tickChanges, .int t_sets]))] sz)) (va_Qv (fun (_ : Unit) => True) (fun _ t => jpost D (tyL cI cJ cC cL) (va_A [(q_t, .inr (2, [.int t_count, .ref q_t_kinds, .ref q_t_wicks, .ref q_t_sources, .ref q_t_changes, .long t_state, .int t_areLoopsAllowed, .int t_ticks, .int t_tickChanges, .int t_sets]))] sz) [(q_t, .inr (2, [.int t_count, .ref q_t_kinds, .ref q_t_wicks, .ref q_t_sources, .ref q_t_changes, .long t_state, .int o_t_areLoopsAllowed, .int t_ticks, .int t_tickChanges, .int t_sets]))] t) (va_A [(q_t, .inr (2, [.int t_count, .ref q_t_kinds, .ref q_t_wicks, .ref q_t_sources, .ref q_t_changes, .long t_state, .int t_areLoopsAllowed, .int t_ticks, .int t_tickChanges, .int t_sets]))] sz)) 0 0 (va_A [(q_t, .inr (2, [.int t_count, .ref q_t_kinds, .ref q_t_wicks, .ref q_t_sources, .ref q_t_changes, .long t_state, .int t_areLoopsAllowed, .int t_ticks, .int t_tickChanges, .int t_sets]))] sz) := by
  refine jE_v (cc := cX2_allowLoops) (maxL := 2) (own := RX2) (ret := none) (lv0 := [(0, .ref q_t), (1, .int v1)]) (by decide) rfl rfl rfl (Nat.le_of_ble_eq_true rfl) rfl ?_
  intro p e s m args below meth c A Q ls hx hb hml hown hts hK hN hX hA hP hD hS hl hRet
  have hF : CallFix p m c cX2_allowLoops 2 s args wsX2_allowLoops RX2 := ⟨hx, hb, hml, hown, hts⟩
  have fl_24 := hts (.fieldLink RX2 24 "LanternLogic$Lanterns" "areLoopsAllowed" "Z") (by decide +kernel)
  have hin_X2 : ∀ w ∈ u_ws RX2 TX2 10, w ∈ wsX2_allowLoops := by decide +kernel
  unfold J_X2_allowLoops at hJ
  refine lv_aload_n hx hb dX2_allowLoops_0 rfl (lv_at hl 0 rfl) ?_
  refine lv_iload_n hx hb dX2_allowLoops_1 rfl (lv_at hl 1 rfl) ?_
  obtain ⟨h01, hJ⟩ := chz_ok hJ
  refine va_put (ci := 2) (v := .int v1) (ty := .boolean) (C := RX2) (T := TX2) (N := 10) hx hb hts hin_X2 tyX2 tyX2_ok nmX2 hown hK hP hD hS 0 rfl rfl 6 (by decide) fl_24 (fun _ h9 => h9) rfl (by decide +kernel) (by rcases h01 with h | h <;> (rw [h]; rfl)) (by rcases h01 with h | h <;> (rw [h]; rfl)) (Nat.le_of_ble_eq_true rfl) dX2_allowLoops_2 (fun H locs hP hD hS => ?_)
  have hP : va_P D vwCl [(q_t, .inr (2, [.int t_count, .ref q_t_kinds, .ref q_t_wicks, .ref q_t_sources, .ref q_t_changes, .long t_state, .int v1, .int t_ticks, .int t_tickChanges, .int t_sets]))] H := hP
  have hD : va_D A [(q_t, .inr (2, [.int t_count, .ref q_t_kinds, .ref q_t_wicks, .ref q_t_sources, .ref q_t_changes, .long t_state, .int v1, .int t_ticks, .int t_tickChanges, .int t_sets]))] := hD
  have e0 := Option.some.inj hJ
  exact hRet (by rw [← e0]; exact hP) (by rw [← e0]; exact hD) hS dX2_allowLoops_5

def J_X2_isHung_b23 (t_count : Int32) (v1 : Int32) (s23_0 : Int32) : Option (Int32) :=
    chz s23_0 (some (s23_0))
def J_X2_isHung_b22 (t_count : Int32) (v1 : Int32) : Option (Int32) :=
    J_X2_isHung_b23 t_count v1 (0 : Int32)
def J_X2_isHung (t_count : Int32) (v1 : Int32) : Option (Int32) :=
    if v1 < 0 then (
    J_X2_isHung_b22 t_count v1 )
    else (
    if t_count ≤ v1 then (
    J_X2_isHung_b22 t_count v1 )
    else (
    if (16 : Int32) ≤ v1 then (
    J_X2_isHung_b22 t_count v1 )
    else (
    J_X2_isHung_b23 t_count v1 (1 : Int32))))
abbrev rmX2_isHung : Room := { frames := 0, cells := 0, slots := 0, locals := 0 }
set_option maxHeartbeats 4000000 in
set_option maxRecDepth 100000 in
theorem c_X2_isHung (l : Launch) (D : va_G) (cI cJ cC cL : ClassId) (q_t q_t_kinds q_t_wicks q_t_sources q_t_changes : Nat) (t_count : Int32) (t_state : Int64) (t_areLoopsAllowed : Int32) (t_ticks : Int32) (t_tickChanges : Int32) (t_sets : Int32) (v1 : Int32) (r : Int32) (hJ : J_X2_isHung t_count v1 = some (r)) (sz : Nat) : Met l yX2_isHung wsX2_isHung rmX2_isHung (va_Pc [.ref q_t, .int v1] (jpre XT D (tyL cI cJ cC cL) [(q_t, .inr (2, [.int t_count, .ref q_t_kinds, .ref q_t_wicks, .ref q_t_sources, .ref q_t_changes, .long t_state, .int t_areLoopsAllowed, .int t_ticks, .int t_tickChanges, .int t_sets]))] sz)) (va_Qi (fun r' (_ : Unit) => r' = r) (fun _ t => jpost D (tyL cI cJ cC cL) (va_A [(q_t, .inr (2, [.int t_count, .ref q_t_kinds, .ref q_t_wicks, .ref q_t_sources, .ref q_t_changes, .long t_state, .int t_areLoopsAllowed, .int t_ticks, .int t_tickChanges, .int t_sets]))] sz) [(q_t, .inr (2, [.int t_count, .ref q_t_kinds, .ref q_t_wicks, .ref q_t_sources, .ref q_t_changes, .long t_state, .int t_areLoopsAllowed, .int t_ticks, .int t_tickChanges, .int t_sets]))] t) (va_A [(q_t, .inr (2, [.int t_count, .ref q_t_kinds, .ref q_t_wicks, .ref q_t_sources, .ref q_t_changes, .long t_state, .int t_areLoopsAllowed, .int t_ticks, .int t_tickChanges, .int t_sets]))] sz)) 0 0 (va_A [(q_t, .inr (2, [.int t_count, .ref q_t_kinds, .ref q_t_wicks, .ref q_t_sources, .ref q_t_changes, .long t_state, .int t_areLoopsAllowed, .int t_ticks, .int t_tickChanges, .int t_sets]))] sz) := by
  refine jE_z (cc := cX2_isHung) (maxL := 2) (own := RX2) (ret := (some .boolean)) (lv0 := [(0, .ref q_t), (1, .int v1)]) (by decide) rfl rfl rfl (Nat.le_of_ble_eq_true rfl) rfl ?_
  intro p e s m args below meth c A Q ls hx hb hml hown hts hK hN hX hA hP hD hS hl hRet
  have hF : CallFix p m c cX2_isHung 2 s args wsX2_isHung RX2 := ⟨hx, hb, hml, hown, hts⟩
  have fl_34 := hts (.fieldLink RX2 34 "LanternLogic$Lanterns" "count" "I") (by decide +kernel)
  have hin_X2 : ∀ w ∈ u_ws RX2 TX2 10, w ∈ wsX2_isHung := by decide +kernel
  have B23 : ∀ (s23_0 : Int32) (H : Heap) (locs : List Loc), va_P D vwCl [(q_t, .inr (2, [.int t_count, .ref q_t_kinds, .ref q_t_wicks, .ref q_t_sources, .ref q_t_changes, .long t_state, .int t_areLoopsAllowed, .int t_ticks, .int t_tickChanges, .int t_sets]))] H → va_D A [(q_t, .inr (2, [.int t_count, .ref q_t_kinds, .ref q_t_wicks, .ref q_t_sources, .ref q_t_changes, .long t_state, .int t_areLoopsAllowed, .int t_ticks, .int t_tickChanges, .int t_sets]))] → va_S A s.heap H locs → ∀ ls : Array Slot, lv_has ls 2 [] → J_X2_isHung_b23  t_count v1 s23_0 = some (r) → W p l e rmX2_isHung s m args below meth c H locs 0 0 Q (F0 m 23 ls [.int s23_0]) := by
    intro s23_0 H locs hP hD hS ls hl hJ
    unfold J_X2_isHung_b23 at hJ
    obtain ⟨h01, hJ⟩ := chz_ok hJ
    have e0 := Option.some.inj hJ
    exact hRet hP hD hS h01 e0 dX2_isHung_23
  have B22 : ∀ (H : Heap) (locs : List Loc), va_P D vwCl [(q_t, .inr (2, [.int t_count, .ref q_t_kinds, .ref q_t_wicks, .ref q_t_sources, .ref q_t_changes, .long t_state, .int t_areLoopsAllowed, .int t_ticks, .int t_tickChanges, .int t_sets]))] H → va_D A [(q_t, .inr (2, [.int t_count, .ref q_t_kinds, .ref q_t_wicks, .ref q_t_sources, .ref q_t_changes, .long t_state, .int t_areLoopsAllowed, .int t_ticks, .int t_tickChanges, .int t_sets]))] → va_S A s.heap H locs → ∀ ls : Array Slot, lv_has ls 2 [] → J_X2_isHung_b22  t_count v1  = some (r) → W p l e rmX2_isHung s m args below meth c H locs 0 0 Q (F0 m 22 ls []) := by
    intro H locs hP hD hS ls hl hJ
    unfold J_X2_isHung_b22 at hJ
    refine lv_iconst (v := (0 : Int32)) hx hb dX2_isHung_22 (by decide) ?_
    exact B23  (0 : Int32)  H locs  hP hD hS _ (lv_sub hl [] rfl) hJ
  unfold J_X2_isHung at hJ
  refine lv_iload_n hx hb dX2_isHung_0 rfl (lv_at hl 1 rfl) ?_
  refine jif_lt (tgt := 22) hx hb dX2_isHung_1 (by decide) hJ (fun hJ => ?_) (fun hJ => ?_)
  · exact B22    s.heap []  hP hD hS _ (lv_sub hl [] rfl) hJ
  · refine lv_iload_n hx hb dX2_isHung_4 rfl (lv_at hl 1 rfl) ?_
    refine lv_aload_n hx hb dX2_isHung_5 rfl (lv_at hl 0 rfl) ?_
    refine va_get (ci := 2) (v := .int t_count) (C := RX2) (T := TX2) (N := 10) hx hb hts hin_X2 hown hK hP 0 rfl rfl 0 (by decide) fl_34 (fun _ h9 => h9) rfl dX2_isHung_6 ?_
    refine jif_icmp_ge (tgt := 22) hx hb dX2_isHung_9 (by decide) hJ (fun hJ => ?_) (fun hJ => ?_)
    · exact B22    s.heap []  hP hD hS _ (lv_sub hl [] rfl) hJ
    · refine lv_iload_n hx hb dX2_isHung_12 rfl (lv_at hl 1 rfl) ?_
      refine lv_bipush (v := (16 : Int32)) hx hb dX2_isHung_13 (by decide) ?_
      refine jif_icmp_ge (tgt := 22) hx hb dX2_isHung_15 (by decide) hJ (fun hJ => ?_) (fun hJ => ?_)
      · exact B22    s.heap []  hP hD hS _ (lv_sub hl [] rfl) hJ
      · refine lv_iconst (v := (1 : Int32)) hx hb dX2_isHung_18 (by decide) ?_
        refine lv_goto (tgt := 23) hx hb dX2_isHung_19 (by decide) ?_
        exact B23  (1 : Int32)  s.heap []  hP hD hS _ (lv_sub hl [] rfl) hJ

def J_X2_kindOf_b18 (t_count : Int32) (t_kinds : Nat → Int32) (v1 : Int32) (s18_0 : Int32) : Option (Int32) :=
    some (s18_0)
def J_X2_kindOf (t_count : Int32) (t_kinds : Nat → Int32) (v1 : Int32) : Option (Int32) :=
    bnd1 (J_X2_isHung t_count v1) fun x2 =>
    if x2 = 0 then (
    J_X2_kindOf_b18 t_count t_kinds v1 (0 : Int32))
    else (
    chk v1 16 (
    nm (t_kinds v1.toNatClampNeg) fun x13 =>
    J_X2_kindOf_b18 t_count t_kinds v1 x13))
abbrev rmX2_kindOf : Room := { frames := 1, cells := 0, slots := 0, locals := 21 }
set_option maxHeartbeats 4000000 in
set_option maxRecDepth 100000 in
theorem c_X2_kindOf (l : Launch) (D : va_G) (cI cJ cC cL : ClassId) (q_t q_t_kinds q_t_wicks q_t_sources q_t_changes : Nat) (t_count : Int32) (t_state : Int64) (t_areLoopsAllowed : Int32) (t_ticks : Int32) (t_tickChanges : Int32) (t_sets : Int32) (t_kinds : Nat → Int32) (v1 : Int32) (r : Int32) (hJ : J_X2_kindOf t_count t_kinds v1 = some (r)) (sz : Nat) : Met l yX2_kindOf wsX2_kindOf rmX2_kindOf (va_Pc [.ref q_t, .int v1] (jpre XT D (tyL cI cJ cC cL) [(q_t, .inr (2, [.int t_count, .ref q_t_kinds, .ref q_t_wicks, .ref q_t_sources, .ref q_t_changes, .long t_state, .int t_areLoopsAllowed, .int t_ticks, .int t_tickChanges, .int t_sets])), (q_t_kinds, .inl (cI, 16, .inl t_kinds))] sz)) (va_Qi (fun r' (_ : Unit) => r' = r) (fun _ t => jpost D (tyL cI cJ cC cL) (va_A [(q_t, .inr (2, [.int t_count, .ref q_t_kinds, .ref q_t_wicks, .ref q_t_sources, .ref q_t_changes, .long t_state, .int t_areLoopsAllowed, .int t_ticks, .int t_tickChanges, .int t_sets])), (q_t_kinds, .inl (cI, 16, .inl t_kinds))] sz) [(q_t, .inr (2, [.int t_count, .ref q_t_kinds, .ref q_t_wicks, .ref q_t_sources, .ref q_t_changes, .long t_state, .int t_areLoopsAllowed, .int t_ticks, .int t_tickChanges, .int t_sets])), (q_t_kinds, .inl (cI, 16, .inl t_kinds))] t) (va_A [(q_t, .inr (2, [.int t_count, .ref q_t_kinds, .ref q_t_wicks, .ref q_t_sources, .ref q_t_changes, .long t_state, .int t_areLoopsAllowed, .int t_ticks, .int t_tickChanges, .int t_sets])), (q_t_kinds, .inl (cI, 16, .inl t_kinds))] sz)) 0 0 (va_A [(q_t, .inr (2, [.int t_count, .ref q_t_kinds, .ref q_t_wicks, .ref q_t_sources, .ref q_t_changes, .long t_state, .int t_areLoopsAllowed, .int t_ticks, .int t_tickChanges, .int t_sets])), (q_t_kinds, .inl (cI, 16, .inl t_kinds))] sz) := by
  refine jE_i (cc := cX2_kindOf) (maxL := 2) (own := RX2) (ret := (some .int)) (lv0 := [(0, .ref q_t), (1, .int v1)]) (by decide) rfl rfl rfl (Nat.le_of_ble_eq_true rfl) rfl ?_
  intro p e s m args below meth c A Q ls hx hb hml hown hts hK hN hX hA hP hD hS hl hRet
  have hF : CallFix p m c cX2_kindOf 2 s args wsX2_kindOf RX2 := ⟨hx, hb, hml, hown, hts⟩
  have fl_9 := hts (.fieldLink RX2 9 "LanternLogic$Lanterns" "kinds" "[I") (by decide +kernel)
  have hin_X2 : ∀ w ∈ u_ws RX2 TX2 10, w ∈ wsX2_kindOf := by decide +kernel
  have B18 : ∀ (s18_0 : Int32) (H : Heap) (locs : List Loc), va_P D vwCl [(q_t, .inr (2, [.int t_count, .ref q_t_kinds, .ref q_t_wicks, .ref q_t_sources, .ref q_t_changes, .long t_state, .int t_areLoopsAllowed, .int t_ticks, .int t_tickChanges, .int t_sets])), (q_t_kinds, .inl (cI, 16, .inl t_kinds))] H → va_D A [(q_t, .inr (2, [.int t_count, .ref q_t_kinds, .ref q_t_wicks, .ref q_t_sources, .ref q_t_changes, .long t_state, .int t_areLoopsAllowed, .int t_ticks, .int t_tickChanges, .int t_sets])), (q_t_kinds, .inl (cI, 16, .inl t_kinds))] → va_S A s.heap H locs → ∀ ls : Array Slot, lv_has ls 2 [] → J_X2_kindOf_b18  t_count t_kinds v1 s18_0 = some (r) → W p l e rmX2_kindOf s m args below meth c H locs 0 0 Q (F0 m 18 ls [.int s18_0]) := by
    intro s18_0 H locs hP hD hS ls hl hJ
    unfold J_X2_kindOf_b18 at hJ
    have e0 := Option.some.inj hJ
    exact hRet hP hD hS e0 dX2_kindOf_18
  unfold J_X2_kindOf at hJ
  refine lv_aload_n hx hb dX2_kindOf_0 rfl (lv_at hl 0 rfl) ?_
  refine lv_iload_n hx hb dX2_kindOf_1 rfl (lv_at hl 1 rfl) ?_
  obtain ⟨x2, hc2, hJ⟩ := bnd1_some hJ
  refine jcV_i (C := RX2) (T := TX2) (N := 10) (ci := 2) (q0 := 0) (As := [.int v1]) (rest := []) (isC := [0]) (isR := [1]) (isB := [1, 0]) (wr := [(q_t_kinds, .inl (cI, 16, .inl t_kinds))]) (ws2 := [(q_t, .inr (2, [.int t_count, .ref q_t_kinds, .ref q_t_wicks, .ref q_t_sources, .ref q_t_changes, .long t_state, .int t_areLoopsAllowed, .int t_ticks, .int t_tickChanges, .int t_sets])), (q_t_kinds, .inl (cI, 16, .inl t_kinds))]) hF (c_X2_isHung l D cI cJ cC cL q_t q_t_kinds q_t_wicks q_t_sources q_t_changes t_count t_state t_areLoopsAllowed t_ticks t_tickChanges t_sets v1 x2 hc2 s.heap.size) (cwV 1 hts gX2_kindOf_X2_isHung rfl rfl rfl (by decide +kernel) ⟨Nat.le_of_ble_eq_true rfl, Nat.le_of_ble_eq_true rfl⟩) rfl hl rfl (Nat.le_of_ble_eq_true rfl) dX2_kindOf_2 ⟨Nat.zero_le _, Nat.zero_le _⟩ hK hN KX_T trivial hP hD hS hA rfl rfl rfl rfl rfl rfl (by decide) rfl rfl (fun H locs hP hD hS => ?_)
  refine jif_eq (tgt := 17) hx hb dX2_kindOf_5 (by decide) hJ (fun hJ => ?_) (fun hJ => ?_)
  · refine lv_iconst (v := (0 : Int32)) hx hb dX2_kindOf_17 (by decide) ?_
    exact B18  (0 : Int32)  H locs  hP hD hS _ (lv_sub hl [] rfl) hJ
  · refine lv_aload_n hx hb dX2_kindOf_8 rfl (lv_at hl 0 rfl) ?_
    refine va_get (ci := 2) (v := .ref q_t_kinds) (C := RX2) (T := TX2) (N := 10) hx hb hts hin_X2 hown hK hP 0 rfl rfl 1 (by decide) fl_9 (fun _ h9 => h9) rfl dX2_kindOf_9 ?_
    refine lv_iload_n hx hb dX2_kindOf_12 rfl (lv_at hl 1 rfl) ?_
    obtain ⟨hin, hJ⟩ := chk_in hJ
    refine va_iald hx hb hK hP 1 0 rfl rfl hin dX2_kindOf_13 ?_
    refine jt_i hJ (fun x13 hJ => ?_)
    refine lv_goto (tgt := 18) hx hb dX2_kindOf_14 (by decide) ?_
    exact B18  x13  H locs  hP hD hS _ (lv_sub hl [] rfl) hJ

def J_X2_wickOf_b18 (t_count : Int32) (t_wicks : Nat → Int32) (v1 : Int32) (s18_0 : Int32) : Option (Int32) :=
    some (s18_0)
def J_X2_wickOf (t_count : Int32) (t_wicks : Nat → Int32) (v1 : Int32) : Option (Int32) :=
    bnd1 (J_X2_isHung t_count v1) fun x2 =>
    if x2 = 0 then (
    J_X2_wickOf_b18 t_count t_wicks v1 (1 : Int32))
    else (
    chk v1 16 (
    nm (t_wicks v1.toNatClampNeg) fun x13 =>
    J_X2_wickOf_b18 t_count t_wicks v1 x13))
abbrev rmX2_wickOf : Room := { frames := 1, cells := 0, slots := 0, locals := 21 }
set_option maxHeartbeats 4000000 in
set_option maxRecDepth 100000 in
theorem c_X2_wickOf (l : Launch) (D : va_G) (cI cJ cC cL : ClassId) (q_t q_t_kinds q_t_wicks q_t_sources q_t_changes : Nat) (t_count : Int32) (t_state : Int64) (t_areLoopsAllowed : Int32) (t_ticks : Int32) (t_tickChanges : Int32) (t_sets : Int32) (t_wicks : Nat → Int32) (v1 : Int32) (r : Int32) (hJ : J_X2_wickOf t_count t_wicks v1 = some (r)) (sz : Nat) : Met l yX2_wickOf wsX2_wickOf rmX2_wickOf (va_Pc [.ref q_t, .int v1] (jpre XT D (tyL cI cJ cC cL) [(q_t, .inr (2, [.int t_count, .ref q_t_kinds, .ref q_t_wicks, .ref q_t_sources, .ref q_t_changes, .long t_state, .int t_areLoopsAllowed, .int t_ticks, .int t_tickChanges, .int t_sets])), (q_t_wicks, .inl (cI, 16, .inl t_wicks))] sz)) (va_Qi (fun r' (_ : Unit) => r' = r) (fun _ t => jpost D (tyL cI cJ cC cL) (va_A [(q_t, .inr (2, [.int t_count, .ref q_t_kinds, .ref q_t_wicks, .ref q_t_sources, .ref q_t_changes, .long t_state, .int t_areLoopsAllowed, .int t_ticks, .int t_tickChanges, .int t_sets])), (q_t_wicks, .inl (cI, 16, .inl t_wicks))] sz) [(q_t, .inr (2, [.int t_count, .ref q_t_kinds, .ref q_t_wicks, .ref q_t_sources, .ref q_t_changes, .long t_state, .int t_areLoopsAllowed, .int t_ticks, .int t_tickChanges, .int t_sets])), (q_t_wicks, .inl (cI, 16, .inl t_wicks))] t) (va_A [(q_t, .inr (2, [.int t_count, .ref q_t_kinds, .ref q_t_wicks, .ref q_t_sources, .ref q_t_changes, .long t_state, .int t_areLoopsAllowed, .int t_ticks, .int t_tickChanges, .int t_sets])), (q_t_wicks, .inl (cI, 16, .inl t_wicks))] sz)) 0 0 (va_A [(q_t, .inr (2, [.int t_count, .ref q_t_kinds, .ref q_t_wicks, .ref q_t_sources, .ref q_t_changes, .long t_state, .int t_areLoopsAllowed, .int t_ticks, .int t_tickChanges, .int t_sets])), (q_t_wicks, .inl (cI, 16, .inl t_wicks))] sz) := by
  refine jE_i (cc := cX2_wickOf) (maxL := 2) (own := RX2) (ret := (some .int)) (lv0 := [(0, .ref q_t), (1, .int v1)]) (by decide) rfl rfl rfl (Nat.le_of_ble_eq_true rfl) rfl ?_
  intro p e s m args below meth c A Q ls hx hb hml hown hts hK hN hX hA hP hD hS hl hRet
  have hF : CallFix p m c cX2_wickOf 2 s args wsX2_wickOf RX2 := ⟨hx, hb, hml, hown, hts⟩
  have fl_15 := hts (.fieldLink RX2 15 "LanternLogic$Lanterns" "wicks" "[I") (by decide +kernel)
  have hin_X2 : ∀ w ∈ u_ws RX2 TX2 10, w ∈ wsX2_wickOf := by decide +kernel
  have B18 : ∀ (s18_0 : Int32) (H : Heap) (locs : List Loc), va_P D vwCl [(q_t, .inr (2, [.int t_count, .ref q_t_kinds, .ref q_t_wicks, .ref q_t_sources, .ref q_t_changes, .long t_state, .int t_areLoopsAllowed, .int t_ticks, .int t_tickChanges, .int t_sets])), (q_t_wicks, .inl (cI, 16, .inl t_wicks))] H → va_D A [(q_t, .inr (2, [.int t_count, .ref q_t_kinds, .ref q_t_wicks, .ref q_t_sources, .ref q_t_changes, .long t_state, .int t_areLoopsAllowed, .int t_ticks, .int t_tickChanges, .int t_sets])), (q_t_wicks, .inl (cI, 16, .inl t_wicks))] → va_S A s.heap H locs → ∀ ls : Array Slot, lv_has ls 2 [] → J_X2_wickOf_b18  t_count t_wicks v1 s18_0 = some (r) → W p l e rmX2_wickOf s m args below meth c H locs 0 0 Q (F0 m 18 ls [.int s18_0]) := by
    intro s18_0 H locs hP hD hS ls hl hJ
    unfold J_X2_wickOf_b18 at hJ
    have e0 := Option.some.inj hJ
    exact hRet hP hD hS e0 dX2_wickOf_18
  unfold J_X2_wickOf at hJ
  refine lv_aload_n hx hb dX2_wickOf_0 rfl (lv_at hl 0 rfl) ?_
  refine lv_iload_n hx hb dX2_wickOf_1 rfl (lv_at hl 1 rfl) ?_
  obtain ⟨x2, hc2, hJ⟩ := bnd1_some hJ
  refine jcV_i (C := RX2) (T := TX2) (N := 10) (ci := 2) (q0 := 0) (As := [.int v1]) (rest := []) (isC := [0]) (isR := [1]) (isB := [1, 0]) (wr := [(q_t_wicks, .inl (cI, 16, .inl t_wicks))]) (ws2 := [(q_t, .inr (2, [.int t_count, .ref q_t_kinds, .ref q_t_wicks, .ref q_t_sources, .ref q_t_changes, .long t_state, .int t_areLoopsAllowed, .int t_ticks, .int t_tickChanges, .int t_sets])), (q_t_wicks, .inl (cI, 16, .inl t_wicks))]) hF (c_X2_isHung l D cI cJ cC cL q_t q_t_kinds q_t_wicks q_t_sources q_t_changes t_count t_state t_areLoopsAllowed t_ticks t_tickChanges t_sets v1 x2 hc2 s.heap.size) (cwV 1 hts gX2_wickOf_X2_isHung rfl rfl rfl (by decide +kernel) ⟨Nat.le_of_ble_eq_true rfl, Nat.le_of_ble_eq_true rfl⟩) rfl hl rfl (Nat.le_of_ble_eq_true rfl) dX2_wickOf_2 ⟨Nat.zero_le _, Nat.zero_le _⟩ hK hN KX_T trivial hP hD hS hA rfl rfl rfl rfl rfl rfl (by decide) rfl rfl (fun H locs hP hD hS => ?_)
  refine jif_eq (tgt := 17) hx hb dX2_wickOf_5 (by decide) hJ (fun hJ => ?_) (fun hJ => ?_)
  · refine lv_iconst (v := (1 : Int32)) hx hb dX2_wickOf_17 (by decide) ?_
    exact B18  (1 : Int32)  H locs  hP hD hS _ (lv_sub hl [] rfl) hJ
  · refine lv_aload_n hx hb dX2_wickOf_8 rfl (lv_at hl 0 rfl) ?_
    refine va_get (ci := 2) (v := .ref q_t_wicks) (C := RX2) (T := TX2) (N := 10) hx hb hts hin_X2 hown hK hP 0 rfl rfl 2 (by decide) fl_15 (fun _ h9 => h9) rfl dX2_wickOf_9 ?_
    refine lv_iload_n hx hb dX2_wickOf_12 rfl (lv_at hl 1 rfl) ?_
    obtain ⟨hin, hJ⟩ := chk_in hJ
    refine va_iald hx hb hK hP 1 0 rfl rfl hin dX2_wickOf_13 ?_
    refine jt_i hJ (fun x13 hJ => ?_)
    refine lv_goto (tgt := 18) hx hb dX2_wickOf_14 (by decide) ?_
    exact B18  x13  H locs  hP hD hS _ (lv_sub hl [] rfl) hJ

def J_X2_changesOf_b18 (t_count : Int32) (t_changes : Nat → Int32) (v1 : Int32) (s18_0 : Int32) : Option (Int32) :=
    some (s18_0)
def J_X2_changesOf (t_count : Int32) (t_changes : Nat → Int32) (v1 : Int32) : Option (Int32) :=
    bnd1 (J_X2_isHung t_count v1) fun x2 =>
    if x2 = 0 then (
    J_X2_changesOf_b18 t_count t_changes v1 (0 : Int32))
    else (
    chk v1 16 (
    nm (t_changes v1.toNatClampNeg) fun x13 =>
    J_X2_changesOf_b18 t_count t_changes v1 x13))
abbrev rmX2_changesOf : Room := { frames := 1, cells := 0, slots := 0, locals := 21 }
set_option maxHeartbeats 4000000 in
set_option maxRecDepth 100000 in
theorem c_X2_changesOf (l : Launch) (D : va_G) (cI cJ cC cL : ClassId) (q_t q_t_kinds q_t_wicks q_t_sources q_t_changes : Nat) (t_count : Int32) (t_state : Int64) (t_areLoopsAllowed : Int32) (t_ticks : Int32) (t_tickChanges : Int32) (t_sets : Int32) (t_changes : Nat → Int32) (v1 : Int32) (r : Int32) (hJ : J_X2_changesOf t_count t_changes v1 = some (r)) (sz : Nat) : Met l yX2_changesOf wsX2_changesOf rmX2_changesOf (va_Pc [.ref q_t, .int v1] (jpre XT D (tyL cI cJ cC cL) [(q_t, .inr (2, [.int t_count, .ref q_t_kinds, .ref q_t_wicks, .ref q_t_sources, .ref q_t_changes, .long t_state, .int t_areLoopsAllowed, .int t_ticks, .int t_tickChanges, .int t_sets])), (q_t_changes, .inl (cI, 16, .inl t_changes))] sz)) (va_Qi (fun r' (_ : Unit) => r' = r) (fun _ t => jpost D (tyL cI cJ cC cL) (va_A [(q_t, .inr (2, [.int t_count, .ref q_t_kinds, .ref q_t_wicks, .ref q_t_sources, .ref q_t_changes, .long t_state, .int t_areLoopsAllowed, .int t_ticks, .int t_tickChanges, .int t_sets])), (q_t_changes, .inl (cI, 16, .inl t_changes))] sz) [(q_t, .inr (2, [.int t_count, .ref q_t_kinds, .ref q_t_wicks, .ref q_t_sources, .ref q_t_changes, .long t_state, .int t_areLoopsAllowed, .int t_ticks, .int t_tickChanges, .int t_sets])), (q_t_changes, .inl (cI, 16, .inl t_changes))] t) (va_A [(q_t, .inr (2, [.int t_count, .ref q_t_kinds, .ref q_t_wicks, .ref q_t_sources, .ref q_t_changes, .long t_state, .int t_areLoopsAllowed, .int t_ticks, .int t_tickChanges, .int t_sets])), (q_t_changes, .inl (cI, 16, .inl t_changes))] sz)) 0 0 (va_A [(q_t, .inr (2, [.int t_count, .ref q_t_kinds, .ref q_t_wicks, .ref q_t_sources, .ref q_t_changes, .long t_state, .int t_areLoopsAllowed, .int t_ticks, .int t_tickChanges, .int t_sets])), (q_t_changes, .inl (cI, 16, .inl t_changes))] sz) := by
  refine jE_i (cc := cX2_changesOf) (maxL := 2) (own := RX2) (ret := (some .int)) (lv0 := [(0, .ref q_t), (1, .int v1)]) (by decide) rfl rfl rfl (Nat.le_of_ble_eq_true rfl) rfl ?_
  intro p e s m args below meth c A Q ls hx hb hml hown hts hK hN hX hA hP hD hS hl hRet
  have hF : CallFix p m c cX2_changesOf 2 s args wsX2_changesOf RX2 := ⟨hx, hb, hml, hown, hts⟩
  have fl_21 := hts (.fieldLink RX2 21 "LanternLogic$Lanterns" "changes" "[I") (by decide +kernel)
  have hin_X2 : ∀ w ∈ u_ws RX2 TX2 10, w ∈ wsX2_changesOf := by decide +kernel
  have B18 : ∀ (s18_0 : Int32) (H : Heap) (locs : List Loc), va_P D vwCl [(q_t, .inr (2, [.int t_count, .ref q_t_kinds, .ref q_t_wicks, .ref q_t_sources, .ref q_t_changes, .long t_state, .int t_areLoopsAllowed, .int t_ticks, .int t_tickChanges, .int t_sets])), (q_t_changes, .inl (cI, 16, .inl t_changes))] H → va_D A [(q_t, .inr (2, [.int t_count, .ref q_t_kinds, .ref q_t_wicks, .ref q_t_sources, .ref q_t_changes, .long t_state, .int t_areLoopsAllowed, .int t_ticks, .int t_tickChanges, .int t_sets])), (q_t_changes, .inl (cI, 16, .inl t_changes))] → va_S A s.heap H locs → ∀ ls : Array Slot, lv_has ls 2 [] → J_X2_changesOf_b18  t_count t_changes v1 s18_0 = some (r) → W p l e rmX2_changesOf s m args below meth c H locs 0 0 Q (F0 m 18 ls [.int s18_0]) := by
    intro s18_0 H locs hP hD hS ls hl hJ
    unfold J_X2_changesOf_b18 at hJ
    have e0 := Option.some.inj hJ
    exact hRet hP hD hS e0 dX2_changesOf_18
  unfold J_X2_changesOf at hJ
  refine lv_aload_n hx hb dX2_changesOf_0 rfl (lv_at hl 0 rfl) ?_
  refine lv_iload_n hx hb dX2_changesOf_1 rfl (lv_at hl 1 rfl) ?_
  obtain ⟨x2, hc2, hJ⟩ := bnd1_some hJ
  refine jcV_i (C := RX2) (T := TX2) (N := 10) (ci := 2) (q0 := 0) (As := [.int v1]) (rest := []) (isC := [0]) (isR := [1]) (isB := [1, 0]) (wr := [(q_t_changes, .inl (cI, 16, .inl t_changes))]) (ws2 := [(q_t, .inr (2, [.int t_count, .ref q_t_kinds, .ref q_t_wicks, .ref q_t_sources, .ref q_t_changes, .long t_state, .int t_areLoopsAllowed, .int t_ticks, .int t_tickChanges, .int t_sets])), (q_t_changes, .inl (cI, 16, .inl t_changes))]) hF (c_X2_isHung l D cI cJ cC cL q_t q_t_kinds q_t_wicks q_t_sources q_t_changes t_count t_state t_areLoopsAllowed t_ticks t_tickChanges t_sets v1 x2 hc2 s.heap.size) (cwV 1 hts gX2_changesOf_X2_isHung rfl rfl rfl (by decide +kernel) ⟨Nat.le_of_ble_eq_true rfl, Nat.le_of_ble_eq_true rfl⟩) rfl hl rfl (Nat.le_of_ble_eq_true rfl) dX2_changesOf_2 ⟨Nat.zero_le _, Nat.zero_le _⟩ hK hN KX_T trivial hP hD hS hA rfl rfl rfl rfl rfl rfl (by decide) rfl rfl (fun H locs hP hD hS => ?_)
  refine jif_eq (tgt := 17) hx hb dX2_changesOf_5 (by decide) hJ (fun hJ => ?_) (fun hJ => ?_)
  · refine lv_iconst (v := (0 : Int32)) hx hb dX2_changesOf_17 (by decide) ?_
    exact B18  (0 : Int32)  H locs  hP hD hS _ (lv_sub hl [] rfl) hJ
  · refine lv_aload_n hx hb dX2_changesOf_8 rfl (lv_at hl 0 rfl) ?_
    refine va_get (ci := 2) (v := .ref q_t_changes) (C := RX2) (T := TX2) (N := 10) hx hb hts hin_X2 hown hK hP 0 rfl rfl 4 (by decide) fl_21 (fun _ h9 => h9) rfl dX2_changesOf_9 ?_
    refine lv_iload_n hx hb dX2_changesOf_12 rfl (lv_at hl 1 rfl) ?_
    obtain ⟨hin, hJ⟩ := chk_in hJ
    refine va_iald hx hb hK hP 1 0 rfl rfl hin dX2_changesOf_13 ?_
    refine jt_i hJ (fun x13 hJ => ?_)
    refine lv_goto (tgt := 18) hx hb dX2_changesOf_14 (by decide) ?_
    exact B18  x13  H locs  hP hD hS _ (lv_sub hl [] rfl) hJ

def J_X2_isSwitch_b22 (t_count : Int32) (t_kinds : Nat → Int32) (v1 : Int32) (s22_0 : Int32) : Option (Int32) :=
    chz s22_0 (some (s22_0))
def J_X2_isSwitch_b21 (t_count : Int32) (t_kinds : Nat → Int32) (v1 : Int32) : Option (Int32) :=
    J_X2_isSwitch_b22 t_count t_kinds v1 (0 : Int32)
def J_X2_isSwitch (t_count : Int32) (t_kinds : Nat → Int32) (v1 : Int32) : Option (Int32) :=
    bnd1 (J_X2_isHung t_count v1) fun x2 =>
    if x2 = 0 then (
    J_X2_isSwitch_b21 t_count t_kinds v1 )
    else (
    chk v1 16 (
    nm (t_kinds v1.toNatClampNeg) fun x13 =>
    if x13 = 0 then (
    J_X2_isSwitch_b22 t_count t_kinds v1 (1 : Int32))
    else (
    J_X2_isSwitch_b21 t_count t_kinds v1 )))
abbrev rmX2_isSwitch : Room := { frames := 1, cells := 0, slots := 0, locals := 21 }
set_option maxHeartbeats 4000000 in
set_option maxRecDepth 100000 in
theorem c_X2_isSwitch (l : Launch) (D : va_G) (cI cJ cC cL : ClassId) (q_t q_t_kinds q_t_wicks q_t_sources q_t_changes : Nat) (t_count : Int32) (t_state : Int64) (t_areLoopsAllowed : Int32) (t_ticks : Int32) (t_tickChanges : Int32) (t_sets : Int32) (t_kinds : Nat → Int32) (v1 : Int32) (r : Int32) (hJ : J_X2_isSwitch t_count t_kinds v1 = some (r)) (sz : Nat) : Met l yX2_isSwitch wsX2_isSwitch rmX2_isSwitch (va_Pc [.ref q_t, .int v1] (jpre XT D (tyL cI cJ cC cL) [(q_t, .inr (2, [.int t_count, .ref q_t_kinds, .ref q_t_wicks, .ref q_t_sources, .ref q_t_changes, .long t_state, .int t_areLoopsAllowed, .int t_ticks, .int t_tickChanges, .int t_sets])), (q_t_kinds, .inl (cI, 16, .inl t_kinds))] sz)) (va_Qi (fun r' (_ : Unit) => r' = r) (fun _ t => jpost D (tyL cI cJ cC cL) (va_A [(q_t, .inr (2, [.int t_count, .ref q_t_kinds, .ref q_t_wicks, .ref q_t_sources, .ref q_t_changes, .long t_state, .int t_areLoopsAllowed, .int t_ticks, .int t_tickChanges, .int t_sets])), (q_t_kinds, .inl (cI, 16, .inl t_kinds))] sz) [(q_t, .inr (2, [.int t_count, .ref q_t_kinds, .ref q_t_wicks, .ref q_t_sources, .ref q_t_changes, .long t_state, .int t_areLoopsAllowed, .int t_ticks, .int t_tickChanges, .int t_sets])), (q_t_kinds, .inl (cI, 16, .inl t_kinds))] t) (va_A [(q_t, .inr (2, [.int t_count, .ref q_t_kinds, .ref q_t_wicks, .ref q_t_sources, .ref q_t_changes, .long t_state, .int t_areLoopsAllowed, .int t_ticks, .int t_tickChanges, .int t_sets])), (q_t_kinds, .inl (cI, 16, .inl t_kinds))] sz)) 0 0 (va_A [(q_t, .inr (2, [.int t_count, .ref q_t_kinds, .ref q_t_wicks, .ref q_t_sources, .ref q_t_changes, .long t_state, .int t_areLoopsAllowed, .int t_ticks, .int t_tickChanges, .int t_sets])), (q_t_kinds, .inl (cI, 16, .inl t_kinds))] sz) := by
  refine jE_z (cc := cX2_isSwitch) (maxL := 2) (own := RX2) (ret := (some .boolean)) (lv0 := [(0, .ref q_t), (1, .int v1)]) (by decide) rfl rfl rfl (Nat.le_of_ble_eq_true rfl) rfl ?_
  intro p e s m args below meth c A Q ls hx hb hml hown hts hK hN hX hA hP hD hS hl hRet
  have hF : CallFix p m c cX2_isSwitch 2 s args wsX2_isSwitch RX2 := ⟨hx, hb, hml, hown, hts⟩
  have fl_9 := hts (.fieldLink RX2 9 "LanternLogic$Lanterns" "kinds" "[I") (by decide +kernel)
  have hin_X2 : ∀ w ∈ u_ws RX2 TX2 10, w ∈ wsX2_isSwitch := by decide +kernel
  have B22 : ∀ (s22_0 : Int32) (H : Heap) (locs : List Loc), va_P D vwCl [(q_t, .inr (2, [.int t_count, .ref q_t_kinds, .ref q_t_wicks, .ref q_t_sources, .ref q_t_changes, .long t_state, .int t_areLoopsAllowed, .int t_ticks, .int t_tickChanges, .int t_sets])), (q_t_kinds, .inl (cI, 16, .inl t_kinds))] H → va_D A [(q_t, .inr (2, [.int t_count, .ref q_t_kinds, .ref q_t_wicks, .ref q_t_sources, .ref q_t_changes, .long t_state, .int t_areLoopsAllowed, .int t_ticks, .int t_tickChanges, .int t_sets])), (q_t_kinds, .inl (cI, 16, .inl t_kinds))] → va_S A s.heap H locs → ∀ ls : Array Slot, lv_has ls 2 [] → J_X2_isSwitch_b22  t_count t_kinds v1 s22_0 = some (r) → W p l e rmX2_isSwitch s m args below meth c H locs 0 0 Q (F0 m 22 ls [.int s22_0]) := by
    intro s22_0 H locs hP hD hS ls hl hJ
    unfold J_X2_isSwitch_b22 at hJ
    obtain ⟨h01, hJ⟩ := chz_ok hJ
    have e0 := Option.some.inj hJ
    exact hRet hP hD hS h01 e0 dX2_isSwitch_22
  have B21 : ∀ (H : Heap) (locs : List Loc), va_P D vwCl [(q_t, .inr (2, [.int t_count, .ref q_t_kinds, .ref q_t_wicks, .ref q_t_sources, .ref q_t_changes, .long t_state, .int t_areLoopsAllowed, .int t_ticks, .int t_tickChanges, .int t_sets])), (q_t_kinds, .inl (cI, 16, .inl t_kinds))] H → va_D A [(q_t, .inr (2, [.int t_count, .ref q_t_kinds, .ref q_t_wicks, .ref q_t_sources, .ref q_t_changes, .long t_state, .int t_areLoopsAllowed, .int t_ticks, .int t_tickChanges, .int t_sets])), (q_t_kinds, .inl (cI, 16, .inl t_kinds))] → va_S A s.heap H locs → ∀ ls : Array Slot, lv_has ls 2 [] → J_X2_isSwitch_b21  t_count t_kinds v1  = some (r) → W p l e rmX2_isSwitch s m args below meth c H locs 0 0 Q (F0 m 21 ls []) := by
    intro H locs hP hD hS ls hl hJ
    unfold J_X2_isSwitch_b21 at hJ
    refine lv_iconst (v := (0 : Int32)) hx hb dX2_isSwitch_21 (by decide) ?_
    exact B22  (0 : Int32)  H locs  hP hD hS _ (lv_sub hl [] rfl) hJ
  unfold J_X2_isSwitch at hJ
  refine lv_aload_n hx hb dX2_isSwitch_0 rfl (lv_at hl 0 rfl) ?_
  refine lv_iload_n hx hb dX2_isSwitch_1 rfl (lv_at hl 1 rfl) ?_
  obtain ⟨x2, hc2, hJ⟩ := bnd1_some hJ
  refine jcV_i (C := RX2) (T := TX2) (N := 10) (ci := 2) (q0 := 0) (As := [.int v1]) (rest := []) (isC := [0]) (isR := [1]) (isB := [1, 0]) (wr := [(q_t_kinds, .inl (cI, 16, .inl t_kinds))]) (ws2 := [(q_t, .inr (2, [.int t_count, .ref q_t_kinds, .ref q_t_wicks, .ref q_t_sources, .ref q_t_changes, .long t_state, .int t_areLoopsAllowed, .int t_ticks, .int t_tickChanges, .int t_sets])), (q_t_kinds, .inl (cI, 16, .inl t_kinds))]) hF (c_X2_isHung l D cI cJ cC cL q_t q_t_kinds q_t_wicks q_t_sources q_t_changes t_count t_state t_areLoopsAllowed t_ticks t_tickChanges t_sets v1 x2 hc2 s.heap.size) (cwV 1 hts gX2_isSwitch_X2_isHung rfl rfl rfl (by decide +kernel) ⟨Nat.le_of_ble_eq_true rfl, Nat.le_of_ble_eq_true rfl⟩) rfl hl rfl (Nat.le_of_ble_eq_true rfl) dX2_isSwitch_2 ⟨Nat.zero_le _, Nat.zero_le _⟩ hK hN KX_T trivial hP hD hS hA rfl rfl rfl rfl rfl rfl (by decide) rfl rfl (fun H locs hP hD hS => ?_)
  refine jif_eq (tgt := 21) hx hb dX2_isSwitch_5 (by decide) hJ (fun hJ => ?_) (fun hJ => ?_)
  · exact B21    H locs  hP hD hS _ (lv_sub hl [] rfl) hJ
  · refine lv_aload_n hx hb dX2_isSwitch_8 rfl (lv_at hl 0 rfl) ?_
    refine va_get (ci := 2) (v := .ref q_t_kinds) (C := RX2) (T := TX2) (N := 10) hx hb hts hin_X2 hown hK hP 0 rfl rfl 1 (by decide) fl_9 (fun _ h9 => h9) rfl dX2_isSwitch_9 ?_
    refine lv_iload_n hx hb dX2_isSwitch_12 rfl (lv_at hl 1 rfl) ?_
    obtain ⟨hin, hJ⟩ := chk_in hJ
    refine va_iald hx hb hK hP 1 0 rfl rfl hin dX2_isSwitch_13 ?_
    refine jt_i hJ (fun x13 hJ => ?_)
    refine jif_ne (tgt := 21) hx hb dX2_isSwitch_14 (by decide) hJ (fun hJ => ?_) (fun hJ => ?_)
    · exact B21    H locs  hP hD hS _ (lv_sub hl [] rfl) hJ
    · refine lv_iconst (v := (1 : Int32)) hx hb dX2_isSwitch_17 (by decide) ?_
      refine lv_goto (tgt := 22) hx hb dX2_isSwitch_18 (by decide) ?_
      exact B22  (1 : Int32)  H locs  hP hD hS _ (lv_sub hl [] rfl) hJ

def J_X2_sourceOf_b43 (t_sources : Nat → Int32) (v1 : Int32) (v2 : Int32) (s43_0 : Int32) : Option (Int32) :=
    some (s43_0)
def J_X2_sourceOf_b24 (t_sources : Nat → Int32) (v1 : Int32) (v2 : Int32) (s24_0 : Int32) : Option (Int32) :=
    if s24_0 = 0 then (
    J_X2_sourceOf_b43 t_sources v1 v2 (-1 : Int32))
    else (
    nm (v1 * (3 : Int32)) fun x35 =>
    nm (x35 + v2) fun x37 =>
    chk x37 48 (
    nm (t_sources x37.toNatClampNeg) fun x38 =>
    J_X2_sourceOf_b43 t_sources v1 v2 x38))
def J_X2_sourceOf_b23 (t_sources : Nat → Int32) (v1 : Int32) (v2 : Int32) : Option (Int32) :=
    J_X2_sourceOf_b24 t_sources v1 v2 (0 : Int32)
def J_X2_sourceOf (t_sources : Nat → Int32) (v1 : Int32) (v2 : Int32) : Option (Int32) :=
    if v1 < 0 then (
    J_X2_sourceOf_b23 t_sources v1 v2 )
    else (
    if (16 : Int32) ≤ v1 then (
    J_X2_sourceOf_b23 t_sources v1 v2 )
    else (
    if v2 < 0 then (
    J_X2_sourceOf_b23 t_sources v1 v2 )
    else (
    if (3 : Int32) ≤ v2 then (
    J_X2_sourceOf_b23 t_sources v1 v2 )
    else (
    J_X2_sourceOf_b24 t_sources v1 v2 (1 : Int32)))))
abbrev rmX2_sourceOf : Room := { frames := 0, cells := 0, slots := 0, locals := 0 }
set_option maxHeartbeats 4000000 in
set_option maxRecDepth 100000 in
theorem c_X2_sourceOf (l : Launch) (D : va_G) (cI cJ cC cL : ClassId) (q_t q_t_kinds q_t_wicks q_t_sources q_t_changes : Nat) (t_count : Int32) (t_state : Int64) (t_areLoopsAllowed : Int32) (t_ticks : Int32) (t_tickChanges : Int32) (t_sets : Int32) (t_sources : Nat → Int32) (v1 : Int32) (v2 : Int32) (r : Int32) (hJ : J_X2_sourceOf t_sources v1 v2 = some (r)) (sz : Nat) : Met l yX2_sourceOf wsX2_sourceOf rmX2_sourceOf (va_Pc [.ref q_t, .int v1, .int v2] (jpre XT D (tyL cI cJ cC cL) [(q_t, .inr (2, [.int t_count, .ref q_t_kinds, .ref q_t_wicks, .ref q_t_sources, .ref q_t_changes, .long t_state, .int t_areLoopsAllowed, .int t_ticks, .int t_tickChanges, .int t_sets])), (q_t_sources, .inl (cI, 48, .inl t_sources))] sz)) (va_Qi (fun r' (_ : Unit) => r' = r) (fun _ t => jpost D (tyL cI cJ cC cL) (va_A [(q_t, .inr (2, [.int t_count, .ref q_t_kinds, .ref q_t_wicks, .ref q_t_sources, .ref q_t_changes, .long t_state, .int t_areLoopsAllowed, .int t_ticks, .int t_tickChanges, .int t_sets])), (q_t_sources, .inl (cI, 48, .inl t_sources))] sz) [(q_t, .inr (2, [.int t_count, .ref q_t_kinds, .ref q_t_wicks, .ref q_t_sources, .ref q_t_changes, .long t_state, .int t_areLoopsAllowed, .int t_ticks, .int t_tickChanges, .int t_sets])), (q_t_sources, .inl (cI, 48, .inl t_sources))] t) (va_A [(q_t, .inr (2, [.int t_count, .ref q_t_kinds, .ref q_t_wicks, .ref q_t_sources, .ref q_t_changes, .long t_state, .int t_areLoopsAllowed, .int t_ticks, .int t_tickChanges, .int t_sets])), (q_t_sources, .inl (cI, 48, .inl t_sources))] sz)) 0 0 (va_A [(q_t, .inr (2, [.int t_count, .ref q_t_kinds, .ref q_t_wicks, .ref q_t_sources, .ref q_t_changes, .long t_state, .int t_areLoopsAllowed, .int t_ticks, .int t_tickChanges, .int t_sets])), (q_t_sources, .inl (cI, 48, .inl t_sources))] sz) := by
  refine jE_i (cc := cX2_sourceOf) (maxL := 4) (own := RX2) (ret := (some .int)) (lv0 := [(0, .ref q_t), (1, .int v1), (2, .int v2)]) (by decide) rfl rfl rfl (Nat.le_of_ble_eq_true rfl) rfl ?_
  intro p e s m args below meth c A Q ls hx hb hml hown hts hK hN hX hA hP hD hS hl hRet
  have hF : CallFix p m c cX2_sourceOf 4 s args wsX2_sourceOf RX2 := ⟨hx, hb, hml, hown, hts⟩
  have fl_18 := hts (.fieldLink RX2 18 "LanternLogic$Lanterns" "sources" "[I") (by decide +kernel)
  have hin_X2 : ∀ w ∈ u_ws RX2 TX2 10, w ∈ wsX2_sourceOf := by decide +kernel
  have B43 : ∀ (s43_0 : Int32) (H : Heap) (locs : List Loc), va_P D vwCl [(q_t, .inr (2, [.int t_count, .ref q_t_kinds, .ref q_t_wicks, .ref q_t_sources, .ref q_t_changes, .long t_state, .int t_areLoopsAllowed, .int t_ticks, .int t_tickChanges, .int t_sets])), (q_t_sources, .inl (cI, 48, .inl t_sources))] H → va_D A [(q_t, .inr (2, [.int t_count, .ref q_t_kinds, .ref q_t_wicks, .ref q_t_sources, .ref q_t_changes, .long t_state, .int t_areLoopsAllowed, .int t_ticks, .int t_tickChanges, .int t_sets])), (q_t_sources, .inl (cI, 48, .inl t_sources))] → va_S A s.heap H locs → ∀ ls : Array Slot, lv_has ls 4 [] → J_X2_sourceOf_b43  t_sources v1 v2 s43_0 = some (r) → W p l e rmX2_sourceOf s m args below meth c H locs 0 0 Q (F0 m 43 ls [.int s43_0]) := by
    intro s43_0 H locs hP hD hS ls hl hJ
    unfold J_X2_sourceOf_b43 at hJ
    have e0 := Option.some.inj hJ
    exact hRet hP hD hS e0 dX2_sourceOf_43
  have B24 : ∀ (s24_0 : Int32) (H : Heap) (locs : List Loc), va_P D vwCl [(q_t, .inr (2, [.int t_count, .ref q_t_kinds, .ref q_t_wicks, .ref q_t_sources, .ref q_t_changes, .long t_state, .int t_areLoopsAllowed, .int t_ticks, .int t_tickChanges, .int t_sets])), (q_t_sources, .inl (cI, 48, .inl t_sources))] H → va_D A [(q_t, .inr (2, [.int t_count, .ref q_t_kinds, .ref q_t_wicks, .ref q_t_sources, .ref q_t_changes, .long t_state, .int t_areLoopsAllowed, .int t_ticks, .int t_tickChanges, .int t_sets])), (q_t_sources, .inl (cI, 48, .inl t_sources))] → va_S A s.heap H locs → ∀ ls : Array Slot, lv_has ls 4 [(0, .ref q_t), (1, .int v1), (2, .int v2)] → J_X2_sourceOf_b24  t_sources v1 v2 s24_0 = some (r) → W p l e rmX2_sourceOf s m args below meth c H locs 0 0 Q (F0 m 24 ls [.int s24_0]) := by
    intro s24_0 H locs hP hD hS ls hl hJ
    unfold J_X2_sourceOf_b24 at hJ
    refine lv_istore_n (lv' := [(3, .int s24_0), (0, .ref q_t), (1, .int v1), (2, .int v2)]) hx hb dX2_sourceOf_24 rfl hl (by decide) rfl (fun ls hl => ?_)
    refine lv_iload_n hx hb dX2_sourceOf_25 rfl (lv_at hl 0 rfl) ?_
    refine jif_eq (tgt := 42) hx hb dX2_sourceOf_26 (by decide) hJ (fun hJ => ?_) (fun hJ => ?_)
    · refine lv_iconst (v := (-1 : Int32)) hx hb dX2_sourceOf_42 (by decide) ?_
      exact B43  (-1 : Int32)  H locs  hP hD hS _ (lv_sub hl [] rfl) hJ
    · refine lv_aload_n hx hb dX2_sourceOf_29 rfl (lv_at hl 1 rfl) ?_
      refine va_get (ci := 2) (v := .ref q_t_sources) (C := RX2) (T := TX2) (N := 10) hx hb hts hin_X2 hown hK hP 0 rfl rfl 3 (by decide) fl_18 (fun _ h9 => h9) rfl dX2_sourceOf_30 ?_
      refine lv_iload_n hx hb dX2_sourceOf_33 rfl (lv_at hl 2 rfl) ?_
      refine lv_iconst (v := (3 : Int32)) hx hb dX2_sourceOf_34 (by decide) ?_
      refine lv_imul hx hb dX2_sourceOf_35 ?_
      refine jt_i hJ (fun x35 hJ => ?_)
      refine lv_iload_n hx hb dX2_sourceOf_36 rfl (lv_at hl 3 rfl) ?_
      refine lv_iadd hx hb dX2_sourceOf_37 ?_
      refine jt_i hJ (fun x37 hJ => ?_)
      obtain ⟨hin, hJ⟩ := chk_in hJ
      refine va_iald hx hb hK hP 1 0 rfl rfl hin dX2_sourceOf_38 ?_
      refine jt_i hJ (fun x38 hJ => ?_)
      refine lv_goto (tgt := 43) hx hb dX2_sourceOf_39 (by decide) ?_
      exact B43  x38  H locs  hP hD hS _ (lv_sub hl [] rfl) hJ
  have B23 : ∀ (H : Heap) (locs : List Loc), va_P D vwCl [(q_t, .inr (2, [.int t_count, .ref q_t_kinds, .ref q_t_wicks, .ref q_t_sources, .ref q_t_changes, .long t_state, .int t_areLoopsAllowed, .int t_ticks, .int t_tickChanges, .int t_sets])), (q_t_sources, .inl (cI, 48, .inl t_sources))] H → va_D A [(q_t, .inr (2, [.int t_count, .ref q_t_kinds, .ref q_t_wicks, .ref q_t_sources, .ref q_t_changes, .long t_state, .int t_areLoopsAllowed, .int t_ticks, .int t_tickChanges, .int t_sets])), (q_t_sources, .inl (cI, 48, .inl t_sources))] → va_S A s.heap H locs → ∀ ls : Array Slot, lv_has ls 4 [(0, .ref q_t), (1, .int v1), (2, .int v2)] → J_X2_sourceOf_b23  t_sources v1 v2  = some (r) → W p l e rmX2_sourceOf s m args below meth c H locs 0 0 Q (F0 m 23 ls []) := by
    intro H locs hP hD hS ls hl hJ
    unfold J_X2_sourceOf_b23 at hJ
    refine lv_iconst (v := (0 : Int32)) hx hb dX2_sourceOf_23 (by decide) ?_
    exact B24  (0 : Int32)  H locs  hP hD hS _ (lv_sub hl [0, 1, 2] rfl) hJ
  unfold J_X2_sourceOf at hJ
  refine lv_iload_n hx hb dX2_sourceOf_0 rfl (lv_at hl 1 rfl) ?_
  refine jif_lt (tgt := 23) hx hb dX2_sourceOf_1 (by decide) hJ (fun hJ => ?_) (fun hJ => ?_)
  · exact B23    s.heap []  hP hD hS _ (lv_sub hl [0, 1, 2] rfl) hJ
  · refine lv_iload_n hx hb dX2_sourceOf_4 rfl (lv_at hl 1 rfl) ?_
    refine lv_bipush (v := (16 : Int32)) hx hb dX2_sourceOf_5 (by decide) ?_
    refine jif_icmp_ge (tgt := 23) hx hb dX2_sourceOf_7 (by decide) hJ (fun hJ => ?_) (fun hJ => ?_)
    · exact B23    s.heap []  hP hD hS _ (lv_sub hl [0, 1, 2] rfl) hJ
    · refine lv_iload_n hx hb dX2_sourceOf_10 rfl (lv_at hl 2 rfl) ?_
      refine jif_lt (tgt := 23) hx hb dX2_sourceOf_11 (by decide) hJ (fun hJ => ?_) (fun hJ => ?_)
      · exact B23    s.heap []  hP hD hS _ (lv_sub hl [0, 1, 2] rfl) hJ
      · refine lv_iload_n hx hb dX2_sourceOf_14 rfl (lv_at hl 2 rfl) ?_
        refine lv_iconst (v := (3 : Int32)) hx hb dX2_sourceOf_15 (by decide) ?_
        refine jif_icmp_ge (tgt := 23) hx hb dX2_sourceOf_16 (by decide) hJ (fun hJ => ?_) (fun hJ => ?_)
        · exact B23    s.heap []  hP hD hS _ (lv_sub hl [0, 1, 2] rfl) hJ
        · refine lv_iconst (v := (1 : Int32)) hx hb dX2_sourceOf_19 (by decide) ?_
          refine lv_goto (tgt := 24) hx hb dX2_sourceOf_20 (by decide) ?_
          exact B24  (1 : Int32)  s.heap []  hP hD hS _ (lv_sub hl [0, 1, 2] rfl) hJ

def J_X2_add_b15 (v1 : Int32) (v2 : Int32) (t_count : Int32) (t_kinds : Nat → Int32) (t_wicks : Nat → Int32) : Option (Int32 × Int32 × (Nat → Int32) × (Nat → Int32)) :=
    some ((-11 : Int32), t_count, t_kinds, t_wicks)
def J_X2_add (t_count : Int32) (t_kinds : Nat → Int32) (t_wicks : Nat → Int32) (v1 : Int32) (v2 : Int32) : Option (Int32 × Int32 × (Nat → Int32) × (Nat → Int32)) :=
    if t_count < 0 then (
    J_X2_add_b15 v1 v2 t_count t_kinds t_wicks)
    else (
    if t_count < (16 : Int32) then (
    chk t_count 16 (
    chk t_count 16 (
    nm (t_count + (1 : Int32)) fun x35 =>
    some (t_count, x35, (upd t_kinds t_count.toNatClampNeg v1), (upd t_wicks t_count.toNatClampNeg v2)))))
    else (
    J_X2_add_b15 v1 v2 t_count t_kinds t_wicks))
abbrev rmX2_add : Room := { frames := 0, cells := 0, slots := 0, locals := 0 }
set_option maxHeartbeats 4000000 in
set_option maxRecDepth 100000 in
theorem c_X2_add (l : Launch) (D : va_G) (cI cJ cC cL : ClassId) (q_t q_t_kinds q_t_wicks q_t_sources q_t_changes : Nat) (t_count : Int32) (t_state : Int64) (t_areLoopsAllowed : Int32) (t_ticks : Int32) (t_tickChanges : Int32) (t_sets : Int32) (t_kinds : Nat → Int32) (t_wicks : Nat → Int32) (v1 : Int32) (v2 : Int32) (r : Int32) (o_t_count : Int32) (o_t_kinds : Nat → Int32) (o_t_wicks : Nat → Int32) (hJ : J_X2_add t_count t_kinds t_wicks v1 v2 = some (r, o_t_count, o_t_kinds, o_t_wicks)) (sz : Nat) : Met l yX2_add wsX2_add rmX2_add (va_Pc [.ref q_t, .int v1, .int v2] (jpre XT D (tyL cI cJ cC cL) [(q_t, .inr (2, [.int t_count, .ref q_t_kinds, .ref q_t_wicks, .ref q_t_sources, .ref q_t_changes, .long t_state, .int t_areLoopsAllowed, .int t_ticks, .int t_tickChanges, .int t_sets])), (q_t_kinds, .inl (cI, 16, .inl t_kinds)), (q_t_wicks, .inl (cI, 16, .inl t_wicks))] sz)) (va_Qi (fun r' (_ : Unit) => r' = r) (fun _ t => jpost D (tyL cI cJ cC cL) (va_A [(q_t, .inr (2, [.int t_count, .ref q_t_kinds, .ref q_t_wicks, .ref q_t_sources, .ref q_t_changes, .long t_state, .int t_areLoopsAllowed, .int t_ticks, .int t_tickChanges, .int t_sets])), (q_t_kinds, .inl (cI, 16, .inl t_kinds)), (q_t_wicks, .inl (cI, 16, .inl t_wicks))] sz) [(q_t, .inr (2, [.int o_t_count, .ref q_t_kinds, .ref q_t_wicks, .ref q_t_sources, .ref q_t_changes, .long t_state, .int t_areLoopsAllowed, .int t_ticks, .int t_tickChanges, .int t_sets])), (q_t_kinds, .inl (cI, 16, .inl o_t_kinds)), (q_t_wicks, .inl (cI, 16, .inl o_t_wicks))] t) (va_A [(q_t, .inr (2, [.int t_count, .ref q_t_kinds, .ref q_t_wicks, .ref q_t_sources, .ref q_t_changes, .long t_state, .int t_areLoopsAllowed, .int t_ticks, .int t_tickChanges, .int t_sets])), (q_t_kinds, .inl (cI, 16, .inl t_kinds)), (q_t_wicks, .inl (cI, 16, .inl t_wicks))] sz)) 0 0 (va_A [(q_t, .inr (2, [.int t_count, .ref q_t_kinds, .ref q_t_wicks, .ref q_t_sources, .ref q_t_changes, .long t_state, .int t_areLoopsAllowed, .int t_ticks, .int t_tickChanges, .int t_sets])), (q_t_kinds, .inl (cI, 16, .inl t_kinds)), (q_t_wicks, .inl (cI, 16, .inl t_wicks))] sz) := by
  refine jE_i (cc := cX2_add) (maxL := 4) (own := RX2) (ret := (some .int)) (lv0 := [(0, .ref q_t), (1, .int v1), (2, .int v2)]) (by decide) rfl rfl rfl (Nat.le_of_ble_eq_true rfl) rfl ?_
  intro p e s m args below meth c A Q ls hx hb hml hown hts hK hN hX hA hP hD hS hl hRet
  have hF : CallFix p m c cX2_add 4 s args wsX2_add RX2 := ⟨hx, hb, hml, hown, hts⟩
  have fl_9 := hts (.fieldLink RX2 9 "LanternLogic$Lanterns" "kinds" "[I") (by decide +kernel)
  have fl_15 := hts (.fieldLink RX2 15 "LanternLogic$Lanterns" "wicks" "[I") (by decide +kernel)
  have fl_34 := hts (.fieldLink RX2 34 "LanternLogic$Lanterns" "count" "I") (by decide +kernel)
  have hin_X2 : ∀ w ∈ u_ws RX2 TX2 10, w ∈ wsX2_add := by decide +kernel
  have B15 : ∀ (t_count : Int32) (t_kinds : Nat → Int32) (t_wicks : Nat → Int32) (H : Heap) (locs : List Loc), va_P D vwCl [(q_t, .inr (2, [.int t_count, .ref q_t_kinds, .ref q_t_wicks, .ref q_t_sources, .ref q_t_changes, .long t_state, .int t_areLoopsAllowed, .int t_ticks, .int t_tickChanges, .int t_sets])), (q_t_kinds, .inl (cI, 16, .inl t_kinds)), (q_t_wicks, .inl (cI, 16, .inl t_wicks))] H → va_D A [(q_t, .inr (2, [.int t_count, .ref q_t_kinds, .ref q_t_wicks, .ref q_t_sources, .ref q_t_changes, .long t_state, .int t_areLoopsAllowed, .int t_ticks, .int t_tickChanges, .int t_sets])), (q_t_kinds, .inl (cI, 16, .inl t_kinds)), (q_t_wicks, .inl (cI, 16, .inl t_wicks))] → va_S A s.heap H locs → ∀ ls : Array Slot, lv_has ls 4 [] → J_X2_add_b15  v1 v2 t_count t_kinds t_wicks = some (r, o_t_count, o_t_kinds, o_t_wicks) → W p l e rmX2_add s m args below meth c H locs 0 0 Q (F0 m 15 ls []) := by
    intro t_count t_kinds t_wicks H locs hP hD hS ls hl hJ
    unfold J_X2_add_b15 at hJ
    refine lv_bipush (v := (-11 : Int32)) hx hb dX2_add_15 (by decide) ?_
    have hJ := Option.some.inj hJ
    obtain ⟨e0, e1, e2, e3⟩ : ((-11 : Int32)) = r ∧ (t_count) = o_t_count ∧ (t_kinds) = o_t_kinds ∧ (t_wicks) = o_t_wicks := ⟨congrArg (fun z => z.1) hJ, congrArg (fun z => z.2.1) hJ, congrArg (fun z => z.2.2.1) hJ, congrArg (fun z => z.2.2.2) hJ⟩
    exact hRet (by rw [← e1, ← e2, ← e3]; exact hP) (by rw [← e1, ← e2, ← e3]; exact hD) hS e0 dX2_add_17
  unfold J_X2_add at hJ
  refine lv_aload_n hx hb dX2_add_0 rfl (lv_at hl 0 rfl) ?_
  refine va_get (ci := 2) (v := .int t_count) (C := RX2) (T := TX2) (N := 10) hx hb hts hin_X2 hown hK hP 0 rfl rfl 0 (by decide) fl_34 (fun _ h9 => h9) rfl dX2_add_1 ?_
  refine lv_istore_n (lv' := [(3, .int t_count), (0, .ref q_t), (1, .int v1), (2, .int v2)]) hx hb dX2_add_4 rfl hl (by decide) rfl (fun ls hl => ?_)
  refine lv_iload_n hx hb dX2_add_5 rfl (lv_at hl 0 rfl) ?_
  refine jif_lt (tgt := 15) hx hb dX2_add_6 (by decide) hJ (fun hJ => ?_) (fun hJ => ?_)
  · exact B15  t_count t_kinds t_wicks  s.heap []  hP hD hS _ (lv_sub hl [] rfl) hJ
  · refine lv_iload_n hx hb dX2_add_9 rfl (lv_at hl 0 rfl) ?_
    refine lv_bipush (v := (16 : Int32)) hx hb dX2_add_10 (by decide) ?_
    refine jif_icmp_lt (tgt := 18) hx hb dX2_add_12 (by decide) hJ (fun hJ => ?_) (fun hJ => ?_)
    · refine lv_aload_n hx hb dX2_add_18 rfl (lv_at hl 1 rfl) ?_
      refine va_get (ci := 2) (v := .ref q_t_kinds) (C := RX2) (T := TX2) (N := 10) hx hb hts hin_X2 hown hK hP 0 rfl rfl 1 (by decide) fl_9 (fun _ h9 => h9) rfl dX2_add_19 ?_
      refine lv_iload_n hx hb dX2_add_22 rfl (lv_at hl 0 rfl) ?_
      refine lv_iload_n hx hb dX2_add_23 rfl (lv_at hl 2 rfl) ?_
      obtain ⟨hin, hJ⟩ := chk_in hJ
      refine va_iast hx hb hK hP hD hS 1 0 rfl rfl hin dX2_add_24 (fun H locs hP hD hS => ?_)
      have hP : va_P D vwCl [(q_t, .inr (2, [.int t_count, .ref q_t_kinds, .ref q_t_wicks, .ref q_t_sources, .ref q_t_changes, .long t_state, .int t_areLoopsAllowed, .int t_ticks, .int t_tickChanges, .int t_sets])), (q_t_kinds, .inl (cI, 16, .inl (upd t_kinds t_count.toNatClampNeg v1))), (q_t_wicks, .inl (cI, 16, .inl t_wicks))] H := hP
      have hD : va_D A [(q_t, .inr (2, [.int t_count, .ref q_t_kinds, .ref q_t_wicks, .ref q_t_sources, .ref q_t_changes, .long t_state, .int t_areLoopsAllowed, .int t_ticks, .int t_tickChanges, .int t_sets])), (q_t_kinds, .inl (cI, 16, .inl (upd t_kinds t_count.toNatClampNeg v1))), (q_t_wicks, .inl (cI, 16, .inl t_wicks))] := hD
      refine lv_aload_n hx hb dX2_add_25 rfl (lv_at hl 1 rfl) ?_
      refine va_get (ci := 2) (v := .ref q_t_wicks) (C := RX2) (T := TX2) (N := 10) hx hb hts hin_X2 hown hK hP 0 rfl rfl 2 (by decide) fl_15 (fun _ h9 => h9) rfl dX2_add_26 ?_
      refine lv_iload_n hx hb dX2_add_29 rfl (lv_at hl 0 rfl) ?_
      refine lv_iload_n hx hb dX2_add_30 rfl (lv_at hl 3 rfl) ?_
      obtain ⟨hin, hJ⟩ := chk_in hJ
      refine va_iast hx hb hK hP hD hS 2 0 rfl rfl hin dX2_add_31 (fun H locs hP hD hS => ?_)
      have hP : va_P D vwCl [(q_t, .inr (2, [.int t_count, .ref q_t_kinds, .ref q_t_wicks, .ref q_t_sources, .ref q_t_changes, .long t_state, .int t_areLoopsAllowed, .int t_ticks, .int t_tickChanges, .int t_sets])), (q_t_kinds, .inl (cI, 16, .inl (upd t_kinds t_count.toNatClampNeg v1))), (q_t_wicks, .inl (cI, 16, .inl (upd t_wicks t_count.toNatClampNeg v2)))] H := hP
      have hD : va_D A [(q_t, .inr (2, [.int t_count, .ref q_t_kinds, .ref q_t_wicks, .ref q_t_sources, .ref q_t_changes, .long t_state, .int t_areLoopsAllowed, .int t_ticks, .int t_tickChanges, .int t_sets])), (q_t_kinds, .inl (cI, 16, .inl (upd t_kinds t_count.toNatClampNeg v1))), (q_t_wicks, .inl (cI, 16, .inl (upd t_wicks t_count.toNatClampNeg v2)))] := hD
      refine lv_aload_n hx hb dX2_add_32 rfl (lv_at hl 1 rfl) ?_
      refine lv_iload_n hx hb dX2_add_33 rfl (lv_at hl 0 rfl) ?_
      refine lv_iconst (v := (1 : Int32)) hx hb dX2_add_34 (by decide) ?_
      refine lv_iadd hx hb dX2_add_35 ?_
      refine jt_i hJ (fun x35 hJ => ?_)
      refine va_put (ci := 2) (v := .int x35) (ty := .int) (C := RX2) (T := TX2) (N := 10) hx hb hts hin_X2 tyX2 tyX2_ok nmX2 hown hK hP hD hS 0 rfl rfl 0 (by decide) fl_34 (fun _ h9 => h9) rfl (by decide +kernel) rfl rfl (Nat.le_of_ble_eq_true rfl) dX2_add_36 (fun H locs hP hD hS => ?_)
      have hP : va_P D vwCl [(q_t, .inr (2, [.int x35, .ref q_t_kinds, .ref q_t_wicks, .ref q_t_sources, .ref q_t_changes, .long t_state, .int t_areLoopsAllowed, .int t_ticks, .int t_tickChanges, .int t_sets])), (q_t_kinds, .inl (cI, 16, .inl (upd t_kinds t_count.toNatClampNeg v1))), (q_t_wicks, .inl (cI, 16, .inl (upd t_wicks t_count.toNatClampNeg v2)))] H := hP
      have hD : va_D A [(q_t, .inr (2, [.int x35, .ref q_t_kinds, .ref q_t_wicks, .ref q_t_sources, .ref q_t_changes, .long t_state, .int t_areLoopsAllowed, .int t_ticks, .int t_tickChanges, .int t_sets])), (q_t_kinds, .inl (cI, 16, .inl (upd t_kinds t_count.toNatClampNeg v1))), (q_t_wicks, .inl (cI, 16, .inl (upd t_wicks t_count.toNatClampNeg v2)))] := hD
      refine lv_iload_n hx hb dX2_add_39 rfl (lv_at hl 0 rfl) ?_
      have hJ := Option.some.inj hJ
      obtain ⟨e0, e1, e2, e3⟩ : (t_count) = r ∧ (x35) = o_t_count ∧ ((upd t_kinds t_count.toNatClampNeg v1)) = o_t_kinds ∧ ((upd t_wicks t_count.toNatClampNeg v2)) = o_t_wicks := ⟨congrArg (fun z => z.1) hJ, congrArg (fun z => z.2.1) hJ, congrArg (fun z => z.2.2.1) hJ, congrArg (fun z => z.2.2.2) hJ⟩
      exact hRet (by rw [← e1, ← e2, ← e3]; exact hP) (by rw [← e1, ← e2, ← e3]; exact hD) hS e0 dX2_add_40
    · exact B15  t_count t_kinds t_wicks  s.heap []  hP hD hS _ (lv_sub hl [] rfl) hJ

def J_X2_connect_b26 (t_count : Int32) (v1 : Int32) (v2 : Int32) (v3 : Int32) (t_sources : Nat → Int32) : Option ((Nat → Int32)) :=
    some (t_sources)
def J_X2_connect (t_count : Int32) (t_sources : Nat → Int32) (v1 : Int32) (v2 : Int32) (v3 : Int32) : Option ((Nat → Int32)) :=
    bnd1 (J_X2_isHung t_count v1) fun x2 =>
    if x2 = 0 then (
    J_X2_connect_b26 t_count v1 v2 v3 t_sources)
    else (
    bnd1 (J_X9_isPlace v2) fun x9 =>
    if x9 = 0 then (
    J_X2_connect_b26 t_count v1 v2 v3 t_sources)
    else (
    nm (v1 * (3 : Int32)) fun x21 =>
    nm (x21 + v2) fun x23 =>
    chk x23 48 (
    J_X2_connect_b26 t_count v1 v2 v3 (upd t_sources x23.toNatClampNeg v3))))
abbrev rmX2_connect : Room := { frames := 1, cells := 0, slots := 0, locals := 21 }
set_option maxHeartbeats 4000000 in
set_option maxRecDepth 100000 in
theorem c_X2_connect (l : Launch) (D : va_G) (cI cJ cC cL : ClassId) (q_t q_t_kinds q_t_wicks q_t_sources q_t_changes : Nat) (t_count : Int32) (t_state : Int64) (t_areLoopsAllowed : Int32) (t_ticks : Int32) (t_tickChanges : Int32) (t_sets : Int32) (t_sources : Nat → Int32) (v1 : Int32) (v2 : Int32) (v3 : Int32) (o_t_sources : Nat → Int32) (hJ : J_X2_connect t_count t_sources v1 v2 v3 = some (o_t_sources)) (sz : Nat) : Met l yX2_connect wsX2_connect rmX2_connect (va_Pc [.ref q_t, .int v1, .int v2, .int v3] (jpre XT D (tyL cI cJ cC cL) [(q_t, .inr (2, [.int t_count, .ref q_t_kinds, .ref q_t_wicks, .ref q_t_sources, .ref q_t_changes, .long t_state, .int t_areLoopsAllowed, .int t_ticks, .int t_tickChanges, .int t_sets])), (q_t_sources, .inl (cI, 48, .inl t_sources))] sz)) (va_Qv (fun (_ : Unit) => True) (fun _ t => jpost D (tyL cI cJ cC cL) (va_A [(q_t, .inr (2, [.int t_count, .ref q_t_kinds, .ref q_t_wicks, .ref q_t_sources, .ref q_t_changes, .long t_state, .int t_areLoopsAllowed, .int t_ticks, .int t_tickChanges, .int t_sets])), (q_t_sources, .inl (cI, 48, .inl t_sources))] sz) [(q_t, .inr (2, [.int t_count, .ref q_t_kinds, .ref q_t_wicks, .ref q_t_sources, .ref q_t_changes, .long t_state, .int t_areLoopsAllowed, .int t_ticks, .int t_tickChanges, .int t_sets])), (q_t_sources, .inl (cI, 48, .inl o_t_sources))] t) (va_A [(q_t, .inr (2, [.int t_count, .ref q_t_kinds, .ref q_t_wicks, .ref q_t_sources, .ref q_t_changes, .long t_state, .int t_areLoopsAllowed, .int t_ticks, .int t_tickChanges, .int t_sets])), (q_t_sources, .inl (cI, 48, .inl t_sources))] sz)) 0 0 (va_A [(q_t, .inr (2, [.int t_count, .ref q_t_kinds, .ref q_t_wicks, .ref q_t_sources, .ref q_t_changes, .long t_state, .int t_areLoopsAllowed, .int t_ticks, .int t_tickChanges, .int t_sets])), (q_t_sources, .inl (cI, 48, .inl t_sources))] sz) := by
  refine jE_v (cc := cX2_connect) (maxL := 4) (own := RX2) (ret := none) (lv0 := [(0, .ref q_t), (1, .int v1), (2, .int v2), (3, .int v3)]) (by decide) rfl rfl rfl (Nat.le_of_ble_eq_true rfl) rfl ?_
  intro p e s m args below meth c A Q ls hx hb hml hown hts hK hN hX hA hP hD hS hl hRet
  have hF : CallFix p m c cX2_connect 4 s args wsX2_connect RX2 := ⟨hx, hb, hml, hown, hts⟩
  have fl_18 := hts (.fieldLink RX2 18 "LanternLogic$Lanterns" "sources" "[I") (by decide +kernel)
  have hin_X2 : ∀ w ∈ u_ws RX2 TX2 10, w ∈ wsX2_connect := by decide +kernel
  have B26 : ∀ (t_sources : Nat → Int32) (H : Heap) (locs : List Loc), va_P D vwCl [(q_t, .inr (2, [.int t_count, .ref q_t_kinds, .ref q_t_wicks, .ref q_t_sources, .ref q_t_changes, .long t_state, .int t_areLoopsAllowed, .int t_ticks, .int t_tickChanges, .int t_sets])), (q_t_sources, .inl (cI, 48, .inl t_sources))] H → va_D A [(q_t, .inr (2, [.int t_count, .ref q_t_kinds, .ref q_t_wicks, .ref q_t_sources, .ref q_t_changes, .long t_state, .int t_areLoopsAllowed, .int t_ticks, .int t_tickChanges, .int t_sets])), (q_t_sources, .inl (cI, 48, .inl t_sources))] → va_S A s.heap H locs → ∀ ls : Array Slot, lv_has ls 4 [] → J_X2_connect_b26  t_count v1 v2 v3 t_sources = some (o_t_sources) → W p l e rmX2_connect s m args below meth c H locs 0 0 Q (F0 m 26 ls []) := by
    intro t_sources H locs hP hD hS ls hl hJ
    unfold J_X2_connect_b26 at hJ
    have e0 := Option.some.inj hJ
    exact hRet (by rw [← e0]; exact hP) (by rw [← e0]; exact hD) hS dX2_connect_26
  unfold J_X2_connect at hJ
  refine lv_aload_n hx hb dX2_connect_0 rfl (lv_at hl 0 rfl) ?_
  refine lv_iload_n hx hb dX2_connect_1 rfl (lv_at hl 1 rfl) ?_
  obtain ⟨x2, hc2, hJ⟩ := bnd1_some hJ
  refine jcV_i (C := RX2) (T := TX2) (N := 10) (ci := 2) (q0 := 0) (As := [.int v1]) (rest := []) (isC := [0]) (isR := [1]) (isB := [1, 0]) (wr := [(q_t_sources, .inl (cI, 48, .inl t_sources))]) (ws2 := [(q_t, .inr (2, [.int t_count, .ref q_t_kinds, .ref q_t_wicks, .ref q_t_sources, .ref q_t_changes, .long t_state, .int t_areLoopsAllowed, .int t_ticks, .int t_tickChanges, .int t_sets])), (q_t_sources, .inl (cI, 48, .inl t_sources))]) hF (c_X2_isHung l D cI cJ cC cL q_t q_t_kinds q_t_wicks q_t_sources q_t_changes t_count t_state t_areLoopsAllowed t_ticks t_tickChanges t_sets v1 x2 hc2 s.heap.size) (cwV 1 hts gX2_connect_X2_isHung rfl rfl rfl (by decide +kernel) ⟨Nat.le_of_ble_eq_true rfl, Nat.le_of_ble_eq_true rfl⟩) rfl hl rfl (Nat.le_of_ble_eq_true rfl) dX2_connect_2 ⟨Nat.zero_le _, Nat.zero_le _⟩ hK hN KX_T trivial hP hD hS hA rfl rfl rfl rfl rfl rfl (by decide) rfl rfl (fun H locs hP hD hS => ?_)
  refine jif_eq (tgt := 26) hx hb dX2_connect_5 (by decide) hJ (fun hJ => ?_) (fun hJ => ?_)
  · exact B26  t_sources  H locs  hP hD hS _ (lv_sub hl [] rfl) hJ
  · refine lv_iload_n hx hb dX2_connect_8 rfl (lv_at hl 2 rfl) ?_
    obtain ⟨x9, hc9, hJ⟩ := bnd1_some hJ
    refine jcN_i (As := [.int v2]) (rest := []) (isC := []) (isR := [0, 1]) (isB := [0, 1]) (wr := [(q_t, .inr (2, [.int t_count, .ref q_t_kinds, .ref q_t_wicks, .ref q_t_sources, .ref q_t_changes, .long t_state, .int t_areLoopsAllowed, .int t_ticks, .int t_tickChanges, .int t_sets])), (q_t_sources, .inl (cI, 48, .inl t_sources))]) (ws2 := [(q_t, .inr (2, [.int t_count, .ref q_t_kinds, .ref q_t_wicks, .ref q_t_sources, .ref q_t_changes, .long t_state, .int t_areLoopsAllowed, .int t_ticks, .int t_tickChanges, .int t_sets])), (q_t_sources, .inl (cI, 48, .inl t_sources))]) hF (c_X9_isPlace l D cI cJ cC cL v2 x9 hc9 H.size) ⟨va_cnB 1 hts gX2_connect_X9_isPlace_n61 rfl rfl rfl (hN.1) (hts (.initialized RX9) (by decide +kernel)) (by decide +kernel) ⟨Nat.le_of_ble_eq_true rfl, Nat.le_of_ble_eq_true rfl⟩, hts (.static yX9_isPlace) (by decide +kernel), trivial⟩ rfl hl rfl (Nat.le_of_ble_eq_true rfl) dX2_connect_9 ⟨Nat.zero_le _, Nat.zero_le _⟩ hK hN KX_T trivial hP hD hS hA rfl rfl rfl rfl (by decide) rfl rfl (fun H locs hP hD hS => ?_)
    refine jif_eq (tgt := 26) hx hb dX2_connect_12 (by decide) hJ (fun hJ => ?_) (fun hJ => ?_)
    · exact B26  t_sources  H locs  hP hD hS _ (lv_sub hl [] rfl) hJ
    · refine lv_aload_n hx hb dX2_connect_15 rfl (lv_at hl 0 rfl) ?_
      refine va_get (ci := 2) (v := .ref q_t_sources) (C := RX2) (T := TX2) (N := 10) hx hb hts hin_X2 hown hK hP 0 rfl rfl 3 (by decide) fl_18 (fun _ h9 => h9) rfl dX2_connect_16 ?_
      refine lv_iload_n hx hb dX2_connect_19 rfl (lv_at hl 1 rfl) ?_
      refine lv_iconst (v := (3 : Int32)) hx hb dX2_connect_20 (by decide) ?_
      refine lv_imul hx hb dX2_connect_21 ?_
      refine jt_i hJ (fun x21 hJ => ?_)
      refine lv_iload_n hx hb dX2_connect_22 rfl (lv_at hl 2 rfl) ?_
      refine lv_iadd hx hb dX2_connect_23 ?_
      refine jt_i hJ (fun x23 hJ => ?_)
      refine lv_iload_n hx hb dX2_connect_24 rfl (lv_at hl 3 rfl) ?_
      obtain ⟨hin, hJ⟩ := chk_in hJ
      refine va_iast hx hb hK hP hD hS 1 0 rfl rfl hin dX2_connect_25 (fun H locs hP hD hS => ?_)
      have hP : va_P D vwCl [(q_t, .inr (2, [.int t_count, .ref q_t_kinds, .ref q_t_wicks, .ref q_t_sources, .ref q_t_changes, .long t_state, .int t_areLoopsAllowed, .int t_ticks, .int t_tickChanges, .int t_sets])), (q_t_sources, .inl (cI, 48, .inl (upd t_sources x23.toNatClampNeg v3)))] H := hP
      have hD : va_D A [(q_t, .inr (2, [.int t_count, .ref q_t_kinds, .ref q_t_wicks, .ref q_t_sources, .ref q_t_changes, .long t_state, .int t_areLoopsAllowed, .int t_ticks, .int t_tickChanges, .int t_sets])), (q_t_sources, .inl (cI, 48, .inl (upd t_sources x23.toNatClampNeg v3)))] := hD
      exact B26  (upd t_sources x23.toNatClampNeg v3)  H locs  hP hD hS _ (lv_sub hl [] rfl) hJ

def J_X2_turn_b40 (t_count : Int32) (v1 : Int32) (t_state : Int64) (t_sets : Int32) (t_changes : Nat → Int32) : Option (Int64 × Int32 × (Nat → Int32)) :=
    some (t_state, t_sets, t_changes)
def J_X2_turn (t_count : Int32) (t_state : Int64) (t_sets : Int32) (t_changes : Nat → Int32) (v1 : Int32) : Option (Int64 × Int32 × (Nat → Int32)) :=
    bnd1 (J_X2_isHung t_count v1) fun x2 =>
    if x2 = 0 then (
    J_X2_turn_b40 t_count v1 t_state t_sets t_changes)
    else (
    nm (t_state ^^^ ((1 : Int64) <<< (v1.toInt64 &&& 63))) fun x16 =>
    chk v1 16 (
    nm (t_changes v1.toNatClampNeg) fun x26 =>
    nm (x26 + (1 : Int32)) fun x28 =>
    chk v1 16 (
    nm (t_sets + (1 : Int32)) fun x36 =>
    J_X2_turn_b40 t_count v1 x16 x36 (upd t_changes v1.toNatClampNeg x28))))
abbrev rmX2_turn : Room := { frames := 1, cells := 0, slots := 0, locals := 21 }
set_option maxHeartbeats 4000000 in
set_option maxRecDepth 100000 in
theorem c_X2_turn (l : Launch) (D : va_G) (cI cJ cC cL : ClassId) (q_t q_t_kinds q_t_wicks q_t_sources q_t_changes : Nat) (t_count : Int32) (t_state : Int64) (t_areLoopsAllowed : Int32) (t_ticks : Int32) (t_tickChanges : Int32) (t_sets : Int32) (t_changes : Nat → Int32) (v1 : Int32) (o_t_state : Int64) (o_t_sets : Int32) (o_t_changes : Nat → Int32) (hJ : J_X2_turn t_count t_state t_sets t_changes v1 = some (o_t_state, o_t_sets, o_t_changes)) (sz : Nat) : Met l yX2_turn wsX2_turn rmX2_turn (va_Pc [.ref q_t, .int v1] (jpre XT D (tyL cI cJ cC cL) [(q_t, .inr (2, [.int t_count, .ref q_t_kinds, .ref q_t_wicks, .ref q_t_sources, .ref q_t_changes, .long t_state, .int t_areLoopsAllowed, .int t_ticks, .int t_tickChanges, .int t_sets])), (q_t_changes, .inl (cI, 16, .inl t_changes))] sz)) (va_Qv (fun (_ : Unit) => True) (fun _ t => jpost D (tyL cI cJ cC cL) (va_A [(q_t, .inr (2, [.int t_count, .ref q_t_kinds, .ref q_t_wicks, .ref q_t_sources, .ref q_t_changes, .long t_state, .int t_areLoopsAllowed, .int t_ticks, .int t_tickChanges, .int t_sets])), (q_t_changes, .inl (cI, 16, .inl t_changes))] sz) [(q_t, .inr (2, [.int t_count, .ref q_t_kinds, .ref q_t_wicks, .ref q_t_sources, .ref q_t_changes, .long o_t_state, .int t_areLoopsAllowed, .int t_ticks, .int t_tickChanges, .int o_t_sets])), (q_t_changes, .inl (cI, 16, .inl o_t_changes))] t) (va_A [(q_t, .inr (2, [.int t_count, .ref q_t_kinds, .ref q_t_wicks, .ref q_t_sources, .ref q_t_changes, .long t_state, .int t_areLoopsAllowed, .int t_ticks, .int t_tickChanges, .int t_sets])), (q_t_changes, .inl (cI, 16, .inl t_changes))] sz)) 0 0 (va_A [(q_t, .inr (2, [.int t_count, .ref q_t_kinds, .ref q_t_wicks, .ref q_t_sources, .ref q_t_changes, .long t_state, .int t_areLoopsAllowed, .int t_ticks, .int t_tickChanges, .int t_sets])), (q_t_changes, .inl (cI, 16, .inl t_changes))] sz) := by
  refine jE_v (cc := cX2_turn) (maxL := 2) (own := RX2) (ret := none) (lv0 := [(0, .ref q_t), (1, .int v1)]) (by decide) rfl rfl rfl (Nat.le_of_ble_eq_true rfl) rfl ?_
  intro p e s m args below meth c A Q ls hx hb hml hown hts hK hN hX hA hP hD hS hl hRet
  have hF : CallFix p m c cX2_turn 2 s args wsX2_turn RX2 := ⟨hx, hb, hml, hown, hts⟩
  have fl_21 := hts (.fieldLink RX2 21 "LanternLogic$Lanterns" "changes" "[I") (by decide +kernel)
  have fl_44 := hts (.fieldLink RX2 44 "LanternLogic$Lanterns" "state" "J") (by decide +kernel)
  have fl_54 := hts (.fieldLink RX2 54 "LanternLogic$Lanterns" "sets" "I") (by decide +kernel)
  have hin_X2 : ∀ w ∈ u_ws RX2 TX2 10, w ∈ wsX2_turn := by decide +kernel
  have B40 : ∀ (t_state : Int64) (t_sets : Int32) (t_changes : Nat → Int32) (H : Heap) (locs : List Loc), va_P D vwCl [(q_t, .inr (2, [.int t_count, .ref q_t_kinds, .ref q_t_wicks, .ref q_t_sources, .ref q_t_changes, .long t_state, .int t_areLoopsAllowed, .int t_ticks, .int t_tickChanges, .int t_sets])), (q_t_changes, .inl (cI, 16, .inl t_changes))] H → va_D A [(q_t, .inr (2, [.int t_count, .ref q_t_kinds, .ref q_t_wicks, .ref q_t_sources, .ref q_t_changes, .long t_state, .int t_areLoopsAllowed, .int t_ticks, .int t_tickChanges, .int t_sets])), (q_t_changes, .inl (cI, 16, .inl t_changes))] → va_S A s.heap H locs → ∀ ls : Array Slot, lv_has ls 2 [] → J_X2_turn_b40  t_count v1 t_state t_sets t_changes = some (o_t_state, o_t_sets, o_t_changes) → W p l e rmX2_turn s m args below meth c H locs 0 0 Q (F0 m 40 ls []) := by
    intro t_state t_sets t_changes H locs hP hD hS ls hl hJ
    unfold J_X2_turn_b40 at hJ
    have hJ := Option.some.inj hJ
    obtain ⟨e0, e1, e2⟩ : (t_state) = o_t_state ∧ (t_sets) = o_t_sets ∧ (t_changes) = o_t_changes := ⟨congrArg (fun z => z.1) hJ, congrArg (fun z => z.2.1) hJ, congrArg (fun z => z.2.2) hJ⟩
    exact hRet (by rw [← e0, ← e1, ← e2]; exact hP) (by rw [← e0, ← e1, ← e2]; exact hD) hS dX2_turn_40
  unfold J_X2_turn at hJ
  refine lv_aload_n hx hb dX2_turn_0 rfl (lv_at hl 0 rfl) ?_
  refine lv_iload_n hx hb dX2_turn_1 rfl (lv_at hl 1 rfl) ?_
  obtain ⟨x2, hc2, hJ⟩ := bnd1_some hJ
  refine jcV_i (C := RX2) (T := TX2) (N := 10) (ci := 2) (q0 := 0) (As := [.int v1]) (rest := []) (isC := [0]) (isR := [1]) (isB := [1, 0]) (wr := [(q_t_changes, .inl (cI, 16, .inl t_changes))]) (ws2 := [(q_t, .inr (2, [.int t_count, .ref q_t_kinds, .ref q_t_wicks, .ref q_t_sources, .ref q_t_changes, .long t_state, .int t_areLoopsAllowed, .int t_ticks, .int t_tickChanges, .int t_sets])), (q_t_changes, .inl (cI, 16, .inl t_changes))]) hF (c_X2_isHung l D cI cJ cC cL q_t q_t_kinds q_t_wicks q_t_sources q_t_changes t_count t_state t_areLoopsAllowed t_ticks t_tickChanges t_sets v1 x2 hc2 s.heap.size) (cwV 1 hts gX2_turn_X2_isHung rfl rfl rfl (by decide +kernel) ⟨Nat.le_of_ble_eq_true rfl, Nat.le_of_ble_eq_true rfl⟩) rfl hl rfl (Nat.le_of_ble_eq_true rfl) dX2_turn_2 ⟨Nat.zero_le _, Nat.zero_le _⟩ hK hN KX_T trivial hP hD hS hA rfl rfl rfl rfl rfl rfl (by decide) rfl rfl (fun H locs hP hD hS => ?_)
  refine jif_eq (tgt := 40) hx hb dX2_turn_5 (by decide) hJ (fun hJ => ?_) (fun hJ => ?_)
  · exact B40  t_state t_sets t_changes  H locs  hP hD hS _ (lv_sub hl [] rfl) hJ
  · refine lv_aload_n hx hb dX2_turn_8 rfl (lv_at hl 0 rfl) ?_
    refine lv_dup hx hb dX2_turn_9 rfl ?_
    refine va_get (ci := 2) (v := .long t_state) (C := RX2) (T := TX2) (N := 10) hx hb hts hin_X2 hown hK hP 0 rfl rfl 5 (by decide) fl_44 (fun _ h9 => h9) rfl dX2_turn_10 ?_
    refine lv_lconst (v := (1 : Int64)) hx hb dX2_turn_13 (by decide) ?_
    refine lv_iload_n hx hb dX2_turn_14 rfl (lv_at hl 1 rfl) ?_
    refine lv_lshl (v := (1 : Int64) <<< (v1.toInt64 &&& 63)) hx hb dX2_turn_15 rfl ?_
    refine lv_lxor hx hb dX2_turn_16 ?_
    refine jt_l hJ (fun x16 hJ => ?_)
    refine va_put (ci := 2) (v := .long x16) (ty := .long) (C := RX2) (T := TX2) (N := 10) hx hb hts hin_X2 tyX2 tyX2_ok nmX2 hown hK hP hD hS 0 rfl rfl 5 (by decide) fl_44 (fun _ h9 => h9) rfl (by decide +kernel) rfl rfl (Nat.le_of_ble_eq_true rfl) dX2_turn_17 (fun H locs hP hD hS => ?_)
    have hP : va_P D vwCl [(q_t, .inr (2, [.int t_count, .ref q_t_kinds, .ref q_t_wicks, .ref q_t_sources, .ref q_t_changes, .long x16, .int t_areLoopsAllowed, .int t_ticks, .int t_tickChanges, .int t_sets])), (q_t_changes, .inl (cI, 16, .inl t_changes))] H := hP
    have hD : va_D A [(q_t, .inr (2, [.int t_count, .ref q_t_kinds, .ref q_t_wicks, .ref q_t_sources, .ref q_t_changes, .long x16, .int t_areLoopsAllowed, .int t_ticks, .int t_tickChanges, .int t_sets])), (q_t_changes, .inl (cI, 16, .inl t_changes))] := hD
    refine lv_aload_n hx hb dX2_turn_20 rfl (lv_at hl 0 rfl) ?_
    refine va_get (ci := 2) (v := .ref q_t_changes) (C := RX2) (T := TX2) (N := 10) hx hb hts hin_X2 hown hK hP 0 rfl rfl 4 (by decide) fl_21 (fun _ h9 => h9) rfl dX2_turn_21 ?_
    refine lv_iload_n hx hb dX2_turn_24 rfl (lv_at hl 1 rfl) ?_
    refine lv_dup2_11 hx hb dX2_turn_25 rfl rfl ?_
    obtain ⟨hin, hJ⟩ := chk_in hJ
    refine va_iald hx hb hK hP 1 0 rfl rfl hin dX2_turn_26 ?_
    refine jt_i hJ (fun x26 hJ => ?_)
    refine lv_iconst (v := (1 : Int32)) hx hb dX2_turn_27 (by decide) ?_
    refine lv_iadd hx hb dX2_turn_28 ?_
    refine jt_i hJ (fun x28 hJ => ?_)
    obtain ⟨hin, hJ⟩ := chk_in hJ
    refine va_iast hx hb hK hP hD hS 1 0 rfl rfl hin dX2_turn_29 (fun H locs hP hD hS => ?_)
    have hP : va_P D vwCl [(q_t, .inr (2, [.int t_count, .ref q_t_kinds, .ref q_t_wicks, .ref q_t_sources, .ref q_t_changes, .long x16, .int t_areLoopsAllowed, .int t_ticks, .int t_tickChanges, .int t_sets])), (q_t_changes, .inl (cI, 16, .inl (upd t_changes v1.toNatClampNeg x28)))] H := hP
    have hD : va_D A [(q_t, .inr (2, [.int t_count, .ref q_t_kinds, .ref q_t_wicks, .ref q_t_sources, .ref q_t_changes, .long x16, .int t_areLoopsAllowed, .int t_ticks, .int t_tickChanges, .int t_sets])), (q_t_changes, .inl (cI, 16, .inl (upd t_changes v1.toNatClampNeg x28)))] := hD
    refine lv_aload_n hx hb dX2_turn_30 rfl (lv_at hl 0 rfl) ?_
    refine lv_dup hx hb dX2_turn_31 rfl ?_
    refine va_get (ci := 2) (v := .int t_sets) (C := RX2) (T := TX2) (N := 10) hx hb hts hin_X2 hown hK hP 0 rfl rfl 9 (by decide) fl_54 (fun _ h9 => h9) rfl dX2_turn_32 ?_
    refine lv_iconst (v := (1 : Int32)) hx hb dX2_turn_35 (by decide) ?_
    refine lv_iadd hx hb dX2_turn_36 ?_
    refine jt_i hJ (fun x36 hJ => ?_)
    refine va_put (ci := 2) (v := .int x36) (ty := .int) (C := RX2) (T := TX2) (N := 10) hx hb hts hin_X2 tyX2 tyX2_ok nmX2 hown hK hP hD hS 0 rfl rfl 9 (by decide) fl_54 (fun _ h9 => h9) rfl (by decide +kernel) rfl rfl (Nat.le_of_ble_eq_true rfl) dX2_turn_37 (fun H locs hP hD hS => ?_)
    have hP : va_P D vwCl [(q_t, .inr (2, [.int t_count, .ref q_t_kinds, .ref q_t_wicks, .ref q_t_sources, .ref q_t_changes, .long x16, .int t_areLoopsAllowed, .int t_ticks, .int t_tickChanges, .int x36])), (q_t_changes, .inl (cI, 16, .inl (upd t_changes v1.toNatClampNeg x28)))] H := hP
    have hD : va_D A [(q_t, .inr (2, [.int t_count, .ref q_t_kinds, .ref q_t_wicks, .ref q_t_sources, .ref q_t_changes, .long x16, .int t_areLoopsAllowed, .int t_ticks, .int t_tickChanges, .int x36])), (q_t_changes, .inl (cI, 16, .inl (upd t_changes v1.toNatClampNeg x28)))] := hD
    exact B40  x16 x36 (upd t_changes v1.toNatClampNeg x28)  H locs  hP hD hS _ (lv_sub hl [] rfl) hJ

def J_X2_isFinding_b10 (t_kinds : Nat → Int32) (t_sources : Nat → Int32) (v1 : Int32) (v2 : Int32) : Option (Int32) :=
    chz (0 : Int32) (some ((0 : Int32)))
def J_X2_isFinding_b59 (k20 : Int32 → Int32 → Int32 → Option (Int32)) (t_kinds : Nat → Int32) (t_sources : Nat → Int32) (v1 : Int32) (v2 : Int32) (v3 : Int32) (v4 : Int32) (v5 : Int32) : Option (Int32) :=
    nm (v5 + Int32.ofInt 1) fun x59 =>
    k20 v3 v4 x59
def J_X2_isFinding_b177 (t_kinds : Nat → Int32) (t_sources : Nat → Int32) (v1 : Int32) (v2 : Int32) (s177_0 : Int32) : Option (Int32) :=
    chz s177_0 (some (s177_0))
def J_X2_isFinding_b163 (t_kinds : Nat → Int32) (t_sources : Nat → Int32) (v1 : Int32) (v2 : Int32) (s163_0 : Int32) : Option (Int32) :=
    chz s163_0 (some (s163_0))
def J_X2_isFinding_b149 (t_kinds : Nat → Int32) (t_sources : Nat → Int32) (v1 : Int32) (v2 : Int32) (s149_0 : Int32) : Option (Int32) :=
    chz s149_0 (some (s149_0))
def J_X2_isFinding_b138 (t_kinds : Nat → Int32) (t_sources : Nat → Int32) (v1 : Int32) (v2 : Int32) (s138_0 : Int32) : Option (Int32) :=
    chz s138_0 (some (s138_0))
def J_X2_isFinding_b126 (t_kinds : Nat → Int32) (t_sources : Nat → Int32) (v1 : Int32) (v2 : Int32) (s126_0 : Int32) : Option (Int32) :=
    chz s126_0 (some (s126_0))
def J_X2_isFinding_L20 (t_kinds : Nat → Int32) (t_sources : Nat → Int32) (v1 : Int32) (v2 : Int32) : Nat → Int32 → Int32 → Int32 → Option (Int32)
  | 0, _, _, _ => none
  | nf + 1, v3, v4, v5 =>
    if (3 : Int32) ≤ v5 then (
    if v3 = 0 then (
    chz (0 : Int32) (some ((0 : Int32))))
    else (
    chk v1 16 (
    nm (t_kinds v1.toNatClampNeg) fun x76 =>
    if x76 = (1 : Int32) then (
    if v4 = 0 then (
    J_X2_isFinding_b126 t_kinds t_sources v1 v2 (1 : Int32))
    else (
    J_X2_isFinding_b126 t_kinds t_sources v1 v2 (0 : Int32)))
    else (
    if x76 = (2 : Int32) then (
    if v4 = v3 then (
    J_X2_isFinding_b138 t_kinds t_sources v1 v2 (1 : Int32))
    else (
    J_X2_isFinding_b138 t_kinds t_sources v1 v2 (0 : Int32)))
    else (
    if x76 = (3 : Int32) then (
    if v4 ≤ 0 then (
    J_X2_isFinding_b149 t_kinds t_sources v1 v2 (0 : Int32))
    else (
    J_X2_isFinding_b149 t_kinds t_sources v1 v2 (1 : Int32)))
    else (
    if x76 = (4 : Int32) then (
    nm (v4 &&& (1 : Int32)) fun x153 =>
    if x153 = (1 : Int32) then (
    J_X2_isFinding_b163 t_kinds t_sources v1 v2 (1 : Int32))
    else (
    J_X2_isFinding_b163 t_kinds t_sources v1 v2 (0 : Int32)))
    else (
    if x76 = (5 : Int32) then (
    nm ((2 : Int32) * v4) fun x167 =>
    if x167 ≤ v3 then (
    J_X2_isFinding_b177 t_kinds t_sources v1 v2 (0 : Int32))
    else (
    J_X2_isFinding_b177 t_kinds t_sources v1 v2 (1 : Int32)))
    else (
    if x76 = (6 : Int32) then (
    if v4 ≤ 0 then (
    J_X2_isFinding_b149 t_kinds t_sources v1 v2 (0 : Int32))
    else (
    J_X2_isFinding_b149 t_kinds t_sources v1 v2 (1 : Int32)))
    else (
    chz (0 : Int32) (some ((0 : Int32))))))))))))
    else (
    nm (v1 * (3 : Int32)) fun x32 =>
    nm (x32 + v5) fun x35 =>
    chk x35 48 (
    nm (t_sources x35.toNatClampNeg) fun x36 =>
    if x36 = (-1 : Int32) then (
    J_X2_isFinding_b59 (fun z0 z1 z2 => J_X2_isFinding_L20 t_kinds t_sources v1 v2 nf z0 z1 z2) t_kinds t_sources v1 v2 v3 v4 v5)
    else (
    nm (v3 + Int32.ofInt 1) fun x45 =>
    nm (v2 >>> (x36 &&& 31)) fun x53 =>
    nm (v4 + (x53 &&& (1 : Int32))) fun x56 =>
    J_X2_isFinding_b59 (fun z0 z1 z2 => J_X2_isFinding_L20 t_kinds t_sources v1 v2 nf z0 z1 z2) t_kinds t_sources v1 v2 x45 x56 v5)))
def J_X2_isFinding (t_kinds : Nat → Int32) (t_sources : Nat → Int32) (v1 : Int32) (v2 : Int32) : Option (Int32) :=
    if v1 < 0 then (
    J_X2_isFinding_b10 t_kinds t_sources v1 v2 )
    else (
    if v1 < (16 : Int32) then (
    J_X2_isFinding_L20 t_kinds t_sources v1 v2 FU (0 : Int32) (0 : Int32) (0 : Int32))
    else (
    J_X2_isFinding_b10 t_kinds t_sources v1 v2 ))
abbrev rmX2_isFinding : Room := { frames := 0, cells := 0, slots := 0, locals := 0 }
set_option maxHeartbeats 4000000 in
set_option maxRecDepth 100000 in
theorem c_X2_isFinding (l : Launch) (D : va_G) (cI cJ cC cL : ClassId) (q_t q_t_kinds q_t_wicks q_t_sources q_t_changes : Nat) (t_count : Int32) (t_state : Int64) (t_areLoopsAllowed : Int32) (t_ticks : Int32) (t_tickChanges : Int32) (t_sets : Int32) (t_kinds : Nat → Int32) (t_sources : Nat → Int32) (v1 : Int32) (v2 : Int32) (r : Int32) (hJ : J_X2_isFinding t_kinds t_sources v1 v2 = some (r)) (sz : Nat) : Met l yX2_isFinding wsX2_isFinding rmX2_isFinding (va_Pc [.ref q_t, .int v1, .int v2] (jpre XT D (tyL cI cJ cC cL) [(q_t, .inr (2, [.int t_count, .ref q_t_kinds, .ref q_t_wicks, .ref q_t_sources, .ref q_t_changes, .long t_state, .int t_areLoopsAllowed, .int t_ticks, .int t_tickChanges, .int t_sets])), (q_t_kinds, .inl (cI, 16, .inl t_kinds)), (q_t_sources, .inl (cI, 48, .inl t_sources))] sz)) (va_Qi (fun r' (_ : Unit) => r' = r) (fun _ t => jpost D (tyL cI cJ cC cL) (va_A [(q_t, .inr (2, [.int t_count, .ref q_t_kinds, .ref q_t_wicks, .ref q_t_sources, .ref q_t_changes, .long t_state, .int t_areLoopsAllowed, .int t_ticks, .int t_tickChanges, .int t_sets])), (q_t_kinds, .inl (cI, 16, .inl t_kinds)), (q_t_sources, .inl (cI, 48, .inl t_sources))] sz) [(q_t, .inr (2, [.int t_count, .ref q_t_kinds, .ref q_t_wicks, .ref q_t_sources, .ref q_t_changes, .long t_state, .int t_areLoopsAllowed, .int t_ticks, .int t_tickChanges, .int t_sets])), (q_t_kinds, .inl (cI, 16, .inl t_kinds)), (q_t_sources, .inl (cI, 48, .inl t_sources))] t) (va_A [(q_t, .inr (2, [.int t_count, .ref q_t_kinds, .ref q_t_wicks, .ref q_t_sources, .ref q_t_changes, .long t_state, .int t_areLoopsAllowed, .int t_ticks, .int t_tickChanges, .int t_sets])), (q_t_kinds, .inl (cI, 16, .inl t_kinds)), (q_t_sources, .inl (cI, 48, .inl t_sources))] sz)) 0 0 (va_A [(q_t, .inr (2, [.int t_count, .ref q_t_kinds, .ref q_t_wicks, .ref q_t_sources, .ref q_t_changes, .long t_state, .int t_areLoopsAllowed, .int t_ticks, .int t_tickChanges, .int t_sets])), (q_t_kinds, .inl (cI, 16, .inl t_kinds)), (q_t_sources, .inl (cI, 48, .inl t_sources))] sz) := by
  refine jE_z (cc := cX2_isFinding) (maxL := 7) (own := RX2) (ret := (some .boolean)) (lv0 := [(0, .ref q_t), (1, .int v1), (2, .int v2)]) (by decide) rfl rfl rfl (Nat.le_of_ble_eq_true rfl) rfl ?_
  intro p e s m args below meth c A Q ls hx hb hml hown hts hK hN hX hA hP hD hS hl hRet
  have hF : CallFix p m c cX2_isFinding 7 s args wsX2_isFinding RX2 := ⟨hx, hb, hml, hown, hts⟩
  have fl_9 := hts (.fieldLink RX2 9 "LanternLogic$Lanterns" "kinds" "[I") (by decide +kernel)
  have fl_18 := hts (.fieldLink RX2 18 "LanternLogic$Lanterns" "sources" "[I") (by decide +kernel)
  have hin_X2 : ∀ w ∈ u_ws RX2 TX2 10, w ∈ wsX2_isFinding := by decide +kernel
  have B10 : ∀ (H : Heap) (locs : List Loc), va_P D vwCl [(q_t, .inr (2, [.int t_count, .ref q_t_kinds, .ref q_t_wicks, .ref q_t_sources, .ref q_t_changes, .long t_state, .int t_areLoopsAllowed, .int t_ticks, .int t_tickChanges, .int t_sets])), (q_t_kinds, .inl (cI, 16, .inl t_kinds)), (q_t_sources, .inl (cI, 48, .inl t_sources))] H → va_D A [(q_t, .inr (2, [.int t_count, .ref q_t_kinds, .ref q_t_wicks, .ref q_t_sources, .ref q_t_changes, .long t_state, .int t_areLoopsAllowed, .int t_ticks, .int t_tickChanges, .int t_sets])), (q_t_kinds, .inl (cI, 16, .inl t_kinds)), (q_t_sources, .inl (cI, 48, .inl t_sources))] → va_S A s.heap H locs → ∀ ls : Array Slot, lv_has ls 7 [] → J_X2_isFinding_b10  t_kinds t_sources v1 v2  = some (r) → W p l e rmX2_isFinding s m args below meth c H locs 0 0 Q (F0 m 10 ls []) := by
    intro H locs hP hD hS ls hl hJ
    unfold J_X2_isFinding_b10 at hJ
    refine lv_iconst (v := (0 : Int32)) hx hb dX2_isFinding_10 (by decide) ?_
    obtain ⟨h01, hJ⟩ := chz_ok hJ
    have e0 := Option.some.inj hJ
    exact hRet hP hD hS h01 e0 dX2_isFinding_11
  have B59 : ∀ (k20 : Int32 → Int32 → Int32 → Option (Int32)), (∀ (v3 : Int32) (v4 : Int32) (v5 : Int32) (H : Heap) (locs : List Loc), va_P D vwCl [(q_t, .inr (2, [.int t_count, .ref q_t_kinds, .ref q_t_wicks, .ref q_t_sources, .ref q_t_changes, .long t_state, .int t_areLoopsAllowed, .int t_ticks, .int t_tickChanges, .int t_sets])), (q_t_kinds, .inl (cI, 16, .inl t_kinds)), (q_t_sources, .inl (cI, 48, .inl t_sources))] H → va_D A [(q_t, .inr (2, [.int t_count, .ref q_t_kinds, .ref q_t_wicks, .ref q_t_sources, .ref q_t_changes, .long t_state, .int t_areLoopsAllowed, .int t_ticks, .int t_tickChanges, .int t_sets])), (q_t_kinds, .inl (cI, 16, .inl t_kinds)), (q_t_sources, .inl (cI, 48, .inl t_sources))] → va_S A s.heap H locs → ∀ ls : Array Slot, lv_has ls 7 [(0, .ref q_t), (1, .int v1), (2, .int v2), (3, .int v3), (4, .int v4), (5, .int v5)] → k20 v3 v4 v5 = some (r) → W p l e rmX2_isFinding s m args below meth c H locs 0 0 Q (F0 m 20 ls [])) → ∀ (v3 : Int32) (v4 : Int32) (v5 : Int32) (H : Heap) (locs : List Loc), va_P D vwCl [(q_t, .inr (2, [.int t_count, .ref q_t_kinds, .ref q_t_wicks, .ref q_t_sources, .ref q_t_changes, .long t_state, .int t_areLoopsAllowed, .int t_ticks, .int t_tickChanges, .int t_sets])), (q_t_kinds, .inl (cI, 16, .inl t_kinds)), (q_t_sources, .inl (cI, 48, .inl t_sources))] H → va_D A [(q_t, .inr (2, [.int t_count, .ref q_t_kinds, .ref q_t_wicks, .ref q_t_sources, .ref q_t_changes, .long t_state, .int t_areLoopsAllowed, .int t_ticks, .int t_tickChanges, .int t_sets])), (q_t_kinds, .inl (cI, 16, .inl t_kinds)), (q_t_sources, .inl (cI, 48, .inl t_sources))] → va_S A s.heap H locs → ∀ ls : Array Slot, lv_has ls 7 [(0, .ref q_t), (1, .int v1), (2, .int v2), (3, .int v3), (4, .int v4), (5, .int v5)] → J_X2_isFinding_b59 k20 t_kinds t_sources v1 v2 v3 v4 v5 = some (r) → W p l e rmX2_isFinding s m args below meth c H locs 0 0 Q (F0 m 59 ls []) := by
    intro k20 hk20 v3 v4 v5 H locs hP hD hS ls hl hJ
    unfold J_X2_isFinding_b59 at hJ
    refine jt_iinc hJ (fun x59 ex59 hJ => ?_)
    refine lv_iinc (v := x59) (lv' := [(5, .int x59), (0, .ref q_t), (1, .int v1), (2, .int v2), (3, .int v3), (4, .int v4)]) hx hb dX2_isFinding_59 hl (k := 5) rfl ex59 (by decide) rfl (fun ls hl => ?_)
    refine lv_goto (tgt := 20) hx hb dX2_isFinding_62 (by decide) ?_
    exact hk20 v3 v4 x59  H locs  hP hD hS _ (lv_sub hl [1, 2, 3, 4, 5, 0] rfl) hJ
  have B177 : ∀ (s177_0 : Int32) (H : Heap) (locs : List Loc), va_P D vwCl [(q_t, .inr (2, [.int t_count, .ref q_t_kinds, .ref q_t_wicks, .ref q_t_sources, .ref q_t_changes, .long t_state, .int t_areLoopsAllowed, .int t_ticks, .int t_tickChanges, .int t_sets])), (q_t_kinds, .inl (cI, 16, .inl t_kinds)), (q_t_sources, .inl (cI, 48, .inl t_sources))] H → va_D A [(q_t, .inr (2, [.int t_count, .ref q_t_kinds, .ref q_t_wicks, .ref q_t_sources, .ref q_t_changes, .long t_state, .int t_areLoopsAllowed, .int t_ticks, .int t_tickChanges, .int t_sets])), (q_t_kinds, .inl (cI, 16, .inl t_kinds)), (q_t_sources, .inl (cI, 48, .inl t_sources))] → va_S A s.heap H locs → ∀ ls : Array Slot, lv_has ls 7 [] → J_X2_isFinding_b177  t_kinds t_sources v1 v2 s177_0 = some (r) → W p l e rmX2_isFinding s m args below meth c H locs 0 0 Q (F0 m 177 ls [.int s177_0]) := by
    intro s177_0 H locs hP hD hS ls hl hJ
    unfold J_X2_isFinding_b177 at hJ
    obtain ⟨h01, hJ⟩ := chz_ok hJ
    have e0 := Option.some.inj hJ
    exact hRet hP hD hS h01 e0 dX2_isFinding_177
  have B163 : ∀ (s163_0 : Int32) (H : Heap) (locs : List Loc), va_P D vwCl [(q_t, .inr (2, [.int t_count, .ref q_t_kinds, .ref q_t_wicks, .ref q_t_sources, .ref q_t_changes, .long t_state, .int t_areLoopsAllowed, .int t_ticks, .int t_tickChanges, .int t_sets])), (q_t_kinds, .inl (cI, 16, .inl t_kinds)), (q_t_sources, .inl (cI, 48, .inl t_sources))] H → va_D A [(q_t, .inr (2, [.int t_count, .ref q_t_kinds, .ref q_t_wicks, .ref q_t_sources, .ref q_t_changes, .long t_state, .int t_areLoopsAllowed, .int t_ticks, .int t_tickChanges, .int t_sets])), (q_t_kinds, .inl (cI, 16, .inl t_kinds)), (q_t_sources, .inl (cI, 48, .inl t_sources))] → va_S A s.heap H locs → ∀ ls : Array Slot, lv_has ls 7 [] → J_X2_isFinding_b163  t_kinds t_sources v1 v2 s163_0 = some (r) → W p l e rmX2_isFinding s m args below meth c H locs 0 0 Q (F0 m 163 ls [.int s163_0]) := by
    intro s163_0 H locs hP hD hS ls hl hJ
    unfold J_X2_isFinding_b163 at hJ
    obtain ⟨h01, hJ⟩ := chz_ok hJ
    have e0 := Option.some.inj hJ
    exact hRet hP hD hS h01 e0 dX2_isFinding_163
  have B149 : ∀ (s149_0 : Int32) (H : Heap) (locs : List Loc), va_P D vwCl [(q_t, .inr (2, [.int t_count, .ref q_t_kinds, .ref q_t_wicks, .ref q_t_sources, .ref q_t_changes, .long t_state, .int t_areLoopsAllowed, .int t_ticks, .int t_tickChanges, .int t_sets])), (q_t_kinds, .inl (cI, 16, .inl t_kinds)), (q_t_sources, .inl (cI, 48, .inl t_sources))] H → va_D A [(q_t, .inr (2, [.int t_count, .ref q_t_kinds, .ref q_t_wicks, .ref q_t_sources, .ref q_t_changes, .long t_state, .int t_areLoopsAllowed, .int t_ticks, .int t_tickChanges, .int t_sets])), (q_t_kinds, .inl (cI, 16, .inl t_kinds)), (q_t_sources, .inl (cI, 48, .inl t_sources))] → va_S A s.heap H locs → ∀ ls : Array Slot, lv_has ls 7 [] → J_X2_isFinding_b149  t_kinds t_sources v1 v2 s149_0 = some (r) → W p l e rmX2_isFinding s m args below meth c H locs 0 0 Q (F0 m 149 ls [.int s149_0]) := by
    intro s149_0 H locs hP hD hS ls hl hJ
    unfold J_X2_isFinding_b149 at hJ
    obtain ⟨h01, hJ⟩ := chz_ok hJ
    have e0 := Option.some.inj hJ
    exact hRet hP hD hS h01 e0 dX2_isFinding_149
  have B138 : ∀ (s138_0 : Int32) (H : Heap) (locs : List Loc), va_P D vwCl [(q_t, .inr (2, [.int t_count, .ref q_t_kinds, .ref q_t_wicks, .ref q_t_sources, .ref q_t_changes, .long t_state, .int t_areLoopsAllowed, .int t_ticks, .int t_tickChanges, .int t_sets])), (q_t_kinds, .inl (cI, 16, .inl t_kinds)), (q_t_sources, .inl (cI, 48, .inl t_sources))] H → va_D A [(q_t, .inr (2, [.int t_count, .ref q_t_kinds, .ref q_t_wicks, .ref q_t_sources, .ref q_t_changes, .long t_state, .int t_areLoopsAllowed, .int t_ticks, .int t_tickChanges, .int t_sets])), (q_t_kinds, .inl (cI, 16, .inl t_kinds)), (q_t_sources, .inl (cI, 48, .inl t_sources))] → va_S A s.heap H locs → ∀ ls : Array Slot, lv_has ls 7 [] → J_X2_isFinding_b138  t_kinds t_sources v1 v2 s138_0 = some (r) → W p l e rmX2_isFinding s m args below meth c H locs 0 0 Q (F0 m 138 ls [.int s138_0]) := by
    intro s138_0 H locs hP hD hS ls hl hJ
    unfold J_X2_isFinding_b138 at hJ
    obtain ⟨h01, hJ⟩ := chz_ok hJ
    have e0 := Option.some.inj hJ
    exact hRet hP hD hS h01 e0 dX2_isFinding_138
  have B126 : ∀ (s126_0 : Int32) (H : Heap) (locs : List Loc), va_P D vwCl [(q_t, .inr (2, [.int t_count, .ref q_t_kinds, .ref q_t_wicks, .ref q_t_sources, .ref q_t_changes, .long t_state, .int t_areLoopsAllowed, .int t_ticks, .int t_tickChanges, .int t_sets])), (q_t_kinds, .inl (cI, 16, .inl t_kinds)), (q_t_sources, .inl (cI, 48, .inl t_sources))] H → va_D A [(q_t, .inr (2, [.int t_count, .ref q_t_kinds, .ref q_t_wicks, .ref q_t_sources, .ref q_t_changes, .long t_state, .int t_areLoopsAllowed, .int t_ticks, .int t_tickChanges, .int t_sets])), (q_t_kinds, .inl (cI, 16, .inl t_kinds)), (q_t_sources, .inl (cI, 48, .inl t_sources))] → va_S A s.heap H locs → ∀ ls : Array Slot, lv_has ls 7 [] → J_X2_isFinding_b126  t_kinds t_sources v1 v2 s126_0 = some (r) → W p l e rmX2_isFinding s m args below meth c H locs 0 0 Q (F0 m 126 ls [.int s126_0]) := by
    intro s126_0 H locs hP hD hS ls hl hJ
    unfold J_X2_isFinding_b126 at hJ
    obtain ⟨h01, hJ⟩ := chz_ok hJ
    have e0 := Option.some.inj hJ
    exact hRet hP hD hS h01 e0 dX2_isFinding_126
  have L20 : ∀ (nf : Nat), ∀ (v3 : Int32) (v4 : Int32) (v5 : Int32) (H : Heap) (locs : List Loc), va_P D vwCl [(q_t, .inr (2, [.int t_count, .ref q_t_kinds, .ref q_t_wicks, .ref q_t_sources, .ref q_t_changes, .long t_state, .int t_areLoopsAllowed, .int t_ticks, .int t_tickChanges, .int t_sets])), (q_t_kinds, .inl (cI, 16, .inl t_kinds)), (q_t_sources, .inl (cI, 48, .inl t_sources))] H → va_D A [(q_t, .inr (2, [.int t_count, .ref q_t_kinds, .ref q_t_wicks, .ref q_t_sources, .ref q_t_changes, .long t_state, .int t_areLoopsAllowed, .int t_ticks, .int t_tickChanges, .int t_sets])), (q_t_kinds, .inl (cI, 16, .inl t_kinds)), (q_t_sources, .inl (cI, 48, .inl t_sources))] → va_S A s.heap H locs → ∀ ls : Array Slot, lv_has ls 7 [(0, .ref q_t), (1, .int v1), (2, .int v2), (3, .int v3), (4, .int v4), (5, .int v5)] → J_X2_isFinding_L20  t_kinds t_sources v1 v2 nf v3 v4 v5 = some (r) → W p l e rmX2_isFinding s m args below meth c H locs 0 0 Q (F0 m 20 ls []) := by
    intro nf
    induction nf with
    | zero =>
      intro v3 v4 v5 H locs hP hD hS ls hl hJ
      rw [J_X2_isFinding_L20] at hJ
      cases hJ
    | succ nf ih =>
      intro v3 v4 v5 H locs hP hD hS ls hl hJ
      rw [J_X2_isFinding_L20] at hJ
      refine lv_iload hx hb dX2_isFinding_20 (lv_at hl 5 rfl) ?_
      refine lv_iconst (v := (3 : Int32)) hx hb dX2_isFinding_22 (by decide) ?_
      refine jif_icmp_ge (tgt := 65) hx hb dX2_isFinding_23 (by decide) hJ (fun hJ => ?_) (fun hJ => ?_)
      · refine lv_iload_n hx hb dX2_isFinding_65 rfl (lv_at hl 3 rfl) ?_
        refine jif_ne (tgt := 71) hx hb dX2_isFinding_66 (by decide) hJ (fun hJ => ?_) (fun hJ => ?_)
        · refine lv_aload_n hx hb dX2_isFinding_71 rfl (lv_at hl 0 rfl) ?_
          refine va_get (ci := 2) (v := .ref q_t_kinds) (C := RX2) (T := TX2) (N := 10) hx hb hts hin_X2 hown hK hP 0 rfl rfl 1 (by decide) fl_9 (fun _ h9 => h9) rfl dX2_isFinding_72 ?_
          refine lv_iload_n hx hb dX2_isFinding_75 rfl (lv_at hl 1 rfl) ?_
          obtain ⟨hin, hJ⟩ := chk_in hJ
          refine va_iald hx hb hK hP 1 0 rfl rfl hin dX2_isFinding_76 ?_
          refine jt_i hJ (fun x76 hJ => ?_)
          by_cases hsw : x76 = (1 : Int32)
          · have hJ := if_some_t hJ hsw
            refine lv_tableIn (off := 39) (tgt := 116) hx hb dX2_isFinding_77 (by rw [hsw]; decide) (by rw [hsw]; decide) (by rw [hsw]; rfl) (by decide) ?_
            refine lv_iload hx hb dX2_isFinding_116 (lv_at hl 4 rfl) ?_
            refine jif_ne (tgt := 125) hx hb dX2_isFinding_118 (by decide) hJ (fun hJ => ?_) (fun hJ => ?_)
            · refine lv_iconst (v := (0 : Int32)) hx hb dX2_isFinding_125 (by decide) ?_
              exact B126  (0 : Int32)  H locs  hP hD hS _ (lv_sub hl [] rfl) hJ
            · refine lv_iconst (v := (1 : Int32)) hx hb dX2_isFinding_121 (by decide) ?_
              refine lv_goto (tgt := 126) hx hb dX2_isFinding_122 (by decide) ?_
              exact B126  (1 : Int32)  H locs  hP hD hS _ (lv_sub hl [] rfl) hJ
          have hJ := if_some_f hJ hsw
          have hs0 := jsw_ne hsw (k := 1) (by decide)
          clear hsw
          by_cases hsw : x76 = (2 : Int32)
          · have hJ := if_some_t hJ hsw
            refine lv_tableIn (off := 50) (tgt := 127) hx hb dX2_isFinding_77 (by rw [hsw]; decide) (by rw [hsw]; decide) (by rw [hsw]; rfl) (by decide) ?_
            refine lv_iload hx hb dX2_isFinding_127 (lv_at hl 4 rfl) ?_
            refine lv_iload_n hx hb dX2_isFinding_129 rfl (lv_at hl 3 rfl) ?_
            refine jif_icmp_ne (tgt := 137) hx hb dX2_isFinding_130 (by decide) hJ (fun hJ => ?_) (fun hJ => ?_)
            · refine lv_iconst (v := (0 : Int32)) hx hb dX2_isFinding_137 (by decide) ?_
              exact B138  (0 : Int32)  H locs  hP hD hS _ (lv_sub hl [] rfl) hJ
            · refine lv_iconst (v := (1 : Int32)) hx hb dX2_isFinding_133 (by decide) ?_
              refine lv_goto (tgt := 138) hx hb dX2_isFinding_134 (by decide) ?_
              exact B138  (1 : Int32)  H locs  hP hD hS _ (lv_sub hl [] rfl) hJ
          have hJ := if_some_f hJ hsw
          have hs1 := jsw_ne hsw (k := 2) (by decide)
          clear hsw
          by_cases hsw : x76 = (3 : Int32)
          · have hJ := if_some_t hJ hsw
            refine lv_tableIn (off := 62) (tgt := 139) hx hb dX2_isFinding_77 (by rw [hsw]; decide) (by rw [hsw]; decide) (by rw [hsw]; rfl) (by decide) ?_
            refine lv_iload hx hb dX2_isFinding_139 (lv_at hl 4 rfl) ?_
            refine jif_le (tgt := 148) hx hb dX2_isFinding_141 (by decide) hJ (fun hJ => ?_) (fun hJ => ?_)
            · refine lv_iconst (v := (0 : Int32)) hx hb dX2_isFinding_148 (by decide) ?_
              exact B149  (0 : Int32)  H locs  hP hD hS _ (lv_sub hl [] rfl) hJ
            · refine lv_iconst (v := (1 : Int32)) hx hb dX2_isFinding_144 (by decide) ?_
              refine lv_goto (tgt := 149) hx hb dX2_isFinding_145 (by decide) ?_
              exact B149  (1 : Int32)  H locs  hP hD hS _ (lv_sub hl [] rfl) hJ
          have hJ := if_some_f hJ hsw
          have hs2 := jsw_ne hsw (k := 3) (by decide)
          clear hsw
          by_cases hsw : x76 = (4 : Int32)
          · have hJ := if_some_t hJ hsw
            refine lv_tableIn (off := 73) (tgt := 150) hx hb dX2_isFinding_77 (by rw [hsw]; decide) (by rw [hsw]; decide) (by rw [hsw]; rfl) (by decide) ?_
            refine lv_iload hx hb dX2_isFinding_150 (lv_at hl 4 rfl) ?_
            refine lv_iconst (v := (1 : Int32)) hx hb dX2_isFinding_152 (by decide) ?_
            refine lv_iand hx hb dX2_isFinding_153 ?_
            refine jt_i hJ (fun x153 hJ => ?_)
            refine lv_iconst (v := (1 : Int32)) hx hb dX2_isFinding_154 (by decide) ?_
            refine jif_icmp_ne (tgt := 162) hx hb dX2_isFinding_155 (by decide) hJ (fun hJ => ?_) (fun hJ => ?_)
            · refine lv_iconst (v := (0 : Int32)) hx hb dX2_isFinding_162 (by decide) ?_
              exact B163  (0 : Int32)  H locs  hP hD hS _ (lv_sub hl [] rfl) hJ
            · refine lv_iconst (v := (1 : Int32)) hx hb dX2_isFinding_158 (by decide) ?_
              refine lv_goto (tgt := 163) hx hb dX2_isFinding_159 (by decide) ?_
              exact B163  (1 : Int32)  H locs  hP hD hS _ (lv_sub hl [] rfl) hJ
          have hJ := if_some_f hJ hsw
          have hs3 := jsw_ne hsw (k := 4) (by decide)
          clear hsw
          by_cases hsw : x76 = (5 : Int32)
          · have hJ := if_some_t hJ hsw
            refine lv_tableIn (off := 87) (tgt := 164) hx hb dX2_isFinding_77 (by rw [hsw]; decide) (by rw [hsw]; decide) (by rw [hsw]; rfl) (by decide) ?_
            refine lv_iconst (v := (2 : Int32)) hx hb dX2_isFinding_164 (by decide) ?_
            refine lv_iload hx hb dX2_isFinding_165 (lv_at hl 4 rfl) ?_
            refine lv_imul hx hb dX2_isFinding_167 ?_
            refine jt_i hJ (fun x167 hJ => ?_)
            refine lv_iload_n hx hb dX2_isFinding_168 rfl (lv_at hl 3 rfl) ?_
            refine jif_icmp_le (tgt := 176) hx hb dX2_isFinding_169 (by decide) hJ (fun hJ => ?_) (fun hJ => ?_)
            · refine lv_iconst (v := (0 : Int32)) hx hb dX2_isFinding_176 (by decide) ?_
              exact B177  (0 : Int32)  H locs  hP hD hS _ (lv_sub hl [] rfl) hJ
            · refine lv_iconst (v := (1 : Int32)) hx hb dX2_isFinding_172 (by decide) ?_
              refine lv_goto (tgt := 177) hx hb dX2_isFinding_173 (by decide) ?_
              exact B177  (1 : Int32)  H locs  hP hD hS _ (lv_sub hl [] rfl) hJ
          have hJ := if_some_f hJ hsw
          have hs4 := jsw_ne hsw (k := 5) (by decide)
          clear hsw
          by_cases hsw : x76 = (6 : Int32)
          · have hJ := if_some_t hJ hsw
            refine lv_tableIn (off := 62) (tgt := 139) hx hb dX2_isFinding_77 (by rw [hsw]; decide) (by rw [hsw]; decide) (by rw [hsw]; rfl) (by decide) ?_
            refine lv_iload hx hb dX2_isFinding_139 (lv_at hl 4 rfl) ?_
            refine jif_le (tgt := 148) hx hb dX2_isFinding_141 (by decide) hJ (fun hJ => ?_) (fun hJ => ?_)
            · refine lv_iconst (v := (0 : Int32)) hx hb dX2_isFinding_148 (by decide) ?_
              exact B149  (0 : Int32)  H locs  hP hD hS _ (lv_sub hl [] rfl) hJ
            · refine lv_iconst (v := (1 : Int32)) hx hb dX2_isFinding_144 (by decide) ?_
              refine lv_goto (tgt := 149) hx hb dX2_isFinding_145 (by decide) ?_
              exact B149  (1 : Int32)  H locs  hP hD hS _ (lv_sub hl [] rfl) hJ
          have hJ := if_some_f hJ hsw
          have hs5 := jsw_ne hsw (k := 6) (by decide)
          clear hsw
          refine lv_tableOut (tgt := 178) hx hb dX2_isFinding_77 (by omega) (by decide) ?_
          refine lv_iconst (v := (0 : Int32)) hx hb dX2_isFinding_178 (by decide) ?_
          obtain ⟨h01, hJ⟩ := chz_ok hJ
          have e0 := Option.some.inj hJ
          exact hRet hP hD hS h01 e0 dX2_isFinding_179
        · refine lv_iconst (v := (0 : Int32)) hx hb dX2_isFinding_69 (by decide) ?_
          obtain ⟨h01, hJ⟩ := chz_ok hJ
          have e0 := Option.some.inj hJ
          exact hRet hP hD hS h01 e0 dX2_isFinding_70
      · refine lv_aload_n hx hb dX2_isFinding_26 rfl (lv_at hl 0 rfl) ?_
        refine va_get (ci := 2) (v := .ref q_t_sources) (C := RX2) (T := TX2) (N := 10) hx hb hts hin_X2 hown hK hP 0 rfl rfl 3 (by decide) fl_18 (fun _ h9 => h9) rfl dX2_isFinding_27 ?_
        refine lv_iload_n hx hb dX2_isFinding_30 rfl (lv_at hl 1 rfl) ?_
        refine lv_iconst (v := (3 : Int32)) hx hb dX2_isFinding_31 (by decide) ?_
        refine lv_imul hx hb dX2_isFinding_32 ?_
        refine jt_i hJ (fun x32 hJ => ?_)
        refine lv_iload hx hb dX2_isFinding_33 (lv_at hl 5 rfl) ?_
        refine lv_iadd hx hb dX2_isFinding_35 ?_
        refine jt_i hJ (fun x35 hJ => ?_)
        obtain ⟨hin, hJ⟩ := chk_in hJ
        refine va_iald hx hb hK hP 2 0 rfl rfl hin dX2_isFinding_36 ?_
        refine jt_i hJ (fun x36 hJ => ?_)
        refine lv_istore (lv' := [(6, .int x36), (0, .ref q_t), (1, .int v1), (2, .int v2), (3, .int v3), (4, .int v4), (5, .int v5)]) hx hb dX2_isFinding_37 hl (by decide) rfl (fun ls hl => ?_)
        refine lv_iload hx hb dX2_isFinding_39 (lv_at hl 0 rfl) ?_
        refine lv_iconst (v := (-1 : Int32)) hx hb dX2_isFinding_41 (by decide) ?_
        refine jif_icmp_eq (tgt := 59) hx hb dX2_isFinding_42 (by decide) hJ (fun hJ => ?_) (fun hJ => ?_)
        · exact B59 (fun z0 z1 z2 => J_X2_isFinding_L20 t_kinds t_sources v1 v2 nf z0 z1 z2) ih v3 v4 v5  H locs  hP hD hS _ (lv_sub hl [1, 2, 3, 4, 5, 6] rfl) hJ
        · refine jt_iinc hJ (fun x45 ex45 hJ => ?_)
          refine lv_iinc (v := x45) (lv' := [(3, .int x45), (6, .int x36), (0, .ref q_t), (1, .int v1), (2, .int v2), (4, .int v4), (5, .int v5)]) hx hb dX2_isFinding_45 hl (k := 4) rfl ex45 (by decide) rfl (fun ls hl => ?_)
          refine lv_iload hx hb dX2_isFinding_48 (lv_at hl 5 rfl) ?_
          refine lv_iload_n hx hb dX2_isFinding_50 rfl (lv_at hl 4 rfl) ?_
          refine lv_iload hx hb dX2_isFinding_51 (lv_at hl 1 rfl) ?_
          refine lv_ishr hx hb dX2_isFinding_53 ?_
          refine jt_i hJ (fun x53 hJ => ?_)
          refine lv_iconst (v := (1 : Int32)) hx hb dX2_isFinding_54 (by decide) ?_
          refine lv_iand hx hb dX2_isFinding_55 ?_
          refine lv_iadd hx hb dX2_isFinding_56 ?_
          refine jt_i hJ (fun x56 hJ => ?_)
          refine lv_istore (lv' := [(4, .int x56), (3, .int x45), (6, .int x36), (0, .ref q_t), (1, .int v1), (2, .int v2), (5, .int v5)]) hx hb dX2_isFinding_57 hl (by decide) rfl (fun ls hl => ?_)
          exact B59 (fun z0 z1 z2 => J_X2_isFinding_L20 t_kinds t_sources v1 v2 nf z0 z1 z2) ih x45 x56 v5  H locs  hP hD hS _ (lv_sub hl [3, 4, 5, 1, 0, 6] rfl) hJ
  unfold J_X2_isFinding at hJ
  refine lv_iload_n hx hb dX2_isFinding_0 rfl (lv_at hl 1 rfl) ?_
  refine jif_lt (tgt := 10) hx hb dX2_isFinding_1 (by decide) hJ (fun hJ => ?_) (fun hJ => ?_)
  · exact B10    s.heap []  hP hD hS _ (lv_sub hl [] rfl) hJ
  · refine lv_iload_n hx hb dX2_isFinding_4 rfl (lv_at hl 1 rfl) ?_
    refine lv_bipush (v := (16 : Int32)) hx hb dX2_isFinding_5 (by decide) ?_
    refine jif_icmp_lt (tgt := 12) hx hb dX2_isFinding_7 (by decide) hJ (fun hJ => ?_) (fun hJ => ?_)
    · refine lv_iconst (v := (0 : Int32)) hx hb dX2_isFinding_12 (by decide) ?_
      refine lv_istore_n (lv' := [(3, .int (0 : Int32)), (0, .ref q_t), (1, .int v1), (2, .int v2)]) hx hb dX2_isFinding_13 rfl hl (by decide) rfl (fun ls hl => ?_)
      refine lv_iconst (v := (0 : Int32)) hx hb dX2_isFinding_14 (by decide) ?_
      refine lv_istore (lv' := [(4, .int (0 : Int32)), (3, .int (0 : Int32)), (0, .ref q_t), (1, .int v1), (2, .int v2)]) hx hb dX2_isFinding_15 hl (by decide) rfl (fun ls hl => ?_)
      refine lv_iconst (v := (0 : Int32)) hx hb dX2_isFinding_17 (by decide) ?_
      refine lv_istore (lv' := [(5, .int (0 : Int32)), (4, .int (0 : Int32)), (3, .int (0 : Int32)), (0, .ref q_t), (1, .int v1), (2, .int v2)]) hx hb dX2_isFinding_18 hl (by decide) rfl (fun ls hl => ?_)
      exact L20  FU (0 : Int32) (0 : Int32) (0 : Int32)  s.heap []  hP hD hS _ (lv_sub hl [3, 4, 5, 2, 1, 0] rfl) hJ
    · exact B10    s.heap []  hP hD hS _ (lv_sub hl [] rfl) hJ

def J_X2_glowIn (v0 : Int64) : Option (Int32) :=
    some ((v0 &&& (65535 : Int64)).toInt32)
abbrev rmX2_glowIn : Room := { frames := 0, cells := 0, slots := 0, locals := 0 }
set_option maxHeartbeats 4000000 in
set_option maxRecDepth 100000 in
theorem c_X2_glowIn (l : Launch) (D : va_G) (cI cJ cC cL : ClassId) (v0 : Int64) (r : Int32) (hJ : J_X2_glowIn v0 = some (r)) (sz : Nat) : Met l yX2_glowIn wsX2_glowIn rmX2_glowIn (va_Pc [.long v0] (jpre XT D (tyL cI cJ cC cL) [] sz)) (va_Qi (fun r' (_ : Unit) => r' = r) (fun _ t => jpost D (tyL cI cJ cC cL) (va_A [] sz) [] t) (va_A [] sz)) 0 0 (va_A [] sz) := by
  refine jE_i (cc := cX2_glowIn) (maxL := 2) (own := RX2) (ret := (some .int)) (lv0 := [(0, .long v0)]) (by decide) rfl rfl rfl (Nat.le_of_ble_eq_true rfl) rfl ?_
  intro p e s m args below meth c A Q ls hx hb hml hown hts hK hN hX hA hP hD hS hl hRet
  have hF : CallFix p m c cX2_glowIn 2 s args wsX2_glowIn RX2 := ⟨hx, hb, hml, hown, hts⟩
  unfold J_X2_glowIn at hJ
  refine lv_lload_n hx hb dX2_glowIn_0 rfl (lv_at hl 0 rfl) ?_
  refine lv_ldc2 (v := (65535 : Int64)) hx hb hown (hts (.constantLong RX2 86 (65535 : Int64)) (by decide +kernel)) dX2_glowIn_1 ?_
  refine lv_land hx hb dX2_glowIn_4 ?_
  refine lv_l2i (v := (v0 &&& (65535 : Int64)).toInt32) hx hb dX2_glowIn_5 rfl ?_
  have e0 := Option.some.inj hJ
  exact hRet hP hD hS e0 dX2_glowIn_6

def J_X2_foundIn (v0 : Int64) (v2 : Int32) : Option (Int32) :=
    nm ((v0.toUInt64 >>> (((16 : Int32) + ((3 : Int32) * v2)).toInt64.toUInt64 &&& Int64.toUInt64 63)).toInt64) fun x7 =>
    some ((x7 &&& (7 : Int64)).toInt32)
abbrev rmX2_foundIn : Room := { frames := 0, cells := 0, slots := 0, locals := 0 }
set_option maxHeartbeats 4000000 in
set_option maxRecDepth 100000 in
theorem c_X2_foundIn (l : Launch) (D : va_G) (cI cJ cC cL : ClassId) (v0 : Int64) (v2 : Int32) (r : Int32) (hJ : J_X2_foundIn v0 v2 = some (r)) (sz : Nat) : Met l yX2_foundIn wsX2_foundIn rmX2_foundIn (va_Pc [.long v0, .int v2] (jpre XT D (tyL cI cJ cC cL) [] sz)) (va_Qi (fun r' (_ : Unit) => r' = r) (fun _ t => jpost D (tyL cI cJ cC cL) (va_A [] sz) [] t) (va_A [] sz)) 0 0 (va_A [] sz) := by
  refine jE_i (cc := cX2_foundIn) (maxL := 3) (own := RX2) (ret := (some .int)) (lv0 := [(0, .long v0), (2, .int v2)]) (by decide) rfl rfl rfl (Nat.le_of_ble_eq_true rfl) rfl ?_
  intro p e s m args below meth c A Q ls hx hb hml hown hts hK hN hX hA hP hD hS hl hRet
  have hF : CallFix p m c cX2_foundIn 3 s args wsX2_foundIn RX2 := ⟨hx, hb, hml, hown, hts⟩
  unfold J_X2_foundIn at hJ
  refine lv_lload_n hx hb dX2_foundIn_0 rfl (lv_at hl 0 rfl) ?_
  refine lv_bipush (v := (16 : Int32)) hx hb dX2_foundIn_1 (by decide) ?_
  refine lv_iconst (v := (3 : Int32)) hx hb dX2_foundIn_3 (by decide) ?_
  refine lv_iload_n hx hb dX2_foundIn_4 rfl (lv_at hl 1 rfl) ?_
  refine lv_imul hx hb dX2_foundIn_5 ?_
  refine lv_iadd hx hb dX2_foundIn_6 ?_
  refine lv_lushr (v := (v0.toUInt64 >>> (((16 : Int32) + ((3 : Int32) * v2)).toInt64.toUInt64 &&& Int64.toUInt64 63)).toInt64) hx hb dX2_foundIn_7 rfl ?_
  refine jt_l hJ (fun x7 hJ => ?_)
  refine lv_ldc2 (v := (7 : Int64)) hx hb hown (hts (.constantLong RX2 88 (7 : Int64)) (by decide +kernel)) dX2_foundIn_8 ?_
  refine lv_land hx hb dX2_foundIn_11 ?_
  refine lv_l2i (v := (x7 &&& (7 : Int64)).toInt32) hx hb dX2_foundIn_12 rfl ?_
  have e0 := Option.some.inj hJ
  exact hRet hP hD hS e0 dX2_foundIn_13

def J_X2_glow (t_state : Int64) : Option (Int32) :=
    bnd1 (J_X2_glowIn t_state) fun x4 =>
    some (x4)
abbrev rmX2_glow : Room := { frames := 1, cells := 0, slots := 0, locals := 21 }
set_option maxHeartbeats 4000000 in
set_option maxRecDepth 100000 in
theorem c_X2_glow (l : Launch) (D : va_G) (cI cJ cC cL : ClassId) (q_t q_t_kinds q_t_wicks q_t_sources q_t_changes : Nat) (t_count : Int32) (t_state : Int64) (t_areLoopsAllowed : Int32) (t_ticks : Int32) (t_tickChanges : Int32) (t_sets : Int32) (r : Int32) (hJ : J_X2_glow t_state = some (r)) (sz : Nat) : Met l yX2_glow wsX2_glow rmX2_glow (va_Pc [.ref q_t] (jpre XT D (tyL cI cJ cC cL) [(q_t, .inr (2, [.int t_count, .ref q_t_kinds, .ref q_t_wicks, .ref q_t_sources, .ref q_t_changes, .long t_state, .int t_areLoopsAllowed, .int t_ticks, .int t_tickChanges, .int t_sets]))] sz)) (va_Qi (fun r' (_ : Unit) => r' = r) (fun _ t => jpost D (tyL cI cJ cC cL) (va_A [(q_t, .inr (2, [.int t_count, .ref q_t_kinds, .ref q_t_wicks, .ref q_t_sources, .ref q_t_changes, .long t_state, .int t_areLoopsAllowed, .int t_ticks, .int t_tickChanges, .int t_sets]))] sz) [(q_t, .inr (2, [.int t_count, .ref q_t_kinds, .ref q_t_wicks, .ref q_t_sources, .ref q_t_changes, .long t_state, .int t_areLoopsAllowed, .int t_ticks, .int t_tickChanges, .int t_sets]))] t) (va_A [(q_t, .inr (2, [.int t_count, .ref q_t_kinds, .ref q_t_wicks, .ref q_t_sources, .ref q_t_changes, .long t_state, .int t_areLoopsAllowed, .int t_ticks, .int t_tickChanges, .int t_sets]))] sz)) 0 0 (va_A [(q_t, .inr (2, [.int t_count, .ref q_t_kinds, .ref q_t_wicks, .ref q_t_sources, .ref q_t_changes, .long t_state, .int t_areLoopsAllowed, .int t_ticks, .int t_tickChanges, .int t_sets]))] sz) := by
  refine jE_i (cc := cX2_glow) (maxL := 1) (own := RX2) (ret := (some .int)) (lv0 := [(0, .ref q_t)]) (by decide) rfl rfl rfl (Nat.le_of_ble_eq_true rfl) rfl ?_
  intro p e s m args below meth c A Q ls hx hb hml hown hts hK hN hX hA hP hD hS hl hRet
  have hF : CallFix p m c cX2_glow 1 s args wsX2_glow RX2 := ⟨hx, hb, hml, hown, hts⟩
  have fl_44 := hts (.fieldLink RX2 44 "LanternLogic$Lanterns" "state" "J") (by decide +kernel)
  have hin_X2 : ∀ w ∈ u_ws RX2 TX2 10, w ∈ wsX2_glow := by decide +kernel
  unfold J_X2_glow at hJ
  refine lv_aload_n hx hb dX2_glow_0 rfl (lv_at hl 0 rfl) ?_
  refine va_get (ci := 2) (v := .long t_state) (C := RX2) (T := TX2) (N := 10) hx hb hts hin_X2 hown hK hP 0 rfl rfl 5 (by decide) fl_44 (fun _ h9 => h9) rfl dX2_glow_1 ?_
  obtain ⟨x4, hc4, hJ⟩ := bnd1_some hJ
  refine jcS_i (As := [.long t_state]) (rest := []) (isC := []) (isR := [0]) (isB := [0]) (wr := [(q_t, .inr (2, [.int t_count, .ref q_t_kinds, .ref q_t_wicks, .ref q_t_sources, .ref q_t_changes, .long t_state, .int t_areLoopsAllowed, .int t_ticks, .int t_tickChanges, .int t_sets]))]) (ws2 := [(q_t, .inr (2, [.int t_count, .ref q_t_kinds, .ref q_t_wicks, .ref q_t_sources, .ref q_t_changes, .long t_state, .int t_areLoopsAllowed, .int t_ticks, .int t_tickChanges, .int t_sets]))]) hF (c_X2_glowIn l D cI cJ cC cL t_state x4 hc4 s.heap.size) (va_cwS 1 hts gX2_glow_X2_glowIn rfl rfl rfl (by decide +kernel) ⟨Nat.le_of_ble_eq_true rfl, Nat.le_of_ble_eq_true rfl⟩) rfl hl rfl (Nat.le_of_ble_eq_true rfl) dX2_glow_4 ⟨Nat.zero_le _, Nat.zero_le _⟩ hK hN KX_T trivial hP hD hS hA rfl rfl rfl rfl (by decide) rfl rfl (fun H locs hP hD hS => ?_)
  have e0 := Option.some.inj hJ
  exact hRet hP hD hS e0 dX2_glow_7

def J_X2_isGlowing (t_state : Int64) (v1 : Int32) : Option (Int32) :=
    bnd1 (J_X2_glow t_state) fun x1 =>
    bnd1 (J_X9_isIn x1 v1) fun x5 =>
    chz x5 (some (x5))
abbrev rmX2_isGlowing : Room := { frames := 2, cells := 0, slots := 0, locals := 41 }
set_option maxHeartbeats 4000000 in
set_option maxRecDepth 100000 in
theorem c_X2_isGlowing (l : Launch) (D : va_G) (cI cJ cC cL : ClassId) (q_t q_t_kinds q_t_wicks q_t_sources q_t_changes : Nat) (t_count : Int32) (t_state : Int64) (t_areLoopsAllowed : Int32) (t_ticks : Int32) (t_tickChanges : Int32) (t_sets : Int32) (v1 : Int32) (r : Int32) (hJ : J_X2_isGlowing t_state v1 = some (r)) (sz : Nat) : Met l yX2_isGlowing wsX2_isGlowing rmX2_isGlowing (va_Pc [.ref q_t, .int v1] (jpre XT D (tyL cI cJ cC cL) [(q_t, .inr (2, [.int t_count, .ref q_t_kinds, .ref q_t_wicks, .ref q_t_sources, .ref q_t_changes, .long t_state, .int t_areLoopsAllowed, .int t_ticks, .int t_tickChanges, .int t_sets]))] sz)) (va_Qi (fun r' (_ : Unit) => r' = r) (fun _ t => jpost D (tyL cI cJ cC cL) (va_A [(q_t, .inr (2, [.int t_count, .ref q_t_kinds, .ref q_t_wicks, .ref q_t_sources, .ref q_t_changes, .long t_state, .int t_areLoopsAllowed, .int t_ticks, .int t_tickChanges, .int t_sets]))] sz) [(q_t, .inr (2, [.int t_count, .ref q_t_kinds, .ref q_t_wicks, .ref q_t_sources, .ref q_t_changes, .long t_state, .int t_areLoopsAllowed, .int t_ticks, .int t_tickChanges, .int t_sets]))] t) (va_A [(q_t, .inr (2, [.int t_count, .ref q_t_kinds, .ref q_t_wicks, .ref q_t_sources, .ref q_t_changes, .long t_state, .int t_areLoopsAllowed, .int t_ticks, .int t_tickChanges, .int t_sets]))] sz)) 0 0 (va_A [(q_t, .inr (2, [.int t_count, .ref q_t_kinds, .ref q_t_wicks, .ref q_t_sources, .ref q_t_changes, .long t_state, .int t_areLoopsAllowed, .int t_ticks, .int t_tickChanges, .int t_sets]))] sz) := by
  refine jE_z (cc := cX2_isGlowing) (maxL := 2) (own := RX2) (ret := (some .boolean)) (lv0 := [(0, .ref q_t), (1, .int v1)]) (by decide) rfl rfl rfl (Nat.le_of_ble_eq_true rfl) rfl ?_
  intro p e s m args below meth c A Q ls hx hb hml hown hts hK hN hX hA hP hD hS hl hRet
  have hF : CallFix p m c cX2_isGlowing 2 s args wsX2_isGlowing RX2 := ⟨hx, hb, hml, hown, hts⟩
  unfold J_X2_isGlowing at hJ
  refine lv_aload_n hx hb dX2_isGlowing_0 rfl (lv_at hl 0 rfl) ?_
  obtain ⟨x1, hc1, hJ⟩ := bnd1_some hJ
  refine jcV_i (C := RX2) (T := TX2) (N := 10) (ci := 2) (q0 := 0) (As := []) (rest := []) (isC := [0]) (isR := []) (isB := [0]) (wr := []) (ws2 := [(q_t, .inr (2, [.int t_count, .ref q_t_kinds, .ref q_t_wicks, .ref q_t_sources, .ref q_t_changes, .long t_state, .int t_areLoopsAllowed, .int t_ticks, .int t_tickChanges, .int t_sets]))]) hF (c_X2_glow l D cI cJ cC cL q_t q_t_kinds q_t_wicks q_t_sources q_t_changes t_count t_state t_areLoopsAllowed t_ticks t_tickChanges t_sets x1 hc1 s.heap.size) (cwV 0 hts gX2_isGlowing_X2_glow rfl rfl rfl (by decide +kernel) ⟨Nat.le_of_ble_eq_true rfl, Nat.le_of_ble_eq_true rfl⟩) rfl hl rfl (Nat.le_of_ble_eq_true rfl) dX2_isGlowing_1 ⟨Nat.zero_le _, Nat.zero_le _⟩ hK hN KX_T trivial hP hD hS hA rfl rfl rfl rfl rfl rfl (by decide) rfl rfl (fun H locs hP hD hS => ?_)
  refine lv_iload_n hx hb dX2_isGlowing_4 rfl (lv_at hl 1 rfl) ?_
  obtain ⟨x5, hc5, hJ⟩ := bnd1_some hJ
  refine jcN_i (As := [.int x1, .int v1]) (rest := []) (isC := []) (isR := [0]) (isB := [0]) (wr := [(q_t, .inr (2, [.int t_count, .ref q_t_kinds, .ref q_t_wicks, .ref q_t_sources, .ref q_t_changes, .long t_state, .int t_areLoopsAllowed, .int t_ticks, .int t_tickChanges, .int t_sets]))]) (ws2 := [(q_t, .inr (2, [.int t_count, .ref q_t_kinds, .ref q_t_wicks, .ref q_t_sources, .ref q_t_changes, .long t_state, .int t_areLoopsAllowed, .int t_ticks, .int t_tickChanges, .int t_sets]))]) hF (c_X9_isIn l D cI cJ cC cL x1 v1 x5 hc5 H.size) ⟨va_cnB 2 hts gX2_isGlowing_X9_isIn_n94 rfl rfl rfl (hN.2.1) (hts (.initialized RX9) (by decide +kernel)) (by decide +kernel) ⟨Nat.le_of_ble_eq_true rfl, Nat.le_of_ble_eq_true rfl⟩, hts (.static yX9_isIn) (by decide +kernel), trivial⟩ rfl hl rfl (Nat.le_of_ble_eq_true rfl) dX2_isGlowing_5 ⟨Nat.zero_le _, Nat.zero_le _⟩ hK hN KX_T trivial hP hD hS hA rfl rfl rfl rfl (by decide) rfl rfl (fun H locs hP hD hS => ?_)
  obtain ⟨h01, hJ⟩ := chz_ok hJ
  have e0 := Option.some.inj hJ
  exact hRet hP hD hS h01 e0 dX2_isGlowing_8

def J_X2_switches_b26 (k4 : Int32 → Int32 → Option (Int32)) (t_count : Int32) (t_kinds : Nat → Int32) (v1 : Int32) (v2 : Int32) : Option (Int32) :=
    nm (v2 + Int32.ofInt 1) fun x26 =>
    k4 v1 x26
def J_X2_switches_L4 (t_count : Int32) (t_kinds : Nat → Int32) : Nat → Int32 → Int32 → Option (Int32)
  | 0, _, _ => none
  | nf + 1, v1, v2 =>
    if t_count ≤ v2 then (
    some (v1))
    else (
    bnd1 (J_X2_isSwitch t_count t_kinds v2) fun x14 =>
    if x14 = 0 then (
    J_X2_switches_b26 (fun z0 z1 => J_X2_switches_L4 t_count t_kinds nf z0 z1) t_count t_kinds v1 v2)
    else (
    nm (v1 ||| ((1 : Int32) <<< (v2 &&& 31))) fun x24 =>
    J_X2_switches_b26 (fun z0 z1 => J_X2_switches_L4 t_count t_kinds nf z0 z1) t_count t_kinds x24 v2))
def J_X2_switches (t_count : Int32) (t_kinds : Nat → Int32) : Option (Int32) :=
    J_X2_switches_L4 t_count t_kinds FU (0 : Int32) (0 : Int32)
abbrev rmX2_switches : Room := { frames := 2, cells := 0, slots := 0, locals := 42 }
set_option maxHeartbeats 4000000 in
set_option maxRecDepth 100000 in
theorem c_X2_switches (l : Launch) (D : va_G) (cI cJ cC cL : ClassId) (q_t q_t_kinds q_t_wicks q_t_sources q_t_changes : Nat) (t_count : Int32) (t_state : Int64) (t_areLoopsAllowed : Int32) (t_ticks : Int32) (t_tickChanges : Int32) (t_sets : Int32) (t_kinds : Nat → Int32) (r : Int32) (hJ : J_X2_switches t_count t_kinds = some (r)) (sz : Nat) : Met l yX2_switches wsX2_switches rmX2_switches (va_Pc [.ref q_t] (jpre XT D (tyL cI cJ cC cL) [(q_t, .inr (2, [.int t_count, .ref q_t_kinds, .ref q_t_wicks, .ref q_t_sources, .ref q_t_changes, .long t_state, .int t_areLoopsAllowed, .int t_ticks, .int t_tickChanges, .int t_sets])), (q_t_kinds, .inl (cI, 16, .inl t_kinds))] sz)) (va_Qi (fun r' (_ : Unit) => r' = r) (fun _ t => jpost D (tyL cI cJ cC cL) (va_A [(q_t, .inr (2, [.int t_count, .ref q_t_kinds, .ref q_t_wicks, .ref q_t_sources, .ref q_t_changes, .long t_state, .int t_areLoopsAllowed, .int t_ticks, .int t_tickChanges, .int t_sets])), (q_t_kinds, .inl (cI, 16, .inl t_kinds))] sz) [(q_t, .inr (2, [.int t_count, .ref q_t_kinds, .ref q_t_wicks, .ref q_t_sources, .ref q_t_changes, .long t_state, .int t_areLoopsAllowed, .int t_ticks, .int t_tickChanges, .int t_sets])), (q_t_kinds, .inl (cI, 16, .inl t_kinds))] t) (va_A [(q_t, .inr (2, [.int t_count, .ref q_t_kinds, .ref q_t_wicks, .ref q_t_sources, .ref q_t_changes, .long t_state, .int t_areLoopsAllowed, .int t_ticks, .int t_tickChanges, .int t_sets])), (q_t_kinds, .inl (cI, 16, .inl t_kinds))] sz)) 0 0 (va_A [(q_t, .inr (2, [.int t_count, .ref q_t_kinds, .ref q_t_wicks, .ref q_t_sources, .ref q_t_changes, .long t_state, .int t_areLoopsAllowed, .int t_ticks, .int t_tickChanges, .int t_sets])), (q_t_kinds, .inl (cI, 16, .inl t_kinds))] sz) := by
  refine jE_i (cc := cX2_switches) (maxL := 3) (own := RX2) (ret := (some .int)) (lv0 := [(0, .ref q_t)]) (by decide) rfl rfl rfl (Nat.le_of_ble_eq_true rfl) rfl ?_
  intro p e s m args below meth c A Q ls hx hb hml hown hts hK hN hX hA hP hD hS hl hRet
  have hF : CallFix p m c cX2_switches 3 s args wsX2_switches RX2 := ⟨hx, hb, hml, hown, hts⟩
  have fl_34 := hts (.fieldLink RX2 34 "LanternLogic$Lanterns" "count" "I") (by decide +kernel)
  have hin_X2 : ∀ w ∈ u_ws RX2 TX2 10, w ∈ wsX2_switches := by decide +kernel
  have B26 : ∀ (k4 : Int32 → Int32 → Option (Int32)), (∀ (v1 : Int32) (v2 : Int32) (H : Heap) (locs : List Loc), va_P D vwCl [(q_t, .inr (2, [.int t_count, .ref q_t_kinds, .ref q_t_wicks, .ref q_t_sources, .ref q_t_changes, .long t_state, .int t_areLoopsAllowed, .int t_ticks, .int t_tickChanges, .int t_sets])), (q_t_kinds, .inl (cI, 16, .inl t_kinds))] H → va_D A [(q_t, .inr (2, [.int t_count, .ref q_t_kinds, .ref q_t_wicks, .ref q_t_sources, .ref q_t_changes, .long t_state, .int t_areLoopsAllowed, .int t_ticks, .int t_tickChanges, .int t_sets])), (q_t_kinds, .inl (cI, 16, .inl t_kinds))] → va_S A s.heap H locs → ∀ ls : Array Slot, lv_has ls 3 [(0, .ref q_t), (1, .int v1), (2, .int v2)] → k4 v1 v2 = some (r) → W p l e rmX2_switches s m args below meth c H locs 0 0 Q (F0 m 4 ls [])) → ∀ (v1 : Int32) (v2 : Int32) (H : Heap) (locs : List Loc), va_P D vwCl [(q_t, .inr (2, [.int t_count, .ref q_t_kinds, .ref q_t_wicks, .ref q_t_sources, .ref q_t_changes, .long t_state, .int t_areLoopsAllowed, .int t_ticks, .int t_tickChanges, .int t_sets])), (q_t_kinds, .inl (cI, 16, .inl t_kinds))] H → va_D A [(q_t, .inr (2, [.int t_count, .ref q_t_kinds, .ref q_t_wicks, .ref q_t_sources, .ref q_t_changes, .long t_state, .int t_areLoopsAllowed, .int t_ticks, .int t_tickChanges, .int t_sets])), (q_t_kinds, .inl (cI, 16, .inl t_kinds))] → va_S A s.heap H locs → ∀ ls : Array Slot, lv_has ls 3 [(0, .ref q_t), (1, .int v1), (2, .int v2)] → J_X2_switches_b26 k4 t_count t_kinds v1 v2 = some (r) → W p l e rmX2_switches s m args below meth c H locs 0 0 Q (F0 m 26 ls []) := by
    intro k4 hk4 v1 v2 H locs hP hD hS ls hl hJ
    unfold J_X2_switches_b26 at hJ
    refine jt_iinc hJ (fun x26 ex26 hJ => ?_)
    refine lv_iinc (v := x26) (lv' := [(2, .int x26), (0, .ref q_t), (1, .int v1)]) hx hb dX2_switches_26 hl (k := 2) rfl ex26 (by decide) rfl (fun ls hl => ?_)
    refine lv_goto (tgt := 4) hx hb dX2_switches_29 (by decide) ?_
    exact hk4 v1 x26  H locs  hP hD hS _ (lv_sub hl [1, 2, 0] rfl) hJ
  have L4 : ∀ (nf : Nat), ∀ (v1 : Int32) (v2 : Int32) (H : Heap) (locs : List Loc), va_P D vwCl [(q_t, .inr (2, [.int t_count, .ref q_t_kinds, .ref q_t_wicks, .ref q_t_sources, .ref q_t_changes, .long t_state, .int t_areLoopsAllowed, .int t_ticks, .int t_tickChanges, .int t_sets])), (q_t_kinds, .inl (cI, 16, .inl t_kinds))] H → va_D A [(q_t, .inr (2, [.int t_count, .ref q_t_kinds, .ref q_t_wicks, .ref q_t_sources, .ref q_t_changes, .long t_state, .int t_areLoopsAllowed, .int t_ticks, .int t_tickChanges, .int t_sets])), (q_t_kinds, .inl (cI, 16, .inl t_kinds))] → va_S A s.heap H locs → ∀ ls : Array Slot, lv_has ls 3 [(0, .ref q_t), (1, .int v1), (2, .int v2)] → J_X2_switches_L4  t_count t_kinds nf v1 v2 = some (r) → W p l e rmX2_switches s m args below meth c H locs 0 0 Q (F0 m 4 ls []) := by
    intro nf
    induction nf with
    | zero =>
      intro v1 v2 H locs hP hD hS ls hl hJ
      rw [J_X2_switches_L4] at hJ
      cases hJ
    | succ nf ih =>
      intro v1 v2 H locs hP hD hS ls hl hJ
      rw [J_X2_switches_L4] at hJ
      refine lv_iload_n hx hb dX2_switches_4 rfl (lv_at hl 2 rfl) ?_
      refine lv_aload_n hx hb dX2_switches_5 rfl (lv_at hl 0 rfl) ?_
      refine va_get (ci := 2) (v := .int t_count) (C := RX2) (T := TX2) (N := 10) hx hb hts hin_X2 hown hK hP 0 rfl rfl 0 (by decide) fl_34 (fun _ h9 => h9) rfl dX2_switches_6 ?_
      refine jif_icmp_ge (tgt := 32) hx hb dX2_switches_9 (by decide) hJ (fun hJ => ?_) (fun hJ => ?_)
      · refine lv_iload_n hx hb dX2_switches_32 rfl (lv_at hl 1 rfl) ?_
        have e0 := Option.some.inj hJ
        exact hRet hP hD hS e0 dX2_switches_33
      · refine lv_aload_n hx hb dX2_switches_12 rfl (lv_at hl 0 rfl) ?_
        refine lv_iload_n hx hb dX2_switches_13 rfl (lv_at hl 2 rfl) ?_
        obtain ⟨x14, hc14, hJ⟩ := bnd1_some hJ
        refine jcV_i (C := RX2) (T := TX2) (N := 10) (ci := 2) (q0 := 0) (As := [.int v2]) (rest := []) (isC := [0, 1]) (isR := []) (isB := [0, 1]) (wr := []) (ws2 := [(q_t, .inr (2, [.int t_count, .ref q_t_kinds, .ref q_t_wicks, .ref q_t_sources, .ref q_t_changes, .long t_state, .int t_areLoopsAllowed, .int t_ticks, .int t_tickChanges, .int t_sets])), (q_t_kinds, .inl (cI, 16, .inl t_kinds))]) hF (c_X2_isSwitch l D cI cJ cC cL q_t q_t_kinds q_t_wicks q_t_sources q_t_changes t_count t_state t_areLoopsAllowed t_ticks t_tickChanges t_sets t_kinds v2 x14 hc14 H.size) (cwV 1 hts gX2_switches_X2_isSwitch rfl rfl rfl (by decide +kernel) ⟨Nat.le_of_ble_eq_true rfl, Nat.le_of_ble_eq_true rfl⟩) rfl hl rfl (Nat.le_of_ble_eq_true rfl) dX2_switches_14 ⟨Nat.zero_le _, Nat.zero_le _⟩ hK hN KX_T trivial hP hD hS hA rfl rfl rfl rfl rfl rfl (by decide) rfl rfl (fun H locs hP hD hS => ?_)
        refine jif_eq (tgt := 26) hx hb dX2_switches_17 (by decide) hJ (fun hJ => ?_) (fun hJ => ?_)
        · exact B26 (fun z0 z1 => J_X2_switches_L4 t_count t_kinds nf z0 z1) ih v1 v2  H locs  hP hD hS _ (lv_sub hl [0, 1, 2] rfl) hJ
        · refine lv_iload_n hx hb dX2_switches_20 rfl (lv_at hl 1 rfl) ?_
          refine lv_iconst (v := (1 : Int32)) hx hb dX2_switches_21 (by decide) ?_
          refine lv_iload_n hx hb dX2_switches_22 rfl (lv_at hl 2 rfl) ?_
          refine lv_ishl hx hb dX2_switches_23 ?_
          refine lv_ior hx hb dX2_switches_24 ?_
          refine jt_i hJ (fun x24 hJ => ?_)
          refine lv_istore_n (lv' := [(1, .int x24), (0, .ref q_t), (2, .int v2)]) hx hb dX2_switches_25 rfl hl (by decide) rfl (fun ls hl => ?_)
          exact B26 (fun z0 z1 => J_X2_switches_L4 t_count t_kinds nf z0 z1) ih x24 v2  H locs  hP hD hS _ (lv_sub hl [1, 0, 2] rfl) hJ
  unfold J_X2_switches at hJ
  refine lv_iconst (v := (0 : Int32)) hx hb dX2_switches_0 (by decide) ?_
  refine lv_istore_n (lv' := [(1, .int (0 : Int32)), (0, .ref q_t)]) hx hb dX2_switches_1 rfl hl (by decide) rfl (fun ls hl => ?_)
  refine lv_iconst (v := (0 : Int32)) hx hb dX2_switches_2 (by decide) ?_
  refine lv_istore_n (lv' := [(2, .int (0 : Int32)), (1, .int (0 : Int32)), (0, .ref q_t)]) hx hb dX2_switches_3 rfl hl (by decide) rfl (fun ls hl => ?_)
  exact L4  FU (0 : Int32) (0 : Int32)  s.heap []  hP hD hS _ (lv_sub hl [2, 1, 0] rfl) hJ

def J_X2_sourcesOf_b10 (t_sources : Nat → Int32) (v1 : Int32) : Option (Int32) :=
    some ((0 : Int32))
def J_X2_sourcesOf_b48 (k16 : Int32 → Int32 → Option (Int32)) (t_sources : Nat → Int32) (v1 : Int32) (v3 : Int32) (s48_0 : Int32) (s48_1 : Int32) : Option (Int32) :=
    nm (s48_0 ||| s48_1) fun x48 =>
    nm (v3 + Int32.ofInt 1) fun x50 =>
    k16 x48 x50
def J_X2_sourcesOf_L16 (t_sources : Nat → Int32) (v1 : Int32) : Nat → Int32 → Int32 → Option (Int32)
  | 0, _, _ => none
  | nf + 1, v2, v3 =>
    if (3 : Int32) ≤ v3 then (
    some (v2))
    else (
    nm (v1 * (3 : Int32)) fun x27 =>
    nm (x27 + v3) fun x29 =>
    chk x29 48 (
    nm (t_sources x29.toNatClampNeg) fun x30 =>
    if x30 = (-1 : Int32) then (
    J_X2_sourcesOf_b48 (fun z0 z1 => J_X2_sourcesOf_L16 t_sources v1 nf z0 z1) t_sources v1 v3 v2 (0 : Int32))
    else (
    nm ((1 : Int32) <<< (x30 &&& 31)) fun x47 =>
    J_X2_sourcesOf_b48 (fun z0 z1 => J_X2_sourcesOf_L16 t_sources v1 nf z0 z1) t_sources v1 v3 v2 x47)))
def J_X2_sourcesOf (t_sources : Nat → Int32) (v1 : Int32) : Option (Int32) :=
    if v1 < 0 then (
    J_X2_sourcesOf_b10 t_sources v1 )
    else (
    if v1 < (16 : Int32) then (
    J_X2_sourcesOf_L16 t_sources v1 FU (0 : Int32) (0 : Int32))
    else (
    J_X2_sourcesOf_b10 t_sources v1 ))
abbrev rmX2_sourcesOf : Room := { frames := 0, cells := 0, slots := 0, locals := 0 }
set_option maxHeartbeats 4000000 in
set_option maxRecDepth 100000 in
theorem c_X2_sourcesOf (l : Launch) (D : va_G) (cI cJ cC cL : ClassId) (q_t q_t_kinds q_t_wicks q_t_sources q_t_changes : Nat) (t_count : Int32) (t_state : Int64) (t_areLoopsAllowed : Int32) (t_ticks : Int32) (t_tickChanges : Int32) (t_sets : Int32) (t_sources : Nat → Int32) (v1 : Int32) (r : Int32) (hJ : J_X2_sourcesOf t_sources v1 = some (r)) (sz : Nat) : Met l yX2_sourcesOf wsX2_sourcesOf rmX2_sourcesOf (va_Pc [.ref q_t, .int v1] (jpre XT D (tyL cI cJ cC cL) [(q_t, .inr (2, [.int t_count, .ref q_t_kinds, .ref q_t_wicks, .ref q_t_sources, .ref q_t_changes, .long t_state, .int t_areLoopsAllowed, .int t_ticks, .int t_tickChanges, .int t_sets])), (q_t_sources, .inl (cI, 48, .inl t_sources))] sz)) (va_Qi (fun r' (_ : Unit) => r' = r) (fun _ t => jpost D (tyL cI cJ cC cL) (va_A [(q_t, .inr (2, [.int t_count, .ref q_t_kinds, .ref q_t_wicks, .ref q_t_sources, .ref q_t_changes, .long t_state, .int t_areLoopsAllowed, .int t_ticks, .int t_tickChanges, .int t_sets])), (q_t_sources, .inl (cI, 48, .inl t_sources))] sz) [(q_t, .inr (2, [.int t_count, .ref q_t_kinds, .ref q_t_wicks, .ref q_t_sources, .ref q_t_changes, .long t_state, .int t_areLoopsAllowed, .int t_ticks, .int t_tickChanges, .int t_sets])), (q_t_sources, .inl (cI, 48, .inl t_sources))] t) (va_A [(q_t, .inr (2, [.int t_count, .ref q_t_kinds, .ref q_t_wicks, .ref q_t_sources, .ref q_t_changes, .long t_state, .int t_areLoopsAllowed, .int t_ticks, .int t_tickChanges, .int t_sets])), (q_t_sources, .inl (cI, 48, .inl t_sources))] sz)) 0 0 (va_A [(q_t, .inr (2, [.int t_count, .ref q_t_kinds, .ref q_t_wicks, .ref q_t_sources, .ref q_t_changes, .long t_state, .int t_areLoopsAllowed, .int t_ticks, .int t_tickChanges, .int t_sets])), (q_t_sources, .inl (cI, 48, .inl t_sources))] sz) := by
  refine jE_i (cc := cX2_sourcesOf) (maxL := 5) (own := RX2) (ret := (some .int)) (lv0 := [(0, .ref q_t), (1, .int v1)]) (by decide) rfl rfl rfl (Nat.le_of_ble_eq_true rfl) rfl ?_
  intro p e s m args below meth c A Q ls hx hb hml hown hts hK hN hX hA hP hD hS hl hRet
  have hF : CallFix p m c cX2_sourcesOf 5 s args wsX2_sourcesOf RX2 := ⟨hx, hb, hml, hown, hts⟩
  have fl_18 := hts (.fieldLink RX2 18 "LanternLogic$Lanterns" "sources" "[I") (by decide +kernel)
  have hin_X2 : ∀ w ∈ u_ws RX2 TX2 10, w ∈ wsX2_sourcesOf := by decide +kernel
  have B10 : ∀ (H : Heap) (locs : List Loc), va_P D vwCl [(q_t, .inr (2, [.int t_count, .ref q_t_kinds, .ref q_t_wicks, .ref q_t_sources, .ref q_t_changes, .long t_state, .int t_areLoopsAllowed, .int t_ticks, .int t_tickChanges, .int t_sets])), (q_t_sources, .inl (cI, 48, .inl t_sources))] H → va_D A [(q_t, .inr (2, [.int t_count, .ref q_t_kinds, .ref q_t_wicks, .ref q_t_sources, .ref q_t_changes, .long t_state, .int t_areLoopsAllowed, .int t_ticks, .int t_tickChanges, .int t_sets])), (q_t_sources, .inl (cI, 48, .inl t_sources))] → va_S A s.heap H locs → ∀ ls : Array Slot, lv_has ls 5 [] → J_X2_sourcesOf_b10  t_sources v1  = some (r) → W p l e rmX2_sourcesOf s m args below meth c H locs 0 0 Q (F0 m 10 ls []) := by
    intro H locs hP hD hS ls hl hJ
    unfold J_X2_sourcesOf_b10 at hJ
    refine lv_iconst (v := (0 : Int32)) hx hb dX2_sourcesOf_10 (by decide) ?_
    have e0 := Option.some.inj hJ
    exact hRet hP hD hS e0 dX2_sourcesOf_11
  have B48 : ∀ (k16 : Int32 → Int32 → Option (Int32)), (∀ (v2 : Int32) (v3 : Int32) (H : Heap) (locs : List Loc), va_P D vwCl [(q_t, .inr (2, [.int t_count, .ref q_t_kinds, .ref q_t_wicks, .ref q_t_sources, .ref q_t_changes, .long t_state, .int t_areLoopsAllowed, .int t_ticks, .int t_tickChanges, .int t_sets])), (q_t_sources, .inl (cI, 48, .inl t_sources))] H → va_D A [(q_t, .inr (2, [.int t_count, .ref q_t_kinds, .ref q_t_wicks, .ref q_t_sources, .ref q_t_changes, .long t_state, .int t_areLoopsAllowed, .int t_ticks, .int t_tickChanges, .int t_sets])), (q_t_sources, .inl (cI, 48, .inl t_sources))] → va_S A s.heap H locs → ∀ ls : Array Slot, lv_has ls 5 [(0, .ref q_t), (1, .int v1), (2, .int v2), (3, .int v3)] → k16 v2 v3 = some (r) → W p l e rmX2_sourcesOf s m args below meth c H locs 0 0 Q (F0 m 16 ls [])) → ∀ (v3 : Int32) (s48_0 : Int32) (s48_1 : Int32) (H : Heap) (locs : List Loc), va_P D vwCl [(q_t, .inr (2, [.int t_count, .ref q_t_kinds, .ref q_t_wicks, .ref q_t_sources, .ref q_t_changes, .long t_state, .int t_areLoopsAllowed, .int t_ticks, .int t_tickChanges, .int t_sets])), (q_t_sources, .inl (cI, 48, .inl t_sources))] H → va_D A [(q_t, .inr (2, [.int t_count, .ref q_t_kinds, .ref q_t_wicks, .ref q_t_sources, .ref q_t_changes, .long t_state, .int t_areLoopsAllowed, .int t_ticks, .int t_tickChanges, .int t_sets])), (q_t_sources, .inl (cI, 48, .inl t_sources))] → va_S A s.heap H locs → ∀ ls : Array Slot, lv_has ls 5 [(0, .ref q_t), (1, .int v1), (3, .int v3)] → J_X2_sourcesOf_b48 k16 t_sources v1 v3 s48_0 s48_1 = some (r) → W p l e rmX2_sourcesOf s m args below meth c H locs 0 0 Q (F0 m 48 ls [.int s48_1, .int s48_0]) := by
    intro k16 hk16 v3 s48_0 s48_1 H locs hP hD hS ls hl hJ
    unfold J_X2_sourcesOf_b48 at hJ
    refine lv_ior hx hb dX2_sourcesOf_48 ?_
    refine jt_i hJ (fun x48 hJ => ?_)
    refine lv_istore_n (lv' := [(2, .int x48), (0, .ref q_t), (1, .int v1), (3, .int v3)]) hx hb dX2_sourcesOf_49 rfl hl (by decide) rfl (fun ls hl => ?_)
    refine jt_iinc hJ (fun x50 ex50 hJ => ?_)
    refine lv_iinc (v := x50) (lv' := [(3, .int x50), (2, .int x48), (0, .ref q_t), (1, .int v1)]) hx hb dX2_sourcesOf_50 hl (k := 3) rfl ex50 (by decide) rfl (fun ls hl => ?_)
    refine lv_goto (tgt := 16) hx hb dX2_sourcesOf_53 (by decide) ?_
    exact hk16 x48 x50  H locs  hP hD hS _ (lv_sub hl [2, 3, 1, 0] rfl) hJ
  have L16 : ∀ (nf : Nat), ∀ (v2 : Int32) (v3 : Int32) (H : Heap) (locs : List Loc), va_P D vwCl [(q_t, .inr (2, [.int t_count, .ref q_t_kinds, .ref q_t_wicks, .ref q_t_sources, .ref q_t_changes, .long t_state, .int t_areLoopsAllowed, .int t_ticks, .int t_tickChanges, .int t_sets])), (q_t_sources, .inl (cI, 48, .inl t_sources))] H → va_D A [(q_t, .inr (2, [.int t_count, .ref q_t_kinds, .ref q_t_wicks, .ref q_t_sources, .ref q_t_changes, .long t_state, .int t_areLoopsAllowed, .int t_ticks, .int t_tickChanges, .int t_sets])), (q_t_sources, .inl (cI, 48, .inl t_sources))] → va_S A s.heap H locs → ∀ ls : Array Slot, lv_has ls 5 [(0, .ref q_t), (1, .int v1), (2, .int v2), (3, .int v3)] → J_X2_sourcesOf_L16  t_sources v1 nf v2 v3 = some (r) → W p l e rmX2_sourcesOf s m args below meth c H locs 0 0 Q (F0 m 16 ls []) := by
    intro nf
    induction nf with
    | zero =>
      intro v2 v3 H locs hP hD hS ls hl hJ
      rw [J_X2_sourcesOf_L16] at hJ
      cases hJ
    | succ nf ih =>
      intro v2 v3 H locs hP hD hS ls hl hJ
      rw [J_X2_sourcesOf_L16] at hJ
      refine lv_iload_n hx hb dX2_sourcesOf_16 rfl (lv_at hl 3 rfl) ?_
      refine lv_iconst (v := (3 : Int32)) hx hb dX2_sourcesOf_17 (by decide) ?_
      refine jif_icmp_ge (tgt := 56) hx hb dX2_sourcesOf_18 (by decide) hJ (fun hJ => ?_) (fun hJ => ?_)
      · refine lv_iload_n hx hb dX2_sourcesOf_56 rfl (lv_at hl 2 rfl) ?_
        have e0 := Option.some.inj hJ
        exact hRet hP hD hS e0 dX2_sourcesOf_57
      · refine lv_aload_n hx hb dX2_sourcesOf_21 rfl (lv_at hl 0 rfl) ?_
        refine va_get (ci := 2) (v := .ref q_t_sources) (C := RX2) (T := TX2) (N := 10) hx hb hts hin_X2 hown hK hP 0 rfl rfl 3 (by decide) fl_18 (fun _ h9 => h9) rfl dX2_sourcesOf_22 ?_
        refine lv_iload_n hx hb dX2_sourcesOf_25 rfl (lv_at hl 1 rfl) ?_
        refine lv_iconst (v := (3 : Int32)) hx hb dX2_sourcesOf_26 (by decide) ?_
        refine lv_imul hx hb dX2_sourcesOf_27 ?_
        refine jt_i hJ (fun x27 hJ => ?_)
        refine lv_iload_n hx hb dX2_sourcesOf_28 rfl (lv_at hl 3 rfl) ?_
        refine lv_iadd hx hb dX2_sourcesOf_29 ?_
        refine jt_i hJ (fun x29 hJ => ?_)
        obtain ⟨hin, hJ⟩ := chk_in hJ
        refine va_iald hx hb hK hP 1 0 rfl rfl hin dX2_sourcesOf_30 ?_
        refine jt_i hJ (fun x30 hJ => ?_)
        refine lv_istore (lv' := [(4, .int x30), (0, .ref q_t), (1, .int v1), (2, .int v2), (3, .int v3)]) hx hb dX2_sourcesOf_31 hl (by decide) rfl (fun ls hl => ?_)
        refine lv_iload_n hx hb dX2_sourcesOf_33 rfl (lv_at hl 3 rfl) ?_
        refine lv_iload hx hb dX2_sourcesOf_34 (lv_at hl 0 rfl) ?_
        refine lv_iconst (v := (-1 : Int32)) hx hb dX2_sourcesOf_36 (by decide) ?_
        refine jif_icmp_ne (tgt := 44) hx hb dX2_sourcesOf_37 (by decide) hJ (fun hJ => ?_) (fun hJ => ?_)
        · refine lv_iconst (v := (1 : Int32)) hx hb dX2_sourcesOf_44 (by decide) ?_
          refine lv_iload hx hb dX2_sourcesOf_45 (lv_at hl 0 rfl) ?_
          refine lv_ishl hx hb dX2_sourcesOf_47 ?_
          refine jt_i hJ (fun x47 hJ => ?_)
          exact B48 (fun z0 z1 => J_X2_sourcesOf_L16 t_sources v1 nf z0 z1) ih v3 v2 x47  H locs  hP hD hS _ (lv_sub hl [1, 2, 4] rfl) hJ
        · refine lv_iconst (v := (0 : Int32)) hx hb dX2_sourcesOf_40 (by decide) ?_
          refine lv_goto (tgt := 48) hx hb dX2_sourcesOf_41 (by decide) ?_
          exact B48 (fun z0 z1 => J_X2_sourcesOf_L16 t_sources v1 nf z0 z1) ih v3 v2 (0 : Int32)  H locs  hP hD hS _ (lv_sub hl [1, 2, 4] rfl) hJ
  unfold J_X2_sourcesOf at hJ
  refine lv_iload_n hx hb dX2_sourcesOf_0 rfl (lv_at hl 1 rfl) ?_
  refine jif_lt (tgt := 10) hx hb dX2_sourcesOf_1 (by decide) hJ (fun hJ => ?_) (fun hJ => ?_)
  · exact B10    s.heap []  hP hD hS _ (lv_sub hl [] rfl) hJ
  · refine lv_iload_n hx hb dX2_sourcesOf_4 rfl (lv_at hl 1 rfl) ?_
    refine lv_bipush (v := (16 : Int32)) hx hb dX2_sourcesOf_5 (by decide) ?_
    refine jif_icmp_lt (tgt := 12) hx hb dX2_sourcesOf_7 (by decide) hJ (fun hJ => ?_) (fun hJ => ?_)
    · refine lv_iconst (v := (0 : Int32)) hx hb dX2_sourcesOf_12 (by decide) ?_
      refine lv_istore_n (lv' := [(2, .int (0 : Int32)), (0, .ref q_t), (1, .int v1)]) hx hb dX2_sourcesOf_13 rfl hl (by decide) rfl (fun ls hl => ?_)
      refine lv_iconst (v := (0 : Int32)) hx hb dX2_sourcesOf_14 (by decide) ?_
      refine lv_istore_n (lv' := [(3, .int (0 : Int32)), (2, .int (0 : Int32)), (0, .ref q_t), (1, .int v1)]) hx hb dX2_sourcesOf_15 rfl hl (by decide) rfl (fun ls hl => ?_)
      exact L16  FU (0 : Int32) (0 : Int32)  s.heap []  hP hD hS _ (lv_sub hl [2, 3, 1, 0] rfl) hJ
    · exact B10    s.heap []  hP hD hS _ (lv_sub hl [] rfl) hJ

def J_X2_wiresTo_b22 (k4 : Int32 → Int32 → Option (Int32)) (t_sources : Nat → Int32) (v1 : Int32) (v2 : Int32) (v3 : Int32) : Option (Int32) :=
    nm (v3 + Int32.ofInt 1) fun x22 =>
    k4 v2 x22
def J_X2_wiresTo_L4 (t_sources : Nat → Int32) (v1 : Int32) : Nat → Int32 → Int32 → Option (Int32)
  | 0, _, _ => none
  | nf + 1, v2, v3 =>
    if (3 : Int32) ≤ v3 then (
    some (v2))
    else (
    bnd1 (J_X2_sourceOf t_sources v1 v3) fun x12 =>
    if x12 = (-1 : Int32) then (
    J_X2_wiresTo_b22 (fun z0 z1 => J_X2_wiresTo_L4 t_sources v1 nf z0 z1) t_sources v1 v2 v3)
    else (
    nm (v2 + Int32.ofInt 1) fun x19 =>
    J_X2_wiresTo_b22 (fun z0 z1 => J_X2_wiresTo_L4 t_sources v1 nf z0 z1) t_sources v1 x19 v3))
def J_X2_wiresTo (t_sources : Nat → Int32) (v1 : Int32) : Option (Int32) :=
    J_X2_wiresTo_L4 t_sources v1 FU (0 : Int32) (0 : Int32)
abbrev rmX2_wiresTo : Room := { frames := 1, cells := 0, slots := 0, locals := 23 }
set_option maxHeartbeats 4000000 in
set_option maxRecDepth 100000 in
theorem c_X2_wiresTo (l : Launch) (D : va_G) (cI cJ cC cL : ClassId) (q_t q_t_kinds q_t_wicks q_t_sources q_t_changes : Nat) (t_count : Int32) (t_state : Int64) (t_areLoopsAllowed : Int32) (t_ticks : Int32) (t_tickChanges : Int32) (t_sets : Int32) (t_sources : Nat → Int32) (v1 : Int32) (r : Int32) (hJ : J_X2_wiresTo t_sources v1 = some (r)) (sz : Nat) : Met l yX2_wiresTo wsX2_wiresTo rmX2_wiresTo (va_Pc [.ref q_t, .int v1] (jpre XT D (tyL cI cJ cC cL) [(q_t, .inr (2, [.int t_count, .ref q_t_kinds, .ref q_t_wicks, .ref q_t_sources, .ref q_t_changes, .long t_state, .int t_areLoopsAllowed, .int t_ticks, .int t_tickChanges, .int t_sets])), (q_t_sources, .inl (cI, 48, .inl t_sources))] sz)) (va_Qi (fun r' (_ : Unit) => r' = r) (fun _ t => jpost D (tyL cI cJ cC cL) (va_A [(q_t, .inr (2, [.int t_count, .ref q_t_kinds, .ref q_t_wicks, .ref q_t_sources, .ref q_t_changes, .long t_state, .int t_areLoopsAllowed, .int t_ticks, .int t_tickChanges, .int t_sets])), (q_t_sources, .inl (cI, 48, .inl t_sources))] sz) [(q_t, .inr (2, [.int t_count, .ref q_t_kinds, .ref q_t_wicks, .ref q_t_sources, .ref q_t_changes, .long t_state, .int t_areLoopsAllowed, .int t_ticks, .int t_tickChanges, .int t_sets])), (q_t_sources, .inl (cI, 48, .inl t_sources))] t) (va_A [(q_t, .inr (2, [.int t_count, .ref q_t_kinds, .ref q_t_wicks, .ref q_t_sources, .ref q_t_changes, .long t_state, .int t_areLoopsAllowed, .int t_ticks, .int t_tickChanges, .int t_sets])), (q_t_sources, .inl (cI, 48, .inl t_sources))] sz)) 0 0 (va_A [(q_t, .inr (2, [.int t_count, .ref q_t_kinds, .ref q_t_wicks, .ref q_t_sources, .ref q_t_changes, .long t_state, .int t_areLoopsAllowed, .int t_ticks, .int t_tickChanges, .int t_sets])), (q_t_sources, .inl (cI, 48, .inl t_sources))] sz) := by
  refine jE_i (cc := cX2_wiresTo) (maxL := 4) (own := RX2) (ret := (some .int)) (lv0 := [(0, .ref q_t), (1, .int v1)]) (by decide) rfl rfl rfl (Nat.le_of_ble_eq_true rfl) rfl ?_
  intro p e s m args below meth c A Q ls hx hb hml hown hts hK hN hX hA hP hD hS hl hRet
  have hF : CallFix p m c cX2_wiresTo 4 s args wsX2_wiresTo RX2 := ⟨hx, hb, hml, hown, hts⟩
  have B22 : ∀ (k4 : Int32 → Int32 → Option (Int32)), (∀ (v2 : Int32) (v3 : Int32) (H : Heap) (locs : List Loc), va_P D vwCl [(q_t, .inr (2, [.int t_count, .ref q_t_kinds, .ref q_t_wicks, .ref q_t_sources, .ref q_t_changes, .long t_state, .int t_areLoopsAllowed, .int t_ticks, .int t_tickChanges, .int t_sets])), (q_t_sources, .inl (cI, 48, .inl t_sources))] H → va_D A [(q_t, .inr (2, [.int t_count, .ref q_t_kinds, .ref q_t_wicks, .ref q_t_sources, .ref q_t_changes, .long t_state, .int t_areLoopsAllowed, .int t_ticks, .int t_tickChanges, .int t_sets])), (q_t_sources, .inl (cI, 48, .inl t_sources))] → va_S A s.heap H locs → ∀ ls : Array Slot, lv_has ls 4 [(0, .ref q_t), (1, .int v1), (2, .int v2), (3, .int v3)] → k4 v2 v3 = some (r) → W p l e rmX2_wiresTo s m args below meth c H locs 0 0 Q (F0 m 4 ls [])) → ∀ (v2 : Int32) (v3 : Int32) (H : Heap) (locs : List Loc), va_P D vwCl [(q_t, .inr (2, [.int t_count, .ref q_t_kinds, .ref q_t_wicks, .ref q_t_sources, .ref q_t_changes, .long t_state, .int t_areLoopsAllowed, .int t_ticks, .int t_tickChanges, .int t_sets])), (q_t_sources, .inl (cI, 48, .inl t_sources))] H → va_D A [(q_t, .inr (2, [.int t_count, .ref q_t_kinds, .ref q_t_wicks, .ref q_t_sources, .ref q_t_changes, .long t_state, .int t_areLoopsAllowed, .int t_ticks, .int t_tickChanges, .int t_sets])), (q_t_sources, .inl (cI, 48, .inl t_sources))] → va_S A s.heap H locs → ∀ ls : Array Slot, lv_has ls 4 [(0, .ref q_t), (1, .int v1), (2, .int v2), (3, .int v3)] → J_X2_wiresTo_b22 k4 t_sources v1 v2 v3 = some (r) → W p l e rmX2_wiresTo s m args below meth c H locs 0 0 Q (F0 m 22 ls []) := by
    intro k4 hk4 v2 v3 H locs hP hD hS ls hl hJ
    unfold J_X2_wiresTo_b22 at hJ
    refine jt_iinc hJ (fun x22 ex22 hJ => ?_)
    refine lv_iinc (v := x22) (lv' := [(3, .int x22), (0, .ref q_t), (1, .int v1), (2, .int v2)]) hx hb dX2_wiresTo_22 hl (k := 3) rfl ex22 (by decide) rfl (fun ls hl => ?_)
    refine lv_goto (tgt := 4) hx hb dX2_wiresTo_25 (by decide) ?_
    exact hk4 v2 x22  H locs  hP hD hS _ (lv_sub hl [1, 2, 3, 0] rfl) hJ
  have L4 : ∀ (nf : Nat), ∀ (v2 : Int32) (v3 : Int32) (H : Heap) (locs : List Loc), va_P D vwCl [(q_t, .inr (2, [.int t_count, .ref q_t_kinds, .ref q_t_wicks, .ref q_t_sources, .ref q_t_changes, .long t_state, .int t_areLoopsAllowed, .int t_ticks, .int t_tickChanges, .int t_sets])), (q_t_sources, .inl (cI, 48, .inl t_sources))] H → va_D A [(q_t, .inr (2, [.int t_count, .ref q_t_kinds, .ref q_t_wicks, .ref q_t_sources, .ref q_t_changes, .long t_state, .int t_areLoopsAllowed, .int t_ticks, .int t_tickChanges, .int t_sets])), (q_t_sources, .inl (cI, 48, .inl t_sources))] → va_S A s.heap H locs → ∀ ls : Array Slot, lv_has ls 4 [(0, .ref q_t), (1, .int v1), (2, .int v2), (3, .int v3)] → J_X2_wiresTo_L4  t_sources v1 nf v2 v3 = some (r) → W p l e rmX2_wiresTo s m args below meth c H locs 0 0 Q (F0 m 4 ls []) := by
    intro nf
    induction nf with
    | zero =>
      intro v2 v3 H locs hP hD hS ls hl hJ
      rw [J_X2_wiresTo_L4] at hJ
      cases hJ
    | succ nf ih =>
      intro v2 v3 H locs hP hD hS ls hl hJ
      rw [J_X2_wiresTo_L4] at hJ
      refine lv_iload_n hx hb dX2_wiresTo_4 rfl (lv_at hl 3 rfl) ?_
      refine lv_iconst (v := (3 : Int32)) hx hb dX2_wiresTo_5 (by decide) ?_
      refine jif_icmp_ge (tgt := 28) hx hb dX2_wiresTo_6 (by decide) hJ (fun hJ => ?_) (fun hJ => ?_)
      · refine lv_iload_n hx hb dX2_wiresTo_28 rfl (lv_at hl 2 rfl) ?_
        have e0 := Option.some.inj hJ
        exact hRet hP hD hS e0 dX2_wiresTo_29
      · refine lv_aload_n hx hb dX2_wiresTo_9 rfl (lv_at hl 0 rfl) ?_
        refine lv_iload_n hx hb dX2_wiresTo_10 rfl (lv_at hl 1 rfl) ?_
        refine lv_iload_n hx hb dX2_wiresTo_11 rfl (lv_at hl 3 rfl) ?_
        obtain ⟨x12, hc12, hJ⟩ := bnd1_some hJ
        refine jcV_i (C := RX2) (T := TX2) (N := 10) (ci := 2) (q0 := 0) (As := [.int v1, .int v3]) (rest := []) (isC := [0, 1]) (isR := []) (isB := [0, 1]) (wr := []) (ws2 := [(q_t, .inr (2, [.int t_count, .ref q_t_kinds, .ref q_t_wicks, .ref q_t_sources, .ref q_t_changes, .long t_state, .int t_areLoopsAllowed, .int t_ticks, .int t_tickChanges, .int t_sets])), (q_t_sources, .inl (cI, 48, .inl t_sources))]) hF (c_X2_sourceOf l D cI cJ cC cL q_t q_t_kinds q_t_wicks q_t_sources q_t_changes t_count t_state t_areLoopsAllowed t_ticks t_tickChanges t_sets t_sources v1 v3 x12 hc12 H.size) (cwV 2 hts gX2_wiresTo_X2_sourceOf rfl rfl rfl (by decide +kernel) ⟨Nat.le_of_ble_eq_true rfl, Nat.le_of_ble_eq_true rfl⟩) rfl hl rfl (Nat.le_of_ble_eq_true rfl) dX2_wiresTo_12 ⟨Nat.zero_le _, Nat.zero_le _⟩ hK hN KX_T trivial hP hD hS hA rfl rfl rfl rfl rfl rfl (by decide) rfl rfl (fun H locs hP hD hS => ?_)
        refine lv_iconst (v := (-1 : Int32)) hx hb dX2_wiresTo_15 (by decide) ?_
        refine jif_icmp_eq (tgt := 22) hx hb dX2_wiresTo_16 (by decide) hJ (fun hJ => ?_) (fun hJ => ?_)
        · exact B22 (fun z0 z1 => J_X2_wiresTo_L4 t_sources v1 nf z0 z1) ih v2 v3  H locs  hP hD hS _ (lv_sub hl [0, 1, 2, 3] rfl) hJ
        · refine jt_iinc hJ (fun x19 ex19 hJ => ?_)
          refine lv_iinc (v := x19) (lv' := [(2, .int x19), (0, .ref q_t), (1, .int v1), (3, .int v3)]) hx hb dX2_wiresTo_19 hl (k := 2) rfl ex19 (by decide) rfl (fun ls hl => ?_)
          exact B22 (fun z0 z1 => J_X2_wiresTo_L4 t_sources v1 nf z0 z1) ih x19 v3  H locs  hP hD hS _ (lv_sub hl [1, 2, 0, 3] rfl) hJ
  unfold J_X2_wiresTo at hJ
  refine lv_iconst (v := (0 : Int32)) hx hb dX2_wiresTo_0 (by decide) ?_
  refine lv_istore_n (lv' := [(2, .int (0 : Int32)), (0, .ref q_t), (1, .int v1)]) hx hb dX2_wiresTo_1 rfl hl (by decide) rfl (fun ls hl => ?_)
  refine lv_iconst (v := (0 : Int32)) hx hb dX2_wiresTo_2 (by decide) ?_
  refine lv_istore_n (lv' := [(3, .int (0 : Int32)), (2, .int (0 : Int32)), (0, .ref q_t), (1, .int v1)]) hx hb dX2_wiresTo_3 rfl hl (by decide) rfl (fun ls hl => ?_)
  exact L4  FU (0 : Int32) (0 : Int32)  s.heap []  hP hD hS _ (lv_sub hl [2, 3, 1, 0] rfl) hJ

def J_X2_wiresFrom_b23 (k4 : Int32 → Int32 → Option (Int32)) (t_sources : Nat → Int32) (v1 : Int32) (v2 : Int32) (v3 : Int32) : Option (Int32) :=
    nm (v3 + Int32.ofInt 1) fun x23 =>
    k4 v2 x23
def J_X2_wiresFrom_L4 (t_sources : Nat → Int32) (v1 : Int32) : Nat → Int32 → Int32 → Option (Int32)
  | 0, _, _ => none
  | nf + 1, v2, v3 =>
    if (48 : Int32) ≤ v3 then (
    some (v2))
    else (
    chk v3 48 (
    nm (t_sources v3.toNatClampNeg) fun x15 =>
    if x15 = v1 then (
    nm (v2 + Int32.ofInt 1) fun x20 =>
    J_X2_wiresFrom_b23 (fun z0 z1 => J_X2_wiresFrom_L4 t_sources v1 nf z0 z1) t_sources v1 x20 v3)
    else (
    J_X2_wiresFrom_b23 (fun z0 z1 => J_X2_wiresFrom_L4 t_sources v1 nf z0 z1) t_sources v1 v2 v3)))
def J_X2_wiresFrom (t_sources : Nat → Int32) (v1 : Int32) : Option (Int32) :=
    J_X2_wiresFrom_L4 t_sources v1 FU (0 : Int32) (0 : Int32)
abbrev rmX2_wiresFrom : Room := { frames := 0, cells := 0, slots := 0, locals := 0 }
set_option maxHeartbeats 4000000 in
set_option maxRecDepth 100000 in
theorem c_X2_wiresFrom (l : Launch) (D : va_G) (cI cJ cC cL : ClassId) (q_t q_t_kinds q_t_wicks q_t_sources q_t_changes : Nat) (t_count : Int32) (t_state : Int64) (t_areLoopsAllowed : Int32) (t_ticks : Int32) (t_tickChanges : Int32) (t_sets : Int32) (t_sources : Nat → Int32) (v1 : Int32) (r : Int32) (hJ : J_X2_wiresFrom t_sources v1 = some (r)) (sz : Nat) : Met l yX2_wiresFrom wsX2_wiresFrom rmX2_wiresFrom (va_Pc [.ref q_t, .int v1] (jpre XT D (tyL cI cJ cC cL) [(q_t, .inr (2, [.int t_count, .ref q_t_kinds, .ref q_t_wicks, .ref q_t_sources, .ref q_t_changes, .long t_state, .int t_areLoopsAllowed, .int t_ticks, .int t_tickChanges, .int t_sets])), (q_t_sources, .inl (cI, 48, .inl t_sources))] sz)) (va_Qi (fun r' (_ : Unit) => r' = r) (fun _ t => jpost D (tyL cI cJ cC cL) (va_A [(q_t, .inr (2, [.int t_count, .ref q_t_kinds, .ref q_t_wicks, .ref q_t_sources, .ref q_t_changes, .long t_state, .int t_areLoopsAllowed, .int t_ticks, .int t_tickChanges, .int t_sets])), (q_t_sources, .inl (cI, 48, .inl t_sources))] sz) [(q_t, .inr (2, [.int t_count, .ref q_t_kinds, .ref q_t_wicks, .ref q_t_sources, .ref q_t_changes, .long t_state, .int t_areLoopsAllowed, .int t_ticks, .int t_tickChanges, .int t_sets])), (q_t_sources, .inl (cI, 48, .inl t_sources))] t) (va_A [(q_t, .inr (2, [.int t_count, .ref q_t_kinds, .ref q_t_wicks, .ref q_t_sources, .ref q_t_changes, .long t_state, .int t_areLoopsAllowed, .int t_ticks, .int t_tickChanges, .int t_sets])), (q_t_sources, .inl (cI, 48, .inl t_sources))] sz)) 0 0 (va_A [(q_t, .inr (2, [.int t_count, .ref q_t_kinds, .ref q_t_wicks, .ref q_t_sources, .ref q_t_changes, .long t_state, .int t_areLoopsAllowed, .int t_ticks, .int t_tickChanges, .int t_sets])), (q_t_sources, .inl (cI, 48, .inl t_sources))] sz) := by
  refine jE_i (cc := cX2_wiresFrom) (maxL := 4) (own := RX2) (ret := (some .int)) (lv0 := [(0, .ref q_t), (1, .int v1)]) (by decide) rfl rfl rfl (Nat.le_of_ble_eq_true rfl) rfl ?_
  intro p e s m args below meth c A Q ls hx hb hml hown hts hK hN hX hA hP hD hS hl hRet
  have hF : CallFix p m c cX2_wiresFrom 4 s args wsX2_wiresFrom RX2 := ⟨hx, hb, hml, hown, hts⟩
  have fl_18 := hts (.fieldLink RX2 18 "LanternLogic$Lanterns" "sources" "[I") (by decide +kernel)
  have hin_X2 : ∀ w ∈ u_ws RX2 TX2 10, w ∈ wsX2_wiresFrom := by decide +kernel
  have B23 : ∀ (k4 : Int32 → Int32 → Option (Int32)), (∀ (v2 : Int32) (v3 : Int32) (H : Heap) (locs : List Loc), va_P D vwCl [(q_t, .inr (2, [.int t_count, .ref q_t_kinds, .ref q_t_wicks, .ref q_t_sources, .ref q_t_changes, .long t_state, .int t_areLoopsAllowed, .int t_ticks, .int t_tickChanges, .int t_sets])), (q_t_sources, .inl (cI, 48, .inl t_sources))] H → va_D A [(q_t, .inr (2, [.int t_count, .ref q_t_kinds, .ref q_t_wicks, .ref q_t_sources, .ref q_t_changes, .long t_state, .int t_areLoopsAllowed, .int t_ticks, .int t_tickChanges, .int t_sets])), (q_t_sources, .inl (cI, 48, .inl t_sources))] → va_S A s.heap H locs → ∀ ls : Array Slot, lv_has ls 4 [(0, .ref q_t), (1, .int v1), (2, .int v2), (3, .int v3)] → k4 v2 v3 = some (r) → W p l e rmX2_wiresFrom s m args below meth c H locs 0 0 Q (F0 m 4 ls [])) → ∀ (v2 : Int32) (v3 : Int32) (H : Heap) (locs : List Loc), va_P D vwCl [(q_t, .inr (2, [.int t_count, .ref q_t_kinds, .ref q_t_wicks, .ref q_t_sources, .ref q_t_changes, .long t_state, .int t_areLoopsAllowed, .int t_ticks, .int t_tickChanges, .int t_sets])), (q_t_sources, .inl (cI, 48, .inl t_sources))] H → va_D A [(q_t, .inr (2, [.int t_count, .ref q_t_kinds, .ref q_t_wicks, .ref q_t_sources, .ref q_t_changes, .long t_state, .int t_areLoopsAllowed, .int t_ticks, .int t_tickChanges, .int t_sets])), (q_t_sources, .inl (cI, 48, .inl t_sources))] → va_S A s.heap H locs → ∀ ls : Array Slot, lv_has ls 4 [(0, .ref q_t), (1, .int v1), (2, .int v2), (3, .int v3)] → J_X2_wiresFrom_b23 k4 t_sources v1 v2 v3 = some (r) → W p l e rmX2_wiresFrom s m args below meth c H locs 0 0 Q (F0 m 23 ls []) := by
    intro k4 hk4 v2 v3 H locs hP hD hS ls hl hJ
    unfold J_X2_wiresFrom_b23 at hJ
    refine jt_iinc hJ (fun x23 ex23 hJ => ?_)
    refine lv_iinc (v := x23) (lv' := [(3, .int x23), (0, .ref q_t), (1, .int v1), (2, .int v2)]) hx hb dX2_wiresFrom_23 hl (k := 3) rfl ex23 (by decide) rfl (fun ls hl => ?_)
    refine lv_goto (tgt := 4) hx hb dX2_wiresFrom_26 (by decide) ?_
    exact hk4 v2 x23  H locs  hP hD hS _ (lv_sub hl [1, 2, 3, 0] rfl) hJ
  have L4 : ∀ (nf : Nat), ∀ (v2 : Int32) (v3 : Int32) (H : Heap) (locs : List Loc), va_P D vwCl [(q_t, .inr (2, [.int t_count, .ref q_t_kinds, .ref q_t_wicks, .ref q_t_sources, .ref q_t_changes, .long t_state, .int t_areLoopsAllowed, .int t_ticks, .int t_tickChanges, .int t_sets])), (q_t_sources, .inl (cI, 48, .inl t_sources))] H → va_D A [(q_t, .inr (2, [.int t_count, .ref q_t_kinds, .ref q_t_wicks, .ref q_t_sources, .ref q_t_changes, .long t_state, .int t_areLoopsAllowed, .int t_ticks, .int t_tickChanges, .int t_sets])), (q_t_sources, .inl (cI, 48, .inl t_sources))] → va_S A s.heap H locs → ∀ ls : Array Slot, lv_has ls 4 [(0, .ref q_t), (1, .int v1), (2, .int v2), (3, .int v3)] → J_X2_wiresFrom_L4  t_sources v1 nf v2 v3 = some (r) → W p l e rmX2_wiresFrom s m args below meth c H locs 0 0 Q (F0 m 4 ls []) := by
    intro nf
    induction nf with
    | zero =>
      intro v2 v3 H locs hP hD hS ls hl hJ
      rw [J_X2_wiresFrom_L4] at hJ
      cases hJ
    | succ nf ih =>
      intro v2 v3 H locs hP hD hS ls hl hJ
      rw [J_X2_wiresFrom_L4] at hJ
      refine lv_iload_n hx hb dX2_wiresFrom_4 rfl (lv_at hl 3 rfl) ?_
      refine lv_bipush (v := (48 : Int32)) hx hb dX2_wiresFrom_5 (by decide) ?_
      refine jif_icmp_ge (tgt := 29) hx hb dX2_wiresFrom_7 (by decide) hJ (fun hJ => ?_) (fun hJ => ?_)
      · refine lv_iload_n hx hb dX2_wiresFrom_29 rfl (lv_at hl 2 rfl) ?_
        have e0 := Option.some.inj hJ
        exact hRet hP hD hS e0 dX2_wiresFrom_30
      · refine lv_aload_n hx hb dX2_wiresFrom_10 rfl (lv_at hl 0 rfl) ?_
        refine va_get (ci := 2) (v := .ref q_t_sources) (C := RX2) (T := TX2) (N := 10) hx hb hts hin_X2 hown hK hP 0 rfl rfl 3 (by decide) fl_18 (fun _ h9 => h9) rfl dX2_wiresFrom_11 ?_
        refine lv_iload_n hx hb dX2_wiresFrom_14 rfl (lv_at hl 3 rfl) ?_
        obtain ⟨hin, hJ⟩ := chk_in hJ
        refine va_iald hx hb hK hP 1 0 rfl rfl hin dX2_wiresFrom_15 ?_
        refine jt_i hJ (fun x15 hJ => ?_)
        refine lv_iload_n hx hb dX2_wiresFrom_16 rfl (lv_at hl 1 rfl) ?_
        refine jif_icmp_ne (tgt := 23) hx hb dX2_wiresFrom_17 (by decide) hJ (fun hJ => ?_) (fun hJ => ?_)
        · exact B23 (fun z0 z1 => J_X2_wiresFrom_L4 t_sources v1 nf z0 z1) ih v2 v3  H locs  hP hD hS _ (lv_sub hl [0, 1, 2, 3] rfl) hJ
        · refine jt_iinc hJ (fun x20 ex20 hJ => ?_)
          refine lv_iinc (v := x20) (lv' := [(2, .int x20), (0, .ref q_t), (1, .int v1), (3, .int v3)]) hx hb dX2_wiresFrom_20 hl (k := 2) rfl ex20 (by decide) rfl (fun ls hl => ?_)
          exact B23 (fun z0 z1 => J_X2_wiresFrom_L4 t_sources v1 nf z0 z1) ih x20 v3  H locs  hP hD hS _ (lv_sub hl [1, 2, 0, 3] rfl) hJ
  unfold J_X2_wiresFrom at hJ
  refine lv_iconst (v := (0 : Int32)) hx hb dX2_wiresFrom_0 (by decide) ?_
  refine lv_istore_n (lv' := [(2, .int (0 : Int32)), (0, .ref q_t), (1, .int v1)]) hx hb dX2_wiresFrom_1 rfl hl (by decide) rfl (fun ls hl => ?_)
  refine lv_iconst (v := (0 : Int32)) hx hb dX2_wiresFrom_2 (by decide) ?_
  refine lv_istore_n (lv' := [(3, .int (0 : Int32)), (2, .int (0 : Int32)), (0, .ref q_t), (1, .int v1)]) hx hb dX2_wiresFrom_3 rfl hl (by decide) rfl (fun ls hl => ?_)
  exact L4  FU (0 : Int32) (0 : Int32)  s.heap []  hP hD hS _ (lv_sub hl [2, 3, 1, 0] rfl) hJ

def J_X2_wires_L4 (t_count : Int32) (t_sources : Nat → Int32) : Nat → Int32 → Int32 → Option (Int32)
  | 0, _, _ => none
  | nf + 1, v1, v2 =>
    if t_count ≤ v2 then (
    some (v1))
    else (
    bnd1 (J_X2_wiresTo t_sources v2) fun x15 =>
    nm (v1 + x15) fun x18 =>
    nm (v2 + Int32.ofInt 1) fun x20 =>
    J_X2_wires_L4 t_count t_sources nf x18 x20)
def J_X2_wires (t_count : Int32) (t_sources : Nat → Int32) : Option (Int32) :=
    J_X2_wires_L4 t_count t_sources FU (0 : Int32) (0 : Int32)
abbrev rmX2_wires : Room := { frames := 2, cells := 0, slots := 0, locals := 46 }
set_option maxHeartbeats 4000000 in
set_option maxRecDepth 100000 in
theorem c_X2_wires (l : Launch) (D : va_G) (cI cJ cC cL : ClassId) (q_t q_t_kinds q_t_wicks q_t_sources q_t_changes : Nat) (t_count : Int32) (t_state : Int64) (t_areLoopsAllowed : Int32) (t_ticks : Int32) (t_tickChanges : Int32) (t_sets : Int32) (t_sources : Nat → Int32) (r : Int32) (hJ : J_X2_wires t_count t_sources = some (r)) (sz : Nat) : Met l yX2_wires wsX2_wires rmX2_wires (va_Pc [.ref q_t] (jpre XT D (tyL cI cJ cC cL) [(q_t, .inr (2, [.int t_count, .ref q_t_kinds, .ref q_t_wicks, .ref q_t_sources, .ref q_t_changes, .long t_state, .int t_areLoopsAllowed, .int t_ticks, .int t_tickChanges, .int t_sets])), (q_t_sources, .inl (cI, 48, .inl t_sources))] sz)) (va_Qi (fun r' (_ : Unit) => r' = r) (fun _ t => jpost D (tyL cI cJ cC cL) (va_A [(q_t, .inr (2, [.int t_count, .ref q_t_kinds, .ref q_t_wicks, .ref q_t_sources, .ref q_t_changes, .long t_state, .int t_areLoopsAllowed, .int t_ticks, .int t_tickChanges, .int t_sets])), (q_t_sources, .inl (cI, 48, .inl t_sources))] sz) [(q_t, .inr (2, [.int t_count, .ref q_t_kinds, .ref q_t_wicks, .ref q_t_sources, .ref q_t_changes, .long t_state, .int t_areLoopsAllowed, .int t_ticks, .int t_tickChanges, .int t_sets])), (q_t_sources, .inl (cI, 48, .inl t_sources))] t) (va_A [(q_t, .inr (2, [.int t_count, .ref q_t_kinds, .ref q_t_wicks, .ref q_t_sources, .ref q_t_changes, .long t_state, .int t_areLoopsAllowed, .int t_ticks, .int t_tickChanges, .int t_sets])), (q_t_sources, .inl (cI, 48, .inl t_sources))] sz)) 0 0 (va_A [(q_t, .inr (2, [.int t_count, .ref q_t_kinds, .ref q_t_wicks, .ref q_t_sources, .ref q_t_changes, .long t_state, .int t_areLoopsAllowed, .int t_ticks, .int t_tickChanges, .int t_sets])), (q_t_sources, .inl (cI, 48, .inl t_sources))] sz) := by
  refine jE_i (cc := cX2_wires) (maxL := 3) (own := RX2) (ret := (some .int)) (lv0 := [(0, .ref q_t)]) (by decide) rfl rfl rfl (Nat.le_of_ble_eq_true rfl) rfl ?_
  intro p e s m args below meth c A Q ls hx hb hml hown hts hK hN hX hA hP hD hS hl hRet
  have hF : CallFix p m c cX2_wires 3 s args wsX2_wires RX2 := ⟨hx, hb, hml, hown, hts⟩
  have fl_34 := hts (.fieldLink RX2 34 "LanternLogic$Lanterns" "count" "I") (by decide +kernel)
  have hin_X2 : ∀ w ∈ u_ws RX2 TX2 10, w ∈ wsX2_wires := by decide +kernel
  have L4 : ∀ (nf : Nat), ∀ (v1 : Int32) (v2 : Int32) (H : Heap) (locs : List Loc), va_P D vwCl [(q_t, .inr (2, [.int t_count, .ref q_t_kinds, .ref q_t_wicks, .ref q_t_sources, .ref q_t_changes, .long t_state, .int t_areLoopsAllowed, .int t_ticks, .int t_tickChanges, .int t_sets])), (q_t_sources, .inl (cI, 48, .inl t_sources))] H → va_D A [(q_t, .inr (2, [.int t_count, .ref q_t_kinds, .ref q_t_wicks, .ref q_t_sources, .ref q_t_changes, .long t_state, .int t_areLoopsAllowed, .int t_ticks, .int t_tickChanges, .int t_sets])), (q_t_sources, .inl (cI, 48, .inl t_sources))] → va_S A s.heap H locs → ∀ ls : Array Slot, lv_has ls 3 [(0, .ref q_t), (1, .int v1), (2, .int v2)] → J_X2_wires_L4  t_count t_sources nf v1 v2 = some (r) → W p l e rmX2_wires s m args below meth c H locs 0 0 Q (F0 m 4 ls []) := by
    intro nf
    induction nf with
    | zero =>
      intro v1 v2 H locs hP hD hS ls hl hJ
      rw [J_X2_wires_L4] at hJ
      cases hJ
    | succ nf ih =>
      intro v1 v2 H locs hP hD hS ls hl hJ
      rw [J_X2_wires_L4] at hJ
      refine lv_iload_n hx hb dX2_wires_4 rfl (lv_at hl 2 rfl) ?_
      refine lv_aload_n hx hb dX2_wires_5 rfl (lv_at hl 0 rfl) ?_
      refine va_get (ci := 2) (v := .int t_count) (C := RX2) (T := TX2) (N := 10) hx hb hts hin_X2 hown hK hP 0 rfl rfl 0 (by decide) fl_34 (fun _ h9 => h9) rfl dX2_wires_6 ?_
      refine jif_icmp_ge (tgt := 26) hx hb dX2_wires_9 (by decide) hJ (fun hJ => ?_) (fun hJ => ?_)
      · refine lv_iload_n hx hb dX2_wires_26 rfl (lv_at hl 1 rfl) ?_
        have e0 := Option.some.inj hJ
        exact hRet hP hD hS e0 dX2_wires_27
      · refine lv_iload_n hx hb dX2_wires_12 rfl (lv_at hl 1 rfl) ?_
        refine lv_aload_n hx hb dX2_wires_13 rfl (lv_at hl 0 rfl) ?_
        refine lv_iload_n hx hb dX2_wires_14 rfl (lv_at hl 2 rfl) ?_
        obtain ⟨x15, hc15, hJ⟩ := bnd1_some hJ
        refine jcV_i (C := RX2) (T := TX2) (N := 10) (ci := 2) (q0 := 0) (As := [.int v2]) (rest := [.int v1]) (isC := [0, 1]) (isR := []) (isB := [0, 1]) (wr := []) (ws2 := [(q_t, .inr (2, [.int t_count, .ref q_t_kinds, .ref q_t_wicks, .ref q_t_sources, .ref q_t_changes, .long t_state, .int t_areLoopsAllowed, .int t_ticks, .int t_tickChanges, .int t_sets])), (q_t_sources, .inl (cI, 48, .inl t_sources))]) hF (c_X2_wiresTo l D cI cJ cC cL q_t q_t_kinds q_t_wicks q_t_sources q_t_changes t_count t_state t_areLoopsAllowed t_ticks t_tickChanges t_sets t_sources v2 x15 hc15 H.size) (cwV 1 hts gX2_wires_X2_wiresTo rfl rfl rfl (by decide +kernel) ⟨Nat.le_of_ble_eq_true rfl, Nat.le_of_ble_eq_true rfl⟩) rfl hl rfl (Nat.le_of_ble_eq_true rfl) dX2_wires_15 ⟨Nat.zero_le _, Nat.zero_le _⟩ hK hN KX_T trivial hP hD hS hA rfl rfl rfl rfl rfl rfl (by decide) rfl rfl (fun H locs hP hD hS => ?_)
        refine lv_iadd hx hb dX2_wires_18 ?_
        refine jt_i hJ (fun x18 hJ => ?_)
        refine lv_istore_n (lv' := [(1, .int x18), (0, .ref q_t), (2, .int v2)]) hx hb dX2_wires_19 rfl hl (by decide) rfl (fun ls hl => ?_)
        refine jt_iinc hJ (fun x20 ex20 hJ => ?_)
        refine lv_iinc (v := x20) (lv' := [(2, .int x20), (1, .int x18), (0, .ref q_t)]) hx hb dX2_wires_20 hl (k := 2) rfl ex20 (by decide) rfl (fun ls hl => ?_)
        refine lv_goto (tgt := 4) hx hb dX2_wires_23 (by decide) ?_
        exact ih x18 x20  H locs  hP hD hS _ (lv_sub hl [2, 1, 0] rfl) hJ
  unfold J_X2_wires at hJ
  refine lv_iconst (v := (0 : Int32)) hx hb dX2_wires_0 (by decide) ?_
  refine lv_istore_n (lv' := [(1, .int (0 : Int32)), (0, .ref q_t)]) hx hb dX2_wires_1 rfl hl (by decide) rfl (fun ls hl => ?_)
  refine lv_iconst (v := (0 : Int32)) hx hb dX2_wires_2 (by decide) ?_
  refine lv_istore_n (lv' := [(2, .int (0 : Int32)), (1, .int (0 : Int32)), (0, .ref q_t)]) hx hb dX2_wires_3 rfl hl (by decide) rfl (fun ls hl => ?_)
  exact L4  FU (0 : Int32) (0 : Int32)  s.heap []  hP hD hS _ (lv_sub hl [2, 1, 0] rfl) hJ

def J_X2_changes_L4 (t_count : Int32) (t_changes : Nat → Int32) : Nat → Int32 → Int32 → Option (Int32)
  | 0, _, _ => none
  | nf + 1, v1, v2 =>
    if t_count ≤ v2 then (
    some (v1))
    else (
    bnd1 (J_X2_changesOf t_count t_changes v2) fun x15 =>
    nm (v1 + x15) fun x18 =>
    nm (v2 + Int32.ofInt 1) fun x20 =>
    J_X2_changes_L4 t_count t_changes nf x18 x20)
def J_X2_changes (t_count : Int32) (t_changes : Nat → Int32) : Option (Int32) :=
    J_X2_changes_L4 t_count t_changes FU (0 : Int32) (0 : Int32)
abbrev rmX2_changes : Room := { frames := 2, cells := 0, slots := 0, locals := 42 }
set_option maxHeartbeats 4000000 in
set_option maxRecDepth 100000 in
theorem c_X2_changes (l : Launch) (D : va_G) (cI cJ cC cL : ClassId) (q_t q_t_kinds q_t_wicks q_t_sources q_t_changes : Nat) (t_count : Int32) (t_state : Int64) (t_areLoopsAllowed : Int32) (t_ticks : Int32) (t_tickChanges : Int32) (t_sets : Int32) (t_changes : Nat → Int32) (r : Int32) (hJ : J_X2_changes t_count t_changes = some (r)) (sz : Nat) : Met l yX2_changes wsX2_changes rmX2_changes (va_Pc [.ref q_t] (jpre XT D (tyL cI cJ cC cL) [(q_t, .inr (2, [.int t_count, .ref q_t_kinds, .ref q_t_wicks, .ref q_t_sources, .ref q_t_changes, .long t_state, .int t_areLoopsAllowed, .int t_ticks, .int t_tickChanges, .int t_sets])), (q_t_changes, .inl (cI, 16, .inl t_changes))] sz)) (va_Qi (fun r' (_ : Unit) => r' = r) (fun _ t => jpost D (tyL cI cJ cC cL) (va_A [(q_t, .inr (2, [.int t_count, .ref q_t_kinds, .ref q_t_wicks, .ref q_t_sources, .ref q_t_changes, .long t_state, .int t_areLoopsAllowed, .int t_ticks, .int t_tickChanges, .int t_sets])), (q_t_changes, .inl (cI, 16, .inl t_changes))] sz) [(q_t, .inr (2, [.int t_count, .ref q_t_kinds, .ref q_t_wicks, .ref q_t_sources, .ref q_t_changes, .long t_state, .int t_areLoopsAllowed, .int t_ticks, .int t_tickChanges, .int t_sets])), (q_t_changes, .inl (cI, 16, .inl t_changes))] t) (va_A [(q_t, .inr (2, [.int t_count, .ref q_t_kinds, .ref q_t_wicks, .ref q_t_sources, .ref q_t_changes, .long t_state, .int t_areLoopsAllowed, .int t_ticks, .int t_tickChanges, .int t_sets])), (q_t_changes, .inl (cI, 16, .inl t_changes))] sz)) 0 0 (va_A [(q_t, .inr (2, [.int t_count, .ref q_t_kinds, .ref q_t_wicks, .ref q_t_sources, .ref q_t_changes, .long t_state, .int t_areLoopsAllowed, .int t_ticks, .int t_tickChanges, .int t_sets])), (q_t_changes, .inl (cI, 16, .inl t_changes))] sz) := by
  refine jE_i (cc := cX2_changes) (maxL := 3) (own := RX2) (ret := (some .int)) (lv0 := [(0, .ref q_t)]) (by decide) rfl rfl rfl (Nat.le_of_ble_eq_true rfl) rfl ?_
  intro p e s m args below meth c A Q ls hx hb hml hown hts hK hN hX hA hP hD hS hl hRet
  have hF : CallFix p m c cX2_changes 3 s args wsX2_changes RX2 := ⟨hx, hb, hml, hown, hts⟩
  have fl_34 := hts (.fieldLink RX2 34 "LanternLogic$Lanterns" "count" "I") (by decide +kernel)
  have hin_X2 : ∀ w ∈ u_ws RX2 TX2 10, w ∈ wsX2_changes := by decide +kernel
  have L4 : ∀ (nf : Nat), ∀ (v1 : Int32) (v2 : Int32) (H : Heap) (locs : List Loc), va_P D vwCl [(q_t, .inr (2, [.int t_count, .ref q_t_kinds, .ref q_t_wicks, .ref q_t_sources, .ref q_t_changes, .long t_state, .int t_areLoopsAllowed, .int t_ticks, .int t_tickChanges, .int t_sets])), (q_t_changes, .inl (cI, 16, .inl t_changes))] H → va_D A [(q_t, .inr (2, [.int t_count, .ref q_t_kinds, .ref q_t_wicks, .ref q_t_sources, .ref q_t_changes, .long t_state, .int t_areLoopsAllowed, .int t_ticks, .int t_tickChanges, .int t_sets])), (q_t_changes, .inl (cI, 16, .inl t_changes))] → va_S A s.heap H locs → ∀ ls : Array Slot, lv_has ls 3 [(0, .ref q_t), (1, .int v1), (2, .int v2)] → J_X2_changes_L4  t_count t_changes nf v1 v2 = some (r) → W p l e rmX2_changes s m args below meth c H locs 0 0 Q (F0 m 4 ls []) := by
    intro nf
    induction nf with
    | zero =>
      intro v1 v2 H locs hP hD hS ls hl hJ
      rw [J_X2_changes_L4] at hJ
      cases hJ
    | succ nf ih =>
      intro v1 v2 H locs hP hD hS ls hl hJ
      rw [J_X2_changes_L4] at hJ
      refine lv_iload_n hx hb dX2_changes_4 rfl (lv_at hl 2 rfl) ?_
      refine lv_aload_n hx hb dX2_changes_5 rfl (lv_at hl 0 rfl) ?_
      refine va_get (ci := 2) (v := .int t_count) (C := RX2) (T := TX2) (N := 10) hx hb hts hin_X2 hown hK hP 0 rfl rfl 0 (by decide) fl_34 (fun _ h9 => h9) rfl dX2_changes_6 ?_
      refine jif_icmp_ge (tgt := 26) hx hb dX2_changes_9 (by decide) hJ (fun hJ => ?_) (fun hJ => ?_)
      · refine lv_iload_n hx hb dX2_changes_26 rfl (lv_at hl 1 rfl) ?_
        have e0 := Option.some.inj hJ
        exact hRet hP hD hS e0 dX2_changes_27
      · refine lv_iload_n hx hb dX2_changes_12 rfl (lv_at hl 1 rfl) ?_
        refine lv_aload_n hx hb dX2_changes_13 rfl (lv_at hl 0 rfl) ?_
        refine lv_iload_n hx hb dX2_changes_14 rfl (lv_at hl 2 rfl) ?_
        obtain ⟨x15, hc15, hJ⟩ := bnd1_some hJ
        refine jcV_i (C := RX2) (T := TX2) (N := 10) (ci := 2) (q0 := 0) (As := [.int v2]) (rest := [.int v1]) (isC := [0, 1]) (isR := []) (isB := [0, 1]) (wr := []) (ws2 := [(q_t, .inr (2, [.int t_count, .ref q_t_kinds, .ref q_t_wicks, .ref q_t_sources, .ref q_t_changes, .long t_state, .int t_areLoopsAllowed, .int t_ticks, .int t_tickChanges, .int t_sets])), (q_t_changes, .inl (cI, 16, .inl t_changes))]) hF (c_X2_changesOf l D cI cJ cC cL q_t q_t_kinds q_t_wicks q_t_sources q_t_changes t_count t_state t_areLoopsAllowed t_ticks t_tickChanges t_sets t_changes v2 x15 hc15 H.size) (cwV 1 hts gX2_changes_X2_changesOf rfl rfl rfl (by decide +kernel) ⟨Nat.le_of_ble_eq_true rfl, Nat.le_of_ble_eq_true rfl⟩) rfl hl rfl (Nat.le_of_ble_eq_true rfl) dX2_changes_15 ⟨Nat.zero_le _, Nat.zero_le _⟩ hK hN KX_T trivial hP hD hS hA rfl rfl rfl rfl rfl rfl (by decide) rfl rfl (fun H locs hP hD hS => ?_)
        refine lv_iadd hx hb dX2_changes_18 ?_
        refine jt_i hJ (fun x18 hJ => ?_)
        refine lv_istore_n (lv' := [(1, .int x18), (0, .ref q_t), (2, .int v2)]) hx hb dX2_changes_19 rfl hl (by decide) rfl (fun ls hl => ?_)
        refine jt_iinc hJ (fun x20 ex20 hJ => ?_)
        refine lv_iinc (v := x20) (lv' := [(2, .int x20), (1, .int x18), (0, .ref q_t)]) hx hb dX2_changes_20 hl (k := 2) rfl ex20 (by decide) rfl (fun ls hl => ?_)
        refine lv_goto (tgt := 4) hx hb dX2_changes_23 (by decide) ?_
        exact ih x18 x20  H locs  hP hD hS _ (lv_sub hl [2, 1, 0] rfl) hJ
  unfold J_X2_changes at hJ
  refine lv_iconst (v := (0 : Int32)) hx hb dX2_changes_0 (by decide) ?_
  refine lv_istore_n (lv' := [(1, .int (0 : Int32)), (0, .ref q_t)]) hx hb dX2_changes_1 rfl hl (by decide) rfl (fun ls hl => ?_)
  refine lv_iconst (v := (0 : Int32)) hx hb dX2_changes_2 (by decide) ?_
  refine lv_istore_n (lv' := [(2, .int (0 : Int32)), (1, .int (0 : Int32)), (0, .ref q_t)]) hx hb dX2_changes_3 rfl hl (by decide) rfl (fun ls hl => ?_)
  exact L4  FU (0 : Int32) (0 : Int32)  s.heap []  hP hD hS _ (lv_sub hl [2, 1, 0] rfl) hJ

def J_X2_behindTick_b115 (k11 : Int32 → Int64 → Int32 → Option (Int64)) (t_count : Int32) (t_kinds : Nat → Int32) (t_wicks : Nat → Int32) (t_sources : Nat → Int32) (v1 : Int64) (v3 : Int32) (v4 : Int64) (v6 : Int32) : Option (Int64) :=
    nm (v6 + Int32.ofInt 1) fun x115 =>
    k11 v3 v4 x115
def J_X2_behindTick_b83 (k11 : Int32 → Int64 → Int32 → Option (Int64)) (t_count : Int32) (t_kinds : Nat → Int32) (t_wicks : Nat → Int32) (t_sources : Nat → Int32) (v1 : Int64) (v3 : Int32) (v4 : Int64) (v6 : Int32) (s83_0 : Int64) (s83_1 : Int64) : Option (Int64) :=
    nm (s83_0 ||| s83_1) fun x83 =>
    nm (x83 &&& (1 : Int64)) fun x91 =>
    nm (v4 ||| (x91 <<< (v6.toInt64 &&& 63))) fun x95 =>
    nm (x83 >>> ((1 : Int32).toInt64 &&& 63)) fun x103 =>
    nm (x95 ||| (x103 <<< (((16 : Int32) + ((3 : Int32) * v6)).toInt64 &&& 63))) fun x112 =>
    J_X2_behindTick_b115 k11 t_count t_kinds t_wicks t_sources v1 v3 x112 v6
def J_X2_behindTick_b121 (t_count : Int32) (t_kinds : Nat → Int32) (t_wicks : Nat → Int32) (t_sources : Nat → Int32) (v1 : Int64) (v4 : Int64) : Option (Int64) :=
    some (v4)
def J_X2_behindTick_L11 (t_count : Int32) (t_kinds : Nat → Int32) (t_wicks : Nat → Int32) (t_sources : Nat → Int32) (v1 : Int64) : Nat → Int32 → Int64 → Int32 → Option (Int64)
  | 0, _, _, _ => none
  | nf + 1, v3, v4, v6 =>
    if t_count ≤ v6 then (
    J_X2_behindTick_b121 t_count t_kinds t_wicks t_sources v1 v4)
    else (
    if (16 : Int32) ≤ v6 then (
    J_X2_behindTick_b121 t_count t_kinds t_wicks t_sources v1 v4)
    else (
    chk v6 16 (
    nm (t_kinds v6.toNatClampNeg) fun x33 =>
    if x33 = 0 then (
    nm (v4 ||| (v1 &&& ((1 : Int64) <<< (v6.toInt64 &&& 63)))) fun x45 =>
    J_X2_behindTick_b115 (fun z0 z1 z2 => J_X2_behindTick_L11 t_count t_kinds t_wicks t_sources v1 nf z0 z1 z2) t_count t_kinds t_wicks t_sources v1 v3 x45 v6)
    else (
    bnd1 (J_X2_foundIn v1 v6) fun x54 =>
    nm (x54.toInt64) fun x57 =>
    bnd1 (J_X2_isFinding t_kinds t_sources v6 v3) fun x62 =>
    if x62 = 0 then (
    J_X2_behindTick_b83 (fun z0 z1 z2 => J_X2_behindTick_L11 t_count t_kinds t_wicks t_sources v1 nf z0 z1 z2) t_count t_kinds t_wicks t_sources v1 v3 v4 v6 x57 (0 : Int64))
    else (
    chk v6 16 (
    nm (t_wicks v6.toNatClampNeg) fun x75 =>
    nm ((1 : Int64) <<< ((x75 - (1 : Int32)).toInt64 &&& 63)) fun x78 =>
    J_X2_behindTick_b83 (fun z0 z1 z2 => J_X2_behindTick_L11 t_count t_kinds t_wicks t_sources v1 nf z0 z1 z2) t_count t_kinds t_wicks t_sources v1 v3 v4 v6 x57 x78))))))
def J_X2_behindTick (t_count : Int32) (t_kinds : Nat → Int32) (t_wicks : Nat → Int32) (t_sources : Nat → Int32) (v1 : Int64) : Option (Int64) :=
    bnd1 (J_X2_glowIn v1) fun x1 =>
    J_X2_behindTick_L11 t_count t_kinds t_wicks t_sources v1 FU x1 (0 : Int64) (0 : Int32)
abbrev rmX2_behindTick : Room := { frames := 1, cells := 0, slots := 0, locals := 26 }
set_option maxHeartbeats 4000000 in
set_option maxRecDepth 100000 in
theorem c_X2_behindTick (l : Launch) (D : va_G) (cI cJ cC cL : ClassId) (q_t q_t_kinds q_t_wicks q_t_sources q_t_changes : Nat) (t_count : Int32) (t_state : Int64) (t_areLoopsAllowed : Int32) (t_ticks : Int32) (t_tickChanges : Int32) (t_sets : Int32) (t_kinds : Nat → Int32) (t_wicks : Nat → Int32) (t_sources : Nat → Int32) (v1 : Int64) (r : Int64) (hJ : J_X2_behindTick t_count t_kinds t_wicks t_sources v1 = some (r)) (sz : Nat) : Met l yX2_behindTick wsX2_behindTick rmX2_behindTick (va_Pc [.ref q_t, .long v1] (jpre XT D (tyL cI cJ cC cL) [(q_t, .inr (2, [.int t_count, .ref q_t_kinds, .ref q_t_wicks, .ref q_t_sources, .ref q_t_changes, .long t_state, .int t_areLoopsAllowed, .int t_ticks, .int t_tickChanges, .int t_sets])), (q_t_kinds, .inl (cI, 16, .inl t_kinds)), (q_t_wicks, .inl (cI, 16, .inl t_wicks)), (q_t_sources, .inl (cI, 48, .inl t_sources))] sz)) (va_Ql (fun r' (_ : Unit) => r' = r) (fun _ t => jpost D (tyL cI cJ cC cL) (va_A [(q_t, .inr (2, [.int t_count, .ref q_t_kinds, .ref q_t_wicks, .ref q_t_sources, .ref q_t_changes, .long t_state, .int t_areLoopsAllowed, .int t_ticks, .int t_tickChanges, .int t_sets])), (q_t_kinds, .inl (cI, 16, .inl t_kinds)), (q_t_wicks, .inl (cI, 16, .inl t_wicks)), (q_t_sources, .inl (cI, 48, .inl t_sources))] sz) [(q_t, .inr (2, [.int t_count, .ref q_t_kinds, .ref q_t_wicks, .ref q_t_sources, .ref q_t_changes, .long t_state, .int t_areLoopsAllowed, .int t_ticks, .int t_tickChanges, .int t_sets])), (q_t_kinds, .inl (cI, 16, .inl t_kinds)), (q_t_wicks, .inl (cI, 16, .inl t_wicks)), (q_t_sources, .inl (cI, 48, .inl t_sources))] t) (va_A [(q_t, .inr (2, [.int t_count, .ref q_t_kinds, .ref q_t_wicks, .ref q_t_sources, .ref q_t_changes, .long t_state, .int t_areLoopsAllowed, .int t_ticks, .int t_tickChanges, .int t_sets])), (q_t_kinds, .inl (cI, 16, .inl t_kinds)), (q_t_wicks, .inl (cI, 16, .inl t_wicks)), (q_t_sources, .inl (cI, 48, .inl t_sources))] sz)) 0 0 (va_A [(q_t, .inr (2, [.int t_count, .ref q_t_kinds, .ref q_t_wicks, .ref q_t_sources, .ref q_t_changes, .long t_state, .int t_areLoopsAllowed, .int t_ticks, .int t_tickChanges, .int t_sets])), (q_t_kinds, .inl (cI, 16, .inl t_kinds)), (q_t_wicks, .inl (cI, 16, .inl t_wicks)), (q_t_sources, .inl (cI, 48, .inl t_sources))] sz) := by
  refine jE_l (cc := cX2_behindTick) (maxL := 9) (own := RX2) (ret := (some .long)) (lv0 := [(0, .ref q_t), (1, .long v1)]) (by decide) rfl rfl rfl (Nat.le_of_ble_eq_true rfl) rfl ?_
  intro p e s m args below meth c A Q ls hx hb hml hown hts hK hN hX hA hP hD hS hl hRet
  have hF : CallFix p m c cX2_behindTick 9 s args wsX2_behindTick RX2 := ⟨hx, hb, hml, hown, hts⟩
  have fl_9 := hts (.fieldLink RX2 9 "LanternLogic$Lanterns" "kinds" "[I") (by decide +kernel)
  have fl_15 := hts (.fieldLink RX2 15 "LanternLogic$Lanterns" "wicks" "[I") (by decide +kernel)
  have fl_34 := hts (.fieldLink RX2 34 "LanternLogic$Lanterns" "count" "I") (by decide +kernel)
  have hin_X2 : ∀ w ∈ u_ws RX2 TX2 10, w ∈ wsX2_behindTick := by decide +kernel
  have B115 : ∀ (k11 : Int32 → Int64 → Int32 → Option (Int64)), (∀ (v3 : Int32) (v4 : Int64) (v6 : Int32) (H : Heap) (locs : List Loc), va_P D vwCl [(q_t, .inr (2, [.int t_count, .ref q_t_kinds, .ref q_t_wicks, .ref q_t_sources, .ref q_t_changes, .long t_state, .int t_areLoopsAllowed, .int t_ticks, .int t_tickChanges, .int t_sets])), (q_t_kinds, .inl (cI, 16, .inl t_kinds)), (q_t_wicks, .inl (cI, 16, .inl t_wicks)), (q_t_sources, .inl (cI, 48, .inl t_sources))] H → va_D A [(q_t, .inr (2, [.int t_count, .ref q_t_kinds, .ref q_t_wicks, .ref q_t_sources, .ref q_t_changes, .long t_state, .int t_areLoopsAllowed, .int t_ticks, .int t_tickChanges, .int t_sets])), (q_t_kinds, .inl (cI, 16, .inl t_kinds)), (q_t_wicks, .inl (cI, 16, .inl t_wicks)), (q_t_sources, .inl (cI, 48, .inl t_sources))] → va_S A s.heap H locs → ∀ ls : Array Slot, lv_has ls 9 [(0, .ref q_t), (1, .long v1), (3, .int v3), (4, .long v4), (6, .int v6)] → k11 v3 v4 v6 = some (r) → W p l e rmX2_behindTick s m args below meth c H locs 0 0 Q (F0 m 11 ls [])) → ∀ (v3 : Int32) (v4 : Int64) (v6 : Int32) (H : Heap) (locs : List Loc), va_P D vwCl [(q_t, .inr (2, [.int t_count, .ref q_t_kinds, .ref q_t_wicks, .ref q_t_sources, .ref q_t_changes, .long t_state, .int t_areLoopsAllowed, .int t_ticks, .int t_tickChanges, .int t_sets])), (q_t_kinds, .inl (cI, 16, .inl t_kinds)), (q_t_wicks, .inl (cI, 16, .inl t_wicks)), (q_t_sources, .inl (cI, 48, .inl t_sources))] H → va_D A [(q_t, .inr (2, [.int t_count, .ref q_t_kinds, .ref q_t_wicks, .ref q_t_sources, .ref q_t_changes, .long t_state, .int t_areLoopsAllowed, .int t_ticks, .int t_tickChanges, .int t_sets])), (q_t_kinds, .inl (cI, 16, .inl t_kinds)), (q_t_wicks, .inl (cI, 16, .inl t_wicks)), (q_t_sources, .inl (cI, 48, .inl t_sources))] → va_S A s.heap H locs → ∀ ls : Array Slot, lv_has ls 9 [(0, .ref q_t), (1, .long v1), (3, .int v3), (4, .long v4), (6, .int v6)] → J_X2_behindTick_b115 k11 t_count t_kinds t_wicks t_sources v1 v3 v4 v6 = some (r) → W p l e rmX2_behindTick s m args below meth c H locs 0 0 Q (F0 m 115 ls []) := by
    intro k11 hk11 v3 v4 v6 H locs hP hD hS ls hl hJ
    unfold J_X2_behindTick_b115 at hJ
    refine jt_iinc hJ (fun x115 ex115 hJ => ?_)
    refine lv_iinc (v := x115) (lv' := [(6, .int x115), (0, .ref q_t), (1, .long v1), (3, .int v3), (4, .long v4)]) hx hb dX2_behindTick_115 hl (k := 4) rfl ex115 (by decide) rfl (fun ls hl => ?_)
    refine lv_goto (tgt := 11) hx hb dX2_behindTick_118 (by decide) ?_
    exact hk11 v3 v4 x115  H locs  hP hD hS _ (lv_sub hl [1, 2, 3, 4, 0] rfl) hJ
  have B83 : ∀ (k11 : Int32 → Int64 → Int32 → Option (Int64)), (∀ (v3 : Int32) (v4 : Int64) (v6 : Int32) (H : Heap) (locs : List Loc), va_P D vwCl [(q_t, .inr (2, [.int t_count, .ref q_t_kinds, .ref q_t_wicks, .ref q_t_sources, .ref q_t_changes, .long t_state, .int t_areLoopsAllowed, .int t_ticks, .int t_tickChanges, .int t_sets])), (q_t_kinds, .inl (cI, 16, .inl t_kinds)), (q_t_wicks, .inl (cI, 16, .inl t_wicks)), (q_t_sources, .inl (cI, 48, .inl t_sources))] H → va_D A [(q_t, .inr (2, [.int t_count, .ref q_t_kinds, .ref q_t_wicks, .ref q_t_sources, .ref q_t_changes, .long t_state, .int t_areLoopsAllowed, .int t_ticks, .int t_tickChanges, .int t_sets])), (q_t_kinds, .inl (cI, 16, .inl t_kinds)), (q_t_wicks, .inl (cI, 16, .inl t_wicks)), (q_t_sources, .inl (cI, 48, .inl t_sources))] → va_S A s.heap H locs → ∀ ls : Array Slot, lv_has ls 9 [(0, .ref q_t), (1, .long v1), (3, .int v3), (4, .long v4), (6, .int v6)] → k11 v3 v4 v6 = some (r) → W p l e rmX2_behindTick s m args below meth c H locs 0 0 Q (F0 m 11 ls [])) → ∀ (v3 : Int32) (v4 : Int64) (v6 : Int32) (s83_0 : Int64) (s83_1 : Int64) (H : Heap) (locs : List Loc), va_P D vwCl [(q_t, .inr (2, [.int t_count, .ref q_t_kinds, .ref q_t_wicks, .ref q_t_sources, .ref q_t_changes, .long t_state, .int t_areLoopsAllowed, .int t_ticks, .int t_tickChanges, .int t_sets])), (q_t_kinds, .inl (cI, 16, .inl t_kinds)), (q_t_wicks, .inl (cI, 16, .inl t_wicks)), (q_t_sources, .inl (cI, 48, .inl t_sources))] H → va_D A [(q_t, .inr (2, [.int t_count, .ref q_t_kinds, .ref q_t_wicks, .ref q_t_sources, .ref q_t_changes, .long t_state, .int t_areLoopsAllowed, .int t_ticks, .int t_tickChanges, .int t_sets])), (q_t_kinds, .inl (cI, 16, .inl t_kinds)), (q_t_wicks, .inl (cI, 16, .inl t_wicks)), (q_t_sources, .inl (cI, 48, .inl t_sources))] → va_S A s.heap H locs → ∀ ls : Array Slot, lv_has ls 9 [(0, .ref q_t), (1, .long v1), (3, .int v3), (4, .long v4), (6, .int v6)] → J_X2_behindTick_b83 k11 t_count t_kinds t_wicks t_sources v1 v3 v4 v6 s83_0 s83_1 = some (r) → W p l e rmX2_behindTick s m args below meth c H locs 0 0 Q (F0 m 83 ls [.long s83_1, .long s83_0]) := by
    intro k11 hk11 v3 v4 v6 s83_0 s83_1 H locs hP hD hS ls hl hJ
    unfold J_X2_behindTick_b83 at hJ
    refine lv_lor hx hb dX2_behindTick_83 ?_
    refine jt_l hJ (fun x83 hJ => ?_)
    refine lv_lstore (lv' := [(7, .long x83), (0, .ref q_t), (1, .long v1), (3, .int v3), (4, .long v4), (6, .int v6)]) hx hb dX2_behindTick_84 hl (by decide) rfl (fun ls hl => ?_)
    refine lv_lload hx hb dX2_behindTick_86 (lv_at hl 4 rfl) ?_
    refine lv_lload hx hb dX2_behindTick_88 (lv_at hl 0 rfl) ?_
    refine lv_lconst (v := (1 : Int64)) hx hb dX2_behindTick_90 (by decide) ?_
    refine lv_land hx hb dX2_behindTick_91 ?_
    refine jt_l hJ (fun x91 hJ => ?_)
    refine lv_iload hx hb dX2_behindTick_92 (lv_at hl 5 rfl) ?_
    refine lv_lshl (v := x91 <<< (v6.toInt64 &&& 63)) hx hb dX2_behindTick_94 rfl ?_
    refine lv_lor hx hb dX2_behindTick_95 ?_
    refine jt_l hJ (fun x95 hJ => ?_)
    refine lv_lstore (lv' := [(4, .long x95), (7, .long x83), (0, .ref q_t), (1, .long v1), (3, .int v3), (6, .int v6)]) hx hb dX2_behindTick_96 hl (by decide) rfl (fun ls hl => ?_)
    refine lv_lload hx hb dX2_behindTick_98 (lv_at hl 0 rfl) ?_
    refine lv_lload hx hb dX2_behindTick_100 (lv_at hl 1 rfl) ?_
    refine lv_iconst (v := (1 : Int32)) hx hb dX2_behindTick_102 (by decide) ?_
    refine lv_lshr (v := x83 >>> ((1 : Int32).toInt64 &&& 63)) hx hb dX2_behindTick_103 rfl ?_
    refine jt_l hJ (fun x103 hJ => ?_)
    refine lv_bipush (v := (16 : Int32)) hx hb dX2_behindTick_104 (by decide) ?_
    refine lv_iconst (v := (3 : Int32)) hx hb dX2_behindTick_106 (by decide) ?_
    refine lv_iload hx hb dX2_behindTick_107 (lv_at hl 5 rfl) ?_
    refine lv_imul hx hb dX2_behindTick_109 ?_
    refine lv_iadd hx hb dX2_behindTick_110 ?_
    refine lv_lshl (v := x103 <<< (((16 : Int32) + ((3 : Int32) * v6)).toInt64 &&& 63)) hx hb dX2_behindTick_111 rfl ?_
    refine lv_lor hx hb dX2_behindTick_112 ?_
    refine jt_l hJ (fun x112 hJ => ?_)
    refine lv_lstore (lv' := [(4, .long x112), (7, .long x83), (0, .ref q_t), (1, .long v1), (3, .int v3), (6, .int v6)]) hx hb dX2_behindTick_113 hl (by decide) rfl (fun ls hl => ?_)
    exact B115 k11 hk11 v3 x112 v6  H locs  hP hD hS _ (lv_sub hl [2, 3, 4, 0, 5] rfl) hJ
  have B121 : ∀ (v4 : Int64) (H : Heap) (locs : List Loc), va_P D vwCl [(q_t, .inr (2, [.int t_count, .ref q_t_kinds, .ref q_t_wicks, .ref q_t_sources, .ref q_t_changes, .long t_state, .int t_areLoopsAllowed, .int t_ticks, .int t_tickChanges, .int t_sets])), (q_t_kinds, .inl (cI, 16, .inl t_kinds)), (q_t_wicks, .inl (cI, 16, .inl t_wicks)), (q_t_sources, .inl (cI, 48, .inl t_sources))] H → va_D A [(q_t, .inr (2, [.int t_count, .ref q_t_kinds, .ref q_t_wicks, .ref q_t_sources, .ref q_t_changes, .long t_state, .int t_areLoopsAllowed, .int t_ticks, .int t_tickChanges, .int t_sets])), (q_t_kinds, .inl (cI, 16, .inl t_kinds)), (q_t_wicks, .inl (cI, 16, .inl t_wicks)), (q_t_sources, .inl (cI, 48, .inl t_sources))] → va_S A s.heap H locs → ∀ ls : Array Slot, lv_has ls 9 [(4, .long v4)] → J_X2_behindTick_b121  t_count t_kinds t_wicks t_sources v1 v4 = some (r) → W p l e rmX2_behindTick s m args below meth c H locs 0 0 Q (F0 m 121 ls []) := by
    intro v4 H locs hP hD hS ls hl hJ
    unfold J_X2_behindTick_b121 at hJ
    refine lv_lload hx hb dX2_behindTick_121 (lv_at hl 0 rfl) ?_
    have e0 := Option.some.inj hJ
    exact hRet hP hD hS e0 dX2_behindTick_123
  have L11 : ∀ (nf : Nat), ∀ (v3 : Int32) (v4 : Int64) (v6 : Int32) (H : Heap) (locs : List Loc), va_P D vwCl [(q_t, .inr (2, [.int t_count, .ref q_t_kinds, .ref q_t_wicks, .ref q_t_sources, .ref q_t_changes, .long t_state, .int t_areLoopsAllowed, .int t_ticks, .int t_tickChanges, .int t_sets])), (q_t_kinds, .inl (cI, 16, .inl t_kinds)), (q_t_wicks, .inl (cI, 16, .inl t_wicks)), (q_t_sources, .inl (cI, 48, .inl t_sources))] H → va_D A [(q_t, .inr (2, [.int t_count, .ref q_t_kinds, .ref q_t_wicks, .ref q_t_sources, .ref q_t_changes, .long t_state, .int t_areLoopsAllowed, .int t_ticks, .int t_tickChanges, .int t_sets])), (q_t_kinds, .inl (cI, 16, .inl t_kinds)), (q_t_wicks, .inl (cI, 16, .inl t_wicks)), (q_t_sources, .inl (cI, 48, .inl t_sources))] → va_S A s.heap H locs → ∀ ls : Array Slot, lv_has ls 9 [(0, .ref q_t), (1, .long v1), (3, .int v3), (4, .long v4), (6, .int v6)] → J_X2_behindTick_L11  t_count t_kinds t_wicks t_sources v1 nf v3 v4 v6 = some (r) → W p l e rmX2_behindTick s m args below meth c H locs 0 0 Q (F0 m 11 ls []) := by
    intro nf
    induction nf with
    | zero =>
      intro v3 v4 v6 H locs hP hD hS ls hl hJ
      rw [J_X2_behindTick_L11] at hJ
      cases hJ
    | succ nf ih =>
      intro v3 v4 v6 H locs hP hD hS ls hl hJ
      rw [J_X2_behindTick_L11] at hJ
      refine lv_iload hx hb dX2_behindTick_11 (lv_at hl 4 rfl) ?_
      refine lv_aload_n hx hb dX2_behindTick_13 rfl (lv_at hl 0 rfl) ?_
      refine va_get (ci := 2) (v := .int t_count) (C := RX2) (T := TX2) (N := 10) hx hb hts hin_X2 hown hK hP 0 rfl rfl 0 (by decide) fl_34 (fun _ h9 => h9) rfl dX2_behindTick_14 ?_
      refine jif_icmp_ge (tgt := 121) hx hb dX2_behindTick_17 (by decide) hJ (fun hJ => ?_) (fun hJ => ?_)
      · exact B121  v4  H locs  hP hD hS _ (lv_sub hl [3] rfl) hJ
      · refine lv_iload hx hb dX2_behindTick_20 (lv_at hl 4 rfl) ?_
        refine lv_bipush (v := (16 : Int32)) hx hb dX2_behindTick_22 (by decide) ?_
        refine jif_icmp_ge (tgt := 121) hx hb dX2_behindTick_24 (by decide) hJ (fun hJ => ?_) (fun hJ => ?_)
        · exact B121  v4  H locs  hP hD hS _ (lv_sub hl [3] rfl) hJ
        · refine lv_aload_n hx hb dX2_behindTick_27 rfl (lv_at hl 0 rfl) ?_
          refine va_get (ci := 2) (v := .ref q_t_kinds) (C := RX2) (T := TX2) (N := 10) hx hb hts hin_X2 hown hK hP 0 rfl rfl 1 (by decide) fl_9 (fun _ h9 => h9) rfl dX2_behindTick_28 ?_
          refine lv_iload hx hb dX2_behindTick_31 (lv_at hl 4 rfl) ?_
          obtain ⟨hin, hJ⟩ := chk_in hJ
          refine va_iald hx hb hK hP 1 0 rfl rfl hin dX2_behindTick_33 ?_
          refine jt_i hJ (fun x33 hJ => ?_)
          refine jif_ne (tgt := 51) hx hb dX2_behindTick_34 (by decide) hJ (fun hJ => ?_) (fun hJ => ?_)
          · refine lv_lload_n hx hb dX2_behindTick_51 rfl (lv_at hl 1 rfl) ?_
            refine lv_iload hx hb dX2_behindTick_52 (lv_at hl 4 rfl) ?_
            obtain ⟨x54, hc54, hJ⟩ := bnd1_some hJ
            refine jcS_i (As := [.long v1, .int v6]) (rest := []) (isC := []) (isR := [0, 1, 2, 3]) (isB := [0, 1, 2, 3]) (wr := [(q_t, .inr (2, [.int t_count, .ref q_t_kinds, .ref q_t_wicks, .ref q_t_sources, .ref q_t_changes, .long t_state, .int t_areLoopsAllowed, .int t_ticks, .int t_tickChanges, .int t_sets])), (q_t_kinds, .inl (cI, 16, .inl t_kinds)), (q_t_wicks, .inl (cI, 16, .inl t_wicks)), (q_t_sources, .inl (cI, 48, .inl t_sources))]) (ws2 := [(q_t, .inr (2, [.int t_count, .ref q_t_kinds, .ref q_t_wicks, .ref q_t_sources, .ref q_t_changes, .long t_state, .int t_areLoopsAllowed, .int t_ticks, .int t_tickChanges, .int t_sets])), (q_t_kinds, .inl (cI, 16, .inl t_kinds)), (q_t_wicks, .inl (cI, 16, .inl t_wicks)), (q_t_sources, .inl (cI, 48, .inl t_sources))]) hF (c_X2_foundIn l D cI cJ cC cL v1 v6 x54 hc54 H.size) (va_cwS 2 hts gX2_behindTick_X2_foundIn rfl rfl rfl (by decide +kernel) ⟨Nat.le_of_ble_eq_true rfl, Nat.le_of_ble_eq_true rfl⟩) rfl hl rfl (Nat.le_of_ble_eq_true rfl) dX2_behindTick_54 ⟨Nat.zero_le _, Nat.zero_le _⟩ hK hN KX_T trivial hP hD hS hA rfl rfl rfl rfl (by decide) rfl rfl (fun H locs hP hD hS => ?_)
            refine lv_i2l (v := x54.toInt64) hx hb dX2_behindTick_57 rfl ?_
            refine jt_l hJ (fun x57 hJ => ?_)
            refine lv_aload_n hx hb dX2_behindTick_58 rfl (lv_at hl 0 rfl) ?_
            refine lv_iload hx hb dX2_behindTick_59 (lv_at hl 4 rfl) ?_
            refine lv_iload_n hx hb dX2_behindTick_61 rfl (lv_at hl 2 rfl) ?_
            obtain ⟨x62, hc62, hJ⟩ := bnd1_some hJ
            refine jcV_i (C := RX2) (T := TX2) (N := 10) (ci := 2) (q0 := 0) (As := [.int v6, .int v3]) (rest := [.long x57]) (isC := [0, 1, 3]) (isR := [2]) (isB := [1, 2, 0, 3]) (wr := [(q_t_wicks, .inl (cI, 16, .inl t_wicks))]) (ws2 := [(q_t, .inr (2, [.int t_count, .ref q_t_kinds, .ref q_t_wicks, .ref q_t_sources, .ref q_t_changes, .long t_state, .int t_areLoopsAllowed, .int t_ticks, .int t_tickChanges, .int t_sets])), (q_t_kinds, .inl (cI, 16, .inl t_kinds)), (q_t_wicks, .inl (cI, 16, .inl t_wicks)), (q_t_sources, .inl (cI, 48, .inl t_sources))]) hF (c_X2_isFinding l D cI cJ cC cL q_t q_t_kinds q_t_wicks q_t_sources q_t_changes t_count t_state t_areLoopsAllowed t_ticks t_tickChanges t_sets t_kinds t_sources v6 v3 x62 hc62 H.size) (cwV 2 hts gX2_behindTick_X2_isFinding rfl rfl rfl (by decide +kernel) ⟨Nat.le_of_ble_eq_true rfl, Nat.le_of_ble_eq_true rfl⟩) rfl hl rfl (Nat.le_of_ble_eq_true rfl) dX2_behindTick_62 ⟨Nat.zero_le _, Nat.zero_le _⟩ hK hN KX_T trivial hP hD hS hA rfl rfl rfl rfl rfl rfl (by decide) rfl rfl (fun H locs hP hD hS => ?_)
            refine jif_eq (tgt := 82) hx hb dX2_behindTick_65 (by decide) hJ (fun hJ => ?_) (fun hJ => ?_)
            · refine lv_lconst (v := (0 : Int64)) hx hb dX2_behindTick_82 (by decide) ?_
              exact B83 (fun z0 z1 z2 => J_X2_behindTick_L11 t_count t_kinds t_wicks t_sources v1 nf z0 z1 z2) ih v3 v4 v6 x57 (0 : Int64)  H locs  hP hD hS _ (lv_sub hl [0, 1, 2, 3, 4] rfl) hJ
            · refine lv_lconst (v := (1 : Int64)) hx hb dX2_behindTick_68 (by decide) ?_
              refine lv_aload_n hx hb dX2_behindTick_69 rfl (lv_at hl 0 rfl) ?_
              refine va_get (ci := 2) (v := .ref q_t_wicks) (C := RX2) (T := TX2) (N := 10) hx hb hts hin_X2 hown hK hP 0 rfl rfl 2 (by decide) fl_15 (fun _ h9 => h9) rfl dX2_behindTick_70 ?_
              refine lv_iload hx hb dX2_behindTick_73 (lv_at hl 4 rfl) ?_
              obtain ⟨hin, hJ⟩ := chk_in hJ
              refine va_iald hx hb hK hP 2 0 rfl rfl hin dX2_behindTick_75 ?_
              refine jt_i hJ (fun x75 hJ => ?_)
              refine lv_iconst (v := (1 : Int32)) hx hb dX2_behindTick_76 (by decide) ?_
              refine lv_isub hx hb dX2_behindTick_77 ?_
              refine lv_lshl (v := (1 : Int64) <<< ((x75 - (1 : Int32)).toInt64 &&& 63)) hx hb dX2_behindTick_78 rfl ?_
              refine jt_l hJ (fun x78 hJ => ?_)
              refine lv_goto (tgt := 83) hx hb dX2_behindTick_79 (by decide) ?_
              exact B83 (fun z0 z1 z2 => J_X2_behindTick_L11 t_count t_kinds t_wicks t_sources v1 nf z0 z1 z2) ih v3 v4 v6 x57 x78  H locs  hP hD hS _ (lv_sub hl [0, 1, 2, 3, 4] rfl) hJ
          · refine lv_lload hx hb dX2_behindTick_37 (lv_at hl 3 rfl) ?_
            refine lv_lload_n hx hb dX2_behindTick_39 rfl (lv_at hl 1 rfl) ?_
            refine lv_lconst (v := (1 : Int64)) hx hb dX2_behindTick_40 (by decide) ?_
            refine lv_iload hx hb dX2_behindTick_41 (lv_at hl 4 rfl) ?_
            refine lv_lshl (v := (1 : Int64) <<< (v6.toInt64 &&& 63)) hx hb dX2_behindTick_43 rfl ?_
            refine lv_land hx hb dX2_behindTick_44 ?_
            refine lv_lor hx hb dX2_behindTick_45 ?_
            refine jt_l hJ (fun x45 hJ => ?_)
            refine lv_lstore (lv' := [(4, .long x45), (0, .ref q_t), (1, .long v1), (3, .int v3), (6, .int v6)]) hx hb dX2_behindTick_46 hl (by decide) rfl (fun ls hl => ?_)
            refine lv_goto (tgt := 115) hx hb dX2_behindTick_48 (by decide) ?_
            exact B115 (fun z0 z1 z2 => J_X2_behindTick_L11 t_count t_kinds t_wicks t_sources v1 nf z0 z1 z2) ih v3 x45 v6  H locs  hP hD hS _ (lv_sub hl [1, 2, 3, 0, 4] rfl) hJ
  unfold J_X2_behindTick at hJ
  refine lv_lload_n hx hb dX2_behindTick_0 rfl (lv_at hl 1 rfl) ?_
  obtain ⟨x1, hc1, hJ⟩ := bnd1_some hJ
  refine jcS_i (As := [.long v1]) (rest := []) (isC := []) (isR := [0, 1, 2, 3]) (isB := [0, 1, 2, 3]) (wr := [(q_t, .inr (2, [.int t_count, .ref q_t_kinds, .ref q_t_wicks, .ref q_t_sources, .ref q_t_changes, .long t_state, .int t_areLoopsAllowed, .int t_ticks, .int t_tickChanges, .int t_sets])), (q_t_kinds, .inl (cI, 16, .inl t_kinds)), (q_t_wicks, .inl (cI, 16, .inl t_wicks)), (q_t_sources, .inl (cI, 48, .inl t_sources))]) (ws2 := [(q_t, .inr (2, [.int t_count, .ref q_t_kinds, .ref q_t_wicks, .ref q_t_sources, .ref q_t_changes, .long t_state, .int t_areLoopsAllowed, .int t_ticks, .int t_tickChanges, .int t_sets])), (q_t_kinds, .inl (cI, 16, .inl t_kinds)), (q_t_wicks, .inl (cI, 16, .inl t_wicks)), (q_t_sources, .inl (cI, 48, .inl t_sources))]) hF (c_X2_glowIn l D cI cJ cC cL v1 x1 hc1 s.heap.size) (va_cwS 1 hts gX2_behindTick_X2_glowIn rfl rfl rfl (by decide +kernel) ⟨Nat.le_of_ble_eq_true rfl, Nat.le_of_ble_eq_true rfl⟩) rfl hl rfl (Nat.le_of_ble_eq_true rfl) dX2_behindTick_1 ⟨Nat.zero_le _, Nat.zero_le _⟩ hK hN KX_T trivial hP hD hS hA rfl rfl rfl rfl (by decide) rfl rfl (fun H locs hP hD hS => ?_)
  refine lv_istore_n (lv' := [(3, .int x1), (0, .ref q_t), (1, .long v1)]) hx hb dX2_behindTick_4 rfl hl (by decide) rfl (fun ls hl => ?_)
  refine lv_lconst (v := (0 : Int64)) hx hb dX2_behindTick_5 (by decide) ?_
  refine lv_lstore (lv' := [(4, .long (0 : Int64)), (3, .int x1), (0, .ref q_t), (1, .long v1)]) hx hb dX2_behindTick_6 hl (by decide) rfl (fun ls hl => ?_)
  refine lv_iconst (v := (0 : Int32)) hx hb dX2_behindTick_8 (by decide) ?_
  refine lv_istore (lv' := [(6, .int (0 : Int32)), (4, .long (0 : Int64)), (3, .int x1), (0, .ref q_t), (1, .long v1)]) hx hb dX2_behindTick_9 hl (by decide) rfl (fun ls hl => ?_)
  exact L11  FU x1 (0 : Int64) (0 : Int32)  H locs  hP hD hS _ (lv_sub hl [3, 4, 2, 1, 0] rfl) hJ

def J_X2_goOn_L22 (t_count : Int32) (t_kinds : Nat → Int32) (t_wicks : Nat → Int32) (t_sources : Nat → Int32) : Nat → Int64 → Int32 → Int32 → (Nat → Int32) → Int64 → Int32 → Int32 → Option (Int32 × Int64 × Int32 × Int32 × (Nat → Int32))
  | 0, _, _, _, _, _, _, _ => none
  | nf + 1, t_state, t_ticks, t_tickChanges, t_changes, v1, v3, v4 =>
    if (16 : Int32) ≤ v4 then (
    bnd1 (J_J6_bitCount_0f7a4 v3) fun x52 =>
    nm (t_ticks + (1 : Int32)) fun x68 =>
    nm (t_tickChanges + x52) fun x79 =>
    some (x52, v1, x68, x79, t_changes))
    else (
    chk v4 16 (
    nm (t_changes v4.toNatClampNeg) fun x36 =>
    nm (v3 >>> (v4 &&& 31)) fun x40 =>
    nm (x36 + (x40 &&& (1 : Int32))) fun x43 =>
    chk v4 16 (
    nm (v4 + Int32.ofInt 1) fun x45 =>
    J_X2_goOn_L22 t_count t_kinds t_wicks t_sources nf t_state t_ticks t_tickChanges (upd t_changes v4.toNatClampNeg x43) v1 v3 x45)))
def J_X2_goOn (t_count : Int32) (t_state : Int64) (t_ticks : Int32) (t_tickChanges : Int32) (t_kinds : Nat → Int32) (t_wicks : Nat → Int32) (t_sources : Nat → Int32) (t_changes : Nat → Int32) : Option (Int32 × Int64 × Int32 × Int32 × (Nat → Int32)) :=
    bnd1 (J_X2_behindTick t_count t_kinds t_wicks t_sources t_state) fun x5 =>
    nm (t_state ^^^ x5) fun x14 =>
    bnd1 (J_X2_glowIn x14) fun x15 =>
    J_X2_goOn_L22 t_count t_kinds t_wicks t_sources FU t_state t_ticks t_tickChanges t_changes x5 x15 (0 : Int32)
abbrev rmX2_goOn : Room := { frames := 2, cells := 0, slots := 0, locals := 54 }
set_option maxHeartbeats 4000000 in
set_option maxRecDepth 100000 in
theorem c_X2_goOn (l : Launch) (D : va_G) (cI cJ cC cL : ClassId) (q_t q_t_kinds q_t_wicks q_t_sources q_t_changes : Nat) (t_count : Int32) (t_state : Int64) (t_areLoopsAllowed : Int32) (t_ticks : Int32) (t_tickChanges : Int32) (t_sets : Int32) (t_kinds : Nat → Int32) (t_wicks : Nat → Int32) (t_sources : Nat → Int32) (t_changes : Nat → Int32) (r : Int32) (o_t_state : Int64) (o_t_ticks : Int32) (o_t_tickChanges : Int32) (o_t_changes : Nat → Int32) (hJ : J_X2_goOn t_count t_state t_ticks t_tickChanges t_kinds t_wicks t_sources t_changes = some (r, o_t_state, o_t_ticks, o_t_tickChanges, o_t_changes)) (sz : Nat) : Met l yX2_goOn wsX2_goOn rmX2_goOn (va_Pc [.ref q_t] (jpre XT D (tyL cI cJ cC cL) [(q_t, .inr (2, [.int t_count, .ref q_t_kinds, .ref q_t_wicks, .ref q_t_sources, .ref q_t_changes, .long t_state, .int t_areLoopsAllowed, .int t_ticks, .int t_tickChanges, .int t_sets])), (q_t_kinds, .inl (cI, 16, .inl t_kinds)), (q_t_wicks, .inl (cI, 16, .inl t_wicks)), (q_t_sources, .inl (cI, 48, .inl t_sources)), (q_t_changes, .inl (cI, 16, .inl t_changes))] sz)) (va_Qi (fun r' (_ : Unit) => r' = r) (fun _ t => jpost D (tyL cI cJ cC cL) (va_A [(q_t, .inr (2, [.int t_count, .ref q_t_kinds, .ref q_t_wicks, .ref q_t_sources, .ref q_t_changes, .long t_state, .int t_areLoopsAllowed, .int t_ticks, .int t_tickChanges, .int t_sets])), (q_t_kinds, .inl (cI, 16, .inl t_kinds)), (q_t_wicks, .inl (cI, 16, .inl t_wicks)), (q_t_sources, .inl (cI, 48, .inl t_sources)), (q_t_changes, .inl (cI, 16, .inl t_changes))] sz) [(q_t, .inr (2, [.int t_count, .ref q_t_kinds, .ref q_t_wicks, .ref q_t_sources, .ref q_t_changes, .long o_t_state, .int t_areLoopsAllowed, .int o_t_ticks, .int o_t_tickChanges, .int t_sets])), (q_t_kinds, .inl (cI, 16, .inl t_kinds)), (q_t_wicks, .inl (cI, 16, .inl t_wicks)), (q_t_sources, .inl (cI, 48, .inl t_sources)), (q_t_changes, .inl (cI, 16, .inl o_t_changes))] t) (va_A [(q_t, .inr (2, [.int t_count, .ref q_t_kinds, .ref q_t_wicks, .ref q_t_sources, .ref q_t_changes, .long t_state, .int t_areLoopsAllowed, .int t_ticks, .int t_tickChanges, .int t_sets])), (q_t_kinds, .inl (cI, 16, .inl t_kinds)), (q_t_wicks, .inl (cI, 16, .inl t_wicks)), (q_t_sources, .inl (cI, 48, .inl t_sources)), (q_t_changes, .inl (cI, 16, .inl t_changes))] sz)) 0 0 (va_A [(q_t, .inr (2, [.int t_count, .ref q_t_kinds, .ref q_t_wicks, .ref q_t_sources, .ref q_t_changes, .long t_state, .int t_areLoopsAllowed, .int t_ticks, .int t_tickChanges, .int t_sets])), (q_t_kinds, .inl (cI, 16, .inl t_kinds)), (q_t_wicks, .inl (cI, 16, .inl t_wicks)), (q_t_sources, .inl (cI, 48, .inl t_sources)), (q_t_changes, .inl (cI, 16, .inl t_changes))] sz) := by
  refine jE_i (cc := cX2_goOn) (maxL := 5) (own := RX2) (ret := (some .int)) (lv0 := [(0, .ref q_t)]) (by decide) rfl rfl rfl (Nat.le_of_ble_eq_true rfl) rfl ?_
  intro p e s m args below meth c A Q ls hx hb hml hown hts hK hN hX hA hP hD hS hl hRet
  have hF : CallFix p m c cX2_goOn 5 s args wsX2_goOn RX2 := ⟨hx, hb, hml, hown, hts⟩
  have fl_21 := hts (.fieldLink RX2 21 "LanternLogic$Lanterns" "changes" "[I") (by decide +kernel)
  have fl_44 := hts (.fieldLink RX2 44 "LanternLogic$Lanterns" "state" "J") (by decide +kernel)
  have fl_48 := hts (.fieldLink RX2 48 "LanternLogic$Lanterns" "ticks" "I") (by decide +kernel)
  have fl_51 := hts (.fieldLink RX2 51 "LanternLogic$Lanterns" "tickChanges" "I") (by decide +kernel)
  have hin_X2 : ∀ w ∈ u_ws RX2 TX2 10, w ∈ wsX2_goOn := by decide +kernel
  have L22 : ∀ (nf : Nat), ∀ (t_state : Int64) (t_ticks : Int32) (t_tickChanges : Int32) (t_changes : Nat → Int32) (v1 : Int64) (v3 : Int32) (v4 : Int32) (H : Heap) (locs : List Loc), va_P D vwCl [(q_t, .inr (2, [.int t_count, .ref q_t_kinds, .ref q_t_wicks, .ref q_t_sources, .ref q_t_changes, .long t_state, .int t_areLoopsAllowed, .int t_ticks, .int t_tickChanges, .int t_sets])), (q_t_kinds, .inl (cI, 16, .inl t_kinds)), (q_t_wicks, .inl (cI, 16, .inl t_wicks)), (q_t_sources, .inl (cI, 48, .inl t_sources)), (q_t_changes, .inl (cI, 16, .inl t_changes))] H → va_D A [(q_t, .inr (2, [.int t_count, .ref q_t_kinds, .ref q_t_wicks, .ref q_t_sources, .ref q_t_changes, .long t_state, .int t_areLoopsAllowed, .int t_ticks, .int t_tickChanges, .int t_sets])), (q_t_kinds, .inl (cI, 16, .inl t_kinds)), (q_t_wicks, .inl (cI, 16, .inl t_wicks)), (q_t_sources, .inl (cI, 48, .inl t_sources)), (q_t_changes, .inl (cI, 16, .inl t_changes))] → va_S A s.heap H locs → ∀ ls : Array Slot, lv_has ls 5 [(0, .ref q_t), (1, .long v1), (3, .int v3), (4, .int v4)] → J_X2_goOn_L22  t_count t_kinds t_wicks t_sources nf t_state t_ticks t_tickChanges t_changes v1 v3 v4 = some (r, o_t_state, o_t_ticks, o_t_tickChanges, o_t_changes) → W p l e rmX2_goOn s m args below meth c H locs 0 0 Q (F0 m 22 ls []) := by
    intro nf
    induction nf with
    | zero =>
      intro t_state t_ticks t_tickChanges t_changes v1 v3 v4 H locs hP hD hS ls hl hJ
      rw [J_X2_goOn_L22] at hJ
      cases hJ
    | succ nf ih =>
      intro t_state t_ticks t_tickChanges t_changes v1 v3 v4 H locs hP hD hS ls hl hJ
      rw [J_X2_goOn_L22] at hJ
      refine lv_iload hx hb dX2_goOn_22 (lv_at hl 3 rfl) ?_
      refine lv_bipush (v := (16 : Int32)) hx hb dX2_goOn_24 (by decide) ?_
      refine jif_icmp_ge (tgt := 51) hx hb dX2_goOn_26 (by decide) hJ (fun hJ => ?_) (fun hJ => ?_)
      · refine lv_iload_n hx hb dX2_goOn_51 rfl (lv_at hl 2 rfl) ?_
        obtain ⟨x52, hc52, hJ⟩ := bnd1_some hJ
        refine jcS_i (As := [.int v3]) (rest := []) (isC := []) (isR := [0, 1, 2, 3, 4]) (isB := [0, 1, 2, 3, 4]) (wr := [(q_t, .inr (2, [.int t_count, .ref q_t_kinds, .ref q_t_wicks, .ref q_t_sources, .ref q_t_changes, .long t_state, .int t_areLoopsAllowed, .int t_ticks, .int t_tickChanges, .int t_sets])), (q_t_kinds, .inl (cI, 16, .inl t_kinds)), (q_t_wicks, .inl (cI, 16, .inl t_wicks)), (q_t_sources, .inl (cI, 48, .inl t_sources)), (q_t_changes, .inl (cI, 16, .inl t_changes))]) (ws2 := [(q_t, .inr (2, [.int t_count, .ref q_t_kinds, .ref q_t_wicks, .ref q_t_sources, .ref q_t_changes, .long t_state, .int t_areLoopsAllowed, .int t_ticks, .int t_tickChanges, .int t_sets])), (q_t_kinds, .inl (cI, 16, .inl t_kinds)), (q_t_wicks, .inl (cI, 16, .inl t_wicks)), (q_t_sources, .inl (cI, 48, .inl t_sources)), (q_t_changes, .inl (cI, 16, .inl t_changes))]) hF (c_J6_bitCount_0f7a4 l D cI cJ cC cL v3 x52 hc52 H.size) (va_cwS 1 hts gX2_goOn_J6_bitCount_0f7a4 rfl rfl rfl (by decide +kernel) ⟨Nat.le_of_ble_eq_true rfl, Nat.le_of_ble_eq_true rfl⟩) rfl hl rfl (Nat.le_of_ble_eq_true rfl) dX2_goOn_52 ⟨Nat.zero_le _, Nat.zero_le _⟩ hK hN KX_T trivial hP hD hS hA rfl rfl rfl rfl (by decide) rfl rfl (fun H locs hP hD hS => ?_)
        refine lv_istore (lv' := [(4, .int x52), (0, .ref q_t), (1, .long v1), (3, .int v3)]) hx hb dX2_goOn_55 hl (by decide) rfl (fun ls hl => ?_)
        refine lv_aload_n hx hb dX2_goOn_57 rfl (lv_at hl 1 rfl) ?_
        refine lv_lload_n hx hb dX2_goOn_58 rfl (lv_at hl 2 rfl) ?_
        refine va_put (ci := 2) (v := .long v1) (ty := .long) (C := RX2) (T := TX2) (N := 10) hx hb hts hin_X2 tyX2 tyX2_ok nmX2 hown hK hP hD hS 0 rfl rfl 5 (by decide) fl_44 (fun _ h9 => h9) rfl (by decide +kernel) rfl rfl (Nat.le_of_ble_eq_true rfl) dX2_goOn_59 (fun H locs hP hD hS => ?_)
        have hP : va_P D vwCl [(q_t, .inr (2, [.int t_count, .ref q_t_kinds, .ref q_t_wicks, .ref q_t_sources, .ref q_t_changes, .long v1, .int t_areLoopsAllowed, .int t_ticks, .int t_tickChanges, .int t_sets])), (q_t_kinds, .inl (cI, 16, .inl t_kinds)), (q_t_wicks, .inl (cI, 16, .inl t_wicks)), (q_t_sources, .inl (cI, 48, .inl t_sources)), (q_t_changes, .inl (cI, 16, .inl t_changes))] H := hP
        have hD : va_D A [(q_t, .inr (2, [.int t_count, .ref q_t_kinds, .ref q_t_wicks, .ref q_t_sources, .ref q_t_changes, .long v1, .int t_areLoopsAllowed, .int t_ticks, .int t_tickChanges, .int t_sets])), (q_t_kinds, .inl (cI, 16, .inl t_kinds)), (q_t_wicks, .inl (cI, 16, .inl t_wicks)), (q_t_sources, .inl (cI, 48, .inl t_sources)), (q_t_changes, .inl (cI, 16, .inl t_changes))] := hD
        refine lv_aload_n hx hb dX2_goOn_62 rfl (lv_at hl 1 rfl) ?_
        refine lv_dup hx hb dX2_goOn_63 rfl ?_
        refine va_get (ci := 2) (v := .int t_ticks) (C := RX2) (T := TX2) (N := 10) hx hb hts hin_X2 hown hK hP 0 rfl rfl 7 (by decide) fl_48 (fun _ h9 => h9) rfl dX2_goOn_64 ?_
        refine lv_iconst (v := (1 : Int32)) hx hb dX2_goOn_67 (by decide) ?_
        refine lv_iadd hx hb dX2_goOn_68 ?_
        refine jt_i hJ (fun x68 hJ => ?_)
        refine va_put (ci := 2) (v := .int x68) (ty := .int) (C := RX2) (T := TX2) (N := 10) hx hb hts hin_X2 tyX2 tyX2_ok nmX2 hown hK hP hD hS 0 rfl rfl 7 (by decide) fl_48 (fun _ h9 => h9) rfl (by decide +kernel) rfl rfl (Nat.le_of_ble_eq_true rfl) dX2_goOn_69 (fun H locs hP hD hS => ?_)
        have hP : va_P D vwCl [(q_t, .inr (2, [.int t_count, .ref q_t_kinds, .ref q_t_wicks, .ref q_t_sources, .ref q_t_changes, .long v1, .int t_areLoopsAllowed, .int x68, .int t_tickChanges, .int t_sets])), (q_t_kinds, .inl (cI, 16, .inl t_kinds)), (q_t_wicks, .inl (cI, 16, .inl t_wicks)), (q_t_sources, .inl (cI, 48, .inl t_sources)), (q_t_changes, .inl (cI, 16, .inl t_changes))] H := hP
        have hD : va_D A [(q_t, .inr (2, [.int t_count, .ref q_t_kinds, .ref q_t_wicks, .ref q_t_sources, .ref q_t_changes, .long v1, .int t_areLoopsAllowed, .int x68, .int t_tickChanges, .int t_sets])), (q_t_kinds, .inl (cI, 16, .inl t_kinds)), (q_t_wicks, .inl (cI, 16, .inl t_wicks)), (q_t_sources, .inl (cI, 48, .inl t_sources)), (q_t_changes, .inl (cI, 16, .inl t_changes))] := hD
        refine lv_aload_n hx hb dX2_goOn_72 rfl (lv_at hl 1 rfl) ?_
        refine lv_dup hx hb dX2_goOn_73 rfl ?_
        refine va_get (ci := 2) (v := .int t_tickChanges) (C := RX2) (T := TX2) (N := 10) hx hb hts hin_X2 hown hK hP 0 rfl rfl 8 (by decide) fl_51 (fun _ h9 => h9) rfl dX2_goOn_74 ?_
        refine lv_iload hx hb dX2_goOn_77 (lv_at hl 0 rfl) ?_
        refine lv_iadd hx hb dX2_goOn_79 ?_
        refine jt_i hJ (fun x79 hJ => ?_)
        refine va_put (ci := 2) (v := .int x79) (ty := .int) (C := RX2) (T := TX2) (N := 10) hx hb hts hin_X2 tyX2 tyX2_ok nmX2 hown hK hP hD hS 0 rfl rfl 8 (by decide) fl_51 (fun _ h9 => h9) rfl (by decide +kernel) rfl rfl (Nat.le_of_ble_eq_true rfl) dX2_goOn_80 (fun H locs hP hD hS => ?_)
        have hP : va_P D vwCl [(q_t, .inr (2, [.int t_count, .ref q_t_kinds, .ref q_t_wicks, .ref q_t_sources, .ref q_t_changes, .long v1, .int t_areLoopsAllowed, .int x68, .int x79, .int t_sets])), (q_t_kinds, .inl (cI, 16, .inl t_kinds)), (q_t_wicks, .inl (cI, 16, .inl t_wicks)), (q_t_sources, .inl (cI, 48, .inl t_sources)), (q_t_changes, .inl (cI, 16, .inl t_changes))] H := hP
        have hD : va_D A [(q_t, .inr (2, [.int t_count, .ref q_t_kinds, .ref q_t_wicks, .ref q_t_sources, .ref q_t_changes, .long v1, .int t_areLoopsAllowed, .int x68, .int x79, .int t_sets])), (q_t_kinds, .inl (cI, 16, .inl t_kinds)), (q_t_wicks, .inl (cI, 16, .inl t_wicks)), (q_t_sources, .inl (cI, 48, .inl t_sources)), (q_t_changes, .inl (cI, 16, .inl t_changes))] := hD
        refine lv_iload hx hb dX2_goOn_83 (lv_at hl 0 rfl) ?_
        have hJ := Option.some.inj hJ
        obtain ⟨e0, e1, e2, e3, e4⟩ : (x52) = r ∧ (v1) = o_t_state ∧ (x68) = o_t_ticks ∧ (x79) = o_t_tickChanges ∧ (t_changes) = o_t_changes := ⟨congrArg (fun z => z.1) hJ, congrArg (fun z => z.2.1) hJ, congrArg (fun z => z.2.2.1) hJ, congrArg (fun z => z.2.2.2.1) hJ, congrArg (fun z => z.2.2.2.2) hJ⟩
        exact hRet (by rw [← e1, ← e2, ← e3, ← e4]; exact hP) (by rw [← e1, ← e2, ← e3, ← e4]; exact hD) hS e0 dX2_goOn_85
      · refine lv_aload_n hx hb dX2_goOn_29 rfl (lv_at hl 0 rfl) ?_
        refine va_get (ci := 2) (v := .ref q_t_changes) (C := RX2) (T := TX2) (N := 10) hx hb hts hin_X2 hown hK hP 0 rfl rfl 4 (by decide) fl_21 (fun _ h9 => h9) rfl dX2_goOn_30 ?_
        refine lv_iload hx hb dX2_goOn_33 (lv_at hl 3 rfl) ?_
        refine lv_dup2_11 hx hb dX2_goOn_35 rfl rfl ?_
        obtain ⟨hin, hJ⟩ := chk_in hJ
        refine va_iald hx hb hK hP 4 0 rfl rfl hin dX2_goOn_36 ?_
        refine jt_i hJ (fun x36 hJ => ?_)
        refine lv_iload_n hx hb dX2_goOn_37 rfl (lv_at hl 2 rfl) ?_
        refine lv_iload hx hb dX2_goOn_38 (lv_at hl 3 rfl) ?_
        refine lv_ishr hx hb dX2_goOn_40 ?_
        refine jt_i hJ (fun x40 hJ => ?_)
        refine lv_iconst (v := (1 : Int32)) hx hb dX2_goOn_41 (by decide) ?_
        refine lv_iand hx hb dX2_goOn_42 ?_
        refine lv_iadd hx hb dX2_goOn_43 ?_
        refine jt_i hJ (fun x43 hJ => ?_)
        obtain ⟨hin, hJ⟩ := chk_in hJ
        refine va_iast hx hb hK hP hD hS 4 0 rfl rfl hin dX2_goOn_44 (fun H locs hP hD hS => ?_)
        have hP : va_P D vwCl [(q_t, .inr (2, [.int t_count, .ref q_t_kinds, .ref q_t_wicks, .ref q_t_sources, .ref q_t_changes, .long t_state, .int t_areLoopsAllowed, .int t_ticks, .int t_tickChanges, .int t_sets])), (q_t_kinds, .inl (cI, 16, .inl t_kinds)), (q_t_wicks, .inl (cI, 16, .inl t_wicks)), (q_t_sources, .inl (cI, 48, .inl t_sources)), (q_t_changes, .inl (cI, 16, .inl (upd t_changes v4.toNatClampNeg x43)))] H := hP
        have hD : va_D A [(q_t, .inr (2, [.int t_count, .ref q_t_kinds, .ref q_t_wicks, .ref q_t_sources, .ref q_t_changes, .long t_state, .int t_areLoopsAllowed, .int t_ticks, .int t_tickChanges, .int t_sets])), (q_t_kinds, .inl (cI, 16, .inl t_kinds)), (q_t_wicks, .inl (cI, 16, .inl t_wicks)), (q_t_sources, .inl (cI, 48, .inl t_sources)), (q_t_changes, .inl (cI, 16, .inl (upd t_changes v4.toNatClampNeg x43)))] := hD
        refine jt_iinc hJ (fun x45 ex45 hJ => ?_)
        refine lv_iinc (v := x45) (lv' := [(4, .int x45), (0, .ref q_t), (1, .long v1), (3, .int v3)]) hx hb dX2_goOn_45 hl (k := 3) rfl ex45 (by decide) rfl (fun ls hl => ?_)
        refine lv_goto (tgt := 22) hx hb dX2_goOn_48 (by decide) ?_
        exact ih t_state t_ticks t_tickChanges (upd t_changes v4.toNatClampNeg x43) v1 v3 x45  H locs  hP hD hS _ (lv_sub hl [1, 2, 3, 0] rfl) hJ
  unfold J_X2_goOn at hJ
  refine lv_aload_n hx hb dX2_goOn_0 rfl (lv_at hl 0 rfl) ?_
  refine lv_aload_n hx hb dX2_goOn_1 rfl (lv_at hl 0 rfl) ?_
  refine va_get (ci := 2) (v := .long t_state) (C := RX2) (T := TX2) (N := 10) hx hb hts hin_X2 hown hK hP 0 rfl rfl 5 (by decide) fl_44 (fun _ h9 => h9) rfl dX2_goOn_2 ?_
  obtain ⟨x5, hc5, hJ⟩ := bnd1_some hJ
  refine jcV_l (C := RX2) (T := TX2) (N := 10) (ci := 2) (q0 := 0) (As := [.long t_state]) (rest := []) (isC := [0, 1, 2, 3]) (isR := [4]) (isB := [1, 2, 3, 4, 0]) (wr := [(q_t_changes, .inl (cI, 16, .inl t_changes))]) (ws2 := [(q_t, .inr (2, [.int t_count, .ref q_t_kinds, .ref q_t_wicks, .ref q_t_sources, .ref q_t_changes, .long t_state, .int t_areLoopsAllowed, .int t_ticks, .int t_tickChanges, .int t_sets])), (q_t_kinds, .inl (cI, 16, .inl t_kinds)), (q_t_wicks, .inl (cI, 16, .inl t_wicks)), (q_t_sources, .inl (cI, 48, .inl t_sources)), (q_t_changes, .inl (cI, 16, .inl t_changes))]) hF (c_X2_behindTick l D cI cJ cC cL q_t q_t_kinds q_t_wicks q_t_sources q_t_changes t_count t_state t_areLoopsAllowed t_ticks t_tickChanges t_sets t_kinds t_wicks t_sources t_state x5 hc5 s.heap.size) (cwV 1 hts gX2_goOn_X2_behindTick rfl rfl rfl (by decide +kernel) ⟨Nat.le_of_ble_eq_true rfl, Nat.le_of_ble_eq_true rfl⟩) rfl hl rfl (Nat.le_of_ble_eq_true rfl) dX2_goOn_5 ⟨Nat.zero_le _, Nat.zero_le _⟩ hK hN KX_T trivial hP hD hS hA rfl rfl rfl rfl rfl rfl (by decide) rfl rfl (fun H locs hP hD hS => ?_)
  refine lv_lstore_n (lv' := [(1, .long x5), (0, .ref q_t)]) hx hb dX2_goOn_8 rfl hl (by decide) rfl (fun ls hl => ?_)
  refine lv_aload_n hx hb dX2_goOn_9 rfl (lv_at hl 1 rfl) ?_
  refine va_get (ci := 2) (v := .long t_state) (C := RX2) (T := TX2) (N := 10) hx hb hts hin_X2 hown hK hP 0 rfl rfl 5 (by decide) fl_44 (fun _ h9 => h9) rfl dX2_goOn_10 ?_
  refine lv_lload_n hx hb dX2_goOn_13 rfl (lv_at hl 0 rfl) ?_
  refine lv_lxor hx hb dX2_goOn_14 ?_
  refine jt_l hJ (fun x14 hJ => ?_)
  obtain ⟨x15, hc15, hJ⟩ := bnd1_some hJ
  refine jcS_i (As := [.long x14]) (rest := []) (isC := []) (isR := [0, 1, 2, 3, 4]) (isB := [0, 1, 2, 3, 4]) (wr := [(q_t, .inr (2, [.int t_count, .ref q_t_kinds, .ref q_t_wicks, .ref q_t_sources, .ref q_t_changes, .long t_state, .int t_areLoopsAllowed, .int t_ticks, .int t_tickChanges, .int t_sets])), (q_t_kinds, .inl (cI, 16, .inl t_kinds)), (q_t_wicks, .inl (cI, 16, .inl t_wicks)), (q_t_sources, .inl (cI, 48, .inl t_sources)), (q_t_changes, .inl (cI, 16, .inl t_changes))]) (ws2 := [(q_t, .inr (2, [.int t_count, .ref q_t_kinds, .ref q_t_wicks, .ref q_t_sources, .ref q_t_changes, .long t_state, .int t_areLoopsAllowed, .int t_ticks, .int t_tickChanges, .int t_sets])), (q_t_kinds, .inl (cI, 16, .inl t_kinds)), (q_t_wicks, .inl (cI, 16, .inl t_wicks)), (q_t_sources, .inl (cI, 48, .inl t_sources)), (q_t_changes, .inl (cI, 16, .inl t_changes))]) hF (c_X2_glowIn l D cI cJ cC cL x14 x15 hc15 H.size) (va_cwS 1 hts gX2_goOn_X2_glowIn rfl rfl rfl (by decide +kernel) ⟨Nat.le_of_ble_eq_true rfl, Nat.le_of_ble_eq_true rfl⟩) rfl hl rfl (Nat.le_of_ble_eq_true rfl) dX2_goOn_15 ⟨Nat.zero_le _, Nat.zero_le _⟩ hK hN KX_T trivial hP hD hS hA rfl rfl rfl rfl (by decide) rfl rfl (fun H locs hP hD hS => ?_)
  refine lv_istore_n (lv' := [(3, .int x15), (1, .long x5), (0, .ref q_t)]) hx hb dX2_goOn_18 rfl hl (by decide) rfl (fun ls hl => ?_)
  refine lv_iconst (v := (0 : Int32)) hx hb dX2_goOn_19 (by decide) ?_
  refine lv_istore (lv' := [(4, .int (0 : Int32)), (3, .int x15), (1, .long x5), (0, .ref q_t)]) hx hb dX2_goOn_20 hl (by decide) rfl (fun ls hl => ?_)
  exact L22  FU t_state t_ticks t_tickChanges t_changes x5 x15 (0 : Int32)  H locs  hP hD hS _ (lv_sub hl [3, 2, 1, 0] rfl) hJ


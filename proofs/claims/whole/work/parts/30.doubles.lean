def J_X9_meanWick_b42 (k6 : Int32 → Int32 → Int32 → Option (UInt64)) (t_now_count : Int32) (t_now_kinds : Nat → Int32) (t_now_wicks : Nat → Int32) (v1 : Int32) (v2 : Int32) (v3 : Int32) : Option (UInt64) :=
    nm (v3 + Int32.ofInt 1) fun x42 =>
    k6 v1 v2 x42
def J_X9_meanWick_b61 (t_now_count : Int32) (t_now_kinds : Nat → Int32) (t_now_wicks : Nat → Int32) (s61_0 : UInt64) : Option (UInt64) :=
    some (s61_0)
def J_X9_meanWick_L6 (t_now_count : Int32) (t_now_kinds : Nat → Int32) (t_now_wicks : Nat → Int32) : Nat → Int32 → Int32 → Int32 → Option (UInt64)
  | 0, _, _, _ => none
  | nf + 1, v1, v2, v3 =>
    bnd1 (J_X2_count t_now_count) fun x11 =>
    if x11 ≤ v3 then (
    if v1 = 0 then (
    J_X9_meanWick_b61 t_now_count t_now_kinds t_now_wicks (FP.dconst0))
    else (
    chd (FP.ddiv (FP.i2d v2) (FP.i2d v1)) (
    J_X9_meanWick_b61 t_now_count t_now_kinds t_now_wicks (FP.ddiv (FP.i2d v2) (FP.i2d v1)))))
    else (
    bnd1 (J_X2_isSwitch t_now_count t_now_kinds v3) fun x22 =>
    if x22 = 0 then (
    nm (v1 + Int32.ofInt 1) fun x28 =>
    bnd1 (J_X2_wickOf t_now_count t_now_wicks v3) fun x37 =>
    nm (v2 + x37) fun x40 =>
    J_X9_meanWick_b42 (fun z0 z1 z2 => J_X9_meanWick_L6 t_now_count t_now_kinds t_now_wicks nf z0 z1 z2) t_now_count t_now_kinds t_now_wicks x28 x40 v3)
    else (
    J_X9_meanWick_b42 (fun z0 z1 z2 => J_X9_meanWick_L6 t_now_count t_now_kinds t_now_wicks nf z0 z1 z2) t_now_count t_now_kinds t_now_wicks v1 v2 v3))
def J_X9_meanWick (t_now_count : Int32) (t_now_kinds : Nat → Int32) (t_now_wicks : Nat → Int32) : Option (UInt64) :=
    J_X9_meanWick_L6 t_now_count t_now_kinds t_now_wicks FU (0 : Int32) (0 : Int32) (0 : Int32)
abbrev rmX9_meanWick : Room := { frames := 2, cells := 0, slots := 0, locals := 42 }
set_option maxHeartbeats 4000000 in
set_option maxRecDepth 100000 in
theorem c_X9_meanWick (l : Launch) (D : va_G) (cI cJ cC cL : ClassId) (q_t q_t_now q_t_snapshot q_t_past q_t_depths q_t_foresight q_t_text q_t_line q_t_reasons q_t_now_kinds q_t_now_wicks q_t_now_sources q_t_now_changes : Nat) (t_hasSnapshot : Int32) (t_now_count : Int32) (t_now_state : Int64) (t_now_areLoopsAllowed : Int32) (t_now_ticks : Int32) (t_now_tickChanges : Int32) (t_now_sets : Int32) (t_now_kinds : Nat → Int32) (t_now_wicks : Nat → Int32) (r : UInt64) (hJ : J_X9_meanWick t_now_count t_now_kinds t_now_wicks = some (r)) (sz : Nat) : Met l yX9_meanWick wsX9_meanWick rmX9_meanWick (va_Pc [.ref q_t] (jpre XT D (tyL cI cJ cC cL) [(q_t, .inr (7, [.ref q_t_now, .ref q_t_snapshot, .int t_hasSnapshot, .ref q_t_past, .ref q_t_depths, .ref q_t_foresight, .ref q_t_text, .ref q_t_line, .ref q_t_reasons])), (q_t_now, .inr (2, [.int t_now_count, .ref q_t_now_kinds, .ref q_t_now_wicks, .ref q_t_now_sources, .ref q_t_now_changes, .long t_now_state, .int t_now_areLoopsAllowed, .int t_now_ticks, .int t_now_tickChanges, .int t_now_sets])), (q_t_now_kinds, .inl (cI, 16, .inl t_now_kinds)), (q_t_now_wicks, .inl (cI, 16, .inl t_now_wicks))] sz)) (va_Qd (fun r' (_ : Unit) => r' = r) (fun _ t => jpost D (tyL cI cJ cC cL) (va_A [(q_t, .inr (7, [.ref q_t_now, .ref q_t_snapshot, .int t_hasSnapshot, .ref q_t_past, .ref q_t_depths, .ref q_t_foresight, .ref q_t_text, .ref q_t_line, .ref q_t_reasons])), (q_t_now, .inr (2, [.int t_now_count, .ref q_t_now_kinds, .ref q_t_now_wicks, .ref q_t_now_sources, .ref q_t_now_changes, .long t_now_state, .int t_now_areLoopsAllowed, .int t_now_ticks, .int t_now_tickChanges, .int t_now_sets])), (q_t_now_kinds, .inl (cI, 16, .inl t_now_kinds)), (q_t_now_wicks, .inl (cI, 16, .inl t_now_wicks))] sz) [(q_t, .inr (7, [.ref q_t_now, .ref q_t_snapshot, .int t_hasSnapshot, .ref q_t_past, .ref q_t_depths, .ref q_t_foresight, .ref q_t_text, .ref q_t_line, .ref q_t_reasons])), (q_t_now, .inr (2, [.int t_now_count, .ref q_t_now_kinds, .ref q_t_now_wicks, .ref q_t_now_sources, .ref q_t_now_changes, .long t_now_state, .int t_now_areLoopsAllowed, .int t_now_ticks, .int t_now_tickChanges, .int t_now_sets])), (q_t_now_kinds, .inl (cI, 16, .inl t_now_kinds)), (q_t_now_wicks, .inl (cI, 16, .inl t_now_wicks))] t) (va_A [(q_t, .inr (7, [.ref q_t_now, .ref q_t_snapshot, .int t_hasSnapshot, .ref q_t_past, .ref q_t_depths, .ref q_t_foresight, .ref q_t_text, .ref q_t_line, .ref q_t_reasons])), (q_t_now, .inr (2, [.int t_now_count, .ref q_t_now_kinds, .ref q_t_now_wicks, .ref q_t_now_sources, .ref q_t_now_changes, .long t_now_state, .int t_now_areLoopsAllowed, .int t_now_ticks, .int t_now_tickChanges, .int t_now_sets])), (q_t_now_kinds, .inl (cI, 16, .inl t_now_kinds)), (q_t_now_wicks, .inl (cI, 16, .inl t_now_wicks))] sz)) 0 0 (va_A [(q_t, .inr (7, [.ref q_t_now, .ref q_t_snapshot, .int t_hasSnapshot, .ref q_t_past, .ref q_t_depths, .ref q_t_foresight, .ref q_t_text, .ref q_t_line, .ref q_t_reasons])), (q_t_now, .inr (2, [.int t_now_count, .ref q_t_now_kinds, .ref q_t_now_wicks, .ref q_t_now_sources, .ref q_t_now_changes, .long t_now_state, .int t_now_areLoopsAllowed, .int t_now_ticks, .int t_now_tickChanges, .int t_now_sets])), (q_t_now_kinds, .inl (cI, 16, .inl t_now_kinds)), (q_t_now_wicks, .inl (cI, 16, .inl t_now_wicks))] sz) := by
  refine jE_d (cc := cX9_meanWick) (maxL := 4) (own := RX9) (ret := (some .double)) (lv0 := [(0, .ref q_t)]) (by decide) rfl rfl rfl (Nat.le_of_ble_eq_true rfl) rfl ?_
  intro p e s m args below meth c A Q ls hx hb hml hown hts hK hN hX hA hP hD hS hl hRet
  have hF : CallFix p m c cX9_meanWick 4 s args wsX9_meanWick RX9 := ⟨hx, hb, hml, hown, hts⟩
  have fl_10 := hts (.fieldLink RX9 10 "LanternLogic" "now" "LLanternLogic$Lanterns;") (by decide +kernel)
  have hin_X9 : ∀ w ∈ u_ws RX9 TX9 9, w ∈ wsX9_meanWick := by decide +kernel
  have B42 : ∀ (k6 : Int32 → Int32 → Int32 → Option (UInt64)), (∀ (v1 : Int32) (v2 : Int32) (v3 : Int32) (H : Heap) (locs : List Loc), va_P D vwCl [(q_t, .inr (7, [.ref q_t_now, .ref q_t_snapshot, .int t_hasSnapshot, .ref q_t_past, .ref q_t_depths, .ref q_t_foresight, .ref q_t_text, .ref q_t_line, .ref q_t_reasons])), (q_t_now, .inr (2, [.int t_now_count, .ref q_t_now_kinds, .ref q_t_now_wicks, .ref q_t_now_sources, .ref q_t_now_changes, .long t_now_state, .int t_now_areLoopsAllowed, .int t_now_ticks, .int t_now_tickChanges, .int t_now_sets])), (q_t_now_kinds, .inl (cI, 16, .inl t_now_kinds)), (q_t_now_wicks, .inl (cI, 16, .inl t_now_wicks))] H → va_D A [(q_t, .inr (7, [.ref q_t_now, .ref q_t_snapshot, .int t_hasSnapshot, .ref q_t_past, .ref q_t_depths, .ref q_t_foresight, .ref q_t_text, .ref q_t_line, .ref q_t_reasons])), (q_t_now, .inr (2, [.int t_now_count, .ref q_t_now_kinds, .ref q_t_now_wicks, .ref q_t_now_sources, .ref q_t_now_changes, .long t_now_state, .int t_now_areLoopsAllowed, .int t_now_ticks, .int t_now_tickChanges, .int t_now_sets])), (q_t_now_kinds, .inl (cI, 16, .inl t_now_kinds)), (q_t_now_wicks, .inl (cI, 16, .inl t_now_wicks))] → va_S A s.heap H locs → ∀ ls : Array Slot, lv_has ls 4 [(0, .ref q_t), (1, .int v1), (2, .int v2), (3, .int v3)] → k6 v1 v2 v3 = some (r) → W p l e rmX9_meanWick s m args below meth c H locs 0 0 Q (F0 m 6 ls [])) → ∀ (v1 : Int32) (v2 : Int32) (v3 : Int32) (H : Heap) (locs : List Loc), va_P D vwCl [(q_t, .inr (7, [.ref q_t_now, .ref q_t_snapshot, .int t_hasSnapshot, .ref q_t_past, .ref q_t_depths, .ref q_t_foresight, .ref q_t_text, .ref q_t_line, .ref q_t_reasons])), (q_t_now, .inr (2, [.int t_now_count, .ref q_t_now_kinds, .ref q_t_now_wicks, .ref q_t_now_sources, .ref q_t_now_changes, .long t_now_state, .int t_now_areLoopsAllowed, .int t_now_ticks, .int t_now_tickChanges, .int t_now_sets])), (q_t_now_kinds, .inl (cI, 16, .inl t_now_kinds)), (q_t_now_wicks, .inl (cI, 16, .inl t_now_wicks))] H → va_D A [(q_t, .inr (7, [.ref q_t_now, .ref q_t_snapshot, .int t_hasSnapshot, .ref q_t_past, .ref q_t_depths, .ref q_t_foresight, .ref q_t_text, .ref q_t_line, .ref q_t_reasons])), (q_t_now, .inr (2, [.int t_now_count, .ref q_t_now_kinds, .ref q_t_now_wicks, .ref q_t_now_sources, .ref q_t_now_changes, .long t_now_state, .int t_now_areLoopsAllowed, .int t_now_ticks, .int t_now_tickChanges, .int t_now_sets])), (q_t_now_kinds, .inl (cI, 16, .inl t_now_kinds)), (q_t_now_wicks, .inl (cI, 16, .inl t_now_wicks))] → va_S A s.heap H locs → ∀ ls : Array Slot, lv_has ls 4 [(0, .ref q_t), (1, .int v1), (2, .int v2), (3, .int v3)] → J_X9_meanWick_b42 k6 t_now_count t_now_kinds t_now_wicks v1 v2 v3 = some (r) → W p l e rmX9_meanWick s m args below meth c H locs 0 0 Q (F0 m 42 ls []) := by
    intro k6 hk6 v1 v2 v3 H locs hP hD hS ls hl hJ
    unfold J_X9_meanWick_b42 at hJ
    refine jt_iinc hJ (fun x42 ex42 hJ => ?_)
    refine lv_iinc (v := x42) (lv' := [(3, .int x42), (0, .ref q_t), (1, .int v1), (2, .int v2)]) hx hb dX9_meanWick_42 hl (k := 3) rfl ex42 (by decide) rfl (fun ls hl => ?_)
    refine lv_goto (tgt := 6) hx hb dX9_meanWick_45 (by decide) ?_
    exact hk6 v1 v2 x42  H locs  hP hD hS _ (lv_sub hl [1, 2, 3, 0] rfl) hJ
  have B61 : ∀ (s61_0 : UInt64) (H : Heap) (locs : List Loc), va_P D vwCl [(q_t, .inr (7, [.ref q_t_now, .ref q_t_snapshot, .int t_hasSnapshot, .ref q_t_past, .ref q_t_depths, .ref q_t_foresight, .ref q_t_text, .ref q_t_line, .ref q_t_reasons])), (q_t_now, .inr (2, [.int t_now_count, .ref q_t_now_kinds, .ref q_t_now_wicks, .ref q_t_now_sources, .ref q_t_now_changes, .long t_now_state, .int t_now_areLoopsAllowed, .int t_now_ticks, .int t_now_tickChanges, .int t_now_sets])), (q_t_now_kinds, .inl (cI, 16, .inl t_now_kinds)), (q_t_now_wicks, .inl (cI, 16, .inl t_now_wicks))] H → va_D A [(q_t, .inr (7, [.ref q_t_now, .ref q_t_snapshot, .int t_hasSnapshot, .ref q_t_past, .ref q_t_depths, .ref q_t_foresight, .ref q_t_text, .ref q_t_line, .ref q_t_reasons])), (q_t_now, .inr (2, [.int t_now_count, .ref q_t_now_kinds, .ref q_t_now_wicks, .ref q_t_now_sources, .ref q_t_now_changes, .long t_now_state, .int t_now_areLoopsAllowed, .int t_now_ticks, .int t_now_tickChanges, .int t_now_sets])), (q_t_now_kinds, .inl (cI, 16, .inl t_now_kinds)), (q_t_now_wicks, .inl (cI, 16, .inl t_now_wicks))] → va_S A s.heap H locs → ∀ ls : Array Slot, lv_has ls 4 [] → J_X9_meanWick_b61  t_now_count t_now_kinds t_now_wicks s61_0 = some (r) → W p l e rmX9_meanWick s m args below meth c H locs 0 0 Q (F0 m 61 ls [.double s61_0]) := by
    intro s61_0 H locs hP hD hS ls hl hJ
    unfold J_X9_meanWick_b61 at hJ
    have e0 := Option.some.inj hJ
    exact hRet hP hD hS e0 dX9_meanWick_61
  have L6 : ∀ (nf : Nat), ∀ (v1 : Int32) (v2 : Int32) (v3 : Int32) (H : Heap) (locs : List Loc), va_P D vwCl [(q_t, .inr (7, [.ref q_t_now, .ref q_t_snapshot, .int t_hasSnapshot, .ref q_t_past, .ref q_t_depths, .ref q_t_foresight, .ref q_t_text, .ref q_t_line, .ref q_t_reasons])), (q_t_now, .inr (2, [.int t_now_count, .ref q_t_now_kinds, .ref q_t_now_wicks, .ref q_t_now_sources, .ref q_t_now_changes, .long t_now_state, .int t_now_areLoopsAllowed, .int t_now_ticks, .int t_now_tickChanges, .int t_now_sets])), (q_t_now_kinds, .inl (cI, 16, .inl t_now_kinds)), (q_t_now_wicks, .inl (cI, 16, .inl t_now_wicks))] H → va_D A [(q_t, .inr (7, [.ref q_t_now, .ref q_t_snapshot, .int t_hasSnapshot, .ref q_t_past, .ref q_t_depths, .ref q_t_foresight, .ref q_t_text, .ref q_t_line, .ref q_t_reasons])), (q_t_now, .inr (2, [.int t_now_count, .ref q_t_now_kinds, .ref q_t_now_wicks, .ref q_t_now_sources, .ref q_t_now_changes, .long t_now_state, .int t_now_areLoopsAllowed, .int t_now_ticks, .int t_now_tickChanges, .int t_now_sets])), (q_t_now_kinds, .inl (cI, 16, .inl t_now_kinds)), (q_t_now_wicks, .inl (cI, 16, .inl t_now_wicks))] → va_S A s.heap H locs → ∀ ls : Array Slot, lv_has ls 4 [(0, .ref q_t), (1, .int v1), (2, .int v2), (3, .int v3)] → J_X9_meanWick_L6  t_now_count t_now_kinds t_now_wicks nf v1 v2 v3 = some (r) → W p l e rmX9_meanWick s m args below meth c H locs 0 0 Q (F0 m 6 ls []) := by
    intro nf
    induction nf with
    | zero =>
      intro v1 v2 v3 H locs hP hD hS ls hl hJ
      rw [J_X9_meanWick_L6] at hJ
      cases hJ
    | succ nf ih =>
      intro v1 v2 v3 H locs hP hD hS ls hl hJ
      rw [J_X9_meanWick_L6] at hJ
      refine lv_iload_n hx hb dX9_meanWick_6 rfl (lv_at hl 3 rfl) ?_
      refine lv_aload_n hx hb dX9_meanWick_7 rfl (lv_at hl 0 rfl) ?_
      refine va_get (ci := 7) (v := .ref q_t_now) (C := RX9) (T := TX9) (N := 9) hx hb hts hin_X9 hown hK hP 0 rfl rfl 0 (by decide) fl_10 (fun _ h9 => h9) rfl dX9_meanWick_8 ?_
      obtain ⟨x11, hc11, hJ⟩ := bnd1_some hJ
      refine jcV_i (C := RX2) (T := TX2) (N := 10) (ci := 2) (q0 := 0) (As := []) (rest := [.int v3]) (isC := [1]) (isR := [0, 2, 3]) (isB := [0, 3, 1, 2]) (wr := [(q_t, .inr (7, [.ref q_t_now, .ref q_t_snapshot, .int t_hasSnapshot, .ref q_t_past, .ref q_t_depths, .ref q_t_foresight, .ref q_t_text, .ref q_t_line, .ref q_t_reasons])), (q_t_now_kinds, .inl (cI, 16, .inl t_now_kinds)), (q_t_now_wicks, .inl (cI, 16, .inl t_now_wicks))]) (ws2 := [(q_t, .inr (7, [.ref q_t_now, .ref q_t_snapshot, .int t_hasSnapshot, .ref q_t_past, .ref q_t_depths, .ref q_t_foresight, .ref q_t_text, .ref q_t_line, .ref q_t_reasons])), (q_t_now, .inr (2, [.int t_now_count, .ref q_t_now_kinds, .ref q_t_now_wicks, .ref q_t_now_sources, .ref q_t_now_changes, .long t_now_state, .int t_now_areLoopsAllowed, .int t_now_ticks, .int t_now_tickChanges, .int t_now_sets])), (q_t_now_kinds, .inl (cI, 16, .inl t_now_kinds)), (q_t_now_wicks, .inl (cI, 16, .inl t_now_wicks))]) hF (c_X2_count l D cI cJ cC cL q_t_now q_t_now_kinds q_t_now_wicks q_t_now_sources q_t_now_changes t_now_count t_now_state t_now_areLoopsAllowed t_now_ticks t_now_tickChanges t_now_sets x11 hc11 H.size) (cwV 0 hts gX9_meanWick_X2_count rfl rfl rfl (by decide +kernel) ⟨Nat.le_of_ble_eq_true rfl, Nat.le_of_ble_eq_true rfl⟩) rfl hl rfl (Nat.le_of_ble_eq_true rfl) dX9_meanWick_11 ⟨Nat.zero_le _, Nat.zero_le _⟩ hK hN KX_T trivial hP hD hS hA rfl rfl rfl rfl rfl rfl (by decide) rfl rfl (fun H locs hP hD hS => ?_)
      refine jif_icmp_ge (tgt := 48) hx hb dX9_meanWick_14 (by decide) hJ (fun hJ => ?_) (fun hJ => ?_)
      · refine lv_iload_n hx hb dX9_meanWick_48 rfl (lv_at hl 1 rfl) ?_
        refine jif_ne (tgt := 56) hx hb dX9_meanWick_49 (by decide) hJ (fun hJ => ?_) (fun hJ => ?_)
        · refine lv_iload_n hx hb dX9_meanWick_56 rfl (lv_at hl 2 rfl) ?_
          refine lv_i2d hx hb dX9_meanWick_57 ?_
          refine lv_iload_n hx hb dX9_meanWick_58 rfl (lv_at hl 1 rfl) ?_
          refine lv_i2d hx hb dX9_meanWick_59 ?_
          obtain ⟨hne, hJ⟩ := chd_ok hJ
          refine lv_ddiv hx hb dX9_meanWick_60 hne ?_
          exact B61  (FP.ddiv (FP.i2d v2) (FP.i2d v1))  H locs  hP hD hS _ (lv_sub hl [] rfl) hJ
        · refine lv_dconst0 hx hb dX9_meanWick_52 ?_
          refine lv_goto (tgt := 61) hx hb dX9_meanWick_53 (by decide) ?_
          exact B61  (FP.dconst0)  H locs  hP hD hS _ (lv_sub hl [] rfl) hJ
      · refine lv_aload_n hx hb dX9_meanWick_17 rfl (lv_at hl 0 rfl) ?_
        refine va_get (ci := 7) (v := .ref q_t_now) (C := RX9) (T := TX9) (N := 9) hx hb hts hin_X9 hown hK hP 0 rfl rfl 0 (by decide) fl_10 (fun _ h9 => h9) rfl dX9_meanWick_18 ?_
        refine lv_iload_n hx hb dX9_meanWick_21 rfl (lv_at hl 3 rfl) ?_
        obtain ⟨x22, hc22, hJ⟩ := bnd1_some hJ
        refine jcV_i (C := RX2) (T := TX2) (N := 10) (ci := 2) (q0 := 0) (As := [.int v3]) (rest := []) (isC := [1, 2]) (isR := [0, 3]) (isB := [0, 2, 3, 1]) (wr := [(q_t, .inr (7, [.ref q_t_now, .ref q_t_snapshot, .int t_hasSnapshot, .ref q_t_past, .ref q_t_depths, .ref q_t_foresight, .ref q_t_text, .ref q_t_line, .ref q_t_reasons])), (q_t_now_wicks, .inl (cI, 16, .inl t_now_wicks))]) (ws2 := [(q_t, .inr (7, [.ref q_t_now, .ref q_t_snapshot, .int t_hasSnapshot, .ref q_t_past, .ref q_t_depths, .ref q_t_foresight, .ref q_t_text, .ref q_t_line, .ref q_t_reasons])), (q_t_now, .inr (2, [.int t_now_count, .ref q_t_now_kinds, .ref q_t_now_wicks, .ref q_t_now_sources, .ref q_t_now_changes, .long t_now_state, .int t_now_areLoopsAllowed, .int t_now_ticks, .int t_now_tickChanges, .int t_now_sets])), (q_t_now_kinds, .inl (cI, 16, .inl t_now_kinds)), (q_t_now_wicks, .inl (cI, 16, .inl t_now_wicks))]) hF (c_X2_isSwitch l D cI cJ cC cL q_t_now q_t_now_kinds q_t_now_wicks q_t_now_sources q_t_now_changes t_now_count t_now_state t_now_areLoopsAllowed t_now_ticks t_now_tickChanges t_now_sets t_now_kinds v3 x22 hc22 H.size) (cwV 1 hts gX9_meanWick_X2_isSwitch rfl rfl rfl (by decide +kernel) ⟨Nat.le_of_ble_eq_true rfl, Nat.le_of_ble_eq_true rfl⟩) rfl hl rfl (Nat.le_of_ble_eq_true rfl) dX9_meanWick_22 ⟨Nat.zero_le _, Nat.zero_le _⟩ hK hN KX_T trivial hP hD hS hA rfl rfl rfl rfl rfl rfl (by decide) rfl rfl (fun H locs hP hD hS => ?_)
        refine jif_ne (tgt := 42) hx hb dX9_meanWick_25 (by decide) hJ (fun hJ => ?_) (fun hJ => ?_)
        · exact B42 (fun z0 z1 z2 => J_X9_meanWick_L6 t_now_count t_now_kinds t_now_wicks nf z0 z1 z2) ih v1 v2 v3  H locs  hP hD hS _ (lv_sub hl [0, 1, 2, 3] rfl) hJ
        · refine jt_iinc hJ (fun x28 ex28 hJ => ?_)
          refine lv_iinc (v := x28) (lv' := [(1, .int x28), (0, .ref q_t), (2, .int v2), (3, .int v3)]) hx hb dX9_meanWick_28 hl (k := 1) rfl ex28 (by decide) rfl (fun ls hl => ?_)
          refine lv_iload_n hx hb dX9_meanWick_31 rfl (lv_at hl 2 rfl) ?_
          refine lv_aload_n hx hb dX9_meanWick_32 rfl (lv_at hl 1 rfl) ?_
          refine va_get (ci := 7) (v := .ref q_t_now) (C := RX9) (T := TX9) (N := 9) hx hb hts hin_X9 hown hK hP 0 rfl rfl 0 (by decide) fl_10 (fun _ h9 => h9) rfl dX9_meanWick_33 ?_
          refine lv_iload_n hx hb dX9_meanWick_36 rfl (lv_at hl 3 rfl) ?_
          obtain ⟨x37, hc37, hJ⟩ := bnd1_some hJ
          refine jcV_i (C := RX2) (T := TX2) (N := 10) (ci := 2) (q0 := 0) (As := [.int v3]) (rest := [.int v2]) (isC := [1, 3]) (isR := [0, 2]) (isB := [0, 2, 1, 3]) (wr := [(q_t, .inr (7, [.ref q_t_now, .ref q_t_snapshot, .int t_hasSnapshot, .ref q_t_past, .ref q_t_depths, .ref q_t_foresight, .ref q_t_text, .ref q_t_line, .ref q_t_reasons])), (q_t_now_kinds, .inl (cI, 16, .inl t_now_kinds))]) (ws2 := [(q_t, .inr (7, [.ref q_t_now, .ref q_t_snapshot, .int t_hasSnapshot, .ref q_t_past, .ref q_t_depths, .ref q_t_foresight, .ref q_t_text, .ref q_t_line, .ref q_t_reasons])), (q_t_now, .inr (2, [.int t_now_count, .ref q_t_now_kinds, .ref q_t_now_wicks, .ref q_t_now_sources, .ref q_t_now_changes, .long t_now_state, .int t_now_areLoopsAllowed, .int t_now_ticks, .int t_now_tickChanges, .int t_now_sets])), (q_t_now_kinds, .inl (cI, 16, .inl t_now_kinds)), (q_t_now_wicks, .inl (cI, 16, .inl t_now_wicks))]) hF (c_X2_wickOf l D cI cJ cC cL q_t_now q_t_now_kinds q_t_now_wicks q_t_now_sources q_t_now_changes t_now_count t_now_state t_now_areLoopsAllowed t_now_ticks t_now_tickChanges t_now_sets t_now_wicks v3 x37 hc37 H.size) (cwV 1 hts gX9_meanWick_X2_wickOf rfl rfl rfl (by decide +kernel) ⟨Nat.le_of_ble_eq_true rfl, Nat.le_of_ble_eq_true rfl⟩) rfl hl rfl (Nat.le_of_ble_eq_true rfl) dX9_meanWick_37 ⟨Nat.zero_le _, Nat.zero_le _⟩ hK hN KX_T trivial hP hD hS hA rfl rfl rfl rfl rfl rfl (by decide) rfl rfl (fun H locs hP hD hS => ?_)
          refine lv_iadd hx hb dX9_meanWick_40 ?_
          refine jt_i hJ (fun x40 hJ => ?_)
          refine lv_istore_n (lv' := [(2, .int x40), (1, .int x28), (0, .ref q_t), (3, .int v3)]) hx hb dX9_meanWick_41 rfl hl (by decide) rfl (fun ls hl => ?_)
          exact B42 (fun z0 z1 z2 => J_X9_meanWick_L6 t_now_count t_now_kinds t_now_wicks nf z0 z1 z2) ih x28 x40 v3  H locs  hP hD hS _ (lv_sub hl [2, 1, 0, 3] rfl) hJ
  unfold J_X9_meanWick at hJ
  refine lv_iconst (v := (0 : Int32)) hx hb dX9_meanWick_0 (by decide) ?_
  refine lv_istore_n (lv' := [(1, .int (0 : Int32)), (0, .ref q_t)]) hx hb dX9_meanWick_1 rfl hl (by decide) rfl (fun ls hl => ?_)
  refine lv_iconst (v := (0 : Int32)) hx hb dX9_meanWick_2 (by decide) ?_
  refine lv_istore_n (lv' := [(2, .int (0 : Int32)), (1, .int (0 : Int32)), (0, .ref q_t)]) hx hb dX9_meanWick_3 rfl hl (by decide) rfl (fun ls hl => ?_)
  refine lv_iconst (v := (0 : Int32)) hx hb dX9_meanWick_4 (by decide) ?_
  refine lv_istore_n (lv' := [(3, .int (0 : Int32)), (2, .int (0 : Int32)), (1, .int (0 : Int32)), (0, .ref q_t)]) hx hb dX9_meanWick_5 rfl hl (by decide) rfl (fun ls hl => ?_)
  exact L6  FU (0 : Int32) (0 : Int32) (0 : Int32)  s.heap []  hP hD hS _ (lv_sub hl [3, 2, 1, 0] rfl) hJ

def J_X10_meanWick_b39 (k6 : Int32 → Int32 → Int32 → Option (UInt64)) (t_now : Nat → Int32) (v1 : Int32) (v2 : Int32) (v3 : Int32) : Option (UInt64) :=
    nm (v3 + Int32.ofInt 1) fun x39 =>
    k6 v1 v2 x39
def J_X10_meanWick_b58 (t_now : Nat → Int32) (s58_0 : UInt64) : Option (UInt64) :=
    some (s58_0)
def J_X10_meanWick_L6 (t_now : Nat → Int32) : Nat → Int32 → Int32 → Int32 → Option (UInt64)
  | 0, _, _, _ => none
  | nf + 1, v1, v2, v3 =>
    chk (0 : Int32) 133 (
    nm (t_now (0 : Int32).toNatClampNeg) fun x12 =>
    if x12 ≤ v3 then (
    if v1 = 0 then (
    J_X10_meanWick_b58 t_now (FP.dconst0))
    else (
    chd (FP.ddiv (FP.i2d v2) (FP.i2d v1)) (
    J_X10_meanWick_b58 t_now (FP.ddiv (FP.i2d v2) (FP.i2d v1)))))
    else (
    bnd1 (J_X10_isSwitch t_now v3) fun x18 =>
    if x18 = 0 then (
    nm (v1 + Int32.ofInt 1) fun x27 =>
    bnd1 (J_X10_of t_now v3 (1 : Int32)) fun x34 =>
    nm (v2 + x34) fun x37 =>
    J_X10_meanWick_b39 (fun z0 z1 z2 => J_X10_meanWick_L6 t_now nf z0 z1 z2) t_now x27 x37 v3)
    else (
    J_X10_meanWick_b39 (fun z0 z1 z2 => J_X10_meanWick_L6 t_now nf z0 z1 z2) t_now v1 v2 v3)))
def J_X10_meanWick (t_now : Nat → Int32) : Option (UInt64) :=
    J_X10_meanWick_L6 t_now FU (0 : Int32) (0 : Int32) (0 : Int32)
abbrev rmX10_meanWick : Room := { frames := 2, cells := 0, slots := 0, locals := 43 }
set_option maxHeartbeats 4000000 in
set_option maxRecDepth 100000 in
theorem c_X10_meanWick (l : Launch) (D : va_G) (cI cJ cC cL : ClassId) (q_t q_t_now q_t_tried q_t_thought q_t_kept q_t_saved q_t_finds q_t_reach q_t_steps q_t_glows q_t_lower q_t_upper q_t_line q_t_text q_t_told q_t_why q_t_more : Nat) (t_undos : Int32) (t_isSaved : Int32) (t_lined : Int32) (t_length : Int32) (t_at : Int32) (t_order : Int32) (t_whys : Int32) (t_answer : Int32) (t_now : Nat → Int32) (r : UInt64) (hJ : J_X10_meanWick t_now = some (r)) (sz : Nat) : Met l yX10_meanWick wsX10_meanWick rmX10_meanWick (va_Pc [.ref q_t] (jpre XT D (tyL cI cJ cC cL) [(q_t, .inr (8, [.ref q_t_now, .ref q_t_tried, .ref q_t_thought, .ref q_t_kept, .int t_undos, .ref q_t_saved, .int t_isSaved, .ref q_t_finds, .ref q_t_reach, .ref q_t_steps, .ref q_t_glows, .ref q_t_lower, .ref q_t_upper, .ref q_t_line, .int t_lined, .ref q_t_text, .int t_length, .int t_at, .int t_order, .ref q_t_told, .ref q_t_why, .ref q_t_more, .int t_whys, .int t_answer])), (q_t_now, .inl (cI, 133, .inl t_now))] sz)) (va_Qd (fun r' (_ : Unit) => r' = r) (fun _ t => jpost D (tyL cI cJ cC cL) (va_A [(q_t, .inr (8, [.ref q_t_now, .ref q_t_tried, .ref q_t_thought, .ref q_t_kept, .int t_undos, .ref q_t_saved, .int t_isSaved, .ref q_t_finds, .ref q_t_reach, .ref q_t_steps, .ref q_t_glows, .ref q_t_lower, .ref q_t_upper, .ref q_t_line, .int t_lined, .ref q_t_text, .int t_length, .int t_at, .int t_order, .ref q_t_told, .ref q_t_why, .ref q_t_more, .int t_whys, .int t_answer])), (q_t_now, .inl (cI, 133, .inl t_now))] sz) [(q_t, .inr (8, [.ref q_t_now, .ref q_t_tried, .ref q_t_thought, .ref q_t_kept, .int t_undos, .ref q_t_saved, .int t_isSaved, .ref q_t_finds, .ref q_t_reach, .ref q_t_steps, .ref q_t_glows, .ref q_t_lower, .ref q_t_upper, .ref q_t_line, .int t_lined, .ref q_t_text, .int t_length, .int t_at, .int t_order, .ref q_t_told, .ref q_t_why, .ref q_t_more, .int t_whys, .int t_answer])), (q_t_now, .inl (cI, 133, .inl t_now))] t) (va_A [(q_t, .inr (8, [.ref q_t_now, .ref q_t_tried, .ref q_t_thought, .ref q_t_kept, .int t_undos, .ref q_t_saved, .int t_isSaved, .ref q_t_finds, .ref q_t_reach, .ref q_t_steps, .ref q_t_glows, .ref q_t_lower, .ref q_t_upper, .ref q_t_line, .int t_lined, .ref q_t_text, .int t_length, .int t_at, .int t_order, .ref q_t_told, .ref q_t_why, .ref q_t_more, .int t_whys, .int t_answer])), (q_t_now, .inl (cI, 133, .inl t_now))] sz)) 0 0 (va_A [(q_t, .inr (8, [.ref q_t_now, .ref q_t_tried, .ref q_t_thought, .ref q_t_kept, .int t_undos, .ref q_t_saved, .int t_isSaved, .ref q_t_finds, .ref q_t_reach, .ref q_t_steps, .ref q_t_glows, .ref q_t_lower, .ref q_t_upper, .ref q_t_line, .int t_lined, .ref q_t_text, .int t_length, .int t_at, .int t_order, .ref q_t_told, .ref q_t_why, .ref q_t_more, .int t_whys, .int t_answer])), (q_t_now, .inl (cI, 133, .inl t_now))] sz) := by
  refine jE_d (cc := cX10_meanWick) (maxL := 4) (own := RX10) (ret := (some .double)) (lv0 := [(0, .ref q_t)]) (by decide) rfl rfl rfl (Nat.le_of_ble_eq_true rfl) rfl ?_
  intro p e s m args below meth c A Q ls hx hb hml hown hts hK hN hX hA hP hD hS hl hRet
  have hF : CallFix p m c cX10_meanWick 4 s args wsX10_meanWick RX10 := ⟨hx, hb, hml, hown, hts⟩
  have fl_9 := hts (.fieldLink RX10 9 "LanternLogicModel" "now" "[I") (by decide +kernel)
  have hin_X10 : ∀ w ∈ u_ws RX10 TX10 24, w ∈ wsX10_meanWick := by decide +kernel
  have B39 : ∀ (k6 : Int32 → Int32 → Int32 → Option (UInt64)), (∀ (v1 : Int32) (v2 : Int32) (v3 : Int32) (H : Heap) (locs : List Loc), va_P D vwCl [(q_t, .inr (8, [.ref q_t_now, .ref q_t_tried, .ref q_t_thought, .ref q_t_kept, .int t_undos, .ref q_t_saved, .int t_isSaved, .ref q_t_finds, .ref q_t_reach, .ref q_t_steps, .ref q_t_glows, .ref q_t_lower, .ref q_t_upper, .ref q_t_line, .int t_lined, .ref q_t_text, .int t_length, .int t_at, .int t_order, .ref q_t_told, .ref q_t_why, .ref q_t_more, .int t_whys, .int t_answer])), (q_t_now, .inl (cI, 133, .inl t_now))] H → va_D A [(q_t, .inr (8, [.ref q_t_now, .ref q_t_tried, .ref q_t_thought, .ref q_t_kept, .int t_undos, .ref q_t_saved, .int t_isSaved, .ref q_t_finds, .ref q_t_reach, .ref q_t_steps, .ref q_t_glows, .ref q_t_lower, .ref q_t_upper, .ref q_t_line, .int t_lined, .ref q_t_text, .int t_length, .int t_at, .int t_order, .ref q_t_told, .ref q_t_why, .ref q_t_more, .int t_whys, .int t_answer])), (q_t_now, .inl (cI, 133, .inl t_now))] → va_S A s.heap H locs → ∀ ls : Array Slot, lv_has ls 4 [(0, .ref q_t), (1, .int v1), (2, .int v2), (3, .int v3)] → k6 v1 v2 v3 = some (r) → W p l e rmX10_meanWick s m args below meth c H locs 0 0 Q (F0 m 6 ls [])) → ∀ (v1 : Int32) (v2 : Int32) (v3 : Int32) (H : Heap) (locs : List Loc), va_P D vwCl [(q_t, .inr (8, [.ref q_t_now, .ref q_t_tried, .ref q_t_thought, .ref q_t_kept, .int t_undos, .ref q_t_saved, .int t_isSaved, .ref q_t_finds, .ref q_t_reach, .ref q_t_steps, .ref q_t_glows, .ref q_t_lower, .ref q_t_upper, .ref q_t_line, .int t_lined, .ref q_t_text, .int t_length, .int t_at, .int t_order, .ref q_t_told, .ref q_t_why, .ref q_t_more, .int t_whys, .int t_answer])), (q_t_now, .inl (cI, 133, .inl t_now))] H → va_D A [(q_t, .inr (8, [.ref q_t_now, .ref q_t_tried, .ref q_t_thought, .ref q_t_kept, .int t_undos, .ref q_t_saved, .int t_isSaved, .ref q_t_finds, .ref q_t_reach, .ref q_t_steps, .ref q_t_glows, .ref q_t_lower, .ref q_t_upper, .ref q_t_line, .int t_lined, .ref q_t_text, .int t_length, .int t_at, .int t_order, .ref q_t_told, .ref q_t_why, .ref q_t_more, .int t_whys, .int t_answer])), (q_t_now, .inl (cI, 133, .inl t_now))] → va_S A s.heap H locs → ∀ ls : Array Slot, lv_has ls 4 [(0, .ref q_t), (1, .int v1), (2, .int v2), (3, .int v3)] → J_X10_meanWick_b39 k6 t_now v1 v2 v3 = some (r) → W p l e rmX10_meanWick s m args below meth c H locs 0 0 Q (F0 m 39 ls []) := by
    intro k6 hk6 v1 v2 v3 H locs hP hD hS ls hl hJ
    unfold J_X10_meanWick_b39 at hJ
    refine jt_iinc hJ (fun x39 ex39 hJ => ?_)
    refine lv_iinc (v := x39) (lv' := [(3, .int x39), (0, .ref q_t), (1, .int v1), (2, .int v2)]) hx hb dX10_meanWick_39 hl (k := 3) rfl ex39 (by decide) rfl (fun ls hl => ?_)
    refine lv_goto (tgt := 6) hx hb dX10_meanWick_42 (by decide) ?_
    exact hk6 v1 v2 x39  H locs  hP hD hS _ (lv_sub hl [1, 2, 3, 0] rfl) hJ
  have B58 : ∀ (s58_0 : UInt64) (H : Heap) (locs : List Loc), va_P D vwCl [(q_t, .inr (8, [.ref q_t_now, .ref q_t_tried, .ref q_t_thought, .ref q_t_kept, .int t_undos, .ref q_t_saved, .int t_isSaved, .ref q_t_finds, .ref q_t_reach, .ref q_t_steps, .ref q_t_glows, .ref q_t_lower, .ref q_t_upper, .ref q_t_line, .int t_lined, .ref q_t_text, .int t_length, .int t_at, .int t_order, .ref q_t_told, .ref q_t_why, .ref q_t_more, .int t_whys, .int t_answer])), (q_t_now, .inl (cI, 133, .inl t_now))] H → va_D A [(q_t, .inr (8, [.ref q_t_now, .ref q_t_tried, .ref q_t_thought, .ref q_t_kept, .int t_undos, .ref q_t_saved, .int t_isSaved, .ref q_t_finds, .ref q_t_reach, .ref q_t_steps, .ref q_t_glows, .ref q_t_lower, .ref q_t_upper, .ref q_t_line, .int t_lined, .ref q_t_text, .int t_length, .int t_at, .int t_order, .ref q_t_told, .ref q_t_why, .ref q_t_more, .int t_whys, .int t_answer])), (q_t_now, .inl (cI, 133, .inl t_now))] → va_S A s.heap H locs → ∀ ls : Array Slot, lv_has ls 4 [] → J_X10_meanWick_b58  t_now s58_0 = some (r) → W p l e rmX10_meanWick s m args below meth c H locs 0 0 Q (F0 m 58 ls [.double s58_0]) := by
    intro s58_0 H locs hP hD hS ls hl hJ
    unfold J_X10_meanWick_b58 at hJ
    have e0 := Option.some.inj hJ
    exact hRet hP hD hS e0 dX10_meanWick_58
  have L6 : ∀ (nf : Nat), ∀ (v1 : Int32) (v2 : Int32) (v3 : Int32) (H : Heap) (locs : List Loc), va_P D vwCl [(q_t, .inr (8, [.ref q_t_now, .ref q_t_tried, .ref q_t_thought, .ref q_t_kept, .int t_undos, .ref q_t_saved, .int t_isSaved, .ref q_t_finds, .ref q_t_reach, .ref q_t_steps, .ref q_t_glows, .ref q_t_lower, .ref q_t_upper, .ref q_t_line, .int t_lined, .ref q_t_text, .int t_length, .int t_at, .int t_order, .ref q_t_told, .ref q_t_why, .ref q_t_more, .int t_whys, .int t_answer])), (q_t_now, .inl (cI, 133, .inl t_now))] H → va_D A [(q_t, .inr (8, [.ref q_t_now, .ref q_t_tried, .ref q_t_thought, .ref q_t_kept, .int t_undos, .ref q_t_saved, .int t_isSaved, .ref q_t_finds, .ref q_t_reach, .ref q_t_steps, .ref q_t_glows, .ref q_t_lower, .ref q_t_upper, .ref q_t_line, .int t_lined, .ref q_t_text, .int t_length, .int t_at, .int t_order, .ref q_t_told, .ref q_t_why, .ref q_t_more, .int t_whys, .int t_answer])), (q_t_now, .inl (cI, 133, .inl t_now))] → va_S A s.heap H locs → ∀ ls : Array Slot, lv_has ls 4 [(0, .ref q_t), (1, .int v1), (2, .int v2), (3, .int v3)] → J_X10_meanWick_L6  t_now nf v1 v2 v3 = some (r) → W p l e rmX10_meanWick s m args below meth c H locs 0 0 Q (F0 m 6 ls []) := by
    intro nf
    induction nf with
    | zero =>
      intro v1 v2 v3 H locs hP hD hS ls hl hJ
      rw [J_X10_meanWick_L6] at hJ
      cases hJ
    | succ nf ih =>
      intro v1 v2 v3 H locs hP hD hS ls hl hJ
      rw [J_X10_meanWick_L6] at hJ
      refine lv_iload_n hx hb dX10_meanWick_6 rfl (lv_at hl 3 rfl) ?_
      refine lv_aload_n hx hb dX10_meanWick_7 rfl (lv_at hl 0 rfl) ?_
      refine va_get (ci := 8) (v := .ref q_t_now) (C := RX10) (T := TX10) (N := 24) hx hb hts hin_X10 hown hK hP 0 rfl rfl 0 (by decide) fl_9 (fun _ h9 => h9) rfl dX10_meanWick_8 ?_
      refine lv_iconst (v := (0 : Int32)) hx hb dX10_meanWick_11 (by decide) ?_
      obtain ⟨hin, hJ⟩ := chk_in hJ
      refine va_iald hx hb hK hP 1 0 rfl rfl hin dX10_meanWick_12 ?_
      refine jt_i hJ (fun x12 hJ => ?_)
      refine jif_icmp_ge (tgt := 45) hx hb dX10_meanWick_13 (by decide) hJ (fun hJ => ?_) (fun hJ => ?_)
      · refine lv_iload_n hx hb dX10_meanWick_45 rfl (lv_at hl 1 rfl) ?_
        refine jif_ne (tgt := 53) hx hb dX10_meanWick_46 (by decide) hJ (fun hJ => ?_) (fun hJ => ?_)
        · refine lv_iload_n hx hb dX10_meanWick_53 rfl (lv_at hl 2 rfl) ?_
          refine lv_i2d hx hb dX10_meanWick_54 ?_
          refine lv_iload_n hx hb dX10_meanWick_55 rfl (lv_at hl 1 rfl) ?_
          refine lv_i2d hx hb dX10_meanWick_56 ?_
          obtain ⟨hne, hJ⟩ := chd_ok hJ
          refine lv_ddiv hx hb dX10_meanWick_57 hne ?_
          exact B58  (FP.ddiv (FP.i2d v2) (FP.i2d v1))  H locs  hP hD hS _ (lv_sub hl [] rfl) hJ
        · refine lv_dconst0 hx hb dX10_meanWick_49 ?_
          refine lv_goto (tgt := 58) hx hb dX10_meanWick_50 (by decide) ?_
          exact B58  (FP.dconst0)  H locs  hP hD hS _ (lv_sub hl [] rfl) hJ
      · refine lv_aload_n hx hb dX10_meanWick_16 rfl (lv_at hl 0 rfl) ?_
        refine lv_iload_n hx hb dX10_meanWick_17 rfl (lv_at hl 3 rfl) ?_
        obtain ⟨x18, hc18, hJ⟩ := bnd1_some hJ
        refine jcV_i (C := RX10) (T := TX10) (N := 24) (ci := 8) (q0 := 0) (As := [.int v3]) (rest := []) (isC := [0, 1]) (isR := []) (isB := [0, 1]) (wr := []) (ws2 := [(q_t, .inr (8, [.ref q_t_now, .ref q_t_tried, .ref q_t_thought, .ref q_t_kept, .int t_undos, .ref q_t_saved, .int t_isSaved, .ref q_t_finds, .ref q_t_reach, .ref q_t_steps, .ref q_t_glows, .ref q_t_lower, .ref q_t_upper, .ref q_t_line, .int t_lined, .ref q_t_text, .int t_length, .int t_at, .int t_order, .ref q_t_told, .ref q_t_why, .ref q_t_more, .int t_whys, .int t_answer])), (q_t_now, .inl (cI, 133, .inl t_now))]) hF (c_X10_isSwitch l D cI cJ cC cL q_t q_t_now q_t_tried q_t_thought q_t_kept q_t_saved q_t_finds q_t_reach q_t_steps q_t_glows q_t_lower q_t_upper q_t_line q_t_text q_t_told q_t_why q_t_more t_undos t_isSaved t_lined t_length t_at t_order t_whys t_answer t_now v3 x18 hc18 H.size) (cwV 1 hts gX10_meanWick_X10_isSwitch rfl rfl rfl (by decide +kernel) ⟨Nat.le_of_ble_eq_true rfl, Nat.le_of_ble_eq_true rfl⟩) rfl hl rfl (Nat.le_of_ble_eq_true rfl) dX10_meanWick_18 ⟨Nat.zero_le _, Nat.zero_le _⟩ hK hN KX_T trivial hP hD hS hA rfl rfl rfl rfl rfl rfl (by decide) rfl rfl (fun H locs hP hD hS => ?_)
        refine jif_eq (tgt := 27) hx hb dX10_meanWick_21 (by decide) hJ (fun hJ => ?_) (fun hJ => ?_)
        · refine jt_iinc hJ (fun x27 ex27 hJ => ?_)
          refine lv_iinc (v := x27) (lv' := [(1, .int x27), (0, .ref q_t), (2, .int v2), (3, .int v3)]) hx hb dX10_meanWick_27 hl (k := 1) rfl ex27 (by decide) rfl (fun ls hl => ?_)
          refine lv_iload_n hx hb dX10_meanWick_30 rfl (lv_at hl 2 rfl) ?_
          refine lv_aload_n hx hb dX10_meanWick_31 rfl (lv_at hl 1 rfl) ?_
          refine lv_iload_n hx hb dX10_meanWick_32 rfl (lv_at hl 3 rfl) ?_
          refine lv_iconst (v := (1 : Int32)) hx hb dX10_meanWick_33 (by decide) ?_
          obtain ⟨x34, hc34, hJ⟩ := bnd1_some hJ
          refine jcV_i (C := RX10) (T := TX10) (N := 24) (ci := 8) (q0 := 0) (As := [.int v3, .int (1 : Int32)]) (rest := [.int v2]) (isC := [0, 1]) (isR := []) (isB := [0, 1]) (wr := []) (ws2 := [(q_t, .inr (8, [.ref q_t_now, .ref q_t_tried, .ref q_t_thought, .ref q_t_kept, .int t_undos, .ref q_t_saved, .int t_isSaved, .ref q_t_finds, .ref q_t_reach, .ref q_t_steps, .ref q_t_glows, .ref q_t_lower, .ref q_t_upper, .ref q_t_line, .int t_lined, .ref q_t_text, .int t_length, .int t_at, .int t_order, .ref q_t_told, .ref q_t_why, .ref q_t_more, .int t_whys, .int t_answer])), (q_t_now, .inl (cI, 133, .inl t_now))]) hF (c_X10_of l D cI cJ cC cL q_t q_t_now q_t_tried q_t_thought q_t_kept q_t_saved q_t_finds q_t_reach q_t_steps q_t_glows q_t_lower q_t_upper q_t_line q_t_text q_t_told q_t_why q_t_more t_undos t_isSaved t_lined t_length t_at t_order t_whys t_answer t_now v3 (1 : Int32) x34 hc34 H.size) (cwV 2 hts gX10_meanWick_X10_of rfl rfl rfl (by decide +kernel) ⟨Nat.le_of_ble_eq_true rfl, Nat.le_of_ble_eq_true rfl⟩) rfl hl rfl (Nat.le_of_ble_eq_true rfl) dX10_meanWick_34 ⟨Nat.zero_le _, Nat.zero_le _⟩ hK hN KX_T trivial hP hD hS hA rfl rfl rfl rfl rfl rfl (by decide) rfl rfl (fun H locs hP hD hS => ?_)
          refine lv_iadd hx hb dX10_meanWick_37 ?_
          refine jt_i hJ (fun x37 hJ => ?_)
          refine lv_istore_n (lv' := [(2, .int x37), (1, .int x27), (0, .ref q_t), (3, .int v3)]) hx hb dX10_meanWick_38 rfl hl (by decide) rfl (fun ls hl => ?_)
          exact B39 (fun z0 z1 z2 => J_X10_meanWick_L6 t_now nf z0 z1 z2) ih x27 x37 v3  H locs  hP hD hS _ (lv_sub hl [2, 1, 0, 3] rfl) hJ
        · refine lv_goto (tgt := 39) hx hb dX10_meanWick_24 (by decide) ?_
          exact B39 (fun z0 z1 z2 => J_X10_meanWick_L6 t_now nf z0 z1 z2) ih v1 v2 v3  H locs  hP hD hS _ (lv_sub hl [0, 1, 2, 3] rfl) hJ
  unfold J_X10_meanWick at hJ
  refine lv_iconst (v := (0 : Int32)) hx hb dX10_meanWick_0 (by decide) ?_
  refine lv_istore_n (lv' := [(1, .int (0 : Int32)), (0, .ref q_t)]) hx hb dX10_meanWick_1 rfl hl (by decide) rfl (fun ls hl => ?_)
  refine lv_iconst (v := (0 : Int32)) hx hb dX10_meanWick_2 (by decide) ?_
  refine lv_istore_n (lv' := [(2, .int (0 : Int32)), (1, .int (0 : Int32)), (0, .ref q_t)]) hx hb dX10_meanWick_3 rfl hl (by decide) rfl (fun ls hl => ?_)
  refine lv_iconst (v := (0 : Int32)) hx hb dX10_meanWick_4 (by decide) ?_
  refine lv_istore_n (lv' := [(3, .int (0 : Int32)), (2, .int (0 : Int32)), (1, .int (0 : Int32)), (0, .ref q_t)]) hx hb dX10_meanWick_5 rfl hl (by decide) rfl (fun ls hl => ?_)
  exact L6  FU (0 : Int32) (0 : Int32) (0 : Int32)  s.heap []  hP hD hS _ (lv_sub hl [3, 2, 1, 0] rfl) hJ

def J_X9_glowShare_b30 (t_now_count : Int32) (t_now_state : Int64) (s30_0 : UInt32) : Option (UInt32) :=
    some (s30_0)
def J_X9_glowShare (t_now_count : Int32) (t_now_state : Int64) : Option (UInt32) :=
    bnd1 (J_X2_count t_now_count) fun x4 =>
    if x4 = 0 then (
    J_X9_glowShare_b30 t_now_count t_now_state (FP.fconst0))
    else (
    bnd1 (J_X2_glow t_now_state) fun x20 =>
    bnd1 (J_J6_bitCount_0f7a4 x20) fun x23 =>
    chf (FP.fdiv (FP.i2f x23) (FP.i2f x4)) (
    J_X9_glowShare_b30 t_now_count t_now_state (FP.fdiv (FP.i2f x23) (FP.i2f x4))))
abbrev rmX9_glowShare : Room := { frames := 2, cells := 0, slots := 0, locals := 41 }
set_option maxHeartbeats 4000000 in
set_option maxRecDepth 100000 in
theorem c_X9_glowShare (l : Launch) (D : va_G) (cI cJ cC cL : ClassId) (q_t q_t_now q_t_snapshot q_t_past q_t_depths q_t_foresight q_t_text q_t_line q_t_reasons q_t_now_kinds q_t_now_wicks q_t_now_sources q_t_now_changes : Nat) (t_hasSnapshot : Int32) (t_now_count : Int32) (t_now_state : Int64) (t_now_areLoopsAllowed : Int32) (t_now_ticks : Int32) (t_now_tickChanges : Int32) (t_now_sets : Int32) (r : UInt32) (hJ : J_X9_glowShare t_now_count t_now_state = some (r)) (sz : Nat) : Met l yX9_glowShare wsX9_glowShare rmX9_glowShare (va_Pc [.ref q_t] (jpre XT D (tyL cI cJ cC cL) [(q_t, .inr (7, [.ref q_t_now, .ref q_t_snapshot, .int t_hasSnapshot, .ref q_t_past, .ref q_t_depths, .ref q_t_foresight, .ref q_t_text, .ref q_t_line, .ref q_t_reasons])), (q_t_now, .inr (2, [.int t_now_count, .ref q_t_now_kinds, .ref q_t_now_wicks, .ref q_t_now_sources, .ref q_t_now_changes, .long t_now_state, .int t_now_areLoopsAllowed, .int t_now_ticks, .int t_now_tickChanges, .int t_now_sets]))] sz)) (va_Qf (fun r' (_ : Unit) => r' = r) (fun _ t => jpost D (tyL cI cJ cC cL) (va_A [(q_t, .inr (7, [.ref q_t_now, .ref q_t_snapshot, .int t_hasSnapshot, .ref q_t_past, .ref q_t_depths, .ref q_t_foresight, .ref q_t_text, .ref q_t_line, .ref q_t_reasons])), (q_t_now, .inr (2, [.int t_now_count, .ref q_t_now_kinds, .ref q_t_now_wicks, .ref q_t_now_sources, .ref q_t_now_changes, .long t_now_state, .int t_now_areLoopsAllowed, .int t_now_ticks, .int t_now_tickChanges, .int t_now_sets]))] sz) [(q_t, .inr (7, [.ref q_t_now, .ref q_t_snapshot, .int t_hasSnapshot, .ref q_t_past, .ref q_t_depths, .ref q_t_foresight, .ref q_t_text, .ref q_t_line, .ref q_t_reasons])), (q_t_now, .inr (2, [.int t_now_count, .ref q_t_now_kinds, .ref q_t_now_wicks, .ref q_t_now_sources, .ref q_t_now_changes, .long t_now_state, .int t_now_areLoopsAllowed, .int t_now_ticks, .int t_now_tickChanges, .int t_now_sets]))] t) (va_A [(q_t, .inr (7, [.ref q_t_now, .ref q_t_snapshot, .int t_hasSnapshot, .ref q_t_past, .ref q_t_depths, .ref q_t_foresight, .ref q_t_text, .ref q_t_line, .ref q_t_reasons])), (q_t_now, .inr (2, [.int t_now_count, .ref q_t_now_kinds, .ref q_t_now_wicks, .ref q_t_now_sources, .ref q_t_now_changes, .long t_now_state, .int t_now_areLoopsAllowed, .int t_now_ticks, .int t_now_tickChanges, .int t_now_sets]))] sz)) 0 0 (va_A [(q_t, .inr (7, [.ref q_t_now, .ref q_t_snapshot, .int t_hasSnapshot, .ref q_t_past, .ref q_t_depths, .ref q_t_foresight, .ref q_t_text, .ref q_t_line, .ref q_t_reasons])), (q_t_now, .inr (2, [.int t_now_count, .ref q_t_now_kinds, .ref q_t_now_wicks, .ref q_t_now_sources, .ref q_t_now_changes, .long t_now_state, .int t_now_areLoopsAllowed, .int t_now_ticks, .int t_now_tickChanges, .int t_now_sets]))] sz) := by
  refine jE_f (cc := cX9_glowShare) (maxL := 2) (own := RX9) (ret := (some .float)) (lv0 := [(0, .ref q_t)]) (by decide) rfl rfl rfl (Nat.le_of_ble_eq_true rfl) rfl ?_
  intro p e s m args below meth c A Q ls hx hb hml hown hts hK hN hX hA hP hD hS hl hRet
  have hF : CallFix p m c cX9_glowShare 2 s args wsX9_glowShare RX9 := ⟨hx, hb, hml, hown, hts⟩
  have fl_10 := hts (.fieldLink RX9 10 "LanternLogic" "now" "LLanternLogic$Lanterns;") (by decide +kernel)
  have hin_X9 : ∀ w ∈ u_ws RX9 TX9 9, w ∈ wsX9_glowShare := by decide +kernel
  have B30 : ∀ (s30_0 : UInt32) (H : Heap) (locs : List Loc), va_P D vwCl [(q_t, .inr (7, [.ref q_t_now, .ref q_t_snapshot, .int t_hasSnapshot, .ref q_t_past, .ref q_t_depths, .ref q_t_foresight, .ref q_t_text, .ref q_t_line, .ref q_t_reasons])), (q_t_now, .inr (2, [.int t_now_count, .ref q_t_now_kinds, .ref q_t_now_wicks, .ref q_t_now_sources, .ref q_t_now_changes, .long t_now_state, .int t_now_areLoopsAllowed, .int t_now_ticks, .int t_now_tickChanges, .int t_now_sets]))] H → va_D A [(q_t, .inr (7, [.ref q_t_now, .ref q_t_snapshot, .int t_hasSnapshot, .ref q_t_past, .ref q_t_depths, .ref q_t_foresight, .ref q_t_text, .ref q_t_line, .ref q_t_reasons])), (q_t_now, .inr (2, [.int t_now_count, .ref q_t_now_kinds, .ref q_t_now_wicks, .ref q_t_now_sources, .ref q_t_now_changes, .long t_now_state, .int t_now_areLoopsAllowed, .int t_now_ticks, .int t_now_tickChanges, .int t_now_sets]))] → va_S A s.heap H locs → ∀ ls : Array Slot, lv_has ls 2 [] → J_X9_glowShare_b30  t_now_count t_now_state s30_0 = some (r) → W p l e rmX9_glowShare s m args below meth c H locs 0 0 Q (F0 m 30 ls [.float s30_0]) := by
    intro s30_0 H locs hP hD hS ls hl hJ
    unfold J_X9_glowShare_b30 at hJ
    have e0 := Option.some.inj hJ
    exact hRet hP hD hS e0 dX9_glowShare_30
  unfold J_X9_glowShare at hJ
  refine lv_aload_n hx hb dX9_glowShare_0 rfl (lv_at hl 0 rfl) ?_
  refine va_get (ci := 7) (v := .ref q_t_now) (C := RX9) (T := TX9) (N := 9) hx hb hts hin_X9 hown hK hP 0 rfl rfl 0 (by decide) fl_10 (fun _ h9 => h9) rfl dX9_glowShare_1 ?_
  obtain ⟨x4, hc4, hJ⟩ := bnd1_some hJ
  refine jcV_i (C := RX2) (T := TX2) (N := 10) (ci := 2) (q0 := 0) (As := []) (rest := []) (isC := [1]) (isR := [0]) (isB := [0, 1]) (wr := [(q_t, .inr (7, [.ref q_t_now, .ref q_t_snapshot, .int t_hasSnapshot, .ref q_t_past, .ref q_t_depths, .ref q_t_foresight, .ref q_t_text, .ref q_t_line, .ref q_t_reasons]))]) (ws2 := [(q_t, .inr (7, [.ref q_t_now, .ref q_t_snapshot, .int t_hasSnapshot, .ref q_t_past, .ref q_t_depths, .ref q_t_foresight, .ref q_t_text, .ref q_t_line, .ref q_t_reasons])), (q_t_now, .inr (2, [.int t_now_count, .ref q_t_now_kinds, .ref q_t_now_wicks, .ref q_t_now_sources, .ref q_t_now_changes, .long t_now_state, .int t_now_areLoopsAllowed, .int t_now_ticks, .int t_now_tickChanges, .int t_now_sets]))]) hF (c_X2_count l D cI cJ cC cL q_t_now q_t_now_kinds q_t_now_wicks q_t_now_sources q_t_now_changes t_now_count t_now_state t_now_areLoopsAllowed t_now_ticks t_now_tickChanges t_now_sets x4 hc4 s.heap.size) (cwV 0 hts gX9_glowShare_X2_count rfl rfl rfl (by decide +kernel) ⟨Nat.le_of_ble_eq_true rfl, Nat.le_of_ble_eq_true rfl⟩) rfl hl rfl (Nat.le_of_ble_eq_true rfl) dX9_glowShare_4 ⟨Nat.zero_le _, Nat.zero_le _⟩ hK hN KX_T trivial hP hD hS hA rfl rfl rfl rfl rfl rfl (by decide) rfl rfl (fun H locs hP hD hS => ?_)
  refine lv_istore_n (lv' := [(1, .int x4), (0, .ref q_t)]) hx hb dX9_glowShare_7 rfl hl (by decide) rfl (fun ls hl => ?_)
  refine lv_iload_n hx hb dX9_glowShare_8 rfl (lv_at hl 0 rfl) ?_
  refine jif_ne (tgt := 16) hx hb dX9_glowShare_9 (by decide) hJ (fun hJ => ?_) (fun hJ => ?_)
  · refine lv_aload_n hx hb dX9_glowShare_16 rfl (lv_at hl 1 rfl) ?_
    refine va_get (ci := 7) (v := .ref q_t_now) (C := RX9) (T := TX9) (N := 9) hx hb hts hin_X9 hown hK hP 0 rfl rfl 0 (by decide) fl_10 (fun _ h9 => h9) rfl dX9_glowShare_17 ?_
    obtain ⟨x20, hc20, hJ⟩ := bnd1_some hJ
    refine jcV_i (C := RX2) (T := TX2) (N := 10) (ci := 2) (q0 := 0) (As := []) (rest := []) (isC := [1]) (isR := [0]) (isB := [0, 1]) (wr := [(q_t, .inr (7, [.ref q_t_now, .ref q_t_snapshot, .int t_hasSnapshot, .ref q_t_past, .ref q_t_depths, .ref q_t_foresight, .ref q_t_text, .ref q_t_line, .ref q_t_reasons]))]) (ws2 := [(q_t, .inr (7, [.ref q_t_now, .ref q_t_snapshot, .int t_hasSnapshot, .ref q_t_past, .ref q_t_depths, .ref q_t_foresight, .ref q_t_text, .ref q_t_line, .ref q_t_reasons])), (q_t_now, .inr (2, [.int t_now_count, .ref q_t_now_kinds, .ref q_t_now_wicks, .ref q_t_now_sources, .ref q_t_now_changes, .long t_now_state, .int t_now_areLoopsAllowed, .int t_now_ticks, .int t_now_tickChanges, .int t_now_sets]))]) hF (c_X2_glow l D cI cJ cC cL q_t_now q_t_now_kinds q_t_now_wicks q_t_now_sources q_t_now_changes t_now_count t_now_state t_now_areLoopsAllowed t_now_ticks t_now_tickChanges t_now_sets x20 hc20 H.size) (cwV 0 hts gX9_glowShare_X2_glow rfl rfl rfl (by decide +kernel) ⟨Nat.le_of_ble_eq_true rfl, Nat.le_of_ble_eq_true rfl⟩) rfl hl rfl (Nat.le_of_ble_eq_true rfl) dX9_glowShare_20 ⟨Nat.zero_le _, Nat.zero_le _⟩ hK hN KX_T trivial hP hD hS hA rfl rfl rfl rfl rfl rfl (by decide) rfl rfl (fun H locs hP hD hS => ?_)
    obtain ⟨x23, hc23, hJ⟩ := bnd1_some hJ
    refine jcS_i (As := [.int x20]) (rest := []) (isC := []) (isR := [0, 1]) (isB := [0, 1]) (wr := [(q_t, .inr (7, [.ref q_t_now, .ref q_t_snapshot, .int t_hasSnapshot, .ref q_t_past, .ref q_t_depths, .ref q_t_foresight, .ref q_t_text, .ref q_t_line, .ref q_t_reasons])), (q_t_now, .inr (2, [.int t_now_count, .ref q_t_now_kinds, .ref q_t_now_wicks, .ref q_t_now_sources, .ref q_t_now_changes, .long t_now_state, .int t_now_areLoopsAllowed, .int t_now_ticks, .int t_now_tickChanges, .int t_now_sets]))]) (ws2 := [(q_t, .inr (7, [.ref q_t_now, .ref q_t_snapshot, .int t_hasSnapshot, .ref q_t_past, .ref q_t_depths, .ref q_t_foresight, .ref q_t_text, .ref q_t_line, .ref q_t_reasons])), (q_t_now, .inr (2, [.int t_now_count, .ref q_t_now_kinds, .ref q_t_now_wicks, .ref q_t_now_sources, .ref q_t_now_changes, .long t_now_state, .int t_now_areLoopsAllowed, .int t_now_ticks, .int t_now_tickChanges, .int t_now_sets]))]) hF (c_J6_bitCount_0f7a4 l D cI cJ cC cL x20 x23 hc23 H.size) (va_cwS 1 hts gX9_glowShare_J6_bitCount_0f7a4 rfl rfl rfl (by decide +kernel) ⟨Nat.le_of_ble_eq_true rfl, Nat.le_of_ble_eq_true rfl⟩) rfl hl rfl (Nat.le_of_ble_eq_true rfl) dX9_glowShare_23 ⟨Nat.zero_le _, Nat.zero_le _⟩ hK hN KX_T trivial hP hD hS hA rfl rfl rfl rfl (by decide) rfl rfl (fun H locs hP hD hS => ?_)
    refine lv_i2f hx hb dX9_glowShare_26 ?_
    refine lv_iload_n hx hb dX9_glowShare_27 rfl (lv_at hl 0 rfl) ?_
    refine lv_i2f hx hb dX9_glowShare_28 ?_
    obtain ⟨hne, hJ⟩ := chf_ok hJ
    refine lv_fdiv hx hb dX9_glowShare_29 hne ?_
    exact B30  (FP.fdiv (FP.i2f x23) (FP.i2f x4))  H locs  hP hD hS _ (lv_sub hl [] rfl) hJ
  · refine lv_fconst0 hx hb dX9_glowShare_12 ?_
    refine lv_goto (tgt := 30) hx hb dX9_glowShare_13 (by decide) ?_
    exact B30  (FP.fconst0)  H locs  hP hD hS _ (lv_sub hl [] rfl) hJ

def J_X10_glowShare_b26 (t_now : Nat → Int32) (s26_0 : UInt32) : Option (UInt32) :=
    some (s26_0)
def J_X10_glowShare (t_now : Nat → Int32) : Option (UInt32) :=
    chk (0 : Int32) 133 (
    nm (t_now (0 : Int32).toNatClampNeg) fun x5 =>
    if x5 = 0 then (
    J_X10_glowShare_b26 t_now (FP.fconst0))
    else (
    bnd1 (J_X10_glowing t_now) fun x14 =>
    chk (0 : Int32) 133 (
    nm (t_now (0 : Int32).toNatClampNeg) fun x23 =>
    chf (FP.fdiv (FP.i2f x14) (FP.i2f x23)) (
    J_X10_glowShare_b26 t_now (FP.fdiv (FP.i2f x14) (FP.i2f x23))))))
abbrev rmX10_glowShare : Room := { frames := 2, cells := 0, slots := 0, locals := 44 }
set_option maxHeartbeats 4000000 in
set_option maxRecDepth 100000 in
theorem c_X10_glowShare (l : Launch) (D : va_G) (cI cJ cC cL : ClassId) (q_t q_t_now q_t_tried q_t_thought q_t_kept q_t_saved q_t_finds q_t_reach q_t_steps q_t_glows q_t_lower q_t_upper q_t_line q_t_text q_t_told q_t_why q_t_more : Nat) (t_undos : Int32) (t_isSaved : Int32) (t_lined : Int32) (t_length : Int32) (t_at : Int32) (t_order : Int32) (t_whys : Int32) (t_answer : Int32) (t_now : Nat → Int32) (r : UInt32) (hJ : J_X10_glowShare t_now = some (r)) (sz : Nat) : Met l yX10_glowShare wsX10_glowShare rmX10_glowShare (va_Pc [.ref q_t] (jpre XT D (tyL cI cJ cC cL) [(q_t, .inr (8, [.ref q_t_now, .ref q_t_tried, .ref q_t_thought, .ref q_t_kept, .int t_undos, .ref q_t_saved, .int t_isSaved, .ref q_t_finds, .ref q_t_reach, .ref q_t_steps, .ref q_t_glows, .ref q_t_lower, .ref q_t_upper, .ref q_t_line, .int t_lined, .ref q_t_text, .int t_length, .int t_at, .int t_order, .ref q_t_told, .ref q_t_why, .ref q_t_more, .int t_whys, .int t_answer])), (q_t_now, .inl (cI, 133, .inl t_now))] sz)) (va_Qf (fun r' (_ : Unit) => r' = r) (fun _ t => jpost D (tyL cI cJ cC cL) (va_A [(q_t, .inr (8, [.ref q_t_now, .ref q_t_tried, .ref q_t_thought, .ref q_t_kept, .int t_undos, .ref q_t_saved, .int t_isSaved, .ref q_t_finds, .ref q_t_reach, .ref q_t_steps, .ref q_t_glows, .ref q_t_lower, .ref q_t_upper, .ref q_t_line, .int t_lined, .ref q_t_text, .int t_length, .int t_at, .int t_order, .ref q_t_told, .ref q_t_why, .ref q_t_more, .int t_whys, .int t_answer])), (q_t_now, .inl (cI, 133, .inl t_now))] sz) [(q_t, .inr (8, [.ref q_t_now, .ref q_t_tried, .ref q_t_thought, .ref q_t_kept, .int t_undos, .ref q_t_saved, .int t_isSaved, .ref q_t_finds, .ref q_t_reach, .ref q_t_steps, .ref q_t_glows, .ref q_t_lower, .ref q_t_upper, .ref q_t_line, .int t_lined, .ref q_t_text, .int t_length, .int t_at, .int t_order, .ref q_t_told, .ref q_t_why, .ref q_t_more, .int t_whys, .int t_answer])), (q_t_now, .inl (cI, 133, .inl t_now))] t) (va_A [(q_t, .inr (8, [.ref q_t_now, .ref q_t_tried, .ref q_t_thought, .ref q_t_kept, .int t_undos, .ref q_t_saved, .int t_isSaved, .ref q_t_finds, .ref q_t_reach, .ref q_t_steps, .ref q_t_glows, .ref q_t_lower, .ref q_t_upper, .ref q_t_line, .int t_lined, .ref q_t_text, .int t_length, .int t_at, .int t_order, .ref q_t_told, .ref q_t_why, .ref q_t_more, .int t_whys, .int t_answer])), (q_t_now, .inl (cI, 133, .inl t_now))] sz)) 0 0 (va_A [(q_t, .inr (8, [.ref q_t_now, .ref q_t_tried, .ref q_t_thought, .ref q_t_kept, .int t_undos, .ref q_t_saved, .int t_isSaved, .ref q_t_finds, .ref q_t_reach, .ref q_t_steps, .ref q_t_glows, .ref q_t_lower, .ref q_t_upper, .ref q_t_line, .int t_lined, .ref q_t_text, .int t_length, .int t_at, .int t_order, .ref q_t_told, .ref q_t_why, .ref q_t_more, .int t_whys, .int t_answer])), (q_t_now, .inl (cI, 133, .inl t_now))] sz) := by
  refine jE_f (cc := cX10_glowShare) (maxL := 1) (own := RX10) (ret := (some .float)) (lv0 := [(0, .ref q_t)]) (by decide) rfl rfl rfl (Nat.le_of_ble_eq_true rfl) rfl ?_
  intro p e s m args below meth c A Q ls hx hb hml hown hts hK hN hX hA hP hD hS hl hRet
  have hF : CallFix p m c cX10_glowShare 1 s args wsX10_glowShare RX10 := ⟨hx, hb, hml, hown, hts⟩
  have fl_9 := hts (.fieldLink RX10 9 "LanternLogicModel" "now" "[I") (by decide +kernel)
  have hin_X10 : ∀ w ∈ u_ws RX10 TX10 24, w ∈ wsX10_glowShare := by decide +kernel
  have B26 : ∀ (s26_0 : UInt32) (H : Heap) (locs : List Loc), va_P D vwCl [(q_t, .inr (8, [.ref q_t_now, .ref q_t_tried, .ref q_t_thought, .ref q_t_kept, .int t_undos, .ref q_t_saved, .int t_isSaved, .ref q_t_finds, .ref q_t_reach, .ref q_t_steps, .ref q_t_glows, .ref q_t_lower, .ref q_t_upper, .ref q_t_line, .int t_lined, .ref q_t_text, .int t_length, .int t_at, .int t_order, .ref q_t_told, .ref q_t_why, .ref q_t_more, .int t_whys, .int t_answer])), (q_t_now, .inl (cI, 133, .inl t_now))] H → va_D A [(q_t, .inr (8, [.ref q_t_now, .ref q_t_tried, .ref q_t_thought, .ref q_t_kept, .int t_undos, .ref q_t_saved, .int t_isSaved, .ref q_t_finds, .ref q_t_reach, .ref q_t_steps, .ref q_t_glows, .ref q_t_lower, .ref q_t_upper, .ref q_t_line, .int t_lined, .ref q_t_text, .int t_length, .int t_at, .int t_order, .ref q_t_told, .ref q_t_why, .ref q_t_more, .int t_whys, .int t_answer])), (q_t_now, .inl (cI, 133, .inl t_now))] → va_S A s.heap H locs → ∀ ls : Array Slot, lv_has ls 1 [] → J_X10_glowShare_b26  t_now s26_0 = some (r) → W p l e rmX10_glowShare s m args below meth c H locs 0 0 Q (F0 m 26 ls [.float s26_0]) := by
    intro s26_0 H locs hP hD hS ls hl hJ
    unfold J_X10_glowShare_b26 at hJ
    have e0 := Option.some.inj hJ
    exact hRet hP hD hS e0 dX10_glowShare_26
  unfold J_X10_glowShare at hJ
  refine lv_aload_n hx hb dX10_glowShare_0 rfl (lv_at hl 0 rfl) ?_
  refine va_get (ci := 8) (v := .ref q_t_now) (C := RX10) (T := TX10) (N := 24) hx hb hts hin_X10 hown hK hP 0 rfl rfl 0 (by decide) fl_9 (fun _ h9 => h9) rfl dX10_glowShare_1 ?_
  refine lv_iconst (v := (0 : Int32)) hx hb dX10_glowShare_4 (by decide) ?_
  obtain ⟨hin, hJ⟩ := chk_in hJ
  refine va_iald hx hb hK hP 1 0 rfl rfl hin dX10_glowShare_5 ?_
  refine jt_i hJ (fun x5 hJ => ?_)
  refine jif_ne (tgt := 13) hx hb dX10_glowShare_6 (by decide) hJ (fun hJ => ?_) (fun hJ => ?_)
  · refine lv_aload_n hx hb dX10_glowShare_13 rfl (lv_at hl 0 rfl) ?_
    obtain ⟨x14, hc14, hJ⟩ := bnd1_some hJ
    refine jcV_i (C := RX10) (T := TX10) (N := 24) (ci := 8) (q0 := 0) (As := []) (rest := []) (isC := [0, 1]) (isR := []) (isB := [0, 1]) (wr := []) (ws2 := [(q_t, .inr (8, [.ref q_t_now, .ref q_t_tried, .ref q_t_thought, .ref q_t_kept, .int t_undos, .ref q_t_saved, .int t_isSaved, .ref q_t_finds, .ref q_t_reach, .ref q_t_steps, .ref q_t_glows, .ref q_t_lower, .ref q_t_upper, .ref q_t_line, .int t_lined, .ref q_t_text, .int t_length, .int t_at, .int t_order, .ref q_t_told, .ref q_t_why, .ref q_t_more, .int t_whys, .int t_answer])), (q_t_now, .inl (cI, 133, .inl t_now))]) hF (c_X10_glowing l D cI cJ cC cL q_t q_t_now q_t_tried q_t_thought q_t_kept q_t_saved q_t_finds q_t_reach q_t_steps q_t_glows q_t_lower q_t_upper q_t_line q_t_text q_t_told q_t_why q_t_more t_undos t_isSaved t_lined t_length t_at t_order t_whys t_answer t_now x14 hc14 s.heap.size) (cwV 0 hts gX10_glowShare_X10_glowing rfl rfl rfl (by decide +kernel) ⟨Nat.le_of_ble_eq_true rfl, Nat.le_of_ble_eq_true rfl⟩) rfl hl rfl (Nat.le_of_ble_eq_true rfl) dX10_glowShare_14 ⟨Nat.zero_le _, Nat.zero_le _⟩ hK hN KX_T trivial hP hD hS hA rfl rfl rfl rfl rfl rfl (by decide) rfl rfl (fun H locs hP hD hS => ?_)
    refine lv_i2f hx hb dX10_glowShare_17 ?_
    refine lv_aload_n hx hb dX10_glowShare_18 rfl (lv_at hl 0 rfl) ?_
    refine va_get (ci := 8) (v := .ref q_t_now) (C := RX10) (T := TX10) (N := 24) hx hb hts hin_X10 hown hK hP 0 rfl rfl 0 (by decide) fl_9 (fun _ h9 => h9) rfl dX10_glowShare_19 ?_
    refine lv_iconst (v := (0 : Int32)) hx hb dX10_glowShare_22 (by decide) ?_
    obtain ⟨hin, hJ⟩ := chk_in hJ
    refine va_iald hx hb hK hP 1 0 rfl rfl hin dX10_glowShare_23 ?_
    refine jt_i hJ (fun x23 hJ => ?_)
    refine lv_i2f hx hb dX10_glowShare_24 ?_
    obtain ⟨hne, hJ⟩ := chf_ok hJ
    refine lv_fdiv hx hb dX10_glowShare_25 hne ?_
    exact B26  (FP.fdiv (FP.i2f x14) (FP.i2f x23))  H locs  hP hD hS _ (lv_sub hl [] rfl) hJ
  · refine lv_fconst0 hx hb dX10_glowShare_9 ?_
    refine lv_goto (tgt := 26) hx hb dX10_glowShare_10 (by decide) ?_
    exact B26  (FP.fconst0)  s.heap []  hP hD hS _ (lv_sub hl [] rfl) hJ


def J_X10_goes_b85 (k8 : (Nat → Int32) → (Nat → Int32) → Int32 → Int32 → Option (Int32 × (Nat → Int32) × (Nat → Int32))) (t_now : Nat → Int32) (t_finds : Nat → Int32) (v1 : Int32) (v2 : Int32) : Option (Int32 × (Nat → Int32) × (Nat → Int32)) :=
    nm (v2 + Int32.ofInt 1) fun x85 =>
    k8 t_now t_finds v1 x85
def J_X10_goes_b69 (k8 : (Nat → Int32) → (Nat → Int32) → Int32 → Int32 → Option (Int32 × (Nat → Int32) × (Nat → Int32))) (t_now : Nat → Int32) (t_finds : Nat → Int32) (v1 : Int32) (v2 : Int32) (v3 : Int32) (v4 : Int32) : Option (Int32 × (Nat → Int32) × (Nat → Int32)) :=
    bnd1 (J_X10_sets t_now v2 (2 : Int32) v3) fun t_now_73 =>
    bnd1 (J_X10_sets t_now_73 v2 (7 : Int32) v4) fun t_now_82 =>
    J_X10_goes_b85 k8  t_now_82 t_finds v1 v2
def J_X10_goes_L8  : Nat → (Nat → Int32) → (Nat → Int32) → Int32 → Int32 → Option (Int32 × (Nat → Int32) × (Nat → Int32))
  | 0, _, _, _, _ => none
  | nf + 1, t_now, t_finds, v1, v2 =>
    chk (0 : Int32) 133 (
    nm (t_now (0 : Int32).toNatClampNeg) fun x14 =>
    if x14 ≤ v2 then (
    chk (2 : Int32) 133 (
    nm (t_now (2 : Int32).toNatClampNeg) fun x97 =>
    nm (x97 + (1 : Int32)) fun x99 =>
    chk (2 : Int32) 133 (
    chk (3 : Int32) 133 (
    nm ((upd t_now (2 : Int32).toNatClampNeg x99) (3 : Int32).toNatClampNeg) fun x107 =>
    nm (x107 + v1) fun x109 =>
    chk (3 : Int32) 133 (
    some (v1, (upd (upd t_now (2 : Int32).toNatClampNeg x99) (3 : Int32).toNatClampNeg x109), t_finds))))))
    else (
    bnd1 (J_X10_isSwitch t_now v2) fun x20 =>
    if x20 = 0 then (
    bnd1 (J_X10_glowBehind t_now t_finds v2) fun x31 =>
    bnd1 (J_X10_foundBehind t_now t_finds v2) fun x37 =>
    bnd1 (J_X10_of t_now v2 (2 : Int32)) fun x46 =>
    if x31 = x46 then (
    J_X10_goes_b69 (fun z0 z1 z2 z3 => J_X10_goes_L8  nf z0 z1 z2 z3)  t_now t_finds v1 v2 x31 x37)
    else (
    nm (v1 + Int32.ofInt 1) fun x52 =>
    bnd1 (J_X10_of t_now v2 (3 : Int32)) fun x61 =>
    nm (x61 + (1 : Int32)) fun x65 =>
    bnd1 (J_X10_sets t_now v2 (3 : Int32) x65) fun t_now_66 =>
    J_X10_goes_b69 (fun z0 z1 z2 z3 => J_X10_goes_L8  nf z0 z1 z2 z3)  t_now_66 t_finds x52 v2 x31 x37))
    else (
    J_X10_goes_b85 (fun z0 z1 z2 z3 => J_X10_goes_L8  nf z0 z1 z2 z3)  t_now t_finds v1 v2)))
def J_X10_goes (t_now : Nat → Int32) (t_finds : Nat → Int32) : Option (Int32 × (Nat → Int32) × (Nat → Int32)) :=
    bnd1 (J_X10_allFind t_now t_finds) fun t_finds_1 =>
    J_X10_goes_L8  FU t_now t_finds_1 (0 : Int32) (0 : Int32)
abbrev rmX10_goes : Room := { frames := 5, cells := 0, slots := 0, locals := 111 }
set_option maxHeartbeats 4000000 in
set_option maxRecDepth 100000 in
theorem c_X10_goes (l : Launch) (D : va_G) (cI cJ cC cL : ClassId) (q_t q_t_now q_t_tried q_t_thought q_t_kept q_t_saved q_t_finds q_t_reach q_t_steps q_t_glows q_t_lower q_t_upper q_t_line q_t_text q_t_told q_t_why q_t_more : Nat) (t_undos : Int32) (t_isSaved : Int32) (t_lined : Int32) (t_length : Int32) (t_at : Int32) (t_order : Int32) (t_whys : Int32) (t_answer : Int32) (t_now : Nat → Int32) (t_finds : Nat → Int32) (r : Int32) (o_t_now : Nat → Int32) (o_t_finds : Nat → Int32) (hJ : J_X10_goes t_now t_finds = some (r, o_t_now, o_t_finds)) (sz : Nat) : Met l yX10_goes wsX10_goes rmX10_goes (va_Pc [.ref q_t] (jpre XT D (tyL cI cJ cC cL) [(q_t, .inr (8, [.ref q_t_now, .ref q_t_tried, .ref q_t_thought, .ref q_t_kept, .int t_undos, .ref q_t_saved, .int t_isSaved, .ref q_t_finds, .ref q_t_reach, .ref q_t_steps, .ref q_t_glows, .ref q_t_lower, .ref q_t_upper, .ref q_t_line, .int t_lined, .ref q_t_text, .int t_length, .int t_at, .int t_order, .ref q_t_told, .ref q_t_why, .ref q_t_more, .int t_whys, .int t_answer])), (q_t_now, .inl (cI, 133, .inl t_now)), (q_t_finds, .inl (cI, 16, .inl t_finds))] sz)) (va_Qi (fun r' (_ : Unit) => r' = r) (fun _ t => jpost D (tyL cI cJ cC cL) (va_A [(q_t, .inr (8, [.ref q_t_now, .ref q_t_tried, .ref q_t_thought, .ref q_t_kept, .int t_undos, .ref q_t_saved, .int t_isSaved, .ref q_t_finds, .ref q_t_reach, .ref q_t_steps, .ref q_t_glows, .ref q_t_lower, .ref q_t_upper, .ref q_t_line, .int t_lined, .ref q_t_text, .int t_length, .int t_at, .int t_order, .ref q_t_told, .ref q_t_why, .ref q_t_more, .int t_whys, .int t_answer])), (q_t_now, .inl (cI, 133, .inl t_now)), (q_t_finds, .inl (cI, 16, .inl t_finds))] sz) [(q_t, .inr (8, [.ref q_t_now, .ref q_t_tried, .ref q_t_thought, .ref q_t_kept, .int t_undos, .ref q_t_saved, .int t_isSaved, .ref q_t_finds, .ref q_t_reach, .ref q_t_steps, .ref q_t_glows, .ref q_t_lower, .ref q_t_upper, .ref q_t_line, .int t_lined, .ref q_t_text, .int t_length, .int t_at, .int t_order, .ref q_t_told, .ref q_t_why, .ref q_t_more, .int t_whys, .int t_answer])), (q_t_now, .inl (cI, 133, .inl o_t_now)), (q_t_finds, .inl (cI, 16, .inl o_t_finds))] t) (va_A [(q_t, .inr (8, [.ref q_t_now, .ref q_t_tried, .ref q_t_thought, .ref q_t_kept, .int t_undos, .ref q_t_saved, .int t_isSaved, .ref q_t_finds, .ref q_t_reach, .ref q_t_steps, .ref q_t_glows, .ref q_t_lower, .ref q_t_upper, .ref q_t_line, .int t_lined, .ref q_t_text, .int t_length, .int t_at, .int t_order, .ref q_t_told, .ref q_t_why, .ref q_t_more, .int t_whys, .int t_answer])), (q_t_now, .inl (cI, 133, .inl t_now)), (q_t_finds, .inl (cI, 16, .inl t_finds))] sz)) 0 0 (va_A [(q_t, .inr (8, [.ref q_t_now, .ref q_t_tried, .ref q_t_thought, .ref q_t_kept, .int t_undos, .ref q_t_saved, .int t_isSaved, .ref q_t_finds, .ref q_t_reach, .ref q_t_steps, .ref q_t_glows, .ref q_t_lower, .ref q_t_upper, .ref q_t_line, .int t_lined, .ref q_t_text, .int t_length, .int t_at, .int t_order, .ref q_t_told, .ref q_t_why, .ref q_t_more, .int t_whys, .int t_answer])), (q_t_now, .inl (cI, 133, .inl t_now)), (q_t_finds, .inl (cI, 16, .inl t_finds))] sz) := by
  refine jE_i (cc := cX10_goes) (maxL := 5) (own := RX10) (ret := (some .int)) (lv0 := [(0, .ref q_t)]) (by decide) rfl rfl rfl (Nat.le_of_ble_eq_true rfl) rfl ?_
  intro p e s m args below meth c A Q ls hx hb hml hown hts hK hN hX hA hP hD hS hl hRet
  have hF : CallFix p m c cX10_goes 5 s args wsX10_goes RX10 := ⟨hx, hb, hml, hown, hts⟩
  have fl_9 := hts (.fieldLink RX10 9 "LanternLogicModel" "now" "[I") (by decide +kernel)
  have hin_X10 : ∀ w ∈ u_ws RX10 TX10 24, w ∈ wsX10_goes := by decide +kernel
  have B85 : ∀ (k8 : (Nat → Int32) → (Nat → Int32) → Int32 → Int32 → Option (Int32 × (Nat → Int32) × (Nat → Int32))), (∀ (t_now : Nat → Int32) (t_finds : Nat → Int32) (v1 : Int32) (v2 : Int32) (H : Heap) (locs : List Loc), va_P D vwCl [(q_t, .inr (8, [.ref q_t_now, .ref q_t_tried, .ref q_t_thought, .ref q_t_kept, .int t_undos, .ref q_t_saved, .int t_isSaved, .ref q_t_finds, .ref q_t_reach, .ref q_t_steps, .ref q_t_glows, .ref q_t_lower, .ref q_t_upper, .ref q_t_line, .int t_lined, .ref q_t_text, .int t_length, .int t_at, .int t_order, .ref q_t_told, .ref q_t_why, .ref q_t_more, .int t_whys, .int t_answer])), (q_t_now, .inl (cI, 133, .inl t_now)), (q_t_finds, .inl (cI, 16, .inl t_finds))] H → va_D A [(q_t, .inr (8, [.ref q_t_now, .ref q_t_tried, .ref q_t_thought, .ref q_t_kept, .int t_undos, .ref q_t_saved, .int t_isSaved, .ref q_t_finds, .ref q_t_reach, .ref q_t_steps, .ref q_t_glows, .ref q_t_lower, .ref q_t_upper, .ref q_t_line, .int t_lined, .ref q_t_text, .int t_length, .int t_at, .int t_order, .ref q_t_told, .ref q_t_why, .ref q_t_more, .int t_whys, .int t_answer])), (q_t_now, .inl (cI, 133, .inl t_now)), (q_t_finds, .inl (cI, 16, .inl t_finds))] → va_S A s.heap H locs → ∀ ls : Array Slot, lv_has ls 5 [(0, .ref q_t), (1, .int v1), (2, .int v2)] → k8 t_now t_finds v1 v2 = some (r, o_t_now, o_t_finds) → W p l e rmX10_goes s m args below meth c H locs 0 0 Q (F0 m 8 ls [])) → ∀ (t_now : Nat → Int32) (t_finds : Nat → Int32) (v1 : Int32) (v2 : Int32) (H : Heap) (locs : List Loc), va_P D vwCl [(q_t, .inr (8, [.ref q_t_now, .ref q_t_tried, .ref q_t_thought, .ref q_t_kept, .int t_undos, .ref q_t_saved, .int t_isSaved, .ref q_t_finds, .ref q_t_reach, .ref q_t_steps, .ref q_t_glows, .ref q_t_lower, .ref q_t_upper, .ref q_t_line, .int t_lined, .ref q_t_text, .int t_length, .int t_at, .int t_order, .ref q_t_told, .ref q_t_why, .ref q_t_more, .int t_whys, .int t_answer])), (q_t_now, .inl (cI, 133, .inl t_now)), (q_t_finds, .inl (cI, 16, .inl t_finds))] H → va_D A [(q_t, .inr (8, [.ref q_t_now, .ref q_t_tried, .ref q_t_thought, .ref q_t_kept, .int t_undos, .ref q_t_saved, .int t_isSaved, .ref q_t_finds, .ref q_t_reach, .ref q_t_steps, .ref q_t_glows, .ref q_t_lower, .ref q_t_upper, .ref q_t_line, .int t_lined, .ref q_t_text, .int t_length, .int t_at, .int t_order, .ref q_t_told, .ref q_t_why, .ref q_t_more, .int t_whys, .int t_answer])), (q_t_now, .inl (cI, 133, .inl t_now)), (q_t_finds, .inl (cI, 16, .inl t_finds))] → va_S A s.heap H locs → ∀ ls : Array Slot, lv_has ls 5 [(0, .ref q_t), (1, .int v1), (2, .int v2)] → J_X10_goes_b85 k8  t_now t_finds v1 v2 = some (r, o_t_now, o_t_finds) → W p l e rmX10_goes s m args below meth c H locs 0 0 Q (F0 m 85 ls []) := by
    intro k8 hk8 t_now t_finds v1 v2 H locs hP hD hS ls hl hJ
    unfold J_X10_goes_b85 at hJ
    refine jt_iinc hJ (fun x85 ex85 hJ => ?_)
    refine lv_iinc (v := x85) (lv' := [(2, .int x85), (0, .ref q_t), (1, .int v1)]) hx hb dX10_goes_85 hl (k := 2) rfl ex85 (by decide) rfl (fun ls hl => ?_)
    refine lv_goto (tgt := 8) hx hb dX10_goes_88 (by decide) ?_
    exact hk8 t_now t_finds v1 x85  H locs  hP hD hS _ (lv_sub hl [1, 2, 0] rfl) hJ
  have B69 : ∀ (k8 : (Nat → Int32) → (Nat → Int32) → Int32 → Int32 → Option (Int32 × (Nat → Int32) × (Nat → Int32))), (∀ (t_now : Nat → Int32) (t_finds : Nat → Int32) (v1 : Int32) (v2 : Int32) (H : Heap) (locs : List Loc), va_P D vwCl [(q_t, .inr (8, [.ref q_t_now, .ref q_t_tried, .ref q_t_thought, .ref q_t_kept, .int t_undos, .ref q_t_saved, .int t_isSaved, .ref q_t_finds, .ref q_t_reach, .ref q_t_steps, .ref q_t_glows, .ref q_t_lower, .ref q_t_upper, .ref q_t_line, .int t_lined, .ref q_t_text, .int t_length, .int t_at, .int t_order, .ref q_t_told, .ref q_t_why, .ref q_t_more, .int t_whys, .int t_answer])), (q_t_now, .inl (cI, 133, .inl t_now)), (q_t_finds, .inl (cI, 16, .inl t_finds))] H → va_D A [(q_t, .inr (8, [.ref q_t_now, .ref q_t_tried, .ref q_t_thought, .ref q_t_kept, .int t_undos, .ref q_t_saved, .int t_isSaved, .ref q_t_finds, .ref q_t_reach, .ref q_t_steps, .ref q_t_glows, .ref q_t_lower, .ref q_t_upper, .ref q_t_line, .int t_lined, .ref q_t_text, .int t_length, .int t_at, .int t_order, .ref q_t_told, .ref q_t_why, .ref q_t_more, .int t_whys, .int t_answer])), (q_t_now, .inl (cI, 133, .inl t_now)), (q_t_finds, .inl (cI, 16, .inl t_finds))] → va_S A s.heap H locs → ∀ ls : Array Slot, lv_has ls 5 [(0, .ref q_t), (1, .int v1), (2, .int v2)] → k8 t_now t_finds v1 v2 = some (r, o_t_now, o_t_finds) → W p l e rmX10_goes s m args below meth c H locs 0 0 Q (F0 m 8 ls [])) → ∀ (t_now : Nat → Int32) (t_finds : Nat → Int32) (v1 : Int32) (v2 : Int32) (v3 : Int32) (v4 : Int32) (H : Heap) (locs : List Loc), va_P D vwCl [(q_t, .inr (8, [.ref q_t_now, .ref q_t_tried, .ref q_t_thought, .ref q_t_kept, .int t_undos, .ref q_t_saved, .int t_isSaved, .ref q_t_finds, .ref q_t_reach, .ref q_t_steps, .ref q_t_glows, .ref q_t_lower, .ref q_t_upper, .ref q_t_line, .int t_lined, .ref q_t_text, .int t_length, .int t_at, .int t_order, .ref q_t_told, .ref q_t_why, .ref q_t_more, .int t_whys, .int t_answer])), (q_t_now, .inl (cI, 133, .inl t_now)), (q_t_finds, .inl (cI, 16, .inl t_finds))] H → va_D A [(q_t, .inr (8, [.ref q_t_now, .ref q_t_tried, .ref q_t_thought, .ref q_t_kept, .int t_undos, .ref q_t_saved, .int t_isSaved, .ref q_t_finds, .ref q_t_reach, .ref q_t_steps, .ref q_t_glows, .ref q_t_lower, .ref q_t_upper, .ref q_t_line, .int t_lined, .ref q_t_text, .int t_length, .int t_at, .int t_order, .ref q_t_told, .ref q_t_why, .ref q_t_more, .int t_whys, .int t_answer])), (q_t_now, .inl (cI, 133, .inl t_now)), (q_t_finds, .inl (cI, 16, .inl t_finds))] → va_S A s.heap H locs → ∀ ls : Array Slot, lv_has ls 5 [(0, .ref q_t), (1, .int v1), (2, .int v2), (3, .int v3), (4, .int v4)] → J_X10_goes_b69 k8  t_now t_finds v1 v2 v3 v4 = some (r, o_t_now, o_t_finds) → W p l e rmX10_goes s m args below meth c H locs 0 0 Q (F0 m 69 ls []) := by
    intro k8 hk8 t_now t_finds v1 v2 v3 v4 H locs hP hD hS ls hl hJ
    unfold J_X10_goes_b69 at hJ
    refine lv_aload_n hx hb dX10_goes_69 rfl (lv_at hl 0 rfl) ?_
    refine lv_iload_n hx hb dX10_goes_70 rfl (lv_at hl 2 rfl) ?_
    refine lv_iconst (v := (2 : Int32)) hx hb dX10_goes_71 (by decide) ?_
    refine lv_iload_n hx hb dX10_goes_72 rfl (lv_at hl 3 rfl) ?_
    obtain ⟨t_now_73, hc73, hJ⟩ := bnd1_some hJ
    refine jcV_v (C := RX10) (T := TX10) (N := 24) (ci := 8) (q0 := 0) (As := [.int v2, .int (2 : Int32), .int v3]) (rest := []) (isC := [0, 1]) (isR := [2]) (isB := [1, 2, 0]) (wr := [(q_t_finds, .inl (cI, 16, .inl t_finds))]) (ws2 := [(q_t, .inr (8, [.ref q_t_now, .ref q_t_tried, .ref q_t_thought, .ref q_t_kept, .int t_undos, .ref q_t_saved, .int t_isSaved, .ref q_t_finds, .ref q_t_reach, .ref q_t_steps, .ref q_t_glows, .ref q_t_lower, .ref q_t_upper, .ref q_t_line, .int t_lined, .ref q_t_text, .int t_length, .int t_at, .int t_order, .ref q_t_told, .ref q_t_why, .ref q_t_more, .int t_whys, .int t_answer])), (q_t_now, .inl (cI, 133, .inl t_now_73)), (q_t_finds, .inl (cI, 16, .inl t_finds))]) hF (c_X10_sets l D cI cJ cC cL q_t q_t_now q_t_tried q_t_thought q_t_kept q_t_saved q_t_finds q_t_reach q_t_steps q_t_glows q_t_lower q_t_upper q_t_line q_t_text q_t_told q_t_why q_t_more t_undos t_isSaved t_lined t_length t_at t_order t_whys t_answer t_now v2 (2 : Int32) v3 t_now_73 hc73 H.size) (cwV 3 hts gX10_goes_X10_sets rfl rfl rfl (by decide +kernel) ⟨Nat.le_of_ble_eq_true rfl, Nat.le_of_ble_eq_true rfl⟩) rfl hl rfl (Nat.le_of_ble_eq_true rfl) dX10_goes_73 ⟨Nat.zero_le _, Nat.zero_le _⟩ hK hN KX_T trivial hP hD hS hA rfl rfl rfl rfl rfl rfl (by decide) rfl rfl (fun H locs hP hD hS => ?_)
    refine lv_aload_n hx hb dX10_goes_76 rfl (lv_at hl 0 rfl) ?_
    refine lv_iload_n hx hb dX10_goes_77 rfl (lv_at hl 2 rfl) ?_
    refine lv_bipush (v := (7 : Int32)) hx hb dX10_goes_78 (by decide) ?_
    refine lv_iload hx hb dX10_goes_80 (lv_at hl 4 rfl) ?_
    obtain ⟨t_now_82, hc82, hJ⟩ := bnd1_some hJ
    refine jcV_v (C := RX10) (T := TX10) (N := 24) (ci := 8) (q0 := 0) (As := [.int v2, .int (7 : Int32), .int v4]) (rest := []) (isC := [0, 1]) (isR := [2]) (isB := [1, 2, 0]) (wr := [(q_t_finds, .inl (cI, 16, .inl t_finds))]) (ws2 := [(q_t, .inr (8, [.ref q_t_now, .ref q_t_tried, .ref q_t_thought, .ref q_t_kept, .int t_undos, .ref q_t_saved, .int t_isSaved, .ref q_t_finds, .ref q_t_reach, .ref q_t_steps, .ref q_t_glows, .ref q_t_lower, .ref q_t_upper, .ref q_t_line, .int t_lined, .ref q_t_text, .int t_length, .int t_at, .int t_order, .ref q_t_told, .ref q_t_why, .ref q_t_more, .int t_whys, .int t_answer])), (q_t_now, .inl (cI, 133, .inl t_now_82)), (q_t_finds, .inl (cI, 16, .inl t_finds))]) hF (c_X10_sets l D cI cJ cC cL q_t q_t_now q_t_tried q_t_thought q_t_kept q_t_saved q_t_finds q_t_reach q_t_steps q_t_glows q_t_lower q_t_upper q_t_line q_t_text q_t_told q_t_why q_t_more t_undos t_isSaved t_lined t_length t_at t_order t_whys t_answer t_now_73 v2 (7 : Int32) v4 t_now_82 hc82 H.size) (cwV 3 hts gX10_goes_X10_sets rfl rfl rfl (by decide +kernel) ⟨Nat.le_of_ble_eq_true rfl, Nat.le_of_ble_eq_true rfl⟩) rfl hl rfl (Nat.le_of_ble_eq_true rfl) dX10_goes_82 ⟨Nat.zero_le _, Nat.zero_le _⟩ hK hN KX_T trivial hP hD hS hA rfl rfl rfl rfl rfl rfl (by decide) rfl rfl (fun H locs hP hD hS => ?_)
    exact B85 k8 hk8 t_now_82 t_finds v1 v2  H locs  hP hD hS _ (lv_sub hl [0, 1, 2] rfl) hJ
  have L8 : ∀ (nf : Nat), ∀ (t_now : Nat → Int32) (t_finds : Nat → Int32) (v1 : Int32) (v2 : Int32) (H : Heap) (locs : List Loc), va_P D vwCl [(q_t, .inr (8, [.ref q_t_now, .ref q_t_tried, .ref q_t_thought, .ref q_t_kept, .int t_undos, .ref q_t_saved, .int t_isSaved, .ref q_t_finds, .ref q_t_reach, .ref q_t_steps, .ref q_t_glows, .ref q_t_lower, .ref q_t_upper, .ref q_t_line, .int t_lined, .ref q_t_text, .int t_length, .int t_at, .int t_order, .ref q_t_told, .ref q_t_why, .ref q_t_more, .int t_whys, .int t_answer])), (q_t_now, .inl (cI, 133, .inl t_now)), (q_t_finds, .inl (cI, 16, .inl t_finds))] H → va_D A [(q_t, .inr (8, [.ref q_t_now, .ref q_t_tried, .ref q_t_thought, .ref q_t_kept, .int t_undos, .ref q_t_saved, .int t_isSaved, .ref q_t_finds, .ref q_t_reach, .ref q_t_steps, .ref q_t_glows, .ref q_t_lower, .ref q_t_upper, .ref q_t_line, .int t_lined, .ref q_t_text, .int t_length, .int t_at, .int t_order, .ref q_t_told, .ref q_t_why, .ref q_t_more, .int t_whys, .int t_answer])), (q_t_now, .inl (cI, 133, .inl t_now)), (q_t_finds, .inl (cI, 16, .inl t_finds))] → va_S A s.heap H locs → ∀ ls : Array Slot, lv_has ls 5 [(0, .ref q_t), (1, .int v1), (2, .int v2)] → J_X10_goes_L8   nf t_now t_finds v1 v2 = some (r, o_t_now, o_t_finds) → W p l e rmX10_goes s m args below meth c H locs 0 0 Q (F0 m 8 ls []) := by
    intro nf
    induction nf with
    | zero =>
      intro t_now t_finds v1 v2 H locs hP hD hS ls hl hJ
      rw [J_X10_goes_L8] at hJ
      cases hJ
    | succ nf ih =>
      intro t_now t_finds v1 v2 H locs hP hD hS ls hl hJ
      rw [J_X10_goes_L8] at hJ
      refine lv_iload_n hx hb dX10_goes_8 rfl (lv_at hl 2 rfl) ?_
      refine lv_aload_n hx hb dX10_goes_9 rfl (lv_at hl 0 rfl) ?_
      refine va_get (ci := 8) (v := .ref q_t_now) (C := RX10) (T := TX10) (N := 24) hx hb hts hin_X10 hown hK hP 0 rfl rfl 0 (by decide) fl_9 (fun _ h9 => h9) rfl dX10_goes_10 ?_
      refine lv_iconst (v := (0 : Int32)) hx hb dX10_goes_13 (by decide) ?_
      obtain ⟨hin, hJ⟩ := chk_in hJ
      refine va_iald hx hb hK hP 1 0 rfl rfl hin dX10_goes_14 ?_
      refine jt_i hJ (fun x14 hJ => ?_)
      refine jif_icmp_ge (tgt := 91) hx hb dX10_goes_15 (by decide) hJ (fun hJ => ?_) (fun hJ => ?_)
      · refine lv_aload_n hx hb dX10_goes_91 rfl (lv_at hl 0 rfl) ?_
        refine va_get (ci := 8) (v := .ref q_t_now) (C := RX10) (T := TX10) (N := 24) hx hb hts hin_X10 hown hK hP 0 rfl rfl 0 (by decide) fl_9 (fun _ h9 => h9) rfl dX10_goes_92 ?_
        refine lv_iconst (v := (2 : Int32)) hx hb dX10_goes_95 (by decide) ?_
        refine lv_dup2_11 hx hb dX10_goes_96 rfl rfl ?_
        obtain ⟨hin, hJ⟩ := chk_in hJ
        refine va_iald hx hb hK hP 1 0 rfl rfl hin dX10_goes_97 ?_
        refine jt_i hJ (fun x97 hJ => ?_)
        refine lv_iconst (v := (1 : Int32)) hx hb dX10_goes_98 (by decide) ?_
        refine lv_iadd hx hb dX10_goes_99 ?_
        refine jt_i hJ (fun x99 hJ => ?_)
        obtain ⟨hin, hJ⟩ := chk_in hJ
        refine va_iast hx hb hK hP hD hS 1 0 rfl rfl hin dX10_goes_100 (fun H locs hP hD hS => ?_)
        have hP : va_P D vwCl [(q_t, .inr (8, [.ref q_t_now, .ref q_t_tried, .ref q_t_thought, .ref q_t_kept, .int t_undos, .ref q_t_saved, .int t_isSaved, .ref q_t_finds, .ref q_t_reach, .ref q_t_steps, .ref q_t_glows, .ref q_t_lower, .ref q_t_upper, .ref q_t_line, .int t_lined, .ref q_t_text, .int t_length, .int t_at, .int t_order, .ref q_t_told, .ref q_t_why, .ref q_t_more, .int t_whys, .int t_answer])), (q_t_now, .inl (cI, 133, .inl (upd t_now (2 : Int32).toNatClampNeg x99))), (q_t_finds, .inl (cI, 16, .inl t_finds))] H := hP
        have hD : va_D A [(q_t, .inr (8, [.ref q_t_now, .ref q_t_tried, .ref q_t_thought, .ref q_t_kept, .int t_undos, .ref q_t_saved, .int t_isSaved, .ref q_t_finds, .ref q_t_reach, .ref q_t_steps, .ref q_t_glows, .ref q_t_lower, .ref q_t_upper, .ref q_t_line, .int t_lined, .ref q_t_text, .int t_length, .int t_at, .int t_order, .ref q_t_told, .ref q_t_why, .ref q_t_more, .int t_whys, .int t_answer])), (q_t_now, .inl (cI, 133, .inl (upd t_now (2 : Int32).toNatClampNeg x99))), (q_t_finds, .inl (cI, 16, .inl t_finds))] := hD
        refine lv_aload_n hx hb dX10_goes_101 rfl (lv_at hl 0 rfl) ?_
        refine va_get (ci := 8) (v := .ref q_t_now) (C := RX10) (T := TX10) (N := 24) hx hb hts hin_X10 hown hK hP 0 rfl rfl 0 (by decide) fl_9 (fun _ h9 => h9) rfl dX10_goes_102 ?_
        refine lv_iconst (v := (3 : Int32)) hx hb dX10_goes_105 (by decide) ?_
        refine lv_dup2_11 hx hb dX10_goes_106 rfl rfl ?_
        obtain ⟨hin, hJ⟩ := chk_in hJ
        refine va_iald hx hb hK hP 1 0 rfl rfl hin dX10_goes_107 ?_
        refine jt_i hJ (fun x107 hJ => ?_)
        refine lv_iload_n hx hb dX10_goes_108 rfl (lv_at hl 1 rfl) ?_
        refine lv_iadd hx hb dX10_goes_109 ?_
        refine jt_i hJ (fun x109 hJ => ?_)
        obtain ⟨hin, hJ⟩ := chk_in hJ
        refine va_iast hx hb hK hP hD hS 1 0 rfl rfl hin dX10_goes_110 (fun H locs hP hD hS => ?_)
        have hP : va_P D vwCl [(q_t, .inr (8, [.ref q_t_now, .ref q_t_tried, .ref q_t_thought, .ref q_t_kept, .int t_undos, .ref q_t_saved, .int t_isSaved, .ref q_t_finds, .ref q_t_reach, .ref q_t_steps, .ref q_t_glows, .ref q_t_lower, .ref q_t_upper, .ref q_t_line, .int t_lined, .ref q_t_text, .int t_length, .int t_at, .int t_order, .ref q_t_told, .ref q_t_why, .ref q_t_more, .int t_whys, .int t_answer])), (q_t_now, .inl (cI, 133, .inl (upd (upd t_now (2 : Int32).toNatClampNeg x99) (3 : Int32).toNatClampNeg x109))), (q_t_finds, .inl (cI, 16, .inl t_finds))] H := hP
        have hD : va_D A [(q_t, .inr (8, [.ref q_t_now, .ref q_t_tried, .ref q_t_thought, .ref q_t_kept, .int t_undos, .ref q_t_saved, .int t_isSaved, .ref q_t_finds, .ref q_t_reach, .ref q_t_steps, .ref q_t_glows, .ref q_t_lower, .ref q_t_upper, .ref q_t_line, .int t_lined, .ref q_t_text, .int t_length, .int t_at, .int t_order, .ref q_t_told, .ref q_t_why, .ref q_t_more, .int t_whys, .int t_answer])), (q_t_now, .inl (cI, 133, .inl (upd (upd t_now (2 : Int32).toNatClampNeg x99) (3 : Int32).toNatClampNeg x109))), (q_t_finds, .inl (cI, 16, .inl t_finds))] := hD
        refine lv_iload_n hx hb dX10_goes_111 rfl (lv_at hl 1 rfl) ?_
        have hJ := Option.some.inj hJ
        obtain ⟨e0, e1, e2⟩ : (v1) = r ∧ ((upd (upd t_now (2 : Int32).toNatClampNeg x99) (3 : Int32).toNatClampNeg x109)) = o_t_now ∧ (t_finds) = o_t_finds := ⟨congrArg (fun z => z.1) hJ, congrArg (fun z => z.2.1) hJ, congrArg (fun z => z.2.2) hJ⟩
        exact hRet (by rw [← e1, ← e2]; exact hP) (by rw [← e1, ← e2]; exact hD) hS e0 dX10_goes_112
      · refine lv_aload_n hx hb dX10_goes_18 rfl (lv_at hl 0 rfl) ?_
        refine lv_iload_n hx hb dX10_goes_19 rfl (lv_at hl 2 rfl) ?_
        obtain ⟨x20, hc20, hJ⟩ := bnd1_some hJ
        refine jcV_i (C := RX10) (T := TX10) (N := 24) (ci := 8) (q0 := 0) (As := [.int v2]) (rest := []) (isC := [0, 1]) (isR := [2]) (isB := [1, 2, 0]) (wr := [(q_t_finds, .inl (cI, 16, .inl t_finds))]) (ws2 := [(q_t, .inr (8, [.ref q_t_now, .ref q_t_tried, .ref q_t_thought, .ref q_t_kept, .int t_undos, .ref q_t_saved, .int t_isSaved, .ref q_t_finds, .ref q_t_reach, .ref q_t_steps, .ref q_t_glows, .ref q_t_lower, .ref q_t_upper, .ref q_t_line, .int t_lined, .ref q_t_text, .int t_length, .int t_at, .int t_order, .ref q_t_told, .ref q_t_why, .ref q_t_more, .int t_whys, .int t_answer])), (q_t_now, .inl (cI, 133, .inl t_now)), (q_t_finds, .inl (cI, 16, .inl t_finds))]) hF (c_X10_isSwitch l D cI cJ cC cL q_t q_t_now q_t_tried q_t_thought q_t_kept q_t_saved q_t_finds q_t_reach q_t_steps q_t_glows q_t_lower q_t_upper q_t_line q_t_text q_t_told q_t_why q_t_more t_undos t_isSaved t_lined t_length t_at t_order t_whys t_answer t_now v2 x20 hc20 H.size) (cwV 1 hts gX10_goes_X10_isSwitch rfl rfl rfl (by decide +kernel) ⟨Nat.le_of_ble_eq_true rfl, Nat.le_of_ble_eq_true rfl⟩) rfl hl rfl (Nat.le_of_ble_eq_true rfl) dX10_goes_20 ⟨Nat.zero_le _, Nat.zero_le _⟩ hK hN KX_T trivial hP hD hS hA rfl rfl rfl rfl rfl rfl (by decide) rfl rfl (fun H locs hP hD hS => ?_)
        refine jif_eq (tgt := 29) hx hb dX10_goes_23 (by decide) hJ (fun hJ => ?_) (fun hJ => ?_)
        · refine lv_aload_n hx hb dX10_goes_29 rfl (lv_at hl 0 rfl) ?_
          refine lv_iload_n hx hb dX10_goes_30 rfl (lv_at hl 2 rfl) ?_
          obtain ⟨x31, hc31, hJ⟩ := bnd1_some hJ
          refine jcV_i (C := RX10) (T := TX10) (N := 24) (ci := 8) (q0 := 0) (As := [.int v2]) (rest := []) (isC := [0, 1, 2]) (isR := []) (isB := [0, 1, 2]) (wr := []) (ws2 := [(q_t, .inr (8, [.ref q_t_now, .ref q_t_tried, .ref q_t_thought, .ref q_t_kept, .int t_undos, .ref q_t_saved, .int t_isSaved, .ref q_t_finds, .ref q_t_reach, .ref q_t_steps, .ref q_t_glows, .ref q_t_lower, .ref q_t_upper, .ref q_t_line, .int t_lined, .ref q_t_text, .int t_length, .int t_at, .int t_order, .ref q_t_told, .ref q_t_why, .ref q_t_more, .int t_whys, .int t_answer])), (q_t_now, .inl (cI, 133, .inl t_now)), (q_t_finds, .inl (cI, 16, .inl t_finds))]) hF (c_X10_glowBehind l D cI cJ cC cL q_t q_t_now q_t_tried q_t_thought q_t_kept q_t_saved q_t_finds q_t_reach q_t_steps q_t_glows q_t_lower q_t_upper q_t_line q_t_text q_t_told q_t_why q_t_more t_undos t_isSaved t_lined t_length t_at t_order t_whys t_answer t_now t_finds v2 x31 hc31 H.size) (cwV 1 hts gX10_goes_X10_glowBehind rfl rfl rfl (by decide +kernel) ⟨Nat.le_of_ble_eq_true rfl, Nat.le_of_ble_eq_true rfl⟩) rfl hl rfl (Nat.le_of_ble_eq_true rfl) dX10_goes_31 ⟨Nat.zero_le _, Nat.zero_le _⟩ hK hN KX_T trivial hP hD hS hA rfl rfl rfl rfl rfl rfl (by decide) rfl rfl (fun H locs hP hD hS => ?_)
          refine lv_istore_n (lv' := [(3, .int x31), (0, .ref q_t), (1, .int v1), (2, .int v2)]) hx hb dX10_goes_34 rfl hl (by decide) rfl (fun ls hl => ?_)
          refine lv_aload_n hx hb dX10_goes_35 rfl (lv_at hl 1 rfl) ?_
          refine lv_iload_n hx hb dX10_goes_36 rfl (lv_at hl 3 rfl) ?_
          obtain ⟨x37, hc37, hJ⟩ := bnd1_some hJ
          refine jcV_i (C := RX10) (T := TX10) (N := 24) (ci := 8) (q0 := 0) (As := [.int v2]) (rest := []) (isC := [0, 1, 2]) (isR := []) (isB := [0, 1, 2]) (wr := []) (ws2 := [(q_t, .inr (8, [.ref q_t_now, .ref q_t_tried, .ref q_t_thought, .ref q_t_kept, .int t_undos, .ref q_t_saved, .int t_isSaved, .ref q_t_finds, .ref q_t_reach, .ref q_t_steps, .ref q_t_glows, .ref q_t_lower, .ref q_t_upper, .ref q_t_line, .int t_lined, .ref q_t_text, .int t_length, .int t_at, .int t_order, .ref q_t_told, .ref q_t_why, .ref q_t_more, .int t_whys, .int t_answer])), (q_t_now, .inl (cI, 133, .inl t_now)), (q_t_finds, .inl (cI, 16, .inl t_finds))]) hF (c_X10_foundBehind l D cI cJ cC cL q_t q_t_now q_t_tried q_t_thought q_t_kept q_t_saved q_t_finds q_t_reach q_t_steps q_t_glows q_t_lower q_t_upper q_t_line q_t_text q_t_told q_t_why q_t_more t_undos t_isSaved t_lined t_length t_at t_order t_whys t_answer t_now t_finds v2 x37 hc37 H.size) (cwV 1 hts gX10_goes_X10_foundBehind rfl rfl rfl (by decide +kernel) ⟨Nat.le_of_ble_eq_true rfl, Nat.le_of_ble_eq_true rfl⟩) rfl hl rfl (Nat.le_of_ble_eq_true rfl) dX10_goes_37 ⟨Nat.zero_le _, Nat.zero_le _⟩ hK hN KX_T trivial hP hD hS hA rfl rfl rfl rfl rfl rfl (by decide) rfl rfl (fun H locs hP hD hS => ?_)
          refine lv_istore (lv' := [(4, .int x37), (3, .int x31), (0, .ref q_t), (1, .int v1), (2, .int v2)]) hx hb dX10_goes_40 hl (by decide) rfl (fun ls hl => ?_)
          refine lv_iload_n hx hb dX10_goes_42 rfl (lv_at hl 1 rfl) ?_
          refine lv_aload_n hx hb dX10_goes_43 rfl (lv_at hl 2 rfl) ?_
          refine lv_iload_n hx hb dX10_goes_44 rfl (lv_at hl 4 rfl) ?_
          refine lv_iconst (v := (2 : Int32)) hx hb dX10_goes_45 (by decide) ?_
          obtain ⟨x46, hc46, hJ⟩ := bnd1_some hJ
          refine jcV_i (C := RX10) (T := TX10) (N := 24) (ci := 8) (q0 := 0) (As := [.int v2, .int (2 : Int32)]) (rest := [.int x31]) (isC := [0, 1]) (isR := [2]) (isB := [1, 2, 0]) (wr := [(q_t_finds, .inl (cI, 16, .inl t_finds))]) (ws2 := [(q_t, .inr (8, [.ref q_t_now, .ref q_t_tried, .ref q_t_thought, .ref q_t_kept, .int t_undos, .ref q_t_saved, .int t_isSaved, .ref q_t_finds, .ref q_t_reach, .ref q_t_steps, .ref q_t_glows, .ref q_t_lower, .ref q_t_upper, .ref q_t_line, .int t_lined, .ref q_t_text, .int t_length, .int t_at, .int t_order, .ref q_t_told, .ref q_t_why, .ref q_t_more, .int t_whys, .int t_answer])), (q_t_now, .inl (cI, 133, .inl t_now)), (q_t_finds, .inl (cI, 16, .inl t_finds))]) hF (c_X10_of l D cI cJ cC cL q_t q_t_now q_t_tried q_t_thought q_t_kept q_t_saved q_t_finds q_t_reach q_t_steps q_t_glows q_t_lower q_t_upper q_t_line q_t_text q_t_told q_t_why q_t_more t_undos t_isSaved t_lined t_length t_at t_order t_whys t_answer t_now v2 (2 : Int32) x46 hc46 H.size) (cwV 2 hts gX10_goes_X10_of rfl rfl rfl (by decide +kernel) ⟨Nat.le_of_ble_eq_true rfl, Nat.le_of_ble_eq_true rfl⟩) rfl hl rfl (Nat.le_of_ble_eq_true rfl) dX10_goes_46 ⟨Nat.zero_le _, Nat.zero_le _⟩ hK hN KX_T trivial hP hD hS hA rfl rfl rfl rfl rfl rfl (by decide) rfl rfl (fun H locs hP hD hS => ?_)
          refine jif_icmp_eq (tgt := 69) hx hb dX10_goes_49 (by decide) hJ (fun hJ => ?_) (fun hJ => ?_)
          · exact B69 (fun z0 z1 z2 z3 => J_X10_goes_L8  nf z0 z1 z2 z3) ih t_now t_finds v1 v2 x31 x37  H locs  hP hD hS _ (lv_sub hl [2, 3, 4, 1, 0] rfl) hJ
          · refine jt_iinc hJ (fun x52 ex52 hJ => ?_)
            refine lv_iinc (v := x52) (lv' := [(1, .int x52), (4, .int x37), (3, .int x31), (0, .ref q_t), (2, .int v2)]) hx hb dX10_goes_52 hl (k := 3) rfl ex52 (by decide) rfl (fun ls hl => ?_)
            refine lv_aload_n hx hb dX10_goes_55 rfl (lv_at hl 3 rfl) ?_
            refine lv_iload_n hx hb dX10_goes_56 rfl (lv_at hl 4 rfl) ?_
            refine lv_iconst (v := (3 : Int32)) hx hb dX10_goes_57 (by decide) ?_
            refine lv_aload_n hx hb dX10_goes_58 rfl (lv_at hl 3 rfl) ?_
            refine lv_iload_n hx hb dX10_goes_59 rfl (lv_at hl 4 rfl) ?_
            refine lv_iconst (v := (3 : Int32)) hx hb dX10_goes_60 (by decide) ?_
            obtain ⟨x61, hc61, hJ⟩ := bnd1_some hJ
            refine jcV_i (C := RX10) (T := TX10) (N := 24) (ci := 8) (q0 := 0) (As := [.int v2, .int (3 : Int32)]) (rest := [.int (3 : Int32), .int v2, .ref q_t]) (isC := [0, 1]) (isR := [2]) (isB := [1, 2, 0]) (wr := [(q_t_finds, .inl (cI, 16, .inl t_finds))]) (ws2 := [(q_t, .inr (8, [.ref q_t_now, .ref q_t_tried, .ref q_t_thought, .ref q_t_kept, .int t_undos, .ref q_t_saved, .int t_isSaved, .ref q_t_finds, .ref q_t_reach, .ref q_t_steps, .ref q_t_glows, .ref q_t_lower, .ref q_t_upper, .ref q_t_line, .int t_lined, .ref q_t_text, .int t_length, .int t_at, .int t_order, .ref q_t_told, .ref q_t_why, .ref q_t_more, .int t_whys, .int t_answer])), (q_t_now, .inl (cI, 133, .inl t_now)), (q_t_finds, .inl (cI, 16, .inl t_finds))]) hF (c_X10_of l D cI cJ cC cL q_t q_t_now q_t_tried q_t_thought q_t_kept q_t_saved q_t_finds q_t_reach q_t_steps q_t_glows q_t_lower q_t_upper q_t_line q_t_text q_t_told q_t_why q_t_more t_undos t_isSaved t_lined t_length t_at t_order t_whys t_answer t_now v2 (3 : Int32) x61 hc61 H.size) (cwV 2 hts gX10_goes_X10_of rfl rfl rfl (by decide +kernel) ⟨Nat.le_of_ble_eq_true rfl, Nat.le_of_ble_eq_true rfl⟩) rfl hl rfl (Nat.le_of_ble_eq_true rfl) dX10_goes_61 ⟨Nat.zero_le _, Nat.zero_le _⟩ hK hN KX_T trivial hP hD hS hA rfl rfl rfl rfl rfl rfl (by decide) rfl rfl (fun H locs hP hD hS => ?_)
            refine lv_iconst (v := (1 : Int32)) hx hb dX10_goes_64 (by decide) ?_
            refine lv_iadd hx hb dX10_goes_65 ?_
            refine jt_i hJ (fun x65 hJ => ?_)
            obtain ⟨t_now_66, hc66, hJ⟩ := bnd1_some hJ
            refine jcV_v (C := RX10) (T := TX10) (N := 24) (ci := 8) (q0 := 0) (As := [.int v2, .int (3 : Int32), .int x65]) (rest := []) (isC := [0, 1]) (isR := [2]) (isB := [1, 2, 0]) (wr := [(q_t_finds, .inl (cI, 16, .inl t_finds))]) (ws2 := [(q_t, .inr (8, [.ref q_t_now, .ref q_t_tried, .ref q_t_thought, .ref q_t_kept, .int t_undos, .ref q_t_saved, .int t_isSaved, .ref q_t_finds, .ref q_t_reach, .ref q_t_steps, .ref q_t_glows, .ref q_t_lower, .ref q_t_upper, .ref q_t_line, .int t_lined, .ref q_t_text, .int t_length, .int t_at, .int t_order, .ref q_t_told, .ref q_t_why, .ref q_t_more, .int t_whys, .int t_answer])), (q_t_now, .inl (cI, 133, .inl t_now_66)), (q_t_finds, .inl (cI, 16, .inl t_finds))]) hF (c_X10_sets l D cI cJ cC cL q_t q_t_now q_t_tried q_t_thought q_t_kept q_t_saved q_t_finds q_t_reach q_t_steps q_t_glows q_t_lower q_t_upper q_t_line q_t_text q_t_told q_t_why q_t_more t_undos t_isSaved t_lined t_length t_at t_order t_whys t_answer t_now v2 (3 : Int32) x65 t_now_66 hc66 H.size) (cwV 3 hts gX10_goes_X10_sets rfl rfl rfl (by decide +kernel) ⟨Nat.le_of_ble_eq_true rfl, Nat.le_of_ble_eq_true rfl⟩) rfl hl rfl (Nat.le_of_ble_eq_true rfl) dX10_goes_66 ⟨Nat.zero_le _, Nat.zero_le _⟩ hK hN KX_T trivial hP hD hS hA rfl rfl rfl rfl rfl rfl (by decide) rfl rfl (fun H locs hP hD hS => ?_)
            exact B69 (fun z0 z1 z2 z3 => J_X10_goes_L8  nf z0 z1 z2 z3) ih t_now_66 t_finds x52 v2 x31 x37  H locs  hP hD hS _ (lv_sub hl [3, 0, 4, 2, 1] rfl) hJ
        · refine lv_goto (tgt := 85) hx hb dX10_goes_26 (by decide) ?_
          exact B85 (fun z0 z1 z2 z3 => J_X10_goes_L8  nf z0 z1 z2 z3) ih t_now t_finds v1 v2  H locs  hP hD hS _ (lv_sub hl [0, 1, 2] rfl) hJ
  unfold J_X10_goes at hJ
  refine lv_aload_n hx hb dX10_goes_0 rfl (lv_at hl 0 rfl) ?_
  obtain ⟨t_finds_1, hc1, hJ⟩ := bnd1_some hJ
  refine jcV_v (C := RX10) (T := TX10) (N := 24) (ci := 8) (q0 := 0) (As := []) (rest := []) (isC := [0, 1, 2]) (isR := []) (isB := [0, 1, 2]) (wr := []) (ws2 := [(q_t, .inr (8, [.ref q_t_now, .ref q_t_tried, .ref q_t_thought, .ref q_t_kept, .int t_undos, .ref q_t_saved, .int t_isSaved, .ref q_t_finds, .ref q_t_reach, .ref q_t_steps, .ref q_t_glows, .ref q_t_lower, .ref q_t_upper, .ref q_t_line, .int t_lined, .ref q_t_text, .int t_length, .int t_at, .int t_order, .ref q_t_told, .ref q_t_why, .ref q_t_more, .int t_whys, .int t_answer])), (q_t_now, .inl (cI, 133, .inl t_now)), (q_t_finds, .inl (cI, 16, .inl t_finds_1))]) hF (c_X10_allFind l D cI cJ cC cL q_t q_t_now q_t_tried q_t_thought q_t_kept q_t_saved q_t_finds q_t_reach q_t_steps q_t_glows q_t_lower q_t_upper q_t_line q_t_text q_t_told q_t_why q_t_more t_undos t_isSaved t_lined t_length t_at t_order t_whys t_answer t_now t_finds t_finds_1 hc1 s.heap.size) (cwV 0 hts gX10_goes_X10_allFind rfl rfl rfl (by decide +kernel) ⟨Nat.le_of_ble_eq_true rfl, Nat.le_of_ble_eq_true rfl⟩) rfl hl rfl (Nat.le_of_ble_eq_true rfl) dX10_goes_1 ⟨Nat.zero_le _, Nat.zero_le _⟩ hK hN KX_T trivial hP hD hS hA rfl rfl rfl rfl rfl rfl (by decide) rfl rfl (fun H locs hP hD hS => ?_)
  refine lv_iconst (v := (0 : Int32)) hx hb dX10_goes_4 (by decide) ?_
  refine lv_istore_n (lv' := [(1, .int (0 : Int32)), (0, .ref q_t)]) hx hb dX10_goes_5 rfl hl (by decide) rfl (fun ls hl => ?_)
  refine lv_iconst (v := (0 : Int32)) hx hb dX10_goes_6 (by decide) ?_
  refine lv_istore_n (lv' := [(2, .int (0 : Int32)), (1, .int (0 : Int32)), (0, .ref q_t)]) hx hb dX10_goes_7 rfl hl (by decide) rfl (fun ls hl => ?_)
  exact L8  FU t_now t_finds_1 (0 : Int32) (0 : Int32)  H locs  hP hD hS _ (lv_sub hl [2, 1, 0] rfl) hJ

def J_X10_ticks_L17 (v1 : Int32) : Nat → Int32 → (Nat → Int32) → (Nat → Int32) → Int32 → Int32 → Option (Int32 × Int32 × (Nat → Int32) × (Nat → Int32))
  | 0, _, _, _, _, _ => none
  | nf + 1, t_answer, t_now, t_finds, v2, v3 =>
    if v1 ≤ v3 then (
    bnd2 (J_X10_does v2) fun x37 t_answer_37 =>
    some (x37, t_answer_37, t_now, t_finds))
    else (
    bnd3 (J_X10_goes t_now t_finds) fun x24 t_now_24 t_finds_24 =>
    nm (v2 + x24) fun x27 =>
    nm (v3 + Int32.ofInt 1) fun x29 =>
    J_X10_ticks_L17 v1 nf t_answer t_now_24 t_finds_24 x27 x29)
def J_X10_ticks (t_answer : Int32) (t_now : Nat → Int32) (t_finds : Nat → Int32) (v1 : Int32) : Option (Int32 × Int32 × (Nat → Int32) × (Nat → Int32)) :=
    bnd1 (J_X10_in v1 (1 : Int32) (99 : Int32)) fun x4 =>
    if x4 = 0 then (
    some ((-12 : Int32), t_answer, t_now, t_finds))
    else (
    J_X10_ticks_L17 v1 FU t_answer t_now t_finds (0 : Int32) (0 : Int32))
abbrev rmX10_ticks : Room := { frames := 6, cells := 0, slots := 0, locals := 135 }
set_option maxHeartbeats 4000000 in
set_option maxRecDepth 100000 in
theorem c_X10_ticks (l : Launch) (D : va_G) (cI cJ cC cL : ClassId) (q_t q_t_now q_t_tried q_t_thought q_t_kept q_t_saved q_t_finds q_t_reach q_t_steps q_t_glows q_t_lower q_t_upper q_t_line q_t_text q_t_told q_t_why q_t_more : Nat) (t_undos : Int32) (t_isSaved : Int32) (t_lined : Int32) (t_length : Int32) (t_at : Int32) (t_order : Int32) (t_whys : Int32) (t_answer : Int32) (t_now : Nat → Int32) (t_finds : Nat → Int32) (v1 : Int32) (r : Int32) (o_t_answer : Int32) (o_t_now : Nat → Int32) (o_t_finds : Nat → Int32) (hJ : J_X10_ticks t_answer t_now t_finds v1 = some (r, o_t_answer, o_t_now, o_t_finds)) (sz : Nat) : Met l yX10_ticks wsX10_ticks rmX10_ticks (va_Pc [.ref q_t, .int v1] (jpre XT D (tyL cI cJ cC cL) [(q_t, .inr (8, [.ref q_t_now, .ref q_t_tried, .ref q_t_thought, .ref q_t_kept, .int t_undos, .ref q_t_saved, .int t_isSaved, .ref q_t_finds, .ref q_t_reach, .ref q_t_steps, .ref q_t_glows, .ref q_t_lower, .ref q_t_upper, .ref q_t_line, .int t_lined, .ref q_t_text, .int t_length, .int t_at, .int t_order, .ref q_t_told, .ref q_t_why, .ref q_t_more, .int t_whys, .int t_answer])), (q_t_now, .inl (cI, 133, .inl t_now)), (q_t_finds, .inl (cI, 16, .inl t_finds))] sz)) (va_Qi (fun r' (_ : Unit) => r' = r) (fun _ t => jpost D (tyL cI cJ cC cL) (va_A [(q_t, .inr (8, [.ref q_t_now, .ref q_t_tried, .ref q_t_thought, .ref q_t_kept, .int t_undos, .ref q_t_saved, .int t_isSaved, .ref q_t_finds, .ref q_t_reach, .ref q_t_steps, .ref q_t_glows, .ref q_t_lower, .ref q_t_upper, .ref q_t_line, .int t_lined, .ref q_t_text, .int t_length, .int t_at, .int t_order, .ref q_t_told, .ref q_t_why, .ref q_t_more, .int t_whys, .int t_answer])), (q_t_now, .inl (cI, 133, .inl t_now)), (q_t_finds, .inl (cI, 16, .inl t_finds))] sz) [(q_t, .inr (8, [.ref q_t_now, .ref q_t_tried, .ref q_t_thought, .ref q_t_kept, .int t_undos, .ref q_t_saved, .int t_isSaved, .ref q_t_finds, .ref q_t_reach, .ref q_t_steps, .ref q_t_glows, .ref q_t_lower, .ref q_t_upper, .ref q_t_line, .int t_lined, .ref q_t_text, .int t_length, .int t_at, .int t_order, .ref q_t_told, .ref q_t_why, .ref q_t_more, .int t_whys, .int o_t_answer])), (q_t_now, .inl (cI, 133, .inl o_t_now)), (q_t_finds, .inl (cI, 16, .inl o_t_finds))] t) (va_A [(q_t, .inr (8, [.ref q_t_now, .ref q_t_tried, .ref q_t_thought, .ref q_t_kept, .int t_undos, .ref q_t_saved, .int t_isSaved, .ref q_t_finds, .ref q_t_reach, .ref q_t_steps, .ref q_t_glows, .ref q_t_lower, .ref q_t_upper, .ref q_t_line, .int t_lined, .ref q_t_text, .int t_length, .int t_at, .int t_order, .ref q_t_told, .ref q_t_why, .ref q_t_more, .int t_whys, .int t_answer])), (q_t_now, .inl (cI, 133, .inl t_now)), (q_t_finds, .inl (cI, 16, .inl t_finds))] sz)) 0 0 (va_A [(q_t, .inr (8, [.ref q_t_now, .ref q_t_tried, .ref q_t_thought, .ref q_t_kept, .int t_undos, .ref q_t_saved, .int t_isSaved, .ref q_t_finds, .ref q_t_reach, .ref q_t_steps, .ref q_t_glows, .ref q_t_lower, .ref q_t_upper, .ref q_t_line, .int t_lined, .ref q_t_text, .int t_length, .int t_at, .int t_order, .ref q_t_told, .ref q_t_why, .ref q_t_more, .int t_whys, .int t_answer])), (q_t_now, .inl (cI, 133, .inl t_now)), (q_t_finds, .inl (cI, 16, .inl t_finds))] sz) := by
  refine jE_i (cc := cX10_ticks) (maxL := 4) (own := RX10) (ret := (some .int)) (lv0 := [(0, .ref q_t), (1, .int v1)]) (by decide) rfl rfl rfl (Nat.le_of_ble_eq_true rfl) rfl ?_
  intro p e s m args below meth c A Q ls hx hb hml hown hts hK hN hX hA hP hD hS hl hRet
  have hF : CallFix p m c cX10_ticks 4 s args wsX10_ticks RX10 := ⟨hx, hb, hml, hown, hts⟩
  have L17 : ∀ (nf : Nat), ∀ (t_answer : Int32) (t_now : Nat → Int32) (t_finds : Nat → Int32) (v2 : Int32) (v3 : Int32) (H : Heap) (locs : List Loc), va_P D vwCl [(q_t, .inr (8, [.ref q_t_now, .ref q_t_tried, .ref q_t_thought, .ref q_t_kept, .int t_undos, .ref q_t_saved, .int t_isSaved, .ref q_t_finds, .ref q_t_reach, .ref q_t_steps, .ref q_t_glows, .ref q_t_lower, .ref q_t_upper, .ref q_t_line, .int t_lined, .ref q_t_text, .int t_length, .int t_at, .int t_order, .ref q_t_told, .ref q_t_why, .ref q_t_more, .int t_whys, .int t_answer])), (q_t_now, .inl (cI, 133, .inl t_now)), (q_t_finds, .inl (cI, 16, .inl t_finds))] H → va_D A [(q_t, .inr (8, [.ref q_t_now, .ref q_t_tried, .ref q_t_thought, .ref q_t_kept, .int t_undos, .ref q_t_saved, .int t_isSaved, .ref q_t_finds, .ref q_t_reach, .ref q_t_steps, .ref q_t_glows, .ref q_t_lower, .ref q_t_upper, .ref q_t_line, .int t_lined, .ref q_t_text, .int t_length, .int t_at, .int t_order, .ref q_t_told, .ref q_t_why, .ref q_t_more, .int t_whys, .int t_answer])), (q_t_now, .inl (cI, 133, .inl t_now)), (q_t_finds, .inl (cI, 16, .inl t_finds))] → va_S A s.heap H locs → ∀ ls : Array Slot, lv_has ls 4 [(0, .ref q_t), (1, .int v1), (2, .int v2), (3, .int v3)] → J_X10_ticks_L17  v1 nf t_answer t_now t_finds v2 v3 = some (r, o_t_answer, o_t_now, o_t_finds) → W p l e rmX10_ticks s m args below meth c H locs 0 0 Q (F0 m 17 ls []) := by
    intro nf
    induction nf with
    | zero =>
      intro t_answer t_now t_finds v2 v3 H locs hP hD hS ls hl hJ
      rw [J_X10_ticks_L17] at hJ
      cases hJ
    | succ nf ih =>
      intro t_answer t_now t_finds v2 v3 H locs hP hD hS ls hl hJ
      rw [J_X10_ticks_L17] at hJ
      refine lv_iload_n hx hb dX10_ticks_17 rfl (lv_at hl 3 rfl) ?_
      refine lv_iload_n hx hb dX10_ticks_18 rfl (lv_at hl 1 rfl) ?_
      refine jif_icmp_ge (tgt := 35) hx hb dX10_ticks_19 (by decide) hJ (fun hJ => ?_) (fun hJ => ?_)
      · refine lv_aload_n hx hb dX10_ticks_35 rfl (lv_at hl 0 rfl) ?_
        refine lv_iload_n hx hb dX10_ticks_36 rfl (lv_at hl 2 rfl) ?_
        obtain ⟨x37, t_answer_37, hc37, hJ⟩ := bnd2_some hJ
        refine jcV_i (C := RX10) (T := TX10) (N := 24) (ci := 8) (q0 := 0) (As := [.int v2]) (rest := []) (isC := [0]) (isR := [1, 2]) (isB := [2, 0, 1]) (wr := [(q_t_now, .inl (cI, 133, .inl t_now)), (q_t_finds, .inl (cI, 16, .inl t_finds))]) (ws2 := [(q_t, .inr (8, [.ref q_t_now, .ref q_t_tried, .ref q_t_thought, .ref q_t_kept, .int t_undos, .ref q_t_saved, .int t_isSaved, .ref q_t_finds, .ref q_t_reach, .ref q_t_steps, .ref q_t_glows, .ref q_t_lower, .ref q_t_upper, .ref q_t_line, .int t_lined, .ref q_t_text, .int t_length, .int t_at, .int t_order, .ref q_t_told, .ref q_t_why, .ref q_t_more, .int t_whys, .int t_answer_37])), (q_t_now, .inl (cI, 133, .inl t_now)), (q_t_finds, .inl (cI, 16, .inl t_finds))]) hF (c_X10_does l D cI cJ cC cL q_t q_t_now q_t_tried q_t_thought q_t_kept q_t_saved q_t_finds q_t_reach q_t_steps q_t_glows q_t_lower q_t_upper q_t_line q_t_text q_t_told q_t_why q_t_more t_undos t_isSaved t_lined t_length t_at t_order t_whys t_answer v2 x37 t_answer_37 hc37 H.size) (cwV 1 hts gX10_ticks_X10_does rfl rfl rfl (by decide +kernel) ⟨Nat.le_of_ble_eq_true rfl, Nat.le_of_ble_eq_true rfl⟩) rfl hl rfl (Nat.le_of_ble_eq_true rfl) dX10_ticks_37 ⟨Nat.zero_le _, Nat.zero_le _⟩ hK hN KX_T trivial hP hD hS hA rfl rfl rfl rfl rfl rfl (by decide) rfl rfl (fun H locs hP hD hS => ?_)
        have hJ := Option.some.inj hJ
        obtain ⟨e0, e1, e2, e3⟩ : (x37) = r ∧ (t_answer_37) = o_t_answer ∧ (t_now) = o_t_now ∧ (t_finds) = o_t_finds := ⟨congrArg (fun z => z.1) hJ, congrArg (fun z => z.2.1) hJ, congrArg (fun z => z.2.2.1) hJ, congrArg (fun z => z.2.2.2) hJ⟩
        exact hRet (by rw [← e1, ← e2, ← e3]; exact hP) (by rw [← e1, ← e2, ← e3]; exact hD) hS e0 dX10_ticks_40
      · refine lv_iload_n hx hb dX10_ticks_22 rfl (lv_at hl 2 rfl) ?_
        refine lv_aload_n hx hb dX10_ticks_23 rfl (lv_at hl 0 rfl) ?_
        obtain ⟨x24, t_now_24, t_finds_24, hc24, hJ⟩ := bnd3_some hJ
        refine jcV_i (C := RX10) (T := TX10) (N := 24) (ci := 8) (q0 := 0) (As := []) (rest := [.int v2]) (isC := [0, 1, 2]) (isR := []) (isB := [0, 1, 2]) (wr := []) (ws2 := [(q_t, .inr (8, [.ref q_t_now, .ref q_t_tried, .ref q_t_thought, .ref q_t_kept, .int t_undos, .ref q_t_saved, .int t_isSaved, .ref q_t_finds, .ref q_t_reach, .ref q_t_steps, .ref q_t_glows, .ref q_t_lower, .ref q_t_upper, .ref q_t_line, .int t_lined, .ref q_t_text, .int t_length, .int t_at, .int t_order, .ref q_t_told, .ref q_t_why, .ref q_t_more, .int t_whys, .int t_answer])), (q_t_now, .inl (cI, 133, .inl t_now_24)), (q_t_finds, .inl (cI, 16, .inl t_finds_24))]) hF (c_X10_goes l D cI cJ cC cL q_t q_t_now q_t_tried q_t_thought q_t_kept q_t_saved q_t_finds q_t_reach q_t_steps q_t_glows q_t_lower q_t_upper q_t_line q_t_text q_t_told q_t_why q_t_more t_undos t_isSaved t_lined t_length t_at t_order t_whys t_answer t_now t_finds x24 t_now_24 t_finds_24 hc24 H.size) (cwV 0 hts gX10_ticks_X10_goes rfl rfl rfl (by decide +kernel) ⟨Nat.le_of_ble_eq_true rfl, Nat.le_of_ble_eq_true rfl⟩) rfl hl rfl (Nat.le_of_ble_eq_true rfl) dX10_ticks_24 ⟨Nat.zero_le _, Nat.zero_le _⟩ hK hN KX_T trivial hP hD hS hA rfl rfl rfl rfl rfl rfl (by decide) rfl rfl (fun H locs hP hD hS => ?_)
        refine lv_iadd hx hb dX10_ticks_27 ?_
        refine jt_i hJ (fun x27 hJ => ?_)
        refine lv_istore_n (lv' := [(2, .int x27), (0, .ref q_t), (1, .int v1), (3, .int v3)]) hx hb dX10_ticks_28 rfl hl (by decide) rfl (fun ls hl => ?_)
        refine jt_iinc hJ (fun x29 ex29 hJ => ?_)
        refine lv_iinc (v := x29) (lv' := [(3, .int x29), (2, .int x27), (0, .ref q_t), (1, .int v1)]) hx hb dX10_ticks_29 hl (k := 3) rfl ex29 (by decide) rfl (fun ls hl => ?_)
        refine lv_goto (tgt := 17) hx hb dX10_ticks_32 (by decide) ?_
        exact ih t_answer t_now_24 t_finds_24 x27 x29  H locs  hP hD hS _ (lv_sub hl [2, 3, 1, 0] rfl) hJ
  unfold J_X10_ticks at hJ
  refine lv_iload_n hx hb dX10_ticks_0 rfl (lv_at hl 1 rfl) ?_
  refine lv_iconst (v := (1 : Int32)) hx hb dX10_ticks_1 (by decide) ?_
  refine lv_bipush (v := (99 : Int32)) hx hb dX10_ticks_2 (by decide) ?_
  obtain ⟨x4, hc4, hJ⟩ := bnd1_some hJ
  refine jcS_i (As := [.int v1, .int (1 : Int32), .int (99 : Int32)]) (rest := []) (isC := []) (isR := [0, 1, 2]) (isB := [0, 1, 2]) (wr := [(q_t, .inr (8, [.ref q_t_now, .ref q_t_tried, .ref q_t_thought, .ref q_t_kept, .int t_undos, .ref q_t_saved, .int t_isSaved, .ref q_t_finds, .ref q_t_reach, .ref q_t_steps, .ref q_t_glows, .ref q_t_lower, .ref q_t_upper, .ref q_t_line, .int t_lined, .ref q_t_text, .int t_length, .int t_at, .int t_order, .ref q_t_told, .ref q_t_why, .ref q_t_more, .int t_whys, .int t_answer])), (q_t_now, .inl (cI, 133, .inl t_now)), (q_t_finds, .inl (cI, 16, .inl t_finds))]) (ws2 := [(q_t, .inr (8, [.ref q_t_now, .ref q_t_tried, .ref q_t_thought, .ref q_t_kept, .int t_undos, .ref q_t_saved, .int t_isSaved, .ref q_t_finds, .ref q_t_reach, .ref q_t_steps, .ref q_t_glows, .ref q_t_lower, .ref q_t_upper, .ref q_t_line, .int t_lined, .ref q_t_text, .int t_length, .int t_at, .int t_order, .ref q_t_told, .ref q_t_why, .ref q_t_more, .int t_whys, .int t_answer])), (q_t_now, .inl (cI, 133, .inl t_now)), (q_t_finds, .inl (cI, 16, .inl t_finds))]) hF (c_X10_in l D cI cJ cC cL v1 (1 : Int32) (99 : Int32) x4 hc4 s.heap.size) (va_cwS 3 hts gX10_ticks_X10_in rfl rfl rfl (by decide +kernel) ⟨Nat.le_of_ble_eq_true rfl, Nat.le_of_ble_eq_true rfl⟩) rfl hl rfl (Nat.le_of_ble_eq_true rfl) dX10_ticks_4 ⟨Nat.zero_le _, Nat.zero_le _⟩ hK hN KX_T trivial hP hD hS hA rfl rfl rfl rfl (by decide) rfl rfl (fun H locs hP hD hS => ?_)
  refine jif_ne (tgt := 13) hx hb dX10_ticks_7 (by decide) hJ (fun hJ => ?_) (fun hJ => ?_)
  · refine lv_iconst (v := (0 : Int32)) hx hb dX10_ticks_13 (by decide) ?_
    refine lv_istore_n (lv' := [(2, .int (0 : Int32)), (0, .ref q_t), (1, .int v1)]) hx hb dX10_ticks_14 rfl hl (by decide) rfl (fun ls hl => ?_)
    refine lv_iconst (v := (0 : Int32)) hx hb dX10_ticks_15 (by decide) ?_
    refine lv_istore_n (lv' := [(3, .int (0 : Int32)), (2, .int (0 : Int32)), (0, .ref q_t), (1, .int v1)]) hx hb dX10_ticks_16 rfl hl (by decide) rfl (fun ls hl => ?_)
    exact L17  FU t_answer t_now t_finds (0 : Int32) (0 : Int32)  H locs  hP hD hS _ (lv_sub hl [2, 3, 1, 0] rfl) hJ
  · refine lv_bipush (v := (-12 : Int32)) hx hb dX10_ticks_10 (by decide) ?_
    have hJ := Option.some.inj hJ
    obtain ⟨e0, e1, e2, e3⟩ : ((-12 : Int32)) = r ∧ (t_answer) = o_t_answer ∧ (t_now) = o_t_now ∧ (t_finds) = o_t_finds := ⟨congrArg (fun z => z.1) hJ, congrArg (fun z => z.2.1) hJ, congrArg (fun z => z.2.2.1) hJ, congrArg (fun z => z.2.2.2) hJ⟩
    exact hRet (by rw [← e1, ← e2, ← e3]; exact hP) (by rw [← e1, ← e2, ← e3]; exact hD) hS e0 dX10_ticks_12

def J_X10_tick (t_undos : Int32) (t_answer : Int32) (t_now : Nat → Int32) (t_tried : Nat → Int32) (t_kept : Nat → Int32) (t_finds : Nat → Int32) (v1 : Int32) : Option (Int32 × Int32 × Int32 × (Nat → Int32) × (Nat → Int32) × (Nat → Int32) × (Nat → Int32)) :=
    bnd1 (J_X10_tries t_now t_tried) fun t_tried_1 =>
    bnd4 (J_X10_ticks t_answer t_now t_finds v1) fun x7 t_answer_7 t_now_7 t_finds_7 =>
    bnd3 (J_X10_ends t_undos t_answer_7 t_tried_1 t_kept x7) fun x10 t_undos_10 t_kept_10 =>
    some (x10, t_undos_10, t_answer_7, t_now_7, t_tried_1, t_kept_10, t_finds_7)
abbrev rmX10_tick : Room := { frames := 7, cells := 0, slots := 0, locals := 158 }
set_option maxHeartbeats 4000000 in
set_option maxRecDepth 100000 in
theorem c_X10_tick (l : Launch) (D : va_G) (cI cJ cC cL : ClassId) (q_t q_t_now q_t_tried q_t_thought q_t_kept q_t_saved q_t_finds q_t_reach q_t_steps q_t_glows q_t_lower q_t_upper q_t_line q_t_text q_t_told q_t_why q_t_more : Nat) (t_undos : Int32) (t_isSaved : Int32) (t_lined : Int32) (t_length : Int32) (t_at : Int32) (t_order : Int32) (t_whys : Int32) (t_answer : Int32) (t_now : Nat → Int32) (t_tried : Nat → Int32) (t_kept : Nat → Int32) (t_finds : Nat → Int32) (v1 : Int32) (r : Int32) (o_t_undos : Int32) (o_t_answer : Int32) (o_t_now : Nat → Int32) (o_t_tried : Nat → Int32) (o_t_kept : Nat → Int32) (o_t_finds : Nat → Int32) (hJ : J_X10_tick t_undos t_answer t_now t_tried t_kept t_finds v1 = some (r, o_t_undos, o_t_answer, o_t_now, o_t_tried, o_t_kept, o_t_finds)) (sz : Nat) : Met l yX10_tick wsX10_tick rmX10_tick (va_Pc [.ref q_t, .int v1] (jpre XT D (tyL cI cJ cC cL) [(q_t, .inr (8, [.ref q_t_now, .ref q_t_tried, .ref q_t_thought, .ref q_t_kept, .int t_undos, .ref q_t_saved, .int t_isSaved, .ref q_t_finds, .ref q_t_reach, .ref q_t_steps, .ref q_t_glows, .ref q_t_lower, .ref q_t_upper, .ref q_t_line, .int t_lined, .ref q_t_text, .int t_length, .int t_at, .int t_order, .ref q_t_told, .ref q_t_why, .ref q_t_more, .int t_whys, .int t_answer])), (q_t_now, .inl (cI, 133, .inl t_now)), (q_t_tried, .inl (cI, 133, .inl t_tried)), (q_t_kept, .inl (cI, 1064, .inl t_kept)), (q_t_finds, .inl (cI, 16, .inl t_finds))] sz)) (va_Qi (fun r' (_ : Unit) => r' = r) (fun _ t => jpost D (tyL cI cJ cC cL) (va_A [(q_t, .inr (8, [.ref q_t_now, .ref q_t_tried, .ref q_t_thought, .ref q_t_kept, .int t_undos, .ref q_t_saved, .int t_isSaved, .ref q_t_finds, .ref q_t_reach, .ref q_t_steps, .ref q_t_glows, .ref q_t_lower, .ref q_t_upper, .ref q_t_line, .int t_lined, .ref q_t_text, .int t_length, .int t_at, .int t_order, .ref q_t_told, .ref q_t_why, .ref q_t_more, .int t_whys, .int t_answer])), (q_t_now, .inl (cI, 133, .inl t_now)), (q_t_tried, .inl (cI, 133, .inl t_tried)), (q_t_kept, .inl (cI, 1064, .inl t_kept)), (q_t_finds, .inl (cI, 16, .inl t_finds))] sz) [(q_t, .inr (8, [.ref q_t_now, .ref q_t_tried, .ref q_t_thought, .ref q_t_kept, .int o_t_undos, .ref q_t_saved, .int t_isSaved, .ref q_t_finds, .ref q_t_reach, .ref q_t_steps, .ref q_t_glows, .ref q_t_lower, .ref q_t_upper, .ref q_t_line, .int t_lined, .ref q_t_text, .int t_length, .int t_at, .int t_order, .ref q_t_told, .ref q_t_why, .ref q_t_more, .int t_whys, .int o_t_answer])), (q_t_now, .inl (cI, 133, .inl o_t_now)), (q_t_tried, .inl (cI, 133, .inl o_t_tried)), (q_t_kept, .inl (cI, 1064, .inl o_t_kept)), (q_t_finds, .inl (cI, 16, .inl o_t_finds))] t) (va_A [(q_t, .inr (8, [.ref q_t_now, .ref q_t_tried, .ref q_t_thought, .ref q_t_kept, .int t_undos, .ref q_t_saved, .int t_isSaved, .ref q_t_finds, .ref q_t_reach, .ref q_t_steps, .ref q_t_glows, .ref q_t_lower, .ref q_t_upper, .ref q_t_line, .int t_lined, .ref q_t_text, .int t_length, .int t_at, .int t_order, .ref q_t_told, .ref q_t_why, .ref q_t_more, .int t_whys, .int t_answer])), (q_t_now, .inl (cI, 133, .inl t_now)), (q_t_tried, .inl (cI, 133, .inl t_tried)), (q_t_kept, .inl (cI, 1064, .inl t_kept)), (q_t_finds, .inl (cI, 16, .inl t_finds))] sz)) 0 0 (va_A [(q_t, .inr (8, [.ref q_t_now, .ref q_t_tried, .ref q_t_thought, .ref q_t_kept, .int t_undos, .ref q_t_saved, .int t_isSaved, .ref q_t_finds, .ref q_t_reach, .ref q_t_steps, .ref q_t_glows, .ref q_t_lower, .ref q_t_upper, .ref q_t_line, .int t_lined, .ref q_t_text, .int t_length, .int t_at, .int t_order, .ref q_t_told, .ref q_t_why, .ref q_t_more, .int t_whys, .int t_answer])), (q_t_now, .inl (cI, 133, .inl t_now)), (q_t_tried, .inl (cI, 133, .inl t_tried)), (q_t_kept, .inl (cI, 1064, .inl t_kept)), (q_t_finds, .inl (cI, 16, .inl t_finds))] sz) := by
  refine jE_i (cc := cX10_tick) (maxL := 2) (own := RX10) (ret := (some .int)) (lv0 := [(0, .ref q_t), (1, .int v1)]) (by decide) rfl rfl rfl (Nat.le_of_ble_eq_true rfl) rfl ?_
  intro p e s m args below meth c A Q ls hx hb hml hown hts hK hN hX hA hP hD hS hl hRet
  have hF : CallFix p m c cX10_tick 2 s args wsX10_tick RX10 := ⟨hx, hb, hml, hown, hts⟩
  unfold J_X10_tick at hJ
  refine lv_aload_n hx hb dX10_tick_0 rfl (lv_at hl 0 rfl) ?_
  obtain ⟨t_tried_1, hc1, hJ⟩ := bnd1_some hJ
  refine jcV_v (C := RX10) (T := TX10) (N := 24) (ci := 8) (q0 := 0) (As := []) (rest := []) (isC := [0, 1, 2]) (isR := [3, 4]) (isB := [2, 3, 4, 0, 1]) (wr := [(q_t_kept, .inl (cI, 1064, .inl t_kept)), (q_t_finds, .inl (cI, 16, .inl t_finds))]) (ws2 := [(q_t, .inr (8, [.ref q_t_now, .ref q_t_tried, .ref q_t_thought, .ref q_t_kept, .int t_undos, .ref q_t_saved, .int t_isSaved, .ref q_t_finds, .ref q_t_reach, .ref q_t_steps, .ref q_t_glows, .ref q_t_lower, .ref q_t_upper, .ref q_t_line, .int t_lined, .ref q_t_text, .int t_length, .int t_at, .int t_order, .ref q_t_told, .ref q_t_why, .ref q_t_more, .int t_whys, .int t_answer])), (q_t_now, .inl (cI, 133, .inl t_now)), (q_t_tried, .inl (cI, 133, .inl t_tried_1)), (q_t_kept, .inl (cI, 1064, .inl t_kept)), (q_t_finds, .inl (cI, 16, .inl t_finds))]) hF (c_X10_tries l D cI cJ cC cL q_t q_t_now q_t_tried q_t_thought q_t_kept q_t_saved q_t_finds q_t_reach q_t_steps q_t_glows q_t_lower q_t_upper q_t_line q_t_text q_t_told q_t_why q_t_more t_undos t_isSaved t_lined t_length t_at t_order t_whys t_answer t_now t_tried t_tried_1 hc1 s.heap.size) (cwV 0 hts gX10_tick_X10_tries rfl rfl rfl (by decide +kernel) ⟨Nat.le_of_ble_eq_true rfl, Nat.le_of_ble_eq_true rfl⟩) rfl hl rfl (Nat.le_of_ble_eq_true rfl) dX10_tick_1 ⟨Nat.zero_le _, Nat.zero_le _⟩ hK hN KX_T trivial hP hD hS hA rfl rfl rfl rfl rfl rfl (by decide) rfl rfl (fun H locs hP hD hS => ?_)
  refine lv_aload_n hx hb dX10_tick_4 rfl (lv_at hl 0 rfl) ?_
  refine lv_aload_n hx hb dX10_tick_5 rfl (lv_at hl 0 rfl) ?_
  refine lv_iload_n hx hb dX10_tick_6 rfl (lv_at hl 1 rfl) ?_
  obtain ⟨x7, t_answer_7, t_now_7, t_finds_7, hc7, hJ⟩ := bnd4_some hJ
  refine jcV_i (C := RX10) (T := TX10) (N := 24) (ci := 8) (q0 := 0) (As := [.int v1]) (rest := [.ref q_t]) (isC := [0, 1, 4]) (isR := [2, 3]) (isB := [2, 3, 0, 1, 4]) (wr := [(q_t_tried, .inl (cI, 133, .inl t_tried_1)), (q_t_kept, .inl (cI, 1064, .inl t_kept))]) (ws2 := [(q_t, .inr (8, [.ref q_t_now, .ref q_t_tried, .ref q_t_thought, .ref q_t_kept, .int t_undos, .ref q_t_saved, .int t_isSaved, .ref q_t_finds, .ref q_t_reach, .ref q_t_steps, .ref q_t_glows, .ref q_t_lower, .ref q_t_upper, .ref q_t_line, .int t_lined, .ref q_t_text, .int t_length, .int t_at, .int t_order, .ref q_t_told, .ref q_t_why, .ref q_t_more, .int t_whys, .int t_answer_7])), (q_t_now, .inl (cI, 133, .inl t_now_7)), (q_t_tried, .inl (cI, 133, .inl t_tried_1)), (q_t_kept, .inl (cI, 1064, .inl t_kept)), (q_t_finds, .inl (cI, 16, .inl t_finds_7))]) hF (c_X10_ticks l D cI cJ cC cL q_t q_t_now q_t_tried q_t_thought q_t_kept q_t_saved q_t_finds q_t_reach q_t_steps q_t_glows q_t_lower q_t_upper q_t_line q_t_text q_t_told q_t_why q_t_more t_undos t_isSaved t_lined t_length t_at t_order t_whys t_answer t_now t_finds v1 x7 t_answer_7 t_now_7 t_finds_7 hc7 H.size) (cwV 1 hts gX10_tick_X10_ticks rfl rfl rfl (by decide +kernel) ⟨Nat.le_of_ble_eq_true rfl, Nat.le_of_ble_eq_true rfl⟩) rfl hl rfl (Nat.le_of_ble_eq_true rfl) dX10_tick_7 ⟨Nat.zero_le _, Nat.zero_le _⟩ hK hN KX_T trivial hP hD hS hA rfl rfl rfl rfl rfl rfl (by decide) rfl rfl (fun H locs hP hD hS => ?_)
  obtain ⟨x10, t_undos_10, t_kept_10, hc10, hJ⟩ := bnd3_some hJ
  refine jcV_i (C := RX10) (T := TX10) (N := 24) (ci := 8) (q0 := 0) (As := [.int x7]) (rest := []) (isC := [0, 2, 3]) (isR := [1, 4]) (isB := [2, 0, 3, 4, 1]) (wr := [(q_t_now, .inl (cI, 133, .inl t_now_7)), (q_t_finds, .inl (cI, 16, .inl t_finds_7))]) (ws2 := [(q_t, .inr (8, [.ref q_t_now, .ref q_t_tried, .ref q_t_thought, .ref q_t_kept, .int t_undos_10, .ref q_t_saved, .int t_isSaved, .ref q_t_finds, .ref q_t_reach, .ref q_t_steps, .ref q_t_glows, .ref q_t_lower, .ref q_t_upper, .ref q_t_line, .int t_lined, .ref q_t_text, .int t_length, .int t_at, .int t_order, .ref q_t_told, .ref q_t_why, .ref q_t_more, .int t_whys, .int t_answer_7])), (q_t_now, .inl (cI, 133, .inl t_now_7)), (q_t_tried, .inl (cI, 133, .inl t_tried_1)), (q_t_kept, .inl (cI, 1064, .inl t_kept_10)), (q_t_finds, .inl (cI, 16, .inl t_finds_7))]) hF (c_X10_ends l D cI cJ cC cL q_t q_t_now q_t_tried q_t_thought q_t_kept q_t_saved q_t_finds q_t_reach q_t_steps q_t_glows q_t_lower q_t_upper q_t_line q_t_text q_t_told q_t_why q_t_more t_undos t_isSaved t_lined t_length t_at t_order t_whys t_answer_7 t_tried_1 t_kept x7 x10 t_undos_10 t_kept_10 hc10 H.size) (cwV 1 hts gX10_tick_X10_ends rfl rfl rfl (by decide +kernel) ⟨Nat.le_of_ble_eq_true rfl, Nat.le_of_ble_eq_true rfl⟩) rfl hl rfl (Nat.le_of_ble_eq_true rfl) dX10_tick_10 ⟨Nat.zero_le _, Nat.zero_le _⟩ hK hN KX_T trivial hP hD hS hA rfl rfl rfl rfl rfl rfl (by decide) rfl rfl (fun H locs hP hD hS => ?_)
  have hJ := Option.some.inj hJ
  obtain ⟨e0, e1, e2, e3, e4, e5, e6⟩ : (x10) = r ∧ (t_undos_10) = o_t_undos ∧ (t_answer_7) = o_t_answer ∧ (t_now_7) = o_t_now ∧ (t_tried_1) = o_t_tried ∧ (t_kept_10) = o_t_kept ∧ (t_finds_7) = o_t_finds := ⟨congrArg (fun z => z.1) hJ, congrArg (fun z => z.2.1) hJ, congrArg (fun z => z.2.2.1) hJ, congrArg (fun z => z.2.2.2.1) hJ, congrArg (fun z => z.2.2.2.2.1) hJ, congrArg (fun z => z.2.2.2.2.2.1) hJ, congrArg (fun z => z.2.2.2.2.2.2) hJ⟩
  exact hRet (by rw [← e1, ← e2, ← e3, ← e4, ← e5, ← e6]; exact hP) (by rw [← e1, ← e2, ← e3, ← e4, ← e5, ← e6]; exact hD) hS e0 dX10_tick_13

def J_X10_lanternOf (t_now : Nat → Int32) (v1 : Int32) (v2 : Int32) : Option (Int32) :=
    bnd1 (J_X10_isLantern t_now v1) fun x2 =>
    if x2 = 0 then (
    some ((-11 : Int32)))
    else (
    if v2 = (0 : Int32) then (
    bnd1 (J_X10_of t_now v1 v2) fun x63 =>
    some (x63))
    else (
    if v2 = (1 : Int32) then (
    bnd1 (J_X10_of t_now v1 v2) fun x63 =>
    some (x63))
    else (
    if v2 = (2 : Int32) then (
    bnd1 (J_X10_of t_now v1 v2) fun x63 =>
    some (x63))
    else (
    if v2 = (3 : Int32) then (
    bnd1 (J_X10_wiresTo t_now v1) fun x69 =>
    some (x69))
    else (
    if v2 = (4 : Int32) then (
    bnd1 (J_X10_wiresFrom t_now v1) fun x75 =>
    some (x75))
    else (
    if v2 = (5 : Int32) then (
    bnd1 (J_X10_of t_now v1 (3 : Int32)) fun x82 =>
    some (x82))
    else (
    if v2 = (6 : Int32) then (
    bnd1 (J_X10_findsNow t_now v1) fun x88 =>
    some (x88))
    else (
    if v2 = (7 : Int32) then (
    bnd1 (J_X10_of t_now v1 (7 : Int32)) fun x96 =>
    some (x96))
    else (
    some ((-12 : Int32)))))))))))
abbrev rmX10_lanternOf : Room := { frames := 4, cells := 0, slots := 0, locals := 90 }
set_option maxHeartbeats 4000000 in
set_option maxRecDepth 100000 in
theorem c_X10_lanternOf (l : Launch) (D : va_G) (cI cJ cC cL : ClassId) (q_t q_t_now q_t_tried q_t_thought q_t_kept q_t_saved q_t_finds q_t_reach q_t_steps q_t_glows q_t_lower q_t_upper q_t_line q_t_text q_t_told q_t_why q_t_more : Nat) (t_undos : Int32) (t_isSaved : Int32) (t_lined : Int32) (t_length : Int32) (t_at : Int32) (t_order : Int32) (t_whys : Int32) (t_answer : Int32) (t_now : Nat → Int32) (v1 : Int32) (v2 : Int32) (r : Int32) (hJ : J_X10_lanternOf t_now v1 v2 = some (r)) (sz : Nat) : Met l yX10_lanternOf wsX10_lanternOf rmX10_lanternOf (va_Pc [.ref q_t, .int v1, .int v2] (jpre XT D (tyL cI cJ cC cL) [(q_t, .inr (8, [.ref q_t_now, .ref q_t_tried, .ref q_t_thought, .ref q_t_kept, .int t_undos, .ref q_t_saved, .int t_isSaved, .ref q_t_finds, .ref q_t_reach, .ref q_t_steps, .ref q_t_glows, .ref q_t_lower, .ref q_t_upper, .ref q_t_line, .int t_lined, .ref q_t_text, .int t_length, .int t_at, .int t_order, .ref q_t_told, .ref q_t_why, .ref q_t_more, .int t_whys, .int t_answer])), (q_t_now, .inl (cI, 133, .inl t_now))] sz)) (va_Qi (fun r' (_ : Unit) => r' = r) (fun _ t => jpost D (tyL cI cJ cC cL) (va_A [(q_t, .inr (8, [.ref q_t_now, .ref q_t_tried, .ref q_t_thought, .ref q_t_kept, .int t_undos, .ref q_t_saved, .int t_isSaved, .ref q_t_finds, .ref q_t_reach, .ref q_t_steps, .ref q_t_glows, .ref q_t_lower, .ref q_t_upper, .ref q_t_line, .int t_lined, .ref q_t_text, .int t_length, .int t_at, .int t_order, .ref q_t_told, .ref q_t_why, .ref q_t_more, .int t_whys, .int t_answer])), (q_t_now, .inl (cI, 133, .inl t_now))] sz) [(q_t, .inr (8, [.ref q_t_now, .ref q_t_tried, .ref q_t_thought, .ref q_t_kept, .int t_undos, .ref q_t_saved, .int t_isSaved, .ref q_t_finds, .ref q_t_reach, .ref q_t_steps, .ref q_t_glows, .ref q_t_lower, .ref q_t_upper, .ref q_t_line, .int t_lined, .ref q_t_text, .int t_length, .int t_at, .int t_order, .ref q_t_told, .ref q_t_why, .ref q_t_more, .int t_whys, .int t_answer])), (q_t_now, .inl (cI, 133, .inl t_now))] t) (va_A [(q_t, .inr (8, [.ref q_t_now, .ref q_t_tried, .ref q_t_thought, .ref q_t_kept, .int t_undos, .ref q_t_saved, .int t_isSaved, .ref q_t_finds, .ref q_t_reach, .ref q_t_steps, .ref q_t_glows, .ref q_t_lower, .ref q_t_upper, .ref q_t_line, .int t_lined, .ref q_t_text, .int t_length, .int t_at, .int t_order, .ref q_t_told, .ref q_t_why, .ref q_t_more, .int t_whys, .int t_answer])), (q_t_now, .inl (cI, 133, .inl t_now))] sz)) 0 0 (va_A [(q_t, .inr (8, [.ref q_t_now, .ref q_t_tried, .ref q_t_thought, .ref q_t_kept, .int t_undos, .ref q_t_saved, .int t_isSaved, .ref q_t_finds, .ref q_t_reach, .ref q_t_steps, .ref q_t_glows, .ref q_t_lower, .ref q_t_upper, .ref q_t_line, .int t_lined, .ref q_t_text, .int t_length, .int t_at, .int t_order, .ref q_t_told, .ref q_t_why, .ref q_t_more, .int t_whys, .int t_answer])), (q_t_now, .inl (cI, 133, .inl t_now))] sz) := by
  refine jE_i (cc := cX10_lanternOf) (maxL := 3) (own := RX10) (ret := (some .int)) (lv0 := [(0, .ref q_t), (1, .int v1), (2, .int v2)]) (by decide) rfl rfl rfl (Nat.le_of_ble_eq_true rfl) rfl ?_
  intro p e s m args below meth c A Q ls hx hb hml hown hts hK hN hX hA hP hD hS hl hRet
  have hF : CallFix p m c cX10_lanternOf 3 s args wsX10_lanternOf RX10 := ⟨hx, hb, hml, hown, hts⟩
  unfold J_X10_lanternOf at hJ
  refine lv_aload_n hx hb dX10_lanternOf_0 rfl (lv_at hl 0 rfl) ?_
  refine lv_iload_n hx hb dX10_lanternOf_1 rfl (lv_at hl 1 rfl) ?_
  obtain ⟨x2, hc2, hJ⟩ := bnd1_some hJ
  refine jcV_i (C := RX10) (T := TX10) (N := 24) (ci := 8) (q0 := 0) (As := [.int v1]) (rest := []) (isC := [0, 1]) (isR := []) (isB := [0, 1]) (wr := []) (ws2 := [(q_t, .inr (8, [.ref q_t_now, .ref q_t_tried, .ref q_t_thought, .ref q_t_kept, .int t_undos, .ref q_t_saved, .int t_isSaved, .ref q_t_finds, .ref q_t_reach, .ref q_t_steps, .ref q_t_glows, .ref q_t_lower, .ref q_t_upper, .ref q_t_line, .int t_lined, .ref q_t_text, .int t_length, .int t_at, .int t_order, .ref q_t_told, .ref q_t_why, .ref q_t_more, .int t_whys, .int t_answer])), (q_t_now, .inl (cI, 133, .inl t_now))]) hF (c_X10_isLantern l D cI cJ cC cL q_t q_t_now q_t_tried q_t_thought q_t_kept q_t_saved q_t_finds q_t_reach q_t_steps q_t_glows q_t_lower q_t_upper q_t_line q_t_text q_t_told q_t_why q_t_more t_undos t_isSaved t_lined t_length t_at t_order t_whys t_answer t_now v1 x2 hc2 s.heap.size) (cwV 1 hts gX10_lanternOf_X10_isLantern rfl rfl rfl (by decide +kernel) ⟨Nat.le_of_ble_eq_true rfl, Nat.le_of_ble_eq_true rfl⟩) rfl hl rfl (Nat.le_of_ble_eq_true rfl) dX10_lanternOf_2 ⟨Nat.zero_le _, Nat.zero_le _⟩ hK hN KX_T trivial hP hD hS hA rfl rfl rfl rfl rfl rfl (by decide) rfl rfl (fun H locs hP hD hS => ?_)
  refine jif_ne (tgt := 11) hx hb dX10_lanternOf_5 (by decide) hJ (fun hJ => ?_) (fun hJ => ?_)
  · refine lv_iload_n hx hb dX10_lanternOf_11 rfl (lv_at hl 2 rfl) ?_
    by_cases hsw : v2 = (0 : Int32)
    · have hJ := if_some_t hJ hsw
      refine lv_tableIn (off := 48) (tgt := 60) hx hb dX10_lanternOf_12 (by rw [hsw]; decide) (by rw [hsw]; decide) (by rw [hsw]; rfl) (by decide) ?_
      refine lv_aload_n hx hb dX10_lanternOf_60 rfl (lv_at hl 0 rfl) ?_
      refine lv_iload_n hx hb dX10_lanternOf_61 rfl (lv_at hl 1 rfl) ?_
      refine lv_iload_n hx hb dX10_lanternOf_62 rfl (lv_at hl 2 rfl) ?_
      obtain ⟨x63, hc63, hJ⟩ := bnd1_some hJ
      refine jcV_i (C := RX10) (T := TX10) (N := 24) (ci := 8) (q0 := 0) (As := [.int v1, .int v2]) (rest := []) (isC := [0, 1]) (isR := []) (isB := [0, 1]) (wr := []) (ws2 := [(q_t, .inr (8, [.ref q_t_now, .ref q_t_tried, .ref q_t_thought, .ref q_t_kept, .int t_undos, .ref q_t_saved, .int t_isSaved, .ref q_t_finds, .ref q_t_reach, .ref q_t_steps, .ref q_t_glows, .ref q_t_lower, .ref q_t_upper, .ref q_t_line, .int t_lined, .ref q_t_text, .int t_length, .int t_at, .int t_order, .ref q_t_told, .ref q_t_why, .ref q_t_more, .int t_whys, .int t_answer])), (q_t_now, .inl (cI, 133, .inl t_now))]) hF (c_X10_of l D cI cJ cC cL q_t q_t_now q_t_tried q_t_thought q_t_kept q_t_saved q_t_finds q_t_reach q_t_steps q_t_glows q_t_lower q_t_upper q_t_line q_t_text q_t_told q_t_why q_t_more t_undos t_isSaved t_lined t_length t_at t_order t_whys t_answer t_now v1 v2 x63 hc63 H.size) (cwV 2 hts gX10_lanternOf_X10_of rfl rfl rfl (by decide +kernel) ⟨Nat.le_of_ble_eq_true rfl, Nat.le_of_ble_eq_true rfl⟩) rfl hl rfl (Nat.le_of_ble_eq_true rfl) dX10_lanternOf_63 ⟨Nat.zero_le _, Nat.zero_le _⟩ hK hN KX_T trivial hP hD hS hA rfl rfl rfl rfl rfl rfl (by decide) rfl rfl (fun H locs hP hD hS => ?_)
      have e0 := Option.some.inj hJ
      exact hRet hP hD hS e0 dX10_lanternOf_66
    have hJ := if_some_f hJ hsw
    have hs0 := jsw_ne hsw (k := 0) (by decide)
    clear hsw
    by_cases hsw : v2 = (1 : Int32)
    · have hJ := if_some_t hJ hsw
      refine lv_tableIn (off := 48) (tgt := 60) hx hb dX10_lanternOf_12 (by rw [hsw]; decide) (by rw [hsw]; decide) (by rw [hsw]; rfl) (by decide) ?_
      refine lv_aload_n hx hb dX10_lanternOf_60 rfl (lv_at hl 0 rfl) ?_
      refine lv_iload_n hx hb dX10_lanternOf_61 rfl (lv_at hl 1 rfl) ?_
      refine lv_iload_n hx hb dX10_lanternOf_62 rfl (lv_at hl 2 rfl) ?_
      obtain ⟨x63, hc63, hJ⟩ := bnd1_some hJ
      refine jcV_i (C := RX10) (T := TX10) (N := 24) (ci := 8) (q0 := 0) (As := [.int v1, .int v2]) (rest := []) (isC := [0, 1]) (isR := []) (isB := [0, 1]) (wr := []) (ws2 := [(q_t, .inr (8, [.ref q_t_now, .ref q_t_tried, .ref q_t_thought, .ref q_t_kept, .int t_undos, .ref q_t_saved, .int t_isSaved, .ref q_t_finds, .ref q_t_reach, .ref q_t_steps, .ref q_t_glows, .ref q_t_lower, .ref q_t_upper, .ref q_t_line, .int t_lined, .ref q_t_text, .int t_length, .int t_at, .int t_order, .ref q_t_told, .ref q_t_why, .ref q_t_more, .int t_whys, .int t_answer])), (q_t_now, .inl (cI, 133, .inl t_now))]) hF (c_X10_of l D cI cJ cC cL q_t q_t_now q_t_tried q_t_thought q_t_kept q_t_saved q_t_finds q_t_reach q_t_steps q_t_glows q_t_lower q_t_upper q_t_line q_t_text q_t_told q_t_why q_t_more t_undos t_isSaved t_lined t_length t_at t_order t_whys t_answer t_now v1 v2 x63 hc63 H.size) (cwV 2 hts gX10_lanternOf_X10_of rfl rfl rfl (by decide +kernel) ⟨Nat.le_of_ble_eq_true rfl, Nat.le_of_ble_eq_true rfl⟩) rfl hl rfl (Nat.le_of_ble_eq_true rfl) dX10_lanternOf_63 ⟨Nat.zero_le _, Nat.zero_le _⟩ hK hN KX_T trivial hP hD hS hA rfl rfl rfl rfl rfl rfl (by decide) rfl rfl (fun H locs hP hD hS => ?_)
      have e0 := Option.some.inj hJ
      exact hRet hP hD hS e0 dX10_lanternOf_66
    have hJ := if_some_f hJ hsw
    have hs1 := jsw_ne hsw (k := 1) (by decide)
    clear hsw
    by_cases hsw : v2 = (2 : Int32)
    · have hJ := if_some_t hJ hsw
      refine lv_tableIn (off := 48) (tgt := 60) hx hb dX10_lanternOf_12 (by rw [hsw]; decide) (by rw [hsw]; decide) (by rw [hsw]; rfl) (by decide) ?_
      refine lv_aload_n hx hb dX10_lanternOf_60 rfl (lv_at hl 0 rfl) ?_
      refine lv_iload_n hx hb dX10_lanternOf_61 rfl (lv_at hl 1 rfl) ?_
      refine lv_iload_n hx hb dX10_lanternOf_62 rfl (lv_at hl 2 rfl) ?_
      obtain ⟨x63, hc63, hJ⟩ := bnd1_some hJ
      refine jcV_i (C := RX10) (T := TX10) (N := 24) (ci := 8) (q0 := 0) (As := [.int v1, .int v2]) (rest := []) (isC := [0, 1]) (isR := []) (isB := [0, 1]) (wr := []) (ws2 := [(q_t, .inr (8, [.ref q_t_now, .ref q_t_tried, .ref q_t_thought, .ref q_t_kept, .int t_undos, .ref q_t_saved, .int t_isSaved, .ref q_t_finds, .ref q_t_reach, .ref q_t_steps, .ref q_t_glows, .ref q_t_lower, .ref q_t_upper, .ref q_t_line, .int t_lined, .ref q_t_text, .int t_length, .int t_at, .int t_order, .ref q_t_told, .ref q_t_why, .ref q_t_more, .int t_whys, .int t_answer])), (q_t_now, .inl (cI, 133, .inl t_now))]) hF (c_X10_of l D cI cJ cC cL q_t q_t_now q_t_tried q_t_thought q_t_kept q_t_saved q_t_finds q_t_reach q_t_steps q_t_glows q_t_lower q_t_upper q_t_line q_t_text q_t_told q_t_why q_t_more t_undos t_isSaved t_lined t_length t_at t_order t_whys t_answer t_now v1 v2 x63 hc63 H.size) (cwV 2 hts gX10_lanternOf_X10_of rfl rfl rfl (by decide +kernel) ⟨Nat.le_of_ble_eq_true rfl, Nat.le_of_ble_eq_true rfl⟩) rfl hl rfl (Nat.le_of_ble_eq_true rfl) dX10_lanternOf_63 ⟨Nat.zero_le _, Nat.zero_le _⟩ hK hN KX_T trivial hP hD hS hA rfl rfl rfl rfl rfl rfl (by decide) rfl rfl (fun H locs hP hD hS => ?_)
      have e0 := Option.some.inj hJ
      exact hRet hP hD hS e0 dX10_lanternOf_66
    have hJ := if_some_f hJ hsw
    have hs2 := jsw_ne hsw (k := 2) (by decide)
    clear hsw
    by_cases hsw : v2 = (3 : Int32)
    · have hJ := if_some_t hJ hsw
      refine lv_tableIn (off := 55) (tgt := 67) hx hb dX10_lanternOf_12 (by rw [hsw]; decide) (by rw [hsw]; decide) (by rw [hsw]; rfl) (by decide) ?_
      refine lv_aload_n hx hb dX10_lanternOf_67 rfl (lv_at hl 0 rfl) ?_
      refine lv_iload_n hx hb dX10_lanternOf_68 rfl (lv_at hl 1 rfl) ?_
      obtain ⟨x69, hc69, hJ⟩ := bnd1_some hJ
      refine jcV_i (C := RX10) (T := TX10) (N := 24) (ci := 8) (q0 := 0) (As := [.int v1]) (rest := []) (isC := [0, 1]) (isR := []) (isB := [0, 1]) (wr := []) (ws2 := [(q_t, .inr (8, [.ref q_t_now, .ref q_t_tried, .ref q_t_thought, .ref q_t_kept, .int t_undos, .ref q_t_saved, .int t_isSaved, .ref q_t_finds, .ref q_t_reach, .ref q_t_steps, .ref q_t_glows, .ref q_t_lower, .ref q_t_upper, .ref q_t_line, .int t_lined, .ref q_t_text, .int t_length, .int t_at, .int t_order, .ref q_t_told, .ref q_t_why, .ref q_t_more, .int t_whys, .int t_answer])), (q_t_now, .inl (cI, 133, .inl t_now))]) hF (c_X10_wiresTo l D cI cJ cC cL q_t q_t_now q_t_tried q_t_thought q_t_kept q_t_saved q_t_finds q_t_reach q_t_steps q_t_glows q_t_lower q_t_upper q_t_line q_t_text q_t_told q_t_why q_t_more t_undos t_isSaved t_lined t_length t_at t_order t_whys t_answer t_now v1 x69 hc69 H.size) (cwV 1 hts gX10_lanternOf_X10_wiresTo rfl rfl rfl (by decide +kernel) ⟨Nat.le_of_ble_eq_true rfl, Nat.le_of_ble_eq_true rfl⟩) rfl hl rfl (Nat.le_of_ble_eq_true rfl) dX10_lanternOf_69 ⟨Nat.zero_le _, Nat.zero_le _⟩ hK hN KX_T trivial hP hD hS hA rfl rfl rfl rfl rfl rfl (by decide) rfl rfl (fun H locs hP hD hS => ?_)
      have e0 := Option.some.inj hJ
      exact hRet hP hD hS e0 dX10_lanternOf_72
    have hJ := if_some_f hJ hsw
    have hs3 := jsw_ne hsw (k := 3) (by decide)
    clear hsw
    by_cases hsw : v2 = (4 : Int32)
    · have hJ := if_some_t hJ hsw
      refine lv_tableIn (off := 61) (tgt := 73) hx hb dX10_lanternOf_12 (by rw [hsw]; decide) (by rw [hsw]; decide) (by rw [hsw]; rfl) (by decide) ?_
      refine lv_aload_n hx hb dX10_lanternOf_73 rfl (lv_at hl 0 rfl) ?_
      refine lv_iload_n hx hb dX10_lanternOf_74 rfl (lv_at hl 1 rfl) ?_
      obtain ⟨x75, hc75, hJ⟩ := bnd1_some hJ
      refine jcV_i (C := RX10) (T := TX10) (N := 24) (ci := 8) (q0 := 0) (As := [.int v1]) (rest := []) (isC := [0, 1]) (isR := []) (isB := [0, 1]) (wr := []) (ws2 := [(q_t, .inr (8, [.ref q_t_now, .ref q_t_tried, .ref q_t_thought, .ref q_t_kept, .int t_undos, .ref q_t_saved, .int t_isSaved, .ref q_t_finds, .ref q_t_reach, .ref q_t_steps, .ref q_t_glows, .ref q_t_lower, .ref q_t_upper, .ref q_t_line, .int t_lined, .ref q_t_text, .int t_length, .int t_at, .int t_order, .ref q_t_told, .ref q_t_why, .ref q_t_more, .int t_whys, .int t_answer])), (q_t_now, .inl (cI, 133, .inl t_now))]) hF (c_X10_wiresFrom l D cI cJ cC cL q_t q_t_now q_t_tried q_t_thought q_t_kept q_t_saved q_t_finds q_t_reach q_t_steps q_t_glows q_t_lower q_t_upper q_t_line q_t_text q_t_told q_t_why q_t_more t_undos t_isSaved t_lined t_length t_at t_order t_whys t_answer t_now v1 x75 hc75 H.size) (cwV 1 hts gX10_lanternOf_X10_wiresFrom rfl rfl rfl (by decide +kernel) ⟨Nat.le_of_ble_eq_true rfl, Nat.le_of_ble_eq_true rfl⟩) rfl hl rfl (Nat.le_of_ble_eq_true rfl) dX10_lanternOf_75 ⟨Nat.zero_le _, Nat.zero_le _⟩ hK hN KX_T trivial hP hD hS hA rfl rfl rfl rfl rfl rfl (by decide) rfl rfl (fun H locs hP hD hS => ?_)
      have e0 := Option.some.inj hJ
      exact hRet hP hD hS e0 dX10_lanternOf_78
    have hJ := if_some_f hJ hsw
    have hs4 := jsw_ne hsw (k := 4) (by decide)
    clear hsw
    by_cases hsw : v2 = (5 : Int32)
    · have hJ := if_some_t hJ hsw
      refine lv_tableIn (off := 67) (tgt := 79) hx hb dX10_lanternOf_12 (by rw [hsw]; decide) (by rw [hsw]; decide) (by rw [hsw]; rfl) (by decide) ?_
      refine lv_aload_n hx hb dX10_lanternOf_79 rfl (lv_at hl 0 rfl) ?_
      refine lv_iload_n hx hb dX10_lanternOf_80 rfl (lv_at hl 1 rfl) ?_
      refine lv_iconst (v := (3 : Int32)) hx hb dX10_lanternOf_81 (by decide) ?_
      obtain ⟨x82, hc82, hJ⟩ := bnd1_some hJ
      refine jcV_i (C := RX10) (T := TX10) (N := 24) (ci := 8) (q0 := 0) (As := [.int v1, .int (3 : Int32)]) (rest := []) (isC := [0, 1]) (isR := []) (isB := [0, 1]) (wr := []) (ws2 := [(q_t, .inr (8, [.ref q_t_now, .ref q_t_tried, .ref q_t_thought, .ref q_t_kept, .int t_undos, .ref q_t_saved, .int t_isSaved, .ref q_t_finds, .ref q_t_reach, .ref q_t_steps, .ref q_t_glows, .ref q_t_lower, .ref q_t_upper, .ref q_t_line, .int t_lined, .ref q_t_text, .int t_length, .int t_at, .int t_order, .ref q_t_told, .ref q_t_why, .ref q_t_more, .int t_whys, .int t_answer])), (q_t_now, .inl (cI, 133, .inl t_now))]) hF (c_X10_of l D cI cJ cC cL q_t q_t_now q_t_tried q_t_thought q_t_kept q_t_saved q_t_finds q_t_reach q_t_steps q_t_glows q_t_lower q_t_upper q_t_line q_t_text q_t_told q_t_why q_t_more t_undos t_isSaved t_lined t_length t_at t_order t_whys t_answer t_now v1 (3 : Int32) x82 hc82 H.size) (cwV 2 hts gX10_lanternOf_X10_of rfl rfl rfl (by decide +kernel) ⟨Nat.le_of_ble_eq_true rfl, Nat.le_of_ble_eq_true rfl⟩) rfl hl rfl (Nat.le_of_ble_eq_true rfl) dX10_lanternOf_82 ⟨Nat.zero_le _, Nat.zero_le _⟩ hK hN KX_T trivial hP hD hS hA rfl rfl rfl rfl rfl rfl (by decide) rfl rfl (fun H locs hP hD hS => ?_)
      have e0 := Option.some.inj hJ
      exact hRet hP hD hS e0 dX10_lanternOf_85
    have hJ := if_some_f hJ hsw
    have hs5 := jsw_ne hsw (k := 5) (by decide)
    clear hsw
    by_cases hsw : v2 = (6 : Int32)
    · have hJ := if_some_t hJ hsw
      refine lv_tableIn (off := 74) (tgt := 86) hx hb dX10_lanternOf_12 (by rw [hsw]; decide) (by rw [hsw]; decide) (by rw [hsw]; rfl) (by decide) ?_
      refine lv_aload_n hx hb dX10_lanternOf_86 rfl (lv_at hl 0 rfl) ?_
      refine lv_iload_n hx hb dX10_lanternOf_87 rfl (lv_at hl 1 rfl) ?_
      obtain ⟨x88, hc88, hJ⟩ := bnd1_some hJ
      refine jcV_i (C := RX10) (T := TX10) (N := 24) (ci := 8) (q0 := 0) (As := [.int v1]) (rest := []) (isC := [0, 1]) (isR := []) (isB := [0, 1]) (wr := []) (ws2 := [(q_t, .inr (8, [.ref q_t_now, .ref q_t_tried, .ref q_t_thought, .ref q_t_kept, .int t_undos, .ref q_t_saved, .int t_isSaved, .ref q_t_finds, .ref q_t_reach, .ref q_t_steps, .ref q_t_glows, .ref q_t_lower, .ref q_t_upper, .ref q_t_line, .int t_lined, .ref q_t_text, .int t_length, .int t_at, .int t_order, .ref q_t_told, .ref q_t_why, .ref q_t_more, .int t_whys, .int t_answer])), (q_t_now, .inl (cI, 133, .inl t_now))]) hF (c_X10_findsNow l D cI cJ cC cL q_t q_t_now q_t_tried q_t_thought q_t_kept q_t_saved q_t_finds q_t_reach q_t_steps q_t_glows q_t_lower q_t_upper q_t_line q_t_text q_t_told q_t_why q_t_more t_undos t_isSaved t_lined t_length t_at t_order t_whys t_answer t_now v1 x88 hc88 H.size) (cwV 1 hts gX10_lanternOf_X10_findsNow rfl rfl rfl (by decide +kernel) ⟨Nat.le_of_ble_eq_true rfl, Nat.le_of_ble_eq_true rfl⟩) rfl hl rfl (Nat.le_of_ble_eq_true rfl) dX10_lanternOf_88 ⟨Nat.zero_le _, Nat.zero_le _⟩ hK hN KX_T trivial hP hD hS hA rfl rfl rfl rfl rfl rfl (by decide) rfl rfl (fun H locs hP hD hS => ?_)
      have e0 := Option.some.inj hJ
      exact hRet hP hD hS e0 dX10_lanternOf_91
    have hJ := if_some_f hJ hsw
    have hs6 := jsw_ne hsw (k := 6) (by decide)
    clear hsw
    by_cases hsw : v2 = (7 : Int32)
    · have hJ := if_some_t hJ hsw
      refine lv_tableIn (off := 80) (tgt := 92) hx hb dX10_lanternOf_12 (by rw [hsw]; decide) (by rw [hsw]; decide) (by rw [hsw]; rfl) (by decide) ?_
      refine lv_aload_n hx hb dX10_lanternOf_92 rfl (lv_at hl 0 rfl) ?_
      refine lv_iload_n hx hb dX10_lanternOf_93 rfl (lv_at hl 1 rfl) ?_
      refine lv_bipush (v := (7 : Int32)) hx hb dX10_lanternOf_94 (by decide) ?_
      obtain ⟨x96, hc96, hJ⟩ := bnd1_some hJ
      refine jcV_i (C := RX10) (T := TX10) (N := 24) (ci := 8) (q0 := 0) (As := [.int v1, .int (7 : Int32)]) (rest := []) (isC := [0, 1]) (isR := []) (isB := [0, 1]) (wr := []) (ws2 := [(q_t, .inr (8, [.ref q_t_now, .ref q_t_tried, .ref q_t_thought, .ref q_t_kept, .int t_undos, .ref q_t_saved, .int t_isSaved, .ref q_t_finds, .ref q_t_reach, .ref q_t_steps, .ref q_t_glows, .ref q_t_lower, .ref q_t_upper, .ref q_t_line, .int t_lined, .ref q_t_text, .int t_length, .int t_at, .int t_order, .ref q_t_told, .ref q_t_why, .ref q_t_more, .int t_whys, .int t_answer])), (q_t_now, .inl (cI, 133, .inl t_now))]) hF (c_X10_of l D cI cJ cC cL q_t q_t_now q_t_tried q_t_thought q_t_kept q_t_saved q_t_finds q_t_reach q_t_steps q_t_glows q_t_lower q_t_upper q_t_line q_t_text q_t_told q_t_why q_t_more t_undos t_isSaved t_lined t_length t_at t_order t_whys t_answer t_now v1 (7 : Int32) x96 hc96 H.size) (cwV 2 hts gX10_lanternOf_X10_of rfl rfl rfl (by decide +kernel) ⟨Nat.le_of_ble_eq_true rfl, Nat.le_of_ble_eq_true rfl⟩) rfl hl rfl (Nat.le_of_ble_eq_true rfl) dX10_lanternOf_96 ⟨Nat.zero_le _, Nat.zero_le _⟩ hK hN KX_T trivial hP hD hS hA rfl rfl rfl rfl rfl rfl (by decide) rfl rfl (fun H locs hP hD hS => ?_)
      have e0 := Option.some.inj hJ
      exact hRet hP hD hS e0 dX10_lanternOf_99
    have hJ := if_some_f hJ hsw
    have hs7 := jsw_ne hsw (k := 7) (by decide)
    clear hsw
    refine lv_tableOut (tgt := 100) hx hb dX10_lanternOf_12 (by omega) (by decide) ?_
    refine lv_bipush (v := (-12 : Int32)) hx hb dX10_lanternOf_100 (by decide) ?_
    have e0 := Option.some.inj hJ
    exact hRet hP hD hS e0 dX10_lanternOf_102
  · refine lv_bipush (v := (-11 : Int32)) hx hb dX10_lanternOf_8 (by decide) ?_
    have e0 := Option.some.inj hJ
    exact hRet hP hD hS e0 dX10_lanternOf_10

def J_X10_wireOf_b43 (t_now : Nat → Int32) (v1 : Int32) (v2 : Int32) (s43_0 : Int32) : Option (Int32) :=
    some (s43_0)
def J_X10_wireOf (t_now : Nat → Int32) (v1 : Int32) (v2 : Int32) : Option (Int32) :=
    bnd1 (J_X10_isLantern t_now v1) fun x2 =>
    if x2 = 0 then (
    some ((-11 : Int32)))
    else (
    bnd1 (J_X10_in v2 (0 : Int32) (2 : Int32)) fun x14 =>
    if x14 = 0 then (
    some ((-12 : Int32)))
    else (
    bnd1 (J_X10_wired t_now v1 v2) fun x26 =>
    if 0 ≤ x26 then (
    bnd1 (J_X10_wired t_now v1 v2) fun x40 =>
    J_X10_wireOf_b43 t_now v1 v2 x40)
    else (
    J_X10_wireOf_b43 t_now v1 v2 (-15 : Int32))))
abbrev rmX10_wireOf : Room := { frames := 2, cells := 0, slots := 0, locals := 44 }
set_option maxHeartbeats 4000000 in
set_option maxRecDepth 100000 in
theorem c_X10_wireOf (l : Launch) (D : va_G) (cI cJ cC cL : ClassId) (q_t q_t_now q_t_tried q_t_thought q_t_kept q_t_saved q_t_finds q_t_reach q_t_steps q_t_glows q_t_lower q_t_upper q_t_line q_t_text q_t_told q_t_why q_t_more : Nat) (t_undos : Int32) (t_isSaved : Int32) (t_lined : Int32) (t_length : Int32) (t_at : Int32) (t_order : Int32) (t_whys : Int32) (t_answer : Int32) (t_now : Nat → Int32) (v1 : Int32) (v2 : Int32) (r : Int32) (hJ : J_X10_wireOf t_now v1 v2 = some (r)) (sz : Nat) : Met l yX10_wireOf wsX10_wireOf rmX10_wireOf (va_Pc [.ref q_t, .int v1, .int v2] (jpre XT D (tyL cI cJ cC cL) [(q_t, .inr (8, [.ref q_t_now, .ref q_t_tried, .ref q_t_thought, .ref q_t_kept, .int t_undos, .ref q_t_saved, .int t_isSaved, .ref q_t_finds, .ref q_t_reach, .ref q_t_steps, .ref q_t_glows, .ref q_t_lower, .ref q_t_upper, .ref q_t_line, .int t_lined, .ref q_t_text, .int t_length, .int t_at, .int t_order, .ref q_t_told, .ref q_t_why, .ref q_t_more, .int t_whys, .int t_answer])), (q_t_now, .inl (cI, 133, .inl t_now))] sz)) (va_Qi (fun r' (_ : Unit) => r' = r) (fun _ t => jpost D (tyL cI cJ cC cL) (va_A [(q_t, .inr (8, [.ref q_t_now, .ref q_t_tried, .ref q_t_thought, .ref q_t_kept, .int t_undos, .ref q_t_saved, .int t_isSaved, .ref q_t_finds, .ref q_t_reach, .ref q_t_steps, .ref q_t_glows, .ref q_t_lower, .ref q_t_upper, .ref q_t_line, .int t_lined, .ref q_t_text, .int t_length, .int t_at, .int t_order, .ref q_t_told, .ref q_t_why, .ref q_t_more, .int t_whys, .int t_answer])), (q_t_now, .inl (cI, 133, .inl t_now))] sz) [(q_t, .inr (8, [.ref q_t_now, .ref q_t_tried, .ref q_t_thought, .ref q_t_kept, .int t_undos, .ref q_t_saved, .int t_isSaved, .ref q_t_finds, .ref q_t_reach, .ref q_t_steps, .ref q_t_glows, .ref q_t_lower, .ref q_t_upper, .ref q_t_line, .int t_lined, .ref q_t_text, .int t_length, .int t_at, .int t_order, .ref q_t_told, .ref q_t_why, .ref q_t_more, .int t_whys, .int t_answer])), (q_t_now, .inl (cI, 133, .inl t_now))] t) (va_A [(q_t, .inr (8, [.ref q_t_now, .ref q_t_tried, .ref q_t_thought, .ref q_t_kept, .int t_undos, .ref q_t_saved, .int t_isSaved, .ref q_t_finds, .ref q_t_reach, .ref q_t_steps, .ref q_t_glows, .ref q_t_lower, .ref q_t_upper, .ref q_t_line, .int t_lined, .ref q_t_text, .int t_length, .int t_at, .int t_order, .ref q_t_told, .ref q_t_why, .ref q_t_more, .int t_whys, .int t_answer])), (q_t_now, .inl (cI, 133, .inl t_now))] sz)) 0 0 (va_A [(q_t, .inr (8, [.ref q_t_now, .ref q_t_tried, .ref q_t_thought, .ref q_t_kept, .int t_undos, .ref q_t_saved, .int t_isSaved, .ref q_t_finds, .ref q_t_reach, .ref q_t_steps, .ref q_t_glows, .ref q_t_lower, .ref q_t_upper, .ref q_t_line, .int t_lined, .ref q_t_text, .int t_length, .int t_at, .int t_order, .ref q_t_told, .ref q_t_why, .ref q_t_more, .int t_whys, .int t_answer])), (q_t_now, .inl (cI, 133, .inl t_now))] sz) := by
  refine jE_i (cc := cX10_wireOf) (maxL := 3) (own := RX10) (ret := (some .int)) (lv0 := [(0, .ref q_t), (1, .int v1), (2, .int v2)]) (by decide) rfl rfl rfl (Nat.le_of_ble_eq_true rfl) rfl ?_
  intro p e s m args below meth c A Q ls hx hb hml hown hts hK hN hX hA hP hD hS hl hRet
  have hF : CallFix p m c cX10_wireOf 3 s args wsX10_wireOf RX10 := ⟨hx, hb, hml, hown, hts⟩
  have B43 : ∀ (s43_0 : Int32) (H : Heap) (locs : List Loc), va_P D vwCl [(q_t, .inr (8, [.ref q_t_now, .ref q_t_tried, .ref q_t_thought, .ref q_t_kept, .int t_undos, .ref q_t_saved, .int t_isSaved, .ref q_t_finds, .ref q_t_reach, .ref q_t_steps, .ref q_t_glows, .ref q_t_lower, .ref q_t_upper, .ref q_t_line, .int t_lined, .ref q_t_text, .int t_length, .int t_at, .int t_order, .ref q_t_told, .ref q_t_why, .ref q_t_more, .int t_whys, .int t_answer])), (q_t_now, .inl (cI, 133, .inl t_now))] H → va_D A [(q_t, .inr (8, [.ref q_t_now, .ref q_t_tried, .ref q_t_thought, .ref q_t_kept, .int t_undos, .ref q_t_saved, .int t_isSaved, .ref q_t_finds, .ref q_t_reach, .ref q_t_steps, .ref q_t_glows, .ref q_t_lower, .ref q_t_upper, .ref q_t_line, .int t_lined, .ref q_t_text, .int t_length, .int t_at, .int t_order, .ref q_t_told, .ref q_t_why, .ref q_t_more, .int t_whys, .int t_answer])), (q_t_now, .inl (cI, 133, .inl t_now))] → va_S A s.heap H locs → ∀ ls : Array Slot, lv_has ls 3 [] → J_X10_wireOf_b43  t_now v1 v2 s43_0 = some (r) → W p l e rmX10_wireOf s m args below meth c H locs 0 0 Q (F0 m 43 ls [.int s43_0]) := by
    intro s43_0 H locs hP hD hS ls hl hJ
    unfold J_X10_wireOf_b43 at hJ
    have e0 := Option.some.inj hJ
    exact hRet hP hD hS e0 dX10_wireOf_43
  unfold J_X10_wireOf at hJ
  refine lv_aload_n hx hb dX10_wireOf_0 rfl (lv_at hl 0 rfl) ?_
  refine lv_iload_n hx hb dX10_wireOf_1 rfl (lv_at hl 1 rfl) ?_
  obtain ⟨x2, hc2, hJ⟩ := bnd1_some hJ
  refine jcV_i (C := RX10) (T := TX10) (N := 24) (ci := 8) (q0 := 0) (As := [.int v1]) (rest := []) (isC := [0, 1]) (isR := []) (isB := [0, 1]) (wr := []) (ws2 := [(q_t, .inr (8, [.ref q_t_now, .ref q_t_tried, .ref q_t_thought, .ref q_t_kept, .int t_undos, .ref q_t_saved, .int t_isSaved, .ref q_t_finds, .ref q_t_reach, .ref q_t_steps, .ref q_t_glows, .ref q_t_lower, .ref q_t_upper, .ref q_t_line, .int t_lined, .ref q_t_text, .int t_length, .int t_at, .int t_order, .ref q_t_told, .ref q_t_why, .ref q_t_more, .int t_whys, .int t_answer])), (q_t_now, .inl (cI, 133, .inl t_now))]) hF (c_X10_isLantern l D cI cJ cC cL q_t q_t_now q_t_tried q_t_thought q_t_kept q_t_saved q_t_finds q_t_reach q_t_steps q_t_glows q_t_lower q_t_upper q_t_line q_t_text q_t_told q_t_why q_t_more t_undos t_isSaved t_lined t_length t_at t_order t_whys t_answer t_now v1 x2 hc2 s.heap.size) (cwV 1 hts gX10_wireOf_X10_isLantern rfl rfl rfl (by decide +kernel) ⟨Nat.le_of_ble_eq_true rfl, Nat.le_of_ble_eq_true rfl⟩) rfl hl rfl (Nat.le_of_ble_eq_true rfl) dX10_wireOf_2 ⟨Nat.zero_le _, Nat.zero_le _⟩ hK hN KX_T trivial hP hD hS hA rfl rfl rfl rfl rfl rfl (by decide) rfl rfl (fun H locs hP hD hS => ?_)
  refine jif_ne (tgt := 11) hx hb dX10_wireOf_5 (by decide) hJ (fun hJ => ?_) (fun hJ => ?_)
  · refine lv_iload_n hx hb dX10_wireOf_11 rfl (lv_at hl 2 rfl) ?_
    refine lv_iconst (v := (0 : Int32)) hx hb dX10_wireOf_12 (by decide) ?_
    refine lv_iconst (v := (2 : Int32)) hx hb dX10_wireOf_13 (by decide) ?_
    obtain ⟨x14, hc14, hJ⟩ := bnd1_some hJ
    refine jcS_i (As := [.int v2, .int (0 : Int32), .int (2 : Int32)]) (rest := []) (isC := []) (isR := [0, 1]) (isB := [0, 1]) (wr := [(q_t, .inr (8, [.ref q_t_now, .ref q_t_tried, .ref q_t_thought, .ref q_t_kept, .int t_undos, .ref q_t_saved, .int t_isSaved, .ref q_t_finds, .ref q_t_reach, .ref q_t_steps, .ref q_t_glows, .ref q_t_lower, .ref q_t_upper, .ref q_t_line, .int t_lined, .ref q_t_text, .int t_length, .int t_at, .int t_order, .ref q_t_told, .ref q_t_why, .ref q_t_more, .int t_whys, .int t_answer])), (q_t_now, .inl (cI, 133, .inl t_now))]) (ws2 := [(q_t, .inr (8, [.ref q_t_now, .ref q_t_tried, .ref q_t_thought, .ref q_t_kept, .int t_undos, .ref q_t_saved, .int t_isSaved, .ref q_t_finds, .ref q_t_reach, .ref q_t_steps, .ref q_t_glows, .ref q_t_lower, .ref q_t_upper, .ref q_t_line, .int t_lined, .ref q_t_text, .int t_length, .int t_at, .int t_order, .ref q_t_told, .ref q_t_why, .ref q_t_more, .int t_whys, .int t_answer])), (q_t_now, .inl (cI, 133, .inl t_now))]) hF (c_X10_in l D cI cJ cC cL v2 (0 : Int32) (2 : Int32) x14 hc14 H.size) (va_cwS 3 hts gX10_wireOf_X10_in rfl rfl rfl (by decide +kernel) ⟨Nat.le_of_ble_eq_true rfl, Nat.le_of_ble_eq_true rfl⟩) rfl hl rfl (Nat.le_of_ble_eq_true rfl) dX10_wireOf_14 ⟨Nat.zero_le _, Nat.zero_le _⟩ hK hN KX_T trivial hP hD hS hA rfl rfl rfl rfl (by decide) rfl rfl (fun H locs hP hD hS => ?_)
    refine jif_ne (tgt := 23) hx hb dX10_wireOf_17 (by decide) hJ (fun hJ => ?_) (fun hJ => ?_)
    · refine lv_aload_n hx hb dX10_wireOf_23 rfl (lv_at hl 0 rfl) ?_
      refine lv_iload_n hx hb dX10_wireOf_24 rfl (lv_at hl 1 rfl) ?_
      refine lv_iload_n hx hb dX10_wireOf_25 rfl (lv_at hl 2 rfl) ?_
      obtain ⟨x26, hc26, hJ⟩ := bnd1_some hJ
      refine jcV_i (C := RX10) (T := TX10) (N := 24) (ci := 8) (q0 := 0) (As := [.int v1, .int v2]) (rest := []) (isC := [0, 1]) (isR := []) (isB := [0, 1]) (wr := []) (ws2 := [(q_t, .inr (8, [.ref q_t_now, .ref q_t_tried, .ref q_t_thought, .ref q_t_kept, .int t_undos, .ref q_t_saved, .int t_isSaved, .ref q_t_finds, .ref q_t_reach, .ref q_t_steps, .ref q_t_glows, .ref q_t_lower, .ref q_t_upper, .ref q_t_line, .int t_lined, .ref q_t_text, .int t_length, .int t_at, .int t_order, .ref q_t_told, .ref q_t_why, .ref q_t_more, .int t_whys, .int t_answer])), (q_t_now, .inl (cI, 133, .inl t_now))]) hF (c_X10_wired l D cI cJ cC cL q_t q_t_now q_t_tried q_t_thought q_t_kept q_t_saved q_t_finds q_t_reach q_t_steps q_t_glows q_t_lower q_t_upper q_t_line q_t_text q_t_told q_t_why q_t_more t_undos t_isSaved t_lined t_length t_at t_order t_whys t_answer t_now v1 v2 x26 hc26 H.size) (cwV 2 hts gX10_wireOf_X10_wired rfl rfl rfl (by decide +kernel) ⟨Nat.le_of_ble_eq_true rfl, Nat.le_of_ble_eq_true rfl⟩) rfl hl rfl (Nat.le_of_ble_eq_true rfl) dX10_wireOf_26 ⟨Nat.zero_le _, Nat.zero_le _⟩ hK hN KX_T trivial hP hD hS hA rfl rfl rfl rfl rfl rfl (by decide) rfl rfl (fun H locs hP hD hS => ?_)
      refine jif_ge (tgt := 37) hx hb dX10_wireOf_29 (by decide) hJ (fun hJ => ?_) (fun hJ => ?_)
      · refine lv_aload_n hx hb dX10_wireOf_37 rfl (lv_at hl 0 rfl) ?_
        refine lv_iload_n hx hb dX10_wireOf_38 rfl (lv_at hl 1 rfl) ?_
        refine lv_iload_n hx hb dX10_wireOf_39 rfl (lv_at hl 2 rfl) ?_
        obtain ⟨x40, hc40, hJ⟩ := bnd1_some hJ
        refine jcV_i (C := RX10) (T := TX10) (N := 24) (ci := 8) (q0 := 0) (As := [.int v1, .int v2]) (rest := []) (isC := [0, 1]) (isR := []) (isB := [0, 1]) (wr := []) (ws2 := [(q_t, .inr (8, [.ref q_t_now, .ref q_t_tried, .ref q_t_thought, .ref q_t_kept, .int t_undos, .ref q_t_saved, .int t_isSaved, .ref q_t_finds, .ref q_t_reach, .ref q_t_steps, .ref q_t_glows, .ref q_t_lower, .ref q_t_upper, .ref q_t_line, .int t_lined, .ref q_t_text, .int t_length, .int t_at, .int t_order, .ref q_t_told, .ref q_t_why, .ref q_t_more, .int t_whys, .int t_answer])), (q_t_now, .inl (cI, 133, .inl t_now))]) hF (c_X10_wired l D cI cJ cC cL q_t q_t_now q_t_tried q_t_thought q_t_kept q_t_saved q_t_finds q_t_reach q_t_steps q_t_glows q_t_lower q_t_upper q_t_line q_t_text q_t_told q_t_why q_t_more t_undos t_isSaved t_lined t_length t_at t_order t_whys t_answer t_now v1 v2 x40 hc40 H.size) (cwV 2 hts gX10_wireOf_X10_wired rfl rfl rfl (by decide +kernel) ⟨Nat.le_of_ble_eq_true rfl, Nat.le_of_ble_eq_true rfl⟩) rfl hl rfl (Nat.le_of_ble_eq_true rfl) dX10_wireOf_40 ⟨Nat.zero_le _, Nat.zero_le _⟩ hK hN KX_T trivial hP hD hS hA rfl rfl rfl rfl rfl rfl (by decide) rfl rfl (fun H locs hP hD hS => ?_)
        exact B43  x40  H locs  hP hD hS _ (lv_sub hl [] rfl) hJ
      · refine lv_bipush (v := (-15 : Int32)) hx hb dX10_wireOf_32 (by decide) ?_
        refine lv_goto (tgt := 43) hx hb dX10_wireOf_34 (by decide) ?_
        exact B43  (-15 : Int32)  H locs  hP hD hS _ (lv_sub hl [] rfl) hJ
    · refine lv_bipush (v := (-12 : Int32)) hx hb dX10_wireOf_20 (by decide) ?_
      have e0 := Option.some.inj hJ
      exact hRet hP hD hS e0 dX10_wireOf_22
  · refine lv_bipush (v := (-11 : Int32)) hx hb dX10_wireOf_8 (by decide) ?_
    have e0 := Option.some.inj hJ
    exact hRet hP hD hS e0 dX10_wireOf_10

def J_X10_leads (t_now : Nat → Int32) (t_reach : Nat → Int32) (v1 : Int32) : Option (Int32 × (Nat → Int32)) :=
    bnd1 (J_X10_isLantern t_now v1) fun x2 =>
    if x2 = 0 then (
    some ((-11 : Int32), t_reach))
    else (
    bnd1 (J_X10_reaches t_now t_reach) fun t_reach_12 =>
    chk v1 16 (
    nm (t_reach_12 v1.toNatClampNeg) fun x20 =>
    some (x20, t_reach_12)))
abbrev rmX10_leads : Room := { frames := 3, cells := 0, slots := 0, locals := 68 }
set_option maxHeartbeats 4000000 in
set_option maxRecDepth 100000 in
theorem c_X10_leads (l : Launch) (D : va_G) (cI cJ cC cL : ClassId) (q_t q_t_now q_t_tried q_t_thought q_t_kept q_t_saved q_t_finds q_t_reach q_t_steps q_t_glows q_t_lower q_t_upper q_t_line q_t_text q_t_told q_t_why q_t_more : Nat) (t_undos : Int32) (t_isSaved : Int32) (t_lined : Int32) (t_length : Int32) (t_at : Int32) (t_order : Int32) (t_whys : Int32) (t_answer : Int32) (t_now : Nat → Int32) (t_reach : Nat → Int32) (v1 : Int32) (r : Int32) (o_t_reach : Nat → Int32) (hJ : J_X10_leads t_now t_reach v1 = some (r, o_t_reach)) (sz : Nat) : Met l yX10_leads wsX10_leads rmX10_leads (va_Pc [.ref q_t, .int v1] (jpre XT D (tyL cI cJ cC cL) [(q_t, .inr (8, [.ref q_t_now, .ref q_t_tried, .ref q_t_thought, .ref q_t_kept, .int t_undos, .ref q_t_saved, .int t_isSaved, .ref q_t_finds, .ref q_t_reach, .ref q_t_steps, .ref q_t_glows, .ref q_t_lower, .ref q_t_upper, .ref q_t_line, .int t_lined, .ref q_t_text, .int t_length, .int t_at, .int t_order, .ref q_t_told, .ref q_t_why, .ref q_t_more, .int t_whys, .int t_answer])), (q_t_now, .inl (cI, 133, .inl t_now)), (q_t_reach, .inl (cI, 16, .inl t_reach))] sz)) (va_Qi (fun r' (_ : Unit) => r' = r) (fun _ t => jpost D (tyL cI cJ cC cL) (va_A [(q_t, .inr (8, [.ref q_t_now, .ref q_t_tried, .ref q_t_thought, .ref q_t_kept, .int t_undos, .ref q_t_saved, .int t_isSaved, .ref q_t_finds, .ref q_t_reach, .ref q_t_steps, .ref q_t_glows, .ref q_t_lower, .ref q_t_upper, .ref q_t_line, .int t_lined, .ref q_t_text, .int t_length, .int t_at, .int t_order, .ref q_t_told, .ref q_t_why, .ref q_t_more, .int t_whys, .int t_answer])), (q_t_now, .inl (cI, 133, .inl t_now)), (q_t_reach, .inl (cI, 16, .inl t_reach))] sz) [(q_t, .inr (8, [.ref q_t_now, .ref q_t_tried, .ref q_t_thought, .ref q_t_kept, .int t_undos, .ref q_t_saved, .int t_isSaved, .ref q_t_finds, .ref q_t_reach, .ref q_t_steps, .ref q_t_glows, .ref q_t_lower, .ref q_t_upper, .ref q_t_line, .int t_lined, .ref q_t_text, .int t_length, .int t_at, .int t_order, .ref q_t_told, .ref q_t_why, .ref q_t_more, .int t_whys, .int t_answer])), (q_t_now, .inl (cI, 133, .inl t_now)), (q_t_reach, .inl (cI, 16, .inl o_t_reach))] t) (va_A [(q_t, .inr (8, [.ref q_t_now, .ref q_t_tried, .ref q_t_thought, .ref q_t_kept, .int t_undos, .ref q_t_saved, .int t_isSaved, .ref q_t_finds, .ref q_t_reach, .ref q_t_steps, .ref q_t_glows, .ref q_t_lower, .ref q_t_upper, .ref q_t_line, .int t_lined, .ref q_t_text, .int t_length, .int t_at, .int t_order, .ref q_t_told, .ref q_t_why, .ref q_t_more, .int t_whys, .int t_answer])), (q_t_now, .inl (cI, 133, .inl t_now)), (q_t_reach, .inl (cI, 16, .inl t_reach))] sz)) 0 0 (va_A [(q_t, .inr (8, [.ref q_t_now, .ref q_t_tried, .ref q_t_thought, .ref q_t_kept, .int t_undos, .ref q_t_saved, .int t_isSaved, .ref q_t_finds, .ref q_t_reach, .ref q_t_steps, .ref q_t_glows, .ref q_t_lower, .ref q_t_upper, .ref q_t_line, .int t_lined, .ref q_t_text, .int t_length, .int t_at, .int t_order, .ref q_t_told, .ref q_t_why, .ref q_t_more, .int t_whys, .int t_answer])), (q_t_now, .inl (cI, 133, .inl t_now)), (q_t_reach, .inl (cI, 16, .inl t_reach))] sz) := by
  refine jE_i (cc := cX10_leads) (maxL := 2) (own := RX10) (ret := (some .int)) (lv0 := [(0, .ref q_t), (1, .int v1)]) (by decide) rfl rfl rfl (Nat.le_of_ble_eq_true rfl) rfl ?_
  intro p e s m args below meth c A Q ls hx hb hml hown hts hK hN hX hA hP hD hS hl hRet
  have hF : CallFix p m c cX10_leads 2 s args wsX10_leads RX10 := ⟨hx, hb, hml, hown, hts⟩
  have fl_28 := hts (.fieldLink RX10 28 "LanternLogicModel" "reach" "[I") (by decide +kernel)
  have hin_X10 : ∀ w ∈ u_ws RX10 TX10 24, w ∈ wsX10_leads := by decide +kernel
  unfold J_X10_leads at hJ
  refine lv_aload_n hx hb dX10_leads_0 rfl (lv_at hl 0 rfl) ?_
  refine lv_iload_n hx hb dX10_leads_1 rfl (lv_at hl 1 rfl) ?_
  obtain ⟨x2, hc2, hJ⟩ := bnd1_some hJ
  refine jcV_i (C := RX10) (T := TX10) (N := 24) (ci := 8) (q0 := 0) (As := [.int v1]) (rest := []) (isC := [0, 1]) (isR := [2]) (isB := [1, 2, 0]) (wr := [(q_t_reach, .inl (cI, 16, .inl t_reach))]) (ws2 := [(q_t, .inr (8, [.ref q_t_now, .ref q_t_tried, .ref q_t_thought, .ref q_t_kept, .int t_undos, .ref q_t_saved, .int t_isSaved, .ref q_t_finds, .ref q_t_reach, .ref q_t_steps, .ref q_t_glows, .ref q_t_lower, .ref q_t_upper, .ref q_t_line, .int t_lined, .ref q_t_text, .int t_length, .int t_at, .int t_order, .ref q_t_told, .ref q_t_why, .ref q_t_more, .int t_whys, .int t_answer])), (q_t_now, .inl (cI, 133, .inl t_now)), (q_t_reach, .inl (cI, 16, .inl t_reach))]) hF (c_X10_isLantern l D cI cJ cC cL q_t q_t_now q_t_tried q_t_thought q_t_kept q_t_saved q_t_finds q_t_reach q_t_steps q_t_glows q_t_lower q_t_upper q_t_line q_t_text q_t_told q_t_why q_t_more t_undos t_isSaved t_lined t_length t_at t_order t_whys t_answer t_now v1 x2 hc2 s.heap.size) (cwV 1 hts gX10_leads_X10_isLantern rfl rfl rfl (by decide +kernel) ⟨Nat.le_of_ble_eq_true rfl, Nat.le_of_ble_eq_true rfl⟩) rfl hl rfl (Nat.le_of_ble_eq_true rfl) dX10_leads_2 ⟨Nat.zero_le _, Nat.zero_le _⟩ hK hN KX_T trivial hP hD hS hA rfl rfl rfl rfl rfl rfl (by decide) rfl rfl (fun H locs hP hD hS => ?_)
  refine jif_ne (tgt := 11) hx hb dX10_leads_5 (by decide) hJ (fun hJ => ?_) (fun hJ => ?_)
  · refine lv_aload_n hx hb dX10_leads_11 rfl (lv_at hl 0 rfl) ?_
    obtain ⟨t_reach_12, hc12, hJ⟩ := bnd1_some hJ
    refine jcV_v (C := RX10) (T := TX10) (N := 24) (ci := 8) (q0 := 0) (As := []) (rest := []) (isC := [0, 1, 2]) (isR := []) (isB := [0, 1, 2]) (wr := []) (ws2 := [(q_t, .inr (8, [.ref q_t_now, .ref q_t_tried, .ref q_t_thought, .ref q_t_kept, .int t_undos, .ref q_t_saved, .int t_isSaved, .ref q_t_finds, .ref q_t_reach, .ref q_t_steps, .ref q_t_glows, .ref q_t_lower, .ref q_t_upper, .ref q_t_line, .int t_lined, .ref q_t_text, .int t_length, .int t_at, .int t_order, .ref q_t_told, .ref q_t_why, .ref q_t_more, .int t_whys, .int t_answer])), (q_t_now, .inl (cI, 133, .inl t_now)), (q_t_reach, .inl (cI, 16, .inl t_reach_12))]) hF (c_X10_reaches l D cI cJ cC cL q_t q_t_now q_t_tried q_t_thought q_t_kept q_t_saved q_t_finds q_t_reach q_t_steps q_t_glows q_t_lower q_t_upper q_t_line q_t_text q_t_told q_t_why q_t_more t_undos t_isSaved t_lined t_length t_at t_order t_whys t_answer t_now t_reach t_reach_12 hc12 H.size) (cwV 0 hts gX10_leads_X10_reaches rfl rfl rfl (by decide +kernel) ⟨Nat.le_of_ble_eq_true rfl, Nat.le_of_ble_eq_true rfl⟩) rfl hl rfl (Nat.le_of_ble_eq_true rfl) dX10_leads_12 ⟨Nat.zero_le _, Nat.zero_le _⟩ hK hN KX_T trivial hP hD hS hA rfl rfl rfl rfl rfl rfl (by decide) rfl rfl (fun H locs hP hD hS => ?_)
    refine lv_aload_n hx hb dX10_leads_15 rfl (lv_at hl 0 rfl) ?_
    refine va_get (ci := 8) (v := .ref q_t_reach) (C := RX10) (T := TX10) (N := 24) hx hb hts hin_X10 hown hK hP 0 rfl rfl 8 (by decide) fl_28 (fun _ h9 => h9) rfl dX10_leads_16 ?_
    refine lv_iload_n hx hb dX10_leads_19 rfl (lv_at hl 1 rfl) ?_
    obtain ⟨hin, hJ⟩ := chk_in hJ
    refine va_iald hx hb hK hP 2 0 rfl rfl hin dX10_leads_20 ?_
    refine jt_i hJ (fun x20 hJ => ?_)
    have hJ := Option.some.inj hJ
    obtain ⟨e0, e1⟩ : (x20) = r ∧ (t_reach_12) = o_t_reach := ⟨congrArg (fun z => z.1) hJ, congrArg (fun z => z.2) hJ⟩
    exact hRet (by rw [← e1]; exact hP) (by rw [← e1]; exact hD) hS e0 dX10_leads_21
  · refine lv_bipush (v := (-11 : Int32)) hx hb dX10_leads_8 (by decide) ?_
    have hJ := Option.some.inj hJ
    obtain ⟨e0, e1⟩ : ((-11 : Int32)) = r ∧ (t_reach) = o_t_reach := ⟨congrArg (fun z => z.1) hJ, congrArg (fun z => z.2) hJ⟩
    exact hRet (by rw [← e1]; exact hP) (by rw [← e1]; exact hD) hS e0 dX10_leads_10

def J_X10_looped (t_now : Nat → Int32) (t_reach : Nat → Int32) : Option (Int32 × (Nat → Int32)) :=
    bnd2 (J_X10_loopSet t_now t_reach) fun x1 t_reach_1 =>
    some (x1, t_reach_1)
abbrev rmX10_looped : Room := { frames := 4, cells := 0, slots := 0, locals := 90 }
set_option maxHeartbeats 4000000 in
set_option maxRecDepth 100000 in
theorem c_X10_looped (l : Launch) (D : va_G) (cI cJ cC cL : ClassId) (q_t q_t_now q_t_tried q_t_thought q_t_kept q_t_saved q_t_finds q_t_reach q_t_steps q_t_glows q_t_lower q_t_upper q_t_line q_t_text q_t_told q_t_why q_t_more : Nat) (t_undos : Int32) (t_isSaved : Int32) (t_lined : Int32) (t_length : Int32) (t_at : Int32) (t_order : Int32) (t_whys : Int32) (t_answer : Int32) (t_now : Nat → Int32) (t_reach : Nat → Int32) (r : Int32) (o_t_reach : Nat → Int32) (hJ : J_X10_looped t_now t_reach = some (r, o_t_reach)) (sz : Nat) : Met l yX10_looped wsX10_looped rmX10_looped (va_Pc [.ref q_t] (jpre XT D (tyL cI cJ cC cL) [(q_t, .inr (8, [.ref q_t_now, .ref q_t_tried, .ref q_t_thought, .ref q_t_kept, .int t_undos, .ref q_t_saved, .int t_isSaved, .ref q_t_finds, .ref q_t_reach, .ref q_t_steps, .ref q_t_glows, .ref q_t_lower, .ref q_t_upper, .ref q_t_line, .int t_lined, .ref q_t_text, .int t_length, .int t_at, .int t_order, .ref q_t_told, .ref q_t_why, .ref q_t_more, .int t_whys, .int t_answer])), (q_t_now, .inl (cI, 133, .inl t_now)), (q_t_reach, .inl (cI, 16, .inl t_reach))] sz)) (va_Qi (fun r' (_ : Unit) => r' = r) (fun _ t => jpost D (tyL cI cJ cC cL) (va_A [(q_t, .inr (8, [.ref q_t_now, .ref q_t_tried, .ref q_t_thought, .ref q_t_kept, .int t_undos, .ref q_t_saved, .int t_isSaved, .ref q_t_finds, .ref q_t_reach, .ref q_t_steps, .ref q_t_glows, .ref q_t_lower, .ref q_t_upper, .ref q_t_line, .int t_lined, .ref q_t_text, .int t_length, .int t_at, .int t_order, .ref q_t_told, .ref q_t_why, .ref q_t_more, .int t_whys, .int t_answer])), (q_t_now, .inl (cI, 133, .inl t_now)), (q_t_reach, .inl (cI, 16, .inl t_reach))] sz) [(q_t, .inr (8, [.ref q_t_now, .ref q_t_tried, .ref q_t_thought, .ref q_t_kept, .int t_undos, .ref q_t_saved, .int t_isSaved, .ref q_t_finds, .ref q_t_reach, .ref q_t_steps, .ref q_t_glows, .ref q_t_lower, .ref q_t_upper, .ref q_t_line, .int t_lined, .ref q_t_text, .int t_length, .int t_at, .int t_order, .ref q_t_told, .ref q_t_why, .ref q_t_more, .int t_whys, .int t_answer])), (q_t_now, .inl (cI, 133, .inl t_now)), (q_t_reach, .inl (cI, 16, .inl o_t_reach))] t) (va_A [(q_t, .inr (8, [.ref q_t_now, .ref q_t_tried, .ref q_t_thought, .ref q_t_kept, .int t_undos, .ref q_t_saved, .int t_isSaved, .ref q_t_finds, .ref q_t_reach, .ref q_t_steps, .ref q_t_glows, .ref q_t_lower, .ref q_t_upper, .ref q_t_line, .int t_lined, .ref q_t_text, .int t_length, .int t_at, .int t_order, .ref q_t_told, .ref q_t_why, .ref q_t_more, .int t_whys, .int t_answer])), (q_t_now, .inl (cI, 133, .inl t_now)), (q_t_reach, .inl (cI, 16, .inl t_reach))] sz)) 0 0 (va_A [(q_t, .inr (8, [.ref q_t_now, .ref q_t_tried, .ref q_t_thought, .ref q_t_kept, .int t_undos, .ref q_t_saved, .int t_isSaved, .ref q_t_finds, .ref q_t_reach, .ref q_t_steps, .ref q_t_glows, .ref q_t_lower, .ref q_t_upper, .ref q_t_line, .int t_lined, .ref q_t_text, .int t_length, .int t_at, .int t_order, .ref q_t_told, .ref q_t_why, .ref q_t_more, .int t_whys, .int t_answer])), (q_t_now, .inl (cI, 133, .inl t_now)), (q_t_reach, .inl (cI, 16, .inl t_reach))] sz) := by
  refine jE_i (cc := cX10_looped) (maxL := 1) (own := RX10) (ret := (some .int)) (lv0 := [(0, .ref q_t)]) (by decide) rfl rfl rfl (Nat.le_of_ble_eq_true rfl) rfl ?_
  intro p e s m args below meth c A Q ls hx hb hml hown hts hK hN hX hA hP hD hS hl hRet
  have hF : CallFix p m c cX10_looped 1 s args wsX10_looped RX10 := ⟨hx, hb, hml, hown, hts⟩
  unfold J_X10_looped at hJ
  refine lv_aload_n hx hb dX10_looped_0 rfl (lv_at hl 0 rfl) ?_
  obtain ⟨x1, t_reach_1, hc1, hJ⟩ := bnd2_some hJ
  refine jcV_i (C := RX10) (T := TX10) (N := 24) (ci := 8) (q0 := 0) (As := []) (rest := []) (isC := [0, 1, 2]) (isR := []) (isB := [0, 1, 2]) (wr := []) (ws2 := [(q_t, .inr (8, [.ref q_t_now, .ref q_t_tried, .ref q_t_thought, .ref q_t_kept, .int t_undos, .ref q_t_saved, .int t_isSaved, .ref q_t_finds, .ref q_t_reach, .ref q_t_steps, .ref q_t_glows, .ref q_t_lower, .ref q_t_upper, .ref q_t_line, .int t_lined, .ref q_t_text, .int t_length, .int t_at, .int t_order, .ref q_t_told, .ref q_t_why, .ref q_t_more, .int t_whys, .int t_answer])), (q_t_now, .inl (cI, 133, .inl t_now)), (q_t_reach, .inl (cI, 16, .inl t_reach_1))]) hF (c_X10_loopSet l D cI cJ cC cL q_t q_t_now q_t_tried q_t_thought q_t_kept q_t_saved q_t_finds q_t_reach q_t_steps q_t_glows q_t_lower q_t_upper q_t_line q_t_text q_t_told q_t_why q_t_more t_undos t_isSaved t_lined t_length t_at t_order t_whys t_answer t_now t_reach x1 t_reach_1 hc1 s.heap.size) (cwV 0 hts gX10_looped_X10_loopSet rfl rfl rfl (by decide +kernel) ⟨Nat.le_of_ble_eq_true rfl, Nat.le_of_ble_eq_true rfl⟩) rfl hl rfl (Nat.le_of_ble_eq_true rfl) dX10_looped_1 ⟨Nat.zero_le _, Nat.zero_le _⟩ hK hN KX_T trivial hP hD hS hA rfl rfl rfl rfl rfl rfl (by decide) rfl rfl (fun H locs hP hD hS => ?_)
  have hJ := Option.some.inj hJ
  obtain ⟨e0, e1⟩ : (x1) = r ∧ (t_reach_1) = o_t_reach := ⟨congrArg (fun z => z.1) hJ, congrArg (fun z => z.2) hJ⟩
  exact hRet (by rw [← e1]; exact hP) (by rw [← e1]; exact hD) hS e0 dX10_looped_4

def J_X10_rises_b43 (k14 : Int32 → Int32 → Option (Int32)) (slf : (Nat → Int32) → Int32 → Option (Int32)) (t_now : Nat → Int32) (v1 : Int32) (v2 : Int32) (v3 : Int32) : Option (Int32) :=
    nm (v3 + Int32.ofInt 1) fun x43 =>
    k14 v2 x43
def J_X10_rises_L14 (slf : (Nat → Int32) → Int32 → Option (Int32)) (t_now : Nat → Int32) (v1 : Int32) : Nat → Int32 → Int32 → Option (Int32)
  | 0, _, _ => none
  | nf + 1, v2, v3 =>
    if (3 : Int32) ≤ v3 then (
    bnd1 (J_X10_of t_now v1 (1 : Int32)) fun x53 =>
    some (v2 + x53))
    else (
    bnd1 (J_X10_wired t_now v1 v3) fun x22 =>
    if x22 < 0 then (
    J_X10_rises_b43 (fun z0 z1 => J_X10_rises_L14 slf t_now v1 nf z0 z1) slf t_now v1 v2 v3)
    else (
    bnd1 (J_X10_wired t_now v1 v3) fun x33 =>
    bnd1 (slf t_now x33) fun x36 =>
    nm (if v2 < x36 then x36 else v2) fun x39 =>
    J_X10_rises_b43 (fun z0 z1 => J_X10_rises_L14 slf t_now v1 nf z0 z1) slf t_now v1 x39 v3))
def J_X10_rises_top (slf : (Nat → Int32) → Int32 → Option (Int32)) (t_now : Nat → Int32) (v1 : Int32) : Option (Int32) :=
    bnd1 (J_X10_isSwitch t_now v1) fun x2 =>
    if x2 = 0 then (
    J_X10_rises_L14 slf t_now v1 FU (0 : Int32) (0 : Int32))
    else (
    some ((0 : Int32)))
def J_X10_rises : Nat → (Nat → Int32) → Int32 → Option (Int32)
  | 0, _, _ => none
  | dp + 1, t_now, v1 => J_X10_rises_top (fun t_now v1 => J_X10_rises dp t_now v1) t_now v1
def rmX10_rises (d : Nat) : Room := { frames := 2 + d, cells := 0, slots := 0, locals := 44 + 23 * d }
set_option maxHeartbeats 4000000 in
set_option maxRecDepth 100000 in
theorem c_X10_rises_all (l : Launch) (D : va_G) (cI cJ cC cL : ClassId) (q_t q_t_now q_t_tried q_t_thought q_t_kept q_t_saved q_t_finds q_t_reach q_t_steps q_t_glows q_t_lower q_t_upper q_t_line q_t_text q_t_told q_t_why q_t_more : Nat) : ∀ (dp : Nat) (t_undos : Int32) (t_isSaved : Int32) (t_lined : Int32) (t_length : Int32) (t_at : Int32) (t_order : Int32) (t_whys : Int32) (t_answer : Int32) (t_now : Nat → Int32) (v1 : Int32) (r : Int32) (hJ : J_X10_rises dp t_now v1 = some (r)) (sz : Nat), Met l yX10_rises wsX10_rises (rmX10_rises dp) (va_Pc [.ref q_t, .int v1] (jpre XT D (tyL cI cJ cC cL) [(q_t, .inr (8, [.ref q_t_now, .ref q_t_tried, .ref q_t_thought, .ref q_t_kept, .int t_undos, .ref q_t_saved, .int t_isSaved, .ref q_t_finds, .ref q_t_reach, .ref q_t_steps, .ref q_t_glows, .ref q_t_lower, .ref q_t_upper, .ref q_t_line, .int t_lined, .ref q_t_text, .int t_length, .int t_at, .int t_order, .ref q_t_told, .ref q_t_why, .ref q_t_more, .int t_whys, .int t_answer])), (q_t_now, .inl (cI, 133, .inl t_now))] sz)) (va_Qi (fun r' (_ : Unit) => r' = r) (fun _ t => jpost D (tyL cI cJ cC cL) (va_A [(q_t, .inr (8, [.ref q_t_now, .ref q_t_tried, .ref q_t_thought, .ref q_t_kept, .int t_undos, .ref q_t_saved, .int t_isSaved, .ref q_t_finds, .ref q_t_reach, .ref q_t_steps, .ref q_t_glows, .ref q_t_lower, .ref q_t_upper, .ref q_t_line, .int t_lined, .ref q_t_text, .int t_length, .int t_at, .int t_order, .ref q_t_told, .ref q_t_why, .ref q_t_more, .int t_whys, .int t_answer])), (q_t_now, .inl (cI, 133, .inl t_now))] sz) [(q_t, .inr (8, [.ref q_t_now, .ref q_t_tried, .ref q_t_thought, .ref q_t_kept, .int t_undos, .ref q_t_saved, .int t_isSaved, .ref q_t_finds, .ref q_t_reach, .ref q_t_steps, .ref q_t_glows, .ref q_t_lower, .ref q_t_upper, .ref q_t_line, .int t_lined, .ref q_t_text, .int t_length, .int t_at, .int t_order, .ref q_t_told, .ref q_t_why, .ref q_t_more, .int t_whys, .int t_answer])), (q_t_now, .inl (cI, 133, .inl t_now))] t) (va_A [(q_t, .inr (8, [.ref q_t_now, .ref q_t_tried, .ref q_t_thought, .ref q_t_kept, .int t_undos, .ref q_t_saved, .int t_isSaved, .ref q_t_finds, .ref q_t_reach, .ref q_t_steps, .ref q_t_glows, .ref q_t_lower, .ref q_t_upper, .ref q_t_line, .int t_lined, .ref q_t_text, .int t_length, .int t_at, .int t_order, .ref q_t_told, .ref q_t_why, .ref q_t_more, .int t_whys, .int t_answer])), (q_t_now, .inl (cI, 133, .inl t_now))] sz)) 0 0 (va_A [(q_t, .inr (8, [.ref q_t_now, .ref q_t_tried, .ref q_t_thought, .ref q_t_kept, .int t_undos, .ref q_t_saved, .int t_isSaved, .ref q_t_finds, .ref q_t_reach, .ref q_t_steps, .ref q_t_glows, .ref q_t_lower, .ref q_t_upper, .ref q_t_line, .int t_lined, .ref q_t_text, .int t_length, .int t_at, .int t_order, .ref q_t_told, .ref q_t_why, .ref q_t_more, .int t_whys, .int t_answer])), (q_t_now, .inl (cI, 133, .inl t_now))] sz) := by
  intro dp
  induction dp with
  | zero =>
    intro t_undos t_isSaved t_lined t_length t_at t_order t_whys t_answer t_now v1 r hJ sz
    rw [J_X10_rises] at hJ
    cases hJ
  | succ dp ih =>
    intro t_undos t_isSaved t_lined t_length t_at t_order t_whys t_answer t_now v1 r hJ sz
    rw [J_X10_rises] at hJ
    obtain ⟨slf, hslfe⟩ : ∃ f : (Nat → Int32) → Int32 → Option (Int32), f = (fun t_now v1 => J_X10_rises dp t_now v1) := ⟨_, rfl⟩
    rw [← hslfe] at hJ
    have hslf : ∀ (t_undos : Int32) (t_isSaved : Int32) (t_lined : Int32) (t_length : Int32) (t_at : Int32) (t_order : Int32) (t_whys : Int32) (t_answer : Int32) (t_now : Nat → Int32) (v1 : Int32) (r : Int32) (hJ : slf t_now v1 = some (r)) (sz : Nat), Met l yX10_rises wsX10_rises (rmX10_rises dp) (va_Pc [.ref q_t, .int v1] (jpre XT D (tyL cI cJ cC cL) [(q_t, .inr (8, [.ref q_t_now, .ref q_t_tried, .ref q_t_thought, .ref q_t_kept, .int t_undos, .ref q_t_saved, .int t_isSaved, .ref q_t_finds, .ref q_t_reach, .ref q_t_steps, .ref q_t_glows, .ref q_t_lower, .ref q_t_upper, .ref q_t_line, .int t_lined, .ref q_t_text, .int t_length, .int t_at, .int t_order, .ref q_t_told, .ref q_t_why, .ref q_t_more, .int t_whys, .int t_answer])), (q_t_now, .inl (cI, 133, .inl t_now))] sz)) (va_Qi (fun r' (_ : Unit) => r' = r) (fun _ t => jpost D (tyL cI cJ cC cL) (va_A [(q_t, .inr (8, [.ref q_t_now, .ref q_t_tried, .ref q_t_thought, .ref q_t_kept, .int t_undos, .ref q_t_saved, .int t_isSaved, .ref q_t_finds, .ref q_t_reach, .ref q_t_steps, .ref q_t_glows, .ref q_t_lower, .ref q_t_upper, .ref q_t_line, .int t_lined, .ref q_t_text, .int t_length, .int t_at, .int t_order, .ref q_t_told, .ref q_t_why, .ref q_t_more, .int t_whys, .int t_answer])), (q_t_now, .inl (cI, 133, .inl t_now))] sz) [(q_t, .inr (8, [.ref q_t_now, .ref q_t_tried, .ref q_t_thought, .ref q_t_kept, .int t_undos, .ref q_t_saved, .int t_isSaved, .ref q_t_finds, .ref q_t_reach, .ref q_t_steps, .ref q_t_glows, .ref q_t_lower, .ref q_t_upper, .ref q_t_line, .int t_lined, .ref q_t_text, .int t_length, .int t_at, .int t_order, .ref q_t_told, .ref q_t_why, .ref q_t_more, .int t_whys, .int t_answer])), (q_t_now, .inl (cI, 133, .inl t_now))] t) (va_A [(q_t, .inr (8, [.ref q_t_now, .ref q_t_tried, .ref q_t_thought, .ref q_t_kept, .int t_undos, .ref q_t_saved, .int t_isSaved, .ref q_t_finds, .ref q_t_reach, .ref q_t_steps, .ref q_t_glows, .ref q_t_lower, .ref q_t_upper, .ref q_t_line, .int t_lined, .ref q_t_text, .int t_length, .int t_at, .int t_order, .ref q_t_told, .ref q_t_why, .ref q_t_more, .int t_whys, .int t_answer])), (q_t_now, .inl (cI, 133, .inl t_now))] sz)) 0 0 (va_A [(q_t, .inr (8, [.ref q_t_now, .ref q_t_tried, .ref q_t_thought, .ref q_t_kept, .int t_undos, .ref q_t_saved, .int t_isSaved, .ref q_t_finds, .ref q_t_reach, .ref q_t_steps, .ref q_t_glows, .ref q_t_lower, .ref q_t_upper, .ref q_t_line, .int t_lined, .ref q_t_text, .int t_length, .int t_at, .int t_order, .ref q_t_told, .ref q_t_why, .ref q_t_more, .int t_whys, .int t_answer])), (q_t_now, .inl (cI, 133, .inl t_now))] sz) := by
      intro t_undos t_isSaved t_lined t_length t_at t_order t_whys t_answer t_now v1 r hJ sz
      rw [hslfe] at hJ
      exact ih t_undos t_isSaved t_lined t_length t_at t_order t_whys t_answer t_now v1 r hJ sz
    clear hslfe ih
    refine jE_i (cc := cX10_rises) (maxL := 4) (own := RX10) (ret := (some .int)) (lv0 := [(0, .ref q_t), (1, .int v1)]) (by decide) rfl rfl rfl (Nat.le_of_ble_eq_true rfl) rfl ?_
    intro p e s m args below meth c A Q ls hx hb hml hown hts hK hN hX hA hP hD hS hl hRet
    have hF : CallFix p m c cX10_rises 4 s args wsX10_rises RX10 := ⟨hx, hb, hml, hown, hts⟩
    have B43 : ∀ (k14 : Int32 → Int32 → Option (Int32)), (∀ (v2 : Int32) (v3 : Int32) (H : Heap) (locs : List Loc), va_P D vwCl [(q_t, .inr (8, [.ref q_t_now, .ref q_t_tried, .ref q_t_thought, .ref q_t_kept, .int t_undos, .ref q_t_saved, .int t_isSaved, .ref q_t_finds, .ref q_t_reach, .ref q_t_steps, .ref q_t_glows, .ref q_t_lower, .ref q_t_upper, .ref q_t_line, .int t_lined, .ref q_t_text, .int t_length, .int t_at, .int t_order, .ref q_t_told, .ref q_t_why, .ref q_t_more, .int t_whys, .int t_answer])), (q_t_now, .inl (cI, 133, .inl t_now))] H → va_D A [(q_t, .inr (8, [.ref q_t_now, .ref q_t_tried, .ref q_t_thought, .ref q_t_kept, .int t_undos, .ref q_t_saved, .int t_isSaved, .ref q_t_finds, .ref q_t_reach, .ref q_t_steps, .ref q_t_glows, .ref q_t_lower, .ref q_t_upper, .ref q_t_line, .int t_lined, .ref q_t_text, .int t_length, .int t_at, .int t_order, .ref q_t_told, .ref q_t_why, .ref q_t_more, .int t_whys, .int t_answer])), (q_t_now, .inl (cI, 133, .inl t_now))] → va_S A s.heap H locs → ∀ ls : Array Slot, lv_has ls 4 [(0, .ref q_t), (1, .int v1), (2, .int v2), (3, .int v3)] → k14 v2 v3 = some (r) → W p l e (rmX10_rises (dp + 1)) s m args below meth c H locs 0 0 Q (F0 m 14 ls [])) → ∀ (v2 : Int32) (v3 : Int32) (H : Heap) (locs : List Loc), va_P D vwCl [(q_t, .inr (8, [.ref q_t_now, .ref q_t_tried, .ref q_t_thought, .ref q_t_kept, .int t_undos, .ref q_t_saved, .int t_isSaved, .ref q_t_finds, .ref q_t_reach, .ref q_t_steps, .ref q_t_glows, .ref q_t_lower, .ref q_t_upper, .ref q_t_line, .int t_lined, .ref q_t_text, .int t_length, .int t_at, .int t_order, .ref q_t_told, .ref q_t_why, .ref q_t_more, .int t_whys, .int t_answer])), (q_t_now, .inl (cI, 133, .inl t_now))] H → va_D A [(q_t, .inr (8, [.ref q_t_now, .ref q_t_tried, .ref q_t_thought, .ref q_t_kept, .int t_undos, .ref q_t_saved, .int t_isSaved, .ref q_t_finds, .ref q_t_reach, .ref q_t_steps, .ref q_t_glows, .ref q_t_lower, .ref q_t_upper, .ref q_t_line, .int t_lined, .ref q_t_text, .int t_length, .int t_at, .int t_order, .ref q_t_told, .ref q_t_why, .ref q_t_more, .int t_whys, .int t_answer])), (q_t_now, .inl (cI, 133, .inl t_now))] → va_S A s.heap H locs → ∀ ls : Array Slot, lv_has ls 4 [(0, .ref q_t), (1, .int v1), (2, .int v2), (3, .int v3)] → J_X10_rises_b43 k14 slf t_now v1 v2 v3 = some (r) → W p l e (rmX10_rises (dp + 1)) s m args below meth c H locs 0 0 Q (F0 m 43 ls []) := by
      intro k14 hk14 v2 v3 H locs hP hD hS ls hl hJ
      unfold J_X10_rises_b43 at hJ
      refine jt_iinc hJ (fun x43 ex43 hJ => ?_)
      refine lv_iinc (v := x43) (lv' := [(3, .int x43), (0, .ref q_t), (1, .int v1), (2, .int v2)]) hx hb dX10_rises_43 hl (k := 3) rfl ex43 (by decide) rfl (fun ls hl => ?_)
      refine lv_goto (tgt := 14) hx hb dX10_rises_46 (by decide) ?_
      exact hk14 v2 x43  H locs  hP hD hS _ (lv_sub hl [1, 2, 3, 0] rfl) hJ
    have L14 : ∀ (nf : Nat), ∀ (v2 : Int32) (v3 : Int32) (H : Heap) (locs : List Loc), va_P D vwCl [(q_t, .inr (8, [.ref q_t_now, .ref q_t_tried, .ref q_t_thought, .ref q_t_kept, .int t_undos, .ref q_t_saved, .int t_isSaved, .ref q_t_finds, .ref q_t_reach, .ref q_t_steps, .ref q_t_glows, .ref q_t_lower, .ref q_t_upper, .ref q_t_line, .int t_lined, .ref q_t_text, .int t_length, .int t_at, .int t_order, .ref q_t_told, .ref q_t_why, .ref q_t_more, .int t_whys, .int t_answer])), (q_t_now, .inl (cI, 133, .inl t_now))] H → va_D A [(q_t, .inr (8, [.ref q_t_now, .ref q_t_tried, .ref q_t_thought, .ref q_t_kept, .int t_undos, .ref q_t_saved, .int t_isSaved, .ref q_t_finds, .ref q_t_reach, .ref q_t_steps, .ref q_t_glows, .ref q_t_lower, .ref q_t_upper, .ref q_t_line, .int t_lined, .ref q_t_text, .int t_length, .int t_at, .int t_order, .ref q_t_told, .ref q_t_why, .ref q_t_more, .int t_whys, .int t_answer])), (q_t_now, .inl (cI, 133, .inl t_now))] → va_S A s.heap H locs → ∀ ls : Array Slot, lv_has ls 4 [(0, .ref q_t), (1, .int v1), (2, .int v2), (3, .int v3)] → J_X10_rises_L14  slf t_now v1 nf v2 v3 = some (r) → W p l e (rmX10_rises (dp + 1)) s m args below meth c H locs 0 0 Q (F0 m 14 ls []) := by
      intro nf
      induction nf with
      | zero =>
        intro v2 v3 H locs hP hD hS ls hl hJ
        rw [J_X10_rises_L14] at hJ
        cases hJ
      | succ nf ih =>
        intro v2 v3 H locs hP hD hS ls hl hJ
        rw [J_X10_rises_L14] at hJ
        refine lv_iload_n hx hb dX10_rises_14 rfl (lv_at hl 3 rfl) ?_
        refine lv_iconst (v := (3 : Int32)) hx hb dX10_rises_15 (by decide) ?_
        refine jif_icmp_ge (tgt := 49) hx hb dX10_rises_16 (by decide) hJ (fun hJ => ?_) (fun hJ => ?_)
        · refine lv_iload_n hx hb dX10_rises_49 rfl (lv_at hl 2 rfl) ?_
          refine lv_aload_n hx hb dX10_rises_50 rfl (lv_at hl 0 rfl) ?_
          refine lv_iload_n hx hb dX10_rises_51 rfl (lv_at hl 1 rfl) ?_
          refine lv_iconst (v := (1 : Int32)) hx hb dX10_rises_52 (by decide) ?_
          obtain ⟨x53, hc53, hJ⟩ := bnd1_some hJ
          refine jcV_i (C := RX10) (T := TX10) (N := 24) (ci := 8) (q0 := 0) (As := [.int v1, .int (1 : Int32)]) (rest := [.int v2]) (isC := [0, 1]) (isR := []) (isB := [0, 1]) (wr := []) (ws2 := [(q_t, .inr (8, [.ref q_t_now, .ref q_t_tried, .ref q_t_thought, .ref q_t_kept, .int t_undos, .ref q_t_saved, .int t_isSaved, .ref q_t_finds, .ref q_t_reach, .ref q_t_steps, .ref q_t_glows, .ref q_t_lower, .ref q_t_upper, .ref q_t_line, .int t_lined, .ref q_t_text, .int t_length, .int t_at, .int t_order, .ref q_t_told, .ref q_t_why, .ref q_t_more, .int t_whys, .int t_answer])), (q_t_now, .inl (cI, 133, .inl t_now))]) hF (c_X10_of l D cI cJ cC cL q_t q_t_now q_t_tried q_t_thought q_t_kept q_t_saved q_t_finds q_t_reach q_t_steps q_t_glows q_t_lower q_t_upper q_t_line q_t_text q_t_told q_t_why q_t_more t_undos t_isSaved t_lined t_length t_at t_order t_whys t_answer t_now v1 (1 : Int32) x53 hc53 H.size) (cwV 2 hts gX10_rises_X10_of rfl rfl rfl (by decide +kernel) (by simp only [rmX10_rises, rmX10_of]; omega)) rfl hl rfl (Nat.le_of_ble_eq_true rfl) dX10_rises_53 ⟨Nat.zero_le _, Nat.zero_le _⟩ hK hN KX_T trivial hP hD hS hA rfl rfl rfl rfl rfl rfl (by decide) rfl rfl (fun H locs hP hD hS => ?_)
          refine lv_iadd hx hb dX10_rises_56 ?_
          have e0 := Option.some.inj hJ
          exact hRet hP hD hS e0 dX10_rises_57
        · refine lv_aload_n hx hb dX10_rises_19 rfl (lv_at hl 0 rfl) ?_
          refine lv_iload_n hx hb dX10_rises_20 rfl (lv_at hl 1 rfl) ?_
          refine lv_iload_n hx hb dX10_rises_21 rfl (lv_at hl 3 rfl) ?_
          obtain ⟨x22, hc22, hJ⟩ := bnd1_some hJ
          refine jcV_i (C := RX10) (T := TX10) (N := 24) (ci := 8) (q0 := 0) (As := [.int v1, .int v3]) (rest := []) (isC := [0, 1]) (isR := []) (isB := [0, 1]) (wr := []) (ws2 := [(q_t, .inr (8, [.ref q_t_now, .ref q_t_tried, .ref q_t_thought, .ref q_t_kept, .int t_undos, .ref q_t_saved, .int t_isSaved, .ref q_t_finds, .ref q_t_reach, .ref q_t_steps, .ref q_t_glows, .ref q_t_lower, .ref q_t_upper, .ref q_t_line, .int t_lined, .ref q_t_text, .int t_length, .int t_at, .int t_order, .ref q_t_told, .ref q_t_why, .ref q_t_more, .int t_whys, .int t_answer])), (q_t_now, .inl (cI, 133, .inl t_now))]) hF (c_X10_wired l D cI cJ cC cL q_t q_t_now q_t_tried q_t_thought q_t_kept q_t_saved q_t_finds q_t_reach q_t_steps q_t_glows q_t_lower q_t_upper q_t_line q_t_text q_t_told q_t_why q_t_more t_undos t_isSaved t_lined t_length t_at t_order t_whys t_answer t_now v1 v3 x22 hc22 H.size) (cwV 2 hts gX10_rises_X10_wired rfl rfl rfl (by decide +kernel) (by simp only [rmX10_rises, rmX10_wired]; omega)) rfl hl rfl (Nat.le_of_ble_eq_true rfl) dX10_rises_22 ⟨Nat.zero_le _, Nat.zero_le _⟩ hK hN KX_T trivial hP hD hS hA rfl rfl rfl rfl rfl rfl (by decide) rfl rfl (fun H locs hP hD hS => ?_)
          refine jif_lt (tgt := 43) hx hb dX10_rises_25 (by decide) hJ (fun hJ => ?_) (fun hJ => ?_)
          · exact B43 (fun z0 z1 => J_X10_rises_L14 slf t_now v1 nf z0 z1) ih v2 v3  H locs  hP hD hS _ (lv_sub hl [0, 1, 2, 3] rfl) hJ
          · refine lv_iload_n hx hb dX10_rises_28 rfl (lv_at hl 2 rfl) ?_
            refine lv_aload_n hx hb dX10_rises_29 rfl (lv_at hl 0 rfl) ?_
            refine lv_aload_n hx hb dX10_rises_30 rfl (lv_at hl 0 rfl) ?_
            refine lv_iload_n hx hb dX10_rises_31 rfl (lv_at hl 1 rfl) ?_
            refine lv_iload_n hx hb dX10_rises_32 rfl (lv_at hl 3 rfl) ?_
            obtain ⟨x33, hc33, hJ⟩ := bnd1_some hJ
            refine jcV_i (C := RX10) (T := TX10) (N := 24) (ci := 8) (q0 := 0) (As := [.int v1, .int v3]) (rest := [.ref q_t, .int v2]) (isC := [0, 1]) (isR := []) (isB := [0, 1]) (wr := []) (ws2 := [(q_t, .inr (8, [.ref q_t_now, .ref q_t_tried, .ref q_t_thought, .ref q_t_kept, .int t_undos, .ref q_t_saved, .int t_isSaved, .ref q_t_finds, .ref q_t_reach, .ref q_t_steps, .ref q_t_glows, .ref q_t_lower, .ref q_t_upper, .ref q_t_line, .int t_lined, .ref q_t_text, .int t_length, .int t_at, .int t_order, .ref q_t_told, .ref q_t_why, .ref q_t_more, .int t_whys, .int t_answer])), (q_t_now, .inl (cI, 133, .inl t_now))]) hF (c_X10_wired l D cI cJ cC cL q_t q_t_now q_t_tried q_t_thought q_t_kept q_t_saved q_t_finds q_t_reach q_t_steps q_t_glows q_t_lower q_t_upper q_t_line q_t_text q_t_told q_t_why q_t_more t_undos t_isSaved t_lined t_length t_at t_order t_whys t_answer t_now v1 v3 x33 hc33 H.size) (cwV 2 hts gX10_rises_X10_wired rfl rfl rfl (by decide +kernel) (by simp only [rmX10_rises, rmX10_wired]; omega)) rfl hl rfl (Nat.le_of_ble_eq_true rfl) dX10_rises_33 ⟨Nat.zero_le _, Nat.zero_le _⟩ hK hN KX_T trivial hP hD hS hA rfl rfl rfl rfl rfl rfl (by decide) rfl rfl (fun H locs hP hD hS => ?_)
            obtain ⟨x36, hc36, hJ⟩ := bnd1_some hJ
            refine jcV_i (C := RX10) (T := TX10) (N := 24) (ci := 8) (q0 := 0) (As := [.int x33]) (rest := [.int v2]) (isC := [0, 1]) (isR := []) (isB := [0, 1]) (wr := []) (ws2 := [(q_t, .inr (8, [.ref q_t_now, .ref q_t_tried, .ref q_t_thought, .ref q_t_kept, .int t_undos, .ref q_t_saved, .int t_isSaved, .ref q_t_finds, .ref q_t_reach, .ref q_t_steps, .ref q_t_glows, .ref q_t_lower, .ref q_t_upper, .ref q_t_line, .int t_lined, .ref q_t_text, .int t_length, .int t_at, .int t_order, .ref q_t_told, .ref q_t_why, .ref q_t_more, .int t_whys, .int t_answer])), (q_t_now, .inl (cI, 133, .inl t_now))]) hF (hslf t_undos t_isSaved t_lined t_length t_at t_order t_whys t_answer t_now x33 x36 hc36 H.size) (cwV 1 hts gX10_rises_X10_rises rfl rfl rfl (by decide +kernel) (by simp only [rmX10_rises]; omega)) rfl hl rfl (Nat.le_of_ble_eq_true rfl) dX10_rises_36 ⟨Nat.zero_le _, Nat.zero_le _⟩ hK hN KX_T trivial hP hD hS hA rfl rfl rfl rfl rfl rfl (by decide) rfl rfl (fun H locs hP hD hS => ?_)
            refine va_mmax hx hb (hml.trans hl.1.symm) hown (hts (.methodLink RX10 177 Lib.Math.max.name) (by decide +kernel)) (hts (.static Lib.Math.max.name) (by decide +kernel)) (hts (.initialized "java/lang/Math") (by decide +kernel)) (hts (.code Lib.Math.max.name Lib.Math.max.code 2 (some .int)) (by decide +kernel)) (by simp only [rmX10_rises]; omega) (by show _ ≤ _; simp only [rmX10_rises, List.map, List.sum_cons, List.sum_nil, Value.category]; omega) (Nat.zero_le _) (Nat.zero_le _) dX10_rises_39 ?_
            refine jt_i hJ (fun x39 hJ => ?_)
            refine lv_istore_n (lv' := [(2, .int x39), (0, .ref q_t), (1, .int v1), (3, .int v3)]) hx hb dX10_rises_42 rfl hl (by decide) rfl (fun ls hl => ?_)
            exact B43 (fun z0 z1 => J_X10_rises_L14 slf t_now v1 nf z0 z1) ih x39 v3  H locs  hP hD hS _ (lv_sub hl [1, 2, 0, 3] rfl) hJ
    unfold J_X10_rises_top at hJ
    refine lv_aload_n hx hb dX10_rises_0 rfl (lv_at hl 0 rfl) ?_
    refine lv_iload_n hx hb dX10_rises_1 rfl (lv_at hl 1 rfl) ?_
    obtain ⟨x2, hc2, hJ⟩ := bnd1_some hJ
    refine jcV_i (C := RX10) (T := TX10) (N := 24) (ci := 8) (q0 := 0) (As := [.int v1]) (rest := []) (isC := [0, 1]) (isR := []) (isB := [0, 1]) (wr := []) (ws2 := [(q_t, .inr (8, [.ref q_t_now, .ref q_t_tried, .ref q_t_thought, .ref q_t_kept, .int t_undos, .ref q_t_saved, .int t_isSaved, .ref q_t_finds, .ref q_t_reach, .ref q_t_steps, .ref q_t_glows, .ref q_t_lower, .ref q_t_upper, .ref q_t_line, .int t_lined, .ref q_t_text, .int t_length, .int t_at, .int t_order, .ref q_t_told, .ref q_t_why, .ref q_t_more, .int t_whys, .int t_answer])), (q_t_now, .inl (cI, 133, .inl t_now))]) hF (c_X10_isSwitch l D cI cJ cC cL q_t q_t_now q_t_tried q_t_thought q_t_kept q_t_saved q_t_finds q_t_reach q_t_steps q_t_glows q_t_lower q_t_upper q_t_line q_t_text q_t_told q_t_why q_t_more t_undos t_isSaved t_lined t_length t_at t_order t_whys t_answer t_now v1 x2 hc2 s.heap.size) (cwV 1 hts gX10_rises_X10_isSwitch rfl rfl rfl (by decide +kernel) (by simp only [rmX10_rises, rmX10_isSwitch]; omega)) rfl hl rfl (Nat.le_of_ble_eq_true rfl) dX10_rises_2 ⟨Nat.zero_le _, Nat.zero_le _⟩ hK hN KX_T trivial hP hD hS hA rfl rfl rfl rfl rfl rfl (by decide) rfl rfl (fun H locs hP hD hS => ?_)
    refine jif_eq (tgt := 10) hx hb dX10_rises_5 (by decide) hJ (fun hJ => ?_) (fun hJ => ?_)
    · refine lv_iconst (v := (0 : Int32)) hx hb dX10_rises_10 (by decide) ?_
      refine lv_istore_n (lv' := [(2, .int (0 : Int32)), (0, .ref q_t), (1, .int v1)]) hx hb dX10_rises_11 rfl hl (by decide) rfl (fun ls hl => ?_)
      refine lv_iconst (v := (0 : Int32)) hx hb dX10_rises_12 (by decide) ?_
      refine lv_istore_n (lv' := [(3, .int (0 : Int32)), (2, .int (0 : Int32)), (0, .ref q_t), (1, .int v1)]) hx hb dX10_rises_13 rfl hl (by decide) rfl (fun ls hl => ?_)
      exact L14  FU (0 : Int32) (0 : Int32)  H locs  hP hD hS _ (lv_sub hl [2, 3, 1, 0] rfl) hJ
    · refine lv_iconst (v := (0 : Int32)) hx hb dX10_rises_8 (by decide) ?_
      have e0 := Option.some.inj hJ
      exact hRet hP hD hS e0 dX10_rises_9
theorem c_X10_rises (l : Launch) (D : va_G) (cI cJ cC cL : ClassId) (q_t q_t_now q_t_tried q_t_thought q_t_kept q_t_saved q_t_finds q_t_reach q_t_steps q_t_glows q_t_lower q_t_upper q_t_line q_t_text q_t_told q_t_why q_t_more : Nat) (t_undos : Int32) (t_isSaved : Int32) (t_lined : Int32) (t_length : Int32) (t_at : Int32) (t_order : Int32) (t_whys : Int32) (t_answer : Int32) (t_now : Nat → Int32) (v1 : Int32) (r : Int32) (hJ : J_X10_rises 20 t_now v1 = some (r)) (sz : Nat) : Met l yX10_rises wsX10_rises (rmX10_rises 20) (va_Pc [.ref q_t, .int v1] (jpre XT D (tyL cI cJ cC cL) [(q_t, .inr (8, [.ref q_t_now, .ref q_t_tried, .ref q_t_thought, .ref q_t_kept, .int t_undos, .ref q_t_saved, .int t_isSaved, .ref q_t_finds, .ref q_t_reach, .ref q_t_steps, .ref q_t_glows, .ref q_t_lower, .ref q_t_upper, .ref q_t_line, .int t_lined, .ref q_t_text, .int t_length, .int t_at, .int t_order, .ref q_t_told, .ref q_t_why, .ref q_t_more, .int t_whys, .int t_answer])), (q_t_now, .inl (cI, 133, .inl t_now))] sz)) (va_Qi (fun r' (_ : Unit) => r' = r) (fun _ t => jpost D (tyL cI cJ cC cL) (va_A [(q_t, .inr (8, [.ref q_t_now, .ref q_t_tried, .ref q_t_thought, .ref q_t_kept, .int t_undos, .ref q_t_saved, .int t_isSaved, .ref q_t_finds, .ref q_t_reach, .ref q_t_steps, .ref q_t_glows, .ref q_t_lower, .ref q_t_upper, .ref q_t_line, .int t_lined, .ref q_t_text, .int t_length, .int t_at, .int t_order, .ref q_t_told, .ref q_t_why, .ref q_t_more, .int t_whys, .int t_answer])), (q_t_now, .inl (cI, 133, .inl t_now))] sz) [(q_t, .inr (8, [.ref q_t_now, .ref q_t_tried, .ref q_t_thought, .ref q_t_kept, .int t_undos, .ref q_t_saved, .int t_isSaved, .ref q_t_finds, .ref q_t_reach, .ref q_t_steps, .ref q_t_glows, .ref q_t_lower, .ref q_t_upper, .ref q_t_line, .int t_lined, .ref q_t_text, .int t_length, .int t_at, .int t_order, .ref q_t_told, .ref q_t_why, .ref q_t_more, .int t_whys, .int t_answer])), (q_t_now, .inl (cI, 133, .inl t_now))] t) (va_A [(q_t, .inr (8, [.ref q_t_now, .ref q_t_tried, .ref q_t_thought, .ref q_t_kept, .int t_undos, .ref q_t_saved, .int t_isSaved, .ref q_t_finds, .ref q_t_reach, .ref q_t_steps, .ref q_t_glows, .ref q_t_lower, .ref q_t_upper, .ref q_t_line, .int t_lined, .ref q_t_text, .int t_length, .int t_at, .int t_order, .ref q_t_told, .ref q_t_why, .ref q_t_more, .int t_whys, .int t_answer])), (q_t_now, .inl (cI, 133, .inl t_now))] sz)) 0 0 (va_A [(q_t, .inr (8, [.ref q_t_now, .ref q_t_tried, .ref q_t_thought, .ref q_t_kept, .int t_undos, .ref q_t_saved, .int t_isSaved, .ref q_t_finds, .ref q_t_reach, .ref q_t_steps, .ref q_t_glows, .ref q_t_lower, .ref q_t_upper, .ref q_t_line, .int t_lined, .ref q_t_text, .int t_length, .int t_at, .int t_order, .ref q_t_told, .ref q_t_why, .ref q_t_more, .int t_whys, .int t_answer])), (q_t_now, .inl (cI, 133, .inl t_now))] sz) := c_X10_rises_all l D cI cJ cC cL q_t q_t_now q_t_tried q_t_thought q_t_kept q_t_saved q_t_finds q_t_reach q_t_steps q_t_glows q_t_lower q_t_upper q_t_line q_t_text q_t_told q_t_why q_t_more 20 t_undos t_isSaved t_lined t_length t_at t_order t_whys t_answer t_now v1 r hJ sz

def J_X10_settles_L2  : Nat → (Nat → Int32) → (Nat → Int32) → Int32 → Option (Int32 × (Nat → Int32) × (Nat → Int32))
  | 0, _, _, _ => none
  | nf + 1, t_now, t_finds, v1 =>
    if (256 : Int32) < v1 then (
    some ((-1 : Int32), t_now, t_finds))
    else (
    bnd2 (J_X10_isSettled t_now t_finds) fun x10 t_finds_10 =>
    if x10 = 0 then (
    bnd3 (J_X10_goes t_now t_finds_10) fun x19 t_now_19 t_finds_19 =>
    nm (v1 + Int32.ofInt 1) fun x23 =>
    J_X10_settles_L2  nf t_now_19 t_finds_19 x23)
    else (
    some (v1, t_now, t_finds_10)))
def J_X10_settles (t_now : Nat → Int32) (t_finds : Nat → Int32) : Option (Int32 × (Nat → Int32) × (Nat → Int32)) :=
    J_X10_settles_L2  FU t_now t_finds (0 : Int32)
abbrev rmX10_settles : Room := { frames := 6, cells := 0, slots := 0, locals := 135 }
set_option maxHeartbeats 4000000 in
set_option maxRecDepth 100000 in
theorem c_X10_settles (l : Launch) (D : va_G) (cI cJ cC cL : ClassId) (q_t q_t_now q_t_tried q_t_thought q_t_kept q_t_saved q_t_finds q_t_reach q_t_steps q_t_glows q_t_lower q_t_upper q_t_line q_t_text q_t_told q_t_why q_t_more : Nat) (t_undos : Int32) (t_isSaved : Int32) (t_lined : Int32) (t_length : Int32) (t_at : Int32) (t_order : Int32) (t_whys : Int32) (t_answer : Int32) (t_now : Nat → Int32) (t_finds : Nat → Int32) (r : Int32) (o_t_now : Nat → Int32) (o_t_finds : Nat → Int32) (hJ : J_X10_settles t_now t_finds = some (r, o_t_now, o_t_finds)) (sz : Nat) : Met l yX10_settles wsX10_settles rmX10_settles (va_Pc [.ref q_t] (jpre XT D (tyL cI cJ cC cL) [(q_t, .inr (8, [.ref q_t_now, .ref q_t_tried, .ref q_t_thought, .ref q_t_kept, .int t_undos, .ref q_t_saved, .int t_isSaved, .ref q_t_finds, .ref q_t_reach, .ref q_t_steps, .ref q_t_glows, .ref q_t_lower, .ref q_t_upper, .ref q_t_line, .int t_lined, .ref q_t_text, .int t_length, .int t_at, .int t_order, .ref q_t_told, .ref q_t_why, .ref q_t_more, .int t_whys, .int t_answer])), (q_t_now, .inl (cI, 133, .inl t_now)), (q_t_finds, .inl (cI, 16, .inl t_finds))] sz)) (va_Qi (fun r' (_ : Unit) => r' = r) (fun _ t => jpost D (tyL cI cJ cC cL) (va_A [(q_t, .inr (8, [.ref q_t_now, .ref q_t_tried, .ref q_t_thought, .ref q_t_kept, .int t_undos, .ref q_t_saved, .int t_isSaved, .ref q_t_finds, .ref q_t_reach, .ref q_t_steps, .ref q_t_glows, .ref q_t_lower, .ref q_t_upper, .ref q_t_line, .int t_lined, .ref q_t_text, .int t_length, .int t_at, .int t_order, .ref q_t_told, .ref q_t_why, .ref q_t_more, .int t_whys, .int t_answer])), (q_t_now, .inl (cI, 133, .inl t_now)), (q_t_finds, .inl (cI, 16, .inl t_finds))] sz) [(q_t, .inr (8, [.ref q_t_now, .ref q_t_tried, .ref q_t_thought, .ref q_t_kept, .int t_undos, .ref q_t_saved, .int t_isSaved, .ref q_t_finds, .ref q_t_reach, .ref q_t_steps, .ref q_t_glows, .ref q_t_lower, .ref q_t_upper, .ref q_t_line, .int t_lined, .ref q_t_text, .int t_length, .int t_at, .int t_order, .ref q_t_told, .ref q_t_why, .ref q_t_more, .int t_whys, .int t_answer])), (q_t_now, .inl (cI, 133, .inl o_t_now)), (q_t_finds, .inl (cI, 16, .inl o_t_finds))] t) (va_A [(q_t, .inr (8, [.ref q_t_now, .ref q_t_tried, .ref q_t_thought, .ref q_t_kept, .int t_undos, .ref q_t_saved, .int t_isSaved, .ref q_t_finds, .ref q_t_reach, .ref q_t_steps, .ref q_t_glows, .ref q_t_lower, .ref q_t_upper, .ref q_t_line, .int t_lined, .ref q_t_text, .int t_length, .int t_at, .int t_order, .ref q_t_told, .ref q_t_why, .ref q_t_more, .int t_whys, .int t_answer])), (q_t_now, .inl (cI, 133, .inl t_now)), (q_t_finds, .inl (cI, 16, .inl t_finds))] sz)) 0 0 (va_A [(q_t, .inr (8, [.ref q_t_now, .ref q_t_tried, .ref q_t_thought, .ref q_t_kept, .int t_undos, .ref q_t_saved, .int t_isSaved, .ref q_t_finds, .ref q_t_reach, .ref q_t_steps, .ref q_t_glows, .ref q_t_lower, .ref q_t_upper, .ref q_t_line, .int t_lined, .ref q_t_text, .int t_length, .int t_at, .int t_order, .ref q_t_told, .ref q_t_why, .ref q_t_more, .int t_whys, .int t_answer])), (q_t_now, .inl (cI, 133, .inl t_now)), (q_t_finds, .inl (cI, 16, .inl t_finds))] sz) := by
  refine jE_i (cc := cX10_settles) (maxL := 3) (own := RX10) (ret := (some .int)) (lv0 := [(0, .ref q_t)]) (by decide) rfl rfl rfl (Nat.le_of_ble_eq_true rfl) rfl ?_
  intro p e s m args below meth c A Q ls hx hb hml hown hts hK hN hX hA hP hD hS hl hRet
  have hF : CallFix p m c cX10_settles 3 s args wsX10_settles RX10 := ⟨hx, hb, hml, hown, hts⟩
  have L2 : ∀ (nf : Nat), ∀ (t_now : Nat → Int32) (t_finds : Nat → Int32) (v1 : Int32) (H : Heap) (locs : List Loc), va_P D vwCl [(q_t, .inr (8, [.ref q_t_now, .ref q_t_tried, .ref q_t_thought, .ref q_t_kept, .int t_undos, .ref q_t_saved, .int t_isSaved, .ref q_t_finds, .ref q_t_reach, .ref q_t_steps, .ref q_t_glows, .ref q_t_lower, .ref q_t_upper, .ref q_t_line, .int t_lined, .ref q_t_text, .int t_length, .int t_at, .int t_order, .ref q_t_told, .ref q_t_why, .ref q_t_more, .int t_whys, .int t_answer])), (q_t_now, .inl (cI, 133, .inl t_now)), (q_t_finds, .inl (cI, 16, .inl t_finds))] H → va_D A [(q_t, .inr (8, [.ref q_t_now, .ref q_t_tried, .ref q_t_thought, .ref q_t_kept, .int t_undos, .ref q_t_saved, .int t_isSaved, .ref q_t_finds, .ref q_t_reach, .ref q_t_steps, .ref q_t_glows, .ref q_t_lower, .ref q_t_upper, .ref q_t_line, .int t_lined, .ref q_t_text, .int t_length, .int t_at, .int t_order, .ref q_t_told, .ref q_t_why, .ref q_t_more, .int t_whys, .int t_answer])), (q_t_now, .inl (cI, 133, .inl t_now)), (q_t_finds, .inl (cI, 16, .inl t_finds))] → va_S A s.heap H locs → ∀ ls : Array Slot, lv_has ls 3 [(0, .ref q_t), (1, .int v1)] → J_X10_settles_L2   nf t_now t_finds v1 = some (r, o_t_now, o_t_finds) → W p l e rmX10_settles s m args below meth c H locs 0 0 Q (F0 m 2 ls []) := by
    intro nf
    induction nf with
    | zero =>
      intro t_now t_finds v1 H locs hP hD hS ls hl hJ
      rw [J_X10_settles_L2] at hJ
      cases hJ
    | succ nf ih =>
      intro t_now t_finds v1 H locs hP hD hS ls hl hJ
      rw [J_X10_settles_L2] at hJ
      refine lv_iload_n hx hb dX10_settles_2 rfl (lv_at hl 1 rfl) ?_
      refine lv_sipush (v := (256 : Int32)) hx hb dX10_settles_3 (by decide) ?_
      refine jif_icmp_gt (tgt := 29) hx hb dX10_settles_6 (by decide) hJ (fun hJ => ?_) (fun hJ => ?_)
      · refine lv_iconst (v := (-1 : Int32)) hx hb dX10_settles_29 (by decide) ?_
        have hJ := Option.some.inj hJ
        obtain ⟨e0, e1, e2⟩ : ((-1 : Int32)) = r ∧ (t_now) = o_t_now ∧ (t_finds) = o_t_finds := ⟨congrArg (fun z => z.1) hJ, congrArg (fun z => z.2.1) hJ, congrArg (fun z => z.2.2) hJ⟩
        exact hRet (by rw [← e1, ← e2]; exact hP) (by rw [← e1, ← e2]; exact hD) hS e0 dX10_settles_30
      · refine lv_aload_n hx hb dX10_settles_9 rfl (lv_at hl 0 rfl) ?_
        obtain ⟨x10, t_finds_10, hc10, hJ⟩ := bnd2_some hJ
        refine jcV_i (C := RX10) (T := TX10) (N := 24) (ci := 8) (q0 := 0) (As := []) (rest := []) (isC := [0, 1, 2]) (isR := []) (isB := [0, 1, 2]) (wr := []) (ws2 := [(q_t, .inr (8, [.ref q_t_now, .ref q_t_tried, .ref q_t_thought, .ref q_t_kept, .int t_undos, .ref q_t_saved, .int t_isSaved, .ref q_t_finds, .ref q_t_reach, .ref q_t_steps, .ref q_t_glows, .ref q_t_lower, .ref q_t_upper, .ref q_t_line, .int t_lined, .ref q_t_text, .int t_length, .int t_at, .int t_order, .ref q_t_told, .ref q_t_why, .ref q_t_more, .int t_whys, .int t_answer])), (q_t_now, .inl (cI, 133, .inl t_now)), (q_t_finds, .inl (cI, 16, .inl t_finds_10))]) hF (c_X10_isSettled l D cI cJ cC cL q_t q_t_now q_t_tried q_t_thought q_t_kept q_t_saved q_t_finds q_t_reach q_t_steps q_t_glows q_t_lower q_t_upper q_t_line q_t_text q_t_told q_t_why q_t_more t_undos t_isSaved t_lined t_length t_at t_order t_whys t_answer t_now t_finds x10 t_finds_10 hc10 H.size) (cwV 0 hts gX10_settles_X10_isSettled rfl rfl rfl (by decide +kernel) ⟨Nat.le_of_ble_eq_true rfl, Nat.le_of_ble_eq_true rfl⟩) rfl hl rfl (Nat.le_of_ble_eq_true rfl) dX10_settles_10 ⟨Nat.zero_le _, Nat.zero_le _⟩ hK hN KX_T trivial hP hD hS hA rfl rfl rfl rfl rfl rfl (by decide) rfl rfl (fun H locs hP hD hS => ?_)
        refine jif_eq (tgt := 18) hx hb dX10_settles_13 (by decide) hJ (fun hJ => ?_) (fun hJ => ?_)
        · refine lv_aload_n hx hb dX10_settles_18 rfl (lv_at hl 0 rfl) ?_
          obtain ⟨x19, t_now_19, t_finds_19, hc19, hJ⟩ := bnd3_some hJ
          refine jcV_i (C := RX10) (T := TX10) (N := 24) (ci := 8) (q0 := 0) (As := []) (rest := []) (isC := [0, 1, 2]) (isR := []) (isB := [0, 1, 2]) (wr := []) (ws2 := [(q_t, .inr (8, [.ref q_t_now, .ref q_t_tried, .ref q_t_thought, .ref q_t_kept, .int t_undos, .ref q_t_saved, .int t_isSaved, .ref q_t_finds, .ref q_t_reach, .ref q_t_steps, .ref q_t_glows, .ref q_t_lower, .ref q_t_upper, .ref q_t_line, .int t_lined, .ref q_t_text, .int t_length, .int t_at, .int t_order, .ref q_t_told, .ref q_t_why, .ref q_t_more, .int t_whys, .int t_answer])), (q_t_now, .inl (cI, 133, .inl t_now_19)), (q_t_finds, .inl (cI, 16, .inl t_finds_19))]) hF (c_X10_goes l D cI cJ cC cL q_t q_t_now q_t_tried q_t_thought q_t_kept q_t_saved q_t_finds q_t_reach q_t_steps q_t_glows q_t_lower q_t_upper q_t_line q_t_text q_t_told q_t_why q_t_more t_undos t_isSaved t_lined t_length t_at t_order t_whys t_answer t_now t_finds_10 x19 t_now_19 t_finds_19 hc19 H.size) (cwV 0 hts gX10_settles_X10_goes rfl rfl rfl (by decide +kernel) ⟨Nat.le_of_ble_eq_true rfl, Nat.le_of_ble_eq_true rfl⟩) rfl hl rfl (Nat.le_of_ble_eq_true rfl) dX10_settles_19 ⟨Nat.zero_le _, Nat.zero_le _⟩ hK hN KX_T trivial hP hD hS hA rfl rfl rfl rfl rfl rfl (by decide) rfl rfl (fun H locs hP hD hS => ?_)
          refine lv_istore_n (lv' := [(2, .int x19), (0, .ref q_t), (1, .int v1)]) hx hb dX10_settles_22 rfl hl (by decide) rfl (fun ls hl => ?_)
          refine jt_iinc hJ (fun x23 ex23 hJ => ?_)
          refine lv_iinc (v := x23) (lv' := [(1, .int x23), (2, .int x19), (0, .ref q_t)]) hx hb dX10_settles_23 hl (k := 2) rfl ex23 (by decide) rfl (fun ls hl => ?_)
          refine lv_goto (tgt := 2) hx hb dX10_settles_26 (by decide) ?_
          exact ih t_now_19 t_finds_19 x23  H locs  hP hD hS _ (lv_sub hl [2, 0] rfl) hJ
        · refine lv_iload_n hx hb dX10_settles_16 rfl (lv_at hl 1 rfl) ?_
          have hJ := Option.some.inj hJ
          obtain ⟨e0, e1, e2⟩ : (v1) = r ∧ (t_now) = o_t_now ∧ (t_finds_10) = o_t_finds := ⟨congrArg (fun z => z.1) hJ, congrArg (fun z => z.2.1) hJ, congrArg (fun z => z.2.2) hJ⟩
          exact hRet (by rw [← e1, ← e2]; exact hP) (by rw [← e1, ← e2]; exact hD) hS e0 dX10_settles_17
  unfold J_X10_settles at hJ
  refine lv_iconst (v := (0 : Int32)) hx hb dX10_settles_0 (by decide) ?_
  refine lv_istore_n (lv' := [(1, .int (0 : Int32)), (0, .ref q_t)]) hx hb dX10_settles_1 rfl hl (by decide) rfl (fun ls hl => ?_)
  exact L2  FU t_now t_finds (0 : Int32)  s.heap []  hP hD hS _ (lv_sub hl [1, 0] rfl) hJ

def J_X10_settlesIn_b23 (t_now : Nat → Int32) (t_thought : Nat → Int32) (t_finds : Nat → Int32) (s23_0 : Int32) : Option (Int32 × (Nat → Int32) × (Nat → Int32) × (Nat → Int32)) :=
    some (s23_0, t_now, t_thought, t_finds)
def J_X10_settlesIn (t_now : Nat → Int32) (t_thought : Nat → Int32) (t_finds : Nat → Int32) : Option (Int32 × (Nat → Int32) × (Nat → Int32) × (Nat → Int32)) :=
    bnd1 (J_X10_thinks t_now t_thought) fun t_thought_1 =>
    bnd3 (J_X10_settles t_now t_finds) fun x5 t_now_5 t_finds_5 =>
    bnd1 (J_X10_thinksNoMore t_now_5 t_thought_1) fun t_now_10 =>
    if 0 ≤ x5 then (
    J_X10_settlesIn_b23  t_now_10 t_thought_1 t_finds_5 x5)
    else (
    J_X10_settlesIn_b23  t_now_10 t_thought_1 t_finds_5 (-15 : Int32))
abbrev rmX10_settlesIn : Room := { frames := 7, cells := 0, slots := 0, locals := 157 }
set_option maxHeartbeats 4000000 in
set_option maxRecDepth 100000 in
theorem c_X10_settlesIn (l : Launch) (D : va_G) (cI cJ cC cL : ClassId) (q_t q_t_now q_t_tried q_t_thought q_t_kept q_t_saved q_t_finds q_t_reach q_t_steps q_t_glows q_t_lower q_t_upper q_t_line q_t_text q_t_told q_t_why q_t_more : Nat) (t_undos : Int32) (t_isSaved : Int32) (t_lined : Int32) (t_length : Int32) (t_at : Int32) (t_order : Int32) (t_whys : Int32) (t_answer : Int32) (t_now : Nat → Int32) (t_thought : Nat → Int32) (t_finds : Nat → Int32) (r : Int32) (o_t_now : Nat → Int32) (o_t_thought : Nat → Int32) (o_t_finds : Nat → Int32) (hJ : J_X10_settlesIn t_now t_thought t_finds = some (r, o_t_now, o_t_thought, o_t_finds)) (sz : Nat) : Met l yX10_settlesIn wsX10_settlesIn rmX10_settlesIn (va_Pc [.ref q_t] (jpre XT D (tyL cI cJ cC cL) [(q_t, .inr (8, [.ref q_t_now, .ref q_t_tried, .ref q_t_thought, .ref q_t_kept, .int t_undos, .ref q_t_saved, .int t_isSaved, .ref q_t_finds, .ref q_t_reach, .ref q_t_steps, .ref q_t_glows, .ref q_t_lower, .ref q_t_upper, .ref q_t_line, .int t_lined, .ref q_t_text, .int t_length, .int t_at, .int t_order, .ref q_t_told, .ref q_t_why, .ref q_t_more, .int t_whys, .int t_answer])), (q_t_now, .inl (cI, 133, .inl t_now)), (q_t_thought, .inl (cI, 133, .inl t_thought)), (q_t_finds, .inl (cI, 16, .inl t_finds))] sz)) (va_Qi (fun r' (_ : Unit) => r' = r) (fun _ t => jpost D (tyL cI cJ cC cL) (va_A [(q_t, .inr (8, [.ref q_t_now, .ref q_t_tried, .ref q_t_thought, .ref q_t_kept, .int t_undos, .ref q_t_saved, .int t_isSaved, .ref q_t_finds, .ref q_t_reach, .ref q_t_steps, .ref q_t_glows, .ref q_t_lower, .ref q_t_upper, .ref q_t_line, .int t_lined, .ref q_t_text, .int t_length, .int t_at, .int t_order, .ref q_t_told, .ref q_t_why, .ref q_t_more, .int t_whys, .int t_answer])), (q_t_now, .inl (cI, 133, .inl t_now)), (q_t_thought, .inl (cI, 133, .inl t_thought)), (q_t_finds, .inl (cI, 16, .inl t_finds))] sz) [(q_t, .inr (8, [.ref q_t_now, .ref q_t_tried, .ref q_t_thought, .ref q_t_kept, .int t_undos, .ref q_t_saved, .int t_isSaved, .ref q_t_finds, .ref q_t_reach, .ref q_t_steps, .ref q_t_glows, .ref q_t_lower, .ref q_t_upper, .ref q_t_line, .int t_lined, .ref q_t_text, .int t_length, .int t_at, .int t_order, .ref q_t_told, .ref q_t_why, .ref q_t_more, .int t_whys, .int t_answer])), (q_t_now, .inl (cI, 133, .inl o_t_now)), (q_t_thought, .inl (cI, 133, .inl o_t_thought)), (q_t_finds, .inl (cI, 16, .inl o_t_finds))] t) (va_A [(q_t, .inr (8, [.ref q_t_now, .ref q_t_tried, .ref q_t_thought, .ref q_t_kept, .int t_undos, .ref q_t_saved, .int t_isSaved, .ref q_t_finds, .ref q_t_reach, .ref q_t_steps, .ref q_t_glows, .ref q_t_lower, .ref q_t_upper, .ref q_t_line, .int t_lined, .ref q_t_text, .int t_length, .int t_at, .int t_order, .ref q_t_told, .ref q_t_why, .ref q_t_more, .int t_whys, .int t_answer])), (q_t_now, .inl (cI, 133, .inl t_now)), (q_t_thought, .inl (cI, 133, .inl t_thought)), (q_t_finds, .inl (cI, 16, .inl t_finds))] sz)) 0 0 (va_A [(q_t, .inr (8, [.ref q_t_now, .ref q_t_tried, .ref q_t_thought, .ref q_t_kept, .int t_undos, .ref q_t_saved, .int t_isSaved, .ref q_t_finds, .ref q_t_reach, .ref q_t_steps, .ref q_t_glows, .ref q_t_lower, .ref q_t_upper, .ref q_t_line, .int t_lined, .ref q_t_text, .int t_length, .int t_at, .int t_order, .ref q_t_told, .ref q_t_why, .ref q_t_more, .int t_whys, .int t_answer])), (q_t_now, .inl (cI, 133, .inl t_now)), (q_t_thought, .inl (cI, 133, .inl t_thought)), (q_t_finds, .inl (cI, 16, .inl t_finds))] sz) := by
  refine jE_i (cc := cX10_settlesIn) (maxL := 2) (own := RX10) (ret := (some .int)) (lv0 := [(0, .ref q_t)]) (by decide) rfl rfl rfl (Nat.le_of_ble_eq_true rfl) rfl ?_
  intro p e s m args below meth c A Q ls hx hb hml hown hts hK hN hX hA hP hD hS hl hRet
  have hF : CallFix p m c cX10_settlesIn 2 s args wsX10_settlesIn RX10 := ⟨hx, hb, hml, hown, hts⟩
  have B23 : ∀ (t_now : Nat → Int32) (t_thought : Nat → Int32) (t_finds : Nat → Int32) (s23_0 : Int32) (H : Heap) (locs : List Loc), va_P D vwCl [(q_t, .inr (8, [.ref q_t_now, .ref q_t_tried, .ref q_t_thought, .ref q_t_kept, .int t_undos, .ref q_t_saved, .int t_isSaved, .ref q_t_finds, .ref q_t_reach, .ref q_t_steps, .ref q_t_glows, .ref q_t_lower, .ref q_t_upper, .ref q_t_line, .int t_lined, .ref q_t_text, .int t_length, .int t_at, .int t_order, .ref q_t_told, .ref q_t_why, .ref q_t_more, .int t_whys, .int t_answer])), (q_t_now, .inl (cI, 133, .inl t_now)), (q_t_thought, .inl (cI, 133, .inl t_thought)), (q_t_finds, .inl (cI, 16, .inl t_finds))] H → va_D A [(q_t, .inr (8, [.ref q_t_now, .ref q_t_tried, .ref q_t_thought, .ref q_t_kept, .int t_undos, .ref q_t_saved, .int t_isSaved, .ref q_t_finds, .ref q_t_reach, .ref q_t_steps, .ref q_t_glows, .ref q_t_lower, .ref q_t_upper, .ref q_t_line, .int t_lined, .ref q_t_text, .int t_length, .int t_at, .int t_order, .ref q_t_told, .ref q_t_why, .ref q_t_more, .int t_whys, .int t_answer])), (q_t_now, .inl (cI, 133, .inl t_now)), (q_t_thought, .inl (cI, 133, .inl t_thought)), (q_t_finds, .inl (cI, 16, .inl t_finds))] → va_S A s.heap H locs → ∀ ls : Array Slot, lv_has ls 2 [] → J_X10_settlesIn_b23   t_now t_thought t_finds s23_0 = some (r, o_t_now, o_t_thought, o_t_finds) → W p l e rmX10_settlesIn s m args below meth c H locs 0 0 Q (F0 m 23 ls [.int s23_0]) := by
    intro t_now t_thought t_finds s23_0 H locs hP hD hS ls hl hJ
    unfold J_X10_settlesIn_b23 at hJ
    have hJ := Option.some.inj hJ
    obtain ⟨e0, e1, e2, e3⟩ : (s23_0) = r ∧ (t_now) = o_t_now ∧ (t_thought) = o_t_thought ∧ (t_finds) = o_t_finds := ⟨congrArg (fun z => z.1) hJ, congrArg (fun z => z.2.1) hJ, congrArg (fun z => z.2.2.1) hJ, congrArg (fun z => z.2.2.2) hJ⟩
    exact hRet (by rw [← e1, ← e2, ← e3]; exact hP) (by rw [← e1, ← e2, ← e3]; exact hD) hS e0 dX10_settlesIn_23
  unfold J_X10_settlesIn at hJ
  refine lv_aload_n hx hb dX10_settlesIn_0 rfl (lv_at hl 0 rfl) ?_
  obtain ⟨t_thought_1, hc1, hJ⟩ := bnd1_some hJ
  refine jcV_v (C := RX10) (T := TX10) (N := 24) (ci := 8) (q0 := 0) (As := []) (rest := []) (isC := [0, 1, 2]) (isR := [3]) (isB := [1, 2, 3, 0]) (wr := [(q_t_finds, .inl (cI, 16, .inl t_finds))]) (ws2 := [(q_t, .inr (8, [.ref q_t_now, .ref q_t_tried, .ref q_t_thought, .ref q_t_kept, .int t_undos, .ref q_t_saved, .int t_isSaved, .ref q_t_finds, .ref q_t_reach, .ref q_t_steps, .ref q_t_glows, .ref q_t_lower, .ref q_t_upper, .ref q_t_line, .int t_lined, .ref q_t_text, .int t_length, .int t_at, .int t_order, .ref q_t_told, .ref q_t_why, .ref q_t_more, .int t_whys, .int t_answer])), (q_t_now, .inl (cI, 133, .inl t_now)), (q_t_thought, .inl (cI, 133, .inl t_thought_1)), (q_t_finds, .inl (cI, 16, .inl t_finds))]) hF (c_X10_thinks l D cI cJ cC cL q_t q_t_now q_t_tried q_t_thought q_t_kept q_t_saved q_t_finds q_t_reach q_t_steps q_t_glows q_t_lower q_t_upper q_t_line q_t_text q_t_told q_t_why q_t_more t_undos t_isSaved t_lined t_length t_at t_order t_whys t_answer t_now t_thought t_thought_1 hc1 s.heap.size) (cwV 0 hts gX10_settlesIn_X10_thinks rfl rfl rfl (by decide +kernel) ⟨Nat.le_of_ble_eq_true rfl, Nat.le_of_ble_eq_true rfl⟩) rfl hl rfl (Nat.le_of_ble_eq_true rfl) dX10_settlesIn_1 ⟨Nat.zero_le _, Nat.zero_le _⟩ hK hN KX_T trivial hP hD hS hA rfl rfl rfl rfl rfl rfl (by decide) rfl rfl (fun H locs hP hD hS => ?_)
  refine lv_aload_n hx hb dX10_settlesIn_4 rfl (lv_at hl 0 rfl) ?_
  obtain ⟨x5, t_now_5, t_finds_5, hc5, hJ⟩ := bnd3_some hJ
  refine jcV_i (C := RX10) (T := TX10) (N := 24) (ci := 8) (q0 := 0) (As := []) (rest := []) (isC := [0, 1, 3]) (isR := [2]) (isB := [1, 2, 0, 3]) (wr := [(q_t_thought, .inl (cI, 133, .inl t_thought_1))]) (ws2 := [(q_t, .inr (8, [.ref q_t_now, .ref q_t_tried, .ref q_t_thought, .ref q_t_kept, .int t_undos, .ref q_t_saved, .int t_isSaved, .ref q_t_finds, .ref q_t_reach, .ref q_t_steps, .ref q_t_glows, .ref q_t_lower, .ref q_t_upper, .ref q_t_line, .int t_lined, .ref q_t_text, .int t_length, .int t_at, .int t_order, .ref q_t_told, .ref q_t_why, .ref q_t_more, .int t_whys, .int t_answer])), (q_t_now, .inl (cI, 133, .inl t_now_5)), (q_t_thought, .inl (cI, 133, .inl t_thought_1)), (q_t_finds, .inl (cI, 16, .inl t_finds_5))]) hF (c_X10_settles l D cI cJ cC cL q_t q_t_now q_t_tried q_t_thought q_t_kept q_t_saved q_t_finds q_t_reach q_t_steps q_t_glows q_t_lower q_t_upper q_t_line q_t_text q_t_told q_t_why q_t_more t_undos t_isSaved t_lined t_length t_at t_order t_whys t_answer t_now t_finds x5 t_now_5 t_finds_5 hc5 H.size) (cwV 0 hts gX10_settlesIn_X10_settles rfl rfl rfl (by decide +kernel) ⟨Nat.le_of_ble_eq_true rfl, Nat.le_of_ble_eq_true rfl⟩) rfl hl rfl (Nat.le_of_ble_eq_true rfl) dX10_settlesIn_5 ⟨Nat.zero_le _, Nat.zero_le _⟩ hK hN KX_T trivial hP hD hS hA rfl rfl rfl rfl rfl rfl (by decide) rfl rfl (fun H locs hP hD hS => ?_)
  refine lv_istore_n (lv' := [(1, .int x5), (0, .ref q_t)]) hx hb dX10_settlesIn_8 rfl hl (by decide) rfl (fun ls hl => ?_)
  refine lv_aload_n hx hb dX10_settlesIn_9 rfl (lv_at hl 1 rfl) ?_
  obtain ⟨t_now_10, hc10, hJ⟩ := bnd1_some hJ
  refine jcV_v (C := RX10) (T := TX10) (N := 24) (ci := 8) (q0 := 0) (As := []) (rest := []) (isC := [0, 1, 2]) (isR := [3]) (isB := [1, 2, 3, 0]) (wr := [(q_t_finds, .inl (cI, 16, .inl t_finds_5))]) (ws2 := [(q_t, .inr (8, [.ref q_t_now, .ref q_t_tried, .ref q_t_thought, .ref q_t_kept, .int t_undos, .ref q_t_saved, .int t_isSaved, .ref q_t_finds, .ref q_t_reach, .ref q_t_steps, .ref q_t_glows, .ref q_t_lower, .ref q_t_upper, .ref q_t_line, .int t_lined, .ref q_t_text, .int t_length, .int t_at, .int t_order, .ref q_t_told, .ref q_t_why, .ref q_t_more, .int t_whys, .int t_answer])), (q_t_now, .inl (cI, 133, .inl t_now_10)), (q_t_thought, .inl (cI, 133, .inl t_thought_1)), (q_t_finds, .inl (cI, 16, .inl t_finds_5))]) hF (c_X10_thinksNoMore l D cI cJ cC cL q_t q_t_now q_t_tried q_t_thought q_t_kept q_t_saved q_t_finds q_t_reach q_t_steps q_t_glows q_t_lower q_t_upper q_t_line q_t_text q_t_told q_t_why q_t_more t_undos t_isSaved t_lined t_length t_at t_order t_whys t_answer t_now_5 t_thought_1 t_now_10 hc10 H.size) (cwV 0 hts gX10_settlesIn_X10_thinksNoMore rfl rfl rfl (by decide +kernel) ⟨Nat.le_of_ble_eq_true rfl, Nat.le_of_ble_eq_true rfl⟩) rfl hl rfl (Nat.le_of_ble_eq_true rfl) dX10_settlesIn_10 ⟨Nat.zero_le _, Nat.zero_le _⟩ hK hN KX_T trivial hP hD hS hA rfl rfl rfl rfl rfl rfl (by decide) rfl rfl (fun H locs hP hD hS => ?_)
  refine lv_iload_n hx hb dX10_settlesIn_13 rfl (lv_at hl 0 rfl) ?_
  refine jif_ge (tgt := 22) hx hb dX10_settlesIn_14 (by decide) hJ (fun hJ => ?_) (fun hJ => ?_)
  · refine lv_iload_n hx hb dX10_settlesIn_22 rfl (lv_at hl 0 rfl) ?_
    exact B23  t_now_10 t_thought_1 t_finds_5 x5  H locs  hP hD hS _ (lv_sub hl [] rfl) hJ
  · refine lv_bipush (v := (-15 : Int32)) hx hb dX10_settlesIn_17 (by decide) ?_
    refine lv_goto (tgt := 23) hx hb dX10_settlesIn_19 (by decide) ?_
    exact B23  t_now_10 t_thought_1 t_finds_5 (-15 : Int32)  H locs  hP hD hS _ (lv_sub hl [] rfl) hJ

def J_X10_notes_b102 (k23 : (Nat → Int32) → (Nat → Int32) → (Nat → Int32) → Int32 → Option ((Nat → Int32) × (Nat → Int32) × (Nat → Int32))) (t_now : Nat → Int32) (v1 : Int32) (t_glows : Nat → Int32) (t_lower : Nat → Int32) (t_upper : Nat → Int32) (v2 : Int32) : Option ((Nat → Int32) × (Nat → Int32) × (Nat → Int32)) :=
    nm (v2 + Int32.ofInt 1) fun x102 =>
    k23 t_glows t_lower t_upper x102
def J_X10_notes_L23 (t_now : Nat → Int32) (v1 : Int32) : Nat → (Nat → Int32) → (Nat → Int32) → (Nat → Int32) → Int32 → Option ((Nat → Int32) × (Nat → Int32) × (Nat → Int32))
  | 0, _, _, _, _ => none
  | nf + 1, t_glows, t_lower, t_upper, v2 =>
    chk (0 : Int32) 133 (
    nm (t_now (0 : Int32).toNatClampNeg) fun x29 =>
    if x29 ≤ v2 then (
    some (t_glows, t_lower, t_upper))
    else (
    chk v1 257 (
    nm (t_glows v1.toNatClampNeg) fun x39 =>
    bnd1 (J_X10_of t_now v2 (2 : Int32)) fun x43 =>
    nm (x39 ||| (x43 <<< (v2 &&& 31))) fun x48 =>
    chk v1 257 (
    if (8 : Int32) ≤ v2 then (
    chk v1 257 (
    nm (t_upper v1.toNatClampNeg) fun x85 =>
    bnd1 (J_X10_of t_now v2 (7 : Int32)) fun x90 =>
    nm (x85 ||| (x90 <<< (((3 : Int32) * (v2 - (8 : Int32))) &&& 31))) fun x100 =>
    chk v1 257 (
    J_X10_notes_b102 (fun z0 z1 z2 z3 => J_X10_notes_L23 t_now v1 nf z0 z1 z2 z3) t_now v1 (upd t_glows v1.toNatClampNeg x48) t_lower (upd t_upper v1.toNatClampNeg x100) v2)))
    else (
    chk v1 257 (
    nm (t_lower v1.toNatClampNeg) fun x62 =>
    bnd1 (J_X10_of t_now v2 (7 : Int32)) fun x67 =>
    nm (x62 ||| (x67 <<< (((3 : Int32) * v2) &&& 31))) fun x74 =>
    chk v1 257 (
    J_X10_notes_b102 (fun z0 z1 z2 z3 => J_X10_notes_L23 t_now v1 nf z0 z1 z2 z3) t_now v1 (upd t_glows v1.toNatClampNeg x48) (upd t_lower v1.toNatClampNeg x74) t_upper v2)))))))
def J_X10_notes (t_now : Nat → Int32) (t_glows : Nat → Int32) (t_lower : Nat → Int32) (t_upper : Nat → Int32) (v1 : Int32) : Option ((Nat → Int32) × (Nat → Int32) × (Nat → Int32)) :=
    chk v1 257 (
    chk v1 257 (
    chk v1 257 (
    J_X10_notes_L23 t_now v1 FU (upd t_glows v1.toNatClampNeg (0 : Int32)) (upd t_lower v1.toNatClampNeg (0 : Int32)) (upd t_upper v1.toNatClampNeg (0 : Int32)) (0 : Int32))))
abbrev rmX10_notes : Room := { frames := 1, cells := 0, slots := 0, locals := 22 }
set_option maxHeartbeats 4000000 in
set_option maxRecDepth 100000 in
theorem c_X10_notes (l : Launch) (D : va_G) (cI cJ cC cL : ClassId) (q_t q_t_now q_t_tried q_t_thought q_t_kept q_t_saved q_t_finds q_t_reach q_t_steps q_t_glows q_t_lower q_t_upper q_t_line q_t_text q_t_told q_t_why q_t_more : Nat) (t_undos : Int32) (t_isSaved : Int32) (t_lined : Int32) (t_length : Int32) (t_at : Int32) (t_order : Int32) (t_whys : Int32) (t_answer : Int32) (t_now : Nat → Int32) (t_glows : Nat → Int32) (t_lower : Nat → Int32) (t_upper : Nat → Int32) (v1 : Int32) (o_t_glows : Nat → Int32) (o_t_lower : Nat → Int32) (o_t_upper : Nat → Int32) (hJ : J_X10_notes t_now t_glows t_lower t_upper v1 = some (o_t_glows, o_t_lower, o_t_upper)) (sz : Nat) : Met l yX10_notes wsX10_notes rmX10_notes (va_Pc [.ref q_t, .int v1] (jpre XT D (tyL cI cJ cC cL) [(q_t, .inr (8, [.ref q_t_now, .ref q_t_tried, .ref q_t_thought, .ref q_t_kept, .int t_undos, .ref q_t_saved, .int t_isSaved, .ref q_t_finds, .ref q_t_reach, .ref q_t_steps, .ref q_t_glows, .ref q_t_lower, .ref q_t_upper, .ref q_t_line, .int t_lined, .ref q_t_text, .int t_length, .int t_at, .int t_order, .ref q_t_told, .ref q_t_why, .ref q_t_more, .int t_whys, .int t_answer])), (q_t_now, .inl (cI, 133, .inl t_now)), (q_t_glows, .inl (cI, 257, .inl t_glows)), (q_t_lower, .inl (cI, 257, .inl t_lower)), (q_t_upper, .inl (cI, 257, .inl t_upper))] sz)) (va_Qv (fun (_ : Unit) => True) (fun _ t => jpost D (tyL cI cJ cC cL) (va_A [(q_t, .inr (8, [.ref q_t_now, .ref q_t_tried, .ref q_t_thought, .ref q_t_kept, .int t_undos, .ref q_t_saved, .int t_isSaved, .ref q_t_finds, .ref q_t_reach, .ref q_t_steps, .ref q_t_glows, .ref q_t_lower, .ref q_t_upper, .ref q_t_line, .int t_lined, .ref q_t_text, .int t_length, .int t_at, .int t_order, .ref q_t_told, .ref q_t_why, .ref q_t_more, .int t_whys, .int t_answer])), (q_t_now, .inl (cI, 133, .inl t_now)), (q_t_glows, .inl (cI, 257, .inl t_glows)), (q_t_lower, .inl (cI, 257, .inl t_lower)), (q_t_upper, .inl (cI, 257, .inl t_upper))] sz) [(q_t, .inr (8, [.ref q_t_now, .ref q_t_tried, .ref q_t_thought, .ref q_t_kept, .int t_undos, .ref q_t_saved, .int t_isSaved, .ref q_t_finds, .ref q_t_reach, .ref q_t_steps, .ref q_t_glows, .ref q_t_lower, .ref q_t_upper, .ref q_t_line, .int t_lined, .ref q_t_text, .int t_length, .int t_at, .int t_order, .ref q_t_told, .ref q_t_why, .ref q_t_more, .int t_whys, .int t_answer])), (q_t_now, .inl (cI, 133, .inl t_now)), (q_t_glows, .inl (cI, 257, .inl o_t_glows)), (q_t_lower, .inl (cI, 257, .inl o_t_lower)), (q_t_upper, .inl (cI, 257, .inl o_t_upper))] t) (va_A [(q_t, .inr (8, [.ref q_t_now, .ref q_t_tried, .ref q_t_thought, .ref q_t_kept, .int t_undos, .ref q_t_saved, .int t_isSaved, .ref q_t_finds, .ref q_t_reach, .ref q_t_steps, .ref q_t_glows, .ref q_t_lower, .ref q_t_upper, .ref q_t_line, .int t_lined, .ref q_t_text, .int t_length, .int t_at, .int t_order, .ref q_t_told, .ref q_t_why, .ref q_t_more, .int t_whys, .int t_answer])), (q_t_now, .inl (cI, 133, .inl t_now)), (q_t_glows, .inl (cI, 257, .inl t_glows)), (q_t_lower, .inl (cI, 257, .inl t_lower)), (q_t_upper, .inl (cI, 257, .inl t_upper))] sz)) 0 0 (va_A [(q_t, .inr (8, [.ref q_t_now, .ref q_t_tried, .ref q_t_thought, .ref q_t_kept, .int t_undos, .ref q_t_saved, .int t_isSaved, .ref q_t_finds, .ref q_t_reach, .ref q_t_steps, .ref q_t_glows, .ref q_t_lower, .ref q_t_upper, .ref q_t_line, .int t_lined, .ref q_t_text, .int t_length, .int t_at, .int t_order, .ref q_t_told, .ref q_t_why, .ref q_t_more, .int t_whys, .int t_answer])), (q_t_now, .inl (cI, 133, .inl t_now)), (q_t_glows, .inl (cI, 257, .inl t_glows)), (q_t_lower, .inl (cI, 257, .inl t_lower)), (q_t_upper, .inl (cI, 257, .inl t_upper))] sz) := by
  refine jE_v (cc := cX10_notes) (maxL := 3) (own := RX10) (ret := none) (lv0 := [(0, .ref q_t), (1, .int v1)]) (by decide) rfl rfl rfl (Nat.le_of_ble_eq_true rfl) rfl ?_
  intro p e s m args below meth c A Q ls hx hb hml hown hts hK hN hX hA hP hD hS hl hRet
  have hF : CallFix p m c cX10_notes 3 s args wsX10_notes RX10 := ⟨hx, hb, hml, hown, hts⟩
  have fl_9 := hts (.fieldLink RX10 9 "LanternLogicModel" "now" "[I") (by decide +kernel)
  have fl_34 := hts (.fieldLink RX10 34 "LanternLogicModel" "glows" "[I") (by decide +kernel)
  have fl_37 := hts (.fieldLink RX10 37 "LanternLogicModel" "lower" "[I") (by decide +kernel)
  have fl_40 := hts (.fieldLink RX10 40 "LanternLogicModel" "upper" "[I") (by decide +kernel)
  have hin_X10 : ∀ w ∈ u_ws RX10 TX10 24, w ∈ wsX10_notes := by decide +kernel
  have B102 : ∀ (k23 : (Nat → Int32) → (Nat → Int32) → (Nat → Int32) → Int32 → Option ((Nat → Int32) × (Nat → Int32) × (Nat → Int32))), (∀ (t_glows : Nat → Int32) (t_lower : Nat → Int32) (t_upper : Nat → Int32) (v2 : Int32) (H : Heap) (locs : List Loc), va_P D vwCl [(q_t, .inr (8, [.ref q_t_now, .ref q_t_tried, .ref q_t_thought, .ref q_t_kept, .int t_undos, .ref q_t_saved, .int t_isSaved, .ref q_t_finds, .ref q_t_reach, .ref q_t_steps, .ref q_t_glows, .ref q_t_lower, .ref q_t_upper, .ref q_t_line, .int t_lined, .ref q_t_text, .int t_length, .int t_at, .int t_order, .ref q_t_told, .ref q_t_why, .ref q_t_more, .int t_whys, .int t_answer])), (q_t_now, .inl (cI, 133, .inl t_now)), (q_t_glows, .inl (cI, 257, .inl t_glows)), (q_t_lower, .inl (cI, 257, .inl t_lower)), (q_t_upper, .inl (cI, 257, .inl t_upper))] H → va_D A [(q_t, .inr (8, [.ref q_t_now, .ref q_t_tried, .ref q_t_thought, .ref q_t_kept, .int t_undos, .ref q_t_saved, .int t_isSaved, .ref q_t_finds, .ref q_t_reach, .ref q_t_steps, .ref q_t_glows, .ref q_t_lower, .ref q_t_upper, .ref q_t_line, .int t_lined, .ref q_t_text, .int t_length, .int t_at, .int t_order, .ref q_t_told, .ref q_t_why, .ref q_t_more, .int t_whys, .int t_answer])), (q_t_now, .inl (cI, 133, .inl t_now)), (q_t_glows, .inl (cI, 257, .inl t_glows)), (q_t_lower, .inl (cI, 257, .inl t_lower)), (q_t_upper, .inl (cI, 257, .inl t_upper))] → va_S A s.heap H locs → ∀ ls : Array Slot, lv_has ls 3 [(0, .ref q_t), (1, .int v1), (2, .int v2)] → k23 t_glows t_lower t_upper v2 = some (o_t_glows, o_t_lower, o_t_upper) → W p l e rmX10_notes s m args below meth c H locs 0 0 Q (F0 m 23 ls [])) → ∀ (t_glows : Nat → Int32) (t_lower : Nat → Int32) (t_upper : Nat → Int32) (v2 : Int32) (H : Heap) (locs : List Loc), va_P D vwCl [(q_t, .inr (8, [.ref q_t_now, .ref q_t_tried, .ref q_t_thought, .ref q_t_kept, .int t_undos, .ref q_t_saved, .int t_isSaved, .ref q_t_finds, .ref q_t_reach, .ref q_t_steps, .ref q_t_glows, .ref q_t_lower, .ref q_t_upper, .ref q_t_line, .int t_lined, .ref q_t_text, .int t_length, .int t_at, .int t_order, .ref q_t_told, .ref q_t_why, .ref q_t_more, .int t_whys, .int t_answer])), (q_t_now, .inl (cI, 133, .inl t_now)), (q_t_glows, .inl (cI, 257, .inl t_glows)), (q_t_lower, .inl (cI, 257, .inl t_lower)), (q_t_upper, .inl (cI, 257, .inl t_upper))] H → va_D A [(q_t, .inr (8, [.ref q_t_now, .ref q_t_tried, .ref q_t_thought, .ref q_t_kept, .int t_undos, .ref q_t_saved, .int t_isSaved, .ref q_t_finds, .ref q_t_reach, .ref q_t_steps, .ref q_t_glows, .ref q_t_lower, .ref q_t_upper, .ref q_t_line, .int t_lined, .ref q_t_text, .int t_length, .int t_at, .int t_order, .ref q_t_told, .ref q_t_why, .ref q_t_more, .int t_whys, .int t_answer])), (q_t_now, .inl (cI, 133, .inl t_now)), (q_t_glows, .inl (cI, 257, .inl t_glows)), (q_t_lower, .inl (cI, 257, .inl t_lower)), (q_t_upper, .inl (cI, 257, .inl t_upper))] → va_S A s.heap H locs → ∀ ls : Array Slot, lv_has ls 3 [(0, .ref q_t), (1, .int v1), (2, .int v2)] → J_X10_notes_b102 k23 t_now v1 t_glows t_lower t_upper v2 = some (o_t_glows, o_t_lower, o_t_upper) → W p l e rmX10_notes s m args below meth c H locs 0 0 Q (F0 m 102 ls []) := by
    intro k23 hk23 t_glows t_lower t_upper v2 H locs hP hD hS ls hl hJ
    unfold J_X10_notes_b102 at hJ
    refine jt_iinc hJ (fun x102 ex102 hJ => ?_)
    refine lv_iinc (v := x102) (lv' := [(2, .int x102), (0, .ref q_t), (1, .int v1)]) hx hb dX10_notes_102 hl (k := 2) rfl ex102 (by decide) rfl (fun ls hl => ?_)
    refine lv_goto (tgt := 23) hx hb dX10_notes_105 (by decide) ?_
    exact hk23 t_glows t_lower t_upper x102  H locs  hP hD hS _ (lv_sub hl [1, 2, 0] rfl) hJ
  have L23 : ∀ (nf : Nat), ∀ (t_glows : Nat → Int32) (t_lower : Nat → Int32) (t_upper : Nat → Int32) (v2 : Int32) (H : Heap) (locs : List Loc), va_P D vwCl [(q_t, .inr (8, [.ref q_t_now, .ref q_t_tried, .ref q_t_thought, .ref q_t_kept, .int t_undos, .ref q_t_saved, .int t_isSaved, .ref q_t_finds, .ref q_t_reach, .ref q_t_steps, .ref q_t_glows, .ref q_t_lower, .ref q_t_upper, .ref q_t_line, .int t_lined, .ref q_t_text, .int t_length, .int t_at, .int t_order, .ref q_t_told, .ref q_t_why, .ref q_t_more, .int t_whys, .int t_answer])), (q_t_now, .inl (cI, 133, .inl t_now)), (q_t_glows, .inl (cI, 257, .inl t_glows)), (q_t_lower, .inl (cI, 257, .inl t_lower)), (q_t_upper, .inl (cI, 257, .inl t_upper))] H → va_D A [(q_t, .inr (8, [.ref q_t_now, .ref q_t_tried, .ref q_t_thought, .ref q_t_kept, .int t_undos, .ref q_t_saved, .int t_isSaved, .ref q_t_finds, .ref q_t_reach, .ref q_t_steps, .ref q_t_glows, .ref q_t_lower, .ref q_t_upper, .ref q_t_line, .int t_lined, .ref q_t_text, .int t_length, .int t_at, .int t_order, .ref q_t_told, .ref q_t_why, .ref q_t_more, .int t_whys, .int t_answer])), (q_t_now, .inl (cI, 133, .inl t_now)), (q_t_glows, .inl (cI, 257, .inl t_glows)), (q_t_lower, .inl (cI, 257, .inl t_lower)), (q_t_upper, .inl (cI, 257, .inl t_upper))] → va_S A s.heap H locs → ∀ ls : Array Slot, lv_has ls 3 [(0, .ref q_t), (1, .int v1), (2, .int v2)] → J_X10_notes_L23  t_now v1 nf t_glows t_lower t_upper v2 = some (o_t_glows, o_t_lower, o_t_upper) → W p l e rmX10_notes s m args below meth c H locs 0 0 Q (F0 m 23 ls []) := by
    intro nf
    induction nf with
    | zero =>
      intro t_glows t_lower t_upper v2 H locs hP hD hS ls hl hJ
      rw [J_X10_notes_L23] at hJ
      cases hJ
    | succ nf ih =>
      intro t_glows t_lower t_upper v2 H locs hP hD hS ls hl hJ
      rw [J_X10_notes_L23] at hJ
      refine lv_iload_n hx hb dX10_notes_23 rfl (lv_at hl 2 rfl) ?_
      refine lv_aload_n hx hb dX10_notes_24 rfl (lv_at hl 0 rfl) ?_
      refine va_get (ci := 8) (v := .ref q_t_now) (C := RX10) (T := TX10) (N := 24) hx hb hts hin_X10 hown hK hP 0 rfl rfl 0 (by decide) fl_9 (fun _ h9 => h9) rfl dX10_notes_25 ?_
      refine lv_iconst (v := (0 : Int32)) hx hb dX10_notes_28 (by decide) ?_
      obtain ⟨hin, hJ⟩ := chk_in hJ
      refine va_iald hx hb hK hP 1 0 rfl rfl hin dX10_notes_29 ?_
      refine jt_i hJ (fun x29 hJ => ?_)
      refine jif_icmp_ge (tgt := 108) hx hb dX10_notes_30 (by decide) hJ (fun hJ => ?_) (fun hJ => ?_)
      · have hJ := Option.some.inj hJ
        obtain ⟨e0, e1, e2⟩ : (t_glows) = o_t_glows ∧ (t_lower) = o_t_lower ∧ (t_upper) = o_t_upper := ⟨congrArg (fun z => z.1) hJ, congrArg (fun z => z.2.1) hJ, congrArg (fun z => z.2.2) hJ⟩
        exact hRet (by rw [← e0, ← e1, ← e2]; exact hP) (by rw [← e0, ← e1, ← e2]; exact hD) hS dX10_notes_108
      · refine lv_aload_n hx hb dX10_notes_33 rfl (lv_at hl 0 rfl) ?_
        refine va_get (ci := 8) (v := .ref q_t_glows) (C := RX10) (T := TX10) (N := 24) hx hb hts hin_X10 hown hK hP 0 rfl rfl 10 (by decide) fl_34 (fun _ h9 => h9) rfl dX10_notes_34 ?_
        refine lv_iload_n hx hb dX10_notes_37 rfl (lv_at hl 1 rfl) ?_
        refine lv_dup2_11 hx hb dX10_notes_38 rfl rfl ?_
        obtain ⟨hin, hJ⟩ := chk_in hJ
        refine va_iald hx hb hK hP 2 0 rfl rfl hin dX10_notes_39 ?_
        refine jt_i hJ (fun x39 hJ => ?_)
        refine lv_aload_n hx hb dX10_notes_40 rfl (lv_at hl 0 rfl) ?_
        refine lv_iload_n hx hb dX10_notes_41 rfl (lv_at hl 2 rfl) ?_
        refine lv_iconst (v := (2 : Int32)) hx hb dX10_notes_42 (by decide) ?_
        obtain ⟨x43, hc43, hJ⟩ := bnd1_some hJ
        refine jcV_i (C := RX10) (T := TX10) (N := 24) (ci := 8) (q0 := 0) (As := [.int v2, .int (2 : Int32)]) (rest := [.int x39, .int v1, .ref q_t_glows]) (isC := [0, 1]) (isR := [2, 3, 4]) (isB := [3, 4, 0, 1, 2]) (wr := [(q_t_glows, .inl (cI, 257, .inl t_glows)), (q_t_lower, .inl (cI, 257, .inl t_lower)), (q_t_upper, .inl (cI, 257, .inl t_upper))]) (ws2 := [(q_t, .inr (8, [.ref q_t_now, .ref q_t_tried, .ref q_t_thought, .ref q_t_kept, .int t_undos, .ref q_t_saved, .int t_isSaved, .ref q_t_finds, .ref q_t_reach, .ref q_t_steps, .ref q_t_glows, .ref q_t_lower, .ref q_t_upper, .ref q_t_line, .int t_lined, .ref q_t_text, .int t_length, .int t_at, .int t_order, .ref q_t_told, .ref q_t_why, .ref q_t_more, .int t_whys, .int t_answer])), (q_t_now, .inl (cI, 133, .inl t_now)), (q_t_glows, .inl (cI, 257, .inl t_glows)), (q_t_lower, .inl (cI, 257, .inl t_lower)), (q_t_upper, .inl (cI, 257, .inl t_upper))]) hF (c_X10_of l D cI cJ cC cL q_t q_t_now q_t_tried q_t_thought q_t_kept q_t_saved q_t_finds q_t_reach q_t_steps q_t_glows q_t_lower q_t_upper q_t_line q_t_text q_t_told q_t_why q_t_more t_undos t_isSaved t_lined t_length t_at t_order t_whys t_answer t_now v2 (2 : Int32) x43 hc43 H.size) (cwV 2 hts gX10_notes_X10_of rfl rfl rfl (by decide +kernel) ⟨Nat.le_of_ble_eq_true rfl, Nat.le_of_ble_eq_true rfl⟩) rfl hl rfl (Nat.le_of_ble_eq_true rfl) dX10_notes_43 ⟨Nat.zero_le _, Nat.zero_le _⟩ hK hN KX_T trivial hP hD hS hA rfl rfl rfl rfl rfl rfl (by decide) rfl rfl (fun H locs hP hD hS => ?_)
        refine lv_iload_n hx hb dX10_notes_46 rfl (lv_at hl 2 rfl) ?_
        refine lv_ishl hx hb dX10_notes_47 ?_
        refine lv_ior hx hb dX10_notes_48 ?_
        refine jt_i hJ (fun x48 hJ => ?_)
        obtain ⟨hin, hJ⟩ := chk_in hJ
        refine va_iast hx hb hK hP hD hS 2 0 rfl rfl hin dX10_notes_49 (fun H locs hP hD hS => ?_)
        have hP : va_P D vwCl [(q_t, .inr (8, [.ref q_t_now, .ref q_t_tried, .ref q_t_thought, .ref q_t_kept, .int t_undos, .ref q_t_saved, .int t_isSaved, .ref q_t_finds, .ref q_t_reach, .ref q_t_steps, .ref q_t_glows, .ref q_t_lower, .ref q_t_upper, .ref q_t_line, .int t_lined, .ref q_t_text, .int t_length, .int t_at, .int t_order, .ref q_t_told, .ref q_t_why, .ref q_t_more, .int t_whys, .int t_answer])), (q_t_now, .inl (cI, 133, .inl t_now)), (q_t_glows, .inl (cI, 257, .inl (upd t_glows v1.toNatClampNeg x48))), (q_t_lower, .inl (cI, 257, .inl t_lower)), (q_t_upper, .inl (cI, 257, .inl t_upper))] H := hP
        have hD : va_D A [(q_t, .inr (8, [.ref q_t_now, .ref q_t_tried, .ref q_t_thought, .ref q_t_kept, .int t_undos, .ref q_t_saved, .int t_isSaved, .ref q_t_finds, .ref q_t_reach, .ref q_t_steps, .ref q_t_glows, .ref q_t_lower, .ref q_t_upper, .ref q_t_line, .int t_lined, .ref q_t_text, .int t_length, .int t_at, .int t_order, .ref q_t_told, .ref q_t_why, .ref q_t_more, .int t_whys, .int t_answer])), (q_t_now, .inl (cI, 133, .inl t_now)), (q_t_glows, .inl (cI, 257, .inl (upd t_glows v1.toNatClampNeg x48))), (q_t_lower, .inl (cI, 257, .inl t_lower)), (q_t_upper, .inl (cI, 257, .inl t_upper))] := hD
        refine lv_iload_n hx hb dX10_notes_50 rfl (lv_at hl 2 rfl) ?_
        refine lv_bipush (v := (8 : Int32)) hx hb dX10_notes_51 (by decide) ?_
        refine jif_icmp_ge (tgt := 79) hx hb dX10_notes_53 (by decide) hJ (fun hJ => ?_) (fun hJ => ?_)
        · refine lv_aload_n hx hb dX10_notes_79 rfl (lv_at hl 0 rfl) ?_
          refine va_get (ci := 8) (v := .ref q_t_upper) (C := RX10) (T := TX10) (N := 24) hx hb hts hin_X10 hown hK hP 0 rfl rfl 12 (by decide) fl_40 (fun _ h9 => h9) rfl dX10_notes_80 ?_
          refine lv_iload_n hx hb dX10_notes_83 rfl (lv_at hl 1 rfl) ?_
          refine lv_dup2_11 hx hb dX10_notes_84 rfl rfl ?_
          obtain ⟨hin, hJ⟩ := chk_in hJ
          refine va_iald hx hb hK hP 4 0 rfl rfl hin dX10_notes_85 ?_
          refine jt_i hJ (fun x85 hJ => ?_)
          refine lv_aload_n hx hb dX10_notes_86 rfl (lv_at hl 0 rfl) ?_
          refine lv_iload_n hx hb dX10_notes_87 rfl (lv_at hl 2 rfl) ?_
          refine lv_bipush (v := (7 : Int32)) hx hb dX10_notes_88 (by decide) ?_
          obtain ⟨x90, hc90, hJ⟩ := bnd1_some hJ
          refine jcV_i (C := RX10) (T := TX10) (N := 24) (ci := 8) (q0 := 0) (As := [.int v2, .int (7 : Int32)]) (rest := [.int x85, .int v1, .ref q_t_upper]) (isC := [0, 1]) (isR := [2, 3, 4]) (isB := [3, 4, 0, 1, 2]) (wr := [(q_t_glows, .inl (cI, 257, .inl (upd t_glows v1.toNatClampNeg x48))), (q_t_lower, .inl (cI, 257, .inl t_lower)), (q_t_upper, .inl (cI, 257, .inl t_upper))]) (ws2 := [(q_t, .inr (8, [.ref q_t_now, .ref q_t_tried, .ref q_t_thought, .ref q_t_kept, .int t_undos, .ref q_t_saved, .int t_isSaved, .ref q_t_finds, .ref q_t_reach, .ref q_t_steps, .ref q_t_glows, .ref q_t_lower, .ref q_t_upper, .ref q_t_line, .int t_lined, .ref q_t_text, .int t_length, .int t_at, .int t_order, .ref q_t_told, .ref q_t_why, .ref q_t_more, .int t_whys, .int t_answer])), (q_t_now, .inl (cI, 133, .inl t_now)), (q_t_glows, .inl (cI, 257, .inl (upd t_glows v1.toNatClampNeg x48))), (q_t_lower, .inl (cI, 257, .inl t_lower)), (q_t_upper, .inl (cI, 257, .inl t_upper))]) hF (c_X10_of l D cI cJ cC cL q_t q_t_now q_t_tried q_t_thought q_t_kept q_t_saved q_t_finds q_t_reach q_t_steps q_t_glows q_t_lower q_t_upper q_t_line q_t_text q_t_told q_t_why q_t_more t_undos t_isSaved t_lined t_length t_at t_order t_whys t_answer t_now v2 (7 : Int32) x90 hc90 H.size) (cwV 2 hts gX10_notes_X10_of rfl rfl rfl (by decide +kernel) ⟨Nat.le_of_ble_eq_true rfl, Nat.le_of_ble_eq_true rfl⟩) rfl hl rfl (Nat.le_of_ble_eq_true rfl) dX10_notes_90 ⟨Nat.zero_le _, Nat.zero_le _⟩ hK hN KX_T trivial hP hD hS hA rfl rfl rfl rfl rfl rfl (by decide) rfl rfl (fun H locs hP hD hS => ?_)
          refine lv_iconst (v := (3 : Int32)) hx hb dX10_notes_93 (by decide) ?_
          refine lv_iload_n hx hb dX10_notes_94 rfl (lv_at hl 2 rfl) ?_
          refine lv_bipush (v := (8 : Int32)) hx hb dX10_notes_95 (by decide) ?_
          refine lv_isub hx hb dX10_notes_97 ?_
          refine lv_imul hx hb dX10_notes_98 ?_
          refine lv_ishl hx hb dX10_notes_99 ?_
          refine lv_ior hx hb dX10_notes_100 ?_
          refine jt_i hJ (fun x100 hJ => ?_)
          obtain ⟨hin, hJ⟩ := chk_in hJ
          refine va_iast hx hb hK hP hD hS 4 0 rfl rfl hin dX10_notes_101 (fun H locs hP hD hS => ?_)
          have hP : va_P D vwCl [(q_t, .inr (8, [.ref q_t_now, .ref q_t_tried, .ref q_t_thought, .ref q_t_kept, .int t_undos, .ref q_t_saved, .int t_isSaved, .ref q_t_finds, .ref q_t_reach, .ref q_t_steps, .ref q_t_glows, .ref q_t_lower, .ref q_t_upper, .ref q_t_line, .int t_lined, .ref q_t_text, .int t_length, .int t_at, .int t_order, .ref q_t_told, .ref q_t_why, .ref q_t_more, .int t_whys, .int t_answer])), (q_t_now, .inl (cI, 133, .inl t_now)), (q_t_glows, .inl (cI, 257, .inl (upd t_glows v1.toNatClampNeg x48))), (q_t_lower, .inl (cI, 257, .inl t_lower)), (q_t_upper, .inl (cI, 257, .inl (upd t_upper v1.toNatClampNeg x100)))] H := hP
          have hD : va_D A [(q_t, .inr (8, [.ref q_t_now, .ref q_t_tried, .ref q_t_thought, .ref q_t_kept, .int t_undos, .ref q_t_saved, .int t_isSaved, .ref q_t_finds, .ref q_t_reach, .ref q_t_steps, .ref q_t_glows, .ref q_t_lower, .ref q_t_upper, .ref q_t_line, .int t_lined, .ref q_t_text, .int t_length, .int t_at, .int t_order, .ref q_t_told, .ref q_t_why, .ref q_t_more, .int t_whys, .int t_answer])), (q_t_now, .inl (cI, 133, .inl t_now)), (q_t_glows, .inl (cI, 257, .inl (upd t_glows v1.toNatClampNeg x48))), (q_t_lower, .inl (cI, 257, .inl t_lower)), (q_t_upper, .inl (cI, 257, .inl (upd t_upper v1.toNatClampNeg x100)))] := hD
          exact B102 (fun z0 z1 z2 z3 => J_X10_notes_L23 t_now v1 nf z0 z1 z2 z3) ih (upd t_glows v1.toNatClampNeg x48) t_lower (upd t_upper v1.toNatClampNeg x100) v2  H locs  hP hD hS _ (lv_sub hl [0, 1, 2] rfl) hJ
        · refine lv_aload_n hx hb dX10_notes_56 rfl (lv_at hl 0 rfl) ?_
          refine va_get (ci := 8) (v := .ref q_t_lower) (C := RX10) (T := TX10) (N := 24) hx hb hts hin_X10 hown hK hP 0 rfl rfl 11 (by decide) fl_37 (fun _ h9 => h9) rfl dX10_notes_57 ?_
          refine lv_iload_n hx hb dX10_notes_60 rfl (lv_at hl 1 rfl) ?_
          refine lv_dup2_11 hx hb dX10_notes_61 rfl rfl ?_
          obtain ⟨hin, hJ⟩ := chk_in hJ
          refine va_iald hx hb hK hP 3 0 rfl rfl hin dX10_notes_62 ?_
          refine jt_i hJ (fun x62 hJ => ?_)
          refine lv_aload_n hx hb dX10_notes_63 rfl (lv_at hl 0 rfl) ?_
          refine lv_iload_n hx hb dX10_notes_64 rfl (lv_at hl 2 rfl) ?_
          refine lv_bipush (v := (7 : Int32)) hx hb dX10_notes_65 (by decide) ?_
          obtain ⟨x67, hc67, hJ⟩ := bnd1_some hJ
          refine jcV_i (C := RX10) (T := TX10) (N := 24) (ci := 8) (q0 := 0) (As := [.int v2, .int (7 : Int32)]) (rest := [.int x62, .int v1, .ref q_t_lower]) (isC := [0, 1]) (isR := [2, 3, 4]) (isB := [3, 4, 0, 1, 2]) (wr := [(q_t_glows, .inl (cI, 257, .inl (upd t_glows v1.toNatClampNeg x48))), (q_t_lower, .inl (cI, 257, .inl t_lower)), (q_t_upper, .inl (cI, 257, .inl t_upper))]) (ws2 := [(q_t, .inr (8, [.ref q_t_now, .ref q_t_tried, .ref q_t_thought, .ref q_t_kept, .int t_undos, .ref q_t_saved, .int t_isSaved, .ref q_t_finds, .ref q_t_reach, .ref q_t_steps, .ref q_t_glows, .ref q_t_lower, .ref q_t_upper, .ref q_t_line, .int t_lined, .ref q_t_text, .int t_length, .int t_at, .int t_order, .ref q_t_told, .ref q_t_why, .ref q_t_more, .int t_whys, .int t_answer])), (q_t_now, .inl (cI, 133, .inl t_now)), (q_t_glows, .inl (cI, 257, .inl (upd t_glows v1.toNatClampNeg x48))), (q_t_lower, .inl (cI, 257, .inl t_lower)), (q_t_upper, .inl (cI, 257, .inl t_upper))]) hF (c_X10_of l D cI cJ cC cL q_t q_t_now q_t_tried q_t_thought q_t_kept q_t_saved q_t_finds q_t_reach q_t_steps q_t_glows q_t_lower q_t_upper q_t_line q_t_text q_t_told q_t_why q_t_more t_undos t_isSaved t_lined t_length t_at t_order t_whys t_answer t_now v2 (7 : Int32) x67 hc67 H.size) (cwV 2 hts gX10_notes_X10_of rfl rfl rfl (by decide +kernel) ⟨Nat.le_of_ble_eq_true rfl, Nat.le_of_ble_eq_true rfl⟩) rfl hl rfl (Nat.le_of_ble_eq_true rfl) dX10_notes_67 ⟨Nat.zero_le _, Nat.zero_le _⟩ hK hN KX_T trivial hP hD hS hA rfl rfl rfl rfl rfl rfl (by decide) rfl rfl (fun H locs hP hD hS => ?_)
          refine lv_iconst (v := (3 : Int32)) hx hb dX10_notes_70 (by decide) ?_
          refine lv_iload_n hx hb dX10_notes_71 rfl (lv_at hl 2 rfl) ?_
          refine lv_imul hx hb dX10_notes_72 ?_
          refine lv_ishl hx hb dX10_notes_73 ?_
          refine lv_ior hx hb dX10_notes_74 ?_
          refine jt_i hJ (fun x74 hJ => ?_)
          obtain ⟨hin, hJ⟩ := chk_in hJ
          refine va_iast hx hb hK hP hD hS 3 0 rfl rfl hin dX10_notes_75 (fun H locs hP hD hS => ?_)
          have hP : va_P D vwCl [(q_t, .inr (8, [.ref q_t_now, .ref q_t_tried, .ref q_t_thought, .ref q_t_kept, .int t_undos, .ref q_t_saved, .int t_isSaved, .ref q_t_finds, .ref q_t_reach, .ref q_t_steps, .ref q_t_glows, .ref q_t_lower, .ref q_t_upper, .ref q_t_line, .int t_lined, .ref q_t_text, .int t_length, .int t_at, .int t_order, .ref q_t_told, .ref q_t_why, .ref q_t_more, .int t_whys, .int t_answer])), (q_t_now, .inl (cI, 133, .inl t_now)), (q_t_glows, .inl (cI, 257, .inl (upd t_glows v1.toNatClampNeg x48))), (q_t_lower, .inl (cI, 257, .inl (upd t_lower v1.toNatClampNeg x74))), (q_t_upper, .inl (cI, 257, .inl t_upper))] H := hP
          have hD : va_D A [(q_t, .inr (8, [.ref q_t_now, .ref q_t_tried, .ref q_t_thought, .ref q_t_kept, .int t_undos, .ref q_t_saved, .int t_isSaved, .ref q_t_finds, .ref q_t_reach, .ref q_t_steps, .ref q_t_glows, .ref q_t_lower, .ref q_t_upper, .ref q_t_line, .int t_lined, .ref q_t_text, .int t_length, .int t_at, .int t_order, .ref q_t_told, .ref q_t_why, .ref q_t_more, .int t_whys, .int t_answer])), (q_t_now, .inl (cI, 133, .inl t_now)), (q_t_glows, .inl (cI, 257, .inl (upd t_glows v1.toNatClampNeg x48))), (q_t_lower, .inl (cI, 257, .inl (upd t_lower v1.toNatClampNeg x74))), (q_t_upper, .inl (cI, 257, .inl t_upper))] := hD
          refine lv_goto (tgt := 102) hx hb dX10_notes_76 (by decide) ?_
          exact B102 (fun z0 z1 z2 z3 => J_X10_notes_L23 t_now v1 nf z0 z1 z2 z3) ih (upd t_glows v1.toNatClampNeg x48) (upd t_lower v1.toNatClampNeg x74) t_upper v2  H locs  hP hD hS _ (lv_sub hl [0, 1, 2] rfl) hJ
  unfold J_X10_notes at hJ
  refine lv_aload_n hx hb dX10_notes_0 rfl (lv_at hl 0 rfl) ?_
  refine va_get (ci := 8) (v := .ref q_t_glows) (C := RX10) (T := TX10) (N := 24) hx hb hts hin_X10 hown hK hP 0 rfl rfl 10 (by decide) fl_34 (fun _ h9 => h9) rfl dX10_notes_1 ?_
  refine lv_iload_n hx hb dX10_notes_4 rfl (lv_at hl 1 rfl) ?_
  refine lv_iconst (v := (0 : Int32)) hx hb dX10_notes_5 (by decide) ?_
  obtain ⟨hin, hJ⟩ := chk_in hJ
  refine va_iast hx hb hK hP hD hS 2 0 rfl rfl hin dX10_notes_6 (fun H locs hP hD hS => ?_)
  have hP : va_P D vwCl [(q_t, .inr (8, [.ref q_t_now, .ref q_t_tried, .ref q_t_thought, .ref q_t_kept, .int t_undos, .ref q_t_saved, .int t_isSaved, .ref q_t_finds, .ref q_t_reach, .ref q_t_steps, .ref q_t_glows, .ref q_t_lower, .ref q_t_upper, .ref q_t_line, .int t_lined, .ref q_t_text, .int t_length, .int t_at, .int t_order, .ref q_t_told, .ref q_t_why, .ref q_t_more, .int t_whys, .int t_answer])), (q_t_now, .inl (cI, 133, .inl t_now)), (q_t_glows, .inl (cI, 257, .inl (upd t_glows v1.toNatClampNeg (0 : Int32)))), (q_t_lower, .inl (cI, 257, .inl t_lower)), (q_t_upper, .inl (cI, 257, .inl t_upper))] H := hP
  have hD : va_D A [(q_t, .inr (8, [.ref q_t_now, .ref q_t_tried, .ref q_t_thought, .ref q_t_kept, .int t_undos, .ref q_t_saved, .int t_isSaved, .ref q_t_finds, .ref q_t_reach, .ref q_t_steps, .ref q_t_glows, .ref q_t_lower, .ref q_t_upper, .ref q_t_line, .int t_lined, .ref q_t_text, .int t_length, .int t_at, .int t_order, .ref q_t_told, .ref q_t_why, .ref q_t_more, .int t_whys, .int t_answer])), (q_t_now, .inl (cI, 133, .inl t_now)), (q_t_glows, .inl (cI, 257, .inl (upd t_glows v1.toNatClampNeg (0 : Int32)))), (q_t_lower, .inl (cI, 257, .inl t_lower)), (q_t_upper, .inl (cI, 257, .inl t_upper))] := hD
  refine lv_aload_n hx hb dX10_notes_7 rfl (lv_at hl 0 rfl) ?_
  refine va_get (ci := 8) (v := .ref q_t_lower) (C := RX10) (T := TX10) (N := 24) hx hb hts hin_X10 hown hK hP 0 rfl rfl 11 (by decide) fl_37 (fun _ h9 => h9) rfl dX10_notes_8 ?_
  refine lv_iload_n hx hb dX10_notes_11 rfl (lv_at hl 1 rfl) ?_
  refine lv_iconst (v := (0 : Int32)) hx hb dX10_notes_12 (by decide) ?_
  obtain ⟨hin, hJ⟩ := chk_in hJ
  refine va_iast hx hb hK hP hD hS 3 0 rfl rfl hin dX10_notes_13 (fun H locs hP hD hS => ?_)
  have hP : va_P D vwCl [(q_t, .inr (8, [.ref q_t_now, .ref q_t_tried, .ref q_t_thought, .ref q_t_kept, .int t_undos, .ref q_t_saved, .int t_isSaved, .ref q_t_finds, .ref q_t_reach, .ref q_t_steps, .ref q_t_glows, .ref q_t_lower, .ref q_t_upper, .ref q_t_line, .int t_lined, .ref q_t_text, .int t_length, .int t_at, .int t_order, .ref q_t_told, .ref q_t_why, .ref q_t_more, .int t_whys, .int t_answer])), (q_t_now, .inl (cI, 133, .inl t_now)), (q_t_glows, .inl (cI, 257, .inl (upd t_glows v1.toNatClampNeg (0 : Int32)))), (q_t_lower, .inl (cI, 257, .inl (upd t_lower v1.toNatClampNeg (0 : Int32)))), (q_t_upper, .inl (cI, 257, .inl t_upper))] H := hP
  have hD : va_D A [(q_t, .inr (8, [.ref q_t_now, .ref q_t_tried, .ref q_t_thought, .ref q_t_kept, .int t_undos, .ref q_t_saved, .int t_isSaved, .ref q_t_finds, .ref q_t_reach, .ref q_t_steps, .ref q_t_glows, .ref q_t_lower, .ref q_t_upper, .ref q_t_line, .int t_lined, .ref q_t_text, .int t_length, .int t_at, .int t_order, .ref q_t_told, .ref q_t_why, .ref q_t_more, .int t_whys, .int t_answer])), (q_t_now, .inl (cI, 133, .inl t_now)), (q_t_glows, .inl (cI, 257, .inl (upd t_glows v1.toNatClampNeg (0 : Int32)))), (q_t_lower, .inl (cI, 257, .inl (upd t_lower v1.toNatClampNeg (0 : Int32)))), (q_t_upper, .inl (cI, 257, .inl t_upper))] := hD
  refine lv_aload_n hx hb dX10_notes_14 rfl (lv_at hl 0 rfl) ?_
  refine va_get (ci := 8) (v := .ref q_t_upper) (C := RX10) (T := TX10) (N := 24) hx hb hts hin_X10 hown hK hP 0 rfl rfl 12 (by decide) fl_40 (fun _ h9 => h9) rfl dX10_notes_15 ?_
  refine lv_iload_n hx hb dX10_notes_18 rfl (lv_at hl 1 rfl) ?_
  refine lv_iconst (v := (0 : Int32)) hx hb dX10_notes_19 (by decide) ?_
  obtain ⟨hin, hJ⟩ := chk_in hJ
  refine va_iast hx hb hK hP hD hS 4 0 rfl rfl hin dX10_notes_20 (fun H locs hP hD hS => ?_)
  have hP : va_P D vwCl [(q_t, .inr (8, [.ref q_t_now, .ref q_t_tried, .ref q_t_thought, .ref q_t_kept, .int t_undos, .ref q_t_saved, .int t_isSaved, .ref q_t_finds, .ref q_t_reach, .ref q_t_steps, .ref q_t_glows, .ref q_t_lower, .ref q_t_upper, .ref q_t_line, .int t_lined, .ref q_t_text, .int t_length, .int t_at, .int t_order, .ref q_t_told, .ref q_t_why, .ref q_t_more, .int t_whys, .int t_answer])), (q_t_now, .inl (cI, 133, .inl t_now)), (q_t_glows, .inl (cI, 257, .inl (upd t_glows v1.toNatClampNeg (0 : Int32)))), (q_t_lower, .inl (cI, 257, .inl (upd t_lower v1.toNatClampNeg (0 : Int32)))), (q_t_upper, .inl (cI, 257, .inl (upd t_upper v1.toNatClampNeg (0 : Int32))))] H := hP
  have hD : va_D A [(q_t, .inr (8, [.ref q_t_now, .ref q_t_tried, .ref q_t_thought, .ref q_t_kept, .int t_undos, .ref q_t_saved, .int t_isSaved, .ref q_t_finds, .ref q_t_reach, .ref q_t_steps, .ref q_t_glows, .ref q_t_lower, .ref q_t_upper, .ref q_t_line, .int t_lined, .ref q_t_text, .int t_length, .int t_at, .int t_order, .ref q_t_told, .ref q_t_why, .ref q_t_more, .int t_whys, .int t_answer])), (q_t_now, .inl (cI, 133, .inl t_now)), (q_t_glows, .inl (cI, 257, .inl (upd t_glows v1.toNatClampNeg (0 : Int32)))), (q_t_lower, .inl (cI, 257, .inl (upd t_lower v1.toNatClampNeg (0 : Int32)))), (q_t_upper, .inl (cI, 257, .inl (upd t_upper v1.toNatClampNeg (0 : Int32))))] := hD
  refine lv_iconst (v := (0 : Int32)) hx hb dX10_notes_21 (by decide) ?_
  refine lv_istore_n (lv' := [(2, .int (0 : Int32)), (0, .ref q_t), (1, .int v1)]) hx hb dX10_notes_22 rfl hl (by decide) rfl (fun ls hl => ?_)
  exact L23  FU (upd t_glows v1.toNatClampNeg (0 : Int32)) (upd t_lower v1.toNatClampNeg (0 : Int32)) (upd t_upper v1.toNatClampNeg (0 : Int32)) (0 : Int32)  H locs  hP hD hS _ (lv_sub hl [1, 2, 0] rfl) hJ

def J_X10_period_b101 (k14 : (Nat → Int32) → (Nat → Int32) → (Nat → Int32) → (Nat → Int32) → (Nat → Int32) → (Nat → Int32) → Int32 → Int32 → Option (Int32 × (Nat → Int32) × (Nat → Int32) × (Nat → Int32) × (Nat → Int32) × (Nat → Int32) × (Nat → Int32))) (k38 : (Nat → Int32) → (Nat → Int32) → (Nat → Int32) → (Nat → Int32) → (Nat → Int32) → (Nat → Int32) → Int32 → Int32 → Int32 → Option (Int32 × (Nat → Int32) × (Nat → Int32) × (Nat → Int32) × (Nat → Int32) × (Nat → Int32) × (Nat → Int32))) (t_now : Nat → Int32) (t_thought : Nat → Int32) (t_finds : Nat → Int32) (t_glows : Nat → Int32) (t_lower : Nat → Int32) (t_upper : Nat → Int32) (v1 : Int32) (v2 : Int32) (v4 : Int32) : Option (Int32 × (Nat → Int32) × (Nat → Int32) × (Nat → Int32) × (Nat → Int32) × (Nat → Int32) × (Nat → Int32)) :=
    nm (v4 + Int32.ofInt 1) fun x101 =>
    k38 t_now t_thought t_finds t_glows t_lower t_upper v1 v2 x101
def J_X10_period_b107 (k14 : (Nat → Int32) → (Nat → Int32) → (Nat → Int32) → (Nat → Int32) → (Nat → Int32) → (Nat → Int32) → Int32 → Int32 → Option (Int32 × (Nat → Int32) × (Nat → Int32) × (Nat → Int32) × (Nat → Int32) × (Nat → Int32) × (Nat → Int32))) (t_now : Nat → Int32) (t_thought : Nat → Int32) (t_finds : Nat → Int32) (t_glows : Nat → Int32) (t_lower : Nat → Int32) (t_upper : Nat → Int32) (v1 : Int32) (v2 : Int32) : Option (Int32 × (Nat → Int32) × (Nat → Int32) × (Nat → Int32) × (Nat → Int32) × (Nat → Int32) × (Nat → Int32)) :=
    nm (v2 + Int32.ofInt 1) fun x107 =>
    k14 t_now t_thought t_finds t_glows t_lower t_upper v1 x107
def J_X10_period_L38 (k14 : (Nat → Int32) → (Nat → Int32) → (Nat → Int32) → (Nat → Int32) → (Nat → Int32) → (Nat → Int32) → Int32 → Int32 → Option (Int32 × (Nat → Int32) × (Nat → Int32) × (Nat → Int32) × (Nat → Int32) × (Nat → Int32) × (Nat → Int32))) : Nat → (Nat → Int32) → (Nat → Int32) → (Nat → Int32) → (Nat → Int32) → (Nat → Int32) → (Nat → Int32) → Int32 → Int32 → Int32 → Option (Int32 × (Nat → Int32) × (Nat → Int32) × (Nat → Int32) × (Nat → Int32) × (Nat → Int32) × (Nat → Int32))
  | 0, _, _, _, _, _, _, _, _, _ => none
  | nf + 1, t_now, t_thought, t_finds, t_glows, t_lower, t_upper, v1, v2, v4 =>
    if v2 ≤ v4 then (
    J_X10_period_b107 k14  t_now t_thought t_finds t_glows t_lower t_upper v1 v2)
    else (
    if 0 ≤ v1 then (
    J_X10_period_b107 k14  t_now t_thought t_finds t_glows t_lower t_upper v1 v2)
    else (
    chk v4 257 (
    nm (t_glows v4.toNatClampNeg) fun x54 =>
    chk v2 257 (
    nm (t_glows v2.toNatClampNeg) fun x60 =>
    if x54 = x60 then (
    chk v4 257 (
    nm (t_lower v4.toNatClampNeg) fun x70 =>
    chk v2 257 (
    nm (t_lower v2.toNatClampNeg) fun x76 =>
    if x70 = x76 then (
    chk v4 257 (
    nm (t_upper v4.toNatClampNeg) fun x86 =>
    chk v2 257 (
    nm (t_upper v2.toNatClampNeg) fun x92 =>
    if x86 = x92 then (
    nm (v2 - v4) fun x99 =>
    J_X10_period_b101 k14 (fun z0 z1 z2 z3 z4 z5 z6 z7 z8 => J_X10_period_L38 k14  nf z0 z1 z2 z3 z4 z5 z6 z7 z8)  t_now t_thought t_finds t_glows t_lower t_upper x99 v2 v4)
    else (
    J_X10_period_b101 k14 (fun z0 z1 z2 z3 z4 z5 z6 z7 z8 => J_X10_period_L38 k14  nf z0 z1 z2 z3 z4 z5 z6 z7 z8)  t_now t_thought t_finds t_glows t_lower t_upper v1 v2 v4))))
    else (
    J_X10_period_b101 k14 (fun z0 z1 z2 z3 z4 z5 z6 z7 z8 => J_X10_period_L38 k14  nf z0 z1 z2 z3 z4 z5 z6 z7 z8)  t_now t_thought t_finds t_glows t_lower t_upper v1 v2 v4))))
    else (
    J_X10_period_b101 k14 (fun z0 z1 z2 z3 z4 z5 z6 z7 z8 => J_X10_period_L38 k14  nf z0 z1 z2 z3 z4 z5 z6 z7 z8)  t_now t_thought t_finds t_glows t_lower t_upper v1 v2 v4)))))
def J_X10_period_b113 (t_now : Nat → Int32) (t_thought : Nat → Int32) (t_finds : Nat → Int32) (t_glows : Nat → Int32) (t_lower : Nat → Int32) (t_upper : Nat → Int32) (v1 : Int32) : Option (Int32 × (Nat → Int32) × (Nat → Int32) × (Nat → Int32) × (Nat → Int32) × (Nat → Int32) × (Nat → Int32)) :=
    bnd1 (J_X10_thinksNoMore t_now t_thought) fun t_now_114 =>
    some (v1, t_now_114, t_thought, t_finds, t_glows, t_lower, t_upper)
def J_X10_period_L14  : Nat → (Nat → Int32) → (Nat → Int32) → (Nat → Int32) → (Nat → Int32) → (Nat → Int32) → (Nat → Int32) → Int32 → Int32 → Option (Int32 × (Nat → Int32) × (Nat → Int32) × (Nat → Int32) × (Nat → Int32) × (Nat → Int32) × (Nat → Int32))
  | 0, _, _, _, _, _, _, _, _ => none
  | nf + 1, t_now, t_thought, t_finds, t_glows, t_lower, t_upper, v1, v2 =>
    if (256 : Int32) < v2 then (
    J_X10_period_b113  t_now t_thought t_finds t_glows t_lower t_upper v1)
    else (
    if 0 ≤ v1 then (
    J_X10_period_b113  t_now t_thought t_finds t_glows t_lower t_upper v1)
    else (
    bnd3 (J_X10_goes t_now t_finds) fun x26 t_now_26 t_finds_26 =>
    bnd3 (J_X10_notes t_now_26 t_glows t_lower t_upper v2) fun t_glows_32 t_lower_32 t_upper_32 =>
    J_X10_period_L38 (fun z0 z1 z2 z3 z4 z5 z6 z7 => J_X10_period_L14  nf z0 z1 z2 z3 z4 z5 z6 z7)  FU t_now_26 t_thought t_finds_26 t_glows_32 t_lower_32 t_upper_32 v1 v2 (0 : Int32)))
def J_X10_period (t_now : Nat → Int32) (t_thought : Nat → Int32) (t_finds : Nat → Int32) (t_glows : Nat → Int32) (t_lower : Nat → Int32) (t_upper : Nat → Int32) : Option (Int32 × (Nat → Int32) × (Nat → Int32) × (Nat → Int32) × (Nat → Int32) × (Nat → Int32) × (Nat → Int32)) :=
    bnd1 (J_X10_thinks t_now t_thought) fun t_thought_1 =>
    bnd3 (J_X10_notes t_now t_glows t_lower t_upper (0 : Int32)) fun t_glows_9 t_lower_9 t_upper_9 =>
    J_X10_period_L14  FU t_now t_thought_1 t_finds t_glows_9 t_lower_9 t_upper_9 (-15 : Int32) (1 : Int32)
abbrev rmX10_period : Room := { frames := 6, cells := 0, slots := 0, locals := 135 }
set_option maxHeartbeats 4000000 in
set_option maxRecDepth 100000 in
theorem c_X10_period (l : Launch) (D : va_G) (cI cJ cC cL : ClassId) (q_t q_t_now q_t_tried q_t_thought q_t_kept q_t_saved q_t_finds q_t_reach q_t_steps q_t_glows q_t_lower q_t_upper q_t_line q_t_text q_t_told q_t_why q_t_more : Nat) (t_undos : Int32) (t_isSaved : Int32) (t_lined : Int32) (t_length : Int32) (t_at : Int32) (t_order : Int32) (t_whys : Int32) (t_answer : Int32) (t_now : Nat → Int32) (t_thought : Nat → Int32) (t_finds : Nat → Int32) (t_glows : Nat → Int32) (t_lower : Nat → Int32) (t_upper : Nat → Int32) (r : Int32) (o_t_now : Nat → Int32) (o_t_thought : Nat → Int32) (o_t_finds : Nat → Int32) (o_t_glows : Nat → Int32) (o_t_lower : Nat → Int32) (o_t_upper : Nat → Int32) (hJ : J_X10_period t_now t_thought t_finds t_glows t_lower t_upper = some (r, o_t_now, o_t_thought, o_t_finds, o_t_glows, o_t_lower, o_t_upper)) (sz : Nat) : Met l yX10_period wsX10_period rmX10_period (va_Pc [.ref q_t] (jpre XT D (tyL cI cJ cC cL) [(q_t, .inr (8, [.ref q_t_now, .ref q_t_tried, .ref q_t_thought, .ref q_t_kept, .int t_undos, .ref q_t_saved, .int t_isSaved, .ref q_t_finds, .ref q_t_reach, .ref q_t_steps, .ref q_t_glows, .ref q_t_lower, .ref q_t_upper, .ref q_t_line, .int t_lined, .ref q_t_text, .int t_length, .int t_at, .int t_order, .ref q_t_told, .ref q_t_why, .ref q_t_more, .int t_whys, .int t_answer])), (q_t_now, .inl (cI, 133, .inl t_now)), (q_t_thought, .inl (cI, 133, .inl t_thought)), (q_t_finds, .inl (cI, 16, .inl t_finds)), (q_t_glows, .inl (cI, 257, .inl t_glows)), (q_t_lower, .inl (cI, 257, .inl t_lower)), (q_t_upper, .inl (cI, 257, .inl t_upper))] sz)) (va_Qi (fun r' (_ : Unit) => r' = r) (fun _ t => jpost D (tyL cI cJ cC cL) (va_A [(q_t, .inr (8, [.ref q_t_now, .ref q_t_tried, .ref q_t_thought, .ref q_t_kept, .int t_undos, .ref q_t_saved, .int t_isSaved, .ref q_t_finds, .ref q_t_reach, .ref q_t_steps, .ref q_t_glows, .ref q_t_lower, .ref q_t_upper, .ref q_t_line, .int t_lined, .ref q_t_text, .int t_length, .int t_at, .int t_order, .ref q_t_told, .ref q_t_why, .ref q_t_more, .int t_whys, .int t_answer])), (q_t_now, .inl (cI, 133, .inl t_now)), (q_t_thought, .inl (cI, 133, .inl t_thought)), (q_t_finds, .inl (cI, 16, .inl t_finds)), (q_t_glows, .inl (cI, 257, .inl t_glows)), (q_t_lower, .inl (cI, 257, .inl t_lower)), (q_t_upper, .inl (cI, 257, .inl t_upper))] sz) [(q_t, .inr (8, [.ref q_t_now, .ref q_t_tried, .ref q_t_thought, .ref q_t_kept, .int t_undos, .ref q_t_saved, .int t_isSaved, .ref q_t_finds, .ref q_t_reach, .ref q_t_steps, .ref q_t_glows, .ref q_t_lower, .ref q_t_upper, .ref q_t_line, .int t_lined, .ref q_t_text, .int t_length, .int t_at, .int t_order, .ref q_t_told, .ref q_t_why, .ref q_t_more, .int t_whys, .int t_answer])), (q_t_now, .inl (cI, 133, .inl o_t_now)), (q_t_thought, .inl (cI, 133, .inl o_t_thought)), (q_t_finds, .inl (cI, 16, .inl o_t_finds)), (q_t_glows, .inl (cI, 257, .inl o_t_glows)), (q_t_lower, .inl (cI, 257, .inl o_t_lower)), (q_t_upper, .inl (cI, 257, .inl o_t_upper))] t) (va_A [(q_t, .inr (8, [.ref q_t_now, .ref q_t_tried, .ref q_t_thought, .ref q_t_kept, .int t_undos, .ref q_t_saved, .int t_isSaved, .ref q_t_finds, .ref q_t_reach, .ref q_t_steps, .ref q_t_glows, .ref q_t_lower, .ref q_t_upper, .ref q_t_line, .int t_lined, .ref q_t_text, .int t_length, .int t_at, .int t_order, .ref q_t_told, .ref q_t_why, .ref q_t_more, .int t_whys, .int t_answer])), (q_t_now, .inl (cI, 133, .inl t_now)), (q_t_thought, .inl (cI, 133, .inl t_thought)), (q_t_finds, .inl (cI, 16, .inl t_finds)), (q_t_glows, .inl (cI, 257, .inl t_glows)), (q_t_lower, .inl (cI, 257, .inl t_lower)), (q_t_upper, .inl (cI, 257, .inl t_upper))] sz)) 0 0 (va_A [(q_t, .inr (8, [.ref q_t_now, .ref q_t_tried, .ref q_t_thought, .ref q_t_kept, .int t_undos, .ref q_t_saved, .int t_isSaved, .ref q_t_finds, .ref q_t_reach, .ref q_t_steps, .ref q_t_glows, .ref q_t_lower, .ref q_t_upper, .ref q_t_line, .int t_lined, .ref q_t_text, .int t_length, .int t_at, .int t_order, .ref q_t_told, .ref q_t_why, .ref q_t_more, .int t_whys, .int t_answer])), (q_t_now, .inl (cI, 133, .inl t_now)), (q_t_thought, .inl (cI, 133, .inl t_thought)), (q_t_finds, .inl (cI, 16, .inl t_finds)), (q_t_glows, .inl (cI, 257, .inl t_glows)), (q_t_lower, .inl (cI, 257, .inl t_lower)), (q_t_upper, .inl (cI, 257, .inl t_upper))] sz) := by
  refine jE_i (cc := cX10_period) (maxL := 5) (own := RX10) (ret := (some .int)) (lv0 := [(0, .ref q_t)]) (by decide) rfl rfl rfl (Nat.le_of_ble_eq_true rfl) rfl ?_
  intro p e s m args below meth c A Q ls hx hb hml hown hts hK hN hX hA hP hD hS hl hRet
  have hF : CallFix p m c cX10_period 5 s args wsX10_period RX10 := ⟨hx, hb, hml, hown, hts⟩
  have fl_34 := hts (.fieldLink RX10 34 "LanternLogicModel" "glows" "[I") (by decide +kernel)
  have fl_37 := hts (.fieldLink RX10 37 "LanternLogicModel" "lower" "[I") (by decide +kernel)
  have fl_40 := hts (.fieldLink RX10 40 "LanternLogicModel" "upper" "[I") (by decide +kernel)
  have hin_X10 : ∀ w ∈ u_ws RX10 TX10 24, w ∈ wsX10_period := by decide +kernel
  have B101 : ∀ (k14 : (Nat → Int32) → (Nat → Int32) → (Nat → Int32) → (Nat → Int32) → (Nat → Int32) → (Nat → Int32) → Int32 → Int32 → Option (Int32 × (Nat → Int32) × (Nat → Int32) × (Nat → Int32) × (Nat → Int32) × (Nat → Int32) × (Nat → Int32))), (∀ (t_now : Nat → Int32) (t_thought : Nat → Int32) (t_finds : Nat → Int32) (t_glows : Nat → Int32) (t_lower : Nat → Int32) (t_upper : Nat → Int32) (v1 : Int32) (v2 : Int32) (H : Heap) (locs : List Loc), va_P D vwCl [(q_t, .inr (8, [.ref q_t_now, .ref q_t_tried, .ref q_t_thought, .ref q_t_kept, .int t_undos, .ref q_t_saved, .int t_isSaved, .ref q_t_finds, .ref q_t_reach, .ref q_t_steps, .ref q_t_glows, .ref q_t_lower, .ref q_t_upper, .ref q_t_line, .int t_lined, .ref q_t_text, .int t_length, .int t_at, .int t_order, .ref q_t_told, .ref q_t_why, .ref q_t_more, .int t_whys, .int t_answer])), (q_t_now, .inl (cI, 133, .inl t_now)), (q_t_thought, .inl (cI, 133, .inl t_thought)), (q_t_finds, .inl (cI, 16, .inl t_finds)), (q_t_glows, .inl (cI, 257, .inl t_glows)), (q_t_lower, .inl (cI, 257, .inl t_lower)), (q_t_upper, .inl (cI, 257, .inl t_upper))] H → va_D A [(q_t, .inr (8, [.ref q_t_now, .ref q_t_tried, .ref q_t_thought, .ref q_t_kept, .int t_undos, .ref q_t_saved, .int t_isSaved, .ref q_t_finds, .ref q_t_reach, .ref q_t_steps, .ref q_t_glows, .ref q_t_lower, .ref q_t_upper, .ref q_t_line, .int t_lined, .ref q_t_text, .int t_length, .int t_at, .int t_order, .ref q_t_told, .ref q_t_why, .ref q_t_more, .int t_whys, .int t_answer])), (q_t_now, .inl (cI, 133, .inl t_now)), (q_t_thought, .inl (cI, 133, .inl t_thought)), (q_t_finds, .inl (cI, 16, .inl t_finds)), (q_t_glows, .inl (cI, 257, .inl t_glows)), (q_t_lower, .inl (cI, 257, .inl t_lower)), (q_t_upper, .inl (cI, 257, .inl t_upper))] → va_S A s.heap H locs → ∀ ls : Array Slot, lv_has ls 5 [(0, .ref q_t), (1, .int v1), (2, .int v2)] → k14 t_now t_thought t_finds t_glows t_lower t_upper v1 v2 = some (r, o_t_now, o_t_thought, o_t_finds, o_t_glows, o_t_lower, o_t_upper) → W p l e rmX10_period s m args below meth c H locs 0 0 Q (F0 m 14 ls [])) → ∀ (k38 : (Nat → Int32) → (Nat → Int32) → (Nat → Int32) → (Nat → Int32) → (Nat → Int32) → (Nat → Int32) → Int32 → Int32 → Int32 → Option (Int32 × (Nat → Int32) × (Nat → Int32) × (Nat → Int32) × (Nat → Int32) × (Nat → Int32) × (Nat → Int32))), (∀ (t_now : Nat → Int32) (t_thought : Nat → Int32) (t_finds : Nat → Int32) (t_glows : Nat → Int32) (t_lower : Nat → Int32) (t_upper : Nat → Int32) (v1 : Int32) (v2 : Int32) (v4 : Int32) (H : Heap) (locs : List Loc), va_P D vwCl [(q_t, .inr (8, [.ref q_t_now, .ref q_t_tried, .ref q_t_thought, .ref q_t_kept, .int t_undos, .ref q_t_saved, .int t_isSaved, .ref q_t_finds, .ref q_t_reach, .ref q_t_steps, .ref q_t_glows, .ref q_t_lower, .ref q_t_upper, .ref q_t_line, .int t_lined, .ref q_t_text, .int t_length, .int t_at, .int t_order, .ref q_t_told, .ref q_t_why, .ref q_t_more, .int t_whys, .int t_answer])), (q_t_now, .inl (cI, 133, .inl t_now)), (q_t_thought, .inl (cI, 133, .inl t_thought)), (q_t_finds, .inl (cI, 16, .inl t_finds)), (q_t_glows, .inl (cI, 257, .inl t_glows)), (q_t_lower, .inl (cI, 257, .inl t_lower)), (q_t_upper, .inl (cI, 257, .inl t_upper))] H → va_D A [(q_t, .inr (8, [.ref q_t_now, .ref q_t_tried, .ref q_t_thought, .ref q_t_kept, .int t_undos, .ref q_t_saved, .int t_isSaved, .ref q_t_finds, .ref q_t_reach, .ref q_t_steps, .ref q_t_glows, .ref q_t_lower, .ref q_t_upper, .ref q_t_line, .int t_lined, .ref q_t_text, .int t_length, .int t_at, .int t_order, .ref q_t_told, .ref q_t_why, .ref q_t_more, .int t_whys, .int t_answer])), (q_t_now, .inl (cI, 133, .inl t_now)), (q_t_thought, .inl (cI, 133, .inl t_thought)), (q_t_finds, .inl (cI, 16, .inl t_finds)), (q_t_glows, .inl (cI, 257, .inl t_glows)), (q_t_lower, .inl (cI, 257, .inl t_lower)), (q_t_upper, .inl (cI, 257, .inl t_upper))] → va_S A s.heap H locs → ∀ ls : Array Slot, lv_has ls 5 [(0, .ref q_t), (1, .int v1), (2, .int v2), (4, .int v4)] → k38 t_now t_thought t_finds t_glows t_lower t_upper v1 v2 v4 = some (r, o_t_now, o_t_thought, o_t_finds, o_t_glows, o_t_lower, o_t_upper) → W p l e rmX10_period s m args below meth c H locs 0 0 Q (F0 m 38 ls [])) → ∀ (t_now : Nat → Int32) (t_thought : Nat → Int32) (t_finds : Nat → Int32) (t_glows : Nat → Int32) (t_lower : Nat → Int32) (t_upper : Nat → Int32) (v1 : Int32) (v2 : Int32) (v4 : Int32) (H : Heap) (locs : List Loc), va_P D vwCl [(q_t, .inr (8, [.ref q_t_now, .ref q_t_tried, .ref q_t_thought, .ref q_t_kept, .int t_undos, .ref q_t_saved, .int t_isSaved, .ref q_t_finds, .ref q_t_reach, .ref q_t_steps, .ref q_t_glows, .ref q_t_lower, .ref q_t_upper, .ref q_t_line, .int t_lined, .ref q_t_text, .int t_length, .int t_at, .int t_order, .ref q_t_told, .ref q_t_why, .ref q_t_more, .int t_whys, .int t_answer])), (q_t_now, .inl (cI, 133, .inl t_now)), (q_t_thought, .inl (cI, 133, .inl t_thought)), (q_t_finds, .inl (cI, 16, .inl t_finds)), (q_t_glows, .inl (cI, 257, .inl t_glows)), (q_t_lower, .inl (cI, 257, .inl t_lower)), (q_t_upper, .inl (cI, 257, .inl t_upper))] H → va_D A [(q_t, .inr (8, [.ref q_t_now, .ref q_t_tried, .ref q_t_thought, .ref q_t_kept, .int t_undos, .ref q_t_saved, .int t_isSaved, .ref q_t_finds, .ref q_t_reach, .ref q_t_steps, .ref q_t_glows, .ref q_t_lower, .ref q_t_upper, .ref q_t_line, .int t_lined, .ref q_t_text, .int t_length, .int t_at, .int t_order, .ref q_t_told, .ref q_t_why, .ref q_t_more, .int t_whys, .int t_answer])), (q_t_now, .inl (cI, 133, .inl t_now)), (q_t_thought, .inl (cI, 133, .inl t_thought)), (q_t_finds, .inl (cI, 16, .inl t_finds)), (q_t_glows, .inl (cI, 257, .inl t_glows)), (q_t_lower, .inl (cI, 257, .inl t_lower)), (q_t_upper, .inl (cI, 257, .inl t_upper))] → va_S A s.heap H locs → ∀ ls : Array Slot, lv_has ls 5 [(0, .ref q_t), (1, .int v1), (2, .int v2), (4, .int v4)] → J_X10_period_b101 k14 k38  t_now t_thought t_finds t_glows t_lower t_upper v1 v2 v4 = some (r, o_t_now, o_t_thought, o_t_finds, o_t_glows, o_t_lower, o_t_upper) → W p l e rmX10_period s m args below meth c H locs 0 0 Q (F0 m 101 ls []) := by
    intro k14 hk14 k38 hk38 t_now t_thought t_finds t_glows t_lower t_upper v1 v2 v4 H locs hP hD hS ls hl hJ
    unfold J_X10_period_b101 at hJ
    refine jt_iinc hJ (fun x101 ex101 hJ => ?_)
    refine lv_iinc (v := x101) (lv' := [(4, .int x101), (0, .ref q_t), (1, .int v1), (2, .int v2)]) hx hb dX10_period_101 hl (k := 3) rfl ex101 (by decide) rfl (fun ls hl => ?_)
    refine lv_goto (tgt := 38) hx hb dX10_period_104 (by decide) ?_
    exact hk38 t_now t_thought t_finds t_glows t_lower t_upper v1 v2 x101  H locs  hP hD hS _ (lv_sub hl [1, 2, 3, 0] rfl) hJ
  have B107 : ∀ (k14 : (Nat → Int32) → (Nat → Int32) → (Nat → Int32) → (Nat → Int32) → (Nat → Int32) → (Nat → Int32) → Int32 → Int32 → Option (Int32 × (Nat → Int32) × (Nat → Int32) × (Nat → Int32) × (Nat → Int32) × (Nat → Int32) × (Nat → Int32))), (∀ (t_now : Nat → Int32) (t_thought : Nat → Int32) (t_finds : Nat → Int32) (t_glows : Nat → Int32) (t_lower : Nat → Int32) (t_upper : Nat → Int32) (v1 : Int32) (v2 : Int32) (H : Heap) (locs : List Loc), va_P D vwCl [(q_t, .inr (8, [.ref q_t_now, .ref q_t_tried, .ref q_t_thought, .ref q_t_kept, .int t_undos, .ref q_t_saved, .int t_isSaved, .ref q_t_finds, .ref q_t_reach, .ref q_t_steps, .ref q_t_glows, .ref q_t_lower, .ref q_t_upper, .ref q_t_line, .int t_lined, .ref q_t_text, .int t_length, .int t_at, .int t_order, .ref q_t_told, .ref q_t_why, .ref q_t_more, .int t_whys, .int t_answer])), (q_t_now, .inl (cI, 133, .inl t_now)), (q_t_thought, .inl (cI, 133, .inl t_thought)), (q_t_finds, .inl (cI, 16, .inl t_finds)), (q_t_glows, .inl (cI, 257, .inl t_glows)), (q_t_lower, .inl (cI, 257, .inl t_lower)), (q_t_upper, .inl (cI, 257, .inl t_upper))] H → va_D A [(q_t, .inr (8, [.ref q_t_now, .ref q_t_tried, .ref q_t_thought, .ref q_t_kept, .int t_undos, .ref q_t_saved, .int t_isSaved, .ref q_t_finds, .ref q_t_reach, .ref q_t_steps, .ref q_t_glows, .ref q_t_lower, .ref q_t_upper, .ref q_t_line, .int t_lined, .ref q_t_text, .int t_length, .int t_at, .int t_order, .ref q_t_told, .ref q_t_why, .ref q_t_more, .int t_whys, .int t_answer])), (q_t_now, .inl (cI, 133, .inl t_now)), (q_t_thought, .inl (cI, 133, .inl t_thought)), (q_t_finds, .inl (cI, 16, .inl t_finds)), (q_t_glows, .inl (cI, 257, .inl t_glows)), (q_t_lower, .inl (cI, 257, .inl t_lower)), (q_t_upper, .inl (cI, 257, .inl t_upper))] → va_S A s.heap H locs → ∀ ls : Array Slot, lv_has ls 5 [(0, .ref q_t), (1, .int v1), (2, .int v2)] → k14 t_now t_thought t_finds t_glows t_lower t_upper v1 v2 = some (r, o_t_now, o_t_thought, o_t_finds, o_t_glows, o_t_lower, o_t_upper) → W p l e rmX10_period s m args below meth c H locs 0 0 Q (F0 m 14 ls [])) → ∀ (t_now : Nat → Int32) (t_thought : Nat → Int32) (t_finds : Nat → Int32) (t_glows : Nat → Int32) (t_lower : Nat → Int32) (t_upper : Nat → Int32) (v1 : Int32) (v2 : Int32) (H : Heap) (locs : List Loc), va_P D vwCl [(q_t, .inr (8, [.ref q_t_now, .ref q_t_tried, .ref q_t_thought, .ref q_t_kept, .int t_undos, .ref q_t_saved, .int t_isSaved, .ref q_t_finds, .ref q_t_reach, .ref q_t_steps, .ref q_t_glows, .ref q_t_lower, .ref q_t_upper, .ref q_t_line, .int t_lined, .ref q_t_text, .int t_length, .int t_at, .int t_order, .ref q_t_told, .ref q_t_why, .ref q_t_more, .int t_whys, .int t_answer])), (q_t_now, .inl (cI, 133, .inl t_now)), (q_t_thought, .inl (cI, 133, .inl t_thought)), (q_t_finds, .inl (cI, 16, .inl t_finds)), (q_t_glows, .inl (cI, 257, .inl t_glows)), (q_t_lower, .inl (cI, 257, .inl t_lower)), (q_t_upper, .inl (cI, 257, .inl t_upper))] H → va_D A [(q_t, .inr (8, [.ref q_t_now, .ref q_t_tried, .ref q_t_thought, .ref q_t_kept, .int t_undos, .ref q_t_saved, .int t_isSaved, .ref q_t_finds, .ref q_t_reach, .ref q_t_steps, .ref q_t_glows, .ref q_t_lower, .ref q_t_upper, .ref q_t_line, .int t_lined, .ref q_t_text, .int t_length, .int t_at, .int t_order, .ref q_t_told, .ref q_t_why, .ref q_t_more, .int t_whys, .int t_answer])), (q_t_now, .inl (cI, 133, .inl t_now)), (q_t_thought, .inl (cI, 133, .inl t_thought)), (q_t_finds, .inl (cI, 16, .inl t_finds)), (q_t_glows, .inl (cI, 257, .inl t_glows)), (q_t_lower, .inl (cI, 257, .inl t_lower)), (q_t_upper, .inl (cI, 257, .inl t_upper))] → va_S A s.heap H locs → ∀ ls : Array Slot, lv_has ls 5 [(0, .ref q_t), (1, .int v1), (2, .int v2)] → J_X10_period_b107 k14  t_now t_thought t_finds t_glows t_lower t_upper v1 v2 = some (r, o_t_now, o_t_thought, o_t_finds, o_t_glows, o_t_lower, o_t_upper) → W p l e rmX10_period s m args below meth c H locs 0 0 Q (F0 m 107 ls []) := by
    intro k14 hk14 t_now t_thought t_finds t_glows t_lower t_upper v1 v2 H locs hP hD hS ls hl hJ
    unfold J_X10_period_b107 at hJ
    refine jt_iinc hJ (fun x107 ex107 hJ => ?_)
    refine lv_iinc (v := x107) (lv' := [(2, .int x107), (0, .ref q_t), (1, .int v1)]) hx hb dX10_period_107 hl (k := 2) rfl ex107 (by decide) rfl (fun ls hl => ?_)
    refine lv_goto (tgt := 14) hx hb dX10_period_110 (by decide) ?_
    exact hk14 t_now t_thought t_finds t_glows t_lower t_upper v1 x107  H locs  hP hD hS _ (lv_sub hl [1, 2, 0] rfl) hJ
  have L38 : ∀ (k14 : (Nat → Int32) → (Nat → Int32) → (Nat → Int32) → (Nat → Int32) → (Nat → Int32) → (Nat → Int32) → Int32 → Int32 → Option (Int32 × (Nat → Int32) × (Nat → Int32) × (Nat → Int32) × (Nat → Int32) × (Nat → Int32) × (Nat → Int32))), (∀ (t_now : Nat → Int32) (t_thought : Nat → Int32) (t_finds : Nat → Int32) (t_glows : Nat → Int32) (t_lower : Nat → Int32) (t_upper : Nat → Int32) (v1 : Int32) (v2 : Int32) (H : Heap) (locs : List Loc), va_P D vwCl [(q_t, .inr (8, [.ref q_t_now, .ref q_t_tried, .ref q_t_thought, .ref q_t_kept, .int t_undos, .ref q_t_saved, .int t_isSaved, .ref q_t_finds, .ref q_t_reach, .ref q_t_steps, .ref q_t_glows, .ref q_t_lower, .ref q_t_upper, .ref q_t_line, .int t_lined, .ref q_t_text, .int t_length, .int t_at, .int t_order, .ref q_t_told, .ref q_t_why, .ref q_t_more, .int t_whys, .int t_answer])), (q_t_now, .inl (cI, 133, .inl t_now)), (q_t_thought, .inl (cI, 133, .inl t_thought)), (q_t_finds, .inl (cI, 16, .inl t_finds)), (q_t_glows, .inl (cI, 257, .inl t_glows)), (q_t_lower, .inl (cI, 257, .inl t_lower)), (q_t_upper, .inl (cI, 257, .inl t_upper))] H → va_D A [(q_t, .inr (8, [.ref q_t_now, .ref q_t_tried, .ref q_t_thought, .ref q_t_kept, .int t_undos, .ref q_t_saved, .int t_isSaved, .ref q_t_finds, .ref q_t_reach, .ref q_t_steps, .ref q_t_glows, .ref q_t_lower, .ref q_t_upper, .ref q_t_line, .int t_lined, .ref q_t_text, .int t_length, .int t_at, .int t_order, .ref q_t_told, .ref q_t_why, .ref q_t_more, .int t_whys, .int t_answer])), (q_t_now, .inl (cI, 133, .inl t_now)), (q_t_thought, .inl (cI, 133, .inl t_thought)), (q_t_finds, .inl (cI, 16, .inl t_finds)), (q_t_glows, .inl (cI, 257, .inl t_glows)), (q_t_lower, .inl (cI, 257, .inl t_lower)), (q_t_upper, .inl (cI, 257, .inl t_upper))] → va_S A s.heap H locs → ∀ ls : Array Slot, lv_has ls 5 [(0, .ref q_t), (1, .int v1), (2, .int v2)] → k14 t_now t_thought t_finds t_glows t_lower t_upper v1 v2 = some (r, o_t_now, o_t_thought, o_t_finds, o_t_glows, o_t_lower, o_t_upper) → W p l e rmX10_period s m args below meth c H locs 0 0 Q (F0 m 14 ls [])) → ∀ (nf : Nat), ∀ (t_now : Nat → Int32) (t_thought : Nat → Int32) (t_finds : Nat → Int32) (t_glows : Nat → Int32) (t_lower : Nat → Int32) (t_upper : Nat → Int32) (v1 : Int32) (v2 : Int32) (v4 : Int32) (H : Heap) (locs : List Loc), va_P D vwCl [(q_t, .inr (8, [.ref q_t_now, .ref q_t_tried, .ref q_t_thought, .ref q_t_kept, .int t_undos, .ref q_t_saved, .int t_isSaved, .ref q_t_finds, .ref q_t_reach, .ref q_t_steps, .ref q_t_glows, .ref q_t_lower, .ref q_t_upper, .ref q_t_line, .int t_lined, .ref q_t_text, .int t_length, .int t_at, .int t_order, .ref q_t_told, .ref q_t_why, .ref q_t_more, .int t_whys, .int t_answer])), (q_t_now, .inl (cI, 133, .inl t_now)), (q_t_thought, .inl (cI, 133, .inl t_thought)), (q_t_finds, .inl (cI, 16, .inl t_finds)), (q_t_glows, .inl (cI, 257, .inl t_glows)), (q_t_lower, .inl (cI, 257, .inl t_lower)), (q_t_upper, .inl (cI, 257, .inl t_upper))] H → va_D A [(q_t, .inr (8, [.ref q_t_now, .ref q_t_tried, .ref q_t_thought, .ref q_t_kept, .int t_undos, .ref q_t_saved, .int t_isSaved, .ref q_t_finds, .ref q_t_reach, .ref q_t_steps, .ref q_t_glows, .ref q_t_lower, .ref q_t_upper, .ref q_t_line, .int t_lined, .ref q_t_text, .int t_length, .int t_at, .int t_order, .ref q_t_told, .ref q_t_why, .ref q_t_more, .int t_whys, .int t_answer])), (q_t_now, .inl (cI, 133, .inl t_now)), (q_t_thought, .inl (cI, 133, .inl t_thought)), (q_t_finds, .inl (cI, 16, .inl t_finds)), (q_t_glows, .inl (cI, 257, .inl t_glows)), (q_t_lower, .inl (cI, 257, .inl t_lower)), (q_t_upper, .inl (cI, 257, .inl t_upper))] → va_S A s.heap H locs → ∀ ls : Array Slot, lv_has ls 5 [(0, .ref q_t), (1, .int v1), (2, .int v2), (4, .int v4)] → J_X10_period_L38 k14  nf t_now t_thought t_finds t_glows t_lower t_upper v1 v2 v4 = some (r, o_t_now, o_t_thought, o_t_finds, o_t_glows, o_t_lower, o_t_upper) → W p l e rmX10_period s m args below meth c H locs 0 0 Q (F0 m 38 ls []) := by
    intro k14 hk14 nf
    induction nf with
    | zero =>
      intro t_now t_thought t_finds t_glows t_lower t_upper v1 v2 v4 H locs hP hD hS ls hl hJ
      rw [J_X10_period_L38] at hJ
      cases hJ
    | succ nf ih =>
      intro t_now t_thought t_finds t_glows t_lower t_upper v1 v2 v4 H locs hP hD hS ls hl hJ
      rw [J_X10_period_L38] at hJ
      refine lv_iload hx hb dX10_period_38 (lv_at hl 3 rfl) ?_
      refine lv_iload_n hx hb dX10_period_40 rfl (lv_at hl 2 rfl) ?_
      refine jif_icmp_ge (tgt := 107) hx hb dX10_period_41 (by decide) hJ (fun hJ => ?_) (fun hJ => ?_)
      · exact B107 k14 hk14 t_now t_thought t_finds t_glows t_lower t_upper v1 v2  H locs  hP hD hS _ (lv_sub hl [0, 1, 2] rfl) hJ
      · refine lv_iload_n hx hb dX10_period_44 rfl (lv_at hl 1 rfl) ?_
        refine jif_ge (tgt := 107) hx hb dX10_period_45 (by decide) hJ (fun hJ => ?_) (fun hJ => ?_)
        · exact B107 k14 hk14 t_now t_thought t_finds t_glows t_lower t_upper v1 v2  H locs  hP hD hS _ (lv_sub hl [0, 1, 2] rfl) hJ
        · refine lv_aload_n hx hb dX10_period_48 rfl (lv_at hl 0 rfl) ?_
          refine va_get (ci := 8) (v := .ref q_t_glows) (C := RX10) (T := TX10) (N := 24) hx hb hts hin_X10 hown hK hP 0 rfl rfl 10 (by decide) fl_34 (fun _ h9 => h9) rfl dX10_period_49 ?_
          refine lv_iload hx hb dX10_period_52 (lv_at hl 3 rfl) ?_
          obtain ⟨hin, hJ⟩ := chk_in hJ
          refine va_iald hx hb hK hP 4 0 rfl rfl hin dX10_period_54 ?_
          refine jt_i hJ (fun x54 hJ => ?_)
          refine lv_aload_n hx hb dX10_period_55 rfl (lv_at hl 0 rfl) ?_
          refine va_get (ci := 8) (v := .ref q_t_glows) (C := RX10) (T := TX10) (N := 24) hx hb hts hin_X10 hown hK hP 0 rfl rfl 10 (by decide) fl_34 (fun _ h9 => h9) rfl dX10_period_56 ?_
          refine lv_iload_n hx hb dX10_period_59 rfl (lv_at hl 2 rfl) ?_
          obtain ⟨hin, hJ⟩ := chk_in hJ
          refine va_iald hx hb hK hP 4 0 rfl rfl hin dX10_period_60 ?_
          refine jt_i hJ (fun x60 hJ => ?_)
          refine jif_icmp_ne (tgt := 101) hx hb dX10_period_61 (by decide) hJ (fun hJ => ?_) (fun hJ => ?_)
          · exact B101 k14 hk14 (fun z0 z1 z2 z3 z4 z5 z6 z7 z8 => J_X10_period_L38 k14  nf z0 z1 z2 z3 z4 z5 z6 z7 z8) ih t_now t_thought t_finds t_glows t_lower t_upper v1 v2 v4  H locs  hP hD hS _ (lv_sub hl [0, 1, 2, 3] rfl) hJ
          · refine lv_aload_n hx hb dX10_period_64 rfl (lv_at hl 0 rfl) ?_
            refine va_get (ci := 8) (v := .ref q_t_lower) (C := RX10) (T := TX10) (N := 24) hx hb hts hin_X10 hown hK hP 0 rfl rfl 11 (by decide) fl_37 (fun _ h9 => h9) rfl dX10_period_65 ?_
            refine lv_iload hx hb dX10_period_68 (lv_at hl 3 rfl) ?_
            obtain ⟨hin, hJ⟩ := chk_in hJ
            refine va_iald hx hb hK hP 5 0 rfl rfl hin dX10_period_70 ?_
            refine jt_i hJ (fun x70 hJ => ?_)
            refine lv_aload_n hx hb dX10_period_71 rfl (lv_at hl 0 rfl) ?_
            refine va_get (ci := 8) (v := .ref q_t_lower) (C := RX10) (T := TX10) (N := 24) hx hb hts hin_X10 hown hK hP 0 rfl rfl 11 (by decide) fl_37 (fun _ h9 => h9) rfl dX10_period_72 ?_
            refine lv_iload_n hx hb dX10_period_75 rfl (lv_at hl 2 rfl) ?_
            obtain ⟨hin, hJ⟩ := chk_in hJ
            refine va_iald hx hb hK hP 5 0 rfl rfl hin dX10_period_76 ?_
            refine jt_i hJ (fun x76 hJ => ?_)
            refine jif_icmp_ne (tgt := 101) hx hb dX10_period_77 (by decide) hJ (fun hJ => ?_) (fun hJ => ?_)
            · exact B101 k14 hk14 (fun z0 z1 z2 z3 z4 z5 z6 z7 z8 => J_X10_period_L38 k14  nf z0 z1 z2 z3 z4 z5 z6 z7 z8) ih t_now t_thought t_finds t_glows t_lower t_upper v1 v2 v4  H locs  hP hD hS _ (lv_sub hl [0, 1, 2, 3] rfl) hJ
            · refine lv_aload_n hx hb dX10_period_80 rfl (lv_at hl 0 rfl) ?_
              refine va_get (ci := 8) (v := .ref q_t_upper) (C := RX10) (T := TX10) (N := 24) hx hb hts hin_X10 hown hK hP 0 rfl rfl 12 (by decide) fl_40 (fun _ h9 => h9) rfl dX10_period_81 ?_
              refine lv_iload hx hb dX10_period_84 (lv_at hl 3 rfl) ?_
              obtain ⟨hin, hJ⟩ := chk_in hJ
              refine va_iald hx hb hK hP 6 0 rfl rfl hin dX10_period_86 ?_
              refine jt_i hJ (fun x86 hJ => ?_)
              refine lv_aload_n hx hb dX10_period_87 rfl (lv_at hl 0 rfl) ?_
              refine va_get (ci := 8) (v := .ref q_t_upper) (C := RX10) (T := TX10) (N := 24) hx hb hts hin_X10 hown hK hP 0 rfl rfl 12 (by decide) fl_40 (fun _ h9 => h9) rfl dX10_period_88 ?_
              refine lv_iload_n hx hb dX10_period_91 rfl (lv_at hl 2 rfl) ?_
              obtain ⟨hin, hJ⟩ := chk_in hJ
              refine va_iald hx hb hK hP 6 0 rfl rfl hin dX10_period_92 ?_
              refine jt_i hJ (fun x92 hJ => ?_)
              refine jif_icmp_ne (tgt := 101) hx hb dX10_period_93 (by decide) hJ (fun hJ => ?_) (fun hJ => ?_)
              · exact B101 k14 hk14 (fun z0 z1 z2 z3 z4 z5 z6 z7 z8 => J_X10_period_L38 k14  nf z0 z1 z2 z3 z4 z5 z6 z7 z8) ih t_now t_thought t_finds t_glows t_lower t_upper v1 v2 v4  H locs  hP hD hS _ (lv_sub hl [0, 1, 2, 3] rfl) hJ
              · refine lv_iload_n hx hb dX10_period_96 rfl (lv_at hl 2 rfl) ?_
                refine lv_iload hx hb dX10_period_97 (lv_at hl 3 rfl) ?_
                refine lv_isub hx hb dX10_period_99 ?_
                refine jt_i hJ (fun x99 hJ => ?_)
                refine lv_istore_n (lv' := [(1, .int x99), (0, .ref q_t), (2, .int v2), (4, .int v4)]) hx hb dX10_period_100 rfl hl (by decide) rfl (fun ls hl => ?_)
                exact B101 k14 hk14 (fun z0 z1 z2 z3 z4 z5 z6 z7 z8 => J_X10_period_L38 k14  nf z0 z1 z2 z3 z4 z5 z6 z7 z8) ih t_now t_thought t_finds t_glows t_lower t_upper x99 v2 v4  H locs  hP hD hS _ (lv_sub hl [1, 0, 2, 3] rfl) hJ
  have B113 : ∀ (t_now : Nat → Int32) (t_thought : Nat → Int32) (t_finds : Nat → Int32) (t_glows : Nat → Int32) (t_lower : Nat → Int32) (t_upper : Nat → Int32) (v1 : Int32) (H : Heap) (locs : List Loc), va_P D vwCl [(q_t, .inr (8, [.ref q_t_now, .ref q_t_tried, .ref q_t_thought, .ref q_t_kept, .int t_undos, .ref q_t_saved, .int t_isSaved, .ref q_t_finds, .ref q_t_reach, .ref q_t_steps, .ref q_t_glows, .ref q_t_lower, .ref q_t_upper, .ref q_t_line, .int t_lined, .ref q_t_text, .int t_length, .int t_at, .int t_order, .ref q_t_told, .ref q_t_why, .ref q_t_more, .int t_whys, .int t_answer])), (q_t_now, .inl (cI, 133, .inl t_now)), (q_t_thought, .inl (cI, 133, .inl t_thought)), (q_t_finds, .inl (cI, 16, .inl t_finds)), (q_t_glows, .inl (cI, 257, .inl t_glows)), (q_t_lower, .inl (cI, 257, .inl t_lower)), (q_t_upper, .inl (cI, 257, .inl t_upper))] H → va_D A [(q_t, .inr (8, [.ref q_t_now, .ref q_t_tried, .ref q_t_thought, .ref q_t_kept, .int t_undos, .ref q_t_saved, .int t_isSaved, .ref q_t_finds, .ref q_t_reach, .ref q_t_steps, .ref q_t_glows, .ref q_t_lower, .ref q_t_upper, .ref q_t_line, .int t_lined, .ref q_t_text, .int t_length, .int t_at, .int t_order, .ref q_t_told, .ref q_t_why, .ref q_t_more, .int t_whys, .int t_answer])), (q_t_now, .inl (cI, 133, .inl t_now)), (q_t_thought, .inl (cI, 133, .inl t_thought)), (q_t_finds, .inl (cI, 16, .inl t_finds)), (q_t_glows, .inl (cI, 257, .inl t_glows)), (q_t_lower, .inl (cI, 257, .inl t_lower)), (q_t_upper, .inl (cI, 257, .inl t_upper))] → va_S A s.heap H locs → ∀ ls : Array Slot, lv_has ls 5 [(0, .ref q_t), (1, .int v1)] → J_X10_period_b113   t_now t_thought t_finds t_glows t_lower t_upper v1 = some (r, o_t_now, o_t_thought, o_t_finds, o_t_glows, o_t_lower, o_t_upper) → W p l e rmX10_period s m args below meth c H locs 0 0 Q (F0 m 113 ls []) := by
    intro t_now t_thought t_finds t_glows t_lower t_upper v1 H locs hP hD hS ls hl hJ
    unfold J_X10_period_b113 at hJ
    refine lv_aload_n hx hb dX10_period_113 rfl (lv_at hl 0 rfl) ?_
    obtain ⟨t_now_114, hc114, hJ⟩ := bnd1_some hJ
    refine jcV_v (C := RX10) (T := TX10) (N := 24) (ci := 8) (q0 := 0) (As := []) (rest := []) (isC := [0, 1, 2]) (isR := [3, 4, 5, 6]) (isB := [4, 5, 6, 0, 1, 2, 3]) (wr := [(q_t_finds, .inl (cI, 16, .inl t_finds)), (q_t_glows, .inl (cI, 257, .inl t_glows)), (q_t_lower, .inl (cI, 257, .inl t_lower)), (q_t_upper, .inl (cI, 257, .inl t_upper))]) (ws2 := [(q_t, .inr (8, [.ref q_t_now, .ref q_t_tried, .ref q_t_thought, .ref q_t_kept, .int t_undos, .ref q_t_saved, .int t_isSaved, .ref q_t_finds, .ref q_t_reach, .ref q_t_steps, .ref q_t_glows, .ref q_t_lower, .ref q_t_upper, .ref q_t_line, .int t_lined, .ref q_t_text, .int t_length, .int t_at, .int t_order, .ref q_t_told, .ref q_t_why, .ref q_t_more, .int t_whys, .int t_answer])), (q_t_now, .inl (cI, 133, .inl t_now_114)), (q_t_thought, .inl (cI, 133, .inl t_thought)), (q_t_finds, .inl (cI, 16, .inl t_finds)), (q_t_glows, .inl (cI, 257, .inl t_glows)), (q_t_lower, .inl (cI, 257, .inl t_lower)), (q_t_upper, .inl (cI, 257, .inl t_upper))]) hF (c_X10_thinksNoMore l D cI cJ cC cL q_t q_t_now q_t_tried q_t_thought q_t_kept q_t_saved q_t_finds q_t_reach q_t_steps q_t_glows q_t_lower q_t_upper q_t_line q_t_text q_t_told q_t_why q_t_more t_undos t_isSaved t_lined t_length t_at t_order t_whys t_answer t_now t_thought t_now_114 hc114 H.size) (cwV 0 hts gX10_period_X10_thinksNoMore rfl rfl rfl (by decide +kernel) ⟨Nat.le_of_ble_eq_true rfl, Nat.le_of_ble_eq_true rfl⟩) rfl hl rfl (Nat.le_of_ble_eq_true rfl) dX10_period_114 ⟨Nat.zero_le _, Nat.zero_le _⟩ hK hN KX_T trivial hP hD hS hA rfl rfl rfl rfl rfl rfl (by decide) rfl rfl (fun H locs hP hD hS => ?_)
    refine lv_iload_n hx hb dX10_period_117 rfl (lv_at hl 1 rfl) ?_
    have hJ := Option.some.inj hJ
    obtain ⟨e0, e1, e2, e3, e4, e5, e6⟩ : (v1) = r ∧ (t_now_114) = o_t_now ∧ (t_thought) = o_t_thought ∧ (t_finds) = o_t_finds ∧ (t_glows) = o_t_glows ∧ (t_lower) = o_t_lower ∧ (t_upper) = o_t_upper := ⟨congrArg (fun z => z.1) hJ, congrArg (fun z => z.2.1) hJ, congrArg (fun z => z.2.2.1) hJ, congrArg (fun z => z.2.2.2.1) hJ, congrArg (fun z => z.2.2.2.2.1) hJ, congrArg (fun z => z.2.2.2.2.2.1) hJ, congrArg (fun z => z.2.2.2.2.2.2) hJ⟩
    exact hRet (by rw [← e1, ← e2, ← e3, ← e4, ← e5, ← e6]; exact hP) (by rw [← e1, ← e2, ← e3, ← e4, ← e5, ← e6]; exact hD) hS e0 dX10_period_118
  have L14 : ∀ (nf : Nat), ∀ (t_now : Nat → Int32) (t_thought : Nat → Int32) (t_finds : Nat → Int32) (t_glows : Nat → Int32) (t_lower : Nat → Int32) (t_upper : Nat → Int32) (v1 : Int32) (v2 : Int32) (H : Heap) (locs : List Loc), va_P D vwCl [(q_t, .inr (8, [.ref q_t_now, .ref q_t_tried, .ref q_t_thought, .ref q_t_kept, .int t_undos, .ref q_t_saved, .int t_isSaved, .ref q_t_finds, .ref q_t_reach, .ref q_t_steps, .ref q_t_glows, .ref q_t_lower, .ref q_t_upper, .ref q_t_line, .int t_lined, .ref q_t_text, .int t_length, .int t_at, .int t_order, .ref q_t_told, .ref q_t_why, .ref q_t_more, .int t_whys, .int t_answer])), (q_t_now, .inl (cI, 133, .inl t_now)), (q_t_thought, .inl (cI, 133, .inl t_thought)), (q_t_finds, .inl (cI, 16, .inl t_finds)), (q_t_glows, .inl (cI, 257, .inl t_glows)), (q_t_lower, .inl (cI, 257, .inl t_lower)), (q_t_upper, .inl (cI, 257, .inl t_upper))] H → va_D A [(q_t, .inr (8, [.ref q_t_now, .ref q_t_tried, .ref q_t_thought, .ref q_t_kept, .int t_undos, .ref q_t_saved, .int t_isSaved, .ref q_t_finds, .ref q_t_reach, .ref q_t_steps, .ref q_t_glows, .ref q_t_lower, .ref q_t_upper, .ref q_t_line, .int t_lined, .ref q_t_text, .int t_length, .int t_at, .int t_order, .ref q_t_told, .ref q_t_why, .ref q_t_more, .int t_whys, .int t_answer])), (q_t_now, .inl (cI, 133, .inl t_now)), (q_t_thought, .inl (cI, 133, .inl t_thought)), (q_t_finds, .inl (cI, 16, .inl t_finds)), (q_t_glows, .inl (cI, 257, .inl t_glows)), (q_t_lower, .inl (cI, 257, .inl t_lower)), (q_t_upper, .inl (cI, 257, .inl t_upper))] → va_S A s.heap H locs → ∀ ls : Array Slot, lv_has ls 5 [(0, .ref q_t), (1, .int v1), (2, .int v2)] → J_X10_period_L14   nf t_now t_thought t_finds t_glows t_lower t_upper v1 v2 = some (r, o_t_now, o_t_thought, o_t_finds, o_t_glows, o_t_lower, o_t_upper) → W p l e rmX10_period s m args below meth c H locs 0 0 Q (F0 m 14 ls []) := by
    intro nf
    induction nf with
    | zero =>
      intro t_now t_thought t_finds t_glows t_lower t_upper v1 v2 H locs hP hD hS ls hl hJ
      rw [J_X10_period_L14] at hJ
      cases hJ
    | succ nf ih =>
      intro t_now t_thought t_finds t_glows t_lower t_upper v1 v2 H locs hP hD hS ls hl hJ
      rw [J_X10_period_L14] at hJ
      refine lv_iload_n hx hb dX10_period_14 rfl (lv_at hl 2 rfl) ?_
      refine lv_sipush (v := (256 : Int32)) hx hb dX10_period_15 (by decide) ?_
      refine jif_icmp_gt (tgt := 113) hx hb dX10_period_18 (by decide) hJ (fun hJ => ?_) (fun hJ => ?_)
      · exact B113  t_now t_thought t_finds t_glows t_lower t_upper v1  H locs  hP hD hS _ (lv_sub hl [0, 1] rfl) hJ
      · refine lv_iload_n hx hb dX10_period_21 rfl (lv_at hl 1 rfl) ?_
        refine jif_ge (tgt := 113) hx hb dX10_period_22 (by decide) hJ (fun hJ => ?_) (fun hJ => ?_)
        · exact B113  t_now t_thought t_finds t_glows t_lower t_upper v1  H locs  hP hD hS _ (lv_sub hl [0, 1] rfl) hJ
        · refine lv_aload_n hx hb dX10_period_25 rfl (lv_at hl 0 rfl) ?_
          obtain ⟨x26, t_now_26, t_finds_26, hc26, hJ⟩ := bnd3_some hJ
          refine jcV_i (C := RX10) (T := TX10) (N := 24) (ci := 8) (q0 := 0) (As := []) (rest := []) (isC := [0, 1, 3]) (isR := [2, 4, 5, 6]) (isB := [4, 5, 0, 6, 1, 2, 3]) (wr := [(q_t_thought, .inl (cI, 133, .inl t_thought)), (q_t_glows, .inl (cI, 257, .inl t_glows)), (q_t_lower, .inl (cI, 257, .inl t_lower)), (q_t_upper, .inl (cI, 257, .inl t_upper))]) (ws2 := [(q_t, .inr (8, [.ref q_t_now, .ref q_t_tried, .ref q_t_thought, .ref q_t_kept, .int t_undos, .ref q_t_saved, .int t_isSaved, .ref q_t_finds, .ref q_t_reach, .ref q_t_steps, .ref q_t_glows, .ref q_t_lower, .ref q_t_upper, .ref q_t_line, .int t_lined, .ref q_t_text, .int t_length, .int t_at, .int t_order, .ref q_t_told, .ref q_t_why, .ref q_t_more, .int t_whys, .int t_answer])), (q_t_now, .inl (cI, 133, .inl t_now_26)), (q_t_thought, .inl (cI, 133, .inl t_thought)), (q_t_finds, .inl (cI, 16, .inl t_finds_26)), (q_t_glows, .inl (cI, 257, .inl t_glows)), (q_t_lower, .inl (cI, 257, .inl t_lower)), (q_t_upper, .inl (cI, 257, .inl t_upper))]) hF (c_X10_goes l D cI cJ cC cL q_t q_t_now q_t_tried q_t_thought q_t_kept q_t_saved q_t_finds q_t_reach q_t_steps q_t_glows q_t_lower q_t_upper q_t_line q_t_text q_t_told q_t_why q_t_more t_undos t_isSaved t_lined t_length t_at t_order t_whys t_answer t_now t_finds x26 t_now_26 t_finds_26 hc26 H.size) (cwV 0 hts gX10_period_X10_goes rfl rfl rfl (by decide +kernel) ⟨Nat.le_of_ble_eq_true rfl, Nat.le_of_ble_eq_true rfl⟩) rfl hl rfl (Nat.le_of_ble_eq_true rfl) dX10_period_26 ⟨Nat.zero_le _, Nat.zero_le _⟩ hK hN KX_T trivial hP hD hS hA rfl rfl rfl rfl rfl rfl (by decide) rfl rfl (fun H locs hP hD hS => ?_)
          refine lv_istore_n (lv' := [(3, .int x26), (0, .ref q_t), (1, .int v1), (2, .int v2)]) hx hb dX10_period_29 rfl hl (by decide) rfl (fun ls hl => ?_)
          refine lv_aload_n hx hb dX10_period_30 rfl (lv_at hl 1 rfl) ?_
          refine lv_iload_n hx hb dX10_period_31 rfl (lv_at hl 3 rfl) ?_
          obtain ⟨t_glows_32, t_lower_32, t_upper_32, hc32, hJ⟩ := bnd3_some hJ
          refine jcV_v (C := RX10) (T := TX10) (N := 24) (ci := 8) (q0 := 0) (As := [.int v2]) (rest := []) (isC := [0, 1, 4, 5, 6]) (isR := [2, 3]) (isB := [2, 3, 0, 1, 4, 5, 6]) (wr := [(q_t_thought, .inl (cI, 133, .inl t_thought)), (q_t_finds, .inl (cI, 16, .inl t_finds_26))]) (ws2 := [(q_t, .inr (8, [.ref q_t_now, .ref q_t_tried, .ref q_t_thought, .ref q_t_kept, .int t_undos, .ref q_t_saved, .int t_isSaved, .ref q_t_finds, .ref q_t_reach, .ref q_t_steps, .ref q_t_glows, .ref q_t_lower, .ref q_t_upper, .ref q_t_line, .int t_lined, .ref q_t_text, .int t_length, .int t_at, .int t_order, .ref q_t_told, .ref q_t_why, .ref q_t_more, .int t_whys, .int t_answer])), (q_t_now, .inl (cI, 133, .inl t_now_26)), (q_t_thought, .inl (cI, 133, .inl t_thought)), (q_t_finds, .inl (cI, 16, .inl t_finds_26)), (q_t_glows, .inl (cI, 257, .inl t_glows_32)), (q_t_lower, .inl (cI, 257, .inl t_lower_32)), (q_t_upper, .inl (cI, 257, .inl t_upper_32))]) hF (c_X10_notes l D cI cJ cC cL q_t q_t_now q_t_tried q_t_thought q_t_kept q_t_saved q_t_finds q_t_reach q_t_steps q_t_glows q_t_lower q_t_upper q_t_line q_t_text q_t_told q_t_why q_t_more t_undos t_isSaved t_lined t_length t_at t_order t_whys t_answer t_now_26 t_glows t_lower t_upper v2 t_glows_32 t_lower_32 t_upper_32 hc32 H.size) (cwV 1 hts gX10_period_X10_notes rfl rfl rfl (by decide +kernel) ⟨Nat.le_of_ble_eq_true rfl, Nat.le_of_ble_eq_true rfl⟩) rfl hl rfl (Nat.le_of_ble_eq_true rfl) dX10_period_32 ⟨Nat.zero_le _, Nat.zero_le _⟩ hK hN KX_T trivial hP hD hS hA rfl rfl rfl rfl rfl rfl (by decide) rfl rfl (fun H locs hP hD hS => ?_)
          refine lv_iconst (v := (0 : Int32)) hx hb dX10_period_35 (by decide) ?_
          refine lv_istore (lv' := [(4, .int (0 : Int32)), (3, .int x26), (0, .ref q_t), (1, .int v1), (2, .int v2)]) hx hb dX10_period_36 hl (by decide) rfl (fun ls hl => ?_)
          exact L38 (fun z0 z1 z2 z3 z4 z5 z6 z7 => J_X10_period_L14  nf z0 z1 z2 z3 z4 z5 z6 z7) ih FU t_now_26 t_thought t_finds_26 t_glows_32 t_lower_32 t_upper_32 v1 v2 (0 : Int32)  H locs  hP hD hS _ (lv_sub hl [2, 3, 4, 0] rfl) hJ
  unfold J_X10_period at hJ
  refine lv_aload_n hx hb dX10_period_0 rfl (lv_at hl 0 rfl) ?_
  obtain ⟨t_thought_1, hc1, hJ⟩ := bnd1_some hJ
  refine jcV_v (C := RX10) (T := TX10) (N := 24) (ci := 8) (q0 := 0) (As := []) (rest := []) (isC := [0, 1, 2]) (isR := [3, 4, 5, 6]) (isB := [4, 5, 6, 0, 1, 2, 3]) (wr := [(q_t_finds, .inl (cI, 16, .inl t_finds)), (q_t_glows, .inl (cI, 257, .inl t_glows)), (q_t_lower, .inl (cI, 257, .inl t_lower)), (q_t_upper, .inl (cI, 257, .inl t_upper))]) (ws2 := [(q_t, .inr (8, [.ref q_t_now, .ref q_t_tried, .ref q_t_thought, .ref q_t_kept, .int t_undos, .ref q_t_saved, .int t_isSaved, .ref q_t_finds, .ref q_t_reach, .ref q_t_steps, .ref q_t_glows, .ref q_t_lower, .ref q_t_upper, .ref q_t_line, .int t_lined, .ref q_t_text, .int t_length, .int t_at, .int t_order, .ref q_t_told, .ref q_t_why, .ref q_t_more, .int t_whys, .int t_answer])), (q_t_now, .inl (cI, 133, .inl t_now)), (q_t_thought, .inl (cI, 133, .inl t_thought_1)), (q_t_finds, .inl (cI, 16, .inl t_finds)), (q_t_glows, .inl (cI, 257, .inl t_glows)), (q_t_lower, .inl (cI, 257, .inl t_lower)), (q_t_upper, .inl (cI, 257, .inl t_upper))]) hF (c_X10_thinks l D cI cJ cC cL q_t q_t_now q_t_tried q_t_thought q_t_kept q_t_saved q_t_finds q_t_reach q_t_steps q_t_glows q_t_lower q_t_upper q_t_line q_t_text q_t_told q_t_why q_t_more t_undos t_isSaved t_lined t_length t_at t_order t_whys t_answer t_now t_thought t_thought_1 hc1 s.heap.size) (cwV 0 hts gX10_period_X10_thinks rfl rfl rfl (by decide +kernel) ⟨Nat.le_of_ble_eq_true rfl, Nat.le_of_ble_eq_true rfl⟩) rfl hl rfl (Nat.le_of_ble_eq_true rfl) dX10_period_1 ⟨Nat.zero_le _, Nat.zero_le _⟩ hK hN KX_T trivial hP hD hS hA rfl rfl rfl rfl rfl rfl (by decide) rfl rfl (fun H locs hP hD hS => ?_)
  refine lv_bipush (v := (-15 : Int32)) hx hb dX10_period_4 (by decide) ?_
  refine lv_istore_n (lv' := [(1, .int (-15 : Int32)), (0, .ref q_t)]) hx hb dX10_period_6 rfl hl (by decide) rfl (fun ls hl => ?_)
  refine lv_aload_n hx hb dX10_period_7 rfl (lv_at hl 1 rfl) ?_
  refine lv_iconst (v := (0 : Int32)) hx hb dX10_period_8 (by decide) ?_
  obtain ⟨t_glows_9, t_lower_9, t_upper_9, hc9, hJ⟩ := bnd3_some hJ
  refine jcV_v (C := RX10) (T := TX10) (N := 24) (ci := 8) (q0 := 0) (As := [.int (0 : Int32)]) (rest := []) (isC := [0, 1, 4, 5, 6]) (isR := [2, 3]) (isB := [2, 3, 0, 1, 4, 5, 6]) (wr := [(q_t_thought, .inl (cI, 133, .inl t_thought_1)), (q_t_finds, .inl (cI, 16, .inl t_finds))]) (ws2 := [(q_t, .inr (8, [.ref q_t_now, .ref q_t_tried, .ref q_t_thought, .ref q_t_kept, .int t_undos, .ref q_t_saved, .int t_isSaved, .ref q_t_finds, .ref q_t_reach, .ref q_t_steps, .ref q_t_glows, .ref q_t_lower, .ref q_t_upper, .ref q_t_line, .int t_lined, .ref q_t_text, .int t_length, .int t_at, .int t_order, .ref q_t_told, .ref q_t_why, .ref q_t_more, .int t_whys, .int t_answer])), (q_t_now, .inl (cI, 133, .inl t_now)), (q_t_thought, .inl (cI, 133, .inl t_thought_1)), (q_t_finds, .inl (cI, 16, .inl t_finds)), (q_t_glows, .inl (cI, 257, .inl t_glows_9)), (q_t_lower, .inl (cI, 257, .inl t_lower_9)), (q_t_upper, .inl (cI, 257, .inl t_upper_9))]) hF (c_X10_notes l D cI cJ cC cL q_t q_t_now q_t_tried q_t_thought q_t_kept q_t_saved q_t_finds q_t_reach q_t_steps q_t_glows q_t_lower q_t_upper q_t_line q_t_text q_t_told q_t_why q_t_more t_undos t_isSaved t_lined t_length t_at t_order t_whys t_answer t_now t_glows t_lower t_upper (0 : Int32) t_glows_9 t_lower_9 t_upper_9 hc9 H.size) (cwV 1 hts gX10_period_X10_notes rfl rfl rfl (by decide +kernel) ⟨Nat.le_of_ble_eq_true rfl, Nat.le_of_ble_eq_true rfl⟩) rfl hl rfl (Nat.le_of_ble_eq_true rfl) dX10_period_9 ⟨Nat.zero_le _, Nat.zero_le _⟩ hK hN KX_T trivial hP hD hS hA rfl rfl rfl rfl rfl rfl (by decide) rfl rfl (fun H locs hP hD hS => ?_)
  refine lv_iconst (v := (1 : Int32)) hx hb dX10_period_12 (by decide) ?_
  refine lv_istore_n (lv' := [(2, .int (1 : Int32)), (1, .int (-15 : Int32)), (0, .ref q_t)]) hx hb dX10_period_13 rfl hl (by decide) rfl (fun ls hl => ?_)
  exact L14  FU t_now t_thought_1 t_finds t_glows_9 t_lower_9 t_upper_9 (-15 : Int32) (1 : Int32)  H locs  hP hD hS _ (lv_sub hl [2, 1, 0] rfl) hJ

def J_X10_periodAgain (t_now : Nat → Int32) (t_thought : Nat → Int32) (t_finds : Nat → Int32) (t_glows : Nat → Int32) (t_lower : Nat → Int32) (t_upper : Nat → Int32) : Option (Int32 × (Nat → Int32) × (Nat → Int32) × (Nat → Int32) × (Nat → Int32) × (Nat → Int32) × (Nat → Int32)) :=
    bnd7 (J_X10_period t_now t_thought t_finds t_glows t_lower t_upper) fun x1 t_now_1 t_thought_1 t_finds_1 t_glows_1 t_lower_1 t_upper_1 =>
    some (x1, t_now_1, t_thought_1, t_finds_1, t_glows_1, t_lower_1, t_upper_1)
abbrev rmX10_periodAgain : Room := { frames := 7, cells := 0, slots := 0, locals := 159 }
set_option maxHeartbeats 4000000 in
set_option maxRecDepth 100000 in
theorem c_X10_periodAgain (l : Launch) (D : va_G) (cI cJ cC cL : ClassId) (q_t q_t_now q_t_tried q_t_thought q_t_kept q_t_saved q_t_finds q_t_reach q_t_steps q_t_glows q_t_lower q_t_upper q_t_line q_t_text q_t_told q_t_why q_t_more : Nat) (t_undos : Int32) (t_isSaved : Int32) (t_lined : Int32) (t_length : Int32) (t_at : Int32) (t_order : Int32) (t_whys : Int32) (t_answer : Int32) (t_now : Nat → Int32) (t_thought : Nat → Int32) (t_finds : Nat → Int32) (t_glows : Nat → Int32) (t_lower : Nat → Int32) (t_upper : Nat → Int32) (r : Int32) (o_t_now : Nat → Int32) (o_t_thought : Nat → Int32) (o_t_finds : Nat → Int32) (o_t_glows : Nat → Int32) (o_t_lower : Nat → Int32) (o_t_upper : Nat → Int32) (hJ : J_X10_periodAgain t_now t_thought t_finds t_glows t_lower t_upper = some (r, o_t_now, o_t_thought, o_t_finds, o_t_glows, o_t_lower, o_t_upper)) (sz : Nat) : Met l yX10_periodAgain wsX10_periodAgain rmX10_periodAgain (va_Pc [.ref q_t] (jpre XT D (tyL cI cJ cC cL) [(q_t, .inr (8, [.ref q_t_now, .ref q_t_tried, .ref q_t_thought, .ref q_t_kept, .int t_undos, .ref q_t_saved, .int t_isSaved, .ref q_t_finds, .ref q_t_reach, .ref q_t_steps, .ref q_t_glows, .ref q_t_lower, .ref q_t_upper, .ref q_t_line, .int t_lined, .ref q_t_text, .int t_length, .int t_at, .int t_order, .ref q_t_told, .ref q_t_why, .ref q_t_more, .int t_whys, .int t_answer])), (q_t_now, .inl (cI, 133, .inl t_now)), (q_t_thought, .inl (cI, 133, .inl t_thought)), (q_t_finds, .inl (cI, 16, .inl t_finds)), (q_t_glows, .inl (cI, 257, .inl t_glows)), (q_t_lower, .inl (cI, 257, .inl t_lower)), (q_t_upper, .inl (cI, 257, .inl t_upper))] sz)) (va_Qi (fun r' (_ : Unit) => r' = r) (fun _ t => jpost D (tyL cI cJ cC cL) (va_A [(q_t, .inr (8, [.ref q_t_now, .ref q_t_tried, .ref q_t_thought, .ref q_t_kept, .int t_undos, .ref q_t_saved, .int t_isSaved, .ref q_t_finds, .ref q_t_reach, .ref q_t_steps, .ref q_t_glows, .ref q_t_lower, .ref q_t_upper, .ref q_t_line, .int t_lined, .ref q_t_text, .int t_length, .int t_at, .int t_order, .ref q_t_told, .ref q_t_why, .ref q_t_more, .int t_whys, .int t_answer])), (q_t_now, .inl (cI, 133, .inl t_now)), (q_t_thought, .inl (cI, 133, .inl t_thought)), (q_t_finds, .inl (cI, 16, .inl t_finds)), (q_t_glows, .inl (cI, 257, .inl t_glows)), (q_t_lower, .inl (cI, 257, .inl t_lower)), (q_t_upper, .inl (cI, 257, .inl t_upper))] sz) [(q_t, .inr (8, [.ref q_t_now, .ref q_t_tried, .ref q_t_thought, .ref q_t_kept, .int t_undos, .ref q_t_saved, .int t_isSaved, .ref q_t_finds, .ref q_t_reach, .ref q_t_steps, .ref q_t_glows, .ref q_t_lower, .ref q_t_upper, .ref q_t_line, .int t_lined, .ref q_t_text, .int t_length, .int t_at, .int t_order, .ref q_t_told, .ref q_t_why, .ref q_t_more, .int t_whys, .int t_answer])), (q_t_now, .inl (cI, 133, .inl o_t_now)), (q_t_thought, .inl (cI, 133, .inl o_t_thought)), (q_t_finds, .inl (cI, 16, .inl o_t_finds)), (q_t_glows, .inl (cI, 257, .inl o_t_glows)), (q_t_lower, .inl (cI, 257, .inl o_t_lower)), (q_t_upper, .inl (cI, 257, .inl o_t_upper))] t) (va_A [(q_t, .inr (8, [.ref q_t_now, .ref q_t_tried, .ref q_t_thought, .ref q_t_kept, .int t_undos, .ref q_t_saved, .int t_isSaved, .ref q_t_finds, .ref q_t_reach, .ref q_t_steps, .ref q_t_glows, .ref q_t_lower, .ref q_t_upper, .ref q_t_line, .int t_lined, .ref q_t_text, .int t_length, .int t_at, .int t_order, .ref q_t_told, .ref q_t_why, .ref q_t_more, .int t_whys, .int t_answer])), (q_t_now, .inl (cI, 133, .inl t_now)), (q_t_thought, .inl (cI, 133, .inl t_thought)), (q_t_finds, .inl (cI, 16, .inl t_finds)), (q_t_glows, .inl (cI, 257, .inl t_glows)), (q_t_lower, .inl (cI, 257, .inl t_lower)), (q_t_upper, .inl (cI, 257, .inl t_upper))] sz)) 0 0 (va_A [(q_t, .inr (8, [.ref q_t_now, .ref q_t_tried, .ref q_t_thought, .ref q_t_kept, .int t_undos, .ref q_t_saved, .int t_isSaved, .ref q_t_finds, .ref q_t_reach, .ref q_t_steps, .ref q_t_glows, .ref q_t_lower, .ref q_t_upper, .ref q_t_line, .int t_lined, .ref q_t_text, .int t_length, .int t_at, .int t_order, .ref q_t_told, .ref q_t_why, .ref q_t_more, .int t_whys, .int t_answer])), (q_t_now, .inl (cI, 133, .inl t_now)), (q_t_thought, .inl (cI, 133, .inl t_thought)), (q_t_finds, .inl (cI, 16, .inl t_finds)), (q_t_glows, .inl (cI, 257, .inl t_glows)), (q_t_lower, .inl (cI, 257, .inl t_lower)), (q_t_upper, .inl (cI, 257, .inl t_upper))] sz) := by
  refine jE_i (cc := cX10_periodAgain) (maxL := 1) (own := RX10) (ret := (some .int)) (lv0 := [(0, .ref q_t)]) (by decide) rfl rfl rfl (Nat.le_of_ble_eq_true rfl) rfl ?_
  intro p e s m args below meth c A Q ls hx hb hml hown hts hK hN hX hA hP hD hS hl hRet
  have hF : CallFix p m c cX10_periodAgain 1 s args wsX10_periodAgain RX10 := ⟨hx, hb, hml, hown, hts⟩
  unfold J_X10_periodAgain at hJ
  refine lv_aload_n hx hb dX10_periodAgain_0 rfl (lv_at hl 0 rfl) ?_
  obtain ⟨x1, t_now_1, t_thought_1, t_finds_1, t_glows_1, t_lower_1, t_upper_1, hc1, hJ⟩ := bnd7_some hJ
  refine jcV_i (C := RX10) (T := TX10) (N := 24) (ci := 8) (q0 := 0) (As := []) (rest := []) (isC := [0, 1, 2, 3, 4, 5, 6]) (isR := []) (isB := [0, 1, 2, 3, 4, 5, 6]) (wr := []) (ws2 := [(q_t, .inr (8, [.ref q_t_now, .ref q_t_tried, .ref q_t_thought, .ref q_t_kept, .int t_undos, .ref q_t_saved, .int t_isSaved, .ref q_t_finds, .ref q_t_reach, .ref q_t_steps, .ref q_t_glows, .ref q_t_lower, .ref q_t_upper, .ref q_t_line, .int t_lined, .ref q_t_text, .int t_length, .int t_at, .int t_order, .ref q_t_told, .ref q_t_why, .ref q_t_more, .int t_whys, .int t_answer])), (q_t_now, .inl (cI, 133, .inl t_now_1)), (q_t_thought, .inl (cI, 133, .inl t_thought_1)), (q_t_finds, .inl (cI, 16, .inl t_finds_1)), (q_t_glows, .inl (cI, 257, .inl t_glows_1)), (q_t_lower, .inl (cI, 257, .inl t_lower_1)), (q_t_upper, .inl (cI, 257, .inl t_upper_1))]) hF (c_X10_period l D cI cJ cC cL q_t q_t_now q_t_tried q_t_thought q_t_kept q_t_saved q_t_finds q_t_reach q_t_steps q_t_glows q_t_lower q_t_upper q_t_line q_t_text q_t_told q_t_why q_t_more t_undos t_isSaved t_lined t_length t_at t_order t_whys t_answer t_now t_thought t_finds t_glows t_lower t_upper x1 t_now_1 t_thought_1 t_finds_1 t_glows_1 t_lower_1 t_upper_1 hc1 s.heap.size) (cwV 0 hts gX10_periodAgain_X10_period rfl rfl rfl (by decide +kernel) ⟨Nat.le_of_ble_eq_true rfl, Nat.le_of_ble_eq_true rfl⟩) rfl hl rfl (Nat.le_of_ble_eq_true rfl) dX10_periodAgain_1 ⟨Nat.zero_le _, Nat.zero_le _⟩ hK hN KX_T trivial hP hD hS hA rfl rfl rfl rfl rfl rfl (by decide) rfl rfl (fun H locs hP hD hS => ?_)
  have hJ := Option.some.inj hJ
  obtain ⟨e0, e1, e2, e3, e4, e5, e6⟩ : (x1) = r ∧ (t_now_1) = o_t_now ∧ (t_thought_1) = o_t_thought ∧ (t_finds_1) = o_t_finds ∧ (t_glows_1) = o_t_glows ∧ (t_lower_1) = o_t_lower ∧ (t_upper_1) = o_t_upper := ⟨congrArg (fun z => z.1) hJ, congrArg (fun z => z.2.1) hJ, congrArg (fun z => z.2.2.1) hJ, congrArg (fun z => z.2.2.2.1) hJ, congrArg (fun z => z.2.2.2.2.1) hJ, congrArg (fun z => z.2.2.2.2.2.1) hJ, congrArg (fun z => z.2.2.2.2.2.2) hJ⟩
  exact hRet (by rw [← e1, ← e2, ← e3, ← e4, ← e5, ← e6]; exact hP) (by rw [← e1, ← e2, ← e3, ← e4, ← e5, ← e6]; exact hD) hS e0 dX10_periodAgain_4

def J_X10_flickers_b16 (v1 : Int32) (v2 : Int32) (t_now : Nat → Int32) (t_thought : Nat → Int32) (t_finds : Nat → Int32) : Option (Int32 × (Nat → Int32) × (Nat → Int32) × (Nat → Int32)) :=
    some ((-11 : Int32), t_now, t_thought, t_finds)
def J_X10_flickers_b35 (v1 : Int32) (v2 : Int32) (t_now : Nat → Int32) (t_thought : Nat → Int32) (t_finds : Nat → Int32) : Option (Int32 × (Nat → Int32) × (Nat → Int32) × (Nat → Int32)) :=
    some ((-12 : Int32), t_now, t_thought, t_finds)
def J_X10_flickers_b127 (v1 : Int32) (v2 : Int32) (t_now : Nat → Int32) (t_thought : Nat → Int32) (t_finds : Nat → Int32) (s127_0 : Int32) : Option (Int32 × (Nat → Int32) × (Nat → Int32) × (Nat → Int32)) :=
    some (s127_0, t_now, t_thought, t_finds)
def J_X10_flickers_b111 (v1 : Int32) (v2 : Int32) (t_now : Nat → Int32) (t_thought : Nat → Int32) (t_finds : Nat → Int32) (v5 : Int32) (v6 : Int32) : Option (Int32 × (Nat → Int32) × (Nat → Int32) × (Nat → Int32)) :=
    bnd1 (J_X10_thinksNoMore t_now t_thought) fun t_now_112 =>
    if 0 ≤ v5 then (
    J_X10_flickers_b127 v1 v2 t_now_112 t_thought t_finds v6)
    else (
    J_X10_flickers_b127 v1 v2 t_now_112 t_thought t_finds (-15 : Int32))
def J_X10_flickers (t_now : Nat → Int32) (t_thought : Nat → Int32) (t_finds : Nat → Int32) (v1 : Int32) (v2 : Int32) : Option (Int32 × (Nat → Int32) × (Nat → Int32) × (Nat → Int32)) :=
    bnd1 (J_X10_isLantern t_now v1) fun x2 =>
    if x2 = 0 then (
    J_X10_flickers_b16 v1 v2 t_now t_thought t_finds)
    else (
    bnd1 (J_X10_isLantern t_now v2) fun x10 =>
    if x10 = 0 then (
    J_X10_flickers_b16 v1 v2 t_now t_thought t_finds)
    else (
    bnd1 (J_X10_isSwitch t_now v1) fun x21 =>
    if x21 = 0 then (
    bnd1 (J_X10_isSwitch t_now v2) fun x29 =>
    if x29 = 0 then (
    J_X10_flickers_b35 v1 v2 t_now t_thought t_finds)
    else (
    bnd2 (J_X10_isSettled t_now t_finds) fun x39 t_finds_39 =>
    if x39 = 0 then (
    some ((-15 : Int32), t_now, t_thought, t_finds_39))
    else (
    bnd1 (J_X10_thinks t_now t_thought) fun t_thought_49 =>
    bnd1 (J_X10_of t_now v1 (2 : Int32)) fun x55 =>
    bnd1 (J_X10_of t_now v1 (3 : Int32)) fun x62 =>
    bnd1 (J_X10_of t_now v2 (2 : Int32)) fun x74 =>
    nm ((1 : Int32) - x74) fun x77 =>
    bnd1 (J_X10_sets t_now v2 (2 : Int32) x77) fun t_now_78 =>
    bnd3 (J_X10_settles t_now_78 t_finds_39) fun x82 t_now_82 t_finds_82 =>
    bnd1 (J_X10_of t_now_82 v1 (3 : Int32)) fun x90 =>
    nm (x90 - x62) fun x95 =>
    bnd1 (J_X10_of t_now_82 v1 (2 : Int32)) fun x101 =>
    if x101 = x55 then (
    J_X10_flickers_b111 v1 v2 t_now_82 t_thought_49 t_finds_82 x82 x95)
    else (
    nm (x95 + Int32.ofInt (-1)) fun x108 =>
    J_X10_flickers_b111 v1 v2 t_now_82 t_thought_49 t_finds_82 x82 x108))))
    else (
    J_X10_flickers_b35 v1 v2 t_now t_thought t_finds)))
abbrev rmX10_flickers : Room := { frames := 7, cells := 0, slots := 0, locals := 157 }
set_option maxHeartbeats 4000000 in
set_option maxRecDepth 100000 in
theorem c_X10_flickers (l : Launch) (D : va_G) (cI cJ cC cL : ClassId) (q_t q_t_now q_t_tried q_t_thought q_t_kept q_t_saved q_t_finds q_t_reach q_t_steps q_t_glows q_t_lower q_t_upper q_t_line q_t_text q_t_told q_t_why q_t_more : Nat) (t_undos : Int32) (t_isSaved : Int32) (t_lined : Int32) (t_length : Int32) (t_at : Int32) (t_order : Int32) (t_whys : Int32) (t_answer : Int32) (t_now : Nat → Int32) (t_thought : Nat → Int32) (t_finds : Nat → Int32) (v1 : Int32) (v2 : Int32) (r : Int32) (o_t_now : Nat → Int32) (o_t_thought : Nat → Int32) (o_t_finds : Nat → Int32) (hJ : J_X10_flickers t_now t_thought t_finds v1 v2 = some (r, o_t_now, o_t_thought, o_t_finds)) (sz : Nat) : Met l yX10_flickers wsX10_flickers rmX10_flickers (va_Pc [.ref q_t, .int v1, .int v2] (jpre XT D (tyL cI cJ cC cL) [(q_t, .inr (8, [.ref q_t_now, .ref q_t_tried, .ref q_t_thought, .ref q_t_kept, .int t_undos, .ref q_t_saved, .int t_isSaved, .ref q_t_finds, .ref q_t_reach, .ref q_t_steps, .ref q_t_glows, .ref q_t_lower, .ref q_t_upper, .ref q_t_line, .int t_lined, .ref q_t_text, .int t_length, .int t_at, .int t_order, .ref q_t_told, .ref q_t_why, .ref q_t_more, .int t_whys, .int t_answer])), (q_t_now, .inl (cI, 133, .inl t_now)), (q_t_thought, .inl (cI, 133, .inl t_thought)), (q_t_finds, .inl (cI, 16, .inl t_finds))] sz)) (va_Qi (fun r' (_ : Unit) => r' = r) (fun _ t => jpost D (tyL cI cJ cC cL) (va_A [(q_t, .inr (8, [.ref q_t_now, .ref q_t_tried, .ref q_t_thought, .ref q_t_kept, .int t_undos, .ref q_t_saved, .int t_isSaved, .ref q_t_finds, .ref q_t_reach, .ref q_t_steps, .ref q_t_glows, .ref q_t_lower, .ref q_t_upper, .ref q_t_line, .int t_lined, .ref q_t_text, .int t_length, .int t_at, .int t_order, .ref q_t_told, .ref q_t_why, .ref q_t_more, .int t_whys, .int t_answer])), (q_t_now, .inl (cI, 133, .inl t_now)), (q_t_thought, .inl (cI, 133, .inl t_thought)), (q_t_finds, .inl (cI, 16, .inl t_finds))] sz) [(q_t, .inr (8, [.ref q_t_now, .ref q_t_tried, .ref q_t_thought, .ref q_t_kept, .int t_undos, .ref q_t_saved, .int t_isSaved, .ref q_t_finds, .ref q_t_reach, .ref q_t_steps, .ref q_t_glows, .ref q_t_lower, .ref q_t_upper, .ref q_t_line, .int t_lined, .ref q_t_text, .int t_length, .int t_at, .int t_order, .ref q_t_told, .ref q_t_why, .ref q_t_more, .int t_whys, .int t_answer])), (q_t_now, .inl (cI, 133, .inl o_t_now)), (q_t_thought, .inl (cI, 133, .inl o_t_thought)), (q_t_finds, .inl (cI, 16, .inl o_t_finds))] t) (va_A [(q_t, .inr (8, [.ref q_t_now, .ref q_t_tried, .ref q_t_thought, .ref q_t_kept, .int t_undos, .ref q_t_saved, .int t_isSaved, .ref q_t_finds, .ref q_t_reach, .ref q_t_steps, .ref q_t_glows, .ref q_t_lower, .ref q_t_upper, .ref q_t_line, .int t_lined, .ref q_t_text, .int t_length, .int t_at, .int t_order, .ref q_t_told, .ref q_t_why, .ref q_t_more, .int t_whys, .int t_answer])), (q_t_now, .inl (cI, 133, .inl t_now)), (q_t_thought, .inl (cI, 133, .inl t_thought)), (q_t_finds, .inl (cI, 16, .inl t_finds))] sz)) 0 0 (va_A [(q_t, .inr (8, [.ref q_t_now, .ref q_t_tried, .ref q_t_thought, .ref q_t_kept, .int t_undos, .ref q_t_saved, .int t_isSaved, .ref q_t_finds, .ref q_t_reach, .ref q_t_steps, .ref q_t_glows, .ref q_t_lower, .ref q_t_upper, .ref q_t_line, .int t_lined, .ref q_t_text, .int t_length, .int t_at, .int t_order, .ref q_t_told, .ref q_t_why, .ref q_t_more, .int t_whys, .int t_answer])), (q_t_now, .inl (cI, 133, .inl t_now)), (q_t_thought, .inl (cI, 133, .inl t_thought)), (q_t_finds, .inl (cI, 16, .inl t_finds))] sz) := by
  refine jE_i (cc := cX10_flickers) (maxL := 7) (own := RX10) (ret := (some .int)) (lv0 := [(0, .ref q_t), (1, .int v1), (2, .int v2)]) (by decide) rfl rfl rfl (Nat.le_of_ble_eq_true rfl) rfl ?_
  intro p e s m args below meth c A Q ls hx hb hml hown hts hK hN hX hA hP hD hS hl hRet
  have hF : CallFix p m c cX10_flickers 7 s args wsX10_flickers RX10 := ⟨hx, hb, hml, hown, hts⟩
  have B16 : ∀ (t_now : Nat → Int32) (t_thought : Nat → Int32) (t_finds : Nat → Int32) (H : Heap) (locs : List Loc), va_P D vwCl [(q_t, .inr (8, [.ref q_t_now, .ref q_t_tried, .ref q_t_thought, .ref q_t_kept, .int t_undos, .ref q_t_saved, .int t_isSaved, .ref q_t_finds, .ref q_t_reach, .ref q_t_steps, .ref q_t_glows, .ref q_t_lower, .ref q_t_upper, .ref q_t_line, .int t_lined, .ref q_t_text, .int t_length, .int t_at, .int t_order, .ref q_t_told, .ref q_t_why, .ref q_t_more, .int t_whys, .int t_answer])), (q_t_now, .inl (cI, 133, .inl t_now)), (q_t_thought, .inl (cI, 133, .inl t_thought)), (q_t_finds, .inl (cI, 16, .inl t_finds))] H → va_D A [(q_t, .inr (8, [.ref q_t_now, .ref q_t_tried, .ref q_t_thought, .ref q_t_kept, .int t_undos, .ref q_t_saved, .int t_isSaved, .ref q_t_finds, .ref q_t_reach, .ref q_t_steps, .ref q_t_glows, .ref q_t_lower, .ref q_t_upper, .ref q_t_line, .int t_lined, .ref q_t_text, .int t_length, .int t_at, .int t_order, .ref q_t_told, .ref q_t_why, .ref q_t_more, .int t_whys, .int t_answer])), (q_t_now, .inl (cI, 133, .inl t_now)), (q_t_thought, .inl (cI, 133, .inl t_thought)), (q_t_finds, .inl (cI, 16, .inl t_finds))] → va_S A s.heap H locs → ∀ ls : Array Slot, lv_has ls 7 [] → J_X10_flickers_b16  v1 v2 t_now t_thought t_finds = some (r, o_t_now, o_t_thought, o_t_finds) → W p l e rmX10_flickers s m args below meth c H locs 0 0 Q (F0 m 16 ls []) := by
    intro t_now t_thought t_finds H locs hP hD hS ls hl hJ
    unfold J_X10_flickers_b16 at hJ
    refine lv_bipush (v := (-11 : Int32)) hx hb dX10_flickers_16 (by decide) ?_
    have hJ := Option.some.inj hJ
    obtain ⟨e0, e1, e2, e3⟩ : ((-11 : Int32)) = r ∧ (t_now) = o_t_now ∧ (t_thought) = o_t_thought ∧ (t_finds) = o_t_finds := ⟨congrArg (fun z => z.1) hJ, congrArg (fun z => z.2.1) hJ, congrArg (fun z => z.2.2.1) hJ, congrArg (fun z => z.2.2.2) hJ⟩
    exact hRet (by rw [← e1, ← e2, ← e3]; exact hP) (by rw [← e1, ← e2, ← e3]; exact hD) hS e0 dX10_flickers_18
  have B35 : ∀ (t_now : Nat → Int32) (t_thought : Nat → Int32) (t_finds : Nat → Int32) (H : Heap) (locs : List Loc), va_P D vwCl [(q_t, .inr (8, [.ref q_t_now, .ref q_t_tried, .ref q_t_thought, .ref q_t_kept, .int t_undos, .ref q_t_saved, .int t_isSaved, .ref q_t_finds, .ref q_t_reach, .ref q_t_steps, .ref q_t_glows, .ref q_t_lower, .ref q_t_upper, .ref q_t_line, .int t_lined, .ref q_t_text, .int t_length, .int t_at, .int t_order, .ref q_t_told, .ref q_t_why, .ref q_t_more, .int t_whys, .int t_answer])), (q_t_now, .inl (cI, 133, .inl t_now)), (q_t_thought, .inl (cI, 133, .inl t_thought)), (q_t_finds, .inl (cI, 16, .inl t_finds))] H → va_D A [(q_t, .inr (8, [.ref q_t_now, .ref q_t_tried, .ref q_t_thought, .ref q_t_kept, .int t_undos, .ref q_t_saved, .int t_isSaved, .ref q_t_finds, .ref q_t_reach, .ref q_t_steps, .ref q_t_glows, .ref q_t_lower, .ref q_t_upper, .ref q_t_line, .int t_lined, .ref q_t_text, .int t_length, .int t_at, .int t_order, .ref q_t_told, .ref q_t_why, .ref q_t_more, .int t_whys, .int t_answer])), (q_t_now, .inl (cI, 133, .inl t_now)), (q_t_thought, .inl (cI, 133, .inl t_thought)), (q_t_finds, .inl (cI, 16, .inl t_finds))] → va_S A s.heap H locs → ∀ ls : Array Slot, lv_has ls 7 [] → J_X10_flickers_b35  v1 v2 t_now t_thought t_finds = some (r, o_t_now, o_t_thought, o_t_finds) → W p l e rmX10_flickers s m args below meth c H locs 0 0 Q (F0 m 35 ls []) := by
    intro t_now t_thought t_finds H locs hP hD hS ls hl hJ
    unfold J_X10_flickers_b35 at hJ
    refine lv_bipush (v := (-12 : Int32)) hx hb dX10_flickers_35 (by decide) ?_
    have hJ := Option.some.inj hJ
    obtain ⟨e0, e1, e2, e3⟩ : ((-12 : Int32)) = r ∧ (t_now) = o_t_now ∧ (t_thought) = o_t_thought ∧ (t_finds) = o_t_finds := ⟨congrArg (fun z => z.1) hJ, congrArg (fun z => z.2.1) hJ, congrArg (fun z => z.2.2.1) hJ, congrArg (fun z => z.2.2.2) hJ⟩
    exact hRet (by rw [← e1, ← e2, ← e3]; exact hP) (by rw [← e1, ← e2, ← e3]; exact hD) hS e0 dX10_flickers_37
  have B127 : ∀ (t_now : Nat → Int32) (t_thought : Nat → Int32) (t_finds : Nat → Int32) (s127_0 : Int32) (H : Heap) (locs : List Loc), va_P D vwCl [(q_t, .inr (8, [.ref q_t_now, .ref q_t_tried, .ref q_t_thought, .ref q_t_kept, .int t_undos, .ref q_t_saved, .int t_isSaved, .ref q_t_finds, .ref q_t_reach, .ref q_t_steps, .ref q_t_glows, .ref q_t_lower, .ref q_t_upper, .ref q_t_line, .int t_lined, .ref q_t_text, .int t_length, .int t_at, .int t_order, .ref q_t_told, .ref q_t_why, .ref q_t_more, .int t_whys, .int t_answer])), (q_t_now, .inl (cI, 133, .inl t_now)), (q_t_thought, .inl (cI, 133, .inl t_thought)), (q_t_finds, .inl (cI, 16, .inl t_finds))] H → va_D A [(q_t, .inr (8, [.ref q_t_now, .ref q_t_tried, .ref q_t_thought, .ref q_t_kept, .int t_undos, .ref q_t_saved, .int t_isSaved, .ref q_t_finds, .ref q_t_reach, .ref q_t_steps, .ref q_t_glows, .ref q_t_lower, .ref q_t_upper, .ref q_t_line, .int t_lined, .ref q_t_text, .int t_length, .int t_at, .int t_order, .ref q_t_told, .ref q_t_why, .ref q_t_more, .int t_whys, .int t_answer])), (q_t_now, .inl (cI, 133, .inl t_now)), (q_t_thought, .inl (cI, 133, .inl t_thought)), (q_t_finds, .inl (cI, 16, .inl t_finds))] → va_S A s.heap H locs → ∀ ls : Array Slot, lv_has ls 7 [] → J_X10_flickers_b127  v1 v2 t_now t_thought t_finds s127_0 = some (r, o_t_now, o_t_thought, o_t_finds) → W p l e rmX10_flickers s m args below meth c H locs 0 0 Q (F0 m 127 ls [.int s127_0]) := by
    intro t_now t_thought t_finds s127_0 H locs hP hD hS ls hl hJ
    unfold J_X10_flickers_b127 at hJ
    have hJ := Option.some.inj hJ
    obtain ⟨e0, e1, e2, e3⟩ : (s127_0) = r ∧ (t_now) = o_t_now ∧ (t_thought) = o_t_thought ∧ (t_finds) = o_t_finds := ⟨congrArg (fun z => z.1) hJ, congrArg (fun z => z.2.1) hJ, congrArg (fun z => z.2.2.1) hJ, congrArg (fun z => z.2.2.2) hJ⟩
    exact hRet (by rw [← e1, ← e2, ← e3]; exact hP) (by rw [← e1, ← e2, ← e3]; exact hD) hS e0 dX10_flickers_127
  have B111 : ∀ (t_now : Nat → Int32) (t_thought : Nat → Int32) (t_finds : Nat → Int32) (v5 : Int32) (v6 : Int32) (H : Heap) (locs : List Loc), va_P D vwCl [(q_t, .inr (8, [.ref q_t_now, .ref q_t_tried, .ref q_t_thought, .ref q_t_kept, .int t_undos, .ref q_t_saved, .int t_isSaved, .ref q_t_finds, .ref q_t_reach, .ref q_t_steps, .ref q_t_glows, .ref q_t_lower, .ref q_t_upper, .ref q_t_line, .int t_lined, .ref q_t_text, .int t_length, .int t_at, .int t_order, .ref q_t_told, .ref q_t_why, .ref q_t_more, .int t_whys, .int t_answer])), (q_t_now, .inl (cI, 133, .inl t_now)), (q_t_thought, .inl (cI, 133, .inl t_thought)), (q_t_finds, .inl (cI, 16, .inl t_finds))] H → va_D A [(q_t, .inr (8, [.ref q_t_now, .ref q_t_tried, .ref q_t_thought, .ref q_t_kept, .int t_undos, .ref q_t_saved, .int t_isSaved, .ref q_t_finds, .ref q_t_reach, .ref q_t_steps, .ref q_t_glows, .ref q_t_lower, .ref q_t_upper, .ref q_t_line, .int t_lined, .ref q_t_text, .int t_length, .int t_at, .int t_order, .ref q_t_told, .ref q_t_why, .ref q_t_more, .int t_whys, .int t_answer])), (q_t_now, .inl (cI, 133, .inl t_now)), (q_t_thought, .inl (cI, 133, .inl t_thought)), (q_t_finds, .inl (cI, 16, .inl t_finds))] → va_S A s.heap H locs → ∀ ls : Array Slot, lv_has ls 7 [(0, .ref q_t), (5, .int v5), (6, .int v6)] → J_X10_flickers_b111  v1 v2 t_now t_thought t_finds v5 v6 = some (r, o_t_now, o_t_thought, o_t_finds) → W p l e rmX10_flickers s m args below meth c H locs 0 0 Q (F0 m 111 ls []) := by
    intro t_now t_thought t_finds v5 v6 H locs hP hD hS ls hl hJ
    unfold J_X10_flickers_b111 at hJ
    refine lv_aload_n hx hb dX10_flickers_111 rfl (lv_at hl 0 rfl) ?_
    obtain ⟨t_now_112, hc112, hJ⟩ := bnd1_some hJ
    refine jcV_v (C := RX10) (T := TX10) (N := 24) (ci := 8) (q0 := 0) (As := []) (rest := []) (isC := [0, 1, 2]) (isR := [3]) (isB := [1, 2, 3, 0]) (wr := [(q_t_finds, .inl (cI, 16, .inl t_finds))]) (ws2 := [(q_t, .inr (8, [.ref q_t_now, .ref q_t_tried, .ref q_t_thought, .ref q_t_kept, .int t_undos, .ref q_t_saved, .int t_isSaved, .ref q_t_finds, .ref q_t_reach, .ref q_t_steps, .ref q_t_glows, .ref q_t_lower, .ref q_t_upper, .ref q_t_line, .int t_lined, .ref q_t_text, .int t_length, .int t_at, .int t_order, .ref q_t_told, .ref q_t_why, .ref q_t_more, .int t_whys, .int t_answer])), (q_t_now, .inl (cI, 133, .inl t_now_112)), (q_t_thought, .inl (cI, 133, .inl t_thought)), (q_t_finds, .inl (cI, 16, .inl t_finds))]) hF (c_X10_thinksNoMore l D cI cJ cC cL q_t q_t_now q_t_tried q_t_thought q_t_kept q_t_saved q_t_finds q_t_reach q_t_steps q_t_glows q_t_lower q_t_upper q_t_line q_t_text q_t_told q_t_why q_t_more t_undos t_isSaved t_lined t_length t_at t_order t_whys t_answer t_now t_thought t_now_112 hc112 H.size) (cwV 0 hts gX10_flickers_X10_thinksNoMore rfl rfl rfl (by decide +kernel) ⟨Nat.le_of_ble_eq_true rfl, Nat.le_of_ble_eq_true rfl⟩) rfl hl rfl (Nat.le_of_ble_eq_true rfl) dX10_flickers_112 ⟨Nat.zero_le _, Nat.zero_le _⟩ hK hN KX_T trivial hP hD hS hA rfl rfl rfl rfl rfl rfl (by decide) rfl rfl (fun H locs hP hD hS => ?_)
    refine lv_iload hx hb dX10_flickers_115 (lv_at hl 1 rfl) ?_
    refine jif_ge (tgt := 125) hx hb dX10_flickers_117 (by decide) hJ (fun hJ => ?_) (fun hJ => ?_)
    · refine lv_iload hx hb dX10_flickers_125 (lv_at hl 2 rfl) ?_
      exact B127  t_now_112 t_thought t_finds v6  H locs  hP hD hS _ (lv_sub hl [] rfl) hJ
    · refine lv_bipush (v := (-15 : Int32)) hx hb dX10_flickers_120 (by decide) ?_
      refine lv_goto (tgt := 127) hx hb dX10_flickers_122 (by decide) ?_
      exact B127  t_now_112 t_thought t_finds (-15 : Int32)  H locs  hP hD hS _ (lv_sub hl [] rfl) hJ
  unfold J_X10_flickers at hJ
  refine lv_aload_n hx hb dX10_flickers_0 rfl (lv_at hl 0 rfl) ?_
  refine lv_iload_n hx hb dX10_flickers_1 rfl (lv_at hl 1 rfl) ?_
  obtain ⟨x2, hc2, hJ⟩ := bnd1_some hJ
  refine jcV_i (C := RX10) (T := TX10) (N := 24) (ci := 8) (q0 := 0) (As := [.int v1]) (rest := []) (isC := [0, 1]) (isR := [2, 3]) (isB := [2, 3, 0, 1]) (wr := [(q_t_thought, .inl (cI, 133, .inl t_thought)), (q_t_finds, .inl (cI, 16, .inl t_finds))]) (ws2 := [(q_t, .inr (8, [.ref q_t_now, .ref q_t_tried, .ref q_t_thought, .ref q_t_kept, .int t_undos, .ref q_t_saved, .int t_isSaved, .ref q_t_finds, .ref q_t_reach, .ref q_t_steps, .ref q_t_glows, .ref q_t_lower, .ref q_t_upper, .ref q_t_line, .int t_lined, .ref q_t_text, .int t_length, .int t_at, .int t_order, .ref q_t_told, .ref q_t_why, .ref q_t_more, .int t_whys, .int t_answer])), (q_t_now, .inl (cI, 133, .inl t_now)), (q_t_thought, .inl (cI, 133, .inl t_thought)), (q_t_finds, .inl (cI, 16, .inl t_finds))]) hF (c_X10_isLantern l D cI cJ cC cL q_t q_t_now q_t_tried q_t_thought q_t_kept q_t_saved q_t_finds q_t_reach q_t_steps q_t_glows q_t_lower q_t_upper q_t_line q_t_text q_t_told q_t_why q_t_more t_undos t_isSaved t_lined t_length t_at t_order t_whys t_answer t_now v1 x2 hc2 s.heap.size) (cwV 1 hts gX10_flickers_X10_isLantern rfl rfl rfl (by decide +kernel) ⟨Nat.le_of_ble_eq_true rfl, Nat.le_of_ble_eq_true rfl⟩) rfl hl rfl (Nat.le_of_ble_eq_true rfl) dX10_flickers_2 ⟨Nat.zero_le _, Nat.zero_le _⟩ hK hN KX_T trivial hP hD hS hA rfl rfl rfl rfl rfl rfl (by decide) rfl rfl (fun H locs hP hD hS => ?_)
  refine jif_eq (tgt := 16) hx hb dX10_flickers_5 (by decide) hJ (fun hJ => ?_) (fun hJ => ?_)
  · exact B16  t_now t_thought t_finds  H locs  hP hD hS _ (lv_sub hl [] rfl) hJ
  · refine lv_aload_n hx hb dX10_flickers_8 rfl (lv_at hl 0 rfl) ?_
    refine lv_iload_n hx hb dX10_flickers_9 rfl (lv_at hl 2 rfl) ?_
    obtain ⟨x10, hc10, hJ⟩ := bnd1_some hJ
    refine jcV_i (C := RX10) (T := TX10) (N := 24) (ci := 8) (q0 := 0) (As := [.int v2]) (rest := []) (isC := [0, 1]) (isR := [2, 3]) (isB := [2, 3, 0, 1]) (wr := [(q_t_thought, .inl (cI, 133, .inl t_thought)), (q_t_finds, .inl (cI, 16, .inl t_finds))]) (ws2 := [(q_t, .inr (8, [.ref q_t_now, .ref q_t_tried, .ref q_t_thought, .ref q_t_kept, .int t_undos, .ref q_t_saved, .int t_isSaved, .ref q_t_finds, .ref q_t_reach, .ref q_t_steps, .ref q_t_glows, .ref q_t_lower, .ref q_t_upper, .ref q_t_line, .int t_lined, .ref q_t_text, .int t_length, .int t_at, .int t_order, .ref q_t_told, .ref q_t_why, .ref q_t_more, .int t_whys, .int t_answer])), (q_t_now, .inl (cI, 133, .inl t_now)), (q_t_thought, .inl (cI, 133, .inl t_thought)), (q_t_finds, .inl (cI, 16, .inl t_finds))]) hF (c_X10_isLantern l D cI cJ cC cL q_t q_t_now q_t_tried q_t_thought q_t_kept q_t_saved q_t_finds q_t_reach q_t_steps q_t_glows q_t_lower q_t_upper q_t_line q_t_text q_t_told q_t_why q_t_more t_undos t_isSaved t_lined t_length t_at t_order t_whys t_answer t_now v2 x10 hc10 H.size) (cwV 1 hts gX10_flickers_X10_isLantern rfl rfl rfl (by decide +kernel) ⟨Nat.le_of_ble_eq_true rfl, Nat.le_of_ble_eq_true rfl⟩) rfl hl rfl (Nat.le_of_ble_eq_true rfl) dX10_flickers_10 ⟨Nat.zero_le _, Nat.zero_le _⟩ hK hN KX_T trivial hP hD hS hA rfl rfl rfl rfl rfl rfl (by decide) rfl rfl (fun H locs hP hD hS => ?_)
    refine jif_ne (tgt := 19) hx hb dX10_flickers_13 (by decide) hJ (fun hJ => ?_) (fun hJ => ?_)
    · refine lv_aload_n hx hb dX10_flickers_19 rfl (lv_at hl 0 rfl) ?_
      refine lv_iload_n hx hb dX10_flickers_20 rfl (lv_at hl 1 rfl) ?_
      obtain ⟨x21, hc21, hJ⟩ := bnd1_some hJ
      refine jcV_i (C := RX10) (T := TX10) (N := 24) (ci := 8) (q0 := 0) (As := [.int v1]) (rest := []) (isC := [0, 1]) (isR := [2, 3]) (isB := [2, 3, 0, 1]) (wr := [(q_t_thought, .inl (cI, 133, .inl t_thought)), (q_t_finds, .inl (cI, 16, .inl t_finds))]) (ws2 := [(q_t, .inr (8, [.ref q_t_now, .ref q_t_tried, .ref q_t_thought, .ref q_t_kept, .int t_undos, .ref q_t_saved, .int t_isSaved, .ref q_t_finds, .ref q_t_reach, .ref q_t_steps, .ref q_t_glows, .ref q_t_lower, .ref q_t_upper, .ref q_t_line, .int t_lined, .ref q_t_text, .int t_length, .int t_at, .int t_order, .ref q_t_told, .ref q_t_why, .ref q_t_more, .int t_whys, .int t_answer])), (q_t_now, .inl (cI, 133, .inl t_now)), (q_t_thought, .inl (cI, 133, .inl t_thought)), (q_t_finds, .inl (cI, 16, .inl t_finds))]) hF (c_X10_isSwitch l D cI cJ cC cL q_t q_t_now q_t_tried q_t_thought q_t_kept q_t_saved q_t_finds q_t_reach q_t_steps q_t_glows q_t_lower q_t_upper q_t_line q_t_text q_t_told q_t_why q_t_more t_undos t_isSaved t_lined t_length t_at t_order t_whys t_answer t_now v1 x21 hc21 H.size) (cwV 1 hts gX10_flickers_X10_isSwitch rfl rfl rfl (by decide +kernel) ⟨Nat.le_of_ble_eq_true rfl, Nat.le_of_ble_eq_true rfl⟩) rfl hl rfl (Nat.le_of_ble_eq_true rfl) dX10_flickers_21 ⟨Nat.zero_le _, Nat.zero_le _⟩ hK hN KX_T trivial hP hD hS hA rfl rfl rfl rfl rfl rfl (by decide) rfl rfl (fun H locs hP hD hS => ?_)
      refine jif_ne (tgt := 35) hx hb dX10_flickers_24 (by decide) hJ (fun hJ => ?_) (fun hJ => ?_)
      · exact B35  t_now t_thought t_finds  H locs  hP hD hS _ (lv_sub hl [] rfl) hJ
      · refine lv_aload_n hx hb dX10_flickers_27 rfl (lv_at hl 0 rfl) ?_
        refine lv_iload_n hx hb dX10_flickers_28 rfl (lv_at hl 2 rfl) ?_
        obtain ⟨x29, hc29, hJ⟩ := bnd1_some hJ
        refine jcV_i (C := RX10) (T := TX10) (N := 24) (ci := 8) (q0 := 0) (As := [.int v2]) (rest := []) (isC := [0, 1]) (isR := [2, 3]) (isB := [2, 3, 0, 1]) (wr := [(q_t_thought, .inl (cI, 133, .inl t_thought)), (q_t_finds, .inl (cI, 16, .inl t_finds))]) (ws2 := [(q_t, .inr (8, [.ref q_t_now, .ref q_t_tried, .ref q_t_thought, .ref q_t_kept, .int t_undos, .ref q_t_saved, .int t_isSaved, .ref q_t_finds, .ref q_t_reach, .ref q_t_steps, .ref q_t_glows, .ref q_t_lower, .ref q_t_upper, .ref q_t_line, .int t_lined, .ref q_t_text, .int t_length, .int t_at, .int t_order, .ref q_t_told, .ref q_t_why, .ref q_t_more, .int t_whys, .int t_answer])), (q_t_now, .inl (cI, 133, .inl t_now)), (q_t_thought, .inl (cI, 133, .inl t_thought)), (q_t_finds, .inl (cI, 16, .inl t_finds))]) hF (c_X10_isSwitch l D cI cJ cC cL q_t q_t_now q_t_tried q_t_thought q_t_kept q_t_saved q_t_finds q_t_reach q_t_steps q_t_glows q_t_lower q_t_upper q_t_line q_t_text q_t_told q_t_why q_t_more t_undos t_isSaved t_lined t_length t_at t_order t_whys t_answer t_now v2 x29 hc29 H.size) (cwV 1 hts gX10_flickers_X10_isSwitch rfl rfl rfl (by decide +kernel) ⟨Nat.le_of_ble_eq_true rfl, Nat.le_of_ble_eq_true rfl⟩) rfl hl rfl (Nat.le_of_ble_eq_true rfl) dX10_flickers_29 ⟨Nat.zero_le _, Nat.zero_le _⟩ hK hN KX_T trivial hP hD hS hA rfl rfl rfl rfl rfl rfl (by decide) rfl rfl (fun H locs hP hD hS => ?_)
        refine jif_ne (tgt := 38) hx hb dX10_flickers_32 (by decide) hJ (fun hJ => ?_) (fun hJ => ?_)
        · refine lv_aload_n hx hb dX10_flickers_38 rfl (lv_at hl 0 rfl) ?_
          obtain ⟨x39, t_finds_39, hc39, hJ⟩ := bnd2_some hJ
          refine jcV_i (C := RX10) (T := TX10) (N := 24) (ci := 8) (q0 := 0) (As := []) (rest := []) (isC := [0, 1, 3]) (isR := [2]) (isB := [1, 2, 0, 3]) (wr := [(q_t_thought, .inl (cI, 133, .inl t_thought))]) (ws2 := [(q_t, .inr (8, [.ref q_t_now, .ref q_t_tried, .ref q_t_thought, .ref q_t_kept, .int t_undos, .ref q_t_saved, .int t_isSaved, .ref q_t_finds, .ref q_t_reach, .ref q_t_steps, .ref q_t_glows, .ref q_t_lower, .ref q_t_upper, .ref q_t_line, .int t_lined, .ref q_t_text, .int t_length, .int t_at, .int t_order, .ref q_t_told, .ref q_t_why, .ref q_t_more, .int t_whys, .int t_answer])), (q_t_now, .inl (cI, 133, .inl t_now)), (q_t_thought, .inl (cI, 133, .inl t_thought)), (q_t_finds, .inl (cI, 16, .inl t_finds_39))]) hF (c_X10_isSettled l D cI cJ cC cL q_t q_t_now q_t_tried q_t_thought q_t_kept q_t_saved q_t_finds q_t_reach q_t_steps q_t_glows q_t_lower q_t_upper q_t_line q_t_text q_t_told q_t_why q_t_more t_undos t_isSaved t_lined t_length t_at t_order t_whys t_answer t_now t_finds x39 t_finds_39 hc39 H.size) (cwV 0 hts gX10_flickers_X10_isSettled rfl rfl rfl (by decide +kernel) ⟨Nat.le_of_ble_eq_true rfl, Nat.le_of_ble_eq_true rfl⟩) rfl hl rfl (Nat.le_of_ble_eq_true rfl) dX10_flickers_39 ⟨Nat.zero_le _, Nat.zero_le _⟩ hK hN KX_T trivial hP hD hS hA rfl rfl rfl rfl rfl rfl (by decide) rfl rfl (fun H locs hP hD hS => ?_)
          refine jif_ne (tgt := 48) hx hb dX10_flickers_42 (by decide) hJ (fun hJ => ?_) (fun hJ => ?_)
          · refine lv_aload_n hx hb dX10_flickers_48 rfl (lv_at hl 0 rfl) ?_
            obtain ⟨t_thought_49, hc49, hJ⟩ := bnd1_some hJ
            refine jcV_v (C := RX10) (T := TX10) (N := 24) (ci := 8) (q0 := 0) (As := []) (rest := []) (isC := [0, 1, 2]) (isR := [3]) (isB := [1, 2, 3, 0]) (wr := [(q_t_finds, .inl (cI, 16, .inl t_finds_39))]) (ws2 := [(q_t, .inr (8, [.ref q_t_now, .ref q_t_tried, .ref q_t_thought, .ref q_t_kept, .int t_undos, .ref q_t_saved, .int t_isSaved, .ref q_t_finds, .ref q_t_reach, .ref q_t_steps, .ref q_t_glows, .ref q_t_lower, .ref q_t_upper, .ref q_t_line, .int t_lined, .ref q_t_text, .int t_length, .int t_at, .int t_order, .ref q_t_told, .ref q_t_why, .ref q_t_more, .int t_whys, .int t_answer])), (q_t_now, .inl (cI, 133, .inl t_now)), (q_t_thought, .inl (cI, 133, .inl t_thought_49)), (q_t_finds, .inl (cI, 16, .inl t_finds_39))]) hF (c_X10_thinks l D cI cJ cC cL q_t q_t_now q_t_tried q_t_thought q_t_kept q_t_saved q_t_finds q_t_reach q_t_steps q_t_glows q_t_lower q_t_upper q_t_line q_t_text q_t_told q_t_why q_t_more t_undos t_isSaved t_lined t_length t_at t_order t_whys t_answer t_now t_thought t_thought_49 hc49 H.size) (cwV 0 hts gX10_flickers_X10_thinks rfl rfl rfl (by decide +kernel) ⟨Nat.le_of_ble_eq_true rfl, Nat.le_of_ble_eq_true rfl⟩) rfl hl rfl (Nat.le_of_ble_eq_true rfl) dX10_flickers_49 ⟨Nat.zero_le _, Nat.zero_le _⟩ hK hN KX_T trivial hP hD hS hA rfl rfl rfl rfl rfl rfl (by decide) rfl rfl (fun H locs hP hD hS => ?_)
            refine lv_aload_n hx hb dX10_flickers_52 rfl (lv_at hl 0 rfl) ?_
            refine lv_iload_n hx hb dX10_flickers_53 rfl (lv_at hl 1 rfl) ?_
            refine lv_iconst (v := (2 : Int32)) hx hb dX10_flickers_54 (by decide) ?_
            obtain ⟨x55, hc55, hJ⟩ := bnd1_some hJ
            refine jcV_i (C := RX10) (T := TX10) (N := 24) (ci := 8) (q0 := 0) (As := [.int v1, .int (2 : Int32)]) (rest := []) (isC := [0, 1]) (isR := [2, 3]) (isB := [2, 3, 0, 1]) (wr := [(q_t_thought, .inl (cI, 133, .inl t_thought_49)), (q_t_finds, .inl (cI, 16, .inl t_finds_39))]) (ws2 := [(q_t, .inr (8, [.ref q_t_now, .ref q_t_tried, .ref q_t_thought, .ref q_t_kept, .int t_undos, .ref q_t_saved, .int t_isSaved, .ref q_t_finds, .ref q_t_reach, .ref q_t_steps, .ref q_t_glows, .ref q_t_lower, .ref q_t_upper, .ref q_t_line, .int t_lined, .ref q_t_text, .int t_length, .int t_at, .int t_order, .ref q_t_told, .ref q_t_why, .ref q_t_more, .int t_whys, .int t_answer])), (q_t_now, .inl (cI, 133, .inl t_now)), (q_t_thought, .inl (cI, 133, .inl t_thought_49)), (q_t_finds, .inl (cI, 16, .inl t_finds_39))]) hF (c_X10_of l D cI cJ cC cL q_t q_t_now q_t_tried q_t_thought q_t_kept q_t_saved q_t_finds q_t_reach q_t_steps q_t_glows q_t_lower q_t_upper q_t_line q_t_text q_t_told q_t_why q_t_more t_undos t_isSaved t_lined t_length t_at t_order t_whys t_answer t_now v1 (2 : Int32) x55 hc55 H.size) (cwV 2 hts gX10_flickers_X10_of rfl rfl rfl (by decide +kernel) ⟨Nat.le_of_ble_eq_true rfl, Nat.le_of_ble_eq_true rfl⟩) rfl hl rfl (Nat.le_of_ble_eq_true rfl) dX10_flickers_55 ⟨Nat.zero_le _, Nat.zero_le _⟩ hK hN KX_T trivial hP hD hS hA rfl rfl rfl rfl rfl rfl (by decide) rfl rfl (fun H locs hP hD hS => ?_)
            refine lv_istore_n (lv' := [(3, .int x55), (0, .ref q_t), (1, .int v1), (2, .int v2)]) hx hb dX10_flickers_58 rfl hl (by decide) rfl (fun ls hl => ?_)
            refine lv_aload_n hx hb dX10_flickers_59 rfl (lv_at hl 1 rfl) ?_
            refine lv_iload_n hx hb dX10_flickers_60 rfl (lv_at hl 2 rfl) ?_
            refine lv_iconst (v := (3 : Int32)) hx hb dX10_flickers_61 (by decide) ?_
            obtain ⟨x62, hc62, hJ⟩ := bnd1_some hJ
            refine jcV_i (C := RX10) (T := TX10) (N := 24) (ci := 8) (q0 := 0) (As := [.int v1, .int (3 : Int32)]) (rest := []) (isC := [0, 1]) (isR := [2, 3]) (isB := [2, 3, 0, 1]) (wr := [(q_t_thought, .inl (cI, 133, .inl t_thought_49)), (q_t_finds, .inl (cI, 16, .inl t_finds_39))]) (ws2 := [(q_t, .inr (8, [.ref q_t_now, .ref q_t_tried, .ref q_t_thought, .ref q_t_kept, .int t_undos, .ref q_t_saved, .int t_isSaved, .ref q_t_finds, .ref q_t_reach, .ref q_t_steps, .ref q_t_glows, .ref q_t_lower, .ref q_t_upper, .ref q_t_line, .int t_lined, .ref q_t_text, .int t_length, .int t_at, .int t_order, .ref q_t_told, .ref q_t_why, .ref q_t_more, .int t_whys, .int t_answer])), (q_t_now, .inl (cI, 133, .inl t_now)), (q_t_thought, .inl (cI, 133, .inl t_thought_49)), (q_t_finds, .inl (cI, 16, .inl t_finds_39))]) hF (c_X10_of l D cI cJ cC cL q_t q_t_now q_t_tried q_t_thought q_t_kept q_t_saved q_t_finds q_t_reach q_t_steps q_t_glows q_t_lower q_t_upper q_t_line q_t_text q_t_told q_t_why q_t_more t_undos t_isSaved t_lined t_length t_at t_order t_whys t_answer t_now v1 (3 : Int32) x62 hc62 H.size) (cwV 2 hts gX10_flickers_X10_of rfl rfl rfl (by decide +kernel) ⟨Nat.le_of_ble_eq_true rfl, Nat.le_of_ble_eq_true rfl⟩) rfl hl rfl (Nat.le_of_ble_eq_true rfl) dX10_flickers_62 ⟨Nat.zero_le _, Nat.zero_le _⟩ hK hN KX_T trivial hP hD hS hA rfl rfl rfl rfl rfl rfl (by decide) rfl rfl (fun H locs hP hD hS => ?_)
            refine lv_istore (lv' := [(4, .int x62), (3, .int x55), (0, .ref q_t), (1, .int v1), (2, .int v2)]) hx hb dX10_flickers_65 hl (by decide) rfl (fun ls hl => ?_)
            refine lv_aload_n hx hb dX10_flickers_67 rfl (lv_at hl 2 rfl) ?_
            refine lv_iload_n hx hb dX10_flickers_68 rfl (lv_at hl 4 rfl) ?_
            refine lv_iconst (v := (2 : Int32)) hx hb dX10_flickers_69 (by decide) ?_
            refine lv_iconst (v := (1 : Int32)) hx hb dX10_flickers_70 (by decide) ?_
            refine lv_aload_n hx hb dX10_flickers_71 rfl (lv_at hl 2 rfl) ?_
            refine lv_iload_n hx hb dX10_flickers_72 rfl (lv_at hl 4 rfl) ?_
            refine lv_iconst (v := (2 : Int32)) hx hb dX10_flickers_73 (by decide) ?_
            obtain ⟨x74, hc74, hJ⟩ := bnd1_some hJ
            refine jcV_i (C := RX10) (T := TX10) (N := 24) (ci := 8) (q0 := 0) (As := [.int v2, .int (2 : Int32)]) (rest := [.int (1 : Int32), .int (2 : Int32), .int v2, .ref q_t]) (isC := [0, 1]) (isR := [2, 3]) (isB := [2, 3, 0, 1]) (wr := [(q_t_thought, .inl (cI, 133, .inl t_thought_49)), (q_t_finds, .inl (cI, 16, .inl t_finds_39))]) (ws2 := [(q_t, .inr (8, [.ref q_t_now, .ref q_t_tried, .ref q_t_thought, .ref q_t_kept, .int t_undos, .ref q_t_saved, .int t_isSaved, .ref q_t_finds, .ref q_t_reach, .ref q_t_steps, .ref q_t_glows, .ref q_t_lower, .ref q_t_upper, .ref q_t_line, .int t_lined, .ref q_t_text, .int t_length, .int t_at, .int t_order, .ref q_t_told, .ref q_t_why, .ref q_t_more, .int t_whys, .int t_answer])), (q_t_now, .inl (cI, 133, .inl t_now)), (q_t_thought, .inl (cI, 133, .inl t_thought_49)), (q_t_finds, .inl (cI, 16, .inl t_finds_39))]) hF (c_X10_of l D cI cJ cC cL q_t q_t_now q_t_tried q_t_thought q_t_kept q_t_saved q_t_finds q_t_reach q_t_steps q_t_glows q_t_lower q_t_upper q_t_line q_t_text q_t_told q_t_why q_t_more t_undos t_isSaved t_lined t_length t_at t_order t_whys t_answer t_now v2 (2 : Int32) x74 hc74 H.size) (cwV 2 hts gX10_flickers_X10_of rfl rfl rfl (by decide +kernel) ⟨Nat.le_of_ble_eq_true rfl, Nat.le_of_ble_eq_true rfl⟩) rfl hl rfl (Nat.le_of_ble_eq_true rfl) dX10_flickers_74 ⟨Nat.zero_le _, Nat.zero_le _⟩ hK hN KX_T trivial hP hD hS hA rfl rfl rfl rfl rfl rfl (by decide) rfl rfl (fun H locs hP hD hS => ?_)
            refine lv_isub hx hb dX10_flickers_77 ?_
            refine jt_i hJ (fun x77 hJ => ?_)
            obtain ⟨t_now_78, hc78, hJ⟩ := bnd1_some hJ
            refine jcV_v (C := RX10) (T := TX10) (N := 24) (ci := 8) (q0 := 0) (As := [.int v2, .int (2 : Int32), .int x77]) (rest := []) (isC := [0, 1]) (isR := [2, 3]) (isB := [2, 3, 0, 1]) (wr := [(q_t_thought, .inl (cI, 133, .inl t_thought_49)), (q_t_finds, .inl (cI, 16, .inl t_finds_39))]) (ws2 := [(q_t, .inr (8, [.ref q_t_now, .ref q_t_tried, .ref q_t_thought, .ref q_t_kept, .int t_undos, .ref q_t_saved, .int t_isSaved, .ref q_t_finds, .ref q_t_reach, .ref q_t_steps, .ref q_t_glows, .ref q_t_lower, .ref q_t_upper, .ref q_t_line, .int t_lined, .ref q_t_text, .int t_length, .int t_at, .int t_order, .ref q_t_told, .ref q_t_why, .ref q_t_more, .int t_whys, .int t_answer])), (q_t_now, .inl (cI, 133, .inl t_now_78)), (q_t_thought, .inl (cI, 133, .inl t_thought_49)), (q_t_finds, .inl (cI, 16, .inl t_finds_39))]) hF (c_X10_sets l D cI cJ cC cL q_t q_t_now q_t_tried q_t_thought q_t_kept q_t_saved q_t_finds q_t_reach q_t_steps q_t_glows q_t_lower q_t_upper q_t_line q_t_text q_t_told q_t_why q_t_more t_undos t_isSaved t_lined t_length t_at t_order t_whys t_answer t_now v2 (2 : Int32) x77 t_now_78 hc78 H.size) (cwV 3 hts gX10_flickers_X10_sets rfl rfl rfl (by decide +kernel) ⟨Nat.le_of_ble_eq_true rfl, Nat.le_of_ble_eq_true rfl⟩) rfl hl rfl (Nat.le_of_ble_eq_true rfl) dX10_flickers_78 ⟨Nat.zero_le _, Nat.zero_le _⟩ hK hN KX_T trivial hP hD hS hA rfl rfl rfl rfl rfl rfl (by decide) rfl rfl (fun H locs hP hD hS => ?_)
            refine lv_aload_n hx hb dX10_flickers_81 rfl (lv_at hl 2 rfl) ?_
            obtain ⟨x82, t_now_82, t_finds_82, hc82, hJ⟩ := bnd3_some hJ
            refine jcV_i (C := RX10) (T := TX10) (N := 24) (ci := 8) (q0 := 0) (As := []) (rest := []) (isC := [0, 1, 3]) (isR := [2]) (isB := [1, 2, 0, 3]) (wr := [(q_t_thought, .inl (cI, 133, .inl t_thought_49))]) (ws2 := [(q_t, .inr (8, [.ref q_t_now, .ref q_t_tried, .ref q_t_thought, .ref q_t_kept, .int t_undos, .ref q_t_saved, .int t_isSaved, .ref q_t_finds, .ref q_t_reach, .ref q_t_steps, .ref q_t_glows, .ref q_t_lower, .ref q_t_upper, .ref q_t_line, .int t_lined, .ref q_t_text, .int t_length, .int t_at, .int t_order, .ref q_t_told, .ref q_t_why, .ref q_t_more, .int t_whys, .int t_answer])), (q_t_now, .inl (cI, 133, .inl t_now_82)), (q_t_thought, .inl (cI, 133, .inl t_thought_49)), (q_t_finds, .inl (cI, 16, .inl t_finds_82))]) hF (c_X10_settles l D cI cJ cC cL q_t q_t_now q_t_tried q_t_thought q_t_kept q_t_saved q_t_finds q_t_reach q_t_steps q_t_glows q_t_lower q_t_upper q_t_line q_t_text q_t_told q_t_why q_t_more t_undos t_isSaved t_lined t_length t_at t_order t_whys t_answer t_now_78 t_finds_39 x82 t_now_82 t_finds_82 hc82 H.size) (cwV 0 hts gX10_flickers_X10_settles rfl rfl rfl (by decide +kernel) ⟨Nat.le_of_ble_eq_true rfl, Nat.le_of_ble_eq_true rfl⟩) rfl hl rfl (Nat.le_of_ble_eq_true rfl) dX10_flickers_82 ⟨Nat.zero_le _, Nat.zero_le _⟩ hK hN KX_T trivial hP hD hS hA rfl rfl rfl rfl rfl rfl (by decide) rfl rfl (fun H locs hP hD hS => ?_)
            refine lv_istore (lv' := [(5, .int x82), (4, .int x62), (3, .int x55), (0, .ref q_t), (1, .int v1), (2, .int v2)]) hx hb dX10_flickers_85 hl (by decide) rfl (fun ls hl => ?_)
            refine lv_aload_n hx hb dX10_flickers_87 rfl (lv_at hl 3 rfl) ?_
            refine lv_iload_n hx hb dX10_flickers_88 rfl (lv_at hl 4 rfl) ?_
            refine lv_iconst (v := (3 : Int32)) hx hb dX10_flickers_89 (by decide) ?_
            obtain ⟨x90, hc90, hJ⟩ := bnd1_some hJ
            refine jcV_i (C := RX10) (T := TX10) (N := 24) (ci := 8) (q0 := 0) (As := [.int v1, .int (3 : Int32)]) (rest := []) (isC := [0, 1]) (isR := [2, 3]) (isB := [2, 3, 0, 1]) (wr := [(q_t_thought, .inl (cI, 133, .inl t_thought_49)), (q_t_finds, .inl (cI, 16, .inl t_finds_82))]) (ws2 := [(q_t, .inr (8, [.ref q_t_now, .ref q_t_tried, .ref q_t_thought, .ref q_t_kept, .int t_undos, .ref q_t_saved, .int t_isSaved, .ref q_t_finds, .ref q_t_reach, .ref q_t_steps, .ref q_t_glows, .ref q_t_lower, .ref q_t_upper, .ref q_t_line, .int t_lined, .ref q_t_text, .int t_length, .int t_at, .int t_order, .ref q_t_told, .ref q_t_why, .ref q_t_more, .int t_whys, .int t_answer])), (q_t_now, .inl (cI, 133, .inl t_now_82)), (q_t_thought, .inl (cI, 133, .inl t_thought_49)), (q_t_finds, .inl (cI, 16, .inl t_finds_82))]) hF (c_X10_of l D cI cJ cC cL q_t q_t_now q_t_tried q_t_thought q_t_kept q_t_saved q_t_finds q_t_reach q_t_steps q_t_glows q_t_lower q_t_upper q_t_line q_t_text q_t_told q_t_why q_t_more t_undos t_isSaved t_lined t_length t_at t_order t_whys t_answer t_now_82 v1 (3 : Int32) x90 hc90 H.size) (cwV 2 hts gX10_flickers_X10_of rfl rfl rfl (by decide +kernel) ⟨Nat.le_of_ble_eq_true rfl, Nat.le_of_ble_eq_true rfl⟩) rfl hl rfl (Nat.le_of_ble_eq_true rfl) dX10_flickers_90 ⟨Nat.zero_le _, Nat.zero_le _⟩ hK hN KX_T trivial hP hD hS hA rfl rfl rfl rfl rfl rfl (by decide) rfl rfl (fun H locs hP hD hS => ?_)
            refine lv_iload hx hb dX10_flickers_93 (lv_at hl 1 rfl) ?_
            refine lv_isub hx hb dX10_flickers_95 ?_
            refine jt_i hJ (fun x95 hJ => ?_)
            refine lv_istore (lv' := [(6, .int x95), (5, .int x82), (4, .int x62), (3, .int x55), (0, .ref q_t), (1, .int v1), (2, .int v2)]) hx hb dX10_flickers_96 hl (by decide) rfl (fun ls hl => ?_)
            refine lv_aload_n hx hb dX10_flickers_98 rfl (lv_at hl 4 rfl) ?_
            refine lv_iload_n hx hb dX10_flickers_99 rfl (lv_at hl 5 rfl) ?_
            refine lv_iconst (v := (2 : Int32)) hx hb dX10_flickers_100 (by decide) ?_
            obtain ⟨x101, hc101, hJ⟩ := bnd1_some hJ
            refine jcV_i (C := RX10) (T := TX10) (N := 24) (ci := 8) (q0 := 0) (As := [.int v1, .int (2 : Int32)]) (rest := []) (isC := [0, 1]) (isR := [2, 3]) (isB := [2, 3, 0, 1]) (wr := [(q_t_thought, .inl (cI, 133, .inl t_thought_49)), (q_t_finds, .inl (cI, 16, .inl t_finds_82))]) (ws2 := [(q_t, .inr (8, [.ref q_t_now, .ref q_t_tried, .ref q_t_thought, .ref q_t_kept, .int t_undos, .ref q_t_saved, .int t_isSaved, .ref q_t_finds, .ref q_t_reach, .ref q_t_steps, .ref q_t_glows, .ref q_t_lower, .ref q_t_upper, .ref q_t_line, .int t_lined, .ref q_t_text, .int t_length, .int t_at, .int t_order, .ref q_t_told, .ref q_t_why, .ref q_t_more, .int t_whys, .int t_answer])), (q_t_now, .inl (cI, 133, .inl t_now_82)), (q_t_thought, .inl (cI, 133, .inl t_thought_49)), (q_t_finds, .inl (cI, 16, .inl t_finds_82))]) hF (c_X10_of l D cI cJ cC cL q_t q_t_now q_t_tried q_t_thought q_t_kept q_t_saved q_t_finds q_t_reach q_t_steps q_t_glows q_t_lower q_t_upper q_t_line q_t_text q_t_told q_t_why q_t_more t_undos t_isSaved t_lined t_length t_at t_order t_whys t_answer t_now_82 v1 (2 : Int32) x101 hc101 H.size) (cwV 2 hts gX10_flickers_X10_of rfl rfl rfl (by decide +kernel) ⟨Nat.le_of_ble_eq_true rfl, Nat.le_of_ble_eq_true rfl⟩) rfl hl rfl (Nat.le_of_ble_eq_true rfl) dX10_flickers_101 ⟨Nat.zero_le _, Nat.zero_le _⟩ hK hN KX_T trivial hP hD hS hA rfl rfl rfl rfl rfl rfl (by decide) rfl rfl (fun H locs hP hD hS => ?_)
            refine lv_iload_n hx hb dX10_flickers_104 rfl (lv_at hl 3 rfl) ?_
            refine jif_icmp_eq (tgt := 111) hx hb dX10_flickers_105 (by decide) hJ (fun hJ => ?_) (fun hJ => ?_)
            · exact B111  t_now_82 t_thought_49 t_finds_82 x82 x95  H locs  hP hD hS _ (lv_sub hl [4, 1, 0] rfl) hJ
            · refine jt_iinc hJ (fun x108 ex108 hJ => ?_)
              refine lv_iinc (v := x108) (lv' := [(6, .int x108), (5, .int x82), (4, .int x62), (3, .int x55), (0, .ref q_t), (1, .int v1), (2, .int v2)]) hx hb dX10_flickers_108 hl (k := 0) rfl ex108 (by decide) rfl (fun ls hl => ?_)
              exact B111  t_now_82 t_thought_49 t_finds_82 x82 x108  H locs  hP hD hS _ (lv_sub hl [4, 1, 0] rfl) hJ
          · refine lv_bipush (v := (-15 : Int32)) hx hb dX10_flickers_45 (by decide) ?_
            have hJ := Option.some.inj hJ
            obtain ⟨e0, e1, e2, e3⟩ : ((-15 : Int32)) = r ∧ (t_now) = o_t_now ∧ (t_thought) = o_t_thought ∧ (t_finds_39) = o_t_finds := ⟨congrArg (fun z => z.1) hJ, congrArg (fun z => z.2.1) hJ, congrArg (fun z => z.2.2.1) hJ, congrArg (fun z => z.2.2.2) hJ⟩
            exact hRet (by rw [← e1, ← e2, ← e3]; exact hP) (by rw [← e1, ← e2, ← e3]; exact hD) hS e0 dX10_flickers_47
        · exact B35  t_now t_thought t_finds  H locs  hP hD hS _ (lv_sub hl [] rfl) hJ
    · exact B16  t_now t_thought t_finds  H locs  hP hD hS _ (lv_sub hl [] rfl) hJ

def J_X10_switchSet_b46 (k8 : (Nat → Int32) → Int32 → Int32 → Option (Int32 × (Nat → Int32))) (t_now : Nat → Int32) (v1 : Int32) (t_reach : Nat → Int32) (v2 : Int32) (v3 : Int32) : Option (Int32 × (Nat → Int32)) :=
    nm (v3 + Int32.ofInt 1) fun x46 =>
    k8 t_reach v2 x46
def J_X10_switchSet_L8 (t_now : Nat → Int32) (v1 : Int32) : Nat → (Nat → Int32) → Int32 → Int32 → Option (Int32 × (Nat → Int32))
  | 0, _, _, _ => none
  | nf + 1, t_reach, v2, v3 =>
    chk (0 : Int32) 133 (
    nm (t_now (0 : Int32).toNatClampNeg) fun x14 =>
    if x14 ≤ v3 then (
    some (v2, t_reach))
    else (
    bnd1 (J_X10_isSwitch t_now v3) fun x20 =>
    if x20 = 0 then (
    J_X10_switchSet_b46 (fun z0 z1 z2 => J_X10_switchSet_L8 t_now v1 nf z0 z1 z2) t_now v1 t_reach v2 v3)
    else (
    chk v3 16 (
    nm (t_reach v3.toNatClampNeg) fun x31 =>
    nm (x31 >>> (v1 &&& 31)) fun x33 =>
    nm (x33 &&& (1 : Int32)) fun x35 =>
    if x35 = (1 : Int32) then (
    nm (v2 ||| ((1 : Int32) <<< (v3 &&& 31))) fun x44 =>
    J_X10_switchSet_b46 (fun z0 z1 z2 => J_X10_switchSet_L8 t_now v1 nf z0 z1 z2) t_now v1 t_reach x44 v3)
    else (
    J_X10_switchSet_b46 (fun z0 z1 z2 => J_X10_switchSet_L8 t_now v1 nf z0 z1 z2) t_now v1 t_reach v2 v3)))))
def J_X10_switchSet (t_now : Nat → Int32) (t_reach : Nat → Int32) (v1 : Int32) : Option (Int32 × (Nat → Int32)) :=
    bnd1 (J_X10_reaches t_now t_reach) fun t_reach_1 =>
    J_X10_switchSet_L8 t_now v1 FU t_reach_1 (0 : Int32) (0 : Int32)
abbrev rmX10_switchSet : Room := { frames := 3, cells := 0, slots := 0, locals := 68 }
set_option maxHeartbeats 4000000 in
set_option maxRecDepth 100000 in
theorem c_X10_switchSet (l : Launch) (D : va_G) (cI cJ cC cL : ClassId) (q_t q_t_now q_t_tried q_t_thought q_t_kept q_t_saved q_t_finds q_t_reach q_t_steps q_t_glows q_t_lower q_t_upper q_t_line q_t_text q_t_told q_t_why q_t_more : Nat) (t_undos : Int32) (t_isSaved : Int32) (t_lined : Int32) (t_length : Int32) (t_at : Int32) (t_order : Int32) (t_whys : Int32) (t_answer : Int32) (t_now : Nat → Int32) (t_reach : Nat → Int32) (v1 : Int32) (r : Int32) (o_t_reach : Nat → Int32) (hJ : J_X10_switchSet t_now t_reach v1 = some (r, o_t_reach)) (sz : Nat) : Met l yX10_switchSet wsX10_switchSet rmX10_switchSet (va_Pc [.ref q_t, .int v1] (jpre XT D (tyL cI cJ cC cL) [(q_t, .inr (8, [.ref q_t_now, .ref q_t_tried, .ref q_t_thought, .ref q_t_kept, .int t_undos, .ref q_t_saved, .int t_isSaved, .ref q_t_finds, .ref q_t_reach, .ref q_t_steps, .ref q_t_glows, .ref q_t_lower, .ref q_t_upper, .ref q_t_line, .int t_lined, .ref q_t_text, .int t_length, .int t_at, .int t_order, .ref q_t_told, .ref q_t_why, .ref q_t_more, .int t_whys, .int t_answer])), (q_t_now, .inl (cI, 133, .inl t_now)), (q_t_reach, .inl (cI, 16, .inl t_reach))] sz)) (va_Qi (fun r' (_ : Unit) => r' = r) (fun _ t => jpost D (tyL cI cJ cC cL) (va_A [(q_t, .inr (8, [.ref q_t_now, .ref q_t_tried, .ref q_t_thought, .ref q_t_kept, .int t_undos, .ref q_t_saved, .int t_isSaved, .ref q_t_finds, .ref q_t_reach, .ref q_t_steps, .ref q_t_glows, .ref q_t_lower, .ref q_t_upper, .ref q_t_line, .int t_lined, .ref q_t_text, .int t_length, .int t_at, .int t_order, .ref q_t_told, .ref q_t_why, .ref q_t_more, .int t_whys, .int t_answer])), (q_t_now, .inl (cI, 133, .inl t_now)), (q_t_reach, .inl (cI, 16, .inl t_reach))] sz) [(q_t, .inr (8, [.ref q_t_now, .ref q_t_tried, .ref q_t_thought, .ref q_t_kept, .int t_undos, .ref q_t_saved, .int t_isSaved, .ref q_t_finds, .ref q_t_reach, .ref q_t_steps, .ref q_t_glows, .ref q_t_lower, .ref q_t_upper, .ref q_t_line, .int t_lined, .ref q_t_text, .int t_length, .int t_at, .int t_order, .ref q_t_told, .ref q_t_why, .ref q_t_more, .int t_whys, .int t_answer])), (q_t_now, .inl (cI, 133, .inl t_now)), (q_t_reach, .inl (cI, 16, .inl o_t_reach))] t) (va_A [(q_t, .inr (8, [.ref q_t_now, .ref q_t_tried, .ref q_t_thought, .ref q_t_kept, .int t_undos, .ref q_t_saved, .int t_isSaved, .ref q_t_finds, .ref q_t_reach, .ref q_t_steps, .ref q_t_glows, .ref q_t_lower, .ref q_t_upper, .ref q_t_line, .int t_lined, .ref q_t_text, .int t_length, .int t_at, .int t_order, .ref q_t_told, .ref q_t_why, .ref q_t_more, .int t_whys, .int t_answer])), (q_t_now, .inl (cI, 133, .inl t_now)), (q_t_reach, .inl (cI, 16, .inl t_reach))] sz)) 0 0 (va_A [(q_t, .inr (8, [.ref q_t_now, .ref q_t_tried, .ref q_t_thought, .ref q_t_kept, .int t_undos, .ref q_t_saved, .int t_isSaved, .ref q_t_finds, .ref q_t_reach, .ref q_t_steps, .ref q_t_glows, .ref q_t_lower, .ref q_t_upper, .ref q_t_line, .int t_lined, .ref q_t_text, .int t_length, .int t_at, .int t_order, .ref q_t_told, .ref q_t_why, .ref q_t_more, .int t_whys, .int t_answer])), (q_t_now, .inl (cI, 133, .inl t_now)), (q_t_reach, .inl (cI, 16, .inl t_reach))] sz) := by
  refine jE_i (cc := cX10_switchSet) (maxL := 4) (own := RX10) (ret := (some .int)) (lv0 := [(0, .ref q_t), (1, .int v1)]) (by decide) rfl rfl rfl (Nat.le_of_ble_eq_true rfl) rfl ?_
  intro p e s m args below meth c A Q ls hx hb hml hown hts hK hN hX hA hP hD hS hl hRet
  have hF : CallFix p m c cX10_switchSet 4 s args wsX10_switchSet RX10 := ⟨hx, hb, hml, hown, hts⟩
  have fl_9 := hts (.fieldLink RX10 9 "LanternLogicModel" "now" "[I") (by decide +kernel)
  have fl_28 := hts (.fieldLink RX10 28 "LanternLogicModel" "reach" "[I") (by decide +kernel)
  have hin_X10 : ∀ w ∈ u_ws RX10 TX10 24, w ∈ wsX10_switchSet := by decide +kernel
  have B46 : ∀ (k8 : (Nat → Int32) → Int32 → Int32 → Option (Int32 × (Nat → Int32))), (∀ (t_reach : Nat → Int32) (v2 : Int32) (v3 : Int32) (H : Heap) (locs : List Loc), va_P D vwCl [(q_t, .inr (8, [.ref q_t_now, .ref q_t_tried, .ref q_t_thought, .ref q_t_kept, .int t_undos, .ref q_t_saved, .int t_isSaved, .ref q_t_finds, .ref q_t_reach, .ref q_t_steps, .ref q_t_glows, .ref q_t_lower, .ref q_t_upper, .ref q_t_line, .int t_lined, .ref q_t_text, .int t_length, .int t_at, .int t_order, .ref q_t_told, .ref q_t_why, .ref q_t_more, .int t_whys, .int t_answer])), (q_t_now, .inl (cI, 133, .inl t_now)), (q_t_reach, .inl (cI, 16, .inl t_reach))] H → va_D A [(q_t, .inr (8, [.ref q_t_now, .ref q_t_tried, .ref q_t_thought, .ref q_t_kept, .int t_undos, .ref q_t_saved, .int t_isSaved, .ref q_t_finds, .ref q_t_reach, .ref q_t_steps, .ref q_t_glows, .ref q_t_lower, .ref q_t_upper, .ref q_t_line, .int t_lined, .ref q_t_text, .int t_length, .int t_at, .int t_order, .ref q_t_told, .ref q_t_why, .ref q_t_more, .int t_whys, .int t_answer])), (q_t_now, .inl (cI, 133, .inl t_now)), (q_t_reach, .inl (cI, 16, .inl t_reach))] → va_S A s.heap H locs → ∀ ls : Array Slot, lv_has ls 4 [(0, .ref q_t), (1, .int v1), (2, .int v2), (3, .int v3)] → k8 t_reach v2 v3 = some (r, o_t_reach) → W p l e rmX10_switchSet s m args below meth c H locs 0 0 Q (F0 m 8 ls [])) → ∀ (t_reach : Nat → Int32) (v2 : Int32) (v3 : Int32) (H : Heap) (locs : List Loc), va_P D vwCl [(q_t, .inr (8, [.ref q_t_now, .ref q_t_tried, .ref q_t_thought, .ref q_t_kept, .int t_undos, .ref q_t_saved, .int t_isSaved, .ref q_t_finds, .ref q_t_reach, .ref q_t_steps, .ref q_t_glows, .ref q_t_lower, .ref q_t_upper, .ref q_t_line, .int t_lined, .ref q_t_text, .int t_length, .int t_at, .int t_order, .ref q_t_told, .ref q_t_why, .ref q_t_more, .int t_whys, .int t_answer])), (q_t_now, .inl (cI, 133, .inl t_now)), (q_t_reach, .inl (cI, 16, .inl t_reach))] H → va_D A [(q_t, .inr (8, [.ref q_t_now, .ref q_t_tried, .ref q_t_thought, .ref q_t_kept, .int t_undos, .ref q_t_saved, .int t_isSaved, .ref q_t_finds, .ref q_t_reach, .ref q_t_steps, .ref q_t_glows, .ref q_t_lower, .ref q_t_upper, .ref q_t_line, .int t_lined, .ref q_t_text, .int t_length, .int t_at, .int t_order, .ref q_t_told, .ref q_t_why, .ref q_t_more, .int t_whys, .int t_answer])), (q_t_now, .inl (cI, 133, .inl t_now)), (q_t_reach, .inl (cI, 16, .inl t_reach))] → va_S A s.heap H locs → ∀ ls : Array Slot, lv_has ls 4 [(0, .ref q_t), (1, .int v1), (2, .int v2), (3, .int v3)] → J_X10_switchSet_b46 k8 t_now v1 t_reach v2 v3 = some (r, o_t_reach) → W p l e rmX10_switchSet s m args below meth c H locs 0 0 Q (F0 m 46 ls []) := by
    intro k8 hk8 t_reach v2 v3 H locs hP hD hS ls hl hJ
    unfold J_X10_switchSet_b46 at hJ
    refine jt_iinc hJ (fun x46 ex46 hJ => ?_)
    refine lv_iinc (v := x46) (lv' := [(3, .int x46), (0, .ref q_t), (1, .int v1), (2, .int v2)]) hx hb dX10_switchSet_46 hl (k := 3) rfl ex46 (by decide) rfl (fun ls hl => ?_)
    refine lv_goto (tgt := 8) hx hb dX10_switchSet_49 (by decide) ?_
    exact hk8 t_reach v2 x46  H locs  hP hD hS _ (lv_sub hl [1, 2, 3, 0] rfl) hJ
  have L8 : ∀ (nf : Nat), ∀ (t_reach : Nat → Int32) (v2 : Int32) (v3 : Int32) (H : Heap) (locs : List Loc), va_P D vwCl [(q_t, .inr (8, [.ref q_t_now, .ref q_t_tried, .ref q_t_thought, .ref q_t_kept, .int t_undos, .ref q_t_saved, .int t_isSaved, .ref q_t_finds, .ref q_t_reach, .ref q_t_steps, .ref q_t_glows, .ref q_t_lower, .ref q_t_upper, .ref q_t_line, .int t_lined, .ref q_t_text, .int t_length, .int t_at, .int t_order, .ref q_t_told, .ref q_t_why, .ref q_t_more, .int t_whys, .int t_answer])), (q_t_now, .inl (cI, 133, .inl t_now)), (q_t_reach, .inl (cI, 16, .inl t_reach))] H → va_D A [(q_t, .inr (8, [.ref q_t_now, .ref q_t_tried, .ref q_t_thought, .ref q_t_kept, .int t_undos, .ref q_t_saved, .int t_isSaved, .ref q_t_finds, .ref q_t_reach, .ref q_t_steps, .ref q_t_glows, .ref q_t_lower, .ref q_t_upper, .ref q_t_line, .int t_lined, .ref q_t_text, .int t_length, .int t_at, .int t_order, .ref q_t_told, .ref q_t_why, .ref q_t_more, .int t_whys, .int t_answer])), (q_t_now, .inl (cI, 133, .inl t_now)), (q_t_reach, .inl (cI, 16, .inl t_reach))] → va_S A s.heap H locs → ∀ ls : Array Slot, lv_has ls 4 [(0, .ref q_t), (1, .int v1), (2, .int v2), (3, .int v3)] → J_X10_switchSet_L8  t_now v1 nf t_reach v2 v3 = some (r, o_t_reach) → W p l e rmX10_switchSet s m args below meth c H locs 0 0 Q (F0 m 8 ls []) := by
    intro nf
    induction nf with
    | zero =>
      intro t_reach v2 v3 H locs hP hD hS ls hl hJ
      rw [J_X10_switchSet_L8] at hJ
      cases hJ
    | succ nf ih =>
      intro t_reach v2 v3 H locs hP hD hS ls hl hJ
      rw [J_X10_switchSet_L8] at hJ
      refine lv_iload_n hx hb dX10_switchSet_8 rfl (lv_at hl 3 rfl) ?_
      refine lv_aload_n hx hb dX10_switchSet_9 rfl (lv_at hl 0 rfl) ?_
      refine va_get (ci := 8) (v := .ref q_t_now) (C := RX10) (T := TX10) (N := 24) hx hb hts hin_X10 hown hK hP 0 rfl rfl 0 (by decide) fl_9 (fun _ h9 => h9) rfl dX10_switchSet_10 ?_
      refine lv_iconst (v := (0 : Int32)) hx hb dX10_switchSet_13 (by decide) ?_
      obtain ⟨hin, hJ⟩ := chk_in hJ
      refine va_iald hx hb hK hP 1 0 rfl rfl hin dX10_switchSet_14 ?_
      refine jt_i hJ (fun x14 hJ => ?_)
      refine jif_icmp_ge (tgt := 52) hx hb dX10_switchSet_15 (by decide) hJ (fun hJ => ?_) (fun hJ => ?_)
      · refine lv_iload_n hx hb dX10_switchSet_52 rfl (lv_at hl 2 rfl) ?_
        have hJ := Option.some.inj hJ
        obtain ⟨e0, e1⟩ : (v2) = r ∧ (t_reach) = o_t_reach := ⟨congrArg (fun z => z.1) hJ, congrArg (fun z => z.2) hJ⟩
        exact hRet (by rw [← e1]; exact hP) (by rw [← e1]; exact hD) hS e0 dX10_switchSet_53
      · refine lv_aload_n hx hb dX10_switchSet_18 rfl (lv_at hl 0 rfl) ?_
        refine lv_iload_n hx hb dX10_switchSet_19 rfl (lv_at hl 3 rfl) ?_
        obtain ⟨x20, hc20, hJ⟩ := bnd1_some hJ
        refine jcV_i (C := RX10) (T := TX10) (N := 24) (ci := 8) (q0 := 0) (As := [.int v3]) (rest := []) (isC := [0, 1]) (isR := [2]) (isB := [1, 2, 0]) (wr := [(q_t_reach, .inl (cI, 16, .inl t_reach))]) (ws2 := [(q_t, .inr (8, [.ref q_t_now, .ref q_t_tried, .ref q_t_thought, .ref q_t_kept, .int t_undos, .ref q_t_saved, .int t_isSaved, .ref q_t_finds, .ref q_t_reach, .ref q_t_steps, .ref q_t_glows, .ref q_t_lower, .ref q_t_upper, .ref q_t_line, .int t_lined, .ref q_t_text, .int t_length, .int t_at, .int t_order, .ref q_t_told, .ref q_t_why, .ref q_t_more, .int t_whys, .int t_answer])), (q_t_now, .inl (cI, 133, .inl t_now)), (q_t_reach, .inl (cI, 16, .inl t_reach))]) hF (c_X10_isSwitch l D cI cJ cC cL q_t q_t_now q_t_tried q_t_thought q_t_kept q_t_saved q_t_finds q_t_reach q_t_steps q_t_glows q_t_lower q_t_upper q_t_line q_t_text q_t_told q_t_why q_t_more t_undos t_isSaved t_lined t_length t_at t_order t_whys t_answer t_now v3 x20 hc20 H.size) (cwV 1 hts gX10_switchSet_X10_isSwitch rfl rfl rfl (by decide +kernel) ⟨Nat.le_of_ble_eq_true rfl, Nat.le_of_ble_eq_true rfl⟩) rfl hl rfl (Nat.le_of_ble_eq_true rfl) dX10_switchSet_20 ⟨Nat.zero_le _, Nat.zero_le _⟩ hK hN KX_T trivial hP hD hS hA rfl rfl rfl rfl rfl rfl (by decide) rfl rfl (fun H locs hP hD hS => ?_)
        refine jif_eq (tgt := 46) hx hb dX10_switchSet_23 (by decide) hJ (fun hJ => ?_) (fun hJ => ?_)
        · exact B46 (fun z0 z1 z2 => J_X10_switchSet_L8 t_now v1 nf z0 z1 z2) ih t_reach v2 v3  H locs  hP hD hS _ (lv_sub hl [0, 1, 2, 3] rfl) hJ
        · refine lv_aload_n hx hb dX10_switchSet_26 rfl (lv_at hl 0 rfl) ?_
          refine va_get (ci := 8) (v := .ref q_t_reach) (C := RX10) (T := TX10) (N := 24) hx hb hts hin_X10 hown hK hP 0 rfl rfl 8 (by decide) fl_28 (fun _ h9 => h9) rfl dX10_switchSet_27 ?_
          refine lv_iload_n hx hb dX10_switchSet_30 rfl (lv_at hl 3 rfl) ?_
          obtain ⟨hin, hJ⟩ := chk_in hJ
          refine va_iald hx hb hK hP 2 0 rfl rfl hin dX10_switchSet_31 ?_
          refine jt_i hJ (fun x31 hJ => ?_)
          refine lv_iload_n hx hb dX10_switchSet_32 rfl (lv_at hl 1 rfl) ?_
          refine lv_ishr hx hb dX10_switchSet_33 ?_
          refine jt_i hJ (fun x33 hJ => ?_)
          refine lv_iconst (v := (1 : Int32)) hx hb dX10_switchSet_34 (by decide) ?_
          refine lv_iand hx hb dX10_switchSet_35 ?_
          refine jt_i hJ (fun x35 hJ => ?_)
          refine lv_iconst (v := (1 : Int32)) hx hb dX10_switchSet_36 (by decide) ?_
          refine jif_icmp_ne (tgt := 46) hx hb dX10_switchSet_37 (by decide) hJ (fun hJ => ?_) (fun hJ => ?_)
          · exact B46 (fun z0 z1 z2 => J_X10_switchSet_L8 t_now v1 nf z0 z1 z2) ih t_reach v2 v3  H locs  hP hD hS _ (lv_sub hl [0, 1, 2, 3] rfl) hJ
          · refine lv_iload_n hx hb dX10_switchSet_40 rfl (lv_at hl 2 rfl) ?_
            refine lv_iconst (v := (1 : Int32)) hx hb dX10_switchSet_41 (by decide) ?_
            refine lv_iload_n hx hb dX10_switchSet_42 rfl (lv_at hl 3 rfl) ?_
            refine lv_ishl hx hb dX10_switchSet_43 ?_
            refine lv_ior hx hb dX10_switchSet_44 ?_
            refine jt_i hJ (fun x44 hJ => ?_)
            refine lv_istore_n (lv' := [(2, .int x44), (0, .ref q_t), (1, .int v1), (3, .int v3)]) hx hb dX10_switchSet_45 rfl hl (by decide) rfl (fun ls hl => ?_)
            exact B46 (fun z0 z1 z2 => J_X10_switchSet_L8 t_now v1 nf z0 z1 z2) ih t_reach x44 v3  H locs  hP hD hS _ (lv_sub hl [1, 2, 0, 3] rfl) hJ
  unfold J_X10_switchSet at hJ
  refine lv_aload_n hx hb dX10_switchSet_0 rfl (lv_at hl 0 rfl) ?_
  obtain ⟨t_reach_1, hc1, hJ⟩ := bnd1_some hJ
  refine jcV_v (C := RX10) (T := TX10) (N := 24) (ci := 8) (q0 := 0) (As := []) (rest := []) (isC := [0, 1, 2]) (isR := []) (isB := [0, 1, 2]) (wr := []) (ws2 := [(q_t, .inr (8, [.ref q_t_now, .ref q_t_tried, .ref q_t_thought, .ref q_t_kept, .int t_undos, .ref q_t_saved, .int t_isSaved, .ref q_t_finds, .ref q_t_reach, .ref q_t_steps, .ref q_t_glows, .ref q_t_lower, .ref q_t_upper, .ref q_t_line, .int t_lined, .ref q_t_text, .int t_length, .int t_at, .int t_order, .ref q_t_told, .ref q_t_why, .ref q_t_more, .int t_whys, .int t_answer])), (q_t_now, .inl (cI, 133, .inl t_now)), (q_t_reach, .inl (cI, 16, .inl t_reach_1))]) hF (c_X10_reaches l D cI cJ cC cL q_t q_t_now q_t_tried q_t_thought q_t_kept q_t_saved q_t_finds q_t_reach q_t_steps q_t_glows q_t_lower q_t_upper q_t_line q_t_text q_t_told q_t_why q_t_more t_undos t_isSaved t_lined t_length t_at t_order t_whys t_answer t_now t_reach t_reach_1 hc1 s.heap.size) (cwV 0 hts gX10_switchSet_X10_reaches rfl rfl rfl (by decide +kernel) ⟨Nat.le_of_ble_eq_true rfl, Nat.le_of_ble_eq_true rfl⟩) rfl hl rfl (Nat.le_of_ble_eq_true rfl) dX10_switchSet_1 ⟨Nat.zero_le _, Nat.zero_le _⟩ hK hN KX_T trivial hP hD hS hA rfl rfl rfl rfl rfl rfl (by decide) rfl rfl (fun H locs hP hD hS => ?_)
  refine lv_iconst (v := (0 : Int32)) hx hb dX10_switchSet_4 (by decide) ?_
  refine lv_istore_n (lv' := [(2, .int (0 : Int32)), (0, .ref q_t), (1, .int v1)]) hx hb dX10_switchSet_5 rfl hl (by decide) rfl (fun ls hl => ?_)
  refine lv_iconst (v := (0 : Int32)) hx hb dX10_switchSet_6 (by decide) ?_
  refine lv_istore_n (lv' := [(3, .int (0 : Int32)), (2, .int (0 : Int32)), (0, .ref q_t), (1, .int v1)]) hx hb dX10_switchSet_7 rfl hl (by decide) rfl (fun ls hl => ?_)
  exact L8  FU t_reach_1 (0 : Int32) (0 : Int32)  H locs  hP hD hS _ (lv_sub hl [2, 3, 1, 0] rfl) hJ

def J_X10_switchesOf_b18 (t_now : Nat → Int32) (v1 : Int32) (t_reach : Nat → Int32) (s18_0 : Int32) : Option (Int32 × (Nat → Int32)) :=
    some (s18_0, t_reach)
def J_X10_switchesOf (t_now : Nat → Int32) (t_reach : Nat → Int32) (v1 : Int32) : Option (Int32 × (Nat → Int32)) :=
    bnd1 (J_X10_isLantern t_now v1) fun x2 =>
    if x2 = 0 then (
    J_X10_switchesOf_b18 t_now v1 t_reach (-11 : Int32))
    else (
    bnd2 (J_X10_switchSet t_now t_reach v1) fun x10 t_reach_10 =>
    J_X10_switchesOf_b18 t_now v1 t_reach_10 x10)
abbrev rmX10_switchesOf : Room := { frames := 4, cells := 0, slots := 0, locals := 91 }
set_option maxHeartbeats 4000000 in
set_option maxRecDepth 100000 in
theorem c_X10_switchesOf (l : Launch) (D : va_G) (cI cJ cC cL : ClassId) (q_t q_t_now q_t_tried q_t_thought q_t_kept q_t_saved q_t_finds q_t_reach q_t_steps q_t_glows q_t_lower q_t_upper q_t_line q_t_text q_t_told q_t_why q_t_more : Nat) (t_undos : Int32) (t_isSaved : Int32) (t_lined : Int32) (t_length : Int32) (t_at : Int32) (t_order : Int32) (t_whys : Int32) (t_answer : Int32) (t_now : Nat → Int32) (t_reach : Nat → Int32) (v1 : Int32) (r : Int32) (o_t_reach : Nat → Int32) (hJ : J_X10_switchesOf t_now t_reach v1 = some (r, o_t_reach)) (sz : Nat) : Met l yX10_switchesOf wsX10_switchesOf rmX10_switchesOf (va_Pc [.ref q_t, .int v1] (jpre XT D (tyL cI cJ cC cL) [(q_t, .inr (8, [.ref q_t_now, .ref q_t_tried, .ref q_t_thought, .ref q_t_kept, .int t_undos, .ref q_t_saved, .int t_isSaved, .ref q_t_finds, .ref q_t_reach, .ref q_t_steps, .ref q_t_glows, .ref q_t_lower, .ref q_t_upper, .ref q_t_line, .int t_lined, .ref q_t_text, .int t_length, .int t_at, .int t_order, .ref q_t_told, .ref q_t_why, .ref q_t_more, .int t_whys, .int t_answer])), (q_t_now, .inl (cI, 133, .inl t_now)), (q_t_reach, .inl (cI, 16, .inl t_reach))] sz)) (va_Qi (fun r' (_ : Unit) => r' = r) (fun _ t => jpost D (tyL cI cJ cC cL) (va_A [(q_t, .inr (8, [.ref q_t_now, .ref q_t_tried, .ref q_t_thought, .ref q_t_kept, .int t_undos, .ref q_t_saved, .int t_isSaved, .ref q_t_finds, .ref q_t_reach, .ref q_t_steps, .ref q_t_glows, .ref q_t_lower, .ref q_t_upper, .ref q_t_line, .int t_lined, .ref q_t_text, .int t_length, .int t_at, .int t_order, .ref q_t_told, .ref q_t_why, .ref q_t_more, .int t_whys, .int t_answer])), (q_t_now, .inl (cI, 133, .inl t_now)), (q_t_reach, .inl (cI, 16, .inl t_reach))] sz) [(q_t, .inr (8, [.ref q_t_now, .ref q_t_tried, .ref q_t_thought, .ref q_t_kept, .int t_undos, .ref q_t_saved, .int t_isSaved, .ref q_t_finds, .ref q_t_reach, .ref q_t_steps, .ref q_t_glows, .ref q_t_lower, .ref q_t_upper, .ref q_t_line, .int t_lined, .ref q_t_text, .int t_length, .int t_at, .int t_order, .ref q_t_told, .ref q_t_why, .ref q_t_more, .int t_whys, .int t_answer])), (q_t_now, .inl (cI, 133, .inl t_now)), (q_t_reach, .inl (cI, 16, .inl o_t_reach))] t) (va_A [(q_t, .inr (8, [.ref q_t_now, .ref q_t_tried, .ref q_t_thought, .ref q_t_kept, .int t_undos, .ref q_t_saved, .int t_isSaved, .ref q_t_finds, .ref q_t_reach, .ref q_t_steps, .ref q_t_glows, .ref q_t_lower, .ref q_t_upper, .ref q_t_line, .int t_lined, .ref q_t_text, .int t_length, .int t_at, .int t_order, .ref q_t_told, .ref q_t_why, .ref q_t_more, .int t_whys, .int t_answer])), (q_t_now, .inl (cI, 133, .inl t_now)), (q_t_reach, .inl (cI, 16, .inl t_reach))] sz)) 0 0 (va_A [(q_t, .inr (8, [.ref q_t_now, .ref q_t_tried, .ref q_t_thought, .ref q_t_kept, .int t_undos, .ref q_t_saved, .int t_isSaved, .ref q_t_finds, .ref q_t_reach, .ref q_t_steps, .ref q_t_glows, .ref q_t_lower, .ref q_t_upper, .ref q_t_line, .int t_lined, .ref q_t_text, .int t_length, .int t_at, .int t_order, .ref q_t_told, .ref q_t_why, .ref q_t_more, .int t_whys, .int t_answer])), (q_t_now, .inl (cI, 133, .inl t_now)), (q_t_reach, .inl (cI, 16, .inl t_reach))] sz) := by
  refine jE_i (cc := cX10_switchesOf) (maxL := 2) (own := RX10) (ret := (some .int)) (lv0 := [(0, .ref q_t), (1, .int v1)]) (by decide) rfl rfl rfl (Nat.le_of_ble_eq_true rfl) rfl ?_
  intro p e s m args below meth c A Q ls hx hb hml hown hts hK hN hX hA hP hD hS hl hRet
  have hF : CallFix p m c cX10_switchesOf 2 s args wsX10_switchesOf RX10 := ⟨hx, hb, hml, hown, hts⟩
  have B18 : ∀ (t_reach : Nat → Int32) (s18_0 : Int32) (H : Heap) (locs : List Loc), va_P D vwCl [(q_t, .inr (8, [.ref q_t_now, .ref q_t_tried, .ref q_t_thought, .ref q_t_kept, .int t_undos, .ref q_t_saved, .int t_isSaved, .ref q_t_finds, .ref q_t_reach, .ref q_t_steps, .ref q_t_glows, .ref q_t_lower, .ref q_t_upper, .ref q_t_line, .int t_lined, .ref q_t_text, .int t_length, .int t_at, .int t_order, .ref q_t_told, .ref q_t_why, .ref q_t_more, .int t_whys, .int t_answer])), (q_t_now, .inl (cI, 133, .inl t_now)), (q_t_reach, .inl (cI, 16, .inl t_reach))] H → va_D A [(q_t, .inr (8, [.ref q_t_now, .ref q_t_tried, .ref q_t_thought, .ref q_t_kept, .int t_undos, .ref q_t_saved, .int t_isSaved, .ref q_t_finds, .ref q_t_reach, .ref q_t_steps, .ref q_t_glows, .ref q_t_lower, .ref q_t_upper, .ref q_t_line, .int t_lined, .ref q_t_text, .int t_length, .int t_at, .int t_order, .ref q_t_told, .ref q_t_why, .ref q_t_more, .int t_whys, .int t_answer])), (q_t_now, .inl (cI, 133, .inl t_now)), (q_t_reach, .inl (cI, 16, .inl t_reach))] → va_S A s.heap H locs → ∀ ls : Array Slot, lv_has ls 2 [] → J_X10_switchesOf_b18  t_now v1 t_reach s18_0 = some (r, o_t_reach) → W p l e rmX10_switchesOf s m args below meth c H locs 0 0 Q (F0 m 18 ls [.int s18_0]) := by
    intro t_reach s18_0 H locs hP hD hS ls hl hJ
    unfold J_X10_switchesOf_b18 at hJ
    have hJ := Option.some.inj hJ
    obtain ⟨e0, e1⟩ : (s18_0) = r ∧ (t_reach) = o_t_reach := ⟨congrArg (fun z => z.1) hJ, congrArg (fun z => z.2) hJ⟩
    exact hRet (by rw [← e1]; exact hP) (by rw [← e1]; exact hD) hS e0 dX10_switchesOf_18
  unfold J_X10_switchesOf at hJ
  refine lv_aload_n hx hb dX10_switchesOf_0 rfl (lv_at hl 0 rfl) ?_
  refine lv_iload_n hx hb dX10_switchesOf_1 rfl (lv_at hl 1 rfl) ?_
  obtain ⟨x2, hc2, hJ⟩ := bnd1_some hJ
  refine jcV_i (C := RX10) (T := TX10) (N := 24) (ci := 8) (q0 := 0) (As := [.int v1]) (rest := []) (isC := [0, 1]) (isR := [2]) (isB := [1, 2, 0]) (wr := [(q_t_reach, .inl (cI, 16, .inl t_reach))]) (ws2 := [(q_t, .inr (8, [.ref q_t_now, .ref q_t_tried, .ref q_t_thought, .ref q_t_kept, .int t_undos, .ref q_t_saved, .int t_isSaved, .ref q_t_finds, .ref q_t_reach, .ref q_t_steps, .ref q_t_glows, .ref q_t_lower, .ref q_t_upper, .ref q_t_line, .int t_lined, .ref q_t_text, .int t_length, .int t_at, .int t_order, .ref q_t_told, .ref q_t_why, .ref q_t_more, .int t_whys, .int t_answer])), (q_t_now, .inl (cI, 133, .inl t_now)), (q_t_reach, .inl (cI, 16, .inl t_reach))]) hF (c_X10_isLantern l D cI cJ cC cL q_t q_t_now q_t_tried q_t_thought q_t_kept q_t_saved q_t_finds q_t_reach q_t_steps q_t_glows q_t_lower q_t_upper q_t_line q_t_text q_t_told q_t_why q_t_more t_undos t_isSaved t_lined t_length t_at t_order t_whys t_answer t_now v1 x2 hc2 s.heap.size) (cwV 1 hts gX10_switchesOf_X10_isLantern rfl rfl rfl (by decide +kernel) ⟨Nat.le_of_ble_eq_true rfl, Nat.le_of_ble_eq_true rfl⟩) rfl hl rfl (Nat.le_of_ble_eq_true rfl) dX10_switchesOf_2 ⟨Nat.zero_le _, Nat.zero_le _⟩ hK hN KX_T trivial hP hD hS hA rfl rfl rfl rfl rfl rfl (by decide) rfl rfl (fun H locs hP hD hS => ?_)
  refine jif_eq (tgt := 16) hx hb dX10_switchesOf_5 (by decide) hJ (fun hJ => ?_) (fun hJ => ?_)
  · refine lv_bipush (v := (-11 : Int32)) hx hb dX10_switchesOf_16 (by decide) ?_
    exact B18  t_reach (-11 : Int32)  H locs  hP hD hS _ (lv_sub hl [] rfl) hJ
  · refine lv_aload_n hx hb dX10_switchesOf_8 rfl (lv_at hl 0 rfl) ?_
    refine lv_iload_n hx hb dX10_switchesOf_9 rfl (lv_at hl 1 rfl) ?_
    obtain ⟨x10, t_reach_10, hc10, hJ⟩ := bnd2_some hJ
    refine jcV_i (C := RX10) (T := TX10) (N := 24) (ci := 8) (q0 := 0) (As := [.int v1]) (rest := []) (isC := [0, 1, 2]) (isR := []) (isB := [0, 1, 2]) (wr := []) (ws2 := [(q_t, .inr (8, [.ref q_t_now, .ref q_t_tried, .ref q_t_thought, .ref q_t_kept, .int t_undos, .ref q_t_saved, .int t_isSaved, .ref q_t_finds, .ref q_t_reach, .ref q_t_steps, .ref q_t_glows, .ref q_t_lower, .ref q_t_upper, .ref q_t_line, .int t_lined, .ref q_t_text, .int t_length, .int t_at, .int t_order, .ref q_t_told, .ref q_t_why, .ref q_t_more, .int t_whys, .int t_answer])), (q_t_now, .inl (cI, 133, .inl t_now)), (q_t_reach, .inl (cI, 16, .inl t_reach_10))]) hF (c_X10_switchSet l D cI cJ cC cL q_t q_t_now q_t_tried q_t_thought q_t_kept q_t_saved q_t_finds q_t_reach q_t_steps q_t_glows q_t_lower q_t_upper q_t_line q_t_text q_t_told q_t_why q_t_more t_undos t_isSaved t_lined t_length t_at t_order t_whys t_answer t_now t_reach v1 x10 t_reach_10 hc10 H.size) (cwV 1 hts gX10_switchesOf_X10_switchSet rfl rfl rfl (by decide +kernel) ⟨Nat.le_of_ble_eq_true rfl, Nat.le_of_ble_eq_true rfl⟩) rfl hl rfl (Nat.le_of_ble_eq_true rfl) dX10_switchesOf_10 ⟨Nat.zero_le _, Nat.zero_le _⟩ hK hN KX_T trivial hP hD hS hA rfl rfl rfl rfl rfl rfl (by decide) rfl rfl (fun H locs hP hD hS => ?_)
    refine lv_goto (tgt := 18) hx hb dX10_switchesOf_13 (by decide) ?_
    exact B18  t_reach_10 x10  H locs  hP hD hS _ (lv_sub hl [] rfl) hJ

def J_X10_append (t_length : Int32) (t_text : Nat → Int32) (v1 : Int32) : Option (Int32 × Int32 × (Nat → Int32)) :=
    bnd1 (J_X10_in v1 (32 : Int32) (126 : Int32)) fun x5 =>
    if x5 = 0 then (
    some ((-12 : Int32), t_length, t_text))
    else (
    if t_length = (60 : Int32) then (
    some ((-13 : Int32), t_length, t_text))
    else (
    nm (t_length + (1 : Int32)) fun x37 =>
    nm ((v1.toUInt32 % 65536).toInt32) fun x42 =>
    chk t_length 60 (
    some (x37, x37, (upd t_text t_length.toNatClampNeg (vp_nar .char x42))))))
abbrev rmX10_append : Room := { frames := 1, cells := 0, slots := 0, locals := 22 }
set_option maxHeartbeats 4000000 in
set_option maxRecDepth 100000 in
theorem c_X10_append (l : Launch) (D : va_G) (cI cJ cC cL : ClassId) (q_t q_t_now q_t_tried q_t_thought q_t_kept q_t_saved q_t_finds q_t_reach q_t_steps q_t_glows q_t_lower q_t_upper q_t_line q_t_text q_t_told q_t_why q_t_more : Nat) (t_undos : Int32) (t_isSaved : Int32) (t_lined : Int32) (t_length : Int32) (t_at : Int32) (t_order : Int32) (t_whys : Int32) (t_answer : Int32) (t_text : Nat → Int32) (v1 : Int32) (r : Int32) (o_t_length : Int32) (o_t_text : Nat → Int32) (hJ : J_X10_append t_length t_text v1 = some (r, o_t_length, o_t_text)) (sz : Nat) : Met l yX10_append wsX10_append rmX10_append (va_Pc [.ref q_t, .int v1] (jpre XT D (tyL cI cJ cC cL) [(q_t, .inr (8, [.ref q_t_now, .ref q_t_tried, .ref q_t_thought, .ref q_t_kept, .int t_undos, .ref q_t_saved, .int t_isSaved, .ref q_t_finds, .ref q_t_reach, .ref q_t_steps, .ref q_t_glows, .ref q_t_lower, .ref q_t_upper, .ref q_t_line, .int t_lined, .ref q_t_text, .int t_length, .int t_at, .int t_order, .ref q_t_told, .ref q_t_why, .ref q_t_more, .int t_whys, .int t_answer])), (q_t_text, .inl (cC, 60, .inl t_text))] sz)) (va_Qi (fun r' (_ : Unit) => r' = r) (fun _ t => jpost D (tyL cI cJ cC cL) (va_A [(q_t, .inr (8, [.ref q_t_now, .ref q_t_tried, .ref q_t_thought, .ref q_t_kept, .int t_undos, .ref q_t_saved, .int t_isSaved, .ref q_t_finds, .ref q_t_reach, .ref q_t_steps, .ref q_t_glows, .ref q_t_lower, .ref q_t_upper, .ref q_t_line, .int t_lined, .ref q_t_text, .int t_length, .int t_at, .int t_order, .ref q_t_told, .ref q_t_why, .ref q_t_more, .int t_whys, .int t_answer])), (q_t_text, .inl (cC, 60, .inl t_text))] sz) [(q_t, .inr (8, [.ref q_t_now, .ref q_t_tried, .ref q_t_thought, .ref q_t_kept, .int t_undos, .ref q_t_saved, .int t_isSaved, .ref q_t_finds, .ref q_t_reach, .ref q_t_steps, .ref q_t_glows, .ref q_t_lower, .ref q_t_upper, .ref q_t_line, .int t_lined, .ref q_t_text, .int o_t_length, .int t_at, .int t_order, .ref q_t_told, .ref q_t_why, .ref q_t_more, .int t_whys, .int t_answer])), (q_t_text, .inl (cC, 60, .inl o_t_text))] t) (va_A [(q_t, .inr (8, [.ref q_t_now, .ref q_t_tried, .ref q_t_thought, .ref q_t_kept, .int t_undos, .ref q_t_saved, .int t_isSaved, .ref q_t_finds, .ref q_t_reach, .ref q_t_steps, .ref q_t_glows, .ref q_t_lower, .ref q_t_upper, .ref q_t_line, .int t_lined, .ref q_t_text, .int t_length, .int t_at, .int t_order, .ref q_t_told, .ref q_t_why, .ref q_t_more, .int t_whys, .int t_answer])), (q_t_text, .inl (cC, 60, .inl t_text))] sz)) 0 0 (va_A [(q_t, .inr (8, [.ref q_t_now, .ref q_t_tried, .ref q_t_thought, .ref q_t_kept, .int t_undos, .ref q_t_saved, .int t_isSaved, .ref q_t_finds, .ref q_t_reach, .ref q_t_steps, .ref q_t_glows, .ref q_t_lower, .ref q_t_upper, .ref q_t_line, .int t_lined, .ref q_t_text, .int t_length, .int t_at, .int t_order, .ref q_t_told, .ref q_t_why, .ref q_t_more, .int t_whys, .int t_answer])), (q_t_text, .inl (cC, 60, .inl t_text))] sz) := by
  refine jE_i (cc := cX10_append) (maxL := 2) (own := RX10) (ret := (some .int)) (lv0 := [(0, .ref q_t), (1, .int v1)]) (by decide) rfl rfl rfl (Nat.le_of_ble_eq_true rfl) rfl ?_
  intro p e s m args below meth c A Q ls hx hb hml hown hts hK hN hX hA hP hD hS hl hRet
  have hF : CallFix p m c cX10_append 2 s args wsX10_append RX10 := ⟨hx, hb, hml, hown, hts⟩
  have fl_46 := hts (.fieldLink RX10 46 "LanternLogicModel" "text" "[C") (by decide +kernel)
  have fl_217 := hts (.fieldLink RX10 217 "LanternLogicModel" "length" "I") (by decide +kernel)
  have hin_X10 : ∀ w ∈ u_ws RX10 TX10 24, w ∈ wsX10_append := by decide +kernel
  unfold J_X10_append at hJ
  refine lv_iload_n hx hb dX10_append_0 rfl (lv_at hl 1 rfl) ?_
  refine lv_bipush (v := (32 : Int32)) hx hb dX10_append_1 (by decide) ?_
  refine lv_bipush (v := (126 : Int32)) hx hb dX10_append_3 (by decide) ?_
  obtain ⟨x5, hc5, hJ⟩ := bnd1_some hJ
  refine jcS_i (As := [.int v1, .int (32 : Int32), .int (126 : Int32)]) (rest := []) (isC := []) (isR := [0, 1]) (isB := [0, 1]) (wr := [(q_t, .inr (8, [.ref q_t_now, .ref q_t_tried, .ref q_t_thought, .ref q_t_kept, .int t_undos, .ref q_t_saved, .int t_isSaved, .ref q_t_finds, .ref q_t_reach, .ref q_t_steps, .ref q_t_glows, .ref q_t_lower, .ref q_t_upper, .ref q_t_line, .int t_lined, .ref q_t_text, .int t_length, .int t_at, .int t_order, .ref q_t_told, .ref q_t_why, .ref q_t_more, .int t_whys, .int t_answer])), (q_t_text, .inl (cC, 60, .inl t_text))]) (ws2 := [(q_t, .inr (8, [.ref q_t_now, .ref q_t_tried, .ref q_t_thought, .ref q_t_kept, .int t_undos, .ref q_t_saved, .int t_isSaved, .ref q_t_finds, .ref q_t_reach, .ref q_t_steps, .ref q_t_glows, .ref q_t_lower, .ref q_t_upper, .ref q_t_line, .int t_lined, .ref q_t_text, .int t_length, .int t_at, .int t_order, .ref q_t_told, .ref q_t_why, .ref q_t_more, .int t_whys, .int t_answer])), (q_t_text, .inl (cC, 60, .inl t_text))]) hF (c_X10_in l D cI cJ cC cL v1 (32 : Int32) (126 : Int32) x5 hc5 s.heap.size) (va_cwS 3 hts gX10_append_X10_in rfl rfl rfl (by decide +kernel) ⟨Nat.le_of_ble_eq_true rfl, Nat.le_of_ble_eq_true rfl⟩) rfl hl rfl (Nat.le_of_ble_eq_true rfl) dX10_append_5 ⟨Nat.zero_le _, Nat.zero_le _⟩ hK hN KX_T trivial hP hD hS hA rfl rfl rfl rfl (by decide) rfl rfl (fun H locs hP hD hS => ?_)
  refine jif_ne (tgt := 14) hx hb dX10_append_8 (by decide) hJ (fun hJ => ?_) (fun hJ => ?_)
  · refine lv_aload_n hx hb dX10_append_14 rfl (lv_at hl 0 rfl) ?_
    refine va_get (ci := 8) (v := .int t_length) (C := RX10) (T := TX10) (N := 24) hx hb hts hin_X10 hown hK hP 0 rfl rfl 16 (by decide) fl_217 (fun _ h9 => h9) rfl dX10_append_15 ?_
    refine lv_bipush (v := (60 : Int32)) hx hb dX10_append_18 (by decide) ?_
    refine jif_icmp_ne (tgt := 26) hx hb dX10_append_20 (by decide) hJ (fun hJ => ?_) (fun hJ => ?_)
    · refine lv_aload_n hx hb dX10_append_26 rfl (lv_at hl 0 rfl) ?_
      refine va_get (ci := 8) (v := .ref q_t_text) (C := RX10) (T := TX10) (N := 24) hx hb hts hin_X10 hown hK hP 0 rfl rfl 15 (by decide) fl_46 (fun _ h9 => h9) rfl dX10_append_27 ?_
      refine lv_aload_n hx hb dX10_append_30 rfl (lv_at hl 0 rfl) ?_
      refine lv_dup hx hb dX10_append_31 rfl ?_
      refine va_get (ci := 8) (v := .int t_length) (C := RX10) (T := TX10) (N := 24) hx hb hts hin_X10 hown hK hP 0 rfl rfl 16 (by decide) fl_217 (fun _ h9 => h9) rfl dX10_append_32 ?_
      refine lv_dup_x1 hx hb dX10_append_35 rfl rfl ?_
      refine lv_iconst (v := (1 : Int32)) hx hb dX10_append_36 (by decide) ?_
      refine lv_iadd hx hb dX10_append_37 ?_
      refine jt_i hJ (fun x37 hJ => ?_)
      refine va_put (ci := 8) (v := .int x37) (ty := .int) (C := RX10) (T := TX10) (N := 24) hx hb hts hin_X10 tyX10 tyX10_ok nmX10 hown hK hP hD hS 0 rfl rfl 16 (by decide) fl_217 (fun _ h9 => h9) rfl (by decide +kernel) rfl rfl (Nat.le_of_ble_eq_true rfl) dX10_append_38 (fun H locs hP hD hS => ?_)
      have hP : va_P D vwCl [(q_t, .inr (8, [.ref q_t_now, .ref q_t_tried, .ref q_t_thought, .ref q_t_kept, .int t_undos, .ref q_t_saved, .int t_isSaved, .ref q_t_finds, .ref q_t_reach, .ref q_t_steps, .ref q_t_glows, .ref q_t_lower, .ref q_t_upper, .ref q_t_line, .int t_lined, .ref q_t_text, .int x37, .int t_at, .int t_order, .ref q_t_told, .ref q_t_why, .ref q_t_more, .int t_whys, .int t_answer])), (q_t_text, .inl (cC, 60, .inl t_text))] H := hP
      have hD : va_D A [(q_t, .inr (8, [.ref q_t_now, .ref q_t_tried, .ref q_t_thought, .ref q_t_kept, .int t_undos, .ref q_t_saved, .int t_isSaved, .ref q_t_finds, .ref q_t_reach, .ref q_t_steps, .ref q_t_glows, .ref q_t_lower, .ref q_t_upper, .ref q_t_line, .int t_lined, .ref q_t_text, .int x37, .int t_at, .int t_order, .ref q_t_told, .ref q_t_why, .ref q_t_more, .int t_whys, .int t_answer])), (q_t_text, .inl (cC, 60, .inl t_text))] := hD
      refine lv_iload_n hx hb dX10_append_41 rfl (lv_at hl 1 rfl) ?_
      refine lv_i2c (v := (v1.toUInt32 % 65536).toInt32) hx hb dX10_append_42 rfl ?_
      refine jt_i hJ (fun x42 hJ => ?_)
      obtain ⟨hin, hJ⟩ := chk_in hJ
      refine va_cast hx hb hK hP hD hS 1 2 rfl rfl hin dX10_append_43 (fun H locs hP hD hS => ?_)
      have hP : va_P D vwCl [(q_t, .inr (8, [.ref q_t_now, .ref q_t_tried, .ref q_t_thought, .ref q_t_kept, .int t_undos, .ref q_t_saved, .int t_isSaved, .ref q_t_finds, .ref q_t_reach, .ref q_t_steps, .ref q_t_glows, .ref q_t_lower, .ref q_t_upper, .ref q_t_line, .int t_lined, .ref q_t_text, .int x37, .int t_at, .int t_order, .ref q_t_told, .ref q_t_why, .ref q_t_more, .int t_whys, .int t_answer])), (q_t_text, .inl (cC, 60, .inl (upd t_text t_length.toNatClampNeg (vp_nar .char x42))))] H := hP
      have hD : va_D A [(q_t, .inr (8, [.ref q_t_now, .ref q_t_tried, .ref q_t_thought, .ref q_t_kept, .int t_undos, .ref q_t_saved, .int t_isSaved, .ref q_t_finds, .ref q_t_reach, .ref q_t_steps, .ref q_t_glows, .ref q_t_lower, .ref q_t_upper, .ref q_t_line, .int t_lined, .ref q_t_text, .int x37, .int t_at, .int t_order, .ref q_t_told, .ref q_t_why, .ref q_t_more, .int t_whys, .int t_answer])), (q_t_text, .inl (cC, 60, .inl (upd t_text t_length.toNatClampNeg (vp_nar .char x42))))] := hD
      refine lv_aload_n hx hb dX10_append_44 rfl (lv_at hl 0 rfl) ?_
      refine va_get (ci := 8) (v := .int x37) (C := RX10) (T := TX10) (N := 24) hx hb hts hin_X10 hown hK hP 0 rfl rfl 16 (by decide) fl_217 (fun _ h9 => h9) rfl dX10_append_45 ?_
      have hJ := Option.some.inj hJ
      obtain ⟨e0, e1, e2⟩ : (x37) = r ∧ (x37) = o_t_length ∧ ((upd t_text t_length.toNatClampNeg (vp_nar .char x42))) = o_t_text := ⟨congrArg (fun z => z.1) hJ, congrArg (fun z => z.2.1) hJ, congrArg (fun z => z.2.2) hJ⟩
      exact hRet (by rw [← e1, ← e2]; exact hP) (by rw [← e1, ← e2]; exact hD) hS e0 dX10_append_48
    · refine lv_bipush (v := (-13 : Int32)) hx hb dX10_append_23 (by decide) ?_
      have hJ := Option.some.inj hJ
      obtain ⟨e0, e1, e2⟩ : ((-13 : Int32)) = r ∧ (t_length) = o_t_length ∧ (t_text) = o_t_text := ⟨congrArg (fun z => z.1) hJ, congrArg (fun z => z.2.1) hJ, congrArg (fun z => z.2.2) hJ⟩
      exact hRet (by rw [← e1, ← e2]; exact hP) (by rw [← e1, ← e2]; exact hD) hS e0 dX10_append_25
  · refine lv_bipush (v := (-12 : Int32)) hx hb dX10_append_11 (by decide) ?_
    have hJ := Option.some.inj hJ
    obtain ⟨e0, e1, e2⟩ : ((-12 : Int32)) = r ∧ (t_length) = o_t_length ∧ (t_text) = o_t_text := ⟨congrArg (fun z => z.1) hJ, congrArg (fun z => z.2.1) hJ, congrArg (fun z => z.2.2) hJ⟩
    exact hRet (by rw [← e1, ← e2]; exact hP) (by rw [← e1, ← e2]; exact hD) hS e0 dX10_append_13

def J_X10_number_b94 (t_length : Int32) (t_text : Nat → Int32) (v1 : Int32) (v2 : Int32) (t_at : Int32) (t_told : Nat → Int32) (s94_0 : Int32) : Option (Int32 × Int32 × (Nat → Int32)) :=
    chz s94_0 (some (s94_0, t_at, t_told))
def J_X10_number_b85 (t_length : Int32) (t_text : Nat → Int32) (v1 : Int32) (v2 : Int32) (t_at : Int32) (t_told : Nat → Int32) (v3 : Int32) : Option (Int32 × Int32 × (Nat → Int32)) :=
    if v3 ≤ 0 then (
    J_X10_number_b94 t_length t_text v1 v2 t_at t_told (0 : Int32))
    else (
    J_X10_number_b94 t_length t_text v1 v2 t_at t_told (1 : Int32))
def J_X10_number_L9 (t_length : Int32) (t_text : Nat → Int32) (v1 : Int32) (v2 : Int32) : Nat → Int32 → (Nat → Int32) → Int32 → Option (Int32 × Int32 × (Nat → Int32))
  | 0, _, _, _ => none
  | nf + 1, t_at, t_told, v3 =>
    if v2 ≤ v3 then (
    J_X10_number_b85 t_length t_text v1 v2 t_at t_told v3)
    else (
    if t_length ≤ t_at then (
    J_X10_number_b85 t_length t_text v1 v2 t_at t_told v3)
    else (
    chk t_at 60 (
    nm (t_text t_at.toNatClampNeg) fun x33 =>
    bnd1 (J_X10_in x33 (48 : Int32) (57 : Int32)) fun x38 =>
    if x38 = 0 then (
    J_X10_number_b85 t_length t_text v1 v2 t_at t_told v3)
    else (
    chk v1 3 (
    nm (t_told v1.toNatClampNeg) fun x56 =>
    nm ((10 : Int32) * x56) fun x57 =>
    nm (t_at + (1 : Int32)) fun x69 =>
    chk t_at 60 (
    nm (t_text t_at.toNatClampNeg) fun x73 =>
    nm (x57 + x73) fun x74 =>
    nm (x74 - (48 : Int32)) fun x77 =>
    chk v1 3 (
    nm (v3 + Int32.ofInt 1) fun x79 =>
    J_X10_number_L9 t_length t_text v1 v2 nf x69 (upd t_told v1.toNatClampNeg x77) x79)))))))
def J_X10_number (t_length : Int32) (t_at : Int32) (t_text : Nat → Int32) (t_told : Nat → Int32) (v1 : Int32) (v2 : Int32) : Option (Int32 × Int32 × (Nat → Int32)) :=
    chk v1 3 (
    J_X10_number_L9 t_length t_text v1 v2 FU t_at (upd t_told v1.toNatClampNeg (0 : Int32)) (0 : Int32))
abbrev rmX10_number : Room := { frames := 1, cells := 0, slots := 0, locals := 22 }
set_option maxHeartbeats 4000000 in
set_option maxRecDepth 100000 in
theorem c_X10_number (l : Launch) (D : va_G) (cI cJ cC cL : ClassId) (q_t q_t_now q_t_tried q_t_thought q_t_kept q_t_saved q_t_finds q_t_reach q_t_steps q_t_glows q_t_lower q_t_upper q_t_line q_t_text q_t_told q_t_why q_t_more : Nat) (t_undos : Int32) (t_isSaved : Int32) (t_lined : Int32) (t_length : Int32) (t_at : Int32) (t_order : Int32) (t_whys : Int32) (t_answer : Int32) (t_text : Nat → Int32) (t_told : Nat → Int32) (v1 : Int32) (v2 : Int32) (r : Int32) (o_t_at : Int32) (o_t_told : Nat → Int32) (hJ : J_X10_number t_length t_at t_text t_told v1 v2 = some (r, o_t_at, o_t_told)) (sz : Nat) : Met l yX10_number wsX10_number rmX10_number (va_Pc [.ref q_t, .int v1, .int v2] (jpre XT D (tyL cI cJ cC cL) [(q_t, .inr (8, [.ref q_t_now, .ref q_t_tried, .ref q_t_thought, .ref q_t_kept, .int t_undos, .ref q_t_saved, .int t_isSaved, .ref q_t_finds, .ref q_t_reach, .ref q_t_steps, .ref q_t_glows, .ref q_t_lower, .ref q_t_upper, .ref q_t_line, .int t_lined, .ref q_t_text, .int t_length, .int t_at, .int t_order, .ref q_t_told, .ref q_t_why, .ref q_t_more, .int t_whys, .int t_answer])), (q_t_text, .inl (cC, 60, .inl t_text)), (q_t_told, .inl (cI, 3, .inl t_told))] sz)) (va_Qi (fun r' (_ : Unit) => r' = r) (fun _ t => jpost D (tyL cI cJ cC cL) (va_A [(q_t, .inr (8, [.ref q_t_now, .ref q_t_tried, .ref q_t_thought, .ref q_t_kept, .int t_undos, .ref q_t_saved, .int t_isSaved, .ref q_t_finds, .ref q_t_reach, .ref q_t_steps, .ref q_t_glows, .ref q_t_lower, .ref q_t_upper, .ref q_t_line, .int t_lined, .ref q_t_text, .int t_length, .int t_at, .int t_order, .ref q_t_told, .ref q_t_why, .ref q_t_more, .int t_whys, .int t_answer])), (q_t_text, .inl (cC, 60, .inl t_text)), (q_t_told, .inl (cI, 3, .inl t_told))] sz) [(q_t, .inr (8, [.ref q_t_now, .ref q_t_tried, .ref q_t_thought, .ref q_t_kept, .int t_undos, .ref q_t_saved, .int t_isSaved, .ref q_t_finds, .ref q_t_reach, .ref q_t_steps, .ref q_t_glows, .ref q_t_lower, .ref q_t_upper, .ref q_t_line, .int t_lined, .ref q_t_text, .int t_length, .int o_t_at, .int t_order, .ref q_t_told, .ref q_t_why, .ref q_t_more, .int t_whys, .int t_answer])), (q_t_text, .inl (cC, 60, .inl t_text)), (q_t_told, .inl (cI, 3, .inl o_t_told))] t) (va_A [(q_t, .inr (8, [.ref q_t_now, .ref q_t_tried, .ref q_t_thought, .ref q_t_kept, .int t_undos, .ref q_t_saved, .int t_isSaved, .ref q_t_finds, .ref q_t_reach, .ref q_t_steps, .ref q_t_glows, .ref q_t_lower, .ref q_t_upper, .ref q_t_line, .int t_lined, .ref q_t_text, .int t_length, .int t_at, .int t_order, .ref q_t_told, .ref q_t_why, .ref q_t_more, .int t_whys, .int t_answer])), (q_t_text, .inl (cC, 60, .inl t_text)), (q_t_told, .inl (cI, 3, .inl t_told))] sz)) 0 0 (va_A [(q_t, .inr (8, [.ref q_t_now, .ref q_t_tried, .ref q_t_thought, .ref q_t_kept, .int t_undos, .ref q_t_saved, .int t_isSaved, .ref q_t_finds, .ref q_t_reach, .ref q_t_steps, .ref q_t_glows, .ref q_t_lower, .ref q_t_upper, .ref q_t_line, .int t_lined, .ref q_t_text, .int t_length, .int t_at, .int t_order, .ref q_t_told, .ref q_t_why, .ref q_t_more, .int t_whys, .int t_answer])), (q_t_text, .inl (cC, 60, .inl t_text)), (q_t_told, .inl (cI, 3, .inl t_told))] sz) := by
  refine jE_z (cc := cX10_number) (maxL := 4) (own := RX10) (ret := (some .boolean)) (lv0 := [(0, .ref q_t), (1, .int v1), (2, .int v2)]) (by decide) rfl rfl rfl (Nat.le_of_ble_eq_true rfl) rfl ?_
  intro p e s m args below meth c A Q ls hx hb hml hown hts hK hN hX hA hP hD hS hl hRet
  have hF : CallFix p m c cX10_number 4 s args wsX10_number RX10 := ⟨hx, hb, hml, hown, hts⟩
  have fl_46 := hts (.fieldLink RX10 46 "LanternLogicModel" "text" "[C") (by decide +kernel)
  have fl_50 := hts (.fieldLink RX10 50 "LanternLogicModel" "told" "[I") (by decide +kernel)
  have fl_217 := hts (.fieldLink RX10 217 "LanternLogicModel" "length" "I") (by decide +kernel)
  have fl_224 := hts (.fieldLink RX10 224 "LanternLogicModel" "at" "I") (by decide +kernel)
  have hin_X10 : ∀ w ∈ u_ws RX10 TX10 24, w ∈ wsX10_number := by decide +kernel
  have B94 : ∀ (t_at : Int32) (t_told : Nat → Int32) (s94_0 : Int32) (H : Heap) (locs : List Loc), va_P D vwCl [(q_t, .inr (8, [.ref q_t_now, .ref q_t_tried, .ref q_t_thought, .ref q_t_kept, .int t_undos, .ref q_t_saved, .int t_isSaved, .ref q_t_finds, .ref q_t_reach, .ref q_t_steps, .ref q_t_glows, .ref q_t_lower, .ref q_t_upper, .ref q_t_line, .int t_lined, .ref q_t_text, .int t_length, .int t_at, .int t_order, .ref q_t_told, .ref q_t_why, .ref q_t_more, .int t_whys, .int t_answer])), (q_t_text, .inl (cC, 60, .inl t_text)), (q_t_told, .inl (cI, 3, .inl t_told))] H → va_D A [(q_t, .inr (8, [.ref q_t_now, .ref q_t_tried, .ref q_t_thought, .ref q_t_kept, .int t_undos, .ref q_t_saved, .int t_isSaved, .ref q_t_finds, .ref q_t_reach, .ref q_t_steps, .ref q_t_glows, .ref q_t_lower, .ref q_t_upper, .ref q_t_line, .int t_lined, .ref q_t_text, .int t_length, .int t_at, .int t_order, .ref q_t_told, .ref q_t_why, .ref q_t_more, .int t_whys, .int t_answer])), (q_t_text, .inl (cC, 60, .inl t_text)), (q_t_told, .inl (cI, 3, .inl t_told))] → va_S A s.heap H locs → ∀ ls : Array Slot, lv_has ls 4 [] → J_X10_number_b94  t_length t_text v1 v2 t_at t_told s94_0 = some (r, o_t_at, o_t_told) → W p l e rmX10_number s m args below meth c H locs 0 0 Q (F0 m 94 ls [.int s94_0]) := by
    intro t_at t_told s94_0 H locs hP hD hS ls hl hJ
    unfold J_X10_number_b94 at hJ
    obtain ⟨h01, hJ⟩ := chz_ok hJ
    have hJ := Option.some.inj hJ
    obtain ⟨e0, e1, e2⟩ : (s94_0) = r ∧ (t_at) = o_t_at ∧ (t_told) = o_t_told := ⟨congrArg (fun z => z.1) hJ, congrArg (fun z => z.2.1) hJ, congrArg (fun z => z.2.2) hJ⟩
    exact hRet (by rw [← e1, ← e2]; exact hP) (by rw [← e1, ← e2]; exact hD) hS h01 e0 dX10_number_94
  have B85 : ∀ (t_at : Int32) (t_told : Nat → Int32) (v3 : Int32) (H : Heap) (locs : List Loc), va_P D vwCl [(q_t, .inr (8, [.ref q_t_now, .ref q_t_tried, .ref q_t_thought, .ref q_t_kept, .int t_undos, .ref q_t_saved, .int t_isSaved, .ref q_t_finds, .ref q_t_reach, .ref q_t_steps, .ref q_t_glows, .ref q_t_lower, .ref q_t_upper, .ref q_t_line, .int t_lined, .ref q_t_text, .int t_length, .int t_at, .int t_order, .ref q_t_told, .ref q_t_why, .ref q_t_more, .int t_whys, .int t_answer])), (q_t_text, .inl (cC, 60, .inl t_text)), (q_t_told, .inl (cI, 3, .inl t_told))] H → va_D A [(q_t, .inr (8, [.ref q_t_now, .ref q_t_tried, .ref q_t_thought, .ref q_t_kept, .int t_undos, .ref q_t_saved, .int t_isSaved, .ref q_t_finds, .ref q_t_reach, .ref q_t_steps, .ref q_t_glows, .ref q_t_lower, .ref q_t_upper, .ref q_t_line, .int t_lined, .ref q_t_text, .int t_length, .int t_at, .int t_order, .ref q_t_told, .ref q_t_why, .ref q_t_more, .int t_whys, .int t_answer])), (q_t_text, .inl (cC, 60, .inl t_text)), (q_t_told, .inl (cI, 3, .inl t_told))] → va_S A s.heap H locs → ∀ ls : Array Slot, lv_has ls 4 [(3, .int v3)] → J_X10_number_b85  t_length t_text v1 v2 t_at t_told v3 = some (r, o_t_at, o_t_told) → W p l e rmX10_number s m args below meth c H locs 0 0 Q (F0 m 85 ls []) := by
    intro t_at t_told v3 H locs hP hD hS ls hl hJ
    unfold J_X10_number_b85 at hJ
    refine lv_iload_n hx hb dX10_number_85 rfl (lv_at hl 0 rfl) ?_
    refine jif_le (tgt := 93) hx hb dX10_number_86 (by decide) hJ (fun hJ => ?_) (fun hJ => ?_)
    · refine lv_iconst (v := (0 : Int32)) hx hb dX10_number_93 (by decide) ?_
      exact B94  t_at t_told (0 : Int32)  H locs  hP hD hS _ (lv_sub hl [] rfl) hJ
    · refine lv_iconst (v := (1 : Int32)) hx hb dX10_number_89 (by decide) ?_
      refine lv_goto (tgt := 94) hx hb dX10_number_90 (by decide) ?_
      exact B94  t_at t_told (1 : Int32)  H locs  hP hD hS _ (lv_sub hl [] rfl) hJ
  have L9 : ∀ (nf : Nat), ∀ (t_at : Int32) (t_told : Nat → Int32) (v3 : Int32) (H : Heap) (locs : List Loc), va_P D vwCl [(q_t, .inr (8, [.ref q_t_now, .ref q_t_tried, .ref q_t_thought, .ref q_t_kept, .int t_undos, .ref q_t_saved, .int t_isSaved, .ref q_t_finds, .ref q_t_reach, .ref q_t_steps, .ref q_t_glows, .ref q_t_lower, .ref q_t_upper, .ref q_t_line, .int t_lined, .ref q_t_text, .int t_length, .int t_at, .int t_order, .ref q_t_told, .ref q_t_why, .ref q_t_more, .int t_whys, .int t_answer])), (q_t_text, .inl (cC, 60, .inl t_text)), (q_t_told, .inl (cI, 3, .inl t_told))] H → va_D A [(q_t, .inr (8, [.ref q_t_now, .ref q_t_tried, .ref q_t_thought, .ref q_t_kept, .int t_undos, .ref q_t_saved, .int t_isSaved, .ref q_t_finds, .ref q_t_reach, .ref q_t_steps, .ref q_t_glows, .ref q_t_lower, .ref q_t_upper, .ref q_t_line, .int t_lined, .ref q_t_text, .int t_length, .int t_at, .int t_order, .ref q_t_told, .ref q_t_why, .ref q_t_more, .int t_whys, .int t_answer])), (q_t_text, .inl (cC, 60, .inl t_text)), (q_t_told, .inl (cI, 3, .inl t_told))] → va_S A s.heap H locs → ∀ ls : Array Slot, lv_has ls 4 [(0, .ref q_t), (1, .int v1), (2, .int v2), (3, .int v3)] → J_X10_number_L9  t_length t_text v1 v2 nf t_at t_told v3 = some (r, o_t_at, o_t_told) → W p l e rmX10_number s m args below meth c H locs 0 0 Q (F0 m 9 ls []) := by
    intro nf
    induction nf with
    | zero =>
      intro t_at t_told v3 H locs hP hD hS ls hl hJ
      rw [J_X10_number_L9] at hJ
      cases hJ
    | succ nf ih =>
      intro t_at t_told v3 H locs hP hD hS ls hl hJ
      rw [J_X10_number_L9] at hJ
      refine lv_iload_n hx hb dX10_number_9 rfl (lv_at hl 3 rfl) ?_
      refine lv_iload_n hx hb dX10_number_10 rfl (lv_at hl 2 rfl) ?_
      refine jif_icmp_ge (tgt := 85) hx hb dX10_number_11 (by decide) hJ (fun hJ => ?_) (fun hJ => ?_)
      · exact B85  t_at t_told v3  H locs  hP hD hS _ (lv_sub hl [3] rfl) hJ
      · refine lv_aload_n hx hb dX10_number_14 rfl (lv_at hl 0 rfl) ?_
        refine va_get (ci := 8) (v := .int t_at) (C := RX10) (T := TX10) (N := 24) hx hb hts hin_X10 hown hK hP 0 rfl rfl 17 (by decide) fl_224 (fun _ h9 => h9) rfl dX10_number_15 ?_
        refine lv_aload_n hx hb dX10_number_18 rfl (lv_at hl 0 rfl) ?_
        refine va_get (ci := 8) (v := .int t_length) (C := RX10) (T := TX10) (N := 24) hx hb hts hin_X10 hown hK hP 0 rfl rfl 16 (by decide) fl_217 (fun _ h9 => h9) rfl dX10_number_19 ?_
        refine jif_icmp_ge (tgt := 85) hx hb dX10_number_22 (by decide) hJ (fun hJ => ?_) (fun hJ => ?_)
        · exact B85  t_at t_told v3  H locs  hP hD hS _ (lv_sub hl [3] rfl) hJ
        · refine lv_aload_n hx hb dX10_number_25 rfl (lv_at hl 0 rfl) ?_
          refine va_get (ci := 8) (v := .ref q_t_text) (C := RX10) (T := TX10) (N := 24) hx hb hts hin_X10 hown hK hP 0 rfl rfl 15 (by decide) fl_46 (fun _ h9 => h9) rfl dX10_number_26 ?_
          refine lv_aload_n hx hb dX10_number_29 rfl (lv_at hl 0 rfl) ?_
          refine va_get (ci := 8) (v := .int t_at) (C := RX10) (T := TX10) (N := 24) hx hb hts hin_X10 hown hK hP 0 rfl rfl 17 (by decide) fl_224 (fun _ h9 => h9) rfl dX10_number_30 ?_
          obtain ⟨hin, hJ⟩ := chk_in hJ
          refine va_cald hx hb hK hP 1 2 rfl rfl hin dX10_number_33 ?_
          refine jt_i hJ (fun x33 hJ => ?_)
          refine lv_bipush (v := (48 : Int32)) hx hb dX10_number_34 (by decide) ?_
          refine lv_bipush (v := (57 : Int32)) hx hb dX10_number_36 (by decide) ?_
          obtain ⟨x38, hc38, hJ⟩ := bnd1_some hJ
          refine jcS_i (As := [.int x33, .int (48 : Int32), .int (57 : Int32)]) (rest := []) (isC := []) (isR := [0, 1, 2]) (isB := [0, 1, 2]) (wr := [(q_t, .inr (8, [.ref q_t_now, .ref q_t_tried, .ref q_t_thought, .ref q_t_kept, .int t_undos, .ref q_t_saved, .int t_isSaved, .ref q_t_finds, .ref q_t_reach, .ref q_t_steps, .ref q_t_glows, .ref q_t_lower, .ref q_t_upper, .ref q_t_line, .int t_lined, .ref q_t_text, .int t_length, .int t_at, .int t_order, .ref q_t_told, .ref q_t_why, .ref q_t_more, .int t_whys, .int t_answer])), (q_t_text, .inl (cC, 60, .inl t_text)), (q_t_told, .inl (cI, 3, .inl t_told))]) (ws2 := [(q_t, .inr (8, [.ref q_t_now, .ref q_t_tried, .ref q_t_thought, .ref q_t_kept, .int t_undos, .ref q_t_saved, .int t_isSaved, .ref q_t_finds, .ref q_t_reach, .ref q_t_steps, .ref q_t_glows, .ref q_t_lower, .ref q_t_upper, .ref q_t_line, .int t_lined, .ref q_t_text, .int t_length, .int t_at, .int t_order, .ref q_t_told, .ref q_t_why, .ref q_t_more, .int t_whys, .int t_answer])), (q_t_text, .inl (cC, 60, .inl t_text)), (q_t_told, .inl (cI, 3, .inl t_told))]) hF (c_X10_in l D cI cJ cC cL x33 (48 : Int32) (57 : Int32) x38 hc38 H.size) (va_cwS 3 hts gX10_number_X10_in rfl rfl rfl (by decide +kernel) ⟨Nat.le_of_ble_eq_true rfl, Nat.le_of_ble_eq_true rfl⟩) rfl hl rfl (Nat.le_of_ble_eq_true rfl) dX10_number_38 ⟨Nat.zero_le _, Nat.zero_le _⟩ hK hN KX_T trivial hP hD hS hA rfl rfl rfl rfl (by decide) rfl rfl (fun H locs hP hD hS => ?_)
          refine jif_eq (tgt := 85) hx hb dX10_number_41 (by decide) hJ (fun hJ => ?_) (fun hJ => ?_)
          · exact B85  t_at t_told v3  H locs  hP hD hS _ (lv_sub hl [3] rfl) hJ
          · refine lv_aload_n hx hb dX10_number_44 rfl (lv_at hl 0 rfl) ?_
            refine va_get (ci := 8) (v := .ref q_t_told) (C := RX10) (T := TX10) (N := 24) hx hb hts hin_X10 hown hK hP 0 rfl rfl 19 (by decide) fl_50 (fun _ h9 => h9) rfl dX10_number_45 ?_
            refine lv_iload_n hx hb dX10_number_48 rfl (lv_at hl 1 rfl) ?_
            refine lv_bipush (v := (10 : Int32)) hx hb dX10_number_49 (by decide) ?_
            refine lv_aload_n hx hb dX10_number_51 rfl (lv_at hl 0 rfl) ?_
            refine va_get (ci := 8) (v := .ref q_t_told) (C := RX10) (T := TX10) (N := 24) hx hb hts hin_X10 hown hK hP 0 rfl rfl 19 (by decide) fl_50 (fun _ h9 => h9) rfl dX10_number_52 ?_
            refine lv_iload_n hx hb dX10_number_55 rfl (lv_at hl 1 rfl) ?_
            obtain ⟨hin, hJ⟩ := chk_in hJ
            refine va_iald hx hb hK hP 2 0 rfl rfl hin dX10_number_56 ?_
            refine jt_i hJ (fun x56 hJ => ?_)
            refine lv_imul hx hb dX10_number_57 ?_
            refine jt_i hJ (fun x57 hJ => ?_)
            refine lv_aload_n hx hb dX10_number_58 rfl (lv_at hl 0 rfl) ?_
            refine va_get (ci := 8) (v := .ref q_t_text) (C := RX10) (T := TX10) (N := 24) hx hb hts hin_X10 hown hK hP 0 rfl rfl 15 (by decide) fl_46 (fun _ h9 => h9) rfl dX10_number_59 ?_
            refine lv_aload_n hx hb dX10_number_62 rfl (lv_at hl 0 rfl) ?_
            refine lv_dup hx hb dX10_number_63 rfl ?_
            refine va_get (ci := 8) (v := .int t_at) (C := RX10) (T := TX10) (N := 24) hx hb hts hin_X10 hown hK hP 0 rfl rfl 17 (by decide) fl_224 (fun _ h9 => h9) rfl dX10_number_64 ?_
            refine lv_dup_x1 hx hb dX10_number_67 rfl rfl ?_
            refine lv_iconst (v := (1 : Int32)) hx hb dX10_number_68 (by decide) ?_
            refine lv_iadd hx hb dX10_number_69 ?_
            refine jt_i hJ (fun x69 hJ => ?_)
            refine va_put (ci := 8) (v := .int x69) (ty := .int) (C := RX10) (T := TX10) (N := 24) hx hb hts hin_X10 tyX10 tyX10_ok nmX10 hown hK hP hD hS 0 rfl rfl 17 (by decide) fl_224 (fun _ h9 => h9) rfl (by decide +kernel) rfl rfl (Nat.le_of_ble_eq_true rfl) dX10_number_70 (fun H locs hP hD hS => ?_)
            have hP : va_P D vwCl [(q_t, .inr (8, [.ref q_t_now, .ref q_t_tried, .ref q_t_thought, .ref q_t_kept, .int t_undos, .ref q_t_saved, .int t_isSaved, .ref q_t_finds, .ref q_t_reach, .ref q_t_steps, .ref q_t_glows, .ref q_t_lower, .ref q_t_upper, .ref q_t_line, .int t_lined, .ref q_t_text, .int t_length, .int x69, .int t_order, .ref q_t_told, .ref q_t_why, .ref q_t_more, .int t_whys, .int t_answer])), (q_t_text, .inl (cC, 60, .inl t_text)), (q_t_told, .inl (cI, 3, .inl t_told))] H := hP
            have hD : va_D A [(q_t, .inr (8, [.ref q_t_now, .ref q_t_tried, .ref q_t_thought, .ref q_t_kept, .int t_undos, .ref q_t_saved, .int t_isSaved, .ref q_t_finds, .ref q_t_reach, .ref q_t_steps, .ref q_t_glows, .ref q_t_lower, .ref q_t_upper, .ref q_t_line, .int t_lined, .ref q_t_text, .int t_length, .int x69, .int t_order, .ref q_t_told, .ref q_t_why, .ref q_t_more, .int t_whys, .int t_answer])), (q_t_text, .inl (cC, 60, .inl t_text)), (q_t_told, .inl (cI, 3, .inl t_told))] := hD
            obtain ⟨hin, hJ⟩ := chk_in hJ
            refine va_cald hx hb hK hP 1 2 rfl rfl hin dX10_number_73 ?_
            refine jt_i hJ (fun x73 hJ => ?_)
            refine lv_iadd hx hb dX10_number_74 ?_
            refine jt_i hJ (fun x74 hJ => ?_)
            refine lv_bipush (v := (48 : Int32)) hx hb dX10_number_75 (by decide) ?_
            refine lv_isub hx hb dX10_number_77 ?_
            refine jt_i hJ (fun x77 hJ => ?_)
            obtain ⟨hin, hJ⟩ := chk_in hJ
            refine va_iast hx hb hK hP hD hS 2 0 rfl rfl hin dX10_number_78 (fun H locs hP hD hS => ?_)
            have hP : va_P D vwCl [(q_t, .inr (8, [.ref q_t_now, .ref q_t_tried, .ref q_t_thought, .ref q_t_kept, .int t_undos, .ref q_t_saved, .int t_isSaved, .ref q_t_finds, .ref q_t_reach, .ref q_t_steps, .ref q_t_glows, .ref q_t_lower, .ref q_t_upper, .ref q_t_line, .int t_lined, .ref q_t_text, .int t_length, .int x69, .int t_order, .ref q_t_told, .ref q_t_why, .ref q_t_more, .int t_whys, .int t_answer])), (q_t_text, .inl (cC, 60, .inl t_text)), (q_t_told, .inl (cI, 3, .inl (upd t_told v1.toNatClampNeg x77)))] H := hP
            have hD : va_D A [(q_t, .inr (8, [.ref q_t_now, .ref q_t_tried, .ref q_t_thought, .ref q_t_kept, .int t_undos, .ref q_t_saved, .int t_isSaved, .ref q_t_finds, .ref q_t_reach, .ref q_t_steps, .ref q_t_glows, .ref q_t_lower, .ref q_t_upper, .ref q_t_line, .int t_lined, .ref q_t_text, .int t_length, .int x69, .int t_order, .ref q_t_told, .ref q_t_why, .ref q_t_more, .int t_whys, .int t_answer])), (q_t_text, .inl (cC, 60, .inl t_text)), (q_t_told, .inl (cI, 3, .inl (upd t_told v1.toNatClampNeg x77)))] := hD
            refine jt_iinc hJ (fun x79 ex79 hJ => ?_)
            refine lv_iinc (v := x79) (lv' := [(3, .int x79), (0, .ref q_t), (1, .int v1), (2, .int v2)]) hx hb dX10_number_79 hl (k := 3) rfl ex79 (by decide) rfl (fun ls hl => ?_)
            refine lv_goto (tgt := 9) hx hb dX10_number_82 (by decide) ?_
            exact ih x69 (upd t_told v1.toNatClampNeg x77) x79  H locs  hP hD hS _ (lv_sub hl [1, 2, 3, 0] rfl) hJ
  unfold J_X10_number at hJ
  refine lv_iconst (v := (0 : Int32)) hx hb dX10_number_0 (by decide) ?_
  refine lv_istore_n (lv' := [(3, .int (0 : Int32)), (0, .ref q_t), (1, .int v1), (2, .int v2)]) hx hb dX10_number_1 rfl hl (by decide) rfl (fun ls hl => ?_)
  refine lv_aload_n hx hb dX10_number_2 rfl (lv_at hl 1 rfl) ?_
  refine va_get (ci := 8) (v := .ref q_t_told) (C := RX10) (T := TX10) (N := 24) hx hb hts hin_X10 hown hK hP 0 rfl rfl 19 (by decide) fl_50 (fun _ h9 => h9) rfl dX10_number_3 ?_
  refine lv_iload_n hx hb dX10_number_6 rfl (lv_at hl 2 rfl) ?_
  refine lv_iconst (v := (0 : Int32)) hx hb dX10_number_7 (by decide) ?_
  obtain ⟨hin, hJ⟩ := chk_in hJ
  refine va_iast hx hb hK hP hD hS 2 0 rfl rfl hin dX10_number_8 (fun H locs hP hD hS => ?_)
  have hP : va_P D vwCl [(q_t, .inr (8, [.ref q_t_now, .ref q_t_tried, .ref q_t_thought, .ref q_t_kept, .int t_undos, .ref q_t_saved, .int t_isSaved, .ref q_t_finds, .ref q_t_reach, .ref q_t_steps, .ref q_t_glows, .ref q_t_lower, .ref q_t_upper, .ref q_t_line, .int t_lined, .ref q_t_text, .int t_length, .int t_at, .int t_order, .ref q_t_told, .ref q_t_why, .ref q_t_more, .int t_whys, .int t_answer])), (q_t_text, .inl (cC, 60, .inl t_text)), (q_t_told, .inl (cI, 3, .inl (upd t_told v1.toNatClampNeg (0 : Int32))))] H := hP
  have hD : va_D A [(q_t, .inr (8, [.ref q_t_now, .ref q_t_tried, .ref q_t_thought, .ref q_t_kept, .int t_undos, .ref q_t_saved, .int t_isSaved, .ref q_t_finds, .ref q_t_reach, .ref q_t_steps, .ref q_t_glows, .ref q_t_lower, .ref q_t_upper, .ref q_t_line, .int t_lined, .ref q_t_text, .int t_length, .int t_at, .int t_order, .ref q_t_told, .ref q_t_why, .ref q_t_more, .int t_whys, .int t_answer])), (q_t_text, .inl (cC, 60, .inl t_text)), (q_t_told, .inl (cI, 3, .inl (upd t_told v1.toNatClampNeg (0 : Int32))))] := hD
  exact L9  FU t_at (upd t_told v1.toNatClampNeg (0 : Int32)) (0 : Int32)  H locs  hP hD hS _ (lv_sub hl [1, 2, 3, 0] rfl) hJ

def J_X10_sign_b39 (t_length : Int32) (t_text : Nat → Int32) (t_at : Int32) (t_told : Nat → Int32) : Option (Int32 × Int32 × (Nat → Int32)) :=
    chz (0 : Int32) (some ((0 : Int32), t_at, t_told))
def J_X10_sign_b72 (t_length : Int32) (t_text : Nat → Int32) (t_at : Int32) (t_told : Nat → Int32) (s72_1 : Int32) (s72_2 : Int32) : Option (Int32 × Int32 × (Nat → Int32)) :=
    chk s72_1 3 (
    chz (1 : Int32) (some ((1 : Int32), t_at, (upd t_told s72_1.toNatClampNeg s72_2))))
def J_X10_sign_b41 (t_length : Int32) (t_text : Nat → Int32) (t_at : Int32) (t_told : Nat → Int32) : Option (Int32 × Int32 × (Nat → Int32)) :=
    nm (t_at + (1 : Int32)) fun x57 =>
    chk t_at 60 (
    nm (t_text t_at.toNatClampNeg) fun x61 =>
    if x61 = (43 : Int32) then (
    J_X10_sign_b72 t_length t_text x57 t_told (1 : Int32) (1 : Int32))
    else (
    J_X10_sign_b72 t_length t_text x57 t_told (1 : Int32) (0 : Int32)))
def J_X10_sign (t_length : Int32) (t_at : Int32) (t_text : Nat → Int32) (t_told : Nat → Int32) : Option (Int32 × Int32 × (Nat → Int32)) :=
    if t_at = t_length then (
    J_X10_sign_b39 t_length t_text t_at t_told)
    else (
    chk t_at 60 (
    nm (t_text t_at.toNatClampNeg) fun x19 =>
    if x19 = (43 : Int32) then (
    J_X10_sign_b41 t_length t_text t_at t_told)
    else (
    chk t_at 60 (
    nm (t_text t_at.toNatClampNeg) fun x33 =>
    if x33 = (45 : Int32) then (
    J_X10_sign_b41 t_length t_text t_at t_told)
    else (
    J_X10_sign_b39 t_length t_text t_at t_told)))))
abbrev rmX10_sign : Room := { frames := 0, cells := 0, slots := 0, locals := 0 }
set_option maxHeartbeats 4000000 in
set_option maxRecDepth 100000 in
theorem c_X10_sign (l : Launch) (D : va_G) (cI cJ cC cL : ClassId) (q_t q_t_now q_t_tried q_t_thought q_t_kept q_t_saved q_t_finds q_t_reach q_t_steps q_t_glows q_t_lower q_t_upper q_t_line q_t_text q_t_told q_t_why q_t_more : Nat) (t_undos : Int32) (t_isSaved : Int32) (t_lined : Int32) (t_length : Int32) (t_at : Int32) (t_order : Int32) (t_whys : Int32) (t_answer : Int32) (t_text : Nat → Int32) (t_told : Nat → Int32) (r : Int32) (o_t_at : Int32) (o_t_told : Nat → Int32) (hJ : J_X10_sign t_length t_at t_text t_told = some (r, o_t_at, o_t_told)) (sz : Nat) : Met l yX10_sign wsX10_sign rmX10_sign (va_Pc [.ref q_t] (jpre XT D (tyL cI cJ cC cL) [(q_t, .inr (8, [.ref q_t_now, .ref q_t_tried, .ref q_t_thought, .ref q_t_kept, .int t_undos, .ref q_t_saved, .int t_isSaved, .ref q_t_finds, .ref q_t_reach, .ref q_t_steps, .ref q_t_glows, .ref q_t_lower, .ref q_t_upper, .ref q_t_line, .int t_lined, .ref q_t_text, .int t_length, .int t_at, .int t_order, .ref q_t_told, .ref q_t_why, .ref q_t_more, .int t_whys, .int t_answer])), (q_t_text, .inl (cC, 60, .inl t_text)), (q_t_told, .inl (cI, 3, .inl t_told))] sz)) (va_Qi (fun r' (_ : Unit) => r' = r) (fun _ t => jpost D (tyL cI cJ cC cL) (va_A [(q_t, .inr (8, [.ref q_t_now, .ref q_t_tried, .ref q_t_thought, .ref q_t_kept, .int t_undos, .ref q_t_saved, .int t_isSaved, .ref q_t_finds, .ref q_t_reach, .ref q_t_steps, .ref q_t_glows, .ref q_t_lower, .ref q_t_upper, .ref q_t_line, .int t_lined, .ref q_t_text, .int t_length, .int t_at, .int t_order, .ref q_t_told, .ref q_t_why, .ref q_t_more, .int t_whys, .int t_answer])), (q_t_text, .inl (cC, 60, .inl t_text)), (q_t_told, .inl (cI, 3, .inl t_told))] sz) [(q_t, .inr (8, [.ref q_t_now, .ref q_t_tried, .ref q_t_thought, .ref q_t_kept, .int t_undos, .ref q_t_saved, .int t_isSaved, .ref q_t_finds, .ref q_t_reach, .ref q_t_steps, .ref q_t_glows, .ref q_t_lower, .ref q_t_upper, .ref q_t_line, .int t_lined, .ref q_t_text, .int t_length, .int o_t_at, .int t_order, .ref q_t_told, .ref q_t_why, .ref q_t_more, .int t_whys, .int t_answer])), (q_t_text, .inl (cC, 60, .inl t_text)), (q_t_told, .inl (cI, 3, .inl o_t_told))] t) (va_A [(q_t, .inr (8, [.ref q_t_now, .ref q_t_tried, .ref q_t_thought, .ref q_t_kept, .int t_undos, .ref q_t_saved, .int t_isSaved, .ref q_t_finds, .ref q_t_reach, .ref q_t_steps, .ref q_t_glows, .ref q_t_lower, .ref q_t_upper, .ref q_t_line, .int t_lined, .ref q_t_text, .int t_length, .int t_at, .int t_order, .ref q_t_told, .ref q_t_why, .ref q_t_more, .int t_whys, .int t_answer])), (q_t_text, .inl (cC, 60, .inl t_text)), (q_t_told, .inl (cI, 3, .inl t_told))] sz)) 0 0 (va_A [(q_t, .inr (8, [.ref q_t_now, .ref q_t_tried, .ref q_t_thought, .ref q_t_kept, .int t_undos, .ref q_t_saved, .int t_isSaved, .ref q_t_finds, .ref q_t_reach, .ref q_t_steps, .ref q_t_glows, .ref q_t_lower, .ref q_t_upper, .ref q_t_line, .int t_lined, .ref q_t_text, .int t_length, .int t_at, .int t_order, .ref q_t_told, .ref q_t_why, .ref q_t_more, .int t_whys, .int t_answer])), (q_t_text, .inl (cC, 60, .inl t_text)), (q_t_told, .inl (cI, 3, .inl t_told))] sz) := by
  refine jE_z (cc := cX10_sign) (maxL := 1) (own := RX10) (ret := (some .boolean)) (lv0 := [(0, .ref q_t)]) (by decide) rfl rfl rfl (Nat.le_of_ble_eq_true rfl) rfl ?_
  intro p e s m args below meth c A Q ls hx hb hml hown hts hK hN hX hA hP hD hS hl hRet
  have hF : CallFix p m c cX10_sign 1 s args wsX10_sign RX10 := ⟨hx, hb, hml, hown, hts⟩
  have fl_46 := hts (.fieldLink RX10 46 "LanternLogicModel" "text" "[C") (by decide +kernel)
  have fl_50 := hts (.fieldLink RX10 50 "LanternLogicModel" "told" "[I") (by decide +kernel)
  have fl_217 := hts (.fieldLink RX10 217 "LanternLogicModel" "length" "I") (by decide +kernel)
  have fl_224 := hts (.fieldLink RX10 224 "LanternLogicModel" "at" "I") (by decide +kernel)
  have hin_X10 : ∀ w ∈ u_ws RX10 TX10 24, w ∈ wsX10_sign := by decide +kernel
  have B39 : ∀ (t_at : Int32) (t_told : Nat → Int32) (H : Heap) (locs : List Loc), va_P D vwCl [(q_t, .inr (8, [.ref q_t_now, .ref q_t_tried, .ref q_t_thought, .ref q_t_kept, .int t_undos, .ref q_t_saved, .int t_isSaved, .ref q_t_finds, .ref q_t_reach, .ref q_t_steps, .ref q_t_glows, .ref q_t_lower, .ref q_t_upper, .ref q_t_line, .int t_lined, .ref q_t_text, .int t_length, .int t_at, .int t_order, .ref q_t_told, .ref q_t_why, .ref q_t_more, .int t_whys, .int t_answer])), (q_t_text, .inl (cC, 60, .inl t_text)), (q_t_told, .inl (cI, 3, .inl t_told))] H → va_D A [(q_t, .inr (8, [.ref q_t_now, .ref q_t_tried, .ref q_t_thought, .ref q_t_kept, .int t_undos, .ref q_t_saved, .int t_isSaved, .ref q_t_finds, .ref q_t_reach, .ref q_t_steps, .ref q_t_glows, .ref q_t_lower, .ref q_t_upper, .ref q_t_line, .int t_lined, .ref q_t_text, .int t_length, .int t_at, .int t_order, .ref q_t_told, .ref q_t_why, .ref q_t_more, .int t_whys, .int t_answer])), (q_t_text, .inl (cC, 60, .inl t_text)), (q_t_told, .inl (cI, 3, .inl t_told))] → va_S A s.heap H locs → ∀ ls : Array Slot, lv_has ls 1 [] → J_X10_sign_b39  t_length t_text t_at t_told = some (r, o_t_at, o_t_told) → W p l e rmX10_sign s m args below meth c H locs 0 0 Q (F0 m 39 ls []) := by
    intro t_at t_told H locs hP hD hS ls hl hJ
    unfold J_X10_sign_b39 at hJ
    refine lv_iconst (v := (0 : Int32)) hx hb dX10_sign_39 (by decide) ?_
    obtain ⟨h01, hJ⟩ := chz_ok hJ
    have hJ := Option.some.inj hJ
    obtain ⟨e0, e1, e2⟩ : ((0 : Int32)) = r ∧ (t_at) = o_t_at ∧ (t_told) = o_t_told := ⟨congrArg (fun z => z.1) hJ, congrArg (fun z => z.2.1) hJ, congrArg (fun z => z.2.2) hJ⟩
    exact hRet (by rw [← e1, ← e2]; exact hP) (by rw [← e1, ← e2]; exact hD) hS h01 e0 dX10_sign_40
  have B72 : ∀ (t_at : Int32) (t_told : Nat → Int32) (s72_1 : Int32) (s72_2 : Int32) (H : Heap) (locs : List Loc), va_P D vwCl [(q_t, .inr (8, [.ref q_t_now, .ref q_t_tried, .ref q_t_thought, .ref q_t_kept, .int t_undos, .ref q_t_saved, .int t_isSaved, .ref q_t_finds, .ref q_t_reach, .ref q_t_steps, .ref q_t_glows, .ref q_t_lower, .ref q_t_upper, .ref q_t_line, .int t_lined, .ref q_t_text, .int t_length, .int t_at, .int t_order, .ref q_t_told, .ref q_t_why, .ref q_t_more, .int t_whys, .int t_answer])), (q_t_text, .inl (cC, 60, .inl t_text)), (q_t_told, .inl (cI, 3, .inl t_told))] H → va_D A [(q_t, .inr (8, [.ref q_t_now, .ref q_t_tried, .ref q_t_thought, .ref q_t_kept, .int t_undos, .ref q_t_saved, .int t_isSaved, .ref q_t_finds, .ref q_t_reach, .ref q_t_steps, .ref q_t_glows, .ref q_t_lower, .ref q_t_upper, .ref q_t_line, .int t_lined, .ref q_t_text, .int t_length, .int t_at, .int t_order, .ref q_t_told, .ref q_t_why, .ref q_t_more, .int t_whys, .int t_answer])), (q_t_text, .inl (cC, 60, .inl t_text)), (q_t_told, .inl (cI, 3, .inl t_told))] → va_S A s.heap H locs → ∀ ls : Array Slot, lv_has ls 1 [] → J_X10_sign_b72  t_length t_text t_at t_told s72_1 s72_2 = some (r, o_t_at, o_t_told) → W p l e rmX10_sign s m args below meth c H locs 0 0 Q (F0 m 72 ls [.int s72_2, .int s72_1, .ref q_t_told]) := by
    intro t_at t_told s72_1 s72_2 H locs hP hD hS ls hl hJ
    unfold J_X10_sign_b72 at hJ
    obtain ⟨hin, hJ⟩ := chk_in hJ
    refine va_iast hx hb hK hP hD hS 2 0 rfl rfl hin dX10_sign_72 (fun H locs hP hD hS => ?_)
    have hP : va_P D vwCl [(q_t, .inr (8, [.ref q_t_now, .ref q_t_tried, .ref q_t_thought, .ref q_t_kept, .int t_undos, .ref q_t_saved, .int t_isSaved, .ref q_t_finds, .ref q_t_reach, .ref q_t_steps, .ref q_t_glows, .ref q_t_lower, .ref q_t_upper, .ref q_t_line, .int t_lined, .ref q_t_text, .int t_length, .int t_at, .int t_order, .ref q_t_told, .ref q_t_why, .ref q_t_more, .int t_whys, .int t_answer])), (q_t_text, .inl (cC, 60, .inl t_text)), (q_t_told, .inl (cI, 3, .inl (upd t_told s72_1.toNatClampNeg s72_2)))] H := hP
    have hD : va_D A [(q_t, .inr (8, [.ref q_t_now, .ref q_t_tried, .ref q_t_thought, .ref q_t_kept, .int t_undos, .ref q_t_saved, .int t_isSaved, .ref q_t_finds, .ref q_t_reach, .ref q_t_steps, .ref q_t_glows, .ref q_t_lower, .ref q_t_upper, .ref q_t_line, .int t_lined, .ref q_t_text, .int t_length, .int t_at, .int t_order, .ref q_t_told, .ref q_t_why, .ref q_t_more, .int t_whys, .int t_answer])), (q_t_text, .inl (cC, 60, .inl t_text)), (q_t_told, .inl (cI, 3, .inl (upd t_told s72_1.toNatClampNeg s72_2)))] := hD
    refine lv_iconst (v := (1 : Int32)) hx hb dX10_sign_73 (by decide) ?_
    obtain ⟨h01, hJ⟩ := chz_ok hJ
    have hJ := Option.some.inj hJ
    obtain ⟨e0, e1, e2⟩ : ((1 : Int32)) = r ∧ (t_at) = o_t_at ∧ ((upd t_told s72_1.toNatClampNeg s72_2)) = o_t_told := ⟨congrArg (fun z => z.1) hJ, congrArg (fun z => z.2.1) hJ, congrArg (fun z => z.2.2) hJ⟩
    exact hRet (by rw [← e1, ← e2]; exact hP) (by rw [← e1, ← e2]; exact hD) hS h01 e0 dX10_sign_74
  have B41 : ∀ (t_at : Int32) (t_told : Nat → Int32) (H : Heap) (locs : List Loc), va_P D vwCl [(q_t, .inr (8, [.ref q_t_now, .ref q_t_tried, .ref q_t_thought, .ref q_t_kept, .int t_undos, .ref q_t_saved, .int t_isSaved, .ref q_t_finds, .ref q_t_reach, .ref q_t_steps, .ref q_t_glows, .ref q_t_lower, .ref q_t_upper, .ref q_t_line, .int t_lined, .ref q_t_text, .int t_length, .int t_at, .int t_order, .ref q_t_told, .ref q_t_why, .ref q_t_more, .int t_whys, .int t_answer])), (q_t_text, .inl (cC, 60, .inl t_text)), (q_t_told, .inl (cI, 3, .inl t_told))] H → va_D A [(q_t, .inr (8, [.ref q_t_now, .ref q_t_tried, .ref q_t_thought, .ref q_t_kept, .int t_undos, .ref q_t_saved, .int t_isSaved, .ref q_t_finds, .ref q_t_reach, .ref q_t_steps, .ref q_t_glows, .ref q_t_lower, .ref q_t_upper, .ref q_t_line, .int t_lined, .ref q_t_text, .int t_length, .int t_at, .int t_order, .ref q_t_told, .ref q_t_why, .ref q_t_more, .int t_whys, .int t_answer])), (q_t_text, .inl (cC, 60, .inl t_text)), (q_t_told, .inl (cI, 3, .inl t_told))] → va_S A s.heap H locs → ∀ ls : Array Slot, lv_has ls 1 [(0, .ref q_t)] → J_X10_sign_b41  t_length t_text t_at t_told = some (r, o_t_at, o_t_told) → W p l e rmX10_sign s m args below meth c H locs 0 0 Q (F0 m 41 ls []) := by
    intro t_at t_told H locs hP hD hS ls hl hJ
    unfold J_X10_sign_b41 at hJ
    refine lv_aload_n hx hb dX10_sign_41 rfl (lv_at hl 0 rfl) ?_
    refine va_get (ci := 8) (v := .ref q_t_told) (C := RX10) (T := TX10) (N := 24) hx hb hts hin_X10 hown hK hP 0 rfl rfl 19 (by decide) fl_50 (fun _ h9 => h9) rfl dX10_sign_42 ?_
    refine lv_iconst (v := (1 : Int32)) hx hb dX10_sign_45 (by decide) ?_
    refine lv_aload_n hx hb dX10_sign_46 rfl (lv_at hl 0 rfl) ?_
    refine va_get (ci := 8) (v := .ref q_t_text) (C := RX10) (T := TX10) (N := 24) hx hb hts hin_X10 hown hK hP 0 rfl rfl 15 (by decide) fl_46 (fun _ h9 => h9) rfl dX10_sign_47 ?_
    refine lv_aload_n hx hb dX10_sign_50 rfl (lv_at hl 0 rfl) ?_
    refine lv_dup hx hb dX10_sign_51 rfl ?_
    refine va_get (ci := 8) (v := .int t_at) (C := RX10) (T := TX10) (N := 24) hx hb hts hin_X10 hown hK hP 0 rfl rfl 17 (by decide) fl_224 (fun _ h9 => h9) rfl dX10_sign_52 ?_
    refine lv_dup_x1 hx hb dX10_sign_55 rfl rfl ?_
    refine lv_iconst (v := (1 : Int32)) hx hb dX10_sign_56 (by decide) ?_
    refine lv_iadd hx hb dX10_sign_57 ?_
    refine jt_i hJ (fun x57 hJ => ?_)
    refine va_put (ci := 8) (v := .int x57) (ty := .int) (C := RX10) (T := TX10) (N := 24) hx hb hts hin_X10 tyX10 tyX10_ok nmX10 hown hK hP hD hS 0 rfl rfl 17 (by decide) fl_224 (fun _ h9 => h9) rfl (by decide +kernel) rfl rfl (Nat.le_of_ble_eq_true rfl) dX10_sign_58 (fun H locs hP hD hS => ?_)
    have hP : va_P D vwCl [(q_t, .inr (8, [.ref q_t_now, .ref q_t_tried, .ref q_t_thought, .ref q_t_kept, .int t_undos, .ref q_t_saved, .int t_isSaved, .ref q_t_finds, .ref q_t_reach, .ref q_t_steps, .ref q_t_glows, .ref q_t_lower, .ref q_t_upper, .ref q_t_line, .int t_lined, .ref q_t_text, .int t_length, .int x57, .int t_order, .ref q_t_told, .ref q_t_why, .ref q_t_more, .int t_whys, .int t_answer])), (q_t_text, .inl (cC, 60, .inl t_text)), (q_t_told, .inl (cI, 3, .inl t_told))] H := hP
    have hD : va_D A [(q_t, .inr (8, [.ref q_t_now, .ref q_t_tried, .ref q_t_thought, .ref q_t_kept, .int t_undos, .ref q_t_saved, .int t_isSaved, .ref q_t_finds, .ref q_t_reach, .ref q_t_steps, .ref q_t_glows, .ref q_t_lower, .ref q_t_upper, .ref q_t_line, .int t_lined, .ref q_t_text, .int t_length, .int x57, .int t_order, .ref q_t_told, .ref q_t_why, .ref q_t_more, .int t_whys, .int t_answer])), (q_t_text, .inl (cC, 60, .inl t_text)), (q_t_told, .inl (cI, 3, .inl t_told))] := hD
    obtain ⟨hin, hJ⟩ := chk_in hJ
    refine va_cald hx hb hK hP 1 2 rfl rfl hin dX10_sign_61 ?_
    refine jt_i hJ (fun x61 hJ => ?_)
    refine lv_bipush (v := (43 : Int32)) hx hb dX10_sign_62 (by decide) ?_
    refine jif_icmp_ne (tgt := 71) hx hb dX10_sign_64 (by decide) hJ (fun hJ => ?_) (fun hJ => ?_)
    · refine lv_iconst (v := (0 : Int32)) hx hb dX10_sign_71 (by decide) ?_
      exact B72  x57 t_told (1 : Int32) (0 : Int32)  H locs  hP hD hS _ (lv_sub hl [] rfl) hJ
    · refine lv_iconst (v := (1 : Int32)) hx hb dX10_sign_67 (by decide) ?_
      refine lv_goto (tgt := 72) hx hb dX10_sign_68 (by decide) ?_
      exact B72  x57 t_told (1 : Int32) (1 : Int32)  H locs  hP hD hS _ (lv_sub hl [] rfl) hJ
  unfold J_X10_sign at hJ
  refine lv_aload_n hx hb dX10_sign_0 rfl (lv_at hl 0 rfl) ?_
  refine va_get (ci := 8) (v := .int t_at) (C := RX10) (T := TX10) (N := 24) hx hb hts hin_X10 hown hK hP 0 rfl rfl 17 (by decide) fl_224 (fun _ h9 => h9) rfl dX10_sign_1 ?_
  refine lv_aload_n hx hb dX10_sign_4 rfl (lv_at hl 0 rfl) ?_
  refine va_get (ci := 8) (v := .int t_length) (C := RX10) (T := TX10) (N := 24) hx hb hts hin_X10 hown hK hP 0 rfl rfl 16 (by decide) fl_217 (fun _ h9 => h9) rfl dX10_sign_5 ?_
  refine jif_icmp_eq (tgt := 39) hx hb dX10_sign_8 (by decide) hJ (fun hJ => ?_) (fun hJ => ?_)
  · exact B39  t_at t_told  s.heap []  hP hD hS _ (lv_sub hl [] rfl) hJ
  · refine lv_aload_n hx hb dX10_sign_11 rfl (lv_at hl 0 rfl) ?_
    refine va_get (ci := 8) (v := .ref q_t_text) (C := RX10) (T := TX10) (N := 24) hx hb hts hin_X10 hown hK hP 0 rfl rfl 15 (by decide) fl_46 (fun _ h9 => h9) rfl dX10_sign_12 ?_
    refine lv_aload_n hx hb dX10_sign_15 rfl (lv_at hl 0 rfl) ?_
    refine va_get (ci := 8) (v := .int t_at) (C := RX10) (T := TX10) (N := 24) hx hb hts hin_X10 hown hK hP 0 rfl rfl 17 (by decide) fl_224 (fun _ h9 => h9) rfl dX10_sign_16 ?_
    obtain ⟨hin, hJ⟩ := chk_in hJ
    refine va_cald hx hb hK hP 1 2 rfl rfl hin dX10_sign_19 ?_
    refine jt_i hJ (fun x19 hJ => ?_)
    refine lv_bipush (v := (43 : Int32)) hx hb dX10_sign_20 (by decide) ?_
    refine jif_icmp_eq (tgt := 41) hx hb dX10_sign_22 (by decide) hJ (fun hJ => ?_) (fun hJ => ?_)
    · exact B41  t_at t_told  s.heap []  hP hD hS _ (lv_sub hl [0] rfl) hJ
    · refine lv_aload_n hx hb dX10_sign_25 rfl (lv_at hl 0 rfl) ?_
      refine va_get (ci := 8) (v := .ref q_t_text) (C := RX10) (T := TX10) (N := 24) hx hb hts hin_X10 hown hK hP 0 rfl rfl 15 (by decide) fl_46 (fun _ h9 => h9) rfl dX10_sign_26 ?_
      refine lv_aload_n hx hb dX10_sign_29 rfl (lv_at hl 0 rfl) ?_
      refine va_get (ci := 8) (v := .int t_at) (C := RX10) (T := TX10) (N := 24) hx hb hts hin_X10 hown hK hP 0 rfl rfl 17 (by decide) fl_224 (fun _ h9 => h9) rfl dX10_sign_30 ?_
      obtain ⟨hin, hJ⟩ := chk_in hJ
      refine va_cald hx hb hK hP 1 2 rfl rfl hin dX10_sign_33 ?_
      refine jt_i hJ (fun x33 hJ => ?_)
      refine lv_bipush (v := (45 : Int32)) hx hb dX10_sign_34 (by decide) ?_
      refine jif_icmp_eq (tgt := 41) hx hb dX10_sign_36 (by decide) hJ (fun hJ => ?_) (fun hJ => ?_)
      · exact B41  t_at t_told  s.heap []  hP hD hS _ (lv_sub hl [0] rfl) hJ
      · exact B39  t_at t_told  s.heap []  hP hD hS _ (lv_sub hl [] rfl) hJ

def J_X10_carries (t_order : Int32) (t_whys : Int32) (t_answer : Int32) (t_now : Nat → Int32) (t_finds : Nat → Int32) (t_steps : Nat → Int32) (t_told : Nat → Int32) (t_why : Nat → Int32) (t_more : Nat → Int32) : Option (Int32 × Int32 × Int32 × (Nat → Int32) × (Nat → Int32) × (Nat → Int32) × (Nat → Int32) × (Nat → Int32)) :=
    if t_order = (99 : Int32) then (
    chk (0 : Int32) 3 (
    nm (t_told (0 : Int32).toNatClampNeg) fun x94 =>
    chk (1 : Int32) 3 (
    nm (t_told (1 : Int32).toNatClampNeg) fun x100 =>
    bnd6 (J_X10_cuts t_whys t_answer t_now t_why t_more x94 x100) fun x101 t_whys_101 t_answer_101 t_now_101 t_why_101 t_more_101 =>
    some (x101, t_whys_101, t_answer_101, t_now_101, t_finds, t_steps, t_why_101, t_more_101))))
    else (
    if t_order = (104 : Int32) then (
    chk (0 : Int32) 3 (
    nm (t_told (0 : Int32).toNatClampNeg) fun x54 =>
    chk (1 : Int32) 3 (
    nm (t_told (1 : Int32).toNatClampNeg) fun x60 =>
    bnd6 (J_X10_hangs t_whys t_answer t_now t_why t_more x54 x60) fun x61 t_whys_61 t_answer_61 t_now_61 t_why_61 t_more_61 =>
    some (x61, t_whys_61, t_answer_61, t_now_61, t_finds, t_steps, t_why_61, t_more_61))))
    else (
    if t_order = (115 : Int32) then (
    chk (0 : Int32) 3 (
    nm (t_told (0 : Int32).toNatClampNeg) fun x111 =>
    chk (1 : Int32) 3 (
    nm (t_told (1 : Int32).toNatClampNeg) fun x117 =>
    bnd6 (J_X10_switches t_whys t_answer t_now t_why t_more x111 x117) fun x118 t_whys_118 t_answer_118 t_now_118 t_why_118 t_more_118 =>
    some (x118, t_whys_118, t_answer_118, t_now_118, t_finds, t_steps, t_why_118, t_more_118))))
    else (
    if t_order = (119 : Int32) then (
    chk (0 : Int32) 3 (
    nm (t_told (0 : Int32).toNatClampNeg) fun x71 =>
    chk (1 : Int32) 3 (
    nm (t_told (1 : Int32).toNatClampNeg) fun x77 =>
    chk (2 : Int32) 3 (
    nm (t_told (2 : Int32).toNatClampNeg) fun x83 =>
    bnd7 (J_X10_wires t_whys t_answer t_now t_steps t_why t_more x71 x77 x83) fun x84 t_whys_84 t_answer_84 t_now_84 t_steps_84 t_why_84 t_more_84 =>
    some (x84, t_whys_84, t_answer_84, t_now_84, t_finds, t_steps_84, t_why_84, t_more_84)))))
    else (
    chk (0 : Int32) 3 (
    nm (t_told (0 : Int32).toNatClampNeg) fun x128 =>
    bnd4 (J_X10_ticks t_answer t_now t_finds x128) fun x129 t_answer_129 t_now_129 t_finds_129 =>
    some (x129, t_whys, t_answer_129, t_now_129, t_finds_129, t_steps, t_why, t_more))))))
abbrev rmX10_carries : Room := { frames := 7, cells := 0, slots := 0, locals := 158 }
set_option maxHeartbeats 4000000 in
set_option maxRecDepth 100000 in
theorem c_X10_carries (l : Launch) (D : va_G) (cI cJ cC cL : ClassId) (q_t q_t_now q_t_tried q_t_thought q_t_kept q_t_saved q_t_finds q_t_reach q_t_steps q_t_glows q_t_lower q_t_upper q_t_line q_t_text q_t_told q_t_why q_t_more : Nat) (t_undos : Int32) (t_isSaved : Int32) (t_lined : Int32) (t_length : Int32) (t_at : Int32) (t_order : Int32) (t_whys : Int32) (t_answer : Int32) (t_now : Nat → Int32) (t_finds : Nat → Int32) (t_steps : Nat → Int32) (t_told : Nat → Int32) (t_why : Nat → Int32) (t_more : Nat → Int32) (r : Int32) (o_t_whys : Int32) (o_t_answer : Int32) (o_t_now : Nat → Int32) (o_t_finds : Nat → Int32) (o_t_steps : Nat → Int32) (o_t_why : Nat → Int32) (o_t_more : Nat → Int32) (hJ : J_X10_carries t_order t_whys t_answer t_now t_finds t_steps t_told t_why t_more = some (r, o_t_whys, o_t_answer, o_t_now, o_t_finds, o_t_steps, o_t_why, o_t_more)) (sz : Nat) : Met l yX10_carries wsX10_carries rmX10_carries (va_Pc [.ref q_t] (jpre XT D (tyL cI cJ cC cL) [(q_t, .inr (8, [.ref q_t_now, .ref q_t_tried, .ref q_t_thought, .ref q_t_kept, .int t_undos, .ref q_t_saved, .int t_isSaved, .ref q_t_finds, .ref q_t_reach, .ref q_t_steps, .ref q_t_glows, .ref q_t_lower, .ref q_t_upper, .ref q_t_line, .int t_lined, .ref q_t_text, .int t_length, .int t_at, .int t_order, .ref q_t_told, .ref q_t_why, .ref q_t_more, .int t_whys, .int t_answer])), (q_t_now, .inl (cI, 133, .inl t_now)), (q_t_finds, .inl (cI, 16, .inl t_finds)), (q_t_steps, .inl (cI, 16, .inl t_steps)), (q_t_told, .inl (cI, 3, .inl t_told)), (q_t_why, .inl (cI, 4, .inl t_why)), (q_t_more, .inl (cI, 4, .inl t_more))] sz)) (va_Qi (fun r' (_ : Unit) => r' = r) (fun _ t => jpost D (tyL cI cJ cC cL) (va_A [(q_t, .inr (8, [.ref q_t_now, .ref q_t_tried, .ref q_t_thought, .ref q_t_kept, .int t_undos, .ref q_t_saved, .int t_isSaved, .ref q_t_finds, .ref q_t_reach, .ref q_t_steps, .ref q_t_glows, .ref q_t_lower, .ref q_t_upper, .ref q_t_line, .int t_lined, .ref q_t_text, .int t_length, .int t_at, .int t_order, .ref q_t_told, .ref q_t_why, .ref q_t_more, .int t_whys, .int t_answer])), (q_t_now, .inl (cI, 133, .inl t_now)), (q_t_finds, .inl (cI, 16, .inl t_finds)), (q_t_steps, .inl (cI, 16, .inl t_steps)), (q_t_told, .inl (cI, 3, .inl t_told)), (q_t_why, .inl (cI, 4, .inl t_why)), (q_t_more, .inl (cI, 4, .inl t_more))] sz) [(q_t, .inr (8, [.ref q_t_now, .ref q_t_tried, .ref q_t_thought, .ref q_t_kept, .int t_undos, .ref q_t_saved, .int t_isSaved, .ref q_t_finds, .ref q_t_reach, .ref q_t_steps, .ref q_t_glows, .ref q_t_lower, .ref q_t_upper, .ref q_t_line, .int t_lined, .ref q_t_text, .int t_length, .int t_at, .int t_order, .ref q_t_told, .ref q_t_why, .ref q_t_more, .int o_t_whys, .int o_t_answer])), (q_t_now, .inl (cI, 133, .inl o_t_now)), (q_t_finds, .inl (cI, 16, .inl o_t_finds)), (q_t_steps, .inl (cI, 16, .inl o_t_steps)), (q_t_told, .inl (cI, 3, .inl t_told)), (q_t_why, .inl (cI, 4, .inl o_t_why)), (q_t_more, .inl (cI, 4, .inl o_t_more))] t) (va_A [(q_t, .inr (8, [.ref q_t_now, .ref q_t_tried, .ref q_t_thought, .ref q_t_kept, .int t_undos, .ref q_t_saved, .int t_isSaved, .ref q_t_finds, .ref q_t_reach, .ref q_t_steps, .ref q_t_glows, .ref q_t_lower, .ref q_t_upper, .ref q_t_line, .int t_lined, .ref q_t_text, .int t_length, .int t_at, .int t_order, .ref q_t_told, .ref q_t_why, .ref q_t_more, .int t_whys, .int t_answer])), (q_t_now, .inl (cI, 133, .inl t_now)), (q_t_finds, .inl (cI, 16, .inl t_finds)), (q_t_steps, .inl (cI, 16, .inl t_steps)), (q_t_told, .inl (cI, 3, .inl t_told)), (q_t_why, .inl (cI, 4, .inl t_why)), (q_t_more, .inl (cI, 4, .inl t_more))] sz)) 0 0 (va_A [(q_t, .inr (8, [.ref q_t_now, .ref q_t_tried, .ref q_t_thought, .ref q_t_kept, .int t_undos, .ref q_t_saved, .int t_isSaved, .ref q_t_finds, .ref q_t_reach, .ref q_t_steps, .ref q_t_glows, .ref q_t_lower, .ref q_t_upper, .ref q_t_line, .int t_lined, .ref q_t_text, .int t_length, .int t_at, .int t_order, .ref q_t_told, .ref q_t_why, .ref q_t_more, .int t_whys, .int t_answer])), (q_t_now, .inl (cI, 133, .inl t_now)), (q_t_finds, .inl (cI, 16, .inl t_finds)), (q_t_steps, .inl (cI, 16, .inl t_steps)), (q_t_told, .inl (cI, 3, .inl t_told)), (q_t_why, .inl (cI, 4, .inl t_why)), (q_t_more, .inl (cI, 4, .inl t_more))] sz) := by
  refine jE_i (cc := cX10_carries) (maxL := 1) (own := RX10) (ret := (some .int)) (lv0 := [(0, .ref q_t)]) (by decide) rfl rfl rfl (Nat.le_of_ble_eq_true rfl) rfl ?_
  intro p e s m args below meth c A Q ls hx hb hml hown hts hK hN hX hA hP hD hS hl hRet
  have hF : CallFix p m c cX10_carries 1 s args wsX10_carries RX10 := ⟨hx, hb, hml, hown, hts⟩
  have fl_50 := hts (.fieldLink RX10 50 "LanternLogicModel" "told" "[I") (by decide +kernel)
  have fl_231 := hts (.fieldLink RX10 231 "LanternLogicModel" "order" "I") (by decide +kernel)
  have hin_X10 : ∀ w ∈ u_ws RX10 TX10 24, w ∈ wsX10_carries := by decide +kernel
  unfold J_X10_carries at hJ
  refine lv_aload_n hx hb dX10_carries_0 rfl (lv_at hl 0 rfl) ?_
  refine va_get (ci := 8) (v := .int t_order) (C := RX10) (T := TX10) (N := 24) hx hb hts hin_X10 hown hK hP 0 rfl rfl 18 (by decide) fl_231 (fun _ h9 => h9) rfl dX10_carries_1 ?_
  by_cases hsw : t_order = (99 : Int32)
  · have hJ := if_some_t hJ hsw
    refine lv_lookup (off := 84) (tgt := 88) hx hb dX10_carries_4 (by decide) (by rw [hsw]; decide) (by decide) ?_
    refine lv_aload_n hx hb dX10_carries_88 rfl (lv_at hl 0 rfl) ?_
    refine lv_aload_n hx hb dX10_carries_89 rfl (lv_at hl 0 rfl) ?_
    refine va_get (ci := 8) (v := .ref q_t_told) (C := RX10) (T := TX10) (N := 24) hx hb hts hin_X10 hown hK hP 0 rfl rfl 19 (by decide) fl_50 (fun _ h9 => h9) rfl dX10_carries_90 ?_
    refine lv_iconst (v := (0 : Int32)) hx hb dX10_carries_93 (by decide) ?_
    obtain ⟨hin, hJ⟩ := chk_in hJ
    refine va_iald hx hb hK hP 4 0 rfl rfl hin dX10_carries_94 ?_
    refine jt_i hJ (fun x94 hJ => ?_)
    refine lv_aload_n hx hb dX10_carries_95 rfl (lv_at hl 0 rfl) ?_
    refine va_get (ci := 8) (v := .ref q_t_told) (C := RX10) (T := TX10) (N := 24) hx hb hts hin_X10 hown hK hP 0 rfl rfl 19 (by decide) fl_50 (fun _ h9 => h9) rfl dX10_carries_96 ?_
    refine lv_iconst (v := (1 : Int32)) hx hb dX10_carries_99 (by decide) ?_
    obtain ⟨hin, hJ⟩ := chk_in hJ
    refine va_iald hx hb hK hP 4 0 rfl rfl hin dX10_carries_100 ?_
    refine jt_i hJ (fun x100 hJ => ?_)
    obtain ⟨x101, t_whys_101, t_answer_101, t_now_101, t_why_101, t_more_101, hc101, hJ⟩ := bnd6_some hJ
    refine jcV_i (C := RX10) (T := TX10) (N := 24) (ci := 8) (q0 := 0) (As := [.int x94, .int x100]) (rest := []) (isC := [0, 1, 5, 6]) (isR := [2, 3, 4]) (isB := [3, 4, 0, 1, 2, 5, 6]) (wr := [(q_t_finds, .inl (cI, 16, .inl t_finds)), (q_t_steps, .inl (cI, 16, .inl t_steps)), (q_t_told, .inl (cI, 3, .inl t_told))]) (ws2 := [(q_t, .inr (8, [.ref q_t_now, .ref q_t_tried, .ref q_t_thought, .ref q_t_kept, .int t_undos, .ref q_t_saved, .int t_isSaved, .ref q_t_finds, .ref q_t_reach, .ref q_t_steps, .ref q_t_glows, .ref q_t_lower, .ref q_t_upper, .ref q_t_line, .int t_lined, .ref q_t_text, .int t_length, .int t_at, .int t_order, .ref q_t_told, .ref q_t_why, .ref q_t_more, .int t_whys_101, .int t_answer_101])), (q_t_now, .inl (cI, 133, .inl t_now_101)), (q_t_finds, .inl (cI, 16, .inl t_finds)), (q_t_steps, .inl (cI, 16, .inl t_steps)), (q_t_told, .inl (cI, 3, .inl t_told)), (q_t_why, .inl (cI, 4, .inl t_why_101)), (q_t_more, .inl (cI, 4, .inl t_more_101))]) hF (c_X10_cuts l D cI cJ cC cL q_t q_t_now q_t_tried q_t_thought q_t_kept q_t_saved q_t_finds q_t_reach q_t_steps q_t_glows q_t_lower q_t_upper q_t_line q_t_text q_t_told q_t_why q_t_more t_undos t_isSaved t_lined t_length t_at t_order t_whys t_answer t_now t_why t_more x94 x100 x101 t_whys_101 t_answer_101 t_now_101 t_why_101 t_more_101 hc101 s.heap.size) (cwV 2 hts gX10_carries_X10_cuts rfl rfl rfl (by decide +kernel) ⟨Nat.le_of_ble_eq_true rfl, Nat.le_of_ble_eq_true rfl⟩) rfl hl rfl (Nat.le_of_ble_eq_true rfl) dX10_carries_101 ⟨Nat.zero_le _, Nat.zero_le _⟩ hK hN KX_T trivial hP hD hS hA rfl rfl rfl rfl rfl rfl (by decide) rfl rfl (fun H locs hP hD hS => ?_)
    have hJ := Option.some.inj hJ
    obtain ⟨e0, e1, e2, e3, e4, e5, e6, e7⟩ : (x101) = r ∧ (t_whys_101) = o_t_whys ∧ (t_answer_101) = o_t_answer ∧ (t_now_101) = o_t_now ∧ (t_finds) = o_t_finds ∧ (t_steps) = o_t_steps ∧ (t_why_101) = o_t_why ∧ (t_more_101) = o_t_more := ⟨congrArg (fun z => z.1) hJ, congrArg (fun z => z.2.1) hJ, congrArg (fun z => z.2.2.1) hJ, congrArg (fun z => z.2.2.2.1) hJ, congrArg (fun z => z.2.2.2.2.1) hJ, congrArg (fun z => z.2.2.2.2.2.1) hJ, congrArg (fun z => z.2.2.2.2.2.2.1) hJ, congrArg (fun z => z.2.2.2.2.2.2.2) hJ⟩
    exact hRet (by rw [← e1, ← e2, ← e3, ← e4, ← e5, ← e6, ← e7]; exact hP) (by rw [← e1, ← e2, ← e3, ← e4, ← e5, ← e6, ← e7]; exact hD) hS e0 dX10_carries_104
  have hJ := if_some_f hJ hsw
  have hs0 := jsw_ne hsw (k := 99) (by decide)
  clear hsw
  by_cases hsw : t_order = (104 : Int32)
  · have hJ := if_some_t hJ hsw
    refine lv_lookup (off := 44) (tgt := 48) hx hb dX10_carries_4 (by decide) (by rw [hsw]; decide) (by decide) ?_
    refine lv_aload_n hx hb dX10_carries_48 rfl (lv_at hl 0 rfl) ?_
    refine lv_aload_n hx hb dX10_carries_49 rfl (lv_at hl 0 rfl) ?_
    refine va_get (ci := 8) (v := .ref q_t_told) (C := RX10) (T := TX10) (N := 24) hx hb hts hin_X10 hown hK hP 0 rfl rfl 19 (by decide) fl_50 (fun _ h9 => h9) rfl dX10_carries_50 ?_
    refine lv_iconst (v := (0 : Int32)) hx hb dX10_carries_53 (by decide) ?_
    obtain ⟨hin, hJ⟩ := chk_in hJ
    refine va_iald hx hb hK hP 4 0 rfl rfl hin dX10_carries_54 ?_
    refine jt_i hJ (fun x54 hJ => ?_)
    refine lv_aload_n hx hb dX10_carries_55 rfl (lv_at hl 0 rfl) ?_
    refine va_get (ci := 8) (v := .ref q_t_told) (C := RX10) (T := TX10) (N := 24) hx hb hts hin_X10 hown hK hP 0 rfl rfl 19 (by decide) fl_50 (fun _ h9 => h9) rfl dX10_carries_56 ?_
    refine lv_iconst (v := (1 : Int32)) hx hb dX10_carries_59 (by decide) ?_
    obtain ⟨hin, hJ⟩ := chk_in hJ
    refine va_iald hx hb hK hP 4 0 rfl rfl hin dX10_carries_60 ?_
    refine jt_i hJ (fun x60 hJ => ?_)
    obtain ⟨x61, t_whys_61, t_answer_61, t_now_61, t_why_61, t_more_61, hc61, hJ⟩ := bnd6_some hJ
    refine jcV_i (C := RX10) (T := TX10) (N := 24) (ci := 8) (q0 := 0) (As := [.int x54, .int x60]) (rest := []) (isC := [0, 1, 5, 6]) (isR := [2, 3, 4]) (isB := [3, 4, 0, 1, 2, 5, 6]) (wr := [(q_t_finds, .inl (cI, 16, .inl t_finds)), (q_t_steps, .inl (cI, 16, .inl t_steps)), (q_t_told, .inl (cI, 3, .inl t_told))]) (ws2 := [(q_t, .inr (8, [.ref q_t_now, .ref q_t_tried, .ref q_t_thought, .ref q_t_kept, .int t_undos, .ref q_t_saved, .int t_isSaved, .ref q_t_finds, .ref q_t_reach, .ref q_t_steps, .ref q_t_glows, .ref q_t_lower, .ref q_t_upper, .ref q_t_line, .int t_lined, .ref q_t_text, .int t_length, .int t_at, .int t_order, .ref q_t_told, .ref q_t_why, .ref q_t_more, .int t_whys_61, .int t_answer_61])), (q_t_now, .inl (cI, 133, .inl t_now_61)), (q_t_finds, .inl (cI, 16, .inl t_finds)), (q_t_steps, .inl (cI, 16, .inl t_steps)), (q_t_told, .inl (cI, 3, .inl t_told)), (q_t_why, .inl (cI, 4, .inl t_why_61)), (q_t_more, .inl (cI, 4, .inl t_more_61))]) hF (c_X10_hangs l D cI cJ cC cL q_t q_t_now q_t_tried q_t_thought q_t_kept q_t_saved q_t_finds q_t_reach q_t_steps q_t_glows q_t_lower q_t_upper q_t_line q_t_text q_t_told q_t_why q_t_more t_undos t_isSaved t_lined t_length t_at t_order t_whys t_answer t_now t_why t_more x54 x60 x61 t_whys_61 t_answer_61 t_now_61 t_why_61 t_more_61 hc61 s.heap.size) (cwV 2 hts gX10_carries_X10_hangs rfl rfl rfl (by decide +kernel) ⟨Nat.le_of_ble_eq_true rfl, Nat.le_of_ble_eq_true rfl⟩) rfl hl rfl (Nat.le_of_ble_eq_true rfl) dX10_carries_61 ⟨Nat.zero_le _, Nat.zero_le _⟩ hK hN KX_T trivial hP hD hS hA rfl rfl rfl rfl rfl rfl (by decide) rfl rfl (fun H locs hP hD hS => ?_)
    have hJ := Option.some.inj hJ
    obtain ⟨e0, e1, e2, e3, e4, e5, e6, e7⟩ : (x61) = r ∧ (t_whys_61) = o_t_whys ∧ (t_answer_61) = o_t_answer ∧ (t_now_61) = o_t_now ∧ (t_finds) = o_t_finds ∧ (t_steps) = o_t_steps ∧ (t_why_61) = o_t_why ∧ (t_more_61) = o_t_more := ⟨congrArg (fun z => z.1) hJ, congrArg (fun z => z.2.1) hJ, congrArg (fun z => z.2.2.1) hJ, congrArg (fun z => z.2.2.2.1) hJ, congrArg (fun z => z.2.2.2.2.1) hJ, congrArg (fun z => z.2.2.2.2.2.1) hJ, congrArg (fun z => z.2.2.2.2.2.2.1) hJ, congrArg (fun z => z.2.2.2.2.2.2.2) hJ⟩
    exact hRet (by rw [← e1, ← e2, ← e3, ← e4, ← e5, ← e6, ← e7]; exact hP) (by rw [← e1, ← e2, ← e3, ← e4, ← e5, ← e6, ← e7]; exact hD) hS e0 dX10_carries_64
  have hJ := if_some_f hJ hsw
  have hs1 := jsw_ne hsw (k := 104) (by decide)
  clear hsw
  by_cases hsw : t_order = (115 : Int32)
  · have hJ := if_some_t hJ hsw
    refine lv_lookup (off := 101) (tgt := 105) hx hb dX10_carries_4 (by decide) (by rw [hsw]; decide) (by decide) ?_
    refine lv_aload_n hx hb dX10_carries_105 rfl (lv_at hl 0 rfl) ?_
    refine lv_aload_n hx hb dX10_carries_106 rfl (lv_at hl 0 rfl) ?_
    refine va_get (ci := 8) (v := .ref q_t_told) (C := RX10) (T := TX10) (N := 24) hx hb hts hin_X10 hown hK hP 0 rfl rfl 19 (by decide) fl_50 (fun _ h9 => h9) rfl dX10_carries_107 ?_
    refine lv_iconst (v := (0 : Int32)) hx hb dX10_carries_110 (by decide) ?_
    obtain ⟨hin, hJ⟩ := chk_in hJ
    refine va_iald hx hb hK hP 4 0 rfl rfl hin dX10_carries_111 ?_
    refine jt_i hJ (fun x111 hJ => ?_)
    refine lv_aload_n hx hb dX10_carries_112 rfl (lv_at hl 0 rfl) ?_
    refine va_get (ci := 8) (v := .ref q_t_told) (C := RX10) (T := TX10) (N := 24) hx hb hts hin_X10 hown hK hP 0 rfl rfl 19 (by decide) fl_50 (fun _ h9 => h9) rfl dX10_carries_113 ?_
    refine lv_iconst (v := (1 : Int32)) hx hb dX10_carries_116 (by decide) ?_
    obtain ⟨hin, hJ⟩ := chk_in hJ
    refine va_iald hx hb hK hP 4 0 rfl rfl hin dX10_carries_117 ?_
    refine jt_i hJ (fun x117 hJ => ?_)
    obtain ⟨x118, t_whys_118, t_answer_118, t_now_118, t_why_118, t_more_118, hc118, hJ⟩ := bnd6_some hJ
    refine jcV_i (C := RX10) (T := TX10) (N := 24) (ci := 8) (q0 := 0) (As := [.int x111, .int x117]) (rest := []) (isC := [0, 1, 5, 6]) (isR := [2, 3, 4]) (isB := [3, 4, 0, 1, 2, 5, 6]) (wr := [(q_t_finds, .inl (cI, 16, .inl t_finds)), (q_t_steps, .inl (cI, 16, .inl t_steps)), (q_t_told, .inl (cI, 3, .inl t_told))]) (ws2 := [(q_t, .inr (8, [.ref q_t_now, .ref q_t_tried, .ref q_t_thought, .ref q_t_kept, .int t_undos, .ref q_t_saved, .int t_isSaved, .ref q_t_finds, .ref q_t_reach, .ref q_t_steps, .ref q_t_glows, .ref q_t_lower, .ref q_t_upper, .ref q_t_line, .int t_lined, .ref q_t_text, .int t_length, .int t_at, .int t_order, .ref q_t_told, .ref q_t_why, .ref q_t_more, .int t_whys_118, .int t_answer_118])), (q_t_now, .inl (cI, 133, .inl t_now_118)), (q_t_finds, .inl (cI, 16, .inl t_finds)), (q_t_steps, .inl (cI, 16, .inl t_steps)), (q_t_told, .inl (cI, 3, .inl t_told)), (q_t_why, .inl (cI, 4, .inl t_why_118)), (q_t_more, .inl (cI, 4, .inl t_more_118))]) hF (c_X10_switches l D cI cJ cC cL q_t q_t_now q_t_tried q_t_thought q_t_kept q_t_saved q_t_finds q_t_reach q_t_steps q_t_glows q_t_lower q_t_upper q_t_line q_t_text q_t_told q_t_why q_t_more t_undos t_isSaved t_lined t_length t_at t_order t_whys t_answer t_now t_why t_more x111 x117 x118 t_whys_118 t_answer_118 t_now_118 t_why_118 t_more_118 hc118 s.heap.size) (cwV 2 hts gX10_carries_X10_switches rfl rfl rfl (by decide +kernel) ⟨Nat.le_of_ble_eq_true rfl, Nat.le_of_ble_eq_true rfl⟩) rfl hl rfl (Nat.le_of_ble_eq_true rfl) dX10_carries_118 ⟨Nat.zero_le _, Nat.zero_le _⟩ hK hN KX_T trivial hP hD hS hA rfl rfl rfl rfl rfl rfl (by decide) rfl rfl (fun H locs hP hD hS => ?_)
    have hJ := Option.some.inj hJ
    obtain ⟨e0, e1, e2, e3, e4, e5, e6, e7⟩ : (x118) = r ∧ (t_whys_118) = o_t_whys ∧ (t_answer_118) = o_t_answer ∧ (t_now_118) = o_t_now ∧ (t_finds) = o_t_finds ∧ (t_steps) = o_t_steps ∧ (t_why_118) = o_t_why ∧ (t_more_118) = o_t_more := ⟨congrArg (fun z => z.1) hJ, congrArg (fun z => z.2.1) hJ, congrArg (fun z => z.2.2.1) hJ, congrArg (fun z => z.2.2.2.1) hJ, congrArg (fun z => z.2.2.2.2.1) hJ, congrArg (fun z => z.2.2.2.2.2.1) hJ, congrArg (fun z => z.2.2.2.2.2.2.1) hJ, congrArg (fun z => z.2.2.2.2.2.2.2) hJ⟩
    exact hRet (by rw [← e1, ← e2, ← e3, ← e4, ← e5, ← e6, ← e7]; exact hP) (by rw [← e1, ← e2, ← e3, ← e4, ← e5, ← e6, ← e7]; exact hD) hS e0 dX10_carries_121
  have hJ := if_some_f hJ hsw
  have hs2 := jsw_ne hsw (k := 115) (by decide)
  clear hsw
  by_cases hsw : t_order = (119 : Int32)
  · have hJ := if_some_t hJ hsw
    refine lv_lookup (off := 61) (tgt := 65) hx hb dX10_carries_4 (by decide) (by rw [hsw]; decide) (by decide) ?_
    refine lv_aload_n hx hb dX10_carries_65 rfl (lv_at hl 0 rfl) ?_
    refine lv_aload_n hx hb dX10_carries_66 rfl (lv_at hl 0 rfl) ?_
    refine va_get (ci := 8) (v := .ref q_t_told) (C := RX10) (T := TX10) (N := 24) hx hb hts hin_X10 hown hK hP 0 rfl rfl 19 (by decide) fl_50 (fun _ h9 => h9) rfl dX10_carries_67 ?_
    refine lv_iconst (v := (0 : Int32)) hx hb dX10_carries_70 (by decide) ?_
    obtain ⟨hin, hJ⟩ := chk_in hJ
    refine va_iald hx hb hK hP 4 0 rfl rfl hin dX10_carries_71 ?_
    refine jt_i hJ (fun x71 hJ => ?_)
    refine lv_aload_n hx hb dX10_carries_72 rfl (lv_at hl 0 rfl) ?_
    refine va_get (ci := 8) (v := .ref q_t_told) (C := RX10) (T := TX10) (N := 24) hx hb hts hin_X10 hown hK hP 0 rfl rfl 19 (by decide) fl_50 (fun _ h9 => h9) rfl dX10_carries_73 ?_
    refine lv_iconst (v := (1 : Int32)) hx hb dX10_carries_76 (by decide) ?_
    obtain ⟨hin, hJ⟩ := chk_in hJ
    refine va_iald hx hb hK hP 4 0 rfl rfl hin dX10_carries_77 ?_
    refine jt_i hJ (fun x77 hJ => ?_)
    refine lv_aload_n hx hb dX10_carries_78 rfl (lv_at hl 0 rfl) ?_
    refine va_get (ci := 8) (v := .ref q_t_told) (C := RX10) (T := TX10) (N := 24) hx hb hts hin_X10 hown hK hP 0 rfl rfl 19 (by decide) fl_50 (fun _ h9 => h9) rfl dX10_carries_79 ?_
    refine lv_iconst (v := (2 : Int32)) hx hb dX10_carries_82 (by decide) ?_
    obtain ⟨hin, hJ⟩ := chk_in hJ
    refine va_iald hx hb hK hP 4 0 rfl rfl hin dX10_carries_83 ?_
    refine jt_i hJ (fun x83 hJ => ?_)
    obtain ⟨x84, t_whys_84, t_answer_84, t_now_84, t_steps_84, t_why_84, t_more_84, hc84, hJ⟩ := bnd7_some hJ
    refine jcV_i (C := RX10) (T := TX10) (N := 24) (ci := 8) (q0 := 0) (As := [.int x71, .int x77, .int x83]) (rest := []) (isC := [0, 1, 3, 5, 6]) (isR := [2, 4]) (isB := [2, 3, 0, 4, 1, 5, 6]) (wr := [(q_t_finds, .inl (cI, 16, .inl t_finds)), (q_t_told, .inl (cI, 3, .inl t_told))]) (ws2 := [(q_t, .inr (8, [.ref q_t_now, .ref q_t_tried, .ref q_t_thought, .ref q_t_kept, .int t_undos, .ref q_t_saved, .int t_isSaved, .ref q_t_finds, .ref q_t_reach, .ref q_t_steps, .ref q_t_glows, .ref q_t_lower, .ref q_t_upper, .ref q_t_line, .int t_lined, .ref q_t_text, .int t_length, .int t_at, .int t_order, .ref q_t_told, .ref q_t_why, .ref q_t_more, .int t_whys_84, .int t_answer_84])), (q_t_now, .inl (cI, 133, .inl t_now_84)), (q_t_finds, .inl (cI, 16, .inl t_finds)), (q_t_steps, .inl (cI, 16, .inl t_steps_84)), (q_t_told, .inl (cI, 3, .inl t_told)), (q_t_why, .inl (cI, 4, .inl t_why_84)), (q_t_more, .inl (cI, 4, .inl t_more_84))]) hF (c_X10_wires l D cI cJ cC cL q_t q_t_now q_t_tried q_t_thought q_t_kept q_t_saved q_t_finds q_t_reach q_t_steps q_t_glows q_t_lower q_t_upper q_t_line q_t_text q_t_told q_t_why q_t_more t_undos t_isSaved t_lined t_length t_at t_order t_whys t_answer t_now t_steps t_why t_more x71 x77 x83 x84 t_whys_84 t_answer_84 t_now_84 t_steps_84 t_why_84 t_more_84 hc84 s.heap.size) (cwV 3 hts gX10_carries_X10_wires rfl rfl rfl (by decide +kernel) ⟨Nat.le_of_ble_eq_true rfl, Nat.le_of_ble_eq_true rfl⟩) rfl hl rfl (Nat.le_of_ble_eq_true rfl) dX10_carries_84 ⟨Nat.zero_le _, Nat.zero_le _⟩ hK hN KX_T trivial hP hD hS hA rfl rfl rfl rfl rfl rfl (by decide) rfl rfl (fun H locs hP hD hS => ?_)
    have hJ := Option.some.inj hJ
    obtain ⟨e0, e1, e2, e3, e4, e5, e6, e7⟩ : (x84) = r ∧ (t_whys_84) = o_t_whys ∧ (t_answer_84) = o_t_answer ∧ (t_now_84) = o_t_now ∧ (t_finds) = o_t_finds ∧ (t_steps_84) = o_t_steps ∧ (t_why_84) = o_t_why ∧ (t_more_84) = o_t_more := ⟨congrArg (fun z => z.1) hJ, congrArg (fun z => z.2.1) hJ, congrArg (fun z => z.2.2.1) hJ, congrArg (fun z => z.2.2.2.1) hJ, congrArg (fun z => z.2.2.2.2.1) hJ, congrArg (fun z => z.2.2.2.2.2.1) hJ, congrArg (fun z => z.2.2.2.2.2.2.1) hJ, congrArg (fun z => z.2.2.2.2.2.2.2) hJ⟩
    exact hRet (by rw [← e1, ← e2, ← e3, ← e4, ← e5, ← e6, ← e7]; exact hP) (by rw [← e1, ← e2, ← e3, ← e4, ← e5, ← e6, ← e7]; exact hD) hS e0 dX10_carries_87
  have hJ := if_some_f hJ hsw
  have hs3 := jsw_ne hsw (k := 119) (by decide)
  clear hsw
  refine lv_lookup (off := 118) (tgt := 122) hx hb dX10_carries_4 (by decide) (by simp [Op.lookupswitch.offset, hs0, Ne.symm hs0, hs1, Ne.symm hs1, hs2, Ne.symm hs2, hs3, Ne.symm hs3]) (by decide) ?_
  refine lv_aload_n hx hb dX10_carries_122 rfl (lv_at hl 0 rfl) ?_
  refine lv_aload_n hx hb dX10_carries_123 rfl (lv_at hl 0 rfl) ?_
  refine va_get (ci := 8) (v := .ref q_t_told) (C := RX10) (T := TX10) (N := 24) hx hb hts hin_X10 hown hK hP 0 rfl rfl 19 (by decide) fl_50 (fun _ h9 => h9) rfl dX10_carries_124 ?_
  refine lv_iconst (v := (0 : Int32)) hx hb dX10_carries_127 (by decide) ?_
  obtain ⟨hin, hJ⟩ := chk_in hJ
  refine va_iald hx hb hK hP 4 0 rfl rfl hin dX10_carries_128 ?_
  refine jt_i hJ (fun x128 hJ => ?_)
  obtain ⟨x129, t_answer_129, t_now_129, t_finds_129, hc129, hJ⟩ := bnd4_some hJ
  refine jcV_i (C := RX10) (T := TX10) (N := 24) (ci := 8) (q0 := 0) (As := [.int x128]) (rest := []) (isC := [0, 1, 2]) (isR := [3, 4, 5, 6]) (isB := [4, 5, 6, 0, 1, 2, 3]) (wr := [(q_t_steps, .inl (cI, 16, .inl t_steps)), (q_t_told, .inl (cI, 3, .inl t_told)), (q_t_why, .inl (cI, 4, .inl t_why)), (q_t_more, .inl (cI, 4, .inl t_more))]) (ws2 := [(q_t, .inr (8, [.ref q_t_now, .ref q_t_tried, .ref q_t_thought, .ref q_t_kept, .int t_undos, .ref q_t_saved, .int t_isSaved, .ref q_t_finds, .ref q_t_reach, .ref q_t_steps, .ref q_t_glows, .ref q_t_lower, .ref q_t_upper, .ref q_t_line, .int t_lined, .ref q_t_text, .int t_length, .int t_at, .int t_order, .ref q_t_told, .ref q_t_why, .ref q_t_more, .int t_whys, .int t_answer_129])), (q_t_now, .inl (cI, 133, .inl t_now_129)), (q_t_finds, .inl (cI, 16, .inl t_finds_129)), (q_t_steps, .inl (cI, 16, .inl t_steps)), (q_t_told, .inl (cI, 3, .inl t_told)), (q_t_why, .inl (cI, 4, .inl t_why)), (q_t_more, .inl (cI, 4, .inl t_more))]) hF (c_X10_ticks l D cI cJ cC cL q_t q_t_now q_t_tried q_t_thought q_t_kept q_t_saved q_t_finds q_t_reach q_t_steps q_t_glows q_t_lower q_t_upper q_t_line q_t_text q_t_told q_t_why q_t_more t_undos t_isSaved t_lined t_length t_at t_order t_whys t_answer t_now t_finds x128 x129 t_answer_129 t_now_129 t_finds_129 hc129 s.heap.size) (cwV 1 hts gX10_carries_X10_ticks rfl rfl rfl (by decide +kernel) ⟨Nat.le_of_ble_eq_true rfl, Nat.le_of_ble_eq_true rfl⟩) rfl hl rfl (Nat.le_of_ble_eq_true rfl) dX10_carries_129 ⟨Nat.zero_le _, Nat.zero_le _⟩ hK hN KX_T trivial hP hD hS hA rfl rfl rfl rfl rfl rfl (by decide) rfl rfl (fun H locs hP hD hS => ?_)
  have hJ := Option.some.inj hJ
  obtain ⟨e0, e1, e2, e3, e4, e5, e6, e7⟩ : (x129) = r ∧ (t_whys) = o_t_whys ∧ (t_answer_129) = o_t_answer ∧ (t_now_129) = o_t_now ∧ (t_finds_129) = o_t_finds ∧ (t_steps) = o_t_steps ∧ (t_why) = o_t_why ∧ (t_more) = o_t_more := ⟨congrArg (fun z => z.1) hJ, congrArg (fun z => z.2.1) hJ, congrArg (fun z => z.2.2.1) hJ, congrArg (fun z => z.2.2.2.1) hJ, congrArg (fun z => z.2.2.2.2.1) hJ, congrArg (fun z => z.2.2.2.2.2.1) hJ, congrArg (fun z => z.2.2.2.2.2.2.1) hJ, congrArg (fun z => z.2.2.2.2.2.2.2) hJ⟩
  exact hRet (by rw [← e1, ← e2, ← e3, ← e4, ← e5, ← e6, ← e7]; exact hP) (by rw [← e1, ← e2, ← e3, ← e4, ← e5, ← e6, ← e7]; exact hD) hS e0 dX10_carries_132

def J_X10_stops_b101 (v1 : Int32) (v2 : Int32) (t_whys : Int32) (t_why : Nat → Int32) (t_more : Nat → Int32) (s101_0 : Int32) : Option (Int32 × Int32 × (Nat → Int32) × (Nat → Int32)) :=
    some (s101_0, t_whys, t_why, t_more)
def J_X10_stops_L18 (v1 : Int32) (v2 : Int32) : Nat → Int32 → (Nat → Int32) → (Nat → Int32) → Int32 → Int32 → Option (Int32 × Int32 × (Nat → Int32) × (Nat → Int32))
  | 0, _, _, _, _, _ => none
  | nf + 1, t_whys, t_why, t_more, v3, v4 =>
    if v4 ≤ 0 then (
    chk (0 : Int32) 4 (
    chk (0 : Int32) 4 (
    nm (v3 + (1 : Int32)) fun x79 =>
    if v2 = (-14 : Int32) then (
    J_X10_stops_b101 v1 v2 x79 (upd t_why (0 : Int32).toNatClampNeg (10 : Int32)) (upd t_more (0 : Int32).toNatClampNeg v1) (-14 : Int32))
    else (
    bnd4 (J_X10_behind x79 (upd t_why (0 : Int32).toNatClampNeg (10 : Int32)) (upd t_more (0 : Int32).toNatClampNeg v1) (13 : Int32) v2) fun x98 t_whys_98 t_why_98 t_more_98 =>
    J_X10_stops_b101 v1 v2 t_whys_98 t_why_98 t_more_98 x98))))
    else (
    nm (v4 - (1 : Int32)) fun x36 =>
    chk x36 4 (
    nm (t_why x36.toNatClampNeg) fun x37 =>
    chk v4 4 (
    nm (v4 - (1 : Int32)) fun x52 =>
    chk x52 4 (
    nm (t_more x52.toNatClampNeg) fun x53 =>
    chk v4 4 (
    nm (v4 + Int32.ofInt (-1)) fun x55 =>
    J_X10_stops_L18 v1 v2 nf t_whys (upd t_why v4.toNatClampNeg x37) (upd t_more v4.toNatClampNeg x53) v3 x55)))))
def J_X10_stops_b14 (v1 : Int32) (v2 : Int32) (t_whys : Int32) (t_why : Nat → Int32) (t_more : Nat → Int32) (s14_0 : Int32) : Option (Int32 × Int32 × (Nat → Int32) × (Nat → Int32)) :=
    J_X10_stops_L18 v1 v2 FU t_whys t_why t_more s14_0 s14_0
def J_X10_stops (t_whys : Int32) (t_why : Nat → Int32) (t_more : Nat → Int32) (v1 : Int32) (v2 : Int32) : Option (Int32 × Int32 × (Nat → Int32) × (Nat → Int32)) :=
    if v2 = (-14 : Int32) then (
    J_X10_stops_b14 v1 v2 t_whys t_why t_more t_whys)
    else (
    J_X10_stops_b14 v1 v2 t_whys t_why t_more (0 : Int32))
abbrev rmX10_stops : Room := { frames := 1, cells := 0, slots := 0, locals := 22 }
set_option maxHeartbeats 4000000 in
set_option maxRecDepth 100000 in
theorem c_X10_stops (l : Launch) (D : va_G) (cI cJ cC cL : ClassId) (q_t q_t_now q_t_tried q_t_thought q_t_kept q_t_saved q_t_finds q_t_reach q_t_steps q_t_glows q_t_lower q_t_upper q_t_line q_t_text q_t_told q_t_why q_t_more : Nat) (t_undos : Int32) (t_isSaved : Int32) (t_lined : Int32) (t_length : Int32) (t_at : Int32) (t_order : Int32) (t_whys : Int32) (t_answer : Int32) (t_why : Nat → Int32) (t_more : Nat → Int32) (v1 : Int32) (v2 : Int32) (r : Int32) (o_t_whys : Int32) (o_t_why : Nat → Int32) (o_t_more : Nat → Int32) (hJ : J_X10_stops t_whys t_why t_more v1 v2 = some (r, o_t_whys, o_t_why, o_t_more)) (sz : Nat) : Met l yX10_stops wsX10_stops rmX10_stops (va_Pc [.ref q_t, .int v1, .int v2] (jpre XT D (tyL cI cJ cC cL) [(q_t, .inr (8, [.ref q_t_now, .ref q_t_tried, .ref q_t_thought, .ref q_t_kept, .int t_undos, .ref q_t_saved, .int t_isSaved, .ref q_t_finds, .ref q_t_reach, .ref q_t_steps, .ref q_t_glows, .ref q_t_lower, .ref q_t_upper, .ref q_t_line, .int t_lined, .ref q_t_text, .int t_length, .int t_at, .int t_order, .ref q_t_told, .ref q_t_why, .ref q_t_more, .int t_whys, .int t_answer])), (q_t_why, .inl (cI, 4, .inl t_why)), (q_t_more, .inl (cI, 4, .inl t_more))] sz)) (va_Qi (fun r' (_ : Unit) => r' = r) (fun _ t => jpost D (tyL cI cJ cC cL) (va_A [(q_t, .inr (8, [.ref q_t_now, .ref q_t_tried, .ref q_t_thought, .ref q_t_kept, .int t_undos, .ref q_t_saved, .int t_isSaved, .ref q_t_finds, .ref q_t_reach, .ref q_t_steps, .ref q_t_glows, .ref q_t_lower, .ref q_t_upper, .ref q_t_line, .int t_lined, .ref q_t_text, .int t_length, .int t_at, .int t_order, .ref q_t_told, .ref q_t_why, .ref q_t_more, .int t_whys, .int t_answer])), (q_t_why, .inl (cI, 4, .inl t_why)), (q_t_more, .inl (cI, 4, .inl t_more))] sz) [(q_t, .inr (8, [.ref q_t_now, .ref q_t_tried, .ref q_t_thought, .ref q_t_kept, .int t_undos, .ref q_t_saved, .int t_isSaved, .ref q_t_finds, .ref q_t_reach, .ref q_t_steps, .ref q_t_glows, .ref q_t_lower, .ref q_t_upper, .ref q_t_line, .int t_lined, .ref q_t_text, .int t_length, .int t_at, .int t_order, .ref q_t_told, .ref q_t_why, .ref q_t_more, .int o_t_whys, .int t_answer])), (q_t_why, .inl (cI, 4, .inl o_t_why)), (q_t_more, .inl (cI, 4, .inl o_t_more))] t) (va_A [(q_t, .inr (8, [.ref q_t_now, .ref q_t_tried, .ref q_t_thought, .ref q_t_kept, .int t_undos, .ref q_t_saved, .int t_isSaved, .ref q_t_finds, .ref q_t_reach, .ref q_t_steps, .ref q_t_glows, .ref q_t_lower, .ref q_t_upper, .ref q_t_line, .int t_lined, .ref q_t_text, .int t_length, .int t_at, .int t_order, .ref q_t_told, .ref q_t_why, .ref q_t_more, .int t_whys, .int t_answer])), (q_t_why, .inl (cI, 4, .inl t_why)), (q_t_more, .inl (cI, 4, .inl t_more))] sz)) 0 0 (va_A [(q_t, .inr (8, [.ref q_t_now, .ref q_t_tried, .ref q_t_thought, .ref q_t_kept, .int t_undos, .ref q_t_saved, .int t_isSaved, .ref q_t_finds, .ref q_t_reach, .ref q_t_steps, .ref q_t_glows, .ref q_t_lower, .ref q_t_upper, .ref q_t_line, .int t_lined, .ref q_t_text, .int t_length, .int t_at, .int t_order, .ref q_t_told, .ref q_t_why, .ref q_t_more, .int t_whys, .int t_answer])), (q_t_why, .inl (cI, 4, .inl t_why)), (q_t_more, .inl (cI, 4, .inl t_more))] sz) := by
  refine jE_i (cc := cX10_stops) (maxL := 5) (own := RX10) (ret := (some .int)) (lv0 := [(0, .ref q_t), (1, .int v1), (2, .int v2)]) (by decide) rfl rfl rfl (Nat.le_of_ble_eq_true rfl) rfl ?_
  intro p e s m args below meth c A Q ls hx hb hml hown hts hK hN hX hA hP hD hS hl hRet
  have hF : CallFix p m c cX10_stops 5 s args wsX10_stops RX10 := ⟨hx, hb, hml, hown, hts⟩
  have fl_53 := hts (.fieldLink RX10 53 "LanternLogicModel" "why" "[I") (by decide +kernel)
  have fl_56 := hts (.fieldLink RX10 56 "LanternLogicModel" "more" "[I") (by decide +kernel)
  have fl_63 := hts (.fieldLink RX10 63 "LanternLogicModel" "whys" "I") (by decide +kernel)
  have hin_X10 : ∀ w ∈ u_ws RX10 TX10 24, w ∈ wsX10_stops := by decide +kernel
  have B101 : ∀ (t_whys : Int32) (t_why : Nat → Int32) (t_more : Nat → Int32) (s101_0 : Int32) (H : Heap) (locs : List Loc), va_P D vwCl [(q_t, .inr (8, [.ref q_t_now, .ref q_t_tried, .ref q_t_thought, .ref q_t_kept, .int t_undos, .ref q_t_saved, .int t_isSaved, .ref q_t_finds, .ref q_t_reach, .ref q_t_steps, .ref q_t_glows, .ref q_t_lower, .ref q_t_upper, .ref q_t_line, .int t_lined, .ref q_t_text, .int t_length, .int t_at, .int t_order, .ref q_t_told, .ref q_t_why, .ref q_t_more, .int t_whys, .int t_answer])), (q_t_why, .inl (cI, 4, .inl t_why)), (q_t_more, .inl (cI, 4, .inl t_more))] H → va_D A [(q_t, .inr (8, [.ref q_t_now, .ref q_t_tried, .ref q_t_thought, .ref q_t_kept, .int t_undos, .ref q_t_saved, .int t_isSaved, .ref q_t_finds, .ref q_t_reach, .ref q_t_steps, .ref q_t_glows, .ref q_t_lower, .ref q_t_upper, .ref q_t_line, .int t_lined, .ref q_t_text, .int t_length, .int t_at, .int t_order, .ref q_t_told, .ref q_t_why, .ref q_t_more, .int t_whys, .int t_answer])), (q_t_why, .inl (cI, 4, .inl t_why)), (q_t_more, .inl (cI, 4, .inl t_more))] → va_S A s.heap H locs → ∀ ls : Array Slot, lv_has ls 5 [] → J_X10_stops_b101  v1 v2 t_whys t_why t_more s101_0 = some (r, o_t_whys, o_t_why, o_t_more) → W p l e rmX10_stops s m args below meth c H locs 0 0 Q (F0 m 101 ls [.int s101_0]) := by
    intro t_whys t_why t_more s101_0 H locs hP hD hS ls hl hJ
    unfold J_X10_stops_b101 at hJ
    have hJ := Option.some.inj hJ
    obtain ⟨e0, e1, e2, e3⟩ : (s101_0) = r ∧ (t_whys) = o_t_whys ∧ (t_why) = o_t_why ∧ (t_more) = o_t_more := ⟨congrArg (fun z => z.1) hJ, congrArg (fun z => z.2.1) hJ, congrArg (fun z => z.2.2.1) hJ, congrArg (fun z => z.2.2.2) hJ⟩
    exact hRet (by rw [← e1, ← e2, ← e3]; exact hP) (by rw [← e1, ← e2, ← e3]; exact hD) hS e0 dX10_stops_101
  have L18 : ∀ (nf : Nat), ∀ (t_whys : Int32) (t_why : Nat → Int32) (t_more : Nat → Int32) (v3 : Int32) (v4 : Int32) (H : Heap) (locs : List Loc), va_P D vwCl [(q_t, .inr (8, [.ref q_t_now, .ref q_t_tried, .ref q_t_thought, .ref q_t_kept, .int t_undos, .ref q_t_saved, .int t_isSaved, .ref q_t_finds, .ref q_t_reach, .ref q_t_steps, .ref q_t_glows, .ref q_t_lower, .ref q_t_upper, .ref q_t_line, .int t_lined, .ref q_t_text, .int t_length, .int t_at, .int t_order, .ref q_t_told, .ref q_t_why, .ref q_t_more, .int t_whys, .int t_answer])), (q_t_why, .inl (cI, 4, .inl t_why)), (q_t_more, .inl (cI, 4, .inl t_more))] H → va_D A [(q_t, .inr (8, [.ref q_t_now, .ref q_t_tried, .ref q_t_thought, .ref q_t_kept, .int t_undos, .ref q_t_saved, .int t_isSaved, .ref q_t_finds, .ref q_t_reach, .ref q_t_steps, .ref q_t_glows, .ref q_t_lower, .ref q_t_upper, .ref q_t_line, .int t_lined, .ref q_t_text, .int t_length, .int t_at, .int t_order, .ref q_t_told, .ref q_t_why, .ref q_t_more, .int t_whys, .int t_answer])), (q_t_why, .inl (cI, 4, .inl t_why)), (q_t_more, .inl (cI, 4, .inl t_more))] → va_S A s.heap H locs → ∀ ls : Array Slot, lv_has ls 5 [(0, .ref q_t), (1, .int v1), (2, .int v2), (3, .int v3), (4, .int v4)] → J_X10_stops_L18  v1 v2 nf t_whys t_why t_more v3 v4 = some (r, o_t_whys, o_t_why, o_t_more) → W p l e rmX10_stops s m args below meth c H locs 0 0 Q (F0 m 18 ls []) := by
    intro nf
    induction nf with
    | zero =>
      intro t_whys t_why t_more v3 v4 H locs hP hD hS ls hl hJ
      rw [J_X10_stops_L18] at hJ
      cases hJ
    | succ nf ih =>
      intro t_whys t_why t_more v3 v4 H locs hP hD hS ls hl hJ
      rw [J_X10_stops_L18] at hJ
      refine lv_iload hx hb dX10_stops_18 (lv_at hl 4 rfl) ?_
      refine jif_le (tgt := 61) hx hb dX10_stops_20 (by decide) hJ (fun hJ => ?_) (fun hJ => ?_)
      · refine lv_aload_n hx hb dX10_stops_61 rfl (lv_at hl 0 rfl) ?_
        refine va_get (ci := 8) (v := .ref q_t_why) (C := RX10) (T := TX10) (N := 24) hx hb hts hin_X10 hown hK hP 0 rfl rfl 20 (by decide) fl_53 (fun _ h9 => h9) rfl dX10_stops_62 ?_
        refine lv_iconst (v := (0 : Int32)) hx hb dX10_stops_65 (by decide) ?_
        refine lv_bipush (v := (10 : Int32)) hx hb dX10_stops_66 (by decide) ?_
        obtain ⟨hin, hJ⟩ := chk_in hJ
        refine va_iast hx hb hK hP hD hS 1 0 rfl rfl hin dX10_stops_68 (fun H locs hP hD hS => ?_)
        have hP : va_P D vwCl [(q_t, .inr (8, [.ref q_t_now, .ref q_t_tried, .ref q_t_thought, .ref q_t_kept, .int t_undos, .ref q_t_saved, .int t_isSaved, .ref q_t_finds, .ref q_t_reach, .ref q_t_steps, .ref q_t_glows, .ref q_t_lower, .ref q_t_upper, .ref q_t_line, .int t_lined, .ref q_t_text, .int t_length, .int t_at, .int t_order, .ref q_t_told, .ref q_t_why, .ref q_t_more, .int t_whys, .int t_answer])), (q_t_why, .inl (cI, 4, .inl (upd t_why (0 : Int32).toNatClampNeg (10 : Int32)))), (q_t_more, .inl (cI, 4, .inl t_more))] H := hP
        have hD : va_D A [(q_t, .inr (8, [.ref q_t_now, .ref q_t_tried, .ref q_t_thought, .ref q_t_kept, .int t_undos, .ref q_t_saved, .int t_isSaved, .ref q_t_finds, .ref q_t_reach, .ref q_t_steps, .ref q_t_glows, .ref q_t_lower, .ref q_t_upper, .ref q_t_line, .int t_lined, .ref q_t_text, .int t_length, .int t_at, .int t_order, .ref q_t_told, .ref q_t_why, .ref q_t_more, .int t_whys, .int t_answer])), (q_t_why, .inl (cI, 4, .inl (upd t_why (0 : Int32).toNatClampNeg (10 : Int32)))), (q_t_more, .inl (cI, 4, .inl t_more))] := hD
        refine lv_aload_n hx hb dX10_stops_69 rfl (lv_at hl 0 rfl) ?_
        refine va_get (ci := 8) (v := .ref q_t_more) (C := RX10) (T := TX10) (N := 24) hx hb hts hin_X10 hown hK hP 0 rfl rfl 21 (by decide) fl_56 (fun _ h9 => h9) rfl dX10_stops_70 ?_
        refine lv_iconst (v := (0 : Int32)) hx hb dX10_stops_73 (by decide) ?_
        refine lv_iload_n hx hb dX10_stops_74 rfl (lv_at hl 1 rfl) ?_
        obtain ⟨hin, hJ⟩ := chk_in hJ
        refine va_iast hx hb hK hP hD hS 2 0 rfl rfl hin dX10_stops_75 (fun H locs hP hD hS => ?_)
        have hP : va_P D vwCl [(q_t, .inr (8, [.ref q_t_now, .ref q_t_tried, .ref q_t_thought, .ref q_t_kept, .int t_undos, .ref q_t_saved, .int t_isSaved, .ref q_t_finds, .ref q_t_reach, .ref q_t_steps, .ref q_t_glows, .ref q_t_lower, .ref q_t_upper, .ref q_t_line, .int t_lined, .ref q_t_text, .int t_length, .int t_at, .int t_order, .ref q_t_told, .ref q_t_why, .ref q_t_more, .int t_whys, .int t_answer])), (q_t_why, .inl (cI, 4, .inl (upd t_why (0 : Int32).toNatClampNeg (10 : Int32)))), (q_t_more, .inl (cI, 4, .inl (upd t_more (0 : Int32).toNatClampNeg v1)))] H := hP
        have hD : va_D A [(q_t, .inr (8, [.ref q_t_now, .ref q_t_tried, .ref q_t_thought, .ref q_t_kept, .int t_undos, .ref q_t_saved, .int t_isSaved, .ref q_t_finds, .ref q_t_reach, .ref q_t_steps, .ref q_t_glows, .ref q_t_lower, .ref q_t_upper, .ref q_t_line, .int t_lined, .ref q_t_text, .int t_length, .int t_at, .int t_order, .ref q_t_told, .ref q_t_why, .ref q_t_more, .int t_whys, .int t_answer])), (q_t_why, .inl (cI, 4, .inl (upd t_why (0 : Int32).toNatClampNeg (10 : Int32)))), (q_t_more, .inl (cI, 4, .inl (upd t_more (0 : Int32).toNatClampNeg v1)))] := hD
        refine lv_aload_n hx hb dX10_stops_76 rfl (lv_at hl 0 rfl) ?_
        refine lv_iload_n hx hb dX10_stops_77 rfl (lv_at hl 3 rfl) ?_
        refine lv_iconst (v := (1 : Int32)) hx hb dX10_stops_78 (by decide) ?_
        refine lv_iadd hx hb dX10_stops_79 ?_
        refine jt_i hJ (fun x79 hJ => ?_)
        refine va_put (ci := 8) (v := .int x79) (ty := .int) (C := RX10) (T := TX10) (N := 24) hx hb hts hin_X10 tyX10 tyX10_ok nmX10 hown hK hP hD hS 0 rfl rfl 22 (by decide) fl_63 (fun _ h9 => h9) rfl (by decide +kernel) rfl rfl (Nat.le_of_ble_eq_true rfl) dX10_stops_80 (fun H locs hP hD hS => ?_)
        have hP : va_P D vwCl [(q_t, .inr (8, [.ref q_t_now, .ref q_t_tried, .ref q_t_thought, .ref q_t_kept, .int t_undos, .ref q_t_saved, .int t_isSaved, .ref q_t_finds, .ref q_t_reach, .ref q_t_steps, .ref q_t_glows, .ref q_t_lower, .ref q_t_upper, .ref q_t_line, .int t_lined, .ref q_t_text, .int t_length, .int t_at, .int t_order, .ref q_t_told, .ref q_t_why, .ref q_t_more, .int x79, .int t_answer])), (q_t_why, .inl (cI, 4, .inl (upd t_why (0 : Int32).toNatClampNeg (10 : Int32)))), (q_t_more, .inl (cI, 4, .inl (upd t_more (0 : Int32).toNatClampNeg v1)))] H := hP
        have hD : va_D A [(q_t, .inr (8, [.ref q_t_now, .ref q_t_tried, .ref q_t_thought, .ref q_t_kept, .int t_undos, .ref q_t_saved, .int t_isSaved, .ref q_t_finds, .ref q_t_reach, .ref q_t_steps, .ref q_t_glows, .ref q_t_lower, .ref q_t_upper, .ref q_t_line, .int t_lined, .ref q_t_text, .int t_length, .int t_at, .int t_order, .ref q_t_told, .ref q_t_why, .ref q_t_more, .int x79, .int t_answer])), (q_t_why, .inl (cI, 4, .inl (upd t_why (0 : Int32).toNatClampNeg (10 : Int32)))), (q_t_more, .inl (cI, 4, .inl (upd t_more (0 : Int32).toNatClampNeg v1)))] := hD
        refine lv_iload_n hx hb dX10_stops_83 rfl (lv_at hl 2 rfl) ?_
        refine lv_bipush (v := (-14 : Int32)) hx hb dX10_stops_84 (by decide) ?_
        refine jif_icmp_ne (tgt := 94) hx hb dX10_stops_86 (by decide) hJ (fun hJ => ?_) (fun hJ => ?_)
        · refine lv_aload_n hx hb dX10_stops_94 rfl (lv_at hl 0 rfl) ?_
          refine lv_bipush (v := (13 : Int32)) hx hb dX10_stops_95 (by decide) ?_
          refine lv_iload_n hx hb dX10_stops_97 rfl (lv_at hl 2 rfl) ?_
          obtain ⟨x98, t_whys_98, t_why_98, t_more_98, hc98, hJ⟩ := bnd4_some hJ
          refine jcV_i (C := RX10) (T := TX10) (N := 24) (ci := 8) (q0 := 0) (As := [.int (13 : Int32), .int v2]) (rest := []) (isC := [0, 1, 2]) (isR := []) (isB := [0, 1, 2]) (wr := []) (ws2 := [(q_t, .inr (8, [.ref q_t_now, .ref q_t_tried, .ref q_t_thought, .ref q_t_kept, .int t_undos, .ref q_t_saved, .int t_isSaved, .ref q_t_finds, .ref q_t_reach, .ref q_t_steps, .ref q_t_glows, .ref q_t_lower, .ref q_t_upper, .ref q_t_line, .int t_lined, .ref q_t_text, .int t_length, .int t_at, .int t_order, .ref q_t_told, .ref q_t_why, .ref q_t_more, .int t_whys_98, .int t_answer])), (q_t_why, .inl (cI, 4, .inl t_why_98)), (q_t_more, .inl (cI, 4, .inl t_more_98))]) hF (c_X10_behind l D cI cJ cC cL q_t q_t_now q_t_tried q_t_thought q_t_kept q_t_saved q_t_finds q_t_reach q_t_steps q_t_glows q_t_lower q_t_upper q_t_line q_t_text q_t_told q_t_why q_t_more t_undos t_isSaved t_lined t_length t_at t_order x79 t_answer (upd t_why (0 : Int32).toNatClampNeg (10 : Int32)) (upd t_more (0 : Int32).toNatClampNeg v1) (13 : Int32) v2 x98 t_whys_98 t_why_98 t_more_98 hc98 H.size) (cwV 2 hts gX10_stops_X10_behind rfl rfl rfl (by decide +kernel) ⟨Nat.le_of_ble_eq_true rfl, Nat.le_of_ble_eq_true rfl⟩) rfl hl rfl (Nat.le_of_ble_eq_true rfl) dX10_stops_98 ⟨Nat.zero_le _, Nat.zero_le _⟩ hK hN KX_T trivial hP hD hS hA rfl rfl rfl rfl rfl rfl (by decide) rfl rfl (fun H locs hP hD hS => ?_)
          exact B101  t_whys_98 t_why_98 t_more_98 x98  H locs  hP hD hS _ (lv_sub hl [] rfl) hJ
        · refine lv_bipush (v := (-14 : Int32)) hx hb dX10_stops_89 (by decide) ?_
          refine lv_goto (tgt := 101) hx hb dX10_stops_91 (by decide) ?_
          exact B101  x79 (upd t_why (0 : Int32).toNatClampNeg (10 : Int32)) (upd t_more (0 : Int32).toNatClampNeg v1) (-14 : Int32)  H locs  hP hD hS _ (lv_sub hl [] rfl) hJ
      · refine lv_aload_n hx hb dX10_stops_23 rfl (lv_at hl 0 rfl) ?_
        refine va_get (ci := 8) (v := .ref q_t_why) (C := RX10) (T := TX10) (N := 24) hx hb hts hin_X10 hown hK hP 0 rfl rfl 20 (by decide) fl_53 (fun _ h9 => h9) rfl dX10_stops_24 ?_
        refine lv_iload hx hb dX10_stops_27 (lv_at hl 4 rfl) ?_
        refine lv_aload_n hx hb dX10_stops_29 rfl (lv_at hl 0 rfl) ?_
        refine va_get (ci := 8) (v := .ref q_t_why) (C := RX10) (T := TX10) (N := 24) hx hb hts hin_X10 hown hK hP 0 rfl rfl 20 (by decide) fl_53 (fun _ h9 => h9) rfl dX10_stops_30 ?_
        refine lv_iload hx hb dX10_stops_33 (lv_at hl 4 rfl) ?_
        refine lv_iconst (v := (1 : Int32)) hx hb dX10_stops_35 (by decide) ?_
        refine lv_isub hx hb dX10_stops_36 ?_
        refine jt_i hJ (fun x36 hJ => ?_)
        obtain ⟨hin, hJ⟩ := chk_in hJ
        refine va_iald hx hb hK hP 1 0 rfl rfl hin dX10_stops_37 ?_
        refine jt_i hJ (fun x37 hJ => ?_)
        obtain ⟨hin, hJ⟩ := chk_in hJ
        refine va_iast hx hb hK hP hD hS 1 0 rfl rfl hin dX10_stops_38 (fun H locs hP hD hS => ?_)
        have hP : va_P D vwCl [(q_t, .inr (8, [.ref q_t_now, .ref q_t_tried, .ref q_t_thought, .ref q_t_kept, .int t_undos, .ref q_t_saved, .int t_isSaved, .ref q_t_finds, .ref q_t_reach, .ref q_t_steps, .ref q_t_glows, .ref q_t_lower, .ref q_t_upper, .ref q_t_line, .int t_lined, .ref q_t_text, .int t_length, .int t_at, .int t_order, .ref q_t_told, .ref q_t_why, .ref q_t_more, .int t_whys, .int t_answer])), (q_t_why, .inl (cI, 4, .inl (upd t_why v4.toNatClampNeg x37))), (q_t_more, .inl (cI, 4, .inl t_more))] H := hP
        have hD : va_D A [(q_t, .inr (8, [.ref q_t_now, .ref q_t_tried, .ref q_t_thought, .ref q_t_kept, .int t_undos, .ref q_t_saved, .int t_isSaved, .ref q_t_finds, .ref q_t_reach, .ref q_t_steps, .ref q_t_glows, .ref q_t_lower, .ref q_t_upper, .ref q_t_line, .int t_lined, .ref q_t_text, .int t_length, .int t_at, .int t_order, .ref q_t_told, .ref q_t_why, .ref q_t_more, .int t_whys, .int t_answer])), (q_t_why, .inl (cI, 4, .inl (upd t_why v4.toNatClampNeg x37))), (q_t_more, .inl (cI, 4, .inl t_more))] := hD
        refine lv_aload_n hx hb dX10_stops_39 rfl (lv_at hl 0 rfl) ?_
        refine va_get (ci := 8) (v := .ref q_t_more) (C := RX10) (T := TX10) (N := 24) hx hb hts hin_X10 hown hK hP 0 rfl rfl 21 (by decide) fl_56 (fun _ h9 => h9) rfl dX10_stops_40 ?_
        refine lv_iload hx hb dX10_stops_43 (lv_at hl 4 rfl) ?_
        refine lv_aload_n hx hb dX10_stops_45 rfl (lv_at hl 0 rfl) ?_
        refine va_get (ci := 8) (v := .ref q_t_more) (C := RX10) (T := TX10) (N := 24) hx hb hts hin_X10 hown hK hP 0 rfl rfl 21 (by decide) fl_56 (fun _ h9 => h9) rfl dX10_stops_46 ?_
        refine lv_iload hx hb dX10_stops_49 (lv_at hl 4 rfl) ?_
        refine lv_iconst (v := (1 : Int32)) hx hb dX10_stops_51 (by decide) ?_
        refine lv_isub hx hb dX10_stops_52 ?_
        refine jt_i hJ (fun x52 hJ => ?_)
        obtain ⟨hin, hJ⟩ := chk_in hJ
        refine va_iald hx hb hK hP 2 0 rfl rfl hin dX10_stops_53 ?_
        refine jt_i hJ (fun x53 hJ => ?_)
        obtain ⟨hin, hJ⟩ := chk_in hJ
        refine va_iast hx hb hK hP hD hS 2 0 rfl rfl hin dX10_stops_54 (fun H locs hP hD hS => ?_)
        have hP : va_P D vwCl [(q_t, .inr (8, [.ref q_t_now, .ref q_t_tried, .ref q_t_thought, .ref q_t_kept, .int t_undos, .ref q_t_saved, .int t_isSaved, .ref q_t_finds, .ref q_t_reach, .ref q_t_steps, .ref q_t_glows, .ref q_t_lower, .ref q_t_upper, .ref q_t_line, .int t_lined, .ref q_t_text, .int t_length, .int t_at, .int t_order, .ref q_t_told, .ref q_t_why, .ref q_t_more, .int t_whys, .int t_answer])), (q_t_why, .inl (cI, 4, .inl (upd t_why v4.toNatClampNeg x37))), (q_t_more, .inl (cI, 4, .inl (upd t_more v4.toNatClampNeg x53)))] H := hP
        have hD : va_D A [(q_t, .inr (8, [.ref q_t_now, .ref q_t_tried, .ref q_t_thought, .ref q_t_kept, .int t_undos, .ref q_t_saved, .int t_isSaved, .ref q_t_finds, .ref q_t_reach, .ref q_t_steps, .ref q_t_glows, .ref q_t_lower, .ref q_t_upper, .ref q_t_line, .int t_lined, .ref q_t_text, .int t_length, .int t_at, .int t_order, .ref q_t_told, .ref q_t_why, .ref q_t_more, .int t_whys, .int t_answer])), (q_t_why, .inl (cI, 4, .inl (upd t_why v4.toNatClampNeg x37))), (q_t_more, .inl (cI, 4, .inl (upd t_more v4.toNatClampNeg x53)))] := hD
        refine jt_iinc hJ (fun x55 ex55 hJ => ?_)
        refine lv_iinc (v := x55) (lv' := [(4, .int x55), (0, .ref q_t), (1, .int v1), (2, .int v2), (3, .int v3)]) hx hb dX10_stops_55 hl (k := 4) rfl ex55 (by decide) rfl (fun ls hl => ?_)
        refine lv_goto (tgt := 18) hx hb dX10_stops_58 (by decide) ?_
        exact ih t_whys (upd t_why v4.toNatClampNeg x37) (upd t_more v4.toNatClampNeg x53) v3 x55  H locs  hP hD hS _ (lv_sub hl [1, 2, 3, 4, 0] rfl) hJ
  have B14 : ∀ (t_whys : Int32) (t_why : Nat → Int32) (t_more : Nat → Int32) (s14_0 : Int32) (H : Heap) (locs : List Loc), va_P D vwCl [(q_t, .inr (8, [.ref q_t_now, .ref q_t_tried, .ref q_t_thought, .ref q_t_kept, .int t_undos, .ref q_t_saved, .int t_isSaved, .ref q_t_finds, .ref q_t_reach, .ref q_t_steps, .ref q_t_glows, .ref q_t_lower, .ref q_t_upper, .ref q_t_line, .int t_lined, .ref q_t_text, .int t_length, .int t_at, .int t_order, .ref q_t_told, .ref q_t_why, .ref q_t_more, .int t_whys, .int t_answer])), (q_t_why, .inl (cI, 4, .inl t_why)), (q_t_more, .inl (cI, 4, .inl t_more))] H → va_D A [(q_t, .inr (8, [.ref q_t_now, .ref q_t_tried, .ref q_t_thought, .ref q_t_kept, .int t_undos, .ref q_t_saved, .int t_isSaved, .ref q_t_finds, .ref q_t_reach, .ref q_t_steps, .ref q_t_glows, .ref q_t_lower, .ref q_t_upper, .ref q_t_line, .int t_lined, .ref q_t_text, .int t_length, .int t_at, .int t_order, .ref q_t_told, .ref q_t_why, .ref q_t_more, .int t_whys, .int t_answer])), (q_t_why, .inl (cI, 4, .inl t_why)), (q_t_more, .inl (cI, 4, .inl t_more))] → va_S A s.heap H locs → ∀ ls : Array Slot, lv_has ls 5 [(0, .ref q_t), (1, .int v1), (2, .int v2)] → J_X10_stops_b14  v1 v2 t_whys t_why t_more s14_0 = some (r, o_t_whys, o_t_why, o_t_more) → W p l e rmX10_stops s m args below meth c H locs 0 0 Q (F0 m 14 ls [.int s14_0]) := by
    intro t_whys t_why t_more s14_0 H locs hP hD hS ls hl hJ
    unfold J_X10_stops_b14 at hJ
    refine lv_istore_n (lv' := [(3, .int s14_0), (0, .ref q_t), (1, .int v1), (2, .int v2)]) hx hb dX10_stops_14 rfl hl (by decide) rfl (fun ls hl => ?_)
    refine lv_iload_n hx hb dX10_stops_15 rfl (lv_at hl 0 rfl) ?_
    refine lv_istore (lv' := [(4, .int s14_0), (3, .int s14_0), (0, .ref q_t), (1, .int v1), (2, .int v2)]) hx hb dX10_stops_16 hl (by decide) rfl (fun ls hl => ?_)
    exact L18  FU t_whys t_why t_more s14_0 s14_0  H locs  hP hD hS _ (lv_sub hl [2, 3, 4, 1, 0] rfl) hJ
  unfold J_X10_stops at hJ
  refine lv_iload_n hx hb dX10_stops_0 rfl (lv_at hl 2 rfl) ?_
  refine lv_bipush (v := (-14 : Int32)) hx hb dX10_stops_1 (by decide) ?_
  refine jif_icmp_ne (tgt := 13) hx hb dX10_stops_3 (by decide) hJ (fun hJ => ?_) (fun hJ => ?_)
  · refine lv_iconst (v := (0 : Int32)) hx hb dX10_stops_13 (by decide) ?_
    exact B14  t_whys t_why t_more (0 : Int32)  s.heap []  hP hD hS _ (lv_sub hl [0, 1, 2] rfl) hJ
  · refine lv_aload_n hx hb dX10_stops_6 rfl (lv_at hl 0 rfl) ?_
    refine va_get (ci := 8) (v := .int t_whys) (C := RX10) (T := TX10) (N := 24) hx hb hts hin_X10 hown hK hP 0 rfl rfl 22 (by decide) fl_63 (fun _ h9 => h9) rfl dX10_stops_7 ?_
    refine lv_goto (tgt := 14) hx hb dX10_stops_10 (by decide) ?_
    exact B14  t_whys t_why t_more t_whys  s.heap []  hP hD hS _ (lv_sub hl [0, 1, 2] rfl) hJ

def J_X10_writesNumber_b29 (v1 : Int32) (t_lined : Int32) (t_line : Nat → Int32) : Option (Int32 × (Nat → Int32)) :=
    nm (t_lined + (1 : Int32)) fun x40 =>
    chn (10 : Int32) (
    nm ((48 : Int32) + (v1 - v1 / (10 : Int32) * (10 : Int32))) fun x50 =>
    chk t_lined 40 (
    some (x40, (upd t_line t_lined.toNatClampNeg x50))))
def J_X10_writesNumber (t_lined : Int32) (t_line : Nat → Int32) (v1 : Int32) : Option (Int32 × (Nat → Int32)) :=
    if v1 ≤ (9 : Int32) then (
    J_X10_writesNumber_b29 v1 t_lined t_line)
    else (
    nm (t_lined + (1 : Int32)) fun x17 =>
    chn (10 : Int32) (
    nm ((48 : Int32) + (v1 / (10 : Int32))) fun x27 =>
    chk t_lined 40 (
    J_X10_writesNumber_b29 v1 x17 (upd t_line t_lined.toNatClampNeg x27))))
abbrev rmX10_writesNumber : Room := { frames := 0, cells := 0, slots := 0, locals := 0 }
set_option maxHeartbeats 4000000 in
set_option maxRecDepth 100000 in
theorem c_X10_writesNumber (l : Launch) (D : va_G) (cI cJ cC cL : ClassId) (q_t q_t_now q_t_tried q_t_thought q_t_kept q_t_saved q_t_finds q_t_reach q_t_steps q_t_glows q_t_lower q_t_upper q_t_line q_t_text q_t_told q_t_why q_t_more : Nat) (t_undos : Int32) (t_isSaved : Int32) (t_lined : Int32) (t_length : Int32) (t_at : Int32) (t_order : Int32) (t_whys : Int32) (t_answer : Int32) (t_line : Nat → Int32) (v1 : Int32) (o_t_lined : Int32) (o_t_line : Nat → Int32) (hJ : J_X10_writesNumber t_lined t_line v1 = some (o_t_lined, o_t_line)) (sz : Nat) : Met l yX10_writesNumber wsX10_writesNumber rmX10_writesNumber (va_Pc [.ref q_t, .int v1] (jpre XT D (tyL cI cJ cC cL) [(q_t, .inr (8, [.ref q_t_now, .ref q_t_tried, .ref q_t_thought, .ref q_t_kept, .int t_undos, .ref q_t_saved, .int t_isSaved, .ref q_t_finds, .ref q_t_reach, .ref q_t_steps, .ref q_t_glows, .ref q_t_lower, .ref q_t_upper, .ref q_t_line, .int t_lined, .ref q_t_text, .int t_length, .int t_at, .int t_order, .ref q_t_told, .ref q_t_why, .ref q_t_more, .int t_whys, .int t_answer])), (q_t_line, .inl (cI, 40, .inl t_line))] sz)) (va_Qv (fun (_ : Unit) => True) (fun _ t => jpost D (tyL cI cJ cC cL) (va_A [(q_t, .inr (8, [.ref q_t_now, .ref q_t_tried, .ref q_t_thought, .ref q_t_kept, .int t_undos, .ref q_t_saved, .int t_isSaved, .ref q_t_finds, .ref q_t_reach, .ref q_t_steps, .ref q_t_glows, .ref q_t_lower, .ref q_t_upper, .ref q_t_line, .int t_lined, .ref q_t_text, .int t_length, .int t_at, .int t_order, .ref q_t_told, .ref q_t_why, .ref q_t_more, .int t_whys, .int t_answer])), (q_t_line, .inl (cI, 40, .inl t_line))] sz) [(q_t, .inr (8, [.ref q_t_now, .ref q_t_tried, .ref q_t_thought, .ref q_t_kept, .int t_undos, .ref q_t_saved, .int t_isSaved, .ref q_t_finds, .ref q_t_reach, .ref q_t_steps, .ref q_t_glows, .ref q_t_lower, .ref q_t_upper, .ref q_t_line, .int o_t_lined, .ref q_t_text, .int t_length, .int t_at, .int t_order, .ref q_t_told, .ref q_t_why, .ref q_t_more, .int t_whys, .int t_answer])), (q_t_line, .inl (cI, 40, .inl o_t_line))] t) (va_A [(q_t, .inr (8, [.ref q_t_now, .ref q_t_tried, .ref q_t_thought, .ref q_t_kept, .int t_undos, .ref q_t_saved, .int t_isSaved, .ref q_t_finds, .ref q_t_reach, .ref q_t_steps, .ref q_t_glows, .ref q_t_lower, .ref q_t_upper, .ref q_t_line, .int t_lined, .ref q_t_text, .int t_length, .int t_at, .int t_order, .ref q_t_told, .ref q_t_why, .ref q_t_more, .int t_whys, .int t_answer])), (q_t_line, .inl (cI, 40, .inl t_line))] sz)) 0 0 (va_A [(q_t, .inr (8, [.ref q_t_now, .ref q_t_tried, .ref q_t_thought, .ref q_t_kept, .int t_undos, .ref q_t_saved, .int t_isSaved, .ref q_t_finds, .ref q_t_reach, .ref q_t_steps, .ref q_t_glows, .ref q_t_lower, .ref q_t_upper, .ref q_t_line, .int t_lined, .ref q_t_text, .int t_length, .int t_at, .int t_order, .ref q_t_told, .ref q_t_why, .ref q_t_more, .int t_whys, .int t_answer])), (q_t_line, .inl (cI, 40, .inl t_line))] sz) := by
  refine jE_v (cc := cX10_writesNumber) (maxL := 2) (own := RX10) (ret := none) (lv0 := [(0, .ref q_t), (1, .int v1)]) (by decide) rfl rfl rfl (Nat.le_of_ble_eq_true rfl) rfl ?_
  intro p e s m args below meth c A Q ls hx hb hml hown hts hK hN hX hA hP hD hS hl hRet
  have hF : CallFix p m c cX10_writesNumber 2 s args wsX10_writesNumber RX10 := ⟨hx, hb, hml, hown, hts⟩
  have fl_43 := hts (.fieldLink RX10 43 "LanternLogicModel" "line" "[I") (by decide +kernel)
  have fl_275 := hts (.fieldLink RX10 275 "LanternLogicModel" "lined" "I") (by decide +kernel)
  have hin_X10 : ∀ w ∈ u_ws RX10 TX10 24, w ∈ wsX10_writesNumber := by decide +kernel
  have B29 : ∀ (t_lined : Int32) (t_line : Nat → Int32) (H : Heap) (locs : List Loc), va_P D vwCl [(q_t, .inr (8, [.ref q_t_now, .ref q_t_tried, .ref q_t_thought, .ref q_t_kept, .int t_undos, .ref q_t_saved, .int t_isSaved, .ref q_t_finds, .ref q_t_reach, .ref q_t_steps, .ref q_t_glows, .ref q_t_lower, .ref q_t_upper, .ref q_t_line, .int t_lined, .ref q_t_text, .int t_length, .int t_at, .int t_order, .ref q_t_told, .ref q_t_why, .ref q_t_more, .int t_whys, .int t_answer])), (q_t_line, .inl (cI, 40, .inl t_line))] H → va_D A [(q_t, .inr (8, [.ref q_t_now, .ref q_t_tried, .ref q_t_thought, .ref q_t_kept, .int t_undos, .ref q_t_saved, .int t_isSaved, .ref q_t_finds, .ref q_t_reach, .ref q_t_steps, .ref q_t_glows, .ref q_t_lower, .ref q_t_upper, .ref q_t_line, .int t_lined, .ref q_t_text, .int t_length, .int t_at, .int t_order, .ref q_t_told, .ref q_t_why, .ref q_t_more, .int t_whys, .int t_answer])), (q_t_line, .inl (cI, 40, .inl t_line))] → va_S A s.heap H locs → ∀ ls : Array Slot, lv_has ls 2 [(0, .ref q_t), (1, .int v1)] → J_X10_writesNumber_b29  v1 t_lined t_line = some (o_t_lined, o_t_line) → W p l e rmX10_writesNumber s m args below meth c H locs 0 0 Q (F0 m 29 ls []) := by
    intro t_lined t_line H locs hP hD hS ls hl hJ
    unfold J_X10_writesNumber_b29 at hJ
    refine lv_aload_n hx hb dX10_writesNumber_29 rfl (lv_at hl 0 rfl) ?_
    refine va_get (ci := 8) (v := .ref q_t_line) (C := RX10) (T := TX10) (N := 24) hx hb hts hin_X10 hown hK hP 0 rfl rfl 13 (by decide) fl_43 (fun _ h9 => h9) rfl dX10_writesNumber_30 ?_
    refine lv_aload_n hx hb dX10_writesNumber_33 rfl (lv_at hl 0 rfl) ?_
    refine lv_dup hx hb dX10_writesNumber_34 rfl ?_
    refine va_get (ci := 8) (v := .int t_lined) (C := RX10) (T := TX10) (N := 24) hx hb hts hin_X10 hown hK hP 0 rfl rfl 14 (by decide) fl_275 (fun _ h9 => h9) rfl dX10_writesNumber_35 ?_
    refine lv_dup_x1 hx hb dX10_writesNumber_38 rfl rfl ?_
    refine lv_iconst (v := (1 : Int32)) hx hb dX10_writesNumber_39 (by decide) ?_
    refine lv_iadd hx hb dX10_writesNumber_40 ?_
    refine jt_i hJ (fun x40 hJ => ?_)
    refine va_put (ci := 8) (v := .int x40) (ty := .int) (C := RX10) (T := TX10) (N := 24) hx hb hts hin_X10 tyX10 tyX10_ok nmX10 hown hK hP hD hS 0 rfl rfl 14 (by decide) fl_275 (fun _ h9 => h9) rfl (by decide +kernel) rfl rfl (Nat.le_of_ble_eq_true rfl) dX10_writesNumber_41 (fun H locs hP hD hS => ?_)
    have hP : va_P D vwCl [(q_t, .inr (8, [.ref q_t_now, .ref q_t_tried, .ref q_t_thought, .ref q_t_kept, .int t_undos, .ref q_t_saved, .int t_isSaved, .ref q_t_finds, .ref q_t_reach, .ref q_t_steps, .ref q_t_glows, .ref q_t_lower, .ref q_t_upper, .ref q_t_line, .int x40, .ref q_t_text, .int t_length, .int t_at, .int t_order, .ref q_t_told, .ref q_t_why, .ref q_t_more, .int t_whys, .int t_answer])), (q_t_line, .inl (cI, 40, .inl t_line))] H := hP
    have hD : va_D A [(q_t, .inr (8, [.ref q_t_now, .ref q_t_tried, .ref q_t_thought, .ref q_t_kept, .int t_undos, .ref q_t_saved, .int t_isSaved, .ref q_t_finds, .ref q_t_reach, .ref q_t_steps, .ref q_t_glows, .ref q_t_lower, .ref q_t_upper, .ref q_t_line, .int x40, .ref q_t_text, .int t_length, .int t_at, .int t_order, .ref q_t_told, .ref q_t_why, .ref q_t_more, .int t_whys, .int t_answer])), (q_t_line, .inl (cI, 40, .inl t_line))] := hD
    refine lv_bipush (v := (48 : Int32)) hx hb dX10_writesNumber_44 (by decide) ?_
    refine lv_iload_n hx hb dX10_writesNumber_46 rfl (lv_at hl 1 rfl) ?_
    refine lv_bipush (v := (10 : Int32)) hx hb dX10_writesNumber_47 (by decide) ?_
    obtain ⟨hne, hJ⟩ := chn_ok hJ
    refine lv_irem hx hb dX10_writesNumber_49 hne ?_
    refine lv_iadd hx hb dX10_writesNumber_50 ?_
    refine jt_i hJ (fun x50 hJ => ?_)
    obtain ⟨hin, hJ⟩ := chk_in hJ
    refine va_iast hx hb hK hP hD hS 1 0 rfl rfl hin dX10_writesNumber_51 (fun H locs hP hD hS => ?_)
    have hP : va_P D vwCl [(q_t, .inr (8, [.ref q_t_now, .ref q_t_tried, .ref q_t_thought, .ref q_t_kept, .int t_undos, .ref q_t_saved, .int t_isSaved, .ref q_t_finds, .ref q_t_reach, .ref q_t_steps, .ref q_t_glows, .ref q_t_lower, .ref q_t_upper, .ref q_t_line, .int x40, .ref q_t_text, .int t_length, .int t_at, .int t_order, .ref q_t_told, .ref q_t_why, .ref q_t_more, .int t_whys, .int t_answer])), (q_t_line, .inl (cI, 40, .inl (upd t_line t_lined.toNatClampNeg x50)))] H := hP
    have hD : va_D A [(q_t, .inr (8, [.ref q_t_now, .ref q_t_tried, .ref q_t_thought, .ref q_t_kept, .int t_undos, .ref q_t_saved, .int t_isSaved, .ref q_t_finds, .ref q_t_reach, .ref q_t_steps, .ref q_t_glows, .ref q_t_lower, .ref q_t_upper, .ref q_t_line, .int x40, .ref q_t_text, .int t_length, .int t_at, .int t_order, .ref q_t_told, .ref q_t_why, .ref q_t_more, .int t_whys, .int t_answer])), (q_t_line, .inl (cI, 40, .inl (upd t_line t_lined.toNatClampNeg x50)))] := hD
    have hJ := Option.some.inj hJ
    obtain ⟨e0, e1⟩ : (x40) = o_t_lined ∧ ((upd t_line t_lined.toNatClampNeg x50)) = o_t_line := ⟨congrArg (fun z => z.1) hJ, congrArg (fun z => z.2) hJ⟩
    exact hRet (by rw [← e0, ← e1]; exact hP) (by rw [← e0, ← e1]; exact hD) hS dX10_writesNumber_52
  unfold J_X10_writesNumber at hJ
  refine lv_iload_n hx hb dX10_writesNumber_0 rfl (lv_at hl 1 rfl) ?_
  refine lv_bipush (v := (9 : Int32)) hx hb dX10_writesNumber_1 (by decide) ?_
  refine jif_icmp_le (tgt := 29) hx hb dX10_writesNumber_3 (by decide) hJ (fun hJ => ?_) (fun hJ => ?_)
  · exact B29  t_lined t_line  s.heap []  hP hD hS _ (lv_sub hl [0, 1] rfl) hJ
  · refine lv_aload_n hx hb dX10_writesNumber_6 rfl (lv_at hl 0 rfl) ?_
    refine va_get (ci := 8) (v := .ref q_t_line) (C := RX10) (T := TX10) (N := 24) hx hb hts hin_X10 hown hK hP 0 rfl rfl 13 (by decide) fl_43 (fun _ h9 => h9) rfl dX10_writesNumber_7 ?_
    refine lv_aload_n hx hb dX10_writesNumber_10 rfl (lv_at hl 0 rfl) ?_
    refine lv_dup hx hb dX10_writesNumber_11 rfl ?_
    refine va_get (ci := 8) (v := .int t_lined) (C := RX10) (T := TX10) (N := 24) hx hb hts hin_X10 hown hK hP 0 rfl rfl 14 (by decide) fl_275 (fun _ h9 => h9) rfl dX10_writesNumber_12 ?_
    refine lv_dup_x1 hx hb dX10_writesNumber_15 rfl rfl ?_
    refine lv_iconst (v := (1 : Int32)) hx hb dX10_writesNumber_16 (by decide) ?_
    refine lv_iadd hx hb dX10_writesNumber_17 ?_
    refine jt_i hJ (fun x17 hJ => ?_)
    refine va_put (ci := 8) (v := .int x17) (ty := .int) (C := RX10) (T := TX10) (N := 24) hx hb hts hin_X10 tyX10 tyX10_ok nmX10 hown hK hP hD hS 0 rfl rfl 14 (by decide) fl_275 (fun _ h9 => h9) rfl (by decide +kernel) rfl rfl (Nat.le_of_ble_eq_true rfl) dX10_writesNumber_18 (fun H locs hP hD hS => ?_)
    have hP : va_P D vwCl [(q_t, .inr (8, [.ref q_t_now, .ref q_t_tried, .ref q_t_thought, .ref q_t_kept, .int t_undos, .ref q_t_saved, .int t_isSaved, .ref q_t_finds, .ref q_t_reach, .ref q_t_steps, .ref q_t_glows, .ref q_t_lower, .ref q_t_upper, .ref q_t_line, .int x17, .ref q_t_text, .int t_length, .int t_at, .int t_order, .ref q_t_told, .ref q_t_why, .ref q_t_more, .int t_whys, .int t_answer])), (q_t_line, .inl (cI, 40, .inl t_line))] H := hP
    have hD : va_D A [(q_t, .inr (8, [.ref q_t_now, .ref q_t_tried, .ref q_t_thought, .ref q_t_kept, .int t_undos, .ref q_t_saved, .int t_isSaved, .ref q_t_finds, .ref q_t_reach, .ref q_t_steps, .ref q_t_glows, .ref q_t_lower, .ref q_t_upper, .ref q_t_line, .int x17, .ref q_t_text, .int t_length, .int t_at, .int t_order, .ref q_t_told, .ref q_t_why, .ref q_t_more, .int t_whys, .int t_answer])), (q_t_line, .inl (cI, 40, .inl t_line))] := hD
    refine lv_bipush (v := (48 : Int32)) hx hb dX10_writesNumber_21 (by decide) ?_
    refine lv_iload_n hx hb dX10_writesNumber_23 rfl (lv_at hl 1 rfl) ?_
    refine lv_bipush (v := (10 : Int32)) hx hb dX10_writesNumber_24 (by decide) ?_
    obtain ⟨hne, hJ⟩ := chn_ok hJ
    refine lv_idiv hx hb dX10_writesNumber_26 hne ?_
    refine lv_iadd hx hb dX10_writesNumber_27 ?_
    refine jt_i hJ (fun x27 hJ => ?_)
    obtain ⟨hin, hJ⟩ := chk_in hJ
    refine va_iast hx hb hK hP hD hS 1 0 rfl rfl hin dX10_writesNumber_28 (fun H locs hP hD hS => ?_)
    have hP : va_P D vwCl [(q_t, .inr (8, [.ref q_t_now, .ref q_t_tried, .ref q_t_thought, .ref q_t_kept, .int t_undos, .ref q_t_saved, .int t_isSaved, .ref q_t_finds, .ref q_t_reach, .ref q_t_steps, .ref q_t_glows, .ref q_t_lower, .ref q_t_upper, .ref q_t_line, .int x17, .ref q_t_text, .int t_length, .int t_at, .int t_order, .ref q_t_told, .ref q_t_why, .ref q_t_more, .int t_whys, .int t_answer])), (q_t_line, .inl (cI, 40, .inl (upd t_line t_lined.toNatClampNeg x27)))] H := hP
    have hD : va_D A [(q_t, .inr (8, [.ref q_t_now, .ref q_t_tried, .ref q_t_thought, .ref q_t_kept, .int t_undos, .ref q_t_saved, .int t_isSaved, .ref q_t_finds, .ref q_t_reach, .ref q_t_steps, .ref q_t_glows, .ref q_t_lower, .ref q_t_upper, .ref q_t_line, .int x17, .ref q_t_text, .int t_length, .int t_at, .int t_order, .ref q_t_told, .ref q_t_why, .ref q_t_more, .int t_whys, .int t_answer])), (q_t_line, .inl (cI, 40, .inl (upd t_line t_lined.toNatClampNeg x27)))] := hD
    exact B29  x17 (upd t_line t_lined.toNatClampNeg x27)  H locs  hP hD hS _ (lv_sub hl [0, 1] rfl) hJ

def J_X10_tell_b49 (k7 : Int32 → (Nat → Int32) → Int32 → Option (Int32 × Int32 × (Nat → Int32))) (t_now : Nat → Int32) (t_lined : Int32) (t_line : Nat → Int32) (v1 : Int32) (s49_1 : Int32) (s49_2 : Int32) : Option (Int32 × Int32 × (Nat → Int32)) :=
    chk s49_1 40 (
    nm (v1 + Int32.ofInt 1) fun x50 =>
    k7 t_lined (upd t_line s49_1.toNatClampNeg s49_2) x50)
def J_X10_tell_L7 (t_now : Nat → Int32) : Nat → Int32 → (Nat → Int32) → Int32 → Option (Int32 × Int32 × (Nat → Int32))
  | 0, _, _, _ => none
  | nf + 1, t_lined, t_line, v1 =>
    chk (0 : Int32) 133 (
    nm (t_now (0 : Int32).toNatClampNeg) fun x13 =>
    if x13 ≤ v1 then (
    some (t_lined, t_lined, t_line))
    else (
    nm (t_lined + (1 : Int32)) fun x28 =>
    bnd1 (J_X10_of t_now v1 (2 : Int32)) fun x35 =>
    if x35 = (1 : Int32) then (
    J_X10_tell_b49 (fun z0 z1 z2 => J_X10_tell_L7 t_now nf z0 z1 z2) t_now x28 t_line v1 t_lined (35 : Int32))
    else (
    J_X10_tell_b49 (fun z0 z1 z2 => J_X10_tell_L7 t_now nf z0 z1 z2) t_now x28 t_line v1 t_lined (46 : Int32))))
def J_X10_tell (t_lined : Int32) (t_now : Nat → Int32) (t_line : Nat → Int32) : Option (Int32 × Int32 × (Nat → Int32)) :=
    J_X10_tell_L7 t_now FU (0 : Int32) t_line (0 : Int32)
abbrev rmX10_tell : Room := { frames := 1, cells := 0, slots := 0, locals := 22 }
set_option maxHeartbeats 4000000 in
set_option maxRecDepth 100000 in
theorem c_X10_tell (l : Launch) (D : va_G) (cI cJ cC cL : ClassId) (q_t q_t_now q_t_tried q_t_thought q_t_kept q_t_saved q_t_finds q_t_reach q_t_steps q_t_glows q_t_lower q_t_upper q_t_line q_t_text q_t_told q_t_why q_t_more : Nat) (t_undos : Int32) (t_isSaved : Int32) (t_lined : Int32) (t_length : Int32) (t_at : Int32) (t_order : Int32) (t_whys : Int32) (t_answer : Int32) (t_now : Nat → Int32) (t_line : Nat → Int32) (r : Int32) (o_t_lined : Int32) (o_t_line : Nat → Int32) (hJ : J_X10_tell t_lined t_now t_line = some (r, o_t_lined, o_t_line)) (sz : Nat) : Met l yX10_tell wsX10_tell rmX10_tell (va_Pc [.ref q_t] (jpre XT D (tyL cI cJ cC cL) [(q_t, .inr (8, [.ref q_t_now, .ref q_t_tried, .ref q_t_thought, .ref q_t_kept, .int t_undos, .ref q_t_saved, .int t_isSaved, .ref q_t_finds, .ref q_t_reach, .ref q_t_steps, .ref q_t_glows, .ref q_t_lower, .ref q_t_upper, .ref q_t_line, .int t_lined, .ref q_t_text, .int t_length, .int t_at, .int t_order, .ref q_t_told, .ref q_t_why, .ref q_t_more, .int t_whys, .int t_answer])), (q_t_now, .inl (cI, 133, .inl t_now)), (q_t_line, .inl (cI, 40, .inl t_line))] sz)) (va_Qi (fun r' (_ : Unit) => r' = r) (fun _ t => jpost D (tyL cI cJ cC cL) (va_A [(q_t, .inr (8, [.ref q_t_now, .ref q_t_tried, .ref q_t_thought, .ref q_t_kept, .int t_undos, .ref q_t_saved, .int t_isSaved, .ref q_t_finds, .ref q_t_reach, .ref q_t_steps, .ref q_t_glows, .ref q_t_lower, .ref q_t_upper, .ref q_t_line, .int t_lined, .ref q_t_text, .int t_length, .int t_at, .int t_order, .ref q_t_told, .ref q_t_why, .ref q_t_more, .int t_whys, .int t_answer])), (q_t_now, .inl (cI, 133, .inl t_now)), (q_t_line, .inl (cI, 40, .inl t_line))] sz) [(q_t, .inr (8, [.ref q_t_now, .ref q_t_tried, .ref q_t_thought, .ref q_t_kept, .int t_undos, .ref q_t_saved, .int t_isSaved, .ref q_t_finds, .ref q_t_reach, .ref q_t_steps, .ref q_t_glows, .ref q_t_lower, .ref q_t_upper, .ref q_t_line, .int o_t_lined, .ref q_t_text, .int t_length, .int t_at, .int t_order, .ref q_t_told, .ref q_t_why, .ref q_t_more, .int t_whys, .int t_answer])), (q_t_now, .inl (cI, 133, .inl t_now)), (q_t_line, .inl (cI, 40, .inl o_t_line))] t) (va_A [(q_t, .inr (8, [.ref q_t_now, .ref q_t_tried, .ref q_t_thought, .ref q_t_kept, .int t_undos, .ref q_t_saved, .int t_isSaved, .ref q_t_finds, .ref q_t_reach, .ref q_t_steps, .ref q_t_glows, .ref q_t_lower, .ref q_t_upper, .ref q_t_line, .int t_lined, .ref q_t_text, .int t_length, .int t_at, .int t_order, .ref q_t_told, .ref q_t_why, .ref q_t_more, .int t_whys, .int t_answer])), (q_t_now, .inl (cI, 133, .inl t_now)), (q_t_line, .inl (cI, 40, .inl t_line))] sz)) 0 0 (va_A [(q_t, .inr (8, [.ref q_t_now, .ref q_t_tried, .ref q_t_thought, .ref q_t_kept, .int t_undos, .ref q_t_saved, .int t_isSaved, .ref q_t_finds, .ref q_t_reach, .ref q_t_steps, .ref q_t_glows, .ref q_t_lower, .ref q_t_upper, .ref q_t_line, .int t_lined, .ref q_t_text, .int t_length, .int t_at, .int t_order, .ref q_t_told, .ref q_t_why, .ref q_t_more, .int t_whys, .int t_answer])), (q_t_now, .inl (cI, 133, .inl t_now)), (q_t_line, .inl (cI, 40, .inl t_line))] sz) := by
  refine jE_i (cc := cX10_tell) (maxL := 2) (own := RX10) (ret := (some .int)) (lv0 := [(0, .ref q_t)]) (by decide) rfl rfl rfl (Nat.le_of_ble_eq_true rfl) rfl ?_
  intro p e s m args below meth c A Q ls hx hb hml hown hts hK hN hX hA hP hD hS hl hRet
  have hF : CallFix p m c cX10_tell 2 s args wsX10_tell RX10 := ⟨hx, hb, hml, hown, hts⟩
  have fl_9 := hts (.fieldLink RX10 9 "LanternLogicModel" "now" "[I") (by decide +kernel)
  have fl_43 := hts (.fieldLink RX10 43 "LanternLogicModel" "line" "[I") (by decide +kernel)
  have fl_275 := hts (.fieldLink RX10 275 "LanternLogicModel" "lined" "I") (by decide +kernel)
  have hin_X10 : ∀ w ∈ u_ws RX10 TX10 24, w ∈ wsX10_tell := by decide +kernel
  have B49 : ∀ (k7 : Int32 → (Nat → Int32) → Int32 → Option (Int32 × Int32 × (Nat → Int32))), (∀ (t_lined : Int32) (t_line : Nat → Int32) (v1 : Int32) (H : Heap) (locs : List Loc), va_P D vwCl [(q_t, .inr (8, [.ref q_t_now, .ref q_t_tried, .ref q_t_thought, .ref q_t_kept, .int t_undos, .ref q_t_saved, .int t_isSaved, .ref q_t_finds, .ref q_t_reach, .ref q_t_steps, .ref q_t_glows, .ref q_t_lower, .ref q_t_upper, .ref q_t_line, .int t_lined, .ref q_t_text, .int t_length, .int t_at, .int t_order, .ref q_t_told, .ref q_t_why, .ref q_t_more, .int t_whys, .int t_answer])), (q_t_now, .inl (cI, 133, .inl t_now)), (q_t_line, .inl (cI, 40, .inl t_line))] H → va_D A [(q_t, .inr (8, [.ref q_t_now, .ref q_t_tried, .ref q_t_thought, .ref q_t_kept, .int t_undos, .ref q_t_saved, .int t_isSaved, .ref q_t_finds, .ref q_t_reach, .ref q_t_steps, .ref q_t_glows, .ref q_t_lower, .ref q_t_upper, .ref q_t_line, .int t_lined, .ref q_t_text, .int t_length, .int t_at, .int t_order, .ref q_t_told, .ref q_t_why, .ref q_t_more, .int t_whys, .int t_answer])), (q_t_now, .inl (cI, 133, .inl t_now)), (q_t_line, .inl (cI, 40, .inl t_line))] → va_S A s.heap H locs → ∀ ls : Array Slot, lv_has ls 2 [(0, .ref q_t), (1, .int v1)] → k7 t_lined t_line v1 = some (r, o_t_lined, o_t_line) → W p l e rmX10_tell s m args below meth c H locs 0 0 Q (F0 m 7 ls [])) → ∀ (t_lined : Int32) (t_line : Nat → Int32) (v1 : Int32) (s49_1 : Int32) (s49_2 : Int32) (H : Heap) (locs : List Loc), va_P D vwCl [(q_t, .inr (8, [.ref q_t_now, .ref q_t_tried, .ref q_t_thought, .ref q_t_kept, .int t_undos, .ref q_t_saved, .int t_isSaved, .ref q_t_finds, .ref q_t_reach, .ref q_t_steps, .ref q_t_glows, .ref q_t_lower, .ref q_t_upper, .ref q_t_line, .int t_lined, .ref q_t_text, .int t_length, .int t_at, .int t_order, .ref q_t_told, .ref q_t_why, .ref q_t_more, .int t_whys, .int t_answer])), (q_t_now, .inl (cI, 133, .inl t_now)), (q_t_line, .inl (cI, 40, .inl t_line))] H → va_D A [(q_t, .inr (8, [.ref q_t_now, .ref q_t_tried, .ref q_t_thought, .ref q_t_kept, .int t_undos, .ref q_t_saved, .int t_isSaved, .ref q_t_finds, .ref q_t_reach, .ref q_t_steps, .ref q_t_glows, .ref q_t_lower, .ref q_t_upper, .ref q_t_line, .int t_lined, .ref q_t_text, .int t_length, .int t_at, .int t_order, .ref q_t_told, .ref q_t_why, .ref q_t_more, .int t_whys, .int t_answer])), (q_t_now, .inl (cI, 133, .inl t_now)), (q_t_line, .inl (cI, 40, .inl t_line))] → va_S A s.heap H locs → ∀ ls : Array Slot, lv_has ls 2 [(0, .ref q_t), (1, .int v1)] → J_X10_tell_b49 k7 t_now t_lined t_line v1 s49_1 s49_2 = some (r, o_t_lined, o_t_line) → W p l e rmX10_tell s m args below meth c H locs 0 0 Q (F0 m 49 ls [.int s49_2, .int s49_1, .ref q_t_line]) := by
    intro k7 hk7 t_lined t_line v1 s49_1 s49_2 H locs hP hD hS ls hl hJ
    unfold J_X10_tell_b49 at hJ
    obtain ⟨hin, hJ⟩ := chk_in hJ
    refine va_iast hx hb hK hP hD hS 2 0 rfl rfl hin dX10_tell_49 (fun H locs hP hD hS => ?_)
    have hP : va_P D vwCl [(q_t, .inr (8, [.ref q_t_now, .ref q_t_tried, .ref q_t_thought, .ref q_t_kept, .int t_undos, .ref q_t_saved, .int t_isSaved, .ref q_t_finds, .ref q_t_reach, .ref q_t_steps, .ref q_t_glows, .ref q_t_lower, .ref q_t_upper, .ref q_t_line, .int t_lined, .ref q_t_text, .int t_length, .int t_at, .int t_order, .ref q_t_told, .ref q_t_why, .ref q_t_more, .int t_whys, .int t_answer])), (q_t_now, .inl (cI, 133, .inl t_now)), (q_t_line, .inl (cI, 40, .inl (upd t_line s49_1.toNatClampNeg s49_2)))] H := hP
    have hD : va_D A [(q_t, .inr (8, [.ref q_t_now, .ref q_t_tried, .ref q_t_thought, .ref q_t_kept, .int t_undos, .ref q_t_saved, .int t_isSaved, .ref q_t_finds, .ref q_t_reach, .ref q_t_steps, .ref q_t_glows, .ref q_t_lower, .ref q_t_upper, .ref q_t_line, .int t_lined, .ref q_t_text, .int t_length, .int t_at, .int t_order, .ref q_t_told, .ref q_t_why, .ref q_t_more, .int t_whys, .int t_answer])), (q_t_now, .inl (cI, 133, .inl t_now)), (q_t_line, .inl (cI, 40, .inl (upd t_line s49_1.toNatClampNeg s49_2)))] := hD
    refine jt_iinc hJ (fun x50 ex50 hJ => ?_)
    refine lv_iinc (v := x50) (lv' := [(1, .int x50), (0, .ref q_t)]) hx hb dX10_tell_50 hl (k := 1) rfl ex50 (by decide) rfl (fun ls hl => ?_)
    refine lv_goto (tgt := 7) hx hb dX10_tell_53 (by decide) ?_
    exact hk7 t_lined (upd t_line s49_1.toNatClampNeg s49_2) x50  H locs  hP hD hS _ (lv_sub hl [1, 0] rfl) hJ
  have L7 : ∀ (nf : Nat), ∀ (t_lined : Int32) (t_line : Nat → Int32) (v1 : Int32) (H : Heap) (locs : List Loc), va_P D vwCl [(q_t, .inr (8, [.ref q_t_now, .ref q_t_tried, .ref q_t_thought, .ref q_t_kept, .int t_undos, .ref q_t_saved, .int t_isSaved, .ref q_t_finds, .ref q_t_reach, .ref q_t_steps, .ref q_t_glows, .ref q_t_lower, .ref q_t_upper, .ref q_t_line, .int t_lined, .ref q_t_text, .int t_length, .int t_at, .int t_order, .ref q_t_told, .ref q_t_why, .ref q_t_more, .int t_whys, .int t_answer])), (q_t_now, .inl (cI, 133, .inl t_now)), (q_t_line, .inl (cI, 40, .inl t_line))] H → va_D A [(q_t, .inr (8, [.ref q_t_now, .ref q_t_tried, .ref q_t_thought, .ref q_t_kept, .int t_undos, .ref q_t_saved, .int t_isSaved, .ref q_t_finds, .ref q_t_reach, .ref q_t_steps, .ref q_t_glows, .ref q_t_lower, .ref q_t_upper, .ref q_t_line, .int t_lined, .ref q_t_text, .int t_length, .int t_at, .int t_order, .ref q_t_told, .ref q_t_why, .ref q_t_more, .int t_whys, .int t_answer])), (q_t_now, .inl (cI, 133, .inl t_now)), (q_t_line, .inl (cI, 40, .inl t_line))] → va_S A s.heap H locs → ∀ ls : Array Slot, lv_has ls 2 [(0, .ref q_t), (1, .int v1)] → J_X10_tell_L7  t_now nf t_lined t_line v1 = some (r, o_t_lined, o_t_line) → W p l e rmX10_tell s m args below meth c H locs 0 0 Q (F0 m 7 ls []) := by
    intro nf
    induction nf with
    | zero =>
      intro t_lined t_line v1 H locs hP hD hS ls hl hJ
      rw [J_X10_tell_L7] at hJ
      cases hJ
    | succ nf ih =>
      intro t_lined t_line v1 H locs hP hD hS ls hl hJ
      rw [J_X10_tell_L7] at hJ
      refine lv_iload_n hx hb dX10_tell_7 rfl (lv_at hl 1 rfl) ?_
      refine lv_aload_n hx hb dX10_tell_8 rfl (lv_at hl 0 rfl) ?_
      refine va_get (ci := 8) (v := .ref q_t_now) (C := RX10) (T := TX10) (N := 24) hx hb hts hin_X10 hown hK hP 0 rfl rfl 0 (by decide) fl_9 (fun _ h9 => h9) rfl dX10_tell_9 ?_
      refine lv_iconst (v := (0 : Int32)) hx hb dX10_tell_12 (by decide) ?_
      obtain ⟨hin, hJ⟩ := chk_in hJ
      refine va_iald hx hb hK hP 1 0 rfl rfl hin dX10_tell_13 ?_
      refine jt_i hJ (fun x13 hJ => ?_)
      refine jif_icmp_ge (tgt := 56) hx hb dX10_tell_14 (by decide) hJ (fun hJ => ?_) (fun hJ => ?_)
      · refine lv_aload_n hx hb dX10_tell_56 rfl (lv_at hl 0 rfl) ?_
        refine va_get (ci := 8) (v := .int t_lined) (C := RX10) (T := TX10) (N := 24) hx hb hts hin_X10 hown hK hP 0 rfl rfl 14 (by decide) fl_275 (fun _ h9 => h9) rfl dX10_tell_57 ?_
        have hJ := Option.some.inj hJ
        obtain ⟨e0, e1, e2⟩ : (t_lined) = r ∧ (t_lined) = o_t_lined ∧ (t_line) = o_t_line := ⟨congrArg (fun z => z.1) hJ, congrArg (fun z => z.2.1) hJ, congrArg (fun z => z.2.2) hJ⟩
        exact hRet (by rw [← e1, ← e2]; exact hP) (by rw [← e1, ← e2]; exact hD) hS e0 dX10_tell_60
      · refine lv_aload_n hx hb dX10_tell_17 rfl (lv_at hl 0 rfl) ?_
        refine va_get (ci := 8) (v := .ref q_t_line) (C := RX10) (T := TX10) (N := 24) hx hb hts hin_X10 hown hK hP 0 rfl rfl 13 (by decide) fl_43 (fun _ h9 => h9) rfl dX10_tell_18 ?_
        refine lv_aload_n hx hb dX10_tell_21 rfl (lv_at hl 0 rfl) ?_
        refine lv_dup hx hb dX10_tell_22 rfl ?_
        refine va_get (ci := 8) (v := .int t_lined) (C := RX10) (T := TX10) (N := 24) hx hb hts hin_X10 hown hK hP 0 rfl rfl 14 (by decide) fl_275 (fun _ h9 => h9) rfl dX10_tell_23 ?_
        refine lv_dup_x1 hx hb dX10_tell_26 rfl rfl ?_
        refine lv_iconst (v := (1 : Int32)) hx hb dX10_tell_27 (by decide) ?_
        refine lv_iadd hx hb dX10_tell_28 ?_
        refine jt_i hJ (fun x28 hJ => ?_)
        refine va_put (ci := 8) (v := .int x28) (ty := .int) (C := RX10) (T := TX10) (N := 24) hx hb hts hin_X10 tyX10 tyX10_ok nmX10 hown hK hP hD hS 0 rfl rfl 14 (by decide) fl_275 (fun _ h9 => h9) rfl (by decide +kernel) rfl rfl (Nat.le_of_ble_eq_true rfl) dX10_tell_29 (fun H locs hP hD hS => ?_)
        have hP : va_P D vwCl [(q_t, .inr (8, [.ref q_t_now, .ref q_t_tried, .ref q_t_thought, .ref q_t_kept, .int t_undos, .ref q_t_saved, .int t_isSaved, .ref q_t_finds, .ref q_t_reach, .ref q_t_steps, .ref q_t_glows, .ref q_t_lower, .ref q_t_upper, .ref q_t_line, .int x28, .ref q_t_text, .int t_length, .int t_at, .int t_order, .ref q_t_told, .ref q_t_why, .ref q_t_more, .int t_whys, .int t_answer])), (q_t_now, .inl (cI, 133, .inl t_now)), (q_t_line, .inl (cI, 40, .inl t_line))] H := hP
        have hD : va_D A [(q_t, .inr (8, [.ref q_t_now, .ref q_t_tried, .ref q_t_thought, .ref q_t_kept, .int t_undos, .ref q_t_saved, .int t_isSaved, .ref q_t_finds, .ref q_t_reach, .ref q_t_steps, .ref q_t_glows, .ref q_t_lower, .ref q_t_upper, .ref q_t_line, .int x28, .ref q_t_text, .int t_length, .int t_at, .int t_order, .ref q_t_told, .ref q_t_why, .ref q_t_more, .int t_whys, .int t_answer])), (q_t_now, .inl (cI, 133, .inl t_now)), (q_t_line, .inl (cI, 40, .inl t_line))] := hD
        refine lv_aload_n hx hb dX10_tell_32 rfl (lv_at hl 0 rfl) ?_
        refine lv_iload_n hx hb dX10_tell_33 rfl (lv_at hl 1 rfl) ?_
        refine lv_iconst (v := (2 : Int32)) hx hb dX10_tell_34 (by decide) ?_
        obtain ⟨x35, hc35, hJ⟩ := bnd1_some hJ
        refine jcV_i (C := RX10) (T := TX10) (N := 24) (ci := 8) (q0 := 0) (As := [.int v1, .int (2 : Int32)]) (rest := [.int t_lined, .ref q_t_line]) (isC := [0, 1]) (isR := [2]) (isB := [1, 2, 0]) (wr := [(q_t_line, .inl (cI, 40, .inl t_line))]) (ws2 := [(q_t, .inr (8, [.ref q_t_now, .ref q_t_tried, .ref q_t_thought, .ref q_t_kept, .int t_undos, .ref q_t_saved, .int t_isSaved, .ref q_t_finds, .ref q_t_reach, .ref q_t_steps, .ref q_t_glows, .ref q_t_lower, .ref q_t_upper, .ref q_t_line, .int x28, .ref q_t_text, .int t_length, .int t_at, .int t_order, .ref q_t_told, .ref q_t_why, .ref q_t_more, .int t_whys, .int t_answer])), (q_t_now, .inl (cI, 133, .inl t_now)), (q_t_line, .inl (cI, 40, .inl t_line))]) hF (c_X10_of l D cI cJ cC cL q_t q_t_now q_t_tried q_t_thought q_t_kept q_t_saved q_t_finds q_t_reach q_t_steps q_t_glows q_t_lower q_t_upper q_t_line q_t_text q_t_told q_t_why q_t_more t_undos t_isSaved x28 t_length t_at t_order t_whys t_answer t_now v1 (2 : Int32) x35 hc35 H.size) (cwV 2 hts gX10_tell_X10_of rfl rfl rfl (by decide +kernel) ⟨Nat.le_of_ble_eq_true rfl, Nat.le_of_ble_eq_true rfl⟩) rfl hl rfl (Nat.le_of_ble_eq_true rfl) dX10_tell_35 ⟨Nat.zero_le _, Nat.zero_le _⟩ hK hN KX_T trivial hP hD hS hA rfl rfl rfl rfl rfl rfl (by decide) rfl rfl (fun H locs hP hD hS => ?_)
        refine lv_iconst (v := (1 : Int32)) hx hb dX10_tell_38 (by decide) ?_
        refine jif_icmp_ne (tgt := 47) hx hb dX10_tell_39 (by decide) hJ (fun hJ => ?_) (fun hJ => ?_)
        · refine lv_bipush (v := (46 : Int32)) hx hb dX10_tell_47 (by decide) ?_
          exact B49 (fun z0 z1 z2 => J_X10_tell_L7 t_now nf z0 z1 z2) ih x28 t_line v1 t_lined (46 : Int32)  H locs  hP hD hS _ (lv_sub hl [0, 1] rfl) hJ
        · refine lv_bipush (v := (35 : Int32)) hx hb dX10_tell_42 (by decide) ?_
          refine lv_goto (tgt := 49) hx hb dX10_tell_44 (by decide) ?_
          exact B49 (fun z0 z1 z2 => J_X10_tell_L7 t_now nf z0 z1 z2) ih x28 t_line v1 t_lined (35 : Int32)  H locs  hP hD hS _ (lv_sub hl [0, 1] rfl) hJ
  unfold J_X10_tell at hJ
  refine lv_aload_n hx hb dX10_tell_0 rfl (lv_at hl 0 rfl) ?_
  refine lv_iconst (v := (0 : Int32)) hx hb dX10_tell_1 (by decide) ?_
  refine va_put (ci := 8) (v := .int (0 : Int32)) (ty := .int) (C := RX10) (T := TX10) (N := 24) hx hb hts hin_X10 tyX10 tyX10_ok nmX10 hown hK hP hD hS 0 rfl rfl 14 (by decide) fl_275 (fun _ h9 => h9) rfl (by decide +kernel) rfl rfl (Nat.le_of_ble_eq_true rfl) dX10_tell_2 (fun H locs hP hD hS => ?_)
  have hP : va_P D vwCl [(q_t, .inr (8, [.ref q_t_now, .ref q_t_tried, .ref q_t_thought, .ref q_t_kept, .int t_undos, .ref q_t_saved, .int t_isSaved, .ref q_t_finds, .ref q_t_reach, .ref q_t_steps, .ref q_t_glows, .ref q_t_lower, .ref q_t_upper, .ref q_t_line, .int (0 : Int32), .ref q_t_text, .int t_length, .int t_at, .int t_order, .ref q_t_told, .ref q_t_why, .ref q_t_more, .int t_whys, .int t_answer])), (q_t_now, .inl (cI, 133, .inl t_now)), (q_t_line, .inl (cI, 40, .inl t_line))] H := hP
  have hD : va_D A [(q_t, .inr (8, [.ref q_t_now, .ref q_t_tried, .ref q_t_thought, .ref q_t_kept, .int t_undos, .ref q_t_saved, .int t_isSaved, .ref q_t_finds, .ref q_t_reach, .ref q_t_steps, .ref q_t_glows, .ref q_t_lower, .ref q_t_upper, .ref q_t_line, .int (0 : Int32), .ref q_t_text, .int t_length, .int t_at, .int t_order, .ref q_t_told, .ref q_t_why, .ref q_t_more, .int t_whys, .int t_answer])), (q_t_now, .inl (cI, 133, .inl t_now)), (q_t_line, .inl (cI, 40, .inl t_line))] := hD
  refine lv_iconst (v := (0 : Int32)) hx hb dX10_tell_5 (by decide) ?_
  refine lv_istore_n (lv' := [(1, .int (0 : Int32)), (0, .ref q_t)]) hx hb dX10_tell_6 rfl hl (by decide) rfl (fun ls hl => ?_)
  exact L7  FU (0 : Int32) t_line (0 : Int32)  H locs  hP hD hS _ (lv_sub hl [1, 0] rfl) hJ

def J_X10_character_b25 (t_lined : Int32) (t_line : Nat → Int32) (v1 : Int32) (s25_0 : Int32) : Option (Int32) :=
    some (s25_0)
def J_X10_character (t_lined : Int32) (t_line : Nat → Int32) (v1 : Int32) : Option (Int32) :=
    nm (t_lined - (1 : Int32)) fun x7 =>
    bnd1 (J_X10_in v1 (0 : Int32) x7) fun x8 =>
    if x8 = 0 then (
    J_X10_character_b25 t_lined t_line v1 (-11 : Int32))
    else (
    chk v1 40 (
    nm (t_line v1.toNatClampNeg) fun x19 =>
    J_X10_character_b25 t_lined t_line v1 x19))
abbrev rmX10_character : Room := { frames := 1, cells := 0, slots := 0, locals := 22 }
set_option maxHeartbeats 4000000 in
set_option maxRecDepth 100000 in
theorem c_X10_character (l : Launch) (D : va_G) (cI cJ cC cL : ClassId) (q_t q_t_now q_t_tried q_t_thought q_t_kept q_t_saved q_t_finds q_t_reach q_t_steps q_t_glows q_t_lower q_t_upper q_t_line q_t_text q_t_told q_t_why q_t_more : Nat) (t_undos : Int32) (t_isSaved : Int32) (t_lined : Int32) (t_length : Int32) (t_at : Int32) (t_order : Int32) (t_whys : Int32) (t_answer : Int32) (t_line : Nat → Int32) (v1 : Int32) (r : Int32) (hJ : J_X10_character t_lined t_line v1 = some (r)) (sz : Nat) : Met l yX10_character wsX10_character rmX10_character (va_Pc [.ref q_t, .int v1] (jpre XT D (tyL cI cJ cC cL) [(q_t, .inr (8, [.ref q_t_now, .ref q_t_tried, .ref q_t_thought, .ref q_t_kept, .int t_undos, .ref q_t_saved, .int t_isSaved, .ref q_t_finds, .ref q_t_reach, .ref q_t_steps, .ref q_t_glows, .ref q_t_lower, .ref q_t_upper, .ref q_t_line, .int t_lined, .ref q_t_text, .int t_length, .int t_at, .int t_order, .ref q_t_told, .ref q_t_why, .ref q_t_more, .int t_whys, .int t_answer])), (q_t_line, .inl (cI, 40, .inl t_line))] sz)) (va_Qi (fun r' (_ : Unit) => r' = r) (fun _ t => jpost D (tyL cI cJ cC cL) (va_A [(q_t, .inr (8, [.ref q_t_now, .ref q_t_tried, .ref q_t_thought, .ref q_t_kept, .int t_undos, .ref q_t_saved, .int t_isSaved, .ref q_t_finds, .ref q_t_reach, .ref q_t_steps, .ref q_t_glows, .ref q_t_lower, .ref q_t_upper, .ref q_t_line, .int t_lined, .ref q_t_text, .int t_length, .int t_at, .int t_order, .ref q_t_told, .ref q_t_why, .ref q_t_more, .int t_whys, .int t_answer])), (q_t_line, .inl (cI, 40, .inl t_line))] sz) [(q_t, .inr (8, [.ref q_t_now, .ref q_t_tried, .ref q_t_thought, .ref q_t_kept, .int t_undos, .ref q_t_saved, .int t_isSaved, .ref q_t_finds, .ref q_t_reach, .ref q_t_steps, .ref q_t_glows, .ref q_t_lower, .ref q_t_upper, .ref q_t_line, .int t_lined, .ref q_t_text, .int t_length, .int t_at, .int t_order, .ref q_t_told, .ref q_t_why, .ref q_t_more, .int t_whys, .int t_answer])), (q_t_line, .inl (cI, 40, .inl t_line))] t) (va_A [(q_t, .inr (8, [.ref q_t_now, .ref q_t_tried, .ref q_t_thought, .ref q_t_kept, .int t_undos, .ref q_t_saved, .int t_isSaved, .ref q_t_finds, .ref q_t_reach, .ref q_t_steps, .ref q_t_glows, .ref q_t_lower, .ref q_t_upper, .ref q_t_line, .int t_lined, .ref q_t_text, .int t_length, .int t_at, .int t_order, .ref q_t_told, .ref q_t_why, .ref q_t_more, .int t_whys, .int t_answer])), (q_t_line, .inl (cI, 40, .inl t_line))] sz)) 0 0 (va_A [(q_t, .inr (8, [.ref q_t_now, .ref q_t_tried, .ref q_t_thought, .ref q_t_kept, .int t_undos, .ref q_t_saved, .int t_isSaved, .ref q_t_finds, .ref q_t_reach, .ref q_t_steps, .ref q_t_glows, .ref q_t_lower, .ref q_t_upper, .ref q_t_line, .int t_lined, .ref q_t_text, .int t_length, .int t_at, .int t_order, .ref q_t_told, .ref q_t_why, .ref q_t_more, .int t_whys, .int t_answer])), (q_t_line, .inl (cI, 40, .inl t_line))] sz) := by
  refine jE_i (cc := cX10_character) (maxL := 2) (own := RX10) (ret := (some .int)) (lv0 := [(0, .ref q_t), (1, .int v1)]) (by decide) rfl rfl rfl (Nat.le_of_ble_eq_true rfl) rfl ?_
  intro p e s m args below meth c A Q ls hx hb hml hown hts hK hN hX hA hP hD hS hl hRet
  have hF : CallFix p m c cX10_character 2 s args wsX10_character RX10 := ⟨hx, hb, hml, hown, hts⟩
  have fl_43 := hts (.fieldLink RX10 43 "LanternLogicModel" "line" "[I") (by decide +kernel)
  have fl_275 := hts (.fieldLink RX10 275 "LanternLogicModel" "lined" "I") (by decide +kernel)
  have hin_X10 : ∀ w ∈ u_ws RX10 TX10 24, w ∈ wsX10_character := by decide +kernel
  have B25 : ∀ (s25_0 : Int32) (H : Heap) (locs : List Loc), va_P D vwCl [(q_t, .inr (8, [.ref q_t_now, .ref q_t_tried, .ref q_t_thought, .ref q_t_kept, .int t_undos, .ref q_t_saved, .int t_isSaved, .ref q_t_finds, .ref q_t_reach, .ref q_t_steps, .ref q_t_glows, .ref q_t_lower, .ref q_t_upper, .ref q_t_line, .int t_lined, .ref q_t_text, .int t_length, .int t_at, .int t_order, .ref q_t_told, .ref q_t_why, .ref q_t_more, .int t_whys, .int t_answer])), (q_t_line, .inl (cI, 40, .inl t_line))] H → va_D A [(q_t, .inr (8, [.ref q_t_now, .ref q_t_tried, .ref q_t_thought, .ref q_t_kept, .int t_undos, .ref q_t_saved, .int t_isSaved, .ref q_t_finds, .ref q_t_reach, .ref q_t_steps, .ref q_t_glows, .ref q_t_lower, .ref q_t_upper, .ref q_t_line, .int t_lined, .ref q_t_text, .int t_length, .int t_at, .int t_order, .ref q_t_told, .ref q_t_why, .ref q_t_more, .int t_whys, .int t_answer])), (q_t_line, .inl (cI, 40, .inl t_line))] → va_S A s.heap H locs → ∀ ls : Array Slot, lv_has ls 2 [] → J_X10_character_b25  t_lined t_line v1 s25_0 = some (r) → W p l e rmX10_character s m args below meth c H locs 0 0 Q (F0 m 25 ls [.int s25_0]) := by
    intro s25_0 H locs hP hD hS ls hl hJ
    unfold J_X10_character_b25 at hJ
    have e0 := Option.some.inj hJ
    exact hRet hP hD hS e0 dX10_character_25
  unfold J_X10_character at hJ
  refine lv_iload_n hx hb dX10_character_0 rfl (lv_at hl 1 rfl) ?_
  refine lv_iconst (v := (0 : Int32)) hx hb dX10_character_1 (by decide) ?_
  refine lv_aload_n hx hb dX10_character_2 rfl (lv_at hl 0 rfl) ?_
  refine va_get (ci := 8) (v := .int t_lined) (C := RX10) (T := TX10) (N := 24) hx hb hts hin_X10 hown hK hP 0 rfl rfl 14 (by decide) fl_275 (fun _ h9 => h9) rfl dX10_character_3 ?_
  refine lv_iconst (v := (1 : Int32)) hx hb dX10_character_6 (by decide) ?_
  refine lv_isub hx hb dX10_character_7 ?_
  refine jt_i hJ (fun x7 hJ => ?_)
  obtain ⟨x8, hc8, hJ⟩ := bnd1_some hJ
  refine jcS_i (As := [.int v1, .int (0 : Int32), .int x7]) (rest := []) (isC := []) (isR := [0, 1]) (isB := [0, 1]) (wr := [(q_t, .inr (8, [.ref q_t_now, .ref q_t_tried, .ref q_t_thought, .ref q_t_kept, .int t_undos, .ref q_t_saved, .int t_isSaved, .ref q_t_finds, .ref q_t_reach, .ref q_t_steps, .ref q_t_glows, .ref q_t_lower, .ref q_t_upper, .ref q_t_line, .int t_lined, .ref q_t_text, .int t_length, .int t_at, .int t_order, .ref q_t_told, .ref q_t_why, .ref q_t_more, .int t_whys, .int t_answer])), (q_t_line, .inl (cI, 40, .inl t_line))]) (ws2 := [(q_t, .inr (8, [.ref q_t_now, .ref q_t_tried, .ref q_t_thought, .ref q_t_kept, .int t_undos, .ref q_t_saved, .int t_isSaved, .ref q_t_finds, .ref q_t_reach, .ref q_t_steps, .ref q_t_glows, .ref q_t_lower, .ref q_t_upper, .ref q_t_line, .int t_lined, .ref q_t_text, .int t_length, .int t_at, .int t_order, .ref q_t_told, .ref q_t_why, .ref q_t_more, .int t_whys, .int t_answer])), (q_t_line, .inl (cI, 40, .inl t_line))]) hF (c_X10_in l D cI cJ cC cL v1 (0 : Int32) x7 x8 hc8 s.heap.size) (va_cwS 3 hts gX10_character_X10_in rfl rfl rfl (by decide +kernel) ⟨Nat.le_of_ble_eq_true rfl, Nat.le_of_ble_eq_true rfl⟩) rfl hl rfl (Nat.le_of_ble_eq_true rfl) dX10_character_8 ⟨Nat.zero_le _, Nat.zero_le _⟩ hK hN KX_T trivial hP hD hS hA rfl rfl rfl rfl (by decide) rfl rfl (fun H locs hP hD hS => ?_)
  refine jif_eq (tgt := 23) hx hb dX10_character_11 (by decide) hJ (fun hJ => ?_) (fun hJ => ?_)
  · refine lv_bipush (v := (-11 : Int32)) hx hb dX10_character_23 (by decide) ?_
    exact B25  (-11 : Int32)  H locs  hP hD hS _ (lv_sub hl [] rfl) hJ
  · refine lv_aload_n hx hb dX10_character_14 rfl (lv_at hl 0 rfl) ?_
    refine va_get (ci := 8) (v := .ref q_t_line) (C := RX10) (T := TX10) (N := 24) hx hb hts hin_X10 hown hK hP 0 rfl rfl 13 (by decide) fl_43 (fun _ h9 => h9) rfl dX10_character_15 ?_
    refine lv_iload_n hx hb dX10_character_18 rfl (lv_at hl 1 rfl) ?_
    obtain ⟨hin, hJ⟩ := chk_in hJ
    refine va_iald hx hb hK hP 1 0 rfl rfl hin dX10_character_19 ?_
    refine jt_i hJ (fun x19 hJ => ?_)
    refine lv_goto (tgt := 25) hx hb dX10_character_20 (by decide) ?_
    exact B25  x19  H locs  hP hD hS _ (lv_sub hl [] rfl) hJ

def J_X10_reason_b36 (t_whys : Int32) (t_why : Nat → Int32) (t_more : Nat → Int32) (v1 : Int32) (v2 : Int32) (s36_0 : Int32) : Option (Int32) :=
    some (s36_0)
def J_X10_reason (t_whys : Int32) (t_why : Nat → Int32) (t_more : Nat → Int32) (v1 : Int32) (v2 : Int32) : Option (Int32) :=
    nm (t_whys - (1 : Int32)) fun x7 =>
    bnd1 (J_X10_in v1 (0 : Int32) x7) fun x8 =>
    if x8 = 0 then (
    some ((-15 : Int32)))
    else (
    if v2 = 0 then (
    chk v1 4 (
    nm (t_why v1.toNatClampNeg) fun x35 =>
    J_X10_reason_b36 t_whys t_why t_more v1 v2 x35))
    else (
    chk v1 4 (
    nm (t_more v1.toNatClampNeg) fun x26 =>
    J_X10_reason_b36 t_whys t_why t_more v1 v2 x26)))
abbrev rmX10_reason : Room := { frames := 1, cells := 0, slots := 0, locals := 22 }
set_option maxHeartbeats 4000000 in
set_option maxRecDepth 100000 in
theorem c_X10_reason (l : Launch) (D : va_G) (cI cJ cC cL : ClassId) (q_t q_t_now q_t_tried q_t_thought q_t_kept q_t_saved q_t_finds q_t_reach q_t_steps q_t_glows q_t_lower q_t_upper q_t_line q_t_text q_t_told q_t_why q_t_more : Nat) (t_undos : Int32) (t_isSaved : Int32) (t_lined : Int32) (t_length : Int32) (t_at : Int32) (t_order : Int32) (t_whys : Int32) (t_answer : Int32) (t_why : Nat → Int32) (t_more : Nat → Int32) (v1 : Int32) (v2 : Int32) (r : Int32) (hJ : J_X10_reason t_whys t_why t_more v1 v2 = some (r)) (sz : Nat) : Met l yX10_reason wsX10_reason rmX10_reason (va_Pc [.ref q_t, .int v1, .int v2] (jpre XT D (tyL cI cJ cC cL) [(q_t, .inr (8, [.ref q_t_now, .ref q_t_tried, .ref q_t_thought, .ref q_t_kept, .int t_undos, .ref q_t_saved, .int t_isSaved, .ref q_t_finds, .ref q_t_reach, .ref q_t_steps, .ref q_t_glows, .ref q_t_lower, .ref q_t_upper, .ref q_t_line, .int t_lined, .ref q_t_text, .int t_length, .int t_at, .int t_order, .ref q_t_told, .ref q_t_why, .ref q_t_more, .int t_whys, .int t_answer])), (q_t_why, .inl (cI, 4, .inl t_why)), (q_t_more, .inl (cI, 4, .inl t_more))] sz)) (va_Qi (fun r' (_ : Unit) => r' = r) (fun _ t => jpost D (tyL cI cJ cC cL) (va_A [(q_t, .inr (8, [.ref q_t_now, .ref q_t_tried, .ref q_t_thought, .ref q_t_kept, .int t_undos, .ref q_t_saved, .int t_isSaved, .ref q_t_finds, .ref q_t_reach, .ref q_t_steps, .ref q_t_glows, .ref q_t_lower, .ref q_t_upper, .ref q_t_line, .int t_lined, .ref q_t_text, .int t_length, .int t_at, .int t_order, .ref q_t_told, .ref q_t_why, .ref q_t_more, .int t_whys, .int t_answer])), (q_t_why, .inl (cI, 4, .inl t_why)), (q_t_more, .inl (cI, 4, .inl t_more))] sz) [(q_t, .inr (8, [.ref q_t_now, .ref q_t_tried, .ref q_t_thought, .ref q_t_kept, .int t_undos, .ref q_t_saved, .int t_isSaved, .ref q_t_finds, .ref q_t_reach, .ref q_t_steps, .ref q_t_glows, .ref q_t_lower, .ref q_t_upper, .ref q_t_line, .int t_lined, .ref q_t_text, .int t_length, .int t_at, .int t_order, .ref q_t_told, .ref q_t_why, .ref q_t_more, .int t_whys, .int t_answer])), (q_t_why, .inl (cI, 4, .inl t_why)), (q_t_more, .inl (cI, 4, .inl t_more))] t) (va_A [(q_t, .inr (8, [.ref q_t_now, .ref q_t_tried, .ref q_t_thought, .ref q_t_kept, .int t_undos, .ref q_t_saved, .int t_isSaved, .ref q_t_finds, .ref q_t_reach, .ref q_t_steps, .ref q_t_glows, .ref q_t_lower, .ref q_t_upper, .ref q_t_line, .int t_lined, .ref q_t_text, .int t_length, .int t_at, .int t_order, .ref q_t_told, .ref q_t_why, .ref q_t_more, .int t_whys, .int t_answer])), (q_t_why, .inl (cI, 4, .inl t_why)), (q_t_more, .inl (cI, 4, .inl t_more))] sz)) 0 0 (va_A [(q_t, .inr (8, [.ref q_t_now, .ref q_t_tried, .ref q_t_thought, .ref q_t_kept, .int t_undos, .ref q_t_saved, .int t_isSaved, .ref q_t_finds, .ref q_t_reach, .ref q_t_steps, .ref q_t_glows, .ref q_t_lower, .ref q_t_upper, .ref q_t_line, .int t_lined, .ref q_t_text, .int t_length, .int t_at, .int t_order, .ref q_t_told, .ref q_t_why, .ref q_t_more, .int t_whys, .int t_answer])), (q_t_why, .inl (cI, 4, .inl t_why)), (q_t_more, .inl (cI, 4, .inl t_more))] sz) := by
  refine jE_i (cc := cX10_reason) (maxL := 3) (own := RX10) (ret := (some .int)) (lv0 := [(0, .ref q_t), (1, .int v1), (2, .int v2)]) (by decide) rfl rfl rfl (Nat.le_of_ble_eq_true rfl) rfl ?_
  intro p e s m args below meth c A Q ls hx hb hml hown hts hK hN hX hA hP hD hS hl hRet
  have hF : CallFix p m c cX10_reason 3 s args wsX10_reason RX10 := ⟨hx, hb, hml, hown, hts⟩
  have fl_53 := hts (.fieldLink RX10 53 "LanternLogicModel" "why" "[I") (by decide +kernel)
  have fl_56 := hts (.fieldLink RX10 56 "LanternLogicModel" "more" "[I") (by decide +kernel)
  have fl_63 := hts (.fieldLink RX10 63 "LanternLogicModel" "whys" "I") (by decide +kernel)
  have hin_X10 : ∀ w ∈ u_ws RX10 TX10 24, w ∈ wsX10_reason := by decide +kernel
  have B36 : ∀ (s36_0 : Int32) (H : Heap) (locs : List Loc), va_P D vwCl [(q_t, .inr (8, [.ref q_t_now, .ref q_t_tried, .ref q_t_thought, .ref q_t_kept, .int t_undos, .ref q_t_saved, .int t_isSaved, .ref q_t_finds, .ref q_t_reach, .ref q_t_steps, .ref q_t_glows, .ref q_t_lower, .ref q_t_upper, .ref q_t_line, .int t_lined, .ref q_t_text, .int t_length, .int t_at, .int t_order, .ref q_t_told, .ref q_t_why, .ref q_t_more, .int t_whys, .int t_answer])), (q_t_why, .inl (cI, 4, .inl t_why)), (q_t_more, .inl (cI, 4, .inl t_more))] H → va_D A [(q_t, .inr (8, [.ref q_t_now, .ref q_t_tried, .ref q_t_thought, .ref q_t_kept, .int t_undos, .ref q_t_saved, .int t_isSaved, .ref q_t_finds, .ref q_t_reach, .ref q_t_steps, .ref q_t_glows, .ref q_t_lower, .ref q_t_upper, .ref q_t_line, .int t_lined, .ref q_t_text, .int t_length, .int t_at, .int t_order, .ref q_t_told, .ref q_t_why, .ref q_t_more, .int t_whys, .int t_answer])), (q_t_why, .inl (cI, 4, .inl t_why)), (q_t_more, .inl (cI, 4, .inl t_more))] → va_S A s.heap H locs → ∀ ls : Array Slot, lv_has ls 3 [] → J_X10_reason_b36  t_whys t_why t_more v1 v2 s36_0 = some (r) → W p l e rmX10_reason s m args below meth c H locs 0 0 Q (F0 m 36 ls [.int s36_0]) := by
    intro s36_0 H locs hP hD hS ls hl hJ
    unfold J_X10_reason_b36 at hJ
    have e0 := Option.some.inj hJ
    exact hRet hP hD hS e0 dX10_reason_36
  unfold J_X10_reason at hJ
  refine lv_iload_n hx hb dX10_reason_0 rfl (lv_at hl 1 rfl) ?_
  refine lv_iconst (v := (0 : Int32)) hx hb dX10_reason_1 (by decide) ?_
  refine lv_aload_n hx hb dX10_reason_2 rfl (lv_at hl 0 rfl) ?_
  refine va_get (ci := 8) (v := .int t_whys) (C := RX10) (T := TX10) (N := 24) hx hb hts hin_X10 hown hK hP 0 rfl rfl 22 (by decide) fl_63 (fun _ h9 => h9) rfl dX10_reason_3 ?_
  refine lv_iconst (v := (1 : Int32)) hx hb dX10_reason_6 (by decide) ?_
  refine lv_isub hx hb dX10_reason_7 ?_
  refine jt_i hJ (fun x7 hJ => ?_)
  obtain ⟨x8, hc8, hJ⟩ := bnd1_some hJ
  refine jcS_i (As := [.int v1, .int (0 : Int32), .int x7]) (rest := []) (isC := []) (isR := [0, 1, 2]) (isB := [0, 1, 2]) (wr := [(q_t, .inr (8, [.ref q_t_now, .ref q_t_tried, .ref q_t_thought, .ref q_t_kept, .int t_undos, .ref q_t_saved, .int t_isSaved, .ref q_t_finds, .ref q_t_reach, .ref q_t_steps, .ref q_t_glows, .ref q_t_lower, .ref q_t_upper, .ref q_t_line, .int t_lined, .ref q_t_text, .int t_length, .int t_at, .int t_order, .ref q_t_told, .ref q_t_why, .ref q_t_more, .int t_whys, .int t_answer])), (q_t_why, .inl (cI, 4, .inl t_why)), (q_t_more, .inl (cI, 4, .inl t_more))]) (ws2 := [(q_t, .inr (8, [.ref q_t_now, .ref q_t_tried, .ref q_t_thought, .ref q_t_kept, .int t_undos, .ref q_t_saved, .int t_isSaved, .ref q_t_finds, .ref q_t_reach, .ref q_t_steps, .ref q_t_glows, .ref q_t_lower, .ref q_t_upper, .ref q_t_line, .int t_lined, .ref q_t_text, .int t_length, .int t_at, .int t_order, .ref q_t_told, .ref q_t_why, .ref q_t_more, .int t_whys, .int t_answer])), (q_t_why, .inl (cI, 4, .inl t_why)), (q_t_more, .inl (cI, 4, .inl t_more))]) hF (c_X10_in l D cI cJ cC cL v1 (0 : Int32) x7 x8 hc8 s.heap.size) (va_cwS 3 hts gX10_reason_X10_in rfl rfl rfl (by decide +kernel) ⟨Nat.le_of_ble_eq_true rfl, Nat.le_of_ble_eq_true rfl⟩) rfl hl rfl (Nat.le_of_ble_eq_true rfl) dX10_reason_8 ⟨Nat.zero_le _, Nat.zero_le _⟩ hK hN KX_T trivial hP hD hS hA rfl rfl rfl rfl (by decide) rfl rfl (fun H locs hP hD hS => ?_)
  refine jif_ne (tgt := 17) hx hb dX10_reason_11 (by decide) hJ (fun hJ => ?_) (fun hJ => ?_)
  · refine lv_iload_n hx hb dX10_reason_17 rfl (lv_at hl 2 rfl) ?_
    refine jif_eq (tgt := 30) hx hb dX10_reason_18 (by decide) hJ (fun hJ => ?_) (fun hJ => ?_)
    · refine lv_aload_n hx hb dX10_reason_30 rfl (lv_at hl 0 rfl) ?_
      refine va_get (ci := 8) (v := .ref q_t_why) (C := RX10) (T := TX10) (N := 24) hx hb hts hin_X10 hown hK hP 0 rfl rfl 20 (by decide) fl_53 (fun _ h9 => h9) rfl dX10_reason_31 ?_
      refine lv_iload_n hx hb dX10_reason_34 rfl (lv_at hl 1 rfl) ?_
      obtain ⟨hin, hJ⟩ := chk_in hJ
      refine va_iald hx hb hK hP 1 0 rfl rfl hin dX10_reason_35 ?_
      refine jt_i hJ (fun x35 hJ => ?_)
      exact B36  x35  H locs  hP hD hS _ (lv_sub hl [] rfl) hJ
    · refine lv_aload_n hx hb dX10_reason_21 rfl (lv_at hl 0 rfl) ?_
      refine va_get (ci := 8) (v := .ref q_t_more) (C := RX10) (T := TX10) (N := 24) hx hb hts hin_X10 hown hK hP 0 rfl rfl 21 (by decide) fl_56 (fun _ h9 => h9) rfl dX10_reason_22 ?_
      refine lv_iload_n hx hb dX10_reason_25 rfl (lv_at hl 1 rfl) ?_
      obtain ⟨hin, hJ⟩ := chk_in hJ
      refine va_iald hx hb hK hP 2 0 rfl rfl hin dX10_reason_26 ?_
      refine jt_i hJ (fun x26 hJ => ?_)
      refine lv_goto (tgt := 36) hx hb dX10_reason_27 (by decide) ?_
      exact B36  x26  H locs  hP hD hS _ (lv_sub hl [] rfl) hJ
  · refine lv_bipush (v := (-15 : Int32)) hx hb dX10_reason_14 (by decide) ?_
    have e0 := Option.some.inj hJ
    exact hRet hP hD hS e0 dX10_reason_16

def J_X10_isBalanced_b70 (t_now : Nat → Int32) (s70_0 : Int32) : Option (Int32) :=
    some (s70_0)
def J_X10_isBalanced_L4 (t_now : Nat → Int32) : Nat → Int32 → Int32 → Option (Int32)
  | 0, _, _ => none
  | nf + 1, v1, v2 =>
    chk (0 : Int32) 133 (
    nm (t_now (0 : Int32).toNatClampNeg) fun x10 =>
    if x10 ≤ v2 then (
    chk (3 : Int32) 133 (
    nm (t_now (3 : Int32).toNatClampNeg) fun x54 =>
    chk (4 : Int32) 133 (
    nm (t_now (4 : Int32).toNatClampNeg) fun x60 =>
    if v1 = (x54 + x60) then (
    J_X10_isBalanced_b70 t_now (1 : Int32))
    else (
    J_X10_isBalanced_b70 t_now (0 : Int32)))))
    else (
    bnd1 (J_X10_of t_now v2 (3 : Int32)) fun x17 =>
    chn (2 : Int32) (
    nm (x17 - x17 / (2 : Int32) * (2 : Int32)) fun x21 =>
    bnd1 (J_X10_of t_now v2 (2 : Int32)) fun x25 =>
    if x21 = x25 then (
    bnd1 (J_X10_of t_now v2 (3 : Int32)) fun x37 =>
    nm (v1 + x37) fun x40 =>
    nm (v2 + Int32.ofInt 1) fun x42 =>
    J_X10_isBalanced_L4 t_now nf x40 x42)
    else (
    some ((0 : Int32))))))
def J_X10_isBalanced (t_now : Nat → Int32) : Option (Int32) :=
    J_X10_isBalanced_L4 t_now FU (0 : Int32) (0 : Int32)
abbrev rmX10_isBalanced : Room := { frames := 1, cells := 0, slots := 0, locals := 22 }
set_option maxHeartbeats 4000000 in
set_option maxRecDepth 100000 in
theorem c_X10_isBalanced (l : Launch) (D : va_G) (cI cJ cC cL : ClassId) (q_t q_t_now q_t_tried q_t_thought q_t_kept q_t_saved q_t_finds q_t_reach q_t_steps q_t_glows q_t_lower q_t_upper q_t_line q_t_text q_t_told q_t_why q_t_more : Nat) (t_undos : Int32) (t_isSaved : Int32) (t_lined : Int32) (t_length : Int32) (t_at : Int32) (t_order : Int32) (t_whys : Int32) (t_answer : Int32) (t_now : Nat → Int32) (r : Int32) (hJ : J_X10_isBalanced t_now = some (r)) (sz : Nat) : Met l yX10_isBalanced wsX10_isBalanced rmX10_isBalanced (va_Pc [.ref q_t] (jpre XT D (tyL cI cJ cC cL) [(q_t, .inr (8, [.ref q_t_now, .ref q_t_tried, .ref q_t_thought, .ref q_t_kept, .int t_undos, .ref q_t_saved, .int t_isSaved, .ref q_t_finds, .ref q_t_reach, .ref q_t_steps, .ref q_t_glows, .ref q_t_lower, .ref q_t_upper, .ref q_t_line, .int t_lined, .ref q_t_text, .int t_length, .int t_at, .int t_order, .ref q_t_told, .ref q_t_why, .ref q_t_more, .int t_whys, .int t_answer])), (q_t_now, .inl (cI, 133, .inl t_now))] sz)) (va_Qi (fun r' (_ : Unit) => r' = r) (fun _ t => jpost D (tyL cI cJ cC cL) (va_A [(q_t, .inr (8, [.ref q_t_now, .ref q_t_tried, .ref q_t_thought, .ref q_t_kept, .int t_undos, .ref q_t_saved, .int t_isSaved, .ref q_t_finds, .ref q_t_reach, .ref q_t_steps, .ref q_t_glows, .ref q_t_lower, .ref q_t_upper, .ref q_t_line, .int t_lined, .ref q_t_text, .int t_length, .int t_at, .int t_order, .ref q_t_told, .ref q_t_why, .ref q_t_more, .int t_whys, .int t_answer])), (q_t_now, .inl (cI, 133, .inl t_now))] sz) [(q_t, .inr (8, [.ref q_t_now, .ref q_t_tried, .ref q_t_thought, .ref q_t_kept, .int t_undos, .ref q_t_saved, .int t_isSaved, .ref q_t_finds, .ref q_t_reach, .ref q_t_steps, .ref q_t_glows, .ref q_t_lower, .ref q_t_upper, .ref q_t_line, .int t_lined, .ref q_t_text, .int t_length, .int t_at, .int t_order, .ref q_t_told, .ref q_t_why, .ref q_t_more, .int t_whys, .int t_answer])), (q_t_now, .inl (cI, 133, .inl t_now))] t) (va_A [(q_t, .inr (8, [.ref q_t_now, .ref q_t_tried, .ref q_t_thought, .ref q_t_kept, .int t_undos, .ref q_t_saved, .int t_isSaved, .ref q_t_finds, .ref q_t_reach, .ref q_t_steps, .ref q_t_glows, .ref q_t_lower, .ref q_t_upper, .ref q_t_line, .int t_lined, .ref q_t_text, .int t_length, .int t_at, .int t_order, .ref q_t_told, .ref q_t_why, .ref q_t_more, .int t_whys, .int t_answer])), (q_t_now, .inl (cI, 133, .inl t_now))] sz)) 0 0 (va_A [(q_t, .inr (8, [.ref q_t_now, .ref q_t_tried, .ref q_t_thought, .ref q_t_kept, .int t_undos, .ref q_t_saved, .int t_isSaved, .ref q_t_finds, .ref q_t_reach, .ref q_t_steps, .ref q_t_glows, .ref q_t_lower, .ref q_t_upper, .ref q_t_line, .int t_lined, .ref q_t_text, .int t_length, .int t_at, .int t_order, .ref q_t_told, .ref q_t_why, .ref q_t_more, .int t_whys, .int t_answer])), (q_t_now, .inl (cI, 133, .inl t_now))] sz) := by
  refine jE_i (cc := cX10_isBalanced) (maxL := 3) (own := RX10) (ret := (some .int)) (lv0 := [(0, .ref q_t)]) (by decide) rfl rfl rfl (Nat.le_of_ble_eq_true rfl) rfl ?_
  intro p e s m args below meth c A Q ls hx hb hml hown hts hK hN hX hA hP hD hS hl hRet
  have hF : CallFix p m c cX10_isBalanced 3 s args wsX10_isBalanced RX10 := ⟨hx, hb, hml, hown, hts⟩
  have fl_9 := hts (.fieldLink RX10 9 "LanternLogicModel" "now" "[I") (by decide +kernel)
  have hin_X10 : ∀ w ∈ u_ws RX10 TX10 24, w ∈ wsX10_isBalanced := by decide +kernel
  have B70 : ∀ (s70_0 : Int32) (H : Heap) (locs : List Loc), va_P D vwCl [(q_t, .inr (8, [.ref q_t_now, .ref q_t_tried, .ref q_t_thought, .ref q_t_kept, .int t_undos, .ref q_t_saved, .int t_isSaved, .ref q_t_finds, .ref q_t_reach, .ref q_t_steps, .ref q_t_glows, .ref q_t_lower, .ref q_t_upper, .ref q_t_line, .int t_lined, .ref q_t_text, .int t_length, .int t_at, .int t_order, .ref q_t_told, .ref q_t_why, .ref q_t_more, .int t_whys, .int t_answer])), (q_t_now, .inl (cI, 133, .inl t_now))] H → va_D A [(q_t, .inr (8, [.ref q_t_now, .ref q_t_tried, .ref q_t_thought, .ref q_t_kept, .int t_undos, .ref q_t_saved, .int t_isSaved, .ref q_t_finds, .ref q_t_reach, .ref q_t_steps, .ref q_t_glows, .ref q_t_lower, .ref q_t_upper, .ref q_t_line, .int t_lined, .ref q_t_text, .int t_length, .int t_at, .int t_order, .ref q_t_told, .ref q_t_why, .ref q_t_more, .int t_whys, .int t_answer])), (q_t_now, .inl (cI, 133, .inl t_now))] → va_S A s.heap H locs → ∀ ls : Array Slot, lv_has ls 3 [] → J_X10_isBalanced_b70  t_now s70_0 = some (r) → W p l e rmX10_isBalanced s m args below meth c H locs 0 0 Q (F0 m 70 ls [.int s70_0]) := by
    intro s70_0 H locs hP hD hS ls hl hJ
    unfold J_X10_isBalanced_b70 at hJ
    have e0 := Option.some.inj hJ
    exact hRet hP hD hS e0 dX10_isBalanced_70
  have L4 : ∀ (nf : Nat), ∀ (v1 : Int32) (v2 : Int32) (H : Heap) (locs : List Loc), va_P D vwCl [(q_t, .inr (8, [.ref q_t_now, .ref q_t_tried, .ref q_t_thought, .ref q_t_kept, .int t_undos, .ref q_t_saved, .int t_isSaved, .ref q_t_finds, .ref q_t_reach, .ref q_t_steps, .ref q_t_glows, .ref q_t_lower, .ref q_t_upper, .ref q_t_line, .int t_lined, .ref q_t_text, .int t_length, .int t_at, .int t_order, .ref q_t_told, .ref q_t_why, .ref q_t_more, .int t_whys, .int t_answer])), (q_t_now, .inl (cI, 133, .inl t_now))] H → va_D A [(q_t, .inr (8, [.ref q_t_now, .ref q_t_tried, .ref q_t_thought, .ref q_t_kept, .int t_undos, .ref q_t_saved, .int t_isSaved, .ref q_t_finds, .ref q_t_reach, .ref q_t_steps, .ref q_t_glows, .ref q_t_lower, .ref q_t_upper, .ref q_t_line, .int t_lined, .ref q_t_text, .int t_length, .int t_at, .int t_order, .ref q_t_told, .ref q_t_why, .ref q_t_more, .int t_whys, .int t_answer])), (q_t_now, .inl (cI, 133, .inl t_now))] → va_S A s.heap H locs → ∀ ls : Array Slot, lv_has ls 3 [(0, .ref q_t), (1, .int v1), (2, .int v2)] → J_X10_isBalanced_L4  t_now nf v1 v2 = some (r) → W p l e rmX10_isBalanced s m args below meth c H locs 0 0 Q (F0 m 4 ls []) := by
    intro nf
    induction nf with
    | zero =>
      intro v1 v2 H locs hP hD hS ls hl hJ
      rw [J_X10_isBalanced_L4] at hJ
      cases hJ
    | succ nf ih =>
      intro v1 v2 H locs hP hD hS ls hl hJ
      rw [J_X10_isBalanced_L4] at hJ
      refine lv_iload_n hx hb dX10_isBalanced_4 rfl (lv_at hl 2 rfl) ?_
      refine lv_aload_n hx hb dX10_isBalanced_5 rfl (lv_at hl 0 rfl) ?_
      refine va_get (ci := 8) (v := .ref q_t_now) (C := RX10) (T := TX10) (N := 24) hx hb hts hin_X10 hown hK hP 0 rfl rfl 0 (by decide) fl_9 (fun _ h9 => h9) rfl dX10_isBalanced_6 ?_
      refine lv_iconst (v := (0 : Int32)) hx hb dX10_isBalanced_9 (by decide) ?_
      obtain ⟨hin, hJ⟩ := chk_in hJ
      refine va_iald hx hb hK hP 1 0 rfl rfl hin dX10_isBalanced_10 ?_
      refine jt_i hJ (fun x10 hJ => ?_)
      refine jif_icmp_ge (tgt := 48) hx hb dX10_isBalanced_11 (by decide) hJ (fun hJ => ?_) (fun hJ => ?_)
      · refine lv_iload_n hx hb dX10_isBalanced_48 rfl (lv_at hl 1 rfl) ?_
        refine lv_aload_n hx hb dX10_isBalanced_49 rfl (lv_at hl 0 rfl) ?_
        refine va_get (ci := 8) (v := .ref q_t_now) (C := RX10) (T := TX10) (N := 24) hx hb hts hin_X10 hown hK hP 0 rfl rfl 0 (by decide) fl_9 (fun _ h9 => h9) rfl dX10_isBalanced_50 ?_
        refine lv_iconst (v := (3 : Int32)) hx hb dX10_isBalanced_53 (by decide) ?_
        obtain ⟨hin, hJ⟩ := chk_in hJ
        refine va_iald hx hb hK hP 1 0 rfl rfl hin dX10_isBalanced_54 ?_
        refine jt_i hJ (fun x54 hJ => ?_)
        refine lv_aload_n hx hb dX10_isBalanced_55 rfl (lv_at hl 0 rfl) ?_
        refine va_get (ci := 8) (v := .ref q_t_now) (C := RX10) (T := TX10) (N := 24) hx hb hts hin_X10 hown hK hP 0 rfl rfl 0 (by decide) fl_9 (fun _ h9 => h9) rfl dX10_isBalanced_56 ?_
        refine lv_iconst (v := (4 : Int32)) hx hb dX10_isBalanced_59 (by decide) ?_
        obtain ⟨hin, hJ⟩ := chk_in hJ
        refine va_iald hx hb hK hP 1 0 rfl rfl hin dX10_isBalanced_60 ?_
        refine jt_i hJ (fun x60 hJ => ?_)
        refine lv_iadd hx hb dX10_isBalanced_61 ?_
        refine jif_icmp_ne (tgt := 69) hx hb dX10_isBalanced_62 (by decide) hJ (fun hJ => ?_) (fun hJ => ?_)
        · refine lv_iconst (v := (0 : Int32)) hx hb dX10_isBalanced_69 (by decide) ?_
          exact B70  (0 : Int32)  H locs  hP hD hS _ (lv_sub hl [] rfl) hJ
        · refine lv_iconst (v := (1 : Int32)) hx hb dX10_isBalanced_65 (by decide) ?_
          refine lv_goto (tgt := 70) hx hb dX10_isBalanced_66 (by decide) ?_
          exact B70  (1 : Int32)  H locs  hP hD hS _ (lv_sub hl [] rfl) hJ
      · refine lv_aload_n hx hb dX10_isBalanced_14 rfl (lv_at hl 0 rfl) ?_
        refine lv_iload_n hx hb dX10_isBalanced_15 rfl (lv_at hl 2 rfl) ?_
        refine lv_iconst (v := (3 : Int32)) hx hb dX10_isBalanced_16 (by decide) ?_
        obtain ⟨x17, hc17, hJ⟩ := bnd1_some hJ
        refine jcV_i (C := RX10) (T := TX10) (N := 24) (ci := 8) (q0 := 0) (As := [.int v2, .int (3 : Int32)]) (rest := []) (isC := [0, 1]) (isR := []) (isB := [0, 1]) (wr := []) (ws2 := [(q_t, .inr (8, [.ref q_t_now, .ref q_t_tried, .ref q_t_thought, .ref q_t_kept, .int t_undos, .ref q_t_saved, .int t_isSaved, .ref q_t_finds, .ref q_t_reach, .ref q_t_steps, .ref q_t_glows, .ref q_t_lower, .ref q_t_upper, .ref q_t_line, .int t_lined, .ref q_t_text, .int t_length, .int t_at, .int t_order, .ref q_t_told, .ref q_t_why, .ref q_t_more, .int t_whys, .int t_answer])), (q_t_now, .inl (cI, 133, .inl t_now))]) hF (c_X10_of l D cI cJ cC cL q_t q_t_now q_t_tried q_t_thought q_t_kept q_t_saved q_t_finds q_t_reach q_t_steps q_t_glows q_t_lower q_t_upper q_t_line q_t_text q_t_told q_t_why q_t_more t_undos t_isSaved t_lined t_length t_at t_order t_whys t_answer t_now v2 (3 : Int32) x17 hc17 H.size) (cwV 2 hts gX10_isBalanced_X10_of rfl rfl rfl (by decide +kernel) ⟨Nat.le_of_ble_eq_true rfl, Nat.le_of_ble_eq_true rfl⟩) rfl hl rfl (Nat.le_of_ble_eq_true rfl) dX10_isBalanced_17 ⟨Nat.zero_le _, Nat.zero_le _⟩ hK hN KX_T trivial hP hD hS hA rfl rfl rfl rfl rfl rfl (by decide) rfl rfl (fun H locs hP hD hS => ?_)
        refine lv_iconst (v := (2 : Int32)) hx hb dX10_isBalanced_20 (by decide) ?_
        obtain ⟨hne, hJ⟩ := chn_ok hJ
        refine lv_irem hx hb dX10_isBalanced_21 hne ?_
        refine jt_i hJ (fun x21 hJ => ?_)
        refine lv_aload_n hx hb dX10_isBalanced_22 rfl (lv_at hl 0 rfl) ?_
        refine lv_iload_n hx hb dX10_isBalanced_23 rfl (lv_at hl 2 rfl) ?_
        refine lv_iconst (v := (2 : Int32)) hx hb dX10_isBalanced_24 (by decide) ?_
        obtain ⟨x25, hc25, hJ⟩ := bnd1_some hJ
        refine jcV_i (C := RX10) (T := TX10) (N := 24) (ci := 8) (q0 := 0) (As := [.int v2, .int (2 : Int32)]) (rest := [.int x21]) (isC := [0, 1]) (isR := []) (isB := [0, 1]) (wr := []) (ws2 := [(q_t, .inr (8, [.ref q_t_now, .ref q_t_tried, .ref q_t_thought, .ref q_t_kept, .int t_undos, .ref q_t_saved, .int t_isSaved, .ref q_t_finds, .ref q_t_reach, .ref q_t_steps, .ref q_t_glows, .ref q_t_lower, .ref q_t_upper, .ref q_t_line, .int t_lined, .ref q_t_text, .int t_length, .int t_at, .int t_order, .ref q_t_told, .ref q_t_why, .ref q_t_more, .int t_whys, .int t_answer])), (q_t_now, .inl (cI, 133, .inl t_now))]) hF (c_X10_of l D cI cJ cC cL q_t q_t_now q_t_tried q_t_thought q_t_kept q_t_saved q_t_finds q_t_reach q_t_steps q_t_glows q_t_lower q_t_upper q_t_line q_t_text q_t_told q_t_why q_t_more t_undos t_isSaved t_lined t_length t_at t_order t_whys t_answer t_now v2 (2 : Int32) x25 hc25 H.size) (cwV 2 hts gX10_isBalanced_X10_of rfl rfl rfl (by decide +kernel) ⟨Nat.le_of_ble_eq_true rfl, Nat.le_of_ble_eq_true rfl⟩) rfl hl rfl (Nat.le_of_ble_eq_true rfl) dX10_isBalanced_25 ⟨Nat.zero_le _, Nat.zero_le _⟩ hK hN KX_T trivial hP hD hS hA rfl rfl rfl rfl rfl rfl (by decide) rfl rfl (fun H locs hP hD hS => ?_)
        refine jif_icmp_eq (tgt := 33) hx hb dX10_isBalanced_28 (by decide) hJ (fun hJ => ?_) (fun hJ => ?_)
        · refine lv_iload_n hx hb dX10_isBalanced_33 rfl (lv_at hl 1 rfl) ?_
          refine lv_aload_n hx hb dX10_isBalanced_34 rfl (lv_at hl 0 rfl) ?_
          refine lv_iload_n hx hb dX10_isBalanced_35 rfl (lv_at hl 2 rfl) ?_
          refine lv_iconst (v := (3 : Int32)) hx hb dX10_isBalanced_36 (by decide) ?_
          obtain ⟨x37, hc37, hJ⟩ := bnd1_some hJ
          refine jcV_i (C := RX10) (T := TX10) (N := 24) (ci := 8) (q0 := 0) (As := [.int v2, .int (3 : Int32)]) (rest := [.int v1]) (isC := [0, 1]) (isR := []) (isB := [0, 1]) (wr := []) (ws2 := [(q_t, .inr (8, [.ref q_t_now, .ref q_t_tried, .ref q_t_thought, .ref q_t_kept, .int t_undos, .ref q_t_saved, .int t_isSaved, .ref q_t_finds, .ref q_t_reach, .ref q_t_steps, .ref q_t_glows, .ref q_t_lower, .ref q_t_upper, .ref q_t_line, .int t_lined, .ref q_t_text, .int t_length, .int t_at, .int t_order, .ref q_t_told, .ref q_t_why, .ref q_t_more, .int t_whys, .int t_answer])), (q_t_now, .inl (cI, 133, .inl t_now))]) hF (c_X10_of l D cI cJ cC cL q_t q_t_now q_t_tried q_t_thought q_t_kept q_t_saved q_t_finds q_t_reach q_t_steps q_t_glows q_t_lower q_t_upper q_t_line q_t_text q_t_told q_t_why q_t_more t_undos t_isSaved t_lined t_length t_at t_order t_whys t_answer t_now v2 (3 : Int32) x37 hc37 H.size) (cwV 2 hts gX10_isBalanced_X10_of rfl rfl rfl (by decide +kernel) ⟨Nat.le_of_ble_eq_true rfl, Nat.le_of_ble_eq_true rfl⟩) rfl hl rfl (Nat.le_of_ble_eq_true rfl) dX10_isBalanced_37 ⟨Nat.zero_le _, Nat.zero_le _⟩ hK hN KX_T trivial hP hD hS hA rfl rfl rfl rfl rfl rfl (by decide) rfl rfl (fun H locs hP hD hS => ?_)
          refine lv_iadd hx hb dX10_isBalanced_40 ?_
          refine jt_i hJ (fun x40 hJ => ?_)
          refine lv_istore_n (lv' := [(1, .int x40), (0, .ref q_t), (2, .int v2)]) hx hb dX10_isBalanced_41 rfl hl (by decide) rfl (fun ls hl => ?_)
          refine jt_iinc hJ (fun x42 ex42 hJ => ?_)
          refine lv_iinc (v := x42) (lv' := [(2, .int x42), (1, .int x40), (0, .ref q_t)]) hx hb dX10_isBalanced_42 hl (k := 2) rfl ex42 (by decide) rfl (fun ls hl => ?_)
          refine lv_goto (tgt := 4) hx hb dX10_isBalanced_45 (by decide) ?_
          exact ih x40 x42  H locs  hP hD hS _ (lv_sub hl [2, 1, 0] rfl) hJ
        · refine lv_iconst (v := (0 : Int32)) hx hb dX10_isBalanced_31 (by decide) ?_
          have e0 := Option.some.inj hJ
          exact hRet hP hD hS e0 dX10_isBalanced_32
  unfold J_X10_isBalanced at hJ
  refine lv_iconst (v := (0 : Int32)) hx hb dX10_isBalanced_0 (by decide) ?_
  refine lv_istore_n (lv' := [(1, .int (0 : Int32)), (0, .ref q_t)]) hx hb dX10_isBalanced_1 rfl hl (by decide) rfl (fun ls hl => ?_)
  refine lv_iconst (v := (0 : Int32)) hx hb dX10_isBalanced_2 (by decide) ?_
  refine lv_istore_n (lv' := [(2, .int (0 : Int32)), (1, .int (0 : Int32)), (0, .ref q_t)]) hx hb dX10_isBalanced_3 rfl hl (by decide) rfl (fun ls hl => ?_)
  exact L4  FU (0 : Int32) (0 : Int32)  s.heap []  hP hD hS _ (lv_sub hl [2, 1, 0] rfl) hJ

def J_X10_undo_L22 (t_kept : Nat → Int32) : Nat → Int32 → (Nat → Int32) → Int32 → Option (Int32 × Int32 × (Nat → Int32))
  | 0, _, _, _ => none
  | nf + 1, t_undos, t_now, v1 =>
    if (133 : Int32) ≤ v1 then (
    some (t_undos, t_undos, t_now))
    else (
    nm ((133 : Int32) * t_undos) fun x45 =>
    nm (x45 + v1) fun x47 =>
    chk x47 1064 (
    nm (t_kept x47.toNatClampNeg) fun x48 =>
    chk v1 133 (
    nm (v1 + Int32.ofInt 1) fun x50 =>
    J_X10_undo_L22 t_kept nf t_undos (upd t_now v1.toNatClampNeg x48) x50)))
def J_X10_undo (t_undos : Int32) (t_now : Nat → Int32) (t_kept : Nat → Int32) : Option (Int32 × Int32 × (Nat → Int32)) :=
    if t_undos = 0 then (
    some ((-15 : Int32), t_undos, t_now))
    else (
    nm (t_undos - (1 : Int32)) fun x16 =>
    J_X10_undo_L22 t_kept FU x16 t_now (0 : Int32))
abbrev rmX10_undo : Room := { frames := 0, cells := 0, slots := 0, locals := 0 }
set_option maxHeartbeats 4000000 in
set_option maxRecDepth 100000 in
theorem c_X10_undo (l : Launch) (D : va_G) (cI cJ cC cL : ClassId) (q_t q_t_now q_t_tried q_t_thought q_t_kept q_t_saved q_t_finds q_t_reach q_t_steps q_t_glows q_t_lower q_t_upper q_t_line q_t_text q_t_told q_t_why q_t_more : Nat) (t_undos : Int32) (t_isSaved : Int32) (t_lined : Int32) (t_length : Int32) (t_at : Int32) (t_order : Int32) (t_whys : Int32) (t_answer : Int32) (t_now : Nat → Int32) (t_kept : Nat → Int32) (r : Int32) (o_t_undos : Int32) (o_t_now : Nat → Int32) (hJ : J_X10_undo t_undos t_now t_kept = some (r, o_t_undos, o_t_now)) (sz : Nat) : Met l yX10_undo wsX10_undo rmX10_undo (va_Pc [.ref q_t] (jpre XT D (tyL cI cJ cC cL) [(q_t, .inr (8, [.ref q_t_now, .ref q_t_tried, .ref q_t_thought, .ref q_t_kept, .int t_undos, .ref q_t_saved, .int t_isSaved, .ref q_t_finds, .ref q_t_reach, .ref q_t_steps, .ref q_t_glows, .ref q_t_lower, .ref q_t_upper, .ref q_t_line, .int t_lined, .ref q_t_text, .int t_length, .int t_at, .int t_order, .ref q_t_told, .ref q_t_why, .ref q_t_more, .int t_whys, .int t_answer])), (q_t_now, .inl (cI, 133, .inl t_now)), (q_t_kept, .inl (cI, 1064, .inl t_kept))] sz)) (va_Qi (fun r' (_ : Unit) => r' = r) (fun _ t => jpost D (tyL cI cJ cC cL) (va_A [(q_t, .inr (8, [.ref q_t_now, .ref q_t_tried, .ref q_t_thought, .ref q_t_kept, .int t_undos, .ref q_t_saved, .int t_isSaved, .ref q_t_finds, .ref q_t_reach, .ref q_t_steps, .ref q_t_glows, .ref q_t_lower, .ref q_t_upper, .ref q_t_line, .int t_lined, .ref q_t_text, .int t_length, .int t_at, .int t_order, .ref q_t_told, .ref q_t_why, .ref q_t_more, .int t_whys, .int t_answer])), (q_t_now, .inl (cI, 133, .inl t_now)), (q_t_kept, .inl (cI, 1064, .inl t_kept))] sz) [(q_t, .inr (8, [.ref q_t_now, .ref q_t_tried, .ref q_t_thought, .ref q_t_kept, .int o_t_undos, .ref q_t_saved, .int t_isSaved, .ref q_t_finds, .ref q_t_reach, .ref q_t_steps, .ref q_t_glows, .ref q_t_lower, .ref q_t_upper, .ref q_t_line, .int t_lined, .ref q_t_text, .int t_length, .int t_at, .int t_order, .ref q_t_told, .ref q_t_why, .ref q_t_more, .int t_whys, .int t_answer])), (q_t_now, .inl (cI, 133, .inl o_t_now)), (q_t_kept, .inl (cI, 1064, .inl t_kept))] t) (va_A [(q_t, .inr (8, [.ref q_t_now, .ref q_t_tried, .ref q_t_thought, .ref q_t_kept, .int t_undos, .ref q_t_saved, .int t_isSaved, .ref q_t_finds, .ref q_t_reach, .ref q_t_steps, .ref q_t_glows, .ref q_t_lower, .ref q_t_upper, .ref q_t_line, .int t_lined, .ref q_t_text, .int t_length, .int t_at, .int t_order, .ref q_t_told, .ref q_t_why, .ref q_t_more, .int t_whys, .int t_answer])), (q_t_now, .inl (cI, 133, .inl t_now)), (q_t_kept, .inl (cI, 1064, .inl t_kept))] sz)) 0 0 (va_A [(q_t, .inr (8, [.ref q_t_now, .ref q_t_tried, .ref q_t_thought, .ref q_t_kept, .int t_undos, .ref q_t_saved, .int t_isSaved, .ref q_t_finds, .ref q_t_reach, .ref q_t_steps, .ref q_t_glows, .ref q_t_lower, .ref q_t_upper, .ref q_t_line, .int t_lined, .ref q_t_text, .int t_length, .int t_at, .int t_order, .ref q_t_told, .ref q_t_why, .ref q_t_more, .int t_whys, .int t_answer])), (q_t_now, .inl (cI, 133, .inl t_now)), (q_t_kept, .inl (cI, 1064, .inl t_kept))] sz) := by
  refine jE_i (cc := cX10_undo) (maxL := 2) (own := RX10) (ret := (some .int)) (lv0 := [(0, .ref q_t)]) (by decide) rfl rfl rfl (Nat.le_of_ble_eq_true rfl) rfl ?_
  intro p e s m args below meth c A Q ls hx hb hml hown hts hK hN hX hA hP hD hS hl hRet
  have hF : CallFix p m c cX10_undo 2 s args wsX10_undo RX10 := ⟨hx, hb, hml, hown, hts⟩
  have fl_9 := hts (.fieldLink RX10 9 "LanternLogicModel" "now" "[I") (by decide +kernel)
  have fl_19 := hts (.fieldLink RX10 19 "LanternLogicModel" "kept" "[I") (by decide +kernel)
  have fl_59 := hts (.fieldLink RX10 59 "LanternLogicModel" "undos" "I") (by decide +kernel)
  have hin_X10 : ∀ w ∈ u_ws RX10 TX10 24, w ∈ wsX10_undo := by decide +kernel
  have L22 : ∀ (nf : Nat), ∀ (t_undos : Int32) (t_now : Nat → Int32) (v1 : Int32) (H : Heap) (locs : List Loc), va_P D vwCl [(q_t, .inr (8, [.ref q_t_now, .ref q_t_tried, .ref q_t_thought, .ref q_t_kept, .int t_undos, .ref q_t_saved, .int t_isSaved, .ref q_t_finds, .ref q_t_reach, .ref q_t_steps, .ref q_t_glows, .ref q_t_lower, .ref q_t_upper, .ref q_t_line, .int t_lined, .ref q_t_text, .int t_length, .int t_at, .int t_order, .ref q_t_told, .ref q_t_why, .ref q_t_more, .int t_whys, .int t_answer])), (q_t_now, .inl (cI, 133, .inl t_now)), (q_t_kept, .inl (cI, 1064, .inl t_kept))] H → va_D A [(q_t, .inr (8, [.ref q_t_now, .ref q_t_tried, .ref q_t_thought, .ref q_t_kept, .int t_undos, .ref q_t_saved, .int t_isSaved, .ref q_t_finds, .ref q_t_reach, .ref q_t_steps, .ref q_t_glows, .ref q_t_lower, .ref q_t_upper, .ref q_t_line, .int t_lined, .ref q_t_text, .int t_length, .int t_at, .int t_order, .ref q_t_told, .ref q_t_why, .ref q_t_more, .int t_whys, .int t_answer])), (q_t_now, .inl (cI, 133, .inl t_now)), (q_t_kept, .inl (cI, 1064, .inl t_kept))] → va_S A s.heap H locs → ∀ ls : Array Slot, lv_has ls 2 [(0, .ref q_t), (1, .int v1)] → J_X10_undo_L22  t_kept nf t_undos t_now v1 = some (r, o_t_undos, o_t_now) → W p l e rmX10_undo s m args below meth c H locs 0 0 Q (F0 m 22 ls []) := by
    intro nf
    induction nf with
    | zero =>
      intro t_undos t_now v1 H locs hP hD hS ls hl hJ
      rw [J_X10_undo_L22] at hJ
      cases hJ
    | succ nf ih =>
      intro t_undos t_now v1 H locs hP hD hS ls hl hJ
      rw [J_X10_undo_L22] at hJ
      refine lv_iload_n hx hb dX10_undo_22 rfl (lv_at hl 1 rfl) ?_
      refine lv_sipush (v := (133 : Int32)) hx hb dX10_undo_23 (by decide) ?_
      refine jif_icmp_ge (tgt := 56) hx hb dX10_undo_26 (by decide) hJ (fun hJ => ?_) (fun hJ => ?_)
      · refine lv_aload_n hx hb dX10_undo_56 rfl (lv_at hl 0 rfl) ?_
        refine va_get (ci := 8) (v := .int t_undos) (C := RX10) (T := TX10) (N := 24) hx hb hts hin_X10 hown hK hP 0 rfl rfl 4 (by decide) fl_59 (fun _ h9 => h9) rfl dX10_undo_57 ?_
        have hJ := Option.some.inj hJ
        obtain ⟨e0, e1, e2⟩ : (t_undos) = r ∧ (t_undos) = o_t_undos ∧ (t_now) = o_t_now := ⟨congrArg (fun z => z.1) hJ, congrArg (fun z => z.2.1) hJ, congrArg (fun z => z.2.2) hJ⟩
        exact hRet (by rw [← e1, ← e2]; exact hP) (by rw [← e1, ← e2]; exact hD) hS e0 dX10_undo_60
      · refine lv_aload_n hx hb dX10_undo_29 rfl (lv_at hl 0 rfl) ?_
        refine va_get (ci := 8) (v := .ref q_t_now) (C := RX10) (T := TX10) (N := 24) hx hb hts hin_X10 hown hK hP 0 rfl rfl 0 (by decide) fl_9 (fun _ h9 => h9) rfl dX10_undo_30 ?_
        refine lv_iload_n hx hb dX10_undo_33 rfl (lv_at hl 1 rfl) ?_
        refine lv_aload_n hx hb dX10_undo_34 rfl (lv_at hl 0 rfl) ?_
        refine va_get (ci := 8) (v := .ref q_t_kept) (C := RX10) (T := TX10) (N := 24) hx hb hts hin_X10 hown hK hP 0 rfl rfl 3 (by decide) fl_19 (fun _ h9 => h9) rfl dX10_undo_35 ?_
        refine lv_sipush (v := (133 : Int32)) hx hb dX10_undo_38 (by decide) ?_
        refine lv_aload_n hx hb dX10_undo_41 rfl (lv_at hl 0 rfl) ?_
        refine va_get (ci := 8) (v := .int t_undos) (C := RX10) (T := TX10) (N := 24) hx hb hts hin_X10 hown hK hP 0 rfl rfl 4 (by decide) fl_59 (fun _ h9 => h9) rfl dX10_undo_42 ?_
        refine lv_imul hx hb dX10_undo_45 ?_
        refine jt_i hJ (fun x45 hJ => ?_)
        refine lv_iload_n hx hb dX10_undo_46 rfl (lv_at hl 1 rfl) ?_
        refine lv_iadd hx hb dX10_undo_47 ?_
        refine jt_i hJ (fun x47 hJ => ?_)
        obtain ⟨hin, hJ⟩ := chk_in hJ
        refine va_iald hx hb hK hP 2 0 rfl rfl hin dX10_undo_48 ?_
        refine jt_i hJ (fun x48 hJ => ?_)
        obtain ⟨hin, hJ⟩ := chk_in hJ
        refine va_iast hx hb hK hP hD hS 1 0 rfl rfl hin dX10_undo_49 (fun H locs hP hD hS => ?_)
        have hP : va_P D vwCl [(q_t, .inr (8, [.ref q_t_now, .ref q_t_tried, .ref q_t_thought, .ref q_t_kept, .int t_undos, .ref q_t_saved, .int t_isSaved, .ref q_t_finds, .ref q_t_reach, .ref q_t_steps, .ref q_t_glows, .ref q_t_lower, .ref q_t_upper, .ref q_t_line, .int t_lined, .ref q_t_text, .int t_length, .int t_at, .int t_order, .ref q_t_told, .ref q_t_why, .ref q_t_more, .int t_whys, .int t_answer])), (q_t_now, .inl (cI, 133, .inl (upd t_now v1.toNatClampNeg x48))), (q_t_kept, .inl (cI, 1064, .inl t_kept))] H := hP
        have hD : va_D A [(q_t, .inr (8, [.ref q_t_now, .ref q_t_tried, .ref q_t_thought, .ref q_t_kept, .int t_undos, .ref q_t_saved, .int t_isSaved, .ref q_t_finds, .ref q_t_reach, .ref q_t_steps, .ref q_t_glows, .ref q_t_lower, .ref q_t_upper, .ref q_t_line, .int t_lined, .ref q_t_text, .int t_length, .int t_at, .int t_order, .ref q_t_told, .ref q_t_why, .ref q_t_more, .int t_whys, .int t_answer])), (q_t_now, .inl (cI, 133, .inl (upd t_now v1.toNatClampNeg x48))), (q_t_kept, .inl (cI, 1064, .inl t_kept))] := hD
        refine jt_iinc hJ (fun x50 ex50 hJ => ?_)
        refine lv_iinc (v := x50) (lv' := [(1, .int x50), (0, .ref q_t)]) hx hb dX10_undo_50 hl (k := 1) rfl ex50 (by decide) rfl (fun ls hl => ?_)
        refine lv_goto (tgt := 22) hx hb dX10_undo_53 (by decide) ?_
        exact ih t_undos (upd t_now v1.toNatClampNeg x48) x50  H locs  hP hD hS _ (lv_sub hl [1, 0] rfl) hJ
  unfold J_X10_undo at hJ
  refine lv_aload_n hx hb dX10_undo_0 rfl (lv_at hl 0 rfl) ?_
  refine va_get (ci := 8) (v := .int t_undos) (C := RX10) (T := TX10) (N := 24) hx hb hts hin_X10 hown hK hP 0 rfl rfl 4 (by decide) fl_59 (fun _ h9 => h9) rfl dX10_undo_1 ?_
  refine jif_ne (tgt := 10) hx hb dX10_undo_4 (by decide) hJ (fun hJ => ?_) (fun hJ => ?_)
  · refine lv_aload_n hx hb dX10_undo_10 rfl (lv_at hl 0 rfl) ?_
    refine lv_dup hx hb dX10_undo_11 rfl ?_
    refine va_get (ci := 8) (v := .int t_undos) (C := RX10) (T := TX10) (N := 24) hx hb hts hin_X10 hown hK hP 0 rfl rfl 4 (by decide) fl_59 (fun _ h9 => h9) rfl dX10_undo_12 ?_
    refine lv_iconst (v := (1 : Int32)) hx hb dX10_undo_15 (by decide) ?_
    refine lv_isub hx hb dX10_undo_16 ?_
    refine jt_i hJ (fun x16 hJ => ?_)
    refine va_put (ci := 8) (v := .int x16) (ty := .int) (C := RX10) (T := TX10) (N := 24) hx hb hts hin_X10 tyX10 tyX10_ok nmX10 hown hK hP hD hS 0 rfl rfl 4 (by decide) fl_59 (fun _ h9 => h9) rfl (by decide +kernel) rfl rfl (Nat.le_of_ble_eq_true rfl) dX10_undo_17 (fun H locs hP hD hS => ?_)
    have hP : va_P D vwCl [(q_t, .inr (8, [.ref q_t_now, .ref q_t_tried, .ref q_t_thought, .ref q_t_kept, .int x16, .ref q_t_saved, .int t_isSaved, .ref q_t_finds, .ref q_t_reach, .ref q_t_steps, .ref q_t_glows, .ref q_t_lower, .ref q_t_upper, .ref q_t_line, .int t_lined, .ref q_t_text, .int t_length, .int t_at, .int t_order, .ref q_t_told, .ref q_t_why, .ref q_t_more, .int t_whys, .int t_answer])), (q_t_now, .inl (cI, 133, .inl t_now)), (q_t_kept, .inl (cI, 1064, .inl t_kept))] H := hP
    have hD : va_D A [(q_t, .inr (8, [.ref q_t_now, .ref q_t_tried, .ref q_t_thought, .ref q_t_kept, .int x16, .ref q_t_saved, .int t_isSaved, .ref q_t_finds, .ref q_t_reach, .ref q_t_steps, .ref q_t_glows, .ref q_t_lower, .ref q_t_upper, .ref q_t_line, .int t_lined, .ref q_t_text, .int t_length, .int t_at, .int t_order, .ref q_t_told, .ref q_t_why, .ref q_t_more, .int t_whys, .int t_answer])), (q_t_now, .inl (cI, 133, .inl t_now)), (q_t_kept, .inl (cI, 1064, .inl t_kept))] := hD
    refine lv_iconst (v := (0 : Int32)) hx hb dX10_undo_20 (by decide) ?_
    refine lv_istore_n (lv' := [(1, .int (0 : Int32)), (0, .ref q_t)]) hx hb dX10_undo_21 rfl hl (by decide) rfl (fun ls hl => ?_)
    exact L22  FU x16 t_now (0 : Int32)  H locs  hP hD hS _ (lv_sub hl [1, 0] rfl) hJ
  · refine lv_bipush (v := (-15 : Int32)) hx hb dX10_undo_7 (by decide) ?_
    have hJ := Option.some.inj hJ
    obtain ⟨e0, e1, e2⟩ : ((-15 : Int32)) = r ∧ (t_undos) = o_t_undos ∧ (t_now) = o_t_now := ⟨congrArg (fun z => z.1) hJ, congrArg (fun z => z.2.1) hJ, congrArg (fun z => z.2.2) hJ⟩
    exact hRet (by rw [← e1, ← e2]; exact hP) (by rw [← e1, ← e2]; exact hD) hS e0 dX10_undo_9

def J_X10_save_L7 (t_now : Nat → Int32) : Nat → Int32 → (Nat → Int32) → Int32 → Option (Int32 × Int32 × (Nat → Int32))
  | 0, _, _, _ => none
  | nf + 1, t_isSaved, t_saved, v1 =>
    if (133 : Int32) ≤ v1 then (
    chk (0 : Int32) 133 (
    nm (t_now (0 : Int32).toNatClampNeg) fun x37 =>
    some (x37, t_isSaved, t_saved)))
    else (
    chk v1 133 (
    nm (t_now v1.toNatClampNeg) fun x24 =>
    chk v1 133 (
    nm (v1 + Int32.ofInt 1) fun x26 =>
    J_X10_save_L7 t_now nf t_isSaved (upd t_saved v1.toNatClampNeg x24) x26)))
def J_X10_save (t_isSaved : Int32) (t_now : Nat → Int32) (t_saved : Nat → Int32) : Option (Int32 × Int32 × (Nat → Int32)) :=
    chz (1 : Int32) (
    J_X10_save_L7 t_now FU (1 : Int32) t_saved (0 : Int32))
abbrev rmX10_save : Room := { frames := 0, cells := 0, slots := 0, locals := 0 }
set_option maxHeartbeats 4000000 in
set_option maxRecDepth 100000 in
theorem c_X10_save (l : Launch) (D : va_G) (cI cJ cC cL : ClassId) (q_t q_t_now q_t_tried q_t_thought q_t_kept q_t_saved q_t_finds q_t_reach q_t_steps q_t_glows q_t_lower q_t_upper q_t_line q_t_text q_t_told q_t_why q_t_more : Nat) (t_undos : Int32) (t_isSaved : Int32) (t_lined : Int32) (t_length : Int32) (t_at : Int32) (t_order : Int32) (t_whys : Int32) (t_answer : Int32) (t_now : Nat → Int32) (t_saved : Nat → Int32) (r : Int32) (o_t_isSaved : Int32) (o_t_saved : Nat → Int32) (hJ : J_X10_save t_isSaved t_now t_saved = some (r, o_t_isSaved, o_t_saved)) (sz : Nat) : Met l yX10_save wsX10_save rmX10_save (va_Pc [.ref q_t] (jpre XT D (tyL cI cJ cC cL) [(q_t, .inr (8, [.ref q_t_now, .ref q_t_tried, .ref q_t_thought, .ref q_t_kept, .int t_undos, .ref q_t_saved, .int t_isSaved, .ref q_t_finds, .ref q_t_reach, .ref q_t_steps, .ref q_t_glows, .ref q_t_lower, .ref q_t_upper, .ref q_t_line, .int t_lined, .ref q_t_text, .int t_length, .int t_at, .int t_order, .ref q_t_told, .ref q_t_why, .ref q_t_more, .int t_whys, .int t_answer])), (q_t_now, .inl (cI, 133, .inl t_now)), (q_t_saved, .inl (cI, 133, .inl t_saved))] sz)) (va_Qi (fun r' (_ : Unit) => r' = r) (fun _ t => jpost D (tyL cI cJ cC cL) (va_A [(q_t, .inr (8, [.ref q_t_now, .ref q_t_tried, .ref q_t_thought, .ref q_t_kept, .int t_undos, .ref q_t_saved, .int t_isSaved, .ref q_t_finds, .ref q_t_reach, .ref q_t_steps, .ref q_t_glows, .ref q_t_lower, .ref q_t_upper, .ref q_t_line, .int t_lined, .ref q_t_text, .int t_length, .int t_at, .int t_order, .ref q_t_told, .ref q_t_why, .ref q_t_more, .int t_whys, .int t_answer])), (q_t_now, .inl (cI, 133, .inl t_now)), (q_t_saved, .inl (cI, 133, .inl t_saved))] sz) [(q_t, .inr (8, [.ref q_t_now, .ref q_t_tried, .ref q_t_thought, .ref q_t_kept, .int t_undos, .ref q_t_saved, .int o_t_isSaved, .ref q_t_finds, .ref q_t_reach, .ref q_t_steps, .ref q_t_glows, .ref q_t_lower, .ref q_t_upper, .ref q_t_line, .int t_lined, .ref q_t_text, .int t_length, .int t_at, .int t_order, .ref q_t_told, .ref q_t_why, .ref q_t_more, .int t_whys, .int t_answer])), (q_t_now, .inl (cI, 133, .inl t_now)), (q_t_saved, .inl (cI, 133, .inl o_t_saved))] t) (va_A [(q_t, .inr (8, [.ref q_t_now, .ref q_t_tried, .ref q_t_thought, .ref q_t_kept, .int t_undos, .ref q_t_saved, .int t_isSaved, .ref q_t_finds, .ref q_t_reach, .ref q_t_steps, .ref q_t_glows, .ref q_t_lower, .ref q_t_upper, .ref q_t_line, .int t_lined, .ref q_t_text, .int t_length, .int t_at, .int t_order, .ref q_t_told, .ref q_t_why, .ref q_t_more, .int t_whys, .int t_answer])), (q_t_now, .inl (cI, 133, .inl t_now)), (q_t_saved, .inl (cI, 133, .inl t_saved))] sz)) 0 0 (va_A [(q_t, .inr (8, [.ref q_t_now, .ref q_t_tried, .ref q_t_thought, .ref q_t_kept, .int t_undos, .ref q_t_saved, .int t_isSaved, .ref q_t_finds, .ref q_t_reach, .ref q_t_steps, .ref q_t_glows, .ref q_t_lower, .ref q_t_upper, .ref q_t_line, .int t_lined, .ref q_t_text, .int t_length, .int t_at, .int t_order, .ref q_t_told, .ref q_t_why, .ref q_t_more, .int t_whys, .int t_answer])), (q_t_now, .inl (cI, 133, .inl t_now)), (q_t_saved, .inl (cI, 133, .inl t_saved))] sz) := by
  refine jE_i (cc := cX10_save) (maxL := 2) (own := RX10) (ret := (some .int)) (lv0 := [(0, .ref q_t)]) (by decide) rfl rfl rfl (Nat.le_of_ble_eq_true rfl) rfl ?_
  intro p e s m args below meth c A Q ls hx hb hml hown hts hK hN hX hA hP hD hS hl hRet
  have hF : CallFix p m c cX10_save 2 s args wsX10_save RX10 := ⟨hx, hb, hml, hown, hts⟩
  have fl_9 := hts (.fieldLink RX10 9 "LanternLogicModel" "now" "[I") (by decide +kernel)
  have fl_22 := hts (.fieldLink RX10 22 "LanternLogicModel" "saved" "[I") (by decide +kernel)
  have fl_315 := hts (.fieldLink RX10 315 "LanternLogicModel" "isSaved" "Z") (by decide +kernel)
  have hin_X10 : ∀ w ∈ u_ws RX10 TX10 24, w ∈ wsX10_save := by decide +kernel
  have L7 : ∀ (nf : Nat), ∀ (t_isSaved : Int32) (t_saved : Nat → Int32) (v1 : Int32) (H : Heap) (locs : List Loc), va_P D vwCl [(q_t, .inr (8, [.ref q_t_now, .ref q_t_tried, .ref q_t_thought, .ref q_t_kept, .int t_undos, .ref q_t_saved, .int t_isSaved, .ref q_t_finds, .ref q_t_reach, .ref q_t_steps, .ref q_t_glows, .ref q_t_lower, .ref q_t_upper, .ref q_t_line, .int t_lined, .ref q_t_text, .int t_length, .int t_at, .int t_order, .ref q_t_told, .ref q_t_why, .ref q_t_more, .int t_whys, .int t_answer])), (q_t_now, .inl (cI, 133, .inl t_now)), (q_t_saved, .inl (cI, 133, .inl t_saved))] H → va_D A [(q_t, .inr (8, [.ref q_t_now, .ref q_t_tried, .ref q_t_thought, .ref q_t_kept, .int t_undos, .ref q_t_saved, .int t_isSaved, .ref q_t_finds, .ref q_t_reach, .ref q_t_steps, .ref q_t_glows, .ref q_t_lower, .ref q_t_upper, .ref q_t_line, .int t_lined, .ref q_t_text, .int t_length, .int t_at, .int t_order, .ref q_t_told, .ref q_t_why, .ref q_t_more, .int t_whys, .int t_answer])), (q_t_now, .inl (cI, 133, .inl t_now)), (q_t_saved, .inl (cI, 133, .inl t_saved))] → va_S A s.heap H locs → ∀ ls : Array Slot, lv_has ls 2 [(0, .ref q_t), (1, .int v1)] → J_X10_save_L7  t_now nf t_isSaved t_saved v1 = some (r, o_t_isSaved, o_t_saved) → W p l e rmX10_save s m args below meth c H locs 0 0 Q (F0 m 7 ls []) := by
    intro nf
    induction nf with
    | zero =>
      intro t_isSaved t_saved v1 H locs hP hD hS ls hl hJ
      rw [J_X10_save_L7] at hJ
      cases hJ
    | succ nf ih =>
      intro t_isSaved t_saved v1 H locs hP hD hS ls hl hJ
      rw [J_X10_save_L7] at hJ
      refine lv_iload_n hx hb dX10_save_7 rfl (lv_at hl 1 rfl) ?_
      refine lv_sipush (v := (133 : Int32)) hx hb dX10_save_8 (by decide) ?_
      refine jif_icmp_ge (tgt := 32) hx hb dX10_save_11 (by decide) hJ (fun hJ => ?_) (fun hJ => ?_)
      · refine lv_aload_n hx hb dX10_save_32 rfl (lv_at hl 0 rfl) ?_
        refine va_get (ci := 8) (v := .ref q_t_now) (C := RX10) (T := TX10) (N := 24) hx hb hts hin_X10 hown hK hP 0 rfl rfl 0 (by decide) fl_9 (fun _ h9 => h9) rfl dX10_save_33 ?_
        refine lv_iconst (v := (0 : Int32)) hx hb dX10_save_36 (by decide) ?_
        obtain ⟨hin, hJ⟩ := chk_in hJ
        refine va_iald hx hb hK hP 1 0 rfl rfl hin dX10_save_37 ?_
        refine jt_i hJ (fun x37 hJ => ?_)
        have hJ := Option.some.inj hJ
        obtain ⟨e0, e1, e2⟩ : (x37) = r ∧ (t_isSaved) = o_t_isSaved ∧ (t_saved) = o_t_saved := ⟨congrArg (fun z => z.1) hJ, congrArg (fun z => z.2.1) hJ, congrArg (fun z => z.2.2) hJ⟩
        exact hRet (by rw [← e1, ← e2]; exact hP) (by rw [← e1, ← e2]; exact hD) hS e0 dX10_save_38
      · refine lv_aload_n hx hb dX10_save_14 rfl (lv_at hl 0 rfl) ?_
        refine va_get (ci := 8) (v := .ref q_t_saved) (C := RX10) (T := TX10) (N := 24) hx hb hts hin_X10 hown hK hP 0 rfl rfl 5 (by decide) fl_22 (fun _ h9 => h9) rfl dX10_save_15 ?_
        refine lv_iload_n hx hb dX10_save_18 rfl (lv_at hl 1 rfl) ?_
        refine lv_aload_n hx hb dX10_save_19 rfl (lv_at hl 0 rfl) ?_
        refine va_get (ci := 8) (v := .ref q_t_now) (C := RX10) (T := TX10) (N := 24) hx hb hts hin_X10 hown hK hP 0 rfl rfl 0 (by decide) fl_9 (fun _ h9 => h9) rfl dX10_save_20 ?_
        refine lv_iload_n hx hb dX10_save_23 rfl (lv_at hl 1 rfl) ?_
        obtain ⟨hin, hJ⟩ := chk_in hJ
        refine va_iald hx hb hK hP 1 0 rfl rfl hin dX10_save_24 ?_
        refine jt_i hJ (fun x24 hJ => ?_)
        obtain ⟨hin, hJ⟩ := chk_in hJ
        refine va_iast hx hb hK hP hD hS 2 0 rfl rfl hin dX10_save_25 (fun H locs hP hD hS => ?_)
        have hP : va_P D vwCl [(q_t, .inr (8, [.ref q_t_now, .ref q_t_tried, .ref q_t_thought, .ref q_t_kept, .int t_undos, .ref q_t_saved, .int t_isSaved, .ref q_t_finds, .ref q_t_reach, .ref q_t_steps, .ref q_t_glows, .ref q_t_lower, .ref q_t_upper, .ref q_t_line, .int t_lined, .ref q_t_text, .int t_length, .int t_at, .int t_order, .ref q_t_told, .ref q_t_why, .ref q_t_more, .int t_whys, .int t_answer])), (q_t_now, .inl (cI, 133, .inl t_now)), (q_t_saved, .inl (cI, 133, .inl (upd t_saved v1.toNatClampNeg x24)))] H := hP
        have hD : va_D A [(q_t, .inr (8, [.ref q_t_now, .ref q_t_tried, .ref q_t_thought, .ref q_t_kept, .int t_undos, .ref q_t_saved, .int t_isSaved, .ref q_t_finds, .ref q_t_reach, .ref q_t_steps, .ref q_t_glows, .ref q_t_lower, .ref q_t_upper, .ref q_t_line, .int t_lined, .ref q_t_text, .int t_length, .int t_at, .int t_order, .ref q_t_told, .ref q_t_why, .ref q_t_more, .int t_whys, .int t_answer])), (q_t_now, .inl (cI, 133, .inl t_now)), (q_t_saved, .inl (cI, 133, .inl (upd t_saved v1.toNatClampNeg x24)))] := hD
        refine jt_iinc hJ (fun x26 ex26 hJ => ?_)
        refine lv_iinc (v := x26) (lv' := [(1, .int x26), (0, .ref q_t)]) hx hb dX10_save_26 hl (k := 1) rfl ex26 (by decide) rfl (fun ls hl => ?_)
        refine lv_goto (tgt := 7) hx hb dX10_save_29 (by decide) ?_
        exact ih t_isSaved (upd t_saved v1.toNatClampNeg x24) x26  H locs  hP hD hS _ (lv_sub hl [1, 0] rfl) hJ
  unfold J_X10_save at hJ
  refine lv_aload_n hx hb dX10_save_0 rfl (lv_at hl 0 rfl) ?_
  refine lv_iconst (v := (1 : Int32)) hx hb dX10_save_1 (by decide) ?_
  obtain ⟨h01, hJ⟩ := chz_ok hJ
  refine va_put (ci := 8) (v := .int (1 : Int32)) (ty := .boolean) (C := RX10) (T := TX10) (N := 24) hx hb hts hin_X10 tyX10 tyX10_ok nmX10 hown hK hP hD hS 0 rfl rfl 6 (by decide) fl_315 (fun _ h9 => h9) rfl (by decide +kernel) (by rcases h01 with h | h <;> (rw [h]; rfl)) (by rcases h01 with h | h <;> (rw [h]; rfl)) (Nat.le_of_ble_eq_true rfl) dX10_save_2 (fun H locs hP hD hS => ?_)
  have hP : va_P D vwCl [(q_t, .inr (8, [.ref q_t_now, .ref q_t_tried, .ref q_t_thought, .ref q_t_kept, .int t_undos, .ref q_t_saved, .int (1 : Int32), .ref q_t_finds, .ref q_t_reach, .ref q_t_steps, .ref q_t_glows, .ref q_t_lower, .ref q_t_upper, .ref q_t_line, .int t_lined, .ref q_t_text, .int t_length, .int t_at, .int t_order, .ref q_t_told, .ref q_t_why, .ref q_t_more, .int t_whys, .int t_answer])), (q_t_now, .inl (cI, 133, .inl t_now)), (q_t_saved, .inl (cI, 133, .inl t_saved))] H := hP
  have hD : va_D A [(q_t, .inr (8, [.ref q_t_now, .ref q_t_tried, .ref q_t_thought, .ref q_t_kept, .int t_undos, .ref q_t_saved, .int (1 : Int32), .ref q_t_finds, .ref q_t_reach, .ref q_t_steps, .ref q_t_glows, .ref q_t_lower, .ref q_t_upper, .ref q_t_line, .int t_lined, .ref q_t_text, .int t_length, .int t_at, .int t_order, .ref q_t_told, .ref q_t_why, .ref q_t_more, .int t_whys, .int t_answer])), (q_t_now, .inl (cI, 133, .inl t_now)), (q_t_saved, .inl (cI, 133, .inl t_saved))] := hD
  refine lv_iconst (v := (0 : Int32)) hx hb dX10_save_5 (by decide) ?_
  refine lv_istore_n (lv' := [(1, .int (0 : Int32)), (0, .ref q_t)]) hx hb dX10_save_6 rfl hl (by decide) rfl (fun ls hl => ?_)
  exact L7  FU (1 : Int32) t_saved (0 : Int32)  H locs  hP hD hS _ (lv_sub hl [1, 0] rfl) hJ

def J_X10_restore_L12 (t_isSaved : Int32) (t_saved : Nat → Int32) : Nat → Int32 → (Nat → Int32) → Int32 → Option (Int32 × Int32 × (Nat → Int32))
  | 0, _, _, _ => none
  | nf + 1, t_undos, t_now, v1 =>
    if (133 : Int32) ≤ v1 then (
    chk (0 : Int32) 133 (
    nm (t_now (0 : Int32).toNatClampNeg) fun x47 =>
    some (x47, (0 : Int32), t_now)))
    else (
    chk v1 133 (
    nm (t_saved v1.toNatClampNeg) fun x29 =>
    chk v1 133 (
    nm (v1 + Int32.ofInt 1) fun x31 =>
    J_X10_restore_L12 t_isSaved t_saved nf t_undos (upd t_now v1.toNatClampNeg x29) x31)))
def J_X10_restore (t_undos : Int32) (t_isSaved : Int32) (t_now : Nat → Int32) (t_saved : Nat → Int32) : Option (Int32 × Int32 × (Nat → Int32)) :=
    if t_isSaved = 0 then (
    some ((-15 : Int32), t_undos, t_now))
    else (
    J_X10_restore_L12 t_isSaved t_saved FU t_undos t_now (0 : Int32))
abbrev rmX10_restore : Room := { frames := 0, cells := 0, slots := 0, locals := 0 }
set_option maxHeartbeats 4000000 in
set_option maxRecDepth 100000 in
theorem c_X10_restore (l : Launch) (D : va_G) (cI cJ cC cL : ClassId) (q_t q_t_now q_t_tried q_t_thought q_t_kept q_t_saved q_t_finds q_t_reach q_t_steps q_t_glows q_t_lower q_t_upper q_t_line q_t_text q_t_told q_t_why q_t_more : Nat) (t_undos : Int32) (t_isSaved : Int32) (t_lined : Int32) (t_length : Int32) (t_at : Int32) (t_order : Int32) (t_whys : Int32) (t_answer : Int32) (t_now : Nat → Int32) (t_saved : Nat → Int32) (r : Int32) (o_t_undos : Int32) (o_t_now : Nat → Int32) (hJ : J_X10_restore t_undos t_isSaved t_now t_saved = some (r, o_t_undos, o_t_now)) (sz : Nat) : Met l yX10_restore wsX10_restore rmX10_restore (va_Pc [.ref q_t] (jpre XT D (tyL cI cJ cC cL) [(q_t, .inr (8, [.ref q_t_now, .ref q_t_tried, .ref q_t_thought, .ref q_t_kept, .int t_undos, .ref q_t_saved, .int t_isSaved, .ref q_t_finds, .ref q_t_reach, .ref q_t_steps, .ref q_t_glows, .ref q_t_lower, .ref q_t_upper, .ref q_t_line, .int t_lined, .ref q_t_text, .int t_length, .int t_at, .int t_order, .ref q_t_told, .ref q_t_why, .ref q_t_more, .int t_whys, .int t_answer])), (q_t_now, .inl (cI, 133, .inl t_now)), (q_t_saved, .inl (cI, 133, .inl t_saved))] sz)) (va_Qi (fun r' (_ : Unit) => r' = r) (fun _ t => jpost D (tyL cI cJ cC cL) (va_A [(q_t, .inr (8, [.ref q_t_now, .ref q_t_tried, .ref q_t_thought, .ref q_t_kept, .int t_undos, .ref q_t_saved, .int t_isSaved, .ref q_t_finds, .ref q_t_reach, .ref q_t_steps, .ref q_t_glows, .ref q_t_lower, .ref q_t_upper, .ref q_t_line, .int t_lined, .ref q_t_text, .int t_length, .int t_at, .int t_order, .ref q_t_told, .ref q_t_why, .ref q_t_more, .int t_whys, .int t_answer])), (q_t_now, .inl (cI, 133, .inl t_now)), (q_t_saved, .inl (cI, 133, .inl t_saved))] sz) [(q_t, .inr (8, [.ref q_t_now, .ref q_t_tried, .ref q_t_thought, .ref q_t_kept, .int o_t_undos, .ref q_t_saved, .int t_isSaved, .ref q_t_finds, .ref q_t_reach, .ref q_t_steps, .ref q_t_glows, .ref q_t_lower, .ref q_t_upper, .ref q_t_line, .int t_lined, .ref q_t_text, .int t_length, .int t_at, .int t_order, .ref q_t_told, .ref q_t_why, .ref q_t_more, .int t_whys, .int t_answer])), (q_t_now, .inl (cI, 133, .inl o_t_now)), (q_t_saved, .inl (cI, 133, .inl t_saved))] t) (va_A [(q_t, .inr (8, [.ref q_t_now, .ref q_t_tried, .ref q_t_thought, .ref q_t_kept, .int t_undos, .ref q_t_saved, .int t_isSaved, .ref q_t_finds, .ref q_t_reach, .ref q_t_steps, .ref q_t_glows, .ref q_t_lower, .ref q_t_upper, .ref q_t_line, .int t_lined, .ref q_t_text, .int t_length, .int t_at, .int t_order, .ref q_t_told, .ref q_t_why, .ref q_t_more, .int t_whys, .int t_answer])), (q_t_now, .inl (cI, 133, .inl t_now)), (q_t_saved, .inl (cI, 133, .inl t_saved))] sz)) 0 0 (va_A [(q_t, .inr (8, [.ref q_t_now, .ref q_t_tried, .ref q_t_thought, .ref q_t_kept, .int t_undos, .ref q_t_saved, .int t_isSaved, .ref q_t_finds, .ref q_t_reach, .ref q_t_steps, .ref q_t_glows, .ref q_t_lower, .ref q_t_upper, .ref q_t_line, .int t_lined, .ref q_t_text, .int t_length, .int t_at, .int t_order, .ref q_t_told, .ref q_t_why, .ref q_t_more, .int t_whys, .int t_answer])), (q_t_now, .inl (cI, 133, .inl t_now)), (q_t_saved, .inl (cI, 133, .inl t_saved))] sz) := by
  refine jE_i (cc := cX10_restore) (maxL := 2) (own := RX10) (ret := (some .int)) (lv0 := [(0, .ref q_t)]) (by decide) rfl rfl rfl (Nat.le_of_ble_eq_true rfl) rfl ?_
  intro p e s m args below meth c A Q ls hx hb hml hown hts hK hN hX hA hP hD hS hl hRet
  have hF : CallFix p m c cX10_restore 2 s args wsX10_restore RX10 := ⟨hx, hb, hml, hown, hts⟩
  have fl_9 := hts (.fieldLink RX10 9 "LanternLogicModel" "now" "[I") (by decide +kernel)
  have fl_22 := hts (.fieldLink RX10 22 "LanternLogicModel" "saved" "[I") (by decide +kernel)
  have fl_59 := hts (.fieldLink RX10 59 "LanternLogicModel" "undos" "I") (by decide +kernel)
  have fl_315 := hts (.fieldLink RX10 315 "LanternLogicModel" "isSaved" "Z") (by decide +kernel)
  have hin_X10 : ∀ w ∈ u_ws RX10 TX10 24, w ∈ wsX10_restore := by decide +kernel
  have L12 : ∀ (nf : Nat), ∀ (t_undos : Int32) (t_now : Nat → Int32) (v1 : Int32) (H : Heap) (locs : List Loc), va_P D vwCl [(q_t, .inr (8, [.ref q_t_now, .ref q_t_tried, .ref q_t_thought, .ref q_t_kept, .int t_undos, .ref q_t_saved, .int t_isSaved, .ref q_t_finds, .ref q_t_reach, .ref q_t_steps, .ref q_t_glows, .ref q_t_lower, .ref q_t_upper, .ref q_t_line, .int t_lined, .ref q_t_text, .int t_length, .int t_at, .int t_order, .ref q_t_told, .ref q_t_why, .ref q_t_more, .int t_whys, .int t_answer])), (q_t_now, .inl (cI, 133, .inl t_now)), (q_t_saved, .inl (cI, 133, .inl t_saved))] H → va_D A [(q_t, .inr (8, [.ref q_t_now, .ref q_t_tried, .ref q_t_thought, .ref q_t_kept, .int t_undos, .ref q_t_saved, .int t_isSaved, .ref q_t_finds, .ref q_t_reach, .ref q_t_steps, .ref q_t_glows, .ref q_t_lower, .ref q_t_upper, .ref q_t_line, .int t_lined, .ref q_t_text, .int t_length, .int t_at, .int t_order, .ref q_t_told, .ref q_t_why, .ref q_t_more, .int t_whys, .int t_answer])), (q_t_now, .inl (cI, 133, .inl t_now)), (q_t_saved, .inl (cI, 133, .inl t_saved))] → va_S A s.heap H locs → ∀ ls : Array Slot, lv_has ls 2 [(0, .ref q_t), (1, .int v1)] → J_X10_restore_L12  t_isSaved t_saved nf t_undos t_now v1 = some (r, o_t_undos, o_t_now) → W p l e rmX10_restore s m args below meth c H locs 0 0 Q (F0 m 12 ls []) := by
    intro nf
    induction nf with
    | zero =>
      intro t_undos t_now v1 H locs hP hD hS ls hl hJ
      rw [J_X10_restore_L12] at hJ
      cases hJ
    | succ nf ih =>
      intro t_undos t_now v1 H locs hP hD hS ls hl hJ
      rw [J_X10_restore_L12] at hJ
      refine lv_iload_n hx hb dX10_restore_12 rfl (lv_at hl 1 rfl) ?_
      refine lv_sipush (v := (133 : Int32)) hx hb dX10_restore_13 (by decide) ?_
      refine jif_icmp_ge (tgt := 37) hx hb dX10_restore_16 (by decide) hJ (fun hJ => ?_) (fun hJ => ?_)
      · refine lv_aload_n hx hb dX10_restore_37 rfl (lv_at hl 0 rfl) ?_
        refine lv_iconst (v := (0 : Int32)) hx hb dX10_restore_38 (by decide) ?_
        refine va_put (ci := 8) (v := .int (0 : Int32)) (ty := .int) (C := RX10) (T := TX10) (N := 24) hx hb hts hin_X10 tyX10 tyX10_ok nmX10 hown hK hP hD hS 0 rfl rfl 4 (by decide) fl_59 (fun _ h9 => h9) rfl (by decide +kernel) rfl rfl (Nat.le_of_ble_eq_true rfl) dX10_restore_39 (fun H locs hP hD hS => ?_)
        have hP : va_P D vwCl [(q_t, .inr (8, [.ref q_t_now, .ref q_t_tried, .ref q_t_thought, .ref q_t_kept, .int (0 : Int32), .ref q_t_saved, .int t_isSaved, .ref q_t_finds, .ref q_t_reach, .ref q_t_steps, .ref q_t_glows, .ref q_t_lower, .ref q_t_upper, .ref q_t_line, .int t_lined, .ref q_t_text, .int t_length, .int t_at, .int t_order, .ref q_t_told, .ref q_t_why, .ref q_t_more, .int t_whys, .int t_answer])), (q_t_now, .inl (cI, 133, .inl t_now)), (q_t_saved, .inl (cI, 133, .inl t_saved))] H := hP
        have hD : va_D A [(q_t, .inr (8, [.ref q_t_now, .ref q_t_tried, .ref q_t_thought, .ref q_t_kept, .int (0 : Int32), .ref q_t_saved, .int t_isSaved, .ref q_t_finds, .ref q_t_reach, .ref q_t_steps, .ref q_t_glows, .ref q_t_lower, .ref q_t_upper, .ref q_t_line, .int t_lined, .ref q_t_text, .int t_length, .int t_at, .int t_order, .ref q_t_told, .ref q_t_why, .ref q_t_more, .int t_whys, .int t_answer])), (q_t_now, .inl (cI, 133, .inl t_now)), (q_t_saved, .inl (cI, 133, .inl t_saved))] := hD
        refine lv_aload_n hx hb dX10_restore_42 rfl (lv_at hl 0 rfl) ?_
        refine va_get (ci := 8) (v := .ref q_t_now) (C := RX10) (T := TX10) (N := 24) hx hb hts hin_X10 hown hK hP 0 rfl rfl 0 (by decide) fl_9 (fun _ h9 => h9) rfl dX10_restore_43 ?_
        refine lv_iconst (v := (0 : Int32)) hx hb dX10_restore_46 (by decide) ?_
        obtain ⟨hin, hJ⟩ := chk_in hJ
        refine va_iald hx hb hK hP 1 0 rfl rfl hin dX10_restore_47 ?_
        refine jt_i hJ (fun x47 hJ => ?_)
        have hJ := Option.some.inj hJ
        obtain ⟨e0, e1, e2⟩ : (x47) = r ∧ ((0 : Int32)) = o_t_undos ∧ (t_now) = o_t_now := ⟨congrArg (fun z => z.1) hJ, congrArg (fun z => z.2.1) hJ, congrArg (fun z => z.2.2) hJ⟩
        exact hRet (by rw [← e1, ← e2]; exact hP) (by rw [← e1, ← e2]; exact hD) hS e0 dX10_restore_48
      · refine lv_aload_n hx hb dX10_restore_19 rfl (lv_at hl 0 rfl) ?_
        refine va_get (ci := 8) (v := .ref q_t_now) (C := RX10) (T := TX10) (N := 24) hx hb hts hin_X10 hown hK hP 0 rfl rfl 0 (by decide) fl_9 (fun _ h9 => h9) rfl dX10_restore_20 ?_
        refine lv_iload_n hx hb dX10_restore_23 rfl (lv_at hl 1 rfl) ?_
        refine lv_aload_n hx hb dX10_restore_24 rfl (lv_at hl 0 rfl) ?_
        refine va_get (ci := 8) (v := .ref q_t_saved) (C := RX10) (T := TX10) (N := 24) hx hb hts hin_X10 hown hK hP 0 rfl rfl 5 (by decide) fl_22 (fun _ h9 => h9) rfl dX10_restore_25 ?_
        refine lv_iload_n hx hb dX10_restore_28 rfl (lv_at hl 1 rfl) ?_
        obtain ⟨hin, hJ⟩ := chk_in hJ
        refine va_iald hx hb hK hP 2 0 rfl rfl hin dX10_restore_29 ?_
        refine jt_i hJ (fun x29 hJ => ?_)
        obtain ⟨hin, hJ⟩ := chk_in hJ
        refine va_iast hx hb hK hP hD hS 1 0 rfl rfl hin dX10_restore_30 (fun H locs hP hD hS => ?_)
        have hP : va_P D vwCl [(q_t, .inr (8, [.ref q_t_now, .ref q_t_tried, .ref q_t_thought, .ref q_t_kept, .int t_undos, .ref q_t_saved, .int t_isSaved, .ref q_t_finds, .ref q_t_reach, .ref q_t_steps, .ref q_t_glows, .ref q_t_lower, .ref q_t_upper, .ref q_t_line, .int t_lined, .ref q_t_text, .int t_length, .int t_at, .int t_order, .ref q_t_told, .ref q_t_why, .ref q_t_more, .int t_whys, .int t_answer])), (q_t_now, .inl (cI, 133, .inl (upd t_now v1.toNatClampNeg x29))), (q_t_saved, .inl (cI, 133, .inl t_saved))] H := hP
        have hD : va_D A [(q_t, .inr (8, [.ref q_t_now, .ref q_t_tried, .ref q_t_thought, .ref q_t_kept, .int t_undos, .ref q_t_saved, .int t_isSaved, .ref q_t_finds, .ref q_t_reach, .ref q_t_steps, .ref q_t_glows, .ref q_t_lower, .ref q_t_upper, .ref q_t_line, .int t_lined, .ref q_t_text, .int t_length, .int t_at, .int t_order, .ref q_t_told, .ref q_t_why, .ref q_t_more, .int t_whys, .int t_answer])), (q_t_now, .inl (cI, 133, .inl (upd t_now v1.toNatClampNeg x29))), (q_t_saved, .inl (cI, 133, .inl t_saved))] := hD
        refine jt_iinc hJ (fun x31 ex31 hJ => ?_)
        refine lv_iinc (v := x31) (lv' := [(1, .int x31), (0, .ref q_t)]) hx hb dX10_restore_31 hl (k := 1) rfl ex31 (by decide) rfl (fun ls hl => ?_)
        refine lv_goto (tgt := 12) hx hb dX10_restore_34 (by decide) ?_
        exact ih t_undos (upd t_now v1.toNatClampNeg x29) x31  H locs  hP hD hS _ (lv_sub hl [1, 0] rfl) hJ
  unfold J_X10_restore at hJ
  refine lv_aload_n hx hb dX10_restore_0 rfl (lv_at hl 0 rfl) ?_
  refine va_get (ci := 8) (v := .int t_isSaved) (C := RX10) (T := TX10) (N := 24) hx hb hts hin_X10 hown hK hP 0 rfl rfl 6 (by decide) fl_315 (fun _ h9 => h9) rfl dX10_restore_1 ?_
  refine jif_ne (tgt := 10) hx hb dX10_restore_4 (by decide) hJ (fun hJ => ?_) (fun hJ => ?_)
  · refine lv_iconst (v := (0 : Int32)) hx hb dX10_restore_10 (by decide) ?_
    refine lv_istore_n (lv' := [(1, .int (0 : Int32)), (0, .ref q_t)]) hx hb dX10_restore_11 rfl hl (by decide) rfl (fun ls hl => ?_)
    exact L12  FU t_undos t_now (0 : Int32)  s.heap []  hP hD hS _ (lv_sub hl [1, 0] rfl) hJ
  · refine lv_bipush (v := (-15 : Int32)) hx hb dX10_restore_7 (by decide) ?_
    have hJ := Option.some.inj hJ
    obtain ⟨e0, e1, e2⟩ : ((-15 : Int32)) = r ∧ (t_undos) = o_t_undos ∧ (t_now) = o_t_now := ⟨congrArg (fun z => z.1) hJ, congrArg (fun z => z.2.1) hJ, congrArg (fun z => z.2.2) hJ⟩
    exact hRet (by rw [← e1, ← e2]; exact hP) (by rw [← e1, ← e2]; exact hD) hS e0 dX10_restore_9

def J_X10_loops_b60 (v1 : Int32) (t_undos : Int32) (t_whys : Int32) (t_now : Nat → Int32) (t_tried : Nat → Int32) (t_kept : Nat → Int32) (t_reach : Nat → Int32) (t_why : Nat → Int32) (t_more : Nat → Int32) (v3 : Int32) (s60_1 : Int32) (s60_2 : Int32) : Option (Int32 × Int32 × Int32 × (Nat → Int32) × (Nat → Int32) × (Nat → Int32) × (Nat → Int32) × (Nat → Int32) × (Nat → Int32)) :=
    chk s60_1 133 (
    bnd3 (J_X10_keeps t_undos t_tried t_kept v3) fun x63 t_undos_63 t_kept_63 =>
    some (x63, t_undos_63, t_whys, (upd t_now s60_1.toNatClampNeg s60_2), t_tried, t_kept_63, t_reach, t_why, t_more))
def J_X10_loops_b39 (v1 : Int32) (t_undos : Int32) (t_whys : Int32) (t_now : Nat → Int32) (t_tried : Nat → Int32) (t_kept : Nat → Int32) (t_reach : Nat → Int32) (t_why : Nat → Int32) (t_more : Nat → Int32) : Option (Int32 × Int32 × Int32 × (Nat → Int32) × (Nat → Int32) × (Nat → Int32) × (Nat → Int32) × (Nat → Int32) × (Nat → Int32)) :=
    chk (1 : Int32) 133 (
    nm (t_now (1 : Int32).toNatClampNeg) fun x44 =>
    if v1 = 0 then (
    J_X10_loops_b60 v1 t_undos t_whys t_now t_tried t_kept t_reach t_why t_more x44 (1 : Int32) (0 : Int32))
    else (
    J_X10_loops_b60 v1 t_undos t_whys t_now t_tried t_kept t_reach t_why t_more x44 (1 : Int32) (1 : Int32)))
def J_X10_loops (t_undos : Int32) (t_whys : Int32) (t_now : Nat → Int32) (t_tried : Nat → Int32) (t_kept : Nat → Int32) (t_reach : Nat → Int32) (t_why : Nat → Int32) (t_more : Nat → Int32) (v1 : Int32) : Option (Int32 × Int32 × Int32 × (Nat → Int32) × (Nat → Int32) × (Nat → Int32) × (Nat → Int32) × (Nat → Int32) × (Nat → Int32)) :=
    bnd1 (J_X10_tries t_now t_tried) fun t_tried_1 =>
    bnd2 (J_X10_loopSet t_now t_reach) fun x5 t_reach_5 =>
    if v1 = 0 then (
    if x5 = 0 then (
    J_X10_loops_b39 v1 t_undos t_whys t_now t_tried_1 t_kept t_reach_5 t_why t_more)
    else (
    bnd1 (J_J6_numberOfTrailingZeros_0f7a4 x5) fun x21 =>
    bnd4 (J_X10_refuses t_why t_more (9 : Int32) x21) fun x24 t_whys_24 t_why_24 t_more_24 =>
    bnd1 (J_J6_bitCount_0f7a4 x5) fun x32 =>
    bnd4 (J_X10_behind t_whys_24 t_why_24 t_more_24 (12 : Int32) x32) fun x35 t_whys_35 t_why_35 t_more_35 =>
    some (x35, t_undos, t_whys_35, t_now, t_tried_1, t_kept, t_reach_5, t_why_35, t_more_35)))
    else (
    J_X10_loops_b39 v1 t_undos t_whys t_now t_tried_1 t_kept t_reach_5 t_why t_more)
abbrev rmX10_loops : Room := { frames := 4, cells := 0, slots := 0, locals := 90 }
set_option maxHeartbeats 4000000 in
set_option maxRecDepth 100000 in
theorem c_X10_loops (l : Launch) (D : va_G) (cI cJ cC cL : ClassId) (q_t q_t_now q_t_tried q_t_thought q_t_kept q_t_saved q_t_finds q_t_reach q_t_steps q_t_glows q_t_lower q_t_upper q_t_line q_t_text q_t_told q_t_why q_t_more : Nat) (t_undos : Int32) (t_isSaved : Int32) (t_lined : Int32) (t_length : Int32) (t_at : Int32) (t_order : Int32) (t_whys : Int32) (t_answer : Int32) (t_now : Nat → Int32) (t_tried : Nat → Int32) (t_kept : Nat → Int32) (t_reach : Nat → Int32) (t_why : Nat → Int32) (t_more : Nat → Int32) (v1 : Int32) (r : Int32) (o_t_undos : Int32) (o_t_whys : Int32) (o_t_now : Nat → Int32) (o_t_tried : Nat → Int32) (o_t_kept : Nat → Int32) (o_t_reach : Nat → Int32) (o_t_why : Nat → Int32) (o_t_more : Nat → Int32) (hJ : J_X10_loops t_undos t_whys t_now t_tried t_kept t_reach t_why t_more v1 = some (r, o_t_undos, o_t_whys, o_t_now, o_t_tried, o_t_kept, o_t_reach, o_t_why, o_t_more)) (sz : Nat) : Met l yX10_loops wsX10_loops rmX10_loops (va_Pc [.ref q_t, .int v1] (jpre XT D (tyL cI cJ cC cL) [(q_t, .inr (8, [.ref q_t_now, .ref q_t_tried, .ref q_t_thought, .ref q_t_kept, .int t_undos, .ref q_t_saved, .int t_isSaved, .ref q_t_finds, .ref q_t_reach, .ref q_t_steps, .ref q_t_glows, .ref q_t_lower, .ref q_t_upper, .ref q_t_line, .int t_lined, .ref q_t_text, .int t_length, .int t_at, .int t_order, .ref q_t_told, .ref q_t_why, .ref q_t_more, .int t_whys, .int t_answer])), (q_t_now, .inl (cI, 133, .inl t_now)), (q_t_tried, .inl (cI, 133, .inl t_tried)), (q_t_kept, .inl (cI, 1064, .inl t_kept)), (q_t_reach, .inl (cI, 16, .inl t_reach)), (q_t_why, .inl (cI, 4, .inl t_why)), (q_t_more, .inl (cI, 4, .inl t_more))] sz)) (va_Qi (fun r' (_ : Unit) => r' = r) (fun _ t => jpost D (tyL cI cJ cC cL) (va_A [(q_t, .inr (8, [.ref q_t_now, .ref q_t_tried, .ref q_t_thought, .ref q_t_kept, .int t_undos, .ref q_t_saved, .int t_isSaved, .ref q_t_finds, .ref q_t_reach, .ref q_t_steps, .ref q_t_glows, .ref q_t_lower, .ref q_t_upper, .ref q_t_line, .int t_lined, .ref q_t_text, .int t_length, .int t_at, .int t_order, .ref q_t_told, .ref q_t_why, .ref q_t_more, .int t_whys, .int t_answer])), (q_t_now, .inl (cI, 133, .inl t_now)), (q_t_tried, .inl (cI, 133, .inl t_tried)), (q_t_kept, .inl (cI, 1064, .inl t_kept)), (q_t_reach, .inl (cI, 16, .inl t_reach)), (q_t_why, .inl (cI, 4, .inl t_why)), (q_t_more, .inl (cI, 4, .inl t_more))] sz) [(q_t, .inr (8, [.ref q_t_now, .ref q_t_tried, .ref q_t_thought, .ref q_t_kept, .int o_t_undos, .ref q_t_saved, .int t_isSaved, .ref q_t_finds, .ref q_t_reach, .ref q_t_steps, .ref q_t_glows, .ref q_t_lower, .ref q_t_upper, .ref q_t_line, .int t_lined, .ref q_t_text, .int t_length, .int t_at, .int t_order, .ref q_t_told, .ref q_t_why, .ref q_t_more, .int o_t_whys, .int t_answer])), (q_t_now, .inl (cI, 133, .inl o_t_now)), (q_t_tried, .inl (cI, 133, .inl o_t_tried)), (q_t_kept, .inl (cI, 1064, .inl o_t_kept)), (q_t_reach, .inl (cI, 16, .inl o_t_reach)), (q_t_why, .inl (cI, 4, .inl o_t_why)), (q_t_more, .inl (cI, 4, .inl o_t_more))] t) (va_A [(q_t, .inr (8, [.ref q_t_now, .ref q_t_tried, .ref q_t_thought, .ref q_t_kept, .int t_undos, .ref q_t_saved, .int t_isSaved, .ref q_t_finds, .ref q_t_reach, .ref q_t_steps, .ref q_t_glows, .ref q_t_lower, .ref q_t_upper, .ref q_t_line, .int t_lined, .ref q_t_text, .int t_length, .int t_at, .int t_order, .ref q_t_told, .ref q_t_why, .ref q_t_more, .int t_whys, .int t_answer])), (q_t_now, .inl (cI, 133, .inl t_now)), (q_t_tried, .inl (cI, 133, .inl t_tried)), (q_t_kept, .inl (cI, 1064, .inl t_kept)), (q_t_reach, .inl (cI, 16, .inl t_reach)), (q_t_why, .inl (cI, 4, .inl t_why)), (q_t_more, .inl (cI, 4, .inl t_more))] sz)) 0 0 (va_A [(q_t, .inr (8, [.ref q_t_now, .ref q_t_tried, .ref q_t_thought, .ref q_t_kept, .int t_undos, .ref q_t_saved, .int t_isSaved, .ref q_t_finds, .ref q_t_reach, .ref q_t_steps, .ref q_t_glows, .ref q_t_lower, .ref q_t_upper, .ref q_t_line, .int t_lined, .ref q_t_text, .int t_length, .int t_at, .int t_order, .ref q_t_told, .ref q_t_why, .ref q_t_more, .int t_whys, .int t_answer])), (q_t_now, .inl (cI, 133, .inl t_now)), (q_t_tried, .inl (cI, 133, .inl t_tried)), (q_t_kept, .inl (cI, 1064, .inl t_kept)), (q_t_reach, .inl (cI, 16, .inl t_reach)), (q_t_why, .inl (cI, 4, .inl t_why)), (q_t_more, .inl (cI, 4, .inl t_more))] sz) := by
  refine jE_i (cc := cX10_loops) (maxL := 4) (own := RX10) (ret := (some .int)) (lv0 := [(0, .ref q_t), (1, .int v1)]) (by decide) rfl rfl rfl (Nat.le_of_ble_eq_true rfl) rfl ?_
  intro p e s m args below meth c A Q ls hx hb hml hown hts hK hN hX hA hP hD hS hl hRet
  have hF : CallFix p m c cX10_loops 4 s args wsX10_loops RX10 := ⟨hx, hb, hml, hown, hts⟩
  have fl_9 := hts (.fieldLink RX10 9 "LanternLogicModel" "now" "[I") (by decide +kernel)
  have hin_X10 : ∀ w ∈ u_ws RX10 TX10 24, w ∈ wsX10_loops := by decide +kernel
  have B60 : ∀ (t_undos : Int32) (t_whys : Int32) (t_now : Nat → Int32) (t_tried : Nat → Int32) (t_kept : Nat → Int32) (t_reach : Nat → Int32) (t_why : Nat → Int32) (t_more : Nat → Int32) (v3 : Int32) (s60_1 : Int32) (s60_2 : Int32) (H : Heap) (locs : List Loc), va_P D vwCl [(q_t, .inr (8, [.ref q_t_now, .ref q_t_tried, .ref q_t_thought, .ref q_t_kept, .int t_undos, .ref q_t_saved, .int t_isSaved, .ref q_t_finds, .ref q_t_reach, .ref q_t_steps, .ref q_t_glows, .ref q_t_lower, .ref q_t_upper, .ref q_t_line, .int t_lined, .ref q_t_text, .int t_length, .int t_at, .int t_order, .ref q_t_told, .ref q_t_why, .ref q_t_more, .int t_whys, .int t_answer])), (q_t_now, .inl (cI, 133, .inl t_now)), (q_t_tried, .inl (cI, 133, .inl t_tried)), (q_t_kept, .inl (cI, 1064, .inl t_kept)), (q_t_reach, .inl (cI, 16, .inl t_reach)), (q_t_why, .inl (cI, 4, .inl t_why)), (q_t_more, .inl (cI, 4, .inl t_more))] H → va_D A [(q_t, .inr (8, [.ref q_t_now, .ref q_t_tried, .ref q_t_thought, .ref q_t_kept, .int t_undos, .ref q_t_saved, .int t_isSaved, .ref q_t_finds, .ref q_t_reach, .ref q_t_steps, .ref q_t_glows, .ref q_t_lower, .ref q_t_upper, .ref q_t_line, .int t_lined, .ref q_t_text, .int t_length, .int t_at, .int t_order, .ref q_t_told, .ref q_t_why, .ref q_t_more, .int t_whys, .int t_answer])), (q_t_now, .inl (cI, 133, .inl t_now)), (q_t_tried, .inl (cI, 133, .inl t_tried)), (q_t_kept, .inl (cI, 1064, .inl t_kept)), (q_t_reach, .inl (cI, 16, .inl t_reach)), (q_t_why, .inl (cI, 4, .inl t_why)), (q_t_more, .inl (cI, 4, .inl t_more))] → va_S A s.heap H locs → ∀ ls : Array Slot, lv_has ls 4 [(0, .ref q_t), (3, .int v3)] → J_X10_loops_b60  v1 t_undos t_whys t_now t_tried t_kept t_reach t_why t_more v3 s60_1 s60_2 = some (r, o_t_undos, o_t_whys, o_t_now, o_t_tried, o_t_kept, o_t_reach, o_t_why, o_t_more) → W p l e rmX10_loops s m args below meth c H locs 0 0 Q (F0 m 60 ls [.int s60_2, .int s60_1, .ref q_t_now]) := by
    intro t_undos t_whys t_now t_tried t_kept t_reach t_why t_more v3 s60_1 s60_2 H locs hP hD hS ls hl hJ
    unfold J_X10_loops_b60 at hJ
    obtain ⟨hin, hJ⟩ := chk_in hJ
    refine va_iast hx hb hK hP hD hS 1 0 rfl rfl hin dX10_loops_60 (fun H locs hP hD hS => ?_)
    have hP : va_P D vwCl [(q_t, .inr (8, [.ref q_t_now, .ref q_t_tried, .ref q_t_thought, .ref q_t_kept, .int t_undos, .ref q_t_saved, .int t_isSaved, .ref q_t_finds, .ref q_t_reach, .ref q_t_steps, .ref q_t_glows, .ref q_t_lower, .ref q_t_upper, .ref q_t_line, .int t_lined, .ref q_t_text, .int t_length, .int t_at, .int t_order, .ref q_t_told, .ref q_t_why, .ref q_t_more, .int t_whys, .int t_answer])), (q_t_now, .inl (cI, 133, .inl (upd t_now s60_1.toNatClampNeg s60_2))), (q_t_tried, .inl (cI, 133, .inl t_tried)), (q_t_kept, .inl (cI, 1064, .inl t_kept)), (q_t_reach, .inl (cI, 16, .inl t_reach)), (q_t_why, .inl (cI, 4, .inl t_why)), (q_t_more, .inl (cI, 4, .inl t_more))] H := hP
    have hD : va_D A [(q_t, .inr (8, [.ref q_t_now, .ref q_t_tried, .ref q_t_thought, .ref q_t_kept, .int t_undos, .ref q_t_saved, .int t_isSaved, .ref q_t_finds, .ref q_t_reach, .ref q_t_steps, .ref q_t_glows, .ref q_t_lower, .ref q_t_upper, .ref q_t_line, .int t_lined, .ref q_t_text, .int t_length, .int t_at, .int t_order, .ref q_t_told, .ref q_t_why, .ref q_t_more, .int t_whys, .int t_answer])), (q_t_now, .inl (cI, 133, .inl (upd t_now s60_1.toNatClampNeg s60_2))), (q_t_tried, .inl (cI, 133, .inl t_tried)), (q_t_kept, .inl (cI, 1064, .inl t_kept)), (q_t_reach, .inl (cI, 16, .inl t_reach)), (q_t_why, .inl (cI, 4, .inl t_why)), (q_t_more, .inl (cI, 4, .inl t_more))] := hD
    refine lv_aload_n hx hb dX10_loops_61 rfl (lv_at hl 0 rfl) ?_
    refine lv_iload_n hx hb dX10_loops_62 rfl (lv_at hl 1 rfl) ?_
    obtain ⟨x63, t_undos_63, t_kept_63, hc63, hJ⟩ := bnd3_some hJ
    refine jcV_i (C := RX10) (T := TX10) (N := 24) (ci := 8) (q0 := 0) (As := [.int v3]) (rest := []) (isC := [0, 2, 3]) (isR := [1, 4, 5, 6]) (isB := [4, 0, 5, 6, 1, 2, 3]) (wr := [(q_t_now, .inl (cI, 133, .inl (upd t_now s60_1.toNatClampNeg s60_2))), (q_t_reach, .inl (cI, 16, .inl t_reach)), (q_t_why, .inl (cI, 4, .inl t_why)), (q_t_more, .inl (cI, 4, .inl t_more))]) (ws2 := [(q_t, .inr (8, [.ref q_t_now, .ref q_t_tried, .ref q_t_thought, .ref q_t_kept, .int t_undos_63, .ref q_t_saved, .int t_isSaved, .ref q_t_finds, .ref q_t_reach, .ref q_t_steps, .ref q_t_glows, .ref q_t_lower, .ref q_t_upper, .ref q_t_line, .int t_lined, .ref q_t_text, .int t_length, .int t_at, .int t_order, .ref q_t_told, .ref q_t_why, .ref q_t_more, .int t_whys, .int t_answer])), (q_t_now, .inl (cI, 133, .inl (upd t_now s60_1.toNatClampNeg s60_2))), (q_t_tried, .inl (cI, 133, .inl t_tried)), (q_t_kept, .inl (cI, 1064, .inl t_kept_63)), (q_t_reach, .inl (cI, 16, .inl t_reach)), (q_t_why, .inl (cI, 4, .inl t_why)), (q_t_more, .inl (cI, 4, .inl t_more))]) hF (c_X10_keeps l D cI cJ cC cL q_t q_t_now q_t_tried q_t_thought q_t_kept q_t_saved q_t_finds q_t_reach q_t_steps q_t_glows q_t_lower q_t_upper q_t_line q_t_text q_t_told q_t_why q_t_more t_undos t_isSaved t_lined t_length t_at t_order t_whys t_answer t_tried t_kept v3 x63 t_undos_63 t_kept_63 hc63 H.size) (cwV 1 hts gX10_loops_X10_keeps rfl rfl rfl (by decide +kernel) ⟨Nat.le_of_ble_eq_true rfl, Nat.le_of_ble_eq_true rfl⟩) rfl hl rfl (Nat.le_of_ble_eq_true rfl) dX10_loops_63 ⟨Nat.zero_le _, Nat.zero_le _⟩ hK hN KX_T trivial hP hD hS hA rfl rfl rfl rfl rfl rfl (by decide) rfl rfl (fun H locs hP hD hS => ?_)
    have hJ := Option.some.inj hJ
    obtain ⟨e0, e1, e2, e3, e4, e5, e6, e7, e8⟩ : (x63) = r ∧ (t_undos_63) = o_t_undos ∧ (t_whys) = o_t_whys ∧ ((upd t_now s60_1.toNatClampNeg s60_2)) = o_t_now ∧ (t_tried) = o_t_tried ∧ (t_kept_63) = o_t_kept ∧ (t_reach) = o_t_reach ∧ (t_why) = o_t_why ∧ (t_more) = o_t_more := ⟨congrArg (fun z => z.1) hJ, congrArg (fun z => z.2.1) hJ, congrArg (fun z => z.2.2.1) hJ, congrArg (fun z => z.2.2.2.1) hJ, congrArg (fun z => z.2.2.2.2.1) hJ, congrArg (fun z => z.2.2.2.2.2.1) hJ, congrArg (fun z => z.2.2.2.2.2.2.1) hJ, congrArg (fun z => z.2.2.2.2.2.2.2.1) hJ, congrArg (fun z => z.2.2.2.2.2.2.2.2) hJ⟩
    exact hRet (by rw [← e1, ← e2, ← e3, ← e4, ← e5, ← e6, ← e7, ← e8]; exact hP) (by rw [← e1, ← e2, ← e3, ← e4, ← e5, ← e6, ← e7, ← e8]; exact hD) hS e0 dX10_loops_66
  have B39 : ∀ (t_undos : Int32) (t_whys : Int32) (t_now : Nat → Int32) (t_tried : Nat → Int32) (t_kept : Nat → Int32) (t_reach : Nat → Int32) (t_why : Nat → Int32) (t_more : Nat → Int32) (H : Heap) (locs : List Loc), va_P D vwCl [(q_t, .inr (8, [.ref q_t_now, .ref q_t_tried, .ref q_t_thought, .ref q_t_kept, .int t_undos, .ref q_t_saved, .int t_isSaved, .ref q_t_finds, .ref q_t_reach, .ref q_t_steps, .ref q_t_glows, .ref q_t_lower, .ref q_t_upper, .ref q_t_line, .int t_lined, .ref q_t_text, .int t_length, .int t_at, .int t_order, .ref q_t_told, .ref q_t_why, .ref q_t_more, .int t_whys, .int t_answer])), (q_t_now, .inl (cI, 133, .inl t_now)), (q_t_tried, .inl (cI, 133, .inl t_tried)), (q_t_kept, .inl (cI, 1064, .inl t_kept)), (q_t_reach, .inl (cI, 16, .inl t_reach)), (q_t_why, .inl (cI, 4, .inl t_why)), (q_t_more, .inl (cI, 4, .inl t_more))] H → va_D A [(q_t, .inr (8, [.ref q_t_now, .ref q_t_tried, .ref q_t_thought, .ref q_t_kept, .int t_undos, .ref q_t_saved, .int t_isSaved, .ref q_t_finds, .ref q_t_reach, .ref q_t_steps, .ref q_t_glows, .ref q_t_lower, .ref q_t_upper, .ref q_t_line, .int t_lined, .ref q_t_text, .int t_length, .int t_at, .int t_order, .ref q_t_told, .ref q_t_why, .ref q_t_more, .int t_whys, .int t_answer])), (q_t_now, .inl (cI, 133, .inl t_now)), (q_t_tried, .inl (cI, 133, .inl t_tried)), (q_t_kept, .inl (cI, 1064, .inl t_kept)), (q_t_reach, .inl (cI, 16, .inl t_reach)), (q_t_why, .inl (cI, 4, .inl t_why)), (q_t_more, .inl (cI, 4, .inl t_more))] → va_S A s.heap H locs → ∀ ls : Array Slot, lv_has ls 4 [(0, .ref q_t), (1, .int v1)] → J_X10_loops_b39  v1 t_undos t_whys t_now t_tried t_kept t_reach t_why t_more = some (r, o_t_undos, o_t_whys, o_t_now, o_t_tried, o_t_kept, o_t_reach, o_t_why, o_t_more) → W p l e rmX10_loops s m args below meth c H locs 0 0 Q (F0 m 39 ls []) := by
    intro t_undos t_whys t_now t_tried t_kept t_reach t_why t_more H locs hP hD hS ls hl hJ
    unfold J_X10_loops_b39 at hJ
    refine lv_aload_n hx hb dX10_loops_39 rfl (lv_at hl 0 rfl) ?_
    refine va_get (ci := 8) (v := .ref q_t_now) (C := RX10) (T := TX10) (N := 24) hx hb hts hin_X10 hown hK hP 0 rfl rfl 0 (by decide) fl_9 (fun _ h9 => h9) rfl dX10_loops_40 ?_
    refine lv_iconst (v := (1 : Int32)) hx hb dX10_loops_43 (by decide) ?_
    obtain ⟨hin, hJ⟩ := chk_in hJ
    refine va_iald hx hb hK hP 1 0 rfl rfl hin dX10_loops_44 ?_
    refine jt_i hJ (fun x44 hJ => ?_)
    refine lv_istore_n (lv' := [(3, .int x44), (0, .ref q_t), (1, .int v1)]) hx hb dX10_loops_45 rfl hl (by decide) rfl (fun ls hl => ?_)
    refine lv_aload_n hx hb dX10_loops_46 rfl (lv_at hl 1 rfl) ?_
    refine va_get (ci := 8) (v := .ref q_t_now) (C := RX10) (T := TX10) (N := 24) hx hb hts hin_X10 hown hK hP 0 rfl rfl 0 (by decide) fl_9 (fun _ h9 => h9) rfl dX10_loops_47 ?_
    refine lv_iconst (v := (1 : Int32)) hx hb dX10_loops_50 (by decide) ?_
    refine lv_iload_n hx hb dX10_loops_51 rfl (lv_at hl 2 rfl) ?_
    refine jif_eq (tgt := 59) hx hb dX10_loops_52 (by decide) hJ (fun hJ => ?_) (fun hJ => ?_)
    · refine lv_iconst (v := (0 : Int32)) hx hb dX10_loops_59 (by decide) ?_
      exact B60  t_undos t_whys t_now t_tried t_kept t_reach t_why t_more x44 (1 : Int32) (0 : Int32)  H locs  hP hD hS _ (lv_sub hl [1, 0] rfl) hJ
    · refine lv_iconst (v := (1 : Int32)) hx hb dX10_loops_55 (by decide) ?_
      refine lv_goto (tgt := 60) hx hb dX10_loops_56 (by decide) ?_
      exact B60  t_undos t_whys t_now t_tried t_kept t_reach t_why t_more x44 (1 : Int32) (1 : Int32)  H locs  hP hD hS _ (lv_sub hl [1, 0] rfl) hJ
  unfold J_X10_loops at hJ
  refine lv_aload_n hx hb dX10_loops_0 rfl (lv_at hl 0 rfl) ?_
  obtain ⟨t_tried_1, hc1, hJ⟩ := bnd1_some hJ
  refine jcV_v (C := RX10) (T := TX10) (N := 24) (ci := 8) (q0 := 0) (As := []) (rest := []) (isC := [0, 1, 2]) (isR := [3, 4, 5, 6]) (isB := [4, 5, 6, 0, 1, 2, 3]) (wr := [(q_t_kept, .inl (cI, 1064, .inl t_kept)), (q_t_reach, .inl (cI, 16, .inl t_reach)), (q_t_why, .inl (cI, 4, .inl t_why)), (q_t_more, .inl (cI, 4, .inl t_more))]) (ws2 := [(q_t, .inr (8, [.ref q_t_now, .ref q_t_tried, .ref q_t_thought, .ref q_t_kept, .int t_undos, .ref q_t_saved, .int t_isSaved, .ref q_t_finds, .ref q_t_reach, .ref q_t_steps, .ref q_t_glows, .ref q_t_lower, .ref q_t_upper, .ref q_t_line, .int t_lined, .ref q_t_text, .int t_length, .int t_at, .int t_order, .ref q_t_told, .ref q_t_why, .ref q_t_more, .int t_whys, .int t_answer])), (q_t_now, .inl (cI, 133, .inl t_now)), (q_t_tried, .inl (cI, 133, .inl t_tried_1)), (q_t_kept, .inl (cI, 1064, .inl t_kept)), (q_t_reach, .inl (cI, 16, .inl t_reach)), (q_t_why, .inl (cI, 4, .inl t_why)), (q_t_more, .inl (cI, 4, .inl t_more))]) hF (c_X10_tries l D cI cJ cC cL q_t q_t_now q_t_tried q_t_thought q_t_kept q_t_saved q_t_finds q_t_reach q_t_steps q_t_glows q_t_lower q_t_upper q_t_line q_t_text q_t_told q_t_why q_t_more t_undos t_isSaved t_lined t_length t_at t_order t_whys t_answer t_now t_tried t_tried_1 hc1 s.heap.size) (cwV 0 hts gX10_loops_X10_tries rfl rfl rfl (by decide +kernel) ⟨Nat.le_of_ble_eq_true rfl, Nat.le_of_ble_eq_true rfl⟩) rfl hl rfl (Nat.le_of_ble_eq_true rfl) dX10_loops_1 ⟨Nat.zero_le _, Nat.zero_le _⟩ hK hN KX_T trivial hP hD hS hA rfl rfl rfl rfl rfl rfl (by decide) rfl rfl (fun H locs hP hD hS => ?_)
  refine lv_aload_n hx hb dX10_loops_4 rfl (lv_at hl 0 rfl) ?_
  obtain ⟨x5, t_reach_5, hc5, hJ⟩ := bnd2_some hJ
  refine jcV_i (C := RX10) (T := TX10) (N := 24) (ci := 8) (q0 := 0) (As := []) (rest := []) (isC := [0, 1, 4]) (isR := [2, 3, 5, 6]) (isB := [4, 5, 0, 1, 6, 2, 3]) (wr := [(q_t_tried, .inl (cI, 133, .inl t_tried_1)), (q_t_kept, .inl (cI, 1064, .inl t_kept)), (q_t_why, .inl (cI, 4, .inl t_why)), (q_t_more, .inl (cI, 4, .inl t_more))]) (ws2 := [(q_t, .inr (8, [.ref q_t_now, .ref q_t_tried, .ref q_t_thought, .ref q_t_kept, .int t_undos, .ref q_t_saved, .int t_isSaved, .ref q_t_finds, .ref q_t_reach, .ref q_t_steps, .ref q_t_glows, .ref q_t_lower, .ref q_t_upper, .ref q_t_line, .int t_lined, .ref q_t_text, .int t_length, .int t_at, .int t_order, .ref q_t_told, .ref q_t_why, .ref q_t_more, .int t_whys, .int t_answer])), (q_t_now, .inl (cI, 133, .inl t_now)), (q_t_tried, .inl (cI, 133, .inl t_tried_1)), (q_t_kept, .inl (cI, 1064, .inl t_kept)), (q_t_reach, .inl (cI, 16, .inl t_reach_5)), (q_t_why, .inl (cI, 4, .inl t_why)), (q_t_more, .inl (cI, 4, .inl t_more))]) hF (c_X10_loopSet l D cI cJ cC cL q_t q_t_now q_t_tried q_t_thought q_t_kept q_t_saved q_t_finds q_t_reach q_t_steps q_t_glows q_t_lower q_t_upper q_t_line q_t_text q_t_told q_t_why q_t_more t_undos t_isSaved t_lined t_length t_at t_order t_whys t_answer t_now t_reach x5 t_reach_5 hc5 H.size) (cwV 0 hts gX10_loops_X10_loopSet rfl rfl rfl (by decide +kernel) ⟨Nat.le_of_ble_eq_true rfl, Nat.le_of_ble_eq_true rfl⟩) rfl hl rfl (Nat.le_of_ble_eq_true rfl) dX10_loops_5 ⟨Nat.zero_le _, Nat.zero_le _⟩ hK hN KX_T trivial hP hD hS hA rfl rfl rfl rfl rfl rfl (by decide) rfl rfl (fun H locs hP hD hS => ?_)
  refine lv_istore_n (lv' := [(2, .int x5), (0, .ref q_t), (1, .int v1)]) hx hb dX10_loops_8 rfl hl (by decide) rfl (fun ls hl => ?_)
  refine lv_iload_n hx hb dX10_loops_9 rfl (lv_at hl 2 rfl) ?_
  refine jif_ne (tgt := 39) hx hb dX10_loops_10 (by decide) hJ (fun hJ => ?_) (fun hJ => ?_)
  · exact B39  t_undos t_whys t_now t_tried_1 t_kept t_reach_5 t_why t_more  H locs  hP hD hS _ (lv_sub hl [1, 2] rfl) hJ
  · refine lv_iload_n hx hb dX10_loops_13 rfl (lv_at hl 0 rfl) ?_
    refine jif_eq (tgt := 39) hx hb dX10_loops_14 (by decide) hJ (fun hJ => ?_) (fun hJ => ?_)
    · exact B39  t_undos t_whys t_now t_tried_1 t_kept t_reach_5 t_why t_more  H locs  hP hD hS _ (lv_sub hl [1, 2] rfl) hJ
    · refine lv_aload_n hx hb dX10_loops_17 rfl (lv_at hl 1 rfl) ?_
      refine lv_bipush (v := (9 : Int32)) hx hb dX10_loops_18 (by decide) ?_
      refine lv_iload_n hx hb dX10_loops_20 rfl (lv_at hl 0 rfl) ?_
      obtain ⟨x21, hc21, hJ⟩ := bnd1_some hJ
      refine jcS_i (As := [.int x5]) (rest := [.int (9 : Int32), .ref q_t]) (isC := []) (isR := [0, 1, 2, 3, 4, 5, 6]) (isB := [0, 1, 2, 3, 4, 5, 6]) (wr := [(q_t, .inr (8, [.ref q_t_now, .ref q_t_tried, .ref q_t_thought, .ref q_t_kept, .int t_undos, .ref q_t_saved, .int t_isSaved, .ref q_t_finds, .ref q_t_reach, .ref q_t_steps, .ref q_t_glows, .ref q_t_lower, .ref q_t_upper, .ref q_t_line, .int t_lined, .ref q_t_text, .int t_length, .int t_at, .int t_order, .ref q_t_told, .ref q_t_why, .ref q_t_more, .int t_whys, .int t_answer])), (q_t_now, .inl (cI, 133, .inl t_now)), (q_t_tried, .inl (cI, 133, .inl t_tried_1)), (q_t_kept, .inl (cI, 1064, .inl t_kept)), (q_t_reach, .inl (cI, 16, .inl t_reach_5)), (q_t_why, .inl (cI, 4, .inl t_why)), (q_t_more, .inl (cI, 4, .inl t_more))]) (ws2 := [(q_t, .inr (8, [.ref q_t_now, .ref q_t_tried, .ref q_t_thought, .ref q_t_kept, .int t_undos, .ref q_t_saved, .int t_isSaved, .ref q_t_finds, .ref q_t_reach, .ref q_t_steps, .ref q_t_glows, .ref q_t_lower, .ref q_t_upper, .ref q_t_line, .int t_lined, .ref q_t_text, .int t_length, .int t_at, .int t_order, .ref q_t_told, .ref q_t_why, .ref q_t_more, .int t_whys, .int t_answer])), (q_t_now, .inl (cI, 133, .inl t_now)), (q_t_tried, .inl (cI, 133, .inl t_tried_1)), (q_t_kept, .inl (cI, 1064, .inl t_kept)), (q_t_reach, .inl (cI, 16, .inl t_reach_5)), (q_t_why, .inl (cI, 4, .inl t_why)), (q_t_more, .inl (cI, 4, .inl t_more))]) hF (c_J6_numberOfTrailingZeros_0f7a4 l D cI cJ cC cL x5 x21 hc21 H.size) (va_cwS 1 hts gX10_loops_J6_numberOfTrailingZeros_0f7a4 rfl rfl rfl (by decide +kernel) ⟨Nat.le_of_ble_eq_true rfl, Nat.le_of_ble_eq_true rfl⟩) rfl hl rfl (Nat.le_of_ble_eq_true rfl) dX10_loops_21 ⟨Nat.zero_le _, Nat.zero_le _⟩ hK hN KX_T trivial hP hD hS hA rfl rfl rfl rfl (by decide) rfl rfl (fun H locs hP hD hS => ?_)
      obtain ⟨x24, t_whys_24, t_why_24, t_more_24, hc24, hJ⟩ := bnd4_some hJ
      refine jcV_i (C := RX10) (T := TX10) (N := 24) (ci := 8) (q0 := 0) (As := [.int (9 : Int32), .int x21]) (rest := []) (isC := [0, 5, 6]) (isR := [1, 2, 3, 4]) (isB := [4, 0, 1, 2, 3, 5, 6]) (wr := [(q_t_now, .inl (cI, 133, .inl t_now)), (q_t_tried, .inl (cI, 133, .inl t_tried_1)), (q_t_kept, .inl (cI, 1064, .inl t_kept)), (q_t_reach, .inl (cI, 16, .inl t_reach_5))]) (ws2 := [(q_t, .inr (8, [.ref q_t_now, .ref q_t_tried, .ref q_t_thought, .ref q_t_kept, .int t_undos, .ref q_t_saved, .int t_isSaved, .ref q_t_finds, .ref q_t_reach, .ref q_t_steps, .ref q_t_glows, .ref q_t_lower, .ref q_t_upper, .ref q_t_line, .int t_lined, .ref q_t_text, .int t_length, .int t_at, .int t_order, .ref q_t_told, .ref q_t_why, .ref q_t_more, .int t_whys_24, .int t_answer])), (q_t_now, .inl (cI, 133, .inl t_now)), (q_t_tried, .inl (cI, 133, .inl t_tried_1)), (q_t_kept, .inl (cI, 1064, .inl t_kept)), (q_t_reach, .inl (cI, 16, .inl t_reach_5)), (q_t_why, .inl (cI, 4, .inl t_why_24)), (q_t_more, .inl (cI, 4, .inl t_more_24))]) hF (c_X10_refuses l D cI cJ cC cL q_t q_t_now q_t_tried q_t_thought q_t_kept q_t_saved q_t_finds q_t_reach q_t_steps q_t_glows q_t_lower q_t_upper q_t_line q_t_text q_t_told q_t_why q_t_more t_undos t_isSaved t_lined t_length t_at t_order t_whys t_answer t_why t_more (9 : Int32) x21 x24 t_whys_24 t_why_24 t_more_24 hc24 H.size) (cwV 2 hts gX10_loops_X10_refuses rfl rfl rfl (by decide +kernel) ⟨Nat.le_of_ble_eq_true rfl, Nat.le_of_ble_eq_true rfl⟩) rfl hl rfl (Nat.le_of_ble_eq_true rfl) dX10_loops_24 ⟨Nat.zero_le _, Nat.zero_le _⟩ hK hN KX_T trivial hP hD hS hA rfl rfl rfl rfl rfl rfl (by decide) rfl rfl (fun H locs hP hD hS => ?_)
      refine lv_istore_n (lv' := [(3, .int x24), (2, .int x5), (0, .ref q_t), (1, .int v1)]) hx hb dX10_loops_27 rfl hl (by decide) rfl (fun ls hl => ?_)
      refine lv_aload_n hx hb dX10_loops_28 rfl (lv_at hl 2 rfl) ?_
      refine lv_bipush (v := (12 : Int32)) hx hb dX10_loops_29 (by decide) ?_
      refine lv_iload_n hx hb dX10_loops_31 rfl (lv_at hl 1 rfl) ?_
      obtain ⟨x32, hc32, hJ⟩ := bnd1_some hJ
      refine jcS_i (As := [.int x5]) (rest := [.int (12 : Int32), .ref q_t]) (isC := []) (isR := [0, 1, 2, 3, 4, 5, 6]) (isB := [0, 1, 2, 3, 4, 5, 6]) (wr := [(q_t, .inr (8, [.ref q_t_now, .ref q_t_tried, .ref q_t_thought, .ref q_t_kept, .int t_undos, .ref q_t_saved, .int t_isSaved, .ref q_t_finds, .ref q_t_reach, .ref q_t_steps, .ref q_t_glows, .ref q_t_lower, .ref q_t_upper, .ref q_t_line, .int t_lined, .ref q_t_text, .int t_length, .int t_at, .int t_order, .ref q_t_told, .ref q_t_why, .ref q_t_more, .int t_whys_24, .int t_answer])), (q_t_now, .inl (cI, 133, .inl t_now)), (q_t_tried, .inl (cI, 133, .inl t_tried_1)), (q_t_kept, .inl (cI, 1064, .inl t_kept)), (q_t_reach, .inl (cI, 16, .inl t_reach_5)), (q_t_why, .inl (cI, 4, .inl t_why_24)), (q_t_more, .inl (cI, 4, .inl t_more_24))]) (ws2 := [(q_t, .inr (8, [.ref q_t_now, .ref q_t_tried, .ref q_t_thought, .ref q_t_kept, .int t_undos, .ref q_t_saved, .int t_isSaved, .ref q_t_finds, .ref q_t_reach, .ref q_t_steps, .ref q_t_glows, .ref q_t_lower, .ref q_t_upper, .ref q_t_line, .int t_lined, .ref q_t_text, .int t_length, .int t_at, .int t_order, .ref q_t_told, .ref q_t_why, .ref q_t_more, .int t_whys_24, .int t_answer])), (q_t_now, .inl (cI, 133, .inl t_now)), (q_t_tried, .inl (cI, 133, .inl t_tried_1)), (q_t_kept, .inl (cI, 1064, .inl t_kept)), (q_t_reach, .inl (cI, 16, .inl t_reach_5)), (q_t_why, .inl (cI, 4, .inl t_why_24)), (q_t_more, .inl (cI, 4, .inl t_more_24))]) hF (c_J6_bitCount_0f7a4 l D cI cJ cC cL x5 x32 hc32 H.size) (va_cwS 1 hts gX10_loops_J6_bitCount_0f7a4 rfl rfl rfl (by decide +kernel) ⟨Nat.le_of_ble_eq_true rfl, Nat.le_of_ble_eq_true rfl⟩) rfl hl rfl (Nat.le_of_ble_eq_true rfl) dX10_loops_32 ⟨Nat.zero_le _, Nat.zero_le _⟩ hK hN KX_T trivial hP hD hS hA rfl rfl rfl rfl (by decide) rfl rfl (fun H locs hP hD hS => ?_)
      obtain ⟨x35, t_whys_35, t_why_35, t_more_35, hc35, hJ⟩ := bnd4_some hJ
      refine jcV_i (C := RX10) (T := TX10) (N := 24) (ci := 8) (q0 := 0) (As := [.int (12 : Int32), .int x32]) (rest := []) (isC := [0, 5, 6]) (isR := [1, 2, 3, 4]) (isB := [4, 0, 1, 2, 3, 5, 6]) (wr := [(q_t_now, .inl (cI, 133, .inl t_now)), (q_t_tried, .inl (cI, 133, .inl t_tried_1)), (q_t_kept, .inl (cI, 1064, .inl t_kept)), (q_t_reach, .inl (cI, 16, .inl t_reach_5))]) (ws2 := [(q_t, .inr (8, [.ref q_t_now, .ref q_t_tried, .ref q_t_thought, .ref q_t_kept, .int t_undos, .ref q_t_saved, .int t_isSaved, .ref q_t_finds, .ref q_t_reach, .ref q_t_steps, .ref q_t_glows, .ref q_t_lower, .ref q_t_upper, .ref q_t_line, .int t_lined, .ref q_t_text, .int t_length, .int t_at, .int t_order, .ref q_t_told, .ref q_t_why, .ref q_t_more, .int t_whys_35, .int t_answer])), (q_t_now, .inl (cI, 133, .inl t_now)), (q_t_tried, .inl (cI, 133, .inl t_tried_1)), (q_t_kept, .inl (cI, 1064, .inl t_kept)), (q_t_reach, .inl (cI, 16, .inl t_reach_5)), (q_t_why, .inl (cI, 4, .inl t_why_35)), (q_t_more, .inl (cI, 4, .inl t_more_35))]) hF (c_X10_behind l D cI cJ cC cL q_t q_t_now q_t_tried q_t_thought q_t_kept q_t_saved q_t_finds q_t_reach q_t_steps q_t_glows q_t_lower q_t_upper q_t_line q_t_text q_t_told q_t_why q_t_more t_undos t_isSaved t_lined t_length t_at t_order t_whys_24 t_answer t_why_24 t_more_24 (12 : Int32) x32 x35 t_whys_35 t_why_35 t_more_35 hc35 H.size) (cwV 2 hts gX10_loops_X10_behind rfl rfl rfl (by decide +kernel) ⟨Nat.le_of_ble_eq_true rfl, Nat.le_of_ble_eq_true rfl⟩) rfl hl rfl (Nat.le_of_ble_eq_true rfl) dX10_loops_35 ⟨Nat.zero_le _, Nat.zero_le _⟩ hK hN KX_T trivial hP hD hS hA rfl rfl rfl rfl rfl rfl (by decide) rfl rfl (fun H locs hP hD hS => ?_)
      have hJ := Option.some.inj hJ
      obtain ⟨e0, e1, e2, e3, e4, e5, e6, e7, e8⟩ : (x35) = r ∧ (t_undos) = o_t_undos ∧ (t_whys_35) = o_t_whys ∧ (t_now) = o_t_now ∧ (t_tried_1) = o_t_tried ∧ (t_kept) = o_t_kept ∧ (t_reach_5) = o_t_reach ∧ (t_why_35) = o_t_why ∧ (t_more_35) = o_t_more := ⟨congrArg (fun z => z.1) hJ, congrArg (fun z => z.2.1) hJ, congrArg (fun z => z.2.2.1) hJ, congrArg (fun z => z.2.2.2.1) hJ, congrArg (fun z => z.2.2.2.2.1) hJ, congrArg (fun z => z.2.2.2.2.2.1) hJ, congrArg (fun z => z.2.2.2.2.2.2.1) hJ, congrArg (fun z => z.2.2.2.2.2.2.2.1) hJ, congrArg (fun z => z.2.2.2.2.2.2.2.2) hJ⟩
      exact hRet (by rw [← e1, ← e2, ← e3, ← e4, ← e5, ← e6, ← e7, ← e8]; exact hP) (by rw [← e1, ← e2, ← e3, ← e4, ← e5, ← e6, ← e7, ← e8]; exact hD) hS e0 dX10_loops_38

def J_X10_deep_b63 (k28 : (Nat → Int32) → Int32 → Int32 → Option (Int32 × (Nat → Int32))) (t_now : Nat → Int32) (v1 : Int32) (t_reach : Nat → Int32) (v2 : Int32) (v3 : Int32) : Option (Int32 × (Nat → Int32)) :=
    nm (v3 + Int32.ofInt 1) fun x63 =>
    k28 t_reach v2 x63
def J_X10_deep_L28 (t_now : Nat → Int32) (v1 : Int32) : Nat → (Nat → Int32) → Int32 → Int32 → Option (Int32 × (Nat → Int32))
  | 0, _, _, _ => none
  | nf + 1, t_reach, v2, v3 =>
    chk (0 : Int32) 133 (
    nm (t_now (0 : Int32).toNatClampNeg) fun x34 =>
    if x34 ≤ v3 then (
    bnd1 (J_X10_rises 20 t_now v1) fun x71 =>
    some (x71, t_reach))
    else (
    nm (v2 >>> (v3 &&& 31)) fun x40 =>
    nm (x40 &&& (1 : Int32)) fun x42 =>
    if x42 = (1 : Int32) then (
    chk v3 16 (
    nm (t_reach v3.toNatClampNeg) fun x52 =>
    nm (x52 >>> (v1 &&& 31)) fun x54 =>
    nm (x54 &&& (1 : Int32)) fun x56 =>
    if x56 = (1 : Int32) then (
    some ((-1 : Int32), t_reach))
    else (
    J_X10_deep_b63 (fun z0 z1 z2 => J_X10_deep_L28 t_now v1 nf z0 z1 z2) t_now v1 t_reach v2 v3)))
    else (
    J_X10_deep_b63 (fun z0 z1 z2 => J_X10_deep_L28 t_now v1 nf z0 z1 z2) t_now v1 t_reach v2 v3)))
def J_X10_deep (t_now : Nat → Int32) (t_reach : Nat → Int32) (v1 : Int32) : Option (Int32 × (Nat → Int32)) :=
    bnd1 (J_X10_isSwitch t_now v1) fun x2 =>
    if x2 = 0 then (
    bnd2 (J_X10_loopSet t_now t_reach) fun x11 t_reach_11 =>
    nm (x11 >>> (v1 &&& 31)) fun x17 =>
    nm (x17 &&& (1 : Int32)) fun x19 =>
    if x19 = (1 : Int32) then (
    some ((-1 : Int32), t_reach_11))
    else (
    J_X10_deep_L28 t_now v1 FU t_reach_11 x11 (0 : Int32)))
    else (
    some ((0 : Int32), t_reach))
abbrev rmX10_deep : Room := { frames := 23, cells := 0, slots := 0, locals := 527 }
set_option maxHeartbeats 4000000 in
set_option maxRecDepth 100000 in
theorem c_X10_deep (l : Launch) (D : va_G) (cI cJ cC cL : ClassId) (q_t q_t_now q_t_tried q_t_thought q_t_kept q_t_saved q_t_finds q_t_reach q_t_steps q_t_glows q_t_lower q_t_upper q_t_line q_t_text q_t_told q_t_why q_t_more : Nat) (t_undos : Int32) (t_isSaved : Int32) (t_lined : Int32) (t_length : Int32) (t_at : Int32) (t_order : Int32) (t_whys : Int32) (t_answer : Int32) (t_now : Nat → Int32) (t_reach : Nat → Int32) (v1 : Int32) (r : Int32) (o_t_reach : Nat → Int32) (hJ : J_X10_deep t_now t_reach v1 = some (r, o_t_reach)) (sz : Nat) : Met l yX10_deep wsX10_deep rmX10_deep (va_Pc [.ref q_t, .int v1] (jpre XT D (tyL cI cJ cC cL) [(q_t, .inr (8, [.ref q_t_now, .ref q_t_tried, .ref q_t_thought, .ref q_t_kept, .int t_undos, .ref q_t_saved, .int t_isSaved, .ref q_t_finds, .ref q_t_reach, .ref q_t_steps, .ref q_t_glows, .ref q_t_lower, .ref q_t_upper, .ref q_t_line, .int t_lined, .ref q_t_text, .int t_length, .int t_at, .int t_order, .ref q_t_told, .ref q_t_why, .ref q_t_more, .int t_whys, .int t_answer])), (q_t_now, .inl (cI, 133, .inl t_now)), (q_t_reach, .inl (cI, 16, .inl t_reach))] sz)) (va_Qi (fun r' (_ : Unit) => r' = r) (fun _ t => jpost D (tyL cI cJ cC cL) (va_A [(q_t, .inr (8, [.ref q_t_now, .ref q_t_tried, .ref q_t_thought, .ref q_t_kept, .int t_undos, .ref q_t_saved, .int t_isSaved, .ref q_t_finds, .ref q_t_reach, .ref q_t_steps, .ref q_t_glows, .ref q_t_lower, .ref q_t_upper, .ref q_t_line, .int t_lined, .ref q_t_text, .int t_length, .int t_at, .int t_order, .ref q_t_told, .ref q_t_why, .ref q_t_more, .int t_whys, .int t_answer])), (q_t_now, .inl (cI, 133, .inl t_now)), (q_t_reach, .inl (cI, 16, .inl t_reach))] sz) [(q_t, .inr (8, [.ref q_t_now, .ref q_t_tried, .ref q_t_thought, .ref q_t_kept, .int t_undos, .ref q_t_saved, .int t_isSaved, .ref q_t_finds, .ref q_t_reach, .ref q_t_steps, .ref q_t_glows, .ref q_t_lower, .ref q_t_upper, .ref q_t_line, .int t_lined, .ref q_t_text, .int t_length, .int t_at, .int t_order, .ref q_t_told, .ref q_t_why, .ref q_t_more, .int t_whys, .int t_answer])), (q_t_now, .inl (cI, 133, .inl t_now)), (q_t_reach, .inl (cI, 16, .inl o_t_reach))] t) (va_A [(q_t, .inr (8, [.ref q_t_now, .ref q_t_tried, .ref q_t_thought, .ref q_t_kept, .int t_undos, .ref q_t_saved, .int t_isSaved, .ref q_t_finds, .ref q_t_reach, .ref q_t_steps, .ref q_t_glows, .ref q_t_lower, .ref q_t_upper, .ref q_t_line, .int t_lined, .ref q_t_text, .int t_length, .int t_at, .int t_order, .ref q_t_told, .ref q_t_why, .ref q_t_more, .int t_whys, .int t_answer])), (q_t_now, .inl (cI, 133, .inl t_now)), (q_t_reach, .inl (cI, 16, .inl t_reach))] sz)) 0 0 (va_A [(q_t, .inr (8, [.ref q_t_now, .ref q_t_tried, .ref q_t_thought, .ref q_t_kept, .int t_undos, .ref q_t_saved, .int t_isSaved, .ref q_t_finds, .ref q_t_reach, .ref q_t_steps, .ref q_t_glows, .ref q_t_lower, .ref q_t_upper, .ref q_t_line, .int t_lined, .ref q_t_text, .int t_length, .int t_at, .int t_order, .ref q_t_told, .ref q_t_why, .ref q_t_more, .int t_whys, .int t_answer])), (q_t_now, .inl (cI, 133, .inl t_now)), (q_t_reach, .inl (cI, 16, .inl t_reach))] sz) := by
  refine jE_i (cc := cX10_deep) (maxL := 4) (own := RX10) (ret := (some .int)) (lv0 := [(0, .ref q_t), (1, .int v1)]) (by decide) rfl rfl rfl (Nat.le_of_ble_eq_true rfl) rfl ?_
  intro p e s m args below meth c A Q ls hx hb hml hown hts hK hN hX hA hP hD hS hl hRet
  have hF : CallFix p m c cX10_deep 4 s args wsX10_deep RX10 := ⟨hx, hb, hml, hown, hts⟩
  have fl_9 := hts (.fieldLink RX10 9 "LanternLogicModel" "now" "[I") (by decide +kernel)
  have fl_28 := hts (.fieldLink RX10 28 "LanternLogicModel" "reach" "[I") (by decide +kernel)
  have hin_X10 : ∀ w ∈ u_ws RX10 TX10 24, w ∈ wsX10_deep := by decide +kernel
  have B63 : ∀ (k28 : (Nat → Int32) → Int32 → Int32 → Option (Int32 × (Nat → Int32))), (∀ (t_reach : Nat → Int32) (v2 : Int32) (v3 : Int32) (H : Heap) (locs : List Loc), va_P D vwCl [(q_t, .inr (8, [.ref q_t_now, .ref q_t_tried, .ref q_t_thought, .ref q_t_kept, .int t_undos, .ref q_t_saved, .int t_isSaved, .ref q_t_finds, .ref q_t_reach, .ref q_t_steps, .ref q_t_glows, .ref q_t_lower, .ref q_t_upper, .ref q_t_line, .int t_lined, .ref q_t_text, .int t_length, .int t_at, .int t_order, .ref q_t_told, .ref q_t_why, .ref q_t_more, .int t_whys, .int t_answer])), (q_t_now, .inl (cI, 133, .inl t_now)), (q_t_reach, .inl (cI, 16, .inl t_reach))] H → va_D A [(q_t, .inr (8, [.ref q_t_now, .ref q_t_tried, .ref q_t_thought, .ref q_t_kept, .int t_undos, .ref q_t_saved, .int t_isSaved, .ref q_t_finds, .ref q_t_reach, .ref q_t_steps, .ref q_t_glows, .ref q_t_lower, .ref q_t_upper, .ref q_t_line, .int t_lined, .ref q_t_text, .int t_length, .int t_at, .int t_order, .ref q_t_told, .ref q_t_why, .ref q_t_more, .int t_whys, .int t_answer])), (q_t_now, .inl (cI, 133, .inl t_now)), (q_t_reach, .inl (cI, 16, .inl t_reach))] → va_S A s.heap H locs → ∀ ls : Array Slot, lv_has ls 4 [(0, .ref q_t), (1, .int v1), (2, .int v2), (3, .int v3)] → k28 t_reach v2 v3 = some (r, o_t_reach) → W p l e rmX10_deep s m args below meth c H locs 0 0 Q (F0 m 28 ls [])) → ∀ (t_reach : Nat → Int32) (v2 : Int32) (v3 : Int32) (H : Heap) (locs : List Loc), va_P D vwCl [(q_t, .inr (8, [.ref q_t_now, .ref q_t_tried, .ref q_t_thought, .ref q_t_kept, .int t_undos, .ref q_t_saved, .int t_isSaved, .ref q_t_finds, .ref q_t_reach, .ref q_t_steps, .ref q_t_glows, .ref q_t_lower, .ref q_t_upper, .ref q_t_line, .int t_lined, .ref q_t_text, .int t_length, .int t_at, .int t_order, .ref q_t_told, .ref q_t_why, .ref q_t_more, .int t_whys, .int t_answer])), (q_t_now, .inl (cI, 133, .inl t_now)), (q_t_reach, .inl (cI, 16, .inl t_reach))] H → va_D A [(q_t, .inr (8, [.ref q_t_now, .ref q_t_tried, .ref q_t_thought, .ref q_t_kept, .int t_undos, .ref q_t_saved, .int t_isSaved, .ref q_t_finds, .ref q_t_reach, .ref q_t_steps, .ref q_t_glows, .ref q_t_lower, .ref q_t_upper, .ref q_t_line, .int t_lined, .ref q_t_text, .int t_length, .int t_at, .int t_order, .ref q_t_told, .ref q_t_why, .ref q_t_more, .int t_whys, .int t_answer])), (q_t_now, .inl (cI, 133, .inl t_now)), (q_t_reach, .inl (cI, 16, .inl t_reach))] → va_S A s.heap H locs → ∀ ls : Array Slot, lv_has ls 4 [(0, .ref q_t), (1, .int v1), (2, .int v2), (3, .int v3)] → J_X10_deep_b63 k28 t_now v1 t_reach v2 v3 = some (r, o_t_reach) → W p l e rmX10_deep s m args below meth c H locs 0 0 Q (F0 m 63 ls []) := by
    intro k28 hk28 t_reach v2 v3 H locs hP hD hS ls hl hJ
    unfold J_X10_deep_b63 at hJ
    refine jt_iinc hJ (fun x63 ex63 hJ => ?_)
    refine lv_iinc (v := x63) (lv' := [(3, .int x63), (0, .ref q_t), (1, .int v1), (2, .int v2)]) hx hb dX10_deep_63 hl (k := 3) rfl ex63 (by decide) rfl (fun ls hl => ?_)
    refine lv_goto (tgt := 28) hx hb dX10_deep_66 (by decide) ?_
    exact hk28 t_reach v2 x63  H locs  hP hD hS _ (lv_sub hl [1, 2, 3, 0] rfl) hJ
  have L28 : ∀ (nf : Nat), ∀ (t_reach : Nat → Int32) (v2 : Int32) (v3 : Int32) (H : Heap) (locs : List Loc), va_P D vwCl [(q_t, .inr (8, [.ref q_t_now, .ref q_t_tried, .ref q_t_thought, .ref q_t_kept, .int t_undos, .ref q_t_saved, .int t_isSaved, .ref q_t_finds, .ref q_t_reach, .ref q_t_steps, .ref q_t_glows, .ref q_t_lower, .ref q_t_upper, .ref q_t_line, .int t_lined, .ref q_t_text, .int t_length, .int t_at, .int t_order, .ref q_t_told, .ref q_t_why, .ref q_t_more, .int t_whys, .int t_answer])), (q_t_now, .inl (cI, 133, .inl t_now)), (q_t_reach, .inl (cI, 16, .inl t_reach))] H → va_D A [(q_t, .inr (8, [.ref q_t_now, .ref q_t_tried, .ref q_t_thought, .ref q_t_kept, .int t_undos, .ref q_t_saved, .int t_isSaved, .ref q_t_finds, .ref q_t_reach, .ref q_t_steps, .ref q_t_glows, .ref q_t_lower, .ref q_t_upper, .ref q_t_line, .int t_lined, .ref q_t_text, .int t_length, .int t_at, .int t_order, .ref q_t_told, .ref q_t_why, .ref q_t_more, .int t_whys, .int t_answer])), (q_t_now, .inl (cI, 133, .inl t_now)), (q_t_reach, .inl (cI, 16, .inl t_reach))] → va_S A s.heap H locs → ∀ ls : Array Slot, lv_has ls 4 [(0, .ref q_t), (1, .int v1), (2, .int v2), (3, .int v3)] → J_X10_deep_L28  t_now v1 nf t_reach v2 v3 = some (r, o_t_reach) → W p l e rmX10_deep s m args below meth c H locs 0 0 Q (F0 m 28 ls []) := by
    intro nf
    induction nf with
    | zero =>
      intro t_reach v2 v3 H locs hP hD hS ls hl hJ
      rw [J_X10_deep_L28] at hJ
      cases hJ
    | succ nf ih =>
      intro t_reach v2 v3 H locs hP hD hS ls hl hJ
      rw [J_X10_deep_L28] at hJ
      refine lv_iload_n hx hb dX10_deep_28 rfl (lv_at hl 3 rfl) ?_
      refine lv_aload_n hx hb dX10_deep_29 rfl (lv_at hl 0 rfl) ?_
      refine va_get (ci := 8) (v := .ref q_t_now) (C := RX10) (T := TX10) (N := 24) hx hb hts hin_X10 hown hK hP 0 rfl rfl 0 (by decide) fl_9 (fun _ h9 => h9) rfl dX10_deep_30 ?_
      refine lv_iconst (v := (0 : Int32)) hx hb dX10_deep_33 (by decide) ?_
      obtain ⟨hin, hJ⟩ := chk_in hJ
      refine va_iald hx hb hK hP 1 0 rfl rfl hin dX10_deep_34 ?_
      refine jt_i hJ (fun x34 hJ => ?_)
      refine jif_icmp_ge (tgt := 69) hx hb dX10_deep_35 (by decide) hJ (fun hJ => ?_) (fun hJ => ?_)
      · refine lv_aload_n hx hb dX10_deep_69 rfl (lv_at hl 0 rfl) ?_
        refine lv_iload_n hx hb dX10_deep_70 rfl (lv_at hl 1 rfl) ?_
        obtain ⟨x71, hc71, hJ⟩ := bnd1_some hJ
        refine jcV_i (C := RX10) (T := TX10) (N := 24) (ci := 8) (q0 := 0) (As := [.int v1]) (rest := []) (isC := [0, 1]) (isR := [2]) (isB := [1, 2, 0]) (wr := [(q_t_reach, .inl (cI, 16, .inl t_reach))]) (ws2 := [(q_t, .inr (8, [.ref q_t_now, .ref q_t_tried, .ref q_t_thought, .ref q_t_kept, .int t_undos, .ref q_t_saved, .int t_isSaved, .ref q_t_finds, .ref q_t_reach, .ref q_t_steps, .ref q_t_glows, .ref q_t_lower, .ref q_t_upper, .ref q_t_line, .int t_lined, .ref q_t_text, .int t_length, .int t_at, .int t_order, .ref q_t_told, .ref q_t_why, .ref q_t_more, .int t_whys, .int t_answer])), (q_t_now, .inl (cI, 133, .inl t_now)), (q_t_reach, .inl (cI, 16, .inl t_reach))]) hF (c_X10_rises l D cI cJ cC cL q_t q_t_now q_t_tried q_t_thought q_t_kept q_t_saved q_t_finds q_t_reach q_t_steps q_t_glows q_t_lower q_t_upper q_t_line q_t_text q_t_told q_t_why q_t_more t_undos t_isSaved t_lined t_length t_at t_order t_whys t_answer t_now v1 x71 hc71 H.size) (cwV 1 hts gX10_deep_X10_rises rfl rfl rfl (by decide +kernel) ⟨Nat.le_of_ble_eq_true rfl, Nat.le_of_ble_eq_true rfl⟩) rfl hl rfl (Nat.le_of_ble_eq_true rfl) dX10_deep_71 ⟨Nat.zero_le _, Nat.zero_le _⟩ hK hN KX_T trivial hP hD hS hA rfl rfl rfl rfl rfl rfl (by decide) rfl rfl (fun H locs hP hD hS => ?_)
        have hJ := Option.some.inj hJ
        obtain ⟨e0, e1⟩ : (x71) = r ∧ (t_reach) = o_t_reach := ⟨congrArg (fun z => z.1) hJ, congrArg (fun z => z.2) hJ⟩
        exact hRet (by rw [← e1]; exact hP) (by rw [← e1]; exact hD) hS e0 dX10_deep_74
      · refine lv_iload_n hx hb dX10_deep_38 rfl (lv_at hl 2 rfl) ?_
        refine lv_iload_n hx hb dX10_deep_39 rfl (lv_at hl 3 rfl) ?_
        refine lv_ishr hx hb dX10_deep_40 ?_
        refine jt_i hJ (fun x40 hJ => ?_)
        refine lv_iconst (v := (1 : Int32)) hx hb dX10_deep_41 (by decide) ?_
        refine lv_iand hx hb dX10_deep_42 ?_
        refine jt_i hJ (fun x42 hJ => ?_)
        refine lv_iconst (v := (1 : Int32)) hx hb dX10_deep_43 (by decide) ?_
        refine jif_icmp_ne (tgt := 63) hx hb dX10_deep_44 (by decide) hJ (fun hJ => ?_) (fun hJ => ?_)
        · exact B63 (fun z0 z1 z2 => J_X10_deep_L28 t_now v1 nf z0 z1 z2) ih t_reach v2 v3  H locs  hP hD hS _ (lv_sub hl [0, 1, 2, 3] rfl) hJ
        · refine lv_aload_n hx hb dX10_deep_47 rfl (lv_at hl 0 rfl) ?_
          refine va_get (ci := 8) (v := .ref q_t_reach) (C := RX10) (T := TX10) (N := 24) hx hb hts hin_X10 hown hK hP 0 rfl rfl 8 (by decide) fl_28 (fun _ h9 => h9) rfl dX10_deep_48 ?_
          refine lv_iload_n hx hb dX10_deep_51 rfl (lv_at hl 3 rfl) ?_
          obtain ⟨hin, hJ⟩ := chk_in hJ
          refine va_iald hx hb hK hP 2 0 rfl rfl hin dX10_deep_52 ?_
          refine jt_i hJ (fun x52 hJ => ?_)
          refine lv_iload_n hx hb dX10_deep_53 rfl (lv_at hl 1 rfl) ?_
          refine lv_ishr hx hb dX10_deep_54 ?_
          refine jt_i hJ (fun x54 hJ => ?_)
          refine lv_iconst (v := (1 : Int32)) hx hb dX10_deep_55 (by decide) ?_
          refine lv_iand hx hb dX10_deep_56 ?_
          refine jt_i hJ (fun x56 hJ => ?_)
          refine lv_iconst (v := (1 : Int32)) hx hb dX10_deep_57 (by decide) ?_
          refine jif_icmp_ne (tgt := 63) hx hb dX10_deep_58 (by decide) hJ (fun hJ => ?_) (fun hJ => ?_)
          · exact B63 (fun z0 z1 z2 => J_X10_deep_L28 t_now v1 nf z0 z1 z2) ih t_reach v2 v3  H locs  hP hD hS _ (lv_sub hl [0, 1, 2, 3] rfl) hJ
          · refine lv_iconst (v := (-1 : Int32)) hx hb dX10_deep_61 (by decide) ?_
            have hJ := Option.some.inj hJ
            obtain ⟨e0, e1⟩ : ((-1 : Int32)) = r ∧ (t_reach) = o_t_reach := ⟨congrArg (fun z => z.1) hJ, congrArg (fun z => z.2) hJ⟩
            exact hRet (by rw [← e1]; exact hP) (by rw [← e1]; exact hD) hS e0 dX10_deep_62
  unfold J_X10_deep at hJ
  refine lv_aload_n hx hb dX10_deep_0 rfl (lv_at hl 0 rfl) ?_
  refine lv_iload_n hx hb dX10_deep_1 rfl (lv_at hl 1 rfl) ?_
  obtain ⟨x2, hc2, hJ⟩ := bnd1_some hJ
  refine jcV_i (C := RX10) (T := TX10) (N := 24) (ci := 8) (q0 := 0) (As := [.int v1]) (rest := []) (isC := [0, 1]) (isR := [2]) (isB := [1, 2, 0]) (wr := [(q_t_reach, .inl (cI, 16, .inl t_reach))]) (ws2 := [(q_t, .inr (8, [.ref q_t_now, .ref q_t_tried, .ref q_t_thought, .ref q_t_kept, .int t_undos, .ref q_t_saved, .int t_isSaved, .ref q_t_finds, .ref q_t_reach, .ref q_t_steps, .ref q_t_glows, .ref q_t_lower, .ref q_t_upper, .ref q_t_line, .int t_lined, .ref q_t_text, .int t_length, .int t_at, .int t_order, .ref q_t_told, .ref q_t_why, .ref q_t_more, .int t_whys, .int t_answer])), (q_t_now, .inl (cI, 133, .inl t_now)), (q_t_reach, .inl (cI, 16, .inl t_reach))]) hF (c_X10_isSwitch l D cI cJ cC cL q_t q_t_now q_t_tried q_t_thought q_t_kept q_t_saved q_t_finds q_t_reach q_t_steps q_t_glows q_t_lower q_t_upper q_t_line q_t_text q_t_told q_t_why q_t_more t_undos t_isSaved t_lined t_length t_at t_order t_whys t_answer t_now v1 x2 hc2 s.heap.size) (cwV 1 hts gX10_deep_X10_isSwitch rfl rfl rfl (by decide +kernel) ⟨Nat.le_of_ble_eq_true rfl, Nat.le_of_ble_eq_true rfl⟩) rfl hl rfl (Nat.le_of_ble_eq_true rfl) dX10_deep_2 ⟨Nat.zero_le _, Nat.zero_le _⟩ hK hN KX_T trivial hP hD hS hA rfl rfl rfl rfl rfl rfl (by decide) rfl rfl (fun H locs hP hD hS => ?_)
  refine jif_eq (tgt := 10) hx hb dX10_deep_5 (by decide) hJ (fun hJ => ?_) (fun hJ => ?_)
  · refine lv_aload_n hx hb dX10_deep_10 rfl (lv_at hl 0 rfl) ?_
    obtain ⟨x11, t_reach_11, hc11, hJ⟩ := bnd2_some hJ
    refine jcV_i (C := RX10) (T := TX10) (N := 24) (ci := 8) (q0 := 0) (As := []) (rest := []) (isC := [0, 1, 2]) (isR := []) (isB := [0, 1, 2]) (wr := []) (ws2 := [(q_t, .inr (8, [.ref q_t_now, .ref q_t_tried, .ref q_t_thought, .ref q_t_kept, .int t_undos, .ref q_t_saved, .int t_isSaved, .ref q_t_finds, .ref q_t_reach, .ref q_t_steps, .ref q_t_glows, .ref q_t_lower, .ref q_t_upper, .ref q_t_line, .int t_lined, .ref q_t_text, .int t_length, .int t_at, .int t_order, .ref q_t_told, .ref q_t_why, .ref q_t_more, .int t_whys, .int t_answer])), (q_t_now, .inl (cI, 133, .inl t_now)), (q_t_reach, .inl (cI, 16, .inl t_reach_11))]) hF (c_X10_loopSet l D cI cJ cC cL q_t q_t_now q_t_tried q_t_thought q_t_kept q_t_saved q_t_finds q_t_reach q_t_steps q_t_glows q_t_lower q_t_upper q_t_line q_t_text q_t_told q_t_why q_t_more t_undos t_isSaved t_lined t_length t_at t_order t_whys t_answer t_now t_reach x11 t_reach_11 hc11 H.size) (cwV 0 hts gX10_deep_X10_loopSet rfl rfl rfl (by decide +kernel) ⟨Nat.le_of_ble_eq_true rfl, Nat.le_of_ble_eq_true rfl⟩) rfl hl rfl (Nat.le_of_ble_eq_true rfl) dX10_deep_11 ⟨Nat.zero_le _, Nat.zero_le _⟩ hK hN KX_T trivial hP hD hS hA rfl rfl rfl rfl rfl rfl (by decide) rfl rfl (fun H locs hP hD hS => ?_)
    refine lv_istore_n (lv' := [(2, .int x11), (0, .ref q_t), (1, .int v1)]) hx hb dX10_deep_14 rfl hl (by decide) rfl (fun ls hl => ?_)
    refine lv_iload_n hx hb dX10_deep_15 rfl (lv_at hl 0 rfl) ?_
    refine lv_iload_n hx hb dX10_deep_16 rfl (lv_at hl 2 rfl) ?_
    refine lv_ishr hx hb dX10_deep_17 ?_
    refine jt_i hJ (fun x17 hJ => ?_)
    refine lv_iconst (v := (1 : Int32)) hx hb dX10_deep_18 (by decide) ?_
    refine lv_iand hx hb dX10_deep_19 ?_
    refine jt_i hJ (fun x19 hJ => ?_)
    refine lv_iconst (v := (1 : Int32)) hx hb dX10_deep_20 (by decide) ?_
    refine jif_icmp_ne (tgt := 26) hx hb dX10_deep_21 (by decide) hJ (fun hJ => ?_) (fun hJ => ?_)
    · refine lv_iconst (v := (0 : Int32)) hx hb dX10_deep_26 (by decide) ?_
      refine lv_istore_n (lv' := [(3, .int (0 : Int32)), (2, .int x11), (0, .ref q_t), (1, .int v1)]) hx hb dX10_deep_27 rfl hl (by decide) rfl (fun ls hl => ?_)
      exact L28  FU t_reach_11 x11 (0 : Int32)  H locs  hP hD hS _ (lv_sub hl [2, 3, 1, 0] rfl) hJ
    · refine lv_iconst (v := (-1 : Int32)) hx hb dX10_deep_24 (by decide) ?_
      have hJ := Option.some.inj hJ
      obtain ⟨e0, e1⟩ : ((-1 : Int32)) = r ∧ (t_reach_11) = o_t_reach := ⟨congrArg (fun z => z.1) hJ, congrArg (fun z => z.2) hJ⟩
      exact hRet (by rw [← e1]; exact hP) (by rw [← e1]; exact hD) hS e0 dX10_deep_25
  · refine lv_iconst (v := (0 : Int32)) hx hb dX10_deep_8 (by decide) ?_
    have hJ := Option.some.inj hJ
    obtain ⟨e0, e1⟩ : ((0 : Int32)) = r ∧ (t_reach) = o_t_reach := ⟨congrArg (fun z => z.1) hJ, congrArg (fun z => z.2) hJ⟩
    exact hRet (by rw [← e1]; exact hP) (by rw [← e1]; exact hD) hS e0 dX10_deep_9

def J_X10_depth_b29 (t_now : Nat → Int32) (v1 : Int32) (t_reach : Nat → Int32) (s29_0 : Int32) : Option (Int32 × (Nat → Int32)) :=
    some (s29_0, t_reach)
def J_X10_depth (t_now : Nat → Int32) (t_reach : Nat → Int32) (v1 : Int32) : Option (Int32 × (Nat → Int32)) :=
    bnd1 (J_X10_isLantern t_now v1) fun x2 =>
    if x2 = 0 then (
    some ((-11 : Int32), t_reach))
    else (
    bnd2 (J_X10_deep t_now t_reach v1) fun x13 t_reach_13 =>
    if 0 ≤ x13 then (
    bnd2 (J_X10_deep t_now t_reach_13 v1) fun x26 t_reach_26 =>
    J_X10_depth_b29 t_now v1 t_reach_26 x26)
    else (
    J_X10_depth_b29 t_now v1 t_reach_13 (-15 : Int32)))
abbrev rmX10_depth : Room := { frames := 24, cells := 0, slots := 0, locals := 550 }
set_option maxHeartbeats 4000000 in
set_option maxRecDepth 100000 in
theorem c_X10_depth (l : Launch) (D : va_G) (cI cJ cC cL : ClassId) (q_t q_t_now q_t_tried q_t_thought q_t_kept q_t_saved q_t_finds q_t_reach q_t_steps q_t_glows q_t_lower q_t_upper q_t_line q_t_text q_t_told q_t_why q_t_more : Nat) (t_undos : Int32) (t_isSaved : Int32) (t_lined : Int32) (t_length : Int32) (t_at : Int32) (t_order : Int32) (t_whys : Int32) (t_answer : Int32) (t_now : Nat → Int32) (t_reach : Nat → Int32) (v1 : Int32) (r : Int32) (o_t_reach : Nat → Int32) (hJ : J_X10_depth t_now t_reach v1 = some (r, o_t_reach)) (sz : Nat) : Met l yX10_depth wsX10_depth rmX10_depth (va_Pc [.ref q_t, .int v1] (jpre XT D (tyL cI cJ cC cL) [(q_t, .inr (8, [.ref q_t_now, .ref q_t_tried, .ref q_t_thought, .ref q_t_kept, .int t_undos, .ref q_t_saved, .int t_isSaved, .ref q_t_finds, .ref q_t_reach, .ref q_t_steps, .ref q_t_glows, .ref q_t_lower, .ref q_t_upper, .ref q_t_line, .int t_lined, .ref q_t_text, .int t_length, .int t_at, .int t_order, .ref q_t_told, .ref q_t_why, .ref q_t_more, .int t_whys, .int t_answer])), (q_t_now, .inl (cI, 133, .inl t_now)), (q_t_reach, .inl (cI, 16, .inl t_reach))] sz)) (va_Qi (fun r' (_ : Unit) => r' = r) (fun _ t => jpost D (tyL cI cJ cC cL) (va_A [(q_t, .inr (8, [.ref q_t_now, .ref q_t_tried, .ref q_t_thought, .ref q_t_kept, .int t_undos, .ref q_t_saved, .int t_isSaved, .ref q_t_finds, .ref q_t_reach, .ref q_t_steps, .ref q_t_glows, .ref q_t_lower, .ref q_t_upper, .ref q_t_line, .int t_lined, .ref q_t_text, .int t_length, .int t_at, .int t_order, .ref q_t_told, .ref q_t_why, .ref q_t_more, .int t_whys, .int t_answer])), (q_t_now, .inl (cI, 133, .inl t_now)), (q_t_reach, .inl (cI, 16, .inl t_reach))] sz) [(q_t, .inr (8, [.ref q_t_now, .ref q_t_tried, .ref q_t_thought, .ref q_t_kept, .int t_undos, .ref q_t_saved, .int t_isSaved, .ref q_t_finds, .ref q_t_reach, .ref q_t_steps, .ref q_t_glows, .ref q_t_lower, .ref q_t_upper, .ref q_t_line, .int t_lined, .ref q_t_text, .int t_length, .int t_at, .int t_order, .ref q_t_told, .ref q_t_why, .ref q_t_more, .int t_whys, .int t_answer])), (q_t_now, .inl (cI, 133, .inl t_now)), (q_t_reach, .inl (cI, 16, .inl o_t_reach))] t) (va_A [(q_t, .inr (8, [.ref q_t_now, .ref q_t_tried, .ref q_t_thought, .ref q_t_kept, .int t_undos, .ref q_t_saved, .int t_isSaved, .ref q_t_finds, .ref q_t_reach, .ref q_t_steps, .ref q_t_glows, .ref q_t_lower, .ref q_t_upper, .ref q_t_line, .int t_lined, .ref q_t_text, .int t_length, .int t_at, .int t_order, .ref q_t_told, .ref q_t_why, .ref q_t_more, .int t_whys, .int t_answer])), (q_t_now, .inl (cI, 133, .inl t_now)), (q_t_reach, .inl (cI, 16, .inl t_reach))] sz)) 0 0 (va_A [(q_t, .inr (8, [.ref q_t_now, .ref q_t_tried, .ref q_t_thought, .ref q_t_kept, .int t_undos, .ref q_t_saved, .int t_isSaved, .ref q_t_finds, .ref q_t_reach, .ref q_t_steps, .ref q_t_glows, .ref q_t_lower, .ref q_t_upper, .ref q_t_line, .int t_lined, .ref q_t_text, .int t_length, .int t_at, .int t_order, .ref q_t_told, .ref q_t_why, .ref q_t_more, .int t_whys, .int t_answer])), (q_t_now, .inl (cI, 133, .inl t_now)), (q_t_reach, .inl (cI, 16, .inl t_reach))] sz) := by
  refine jE_i (cc := cX10_depth) (maxL := 2) (own := RX10) (ret := (some .int)) (lv0 := [(0, .ref q_t), (1, .int v1)]) (by decide) rfl rfl rfl (Nat.le_of_ble_eq_true rfl) rfl ?_
  intro p e s m args below meth c A Q ls hx hb hml hown hts hK hN hX hA hP hD hS hl hRet
  have hF : CallFix p m c cX10_depth 2 s args wsX10_depth RX10 := ⟨hx, hb, hml, hown, hts⟩
  have B29 : ∀ (t_reach : Nat → Int32) (s29_0 : Int32) (H : Heap) (locs : List Loc), va_P D vwCl [(q_t, .inr (8, [.ref q_t_now, .ref q_t_tried, .ref q_t_thought, .ref q_t_kept, .int t_undos, .ref q_t_saved, .int t_isSaved, .ref q_t_finds, .ref q_t_reach, .ref q_t_steps, .ref q_t_glows, .ref q_t_lower, .ref q_t_upper, .ref q_t_line, .int t_lined, .ref q_t_text, .int t_length, .int t_at, .int t_order, .ref q_t_told, .ref q_t_why, .ref q_t_more, .int t_whys, .int t_answer])), (q_t_now, .inl (cI, 133, .inl t_now)), (q_t_reach, .inl (cI, 16, .inl t_reach))] H → va_D A [(q_t, .inr (8, [.ref q_t_now, .ref q_t_tried, .ref q_t_thought, .ref q_t_kept, .int t_undos, .ref q_t_saved, .int t_isSaved, .ref q_t_finds, .ref q_t_reach, .ref q_t_steps, .ref q_t_glows, .ref q_t_lower, .ref q_t_upper, .ref q_t_line, .int t_lined, .ref q_t_text, .int t_length, .int t_at, .int t_order, .ref q_t_told, .ref q_t_why, .ref q_t_more, .int t_whys, .int t_answer])), (q_t_now, .inl (cI, 133, .inl t_now)), (q_t_reach, .inl (cI, 16, .inl t_reach))] → va_S A s.heap H locs → ∀ ls : Array Slot, lv_has ls 2 [] → J_X10_depth_b29  t_now v1 t_reach s29_0 = some (r, o_t_reach) → W p l e rmX10_depth s m args below meth c H locs 0 0 Q (F0 m 29 ls [.int s29_0]) := by
    intro t_reach s29_0 H locs hP hD hS ls hl hJ
    unfold J_X10_depth_b29 at hJ
    have hJ := Option.some.inj hJ
    obtain ⟨e0, e1⟩ : (s29_0) = r ∧ (t_reach) = o_t_reach := ⟨congrArg (fun z => z.1) hJ, congrArg (fun z => z.2) hJ⟩
    exact hRet (by rw [← e1]; exact hP) (by rw [← e1]; exact hD) hS e0 dX10_depth_29
  unfold J_X10_depth at hJ
  refine lv_aload_n hx hb dX10_depth_0 rfl (lv_at hl 0 rfl) ?_
  refine lv_iload_n hx hb dX10_depth_1 rfl (lv_at hl 1 rfl) ?_
  obtain ⟨x2, hc2, hJ⟩ := bnd1_some hJ
  refine jcV_i (C := RX10) (T := TX10) (N := 24) (ci := 8) (q0 := 0) (As := [.int v1]) (rest := []) (isC := [0, 1]) (isR := [2]) (isB := [1, 2, 0]) (wr := [(q_t_reach, .inl (cI, 16, .inl t_reach))]) (ws2 := [(q_t, .inr (8, [.ref q_t_now, .ref q_t_tried, .ref q_t_thought, .ref q_t_kept, .int t_undos, .ref q_t_saved, .int t_isSaved, .ref q_t_finds, .ref q_t_reach, .ref q_t_steps, .ref q_t_glows, .ref q_t_lower, .ref q_t_upper, .ref q_t_line, .int t_lined, .ref q_t_text, .int t_length, .int t_at, .int t_order, .ref q_t_told, .ref q_t_why, .ref q_t_more, .int t_whys, .int t_answer])), (q_t_now, .inl (cI, 133, .inl t_now)), (q_t_reach, .inl (cI, 16, .inl t_reach))]) hF (c_X10_isLantern l D cI cJ cC cL q_t q_t_now q_t_tried q_t_thought q_t_kept q_t_saved q_t_finds q_t_reach q_t_steps q_t_glows q_t_lower q_t_upper q_t_line q_t_text q_t_told q_t_why q_t_more t_undos t_isSaved t_lined t_length t_at t_order t_whys t_answer t_now v1 x2 hc2 s.heap.size) (cwV 1 hts gX10_depth_X10_isLantern rfl rfl rfl (by decide +kernel) ⟨Nat.le_of_ble_eq_true rfl, Nat.le_of_ble_eq_true rfl⟩) rfl hl rfl (Nat.le_of_ble_eq_true rfl) dX10_depth_2 ⟨Nat.zero_le _, Nat.zero_le _⟩ hK hN KX_T trivial hP hD hS hA rfl rfl rfl rfl rfl rfl (by decide) rfl rfl (fun H locs hP hD hS => ?_)
  refine jif_ne (tgt := 11) hx hb dX10_depth_5 (by decide) hJ (fun hJ => ?_) (fun hJ => ?_)
  · refine lv_aload_n hx hb dX10_depth_11 rfl (lv_at hl 0 rfl) ?_
    refine lv_iload_n hx hb dX10_depth_12 rfl (lv_at hl 1 rfl) ?_
    obtain ⟨x13, t_reach_13, hc13, hJ⟩ := bnd2_some hJ
    refine jcV_i (C := RX10) (T := TX10) (N := 24) (ci := 8) (q0 := 0) (As := [.int v1]) (rest := []) (isC := [0, 1, 2]) (isR := []) (isB := [0, 1, 2]) (wr := []) (ws2 := [(q_t, .inr (8, [.ref q_t_now, .ref q_t_tried, .ref q_t_thought, .ref q_t_kept, .int t_undos, .ref q_t_saved, .int t_isSaved, .ref q_t_finds, .ref q_t_reach, .ref q_t_steps, .ref q_t_glows, .ref q_t_lower, .ref q_t_upper, .ref q_t_line, .int t_lined, .ref q_t_text, .int t_length, .int t_at, .int t_order, .ref q_t_told, .ref q_t_why, .ref q_t_more, .int t_whys, .int t_answer])), (q_t_now, .inl (cI, 133, .inl t_now)), (q_t_reach, .inl (cI, 16, .inl t_reach_13))]) hF (c_X10_deep l D cI cJ cC cL q_t q_t_now q_t_tried q_t_thought q_t_kept q_t_saved q_t_finds q_t_reach q_t_steps q_t_glows q_t_lower q_t_upper q_t_line q_t_text q_t_told q_t_why q_t_more t_undos t_isSaved t_lined t_length t_at t_order t_whys t_answer t_now t_reach v1 x13 t_reach_13 hc13 H.size) (cwV 1 hts gX10_depth_X10_deep rfl rfl rfl (by decide +kernel) ⟨Nat.le_of_ble_eq_true rfl, Nat.le_of_ble_eq_true rfl⟩) rfl hl rfl (Nat.le_of_ble_eq_true rfl) dX10_depth_13 ⟨Nat.zero_le _, Nat.zero_le _⟩ hK hN KX_T trivial hP hD hS hA rfl rfl rfl rfl rfl rfl (by decide) rfl rfl (fun H locs hP hD hS => ?_)
    refine jif_ge (tgt := 24) hx hb dX10_depth_16 (by decide) hJ (fun hJ => ?_) (fun hJ => ?_)
    · refine lv_aload_n hx hb dX10_depth_24 rfl (lv_at hl 0 rfl) ?_
      refine lv_iload_n hx hb dX10_depth_25 rfl (lv_at hl 1 rfl) ?_
      obtain ⟨x26, t_reach_26, hc26, hJ⟩ := bnd2_some hJ
      refine jcV_i (C := RX10) (T := TX10) (N := 24) (ci := 8) (q0 := 0) (As := [.int v1]) (rest := []) (isC := [0, 1, 2]) (isR := []) (isB := [0, 1, 2]) (wr := []) (ws2 := [(q_t, .inr (8, [.ref q_t_now, .ref q_t_tried, .ref q_t_thought, .ref q_t_kept, .int t_undos, .ref q_t_saved, .int t_isSaved, .ref q_t_finds, .ref q_t_reach, .ref q_t_steps, .ref q_t_glows, .ref q_t_lower, .ref q_t_upper, .ref q_t_line, .int t_lined, .ref q_t_text, .int t_length, .int t_at, .int t_order, .ref q_t_told, .ref q_t_why, .ref q_t_more, .int t_whys, .int t_answer])), (q_t_now, .inl (cI, 133, .inl t_now)), (q_t_reach, .inl (cI, 16, .inl t_reach_26))]) hF (c_X10_deep l D cI cJ cC cL q_t q_t_now q_t_tried q_t_thought q_t_kept q_t_saved q_t_finds q_t_reach q_t_steps q_t_glows q_t_lower q_t_upper q_t_line q_t_text q_t_told q_t_why q_t_more t_undos t_isSaved t_lined t_length t_at t_order t_whys t_answer t_now t_reach_13 v1 x26 t_reach_26 hc26 H.size) (cwV 1 hts gX10_depth_X10_deep rfl rfl rfl (by decide +kernel) ⟨Nat.le_of_ble_eq_true rfl, Nat.le_of_ble_eq_true rfl⟩) rfl hl rfl (Nat.le_of_ble_eq_true rfl) dX10_depth_26 ⟨Nat.zero_le _, Nat.zero_le _⟩ hK hN KX_T trivial hP hD hS hA rfl rfl rfl rfl rfl rfl (by decide) rfl rfl (fun H locs hP hD hS => ?_)
      exact B29  t_reach_26 x26  H locs  hP hD hS _ (lv_sub hl [] rfl) hJ
    · refine lv_bipush (v := (-15 : Int32)) hx hb dX10_depth_19 (by decide) ?_
      refine lv_goto (tgt := 29) hx hb dX10_depth_21 (by decide) ?_
      exact B29  t_reach_13 (-15 : Int32)  H locs  hP hD hS _ (lv_sub hl [] rfl) hJ
  · refine lv_bipush (v := (-11 : Int32)) hx hb dX10_depth_8 (by decide) ?_
    have hJ := Option.some.inj hJ
    obtain ⟨e0, e1⟩ : ((-11 : Int32)) = r ∧ (t_reach) = o_t_reach := ⟨congrArg (fun z => z.1) hJ, congrArg (fun z => z.2) hJ⟩
    exact hRet (by rw [← e1]; exact hP) (by rw [← e1]; exact hD) hS e0 dX10_depth_10

def J_X10_depthAgain (t_now : Nat → Int32) (t_reach : Nat → Int32) (v1 : Int32) : Option (Int32 × (Nat → Int32)) :=
    bnd2 (J_X10_depth t_now t_reach v1) fun x2 t_reach_2 =>
    some (x2, t_reach_2)
abbrev rmX10_depthAgain : Room := { frames := 25, cells := 0, slots := 0, locals := 571 }
set_option maxHeartbeats 4000000 in
set_option maxRecDepth 100000 in
theorem c_X10_depthAgain (l : Launch) (D : va_G) (cI cJ cC cL : ClassId) (q_t q_t_now q_t_tried q_t_thought q_t_kept q_t_saved q_t_finds q_t_reach q_t_steps q_t_glows q_t_lower q_t_upper q_t_line q_t_text q_t_told q_t_why q_t_more : Nat) (t_undos : Int32) (t_isSaved : Int32) (t_lined : Int32) (t_length : Int32) (t_at : Int32) (t_order : Int32) (t_whys : Int32) (t_answer : Int32) (t_now : Nat → Int32) (t_reach : Nat → Int32) (v1 : Int32) (r : Int32) (o_t_reach : Nat → Int32) (hJ : J_X10_depthAgain t_now t_reach v1 = some (r, o_t_reach)) (sz : Nat) : Met l yX10_depthAgain wsX10_depthAgain rmX10_depthAgain (va_Pc [.ref q_t, .int v1] (jpre XT D (tyL cI cJ cC cL) [(q_t, .inr (8, [.ref q_t_now, .ref q_t_tried, .ref q_t_thought, .ref q_t_kept, .int t_undos, .ref q_t_saved, .int t_isSaved, .ref q_t_finds, .ref q_t_reach, .ref q_t_steps, .ref q_t_glows, .ref q_t_lower, .ref q_t_upper, .ref q_t_line, .int t_lined, .ref q_t_text, .int t_length, .int t_at, .int t_order, .ref q_t_told, .ref q_t_why, .ref q_t_more, .int t_whys, .int t_answer])), (q_t_now, .inl (cI, 133, .inl t_now)), (q_t_reach, .inl (cI, 16, .inl t_reach))] sz)) (va_Qi (fun r' (_ : Unit) => r' = r) (fun _ t => jpost D (tyL cI cJ cC cL) (va_A [(q_t, .inr (8, [.ref q_t_now, .ref q_t_tried, .ref q_t_thought, .ref q_t_kept, .int t_undos, .ref q_t_saved, .int t_isSaved, .ref q_t_finds, .ref q_t_reach, .ref q_t_steps, .ref q_t_glows, .ref q_t_lower, .ref q_t_upper, .ref q_t_line, .int t_lined, .ref q_t_text, .int t_length, .int t_at, .int t_order, .ref q_t_told, .ref q_t_why, .ref q_t_more, .int t_whys, .int t_answer])), (q_t_now, .inl (cI, 133, .inl t_now)), (q_t_reach, .inl (cI, 16, .inl t_reach))] sz) [(q_t, .inr (8, [.ref q_t_now, .ref q_t_tried, .ref q_t_thought, .ref q_t_kept, .int t_undos, .ref q_t_saved, .int t_isSaved, .ref q_t_finds, .ref q_t_reach, .ref q_t_steps, .ref q_t_glows, .ref q_t_lower, .ref q_t_upper, .ref q_t_line, .int t_lined, .ref q_t_text, .int t_length, .int t_at, .int t_order, .ref q_t_told, .ref q_t_why, .ref q_t_more, .int t_whys, .int t_answer])), (q_t_now, .inl (cI, 133, .inl t_now)), (q_t_reach, .inl (cI, 16, .inl o_t_reach))] t) (va_A [(q_t, .inr (8, [.ref q_t_now, .ref q_t_tried, .ref q_t_thought, .ref q_t_kept, .int t_undos, .ref q_t_saved, .int t_isSaved, .ref q_t_finds, .ref q_t_reach, .ref q_t_steps, .ref q_t_glows, .ref q_t_lower, .ref q_t_upper, .ref q_t_line, .int t_lined, .ref q_t_text, .int t_length, .int t_at, .int t_order, .ref q_t_told, .ref q_t_why, .ref q_t_more, .int t_whys, .int t_answer])), (q_t_now, .inl (cI, 133, .inl t_now)), (q_t_reach, .inl (cI, 16, .inl t_reach))] sz)) 0 0 (va_A [(q_t, .inr (8, [.ref q_t_now, .ref q_t_tried, .ref q_t_thought, .ref q_t_kept, .int t_undos, .ref q_t_saved, .int t_isSaved, .ref q_t_finds, .ref q_t_reach, .ref q_t_steps, .ref q_t_glows, .ref q_t_lower, .ref q_t_upper, .ref q_t_line, .int t_lined, .ref q_t_text, .int t_length, .int t_at, .int t_order, .ref q_t_told, .ref q_t_why, .ref q_t_more, .int t_whys, .int t_answer])), (q_t_now, .inl (cI, 133, .inl t_now)), (q_t_reach, .inl (cI, 16, .inl t_reach))] sz) := by
  refine jE_i (cc := cX10_depthAgain) (maxL := 2) (own := RX10) (ret := (some .int)) (lv0 := [(0, .ref q_t), (1, .int v1)]) (by decide) rfl rfl rfl (Nat.le_of_ble_eq_true rfl) rfl ?_
  intro p e s m args below meth c A Q ls hx hb hml hown hts hK hN hX hA hP hD hS hl hRet
  have hF : CallFix p m c cX10_depthAgain 2 s args wsX10_depthAgain RX10 := ⟨hx, hb, hml, hown, hts⟩
  unfold J_X10_depthAgain at hJ
  refine lv_aload_n hx hb dX10_depthAgain_0 rfl (lv_at hl 0 rfl) ?_
  refine lv_iload_n hx hb dX10_depthAgain_1 rfl (lv_at hl 1 rfl) ?_
  obtain ⟨x2, t_reach_2, hc2, hJ⟩ := bnd2_some hJ
  refine jcV_i (C := RX10) (T := TX10) (N := 24) (ci := 8) (q0 := 0) (As := [.int v1]) (rest := []) (isC := [0, 1, 2]) (isR := []) (isB := [0, 1, 2]) (wr := []) (ws2 := [(q_t, .inr (8, [.ref q_t_now, .ref q_t_tried, .ref q_t_thought, .ref q_t_kept, .int t_undos, .ref q_t_saved, .int t_isSaved, .ref q_t_finds, .ref q_t_reach, .ref q_t_steps, .ref q_t_glows, .ref q_t_lower, .ref q_t_upper, .ref q_t_line, .int t_lined, .ref q_t_text, .int t_length, .int t_at, .int t_order, .ref q_t_told, .ref q_t_why, .ref q_t_more, .int t_whys, .int t_answer])), (q_t_now, .inl (cI, 133, .inl t_now)), (q_t_reach, .inl (cI, 16, .inl t_reach_2))]) hF (c_X10_depth l D cI cJ cC cL q_t q_t_now q_t_tried q_t_thought q_t_kept q_t_saved q_t_finds q_t_reach q_t_steps q_t_glows q_t_lower q_t_upper q_t_line q_t_text q_t_told q_t_why q_t_more t_undos t_isSaved t_lined t_length t_at t_order t_whys t_answer t_now t_reach v1 x2 t_reach_2 hc2 s.heap.size) (cwV 1 hts gX10_depthAgain_X10_depth rfl rfl rfl (by decide +kernel) ⟨Nat.le_of_ble_eq_true rfl, Nat.le_of_ble_eq_true rfl⟩) rfl hl rfl (Nat.le_of_ble_eq_true rfl) dX10_depthAgain_2 ⟨Nat.zero_le _, Nat.zero_le _⟩ hK hN KX_T trivial hP hD hS hA rfl rfl rfl rfl rfl rfl (by decide) rfl rfl (fun H locs hP hD hS => ?_)
  have hJ := Option.some.inj hJ
  obtain ⟨e0, e1⟩ : (x2) = r ∧ (t_reach_2) = o_t_reach := ⟨congrArg (fun z => z.1) hJ, congrArg (fun z => z.2) hJ⟩
  exact hRet (by rw [← e1]; exact hP) (by rw [← e1]; exact hD) hS e0 dX10_depthAgain_5

def J_X10_glowsAt_b72 (k32 : Int32 → Int32 → Int32 → Option (Int32)) (slf : (Nat → Int32) → Int32 → Int32 → Int32 → Option (Int32)) (t_now : Nat → Int32) (v1 : Int32) (v2 : Int32) (v3 : Int32) (v4 : Int32) (v5 : Int32) (v6 : Int32) : Option (Int32) :=
    nm (v6 + Int32.ofInt 1) fun x72 =>
    k32 v4 v5 x72
def J_X10_glowsAt_L32 (slf : (Nat → Int32) → Int32 → Int32 → Int32 → Option (Int32)) (t_now : Nat → Int32) (v1 : Int32) (v2 : Int32) (v3 : Int32) : Nat → Int32 → Int32 → Int32 → Option (Int32)
  | 0, _, _, _ => none
  | nf + 1, v4, v5, v6 =>
    if (3 : Int32) ≤ v6 then (
    bnd1 (J_X10_of t_now v1 (0 : Int32)) fun x81 =>
    bnd1 (J_X10_found x81 v4 v5) fun x88 =>
    some (x88))
    else (
    bnd1 (J_X10_wired t_now v1 v6) fun x42 =>
    if 0 ≤ x42 then (
    nm (v5 + Int32.ofInt 1) fun x51 =>
    bnd1 (J_X10_wired t_now v1 v6) fun x61 =>
    bnd1 (slf t_now x61 v2 v3) fun x66 =>
    nm (v4 + x66) fun x69 =>
    J_X10_glowsAt_b72 (fun z0 z1 z2 => J_X10_glowsAt_L32 slf t_now v1 v2 v3 nf z0 z1 z2) slf t_now v1 v2 v3 x69 x51 v6)
    else (
    J_X10_glowsAt_b72 (fun z0 z1 z2 => J_X10_glowsAt_L32 slf t_now v1 v2 v3 nf z0 z1 z2) slf t_now v1 v2 v3 v4 v5 v6))
def J_X10_glowsAt_top (slf : (Nat → Int32) → Int32 → Int32 → Int32 → Option (Int32)) (t_now : Nat → Int32) (v1 : Int32) (v2 : Int32) (v3 : Int32) : Option (Int32) :=
    bnd1 (J_X10_isSwitch t_now v1) fun x2 =>
    if x2 = 0 then (
    J_X10_glowsAt_L32 slf t_now v1 v2 v3 FU (0 : Int32) (0 : Int32) (0 : Int32))
    else (
    nm ((1 : Int32) <<< (v1 &&& 31)) fun x12 =>
    nm (v2 &&& (x12 - (1 : Int32))) fun x15 =>
    bnd1 (J_J6_bitCount_0f7a4 x15) fun x16 =>
    nm (v3 >>> (x16 &&& 31)) fun x19 =>
    some (x19 &&& (1 : Int32)))
def J_X10_glowsAt : Nat → (Nat → Int32) → Int32 → Int32 → Int32 → Option (Int32)
  | 0, _, _, _, _ => none
  | dp + 1, t_now, v1, v2, v3 => J_X10_glowsAt_top (fun t_now v1 v2 v3 => J_X10_glowsAt dp t_now v1 v2 v3) t_now v1 v2 v3
def rmX10_glowsAt (d : Nat) : Room := { frames := 2 + d, cells := 0, slots := 0, locals := 44 + 26 * d }
set_option maxHeartbeats 4000000 in
set_option maxRecDepth 100000 in
theorem c_X10_glowsAt_all (l : Launch) (D : va_G) (cI cJ cC cL : ClassId) (q_t q_t_now q_t_tried q_t_thought q_t_kept q_t_saved q_t_finds q_t_reach q_t_steps q_t_glows q_t_lower q_t_upper q_t_line q_t_text q_t_told q_t_why q_t_more : Nat) : ∀ (dp : Nat) (t_undos : Int32) (t_isSaved : Int32) (t_lined : Int32) (t_length : Int32) (t_at : Int32) (t_order : Int32) (t_whys : Int32) (t_answer : Int32) (t_now : Nat → Int32) (v1 : Int32) (v2 : Int32) (v3 : Int32) (r : Int32) (hJ : J_X10_glowsAt dp t_now v1 v2 v3 = some (r)) (sz : Nat), Met l yX10_glowsAt wsX10_glowsAt (rmX10_glowsAt dp) (va_Pc [.ref q_t, .int v1, .int v2, .int v3] (jpre XT D (tyL cI cJ cC cL) [(q_t, .inr (8, [.ref q_t_now, .ref q_t_tried, .ref q_t_thought, .ref q_t_kept, .int t_undos, .ref q_t_saved, .int t_isSaved, .ref q_t_finds, .ref q_t_reach, .ref q_t_steps, .ref q_t_glows, .ref q_t_lower, .ref q_t_upper, .ref q_t_line, .int t_lined, .ref q_t_text, .int t_length, .int t_at, .int t_order, .ref q_t_told, .ref q_t_why, .ref q_t_more, .int t_whys, .int t_answer])), (q_t_now, .inl (cI, 133, .inl t_now))] sz)) (va_Qi (fun r' (_ : Unit) => r' = r) (fun _ t => jpost D (tyL cI cJ cC cL) (va_A [(q_t, .inr (8, [.ref q_t_now, .ref q_t_tried, .ref q_t_thought, .ref q_t_kept, .int t_undos, .ref q_t_saved, .int t_isSaved, .ref q_t_finds, .ref q_t_reach, .ref q_t_steps, .ref q_t_glows, .ref q_t_lower, .ref q_t_upper, .ref q_t_line, .int t_lined, .ref q_t_text, .int t_length, .int t_at, .int t_order, .ref q_t_told, .ref q_t_why, .ref q_t_more, .int t_whys, .int t_answer])), (q_t_now, .inl (cI, 133, .inl t_now))] sz) [(q_t, .inr (8, [.ref q_t_now, .ref q_t_tried, .ref q_t_thought, .ref q_t_kept, .int t_undos, .ref q_t_saved, .int t_isSaved, .ref q_t_finds, .ref q_t_reach, .ref q_t_steps, .ref q_t_glows, .ref q_t_lower, .ref q_t_upper, .ref q_t_line, .int t_lined, .ref q_t_text, .int t_length, .int t_at, .int t_order, .ref q_t_told, .ref q_t_why, .ref q_t_more, .int t_whys, .int t_answer])), (q_t_now, .inl (cI, 133, .inl t_now))] t) (va_A [(q_t, .inr (8, [.ref q_t_now, .ref q_t_tried, .ref q_t_thought, .ref q_t_kept, .int t_undos, .ref q_t_saved, .int t_isSaved, .ref q_t_finds, .ref q_t_reach, .ref q_t_steps, .ref q_t_glows, .ref q_t_lower, .ref q_t_upper, .ref q_t_line, .int t_lined, .ref q_t_text, .int t_length, .int t_at, .int t_order, .ref q_t_told, .ref q_t_why, .ref q_t_more, .int t_whys, .int t_answer])), (q_t_now, .inl (cI, 133, .inl t_now))] sz)) 0 0 (va_A [(q_t, .inr (8, [.ref q_t_now, .ref q_t_tried, .ref q_t_thought, .ref q_t_kept, .int t_undos, .ref q_t_saved, .int t_isSaved, .ref q_t_finds, .ref q_t_reach, .ref q_t_steps, .ref q_t_glows, .ref q_t_lower, .ref q_t_upper, .ref q_t_line, .int t_lined, .ref q_t_text, .int t_length, .int t_at, .int t_order, .ref q_t_told, .ref q_t_why, .ref q_t_more, .int t_whys, .int t_answer])), (q_t_now, .inl (cI, 133, .inl t_now))] sz) := by
  intro dp
  induction dp with
  | zero =>
    intro t_undos t_isSaved t_lined t_length t_at t_order t_whys t_answer t_now v1 v2 v3 r hJ sz
    rw [J_X10_glowsAt] at hJ
    cases hJ
  | succ dp ih =>
    intro t_undos t_isSaved t_lined t_length t_at t_order t_whys t_answer t_now v1 v2 v3 r hJ sz
    rw [J_X10_glowsAt] at hJ
    obtain ⟨slf, hslfe⟩ : ∃ f : (Nat → Int32) → Int32 → Int32 → Int32 → Option (Int32), f = (fun t_now v1 v2 v3 => J_X10_glowsAt dp t_now v1 v2 v3) := ⟨_, rfl⟩
    rw [← hslfe] at hJ
    have hslf : ∀ (t_undos : Int32) (t_isSaved : Int32) (t_lined : Int32) (t_length : Int32) (t_at : Int32) (t_order : Int32) (t_whys : Int32) (t_answer : Int32) (t_now : Nat → Int32) (v1 : Int32) (v2 : Int32) (v3 : Int32) (r : Int32) (hJ : slf t_now v1 v2 v3 = some (r)) (sz : Nat), Met l yX10_glowsAt wsX10_glowsAt (rmX10_glowsAt dp) (va_Pc [.ref q_t, .int v1, .int v2, .int v3] (jpre XT D (tyL cI cJ cC cL) [(q_t, .inr (8, [.ref q_t_now, .ref q_t_tried, .ref q_t_thought, .ref q_t_kept, .int t_undos, .ref q_t_saved, .int t_isSaved, .ref q_t_finds, .ref q_t_reach, .ref q_t_steps, .ref q_t_glows, .ref q_t_lower, .ref q_t_upper, .ref q_t_line, .int t_lined, .ref q_t_text, .int t_length, .int t_at, .int t_order, .ref q_t_told, .ref q_t_why, .ref q_t_more, .int t_whys, .int t_answer])), (q_t_now, .inl (cI, 133, .inl t_now))] sz)) (va_Qi (fun r' (_ : Unit) => r' = r) (fun _ t => jpost D (tyL cI cJ cC cL) (va_A [(q_t, .inr (8, [.ref q_t_now, .ref q_t_tried, .ref q_t_thought, .ref q_t_kept, .int t_undos, .ref q_t_saved, .int t_isSaved, .ref q_t_finds, .ref q_t_reach, .ref q_t_steps, .ref q_t_glows, .ref q_t_lower, .ref q_t_upper, .ref q_t_line, .int t_lined, .ref q_t_text, .int t_length, .int t_at, .int t_order, .ref q_t_told, .ref q_t_why, .ref q_t_more, .int t_whys, .int t_answer])), (q_t_now, .inl (cI, 133, .inl t_now))] sz) [(q_t, .inr (8, [.ref q_t_now, .ref q_t_tried, .ref q_t_thought, .ref q_t_kept, .int t_undos, .ref q_t_saved, .int t_isSaved, .ref q_t_finds, .ref q_t_reach, .ref q_t_steps, .ref q_t_glows, .ref q_t_lower, .ref q_t_upper, .ref q_t_line, .int t_lined, .ref q_t_text, .int t_length, .int t_at, .int t_order, .ref q_t_told, .ref q_t_why, .ref q_t_more, .int t_whys, .int t_answer])), (q_t_now, .inl (cI, 133, .inl t_now))] t) (va_A [(q_t, .inr (8, [.ref q_t_now, .ref q_t_tried, .ref q_t_thought, .ref q_t_kept, .int t_undos, .ref q_t_saved, .int t_isSaved, .ref q_t_finds, .ref q_t_reach, .ref q_t_steps, .ref q_t_glows, .ref q_t_lower, .ref q_t_upper, .ref q_t_line, .int t_lined, .ref q_t_text, .int t_length, .int t_at, .int t_order, .ref q_t_told, .ref q_t_why, .ref q_t_more, .int t_whys, .int t_answer])), (q_t_now, .inl (cI, 133, .inl t_now))] sz)) 0 0 (va_A [(q_t, .inr (8, [.ref q_t_now, .ref q_t_tried, .ref q_t_thought, .ref q_t_kept, .int t_undos, .ref q_t_saved, .int t_isSaved, .ref q_t_finds, .ref q_t_reach, .ref q_t_steps, .ref q_t_glows, .ref q_t_lower, .ref q_t_upper, .ref q_t_line, .int t_lined, .ref q_t_text, .int t_length, .int t_at, .int t_order, .ref q_t_told, .ref q_t_why, .ref q_t_more, .int t_whys, .int t_answer])), (q_t_now, .inl (cI, 133, .inl t_now))] sz) := by
      intro t_undos t_isSaved t_lined t_length t_at t_order t_whys t_answer t_now v1 v2 v3 r hJ sz
      rw [hslfe] at hJ
      exact ih t_undos t_isSaved t_lined t_length t_at t_order t_whys t_answer t_now v1 v2 v3 r hJ sz
    clear hslfe ih
    refine jE_i (cc := cX10_glowsAt) (maxL := 7) (own := RX10) (ret := (some .int)) (lv0 := [(0, .ref q_t), (1, .int v1), (2, .int v2), (3, .int v3)]) (by decide) rfl rfl rfl (Nat.le_of_ble_eq_true rfl) rfl ?_
    intro p e s m args below meth c A Q ls hx hb hml hown hts hK hN hX hA hP hD hS hl hRet
    have hF : CallFix p m c cX10_glowsAt 7 s args wsX10_glowsAt RX10 := ⟨hx, hb, hml, hown, hts⟩
    have B72 : ∀ (k32 : Int32 → Int32 → Int32 → Option (Int32)), (∀ (v4 : Int32) (v5 : Int32) (v6 : Int32) (H : Heap) (locs : List Loc), va_P D vwCl [(q_t, .inr (8, [.ref q_t_now, .ref q_t_tried, .ref q_t_thought, .ref q_t_kept, .int t_undos, .ref q_t_saved, .int t_isSaved, .ref q_t_finds, .ref q_t_reach, .ref q_t_steps, .ref q_t_glows, .ref q_t_lower, .ref q_t_upper, .ref q_t_line, .int t_lined, .ref q_t_text, .int t_length, .int t_at, .int t_order, .ref q_t_told, .ref q_t_why, .ref q_t_more, .int t_whys, .int t_answer])), (q_t_now, .inl (cI, 133, .inl t_now))] H → va_D A [(q_t, .inr (8, [.ref q_t_now, .ref q_t_tried, .ref q_t_thought, .ref q_t_kept, .int t_undos, .ref q_t_saved, .int t_isSaved, .ref q_t_finds, .ref q_t_reach, .ref q_t_steps, .ref q_t_glows, .ref q_t_lower, .ref q_t_upper, .ref q_t_line, .int t_lined, .ref q_t_text, .int t_length, .int t_at, .int t_order, .ref q_t_told, .ref q_t_why, .ref q_t_more, .int t_whys, .int t_answer])), (q_t_now, .inl (cI, 133, .inl t_now))] → va_S A s.heap H locs → ∀ ls : Array Slot, lv_has ls 7 [(0, .ref q_t), (1, .int v1), (2, .int v2), (3, .int v3), (4, .int v4), (5, .int v5), (6, .int v6)] → k32 v4 v5 v6 = some (r) → W p l e (rmX10_glowsAt (dp + 1)) s m args below meth c H locs 0 0 Q (F0 m 32 ls [])) → ∀ (v4 : Int32) (v5 : Int32) (v6 : Int32) (H : Heap) (locs : List Loc), va_P D vwCl [(q_t, .inr (8, [.ref q_t_now, .ref q_t_tried, .ref q_t_thought, .ref q_t_kept, .int t_undos, .ref q_t_saved, .int t_isSaved, .ref q_t_finds, .ref q_t_reach, .ref q_t_steps, .ref q_t_glows, .ref q_t_lower, .ref q_t_upper, .ref q_t_line, .int t_lined, .ref q_t_text, .int t_length, .int t_at, .int t_order, .ref q_t_told, .ref q_t_why, .ref q_t_more, .int t_whys, .int t_answer])), (q_t_now, .inl (cI, 133, .inl t_now))] H → va_D A [(q_t, .inr (8, [.ref q_t_now, .ref q_t_tried, .ref q_t_thought, .ref q_t_kept, .int t_undos, .ref q_t_saved, .int t_isSaved, .ref q_t_finds, .ref q_t_reach, .ref q_t_steps, .ref q_t_glows, .ref q_t_lower, .ref q_t_upper, .ref q_t_line, .int t_lined, .ref q_t_text, .int t_length, .int t_at, .int t_order, .ref q_t_told, .ref q_t_why, .ref q_t_more, .int t_whys, .int t_answer])), (q_t_now, .inl (cI, 133, .inl t_now))] → va_S A s.heap H locs → ∀ ls : Array Slot, lv_has ls 7 [(0, .ref q_t), (1, .int v1), (2, .int v2), (3, .int v3), (4, .int v4), (5, .int v5), (6, .int v6)] → J_X10_glowsAt_b72 k32 slf t_now v1 v2 v3 v4 v5 v6 = some (r) → W p l e (rmX10_glowsAt (dp + 1)) s m args below meth c H locs 0 0 Q (F0 m 72 ls []) := by
      intro k32 hk32 v4 v5 v6 H locs hP hD hS ls hl hJ
      unfold J_X10_glowsAt_b72 at hJ
      refine jt_iinc hJ (fun x72 ex72 hJ => ?_)
      refine lv_iinc (v := x72) (lv' := [(6, .int x72), (0, .ref q_t), (1, .int v1), (2, .int v2), (3, .int v3), (4, .int v4), (5, .int v5)]) hx hb dX10_glowsAt_72 hl (k := 6) rfl ex72 (by decide) rfl (fun ls hl => ?_)
      refine lv_goto (tgt := 32) hx hb dX10_glowsAt_75 (by decide) ?_
      exact hk32 v4 v5 x72  H locs  hP hD hS _ (lv_sub hl [1, 2, 3, 4, 5, 6, 0] rfl) hJ
    have L32 : ∀ (nf : Nat), ∀ (v4 : Int32) (v5 : Int32) (v6 : Int32) (H : Heap) (locs : List Loc), va_P D vwCl [(q_t, .inr (8, [.ref q_t_now, .ref q_t_tried, .ref q_t_thought, .ref q_t_kept, .int t_undos, .ref q_t_saved, .int t_isSaved, .ref q_t_finds, .ref q_t_reach, .ref q_t_steps, .ref q_t_glows, .ref q_t_lower, .ref q_t_upper, .ref q_t_line, .int t_lined, .ref q_t_text, .int t_length, .int t_at, .int t_order, .ref q_t_told, .ref q_t_why, .ref q_t_more, .int t_whys, .int t_answer])), (q_t_now, .inl (cI, 133, .inl t_now))] H → va_D A [(q_t, .inr (8, [.ref q_t_now, .ref q_t_tried, .ref q_t_thought, .ref q_t_kept, .int t_undos, .ref q_t_saved, .int t_isSaved, .ref q_t_finds, .ref q_t_reach, .ref q_t_steps, .ref q_t_glows, .ref q_t_lower, .ref q_t_upper, .ref q_t_line, .int t_lined, .ref q_t_text, .int t_length, .int t_at, .int t_order, .ref q_t_told, .ref q_t_why, .ref q_t_more, .int t_whys, .int t_answer])), (q_t_now, .inl (cI, 133, .inl t_now))] → va_S A s.heap H locs → ∀ ls : Array Slot, lv_has ls 7 [(0, .ref q_t), (1, .int v1), (2, .int v2), (3, .int v3), (4, .int v4), (5, .int v5), (6, .int v6)] → J_X10_glowsAt_L32  slf t_now v1 v2 v3 nf v4 v5 v6 = some (r) → W p l e (rmX10_glowsAt (dp + 1)) s m args below meth c H locs 0 0 Q (F0 m 32 ls []) := by
      intro nf
      induction nf with
      | zero =>
        intro v4 v5 v6 H locs hP hD hS ls hl hJ
        rw [J_X10_glowsAt_L32] at hJ
        cases hJ
      | succ nf ih =>
        intro v4 v5 v6 H locs hP hD hS ls hl hJ
        rw [J_X10_glowsAt_L32] at hJ
        refine lv_iload hx hb dX10_glowsAt_32 (lv_at hl 6 rfl) ?_
        refine lv_iconst (v := (3 : Int32)) hx hb dX10_glowsAt_34 (by decide) ?_
        refine jif_icmp_ge (tgt := 78) hx hb dX10_glowsAt_35 (by decide) hJ (fun hJ => ?_) (fun hJ => ?_)
        · refine lv_aload_n hx hb dX10_glowsAt_78 rfl (lv_at hl 0 rfl) ?_
          refine lv_iload_n hx hb dX10_glowsAt_79 rfl (lv_at hl 1 rfl) ?_
          refine lv_iconst (v := (0 : Int32)) hx hb dX10_glowsAt_80 (by decide) ?_
          obtain ⟨x81, hc81, hJ⟩ := bnd1_some hJ
          refine jcV_i (C := RX10) (T := TX10) (N := 24) (ci := 8) (q0 := 0) (As := [.int v1, .int (0 : Int32)]) (rest := []) (isC := [0, 1]) (isR := []) (isB := [0, 1]) (wr := []) (ws2 := [(q_t, .inr (8, [.ref q_t_now, .ref q_t_tried, .ref q_t_thought, .ref q_t_kept, .int t_undos, .ref q_t_saved, .int t_isSaved, .ref q_t_finds, .ref q_t_reach, .ref q_t_steps, .ref q_t_glows, .ref q_t_lower, .ref q_t_upper, .ref q_t_line, .int t_lined, .ref q_t_text, .int t_length, .int t_at, .int t_order, .ref q_t_told, .ref q_t_why, .ref q_t_more, .int t_whys, .int t_answer])), (q_t_now, .inl (cI, 133, .inl t_now))]) hF (c_X10_of l D cI cJ cC cL q_t q_t_now q_t_tried q_t_thought q_t_kept q_t_saved q_t_finds q_t_reach q_t_steps q_t_glows q_t_lower q_t_upper q_t_line q_t_text q_t_told q_t_why q_t_more t_undos t_isSaved t_lined t_length t_at t_order t_whys t_answer t_now v1 (0 : Int32) x81 hc81 H.size) (cwV 2 hts gX10_glowsAt_X10_of rfl rfl rfl (by decide +kernel) (by simp only [rmX10_glowsAt, rmX10_of]; omega)) rfl hl rfl (Nat.le_of_ble_eq_true rfl) dX10_glowsAt_81 ⟨Nat.zero_le _, Nat.zero_le _⟩ hK hN KX_T trivial hP hD hS hA rfl rfl rfl rfl rfl rfl (by decide) rfl rfl (fun H locs hP hD hS => ?_)
          refine lv_iload hx hb dX10_glowsAt_84 (lv_at hl 4 rfl) ?_
          refine lv_iload hx hb dX10_glowsAt_86 (lv_at hl 5 rfl) ?_
          obtain ⟨x88, hc88, hJ⟩ := bnd1_some hJ
          refine jcS_i (As := [.int x81, .int v4, .int v5]) (rest := []) (isC := []) (isR := [0, 1]) (isB := [0, 1]) (wr := [(q_t, .inr (8, [.ref q_t_now, .ref q_t_tried, .ref q_t_thought, .ref q_t_kept, .int t_undos, .ref q_t_saved, .int t_isSaved, .ref q_t_finds, .ref q_t_reach, .ref q_t_steps, .ref q_t_glows, .ref q_t_lower, .ref q_t_upper, .ref q_t_line, .int t_lined, .ref q_t_text, .int t_length, .int t_at, .int t_order, .ref q_t_told, .ref q_t_why, .ref q_t_more, .int t_whys, .int t_answer])), (q_t_now, .inl (cI, 133, .inl t_now))]) (ws2 := [(q_t, .inr (8, [.ref q_t_now, .ref q_t_tried, .ref q_t_thought, .ref q_t_kept, .int t_undos, .ref q_t_saved, .int t_isSaved, .ref q_t_finds, .ref q_t_reach, .ref q_t_steps, .ref q_t_glows, .ref q_t_lower, .ref q_t_upper, .ref q_t_line, .int t_lined, .ref q_t_text, .int t_length, .int t_at, .int t_order, .ref q_t_told, .ref q_t_why, .ref q_t_more, .int t_whys, .int t_answer])), (q_t_now, .inl (cI, 133, .inl t_now))]) hF (c_X10_found l D cI cJ cC cL x81 v4 v5 x88 hc88 H.size) (va_cwS 3 hts gX10_glowsAt_X10_found rfl rfl rfl (by decide +kernel) (by simp only [rmX10_glowsAt, rmX10_found]; omega)) rfl hl rfl (Nat.le_of_ble_eq_true rfl) dX10_glowsAt_88 ⟨Nat.zero_le _, Nat.zero_le _⟩ hK hN KX_T trivial hP hD hS hA rfl rfl rfl rfl (by decide) rfl rfl (fun H locs hP hD hS => ?_)
          have e0 := Option.some.inj hJ
          exact hRet hP hD hS e0 dX10_glowsAt_91
        · refine lv_aload_n hx hb dX10_glowsAt_38 rfl (lv_at hl 0 rfl) ?_
          refine lv_iload_n hx hb dX10_glowsAt_39 rfl (lv_at hl 1 rfl) ?_
          refine lv_iload hx hb dX10_glowsAt_40 (lv_at hl 6 rfl) ?_
          obtain ⟨x42, hc42, hJ⟩ := bnd1_some hJ
          refine jcV_i (C := RX10) (T := TX10) (N := 24) (ci := 8) (q0 := 0) (As := [.int v1, .int v6]) (rest := []) (isC := [0, 1]) (isR := []) (isB := [0, 1]) (wr := []) (ws2 := [(q_t, .inr (8, [.ref q_t_now, .ref q_t_tried, .ref q_t_thought, .ref q_t_kept, .int t_undos, .ref q_t_saved, .int t_isSaved, .ref q_t_finds, .ref q_t_reach, .ref q_t_steps, .ref q_t_glows, .ref q_t_lower, .ref q_t_upper, .ref q_t_line, .int t_lined, .ref q_t_text, .int t_length, .int t_at, .int t_order, .ref q_t_told, .ref q_t_why, .ref q_t_more, .int t_whys, .int t_answer])), (q_t_now, .inl (cI, 133, .inl t_now))]) hF (c_X10_wired l D cI cJ cC cL q_t q_t_now q_t_tried q_t_thought q_t_kept q_t_saved q_t_finds q_t_reach q_t_steps q_t_glows q_t_lower q_t_upper q_t_line q_t_text q_t_told q_t_why q_t_more t_undos t_isSaved t_lined t_length t_at t_order t_whys t_answer t_now v1 v6 x42 hc42 H.size) (cwV 2 hts gX10_glowsAt_X10_wired rfl rfl rfl (by decide +kernel) (by simp only [rmX10_glowsAt, rmX10_wired]; omega)) rfl hl rfl (Nat.le_of_ble_eq_true rfl) dX10_glowsAt_42 ⟨Nat.zero_le _, Nat.zero_le _⟩ hK hN KX_T trivial hP hD hS hA rfl rfl rfl rfl rfl rfl (by decide) rfl rfl (fun H locs hP hD hS => ?_)
          refine jif_ge (tgt := 51) hx hb dX10_glowsAt_45 (by decide) hJ (fun hJ => ?_) (fun hJ => ?_)
          · refine jt_iinc hJ (fun x51 ex51 hJ => ?_)
            refine lv_iinc (v := x51) (lv' := [(5, .int x51), (0, .ref q_t), (1, .int v1), (2, .int v2), (3, .int v3), (4, .int v4), (6, .int v6)]) hx hb dX10_glowsAt_51 hl (k := 5) rfl ex51 (by decide) rfl (fun ls hl => ?_)
            refine lv_iload hx hb dX10_glowsAt_54 (lv_at hl 5 rfl) ?_
            refine lv_aload_n hx hb dX10_glowsAt_56 rfl (lv_at hl 1 rfl) ?_
            refine lv_aload_n hx hb dX10_glowsAt_57 rfl (lv_at hl 1 rfl) ?_
            refine lv_iload_n hx hb dX10_glowsAt_58 rfl (lv_at hl 2 rfl) ?_
            refine lv_iload hx hb dX10_glowsAt_59 (lv_at hl 6 rfl) ?_
            obtain ⟨x61, hc61, hJ⟩ := bnd1_some hJ
            refine jcV_i (C := RX10) (T := TX10) (N := 24) (ci := 8) (q0 := 0) (As := [.int v1, .int v6]) (rest := [.ref q_t, .int v4]) (isC := [0, 1]) (isR := []) (isB := [0, 1]) (wr := []) (ws2 := [(q_t, .inr (8, [.ref q_t_now, .ref q_t_tried, .ref q_t_thought, .ref q_t_kept, .int t_undos, .ref q_t_saved, .int t_isSaved, .ref q_t_finds, .ref q_t_reach, .ref q_t_steps, .ref q_t_glows, .ref q_t_lower, .ref q_t_upper, .ref q_t_line, .int t_lined, .ref q_t_text, .int t_length, .int t_at, .int t_order, .ref q_t_told, .ref q_t_why, .ref q_t_more, .int t_whys, .int t_answer])), (q_t_now, .inl (cI, 133, .inl t_now))]) hF (c_X10_wired l D cI cJ cC cL q_t q_t_now q_t_tried q_t_thought q_t_kept q_t_saved q_t_finds q_t_reach q_t_steps q_t_glows q_t_lower q_t_upper q_t_line q_t_text q_t_told q_t_why q_t_more t_undos t_isSaved t_lined t_length t_at t_order t_whys t_answer t_now v1 v6 x61 hc61 H.size) (cwV 2 hts gX10_glowsAt_X10_wired rfl rfl rfl (by decide +kernel) (by simp only [rmX10_glowsAt, rmX10_wired]; omega)) rfl hl rfl (Nat.le_of_ble_eq_true rfl) dX10_glowsAt_61 ⟨Nat.zero_le _, Nat.zero_le _⟩ hK hN KX_T trivial hP hD hS hA rfl rfl rfl rfl rfl rfl (by decide) rfl rfl (fun H locs hP hD hS => ?_)
            refine lv_iload_n hx hb dX10_glowsAt_64 rfl (lv_at hl 3 rfl) ?_
            refine lv_iload_n hx hb dX10_glowsAt_65 rfl (lv_at hl 4 rfl) ?_
            obtain ⟨x66, hc66, hJ⟩ := bnd1_some hJ
            refine jcV_i (C := RX10) (T := TX10) (N := 24) (ci := 8) (q0 := 0) (As := [.int x61, .int v2, .int v3]) (rest := [.int v4]) (isC := [0, 1]) (isR := []) (isB := [0, 1]) (wr := []) (ws2 := [(q_t, .inr (8, [.ref q_t_now, .ref q_t_tried, .ref q_t_thought, .ref q_t_kept, .int t_undos, .ref q_t_saved, .int t_isSaved, .ref q_t_finds, .ref q_t_reach, .ref q_t_steps, .ref q_t_glows, .ref q_t_lower, .ref q_t_upper, .ref q_t_line, .int t_lined, .ref q_t_text, .int t_length, .int t_at, .int t_order, .ref q_t_told, .ref q_t_why, .ref q_t_more, .int t_whys, .int t_answer])), (q_t_now, .inl (cI, 133, .inl t_now))]) hF (hslf t_undos t_isSaved t_lined t_length t_at t_order t_whys t_answer t_now x61 v2 v3 x66 hc66 H.size) (cwV 3 hts gX10_glowsAt_X10_glowsAt rfl rfl rfl (by decide +kernel) (by simp only [rmX10_glowsAt]; omega)) rfl hl rfl (Nat.le_of_ble_eq_true rfl) dX10_glowsAt_66 ⟨Nat.zero_le _, Nat.zero_le _⟩ hK hN KX_T trivial hP hD hS hA rfl rfl rfl rfl rfl rfl (by decide) rfl rfl (fun H locs hP hD hS => ?_)
            refine lv_iadd hx hb dX10_glowsAt_69 ?_
            refine jt_i hJ (fun x69 hJ => ?_)
            refine lv_istore (lv' := [(4, .int x69), (5, .int x51), (0, .ref q_t), (1, .int v1), (2, .int v2), (3, .int v3), (6, .int v6)]) hx hb dX10_glowsAt_70 hl (by decide) rfl (fun ls hl => ?_)
            exact B72 (fun z0 z1 z2 => J_X10_glowsAt_L32 slf t_now v1 v2 v3 nf z0 z1 z2) ih x69 x51 v6  H locs  hP hD hS _ (lv_sub hl [2, 3, 4, 5, 0, 1, 6] rfl) hJ
          · refine lv_goto (tgt := 72) hx hb dX10_glowsAt_48 (by decide) ?_
            exact B72 (fun z0 z1 z2 => J_X10_glowsAt_L32 slf t_now v1 v2 v3 nf z0 z1 z2) ih v4 v5 v6  H locs  hP hD hS _ (lv_sub hl [0, 1, 2, 3, 4, 5, 6] rfl) hJ
    unfold J_X10_glowsAt_top at hJ
    refine lv_aload_n hx hb dX10_glowsAt_0 rfl (lv_at hl 0 rfl) ?_
    refine lv_iload_n hx hb dX10_glowsAt_1 rfl (lv_at hl 1 rfl) ?_
    obtain ⟨x2, hc2, hJ⟩ := bnd1_some hJ
    refine jcV_i (C := RX10) (T := TX10) (N := 24) (ci := 8) (q0 := 0) (As := [.int v1]) (rest := []) (isC := [0, 1]) (isR := []) (isB := [0, 1]) (wr := []) (ws2 := [(q_t, .inr (8, [.ref q_t_now, .ref q_t_tried, .ref q_t_thought, .ref q_t_kept, .int t_undos, .ref q_t_saved, .int t_isSaved, .ref q_t_finds, .ref q_t_reach, .ref q_t_steps, .ref q_t_glows, .ref q_t_lower, .ref q_t_upper, .ref q_t_line, .int t_lined, .ref q_t_text, .int t_length, .int t_at, .int t_order, .ref q_t_told, .ref q_t_why, .ref q_t_more, .int t_whys, .int t_answer])), (q_t_now, .inl (cI, 133, .inl t_now))]) hF (c_X10_isSwitch l D cI cJ cC cL q_t q_t_now q_t_tried q_t_thought q_t_kept q_t_saved q_t_finds q_t_reach q_t_steps q_t_glows q_t_lower q_t_upper q_t_line q_t_text q_t_told q_t_why q_t_more t_undos t_isSaved t_lined t_length t_at t_order t_whys t_answer t_now v1 x2 hc2 s.heap.size) (cwV 1 hts gX10_glowsAt_X10_isSwitch rfl rfl rfl (by decide +kernel) (by simp only [rmX10_glowsAt, rmX10_isSwitch]; omega)) rfl hl rfl (Nat.le_of_ble_eq_true rfl) dX10_glowsAt_2 ⟨Nat.zero_le _, Nat.zero_le _⟩ hK hN KX_T trivial hP hD hS hA rfl rfl rfl rfl rfl rfl (by decide) rfl rfl (fun H locs hP hD hS => ?_)
    refine jif_eq (tgt := 23) hx hb dX10_glowsAt_5 (by decide) hJ (fun hJ => ?_) (fun hJ => ?_)
    · refine lv_iconst (v := (0 : Int32)) hx hb dX10_glowsAt_23 (by decide) ?_
      refine lv_istore (lv' := [(4, .int (0 : Int32)), (0, .ref q_t), (1, .int v1), (2, .int v2), (3, .int v3)]) hx hb dX10_glowsAt_24 hl (by decide) rfl (fun ls hl => ?_)
      refine lv_iconst (v := (0 : Int32)) hx hb dX10_glowsAt_26 (by decide) ?_
      refine lv_istore (lv' := [(5, .int (0 : Int32)), (4, .int (0 : Int32)), (0, .ref q_t), (1, .int v1), (2, .int v2), (3, .int v3)]) hx hb dX10_glowsAt_27 hl (by decide) rfl (fun ls hl => ?_)
      refine lv_iconst (v := (0 : Int32)) hx hb dX10_glowsAt_29 (by decide) ?_
      refine lv_istore (lv' := [(6, .int (0 : Int32)), (5, .int (0 : Int32)), (4, .int (0 : Int32)), (0, .ref q_t), (1, .int v1), (2, .int v2), (3, .int v3)]) hx hb dX10_glowsAt_30 hl (by decide) rfl (fun ls hl => ?_)
      exact L32  FU (0 : Int32) (0 : Int32) (0 : Int32)  H locs  hP hD hS _ (lv_sub hl [3, 4, 5, 6, 2, 1, 0] rfl) hJ
    · refine lv_iload_n hx hb dX10_glowsAt_8 rfl (lv_at hl 3 rfl) ?_
      refine lv_iload_n hx hb dX10_glowsAt_9 rfl (lv_at hl 2 rfl) ?_
      refine lv_iconst (v := (1 : Int32)) hx hb dX10_glowsAt_10 (by decide) ?_
      refine lv_iload_n hx hb dX10_glowsAt_11 rfl (lv_at hl 1 rfl) ?_
      refine lv_ishl hx hb dX10_glowsAt_12 ?_
      refine jt_i hJ (fun x12 hJ => ?_)
      refine lv_iconst (v := (1 : Int32)) hx hb dX10_glowsAt_13 (by decide) ?_
      refine lv_isub hx hb dX10_glowsAt_14 ?_
      refine lv_iand hx hb dX10_glowsAt_15 ?_
      refine jt_i hJ (fun x15 hJ => ?_)
      obtain ⟨x16, hc16, hJ⟩ := bnd1_some hJ
      refine jcS_i (As := [.int x15]) (rest := [.int v3]) (isC := []) (isR := [0, 1]) (isB := [0, 1]) (wr := [(q_t, .inr (8, [.ref q_t_now, .ref q_t_tried, .ref q_t_thought, .ref q_t_kept, .int t_undos, .ref q_t_saved, .int t_isSaved, .ref q_t_finds, .ref q_t_reach, .ref q_t_steps, .ref q_t_glows, .ref q_t_lower, .ref q_t_upper, .ref q_t_line, .int t_lined, .ref q_t_text, .int t_length, .int t_at, .int t_order, .ref q_t_told, .ref q_t_why, .ref q_t_more, .int t_whys, .int t_answer])), (q_t_now, .inl (cI, 133, .inl t_now))]) (ws2 := [(q_t, .inr (8, [.ref q_t_now, .ref q_t_tried, .ref q_t_thought, .ref q_t_kept, .int t_undos, .ref q_t_saved, .int t_isSaved, .ref q_t_finds, .ref q_t_reach, .ref q_t_steps, .ref q_t_glows, .ref q_t_lower, .ref q_t_upper, .ref q_t_line, .int t_lined, .ref q_t_text, .int t_length, .int t_at, .int t_order, .ref q_t_told, .ref q_t_why, .ref q_t_more, .int t_whys, .int t_answer])), (q_t_now, .inl (cI, 133, .inl t_now))]) hF (c_J6_bitCount_0f7a4 l D cI cJ cC cL x15 x16 hc16 H.size) (va_cwS 1 hts gX10_glowsAt_J6_bitCount_0f7a4 rfl rfl rfl (by decide +kernel) (by simp only [rmX10_glowsAt, rmJ6_bitCount_0f7a4]; omega)) rfl hl rfl (Nat.le_of_ble_eq_true rfl) dX10_glowsAt_16 ⟨Nat.zero_le _, Nat.zero_le _⟩ hK hN KX_T trivial hP hD hS hA rfl rfl rfl rfl (by decide) rfl rfl (fun H locs hP hD hS => ?_)
      refine lv_ishr hx hb dX10_glowsAt_19 ?_
      refine jt_i hJ (fun x19 hJ => ?_)
      refine lv_iconst (v := (1 : Int32)) hx hb dX10_glowsAt_20 (by decide) ?_
      refine lv_iand hx hb dX10_glowsAt_21 ?_
      have e0 := Option.some.inj hJ
      exact hRet hP hD hS e0 dX10_glowsAt_22
theorem c_X10_glowsAt (l : Launch) (D : va_G) (cI cJ cC cL : ClassId) (q_t q_t_now q_t_tried q_t_thought q_t_kept q_t_saved q_t_finds q_t_reach q_t_steps q_t_glows q_t_lower q_t_upper q_t_line q_t_text q_t_told q_t_why q_t_more : Nat) (t_undos : Int32) (t_isSaved : Int32) (t_lined : Int32) (t_length : Int32) (t_at : Int32) (t_order : Int32) (t_whys : Int32) (t_answer : Int32) (t_now : Nat → Int32) (v1 : Int32) (v2 : Int32) (v3 : Int32) (r : Int32) (hJ : J_X10_glowsAt 20 t_now v1 v2 v3 = some (r)) (sz : Nat) : Met l yX10_glowsAt wsX10_glowsAt (rmX10_glowsAt 20) (va_Pc [.ref q_t, .int v1, .int v2, .int v3] (jpre XT D (tyL cI cJ cC cL) [(q_t, .inr (8, [.ref q_t_now, .ref q_t_tried, .ref q_t_thought, .ref q_t_kept, .int t_undos, .ref q_t_saved, .int t_isSaved, .ref q_t_finds, .ref q_t_reach, .ref q_t_steps, .ref q_t_glows, .ref q_t_lower, .ref q_t_upper, .ref q_t_line, .int t_lined, .ref q_t_text, .int t_length, .int t_at, .int t_order, .ref q_t_told, .ref q_t_why, .ref q_t_more, .int t_whys, .int t_answer])), (q_t_now, .inl (cI, 133, .inl t_now))] sz)) (va_Qi (fun r' (_ : Unit) => r' = r) (fun _ t => jpost D (tyL cI cJ cC cL) (va_A [(q_t, .inr (8, [.ref q_t_now, .ref q_t_tried, .ref q_t_thought, .ref q_t_kept, .int t_undos, .ref q_t_saved, .int t_isSaved, .ref q_t_finds, .ref q_t_reach, .ref q_t_steps, .ref q_t_glows, .ref q_t_lower, .ref q_t_upper, .ref q_t_line, .int t_lined, .ref q_t_text, .int t_length, .int t_at, .int t_order, .ref q_t_told, .ref q_t_why, .ref q_t_more, .int t_whys, .int t_answer])), (q_t_now, .inl (cI, 133, .inl t_now))] sz) [(q_t, .inr (8, [.ref q_t_now, .ref q_t_tried, .ref q_t_thought, .ref q_t_kept, .int t_undos, .ref q_t_saved, .int t_isSaved, .ref q_t_finds, .ref q_t_reach, .ref q_t_steps, .ref q_t_glows, .ref q_t_lower, .ref q_t_upper, .ref q_t_line, .int t_lined, .ref q_t_text, .int t_length, .int t_at, .int t_order, .ref q_t_told, .ref q_t_why, .ref q_t_more, .int t_whys, .int t_answer])), (q_t_now, .inl (cI, 133, .inl t_now))] t) (va_A [(q_t, .inr (8, [.ref q_t_now, .ref q_t_tried, .ref q_t_thought, .ref q_t_kept, .int t_undos, .ref q_t_saved, .int t_isSaved, .ref q_t_finds, .ref q_t_reach, .ref q_t_steps, .ref q_t_glows, .ref q_t_lower, .ref q_t_upper, .ref q_t_line, .int t_lined, .ref q_t_text, .int t_length, .int t_at, .int t_order, .ref q_t_told, .ref q_t_why, .ref q_t_more, .int t_whys, .int t_answer])), (q_t_now, .inl (cI, 133, .inl t_now))] sz)) 0 0 (va_A [(q_t, .inr (8, [.ref q_t_now, .ref q_t_tried, .ref q_t_thought, .ref q_t_kept, .int t_undos, .ref q_t_saved, .int t_isSaved, .ref q_t_finds, .ref q_t_reach, .ref q_t_steps, .ref q_t_glows, .ref q_t_lower, .ref q_t_upper, .ref q_t_line, .int t_lined, .ref q_t_text, .int t_length, .int t_at, .int t_order, .ref q_t_told, .ref q_t_why, .ref q_t_more, .int t_whys, .int t_answer])), (q_t_now, .inl (cI, 133, .inl t_now))] sz) := c_X10_glowsAt_all l D cI cJ cC cL q_t q_t_now q_t_tried q_t_thought q_t_kept q_t_saved q_t_finds q_t_reach q_t_steps q_t_glows q_t_lower q_t_upper q_t_line q_t_text q_t_told q_t_why q_t_more 20 t_undos t_isSaved t_lined t_length t_at t_order t_whys t_answer t_now v1 v2 v3 r hJ sz

def J_X10_table_b27 (t_now : Nat → Int32) (v1 : Int32) (t_reach : Nat → Int32) : Option (Int32 × (Nat → Int32)) :=
    some ((-15 : Int32), t_reach)
def J_X10_table_L52 (t_now : Nat → Int32) (v1 : Int32) : Nat → (Nat → Int32) → Int32 → Int32 → Int32 → Option (Int32 × (Nat → Int32))
  | 0, _, _, _, _ => none
  | nf + 1, t_reach, v2, v3, v4 =>
    bnd1 (J_J6_bitCount_0f7a4 v2) fun x56 =>
    if ((1 : Int32) <<< (x56 &&& 31)) ≤ v4 then (
    some (v3, t_reach))
    else (
    bnd1 (J_X10_glowsAt 20 t_now v1 v2 v4) fun x69 =>
    nm (v3 ||| (x69 <<< (v4 &&& 31))) fun x75 =>
    nm (v4 + Int32.ofInt 1) fun x77 =>
    J_X10_table_L52 t_now v1 nf t_reach v2 x75 x77)
def J_X10_table (t_now : Nat → Int32) (t_reach : Nat → Int32) (v1 : Int32) : Option (Int32 × (Nat → Int32)) :=
    bnd1 (J_X10_isLantern t_now v1) fun x2 =>
    if x2 = 0 then (
    some ((-11 : Int32), t_reach))
    else (
    bnd1 (J_X10_isSwitch t_now v1) fun x13 =>
    if x13 = 0 then (
    bnd2 (J_X10_deep t_now t_reach v1) fun x21 t_reach_21 =>
    if 0 ≤ x21 then (
    bnd2 (J_X10_switchSet t_now t_reach_21 v1) fun x32 t_reach_32 =>
    bnd1 (J_J6_bitCount_0f7a4 x32) fun x37 =>
    if x37 ≤ (4 : Int32) then (
    J_X10_table_L52 t_now v1 FU t_reach_32 x32 (0 : Int32) (0 : Int32))
    else (
    some ((-15 : Int32), t_reach_32)))
    else (
    J_X10_table_b27 t_now v1 t_reach_21))
    else (
    J_X10_table_b27 t_now v1 t_reach))
abbrev rmX10_table : Room := { frames := 24, cells := 0, slots := 0, locals := 590 }
set_option maxHeartbeats 4000000 in
set_option maxRecDepth 100000 in
theorem c_X10_table (l : Launch) (D : va_G) (cI cJ cC cL : ClassId) (q_t q_t_now q_t_tried q_t_thought q_t_kept q_t_saved q_t_finds q_t_reach q_t_steps q_t_glows q_t_lower q_t_upper q_t_line q_t_text q_t_told q_t_why q_t_more : Nat) (t_undos : Int32) (t_isSaved : Int32) (t_lined : Int32) (t_length : Int32) (t_at : Int32) (t_order : Int32) (t_whys : Int32) (t_answer : Int32) (t_now : Nat → Int32) (t_reach : Nat → Int32) (v1 : Int32) (r : Int32) (o_t_reach : Nat → Int32) (hJ : J_X10_table t_now t_reach v1 = some (r, o_t_reach)) (sz : Nat) : Met l yX10_table wsX10_table rmX10_table (va_Pc [.ref q_t, .int v1] (jpre XT D (tyL cI cJ cC cL) [(q_t, .inr (8, [.ref q_t_now, .ref q_t_tried, .ref q_t_thought, .ref q_t_kept, .int t_undos, .ref q_t_saved, .int t_isSaved, .ref q_t_finds, .ref q_t_reach, .ref q_t_steps, .ref q_t_glows, .ref q_t_lower, .ref q_t_upper, .ref q_t_line, .int t_lined, .ref q_t_text, .int t_length, .int t_at, .int t_order, .ref q_t_told, .ref q_t_why, .ref q_t_more, .int t_whys, .int t_answer])), (q_t_now, .inl (cI, 133, .inl t_now)), (q_t_reach, .inl (cI, 16, .inl t_reach))] sz)) (va_Qi (fun r' (_ : Unit) => r' = r) (fun _ t => jpost D (tyL cI cJ cC cL) (va_A [(q_t, .inr (8, [.ref q_t_now, .ref q_t_tried, .ref q_t_thought, .ref q_t_kept, .int t_undos, .ref q_t_saved, .int t_isSaved, .ref q_t_finds, .ref q_t_reach, .ref q_t_steps, .ref q_t_glows, .ref q_t_lower, .ref q_t_upper, .ref q_t_line, .int t_lined, .ref q_t_text, .int t_length, .int t_at, .int t_order, .ref q_t_told, .ref q_t_why, .ref q_t_more, .int t_whys, .int t_answer])), (q_t_now, .inl (cI, 133, .inl t_now)), (q_t_reach, .inl (cI, 16, .inl t_reach))] sz) [(q_t, .inr (8, [.ref q_t_now, .ref q_t_tried, .ref q_t_thought, .ref q_t_kept, .int t_undos, .ref q_t_saved, .int t_isSaved, .ref q_t_finds, .ref q_t_reach, .ref q_t_steps, .ref q_t_glows, .ref q_t_lower, .ref q_t_upper, .ref q_t_line, .int t_lined, .ref q_t_text, .int t_length, .int t_at, .int t_order, .ref q_t_told, .ref q_t_why, .ref q_t_more, .int t_whys, .int t_answer])), (q_t_now, .inl (cI, 133, .inl t_now)), (q_t_reach, .inl (cI, 16, .inl o_t_reach))] t) (va_A [(q_t, .inr (8, [.ref q_t_now, .ref q_t_tried, .ref q_t_thought, .ref q_t_kept, .int t_undos, .ref q_t_saved, .int t_isSaved, .ref q_t_finds, .ref q_t_reach, .ref q_t_steps, .ref q_t_glows, .ref q_t_lower, .ref q_t_upper, .ref q_t_line, .int t_lined, .ref q_t_text, .int t_length, .int t_at, .int t_order, .ref q_t_told, .ref q_t_why, .ref q_t_more, .int t_whys, .int t_answer])), (q_t_now, .inl (cI, 133, .inl t_now)), (q_t_reach, .inl (cI, 16, .inl t_reach))] sz)) 0 0 (va_A [(q_t, .inr (8, [.ref q_t_now, .ref q_t_tried, .ref q_t_thought, .ref q_t_kept, .int t_undos, .ref q_t_saved, .int t_isSaved, .ref q_t_finds, .ref q_t_reach, .ref q_t_steps, .ref q_t_glows, .ref q_t_lower, .ref q_t_upper, .ref q_t_line, .int t_lined, .ref q_t_text, .int t_length, .int t_at, .int t_order, .ref q_t_told, .ref q_t_why, .ref q_t_more, .int t_whys, .int t_answer])), (q_t_now, .inl (cI, 133, .inl t_now)), (q_t_reach, .inl (cI, 16, .inl t_reach))] sz) := by
  refine jE_i (cc := cX10_table) (maxL := 5) (own := RX10) (ret := (some .int)) (lv0 := [(0, .ref q_t), (1, .int v1)]) (by decide) rfl rfl rfl (Nat.le_of_ble_eq_true rfl) rfl ?_
  intro p e s m args below meth c A Q ls hx hb hml hown hts hK hN hX hA hP hD hS hl hRet
  have hF : CallFix p m c cX10_table 5 s args wsX10_table RX10 := ⟨hx, hb, hml, hown, hts⟩
  have B27 : ∀ (t_reach : Nat → Int32) (H : Heap) (locs : List Loc), va_P D vwCl [(q_t, .inr (8, [.ref q_t_now, .ref q_t_tried, .ref q_t_thought, .ref q_t_kept, .int t_undos, .ref q_t_saved, .int t_isSaved, .ref q_t_finds, .ref q_t_reach, .ref q_t_steps, .ref q_t_glows, .ref q_t_lower, .ref q_t_upper, .ref q_t_line, .int t_lined, .ref q_t_text, .int t_length, .int t_at, .int t_order, .ref q_t_told, .ref q_t_why, .ref q_t_more, .int t_whys, .int t_answer])), (q_t_now, .inl (cI, 133, .inl t_now)), (q_t_reach, .inl (cI, 16, .inl t_reach))] H → va_D A [(q_t, .inr (8, [.ref q_t_now, .ref q_t_tried, .ref q_t_thought, .ref q_t_kept, .int t_undos, .ref q_t_saved, .int t_isSaved, .ref q_t_finds, .ref q_t_reach, .ref q_t_steps, .ref q_t_glows, .ref q_t_lower, .ref q_t_upper, .ref q_t_line, .int t_lined, .ref q_t_text, .int t_length, .int t_at, .int t_order, .ref q_t_told, .ref q_t_why, .ref q_t_more, .int t_whys, .int t_answer])), (q_t_now, .inl (cI, 133, .inl t_now)), (q_t_reach, .inl (cI, 16, .inl t_reach))] → va_S A s.heap H locs → ∀ ls : Array Slot, lv_has ls 5 [] → J_X10_table_b27  t_now v1 t_reach = some (r, o_t_reach) → W p l e rmX10_table s m args below meth c H locs 0 0 Q (F0 m 27 ls []) := by
    intro t_reach H locs hP hD hS ls hl hJ
    unfold J_X10_table_b27 at hJ
    refine lv_bipush (v := (-15 : Int32)) hx hb dX10_table_27 (by decide) ?_
    have hJ := Option.some.inj hJ
    obtain ⟨e0, e1⟩ : ((-15 : Int32)) = r ∧ (t_reach) = o_t_reach := ⟨congrArg (fun z => z.1) hJ, congrArg (fun z => z.2) hJ⟩
    exact hRet (by rw [← e1]; exact hP) (by rw [← e1]; exact hD) hS e0 dX10_table_29
  have L52 : ∀ (nf : Nat), ∀ (t_reach : Nat → Int32) (v2 : Int32) (v3 : Int32) (v4 : Int32) (H : Heap) (locs : List Loc), va_P D vwCl [(q_t, .inr (8, [.ref q_t_now, .ref q_t_tried, .ref q_t_thought, .ref q_t_kept, .int t_undos, .ref q_t_saved, .int t_isSaved, .ref q_t_finds, .ref q_t_reach, .ref q_t_steps, .ref q_t_glows, .ref q_t_lower, .ref q_t_upper, .ref q_t_line, .int t_lined, .ref q_t_text, .int t_length, .int t_at, .int t_order, .ref q_t_told, .ref q_t_why, .ref q_t_more, .int t_whys, .int t_answer])), (q_t_now, .inl (cI, 133, .inl t_now)), (q_t_reach, .inl (cI, 16, .inl t_reach))] H → va_D A [(q_t, .inr (8, [.ref q_t_now, .ref q_t_tried, .ref q_t_thought, .ref q_t_kept, .int t_undos, .ref q_t_saved, .int t_isSaved, .ref q_t_finds, .ref q_t_reach, .ref q_t_steps, .ref q_t_glows, .ref q_t_lower, .ref q_t_upper, .ref q_t_line, .int t_lined, .ref q_t_text, .int t_length, .int t_at, .int t_order, .ref q_t_told, .ref q_t_why, .ref q_t_more, .int t_whys, .int t_answer])), (q_t_now, .inl (cI, 133, .inl t_now)), (q_t_reach, .inl (cI, 16, .inl t_reach))] → va_S A s.heap H locs → ∀ ls : Array Slot, lv_has ls 5 [(0, .ref q_t), (1, .int v1), (2, .int v2), (3, .int v3), (4, .int v4)] → J_X10_table_L52  t_now v1 nf t_reach v2 v3 v4 = some (r, o_t_reach) → W p l e rmX10_table s m args below meth c H locs 0 0 Q (F0 m 52 ls []) := by
    intro nf
    induction nf with
    | zero =>
      intro t_reach v2 v3 v4 H locs hP hD hS ls hl hJ
      rw [J_X10_table_L52] at hJ
      cases hJ
    | succ nf ih =>
      intro t_reach v2 v3 v4 H locs hP hD hS ls hl hJ
      rw [J_X10_table_L52] at hJ
      refine lv_iload hx hb dX10_table_52 (lv_at hl 4 rfl) ?_
      refine lv_iconst (v := (1 : Int32)) hx hb dX10_table_54 (by decide) ?_
      refine lv_iload_n hx hb dX10_table_55 rfl (lv_at hl 2 rfl) ?_
      obtain ⟨x56, hc56, hJ⟩ := bnd1_some hJ
      refine jcS_i (As := [.int v2]) (rest := [.int (1 : Int32), .int v4]) (isC := []) (isR := [0, 1, 2]) (isB := [0, 1, 2]) (wr := [(q_t, .inr (8, [.ref q_t_now, .ref q_t_tried, .ref q_t_thought, .ref q_t_kept, .int t_undos, .ref q_t_saved, .int t_isSaved, .ref q_t_finds, .ref q_t_reach, .ref q_t_steps, .ref q_t_glows, .ref q_t_lower, .ref q_t_upper, .ref q_t_line, .int t_lined, .ref q_t_text, .int t_length, .int t_at, .int t_order, .ref q_t_told, .ref q_t_why, .ref q_t_more, .int t_whys, .int t_answer])), (q_t_now, .inl (cI, 133, .inl t_now)), (q_t_reach, .inl (cI, 16, .inl t_reach))]) (ws2 := [(q_t, .inr (8, [.ref q_t_now, .ref q_t_tried, .ref q_t_thought, .ref q_t_kept, .int t_undos, .ref q_t_saved, .int t_isSaved, .ref q_t_finds, .ref q_t_reach, .ref q_t_steps, .ref q_t_glows, .ref q_t_lower, .ref q_t_upper, .ref q_t_line, .int t_lined, .ref q_t_text, .int t_length, .int t_at, .int t_order, .ref q_t_told, .ref q_t_why, .ref q_t_more, .int t_whys, .int t_answer])), (q_t_now, .inl (cI, 133, .inl t_now)), (q_t_reach, .inl (cI, 16, .inl t_reach))]) hF (c_J6_bitCount_0f7a4 l D cI cJ cC cL v2 x56 hc56 H.size) (va_cwS 1 hts gX10_table_J6_bitCount_0f7a4 rfl rfl rfl (by decide +kernel) ⟨Nat.le_of_ble_eq_true rfl, Nat.le_of_ble_eq_true rfl⟩) rfl hl rfl (Nat.le_of_ble_eq_true rfl) dX10_table_56 ⟨Nat.zero_le _, Nat.zero_le _⟩ hK hN KX_T trivial hP hD hS hA rfl rfl rfl rfl (by decide) rfl rfl (fun H locs hP hD hS => ?_)
      refine lv_ishl hx hb dX10_table_59 ?_
      refine jif_icmp_ge (tgt := 83) hx hb dX10_table_60 (by decide) hJ (fun hJ => ?_) (fun hJ => ?_)
      · refine lv_iload_n hx hb dX10_table_83 rfl (lv_at hl 3 rfl) ?_
        have hJ := Option.some.inj hJ
        obtain ⟨e0, e1⟩ : (v3) = r ∧ (t_reach) = o_t_reach := ⟨congrArg (fun z => z.1) hJ, congrArg (fun z => z.2) hJ⟩
        exact hRet (by rw [← e1]; exact hP) (by rw [← e1]; exact hD) hS e0 dX10_table_84
      · refine lv_iload_n hx hb dX10_table_63 rfl (lv_at hl 3 rfl) ?_
        refine lv_aload_n hx hb dX10_table_64 rfl (lv_at hl 0 rfl) ?_
        refine lv_iload_n hx hb dX10_table_65 rfl (lv_at hl 1 rfl) ?_
        refine lv_iload_n hx hb dX10_table_66 rfl (lv_at hl 2 rfl) ?_
        refine lv_iload hx hb dX10_table_67 (lv_at hl 4 rfl) ?_
        obtain ⟨x69, hc69, hJ⟩ := bnd1_some hJ
        refine jcV_i (C := RX10) (T := TX10) (N := 24) (ci := 8) (q0 := 0) (As := [.int v1, .int v2, .int v4]) (rest := [.int v3]) (isC := [0, 1]) (isR := [2]) (isB := [1, 2, 0]) (wr := [(q_t_reach, .inl (cI, 16, .inl t_reach))]) (ws2 := [(q_t, .inr (8, [.ref q_t_now, .ref q_t_tried, .ref q_t_thought, .ref q_t_kept, .int t_undos, .ref q_t_saved, .int t_isSaved, .ref q_t_finds, .ref q_t_reach, .ref q_t_steps, .ref q_t_glows, .ref q_t_lower, .ref q_t_upper, .ref q_t_line, .int t_lined, .ref q_t_text, .int t_length, .int t_at, .int t_order, .ref q_t_told, .ref q_t_why, .ref q_t_more, .int t_whys, .int t_answer])), (q_t_now, .inl (cI, 133, .inl t_now)), (q_t_reach, .inl (cI, 16, .inl t_reach))]) hF (c_X10_glowsAt l D cI cJ cC cL q_t q_t_now q_t_tried q_t_thought q_t_kept q_t_saved q_t_finds q_t_reach q_t_steps q_t_glows q_t_lower q_t_upper q_t_line q_t_text q_t_told q_t_why q_t_more t_undos t_isSaved t_lined t_length t_at t_order t_whys t_answer t_now v1 v2 v4 x69 hc69 H.size) (cwV 3 hts gX10_table_X10_glowsAt rfl rfl rfl (by decide +kernel) ⟨Nat.le_of_ble_eq_true rfl, Nat.le_of_ble_eq_true rfl⟩) rfl hl rfl (Nat.le_of_ble_eq_true rfl) dX10_table_69 ⟨Nat.zero_le _, Nat.zero_le _⟩ hK hN KX_T trivial hP hD hS hA rfl rfl rfl rfl rfl rfl (by decide) rfl rfl (fun H locs hP hD hS => ?_)
        refine lv_iload hx hb dX10_table_72 (lv_at hl 4 rfl) ?_
        refine lv_ishl hx hb dX10_table_74 ?_
        refine lv_ior hx hb dX10_table_75 ?_
        refine jt_i hJ (fun x75 hJ => ?_)
        refine lv_istore_n (lv' := [(3, .int x75), (0, .ref q_t), (1, .int v1), (2, .int v2), (4, .int v4)]) hx hb dX10_table_76 rfl hl (by decide) rfl (fun ls hl => ?_)
        refine jt_iinc hJ (fun x77 ex77 hJ => ?_)
        refine lv_iinc (v := x77) (lv' := [(4, .int x77), (3, .int x75), (0, .ref q_t), (1, .int v1), (2, .int v2)]) hx hb dX10_table_77 hl (k := 4) rfl ex77 (by decide) rfl (fun ls hl => ?_)
        refine lv_goto (tgt := 52) hx hb dX10_table_80 (by decide) ?_
        exact ih t_reach v2 x75 x77  H locs  hP hD hS _ (lv_sub hl [2, 3, 4, 1, 0] rfl) hJ
  unfold J_X10_table at hJ
  refine lv_aload_n hx hb dX10_table_0 rfl (lv_at hl 0 rfl) ?_
  refine lv_iload_n hx hb dX10_table_1 rfl (lv_at hl 1 rfl) ?_
  obtain ⟨x2, hc2, hJ⟩ := bnd1_some hJ
  refine jcV_i (C := RX10) (T := TX10) (N := 24) (ci := 8) (q0 := 0) (As := [.int v1]) (rest := []) (isC := [0, 1]) (isR := [2]) (isB := [1, 2, 0]) (wr := [(q_t_reach, .inl (cI, 16, .inl t_reach))]) (ws2 := [(q_t, .inr (8, [.ref q_t_now, .ref q_t_tried, .ref q_t_thought, .ref q_t_kept, .int t_undos, .ref q_t_saved, .int t_isSaved, .ref q_t_finds, .ref q_t_reach, .ref q_t_steps, .ref q_t_glows, .ref q_t_lower, .ref q_t_upper, .ref q_t_line, .int t_lined, .ref q_t_text, .int t_length, .int t_at, .int t_order, .ref q_t_told, .ref q_t_why, .ref q_t_more, .int t_whys, .int t_answer])), (q_t_now, .inl (cI, 133, .inl t_now)), (q_t_reach, .inl (cI, 16, .inl t_reach))]) hF (c_X10_isLantern l D cI cJ cC cL q_t q_t_now q_t_tried q_t_thought q_t_kept q_t_saved q_t_finds q_t_reach q_t_steps q_t_glows q_t_lower q_t_upper q_t_line q_t_text q_t_told q_t_why q_t_more t_undos t_isSaved t_lined t_length t_at t_order t_whys t_answer t_now v1 x2 hc2 s.heap.size) (cwV 1 hts gX10_table_X10_isLantern rfl rfl rfl (by decide +kernel) ⟨Nat.le_of_ble_eq_true rfl, Nat.le_of_ble_eq_true rfl⟩) rfl hl rfl (Nat.le_of_ble_eq_true rfl) dX10_table_2 ⟨Nat.zero_le _, Nat.zero_le _⟩ hK hN KX_T trivial hP hD hS hA rfl rfl rfl rfl rfl rfl (by decide) rfl rfl (fun H locs hP hD hS => ?_)
  refine jif_ne (tgt := 11) hx hb dX10_table_5 (by decide) hJ (fun hJ => ?_) (fun hJ => ?_)
  · refine lv_aload_n hx hb dX10_table_11 rfl (lv_at hl 0 rfl) ?_
    refine lv_iload_n hx hb dX10_table_12 rfl (lv_at hl 1 rfl) ?_
    obtain ⟨x13, hc13, hJ⟩ := bnd1_some hJ
    refine jcV_i (C := RX10) (T := TX10) (N := 24) (ci := 8) (q0 := 0) (As := [.int v1]) (rest := []) (isC := [0, 1]) (isR := [2]) (isB := [1, 2, 0]) (wr := [(q_t_reach, .inl (cI, 16, .inl t_reach))]) (ws2 := [(q_t, .inr (8, [.ref q_t_now, .ref q_t_tried, .ref q_t_thought, .ref q_t_kept, .int t_undos, .ref q_t_saved, .int t_isSaved, .ref q_t_finds, .ref q_t_reach, .ref q_t_steps, .ref q_t_glows, .ref q_t_lower, .ref q_t_upper, .ref q_t_line, .int t_lined, .ref q_t_text, .int t_length, .int t_at, .int t_order, .ref q_t_told, .ref q_t_why, .ref q_t_more, .int t_whys, .int t_answer])), (q_t_now, .inl (cI, 133, .inl t_now)), (q_t_reach, .inl (cI, 16, .inl t_reach))]) hF (c_X10_isSwitch l D cI cJ cC cL q_t q_t_now q_t_tried q_t_thought q_t_kept q_t_saved q_t_finds q_t_reach q_t_steps q_t_glows q_t_lower q_t_upper q_t_line q_t_text q_t_told q_t_why q_t_more t_undos t_isSaved t_lined t_length t_at t_order t_whys t_answer t_now v1 x13 hc13 H.size) (cwV 1 hts gX10_table_X10_isSwitch rfl rfl rfl (by decide +kernel) ⟨Nat.le_of_ble_eq_true rfl, Nat.le_of_ble_eq_true rfl⟩) rfl hl rfl (Nat.le_of_ble_eq_true rfl) dX10_table_13 ⟨Nat.zero_le _, Nat.zero_le _⟩ hK hN KX_T trivial hP hD hS hA rfl rfl rfl rfl rfl rfl (by decide) rfl rfl (fun H locs hP hD hS => ?_)
    refine jif_ne (tgt := 27) hx hb dX10_table_16 (by decide) hJ (fun hJ => ?_) (fun hJ => ?_)
    · exact B27  t_reach  H locs  hP hD hS _ (lv_sub hl [] rfl) hJ
    · refine lv_aload_n hx hb dX10_table_19 rfl (lv_at hl 0 rfl) ?_
      refine lv_iload_n hx hb dX10_table_20 rfl (lv_at hl 1 rfl) ?_
      obtain ⟨x21, t_reach_21, hc21, hJ⟩ := bnd2_some hJ
      refine jcV_i (C := RX10) (T := TX10) (N := 24) (ci := 8) (q0 := 0) (As := [.int v1]) (rest := []) (isC := [0, 1, 2]) (isR := []) (isB := [0, 1, 2]) (wr := []) (ws2 := [(q_t, .inr (8, [.ref q_t_now, .ref q_t_tried, .ref q_t_thought, .ref q_t_kept, .int t_undos, .ref q_t_saved, .int t_isSaved, .ref q_t_finds, .ref q_t_reach, .ref q_t_steps, .ref q_t_glows, .ref q_t_lower, .ref q_t_upper, .ref q_t_line, .int t_lined, .ref q_t_text, .int t_length, .int t_at, .int t_order, .ref q_t_told, .ref q_t_why, .ref q_t_more, .int t_whys, .int t_answer])), (q_t_now, .inl (cI, 133, .inl t_now)), (q_t_reach, .inl (cI, 16, .inl t_reach_21))]) hF (c_X10_deep l D cI cJ cC cL q_t q_t_now q_t_tried q_t_thought q_t_kept q_t_saved q_t_finds q_t_reach q_t_steps q_t_glows q_t_lower q_t_upper q_t_line q_t_text q_t_told q_t_why q_t_more t_undos t_isSaved t_lined t_length t_at t_order t_whys t_answer t_now t_reach v1 x21 t_reach_21 hc21 H.size) (cwV 1 hts gX10_table_X10_deep rfl rfl rfl (by decide +kernel) ⟨Nat.le_of_ble_eq_true rfl, Nat.le_of_ble_eq_true rfl⟩) rfl hl rfl (Nat.le_of_ble_eq_true rfl) dX10_table_21 ⟨Nat.zero_le _, Nat.zero_le _⟩ hK hN KX_T trivial hP hD hS hA rfl rfl rfl rfl rfl rfl (by decide) rfl rfl (fun H locs hP hD hS => ?_)
      refine jif_ge (tgt := 30) hx hb dX10_table_24 (by decide) hJ (fun hJ => ?_) (fun hJ => ?_)
      · refine lv_aload_n hx hb dX10_table_30 rfl (lv_at hl 0 rfl) ?_
        refine lv_iload_n hx hb dX10_table_31 rfl (lv_at hl 1 rfl) ?_
        obtain ⟨x32, t_reach_32, hc32, hJ⟩ := bnd2_some hJ
        refine jcV_i (C := RX10) (T := TX10) (N := 24) (ci := 8) (q0 := 0) (As := [.int v1]) (rest := []) (isC := [0, 1, 2]) (isR := []) (isB := [0, 1, 2]) (wr := []) (ws2 := [(q_t, .inr (8, [.ref q_t_now, .ref q_t_tried, .ref q_t_thought, .ref q_t_kept, .int t_undos, .ref q_t_saved, .int t_isSaved, .ref q_t_finds, .ref q_t_reach, .ref q_t_steps, .ref q_t_glows, .ref q_t_lower, .ref q_t_upper, .ref q_t_line, .int t_lined, .ref q_t_text, .int t_length, .int t_at, .int t_order, .ref q_t_told, .ref q_t_why, .ref q_t_more, .int t_whys, .int t_answer])), (q_t_now, .inl (cI, 133, .inl t_now)), (q_t_reach, .inl (cI, 16, .inl t_reach_32))]) hF (c_X10_switchSet l D cI cJ cC cL q_t q_t_now q_t_tried q_t_thought q_t_kept q_t_saved q_t_finds q_t_reach q_t_steps q_t_glows q_t_lower q_t_upper q_t_line q_t_text q_t_told q_t_why q_t_more t_undos t_isSaved t_lined t_length t_at t_order t_whys t_answer t_now t_reach_21 v1 x32 t_reach_32 hc32 H.size) (cwV 1 hts gX10_table_X10_switchSet rfl rfl rfl (by decide +kernel) ⟨Nat.le_of_ble_eq_true rfl, Nat.le_of_ble_eq_true rfl⟩) rfl hl rfl (Nat.le_of_ble_eq_true rfl) dX10_table_32 ⟨Nat.zero_le _, Nat.zero_le _⟩ hK hN KX_T trivial hP hD hS hA rfl rfl rfl rfl rfl rfl (by decide) rfl rfl (fun H locs hP hD hS => ?_)
        refine lv_istore_n (lv' := [(2, .int x32), (0, .ref q_t), (1, .int v1)]) hx hb dX10_table_35 rfl hl (by decide) rfl (fun ls hl => ?_)
        refine lv_iload_n hx hb dX10_table_36 rfl (lv_at hl 0 rfl) ?_
        obtain ⟨x37, hc37, hJ⟩ := bnd1_some hJ
        refine jcS_i (As := [.int x32]) (rest := []) (isC := []) (isR := [0, 1, 2]) (isB := [0, 1, 2]) (wr := [(q_t, .inr (8, [.ref q_t_now, .ref q_t_tried, .ref q_t_thought, .ref q_t_kept, .int t_undos, .ref q_t_saved, .int t_isSaved, .ref q_t_finds, .ref q_t_reach, .ref q_t_steps, .ref q_t_glows, .ref q_t_lower, .ref q_t_upper, .ref q_t_line, .int t_lined, .ref q_t_text, .int t_length, .int t_at, .int t_order, .ref q_t_told, .ref q_t_why, .ref q_t_more, .int t_whys, .int t_answer])), (q_t_now, .inl (cI, 133, .inl t_now)), (q_t_reach, .inl (cI, 16, .inl t_reach_32))]) (ws2 := [(q_t, .inr (8, [.ref q_t_now, .ref q_t_tried, .ref q_t_thought, .ref q_t_kept, .int t_undos, .ref q_t_saved, .int t_isSaved, .ref q_t_finds, .ref q_t_reach, .ref q_t_steps, .ref q_t_glows, .ref q_t_lower, .ref q_t_upper, .ref q_t_line, .int t_lined, .ref q_t_text, .int t_length, .int t_at, .int t_order, .ref q_t_told, .ref q_t_why, .ref q_t_more, .int t_whys, .int t_answer])), (q_t_now, .inl (cI, 133, .inl t_now)), (q_t_reach, .inl (cI, 16, .inl t_reach_32))]) hF (c_J6_bitCount_0f7a4 l D cI cJ cC cL x32 x37 hc37 H.size) (va_cwS 1 hts gX10_table_J6_bitCount_0f7a4 rfl rfl rfl (by decide +kernel) ⟨Nat.le_of_ble_eq_true rfl, Nat.le_of_ble_eq_true rfl⟩) rfl hl rfl (Nat.le_of_ble_eq_true rfl) dX10_table_37 ⟨Nat.zero_le _, Nat.zero_le _⟩ hK hN KX_T trivial hP hD hS hA rfl rfl rfl rfl (by decide) rfl rfl (fun H locs hP hD hS => ?_)
        refine lv_iconst (v := (4 : Int32)) hx hb dX10_table_40 (by decide) ?_
        refine jif_icmp_le (tgt := 47) hx hb dX10_table_41 (by decide) hJ (fun hJ => ?_) (fun hJ => ?_)
        · refine lv_iconst (v := (0 : Int32)) hx hb dX10_table_47 (by decide) ?_
          refine lv_istore_n (lv' := [(3, .int (0 : Int32)), (2, .int x32), (0, .ref q_t), (1, .int v1)]) hx hb dX10_table_48 rfl hl (by decide) rfl (fun ls hl => ?_)
          refine lv_iconst (v := (0 : Int32)) hx hb dX10_table_49 (by decide) ?_
          refine lv_istore (lv' := [(4, .int (0 : Int32)), (3, .int (0 : Int32)), (2, .int x32), (0, .ref q_t), (1, .int v1)]) hx hb dX10_table_50 hl (by decide) rfl (fun ls hl => ?_)
          exact L52  FU t_reach_32 x32 (0 : Int32) (0 : Int32)  H locs  hP hD hS _ (lv_sub hl [3, 4, 2, 1, 0] rfl) hJ
        · refine lv_bipush (v := (-15 : Int32)) hx hb dX10_table_44 (by decide) ?_
          have hJ := Option.some.inj hJ
          obtain ⟨e0, e1⟩ : ((-15 : Int32)) = r ∧ (t_reach_32) = o_t_reach := ⟨congrArg (fun z => z.1) hJ, congrArg (fun z => z.2) hJ⟩
          exact hRet (by rw [← e1]; exact hP) (by rw [← e1]; exact hD) hS e0 dX10_table_46
      · exact B27  t_reach_21  H locs  hP hD hS _ (lv_sub hl [] rfl) hJ
  · refine lv_bipush (v := (-11 : Int32)) hx hb dX10_table_8 (by decide) ?_
    have hJ := Option.some.inj hJ
    obtain ⟨e0, e1⟩ : ((-11 : Int32)) = r ∧ (t_reach) = o_t_reach := ⟨congrArg (fun z => z.1) hJ, congrArg (fun z => z.2) hJ⟩
    exact hRet (by rw [← e1]; exact hP) (by rw [← e1]; exact hD) hS e0 dX10_table_10

def J_X10_tableAgain (t_now : Nat → Int32) (t_reach : Nat → Int32) (v1 : Int32) : Option (Int32 × (Nat → Int32)) :=
    bnd2 (J_X10_table t_now t_reach v1) fun x2 t_reach_2 =>
    some (x2, t_reach_2)
abbrev rmX10_tableAgain : Room := { frames := 25, cells := 0, slots := 0, locals := 614 }
set_option maxHeartbeats 4000000 in
set_option maxRecDepth 100000 in
theorem c_X10_tableAgain (l : Launch) (D : va_G) (cI cJ cC cL : ClassId) (q_t q_t_now q_t_tried q_t_thought q_t_kept q_t_saved q_t_finds q_t_reach q_t_steps q_t_glows q_t_lower q_t_upper q_t_line q_t_text q_t_told q_t_why q_t_more : Nat) (t_undos : Int32) (t_isSaved : Int32) (t_lined : Int32) (t_length : Int32) (t_at : Int32) (t_order : Int32) (t_whys : Int32) (t_answer : Int32) (t_now : Nat → Int32) (t_reach : Nat → Int32) (v1 : Int32) (r : Int32) (o_t_reach : Nat → Int32) (hJ : J_X10_tableAgain t_now t_reach v1 = some (r, o_t_reach)) (sz : Nat) : Met l yX10_tableAgain wsX10_tableAgain rmX10_tableAgain (va_Pc [.ref q_t, .int v1] (jpre XT D (tyL cI cJ cC cL) [(q_t, .inr (8, [.ref q_t_now, .ref q_t_tried, .ref q_t_thought, .ref q_t_kept, .int t_undos, .ref q_t_saved, .int t_isSaved, .ref q_t_finds, .ref q_t_reach, .ref q_t_steps, .ref q_t_glows, .ref q_t_lower, .ref q_t_upper, .ref q_t_line, .int t_lined, .ref q_t_text, .int t_length, .int t_at, .int t_order, .ref q_t_told, .ref q_t_why, .ref q_t_more, .int t_whys, .int t_answer])), (q_t_now, .inl (cI, 133, .inl t_now)), (q_t_reach, .inl (cI, 16, .inl t_reach))] sz)) (va_Qi (fun r' (_ : Unit) => r' = r) (fun _ t => jpost D (tyL cI cJ cC cL) (va_A [(q_t, .inr (8, [.ref q_t_now, .ref q_t_tried, .ref q_t_thought, .ref q_t_kept, .int t_undos, .ref q_t_saved, .int t_isSaved, .ref q_t_finds, .ref q_t_reach, .ref q_t_steps, .ref q_t_glows, .ref q_t_lower, .ref q_t_upper, .ref q_t_line, .int t_lined, .ref q_t_text, .int t_length, .int t_at, .int t_order, .ref q_t_told, .ref q_t_why, .ref q_t_more, .int t_whys, .int t_answer])), (q_t_now, .inl (cI, 133, .inl t_now)), (q_t_reach, .inl (cI, 16, .inl t_reach))] sz) [(q_t, .inr (8, [.ref q_t_now, .ref q_t_tried, .ref q_t_thought, .ref q_t_kept, .int t_undos, .ref q_t_saved, .int t_isSaved, .ref q_t_finds, .ref q_t_reach, .ref q_t_steps, .ref q_t_glows, .ref q_t_lower, .ref q_t_upper, .ref q_t_line, .int t_lined, .ref q_t_text, .int t_length, .int t_at, .int t_order, .ref q_t_told, .ref q_t_why, .ref q_t_more, .int t_whys, .int t_answer])), (q_t_now, .inl (cI, 133, .inl t_now)), (q_t_reach, .inl (cI, 16, .inl o_t_reach))] t) (va_A [(q_t, .inr (8, [.ref q_t_now, .ref q_t_tried, .ref q_t_thought, .ref q_t_kept, .int t_undos, .ref q_t_saved, .int t_isSaved, .ref q_t_finds, .ref q_t_reach, .ref q_t_steps, .ref q_t_glows, .ref q_t_lower, .ref q_t_upper, .ref q_t_line, .int t_lined, .ref q_t_text, .int t_length, .int t_at, .int t_order, .ref q_t_told, .ref q_t_why, .ref q_t_more, .int t_whys, .int t_answer])), (q_t_now, .inl (cI, 133, .inl t_now)), (q_t_reach, .inl (cI, 16, .inl t_reach))] sz)) 0 0 (va_A [(q_t, .inr (8, [.ref q_t_now, .ref q_t_tried, .ref q_t_thought, .ref q_t_kept, .int t_undos, .ref q_t_saved, .int t_isSaved, .ref q_t_finds, .ref q_t_reach, .ref q_t_steps, .ref q_t_glows, .ref q_t_lower, .ref q_t_upper, .ref q_t_line, .int t_lined, .ref q_t_text, .int t_length, .int t_at, .int t_order, .ref q_t_told, .ref q_t_why, .ref q_t_more, .int t_whys, .int t_answer])), (q_t_now, .inl (cI, 133, .inl t_now)), (q_t_reach, .inl (cI, 16, .inl t_reach))] sz) := by
  refine jE_i (cc := cX10_tableAgain) (maxL := 2) (own := RX10) (ret := (some .int)) (lv0 := [(0, .ref q_t), (1, .int v1)]) (by decide) rfl rfl rfl (Nat.le_of_ble_eq_true rfl) rfl ?_
  intro p e s m args below meth c A Q ls hx hb hml hown hts hK hN hX hA hP hD hS hl hRet
  have hF : CallFix p m c cX10_tableAgain 2 s args wsX10_tableAgain RX10 := ⟨hx, hb, hml, hown, hts⟩
  unfold J_X10_tableAgain at hJ
  refine lv_aload_n hx hb dX10_tableAgain_0 rfl (lv_at hl 0 rfl) ?_
  refine lv_iload_n hx hb dX10_tableAgain_1 rfl (lv_at hl 1 rfl) ?_
  obtain ⟨x2, t_reach_2, hc2, hJ⟩ := bnd2_some hJ
  refine jcV_i (C := RX10) (T := TX10) (N := 24) (ci := 8) (q0 := 0) (As := [.int v1]) (rest := []) (isC := [0, 1, 2]) (isR := []) (isB := [0, 1, 2]) (wr := []) (ws2 := [(q_t, .inr (8, [.ref q_t_now, .ref q_t_tried, .ref q_t_thought, .ref q_t_kept, .int t_undos, .ref q_t_saved, .int t_isSaved, .ref q_t_finds, .ref q_t_reach, .ref q_t_steps, .ref q_t_glows, .ref q_t_lower, .ref q_t_upper, .ref q_t_line, .int t_lined, .ref q_t_text, .int t_length, .int t_at, .int t_order, .ref q_t_told, .ref q_t_why, .ref q_t_more, .int t_whys, .int t_answer])), (q_t_now, .inl (cI, 133, .inl t_now)), (q_t_reach, .inl (cI, 16, .inl t_reach_2))]) hF (c_X10_table l D cI cJ cC cL q_t q_t_now q_t_tried q_t_thought q_t_kept q_t_saved q_t_finds q_t_reach q_t_steps q_t_glows q_t_lower q_t_upper q_t_line q_t_text q_t_told q_t_why q_t_more t_undos t_isSaved t_lined t_length t_at t_order t_whys t_answer t_now t_reach v1 x2 t_reach_2 hc2 s.heap.size) (cwV 1 hts gX10_tableAgain_X10_table rfl rfl rfl (by decide +kernel) ⟨Nat.le_of_ble_eq_true rfl, Nat.le_of_ble_eq_true rfl⟩) rfl hl rfl (Nat.le_of_ble_eq_true rfl) dX10_tableAgain_2 ⟨Nat.zero_le _, Nat.zero_le _⟩ hK hN KX_T trivial hP hD hS hA rfl rfl rfl rfl rfl rfl (by decide) rfl rfl (fun H locs hP hD hS => ?_)
  have hJ := Option.some.inj hJ
  obtain ⟨e0, e1⟩ : (x2) = r ∧ (t_reach_2) = o_t_reach := ⟨congrArg (fun z => z.1) hJ, congrArg (fun z => z.2) hJ⟩
  exact hRet (by rw [← e1]; exact hP) (by rw [← e1]; exact hD) hS e0 dX10_tableAgain_5

def J_X10_account_L191 (t_undos : Int32) (t_length : Int32) (t_now : Nat → Int32) (v1 : Int32) : Nat → (Nat → Int32) → Int32 → Int32 → Option (Int32 × (Nat → Int32))
  | 0, _, _, _ => none
  | nf + 1, t_reach, v2, v3 =>
    chk (0 : Int32) 133 (
    nm (t_now (0 : Int32).toNatClampNeg) fun x197 =>
    if x197 ≤ v3 then (
    some (v2, t_reach))
    else (
    bnd2 (J_X10_deep t_now t_reach v3) fun x204 t_reach_204 =>
    nm (if v2 < x204 then x204 else v2) fun x207 =>
    nm (v3 + Int32.ofInt 1) fun x211 =>
    J_X10_account_L191 t_undos t_length t_now v1 nf t_reach_204 x207 x211))
def J_X10_account_L115 (t_undos : Int32) (t_length : Int32) (t_now : Nat → Int32) (v1 : Int32) : Nat → (Nat → Int32) → Int32 → Int32 → Option (Int32 × (Nat → Int32))
  | 0, _, _, _ => none
  | nf + 1, t_reach, v2, v3 =>
    chk (0 : Int32) 133 (
    nm (t_now (0 : Int32).toNatClampNeg) fun x121 =>
    if x121 ≤ v3 then (
    some (v2, t_reach))
    else (
    bnd1 (J_X10_wiresTo t_now v3) fun x128 =>
    nm (v2 + x128) fun x131 =>
    nm (v3 + Int32.ofInt 1) fun x133 =>
    J_X10_account_L115 t_undos t_length t_now v1 nf t_reach x131 x133))
def J_X10_account_b105 (k84 : (Nat → Int32) → Int32 → Int32 → Option (Int32 × (Nat → Int32))) (t_undos : Int32) (t_length : Int32) (t_now : Nat → Int32) (v1 : Int32) (t_reach : Nat → Int32) (v2 : Int32) (v3 : Int32) : Option (Int32 × (Nat → Int32)) :=
    nm (v3 + Int32.ofInt 1) fun x105 =>
    k84 t_reach v2 x105
def J_X10_account_L84 (t_undos : Int32) (t_length : Int32) (t_now : Nat → Int32) (v1 : Int32) : Nat → (Nat → Int32) → Int32 → Int32 → Option (Int32 × (Nat → Int32))
  | 0, _, _, _ => none
  | nf + 1, t_reach, v2, v3 =>
    chk (0 : Int32) 133 (
    nm (t_now (0 : Int32).toNatClampNeg) fun x90 =>
    if x90 ≤ v3 then (
    some (v2, t_reach))
    else (
    bnd1 (J_X10_isSwitch t_now v3) fun x96 =>
    if x96 = 0 then (
    J_X10_account_b105 (fun z0 z1 z2 => J_X10_account_L84 t_undos t_length t_now v1 nf z0 z1 z2) t_undos t_length t_now v1 t_reach v2 v3)
    else (
    nm (v2 + Int32.ofInt 1) fun x102 =>
    J_X10_account_b105 (fun z0 z1 z2 => J_X10_account_L84 t_undos t_length t_now v1 nf z0 z1 z2) t_undos t_length t_now v1 t_reach x102 v3)))
def J_X10_account (t_undos : Int32) (t_length : Int32) (t_now : Nat → Int32) (t_reach : Nat → Int32) (v1 : Int32) : Option (Int32 × (Nat → Int32)) :=
    if v1 = (0 : Int32) then (
    chk (2 : Int32) 133 (
    nm (t_now (2 : Int32).toNatClampNeg) fun x73 =>
    some (x73, t_reach)))
    else (
    if v1 = (1 : Int32) then (
    chk (0 : Int32) 133 (
    nm (t_now (0 : Int32).toNatClampNeg) fun x80 =>
    some (x80, t_reach)))
    else (
    if v1 = (2 : Int32) then (
    J_X10_account_L84 t_undos t_length t_now v1 FU t_reach (0 : Int32) (0 : Int32))
    else (
    if v1 = (3 : Int32) then (
    J_X10_account_L115 t_undos t_length t_now v1 FU t_reach (0 : Int32) (0 : Int32))
    else (
    if v1 = (4 : Int32) then (
    bnd1 (J_X10_glowing t_now) fun x142 =>
    some (x142, t_reach))
    else (
    if v1 = (5 : Int32) then (
    bnd2 (J_X10_loopSet t_now t_reach) fun x147 t_reach_147 =>
    bnd1 (J_J6_bitCount_0f7a4 x147) fun x150 =>
    some (x150, t_reach_147))
    else (
    if v1 = (6 : Int32) then (
    chk (1 : Int32) 133 (
    nm (t_now (1 : Int32).toNatClampNeg) fun x159 =>
    some (x159, t_reach)))
    else (
    if v1 = (7 : Int32) then (
    chk (3 : Int32) 133 (
    nm (t_now (3 : Int32).toNatClampNeg) fun x166 =>
    chk (4 : Int32) 133 (
    nm (t_now (4 : Int32).toNatClampNeg) fun x172 =>
    some (x166 + x172, t_reach))))
    else (
    if v1 = (8 : Int32) then (
    chk (3 : Int32) 133 (
    nm (t_now (3 : Int32).toNatClampNeg) fun x180 =>
    some (x180, t_reach)))
    else (
    if v1 = (9 : Int32) then (
    chk (4 : Int32) 133 (
    nm (t_now (4 : Int32).toNatClampNeg) fun x187 =>
    some (x187, t_reach)))
    else (
    if v1 = (10 : Int32) then (
    J_X10_account_L191 t_undos t_length t_now v1 FU t_reach (0 : Int32) (0 : Int32))
    else (
    if v1 = (11 : Int32) then (
    some (t_length, t_reach))
    else (
    if v1 = (12 : Int32) then (
    some (t_undos, t_reach))
    else (
    some ((-12 : Int32), t_reach))))))))))))))
abbrev rmX10_account : Room := { frames := 24, cells := 0, slots := 0, locals := 550 }
set_option maxHeartbeats 4000000 in
set_option maxRecDepth 100000 in
theorem c_X10_account (l : Launch) (D : va_G) (cI cJ cC cL : ClassId) (q_t q_t_now q_t_tried q_t_thought q_t_kept q_t_saved q_t_finds q_t_reach q_t_steps q_t_glows q_t_lower q_t_upper q_t_line q_t_text q_t_told q_t_why q_t_more : Nat) (t_undos : Int32) (t_isSaved : Int32) (t_lined : Int32) (t_length : Int32) (t_at : Int32) (t_order : Int32) (t_whys : Int32) (t_answer : Int32) (t_now : Nat → Int32) (t_reach : Nat → Int32) (v1 : Int32) (r : Int32) (o_t_reach : Nat → Int32) (hJ : J_X10_account t_undos t_length t_now t_reach v1 = some (r, o_t_reach)) (sz : Nat) : Met l yX10_account wsX10_account rmX10_account (va_Pc [.ref q_t, .int v1] (jpre XT D (tyL cI cJ cC cL) [(q_t, .inr (8, [.ref q_t_now, .ref q_t_tried, .ref q_t_thought, .ref q_t_kept, .int t_undos, .ref q_t_saved, .int t_isSaved, .ref q_t_finds, .ref q_t_reach, .ref q_t_steps, .ref q_t_glows, .ref q_t_lower, .ref q_t_upper, .ref q_t_line, .int t_lined, .ref q_t_text, .int t_length, .int t_at, .int t_order, .ref q_t_told, .ref q_t_why, .ref q_t_more, .int t_whys, .int t_answer])), (q_t_now, .inl (cI, 133, .inl t_now)), (q_t_reach, .inl (cI, 16, .inl t_reach))] sz)) (va_Qi (fun r' (_ : Unit) => r' = r) (fun _ t => jpost D (tyL cI cJ cC cL) (va_A [(q_t, .inr (8, [.ref q_t_now, .ref q_t_tried, .ref q_t_thought, .ref q_t_kept, .int t_undos, .ref q_t_saved, .int t_isSaved, .ref q_t_finds, .ref q_t_reach, .ref q_t_steps, .ref q_t_glows, .ref q_t_lower, .ref q_t_upper, .ref q_t_line, .int t_lined, .ref q_t_text, .int t_length, .int t_at, .int t_order, .ref q_t_told, .ref q_t_why, .ref q_t_more, .int t_whys, .int t_answer])), (q_t_now, .inl (cI, 133, .inl t_now)), (q_t_reach, .inl (cI, 16, .inl t_reach))] sz) [(q_t, .inr (8, [.ref q_t_now, .ref q_t_tried, .ref q_t_thought, .ref q_t_kept, .int t_undos, .ref q_t_saved, .int t_isSaved, .ref q_t_finds, .ref q_t_reach, .ref q_t_steps, .ref q_t_glows, .ref q_t_lower, .ref q_t_upper, .ref q_t_line, .int t_lined, .ref q_t_text, .int t_length, .int t_at, .int t_order, .ref q_t_told, .ref q_t_why, .ref q_t_more, .int t_whys, .int t_answer])), (q_t_now, .inl (cI, 133, .inl t_now)), (q_t_reach, .inl (cI, 16, .inl o_t_reach))] t) (va_A [(q_t, .inr (8, [.ref q_t_now, .ref q_t_tried, .ref q_t_thought, .ref q_t_kept, .int t_undos, .ref q_t_saved, .int t_isSaved, .ref q_t_finds, .ref q_t_reach, .ref q_t_steps, .ref q_t_glows, .ref q_t_lower, .ref q_t_upper, .ref q_t_line, .int t_lined, .ref q_t_text, .int t_length, .int t_at, .int t_order, .ref q_t_told, .ref q_t_why, .ref q_t_more, .int t_whys, .int t_answer])), (q_t_now, .inl (cI, 133, .inl t_now)), (q_t_reach, .inl (cI, 16, .inl t_reach))] sz)) 0 0 (va_A [(q_t, .inr (8, [.ref q_t_now, .ref q_t_tried, .ref q_t_thought, .ref q_t_kept, .int t_undos, .ref q_t_saved, .int t_isSaved, .ref q_t_finds, .ref q_t_reach, .ref q_t_steps, .ref q_t_glows, .ref q_t_lower, .ref q_t_upper, .ref q_t_line, .int t_lined, .ref q_t_text, .int t_length, .int t_at, .int t_order, .ref q_t_told, .ref q_t_why, .ref q_t_more, .int t_whys, .int t_answer])), (q_t_now, .inl (cI, 133, .inl t_now)), (q_t_reach, .inl (cI, 16, .inl t_reach))] sz) := by
  refine jE_i (cc := cX10_account) (maxL := 4) (own := RX10) (ret := (some .int)) (lv0 := [(0, .ref q_t), (1, .int v1)]) (by decide) rfl rfl rfl (Nat.le_of_ble_eq_true rfl) rfl ?_
  intro p e s m args below meth c A Q ls hx hb hml hown hts hK hN hX hA hP hD hS hl hRet
  have hF : CallFix p m c cX10_account 4 s args wsX10_account RX10 := ⟨hx, hb, hml, hown, hts⟩
  have fl_9 := hts (.fieldLink RX10 9 "LanternLogicModel" "now" "[I") (by decide +kernel)
  have fl_59 := hts (.fieldLink RX10 59 "LanternLogicModel" "undos" "I") (by decide +kernel)
  have fl_217 := hts (.fieldLink RX10 217 "LanternLogicModel" "length" "I") (by decide +kernel)
  have hin_X10 : ∀ w ∈ u_ws RX10 TX10 24, w ∈ wsX10_account := by decide +kernel
  have L191 : ∀ (nf : Nat), ∀ (t_reach : Nat → Int32) (v2 : Int32) (v3 : Int32) (H : Heap) (locs : List Loc), va_P D vwCl [(q_t, .inr (8, [.ref q_t_now, .ref q_t_tried, .ref q_t_thought, .ref q_t_kept, .int t_undos, .ref q_t_saved, .int t_isSaved, .ref q_t_finds, .ref q_t_reach, .ref q_t_steps, .ref q_t_glows, .ref q_t_lower, .ref q_t_upper, .ref q_t_line, .int t_lined, .ref q_t_text, .int t_length, .int t_at, .int t_order, .ref q_t_told, .ref q_t_why, .ref q_t_more, .int t_whys, .int t_answer])), (q_t_now, .inl (cI, 133, .inl t_now)), (q_t_reach, .inl (cI, 16, .inl t_reach))] H → va_D A [(q_t, .inr (8, [.ref q_t_now, .ref q_t_tried, .ref q_t_thought, .ref q_t_kept, .int t_undos, .ref q_t_saved, .int t_isSaved, .ref q_t_finds, .ref q_t_reach, .ref q_t_steps, .ref q_t_glows, .ref q_t_lower, .ref q_t_upper, .ref q_t_line, .int t_lined, .ref q_t_text, .int t_length, .int t_at, .int t_order, .ref q_t_told, .ref q_t_why, .ref q_t_more, .int t_whys, .int t_answer])), (q_t_now, .inl (cI, 133, .inl t_now)), (q_t_reach, .inl (cI, 16, .inl t_reach))] → va_S A s.heap H locs → ∀ ls : Array Slot, lv_has ls 4 [(0, .ref q_t), (2, .int v2), (3, .int v3)] → J_X10_account_L191  t_undos t_length t_now v1 nf t_reach v2 v3 = some (r, o_t_reach) → W p l e rmX10_account s m args below meth c H locs 0 0 Q (F0 m 191 ls []) := by
    intro nf
    induction nf with
    | zero =>
      intro t_reach v2 v3 H locs hP hD hS ls hl hJ
      rw [J_X10_account_L191] at hJ
      cases hJ
    | succ nf ih =>
      intro t_reach v2 v3 H locs hP hD hS ls hl hJ
      rw [J_X10_account_L191] at hJ
      refine lv_iload_n hx hb dX10_account_191 rfl (lv_at hl 2 rfl) ?_
      refine lv_aload_n hx hb dX10_account_192 rfl (lv_at hl 0 rfl) ?_
      refine va_get (ci := 8) (v := .ref q_t_now) (C := RX10) (T := TX10) (N := 24) hx hb hts hin_X10 hown hK hP 0 rfl rfl 0 (by decide) fl_9 (fun _ h9 => h9) rfl dX10_account_193 ?_
      refine lv_iconst (v := (0 : Int32)) hx hb dX10_account_196 (by decide) ?_
      obtain ⟨hin, hJ⟩ := chk_in hJ
      refine va_iald hx hb hK hP 1 0 rfl rfl hin dX10_account_197 ?_
      refine jt_i hJ (fun x197 hJ => ?_)
      refine jif_icmp_ge (tgt := 217) hx hb dX10_account_198 (by decide) hJ (fun hJ => ?_) (fun hJ => ?_)
      · refine lv_iload_n hx hb dX10_account_217 rfl (lv_at hl 1 rfl) ?_
        have hJ := Option.some.inj hJ
        obtain ⟨e0, e1⟩ : (v2) = r ∧ (t_reach) = o_t_reach := ⟨congrArg (fun z => z.1) hJ, congrArg (fun z => z.2) hJ⟩
        exact hRet (by rw [← e1]; exact hP) (by rw [← e1]; exact hD) hS e0 dX10_account_218
      · refine lv_iload_n hx hb dX10_account_201 rfl (lv_at hl 1 rfl) ?_
        refine lv_aload_n hx hb dX10_account_202 rfl (lv_at hl 0 rfl) ?_
        refine lv_iload_n hx hb dX10_account_203 rfl (lv_at hl 2 rfl) ?_
        obtain ⟨x204, t_reach_204, hc204, hJ⟩ := bnd2_some hJ
        refine jcV_i (C := RX10) (T := TX10) (N := 24) (ci := 8) (q0 := 0) (As := [.int v3]) (rest := [.int v2]) (isC := [0, 1, 2]) (isR := []) (isB := [0, 1, 2]) (wr := []) (ws2 := [(q_t, .inr (8, [.ref q_t_now, .ref q_t_tried, .ref q_t_thought, .ref q_t_kept, .int t_undos, .ref q_t_saved, .int t_isSaved, .ref q_t_finds, .ref q_t_reach, .ref q_t_steps, .ref q_t_glows, .ref q_t_lower, .ref q_t_upper, .ref q_t_line, .int t_lined, .ref q_t_text, .int t_length, .int t_at, .int t_order, .ref q_t_told, .ref q_t_why, .ref q_t_more, .int t_whys, .int t_answer])), (q_t_now, .inl (cI, 133, .inl t_now)), (q_t_reach, .inl (cI, 16, .inl t_reach_204))]) hF (c_X10_deep l D cI cJ cC cL q_t q_t_now q_t_tried q_t_thought q_t_kept q_t_saved q_t_finds q_t_reach q_t_steps q_t_glows q_t_lower q_t_upper q_t_line q_t_text q_t_told q_t_why q_t_more t_undos t_isSaved t_lined t_length t_at t_order t_whys t_answer t_now t_reach v3 x204 t_reach_204 hc204 H.size) (cwV 1 hts gX10_account_X10_deep rfl rfl rfl (by decide +kernel) ⟨Nat.le_of_ble_eq_true rfl, Nat.le_of_ble_eq_true rfl⟩) rfl hl rfl (Nat.le_of_ble_eq_true rfl) dX10_account_204 ⟨Nat.zero_le _, Nat.zero_le _⟩ hK hN KX_T trivial hP hD hS hA rfl rfl rfl rfl rfl rfl (by decide) rfl rfl (fun H locs hP hD hS => ?_)
        refine va_mmax hx hb (hml.trans hl.1.symm) hown (hts (.methodLink RX10 177 Lib.Math.max.name) (by decide +kernel)) (hts (.static Lib.Math.max.name) (by decide +kernel)) (hts (.initialized "java/lang/Math") (by decide +kernel)) (hts (.code Lib.Math.max.name Lib.Math.max.code 2 (some .int)) (by decide +kernel)) (Nat.le_of_ble_eq_true rfl) (Nat.le_of_ble_eq_true rfl) (Nat.zero_le _) (Nat.zero_le _) dX10_account_207 ?_
        refine jt_i hJ (fun x207 hJ => ?_)
        refine lv_istore_n (lv' := [(2, .int x207), (0, .ref q_t), (3, .int v3)]) hx hb dX10_account_210 rfl hl (by decide) rfl (fun ls hl => ?_)
        refine jt_iinc hJ (fun x211 ex211 hJ => ?_)
        refine lv_iinc (v := x211) (lv' := [(3, .int x211), (2, .int x207), (0, .ref q_t)]) hx hb dX10_account_211 hl (k := 2) rfl ex211 (by decide) rfl (fun ls hl => ?_)
        refine lv_goto (tgt := 191) hx hb dX10_account_214 (by decide) ?_
        exact ih t_reach_204 x207 x211  H locs  hP hD hS _ (lv_sub hl [2, 1, 0] rfl) hJ
  have L115 : ∀ (nf : Nat), ∀ (t_reach : Nat → Int32) (v2 : Int32) (v3 : Int32) (H : Heap) (locs : List Loc), va_P D vwCl [(q_t, .inr (8, [.ref q_t_now, .ref q_t_tried, .ref q_t_thought, .ref q_t_kept, .int t_undos, .ref q_t_saved, .int t_isSaved, .ref q_t_finds, .ref q_t_reach, .ref q_t_steps, .ref q_t_glows, .ref q_t_lower, .ref q_t_upper, .ref q_t_line, .int t_lined, .ref q_t_text, .int t_length, .int t_at, .int t_order, .ref q_t_told, .ref q_t_why, .ref q_t_more, .int t_whys, .int t_answer])), (q_t_now, .inl (cI, 133, .inl t_now)), (q_t_reach, .inl (cI, 16, .inl t_reach))] H → va_D A [(q_t, .inr (8, [.ref q_t_now, .ref q_t_tried, .ref q_t_thought, .ref q_t_kept, .int t_undos, .ref q_t_saved, .int t_isSaved, .ref q_t_finds, .ref q_t_reach, .ref q_t_steps, .ref q_t_glows, .ref q_t_lower, .ref q_t_upper, .ref q_t_line, .int t_lined, .ref q_t_text, .int t_length, .int t_at, .int t_order, .ref q_t_told, .ref q_t_why, .ref q_t_more, .int t_whys, .int t_answer])), (q_t_now, .inl (cI, 133, .inl t_now)), (q_t_reach, .inl (cI, 16, .inl t_reach))] → va_S A s.heap H locs → ∀ ls : Array Slot, lv_has ls 4 [(0, .ref q_t), (2, .int v2), (3, .int v3)] → J_X10_account_L115  t_undos t_length t_now v1 nf t_reach v2 v3 = some (r, o_t_reach) → W p l e rmX10_account s m args below meth c H locs 0 0 Q (F0 m 115 ls []) := by
    intro nf
    induction nf with
    | zero =>
      intro t_reach v2 v3 H locs hP hD hS ls hl hJ
      rw [J_X10_account_L115] at hJ
      cases hJ
    | succ nf ih =>
      intro t_reach v2 v3 H locs hP hD hS ls hl hJ
      rw [J_X10_account_L115] at hJ
      refine lv_iload_n hx hb dX10_account_115 rfl (lv_at hl 2 rfl) ?_
      refine lv_aload_n hx hb dX10_account_116 rfl (lv_at hl 0 rfl) ?_
      refine va_get (ci := 8) (v := .ref q_t_now) (C := RX10) (T := TX10) (N := 24) hx hb hts hin_X10 hown hK hP 0 rfl rfl 0 (by decide) fl_9 (fun _ h9 => h9) rfl dX10_account_117 ?_
      refine lv_iconst (v := (0 : Int32)) hx hb dX10_account_120 (by decide) ?_
      obtain ⟨hin, hJ⟩ := chk_in hJ
      refine va_iald hx hb hK hP 1 0 rfl rfl hin dX10_account_121 ?_
      refine jt_i hJ (fun x121 hJ => ?_)
      refine jif_icmp_ge (tgt := 139) hx hb dX10_account_122 (by decide) hJ (fun hJ => ?_) (fun hJ => ?_)
      · refine lv_iload_n hx hb dX10_account_139 rfl (lv_at hl 1 rfl) ?_
        have hJ := Option.some.inj hJ
        obtain ⟨e0, e1⟩ : (v2) = r ∧ (t_reach) = o_t_reach := ⟨congrArg (fun z => z.1) hJ, congrArg (fun z => z.2) hJ⟩
        exact hRet (by rw [← e1]; exact hP) (by rw [← e1]; exact hD) hS e0 dX10_account_140
      · refine lv_iload_n hx hb dX10_account_125 rfl (lv_at hl 1 rfl) ?_
        refine lv_aload_n hx hb dX10_account_126 rfl (lv_at hl 0 rfl) ?_
        refine lv_iload_n hx hb dX10_account_127 rfl (lv_at hl 2 rfl) ?_
        obtain ⟨x128, hc128, hJ⟩ := bnd1_some hJ
        refine jcV_i (C := RX10) (T := TX10) (N := 24) (ci := 8) (q0 := 0) (As := [.int v3]) (rest := [.int v2]) (isC := [0, 1]) (isR := [2]) (isB := [1, 2, 0]) (wr := [(q_t_reach, .inl (cI, 16, .inl t_reach))]) (ws2 := [(q_t, .inr (8, [.ref q_t_now, .ref q_t_tried, .ref q_t_thought, .ref q_t_kept, .int t_undos, .ref q_t_saved, .int t_isSaved, .ref q_t_finds, .ref q_t_reach, .ref q_t_steps, .ref q_t_glows, .ref q_t_lower, .ref q_t_upper, .ref q_t_line, .int t_lined, .ref q_t_text, .int t_length, .int t_at, .int t_order, .ref q_t_told, .ref q_t_why, .ref q_t_more, .int t_whys, .int t_answer])), (q_t_now, .inl (cI, 133, .inl t_now)), (q_t_reach, .inl (cI, 16, .inl t_reach))]) hF (c_X10_wiresTo l D cI cJ cC cL q_t q_t_now q_t_tried q_t_thought q_t_kept q_t_saved q_t_finds q_t_reach q_t_steps q_t_glows q_t_lower q_t_upper q_t_line q_t_text q_t_told q_t_why q_t_more t_undos t_isSaved t_lined t_length t_at t_order t_whys t_answer t_now v3 x128 hc128 H.size) (cwV 1 hts gX10_account_X10_wiresTo rfl rfl rfl (by decide +kernel) ⟨Nat.le_of_ble_eq_true rfl, Nat.le_of_ble_eq_true rfl⟩) rfl hl rfl (Nat.le_of_ble_eq_true rfl) dX10_account_128 ⟨Nat.zero_le _, Nat.zero_le _⟩ hK hN KX_T trivial hP hD hS hA rfl rfl rfl rfl rfl rfl (by decide) rfl rfl (fun H locs hP hD hS => ?_)
        refine lv_iadd hx hb dX10_account_131 ?_
        refine jt_i hJ (fun x131 hJ => ?_)
        refine lv_istore_n (lv' := [(2, .int x131), (0, .ref q_t), (3, .int v3)]) hx hb dX10_account_132 rfl hl (by decide) rfl (fun ls hl => ?_)
        refine jt_iinc hJ (fun x133 ex133 hJ => ?_)
        refine lv_iinc (v := x133) (lv' := [(3, .int x133), (2, .int x131), (0, .ref q_t)]) hx hb dX10_account_133 hl (k := 2) rfl ex133 (by decide) rfl (fun ls hl => ?_)
        refine lv_goto (tgt := 115) hx hb dX10_account_136 (by decide) ?_
        exact ih t_reach x131 x133  H locs  hP hD hS _ (lv_sub hl [2, 1, 0] rfl) hJ
  have B105 : ∀ (k84 : (Nat → Int32) → Int32 → Int32 → Option (Int32 × (Nat → Int32))), (∀ (t_reach : Nat → Int32) (v2 : Int32) (v3 : Int32) (H : Heap) (locs : List Loc), va_P D vwCl [(q_t, .inr (8, [.ref q_t_now, .ref q_t_tried, .ref q_t_thought, .ref q_t_kept, .int t_undos, .ref q_t_saved, .int t_isSaved, .ref q_t_finds, .ref q_t_reach, .ref q_t_steps, .ref q_t_glows, .ref q_t_lower, .ref q_t_upper, .ref q_t_line, .int t_lined, .ref q_t_text, .int t_length, .int t_at, .int t_order, .ref q_t_told, .ref q_t_why, .ref q_t_more, .int t_whys, .int t_answer])), (q_t_now, .inl (cI, 133, .inl t_now)), (q_t_reach, .inl (cI, 16, .inl t_reach))] H → va_D A [(q_t, .inr (8, [.ref q_t_now, .ref q_t_tried, .ref q_t_thought, .ref q_t_kept, .int t_undos, .ref q_t_saved, .int t_isSaved, .ref q_t_finds, .ref q_t_reach, .ref q_t_steps, .ref q_t_glows, .ref q_t_lower, .ref q_t_upper, .ref q_t_line, .int t_lined, .ref q_t_text, .int t_length, .int t_at, .int t_order, .ref q_t_told, .ref q_t_why, .ref q_t_more, .int t_whys, .int t_answer])), (q_t_now, .inl (cI, 133, .inl t_now)), (q_t_reach, .inl (cI, 16, .inl t_reach))] → va_S A s.heap H locs → ∀ ls : Array Slot, lv_has ls 4 [(0, .ref q_t), (2, .int v2), (3, .int v3)] → k84 t_reach v2 v3 = some (r, o_t_reach) → W p l e rmX10_account s m args below meth c H locs 0 0 Q (F0 m 84 ls [])) → ∀ (t_reach : Nat → Int32) (v2 : Int32) (v3 : Int32) (H : Heap) (locs : List Loc), va_P D vwCl [(q_t, .inr (8, [.ref q_t_now, .ref q_t_tried, .ref q_t_thought, .ref q_t_kept, .int t_undos, .ref q_t_saved, .int t_isSaved, .ref q_t_finds, .ref q_t_reach, .ref q_t_steps, .ref q_t_glows, .ref q_t_lower, .ref q_t_upper, .ref q_t_line, .int t_lined, .ref q_t_text, .int t_length, .int t_at, .int t_order, .ref q_t_told, .ref q_t_why, .ref q_t_more, .int t_whys, .int t_answer])), (q_t_now, .inl (cI, 133, .inl t_now)), (q_t_reach, .inl (cI, 16, .inl t_reach))] H → va_D A [(q_t, .inr (8, [.ref q_t_now, .ref q_t_tried, .ref q_t_thought, .ref q_t_kept, .int t_undos, .ref q_t_saved, .int t_isSaved, .ref q_t_finds, .ref q_t_reach, .ref q_t_steps, .ref q_t_glows, .ref q_t_lower, .ref q_t_upper, .ref q_t_line, .int t_lined, .ref q_t_text, .int t_length, .int t_at, .int t_order, .ref q_t_told, .ref q_t_why, .ref q_t_more, .int t_whys, .int t_answer])), (q_t_now, .inl (cI, 133, .inl t_now)), (q_t_reach, .inl (cI, 16, .inl t_reach))] → va_S A s.heap H locs → ∀ ls : Array Slot, lv_has ls 4 [(0, .ref q_t), (2, .int v2), (3, .int v3)] → J_X10_account_b105 k84 t_undos t_length t_now v1 t_reach v2 v3 = some (r, o_t_reach) → W p l e rmX10_account s m args below meth c H locs 0 0 Q (F0 m 105 ls []) := by
    intro k84 hk84 t_reach v2 v3 H locs hP hD hS ls hl hJ
    unfold J_X10_account_b105 at hJ
    refine jt_iinc hJ (fun x105 ex105 hJ => ?_)
    refine lv_iinc (v := x105) (lv' := [(3, .int x105), (0, .ref q_t), (2, .int v2)]) hx hb dX10_account_105 hl (k := 2) rfl ex105 (by decide) rfl (fun ls hl => ?_)
    refine lv_goto (tgt := 84) hx hb dX10_account_108 (by decide) ?_
    exact hk84 t_reach v2 x105  H locs  hP hD hS _ (lv_sub hl [1, 2, 0] rfl) hJ
  have L84 : ∀ (nf : Nat), ∀ (t_reach : Nat → Int32) (v2 : Int32) (v3 : Int32) (H : Heap) (locs : List Loc), va_P D vwCl [(q_t, .inr (8, [.ref q_t_now, .ref q_t_tried, .ref q_t_thought, .ref q_t_kept, .int t_undos, .ref q_t_saved, .int t_isSaved, .ref q_t_finds, .ref q_t_reach, .ref q_t_steps, .ref q_t_glows, .ref q_t_lower, .ref q_t_upper, .ref q_t_line, .int t_lined, .ref q_t_text, .int t_length, .int t_at, .int t_order, .ref q_t_told, .ref q_t_why, .ref q_t_more, .int t_whys, .int t_answer])), (q_t_now, .inl (cI, 133, .inl t_now)), (q_t_reach, .inl (cI, 16, .inl t_reach))] H → va_D A [(q_t, .inr (8, [.ref q_t_now, .ref q_t_tried, .ref q_t_thought, .ref q_t_kept, .int t_undos, .ref q_t_saved, .int t_isSaved, .ref q_t_finds, .ref q_t_reach, .ref q_t_steps, .ref q_t_glows, .ref q_t_lower, .ref q_t_upper, .ref q_t_line, .int t_lined, .ref q_t_text, .int t_length, .int t_at, .int t_order, .ref q_t_told, .ref q_t_why, .ref q_t_more, .int t_whys, .int t_answer])), (q_t_now, .inl (cI, 133, .inl t_now)), (q_t_reach, .inl (cI, 16, .inl t_reach))] → va_S A s.heap H locs → ∀ ls : Array Slot, lv_has ls 4 [(0, .ref q_t), (2, .int v2), (3, .int v3)] → J_X10_account_L84  t_undos t_length t_now v1 nf t_reach v2 v3 = some (r, o_t_reach) → W p l e rmX10_account s m args below meth c H locs 0 0 Q (F0 m 84 ls []) := by
    intro nf
    induction nf with
    | zero =>
      intro t_reach v2 v3 H locs hP hD hS ls hl hJ
      rw [J_X10_account_L84] at hJ
      cases hJ
    | succ nf ih =>
      intro t_reach v2 v3 H locs hP hD hS ls hl hJ
      rw [J_X10_account_L84] at hJ
      refine lv_iload_n hx hb dX10_account_84 rfl (lv_at hl 2 rfl) ?_
      refine lv_aload_n hx hb dX10_account_85 rfl (lv_at hl 0 rfl) ?_
      refine va_get (ci := 8) (v := .ref q_t_now) (C := RX10) (T := TX10) (N := 24) hx hb hts hin_X10 hown hK hP 0 rfl rfl 0 (by decide) fl_9 (fun _ h9 => h9) rfl dX10_account_86 ?_
      refine lv_iconst (v := (0 : Int32)) hx hb dX10_account_89 (by decide) ?_
      obtain ⟨hin, hJ⟩ := chk_in hJ
      refine va_iald hx hb hK hP 1 0 rfl rfl hin dX10_account_90 ?_
      refine jt_i hJ (fun x90 hJ => ?_)
      refine jif_icmp_ge (tgt := 111) hx hb dX10_account_91 (by decide) hJ (fun hJ => ?_) (fun hJ => ?_)
      · refine lv_iload_n hx hb dX10_account_111 rfl (lv_at hl 1 rfl) ?_
        have hJ := Option.some.inj hJ
        obtain ⟨e0, e1⟩ : (v2) = r ∧ (t_reach) = o_t_reach := ⟨congrArg (fun z => z.1) hJ, congrArg (fun z => z.2) hJ⟩
        exact hRet (by rw [← e1]; exact hP) (by rw [← e1]; exact hD) hS e0 dX10_account_112
      · refine lv_aload_n hx hb dX10_account_94 rfl (lv_at hl 0 rfl) ?_
        refine lv_iload_n hx hb dX10_account_95 rfl (lv_at hl 2 rfl) ?_
        obtain ⟨x96, hc96, hJ⟩ := bnd1_some hJ
        refine jcV_i (C := RX10) (T := TX10) (N := 24) (ci := 8) (q0 := 0) (As := [.int v3]) (rest := []) (isC := [0, 1]) (isR := [2]) (isB := [1, 2, 0]) (wr := [(q_t_reach, .inl (cI, 16, .inl t_reach))]) (ws2 := [(q_t, .inr (8, [.ref q_t_now, .ref q_t_tried, .ref q_t_thought, .ref q_t_kept, .int t_undos, .ref q_t_saved, .int t_isSaved, .ref q_t_finds, .ref q_t_reach, .ref q_t_steps, .ref q_t_glows, .ref q_t_lower, .ref q_t_upper, .ref q_t_line, .int t_lined, .ref q_t_text, .int t_length, .int t_at, .int t_order, .ref q_t_told, .ref q_t_why, .ref q_t_more, .int t_whys, .int t_answer])), (q_t_now, .inl (cI, 133, .inl t_now)), (q_t_reach, .inl (cI, 16, .inl t_reach))]) hF (c_X10_isSwitch l D cI cJ cC cL q_t q_t_now q_t_tried q_t_thought q_t_kept q_t_saved q_t_finds q_t_reach q_t_steps q_t_glows q_t_lower q_t_upper q_t_line q_t_text q_t_told q_t_why q_t_more t_undos t_isSaved t_lined t_length t_at t_order t_whys t_answer t_now v3 x96 hc96 H.size) (cwV 1 hts gX10_account_X10_isSwitch rfl rfl rfl (by decide +kernel) ⟨Nat.le_of_ble_eq_true rfl, Nat.le_of_ble_eq_true rfl⟩) rfl hl rfl (Nat.le_of_ble_eq_true rfl) dX10_account_96 ⟨Nat.zero_le _, Nat.zero_le _⟩ hK hN KX_T trivial hP hD hS hA rfl rfl rfl rfl rfl rfl (by decide) rfl rfl (fun H locs hP hD hS => ?_)
        refine jif_eq (tgt := 105) hx hb dX10_account_99 (by decide) hJ (fun hJ => ?_) (fun hJ => ?_)
        · exact B105 (fun z0 z1 z2 => J_X10_account_L84 t_undos t_length t_now v1 nf z0 z1 z2) ih t_reach v2 v3  H locs  hP hD hS _ (lv_sub hl [0, 1, 2] rfl) hJ
        · refine jt_iinc hJ (fun x102 ex102 hJ => ?_)
          refine lv_iinc (v := x102) (lv' := [(2, .int x102), (0, .ref q_t), (3, .int v3)]) hx hb dX10_account_102 hl (k := 1) rfl ex102 (by decide) rfl (fun ls hl => ?_)
          exact B105 (fun z0 z1 z2 => J_X10_account_L84 t_undos t_length t_now v1 nf z0 z1 z2) ih t_reach x102 v3  H locs  hP hD hS _ (lv_sub hl [1, 0, 2] rfl) hJ
  unfold J_X10_account at hJ
  refine lv_iconst (v := (0 : Int32)) hx hb dX10_account_0 (by decide) ?_
  refine lv_istore_n (lv' := [(2, .int (0 : Int32)), (0, .ref q_t), (1, .int v1)]) hx hb dX10_account_1 rfl hl (by decide) rfl (fun ls hl => ?_)
  refine lv_iload_n hx hb dX10_account_2 rfl (lv_at hl 2 rfl) ?_
  by_cases hsw : v1 = (0 : Int32)
  · have hJ := if_some_t hJ hsw
    refine lv_tableIn (off := 65) (tgt := 68) hx hb dX10_account_3 (by rw [hsw]; decide) (by rw [hsw]; decide) (by rw [hsw]; rfl) (by decide) ?_
    refine lv_aload_n hx hb dX10_account_68 rfl (lv_at hl 1 rfl) ?_
    refine va_get (ci := 8) (v := .ref q_t_now) (C := RX10) (T := TX10) (N := 24) hx hb hts hin_X10 hown hK hP 0 rfl rfl 0 (by decide) fl_9 (fun _ h9 => h9) rfl dX10_account_69 ?_
    refine lv_iconst (v := (2 : Int32)) hx hb dX10_account_72 (by decide) ?_
    obtain ⟨hin, hJ⟩ := chk_in hJ
    refine va_iald hx hb hK hP 1 0 rfl rfl hin dX10_account_73 ?_
    refine jt_i hJ (fun x73 hJ => ?_)
    have hJ := Option.some.inj hJ
    obtain ⟨e0, e1⟩ : (x73) = r ∧ (t_reach) = o_t_reach := ⟨congrArg (fun z => z.1) hJ, congrArg (fun z => z.2) hJ⟩
    exact hRet (by rw [← e1]; exact hP) (by rw [← e1]; exact hD) hS e0 dX10_account_74
  have hJ := if_some_f hJ hsw
  have hs0 := jsw_ne hsw (k := 0) (by decide)
  clear hsw
  by_cases hsw : v1 = (1 : Int32)
  · have hJ := if_some_t hJ hsw
    refine lv_tableIn (off := 72) (tgt := 75) hx hb dX10_account_3 (by rw [hsw]; decide) (by rw [hsw]; decide) (by rw [hsw]; rfl) (by decide) ?_
    refine lv_aload_n hx hb dX10_account_75 rfl (lv_at hl 1 rfl) ?_
    refine va_get (ci := 8) (v := .ref q_t_now) (C := RX10) (T := TX10) (N := 24) hx hb hts hin_X10 hown hK hP 0 rfl rfl 0 (by decide) fl_9 (fun _ h9 => h9) rfl dX10_account_76 ?_
    refine lv_iconst (v := (0 : Int32)) hx hb dX10_account_79 (by decide) ?_
    obtain ⟨hin, hJ⟩ := chk_in hJ
    refine va_iald hx hb hK hP 1 0 rfl rfl hin dX10_account_80 ?_
    refine jt_i hJ (fun x80 hJ => ?_)
    have hJ := Option.some.inj hJ
    obtain ⟨e0, e1⟩ : (x80) = r ∧ (t_reach) = o_t_reach := ⟨congrArg (fun z => z.1) hJ, congrArg (fun z => z.2) hJ⟩
    exact hRet (by rw [← e1]; exact hP) (by rw [← e1]; exact hD) hS e0 dX10_account_81
  have hJ := if_some_f hJ hsw
  have hs1 := jsw_ne hsw (k := 1) (by decide)
  clear hsw
  by_cases hsw : v1 = (2 : Int32)
  · have hJ := if_some_t hJ hsw
    refine lv_tableIn (off := 79) (tgt := 82) hx hb dX10_account_3 (by rw [hsw]; decide) (by rw [hsw]; decide) (by rw [hsw]; rfl) (by decide) ?_
    refine lv_iconst (v := (0 : Int32)) hx hb dX10_account_82 (by decide) ?_
    refine lv_istore_n (lv' := [(3, .int (0 : Int32)), (2, .int (0 : Int32)), (0, .ref q_t), (1, .int v1)]) hx hb dX10_account_83 rfl hl (by decide) rfl (fun ls hl => ?_)
    exact L84  FU t_reach (0 : Int32) (0 : Int32)  s.heap []  hP hD hS _ (lv_sub hl [2, 1, 0] rfl) hJ
  have hJ := if_some_f hJ hsw
  have hs2 := jsw_ne hsw (k := 2) (by decide)
  clear hsw
  by_cases hsw : v1 = (3 : Int32)
  · have hJ := if_some_t hJ hsw
    refine lv_tableIn (off := 110) (tgt := 113) hx hb dX10_account_3 (by rw [hsw]; decide) (by rw [hsw]; decide) (by rw [hsw]; rfl) (by decide) ?_
    refine lv_iconst (v := (0 : Int32)) hx hb dX10_account_113 (by decide) ?_
    refine lv_istore_n (lv' := [(3, .int (0 : Int32)), (2, .int (0 : Int32)), (0, .ref q_t), (1, .int v1)]) hx hb dX10_account_114 rfl hl (by decide) rfl (fun ls hl => ?_)
    exact L115  FU t_reach (0 : Int32) (0 : Int32)  s.heap []  hP hD hS _ (lv_sub hl [2, 1, 0] rfl) hJ
  have hJ := if_some_f hJ hsw
  have hs3 := jsw_ne hsw (k := 3) (by decide)
  clear hsw
  by_cases hsw : v1 = (4 : Int32)
  · have hJ := if_some_t hJ hsw
    refine lv_tableIn (off := 138) (tgt := 141) hx hb dX10_account_3 (by rw [hsw]; decide) (by rw [hsw]; decide) (by rw [hsw]; rfl) (by decide) ?_
    refine lv_aload_n hx hb dX10_account_141 rfl (lv_at hl 1 rfl) ?_
    obtain ⟨x142, hc142, hJ⟩ := bnd1_some hJ
    refine jcV_i (C := RX10) (T := TX10) (N := 24) (ci := 8) (q0 := 0) (As := []) (rest := []) (isC := [0, 1]) (isR := [2]) (isB := [1, 2, 0]) (wr := [(q_t_reach, .inl (cI, 16, .inl t_reach))]) (ws2 := [(q_t, .inr (8, [.ref q_t_now, .ref q_t_tried, .ref q_t_thought, .ref q_t_kept, .int t_undos, .ref q_t_saved, .int t_isSaved, .ref q_t_finds, .ref q_t_reach, .ref q_t_steps, .ref q_t_glows, .ref q_t_lower, .ref q_t_upper, .ref q_t_line, .int t_lined, .ref q_t_text, .int t_length, .int t_at, .int t_order, .ref q_t_told, .ref q_t_why, .ref q_t_more, .int t_whys, .int t_answer])), (q_t_now, .inl (cI, 133, .inl t_now)), (q_t_reach, .inl (cI, 16, .inl t_reach))]) hF (c_X10_glowing l D cI cJ cC cL q_t q_t_now q_t_tried q_t_thought q_t_kept q_t_saved q_t_finds q_t_reach q_t_steps q_t_glows q_t_lower q_t_upper q_t_line q_t_text q_t_told q_t_why q_t_more t_undos t_isSaved t_lined t_length t_at t_order t_whys t_answer t_now x142 hc142 s.heap.size) (cwV 0 hts gX10_account_X10_glowing rfl rfl rfl (by decide +kernel) ⟨Nat.le_of_ble_eq_true rfl, Nat.le_of_ble_eq_true rfl⟩) rfl hl rfl (Nat.le_of_ble_eq_true rfl) dX10_account_142 ⟨Nat.zero_le _, Nat.zero_le _⟩ hK hN KX_T trivial hP hD hS hA rfl rfl rfl rfl rfl rfl (by decide) rfl rfl (fun H locs hP hD hS => ?_)
    have hJ := Option.some.inj hJ
    obtain ⟨e0, e1⟩ : (x142) = r ∧ (t_reach) = o_t_reach := ⟨congrArg (fun z => z.1) hJ, congrArg (fun z => z.2) hJ⟩
    exact hRet (by rw [← e1]; exact hP) (by rw [← e1]; exact hD) hS e0 dX10_account_145
  have hJ := if_some_f hJ hsw
  have hs4 := jsw_ne hsw (k := 4) (by decide)
  clear hsw
  by_cases hsw : v1 = (5 : Int32)
  · have hJ := if_some_t hJ hsw
    refine lv_tableIn (off := 143) (tgt := 146) hx hb dX10_account_3 (by rw [hsw]; decide) (by rw [hsw]; decide) (by rw [hsw]; rfl) (by decide) ?_
    refine lv_aload_n hx hb dX10_account_146 rfl (lv_at hl 1 rfl) ?_
    obtain ⟨x147, t_reach_147, hc147, hJ⟩ := bnd2_some hJ
    refine jcV_i (C := RX10) (T := TX10) (N := 24) (ci := 8) (q0 := 0) (As := []) (rest := []) (isC := [0, 1, 2]) (isR := []) (isB := [0, 1, 2]) (wr := []) (ws2 := [(q_t, .inr (8, [.ref q_t_now, .ref q_t_tried, .ref q_t_thought, .ref q_t_kept, .int t_undos, .ref q_t_saved, .int t_isSaved, .ref q_t_finds, .ref q_t_reach, .ref q_t_steps, .ref q_t_glows, .ref q_t_lower, .ref q_t_upper, .ref q_t_line, .int t_lined, .ref q_t_text, .int t_length, .int t_at, .int t_order, .ref q_t_told, .ref q_t_why, .ref q_t_more, .int t_whys, .int t_answer])), (q_t_now, .inl (cI, 133, .inl t_now)), (q_t_reach, .inl (cI, 16, .inl t_reach_147))]) hF (c_X10_loopSet l D cI cJ cC cL q_t q_t_now q_t_tried q_t_thought q_t_kept q_t_saved q_t_finds q_t_reach q_t_steps q_t_glows q_t_lower q_t_upper q_t_line q_t_text q_t_told q_t_why q_t_more t_undos t_isSaved t_lined t_length t_at t_order t_whys t_answer t_now t_reach x147 t_reach_147 hc147 s.heap.size) (cwV 0 hts gX10_account_X10_loopSet rfl rfl rfl (by decide +kernel) ⟨Nat.le_of_ble_eq_true rfl, Nat.le_of_ble_eq_true rfl⟩) rfl hl rfl (Nat.le_of_ble_eq_true rfl) dX10_account_147 ⟨Nat.zero_le _, Nat.zero_le _⟩ hK hN KX_T trivial hP hD hS hA rfl rfl rfl rfl rfl rfl (by decide) rfl rfl (fun H locs hP hD hS => ?_)
    obtain ⟨x150, hc150, hJ⟩ := bnd1_some hJ
    refine jcS_i (As := [.int x147]) (rest := []) (isC := []) (isR := [0, 1, 2]) (isB := [0, 1, 2]) (wr := [(q_t, .inr (8, [.ref q_t_now, .ref q_t_tried, .ref q_t_thought, .ref q_t_kept, .int t_undos, .ref q_t_saved, .int t_isSaved, .ref q_t_finds, .ref q_t_reach, .ref q_t_steps, .ref q_t_glows, .ref q_t_lower, .ref q_t_upper, .ref q_t_line, .int t_lined, .ref q_t_text, .int t_length, .int t_at, .int t_order, .ref q_t_told, .ref q_t_why, .ref q_t_more, .int t_whys, .int t_answer])), (q_t_now, .inl (cI, 133, .inl t_now)), (q_t_reach, .inl (cI, 16, .inl t_reach_147))]) (ws2 := [(q_t, .inr (8, [.ref q_t_now, .ref q_t_tried, .ref q_t_thought, .ref q_t_kept, .int t_undos, .ref q_t_saved, .int t_isSaved, .ref q_t_finds, .ref q_t_reach, .ref q_t_steps, .ref q_t_glows, .ref q_t_lower, .ref q_t_upper, .ref q_t_line, .int t_lined, .ref q_t_text, .int t_length, .int t_at, .int t_order, .ref q_t_told, .ref q_t_why, .ref q_t_more, .int t_whys, .int t_answer])), (q_t_now, .inl (cI, 133, .inl t_now)), (q_t_reach, .inl (cI, 16, .inl t_reach_147))]) hF (c_J6_bitCount_0f7a4 l D cI cJ cC cL x147 x150 hc150 H.size) (va_cwS 1 hts gX10_account_J6_bitCount_0f7a4 rfl rfl rfl (by decide +kernel) ⟨Nat.le_of_ble_eq_true rfl, Nat.le_of_ble_eq_true rfl⟩) rfl hl rfl (Nat.le_of_ble_eq_true rfl) dX10_account_150 ⟨Nat.zero_le _, Nat.zero_le _⟩ hK hN KX_T trivial hP hD hS hA rfl rfl rfl rfl (by decide) rfl rfl (fun H locs hP hD hS => ?_)
    have hJ := Option.some.inj hJ
    obtain ⟨e0, e1⟩ : (x150) = r ∧ (t_reach_147) = o_t_reach := ⟨congrArg (fun z => z.1) hJ, congrArg (fun z => z.2) hJ⟩
    exact hRet (by rw [← e1]; exact hP) (by rw [← e1]; exact hD) hS e0 dX10_account_153
  have hJ := if_some_f hJ hsw
  have hs5 := jsw_ne hsw (k := 5) (by decide)
  clear hsw
  by_cases hsw : v1 = (6 : Int32)
  · have hJ := if_some_t hJ hsw
    refine lv_tableIn (off := 151) (tgt := 154) hx hb dX10_account_3 (by rw [hsw]; decide) (by rw [hsw]; decide) (by rw [hsw]; rfl) (by decide) ?_
    refine lv_aload_n hx hb dX10_account_154 rfl (lv_at hl 1 rfl) ?_
    refine va_get (ci := 8) (v := .ref q_t_now) (C := RX10) (T := TX10) (N := 24) hx hb hts hin_X10 hown hK hP 0 rfl rfl 0 (by decide) fl_9 (fun _ h9 => h9) rfl dX10_account_155 ?_
    refine lv_iconst (v := (1 : Int32)) hx hb dX10_account_158 (by decide) ?_
    obtain ⟨hin, hJ⟩ := chk_in hJ
    refine va_iald hx hb hK hP 1 0 rfl rfl hin dX10_account_159 ?_
    refine jt_i hJ (fun x159 hJ => ?_)
    have hJ := Option.some.inj hJ
    obtain ⟨e0, e1⟩ : (x159) = r ∧ (t_reach) = o_t_reach := ⟨congrArg (fun z => z.1) hJ, congrArg (fun z => z.2) hJ⟩
    exact hRet (by rw [← e1]; exact hP) (by rw [← e1]; exact hD) hS e0 dX10_account_160
  have hJ := if_some_f hJ hsw
  have hs6 := jsw_ne hsw (k := 6) (by decide)
  clear hsw
  by_cases hsw : v1 = (7 : Int32)
  · have hJ := if_some_t hJ hsw
    refine lv_tableIn (off := 158) (tgt := 161) hx hb dX10_account_3 (by rw [hsw]; decide) (by rw [hsw]; decide) (by rw [hsw]; rfl) (by decide) ?_
    refine lv_aload_n hx hb dX10_account_161 rfl (lv_at hl 1 rfl) ?_
    refine va_get (ci := 8) (v := .ref q_t_now) (C := RX10) (T := TX10) (N := 24) hx hb hts hin_X10 hown hK hP 0 rfl rfl 0 (by decide) fl_9 (fun _ h9 => h9) rfl dX10_account_162 ?_
    refine lv_iconst (v := (3 : Int32)) hx hb dX10_account_165 (by decide) ?_
    obtain ⟨hin, hJ⟩ := chk_in hJ
    refine va_iald hx hb hK hP 1 0 rfl rfl hin dX10_account_166 ?_
    refine jt_i hJ (fun x166 hJ => ?_)
    refine lv_aload_n hx hb dX10_account_167 rfl (lv_at hl 1 rfl) ?_
    refine va_get (ci := 8) (v := .ref q_t_now) (C := RX10) (T := TX10) (N := 24) hx hb hts hin_X10 hown hK hP 0 rfl rfl 0 (by decide) fl_9 (fun _ h9 => h9) rfl dX10_account_168 ?_
    refine lv_iconst (v := (4 : Int32)) hx hb dX10_account_171 (by decide) ?_
    obtain ⟨hin, hJ⟩ := chk_in hJ
    refine va_iald hx hb hK hP 1 0 rfl rfl hin dX10_account_172 ?_
    refine jt_i hJ (fun x172 hJ => ?_)
    refine lv_iadd hx hb dX10_account_173 ?_
    have hJ := Option.some.inj hJ
    obtain ⟨e0, e1⟩ : (x166 + x172) = r ∧ (t_reach) = o_t_reach := ⟨congrArg (fun z => z.1) hJ, congrArg (fun z => z.2) hJ⟩
    exact hRet (by rw [← e1]; exact hP) (by rw [← e1]; exact hD) hS e0 dX10_account_174
  have hJ := if_some_f hJ hsw
  have hs7 := jsw_ne hsw (k := 7) (by decide)
  clear hsw
  by_cases hsw : v1 = (8 : Int32)
  · have hJ := if_some_t hJ hsw
    refine lv_tableIn (off := 172) (tgt := 175) hx hb dX10_account_3 (by rw [hsw]; decide) (by rw [hsw]; decide) (by rw [hsw]; rfl) (by decide) ?_
    refine lv_aload_n hx hb dX10_account_175 rfl (lv_at hl 1 rfl) ?_
    refine va_get (ci := 8) (v := .ref q_t_now) (C := RX10) (T := TX10) (N := 24) hx hb hts hin_X10 hown hK hP 0 rfl rfl 0 (by decide) fl_9 (fun _ h9 => h9) rfl dX10_account_176 ?_
    refine lv_iconst (v := (3 : Int32)) hx hb dX10_account_179 (by decide) ?_
    obtain ⟨hin, hJ⟩ := chk_in hJ
    refine va_iald hx hb hK hP 1 0 rfl rfl hin dX10_account_180 ?_
    refine jt_i hJ (fun x180 hJ => ?_)
    have hJ := Option.some.inj hJ
    obtain ⟨e0, e1⟩ : (x180) = r ∧ (t_reach) = o_t_reach := ⟨congrArg (fun z => z.1) hJ, congrArg (fun z => z.2) hJ⟩
    exact hRet (by rw [← e1]; exact hP) (by rw [← e1]; exact hD) hS e0 dX10_account_181
  have hJ := if_some_f hJ hsw
  have hs8 := jsw_ne hsw (k := 8) (by decide)
  clear hsw
  by_cases hsw : v1 = (9 : Int32)
  · have hJ := if_some_t hJ hsw
    refine lv_tableIn (off := 179) (tgt := 182) hx hb dX10_account_3 (by rw [hsw]; decide) (by rw [hsw]; decide) (by rw [hsw]; rfl) (by decide) ?_
    refine lv_aload_n hx hb dX10_account_182 rfl (lv_at hl 1 rfl) ?_
    refine va_get (ci := 8) (v := .ref q_t_now) (C := RX10) (T := TX10) (N := 24) hx hb hts hin_X10 hown hK hP 0 rfl rfl 0 (by decide) fl_9 (fun _ h9 => h9) rfl dX10_account_183 ?_
    refine lv_iconst (v := (4 : Int32)) hx hb dX10_account_186 (by decide) ?_
    obtain ⟨hin, hJ⟩ := chk_in hJ
    refine va_iald hx hb hK hP 1 0 rfl rfl hin dX10_account_187 ?_
    refine jt_i hJ (fun x187 hJ => ?_)
    have hJ := Option.some.inj hJ
    obtain ⟨e0, e1⟩ : (x187) = r ∧ (t_reach) = o_t_reach := ⟨congrArg (fun z => z.1) hJ, congrArg (fun z => z.2) hJ⟩
    exact hRet (by rw [← e1]; exact hP) (by rw [← e1]; exact hD) hS e0 dX10_account_188
  have hJ := if_some_f hJ hsw
  have hs9 := jsw_ne hsw (k := 9) (by decide)
  clear hsw
  by_cases hsw : v1 = (10 : Int32)
  · have hJ := if_some_t hJ hsw
    refine lv_tableIn (off := 186) (tgt := 189) hx hb dX10_account_3 (by rw [hsw]; decide) (by rw [hsw]; decide) (by rw [hsw]; rfl) (by decide) ?_
    refine lv_iconst (v := (0 : Int32)) hx hb dX10_account_189 (by decide) ?_
    refine lv_istore_n (lv' := [(3, .int (0 : Int32)), (2, .int (0 : Int32)), (0, .ref q_t), (1, .int v1)]) hx hb dX10_account_190 rfl hl (by decide) rfl (fun ls hl => ?_)
    exact L191  FU t_reach (0 : Int32) (0 : Int32)  s.heap []  hP hD hS _ (lv_sub hl [2, 1, 0] rfl) hJ
  have hJ := if_some_f hJ hsw
  have hs10 := jsw_ne hsw (k := 10) (by decide)
  clear hsw
  by_cases hsw : v1 = (11 : Int32)
  · have hJ := if_some_t hJ hsw
    refine lv_tableIn (off := 216) (tgt := 219) hx hb dX10_account_3 (by rw [hsw]; decide) (by rw [hsw]; decide) (by rw [hsw]; rfl) (by decide) ?_
    refine lv_aload_n hx hb dX10_account_219 rfl (lv_at hl 1 rfl) ?_
    refine va_get (ci := 8) (v := .int t_length) (C := RX10) (T := TX10) (N := 24) hx hb hts hin_X10 hown hK hP 0 rfl rfl 16 (by decide) fl_217 (fun _ h9 => h9) rfl dX10_account_220 ?_
    have hJ := Option.some.inj hJ
    obtain ⟨e0, e1⟩ : (t_length) = r ∧ (t_reach) = o_t_reach := ⟨congrArg (fun z => z.1) hJ, congrArg (fun z => z.2) hJ⟩
    exact hRet (by rw [← e1]; exact hP) (by rw [← e1]; exact hD) hS e0 dX10_account_223
  have hJ := if_some_f hJ hsw
  have hs11 := jsw_ne hsw (k := 11) (by decide)
  clear hsw
  by_cases hsw : v1 = (12 : Int32)
  · have hJ := if_some_t hJ hsw
    refine lv_tableIn (off := 221) (tgt := 224) hx hb dX10_account_3 (by rw [hsw]; decide) (by rw [hsw]; decide) (by rw [hsw]; rfl) (by decide) ?_
    refine lv_aload_n hx hb dX10_account_224 rfl (lv_at hl 1 rfl) ?_
    refine va_get (ci := 8) (v := .int t_undos) (C := RX10) (T := TX10) (N := 24) hx hb hts hin_X10 hown hK hP 0 rfl rfl 4 (by decide) fl_59 (fun _ h9 => h9) rfl dX10_account_225 ?_
    have hJ := Option.some.inj hJ
    obtain ⟨e0, e1⟩ : (t_undos) = r ∧ (t_reach) = o_t_reach := ⟨congrArg (fun z => z.1) hJ, congrArg (fun z => z.2) hJ⟩
    exact hRet (by rw [← e1]; exact hP) (by rw [← e1]; exact hD) hS e0 dX10_account_228
  have hJ := if_some_f hJ hsw
  have hs12 := jsw_ne hsw (k := 12) (by decide)
  clear hsw
  refine lv_tableOut (tgt := 229) hx hb dX10_account_3 (by omega) (by decide) ?_
  refine lv_bipush (v := (-12 : Int32)) hx hb dX10_account_229 (by decide) ?_
  have hJ := Option.some.inj hJ
  obtain ⟨e0, e1⟩ : ((-12 : Int32)) = r ∧ (t_reach) = o_t_reach := ⟨congrArg (fun z => z.1) hJ, congrArg (fun z => z.2) hJ⟩
  exact hRet (by rw [← e1]; exact hP) (by rw [← e1]; exact hD) hS e0 dX10_account_231


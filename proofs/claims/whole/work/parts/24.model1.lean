def J_X10_in_b15 (v0 : Int32) (v1 : Int32) (v2 : Int32) (s15_0 : Int32) : Option (Int32) :=
    chz s15_0 (some (s15_0))
def J_X10_in_b14 (v0 : Int32) (v1 : Int32) (v2 : Int32) : Option (Int32) :=
    J_X10_in_b15 v0 v1 v2 (0 : Int32)
def J_X10_in (v0 : Int32) (v1 : Int32) (v2 : Int32) : Option (Int32) :=
    if v0 < v1 then (
    J_X10_in_b14 v0 v1 v2 )
    else (
    if v2 < v0 then (
    J_X10_in_b14 v0 v1 v2 )
    else (
    J_X10_in_b15 v0 v1 v2 (1 : Int32)))
abbrev rmX10_in : Room := { frames := 0, cells := 0, slots := 0, locals := 0 }
set_option maxHeartbeats 4000000 in
set_option maxRecDepth 100000 in
theorem c_X10_in (l : Launch) (D : va_G) (cI cJ cC cL : ClassId) (v0 : Int32) (v1 : Int32) (v2 : Int32) (r : Int32) (hJ : J_X10_in v0 v1 v2 = some (r)) (sz : Nat) : Met l yX10_in wsX10_in rmX10_in (va_Pc [.int v0, .int v1, .int v2] (jpre XT D (tyL cI cJ cC cL) [] sz)) (va_Qi (fun r' (_ : Unit) => r' = r) (fun _ t => jpost D (tyL cI cJ cC cL) (va_A [] sz) [] t) (va_A [] sz)) 0 0 (va_A [] sz) := by
  refine jE_z (cc := cX10_in) (maxL := 3) (own := RX10) (ret := (some .boolean)) (lv0 := [(0, .int v0), (1, .int v1), (2, .int v2)]) (by decide) rfl rfl rfl (Nat.le_of_ble_eq_true rfl) rfl ?_
  intro p e s m args below meth c A Q ls hx hb hml hown hts hK hN hX hA hP hD hS hl hRet
  have hF : CallFix p m c cX10_in 3 s args wsX10_in RX10 := ⟨hx, hb, hml, hown, hts⟩
  have B15 : ∀ (s15_0 : Int32) (H : Heap) (locs : List Loc), va_P D vwCl [] H → va_D A [] → va_S A s.heap H locs → ∀ ls : Array Slot, lv_has ls 3 [] → J_X10_in_b15  v0 v1 v2 s15_0 = some (r) → W p l e rmX10_in s m args below meth c H locs 0 0 Q (F0 m 15 ls [.int s15_0]) := by
    intro s15_0 H locs hP hD hS ls hl hJ
    unfold J_X10_in_b15 at hJ
    obtain ⟨h01, hJ⟩ := chz_ok hJ
    have e0 := Option.some.inj hJ
    exact hRet hP hD hS h01 e0 dX10_in_15
  have B14 : ∀ (H : Heap) (locs : List Loc), va_P D vwCl [] H → va_D A [] → va_S A s.heap H locs → ∀ ls : Array Slot, lv_has ls 3 [] → J_X10_in_b14  v0 v1 v2  = some (r) → W p l e rmX10_in s m args below meth c H locs 0 0 Q (F0 m 14 ls []) := by
    intro H locs hP hD hS ls hl hJ
    unfold J_X10_in_b14 at hJ
    refine lv_iconst (v := (0 : Int32)) hx hb dX10_in_14 (by decide) ?_
    exact B15  (0 : Int32)  H locs  hP hD hS _ (lv_sub hl [] rfl) hJ
  unfold J_X10_in at hJ
  refine lv_iload_n hx hb dX10_in_0 rfl (lv_at hl 0 rfl) ?_
  refine lv_iload_n hx hb dX10_in_1 rfl (lv_at hl 1 rfl) ?_
  refine jif_icmp_lt (tgt := 14) hx hb dX10_in_2 (by decide) hJ (fun hJ => ?_) (fun hJ => ?_)
  · exact B14    s.heap []  hP hD hS _ (lv_sub hl [] rfl) hJ
  · refine lv_iload_n hx hb dX10_in_5 rfl (lv_at hl 0 rfl) ?_
    refine lv_iload_n hx hb dX10_in_6 rfl (lv_at hl 2 rfl) ?_
    refine jif_icmp_gt (tgt := 14) hx hb dX10_in_7 (by decide) hJ (fun hJ => ?_) (fun hJ => ?_)
    · exact B14    s.heap []  hP hD hS _ (lv_sub hl [] rfl) hJ
    · refine lv_iconst (v := (1 : Int32)) hx hb dX10_in_10 (by decide) ?_
      refine lv_goto (tgt := 15) hx hb dX10_in_11 (by decide) ?_
      exact B15  (1 : Int32)  s.heap []  hP hD hS _ (lv_sub hl [] rfl) hJ

def J_X10_tries_L2 (t_now : Nat → Int32) : Nat → (Nat → Int32) → Int32 → Option ((Nat → Int32))
  | 0, _, _ => none
  | nf + 1, t_tried, v1 =>
    if (133 : Int32) ≤ v1 then (
    some (t_tried))
    else (
    chk v1 133 (
    nm (t_now v1.toNatClampNeg) fun x19 =>
    chk v1 133 (
    nm (v1 + Int32.ofInt 1) fun x21 =>
    J_X10_tries_L2 t_now nf (upd t_tried v1.toNatClampNeg x19) x21)))
def J_X10_tries (t_now : Nat → Int32) (t_tried : Nat → Int32) : Option ((Nat → Int32)) :=
    J_X10_tries_L2 t_now FU t_tried (0 : Int32)
abbrev rmX10_tries : Room := { frames := 0, cells := 0, slots := 0, locals := 0 }
set_option maxHeartbeats 4000000 in
set_option maxRecDepth 100000 in
theorem c_X10_tries (l : Launch) (D : va_G) (cI cJ cC cL : ClassId) (q_t q_t_now q_t_tried q_t_thought q_t_kept q_t_saved q_t_finds q_t_reach q_t_steps q_t_glows q_t_lower q_t_upper q_t_line q_t_text q_t_told q_t_why q_t_more : Nat) (t_undos : Int32) (t_isSaved : Int32) (t_lined : Int32) (t_length : Int32) (t_at : Int32) (t_order : Int32) (t_whys : Int32) (t_answer : Int32) (t_now : Nat → Int32) (t_tried : Nat → Int32) (o_t_tried : Nat → Int32) (hJ : J_X10_tries t_now t_tried = some (o_t_tried)) (sz : Nat) : Met l yX10_tries wsX10_tries rmX10_tries (va_Pc [.ref q_t] (jpre XT D (tyL cI cJ cC cL) [(q_t, .inr (8, [.ref q_t_now, .ref q_t_tried, .ref q_t_thought, .ref q_t_kept, .int t_undos, .ref q_t_saved, .int t_isSaved, .ref q_t_finds, .ref q_t_reach, .ref q_t_steps, .ref q_t_glows, .ref q_t_lower, .ref q_t_upper, .ref q_t_line, .int t_lined, .ref q_t_text, .int t_length, .int t_at, .int t_order, .ref q_t_told, .ref q_t_why, .ref q_t_more, .int t_whys, .int t_answer])), (q_t_now, .inl (cI, 133, .inl t_now)), (q_t_tried, .inl (cI, 133, .inl t_tried))] sz)) (va_Qv (fun (_ : Unit) => True) (fun _ t => jpost D (tyL cI cJ cC cL) (va_A [(q_t, .inr (8, [.ref q_t_now, .ref q_t_tried, .ref q_t_thought, .ref q_t_kept, .int t_undos, .ref q_t_saved, .int t_isSaved, .ref q_t_finds, .ref q_t_reach, .ref q_t_steps, .ref q_t_glows, .ref q_t_lower, .ref q_t_upper, .ref q_t_line, .int t_lined, .ref q_t_text, .int t_length, .int t_at, .int t_order, .ref q_t_told, .ref q_t_why, .ref q_t_more, .int t_whys, .int t_answer])), (q_t_now, .inl (cI, 133, .inl t_now)), (q_t_tried, .inl (cI, 133, .inl t_tried))] sz) [(q_t, .inr (8, [.ref q_t_now, .ref q_t_tried, .ref q_t_thought, .ref q_t_kept, .int t_undos, .ref q_t_saved, .int t_isSaved, .ref q_t_finds, .ref q_t_reach, .ref q_t_steps, .ref q_t_glows, .ref q_t_lower, .ref q_t_upper, .ref q_t_line, .int t_lined, .ref q_t_text, .int t_length, .int t_at, .int t_order, .ref q_t_told, .ref q_t_why, .ref q_t_more, .int t_whys, .int t_answer])), (q_t_now, .inl (cI, 133, .inl t_now)), (q_t_tried, .inl (cI, 133, .inl o_t_tried))] t) (va_A [(q_t, .inr (8, [.ref q_t_now, .ref q_t_tried, .ref q_t_thought, .ref q_t_kept, .int t_undos, .ref q_t_saved, .int t_isSaved, .ref q_t_finds, .ref q_t_reach, .ref q_t_steps, .ref q_t_glows, .ref q_t_lower, .ref q_t_upper, .ref q_t_line, .int t_lined, .ref q_t_text, .int t_length, .int t_at, .int t_order, .ref q_t_told, .ref q_t_why, .ref q_t_more, .int t_whys, .int t_answer])), (q_t_now, .inl (cI, 133, .inl t_now)), (q_t_tried, .inl (cI, 133, .inl t_tried))] sz)) 0 0 (va_A [(q_t, .inr (8, [.ref q_t_now, .ref q_t_tried, .ref q_t_thought, .ref q_t_kept, .int t_undos, .ref q_t_saved, .int t_isSaved, .ref q_t_finds, .ref q_t_reach, .ref q_t_steps, .ref q_t_glows, .ref q_t_lower, .ref q_t_upper, .ref q_t_line, .int t_lined, .ref q_t_text, .int t_length, .int t_at, .int t_order, .ref q_t_told, .ref q_t_why, .ref q_t_more, .int t_whys, .int t_answer])), (q_t_now, .inl (cI, 133, .inl t_now)), (q_t_tried, .inl (cI, 133, .inl t_tried))] sz) := by
  refine jE_v (cc := cX10_tries) (maxL := 2) (own := RX10) (ret := none) (lv0 := [(0, .ref q_t)]) (by decide) rfl rfl rfl (Nat.le_of_ble_eq_true rfl) rfl ?_
  intro p e s m args below meth c A Q ls hx hb hml hown hts hK hN hX hA hP hD hS hl hRet
  have hF : CallFix p m c cX10_tries 2 s args wsX10_tries RX10 := ⟨hx, hb, hml, hown, hts⟩
  have fl_9 := hts (.fieldLink RX10 9 "LanternLogicModel" "now" "[I") (by decide +kernel)
  have fl_13 := hts (.fieldLink RX10 13 "LanternLogicModel" "tried" "[I") (by decide +kernel)
  have hin_X10 : ∀ w ∈ u_ws RX10 TX10 24, w ∈ wsX10_tries := by decide +kernel
  have L2 : ∀ (nf : Nat), ∀ (t_tried : Nat → Int32) (v1 : Int32) (H : Heap) (locs : List Loc), va_P D vwCl [(q_t, .inr (8, [.ref q_t_now, .ref q_t_tried, .ref q_t_thought, .ref q_t_kept, .int t_undos, .ref q_t_saved, .int t_isSaved, .ref q_t_finds, .ref q_t_reach, .ref q_t_steps, .ref q_t_glows, .ref q_t_lower, .ref q_t_upper, .ref q_t_line, .int t_lined, .ref q_t_text, .int t_length, .int t_at, .int t_order, .ref q_t_told, .ref q_t_why, .ref q_t_more, .int t_whys, .int t_answer])), (q_t_now, .inl (cI, 133, .inl t_now)), (q_t_tried, .inl (cI, 133, .inl t_tried))] H → va_D A [(q_t, .inr (8, [.ref q_t_now, .ref q_t_tried, .ref q_t_thought, .ref q_t_kept, .int t_undos, .ref q_t_saved, .int t_isSaved, .ref q_t_finds, .ref q_t_reach, .ref q_t_steps, .ref q_t_glows, .ref q_t_lower, .ref q_t_upper, .ref q_t_line, .int t_lined, .ref q_t_text, .int t_length, .int t_at, .int t_order, .ref q_t_told, .ref q_t_why, .ref q_t_more, .int t_whys, .int t_answer])), (q_t_now, .inl (cI, 133, .inl t_now)), (q_t_tried, .inl (cI, 133, .inl t_tried))] → va_S A s.heap H locs → ∀ ls : Array Slot, lv_has ls 2 [(0, .ref q_t), (1, .int v1)] → J_X10_tries_L2  t_now nf t_tried v1 = some (o_t_tried) → W p l e rmX10_tries s m args below meth c H locs 0 0 Q (F0 m 2 ls []) := by
    intro nf
    induction nf with
    | zero =>
      intro t_tried v1 H locs hP hD hS ls hl hJ
      rw [J_X10_tries_L2] at hJ
      cases hJ
    | succ nf ih =>
      intro t_tried v1 H locs hP hD hS ls hl hJ
      rw [J_X10_tries_L2] at hJ
      refine lv_iload_n hx hb dX10_tries_2 rfl (lv_at hl 1 rfl) ?_
      refine lv_sipush (v := (133 : Int32)) hx hb dX10_tries_3 (by decide) ?_
      refine jif_icmp_ge (tgt := 27) hx hb dX10_tries_6 (by decide) hJ (fun hJ => ?_) (fun hJ => ?_)
      · have e0 := Option.some.inj hJ
        exact hRet (by rw [← e0]; exact hP) (by rw [← e0]; exact hD) hS dX10_tries_27
      · refine lv_aload_n hx hb dX10_tries_9 rfl (lv_at hl 0 rfl) ?_
        refine va_get (ci := 8) (v := .ref q_t_tried) (C := RX10) (T := TX10) (N := 24) hx hb hts hin_X10 hown hK hP 0 rfl rfl 1 (by decide) fl_13 (fun _ h9 => h9) rfl dX10_tries_10 ?_
        refine lv_iload_n hx hb dX10_tries_13 rfl (lv_at hl 1 rfl) ?_
        refine lv_aload_n hx hb dX10_tries_14 rfl (lv_at hl 0 rfl) ?_
        refine va_get (ci := 8) (v := .ref q_t_now) (C := RX10) (T := TX10) (N := 24) hx hb hts hin_X10 hown hK hP 0 rfl rfl 0 (by decide) fl_9 (fun _ h9 => h9) rfl dX10_tries_15 ?_
        refine lv_iload_n hx hb dX10_tries_18 rfl (lv_at hl 1 rfl) ?_
        obtain ⟨hin, hJ⟩ := chk_in hJ
        refine va_iald hx hb hK hP 1 0 rfl rfl hin dX10_tries_19 ?_
        refine jt_i hJ (fun x19 hJ => ?_)
        obtain ⟨hin, hJ⟩ := chk_in hJ
        refine va_iast hx hb hK hP hD hS 2 0 rfl rfl hin dX10_tries_20 (fun H locs hP hD hS => ?_)
        have hP : va_P D vwCl [(q_t, .inr (8, [.ref q_t_now, .ref q_t_tried, .ref q_t_thought, .ref q_t_kept, .int t_undos, .ref q_t_saved, .int t_isSaved, .ref q_t_finds, .ref q_t_reach, .ref q_t_steps, .ref q_t_glows, .ref q_t_lower, .ref q_t_upper, .ref q_t_line, .int t_lined, .ref q_t_text, .int t_length, .int t_at, .int t_order, .ref q_t_told, .ref q_t_why, .ref q_t_more, .int t_whys, .int t_answer])), (q_t_now, .inl (cI, 133, .inl t_now)), (q_t_tried, .inl (cI, 133, .inl (upd t_tried v1.toNatClampNeg x19)))] H := hP
        have hD : va_D A [(q_t, .inr (8, [.ref q_t_now, .ref q_t_tried, .ref q_t_thought, .ref q_t_kept, .int t_undos, .ref q_t_saved, .int t_isSaved, .ref q_t_finds, .ref q_t_reach, .ref q_t_steps, .ref q_t_glows, .ref q_t_lower, .ref q_t_upper, .ref q_t_line, .int t_lined, .ref q_t_text, .int t_length, .int t_at, .int t_order, .ref q_t_told, .ref q_t_why, .ref q_t_more, .int t_whys, .int t_answer])), (q_t_now, .inl (cI, 133, .inl t_now)), (q_t_tried, .inl (cI, 133, .inl (upd t_tried v1.toNatClampNeg x19)))] := hD
        refine jt_iinc hJ (fun x21 ex21 hJ => ?_)
        refine lv_iinc (v := x21) (lv' := [(1, .int x21), (0, .ref q_t)]) hx hb dX10_tries_21 hl (k := 1) rfl ex21 (by decide) rfl (fun ls hl => ?_)
        refine lv_goto (tgt := 2) hx hb dX10_tries_24 (by decide) ?_
        exact ih (upd t_tried v1.toNatClampNeg x19) x21  H locs  hP hD hS _ (lv_sub hl [1, 0] rfl) hJ
  unfold J_X10_tries at hJ
  refine lv_iconst (v := (0 : Int32)) hx hb dX10_tries_0 (by decide) ?_
  refine lv_istore_n (lv' := [(1, .int (0 : Int32)), (0, .ref q_t)]) hx hb dX10_tries_1 rfl hl (by decide) rfl (fun ls hl => ?_)
  exact L2  FU t_tried (0 : Int32)  s.heap []  hP hD hS _ (lv_sub hl [1, 0] rfl) hJ

def J_X10_comesBack_L2 (t_tried : Nat → Int32) : Nat → (Nat → Int32) → Int32 → Option ((Nat → Int32))
  | 0, _, _ => none
  | nf + 1, t_now, v1 =>
    if (133 : Int32) ≤ v1 then (
    some (t_now))
    else (
    chk v1 133 (
    nm (t_tried v1.toNatClampNeg) fun x19 =>
    chk v1 133 (
    nm (v1 + Int32.ofInt 1) fun x21 =>
    J_X10_comesBack_L2 t_tried nf (upd t_now v1.toNatClampNeg x19) x21)))
def J_X10_comesBack (t_now : Nat → Int32) (t_tried : Nat → Int32) : Option ((Nat → Int32)) :=
    J_X10_comesBack_L2 t_tried FU t_now (0 : Int32)
abbrev rmX10_comesBack : Room := { frames := 0, cells := 0, slots := 0, locals := 0 }
set_option maxHeartbeats 4000000 in
set_option maxRecDepth 100000 in
theorem c_X10_comesBack (l : Launch) (D : va_G) (cI cJ cC cL : ClassId) (q_t q_t_now q_t_tried q_t_thought q_t_kept q_t_saved q_t_finds q_t_reach q_t_steps q_t_glows q_t_lower q_t_upper q_t_line q_t_text q_t_told q_t_why q_t_more : Nat) (t_undos : Int32) (t_isSaved : Int32) (t_lined : Int32) (t_length : Int32) (t_at : Int32) (t_order : Int32) (t_whys : Int32) (t_answer : Int32) (t_now : Nat → Int32) (t_tried : Nat → Int32) (o_t_now : Nat → Int32) (hJ : J_X10_comesBack t_now t_tried = some (o_t_now)) (sz : Nat) : Met l yX10_comesBack wsX10_comesBack rmX10_comesBack (va_Pc [.ref q_t] (jpre XT D (tyL cI cJ cC cL) [(q_t, .inr (8, [.ref q_t_now, .ref q_t_tried, .ref q_t_thought, .ref q_t_kept, .int t_undos, .ref q_t_saved, .int t_isSaved, .ref q_t_finds, .ref q_t_reach, .ref q_t_steps, .ref q_t_glows, .ref q_t_lower, .ref q_t_upper, .ref q_t_line, .int t_lined, .ref q_t_text, .int t_length, .int t_at, .int t_order, .ref q_t_told, .ref q_t_why, .ref q_t_more, .int t_whys, .int t_answer])), (q_t_now, .inl (cI, 133, .inl t_now)), (q_t_tried, .inl (cI, 133, .inl t_tried))] sz)) (va_Qv (fun (_ : Unit) => True) (fun _ t => jpost D (tyL cI cJ cC cL) (va_A [(q_t, .inr (8, [.ref q_t_now, .ref q_t_tried, .ref q_t_thought, .ref q_t_kept, .int t_undos, .ref q_t_saved, .int t_isSaved, .ref q_t_finds, .ref q_t_reach, .ref q_t_steps, .ref q_t_glows, .ref q_t_lower, .ref q_t_upper, .ref q_t_line, .int t_lined, .ref q_t_text, .int t_length, .int t_at, .int t_order, .ref q_t_told, .ref q_t_why, .ref q_t_more, .int t_whys, .int t_answer])), (q_t_now, .inl (cI, 133, .inl t_now)), (q_t_tried, .inl (cI, 133, .inl t_tried))] sz) [(q_t, .inr (8, [.ref q_t_now, .ref q_t_tried, .ref q_t_thought, .ref q_t_kept, .int t_undos, .ref q_t_saved, .int t_isSaved, .ref q_t_finds, .ref q_t_reach, .ref q_t_steps, .ref q_t_glows, .ref q_t_lower, .ref q_t_upper, .ref q_t_line, .int t_lined, .ref q_t_text, .int t_length, .int t_at, .int t_order, .ref q_t_told, .ref q_t_why, .ref q_t_more, .int t_whys, .int t_answer])), (q_t_now, .inl (cI, 133, .inl o_t_now)), (q_t_tried, .inl (cI, 133, .inl t_tried))] t) (va_A [(q_t, .inr (8, [.ref q_t_now, .ref q_t_tried, .ref q_t_thought, .ref q_t_kept, .int t_undos, .ref q_t_saved, .int t_isSaved, .ref q_t_finds, .ref q_t_reach, .ref q_t_steps, .ref q_t_glows, .ref q_t_lower, .ref q_t_upper, .ref q_t_line, .int t_lined, .ref q_t_text, .int t_length, .int t_at, .int t_order, .ref q_t_told, .ref q_t_why, .ref q_t_more, .int t_whys, .int t_answer])), (q_t_now, .inl (cI, 133, .inl t_now)), (q_t_tried, .inl (cI, 133, .inl t_tried))] sz)) 0 0 (va_A [(q_t, .inr (8, [.ref q_t_now, .ref q_t_tried, .ref q_t_thought, .ref q_t_kept, .int t_undos, .ref q_t_saved, .int t_isSaved, .ref q_t_finds, .ref q_t_reach, .ref q_t_steps, .ref q_t_glows, .ref q_t_lower, .ref q_t_upper, .ref q_t_line, .int t_lined, .ref q_t_text, .int t_length, .int t_at, .int t_order, .ref q_t_told, .ref q_t_why, .ref q_t_more, .int t_whys, .int t_answer])), (q_t_now, .inl (cI, 133, .inl t_now)), (q_t_tried, .inl (cI, 133, .inl t_tried))] sz) := by
  refine jE_v (cc := cX10_comesBack) (maxL := 2) (own := RX10) (ret := none) (lv0 := [(0, .ref q_t)]) (by decide) rfl rfl rfl (Nat.le_of_ble_eq_true rfl) rfl ?_
  intro p e s m args below meth c A Q ls hx hb hml hown hts hK hN hX hA hP hD hS hl hRet
  have hF : CallFix p m c cX10_comesBack 2 s args wsX10_comesBack RX10 := ⟨hx, hb, hml, hown, hts⟩
  have fl_9 := hts (.fieldLink RX10 9 "LanternLogicModel" "now" "[I") (by decide +kernel)
  have fl_13 := hts (.fieldLink RX10 13 "LanternLogicModel" "tried" "[I") (by decide +kernel)
  have hin_X10 : ∀ w ∈ u_ws RX10 TX10 24, w ∈ wsX10_comesBack := by decide +kernel
  have L2 : ∀ (nf : Nat), ∀ (t_now : Nat → Int32) (v1 : Int32) (H : Heap) (locs : List Loc), va_P D vwCl [(q_t, .inr (8, [.ref q_t_now, .ref q_t_tried, .ref q_t_thought, .ref q_t_kept, .int t_undos, .ref q_t_saved, .int t_isSaved, .ref q_t_finds, .ref q_t_reach, .ref q_t_steps, .ref q_t_glows, .ref q_t_lower, .ref q_t_upper, .ref q_t_line, .int t_lined, .ref q_t_text, .int t_length, .int t_at, .int t_order, .ref q_t_told, .ref q_t_why, .ref q_t_more, .int t_whys, .int t_answer])), (q_t_now, .inl (cI, 133, .inl t_now)), (q_t_tried, .inl (cI, 133, .inl t_tried))] H → va_D A [(q_t, .inr (8, [.ref q_t_now, .ref q_t_tried, .ref q_t_thought, .ref q_t_kept, .int t_undos, .ref q_t_saved, .int t_isSaved, .ref q_t_finds, .ref q_t_reach, .ref q_t_steps, .ref q_t_glows, .ref q_t_lower, .ref q_t_upper, .ref q_t_line, .int t_lined, .ref q_t_text, .int t_length, .int t_at, .int t_order, .ref q_t_told, .ref q_t_why, .ref q_t_more, .int t_whys, .int t_answer])), (q_t_now, .inl (cI, 133, .inl t_now)), (q_t_tried, .inl (cI, 133, .inl t_tried))] → va_S A s.heap H locs → ∀ ls : Array Slot, lv_has ls 2 [(0, .ref q_t), (1, .int v1)] → J_X10_comesBack_L2  t_tried nf t_now v1 = some (o_t_now) → W p l e rmX10_comesBack s m args below meth c H locs 0 0 Q (F0 m 2 ls []) := by
    intro nf
    induction nf with
    | zero =>
      intro t_now v1 H locs hP hD hS ls hl hJ
      rw [J_X10_comesBack_L2] at hJ
      cases hJ
    | succ nf ih =>
      intro t_now v1 H locs hP hD hS ls hl hJ
      rw [J_X10_comesBack_L2] at hJ
      refine lv_iload_n hx hb dX10_comesBack_2 rfl (lv_at hl 1 rfl) ?_
      refine lv_sipush (v := (133 : Int32)) hx hb dX10_comesBack_3 (by decide) ?_
      refine jif_icmp_ge (tgt := 27) hx hb dX10_comesBack_6 (by decide) hJ (fun hJ => ?_) (fun hJ => ?_)
      · have e0 := Option.some.inj hJ
        exact hRet (by rw [← e0]; exact hP) (by rw [← e0]; exact hD) hS dX10_comesBack_27
      · refine lv_aload_n hx hb dX10_comesBack_9 rfl (lv_at hl 0 rfl) ?_
        refine va_get (ci := 8) (v := .ref q_t_now) (C := RX10) (T := TX10) (N := 24) hx hb hts hin_X10 hown hK hP 0 rfl rfl 0 (by decide) fl_9 (fun _ h9 => h9) rfl dX10_comesBack_10 ?_
        refine lv_iload_n hx hb dX10_comesBack_13 rfl (lv_at hl 1 rfl) ?_
        refine lv_aload_n hx hb dX10_comesBack_14 rfl (lv_at hl 0 rfl) ?_
        refine va_get (ci := 8) (v := .ref q_t_tried) (C := RX10) (T := TX10) (N := 24) hx hb hts hin_X10 hown hK hP 0 rfl rfl 1 (by decide) fl_13 (fun _ h9 => h9) rfl dX10_comesBack_15 ?_
        refine lv_iload_n hx hb dX10_comesBack_18 rfl (lv_at hl 1 rfl) ?_
        obtain ⟨hin, hJ⟩ := chk_in hJ
        refine va_iald hx hb hK hP 2 0 rfl rfl hin dX10_comesBack_19 ?_
        refine jt_i hJ (fun x19 hJ => ?_)
        obtain ⟨hin, hJ⟩ := chk_in hJ
        refine va_iast hx hb hK hP hD hS 1 0 rfl rfl hin dX10_comesBack_20 (fun H locs hP hD hS => ?_)
        have hP : va_P D vwCl [(q_t, .inr (8, [.ref q_t_now, .ref q_t_tried, .ref q_t_thought, .ref q_t_kept, .int t_undos, .ref q_t_saved, .int t_isSaved, .ref q_t_finds, .ref q_t_reach, .ref q_t_steps, .ref q_t_glows, .ref q_t_lower, .ref q_t_upper, .ref q_t_line, .int t_lined, .ref q_t_text, .int t_length, .int t_at, .int t_order, .ref q_t_told, .ref q_t_why, .ref q_t_more, .int t_whys, .int t_answer])), (q_t_now, .inl (cI, 133, .inl (upd t_now v1.toNatClampNeg x19))), (q_t_tried, .inl (cI, 133, .inl t_tried))] H := hP
        have hD : va_D A [(q_t, .inr (8, [.ref q_t_now, .ref q_t_tried, .ref q_t_thought, .ref q_t_kept, .int t_undos, .ref q_t_saved, .int t_isSaved, .ref q_t_finds, .ref q_t_reach, .ref q_t_steps, .ref q_t_glows, .ref q_t_lower, .ref q_t_upper, .ref q_t_line, .int t_lined, .ref q_t_text, .int t_length, .int t_at, .int t_order, .ref q_t_told, .ref q_t_why, .ref q_t_more, .int t_whys, .int t_answer])), (q_t_now, .inl (cI, 133, .inl (upd t_now v1.toNatClampNeg x19))), (q_t_tried, .inl (cI, 133, .inl t_tried))] := hD
        refine jt_iinc hJ (fun x21 ex21 hJ => ?_)
        refine lv_iinc (v := x21) (lv' := [(1, .int x21), (0, .ref q_t)]) hx hb dX10_comesBack_21 hl (k := 1) rfl ex21 (by decide) rfl (fun ls hl => ?_)
        refine lv_goto (tgt := 2) hx hb dX10_comesBack_24 (by decide) ?_
        exact ih (upd t_now v1.toNatClampNeg x19) x21  H locs  hP hD hS _ (lv_sub hl [1, 0] rfl) hJ
  unfold J_X10_comesBack at hJ
  refine lv_iconst (v := (0 : Int32)) hx hb dX10_comesBack_0 (by decide) ?_
  refine lv_istore_n (lv' := [(1, .int (0 : Int32)), (0, .ref q_t)]) hx hb dX10_comesBack_1 rfl hl (by decide) rfl (fun ls hl => ?_)
  exact L2  FU t_now (0 : Int32)  s.heap []  hP hD hS _ (lv_sub hl [1, 0] rfl) hJ

def J_X10_thinks_L2 (t_now : Nat → Int32) : Nat → (Nat → Int32) → Int32 → Option ((Nat → Int32))
  | 0, _, _ => none
  | nf + 1, t_thought, v1 =>
    if (133 : Int32) ≤ v1 then (
    some (t_thought))
    else (
    chk v1 133 (
    nm (t_now v1.toNatClampNeg) fun x19 =>
    chk v1 133 (
    nm (v1 + Int32.ofInt 1) fun x21 =>
    J_X10_thinks_L2 t_now nf (upd t_thought v1.toNatClampNeg x19) x21)))
def J_X10_thinks (t_now : Nat → Int32) (t_thought : Nat → Int32) : Option ((Nat → Int32)) :=
    J_X10_thinks_L2 t_now FU t_thought (0 : Int32)
abbrev rmX10_thinks : Room := { frames := 0, cells := 0, slots := 0, locals := 0 }
set_option maxHeartbeats 4000000 in
set_option maxRecDepth 100000 in
theorem c_X10_thinks (l : Launch) (D : va_G) (cI cJ cC cL : ClassId) (q_t q_t_now q_t_tried q_t_thought q_t_kept q_t_saved q_t_finds q_t_reach q_t_steps q_t_glows q_t_lower q_t_upper q_t_line q_t_text q_t_told q_t_why q_t_more : Nat) (t_undos : Int32) (t_isSaved : Int32) (t_lined : Int32) (t_length : Int32) (t_at : Int32) (t_order : Int32) (t_whys : Int32) (t_answer : Int32) (t_now : Nat → Int32) (t_thought : Nat → Int32) (o_t_thought : Nat → Int32) (hJ : J_X10_thinks t_now t_thought = some (o_t_thought)) (sz : Nat) : Met l yX10_thinks wsX10_thinks rmX10_thinks (va_Pc [.ref q_t] (jpre XT D (tyL cI cJ cC cL) [(q_t, .inr (8, [.ref q_t_now, .ref q_t_tried, .ref q_t_thought, .ref q_t_kept, .int t_undos, .ref q_t_saved, .int t_isSaved, .ref q_t_finds, .ref q_t_reach, .ref q_t_steps, .ref q_t_glows, .ref q_t_lower, .ref q_t_upper, .ref q_t_line, .int t_lined, .ref q_t_text, .int t_length, .int t_at, .int t_order, .ref q_t_told, .ref q_t_why, .ref q_t_more, .int t_whys, .int t_answer])), (q_t_now, .inl (cI, 133, .inl t_now)), (q_t_thought, .inl (cI, 133, .inl t_thought))] sz)) (va_Qv (fun (_ : Unit) => True) (fun _ t => jpost D (tyL cI cJ cC cL) (va_A [(q_t, .inr (8, [.ref q_t_now, .ref q_t_tried, .ref q_t_thought, .ref q_t_kept, .int t_undos, .ref q_t_saved, .int t_isSaved, .ref q_t_finds, .ref q_t_reach, .ref q_t_steps, .ref q_t_glows, .ref q_t_lower, .ref q_t_upper, .ref q_t_line, .int t_lined, .ref q_t_text, .int t_length, .int t_at, .int t_order, .ref q_t_told, .ref q_t_why, .ref q_t_more, .int t_whys, .int t_answer])), (q_t_now, .inl (cI, 133, .inl t_now)), (q_t_thought, .inl (cI, 133, .inl t_thought))] sz) [(q_t, .inr (8, [.ref q_t_now, .ref q_t_tried, .ref q_t_thought, .ref q_t_kept, .int t_undos, .ref q_t_saved, .int t_isSaved, .ref q_t_finds, .ref q_t_reach, .ref q_t_steps, .ref q_t_glows, .ref q_t_lower, .ref q_t_upper, .ref q_t_line, .int t_lined, .ref q_t_text, .int t_length, .int t_at, .int t_order, .ref q_t_told, .ref q_t_why, .ref q_t_more, .int t_whys, .int t_answer])), (q_t_now, .inl (cI, 133, .inl t_now)), (q_t_thought, .inl (cI, 133, .inl o_t_thought))] t) (va_A [(q_t, .inr (8, [.ref q_t_now, .ref q_t_tried, .ref q_t_thought, .ref q_t_kept, .int t_undos, .ref q_t_saved, .int t_isSaved, .ref q_t_finds, .ref q_t_reach, .ref q_t_steps, .ref q_t_glows, .ref q_t_lower, .ref q_t_upper, .ref q_t_line, .int t_lined, .ref q_t_text, .int t_length, .int t_at, .int t_order, .ref q_t_told, .ref q_t_why, .ref q_t_more, .int t_whys, .int t_answer])), (q_t_now, .inl (cI, 133, .inl t_now)), (q_t_thought, .inl (cI, 133, .inl t_thought))] sz)) 0 0 (va_A [(q_t, .inr (8, [.ref q_t_now, .ref q_t_tried, .ref q_t_thought, .ref q_t_kept, .int t_undos, .ref q_t_saved, .int t_isSaved, .ref q_t_finds, .ref q_t_reach, .ref q_t_steps, .ref q_t_glows, .ref q_t_lower, .ref q_t_upper, .ref q_t_line, .int t_lined, .ref q_t_text, .int t_length, .int t_at, .int t_order, .ref q_t_told, .ref q_t_why, .ref q_t_more, .int t_whys, .int t_answer])), (q_t_now, .inl (cI, 133, .inl t_now)), (q_t_thought, .inl (cI, 133, .inl t_thought))] sz) := by
  refine jE_v (cc := cX10_thinks) (maxL := 2) (own := RX10) (ret := none) (lv0 := [(0, .ref q_t)]) (by decide) rfl rfl rfl (Nat.le_of_ble_eq_true rfl) rfl ?_
  intro p e s m args below meth c A Q ls hx hb hml hown hts hK hN hX hA hP hD hS hl hRet
  have hF : CallFix p m c cX10_thinks 2 s args wsX10_thinks RX10 := ⟨hx, hb, hml, hown, hts⟩
  have fl_9 := hts (.fieldLink RX10 9 "LanternLogicModel" "now" "[I") (by decide +kernel)
  have fl_16 := hts (.fieldLink RX10 16 "LanternLogicModel" "thought" "[I") (by decide +kernel)
  have hin_X10 : ∀ w ∈ u_ws RX10 TX10 24, w ∈ wsX10_thinks := by decide +kernel
  have L2 : ∀ (nf : Nat), ∀ (t_thought : Nat → Int32) (v1 : Int32) (H : Heap) (locs : List Loc), va_P D vwCl [(q_t, .inr (8, [.ref q_t_now, .ref q_t_tried, .ref q_t_thought, .ref q_t_kept, .int t_undos, .ref q_t_saved, .int t_isSaved, .ref q_t_finds, .ref q_t_reach, .ref q_t_steps, .ref q_t_glows, .ref q_t_lower, .ref q_t_upper, .ref q_t_line, .int t_lined, .ref q_t_text, .int t_length, .int t_at, .int t_order, .ref q_t_told, .ref q_t_why, .ref q_t_more, .int t_whys, .int t_answer])), (q_t_now, .inl (cI, 133, .inl t_now)), (q_t_thought, .inl (cI, 133, .inl t_thought))] H → va_D A [(q_t, .inr (8, [.ref q_t_now, .ref q_t_tried, .ref q_t_thought, .ref q_t_kept, .int t_undos, .ref q_t_saved, .int t_isSaved, .ref q_t_finds, .ref q_t_reach, .ref q_t_steps, .ref q_t_glows, .ref q_t_lower, .ref q_t_upper, .ref q_t_line, .int t_lined, .ref q_t_text, .int t_length, .int t_at, .int t_order, .ref q_t_told, .ref q_t_why, .ref q_t_more, .int t_whys, .int t_answer])), (q_t_now, .inl (cI, 133, .inl t_now)), (q_t_thought, .inl (cI, 133, .inl t_thought))] → va_S A s.heap H locs → ∀ ls : Array Slot, lv_has ls 2 [(0, .ref q_t), (1, .int v1)] → J_X10_thinks_L2  t_now nf t_thought v1 = some (o_t_thought) → W p l e rmX10_thinks s m args below meth c H locs 0 0 Q (F0 m 2 ls []) := by
    intro nf
    induction nf with
    | zero =>
      intro t_thought v1 H locs hP hD hS ls hl hJ
      rw [J_X10_thinks_L2] at hJ
      cases hJ
    | succ nf ih =>
      intro t_thought v1 H locs hP hD hS ls hl hJ
      rw [J_X10_thinks_L2] at hJ
      refine lv_iload_n hx hb dX10_thinks_2 rfl (lv_at hl 1 rfl) ?_
      refine lv_sipush (v := (133 : Int32)) hx hb dX10_thinks_3 (by decide) ?_
      refine jif_icmp_ge (tgt := 27) hx hb dX10_thinks_6 (by decide) hJ (fun hJ => ?_) (fun hJ => ?_)
      · have e0 := Option.some.inj hJ
        exact hRet (by rw [← e0]; exact hP) (by rw [← e0]; exact hD) hS dX10_thinks_27
      · refine lv_aload_n hx hb dX10_thinks_9 rfl (lv_at hl 0 rfl) ?_
        refine va_get (ci := 8) (v := .ref q_t_thought) (C := RX10) (T := TX10) (N := 24) hx hb hts hin_X10 hown hK hP 0 rfl rfl 2 (by decide) fl_16 (fun _ h9 => h9) rfl dX10_thinks_10 ?_
        refine lv_iload_n hx hb dX10_thinks_13 rfl (lv_at hl 1 rfl) ?_
        refine lv_aload_n hx hb dX10_thinks_14 rfl (lv_at hl 0 rfl) ?_
        refine va_get (ci := 8) (v := .ref q_t_now) (C := RX10) (T := TX10) (N := 24) hx hb hts hin_X10 hown hK hP 0 rfl rfl 0 (by decide) fl_9 (fun _ h9 => h9) rfl dX10_thinks_15 ?_
        refine lv_iload_n hx hb dX10_thinks_18 rfl (lv_at hl 1 rfl) ?_
        obtain ⟨hin, hJ⟩ := chk_in hJ
        refine va_iald hx hb hK hP 1 0 rfl rfl hin dX10_thinks_19 ?_
        refine jt_i hJ (fun x19 hJ => ?_)
        obtain ⟨hin, hJ⟩ := chk_in hJ
        refine va_iast hx hb hK hP hD hS 2 0 rfl rfl hin dX10_thinks_20 (fun H locs hP hD hS => ?_)
        have hP : va_P D vwCl [(q_t, .inr (8, [.ref q_t_now, .ref q_t_tried, .ref q_t_thought, .ref q_t_kept, .int t_undos, .ref q_t_saved, .int t_isSaved, .ref q_t_finds, .ref q_t_reach, .ref q_t_steps, .ref q_t_glows, .ref q_t_lower, .ref q_t_upper, .ref q_t_line, .int t_lined, .ref q_t_text, .int t_length, .int t_at, .int t_order, .ref q_t_told, .ref q_t_why, .ref q_t_more, .int t_whys, .int t_answer])), (q_t_now, .inl (cI, 133, .inl t_now)), (q_t_thought, .inl (cI, 133, .inl (upd t_thought v1.toNatClampNeg x19)))] H := hP
        have hD : va_D A [(q_t, .inr (8, [.ref q_t_now, .ref q_t_tried, .ref q_t_thought, .ref q_t_kept, .int t_undos, .ref q_t_saved, .int t_isSaved, .ref q_t_finds, .ref q_t_reach, .ref q_t_steps, .ref q_t_glows, .ref q_t_lower, .ref q_t_upper, .ref q_t_line, .int t_lined, .ref q_t_text, .int t_length, .int t_at, .int t_order, .ref q_t_told, .ref q_t_why, .ref q_t_more, .int t_whys, .int t_answer])), (q_t_now, .inl (cI, 133, .inl t_now)), (q_t_thought, .inl (cI, 133, .inl (upd t_thought v1.toNatClampNeg x19)))] := hD
        refine jt_iinc hJ (fun x21 ex21 hJ => ?_)
        refine lv_iinc (v := x21) (lv' := [(1, .int x21), (0, .ref q_t)]) hx hb dX10_thinks_21 hl (k := 1) rfl ex21 (by decide) rfl (fun ls hl => ?_)
        refine lv_goto (tgt := 2) hx hb dX10_thinks_24 (by decide) ?_
        exact ih (upd t_thought v1.toNatClampNeg x19) x21  H locs  hP hD hS _ (lv_sub hl [1, 0] rfl) hJ
  unfold J_X10_thinks at hJ
  refine lv_iconst (v := (0 : Int32)) hx hb dX10_thinks_0 (by decide) ?_
  refine lv_istore_n (lv' := [(1, .int (0 : Int32)), (0, .ref q_t)]) hx hb dX10_thinks_1 rfl hl (by decide) rfl (fun ls hl => ?_)
  exact L2  FU t_thought (0 : Int32)  s.heap []  hP hD hS _ (lv_sub hl [1, 0] rfl) hJ

def J_X10_thinksNoMore_L2 (t_thought : Nat → Int32) : Nat → (Nat → Int32) → Int32 → Option ((Nat → Int32))
  | 0, _, _ => none
  | nf + 1, t_now, v1 =>
    if (133 : Int32) ≤ v1 then (
    some (t_now))
    else (
    chk v1 133 (
    nm (t_thought v1.toNatClampNeg) fun x19 =>
    chk v1 133 (
    nm (v1 + Int32.ofInt 1) fun x21 =>
    J_X10_thinksNoMore_L2 t_thought nf (upd t_now v1.toNatClampNeg x19) x21)))
def J_X10_thinksNoMore (t_now : Nat → Int32) (t_thought : Nat → Int32) : Option ((Nat → Int32)) :=
    J_X10_thinksNoMore_L2 t_thought FU t_now (0 : Int32)
abbrev rmX10_thinksNoMore : Room := { frames := 0, cells := 0, slots := 0, locals := 0 }
set_option maxHeartbeats 4000000 in
set_option maxRecDepth 100000 in
theorem c_X10_thinksNoMore (l : Launch) (D : va_G) (cI cJ cC cL : ClassId) (q_t q_t_now q_t_tried q_t_thought q_t_kept q_t_saved q_t_finds q_t_reach q_t_steps q_t_glows q_t_lower q_t_upper q_t_line q_t_text q_t_told q_t_why q_t_more : Nat) (t_undos : Int32) (t_isSaved : Int32) (t_lined : Int32) (t_length : Int32) (t_at : Int32) (t_order : Int32) (t_whys : Int32) (t_answer : Int32) (t_now : Nat → Int32) (t_thought : Nat → Int32) (o_t_now : Nat → Int32) (hJ : J_X10_thinksNoMore t_now t_thought = some (o_t_now)) (sz : Nat) : Met l yX10_thinksNoMore wsX10_thinksNoMore rmX10_thinksNoMore (va_Pc [.ref q_t] (jpre XT D (tyL cI cJ cC cL) [(q_t, .inr (8, [.ref q_t_now, .ref q_t_tried, .ref q_t_thought, .ref q_t_kept, .int t_undos, .ref q_t_saved, .int t_isSaved, .ref q_t_finds, .ref q_t_reach, .ref q_t_steps, .ref q_t_glows, .ref q_t_lower, .ref q_t_upper, .ref q_t_line, .int t_lined, .ref q_t_text, .int t_length, .int t_at, .int t_order, .ref q_t_told, .ref q_t_why, .ref q_t_more, .int t_whys, .int t_answer])), (q_t_now, .inl (cI, 133, .inl t_now)), (q_t_thought, .inl (cI, 133, .inl t_thought))] sz)) (va_Qv (fun (_ : Unit) => True) (fun _ t => jpost D (tyL cI cJ cC cL) (va_A [(q_t, .inr (8, [.ref q_t_now, .ref q_t_tried, .ref q_t_thought, .ref q_t_kept, .int t_undos, .ref q_t_saved, .int t_isSaved, .ref q_t_finds, .ref q_t_reach, .ref q_t_steps, .ref q_t_glows, .ref q_t_lower, .ref q_t_upper, .ref q_t_line, .int t_lined, .ref q_t_text, .int t_length, .int t_at, .int t_order, .ref q_t_told, .ref q_t_why, .ref q_t_more, .int t_whys, .int t_answer])), (q_t_now, .inl (cI, 133, .inl t_now)), (q_t_thought, .inl (cI, 133, .inl t_thought))] sz) [(q_t, .inr (8, [.ref q_t_now, .ref q_t_tried, .ref q_t_thought, .ref q_t_kept, .int t_undos, .ref q_t_saved, .int t_isSaved, .ref q_t_finds, .ref q_t_reach, .ref q_t_steps, .ref q_t_glows, .ref q_t_lower, .ref q_t_upper, .ref q_t_line, .int t_lined, .ref q_t_text, .int t_length, .int t_at, .int t_order, .ref q_t_told, .ref q_t_why, .ref q_t_more, .int t_whys, .int t_answer])), (q_t_now, .inl (cI, 133, .inl o_t_now)), (q_t_thought, .inl (cI, 133, .inl t_thought))] t) (va_A [(q_t, .inr (8, [.ref q_t_now, .ref q_t_tried, .ref q_t_thought, .ref q_t_kept, .int t_undos, .ref q_t_saved, .int t_isSaved, .ref q_t_finds, .ref q_t_reach, .ref q_t_steps, .ref q_t_glows, .ref q_t_lower, .ref q_t_upper, .ref q_t_line, .int t_lined, .ref q_t_text, .int t_length, .int t_at, .int t_order, .ref q_t_told, .ref q_t_why, .ref q_t_more, .int t_whys, .int t_answer])), (q_t_now, .inl (cI, 133, .inl t_now)), (q_t_thought, .inl (cI, 133, .inl t_thought))] sz)) 0 0 (va_A [(q_t, .inr (8, [.ref q_t_now, .ref q_t_tried, .ref q_t_thought, .ref q_t_kept, .int t_undos, .ref q_t_saved, .int t_isSaved, .ref q_t_finds, .ref q_t_reach, .ref q_t_steps, .ref q_t_glows, .ref q_t_lower, .ref q_t_upper, .ref q_t_line, .int t_lined, .ref q_t_text, .int t_length, .int t_at, .int t_order, .ref q_t_told, .ref q_t_why, .ref q_t_more, .int t_whys, .int t_answer])), (q_t_now, .inl (cI, 133, .inl t_now)), (q_t_thought, .inl (cI, 133, .inl t_thought))] sz) := by
  refine jE_v (cc := cX10_thinksNoMore) (maxL := 2) (own := RX10) (ret := none) (lv0 := [(0, .ref q_t)]) (by decide) rfl rfl rfl (Nat.le_of_ble_eq_true rfl) rfl ?_
  intro p e s m args below meth c A Q ls hx hb hml hown hts hK hN hX hA hP hD hS hl hRet
  have hF : CallFix p m c cX10_thinksNoMore 2 s args wsX10_thinksNoMore RX10 := ⟨hx, hb, hml, hown, hts⟩
  have fl_9 := hts (.fieldLink RX10 9 "LanternLogicModel" "now" "[I") (by decide +kernel)
  have fl_16 := hts (.fieldLink RX10 16 "LanternLogicModel" "thought" "[I") (by decide +kernel)
  have hin_X10 : ∀ w ∈ u_ws RX10 TX10 24, w ∈ wsX10_thinksNoMore := by decide +kernel
  have L2 : ∀ (nf : Nat), ∀ (t_now : Nat → Int32) (v1 : Int32) (H : Heap) (locs : List Loc), va_P D vwCl [(q_t, .inr (8, [.ref q_t_now, .ref q_t_tried, .ref q_t_thought, .ref q_t_kept, .int t_undos, .ref q_t_saved, .int t_isSaved, .ref q_t_finds, .ref q_t_reach, .ref q_t_steps, .ref q_t_glows, .ref q_t_lower, .ref q_t_upper, .ref q_t_line, .int t_lined, .ref q_t_text, .int t_length, .int t_at, .int t_order, .ref q_t_told, .ref q_t_why, .ref q_t_more, .int t_whys, .int t_answer])), (q_t_now, .inl (cI, 133, .inl t_now)), (q_t_thought, .inl (cI, 133, .inl t_thought))] H → va_D A [(q_t, .inr (8, [.ref q_t_now, .ref q_t_tried, .ref q_t_thought, .ref q_t_kept, .int t_undos, .ref q_t_saved, .int t_isSaved, .ref q_t_finds, .ref q_t_reach, .ref q_t_steps, .ref q_t_glows, .ref q_t_lower, .ref q_t_upper, .ref q_t_line, .int t_lined, .ref q_t_text, .int t_length, .int t_at, .int t_order, .ref q_t_told, .ref q_t_why, .ref q_t_more, .int t_whys, .int t_answer])), (q_t_now, .inl (cI, 133, .inl t_now)), (q_t_thought, .inl (cI, 133, .inl t_thought))] → va_S A s.heap H locs → ∀ ls : Array Slot, lv_has ls 2 [(0, .ref q_t), (1, .int v1)] → J_X10_thinksNoMore_L2  t_thought nf t_now v1 = some (o_t_now) → W p l e rmX10_thinksNoMore s m args below meth c H locs 0 0 Q (F0 m 2 ls []) := by
    intro nf
    induction nf with
    | zero =>
      intro t_now v1 H locs hP hD hS ls hl hJ
      rw [J_X10_thinksNoMore_L2] at hJ
      cases hJ
    | succ nf ih =>
      intro t_now v1 H locs hP hD hS ls hl hJ
      rw [J_X10_thinksNoMore_L2] at hJ
      refine lv_iload_n hx hb dX10_thinksNoMore_2 rfl (lv_at hl 1 rfl) ?_
      refine lv_sipush (v := (133 : Int32)) hx hb dX10_thinksNoMore_3 (by decide) ?_
      refine jif_icmp_ge (tgt := 27) hx hb dX10_thinksNoMore_6 (by decide) hJ (fun hJ => ?_) (fun hJ => ?_)
      · have e0 := Option.some.inj hJ
        exact hRet (by rw [← e0]; exact hP) (by rw [← e0]; exact hD) hS dX10_thinksNoMore_27
      · refine lv_aload_n hx hb dX10_thinksNoMore_9 rfl (lv_at hl 0 rfl) ?_
        refine va_get (ci := 8) (v := .ref q_t_now) (C := RX10) (T := TX10) (N := 24) hx hb hts hin_X10 hown hK hP 0 rfl rfl 0 (by decide) fl_9 (fun _ h9 => h9) rfl dX10_thinksNoMore_10 ?_
        refine lv_iload_n hx hb dX10_thinksNoMore_13 rfl (lv_at hl 1 rfl) ?_
        refine lv_aload_n hx hb dX10_thinksNoMore_14 rfl (lv_at hl 0 rfl) ?_
        refine va_get (ci := 8) (v := .ref q_t_thought) (C := RX10) (T := TX10) (N := 24) hx hb hts hin_X10 hown hK hP 0 rfl rfl 2 (by decide) fl_16 (fun _ h9 => h9) rfl dX10_thinksNoMore_15 ?_
        refine lv_iload_n hx hb dX10_thinksNoMore_18 rfl (lv_at hl 1 rfl) ?_
        obtain ⟨hin, hJ⟩ := chk_in hJ
        refine va_iald hx hb hK hP 2 0 rfl rfl hin dX10_thinksNoMore_19 ?_
        refine jt_i hJ (fun x19 hJ => ?_)
        obtain ⟨hin, hJ⟩ := chk_in hJ
        refine va_iast hx hb hK hP hD hS 1 0 rfl rfl hin dX10_thinksNoMore_20 (fun H locs hP hD hS => ?_)
        have hP : va_P D vwCl [(q_t, .inr (8, [.ref q_t_now, .ref q_t_tried, .ref q_t_thought, .ref q_t_kept, .int t_undos, .ref q_t_saved, .int t_isSaved, .ref q_t_finds, .ref q_t_reach, .ref q_t_steps, .ref q_t_glows, .ref q_t_lower, .ref q_t_upper, .ref q_t_line, .int t_lined, .ref q_t_text, .int t_length, .int t_at, .int t_order, .ref q_t_told, .ref q_t_why, .ref q_t_more, .int t_whys, .int t_answer])), (q_t_now, .inl (cI, 133, .inl (upd t_now v1.toNatClampNeg x19))), (q_t_thought, .inl (cI, 133, .inl t_thought))] H := hP
        have hD : va_D A [(q_t, .inr (8, [.ref q_t_now, .ref q_t_tried, .ref q_t_thought, .ref q_t_kept, .int t_undos, .ref q_t_saved, .int t_isSaved, .ref q_t_finds, .ref q_t_reach, .ref q_t_steps, .ref q_t_glows, .ref q_t_lower, .ref q_t_upper, .ref q_t_line, .int t_lined, .ref q_t_text, .int t_length, .int t_at, .int t_order, .ref q_t_told, .ref q_t_why, .ref q_t_more, .int t_whys, .int t_answer])), (q_t_now, .inl (cI, 133, .inl (upd t_now v1.toNatClampNeg x19))), (q_t_thought, .inl (cI, 133, .inl t_thought))] := hD
        refine jt_iinc hJ (fun x21 ex21 hJ => ?_)
        refine lv_iinc (v := x21) (lv' := [(1, .int x21), (0, .ref q_t)]) hx hb dX10_thinksNoMore_21 hl (k := 1) rfl ex21 (by decide) rfl (fun ls hl => ?_)
        refine lv_goto (tgt := 2) hx hb dX10_thinksNoMore_24 (by decide) ?_
        exact ih (upd t_now v1.toNatClampNeg x19) x21  H locs  hP hD hS _ (lv_sub hl [1, 0] rfl) hJ
  unfold J_X10_thinksNoMore at hJ
  refine lv_iconst (v := (0 : Int32)) hx hb dX10_thinksNoMore_0 (by decide) ?_
  refine lv_istore_n (lv' := [(1, .int (0 : Int32)), (0, .ref q_t)]) hx hb dX10_thinksNoMore_1 rfl hl (by decide) rfl (fun ls hl => ?_)
  exact L2  FU t_now (0 : Int32)  s.heap []  hP hD hS _ (lv_sub hl [1, 0] rfl) hJ

def J_X10_keeps_L52 (t_tried : Nat → Int32) (v1 : Int32) : Nat → Int32 → (Nat → Int32) → Int32 → Option (Int32 × Int32 × (Nat → Int32))
  | 0, _, _, _ => none
  | nf + 1, t_undos, t_kept, v2 =>
    if (133 : Int32) ≤ v2 then (
    nm (t_undos + (1 : Int32)) fun x92 =>
    some (v1, x92, t_kept))
    else (
    nm ((133 : Int32) * t_undos) fun x70 =>
    nm (x70 + v2) fun x72 =>
    chk v2 133 (
    nm (t_tried v2.toNatClampNeg) fun x78 =>
    chk x72 1064 (
    nm (v2 + Int32.ofInt 1) fun x80 =>
    J_X10_keeps_L52 t_tried v1 nf t_undos (upd t_kept x72.toNatClampNeg x78) x80)))
def J_X10_keeps_b50 (t_tried : Nat → Int32) (v1 : Int32) (t_undos : Int32) (t_kept : Nat → Int32) : Option (Int32 × Int32 × (Nat → Int32)) :=
    J_X10_keeps_L52 t_tried v1 FU t_undos t_kept (0 : Int32)
def J_X10_keeps_L11 (t_tried : Nat → Int32) (v1 : Int32) : Nat → Int32 → (Nat → Int32) → Int32 → Option (Int32 × Int32 × (Nat → Int32))
  | 0, _, _, _ => none
  | nf + 1, t_undos, t_kept, v2 =>
    if (931 : Int32) ≤ v2 then (
    nm (t_undos - (1 : Int32)) fun x46 =>
    J_X10_keeps_b50 t_tried v1 x46 t_kept)
    else (
    nm ((133 : Int32) + v2) fun x31 =>
    chk x31 1064 (
    nm (t_kept x31.toNatClampNeg) fun x32 =>
    chk v2 1064 (
    nm (v2 + Int32.ofInt 1) fun x34 =>
    J_X10_keeps_L11 t_tried v1 nf t_undos (upd t_kept v2.toNatClampNeg x32) x34)))
def J_X10_keeps (t_undos : Int32) (t_tried : Nat → Int32) (t_kept : Nat → Int32) (v1 : Int32) : Option (Int32 × Int32 × (Nat → Int32)) :=
    if t_undos = (8 : Int32) then (
    J_X10_keeps_L11 t_tried v1 FU t_undos t_kept (0 : Int32))
    else (
    J_X10_keeps_b50 t_tried v1 t_undos t_kept)
abbrev rmX10_keeps : Room := { frames := 0, cells := 0, slots := 0, locals := 0 }
set_option maxHeartbeats 4000000 in
set_option maxRecDepth 100000 in
theorem c_X10_keeps (l : Launch) (D : va_G) (cI cJ cC cL : ClassId) (q_t q_t_now q_t_tried q_t_thought q_t_kept q_t_saved q_t_finds q_t_reach q_t_steps q_t_glows q_t_lower q_t_upper q_t_line q_t_text q_t_told q_t_why q_t_more : Nat) (t_undos : Int32) (t_isSaved : Int32) (t_lined : Int32) (t_length : Int32) (t_at : Int32) (t_order : Int32) (t_whys : Int32) (t_answer : Int32) (t_tried : Nat → Int32) (t_kept : Nat → Int32) (v1 : Int32) (r : Int32) (o_t_undos : Int32) (o_t_kept : Nat → Int32) (hJ : J_X10_keeps t_undos t_tried t_kept v1 = some (r, o_t_undos, o_t_kept)) (sz : Nat) : Met l yX10_keeps wsX10_keeps rmX10_keeps (va_Pc [.ref q_t, .int v1] (jpre XT D (tyL cI cJ cC cL) [(q_t, .inr (8, [.ref q_t_now, .ref q_t_tried, .ref q_t_thought, .ref q_t_kept, .int t_undos, .ref q_t_saved, .int t_isSaved, .ref q_t_finds, .ref q_t_reach, .ref q_t_steps, .ref q_t_glows, .ref q_t_lower, .ref q_t_upper, .ref q_t_line, .int t_lined, .ref q_t_text, .int t_length, .int t_at, .int t_order, .ref q_t_told, .ref q_t_why, .ref q_t_more, .int t_whys, .int t_answer])), (q_t_tried, .inl (cI, 133, .inl t_tried)), (q_t_kept, .inl (cI, 1064, .inl t_kept))] sz)) (va_Qi (fun r' (_ : Unit) => r' = r) (fun _ t => jpost D (tyL cI cJ cC cL) (va_A [(q_t, .inr (8, [.ref q_t_now, .ref q_t_tried, .ref q_t_thought, .ref q_t_kept, .int t_undos, .ref q_t_saved, .int t_isSaved, .ref q_t_finds, .ref q_t_reach, .ref q_t_steps, .ref q_t_glows, .ref q_t_lower, .ref q_t_upper, .ref q_t_line, .int t_lined, .ref q_t_text, .int t_length, .int t_at, .int t_order, .ref q_t_told, .ref q_t_why, .ref q_t_more, .int t_whys, .int t_answer])), (q_t_tried, .inl (cI, 133, .inl t_tried)), (q_t_kept, .inl (cI, 1064, .inl t_kept))] sz) [(q_t, .inr (8, [.ref q_t_now, .ref q_t_tried, .ref q_t_thought, .ref q_t_kept, .int o_t_undos, .ref q_t_saved, .int t_isSaved, .ref q_t_finds, .ref q_t_reach, .ref q_t_steps, .ref q_t_glows, .ref q_t_lower, .ref q_t_upper, .ref q_t_line, .int t_lined, .ref q_t_text, .int t_length, .int t_at, .int t_order, .ref q_t_told, .ref q_t_why, .ref q_t_more, .int t_whys, .int t_answer])), (q_t_tried, .inl (cI, 133, .inl t_tried)), (q_t_kept, .inl (cI, 1064, .inl o_t_kept))] t) (va_A [(q_t, .inr (8, [.ref q_t_now, .ref q_t_tried, .ref q_t_thought, .ref q_t_kept, .int t_undos, .ref q_t_saved, .int t_isSaved, .ref q_t_finds, .ref q_t_reach, .ref q_t_steps, .ref q_t_glows, .ref q_t_lower, .ref q_t_upper, .ref q_t_line, .int t_lined, .ref q_t_text, .int t_length, .int t_at, .int t_order, .ref q_t_told, .ref q_t_why, .ref q_t_more, .int t_whys, .int t_answer])), (q_t_tried, .inl (cI, 133, .inl t_tried)), (q_t_kept, .inl (cI, 1064, .inl t_kept))] sz)) 0 0 (va_A [(q_t, .inr (8, [.ref q_t_now, .ref q_t_tried, .ref q_t_thought, .ref q_t_kept, .int t_undos, .ref q_t_saved, .int t_isSaved, .ref q_t_finds, .ref q_t_reach, .ref q_t_steps, .ref q_t_glows, .ref q_t_lower, .ref q_t_upper, .ref q_t_line, .int t_lined, .ref q_t_text, .int t_length, .int t_at, .int t_order, .ref q_t_told, .ref q_t_why, .ref q_t_more, .int t_whys, .int t_answer])), (q_t_tried, .inl (cI, 133, .inl t_tried)), (q_t_kept, .inl (cI, 1064, .inl t_kept))] sz) := by
  refine jE_i (cc := cX10_keeps) (maxL := 3) (own := RX10) (ret := (some .int)) (lv0 := [(0, .ref q_t), (1, .int v1)]) (by decide) rfl rfl rfl (Nat.le_of_ble_eq_true rfl) rfl ?_
  intro p e s m args below meth c A Q ls hx hb hml hown hts hK hN hX hA hP hD hS hl hRet
  have hF : CallFix p m c cX10_keeps 3 s args wsX10_keeps RX10 := ⟨hx, hb, hml, hown, hts⟩
  have fl_13 := hts (.fieldLink RX10 13 "LanternLogicModel" "tried" "[I") (by decide +kernel)
  have fl_19 := hts (.fieldLink RX10 19 "LanternLogicModel" "kept" "[I") (by decide +kernel)
  have fl_59 := hts (.fieldLink RX10 59 "LanternLogicModel" "undos" "I") (by decide +kernel)
  have hin_X10 : ∀ w ∈ u_ws RX10 TX10 24, w ∈ wsX10_keeps := by decide +kernel
  have L52 : ∀ (nf : Nat), ∀ (t_undos : Int32) (t_kept : Nat → Int32) (v2 : Int32) (H : Heap) (locs : List Loc), va_P D vwCl [(q_t, .inr (8, [.ref q_t_now, .ref q_t_tried, .ref q_t_thought, .ref q_t_kept, .int t_undos, .ref q_t_saved, .int t_isSaved, .ref q_t_finds, .ref q_t_reach, .ref q_t_steps, .ref q_t_glows, .ref q_t_lower, .ref q_t_upper, .ref q_t_line, .int t_lined, .ref q_t_text, .int t_length, .int t_at, .int t_order, .ref q_t_told, .ref q_t_why, .ref q_t_more, .int t_whys, .int t_answer])), (q_t_tried, .inl (cI, 133, .inl t_tried)), (q_t_kept, .inl (cI, 1064, .inl t_kept))] H → va_D A [(q_t, .inr (8, [.ref q_t_now, .ref q_t_tried, .ref q_t_thought, .ref q_t_kept, .int t_undos, .ref q_t_saved, .int t_isSaved, .ref q_t_finds, .ref q_t_reach, .ref q_t_steps, .ref q_t_glows, .ref q_t_lower, .ref q_t_upper, .ref q_t_line, .int t_lined, .ref q_t_text, .int t_length, .int t_at, .int t_order, .ref q_t_told, .ref q_t_why, .ref q_t_more, .int t_whys, .int t_answer])), (q_t_tried, .inl (cI, 133, .inl t_tried)), (q_t_kept, .inl (cI, 1064, .inl t_kept))] → va_S A s.heap H locs → ∀ ls : Array Slot, lv_has ls 3 [(0, .ref q_t), (1, .int v1), (2, .int v2)] → J_X10_keeps_L52  t_tried v1 nf t_undos t_kept v2 = some (r, o_t_undos, o_t_kept) → W p l e rmX10_keeps s m args below meth c H locs 0 0 Q (F0 m 52 ls []) := by
    intro nf
    induction nf with
    | zero =>
      intro t_undos t_kept v2 H locs hP hD hS ls hl hJ
      rw [J_X10_keeps_L52] at hJ
      cases hJ
    | succ nf ih =>
      intro t_undos t_kept v2 H locs hP hD hS ls hl hJ
      rw [J_X10_keeps_L52] at hJ
      refine lv_iload_n hx hb dX10_keeps_52 rfl (lv_at hl 2 rfl) ?_
      refine lv_sipush (v := (133 : Int32)) hx hb dX10_keeps_53 (by decide) ?_
      refine jif_icmp_ge (tgt := 86) hx hb dX10_keeps_56 (by decide) hJ (fun hJ => ?_) (fun hJ => ?_)
      · refine lv_aload_n hx hb dX10_keeps_86 rfl (lv_at hl 0 rfl) ?_
        refine lv_dup hx hb dX10_keeps_87 rfl ?_
        refine va_get (ci := 8) (v := .int t_undos) (C := RX10) (T := TX10) (N := 24) hx hb hts hin_X10 hown hK hP 0 rfl rfl 4 (by decide) fl_59 (fun _ h9 => h9) rfl dX10_keeps_88 ?_
        refine lv_iconst (v := (1 : Int32)) hx hb dX10_keeps_91 (by decide) ?_
        refine lv_iadd hx hb dX10_keeps_92 ?_
        refine jt_i hJ (fun x92 hJ => ?_)
        refine va_put (ci := 8) (v := .int x92) (ty := .int) (C := RX10) (T := TX10) (N := 24) hx hb hts hin_X10 tyX10 tyX10_ok nmX10 hown hK hP hD hS 0 rfl rfl 4 (by decide) fl_59 (fun _ h9 => h9) rfl (by decide +kernel) rfl rfl (Nat.le_of_ble_eq_true rfl) dX10_keeps_93 (fun H locs hP hD hS => ?_)
        have hP : va_P D vwCl [(q_t, .inr (8, [.ref q_t_now, .ref q_t_tried, .ref q_t_thought, .ref q_t_kept, .int x92, .ref q_t_saved, .int t_isSaved, .ref q_t_finds, .ref q_t_reach, .ref q_t_steps, .ref q_t_glows, .ref q_t_lower, .ref q_t_upper, .ref q_t_line, .int t_lined, .ref q_t_text, .int t_length, .int t_at, .int t_order, .ref q_t_told, .ref q_t_why, .ref q_t_more, .int t_whys, .int t_answer])), (q_t_tried, .inl (cI, 133, .inl t_tried)), (q_t_kept, .inl (cI, 1064, .inl t_kept))] H := hP
        have hD : va_D A [(q_t, .inr (8, [.ref q_t_now, .ref q_t_tried, .ref q_t_thought, .ref q_t_kept, .int x92, .ref q_t_saved, .int t_isSaved, .ref q_t_finds, .ref q_t_reach, .ref q_t_steps, .ref q_t_glows, .ref q_t_lower, .ref q_t_upper, .ref q_t_line, .int t_lined, .ref q_t_text, .int t_length, .int t_at, .int t_order, .ref q_t_told, .ref q_t_why, .ref q_t_more, .int t_whys, .int t_answer])), (q_t_tried, .inl (cI, 133, .inl t_tried)), (q_t_kept, .inl (cI, 1064, .inl t_kept))] := hD
        refine lv_iload_n hx hb dX10_keeps_96 rfl (lv_at hl 1 rfl) ?_
        have hJ := Option.some.inj hJ
        obtain ⟨e0, e1, e2⟩ : (v1) = r ∧ (x92) = o_t_undos ∧ (t_kept) = o_t_kept := ⟨congrArg (fun z => z.1) hJ, congrArg (fun z => z.2.1) hJ, congrArg (fun z => z.2.2) hJ⟩
        exact hRet (by rw [← e1, ← e2]; exact hP) (by rw [← e1, ← e2]; exact hD) hS e0 dX10_keeps_97
      · refine lv_aload_n hx hb dX10_keeps_59 rfl (lv_at hl 0 rfl) ?_
        refine va_get (ci := 8) (v := .ref q_t_kept) (C := RX10) (T := TX10) (N := 24) hx hb hts hin_X10 hown hK hP 0 rfl rfl 3 (by decide) fl_19 (fun _ h9 => h9) rfl dX10_keeps_60 ?_
        refine lv_sipush (v := (133 : Int32)) hx hb dX10_keeps_63 (by decide) ?_
        refine lv_aload_n hx hb dX10_keeps_66 rfl (lv_at hl 0 rfl) ?_
        refine va_get (ci := 8) (v := .int t_undos) (C := RX10) (T := TX10) (N := 24) hx hb hts hin_X10 hown hK hP 0 rfl rfl 4 (by decide) fl_59 (fun _ h9 => h9) rfl dX10_keeps_67 ?_
        refine lv_imul hx hb dX10_keeps_70 ?_
        refine jt_i hJ (fun x70 hJ => ?_)
        refine lv_iload_n hx hb dX10_keeps_71 rfl (lv_at hl 2 rfl) ?_
        refine lv_iadd hx hb dX10_keeps_72 ?_
        refine jt_i hJ (fun x72 hJ => ?_)
        refine lv_aload_n hx hb dX10_keeps_73 rfl (lv_at hl 0 rfl) ?_
        refine va_get (ci := 8) (v := .ref q_t_tried) (C := RX10) (T := TX10) (N := 24) hx hb hts hin_X10 hown hK hP 0 rfl rfl 1 (by decide) fl_13 (fun _ h9 => h9) rfl dX10_keeps_74 ?_
        refine lv_iload_n hx hb dX10_keeps_77 rfl (lv_at hl 2 rfl) ?_
        obtain ⟨hin, hJ⟩ := chk_in hJ
        refine va_iald hx hb hK hP 1 0 rfl rfl hin dX10_keeps_78 ?_
        refine jt_i hJ (fun x78 hJ => ?_)
        obtain ⟨hin, hJ⟩ := chk_in hJ
        refine va_iast hx hb hK hP hD hS 2 0 rfl rfl hin dX10_keeps_79 (fun H locs hP hD hS => ?_)
        have hP : va_P D vwCl [(q_t, .inr (8, [.ref q_t_now, .ref q_t_tried, .ref q_t_thought, .ref q_t_kept, .int t_undos, .ref q_t_saved, .int t_isSaved, .ref q_t_finds, .ref q_t_reach, .ref q_t_steps, .ref q_t_glows, .ref q_t_lower, .ref q_t_upper, .ref q_t_line, .int t_lined, .ref q_t_text, .int t_length, .int t_at, .int t_order, .ref q_t_told, .ref q_t_why, .ref q_t_more, .int t_whys, .int t_answer])), (q_t_tried, .inl (cI, 133, .inl t_tried)), (q_t_kept, .inl (cI, 1064, .inl (upd t_kept x72.toNatClampNeg x78)))] H := hP
        have hD : va_D A [(q_t, .inr (8, [.ref q_t_now, .ref q_t_tried, .ref q_t_thought, .ref q_t_kept, .int t_undos, .ref q_t_saved, .int t_isSaved, .ref q_t_finds, .ref q_t_reach, .ref q_t_steps, .ref q_t_glows, .ref q_t_lower, .ref q_t_upper, .ref q_t_line, .int t_lined, .ref q_t_text, .int t_length, .int t_at, .int t_order, .ref q_t_told, .ref q_t_why, .ref q_t_more, .int t_whys, .int t_answer])), (q_t_tried, .inl (cI, 133, .inl t_tried)), (q_t_kept, .inl (cI, 1064, .inl (upd t_kept x72.toNatClampNeg x78)))] := hD
        refine jt_iinc hJ (fun x80 ex80 hJ => ?_)
        refine lv_iinc (v := x80) (lv' := [(2, .int x80), (0, .ref q_t), (1, .int v1)]) hx hb dX10_keeps_80 hl (k := 2) rfl ex80 (by decide) rfl (fun ls hl => ?_)
        refine lv_goto (tgt := 52) hx hb dX10_keeps_83 (by decide) ?_
        exact ih t_undos (upd t_kept x72.toNatClampNeg x78) x80  H locs  hP hD hS _ (lv_sub hl [1, 2, 0] rfl) hJ
  have B50 : ∀ (t_undos : Int32) (t_kept : Nat → Int32) (H : Heap) (locs : List Loc), va_P D vwCl [(q_t, .inr (8, [.ref q_t_now, .ref q_t_tried, .ref q_t_thought, .ref q_t_kept, .int t_undos, .ref q_t_saved, .int t_isSaved, .ref q_t_finds, .ref q_t_reach, .ref q_t_steps, .ref q_t_glows, .ref q_t_lower, .ref q_t_upper, .ref q_t_line, .int t_lined, .ref q_t_text, .int t_length, .int t_at, .int t_order, .ref q_t_told, .ref q_t_why, .ref q_t_more, .int t_whys, .int t_answer])), (q_t_tried, .inl (cI, 133, .inl t_tried)), (q_t_kept, .inl (cI, 1064, .inl t_kept))] H → va_D A [(q_t, .inr (8, [.ref q_t_now, .ref q_t_tried, .ref q_t_thought, .ref q_t_kept, .int t_undos, .ref q_t_saved, .int t_isSaved, .ref q_t_finds, .ref q_t_reach, .ref q_t_steps, .ref q_t_glows, .ref q_t_lower, .ref q_t_upper, .ref q_t_line, .int t_lined, .ref q_t_text, .int t_length, .int t_at, .int t_order, .ref q_t_told, .ref q_t_why, .ref q_t_more, .int t_whys, .int t_answer])), (q_t_tried, .inl (cI, 133, .inl t_tried)), (q_t_kept, .inl (cI, 1064, .inl t_kept))] → va_S A s.heap H locs → ∀ ls : Array Slot, lv_has ls 3 [(0, .ref q_t), (1, .int v1)] → J_X10_keeps_b50  t_tried v1 t_undos t_kept = some (r, o_t_undos, o_t_kept) → W p l e rmX10_keeps s m args below meth c H locs 0 0 Q (F0 m 50 ls []) := by
    intro t_undos t_kept H locs hP hD hS ls hl hJ
    unfold J_X10_keeps_b50 at hJ
    refine lv_iconst (v := (0 : Int32)) hx hb dX10_keeps_50 (by decide) ?_
    refine lv_istore_n (lv' := [(2, .int (0 : Int32)), (0, .ref q_t), (1, .int v1)]) hx hb dX10_keeps_51 rfl hl (by decide) rfl (fun ls hl => ?_)
    exact L52  FU t_undos t_kept (0 : Int32)  H locs  hP hD hS _ (lv_sub hl [1, 2, 0] rfl) hJ
  have L11 : ∀ (nf : Nat), ∀ (t_undos : Int32) (t_kept : Nat → Int32) (v2 : Int32) (H : Heap) (locs : List Loc), va_P D vwCl [(q_t, .inr (8, [.ref q_t_now, .ref q_t_tried, .ref q_t_thought, .ref q_t_kept, .int t_undos, .ref q_t_saved, .int t_isSaved, .ref q_t_finds, .ref q_t_reach, .ref q_t_steps, .ref q_t_glows, .ref q_t_lower, .ref q_t_upper, .ref q_t_line, .int t_lined, .ref q_t_text, .int t_length, .int t_at, .int t_order, .ref q_t_told, .ref q_t_why, .ref q_t_more, .int t_whys, .int t_answer])), (q_t_tried, .inl (cI, 133, .inl t_tried)), (q_t_kept, .inl (cI, 1064, .inl t_kept))] H → va_D A [(q_t, .inr (8, [.ref q_t_now, .ref q_t_tried, .ref q_t_thought, .ref q_t_kept, .int t_undos, .ref q_t_saved, .int t_isSaved, .ref q_t_finds, .ref q_t_reach, .ref q_t_steps, .ref q_t_glows, .ref q_t_lower, .ref q_t_upper, .ref q_t_line, .int t_lined, .ref q_t_text, .int t_length, .int t_at, .int t_order, .ref q_t_told, .ref q_t_why, .ref q_t_more, .int t_whys, .int t_answer])), (q_t_tried, .inl (cI, 133, .inl t_tried)), (q_t_kept, .inl (cI, 1064, .inl t_kept))] → va_S A s.heap H locs → ∀ ls : Array Slot, lv_has ls 3 [(0, .ref q_t), (1, .int v1), (2, .int v2)] → J_X10_keeps_L11  t_tried v1 nf t_undos t_kept v2 = some (r, o_t_undos, o_t_kept) → W p l e rmX10_keeps s m args below meth c H locs 0 0 Q (F0 m 11 ls []) := by
    intro nf
    induction nf with
    | zero =>
      intro t_undos t_kept v2 H locs hP hD hS ls hl hJ
      rw [J_X10_keeps_L11] at hJ
      cases hJ
    | succ nf ih =>
      intro t_undos t_kept v2 H locs hP hD hS ls hl hJ
      rw [J_X10_keeps_L11] at hJ
      refine lv_iload_n hx hb dX10_keeps_11 rfl (lv_at hl 2 rfl) ?_
      refine lv_sipush (v := (931 : Int32)) hx hb dX10_keeps_12 (by decide) ?_
      refine jif_icmp_ge (tgt := 40) hx hb dX10_keeps_15 (by decide) hJ (fun hJ => ?_) (fun hJ => ?_)
      · refine lv_aload_n hx hb dX10_keeps_40 rfl (lv_at hl 0 rfl) ?_
        refine lv_dup hx hb dX10_keeps_41 rfl ?_
        refine va_get (ci := 8) (v := .int t_undos) (C := RX10) (T := TX10) (N := 24) hx hb hts hin_X10 hown hK hP 0 rfl rfl 4 (by decide) fl_59 (fun _ h9 => h9) rfl dX10_keeps_42 ?_
        refine lv_iconst (v := (1 : Int32)) hx hb dX10_keeps_45 (by decide) ?_
        refine lv_isub hx hb dX10_keeps_46 ?_
        refine jt_i hJ (fun x46 hJ => ?_)
        refine va_put (ci := 8) (v := .int x46) (ty := .int) (C := RX10) (T := TX10) (N := 24) hx hb hts hin_X10 tyX10 tyX10_ok nmX10 hown hK hP hD hS 0 rfl rfl 4 (by decide) fl_59 (fun _ h9 => h9) rfl (by decide +kernel) rfl rfl (Nat.le_of_ble_eq_true rfl) dX10_keeps_47 (fun H locs hP hD hS => ?_)
        have hP : va_P D vwCl [(q_t, .inr (8, [.ref q_t_now, .ref q_t_tried, .ref q_t_thought, .ref q_t_kept, .int x46, .ref q_t_saved, .int t_isSaved, .ref q_t_finds, .ref q_t_reach, .ref q_t_steps, .ref q_t_glows, .ref q_t_lower, .ref q_t_upper, .ref q_t_line, .int t_lined, .ref q_t_text, .int t_length, .int t_at, .int t_order, .ref q_t_told, .ref q_t_why, .ref q_t_more, .int t_whys, .int t_answer])), (q_t_tried, .inl (cI, 133, .inl t_tried)), (q_t_kept, .inl (cI, 1064, .inl t_kept))] H := hP
        have hD : va_D A [(q_t, .inr (8, [.ref q_t_now, .ref q_t_tried, .ref q_t_thought, .ref q_t_kept, .int x46, .ref q_t_saved, .int t_isSaved, .ref q_t_finds, .ref q_t_reach, .ref q_t_steps, .ref q_t_glows, .ref q_t_lower, .ref q_t_upper, .ref q_t_line, .int t_lined, .ref q_t_text, .int t_length, .int t_at, .int t_order, .ref q_t_told, .ref q_t_why, .ref q_t_more, .int t_whys, .int t_answer])), (q_t_tried, .inl (cI, 133, .inl t_tried)), (q_t_kept, .inl (cI, 1064, .inl t_kept))] := hD
        exact B50  x46 t_kept  H locs  hP hD hS _ (lv_sub hl [0, 1] rfl) hJ
      · refine lv_aload_n hx hb dX10_keeps_18 rfl (lv_at hl 0 rfl) ?_
        refine va_get (ci := 8) (v := .ref q_t_kept) (C := RX10) (T := TX10) (N := 24) hx hb hts hin_X10 hown hK hP 0 rfl rfl 3 (by decide) fl_19 (fun _ h9 => h9) rfl dX10_keeps_19 ?_
        refine lv_iload_n hx hb dX10_keeps_22 rfl (lv_at hl 2 rfl) ?_
        refine lv_aload_n hx hb dX10_keeps_23 rfl (lv_at hl 0 rfl) ?_
        refine va_get (ci := 8) (v := .ref q_t_kept) (C := RX10) (T := TX10) (N := 24) hx hb hts hin_X10 hown hK hP 0 rfl rfl 3 (by decide) fl_19 (fun _ h9 => h9) rfl dX10_keeps_24 ?_
        refine lv_sipush (v := (133 : Int32)) hx hb dX10_keeps_27 (by decide) ?_
        refine lv_iload_n hx hb dX10_keeps_30 rfl (lv_at hl 2 rfl) ?_
        refine lv_iadd hx hb dX10_keeps_31 ?_
        refine jt_i hJ (fun x31 hJ => ?_)
        obtain ⟨hin, hJ⟩ := chk_in hJ
        refine va_iald hx hb hK hP 2 0 rfl rfl hin dX10_keeps_32 ?_
        refine jt_i hJ (fun x32 hJ => ?_)
        obtain ⟨hin, hJ⟩ := chk_in hJ
        refine va_iast hx hb hK hP hD hS 2 0 rfl rfl hin dX10_keeps_33 (fun H locs hP hD hS => ?_)
        have hP : va_P D vwCl [(q_t, .inr (8, [.ref q_t_now, .ref q_t_tried, .ref q_t_thought, .ref q_t_kept, .int t_undos, .ref q_t_saved, .int t_isSaved, .ref q_t_finds, .ref q_t_reach, .ref q_t_steps, .ref q_t_glows, .ref q_t_lower, .ref q_t_upper, .ref q_t_line, .int t_lined, .ref q_t_text, .int t_length, .int t_at, .int t_order, .ref q_t_told, .ref q_t_why, .ref q_t_more, .int t_whys, .int t_answer])), (q_t_tried, .inl (cI, 133, .inl t_tried)), (q_t_kept, .inl (cI, 1064, .inl (upd t_kept v2.toNatClampNeg x32)))] H := hP
        have hD : va_D A [(q_t, .inr (8, [.ref q_t_now, .ref q_t_tried, .ref q_t_thought, .ref q_t_kept, .int t_undos, .ref q_t_saved, .int t_isSaved, .ref q_t_finds, .ref q_t_reach, .ref q_t_steps, .ref q_t_glows, .ref q_t_lower, .ref q_t_upper, .ref q_t_line, .int t_lined, .ref q_t_text, .int t_length, .int t_at, .int t_order, .ref q_t_told, .ref q_t_why, .ref q_t_more, .int t_whys, .int t_answer])), (q_t_tried, .inl (cI, 133, .inl t_tried)), (q_t_kept, .inl (cI, 1064, .inl (upd t_kept v2.toNatClampNeg x32)))] := hD
        refine jt_iinc hJ (fun x34 ex34 hJ => ?_)
        refine lv_iinc (v := x34) (lv' := [(2, .int x34), (0, .ref q_t), (1, .int v1)]) hx hb dX10_keeps_34 hl (k := 2) rfl ex34 (by decide) rfl (fun ls hl => ?_)
        refine lv_goto (tgt := 11) hx hb dX10_keeps_37 (by decide) ?_
        exact ih t_undos (upd t_kept v2.toNatClampNeg x32) x34  H locs  hP hD hS _ (lv_sub hl [1, 2, 0] rfl) hJ
  unfold J_X10_keeps at hJ
  refine lv_aload_n hx hb dX10_keeps_0 rfl (lv_at hl 0 rfl) ?_
  refine va_get (ci := 8) (v := .int t_undos) (C := RX10) (T := TX10) (N := 24) hx hb hts hin_X10 hown hK hP 0 rfl rfl 4 (by decide) fl_59 (fun _ h9 => h9) rfl dX10_keeps_1 ?_
  refine lv_bipush (v := (8 : Int32)) hx hb dX10_keeps_4 (by decide) ?_
  refine jif_icmp_ne (tgt := 50) hx hb dX10_keeps_6 (by decide) hJ (fun hJ => ?_) (fun hJ => ?_)
  · exact B50  t_undos t_kept  s.heap []  hP hD hS _ (lv_sub hl [0, 1] rfl) hJ
  · refine lv_iconst (v := (0 : Int32)) hx hb dX10_keeps_9 (by decide) ?_
    refine lv_istore_n (lv' := [(2, .int (0 : Int32)), (0, .ref q_t), (1, .int v1)]) hx hb dX10_keeps_10 rfl hl (by decide) rfl (fun ls hl => ?_)
    exact L11  FU t_undos t_kept (0 : Int32)  s.heap []  hP hD hS _ (lv_sub hl [1, 2, 0] rfl) hJ

def J_X10_refuses (t_why : Nat → Int32) (t_more : Nat → Int32) (v1 : Int32) (v2 : Int32) : Option (Int32 × Int32 × (Nat → Int32) × (Nat → Int32)) :=
    chk (0 : Int32) 4 (
    chk (0 : Int32) 4 (
    some ((-14 : Int32), (1 : Int32), (upd t_why (0 : Int32).toNatClampNeg v1), (upd t_more (0 : Int32).toNatClampNeg v2))))
abbrev rmX10_refuses : Room := { frames := 0, cells := 0, slots := 0, locals := 0 }
set_option maxHeartbeats 4000000 in
set_option maxRecDepth 100000 in
theorem c_X10_refuses (l : Launch) (D : va_G) (cI cJ cC cL : ClassId) (q_t q_t_now q_t_tried q_t_thought q_t_kept q_t_saved q_t_finds q_t_reach q_t_steps q_t_glows q_t_lower q_t_upper q_t_line q_t_text q_t_told q_t_why q_t_more : Nat) (t_undos : Int32) (t_isSaved : Int32) (t_lined : Int32) (t_length : Int32) (t_at : Int32) (t_order : Int32) (t_whys : Int32) (t_answer : Int32) (t_why : Nat → Int32) (t_more : Nat → Int32) (v1 : Int32) (v2 : Int32) (r : Int32) (o_t_whys : Int32) (o_t_why : Nat → Int32) (o_t_more : Nat → Int32) (hJ : J_X10_refuses t_why t_more v1 v2 = some (r, o_t_whys, o_t_why, o_t_more)) (sz : Nat) : Met l yX10_refuses wsX10_refuses rmX10_refuses (va_Pc [.ref q_t, .int v1, .int v2] (jpre XT D (tyL cI cJ cC cL) [(q_t, .inr (8, [.ref q_t_now, .ref q_t_tried, .ref q_t_thought, .ref q_t_kept, .int t_undos, .ref q_t_saved, .int t_isSaved, .ref q_t_finds, .ref q_t_reach, .ref q_t_steps, .ref q_t_glows, .ref q_t_lower, .ref q_t_upper, .ref q_t_line, .int t_lined, .ref q_t_text, .int t_length, .int t_at, .int t_order, .ref q_t_told, .ref q_t_why, .ref q_t_more, .int t_whys, .int t_answer])), (q_t_why, .inl (cI, 4, .inl t_why)), (q_t_more, .inl (cI, 4, .inl t_more))] sz)) (va_Qi (fun r' (_ : Unit) => r' = r) (fun _ t => jpost D (tyL cI cJ cC cL) (va_A [(q_t, .inr (8, [.ref q_t_now, .ref q_t_tried, .ref q_t_thought, .ref q_t_kept, .int t_undos, .ref q_t_saved, .int t_isSaved, .ref q_t_finds, .ref q_t_reach, .ref q_t_steps, .ref q_t_glows, .ref q_t_lower, .ref q_t_upper, .ref q_t_line, .int t_lined, .ref q_t_text, .int t_length, .int t_at, .int t_order, .ref q_t_told, .ref q_t_why, .ref q_t_more, .int t_whys, .int t_answer])), (q_t_why, .inl (cI, 4, .inl t_why)), (q_t_more, .inl (cI, 4, .inl t_more))] sz) [(q_t, .inr (8, [.ref q_t_now, .ref q_t_tried, .ref q_t_thought, .ref q_t_kept, .int t_undos, .ref q_t_saved, .int t_isSaved, .ref q_t_finds, .ref q_t_reach, .ref q_t_steps, .ref q_t_glows, .ref q_t_lower, .ref q_t_upper, .ref q_t_line, .int t_lined, .ref q_t_text, .int t_length, .int t_at, .int t_order, .ref q_t_told, .ref q_t_why, .ref q_t_more, .int o_t_whys, .int t_answer])), (q_t_why, .inl (cI, 4, .inl o_t_why)), (q_t_more, .inl (cI, 4, .inl o_t_more))] t) (va_A [(q_t, .inr (8, [.ref q_t_now, .ref q_t_tried, .ref q_t_thought, .ref q_t_kept, .int t_undos, .ref q_t_saved, .int t_isSaved, .ref q_t_finds, .ref q_t_reach, .ref q_t_steps, .ref q_t_glows, .ref q_t_lower, .ref q_t_upper, .ref q_t_line, .int t_lined, .ref q_t_text, .int t_length, .int t_at, .int t_order, .ref q_t_told, .ref q_t_why, .ref q_t_more, .int t_whys, .int t_answer])), (q_t_why, .inl (cI, 4, .inl t_why)), (q_t_more, .inl (cI, 4, .inl t_more))] sz)) 0 0 (va_A [(q_t, .inr (8, [.ref q_t_now, .ref q_t_tried, .ref q_t_thought, .ref q_t_kept, .int t_undos, .ref q_t_saved, .int t_isSaved, .ref q_t_finds, .ref q_t_reach, .ref q_t_steps, .ref q_t_glows, .ref q_t_lower, .ref q_t_upper, .ref q_t_line, .int t_lined, .ref q_t_text, .int t_length, .int t_at, .int t_order, .ref q_t_told, .ref q_t_why, .ref q_t_more, .int t_whys, .int t_answer])), (q_t_why, .inl (cI, 4, .inl t_why)), (q_t_more, .inl (cI, 4, .inl t_more))] sz) := by
  refine jE_i (cc := cX10_refuses) (maxL := 3) (own := RX10) (ret := (some .int)) (lv0 := [(0, .ref q_t), (1, .int v1), (2, .int v2)]) (by decide) rfl rfl rfl (Nat.le_of_ble_eq_true rfl) rfl ?_
  intro p e s m args below meth c A Q ls hx hb hml hown hts hK hN hX hA hP hD hS hl hRet
  have hF : CallFix p m c cX10_refuses 3 s args wsX10_refuses RX10 := ⟨hx, hb, hml, hown, hts⟩
  have fl_53 := hts (.fieldLink RX10 53 "LanternLogicModel" "why" "[I") (by decide +kernel)
  have fl_56 := hts (.fieldLink RX10 56 "LanternLogicModel" "more" "[I") (by decide +kernel)
  have fl_63 := hts (.fieldLink RX10 63 "LanternLogicModel" "whys" "I") (by decide +kernel)
  have hin_X10 : ∀ w ∈ u_ws RX10 TX10 24, w ∈ wsX10_refuses := by decide +kernel
  unfold J_X10_refuses at hJ
  refine lv_aload_n hx hb dX10_refuses_0 rfl (lv_at hl 0 rfl) ?_
  refine va_get (ci := 8) (v := .ref q_t_why) (C := RX10) (T := TX10) (N := 24) hx hb hts hin_X10 hown hK hP 0 rfl rfl 20 (by decide) fl_53 (fun _ h9 => h9) rfl dX10_refuses_1 ?_
  refine lv_iconst (v := (0 : Int32)) hx hb dX10_refuses_4 (by decide) ?_
  refine lv_iload_n hx hb dX10_refuses_5 rfl (lv_at hl 1 rfl) ?_
  obtain ⟨hin, hJ⟩ := chk_in hJ
  refine va_iast hx hb hK hP hD hS 1 0 rfl rfl hin dX10_refuses_6 (fun H locs hP hD hS => ?_)
  have hP : va_P D vwCl [(q_t, .inr (8, [.ref q_t_now, .ref q_t_tried, .ref q_t_thought, .ref q_t_kept, .int t_undos, .ref q_t_saved, .int t_isSaved, .ref q_t_finds, .ref q_t_reach, .ref q_t_steps, .ref q_t_glows, .ref q_t_lower, .ref q_t_upper, .ref q_t_line, .int t_lined, .ref q_t_text, .int t_length, .int t_at, .int t_order, .ref q_t_told, .ref q_t_why, .ref q_t_more, .int t_whys, .int t_answer])), (q_t_why, .inl (cI, 4, .inl (upd t_why (0 : Int32).toNatClampNeg v1))), (q_t_more, .inl (cI, 4, .inl t_more))] H := hP
  have hD : va_D A [(q_t, .inr (8, [.ref q_t_now, .ref q_t_tried, .ref q_t_thought, .ref q_t_kept, .int t_undos, .ref q_t_saved, .int t_isSaved, .ref q_t_finds, .ref q_t_reach, .ref q_t_steps, .ref q_t_glows, .ref q_t_lower, .ref q_t_upper, .ref q_t_line, .int t_lined, .ref q_t_text, .int t_length, .int t_at, .int t_order, .ref q_t_told, .ref q_t_why, .ref q_t_more, .int t_whys, .int t_answer])), (q_t_why, .inl (cI, 4, .inl (upd t_why (0 : Int32).toNatClampNeg v1))), (q_t_more, .inl (cI, 4, .inl t_more))] := hD
  refine lv_aload_n hx hb dX10_refuses_7 rfl (lv_at hl 0 rfl) ?_
  refine va_get (ci := 8) (v := .ref q_t_more) (C := RX10) (T := TX10) (N := 24) hx hb hts hin_X10 hown hK hP 0 rfl rfl 21 (by decide) fl_56 (fun _ h9 => h9) rfl dX10_refuses_8 ?_
  refine lv_iconst (v := (0 : Int32)) hx hb dX10_refuses_11 (by decide) ?_
  refine lv_iload_n hx hb dX10_refuses_12 rfl (lv_at hl 2 rfl) ?_
  obtain ⟨hin, hJ⟩ := chk_in hJ
  refine va_iast hx hb hK hP hD hS 2 0 rfl rfl hin dX10_refuses_13 (fun H locs hP hD hS => ?_)
  have hP : va_P D vwCl [(q_t, .inr (8, [.ref q_t_now, .ref q_t_tried, .ref q_t_thought, .ref q_t_kept, .int t_undos, .ref q_t_saved, .int t_isSaved, .ref q_t_finds, .ref q_t_reach, .ref q_t_steps, .ref q_t_glows, .ref q_t_lower, .ref q_t_upper, .ref q_t_line, .int t_lined, .ref q_t_text, .int t_length, .int t_at, .int t_order, .ref q_t_told, .ref q_t_why, .ref q_t_more, .int t_whys, .int t_answer])), (q_t_why, .inl (cI, 4, .inl (upd t_why (0 : Int32).toNatClampNeg v1))), (q_t_more, .inl (cI, 4, .inl (upd t_more (0 : Int32).toNatClampNeg v2)))] H := hP
  have hD : va_D A [(q_t, .inr (8, [.ref q_t_now, .ref q_t_tried, .ref q_t_thought, .ref q_t_kept, .int t_undos, .ref q_t_saved, .int t_isSaved, .ref q_t_finds, .ref q_t_reach, .ref q_t_steps, .ref q_t_glows, .ref q_t_lower, .ref q_t_upper, .ref q_t_line, .int t_lined, .ref q_t_text, .int t_length, .int t_at, .int t_order, .ref q_t_told, .ref q_t_why, .ref q_t_more, .int t_whys, .int t_answer])), (q_t_why, .inl (cI, 4, .inl (upd t_why (0 : Int32).toNatClampNeg v1))), (q_t_more, .inl (cI, 4, .inl (upd t_more (0 : Int32).toNatClampNeg v2)))] := hD
  refine lv_aload_n hx hb dX10_refuses_14 rfl (lv_at hl 0 rfl) ?_
  refine lv_iconst (v := (1 : Int32)) hx hb dX10_refuses_15 (by decide) ?_
  refine va_put (ci := 8) (v := .int (1 : Int32)) (ty := .int) (C := RX10) (T := TX10) (N := 24) hx hb hts hin_X10 tyX10 tyX10_ok nmX10 hown hK hP hD hS 0 rfl rfl 22 (by decide) fl_63 (fun _ h9 => h9) rfl (by decide +kernel) rfl rfl (Nat.le_of_ble_eq_true rfl) dX10_refuses_16 (fun H locs hP hD hS => ?_)
  have hP : va_P D vwCl [(q_t, .inr (8, [.ref q_t_now, .ref q_t_tried, .ref q_t_thought, .ref q_t_kept, .int t_undos, .ref q_t_saved, .int t_isSaved, .ref q_t_finds, .ref q_t_reach, .ref q_t_steps, .ref q_t_glows, .ref q_t_lower, .ref q_t_upper, .ref q_t_line, .int t_lined, .ref q_t_text, .int t_length, .int t_at, .int t_order, .ref q_t_told, .ref q_t_why, .ref q_t_more, .int (1 : Int32), .int t_answer])), (q_t_why, .inl (cI, 4, .inl (upd t_why (0 : Int32).toNatClampNeg v1))), (q_t_more, .inl (cI, 4, .inl (upd t_more (0 : Int32).toNatClampNeg v2)))] H := hP
  have hD : va_D A [(q_t, .inr (8, [.ref q_t_now, .ref q_t_tried, .ref q_t_thought, .ref q_t_kept, .int t_undos, .ref q_t_saved, .int t_isSaved, .ref q_t_finds, .ref q_t_reach, .ref q_t_steps, .ref q_t_glows, .ref q_t_lower, .ref q_t_upper, .ref q_t_line, .int t_lined, .ref q_t_text, .int t_length, .int t_at, .int t_order, .ref q_t_told, .ref q_t_why, .ref q_t_more, .int (1 : Int32), .int t_answer])), (q_t_why, .inl (cI, 4, .inl (upd t_why (0 : Int32).toNatClampNeg v1))), (q_t_more, .inl (cI, 4, .inl (upd t_more (0 : Int32).toNatClampNeg v2)))] := hD
  refine lv_bipush (v := (-14 : Int32)) hx hb dX10_refuses_19 (by decide) ?_
  have hJ := Option.some.inj hJ
  obtain ⟨e0, e1, e2, e3⟩ : ((-14 : Int32)) = r ∧ ((1 : Int32)) = o_t_whys ∧ ((upd t_why (0 : Int32).toNatClampNeg v1)) = o_t_why ∧ ((upd t_more (0 : Int32).toNatClampNeg v2)) = o_t_more := ⟨congrArg (fun z => z.1) hJ, congrArg (fun z => z.2.1) hJ, congrArg (fun z => z.2.2.1) hJ, congrArg (fun z => z.2.2.2) hJ⟩
  exact hRet (by rw [← e1, ← e2, ← e3]; exact hP) (by rw [← e1, ← e2, ← e3]; exact hD) hS e0 dX10_refuses_21

def J_X10_behind (t_whys : Int32) (t_why : Nat → Int32) (t_more : Nat → Int32) (v1 : Int32) (v2 : Int32) : Option (Int32 × Int32 × (Nat → Int32) × (Nat → Int32)) :=
    chk t_whys 4 (
    chk t_whys 4 (
    nm (t_whys + (1 : Int32)) fun x26 =>
    some ((-14 : Int32), x26, (upd t_why t_whys.toNatClampNeg v1), (upd t_more t_whys.toNatClampNeg v2))))
abbrev rmX10_behind : Room := { frames := 0, cells := 0, slots := 0, locals := 0 }
set_option maxHeartbeats 4000000 in
set_option maxRecDepth 100000 in
theorem c_X10_behind (l : Launch) (D : va_G) (cI cJ cC cL : ClassId) (q_t q_t_now q_t_tried q_t_thought q_t_kept q_t_saved q_t_finds q_t_reach q_t_steps q_t_glows q_t_lower q_t_upper q_t_line q_t_text q_t_told q_t_why q_t_more : Nat) (t_undos : Int32) (t_isSaved : Int32) (t_lined : Int32) (t_length : Int32) (t_at : Int32) (t_order : Int32) (t_whys : Int32) (t_answer : Int32) (t_why : Nat → Int32) (t_more : Nat → Int32) (v1 : Int32) (v2 : Int32) (r : Int32) (o_t_whys : Int32) (o_t_why : Nat → Int32) (o_t_more : Nat → Int32) (hJ : J_X10_behind t_whys t_why t_more v1 v2 = some (r, o_t_whys, o_t_why, o_t_more)) (sz : Nat) : Met l yX10_behind wsX10_behind rmX10_behind (va_Pc [.ref q_t, .int v1, .int v2] (jpre XT D (tyL cI cJ cC cL) [(q_t, .inr (8, [.ref q_t_now, .ref q_t_tried, .ref q_t_thought, .ref q_t_kept, .int t_undos, .ref q_t_saved, .int t_isSaved, .ref q_t_finds, .ref q_t_reach, .ref q_t_steps, .ref q_t_glows, .ref q_t_lower, .ref q_t_upper, .ref q_t_line, .int t_lined, .ref q_t_text, .int t_length, .int t_at, .int t_order, .ref q_t_told, .ref q_t_why, .ref q_t_more, .int t_whys, .int t_answer])), (q_t_why, .inl (cI, 4, .inl t_why)), (q_t_more, .inl (cI, 4, .inl t_more))] sz)) (va_Qi (fun r' (_ : Unit) => r' = r) (fun _ t => jpost D (tyL cI cJ cC cL) (va_A [(q_t, .inr (8, [.ref q_t_now, .ref q_t_tried, .ref q_t_thought, .ref q_t_kept, .int t_undos, .ref q_t_saved, .int t_isSaved, .ref q_t_finds, .ref q_t_reach, .ref q_t_steps, .ref q_t_glows, .ref q_t_lower, .ref q_t_upper, .ref q_t_line, .int t_lined, .ref q_t_text, .int t_length, .int t_at, .int t_order, .ref q_t_told, .ref q_t_why, .ref q_t_more, .int t_whys, .int t_answer])), (q_t_why, .inl (cI, 4, .inl t_why)), (q_t_more, .inl (cI, 4, .inl t_more))] sz) [(q_t, .inr (8, [.ref q_t_now, .ref q_t_tried, .ref q_t_thought, .ref q_t_kept, .int t_undos, .ref q_t_saved, .int t_isSaved, .ref q_t_finds, .ref q_t_reach, .ref q_t_steps, .ref q_t_glows, .ref q_t_lower, .ref q_t_upper, .ref q_t_line, .int t_lined, .ref q_t_text, .int t_length, .int t_at, .int t_order, .ref q_t_told, .ref q_t_why, .ref q_t_more, .int o_t_whys, .int t_answer])), (q_t_why, .inl (cI, 4, .inl o_t_why)), (q_t_more, .inl (cI, 4, .inl o_t_more))] t) (va_A [(q_t, .inr (8, [.ref q_t_now, .ref q_t_tried, .ref q_t_thought, .ref q_t_kept, .int t_undos, .ref q_t_saved, .int t_isSaved, .ref q_t_finds, .ref q_t_reach, .ref q_t_steps, .ref q_t_glows, .ref q_t_lower, .ref q_t_upper, .ref q_t_line, .int t_lined, .ref q_t_text, .int t_length, .int t_at, .int t_order, .ref q_t_told, .ref q_t_why, .ref q_t_more, .int t_whys, .int t_answer])), (q_t_why, .inl (cI, 4, .inl t_why)), (q_t_more, .inl (cI, 4, .inl t_more))] sz)) 0 0 (va_A [(q_t, .inr (8, [.ref q_t_now, .ref q_t_tried, .ref q_t_thought, .ref q_t_kept, .int t_undos, .ref q_t_saved, .int t_isSaved, .ref q_t_finds, .ref q_t_reach, .ref q_t_steps, .ref q_t_glows, .ref q_t_lower, .ref q_t_upper, .ref q_t_line, .int t_lined, .ref q_t_text, .int t_length, .int t_at, .int t_order, .ref q_t_told, .ref q_t_why, .ref q_t_more, .int t_whys, .int t_answer])), (q_t_why, .inl (cI, 4, .inl t_why)), (q_t_more, .inl (cI, 4, .inl t_more))] sz) := by
  refine jE_i (cc := cX10_behind) (maxL := 3) (own := RX10) (ret := (some .int)) (lv0 := [(0, .ref q_t), (1, .int v1), (2, .int v2)]) (by decide) rfl rfl rfl (Nat.le_of_ble_eq_true rfl) rfl ?_
  intro p e s m args below meth c A Q ls hx hb hml hown hts hK hN hX hA hP hD hS hl hRet
  have hF : CallFix p m c cX10_behind 3 s args wsX10_behind RX10 := ⟨hx, hb, hml, hown, hts⟩
  have fl_53 := hts (.fieldLink RX10 53 "LanternLogicModel" "why" "[I") (by decide +kernel)
  have fl_56 := hts (.fieldLink RX10 56 "LanternLogicModel" "more" "[I") (by decide +kernel)
  have fl_63 := hts (.fieldLink RX10 63 "LanternLogicModel" "whys" "I") (by decide +kernel)
  have hin_X10 : ∀ w ∈ u_ws RX10 TX10 24, w ∈ wsX10_behind := by decide +kernel
  unfold J_X10_behind at hJ
  refine lv_aload_n hx hb dX10_behind_0 rfl (lv_at hl 0 rfl) ?_
  refine va_get (ci := 8) (v := .ref q_t_why) (C := RX10) (T := TX10) (N := 24) hx hb hts hin_X10 hown hK hP 0 rfl rfl 20 (by decide) fl_53 (fun _ h9 => h9) rfl dX10_behind_1 ?_
  refine lv_aload_n hx hb dX10_behind_4 rfl (lv_at hl 0 rfl) ?_
  refine va_get (ci := 8) (v := .int t_whys) (C := RX10) (T := TX10) (N := 24) hx hb hts hin_X10 hown hK hP 0 rfl rfl 22 (by decide) fl_63 (fun _ h9 => h9) rfl dX10_behind_5 ?_
  refine lv_iload_n hx hb dX10_behind_8 rfl (lv_at hl 1 rfl) ?_
  obtain ⟨hin, hJ⟩ := chk_in hJ
  refine va_iast hx hb hK hP hD hS 1 0 rfl rfl hin dX10_behind_9 (fun H locs hP hD hS => ?_)
  have hP : va_P D vwCl [(q_t, .inr (8, [.ref q_t_now, .ref q_t_tried, .ref q_t_thought, .ref q_t_kept, .int t_undos, .ref q_t_saved, .int t_isSaved, .ref q_t_finds, .ref q_t_reach, .ref q_t_steps, .ref q_t_glows, .ref q_t_lower, .ref q_t_upper, .ref q_t_line, .int t_lined, .ref q_t_text, .int t_length, .int t_at, .int t_order, .ref q_t_told, .ref q_t_why, .ref q_t_more, .int t_whys, .int t_answer])), (q_t_why, .inl (cI, 4, .inl (upd t_why t_whys.toNatClampNeg v1))), (q_t_more, .inl (cI, 4, .inl t_more))] H := hP
  have hD : va_D A [(q_t, .inr (8, [.ref q_t_now, .ref q_t_tried, .ref q_t_thought, .ref q_t_kept, .int t_undos, .ref q_t_saved, .int t_isSaved, .ref q_t_finds, .ref q_t_reach, .ref q_t_steps, .ref q_t_glows, .ref q_t_lower, .ref q_t_upper, .ref q_t_line, .int t_lined, .ref q_t_text, .int t_length, .int t_at, .int t_order, .ref q_t_told, .ref q_t_why, .ref q_t_more, .int t_whys, .int t_answer])), (q_t_why, .inl (cI, 4, .inl (upd t_why t_whys.toNatClampNeg v1))), (q_t_more, .inl (cI, 4, .inl t_more))] := hD
  refine lv_aload_n hx hb dX10_behind_10 rfl (lv_at hl 0 rfl) ?_
  refine va_get (ci := 8) (v := .ref q_t_more) (C := RX10) (T := TX10) (N := 24) hx hb hts hin_X10 hown hK hP 0 rfl rfl 21 (by decide) fl_56 (fun _ h9 => h9) rfl dX10_behind_11 ?_
  refine lv_aload_n hx hb dX10_behind_14 rfl (lv_at hl 0 rfl) ?_
  refine va_get (ci := 8) (v := .int t_whys) (C := RX10) (T := TX10) (N := 24) hx hb hts hin_X10 hown hK hP 0 rfl rfl 22 (by decide) fl_63 (fun _ h9 => h9) rfl dX10_behind_15 ?_
  refine lv_iload_n hx hb dX10_behind_18 rfl (lv_at hl 2 rfl) ?_
  obtain ⟨hin, hJ⟩ := chk_in hJ
  refine va_iast hx hb hK hP hD hS 2 0 rfl rfl hin dX10_behind_19 (fun H locs hP hD hS => ?_)
  have hP : va_P D vwCl [(q_t, .inr (8, [.ref q_t_now, .ref q_t_tried, .ref q_t_thought, .ref q_t_kept, .int t_undos, .ref q_t_saved, .int t_isSaved, .ref q_t_finds, .ref q_t_reach, .ref q_t_steps, .ref q_t_glows, .ref q_t_lower, .ref q_t_upper, .ref q_t_line, .int t_lined, .ref q_t_text, .int t_length, .int t_at, .int t_order, .ref q_t_told, .ref q_t_why, .ref q_t_more, .int t_whys, .int t_answer])), (q_t_why, .inl (cI, 4, .inl (upd t_why t_whys.toNatClampNeg v1))), (q_t_more, .inl (cI, 4, .inl (upd t_more t_whys.toNatClampNeg v2)))] H := hP
  have hD : va_D A [(q_t, .inr (8, [.ref q_t_now, .ref q_t_tried, .ref q_t_thought, .ref q_t_kept, .int t_undos, .ref q_t_saved, .int t_isSaved, .ref q_t_finds, .ref q_t_reach, .ref q_t_steps, .ref q_t_glows, .ref q_t_lower, .ref q_t_upper, .ref q_t_line, .int t_lined, .ref q_t_text, .int t_length, .int t_at, .int t_order, .ref q_t_told, .ref q_t_why, .ref q_t_more, .int t_whys, .int t_answer])), (q_t_why, .inl (cI, 4, .inl (upd t_why t_whys.toNatClampNeg v1))), (q_t_more, .inl (cI, 4, .inl (upd t_more t_whys.toNatClampNeg v2)))] := hD
  refine lv_aload_n hx hb dX10_behind_20 rfl (lv_at hl 0 rfl) ?_
  refine lv_dup hx hb dX10_behind_21 rfl ?_
  refine va_get (ci := 8) (v := .int t_whys) (C := RX10) (T := TX10) (N := 24) hx hb hts hin_X10 hown hK hP 0 rfl rfl 22 (by decide) fl_63 (fun _ h9 => h9) rfl dX10_behind_22 ?_
  refine lv_iconst (v := (1 : Int32)) hx hb dX10_behind_25 (by decide) ?_
  refine lv_iadd hx hb dX10_behind_26 ?_
  refine jt_i hJ (fun x26 hJ => ?_)
  refine va_put (ci := 8) (v := .int x26) (ty := .int) (C := RX10) (T := TX10) (N := 24) hx hb hts hin_X10 tyX10 tyX10_ok nmX10 hown hK hP hD hS 0 rfl rfl 22 (by decide) fl_63 (fun _ h9 => h9) rfl (by decide +kernel) rfl rfl (Nat.le_of_ble_eq_true rfl) dX10_behind_27 (fun H locs hP hD hS => ?_)
  have hP : va_P D vwCl [(q_t, .inr (8, [.ref q_t_now, .ref q_t_tried, .ref q_t_thought, .ref q_t_kept, .int t_undos, .ref q_t_saved, .int t_isSaved, .ref q_t_finds, .ref q_t_reach, .ref q_t_steps, .ref q_t_glows, .ref q_t_lower, .ref q_t_upper, .ref q_t_line, .int t_lined, .ref q_t_text, .int t_length, .int t_at, .int t_order, .ref q_t_told, .ref q_t_why, .ref q_t_more, .int x26, .int t_answer])), (q_t_why, .inl (cI, 4, .inl (upd t_why t_whys.toNatClampNeg v1))), (q_t_more, .inl (cI, 4, .inl (upd t_more t_whys.toNatClampNeg v2)))] H := hP
  have hD : va_D A [(q_t, .inr (8, [.ref q_t_now, .ref q_t_tried, .ref q_t_thought, .ref q_t_kept, .int t_undos, .ref q_t_saved, .int t_isSaved, .ref q_t_finds, .ref q_t_reach, .ref q_t_steps, .ref q_t_glows, .ref q_t_lower, .ref q_t_upper, .ref q_t_line, .int t_lined, .ref q_t_text, .int t_length, .int t_at, .int t_order, .ref q_t_told, .ref q_t_why, .ref q_t_more, .int x26, .int t_answer])), (q_t_why, .inl (cI, 4, .inl (upd t_why t_whys.toNatClampNeg v1))), (q_t_more, .inl (cI, 4, .inl (upd t_more t_whys.toNatClampNeg v2)))] := hD
  refine lv_bipush (v := (-14 : Int32)) hx hb dX10_behind_30 (by decide) ?_
  have hJ := Option.some.inj hJ
  obtain ⟨e0, e1, e2, e3⟩ : ((-14 : Int32)) = r ∧ (x26) = o_t_whys ∧ ((upd t_why t_whys.toNatClampNeg v1)) = o_t_why ∧ ((upd t_more t_whys.toNatClampNeg v2)) = o_t_more := ⟨congrArg (fun z => z.1) hJ, congrArg (fun z => z.2.1) hJ, congrArg (fun z => z.2.2.1) hJ, congrArg (fun z => z.2.2.2) hJ⟩
  exact hRet (by rw [← e1, ← e2, ← e3]; exact hP) (by rw [← e1, ← e2, ← e3]; exact hD) hS e0 dX10_behind_32

def J_X10_does (v1 : Int32) : Option (Int32 × Int32) :=
    some ((0 : Int32), v1)
abbrev rmX10_does : Room := { frames := 0, cells := 0, slots := 0, locals := 0 }
set_option maxHeartbeats 4000000 in
set_option maxRecDepth 100000 in
theorem c_X10_does (l : Launch) (D : va_G) (cI cJ cC cL : ClassId) (q_t q_t_now q_t_tried q_t_thought q_t_kept q_t_saved q_t_finds q_t_reach q_t_steps q_t_glows q_t_lower q_t_upper q_t_line q_t_text q_t_told q_t_why q_t_more : Nat) (t_undos : Int32) (t_isSaved : Int32) (t_lined : Int32) (t_length : Int32) (t_at : Int32) (t_order : Int32) (t_whys : Int32) (t_answer : Int32) (v1 : Int32) (r : Int32) (o_t_answer : Int32) (hJ : J_X10_does v1 = some (r, o_t_answer)) (sz : Nat) : Met l yX10_does wsX10_does rmX10_does (va_Pc [.ref q_t, .int v1] (jpre XT D (tyL cI cJ cC cL) [(q_t, .inr (8, [.ref q_t_now, .ref q_t_tried, .ref q_t_thought, .ref q_t_kept, .int t_undos, .ref q_t_saved, .int t_isSaved, .ref q_t_finds, .ref q_t_reach, .ref q_t_steps, .ref q_t_glows, .ref q_t_lower, .ref q_t_upper, .ref q_t_line, .int t_lined, .ref q_t_text, .int t_length, .int t_at, .int t_order, .ref q_t_told, .ref q_t_why, .ref q_t_more, .int t_whys, .int t_answer]))] sz)) (va_Qi (fun r' (_ : Unit) => r' = r) (fun _ t => jpost D (tyL cI cJ cC cL) (va_A [(q_t, .inr (8, [.ref q_t_now, .ref q_t_tried, .ref q_t_thought, .ref q_t_kept, .int t_undos, .ref q_t_saved, .int t_isSaved, .ref q_t_finds, .ref q_t_reach, .ref q_t_steps, .ref q_t_glows, .ref q_t_lower, .ref q_t_upper, .ref q_t_line, .int t_lined, .ref q_t_text, .int t_length, .int t_at, .int t_order, .ref q_t_told, .ref q_t_why, .ref q_t_more, .int t_whys, .int t_answer]))] sz) [(q_t, .inr (8, [.ref q_t_now, .ref q_t_tried, .ref q_t_thought, .ref q_t_kept, .int t_undos, .ref q_t_saved, .int t_isSaved, .ref q_t_finds, .ref q_t_reach, .ref q_t_steps, .ref q_t_glows, .ref q_t_lower, .ref q_t_upper, .ref q_t_line, .int t_lined, .ref q_t_text, .int t_length, .int t_at, .int t_order, .ref q_t_told, .ref q_t_why, .ref q_t_more, .int t_whys, .int o_t_answer]))] t) (va_A [(q_t, .inr (8, [.ref q_t_now, .ref q_t_tried, .ref q_t_thought, .ref q_t_kept, .int t_undos, .ref q_t_saved, .int t_isSaved, .ref q_t_finds, .ref q_t_reach, .ref q_t_steps, .ref q_t_glows, .ref q_t_lower, .ref q_t_upper, .ref q_t_line, .int t_lined, .ref q_t_text, .int t_length, .int t_at, .int t_order, .ref q_t_told, .ref q_t_why, .ref q_t_more, .int t_whys, .int t_answer]))] sz)) 0 0 (va_A [(q_t, .inr (8, [.ref q_t_now, .ref q_t_tried, .ref q_t_thought, .ref q_t_kept, .int t_undos, .ref q_t_saved, .int t_isSaved, .ref q_t_finds, .ref q_t_reach, .ref q_t_steps, .ref q_t_glows, .ref q_t_lower, .ref q_t_upper, .ref q_t_line, .int t_lined, .ref q_t_text, .int t_length, .int t_at, .int t_order, .ref q_t_told, .ref q_t_why, .ref q_t_more, .int t_whys, .int t_answer]))] sz) := by
  refine jE_i (cc := cX10_does) (maxL := 2) (own := RX10) (ret := (some .int)) (lv0 := [(0, .ref q_t), (1, .int v1)]) (by decide) rfl rfl rfl (Nat.le_of_ble_eq_true rfl) rfl ?_
  intro p e s m args below meth c A Q ls hx hb hml hown hts hK hN hX hA hP hD hS hl hRet
  have hF : CallFix p m c cX10_does 2 s args wsX10_does RX10 := ⟨hx, hb, hml, hown, hts⟩
  have fl_66 := hts (.fieldLink RX10 66 "LanternLogicModel" "answer" "I") (by decide +kernel)
  have hin_X10 : ∀ w ∈ u_ws RX10 TX10 24, w ∈ wsX10_does := by decide +kernel
  unfold J_X10_does at hJ
  refine lv_aload_n hx hb dX10_does_0 rfl (lv_at hl 0 rfl) ?_
  refine lv_iload_n hx hb dX10_does_1 rfl (lv_at hl 1 rfl) ?_
  refine va_put (ci := 8) (v := .int v1) (ty := .int) (C := RX10) (T := TX10) (N := 24) hx hb hts hin_X10 tyX10 tyX10_ok nmX10 hown hK hP hD hS 0 rfl rfl 23 (by decide) fl_66 (fun _ h9 => h9) rfl (by decide +kernel) rfl rfl (Nat.le_of_ble_eq_true rfl) dX10_does_2 (fun H locs hP hD hS => ?_)
  have hP : va_P D vwCl [(q_t, .inr (8, [.ref q_t_now, .ref q_t_tried, .ref q_t_thought, .ref q_t_kept, .int t_undos, .ref q_t_saved, .int t_isSaved, .ref q_t_finds, .ref q_t_reach, .ref q_t_steps, .ref q_t_glows, .ref q_t_lower, .ref q_t_upper, .ref q_t_line, .int t_lined, .ref q_t_text, .int t_length, .int t_at, .int t_order, .ref q_t_told, .ref q_t_why, .ref q_t_more, .int t_whys, .int v1]))] H := hP
  have hD : va_D A [(q_t, .inr (8, [.ref q_t_now, .ref q_t_tried, .ref q_t_thought, .ref q_t_kept, .int t_undos, .ref q_t_saved, .int t_isSaved, .ref q_t_finds, .ref q_t_reach, .ref q_t_steps, .ref q_t_glows, .ref q_t_lower, .ref q_t_upper, .ref q_t_line, .int t_lined, .ref q_t_text, .int t_length, .int t_at, .int t_order, .ref q_t_told, .ref q_t_why, .ref q_t_more, .int t_whys, .int v1]))] := hD
  refine lv_iconst (v := (0 : Int32)) hx hb dX10_does_5 (by decide) ?_
  have hJ := Option.some.inj hJ
  obtain ⟨e0, e1⟩ : ((0 : Int32)) = r ∧ (v1) = o_t_answer := ⟨congrArg (fun z => z.1) hJ, congrArg (fun z => z.2) hJ⟩
  exact hRet (by rw [← e1]; exact hP) (by rw [← e1]; exact hD) hS e0 dX10_does_6

def J_X10_ends_b16 (t_answer : Int32) (t_tried : Nat → Int32) (v1 : Int32) (t_undos : Int32) (t_kept : Nat → Int32) (s16_0 : Int32) : Option (Int32 × Int32 × (Nat → Int32)) :=
    some (s16_0, t_undos, t_kept)
def J_X10_ends (t_undos : Int32) (t_answer : Int32) (t_tried : Nat → Int32) (t_kept : Nat → Int32) (v1 : Int32) : Option (Int32 × Int32 × (Nat → Int32)) :=
    if v1 = 0 then (
    bnd3 (J_X10_keeps t_undos t_tried t_kept t_answer) fun x9 t_undos_9 t_kept_9 =>
    J_X10_ends_b16 t_answer t_tried v1 t_undos_9 t_kept_9 x9)
    else (
    J_X10_ends_b16 t_answer t_tried v1 t_undos t_kept v1)
abbrev rmX10_ends : Room := { frames := 1, cells := 0, slots := 0, locals := 22 }
set_option maxHeartbeats 4000000 in
set_option maxRecDepth 100000 in
theorem c_X10_ends (l : Launch) (D : va_G) (cI cJ cC cL : ClassId) (q_t q_t_now q_t_tried q_t_thought q_t_kept q_t_saved q_t_finds q_t_reach q_t_steps q_t_glows q_t_lower q_t_upper q_t_line q_t_text q_t_told q_t_why q_t_more : Nat) (t_undos : Int32) (t_isSaved : Int32) (t_lined : Int32) (t_length : Int32) (t_at : Int32) (t_order : Int32) (t_whys : Int32) (t_answer : Int32) (t_tried : Nat → Int32) (t_kept : Nat → Int32) (v1 : Int32) (r : Int32) (o_t_undos : Int32) (o_t_kept : Nat → Int32) (hJ : J_X10_ends t_undos t_answer t_tried t_kept v1 = some (r, o_t_undos, o_t_kept)) (sz : Nat) : Met l yX10_ends wsX10_ends rmX10_ends (va_Pc [.ref q_t, .int v1] (jpre XT D (tyL cI cJ cC cL) [(q_t, .inr (8, [.ref q_t_now, .ref q_t_tried, .ref q_t_thought, .ref q_t_kept, .int t_undos, .ref q_t_saved, .int t_isSaved, .ref q_t_finds, .ref q_t_reach, .ref q_t_steps, .ref q_t_glows, .ref q_t_lower, .ref q_t_upper, .ref q_t_line, .int t_lined, .ref q_t_text, .int t_length, .int t_at, .int t_order, .ref q_t_told, .ref q_t_why, .ref q_t_more, .int t_whys, .int t_answer])), (q_t_tried, .inl (cI, 133, .inl t_tried)), (q_t_kept, .inl (cI, 1064, .inl t_kept))] sz)) (va_Qi (fun r' (_ : Unit) => r' = r) (fun _ t => jpost D (tyL cI cJ cC cL) (va_A [(q_t, .inr (8, [.ref q_t_now, .ref q_t_tried, .ref q_t_thought, .ref q_t_kept, .int t_undos, .ref q_t_saved, .int t_isSaved, .ref q_t_finds, .ref q_t_reach, .ref q_t_steps, .ref q_t_glows, .ref q_t_lower, .ref q_t_upper, .ref q_t_line, .int t_lined, .ref q_t_text, .int t_length, .int t_at, .int t_order, .ref q_t_told, .ref q_t_why, .ref q_t_more, .int t_whys, .int t_answer])), (q_t_tried, .inl (cI, 133, .inl t_tried)), (q_t_kept, .inl (cI, 1064, .inl t_kept))] sz) [(q_t, .inr (8, [.ref q_t_now, .ref q_t_tried, .ref q_t_thought, .ref q_t_kept, .int o_t_undos, .ref q_t_saved, .int t_isSaved, .ref q_t_finds, .ref q_t_reach, .ref q_t_steps, .ref q_t_glows, .ref q_t_lower, .ref q_t_upper, .ref q_t_line, .int t_lined, .ref q_t_text, .int t_length, .int t_at, .int t_order, .ref q_t_told, .ref q_t_why, .ref q_t_more, .int t_whys, .int t_answer])), (q_t_tried, .inl (cI, 133, .inl t_tried)), (q_t_kept, .inl (cI, 1064, .inl o_t_kept))] t) (va_A [(q_t, .inr (8, [.ref q_t_now, .ref q_t_tried, .ref q_t_thought, .ref q_t_kept, .int t_undos, .ref q_t_saved, .int t_isSaved, .ref q_t_finds, .ref q_t_reach, .ref q_t_steps, .ref q_t_glows, .ref q_t_lower, .ref q_t_upper, .ref q_t_line, .int t_lined, .ref q_t_text, .int t_length, .int t_at, .int t_order, .ref q_t_told, .ref q_t_why, .ref q_t_more, .int t_whys, .int t_answer])), (q_t_tried, .inl (cI, 133, .inl t_tried)), (q_t_kept, .inl (cI, 1064, .inl t_kept))] sz)) 0 0 (va_A [(q_t, .inr (8, [.ref q_t_now, .ref q_t_tried, .ref q_t_thought, .ref q_t_kept, .int t_undos, .ref q_t_saved, .int t_isSaved, .ref q_t_finds, .ref q_t_reach, .ref q_t_steps, .ref q_t_glows, .ref q_t_lower, .ref q_t_upper, .ref q_t_line, .int t_lined, .ref q_t_text, .int t_length, .int t_at, .int t_order, .ref q_t_told, .ref q_t_why, .ref q_t_more, .int t_whys, .int t_answer])), (q_t_tried, .inl (cI, 133, .inl t_tried)), (q_t_kept, .inl (cI, 1064, .inl t_kept))] sz) := by
  refine jE_i (cc := cX10_ends) (maxL := 2) (own := RX10) (ret := (some .int)) (lv0 := [(0, .ref q_t), (1, .int v1)]) (by decide) rfl rfl rfl (Nat.le_of_ble_eq_true rfl) rfl ?_
  intro p e s m args below meth c A Q ls hx hb hml hown hts hK hN hX hA hP hD hS hl hRet
  have hF : CallFix p m c cX10_ends 2 s args wsX10_ends RX10 := ⟨hx, hb, hml, hown, hts⟩
  have fl_66 := hts (.fieldLink RX10 66 "LanternLogicModel" "answer" "I") (by decide +kernel)
  have hin_X10 : ∀ w ∈ u_ws RX10 TX10 24, w ∈ wsX10_ends := by decide +kernel
  have B16 : ∀ (t_undos : Int32) (t_kept : Nat → Int32) (s16_0 : Int32) (H : Heap) (locs : List Loc), va_P D vwCl [(q_t, .inr (8, [.ref q_t_now, .ref q_t_tried, .ref q_t_thought, .ref q_t_kept, .int t_undos, .ref q_t_saved, .int t_isSaved, .ref q_t_finds, .ref q_t_reach, .ref q_t_steps, .ref q_t_glows, .ref q_t_lower, .ref q_t_upper, .ref q_t_line, .int t_lined, .ref q_t_text, .int t_length, .int t_at, .int t_order, .ref q_t_told, .ref q_t_why, .ref q_t_more, .int t_whys, .int t_answer])), (q_t_tried, .inl (cI, 133, .inl t_tried)), (q_t_kept, .inl (cI, 1064, .inl t_kept))] H → va_D A [(q_t, .inr (8, [.ref q_t_now, .ref q_t_tried, .ref q_t_thought, .ref q_t_kept, .int t_undos, .ref q_t_saved, .int t_isSaved, .ref q_t_finds, .ref q_t_reach, .ref q_t_steps, .ref q_t_glows, .ref q_t_lower, .ref q_t_upper, .ref q_t_line, .int t_lined, .ref q_t_text, .int t_length, .int t_at, .int t_order, .ref q_t_told, .ref q_t_why, .ref q_t_more, .int t_whys, .int t_answer])), (q_t_tried, .inl (cI, 133, .inl t_tried)), (q_t_kept, .inl (cI, 1064, .inl t_kept))] → va_S A s.heap H locs → ∀ ls : Array Slot, lv_has ls 2 [] → J_X10_ends_b16  t_answer t_tried v1 t_undos t_kept s16_0 = some (r, o_t_undos, o_t_kept) → W p l e rmX10_ends s m args below meth c H locs 0 0 Q (F0 m 16 ls [.int s16_0]) := by
    intro t_undos t_kept s16_0 H locs hP hD hS ls hl hJ
    unfold J_X10_ends_b16 at hJ
    have hJ := Option.some.inj hJ
    obtain ⟨e0, e1, e2⟩ : (s16_0) = r ∧ (t_undos) = o_t_undos ∧ (t_kept) = o_t_kept := ⟨congrArg (fun z => z.1) hJ, congrArg (fun z => z.2.1) hJ, congrArg (fun z => z.2.2) hJ⟩
    exact hRet (by rw [← e1, ← e2]; exact hP) (by rw [← e1, ← e2]; exact hD) hS e0 dX10_ends_16
  unfold J_X10_ends at hJ
  refine lv_iload_n hx hb dX10_ends_0 rfl (lv_at hl 1 rfl) ?_
  refine jif_ne (tgt := 15) hx hb dX10_ends_1 (by decide) hJ (fun hJ => ?_) (fun hJ => ?_)
  · refine lv_iload_n hx hb dX10_ends_15 rfl (lv_at hl 1 rfl) ?_
    exact B16  t_undos t_kept v1  s.heap []  hP hD hS _ (lv_sub hl [] rfl) hJ
  · refine lv_aload_n hx hb dX10_ends_4 rfl (lv_at hl 0 rfl) ?_
    refine lv_aload_n hx hb dX10_ends_5 rfl (lv_at hl 0 rfl) ?_
    refine va_get (ci := 8) (v := .int t_answer) (C := RX10) (T := TX10) (N := 24) hx hb hts hin_X10 hown hK hP 0 rfl rfl 23 (by decide) fl_66 (fun _ h9 => h9) rfl dX10_ends_6 ?_
    obtain ⟨x9, t_undos_9, t_kept_9, hc9, hJ⟩ := bnd3_some hJ
    refine jcV_i (C := RX10) (T := TX10) (N := 24) (ci := 8) (q0 := 0) (As := [.int t_answer]) (rest := []) (isC := [0, 1, 2]) (isR := []) (isB := [0, 1, 2]) (wr := []) (ws2 := [(q_t, .inr (8, [.ref q_t_now, .ref q_t_tried, .ref q_t_thought, .ref q_t_kept, .int t_undos_9, .ref q_t_saved, .int t_isSaved, .ref q_t_finds, .ref q_t_reach, .ref q_t_steps, .ref q_t_glows, .ref q_t_lower, .ref q_t_upper, .ref q_t_line, .int t_lined, .ref q_t_text, .int t_length, .int t_at, .int t_order, .ref q_t_told, .ref q_t_why, .ref q_t_more, .int t_whys, .int t_answer])), (q_t_tried, .inl (cI, 133, .inl t_tried)), (q_t_kept, .inl (cI, 1064, .inl t_kept_9))]) hF (c_X10_keeps l D cI cJ cC cL q_t q_t_now q_t_tried q_t_thought q_t_kept q_t_saved q_t_finds q_t_reach q_t_steps q_t_glows q_t_lower q_t_upper q_t_line q_t_text q_t_told q_t_why q_t_more t_undos t_isSaved t_lined t_length t_at t_order t_whys t_answer t_tried t_kept t_answer x9 t_undos_9 t_kept_9 hc9 s.heap.size) (cwV 1 hts gX10_ends_X10_keeps rfl rfl rfl (by decide +kernel) ⟨Nat.le_of_ble_eq_true rfl, Nat.le_of_ble_eq_true rfl⟩) rfl hl rfl (Nat.le_of_ble_eq_true rfl) dX10_ends_9 ⟨Nat.zero_le _, Nat.zero_le _⟩ hK hN KX_T trivial hP hD hS hA rfl rfl rfl rfl rfl rfl (by decide) rfl rfl (fun H locs hP hD hS => ?_)
    refine lv_goto (tgt := 16) hx hb dX10_ends_12 (by decide) ?_
    exact B16  t_undos_9 t_kept_9 x9  H locs  hP hD hS _ (lv_sub hl [] rfl) hJ

def J_X10_isLantern (t_now : Nat → Int32) (v1 : Int32) : Option (Int32) :=
    chk (0 : Int32) 133 (
    nm (t_now (0 : Int32).toNatClampNeg) fun x7 =>
    nm (x7 - (1 : Int32)) fun x9 =>
    bnd1 (J_X10_in v1 (0 : Int32) x9) fun x10 =>
    chz x10 (some (x10)))
abbrev rmX10_isLantern : Room := { frames := 1, cells := 0, slots := 0, locals := 22 }
set_option maxHeartbeats 4000000 in
set_option maxRecDepth 100000 in
theorem c_X10_isLantern (l : Launch) (D : va_G) (cI cJ cC cL : ClassId) (q_t q_t_now q_t_tried q_t_thought q_t_kept q_t_saved q_t_finds q_t_reach q_t_steps q_t_glows q_t_lower q_t_upper q_t_line q_t_text q_t_told q_t_why q_t_more : Nat) (t_undos : Int32) (t_isSaved : Int32) (t_lined : Int32) (t_length : Int32) (t_at : Int32) (t_order : Int32) (t_whys : Int32) (t_answer : Int32) (t_now : Nat → Int32) (v1 : Int32) (r : Int32) (hJ : J_X10_isLantern t_now v1 = some (r)) (sz : Nat) : Met l yX10_isLantern wsX10_isLantern rmX10_isLantern (va_Pc [.ref q_t, .int v1] (jpre XT D (tyL cI cJ cC cL) [(q_t, .inr (8, [.ref q_t_now, .ref q_t_tried, .ref q_t_thought, .ref q_t_kept, .int t_undos, .ref q_t_saved, .int t_isSaved, .ref q_t_finds, .ref q_t_reach, .ref q_t_steps, .ref q_t_glows, .ref q_t_lower, .ref q_t_upper, .ref q_t_line, .int t_lined, .ref q_t_text, .int t_length, .int t_at, .int t_order, .ref q_t_told, .ref q_t_why, .ref q_t_more, .int t_whys, .int t_answer])), (q_t_now, .inl (cI, 133, .inl t_now))] sz)) (va_Qi (fun r' (_ : Unit) => r' = r) (fun _ t => jpost D (tyL cI cJ cC cL) (va_A [(q_t, .inr (8, [.ref q_t_now, .ref q_t_tried, .ref q_t_thought, .ref q_t_kept, .int t_undos, .ref q_t_saved, .int t_isSaved, .ref q_t_finds, .ref q_t_reach, .ref q_t_steps, .ref q_t_glows, .ref q_t_lower, .ref q_t_upper, .ref q_t_line, .int t_lined, .ref q_t_text, .int t_length, .int t_at, .int t_order, .ref q_t_told, .ref q_t_why, .ref q_t_more, .int t_whys, .int t_answer])), (q_t_now, .inl (cI, 133, .inl t_now))] sz) [(q_t, .inr (8, [.ref q_t_now, .ref q_t_tried, .ref q_t_thought, .ref q_t_kept, .int t_undos, .ref q_t_saved, .int t_isSaved, .ref q_t_finds, .ref q_t_reach, .ref q_t_steps, .ref q_t_glows, .ref q_t_lower, .ref q_t_upper, .ref q_t_line, .int t_lined, .ref q_t_text, .int t_length, .int t_at, .int t_order, .ref q_t_told, .ref q_t_why, .ref q_t_more, .int t_whys, .int t_answer])), (q_t_now, .inl (cI, 133, .inl t_now))] t) (va_A [(q_t, .inr (8, [.ref q_t_now, .ref q_t_tried, .ref q_t_thought, .ref q_t_kept, .int t_undos, .ref q_t_saved, .int t_isSaved, .ref q_t_finds, .ref q_t_reach, .ref q_t_steps, .ref q_t_glows, .ref q_t_lower, .ref q_t_upper, .ref q_t_line, .int t_lined, .ref q_t_text, .int t_length, .int t_at, .int t_order, .ref q_t_told, .ref q_t_why, .ref q_t_more, .int t_whys, .int t_answer])), (q_t_now, .inl (cI, 133, .inl t_now))] sz)) 0 0 (va_A [(q_t, .inr (8, [.ref q_t_now, .ref q_t_tried, .ref q_t_thought, .ref q_t_kept, .int t_undos, .ref q_t_saved, .int t_isSaved, .ref q_t_finds, .ref q_t_reach, .ref q_t_steps, .ref q_t_glows, .ref q_t_lower, .ref q_t_upper, .ref q_t_line, .int t_lined, .ref q_t_text, .int t_length, .int t_at, .int t_order, .ref q_t_told, .ref q_t_why, .ref q_t_more, .int t_whys, .int t_answer])), (q_t_now, .inl (cI, 133, .inl t_now))] sz) := by
  refine jE_z (cc := cX10_isLantern) (maxL := 2) (own := RX10) (ret := (some .boolean)) (lv0 := [(0, .ref q_t), (1, .int v1)]) (by decide) rfl rfl rfl (Nat.le_of_ble_eq_true rfl) rfl ?_
  intro p e s m args below meth c A Q ls hx hb hml hown hts hK hN hX hA hP hD hS hl hRet
  have hF : CallFix p m c cX10_isLantern 2 s args wsX10_isLantern RX10 := ⟨hx, hb, hml, hown, hts⟩
  have fl_9 := hts (.fieldLink RX10 9 "LanternLogicModel" "now" "[I") (by decide +kernel)
  have hin_X10 : ∀ w ∈ u_ws RX10 TX10 24, w ∈ wsX10_isLantern := by decide +kernel
  unfold J_X10_isLantern at hJ
  refine lv_iload_n hx hb dX10_isLantern_0 rfl (lv_at hl 1 rfl) ?_
  refine lv_iconst (v := (0 : Int32)) hx hb dX10_isLantern_1 (by decide) ?_
  refine lv_aload_n hx hb dX10_isLantern_2 rfl (lv_at hl 0 rfl) ?_
  refine va_get (ci := 8) (v := .ref q_t_now) (C := RX10) (T := TX10) (N := 24) hx hb hts hin_X10 hown hK hP 0 rfl rfl 0 (by decide) fl_9 (fun _ h9 => h9) rfl dX10_isLantern_3 ?_
  refine lv_iconst (v := (0 : Int32)) hx hb dX10_isLantern_6 (by decide) ?_
  obtain ⟨hin, hJ⟩ := chk_in hJ
  refine va_iald hx hb hK hP 1 0 rfl rfl hin dX10_isLantern_7 ?_
  refine jt_i hJ (fun x7 hJ => ?_)
  refine lv_iconst (v := (1 : Int32)) hx hb dX10_isLantern_8 (by decide) ?_
  refine lv_isub hx hb dX10_isLantern_9 ?_
  refine jt_i hJ (fun x9 hJ => ?_)
  obtain ⟨x10, hc10, hJ⟩ := bnd1_some hJ
  refine jcS_i (As := [.int v1, .int (0 : Int32), .int x9]) (rest := []) (isC := []) (isR := [0, 1]) (isB := [0, 1]) (wr := [(q_t, .inr (8, [.ref q_t_now, .ref q_t_tried, .ref q_t_thought, .ref q_t_kept, .int t_undos, .ref q_t_saved, .int t_isSaved, .ref q_t_finds, .ref q_t_reach, .ref q_t_steps, .ref q_t_glows, .ref q_t_lower, .ref q_t_upper, .ref q_t_line, .int t_lined, .ref q_t_text, .int t_length, .int t_at, .int t_order, .ref q_t_told, .ref q_t_why, .ref q_t_more, .int t_whys, .int t_answer])), (q_t_now, .inl (cI, 133, .inl t_now))]) (ws2 := [(q_t, .inr (8, [.ref q_t_now, .ref q_t_tried, .ref q_t_thought, .ref q_t_kept, .int t_undos, .ref q_t_saved, .int t_isSaved, .ref q_t_finds, .ref q_t_reach, .ref q_t_steps, .ref q_t_glows, .ref q_t_lower, .ref q_t_upper, .ref q_t_line, .int t_lined, .ref q_t_text, .int t_length, .int t_at, .int t_order, .ref q_t_told, .ref q_t_why, .ref q_t_more, .int t_whys, .int t_answer])), (q_t_now, .inl (cI, 133, .inl t_now))]) hF (c_X10_in l D cI cJ cC cL v1 (0 : Int32) x9 x10 hc10 s.heap.size) (va_cwS 3 hts gX10_isLantern_X10_in rfl rfl rfl (by decide +kernel) ⟨Nat.le_of_ble_eq_true rfl, Nat.le_of_ble_eq_true rfl⟩) rfl hl rfl (Nat.le_of_ble_eq_true rfl) dX10_isLantern_10 ⟨Nat.zero_le _, Nat.zero_le _⟩ hK hN KX_T trivial hP hD hS hA rfl rfl rfl rfl (by decide) rfl rfl (fun H locs hP hD hS => ?_)
  obtain ⟨h01, hJ⟩ := chz_ok hJ
  have e0 := Option.some.inj hJ
  exact hRet hP hD hS h01 e0 dX10_isLantern_13

def J_X10_of (t_now : Nat → Int32) (v1 : Int32) (v2 : Int32) : Option (Int32) :=
    nm ((5 : Int32) + ((8 : Int32) * v1)) fun x9 =>
    nm (x9 + v2) fun x11 =>
    chk x11 133 (
    nm (t_now x11.toNatClampNeg) fun x12 =>
    some (x12))
abbrev rmX10_of : Room := { frames := 0, cells := 0, slots := 0, locals := 0 }
set_option maxHeartbeats 4000000 in
set_option maxRecDepth 100000 in
theorem c_X10_of (l : Launch) (D : va_G) (cI cJ cC cL : ClassId) (q_t q_t_now q_t_tried q_t_thought q_t_kept q_t_saved q_t_finds q_t_reach q_t_steps q_t_glows q_t_lower q_t_upper q_t_line q_t_text q_t_told q_t_why q_t_more : Nat) (t_undos : Int32) (t_isSaved : Int32) (t_lined : Int32) (t_length : Int32) (t_at : Int32) (t_order : Int32) (t_whys : Int32) (t_answer : Int32) (t_now : Nat → Int32) (v1 : Int32) (v2 : Int32) (r : Int32) (hJ : J_X10_of t_now v1 v2 = some (r)) (sz : Nat) : Met l yX10_of wsX10_of rmX10_of (va_Pc [.ref q_t, .int v1, .int v2] (jpre XT D (tyL cI cJ cC cL) [(q_t, .inr (8, [.ref q_t_now, .ref q_t_tried, .ref q_t_thought, .ref q_t_kept, .int t_undos, .ref q_t_saved, .int t_isSaved, .ref q_t_finds, .ref q_t_reach, .ref q_t_steps, .ref q_t_glows, .ref q_t_lower, .ref q_t_upper, .ref q_t_line, .int t_lined, .ref q_t_text, .int t_length, .int t_at, .int t_order, .ref q_t_told, .ref q_t_why, .ref q_t_more, .int t_whys, .int t_answer])), (q_t_now, .inl (cI, 133, .inl t_now))] sz)) (va_Qi (fun r' (_ : Unit) => r' = r) (fun _ t => jpost D (tyL cI cJ cC cL) (va_A [(q_t, .inr (8, [.ref q_t_now, .ref q_t_tried, .ref q_t_thought, .ref q_t_kept, .int t_undos, .ref q_t_saved, .int t_isSaved, .ref q_t_finds, .ref q_t_reach, .ref q_t_steps, .ref q_t_glows, .ref q_t_lower, .ref q_t_upper, .ref q_t_line, .int t_lined, .ref q_t_text, .int t_length, .int t_at, .int t_order, .ref q_t_told, .ref q_t_why, .ref q_t_more, .int t_whys, .int t_answer])), (q_t_now, .inl (cI, 133, .inl t_now))] sz) [(q_t, .inr (8, [.ref q_t_now, .ref q_t_tried, .ref q_t_thought, .ref q_t_kept, .int t_undos, .ref q_t_saved, .int t_isSaved, .ref q_t_finds, .ref q_t_reach, .ref q_t_steps, .ref q_t_glows, .ref q_t_lower, .ref q_t_upper, .ref q_t_line, .int t_lined, .ref q_t_text, .int t_length, .int t_at, .int t_order, .ref q_t_told, .ref q_t_why, .ref q_t_more, .int t_whys, .int t_answer])), (q_t_now, .inl (cI, 133, .inl t_now))] t) (va_A [(q_t, .inr (8, [.ref q_t_now, .ref q_t_tried, .ref q_t_thought, .ref q_t_kept, .int t_undos, .ref q_t_saved, .int t_isSaved, .ref q_t_finds, .ref q_t_reach, .ref q_t_steps, .ref q_t_glows, .ref q_t_lower, .ref q_t_upper, .ref q_t_line, .int t_lined, .ref q_t_text, .int t_length, .int t_at, .int t_order, .ref q_t_told, .ref q_t_why, .ref q_t_more, .int t_whys, .int t_answer])), (q_t_now, .inl (cI, 133, .inl t_now))] sz)) 0 0 (va_A [(q_t, .inr (8, [.ref q_t_now, .ref q_t_tried, .ref q_t_thought, .ref q_t_kept, .int t_undos, .ref q_t_saved, .int t_isSaved, .ref q_t_finds, .ref q_t_reach, .ref q_t_steps, .ref q_t_glows, .ref q_t_lower, .ref q_t_upper, .ref q_t_line, .int t_lined, .ref q_t_text, .int t_length, .int t_at, .int t_order, .ref q_t_told, .ref q_t_why, .ref q_t_more, .int t_whys, .int t_answer])), (q_t_now, .inl (cI, 133, .inl t_now))] sz) := by
  refine jE_i (cc := cX10_of) (maxL := 3) (own := RX10) (ret := (some .int)) (lv0 := [(0, .ref q_t), (1, .int v1), (2, .int v2)]) (by decide) rfl rfl rfl (Nat.le_of_ble_eq_true rfl) rfl ?_
  intro p e s m args below meth c A Q ls hx hb hml hown hts hK hN hX hA hP hD hS hl hRet
  have hF : CallFix p m c cX10_of 3 s args wsX10_of RX10 := ⟨hx, hb, hml, hown, hts⟩
  have fl_9 := hts (.fieldLink RX10 9 "LanternLogicModel" "now" "[I") (by decide +kernel)
  have hin_X10 : ∀ w ∈ u_ws RX10 TX10 24, w ∈ wsX10_of := by decide +kernel
  unfold J_X10_of at hJ
  refine lv_aload_n hx hb dX10_of_0 rfl (lv_at hl 0 rfl) ?_
  refine va_get (ci := 8) (v := .ref q_t_now) (C := RX10) (T := TX10) (N := 24) hx hb hts hin_X10 hown hK hP 0 rfl rfl 0 (by decide) fl_9 (fun _ h9 => h9) rfl dX10_of_1 ?_
  refine lv_iconst (v := (5 : Int32)) hx hb dX10_of_4 (by decide) ?_
  refine lv_bipush (v := (8 : Int32)) hx hb dX10_of_5 (by decide) ?_
  refine lv_iload_n hx hb dX10_of_7 rfl (lv_at hl 1 rfl) ?_
  refine lv_imul hx hb dX10_of_8 ?_
  refine lv_iadd hx hb dX10_of_9 ?_
  refine jt_i hJ (fun x9 hJ => ?_)
  refine lv_iload_n hx hb dX10_of_10 rfl (lv_at hl 2 rfl) ?_
  refine lv_iadd hx hb dX10_of_11 ?_
  refine jt_i hJ (fun x11 hJ => ?_)
  obtain ⟨hin, hJ⟩ := chk_in hJ
  refine va_iald hx hb hK hP 1 0 rfl rfl hin dX10_of_12 ?_
  refine jt_i hJ (fun x12 hJ => ?_)
  have e0 := Option.some.inj hJ
  exact hRet hP hD hS e0 dX10_of_13

def J_X10_sets (t_now : Nat → Int32) (v1 : Int32) (v2 : Int32) (v3 : Int32) : Option ((Nat → Int32)) :=
    nm ((5 : Int32) + ((8 : Int32) * v1)) fun x9 =>
    nm (x9 + v2) fun x11 =>
    chk x11 133 (
    some ((upd t_now x11.toNatClampNeg v3)))
abbrev rmX10_sets : Room := { frames := 0, cells := 0, slots := 0, locals := 0 }
set_option maxHeartbeats 4000000 in
set_option maxRecDepth 100000 in
theorem c_X10_sets (l : Launch) (D : va_G) (cI cJ cC cL : ClassId) (q_t q_t_now q_t_tried q_t_thought q_t_kept q_t_saved q_t_finds q_t_reach q_t_steps q_t_glows q_t_lower q_t_upper q_t_line q_t_text q_t_told q_t_why q_t_more : Nat) (t_undos : Int32) (t_isSaved : Int32) (t_lined : Int32) (t_length : Int32) (t_at : Int32) (t_order : Int32) (t_whys : Int32) (t_answer : Int32) (t_now : Nat → Int32) (v1 : Int32) (v2 : Int32) (v3 : Int32) (o_t_now : Nat → Int32) (hJ : J_X10_sets t_now v1 v2 v3 = some (o_t_now)) (sz : Nat) : Met l yX10_sets wsX10_sets rmX10_sets (va_Pc [.ref q_t, .int v1, .int v2, .int v3] (jpre XT D (tyL cI cJ cC cL) [(q_t, .inr (8, [.ref q_t_now, .ref q_t_tried, .ref q_t_thought, .ref q_t_kept, .int t_undos, .ref q_t_saved, .int t_isSaved, .ref q_t_finds, .ref q_t_reach, .ref q_t_steps, .ref q_t_glows, .ref q_t_lower, .ref q_t_upper, .ref q_t_line, .int t_lined, .ref q_t_text, .int t_length, .int t_at, .int t_order, .ref q_t_told, .ref q_t_why, .ref q_t_more, .int t_whys, .int t_answer])), (q_t_now, .inl (cI, 133, .inl t_now))] sz)) (va_Qv (fun (_ : Unit) => True) (fun _ t => jpost D (tyL cI cJ cC cL) (va_A [(q_t, .inr (8, [.ref q_t_now, .ref q_t_tried, .ref q_t_thought, .ref q_t_kept, .int t_undos, .ref q_t_saved, .int t_isSaved, .ref q_t_finds, .ref q_t_reach, .ref q_t_steps, .ref q_t_glows, .ref q_t_lower, .ref q_t_upper, .ref q_t_line, .int t_lined, .ref q_t_text, .int t_length, .int t_at, .int t_order, .ref q_t_told, .ref q_t_why, .ref q_t_more, .int t_whys, .int t_answer])), (q_t_now, .inl (cI, 133, .inl t_now))] sz) [(q_t, .inr (8, [.ref q_t_now, .ref q_t_tried, .ref q_t_thought, .ref q_t_kept, .int t_undos, .ref q_t_saved, .int t_isSaved, .ref q_t_finds, .ref q_t_reach, .ref q_t_steps, .ref q_t_glows, .ref q_t_lower, .ref q_t_upper, .ref q_t_line, .int t_lined, .ref q_t_text, .int t_length, .int t_at, .int t_order, .ref q_t_told, .ref q_t_why, .ref q_t_more, .int t_whys, .int t_answer])), (q_t_now, .inl (cI, 133, .inl o_t_now))] t) (va_A [(q_t, .inr (8, [.ref q_t_now, .ref q_t_tried, .ref q_t_thought, .ref q_t_kept, .int t_undos, .ref q_t_saved, .int t_isSaved, .ref q_t_finds, .ref q_t_reach, .ref q_t_steps, .ref q_t_glows, .ref q_t_lower, .ref q_t_upper, .ref q_t_line, .int t_lined, .ref q_t_text, .int t_length, .int t_at, .int t_order, .ref q_t_told, .ref q_t_why, .ref q_t_more, .int t_whys, .int t_answer])), (q_t_now, .inl (cI, 133, .inl t_now))] sz)) 0 0 (va_A [(q_t, .inr (8, [.ref q_t_now, .ref q_t_tried, .ref q_t_thought, .ref q_t_kept, .int t_undos, .ref q_t_saved, .int t_isSaved, .ref q_t_finds, .ref q_t_reach, .ref q_t_steps, .ref q_t_glows, .ref q_t_lower, .ref q_t_upper, .ref q_t_line, .int t_lined, .ref q_t_text, .int t_length, .int t_at, .int t_order, .ref q_t_told, .ref q_t_why, .ref q_t_more, .int t_whys, .int t_answer])), (q_t_now, .inl (cI, 133, .inl t_now))] sz) := by
  refine jE_v (cc := cX10_sets) (maxL := 4) (own := RX10) (ret := none) (lv0 := [(0, .ref q_t), (1, .int v1), (2, .int v2), (3, .int v3)]) (by decide) rfl rfl rfl (Nat.le_of_ble_eq_true rfl) rfl ?_
  intro p e s m args below meth c A Q ls hx hb hml hown hts hK hN hX hA hP hD hS hl hRet
  have hF : CallFix p m c cX10_sets 4 s args wsX10_sets RX10 := ⟨hx, hb, hml, hown, hts⟩
  have fl_9 := hts (.fieldLink RX10 9 "LanternLogicModel" "now" "[I") (by decide +kernel)
  have hin_X10 : ∀ w ∈ u_ws RX10 TX10 24, w ∈ wsX10_sets := by decide +kernel
  unfold J_X10_sets at hJ
  refine lv_aload_n hx hb dX10_sets_0 rfl (lv_at hl 0 rfl) ?_
  refine va_get (ci := 8) (v := .ref q_t_now) (C := RX10) (T := TX10) (N := 24) hx hb hts hin_X10 hown hK hP 0 rfl rfl 0 (by decide) fl_9 (fun _ h9 => h9) rfl dX10_sets_1 ?_
  refine lv_iconst (v := (5 : Int32)) hx hb dX10_sets_4 (by decide) ?_
  refine lv_bipush (v := (8 : Int32)) hx hb dX10_sets_5 (by decide) ?_
  refine lv_iload_n hx hb dX10_sets_7 rfl (lv_at hl 1 rfl) ?_
  refine lv_imul hx hb dX10_sets_8 ?_
  refine lv_iadd hx hb dX10_sets_9 ?_
  refine jt_i hJ (fun x9 hJ => ?_)
  refine lv_iload_n hx hb dX10_sets_10 rfl (lv_at hl 2 rfl) ?_
  refine lv_iadd hx hb dX10_sets_11 ?_
  refine jt_i hJ (fun x11 hJ => ?_)
  refine lv_iload_n hx hb dX10_sets_12 rfl (lv_at hl 3 rfl) ?_
  obtain ⟨hin, hJ⟩ := chk_in hJ
  refine va_iast hx hb hK hP hD hS 1 0 rfl rfl hin dX10_sets_13 (fun H locs hP hD hS => ?_)
  have hP : va_P D vwCl [(q_t, .inr (8, [.ref q_t_now, .ref q_t_tried, .ref q_t_thought, .ref q_t_kept, .int t_undos, .ref q_t_saved, .int t_isSaved, .ref q_t_finds, .ref q_t_reach, .ref q_t_steps, .ref q_t_glows, .ref q_t_lower, .ref q_t_upper, .ref q_t_line, .int t_lined, .ref q_t_text, .int t_length, .int t_at, .int t_order, .ref q_t_told, .ref q_t_why, .ref q_t_more, .int t_whys, .int t_answer])), (q_t_now, .inl (cI, 133, .inl (upd t_now x11.toNatClampNeg v3)))] H := hP
  have hD : va_D A [(q_t, .inr (8, [.ref q_t_now, .ref q_t_tried, .ref q_t_thought, .ref q_t_kept, .int t_undos, .ref q_t_saved, .int t_isSaved, .ref q_t_finds, .ref q_t_reach, .ref q_t_steps, .ref q_t_glows, .ref q_t_lower, .ref q_t_upper, .ref q_t_line, .int t_lined, .ref q_t_text, .int t_length, .int t_at, .int t_order, .ref q_t_told, .ref q_t_why, .ref q_t_more, .int t_whys, .int t_answer])), (q_t_now, .inl (cI, 133, .inl (upd t_now x11.toNatClampNeg v3)))] := hD
  have e0 := Option.some.inj hJ
  exact hRet (by rw [← e0]; exact hP) (by rw [← e0]; exact hD) hS dX10_sets_14

def J_X10_isSwitch_b14 (t_now : Nat → Int32) (v1 : Int32) (s14_0 : Int32) : Option (Int32) :=
    chz s14_0 (some (s14_0))
def J_X10_isSwitch (t_now : Nat → Int32) (v1 : Int32) : Option (Int32) :=
    bnd1 (J_X10_of t_now v1 (0 : Int32)) fun x3 =>
    if x3 = 0 then (
    J_X10_isSwitch_b14 t_now v1 (1 : Int32))
    else (
    J_X10_isSwitch_b14 t_now v1 (0 : Int32))
abbrev rmX10_isSwitch : Room := { frames := 1, cells := 0, slots := 0, locals := 22 }
set_option maxHeartbeats 4000000 in
set_option maxRecDepth 100000 in
theorem c_X10_isSwitch (l : Launch) (D : va_G) (cI cJ cC cL : ClassId) (q_t q_t_now q_t_tried q_t_thought q_t_kept q_t_saved q_t_finds q_t_reach q_t_steps q_t_glows q_t_lower q_t_upper q_t_line q_t_text q_t_told q_t_why q_t_more : Nat) (t_undos : Int32) (t_isSaved : Int32) (t_lined : Int32) (t_length : Int32) (t_at : Int32) (t_order : Int32) (t_whys : Int32) (t_answer : Int32) (t_now : Nat → Int32) (v1 : Int32) (r : Int32) (hJ : J_X10_isSwitch t_now v1 = some (r)) (sz : Nat) : Met l yX10_isSwitch wsX10_isSwitch rmX10_isSwitch (va_Pc [.ref q_t, .int v1] (jpre XT D (tyL cI cJ cC cL) [(q_t, .inr (8, [.ref q_t_now, .ref q_t_tried, .ref q_t_thought, .ref q_t_kept, .int t_undos, .ref q_t_saved, .int t_isSaved, .ref q_t_finds, .ref q_t_reach, .ref q_t_steps, .ref q_t_glows, .ref q_t_lower, .ref q_t_upper, .ref q_t_line, .int t_lined, .ref q_t_text, .int t_length, .int t_at, .int t_order, .ref q_t_told, .ref q_t_why, .ref q_t_more, .int t_whys, .int t_answer])), (q_t_now, .inl (cI, 133, .inl t_now))] sz)) (va_Qi (fun r' (_ : Unit) => r' = r) (fun _ t => jpost D (tyL cI cJ cC cL) (va_A [(q_t, .inr (8, [.ref q_t_now, .ref q_t_tried, .ref q_t_thought, .ref q_t_kept, .int t_undos, .ref q_t_saved, .int t_isSaved, .ref q_t_finds, .ref q_t_reach, .ref q_t_steps, .ref q_t_glows, .ref q_t_lower, .ref q_t_upper, .ref q_t_line, .int t_lined, .ref q_t_text, .int t_length, .int t_at, .int t_order, .ref q_t_told, .ref q_t_why, .ref q_t_more, .int t_whys, .int t_answer])), (q_t_now, .inl (cI, 133, .inl t_now))] sz) [(q_t, .inr (8, [.ref q_t_now, .ref q_t_tried, .ref q_t_thought, .ref q_t_kept, .int t_undos, .ref q_t_saved, .int t_isSaved, .ref q_t_finds, .ref q_t_reach, .ref q_t_steps, .ref q_t_glows, .ref q_t_lower, .ref q_t_upper, .ref q_t_line, .int t_lined, .ref q_t_text, .int t_length, .int t_at, .int t_order, .ref q_t_told, .ref q_t_why, .ref q_t_more, .int t_whys, .int t_answer])), (q_t_now, .inl (cI, 133, .inl t_now))] t) (va_A [(q_t, .inr (8, [.ref q_t_now, .ref q_t_tried, .ref q_t_thought, .ref q_t_kept, .int t_undos, .ref q_t_saved, .int t_isSaved, .ref q_t_finds, .ref q_t_reach, .ref q_t_steps, .ref q_t_glows, .ref q_t_lower, .ref q_t_upper, .ref q_t_line, .int t_lined, .ref q_t_text, .int t_length, .int t_at, .int t_order, .ref q_t_told, .ref q_t_why, .ref q_t_more, .int t_whys, .int t_answer])), (q_t_now, .inl (cI, 133, .inl t_now))] sz)) 0 0 (va_A [(q_t, .inr (8, [.ref q_t_now, .ref q_t_tried, .ref q_t_thought, .ref q_t_kept, .int t_undos, .ref q_t_saved, .int t_isSaved, .ref q_t_finds, .ref q_t_reach, .ref q_t_steps, .ref q_t_glows, .ref q_t_lower, .ref q_t_upper, .ref q_t_line, .int t_lined, .ref q_t_text, .int t_length, .int t_at, .int t_order, .ref q_t_told, .ref q_t_why, .ref q_t_more, .int t_whys, .int t_answer])), (q_t_now, .inl (cI, 133, .inl t_now))] sz) := by
  refine jE_z (cc := cX10_isSwitch) (maxL := 2) (own := RX10) (ret := (some .boolean)) (lv0 := [(0, .ref q_t), (1, .int v1)]) (by decide) rfl rfl rfl (Nat.le_of_ble_eq_true rfl) rfl ?_
  intro p e s m args below meth c A Q ls hx hb hml hown hts hK hN hX hA hP hD hS hl hRet
  have hF : CallFix p m c cX10_isSwitch 2 s args wsX10_isSwitch RX10 := ⟨hx, hb, hml, hown, hts⟩
  have B14 : ∀ (s14_0 : Int32) (H : Heap) (locs : List Loc), va_P D vwCl [(q_t, .inr (8, [.ref q_t_now, .ref q_t_tried, .ref q_t_thought, .ref q_t_kept, .int t_undos, .ref q_t_saved, .int t_isSaved, .ref q_t_finds, .ref q_t_reach, .ref q_t_steps, .ref q_t_glows, .ref q_t_lower, .ref q_t_upper, .ref q_t_line, .int t_lined, .ref q_t_text, .int t_length, .int t_at, .int t_order, .ref q_t_told, .ref q_t_why, .ref q_t_more, .int t_whys, .int t_answer])), (q_t_now, .inl (cI, 133, .inl t_now))] H → va_D A [(q_t, .inr (8, [.ref q_t_now, .ref q_t_tried, .ref q_t_thought, .ref q_t_kept, .int t_undos, .ref q_t_saved, .int t_isSaved, .ref q_t_finds, .ref q_t_reach, .ref q_t_steps, .ref q_t_glows, .ref q_t_lower, .ref q_t_upper, .ref q_t_line, .int t_lined, .ref q_t_text, .int t_length, .int t_at, .int t_order, .ref q_t_told, .ref q_t_why, .ref q_t_more, .int t_whys, .int t_answer])), (q_t_now, .inl (cI, 133, .inl t_now))] → va_S A s.heap H locs → ∀ ls : Array Slot, lv_has ls 2 [] → J_X10_isSwitch_b14  t_now v1 s14_0 = some (r) → W p l e rmX10_isSwitch s m args below meth c H locs 0 0 Q (F0 m 14 ls [.int s14_0]) := by
    intro s14_0 H locs hP hD hS ls hl hJ
    unfold J_X10_isSwitch_b14 at hJ
    obtain ⟨h01, hJ⟩ := chz_ok hJ
    have e0 := Option.some.inj hJ
    exact hRet hP hD hS h01 e0 dX10_isSwitch_14
  unfold J_X10_isSwitch at hJ
  refine lv_aload_n hx hb dX10_isSwitch_0 rfl (lv_at hl 0 rfl) ?_
  refine lv_iload_n hx hb dX10_isSwitch_1 rfl (lv_at hl 1 rfl) ?_
  refine lv_iconst (v := (0 : Int32)) hx hb dX10_isSwitch_2 (by decide) ?_
  obtain ⟨x3, hc3, hJ⟩ := bnd1_some hJ
  refine jcV_i (C := RX10) (T := TX10) (N := 24) (ci := 8) (q0 := 0) (As := [.int v1, .int (0 : Int32)]) (rest := []) (isC := [0, 1]) (isR := []) (isB := [0, 1]) (wr := []) (ws2 := [(q_t, .inr (8, [.ref q_t_now, .ref q_t_tried, .ref q_t_thought, .ref q_t_kept, .int t_undos, .ref q_t_saved, .int t_isSaved, .ref q_t_finds, .ref q_t_reach, .ref q_t_steps, .ref q_t_glows, .ref q_t_lower, .ref q_t_upper, .ref q_t_line, .int t_lined, .ref q_t_text, .int t_length, .int t_at, .int t_order, .ref q_t_told, .ref q_t_why, .ref q_t_more, .int t_whys, .int t_answer])), (q_t_now, .inl (cI, 133, .inl t_now))]) hF (c_X10_of l D cI cJ cC cL q_t q_t_now q_t_tried q_t_thought q_t_kept q_t_saved q_t_finds q_t_reach q_t_steps q_t_glows q_t_lower q_t_upper q_t_line q_t_text q_t_told q_t_why q_t_more t_undos t_isSaved t_lined t_length t_at t_order t_whys t_answer t_now v1 (0 : Int32) x3 hc3 s.heap.size) (cwV 2 hts gX10_isSwitch_X10_of rfl rfl rfl (by decide +kernel) ⟨Nat.le_of_ble_eq_true rfl, Nat.le_of_ble_eq_true rfl⟩) rfl hl rfl (Nat.le_of_ble_eq_true rfl) dX10_isSwitch_3 ⟨Nat.zero_le _, Nat.zero_le _⟩ hK hN KX_T trivial hP hD hS hA rfl rfl rfl rfl rfl rfl (by decide) rfl rfl (fun H locs hP hD hS => ?_)
  refine jif_ne (tgt := 13) hx hb dX10_isSwitch_6 (by decide) hJ (fun hJ => ?_) (fun hJ => ?_)
  · refine lv_iconst (v := (0 : Int32)) hx hb dX10_isSwitch_13 (by decide) ?_
    exact B14  (0 : Int32)  H locs  hP hD hS _ (lv_sub hl [] rfl) hJ
  · refine lv_iconst (v := (1 : Int32)) hx hb dX10_isSwitch_9 (by decide) ?_
    refine lv_goto (tgt := 14) hx hb dX10_isSwitch_10 (by decide) ?_
    exact B14  (1 : Int32)  H locs  hP hD hS _ (lv_sub hl [] rfl) hJ

def J_X10_places (t_now : Nat → Int32) (v1 : Int32) : Option (Int32) :=
    bnd1 (J_X10_of t_now v1 (0 : Int32)) fun x3 =>
    if x3 = (0 : Int32) then (
    some ((0 : Int32)))
    else (
    if x3 = (1 : Int32) then (
    some ((1 : Int32)))
    else (
    if x3 = (2 : Int32) then (
    some ((3 : Int32)))
    else (
    if x3 = (3 : Int32) then (
    some ((3 : Int32)))
    else (
    if x3 = (4 : Int32) then (
    some ((2 : Int32)))
    else (
    if x3 = (5 : Int32) then (
    some ((3 : Int32)))
    else (
    if x3 = (6 : Int32) then (
    some ((1 : Int32)))
    else (
    some ((3 : Int32)))))))))
abbrev rmX10_places : Room := { frames := 1, cells := 0, slots := 0, locals := 22 }
set_option maxHeartbeats 4000000 in
set_option maxRecDepth 100000 in
theorem c_X10_places (l : Launch) (D : va_G) (cI cJ cC cL : ClassId) (q_t q_t_now q_t_tried q_t_thought q_t_kept q_t_saved q_t_finds q_t_reach q_t_steps q_t_glows q_t_lower q_t_upper q_t_line q_t_text q_t_told q_t_why q_t_more : Nat) (t_undos : Int32) (t_isSaved : Int32) (t_lined : Int32) (t_length : Int32) (t_at : Int32) (t_order : Int32) (t_whys : Int32) (t_answer : Int32) (t_now : Nat → Int32) (v1 : Int32) (r : Int32) (hJ : J_X10_places t_now v1 = some (r)) (sz : Nat) : Met l yX10_places wsX10_places rmX10_places (va_Pc [.ref q_t, .int v1] (jpre XT D (tyL cI cJ cC cL) [(q_t, .inr (8, [.ref q_t_now, .ref q_t_tried, .ref q_t_thought, .ref q_t_kept, .int t_undos, .ref q_t_saved, .int t_isSaved, .ref q_t_finds, .ref q_t_reach, .ref q_t_steps, .ref q_t_glows, .ref q_t_lower, .ref q_t_upper, .ref q_t_line, .int t_lined, .ref q_t_text, .int t_length, .int t_at, .int t_order, .ref q_t_told, .ref q_t_why, .ref q_t_more, .int t_whys, .int t_answer])), (q_t_now, .inl (cI, 133, .inl t_now))] sz)) (va_Qi (fun r' (_ : Unit) => r' = r) (fun _ t => jpost D (tyL cI cJ cC cL) (va_A [(q_t, .inr (8, [.ref q_t_now, .ref q_t_tried, .ref q_t_thought, .ref q_t_kept, .int t_undos, .ref q_t_saved, .int t_isSaved, .ref q_t_finds, .ref q_t_reach, .ref q_t_steps, .ref q_t_glows, .ref q_t_lower, .ref q_t_upper, .ref q_t_line, .int t_lined, .ref q_t_text, .int t_length, .int t_at, .int t_order, .ref q_t_told, .ref q_t_why, .ref q_t_more, .int t_whys, .int t_answer])), (q_t_now, .inl (cI, 133, .inl t_now))] sz) [(q_t, .inr (8, [.ref q_t_now, .ref q_t_tried, .ref q_t_thought, .ref q_t_kept, .int t_undos, .ref q_t_saved, .int t_isSaved, .ref q_t_finds, .ref q_t_reach, .ref q_t_steps, .ref q_t_glows, .ref q_t_lower, .ref q_t_upper, .ref q_t_line, .int t_lined, .ref q_t_text, .int t_length, .int t_at, .int t_order, .ref q_t_told, .ref q_t_why, .ref q_t_more, .int t_whys, .int t_answer])), (q_t_now, .inl (cI, 133, .inl t_now))] t) (va_A [(q_t, .inr (8, [.ref q_t_now, .ref q_t_tried, .ref q_t_thought, .ref q_t_kept, .int t_undos, .ref q_t_saved, .int t_isSaved, .ref q_t_finds, .ref q_t_reach, .ref q_t_steps, .ref q_t_glows, .ref q_t_lower, .ref q_t_upper, .ref q_t_line, .int t_lined, .ref q_t_text, .int t_length, .int t_at, .int t_order, .ref q_t_told, .ref q_t_why, .ref q_t_more, .int t_whys, .int t_answer])), (q_t_now, .inl (cI, 133, .inl t_now))] sz)) 0 0 (va_A [(q_t, .inr (8, [.ref q_t_now, .ref q_t_tried, .ref q_t_thought, .ref q_t_kept, .int t_undos, .ref q_t_saved, .int t_isSaved, .ref q_t_finds, .ref q_t_reach, .ref q_t_steps, .ref q_t_glows, .ref q_t_lower, .ref q_t_upper, .ref q_t_line, .int t_lined, .ref q_t_text, .int t_length, .int t_at, .int t_order, .ref q_t_told, .ref q_t_why, .ref q_t_more, .int t_whys, .int t_answer])), (q_t_now, .inl (cI, 133, .inl t_now))] sz) := by
  refine jE_i (cc := cX10_places) (maxL := 2) (own := RX10) (ret := (some .int)) (lv0 := [(0, .ref q_t), (1, .int v1)]) (by decide) rfl rfl rfl (Nat.le_of_ble_eq_true rfl) rfl ?_
  intro p e s m args below meth c A Q ls hx hb hml hown hts hK hN hX hA hP hD hS hl hRet
  have hF : CallFix p m c cX10_places 2 s args wsX10_places RX10 := ⟨hx, hb, hml, hown, hts⟩
  unfold J_X10_places at hJ
  refine lv_aload_n hx hb dX10_places_0 rfl (lv_at hl 0 rfl) ?_
  refine lv_iload_n hx hb dX10_places_1 rfl (lv_at hl 1 rfl) ?_
  refine lv_iconst (v := (0 : Int32)) hx hb dX10_places_2 (by decide) ?_
  obtain ⟨x3, hc3, hJ⟩ := bnd1_some hJ
  refine jcV_i (C := RX10) (T := TX10) (N := 24) (ci := 8) (q0 := 0) (As := [.int v1, .int (0 : Int32)]) (rest := []) (isC := [0, 1]) (isR := []) (isB := [0, 1]) (wr := []) (ws2 := [(q_t, .inr (8, [.ref q_t_now, .ref q_t_tried, .ref q_t_thought, .ref q_t_kept, .int t_undos, .ref q_t_saved, .int t_isSaved, .ref q_t_finds, .ref q_t_reach, .ref q_t_steps, .ref q_t_glows, .ref q_t_lower, .ref q_t_upper, .ref q_t_line, .int t_lined, .ref q_t_text, .int t_length, .int t_at, .int t_order, .ref q_t_told, .ref q_t_why, .ref q_t_more, .int t_whys, .int t_answer])), (q_t_now, .inl (cI, 133, .inl t_now))]) hF (c_X10_of l D cI cJ cC cL q_t q_t_now q_t_tried q_t_thought q_t_kept q_t_saved q_t_finds q_t_reach q_t_steps q_t_glows q_t_lower q_t_upper q_t_line q_t_text q_t_told q_t_why q_t_more t_undos t_isSaved t_lined t_length t_at t_order t_whys t_answer t_now v1 (0 : Int32) x3 hc3 s.heap.size) (cwV 2 hts gX10_places_X10_of rfl rfl rfl (by decide +kernel) ⟨Nat.le_of_ble_eq_true rfl, Nat.le_of_ble_eq_true rfl⟩) rfl hl rfl (Nat.le_of_ble_eq_true rfl) dX10_places_3 ⟨Nat.zero_le _, Nat.zero_le _⟩ hK hN KX_T trivial hP hD hS hA rfl rfl rfl rfl rfl rfl (by decide) rfl rfl (fun H locs hP hD hS => ?_)
  by_cases hsw : x3 = (0 : Int32)
  · have hJ := if_some_t hJ hsw
    refine lv_tableIn (off := 42) (tgt := 48) hx hb dX10_places_6 (by rw [hsw]; decide) (by rw [hsw]; decide) (by rw [hsw]; rfl) (by decide) ?_
    refine lv_iconst (v := (0 : Int32)) hx hb dX10_places_48 (by decide) ?_
    have e0 := Option.some.inj hJ
    exact hRet hP hD hS e0 dX10_places_49
  have hJ := if_some_f hJ hsw
  have hs0 := jsw_ne hsw (k := 0) (by decide)
  clear hsw
  by_cases hsw : x3 = (1 : Int32)
  · have hJ := if_some_t hJ hsw
    refine lv_tableIn (off := 44) (tgt := 50) hx hb dX10_places_6 (by rw [hsw]; decide) (by rw [hsw]; decide) (by rw [hsw]; rfl) (by decide) ?_
    refine lv_iconst (v := (1 : Int32)) hx hb dX10_places_50 (by decide) ?_
    have e0 := Option.some.inj hJ
    exact hRet hP hD hS e0 dX10_places_51
  have hJ := if_some_f hJ hsw
  have hs1 := jsw_ne hsw (k := 1) (by decide)
  clear hsw
  by_cases hsw : x3 = (2 : Int32)
  · have hJ := if_some_t hJ hsw
    refine lv_tableIn (off := 48) (tgt := 54) hx hb dX10_places_6 (by rw [hsw]; decide) (by rw [hsw]; decide) (by rw [hsw]; rfl) (by decide) ?_
    refine lv_iconst (v := (3 : Int32)) hx hb dX10_places_54 (by decide) ?_
    have e0 := Option.some.inj hJ
    exact hRet hP hD hS e0 dX10_places_55
  have hJ := if_some_f hJ hsw
  have hs2 := jsw_ne hsw (k := 2) (by decide)
  clear hsw
  by_cases hsw : x3 = (3 : Int32)
  · have hJ := if_some_t hJ hsw
    refine lv_tableIn (off := 48) (tgt := 54) hx hb dX10_places_6 (by rw [hsw]; decide) (by rw [hsw]; decide) (by rw [hsw]; rfl) (by decide) ?_
    refine lv_iconst (v := (3 : Int32)) hx hb dX10_places_54 (by decide) ?_
    have e0 := Option.some.inj hJ
    exact hRet hP hD hS e0 dX10_places_55
  have hJ := if_some_f hJ hsw
  have hs3 := jsw_ne hsw (k := 3) (by decide)
  clear hsw
  by_cases hsw : x3 = (4 : Int32)
  · have hJ := if_some_t hJ hsw
    refine lv_tableIn (off := 46) (tgt := 52) hx hb dX10_places_6 (by rw [hsw]; decide) (by rw [hsw]; decide) (by rw [hsw]; rfl) (by decide) ?_
    refine lv_iconst (v := (2 : Int32)) hx hb dX10_places_52 (by decide) ?_
    have e0 := Option.some.inj hJ
    exact hRet hP hD hS e0 dX10_places_53
  have hJ := if_some_f hJ hsw
  have hs4 := jsw_ne hsw (k := 4) (by decide)
  clear hsw
  by_cases hsw : x3 = (5 : Int32)
  · have hJ := if_some_t hJ hsw
    refine lv_tableIn (off := 48) (tgt := 54) hx hb dX10_places_6 (by rw [hsw]; decide) (by rw [hsw]; decide) (by rw [hsw]; rfl) (by decide) ?_
    refine lv_iconst (v := (3 : Int32)) hx hb dX10_places_54 (by decide) ?_
    have e0 := Option.some.inj hJ
    exact hRet hP hD hS e0 dX10_places_55
  have hJ := if_some_f hJ hsw
  have hs5 := jsw_ne hsw (k := 5) (by decide)
  clear hsw
  by_cases hsw : x3 = (6 : Int32)
  · have hJ := if_some_t hJ hsw
    refine lv_tableIn (off := 44) (tgt := 50) hx hb dX10_places_6 (by rw [hsw]; decide) (by rw [hsw]; decide) (by rw [hsw]; rfl) (by decide) ?_
    refine lv_iconst (v := (1 : Int32)) hx hb dX10_places_50 (by decide) ?_
    have e0 := Option.some.inj hJ
    exact hRet hP hD hS e0 dX10_places_51
  have hJ := if_some_f hJ hsw
  have hs6 := jsw_ne hsw (k := 6) (by decide)
  clear hsw
  refine lv_tableOut (tgt := 54) hx hb dX10_places_6 (by omega) (by decide) ?_
  refine lv_iconst (v := (3 : Int32)) hx hb dX10_places_54 (by decide) ?_
  have e0 := Option.some.inj hJ
  exact hRet hP hD hS e0 dX10_places_55

def J_X10_wired (t_now : Nat → Int32) (v1 : Int32) (v2 : Int32) : Option (Int32) :=
    nm ((4 : Int32) + v2) fun x4 =>
    bnd1 (J_X10_of t_now v1 x4) fun x5 =>
    some (x5 - (1 : Int32))
abbrev rmX10_wired : Room := { frames := 1, cells := 0, slots := 0, locals := 22 }
set_option maxHeartbeats 4000000 in
set_option maxRecDepth 100000 in
theorem c_X10_wired (l : Launch) (D : va_G) (cI cJ cC cL : ClassId) (q_t q_t_now q_t_tried q_t_thought q_t_kept q_t_saved q_t_finds q_t_reach q_t_steps q_t_glows q_t_lower q_t_upper q_t_line q_t_text q_t_told q_t_why q_t_more : Nat) (t_undos : Int32) (t_isSaved : Int32) (t_lined : Int32) (t_length : Int32) (t_at : Int32) (t_order : Int32) (t_whys : Int32) (t_answer : Int32) (t_now : Nat → Int32) (v1 : Int32) (v2 : Int32) (r : Int32) (hJ : J_X10_wired t_now v1 v2 = some (r)) (sz : Nat) : Met l yX10_wired wsX10_wired rmX10_wired (va_Pc [.ref q_t, .int v1, .int v2] (jpre XT D (tyL cI cJ cC cL) [(q_t, .inr (8, [.ref q_t_now, .ref q_t_tried, .ref q_t_thought, .ref q_t_kept, .int t_undos, .ref q_t_saved, .int t_isSaved, .ref q_t_finds, .ref q_t_reach, .ref q_t_steps, .ref q_t_glows, .ref q_t_lower, .ref q_t_upper, .ref q_t_line, .int t_lined, .ref q_t_text, .int t_length, .int t_at, .int t_order, .ref q_t_told, .ref q_t_why, .ref q_t_more, .int t_whys, .int t_answer])), (q_t_now, .inl (cI, 133, .inl t_now))] sz)) (va_Qi (fun r' (_ : Unit) => r' = r) (fun _ t => jpost D (tyL cI cJ cC cL) (va_A [(q_t, .inr (8, [.ref q_t_now, .ref q_t_tried, .ref q_t_thought, .ref q_t_kept, .int t_undos, .ref q_t_saved, .int t_isSaved, .ref q_t_finds, .ref q_t_reach, .ref q_t_steps, .ref q_t_glows, .ref q_t_lower, .ref q_t_upper, .ref q_t_line, .int t_lined, .ref q_t_text, .int t_length, .int t_at, .int t_order, .ref q_t_told, .ref q_t_why, .ref q_t_more, .int t_whys, .int t_answer])), (q_t_now, .inl (cI, 133, .inl t_now))] sz) [(q_t, .inr (8, [.ref q_t_now, .ref q_t_tried, .ref q_t_thought, .ref q_t_kept, .int t_undos, .ref q_t_saved, .int t_isSaved, .ref q_t_finds, .ref q_t_reach, .ref q_t_steps, .ref q_t_glows, .ref q_t_lower, .ref q_t_upper, .ref q_t_line, .int t_lined, .ref q_t_text, .int t_length, .int t_at, .int t_order, .ref q_t_told, .ref q_t_why, .ref q_t_more, .int t_whys, .int t_answer])), (q_t_now, .inl (cI, 133, .inl t_now))] t) (va_A [(q_t, .inr (8, [.ref q_t_now, .ref q_t_tried, .ref q_t_thought, .ref q_t_kept, .int t_undos, .ref q_t_saved, .int t_isSaved, .ref q_t_finds, .ref q_t_reach, .ref q_t_steps, .ref q_t_glows, .ref q_t_lower, .ref q_t_upper, .ref q_t_line, .int t_lined, .ref q_t_text, .int t_length, .int t_at, .int t_order, .ref q_t_told, .ref q_t_why, .ref q_t_more, .int t_whys, .int t_answer])), (q_t_now, .inl (cI, 133, .inl t_now))] sz)) 0 0 (va_A [(q_t, .inr (8, [.ref q_t_now, .ref q_t_tried, .ref q_t_thought, .ref q_t_kept, .int t_undos, .ref q_t_saved, .int t_isSaved, .ref q_t_finds, .ref q_t_reach, .ref q_t_steps, .ref q_t_glows, .ref q_t_lower, .ref q_t_upper, .ref q_t_line, .int t_lined, .ref q_t_text, .int t_length, .int t_at, .int t_order, .ref q_t_told, .ref q_t_why, .ref q_t_more, .int t_whys, .int t_answer])), (q_t_now, .inl (cI, 133, .inl t_now))] sz) := by
  refine jE_i (cc := cX10_wired) (maxL := 3) (own := RX10) (ret := (some .int)) (lv0 := [(0, .ref q_t), (1, .int v1), (2, .int v2)]) (by decide) rfl rfl rfl (Nat.le_of_ble_eq_true rfl) rfl ?_
  intro p e s m args below meth c A Q ls hx hb hml hown hts hK hN hX hA hP hD hS hl hRet
  have hF : CallFix p m c cX10_wired 3 s args wsX10_wired RX10 := ⟨hx, hb, hml, hown, hts⟩
  unfold J_X10_wired at hJ
  refine lv_aload_n hx hb dX10_wired_0 rfl (lv_at hl 0 rfl) ?_
  refine lv_iload_n hx hb dX10_wired_1 rfl (lv_at hl 1 rfl) ?_
  refine lv_iconst (v := (4 : Int32)) hx hb dX10_wired_2 (by decide) ?_
  refine lv_iload_n hx hb dX10_wired_3 rfl (lv_at hl 2 rfl) ?_
  refine lv_iadd hx hb dX10_wired_4 ?_
  refine jt_i hJ (fun x4 hJ => ?_)
  obtain ⟨x5, hc5, hJ⟩ := bnd1_some hJ
  refine jcV_i (C := RX10) (T := TX10) (N := 24) (ci := 8) (q0 := 0) (As := [.int v1, .int x4]) (rest := []) (isC := [0, 1]) (isR := []) (isB := [0, 1]) (wr := []) (ws2 := [(q_t, .inr (8, [.ref q_t_now, .ref q_t_tried, .ref q_t_thought, .ref q_t_kept, .int t_undos, .ref q_t_saved, .int t_isSaved, .ref q_t_finds, .ref q_t_reach, .ref q_t_steps, .ref q_t_glows, .ref q_t_lower, .ref q_t_upper, .ref q_t_line, .int t_lined, .ref q_t_text, .int t_length, .int t_at, .int t_order, .ref q_t_told, .ref q_t_why, .ref q_t_more, .int t_whys, .int t_answer])), (q_t_now, .inl (cI, 133, .inl t_now))]) hF (c_X10_of l D cI cJ cC cL q_t q_t_now q_t_tried q_t_thought q_t_kept q_t_saved q_t_finds q_t_reach q_t_steps q_t_glows q_t_lower q_t_upper q_t_line q_t_text q_t_told q_t_why q_t_more t_undos t_isSaved t_lined t_length t_at t_order t_whys t_answer t_now v1 x4 x5 hc5 s.heap.size) (cwV 2 hts gX10_wired_X10_of rfl rfl rfl (by decide +kernel) ⟨Nat.le_of_ble_eq_true rfl, Nat.le_of_ble_eq_true rfl⟩) rfl hl rfl (Nat.le_of_ble_eq_true rfl) dX10_wired_5 ⟨Nat.zero_le _, Nat.zero_le _⟩ hK hN KX_T trivial hP hD hS hA rfl rfl rfl rfl rfl rfl (by decide) rfl rfl (fun H locs hP hD hS => ?_)
  refine lv_iconst (v := (1 : Int32)) hx hb dX10_wired_8 (by decide) ?_
  refine lv_isub hx hb dX10_wired_9 ?_
  have e0 := Option.some.inj hJ
  exact hRet hP hD hS e0 dX10_wired_10

def J_X10_wiresTo_b21 (k4 : Int32 → Int32 → Option (Int32)) (t_now : Nat → Int32) (v1 : Int32) (v2 : Int32) (v3 : Int32) : Option (Int32) :=
    nm (v3 + Int32.ofInt 1) fun x21 =>
    k4 v2 x21
def J_X10_wiresTo_L4 (t_now : Nat → Int32) (v1 : Int32) : Nat → Int32 → Int32 → Option (Int32)
  | 0, _, _ => none
  | nf + 1, v2, v3 =>
    if (3 : Int32) ≤ v3 then (
    some (v2))
    else (
    bnd1 (J_X10_wired t_now v1 v3) fun x12 =>
    if x12 < 0 then (
    J_X10_wiresTo_b21 (fun z0 z1 => J_X10_wiresTo_L4 t_now v1 nf z0 z1) t_now v1 v2 v3)
    else (
    nm (v2 + Int32.ofInt 1) fun x18 =>
    J_X10_wiresTo_b21 (fun z0 z1 => J_X10_wiresTo_L4 t_now v1 nf z0 z1) t_now v1 x18 v3))
def J_X10_wiresTo (t_now : Nat → Int32) (v1 : Int32) : Option (Int32) :=
    J_X10_wiresTo_L4 t_now v1 FU (0 : Int32) (0 : Int32)
abbrev rmX10_wiresTo : Room := { frames := 2, cells := 0, slots := 0, locals := 44 }
set_option maxHeartbeats 4000000 in
set_option maxRecDepth 100000 in
theorem c_X10_wiresTo (l : Launch) (D : va_G) (cI cJ cC cL : ClassId) (q_t q_t_now q_t_tried q_t_thought q_t_kept q_t_saved q_t_finds q_t_reach q_t_steps q_t_glows q_t_lower q_t_upper q_t_line q_t_text q_t_told q_t_why q_t_more : Nat) (t_undos : Int32) (t_isSaved : Int32) (t_lined : Int32) (t_length : Int32) (t_at : Int32) (t_order : Int32) (t_whys : Int32) (t_answer : Int32) (t_now : Nat → Int32) (v1 : Int32) (r : Int32) (hJ : J_X10_wiresTo t_now v1 = some (r)) (sz : Nat) : Met l yX10_wiresTo wsX10_wiresTo rmX10_wiresTo (va_Pc [.ref q_t, .int v1] (jpre XT D (tyL cI cJ cC cL) [(q_t, .inr (8, [.ref q_t_now, .ref q_t_tried, .ref q_t_thought, .ref q_t_kept, .int t_undos, .ref q_t_saved, .int t_isSaved, .ref q_t_finds, .ref q_t_reach, .ref q_t_steps, .ref q_t_glows, .ref q_t_lower, .ref q_t_upper, .ref q_t_line, .int t_lined, .ref q_t_text, .int t_length, .int t_at, .int t_order, .ref q_t_told, .ref q_t_why, .ref q_t_more, .int t_whys, .int t_answer])), (q_t_now, .inl (cI, 133, .inl t_now))] sz)) (va_Qi (fun r' (_ : Unit) => r' = r) (fun _ t => jpost D (tyL cI cJ cC cL) (va_A [(q_t, .inr (8, [.ref q_t_now, .ref q_t_tried, .ref q_t_thought, .ref q_t_kept, .int t_undos, .ref q_t_saved, .int t_isSaved, .ref q_t_finds, .ref q_t_reach, .ref q_t_steps, .ref q_t_glows, .ref q_t_lower, .ref q_t_upper, .ref q_t_line, .int t_lined, .ref q_t_text, .int t_length, .int t_at, .int t_order, .ref q_t_told, .ref q_t_why, .ref q_t_more, .int t_whys, .int t_answer])), (q_t_now, .inl (cI, 133, .inl t_now))] sz) [(q_t, .inr (8, [.ref q_t_now, .ref q_t_tried, .ref q_t_thought, .ref q_t_kept, .int t_undos, .ref q_t_saved, .int t_isSaved, .ref q_t_finds, .ref q_t_reach, .ref q_t_steps, .ref q_t_glows, .ref q_t_lower, .ref q_t_upper, .ref q_t_line, .int t_lined, .ref q_t_text, .int t_length, .int t_at, .int t_order, .ref q_t_told, .ref q_t_why, .ref q_t_more, .int t_whys, .int t_answer])), (q_t_now, .inl (cI, 133, .inl t_now))] t) (va_A [(q_t, .inr (8, [.ref q_t_now, .ref q_t_tried, .ref q_t_thought, .ref q_t_kept, .int t_undos, .ref q_t_saved, .int t_isSaved, .ref q_t_finds, .ref q_t_reach, .ref q_t_steps, .ref q_t_glows, .ref q_t_lower, .ref q_t_upper, .ref q_t_line, .int t_lined, .ref q_t_text, .int t_length, .int t_at, .int t_order, .ref q_t_told, .ref q_t_why, .ref q_t_more, .int t_whys, .int t_answer])), (q_t_now, .inl (cI, 133, .inl t_now))] sz)) 0 0 (va_A [(q_t, .inr (8, [.ref q_t_now, .ref q_t_tried, .ref q_t_thought, .ref q_t_kept, .int t_undos, .ref q_t_saved, .int t_isSaved, .ref q_t_finds, .ref q_t_reach, .ref q_t_steps, .ref q_t_glows, .ref q_t_lower, .ref q_t_upper, .ref q_t_line, .int t_lined, .ref q_t_text, .int t_length, .int t_at, .int t_order, .ref q_t_told, .ref q_t_why, .ref q_t_more, .int t_whys, .int t_answer])), (q_t_now, .inl (cI, 133, .inl t_now))] sz) := by
  refine jE_i (cc := cX10_wiresTo) (maxL := 4) (own := RX10) (ret := (some .int)) (lv0 := [(0, .ref q_t), (1, .int v1)]) (by decide) rfl rfl rfl (Nat.le_of_ble_eq_true rfl) rfl ?_
  intro p e s m args below meth c A Q ls hx hb hml hown hts hK hN hX hA hP hD hS hl hRet
  have hF : CallFix p m c cX10_wiresTo 4 s args wsX10_wiresTo RX10 := ⟨hx, hb, hml, hown, hts⟩
  have B21 : ∀ (k4 : Int32 → Int32 → Option (Int32)), (∀ (v2 : Int32) (v3 : Int32) (H : Heap) (locs : List Loc), va_P D vwCl [(q_t, .inr (8, [.ref q_t_now, .ref q_t_tried, .ref q_t_thought, .ref q_t_kept, .int t_undos, .ref q_t_saved, .int t_isSaved, .ref q_t_finds, .ref q_t_reach, .ref q_t_steps, .ref q_t_glows, .ref q_t_lower, .ref q_t_upper, .ref q_t_line, .int t_lined, .ref q_t_text, .int t_length, .int t_at, .int t_order, .ref q_t_told, .ref q_t_why, .ref q_t_more, .int t_whys, .int t_answer])), (q_t_now, .inl (cI, 133, .inl t_now))] H → va_D A [(q_t, .inr (8, [.ref q_t_now, .ref q_t_tried, .ref q_t_thought, .ref q_t_kept, .int t_undos, .ref q_t_saved, .int t_isSaved, .ref q_t_finds, .ref q_t_reach, .ref q_t_steps, .ref q_t_glows, .ref q_t_lower, .ref q_t_upper, .ref q_t_line, .int t_lined, .ref q_t_text, .int t_length, .int t_at, .int t_order, .ref q_t_told, .ref q_t_why, .ref q_t_more, .int t_whys, .int t_answer])), (q_t_now, .inl (cI, 133, .inl t_now))] → va_S A s.heap H locs → ∀ ls : Array Slot, lv_has ls 4 [(0, .ref q_t), (1, .int v1), (2, .int v2), (3, .int v3)] → k4 v2 v3 = some (r) → W p l e rmX10_wiresTo s m args below meth c H locs 0 0 Q (F0 m 4 ls [])) → ∀ (v2 : Int32) (v3 : Int32) (H : Heap) (locs : List Loc), va_P D vwCl [(q_t, .inr (8, [.ref q_t_now, .ref q_t_tried, .ref q_t_thought, .ref q_t_kept, .int t_undos, .ref q_t_saved, .int t_isSaved, .ref q_t_finds, .ref q_t_reach, .ref q_t_steps, .ref q_t_glows, .ref q_t_lower, .ref q_t_upper, .ref q_t_line, .int t_lined, .ref q_t_text, .int t_length, .int t_at, .int t_order, .ref q_t_told, .ref q_t_why, .ref q_t_more, .int t_whys, .int t_answer])), (q_t_now, .inl (cI, 133, .inl t_now))] H → va_D A [(q_t, .inr (8, [.ref q_t_now, .ref q_t_tried, .ref q_t_thought, .ref q_t_kept, .int t_undos, .ref q_t_saved, .int t_isSaved, .ref q_t_finds, .ref q_t_reach, .ref q_t_steps, .ref q_t_glows, .ref q_t_lower, .ref q_t_upper, .ref q_t_line, .int t_lined, .ref q_t_text, .int t_length, .int t_at, .int t_order, .ref q_t_told, .ref q_t_why, .ref q_t_more, .int t_whys, .int t_answer])), (q_t_now, .inl (cI, 133, .inl t_now))] → va_S A s.heap H locs → ∀ ls : Array Slot, lv_has ls 4 [(0, .ref q_t), (1, .int v1), (2, .int v2), (3, .int v3)] → J_X10_wiresTo_b21 k4 t_now v1 v2 v3 = some (r) → W p l e rmX10_wiresTo s m args below meth c H locs 0 0 Q (F0 m 21 ls []) := by
    intro k4 hk4 v2 v3 H locs hP hD hS ls hl hJ
    unfold J_X10_wiresTo_b21 at hJ
    refine jt_iinc hJ (fun x21 ex21 hJ => ?_)
    refine lv_iinc (v := x21) (lv' := [(3, .int x21), (0, .ref q_t), (1, .int v1), (2, .int v2)]) hx hb dX10_wiresTo_21 hl (k := 3) rfl ex21 (by decide) rfl (fun ls hl => ?_)
    refine lv_goto (tgt := 4) hx hb dX10_wiresTo_24 (by decide) ?_
    exact hk4 v2 x21  H locs  hP hD hS _ (lv_sub hl [1, 2, 3, 0] rfl) hJ
  have L4 : ∀ (nf : Nat), ∀ (v2 : Int32) (v3 : Int32) (H : Heap) (locs : List Loc), va_P D vwCl [(q_t, .inr (8, [.ref q_t_now, .ref q_t_tried, .ref q_t_thought, .ref q_t_kept, .int t_undos, .ref q_t_saved, .int t_isSaved, .ref q_t_finds, .ref q_t_reach, .ref q_t_steps, .ref q_t_glows, .ref q_t_lower, .ref q_t_upper, .ref q_t_line, .int t_lined, .ref q_t_text, .int t_length, .int t_at, .int t_order, .ref q_t_told, .ref q_t_why, .ref q_t_more, .int t_whys, .int t_answer])), (q_t_now, .inl (cI, 133, .inl t_now))] H → va_D A [(q_t, .inr (8, [.ref q_t_now, .ref q_t_tried, .ref q_t_thought, .ref q_t_kept, .int t_undos, .ref q_t_saved, .int t_isSaved, .ref q_t_finds, .ref q_t_reach, .ref q_t_steps, .ref q_t_glows, .ref q_t_lower, .ref q_t_upper, .ref q_t_line, .int t_lined, .ref q_t_text, .int t_length, .int t_at, .int t_order, .ref q_t_told, .ref q_t_why, .ref q_t_more, .int t_whys, .int t_answer])), (q_t_now, .inl (cI, 133, .inl t_now))] → va_S A s.heap H locs → ∀ ls : Array Slot, lv_has ls 4 [(0, .ref q_t), (1, .int v1), (2, .int v2), (3, .int v3)] → J_X10_wiresTo_L4  t_now v1 nf v2 v3 = some (r) → W p l e rmX10_wiresTo s m args below meth c H locs 0 0 Q (F0 m 4 ls []) := by
    intro nf
    induction nf with
    | zero =>
      intro v2 v3 H locs hP hD hS ls hl hJ
      rw [J_X10_wiresTo_L4] at hJ
      cases hJ
    | succ nf ih =>
      intro v2 v3 H locs hP hD hS ls hl hJ
      rw [J_X10_wiresTo_L4] at hJ
      refine lv_iload_n hx hb dX10_wiresTo_4 rfl (lv_at hl 3 rfl) ?_
      refine lv_iconst (v := (3 : Int32)) hx hb dX10_wiresTo_5 (by decide) ?_
      refine jif_icmp_ge (tgt := 27) hx hb dX10_wiresTo_6 (by decide) hJ (fun hJ => ?_) (fun hJ => ?_)
      · refine lv_iload_n hx hb dX10_wiresTo_27 rfl (lv_at hl 2 rfl) ?_
        have e0 := Option.some.inj hJ
        exact hRet hP hD hS e0 dX10_wiresTo_28
      · refine lv_aload_n hx hb dX10_wiresTo_9 rfl (lv_at hl 0 rfl) ?_
        refine lv_iload_n hx hb dX10_wiresTo_10 rfl (lv_at hl 1 rfl) ?_
        refine lv_iload_n hx hb dX10_wiresTo_11 rfl (lv_at hl 3 rfl) ?_
        obtain ⟨x12, hc12, hJ⟩ := bnd1_some hJ
        refine jcV_i (C := RX10) (T := TX10) (N := 24) (ci := 8) (q0 := 0) (As := [.int v1, .int v3]) (rest := []) (isC := [0, 1]) (isR := []) (isB := [0, 1]) (wr := []) (ws2 := [(q_t, .inr (8, [.ref q_t_now, .ref q_t_tried, .ref q_t_thought, .ref q_t_kept, .int t_undos, .ref q_t_saved, .int t_isSaved, .ref q_t_finds, .ref q_t_reach, .ref q_t_steps, .ref q_t_glows, .ref q_t_lower, .ref q_t_upper, .ref q_t_line, .int t_lined, .ref q_t_text, .int t_length, .int t_at, .int t_order, .ref q_t_told, .ref q_t_why, .ref q_t_more, .int t_whys, .int t_answer])), (q_t_now, .inl (cI, 133, .inl t_now))]) hF (c_X10_wired l D cI cJ cC cL q_t q_t_now q_t_tried q_t_thought q_t_kept q_t_saved q_t_finds q_t_reach q_t_steps q_t_glows q_t_lower q_t_upper q_t_line q_t_text q_t_told q_t_why q_t_more t_undos t_isSaved t_lined t_length t_at t_order t_whys t_answer t_now v1 v3 x12 hc12 H.size) (cwV 2 hts gX10_wiresTo_X10_wired rfl rfl rfl (by decide +kernel) ⟨Nat.le_of_ble_eq_true rfl, Nat.le_of_ble_eq_true rfl⟩) rfl hl rfl (Nat.le_of_ble_eq_true rfl) dX10_wiresTo_12 ⟨Nat.zero_le _, Nat.zero_le _⟩ hK hN KX_T trivial hP hD hS hA rfl rfl rfl rfl rfl rfl (by decide) rfl rfl (fun H locs hP hD hS => ?_)
        refine jif_lt (tgt := 21) hx hb dX10_wiresTo_15 (by decide) hJ (fun hJ => ?_) (fun hJ => ?_)
        · exact B21 (fun z0 z1 => J_X10_wiresTo_L4 t_now v1 nf z0 z1) ih v2 v3  H locs  hP hD hS _ (lv_sub hl [0, 1, 2, 3] rfl) hJ
        · refine jt_iinc hJ (fun x18 ex18 hJ => ?_)
          refine lv_iinc (v := x18) (lv' := [(2, .int x18), (0, .ref q_t), (1, .int v1), (3, .int v3)]) hx hb dX10_wiresTo_18 hl (k := 2) rfl ex18 (by decide) rfl (fun ls hl => ?_)
          exact B21 (fun z0 z1 => J_X10_wiresTo_L4 t_now v1 nf z0 z1) ih x18 v3  H locs  hP hD hS _ (lv_sub hl [1, 2, 0, 3] rfl) hJ
  unfold J_X10_wiresTo at hJ
  refine lv_iconst (v := (0 : Int32)) hx hb dX10_wiresTo_0 (by decide) ?_
  refine lv_istore_n (lv' := [(2, .int (0 : Int32)), (0, .ref q_t), (1, .int v1)]) hx hb dX10_wiresTo_1 rfl hl (by decide) rfl (fun ls hl => ?_)
  refine lv_iconst (v := (0 : Int32)) hx hb dX10_wiresTo_2 (by decide) ?_
  refine lv_istore_n (lv' := [(3, .int (0 : Int32)), (2, .int (0 : Int32)), (0, .ref q_t), (1, .int v1)]) hx hb dX10_wiresTo_3 rfl hl (by decide) rfl (fun ls hl => ?_)
  exact L4  FU (0 : Int32) (0 : Int32)  s.heap []  hP hD hS _ (lv_sub hl [2, 3, 1, 0] rfl) hJ

def J_X10_wiresFrom_b37 (k4 : Int32 → Int32 → Option (Int32)) (k17 : Int32 → Int32 → Int32 → Option (Int32)) (t_now : Nat → Int32) (v1 : Int32) (v2 : Int32) (v3 : Int32) (v4 : Int32) : Option (Int32) :=
    nm (v4 + Int32.ofInt 1) fun x37 =>
    k17 v2 v3 x37
def J_X10_wiresFrom_L17 (k4 : Int32 → Int32 → Option (Int32)) (t_now : Nat → Int32) (v1 : Int32) : Nat → Int32 → Int32 → Int32 → Option (Int32)
  | 0, _, _, _ => none
  | nf + 1, v2, v3, v4 =>
    if (3 : Int32) ≤ v4 then (
    nm (v3 + Int32.ofInt 1) fun x43 =>
    k4 v2 x43)
    else (
    bnd1 (J_X10_wired t_now v3 v4) fun x27 =>
    if x27 = v1 then (
    nm (v2 + Int32.ofInt 1) fun x34 =>
    J_X10_wiresFrom_b37 k4 (fun z0 z1 z2 => J_X10_wiresFrom_L17 k4 t_now v1 nf z0 z1 z2) t_now v1 x34 v3 v4)
    else (
    J_X10_wiresFrom_b37 k4 (fun z0 z1 z2 => J_X10_wiresFrom_L17 k4 t_now v1 nf z0 z1 z2) t_now v1 v2 v3 v4))
def J_X10_wiresFrom_L4 (t_now : Nat → Int32) (v1 : Int32) : Nat → Int32 → Int32 → Option (Int32)
  | 0, _, _ => none
  | nf + 1, v2, v3 =>
    chk (0 : Int32) 133 (
    nm (t_now (0 : Int32).toNatClampNeg) fun x10 =>
    if x10 ≤ v3 then (
    some (v2))
    else (
    J_X10_wiresFrom_L17 (fun z0 z1 => J_X10_wiresFrom_L4 t_now v1 nf z0 z1) t_now v1 FU v2 v3 (0 : Int32)))
def J_X10_wiresFrom (t_now : Nat → Int32) (v1 : Int32) : Option (Int32) :=
    J_X10_wiresFrom_L4 t_now v1 FU (0 : Int32) (0 : Int32)
abbrev rmX10_wiresFrom : Room := { frames := 2, cells := 0, slots := 0, locals := 44 }
set_option maxHeartbeats 4000000 in
set_option maxRecDepth 100000 in
theorem c_X10_wiresFrom (l : Launch) (D : va_G) (cI cJ cC cL : ClassId) (q_t q_t_now q_t_tried q_t_thought q_t_kept q_t_saved q_t_finds q_t_reach q_t_steps q_t_glows q_t_lower q_t_upper q_t_line q_t_text q_t_told q_t_why q_t_more : Nat) (t_undos : Int32) (t_isSaved : Int32) (t_lined : Int32) (t_length : Int32) (t_at : Int32) (t_order : Int32) (t_whys : Int32) (t_answer : Int32) (t_now : Nat → Int32) (v1 : Int32) (r : Int32) (hJ : J_X10_wiresFrom t_now v1 = some (r)) (sz : Nat) : Met l yX10_wiresFrom wsX10_wiresFrom rmX10_wiresFrom (va_Pc [.ref q_t, .int v1] (jpre XT D (tyL cI cJ cC cL) [(q_t, .inr (8, [.ref q_t_now, .ref q_t_tried, .ref q_t_thought, .ref q_t_kept, .int t_undos, .ref q_t_saved, .int t_isSaved, .ref q_t_finds, .ref q_t_reach, .ref q_t_steps, .ref q_t_glows, .ref q_t_lower, .ref q_t_upper, .ref q_t_line, .int t_lined, .ref q_t_text, .int t_length, .int t_at, .int t_order, .ref q_t_told, .ref q_t_why, .ref q_t_more, .int t_whys, .int t_answer])), (q_t_now, .inl (cI, 133, .inl t_now))] sz)) (va_Qi (fun r' (_ : Unit) => r' = r) (fun _ t => jpost D (tyL cI cJ cC cL) (va_A [(q_t, .inr (8, [.ref q_t_now, .ref q_t_tried, .ref q_t_thought, .ref q_t_kept, .int t_undos, .ref q_t_saved, .int t_isSaved, .ref q_t_finds, .ref q_t_reach, .ref q_t_steps, .ref q_t_glows, .ref q_t_lower, .ref q_t_upper, .ref q_t_line, .int t_lined, .ref q_t_text, .int t_length, .int t_at, .int t_order, .ref q_t_told, .ref q_t_why, .ref q_t_more, .int t_whys, .int t_answer])), (q_t_now, .inl (cI, 133, .inl t_now))] sz) [(q_t, .inr (8, [.ref q_t_now, .ref q_t_tried, .ref q_t_thought, .ref q_t_kept, .int t_undos, .ref q_t_saved, .int t_isSaved, .ref q_t_finds, .ref q_t_reach, .ref q_t_steps, .ref q_t_glows, .ref q_t_lower, .ref q_t_upper, .ref q_t_line, .int t_lined, .ref q_t_text, .int t_length, .int t_at, .int t_order, .ref q_t_told, .ref q_t_why, .ref q_t_more, .int t_whys, .int t_answer])), (q_t_now, .inl (cI, 133, .inl t_now))] t) (va_A [(q_t, .inr (8, [.ref q_t_now, .ref q_t_tried, .ref q_t_thought, .ref q_t_kept, .int t_undos, .ref q_t_saved, .int t_isSaved, .ref q_t_finds, .ref q_t_reach, .ref q_t_steps, .ref q_t_glows, .ref q_t_lower, .ref q_t_upper, .ref q_t_line, .int t_lined, .ref q_t_text, .int t_length, .int t_at, .int t_order, .ref q_t_told, .ref q_t_why, .ref q_t_more, .int t_whys, .int t_answer])), (q_t_now, .inl (cI, 133, .inl t_now))] sz)) 0 0 (va_A [(q_t, .inr (8, [.ref q_t_now, .ref q_t_tried, .ref q_t_thought, .ref q_t_kept, .int t_undos, .ref q_t_saved, .int t_isSaved, .ref q_t_finds, .ref q_t_reach, .ref q_t_steps, .ref q_t_glows, .ref q_t_lower, .ref q_t_upper, .ref q_t_line, .int t_lined, .ref q_t_text, .int t_length, .int t_at, .int t_order, .ref q_t_told, .ref q_t_why, .ref q_t_more, .int t_whys, .int t_answer])), (q_t_now, .inl (cI, 133, .inl t_now))] sz) := by
  refine jE_i (cc := cX10_wiresFrom) (maxL := 5) (own := RX10) (ret := (some .int)) (lv0 := [(0, .ref q_t), (1, .int v1)]) (by decide) rfl rfl rfl (Nat.le_of_ble_eq_true rfl) rfl ?_
  intro p e s m args below meth c A Q ls hx hb hml hown hts hK hN hX hA hP hD hS hl hRet
  have hF : CallFix p m c cX10_wiresFrom 5 s args wsX10_wiresFrom RX10 := ⟨hx, hb, hml, hown, hts⟩
  have fl_9 := hts (.fieldLink RX10 9 "LanternLogicModel" "now" "[I") (by decide +kernel)
  have hin_X10 : ∀ w ∈ u_ws RX10 TX10 24, w ∈ wsX10_wiresFrom := by decide +kernel
  have B37 : ∀ (k4 : Int32 → Int32 → Option (Int32)), (∀ (v2 : Int32) (v3 : Int32) (H : Heap) (locs : List Loc), va_P D vwCl [(q_t, .inr (8, [.ref q_t_now, .ref q_t_tried, .ref q_t_thought, .ref q_t_kept, .int t_undos, .ref q_t_saved, .int t_isSaved, .ref q_t_finds, .ref q_t_reach, .ref q_t_steps, .ref q_t_glows, .ref q_t_lower, .ref q_t_upper, .ref q_t_line, .int t_lined, .ref q_t_text, .int t_length, .int t_at, .int t_order, .ref q_t_told, .ref q_t_why, .ref q_t_more, .int t_whys, .int t_answer])), (q_t_now, .inl (cI, 133, .inl t_now))] H → va_D A [(q_t, .inr (8, [.ref q_t_now, .ref q_t_tried, .ref q_t_thought, .ref q_t_kept, .int t_undos, .ref q_t_saved, .int t_isSaved, .ref q_t_finds, .ref q_t_reach, .ref q_t_steps, .ref q_t_glows, .ref q_t_lower, .ref q_t_upper, .ref q_t_line, .int t_lined, .ref q_t_text, .int t_length, .int t_at, .int t_order, .ref q_t_told, .ref q_t_why, .ref q_t_more, .int t_whys, .int t_answer])), (q_t_now, .inl (cI, 133, .inl t_now))] → va_S A s.heap H locs → ∀ ls : Array Slot, lv_has ls 5 [(0, .ref q_t), (1, .int v1), (2, .int v2), (3, .int v3)] → k4 v2 v3 = some (r) → W p l e rmX10_wiresFrom s m args below meth c H locs 0 0 Q (F0 m 4 ls [])) → ∀ (k17 : Int32 → Int32 → Int32 → Option (Int32)), (∀ (v2 : Int32) (v3 : Int32) (v4 : Int32) (H : Heap) (locs : List Loc), va_P D vwCl [(q_t, .inr (8, [.ref q_t_now, .ref q_t_tried, .ref q_t_thought, .ref q_t_kept, .int t_undos, .ref q_t_saved, .int t_isSaved, .ref q_t_finds, .ref q_t_reach, .ref q_t_steps, .ref q_t_glows, .ref q_t_lower, .ref q_t_upper, .ref q_t_line, .int t_lined, .ref q_t_text, .int t_length, .int t_at, .int t_order, .ref q_t_told, .ref q_t_why, .ref q_t_more, .int t_whys, .int t_answer])), (q_t_now, .inl (cI, 133, .inl t_now))] H → va_D A [(q_t, .inr (8, [.ref q_t_now, .ref q_t_tried, .ref q_t_thought, .ref q_t_kept, .int t_undos, .ref q_t_saved, .int t_isSaved, .ref q_t_finds, .ref q_t_reach, .ref q_t_steps, .ref q_t_glows, .ref q_t_lower, .ref q_t_upper, .ref q_t_line, .int t_lined, .ref q_t_text, .int t_length, .int t_at, .int t_order, .ref q_t_told, .ref q_t_why, .ref q_t_more, .int t_whys, .int t_answer])), (q_t_now, .inl (cI, 133, .inl t_now))] → va_S A s.heap H locs → ∀ ls : Array Slot, lv_has ls 5 [(0, .ref q_t), (1, .int v1), (2, .int v2), (3, .int v3), (4, .int v4)] → k17 v2 v3 v4 = some (r) → W p l e rmX10_wiresFrom s m args below meth c H locs 0 0 Q (F0 m 17 ls [])) → ∀ (v2 : Int32) (v3 : Int32) (v4 : Int32) (H : Heap) (locs : List Loc), va_P D vwCl [(q_t, .inr (8, [.ref q_t_now, .ref q_t_tried, .ref q_t_thought, .ref q_t_kept, .int t_undos, .ref q_t_saved, .int t_isSaved, .ref q_t_finds, .ref q_t_reach, .ref q_t_steps, .ref q_t_glows, .ref q_t_lower, .ref q_t_upper, .ref q_t_line, .int t_lined, .ref q_t_text, .int t_length, .int t_at, .int t_order, .ref q_t_told, .ref q_t_why, .ref q_t_more, .int t_whys, .int t_answer])), (q_t_now, .inl (cI, 133, .inl t_now))] H → va_D A [(q_t, .inr (8, [.ref q_t_now, .ref q_t_tried, .ref q_t_thought, .ref q_t_kept, .int t_undos, .ref q_t_saved, .int t_isSaved, .ref q_t_finds, .ref q_t_reach, .ref q_t_steps, .ref q_t_glows, .ref q_t_lower, .ref q_t_upper, .ref q_t_line, .int t_lined, .ref q_t_text, .int t_length, .int t_at, .int t_order, .ref q_t_told, .ref q_t_why, .ref q_t_more, .int t_whys, .int t_answer])), (q_t_now, .inl (cI, 133, .inl t_now))] → va_S A s.heap H locs → ∀ ls : Array Slot, lv_has ls 5 [(0, .ref q_t), (1, .int v1), (2, .int v2), (3, .int v3), (4, .int v4)] → J_X10_wiresFrom_b37 k4 k17 t_now v1 v2 v3 v4 = some (r) → W p l e rmX10_wiresFrom s m args below meth c H locs 0 0 Q (F0 m 37 ls []) := by
    intro k4 hk4 k17 hk17 v2 v3 v4 H locs hP hD hS ls hl hJ
    unfold J_X10_wiresFrom_b37 at hJ
    refine jt_iinc hJ (fun x37 ex37 hJ => ?_)
    refine lv_iinc (v := x37) (lv' := [(4, .int x37), (0, .ref q_t), (1, .int v1), (2, .int v2), (3, .int v3)]) hx hb dX10_wiresFrom_37 hl (k := 4) rfl ex37 (by decide) rfl (fun ls hl => ?_)
    refine lv_goto (tgt := 17) hx hb dX10_wiresFrom_40 (by decide) ?_
    exact hk17 v2 v3 x37  H locs  hP hD hS _ (lv_sub hl [1, 2, 3, 4, 0] rfl) hJ
  have L17 : ∀ (k4 : Int32 → Int32 → Option (Int32)), (∀ (v2 : Int32) (v3 : Int32) (H : Heap) (locs : List Loc), va_P D vwCl [(q_t, .inr (8, [.ref q_t_now, .ref q_t_tried, .ref q_t_thought, .ref q_t_kept, .int t_undos, .ref q_t_saved, .int t_isSaved, .ref q_t_finds, .ref q_t_reach, .ref q_t_steps, .ref q_t_glows, .ref q_t_lower, .ref q_t_upper, .ref q_t_line, .int t_lined, .ref q_t_text, .int t_length, .int t_at, .int t_order, .ref q_t_told, .ref q_t_why, .ref q_t_more, .int t_whys, .int t_answer])), (q_t_now, .inl (cI, 133, .inl t_now))] H → va_D A [(q_t, .inr (8, [.ref q_t_now, .ref q_t_tried, .ref q_t_thought, .ref q_t_kept, .int t_undos, .ref q_t_saved, .int t_isSaved, .ref q_t_finds, .ref q_t_reach, .ref q_t_steps, .ref q_t_glows, .ref q_t_lower, .ref q_t_upper, .ref q_t_line, .int t_lined, .ref q_t_text, .int t_length, .int t_at, .int t_order, .ref q_t_told, .ref q_t_why, .ref q_t_more, .int t_whys, .int t_answer])), (q_t_now, .inl (cI, 133, .inl t_now))] → va_S A s.heap H locs → ∀ ls : Array Slot, lv_has ls 5 [(0, .ref q_t), (1, .int v1), (2, .int v2), (3, .int v3)] → k4 v2 v3 = some (r) → W p l e rmX10_wiresFrom s m args below meth c H locs 0 0 Q (F0 m 4 ls [])) → ∀ (nf : Nat), ∀ (v2 : Int32) (v3 : Int32) (v4 : Int32) (H : Heap) (locs : List Loc), va_P D vwCl [(q_t, .inr (8, [.ref q_t_now, .ref q_t_tried, .ref q_t_thought, .ref q_t_kept, .int t_undos, .ref q_t_saved, .int t_isSaved, .ref q_t_finds, .ref q_t_reach, .ref q_t_steps, .ref q_t_glows, .ref q_t_lower, .ref q_t_upper, .ref q_t_line, .int t_lined, .ref q_t_text, .int t_length, .int t_at, .int t_order, .ref q_t_told, .ref q_t_why, .ref q_t_more, .int t_whys, .int t_answer])), (q_t_now, .inl (cI, 133, .inl t_now))] H → va_D A [(q_t, .inr (8, [.ref q_t_now, .ref q_t_tried, .ref q_t_thought, .ref q_t_kept, .int t_undos, .ref q_t_saved, .int t_isSaved, .ref q_t_finds, .ref q_t_reach, .ref q_t_steps, .ref q_t_glows, .ref q_t_lower, .ref q_t_upper, .ref q_t_line, .int t_lined, .ref q_t_text, .int t_length, .int t_at, .int t_order, .ref q_t_told, .ref q_t_why, .ref q_t_more, .int t_whys, .int t_answer])), (q_t_now, .inl (cI, 133, .inl t_now))] → va_S A s.heap H locs → ∀ ls : Array Slot, lv_has ls 5 [(0, .ref q_t), (1, .int v1), (2, .int v2), (3, .int v3), (4, .int v4)] → J_X10_wiresFrom_L17 k4 t_now v1 nf v2 v3 v4 = some (r) → W p l e rmX10_wiresFrom s m args below meth c H locs 0 0 Q (F0 m 17 ls []) := by
    intro k4 hk4 nf
    induction nf with
    | zero =>
      intro v2 v3 v4 H locs hP hD hS ls hl hJ
      rw [J_X10_wiresFrom_L17] at hJ
      cases hJ
    | succ nf ih =>
      intro v2 v3 v4 H locs hP hD hS ls hl hJ
      rw [J_X10_wiresFrom_L17] at hJ
      refine lv_iload hx hb dX10_wiresFrom_17 (lv_at hl 4 rfl) ?_
      refine lv_iconst (v := (3 : Int32)) hx hb dX10_wiresFrom_19 (by decide) ?_
      refine jif_icmp_ge (tgt := 43) hx hb dX10_wiresFrom_20 (by decide) hJ (fun hJ => ?_) (fun hJ => ?_)
      · refine jt_iinc hJ (fun x43 ex43 hJ => ?_)
        refine lv_iinc (v := x43) (lv' := [(3, .int x43), (0, .ref q_t), (1, .int v1), (2, .int v2), (4, .int v4)]) hx hb dX10_wiresFrom_43 hl (k := 3) rfl ex43 (by decide) rfl (fun ls hl => ?_)
        refine lv_goto (tgt := 4) hx hb dX10_wiresFrom_46 (by decide) ?_
        exact hk4 v2 x43  H locs  hP hD hS _ (lv_sub hl [1, 2, 3, 0] rfl) hJ
      · refine lv_aload_n hx hb dX10_wiresFrom_23 rfl (lv_at hl 0 rfl) ?_
        refine lv_iload_n hx hb dX10_wiresFrom_24 rfl (lv_at hl 3 rfl) ?_
        refine lv_iload hx hb dX10_wiresFrom_25 (lv_at hl 4 rfl) ?_
        obtain ⟨x27, hc27, hJ⟩ := bnd1_some hJ
        refine jcV_i (C := RX10) (T := TX10) (N := 24) (ci := 8) (q0 := 0) (As := [.int v3, .int v4]) (rest := []) (isC := [0, 1]) (isR := []) (isB := [0, 1]) (wr := []) (ws2 := [(q_t, .inr (8, [.ref q_t_now, .ref q_t_tried, .ref q_t_thought, .ref q_t_kept, .int t_undos, .ref q_t_saved, .int t_isSaved, .ref q_t_finds, .ref q_t_reach, .ref q_t_steps, .ref q_t_glows, .ref q_t_lower, .ref q_t_upper, .ref q_t_line, .int t_lined, .ref q_t_text, .int t_length, .int t_at, .int t_order, .ref q_t_told, .ref q_t_why, .ref q_t_more, .int t_whys, .int t_answer])), (q_t_now, .inl (cI, 133, .inl t_now))]) hF (c_X10_wired l D cI cJ cC cL q_t q_t_now q_t_tried q_t_thought q_t_kept q_t_saved q_t_finds q_t_reach q_t_steps q_t_glows q_t_lower q_t_upper q_t_line q_t_text q_t_told q_t_why q_t_more t_undos t_isSaved t_lined t_length t_at t_order t_whys t_answer t_now v3 v4 x27 hc27 H.size) (cwV 2 hts gX10_wiresFrom_X10_wired rfl rfl rfl (by decide +kernel) ⟨Nat.le_of_ble_eq_true rfl, Nat.le_of_ble_eq_true rfl⟩) rfl hl rfl (Nat.le_of_ble_eq_true rfl) dX10_wiresFrom_27 ⟨Nat.zero_le _, Nat.zero_le _⟩ hK hN KX_T trivial hP hD hS hA rfl rfl rfl rfl rfl rfl (by decide) rfl rfl (fun H locs hP hD hS => ?_)
        refine lv_iload_n hx hb dX10_wiresFrom_30 rfl (lv_at hl 1 rfl) ?_
        refine jif_icmp_ne (tgt := 37) hx hb dX10_wiresFrom_31 (by decide) hJ (fun hJ => ?_) (fun hJ => ?_)
        · exact B37 k4 hk4 (fun z0 z1 z2 => J_X10_wiresFrom_L17 k4 t_now v1 nf z0 z1 z2) ih v2 v3 v4  H locs  hP hD hS _ (lv_sub hl [0, 1, 2, 3, 4] rfl) hJ
        · refine jt_iinc hJ (fun x34 ex34 hJ => ?_)
          refine lv_iinc (v := x34) (lv' := [(2, .int x34), (0, .ref q_t), (1, .int v1), (3, .int v3), (4, .int v4)]) hx hb dX10_wiresFrom_34 hl (k := 2) rfl ex34 (by decide) rfl (fun ls hl => ?_)
          exact B37 k4 hk4 (fun z0 z1 z2 => J_X10_wiresFrom_L17 k4 t_now v1 nf z0 z1 z2) ih x34 v3 v4  H locs  hP hD hS _ (lv_sub hl [1, 2, 0, 3, 4] rfl) hJ
  have L4 : ∀ (nf : Nat), ∀ (v2 : Int32) (v3 : Int32) (H : Heap) (locs : List Loc), va_P D vwCl [(q_t, .inr (8, [.ref q_t_now, .ref q_t_tried, .ref q_t_thought, .ref q_t_kept, .int t_undos, .ref q_t_saved, .int t_isSaved, .ref q_t_finds, .ref q_t_reach, .ref q_t_steps, .ref q_t_glows, .ref q_t_lower, .ref q_t_upper, .ref q_t_line, .int t_lined, .ref q_t_text, .int t_length, .int t_at, .int t_order, .ref q_t_told, .ref q_t_why, .ref q_t_more, .int t_whys, .int t_answer])), (q_t_now, .inl (cI, 133, .inl t_now))] H → va_D A [(q_t, .inr (8, [.ref q_t_now, .ref q_t_tried, .ref q_t_thought, .ref q_t_kept, .int t_undos, .ref q_t_saved, .int t_isSaved, .ref q_t_finds, .ref q_t_reach, .ref q_t_steps, .ref q_t_glows, .ref q_t_lower, .ref q_t_upper, .ref q_t_line, .int t_lined, .ref q_t_text, .int t_length, .int t_at, .int t_order, .ref q_t_told, .ref q_t_why, .ref q_t_more, .int t_whys, .int t_answer])), (q_t_now, .inl (cI, 133, .inl t_now))] → va_S A s.heap H locs → ∀ ls : Array Slot, lv_has ls 5 [(0, .ref q_t), (1, .int v1), (2, .int v2), (3, .int v3)] → J_X10_wiresFrom_L4  t_now v1 nf v2 v3 = some (r) → W p l e rmX10_wiresFrom s m args below meth c H locs 0 0 Q (F0 m 4 ls []) := by
    intro nf
    induction nf with
    | zero =>
      intro v2 v3 H locs hP hD hS ls hl hJ
      rw [J_X10_wiresFrom_L4] at hJ
      cases hJ
    | succ nf ih =>
      intro v2 v3 H locs hP hD hS ls hl hJ
      rw [J_X10_wiresFrom_L4] at hJ
      refine lv_iload_n hx hb dX10_wiresFrom_4 rfl (lv_at hl 3 rfl) ?_
      refine lv_aload_n hx hb dX10_wiresFrom_5 rfl (lv_at hl 0 rfl) ?_
      refine va_get (ci := 8) (v := .ref q_t_now) (C := RX10) (T := TX10) (N := 24) hx hb hts hin_X10 hown hK hP 0 rfl rfl 0 (by decide) fl_9 (fun _ h9 => h9) rfl dX10_wiresFrom_6 ?_
      refine lv_iconst (v := (0 : Int32)) hx hb dX10_wiresFrom_9 (by decide) ?_
      obtain ⟨hin, hJ⟩ := chk_in hJ
      refine va_iald hx hb hK hP 1 0 rfl rfl hin dX10_wiresFrom_10 ?_
      refine jt_i hJ (fun x10 hJ => ?_)
      refine jif_icmp_ge (tgt := 49) hx hb dX10_wiresFrom_11 (by decide) hJ (fun hJ => ?_) (fun hJ => ?_)
      · refine lv_iload_n hx hb dX10_wiresFrom_49 rfl (lv_at hl 2 rfl) ?_
        have e0 := Option.some.inj hJ
        exact hRet hP hD hS e0 dX10_wiresFrom_50
      · refine lv_iconst (v := (0 : Int32)) hx hb dX10_wiresFrom_14 (by decide) ?_
        refine lv_istore (lv' := [(4, .int (0 : Int32)), (0, .ref q_t), (1, .int v1), (2, .int v2), (3, .int v3)]) hx hb dX10_wiresFrom_15 hl (by decide) rfl (fun ls hl => ?_)
        exact L17 (fun z0 z1 => J_X10_wiresFrom_L4 t_now v1 nf z0 z1) ih FU v2 v3 (0 : Int32)  H locs  hP hD hS _ (lv_sub hl [1, 2, 3, 4, 0] rfl) hJ
  unfold J_X10_wiresFrom at hJ
  refine lv_iconst (v := (0 : Int32)) hx hb dX10_wiresFrom_0 (by decide) ?_
  refine lv_istore_n (lv' := [(2, .int (0 : Int32)), (0, .ref q_t), (1, .int v1)]) hx hb dX10_wiresFrom_1 rfl hl (by decide) rfl (fun ls hl => ?_)
  refine lv_iconst (v := (0 : Int32)) hx hb dX10_wiresFrom_2 (by decide) ?_
  refine lv_istore_n (lv' := [(3, .int (0 : Int32)), (2, .int (0 : Int32)), (0, .ref q_t), (1, .int v1)]) hx hb dX10_wiresFrom_3 rfl hl (by decide) rfl (fun ls hl => ?_)
  exact L4  FU (0 : Int32) (0 : Int32)  s.heap []  hP hD hS _ (lv_sub hl [2, 3, 1, 0] rfl) hJ

def J_X10_glowing_L4 (t_now : Nat → Int32) : Nat → Int32 → Int32 → Option (Int32)
  | 0, _, _ => none
  | nf + 1, v1, v2 =>
    chk (0 : Int32) 133 (
    nm (t_now (0 : Int32).toNatClampNeg) fun x10 =>
    if x10 ≤ v2 then (
    some (v1))
    else (
    bnd1 (J_X10_of t_now v2 (2 : Int32)) fun x18 =>
    nm (v1 + x18) fun x21 =>
    nm (v2 + Int32.ofInt 1) fun x23 =>
    J_X10_glowing_L4 t_now nf x21 x23))
def J_X10_glowing (t_now : Nat → Int32) : Option (Int32) :=
    J_X10_glowing_L4 t_now FU (0 : Int32) (0 : Int32)
abbrev rmX10_glowing : Room := { frames := 1, cells := 0, slots := 0, locals := 22 }
set_option maxHeartbeats 4000000 in
set_option maxRecDepth 100000 in
theorem c_X10_glowing (l : Launch) (D : va_G) (cI cJ cC cL : ClassId) (q_t q_t_now q_t_tried q_t_thought q_t_kept q_t_saved q_t_finds q_t_reach q_t_steps q_t_glows q_t_lower q_t_upper q_t_line q_t_text q_t_told q_t_why q_t_more : Nat) (t_undos : Int32) (t_isSaved : Int32) (t_lined : Int32) (t_length : Int32) (t_at : Int32) (t_order : Int32) (t_whys : Int32) (t_answer : Int32) (t_now : Nat → Int32) (r : Int32) (hJ : J_X10_glowing t_now = some (r)) (sz : Nat) : Met l yX10_glowing wsX10_glowing rmX10_glowing (va_Pc [.ref q_t] (jpre XT D (tyL cI cJ cC cL) [(q_t, .inr (8, [.ref q_t_now, .ref q_t_tried, .ref q_t_thought, .ref q_t_kept, .int t_undos, .ref q_t_saved, .int t_isSaved, .ref q_t_finds, .ref q_t_reach, .ref q_t_steps, .ref q_t_glows, .ref q_t_lower, .ref q_t_upper, .ref q_t_line, .int t_lined, .ref q_t_text, .int t_length, .int t_at, .int t_order, .ref q_t_told, .ref q_t_why, .ref q_t_more, .int t_whys, .int t_answer])), (q_t_now, .inl (cI, 133, .inl t_now))] sz)) (va_Qi (fun r' (_ : Unit) => r' = r) (fun _ t => jpost D (tyL cI cJ cC cL) (va_A [(q_t, .inr (8, [.ref q_t_now, .ref q_t_tried, .ref q_t_thought, .ref q_t_kept, .int t_undos, .ref q_t_saved, .int t_isSaved, .ref q_t_finds, .ref q_t_reach, .ref q_t_steps, .ref q_t_glows, .ref q_t_lower, .ref q_t_upper, .ref q_t_line, .int t_lined, .ref q_t_text, .int t_length, .int t_at, .int t_order, .ref q_t_told, .ref q_t_why, .ref q_t_more, .int t_whys, .int t_answer])), (q_t_now, .inl (cI, 133, .inl t_now))] sz) [(q_t, .inr (8, [.ref q_t_now, .ref q_t_tried, .ref q_t_thought, .ref q_t_kept, .int t_undos, .ref q_t_saved, .int t_isSaved, .ref q_t_finds, .ref q_t_reach, .ref q_t_steps, .ref q_t_glows, .ref q_t_lower, .ref q_t_upper, .ref q_t_line, .int t_lined, .ref q_t_text, .int t_length, .int t_at, .int t_order, .ref q_t_told, .ref q_t_why, .ref q_t_more, .int t_whys, .int t_answer])), (q_t_now, .inl (cI, 133, .inl t_now))] t) (va_A [(q_t, .inr (8, [.ref q_t_now, .ref q_t_tried, .ref q_t_thought, .ref q_t_kept, .int t_undos, .ref q_t_saved, .int t_isSaved, .ref q_t_finds, .ref q_t_reach, .ref q_t_steps, .ref q_t_glows, .ref q_t_lower, .ref q_t_upper, .ref q_t_line, .int t_lined, .ref q_t_text, .int t_length, .int t_at, .int t_order, .ref q_t_told, .ref q_t_why, .ref q_t_more, .int t_whys, .int t_answer])), (q_t_now, .inl (cI, 133, .inl t_now))] sz)) 0 0 (va_A [(q_t, .inr (8, [.ref q_t_now, .ref q_t_tried, .ref q_t_thought, .ref q_t_kept, .int t_undos, .ref q_t_saved, .int t_isSaved, .ref q_t_finds, .ref q_t_reach, .ref q_t_steps, .ref q_t_glows, .ref q_t_lower, .ref q_t_upper, .ref q_t_line, .int t_lined, .ref q_t_text, .int t_length, .int t_at, .int t_order, .ref q_t_told, .ref q_t_why, .ref q_t_more, .int t_whys, .int t_answer])), (q_t_now, .inl (cI, 133, .inl t_now))] sz) := by
  refine jE_i (cc := cX10_glowing) (maxL := 3) (own := RX10) (ret := (some .int)) (lv0 := [(0, .ref q_t)]) (by decide) rfl rfl rfl (Nat.le_of_ble_eq_true rfl) rfl ?_
  intro p e s m args below meth c A Q ls hx hb hml hown hts hK hN hX hA hP hD hS hl hRet
  have hF : CallFix p m c cX10_glowing 3 s args wsX10_glowing RX10 := ⟨hx, hb, hml, hown, hts⟩
  have fl_9 := hts (.fieldLink RX10 9 "LanternLogicModel" "now" "[I") (by decide +kernel)
  have hin_X10 : ∀ w ∈ u_ws RX10 TX10 24, w ∈ wsX10_glowing := by decide +kernel
  have L4 : ∀ (nf : Nat), ∀ (v1 : Int32) (v2 : Int32) (H : Heap) (locs : List Loc), va_P D vwCl [(q_t, .inr (8, [.ref q_t_now, .ref q_t_tried, .ref q_t_thought, .ref q_t_kept, .int t_undos, .ref q_t_saved, .int t_isSaved, .ref q_t_finds, .ref q_t_reach, .ref q_t_steps, .ref q_t_glows, .ref q_t_lower, .ref q_t_upper, .ref q_t_line, .int t_lined, .ref q_t_text, .int t_length, .int t_at, .int t_order, .ref q_t_told, .ref q_t_why, .ref q_t_more, .int t_whys, .int t_answer])), (q_t_now, .inl (cI, 133, .inl t_now))] H → va_D A [(q_t, .inr (8, [.ref q_t_now, .ref q_t_tried, .ref q_t_thought, .ref q_t_kept, .int t_undos, .ref q_t_saved, .int t_isSaved, .ref q_t_finds, .ref q_t_reach, .ref q_t_steps, .ref q_t_glows, .ref q_t_lower, .ref q_t_upper, .ref q_t_line, .int t_lined, .ref q_t_text, .int t_length, .int t_at, .int t_order, .ref q_t_told, .ref q_t_why, .ref q_t_more, .int t_whys, .int t_answer])), (q_t_now, .inl (cI, 133, .inl t_now))] → va_S A s.heap H locs → ∀ ls : Array Slot, lv_has ls 3 [(0, .ref q_t), (1, .int v1), (2, .int v2)] → J_X10_glowing_L4  t_now nf v1 v2 = some (r) → W p l e rmX10_glowing s m args below meth c H locs 0 0 Q (F0 m 4 ls []) := by
    intro nf
    induction nf with
    | zero =>
      intro v1 v2 H locs hP hD hS ls hl hJ
      rw [J_X10_glowing_L4] at hJ
      cases hJ
    | succ nf ih =>
      intro v1 v2 H locs hP hD hS ls hl hJ
      rw [J_X10_glowing_L4] at hJ
      refine lv_iload_n hx hb dX10_glowing_4 rfl (lv_at hl 2 rfl) ?_
      refine lv_aload_n hx hb dX10_glowing_5 rfl (lv_at hl 0 rfl) ?_
      refine va_get (ci := 8) (v := .ref q_t_now) (C := RX10) (T := TX10) (N := 24) hx hb hts hin_X10 hown hK hP 0 rfl rfl 0 (by decide) fl_9 (fun _ h9 => h9) rfl dX10_glowing_6 ?_
      refine lv_iconst (v := (0 : Int32)) hx hb dX10_glowing_9 (by decide) ?_
      obtain ⟨hin, hJ⟩ := chk_in hJ
      refine va_iald hx hb hK hP 1 0 rfl rfl hin dX10_glowing_10 ?_
      refine jt_i hJ (fun x10 hJ => ?_)
      refine jif_icmp_ge (tgt := 29) hx hb dX10_glowing_11 (by decide) hJ (fun hJ => ?_) (fun hJ => ?_)
      · refine lv_iload_n hx hb dX10_glowing_29 rfl (lv_at hl 1 rfl) ?_
        have e0 := Option.some.inj hJ
        exact hRet hP hD hS e0 dX10_glowing_30
      · refine lv_iload_n hx hb dX10_glowing_14 rfl (lv_at hl 1 rfl) ?_
        refine lv_aload_n hx hb dX10_glowing_15 rfl (lv_at hl 0 rfl) ?_
        refine lv_iload_n hx hb dX10_glowing_16 rfl (lv_at hl 2 rfl) ?_
        refine lv_iconst (v := (2 : Int32)) hx hb dX10_glowing_17 (by decide) ?_
        obtain ⟨x18, hc18, hJ⟩ := bnd1_some hJ
        refine jcV_i (C := RX10) (T := TX10) (N := 24) (ci := 8) (q0 := 0) (As := [.int v2, .int (2 : Int32)]) (rest := [.int v1]) (isC := [0, 1]) (isR := []) (isB := [0, 1]) (wr := []) (ws2 := [(q_t, .inr (8, [.ref q_t_now, .ref q_t_tried, .ref q_t_thought, .ref q_t_kept, .int t_undos, .ref q_t_saved, .int t_isSaved, .ref q_t_finds, .ref q_t_reach, .ref q_t_steps, .ref q_t_glows, .ref q_t_lower, .ref q_t_upper, .ref q_t_line, .int t_lined, .ref q_t_text, .int t_length, .int t_at, .int t_order, .ref q_t_told, .ref q_t_why, .ref q_t_more, .int t_whys, .int t_answer])), (q_t_now, .inl (cI, 133, .inl t_now))]) hF (c_X10_of l D cI cJ cC cL q_t q_t_now q_t_tried q_t_thought q_t_kept q_t_saved q_t_finds q_t_reach q_t_steps q_t_glows q_t_lower q_t_upper q_t_line q_t_text q_t_told q_t_why q_t_more t_undos t_isSaved t_lined t_length t_at t_order t_whys t_answer t_now v2 (2 : Int32) x18 hc18 H.size) (cwV 2 hts gX10_glowing_X10_of rfl rfl rfl (by decide +kernel) ⟨Nat.le_of_ble_eq_true rfl, Nat.le_of_ble_eq_true rfl⟩) rfl hl rfl (Nat.le_of_ble_eq_true rfl) dX10_glowing_18 ⟨Nat.zero_le _, Nat.zero_le _⟩ hK hN KX_T trivial hP hD hS hA rfl rfl rfl rfl rfl rfl (by decide) rfl rfl (fun H locs hP hD hS => ?_)
        refine lv_iadd hx hb dX10_glowing_21 ?_
        refine jt_i hJ (fun x21 hJ => ?_)
        refine lv_istore_n (lv' := [(1, .int x21), (0, .ref q_t), (2, .int v2)]) hx hb dX10_glowing_22 rfl hl (by decide) rfl (fun ls hl => ?_)
        refine jt_iinc hJ (fun x23 ex23 hJ => ?_)
        refine lv_iinc (v := x23) (lv' := [(2, .int x23), (1, .int x21), (0, .ref q_t)]) hx hb dX10_glowing_23 hl (k := 2) rfl ex23 (by decide) rfl (fun ls hl => ?_)
        refine lv_goto (tgt := 4) hx hb dX10_glowing_26 (by decide) ?_
        exact ih x21 x23  H locs  hP hD hS _ (lv_sub hl [2, 1, 0] rfl) hJ
  unfold J_X10_glowing at hJ
  refine lv_iconst (v := (0 : Int32)) hx hb dX10_glowing_0 (by decide) ?_
  refine lv_istore_n (lv' := [(1, .int (0 : Int32)), (0, .ref q_t)]) hx hb dX10_glowing_1 rfl hl (by decide) rfl (fun ls hl => ?_)
  refine lv_iconst (v := (0 : Int32)) hx hb dX10_glowing_2 (by decide) ?_
  refine lv_istore_n (lv' := [(2, .int (0 : Int32)), (1, .int (0 : Int32)), (0, .ref q_t)]) hx hb dX10_glowing_3 rfl hl (by decide) rfl (fun ls hl => ?_)
  exact L4  FU (0 : Int32) (0 : Int32)  s.heap []  hP hD hS _ (lv_sub hl [2, 1, 0] rfl) hJ

def J_X10_reaches_b66 (k23 : (Nat → Int32) → Int32 → Option ((Nat → Int32))) (k35 : (Nat → Int32) → Int32 → Int32 → Option ((Nat → Int32))) (t_now : Nat → Int32) (t_reach : Nat → Int32) (v1 : Int32) (v2 : Int32) : Option ((Nat → Int32)) :=
    nm (v2 + Int32.ofInt 1) fun x66 =>
    k35 t_reach v1 x66
def J_X10_reaches_L35 (k23 : (Nat → Int32) → Int32 → Option ((Nat → Int32))) (t_now : Nat → Int32) : Nat → (Nat → Int32) → Int32 → Int32 → Option ((Nat → Int32))
  | 0, _, _, _ => none
  | nf + 1, t_reach, v1, v2 =>
    if (3 : Int32) ≤ v2 then (
    nm (v1 + Int32.ofInt 1) fun x72 =>
    k23 t_reach x72)
    else (
    bnd1 (J_X10_wired t_now v1 v2) fun x43 =>
    if x43 < 0 then (
    J_X10_reaches_b66 k23 (fun z0 z1 z2 => J_X10_reaches_L35 k23 t_now nf z0 z1 z2) t_now t_reach v1 v2)
    else (
    bnd1 (J_X10_wired t_now v1 v2) fun x56 =>
    chk x56 16 (
    nm (t_reach x56.toNatClampNeg) fun x60 =>
    nm (x60 ||| ((1 : Int32) <<< (v1 &&& 31))) fun x64 =>
    chk x56 16 (
    J_X10_reaches_b66 k23 (fun z0 z1 z2 => J_X10_reaches_L35 k23 t_now nf z0 z1 z2) t_now (upd t_reach x56.toNatClampNeg x64) v1 v2))))
def J_X10_reaches_b144 (k80 : (Nat → Int32) → Int32 → Option ((Nat → Int32))) (k88 : (Nat → Int32) → Int32 → Int32 → Option ((Nat → Int32))) (k108 : (Nat → Int32) → Int32 → Int32 → Int32 → Int32 → Option ((Nat → Int32))) (t_now : Nat → Int32) (t_reach : Nat → Int32) (v1 : Int32) (v2 : Int32) (v3 : Int32) (v4 : Int32) : Option ((Nat → Int32)) :=
    nm (v4 + Int32.ofInt 1) fun x144 =>
    k108 t_reach v1 v2 v3 x144
def J_X10_reaches_b166 (k80 : (Nat → Int32) → Int32 → Option ((Nat → Int32))) (k88 : (Nat → Int32) → Int32 → Int32 → Option ((Nat → Int32))) (t_now : Nat → Int32) (t_reach : Nat → Int32) (v2 : Int32) (v3 : Int32) (s166_0 : Int32) (s166_1 : Int32) : Option ((Nat → Int32)) :=
    nm (s166_0 ||| s166_1) fun x166 =>
    chk v2 16 (
    nm (v2 + Int32.ofInt 1) fun x175 =>
    k88 (upd t_reach v2.toNatClampNeg v3) x166 x175)
def J_X10_reaches_L108 (k80 : (Nat → Int32) → Int32 → Option ((Nat → Int32))) (k88 : (Nat → Int32) → Int32 → Int32 → Option ((Nat → Int32))) (t_now : Nat → Int32) : Nat → (Nat → Int32) → Int32 → Int32 → Int32 → Int32 → Option ((Nat → Int32))
  | 0, _, _, _, _, _ => none
  | nf + 1, t_reach, v1, v2, v3, v4 =>
    chk (0 : Int32) 133 (
    nm (t_now (0 : Int32).toNatClampNeg) fun x115 =>
    if x115 ≤ v4 then (
    chk v2 16 (
    nm (t_reach v2.toNatClampNeg) fun x157 =>
    if v3 = x157 then (
    J_X10_reaches_b166 k80 k88 t_now t_reach v2 v3 v1 (0 : Int32))
    else (
    J_X10_reaches_b166 k80 k88 t_now t_reach v2 v3 v1 (1 : Int32))))
    else (
    chk v2 16 (
    nm (t_reach v2.toNatClampNeg) fun x124 =>
    nm (x124 >>> (v4 &&& 31)) fun x127 =>
    nm (x127 &&& (1 : Int32)) fun x129 =>
    if x129 = (1 : Int32) then (
    chk v4 16 (
    nm (t_reach v4.toNatClampNeg) fun x141 =>
    nm (v3 ||| x141) fun x142 =>
    J_X10_reaches_b144 k80 k88 (fun z0 z1 z2 z3 z4 => J_X10_reaches_L108 k80 k88 t_now nf z0 z1 z2 z3 z4) t_now t_reach v1 v2 x142 v4))
    else (
    J_X10_reaches_b144 k80 k88 (fun z0 z1 z2 z3 z4 => J_X10_reaches_L108 k80 k88 t_now nf z0 z1 z2 z3 z4) t_now t_reach v1 v2 v3 v4))))
def J_X10_reaches_L88 (k80 : (Nat → Int32) → Int32 → Option ((Nat → Int32))) (t_now : Nat → Int32) : Nat → (Nat → Int32) → Int32 → Int32 → Option ((Nat → Int32))
  | 0, _, _, _ => none
  | nf + 1, t_reach, v1, v2 =>
    chk (0 : Int32) 133 (
    nm (t_now (0 : Int32).toNatClampNeg) fun x94 =>
    if x94 ≤ v2 then (
    k80 t_reach v1)
    else (
    chk v2 16 (
    nm (t_reach v2.toNatClampNeg) fun x103 =>
    J_X10_reaches_L108 k80 (fun z0 z1 z2 => J_X10_reaches_L88 k80 t_now nf z0 z1 z2) t_now FU t_reach v1 v2 x103 (0 : Int32))))
def J_X10_reaches_L80 (t_now : Nat → Int32) : Nat → (Nat → Int32) → Int32 → Option ((Nat → Int32))
  | 0, _, _ => none
  | nf + 1, t_reach, v1 =>
    if v1 = 0 then (
    some (t_reach))
    else (
    J_X10_reaches_L88 (fun z0 z1 => J_X10_reaches_L80 t_now nf z0 z1) t_now FU t_reach (0 : Int32) (0 : Int32))
def J_X10_reaches_L23 (t_now : Nat → Int32) : Nat → (Nat → Int32) → Int32 → Option ((Nat → Int32))
  | 0, _, _ => none
  | nf + 1, t_reach, v1 =>
    chk (0 : Int32) 133 (
    nm (t_now (0 : Int32).toNatClampNeg) fun x29 =>
    if x29 ≤ v1 then (
    J_X10_reaches_L80 t_now FU t_reach (1 : Int32))
    else (
    J_X10_reaches_L35 (fun z0 z1 => J_X10_reaches_L23 t_now nf z0 z1) t_now FU t_reach v1 (0 : Int32)))
def J_X10_reaches_L2 (t_now : Nat → Int32) : Nat → (Nat → Int32) → Int32 → Option ((Nat → Int32))
  | 0, _, _ => none
  | nf + 1, t_reach, v1 =>
    if (16 : Int32) ≤ v1 then (
    J_X10_reaches_L23 t_now FU t_reach (0 : Int32))
    else (
    chk v1 16 (
    nm (v1 + Int32.ofInt 1) fun x15 =>
    J_X10_reaches_L2 t_now nf (upd t_reach v1.toNatClampNeg (0 : Int32)) x15))
def J_X10_reaches (t_now : Nat → Int32) (t_reach : Nat → Int32) : Option ((Nat → Int32)) :=
    J_X10_reaches_L2 t_now FU t_reach (0 : Int32)
abbrev rmX10_reaches : Room := { frames := 2, cells := 0, slots := 0, locals := 44 }
set_option maxHeartbeats 4000000 in
set_option maxRecDepth 100000 in
theorem c_X10_reaches (l : Launch) (D : va_G) (cI cJ cC cL : ClassId) (q_t q_t_now q_t_tried q_t_thought q_t_kept q_t_saved q_t_finds q_t_reach q_t_steps q_t_glows q_t_lower q_t_upper q_t_line q_t_text q_t_told q_t_why q_t_more : Nat) (t_undos : Int32) (t_isSaved : Int32) (t_lined : Int32) (t_length : Int32) (t_at : Int32) (t_order : Int32) (t_whys : Int32) (t_answer : Int32) (t_now : Nat → Int32) (t_reach : Nat → Int32) (o_t_reach : Nat → Int32) (hJ : J_X10_reaches t_now t_reach = some (o_t_reach)) (sz : Nat) : Met l yX10_reaches wsX10_reaches rmX10_reaches (va_Pc [.ref q_t] (jpre XT D (tyL cI cJ cC cL) [(q_t, .inr (8, [.ref q_t_now, .ref q_t_tried, .ref q_t_thought, .ref q_t_kept, .int t_undos, .ref q_t_saved, .int t_isSaved, .ref q_t_finds, .ref q_t_reach, .ref q_t_steps, .ref q_t_glows, .ref q_t_lower, .ref q_t_upper, .ref q_t_line, .int t_lined, .ref q_t_text, .int t_length, .int t_at, .int t_order, .ref q_t_told, .ref q_t_why, .ref q_t_more, .int t_whys, .int t_answer])), (q_t_now, .inl (cI, 133, .inl t_now)), (q_t_reach, .inl (cI, 16, .inl t_reach))] sz)) (va_Qv (fun (_ : Unit) => True) (fun _ t => jpost D (tyL cI cJ cC cL) (va_A [(q_t, .inr (8, [.ref q_t_now, .ref q_t_tried, .ref q_t_thought, .ref q_t_kept, .int t_undos, .ref q_t_saved, .int t_isSaved, .ref q_t_finds, .ref q_t_reach, .ref q_t_steps, .ref q_t_glows, .ref q_t_lower, .ref q_t_upper, .ref q_t_line, .int t_lined, .ref q_t_text, .int t_length, .int t_at, .int t_order, .ref q_t_told, .ref q_t_why, .ref q_t_more, .int t_whys, .int t_answer])), (q_t_now, .inl (cI, 133, .inl t_now)), (q_t_reach, .inl (cI, 16, .inl t_reach))] sz) [(q_t, .inr (8, [.ref q_t_now, .ref q_t_tried, .ref q_t_thought, .ref q_t_kept, .int t_undos, .ref q_t_saved, .int t_isSaved, .ref q_t_finds, .ref q_t_reach, .ref q_t_steps, .ref q_t_glows, .ref q_t_lower, .ref q_t_upper, .ref q_t_line, .int t_lined, .ref q_t_text, .int t_length, .int t_at, .int t_order, .ref q_t_told, .ref q_t_why, .ref q_t_more, .int t_whys, .int t_answer])), (q_t_now, .inl (cI, 133, .inl t_now)), (q_t_reach, .inl (cI, 16, .inl o_t_reach))] t) (va_A [(q_t, .inr (8, [.ref q_t_now, .ref q_t_tried, .ref q_t_thought, .ref q_t_kept, .int t_undos, .ref q_t_saved, .int t_isSaved, .ref q_t_finds, .ref q_t_reach, .ref q_t_steps, .ref q_t_glows, .ref q_t_lower, .ref q_t_upper, .ref q_t_line, .int t_lined, .ref q_t_text, .int t_length, .int t_at, .int t_order, .ref q_t_told, .ref q_t_why, .ref q_t_more, .int t_whys, .int t_answer])), (q_t_now, .inl (cI, 133, .inl t_now)), (q_t_reach, .inl (cI, 16, .inl t_reach))] sz)) 0 0 (va_A [(q_t, .inr (8, [.ref q_t_now, .ref q_t_tried, .ref q_t_thought, .ref q_t_kept, .int t_undos, .ref q_t_saved, .int t_isSaved, .ref q_t_finds, .ref q_t_reach, .ref q_t_steps, .ref q_t_glows, .ref q_t_lower, .ref q_t_upper, .ref q_t_line, .int t_lined, .ref q_t_text, .int t_length, .int t_at, .int t_order, .ref q_t_told, .ref q_t_why, .ref q_t_more, .int t_whys, .int t_answer])), (q_t_now, .inl (cI, 133, .inl t_now)), (q_t_reach, .inl (cI, 16, .inl t_reach))] sz) := by
  refine jE_v (cc := cX10_reaches) (maxL := 5) (own := RX10) (ret := none) (lv0 := [(0, .ref q_t)]) (by decide) rfl rfl rfl (Nat.le_of_ble_eq_true rfl) rfl ?_
  intro p e s m args below meth c A Q ls hx hb hml hown hts hK hN hX hA hP hD hS hl hRet
  have hF : CallFix p m c cX10_reaches 5 s args wsX10_reaches RX10 := ⟨hx, hb, hml, hown, hts⟩
  have fl_9 := hts (.fieldLink RX10 9 "LanternLogicModel" "now" "[I") (by decide +kernel)
  have fl_28 := hts (.fieldLink RX10 28 "LanternLogicModel" "reach" "[I") (by decide +kernel)
  have hin_X10 : ∀ w ∈ u_ws RX10 TX10 24, w ∈ wsX10_reaches := by decide +kernel
  have B66 : ∀ (k23 : (Nat → Int32) → Int32 → Option ((Nat → Int32))), (∀ (t_reach : Nat → Int32) (v1 : Int32) (H : Heap) (locs : List Loc), va_P D vwCl [(q_t, .inr (8, [.ref q_t_now, .ref q_t_tried, .ref q_t_thought, .ref q_t_kept, .int t_undos, .ref q_t_saved, .int t_isSaved, .ref q_t_finds, .ref q_t_reach, .ref q_t_steps, .ref q_t_glows, .ref q_t_lower, .ref q_t_upper, .ref q_t_line, .int t_lined, .ref q_t_text, .int t_length, .int t_at, .int t_order, .ref q_t_told, .ref q_t_why, .ref q_t_more, .int t_whys, .int t_answer])), (q_t_now, .inl (cI, 133, .inl t_now)), (q_t_reach, .inl (cI, 16, .inl t_reach))] H → va_D A [(q_t, .inr (8, [.ref q_t_now, .ref q_t_tried, .ref q_t_thought, .ref q_t_kept, .int t_undos, .ref q_t_saved, .int t_isSaved, .ref q_t_finds, .ref q_t_reach, .ref q_t_steps, .ref q_t_glows, .ref q_t_lower, .ref q_t_upper, .ref q_t_line, .int t_lined, .ref q_t_text, .int t_length, .int t_at, .int t_order, .ref q_t_told, .ref q_t_why, .ref q_t_more, .int t_whys, .int t_answer])), (q_t_now, .inl (cI, 133, .inl t_now)), (q_t_reach, .inl (cI, 16, .inl t_reach))] → va_S A s.heap H locs → ∀ ls : Array Slot, lv_has ls 5 [(0, .ref q_t), (1, .int v1)] → k23 t_reach v1 = some (o_t_reach) → W p l e rmX10_reaches s m args below meth c H locs 0 0 Q (F0 m 23 ls [])) → ∀ (k35 : (Nat → Int32) → Int32 → Int32 → Option ((Nat → Int32))), (∀ (t_reach : Nat → Int32) (v1 : Int32) (v2 : Int32) (H : Heap) (locs : List Loc), va_P D vwCl [(q_t, .inr (8, [.ref q_t_now, .ref q_t_tried, .ref q_t_thought, .ref q_t_kept, .int t_undos, .ref q_t_saved, .int t_isSaved, .ref q_t_finds, .ref q_t_reach, .ref q_t_steps, .ref q_t_glows, .ref q_t_lower, .ref q_t_upper, .ref q_t_line, .int t_lined, .ref q_t_text, .int t_length, .int t_at, .int t_order, .ref q_t_told, .ref q_t_why, .ref q_t_more, .int t_whys, .int t_answer])), (q_t_now, .inl (cI, 133, .inl t_now)), (q_t_reach, .inl (cI, 16, .inl t_reach))] H → va_D A [(q_t, .inr (8, [.ref q_t_now, .ref q_t_tried, .ref q_t_thought, .ref q_t_kept, .int t_undos, .ref q_t_saved, .int t_isSaved, .ref q_t_finds, .ref q_t_reach, .ref q_t_steps, .ref q_t_glows, .ref q_t_lower, .ref q_t_upper, .ref q_t_line, .int t_lined, .ref q_t_text, .int t_length, .int t_at, .int t_order, .ref q_t_told, .ref q_t_why, .ref q_t_more, .int t_whys, .int t_answer])), (q_t_now, .inl (cI, 133, .inl t_now)), (q_t_reach, .inl (cI, 16, .inl t_reach))] → va_S A s.heap H locs → ∀ ls : Array Slot, lv_has ls 5 [(0, .ref q_t), (1, .int v1), (2, .int v2)] → k35 t_reach v1 v2 = some (o_t_reach) → W p l e rmX10_reaches s m args below meth c H locs 0 0 Q (F0 m 35 ls [])) → ∀ (t_reach : Nat → Int32) (v1 : Int32) (v2 : Int32) (H : Heap) (locs : List Loc), va_P D vwCl [(q_t, .inr (8, [.ref q_t_now, .ref q_t_tried, .ref q_t_thought, .ref q_t_kept, .int t_undos, .ref q_t_saved, .int t_isSaved, .ref q_t_finds, .ref q_t_reach, .ref q_t_steps, .ref q_t_glows, .ref q_t_lower, .ref q_t_upper, .ref q_t_line, .int t_lined, .ref q_t_text, .int t_length, .int t_at, .int t_order, .ref q_t_told, .ref q_t_why, .ref q_t_more, .int t_whys, .int t_answer])), (q_t_now, .inl (cI, 133, .inl t_now)), (q_t_reach, .inl (cI, 16, .inl t_reach))] H → va_D A [(q_t, .inr (8, [.ref q_t_now, .ref q_t_tried, .ref q_t_thought, .ref q_t_kept, .int t_undos, .ref q_t_saved, .int t_isSaved, .ref q_t_finds, .ref q_t_reach, .ref q_t_steps, .ref q_t_glows, .ref q_t_lower, .ref q_t_upper, .ref q_t_line, .int t_lined, .ref q_t_text, .int t_length, .int t_at, .int t_order, .ref q_t_told, .ref q_t_why, .ref q_t_more, .int t_whys, .int t_answer])), (q_t_now, .inl (cI, 133, .inl t_now)), (q_t_reach, .inl (cI, 16, .inl t_reach))] → va_S A s.heap H locs → ∀ ls : Array Slot, lv_has ls 5 [(0, .ref q_t), (1, .int v1), (2, .int v2)] → J_X10_reaches_b66 k23 k35 t_now t_reach v1 v2 = some (o_t_reach) → W p l e rmX10_reaches s m args below meth c H locs 0 0 Q (F0 m 66 ls []) := by
    intro k23 hk23 k35 hk35 t_reach v1 v2 H locs hP hD hS ls hl hJ
    unfold J_X10_reaches_b66 at hJ
    refine jt_iinc hJ (fun x66 ex66 hJ => ?_)
    refine lv_iinc (v := x66) (lv' := [(2, .int x66), (0, .ref q_t), (1, .int v1)]) hx hb dX10_reaches_66 hl (k := 2) rfl ex66 (by decide) rfl (fun ls hl => ?_)
    refine lv_goto (tgt := 35) hx hb dX10_reaches_69 (by decide) ?_
    exact hk35 t_reach v1 x66  H locs  hP hD hS _ (lv_sub hl [1, 2, 0] rfl) hJ
  have L35 : ∀ (k23 : (Nat → Int32) → Int32 → Option ((Nat → Int32))), (∀ (t_reach : Nat → Int32) (v1 : Int32) (H : Heap) (locs : List Loc), va_P D vwCl [(q_t, .inr (8, [.ref q_t_now, .ref q_t_tried, .ref q_t_thought, .ref q_t_kept, .int t_undos, .ref q_t_saved, .int t_isSaved, .ref q_t_finds, .ref q_t_reach, .ref q_t_steps, .ref q_t_glows, .ref q_t_lower, .ref q_t_upper, .ref q_t_line, .int t_lined, .ref q_t_text, .int t_length, .int t_at, .int t_order, .ref q_t_told, .ref q_t_why, .ref q_t_more, .int t_whys, .int t_answer])), (q_t_now, .inl (cI, 133, .inl t_now)), (q_t_reach, .inl (cI, 16, .inl t_reach))] H → va_D A [(q_t, .inr (8, [.ref q_t_now, .ref q_t_tried, .ref q_t_thought, .ref q_t_kept, .int t_undos, .ref q_t_saved, .int t_isSaved, .ref q_t_finds, .ref q_t_reach, .ref q_t_steps, .ref q_t_glows, .ref q_t_lower, .ref q_t_upper, .ref q_t_line, .int t_lined, .ref q_t_text, .int t_length, .int t_at, .int t_order, .ref q_t_told, .ref q_t_why, .ref q_t_more, .int t_whys, .int t_answer])), (q_t_now, .inl (cI, 133, .inl t_now)), (q_t_reach, .inl (cI, 16, .inl t_reach))] → va_S A s.heap H locs → ∀ ls : Array Slot, lv_has ls 5 [(0, .ref q_t), (1, .int v1)] → k23 t_reach v1 = some (o_t_reach) → W p l e rmX10_reaches s m args below meth c H locs 0 0 Q (F0 m 23 ls [])) → ∀ (nf : Nat), ∀ (t_reach : Nat → Int32) (v1 : Int32) (v2 : Int32) (H : Heap) (locs : List Loc), va_P D vwCl [(q_t, .inr (8, [.ref q_t_now, .ref q_t_tried, .ref q_t_thought, .ref q_t_kept, .int t_undos, .ref q_t_saved, .int t_isSaved, .ref q_t_finds, .ref q_t_reach, .ref q_t_steps, .ref q_t_glows, .ref q_t_lower, .ref q_t_upper, .ref q_t_line, .int t_lined, .ref q_t_text, .int t_length, .int t_at, .int t_order, .ref q_t_told, .ref q_t_why, .ref q_t_more, .int t_whys, .int t_answer])), (q_t_now, .inl (cI, 133, .inl t_now)), (q_t_reach, .inl (cI, 16, .inl t_reach))] H → va_D A [(q_t, .inr (8, [.ref q_t_now, .ref q_t_tried, .ref q_t_thought, .ref q_t_kept, .int t_undos, .ref q_t_saved, .int t_isSaved, .ref q_t_finds, .ref q_t_reach, .ref q_t_steps, .ref q_t_glows, .ref q_t_lower, .ref q_t_upper, .ref q_t_line, .int t_lined, .ref q_t_text, .int t_length, .int t_at, .int t_order, .ref q_t_told, .ref q_t_why, .ref q_t_more, .int t_whys, .int t_answer])), (q_t_now, .inl (cI, 133, .inl t_now)), (q_t_reach, .inl (cI, 16, .inl t_reach))] → va_S A s.heap H locs → ∀ ls : Array Slot, lv_has ls 5 [(0, .ref q_t), (1, .int v1), (2, .int v2)] → J_X10_reaches_L35 k23 t_now nf t_reach v1 v2 = some (o_t_reach) → W p l e rmX10_reaches s m args below meth c H locs 0 0 Q (F0 m 35 ls []) := by
    intro k23 hk23 nf
    induction nf with
    | zero =>
      intro t_reach v1 v2 H locs hP hD hS ls hl hJ
      rw [J_X10_reaches_L35] at hJ
      cases hJ
    | succ nf ih =>
      intro t_reach v1 v2 H locs hP hD hS ls hl hJ
      rw [J_X10_reaches_L35] at hJ
      refine lv_iload_n hx hb dX10_reaches_35 rfl (lv_at hl 2 rfl) ?_
      refine lv_iconst (v := (3 : Int32)) hx hb dX10_reaches_36 (by decide) ?_
      refine jif_icmp_ge (tgt := 72) hx hb dX10_reaches_37 (by decide) hJ (fun hJ => ?_) (fun hJ => ?_)
      · refine jt_iinc hJ (fun x72 ex72 hJ => ?_)
        refine lv_iinc (v := x72) (lv' := [(1, .int x72), (0, .ref q_t), (2, .int v2)]) hx hb dX10_reaches_72 hl (k := 1) rfl ex72 (by decide) rfl (fun ls hl => ?_)
        refine lv_goto (tgt := 23) hx hb dX10_reaches_75 (by decide) ?_
        exact hk23 t_reach x72  H locs  hP hD hS _ (lv_sub hl [1, 0] rfl) hJ
      · refine lv_aload_n hx hb dX10_reaches_40 rfl (lv_at hl 0 rfl) ?_
        refine lv_iload_n hx hb dX10_reaches_41 rfl (lv_at hl 1 rfl) ?_
        refine lv_iload_n hx hb dX10_reaches_42 rfl (lv_at hl 2 rfl) ?_
        obtain ⟨x43, hc43, hJ⟩ := bnd1_some hJ
        refine jcV_i (C := RX10) (T := TX10) (N := 24) (ci := 8) (q0 := 0) (As := [.int v1, .int v2]) (rest := []) (isC := [0, 1]) (isR := [2]) (isB := [1, 2, 0]) (wr := [(q_t_reach, .inl (cI, 16, .inl t_reach))]) (ws2 := [(q_t, .inr (8, [.ref q_t_now, .ref q_t_tried, .ref q_t_thought, .ref q_t_kept, .int t_undos, .ref q_t_saved, .int t_isSaved, .ref q_t_finds, .ref q_t_reach, .ref q_t_steps, .ref q_t_glows, .ref q_t_lower, .ref q_t_upper, .ref q_t_line, .int t_lined, .ref q_t_text, .int t_length, .int t_at, .int t_order, .ref q_t_told, .ref q_t_why, .ref q_t_more, .int t_whys, .int t_answer])), (q_t_now, .inl (cI, 133, .inl t_now)), (q_t_reach, .inl (cI, 16, .inl t_reach))]) hF (c_X10_wired l D cI cJ cC cL q_t q_t_now q_t_tried q_t_thought q_t_kept q_t_saved q_t_finds q_t_reach q_t_steps q_t_glows q_t_lower q_t_upper q_t_line q_t_text q_t_told q_t_why q_t_more t_undos t_isSaved t_lined t_length t_at t_order t_whys t_answer t_now v1 v2 x43 hc43 H.size) (cwV 2 hts gX10_reaches_X10_wired rfl rfl rfl (by decide +kernel) ⟨Nat.le_of_ble_eq_true rfl, Nat.le_of_ble_eq_true rfl⟩) rfl hl rfl (Nat.le_of_ble_eq_true rfl) dX10_reaches_43 ⟨Nat.zero_le _, Nat.zero_le _⟩ hK hN KX_T trivial hP hD hS hA rfl rfl rfl rfl rfl rfl (by decide) rfl rfl (fun H locs hP hD hS => ?_)
        refine jif_lt (tgt := 66) hx hb dX10_reaches_46 (by decide) hJ (fun hJ => ?_) (fun hJ => ?_)
        · exact B66 k23 hk23 (fun z0 z1 z2 => J_X10_reaches_L35 k23 t_now nf z0 z1 z2) ih t_reach v1 v2  H locs  hP hD hS _ (lv_sub hl [0, 1, 2] rfl) hJ
        · refine lv_aload_n hx hb dX10_reaches_49 rfl (lv_at hl 0 rfl) ?_
          refine va_get (ci := 8) (v := .ref q_t_reach) (C := RX10) (T := TX10) (N := 24) hx hb hts hin_X10 hown hK hP 0 rfl rfl 8 (by decide) fl_28 (fun _ h9 => h9) rfl dX10_reaches_50 ?_
          refine lv_aload_n hx hb dX10_reaches_53 rfl (lv_at hl 0 rfl) ?_
          refine lv_iload_n hx hb dX10_reaches_54 rfl (lv_at hl 1 rfl) ?_
          refine lv_iload_n hx hb dX10_reaches_55 rfl (lv_at hl 2 rfl) ?_
          obtain ⟨x56, hc56, hJ⟩ := bnd1_some hJ
          refine jcV_i (C := RX10) (T := TX10) (N := 24) (ci := 8) (q0 := 0) (As := [.int v1, .int v2]) (rest := [.ref q_t_reach]) (isC := [0, 1]) (isR := [2]) (isB := [1, 2, 0]) (wr := [(q_t_reach, .inl (cI, 16, .inl t_reach))]) (ws2 := [(q_t, .inr (8, [.ref q_t_now, .ref q_t_tried, .ref q_t_thought, .ref q_t_kept, .int t_undos, .ref q_t_saved, .int t_isSaved, .ref q_t_finds, .ref q_t_reach, .ref q_t_steps, .ref q_t_glows, .ref q_t_lower, .ref q_t_upper, .ref q_t_line, .int t_lined, .ref q_t_text, .int t_length, .int t_at, .int t_order, .ref q_t_told, .ref q_t_why, .ref q_t_more, .int t_whys, .int t_answer])), (q_t_now, .inl (cI, 133, .inl t_now)), (q_t_reach, .inl (cI, 16, .inl t_reach))]) hF (c_X10_wired l D cI cJ cC cL q_t q_t_now q_t_tried q_t_thought q_t_kept q_t_saved q_t_finds q_t_reach q_t_steps q_t_glows q_t_lower q_t_upper q_t_line q_t_text q_t_told q_t_why q_t_more t_undos t_isSaved t_lined t_length t_at t_order t_whys t_answer t_now v1 v2 x56 hc56 H.size) (cwV 2 hts gX10_reaches_X10_wired rfl rfl rfl (by decide +kernel) ⟨Nat.le_of_ble_eq_true rfl, Nat.le_of_ble_eq_true rfl⟩) rfl hl rfl (Nat.le_of_ble_eq_true rfl) dX10_reaches_56 ⟨Nat.zero_le _, Nat.zero_le _⟩ hK hN KX_T trivial hP hD hS hA rfl rfl rfl rfl rfl rfl (by decide) rfl rfl (fun H locs hP hD hS => ?_)
          refine lv_dup2_11 hx hb dX10_reaches_59 rfl rfl ?_
          obtain ⟨hin, hJ⟩ := chk_in hJ
          refine va_iald hx hb hK hP 2 0 rfl rfl hin dX10_reaches_60 ?_
          refine jt_i hJ (fun x60 hJ => ?_)
          refine lv_iconst (v := (1 : Int32)) hx hb dX10_reaches_61 (by decide) ?_
          refine lv_iload_n hx hb dX10_reaches_62 rfl (lv_at hl 1 rfl) ?_
          refine lv_ishl hx hb dX10_reaches_63 ?_
          refine lv_ior hx hb dX10_reaches_64 ?_
          refine jt_i hJ (fun x64 hJ => ?_)
          obtain ⟨hin, hJ⟩ := chk_in hJ
          refine va_iast hx hb hK hP hD hS 2 0 rfl rfl hin dX10_reaches_65 (fun H locs hP hD hS => ?_)
          have hP : va_P D vwCl [(q_t, .inr (8, [.ref q_t_now, .ref q_t_tried, .ref q_t_thought, .ref q_t_kept, .int t_undos, .ref q_t_saved, .int t_isSaved, .ref q_t_finds, .ref q_t_reach, .ref q_t_steps, .ref q_t_glows, .ref q_t_lower, .ref q_t_upper, .ref q_t_line, .int t_lined, .ref q_t_text, .int t_length, .int t_at, .int t_order, .ref q_t_told, .ref q_t_why, .ref q_t_more, .int t_whys, .int t_answer])), (q_t_now, .inl (cI, 133, .inl t_now)), (q_t_reach, .inl (cI, 16, .inl (upd t_reach x56.toNatClampNeg x64)))] H := hP
          have hD : va_D A [(q_t, .inr (8, [.ref q_t_now, .ref q_t_tried, .ref q_t_thought, .ref q_t_kept, .int t_undos, .ref q_t_saved, .int t_isSaved, .ref q_t_finds, .ref q_t_reach, .ref q_t_steps, .ref q_t_glows, .ref q_t_lower, .ref q_t_upper, .ref q_t_line, .int t_lined, .ref q_t_text, .int t_length, .int t_at, .int t_order, .ref q_t_told, .ref q_t_why, .ref q_t_more, .int t_whys, .int t_answer])), (q_t_now, .inl (cI, 133, .inl t_now)), (q_t_reach, .inl (cI, 16, .inl (upd t_reach x56.toNatClampNeg x64)))] := hD
          exact B66 k23 hk23 (fun z0 z1 z2 => J_X10_reaches_L35 k23 t_now nf z0 z1 z2) ih (upd t_reach x56.toNatClampNeg x64) v1 v2  H locs  hP hD hS _ (lv_sub hl [0, 1, 2] rfl) hJ
  have B144 : ∀ (k80 : (Nat → Int32) → Int32 → Option ((Nat → Int32))), (∀ (t_reach : Nat → Int32) (v1 : Int32) (H : Heap) (locs : List Loc), va_P D vwCl [(q_t, .inr (8, [.ref q_t_now, .ref q_t_tried, .ref q_t_thought, .ref q_t_kept, .int t_undos, .ref q_t_saved, .int t_isSaved, .ref q_t_finds, .ref q_t_reach, .ref q_t_steps, .ref q_t_glows, .ref q_t_lower, .ref q_t_upper, .ref q_t_line, .int t_lined, .ref q_t_text, .int t_length, .int t_at, .int t_order, .ref q_t_told, .ref q_t_why, .ref q_t_more, .int t_whys, .int t_answer])), (q_t_now, .inl (cI, 133, .inl t_now)), (q_t_reach, .inl (cI, 16, .inl t_reach))] H → va_D A [(q_t, .inr (8, [.ref q_t_now, .ref q_t_tried, .ref q_t_thought, .ref q_t_kept, .int t_undos, .ref q_t_saved, .int t_isSaved, .ref q_t_finds, .ref q_t_reach, .ref q_t_steps, .ref q_t_glows, .ref q_t_lower, .ref q_t_upper, .ref q_t_line, .int t_lined, .ref q_t_text, .int t_length, .int t_at, .int t_order, .ref q_t_told, .ref q_t_why, .ref q_t_more, .int t_whys, .int t_answer])), (q_t_now, .inl (cI, 133, .inl t_now)), (q_t_reach, .inl (cI, 16, .inl t_reach))] → va_S A s.heap H locs → ∀ ls : Array Slot, lv_has ls 5 [(0, .ref q_t), (1, .int v1)] → k80 t_reach v1 = some (o_t_reach) → W p l e rmX10_reaches s m args below meth c H locs 0 0 Q (F0 m 80 ls [])) → ∀ (k88 : (Nat → Int32) → Int32 → Int32 → Option ((Nat → Int32))), (∀ (t_reach : Nat → Int32) (v1 : Int32) (v2 : Int32) (H : Heap) (locs : List Loc), va_P D vwCl [(q_t, .inr (8, [.ref q_t_now, .ref q_t_tried, .ref q_t_thought, .ref q_t_kept, .int t_undos, .ref q_t_saved, .int t_isSaved, .ref q_t_finds, .ref q_t_reach, .ref q_t_steps, .ref q_t_glows, .ref q_t_lower, .ref q_t_upper, .ref q_t_line, .int t_lined, .ref q_t_text, .int t_length, .int t_at, .int t_order, .ref q_t_told, .ref q_t_why, .ref q_t_more, .int t_whys, .int t_answer])), (q_t_now, .inl (cI, 133, .inl t_now)), (q_t_reach, .inl (cI, 16, .inl t_reach))] H → va_D A [(q_t, .inr (8, [.ref q_t_now, .ref q_t_tried, .ref q_t_thought, .ref q_t_kept, .int t_undos, .ref q_t_saved, .int t_isSaved, .ref q_t_finds, .ref q_t_reach, .ref q_t_steps, .ref q_t_glows, .ref q_t_lower, .ref q_t_upper, .ref q_t_line, .int t_lined, .ref q_t_text, .int t_length, .int t_at, .int t_order, .ref q_t_told, .ref q_t_why, .ref q_t_more, .int t_whys, .int t_answer])), (q_t_now, .inl (cI, 133, .inl t_now)), (q_t_reach, .inl (cI, 16, .inl t_reach))] → va_S A s.heap H locs → ∀ ls : Array Slot, lv_has ls 5 [(0, .ref q_t), (1, .int v1), (2, .int v2)] → k88 t_reach v1 v2 = some (o_t_reach) → W p l e rmX10_reaches s m args below meth c H locs 0 0 Q (F0 m 88 ls [])) → ∀ (k108 : (Nat → Int32) → Int32 → Int32 → Int32 → Int32 → Option ((Nat → Int32))), (∀ (t_reach : Nat → Int32) (v1 : Int32) (v2 : Int32) (v3 : Int32) (v4 : Int32) (H : Heap) (locs : List Loc), va_P D vwCl [(q_t, .inr (8, [.ref q_t_now, .ref q_t_tried, .ref q_t_thought, .ref q_t_kept, .int t_undos, .ref q_t_saved, .int t_isSaved, .ref q_t_finds, .ref q_t_reach, .ref q_t_steps, .ref q_t_glows, .ref q_t_lower, .ref q_t_upper, .ref q_t_line, .int t_lined, .ref q_t_text, .int t_length, .int t_at, .int t_order, .ref q_t_told, .ref q_t_why, .ref q_t_more, .int t_whys, .int t_answer])), (q_t_now, .inl (cI, 133, .inl t_now)), (q_t_reach, .inl (cI, 16, .inl t_reach))] H → va_D A [(q_t, .inr (8, [.ref q_t_now, .ref q_t_tried, .ref q_t_thought, .ref q_t_kept, .int t_undos, .ref q_t_saved, .int t_isSaved, .ref q_t_finds, .ref q_t_reach, .ref q_t_steps, .ref q_t_glows, .ref q_t_lower, .ref q_t_upper, .ref q_t_line, .int t_lined, .ref q_t_text, .int t_length, .int t_at, .int t_order, .ref q_t_told, .ref q_t_why, .ref q_t_more, .int t_whys, .int t_answer])), (q_t_now, .inl (cI, 133, .inl t_now)), (q_t_reach, .inl (cI, 16, .inl t_reach))] → va_S A s.heap H locs → ∀ ls : Array Slot, lv_has ls 5 [(0, .ref q_t), (1, .int v1), (2, .int v2), (3, .int v3), (4, .int v4)] → k108 t_reach v1 v2 v3 v4 = some (o_t_reach) → W p l e rmX10_reaches s m args below meth c H locs 0 0 Q (F0 m 108 ls [])) → ∀ (t_reach : Nat → Int32) (v1 : Int32) (v2 : Int32) (v3 : Int32) (v4 : Int32) (H : Heap) (locs : List Loc), va_P D vwCl [(q_t, .inr (8, [.ref q_t_now, .ref q_t_tried, .ref q_t_thought, .ref q_t_kept, .int t_undos, .ref q_t_saved, .int t_isSaved, .ref q_t_finds, .ref q_t_reach, .ref q_t_steps, .ref q_t_glows, .ref q_t_lower, .ref q_t_upper, .ref q_t_line, .int t_lined, .ref q_t_text, .int t_length, .int t_at, .int t_order, .ref q_t_told, .ref q_t_why, .ref q_t_more, .int t_whys, .int t_answer])), (q_t_now, .inl (cI, 133, .inl t_now)), (q_t_reach, .inl (cI, 16, .inl t_reach))] H → va_D A [(q_t, .inr (8, [.ref q_t_now, .ref q_t_tried, .ref q_t_thought, .ref q_t_kept, .int t_undos, .ref q_t_saved, .int t_isSaved, .ref q_t_finds, .ref q_t_reach, .ref q_t_steps, .ref q_t_glows, .ref q_t_lower, .ref q_t_upper, .ref q_t_line, .int t_lined, .ref q_t_text, .int t_length, .int t_at, .int t_order, .ref q_t_told, .ref q_t_why, .ref q_t_more, .int t_whys, .int t_answer])), (q_t_now, .inl (cI, 133, .inl t_now)), (q_t_reach, .inl (cI, 16, .inl t_reach))] → va_S A s.heap H locs → ∀ ls : Array Slot, lv_has ls 5 [(0, .ref q_t), (1, .int v1), (2, .int v2), (3, .int v3), (4, .int v4)] → J_X10_reaches_b144 k80 k88 k108 t_now t_reach v1 v2 v3 v4 = some (o_t_reach) → W p l e rmX10_reaches s m args below meth c H locs 0 0 Q (F0 m 144 ls []) := by
    intro k80 hk80 k88 hk88 k108 hk108 t_reach v1 v2 v3 v4 H locs hP hD hS ls hl hJ
    unfold J_X10_reaches_b144 at hJ
    refine jt_iinc hJ (fun x144 ex144 hJ => ?_)
    refine lv_iinc (v := x144) (lv' := [(4, .int x144), (0, .ref q_t), (1, .int v1), (2, .int v2), (3, .int v3)]) hx hb dX10_reaches_144 hl (k := 4) rfl ex144 (by decide) rfl (fun ls hl => ?_)
    refine lv_goto (tgt := 108) hx hb dX10_reaches_147 (by decide) ?_
    exact hk108 t_reach v1 v2 v3 x144  H locs  hP hD hS _ (lv_sub hl [1, 2, 3, 4, 0] rfl) hJ
  have B166 : ∀ (k80 : (Nat → Int32) → Int32 → Option ((Nat → Int32))), (∀ (t_reach : Nat → Int32) (v1 : Int32) (H : Heap) (locs : List Loc), va_P D vwCl [(q_t, .inr (8, [.ref q_t_now, .ref q_t_tried, .ref q_t_thought, .ref q_t_kept, .int t_undos, .ref q_t_saved, .int t_isSaved, .ref q_t_finds, .ref q_t_reach, .ref q_t_steps, .ref q_t_glows, .ref q_t_lower, .ref q_t_upper, .ref q_t_line, .int t_lined, .ref q_t_text, .int t_length, .int t_at, .int t_order, .ref q_t_told, .ref q_t_why, .ref q_t_more, .int t_whys, .int t_answer])), (q_t_now, .inl (cI, 133, .inl t_now)), (q_t_reach, .inl (cI, 16, .inl t_reach))] H → va_D A [(q_t, .inr (8, [.ref q_t_now, .ref q_t_tried, .ref q_t_thought, .ref q_t_kept, .int t_undos, .ref q_t_saved, .int t_isSaved, .ref q_t_finds, .ref q_t_reach, .ref q_t_steps, .ref q_t_glows, .ref q_t_lower, .ref q_t_upper, .ref q_t_line, .int t_lined, .ref q_t_text, .int t_length, .int t_at, .int t_order, .ref q_t_told, .ref q_t_why, .ref q_t_more, .int t_whys, .int t_answer])), (q_t_now, .inl (cI, 133, .inl t_now)), (q_t_reach, .inl (cI, 16, .inl t_reach))] → va_S A s.heap H locs → ∀ ls : Array Slot, lv_has ls 5 [(0, .ref q_t), (1, .int v1)] → k80 t_reach v1 = some (o_t_reach) → W p l e rmX10_reaches s m args below meth c H locs 0 0 Q (F0 m 80 ls [])) → ∀ (k88 : (Nat → Int32) → Int32 → Int32 → Option ((Nat → Int32))), (∀ (t_reach : Nat → Int32) (v1 : Int32) (v2 : Int32) (H : Heap) (locs : List Loc), va_P D vwCl [(q_t, .inr (8, [.ref q_t_now, .ref q_t_tried, .ref q_t_thought, .ref q_t_kept, .int t_undos, .ref q_t_saved, .int t_isSaved, .ref q_t_finds, .ref q_t_reach, .ref q_t_steps, .ref q_t_glows, .ref q_t_lower, .ref q_t_upper, .ref q_t_line, .int t_lined, .ref q_t_text, .int t_length, .int t_at, .int t_order, .ref q_t_told, .ref q_t_why, .ref q_t_more, .int t_whys, .int t_answer])), (q_t_now, .inl (cI, 133, .inl t_now)), (q_t_reach, .inl (cI, 16, .inl t_reach))] H → va_D A [(q_t, .inr (8, [.ref q_t_now, .ref q_t_tried, .ref q_t_thought, .ref q_t_kept, .int t_undos, .ref q_t_saved, .int t_isSaved, .ref q_t_finds, .ref q_t_reach, .ref q_t_steps, .ref q_t_glows, .ref q_t_lower, .ref q_t_upper, .ref q_t_line, .int t_lined, .ref q_t_text, .int t_length, .int t_at, .int t_order, .ref q_t_told, .ref q_t_why, .ref q_t_more, .int t_whys, .int t_answer])), (q_t_now, .inl (cI, 133, .inl t_now)), (q_t_reach, .inl (cI, 16, .inl t_reach))] → va_S A s.heap H locs → ∀ ls : Array Slot, lv_has ls 5 [(0, .ref q_t), (1, .int v1), (2, .int v2)] → k88 t_reach v1 v2 = some (o_t_reach) → W p l e rmX10_reaches s m args below meth c H locs 0 0 Q (F0 m 88 ls [])) → ∀ (t_reach : Nat → Int32) (v2 : Int32) (v3 : Int32) (s166_0 : Int32) (s166_1 : Int32) (H : Heap) (locs : List Loc), va_P D vwCl [(q_t, .inr (8, [.ref q_t_now, .ref q_t_tried, .ref q_t_thought, .ref q_t_kept, .int t_undos, .ref q_t_saved, .int t_isSaved, .ref q_t_finds, .ref q_t_reach, .ref q_t_steps, .ref q_t_glows, .ref q_t_lower, .ref q_t_upper, .ref q_t_line, .int t_lined, .ref q_t_text, .int t_length, .int t_at, .int t_order, .ref q_t_told, .ref q_t_why, .ref q_t_more, .int t_whys, .int t_answer])), (q_t_now, .inl (cI, 133, .inl t_now)), (q_t_reach, .inl (cI, 16, .inl t_reach))] H → va_D A [(q_t, .inr (8, [.ref q_t_now, .ref q_t_tried, .ref q_t_thought, .ref q_t_kept, .int t_undos, .ref q_t_saved, .int t_isSaved, .ref q_t_finds, .ref q_t_reach, .ref q_t_steps, .ref q_t_glows, .ref q_t_lower, .ref q_t_upper, .ref q_t_line, .int t_lined, .ref q_t_text, .int t_length, .int t_at, .int t_order, .ref q_t_told, .ref q_t_why, .ref q_t_more, .int t_whys, .int t_answer])), (q_t_now, .inl (cI, 133, .inl t_now)), (q_t_reach, .inl (cI, 16, .inl t_reach))] → va_S A s.heap H locs → ∀ ls : Array Slot, lv_has ls 5 [(0, .ref q_t), (2, .int v2), (3, .int v3)] → J_X10_reaches_b166 k80 k88 t_now t_reach v2 v3 s166_0 s166_1 = some (o_t_reach) → W p l e rmX10_reaches s m args below meth c H locs 0 0 Q (F0 m 166 ls [.int s166_1, .int s166_0]) := by
    intro k80 hk80 k88 hk88 t_reach v2 v3 s166_0 s166_1 H locs hP hD hS ls hl hJ
    unfold J_X10_reaches_b166 at hJ
    refine lv_ior hx hb dX10_reaches_166 ?_
    refine jt_i hJ (fun x166 hJ => ?_)
    refine lv_istore_n (lv' := [(1, .int x166), (0, .ref q_t), (2, .int v2), (3, .int v3)]) hx hb dX10_reaches_167 rfl hl (by decide) rfl (fun ls hl => ?_)
    refine lv_aload_n hx hb dX10_reaches_168 rfl (lv_at hl 1 rfl) ?_
    refine va_get (ci := 8) (v := .ref q_t_reach) (C := RX10) (T := TX10) (N := 24) hx hb hts hin_X10 hown hK hP 0 rfl rfl 8 (by decide) fl_28 (fun _ h9 => h9) rfl dX10_reaches_169 ?_
    refine lv_iload_n hx hb dX10_reaches_172 rfl (lv_at hl 2 rfl) ?_
    refine lv_iload_n hx hb dX10_reaches_173 rfl (lv_at hl 3 rfl) ?_
    obtain ⟨hin, hJ⟩ := chk_in hJ
    refine va_iast hx hb hK hP hD hS 2 0 rfl rfl hin dX10_reaches_174 (fun H locs hP hD hS => ?_)
    have hP : va_P D vwCl [(q_t, .inr (8, [.ref q_t_now, .ref q_t_tried, .ref q_t_thought, .ref q_t_kept, .int t_undos, .ref q_t_saved, .int t_isSaved, .ref q_t_finds, .ref q_t_reach, .ref q_t_steps, .ref q_t_glows, .ref q_t_lower, .ref q_t_upper, .ref q_t_line, .int t_lined, .ref q_t_text, .int t_length, .int t_at, .int t_order, .ref q_t_told, .ref q_t_why, .ref q_t_more, .int t_whys, .int t_answer])), (q_t_now, .inl (cI, 133, .inl t_now)), (q_t_reach, .inl (cI, 16, .inl (upd t_reach v2.toNatClampNeg v3)))] H := hP
    have hD : va_D A [(q_t, .inr (8, [.ref q_t_now, .ref q_t_tried, .ref q_t_thought, .ref q_t_kept, .int t_undos, .ref q_t_saved, .int t_isSaved, .ref q_t_finds, .ref q_t_reach, .ref q_t_steps, .ref q_t_glows, .ref q_t_lower, .ref q_t_upper, .ref q_t_line, .int t_lined, .ref q_t_text, .int t_length, .int t_at, .int t_order, .ref q_t_told, .ref q_t_why, .ref q_t_more, .int t_whys, .int t_answer])), (q_t_now, .inl (cI, 133, .inl t_now)), (q_t_reach, .inl (cI, 16, .inl (upd t_reach v2.toNatClampNeg v3)))] := hD
    refine jt_iinc hJ (fun x175 ex175 hJ => ?_)
    refine lv_iinc (v := x175) (lv' := [(2, .int x175), (1, .int x166), (0, .ref q_t), (3, .int v3)]) hx hb dX10_reaches_175 hl (k := 2) rfl ex175 (by decide) rfl (fun ls hl => ?_)
    refine lv_goto (tgt := 88) hx hb dX10_reaches_178 (by decide) ?_
    exact hk88 (upd t_reach v2.toNatClampNeg v3) x166 x175  H locs  hP hD hS _ (lv_sub hl [2, 1, 0] rfl) hJ
  have L108 : ∀ (k80 : (Nat → Int32) → Int32 → Option ((Nat → Int32))), (∀ (t_reach : Nat → Int32) (v1 : Int32) (H : Heap) (locs : List Loc), va_P D vwCl [(q_t, .inr (8, [.ref q_t_now, .ref q_t_tried, .ref q_t_thought, .ref q_t_kept, .int t_undos, .ref q_t_saved, .int t_isSaved, .ref q_t_finds, .ref q_t_reach, .ref q_t_steps, .ref q_t_glows, .ref q_t_lower, .ref q_t_upper, .ref q_t_line, .int t_lined, .ref q_t_text, .int t_length, .int t_at, .int t_order, .ref q_t_told, .ref q_t_why, .ref q_t_more, .int t_whys, .int t_answer])), (q_t_now, .inl (cI, 133, .inl t_now)), (q_t_reach, .inl (cI, 16, .inl t_reach))] H → va_D A [(q_t, .inr (8, [.ref q_t_now, .ref q_t_tried, .ref q_t_thought, .ref q_t_kept, .int t_undos, .ref q_t_saved, .int t_isSaved, .ref q_t_finds, .ref q_t_reach, .ref q_t_steps, .ref q_t_glows, .ref q_t_lower, .ref q_t_upper, .ref q_t_line, .int t_lined, .ref q_t_text, .int t_length, .int t_at, .int t_order, .ref q_t_told, .ref q_t_why, .ref q_t_more, .int t_whys, .int t_answer])), (q_t_now, .inl (cI, 133, .inl t_now)), (q_t_reach, .inl (cI, 16, .inl t_reach))] → va_S A s.heap H locs → ∀ ls : Array Slot, lv_has ls 5 [(0, .ref q_t), (1, .int v1)] → k80 t_reach v1 = some (o_t_reach) → W p l e rmX10_reaches s m args below meth c H locs 0 0 Q (F0 m 80 ls [])) → ∀ (k88 : (Nat → Int32) → Int32 → Int32 → Option ((Nat → Int32))), (∀ (t_reach : Nat → Int32) (v1 : Int32) (v2 : Int32) (H : Heap) (locs : List Loc), va_P D vwCl [(q_t, .inr (8, [.ref q_t_now, .ref q_t_tried, .ref q_t_thought, .ref q_t_kept, .int t_undos, .ref q_t_saved, .int t_isSaved, .ref q_t_finds, .ref q_t_reach, .ref q_t_steps, .ref q_t_glows, .ref q_t_lower, .ref q_t_upper, .ref q_t_line, .int t_lined, .ref q_t_text, .int t_length, .int t_at, .int t_order, .ref q_t_told, .ref q_t_why, .ref q_t_more, .int t_whys, .int t_answer])), (q_t_now, .inl (cI, 133, .inl t_now)), (q_t_reach, .inl (cI, 16, .inl t_reach))] H → va_D A [(q_t, .inr (8, [.ref q_t_now, .ref q_t_tried, .ref q_t_thought, .ref q_t_kept, .int t_undos, .ref q_t_saved, .int t_isSaved, .ref q_t_finds, .ref q_t_reach, .ref q_t_steps, .ref q_t_glows, .ref q_t_lower, .ref q_t_upper, .ref q_t_line, .int t_lined, .ref q_t_text, .int t_length, .int t_at, .int t_order, .ref q_t_told, .ref q_t_why, .ref q_t_more, .int t_whys, .int t_answer])), (q_t_now, .inl (cI, 133, .inl t_now)), (q_t_reach, .inl (cI, 16, .inl t_reach))] → va_S A s.heap H locs → ∀ ls : Array Slot, lv_has ls 5 [(0, .ref q_t), (1, .int v1), (2, .int v2)] → k88 t_reach v1 v2 = some (o_t_reach) → W p l e rmX10_reaches s m args below meth c H locs 0 0 Q (F0 m 88 ls [])) → ∀ (nf : Nat), ∀ (t_reach : Nat → Int32) (v1 : Int32) (v2 : Int32) (v3 : Int32) (v4 : Int32) (H : Heap) (locs : List Loc), va_P D vwCl [(q_t, .inr (8, [.ref q_t_now, .ref q_t_tried, .ref q_t_thought, .ref q_t_kept, .int t_undos, .ref q_t_saved, .int t_isSaved, .ref q_t_finds, .ref q_t_reach, .ref q_t_steps, .ref q_t_glows, .ref q_t_lower, .ref q_t_upper, .ref q_t_line, .int t_lined, .ref q_t_text, .int t_length, .int t_at, .int t_order, .ref q_t_told, .ref q_t_why, .ref q_t_more, .int t_whys, .int t_answer])), (q_t_now, .inl (cI, 133, .inl t_now)), (q_t_reach, .inl (cI, 16, .inl t_reach))] H → va_D A [(q_t, .inr (8, [.ref q_t_now, .ref q_t_tried, .ref q_t_thought, .ref q_t_kept, .int t_undos, .ref q_t_saved, .int t_isSaved, .ref q_t_finds, .ref q_t_reach, .ref q_t_steps, .ref q_t_glows, .ref q_t_lower, .ref q_t_upper, .ref q_t_line, .int t_lined, .ref q_t_text, .int t_length, .int t_at, .int t_order, .ref q_t_told, .ref q_t_why, .ref q_t_more, .int t_whys, .int t_answer])), (q_t_now, .inl (cI, 133, .inl t_now)), (q_t_reach, .inl (cI, 16, .inl t_reach))] → va_S A s.heap H locs → ∀ ls : Array Slot, lv_has ls 5 [(0, .ref q_t), (1, .int v1), (2, .int v2), (3, .int v3), (4, .int v4)] → J_X10_reaches_L108 k80 k88 t_now nf t_reach v1 v2 v3 v4 = some (o_t_reach) → W p l e rmX10_reaches s m args below meth c H locs 0 0 Q (F0 m 108 ls []) := by
    intro k80 hk80 k88 hk88 nf
    induction nf with
    | zero =>
      intro t_reach v1 v2 v3 v4 H locs hP hD hS ls hl hJ
      rw [J_X10_reaches_L108] at hJ
      cases hJ
    | succ nf ih =>
      intro t_reach v1 v2 v3 v4 H locs hP hD hS ls hl hJ
      rw [J_X10_reaches_L108] at hJ
      refine lv_iload hx hb dX10_reaches_108 (lv_at hl 4 rfl) ?_
      refine lv_aload_n hx hb dX10_reaches_110 rfl (lv_at hl 0 rfl) ?_
      refine va_get (ci := 8) (v := .ref q_t_now) (C := RX10) (T := TX10) (N := 24) hx hb hts hin_X10 hown hK hP 0 rfl rfl 0 (by decide) fl_9 (fun _ h9 => h9) rfl dX10_reaches_111 ?_
      refine lv_iconst (v := (0 : Int32)) hx hb dX10_reaches_114 (by decide) ?_
      obtain ⟨hin, hJ⟩ := chk_in hJ
      refine va_iald hx hb hK hP 1 0 rfl rfl hin dX10_reaches_115 ?_
      refine jt_i hJ (fun x115 hJ => ?_)
      refine jif_icmp_ge (tgt := 150) hx hb dX10_reaches_116 (by decide) hJ (fun hJ => ?_) (fun hJ => ?_)
      · refine lv_iload_n hx hb dX10_reaches_150 rfl (lv_at hl 1 rfl) ?_
        refine lv_iload_n hx hb dX10_reaches_151 rfl (lv_at hl 3 rfl) ?_
        refine lv_aload_n hx hb dX10_reaches_152 rfl (lv_at hl 0 rfl) ?_
        refine va_get (ci := 8) (v := .ref q_t_reach) (C := RX10) (T := TX10) (N := 24) hx hb hts hin_X10 hown hK hP 0 rfl rfl 8 (by decide) fl_28 (fun _ h9 => h9) rfl dX10_reaches_153 ?_
        refine lv_iload_n hx hb dX10_reaches_156 rfl (lv_at hl 2 rfl) ?_
        obtain ⟨hin, hJ⟩ := chk_in hJ
        refine va_iald hx hb hK hP 2 0 rfl rfl hin dX10_reaches_157 ?_
        refine jt_i hJ (fun x157 hJ => ?_)
        refine jif_icmp_eq (tgt := 165) hx hb dX10_reaches_158 (by decide) hJ (fun hJ => ?_) (fun hJ => ?_)
        · refine lv_iconst (v := (0 : Int32)) hx hb dX10_reaches_165 (by decide) ?_
          exact B166 k80 hk80 k88 hk88 t_reach v2 v3 v1 (0 : Int32)  H locs  hP hD hS _ (lv_sub hl [0, 2, 3] rfl) hJ
        · refine lv_iconst (v := (1 : Int32)) hx hb dX10_reaches_161 (by decide) ?_
          refine lv_goto (tgt := 166) hx hb dX10_reaches_162 (by decide) ?_
          exact B166 k80 hk80 k88 hk88 t_reach v2 v3 v1 (1 : Int32)  H locs  hP hD hS _ (lv_sub hl [0, 2, 3] rfl) hJ
      · refine lv_aload_n hx hb dX10_reaches_119 rfl (lv_at hl 0 rfl) ?_
        refine va_get (ci := 8) (v := .ref q_t_reach) (C := RX10) (T := TX10) (N := 24) hx hb hts hin_X10 hown hK hP 0 rfl rfl 8 (by decide) fl_28 (fun _ h9 => h9) rfl dX10_reaches_120 ?_
        refine lv_iload_n hx hb dX10_reaches_123 rfl (lv_at hl 2 rfl) ?_
        obtain ⟨hin, hJ⟩ := chk_in hJ
        refine va_iald hx hb hK hP 2 0 rfl rfl hin dX10_reaches_124 ?_
        refine jt_i hJ (fun x124 hJ => ?_)
        refine lv_iload hx hb dX10_reaches_125 (lv_at hl 4 rfl) ?_
        refine lv_ishr hx hb dX10_reaches_127 ?_
        refine jt_i hJ (fun x127 hJ => ?_)
        refine lv_iconst (v := (1 : Int32)) hx hb dX10_reaches_128 (by decide) ?_
        refine lv_iand hx hb dX10_reaches_129 ?_
        refine jt_i hJ (fun x129 hJ => ?_)
        refine lv_iconst (v := (1 : Int32)) hx hb dX10_reaches_130 (by decide) ?_
        refine jif_icmp_ne (tgt := 144) hx hb dX10_reaches_131 (by decide) hJ (fun hJ => ?_) (fun hJ => ?_)
        · exact B144 k80 hk80 k88 hk88 (fun z0 z1 z2 z3 z4 => J_X10_reaches_L108 k80 k88 t_now nf z0 z1 z2 z3 z4) ih t_reach v1 v2 v3 v4  H locs  hP hD hS _ (lv_sub hl [0, 1, 2, 3, 4] rfl) hJ
        · refine lv_iload_n hx hb dX10_reaches_134 rfl (lv_at hl 3 rfl) ?_
          refine lv_aload_n hx hb dX10_reaches_135 rfl (lv_at hl 0 rfl) ?_
          refine va_get (ci := 8) (v := .ref q_t_reach) (C := RX10) (T := TX10) (N := 24) hx hb hts hin_X10 hown hK hP 0 rfl rfl 8 (by decide) fl_28 (fun _ h9 => h9) rfl dX10_reaches_136 ?_
          refine lv_iload hx hb dX10_reaches_139 (lv_at hl 4 rfl) ?_
          obtain ⟨hin, hJ⟩ := chk_in hJ
          refine va_iald hx hb hK hP 2 0 rfl rfl hin dX10_reaches_141 ?_
          refine jt_i hJ (fun x141 hJ => ?_)
          refine lv_ior hx hb dX10_reaches_142 ?_
          refine jt_i hJ (fun x142 hJ => ?_)
          refine lv_istore_n (lv' := [(3, .int x142), (0, .ref q_t), (1, .int v1), (2, .int v2), (4, .int v4)]) hx hb dX10_reaches_143 rfl hl (by decide) rfl (fun ls hl => ?_)
          exact B144 k80 hk80 k88 hk88 (fun z0 z1 z2 z3 z4 => J_X10_reaches_L108 k80 k88 t_now nf z0 z1 z2 z3 z4) ih t_reach v1 v2 x142 v4  H locs  hP hD hS _ (lv_sub hl [1, 2, 3, 0, 4] rfl) hJ
  have L88 : ∀ (k80 : (Nat → Int32) → Int32 → Option ((Nat → Int32))), (∀ (t_reach : Nat → Int32) (v1 : Int32) (H : Heap) (locs : List Loc), va_P D vwCl [(q_t, .inr (8, [.ref q_t_now, .ref q_t_tried, .ref q_t_thought, .ref q_t_kept, .int t_undos, .ref q_t_saved, .int t_isSaved, .ref q_t_finds, .ref q_t_reach, .ref q_t_steps, .ref q_t_glows, .ref q_t_lower, .ref q_t_upper, .ref q_t_line, .int t_lined, .ref q_t_text, .int t_length, .int t_at, .int t_order, .ref q_t_told, .ref q_t_why, .ref q_t_more, .int t_whys, .int t_answer])), (q_t_now, .inl (cI, 133, .inl t_now)), (q_t_reach, .inl (cI, 16, .inl t_reach))] H → va_D A [(q_t, .inr (8, [.ref q_t_now, .ref q_t_tried, .ref q_t_thought, .ref q_t_kept, .int t_undos, .ref q_t_saved, .int t_isSaved, .ref q_t_finds, .ref q_t_reach, .ref q_t_steps, .ref q_t_glows, .ref q_t_lower, .ref q_t_upper, .ref q_t_line, .int t_lined, .ref q_t_text, .int t_length, .int t_at, .int t_order, .ref q_t_told, .ref q_t_why, .ref q_t_more, .int t_whys, .int t_answer])), (q_t_now, .inl (cI, 133, .inl t_now)), (q_t_reach, .inl (cI, 16, .inl t_reach))] → va_S A s.heap H locs → ∀ ls : Array Slot, lv_has ls 5 [(0, .ref q_t), (1, .int v1)] → k80 t_reach v1 = some (o_t_reach) → W p l e rmX10_reaches s m args below meth c H locs 0 0 Q (F0 m 80 ls [])) → ∀ (nf : Nat), ∀ (t_reach : Nat → Int32) (v1 : Int32) (v2 : Int32) (H : Heap) (locs : List Loc), va_P D vwCl [(q_t, .inr (8, [.ref q_t_now, .ref q_t_tried, .ref q_t_thought, .ref q_t_kept, .int t_undos, .ref q_t_saved, .int t_isSaved, .ref q_t_finds, .ref q_t_reach, .ref q_t_steps, .ref q_t_glows, .ref q_t_lower, .ref q_t_upper, .ref q_t_line, .int t_lined, .ref q_t_text, .int t_length, .int t_at, .int t_order, .ref q_t_told, .ref q_t_why, .ref q_t_more, .int t_whys, .int t_answer])), (q_t_now, .inl (cI, 133, .inl t_now)), (q_t_reach, .inl (cI, 16, .inl t_reach))] H → va_D A [(q_t, .inr (8, [.ref q_t_now, .ref q_t_tried, .ref q_t_thought, .ref q_t_kept, .int t_undos, .ref q_t_saved, .int t_isSaved, .ref q_t_finds, .ref q_t_reach, .ref q_t_steps, .ref q_t_glows, .ref q_t_lower, .ref q_t_upper, .ref q_t_line, .int t_lined, .ref q_t_text, .int t_length, .int t_at, .int t_order, .ref q_t_told, .ref q_t_why, .ref q_t_more, .int t_whys, .int t_answer])), (q_t_now, .inl (cI, 133, .inl t_now)), (q_t_reach, .inl (cI, 16, .inl t_reach))] → va_S A s.heap H locs → ∀ ls : Array Slot, lv_has ls 5 [(0, .ref q_t), (1, .int v1), (2, .int v2)] → J_X10_reaches_L88 k80 t_now nf t_reach v1 v2 = some (o_t_reach) → W p l e rmX10_reaches s m args below meth c H locs 0 0 Q (F0 m 88 ls []) := by
    intro k80 hk80 nf
    induction nf with
    | zero =>
      intro t_reach v1 v2 H locs hP hD hS ls hl hJ
      rw [J_X10_reaches_L88] at hJ
      cases hJ
    | succ nf ih =>
      intro t_reach v1 v2 H locs hP hD hS ls hl hJ
      rw [J_X10_reaches_L88] at hJ
      refine lv_iload_n hx hb dX10_reaches_88 rfl (lv_at hl 2 rfl) ?_
      refine lv_aload_n hx hb dX10_reaches_89 rfl (lv_at hl 0 rfl) ?_
      refine va_get (ci := 8) (v := .ref q_t_now) (C := RX10) (T := TX10) (N := 24) hx hb hts hin_X10 hown hK hP 0 rfl rfl 0 (by decide) fl_9 (fun _ h9 => h9) rfl dX10_reaches_90 ?_
      refine lv_iconst (v := (0 : Int32)) hx hb dX10_reaches_93 (by decide) ?_
      obtain ⟨hin, hJ⟩ := chk_in hJ
      refine va_iald hx hb hK hP 1 0 rfl rfl hin dX10_reaches_94 ?_
      refine jt_i hJ (fun x94 hJ => ?_)
      refine jif_icmp_ge (tgt := 181) hx hb dX10_reaches_95 (by decide) hJ (fun hJ => ?_) (fun hJ => ?_)
      · refine lv_goto (tgt := 80) hx hb dX10_reaches_181 (by decide) ?_
        exact hk80 t_reach v1  H locs  hP hD hS _ (lv_sub hl [0, 1] rfl) hJ
      · refine lv_aload_n hx hb dX10_reaches_98 rfl (lv_at hl 0 rfl) ?_
        refine va_get (ci := 8) (v := .ref q_t_reach) (C := RX10) (T := TX10) (N := 24) hx hb hts hin_X10 hown hK hP 0 rfl rfl 8 (by decide) fl_28 (fun _ h9 => h9) rfl dX10_reaches_99 ?_
        refine lv_iload_n hx hb dX10_reaches_102 rfl (lv_at hl 2 rfl) ?_
        obtain ⟨hin, hJ⟩ := chk_in hJ
        refine va_iald hx hb hK hP 2 0 rfl rfl hin dX10_reaches_103 ?_
        refine jt_i hJ (fun x103 hJ => ?_)
        refine lv_istore_n (lv' := [(3, .int x103), (0, .ref q_t), (1, .int v1), (2, .int v2)]) hx hb dX10_reaches_104 rfl hl (by decide) rfl (fun ls hl => ?_)
        refine lv_iconst (v := (0 : Int32)) hx hb dX10_reaches_105 (by decide) ?_
        refine lv_istore (lv' := [(4, .int (0 : Int32)), (3, .int x103), (0, .ref q_t), (1, .int v1), (2, .int v2)]) hx hb dX10_reaches_106 hl (by decide) rfl (fun ls hl => ?_)
        exact L108 k80 hk80 (fun z0 z1 z2 => J_X10_reaches_L88 k80 t_now nf z0 z1 z2) ih FU t_reach v1 v2 x103 (0 : Int32)  H locs  hP hD hS _ (lv_sub hl [2, 3, 4, 1, 0] rfl) hJ
  have L80 : ∀ (nf : Nat), ∀ (t_reach : Nat → Int32) (v1 : Int32) (H : Heap) (locs : List Loc), va_P D vwCl [(q_t, .inr (8, [.ref q_t_now, .ref q_t_tried, .ref q_t_thought, .ref q_t_kept, .int t_undos, .ref q_t_saved, .int t_isSaved, .ref q_t_finds, .ref q_t_reach, .ref q_t_steps, .ref q_t_glows, .ref q_t_lower, .ref q_t_upper, .ref q_t_line, .int t_lined, .ref q_t_text, .int t_length, .int t_at, .int t_order, .ref q_t_told, .ref q_t_why, .ref q_t_more, .int t_whys, .int t_answer])), (q_t_now, .inl (cI, 133, .inl t_now)), (q_t_reach, .inl (cI, 16, .inl t_reach))] H → va_D A [(q_t, .inr (8, [.ref q_t_now, .ref q_t_tried, .ref q_t_thought, .ref q_t_kept, .int t_undos, .ref q_t_saved, .int t_isSaved, .ref q_t_finds, .ref q_t_reach, .ref q_t_steps, .ref q_t_glows, .ref q_t_lower, .ref q_t_upper, .ref q_t_line, .int t_lined, .ref q_t_text, .int t_length, .int t_at, .int t_order, .ref q_t_told, .ref q_t_why, .ref q_t_more, .int t_whys, .int t_answer])), (q_t_now, .inl (cI, 133, .inl t_now)), (q_t_reach, .inl (cI, 16, .inl t_reach))] → va_S A s.heap H locs → ∀ ls : Array Slot, lv_has ls 5 [(0, .ref q_t), (1, .int v1)] → J_X10_reaches_L80  t_now nf t_reach v1 = some (o_t_reach) → W p l e rmX10_reaches s m args below meth c H locs 0 0 Q (F0 m 80 ls []) := by
    intro nf
    induction nf with
    | zero =>
      intro t_reach v1 H locs hP hD hS ls hl hJ
      rw [J_X10_reaches_L80] at hJ
      cases hJ
    | succ nf ih =>
      intro t_reach v1 H locs hP hD hS ls hl hJ
      rw [J_X10_reaches_L80] at hJ
      refine lv_iload_n hx hb dX10_reaches_80 rfl (lv_at hl 1 rfl) ?_
      refine jif_eq (tgt := 184) hx hb dX10_reaches_81 (by decide) hJ (fun hJ => ?_) (fun hJ => ?_)
      · have e0 := Option.some.inj hJ
        exact hRet (by rw [← e0]; exact hP) (by rw [← e0]; exact hD) hS dX10_reaches_184
      · refine lv_iconst (v := (0 : Int32)) hx hb dX10_reaches_84 (by decide) ?_
        refine lv_istore_n (lv' := [(1, .int (0 : Int32)), (0, .ref q_t)]) hx hb dX10_reaches_85 rfl hl (by decide) rfl (fun ls hl => ?_)
        refine lv_iconst (v := (0 : Int32)) hx hb dX10_reaches_86 (by decide) ?_
        refine lv_istore_n (lv' := [(2, .int (0 : Int32)), (1, .int (0 : Int32)), (0, .ref q_t)]) hx hb dX10_reaches_87 rfl hl (by decide) rfl (fun ls hl => ?_)
        exact L88 (fun z0 z1 => J_X10_reaches_L80 t_now nf z0 z1) ih FU t_reach (0 : Int32) (0 : Int32)  H locs  hP hD hS _ (lv_sub hl [2, 1, 0] rfl) hJ
  have L23 : ∀ (nf : Nat), ∀ (t_reach : Nat → Int32) (v1 : Int32) (H : Heap) (locs : List Loc), va_P D vwCl [(q_t, .inr (8, [.ref q_t_now, .ref q_t_tried, .ref q_t_thought, .ref q_t_kept, .int t_undos, .ref q_t_saved, .int t_isSaved, .ref q_t_finds, .ref q_t_reach, .ref q_t_steps, .ref q_t_glows, .ref q_t_lower, .ref q_t_upper, .ref q_t_line, .int t_lined, .ref q_t_text, .int t_length, .int t_at, .int t_order, .ref q_t_told, .ref q_t_why, .ref q_t_more, .int t_whys, .int t_answer])), (q_t_now, .inl (cI, 133, .inl t_now)), (q_t_reach, .inl (cI, 16, .inl t_reach))] H → va_D A [(q_t, .inr (8, [.ref q_t_now, .ref q_t_tried, .ref q_t_thought, .ref q_t_kept, .int t_undos, .ref q_t_saved, .int t_isSaved, .ref q_t_finds, .ref q_t_reach, .ref q_t_steps, .ref q_t_glows, .ref q_t_lower, .ref q_t_upper, .ref q_t_line, .int t_lined, .ref q_t_text, .int t_length, .int t_at, .int t_order, .ref q_t_told, .ref q_t_why, .ref q_t_more, .int t_whys, .int t_answer])), (q_t_now, .inl (cI, 133, .inl t_now)), (q_t_reach, .inl (cI, 16, .inl t_reach))] → va_S A s.heap H locs → ∀ ls : Array Slot, lv_has ls 5 [(0, .ref q_t), (1, .int v1)] → J_X10_reaches_L23  t_now nf t_reach v1 = some (o_t_reach) → W p l e rmX10_reaches s m args below meth c H locs 0 0 Q (F0 m 23 ls []) := by
    intro nf
    induction nf with
    | zero =>
      intro t_reach v1 H locs hP hD hS ls hl hJ
      rw [J_X10_reaches_L23] at hJ
      cases hJ
    | succ nf ih =>
      intro t_reach v1 H locs hP hD hS ls hl hJ
      rw [J_X10_reaches_L23] at hJ
      refine lv_iload_n hx hb dX10_reaches_23 rfl (lv_at hl 1 rfl) ?_
      refine lv_aload_n hx hb dX10_reaches_24 rfl (lv_at hl 0 rfl) ?_
      refine va_get (ci := 8) (v := .ref q_t_now) (C := RX10) (T := TX10) (N := 24) hx hb hts hin_X10 hown hK hP 0 rfl rfl 0 (by decide) fl_9 (fun _ h9 => h9) rfl dX10_reaches_25 ?_
      refine lv_iconst (v := (0 : Int32)) hx hb dX10_reaches_28 (by decide) ?_
      obtain ⟨hin, hJ⟩ := chk_in hJ
      refine va_iald hx hb hK hP 1 0 rfl rfl hin dX10_reaches_29 ?_
      refine jt_i hJ (fun x29 hJ => ?_)
      refine jif_icmp_ge (tgt := 78) hx hb dX10_reaches_30 (by decide) hJ (fun hJ => ?_) (fun hJ => ?_)
      · refine lv_iconst (v := (1 : Int32)) hx hb dX10_reaches_78 (by decide) ?_
        refine lv_istore_n (lv' := [(1, .int (1 : Int32)), (0, .ref q_t)]) hx hb dX10_reaches_79 rfl hl (by decide) rfl (fun ls hl => ?_)
        exact L80  FU t_reach (1 : Int32)  H locs  hP hD hS _ (lv_sub hl [1, 0] rfl) hJ
      · refine lv_iconst (v := (0 : Int32)) hx hb dX10_reaches_33 (by decide) ?_
        refine lv_istore_n (lv' := [(2, .int (0 : Int32)), (0, .ref q_t), (1, .int v1)]) hx hb dX10_reaches_34 rfl hl (by decide) rfl (fun ls hl => ?_)
        exact L35 (fun z0 z1 => J_X10_reaches_L23 t_now nf z0 z1) ih FU t_reach v1 (0 : Int32)  H locs  hP hD hS _ (lv_sub hl [1, 2, 0] rfl) hJ
  have L2 : ∀ (nf : Nat), ∀ (t_reach : Nat → Int32) (v1 : Int32) (H : Heap) (locs : List Loc), va_P D vwCl [(q_t, .inr (8, [.ref q_t_now, .ref q_t_tried, .ref q_t_thought, .ref q_t_kept, .int t_undos, .ref q_t_saved, .int t_isSaved, .ref q_t_finds, .ref q_t_reach, .ref q_t_steps, .ref q_t_glows, .ref q_t_lower, .ref q_t_upper, .ref q_t_line, .int t_lined, .ref q_t_text, .int t_length, .int t_at, .int t_order, .ref q_t_told, .ref q_t_why, .ref q_t_more, .int t_whys, .int t_answer])), (q_t_now, .inl (cI, 133, .inl t_now)), (q_t_reach, .inl (cI, 16, .inl t_reach))] H → va_D A [(q_t, .inr (8, [.ref q_t_now, .ref q_t_tried, .ref q_t_thought, .ref q_t_kept, .int t_undos, .ref q_t_saved, .int t_isSaved, .ref q_t_finds, .ref q_t_reach, .ref q_t_steps, .ref q_t_glows, .ref q_t_lower, .ref q_t_upper, .ref q_t_line, .int t_lined, .ref q_t_text, .int t_length, .int t_at, .int t_order, .ref q_t_told, .ref q_t_why, .ref q_t_more, .int t_whys, .int t_answer])), (q_t_now, .inl (cI, 133, .inl t_now)), (q_t_reach, .inl (cI, 16, .inl t_reach))] → va_S A s.heap H locs → ∀ ls : Array Slot, lv_has ls 5 [(0, .ref q_t), (1, .int v1)] → J_X10_reaches_L2  t_now nf t_reach v1 = some (o_t_reach) → W p l e rmX10_reaches s m args below meth c H locs 0 0 Q (F0 m 2 ls []) := by
    intro nf
    induction nf with
    | zero =>
      intro t_reach v1 H locs hP hD hS ls hl hJ
      rw [J_X10_reaches_L2] at hJ
      cases hJ
    | succ nf ih =>
      intro t_reach v1 H locs hP hD hS ls hl hJ
      rw [J_X10_reaches_L2] at hJ
      refine lv_iload_n hx hb dX10_reaches_2 rfl (lv_at hl 1 rfl) ?_
      refine lv_bipush (v := (16 : Int32)) hx hb dX10_reaches_3 (by decide) ?_
      refine jif_icmp_ge (tgt := 21) hx hb dX10_reaches_5 (by decide) hJ (fun hJ => ?_) (fun hJ => ?_)
      · refine lv_iconst (v := (0 : Int32)) hx hb dX10_reaches_21 (by decide) ?_
        refine lv_istore_n (lv' := [(1, .int (0 : Int32)), (0, .ref q_t)]) hx hb dX10_reaches_22 rfl hl (by decide) rfl (fun ls hl => ?_)
        exact L23  FU t_reach (0 : Int32)  H locs  hP hD hS _ (lv_sub hl [1, 0] rfl) hJ
      · refine lv_aload_n hx hb dX10_reaches_8 rfl (lv_at hl 0 rfl) ?_
        refine va_get (ci := 8) (v := .ref q_t_reach) (C := RX10) (T := TX10) (N := 24) hx hb hts hin_X10 hown hK hP 0 rfl rfl 8 (by decide) fl_28 (fun _ h9 => h9) rfl dX10_reaches_9 ?_
        refine lv_iload_n hx hb dX10_reaches_12 rfl (lv_at hl 1 rfl) ?_
        refine lv_iconst (v := (0 : Int32)) hx hb dX10_reaches_13 (by decide) ?_
        obtain ⟨hin, hJ⟩ := chk_in hJ
        refine va_iast hx hb hK hP hD hS 2 0 rfl rfl hin dX10_reaches_14 (fun H locs hP hD hS => ?_)
        have hP : va_P D vwCl [(q_t, .inr (8, [.ref q_t_now, .ref q_t_tried, .ref q_t_thought, .ref q_t_kept, .int t_undos, .ref q_t_saved, .int t_isSaved, .ref q_t_finds, .ref q_t_reach, .ref q_t_steps, .ref q_t_glows, .ref q_t_lower, .ref q_t_upper, .ref q_t_line, .int t_lined, .ref q_t_text, .int t_length, .int t_at, .int t_order, .ref q_t_told, .ref q_t_why, .ref q_t_more, .int t_whys, .int t_answer])), (q_t_now, .inl (cI, 133, .inl t_now)), (q_t_reach, .inl (cI, 16, .inl (upd t_reach v1.toNatClampNeg (0 : Int32))))] H := hP
        have hD : va_D A [(q_t, .inr (8, [.ref q_t_now, .ref q_t_tried, .ref q_t_thought, .ref q_t_kept, .int t_undos, .ref q_t_saved, .int t_isSaved, .ref q_t_finds, .ref q_t_reach, .ref q_t_steps, .ref q_t_glows, .ref q_t_lower, .ref q_t_upper, .ref q_t_line, .int t_lined, .ref q_t_text, .int t_length, .int t_at, .int t_order, .ref q_t_told, .ref q_t_why, .ref q_t_more, .int t_whys, .int t_answer])), (q_t_now, .inl (cI, 133, .inl t_now)), (q_t_reach, .inl (cI, 16, .inl (upd t_reach v1.toNatClampNeg (0 : Int32))))] := hD
        refine jt_iinc hJ (fun x15 ex15 hJ => ?_)
        refine lv_iinc (v := x15) (lv' := [(1, .int x15), (0, .ref q_t)]) hx hb dX10_reaches_15 hl (k := 1) rfl ex15 (by decide) rfl (fun ls hl => ?_)
        refine lv_goto (tgt := 2) hx hb dX10_reaches_18 (by decide) ?_
        exact ih (upd t_reach v1.toNatClampNeg (0 : Int32)) x15  H locs  hP hD hS _ (lv_sub hl [1, 0] rfl) hJ
  unfold J_X10_reaches at hJ
  refine lv_iconst (v := (0 : Int32)) hx hb dX10_reaches_0 (by decide) ?_
  refine lv_istore_n (lv' := [(1, .int (0 : Int32)), (0, .ref q_t)]) hx hb dX10_reaches_1 rfl hl (by decide) rfl (fun ls hl => ?_)
  exact L2  FU t_reach (0 : Int32)  s.heap []  hP hD hS _ (lv_sub hl [1, 0] rfl) hJ

def J_X10_loopSet_b38 (k8 : (Nat → Int32) → Int32 → Int32 → Option (Int32 × (Nat → Int32))) (t_now : Nat → Int32) (t_reach : Nat → Int32) (v1 : Int32) (v2 : Int32) : Option (Int32 × (Nat → Int32)) :=
    nm (v2 + Int32.ofInt 1) fun x38 =>
    k8 t_reach v1 x38
def J_X10_loopSet_L8 (t_now : Nat → Int32) : Nat → (Nat → Int32) → Int32 → Int32 → Option (Int32 × (Nat → Int32))
  | 0, _, _, _ => none
  | nf + 1, t_reach, v1, v2 =>
    chk (0 : Int32) 133 (
    nm (t_now (0 : Int32).toNatClampNeg) fun x14 =>
    if x14 ≤ v2 then (
    some (v1, t_reach))
    else (
    chk v2 16 (
    nm (t_reach v2.toNatClampNeg) fun x23 =>
    nm (x23 >>> (v2 &&& 31)) fun x25 =>
    nm (x25 &&& (1 : Int32)) fun x27 =>
    if x27 = (1 : Int32) then (
    nm (v1 ||| ((1 : Int32) <<< (v2 &&& 31))) fun x36 =>
    J_X10_loopSet_b38 (fun z0 z1 z2 => J_X10_loopSet_L8 t_now nf z0 z1 z2) t_now t_reach x36 v2)
    else (
    J_X10_loopSet_b38 (fun z0 z1 z2 => J_X10_loopSet_L8 t_now nf z0 z1 z2) t_now t_reach v1 v2))))
def J_X10_loopSet (t_now : Nat → Int32) (t_reach : Nat → Int32) : Option (Int32 × (Nat → Int32)) :=
    bnd1 (J_X10_reaches t_now t_reach) fun t_reach_1 =>
    J_X10_loopSet_L8 t_now FU t_reach_1 (0 : Int32) (0 : Int32)
abbrev rmX10_loopSet : Room := { frames := 3, cells := 0, slots := 0, locals := 68 }
set_option maxHeartbeats 4000000 in
set_option maxRecDepth 100000 in
theorem c_X10_loopSet (l : Launch) (D : va_G) (cI cJ cC cL : ClassId) (q_t q_t_now q_t_tried q_t_thought q_t_kept q_t_saved q_t_finds q_t_reach q_t_steps q_t_glows q_t_lower q_t_upper q_t_line q_t_text q_t_told q_t_why q_t_more : Nat) (t_undos : Int32) (t_isSaved : Int32) (t_lined : Int32) (t_length : Int32) (t_at : Int32) (t_order : Int32) (t_whys : Int32) (t_answer : Int32) (t_now : Nat → Int32) (t_reach : Nat → Int32) (r : Int32) (o_t_reach : Nat → Int32) (hJ : J_X10_loopSet t_now t_reach = some (r, o_t_reach)) (sz : Nat) : Met l yX10_loopSet wsX10_loopSet rmX10_loopSet (va_Pc [.ref q_t] (jpre XT D (tyL cI cJ cC cL) [(q_t, .inr (8, [.ref q_t_now, .ref q_t_tried, .ref q_t_thought, .ref q_t_kept, .int t_undos, .ref q_t_saved, .int t_isSaved, .ref q_t_finds, .ref q_t_reach, .ref q_t_steps, .ref q_t_glows, .ref q_t_lower, .ref q_t_upper, .ref q_t_line, .int t_lined, .ref q_t_text, .int t_length, .int t_at, .int t_order, .ref q_t_told, .ref q_t_why, .ref q_t_more, .int t_whys, .int t_answer])), (q_t_now, .inl (cI, 133, .inl t_now)), (q_t_reach, .inl (cI, 16, .inl t_reach))] sz)) (va_Qi (fun r' (_ : Unit) => r' = r) (fun _ t => jpost D (tyL cI cJ cC cL) (va_A [(q_t, .inr (8, [.ref q_t_now, .ref q_t_tried, .ref q_t_thought, .ref q_t_kept, .int t_undos, .ref q_t_saved, .int t_isSaved, .ref q_t_finds, .ref q_t_reach, .ref q_t_steps, .ref q_t_glows, .ref q_t_lower, .ref q_t_upper, .ref q_t_line, .int t_lined, .ref q_t_text, .int t_length, .int t_at, .int t_order, .ref q_t_told, .ref q_t_why, .ref q_t_more, .int t_whys, .int t_answer])), (q_t_now, .inl (cI, 133, .inl t_now)), (q_t_reach, .inl (cI, 16, .inl t_reach))] sz) [(q_t, .inr (8, [.ref q_t_now, .ref q_t_tried, .ref q_t_thought, .ref q_t_kept, .int t_undos, .ref q_t_saved, .int t_isSaved, .ref q_t_finds, .ref q_t_reach, .ref q_t_steps, .ref q_t_glows, .ref q_t_lower, .ref q_t_upper, .ref q_t_line, .int t_lined, .ref q_t_text, .int t_length, .int t_at, .int t_order, .ref q_t_told, .ref q_t_why, .ref q_t_more, .int t_whys, .int t_answer])), (q_t_now, .inl (cI, 133, .inl t_now)), (q_t_reach, .inl (cI, 16, .inl o_t_reach))] t) (va_A [(q_t, .inr (8, [.ref q_t_now, .ref q_t_tried, .ref q_t_thought, .ref q_t_kept, .int t_undos, .ref q_t_saved, .int t_isSaved, .ref q_t_finds, .ref q_t_reach, .ref q_t_steps, .ref q_t_glows, .ref q_t_lower, .ref q_t_upper, .ref q_t_line, .int t_lined, .ref q_t_text, .int t_length, .int t_at, .int t_order, .ref q_t_told, .ref q_t_why, .ref q_t_more, .int t_whys, .int t_answer])), (q_t_now, .inl (cI, 133, .inl t_now)), (q_t_reach, .inl (cI, 16, .inl t_reach))] sz)) 0 0 (va_A [(q_t, .inr (8, [.ref q_t_now, .ref q_t_tried, .ref q_t_thought, .ref q_t_kept, .int t_undos, .ref q_t_saved, .int t_isSaved, .ref q_t_finds, .ref q_t_reach, .ref q_t_steps, .ref q_t_glows, .ref q_t_lower, .ref q_t_upper, .ref q_t_line, .int t_lined, .ref q_t_text, .int t_length, .int t_at, .int t_order, .ref q_t_told, .ref q_t_why, .ref q_t_more, .int t_whys, .int t_answer])), (q_t_now, .inl (cI, 133, .inl t_now)), (q_t_reach, .inl (cI, 16, .inl t_reach))] sz) := by
  refine jE_i (cc := cX10_loopSet) (maxL := 3) (own := RX10) (ret := (some .int)) (lv0 := [(0, .ref q_t)]) (by decide) rfl rfl rfl (Nat.le_of_ble_eq_true rfl) rfl ?_
  intro p e s m args below meth c A Q ls hx hb hml hown hts hK hN hX hA hP hD hS hl hRet
  have hF : CallFix p m c cX10_loopSet 3 s args wsX10_loopSet RX10 := ⟨hx, hb, hml, hown, hts⟩
  have fl_9 := hts (.fieldLink RX10 9 "LanternLogicModel" "now" "[I") (by decide +kernel)
  have fl_28 := hts (.fieldLink RX10 28 "LanternLogicModel" "reach" "[I") (by decide +kernel)
  have hin_X10 : ∀ w ∈ u_ws RX10 TX10 24, w ∈ wsX10_loopSet := by decide +kernel
  have B38 : ∀ (k8 : (Nat → Int32) → Int32 → Int32 → Option (Int32 × (Nat → Int32))), (∀ (t_reach : Nat → Int32) (v1 : Int32) (v2 : Int32) (H : Heap) (locs : List Loc), va_P D vwCl [(q_t, .inr (8, [.ref q_t_now, .ref q_t_tried, .ref q_t_thought, .ref q_t_kept, .int t_undos, .ref q_t_saved, .int t_isSaved, .ref q_t_finds, .ref q_t_reach, .ref q_t_steps, .ref q_t_glows, .ref q_t_lower, .ref q_t_upper, .ref q_t_line, .int t_lined, .ref q_t_text, .int t_length, .int t_at, .int t_order, .ref q_t_told, .ref q_t_why, .ref q_t_more, .int t_whys, .int t_answer])), (q_t_now, .inl (cI, 133, .inl t_now)), (q_t_reach, .inl (cI, 16, .inl t_reach))] H → va_D A [(q_t, .inr (8, [.ref q_t_now, .ref q_t_tried, .ref q_t_thought, .ref q_t_kept, .int t_undos, .ref q_t_saved, .int t_isSaved, .ref q_t_finds, .ref q_t_reach, .ref q_t_steps, .ref q_t_glows, .ref q_t_lower, .ref q_t_upper, .ref q_t_line, .int t_lined, .ref q_t_text, .int t_length, .int t_at, .int t_order, .ref q_t_told, .ref q_t_why, .ref q_t_more, .int t_whys, .int t_answer])), (q_t_now, .inl (cI, 133, .inl t_now)), (q_t_reach, .inl (cI, 16, .inl t_reach))] → va_S A s.heap H locs → ∀ ls : Array Slot, lv_has ls 3 [(0, .ref q_t), (1, .int v1), (2, .int v2)] → k8 t_reach v1 v2 = some (r, o_t_reach) → W p l e rmX10_loopSet s m args below meth c H locs 0 0 Q (F0 m 8 ls [])) → ∀ (t_reach : Nat → Int32) (v1 : Int32) (v2 : Int32) (H : Heap) (locs : List Loc), va_P D vwCl [(q_t, .inr (8, [.ref q_t_now, .ref q_t_tried, .ref q_t_thought, .ref q_t_kept, .int t_undos, .ref q_t_saved, .int t_isSaved, .ref q_t_finds, .ref q_t_reach, .ref q_t_steps, .ref q_t_glows, .ref q_t_lower, .ref q_t_upper, .ref q_t_line, .int t_lined, .ref q_t_text, .int t_length, .int t_at, .int t_order, .ref q_t_told, .ref q_t_why, .ref q_t_more, .int t_whys, .int t_answer])), (q_t_now, .inl (cI, 133, .inl t_now)), (q_t_reach, .inl (cI, 16, .inl t_reach))] H → va_D A [(q_t, .inr (8, [.ref q_t_now, .ref q_t_tried, .ref q_t_thought, .ref q_t_kept, .int t_undos, .ref q_t_saved, .int t_isSaved, .ref q_t_finds, .ref q_t_reach, .ref q_t_steps, .ref q_t_glows, .ref q_t_lower, .ref q_t_upper, .ref q_t_line, .int t_lined, .ref q_t_text, .int t_length, .int t_at, .int t_order, .ref q_t_told, .ref q_t_why, .ref q_t_more, .int t_whys, .int t_answer])), (q_t_now, .inl (cI, 133, .inl t_now)), (q_t_reach, .inl (cI, 16, .inl t_reach))] → va_S A s.heap H locs → ∀ ls : Array Slot, lv_has ls 3 [(0, .ref q_t), (1, .int v1), (2, .int v2)] → J_X10_loopSet_b38 k8 t_now t_reach v1 v2 = some (r, o_t_reach) → W p l e rmX10_loopSet s m args below meth c H locs 0 0 Q (F0 m 38 ls []) := by
    intro k8 hk8 t_reach v1 v2 H locs hP hD hS ls hl hJ
    unfold J_X10_loopSet_b38 at hJ
    refine jt_iinc hJ (fun x38 ex38 hJ => ?_)
    refine lv_iinc (v := x38) (lv' := [(2, .int x38), (0, .ref q_t), (1, .int v1)]) hx hb dX10_loopSet_38 hl (k := 2) rfl ex38 (by decide) rfl (fun ls hl => ?_)
    refine lv_goto (tgt := 8) hx hb dX10_loopSet_41 (by decide) ?_
    exact hk8 t_reach v1 x38  H locs  hP hD hS _ (lv_sub hl [1, 2, 0] rfl) hJ
  have L8 : ∀ (nf : Nat), ∀ (t_reach : Nat → Int32) (v1 : Int32) (v2 : Int32) (H : Heap) (locs : List Loc), va_P D vwCl [(q_t, .inr (8, [.ref q_t_now, .ref q_t_tried, .ref q_t_thought, .ref q_t_kept, .int t_undos, .ref q_t_saved, .int t_isSaved, .ref q_t_finds, .ref q_t_reach, .ref q_t_steps, .ref q_t_glows, .ref q_t_lower, .ref q_t_upper, .ref q_t_line, .int t_lined, .ref q_t_text, .int t_length, .int t_at, .int t_order, .ref q_t_told, .ref q_t_why, .ref q_t_more, .int t_whys, .int t_answer])), (q_t_now, .inl (cI, 133, .inl t_now)), (q_t_reach, .inl (cI, 16, .inl t_reach))] H → va_D A [(q_t, .inr (8, [.ref q_t_now, .ref q_t_tried, .ref q_t_thought, .ref q_t_kept, .int t_undos, .ref q_t_saved, .int t_isSaved, .ref q_t_finds, .ref q_t_reach, .ref q_t_steps, .ref q_t_glows, .ref q_t_lower, .ref q_t_upper, .ref q_t_line, .int t_lined, .ref q_t_text, .int t_length, .int t_at, .int t_order, .ref q_t_told, .ref q_t_why, .ref q_t_more, .int t_whys, .int t_answer])), (q_t_now, .inl (cI, 133, .inl t_now)), (q_t_reach, .inl (cI, 16, .inl t_reach))] → va_S A s.heap H locs → ∀ ls : Array Slot, lv_has ls 3 [(0, .ref q_t), (1, .int v1), (2, .int v2)] → J_X10_loopSet_L8  t_now nf t_reach v1 v2 = some (r, o_t_reach) → W p l e rmX10_loopSet s m args below meth c H locs 0 0 Q (F0 m 8 ls []) := by
    intro nf
    induction nf with
    | zero =>
      intro t_reach v1 v2 H locs hP hD hS ls hl hJ
      rw [J_X10_loopSet_L8] at hJ
      cases hJ
    | succ nf ih =>
      intro t_reach v1 v2 H locs hP hD hS ls hl hJ
      rw [J_X10_loopSet_L8] at hJ
      refine lv_iload_n hx hb dX10_loopSet_8 rfl (lv_at hl 2 rfl) ?_
      refine lv_aload_n hx hb dX10_loopSet_9 rfl (lv_at hl 0 rfl) ?_
      refine va_get (ci := 8) (v := .ref q_t_now) (C := RX10) (T := TX10) (N := 24) hx hb hts hin_X10 hown hK hP 0 rfl rfl 0 (by decide) fl_9 (fun _ h9 => h9) rfl dX10_loopSet_10 ?_
      refine lv_iconst (v := (0 : Int32)) hx hb dX10_loopSet_13 (by decide) ?_
      obtain ⟨hin, hJ⟩ := chk_in hJ
      refine va_iald hx hb hK hP 1 0 rfl rfl hin dX10_loopSet_14 ?_
      refine jt_i hJ (fun x14 hJ => ?_)
      refine jif_icmp_ge (tgt := 44) hx hb dX10_loopSet_15 (by decide) hJ (fun hJ => ?_) (fun hJ => ?_)
      · refine lv_iload_n hx hb dX10_loopSet_44 rfl (lv_at hl 1 rfl) ?_
        have hJ := Option.some.inj hJ
        obtain ⟨e0, e1⟩ : (v1) = r ∧ (t_reach) = o_t_reach := ⟨congrArg (fun z => z.1) hJ, congrArg (fun z => z.2) hJ⟩
        exact hRet (by rw [← e1]; exact hP) (by rw [← e1]; exact hD) hS e0 dX10_loopSet_45
      · refine lv_aload_n hx hb dX10_loopSet_18 rfl (lv_at hl 0 rfl) ?_
        refine va_get (ci := 8) (v := .ref q_t_reach) (C := RX10) (T := TX10) (N := 24) hx hb hts hin_X10 hown hK hP 0 rfl rfl 8 (by decide) fl_28 (fun _ h9 => h9) rfl dX10_loopSet_19 ?_
        refine lv_iload_n hx hb dX10_loopSet_22 rfl (lv_at hl 2 rfl) ?_
        obtain ⟨hin, hJ⟩ := chk_in hJ
        refine va_iald hx hb hK hP 2 0 rfl rfl hin dX10_loopSet_23 ?_
        refine jt_i hJ (fun x23 hJ => ?_)
        refine lv_iload_n hx hb dX10_loopSet_24 rfl (lv_at hl 2 rfl) ?_
        refine lv_ishr hx hb dX10_loopSet_25 ?_
        refine jt_i hJ (fun x25 hJ => ?_)
        refine lv_iconst (v := (1 : Int32)) hx hb dX10_loopSet_26 (by decide) ?_
        refine lv_iand hx hb dX10_loopSet_27 ?_
        refine jt_i hJ (fun x27 hJ => ?_)
        refine lv_iconst (v := (1 : Int32)) hx hb dX10_loopSet_28 (by decide) ?_
        refine jif_icmp_ne (tgt := 38) hx hb dX10_loopSet_29 (by decide) hJ (fun hJ => ?_) (fun hJ => ?_)
        · exact B38 (fun z0 z1 z2 => J_X10_loopSet_L8 t_now nf z0 z1 z2) ih t_reach v1 v2  H locs  hP hD hS _ (lv_sub hl [0, 1, 2] rfl) hJ
        · refine lv_iload_n hx hb dX10_loopSet_32 rfl (lv_at hl 1 rfl) ?_
          refine lv_iconst (v := (1 : Int32)) hx hb dX10_loopSet_33 (by decide) ?_
          refine lv_iload_n hx hb dX10_loopSet_34 rfl (lv_at hl 2 rfl) ?_
          refine lv_ishl hx hb dX10_loopSet_35 ?_
          refine lv_ior hx hb dX10_loopSet_36 ?_
          refine jt_i hJ (fun x36 hJ => ?_)
          refine lv_istore_n (lv' := [(1, .int x36), (0, .ref q_t), (2, .int v2)]) hx hb dX10_loopSet_37 rfl hl (by decide) rfl (fun ls hl => ?_)
          exact B38 (fun z0 z1 z2 => J_X10_loopSet_L8 t_now nf z0 z1 z2) ih t_reach x36 v2  H locs  hP hD hS _ (lv_sub hl [1, 0, 2] rfl) hJ
  unfold J_X10_loopSet at hJ
  refine lv_aload_n hx hb dX10_loopSet_0 rfl (lv_at hl 0 rfl) ?_
  obtain ⟨t_reach_1, hc1, hJ⟩ := bnd1_some hJ
  refine jcV_v (C := RX10) (T := TX10) (N := 24) (ci := 8) (q0 := 0) (As := []) (rest := []) (isC := [0, 1, 2]) (isR := []) (isB := [0, 1, 2]) (wr := []) (ws2 := [(q_t, .inr (8, [.ref q_t_now, .ref q_t_tried, .ref q_t_thought, .ref q_t_kept, .int t_undos, .ref q_t_saved, .int t_isSaved, .ref q_t_finds, .ref q_t_reach, .ref q_t_steps, .ref q_t_glows, .ref q_t_lower, .ref q_t_upper, .ref q_t_line, .int t_lined, .ref q_t_text, .int t_length, .int t_at, .int t_order, .ref q_t_told, .ref q_t_why, .ref q_t_more, .int t_whys, .int t_answer])), (q_t_now, .inl (cI, 133, .inl t_now)), (q_t_reach, .inl (cI, 16, .inl t_reach_1))]) hF (c_X10_reaches l D cI cJ cC cL q_t q_t_now q_t_tried q_t_thought q_t_kept q_t_saved q_t_finds q_t_reach q_t_steps q_t_glows q_t_lower q_t_upper q_t_line q_t_text q_t_told q_t_why q_t_more t_undos t_isSaved t_lined t_length t_at t_order t_whys t_answer t_now t_reach t_reach_1 hc1 s.heap.size) (cwV 0 hts gX10_loopSet_X10_reaches rfl rfl rfl (by decide +kernel) ⟨Nat.le_of_ble_eq_true rfl, Nat.le_of_ble_eq_true rfl⟩) rfl hl rfl (Nat.le_of_ble_eq_true rfl) dX10_loopSet_1 ⟨Nat.zero_le _, Nat.zero_le _⟩ hK hN KX_T trivial hP hD hS hA rfl rfl rfl rfl rfl rfl (by decide) rfl rfl (fun H locs hP hD hS => ?_)
  refine lv_iconst (v := (0 : Int32)) hx hb dX10_loopSet_4 (by decide) ?_
  refine lv_istore_n (lv' := [(1, .int (0 : Int32)), (0, .ref q_t)]) hx hb dX10_loopSet_5 rfl hl (by decide) rfl (fun ls hl => ?_)
  refine lv_iconst (v := (0 : Int32)) hx hb dX10_loopSet_6 (by decide) ?_
  refine lv_istore_n (lv' := [(2, .int (0 : Int32)), (1, .int (0 : Int32)), (0, .ref q_t)]) hx hb dX10_loopSet_7 rfl hl (by decide) rfl (fun ls hl => ?_)
  exact L8  FU t_reach_1 (0 : Int32) (0 : Int32)  H locs  hP hD hS _ (lv_sub hl [2, 1, 0] rfl) hJ

def J_X10_way_b23 (k2 : (Nat → Int32) → Int32 → Option (Int32 × (Nat → Int32))) (t_now : Nat → Int32) (v1 : Int32) (v2 : Int32) (t_steps : Nat → Int32) (v3 : Int32) (s23_1 : Int32) (s23_2 : Int32) : Option (Int32 × (Nat → Int32)) :=
    chk s23_1 16 (
    nm (v3 + Int32.ofInt 1) fun x24 =>
    k2 (upd t_steps s23_1.toNatClampNeg s23_2) x24)
def J_X10_way_b109 (k32 : (Nat → Int32) → Int32 → Option (Int32 × (Nat → Int32))) (k41 : (Nat → Int32) → Int32 → Int32 → Option (Int32 × (Nat → Int32))) (k55 : (Nat → Int32) → Int32 → Int32 → Int32 → Option (Int32 × (Nat → Int32))) (t_now : Nat → Int32) (v1 : Int32) (v2 : Int32) (t_steps : Nat → Int32) (v3 : Int32) (v4 : Int32) (v5 : Int32) : Option (Int32 × (Nat → Int32)) :=
    nm (v5 + Int32.ofInt 1) fun x109 =>
    k55 t_steps v3 v4 x109
def J_X10_way_b115 (k32 : (Nat → Int32) → Int32 → Option (Int32 × (Nat → Int32))) (k41 : (Nat → Int32) → Int32 → Int32 → Option (Int32 × (Nat → Int32))) (t_now : Nat → Int32) (v1 : Int32) (v2 : Int32) (t_steps : Nat → Int32) (v3 : Int32) (v4 : Int32) : Option (Int32 × (Nat → Int32)) :=
    nm (v4 + Int32.ofInt 1) fun x115 =>
    k41 t_steps v3 x115
def J_X10_way_L55 (k32 : (Nat → Int32) → Int32 → Option (Int32 × (Nat → Int32))) (k41 : (Nat → Int32) → Int32 → Int32 → Option (Int32 × (Nat → Int32))) (t_now : Nat → Int32) (v1 : Int32) (v2 : Int32) : Nat → (Nat → Int32) → Int32 → Int32 → Int32 → Option (Int32 × (Nat → Int32))
  | 0, _, _, _, _ => none
  | nf + 1, t_steps, v3, v4, v5 =>
    if (3 : Int32) ≤ v5 then (
    J_X10_way_b115 k32 k41 t_now v1 v2 t_steps v3 v4)
    else (
    chk v4 16 (
    nm (t_steps v4.toNatClampNeg) fun x67 =>
    if 0 ≤ x67 then (
    J_X10_way_b115 k32 k41 t_now v1 v2 t_steps v3 v4)
    else (
    bnd1 (J_X10_wired t_now v4 v5) fun x76 =>
    if x76 < 0 then (
    J_X10_way_b109 k32 k41 (fun z0 z1 z2 z3 => J_X10_way_L55 k32 k41 t_now v1 v2 nf z0 z1 z2 z3) t_now v1 v2 t_steps v3 v4 v5)
    else (
    bnd1 (J_X10_wired t_now v4 v5) fun x91 =>
    chk x91 16 (
    nm (t_steps x91.toNatClampNeg) fun x94 =>
    if x94 = (v3 - (1 : Int32)) then (
    chk v4 16 (
    J_X10_way_b109 k32 k41 (fun z0 z1 z2 z3 => J_X10_way_L55 k32 k41 t_now v1 v2 nf z0 z1 z2 z3) t_now v1 v2 (upd t_steps v4.toNatClampNeg v3) v3 v4 v5))
    else (
    J_X10_way_b109 k32 k41 (fun z0 z1 z2 z3 => J_X10_way_L55 k32 k41 t_now v1 v2 nf z0 z1 z2 z3) t_now v1 v2 t_steps v3 v4 v5))))))
def J_X10_way_L41 (k32 : (Nat → Int32) → Int32 → Option (Int32 × (Nat → Int32))) (t_now : Nat → Int32) (v1 : Int32) (v2 : Int32) : Nat → (Nat → Int32) → Int32 → Int32 → Option (Int32 × (Nat → Int32))
  | 0, _, _, _ => none
  | nf + 1, t_steps, v3, v4 =>
    chk (0 : Int32) 133 (
    nm (t_now (0 : Int32).toNatClampNeg) fun x48 =>
    if x48 ≤ v4 then (
    nm (v3 + Int32.ofInt 1) fun x121 =>
    k32 t_steps x121)
    else (
    J_X10_way_L55 k32 (fun z0 z1 z2 => J_X10_way_L41 k32 t_now v1 v2 nf z0 z1 z2) t_now v1 v2 FU t_steps v3 v4 (0 : Int32)))
def J_X10_way_L32 (t_now : Nat → Int32) (v1 : Int32) (v2 : Int32) : Nat → (Nat → Int32) → Int32 → Option (Int32 × (Nat → Int32))
  | 0, _, _ => none
  | nf + 1, t_steps, v3 =>
    if (16 : Int32) < v3 then (
    chk v2 16 (
    nm (t_steps v2.toNatClampNeg) fun x132 =>
    some (x132, t_steps)))
    else (
    J_X10_way_L41 (fun z0 z1 => J_X10_way_L32 t_now v1 v2 nf z0 z1) t_now v1 v2 FU t_steps v3 (0 : Int32))
def J_X10_way_L2 (t_now : Nat → Int32) (v1 : Int32) (v2 : Int32) : Nat → (Nat → Int32) → Int32 → Option (Int32 × (Nat → Int32))
  | 0, _, _ => none
  | nf + 1, t_steps, v3 =>
    if (16 : Int32) ≤ v3 then (
    J_X10_way_L32 t_now v1 v2 FU t_steps (1 : Int32))
    else (
    if v3 = v1 then (
    J_X10_way_b23 (fun z0 z1 => J_X10_way_L2 t_now v1 v2 nf z0 z1) t_now v1 v2 t_steps v3 v3 (0 : Int32))
    else (
    J_X10_way_b23 (fun z0 z1 => J_X10_way_L2 t_now v1 v2 nf z0 z1) t_now v1 v2 t_steps v3 v3 (-1 : Int32)))
def J_X10_way (t_now : Nat → Int32) (t_steps : Nat → Int32) (v1 : Int32) (v2 : Int32) : Option (Int32 × (Nat → Int32)) :=
    J_X10_way_L2 t_now v1 v2 FU t_steps (0 : Int32)
abbrev rmX10_way : Room := { frames := 2, cells := 0, slots := 0, locals := 44 }
set_option maxHeartbeats 4000000 in
set_option maxRecDepth 100000 in
theorem c_X10_way (l : Launch) (D : va_G) (cI cJ cC cL : ClassId) (q_t q_t_now q_t_tried q_t_thought q_t_kept q_t_saved q_t_finds q_t_reach q_t_steps q_t_glows q_t_lower q_t_upper q_t_line q_t_text q_t_told q_t_why q_t_more : Nat) (t_undos : Int32) (t_isSaved : Int32) (t_lined : Int32) (t_length : Int32) (t_at : Int32) (t_order : Int32) (t_whys : Int32) (t_answer : Int32) (t_now : Nat → Int32) (t_steps : Nat → Int32) (v1 : Int32) (v2 : Int32) (r : Int32) (o_t_steps : Nat → Int32) (hJ : J_X10_way t_now t_steps v1 v2 = some (r, o_t_steps)) (sz : Nat) : Met l yX10_way wsX10_way rmX10_way (va_Pc [.ref q_t, .int v1, .int v2] (jpre XT D (tyL cI cJ cC cL) [(q_t, .inr (8, [.ref q_t_now, .ref q_t_tried, .ref q_t_thought, .ref q_t_kept, .int t_undos, .ref q_t_saved, .int t_isSaved, .ref q_t_finds, .ref q_t_reach, .ref q_t_steps, .ref q_t_glows, .ref q_t_lower, .ref q_t_upper, .ref q_t_line, .int t_lined, .ref q_t_text, .int t_length, .int t_at, .int t_order, .ref q_t_told, .ref q_t_why, .ref q_t_more, .int t_whys, .int t_answer])), (q_t_now, .inl (cI, 133, .inl t_now)), (q_t_steps, .inl (cI, 16, .inl t_steps))] sz)) (va_Qi (fun r' (_ : Unit) => r' = r) (fun _ t => jpost D (tyL cI cJ cC cL) (va_A [(q_t, .inr (8, [.ref q_t_now, .ref q_t_tried, .ref q_t_thought, .ref q_t_kept, .int t_undos, .ref q_t_saved, .int t_isSaved, .ref q_t_finds, .ref q_t_reach, .ref q_t_steps, .ref q_t_glows, .ref q_t_lower, .ref q_t_upper, .ref q_t_line, .int t_lined, .ref q_t_text, .int t_length, .int t_at, .int t_order, .ref q_t_told, .ref q_t_why, .ref q_t_more, .int t_whys, .int t_answer])), (q_t_now, .inl (cI, 133, .inl t_now)), (q_t_steps, .inl (cI, 16, .inl t_steps))] sz) [(q_t, .inr (8, [.ref q_t_now, .ref q_t_tried, .ref q_t_thought, .ref q_t_kept, .int t_undos, .ref q_t_saved, .int t_isSaved, .ref q_t_finds, .ref q_t_reach, .ref q_t_steps, .ref q_t_glows, .ref q_t_lower, .ref q_t_upper, .ref q_t_line, .int t_lined, .ref q_t_text, .int t_length, .int t_at, .int t_order, .ref q_t_told, .ref q_t_why, .ref q_t_more, .int t_whys, .int t_answer])), (q_t_now, .inl (cI, 133, .inl t_now)), (q_t_steps, .inl (cI, 16, .inl o_t_steps))] t) (va_A [(q_t, .inr (8, [.ref q_t_now, .ref q_t_tried, .ref q_t_thought, .ref q_t_kept, .int t_undos, .ref q_t_saved, .int t_isSaved, .ref q_t_finds, .ref q_t_reach, .ref q_t_steps, .ref q_t_glows, .ref q_t_lower, .ref q_t_upper, .ref q_t_line, .int t_lined, .ref q_t_text, .int t_length, .int t_at, .int t_order, .ref q_t_told, .ref q_t_why, .ref q_t_more, .int t_whys, .int t_answer])), (q_t_now, .inl (cI, 133, .inl t_now)), (q_t_steps, .inl (cI, 16, .inl t_steps))] sz)) 0 0 (va_A [(q_t, .inr (8, [.ref q_t_now, .ref q_t_tried, .ref q_t_thought, .ref q_t_kept, .int t_undos, .ref q_t_saved, .int t_isSaved, .ref q_t_finds, .ref q_t_reach, .ref q_t_steps, .ref q_t_glows, .ref q_t_lower, .ref q_t_upper, .ref q_t_line, .int t_lined, .ref q_t_text, .int t_length, .int t_at, .int t_order, .ref q_t_told, .ref q_t_why, .ref q_t_more, .int t_whys, .int t_answer])), (q_t_now, .inl (cI, 133, .inl t_now)), (q_t_steps, .inl (cI, 16, .inl t_steps))] sz) := by
  refine jE_i (cc := cX10_way) (maxL := 6) (own := RX10) (ret := (some .int)) (lv0 := [(0, .ref q_t), (1, .int v1), (2, .int v2)]) (by decide) rfl rfl rfl (Nat.le_of_ble_eq_true rfl) rfl ?_
  intro p e s m args below meth c A Q ls hx hb hml hown hts hK hN hX hA hP hD hS hl hRet
  have hF : CallFix p m c cX10_way 6 s args wsX10_way RX10 := ⟨hx, hb, hml, hown, hts⟩
  have fl_9 := hts (.fieldLink RX10 9 "LanternLogicModel" "now" "[I") (by decide +kernel)
  have fl_31 := hts (.fieldLink RX10 31 "LanternLogicModel" "steps" "[I") (by decide +kernel)
  have hin_X10 : ∀ w ∈ u_ws RX10 TX10 24, w ∈ wsX10_way := by decide +kernel
  have B23 : ∀ (k2 : (Nat → Int32) → Int32 → Option (Int32 × (Nat → Int32))), (∀ (t_steps : Nat → Int32) (v3 : Int32) (H : Heap) (locs : List Loc), va_P D vwCl [(q_t, .inr (8, [.ref q_t_now, .ref q_t_tried, .ref q_t_thought, .ref q_t_kept, .int t_undos, .ref q_t_saved, .int t_isSaved, .ref q_t_finds, .ref q_t_reach, .ref q_t_steps, .ref q_t_glows, .ref q_t_lower, .ref q_t_upper, .ref q_t_line, .int t_lined, .ref q_t_text, .int t_length, .int t_at, .int t_order, .ref q_t_told, .ref q_t_why, .ref q_t_more, .int t_whys, .int t_answer])), (q_t_now, .inl (cI, 133, .inl t_now)), (q_t_steps, .inl (cI, 16, .inl t_steps))] H → va_D A [(q_t, .inr (8, [.ref q_t_now, .ref q_t_tried, .ref q_t_thought, .ref q_t_kept, .int t_undos, .ref q_t_saved, .int t_isSaved, .ref q_t_finds, .ref q_t_reach, .ref q_t_steps, .ref q_t_glows, .ref q_t_lower, .ref q_t_upper, .ref q_t_line, .int t_lined, .ref q_t_text, .int t_length, .int t_at, .int t_order, .ref q_t_told, .ref q_t_why, .ref q_t_more, .int t_whys, .int t_answer])), (q_t_now, .inl (cI, 133, .inl t_now)), (q_t_steps, .inl (cI, 16, .inl t_steps))] → va_S A s.heap H locs → ∀ ls : Array Slot, lv_has ls 6 [(0, .ref q_t), (1, .int v1), (2, .int v2), (3, .int v3)] → k2 t_steps v3 = some (r, o_t_steps) → W p l e rmX10_way s m args below meth c H locs 0 0 Q (F0 m 2 ls [])) → ∀ (t_steps : Nat → Int32) (v3 : Int32) (s23_1 : Int32) (s23_2 : Int32) (H : Heap) (locs : List Loc), va_P D vwCl [(q_t, .inr (8, [.ref q_t_now, .ref q_t_tried, .ref q_t_thought, .ref q_t_kept, .int t_undos, .ref q_t_saved, .int t_isSaved, .ref q_t_finds, .ref q_t_reach, .ref q_t_steps, .ref q_t_glows, .ref q_t_lower, .ref q_t_upper, .ref q_t_line, .int t_lined, .ref q_t_text, .int t_length, .int t_at, .int t_order, .ref q_t_told, .ref q_t_why, .ref q_t_more, .int t_whys, .int t_answer])), (q_t_now, .inl (cI, 133, .inl t_now)), (q_t_steps, .inl (cI, 16, .inl t_steps))] H → va_D A [(q_t, .inr (8, [.ref q_t_now, .ref q_t_tried, .ref q_t_thought, .ref q_t_kept, .int t_undos, .ref q_t_saved, .int t_isSaved, .ref q_t_finds, .ref q_t_reach, .ref q_t_steps, .ref q_t_glows, .ref q_t_lower, .ref q_t_upper, .ref q_t_line, .int t_lined, .ref q_t_text, .int t_length, .int t_at, .int t_order, .ref q_t_told, .ref q_t_why, .ref q_t_more, .int t_whys, .int t_answer])), (q_t_now, .inl (cI, 133, .inl t_now)), (q_t_steps, .inl (cI, 16, .inl t_steps))] → va_S A s.heap H locs → ∀ ls : Array Slot, lv_has ls 6 [(0, .ref q_t), (1, .int v1), (2, .int v2), (3, .int v3)] → J_X10_way_b23 k2 t_now v1 v2 t_steps v3 s23_1 s23_2 = some (r, o_t_steps) → W p l e rmX10_way s m args below meth c H locs 0 0 Q (F0 m 23 ls [.int s23_2, .int s23_1, .ref q_t_steps]) := by
    intro k2 hk2 t_steps v3 s23_1 s23_2 H locs hP hD hS ls hl hJ
    unfold J_X10_way_b23 at hJ
    obtain ⟨hin, hJ⟩ := chk_in hJ
    refine va_iast hx hb hK hP hD hS 2 0 rfl rfl hin dX10_way_23 (fun H locs hP hD hS => ?_)
    have hP : va_P D vwCl [(q_t, .inr (8, [.ref q_t_now, .ref q_t_tried, .ref q_t_thought, .ref q_t_kept, .int t_undos, .ref q_t_saved, .int t_isSaved, .ref q_t_finds, .ref q_t_reach, .ref q_t_steps, .ref q_t_glows, .ref q_t_lower, .ref q_t_upper, .ref q_t_line, .int t_lined, .ref q_t_text, .int t_length, .int t_at, .int t_order, .ref q_t_told, .ref q_t_why, .ref q_t_more, .int t_whys, .int t_answer])), (q_t_now, .inl (cI, 133, .inl t_now)), (q_t_steps, .inl (cI, 16, .inl (upd t_steps s23_1.toNatClampNeg s23_2)))] H := hP
    have hD : va_D A [(q_t, .inr (8, [.ref q_t_now, .ref q_t_tried, .ref q_t_thought, .ref q_t_kept, .int t_undos, .ref q_t_saved, .int t_isSaved, .ref q_t_finds, .ref q_t_reach, .ref q_t_steps, .ref q_t_glows, .ref q_t_lower, .ref q_t_upper, .ref q_t_line, .int t_lined, .ref q_t_text, .int t_length, .int t_at, .int t_order, .ref q_t_told, .ref q_t_why, .ref q_t_more, .int t_whys, .int t_answer])), (q_t_now, .inl (cI, 133, .inl t_now)), (q_t_steps, .inl (cI, 16, .inl (upd t_steps s23_1.toNatClampNeg s23_2)))] := hD
    refine jt_iinc hJ (fun x24 ex24 hJ => ?_)
    refine lv_iinc (v := x24) (lv' := [(3, .int x24), (0, .ref q_t), (1, .int v1), (2, .int v2)]) hx hb dX10_way_24 hl (k := 3) rfl ex24 (by decide) rfl (fun ls hl => ?_)
    refine lv_goto (tgt := 2) hx hb dX10_way_27 (by decide) ?_
    exact hk2 (upd t_steps s23_1.toNatClampNeg s23_2) x24  H locs  hP hD hS _ (lv_sub hl [1, 2, 3, 0] rfl) hJ
  have B109 : ∀ (k32 : (Nat → Int32) → Int32 → Option (Int32 × (Nat → Int32))), (∀ (t_steps : Nat → Int32) (v3 : Int32) (H : Heap) (locs : List Loc), va_P D vwCl [(q_t, .inr (8, [.ref q_t_now, .ref q_t_tried, .ref q_t_thought, .ref q_t_kept, .int t_undos, .ref q_t_saved, .int t_isSaved, .ref q_t_finds, .ref q_t_reach, .ref q_t_steps, .ref q_t_glows, .ref q_t_lower, .ref q_t_upper, .ref q_t_line, .int t_lined, .ref q_t_text, .int t_length, .int t_at, .int t_order, .ref q_t_told, .ref q_t_why, .ref q_t_more, .int t_whys, .int t_answer])), (q_t_now, .inl (cI, 133, .inl t_now)), (q_t_steps, .inl (cI, 16, .inl t_steps))] H → va_D A [(q_t, .inr (8, [.ref q_t_now, .ref q_t_tried, .ref q_t_thought, .ref q_t_kept, .int t_undos, .ref q_t_saved, .int t_isSaved, .ref q_t_finds, .ref q_t_reach, .ref q_t_steps, .ref q_t_glows, .ref q_t_lower, .ref q_t_upper, .ref q_t_line, .int t_lined, .ref q_t_text, .int t_length, .int t_at, .int t_order, .ref q_t_told, .ref q_t_why, .ref q_t_more, .int t_whys, .int t_answer])), (q_t_now, .inl (cI, 133, .inl t_now)), (q_t_steps, .inl (cI, 16, .inl t_steps))] → va_S A s.heap H locs → ∀ ls : Array Slot, lv_has ls 6 [(0, .ref q_t), (2, .int v2), (3, .int v3)] → k32 t_steps v3 = some (r, o_t_steps) → W p l e rmX10_way s m args below meth c H locs 0 0 Q (F0 m 32 ls [])) → ∀ (k41 : (Nat → Int32) → Int32 → Int32 → Option (Int32 × (Nat → Int32))), (∀ (t_steps : Nat → Int32) (v3 : Int32) (v4 : Int32) (H : Heap) (locs : List Loc), va_P D vwCl [(q_t, .inr (8, [.ref q_t_now, .ref q_t_tried, .ref q_t_thought, .ref q_t_kept, .int t_undos, .ref q_t_saved, .int t_isSaved, .ref q_t_finds, .ref q_t_reach, .ref q_t_steps, .ref q_t_glows, .ref q_t_lower, .ref q_t_upper, .ref q_t_line, .int t_lined, .ref q_t_text, .int t_length, .int t_at, .int t_order, .ref q_t_told, .ref q_t_why, .ref q_t_more, .int t_whys, .int t_answer])), (q_t_now, .inl (cI, 133, .inl t_now)), (q_t_steps, .inl (cI, 16, .inl t_steps))] H → va_D A [(q_t, .inr (8, [.ref q_t_now, .ref q_t_tried, .ref q_t_thought, .ref q_t_kept, .int t_undos, .ref q_t_saved, .int t_isSaved, .ref q_t_finds, .ref q_t_reach, .ref q_t_steps, .ref q_t_glows, .ref q_t_lower, .ref q_t_upper, .ref q_t_line, .int t_lined, .ref q_t_text, .int t_length, .int t_at, .int t_order, .ref q_t_told, .ref q_t_why, .ref q_t_more, .int t_whys, .int t_answer])), (q_t_now, .inl (cI, 133, .inl t_now)), (q_t_steps, .inl (cI, 16, .inl t_steps))] → va_S A s.heap H locs → ∀ ls : Array Slot, lv_has ls 6 [(0, .ref q_t), (2, .int v2), (3, .int v3), (4, .int v4)] → k41 t_steps v3 v4 = some (r, o_t_steps) → W p l e rmX10_way s m args below meth c H locs 0 0 Q (F0 m 41 ls [])) → ∀ (k55 : (Nat → Int32) → Int32 → Int32 → Int32 → Option (Int32 × (Nat → Int32))), (∀ (t_steps : Nat → Int32) (v3 : Int32) (v4 : Int32) (v5 : Int32) (H : Heap) (locs : List Loc), va_P D vwCl [(q_t, .inr (8, [.ref q_t_now, .ref q_t_tried, .ref q_t_thought, .ref q_t_kept, .int t_undos, .ref q_t_saved, .int t_isSaved, .ref q_t_finds, .ref q_t_reach, .ref q_t_steps, .ref q_t_glows, .ref q_t_lower, .ref q_t_upper, .ref q_t_line, .int t_lined, .ref q_t_text, .int t_length, .int t_at, .int t_order, .ref q_t_told, .ref q_t_why, .ref q_t_more, .int t_whys, .int t_answer])), (q_t_now, .inl (cI, 133, .inl t_now)), (q_t_steps, .inl (cI, 16, .inl t_steps))] H → va_D A [(q_t, .inr (8, [.ref q_t_now, .ref q_t_tried, .ref q_t_thought, .ref q_t_kept, .int t_undos, .ref q_t_saved, .int t_isSaved, .ref q_t_finds, .ref q_t_reach, .ref q_t_steps, .ref q_t_glows, .ref q_t_lower, .ref q_t_upper, .ref q_t_line, .int t_lined, .ref q_t_text, .int t_length, .int t_at, .int t_order, .ref q_t_told, .ref q_t_why, .ref q_t_more, .int t_whys, .int t_answer])), (q_t_now, .inl (cI, 133, .inl t_now)), (q_t_steps, .inl (cI, 16, .inl t_steps))] → va_S A s.heap H locs → ∀ ls : Array Slot, lv_has ls 6 [(0, .ref q_t), (2, .int v2), (3, .int v3), (4, .int v4), (5, .int v5)] → k55 t_steps v3 v4 v5 = some (r, o_t_steps) → W p l e rmX10_way s m args below meth c H locs 0 0 Q (F0 m 55 ls [])) → ∀ (t_steps : Nat → Int32) (v3 : Int32) (v4 : Int32) (v5 : Int32) (H : Heap) (locs : List Loc), va_P D vwCl [(q_t, .inr (8, [.ref q_t_now, .ref q_t_tried, .ref q_t_thought, .ref q_t_kept, .int t_undos, .ref q_t_saved, .int t_isSaved, .ref q_t_finds, .ref q_t_reach, .ref q_t_steps, .ref q_t_glows, .ref q_t_lower, .ref q_t_upper, .ref q_t_line, .int t_lined, .ref q_t_text, .int t_length, .int t_at, .int t_order, .ref q_t_told, .ref q_t_why, .ref q_t_more, .int t_whys, .int t_answer])), (q_t_now, .inl (cI, 133, .inl t_now)), (q_t_steps, .inl (cI, 16, .inl t_steps))] H → va_D A [(q_t, .inr (8, [.ref q_t_now, .ref q_t_tried, .ref q_t_thought, .ref q_t_kept, .int t_undos, .ref q_t_saved, .int t_isSaved, .ref q_t_finds, .ref q_t_reach, .ref q_t_steps, .ref q_t_glows, .ref q_t_lower, .ref q_t_upper, .ref q_t_line, .int t_lined, .ref q_t_text, .int t_length, .int t_at, .int t_order, .ref q_t_told, .ref q_t_why, .ref q_t_more, .int t_whys, .int t_answer])), (q_t_now, .inl (cI, 133, .inl t_now)), (q_t_steps, .inl (cI, 16, .inl t_steps))] → va_S A s.heap H locs → ∀ ls : Array Slot, lv_has ls 6 [(0, .ref q_t), (2, .int v2), (3, .int v3), (4, .int v4), (5, .int v5)] → J_X10_way_b109 k32 k41 k55 t_now v1 v2 t_steps v3 v4 v5 = some (r, o_t_steps) → W p l e rmX10_way s m args below meth c H locs 0 0 Q (F0 m 109 ls []) := by
    intro k32 hk32 k41 hk41 k55 hk55 t_steps v3 v4 v5 H locs hP hD hS ls hl hJ
    unfold J_X10_way_b109 at hJ
    refine jt_iinc hJ (fun x109 ex109 hJ => ?_)
    refine lv_iinc (v := x109) (lv' := [(5, .int x109), (0, .ref q_t), (2, .int v2), (3, .int v3), (4, .int v4)]) hx hb dX10_way_109 hl (k := 4) rfl ex109 (by decide) rfl (fun ls hl => ?_)
    refine lv_goto (tgt := 55) hx hb dX10_way_112 (by decide) ?_
    exact hk55 t_steps v3 v4 x109  H locs  hP hD hS _ (lv_sub hl [1, 2, 3, 4, 0] rfl) hJ
  have B115 : ∀ (k32 : (Nat → Int32) → Int32 → Option (Int32 × (Nat → Int32))), (∀ (t_steps : Nat → Int32) (v3 : Int32) (H : Heap) (locs : List Loc), va_P D vwCl [(q_t, .inr (8, [.ref q_t_now, .ref q_t_tried, .ref q_t_thought, .ref q_t_kept, .int t_undos, .ref q_t_saved, .int t_isSaved, .ref q_t_finds, .ref q_t_reach, .ref q_t_steps, .ref q_t_glows, .ref q_t_lower, .ref q_t_upper, .ref q_t_line, .int t_lined, .ref q_t_text, .int t_length, .int t_at, .int t_order, .ref q_t_told, .ref q_t_why, .ref q_t_more, .int t_whys, .int t_answer])), (q_t_now, .inl (cI, 133, .inl t_now)), (q_t_steps, .inl (cI, 16, .inl t_steps))] H → va_D A [(q_t, .inr (8, [.ref q_t_now, .ref q_t_tried, .ref q_t_thought, .ref q_t_kept, .int t_undos, .ref q_t_saved, .int t_isSaved, .ref q_t_finds, .ref q_t_reach, .ref q_t_steps, .ref q_t_glows, .ref q_t_lower, .ref q_t_upper, .ref q_t_line, .int t_lined, .ref q_t_text, .int t_length, .int t_at, .int t_order, .ref q_t_told, .ref q_t_why, .ref q_t_more, .int t_whys, .int t_answer])), (q_t_now, .inl (cI, 133, .inl t_now)), (q_t_steps, .inl (cI, 16, .inl t_steps))] → va_S A s.heap H locs → ∀ ls : Array Slot, lv_has ls 6 [(0, .ref q_t), (2, .int v2), (3, .int v3)] → k32 t_steps v3 = some (r, o_t_steps) → W p l e rmX10_way s m args below meth c H locs 0 0 Q (F0 m 32 ls [])) → ∀ (k41 : (Nat → Int32) → Int32 → Int32 → Option (Int32 × (Nat → Int32))), (∀ (t_steps : Nat → Int32) (v3 : Int32) (v4 : Int32) (H : Heap) (locs : List Loc), va_P D vwCl [(q_t, .inr (8, [.ref q_t_now, .ref q_t_tried, .ref q_t_thought, .ref q_t_kept, .int t_undos, .ref q_t_saved, .int t_isSaved, .ref q_t_finds, .ref q_t_reach, .ref q_t_steps, .ref q_t_glows, .ref q_t_lower, .ref q_t_upper, .ref q_t_line, .int t_lined, .ref q_t_text, .int t_length, .int t_at, .int t_order, .ref q_t_told, .ref q_t_why, .ref q_t_more, .int t_whys, .int t_answer])), (q_t_now, .inl (cI, 133, .inl t_now)), (q_t_steps, .inl (cI, 16, .inl t_steps))] H → va_D A [(q_t, .inr (8, [.ref q_t_now, .ref q_t_tried, .ref q_t_thought, .ref q_t_kept, .int t_undos, .ref q_t_saved, .int t_isSaved, .ref q_t_finds, .ref q_t_reach, .ref q_t_steps, .ref q_t_glows, .ref q_t_lower, .ref q_t_upper, .ref q_t_line, .int t_lined, .ref q_t_text, .int t_length, .int t_at, .int t_order, .ref q_t_told, .ref q_t_why, .ref q_t_more, .int t_whys, .int t_answer])), (q_t_now, .inl (cI, 133, .inl t_now)), (q_t_steps, .inl (cI, 16, .inl t_steps))] → va_S A s.heap H locs → ∀ ls : Array Slot, lv_has ls 6 [(0, .ref q_t), (2, .int v2), (3, .int v3), (4, .int v4)] → k41 t_steps v3 v4 = some (r, o_t_steps) → W p l e rmX10_way s m args below meth c H locs 0 0 Q (F0 m 41 ls [])) → ∀ (t_steps : Nat → Int32) (v3 : Int32) (v4 : Int32) (H : Heap) (locs : List Loc), va_P D vwCl [(q_t, .inr (8, [.ref q_t_now, .ref q_t_tried, .ref q_t_thought, .ref q_t_kept, .int t_undos, .ref q_t_saved, .int t_isSaved, .ref q_t_finds, .ref q_t_reach, .ref q_t_steps, .ref q_t_glows, .ref q_t_lower, .ref q_t_upper, .ref q_t_line, .int t_lined, .ref q_t_text, .int t_length, .int t_at, .int t_order, .ref q_t_told, .ref q_t_why, .ref q_t_more, .int t_whys, .int t_answer])), (q_t_now, .inl (cI, 133, .inl t_now)), (q_t_steps, .inl (cI, 16, .inl t_steps))] H → va_D A [(q_t, .inr (8, [.ref q_t_now, .ref q_t_tried, .ref q_t_thought, .ref q_t_kept, .int t_undos, .ref q_t_saved, .int t_isSaved, .ref q_t_finds, .ref q_t_reach, .ref q_t_steps, .ref q_t_glows, .ref q_t_lower, .ref q_t_upper, .ref q_t_line, .int t_lined, .ref q_t_text, .int t_length, .int t_at, .int t_order, .ref q_t_told, .ref q_t_why, .ref q_t_more, .int t_whys, .int t_answer])), (q_t_now, .inl (cI, 133, .inl t_now)), (q_t_steps, .inl (cI, 16, .inl t_steps))] → va_S A s.heap H locs → ∀ ls : Array Slot, lv_has ls 6 [(0, .ref q_t), (2, .int v2), (3, .int v3), (4, .int v4)] → J_X10_way_b115 k32 k41 t_now v1 v2 t_steps v3 v4 = some (r, o_t_steps) → W p l e rmX10_way s m args below meth c H locs 0 0 Q (F0 m 115 ls []) := by
    intro k32 hk32 k41 hk41 t_steps v3 v4 H locs hP hD hS ls hl hJ
    unfold J_X10_way_b115 at hJ
    refine jt_iinc hJ (fun x115 ex115 hJ => ?_)
    refine lv_iinc (v := x115) (lv' := [(4, .int x115), (0, .ref q_t), (2, .int v2), (3, .int v3)]) hx hb dX10_way_115 hl (k := 3) rfl ex115 (by decide) rfl (fun ls hl => ?_)
    refine lv_goto (tgt := 41) hx hb dX10_way_118 (by decide) ?_
    exact hk41 t_steps v3 x115  H locs  hP hD hS _ (lv_sub hl [1, 2, 3, 0] rfl) hJ
  have L55 : ∀ (k32 : (Nat → Int32) → Int32 → Option (Int32 × (Nat → Int32))), (∀ (t_steps : Nat → Int32) (v3 : Int32) (H : Heap) (locs : List Loc), va_P D vwCl [(q_t, .inr (8, [.ref q_t_now, .ref q_t_tried, .ref q_t_thought, .ref q_t_kept, .int t_undos, .ref q_t_saved, .int t_isSaved, .ref q_t_finds, .ref q_t_reach, .ref q_t_steps, .ref q_t_glows, .ref q_t_lower, .ref q_t_upper, .ref q_t_line, .int t_lined, .ref q_t_text, .int t_length, .int t_at, .int t_order, .ref q_t_told, .ref q_t_why, .ref q_t_more, .int t_whys, .int t_answer])), (q_t_now, .inl (cI, 133, .inl t_now)), (q_t_steps, .inl (cI, 16, .inl t_steps))] H → va_D A [(q_t, .inr (8, [.ref q_t_now, .ref q_t_tried, .ref q_t_thought, .ref q_t_kept, .int t_undos, .ref q_t_saved, .int t_isSaved, .ref q_t_finds, .ref q_t_reach, .ref q_t_steps, .ref q_t_glows, .ref q_t_lower, .ref q_t_upper, .ref q_t_line, .int t_lined, .ref q_t_text, .int t_length, .int t_at, .int t_order, .ref q_t_told, .ref q_t_why, .ref q_t_more, .int t_whys, .int t_answer])), (q_t_now, .inl (cI, 133, .inl t_now)), (q_t_steps, .inl (cI, 16, .inl t_steps))] → va_S A s.heap H locs → ∀ ls : Array Slot, lv_has ls 6 [(0, .ref q_t), (2, .int v2), (3, .int v3)] → k32 t_steps v3 = some (r, o_t_steps) → W p l e rmX10_way s m args below meth c H locs 0 0 Q (F0 m 32 ls [])) → ∀ (k41 : (Nat → Int32) → Int32 → Int32 → Option (Int32 × (Nat → Int32))), (∀ (t_steps : Nat → Int32) (v3 : Int32) (v4 : Int32) (H : Heap) (locs : List Loc), va_P D vwCl [(q_t, .inr (8, [.ref q_t_now, .ref q_t_tried, .ref q_t_thought, .ref q_t_kept, .int t_undos, .ref q_t_saved, .int t_isSaved, .ref q_t_finds, .ref q_t_reach, .ref q_t_steps, .ref q_t_glows, .ref q_t_lower, .ref q_t_upper, .ref q_t_line, .int t_lined, .ref q_t_text, .int t_length, .int t_at, .int t_order, .ref q_t_told, .ref q_t_why, .ref q_t_more, .int t_whys, .int t_answer])), (q_t_now, .inl (cI, 133, .inl t_now)), (q_t_steps, .inl (cI, 16, .inl t_steps))] H → va_D A [(q_t, .inr (8, [.ref q_t_now, .ref q_t_tried, .ref q_t_thought, .ref q_t_kept, .int t_undos, .ref q_t_saved, .int t_isSaved, .ref q_t_finds, .ref q_t_reach, .ref q_t_steps, .ref q_t_glows, .ref q_t_lower, .ref q_t_upper, .ref q_t_line, .int t_lined, .ref q_t_text, .int t_length, .int t_at, .int t_order, .ref q_t_told, .ref q_t_why, .ref q_t_more, .int t_whys, .int t_answer])), (q_t_now, .inl (cI, 133, .inl t_now)), (q_t_steps, .inl (cI, 16, .inl t_steps))] → va_S A s.heap H locs → ∀ ls : Array Slot, lv_has ls 6 [(0, .ref q_t), (2, .int v2), (3, .int v3), (4, .int v4)] → k41 t_steps v3 v4 = some (r, o_t_steps) → W p l e rmX10_way s m args below meth c H locs 0 0 Q (F0 m 41 ls [])) → ∀ (nf : Nat), ∀ (t_steps : Nat → Int32) (v3 : Int32) (v4 : Int32) (v5 : Int32) (H : Heap) (locs : List Loc), va_P D vwCl [(q_t, .inr (8, [.ref q_t_now, .ref q_t_tried, .ref q_t_thought, .ref q_t_kept, .int t_undos, .ref q_t_saved, .int t_isSaved, .ref q_t_finds, .ref q_t_reach, .ref q_t_steps, .ref q_t_glows, .ref q_t_lower, .ref q_t_upper, .ref q_t_line, .int t_lined, .ref q_t_text, .int t_length, .int t_at, .int t_order, .ref q_t_told, .ref q_t_why, .ref q_t_more, .int t_whys, .int t_answer])), (q_t_now, .inl (cI, 133, .inl t_now)), (q_t_steps, .inl (cI, 16, .inl t_steps))] H → va_D A [(q_t, .inr (8, [.ref q_t_now, .ref q_t_tried, .ref q_t_thought, .ref q_t_kept, .int t_undos, .ref q_t_saved, .int t_isSaved, .ref q_t_finds, .ref q_t_reach, .ref q_t_steps, .ref q_t_glows, .ref q_t_lower, .ref q_t_upper, .ref q_t_line, .int t_lined, .ref q_t_text, .int t_length, .int t_at, .int t_order, .ref q_t_told, .ref q_t_why, .ref q_t_more, .int t_whys, .int t_answer])), (q_t_now, .inl (cI, 133, .inl t_now)), (q_t_steps, .inl (cI, 16, .inl t_steps))] → va_S A s.heap H locs → ∀ ls : Array Slot, lv_has ls 6 [(0, .ref q_t), (2, .int v2), (3, .int v3), (4, .int v4), (5, .int v5)] → J_X10_way_L55 k32 k41 t_now v1 v2 nf t_steps v3 v4 v5 = some (r, o_t_steps) → W p l e rmX10_way s m args below meth c H locs 0 0 Q (F0 m 55 ls []) := by
    intro k32 hk32 k41 hk41 nf
    induction nf with
    | zero =>
      intro t_steps v3 v4 v5 H locs hP hD hS ls hl hJ
      rw [J_X10_way_L55] at hJ
      cases hJ
    | succ nf ih =>
      intro t_steps v3 v4 v5 H locs hP hD hS ls hl hJ
      rw [J_X10_way_L55] at hJ
      refine lv_iload hx hb dX10_way_55 (lv_at hl 4 rfl) ?_
      refine lv_iconst (v := (3 : Int32)) hx hb dX10_way_57 (by decide) ?_
      refine jif_icmp_ge (tgt := 115) hx hb dX10_way_58 (by decide) hJ (fun hJ => ?_) (fun hJ => ?_)
      · exact B115 k32 hk32 k41 hk41 t_steps v3 v4  H locs  hP hD hS _ (lv_sub hl [0, 1, 2, 3] rfl) hJ
      · refine lv_aload_n hx hb dX10_way_61 rfl (lv_at hl 0 rfl) ?_
        refine va_get (ci := 8) (v := .ref q_t_steps) (C := RX10) (T := TX10) (N := 24) hx hb hts hin_X10 hown hK hP 0 rfl rfl 9 (by decide) fl_31 (fun _ h9 => h9) rfl dX10_way_62 ?_
        refine lv_iload hx hb dX10_way_65 (lv_at hl 3 rfl) ?_
        obtain ⟨hin, hJ⟩ := chk_in hJ
        refine va_iald hx hb hK hP 2 0 rfl rfl hin dX10_way_67 ?_
        refine jt_i hJ (fun x67 hJ => ?_)
        refine jif_ge (tgt := 115) hx hb dX10_way_68 (by decide) hJ (fun hJ => ?_) (fun hJ => ?_)
        · exact B115 k32 hk32 k41 hk41 t_steps v3 v4  H locs  hP hD hS _ (lv_sub hl [0, 1, 2, 3] rfl) hJ
        · refine lv_aload_n hx hb dX10_way_71 rfl (lv_at hl 0 rfl) ?_
          refine lv_iload hx hb dX10_way_72 (lv_at hl 3 rfl) ?_
          refine lv_iload hx hb dX10_way_74 (lv_at hl 4 rfl) ?_
          obtain ⟨x76, hc76, hJ⟩ := bnd1_some hJ
          refine jcV_i (C := RX10) (T := TX10) (N := 24) (ci := 8) (q0 := 0) (As := [.int v4, .int v5]) (rest := []) (isC := [0, 1]) (isR := [2]) (isB := [1, 2, 0]) (wr := [(q_t_steps, .inl (cI, 16, .inl t_steps))]) (ws2 := [(q_t, .inr (8, [.ref q_t_now, .ref q_t_tried, .ref q_t_thought, .ref q_t_kept, .int t_undos, .ref q_t_saved, .int t_isSaved, .ref q_t_finds, .ref q_t_reach, .ref q_t_steps, .ref q_t_glows, .ref q_t_lower, .ref q_t_upper, .ref q_t_line, .int t_lined, .ref q_t_text, .int t_length, .int t_at, .int t_order, .ref q_t_told, .ref q_t_why, .ref q_t_more, .int t_whys, .int t_answer])), (q_t_now, .inl (cI, 133, .inl t_now)), (q_t_steps, .inl (cI, 16, .inl t_steps))]) hF (c_X10_wired l D cI cJ cC cL q_t q_t_now q_t_tried q_t_thought q_t_kept q_t_saved q_t_finds q_t_reach q_t_steps q_t_glows q_t_lower q_t_upper q_t_line q_t_text q_t_told q_t_why q_t_more t_undos t_isSaved t_lined t_length t_at t_order t_whys t_answer t_now v4 v5 x76 hc76 H.size) (cwV 2 hts gX10_way_X10_wired rfl rfl rfl (by decide +kernel) ⟨Nat.le_of_ble_eq_true rfl, Nat.le_of_ble_eq_true rfl⟩) rfl hl rfl (Nat.le_of_ble_eq_true rfl) dX10_way_76 ⟨Nat.zero_le _, Nat.zero_le _⟩ hK hN KX_T trivial hP hD hS hA rfl rfl rfl rfl rfl rfl (by decide) rfl rfl (fun H locs hP hD hS => ?_)
          refine jif_lt (tgt := 109) hx hb dX10_way_79 (by decide) hJ (fun hJ => ?_) (fun hJ => ?_)
          · exact B109 k32 hk32 k41 hk41 (fun z0 z1 z2 z3 => J_X10_way_L55 k32 k41 t_now v1 v2 nf z0 z1 z2 z3) ih t_steps v3 v4 v5  H locs  hP hD hS _ (lv_sub hl [0, 1, 2, 3, 4] rfl) hJ
          · refine lv_aload_n hx hb dX10_way_82 rfl (lv_at hl 0 rfl) ?_
            refine va_get (ci := 8) (v := .ref q_t_steps) (C := RX10) (T := TX10) (N := 24) hx hb hts hin_X10 hown hK hP 0 rfl rfl 9 (by decide) fl_31 (fun _ h9 => h9) rfl dX10_way_83 ?_
            refine lv_aload_n hx hb dX10_way_86 rfl (lv_at hl 0 rfl) ?_
            refine lv_iload hx hb dX10_way_87 (lv_at hl 3 rfl) ?_
            refine lv_iload hx hb dX10_way_89 (lv_at hl 4 rfl) ?_
            obtain ⟨x91, hc91, hJ⟩ := bnd1_some hJ
            refine jcV_i (C := RX10) (T := TX10) (N := 24) (ci := 8) (q0 := 0) (As := [.int v4, .int v5]) (rest := [.ref q_t_steps]) (isC := [0, 1]) (isR := [2]) (isB := [1, 2, 0]) (wr := [(q_t_steps, .inl (cI, 16, .inl t_steps))]) (ws2 := [(q_t, .inr (8, [.ref q_t_now, .ref q_t_tried, .ref q_t_thought, .ref q_t_kept, .int t_undos, .ref q_t_saved, .int t_isSaved, .ref q_t_finds, .ref q_t_reach, .ref q_t_steps, .ref q_t_glows, .ref q_t_lower, .ref q_t_upper, .ref q_t_line, .int t_lined, .ref q_t_text, .int t_length, .int t_at, .int t_order, .ref q_t_told, .ref q_t_why, .ref q_t_more, .int t_whys, .int t_answer])), (q_t_now, .inl (cI, 133, .inl t_now)), (q_t_steps, .inl (cI, 16, .inl t_steps))]) hF (c_X10_wired l D cI cJ cC cL q_t q_t_now q_t_tried q_t_thought q_t_kept q_t_saved q_t_finds q_t_reach q_t_steps q_t_glows q_t_lower q_t_upper q_t_line q_t_text q_t_told q_t_why q_t_more t_undos t_isSaved t_lined t_length t_at t_order t_whys t_answer t_now v4 v5 x91 hc91 H.size) (cwV 2 hts gX10_way_X10_wired rfl rfl rfl (by decide +kernel) ⟨Nat.le_of_ble_eq_true rfl, Nat.le_of_ble_eq_true rfl⟩) rfl hl rfl (Nat.le_of_ble_eq_true rfl) dX10_way_91 ⟨Nat.zero_le _, Nat.zero_le _⟩ hK hN KX_T trivial hP hD hS hA rfl rfl rfl rfl rfl rfl (by decide) rfl rfl (fun H locs hP hD hS => ?_)
            obtain ⟨hin, hJ⟩ := chk_in hJ
            refine va_iald hx hb hK hP 2 0 rfl rfl hin dX10_way_94 ?_
            refine jt_i hJ (fun x94 hJ => ?_)
            refine lv_iload_n hx hb dX10_way_95 rfl (lv_at hl 2 rfl) ?_
            refine lv_iconst (v := (1 : Int32)) hx hb dX10_way_96 (by decide) ?_
            refine lv_isub hx hb dX10_way_97 ?_
            refine jif_icmp_ne (tgt := 109) hx hb dX10_way_98 (by decide) hJ (fun hJ => ?_) (fun hJ => ?_)
            · exact B109 k32 hk32 k41 hk41 (fun z0 z1 z2 z3 => J_X10_way_L55 k32 k41 t_now v1 v2 nf z0 z1 z2 z3) ih t_steps v3 v4 v5  H locs  hP hD hS _ (lv_sub hl [0, 1, 2, 3, 4] rfl) hJ
            · refine lv_aload_n hx hb dX10_way_101 rfl (lv_at hl 0 rfl) ?_
              refine va_get (ci := 8) (v := .ref q_t_steps) (C := RX10) (T := TX10) (N := 24) hx hb hts hin_X10 hown hK hP 0 rfl rfl 9 (by decide) fl_31 (fun _ h9 => h9) rfl dX10_way_102 ?_
              refine lv_iload hx hb dX10_way_105 (lv_at hl 3 rfl) ?_
              refine lv_iload_n hx hb dX10_way_107 rfl (lv_at hl 2 rfl) ?_
              obtain ⟨hin, hJ⟩ := chk_in hJ
              refine va_iast hx hb hK hP hD hS 2 0 rfl rfl hin dX10_way_108 (fun H locs hP hD hS => ?_)
              have hP : va_P D vwCl [(q_t, .inr (8, [.ref q_t_now, .ref q_t_tried, .ref q_t_thought, .ref q_t_kept, .int t_undos, .ref q_t_saved, .int t_isSaved, .ref q_t_finds, .ref q_t_reach, .ref q_t_steps, .ref q_t_glows, .ref q_t_lower, .ref q_t_upper, .ref q_t_line, .int t_lined, .ref q_t_text, .int t_length, .int t_at, .int t_order, .ref q_t_told, .ref q_t_why, .ref q_t_more, .int t_whys, .int t_answer])), (q_t_now, .inl (cI, 133, .inl t_now)), (q_t_steps, .inl (cI, 16, .inl (upd t_steps v4.toNatClampNeg v3)))] H := hP
              have hD : va_D A [(q_t, .inr (8, [.ref q_t_now, .ref q_t_tried, .ref q_t_thought, .ref q_t_kept, .int t_undos, .ref q_t_saved, .int t_isSaved, .ref q_t_finds, .ref q_t_reach, .ref q_t_steps, .ref q_t_glows, .ref q_t_lower, .ref q_t_upper, .ref q_t_line, .int t_lined, .ref q_t_text, .int t_length, .int t_at, .int t_order, .ref q_t_told, .ref q_t_why, .ref q_t_more, .int t_whys, .int t_answer])), (q_t_now, .inl (cI, 133, .inl t_now)), (q_t_steps, .inl (cI, 16, .inl (upd t_steps v4.toNatClampNeg v3)))] := hD
              exact B109 k32 hk32 k41 hk41 (fun z0 z1 z2 z3 => J_X10_way_L55 k32 k41 t_now v1 v2 nf z0 z1 z2 z3) ih (upd t_steps v4.toNatClampNeg v3) v3 v4 v5  H locs  hP hD hS _ (lv_sub hl [0, 1, 2, 3, 4] rfl) hJ
  have L41 : ∀ (k32 : (Nat → Int32) → Int32 → Option (Int32 × (Nat → Int32))), (∀ (t_steps : Nat → Int32) (v3 : Int32) (H : Heap) (locs : List Loc), va_P D vwCl [(q_t, .inr (8, [.ref q_t_now, .ref q_t_tried, .ref q_t_thought, .ref q_t_kept, .int t_undos, .ref q_t_saved, .int t_isSaved, .ref q_t_finds, .ref q_t_reach, .ref q_t_steps, .ref q_t_glows, .ref q_t_lower, .ref q_t_upper, .ref q_t_line, .int t_lined, .ref q_t_text, .int t_length, .int t_at, .int t_order, .ref q_t_told, .ref q_t_why, .ref q_t_more, .int t_whys, .int t_answer])), (q_t_now, .inl (cI, 133, .inl t_now)), (q_t_steps, .inl (cI, 16, .inl t_steps))] H → va_D A [(q_t, .inr (8, [.ref q_t_now, .ref q_t_tried, .ref q_t_thought, .ref q_t_kept, .int t_undos, .ref q_t_saved, .int t_isSaved, .ref q_t_finds, .ref q_t_reach, .ref q_t_steps, .ref q_t_glows, .ref q_t_lower, .ref q_t_upper, .ref q_t_line, .int t_lined, .ref q_t_text, .int t_length, .int t_at, .int t_order, .ref q_t_told, .ref q_t_why, .ref q_t_more, .int t_whys, .int t_answer])), (q_t_now, .inl (cI, 133, .inl t_now)), (q_t_steps, .inl (cI, 16, .inl t_steps))] → va_S A s.heap H locs → ∀ ls : Array Slot, lv_has ls 6 [(0, .ref q_t), (2, .int v2), (3, .int v3)] → k32 t_steps v3 = some (r, o_t_steps) → W p l e rmX10_way s m args below meth c H locs 0 0 Q (F0 m 32 ls [])) → ∀ (nf : Nat), ∀ (t_steps : Nat → Int32) (v3 : Int32) (v4 : Int32) (H : Heap) (locs : List Loc), va_P D vwCl [(q_t, .inr (8, [.ref q_t_now, .ref q_t_tried, .ref q_t_thought, .ref q_t_kept, .int t_undos, .ref q_t_saved, .int t_isSaved, .ref q_t_finds, .ref q_t_reach, .ref q_t_steps, .ref q_t_glows, .ref q_t_lower, .ref q_t_upper, .ref q_t_line, .int t_lined, .ref q_t_text, .int t_length, .int t_at, .int t_order, .ref q_t_told, .ref q_t_why, .ref q_t_more, .int t_whys, .int t_answer])), (q_t_now, .inl (cI, 133, .inl t_now)), (q_t_steps, .inl (cI, 16, .inl t_steps))] H → va_D A [(q_t, .inr (8, [.ref q_t_now, .ref q_t_tried, .ref q_t_thought, .ref q_t_kept, .int t_undos, .ref q_t_saved, .int t_isSaved, .ref q_t_finds, .ref q_t_reach, .ref q_t_steps, .ref q_t_glows, .ref q_t_lower, .ref q_t_upper, .ref q_t_line, .int t_lined, .ref q_t_text, .int t_length, .int t_at, .int t_order, .ref q_t_told, .ref q_t_why, .ref q_t_more, .int t_whys, .int t_answer])), (q_t_now, .inl (cI, 133, .inl t_now)), (q_t_steps, .inl (cI, 16, .inl t_steps))] → va_S A s.heap H locs → ∀ ls : Array Slot, lv_has ls 6 [(0, .ref q_t), (2, .int v2), (3, .int v3), (4, .int v4)] → J_X10_way_L41 k32 t_now v1 v2 nf t_steps v3 v4 = some (r, o_t_steps) → W p l e rmX10_way s m args below meth c H locs 0 0 Q (F0 m 41 ls []) := by
    intro k32 hk32 nf
    induction nf with
    | zero =>
      intro t_steps v3 v4 H locs hP hD hS ls hl hJ
      rw [J_X10_way_L41] at hJ
      cases hJ
    | succ nf ih =>
      intro t_steps v3 v4 H locs hP hD hS ls hl hJ
      rw [J_X10_way_L41] at hJ
      refine lv_iload hx hb dX10_way_41 (lv_at hl 3 rfl) ?_
      refine lv_aload_n hx hb dX10_way_43 rfl (lv_at hl 0 rfl) ?_
      refine va_get (ci := 8) (v := .ref q_t_now) (C := RX10) (T := TX10) (N := 24) hx hb hts hin_X10 hown hK hP 0 rfl rfl 0 (by decide) fl_9 (fun _ h9 => h9) rfl dX10_way_44 ?_
      refine lv_iconst (v := (0 : Int32)) hx hb dX10_way_47 (by decide) ?_
      obtain ⟨hin, hJ⟩ := chk_in hJ
      refine va_iald hx hb hK hP 1 0 rfl rfl hin dX10_way_48 ?_
      refine jt_i hJ (fun x48 hJ => ?_)
      refine jif_icmp_ge (tgt := 121) hx hb dX10_way_49 (by decide) hJ (fun hJ => ?_) (fun hJ => ?_)
      · refine jt_iinc hJ (fun x121 ex121 hJ => ?_)
        refine lv_iinc (v := x121) (lv' := [(3, .int x121), (0, .ref q_t), (2, .int v2), (4, .int v4)]) hx hb dX10_way_121 hl (k := 2) rfl ex121 (by decide) rfl (fun ls hl => ?_)
        refine lv_goto (tgt := 32) hx hb dX10_way_124 (by decide) ?_
        exact hk32 t_steps x121  H locs  hP hD hS _ (lv_sub hl [1, 2, 0] rfl) hJ
      · refine lv_iconst (v := (0 : Int32)) hx hb dX10_way_52 (by decide) ?_
        refine lv_istore (lv' := [(5, .int (0 : Int32)), (0, .ref q_t), (2, .int v2), (3, .int v3), (4, .int v4)]) hx hb dX10_way_53 hl (by decide) rfl (fun ls hl => ?_)
        exact L55 k32 hk32 (fun z0 z1 z2 => J_X10_way_L41 k32 t_now v1 v2 nf z0 z1 z2) ih FU t_steps v3 v4 (0 : Int32)  H locs  hP hD hS _ (lv_sub hl [1, 2, 3, 4, 0] rfl) hJ
  have L32 : ∀ (nf : Nat), ∀ (t_steps : Nat → Int32) (v3 : Int32) (H : Heap) (locs : List Loc), va_P D vwCl [(q_t, .inr (8, [.ref q_t_now, .ref q_t_tried, .ref q_t_thought, .ref q_t_kept, .int t_undos, .ref q_t_saved, .int t_isSaved, .ref q_t_finds, .ref q_t_reach, .ref q_t_steps, .ref q_t_glows, .ref q_t_lower, .ref q_t_upper, .ref q_t_line, .int t_lined, .ref q_t_text, .int t_length, .int t_at, .int t_order, .ref q_t_told, .ref q_t_why, .ref q_t_more, .int t_whys, .int t_answer])), (q_t_now, .inl (cI, 133, .inl t_now)), (q_t_steps, .inl (cI, 16, .inl t_steps))] H → va_D A [(q_t, .inr (8, [.ref q_t_now, .ref q_t_tried, .ref q_t_thought, .ref q_t_kept, .int t_undos, .ref q_t_saved, .int t_isSaved, .ref q_t_finds, .ref q_t_reach, .ref q_t_steps, .ref q_t_glows, .ref q_t_lower, .ref q_t_upper, .ref q_t_line, .int t_lined, .ref q_t_text, .int t_length, .int t_at, .int t_order, .ref q_t_told, .ref q_t_why, .ref q_t_more, .int t_whys, .int t_answer])), (q_t_now, .inl (cI, 133, .inl t_now)), (q_t_steps, .inl (cI, 16, .inl t_steps))] → va_S A s.heap H locs → ∀ ls : Array Slot, lv_has ls 6 [(0, .ref q_t), (2, .int v2), (3, .int v3)] → J_X10_way_L32  t_now v1 v2 nf t_steps v3 = some (r, o_t_steps) → W p l e rmX10_way s m args below meth c H locs 0 0 Q (F0 m 32 ls []) := by
    intro nf
    induction nf with
    | zero =>
      intro t_steps v3 H locs hP hD hS ls hl hJ
      rw [J_X10_way_L32] at hJ
      cases hJ
    | succ nf ih =>
      intro t_steps v3 H locs hP hD hS ls hl hJ
      rw [J_X10_way_L32] at hJ
      refine lv_iload_n hx hb dX10_way_32 rfl (lv_at hl 2 rfl) ?_
      refine lv_bipush (v := (16 : Int32)) hx hb dX10_way_33 (by decide) ?_
      refine jif_icmp_gt (tgt := 127) hx hb dX10_way_35 (by decide) hJ (fun hJ => ?_) (fun hJ => ?_)
      · refine lv_aload_n hx hb dX10_way_127 rfl (lv_at hl 0 rfl) ?_
        refine va_get (ci := 8) (v := .ref q_t_steps) (C := RX10) (T := TX10) (N := 24) hx hb hts hin_X10 hown hK hP 0 rfl rfl 9 (by decide) fl_31 (fun _ h9 => h9) rfl dX10_way_128 ?_
        refine lv_iload_n hx hb dX10_way_131 rfl (lv_at hl 1 rfl) ?_
        obtain ⟨hin, hJ⟩ := chk_in hJ
        refine va_iald hx hb hK hP 2 0 rfl rfl hin dX10_way_132 ?_
        refine jt_i hJ (fun x132 hJ => ?_)
        have hJ := Option.some.inj hJ
        obtain ⟨e0, e1⟩ : (x132) = r ∧ (t_steps) = o_t_steps := ⟨congrArg (fun z => z.1) hJ, congrArg (fun z => z.2) hJ⟩
        exact hRet (by rw [← e1]; exact hP) (by rw [← e1]; exact hD) hS e0 dX10_way_133
      · refine lv_iconst (v := (0 : Int32)) hx hb dX10_way_38 (by decide) ?_
        refine lv_istore (lv' := [(4, .int (0 : Int32)), (0, .ref q_t), (2, .int v2), (3, .int v3)]) hx hb dX10_way_39 hl (by decide) rfl (fun ls hl => ?_)
        exact L41 (fun z0 z1 => J_X10_way_L32 t_now v1 v2 nf z0 z1) ih FU t_steps v3 (0 : Int32)  H locs  hP hD hS _ (lv_sub hl [1, 2, 3, 0] rfl) hJ
  have L2 : ∀ (nf : Nat), ∀ (t_steps : Nat → Int32) (v3 : Int32) (H : Heap) (locs : List Loc), va_P D vwCl [(q_t, .inr (8, [.ref q_t_now, .ref q_t_tried, .ref q_t_thought, .ref q_t_kept, .int t_undos, .ref q_t_saved, .int t_isSaved, .ref q_t_finds, .ref q_t_reach, .ref q_t_steps, .ref q_t_glows, .ref q_t_lower, .ref q_t_upper, .ref q_t_line, .int t_lined, .ref q_t_text, .int t_length, .int t_at, .int t_order, .ref q_t_told, .ref q_t_why, .ref q_t_more, .int t_whys, .int t_answer])), (q_t_now, .inl (cI, 133, .inl t_now)), (q_t_steps, .inl (cI, 16, .inl t_steps))] H → va_D A [(q_t, .inr (8, [.ref q_t_now, .ref q_t_tried, .ref q_t_thought, .ref q_t_kept, .int t_undos, .ref q_t_saved, .int t_isSaved, .ref q_t_finds, .ref q_t_reach, .ref q_t_steps, .ref q_t_glows, .ref q_t_lower, .ref q_t_upper, .ref q_t_line, .int t_lined, .ref q_t_text, .int t_length, .int t_at, .int t_order, .ref q_t_told, .ref q_t_why, .ref q_t_more, .int t_whys, .int t_answer])), (q_t_now, .inl (cI, 133, .inl t_now)), (q_t_steps, .inl (cI, 16, .inl t_steps))] → va_S A s.heap H locs → ∀ ls : Array Slot, lv_has ls 6 [(0, .ref q_t), (1, .int v1), (2, .int v2), (3, .int v3)] → J_X10_way_L2  t_now v1 v2 nf t_steps v3 = some (r, o_t_steps) → W p l e rmX10_way s m args below meth c H locs 0 0 Q (F0 m 2 ls []) := by
    intro nf
    induction nf with
    | zero =>
      intro t_steps v3 H locs hP hD hS ls hl hJ
      rw [J_X10_way_L2] at hJ
      cases hJ
    | succ nf ih =>
      intro t_steps v3 H locs hP hD hS ls hl hJ
      rw [J_X10_way_L2] at hJ
      refine lv_iload_n hx hb dX10_way_2 rfl (lv_at hl 3 rfl) ?_
      refine lv_bipush (v := (16 : Int32)) hx hb dX10_way_3 (by decide) ?_
      refine jif_icmp_ge (tgt := 30) hx hb dX10_way_5 (by decide) hJ (fun hJ => ?_) (fun hJ => ?_)
      · refine lv_iconst (v := (1 : Int32)) hx hb dX10_way_30 (by decide) ?_
        refine lv_istore_n (lv' := [(3, .int (1 : Int32)), (0, .ref q_t), (1, .int v1), (2, .int v2)]) hx hb dX10_way_31 rfl hl (by decide) rfl (fun ls hl => ?_)
        exact L32  FU t_steps (1 : Int32)  H locs  hP hD hS _ (lv_sub hl [1, 3, 0] rfl) hJ
      · refine lv_aload_n hx hb dX10_way_8 rfl (lv_at hl 0 rfl) ?_
        refine va_get (ci := 8) (v := .ref q_t_steps) (C := RX10) (T := TX10) (N := 24) hx hb hts hin_X10 hown hK hP 0 rfl rfl 9 (by decide) fl_31 (fun _ h9 => h9) rfl dX10_way_9 ?_
        refine lv_iload_n hx hb dX10_way_12 rfl (lv_at hl 3 rfl) ?_
        refine lv_iload_n hx hb dX10_way_13 rfl (lv_at hl 3 rfl) ?_
        refine lv_iload_n hx hb dX10_way_14 rfl (lv_at hl 1 rfl) ?_
        refine jif_icmp_ne (tgt := 22) hx hb dX10_way_15 (by decide) hJ (fun hJ => ?_) (fun hJ => ?_)
        · refine lv_iconst (v := (-1 : Int32)) hx hb dX10_way_22 (by decide) ?_
          exact B23 (fun z0 z1 => J_X10_way_L2 t_now v1 v2 nf z0 z1) ih t_steps v3 v3 (-1 : Int32)  H locs  hP hD hS _ (lv_sub hl [0, 1, 2, 3] rfl) hJ
        · refine lv_iconst (v := (0 : Int32)) hx hb dX10_way_18 (by decide) ?_
          refine lv_goto (tgt := 23) hx hb dX10_way_19 (by decide) ?_
          exact B23 (fun z0 z1 => J_X10_way_L2 t_now v1 v2 nf z0 z1) ih t_steps v3 v3 (0 : Int32)  H locs  hP hD hS _ (lv_sub hl [0, 1, 2, 3] rfl) hJ
  unfold J_X10_way at hJ
  refine lv_iconst (v := (0 : Int32)) hx hb dX10_way_0 (by decide) ?_
  refine lv_istore_n (lv' := [(3, .int (0 : Int32)), (0, .ref q_t), (1, .int v1), (2, .int v2)]) hx hb dX10_way_1 rfl hl (by decide) rfl (fun ls hl => ?_)
  exact L2  FU t_steps (0 : Int32)  s.heap []  hP hD hS _ (lv_sub hl [1, 2, 3, 0] rfl) hJ

def J_X10_hangs_b19 (v1 : Int32) (v2 : Int32) (t_whys : Int32) (t_answer : Int32) (t_now : Nat → Int32) (t_why : Nat → Int32) (t_more : Nat → Int32) : Option (Int32 × Int32 × Int32 × (Nat → Int32) × (Nat → Int32) × (Nat → Int32)) :=
    some ((-12 : Int32), t_whys, t_answer, t_now, t_why, t_more)
def J_X10_hangs_L56 (v1 : Int32) (v2 : Int32) : Nat → Int32 → Int32 → (Nat → Int32) → (Nat → Int32) → (Nat → Int32) → Int32 → Int32 → Option (Int32 × Int32 × Int32 × (Nat → Int32) × (Nat → Int32) × (Nat → Int32))
  | 0, _, _, _, _, _, _, _ => none
  | nf + 1, t_whys, t_answer, t_now, t_why, t_more, v3, v4 =>
    if (8 : Int32) ≤ v4 then (
    bnd1 (J_X10_sets t_now v3 (0 : Int32) v1) fun t_now_81 =>
    bnd1 (J_X10_sets t_now_81 v3 (1 : Int32) v2) fun t_now_88 =>
    bnd2 (J_X10_does v3) fun x93 t_answer_93 =>
    some (x93, t_whys, t_answer_93, t_now_88, t_why, t_more))
    else (
    bnd1 (J_X10_sets t_now v3 v4 (0 : Int32)) fun t_now_68 =>
    nm (v4 + Int32.ofInt 1) fun x71 =>
    J_X10_hangs_L56 v1 v2 nf t_whys t_answer t_now_68 t_why t_more v3 x71)
def J_X10_hangs (t_whys : Int32) (t_answer : Int32) (t_now : Nat → Int32) (t_why : Nat → Int32) (t_more : Nat → Int32) (v1 : Int32) (v2 : Int32) : Option (Int32 × Int32 × Int32 × (Nat → Int32) × (Nat → Int32) × (Nat → Int32)) :=
    bnd1 (J_X10_in v1 (0 : Int32) (6 : Int32)) fun x4 =>
    if x4 = 0 then (
    J_X10_hangs_b19 v1 v2 t_whys t_answer t_now t_why t_more)
    else (
    bnd1 (J_X10_in v2 (1 : Int32) (4 : Int32)) fun x13 =>
    if x13 = 0 then (
    J_X10_hangs_b19 v1 v2 t_whys t_answer t_now t_why t_more)
    else (
    chk (0 : Int32) 133 (
    nm (t_now (0 : Int32).toNatClampNeg) fun x27 =>
    if x27 = (16 : Int32) then (
    bnd4 (J_X10_refuses t_why t_more (1 : Int32) (16 : Int32)) fun x39 t_whys_39 t_why_39 t_more_39 =>
    some (x39, t_whys_39, t_answer, t_now, t_why_39, t_more_39))
    else (
    chk (0 : Int32) 133 (
    nm (t_now (0 : Int32).toNatClampNeg) fun x49 =>
    nm (x49 + (1 : Int32)) fun x51 =>
    chk (0 : Int32) 133 (
    J_X10_hangs_L56 v1 v2 FU t_whys t_answer (upd t_now (0 : Int32).toNatClampNeg x51) t_why t_more x27 (0 : Int32)))))))
abbrev rmX10_hangs : Room := { frames := 1, cells := 0, slots := 0, locals := 23 }
set_option maxHeartbeats 4000000 in
set_option maxRecDepth 100000 in
theorem c_X10_hangs (l : Launch) (D : va_G) (cI cJ cC cL : ClassId) (q_t q_t_now q_t_tried q_t_thought q_t_kept q_t_saved q_t_finds q_t_reach q_t_steps q_t_glows q_t_lower q_t_upper q_t_line q_t_text q_t_told q_t_why q_t_more : Nat) (t_undos : Int32) (t_isSaved : Int32) (t_lined : Int32) (t_length : Int32) (t_at : Int32) (t_order : Int32) (t_whys : Int32) (t_answer : Int32) (t_now : Nat → Int32) (t_why : Nat → Int32) (t_more : Nat → Int32) (v1 : Int32) (v2 : Int32) (r : Int32) (o_t_whys : Int32) (o_t_answer : Int32) (o_t_now : Nat → Int32) (o_t_why : Nat → Int32) (o_t_more : Nat → Int32) (hJ : J_X10_hangs t_whys t_answer t_now t_why t_more v1 v2 = some (r, o_t_whys, o_t_answer, o_t_now, o_t_why, o_t_more)) (sz : Nat) : Met l yX10_hangs wsX10_hangs rmX10_hangs (va_Pc [.ref q_t, .int v1, .int v2] (jpre XT D (tyL cI cJ cC cL) [(q_t, .inr (8, [.ref q_t_now, .ref q_t_tried, .ref q_t_thought, .ref q_t_kept, .int t_undos, .ref q_t_saved, .int t_isSaved, .ref q_t_finds, .ref q_t_reach, .ref q_t_steps, .ref q_t_glows, .ref q_t_lower, .ref q_t_upper, .ref q_t_line, .int t_lined, .ref q_t_text, .int t_length, .int t_at, .int t_order, .ref q_t_told, .ref q_t_why, .ref q_t_more, .int t_whys, .int t_answer])), (q_t_now, .inl (cI, 133, .inl t_now)), (q_t_why, .inl (cI, 4, .inl t_why)), (q_t_more, .inl (cI, 4, .inl t_more))] sz)) (va_Qi (fun r' (_ : Unit) => r' = r) (fun _ t => jpost D (tyL cI cJ cC cL) (va_A [(q_t, .inr (8, [.ref q_t_now, .ref q_t_tried, .ref q_t_thought, .ref q_t_kept, .int t_undos, .ref q_t_saved, .int t_isSaved, .ref q_t_finds, .ref q_t_reach, .ref q_t_steps, .ref q_t_glows, .ref q_t_lower, .ref q_t_upper, .ref q_t_line, .int t_lined, .ref q_t_text, .int t_length, .int t_at, .int t_order, .ref q_t_told, .ref q_t_why, .ref q_t_more, .int t_whys, .int t_answer])), (q_t_now, .inl (cI, 133, .inl t_now)), (q_t_why, .inl (cI, 4, .inl t_why)), (q_t_more, .inl (cI, 4, .inl t_more))] sz) [(q_t, .inr (8, [.ref q_t_now, .ref q_t_tried, .ref q_t_thought, .ref q_t_kept, .int t_undos, .ref q_t_saved, .int t_isSaved, .ref q_t_finds, .ref q_t_reach, .ref q_t_steps, .ref q_t_glows, .ref q_t_lower, .ref q_t_upper, .ref q_t_line, .int t_lined, .ref q_t_text, .int t_length, .int t_at, .int t_order, .ref q_t_told, .ref q_t_why, .ref q_t_more, .int o_t_whys, .int o_t_answer])), (q_t_now, .inl (cI, 133, .inl o_t_now)), (q_t_why, .inl (cI, 4, .inl o_t_why)), (q_t_more, .inl (cI, 4, .inl o_t_more))] t) (va_A [(q_t, .inr (8, [.ref q_t_now, .ref q_t_tried, .ref q_t_thought, .ref q_t_kept, .int t_undos, .ref q_t_saved, .int t_isSaved, .ref q_t_finds, .ref q_t_reach, .ref q_t_steps, .ref q_t_glows, .ref q_t_lower, .ref q_t_upper, .ref q_t_line, .int t_lined, .ref q_t_text, .int t_length, .int t_at, .int t_order, .ref q_t_told, .ref q_t_why, .ref q_t_more, .int t_whys, .int t_answer])), (q_t_now, .inl (cI, 133, .inl t_now)), (q_t_why, .inl (cI, 4, .inl t_why)), (q_t_more, .inl (cI, 4, .inl t_more))] sz)) 0 0 (va_A [(q_t, .inr (8, [.ref q_t_now, .ref q_t_tried, .ref q_t_thought, .ref q_t_kept, .int t_undos, .ref q_t_saved, .int t_isSaved, .ref q_t_finds, .ref q_t_reach, .ref q_t_steps, .ref q_t_glows, .ref q_t_lower, .ref q_t_upper, .ref q_t_line, .int t_lined, .ref q_t_text, .int t_length, .int t_at, .int t_order, .ref q_t_told, .ref q_t_why, .ref q_t_more, .int t_whys, .int t_answer])), (q_t_now, .inl (cI, 133, .inl t_now)), (q_t_why, .inl (cI, 4, .inl t_why)), (q_t_more, .inl (cI, 4, .inl t_more))] sz) := by
  refine jE_i (cc := cX10_hangs) (maxL := 5) (own := RX10) (ret := (some .int)) (lv0 := [(0, .ref q_t), (1, .int v1), (2, .int v2)]) (by decide) rfl rfl rfl (Nat.le_of_ble_eq_true rfl) rfl ?_
  intro p e s m args below meth c A Q ls hx hb hml hown hts hK hN hX hA hP hD hS hl hRet
  have hF : CallFix p m c cX10_hangs 5 s args wsX10_hangs RX10 := ⟨hx, hb, hml, hown, hts⟩
  have fl_9 := hts (.fieldLink RX10 9 "LanternLogicModel" "now" "[I") (by decide +kernel)
  have hin_X10 : ∀ w ∈ u_ws RX10 TX10 24, w ∈ wsX10_hangs := by decide +kernel
  have B19 : ∀ (t_whys : Int32) (t_answer : Int32) (t_now : Nat → Int32) (t_why : Nat → Int32) (t_more : Nat → Int32) (H : Heap) (locs : List Loc), va_P D vwCl [(q_t, .inr (8, [.ref q_t_now, .ref q_t_tried, .ref q_t_thought, .ref q_t_kept, .int t_undos, .ref q_t_saved, .int t_isSaved, .ref q_t_finds, .ref q_t_reach, .ref q_t_steps, .ref q_t_glows, .ref q_t_lower, .ref q_t_upper, .ref q_t_line, .int t_lined, .ref q_t_text, .int t_length, .int t_at, .int t_order, .ref q_t_told, .ref q_t_why, .ref q_t_more, .int t_whys, .int t_answer])), (q_t_now, .inl (cI, 133, .inl t_now)), (q_t_why, .inl (cI, 4, .inl t_why)), (q_t_more, .inl (cI, 4, .inl t_more))] H → va_D A [(q_t, .inr (8, [.ref q_t_now, .ref q_t_tried, .ref q_t_thought, .ref q_t_kept, .int t_undos, .ref q_t_saved, .int t_isSaved, .ref q_t_finds, .ref q_t_reach, .ref q_t_steps, .ref q_t_glows, .ref q_t_lower, .ref q_t_upper, .ref q_t_line, .int t_lined, .ref q_t_text, .int t_length, .int t_at, .int t_order, .ref q_t_told, .ref q_t_why, .ref q_t_more, .int t_whys, .int t_answer])), (q_t_now, .inl (cI, 133, .inl t_now)), (q_t_why, .inl (cI, 4, .inl t_why)), (q_t_more, .inl (cI, 4, .inl t_more))] → va_S A s.heap H locs → ∀ ls : Array Slot, lv_has ls 5 [] → J_X10_hangs_b19  v1 v2 t_whys t_answer t_now t_why t_more = some (r, o_t_whys, o_t_answer, o_t_now, o_t_why, o_t_more) → W p l e rmX10_hangs s m args below meth c H locs 0 0 Q (F0 m 19 ls []) := by
    intro t_whys t_answer t_now t_why t_more H locs hP hD hS ls hl hJ
    unfold J_X10_hangs_b19 at hJ
    refine lv_bipush (v := (-12 : Int32)) hx hb dX10_hangs_19 (by decide) ?_
    have hJ := Option.some.inj hJ
    obtain ⟨e0, e1, e2, e3, e4, e5⟩ : ((-12 : Int32)) = r ∧ (t_whys) = o_t_whys ∧ (t_answer) = o_t_answer ∧ (t_now) = o_t_now ∧ (t_why) = o_t_why ∧ (t_more) = o_t_more := ⟨congrArg (fun z => z.1) hJ, congrArg (fun z => z.2.1) hJ, congrArg (fun z => z.2.2.1) hJ, congrArg (fun z => z.2.2.2.1) hJ, congrArg (fun z => z.2.2.2.2.1) hJ, congrArg (fun z => z.2.2.2.2.2) hJ⟩
    exact hRet (by rw [← e1, ← e2, ← e3, ← e4, ← e5]; exact hP) (by rw [← e1, ← e2, ← e3, ← e4, ← e5]; exact hD) hS e0 dX10_hangs_21
  have L56 : ∀ (nf : Nat), ∀ (t_whys : Int32) (t_answer : Int32) (t_now : Nat → Int32) (t_why : Nat → Int32) (t_more : Nat → Int32) (v3 : Int32) (v4 : Int32) (H : Heap) (locs : List Loc), va_P D vwCl [(q_t, .inr (8, [.ref q_t_now, .ref q_t_tried, .ref q_t_thought, .ref q_t_kept, .int t_undos, .ref q_t_saved, .int t_isSaved, .ref q_t_finds, .ref q_t_reach, .ref q_t_steps, .ref q_t_glows, .ref q_t_lower, .ref q_t_upper, .ref q_t_line, .int t_lined, .ref q_t_text, .int t_length, .int t_at, .int t_order, .ref q_t_told, .ref q_t_why, .ref q_t_more, .int t_whys, .int t_answer])), (q_t_now, .inl (cI, 133, .inl t_now)), (q_t_why, .inl (cI, 4, .inl t_why)), (q_t_more, .inl (cI, 4, .inl t_more))] H → va_D A [(q_t, .inr (8, [.ref q_t_now, .ref q_t_tried, .ref q_t_thought, .ref q_t_kept, .int t_undos, .ref q_t_saved, .int t_isSaved, .ref q_t_finds, .ref q_t_reach, .ref q_t_steps, .ref q_t_glows, .ref q_t_lower, .ref q_t_upper, .ref q_t_line, .int t_lined, .ref q_t_text, .int t_length, .int t_at, .int t_order, .ref q_t_told, .ref q_t_why, .ref q_t_more, .int t_whys, .int t_answer])), (q_t_now, .inl (cI, 133, .inl t_now)), (q_t_why, .inl (cI, 4, .inl t_why)), (q_t_more, .inl (cI, 4, .inl t_more))] → va_S A s.heap H locs → ∀ ls : Array Slot, lv_has ls 5 [(0, .ref q_t), (1, .int v1), (2, .int v2), (3, .int v3), (4, .int v4)] → J_X10_hangs_L56  v1 v2 nf t_whys t_answer t_now t_why t_more v3 v4 = some (r, o_t_whys, o_t_answer, o_t_now, o_t_why, o_t_more) → W p l e rmX10_hangs s m args below meth c H locs 0 0 Q (F0 m 56 ls []) := by
    intro nf
    induction nf with
    | zero =>
      intro t_whys t_answer t_now t_why t_more v3 v4 H locs hP hD hS ls hl hJ
      rw [J_X10_hangs_L56] at hJ
      cases hJ
    | succ nf ih =>
      intro t_whys t_answer t_now t_why t_more v3 v4 H locs hP hD hS ls hl hJ
      rw [J_X10_hangs_L56] at hJ
      refine lv_iload hx hb dX10_hangs_56 (lv_at hl 4 rfl) ?_
      refine lv_bipush (v := (8 : Int32)) hx hb dX10_hangs_58 (by decide) ?_
      refine jif_icmp_ge (tgt := 77) hx hb dX10_hangs_60 (by decide) hJ (fun hJ => ?_) (fun hJ => ?_)
      · refine lv_aload_n hx hb dX10_hangs_77 rfl (lv_at hl 0 rfl) ?_
        refine lv_iload_n hx hb dX10_hangs_78 rfl (lv_at hl 3 rfl) ?_
        refine lv_iconst (v := (0 : Int32)) hx hb dX10_hangs_79 (by decide) ?_
        refine lv_iload_n hx hb dX10_hangs_80 rfl (lv_at hl 1 rfl) ?_
        obtain ⟨t_now_81, hc81, hJ⟩ := bnd1_some hJ
        refine jcV_v (C := RX10) (T := TX10) (N := 24) (ci := 8) (q0 := 0) (As := [.int v3, .int (0 : Int32), .int v1]) (rest := []) (isC := [0, 1]) (isR := [2, 3]) (isB := [2, 3, 0, 1]) (wr := [(q_t_why, .inl (cI, 4, .inl t_why)), (q_t_more, .inl (cI, 4, .inl t_more))]) (ws2 := [(q_t, .inr (8, [.ref q_t_now, .ref q_t_tried, .ref q_t_thought, .ref q_t_kept, .int t_undos, .ref q_t_saved, .int t_isSaved, .ref q_t_finds, .ref q_t_reach, .ref q_t_steps, .ref q_t_glows, .ref q_t_lower, .ref q_t_upper, .ref q_t_line, .int t_lined, .ref q_t_text, .int t_length, .int t_at, .int t_order, .ref q_t_told, .ref q_t_why, .ref q_t_more, .int t_whys, .int t_answer])), (q_t_now, .inl (cI, 133, .inl t_now_81)), (q_t_why, .inl (cI, 4, .inl t_why)), (q_t_more, .inl (cI, 4, .inl t_more))]) hF (c_X10_sets l D cI cJ cC cL q_t q_t_now q_t_tried q_t_thought q_t_kept q_t_saved q_t_finds q_t_reach q_t_steps q_t_glows q_t_lower q_t_upper q_t_line q_t_text q_t_told q_t_why q_t_more t_undos t_isSaved t_lined t_length t_at t_order t_whys t_answer t_now v3 (0 : Int32) v1 t_now_81 hc81 H.size) (cwV 3 hts gX10_hangs_X10_sets rfl rfl rfl (by decide +kernel) ⟨Nat.le_of_ble_eq_true rfl, Nat.le_of_ble_eq_true rfl⟩) rfl hl rfl (Nat.le_of_ble_eq_true rfl) dX10_hangs_81 ⟨Nat.zero_le _, Nat.zero_le _⟩ hK hN KX_T trivial hP hD hS hA rfl rfl rfl rfl rfl rfl (by decide) rfl rfl (fun H locs hP hD hS => ?_)
        refine lv_aload_n hx hb dX10_hangs_84 rfl (lv_at hl 0 rfl) ?_
        refine lv_iload_n hx hb dX10_hangs_85 rfl (lv_at hl 3 rfl) ?_
        refine lv_iconst (v := (1 : Int32)) hx hb dX10_hangs_86 (by decide) ?_
        refine lv_iload_n hx hb dX10_hangs_87 rfl (lv_at hl 2 rfl) ?_
        obtain ⟨t_now_88, hc88, hJ⟩ := bnd1_some hJ
        refine jcV_v (C := RX10) (T := TX10) (N := 24) (ci := 8) (q0 := 0) (As := [.int v3, .int (1 : Int32), .int v2]) (rest := []) (isC := [0, 1]) (isR := [2, 3]) (isB := [2, 3, 0, 1]) (wr := [(q_t_why, .inl (cI, 4, .inl t_why)), (q_t_more, .inl (cI, 4, .inl t_more))]) (ws2 := [(q_t, .inr (8, [.ref q_t_now, .ref q_t_tried, .ref q_t_thought, .ref q_t_kept, .int t_undos, .ref q_t_saved, .int t_isSaved, .ref q_t_finds, .ref q_t_reach, .ref q_t_steps, .ref q_t_glows, .ref q_t_lower, .ref q_t_upper, .ref q_t_line, .int t_lined, .ref q_t_text, .int t_length, .int t_at, .int t_order, .ref q_t_told, .ref q_t_why, .ref q_t_more, .int t_whys, .int t_answer])), (q_t_now, .inl (cI, 133, .inl t_now_88)), (q_t_why, .inl (cI, 4, .inl t_why)), (q_t_more, .inl (cI, 4, .inl t_more))]) hF (c_X10_sets l D cI cJ cC cL q_t q_t_now q_t_tried q_t_thought q_t_kept q_t_saved q_t_finds q_t_reach q_t_steps q_t_glows q_t_lower q_t_upper q_t_line q_t_text q_t_told q_t_why q_t_more t_undos t_isSaved t_lined t_length t_at t_order t_whys t_answer t_now_81 v3 (1 : Int32) v2 t_now_88 hc88 H.size) (cwV 3 hts gX10_hangs_X10_sets rfl rfl rfl (by decide +kernel) ⟨Nat.le_of_ble_eq_true rfl, Nat.le_of_ble_eq_true rfl⟩) rfl hl rfl (Nat.le_of_ble_eq_true rfl) dX10_hangs_88 ⟨Nat.zero_le _, Nat.zero_le _⟩ hK hN KX_T trivial hP hD hS hA rfl rfl rfl rfl rfl rfl (by decide) rfl rfl (fun H locs hP hD hS => ?_)
        refine lv_aload_n hx hb dX10_hangs_91 rfl (lv_at hl 0 rfl) ?_
        refine lv_iload_n hx hb dX10_hangs_92 rfl (lv_at hl 3 rfl) ?_
        obtain ⟨x93, t_answer_93, hc93, hJ⟩ := bnd2_some hJ
        refine jcV_i (C := RX10) (T := TX10) (N := 24) (ci := 8) (q0 := 0) (As := [.int v3]) (rest := []) (isC := [0]) (isR := [1, 2, 3]) (isB := [3, 0, 1, 2]) (wr := [(q_t_now, .inl (cI, 133, .inl t_now_88)), (q_t_why, .inl (cI, 4, .inl t_why)), (q_t_more, .inl (cI, 4, .inl t_more))]) (ws2 := [(q_t, .inr (8, [.ref q_t_now, .ref q_t_tried, .ref q_t_thought, .ref q_t_kept, .int t_undos, .ref q_t_saved, .int t_isSaved, .ref q_t_finds, .ref q_t_reach, .ref q_t_steps, .ref q_t_glows, .ref q_t_lower, .ref q_t_upper, .ref q_t_line, .int t_lined, .ref q_t_text, .int t_length, .int t_at, .int t_order, .ref q_t_told, .ref q_t_why, .ref q_t_more, .int t_whys, .int t_answer_93])), (q_t_now, .inl (cI, 133, .inl t_now_88)), (q_t_why, .inl (cI, 4, .inl t_why)), (q_t_more, .inl (cI, 4, .inl t_more))]) hF (c_X10_does l D cI cJ cC cL q_t q_t_now q_t_tried q_t_thought q_t_kept q_t_saved q_t_finds q_t_reach q_t_steps q_t_glows q_t_lower q_t_upper q_t_line q_t_text q_t_told q_t_why q_t_more t_undos t_isSaved t_lined t_length t_at t_order t_whys t_answer v3 x93 t_answer_93 hc93 H.size) (cwV 1 hts gX10_hangs_X10_does rfl rfl rfl (by decide +kernel) ⟨Nat.le_of_ble_eq_true rfl, Nat.le_of_ble_eq_true rfl⟩) rfl hl rfl (Nat.le_of_ble_eq_true rfl) dX10_hangs_93 ⟨Nat.zero_le _, Nat.zero_le _⟩ hK hN KX_T trivial hP hD hS hA rfl rfl rfl rfl rfl rfl (by decide) rfl rfl (fun H locs hP hD hS => ?_)
        have hJ := Option.some.inj hJ
        obtain ⟨e0, e1, e2, e3, e4, e5⟩ : (x93) = r ∧ (t_whys) = o_t_whys ∧ (t_answer_93) = o_t_answer ∧ (t_now_88) = o_t_now ∧ (t_why) = o_t_why ∧ (t_more) = o_t_more := ⟨congrArg (fun z => z.1) hJ, congrArg (fun z => z.2.1) hJ, congrArg (fun z => z.2.2.1) hJ, congrArg (fun z => z.2.2.2.1) hJ, congrArg (fun z => z.2.2.2.2.1) hJ, congrArg (fun z => z.2.2.2.2.2) hJ⟩
        exact hRet (by rw [← e1, ← e2, ← e3, ← e4, ← e5]; exact hP) (by rw [← e1, ← e2, ← e3, ← e4, ← e5]; exact hD) hS e0 dX10_hangs_96
      · refine lv_aload_n hx hb dX10_hangs_63 rfl (lv_at hl 0 rfl) ?_
        refine lv_iload_n hx hb dX10_hangs_64 rfl (lv_at hl 3 rfl) ?_
        refine lv_iload hx hb dX10_hangs_65 (lv_at hl 4 rfl) ?_
        refine lv_iconst (v := (0 : Int32)) hx hb dX10_hangs_67 (by decide) ?_
        obtain ⟨t_now_68, hc68, hJ⟩ := bnd1_some hJ
        refine jcV_v (C := RX10) (T := TX10) (N := 24) (ci := 8) (q0 := 0) (As := [.int v3, .int v4, .int (0 : Int32)]) (rest := []) (isC := [0, 1]) (isR := [2, 3]) (isB := [2, 3, 0, 1]) (wr := [(q_t_why, .inl (cI, 4, .inl t_why)), (q_t_more, .inl (cI, 4, .inl t_more))]) (ws2 := [(q_t, .inr (8, [.ref q_t_now, .ref q_t_tried, .ref q_t_thought, .ref q_t_kept, .int t_undos, .ref q_t_saved, .int t_isSaved, .ref q_t_finds, .ref q_t_reach, .ref q_t_steps, .ref q_t_glows, .ref q_t_lower, .ref q_t_upper, .ref q_t_line, .int t_lined, .ref q_t_text, .int t_length, .int t_at, .int t_order, .ref q_t_told, .ref q_t_why, .ref q_t_more, .int t_whys, .int t_answer])), (q_t_now, .inl (cI, 133, .inl t_now_68)), (q_t_why, .inl (cI, 4, .inl t_why)), (q_t_more, .inl (cI, 4, .inl t_more))]) hF (c_X10_sets l D cI cJ cC cL q_t q_t_now q_t_tried q_t_thought q_t_kept q_t_saved q_t_finds q_t_reach q_t_steps q_t_glows q_t_lower q_t_upper q_t_line q_t_text q_t_told q_t_why q_t_more t_undos t_isSaved t_lined t_length t_at t_order t_whys t_answer t_now v3 v4 (0 : Int32) t_now_68 hc68 H.size) (cwV 3 hts gX10_hangs_X10_sets rfl rfl rfl (by decide +kernel) ⟨Nat.le_of_ble_eq_true rfl, Nat.le_of_ble_eq_true rfl⟩) rfl hl rfl (Nat.le_of_ble_eq_true rfl) dX10_hangs_68 ⟨Nat.zero_le _, Nat.zero_le _⟩ hK hN KX_T trivial hP hD hS hA rfl rfl rfl rfl rfl rfl (by decide) rfl rfl (fun H locs hP hD hS => ?_)
        refine jt_iinc hJ (fun x71 ex71 hJ => ?_)
        refine lv_iinc (v := x71) (lv' := [(4, .int x71), (0, .ref q_t), (1, .int v1), (2, .int v2), (3, .int v3)]) hx hb dX10_hangs_71 hl (k := 4) rfl ex71 (by decide) rfl (fun ls hl => ?_)
        refine lv_goto (tgt := 56) hx hb dX10_hangs_74 (by decide) ?_
        exact ih t_whys t_answer t_now_68 t_why t_more v3 x71  H locs  hP hD hS _ (lv_sub hl [1, 2, 3, 4, 0] rfl) hJ
  unfold J_X10_hangs at hJ
  refine lv_iload_n hx hb dX10_hangs_0 rfl (lv_at hl 1 rfl) ?_
  refine lv_iconst (v := (0 : Int32)) hx hb dX10_hangs_1 (by decide) ?_
  refine lv_bipush (v := (6 : Int32)) hx hb dX10_hangs_2 (by decide) ?_
  obtain ⟨x4, hc4, hJ⟩ := bnd1_some hJ
  refine jcS_i (As := [.int v1, .int (0 : Int32), .int (6 : Int32)]) (rest := []) (isC := []) (isR := [0, 1, 2, 3]) (isB := [0, 1, 2, 3]) (wr := [(q_t, .inr (8, [.ref q_t_now, .ref q_t_tried, .ref q_t_thought, .ref q_t_kept, .int t_undos, .ref q_t_saved, .int t_isSaved, .ref q_t_finds, .ref q_t_reach, .ref q_t_steps, .ref q_t_glows, .ref q_t_lower, .ref q_t_upper, .ref q_t_line, .int t_lined, .ref q_t_text, .int t_length, .int t_at, .int t_order, .ref q_t_told, .ref q_t_why, .ref q_t_more, .int t_whys, .int t_answer])), (q_t_now, .inl (cI, 133, .inl t_now)), (q_t_why, .inl (cI, 4, .inl t_why)), (q_t_more, .inl (cI, 4, .inl t_more))]) (ws2 := [(q_t, .inr (8, [.ref q_t_now, .ref q_t_tried, .ref q_t_thought, .ref q_t_kept, .int t_undos, .ref q_t_saved, .int t_isSaved, .ref q_t_finds, .ref q_t_reach, .ref q_t_steps, .ref q_t_glows, .ref q_t_lower, .ref q_t_upper, .ref q_t_line, .int t_lined, .ref q_t_text, .int t_length, .int t_at, .int t_order, .ref q_t_told, .ref q_t_why, .ref q_t_more, .int t_whys, .int t_answer])), (q_t_now, .inl (cI, 133, .inl t_now)), (q_t_why, .inl (cI, 4, .inl t_why)), (q_t_more, .inl (cI, 4, .inl t_more))]) hF (c_X10_in l D cI cJ cC cL v1 (0 : Int32) (6 : Int32) x4 hc4 s.heap.size) (va_cwS 3 hts gX10_hangs_X10_in rfl rfl rfl (by decide +kernel) ⟨Nat.le_of_ble_eq_true rfl, Nat.le_of_ble_eq_true rfl⟩) rfl hl rfl (Nat.le_of_ble_eq_true rfl) dX10_hangs_4 ⟨Nat.zero_le _, Nat.zero_le _⟩ hK hN KX_T trivial hP hD hS hA rfl rfl rfl rfl (by decide) rfl rfl (fun H locs hP hD hS => ?_)
  refine jif_eq (tgt := 19) hx hb dX10_hangs_7 (by decide) hJ (fun hJ => ?_) (fun hJ => ?_)
  · exact B19  t_whys t_answer t_now t_why t_more  H locs  hP hD hS _ (lv_sub hl [] rfl) hJ
  · refine lv_iload_n hx hb dX10_hangs_10 rfl (lv_at hl 2 rfl) ?_
    refine lv_iconst (v := (1 : Int32)) hx hb dX10_hangs_11 (by decide) ?_
    refine lv_iconst (v := (4 : Int32)) hx hb dX10_hangs_12 (by decide) ?_
    obtain ⟨x13, hc13, hJ⟩ := bnd1_some hJ
    refine jcS_i (As := [.int v2, .int (1 : Int32), .int (4 : Int32)]) (rest := []) (isC := []) (isR := [0, 1, 2, 3]) (isB := [0, 1, 2, 3]) (wr := [(q_t, .inr (8, [.ref q_t_now, .ref q_t_tried, .ref q_t_thought, .ref q_t_kept, .int t_undos, .ref q_t_saved, .int t_isSaved, .ref q_t_finds, .ref q_t_reach, .ref q_t_steps, .ref q_t_glows, .ref q_t_lower, .ref q_t_upper, .ref q_t_line, .int t_lined, .ref q_t_text, .int t_length, .int t_at, .int t_order, .ref q_t_told, .ref q_t_why, .ref q_t_more, .int t_whys, .int t_answer])), (q_t_now, .inl (cI, 133, .inl t_now)), (q_t_why, .inl (cI, 4, .inl t_why)), (q_t_more, .inl (cI, 4, .inl t_more))]) (ws2 := [(q_t, .inr (8, [.ref q_t_now, .ref q_t_tried, .ref q_t_thought, .ref q_t_kept, .int t_undos, .ref q_t_saved, .int t_isSaved, .ref q_t_finds, .ref q_t_reach, .ref q_t_steps, .ref q_t_glows, .ref q_t_lower, .ref q_t_upper, .ref q_t_line, .int t_lined, .ref q_t_text, .int t_length, .int t_at, .int t_order, .ref q_t_told, .ref q_t_why, .ref q_t_more, .int t_whys, .int t_answer])), (q_t_now, .inl (cI, 133, .inl t_now)), (q_t_why, .inl (cI, 4, .inl t_why)), (q_t_more, .inl (cI, 4, .inl t_more))]) hF (c_X10_in l D cI cJ cC cL v2 (1 : Int32) (4 : Int32) x13 hc13 H.size) (va_cwS 3 hts gX10_hangs_X10_in rfl rfl rfl (by decide +kernel) ⟨Nat.le_of_ble_eq_true rfl, Nat.le_of_ble_eq_true rfl⟩) rfl hl rfl (Nat.le_of_ble_eq_true rfl) dX10_hangs_13 ⟨Nat.zero_le _, Nat.zero_le _⟩ hK hN KX_T trivial hP hD hS hA rfl rfl rfl rfl (by decide) rfl rfl (fun H locs hP hD hS => ?_)
    refine jif_ne (tgt := 22) hx hb dX10_hangs_16 (by decide) hJ (fun hJ => ?_) (fun hJ => ?_)
    · refine lv_aload_n hx hb dX10_hangs_22 rfl (lv_at hl 0 rfl) ?_
      refine va_get (ci := 8) (v := .ref q_t_now) (C := RX10) (T := TX10) (N := 24) hx hb hts hin_X10 hown hK hP 0 rfl rfl 0 (by decide) fl_9 (fun _ h9 => h9) rfl dX10_hangs_23 ?_
      refine lv_iconst (v := (0 : Int32)) hx hb dX10_hangs_26 (by decide) ?_
      obtain ⟨hin, hJ⟩ := chk_in hJ
      refine va_iald hx hb hK hP 1 0 rfl rfl hin dX10_hangs_27 ?_
      refine jt_i hJ (fun x27 hJ => ?_)
      refine lv_istore_n (lv' := [(3, .int x27), (0, .ref q_t), (1, .int v1), (2, .int v2)]) hx hb dX10_hangs_28 rfl hl (by decide) rfl (fun ls hl => ?_)
      refine lv_iload_n hx hb dX10_hangs_29 rfl (lv_at hl 0 rfl) ?_
      refine lv_bipush (v := (16 : Int32)) hx hb dX10_hangs_30 (by decide) ?_
      refine jif_icmp_ne (tgt := 43) hx hb dX10_hangs_32 (by decide) hJ (fun hJ => ?_) (fun hJ => ?_)
      · refine lv_aload_n hx hb dX10_hangs_43 rfl (lv_at hl 1 rfl) ?_
        refine va_get (ci := 8) (v := .ref q_t_now) (C := RX10) (T := TX10) (N := 24) hx hb hts hin_X10 hown hK hP 0 rfl rfl 0 (by decide) fl_9 (fun _ h9 => h9) rfl dX10_hangs_44 ?_
        refine lv_iconst (v := (0 : Int32)) hx hb dX10_hangs_47 (by decide) ?_
        refine lv_dup2_11 hx hb dX10_hangs_48 rfl rfl ?_
        obtain ⟨hin, hJ⟩ := chk_in hJ
        refine va_iald hx hb hK hP 1 0 rfl rfl hin dX10_hangs_49 ?_
        refine jt_i hJ (fun x49 hJ => ?_)
        refine lv_iconst (v := (1 : Int32)) hx hb dX10_hangs_50 (by decide) ?_
        refine lv_iadd hx hb dX10_hangs_51 ?_
        refine jt_i hJ (fun x51 hJ => ?_)
        obtain ⟨hin, hJ⟩ := chk_in hJ
        refine va_iast hx hb hK hP hD hS 1 0 rfl rfl hin dX10_hangs_52 (fun H locs hP hD hS => ?_)
        have hP : va_P D vwCl [(q_t, .inr (8, [.ref q_t_now, .ref q_t_tried, .ref q_t_thought, .ref q_t_kept, .int t_undos, .ref q_t_saved, .int t_isSaved, .ref q_t_finds, .ref q_t_reach, .ref q_t_steps, .ref q_t_glows, .ref q_t_lower, .ref q_t_upper, .ref q_t_line, .int t_lined, .ref q_t_text, .int t_length, .int t_at, .int t_order, .ref q_t_told, .ref q_t_why, .ref q_t_more, .int t_whys, .int t_answer])), (q_t_now, .inl (cI, 133, .inl (upd t_now (0 : Int32).toNatClampNeg x51))), (q_t_why, .inl (cI, 4, .inl t_why)), (q_t_more, .inl (cI, 4, .inl t_more))] H := hP
        have hD : va_D A [(q_t, .inr (8, [.ref q_t_now, .ref q_t_tried, .ref q_t_thought, .ref q_t_kept, .int t_undos, .ref q_t_saved, .int t_isSaved, .ref q_t_finds, .ref q_t_reach, .ref q_t_steps, .ref q_t_glows, .ref q_t_lower, .ref q_t_upper, .ref q_t_line, .int t_lined, .ref q_t_text, .int t_length, .int t_at, .int t_order, .ref q_t_told, .ref q_t_why, .ref q_t_more, .int t_whys, .int t_answer])), (q_t_now, .inl (cI, 133, .inl (upd t_now (0 : Int32).toNatClampNeg x51))), (q_t_why, .inl (cI, 4, .inl t_why)), (q_t_more, .inl (cI, 4, .inl t_more))] := hD
        refine lv_iconst (v := (0 : Int32)) hx hb dX10_hangs_53 (by decide) ?_
        refine lv_istore (lv' := [(4, .int (0 : Int32)), (3, .int x27), (0, .ref q_t), (1, .int v1), (2, .int v2)]) hx hb dX10_hangs_54 hl (by decide) rfl (fun ls hl => ?_)
        exact L56  FU t_whys t_answer (upd t_now (0 : Int32).toNatClampNeg x51) t_why t_more x27 (0 : Int32)  H locs  hP hD hS _ (lv_sub hl [2, 3, 4, 1, 0] rfl) hJ
      · refine lv_aload_n hx hb dX10_hangs_35 rfl (lv_at hl 1 rfl) ?_
        refine lv_iconst (v := (1 : Int32)) hx hb dX10_hangs_36 (by decide) ?_
        refine lv_bipush (v := (16 : Int32)) hx hb dX10_hangs_37 (by decide) ?_
        obtain ⟨x39, t_whys_39, t_why_39, t_more_39, hc39, hJ⟩ := bnd4_some hJ
        refine jcV_i (C := RX10) (T := TX10) (N := 24) (ci := 8) (q0 := 0) (As := [.int (1 : Int32), .int (16 : Int32)]) (rest := []) (isC := [0, 2, 3]) (isR := [1]) (isB := [1, 0, 2, 3]) (wr := [(q_t_now, .inl (cI, 133, .inl t_now))]) (ws2 := [(q_t, .inr (8, [.ref q_t_now, .ref q_t_tried, .ref q_t_thought, .ref q_t_kept, .int t_undos, .ref q_t_saved, .int t_isSaved, .ref q_t_finds, .ref q_t_reach, .ref q_t_steps, .ref q_t_glows, .ref q_t_lower, .ref q_t_upper, .ref q_t_line, .int t_lined, .ref q_t_text, .int t_length, .int t_at, .int t_order, .ref q_t_told, .ref q_t_why, .ref q_t_more, .int t_whys_39, .int t_answer])), (q_t_now, .inl (cI, 133, .inl t_now)), (q_t_why, .inl (cI, 4, .inl t_why_39)), (q_t_more, .inl (cI, 4, .inl t_more_39))]) hF (c_X10_refuses l D cI cJ cC cL q_t q_t_now q_t_tried q_t_thought q_t_kept q_t_saved q_t_finds q_t_reach q_t_steps q_t_glows q_t_lower q_t_upper q_t_line q_t_text q_t_told q_t_why q_t_more t_undos t_isSaved t_lined t_length t_at t_order t_whys t_answer t_why t_more (1 : Int32) (16 : Int32) x39 t_whys_39 t_why_39 t_more_39 hc39 H.size) (cwV 2 hts gX10_hangs_X10_refuses rfl rfl rfl (by decide +kernel) ⟨Nat.le_of_ble_eq_true rfl, Nat.le_of_ble_eq_true rfl⟩) rfl hl rfl (Nat.le_of_ble_eq_true rfl) dX10_hangs_39 ⟨Nat.zero_le _, Nat.zero_le _⟩ hK hN KX_T trivial hP hD hS hA rfl rfl rfl rfl rfl rfl (by decide) rfl rfl (fun H locs hP hD hS => ?_)
        have hJ := Option.some.inj hJ
        obtain ⟨e0, e1, e2, e3, e4, e5⟩ : (x39) = r ∧ (t_whys_39) = o_t_whys ∧ (t_answer) = o_t_answer ∧ (t_now) = o_t_now ∧ (t_why_39) = o_t_why ∧ (t_more_39) = o_t_more := ⟨congrArg (fun z => z.1) hJ, congrArg (fun z => z.2.1) hJ, congrArg (fun z => z.2.2.1) hJ, congrArg (fun z => z.2.2.2.1) hJ, congrArg (fun z => z.2.2.2.2.1) hJ, congrArg (fun z => z.2.2.2.2.2) hJ⟩
        exact hRet (by rw [← e1, ← e2, ← e3, ← e4, ← e5]; exact hP) (by rw [← e1, ← e2, ← e3, ← e4, ← e5]; exact hD) hS e0 dX10_hangs_42
    · exact B19  t_whys t_answer t_now t_why t_more  H locs  hP hD hS _ (lv_sub hl [] rfl) hJ

def J_X10_hang (t_undos : Int32) (t_whys : Int32) (t_answer : Int32) (t_now : Nat → Int32) (t_tried : Nat → Int32) (t_kept : Nat → Int32) (t_why : Nat → Int32) (t_more : Nat → Int32) (v1 : Int32) (v2 : Int32) : Option (Int32 × Int32 × Int32 × Int32 × (Nat → Int32) × (Nat → Int32) × (Nat → Int32) × (Nat → Int32) × (Nat → Int32)) :=
    bnd1 (J_X10_tries t_now t_tried) fun t_tried_1 =>
    bnd6 (J_X10_hangs t_whys t_answer t_now t_why t_more v1 v2) fun x8 t_whys_8 t_answer_8 t_now_8 t_why_8 t_more_8 =>
    bnd3 (J_X10_ends t_undos t_answer_8 t_tried_1 t_kept x8) fun x11 t_undos_11 t_kept_11 =>
    some (x11, t_undos_11, t_whys_8, t_answer_8, t_now_8, t_tried_1, t_kept_11, t_why_8, t_more_8)
abbrev rmX10_hang : Room := { frames := 2, cells := 0, slots := 0, locals := 47 }
set_option maxHeartbeats 4000000 in
set_option maxRecDepth 100000 in
theorem c_X10_hang (l : Launch) (D : va_G) (cI cJ cC cL : ClassId) (q_t q_t_now q_t_tried q_t_thought q_t_kept q_t_saved q_t_finds q_t_reach q_t_steps q_t_glows q_t_lower q_t_upper q_t_line q_t_text q_t_told q_t_why q_t_more : Nat) (t_undos : Int32) (t_isSaved : Int32) (t_lined : Int32) (t_length : Int32) (t_at : Int32) (t_order : Int32) (t_whys : Int32) (t_answer : Int32) (t_now : Nat → Int32) (t_tried : Nat → Int32) (t_kept : Nat → Int32) (t_why : Nat → Int32) (t_more : Nat → Int32) (v1 : Int32) (v2 : Int32) (r : Int32) (o_t_undos : Int32) (o_t_whys : Int32) (o_t_answer : Int32) (o_t_now : Nat → Int32) (o_t_tried : Nat → Int32) (o_t_kept : Nat → Int32) (o_t_why : Nat → Int32) (o_t_more : Nat → Int32) (hJ : J_X10_hang t_undos t_whys t_answer t_now t_tried t_kept t_why t_more v1 v2 = some (r, o_t_undos, o_t_whys, o_t_answer, o_t_now, o_t_tried, o_t_kept, o_t_why, o_t_more)) (sz : Nat) : Met l yX10_hang wsX10_hang rmX10_hang (va_Pc [.ref q_t, .int v1, .int v2] (jpre XT D (tyL cI cJ cC cL) [(q_t, .inr (8, [.ref q_t_now, .ref q_t_tried, .ref q_t_thought, .ref q_t_kept, .int t_undos, .ref q_t_saved, .int t_isSaved, .ref q_t_finds, .ref q_t_reach, .ref q_t_steps, .ref q_t_glows, .ref q_t_lower, .ref q_t_upper, .ref q_t_line, .int t_lined, .ref q_t_text, .int t_length, .int t_at, .int t_order, .ref q_t_told, .ref q_t_why, .ref q_t_more, .int t_whys, .int t_answer])), (q_t_now, .inl (cI, 133, .inl t_now)), (q_t_tried, .inl (cI, 133, .inl t_tried)), (q_t_kept, .inl (cI, 1064, .inl t_kept)), (q_t_why, .inl (cI, 4, .inl t_why)), (q_t_more, .inl (cI, 4, .inl t_more))] sz)) (va_Qi (fun r' (_ : Unit) => r' = r) (fun _ t => jpost D (tyL cI cJ cC cL) (va_A [(q_t, .inr (8, [.ref q_t_now, .ref q_t_tried, .ref q_t_thought, .ref q_t_kept, .int t_undos, .ref q_t_saved, .int t_isSaved, .ref q_t_finds, .ref q_t_reach, .ref q_t_steps, .ref q_t_glows, .ref q_t_lower, .ref q_t_upper, .ref q_t_line, .int t_lined, .ref q_t_text, .int t_length, .int t_at, .int t_order, .ref q_t_told, .ref q_t_why, .ref q_t_more, .int t_whys, .int t_answer])), (q_t_now, .inl (cI, 133, .inl t_now)), (q_t_tried, .inl (cI, 133, .inl t_tried)), (q_t_kept, .inl (cI, 1064, .inl t_kept)), (q_t_why, .inl (cI, 4, .inl t_why)), (q_t_more, .inl (cI, 4, .inl t_more))] sz) [(q_t, .inr (8, [.ref q_t_now, .ref q_t_tried, .ref q_t_thought, .ref q_t_kept, .int o_t_undos, .ref q_t_saved, .int t_isSaved, .ref q_t_finds, .ref q_t_reach, .ref q_t_steps, .ref q_t_glows, .ref q_t_lower, .ref q_t_upper, .ref q_t_line, .int t_lined, .ref q_t_text, .int t_length, .int t_at, .int t_order, .ref q_t_told, .ref q_t_why, .ref q_t_more, .int o_t_whys, .int o_t_answer])), (q_t_now, .inl (cI, 133, .inl o_t_now)), (q_t_tried, .inl (cI, 133, .inl o_t_tried)), (q_t_kept, .inl (cI, 1064, .inl o_t_kept)), (q_t_why, .inl (cI, 4, .inl o_t_why)), (q_t_more, .inl (cI, 4, .inl o_t_more))] t) (va_A [(q_t, .inr (8, [.ref q_t_now, .ref q_t_tried, .ref q_t_thought, .ref q_t_kept, .int t_undos, .ref q_t_saved, .int t_isSaved, .ref q_t_finds, .ref q_t_reach, .ref q_t_steps, .ref q_t_glows, .ref q_t_lower, .ref q_t_upper, .ref q_t_line, .int t_lined, .ref q_t_text, .int t_length, .int t_at, .int t_order, .ref q_t_told, .ref q_t_why, .ref q_t_more, .int t_whys, .int t_answer])), (q_t_now, .inl (cI, 133, .inl t_now)), (q_t_tried, .inl (cI, 133, .inl t_tried)), (q_t_kept, .inl (cI, 1064, .inl t_kept)), (q_t_why, .inl (cI, 4, .inl t_why)), (q_t_more, .inl (cI, 4, .inl t_more))] sz)) 0 0 (va_A [(q_t, .inr (8, [.ref q_t_now, .ref q_t_tried, .ref q_t_thought, .ref q_t_kept, .int t_undos, .ref q_t_saved, .int t_isSaved, .ref q_t_finds, .ref q_t_reach, .ref q_t_steps, .ref q_t_glows, .ref q_t_lower, .ref q_t_upper, .ref q_t_line, .int t_lined, .ref q_t_text, .int t_length, .int t_at, .int t_order, .ref q_t_told, .ref q_t_why, .ref q_t_more, .int t_whys, .int t_answer])), (q_t_now, .inl (cI, 133, .inl t_now)), (q_t_tried, .inl (cI, 133, .inl t_tried)), (q_t_kept, .inl (cI, 1064, .inl t_kept)), (q_t_why, .inl (cI, 4, .inl t_why)), (q_t_more, .inl (cI, 4, .inl t_more))] sz) := by
  refine jE_i (cc := cX10_hang) (maxL := 3) (own := RX10) (ret := (some .int)) (lv0 := [(0, .ref q_t), (1, .int v1), (2, .int v2)]) (by decide) rfl rfl rfl (Nat.le_of_ble_eq_true rfl) rfl ?_
  intro p e s m args below meth c A Q ls hx hb hml hown hts hK hN hX hA hP hD hS hl hRet
  have hF : CallFix p m c cX10_hang 3 s args wsX10_hang RX10 := ⟨hx, hb, hml, hown, hts⟩
  unfold J_X10_hang at hJ
  refine lv_aload_n hx hb dX10_hang_0 rfl (lv_at hl 0 rfl) ?_
  obtain ⟨t_tried_1, hc1, hJ⟩ := bnd1_some hJ
  refine jcV_v (C := RX10) (T := TX10) (N := 24) (ci := 8) (q0 := 0) (As := []) (rest := []) (isC := [0, 1, 2]) (isR := [3, 4, 5]) (isB := [3, 4, 5, 0, 1, 2]) (wr := [(q_t_kept, .inl (cI, 1064, .inl t_kept)), (q_t_why, .inl (cI, 4, .inl t_why)), (q_t_more, .inl (cI, 4, .inl t_more))]) (ws2 := [(q_t, .inr (8, [.ref q_t_now, .ref q_t_tried, .ref q_t_thought, .ref q_t_kept, .int t_undos, .ref q_t_saved, .int t_isSaved, .ref q_t_finds, .ref q_t_reach, .ref q_t_steps, .ref q_t_glows, .ref q_t_lower, .ref q_t_upper, .ref q_t_line, .int t_lined, .ref q_t_text, .int t_length, .int t_at, .int t_order, .ref q_t_told, .ref q_t_why, .ref q_t_more, .int t_whys, .int t_answer])), (q_t_now, .inl (cI, 133, .inl t_now)), (q_t_tried, .inl (cI, 133, .inl t_tried_1)), (q_t_kept, .inl (cI, 1064, .inl t_kept)), (q_t_why, .inl (cI, 4, .inl t_why)), (q_t_more, .inl (cI, 4, .inl t_more))]) hF (c_X10_tries l D cI cJ cC cL q_t q_t_now q_t_tried q_t_thought q_t_kept q_t_saved q_t_finds q_t_reach q_t_steps q_t_glows q_t_lower q_t_upper q_t_line q_t_text q_t_told q_t_why q_t_more t_undos t_isSaved t_lined t_length t_at t_order t_whys t_answer t_now t_tried t_tried_1 hc1 s.heap.size) (cwV 0 hts gX10_hang_X10_tries rfl rfl rfl (by decide +kernel) ⟨Nat.le_of_ble_eq_true rfl, Nat.le_of_ble_eq_true rfl⟩) rfl hl rfl (Nat.le_of_ble_eq_true rfl) dX10_hang_1 ⟨Nat.zero_le _, Nat.zero_le _⟩ hK hN KX_T trivial hP hD hS hA rfl rfl rfl rfl rfl rfl (by decide) rfl rfl (fun H locs hP hD hS => ?_)
  refine lv_aload_n hx hb dX10_hang_4 rfl (lv_at hl 0 rfl) ?_
  refine lv_aload_n hx hb dX10_hang_5 rfl (lv_at hl 0 rfl) ?_
  refine lv_iload_n hx hb dX10_hang_6 rfl (lv_at hl 1 rfl) ?_
  refine lv_iload_n hx hb dX10_hang_7 rfl (lv_at hl 2 rfl) ?_
  obtain ⟨x8, t_whys_8, t_answer_8, t_now_8, t_why_8, t_more_8, hc8, hJ⟩ := bnd6_some hJ
  refine jcV_i (C := RX10) (T := TX10) (N := 24) (ci := 8) (q0 := 0) (As := [.int v1, .int v2]) (rest := [.ref q_t]) (isC := [0, 1, 4, 5]) (isR := [2, 3]) (isB := [2, 3, 0, 1, 4, 5]) (wr := [(q_t_tried, .inl (cI, 133, .inl t_tried_1)), (q_t_kept, .inl (cI, 1064, .inl t_kept))]) (ws2 := [(q_t, .inr (8, [.ref q_t_now, .ref q_t_tried, .ref q_t_thought, .ref q_t_kept, .int t_undos, .ref q_t_saved, .int t_isSaved, .ref q_t_finds, .ref q_t_reach, .ref q_t_steps, .ref q_t_glows, .ref q_t_lower, .ref q_t_upper, .ref q_t_line, .int t_lined, .ref q_t_text, .int t_length, .int t_at, .int t_order, .ref q_t_told, .ref q_t_why, .ref q_t_more, .int t_whys_8, .int t_answer_8])), (q_t_now, .inl (cI, 133, .inl t_now_8)), (q_t_tried, .inl (cI, 133, .inl t_tried_1)), (q_t_kept, .inl (cI, 1064, .inl t_kept)), (q_t_why, .inl (cI, 4, .inl t_why_8)), (q_t_more, .inl (cI, 4, .inl t_more_8))]) hF (c_X10_hangs l D cI cJ cC cL q_t q_t_now q_t_tried q_t_thought q_t_kept q_t_saved q_t_finds q_t_reach q_t_steps q_t_glows q_t_lower q_t_upper q_t_line q_t_text q_t_told q_t_why q_t_more t_undos t_isSaved t_lined t_length t_at t_order t_whys t_answer t_now t_why t_more v1 v2 x8 t_whys_8 t_answer_8 t_now_8 t_why_8 t_more_8 hc8 H.size) (cwV 2 hts gX10_hang_X10_hangs rfl rfl rfl (by decide +kernel) ⟨Nat.le_of_ble_eq_true rfl, Nat.le_of_ble_eq_true rfl⟩) rfl hl rfl (Nat.le_of_ble_eq_true rfl) dX10_hang_8 ⟨Nat.zero_le _, Nat.zero_le _⟩ hK hN KX_T trivial hP hD hS hA rfl rfl rfl rfl rfl rfl (by decide) rfl rfl (fun H locs hP hD hS => ?_)
  obtain ⟨x11, t_undos_11, t_kept_11, hc11, hJ⟩ := bnd3_some hJ
  refine jcV_i (C := RX10) (T := TX10) (N := 24) (ci := 8) (q0 := 0) (As := [.int x8]) (rest := []) (isC := [0, 2, 3]) (isR := [1, 4, 5]) (isB := [3, 0, 4, 5, 1, 2]) (wr := [(q_t_now, .inl (cI, 133, .inl t_now_8)), (q_t_why, .inl (cI, 4, .inl t_why_8)), (q_t_more, .inl (cI, 4, .inl t_more_8))]) (ws2 := [(q_t, .inr (8, [.ref q_t_now, .ref q_t_tried, .ref q_t_thought, .ref q_t_kept, .int t_undos_11, .ref q_t_saved, .int t_isSaved, .ref q_t_finds, .ref q_t_reach, .ref q_t_steps, .ref q_t_glows, .ref q_t_lower, .ref q_t_upper, .ref q_t_line, .int t_lined, .ref q_t_text, .int t_length, .int t_at, .int t_order, .ref q_t_told, .ref q_t_why, .ref q_t_more, .int t_whys_8, .int t_answer_8])), (q_t_now, .inl (cI, 133, .inl t_now_8)), (q_t_tried, .inl (cI, 133, .inl t_tried_1)), (q_t_kept, .inl (cI, 1064, .inl t_kept_11)), (q_t_why, .inl (cI, 4, .inl t_why_8)), (q_t_more, .inl (cI, 4, .inl t_more_8))]) hF (c_X10_ends l D cI cJ cC cL q_t q_t_now q_t_tried q_t_thought q_t_kept q_t_saved q_t_finds q_t_reach q_t_steps q_t_glows q_t_lower q_t_upper q_t_line q_t_text q_t_told q_t_why q_t_more t_undos t_isSaved t_lined t_length t_at t_order t_whys_8 t_answer_8 t_tried_1 t_kept x8 x11 t_undos_11 t_kept_11 hc11 H.size) (cwV 1 hts gX10_hang_X10_ends rfl rfl rfl (by decide +kernel) ⟨Nat.le_of_ble_eq_true rfl, Nat.le_of_ble_eq_true rfl⟩) rfl hl rfl (Nat.le_of_ble_eq_true rfl) dX10_hang_11 ⟨Nat.zero_le _, Nat.zero_le _⟩ hK hN KX_T trivial hP hD hS hA rfl rfl rfl rfl rfl rfl (by decide) rfl rfl (fun H locs hP hD hS => ?_)
  have hJ := Option.some.inj hJ
  obtain ⟨e0, e1, e2, e3, e4, e5, e6, e7, e8⟩ : (x11) = r ∧ (t_undos_11) = o_t_undos ∧ (t_whys_8) = o_t_whys ∧ (t_answer_8) = o_t_answer ∧ (t_now_8) = o_t_now ∧ (t_tried_1) = o_t_tried ∧ (t_kept_11) = o_t_kept ∧ (t_why_8) = o_t_why ∧ (t_more_8) = o_t_more := ⟨congrArg (fun z => z.1) hJ, congrArg (fun z => z.2.1) hJ, congrArg (fun z => z.2.2.1) hJ, congrArg (fun z => z.2.2.2.1) hJ, congrArg (fun z => z.2.2.2.2.1) hJ, congrArg (fun z => z.2.2.2.2.2.1) hJ, congrArg (fun z => z.2.2.2.2.2.2.1) hJ, congrArg (fun z => z.2.2.2.2.2.2.2.1) hJ, congrArg (fun z => z.2.2.2.2.2.2.2.2) hJ⟩
  exact hRet (by rw [← e1, ← e2, ← e3, ← e4, ← e5, ← e6, ← e7, ← e8]; exact hP) (by rw [← e1, ← e2, ← e3, ← e4, ← e5, ← e6, ← e7, ← e8]; exact hD) hS e0 dX10_hang_14

def J_X10_wires_b16 (v1 : Int32) (v2 : Int32) (v3 : Int32) (t_whys : Int32) (t_answer : Int32) (t_now : Nat → Int32) (t_steps : Nat → Int32) (t_why : Nat → Int32) (t_more : Nat → Int32) : Option (Int32 × Int32 × Int32 × (Nat → Int32) × (Nat → Int32) × (Nat → Int32) × (Nat → Int32)) :=
    some ((-11 : Int32), t_whys, t_answer, t_now, t_steps, t_why, t_more)
def J_X10_wires_b129 (v1 : Int32) (v2 : Int32) (v3 : Int32) (t_whys : Int32) (t_answer : Int32) (t_now : Nat → Int32) (t_steps : Nat → Int32) (t_why : Nat → Int32) (t_more : Nat → Int32) : Option (Int32 × Int32 × Int32 × (Nat → Int32) × (Nat → Int32) × (Nat → Int32) × (Nat → Int32)) :=
    nm ((4 : Int32) + v2) fun x133 =>
    nm (v3 + (1 : Int32)) fun x136 =>
    bnd1 (J_X10_sets t_now v1 x133 x136) fun t_now_137 =>
    bnd1 (J_X10_wiresTo t_now_137 v1) fun x143 =>
    bnd2 (J_X10_does x143) fun x146 t_answer_146 =>
    some (x146, t_whys, t_answer_146, t_now_137, t_steps, t_why, t_more)
def J_X10_wires (t_whys : Int32) (t_answer : Int32) (t_now : Nat → Int32) (t_steps : Nat → Int32) (t_why : Nat → Int32) (t_more : Nat → Int32) (v1 : Int32) (v2 : Int32) (v3 : Int32) : Option (Int32 × Int32 × Int32 × (Nat → Int32) × (Nat → Int32) × (Nat → Int32) × (Nat → Int32)) :=
    bnd1 (J_X10_isLantern t_now v1) fun x2 =>
    if x2 = 0 then (
    J_X10_wires_b16 v1 v2 v3 t_whys t_answer t_now t_steps t_why t_more)
    else (
    bnd1 (J_X10_isLantern t_now v3) fun x10 =>
    if x10 = 0 then (
    J_X10_wires_b16 v1 v2 v3 t_whys t_answer t_now t_steps t_why t_more)
    else (
    bnd1 (J_X10_in v2 (0 : Int32) (2 : Int32)) fun x22 =>
    if x22 = 0 then (
    some ((-12 : Int32), t_whys, t_answer, t_now, t_steps, t_why, t_more))
    else (
    bnd1 (J_X10_isSwitch t_now v1) fun x33 =>
    if x33 = 0 then (
    bnd1 (J_X10_places t_now v1) fun x49 =>
    if v2 < x49 then (
    bnd1 (J_X10_wired t_now v1 v2) fun x69 =>
    if x69 < 0 then (
    bnd2 (J_X10_way t_now t_steps v1 v3) fun x90 t_steps_90 =>
    chk (1 : Int32) 133 (
    nm (t_now (1 : Int32).toNatClampNeg) fun x100 =>
    if x100 = 0 then (
    if x90 < 0 then (
    J_X10_wires_b129 v1 v2 v3 t_whys t_answer t_now t_steps_90 t_why t_more)
    else (
    bnd4 (J_X10_refuses t_why t_more (8 : Int32) v3) fun x113 t_whys_113 t_why_113 t_more_113 =>
    nm (x90 + (1 : Int32)) fun x124 =>
    bnd4 (J_X10_behind t_whys_113 t_why_113 t_more_113 (11 : Int32) x124) fun x125 t_whys_125 t_why_125 t_more_125 =>
    some (x125, t_whys_125, t_answer, t_now, t_steps_90, t_why_125, t_more_125)))
    else (
    J_X10_wires_b129 v1 v2 v3 t_whys t_answer t_now t_steps_90 t_why t_more)))
    else (
    bnd1 (J_X10_wired t_now v1 v2) fun x80 =>
    bnd4 (J_X10_refuses t_why t_more (4 : Int32) x80) fun x83 t_whys_83 t_why_83 t_more_83 =>
    some (x83, t_whys_83, t_answer, t_now, t_steps, t_why_83, t_more_83)))
    else (
    bnd1 (J_X10_places t_now v1) fun x59 =>
    bnd4 (J_X10_refuses t_why t_more (3 : Int32) x59) fun x62 t_whys_62 t_why_62 t_more_62 =>
    some (x62, t_whys_62, t_answer, t_now, t_steps, t_why_62, t_more_62)))
    else (
    bnd4 (J_X10_refuses t_why t_more (2 : Int32) v1) fun x42 t_whys_42 t_why_42 t_more_42 =>
    some (x42, t_whys_42, t_answer, t_now, t_steps, t_why_42, t_more_42)))))
abbrev rmX10_wires : Room := { frames := 3, cells := 0, slots := 0, locals := 69 }
set_option maxHeartbeats 4000000 in
set_option maxRecDepth 100000 in
theorem c_X10_wires (l : Launch) (D : va_G) (cI cJ cC cL : ClassId) (q_t q_t_now q_t_tried q_t_thought q_t_kept q_t_saved q_t_finds q_t_reach q_t_steps q_t_glows q_t_lower q_t_upper q_t_line q_t_text q_t_told q_t_why q_t_more : Nat) (t_undos : Int32) (t_isSaved : Int32) (t_lined : Int32) (t_length : Int32) (t_at : Int32) (t_order : Int32) (t_whys : Int32) (t_answer : Int32) (t_now : Nat → Int32) (t_steps : Nat → Int32) (t_why : Nat → Int32) (t_more : Nat → Int32) (v1 : Int32) (v2 : Int32) (v3 : Int32) (r : Int32) (o_t_whys : Int32) (o_t_answer : Int32) (o_t_now : Nat → Int32) (o_t_steps : Nat → Int32) (o_t_why : Nat → Int32) (o_t_more : Nat → Int32) (hJ : J_X10_wires t_whys t_answer t_now t_steps t_why t_more v1 v2 v3 = some (r, o_t_whys, o_t_answer, o_t_now, o_t_steps, o_t_why, o_t_more)) (sz : Nat) : Met l yX10_wires wsX10_wires rmX10_wires (va_Pc [.ref q_t, .int v1, .int v2, .int v3] (jpre XT D (tyL cI cJ cC cL) [(q_t, .inr (8, [.ref q_t_now, .ref q_t_tried, .ref q_t_thought, .ref q_t_kept, .int t_undos, .ref q_t_saved, .int t_isSaved, .ref q_t_finds, .ref q_t_reach, .ref q_t_steps, .ref q_t_glows, .ref q_t_lower, .ref q_t_upper, .ref q_t_line, .int t_lined, .ref q_t_text, .int t_length, .int t_at, .int t_order, .ref q_t_told, .ref q_t_why, .ref q_t_more, .int t_whys, .int t_answer])), (q_t_now, .inl (cI, 133, .inl t_now)), (q_t_steps, .inl (cI, 16, .inl t_steps)), (q_t_why, .inl (cI, 4, .inl t_why)), (q_t_more, .inl (cI, 4, .inl t_more))] sz)) (va_Qi (fun r' (_ : Unit) => r' = r) (fun _ t => jpost D (tyL cI cJ cC cL) (va_A [(q_t, .inr (8, [.ref q_t_now, .ref q_t_tried, .ref q_t_thought, .ref q_t_kept, .int t_undos, .ref q_t_saved, .int t_isSaved, .ref q_t_finds, .ref q_t_reach, .ref q_t_steps, .ref q_t_glows, .ref q_t_lower, .ref q_t_upper, .ref q_t_line, .int t_lined, .ref q_t_text, .int t_length, .int t_at, .int t_order, .ref q_t_told, .ref q_t_why, .ref q_t_more, .int t_whys, .int t_answer])), (q_t_now, .inl (cI, 133, .inl t_now)), (q_t_steps, .inl (cI, 16, .inl t_steps)), (q_t_why, .inl (cI, 4, .inl t_why)), (q_t_more, .inl (cI, 4, .inl t_more))] sz) [(q_t, .inr (8, [.ref q_t_now, .ref q_t_tried, .ref q_t_thought, .ref q_t_kept, .int t_undos, .ref q_t_saved, .int t_isSaved, .ref q_t_finds, .ref q_t_reach, .ref q_t_steps, .ref q_t_glows, .ref q_t_lower, .ref q_t_upper, .ref q_t_line, .int t_lined, .ref q_t_text, .int t_length, .int t_at, .int t_order, .ref q_t_told, .ref q_t_why, .ref q_t_more, .int o_t_whys, .int o_t_answer])), (q_t_now, .inl (cI, 133, .inl o_t_now)), (q_t_steps, .inl (cI, 16, .inl o_t_steps)), (q_t_why, .inl (cI, 4, .inl o_t_why)), (q_t_more, .inl (cI, 4, .inl o_t_more))] t) (va_A [(q_t, .inr (8, [.ref q_t_now, .ref q_t_tried, .ref q_t_thought, .ref q_t_kept, .int t_undos, .ref q_t_saved, .int t_isSaved, .ref q_t_finds, .ref q_t_reach, .ref q_t_steps, .ref q_t_glows, .ref q_t_lower, .ref q_t_upper, .ref q_t_line, .int t_lined, .ref q_t_text, .int t_length, .int t_at, .int t_order, .ref q_t_told, .ref q_t_why, .ref q_t_more, .int t_whys, .int t_answer])), (q_t_now, .inl (cI, 133, .inl t_now)), (q_t_steps, .inl (cI, 16, .inl t_steps)), (q_t_why, .inl (cI, 4, .inl t_why)), (q_t_more, .inl (cI, 4, .inl t_more))] sz)) 0 0 (va_A [(q_t, .inr (8, [.ref q_t_now, .ref q_t_tried, .ref q_t_thought, .ref q_t_kept, .int t_undos, .ref q_t_saved, .int t_isSaved, .ref q_t_finds, .ref q_t_reach, .ref q_t_steps, .ref q_t_glows, .ref q_t_lower, .ref q_t_upper, .ref q_t_line, .int t_lined, .ref q_t_text, .int t_length, .int t_at, .int t_order, .ref q_t_told, .ref q_t_why, .ref q_t_more, .int t_whys, .int t_answer])), (q_t_now, .inl (cI, 133, .inl t_now)), (q_t_steps, .inl (cI, 16, .inl t_steps)), (q_t_why, .inl (cI, 4, .inl t_why)), (q_t_more, .inl (cI, 4, .inl t_more))] sz) := by
  refine jE_i (cc := cX10_wires) (maxL := 6) (own := RX10) (ret := (some .int)) (lv0 := [(0, .ref q_t), (1, .int v1), (2, .int v2), (3, .int v3)]) (by decide) rfl rfl rfl (Nat.le_of_ble_eq_true rfl) rfl ?_
  intro p e s m args below meth c A Q ls hx hb hml hown hts hK hN hX hA hP hD hS hl hRet
  have hF : CallFix p m c cX10_wires 6 s args wsX10_wires RX10 := ⟨hx, hb, hml, hown, hts⟩
  have fl_9 := hts (.fieldLink RX10 9 "LanternLogicModel" "now" "[I") (by decide +kernel)
  have hin_X10 : ∀ w ∈ u_ws RX10 TX10 24, w ∈ wsX10_wires := by decide +kernel
  have B16 : ∀ (t_whys : Int32) (t_answer : Int32) (t_now : Nat → Int32) (t_steps : Nat → Int32) (t_why : Nat → Int32) (t_more : Nat → Int32) (H : Heap) (locs : List Loc), va_P D vwCl [(q_t, .inr (8, [.ref q_t_now, .ref q_t_tried, .ref q_t_thought, .ref q_t_kept, .int t_undos, .ref q_t_saved, .int t_isSaved, .ref q_t_finds, .ref q_t_reach, .ref q_t_steps, .ref q_t_glows, .ref q_t_lower, .ref q_t_upper, .ref q_t_line, .int t_lined, .ref q_t_text, .int t_length, .int t_at, .int t_order, .ref q_t_told, .ref q_t_why, .ref q_t_more, .int t_whys, .int t_answer])), (q_t_now, .inl (cI, 133, .inl t_now)), (q_t_steps, .inl (cI, 16, .inl t_steps)), (q_t_why, .inl (cI, 4, .inl t_why)), (q_t_more, .inl (cI, 4, .inl t_more))] H → va_D A [(q_t, .inr (8, [.ref q_t_now, .ref q_t_tried, .ref q_t_thought, .ref q_t_kept, .int t_undos, .ref q_t_saved, .int t_isSaved, .ref q_t_finds, .ref q_t_reach, .ref q_t_steps, .ref q_t_glows, .ref q_t_lower, .ref q_t_upper, .ref q_t_line, .int t_lined, .ref q_t_text, .int t_length, .int t_at, .int t_order, .ref q_t_told, .ref q_t_why, .ref q_t_more, .int t_whys, .int t_answer])), (q_t_now, .inl (cI, 133, .inl t_now)), (q_t_steps, .inl (cI, 16, .inl t_steps)), (q_t_why, .inl (cI, 4, .inl t_why)), (q_t_more, .inl (cI, 4, .inl t_more))] → va_S A s.heap H locs → ∀ ls : Array Slot, lv_has ls 6 [] → J_X10_wires_b16  v1 v2 v3 t_whys t_answer t_now t_steps t_why t_more = some (r, o_t_whys, o_t_answer, o_t_now, o_t_steps, o_t_why, o_t_more) → W p l e rmX10_wires s m args below meth c H locs 0 0 Q (F0 m 16 ls []) := by
    intro t_whys t_answer t_now t_steps t_why t_more H locs hP hD hS ls hl hJ
    unfold J_X10_wires_b16 at hJ
    refine lv_bipush (v := (-11 : Int32)) hx hb dX10_wires_16 (by decide) ?_
    have hJ := Option.some.inj hJ
    obtain ⟨e0, e1, e2, e3, e4, e5, e6⟩ : ((-11 : Int32)) = r ∧ (t_whys) = o_t_whys ∧ (t_answer) = o_t_answer ∧ (t_now) = o_t_now ∧ (t_steps) = o_t_steps ∧ (t_why) = o_t_why ∧ (t_more) = o_t_more := ⟨congrArg (fun z => z.1) hJ, congrArg (fun z => z.2.1) hJ, congrArg (fun z => z.2.2.1) hJ, congrArg (fun z => z.2.2.2.1) hJ, congrArg (fun z => z.2.2.2.2.1) hJ, congrArg (fun z => z.2.2.2.2.2.1) hJ, congrArg (fun z => z.2.2.2.2.2.2) hJ⟩
    exact hRet (by rw [← e1, ← e2, ← e3, ← e4, ← e5, ← e6]; exact hP) (by rw [← e1, ← e2, ← e3, ← e4, ← e5, ← e6]; exact hD) hS e0 dX10_wires_18
  have B129 : ∀ (t_whys : Int32) (t_answer : Int32) (t_now : Nat → Int32) (t_steps : Nat → Int32) (t_why : Nat → Int32) (t_more : Nat → Int32) (H : Heap) (locs : List Loc), va_P D vwCl [(q_t, .inr (8, [.ref q_t_now, .ref q_t_tried, .ref q_t_thought, .ref q_t_kept, .int t_undos, .ref q_t_saved, .int t_isSaved, .ref q_t_finds, .ref q_t_reach, .ref q_t_steps, .ref q_t_glows, .ref q_t_lower, .ref q_t_upper, .ref q_t_line, .int t_lined, .ref q_t_text, .int t_length, .int t_at, .int t_order, .ref q_t_told, .ref q_t_why, .ref q_t_more, .int t_whys, .int t_answer])), (q_t_now, .inl (cI, 133, .inl t_now)), (q_t_steps, .inl (cI, 16, .inl t_steps)), (q_t_why, .inl (cI, 4, .inl t_why)), (q_t_more, .inl (cI, 4, .inl t_more))] H → va_D A [(q_t, .inr (8, [.ref q_t_now, .ref q_t_tried, .ref q_t_thought, .ref q_t_kept, .int t_undos, .ref q_t_saved, .int t_isSaved, .ref q_t_finds, .ref q_t_reach, .ref q_t_steps, .ref q_t_glows, .ref q_t_lower, .ref q_t_upper, .ref q_t_line, .int t_lined, .ref q_t_text, .int t_length, .int t_at, .int t_order, .ref q_t_told, .ref q_t_why, .ref q_t_more, .int t_whys, .int t_answer])), (q_t_now, .inl (cI, 133, .inl t_now)), (q_t_steps, .inl (cI, 16, .inl t_steps)), (q_t_why, .inl (cI, 4, .inl t_why)), (q_t_more, .inl (cI, 4, .inl t_more))] → va_S A s.heap H locs → ∀ ls : Array Slot, lv_has ls 6 [(0, .ref q_t), (1, .int v1), (2, .int v2), (3, .int v3)] → J_X10_wires_b129  v1 v2 v3 t_whys t_answer t_now t_steps t_why t_more = some (r, o_t_whys, o_t_answer, o_t_now, o_t_steps, o_t_why, o_t_more) → W p l e rmX10_wires s m args below meth c H locs 0 0 Q (F0 m 129 ls []) := by
    intro t_whys t_answer t_now t_steps t_why t_more H locs hP hD hS ls hl hJ
    unfold J_X10_wires_b129 at hJ
    refine lv_aload_n hx hb dX10_wires_129 rfl (lv_at hl 0 rfl) ?_
    refine lv_iload_n hx hb dX10_wires_130 rfl (lv_at hl 1 rfl) ?_
    refine lv_iconst (v := (4 : Int32)) hx hb dX10_wires_131 (by decide) ?_
    refine lv_iload_n hx hb dX10_wires_132 rfl (lv_at hl 2 rfl) ?_
    refine lv_iadd hx hb dX10_wires_133 ?_
    refine jt_i hJ (fun x133 hJ => ?_)
    refine lv_iload_n hx hb dX10_wires_134 rfl (lv_at hl 3 rfl) ?_
    refine lv_iconst (v := (1 : Int32)) hx hb dX10_wires_135 (by decide) ?_
    refine lv_iadd hx hb dX10_wires_136 ?_
    refine jt_i hJ (fun x136 hJ => ?_)
    obtain ⟨t_now_137, hc137, hJ⟩ := bnd1_some hJ
    refine jcV_v (C := RX10) (T := TX10) (N := 24) (ci := 8) (q0 := 0) (As := [.int v1, .int x133, .int x136]) (rest := []) (isC := [0, 1]) (isR := [2, 3, 4]) (isB := [3, 4, 0, 1, 2]) (wr := [(q_t_steps, .inl (cI, 16, .inl t_steps)), (q_t_why, .inl (cI, 4, .inl t_why)), (q_t_more, .inl (cI, 4, .inl t_more))]) (ws2 := [(q_t, .inr (8, [.ref q_t_now, .ref q_t_tried, .ref q_t_thought, .ref q_t_kept, .int t_undos, .ref q_t_saved, .int t_isSaved, .ref q_t_finds, .ref q_t_reach, .ref q_t_steps, .ref q_t_glows, .ref q_t_lower, .ref q_t_upper, .ref q_t_line, .int t_lined, .ref q_t_text, .int t_length, .int t_at, .int t_order, .ref q_t_told, .ref q_t_why, .ref q_t_more, .int t_whys, .int t_answer])), (q_t_now, .inl (cI, 133, .inl t_now_137)), (q_t_steps, .inl (cI, 16, .inl t_steps)), (q_t_why, .inl (cI, 4, .inl t_why)), (q_t_more, .inl (cI, 4, .inl t_more))]) hF (c_X10_sets l D cI cJ cC cL q_t q_t_now q_t_tried q_t_thought q_t_kept q_t_saved q_t_finds q_t_reach q_t_steps q_t_glows q_t_lower q_t_upper q_t_line q_t_text q_t_told q_t_why q_t_more t_undos t_isSaved t_lined t_length t_at t_order t_whys t_answer t_now v1 x133 x136 t_now_137 hc137 H.size) (cwV 3 hts gX10_wires_X10_sets rfl rfl rfl (by decide +kernel) ⟨Nat.le_of_ble_eq_true rfl, Nat.le_of_ble_eq_true rfl⟩) rfl hl rfl (Nat.le_of_ble_eq_true rfl) dX10_wires_137 ⟨Nat.zero_le _, Nat.zero_le _⟩ hK hN KX_T trivial hP hD hS hA rfl rfl rfl rfl rfl rfl (by decide) rfl rfl (fun H locs hP hD hS => ?_)
    refine lv_aload_n hx hb dX10_wires_140 rfl (lv_at hl 0 rfl) ?_
    refine lv_aload_n hx hb dX10_wires_141 rfl (lv_at hl 0 rfl) ?_
    refine lv_iload_n hx hb dX10_wires_142 rfl (lv_at hl 1 rfl) ?_
    obtain ⟨x143, hc143, hJ⟩ := bnd1_some hJ
    refine jcV_i (C := RX10) (T := TX10) (N := 24) (ci := 8) (q0 := 0) (As := [.int v1]) (rest := [.ref q_t]) (isC := [0, 1]) (isR := [2, 3, 4]) (isB := [3, 4, 0, 1, 2]) (wr := [(q_t_steps, .inl (cI, 16, .inl t_steps)), (q_t_why, .inl (cI, 4, .inl t_why)), (q_t_more, .inl (cI, 4, .inl t_more))]) (ws2 := [(q_t, .inr (8, [.ref q_t_now, .ref q_t_tried, .ref q_t_thought, .ref q_t_kept, .int t_undos, .ref q_t_saved, .int t_isSaved, .ref q_t_finds, .ref q_t_reach, .ref q_t_steps, .ref q_t_glows, .ref q_t_lower, .ref q_t_upper, .ref q_t_line, .int t_lined, .ref q_t_text, .int t_length, .int t_at, .int t_order, .ref q_t_told, .ref q_t_why, .ref q_t_more, .int t_whys, .int t_answer])), (q_t_now, .inl (cI, 133, .inl t_now_137)), (q_t_steps, .inl (cI, 16, .inl t_steps)), (q_t_why, .inl (cI, 4, .inl t_why)), (q_t_more, .inl (cI, 4, .inl t_more))]) hF (c_X10_wiresTo l D cI cJ cC cL q_t q_t_now q_t_tried q_t_thought q_t_kept q_t_saved q_t_finds q_t_reach q_t_steps q_t_glows q_t_lower q_t_upper q_t_line q_t_text q_t_told q_t_why q_t_more t_undos t_isSaved t_lined t_length t_at t_order t_whys t_answer t_now_137 v1 x143 hc143 H.size) (cwV 1 hts gX10_wires_X10_wiresTo rfl rfl rfl (by decide +kernel) ⟨Nat.le_of_ble_eq_true rfl, Nat.le_of_ble_eq_true rfl⟩) rfl hl rfl (Nat.le_of_ble_eq_true rfl) dX10_wires_143 ⟨Nat.zero_le _, Nat.zero_le _⟩ hK hN KX_T trivial hP hD hS hA rfl rfl rfl rfl rfl rfl (by decide) rfl rfl (fun H locs hP hD hS => ?_)
    obtain ⟨x146, t_answer_146, hc146, hJ⟩ := bnd2_some hJ
    refine jcV_i (C := RX10) (T := TX10) (N := 24) (ci := 8) (q0 := 0) (As := [.int x143]) (rest := []) (isC := [0]) (isR := [1, 2, 3, 4]) (isB := [4, 0, 1, 2, 3]) (wr := [(q_t_now, .inl (cI, 133, .inl t_now_137)), (q_t_steps, .inl (cI, 16, .inl t_steps)), (q_t_why, .inl (cI, 4, .inl t_why)), (q_t_more, .inl (cI, 4, .inl t_more))]) (ws2 := [(q_t, .inr (8, [.ref q_t_now, .ref q_t_tried, .ref q_t_thought, .ref q_t_kept, .int t_undos, .ref q_t_saved, .int t_isSaved, .ref q_t_finds, .ref q_t_reach, .ref q_t_steps, .ref q_t_glows, .ref q_t_lower, .ref q_t_upper, .ref q_t_line, .int t_lined, .ref q_t_text, .int t_length, .int t_at, .int t_order, .ref q_t_told, .ref q_t_why, .ref q_t_more, .int t_whys, .int t_answer_146])), (q_t_now, .inl (cI, 133, .inl t_now_137)), (q_t_steps, .inl (cI, 16, .inl t_steps)), (q_t_why, .inl (cI, 4, .inl t_why)), (q_t_more, .inl (cI, 4, .inl t_more))]) hF (c_X10_does l D cI cJ cC cL q_t q_t_now q_t_tried q_t_thought q_t_kept q_t_saved q_t_finds q_t_reach q_t_steps q_t_glows q_t_lower q_t_upper q_t_line q_t_text q_t_told q_t_why q_t_more t_undos t_isSaved t_lined t_length t_at t_order t_whys t_answer x143 x146 t_answer_146 hc146 H.size) (cwV 1 hts gX10_wires_X10_does rfl rfl rfl (by decide +kernel) ⟨Nat.le_of_ble_eq_true rfl, Nat.le_of_ble_eq_true rfl⟩) rfl hl rfl (Nat.le_of_ble_eq_true rfl) dX10_wires_146 ⟨Nat.zero_le _, Nat.zero_le _⟩ hK hN KX_T trivial hP hD hS hA rfl rfl rfl rfl rfl rfl (by decide) rfl rfl (fun H locs hP hD hS => ?_)
    have hJ := Option.some.inj hJ
    obtain ⟨e0, e1, e2, e3, e4, e5, e6⟩ : (x146) = r ∧ (t_whys) = o_t_whys ∧ (t_answer_146) = o_t_answer ∧ (t_now_137) = o_t_now ∧ (t_steps) = o_t_steps ∧ (t_why) = o_t_why ∧ (t_more) = o_t_more := ⟨congrArg (fun z => z.1) hJ, congrArg (fun z => z.2.1) hJ, congrArg (fun z => z.2.2.1) hJ, congrArg (fun z => z.2.2.2.1) hJ, congrArg (fun z => z.2.2.2.2.1) hJ, congrArg (fun z => z.2.2.2.2.2.1) hJ, congrArg (fun z => z.2.2.2.2.2.2) hJ⟩
    exact hRet (by rw [← e1, ← e2, ← e3, ← e4, ← e5, ← e6]; exact hP) (by rw [← e1, ← e2, ← e3, ← e4, ← e5, ← e6]; exact hD) hS e0 dX10_wires_149
  unfold J_X10_wires at hJ
  refine lv_aload_n hx hb dX10_wires_0 rfl (lv_at hl 0 rfl) ?_
  refine lv_iload_n hx hb dX10_wires_1 rfl (lv_at hl 1 rfl) ?_
  obtain ⟨x2, hc2, hJ⟩ := bnd1_some hJ
  refine jcV_i (C := RX10) (T := TX10) (N := 24) (ci := 8) (q0 := 0) (As := [.int v1]) (rest := []) (isC := [0, 1]) (isR := [2, 3, 4]) (isB := [3, 4, 0, 1, 2]) (wr := [(q_t_steps, .inl (cI, 16, .inl t_steps)), (q_t_why, .inl (cI, 4, .inl t_why)), (q_t_more, .inl (cI, 4, .inl t_more))]) (ws2 := [(q_t, .inr (8, [.ref q_t_now, .ref q_t_tried, .ref q_t_thought, .ref q_t_kept, .int t_undos, .ref q_t_saved, .int t_isSaved, .ref q_t_finds, .ref q_t_reach, .ref q_t_steps, .ref q_t_glows, .ref q_t_lower, .ref q_t_upper, .ref q_t_line, .int t_lined, .ref q_t_text, .int t_length, .int t_at, .int t_order, .ref q_t_told, .ref q_t_why, .ref q_t_more, .int t_whys, .int t_answer])), (q_t_now, .inl (cI, 133, .inl t_now)), (q_t_steps, .inl (cI, 16, .inl t_steps)), (q_t_why, .inl (cI, 4, .inl t_why)), (q_t_more, .inl (cI, 4, .inl t_more))]) hF (c_X10_isLantern l D cI cJ cC cL q_t q_t_now q_t_tried q_t_thought q_t_kept q_t_saved q_t_finds q_t_reach q_t_steps q_t_glows q_t_lower q_t_upper q_t_line q_t_text q_t_told q_t_why q_t_more t_undos t_isSaved t_lined t_length t_at t_order t_whys t_answer t_now v1 x2 hc2 s.heap.size) (cwV 1 hts gX10_wires_X10_isLantern rfl rfl rfl (by decide +kernel) ⟨Nat.le_of_ble_eq_true rfl, Nat.le_of_ble_eq_true rfl⟩) rfl hl rfl (Nat.le_of_ble_eq_true rfl) dX10_wires_2 ⟨Nat.zero_le _, Nat.zero_le _⟩ hK hN KX_T trivial hP hD hS hA rfl rfl rfl rfl rfl rfl (by decide) rfl rfl (fun H locs hP hD hS => ?_)
  refine jif_eq (tgt := 16) hx hb dX10_wires_5 (by decide) hJ (fun hJ => ?_) (fun hJ => ?_)
  · exact B16  t_whys t_answer t_now t_steps t_why t_more  H locs  hP hD hS _ (lv_sub hl [] rfl) hJ
  · refine lv_aload_n hx hb dX10_wires_8 rfl (lv_at hl 0 rfl) ?_
    refine lv_iload_n hx hb dX10_wires_9 rfl (lv_at hl 3 rfl) ?_
    obtain ⟨x10, hc10, hJ⟩ := bnd1_some hJ
    refine jcV_i (C := RX10) (T := TX10) (N := 24) (ci := 8) (q0 := 0) (As := [.int v3]) (rest := []) (isC := [0, 1]) (isR := [2, 3, 4]) (isB := [3, 4, 0, 1, 2]) (wr := [(q_t_steps, .inl (cI, 16, .inl t_steps)), (q_t_why, .inl (cI, 4, .inl t_why)), (q_t_more, .inl (cI, 4, .inl t_more))]) (ws2 := [(q_t, .inr (8, [.ref q_t_now, .ref q_t_tried, .ref q_t_thought, .ref q_t_kept, .int t_undos, .ref q_t_saved, .int t_isSaved, .ref q_t_finds, .ref q_t_reach, .ref q_t_steps, .ref q_t_glows, .ref q_t_lower, .ref q_t_upper, .ref q_t_line, .int t_lined, .ref q_t_text, .int t_length, .int t_at, .int t_order, .ref q_t_told, .ref q_t_why, .ref q_t_more, .int t_whys, .int t_answer])), (q_t_now, .inl (cI, 133, .inl t_now)), (q_t_steps, .inl (cI, 16, .inl t_steps)), (q_t_why, .inl (cI, 4, .inl t_why)), (q_t_more, .inl (cI, 4, .inl t_more))]) hF (c_X10_isLantern l D cI cJ cC cL q_t q_t_now q_t_tried q_t_thought q_t_kept q_t_saved q_t_finds q_t_reach q_t_steps q_t_glows q_t_lower q_t_upper q_t_line q_t_text q_t_told q_t_why q_t_more t_undos t_isSaved t_lined t_length t_at t_order t_whys t_answer t_now v3 x10 hc10 H.size) (cwV 1 hts gX10_wires_X10_isLantern rfl rfl rfl (by decide +kernel) ⟨Nat.le_of_ble_eq_true rfl, Nat.le_of_ble_eq_true rfl⟩) rfl hl rfl (Nat.le_of_ble_eq_true rfl) dX10_wires_10 ⟨Nat.zero_le _, Nat.zero_le _⟩ hK hN KX_T trivial hP hD hS hA rfl rfl rfl rfl rfl rfl (by decide) rfl rfl (fun H locs hP hD hS => ?_)
    refine jif_ne (tgt := 19) hx hb dX10_wires_13 (by decide) hJ (fun hJ => ?_) (fun hJ => ?_)
    · refine lv_iload_n hx hb dX10_wires_19 rfl (lv_at hl 2 rfl) ?_
      refine lv_iconst (v := (0 : Int32)) hx hb dX10_wires_20 (by decide) ?_
      refine lv_iconst (v := (2 : Int32)) hx hb dX10_wires_21 (by decide) ?_
      obtain ⟨x22, hc22, hJ⟩ := bnd1_some hJ
      refine jcS_i (As := [.int v2, .int (0 : Int32), .int (2 : Int32)]) (rest := []) (isC := []) (isR := [0, 1, 2, 3, 4]) (isB := [0, 1, 2, 3, 4]) (wr := [(q_t, .inr (8, [.ref q_t_now, .ref q_t_tried, .ref q_t_thought, .ref q_t_kept, .int t_undos, .ref q_t_saved, .int t_isSaved, .ref q_t_finds, .ref q_t_reach, .ref q_t_steps, .ref q_t_glows, .ref q_t_lower, .ref q_t_upper, .ref q_t_line, .int t_lined, .ref q_t_text, .int t_length, .int t_at, .int t_order, .ref q_t_told, .ref q_t_why, .ref q_t_more, .int t_whys, .int t_answer])), (q_t_now, .inl (cI, 133, .inl t_now)), (q_t_steps, .inl (cI, 16, .inl t_steps)), (q_t_why, .inl (cI, 4, .inl t_why)), (q_t_more, .inl (cI, 4, .inl t_more))]) (ws2 := [(q_t, .inr (8, [.ref q_t_now, .ref q_t_tried, .ref q_t_thought, .ref q_t_kept, .int t_undos, .ref q_t_saved, .int t_isSaved, .ref q_t_finds, .ref q_t_reach, .ref q_t_steps, .ref q_t_glows, .ref q_t_lower, .ref q_t_upper, .ref q_t_line, .int t_lined, .ref q_t_text, .int t_length, .int t_at, .int t_order, .ref q_t_told, .ref q_t_why, .ref q_t_more, .int t_whys, .int t_answer])), (q_t_now, .inl (cI, 133, .inl t_now)), (q_t_steps, .inl (cI, 16, .inl t_steps)), (q_t_why, .inl (cI, 4, .inl t_why)), (q_t_more, .inl (cI, 4, .inl t_more))]) hF (c_X10_in l D cI cJ cC cL v2 (0 : Int32) (2 : Int32) x22 hc22 H.size) (va_cwS 3 hts gX10_wires_X10_in rfl rfl rfl (by decide +kernel) ⟨Nat.le_of_ble_eq_true rfl, Nat.le_of_ble_eq_true rfl⟩) rfl hl rfl (Nat.le_of_ble_eq_true rfl) dX10_wires_22 ⟨Nat.zero_le _, Nat.zero_le _⟩ hK hN KX_T trivial hP hD hS hA rfl rfl rfl rfl (by decide) rfl rfl (fun H locs hP hD hS => ?_)
      refine jif_ne (tgt := 31) hx hb dX10_wires_25 (by decide) hJ (fun hJ => ?_) (fun hJ => ?_)
      · refine lv_aload_n hx hb dX10_wires_31 rfl (lv_at hl 0 rfl) ?_
        refine lv_iload_n hx hb dX10_wires_32 rfl (lv_at hl 1 rfl) ?_
        obtain ⟨x33, hc33, hJ⟩ := bnd1_some hJ
        refine jcV_i (C := RX10) (T := TX10) (N := 24) (ci := 8) (q0 := 0) (As := [.int v1]) (rest := []) (isC := [0, 1]) (isR := [2, 3, 4]) (isB := [3, 4, 0, 1, 2]) (wr := [(q_t_steps, .inl (cI, 16, .inl t_steps)), (q_t_why, .inl (cI, 4, .inl t_why)), (q_t_more, .inl (cI, 4, .inl t_more))]) (ws2 := [(q_t, .inr (8, [.ref q_t_now, .ref q_t_tried, .ref q_t_thought, .ref q_t_kept, .int t_undos, .ref q_t_saved, .int t_isSaved, .ref q_t_finds, .ref q_t_reach, .ref q_t_steps, .ref q_t_glows, .ref q_t_lower, .ref q_t_upper, .ref q_t_line, .int t_lined, .ref q_t_text, .int t_length, .int t_at, .int t_order, .ref q_t_told, .ref q_t_why, .ref q_t_more, .int t_whys, .int t_answer])), (q_t_now, .inl (cI, 133, .inl t_now)), (q_t_steps, .inl (cI, 16, .inl t_steps)), (q_t_why, .inl (cI, 4, .inl t_why)), (q_t_more, .inl (cI, 4, .inl t_more))]) hF (c_X10_isSwitch l D cI cJ cC cL q_t q_t_now q_t_tried q_t_thought q_t_kept q_t_saved q_t_finds q_t_reach q_t_steps q_t_glows q_t_lower q_t_upper q_t_line q_t_text q_t_told q_t_why q_t_more t_undos t_isSaved t_lined t_length t_at t_order t_whys t_answer t_now v1 x33 hc33 H.size) (cwV 1 hts gX10_wires_X10_isSwitch rfl rfl rfl (by decide +kernel) ⟨Nat.le_of_ble_eq_true rfl, Nat.le_of_ble_eq_true rfl⟩) rfl hl rfl (Nat.le_of_ble_eq_true rfl) dX10_wires_33 ⟨Nat.zero_le _, Nat.zero_le _⟩ hK hN KX_T trivial hP hD hS hA rfl rfl rfl rfl rfl rfl (by decide) rfl rfl (fun H locs hP hD hS => ?_)
        refine jif_eq (tgt := 46) hx hb dX10_wires_36 (by decide) hJ (fun hJ => ?_) (fun hJ => ?_)
        · refine lv_iload_n hx hb dX10_wires_46 rfl (lv_at hl 2 rfl) ?_
          refine lv_aload_n hx hb dX10_wires_47 rfl (lv_at hl 0 rfl) ?_
          refine lv_iload_n hx hb dX10_wires_48 rfl (lv_at hl 1 rfl) ?_
          obtain ⟨x49, hc49, hJ⟩ := bnd1_some hJ
          refine jcV_i (C := RX10) (T := TX10) (N := 24) (ci := 8) (q0 := 0) (As := [.int v1]) (rest := [.int v2]) (isC := [0, 1]) (isR := [2, 3, 4]) (isB := [3, 4, 0, 1, 2]) (wr := [(q_t_steps, .inl (cI, 16, .inl t_steps)), (q_t_why, .inl (cI, 4, .inl t_why)), (q_t_more, .inl (cI, 4, .inl t_more))]) (ws2 := [(q_t, .inr (8, [.ref q_t_now, .ref q_t_tried, .ref q_t_thought, .ref q_t_kept, .int t_undos, .ref q_t_saved, .int t_isSaved, .ref q_t_finds, .ref q_t_reach, .ref q_t_steps, .ref q_t_glows, .ref q_t_lower, .ref q_t_upper, .ref q_t_line, .int t_lined, .ref q_t_text, .int t_length, .int t_at, .int t_order, .ref q_t_told, .ref q_t_why, .ref q_t_more, .int t_whys, .int t_answer])), (q_t_now, .inl (cI, 133, .inl t_now)), (q_t_steps, .inl (cI, 16, .inl t_steps)), (q_t_why, .inl (cI, 4, .inl t_why)), (q_t_more, .inl (cI, 4, .inl t_more))]) hF (c_X10_places l D cI cJ cC cL q_t q_t_now q_t_tried q_t_thought q_t_kept q_t_saved q_t_finds q_t_reach q_t_steps q_t_glows q_t_lower q_t_upper q_t_line q_t_text q_t_told q_t_why q_t_more t_undos t_isSaved t_lined t_length t_at t_order t_whys t_answer t_now v1 x49 hc49 H.size) (cwV 1 hts gX10_wires_X10_places rfl rfl rfl (by decide +kernel) ⟨Nat.le_of_ble_eq_true rfl, Nat.le_of_ble_eq_true rfl⟩) rfl hl rfl (Nat.le_of_ble_eq_true rfl) dX10_wires_49 ⟨Nat.zero_le _, Nat.zero_le _⟩ hK hN KX_T trivial hP hD hS hA rfl rfl rfl rfl rfl rfl (by decide) rfl rfl (fun H locs hP hD hS => ?_)
          refine jif_icmp_lt (tgt := 66) hx hb dX10_wires_52 (by decide) hJ (fun hJ => ?_) (fun hJ => ?_)
          · refine lv_aload_n hx hb dX10_wires_66 rfl (lv_at hl 0 rfl) ?_
            refine lv_iload_n hx hb dX10_wires_67 rfl (lv_at hl 1 rfl) ?_
            refine lv_iload_n hx hb dX10_wires_68 rfl (lv_at hl 2 rfl) ?_
            obtain ⟨x69, hc69, hJ⟩ := bnd1_some hJ
            refine jcV_i (C := RX10) (T := TX10) (N := 24) (ci := 8) (q0 := 0) (As := [.int v1, .int v2]) (rest := []) (isC := [0, 1]) (isR := [2, 3, 4]) (isB := [3, 4, 0, 1, 2]) (wr := [(q_t_steps, .inl (cI, 16, .inl t_steps)), (q_t_why, .inl (cI, 4, .inl t_why)), (q_t_more, .inl (cI, 4, .inl t_more))]) (ws2 := [(q_t, .inr (8, [.ref q_t_now, .ref q_t_tried, .ref q_t_thought, .ref q_t_kept, .int t_undos, .ref q_t_saved, .int t_isSaved, .ref q_t_finds, .ref q_t_reach, .ref q_t_steps, .ref q_t_glows, .ref q_t_lower, .ref q_t_upper, .ref q_t_line, .int t_lined, .ref q_t_text, .int t_length, .int t_at, .int t_order, .ref q_t_told, .ref q_t_why, .ref q_t_more, .int t_whys, .int t_answer])), (q_t_now, .inl (cI, 133, .inl t_now)), (q_t_steps, .inl (cI, 16, .inl t_steps)), (q_t_why, .inl (cI, 4, .inl t_why)), (q_t_more, .inl (cI, 4, .inl t_more))]) hF (c_X10_wired l D cI cJ cC cL q_t q_t_now q_t_tried q_t_thought q_t_kept q_t_saved q_t_finds q_t_reach q_t_steps q_t_glows q_t_lower q_t_upper q_t_line q_t_text q_t_told q_t_why q_t_more t_undos t_isSaved t_lined t_length t_at t_order t_whys t_answer t_now v1 v2 x69 hc69 H.size) (cwV 2 hts gX10_wires_X10_wired rfl rfl rfl (by decide +kernel) ⟨Nat.le_of_ble_eq_true rfl, Nat.le_of_ble_eq_true rfl⟩) rfl hl rfl (Nat.le_of_ble_eq_true rfl) dX10_wires_69 ⟨Nat.zero_le _, Nat.zero_le _⟩ hK hN KX_T trivial hP hD hS hA rfl rfl rfl rfl rfl rfl (by decide) rfl rfl (fun H locs hP hD hS => ?_)
            refine jif_lt (tgt := 87) hx hb dX10_wires_72 (by decide) hJ (fun hJ => ?_) (fun hJ => ?_)
            · refine lv_aload_n hx hb dX10_wires_87 rfl (lv_at hl 0 rfl) ?_
              refine lv_iload_n hx hb dX10_wires_88 rfl (lv_at hl 1 rfl) ?_
              refine lv_iload_n hx hb dX10_wires_89 rfl (lv_at hl 3 rfl) ?_
              obtain ⟨x90, t_steps_90, hc90, hJ⟩ := bnd2_some hJ
              refine jcV_i (C := RX10) (T := TX10) (N := 24) (ci := 8) (q0 := 0) (As := [.int v1, .int v3]) (rest := []) (isC := [0, 1, 2]) (isR := [3, 4]) (isB := [2, 3, 4, 0, 1]) (wr := [(q_t_why, .inl (cI, 4, .inl t_why)), (q_t_more, .inl (cI, 4, .inl t_more))]) (ws2 := [(q_t, .inr (8, [.ref q_t_now, .ref q_t_tried, .ref q_t_thought, .ref q_t_kept, .int t_undos, .ref q_t_saved, .int t_isSaved, .ref q_t_finds, .ref q_t_reach, .ref q_t_steps, .ref q_t_glows, .ref q_t_lower, .ref q_t_upper, .ref q_t_line, .int t_lined, .ref q_t_text, .int t_length, .int t_at, .int t_order, .ref q_t_told, .ref q_t_why, .ref q_t_more, .int t_whys, .int t_answer])), (q_t_now, .inl (cI, 133, .inl t_now)), (q_t_steps, .inl (cI, 16, .inl t_steps_90)), (q_t_why, .inl (cI, 4, .inl t_why)), (q_t_more, .inl (cI, 4, .inl t_more))]) hF (c_X10_way l D cI cJ cC cL q_t q_t_now q_t_tried q_t_thought q_t_kept q_t_saved q_t_finds q_t_reach q_t_steps q_t_glows q_t_lower q_t_upper q_t_line q_t_text q_t_told q_t_why q_t_more t_undos t_isSaved t_lined t_length t_at t_order t_whys t_answer t_now t_steps v1 v3 x90 t_steps_90 hc90 H.size) (cwV 2 hts gX10_wires_X10_way rfl rfl rfl (by decide +kernel) ⟨Nat.le_of_ble_eq_true rfl, Nat.le_of_ble_eq_true rfl⟩) rfl hl rfl (Nat.le_of_ble_eq_true rfl) dX10_wires_90 ⟨Nat.zero_le _, Nat.zero_le _⟩ hK hN KX_T trivial hP hD hS hA rfl rfl rfl rfl rfl rfl (by decide) rfl rfl (fun H locs hP hD hS => ?_)
              refine lv_istore (lv' := [(4, .int x90), (0, .ref q_t), (1, .int v1), (2, .int v2), (3, .int v3)]) hx hb dX10_wires_93 hl (by decide) rfl (fun ls hl => ?_)
              refine lv_aload_n hx hb dX10_wires_95 rfl (lv_at hl 1 rfl) ?_
              refine va_get (ci := 8) (v := .ref q_t_now) (C := RX10) (T := TX10) (N := 24) hx hb hts hin_X10 hown hK hP 0 rfl rfl 0 (by decide) fl_9 (fun _ h9 => h9) rfl dX10_wires_96 ?_
              refine lv_iconst (v := (1 : Int32)) hx hb dX10_wires_99 (by decide) ?_
              obtain ⟨hin, hJ⟩ := chk_in hJ
              refine va_iald hx hb hK hP 1 0 rfl rfl hin dX10_wires_100 ?_
              refine jt_i hJ (fun x100 hJ => ?_)
              refine jif_ne (tgt := 129) hx hb dX10_wires_101 (by decide) hJ (fun hJ => ?_) (fun hJ => ?_)
              · exact B129  t_whys t_answer t_now t_steps_90 t_why t_more  H locs  hP hD hS _ (lv_sub hl [1, 2, 3, 4] rfl) hJ
              · refine lv_iload hx hb dX10_wires_104 (lv_at hl 0 rfl) ?_
                refine jif_lt (tgt := 129) hx hb dX10_wires_106 (by decide) hJ (fun hJ => ?_) (fun hJ => ?_)
                · exact B129  t_whys t_answer t_now t_steps_90 t_why t_more  H locs  hP hD hS _ (lv_sub hl [1, 2, 3, 4] rfl) hJ
                · refine lv_aload_n hx hb dX10_wires_109 rfl (lv_at hl 1 rfl) ?_
                  refine lv_bipush (v := (8 : Int32)) hx hb dX10_wires_110 (by decide) ?_
                  refine lv_iload_n hx hb dX10_wires_112 rfl (lv_at hl 4 rfl) ?_
                  obtain ⟨x113, t_whys_113, t_why_113, t_more_113, hc113, hJ⟩ := bnd4_some hJ
                  refine jcV_i (C := RX10) (T := TX10) (N := 24) (ci := 8) (q0 := 0) (As := [.int (8 : Int32), .int v3]) (rest := []) (isC := [0, 3, 4]) (isR := [1, 2]) (isB := [2, 0, 1, 3, 4]) (wr := [(q_t_now, .inl (cI, 133, .inl t_now)), (q_t_steps, .inl (cI, 16, .inl t_steps_90))]) (ws2 := [(q_t, .inr (8, [.ref q_t_now, .ref q_t_tried, .ref q_t_thought, .ref q_t_kept, .int t_undos, .ref q_t_saved, .int t_isSaved, .ref q_t_finds, .ref q_t_reach, .ref q_t_steps, .ref q_t_glows, .ref q_t_lower, .ref q_t_upper, .ref q_t_line, .int t_lined, .ref q_t_text, .int t_length, .int t_at, .int t_order, .ref q_t_told, .ref q_t_why, .ref q_t_more, .int t_whys_113, .int t_answer])), (q_t_now, .inl (cI, 133, .inl t_now)), (q_t_steps, .inl (cI, 16, .inl t_steps_90)), (q_t_why, .inl (cI, 4, .inl t_why_113)), (q_t_more, .inl (cI, 4, .inl t_more_113))]) hF (c_X10_refuses l D cI cJ cC cL q_t q_t_now q_t_tried q_t_thought q_t_kept q_t_saved q_t_finds q_t_reach q_t_steps q_t_glows q_t_lower q_t_upper q_t_line q_t_text q_t_told q_t_why q_t_more t_undos t_isSaved t_lined t_length t_at t_order t_whys t_answer t_why t_more (8 : Int32) v3 x113 t_whys_113 t_why_113 t_more_113 hc113 H.size) (cwV 2 hts gX10_wires_X10_refuses rfl rfl rfl (by decide +kernel) ⟨Nat.le_of_ble_eq_true rfl, Nat.le_of_ble_eq_true rfl⟩) rfl hl rfl (Nat.le_of_ble_eq_true rfl) dX10_wires_113 ⟨Nat.zero_le _, Nat.zero_le _⟩ hK hN KX_T trivial hP hD hS hA rfl rfl rfl rfl rfl rfl (by decide) rfl rfl (fun H locs hP hD hS => ?_)
                  refine lv_istore (lv' := [(5, .int x113), (4, .int x90), (0, .ref q_t), (1, .int v1), (2, .int v2), (3, .int v3)]) hx hb dX10_wires_116 hl (by decide) rfl (fun ls hl => ?_)
                  refine lv_aload_n hx hb dX10_wires_118 rfl (lv_at hl 2 rfl) ?_
                  refine lv_bipush (v := (11 : Int32)) hx hb dX10_wires_119 (by decide) ?_
                  refine lv_iload hx hb dX10_wires_121 (lv_at hl 1 rfl) ?_
                  refine lv_iconst (v := (1 : Int32)) hx hb dX10_wires_123 (by decide) ?_
                  refine lv_iadd hx hb dX10_wires_124 ?_
                  refine jt_i hJ (fun x124 hJ => ?_)
                  obtain ⟨x125, t_whys_125, t_why_125, t_more_125, hc125, hJ⟩ := bnd4_some hJ
                  refine jcV_i (C := RX10) (T := TX10) (N := 24) (ci := 8) (q0 := 0) (As := [.int (11 : Int32), .int x124]) (rest := []) (isC := [0, 3, 4]) (isR := [1, 2]) (isB := [2, 0, 1, 3, 4]) (wr := [(q_t_now, .inl (cI, 133, .inl t_now)), (q_t_steps, .inl (cI, 16, .inl t_steps_90))]) (ws2 := [(q_t, .inr (8, [.ref q_t_now, .ref q_t_tried, .ref q_t_thought, .ref q_t_kept, .int t_undos, .ref q_t_saved, .int t_isSaved, .ref q_t_finds, .ref q_t_reach, .ref q_t_steps, .ref q_t_glows, .ref q_t_lower, .ref q_t_upper, .ref q_t_line, .int t_lined, .ref q_t_text, .int t_length, .int t_at, .int t_order, .ref q_t_told, .ref q_t_why, .ref q_t_more, .int t_whys_125, .int t_answer])), (q_t_now, .inl (cI, 133, .inl t_now)), (q_t_steps, .inl (cI, 16, .inl t_steps_90)), (q_t_why, .inl (cI, 4, .inl t_why_125)), (q_t_more, .inl (cI, 4, .inl t_more_125))]) hF (c_X10_behind l D cI cJ cC cL q_t q_t_now q_t_tried q_t_thought q_t_kept q_t_saved q_t_finds q_t_reach q_t_steps q_t_glows q_t_lower q_t_upper q_t_line q_t_text q_t_told q_t_why q_t_more t_undos t_isSaved t_lined t_length t_at t_order t_whys_113 t_answer t_why_113 t_more_113 (11 : Int32) x124 x125 t_whys_125 t_why_125 t_more_125 hc125 H.size) (cwV 2 hts gX10_wires_X10_behind rfl rfl rfl (by decide +kernel) ⟨Nat.le_of_ble_eq_true rfl, Nat.le_of_ble_eq_true rfl⟩) rfl hl rfl (Nat.le_of_ble_eq_true rfl) dX10_wires_125 ⟨Nat.zero_le _, Nat.zero_le _⟩ hK hN KX_T trivial hP hD hS hA rfl rfl rfl rfl rfl rfl (by decide) rfl rfl (fun H locs hP hD hS => ?_)
                  have hJ := Option.some.inj hJ
                  obtain ⟨e0, e1, e2, e3, e4, e5, e6⟩ : (x125) = r ∧ (t_whys_125) = o_t_whys ∧ (t_answer) = o_t_answer ∧ (t_now) = o_t_now ∧ (t_steps_90) = o_t_steps ∧ (t_why_125) = o_t_why ∧ (t_more_125) = o_t_more := ⟨congrArg (fun z => z.1) hJ, congrArg (fun z => z.2.1) hJ, congrArg (fun z => z.2.2.1) hJ, congrArg (fun z => z.2.2.2.1) hJ, congrArg (fun z => z.2.2.2.2.1) hJ, congrArg (fun z => z.2.2.2.2.2.1) hJ, congrArg (fun z => z.2.2.2.2.2.2) hJ⟩
                  exact hRet (by rw [← e1, ← e2, ← e3, ← e4, ← e5, ← e6]; exact hP) (by rw [← e1, ← e2, ← e3, ← e4, ← e5, ← e6]; exact hD) hS e0 dX10_wires_128
            · refine lv_aload_n hx hb dX10_wires_75 rfl (lv_at hl 0 rfl) ?_
              refine lv_iconst (v := (4 : Int32)) hx hb dX10_wires_76 (by decide) ?_
              refine lv_aload_n hx hb dX10_wires_77 rfl (lv_at hl 0 rfl) ?_
              refine lv_iload_n hx hb dX10_wires_78 rfl (lv_at hl 1 rfl) ?_
              refine lv_iload_n hx hb dX10_wires_79 rfl (lv_at hl 2 rfl) ?_
              obtain ⟨x80, hc80, hJ⟩ := bnd1_some hJ
              refine jcV_i (C := RX10) (T := TX10) (N := 24) (ci := 8) (q0 := 0) (As := [.int v1, .int v2]) (rest := [.int (4 : Int32), .ref q_t]) (isC := [0, 1]) (isR := [2, 3, 4]) (isB := [3, 4, 0, 1, 2]) (wr := [(q_t_steps, .inl (cI, 16, .inl t_steps)), (q_t_why, .inl (cI, 4, .inl t_why)), (q_t_more, .inl (cI, 4, .inl t_more))]) (ws2 := [(q_t, .inr (8, [.ref q_t_now, .ref q_t_tried, .ref q_t_thought, .ref q_t_kept, .int t_undos, .ref q_t_saved, .int t_isSaved, .ref q_t_finds, .ref q_t_reach, .ref q_t_steps, .ref q_t_glows, .ref q_t_lower, .ref q_t_upper, .ref q_t_line, .int t_lined, .ref q_t_text, .int t_length, .int t_at, .int t_order, .ref q_t_told, .ref q_t_why, .ref q_t_more, .int t_whys, .int t_answer])), (q_t_now, .inl (cI, 133, .inl t_now)), (q_t_steps, .inl (cI, 16, .inl t_steps)), (q_t_why, .inl (cI, 4, .inl t_why)), (q_t_more, .inl (cI, 4, .inl t_more))]) hF (c_X10_wired l D cI cJ cC cL q_t q_t_now q_t_tried q_t_thought q_t_kept q_t_saved q_t_finds q_t_reach q_t_steps q_t_glows q_t_lower q_t_upper q_t_line q_t_text q_t_told q_t_why q_t_more t_undos t_isSaved t_lined t_length t_at t_order t_whys t_answer t_now v1 v2 x80 hc80 H.size) (cwV 2 hts gX10_wires_X10_wired rfl rfl rfl (by decide +kernel) ⟨Nat.le_of_ble_eq_true rfl, Nat.le_of_ble_eq_true rfl⟩) rfl hl rfl (Nat.le_of_ble_eq_true rfl) dX10_wires_80 ⟨Nat.zero_le _, Nat.zero_le _⟩ hK hN KX_T trivial hP hD hS hA rfl rfl rfl rfl rfl rfl (by decide) rfl rfl (fun H locs hP hD hS => ?_)
              obtain ⟨x83, t_whys_83, t_why_83, t_more_83, hc83, hJ⟩ := bnd4_some hJ
              refine jcV_i (C := RX10) (T := TX10) (N := 24) (ci := 8) (q0 := 0) (As := [.int (4 : Int32), .int x80]) (rest := []) (isC := [0, 3, 4]) (isR := [1, 2]) (isB := [2, 0, 1, 3, 4]) (wr := [(q_t_now, .inl (cI, 133, .inl t_now)), (q_t_steps, .inl (cI, 16, .inl t_steps))]) (ws2 := [(q_t, .inr (8, [.ref q_t_now, .ref q_t_tried, .ref q_t_thought, .ref q_t_kept, .int t_undos, .ref q_t_saved, .int t_isSaved, .ref q_t_finds, .ref q_t_reach, .ref q_t_steps, .ref q_t_glows, .ref q_t_lower, .ref q_t_upper, .ref q_t_line, .int t_lined, .ref q_t_text, .int t_length, .int t_at, .int t_order, .ref q_t_told, .ref q_t_why, .ref q_t_more, .int t_whys_83, .int t_answer])), (q_t_now, .inl (cI, 133, .inl t_now)), (q_t_steps, .inl (cI, 16, .inl t_steps)), (q_t_why, .inl (cI, 4, .inl t_why_83)), (q_t_more, .inl (cI, 4, .inl t_more_83))]) hF (c_X10_refuses l D cI cJ cC cL q_t q_t_now q_t_tried q_t_thought q_t_kept q_t_saved q_t_finds q_t_reach q_t_steps q_t_glows q_t_lower q_t_upper q_t_line q_t_text q_t_told q_t_why q_t_more t_undos t_isSaved t_lined t_length t_at t_order t_whys t_answer t_why t_more (4 : Int32) x80 x83 t_whys_83 t_why_83 t_more_83 hc83 H.size) (cwV 2 hts gX10_wires_X10_refuses rfl rfl rfl (by decide +kernel) ⟨Nat.le_of_ble_eq_true rfl, Nat.le_of_ble_eq_true rfl⟩) rfl hl rfl (Nat.le_of_ble_eq_true rfl) dX10_wires_83 ⟨Nat.zero_le _, Nat.zero_le _⟩ hK hN KX_T trivial hP hD hS hA rfl rfl rfl rfl rfl rfl (by decide) rfl rfl (fun H locs hP hD hS => ?_)
              have hJ := Option.some.inj hJ
              obtain ⟨e0, e1, e2, e3, e4, e5, e6⟩ : (x83) = r ∧ (t_whys_83) = o_t_whys ∧ (t_answer) = o_t_answer ∧ (t_now) = o_t_now ∧ (t_steps) = o_t_steps ∧ (t_why_83) = o_t_why ∧ (t_more_83) = o_t_more := ⟨congrArg (fun z => z.1) hJ, congrArg (fun z => z.2.1) hJ, congrArg (fun z => z.2.2.1) hJ, congrArg (fun z => z.2.2.2.1) hJ, congrArg (fun z => z.2.2.2.2.1) hJ, congrArg (fun z => z.2.2.2.2.2.1) hJ, congrArg (fun z => z.2.2.2.2.2.2) hJ⟩
              exact hRet (by rw [← e1, ← e2, ← e3, ← e4, ← e5, ← e6]; exact hP) (by rw [← e1, ← e2, ← e3, ← e4, ← e5, ← e6]; exact hD) hS e0 dX10_wires_86
          · refine lv_aload_n hx hb dX10_wires_55 rfl (lv_at hl 0 rfl) ?_
            refine lv_iconst (v := (3 : Int32)) hx hb dX10_wires_56 (by decide) ?_
            refine lv_aload_n hx hb dX10_wires_57 rfl (lv_at hl 0 rfl) ?_
            refine lv_iload_n hx hb dX10_wires_58 rfl (lv_at hl 1 rfl) ?_
            obtain ⟨x59, hc59, hJ⟩ := bnd1_some hJ
            refine jcV_i (C := RX10) (T := TX10) (N := 24) (ci := 8) (q0 := 0) (As := [.int v1]) (rest := [.int (3 : Int32), .ref q_t]) (isC := [0, 1]) (isR := [2, 3, 4]) (isB := [3, 4, 0, 1, 2]) (wr := [(q_t_steps, .inl (cI, 16, .inl t_steps)), (q_t_why, .inl (cI, 4, .inl t_why)), (q_t_more, .inl (cI, 4, .inl t_more))]) (ws2 := [(q_t, .inr (8, [.ref q_t_now, .ref q_t_tried, .ref q_t_thought, .ref q_t_kept, .int t_undos, .ref q_t_saved, .int t_isSaved, .ref q_t_finds, .ref q_t_reach, .ref q_t_steps, .ref q_t_glows, .ref q_t_lower, .ref q_t_upper, .ref q_t_line, .int t_lined, .ref q_t_text, .int t_length, .int t_at, .int t_order, .ref q_t_told, .ref q_t_why, .ref q_t_more, .int t_whys, .int t_answer])), (q_t_now, .inl (cI, 133, .inl t_now)), (q_t_steps, .inl (cI, 16, .inl t_steps)), (q_t_why, .inl (cI, 4, .inl t_why)), (q_t_more, .inl (cI, 4, .inl t_more))]) hF (c_X10_places l D cI cJ cC cL q_t q_t_now q_t_tried q_t_thought q_t_kept q_t_saved q_t_finds q_t_reach q_t_steps q_t_glows q_t_lower q_t_upper q_t_line q_t_text q_t_told q_t_why q_t_more t_undos t_isSaved t_lined t_length t_at t_order t_whys t_answer t_now v1 x59 hc59 H.size) (cwV 1 hts gX10_wires_X10_places rfl rfl rfl (by decide +kernel) ⟨Nat.le_of_ble_eq_true rfl, Nat.le_of_ble_eq_true rfl⟩) rfl hl rfl (Nat.le_of_ble_eq_true rfl) dX10_wires_59 ⟨Nat.zero_le _, Nat.zero_le _⟩ hK hN KX_T trivial hP hD hS hA rfl rfl rfl rfl rfl rfl (by decide) rfl rfl (fun H locs hP hD hS => ?_)
            obtain ⟨x62, t_whys_62, t_why_62, t_more_62, hc62, hJ⟩ := bnd4_some hJ
            refine jcV_i (C := RX10) (T := TX10) (N := 24) (ci := 8) (q0 := 0) (As := [.int (3 : Int32), .int x59]) (rest := []) (isC := [0, 3, 4]) (isR := [1, 2]) (isB := [2, 0, 1, 3, 4]) (wr := [(q_t_now, .inl (cI, 133, .inl t_now)), (q_t_steps, .inl (cI, 16, .inl t_steps))]) (ws2 := [(q_t, .inr (8, [.ref q_t_now, .ref q_t_tried, .ref q_t_thought, .ref q_t_kept, .int t_undos, .ref q_t_saved, .int t_isSaved, .ref q_t_finds, .ref q_t_reach, .ref q_t_steps, .ref q_t_glows, .ref q_t_lower, .ref q_t_upper, .ref q_t_line, .int t_lined, .ref q_t_text, .int t_length, .int t_at, .int t_order, .ref q_t_told, .ref q_t_why, .ref q_t_more, .int t_whys_62, .int t_answer])), (q_t_now, .inl (cI, 133, .inl t_now)), (q_t_steps, .inl (cI, 16, .inl t_steps)), (q_t_why, .inl (cI, 4, .inl t_why_62)), (q_t_more, .inl (cI, 4, .inl t_more_62))]) hF (c_X10_refuses l D cI cJ cC cL q_t q_t_now q_t_tried q_t_thought q_t_kept q_t_saved q_t_finds q_t_reach q_t_steps q_t_glows q_t_lower q_t_upper q_t_line q_t_text q_t_told q_t_why q_t_more t_undos t_isSaved t_lined t_length t_at t_order t_whys t_answer t_why t_more (3 : Int32) x59 x62 t_whys_62 t_why_62 t_more_62 hc62 H.size) (cwV 2 hts gX10_wires_X10_refuses rfl rfl rfl (by decide +kernel) ⟨Nat.le_of_ble_eq_true rfl, Nat.le_of_ble_eq_true rfl⟩) rfl hl rfl (Nat.le_of_ble_eq_true rfl) dX10_wires_62 ⟨Nat.zero_le _, Nat.zero_le _⟩ hK hN KX_T trivial hP hD hS hA rfl rfl rfl rfl rfl rfl (by decide) rfl rfl (fun H locs hP hD hS => ?_)
            have hJ := Option.some.inj hJ
            obtain ⟨e0, e1, e2, e3, e4, e5, e6⟩ : (x62) = r ∧ (t_whys_62) = o_t_whys ∧ (t_answer) = o_t_answer ∧ (t_now) = o_t_now ∧ (t_steps) = o_t_steps ∧ (t_why_62) = o_t_why ∧ (t_more_62) = o_t_more := ⟨congrArg (fun z => z.1) hJ, congrArg (fun z => z.2.1) hJ, congrArg (fun z => z.2.2.1) hJ, congrArg (fun z => z.2.2.2.1) hJ, congrArg (fun z => z.2.2.2.2.1) hJ, congrArg (fun z => z.2.2.2.2.2.1) hJ, congrArg (fun z => z.2.2.2.2.2.2) hJ⟩
            exact hRet (by rw [← e1, ← e2, ← e3, ← e4, ← e5, ← e6]; exact hP) (by rw [← e1, ← e2, ← e3, ← e4, ← e5, ← e6]; exact hD) hS e0 dX10_wires_65
        · refine lv_aload_n hx hb dX10_wires_39 rfl (lv_at hl 0 rfl) ?_
          refine lv_iconst (v := (2 : Int32)) hx hb dX10_wires_40 (by decide) ?_
          refine lv_iload_n hx hb dX10_wires_41 rfl (lv_at hl 1 rfl) ?_
          obtain ⟨x42, t_whys_42, t_why_42, t_more_42, hc42, hJ⟩ := bnd4_some hJ
          refine jcV_i (C := RX10) (T := TX10) (N := 24) (ci := 8) (q0 := 0) (As := [.int (2 : Int32), .int v1]) (rest := []) (isC := [0, 3, 4]) (isR := [1, 2]) (isB := [2, 0, 1, 3, 4]) (wr := [(q_t_now, .inl (cI, 133, .inl t_now)), (q_t_steps, .inl (cI, 16, .inl t_steps))]) (ws2 := [(q_t, .inr (8, [.ref q_t_now, .ref q_t_tried, .ref q_t_thought, .ref q_t_kept, .int t_undos, .ref q_t_saved, .int t_isSaved, .ref q_t_finds, .ref q_t_reach, .ref q_t_steps, .ref q_t_glows, .ref q_t_lower, .ref q_t_upper, .ref q_t_line, .int t_lined, .ref q_t_text, .int t_length, .int t_at, .int t_order, .ref q_t_told, .ref q_t_why, .ref q_t_more, .int t_whys_42, .int t_answer])), (q_t_now, .inl (cI, 133, .inl t_now)), (q_t_steps, .inl (cI, 16, .inl t_steps)), (q_t_why, .inl (cI, 4, .inl t_why_42)), (q_t_more, .inl (cI, 4, .inl t_more_42))]) hF (c_X10_refuses l D cI cJ cC cL q_t q_t_now q_t_tried q_t_thought q_t_kept q_t_saved q_t_finds q_t_reach q_t_steps q_t_glows q_t_lower q_t_upper q_t_line q_t_text q_t_told q_t_why q_t_more t_undos t_isSaved t_lined t_length t_at t_order t_whys t_answer t_why t_more (2 : Int32) v1 x42 t_whys_42 t_why_42 t_more_42 hc42 H.size) (cwV 2 hts gX10_wires_X10_refuses rfl rfl rfl (by decide +kernel) ⟨Nat.le_of_ble_eq_true rfl, Nat.le_of_ble_eq_true rfl⟩) rfl hl rfl (Nat.le_of_ble_eq_true rfl) dX10_wires_42 ⟨Nat.zero_le _, Nat.zero_le _⟩ hK hN KX_T trivial hP hD hS hA rfl rfl rfl rfl rfl rfl (by decide) rfl rfl (fun H locs hP hD hS => ?_)
          have hJ := Option.some.inj hJ
          obtain ⟨e0, e1, e2, e3, e4, e5, e6⟩ : (x42) = r ∧ (t_whys_42) = o_t_whys ∧ (t_answer) = o_t_answer ∧ (t_now) = o_t_now ∧ (t_steps) = o_t_steps ∧ (t_why_42) = o_t_why ∧ (t_more_42) = o_t_more := ⟨congrArg (fun z => z.1) hJ, congrArg (fun z => z.2.1) hJ, congrArg (fun z => z.2.2.1) hJ, congrArg (fun z => z.2.2.2.1) hJ, congrArg (fun z => z.2.2.2.2.1) hJ, congrArg (fun z => z.2.2.2.2.2.1) hJ, congrArg (fun z => z.2.2.2.2.2.2) hJ⟩
          exact hRet (by rw [← e1, ← e2, ← e3, ← e4, ← e5, ← e6]; exact hP) (by rw [← e1, ← e2, ← e3, ← e4, ← e5, ← e6]; exact hD) hS e0 dX10_wires_45
      · refine lv_bipush (v := (-12 : Int32)) hx hb dX10_wires_28 (by decide) ?_
        have hJ := Option.some.inj hJ
        obtain ⟨e0, e1, e2, e3, e4, e5, e6⟩ : ((-12 : Int32)) = r ∧ (t_whys) = o_t_whys ∧ (t_answer) = o_t_answer ∧ (t_now) = o_t_now ∧ (t_steps) = o_t_steps ∧ (t_why) = o_t_why ∧ (t_more) = o_t_more := ⟨congrArg (fun z => z.1) hJ, congrArg (fun z => z.2.1) hJ, congrArg (fun z => z.2.2.1) hJ, congrArg (fun z => z.2.2.2.1) hJ, congrArg (fun z => z.2.2.2.2.1) hJ, congrArg (fun z => z.2.2.2.2.2.1) hJ, congrArg (fun z => z.2.2.2.2.2.2) hJ⟩
        exact hRet (by rw [← e1, ← e2, ← e3, ← e4, ← e5, ← e6]; exact hP) (by rw [← e1, ← e2, ← e3, ← e4, ← e5, ← e6]; exact hD) hS e0 dX10_wires_30
    · exact B16  t_whys t_answer t_now t_steps t_why t_more  H locs  hP hD hS _ (lv_sub hl [] rfl) hJ

def J_X10_wire (t_undos : Int32) (t_whys : Int32) (t_answer : Int32) (t_now : Nat → Int32) (t_tried : Nat → Int32) (t_kept : Nat → Int32) (t_steps : Nat → Int32) (t_why : Nat → Int32) (t_more : Nat → Int32) (v1 : Int32) (v2 : Int32) (v3 : Int32) : Option (Int32 × Int32 × Int32 × Int32 × (Nat → Int32) × (Nat → Int32) × (Nat → Int32) × (Nat → Int32) × (Nat → Int32) × (Nat → Int32)) :=
    bnd1 (J_X10_tries t_now t_tried) fun t_tried_1 =>
    bnd7 (J_X10_wires t_whys t_answer t_now t_steps t_why t_more v1 v2 v3) fun x9 t_whys_9 t_answer_9 t_now_9 t_steps_9 t_why_9 t_more_9 =>
    bnd3 (J_X10_ends t_undos t_answer_9 t_tried_1 t_kept x9) fun x12 t_undos_12 t_kept_12 =>
    some (x12, t_undos_12, t_whys_9, t_answer_9, t_now_9, t_tried_1, t_kept_12, t_steps_9, t_why_9, t_more_9)
abbrev rmX10_wire : Room := { frames := 4, cells := 0, slots := 0, locals := 94 }
set_option maxHeartbeats 4000000 in
set_option maxRecDepth 100000 in
theorem c_X10_wire (l : Launch) (D : va_G) (cI cJ cC cL : ClassId) (q_t q_t_now q_t_tried q_t_thought q_t_kept q_t_saved q_t_finds q_t_reach q_t_steps q_t_glows q_t_lower q_t_upper q_t_line q_t_text q_t_told q_t_why q_t_more : Nat) (t_undos : Int32) (t_isSaved : Int32) (t_lined : Int32) (t_length : Int32) (t_at : Int32) (t_order : Int32) (t_whys : Int32) (t_answer : Int32) (t_now : Nat → Int32) (t_tried : Nat → Int32) (t_kept : Nat → Int32) (t_steps : Nat → Int32) (t_why : Nat → Int32) (t_more : Nat → Int32) (v1 : Int32) (v2 : Int32) (v3 : Int32) (r : Int32) (o_t_undos : Int32) (o_t_whys : Int32) (o_t_answer : Int32) (o_t_now : Nat → Int32) (o_t_tried : Nat → Int32) (o_t_kept : Nat → Int32) (o_t_steps : Nat → Int32) (o_t_why : Nat → Int32) (o_t_more : Nat → Int32) (hJ : J_X10_wire t_undos t_whys t_answer t_now t_tried t_kept t_steps t_why t_more v1 v2 v3 = some (r, o_t_undos, o_t_whys, o_t_answer, o_t_now, o_t_tried, o_t_kept, o_t_steps, o_t_why, o_t_more)) (sz : Nat) : Met l yX10_wire wsX10_wire rmX10_wire (va_Pc [.ref q_t, .int v1, .int v2, .int v3] (jpre XT D (tyL cI cJ cC cL) [(q_t, .inr (8, [.ref q_t_now, .ref q_t_tried, .ref q_t_thought, .ref q_t_kept, .int t_undos, .ref q_t_saved, .int t_isSaved, .ref q_t_finds, .ref q_t_reach, .ref q_t_steps, .ref q_t_glows, .ref q_t_lower, .ref q_t_upper, .ref q_t_line, .int t_lined, .ref q_t_text, .int t_length, .int t_at, .int t_order, .ref q_t_told, .ref q_t_why, .ref q_t_more, .int t_whys, .int t_answer])), (q_t_now, .inl (cI, 133, .inl t_now)), (q_t_tried, .inl (cI, 133, .inl t_tried)), (q_t_kept, .inl (cI, 1064, .inl t_kept)), (q_t_steps, .inl (cI, 16, .inl t_steps)), (q_t_why, .inl (cI, 4, .inl t_why)), (q_t_more, .inl (cI, 4, .inl t_more))] sz)) (va_Qi (fun r' (_ : Unit) => r' = r) (fun _ t => jpost D (tyL cI cJ cC cL) (va_A [(q_t, .inr (8, [.ref q_t_now, .ref q_t_tried, .ref q_t_thought, .ref q_t_kept, .int t_undos, .ref q_t_saved, .int t_isSaved, .ref q_t_finds, .ref q_t_reach, .ref q_t_steps, .ref q_t_glows, .ref q_t_lower, .ref q_t_upper, .ref q_t_line, .int t_lined, .ref q_t_text, .int t_length, .int t_at, .int t_order, .ref q_t_told, .ref q_t_why, .ref q_t_more, .int t_whys, .int t_answer])), (q_t_now, .inl (cI, 133, .inl t_now)), (q_t_tried, .inl (cI, 133, .inl t_tried)), (q_t_kept, .inl (cI, 1064, .inl t_kept)), (q_t_steps, .inl (cI, 16, .inl t_steps)), (q_t_why, .inl (cI, 4, .inl t_why)), (q_t_more, .inl (cI, 4, .inl t_more))] sz) [(q_t, .inr (8, [.ref q_t_now, .ref q_t_tried, .ref q_t_thought, .ref q_t_kept, .int o_t_undos, .ref q_t_saved, .int t_isSaved, .ref q_t_finds, .ref q_t_reach, .ref q_t_steps, .ref q_t_glows, .ref q_t_lower, .ref q_t_upper, .ref q_t_line, .int t_lined, .ref q_t_text, .int t_length, .int t_at, .int t_order, .ref q_t_told, .ref q_t_why, .ref q_t_more, .int o_t_whys, .int o_t_answer])), (q_t_now, .inl (cI, 133, .inl o_t_now)), (q_t_tried, .inl (cI, 133, .inl o_t_tried)), (q_t_kept, .inl (cI, 1064, .inl o_t_kept)), (q_t_steps, .inl (cI, 16, .inl o_t_steps)), (q_t_why, .inl (cI, 4, .inl o_t_why)), (q_t_more, .inl (cI, 4, .inl o_t_more))] t) (va_A [(q_t, .inr (8, [.ref q_t_now, .ref q_t_tried, .ref q_t_thought, .ref q_t_kept, .int t_undos, .ref q_t_saved, .int t_isSaved, .ref q_t_finds, .ref q_t_reach, .ref q_t_steps, .ref q_t_glows, .ref q_t_lower, .ref q_t_upper, .ref q_t_line, .int t_lined, .ref q_t_text, .int t_length, .int t_at, .int t_order, .ref q_t_told, .ref q_t_why, .ref q_t_more, .int t_whys, .int t_answer])), (q_t_now, .inl (cI, 133, .inl t_now)), (q_t_tried, .inl (cI, 133, .inl t_tried)), (q_t_kept, .inl (cI, 1064, .inl t_kept)), (q_t_steps, .inl (cI, 16, .inl t_steps)), (q_t_why, .inl (cI, 4, .inl t_why)), (q_t_more, .inl (cI, 4, .inl t_more))] sz)) 0 0 (va_A [(q_t, .inr (8, [.ref q_t_now, .ref q_t_tried, .ref q_t_thought, .ref q_t_kept, .int t_undos, .ref q_t_saved, .int t_isSaved, .ref q_t_finds, .ref q_t_reach, .ref q_t_steps, .ref q_t_glows, .ref q_t_lower, .ref q_t_upper, .ref q_t_line, .int t_lined, .ref q_t_text, .int t_length, .int t_at, .int t_order, .ref q_t_told, .ref q_t_why, .ref q_t_more, .int t_whys, .int t_answer])), (q_t_now, .inl (cI, 133, .inl t_now)), (q_t_tried, .inl (cI, 133, .inl t_tried)), (q_t_kept, .inl (cI, 1064, .inl t_kept)), (q_t_steps, .inl (cI, 16, .inl t_steps)), (q_t_why, .inl (cI, 4, .inl t_why)), (q_t_more, .inl (cI, 4, .inl t_more))] sz) := by
  refine jE_i (cc := cX10_wire) (maxL := 4) (own := RX10) (ret := (some .int)) (lv0 := [(0, .ref q_t), (1, .int v1), (2, .int v2), (3, .int v3)]) (by decide) rfl rfl rfl (Nat.le_of_ble_eq_true rfl) rfl ?_
  intro p e s m args below meth c A Q ls hx hb hml hown hts hK hN hX hA hP hD hS hl hRet
  have hF : CallFix p m c cX10_wire 4 s args wsX10_wire RX10 := ⟨hx, hb, hml, hown, hts⟩
  unfold J_X10_wire at hJ
  refine lv_aload_n hx hb dX10_wire_0 rfl (lv_at hl 0 rfl) ?_
  obtain ⟨t_tried_1, hc1, hJ⟩ := bnd1_some hJ
  refine jcV_v (C := RX10) (T := TX10) (N := 24) (ci := 8) (q0 := 0) (As := []) (rest := []) (isC := [0, 1, 2]) (isR := [3, 4, 5, 6]) (isB := [4, 5, 6, 0, 1, 2, 3]) (wr := [(q_t_kept, .inl (cI, 1064, .inl t_kept)), (q_t_steps, .inl (cI, 16, .inl t_steps)), (q_t_why, .inl (cI, 4, .inl t_why)), (q_t_more, .inl (cI, 4, .inl t_more))]) (ws2 := [(q_t, .inr (8, [.ref q_t_now, .ref q_t_tried, .ref q_t_thought, .ref q_t_kept, .int t_undos, .ref q_t_saved, .int t_isSaved, .ref q_t_finds, .ref q_t_reach, .ref q_t_steps, .ref q_t_glows, .ref q_t_lower, .ref q_t_upper, .ref q_t_line, .int t_lined, .ref q_t_text, .int t_length, .int t_at, .int t_order, .ref q_t_told, .ref q_t_why, .ref q_t_more, .int t_whys, .int t_answer])), (q_t_now, .inl (cI, 133, .inl t_now)), (q_t_tried, .inl (cI, 133, .inl t_tried_1)), (q_t_kept, .inl (cI, 1064, .inl t_kept)), (q_t_steps, .inl (cI, 16, .inl t_steps)), (q_t_why, .inl (cI, 4, .inl t_why)), (q_t_more, .inl (cI, 4, .inl t_more))]) hF (c_X10_tries l D cI cJ cC cL q_t q_t_now q_t_tried q_t_thought q_t_kept q_t_saved q_t_finds q_t_reach q_t_steps q_t_glows q_t_lower q_t_upper q_t_line q_t_text q_t_told q_t_why q_t_more t_undos t_isSaved t_lined t_length t_at t_order t_whys t_answer t_now t_tried t_tried_1 hc1 s.heap.size) (cwV 0 hts gX10_wire_X10_tries rfl rfl rfl (by decide +kernel) ⟨Nat.le_of_ble_eq_true rfl, Nat.le_of_ble_eq_true rfl⟩) rfl hl rfl (Nat.le_of_ble_eq_true rfl) dX10_wire_1 ⟨Nat.zero_le _, Nat.zero_le _⟩ hK hN KX_T trivial hP hD hS hA rfl rfl rfl rfl rfl rfl (by decide) rfl rfl (fun H locs hP hD hS => ?_)
  refine lv_aload_n hx hb dX10_wire_4 rfl (lv_at hl 0 rfl) ?_
  refine lv_aload_n hx hb dX10_wire_5 rfl (lv_at hl 0 rfl) ?_
  refine lv_iload_n hx hb dX10_wire_6 rfl (lv_at hl 1 rfl) ?_
  refine lv_iload_n hx hb dX10_wire_7 rfl (lv_at hl 2 rfl) ?_
  refine lv_iload_n hx hb dX10_wire_8 rfl (lv_at hl 3 rfl) ?_
  obtain ⟨x9, t_whys_9, t_answer_9, t_now_9, t_steps_9, t_why_9, t_more_9, hc9, hJ⟩ := bnd7_some hJ
  refine jcV_i (C := RX10) (T := TX10) (N := 24) (ci := 8) (q0 := 0) (As := [.int v1, .int v2, .int v3]) (rest := [.ref q_t]) (isC := [0, 1, 4, 5, 6]) (isR := [2, 3]) (isB := [2, 3, 0, 1, 4, 5, 6]) (wr := [(q_t_tried, .inl (cI, 133, .inl t_tried_1)), (q_t_kept, .inl (cI, 1064, .inl t_kept))]) (ws2 := [(q_t, .inr (8, [.ref q_t_now, .ref q_t_tried, .ref q_t_thought, .ref q_t_kept, .int t_undos, .ref q_t_saved, .int t_isSaved, .ref q_t_finds, .ref q_t_reach, .ref q_t_steps, .ref q_t_glows, .ref q_t_lower, .ref q_t_upper, .ref q_t_line, .int t_lined, .ref q_t_text, .int t_length, .int t_at, .int t_order, .ref q_t_told, .ref q_t_why, .ref q_t_more, .int t_whys_9, .int t_answer_9])), (q_t_now, .inl (cI, 133, .inl t_now_9)), (q_t_tried, .inl (cI, 133, .inl t_tried_1)), (q_t_kept, .inl (cI, 1064, .inl t_kept)), (q_t_steps, .inl (cI, 16, .inl t_steps_9)), (q_t_why, .inl (cI, 4, .inl t_why_9)), (q_t_more, .inl (cI, 4, .inl t_more_9))]) hF (c_X10_wires l D cI cJ cC cL q_t q_t_now q_t_tried q_t_thought q_t_kept q_t_saved q_t_finds q_t_reach q_t_steps q_t_glows q_t_lower q_t_upper q_t_line q_t_text q_t_told q_t_why q_t_more t_undos t_isSaved t_lined t_length t_at t_order t_whys t_answer t_now t_steps t_why t_more v1 v2 v3 x9 t_whys_9 t_answer_9 t_now_9 t_steps_9 t_why_9 t_more_9 hc9 H.size) (cwV 3 hts gX10_wire_X10_wires rfl rfl rfl (by decide +kernel) ⟨Nat.le_of_ble_eq_true rfl, Nat.le_of_ble_eq_true rfl⟩) rfl hl rfl (Nat.le_of_ble_eq_true rfl) dX10_wire_9 ⟨Nat.zero_le _, Nat.zero_le _⟩ hK hN KX_T trivial hP hD hS hA rfl rfl rfl rfl rfl rfl (by decide) rfl rfl (fun H locs hP hD hS => ?_)
  obtain ⟨x12, t_undos_12, t_kept_12, hc12, hJ⟩ := bnd3_some hJ
  refine jcV_i (C := RX10) (T := TX10) (N := 24) (ci := 8) (q0 := 0) (As := [.int x9]) (rest := []) (isC := [0, 2, 3]) (isR := [1, 4, 5, 6]) (isB := [4, 0, 5, 6, 1, 2, 3]) (wr := [(q_t_now, .inl (cI, 133, .inl t_now_9)), (q_t_steps, .inl (cI, 16, .inl t_steps_9)), (q_t_why, .inl (cI, 4, .inl t_why_9)), (q_t_more, .inl (cI, 4, .inl t_more_9))]) (ws2 := [(q_t, .inr (8, [.ref q_t_now, .ref q_t_tried, .ref q_t_thought, .ref q_t_kept, .int t_undos_12, .ref q_t_saved, .int t_isSaved, .ref q_t_finds, .ref q_t_reach, .ref q_t_steps, .ref q_t_glows, .ref q_t_lower, .ref q_t_upper, .ref q_t_line, .int t_lined, .ref q_t_text, .int t_length, .int t_at, .int t_order, .ref q_t_told, .ref q_t_why, .ref q_t_more, .int t_whys_9, .int t_answer_9])), (q_t_now, .inl (cI, 133, .inl t_now_9)), (q_t_tried, .inl (cI, 133, .inl t_tried_1)), (q_t_kept, .inl (cI, 1064, .inl t_kept_12)), (q_t_steps, .inl (cI, 16, .inl t_steps_9)), (q_t_why, .inl (cI, 4, .inl t_why_9)), (q_t_more, .inl (cI, 4, .inl t_more_9))]) hF (c_X10_ends l D cI cJ cC cL q_t q_t_now q_t_tried q_t_thought q_t_kept q_t_saved q_t_finds q_t_reach q_t_steps q_t_glows q_t_lower q_t_upper q_t_line q_t_text q_t_told q_t_why q_t_more t_undos t_isSaved t_lined t_length t_at t_order t_whys_9 t_answer_9 t_tried_1 t_kept x9 x12 t_undos_12 t_kept_12 hc12 H.size) (cwV 1 hts gX10_wire_X10_ends rfl rfl rfl (by decide +kernel) ⟨Nat.le_of_ble_eq_true rfl, Nat.le_of_ble_eq_true rfl⟩) rfl hl rfl (Nat.le_of_ble_eq_true rfl) dX10_wire_12 ⟨Nat.zero_le _, Nat.zero_le _⟩ hK hN KX_T trivial hP hD hS hA rfl rfl rfl rfl rfl rfl (by decide) rfl rfl (fun H locs hP hD hS => ?_)
  have hJ := Option.some.inj hJ
  obtain ⟨e0, e1, e2, e3, e4, e5, e6, e7, e8, e9⟩ : (x12) = r ∧ (t_undos_12) = o_t_undos ∧ (t_whys_9) = o_t_whys ∧ (t_answer_9) = o_t_answer ∧ (t_now_9) = o_t_now ∧ (t_tried_1) = o_t_tried ∧ (t_kept_12) = o_t_kept ∧ (t_steps_9) = o_t_steps ∧ (t_why_9) = o_t_why ∧ (t_more_9) = o_t_more := ⟨congrArg (fun z => z.1) hJ, congrArg (fun z => z.2.1) hJ, congrArg (fun z => z.2.2.1) hJ, congrArg (fun z => z.2.2.2.1) hJ, congrArg (fun z => z.2.2.2.2.1) hJ, congrArg (fun z => z.2.2.2.2.2.1) hJ, congrArg (fun z => z.2.2.2.2.2.2.1) hJ, congrArg (fun z => z.2.2.2.2.2.2.2.1) hJ, congrArg (fun z => z.2.2.2.2.2.2.2.2.1) hJ, congrArg (fun z => z.2.2.2.2.2.2.2.2.2) hJ⟩
  exact hRet (by rw [← e1, ← e2, ← e3, ← e4, ← e5, ← e6, ← e7, ← e8, ← e9]; exact hP) (by rw [← e1, ← e2, ← e3, ← e4, ← e5, ← e6, ← e7, ← e8, ← e9]; exact hD) hS e0 dX10_wire_15

def J_X10_cuts (t_whys : Int32) (t_answer : Int32) (t_now : Nat → Int32) (t_why : Nat → Int32) (t_more : Nat → Int32) (v1 : Int32) (v2 : Int32) : Option (Int32 × Int32 × Int32 × (Nat → Int32) × (Nat → Int32) × (Nat → Int32)) :=
    bnd1 (J_X10_isLantern t_now v1) fun x2 =>
    if x2 = 0 then (
    some ((-11 : Int32), t_whys, t_answer, t_now, t_why, t_more))
    else (
    bnd1 (J_X10_in v2 (0 : Int32) (2 : Int32)) fun x14 =>
    if x14 = 0 then (
    some ((-12 : Int32), t_whys, t_answer, t_now, t_why, t_more))
    else (
    bnd1 (J_X10_isSwitch t_now v1) fun x25 =>
    if x25 = 0 then (
    bnd1 (J_X10_places t_now v1) fun x41 =>
    if v2 < x41 then (
    bnd1 (J_X10_wired t_now v1 v2) fun x61 =>
    if 0 ≤ x61 then (
    nm ((4 : Int32) + v2) fun x80 =>
    bnd1 (J_X10_sets t_now v1 x80 (0 : Int32)) fun t_now_82 =>
    bnd2 (J_X10_does x61) fun x87 t_answer_87 =>
    some (x87, t_whys, t_answer_87, t_now_82, t_why, t_more))
    else (
    bnd4 (J_X10_refuses t_why t_more (5 : Int32) v2) fun x72 t_whys_72 t_why_72 t_more_72 =>
    some (x72, t_whys_72, t_answer, t_now, t_why_72, t_more_72)))
    else (
    bnd1 (J_X10_places t_now v1) fun x51 =>
    bnd4 (J_X10_refuses t_why t_more (3 : Int32) x51) fun x54 t_whys_54 t_why_54 t_more_54 =>
    some (x54, t_whys_54, t_answer, t_now, t_why_54, t_more_54)))
    else (
    bnd4 (J_X10_refuses t_why t_more (2 : Int32) v1) fun x34 t_whys_34 t_why_34 t_more_34 =>
    some (x34, t_whys_34, t_answer, t_now, t_why_34, t_more_34))))
abbrev rmX10_cuts : Room := { frames := 2, cells := 0, slots := 0, locals := 44 }
set_option maxHeartbeats 4000000 in
set_option maxRecDepth 100000 in
theorem c_X10_cuts (l : Launch) (D : va_G) (cI cJ cC cL : ClassId) (q_t q_t_now q_t_tried q_t_thought q_t_kept q_t_saved q_t_finds q_t_reach q_t_steps q_t_glows q_t_lower q_t_upper q_t_line q_t_text q_t_told q_t_why q_t_more : Nat) (t_undos : Int32) (t_isSaved : Int32) (t_lined : Int32) (t_length : Int32) (t_at : Int32) (t_order : Int32) (t_whys : Int32) (t_answer : Int32) (t_now : Nat → Int32) (t_why : Nat → Int32) (t_more : Nat → Int32) (v1 : Int32) (v2 : Int32) (r : Int32) (o_t_whys : Int32) (o_t_answer : Int32) (o_t_now : Nat → Int32) (o_t_why : Nat → Int32) (o_t_more : Nat → Int32) (hJ : J_X10_cuts t_whys t_answer t_now t_why t_more v1 v2 = some (r, o_t_whys, o_t_answer, o_t_now, o_t_why, o_t_more)) (sz : Nat) : Met l yX10_cuts wsX10_cuts rmX10_cuts (va_Pc [.ref q_t, .int v1, .int v2] (jpre XT D (tyL cI cJ cC cL) [(q_t, .inr (8, [.ref q_t_now, .ref q_t_tried, .ref q_t_thought, .ref q_t_kept, .int t_undos, .ref q_t_saved, .int t_isSaved, .ref q_t_finds, .ref q_t_reach, .ref q_t_steps, .ref q_t_glows, .ref q_t_lower, .ref q_t_upper, .ref q_t_line, .int t_lined, .ref q_t_text, .int t_length, .int t_at, .int t_order, .ref q_t_told, .ref q_t_why, .ref q_t_more, .int t_whys, .int t_answer])), (q_t_now, .inl (cI, 133, .inl t_now)), (q_t_why, .inl (cI, 4, .inl t_why)), (q_t_more, .inl (cI, 4, .inl t_more))] sz)) (va_Qi (fun r' (_ : Unit) => r' = r) (fun _ t => jpost D (tyL cI cJ cC cL) (va_A [(q_t, .inr (8, [.ref q_t_now, .ref q_t_tried, .ref q_t_thought, .ref q_t_kept, .int t_undos, .ref q_t_saved, .int t_isSaved, .ref q_t_finds, .ref q_t_reach, .ref q_t_steps, .ref q_t_glows, .ref q_t_lower, .ref q_t_upper, .ref q_t_line, .int t_lined, .ref q_t_text, .int t_length, .int t_at, .int t_order, .ref q_t_told, .ref q_t_why, .ref q_t_more, .int t_whys, .int t_answer])), (q_t_now, .inl (cI, 133, .inl t_now)), (q_t_why, .inl (cI, 4, .inl t_why)), (q_t_more, .inl (cI, 4, .inl t_more))] sz) [(q_t, .inr (8, [.ref q_t_now, .ref q_t_tried, .ref q_t_thought, .ref q_t_kept, .int t_undos, .ref q_t_saved, .int t_isSaved, .ref q_t_finds, .ref q_t_reach, .ref q_t_steps, .ref q_t_glows, .ref q_t_lower, .ref q_t_upper, .ref q_t_line, .int t_lined, .ref q_t_text, .int t_length, .int t_at, .int t_order, .ref q_t_told, .ref q_t_why, .ref q_t_more, .int o_t_whys, .int o_t_answer])), (q_t_now, .inl (cI, 133, .inl o_t_now)), (q_t_why, .inl (cI, 4, .inl o_t_why)), (q_t_more, .inl (cI, 4, .inl o_t_more))] t) (va_A [(q_t, .inr (8, [.ref q_t_now, .ref q_t_tried, .ref q_t_thought, .ref q_t_kept, .int t_undos, .ref q_t_saved, .int t_isSaved, .ref q_t_finds, .ref q_t_reach, .ref q_t_steps, .ref q_t_glows, .ref q_t_lower, .ref q_t_upper, .ref q_t_line, .int t_lined, .ref q_t_text, .int t_length, .int t_at, .int t_order, .ref q_t_told, .ref q_t_why, .ref q_t_more, .int t_whys, .int t_answer])), (q_t_now, .inl (cI, 133, .inl t_now)), (q_t_why, .inl (cI, 4, .inl t_why)), (q_t_more, .inl (cI, 4, .inl t_more))] sz)) 0 0 (va_A [(q_t, .inr (8, [.ref q_t_now, .ref q_t_tried, .ref q_t_thought, .ref q_t_kept, .int t_undos, .ref q_t_saved, .int t_isSaved, .ref q_t_finds, .ref q_t_reach, .ref q_t_steps, .ref q_t_glows, .ref q_t_lower, .ref q_t_upper, .ref q_t_line, .int t_lined, .ref q_t_text, .int t_length, .int t_at, .int t_order, .ref q_t_told, .ref q_t_why, .ref q_t_more, .int t_whys, .int t_answer])), (q_t_now, .inl (cI, 133, .inl t_now)), (q_t_why, .inl (cI, 4, .inl t_why)), (q_t_more, .inl (cI, 4, .inl t_more))] sz) := by
  refine jE_i (cc := cX10_cuts) (maxL := 4) (own := RX10) (ret := (some .int)) (lv0 := [(0, .ref q_t), (1, .int v1), (2, .int v2)]) (by decide) rfl rfl rfl (Nat.le_of_ble_eq_true rfl) rfl ?_
  intro p e s m args below meth c A Q ls hx hb hml hown hts hK hN hX hA hP hD hS hl hRet
  have hF : CallFix p m c cX10_cuts 4 s args wsX10_cuts RX10 := ⟨hx, hb, hml, hown, hts⟩
  unfold J_X10_cuts at hJ
  refine lv_aload_n hx hb dX10_cuts_0 rfl (lv_at hl 0 rfl) ?_
  refine lv_iload_n hx hb dX10_cuts_1 rfl (lv_at hl 1 rfl) ?_
  obtain ⟨x2, hc2, hJ⟩ := bnd1_some hJ
  refine jcV_i (C := RX10) (T := TX10) (N := 24) (ci := 8) (q0 := 0) (As := [.int v1]) (rest := []) (isC := [0, 1]) (isR := [2, 3]) (isB := [2, 3, 0, 1]) (wr := [(q_t_why, .inl (cI, 4, .inl t_why)), (q_t_more, .inl (cI, 4, .inl t_more))]) (ws2 := [(q_t, .inr (8, [.ref q_t_now, .ref q_t_tried, .ref q_t_thought, .ref q_t_kept, .int t_undos, .ref q_t_saved, .int t_isSaved, .ref q_t_finds, .ref q_t_reach, .ref q_t_steps, .ref q_t_glows, .ref q_t_lower, .ref q_t_upper, .ref q_t_line, .int t_lined, .ref q_t_text, .int t_length, .int t_at, .int t_order, .ref q_t_told, .ref q_t_why, .ref q_t_more, .int t_whys, .int t_answer])), (q_t_now, .inl (cI, 133, .inl t_now)), (q_t_why, .inl (cI, 4, .inl t_why)), (q_t_more, .inl (cI, 4, .inl t_more))]) hF (c_X10_isLantern l D cI cJ cC cL q_t q_t_now q_t_tried q_t_thought q_t_kept q_t_saved q_t_finds q_t_reach q_t_steps q_t_glows q_t_lower q_t_upper q_t_line q_t_text q_t_told q_t_why q_t_more t_undos t_isSaved t_lined t_length t_at t_order t_whys t_answer t_now v1 x2 hc2 s.heap.size) (cwV 1 hts gX10_cuts_X10_isLantern rfl rfl rfl (by decide +kernel) ⟨Nat.le_of_ble_eq_true rfl, Nat.le_of_ble_eq_true rfl⟩) rfl hl rfl (Nat.le_of_ble_eq_true rfl) dX10_cuts_2 ⟨Nat.zero_le _, Nat.zero_le _⟩ hK hN KX_T trivial hP hD hS hA rfl rfl rfl rfl rfl rfl (by decide) rfl rfl (fun H locs hP hD hS => ?_)
  refine jif_ne (tgt := 11) hx hb dX10_cuts_5 (by decide) hJ (fun hJ => ?_) (fun hJ => ?_)
  · refine lv_iload_n hx hb dX10_cuts_11 rfl (lv_at hl 2 rfl) ?_
    refine lv_iconst (v := (0 : Int32)) hx hb dX10_cuts_12 (by decide) ?_
    refine lv_iconst (v := (2 : Int32)) hx hb dX10_cuts_13 (by decide) ?_
    obtain ⟨x14, hc14, hJ⟩ := bnd1_some hJ
    refine jcS_i (As := [.int v2, .int (0 : Int32), .int (2 : Int32)]) (rest := []) (isC := []) (isR := [0, 1, 2, 3]) (isB := [0, 1, 2, 3]) (wr := [(q_t, .inr (8, [.ref q_t_now, .ref q_t_tried, .ref q_t_thought, .ref q_t_kept, .int t_undos, .ref q_t_saved, .int t_isSaved, .ref q_t_finds, .ref q_t_reach, .ref q_t_steps, .ref q_t_glows, .ref q_t_lower, .ref q_t_upper, .ref q_t_line, .int t_lined, .ref q_t_text, .int t_length, .int t_at, .int t_order, .ref q_t_told, .ref q_t_why, .ref q_t_more, .int t_whys, .int t_answer])), (q_t_now, .inl (cI, 133, .inl t_now)), (q_t_why, .inl (cI, 4, .inl t_why)), (q_t_more, .inl (cI, 4, .inl t_more))]) (ws2 := [(q_t, .inr (8, [.ref q_t_now, .ref q_t_tried, .ref q_t_thought, .ref q_t_kept, .int t_undos, .ref q_t_saved, .int t_isSaved, .ref q_t_finds, .ref q_t_reach, .ref q_t_steps, .ref q_t_glows, .ref q_t_lower, .ref q_t_upper, .ref q_t_line, .int t_lined, .ref q_t_text, .int t_length, .int t_at, .int t_order, .ref q_t_told, .ref q_t_why, .ref q_t_more, .int t_whys, .int t_answer])), (q_t_now, .inl (cI, 133, .inl t_now)), (q_t_why, .inl (cI, 4, .inl t_why)), (q_t_more, .inl (cI, 4, .inl t_more))]) hF (c_X10_in l D cI cJ cC cL v2 (0 : Int32) (2 : Int32) x14 hc14 H.size) (va_cwS 3 hts gX10_cuts_X10_in rfl rfl rfl (by decide +kernel) ⟨Nat.le_of_ble_eq_true rfl, Nat.le_of_ble_eq_true rfl⟩) rfl hl rfl (Nat.le_of_ble_eq_true rfl) dX10_cuts_14 ⟨Nat.zero_le _, Nat.zero_le _⟩ hK hN KX_T trivial hP hD hS hA rfl rfl rfl rfl (by decide) rfl rfl (fun H locs hP hD hS => ?_)
    refine jif_ne (tgt := 23) hx hb dX10_cuts_17 (by decide) hJ (fun hJ => ?_) (fun hJ => ?_)
    · refine lv_aload_n hx hb dX10_cuts_23 rfl (lv_at hl 0 rfl) ?_
      refine lv_iload_n hx hb dX10_cuts_24 rfl (lv_at hl 1 rfl) ?_
      obtain ⟨x25, hc25, hJ⟩ := bnd1_some hJ
      refine jcV_i (C := RX10) (T := TX10) (N := 24) (ci := 8) (q0 := 0) (As := [.int v1]) (rest := []) (isC := [0, 1]) (isR := [2, 3]) (isB := [2, 3, 0, 1]) (wr := [(q_t_why, .inl (cI, 4, .inl t_why)), (q_t_more, .inl (cI, 4, .inl t_more))]) (ws2 := [(q_t, .inr (8, [.ref q_t_now, .ref q_t_tried, .ref q_t_thought, .ref q_t_kept, .int t_undos, .ref q_t_saved, .int t_isSaved, .ref q_t_finds, .ref q_t_reach, .ref q_t_steps, .ref q_t_glows, .ref q_t_lower, .ref q_t_upper, .ref q_t_line, .int t_lined, .ref q_t_text, .int t_length, .int t_at, .int t_order, .ref q_t_told, .ref q_t_why, .ref q_t_more, .int t_whys, .int t_answer])), (q_t_now, .inl (cI, 133, .inl t_now)), (q_t_why, .inl (cI, 4, .inl t_why)), (q_t_more, .inl (cI, 4, .inl t_more))]) hF (c_X10_isSwitch l D cI cJ cC cL q_t q_t_now q_t_tried q_t_thought q_t_kept q_t_saved q_t_finds q_t_reach q_t_steps q_t_glows q_t_lower q_t_upper q_t_line q_t_text q_t_told q_t_why q_t_more t_undos t_isSaved t_lined t_length t_at t_order t_whys t_answer t_now v1 x25 hc25 H.size) (cwV 1 hts gX10_cuts_X10_isSwitch rfl rfl rfl (by decide +kernel) ⟨Nat.le_of_ble_eq_true rfl, Nat.le_of_ble_eq_true rfl⟩) rfl hl rfl (Nat.le_of_ble_eq_true rfl) dX10_cuts_25 ⟨Nat.zero_le _, Nat.zero_le _⟩ hK hN KX_T trivial hP hD hS hA rfl rfl rfl rfl rfl rfl (by decide) rfl rfl (fun H locs hP hD hS => ?_)
      refine jif_eq (tgt := 38) hx hb dX10_cuts_28 (by decide) hJ (fun hJ => ?_) (fun hJ => ?_)
      · refine lv_iload_n hx hb dX10_cuts_38 rfl (lv_at hl 2 rfl) ?_
        refine lv_aload_n hx hb dX10_cuts_39 rfl (lv_at hl 0 rfl) ?_
        refine lv_iload_n hx hb dX10_cuts_40 rfl (lv_at hl 1 rfl) ?_
        obtain ⟨x41, hc41, hJ⟩ := bnd1_some hJ
        refine jcV_i (C := RX10) (T := TX10) (N := 24) (ci := 8) (q0 := 0) (As := [.int v1]) (rest := [.int v2]) (isC := [0, 1]) (isR := [2, 3]) (isB := [2, 3, 0, 1]) (wr := [(q_t_why, .inl (cI, 4, .inl t_why)), (q_t_more, .inl (cI, 4, .inl t_more))]) (ws2 := [(q_t, .inr (8, [.ref q_t_now, .ref q_t_tried, .ref q_t_thought, .ref q_t_kept, .int t_undos, .ref q_t_saved, .int t_isSaved, .ref q_t_finds, .ref q_t_reach, .ref q_t_steps, .ref q_t_glows, .ref q_t_lower, .ref q_t_upper, .ref q_t_line, .int t_lined, .ref q_t_text, .int t_length, .int t_at, .int t_order, .ref q_t_told, .ref q_t_why, .ref q_t_more, .int t_whys, .int t_answer])), (q_t_now, .inl (cI, 133, .inl t_now)), (q_t_why, .inl (cI, 4, .inl t_why)), (q_t_more, .inl (cI, 4, .inl t_more))]) hF (c_X10_places l D cI cJ cC cL q_t q_t_now q_t_tried q_t_thought q_t_kept q_t_saved q_t_finds q_t_reach q_t_steps q_t_glows q_t_lower q_t_upper q_t_line q_t_text q_t_told q_t_why q_t_more t_undos t_isSaved t_lined t_length t_at t_order t_whys t_answer t_now v1 x41 hc41 H.size) (cwV 1 hts gX10_cuts_X10_places rfl rfl rfl (by decide +kernel) ⟨Nat.le_of_ble_eq_true rfl, Nat.le_of_ble_eq_true rfl⟩) rfl hl rfl (Nat.le_of_ble_eq_true rfl) dX10_cuts_41 ⟨Nat.zero_le _, Nat.zero_le _⟩ hK hN KX_T trivial hP hD hS hA rfl rfl rfl rfl rfl rfl (by decide) rfl rfl (fun H locs hP hD hS => ?_)
        refine jif_icmp_lt (tgt := 58) hx hb dX10_cuts_44 (by decide) hJ (fun hJ => ?_) (fun hJ => ?_)
        · refine lv_aload_n hx hb dX10_cuts_58 rfl (lv_at hl 0 rfl) ?_
          refine lv_iload_n hx hb dX10_cuts_59 rfl (lv_at hl 1 rfl) ?_
          refine lv_iload_n hx hb dX10_cuts_60 rfl (lv_at hl 2 rfl) ?_
          obtain ⟨x61, hc61, hJ⟩ := bnd1_some hJ
          refine jcV_i (C := RX10) (T := TX10) (N := 24) (ci := 8) (q0 := 0) (As := [.int v1, .int v2]) (rest := []) (isC := [0, 1]) (isR := [2, 3]) (isB := [2, 3, 0, 1]) (wr := [(q_t_why, .inl (cI, 4, .inl t_why)), (q_t_more, .inl (cI, 4, .inl t_more))]) (ws2 := [(q_t, .inr (8, [.ref q_t_now, .ref q_t_tried, .ref q_t_thought, .ref q_t_kept, .int t_undos, .ref q_t_saved, .int t_isSaved, .ref q_t_finds, .ref q_t_reach, .ref q_t_steps, .ref q_t_glows, .ref q_t_lower, .ref q_t_upper, .ref q_t_line, .int t_lined, .ref q_t_text, .int t_length, .int t_at, .int t_order, .ref q_t_told, .ref q_t_why, .ref q_t_more, .int t_whys, .int t_answer])), (q_t_now, .inl (cI, 133, .inl t_now)), (q_t_why, .inl (cI, 4, .inl t_why)), (q_t_more, .inl (cI, 4, .inl t_more))]) hF (c_X10_wired l D cI cJ cC cL q_t q_t_now q_t_tried q_t_thought q_t_kept q_t_saved q_t_finds q_t_reach q_t_steps q_t_glows q_t_lower q_t_upper q_t_line q_t_text q_t_told q_t_why q_t_more t_undos t_isSaved t_lined t_length t_at t_order t_whys t_answer t_now v1 v2 x61 hc61 H.size) (cwV 2 hts gX10_cuts_X10_wired rfl rfl rfl (by decide +kernel) ⟨Nat.le_of_ble_eq_true rfl, Nat.le_of_ble_eq_true rfl⟩) rfl hl rfl (Nat.le_of_ble_eq_true rfl) dX10_cuts_61 ⟨Nat.zero_le _, Nat.zero_le _⟩ hK hN KX_T trivial hP hD hS hA rfl rfl rfl rfl rfl rfl (by decide) rfl rfl (fun H locs hP hD hS => ?_)
          refine lv_istore_n (lv' := [(3, .int x61), (0, .ref q_t), (1, .int v1), (2, .int v2)]) hx hb dX10_cuts_64 rfl hl (by decide) rfl (fun ls hl => ?_)
          refine lv_iload_n hx hb dX10_cuts_65 rfl (lv_at hl 0 rfl) ?_
          refine jif_ge (tgt := 76) hx hb dX10_cuts_66 (by decide) hJ (fun hJ => ?_) (fun hJ => ?_)
          · refine lv_aload_n hx hb dX10_cuts_76 rfl (lv_at hl 1 rfl) ?_
            refine lv_iload_n hx hb dX10_cuts_77 rfl (lv_at hl 2 rfl) ?_
            refine lv_iconst (v := (4 : Int32)) hx hb dX10_cuts_78 (by decide) ?_
            refine lv_iload_n hx hb dX10_cuts_79 rfl (lv_at hl 3 rfl) ?_
            refine lv_iadd hx hb dX10_cuts_80 ?_
            refine jt_i hJ (fun x80 hJ => ?_)
            refine lv_iconst (v := (0 : Int32)) hx hb dX10_cuts_81 (by decide) ?_
            obtain ⟨t_now_82, hc82, hJ⟩ := bnd1_some hJ
            refine jcV_v (C := RX10) (T := TX10) (N := 24) (ci := 8) (q0 := 0) (As := [.int v1, .int x80, .int (0 : Int32)]) (rest := []) (isC := [0, 1]) (isR := [2, 3]) (isB := [2, 3, 0, 1]) (wr := [(q_t_why, .inl (cI, 4, .inl t_why)), (q_t_more, .inl (cI, 4, .inl t_more))]) (ws2 := [(q_t, .inr (8, [.ref q_t_now, .ref q_t_tried, .ref q_t_thought, .ref q_t_kept, .int t_undos, .ref q_t_saved, .int t_isSaved, .ref q_t_finds, .ref q_t_reach, .ref q_t_steps, .ref q_t_glows, .ref q_t_lower, .ref q_t_upper, .ref q_t_line, .int t_lined, .ref q_t_text, .int t_length, .int t_at, .int t_order, .ref q_t_told, .ref q_t_why, .ref q_t_more, .int t_whys, .int t_answer])), (q_t_now, .inl (cI, 133, .inl t_now_82)), (q_t_why, .inl (cI, 4, .inl t_why)), (q_t_more, .inl (cI, 4, .inl t_more))]) hF (c_X10_sets l D cI cJ cC cL q_t q_t_now q_t_tried q_t_thought q_t_kept q_t_saved q_t_finds q_t_reach q_t_steps q_t_glows q_t_lower q_t_upper q_t_line q_t_text q_t_told q_t_why q_t_more t_undos t_isSaved t_lined t_length t_at t_order t_whys t_answer t_now v1 x80 (0 : Int32) t_now_82 hc82 H.size) (cwV 3 hts gX10_cuts_X10_sets rfl rfl rfl (by decide +kernel) ⟨Nat.le_of_ble_eq_true rfl, Nat.le_of_ble_eq_true rfl⟩) rfl hl rfl (Nat.le_of_ble_eq_true rfl) dX10_cuts_82 ⟨Nat.zero_le _, Nat.zero_le _⟩ hK hN KX_T trivial hP hD hS hA rfl rfl rfl rfl rfl rfl (by decide) rfl rfl (fun H locs hP hD hS => ?_)
            refine lv_aload_n hx hb dX10_cuts_85 rfl (lv_at hl 1 rfl) ?_
            refine lv_iload_n hx hb dX10_cuts_86 rfl (lv_at hl 0 rfl) ?_
            obtain ⟨x87, t_answer_87, hc87, hJ⟩ := bnd2_some hJ
            refine jcV_i (C := RX10) (T := TX10) (N := 24) (ci := 8) (q0 := 0) (As := [.int x61]) (rest := []) (isC := [0]) (isR := [1, 2, 3]) (isB := [3, 0, 1, 2]) (wr := [(q_t_now, .inl (cI, 133, .inl t_now_82)), (q_t_why, .inl (cI, 4, .inl t_why)), (q_t_more, .inl (cI, 4, .inl t_more))]) (ws2 := [(q_t, .inr (8, [.ref q_t_now, .ref q_t_tried, .ref q_t_thought, .ref q_t_kept, .int t_undos, .ref q_t_saved, .int t_isSaved, .ref q_t_finds, .ref q_t_reach, .ref q_t_steps, .ref q_t_glows, .ref q_t_lower, .ref q_t_upper, .ref q_t_line, .int t_lined, .ref q_t_text, .int t_length, .int t_at, .int t_order, .ref q_t_told, .ref q_t_why, .ref q_t_more, .int t_whys, .int t_answer_87])), (q_t_now, .inl (cI, 133, .inl t_now_82)), (q_t_why, .inl (cI, 4, .inl t_why)), (q_t_more, .inl (cI, 4, .inl t_more))]) hF (c_X10_does l D cI cJ cC cL q_t q_t_now q_t_tried q_t_thought q_t_kept q_t_saved q_t_finds q_t_reach q_t_steps q_t_glows q_t_lower q_t_upper q_t_line q_t_text q_t_told q_t_why q_t_more t_undos t_isSaved t_lined t_length t_at t_order t_whys t_answer x61 x87 t_answer_87 hc87 H.size) (cwV 1 hts gX10_cuts_X10_does rfl rfl rfl (by decide +kernel) ⟨Nat.le_of_ble_eq_true rfl, Nat.le_of_ble_eq_true rfl⟩) rfl hl rfl (Nat.le_of_ble_eq_true rfl) dX10_cuts_87 ⟨Nat.zero_le _, Nat.zero_le _⟩ hK hN KX_T trivial hP hD hS hA rfl rfl rfl rfl rfl rfl (by decide) rfl rfl (fun H locs hP hD hS => ?_)
            have hJ := Option.some.inj hJ
            obtain ⟨e0, e1, e2, e3, e4, e5⟩ : (x87) = r ∧ (t_whys) = o_t_whys ∧ (t_answer_87) = o_t_answer ∧ (t_now_82) = o_t_now ∧ (t_why) = o_t_why ∧ (t_more) = o_t_more := ⟨congrArg (fun z => z.1) hJ, congrArg (fun z => z.2.1) hJ, congrArg (fun z => z.2.2.1) hJ, congrArg (fun z => z.2.2.2.1) hJ, congrArg (fun z => z.2.2.2.2.1) hJ, congrArg (fun z => z.2.2.2.2.2) hJ⟩
            exact hRet (by rw [← e1, ← e2, ← e3, ← e4, ← e5]; exact hP) (by rw [← e1, ← e2, ← e3, ← e4, ← e5]; exact hD) hS e0 dX10_cuts_90
          · refine lv_aload_n hx hb dX10_cuts_69 rfl (lv_at hl 1 rfl) ?_
            refine lv_iconst (v := (5 : Int32)) hx hb dX10_cuts_70 (by decide) ?_
            refine lv_iload_n hx hb dX10_cuts_71 rfl (lv_at hl 3 rfl) ?_
            obtain ⟨x72, t_whys_72, t_why_72, t_more_72, hc72, hJ⟩ := bnd4_some hJ
            refine jcV_i (C := RX10) (T := TX10) (N := 24) (ci := 8) (q0 := 0) (As := [.int (5 : Int32), .int v2]) (rest := []) (isC := [0, 2, 3]) (isR := [1]) (isB := [1, 0, 2, 3]) (wr := [(q_t_now, .inl (cI, 133, .inl t_now))]) (ws2 := [(q_t, .inr (8, [.ref q_t_now, .ref q_t_tried, .ref q_t_thought, .ref q_t_kept, .int t_undos, .ref q_t_saved, .int t_isSaved, .ref q_t_finds, .ref q_t_reach, .ref q_t_steps, .ref q_t_glows, .ref q_t_lower, .ref q_t_upper, .ref q_t_line, .int t_lined, .ref q_t_text, .int t_length, .int t_at, .int t_order, .ref q_t_told, .ref q_t_why, .ref q_t_more, .int t_whys_72, .int t_answer])), (q_t_now, .inl (cI, 133, .inl t_now)), (q_t_why, .inl (cI, 4, .inl t_why_72)), (q_t_more, .inl (cI, 4, .inl t_more_72))]) hF (c_X10_refuses l D cI cJ cC cL q_t q_t_now q_t_tried q_t_thought q_t_kept q_t_saved q_t_finds q_t_reach q_t_steps q_t_glows q_t_lower q_t_upper q_t_line q_t_text q_t_told q_t_why q_t_more t_undos t_isSaved t_lined t_length t_at t_order t_whys t_answer t_why t_more (5 : Int32) v2 x72 t_whys_72 t_why_72 t_more_72 hc72 H.size) (cwV 2 hts gX10_cuts_X10_refuses rfl rfl rfl (by decide +kernel) ⟨Nat.le_of_ble_eq_true rfl, Nat.le_of_ble_eq_true rfl⟩) rfl hl rfl (Nat.le_of_ble_eq_true rfl) dX10_cuts_72 ⟨Nat.zero_le _, Nat.zero_le _⟩ hK hN KX_T trivial hP hD hS hA rfl rfl rfl rfl rfl rfl (by decide) rfl rfl (fun H locs hP hD hS => ?_)
            have hJ := Option.some.inj hJ
            obtain ⟨e0, e1, e2, e3, e4, e5⟩ : (x72) = r ∧ (t_whys_72) = o_t_whys ∧ (t_answer) = o_t_answer ∧ (t_now) = o_t_now ∧ (t_why_72) = o_t_why ∧ (t_more_72) = o_t_more := ⟨congrArg (fun z => z.1) hJ, congrArg (fun z => z.2.1) hJ, congrArg (fun z => z.2.2.1) hJ, congrArg (fun z => z.2.2.2.1) hJ, congrArg (fun z => z.2.2.2.2.1) hJ, congrArg (fun z => z.2.2.2.2.2) hJ⟩
            exact hRet (by rw [← e1, ← e2, ← e3, ← e4, ← e5]; exact hP) (by rw [← e1, ← e2, ← e3, ← e4, ← e5]; exact hD) hS e0 dX10_cuts_75
        · refine lv_aload_n hx hb dX10_cuts_47 rfl (lv_at hl 0 rfl) ?_
          refine lv_iconst (v := (3 : Int32)) hx hb dX10_cuts_48 (by decide) ?_
          refine lv_aload_n hx hb dX10_cuts_49 rfl (lv_at hl 0 rfl) ?_
          refine lv_iload_n hx hb dX10_cuts_50 rfl (lv_at hl 1 rfl) ?_
          obtain ⟨x51, hc51, hJ⟩ := bnd1_some hJ
          refine jcV_i (C := RX10) (T := TX10) (N := 24) (ci := 8) (q0 := 0) (As := [.int v1]) (rest := [.int (3 : Int32), .ref q_t]) (isC := [0, 1]) (isR := [2, 3]) (isB := [2, 3, 0, 1]) (wr := [(q_t_why, .inl (cI, 4, .inl t_why)), (q_t_more, .inl (cI, 4, .inl t_more))]) (ws2 := [(q_t, .inr (8, [.ref q_t_now, .ref q_t_tried, .ref q_t_thought, .ref q_t_kept, .int t_undos, .ref q_t_saved, .int t_isSaved, .ref q_t_finds, .ref q_t_reach, .ref q_t_steps, .ref q_t_glows, .ref q_t_lower, .ref q_t_upper, .ref q_t_line, .int t_lined, .ref q_t_text, .int t_length, .int t_at, .int t_order, .ref q_t_told, .ref q_t_why, .ref q_t_more, .int t_whys, .int t_answer])), (q_t_now, .inl (cI, 133, .inl t_now)), (q_t_why, .inl (cI, 4, .inl t_why)), (q_t_more, .inl (cI, 4, .inl t_more))]) hF (c_X10_places l D cI cJ cC cL q_t q_t_now q_t_tried q_t_thought q_t_kept q_t_saved q_t_finds q_t_reach q_t_steps q_t_glows q_t_lower q_t_upper q_t_line q_t_text q_t_told q_t_why q_t_more t_undos t_isSaved t_lined t_length t_at t_order t_whys t_answer t_now v1 x51 hc51 H.size) (cwV 1 hts gX10_cuts_X10_places rfl rfl rfl (by decide +kernel) ⟨Nat.le_of_ble_eq_true rfl, Nat.le_of_ble_eq_true rfl⟩) rfl hl rfl (Nat.le_of_ble_eq_true rfl) dX10_cuts_51 ⟨Nat.zero_le _, Nat.zero_le _⟩ hK hN KX_T trivial hP hD hS hA rfl rfl rfl rfl rfl rfl (by decide) rfl rfl (fun H locs hP hD hS => ?_)
          obtain ⟨x54, t_whys_54, t_why_54, t_more_54, hc54, hJ⟩ := bnd4_some hJ
          refine jcV_i (C := RX10) (T := TX10) (N := 24) (ci := 8) (q0 := 0) (As := [.int (3 : Int32), .int x51]) (rest := []) (isC := [0, 2, 3]) (isR := [1]) (isB := [1, 0, 2, 3]) (wr := [(q_t_now, .inl (cI, 133, .inl t_now))]) (ws2 := [(q_t, .inr (8, [.ref q_t_now, .ref q_t_tried, .ref q_t_thought, .ref q_t_kept, .int t_undos, .ref q_t_saved, .int t_isSaved, .ref q_t_finds, .ref q_t_reach, .ref q_t_steps, .ref q_t_glows, .ref q_t_lower, .ref q_t_upper, .ref q_t_line, .int t_lined, .ref q_t_text, .int t_length, .int t_at, .int t_order, .ref q_t_told, .ref q_t_why, .ref q_t_more, .int t_whys_54, .int t_answer])), (q_t_now, .inl (cI, 133, .inl t_now)), (q_t_why, .inl (cI, 4, .inl t_why_54)), (q_t_more, .inl (cI, 4, .inl t_more_54))]) hF (c_X10_refuses l D cI cJ cC cL q_t q_t_now q_t_tried q_t_thought q_t_kept q_t_saved q_t_finds q_t_reach q_t_steps q_t_glows q_t_lower q_t_upper q_t_line q_t_text q_t_told q_t_why q_t_more t_undos t_isSaved t_lined t_length t_at t_order t_whys t_answer t_why t_more (3 : Int32) x51 x54 t_whys_54 t_why_54 t_more_54 hc54 H.size) (cwV 2 hts gX10_cuts_X10_refuses rfl rfl rfl (by decide +kernel) ⟨Nat.le_of_ble_eq_true rfl, Nat.le_of_ble_eq_true rfl⟩) rfl hl rfl (Nat.le_of_ble_eq_true rfl) dX10_cuts_54 ⟨Nat.zero_le _, Nat.zero_le _⟩ hK hN KX_T trivial hP hD hS hA rfl rfl rfl rfl rfl rfl (by decide) rfl rfl (fun H locs hP hD hS => ?_)
          have hJ := Option.some.inj hJ
          obtain ⟨e0, e1, e2, e3, e4, e5⟩ : (x54) = r ∧ (t_whys_54) = o_t_whys ∧ (t_answer) = o_t_answer ∧ (t_now) = o_t_now ∧ (t_why_54) = o_t_why ∧ (t_more_54) = o_t_more := ⟨congrArg (fun z => z.1) hJ, congrArg (fun z => z.2.1) hJ, congrArg (fun z => z.2.2.1) hJ, congrArg (fun z => z.2.2.2.1) hJ, congrArg (fun z => z.2.2.2.2.1) hJ, congrArg (fun z => z.2.2.2.2.2) hJ⟩
          exact hRet (by rw [← e1, ← e2, ← e3, ← e4, ← e5]; exact hP) (by rw [← e1, ← e2, ← e3, ← e4, ← e5]; exact hD) hS e0 dX10_cuts_57
      · refine lv_aload_n hx hb dX10_cuts_31 rfl (lv_at hl 0 rfl) ?_
        refine lv_iconst (v := (2 : Int32)) hx hb dX10_cuts_32 (by decide) ?_
        refine lv_iload_n hx hb dX10_cuts_33 rfl (lv_at hl 1 rfl) ?_
        obtain ⟨x34, t_whys_34, t_why_34, t_more_34, hc34, hJ⟩ := bnd4_some hJ
        refine jcV_i (C := RX10) (T := TX10) (N := 24) (ci := 8) (q0 := 0) (As := [.int (2 : Int32), .int v1]) (rest := []) (isC := [0, 2, 3]) (isR := [1]) (isB := [1, 0, 2, 3]) (wr := [(q_t_now, .inl (cI, 133, .inl t_now))]) (ws2 := [(q_t, .inr (8, [.ref q_t_now, .ref q_t_tried, .ref q_t_thought, .ref q_t_kept, .int t_undos, .ref q_t_saved, .int t_isSaved, .ref q_t_finds, .ref q_t_reach, .ref q_t_steps, .ref q_t_glows, .ref q_t_lower, .ref q_t_upper, .ref q_t_line, .int t_lined, .ref q_t_text, .int t_length, .int t_at, .int t_order, .ref q_t_told, .ref q_t_why, .ref q_t_more, .int t_whys_34, .int t_answer])), (q_t_now, .inl (cI, 133, .inl t_now)), (q_t_why, .inl (cI, 4, .inl t_why_34)), (q_t_more, .inl (cI, 4, .inl t_more_34))]) hF (c_X10_refuses l D cI cJ cC cL q_t q_t_now q_t_tried q_t_thought q_t_kept q_t_saved q_t_finds q_t_reach q_t_steps q_t_glows q_t_lower q_t_upper q_t_line q_t_text q_t_told q_t_why q_t_more t_undos t_isSaved t_lined t_length t_at t_order t_whys t_answer t_why t_more (2 : Int32) v1 x34 t_whys_34 t_why_34 t_more_34 hc34 H.size) (cwV 2 hts gX10_cuts_X10_refuses rfl rfl rfl (by decide +kernel) ⟨Nat.le_of_ble_eq_true rfl, Nat.le_of_ble_eq_true rfl⟩) rfl hl rfl (Nat.le_of_ble_eq_true rfl) dX10_cuts_34 ⟨Nat.zero_le _, Nat.zero_le _⟩ hK hN KX_T trivial hP hD hS hA rfl rfl rfl rfl rfl rfl (by decide) rfl rfl (fun H locs hP hD hS => ?_)
        have hJ := Option.some.inj hJ
        obtain ⟨e0, e1, e2, e3, e4, e5⟩ : (x34) = r ∧ (t_whys_34) = o_t_whys ∧ (t_answer) = o_t_answer ∧ (t_now) = o_t_now ∧ (t_why_34) = o_t_why ∧ (t_more_34) = o_t_more := ⟨congrArg (fun z => z.1) hJ, congrArg (fun z => z.2.1) hJ, congrArg (fun z => z.2.2.1) hJ, congrArg (fun z => z.2.2.2.1) hJ, congrArg (fun z => z.2.2.2.2.1) hJ, congrArg (fun z => z.2.2.2.2.2) hJ⟩
        exact hRet (by rw [← e1, ← e2, ← e3, ← e4, ← e5]; exact hP) (by rw [← e1, ← e2, ← e3, ← e4, ← e5]; exact hD) hS e0 dX10_cuts_37
    · refine lv_bipush (v := (-12 : Int32)) hx hb dX10_cuts_20 (by decide) ?_
      have hJ := Option.some.inj hJ
      obtain ⟨e0, e1, e2, e3, e4, e5⟩ : ((-12 : Int32)) = r ∧ (t_whys) = o_t_whys ∧ (t_answer) = o_t_answer ∧ (t_now) = o_t_now ∧ (t_why) = o_t_why ∧ (t_more) = o_t_more := ⟨congrArg (fun z => z.1) hJ, congrArg (fun z => z.2.1) hJ, congrArg (fun z => z.2.2.1) hJ, congrArg (fun z => z.2.2.2.1) hJ, congrArg (fun z => z.2.2.2.2.1) hJ, congrArg (fun z => z.2.2.2.2.2) hJ⟩
      exact hRet (by rw [← e1, ← e2, ← e3, ← e4, ← e5]; exact hP) (by rw [← e1, ← e2, ← e3, ← e4, ← e5]; exact hD) hS e0 dX10_cuts_22
  · refine lv_bipush (v := (-11 : Int32)) hx hb dX10_cuts_8 (by decide) ?_
    have hJ := Option.some.inj hJ
    obtain ⟨e0, e1, e2, e3, e4, e5⟩ : ((-11 : Int32)) = r ∧ (t_whys) = o_t_whys ∧ (t_answer) = o_t_answer ∧ (t_now) = o_t_now ∧ (t_why) = o_t_why ∧ (t_more) = o_t_more := ⟨congrArg (fun z => z.1) hJ, congrArg (fun z => z.2.1) hJ, congrArg (fun z => z.2.2.1) hJ, congrArg (fun z => z.2.2.2.1) hJ, congrArg (fun z => z.2.2.2.2.1) hJ, congrArg (fun z => z.2.2.2.2.2) hJ⟩
    exact hRet (by rw [← e1, ← e2, ← e3, ← e4, ← e5]; exact hP) (by rw [← e1, ← e2, ← e3, ← e4, ← e5]; exact hD) hS e0 dX10_cuts_10

def J_X10_cut (t_undos : Int32) (t_whys : Int32) (t_answer : Int32) (t_now : Nat → Int32) (t_tried : Nat → Int32) (t_kept : Nat → Int32) (t_why : Nat → Int32) (t_more : Nat → Int32) (v1 : Int32) (v2 : Int32) : Option (Int32 × Int32 × Int32 × Int32 × (Nat → Int32) × (Nat → Int32) × (Nat → Int32) × (Nat → Int32) × (Nat → Int32)) :=
    bnd1 (J_X10_tries t_now t_tried) fun t_tried_1 =>
    bnd6 (J_X10_cuts t_whys t_answer t_now t_why t_more v1 v2) fun x8 t_whys_8 t_answer_8 t_now_8 t_why_8 t_more_8 =>
    bnd3 (J_X10_ends t_undos t_answer_8 t_tried_1 t_kept x8) fun x11 t_undos_11 t_kept_11 =>
    some (x11, t_undos_11, t_whys_8, t_answer_8, t_now_8, t_tried_1, t_kept_11, t_why_8, t_more_8)
abbrev rmX10_cut : Room := { frames := 3, cells := 0, slots := 0, locals := 67 }
set_option maxHeartbeats 4000000 in
set_option maxRecDepth 100000 in
theorem c_X10_cut (l : Launch) (D : va_G) (cI cJ cC cL : ClassId) (q_t q_t_now q_t_tried q_t_thought q_t_kept q_t_saved q_t_finds q_t_reach q_t_steps q_t_glows q_t_lower q_t_upper q_t_line q_t_text q_t_told q_t_why q_t_more : Nat) (t_undos : Int32) (t_isSaved : Int32) (t_lined : Int32) (t_length : Int32) (t_at : Int32) (t_order : Int32) (t_whys : Int32) (t_answer : Int32) (t_now : Nat → Int32) (t_tried : Nat → Int32) (t_kept : Nat → Int32) (t_why : Nat → Int32) (t_more : Nat → Int32) (v1 : Int32) (v2 : Int32) (r : Int32) (o_t_undos : Int32) (o_t_whys : Int32) (o_t_answer : Int32) (o_t_now : Nat → Int32) (o_t_tried : Nat → Int32) (o_t_kept : Nat → Int32) (o_t_why : Nat → Int32) (o_t_more : Nat → Int32) (hJ : J_X10_cut t_undos t_whys t_answer t_now t_tried t_kept t_why t_more v1 v2 = some (r, o_t_undos, o_t_whys, o_t_answer, o_t_now, o_t_tried, o_t_kept, o_t_why, o_t_more)) (sz : Nat) : Met l yX10_cut wsX10_cut rmX10_cut (va_Pc [.ref q_t, .int v1, .int v2] (jpre XT D (tyL cI cJ cC cL) [(q_t, .inr (8, [.ref q_t_now, .ref q_t_tried, .ref q_t_thought, .ref q_t_kept, .int t_undos, .ref q_t_saved, .int t_isSaved, .ref q_t_finds, .ref q_t_reach, .ref q_t_steps, .ref q_t_glows, .ref q_t_lower, .ref q_t_upper, .ref q_t_line, .int t_lined, .ref q_t_text, .int t_length, .int t_at, .int t_order, .ref q_t_told, .ref q_t_why, .ref q_t_more, .int t_whys, .int t_answer])), (q_t_now, .inl (cI, 133, .inl t_now)), (q_t_tried, .inl (cI, 133, .inl t_tried)), (q_t_kept, .inl (cI, 1064, .inl t_kept)), (q_t_why, .inl (cI, 4, .inl t_why)), (q_t_more, .inl (cI, 4, .inl t_more))] sz)) (va_Qi (fun r' (_ : Unit) => r' = r) (fun _ t => jpost D (tyL cI cJ cC cL) (va_A [(q_t, .inr (8, [.ref q_t_now, .ref q_t_tried, .ref q_t_thought, .ref q_t_kept, .int t_undos, .ref q_t_saved, .int t_isSaved, .ref q_t_finds, .ref q_t_reach, .ref q_t_steps, .ref q_t_glows, .ref q_t_lower, .ref q_t_upper, .ref q_t_line, .int t_lined, .ref q_t_text, .int t_length, .int t_at, .int t_order, .ref q_t_told, .ref q_t_why, .ref q_t_more, .int t_whys, .int t_answer])), (q_t_now, .inl (cI, 133, .inl t_now)), (q_t_tried, .inl (cI, 133, .inl t_tried)), (q_t_kept, .inl (cI, 1064, .inl t_kept)), (q_t_why, .inl (cI, 4, .inl t_why)), (q_t_more, .inl (cI, 4, .inl t_more))] sz) [(q_t, .inr (8, [.ref q_t_now, .ref q_t_tried, .ref q_t_thought, .ref q_t_kept, .int o_t_undos, .ref q_t_saved, .int t_isSaved, .ref q_t_finds, .ref q_t_reach, .ref q_t_steps, .ref q_t_glows, .ref q_t_lower, .ref q_t_upper, .ref q_t_line, .int t_lined, .ref q_t_text, .int t_length, .int t_at, .int t_order, .ref q_t_told, .ref q_t_why, .ref q_t_more, .int o_t_whys, .int o_t_answer])), (q_t_now, .inl (cI, 133, .inl o_t_now)), (q_t_tried, .inl (cI, 133, .inl o_t_tried)), (q_t_kept, .inl (cI, 1064, .inl o_t_kept)), (q_t_why, .inl (cI, 4, .inl o_t_why)), (q_t_more, .inl (cI, 4, .inl o_t_more))] t) (va_A [(q_t, .inr (8, [.ref q_t_now, .ref q_t_tried, .ref q_t_thought, .ref q_t_kept, .int t_undos, .ref q_t_saved, .int t_isSaved, .ref q_t_finds, .ref q_t_reach, .ref q_t_steps, .ref q_t_glows, .ref q_t_lower, .ref q_t_upper, .ref q_t_line, .int t_lined, .ref q_t_text, .int t_length, .int t_at, .int t_order, .ref q_t_told, .ref q_t_why, .ref q_t_more, .int t_whys, .int t_answer])), (q_t_now, .inl (cI, 133, .inl t_now)), (q_t_tried, .inl (cI, 133, .inl t_tried)), (q_t_kept, .inl (cI, 1064, .inl t_kept)), (q_t_why, .inl (cI, 4, .inl t_why)), (q_t_more, .inl (cI, 4, .inl t_more))] sz)) 0 0 (va_A [(q_t, .inr (8, [.ref q_t_now, .ref q_t_tried, .ref q_t_thought, .ref q_t_kept, .int t_undos, .ref q_t_saved, .int t_isSaved, .ref q_t_finds, .ref q_t_reach, .ref q_t_steps, .ref q_t_glows, .ref q_t_lower, .ref q_t_upper, .ref q_t_line, .int t_lined, .ref q_t_text, .int t_length, .int t_at, .int t_order, .ref q_t_told, .ref q_t_why, .ref q_t_more, .int t_whys, .int t_answer])), (q_t_now, .inl (cI, 133, .inl t_now)), (q_t_tried, .inl (cI, 133, .inl t_tried)), (q_t_kept, .inl (cI, 1064, .inl t_kept)), (q_t_why, .inl (cI, 4, .inl t_why)), (q_t_more, .inl (cI, 4, .inl t_more))] sz) := by
  refine jE_i (cc := cX10_cut) (maxL := 3) (own := RX10) (ret := (some .int)) (lv0 := [(0, .ref q_t), (1, .int v1), (2, .int v2)]) (by decide) rfl rfl rfl (Nat.le_of_ble_eq_true rfl) rfl ?_
  intro p e s m args below meth c A Q ls hx hb hml hown hts hK hN hX hA hP hD hS hl hRet
  have hF : CallFix p m c cX10_cut 3 s args wsX10_cut RX10 := ⟨hx, hb, hml, hown, hts⟩
  unfold J_X10_cut at hJ
  refine lv_aload_n hx hb dX10_cut_0 rfl (lv_at hl 0 rfl) ?_
  obtain ⟨t_tried_1, hc1, hJ⟩ := bnd1_some hJ
  refine jcV_v (C := RX10) (T := TX10) (N := 24) (ci := 8) (q0 := 0) (As := []) (rest := []) (isC := [0, 1, 2]) (isR := [3, 4, 5]) (isB := [3, 4, 5, 0, 1, 2]) (wr := [(q_t_kept, .inl (cI, 1064, .inl t_kept)), (q_t_why, .inl (cI, 4, .inl t_why)), (q_t_more, .inl (cI, 4, .inl t_more))]) (ws2 := [(q_t, .inr (8, [.ref q_t_now, .ref q_t_tried, .ref q_t_thought, .ref q_t_kept, .int t_undos, .ref q_t_saved, .int t_isSaved, .ref q_t_finds, .ref q_t_reach, .ref q_t_steps, .ref q_t_glows, .ref q_t_lower, .ref q_t_upper, .ref q_t_line, .int t_lined, .ref q_t_text, .int t_length, .int t_at, .int t_order, .ref q_t_told, .ref q_t_why, .ref q_t_more, .int t_whys, .int t_answer])), (q_t_now, .inl (cI, 133, .inl t_now)), (q_t_tried, .inl (cI, 133, .inl t_tried_1)), (q_t_kept, .inl (cI, 1064, .inl t_kept)), (q_t_why, .inl (cI, 4, .inl t_why)), (q_t_more, .inl (cI, 4, .inl t_more))]) hF (c_X10_tries l D cI cJ cC cL q_t q_t_now q_t_tried q_t_thought q_t_kept q_t_saved q_t_finds q_t_reach q_t_steps q_t_glows q_t_lower q_t_upper q_t_line q_t_text q_t_told q_t_why q_t_more t_undos t_isSaved t_lined t_length t_at t_order t_whys t_answer t_now t_tried t_tried_1 hc1 s.heap.size) (cwV 0 hts gX10_cut_X10_tries rfl rfl rfl (by decide +kernel) ⟨Nat.le_of_ble_eq_true rfl, Nat.le_of_ble_eq_true rfl⟩) rfl hl rfl (Nat.le_of_ble_eq_true rfl) dX10_cut_1 ⟨Nat.zero_le _, Nat.zero_le _⟩ hK hN KX_T trivial hP hD hS hA rfl rfl rfl rfl rfl rfl (by decide) rfl rfl (fun H locs hP hD hS => ?_)
  refine lv_aload_n hx hb dX10_cut_4 rfl (lv_at hl 0 rfl) ?_
  refine lv_aload_n hx hb dX10_cut_5 rfl (lv_at hl 0 rfl) ?_
  refine lv_iload_n hx hb dX10_cut_6 rfl (lv_at hl 1 rfl) ?_
  refine lv_iload_n hx hb dX10_cut_7 rfl (lv_at hl 2 rfl) ?_
  obtain ⟨x8, t_whys_8, t_answer_8, t_now_8, t_why_8, t_more_8, hc8, hJ⟩ := bnd6_some hJ
  refine jcV_i (C := RX10) (T := TX10) (N := 24) (ci := 8) (q0 := 0) (As := [.int v1, .int v2]) (rest := [.ref q_t]) (isC := [0, 1, 4, 5]) (isR := [2, 3]) (isB := [2, 3, 0, 1, 4, 5]) (wr := [(q_t_tried, .inl (cI, 133, .inl t_tried_1)), (q_t_kept, .inl (cI, 1064, .inl t_kept))]) (ws2 := [(q_t, .inr (8, [.ref q_t_now, .ref q_t_tried, .ref q_t_thought, .ref q_t_kept, .int t_undos, .ref q_t_saved, .int t_isSaved, .ref q_t_finds, .ref q_t_reach, .ref q_t_steps, .ref q_t_glows, .ref q_t_lower, .ref q_t_upper, .ref q_t_line, .int t_lined, .ref q_t_text, .int t_length, .int t_at, .int t_order, .ref q_t_told, .ref q_t_why, .ref q_t_more, .int t_whys_8, .int t_answer_8])), (q_t_now, .inl (cI, 133, .inl t_now_8)), (q_t_tried, .inl (cI, 133, .inl t_tried_1)), (q_t_kept, .inl (cI, 1064, .inl t_kept)), (q_t_why, .inl (cI, 4, .inl t_why_8)), (q_t_more, .inl (cI, 4, .inl t_more_8))]) hF (c_X10_cuts l D cI cJ cC cL q_t q_t_now q_t_tried q_t_thought q_t_kept q_t_saved q_t_finds q_t_reach q_t_steps q_t_glows q_t_lower q_t_upper q_t_line q_t_text q_t_told q_t_why q_t_more t_undos t_isSaved t_lined t_length t_at t_order t_whys t_answer t_now t_why t_more v1 v2 x8 t_whys_8 t_answer_8 t_now_8 t_why_8 t_more_8 hc8 H.size) (cwV 2 hts gX10_cut_X10_cuts rfl rfl rfl (by decide +kernel) ⟨Nat.le_of_ble_eq_true rfl, Nat.le_of_ble_eq_true rfl⟩) rfl hl rfl (Nat.le_of_ble_eq_true rfl) dX10_cut_8 ⟨Nat.zero_le _, Nat.zero_le _⟩ hK hN KX_T trivial hP hD hS hA rfl rfl rfl rfl rfl rfl (by decide) rfl rfl (fun H locs hP hD hS => ?_)
  obtain ⟨x11, t_undos_11, t_kept_11, hc11, hJ⟩ := bnd3_some hJ
  refine jcV_i (C := RX10) (T := TX10) (N := 24) (ci := 8) (q0 := 0) (As := [.int x8]) (rest := []) (isC := [0, 2, 3]) (isR := [1, 4, 5]) (isB := [3, 0, 4, 5, 1, 2]) (wr := [(q_t_now, .inl (cI, 133, .inl t_now_8)), (q_t_why, .inl (cI, 4, .inl t_why_8)), (q_t_more, .inl (cI, 4, .inl t_more_8))]) (ws2 := [(q_t, .inr (8, [.ref q_t_now, .ref q_t_tried, .ref q_t_thought, .ref q_t_kept, .int t_undos_11, .ref q_t_saved, .int t_isSaved, .ref q_t_finds, .ref q_t_reach, .ref q_t_steps, .ref q_t_glows, .ref q_t_lower, .ref q_t_upper, .ref q_t_line, .int t_lined, .ref q_t_text, .int t_length, .int t_at, .int t_order, .ref q_t_told, .ref q_t_why, .ref q_t_more, .int t_whys_8, .int t_answer_8])), (q_t_now, .inl (cI, 133, .inl t_now_8)), (q_t_tried, .inl (cI, 133, .inl t_tried_1)), (q_t_kept, .inl (cI, 1064, .inl t_kept_11)), (q_t_why, .inl (cI, 4, .inl t_why_8)), (q_t_more, .inl (cI, 4, .inl t_more_8))]) hF (c_X10_ends l D cI cJ cC cL q_t q_t_now q_t_tried q_t_thought q_t_kept q_t_saved q_t_finds q_t_reach q_t_steps q_t_glows q_t_lower q_t_upper q_t_line q_t_text q_t_told q_t_why q_t_more t_undos t_isSaved t_lined t_length t_at t_order t_whys_8 t_answer_8 t_tried_1 t_kept x8 x11 t_undos_11 t_kept_11 hc11 H.size) (cwV 1 hts gX10_cut_X10_ends rfl rfl rfl (by decide +kernel) ⟨Nat.le_of_ble_eq_true rfl, Nat.le_of_ble_eq_true rfl⟩) rfl hl rfl (Nat.le_of_ble_eq_true rfl) dX10_cut_11 ⟨Nat.zero_le _, Nat.zero_le _⟩ hK hN KX_T trivial hP hD hS hA rfl rfl rfl rfl rfl rfl (by decide) rfl rfl (fun H locs hP hD hS => ?_)
  have hJ := Option.some.inj hJ
  obtain ⟨e0, e1, e2, e3, e4, e5, e6, e7, e8⟩ : (x11) = r ∧ (t_undos_11) = o_t_undos ∧ (t_whys_8) = o_t_whys ∧ (t_answer_8) = o_t_answer ∧ (t_now_8) = o_t_now ∧ (t_tried_1) = o_t_tried ∧ (t_kept_11) = o_t_kept ∧ (t_why_8) = o_t_why ∧ (t_more_8) = o_t_more := ⟨congrArg (fun z => z.1) hJ, congrArg (fun z => z.2.1) hJ, congrArg (fun z => z.2.2.1) hJ, congrArg (fun z => z.2.2.2.1) hJ, congrArg (fun z => z.2.2.2.2.1) hJ, congrArg (fun z => z.2.2.2.2.2.1) hJ, congrArg (fun z => z.2.2.2.2.2.2.1) hJ, congrArg (fun z => z.2.2.2.2.2.2.2.1) hJ, congrArg (fun z => z.2.2.2.2.2.2.2.2) hJ⟩
  exact hRet (by rw [← e1, ← e2, ← e3, ← e4, ← e5, ← e6, ← e7, ← e8]; exact hP) (by rw [← e1, ← e2, ← e3, ← e4, ← e5, ← e6, ← e7, ← e8]; exact hD) hS e0 dX10_cut_14

def J_X10_switches (t_whys : Int32) (t_answer : Int32) (t_now : Nat → Int32) (t_why : Nat → Int32) (t_more : Nat → Int32) (v1 : Int32) (v2 : Int32) : Option (Int32 × Int32 × Int32 × (Nat → Int32) × (Nat → Int32) × (Nat → Int32)) :=
    bnd1 (J_X10_isLantern t_now v1) fun x2 =>
    if x2 = 0 then (
    some ((-11 : Int32), t_whys, t_answer, t_now, t_why, t_more))
    else (
    bnd1 (J_X10_isSwitch t_now v1) fun x13 =>
    if x13 = 0 then (
    bnd1 (J_X10_of t_now v1 (0 : Int32)) fun x25 =>
    bnd4 (J_X10_refuses t_why t_more (6 : Int32) x25) fun x28 t_whys_28 t_why_28 t_more_28 =>
    some (x28, t_whys_28, t_answer, t_now, t_why_28, t_more_28))
    else (
    bnd1 (J_X10_of t_now v1 (2 : Int32)) fun x35 =>
    if x35 = v2 then (
    bnd4 (J_X10_refuses t_why t_more (7 : Int32) v1) fun x46 t_whys_46 t_why_46 t_more_46 =>
    some (x46, t_whys_46, t_answer, t_now, t_why_46, t_more_46))
    else (
    bnd1 (J_X10_sets t_now v1 (2 : Int32) v2) fun t_now_54 =>
    bnd1 (J_X10_of t_now_54 v1 (3 : Int32)) fun x63 =>
    nm (x63 + (1 : Int32)) fun x67 =>
    bnd1 (J_X10_sets t_now_54 v1 (3 : Int32) x67) fun t_now_68 =>
    chk (4 : Int32) 133 (
    nm (t_now_68 (4 : Int32).toNatClampNeg) fun x77 =>
    nm (x77 + (1 : Int32)) fun x79 =>
    chk (4 : Int32) 133 (
    bnd1 (J_X10_glowing (upd t_now_68 (4 : Int32).toNatClampNeg x79)) fun x83 =>
    bnd2 (J_X10_does x83) fun x86 t_answer_86 =>
    some (x86, t_whys, t_answer_86, (upd t_now_68 (4 : Int32).toNatClampNeg x79), t_why, t_more))))))
abbrev rmX10_switches : Room := { frames := 2, cells := 0, slots := 0, locals := 44 }
set_option maxHeartbeats 4000000 in
set_option maxRecDepth 100000 in
theorem c_X10_switches (l : Launch) (D : va_G) (cI cJ cC cL : ClassId) (q_t q_t_now q_t_tried q_t_thought q_t_kept q_t_saved q_t_finds q_t_reach q_t_steps q_t_glows q_t_lower q_t_upper q_t_line q_t_text q_t_told q_t_why q_t_more : Nat) (t_undos : Int32) (t_isSaved : Int32) (t_lined : Int32) (t_length : Int32) (t_at : Int32) (t_order : Int32) (t_whys : Int32) (t_answer : Int32) (t_now : Nat → Int32) (t_why : Nat → Int32) (t_more : Nat → Int32) (v1 : Int32) (v2 : Int32) (r : Int32) (o_t_whys : Int32) (o_t_answer : Int32) (o_t_now : Nat → Int32) (o_t_why : Nat → Int32) (o_t_more : Nat → Int32) (hJ : J_X10_switches t_whys t_answer t_now t_why t_more v1 v2 = some (r, o_t_whys, o_t_answer, o_t_now, o_t_why, o_t_more)) (sz : Nat) : Met l yX10_switches wsX10_switches rmX10_switches (va_Pc [.ref q_t, .int v1, .int v2] (jpre XT D (tyL cI cJ cC cL) [(q_t, .inr (8, [.ref q_t_now, .ref q_t_tried, .ref q_t_thought, .ref q_t_kept, .int t_undos, .ref q_t_saved, .int t_isSaved, .ref q_t_finds, .ref q_t_reach, .ref q_t_steps, .ref q_t_glows, .ref q_t_lower, .ref q_t_upper, .ref q_t_line, .int t_lined, .ref q_t_text, .int t_length, .int t_at, .int t_order, .ref q_t_told, .ref q_t_why, .ref q_t_more, .int t_whys, .int t_answer])), (q_t_now, .inl (cI, 133, .inl t_now)), (q_t_why, .inl (cI, 4, .inl t_why)), (q_t_more, .inl (cI, 4, .inl t_more))] sz)) (va_Qi (fun r' (_ : Unit) => r' = r) (fun _ t => jpost D (tyL cI cJ cC cL) (va_A [(q_t, .inr (8, [.ref q_t_now, .ref q_t_tried, .ref q_t_thought, .ref q_t_kept, .int t_undos, .ref q_t_saved, .int t_isSaved, .ref q_t_finds, .ref q_t_reach, .ref q_t_steps, .ref q_t_glows, .ref q_t_lower, .ref q_t_upper, .ref q_t_line, .int t_lined, .ref q_t_text, .int t_length, .int t_at, .int t_order, .ref q_t_told, .ref q_t_why, .ref q_t_more, .int t_whys, .int t_answer])), (q_t_now, .inl (cI, 133, .inl t_now)), (q_t_why, .inl (cI, 4, .inl t_why)), (q_t_more, .inl (cI, 4, .inl t_more))] sz) [(q_t, .inr (8, [.ref q_t_now, .ref q_t_tried, .ref q_t_thought, .ref q_t_kept, .int t_undos, .ref q_t_saved, .int t_isSaved, .ref q_t_finds, .ref q_t_reach, .ref q_t_steps, .ref q_t_glows, .ref q_t_lower, .ref q_t_upper, .ref q_t_line, .int t_lined, .ref q_t_text, .int t_length, .int t_at, .int t_order, .ref q_t_told, .ref q_t_why, .ref q_t_more, .int o_t_whys, .int o_t_answer])), (q_t_now, .inl (cI, 133, .inl o_t_now)), (q_t_why, .inl (cI, 4, .inl o_t_why)), (q_t_more, .inl (cI, 4, .inl o_t_more))] t) (va_A [(q_t, .inr (8, [.ref q_t_now, .ref q_t_tried, .ref q_t_thought, .ref q_t_kept, .int t_undos, .ref q_t_saved, .int t_isSaved, .ref q_t_finds, .ref q_t_reach, .ref q_t_steps, .ref q_t_glows, .ref q_t_lower, .ref q_t_upper, .ref q_t_line, .int t_lined, .ref q_t_text, .int t_length, .int t_at, .int t_order, .ref q_t_told, .ref q_t_why, .ref q_t_more, .int t_whys, .int t_answer])), (q_t_now, .inl (cI, 133, .inl t_now)), (q_t_why, .inl (cI, 4, .inl t_why)), (q_t_more, .inl (cI, 4, .inl t_more))] sz)) 0 0 (va_A [(q_t, .inr (8, [.ref q_t_now, .ref q_t_tried, .ref q_t_thought, .ref q_t_kept, .int t_undos, .ref q_t_saved, .int t_isSaved, .ref q_t_finds, .ref q_t_reach, .ref q_t_steps, .ref q_t_glows, .ref q_t_lower, .ref q_t_upper, .ref q_t_line, .int t_lined, .ref q_t_text, .int t_length, .int t_at, .int t_order, .ref q_t_told, .ref q_t_why, .ref q_t_more, .int t_whys, .int t_answer])), (q_t_now, .inl (cI, 133, .inl t_now)), (q_t_why, .inl (cI, 4, .inl t_why)), (q_t_more, .inl (cI, 4, .inl t_more))] sz) := by
  refine jE_i (cc := cX10_switches) (maxL := 3) (own := RX10) (ret := (some .int)) (lv0 := [(0, .ref q_t), (1, .int v1), (2, .int v2)]) (by decide) rfl rfl rfl (Nat.le_of_ble_eq_true rfl) rfl ?_
  intro p e s m args below meth c A Q ls hx hb hml hown hts hK hN hX hA hP hD hS hl hRet
  have hF : CallFix p m c cX10_switches 3 s args wsX10_switches RX10 := ⟨hx, hb, hml, hown, hts⟩
  have fl_9 := hts (.fieldLink RX10 9 "LanternLogicModel" "now" "[I") (by decide +kernel)
  have hin_X10 : ∀ w ∈ u_ws RX10 TX10 24, w ∈ wsX10_switches := by decide +kernel
  unfold J_X10_switches at hJ
  refine lv_aload_n hx hb dX10_switches_0 rfl (lv_at hl 0 rfl) ?_
  refine lv_iload_n hx hb dX10_switches_1 rfl (lv_at hl 1 rfl) ?_
  obtain ⟨x2, hc2, hJ⟩ := bnd1_some hJ
  refine jcV_i (C := RX10) (T := TX10) (N := 24) (ci := 8) (q0 := 0) (As := [.int v1]) (rest := []) (isC := [0, 1]) (isR := [2, 3]) (isB := [2, 3, 0, 1]) (wr := [(q_t_why, .inl (cI, 4, .inl t_why)), (q_t_more, .inl (cI, 4, .inl t_more))]) (ws2 := [(q_t, .inr (8, [.ref q_t_now, .ref q_t_tried, .ref q_t_thought, .ref q_t_kept, .int t_undos, .ref q_t_saved, .int t_isSaved, .ref q_t_finds, .ref q_t_reach, .ref q_t_steps, .ref q_t_glows, .ref q_t_lower, .ref q_t_upper, .ref q_t_line, .int t_lined, .ref q_t_text, .int t_length, .int t_at, .int t_order, .ref q_t_told, .ref q_t_why, .ref q_t_more, .int t_whys, .int t_answer])), (q_t_now, .inl (cI, 133, .inl t_now)), (q_t_why, .inl (cI, 4, .inl t_why)), (q_t_more, .inl (cI, 4, .inl t_more))]) hF (c_X10_isLantern l D cI cJ cC cL q_t q_t_now q_t_tried q_t_thought q_t_kept q_t_saved q_t_finds q_t_reach q_t_steps q_t_glows q_t_lower q_t_upper q_t_line q_t_text q_t_told q_t_why q_t_more t_undos t_isSaved t_lined t_length t_at t_order t_whys t_answer t_now v1 x2 hc2 s.heap.size) (cwV 1 hts gX10_switches_X10_isLantern rfl rfl rfl (by decide +kernel) ⟨Nat.le_of_ble_eq_true rfl, Nat.le_of_ble_eq_true rfl⟩) rfl hl rfl (Nat.le_of_ble_eq_true rfl) dX10_switches_2 ⟨Nat.zero_le _, Nat.zero_le _⟩ hK hN KX_T trivial hP hD hS hA rfl rfl rfl rfl rfl rfl (by decide) rfl rfl (fun H locs hP hD hS => ?_)
  refine jif_ne (tgt := 11) hx hb dX10_switches_5 (by decide) hJ (fun hJ => ?_) (fun hJ => ?_)
  · refine lv_aload_n hx hb dX10_switches_11 rfl (lv_at hl 0 rfl) ?_
    refine lv_iload_n hx hb dX10_switches_12 rfl (lv_at hl 1 rfl) ?_
    obtain ⟨x13, hc13, hJ⟩ := bnd1_some hJ
    refine jcV_i (C := RX10) (T := TX10) (N := 24) (ci := 8) (q0 := 0) (As := [.int v1]) (rest := []) (isC := [0, 1]) (isR := [2, 3]) (isB := [2, 3, 0, 1]) (wr := [(q_t_why, .inl (cI, 4, .inl t_why)), (q_t_more, .inl (cI, 4, .inl t_more))]) (ws2 := [(q_t, .inr (8, [.ref q_t_now, .ref q_t_tried, .ref q_t_thought, .ref q_t_kept, .int t_undos, .ref q_t_saved, .int t_isSaved, .ref q_t_finds, .ref q_t_reach, .ref q_t_steps, .ref q_t_glows, .ref q_t_lower, .ref q_t_upper, .ref q_t_line, .int t_lined, .ref q_t_text, .int t_length, .int t_at, .int t_order, .ref q_t_told, .ref q_t_why, .ref q_t_more, .int t_whys, .int t_answer])), (q_t_now, .inl (cI, 133, .inl t_now)), (q_t_why, .inl (cI, 4, .inl t_why)), (q_t_more, .inl (cI, 4, .inl t_more))]) hF (c_X10_isSwitch l D cI cJ cC cL q_t q_t_now q_t_tried q_t_thought q_t_kept q_t_saved q_t_finds q_t_reach q_t_steps q_t_glows q_t_lower q_t_upper q_t_line q_t_text q_t_told q_t_why q_t_more t_undos t_isSaved t_lined t_length t_at t_order t_whys t_answer t_now v1 x13 hc13 H.size) (cwV 1 hts gX10_switches_X10_isSwitch rfl rfl rfl (by decide +kernel) ⟨Nat.le_of_ble_eq_true rfl, Nat.le_of_ble_eq_true rfl⟩) rfl hl rfl (Nat.le_of_ble_eq_true rfl) dX10_switches_13 ⟨Nat.zero_le _, Nat.zero_le _⟩ hK hN KX_T trivial hP hD hS hA rfl rfl rfl rfl rfl rfl (by decide) rfl rfl (fun H locs hP hD hS => ?_)
    refine jif_ne (tgt := 32) hx hb dX10_switches_16 (by decide) hJ (fun hJ => ?_) (fun hJ => ?_)
    · refine lv_aload_n hx hb dX10_switches_32 rfl (lv_at hl 0 rfl) ?_
      refine lv_iload_n hx hb dX10_switches_33 rfl (lv_at hl 1 rfl) ?_
      refine lv_iconst (v := (2 : Int32)) hx hb dX10_switches_34 (by decide) ?_
      obtain ⟨x35, hc35, hJ⟩ := bnd1_some hJ
      refine jcV_i (C := RX10) (T := TX10) (N := 24) (ci := 8) (q0 := 0) (As := [.int v1, .int (2 : Int32)]) (rest := []) (isC := [0, 1]) (isR := [2, 3]) (isB := [2, 3, 0, 1]) (wr := [(q_t_why, .inl (cI, 4, .inl t_why)), (q_t_more, .inl (cI, 4, .inl t_more))]) (ws2 := [(q_t, .inr (8, [.ref q_t_now, .ref q_t_tried, .ref q_t_thought, .ref q_t_kept, .int t_undos, .ref q_t_saved, .int t_isSaved, .ref q_t_finds, .ref q_t_reach, .ref q_t_steps, .ref q_t_glows, .ref q_t_lower, .ref q_t_upper, .ref q_t_line, .int t_lined, .ref q_t_text, .int t_length, .int t_at, .int t_order, .ref q_t_told, .ref q_t_why, .ref q_t_more, .int t_whys, .int t_answer])), (q_t_now, .inl (cI, 133, .inl t_now)), (q_t_why, .inl (cI, 4, .inl t_why)), (q_t_more, .inl (cI, 4, .inl t_more))]) hF (c_X10_of l D cI cJ cC cL q_t q_t_now q_t_tried q_t_thought q_t_kept q_t_saved q_t_finds q_t_reach q_t_steps q_t_glows q_t_lower q_t_upper q_t_line q_t_text q_t_told q_t_why q_t_more t_undos t_isSaved t_lined t_length t_at t_order t_whys t_answer t_now v1 (2 : Int32) x35 hc35 H.size) (cwV 2 hts gX10_switches_X10_of rfl rfl rfl (by decide +kernel) ⟨Nat.le_of_ble_eq_true rfl, Nat.le_of_ble_eq_true rfl⟩) rfl hl rfl (Nat.le_of_ble_eq_true rfl) dX10_switches_35 ⟨Nat.zero_le _, Nat.zero_le _⟩ hK hN KX_T trivial hP hD hS hA rfl rfl rfl rfl rfl rfl (by decide) rfl rfl (fun H locs hP hD hS => ?_)
      refine lv_iload_n hx hb dX10_switches_38 rfl (lv_at hl 2 rfl) ?_
      refine jif_icmp_ne (tgt := 50) hx hb dX10_switches_39 (by decide) hJ (fun hJ => ?_) (fun hJ => ?_)
      · refine lv_aload_n hx hb dX10_switches_50 rfl (lv_at hl 0 rfl) ?_
        refine lv_iload_n hx hb dX10_switches_51 rfl (lv_at hl 1 rfl) ?_
        refine lv_iconst (v := (2 : Int32)) hx hb dX10_switches_52 (by decide) ?_
        refine lv_iload_n hx hb dX10_switches_53 rfl (lv_at hl 2 rfl) ?_
        obtain ⟨t_now_54, hc54, hJ⟩ := bnd1_some hJ
        refine jcV_v (C := RX10) (T := TX10) (N := 24) (ci := 8) (q0 := 0) (As := [.int v1, .int (2 : Int32), .int v2]) (rest := []) (isC := [0, 1]) (isR := [2, 3]) (isB := [2, 3, 0, 1]) (wr := [(q_t_why, .inl (cI, 4, .inl t_why)), (q_t_more, .inl (cI, 4, .inl t_more))]) (ws2 := [(q_t, .inr (8, [.ref q_t_now, .ref q_t_tried, .ref q_t_thought, .ref q_t_kept, .int t_undos, .ref q_t_saved, .int t_isSaved, .ref q_t_finds, .ref q_t_reach, .ref q_t_steps, .ref q_t_glows, .ref q_t_lower, .ref q_t_upper, .ref q_t_line, .int t_lined, .ref q_t_text, .int t_length, .int t_at, .int t_order, .ref q_t_told, .ref q_t_why, .ref q_t_more, .int t_whys, .int t_answer])), (q_t_now, .inl (cI, 133, .inl t_now_54)), (q_t_why, .inl (cI, 4, .inl t_why)), (q_t_more, .inl (cI, 4, .inl t_more))]) hF (c_X10_sets l D cI cJ cC cL q_t q_t_now q_t_tried q_t_thought q_t_kept q_t_saved q_t_finds q_t_reach q_t_steps q_t_glows q_t_lower q_t_upper q_t_line q_t_text q_t_told q_t_why q_t_more t_undos t_isSaved t_lined t_length t_at t_order t_whys t_answer t_now v1 (2 : Int32) v2 t_now_54 hc54 H.size) (cwV 3 hts gX10_switches_X10_sets rfl rfl rfl (by decide +kernel) ⟨Nat.le_of_ble_eq_true rfl, Nat.le_of_ble_eq_true rfl⟩) rfl hl rfl (Nat.le_of_ble_eq_true rfl) dX10_switches_54 ⟨Nat.zero_le _, Nat.zero_le _⟩ hK hN KX_T trivial hP hD hS hA rfl rfl rfl rfl rfl rfl (by decide) rfl rfl (fun H locs hP hD hS => ?_)
        refine lv_aload_n hx hb dX10_switches_57 rfl (lv_at hl 0 rfl) ?_
        refine lv_iload_n hx hb dX10_switches_58 rfl (lv_at hl 1 rfl) ?_
        refine lv_iconst (v := (3 : Int32)) hx hb dX10_switches_59 (by decide) ?_
        refine lv_aload_n hx hb dX10_switches_60 rfl (lv_at hl 0 rfl) ?_
        refine lv_iload_n hx hb dX10_switches_61 rfl (lv_at hl 1 rfl) ?_
        refine lv_iconst (v := (3 : Int32)) hx hb dX10_switches_62 (by decide) ?_
        obtain ⟨x63, hc63, hJ⟩ := bnd1_some hJ
        refine jcV_i (C := RX10) (T := TX10) (N := 24) (ci := 8) (q0 := 0) (As := [.int v1, .int (3 : Int32)]) (rest := [.int (3 : Int32), .int v1, .ref q_t]) (isC := [0, 1]) (isR := [2, 3]) (isB := [2, 3, 0, 1]) (wr := [(q_t_why, .inl (cI, 4, .inl t_why)), (q_t_more, .inl (cI, 4, .inl t_more))]) (ws2 := [(q_t, .inr (8, [.ref q_t_now, .ref q_t_tried, .ref q_t_thought, .ref q_t_kept, .int t_undos, .ref q_t_saved, .int t_isSaved, .ref q_t_finds, .ref q_t_reach, .ref q_t_steps, .ref q_t_glows, .ref q_t_lower, .ref q_t_upper, .ref q_t_line, .int t_lined, .ref q_t_text, .int t_length, .int t_at, .int t_order, .ref q_t_told, .ref q_t_why, .ref q_t_more, .int t_whys, .int t_answer])), (q_t_now, .inl (cI, 133, .inl t_now_54)), (q_t_why, .inl (cI, 4, .inl t_why)), (q_t_more, .inl (cI, 4, .inl t_more))]) hF (c_X10_of l D cI cJ cC cL q_t q_t_now q_t_tried q_t_thought q_t_kept q_t_saved q_t_finds q_t_reach q_t_steps q_t_glows q_t_lower q_t_upper q_t_line q_t_text q_t_told q_t_why q_t_more t_undos t_isSaved t_lined t_length t_at t_order t_whys t_answer t_now_54 v1 (3 : Int32) x63 hc63 H.size) (cwV 2 hts gX10_switches_X10_of rfl rfl rfl (by decide +kernel) ⟨Nat.le_of_ble_eq_true rfl, Nat.le_of_ble_eq_true rfl⟩) rfl hl rfl (Nat.le_of_ble_eq_true rfl) dX10_switches_63 ⟨Nat.zero_le _, Nat.zero_le _⟩ hK hN KX_T trivial hP hD hS hA rfl rfl rfl rfl rfl rfl (by decide) rfl rfl (fun H locs hP hD hS => ?_)
        refine lv_iconst (v := (1 : Int32)) hx hb dX10_switches_66 (by decide) ?_
        refine lv_iadd hx hb dX10_switches_67 ?_
        refine jt_i hJ (fun x67 hJ => ?_)
        obtain ⟨t_now_68, hc68, hJ⟩ := bnd1_some hJ
        refine jcV_v (C := RX10) (T := TX10) (N := 24) (ci := 8) (q0 := 0) (As := [.int v1, .int (3 : Int32), .int x67]) (rest := []) (isC := [0, 1]) (isR := [2, 3]) (isB := [2, 3, 0, 1]) (wr := [(q_t_why, .inl (cI, 4, .inl t_why)), (q_t_more, .inl (cI, 4, .inl t_more))]) (ws2 := [(q_t, .inr (8, [.ref q_t_now, .ref q_t_tried, .ref q_t_thought, .ref q_t_kept, .int t_undos, .ref q_t_saved, .int t_isSaved, .ref q_t_finds, .ref q_t_reach, .ref q_t_steps, .ref q_t_glows, .ref q_t_lower, .ref q_t_upper, .ref q_t_line, .int t_lined, .ref q_t_text, .int t_length, .int t_at, .int t_order, .ref q_t_told, .ref q_t_why, .ref q_t_more, .int t_whys, .int t_answer])), (q_t_now, .inl (cI, 133, .inl t_now_68)), (q_t_why, .inl (cI, 4, .inl t_why)), (q_t_more, .inl (cI, 4, .inl t_more))]) hF (c_X10_sets l D cI cJ cC cL q_t q_t_now q_t_tried q_t_thought q_t_kept q_t_saved q_t_finds q_t_reach q_t_steps q_t_glows q_t_lower q_t_upper q_t_line q_t_text q_t_told q_t_why q_t_more t_undos t_isSaved t_lined t_length t_at t_order t_whys t_answer t_now_54 v1 (3 : Int32) x67 t_now_68 hc68 H.size) (cwV 3 hts gX10_switches_X10_sets rfl rfl rfl (by decide +kernel) ⟨Nat.le_of_ble_eq_true rfl, Nat.le_of_ble_eq_true rfl⟩) rfl hl rfl (Nat.le_of_ble_eq_true rfl) dX10_switches_68 ⟨Nat.zero_le _, Nat.zero_le _⟩ hK hN KX_T trivial hP hD hS hA rfl rfl rfl rfl rfl rfl (by decide) rfl rfl (fun H locs hP hD hS => ?_)
        refine lv_aload_n hx hb dX10_switches_71 rfl (lv_at hl 0 rfl) ?_
        refine va_get (ci := 8) (v := .ref q_t_now) (C := RX10) (T := TX10) (N := 24) hx hb hts hin_X10 hown hK hP 0 rfl rfl 0 (by decide) fl_9 (fun _ h9 => h9) rfl dX10_switches_72 ?_
        refine lv_iconst (v := (4 : Int32)) hx hb dX10_switches_75 (by decide) ?_
        refine lv_dup2_11 hx hb dX10_switches_76 rfl rfl ?_
        obtain ⟨hin, hJ⟩ := chk_in hJ
        refine va_iald hx hb hK hP 1 0 rfl rfl hin dX10_switches_77 ?_
        refine jt_i hJ (fun x77 hJ => ?_)
        refine lv_iconst (v := (1 : Int32)) hx hb dX10_switches_78 (by decide) ?_
        refine lv_iadd hx hb dX10_switches_79 ?_
        refine jt_i hJ (fun x79 hJ => ?_)
        obtain ⟨hin, hJ⟩ := chk_in hJ
        refine va_iast hx hb hK hP hD hS 1 0 rfl rfl hin dX10_switches_80 (fun H locs hP hD hS => ?_)
        have hP : va_P D vwCl [(q_t, .inr (8, [.ref q_t_now, .ref q_t_tried, .ref q_t_thought, .ref q_t_kept, .int t_undos, .ref q_t_saved, .int t_isSaved, .ref q_t_finds, .ref q_t_reach, .ref q_t_steps, .ref q_t_glows, .ref q_t_lower, .ref q_t_upper, .ref q_t_line, .int t_lined, .ref q_t_text, .int t_length, .int t_at, .int t_order, .ref q_t_told, .ref q_t_why, .ref q_t_more, .int t_whys, .int t_answer])), (q_t_now, .inl (cI, 133, .inl (upd t_now_68 (4 : Int32).toNatClampNeg x79))), (q_t_why, .inl (cI, 4, .inl t_why)), (q_t_more, .inl (cI, 4, .inl t_more))] H := hP
        have hD : va_D A [(q_t, .inr (8, [.ref q_t_now, .ref q_t_tried, .ref q_t_thought, .ref q_t_kept, .int t_undos, .ref q_t_saved, .int t_isSaved, .ref q_t_finds, .ref q_t_reach, .ref q_t_steps, .ref q_t_glows, .ref q_t_lower, .ref q_t_upper, .ref q_t_line, .int t_lined, .ref q_t_text, .int t_length, .int t_at, .int t_order, .ref q_t_told, .ref q_t_why, .ref q_t_more, .int t_whys, .int t_answer])), (q_t_now, .inl (cI, 133, .inl (upd t_now_68 (4 : Int32).toNatClampNeg x79))), (q_t_why, .inl (cI, 4, .inl t_why)), (q_t_more, .inl (cI, 4, .inl t_more))] := hD
        refine lv_aload_n hx hb dX10_switches_81 rfl (lv_at hl 0 rfl) ?_
        refine lv_aload_n hx hb dX10_switches_82 rfl (lv_at hl 0 rfl) ?_
        obtain ⟨x83, hc83, hJ⟩ := bnd1_some hJ
        refine jcV_i (C := RX10) (T := TX10) (N := 24) (ci := 8) (q0 := 0) (As := []) (rest := [.ref q_t]) (isC := [0, 1]) (isR := [2, 3]) (isB := [2, 3, 0, 1]) (wr := [(q_t_why, .inl (cI, 4, .inl t_why)), (q_t_more, .inl (cI, 4, .inl t_more))]) (ws2 := [(q_t, .inr (8, [.ref q_t_now, .ref q_t_tried, .ref q_t_thought, .ref q_t_kept, .int t_undos, .ref q_t_saved, .int t_isSaved, .ref q_t_finds, .ref q_t_reach, .ref q_t_steps, .ref q_t_glows, .ref q_t_lower, .ref q_t_upper, .ref q_t_line, .int t_lined, .ref q_t_text, .int t_length, .int t_at, .int t_order, .ref q_t_told, .ref q_t_why, .ref q_t_more, .int t_whys, .int t_answer])), (q_t_now, .inl (cI, 133, .inl (upd t_now_68 (4 : Int32).toNatClampNeg x79))), (q_t_why, .inl (cI, 4, .inl t_why)), (q_t_more, .inl (cI, 4, .inl t_more))]) hF (c_X10_glowing l D cI cJ cC cL q_t q_t_now q_t_tried q_t_thought q_t_kept q_t_saved q_t_finds q_t_reach q_t_steps q_t_glows q_t_lower q_t_upper q_t_line q_t_text q_t_told q_t_why q_t_more t_undos t_isSaved t_lined t_length t_at t_order t_whys t_answer (upd t_now_68 (4 : Int32).toNatClampNeg x79) x83 hc83 H.size) (cwV 0 hts gX10_switches_X10_glowing rfl rfl rfl (by decide +kernel) ⟨Nat.le_of_ble_eq_true rfl, Nat.le_of_ble_eq_true rfl⟩) rfl hl rfl (Nat.le_of_ble_eq_true rfl) dX10_switches_83 ⟨Nat.zero_le _, Nat.zero_le _⟩ hK hN KX_T trivial hP hD hS hA rfl rfl rfl rfl rfl rfl (by decide) rfl rfl (fun H locs hP hD hS => ?_)
        obtain ⟨x86, t_answer_86, hc86, hJ⟩ := bnd2_some hJ
        refine jcV_i (C := RX10) (T := TX10) (N := 24) (ci := 8) (q0 := 0) (As := [.int x83]) (rest := []) (isC := [0]) (isR := [1, 2, 3]) (isB := [3, 0, 1, 2]) (wr := [(q_t_now, .inl (cI, 133, .inl (upd t_now_68 (4 : Int32).toNatClampNeg x79))), (q_t_why, .inl (cI, 4, .inl t_why)), (q_t_more, .inl (cI, 4, .inl t_more))]) (ws2 := [(q_t, .inr (8, [.ref q_t_now, .ref q_t_tried, .ref q_t_thought, .ref q_t_kept, .int t_undos, .ref q_t_saved, .int t_isSaved, .ref q_t_finds, .ref q_t_reach, .ref q_t_steps, .ref q_t_glows, .ref q_t_lower, .ref q_t_upper, .ref q_t_line, .int t_lined, .ref q_t_text, .int t_length, .int t_at, .int t_order, .ref q_t_told, .ref q_t_why, .ref q_t_more, .int t_whys, .int t_answer_86])), (q_t_now, .inl (cI, 133, .inl (upd t_now_68 (4 : Int32).toNatClampNeg x79))), (q_t_why, .inl (cI, 4, .inl t_why)), (q_t_more, .inl (cI, 4, .inl t_more))]) hF (c_X10_does l D cI cJ cC cL q_t q_t_now q_t_tried q_t_thought q_t_kept q_t_saved q_t_finds q_t_reach q_t_steps q_t_glows q_t_lower q_t_upper q_t_line q_t_text q_t_told q_t_why q_t_more t_undos t_isSaved t_lined t_length t_at t_order t_whys t_answer x83 x86 t_answer_86 hc86 H.size) (cwV 1 hts gX10_switches_X10_does rfl rfl rfl (by decide +kernel) ⟨Nat.le_of_ble_eq_true rfl, Nat.le_of_ble_eq_true rfl⟩) rfl hl rfl (Nat.le_of_ble_eq_true rfl) dX10_switches_86 ⟨Nat.zero_le _, Nat.zero_le _⟩ hK hN KX_T trivial hP hD hS hA rfl rfl rfl rfl rfl rfl (by decide) rfl rfl (fun H locs hP hD hS => ?_)
        have hJ := Option.some.inj hJ
        obtain ⟨e0, e1, e2, e3, e4, e5⟩ : (x86) = r ∧ (t_whys) = o_t_whys ∧ (t_answer_86) = o_t_answer ∧ ((upd t_now_68 (4 : Int32).toNatClampNeg x79)) = o_t_now ∧ (t_why) = o_t_why ∧ (t_more) = o_t_more := ⟨congrArg (fun z => z.1) hJ, congrArg (fun z => z.2.1) hJ, congrArg (fun z => z.2.2.1) hJ, congrArg (fun z => z.2.2.2.1) hJ, congrArg (fun z => z.2.2.2.2.1) hJ, congrArg (fun z => z.2.2.2.2.2) hJ⟩
        exact hRet (by rw [← e1, ← e2, ← e3, ← e4, ← e5]; exact hP) (by rw [← e1, ← e2, ← e3, ← e4, ← e5]; exact hD) hS e0 dX10_switches_89
      · refine lv_aload_n hx hb dX10_switches_42 rfl (lv_at hl 0 rfl) ?_
        refine lv_bipush (v := (7 : Int32)) hx hb dX10_switches_43 (by decide) ?_
        refine lv_iload_n hx hb dX10_switches_45 rfl (lv_at hl 1 rfl) ?_
        obtain ⟨x46, t_whys_46, t_why_46, t_more_46, hc46, hJ⟩ := bnd4_some hJ
        refine jcV_i (C := RX10) (T := TX10) (N := 24) (ci := 8) (q0 := 0) (As := [.int (7 : Int32), .int v1]) (rest := []) (isC := [0, 2, 3]) (isR := [1]) (isB := [1, 0, 2, 3]) (wr := [(q_t_now, .inl (cI, 133, .inl t_now))]) (ws2 := [(q_t, .inr (8, [.ref q_t_now, .ref q_t_tried, .ref q_t_thought, .ref q_t_kept, .int t_undos, .ref q_t_saved, .int t_isSaved, .ref q_t_finds, .ref q_t_reach, .ref q_t_steps, .ref q_t_glows, .ref q_t_lower, .ref q_t_upper, .ref q_t_line, .int t_lined, .ref q_t_text, .int t_length, .int t_at, .int t_order, .ref q_t_told, .ref q_t_why, .ref q_t_more, .int t_whys_46, .int t_answer])), (q_t_now, .inl (cI, 133, .inl t_now)), (q_t_why, .inl (cI, 4, .inl t_why_46)), (q_t_more, .inl (cI, 4, .inl t_more_46))]) hF (c_X10_refuses l D cI cJ cC cL q_t q_t_now q_t_tried q_t_thought q_t_kept q_t_saved q_t_finds q_t_reach q_t_steps q_t_glows q_t_lower q_t_upper q_t_line q_t_text q_t_told q_t_why q_t_more t_undos t_isSaved t_lined t_length t_at t_order t_whys t_answer t_why t_more (7 : Int32) v1 x46 t_whys_46 t_why_46 t_more_46 hc46 H.size) (cwV 2 hts gX10_switches_X10_refuses rfl rfl rfl (by decide +kernel) ⟨Nat.le_of_ble_eq_true rfl, Nat.le_of_ble_eq_true rfl⟩) rfl hl rfl (Nat.le_of_ble_eq_true rfl) dX10_switches_46 ⟨Nat.zero_le _, Nat.zero_le _⟩ hK hN KX_T trivial hP hD hS hA rfl rfl rfl rfl rfl rfl (by decide) rfl rfl (fun H locs hP hD hS => ?_)
        have hJ := Option.some.inj hJ
        obtain ⟨e0, e1, e2, e3, e4, e5⟩ : (x46) = r ∧ (t_whys_46) = o_t_whys ∧ (t_answer) = o_t_answer ∧ (t_now) = o_t_now ∧ (t_why_46) = o_t_why ∧ (t_more_46) = o_t_more := ⟨congrArg (fun z => z.1) hJ, congrArg (fun z => z.2.1) hJ, congrArg (fun z => z.2.2.1) hJ, congrArg (fun z => z.2.2.2.1) hJ, congrArg (fun z => z.2.2.2.2.1) hJ, congrArg (fun z => z.2.2.2.2.2) hJ⟩
        exact hRet (by rw [← e1, ← e2, ← e3, ← e4, ← e5]; exact hP) (by rw [← e1, ← e2, ← e3, ← e4, ← e5]; exact hD) hS e0 dX10_switches_49
    · refine lv_aload_n hx hb dX10_switches_19 rfl (lv_at hl 0 rfl) ?_
      refine lv_bipush (v := (6 : Int32)) hx hb dX10_switches_20 (by decide) ?_
      refine lv_aload_n hx hb dX10_switches_22 rfl (lv_at hl 0 rfl) ?_
      refine lv_iload_n hx hb dX10_switches_23 rfl (lv_at hl 1 rfl) ?_
      refine lv_iconst (v := (0 : Int32)) hx hb dX10_switches_24 (by decide) ?_
      obtain ⟨x25, hc25, hJ⟩ := bnd1_some hJ
      refine jcV_i (C := RX10) (T := TX10) (N := 24) (ci := 8) (q0 := 0) (As := [.int v1, .int (0 : Int32)]) (rest := [.int (6 : Int32), .ref q_t]) (isC := [0, 1]) (isR := [2, 3]) (isB := [2, 3, 0, 1]) (wr := [(q_t_why, .inl (cI, 4, .inl t_why)), (q_t_more, .inl (cI, 4, .inl t_more))]) (ws2 := [(q_t, .inr (8, [.ref q_t_now, .ref q_t_tried, .ref q_t_thought, .ref q_t_kept, .int t_undos, .ref q_t_saved, .int t_isSaved, .ref q_t_finds, .ref q_t_reach, .ref q_t_steps, .ref q_t_glows, .ref q_t_lower, .ref q_t_upper, .ref q_t_line, .int t_lined, .ref q_t_text, .int t_length, .int t_at, .int t_order, .ref q_t_told, .ref q_t_why, .ref q_t_more, .int t_whys, .int t_answer])), (q_t_now, .inl (cI, 133, .inl t_now)), (q_t_why, .inl (cI, 4, .inl t_why)), (q_t_more, .inl (cI, 4, .inl t_more))]) hF (c_X10_of l D cI cJ cC cL q_t q_t_now q_t_tried q_t_thought q_t_kept q_t_saved q_t_finds q_t_reach q_t_steps q_t_glows q_t_lower q_t_upper q_t_line q_t_text q_t_told q_t_why q_t_more t_undos t_isSaved t_lined t_length t_at t_order t_whys t_answer t_now v1 (0 : Int32) x25 hc25 H.size) (cwV 2 hts gX10_switches_X10_of rfl rfl rfl (by decide +kernel) ⟨Nat.le_of_ble_eq_true rfl, Nat.le_of_ble_eq_true rfl⟩) rfl hl rfl (Nat.le_of_ble_eq_true rfl) dX10_switches_25 ⟨Nat.zero_le _, Nat.zero_le _⟩ hK hN KX_T trivial hP hD hS hA rfl rfl rfl rfl rfl rfl (by decide) rfl rfl (fun H locs hP hD hS => ?_)
      obtain ⟨x28, t_whys_28, t_why_28, t_more_28, hc28, hJ⟩ := bnd4_some hJ
      refine jcV_i (C := RX10) (T := TX10) (N := 24) (ci := 8) (q0 := 0) (As := [.int (6 : Int32), .int x25]) (rest := []) (isC := [0, 2, 3]) (isR := [1]) (isB := [1, 0, 2, 3]) (wr := [(q_t_now, .inl (cI, 133, .inl t_now))]) (ws2 := [(q_t, .inr (8, [.ref q_t_now, .ref q_t_tried, .ref q_t_thought, .ref q_t_kept, .int t_undos, .ref q_t_saved, .int t_isSaved, .ref q_t_finds, .ref q_t_reach, .ref q_t_steps, .ref q_t_glows, .ref q_t_lower, .ref q_t_upper, .ref q_t_line, .int t_lined, .ref q_t_text, .int t_length, .int t_at, .int t_order, .ref q_t_told, .ref q_t_why, .ref q_t_more, .int t_whys_28, .int t_answer])), (q_t_now, .inl (cI, 133, .inl t_now)), (q_t_why, .inl (cI, 4, .inl t_why_28)), (q_t_more, .inl (cI, 4, .inl t_more_28))]) hF (c_X10_refuses l D cI cJ cC cL q_t q_t_now q_t_tried q_t_thought q_t_kept q_t_saved q_t_finds q_t_reach q_t_steps q_t_glows q_t_lower q_t_upper q_t_line q_t_text q_t_told q_t_why q_t_more t_undos t_isSaved t_lined t_length t_at t_order t_whys t_answer t_why t_more (6 : Int32) x25 x28 t_whys_28 t_why_28 t_more_28 hc28 H.size) (cwV 2 hts gX10_switches_X10_refuses rfl rfl rfl (by decide +kernel) ⟨Nat.le_of_ble_eq_true rfl, Nat.le_of_ble_eq_true rfl⟩) rfl hl rfl (Nat.le_of_ble_eq_true rfl) dX10_switches_28 ⟨Nat.zero_le _, Nat.zero_le _⟩ hK hN KX_T trivial hP hD hS hA rfl rfl rfl rfl rfl rfl (by decide) rfl rfl (fun H locs hP hD hS => ?_)
      have hJ := Option.some.inj hJ
      obtain ⟨e0, e1, e2, e3, e4, e5⟩ : (x28) = r ∧ (t_whys_28) = o_t_whys ∧ (t_answer) = o_t_answer ∧ (t_now) = o_t_now ∧ (t_why_28) = o_t_why ∧ (t_more_28) = o_t_more := ⟨congrArg (fun z => z.1) hJ, congrArg (fun z => z.2.1) hJ, congrArg (fun z => z.2.2.1) hJ, congrArg (fun z => z.2.2.2.1) hJ, congrArg (fun z => z.2.2.2.2.1) hJ, congrArg (fun z => z.2.2.2.2.2) hJ⟩
      exact hRet (by rw [← e1, ← e2, ← e3, ← e4, ← e5]; exact hP) (by rw [← e1, ← e2, ← e3, ← e4, ← e5]; exact hD) hS e0 dX10_switches_31
  · refine lv_bipush (v := (-11 : Int32)) hx hb dX10_switches_8 (by decide) ?_
    have hJ := Option.some.inj hJ
    obtain ⟨e0, e1, e2, e3, e4, e5⟩ : ((-11 : Int32)) = r ∧ (t_whys) = o_t_whys ∧ (t_answer) = o_t_answer ∧ (t_now) = o_t_now ∧ (t_why) = o_t_why ∧ (t_more) = o_t_more := ⟨congrArg (fun z => z.1) hJ, congrArg (fun z => z.2.1) hJ, congrArg (fun z => z.2.2.1) hJ, congrArg (fun z => z.2.2.2.1) hJ, congrArg (fun z => z.2.2.2.2.1) hJ, congrArg (fun z => z.2.2.2.2.2) hJ⟩
    exact hRet (by rw [← e1, ← e2, ← e3, ← e4, ← e5]; exact hP) (by rw [← e1, ← e2, ← e3, ← e4, ← e5]; exact hD) hS e0 dX10_switches_10

def J_X10_set_b16 (v1 : Int32) (v2 : Int32) (t_undos : Int32) (t_whys : Int32) (t_answer : Int32) (t_now : Nat → Int32) (t_tried : Nat → Int32) (t_kept : Nat → Int32) (t_why : Nat → Int32) (t_more : Nat → Int32) (s16_2 : Int32) (s16_3 : Int32) : Option (Int32 × Int32 × Int32 × Int32 × (Nat → Int32) × (Nat → Int32) × (Nat → Int32) × (Nat → Int32) × (Nat → Int32)) :=
    bnd6 (J_X10_switches t_whys t_answer t_now t_why t_more s16_2 s16_3) fun x16 t_whys_16 t_answer_16 t_now_16 t_why_16 t_more_16 =>
    bnd3 (J_X10_ends t_undos t_answer_16 t_tried t_kept x16) fun x19 t_undos_19 t_kept_19 =>
    some (x19, t_undos_19, t_whys_16, t_answer_16, t_now_16, t_tried, t_kept_19, t_why_16, t_more_16)
def J_X10_set (t_undos : Int32) (t_whys : Int32) (t_answer : Int32) (t_now : Nat → Int32) (t_tried : Nat → Int32) (t_kept : Nat → Int32) (t_why : Nat → Int32) (t_more : Nat → Int32) (v1 : Int32) (v2 : Int32) : Option (Int32 × Int32 × Int32 × Int32 × (Nat → Int32) × (Nat → Int32) × (Nat → Int32) × (Nat → Int32) × (Nat → Int32)) :=
    bnd1 (J_X10_tries t_now t_tried) fun t_tried_1 =>
    if v2 = 0 then (
    J_X10_set_b16 v1 v2 t_undos t_whys t_answer t_now t_tried_1 t_kept t_why t_more v1 (0 : Int32))
    else (
    J_X10_set_b16 v1 v2 t_undos t_whys t_answer t_now t_tried_1 t_kept t_why t_more v1 (1 : Int32))
abbrev rmX10_set : Room := { frames := 3, cells := 0, slots := 0, locals := 66 }
set_option maxHeartbeats 4000000 in
set_option maxRecDepth 100000 in
theorem c_X10_set (l : Launch) (D : va_G) (cI cJ cC cL : ClassId) (q_t q_t_now q_t_tried q_t_thought q_t_kept q_t_saved q_t_finds q_t_reach q_t_steps q_t_glows q_t_lower q_t_upper q_t_line q_t_text q_t_told q_t_why q_t_more : Nat) (t_undos : Int32) (t_isSaved : Int32) (t_lined : Int32) (t_length : Int32) (t_at : Int32) (t_order : Int32) (t_whys : Int32) (t_answer : Int32) (t_now : Nat → Int32) (t_tried : Nat → Int32) (t_kept : Nat → Int32) (t_why : Nat → Int32) (t_more : Nat → Int32) (v1 : Int32) (v2 : Int32) (r : Int32) (o_t_undos : Int32) (o_t_whys : Int32) (o_t_answer : Int32) (o_t_now : Nat → Int32) (o_t_tried : Nat → Int32) (o_t_kept : Nat → Int32) (o_t_why : Nat → Int32) (o_t_more : Nat → Int32) (hJ : J_X10_set t_undos t_whys t_answer t_now t_tried t_kept t_why t_more v1 v2 = some (r, o_t_undos, o_t_whys, o_t_answer, o_t_now, o_t_tried, o_t_kept, o_t_why, o_t_more)) (sz : Nat) : Met l yX10_set wsX10_set rmX10_set (va_Pc [.ref q_t, .int v1, .int v2] (jpre XT D (tyL cI cJ cC cL) [(q_t, .inr (8, [.ref q_t_now, .ref q_t_tried, .ref q_t_thought, .ref q_t_kept, .int t_undos, .ref q_t_saved, .int t_isSaved, .ref q_t_finds, .ref q_t_reach, .ref q_t_steps, .ref q_t_glows, .ref q_t_lower, .ref q_t_upper, .ref q_t_line, .int t_lined, .ref q_t_text, .int t_length, .int t_at, .int t_order, .ref q_t_told, .ref q_t_why, .ref q_t_more, .int t_whys, .int t_answer])), (q_t_now, .inl (cI, 133, .inl t_now)), (q_t_tried, .inl (cI, 133, .inl t_tried)), (q_t_kept, .inl (cI, 1064, .inl t_kept)), (q_t_why, .inl (cI, 4, .inl t_why)), (q_t_more, .inl (cI, 4, .inl t_more))] sz)) (va_Qi (fun r' (_ : Unit) => r' = r) (fun _ t => jpost D (tyL cI cJ cC cL) (va_A [(q_t, .inr (8, [.ref q_t_now, .ref q_t_tried, .ref q_t_thought, .ref q_t_kept, .int t_undos, .ref q_t_saved, .int t_isSaved, .ref q_t_finds, .ref q_t_reach, .ref q_t_steps, .ref q_t_glows, .ref q_t_lower, .ref q_t_upper, .ref q_t_line, .int t_lined, .ref q_t_text, .int t_length, .int t_at, .int t_order, .ref q_t_told, .ref q_t_why, .ref q_t_more, .int t_whys, .int t_answer])), (q_t_now, .inl (cI, 133, .inl t_now)), (q_t_tried, .inl (cI, 133, .inl t_tried)), (q_t_kept, .inl (cI, 1064, .inl t_kept)), (q_t_why, .inl (cI, 4, .inl t_why)), (q_t_more, .inl (cI, 4, .inl t_more))] sz) [(q_t, .inr (8, [.ref q_t_now, .ref q_t_tried, .ref q_t_thought, .ref q_t_kept, .int o_t_undos, .ref q_t_saved, .int t_isSaved, .ref q_t_finds, .ref q_t_reach, .ref q_t_steps, .ref q_t_glows, .ref q_t_lower, .ref q_t_upper, .ref q_t_line, .int t_lined, .ref q_t_text, .int t_length, .int t_at, .int t_order, .ref q_t_told, .ref q_t_why, .ref q_t_more, .int o_t_whys, .int o_t_answer])), (q_t_now, .inl (cI, 133, .inl o_t_now)), (q_t_tried, .inl (cI, 133, .inl o_t_tried)), (q_t_kept, .inl (cI, 1064, .inl o_t_kept)), (q_t_why, .inl (cI, 4, .inl o_t_why)), (q_t_more, .inl (cI, 4, .inl o_t_more))] t) (va_A [(q_t, .inr (8, [.ref q_t_now, .ref q_t_tried, .ref q_t_thought, .ref q_t_kept, .int t_undos, .ref q_t_saved, .int t_isSaved, .ref q_t_finds, .ref q_t_reach, .ref q_t_steps, .ref q_t_glows, .ref q_t_lower, .ref q_t_upper, .ref q_t_line, .int t_lined, .ref q_t_text, .int t_length, .int t_at, .int t_order, .ref q_t_told, .ref q_t_why, .ref q_t_more, .int t_whys, .int t_answer])), (q_t_now, .inl (cI, 133, .inl t_now)), (q_t_tried, .inl (cI, 133, .inl t_tried)), (q_t_kept, .inl (cI, 1064, .inl t_kept)), (q_t_why, .inl (cI, 4, .inl t_why)), (q_t_more, .inl (cI, 4, .inl t_more))] sz)) 0 0 (va_A [(q_t, .inr (8, [.ref q_t_now, .ref q_t_tried, .ref q_t_thought, .ref q_t_kept, .int t_undos, .ref q_t_saved, .int t_isSaved, .ref q_t_finds, .ref q_t_reach, .ref q_t_steps, .ref q_t_glows, .ref q_t_lower, .ref q_t_upper, .ref q_t_line, .int t_lined, .ref q_t_text, .int t_length, .int t_at, .int t_order, .ref q_t_told, .ref q_t_why, .ref q_t_more, .int t_whys, .int t_answer])), (q_t_now, .inl (cI, 133, .inl t_now)), (q_t_tried, .inl (cI, 133, .inl t_tried)), (q_t_kept, .inl (cI, 1064, .inl t_kept)), (q_t_why, .inl (cI, 4, .inl t_why)), (q_t_more, .inl (cI, 4, .inl t_more))] sz) := by
  refine jE_i (cc := cX10_set) (maxL := 3) (own := RX10) (ret := (some .int)) (lv0 := [(0, .ref q_t), (1, .int v1), (2, .int v2)]) (by decide) rfl rfl rfl (Nat.le_of_ble_eq_true rfl) rfl ?_
  intro p e s m args below meth c A Q ls hx hb hml hown hts hK hN hX hA hP hD hS hl hRet
  have hF : CallFix p m c cX10_set 3 s args wsX10_set RX10 := ⟨hx, hb, hml, hown, hts⟩
  have B16 : ∀ (t_undos : Int32) (t_whys : Int32) (t_answer : Int32) (t_now : Nat → Int32) (t_tried : Nat → Int32) (t_kept : Nat → Int32) (t_why : Nat → Int32) (t_more : Nat → Int32) (s16_2 : Int32) (s16_3 : Int32) (H : Heap) (locs : List Loc), va_P D vwCl [(q_t, .inr (8, [.ref q_t_now, .ref q_t_tried, .ref q_t_thought, .ref q_t_kept, .int t_undos, .ref q_t_saved, .int t_isSaved, .ref q_t_finds, .ref q_t_reach, .ref q_t_steps, .ref q_t_glows, .ref q_t_lower, .ref q_t_upper, .ref q_t_line, .int t_lined, .ref q_t_text, .int t_length, .int t_at, .int t_order, .ref q_t_told, .ref q_t_why, .ref q_t_more, .int t_whys, .int t_answer])), (q_t_now, .inl (cI, 133, .inl t_now)), (q_t_tried, .inl (cI, 133, .inl t_tried)), (q_t_kept, .inl (cI, 1064, .inl t_kept)), (q_t_why, .inl (cI, 4, .inl t_why)), (q_t_more, .inl (cI, 4, .inl t_more))] H → va_D A [(q_t, .inr (8, [.ref q_t_now, .ref q_t_tried, .ref q_t_thought, .ref q_t_kept, .int t_undos, .ref q_t_saved, .int t_isSaved, .ref q_t_finds, .ref q_t_reach, .ref q_t_steps, .ref q_t_glows, .ref q_t_lower, .ref q_t_upper, .ref q_t_line, .int t_lined, .ref q_t_text, .int t_length, .int t_at, .int t_order, .ref q_t_told, .ref q_t_why, .ref q_t_more, .int t_whys, .int t_answer])), (q_t_now, .inl (cI, 133, .inl t_now)), (q_t_tried, .inl (cI, 133, .inl t_tried)), (q_t_kept, .inl (cI, 1064, .inl t_kept)), (q_t_why, .inl (cI, 4, .inl t_why)), (q_t_more, .inl (cI, 4, .inl t_more))] → va_S A s.heap H locs → ∀ ls : Array Slot, lv_has ls 3 [] → J_X10_set_b16  v1 v2 t_undos t_whys t_answer t_now t_tried t_kept t_why t_more s16_2 s16_3 = some (r, o_t_undos, o_t_whys, o_t_answer, o_t_now, o_t_tried, o_t_kept, o_t_why, o_t_more) → W p l e rmX10_set s m args below meth c H locs 0 0 Q (F0 m 16 ls [.int s16_3, .int s16_2, .ref q_t, .ref q_t]) := by
    intro t_undos t_whys t_answer t_now t_tried t_kept t_why t_more s16_2 s16_3 H locs hP hD hS ls hl hJ
    unfold J_X10_set_b16 at hJ
    obtain ⟨x16, t_whys_16, t_answer_16, t_now_16, t_why_16, t_more_16, hc16, hJ⟩ := bnd6_some hJ
    refine jcV_i (C := RX10) (T := TX10) (N := 24) (ci := 8) (q0 := 0) (As := [.int s16_2, .int s16_3]) (rest := [.ref q_t]) (isC := [0, 1, 4, 5]) (isR := [2, 3]) (isB := [2, 3, 0, 1, 4, 5]) (wr := [(q_t_tried, .inl (cI, 133, .inl t_tried)), (q_t_kept, .inl (cI, 1064, .inl t_kept))]) (ws2 := [(q_t, .inr (8, [.ref q_t_now, .ref q_t_tried, .ref q_t_thought, .ref q_t_kept, .int t_undos, .ref q_t_saved, .int t_isSaved, .ref q_t_finds, .ref q_t_reach, .ref q_t_steps, .ref q_t_glows, .ref q_t_lower, .ref q_t_upper, .ref q_t_line, .int t_lined, .ref q_t_text, .int t_length, .int t_at, .int t_order, .ref q_t_told, .ref q_t_why, .ref q_t_more, .int t_whys_16, .int t_answer_16])), (q_t_now, .inl (cI, 133, .inl t_now_16)), (q_t_tried, .inl (cI, 133, .inl t_tried)), (q_t_kept, .inl (cI, 1064, .inl t_kept)), (q_t_why, .inl (cI, 4, .inl t_why_16)), (q_t_more, .inl (cI, 4, .inl t_more_16))]) hF (c_X10_switches l D cI cJ cC cL q_t q_t_now q_t_tried q_t_thought q_t_kept q_t_saved q_t_finds q_t_reach q_t_steps q_t_glows q_t_lower q_t_upper q_t_line q_t_text q_t_told q_t_why q_t_more t_undos t_isSaved t_lined t_length t_at t_order t_whys t_answer t_now t_why t_more s16_2 s16_3 x16 t_whys_16 t_answer_16 t_now_16 t_why_16 t_more_16 hc16 H.size) (cwV 2 hts gX10_set_X10_switches rfl rfl rfl (by decide +kernel) ⟨Nat.le_of_ble_eq_true rfl, Nat.le_of_ble_eq_true rfl⟩) rfl hl rfl (Nat.le_of_ble_eq_true rfl) dX10_set_16 ⟨Nat.zero_le _, Nat.zero_le _⟩ hK hN KX_T trivial hP hD hS hA rfl rfl rfl rfl rfl rfl (by decide) rfl rfl (fun H locs hP hD hS => ?_)
    obtain ⟨x19, t_undos_19, t_kept_19, hc19, hJ⟩ := bnd3_some hJ
    refine jcV_i (C := RX10) (T := TX10) (N := 24) (ci := 8) (q0 := 0) (As := [.int x16]) (rest := []) (isC := [0, 2, 3]) (isR := [1, 4, 5]) (isB := [3, 0, 4, 5, 1, 2]) (wr := [(q_t_now, .inl (cI, 133, .inl t_now_16)), (q_t_why, .inl (cI, 4, .inl t_why_16)), (q_t_more, .inl (cI, 4, .inl t_more_16))]) (ws2 := [(q_t, .inr (8, [.ref q_t_now, .ref q_t_tried, .ref q_t_thought, .ref q_t_kept, .int t_undos_19, .ref q_t_saved, .int t_isSaved, .ref q_t_finds, .ref q_t_reach, .ref q_t_steps, .ref q_t_glows, .ref q_t_lower, .ref q_t_upper, .ref q_t_line, .int t_lined, .ref q_t_text, .int t_length, .int t_at, .int t_order, .ref q_t_told, .ref q_t_why, .ref q_t_more, .int t_whys_16, .int t_answer_16])), (q_t_now, .inl (cI, 133, .inl t_now_16)), (q_t_tried, .inl (cI, 133, .inl t_tried)), (q_t_kept, .inl (cI, 1064, .inl t_kept_19)), (q_t_why, .inl (cI, 4, .inl t_why_16)), (q_t_more, .inl (cI, 4, .inl t_more_16))]) hF (c_X10_ends l D cI cJ cC cL q_t q_t_now q_t_tried q_t_thought q_t_kept q_t_saved q_t_finds q_t_reach q_t_steps q_t_glows q_t_lower q_t_upper q_t_line q_t_text q_t_told q_t_why q_t_more t_undos t_isSaved t_lined t_length t_at t_order t_whys_16 t_answer_16 t_tried t_kept x16 x19 t_undos_19 t_kept_19 hc19 H.size) (cwV 1 hts gX10_set_X10_ends rfl rfl rfl (by decide +kernel) ⟨Nat.le_of_ble_eq_true rfl, Nat.le_of_ble_eq_true rfl⟩) rfl hl rfl (Nat.le_of_ble_eq_true rfl) dX10_set_19 ⟨Nat.zero_le _, Nat.zero_le _⟩ hK hN KX_T trivial hP hD hS hA rfl rfl rfl rfl rfl rfl (by decide) rfl rfl (fun H locs hP hD hS => ?_)
    have hJ := Option.some.inj hJ
    obtain ⟨e0, e1, e2, e3, e4, e5, e6, e7, e8⟩ : (x19) = r ∧ (t_undos_19) = o_t_undos ∧ (t_whys_16) = o_t_whys ∧ (t_answer_16) = o_t_answer ∧ (t_now_16) = o_t_now ∧ (t_tried) = o_t_tried ∧ (t_kept_19) = o_t_kept ∧ (t_why_16) = o_t_why ∧ (t_more_16) = o_t_more := ⟨congrArg (fun z => z.1) hJ, congrArg (fun z => z.2.1) hJ, congrArg (fun z => z.2.2.1) hJ, congrArg (fun z => z.2.2.2.1) hJ, congrArg (fun z => z.2.2.2.2.1) hJ, congrArg (fun z => z.2.2.2.2.2.1) hJ, congrArg (fun z => z.2.2.2.2.2.2.1) hJ, congrArg (fun z => z.2.2.2.2.2.2.2.1) hJ, congrArg (fun z => z.2.2.2.2.2.2.2.2) hJ⟩
    exact hRet (by rw [← e1, ← e2, ← e3, ← e4, ← e5, ← e6, ← e7, ← e8]; exact hP) (by rw [← e1, ← e2, ← e3, ← e4, ← e5, ← e6, ← e7, ← e8]; exact hD) hS e0 dX10_set_22
  unfold J_X10_set at hJ
  refine lv_aload_n hx hb dX10_set_0 rfl (lv_at hl 0 rfl) ?_
  obtain ⟨t_tried_1, hc1, hJ⟩ := bnd1_some hJ
  refine jcV_v (C := RX10) (T := TX10) (N := 24) (ci := 8) (q0 := 0) (As := []) (rest := []) (isC := [0, 1, 2]) (isR := [3, 4, 5]) (isB := [3, 4, 5, 0, 1, 2]) (wr := [(q_t_kept, .inl (cI, 1064, .inl t_kept)), (q_t_why, .inl (cI, 4, .inl t_why)), (q_t_more, .inl (cI, 4, .inl t_more))]) (ws2 := [(q_t, .inr (8, [.ref q_t_now, .ref q_t_tried, .ref q_t_thought, .ref q_t_kept, .int t_undos, .ref q_t_saved, .int t_isSaved, .ref q_t_finds, .ref q_t_reach, .ref q_t_steps, .ref q_t_glows, .ref q_t_lower, .ref q_t_upper, .ref q_t_line, .int t_lined, .ref q_t_text, .int t_length, .int t_at, .int t_order, .ref q_t_told, .ref q_t_why, .ref q_t_more, .int t_whys, .int t_answer])), (q_t_now, .inl (cI, 133, .inl t_now)), (q_t_tried, .inl (cI, 133, .inl t_tried_1)), (q_t_kept, .inl (cI, 1064, .inl t_kept)), (q_t_why, .inl (cI, 4, .inl t_why)), (q_t_more, .inl (cI, 4, .inl t_more))]) hF (c_X10_tries l D cI cJ cC cL q_t q_t_now q_t_tried q_t_thought q_t_kept q_t_saved q_t_finds q_t_reach q_t_steps q_t_glows q_t_lower q_t_upper q_t_line q_t_text q_t_told q_t_why q_t_more t_undos t_isSaved t_lined t_length t_at t_order t_whys t_answer t_now t_tried t_tried_1 hc1 s.heap.size) (cwV 0 hts gX10_set_X10_tries rfl rfl rfl (by decide +kernel) ⟨Nat.le_of_ble_eq_true rfl, Nat.le_of_ble_eq_true rfl⟩) rfl hl rfl (Nat.le_of_ble_eq_true rfl) dX10_set_1 ⟨Nat.zero_le _, Nat.zero_le _⟩ hK hN KX_T trivial hP hD hS hA rfl rfl rfl rfl rfl rfl (by decide) rfl rfl (fun H locs hP hD hS => ?_)
  refine lv_aload_n hx hb dX10_set_4 rfl (lv_at hl 0 rfl) ?_
  refine lv_aload_n hx hb dX10_set_5 rfl (lv_at hl 0 rfl) ?_
  refine lv_iload_n hx hb dX10_set_6 rfl (lv_at hl 1 rfl) ?_
  refine lv_iload_n hx hb dX10_set_7 rfl (lv_at hl 2 rfl) ?_
  refine jif_eq (tgt := 15) hx hb dX10_set_8 (by decide) hJ (fun hJ => ?_) (fun hJ => ?_)
  · refine lv_iconst (v := (0 : Int32)) hx hb dX10_set_15 (by decide) ?_
    exact B16  t_undos t_whys t_answer t_now t_tried_1 t_kept t_why t_more v1 (0 : Int32)  H locs  hP hD hS _ (lv_sub hl [] rfl) hJ
  · refine lv_iconst (v := (1 : Int32)) hx hb dX10_set_11 (by decide) ?_
    refine lv_goto (tgt := 16) hx hb dX10_set_12 (by decide) ?_
    exact B16  t_undos t_whys t_answer t_now t_tried_1 t_kept t_why t_more v1 (1 : Int32)  H locs  hP hD hS _ (lv_sub hl [] rfl) hJ

def J_X10_found_b77 (v0 : Int32) (v1 : Int32) (v2 : Int32) (s77_0 : Int32) : Option (Int32) :=
    some (s77_0)
def J_X10_found_b87 (v0 : Int32) (v1 : Int32) (v2 : Int32) (s87_0 : Int32) : Option (Int32) :=
    some (s87_0)
def J_X10_found_b60 (v0 : Int32) (v1 : Int32) (v2 : Int32) (s60_0 : Int32) : Option (Int32) :=
    some (s60_0)
def J_X10_found_b49 (v0 : Int32) (v1 : Int32) (v2 : Int32) (s49_0 : Int32) : Option (Int32) :=
    some (s49_0)
def J_X10_found (v0 : Int32) (v1 : Int32) (v2 : Int32) : Option (Int32) :=
    if v2 = 0 then (
    some ((0 : Int32)))
    else (
    if v0 = (1 : Int32) then (
    if v1 = 0 then (
    J_X10_found_b49 v0 v1 v2 (1 : Int32))
    else (
    J_X10_found_b49 v0 v1 v2 (0 : Int32)))
    else (
    if v0 = (2 : Int32) then (
    if v1 = v2 then (
    J_X10_found_b60 v0 v1 v2 (1 : Int32))
    else (
    J_X10_found_b60 v0 v1 v2 (0 : Int32)))
    else (
    if v0 = (3 : Int32) then (
    if v1 ≤ 0 then (
    J_X10_found_b87 v0 v1 v2 (0 : Int32))
    else (
    J_X10_found_b87 v0 v1 v2 (1 : Int32)))
    else (
    if v0 = (4 : Int32) then (
    chn (2 : Int32) (
    some (v1 - v1 / (2 : Int32) * (2 : Int32))))
    else (
    if v0 = (5 : Int32) then (
    nm ((2 : Int32) * v1) fun x67 =>
    if x67 ≤ v2 then (
    J_X10_found_b77 v0 v1 v2 (0 : Int32))
    else (
    J_X10_found_b77 v0 v1 v2 (1 : Int32)))
    else (
    if v1 ≤ 0 then (
    J_X10_found_b87 v0 v1 v2 (0 : Int32))
    else (
    J_X10_found_b87 v0 v1 v2 (1 : Int32))))))))
abbrev rmX10_found : Room := { frames := 0, cells := 0, slots := 0, locals := 0 }
set_option maxHeartbeats 4000000 in
set_option maxRecDepth 100000 in
theorem c_X10_found (l : Launch) (D : va_G) (cI cJ cC cL : ClassId) (v0 : Int32) (v1 : Int32) (v2 : Int32) (r : Int32) (hJ : J_X10_found v0 v1 v2 = some (r)) (sz : Nat) : Met l yX10_found wsX10_found rmX10_found (va_Pc [.int v0, .int v1, .int v2] (jpre XT D (tyL cI cJ cC cL) [] sz)) (va_Qi (fun r' (_ : Unit) => r' = r) (fun _ t => jpost D (tyL cI cJ cC cL) (va_A [] sz) [] t) (va_A [] sz)) 0 0 (va_A [] sz) := by
  refine jE_i (cc := cX10_found) (maxL := 3) (own := RX10) (ret := (some .int)) (lv0 := [(0, .int v0), (1, .int v1), (2, .int v2)]) (by decide) rfl rfl rfl (Nat.le_of_ble_eq_true rfl) rfl ?_
  intro p e s m args below meth c A Q ls hx hb hml hown hts hK hN hX hA hP hD hS hl hRet
  have hF : CallFix p m c cX10_found 3 s args wsX10_found RX10 := ⟨hx, hb, hml, hown, hts⟩
  have B77 : ∀ (s77_0 : Int32) (H : Heap) (locs : List Loc), va_P D vwCl [] H → va_D A [] → va_S A s.heap H locs → ∀ ls : Array Slot, lv_has ls 3 [] → J_X10_found_b77  v0 v1 v2 s77_0 = some (r) → W p l e rmX10_found s m args below meth c H locs 0 0 Q (F0 m 77 ls [.int s77_0]) := by
    intro s77_0 H locs hP hD hS ls hl hJ
    unfold J_X10_found_b77 at hJ
    have e0 := Option.some.inj hJ
    exact hRet hP hD hS e0 dX10_found_77
  have B87 : ∀ (s87_0 : Int32) (H : Heap) (locs : List Loc), va_P D vwCl [] H → va_D A [] → va_S A s.heap H locs → ∀ ls : Array Slot, lv_has ls 3 [] → J_X10_found_b87  v0 v1 v2 s87_0 = some (r) → W p l e rmX10_found s m args below meth c H locs 0 0 Q (F0 m 87 ls [.int s87_0]) := by
    intro s87_0 H locs hP hD hS ls hl hJ
    unfold J_X10_found_b87 at hJ
    have e0 := Option.some.inj hJ
    exact hRet hP hD hS e0 dX10_found_87
  have B60 : ∀ (s60_0 : Int32) (H : Heap) (locs : List Loc), va_P D vwCl [] H → va_D A [] → va_S A s.heap H locs → ∀ ls : Array Slot, lv_has ls 3 [] → J_X10_found_b60  v0 v1 v2 s60_0 = some (r) → W p l e rmX10_found s m args below meth c H locs 0 0 Q (F0 m 60 ls [.int s60_0]) := by
    intro s60_0 H locs hP hD hS ls hl hJ
    unfold J_X10_found_b60 at hJ
    have e0 := Option.some.inj hJ
    exact hRet hP hD hS e0 dX10_found_60
  have B49 : ∀ (s49_0 : Int32) (H : Heap) (locs : List Loc), va_P D vwCl [] H → va_D A [] → va_S A s.heap H locs → ∀ ls : Array Slot, lv_has ls 3 [] → J_X10_found_b49  v0 v1 v2 s49_0 = some (r) → W p l e rmX10_found s m args below meth c H locs 0 0 Q (F0 m 49 ls [.int s49_0]) := by
    intro s49_0 H locs hP hD hS ls hl hJ
    unfold J_X10_found_b49 at hJ
    have e0 := Option.some.inj hJ
    exact hRet hP hD hS e0 dX10_found_49
  unfold J_X10_found at hJ
  refine lv_iload_n hx hb dX10_found_0 rfl (lv_at hl 2 rfl) ?_
  refine jif_ne (tgt := 6) hx hb dX10_found_1 (by decide) hJ (fun hJ => ?_) (fun hJ => ?_)
  · refine lv_iload_n hx hb dX10_found_6 rfl (lv_at hl 0 rfl) ?_
    by_cases hsw : v0 = (1 : Int32)
    · have hJ := if_some_t hJ hsw
      refine lv_tableIn (off := 33) (tgt := 40) hx hb dX10_found_7 (by rw [hsw]; decide) (by rw [hsw]; decide) (by rw [hsw]; rfl) (by decide) ?_
      refine lv_iload_n hx hb dX10_found_40 rfl (lv_at hl 1 rfl) ?_
      refine jif_ne (tgt := 48) hx hb dX10_found_41 (by decide) hJ (fun hJ => ?_) (fun hJ => ?_)
      · refine lv_iconst (v := (0 : Int32)) hx hb dX10_found_48 (by decide) ?_
        exact B49  (0 : Int32)  s.heap []  hP hD hS _ (lv_sub hl [] rfl) hJ
      · refine lv_iconst (v := (1 : Int32)) hx hb dX10_found_44 (by decide) ?_
        refine lv_goto (tgt := 49) hx hb dX10_found_45 (by decide) ?_
        exact B49  (1 : Int32)  s.heap []  hP hD hS _ (lv_sub hl [] rfl) hJ
    have hJ := if_some_f hJ hsw
    have hs0 := jsw_ne hsw (k := 1) (by decide)
    clear hsw
    by_cases hsw : v0 = (2 : Int32)
    · have hJ := if_some_t hJ hsw
      refine lv_tableIn (off := 43) (tgt := 50) hx hb dX10_found_7 (by rw [hsw]; decide) (by rw [hsw]; decide) (by rw [hsw]; rfl) (by decide) ?_
      refine lv_iload_n hx hb dX10_found_50 rfl (lv_at hl 1 rfl) ?_
      refine lv_iload_n hx hb dX10_found_51 rfl (lv_at hl 2 rfl) ?_
      refine jif_icmp_ne (tgt := 59) hx hb dX10_found_52 (by decide) hJ (fun hJ => ?_) (fun hJ => ?_)
      · refine lv_iconst (v := (0 : Int32)) hx hb dX10_found_59 (by decide) ?_
        exact B60  (0 : Int32)  s.heap []  hP hD hS _ (lv_sub hl [] rfl) hJ
      · refine lv_iconst (v := (1 : Int32)) hx hb dX10_found_55 (by decide) ?_
        refine lv_goto (tgt := 60) hx hb dX10_found_56 (by decide) ?_
        exact B60  (1 : Int32)  s.heap []  hP hD hS _ (lv_sub hl [] rfl) hJ
    have hJ := if_some_f hJ hsw
    have hs1 := jsw_ne hsw (k := 2) (by decide)
    clear hsw
    by_cases hsw : v0 = (3 : Int32)
    · have hJ := if_some_t hJ hsw
      refine lv_tableIn (off := 71) (tgt := 78) hx hb dX10_found_7 (by rw [hsw]; decide) (by rw [hsw]; decide) (by rw [hsw]; rfl) (by decide) ?_
      refine lv_iload_n hx hb dX10_found_78 rfl (lv_at hl 1 rfl) ?_
      refine jif_le (tgt := 86) hx hb dX10_found_79 (by decide) hJ (fun hJ => ?_) (fun hJ => ?_)
      · refine lv_iconst (v := (0 : Int32)) hx hb dX10_found_86 (by decide) ?_
        exact B87  (0 : Int32)  s.heap []  hP hD hS _ (lv_sub hl [] rfl) hJ
      · refine lv_iconst (v := (1 : Int32)) hx hb dX10_found_82 (by decide) ?_
        refine lv_goto (tgt := 87) hx hb dX10_found_83 (by decide) ?_
        exact B87  (1 : Int32)  s.heap []  hP hD hS _ (lv_sub hl [] rfl) hJ
    have hJ := if_some_f hJ hsw
    have hs2 := jsw_ne hsw (k := 3) (by decide)
    clear hsw
    by_cases hsw : v0 = (4 : Int32)
    · have hJ := if_some_t hJ hsw
      refine lv_tableIn (off := 54) (tgt := 61) hx hb dX10_found_7 (by rw [hsw]; decide) (by rw [hsw]; decide) (by rw [hsw]; rfl) (by decide) ?_
      refine lv_iload_n hx hb dX10_found_61 rfl (lv_at hl 1 rfl) ?_
      refine lv_iconst (v := (2 : Int32)) hx hb dX10_found_62 (by decide) ?_
      obtain ⟨hne, hJ⟩ := chn_ok hJ
      refine lv_irem hx hb dX10_found_63 hne ?_
      have e0 := Option.some.inj hJ
      exact hRet hP hD hS e0 dX10_found_64
    have hJ := if_some_f hJ hsw
    have hs3 := jsw_ne hsw (k := 4) (by decide)
    clear hsw
    by_cases hsw : v0 = (5 : Int32)
    · have hJ := if_some_t hJ hsw
      refine lv_tableIn (off := 58) (tgt := 65) hx hb dX10_found_7 (by rw [hsw]; decide) (by rw [hsw]; decide) (by rw [hsw]; rfl) (by decide) ?_
      refine lv_iconst (v := (2 : Int32)) hx hb dX10_found_65 (by decide) ?_
      refine lv_iload_n hx hb dX10_found_66 rfl (lv_at hl 1 rfl) ?_
      refine lv_imul hx hb dX10_found_67 ?_
      refine jt_i hJ (fun x67 hJ => ?_)
      refine lv_iload_n hx hb dX10_found_68 rfl (lv_at hl 2 rfl) ?_
      refine jif_icmp_le (tgt := 76) hx hb dX10_found_69 (by decide) hJ (fun hJ => ?_) (fun hJ => ?_)
      · refine lv_iconst (v := (0 : Int32)) hx hb dX10_found_76 (by decide) ?_
        exact B77  (0 : Int32)  s.heap []  hP hD hS _ (lv_sub hl [] rfl) hJ
      · refine lv_iconst (v := (1 : Int32)) hx hb dX10_found_72 (by decide) ?_
        refine lv_goto (tgt := 77) hx hb dX10_found_73 (by decide) ?_
        exact B77  (1 : Int32)  s.heap []  hP hD hS _ (lv_sub hl [] rfl) hJ
    have hJ := if_some_f hJ hsw
    have hs4 := jsw_ne hsw (k := 5) (by decide)
    clear hsw
    refine lv_tableOut (tgt := 78) hx hb dX10_found_7 (by omega) (by decide) ?_
    refine lv_iload_n hx hb dX10_found_78 rfl (lv_at hl 1 rfl) ?_
    refine jif_le (tgt := 86) hx hb dX10_found_79 (by decide) hJ (fun hJ => ?_) (fun hJ => ?_)
    · refine lv_iconst (v := (0 : Int32)) hx hb dX10_found_86 (by decide) ?_
      exact B87  (0 : Int32)  s.heap []  hP hD hS _ (lv_sub hl [] rfl) hJ
    · refine lv_iconst (v := (1 : Int32)) hx hb dX10_found_82 (by decide) ?_
      refine lv_goto (tgt := 87) hx hb dX10_found_83 (by decide) ?_
      exact B87  (1 : Int32)  s.heap []  hP hD hS _ (lv_sub hl [] rfl) hJ
  · refine lv_iconst (v := (0 : Int32)) hx hb dX10_found_4 (by decide) ?_
    have e0 := Option.some.inj hJ
    exact hRet hP hD hS e0 dX10_found_5

def J_X10_findsNow_b42 (k14 : Int32 → Int32 → Option (Int32)) (t_now : Nat → Int32) (v1 : Int32) (v2 : Int32) (v3 : Int32) : Option (Int32) :=
    nm (v3 + Int32.ofInt 1) fun x42 =>
    k14 v2 x42
def J_X10_findsNow_L14 (t_now : Nat → Int32) (v1 : Int32) : Nat → Int32 → Int32 → Option (Int32)
  | 0, _, _ => none
  | nf + 1, v2, v3 =>
    if (3 : Int32) ≤ v3 then (
    bnd1 (J_X10_of t_now v1 (0 : Int32)) fun x51 =>
    bnd1 (J_X10_wiresTo t_now v1) fun x57 =>
    bnd1 (J_X10_found x51 v2 x57) fun x60 =>
    some (x60))
    else (
    bnd1 (J_X10_wired t_now v1 v3) fun x22 =>
    if x22 < 0 then (
    J_X10_findsNow_b42 (fun z0 z1 => J_X10_findsNow_L14 t_now v1 nf z0 z1) t_now v1 v2 v3)
    else (
    bnd1 (J_X10_wired t_now v1 v3) fun x33 =>
    bnd1 (J_X10_of t_now x33 (2 : Int32)) fun x37 =>
    nm (v2 + x37) fun x40 =>
    J_X10_findsNow_b42 (fun z0 z1 => J_X10_findsNow_L14 t_now v1 nf z0 z1) t_now v1 x40 v3))
def J_X10_findsNow (t_now : Nat → Int32) (v1 : Int32) : Option (Int32) :=
    bnd1 (J_X10_isSwitch t_now v1) fun x2 =>
    if x2 = 0 then (
    J_X10_findsNow_L14 t_now v1 FU (0 : Int32) (0 : Int32))
    else (
    some ((0 : Int32)))
abbrev rmX10_findsNow : Room := { frames := 3, cells := 0, slots := 0, locals := 67 }
set_option maxHeartbeats 4000000 in
set_option maxRecDepth 100000 in
theorem c_X10_findsNow (l : Launch) (D : va_G) (cI cJ cC cL : ClassId) (q_t q_t_now q_t_tried q_t_thought q_t_kept q_t_saved q_t_finds q_t_reach q_t_steps q_t_glows q_t_lower q_t_upper q_t_line q_t_text q_t_told q_t_why q_t_more : Nat) (t_undos : Int32) (t_isSaved : Int32) (t_lined : Int32) (t_length : Int32) (t_at : Int32) (t_order : Int32) (t_whys : Int32) (t_answer : Int32) (t_now : Nat → Int32) (v1 : Int32) (r : Int32) (hJ : J_X10_findsNow t_now v1 = some (r)) (sz : Nat) : Met l yX10_findsNow wsX10_findsNow rmX10_findsNow (va_Pc [.ref q_t, .int v1] (jpre XT D (tyL cI cJ cC cL) [(q_t, .inr (8, [.ref q_t_now, .ref q_t_tried, .ref q_t_thought, .ref q_t_kept, .int t_undos, .ref q_t_saved, .int t_isSaved, .ref q_t_finds, .ref q_t_reach, .ref q_t_steps, .ref q_t_glows, .ref q_t_lower, .ref q_t_upper, .ref q_t_line, .int t_lined, .ref q_t_text, .int t_length, .int t_at, .int t_order, .ref q_t_told, .ref q_t_why, .ref q_t_more, .int t_whys, .int t_answer])), (q_t_now, .inl (cI, 133, .inl t_now))] sz)) (va_Qi (fun r' (_ : Unit) => r' = r) (fun _ t => jpost D (tyL cI cJ cC cL) (va_A [(q_t, .inr (8, [.ref q_t_now, .ref q_t_tried, .ref q_t_thought, .ref q_t_kept, .int t_undos, .ref q_t_saved, .int t_isSaved, .ref q_t_finds, .ref q_t_reach, .ref q_t_steps, .ref q_t_glows, .ref q_t_lower, .ref q_t_upper, .ref q_t_line, .int t_lined, .ref q_t_text, .int t_length, .int t_at, .int t_order, .ref q_t_told, .ref q_t_why, .ref q_t_more, .int t_whys, .int t_answer])), (q_t_now, .inl (cI, 133, .inl t_now))] sz) [(q_t, .inr (8, [.ref q_t_now, .ref q_t_tried, .ref q_t_thought, .ref q_t_kept, .int t_undos, .ref q_t_saved, .int t_isSaved, .ref q_t_finds, .ref q_t_reach, .ref q_t_steps, .ref q_t_glows, .ref q_t_lower, .ref q_t_upper, .ref q_t_line, .int t_lined, .ref q_t_text, .int t_length, .int t_at, .int t_order, .ref q_t_told, .ref q_t_why, .ref q_t_more, .int t_whys, .int t_answer])), (q_t_now, .inl (cI, 133, .inl t_now))] t) (va_A [(q_t, .inr (8, [.ref q_t_now, .ref q_t_tried, .ref q_t_thought, .ref q_t_kept, .int t_undos, .ref q_t_saved, .int t_isSaved, .ref q_t_finds, .ref q_t_reach, .ref q_t_steps, .ref q_t_glows, .ref q_t_lower, .ref q_t_upper, .ref q_t_line, .int t_lined, .ref q_t_text, .int t_length, .int t_at, .int t_order, .ref q_t_told, .ref q_t_why, .ref q_t_more, .int t_whys, .int t_answer])), (q_t_now, .inl (cI, 133, .inl t_now))] sz)) 0 0 (va_A [(q_t, .inr (8, [.ref q_t_now, .ref q_t_tried, .ref q_t_thought, .ref q_t_kept, .int t_undos, .ref q_t_saved, .int t_isSaved, .ref q_t_finds, .ref q_t_reach, .ref q_t_steps, .ref q_t_glows, .ref q_t_lower, .ref q_t_upper, .ref q_t_line, .int t_lined, .ref q_t_text, .int t_length, .int t_at, .int t_order, .ref q_t_told, .ref q_t_why, .ref q_t_more, .int t_whys, .int t_answer])), (q_t_now, .inl (cI, 133, .inl t_now))] sz) := by
  refine jE_i (cc := cX10_findsNow) (maxL := 4) (own := RX10) (ret := (some .int)) (lv0 := [(0, .ref q_t), (1, .int v1)]) (by decide) rfl rfl rfl (Nat.le_of_ble_eq_true rfl) rfl ?_
  intro p e s m args below meth c A Q ls hx hb hml hown hts hK hN hX hA hP hD hS hl hRet
  have hF : CallFix p m c cX10_findsNow 4 s args wsX10_findsNow RX10 := ⟨hx, hb, hml, hown, hts⟩
  have B42 : ∀ (k14 : Int32 → Int32 → Option (Int32)), (∀ (v2 : Int32) (v3 : Int32) (H : Heap) (locs : List Loc), va_P D vwCl [(q_t, .inr (8, [.ref q_t_now, .ref q_t_tried, .ref q_t_thought, .ref q_t_kept, .int t_undos, .ref q_t_saved, .int t_isSaved, .ref q_t_finds, .ref q_t_reach, .ref q_t_steps, .ref q_t_glows, .ref q_t_lower, .ref q_t_upper, .ref q_t_line, .int t_lined, .ref q_t_text, .int t_length, .int t_at, .int t_order, .ref q_t_told, .ref q_t_why, .ref q_t_more, .int t_whys, .int t_answer])), (q_t_now, .inl (cI, 133, .inl t_now))] H → va_D A [(q_t, .inr (8, [.ref q_t_now, .ref q_t_tried, .ref q_t_thought, .ref q_t_kept, .int t_undos, .ref q_t_saved, .int t_isSaved, .ref q_t_finds, .ref q_t_reach, .ref q_t_steps, .ref q_t_glows, .ref q_t_lower, .ref q_t_upper, .ref q_t_line, .int t_lined, .ref q_t_text, .int t_length, .int t_at, .int t_order, .ref q_t_told, .ref q_t_why, .ref q_t_more, .int t_whys, .int t_answer])), (q_t_now, .inl (cI, 133, .inl t_now))] → va_S A s.heap H locs → ∀ ls : Array Slot, lv_has ls 4 [(0, .ref q_t), (1, .int v1), (2, .int v2), (3, .int v3)] → k14 v2 v3 = some (r) → W p l e rmX10_findsNow s m args below meth c H locs 0 0 Q (F0 m 14 ls [])) → ∀ (v2 : Int32) (v3 : Int32) (H : Heap) (locs : List Loc), va_P D vwCl [(q_t, .inr (8, [.ref q_t_now, .ref q_t_tried, .ref q_t_thought, .ref q_t_kept, .int t_undos, .ref q_t_saved, .int t_isSaved, .ref q_t_finds, .ref q_t_reach, .ref q_t_steps, .ref q_t_glows, .ref q_t_lower, .ref q_t_upper, .ref q_t_line, .int t_lined, .ref q_t_text, .int t_length, .int t_at, .int t_order, .ref q_t_told, .ref q_t_why, .ref q_t_more, .int t_whys, .int t_answer])), (q_t_now, .inl (cI, 133, .inl t_now))] H → va_D A [(q_t, .inr (8, [.ref q_t_now, .ref q_t_tried, .ref q_t_thought, .ref q_t_kept, .int t_undos, .ref q_t_saved, .int t_isSaved, .ref q_t_finds, .ref q_t_reach, .ref q_t_steps, .ref q_t_glows, .ref q_t_lower, .ref q_t_upper, .ref q_t_line, .int t_lined, .ref q_t_text, .int t_length, .int t_at, .int t_order, .ref q_t_told, .ref q_t_why, .ref q_t_more, .int t_whys, .int t_answer])), (q_t_now, .inl (cI, 133, .inl t_now))] → va_S A s.heap H locs → ∀ ls : Array Slot, lv_has ls 4 [(0, .ref q_t), (1, .int v1), (2, .int v2), (3, .int v3)] → J_X10_findsNow_b42 k14 t_now v1 v2 v3 = some (r) → W p l e rmX10_findsNow s m args below meth c H locs 0 0 Q (F0 m 42 ls []) := by
    intro k14 hk14 v2 v3 H locs hP hD hS ls hl hJ
    unfold J_X10_findsNow_b42 at hJ
    refine jt_iinc hJ (fun x42 ex42 hJ => ?_)
    refine lv_iinc (v := x42) (lv' := [(3, .int x42), (0, .ref q_t), (1, .int v1), (2, .int v2)]) hx hb dX10_findsNow_42 hl (k := 3) rfl ex42 (by decide) rfl (fun ls hl => ?_)
    refine lv_goto (tgt := 14) hx hb dX10_findsNow_45 (by decide) ?_
    exact hk14 v2 x42  H locs  hP hD hS _ (lv_sub hl [1, 2, 3, 0] rfl) hJ
  have L14 : ∀ (nf : Nat), ∀ (v2 : Int32) (v3 : Int32) (H : Heap) (locs : List Loc), va_P D vwCl [(q_t, .inr (8, [.ref q_t_now, .ref q_t_tried, .ref q_t_thought, .ref q_t_kept, .int t_undos, .ref q_t_saved, .int t_isSaved, .ref q_t_finds, .ref q_t_reach, .ref q_t_steps, .ref q_t_glows, .ref q_t_lower, .ref q_t_upper, .ref q_t_line, .int t_lined, .ref q_t_text, .int t_length, .int t_at, .int t_order, .ref q_t_told, .ref q_t_why, .ref q_t_more, .int t_whys, .int t_answer])), (q_t_now, .inl (cI, 133, .inl t_now))] H → va_D A [(q_t, .inr (8, [.ref q_t_now, .ref q_t_tried, .ref q_t_thought, .ref q_t_kept, .int t_undos, .ref q_t_saved, .int t_isSaved, .ref q_t_finds, .ref q_t_reach, .ref q_t_steps, .ref q_t_glows, .ref q_t_lower, .ref q_t_upper, .ref q_t_line, .int t_lined, .ref q_t_text, .int t_length, .int t_at, .int t_order, .ref q_t_told, .ref q_t_why, .ref q_t_more, .int t_whys, .int t_answer])), (q_t_now, .inl (cI, 133, .inl t_now))] → va_S A s.heap H locs → ∀ ls : Array Slot, lv_has ls 4 [(0, .ref q_t), (1, .int v1), (2, .int v2), (3, .int v3)] → J_X10_findsNow_L14  t_now v1 nf v2 v3 = some (r) → W p l e rmX10_findsNow s m args below meth c H locs 0 0 Q (F0 m 14 ls []) := by
    intro nf
    induction nf with
    | zero =>
      intro v2 v3 H locs hP hD hS ls hl hJ
      rw [J_X10_findsNow_L14] at hJ
      cases hJ
    | succ nf ih =>
      intro v2 v3 H locs hP hD hS ls hl hJ
      rw [J_X10_findsNow_L14] at hJ
      refine lv_iload_n hx hb dX10_findsNow_14 rfl (lv_at hl 3 rfl) ?_
      refine lv_iconst (v := (3 : Int32)) hx hb dX10_findsNow_15 (by decide) ?_
      refine jif_icmp_ge (tgt := 48) hx hb dX10_findsNow_16 (by decide) hJ (fun hJ => ?_) (fun hJ => ?_)
      · refine lv_aload_n hx hb dX10_findsNow_48 rfl (lv_at hl 0 rfl) ?_
        refine lv_iload_n hx hb dX10_findsNow_49 rfl (lv_at hl 1 rfl) ?_
        refine lv_iconst (v := (0 : Int32)) hx hb dX10_findsNow_50 (by decide) ?_
        obtain ⟨x51, hc51, hJ⟩ := bnd1_some hJ
        refine jcV_i (C := RX10) (T := TX10) (N := 24) (ci := 8) (q0 := 0) (As := [.int v1, .int (0 : Int32)]) (rest := []) (isC := [0, 1]) (isR := []) (isB := [0, 1]) (wr := []) (ws2 := [(q_t, .inr (8, [.ref q_t_now, .ref q_t_tried, .ref q_t_thought, .ref q_t_kept, .int t_undos, .ref q_t_saved, .int t_isSaved, .ref q_t_finds, .ref q_t_reach, .ref q_t_steps, .ref q_t_glows, .ref q_t_lower, .ref q_t_upper, .ref q_t_line, .int t_lined, .ref q_t_text, .int t_length, .int t_at, .int t_order, .ref q_t_told, .ref q_t_why, .ref q_t_more, .int t_whys, .int t_answer])), (q_t_now, .inl (cI, 133, .inl t_now))]) hF (c_X10_of l D cI cJ cC cL q_t q_t_now q_t_tried q_t_thought q_t_kept q_t_saved q_t_finds q_t_reach q_t_steps q_t_glows q_t_lower q_t_upper q_t_line q_t_text q_t_told q_t_why q_t_more t_undos t_isSaved t_lined t_length t_at t_order t_whys t_answer t_now v1 (0 : Int32) x51 hc51 H.size) (cwV 2 hts gX10_findsNow_X10_of rfl rfl rfl (by decide +kernel) ⟨Nat.le_of_ble_eq_true rfl, Nat.le_of_ble_eq_true rfl⟩) rfl hl rfl (Nat.le_of_ble_eq_true rfl) dX10_findsNow_51 ⟨Nat.zero_le _, Nat.zero_le _⟩ hK hN KX_T trivial hP hD hS hA rfl rfl rfl rfl rfl rfl (by decide) rfl rfl (fun H locs hP hD hS => ?_)
        refine lv_iload_n hx hb dX10_findsNow_54 rfl (lv_at hl 2 rfl) ?_
        refine lv_aload_n hx hb dX10_findsNow_55 rfl (lv_at hl 0 rfl) ?_
        refine lv_iload_n hx hb dX10_findsNow_56 rfl (lv_at hl 1 rfl) ?_
        obtain ⟨x57, hc57, hJ⟩ := bnd1_some hJ
        refine jcV_i (C := RX10) (T := TX10) (N := 24) (ci := 8) (q0 := 0) (As := [.int v1]) (rest := [.int v2, .int x51]) (isC := [0, 1]) (isR := []) (isB := [0, 1]) (wr := []) (ws2 := [(q_t, .inr (8, [.ref q_t_now, .ref q_t_tried, .ref q_t_thought, .ref q_t_kept, .int t_undos, .ref q_t_saved, .int t_isSaved, .ref q_t_finds, .ref q_t_reach, .ref q_t_steps, .ref q_t_glows, .ref q_t_lower, .ref q_t_upper, .ref q_t_line, .int t_lined, .ref q_t_text, .int t_length, .int t_at, .int t_order, .ref q_t_told, .ref q_t_why, .ref q_t_more, .int t_whys, .int t_answer])), (q_t_now, .inl (cI, 133, .inl t_now))]) hF (c_X10_wiresTo l D cI cJ cC cL q_t q_t_now q_t_tried q_t_thought q_t_kept q_t_saved q_t_finds q_t_reach q_t_steps q_t_glows q_t_lower q_t_upper q_t_line q_t_text q_t_told q_t_why q_t_more t_undos t_isSaved t_lined t_length t_at t_order t_whys t_answer t_now v1 x57 hc57 H.size) (cwV 1 hts gX10_findsNow_X10_wiresTo rfl rfl rfl (by decide +kernel) ⟨Nat.le_of_ble_eq_true rfl, Nat.le_of_ble_eq_true rfl⟩) rfl hl rfl (Nat.le_of_ble_eq_true rfl) dX10_findsNow_57 ⟨Nat.zero_le _, Nat.zero_le _⟩ hK hN KX_T trivial hP hD hS hA rfl rfl rfl rfl rfl rfl (by decide) rfl rfl (fun H locs hP hD hS => ?_)
        obtain ⟨x60, hc60, hJ⟩ := bnd1_some hJ
        refine jcS_i (As := [.int x51, .int v2, .int x57]) (rest := []) (isC := []) (isR := [0, 1]) (isB := [0, 1]) (wr := [(q_t, .inr (8, [.ref q_t_now, .ref q_t_tried, .ref q_t_thought, .ref q_t_kept, .int t_undos, .ref q_t_saved, .int t_isSaved, .ref q_t_finds, .ref q_t_reach, .ref q_t_steps, .ref q_t_glows, .ref q_t_lower, .ref q_t_upper, .ref q_t_line, .int t_lined, .ref q_t_text, .int t_length, .int t_at, .int t_order, .ref q_t_told, .ref q_t_why, .ref q_t_more, .int t_whys, .int t_answer])), (q_t_now, .inl (cI, 133, .inl t_now))]) (ws2 := [(q_t, .inr (8, [.ref q_t_now, .ref q_t_tried, .ref q_t_thought, .ref q_t_kept, .int t_undos, .ref q_t_saved, .int t_isSaved, .ref q_t_finds, .ref q_t_reach, .ref q_t_steps, .ref q_t_glows, .ref q_t_lower, .ref q_t_upper, .ref q_t_line, .int t_lined, .ref q_t_text, .int t_length, .int t_at, .int t_order, .ref q_t_told, .ref q_t_why, .ref q_t_more, .int t_whys, .int t_answer])), (q_t_now, .inl (cI, 133, .inl t_now))]) hF (c_X10_found l D cI cJ cC cL x51 v2 x57 x60 hc60 H.size) (va_cwS 3 hts gX10_findsNow_X10_found rfl rfl rfl (by decide +kernel) ⟨Nat.le_of_ble_eq_true rfl, Nat.le_of_ble_eq_true rfl⟩) rfl hl rfl (Nat.le_of_ble_eq_true rfl) dX10_findsNow_60 ⟨Nat.zero_le _, Nat.zero_le _⟩ hK hN KX_T trivial hP hD hS hA rfl rfl rfl rfl (by decide) rfl rfl (fun H locs hP hD hS => ?_)
        have e0 := Option.some.inj hJ
        exact hRet hP hD hS e0 dX10_findsNow_63
      · refine lv_aload_n hx hb dX10_findsNow_19 rfl (lv_at hl 0 rfl) ?_
        refine lv_iload_n hx hb dX10_findsNow_20 rfl (lv_at hl 1 rfl) ?_
        refine lv_iload_n hx hb dX10_findsNow_21 rfl (lv_at hl 3 rfl) ?_
        obtain ⟨x22, hc22, hJ⟩ := bnd1_some hJ
        refine jcV_i (C := RX10) (T := TX10) (N := 24) (ci := 8) (q0 := 0) (As := [.int v1, .int v3]) (rest := []) (isC := [0, 1]) (isR := []) (isB := [0, 1]) (wr := []) (ws2 := [(q_t, .inr (8, [.ref q_t_now, .ref q_t_tried, .ref q_t_thought, .ref q_t_kept, .int t_undos, .ref q_t_saved, .int t_isSaved, .ref q_t_finds, .ref q_t_reach, .ref q_t_steps, .ref q_t_glows, .ref q_t_lower, .ref q_t_upper, .ref q_t_line, .int t_lined, .ref q_t_text, .int t_length, .int t_at, .int t_order, .ref q_t_told, .ref q_t_why, .ref q_t_more, .int t_whys, .int t_answer])), (q_t_now, .inl (cI, 133, .inl t_now))]) hF (c_X10_wired l D cI cJ cC cL q_t q_t_now q_t_tried q_t_thought q_t_kept q_t_saved q_t_finds q_t_reach q_t_steps q_t_glows q_t_lower q_t_upper q_t_line q_t_text q_t_told q_t_why q_t_more t_undos t_isSaved t_lined t_length t_at t_order t_whys t_answer t_now v1 v3 x22 hc22 H.size) (cwV 2 hts gX10_findsNow_X10_wired rfl rfl rfl (by decide +kernel) ⟨Nat.le_of_ble_eq_true rfl, Nat.le_of_ble_eq_true rfl⟩) rfl hl rfl (Nat.le_of_ble_eq_true rfl) dX10_findsNow_22 ⟨Nat.zero_le _, Nat.zero_le _⟩ hK hN KX_T trivial hP hD hS hA rfl rfl rfl rfl rfl rfl (by decide) rfl rfl (fun H locs hP hD hS => ?_)
        refine jif_lt (tgt := 42) hx hb dX10_findsNow_25 (by decide) hJ (fun hJ => ?_) (fun hJ => ?_)
        · exact B42 (fun z0 z1 => J_X10_findsNow_L14 t_now v1 nf z0 z1) ih v2 v3  H locs  hP hD hS _ (lv_sub hl [0, 1, 2, 3] rfl) hJ
        · refine lv_iload_n hx hb dX10_findsNow_28 rfl (lv_at hl 2 rfl) ?_
          refine lv_aload_n hx hb dX10_findsNow_29 rfl (lv_at hl 0 rfl) ?_
          refine lv_aload_n hx hb dX10_findsNow_30 rfl (lv_at hl 0 rfl) ?_
          refine lv_iload_n hx hb dX10_findsNow_31 rfl (lv_at hl 1 rfl) ?_
          refine lv_iload_n hx hb dX10_findsNow_32 rfl (lv_at hl 3 rfl) ?_
          obtain ⟨x33, hc33, hJ⟩ := bnd1_some hJ
          refine jcV_i (C := RX10) (T := TX10) (N := 24) (ci := 8) (q0 := 0) (As := [.int v1, .int v3]) (rest := [.ref q_t, .int v2]) (isC := [0, 1]) (isR := []) (isB := [0, 1]) (wr := []) (ws2 := [(q_t, .inr (8, [.ref q_t_now, .ref q_t_tried, .ref q_t_thought, .ref q_t_kept, .int t_undos, .ref q_t_saved, .int t_isSaved, .ref q_t_finds, .ref q_t_reach, .ref q_t_steps, .ref q_t_glows, .ref q_t_lower, .ref q_t_upper, .ref q_t_line, .int t_lined, .ref q_t_text, .int t_length, .int t_at, .int t_order, .ref q_t_told, .ref q_t_why, .ref q_t_more, .int t_whys, .int t_answer])), (q_t_now, .inl (cI, 133, .inl t_now))]) hF (c_X10_wired l D cI cJ cC cL q_t q_t_now q_t_tried q_t_thought q_t_kept q_t_saved q_t_finds q_t_reach q_t_steps q_t_glows q_t_lower q_t_upper q_t_line q_t_text q_t_told q_t_why q_t_more t_undos t_isSaved t_lined t_length t_at t_order t_whys t_answer t_now v1 v3 x33 hc33 H.size) (cwV 2 hts gX10_findsNow_X10_wired rfl rfl rfl (by decide +kernel) ⟨Nat.le_of_ble_eq_true rfl, Nat.le_of_ble_eq_true rfl⟩) rfl hl rfl (Nat.le_of_ble_eq_true rfl) dX10_findsNow_33 ⟨Nat.zero_le _, Nat.zero_le _⟩ hK hN KX_T trivial hP hD hS hA rfl rfl rfl rfl rfl rfl (by decide) rfl rfl (fun H locs hP hD hS => ?_)
          refine lv_iconst (v := (2 : Int32)) hx hb dX10_findsNow_36 (by decide) ?_
          obtain ⟨x37, hc37, hJ⟩ := bnd1_some hJ
          refine jcV_i (C := RX10) (T := TX10) (N := 24) (ci := 8) (q0 := 0) (As := [.int x33, .int (2 : Int32)]) (rest := [.int v2]) (isC := [0, 1]) (isR := []) (isB := [0, 1]) (wr := []) (ws2 := [(q_t, .inr (8, [.ref q_t_now, .ref q_t_tried, .ref q_t_thought, .ref q_t_kept, .int t_undos, .ref q_t_saved, .int t_isSaved, .ref q_t_finds, .ref q_t_reach, .ref q_t_steps, .ref q_t_glows, .ref q_t_lower, .ref q_t_upper, .ref q_t_line, .int t_lined, .ref q_t_text, .int t_length, .int t_at, .int t_order, .ref q_t_told, .ref q_t_why, .ref q_t_more, .int t_whys, .int t_answer])), (q_t_now, .inl (cI, 133, .inl t_now))]) hF (c_X10_of l D cI cJ cC cL q_t q_t_now q_t_tried q_t_thought q_t_kept q_t_saved q_t_finds q_t_reach q_t_steps q_t_glows q_t_lower q_t_upper q_t_line q_t_text q_t_told q_t_why q_t_more t_undos t_isSaved t_lined t_length t_at t_order t_whys t_answer t_now x33 (2 : Int32) x37 hc37 H.size) (cwV 2 hts gX10_findsNow_X10_of rfl rfl rfl (by decide +kernel) ⟨Nat.le_of_ble_eq_true rfl, Nat.le_of_ble_eq_true rfl⟩) rfl hl rfl (Nat.le_of_ble_eq_true rfl) dX10_findsNow_37 ⟨Nat.zero_le _, Nat.zero_le _⟩ hK hN KX_T trivial hP hD hS hA rfl rfl rfl rfl rfl rfl (by decide) rfl rfl (fun H locs hP hD hS => ?_)
          refine lv_iadd hx hb dX10_findsNow_40 ?_
          refine jt_i hJ (fun x40 hJ => ?_)
          refine lv_istore_n (lv' := [(2, .int x40), (0, .ref q_t), (1, .int v1), (3, .int v3)]) hx hb dX10_findsNow_41 rfl hl (by decide) rfl (fun ls hl => ?_)
          exact B42 (fun z0 z1 => J_X10_findsNow_L14 t_now v1 nf z0 z1) ih x40 v3  H locs  hP hD hS _ (lv_sub hl [1, 2, 0, 3] rfl) hJ
  unfold J_X10_findsNow at hJ
  refine lv_aload_n hx hb dX10_findsNow_0 rfl (lv_at hl 0 rfl) ?_
  refine lv_iload_n hx hb dX10_findsNow_1 rfl (lv_at hl 1 rfl) ?_
  obtain ⟨x2, hc2, hJ⟩ := bnd1_some hJ
  refine jcV_i (C := RX10) (T := TX10) (N := 24) (ci := 8) (q0 := 0) (As := [.int v1]) (rest := []) (isC := [0, 1]) (isR := []) (isB := [0, 1]) (wr := []) (ws2 := [(q_t, .inr (8, [.ref q_t_now, .ref q_t_tried, .ref q_t_thought, .ref q_t_kept, .int t_undos, .ref q_t_saved, .int t_isSaved, .ref q_t_finds, .ref q_t_reach, .ref q_t_steps, .ref q_t_glows, .ref q_t_lower, .ref q_t_upper, .ref q_t_line, .int t_lined, .ref q_t_text, .int t_length, .int t_at, .int t_order, .ref q_t_told, .ref q_t_why, .ref q_t_more, .int t_whys, .int t_answer])), (q_t_now, .inl (cI, 133, .inl t_now))]) hF (c_X10_isSwitch l D cI cJ cC cL q_t q_t_now q_t_tried q_t_thought q_t_kept q_t_saved q_t_finds q_t_reach q_t_steps q_t_glows q_t_lower q_t_upper q_t_line q_t_text q_t_told q_t_why q_t_more t_undos t_isSaved t_lined t_length t_at t_order t_whys t_answer t_now v1 x2 hc2 s.heap.size) (cwV 1 hts gX10_findsNow_X10_isSwitch rfl rfl rfl (by decide +kernel) ⟨Nat.le_of_ble_eq_true rfl, Nat.le_of_ble_eq_true rfl⟩) rfl hl rfl (Nat.le_of_ble_eq_true rfl) dX10_findsNow_2 ⟨Nat.zero_le _, Nat.zero_le _⟩ hK hN KX_T trivial hP hD hS hA rfl rfl rfl rfl rfl rfl (by decide) rfl rfl (fun H locs hP hD hS => ?_)
  refine jif_eq (tgt := 10) hx hb dX10_findsNow_5 (by decide) hJ (fun hJ => ?_) (fun hJ => ?_)
  · refine lv_iconst (v := (0 : Int32)) hx hb dX10_findsNow_10 (by decide) ?_
    refine lv_istore_n (lv' := [(2, .int (0 : Int32)), (0, .ref q_t), (1, .int v1)]) hx hb dX10_findsNow_11 rfl hl (by decide) rfl (fun ls hl => ?_)
    refine lv_iconst (v := (0 : Int32)) hx hb dX10_findsNow_12 (by decide) ?_
    refine lv_istore_n (lv' := [(3, .int (0 : Int32)), (2, .int (0 : Int32)), (0, .ref q_t), (1, .int v1)]) hx hb dX10_findsNow_13 rfl hl (by decide) rfl (fun ls hl => ?_)
    exact L14  FU (0 : Int32) (0 : Int32)  H locs  hP hD hS _ (lv_sub hl [2, 3, 1, 0] rfl) hJ
  · refine lv_iconst (v := (0 : Int32)) hx hb dX10_findsNow_8 (by decide) ?_
    have e0 := Option.some.inj hJ
    exact hRet hP hD hS e0 dX10_findsNow_9

def J_X10_allFind_L2 (t_now : Nat → Int32) : Nat → (Nat → Int32) → Int32 → Option ((Nat → Int32))
  | 0, _, _ => none
  | nf + 1, t_finds, v1 =>
    chk (0 : Int32) 133 (
    nm (t_now (0 : Int32).toNatClampNeg) fun x8 =>
    if x8 ≤ v1 then (
    some (t_finds))
    else (
    bnd1 (J_X10_findsNow t_now v1) fun x19 =>
    chk v1 16 (
    nm (v1 + Int32.ofInt 1) fun x23 =>
    J_X10_allFind_L2 t_now nf (upd t_finds v1.toNatClampNeg x19) x23)))
def J_X10_allFind (t_now : Nat → Int32) (t_finds : Nat → Int32) : Option ((Nat → Int32)) :=
    J_X10_allFind_L2 t_now FU t_finds (0 : Int32)
abbrev rmX10_allFind : Room := { frames := 4, cells := 0, slots := 0, locals := 90 }
set_option maxHeartbeats 4000000 in
set_option maxRecDepth 100000 in
theorem c_X10_allFind (l : Launch) (D : va_G) (cI cJ cC cL : ClassId) (q_t q_t_now q_t_tried q_t_thought q_t_kept q_t_saved q_t_finds q_t_reach q_t_steps q_t_glows q_t_lower q_t_upper q_t_line q_t_text q_t_told q_t_why q_t_more : Nat) (t_undos : Int32) (t_isSaved : Int32) (t_lined : Int32) (t_length : Int32) (t_at : Int32) (t_order : Int32) (t_whys : Int32) (t_answer : Int32) (t_now : Nat → Int32) (t_finds : Nat → Int32) (o_t_finds : Nat → Int32) (hJ : J_X10_allFind t_now t_finds = some (o_t_finds)) (sz : Nat) : Met l yX10_allFind wsX10_allFind rmX10_allFind (va_Pc [.ref q_t] (jpre XT D (tyL cI cJ cC cL) [(q_t, .inr (8, [.ref q_t_now, .ref q_t_tried, .ref q_t_thought, .ref q_t_kept, .int t_undos, .ref q_t_saved, .int t_isSaved, .ref q_t_finds, .ref q_t_reach, .ref q_t_steps, .ref q_t_glows, .ref q_t_lower, .ref q_t_upper, .ref q_t_line, .int t_lined, .ref q_t_text, .int t_length, .int t_at, .int t_order, .ref q_t_told, .ref q_t_why, .ref q_t_more, .int t_whys, .int t_answer])), (q_t_now, .inl (cI, 133, .inl t_now)), (q_t_finds, .inl (cI, 16, .inl t_finds))] sz)) (va_Qv (fun (_ : Unit) => True) (fun _ t => jpost D (tyL cI cJ cC cL) (va_A [(q_t, .inr (8, [.ref q_t_now, .ref q_t_tried, .ref q_t_thought, .ref q_t_kept, .int t_undos, .ref q_t_saved, .int t_isSaved, .ref q_t_finds, .ref q_t_reach, .ref q_t_steps, .ref q_t_glows, .ref q_t_lower, .ref q_t_upper, .ref q_t_line, .int t_lined, .ref q_t_text, .int t_length, .int t_at, .int t_order, .ref q_t_told, .ref q_t_why, .ref q_t_more, .int t_whys, .int t_answer])), (q_t_now, .inl (cI, 133, .inl t_now)), (q_t_finds, .inl (cI, 16, .inl t_finds))] sz) [(q_t, .inr (8, [.ref q_t_now, .ref q_t_tried, .ref q_t_thought, .ref q_t_kept, .int t_undos, .ref q_t_saved, .int t_isSaved, .ref q_t_finds, .ref q_t_reach, .ref q_t_steps, .ref q_t_glows, .ref q_t_lower, .ref q_t_upper, .ref q_t_line, .int t_lined, .ref q_t_text, .int t_length, .int t_at, .int t_order, .ref q_t_told, .ref q_t_why, .ref q_t_more, .int t_whys, .int t_answer])), (q_t_now, .inl (cI, 133, .inl t_now)), (q_t_finds, .inl (cI, 16, .inl o_t_finds))] t) (va_A [(q_t, .inr (8, [.ref q_t_now, .ref q_t_tried, .ref q_t_thought, .ref q_t_kept, .int t_undos, .ref q_t_saved, .int t_isSaved, .ref q_t_finds, .ref q_t_reach, .ref q_t_steps, .ref q_t_glows, .ref q_t_lower, .ref q_t_upper, .ref q_t_line, .int t_lined, .ref q_t_text, .int t_length, .int t_at, .int t_order, .ref q_t_told, .ref q_t_why, .ref q_t_more, .int t_whys, .int t_answer])), (q_t_now, .inl (cI, 133, .inl t_now)), (q_t_finds, .inl (cI, 16, .inl t_finds))] sz)) 0 0 (va_A [(q_t, .inr (8, [.ref q_t_now, .ref q_t_tried, .ref q_t_thought, .ref q_t_kept, .int t_undos, .ref q_t_saved, .int t_isSaved, .ref q_t_finds, .ref q_t_reach, .ref q_t_steps, .ref q_t_glows, .ref q_t_lower, .ref q_t_upper, .ref q_t_line, .int t_lined, .ref q_t_text, .int t_length, .int t_at, .int t_order, .ref q_t_told, .ref q_t_why, .ref q_t_more, .int t_whys, .int t_answer])), (q_t_now, .inl (cI, 133, .inl t_now)), (q_t_finds, .inl (cI, 16, .inl t_finds))] sz) := by
  refine jE_v (cc := cX10_allFind) (maxL := 2) (own := RX10) (ret := none) (lv0 := [(0, .ref q_t)]) (by decide) rfl rfl rfl (Nat.le_of_ble_eq_true rfl) rfl ?_
  intro p e s m args below meth c A Q ls hx hb hml hown hts hK hN hX hA hP hD hS hl hRet
  have hF : CallFix p m c cX10_allFind 2 s args wsX10_allFind RX10 := ⟨hx, hb, hml, hown, hts⟩
  have fl_9 := hts (.fieldLink RX10 9 "LanternLogicModel" "now" "[I") (by decide +kernel)
  have fl_25 := hts (.fieldLink RX10 25 "LanternLogicModel" "finds" "[I") (by decide +kernel)
  have hin_X10 : ∀ w ∈ u_ws RX10 TX10 24, w ∈ wsX10_allFind := by decide +kernel
  have L2 : ∀ (nf : Nat), ∀ (t_finds : Nat → Int32) (v1 : Int32) (H : Heap) (locs : List Loc), va_P D vwCl [(q_t, .inr (8, [.ref q_t_now, .ref q_t_tried, .ref q_t_thought, .ref q_t_kept, .int t_undos, .ref q_t_saved, .int t_isSaved, .ref q_t_finds, .ref q_t_reach, .ref q_t_steps, .ref q_t_glows, .ref q_t_lower, .ref q_t_upper, .ref q_t_line, .int t_lined, .ref q_t_text, .int t_length, .int t_at, .int t_order, .ref q_t_told, .ref q_t_why, .ref q_t_more, .int t_whys, .int t_answer])), (q_t_now, .inl (cI, 133, .inl t_now)), (q_t_finds, .inl (cI, 16, .inl t_finds))] H → va_D A [(q_t, .inr (8, [.ref q_t_now, .ref q_t_tried, .ref q_t_thought, .ref q_t_kept, .int t_undos, .ref q_t_saved, .int t_isSaved, .ref q_t_finds, .ref q_t_reach, .ref q_t_steps, .ref q_t_glows, .ref q_t_lower, .ref q_t_upper, .ref q_t_line, .int t_lined, .ref q_t_text, .int t_length, .int t_at, .int t_order, .ref q_t_told, .ref q_t_why, .ref q_t_more, .int t_whys, .int t_answer])), (q_t_now, .inl (cI, 133, .inl t_now)), (q_t_finds, .inl (cI, 16, .inl t_finds))] → va_S A s.heap H locs → ∀ ls : Array Slot, lv_has ls 2 [(0, .ref q_t), (1, .int v1)] → J_X10_allFind_L2  t_now nf t_finds v1 = some (o_t_finds) → W p l e rmX10_allFind s m args below meth c H locs 0 0 Q (F0 m 2 ls []) := by
    intro nf
    induction nf with
    | zero =>
      intro t_finds v1 H locs hP hD hS ls hl hJ
      rw [J_X10_allFind_L2] at hJ
      cases hJ
    | succ nf ih =>
      intro t_finds v1 H locs hP hD hS ls hl hJ
      rw [J_X10_allFind_L2] at hJ
      refine lv_iload_n hx hb dX10_allFind_2 rfl (lv_at hl 1 rfl) ?_
      refine lv_aload_n hx hb dX10_allFind_3 rfl (lv_at hl 0 rfl) ?_
      refine va_get (ci := 8) (v := .ref q_t_now) (C := RX10) (T := TX10) (N := 24) hx hb hts hin_X10 hown hK hP 0 rfl rfl 0 (by decide) fl_9 (fun _ h9 => h9) rfl dX10_allFind_4 ?_
      refine lv_iconst (v := (0 : Int32)) hx hb dX10_allFind_7 (by decide) ?_
      obtain ⟨hin, hJ⟩ := chk_in hJ
      refine va_iald hx hb hK hP 1 0 rfl rfl hin dX10_allFind_8 ?_
      refine jt_i hJ (fun x8 hJ => ?_)
      refine jif_icmp_ge (tgt := 29) hx hb dX10_allFind_9 (by decide) hJ (fun hJ => ?_) (fun hJ => ?_)
      · have e0 := Option.some.inj hJ
        exact hRet (by rw [← e0]; exact hP) (by rw [← e0]; exact hD) hS dX10_allFind_29
      · refine lv_aload_n hx hb dX10_allFind_12 rfl (lv_at hl 0 rfl) ?_
        refine va_get (ci := 8) (v := .ref q_t_finds) (C := RX10) (T := TX10) (N := 24) hx hb hts hin_X10 hown hK hP 0 rfl rfl 7 (by decide) fl_25 (fun _ h9 => h9) rfl dX10_allFind_13 ?_
        refine lv_iload_n hx hb dX10_allFind_16 rfl (lv_at hl 1 rfl) ?_
        refine lv_aload_n hx hb dX10_allFind_17 rfl (lv_at hl 0 rfl) ?_
        refine lv_iload_n hx hb dX10_allFind_18 rfl (lv_at hl 1 rfl) ?_
        obtain ⟨x19, hc19, hJ⟩ := bnd1_some hJ
        refine jcV_i (C := RX10) (T := TX10) (N := 24) (ci := 8) (q0 := 0) (As := [.int v1]) (rest := [.int v1, .ref q_t_finds]) (isC := [0, 1]) (isR := [2]) (isB := [1, 2, 0]) (wr := [(q_t_finds, .inl (cI, 16, .inl t_finds))]) (ws2 := [(q_t, .inr (8, [.ref q_t_now, .ref q_t_tried, .ref q_t_thought, .ref q_t_kept, .int t_undos, .ref q_t_saved, .int t_isSaved, .ref q_t_finds, .ref q_t_reach, .ref q_t_steps, .ref q_t_glows, .ref q_t_lower, .ref q_t_upper, .ref q_t_line, .int t_lined, .ref q_t_text, .int t_length, .int t_at, .int t_order, .ref q_t_told, .ref q_t_why, .ref q_t_more, .int t_whys, .int t_answer])), (q_t_now, .inl (cI, 133, .inl t_now)), (q_t_finds, .inl (cI, 16, .inl t_finds))]) hF (c_X10_findsNow l D cI cJ cC cL q_t q_t_now q_t_tried q_t_thought q_t_kept q_t_saved q_t_finds q_t_reach q_t_steps q_t_glows q_t_lower q_t_upper q_t_line q_t_text q_t_told q_t_why q_t_more t_undos t_isSaved t_lined t_length t_at t_order t_whys t_answer t_now v1 x19 hc19 H.size) (cwV 1 hts gX10_allFind_X10_findsNow rfl rfl rfl (by decide +kernel) ⟨Nat.le_of_ble_eq_true rfl, Nat.le_of_ble_eq_true rfl⟩) rfl hl rfl (Nat.le_of_ble_eq_true rfl) dX10_allFind_19 ⟨Nat.zero_le _, Nat.zero_le _⟩ hK hN KX_T trivial hP hD hS hA rfl rfl rfl rfl rfl rfl (by decide) rfl rfl (fun H locs hP hD hS => ?_)
        obtain ⟨hin, hJ⟩ := chk_in hJ
        refine va_iast hx hb hK hP hD hS 2 0 rfl rfl hin dX10_allFind_22 (fun H locs hP hD hS => ?_)
        have hP : va_P D vwCl [(q_t, .inr (8, [.ref q_t_now, .ref q_t_tried, .ref q_t_thought, .ref q_t_kept, .int t_undos, .ref q_t_saved, .int t_isSaved, .ref q_t_finds, .ref q_t_reach, .ref q_t_steps, .ref q_t_glows, .ref q_t_lower, .ref q_t_upper, .ref q_t_line, .int t_lined, .ref q_t_text, .int t_length, .int t_at, .int t_order, .ref q_t_told, .ref q_t_why, .ref q_t_more, .int t_whys, .int t_answer])), (q_t_now, .inl (cI, 133, .inl t_now)), (q_t_finds, .inl (cI, 16, .inl (upd t_finds v1.toNatClampNeg x19)))] H := hP
        have hD : va_D A [(q_t, .inr (8, [.ref q_t_now, .ref q_t_tried, .ref q_t_thought, .ref q_t_kept, .int t_undos, .ref q_t_saved, .int t_isSaved, .ref q_t_finds, .ref q_t_reach, .ref q_t_steps, .ref q_t_glows, .ref q_t_lower, .ref q_t_upper, .ref q_t_line, .int t_lined, .ref q_t_text, .int t_length, .int t_at, .int t_order, .ref q_t_told, .ref q_t_why, .ref q_t_more, .int t_whys, .int t_answer])), (q_t_now, .inl (cI, 133, .inl t_now)), (q_t_finds, .inl (cI, 16, .inl (upd t_finds v1.toNatClampNeg x19)))] := hD
        refine jt_iinc hJ (fun x23 ex23 hJ => ?_)
        refine lv_iinc (v := x23) (lv' := [(1, .int x23), (0, .ref q_t)]) hx hb dX10_allFind_23 hl (k := 1) rfl ex23 (by decide) rfl (fun ls hl => ?_)
        refine lv_goto (tgt := 2) hx hb dX10_allFind_26 (by decide) ?_
        exact ih (upd t_finds v1.toNatClampNeg x19) x23  H locs  hP hD hS _ (lv_sub hl [1, 0] rfl) hJ
  unfold J_X10_allFind at hJ
  refine lv_iconst (v := (0 : Int32)) hx hb dX10_allFind_0 (by decide) ?_
  refine lv_istore_n (lv' := [(1, .int (0 : Int32)), (0, .ref q_t)]) hx hb dX10_allFind_1 rfl hl (by decide) rfl (fun ls hl => ?_)
  exact L2  FU t_finds (0 : Int32)  s.heap []  hP hD hS _ (lv_sub hl [1, 0] rfl) hJ

def J_X10_glowBehind_b28 (t_now : Nat → Int32) (t_finds : Nat → Int32) (v1 : Int32) (s28_0 : Int32) : Option (Int32) :=
    some (s28_0)
def J_X10_glowBehind (t_now : Nat → Int32) (t_finds : Nat → Int32) (v1 : Int32) : Option (Int32) :=
    bnd1 (J_X10_of t_now v1 (1 : Int32)) fun x3 =>
    if x3 = (1 : Int32) then (
    chk v1 16 (
    nm (t_finds v1.toNatClampNeg) fun x15 =>
    J_X10_glowBehind_b28 t_now t_finds v1 x15))
    else (
    bnd1 (J_X10_of t_now v1 (7 : Int32)) fun x23 =>
    nm (x23 &&& (1 : Int32)) fun x27 =>
    J_X10_glowBehind_b28 t_now t_finds v1 x27)
abbrev rmX10_glowBehind : Room := { frames := 1, cells := 0, slots := 0, locals := 22 }
set_option maxHeartbeats 4000000 in
set_option maxRecDepth 100000 in
theorem c_X10_glowBehind (l : Launch) (D : va_G) (cI cJ cC cL : ClassId) (q_t q_t_now q_t_tried q_t_thought q_t_kept q_t_saved q_t_finds q_t_reach q_t_steps q_t_glows q_t_lower q_t_upper q_t_line q_t_text q_t_told q_t_why q_t_more : Nat) (t_undos : Int32) (t_isSaved : Int32) (t_lined : Int32) (t_length : Int32) (t_at : Int32) (t_order : Int32) (t_whys : Int32) (t_answer : Int32) (t_now : Nat → Int32) (t_finds : Nat → Int32) (v1 : Int32) (r : Int32) (hJ : J_X10_glowBehind t_now t_finds v1 = some (r)) (sz : Nat) : Met l yX10_glowBehind wsX10_glowBehind rmX10_glowBehind (va_Pc [.ref q_t, .int v1] (jpre XT D (tyL cI cJ cC cL) [(q_t, .inr (8, [.ref q_t_now, .ref q_t_tried, .ref q_t_thought, .ref q_t_kept, .int t_undos, .ref q_t_saved, .int t_isSaved, .ref q_t_finds, .ref q_t_reach, .ref q_t_steps, .ref q_t_glows, .ref q_t_lower, .ref q_t_upper, .ref q_t_line, .int t_lined, .ref q_t_text, .int t_length, .int t_at, .int t_order, .ref q_t_told, .ref q_t_why, .ref q_t_more, .int t_whys, .int t_answer])), (q_t_now, .inl (cI, 133, .inl t_now)), (q_t_finds, .inl (cI, 16, .inl t_finds))] sz)) (va_Qi (fun r' (_ : Unit) => r' = r) (fun _ t => jpost D (tyL cI cJ cC cL) (va_A [(q_t, .inr (8, [.ref q_t_now, .ref q_t_tried, .ref q_t_thought, .ref q_t_kept, .int t_undos, .ref q_t_saved, .int t_isSaved, .ref q_t_finds, .ref q_t_reach, .ref q_t_steps, .ref q_t_glows, .ref q_t_lower, .ref q_t_upper, .ref q_t_line, .int t_lined, .ref q_t_text, .int t_length, .int t_at, .int t_order, .ref q_t_told, .ref q_t_why, .ref q_t_more, .int t_whys, .int t_answer])), (q_t_now, .inl (cI, 133, .inl t_now)), (q_t_finds, .inl (cI, 16, .inl t_finds))] sz) [(q_t, .inr (8, [.ref q_t_now, .ref q_t_tried, .ref q_t_thought, .ref q_t_kept, .int t_undos, .ref q_t_saved, .int t_isSaved, .ref q_t_finds, .ref q_t_reach, .ref q_t_steps, .ref q_t_glows, .ref q_t_lower, .ref q_t_upper, .ref q_t_line, .int t_lined, .ref q_t_text, .int t_length, .int t_at, .int t_order, .ref q_t_told, .ref q_t_why, .ref q_t_more, .int t_whys, .int t_answer])), (q_t_now, .inl (cI, 133, .inl t_now)), (q_t_finds, .inl (cI, 16, .inl t_finds))] t) (va_A [(q_t, .inr (8, [.ref q_t_now, .ref q_t_tried, .ref q_t_thought, .ref q_t_kept, .int t_undos, .ref q_t_saved, .int t_isSaved, .ref q_t_finds, .ref q_t_reach, .ref q_t_steps, .ref q_t_glows, .ref q_t_lower, .ref q_t_upper, .ref q_t_line, .int t_lined, .ref q_t_text, .int t_length, .int t_at, .int t_order, .ref q_t_told, .ref q_t_why, .ref q_t_more, .int t_whys, .int t_answer])), (q_t_now, .inl (cI, 133, .inl t_now)), (q_t_finds, .inl (cI, 16, .inl t_finds))] sz)) 0 0 (va_A [(q_t, .inr (8, [.ref q_t_now, .ref q_t_tried, .ref q_t_thought, .ref q_t_kept, .int t_undos, .ref q_t_saved, .int t_isSaved, .ref q_t_finds, .ref q_t_reach, .ref q_t_steps, .ref q_t_glows, .ref q_t_lower, .ref q_t_upper, .ref q_t_line, .int t_lined, .ref q_t_text, .int t_length, .int t_at, .int t_order, .ref q_t_told, .ref q_t_why, .ref q_t_more, .int t_whys, .int t_answer])), (q_t_now, .inl (cI, 133, .inl t_now)), (q_t_finds, .inl (cI, 16, .inl t_finds))] sz) := by
  refine jE_i (cc := cX10_glowBehind) (maxL := 2) (own := RX10) (ret := (some .int)) (lv0 := [(0, .ref q_t), (1, .int v1)]) (by decide) rfl rfl rfl (Nat.le_of_ble_eq_true rfl) rfl ?_
  intro p e s m args below meth c A Q ls hx hb hml hown hts hK hN hX hA hP hD hS hl hRet
  have hF : CallFix p m c cX10_glowBehind 2 s args wsX10_glowBehind RX10 := ⟨hx, hb, hml, hown, hts⟩
  have fl_25 := hts (.fieldLink RX10 25 "LanternLogicModel" "finds" "[I") (by decide +kernel)
  have hin_X10 : ∀ w ∈ u_ws RX10 TX10 24, w ∈ wsX10_glowBehind := by decide +kernel
  have B28 : ∀ (s28_0 : Int32) (H : Heap) (locs : List Loc), va_P D vwCl [(q_t, .inr (8, [.ref q_t_now, .ref q_t_tried, .ref q_t_thought, .ref q_t_kept, .int t_undos, .ref q_t_saved, .int t_isSaved, .ref q_t_finds, .ref q_t_reach, .ref q_t_steps, .ref q_t_glows, .ref q_t_lower, .ref q_t_upper, .ref q_t_line, .int t_lined, .ref q_t_text, .int t_length, .int t_at, .int t_order, .ref q_t_told, .ref q_t_why, .ref q_t_more, .int t_whys, .int t_answer])), (q_t_now, .inl (cI, 133, .inl t_now)), (q_t_finds, .inl (cI, 16, .inl t_finds))] H → va_D A [(q_t, .inr (8, [.ref q_t_now, .ref q_t_tried, .ref q_t_thought, .ref q_t_kept, .int t_undos, .ref q_t_saved, .int t_isSaved, .ref q_t_finds, .ref q_t_reach, .ref q_t_steps, .ref q_t_glows, .ref q_t_lower, .ref q_t_upper, .ref q_t_line, .int t_lined, .ref q_t_text, .int t_length, .int t_at, .int t_order, .ref q_t_told, .ref q_t_why, .ref q_t_more, .int t_whys, .int t_answer])), (q_t_now, .inl (cI, 133, .inl t_now)), (q_t_finds, .inl (cI, 16, .inl t_finds))] → va_S A s.heap H locs → ∀ ls : Array Slot, lv_has ls 2 [] → J_X10_glowBehind_b28  t_now t_finds v1 s28_0 = some (r) → W p l e rmX10_glowBehind s m args below meth c H locs 0 0 Q (F0 m 28 ls [.int s28_0]) := by
    intro s28_0 H locs hP hD hS ls hl hJ
    unfold J_X10_glowBehind_b28 at hJ
    have e0 := Option.some.inj hJ
    exact hRet hP hD hS e0 dX10_glowBehind_28
  unfold J_X10_glowBehind at hJ
  refine lv_aload_n hx hb dX10_glowBehind_0 rfl (lv_at hl 0 rfl) ?_
  refine lv_iload_n hx hb dX10_glowBehind_1 rfl (lv_at hl 1 rfl) ?_
  refine lv_iconst (v := (1 : Int32)) hx hb dX10_glowBehind_2 (by decide) ?_
  obtain ⟨x3, hc3, hJ⟩ := bnd1_some hJ
  refine jcV_i (C := RX10) (T := TX10) (N := 24) (ci := 8) (q0 := 0) (As := [.int v1, .int (1 : Int32)]) (rest := []) (isC := [0, 1]) (isR := [2]) (isB := [1, 2, 0]) (wr := [(q_t_finds, .inl (cI, 16, .inl t_finds))]) (ws2 := [(q_t, .inr (8, [.ref q_t_now, .ref q_t_tried, .ref q_t_thought, .ref q_t_kept, .int t_undos, .ref q_t_saved, .int t_isSaved, .ref q_t_finds, .ref q_t_reach, .ref q_t_steps, .ref q_t_glows, .ref q_t_lower, .ref q_t_upper, .ref q_t_line, .int t_lined, .ref q_t_text, .int t_length, .int t_at, .int t_order, .ref q_t_told, .ref q_t_why, .ref q_t_more, .int t_whys, .int t_answer])), (q_t_now, .inl (cI, 133, .inl t_now)), (q_t_finds, .inl (cI, 16, .inl t_finds))]) hF (c_X10_of l D cI cJ cC cL q_t q_t_now q_t_tried q_t_thought q_t_kept q_t_saved q_t_finds q_t_reach q_t_steps q_t_glows q_t_lower q_t_upper q_t_line q_t_text q_t_told q_t_why q_t_more t_undos t_isSaved t_lined t_length t_at t_order t_whys t_answer t_now v1 (1 : Int32) x3 hc3 s.heap.size) (cwV 2 hts gX10_glowBehind_X10_of rfl rfl rfl (by decide +kernel) ⟨Nat.le_of_ble_eq_true rfl, Nat.le_of_ble_eq_true rfl⟩) rfl hl rfl (Nat.le_of_ble_eq_true rfl) dX10_glowBehind_3 ⟨Nat.zero_le _, Nat.zero_le _⟩ hK hN KX_T trivial hP hD hS hA rfl rfl rfl rfl rfl rfl (by decide) rfl rfl (fun H locs hP hD hS => ?_)
  refine lv_iconst (v := (1 : Int32)) hx hb dX10_glowBehind_6 (by decide) ?_
  refine jif_icmp_ne (tgt := 19) hx hb dX10_glowBehind_7 (by decide) hJ (fun hJ => ?_) (fun hJ => ?_)
  · refine lv_aload_n hx hb dX10_glowBehind_19 rfl (lv_at hl 0 rfl) ?_
    refine lv_iload_n hx hb dX10_glowBehind_20 rfl (lv_at hl 1 rfl) ?_
    refine lv_bipush (v := (7 : Int32)) hx hb dX10_glowBehind_21 (by decide) ?_
    obtain ⟨x23, hc23, hJ⟩ := bnd1_some hJ
    refine jcV_i (C := RX10) (T := TX10) (N := 24) (ci := 8) (q0 := 0) (As := [.int v1, .int (7 : Int32)]) (rest := []) (isC := [0, 1]) (isR := [2]) (isB := [1, 2, 0]) (wr := [(q_t_finds, .inl (cI, 16, .inl t_finds))]) (ws2 := [(q_t, .inr (8, [.ref q_t_now, .ref q_t_tried, .ref q_t_thought, .ref q_t_kept, .int t_undos, .ref q_t_saved, .int t_isSaved, .ref q_t_finds, .ref q_t_reach, .ref q_t_steps, .ref q_t_glows, .ref q_t_lower, .ref q_t_upper, .ref q_t_line, .int t_lined, .ref q_t_text, .int t_length, .int t_at, .int t_order, .ref q_t_told, .ref q_t_why, .ref q_t_more, .int t_whys, .int t_answer])), (q_t_now, .inl (cI, 133, .inl t_now)), (q_t_finds, .inl (cI, 16, .inl t_finds))]) hF (c_X10_of l D cI cJ cC cL q_t q_t_now q_t_tried q_t_thought q_t_kept q_t_saved q_t_finds q_t_reach q_t_steps q_t_glows q_t_lower q_t_upper q_t_line q_t_text q_t_told q_t_why q_t_more t_undos t_isSaved t_lined t_length t_at t_order t_whys t_answer t_now v1 (7 : Int32) x23 hc23 H.size) (cwV 2 hts gX10_glowBehind_X10_of rfl rfl rfl (by decide +kernel) ⟨Nat.le_of_ble_eq_true rfl, Nat.le_of_ble_eq_true rfl⟩) rfl hl rfl (Nat.le_of_ble_eq_true rfl) dX10_glowBehind_23 ⟨Nat.zero_le _, Nat.zero_le _⟩ hK hN KX_T trivial hP hD hS hA rfl rfl rfl rfl rfl rfl (by decide) rfl rfl (fun H locs hP hD hS => ?_)
    refine lv_iconst (v := (1 : Int32)) hx hb dX10_glowBehind_26 (by decide) ?_
    refine lv_iand hx hb dX10_glowBehind_27 ?_
    refine jt_i hJ (fun x27 hJ => ?_)
    exact B28  x27  H locs  hP hD hS _ (lv_sub hl [] rfl) hJ
  · refine lv_aload_n hx hb dX10_glowBehind_10 rfl (lv_at hl 0 rfl) ?_
    refine va_get (ci := 8) (v := .ref q_t_finds) (C := RX10) (T := TX10) (N := 24) hx hb hts hin_X10 hown hK hP 0 rfl rfl 7 (by decide) fl_25 (fun _ h9 => h9) rfl dX10_glowBehind_11 ?_
    refine lv_iload_n hx hb dX10_glowBehind_14 rfl (lv_at hl 1 rfl) ?_
    obtain ⟨hin, hJ⟩ := chk_in hJ
    refine va_iald hx hb hK hP 2 0 rfl rfl hin dX10_glowBehind_15 ?_
    refine jt_i hJ (fun x15 hJ => ?_)
    refine lv_goto (tgt := 28) hx hb dX10_glowBehind_16 (by decide) ?_
    exact B28  x15  H locs  hP hD hS _ (lv_sub hl [] rfl) hJ

def J_X10_foundBehind_b36 (t_now : Nat → Int32) (t_finds : Nat → Int32) (v1 : Int32) (s36_0 : Int32) : Option (Int32) :=
    some (s36_0)
def J_X10_foundBehind (t_now : Nat → Int32) (t_finds : Nat → Int32) (v1 : Int32) : Option (Int32) :=
    bnd1 (J_X10_of t_now v1 (1 : Int32)) fun x3 =>
    if x3 = (1 : Int32) then (
    J_X10_foundBehind_b36 t_now t_finds v1 (0 : Int32))
    else (
    bnd1 (J_X10_of t_now v1 (7 : Int32)) fun x20 =>
    nm (x20 >>> ((1 : Int32) &&& 31)) fun x24 =>
    chk v1 16 (
    nm (t_finds v1.toNatClampNeg) fun x30 =>
    nm (x24 ||| (x30 <<< ((x3 - (2 : Int32)) &&& 31))) fun x35 =>
    J_X10_foundBehind_b36 t_now t_finds v1 x35))
abbrev rmX10_foundBehind : Room := { frames := 1, cells := 0, slots := 0, locals := 22 }
set_option maxHeartbeats 4000000 in
set_option maxRecDepth 100000 in
theorem c_X10_foundBehind (l : Launch) (D : va_G) (cI cJ cC cL : ClassId) (q_t q_t_now q_t_tried q_t_thought q_t_kept q_t_saved q_t_finds q_t_reach q_t_steps q_t_glows q_t_lower q_t_upper q_t_line q_t_text q_t_told q_t_why q_t_more : Nat) (t_undos : Int32) (t_isSaved : Int32) (t_lined : Int32) (t_length : Int32) (t_at : Int32) (t_order : Int32) (t_whys : Int32) (t_answer : Int32) (t_now : Nat → Int32) (t_finds : Nat → Int32) (v1 : Int32) (r : Int32) (hJ : J_X10_foundBehind t_now t_finds v1 = some (r)) (sz : Nat) : Met l yX10_foundBehind wsX10_foundBehind rmX10_foundBehind (va_Pc [.ref q_t, .int v1] (jpre XT D (tyL cI cJ cC cL) [(q_t, .inr (8, [.ref q_t_now, .ref q_t_tried, .ref q_t_thought, .ref q_t_kept, .int t_undos, .ref q_t_saved, .int t_isSaved, .ref q_t_finds, .ref q_t_reach, .ref q_t_steps, .ref q_t_glows, .ref q_t_lower, .ref q_t_upper, .ref q_t_line, .int t_lined, .ref q_t_text, .int t_length, .int t_at, .int t_order, .ref q_t_told, .ref q_t_why, .ref q_t_more, .int t_whys, .int t_answer])), (q_t_now, .inl (cI, 133, .inl t_now)), (q_t_finds, .inl (cI, 16, .inl t_finds))] sz)) (va_Qi (fun r' (_ : Unit) => r' = r) (fun _ t => jpost D (tyL cI cJ cC cL) (va_A [(q_t, .inr (8, [.ref q_t_now, .ref q_t_tried, .ref q_t_thought, .ref q_t_kept, .int t_undos, .ref q_t_saved, .int t_isSaved, .ref q_t_finds, .ref q_t_reach, .ref q_t_steps, .ref q_t_glows, .ref q_t_lower, .ref q_t_upper, .ref q_t_line, .int t_lined, .ref q_t_text, .int t_length, .int t_at, .int t_order, .ref q_t_told, .ref q_t_why, .ref q_t_more, .int t_whys, .int t_answer])), (q_t_now, .inl (cI, 133, .inl t_now)), (q_t_finds, .inl (cI, 16, .inl t_finds))] sz) [(q_t, .inr (8, [.ref q_t_now, .ref q_t_tried, .ref q_t_thought, .ref q_t_kept, .int t_undos, .ref q_t_saved, .int t_isSaved, .ref q_t_finds, .ref q_t_reach, .ref q_t_steps, .ref q_t_glows, .ref q_t_lower, .ref q_t_upper, .ref q_t_line, .int t_lined, .ref q_t_text, .int t_length, .int t_at, .int t_order, .ref q_t_told, .ref q_t_why, .ref q_t_more, .int t_whys, .int t_answer])), (q_t_now, .inl (cI, 133, .inl t_now)), (q_t_finds, .inl (cI, 16, .inl t_finds))] t) (va_A [(q_t, .inr (8, [.ref q_t_now, .ref q_t_tried, .ref q_t_thought, .ref q_t_kept, .int t_undos, .ref q_t_saved, .int t_isSaved, .ref q_t_finds, .ref q_t_reach, .ref q_t_steps, .ref q_t_glows, .ref q_t_lower, .ref q_t_upper, .ref q_t_line, .int t_lined, .ref q_t_text, .int t_length, .int t_at, .int t_order, .ref q_t_told, .ref q_t_why, .ref q_t_more, .int t_whys, .int t_answer])), (q_t_now, .inl (cI, 133, .inl t_now)), (q_t_finds, .inl (cI, 16, .inl t_finds))] sz)) 0 0 (va_A [(q_t, .inr (8, [.ref q_t_now, .ref q_t_tried, .ref q_t_thought, .ref q_t_kept, .int t_undos, .ref q_t_saved, .int t_isSaved, .ref q_t_finds, .ref q_t_reach, .ref q_t_steps, .ref q_t_glows, .ref q_t_lower, .ref q_t_upper, .ref q_t_line, .int t_lined, .ref q_t_text, .int t_length, .int t_at, .int t_order, .ref q_t_told, .ref q_t_why, .ref q_t_more, .int t_whys, .int t_answer])), (q_t_now, .inl (cI, 133, .inl t_now)), (q_t_finds, .inl (cI, 16, .inl t_finds))] sz) := by
  refine jE_i (cc := cX10_foundBehind) (maxL := 3) (own := RX10) (ret := (some .int)) (lv0 := [(0, .ref q_t), (1, .int v1)]) (by decide) rfl rfl rfl (Nat.le_of_ble_eq_true rfl) rfl ?_
  intro p e s m args below meth c A Q ls hx hb hml hown hts hK hN hX hA hP hD hS hl hRet
  have hF : CallFix p m c cX10_foundBehind 3 s args wsX10_foundBehind RX10 := ⟨hx, hb, hml, hown, hts⟩
  have fl_25 := hts (.fieldLink RX10 25 "LanternLogicModel" "finds" "[I") (by decide +kernel)
  have hin_X10 : ∀ w ∈ u_ws RX10 TX10 24, w ∈ wsX10_foundBehind := by decide +kernel
  have B36 : ∀ (s36_0 : Int32) (H : Heap) (locs : List Loc), va_P D vwCl [(q_t, .inr (8, [.ref q_t_now, .ref q_t_tried, .ref q_t_thought, .ref q_t_kept, .int t_undos, .ref q_t_saved, .int t_isSaved, .ref q_t_finds, .ref q_t_reach, .ref q_t_steps, .ref q_t_glows, .ref q_t_lower, .ref q_t_upper, .ref q_t_line, .int t_lined, .ref q_t_text, .int t_length, .int t_at, .int t_order, .ref q_t_told, .ref q_t_why, .ref q_t_more, .int t_whys, .int t_answer])), (q_t_now, .inl (cI, 133, .inl t_now)), (q_t_finds, .inl (cI, 16, .inl t_finds))] H → va_D A [(q_t, .inr (8, [.ref q_t_now, .ref q_t_tried, .ref q_t_thought, .ref q_t_kept, .int t_undos, .ref q_t_saved, .int t_isSaved, .ref q_t_finds, .ref q_t_reach, .ref q_t_steps, .ref q_t_glows, .ref q_t_lower, .ref q_t_upper, .ref q_t_line, .int t_lined, .ref q_t_text, .int t_length, .int t_at, .int t_order, .ref q_t_told, .ref q_t_why, .ref q_t_more, .int t_whys, .int t_answer])), (q_t_now, .inl (cI, 133, .inl t_now)), (q_t_finds, .inl (cI, 16, .inl t_finds))] → va_S A s.heap H locs → ∀ ls : Array Slot, lv_has ls 3 [] → J_X10_foundBehind_b36  t_now t_finds v1 s36_0 = some (r) → W p l e rmX10_foundBehind s m args below meth c H locs 0 0 Q (F0 m 36 ls [.int s36_0]) := by
    intro s36_0 H locs hP hD hS ls hl hJ
    unfold J_X10_foundBehind_b36 at hJ
    have e0 := Option.some.inj hJ
    exact hRet hP hD hS e0 dX10_foundBehind_36
  unfold J_X10_foundBehind at hJ
  refine lv_aload_n hx hb dX10_foundBehind_0 rfl (lv_at hl 0 rfl) ?_
  refine lv_iload_n hx hb dX10_foundBehind_1 rfl (lv_at hl 1 rfl) ?_
  refine lv_iconst (v := (1 : Int32)) hx hb dX10_foundBehind_2 (by decide) ?_
  obtain ⟨x3, hc3, hJ⟩ := bnd1_some hJ
  refine jcV_i (C := RX10) (T := TX10) (N := 24) (ci := 8) (q0 := 0) (As := [.int v1, .int (1 : Int32)]) (rest := []) (isC := [0, 1]) (isR := [2]) (isB := [1, 2, 0]) (wr := [(q_t_finds, .inl (cI, 16, .inl t_finds))]) (ws2 := [(q_t, .inr (8, [.ref q_t_now, .ref q_t_tried, .ref q_t_thought, .ref q_t_kept, .int t_undos, .ref q_t_saved, .int t_isSaved, .ref q_t_finds, .ref q_t_reach, .ref q_t_steps, .ref q_t_glows, .ref q_t_lower, .ref q_t_upper, .ref q_t_line, .int t_lined, .ref q_t_text, .int t_length, .int t_at, .int t_order, .ref q_t_told, .ref q_t_why, .ref q_t_more, .int t_whys, .int t_answer])), (q_t_now, .inl (cI, 133, .inl t_now)), (q_t_finds, .inl (cI, 16, .inl t_finds))]) hF (c_X10_of l D cI cJ cC cL q_t q_t_now q_t_tried q_t_thought q_t_kept q_t_saved q_t_finds q_t_reach q_t_steps q_t_glows q_t_lower q_t_upper q_t_line q_t_text q_t_told q_t_why q_t_more t_undos t_isSaved t_lined t_length t_at t_order t_whys t_answer t_now v1 (1 : Int32) x3 hc3 s.heap.size) (cwV 2 hts gX10_foundBehind_X10_of rfl rfl rfl (by decide +kernel) ⟨Nat.le_of_ble_eq_true rfl, Nat.le_of_ble_eq_true rfl⟩) rfl hl rfl (Nat.le_of_ble_eq_true rfl) dX10_foundBehind_3 ⟨Nat.zero_le _, Nat.zero_le _⟩ hK hN KX_T trivial hP hD hS hA rfl rfl rfl rfl rfl rfl (by decide) rfl rfl (fun H locs hP hD hS => ?_)
  refine lv_istore_n (lv' := [(2, .int x3), (0, .ref q_t), (1, .int v1)]) hx hb dX10_foundBehind_6 rfl hl (by decide) rfl (fun ls hl => ?_)
  refine lv_iload_n hx hb dX10_foundBehind_7 rfl (lv_at hl 0 rfl) ?_
  refine lv_iconst (v := (1 : Int32)) hx hb dX10_foundBehind_8 (by decide) ?_
  refine jif_icmp_ne (tgt := 16) hx hb dX10_foundBehind_9 (by decide) hJ (fun hJ => ?_) (fun hJ => ?_)
  · refine lv_aload_n hx hb dX10_foundBehind_16 rfl (lv_at hl 1 rfl) ?_
    refine lv_iload_n hx hb dX10_foundBehind_17 rfl (lv_at hl 2 rfl) ?_
    refine lv_bipush (v := (7 : Int32)) hx hb dX10_foundBehind_18 (by decide) ?_
    obtain ⟨x20, hc20, hJ⟩ := bnd1_some hJ
    refine jcV_i (C := RX10) (T := TX10) (N := 24) (ci := 8) (q0 := 0) (As := [.int v1, .int (7 : Int32)]) (rest := []) (isC := [0, 1]) (isR := [2]) (isB := [1, 2, 0]) (wr := [(q_t_finds, .inl (cI, 16, .inl t_finds))]) (ws2 := [(q_t, .inr (8, [.ref q_t_now, .ref q_t_tried, .ref q_t_thought, .ref q_t_kept, .int t_undos, .ref q_t_saved, .int t_isSaved, .ref q_t_finds, .ref q_t_reach, .ref q_t_steps, .ref q_t_glows, .ref q_t_lower, .ref q_t_upper, .ref q_t_line, .int t_lined, .ref q_t_text, .int t_length, .int t_at, .int t_order, .ref q_t_told, .ref q_t_why, .ref q_t_more, .int t_whys, .int t_answer])), (q_t_now, .inl (cI, 133, .inl t_now)), (q_t_finds, .inl (cI, 16, .inl t_finds))]) hF (c_X10_of l D cI cJ cC cL q_t q_t_now q_t_tried q_t_thought q_t_kept q_t_saved q_t_finds q_t_reach q_t_steps q_t_glows q_t_lower q_t_upper q_t_line q_t_text q_t_told q_t_why q_t_more t_undos t_isSaved t_lined t_length t_at t_order t_whys t_answer t_now v1 (7 : Int32) x20 hc20 H.size) (cwV 2 hts gX10_foundBehind_X10_of rfl rfl rfl (by decide +kernel) ⟨Nat.le_of_ble_eq_true rfl, Nat.le_of_ble_eq_true rfl⟩) rfl hl rfl (Nat.le_of_ble_eq_true rfl) dX10_foundBehind_20 ⟨Nat.zero_le _, Nat.zero_le _⟩ hK hN KX_T trivial hP hD hS hA rfl rfl rfl rfl rfl rfl (by decide) rfl rfl (fun H locs hP hD hS => ?_)
    refine lv_iconst (v := (1 : Int32)) hx hb dX10_foundBehind_23 (by decide) ?_
    refine lv_ishr hx hb dX10_foundBehind_24 ?_
    refine jt_i hJ (fun x24 hJ => ?_)
    refine lv_aload_n hx hb dX10_foundBehind_25 rfl (lv_at hl 1 rfl) ?_
    refine va_get (ci := 8) (v := .ref q_t_finds) (C := RX10) (T := TX10) (N := 24) hx hb hts hin_X10 hown hK hP 0 rfl rfl 7 (by decide) fl_25 (fun _ h9 => h9) rfl dX10_foundBehind_26 ?_
    refine lv_iload_n hx hb dX10_foundBehind_29 rfl (lv_at hl 2 rfl) ?_
    obtain ⟨hin, hJ⟩ := chk_in hJ
    refine va_iald hx hb hK hP 2 0 rfl rfl hin dX10_foundBehind_30 ?_
    refine jt_i hJ (fun x30 hJ => ?_)
    refine lv_iload_n hx hb dX10_foundBehind_31 rfl (lv_at hl 0 rfl) ?_
    refine lv_iconst (v := (2 : Int32)) hx hb dX10_foundBehind_32 (by decide) ?_
    refine lv_isub hx hb dX10_foundBehind_33 ?_
    refine lv_ishl hx hb dX10_foundBehind_34 ?_
    refine lv_ior hx hb dX10_foundBehind_35 ?_
    refine jt_i hJ (fun x35 hJ => ?_)
    exact B36  x35  H locs  hP hD hS _ (lv_sub hl [] rfl) hJ
  · refine lv_iconst (v := (0 : Int32)) hx hb dX10_foundBehind_12 (by decide) ?_
    refine lv_goto (tgt := 36) hx hb dX10_foundBehind_13 (by decide) ?_
    exact B36  (0 : Int32)  H locs  hP hD hS _ (lv_sub hl [] rfl) hJ

def J_X10_isSettled_b53 (t_now : Nat → Int32) (t_finds : Nat → Int32) : Option (Int32 × (Nat → Int32)) :=
    chz (0 : Int32) (some ((0 : Int32), t_finds))
def J_X10_isSettled_b55 (k6 : (Nat → Int32) → Int32 → Option (Int32 × (Nat → Int32))) (t_now : Nat → Int32) (t_finds : Nat → Int32) (v1 : Int32) : Option (Int32 × (Nat → Int32)) :=
    nm (v1 + Int32.ofInt 1) fun x55 =>
    k6 t_finds x55
def J_X10_isSettled_L6 (t_now : Nat → Int32) : Nat → (Nat → Int32) → Int32 → Option (Int32 × (Nat → Int32))
  | 0, _, _ => none
  | nf + 1, t_finds, v1 =>
    chk (0 : Int32) 133 (
    nm (t_now (0 : Int32).toNatClampNeg) fun x12 =>
    if x12 ≤ v1 then (
    chz (1 : Int32) (some ((1 : Int32), t_finds)))
    else (
    bnd1 (J_X10_isSwitch t_now v1) fun x18 =>
    if x18 = 0 then (
    bnd1 (J_X10_glowBehind t_now t_finds v1) fun x26 =>
    bnd1 (J_X10_of t_now v1 (2 : Int32)) fun x32 =>
    if x26 = x32 then (
    bnd1 (J_X10_foundBehind t_now t_finds v1) fun x40 =>
    bnd1 (J_X10_of t_now v1 (7 : Int32)) fun x47 =>
    if x40 = x47 then (
    J_X10_isSettled_b55 (fun z0 z1 => J_X10_isSettled_L6 t_now nf z0 z1) t_now t_finds v1)
    else (
    J_X10_isSettled_b53 t_now t_finds))
    else (
    J_X10_isSettled_b53 t_now t_finds))
    else (
    J_X10_isSettled_b55 (fun z0 z1 => J_X10_isSettled_L6 t_now nf z0 z1) t_now t_finds v1)))
def J_X10_isSettled (t_now : Nat → Int32) (t_finds : Nat → Int32) : Option (Int32 × (Nat → Int32)) :=
    bnd1 (J_X10_allFind t_now t_finds) fun t_finds_1 =>
    J_X10_isSettled_L6 t_now FU t_finds_1 (0 : Int32)
abbrev rmX10_isSettled : Room := { frames := 5, cells := 0, slots := 0, locals := 111 }
set_option maxHeartbeats 4000000 in
set_option maxRecDepth 100000 in
theorem c_X10_isSettled (l : Launch) (D : va_G) (cI cJ cC cL : ClassId) (q_t q_t_now q_t_tried q_t_thought q_t_kept q_t_saved q_t_finds q_t_reach q_t_steps q_t_glows q_t_lower q_t_upper q_t_line q_t_text q_t_told q_t_why q_t_more : Nat) (t_undos : Int32) (t_isSaved : Int32) (t_lined : Int32) (t_length : Int32) (t_at : Int32) (t_order : Int32) (t_whys : Int32) (t_answer : Int32) (t_now : Nat → Int32) (t_finds : Nat → Int32) (r : Int32) (o_t_finds : Nat → Int32) (hJ : J_X10_isSettled t_now t_finds = some (r, o_t_finds)) (sz : Nat) : Met l yX10_isSettled wsX10_isSettled rmX10_isSettled (va_Pc [.ref q_t] (jpre XT D (tyL cI cJ cC cL) [(q_t, .inr (8, [.ref q_t_now, .ref q_t_tried, .ref q_t_thought, .ref q_t_kept, .int t_undos, .ref q_t_saved, .int t_isSaved, .ref q_t_finds, .ref q_t_reach, .ref q_t_steps, .ref q_t_glows, .ref q_t_lower, .ref q_t_upper, .ref q_t_line, .int t_lined, .ref q_t_text, .int t_length, .int t_at, .int t_order, .ref q_t_told, .ref q_t_why, .ref q_t_more, .int t_whys, .int t_answer])), (q_t_now, .inl (cI, 133, .inl t_now)), (q_t_finds, .inl (cI, 16, .inl t_finds))] sz)) (va_Qi (fun r' (_ : Unit) => r' = r) (fun _ t => jpost D (tyL cI cJ cC cL) (va_A [(q_t, .inr (8, [.ref q_t_now, .ref q_t_tried, .ref q_t_thought, .ref q_t_kept, .int t_undos, .ref q_t_saved, .int t_isSaved, .ref q_t_finds, .ref q_t_reach, .ref q_t_steps, .ref q_t_glows, .ref q_t_lower, .ref q_t_upper, .ref q_t_line, .int t_lined, .ref q_t_text, .int t_length, .int t_at, .int t_order, .ref q_t_told, .ref q_t_why, .ref q_t_more, .int t_whys, .int t_answer])), (q_t_now, .inl (cI, 133, .inl t_now)), (q_t_finds, .inl (cI, 16, .inl t_finds))] sz) [(q_t, .inr (8, [.ref q_t_now, .ref q_t_tried, .ref q_t_thought, .ref q_t_kept, .int t_undos, .ref q_t_saved, .int t_isSaved, .ref q_t_finds, .ref q_t_reach, .ref q_t_steps, .ref q_t_glows, .ref q_t_lower, .ref q_t_upper, .ref q_t_line, .int t_lined, .ref q_t_text, .int t_length, .int t_at, .int t_order, .ref q_t_told, .ref q_t_why, .ref q_t_more, .int t_whys, .int t_answer])), (q_t_now, .inl (cI, 133, .inl t_now)), (q_t_finds, .inl (cI, 16, .inl o_t_finds))] t) (va_A [(q_t, .inr (8, [.ref q_t_now, .ref q_t_tried, .ref q_t_thought, .ref q_t_kept, .int t_undos, .ref q_t_saved, .int t_isSaved, .ref q_t_finds, .ref q_t_reach, .ref q_t_steps, .ref q_t_glows, .ref q_t_lower, .ref q_t_upper, .ref q_t_line, .int t_lined, .ref q_t_text, .int t_length, .int t_at, .int t_order, .ref q_t_told, .ref q_t_why, .ref q_t_more, .int t_whys, .int t_answer])), (q_t_now, .inl (cI, 133, .inl t_now)), (q_t_finds, .inl (cI, 16, .inl t_finds))] sz)) 0 0 (va_A [(q_t, .inr (8, [.ref q_t_now, .ref q_t_tried, .ref q_t_thought, .ref q_t_kept, .int t_undos, .ref q_t_saved, .int t_isSaved, .ref q_t_finds, .ref q_t_reach, .ref q_t_steps, .ref q_t_glows, .ref q_t_lower, .ref q_t_upper, .ref q_t_line, .int t_lined, .ref q_t_text, .int t_length, .int t_at, .int t_order, .ref q_t_told, .ref q_t_why, .ref q_t_more, .int t_whys, .int t_answer])), (q_t_now, .inl (cI, 133, .inl t_now)), (q_t_finds, .inl (cI, 16, .inl t_finds))] sz) := by
  refine jE_z (cc := cX10_isSettled) (maxL := 2) (own := RX10) (ret := (some .boolean)) (lv0 := [(0, .ref q_t)]) (by decide) rfl rfl rfl (Nat.le_of_ble_eq_true rfl) rfl ?_
  intro p e s m args below meth c A Q ls hx hb hml hown hts hK hN hX hA hP hD hS hl hRet
  have hF : CallFix p m c cX10_isSettled 2 s args wsX10_isSettled RX10 := ⟨hx, hb, hml, hown, hts⟩
  have fl_9 := hts (.fieldLink RX10 9 "LanternLogicModel" "now" "[I") (by decide +kernel)
  have hin_X10 : ∀ w ∈ u_ws RX10 TX10 24, w ∈ wsX10_isSettled := by decide +kernel
  have B53 : ∀ (t_finds : Nat → Int32) (H : Heap) (locs : List Loc), va_P D vwCl [(q_t, .inr (8, [.ref q_t_now, .ref q_t_tried, .ref q_t_thought, .ref q_t_kept, .int t_undos, .ref q_t_saved, .int t_isSaved, .ref q_t_finds, .ref q_t_reach, .ref q_t_steps, .ref q_t_glows, .ref q_t_lower, .ref q_t_upper, .ref q_t_line, .int t_lined, .ref q_t_text, .int t_length, .int t_at, .int t_order, .ref q_t_told, .ref q_t_why, .ref q_t_more, .int t_whys, .int t_answer])), (q_t_now, .inl (cI, 133, .inl t_now)), (q_t_finds, .inl (cI, 16, .inl t_finds))] H → va_D A [(q_t, .inr (8, [.ref q_t_now, .ref q_t_tried, .ref q_t_thought, .ref q_t_kept, .int t_undos, .ref q_t_saved, .int t_isSaved, .ref q_t_finds, .ref q_t_reach, .ref q_t_steps, .ref q_t_glows, .ref q_t_lower, .ref q_t_upper, .ref q_t_line, .int t_lined, .ref q_t_text, .int t_length, .int t_at, .int t_order, .ref q_t_told, .ref q_t_why, .ref q_t_more, .int t_whys, .int t_answer])), (q_t_now, .inl (cI, 133, .inl t_now)), (q_t_finds, .inl (cI, 16, .inl t_finds))] → va_S A s.heap H locs → ∀ ls : Array Slot, lv_has ls 2 [] → J_X10_isSettled_b53  t_now t_finds = some (r, o_t_finds) → W p l e rmX10_isSettled s m args below meth c H locs 0 0 Q (F0 m 53 ls []) := by
    intro t_finds H locs hP hD hS ls hl hJ
    unfold J_X10_isSettled_b53 at hJ
    refine lv_iconst (v := (0 : Int32)) hx hb dX10_isSettled_53 (by decide) ?_
    obtain ⟨h01, hJ⟩ := chz_ok hJ
    have hJ := Option.some.inj hJ
    obtain ⟨e0, e1⟩ : ((0 : Int32)) = r ∧ (t_finds) = o_t_finds := ⟨congrArg (fun z => z.1) hJ, congrArg (fun z => z.2) hJ⟩
    exact hRet (by rw [← e1]; exact hP) (by rw [← e1]; exact hD) hS h01 e0 dX10_isSettled_54
  have B55 : ∀ (k6 : (Nat → Int32) → Int32 → Option (Int32 × (Nat → Int32))), (∀ (t_finds : Nat → Int32) (v1 : Int32) (H : Heap) (locs : List Loc), va_P D vwCl [(q_t, .inr (8, [.ref q_t_now, .ref q_t_tried, .ref q_t_thought, .ref q_t_kept, .int t_undos, .ref q_t_saved, .int t_isSaved, .ref q_t_finds, .ref q_t_reach, .ref q_t_steps, .ref q_t_glows, .ref q_t_lower, .ref q_t_upper, .ref q_t_line, .int t_lined, .ref q_t_text, .int t_length, .int t_at, .int t_order, .ref q_t_told, .ref q_t_why, .ref q_t_more, .int t_whys, .int t_answer])), (q_t_now, .inl (cI, 133, .inl t_now)), (q_t_finds, .inl (cI, 16, .inl t_finds))] H → va_D A [(q_t, .inr (8, [.ref q_t_now, .ref q_t_tried, .ref q_t_thought, .ref q_t_kept, .int t_undos, .ref q_t_saved, .int t_isSaved, .ref q_t_finds, .ref q_t_reach, .ref q_t_steps, .ref q_t_glows, .ref q_t_lower, .ref q_t_upper, .ref q_t_line, .int t_lined, .ref q_t_text, .int t_length, .int t_at, .int t_order, .ref q_t_told, .ref q_t_why, .ref q_t_more, .int t_whys, .int t_answer])), (q_t_now, .inl (cI, 133, .inl t_now)), (q_t_finds, .inl (cI, 16, .inl t_finds))] → va_S A s.heap H locs → ∀ ls : Array Slot, lv_has ls 2 [(0, .ref q_t), (1, .int v1)] → k6 t_finds v1 = some (r, o_t_finds) → W p l e rmX10_isSettled s m args below meth c H locs 0 0 Q (F0 m 6 ls [])) → ∀ (t_finds : Nat → Int32) (v1 : Int32) (H : Heap) (locs : List Loc), va_P D vwCl [(q_t, .inr (8, [.ref q_t_now, .ref q_t_tried, .ref q_t_thought, .ref q_t_kept, .int t_undos, .ref q_t_saved, .int t_isSaved, .ref q_t_finds, .ref q_t_reach, .ref q_t_steps, .ref q_t_glows, .ref q_t_lower, .ref q_t_upper, .ref q_t_line, .int t_lined, .ref q_t_text, .int t_length, .int t_at, .int t_order, .ref q_t_told, .ref q_t_why, .ref q_t_more, .int t_whys, .int t_answer])), (q_t_now, .inl (cI, 133, .inl t_now)), (q_t_finds, .inl (cI, 16, .inl t_finds))] H → va_D A [(q_t, .inr (8, [.ref q_t_now, .ref q_t_tried, .ref q_t_thought, .ref q_t_kept, .int t_undos, .ref q_t_saved, .int t_isSaved, .ref q_t_finds, .ref q_t_reach, .ref q_t_steps, .ref q_t_glows, .ref q_t_lower, .ref q_t_upper, .ref q_t_line, .int t_lined, .ref q_t_text, .int t_length, .int t_at, .int t_order, .ref q_t_told, .ref q_t_why, .ref q_t_more, .int t_whys, .int t_answer])), (q_t_now, .inl (cI, 133, .inl t_now)), (q_t_finds, .inl (cI, 16, .inl t_finds))] → va_S A s.heap H locs → ∀ ls : Array Slot, lv_has ls 2 [(0, .ref q_t), (1, .int v1)] → J_X10_isSettled_b55 k6 t_now t_finds v1 = some (r, o_t_finds) → W p l e rmX10_isSettled s m args below meth c H locs 0 0 Q (F0 m 55 ls []) := by
    intro k6 hk6 t_finds v1 H locs hP hD hS ls hl hJ
    unfold J_X10_isSettled_b55 at hJ
    refine jt_iinc hJ (fun x55 ex55 hJ => ?_)
    refine lv_iinc (v := x55) (lv' := [(1, .int x55), (0, .ref q_t)]) hx hb dX10_isSettled_55 hl (k := 1) rfl ex55 (by decide) rfl (fun ls hl => ?_)
    refine lv_goto (tgt := 6) hx hb dX10_isSettled_58 (by decide) ?_
    exact hk6 t_finds x55  H locs  hP hD hS _ (lv_sub hl [1, 0] rfl) hJ
  have L6 : ∀ (nf : Nat), ∀ (t_finds : Nat → Int32) (v1 : Int32) (H : Heap) (locs : List Loc), va_P D vwCl [(q_t, .inr (8, [.ref q_t_now, .ref q_t_tried, .ref q_t_thought, .ref q_t_kept, .int t_undos, .ref q_t_saved, .int t_isSaved, .ref q_t_finds, .ref q_t_reach, .ref q_t_steps, .ref q_t_glows, .ref q_t_lower, .ref q_t_upper, .ref q_t_line, .int t_lined, .ref q_t_text, .int t_length, .int t_at, .int t_order, .ref q_t_told, .ref q_t_why, .ref q_t_more, .int t_whys, .int t_answer])), (q_t_now, .inl (cI, 133, .inl t_now)), (q_t_finds, .inl (cI, 16, .inl t_finds))] H → va_D A [(q_t, .inr (8, [.ref q_t_now, .ref q_t_tried, .ref q_t_thought, .ref q_t_kept, .int t_undos, .ref q_t_saved, .int t_isSaved, .ref q_t_finds, .ref q_t_reach, .ref q_t_steps, .ref q_t_glows, .ref q_t_lower, .ref q_t_upper, .ref q_t_line, .int t_lined, .ref q_t_text, .int t_length, .int t_at, .int t_order, .ref q_t_told, .ref q_t_why, .ref q_t_more, .int t_whys, .int t_answer])), (q_t_now, .inl (cI, 133, .inl t_now)), (q_t_finds, .inl (cI, 16, .inl t_finds))] → va_S A s.heap H locs → ∀ ls : Array Slot, lv_has ls 2 [(0, .ref q_t), (1, .int v1)] → J_X10_isSettled_L6  t_now nf t_finds v1 = some (r, o_t_finds) → W p l e rmX10_isSettled s m args below meth c H locs 0 0 Q (F0 m 6 ls []) := by
    intro nf
    induction nf with
    | zero =>
      intro t_finds v1 H locs hP hD hS ls hl hJ
      rw [J_X10_isSettled_L6] at hJ
      cases hJ
    | succ nf ih =>
      intro t_finds v1 H locs hP hD hS ls hl hJ
      rw [J_X10_isSettled_L6] at hJ
      refine lv_iload_n hx hb dX10_isSettled_6 rfl (lv_at hl 1 rfl) ?_
      refine lv_aload_n hx hb dX10_isSettled_7 rfl (lv_at hl 0 rfl) ?_
      refine va_get (ci := 8) (v := .ref q_t_now) (C := RX10) (T := TX10) (N := 24) hx hb hts hin_X10 hown hK hP 0 rfl rfl 0 (by decide) fl_9 (fun _ h9 => h9) rfl dX10_isSettled_8 ?_
      refine lv_iconst (v := (0 : Int32)) hx hb dX10_isSettled_11 (by decide) ?_
      obtain ⟨hin, hJ⟩ := chk_in hJ
      refine va_iald hx hb hK hP 1 0 rfl rfl hin dX10_isSettled_12 ?_
      refine jt_i hJ (fun x12 hJ => ?_)
      refine jif_icmp_ge (tgt := 61) hx hb dX10_isSettled_13 (by decide) hJ (fun hJ => ?_) (fun hJ => ?_)
      · refine lv_iconst (v := (1 : Int32)) hx hb dX10_isSettled_61 (by decide) ?_
        obtain ⟨h01, hJ⟩ := chz_ok hJ
        have hJ := Option.some.inj hJ
        obtain ⟨e0, e1⟩ : ((1 : Int32)) = r ∧ (t_finds) = o_t_finds := ⟨congrArg (fun z => z.1) hJ, congrArg (fun z => z.2) hJ⟩
        exact hRet (by rw [← e1]; exact hP) (by rw [← e1]; exact hD) hS h01 e0 dX10_isSettled_62
      · refine lv_aload_n hx hb dX10_isSettled_16 rfl (lv_at hl 0 rfl) ?_
        refine lv_iload_n hx hb dX10_isSettled_17 rfl (lv_at hl 1 rfl) ?_
        obtain ⟨x18, hc18, hJ⟩ := bnd1_some hJ
        refine jcV_i (C := RX10) (T := TX10) (N := 24) (ci := 8) (q0 := 0) (As := [.int v1]) (rest := []) (isC := [0, 1]) (isR := [2]) (isB := [1, 2, 0]) (wr := [(q_t_finds, .inl (cI, 16, .inl t_finds))]) (ws2 := [(q_t, .inr (8, [.ref q_t_now, .ref q_t_tried, .ref q_t_thought, .ref q_t_kept, .int t_undos, .ref q_t_saved, .int t_isSaved, .ref q_t_finds, .ref q_t_reach, .ref q_t_steps, .ref q_t_glows, .ref q_t_lower, .ref q_t_upper, .ref q_t_line, .int t_lined, .ref q_t_text, .int t_length, .int t_at, .int t_order, .ref q_t_told, .ref q_t_why, .ref q_t_more, .int t_whys, .int t_answer])), (q_t_now, .inl (cI, 133, .inl t_now)), (q_t_finds, .inl (cI, 16, .inl t_finds))]) hF (c_X10_isSwitch l D cI cJ cC cL q_t q_t_now q_t_tried q_t_thought q_t_kept q_t_saved q_t_finds q_t_reach q_t_steps q_t_glows q_t_lower q_t_upper q_t_line q_t_text q_t_told q_t_why q_t_more t_undos t_isSaved t_lined t_length t_at t_order t_whys t_answer t_now v1 x18 hc18 H.size) (cwV 1 hts gX10_isSettled_X10_isSwitch rfl rfl rfl (by decide +kernel) ⟨Nat.le_of_ble_eq_true rfl, Nat.le_of_ble_eq_true rfl⟩) rfl hl rfl (Nat.le_of_ble_eq_true rfl) dX10_isSettled_18 ⟨Nat.zero_le _, Nat.zero_le _⟩ hK hN KX_T trivial hP hD hS hA rfl rfl rfl rfl rfl rfl (by decide) rfl rfl (fun H locs hP hD hS => ?_)
        refine jif_ne (tgt := 55) hx hb dX10_isSettled_21 (by decide) hJ (fun hJ => ?_) (fun hJ => ?_)
        · exact B55 (fun z0 z1 => J_X10_isSettled_L6 t_now nf z0 z1) ih t_finds v1  H locs  hP hD hS _ (lv_sub hl [0, 1] rfl) hJ
        · refine lv_aload_n hx hb dX10_isSettled_24 rfl (lv_at hl 0 rfl) ?_
          refine lv_iload_n hx hb dX10_isSettled_25 rfl (lv_at hl 1 rfl) ?_
          obtain ⟨x26, hc26, hJ⟩ := bnd1_some hJ
          refine jcV_i (C := RX10) (T := TX10) (N := 24) (ci := 8) (q0 := 0) (As := [.int v1]) (rest := []) (isC := [0, 1, 2]) (isR := []) (isB := [0, 1, 2]) (wr := []) (ws2 := [(q_t, .inr (8, [.ref q_t_now, .ref q_t_tried, .ref q_t_thought, .ref q_t_kept, .int t_undos, .ref q_t_saved, .int t_isSaved, .ref q_t_finds, .ref q_t_reach, .ref q_t_steps, .ref q_t_glows, .ref q_t_lower, .ref q_t_upper, .ref q_t_line, .int t_lined, .ref q_t_text, .int t_length, .int t_at, .int t_order, .ref q_t_told, .ref q_t_why, .ref q_t_more, .int t_whys, .int t_answer])), (q_t_now, .inl (cI, 133, .inl t_now)), (q_t_finds, .inl (cI, 16, .inl t_finds))]) hF (c_X10_glowBehind l D cI cJ cC cL q_t q_t_now q_t_tried q_t_thought q_t_kept q_t_saved q_t_finds q_t_reach q_t_steps q_t_glows q_t_lower q_t_upper q_t_line q_t_text q_t_told q_t_why q_t_more t_undos t_isSaved t_lined t_length t_at t_order t_whys t_answer t_now t_finds v1 x26 hc26 H.size) (cwV 1 hts gX10_isSettled_X10_glowBehind rfl rfl rfl (by decide +kernel) ⟨Nat.le_of_ble_eq_true rfl, Nat.le_of_ble_eq_true rfl⟩) rfl hl rfl (Nat.le_of_ble_eq_true rfl) dX10_isSettled_26 ⟨Nat.zero_le _, Nat.zero_le _⟩ hK hN KX_T trivial hP hD hS hA rfl rfl rfl rfl rfl rfl (by decide) rfl rfl (fun H locs hP hD hS => ?_)
          refine lv_aload_n hx hb dX10_isSettled_29 rfl (lv_at hl 0 rfl) ?_
          refine lv_iload_n hx hb dX10_isSettled_30 rfl (lv_at hl 1 rfl) ?_
          refine lv_iconst (v := (2 : Int32)) hx hb dX10_isSettled_31 (by decide) ?_
          obtain ⟨x32, hc32, hJ⟩ := bnd1_some hJ
          refine jcV_i (C := RX10) (T := TX10) (N := 24) (ci := 8) (q0 := 0) (As := [.int v1, .int (2 : Int32)]) (rest := [.int x26]) (isC := [0, 1]) (isR := [2]) (isB := [1, 2, 0]) (wr := [(q_t_finds, .inl (cI, 16, .inl t_finds))]) (ws2 := [(q_t, .inr (8, [.ref q_t_now, .ref q_t_tried, .ref q_t_thought, .ref q_t_kept, .int t_undos, .ref q_t_saved, .int t_isSaved, .ref q_t_finds, .ref q_t_reach, .ref q_t_steps, .ref q_t_glows, .ref q_t_lower, .ref q_t_upper, .ref q_t_line, .int t_lined, .ref q_t_text, .int t_length, .int t_at, .int t_order, .ref q_t_told, .ref q_t_why, .ref q_t_more, .int t_whys, .int t_answer])), (q_t_now, .inl (cI, 133, .inl t_now)), (q_t_finds, .inl (cI, 16, .inl t_finds))]) hF (c_X10_of l D cI cJ cC cL q_t q_t_now q_t_tried q_t_thought q_t_kept q_t_saved q_t_finds q_t_reach q_t_steps q_t_glows q_t_lower q_t_upper q_t_line q_t_text q_t_told q_t_why q_t_more t_undos t_isSaved t_lined t_length t_at t_order t_whys t_answer t_now v1 (2 : Int32) x32 hc32 H.size) (cwV 2 hts gX10_isSettled_X10_of rfl rfl rfl (by decide +kernel) ⟨Nat.le_of_ble_eq_true rfl, Nat.le_of_ble_eq_true rfl⟩) rfl hl rfl (Nat.le_of_ble_eq_true rfl) dX10_isSettled_32 ⟨Nat.zero_le _, Nat.zero_le _⟩ hK hN KX_T trivial hP hD hS hA rfl rfl rfl rfl rfl rfl (by decide) rfl rfl (fun H locs hP hD hS => ?_)
          refine jif_icmp_ne (tgt := 53) hx hb dX10_isSettled_35 (by decide) hJ (fun hJ => ?_) (fun hJ => ?_)
          · exact B53  t_finds  H locs  hP hD hS _ (lv_sub hl [] rfl) hJ
          · refine lv_aload_n hx hb dX10_isSettled_38 rfl (lv_at hl 0 rfl) ?_
            refine lv_iload_n hx hb dX10_isSettled_39 rfl (lv_at hl 1 rfl) ?_
            obtain ⟨x40, hc40, hJ⟩ := bnd1_some hJ
            refine jcV_i (C := RX10) (T := TX10) (N := 24) (ci := 8) (q0 := 0) (As := [.int v1]) (rest := []) (isC := [0, 1, 2]) (isR := []) (isB := [0, 1, 2]) (wr := []) (ws2 := [(q_t, .inr (8, [.ref q_t_now, .ref q_t_tried, .ref q_t_thought, .ref q_t_kept, .int t_undos, .ref q_t_saved, .int t_isSaved, .ref q_t_finds, .ref q_t_reach, .ref q_t_steps, .ref q_t_glows, .ref q_t_lower, .ref q_t_upper, .ref q_t_line, .int t_lined, .ref q_t_text, .int t_length, .int t_at, .int t_order, .ref q_t_told, .ref q_t_why, .ref q_t_more, .int t_whys, .int t_answer])), (q_t_now, .inl (cI, 133, .inl t_now)), (q_t_finds, .inl (cI, 16, .inl t_finds))]) hF (c_X10_foundBehind l D cI cJ cC cL q_t q_t_now q_t_tried q_t_thought q_t_kept q_t_saved q_t_finds q_t_reach q_t_steps q_t_glows q_t_lower q_t_upper q_t_line q_t_text q_t_told q_t_why q_t_more t_undos t_isSaved t_lined t_length t_at t_order t_whys t_answer t_now t_finds v1 x40 hc40 H.size) (cwV 1 hts gX10_isSettled_X10_foundBehind rfl rfl rfl (by decide +kernel) ⟨Nat.le_of_ble_eq_true rfl, Nat.le_of_ble_eq_true rfl⟩) rfl hl rfl (Nat.le_of_ble_eq_true rfl) dX10_isSettled_40 ⟨Nat.zero_le _, Nat.zero_le _⟩ hK hN KX_T trivial hP hD hS hA rfl rfl rfl rfl rfl rfl (by decide) rfl rfl (fun H locs hP hD hS => ?_)
            refine lv_aload_n hx hb dX10_isSettled_43 rfl (lv_at hl 0 rfl) ?_
            refine lv_iload_n hx hb dX10_isSettled_44 rfl (lv_at hl 1 rfl) ?_
            refine lv_bipush (v := (7 : Int32)) hx hb dX10_isSettled_45 (by decide) ?_
            obtain ⟨x47, hc47, hJ⟩ := bnd1_some hJ
            refine jcV_i (C := RX10) (T := TX10) (N := 24) (ci := 8) (q0 := 0) (As := [.int v1, .int (7 : Int32)]) (rest := [.int x40]) (isC := [0, 1]) (isR := [2]) (isB := [1, 2, 0]) (wr := [(q_t_finds, .inl (cI, 16, .inl t_finds))]) (ws2 := [(q_t, .inr (8, [.ref q_t_now, .ref q_t_tried, .ref q_t_thought, .ref q_t_kept, .int t_undos, .ref q_t_saved, .int t_isSaved, .ref q_t_finds, .ref q_t_reach, .ref q_t_steps, .ref q_t_glows, .ref q_t_lower, .ref q_t_upper, .ref q_t_line, .int t_lined, .ref q_t_text, .int t_length, .int t_at, .int t_order, .ref q_t_told, .ref q_t_why, .ref q_t_more, .int t_whys, .int t_answer])), (q_t_now, .inl (cI, 133, .inl t_now)), (q_t_finds, .inl (cI, 16, .inl t_finds))]) hF (c_X10_of l D cI cJ cC cL q_t q_t_now q_t_tried q_t_thought q_t_kept q_t_saved q_t_finds q_t_reach q_t_steps q_t_glows q_t_lower q_t_upper q_t_line q_t_text q_t_told q_t_why q_t_more t_undos t_isSaved t_lined t_length t_at t_order t_whys t_answer t_now v1 (7 : Int32) x47 hc47 H.size) (cwV 2 hts gX10_isSettled_X10_of rfl rfl rfl (by decide +kernel) ⟨Nat.le_of_ble_eq_true rfl, Nat.le_of_ble_eq_true rfl⟩) rfl hl rfl (Nat.le_of_ble_eq_true rfl) dX10_isSettled_47 ⟨Nat.zero_le _, Nat.zero_le _⟩ hK hN KX_T trivial hP hD hS hA rfl rfl rfl rfl rfl rfl (by decide) rfl rfl (fun H locs hP hD hS => ?_)
            refine jif_icmp_eq (tgt := 55) hx hb dX10_isSettled_50 (by decide) hJ (fun hJ => ?_) (fun hJ => ?_)
            · exact B55 (fun z0 z1 => J_X10_isSettled_L6 t_now nf z0 z1) ih t_finds v1  H locs  hP hD hS _ (lv_sub hl [0, 1] rfl) hJ
            · exact B53  t_finds  H locs  hP hD hS _ (lv_sub hl [] rfl) hJ
  unfold J_X10_isSettled at hJ
  refine lv_aload_n hx hb dX10_isSettled_0 rfl (lv_at hl 0 rfl) ?_
  obtain ⟨t_finds_1, hc1, hJ⟩ := bnd1_some hJ
  refine jcV_v (C := RX10) (T := TX10) (N := 24) (ci := 8) (q0 := 0) (As := []) (rest := []) (isC := [0, 1, 2]) (isR := []) (isB := [0, 1, 2]) (wr := []) (ws2 := [(q_t, .inr (8, [.ref q_t_now, .ref q_t_tried, .ref q_t_thought, .ref q_t_kept, .int t_undos, .ref q_t_saved, .int t_isSaved, .ref q_t_finds, .ref q_t_reach, .ref q_t_steps, .ref q_t_glows, .ref q_t_lower, .ref q_t_upper, .ref q_t_line, .int t_lined, .ref q_t_text, .int t_length, .int t_at, .int t_order, .ref q_t_told, .ref q_t_why, .ref q_t_more, .int t_whys, .int t_answer])), (q_t_now, .inl (cI, 133, .inl t_now)), (q_t_finds, .inl (cI, 16, .inl t_finds_1))]) hF (c_X10_allFind l D cI cJ cC cL q_t q_t_now q_t_tried q_t_thought q_t_kept q_t_saved q_t_finds q_t_reach q_t_steps q_t_glows q_t_lower q_t_upper q_t_line q_t_text q_t_told q_t_why q_t_more t_undos t_isSaved t_lined t_length t_at t_order t_whys t_answer t_now t_finds t_finds_1 hc1 s.heap.size) (cwV 0 hts gX10_isSettled_X10_allFind rfl rfl rfl (by decide +kernel) ⟨Nat.le_of_ble_eq_true rfl, Nat.le_of_ble_eq_true rfl⟩) rfl hl rfl (Nat.le_of_ble_eq_true rfl) dX10_isSettled_1 ⟨Nat.zero_le _, Nat.zero_le _⟩ hK hN KX_T trivial hP hD hS hA rfl rfl rfl rfl rfl rfl (by decide) rfl rfl (fun H locs hP hD hS => ?_)
  refine lv_iconst (v := (0 : Int32)) hx hb dX10_isSettled_4 (by decide) ?_
  refine lv_istore_n (lv' := [(1, .int (0 : Int32)), (0, .ref q_t)]) hx hb dX10_isSettled_5 rfl hl (by decide) rfl (fun ls hl => ?_)
  exact L6  FU t_finds_1 (0 : Int32)  H locs  hP hD hS _ (lv_sub hl [1, 0] rfl) hJ


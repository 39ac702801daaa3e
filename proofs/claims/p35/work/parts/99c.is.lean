/-! p35: reasons compared, a text read -/
theorem RS_n {nr i : Nat} (rn rd : Nat → Int32) (h : i < nr) : RS nr rn rd i 0 = rn i := by unfold RS; rw [if_neg (Nat.not_le.mpr h), if_pos rfl]
theorem RS_d {nr i : Nat} (rn rd : Nat → Int32) (h : i < nr) : RS nr rn rd i 1 = rd i := by unfold RS; rw [if_neg (Nat.not_le.mpr h), if_neg (by decide)]
theorem RS_e {nr i : Nat} (rn rd : Nat → Int32) (b : Nat) (h : nr ≤ i) : RS nr rn rd i b = -nI 15 := if_pos h
abbrev rmL_is : Room := { frames := 3, cells := 0, slots := 0, locals := 72 }
set_option maxHeartbeats 8000000 in
set_option maxRecDepth 100000 in
theorem c_L_is (l : Launch) (D : va_G) (cI cJ cC cL : ClassId) (q : Nat) (ax : Nat → Nat) (B : Nat) (g : Nat → Nat) (hy : Nat → Nat → Nat) (N : Nat) (u : Nat) (sb : Nat) (gs : Nat → Nat) (nT : Nat) (tg : Nat → Nat) (nL : Nat) (lc : Nat → Int32) (rn : Nat → Int32) (rd : Nat → Int32) (w1 w2 : Int32) (h1 : rn 0 = w1) (h2 : rd 0 = w2) (sz : Nat) : Met l yL_is wsL_is rmL_is (va_Pc [.ref q, .int w1, .int w2] (lpre XS D (tyL cI cJ cC cL) (fun A H => OBJ D cI cJ cC cL A q ax B g hy N u sb gs nT tg nL lc (1) rn rd H) ((OA q ax)) sz)) (va_Qi (S := Unit) (fun r _ => r = nI 1) (fun uu t => lpost D (tyL cI cJ cC cL) ((fun _ => (fun A H => OBJ D cI cJ cC cL A q ax B g hy N u sb gs nT tg nL lc (1) rn rd H)) uu) ((OA q ax) sz) t) ((OA q ax) sz)) 0 0 ((OA q ax) sz) := by
  refine lE_z (y := yL_is) (wy := wsL_is) (X := XS) (O := (fun A H => OBJ D cI cJ cC cL A q ax B g hy N u sb gs nT tg nL lc (1) rn rd H)) (σ := Unit) (O' := (fun _ => (fun A H => OBJ D cI cJ cC cL A q ax B g hy N u sb gs nT tg nL lc (1) rn rd H))) (F := (OA q ax)) (cc := cL_is) (maxL := 3) (own := RL) (ret := some .boolean) (lv0 := [(0, .ref q), (1, .int w1), (2, .int w2)]) (by decide) rfl rfl rfl (Nat.le_of_ble_eq_true rfl) rfl (fun z q h => Or.inr h) ?_
  intro p e s m args below meth c A Q ls hx hb hml hown hts hK hN hX hA hAe hO hS hl hRet
  have hF : CallFix p m c cL_is 3 s args wsL_is RL := ⟨hx, hb, hml, hown, hts⟩
  have hO : OBJ D cI cJ cC cL A q ax B g hy N u sb gs nT tg nL lc (1) rn rd s.heap := hO
  have hXS : XS A s s.heap := hX
  refine lv_aload_n hx hb dL_is_0 rfl (lv_at hl 0 rfl) ?_
  refine lv_iconst (v := nI 0) hx hb dL_is_1 (by decide) ?_
  refine lv_iconst (v := nI 0) hx hb dL_is_2 (by decide) ?_
  refine oc_reason hF (reason_q (OBJ_nr hO) (i := 0) (b := 0) (by omega) (by omega)) (cwV 2 hts gL_is_X9_reason rfl rfl rfl (by decide +kernel) ⟨Nat.le_of_ble_eq_true rfl, Nat.le_of_ble_eq_true rfl⟩) (Nat.le_of_ble_eq_true rfl) hl (Nat.le_of_ble_eq_true rfl) dL_is_3 ⟨Nat.zero_le _, Nat.zero_le _⟩ hK hN hXS hA hO hS (fun H locs hO hS hz hk => ?_)
  refine lv_iload_n hx hb dL_is_6 rfl (lv_at hl 1 rfl) ?_
  refine lv_icmp_ne (tgt := 46) hx hb dL_is_7 (by decide) (fun hq => absurd (show RS 1 rn rd 0 0 = _ from (RS_n rn rd (by omega)).trans h1) hq) (fun _ => ?_)
  refine lv_aload_n hx hb dL_is_10 rfl (lv_at hl 0 rfl) ?_
  refine lv_iconst (v := nI 0) hx hb dL_is_11 (by decide) ?_
  refine lv_iconst (v := nI 1) hx hb dL_is_12 (by decide) ?_
  refine oc_reason hF (reason_q (OBJ_nr hO) (i := 0) (b := 1) (by omega) (by omega)) (cwV 2 hts gL_is_X9_reason rfl rfl rfl (by decide +kernel) ⟨Nat.le_of_ble_eq_true rfl, Nat.le_of_ble_eq_true rfl⟩) (Nat.le_of_ble_eq_true rfl) hl (Nat.le_of_ble_eq_true rfl) dL_is_13 ⟨Nat.zero_le _, Nat.zero_le _⟩ hK hN hXS hA hO hS (fun H locs hO hS hz hk => ?_)
  refine lv_iload_n hx hb dL_is_16 rfl (lv_at hl 2 rfl) ?_
  refine lv_icmp_ne (tgt := 46) hx hb dL_is_17 (by decide) (fun hq => absurd (show RS 1 rn rd 0 1 = _ from (RS_d rn rd (by omega)).trans h2) hq) (fun _ => ?_)
  refine lv_aload_n hx hb dL_is_20 rfl (lv_at hl 0 rfl) ?_
  refine lv_iconst (v := nI 1) hx hb dL_is_21 (by decide) ?_
  refine lv_iconst (v := nI 0) hx hb dL_is_22 (by decide) ?_
  refine oc_reason hF (reason_q (OBJ_nr hO) (i := 1) (b := 0) (by omega) (by omega)) (cwV 2 hts gL_is_X9_reason rfl rfl rfl (by decide +kernel) ⟨Nat.le_of_ble_eq_true rfl, Nat.le_of_ble_eq_true rfl⟩) (Nat.le_of_ble_eq_true rfl) hl (Nat.le_of_ble_eq_true rfl) dL_is_23 ⟨Nat.zero_le _, Nat.zero_le _⟩ hK hN hXS hA hO hS (fun H locs hO hS hz hk => ?_)
  refine lv_bipush (v := -nI 15) hx hb dL_is_26 (by decide) ?_
  refine lv_icmp_ne (tgt := 46) hx hb dL_is_28 (by decide) (fun hq => absurd (RS_e rn rd 0 (by omega)) hq) (fun _ => ?_)
  refine lv_aload_n hx hb dL_is_31 rfl (lv_at hl 0 rfl) ?_
  refine lv_iconst (v := nI 1) hx hb dL_is_32 (by decide) ?_
  refine lv_iconst (v := nI 1) hx hb dL_is_33 (by decide) ?_
  refine oc_reason hF (reason_q (OBJ_nr hO) (i := 1) (b := 1) (by omega) (by omega)) (cwV 2 hts gL_is_X9_reason rfl rfl rfl (by decide +kernel) ⟨Nat.le_of_ble_eq_true rfl, Nat.le_of_ble_eq_true rfl⟩) (Nat.le_of_ble_eq_true rfl) hl (Nat.le_of_ble_eq_true rfl) dL_is_34 ⟨Nat.zero_le _, Nat.zero_le _⟩ hK hN hXS hA hO hS (fun H locs hO hS hz hk => ?_)
  refine lv_bipush (v := -nI 15) hx hb dL_is_37 (by decide) ?_
  refine lv_icmp_ne (tgt := 46) hx hb dL_is_39 (by decide) (fun hq => absurd (RS_e rn rd 1 (by omega)) hq) (fun _ => ?_)
  refine lv_iconst (v := nI 1) hx hb dL_is_42 (by decide) ?_
  refine lv_goto (tgt := 47) hx hb dL_is_43 (by decide) ?_
  exact hRet () (Or.inr rfl) rfl hO hS dL_is_47

abbrev rmL_is_ : Room := { frames := 3, cells := 0, slots := 0, locals := 72 }
set_option maxHeartbeats 8000000 in
set_option maxRecDepth 100000 in
theorem c_L_is_ (l : Launch) (D : va_G) (cI cJ cC cL : ClassId) (q : Nat) (ax : Nat → Nat) (B : Nat) (g : Nat → Nat) (hy : Nat → Nat → Nat) (N : Nat) (u : Nat) (sb : Nat) (gs : Nat → Nat) (nT : Nat) (tg : Nat → Nat) (nL : Nat) (lc : Nat → Int32) (rn : Nat → Int32) (rd : Nat → Int32) (w1 w2 w3 w4 : Int32) (h1 : rn 0 = w1) (h2 : rd 0 = w2) (h3 : rn 1 = w3) (h4 : rd 1 = w4) (sz : Nat) : Met l yL_is_ wsL_is_ rmL_is_ (va_Pc [.ref q, .int w1, .int w2, .int w3, .int w4] (lpre XS D (tyL cI cJ cC cL) (fun A H => OBJ D cI cJ cC cL A q ax B g hy N u sb gs nT tg nL lc (2) rn rd H) ((OA q ax)) sz)) (va_Qi (S := Unit) (fun r _ => r = nI 1) (fun uu t => lpost D (tyL cI cJ cC cL) ((fun _ => (fun A H => OBJ D cI cJ cC cL A q ax B g hy N u sb gs nT tg nL lc (2) rn rd H)) uu) ((OA q ax) sz) t) ((OA q ax) sz)) 0 0 ((OA q ax) sz) := by
  refine lE_z (y := yL_is_) (wy := wsL_is_) (X := XS) (O := (fun A H => OBJ D cI cJ cC cL A q ax B g hy N u sb gs nT tg nL lc (2) rn rd H)) (σ := Unit) (O' := (fun _ => (fun A H => OBJ D cI cJ cC cL A q ax B g hy N u sb gs nT tg nL lc (2) rn rd H))) (F := (OA q ax)) (cc := cL_is_) (maxL := 5) (own := RL) (ret := some .boolean) (lv0 := [(0, .ref q), (1, .int w1), (2, .int w2), (3, .int w3), (4, .int w4)]) (by decide) rfl rfl rfl (Nat.le_of_ble_eq_true rfl) rfl (fun z q h => Or.inr h) ?_
  intro p e s m args below meth c A Q ls hx hb hml hown hts hK hN hX hA hAe hO hS hl hRet
  have hF : CallFix p m c cL_is_ 5 s args wsL_is_ RL := ⟨hx, hb, hml, hown, hts⟩
  have hO : OBJ D cI cJ cC cL A q ax B g hy N u sb gs nT tg nL lc (2) rn rd s.heap := hO
  have hXS : XS A s s.heap := hX
  refine lv_aload_n hx hb dL_is__0 rfl (lv_at hl 0 rfl) ?_
  refine lv_iconst (v := nI 0) hx hb dL_is__1 (by decide) ?_
  refine lv_iconst (v := nI 0) hx hb dL_is__2 (by decide) ?_
  refine oc_reason hF (reason_q (OBJ_nr hO) (i := 0) (b := 0) (by omega) (by omega)) (cwV 2 hts gL_is__X9_reason rfl rfl rfl (by decide +kernel) ⟨Nat.le_of_ble_eq_true rfl, Nat.le_of_ble_eq_true rfl⟩) (Nat.le_of_ble_eq_true rfl) hl (Nat.le_of_ble_eq_true rfl) dL_is__3 ⟨Nat.zero_le _, Nat.zero_le _⟩ hK hN hXS hA hO hS (fun H locs hO hS hz hk => ?_)
  refine lv_iload_n hx hb dL_is__6 rfl (lv_at hl 1 rfl) ?_
  refine lv_icmp_ne (tgt := 56) hx hb dL_is__7 (by decide) (fun hq => absurd (show RS 2 rn rd 0 0 = _ from (RS_n rn rd (by omega)).trans h1) hq) (fun _ => ?_)
  refine lv_aload_n hx hb dL_is__10 rfl (lv_at hl 0 rfl) ?_
  refine lv_iconst (v := nI 0) hx hb dL_is__11 (by decide) ?_
  refine lv_iconst (v := nI 1) hx hb dL_is__12 (by decide) ?_
  refine oc_reason hF (reason_q (OBJ_nr hO) (i := 0) (b := 1) (by omega) (by omega)) (cwV 2 hts gL_is__X9_reason rfl rfl rfl (by decide +kernel) ⟨Nat.le_of_ble_eq_true rfl, Nat.le_of_ble_eq_true rfl⟩) (Nat.le_of_ble_eq_true rfl) hl (Nat.le_of_ble_eq_true rfl) dL_is__13 ⟨Nat.zero_le _, Nat.zero_le _⟩ hK hN hXS hA hO hS (fun H locs hO hS hz hk => ?_)
  refine lv_iload_n hx hb dL_is__16 rfl (lv_at hl 2 rfl) ?_
  refine lv_icmp_ne (tgt := 56) hx hb dL_is__17 (by decide) (fun hq => absurd (show RS 2 rn rd 0 1 = _ from (RS_d rn rd (by omega)).trans h2) hq) (fun _ => ?_)
  refine lv_aload_n hx hb dL_is__20 rfl (lv_at hl 0 rfl) ?_
  refine lv_iconst (v := nI 1) hx hb dL_is__21 (by decide) ?_
  refine lv_iconst (v := nI 0) hx hb dL_is__22 (by decide) ?_
  refine oc_reason hF (reason_q (OBJ_nr hO) (i := 1) (b := 0) (by omega) (by omega)) (cwV 2 hts gL_is__X9_reason rfl rfl rfl (by decide +kernel) ⟨Nat.le_of_ble_eq_true rfl, Nat.le_of_ble_eq_true rfl⟩) (Nat.le_of_ble_eq_true rfl) hl (Nat.le_of_ble_eq_true rfl) dL_is__23 ⟨Nat.zero_le _, Nat.zero_le _⟩ hK hN hXS hA hO hS (fun H locs hO hS hz hk => ?_)
  refine lv_iload_n hx hb dL_is__26 rfl (lv_at hl 3 rfl) ?_
  refine lv_icmp_ne (tgt := 56) hx hb dL_is__27 (by decide) (fun hq => absurd (show RS 2 rn rd 1 0 = _ from (RS_n rn rd (by omega)).trans h3) hq) (fun _ => ?_)
  refine lv_aload_n hx hb dL_is__30 rfl (lv_at hl 0 rfl) ?_
  refine lv_iconst (v := nI 1) hx hb dL_is__31 (by decide) ?_
  refine lv_iconst (v := nI 1) hx hb dL_is__32 (by decide) ?_
  refine oc_reason hF (reason_q (OBJ_nr hO) (i := 1) (b := 1) (by omega) (by omega)) (cwV 2 hts gL_is__X9_reason rfl rfl rfl (by decide +kernel) ⟨Nat.le_of_ble_eq_true rfl, Nat.le_of_ble_eq_true rfl⟩) (Nat.le_of_ble_eq_true rfl) hl (Nat.le_of_ble_eq_true rfl) dL_is__33 ⟨Nat.zero_le _, Nat.zero_le _⟩ hK hN hXS hA hO hS (fun H locs hO hS hz hk => ?_)
  refine lv_iload hx hb dL_is__36 (lv_at hl 4 rfl) ?_
  refine lv_icmp_ne (tgt := 56) hx hb dL_is__38 (by decide) (fun hq => absurd (show RS 2 rn rd 1 1 = _ from (RS_d rn rd (by omega)).trans h4) hq) (fun _ => ?_)
  refine lv_aload_n hx hb dL_is__41 rfl (lv_at hl 0 rfl) ?_
  refine lv_iconst (v := nI 2) hx hb dL_is__42 (by decide) ?_
  refine lv_iconst (v := nI 0) hx hb dL_is__43 (by decide) ?_
  refine oc_reason hF (reason_q (OBJ_nr hO) (i := 2) (b := 0) (by omega) (by omega)) (cwV 2 hts gL_is__X9_reason rfl rfl rfl (by decide +kernel) ⟨Nat.le_of_ble_eq_true rfl, Nat.le_of_ble_eq_true rfl⟩) (Nat.le_of_ble_eq_true rfl) hl (Nat.le_of_ble_eq_true rfl) dL_is__44 ⟨Nat.zero_le _, Nat.zero_le _⟩ hK hN hXS hA hO hS (fun H locs hO hS hz hk => ?_)
  refine lv_bipush (v := -nI 15) hx hb dL_is__47 (by decide) ?_
  refine lv_icmp_ne (tgt := 56) hx hb dL_is__49 (by decide) (fun hq => absurd (RS_e rn rd 0 (by omega)) hq) (fun _ => ?_)
  refine lv_iconst (v := nI 1) hx hb dL_is__52 (by decide) ?_
  refine lv_goto (tgt := 57) hx hb dL_is__53 (by decide) ?_
  exact hRet () (Or.inr rfl) rfl hO hS dL_is__57

abbrev rmL_reads : Room := { frames := 9, cells := 0, slots := 0, locals := 198 }
set_option maxHeartbeats 8000000 in
set_option maxRecDepth 100000 in
theorem c_L_reads (l : Launch) (D : va_G) (cI cJ cC cL : ClassId) (q : Nat) (ax : Nat → Nat) (B : Nat) (g : Nat → Nat) (hy : Nat → Nat → Nat) (N u0 : Nat) (sb : Nat) (gs : Nat → Nat) (tg : Nat → Nat) (nL : Nat) (lc : Nat → Int32) (nr : Nat) (rn : Nat → Int32) (rd : Nat → Int32) (a : Nat) (ws : List Nat) (hw : ws.length ≤ 60) (hcs : ∀ i, i < ws.length → 32 ≤ ws.getD i 0 ∧ ws.getD i 0 ≤ 126) {P : Int32 → (Nat → Nat) → Nat → (Nat → Int32) → (Nat → Int32) → Prop} (hin : IN_run P g hy N u0 B nr rn rd ws.length (fun i => ws.getD i 0)) (sz : Nat) : Met l yL_reads wsL_reads rmL_reads (va_Pc [.ref q, .ref a] (lpre (fun A U H => XS A U H ∧ isStr a (ws.map nI) A U H) D (tyL cI cJ cC cL) (fun A H => OBJ D cI cJ cC cL A q ax B g hy N u0 sb gs (0) tg nL lc nr rn rd H) ((OA q ax)) sz)) (va_Qi (S := ((Nat → Nat) × (Nat → Nat → Nat) × Nat × Nat × Nat × (Nat → Int32) × (Nat → Int32))) (fun r u => ((¬ r < 0 ∧ u.2.1 = updh hy N g ∧ u.2.2.1 = N + 1 ∧ u.2.2.2.1 = u8 u0) ∨ (r < 0 ∧ u.1 = g ∧ u.2.1 = hy ∧ u.2.2.1 = N ∧ u.2.2.2.1 = u0)) ∧ P r u.1 u.2.2.2.2.1 u.2.2.2.2.2.1 u.2.2.2.2.2.2) (fun uu t => lpost D (tyL cI cJ cC cL) ((fun (u : ((Nat → Nat) × (Nat → Nat → Nat) × Nat × Nat × Nat × (Nat → Int32) × (Nat → Int32))) A H => OBJ D cI cJ cC cL A q ax (B + 100000) (u.1) (u.2.1) (u.2.2.1) (u.2.2.2.1) sb gs (0) tg nL lc (u.2.2.2.2.1) (u.2.2.2.2.2.1) (u.2.2.2.2.2.2) H) uu) ((OA q ax) sz) t) ((OA q ax) sz)) 0 0 ((OA q ax) sz) := by
  refine lE_i (y := yL_reads) (wy := wsL_reads) (X := (fun A U H => XS A U H ∧ isStr a (ws.map nI) A U H)) (O := (fun A H => OBJ D cI cJ cC cL A q ax B g hy N u0 sb gs (0) tg nL lc nr rn rd H)) (σ := ((Nat → Nat) × (Nat → Nat → Nat) × Nat × Nat × Nat × (Nat → Int32) × (Nat → Int32))) (O' := (fun (u : ((Nat → Nat) × (Nat → Nat → Nat) × Nat × Nat × Nat × (Nat → Int32) × (Nat → Int32))) A H => OBJ D cI cJ cC cL A q ax (B + 100000) (u.1) (u.2.1) (u.2.2.1) (u.2.2.2.1) sb gs (0) tg nL lc (u.2.2.2.2.1) (u.2.2.2.2.2.1) (u.2.2.2.2.2.2) H)) (F := (OA q ax)) (cc := cL_reads) (maxL := 3) (own := RL) (ret := some .int) (lv0 := [(0, .ref q), (1, .ref a)]) (by decide) rfl rfl rfl (Nat.le_of_ble_eq_true rfl) rfl (fun z q h => Or.inr h) ?_
  intro p e s m args below meth c A Q ls hx hb hml hown hts hK hN hX hA hAe hO hS hl hRet
  have hF : CallFix p m c cL_reads 3 s args wsL_reads RL := ⟨hx, hb, hml, hown, hts⟩
  have hO : OBJ D cI cJ cC cL A q ax B g hy N u0 sb gs (0) tg nL lc nr rn rd s.heap := hO
  have hXS : XS A s s.heap := hX.1
  have L2 : ∀ (d i : Nat) (tgc : Nat → Nat) (H : Heap) (locs : List Loc) (ls : Array Slot), i + d = ws.length → (∀ j, j < i → tgc j = ws.getD j 0) → OBJ D cI cJ cC cL A q ax B g hy N u0 sb gs i tgc nL lc nr rn rd H → va_S A s.heap H locs → lv_has ls 3 [(0, .ref q), (1, .ref a), (2, .int (nI i))] → W p l e rmL_reads s m args below meth c H locs 0 0 Q (F0 m 2 ls []) := by
    intro d
    induction d with
    | zero =>
      intro i tgc H locs ls hid ht hO hS hl
      refine lv_iload_n hx hb dL_reads_2 rfl (lv_at hl 2 rfl) ?_
      refine lv_aload_n hx hb dL_reads_3 rfl (lv_at hl 1 rfl) ?_
      refine jpR_i (C := RJ0) (As := []) (rest := [.int (nI i)]) hF (c_J0_length_8abf5 l D cI cJ cC cL a (ws.map nI) (nI ws.length) (str_len (by omega)) _) (cwV 0 hts gL_reads_J0_length_8abf5 rfl rfl rfl (by decide +kernel) ⟨Nat.le_of_ble_eq_true rfl, Nat.le_of_ble_eq_true rfl⟩) rfl hl rfl (Nat.le_of_ble_eq_true rfl) dL_reads_4 ⟨Nat.zero_le _, Nat.zero_le _⟩ hK hN KX_XP (X_at (X := XP a (ws.map nI)) KX_XP ⟨hX.1.1, hX.2⟩ hS (fun q h => hA q (Nat.le_trans hS.1 (free0 h)))) hS hA (str_recv hX.2 hS) (fun H locs hS hz hk => ?_)
      have hO := OBJ_keptO hO hk
      refine lv_icmp_ge (tgt := 35) hx hb dL_reads_7 (by decide) (fun _ => ?_) (fun hq => absurd (nI_le (by omega) (by omega)) hq)
      have hO := OBJ_tg hO (tg2 := fun i => ws.getD i 0) (fun j hj => ht j hj)
      obtain rfl : i = ws.length := by omega
      refine lv_aload_n hx hb dL_reads_35 rfl (lv_at hl 0 rfl) ?_
      refine oc_run hF hin (cwV 0 hts gL_reads_X9_run rfl rfl rfl (by decide +kernel) ⟨Nat.le_of_ble_eq_true rfl, Nat.le_of_ble_eq_true rfl⟩) (Nat.le_of_ble_eq_true rfl) hl (Nat.le_of_ble_eq_true rfl) dL_reads_36 ⟨Nat.zero_le _, Nat.zero_le _⟩ hK hN hXS hA hO hS (fun g' hl' N' u' n' rn' rd' x H locs hO hS hz hk hch hp => ?_)
      exact hRet (g', hl', N', u', n', rn', rd') ⟨hch, hp⟩ (OBJ_tg hO (fun i hi => absurd hi (Nat.not_lt_zero i))) hS dL_reads_39
    | succ d ih =>
      intro i tgc H locs ls hid ht hO hS hl
      have hi : i < ws.length := by omega
      have hci := hcs i hi
      refine lv_iload_n hx hb dL_reads_2 rfl (lv_at hl 2 rfl) ?_
      refine lv_aload_n hx hb dL_reads_3 rfl (lv_at hl 1 rfl) ?_
      refine jpR_i (C := RJ0) (As := []) (rest := [.int (nI i)]) hF (c_J0_length_8abf5 l D cI cJ cC cL a (ws.map nI) (nI ws.length) (str_len (by omega)) _) (cwV 0 hts gL_reads_J0_length_8abf5 rfl rfl rfl (by decide +kernel) ⟨Nat.le_of_ble_eq_true rfl, Nat.le_of_ble_eq_true rfl⟩) rfl hl rfl (Nat.le_of_ble_eq_true rfl) dL_reads_4 ⟨Nat.zero_le _, Nat.zero_le _⟩ hK hN KX_XP (X_at (X := XP a (ws.map nI)) KX_XP ⟨hX.1.1, hX.2⟩ hS (fun q h => hA q (Nat.le_trans hS.1 (free0 h)))) hS hA (str_recv hX.2 hS) (fun H locs hS hz hk => ?_)
      have hO := OBJ_keptO hO hk
      refine lv_icmp_ge (tgt := 35) hx hb dL_reads_7 (by decide) (fun hq => absurd hq (nI_ge (by omega) (by omega))) (fun _ => ?_)
      refine lv_aload_n hx hb dL_reads_10 rfl (lv_at hl 0 rfl) ?_
      refine lv_aload_n hx hb dL_reads_11 rfl (lv_at hl 1 rfl) ?_
      refine lv_iload_n hx hb dL_reads_12 rfl (lv_at hl 2 rfl) ?_
      refine jpR_i (C := RJ0) (As := [.int (nI i)]) (rest := [.ref q]) hF (c_J0_charAt_5068e l D cI cJ cC cL a (ws.map nI) (nI i) (nI (ws.getD i 0)) (str_at (by omega) hi (by omega)) _) (cwV 1 hts gL_reads_J0_charAt_5068e rfl rfl rfl (by decide +kernel) ⟨Nat.le_of_ble_eq_true rfl, Nat.le_of_ble_eq_true rfl⟩) rfl hl rfl (Nat.le_of_ble_eq_true rfl) dL_reads_13 ⟨Nat.zero_le _, Nat.zero_le _⟩ hK hN KX_XP (X_at (X := XP a (ws.map nI)) KX_XP ⟨hX.1.1, hX.2⟩ hS (fun q h => hA q (Nat.le_trans hS.1 (free0 h)))) hS hA (str_recv hX.2 hS) (fun H locs hS hz hk => ?_)
      have hO := OBJ_keptO hO hk
      refine oc_append hF (x := nI (i + 1)) (nT' := i + 1) (tg' := updn tgc i (ws.getD i 0)) (fun sg hT => ⟨_, (append_ok hT (by omega) (by omega) (by omega)).1, (append_ok hT (by omega) (by omega) (by omega)).2⟩) (cwV 1 hts gL_reads_X9_append rfl rfl rfl (by decide +kernel) ⟨Nat.le_of_ble_eq_true rfl, Nat.le_of_ble_eq_true rfl⟩) (Nat.le_of_ble_eq_true rfl) hl (Nat.le_of_ble_eq_true rfl) dL_reads_16 ⟨Nat.zero_le _, Nat.zero_le _⟩ hK hN hXS hA hO hS (fun H locs hO hS hz hk => ?_)
      refine lv_iload_n hx hb dL_reads_19 rfl (lv_at hl 2 rfl) ?_
      refine lv_iconst (v := nI 1) hx hb dL_reads_20 (by decide) ?_
      refine lv_iadd hx hb dL_reads_21 ?_
      refine lv_icmp_eq (tgt := 29) hx hb dL_reads_22 (by decide) (fun _ => ?_) (fun hq => absurd (show nI (i + 1) = nI i + nI 1 from (nI_add i 1).symm) hq)
      refine lv_iinc (v := nI (i + 1)) (lv' := [(2, .int (nI (i + 1))), (0, .ref q), (1, .ref a)]) hx hb dL_reads_29 hl (k := 2) rfl (by rw [oi_1, nI_add]) (by decide) rfl (fun ls hl => ?_)
      refine lv_goto (tgt := 2) hx hb dL_reads_32 (by decide) ?_
      exact ih (i + 1) _ H locs _ (by omega) (fun j hj => by
        unfold updn
        by_cases e : j = i
        · rw [if_pos e, e]
        · rw [if_neg e]; exact ht j (by omega)) hO hS (lv_sub hl [1, 2, 0] rfl)
  refine lv_iconst (v := nI 0) hx hb dL_reads_0 (by decide) ?_
  refine lv_istore_n (lv' := [(2, .int (nI 0)), (0, .ref q), (1, .ref a)]) hx hb dL_reads_1 rfl hl (by decide) rfl (fun ls hl => ?_)
  exact L2 ws.length 0 tg _ _ _ (by omega) (fun j hj => absurd hj (Nat.not_lt_zero j)) hO hS (lv_sub hl [1, 2, 0] rfl)


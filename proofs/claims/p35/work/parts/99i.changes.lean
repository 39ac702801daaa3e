/-! p35: changes -/
abbrev rmL_changes : Room := { frames := 26, cells := 8, slots := 80, locals := 683 }
set_option maxHeartbeats 8000000 in
set_option maxRecDepth 100000 in
theorem c_L_changes (l : Launch) (D : va_G) (cI cJ cC cL : ClassId) (q : Nat) (ax : Nat → Nat) (B : Nat) (g : Nat → Nat) (hy : Nat → Nat → Nat) (N u0 : Nat) (sb : Nat) (gs : Nat → Nat) (tg : Nat → Nat) (nL : Nat) (lc : Nat → Int32) (nr : Nat) (rn : Nat → Int32) (rd : Nat → Int32) (v : Int32) (sz : Nat) : Met l yL_changes wsL_changes rmL_changes (va_Pc [.ref q, .int v] (lpre (fun A U H => XS A U H ∧ XN A U H ∧ XCl A U H) D (tyL cI cJ cC cL) (fun A H => OBJ D cI cJ cC cL A q ax B g hy N u0 sb gs (0) tg nL lc nr rn rd H) ((OA q ax)) sz)) (va_Qi (S := ((Nat → Nat) × (Nat → Nat → Nat) × Nat × Nat × Nat × (Nat → Int32) × (Nat → Int32))) (fun r u => ((r = nI 1 ∧ u.2.1 = updh hy N g ∧ u.2.2.1 = N + 1 ∧ u.2.2.2.1 = u8 u0) ∨ (r = nI 0 ∧ u.1 = g ∧ u.2.1 = hy ∧ u.2.2.1 = N ∧ u.2.2.2.1 = u0))) (fun uu t => lpost D (tyL cI cJ cC cL) ((fun (u : ((Nat → Nat) × (Nat → Nat → Nat) × Nat × Nat × Nat × (Nat → Int32) × (Nat → Int32))) A H => OBJ D cI cJ cC cL A q ax (B + 100000) (u.1) (u.2.1) (u.2.2.1) (u.2.2.2.1) sb gs (0) tg nL lc (u.2.2.2.2.1) (u.2.2.2.2.2.1) (u.2.2.2.2.2.2) H) uu) ((OA q ax) sz) t) ((OA q ax) sz)) 8 80 ((OA q ax) sz) := by
  refine lE_z (y := yL_changes) (wy := wsL_changes) (X := (fun A U H => XS A U H ∧ XN A U H ∧ XCl A U H)) (O := (fun A H => OBJ D cI cJ cC cL A q ax B g hy N u0 sb gs (0) tg nL lc nr rn rd H)) (σ := ((Nat → Nat) × (Nat → Nat → Nat) × Nat × Nat × Nat × (Nat → Int32) × (Nat → Int32))) (O' := (fun (u : ((Nat → Nat) × (Nat → Nat → Nat) × Nat × Nat × Nat × (Nat → Int32) × (Nat → Int32))) A H => OBJ D cI cJ cC cL A q ax (B + 100000) (u.1) (u.2.1) (u.2.2.1) (u.2.2.2.1) sb gs (0) tg nL lc (u.2.2.2.2.1) (u.2.2.2.2.2.1) (u.2.2.2.2.2.2) H)) (F := (OA q ax)) (cc := cL_changes) (maxL := 4) (own := RL) (ret := some .boolean) (lv0 := [(0, .ref q), (1, .int v)]) (by decide) rfl rfl rfl (Nat.le_of_ble_eq_true rfl) rfl (fun z q h => Or.inr h) ?_
  intro p e s m args below meth c A Q ls hx hb hml hown hts hK hN hX hA hAe hO hS hl hRet
  have hF : CallFix p m c cL_changes 4 s args wsL_changes RL := ⟨hx, hb, hml, hown, hts⟩
  have hO : OBJ D cI cJ cC cL A q ax B g hy N u0 sb gs (0) tg nL lc nr rn rd s.heap := hO
  have hXS : XS A s s.heap := hX.1
  have hin_J0 : ∀ w ∈ u_ws RJ0 TJ0 4, w ∈ wsL_changes := by decide +kernel
  have hin_J4 : ∀ w ∈ u_ws RJ4 TJ4 4, w ∈ wsL_changes := by decide +kernel
  have hg16 := (OBJ_G hO).1.1
  refine lv_iload_n hx hb dL_changes_0 rfl (lv_at hl 1 rfl) ?_
  refine lv_iconst (v := nI 4) hx hb dL_changes_1 (by decide) ?_
  refine lv_ishr hx hb dL_changes_2 ?_
  refine lv_aload_n hx hb dL_changes_3 rfl (lv_at hl 0 rfl) ?_
  refine lv_iconst (v := nI 1) hx hb dL_changes_4 (by decide) ?_
  refine oc_accountS hF (by decide) (by decide) (cwV 1 hts gL_changes_X9_account rfl rfl rfl (by decide +kernel) ⟨Nat.le_of_ble_eq_true rfl, Nat.le_of_ble_eq_true rfl⟩) (Nat.le_of_ble_eq_true rfl) hl (Nat.le_of_ble_eq_true rfl) dL_changes_5 ⟨Nat.le_of_ble_eq_true rfl, Nat.le_of_ble_eq_true rfl⟩ hK hN hXS hA hO hS (fun H locs hO hS hz hk => ?_)
  rw [qe_acc1 (OBJ_G hO) (OBJ_QE hO)]
  refine lv_iconst (v := nI 1) hx hb dL_changes_8 (by decide) ?_
  refine lv_iadd hx hb dL_changes_9 ?_
  rw [nI_add]
  refine lc_i (X := XT) (O := oT) (O' := (fun _ => oT)) (F := fT0) (As := [.int (v >>> ((nI 4) &&& 31)), .int (nI (g 0 + 1))]) (rest := []) hF (c_L_some l D cI cJ cC cL (v >>> ((nI 4) &&& 31)) (nI (g 0 + 1)) _ (nI_ne0 (by omega) (by omega))) (va_cwS 2 hts gL_changes_L_some rfl rfl rfl (by decide +kernel) ⟨Nat.le_of_ble_eq_true rfl, Nat.le_of_ble_eq_true rfl⟩) rfl hl rfl (Nat.le_of_ble_eq_true rfl) dL_changes_10 ⟨Nat.le_of_ble_eq_true rfl, Nat.le_of_ble_eq_true rfl⟩ hK hN (KX_T) (fun _ _ => trivial) trivial hS ((fun q h => hA q (Nat.le_trans hS.1 h))) (fun r u9 H locs hr _ hS hz hk => ?_)
  subst hr
  have hO := OBJ_keptO hO (fun z h => hk z h (Nat.not_le.mpr h))
  obtain ⟨j10, hj10, ej10⟩ := smv_of (v := (v >>> ((nI 4) &&& 31))) (n := (nI (g 0 + 1))) (k := g 0 + 1) (by omega) (by omega) rfl
  rw [ej10]
  refine lv_istore_n (lv' := [(2, .int (nI j10)), (0, .ref q), (1, .int v)]) hx hb dL_changes_13 rfl hl (by decide) rfl (fun ls hl => ?_)
  refine lv_iload_n hx hb dL_changes_14 rfl (lv_at hl 2 rfl) ?_
  refine lv_bipush (v := nI 7) hx hb dL_changes_15 (by decide) ?_
  refine lv_ishr hx hb dL_changes_17 ?_
  refine lv_iconst (v := nI 4) hx hb dL_changes_18 (by decide) ?_
  refine lc_i (X := XT) (O := oT) (O' := (fun _ => oT)) (F := fT0) (As := [.int (v >>> ((nI 7) &&& 31)), .int (nI 4)]) (rest := []) hF (c_L_some l D cI cJ cC cL (v >>> ((nI 7) &&& 31)) (nI 4) _ (by decide)) (va_cwS 2 hts gL_changes_L_some rfl rfl rfl (by decide +kernel) ⟨Nat.le_of_ble_eq_true rfl, Nat.le_of_ble_eq_true rfl⟩) rfl hl rfl (Nat.le_of_ble_eq_true rfl) dL_changes_19 ⟨Nat.le_of_ble_eq_true rfl, Nat.le_of_ble_eq_true rfl⟩ hK hN (KX_T) (fun _ _ => trivial) trivial hS ((fun q h => hA q (Nat.le_trans hS.1 h))) (fun r u9 H locs hr _ hS hz hk => ?_)
  subst hr
  have hO := OBJ_keptO hO (fun z h => hk z h (Nat.not_le.mpr h))
  obtain ⟨j19, hj19, ej19⟩ := smv_of (v := (v >>> ((nI 7) &&& 31))) (n := (nI 4)) (k := 4) (by omega) (by omega) rfl
  rw [ej19]
  refine lv_istore_n (lv' := [(3, .int (nI j19)), (2, .int (nI j10)), (0, .ref q), (1, .int v)]) hx hb dL_changes_22 rfl hl (by decide) rfl (fun ls hl => ?_)
  refine lv_iload_n hx hb dL_changes_23 rfl (lv_at hl 3 rfl) ?_
  refine lv_bipush (v := nI 16) hx hb dL_changes_24 (by decide) ?_
  refine lc_i (X := XT) (O := oT) (O' := (fun _ => oT)) (F := fT0) (As := [.int v, .int (nI 16)]) (rest := []) hF (c_L_some l D cI cJ cC cL v (nI 16) _ (by decide)) (va_cwS 2 hts gL_changes_L_some rfl rfl rfl (by decide +kernel) ⟨Nat.le_of_ble_eq_true rfl, Nat.le_of_ble_eq_true rfl⟩) rfl hl rfl (Nat.le_of_ble_eq_true rfl) dL_changes_26 ⟨Nat.le_of_ble_eq_true rfl, Nat.le_of_ble_eq_true rfl⟩ hK hN (KX_T) (fun _ _ => trivial) trivial hS ((fun q h => hA q (Nat.le_trans hS.1 h))) (fun r u9 H locs hr _ hS hz hk => ?_)
  subst hr
  have hO := OBJ_keptO hO (fun z h => hk z h (Nat.not_le.mpr h))
  obtain ⟨j26, hj26, ej26⟩ := smv_of (v := v) (n := (nI 16)) (k := 16) (by omega) (by omega) rfl
  rw [ej26]
  have hl : lv_has ls 4 [(0, .ref q), (1, .int v), (2, .int (nI j10)), (3, .int (nI j19))] := lv_sub hl [2, 3, 1, 0] rfl
  have T96 : W p l e rmL_changes s m args below meth c H locs 0 0 Q (F0 m 96 ls []) := by
    refine W_raise (c1 := 8) (s1 := 80) (Nat.le_of_ble_eq_true rfl) (Nat.le_of_ble_eq_true rfl) ?_
    refine lv_aload_n hx hb dL_changes_96 rfl (lv_at hl 0 rfl) ?_
    refine lv_iload_n hx hb dL_changes_97 rfl (lv_at hl 1 rfl) ?_
    refine lv_iconst (v := nI 4) hx hb dL_changes_98 (by decide) ?_
    refine lv_ishr hx hb dL_changes_99 ?_
    refine lv_bipush (v := nI 8) hx hb dL_changes_100 (by decide) ?_
    refine lc_i (X := XT) (O := oT) (O' := (fun _ => oT)) (F := fT0) (As := [.int (v >>> ((nI 4) &&& 31)), .int (nI 8)]) (rest := [.ref q]) hF (c_L_some l D cI cJ cC cL (v >>> ((nI 4) &&& 31)) (nI 8) _ (by decide)) (va_cwS 2 hts gL_changes_L_some rfl rfl rfl (by decide +kernel) ⟨Nat.le_of_ble_eq_true rfl, Nat.le_of_ble_eq_true rfl⟩) rfl hl rfl (Nat.le_of_ble_eq_true rfl) dL_changes_102 ⟨Nat.le_of_ble_eq_true rfl, Nat.le_of_ble_eq_true rfl⟩ hK hN (KX_T) (fun _ _ => trivial) trivial hS ((fun q h => hA q (Nat.le_trans hS.1 h))) (fun r u9 H locs hr _ hS hz hk => ?_)
    subst hr
    have hO := OBJ_keptO hO (fun z h => hk z h (Nat.not_le.mpr h))
    obtain ⟨j102, hj102, ej102⟩ := smv_of (v := (v >>> ((nI 4) &&& 31))) (n := (nI 8)) (k := 8) (by omega) (by omega) rfl
    rw [ej102]
    refine lv_iload_n hx hb dL_changes_105 rfl (lv_at hl 1 rfl) ?_
    refine lv_bipush (v := nI 7) hx hb dL_changes_106 (by decide) ?_
    refine lv_ishr hx hb dL_changes_108 ?_
    refine lv_bipush (v := nI 6) hx hb dL_changes_109 (by decide) ?_
    refine lc_i (X := XT) (O := oT) (O' := (fun _ => oT)) (F := fT0) (As := [.int (v >>> ((nI 7) &&& 31)), .int (nI 6)]) (rest := [.int (nI j102), .ref q]) hF (c_L_some l D cI cJ cC cL (v >>> ((nI 7) &&& 31)) (nI 6) _ (by decide)) (va_cwS 2 hts gL_changes_L_some rfl rfl rfl (by decide +kernel) ⟨Nat.le_of_ble_eq_true rfl, Nat.le_of_ble_eq_true rfl⟩) rfl hl rfl (Nat.le_of_ble_eq_true rfl) dL_changes_111 ⟨Nat.le_of_ble_eq_true rfl, Nat.le_of_ble_eq_true rfl⟩ hK hN (KX_T) (fun _ _ => trivial) trivial hS ((fun q h => hA q (Nat.le_trans hS.1 h))) (fun r u9 H locs hr _ hS hz hk => ?_)
    subst hr
    have hO := OBJ_keptO hO (fun z h => hk z h (Nat.not_le.mpr h))
    obtain ⟨j111, hj111, ej111⟩ := smv_of (v := (v >>> ((nI 7) &&& 31))) (n := (nI 6)) (k := 6) (by omega) (by omega) rfl
    rw [ej111]
    refine oc_hang hF (IN_hang_any (OBJ_G hO)) (cwV 2 hts gL_changes_X9_hang rfl rfl rfl (by decide +kernel) ⟨Nat.le_of_ble_eq_true rfl, Nat.le_of_ble_eq_true rfl⟩) (Nat.le_of_ble_eq_true rfl) hl (Nat.le_of_ble_eq_true rfl) dL_changes_114 ⟨Nat.le_of_ble_eq_true rfl, Nat.le_of_ble_eq_true rfl⟩ hK hN hXS hA hO hS (fun g' hl' N' u' n' rn' rd' x H locs hO hS hz hk hch hp => ?_)
    refine lv_if_lt (tgt := 124) hx hb dL_changes_117 (by decide) (fun hc => ?_) (fun hc => ?_)
    · refine lv_iconst (v := nI 0) hx hb dL_changes_124 (by decide) ?_
      exact hRet (g', hl', N', u', n', rn', rd') (Or.inl rfl) (Or.inr ⟨rfl, MS_r hch hc⟩) hO hS dL_changes_125
    · refine lv_iconst (v := nI 1) hx hb dL_changes_120 (by decide) ?_
      refine lv_goto (tgt := 125) hx hb dL_changes_121 (by decide) ?_
      exact hRet (g', hl', N', u', n', rn', rd') (Or.inr rfl) (Or.inl ⟨rfl, MS_c hch hc⟩) hO hS dL_changes_125
  have T126 : W p l e rmL_changes s m args below meth c H locs 0 0 Q (F0 m 126 ls []) := by
    refine W_raise (c1 := 8) (s1 := 80) (Nat.le_of_ble_eq_true rfl) (Nat.le_of_ble_eq_true rfl) ?_
    refine lv_aload_n hx hb dL_changes_126 rfl (lv_at hl 0 rfl) ?_
    refine lv_iload_n hx hb dL_changes_127 rfl (lv_at hl 2 rfl) ?_
    refine lv_iload_n hx hb dL_changes_128 rfl (lv_at hl 3 rfl) ?_
    refine lv_iload_n hx hb dL_changes_129 rfl (lv_at hl 1 rfl) ?_
    refine lv_bipush (v := nI 9) hx hb dL_changes_130 (by decide) ?_
    refine lv_ishr hx hb dL_changes_132 ?_
    refine lv_aload_n hx hb dL_changes_133 rfl (lv_at hl 0 rfl) ?_
    refine lv_iconst (v := nI 1) hx hb dL_changes_134 (by decide) ?_
    refine oc_accountS hF (by decide) (by decide) (cwV 1 hts gL_changes_X9_account rfl rfl rfl (by decide +kernel) ⟨Nat.le_of_ble_eq_true rfl, Nat.le_of_ble_eq_true rfl⟩) (Nat.le_of_ble_eq_true rfl) hl (Nat.le_of_ble_eq_true rfl) dL_changes_135 ⟨Nat.le_of_ble_eq_true rfl, Nat.le_of_ble_eq_true rfl⟩ hK hN hXS hA hO hS (fun H locs hO hS hz hk => ?_)
    rw [qe_acc1 (OBJ_G hO) (OBJ_QE hO)]
    refine lv_iconst (v := nI 1) hx hb dL_changes_138 (by decide) ?_
    refine lv_iadd hx hb dL_changes_139 ?_
    rw [nI_add]
    refine lc_i (X := XT) (O := oT) (O' := (fun _ => oT)) (F := fT0) (As := [.int (v >>> ((nI 9) &&& 31)), .int (nI (g 0 + 1))]) (rest := [.int (nI j19), .int (nI j10), .ref q]) hF (c_L_some l D cI cJ cC cL (v >>> ((nI 9) &&& 31)) (nI (g 0 + 1)) _ (nI_ne0 (by omega) (by omega))) (va_cwS 2 hts gL_changes_L_some rfl rfl rfl (by decide +kernel) ⟨Nat.le_of_ble_eq_true rfl, Nat.le_of_ble_eq_true rfl⟩) rfl hl rfl (Nat.le_of_ble_eq_true rfl) dL_changes_140 ⟨Nat.le_of_ble_eq_true rfl, Nat.le_of_ble_eq_true rfl⟩ hK hN (KX_T) (fun _ _ => trivial) trivial hS ((fun q h => hA q (Nat.le_trans hS.1 h))) (fun r u9 H locs hr _ hS hz hk => ?_)
    subst hr
    have hO := OBJ_keptO hO (fun z h => hk z h (Nat.not_le.mpr h))
    obtain ⟨j140, hj140, ej140⟩ := smv_of (v := (v >>> ((nI 9) &&& 31))) (n := (nI (g 0 + 1))) (k := g 0 + 1) (by omega) (by omega) rfl
    rw [ej140]
    refine oc_wire hF (IN_wire_any (OBJ_G hO)) (cwV 3 hts gL_changes_X9_wire rfl rfl rfl (by decide +kernel) ⟨Nat.le_of_ble_eq_true rfl, Nat.le_of_ble_eq_true rfl⟩) (Nat.le_of_ble_eq_true rfl) hl (Nat.le_of_ble_eq_true rfl) dL_changes_143 ⟨Nat.le_of_ble_eq_true rfl, Nat.le_of_ble_eq_true rfl⟩ hK hN hXS hA hO hS (fun g' hl' N' u' n' rn' rd' x H locs hO hS hz hk hch hp => ?_)
    refine lv_if_lt (tgt := 153) hx hb dL_changes_146 (by decide) (fun hc => ?_) (fun hc => ?_)
    · refine lv_iconst (v := nI 0) hx hb dL_changes_153 (by decide) ?_
      exact hRet (g', hl', N', u', n', rn', rd') (Or.inl rfl) (Or.inr ⟨rfl, MS_r hch hc⟩) hO hS dL_changes_154
    · refine lv_iconst (v := nI 1) hx hb dL_changes_149 (by decide) ?_
      refine lv_goto (tgt := 154) hx hb dL_changes_150 (by decide) ?_
      exact hRet (g', hl', N', u', n', rn', rd') (Or.inr rfl) (Or.inl ⟨rfl, MS_c hch hc⟩) hO hS dL_changes_154
  have T155 : W p l e rmL_changes s m args below meth c H locs 0 0 Q (F0 m 155 ls []) := by
    refine W_raise (c1 := 8) (s1 := 80) (Nat.le_of_ble_eq_true rfl) (Nat.le_of_ble_eq_true rfl) ?_
    refine lv_aload_n hx hb dL_changes_155 rfl (lv_at hl 0 rfl) ?_
    refine lv_iload_n hx hb dL_changes_156 rfl (lv_at hl 2 rfl) ?_
    refine lv_iload_n hx hb dL_changes_157 rfl (lv_at hl 3 rfl) ?_
    refine oc_cut hF (IN_cut_any (OBJ_G hO)) (cwV 2 hts gL_changes_X9_cut rfl rfl rfl (by decide +kernel) ⟨Nat.le_of_ble_eq_true rfl, Nat.le_of_ble_eq_true rfl⟩) (Nat.le_of_ble_eq_true rfl) hl (Nat.le_of_ble_eq_true rfl) dL_changes_158 ⟨Nat.le_of_ble_eq_true rfl, Nat.le_of_ble_eq_true rfl⟩ hK hN hXS hA hO hS (fun g' hl' N' u' n' rn' rd' x H locs hO hS hz hk hch hp => ?_)
    refine lv_if_lt (tgt := 168) hx hb dL_changes_161 (by decide) (fun hc => ?_) (fun hc => ?_)
    · refine lv_iconst (v := nI 0) hx hb dL_changes_168 (by decide) ?_
      exact hRet (g', hl', N', u', n', rn', rd') (Or.inl rfl) (Or.inr ⟨rfl, MS_r hch hc⟩) hO hS dL_changes_169
    · refine lv_iconst (v := nI 1) hx hb dL_changes_164 (by decide) ?_
      refine lv_goto (tgt := 169) hx hb dL_changes_165 (by decide) ?_
      exact hRet (g', hl', N', u', n', rn', rd') (Or.inr rfl) (Or.inl ⟨rfl, MS_c hch hc⟩) hO hS dL_changes_169
  have T170 : W p l e rmL_changes s m args below meth c H locs 0 0 Q (F0 m 170 ls []) := by
    refine W_raise (c1 := 8) (s1 := 80) (Nat.le_of_ble_eq_true rfl) (Nat.le_of_ble_eq_true rfl) ?_
    refine lv_aload_n hx hb dL_changes_170 rfl (lv_at hl 0 rfl) ?_
    refine lv_iload_n hx hb dL_changes_171 rfl (lv_at hl 1 rfl) ?_
    refine lv_iconst (v := nI 4) hx hb dL_changes_172 (by decide) ?_
    refine lv_ishr hx hb dL_changes_173 ?_
    refine lv_iconst (v := nI 4) hx hb dL_changes_174 (by decide) ?_
    refine lc_i (X := XT) (O := oT) (O' := (fun _ => oT)) (F := fT0) (As := [.int (v >>> ((nI 4) &&& 31)), .int (nI 4)]) (rest := [.ref q]) hF (c_L_some l D cI cJ cC cL (v >>> ((nI 4) &&& 31)) (nI 4) _ (by decide)) (va_cwS 2 hts gL_changes_L_some rfl rfl rfl (by decide +kernel) ⟨Nat.le_of_ble_eq_true rfl, Nat.le_of_ble_eq_true rfl⟩) rfl hl rfl (Nat.le_of_ble_eq_true rfl) dL_changes_175 ⟨Nat.le_of_ble_eq_true rfl, Nat.le_of_ble_eq_true rfl⟩ hK hN (KX_T) (fun _ _ => trivial) trivial hS ((fun q h => hA q (Nat.le_trans hS.1 h))) (fun r u9 H locs hr _ hS hz hk => ?_)
    subst hr
    have hO := OBJ_keptO hO (fun z h => hk z h (Nat.not_le.mpr h))
    obtain ⟨j175, hj175, ej175⟩ := smv_of (v := (v >>> ((nI 4) &&& 31))) (n := (nI 4)) (k := 4) (by omega) (by omega) rfl
    rw [ej175]
    refine lv_iload_n hx hb dL_changes_178 rfl (lv_at hl 1 rfl) ?_
    refine lv_bipush (v := nI 8) hx hb dL_changes_179 (by decide) ?_
    refine lv_ishr hx hb dL_changes_181 ?_
    refine lv_iconst (v := nI 1) hx hb dL_changes_182 (by decide) ?_
    refine lv_iand hx hb dL_changes_183 ?_
    refine lv_if_ne (tgt := 191) hx hb dL_changes_184 (by decide) (fun hc => ?_) (fun hc => ?_)
    · refine lv_iconst (v := nI 0) hx hb dL_changes_191 (by decide) ?_
      refine oc_set hF (IN_set_any (OBJ_G hO) (b := 0) (by decide)) (cwV 2 hts gL_changes_X9_set rfl rfl rfl (by decide +kernel) ⟨Nat.le_of_ble_eq_true rfl, Nat.le_of_ble_eq_true rfl⟩) (Nat.le_of_ble_eq_true rfl) hl (Nat.le_of_ble_eq_true rfl) dL_changes_192 ⟨Nat.le_of_ble_eq_true rfl, Nat.le_of_ble_eq_true rfl⟩ hK hN hXS hA hO hS (fun g' hl' N' u' n' rn' rd' x H locs hO hS hz hk hch hp => ?_)
      refine lv_if_lt (tgt := 202) hx hb dL_changes_195 (by decide) (fun hc => ?_) (fun hc => ?_)
      · refine lv_iconst (v := nI 0) hx hb dL_changes_202 (by decide) ?_
        exact hRet (g', hl', N', u', n', rn', rd') (Or.inl rfl) (Or.inr ⟨rfl, MS_r hch hc⟩) hO hS dL_changes_203
      · refine lv_iconst (v := nI 1) hx hb dL_changes_198 (by decide) ?_
        refine lv_goto (tgt := 203) hx hb dL_changes_199 (by decide) ?_
        exact hRet (g', hl', N', u', n', rn', rd') (Or.inr rfl) (Or.inl ⟨rfl, MS_c hch hc⟩) hO hS dL_changes_203
    · refine lv_iconst (v := nI 1) hx hb dL_changes_187 (by decide) ?_
      refine lv_goto (tgt := 192) hx hb dL_changes_188 (by decide) ?_
      refine oc_set hF (IN_set_any (OBJ_G hO) (b := 1) (by decide)) (cwV 2 hts gL_changes_X9_set rfl rfl rfl (by decide +kernel) ⟨Nat.le_of_ble_eq_true rfl, Nat.le_of_ble_eq_true rfl⟩) (Nat.le_of_ble_eq_true rfl) hl (Nat.le_of_ble_eq_true rfl) dL_changes_192 ⟨Nat.le_of_ble_eq_true rfl, Nat.le_of_ble_eq_true rfl⟩ hK hN hXS hA hO hS (fun g' hl' N' u' n' rn' rd' x H locs hO hS hz hk hch hp => ?_)
      refine lv_if_lt (tgt := 202) hx hb dL_changes_195 (by decide) (fun hc => ?_) (fun hc => ?_)
      · refine lv_iconst (v := nI 0) hx hb dL_changes_202 (by decide) ?_
        exact hRet (g', hl', N', u', n', rn', rd') (Or.inl rfl) (Or.inr ⟨rfl, MS_r hch hc⟩) hO hS dL_changes_203
      · refine lv_iconst (v := nI 1) hx hb dL_changes_198 (by decide) ?_
        refine lv_goto (tgt := 203) hx hb dL_changes_199 (by decide) ?_
        exact hRet (g', hl', N', u', n', rn', rd') (Or.inr rfl) (Or.inl ⟨rfl, MS_c hch hc⟩) hO hS dL_changes_203
  have T204 : W p l e rmL_changes s m args below meth c H locs 0 0 Q (F0 m 204 ls []) := by
    refine W_raise (c1 := 8) (s1 := 80) (Nat.le_of_ble_eq_true rfl) (Nat.le_of_ble_eq_true rfl) ?_
    refine lv_aload_n hx hb dL_changes_204 rfl (lv_at hl 0 rfl) ?_
    refine lv_iload_n hx hb dL_changes_205 rfl (lv_at hl 1 rfl) ?_
    refine lv_iconst (v := nI 5) hx hb dL_changes_206 (by decide) ?_
    refine lv_ishr hx hb dL_changes_207 ?_
    refine lv_iconst (v := nI 1) hx hb dL_changes_208 (by decide) ?_
    refine lv_iand hx hb dL_changes_209 ?_
    refine lv_if_ne (tgt := 217) hx hb dL_changes_210 (by decide) (fun hc => ?_) (fun hc => ?_)
    · refine lv_iconst (v := nI 0) hx hb dL_changes_217 (by decide) ?_
      refine oc_loops hF (IN_loops_any (OBJ_G hO) (b := 0) (by decide)) (cwV 1 hts gL_changes_X9_loops rfl rfl rfl (by decide +kernel) ⟨Nat.le_of_ble_eq_true rfl, Nat.le_of_ble_eq_true rfl⟩) (Nat.le_of_ble_eq_true rfl) hl (Nat.le_of_ble_eq_true rfl) dL_changes_218 ⟨Nat.le_of_ble_eq_true rfl, Nat.le_of_ble_eq_true rfl⟩ hK hN hXS hA hO hS (fun g' hl' N' u' n' rn' rd' x H locs hO hS hz hk hch hp => ?_)
      refine lv_if_lt (tgt := 228) hx hb dL_changes_221 (by decide) (fun hc => ?_) (fun hc => ?_)
      · refine lv_iconst (v := nI 0) hx hb dL_changes_228 (by decide) ?_
        exact hRet (g', hl', N', u', n', rn', rd') (Or.inl rfl) (Or.inr ⟨rfl, MS_r hch hc⟩) hO hS dL_changes_229
      · refine lv_iconst (v := nI 1) hx hb dL_changes_224 (by decide) ?_
        refine lv_goto (tgt := 229) hx hb dL_changes_225 (by decide) ?_
        exact hRet (g', hl', N', u', n', rn', rd') (Or.inr rfl) (Or.inl ⟨rfl, MS_c hch hc⟩) hO hS dL_changes_229
    · refine lv_iconst (v := nI 1) hx hb dL_changes_213 (by decide) ?_
      refine lv_goto (tgt := 218) hx hb dL_changes_214 (by decide) ?_
      refine oc_loops hF (IN_loops_any (OBJ_G hO) (b := 1) (by decide)) (cwV 1 hts gL_changes_X9_loops rfl rfl rfl (by decide +kernel) ⟨Nat.le_of_ble_eq_true rfl, Nat.le_of_ble_eq_true rfl⟩) (Nat.le_of_ble_eq_true rfl) hl (Nat.le_of_ble_eq_true rfl) dL_changes_218 ⟨Nat.le_of_ble_eq_true rfl, Nat.le_of_ble_eq_true rfl⟩ hK hN hXS hA hO hS (fun g' hl' N' u' n' rn' rd' x H locs hO hS hz hk hch hp => ?_)
      refine lv_if_lt (tgt := 228) hx hb dL_changes_221 (by decide) (fun hc => ?_) (fun hc => ?_)
      · refine lv_iconst (v := nI 0) hx hb dL_changes_228 (by decide) ?_
        exact hRet (g', hl', N', u', n', rn', rd') (Or.inl rfl) (Or.inr ⟨rfl, MS_r hch hc⟩) hO hS dL_changes_229
      · refine lv_iconst (v := nI 1) hx hb dL_changes_224 (by decide) ?_
        refine lv_goto (tgt := 229) hx hb dL_changes_225 (by decide) ?_
        exact hRet (g', hl', N', u', n', rn', rd') (Or.inr rfl) (Or.inl ⟨rfl, MS_c hch hc⟩) hO hS dL_changes_229
  have T230 : W p l e rmL_changes s m args below meth c H locs 0 0 Q (F0 m 230 ls []) := by
    refine W_raise (c1 := 8) (s1 := 80) (Nat.le_of_ble_eq_true rfl) (Nat.le_of_ble_eq_true rfl) ?_
    refine lv_aload_n hx hb dL_changes_230 rfl (lv_at hl 0 rfl) ?_
    refine lv_iload_n hx hb dL_changes_231 rfl (lv_at hl 1 rfl) ?_
    refine lv_iconst (v := nI 4) hx hb dL_changes_232 (by decide) ?_
    refine lv_ishr hx hb dL_changes_233 ?_
    refine lv_bipush (v := nI 101) hx hb dL_changes_234 (by decide) ?_
    refine lc_i (X := XT) (O := oT) (O' := (fun _ => oT)) (F := fT0) (As := [.int (v >>> ((nI 4) &&& 31)), .int (nI 101)]) (rest := [.ref q]) hF (c_L_some l D cI cJ cC cL (v >>> ((nI 4) &&& 31)) (nI 101) _ (by decide)) (va_cwS 2 hts gL_changes_L_some rfl rfl rfl (by decide +kernel) ⟨Nat.le_of_ble_eq_true rfl, Nat.le_of_ble_eq_true rfl⟩) rfl hl rfl (Nat.le_of_ble_eq_true rfl) dL_changes_236 ⟨Nat.le_of_ble_eq_true rfl, Nat.le_of_ble_eq_true rfl⟩ hK hN (KX_T) (fun _ _ => trivial) trivial hS ((fun q h => hA q (Nat.le_trans hS.1 h))) (fun r u9 H locs hr _ hS hz hk => ?_)
    subst hr
    have hO := OBJ_keptO hO (fun z h => hk z h (Nat.not_le.mpr h))
    obtain ⟨j236, hj236, ej236⟩ := smv_of (v := (v >>> ((nI 4) &&& 31))) (n := (nI 101)) (k := 101) (by omega) (by omega) rfl
    rw [ej236]
    refine oc_tick hF (IN_tick_any (OBJ_G hO)) (cwV 1 hts gL_changes_X9_tick rfl rfl rfl (by decide +kernel) ⟨Nat.le_of_ble_eq_true rfl, Nat.le_of_ble_eq_true rfl⟩) (Nat.le_of_ble_eq_true rfl) hl (Nat.le_of_ble_eq_true rfl) dL_changes_239 ⟨Nat.le_of_ble_eq_true rfl, Nat.le_of_ble_eq_true rfl⟩ hK hN hXS hA hO hS (fun g' hl' N' u' n' rn' rd' x H locs hO hS hz hk hch hp => ?_)
    refine lv_if_lt (tgt := 249) hx hb dL_changes_242 (by decide) (fun hc => ?_) (fun hc => ?_)
    · refine lv_iconst (v := nI 0) hx hb dL_changes_249 (by decide) ?_
      exact hRet (g', hl', N', u', n', rn', rd') (Or.inl rfl) (Or.inr ⟨rfl, MS_r hch hc⟩) hO hS dL_changes_250
    · refine lv_iconst (v := nI 1) hx hb dL_changes_245 (by decide) ?_
      refine lv_goto (tgt := 250) hx hb dL_changes_246 (by decide) ?_
      exact hRet (g', hl', N', u', n', rn', rd') (Or.inr rfl) (Or.inl ⟨rfl, MS_c hch hc⟩) hO hS dL_changes_250
  have T251 : W p l e rmL_changes s m args below meth c H locs 0 0 Q (F0 m 251 ls []) := by
    refine lv_aload_n hx hb dL_changes_251 rfl (lv_at hl 0 rfl) ?_
    refine lv_iload_n hx hb dL_changes_252 rfl (lv_at hl 1 rfl) ?_
    refine lv_bipush (v := nI 6) hx hb dL_changes_253 (by decide) ?_
    refine lv_ishr hx hb dL_changes_255 ?_
    refine lv_iconst (v := nI 1) hx hb dL_changes_256 (by decide) ?_
    refine lv_iand hx hb dL_changes_257 ?_
    refine lv_if_ne (tgt := 310) hx hb dL_changes_258 (by decide) (fun _ => ?_) (fun _ => ?_)
    · obtain ⟨Wd, hP, hD, had, hback⟩ := OBJ_W hO
      obtain ⟨cB, hb1, hb2⟩ := start_arr (hts (.arrayClass .byte) (by decide +kernel))
      have hKB := K_byte hK hb1 hb2
      have hXQ : XQ A s s.heap := ⟨hXS.1, hX.2.1, hX.2.2⟩
      refine va_new (ci := 8) (fs := [.null, .int 0, .int 0, .int 0]) (C := RJ4) (T := TJ4) (N := 4) hx hb hts hin_J4 tyJ4 tyJ4_ok hown (hts (.classLink RL 136 RJ4) (by decide +kernel)) (hts (.instantiable RJ4 4) (by decide +kernel)) (hts (.initialized RJ4) (by decide +kernel)) hKB hP hD hS hA rfl (fun j hj => by rcases (show j = 0 ∨ j = 1 ∨ j = 2 ∨ j = 3 by omega) with rfl | rfl | rfl | rfl <;> rfl) (Nat.le_of_ble_eq_true rfl) (Nat.le_of_ble_eq_true rfl) dL_changes_310 (fun zb H hP hD hS => ?_)
      have hP := vP_swap hP
      have hD := vD_swap hD
      have hP : va_P D vwCl ([(zb, .inr (8, [.null, .int 0, .int 0, .int 0]))] ++ Wd) _ := hP
      have hD : va_D A ([(zb, .inr (8, [.null, .int 0, .int 0, .int 0]))] ++ Wd) := hD
      refine lv_dup hx hb dL_changes_313 rfl ?_
      refine jf_v (X := XQ) (tys := (tyB cI cJ cC cL cB)) (av := [.ref zb]) (wc := [(zb, .inr (8, [.null, .int 0, .int 0, .int 0]))]) (wr := Wd) (w1 := (fun ad314 => [(zb, .inr (8, [.ref (ad314 0), .int 0, .int 0, .int (nI (0))])), ((ad314 0), .inl (cB, 16, .inl (fun _ => 0)))])) (mc := 1) (ms := 16) KX_XQ hXQ hKB hN hP hD hS hA (fun hb1 hp1 => va_runI (As := []) (rest := [.ref zb, .ref q]) hF (c_J4_init_da8c8 l D cI cJ cC cL cB zb _) (cwI 0 hts gL_changes_J4_init_da8c8 rfl rfl rfl (hts (.initialized RJ4) (by decide +kernel)) (hts (.methodLink RL 138 yJ4_init_da8c8) (by decide +kernel)) (hts (.instanceMethod yJ4_init_da8c8) (by decide +kernel)) rfl (by decide +kernel) ⟨Nat.le_of_ble_eq_true rfl, Nat.le_of_ble_eq_true rfl⟩) ⟨hb1, hp1⟩ rfl rfl hl.1 rfl (lv_room (Nat.le_of_ble_eq_true rfl)) dL_changes_314 ⟨Nat.le_of_ble_eq_true rfl, Nat.le_of_ble_eq_true rfl⟩) (fun ad314 H locs hP hD hS hz => ?_)
      have hP : va_P D vwCl ([(zb, .inr (8, [.ref (ad314 0), .int 0, .int 0, .int (nI (0))])), ((ad314 0), .inl (cB, 16, .inl (fun _ => 0)))] ++ Wd) _ := hP
      have hD : va_D A ([(zb, .inr (8, [.ref (ad314 0), .int 0, .int 0, .int (nI (0))])), ((ad314 0), .inl (cB, 16, .inl (fun _ => 0)))] ++ Wd) := hD
      have hBT := BT_0
      obtain ⟨qs317, hr317, hs317⟩ := hXS.2 (RL, 155, "cut ", [99, 117, 116, 32]) (by decide +kernel)
      refine va_ldcS hx hb hown hr317 dL_changes_317 ?_
      refine jf_r (X := (XQS qs317 (([99, 117, 116, 32] : List Nat).map nI))) (tys := (tyB cI cJ cC cL cB)) (av := [.ref zb, .ref qs317]) (wc := [(zb, .inr (8, [.ref (ad314 0), .int 0, .int 0, .int (nI (0))])), ((ad314 0), .inl (cB, 16, .inl (fun _ => 0)))]) (wr := Wd) (w1 := (fun ad319 => [(zb, .inr (8, [.ref (ad314 0), .int 0, .int 0, .int (nI (0 + 4))])), ((ad314 0), .inl (cB, 16, .inl (va_cpy (fun j => (([99, 117, 116, 32] : List Nat).map nI).getD j 0) (fun _ => 0) 0 (0) 4)))])) (rr := fun ad319 => zb) (mc := 0) (ms := 0) KX_XQS (show XQ A s s.heap ∧ isStr qs317 (([99, 117, 116, 32] : List Nat).map nI) A s s.heap from ⟨hXQ, hs317⟩) hKB hN hP hD hS hA (fun hb1 hp1 => va_runV (C := RJ4) (As := [.ref qs317]) (rest := [.ref q]) hF (c_J4_append_15ec4 l D cI cJ cC cL cB zb (ad314 0) (0) (fun _ => 0) qs317 [99, 117, 116, 32] 4 rfl (by decide) (by omega) _) (cwV 1 hts gL_changes_J4_append_15ec4 rfl rfl rfl (by decide +kernel) ⟨Nat.le_of_ble_eq_true rfl, Nat.le_of_ble_eq_true rfl⟩) ⟨hb1, (va_recv hKB hP (ci := 8) (q0 := 0) rfl rfl), hp1⟩ rfl rfl hl.1 rfl (lv_room (Nat.le_of_ble_eq_true rfl)) dL_changes_319 ⟨Nat.le_of_ble_eq_true rfl, Nat.le_of_ble_eq_true rfl⟩) (fun ad319 H locs hP hD hS hz => ?_)
      have hP : va_P D vwCl ([(zb, .inr (8, [.ref (ad314 0), .int 0, .int 0, .int (nI (0 + 4))])), ((ad314 0), .inl (cB, 16, .inl (va_cpy (fun j => (([99, 117, 116, 32] : List Nat).map nI).getD j 0) (fun _ => 0) 0 (0) 4)))] ++ Wd) _ := hP
      have hD : va_D A ([(zb, .inr (8, [.ref (ad314 0), .int 0, .int 0, .int (nI (0 + 4))])), ((ad314 0), .inl (cB, 16, .inl (va_cpy (fun j => (([99, 117, 116, 32] : List Nat).map nI).getD j 0) (fun _ => 0) 0 (0) 4)))] ++ Wd) := hD
      have hBT := BT_str hBT (cs := [99, 117, 116, 32]) (len := 4) rfl (by decide)
      obtain ⟨f1, ef1⟩ : ∃ f9 : Nat → Int32, f9 = (va_cpy (fun j => (([99, 117, 116, 32] : List Nat).map nI).getD j 0) (fun _ => 0) 0 (0) 4) := ⟨_, rfl⟩
      rw [← ef1] at hP hD hBT
      clear ef1
      have hP : va_P D vwCl ([(zb, .inr (8, [.ref (ad314 0), .int 0, .int 0, .int (nI (0 + 4))])), ((ad314 0), .inl (cB, 16, .inl f1))] ++ Wd) _ := hP
      have hD : va_D A ([(zb, .inr (8, [.ref (ad314 0), .int 0, .int 0, .int (nI (0 + 4))])), ((ad314 0), .inl (cB, 16, .inl f1))] ++ Wd) := hD
      refine lv_iload_n hx hb dL_changes_322 rfl (lv_at hl 1 rfl) ?_
      refine lv_iconst (v := nI 3) hx hb dL_changes_323 (by decide) ?_
      refine lv_ishr hx hb dL_changes_324 ?_
      refine lv_bipush (v := nI 9) hx hb dL_changes_325 (by decide) ?_
      refine lc_i (X := XT) (O := oT) (O' := (fun _ => oT)) (F := fT0) (As := [.int (v >>> ((nI 3) &&& 31)), .int (nI 9)]) (rest := [.ref zb, .ref q]) hF (c_L_some l D cI cJ cC cL (v >>> ((nI 3) &&& 31)) (nI 9) _ (by decide)) (va_cwS 2 hts gL_changes_L_some rfl rfl rfl (by decide +kernel) ⟨Nat.le_of_ble_eq_true rfl, Nat.le_of_ble_eq_true rfl⟩) rfl hl rfl (Nat.le_of_ble_eq_true rfl) dL_changes_327 ⟨Nat.le_of_ble_eq_true rfl, Nat.le_of_ble_eq_true rfl⟩ hK hN (KX_T) (fun _ _ => trivial) trivial hS ((fun q h => hA q (Nat.le_trans hS.1 h))) (fun r u9 H locs hr _ hS hz hk => ?_)
      subst hr
      have hP := hP.kept (fun k z h9 => hk z.1 ((hP k z h9).lt) (Nat.not_le.mpr ((hP k z h9).lt)))
      obtain ⟨j327, hj327, ej327⟩ := smv_of (v := v >>> ((nI 3) &&& 31)) (n := nI 9) (k := 9) (by omega) (by omega) rfl
      rw [ej327]
      have hdl327 := dgl_le j327
      have hd1327 : dgl j327 = 1 := if_pos (by omega)
      have hP : va_P D vwCl ([(zb, .inr (8, [.ref (ad314 0), .int 0, .int 0, .int (nI (0 + 4))])), ((ad314 0), .inl (cB, 16, .inl f1))] ++ Wd) _ := hP
      have hD : va_D A ([(zb, .inr (8, [.ref (ad314 0), .int 0, .int 0, .int (nI (0 + 4))])), ((ad314 0), .inl (cB, 16, .inl f1))] ++ Wd) := hD
      refine jf_r (X := XQ) (tys := (tyB cI cJ cC cL cB)) (av := [.ref zb, .int (nI j327)]) (wc := [(zb, .inr (8, [.ref (ad314 0), .int 0, .int 0, .int (nI (0 + 4))])), ((ad314 0), .inl (cB, 16, .inl f1))]) (wr := Wd) (w1 := (fun ad330 => [(zb, .inr (8, [.ref (ad314 0), .int 0, .int 0, .int (nI ((0 + 4) + dgl j327))])), ((ad314 0), .inl (cB, 16, .inl (dgf f1 ((0 + 4) + dgl j327) j327)))])) (rr := fun ad330 => zb) (mc := 0) (ms := 0) KX_XQ hXQ hKB hN hP hD hS hA (fun hb1 hp1 => va_runV (C := RJ4) (As := [.int (nI j327)]) (rest := [.ref q]) hF (c_J4_append_bf812 l D cI cJ cC cL cB zb (ad314 0) (0 + 4) f1 j327 (by omega) (by omega) _) (cwV 1 hts gL_changes_J4_append_bf812 rfl rfl rfl (by decide +kernel) ⟨Nat.le_of_ble_eq_true rfl, Nat.le_of_ble_eq_true rfl⟩) ⟨hb1, (va_recv hKB hP (ci := 8) (q0 := 0) rfl rfl), hp1⟩ rfl rfl hl.1 rfl (lv_room (Nat.le_of_ble_eq_true rfl)) dL_changes_330 ⟨Nat.le_of_ble_eq_true rfl, Nat.le_of_ble_eq_true rfl⟩) (fun ad330 H locs hP hD hS hz => ?_)
      have hP : va_P D vwCl ([(zb, .inr (8, [.ref (ad314 0), .int 0, .int 0, .int (nI ((0 + 4) + dgl j327))])), ((ad314 0), .inl (cB, 16, .inl (dgf f1 ((0 + 4) + dgl j327) j327)))] ++ Wd) _ := hP
      have hD : va_D A ([(zb, .inr (8, [.ref (ad314 0), .int 0, .int 0, .int (nI ((0 + 4) + dgl j327))])), ((ad314 0), .inl (cB, 16, .inl (dgf f1 ((0 + 4) + dgl j327) j327)))] ++ Wd) := hD
      have hBT := BT_int hBT (k := j327) (by omega)
      obtain ⟨f2, ef2⟩ : ∃ f9 : Nat → Int32, f9 = (dgf f1 ((0 + 4) + dgl j327) j327) := ⟨_, rfl⟩
      rw [← ef2] at hP hD hBT
      clear ef2
      have hP : va_P D vwCl ([(zb, .inr (8, [.ref (ad314 0), .int 0, .int 0, .int (nI ((0 + 4) + dgl j327))])), ((ad314 0), .inl (cB, 16, .inl f2))] ++ Wd) _ := hP
      have hD : va_D A ([(zb, .inr (8, [.ref (ad314 0), .int 0, .int 0, .int (nI ((0 + 4) + dgl j327))])), ((ad314 0), .inl (cB, 16, .inl f2))] ++ Wd) := hD
      obtain ⟨qs333, hr333, hs333⟩ := hXS.2 (RL, 157, ".", [46]) (by decide +kernel)
      refine va_ldcS hx hb hown hr333 dL_changes_333 ?_
      refine jf_r (X := (XQS qs333 (([46] : List Nat).map nI))) (tys := (tyB cI cJ cC cL cB)) (av := [.ref zb, .ref qs333]) (wc := [(zb, .inr (8, [.ref (ad314 0), .int 0, .int 0, .int (nI ((0 + 4) + dgl j327))])), ((ad314 0), .inl (cB, 16, .inl f2))]) (wr := Wd) (w1 := (fun ad335 => [(zb, .inr (8, [.ref (ad314 0), .int 0, .int 0, .int (nI (((0 + 4) + dgl j327) + 1))])), ((ad314 0), .inl (cB, 16, .inl (va_cpy (fun j => (([46] : List Nat).map nI).getD j 0) f2 0 ((0 + 4) + dgl j327) 1)))])) (rr := fun ad335 => zb) (mc := 0) (ms := 0) KX_XQS (show XQ A s s.heap ∧ isStr qs333 (([46] : List Nat).map nI) A s s.heap from ⟨hXQ, hs333⟩) hKB hN hP hD hS hA (fun hb1 hp1 => va_runV (C := RJ4) (As := [.ref qs333]) (rest := [.ref q]) hF (c_J4_append_15ec4 l D cI cJ cC cL cB zb (ad314 0) ((0 + 4) + dgl j327) f2 qs333 [46] 1 rfl (by decide) (by omega) _) (cwV 1 hts gL_changes_J4_append_15ec4 rfl rfl rfl (by decide +kernel) ⟨Nat.le_of_ble_eq_true rfl, Nat.le_of_ble_eq_true rfl⟩) ⟨hb1, (va_recv hKB hP (ci := 8) (q0 := 0) rfl rfl), hp1⟩ rfl rfl hl.1 rfl (lv_room (Nat.le_of_ble_eq_true rfl)) dL_changes_335 ⟨Nat.le_of_ble_eq_true rfl, Nat.le_of_ble_eq_true rfl⟩) (fun ad335 H locs hP hD hS hz => ?_)
      have hP : va_P D vwCl ([(zb, .inr (8, [.ref (ad314 0), .int 0, .int 0, .int (nI (((0 + 4) + dgl j327) + 1))])), ((ad314 0), .inl (cB, 16, .inl (va_cpy (fun j => (([46] : List Nat).map nI).getD j 0) f2 0 ((0 + 4) + dgl j327) 1)))] ++ Wd) _ := hP
      have hD : va_D A ([(zb, .inr (8, [.ref (ad314 0), .int 0, .int 0, .int (nI (((0 + 4) + dgl j327) + 1))])), ((ad314 0), .inl (cB, 16, .inl (va_cpy (fun j => (([46] : List Nat).map nI).getD j 0) f2 0 ((0 + 4) + dgl j327) 1)))] ++ Wd) := hD
      have hBT := BT_str hBT (cs := [46]) (len := 1) rfl (by decide)
      obtain ⟨f3, ef3⟩ : ∃ f9 : Nat → Int32, f9 = (va_cpy (fun j => (([46] : List Nat).map nI).getD j 0) f2 0 ((0 + 4) + dgl j327) 1) := ⟨_, rfl⟩
      rw [← ef3] at hP hD hBT
      clear ef3
      have hP : va_P D vwCl ([(zb, .inr (8, [.ref (ad314 0), .int 0, .int 0, .int (nI (((0 + 4) + dgl j327) + 1))])), ((ad314 0), .inl (cB, 16, .inl f3))] ++ Wd) _ := hP
      have hD : va_D A ([(zb, .inr (8, [.ref (ad314 0), .int 0, .int 0, .int (nI (((0 + 4) + dgl j327) + 1))])), ((ad314 0), .inl (cB, 16, .inl f3))] ++ Wd) := hD
      refine lv_iload_n hx hb dL_changes_338 rfl (lv_at hl 1 rfl) ?_
      refine lv_iconst (v := nI 5) hx hb dL_changes_339 (by decide) ?_
      refine lv_ishr hx hb dL_changes_340 ?_
      refine lv_iconst (v := nI 3) hx hb dL_changes_341 (by decide) ?_
      refine lc_i (X := XT) (O := oT) (O' := (fun _ => oT)) (F := fT0) (As := [.int (v >>> ((nI 5) &&& 31)), .int (nI 3)]) (rest := [.ref zb, .ref q]) hF (c_L_some l D cI cJ cC cL (v >>> ((nI 5) &&& 31)) (nI 3) _ (by decide)) (va_cwS 2 hts gL_changes_L_some rfl rfl rfl (by decide +kernel) ⟨Nat.le_of_ble_eq_true rfl, Nat.le_of_ble_eq_true rfl⟩) rfl hl rfl (Nat.le_of_ble_eq_true rfl) dL_changes_342 ⟨Nat.le_of_ble_eq_true rfl, Nat.le_of_ble_eq_true rfl⟩ hK hN (KX_T) (fun _ _ => trivial) trivial hS ((fun q h => hA q (Nat.le_trans hS.1 h))) (fun r u9 H locs hr _ hS hz hk => ?_)
      subst hr
      have hP := hP.kept (fun k z h9 => hk z.1 ((hP k z h9).lt) (Nat.not_le.mpr ((hP k z h9).lt)))
      obtain ⟨j342, hj342, ej342⟩ := smv_of (v := v >>> ((nI 5) &&& 31)) (n := nI 3) (k := 3) (by omega) (by omega) rfl
      rw [ej342]
      have hdl342 := dgl_le j342
      have hd1342 : dgl j342 = 1 := if_pos (by omega)
      have hP : va_P D vwCl ([(zb, .inr (8, [.ref (ad314 0), .int 0, .int 0, .int (nI (((0 + 4) + dgl j327) + 1))])), ((ad314 0), .inl (cB, 16, .inl f3))] ++ Wd) _ := hP
      have hD : va_D A ([(zb, .inr (8, [.ref (ad314 0), .int 0, .int 0, .int (nI (((0 + 4) + dgl j327) + 1))])), ((ad314 0), .inl (cB, 16, .inl f3))] ++ Wd) := hD
      refine jf_r (X := XQ) (tys := (tyB cI cJ cC cL cB)) (av := [.ref zb, .int (nI j342)]) (wc := [(zb, .inr (8, [.ref (ad314 0), .int 0, .int 0, .int (nI (((0 + 4) + dgl j327) + 1))])), ((ad314 0), .inl (cB, 16, .inl f3))]) (wr := Wd) (w1 := (fun ad345 => [(zb, .inr (8, [.ref (ad314 0), .int 0, .int 0, .int (nI ((((0 + 4) + dgl j327) + 1) + dgl j342))])), ((ad314 0), .inl (cB, 16, .inl (dgf f3 ((((0 + 4) + dgl j327) + 1) + dgl j342) j342)))])) (rr := fun ad345 => zb) (mc := 0) (ms := 0) KX_XQ hXQ hKB hN hP hD hS hA (fun hb1 hp1 => va_runV (C := RJ4) (As := [.int (nI j342)]) (rest := [.ref q]) hF (c_J4_append_bf812 l D cI cJ cC cL cB zb (ad314 0) (((0 + 4) + dgl j327) + 1) f3 j342 (by omega) (by omega) _) (cwV 1 hts gL_changes_J4_append_bf812 rfl rfl rfl (by decide +kernel) ⟨Nat.le_of_ble_eq_true rfl, Nat.le_of_ble_eq_true rfl⟩) ⟨hb1, (va_recv hKB hP (ci := 8) (q0 := 0) rfl rfl), hp1⟩ rfl rfl hl.1 rfl (lv_room (Nat.le_of_ble_eq_true rfl)) dL_changes_345 ⟨Nat.le_of_ble_eq_true rfl, Nat.le_of_ble_eq_true rfl⟩) (fun ad345 H locs hP hD hS hz => ?_)
      have hP : va_P D vwCl ([(zb, .inr (8, [.ref (ad314 0), .int 0, .int 0, .int (nI ((((0 + 4) + dgl j327) + 1) + dgl j342))])), ((ad314 0), .inl (cB, 16, .inl (dgf f3 ((((0 + 4) + dgl j327) + 1) + dgl j342) j342)))] ++ Wd) _ := hP
      have hD : va_D A ([(zb, .inr (8, [.ref (ad314 0), .int 0, .int 0, .int (nI ((((0 + 4) + dgl j327) + 1) + dgl j342))])), ((ad314 0), .inl (cB, 16, .inl (dgf f3 ((((0 + 4) + dgl j327) + 1) + dgl j342) j342)))] ++ Wd) := hD
      have hBT := BT_int hBT (k := j342) (by omega)
      obtain ⟨f4, ef4⟩ : ∃ f9 : Nat → Int32, f9 = (dgf f3 ((((0 + 4) + dgl j327) + 1) + dgl j342) j342) := ⟨_, rfl⟩
      rw [← ef4] at hP hD hBT
      clear ef4
      have hP : va_P D vwCl ([(zb, .inr (8, [.ref (ad314 0), .int 0, .int 0, .int (nI ((((0 + 4) + dgl j327) + 1) + dgl j342))])), ((ad314 0), .inl (cB, 16, .inl f4))] ++ Wd) _ := hP
      have hD : va_D A ([(zb, .inr (8, [.ref (ad314 0), .int 0, .int 0, .int (nI ((((0 + 4) + dgl j327) + 1) + dgl j342))])), ((ad314 0), .inl (cB, 16, .inl f4))] ++ Wd) := hD
      obtain ⟨qs348, hr348, hs348⟩ := hXS.2 (RL, 159, ";hang ", [59, 104, 97, 110, 103, 32]) (by decide +kernel)
      refine va_ldcS hx hb hown hr348 dL_changes_348 ?_
      refine jf_r (X := (XQS qs348 (([59, 104, 97, 110, 103, 32] : List Nat).map nI))) (tys := (tyB cI cJ cC cL cB)) (av := [.ref zb, .ref qs348]) (wc := [(zb, .inr (8, [.ref (ad314 0), .int 0, .int 0, .int (nI ((((0 + 4) + dgl j327) + 1) + dgl j342))])), ((ad314 0), .inl (cB, 16, .inl f4))]) (wr := Wd) (w1 := (fun ad350 => [(zb, .inr (8, [.ref (ad314 0), .int 0, .int 0, .int (nI (((((0 + 4) + dgl j327) + 1) + dgl j342) + 6))])), ((ad314 0), .inl (cB, 16, .inl (va_cpy (fun j => (([59, 104, 97, 110, 103, 32] : List Nat).map nI).getD j 0) f4 0 ((((0 + 4) + dgl j327) + 1) + dgl j342) 6)))])) (rr := fun ad350 => zb) (mc := 0) (ms := 0) KX_XQS (show XQ A s s.heap ∧ isStr qs348 (([59, 104, 97, 110, 103, 32] : List Nat).map nI) A s s.heap from ⟨hXQ, hs348⟩) hKB hN hP hD hS hA (fun hb1 hp1 => va_runV (C := RJ4) (As := [.ref qs348]) (rest := [.ref q]) hF (c_J4_append_15ec4 l D cI cJ cC cL cB zb (ad314 0) ((((0 + 4) + dgl j327) + 1) + dgl j342) f4 qs348 [59, 104, 97, 110, 103, 32] 6 rfl (by decide) (by omega) _) (cwV 1 hts gL_changes_J4_append_15ec4 rfl rfl rfl (by decide +kernel) ⟨Nat.le_of_ble_eq_true rfl, Nat.le_of_ble_eq_true rfl⟩) ⟨hb1, (va_recv hKB hP (ci := 8) (q0 := 0) rfl rfl), hp1⟩ rfl rfl hl.1 rfl (lv_room (Nat.le_of_ble_eq_true rfl)) dL_changes_350 ⟨Nat.le_of_ble_eq_true rfl, Nat.le_of_ble_eq_true rfl⟩) (fun ad350 H locs hP hD hS hz => ?_)
      have hP : va_P D vwCl ([(zb, .inr (8, [.ref (ad314 0), .int 0, .int 0, .int (nI (((((0 + 4) + dgl j327) + 1) + dgl j342) + 6))])), ((ad314 0), .inl (cB, 16, .inl (va_cpy (fun j => (([59, 104, 97, 110, 103, 32] : List Nat).map nI).getD j 0) f4 0 ((((0 + 4) + dgl j327) + 1) + dgl j342) 6)))] ++ Wd) _ := hP
      have hD : va_D A ([(zb, .inr (8, [.ref (ad314 0), .int 0, .int 0, .int (nI (((((0 + 4) + dgl j327) + 1) + dgl j342) + 6))])), ((ad314 0), .inl (cB, 16, .inl (va_cpy (fun j => (([59, 104, 97, 110, 103, 32] : List Nat).map nI).getD j 0) f4 0 ((((0 + 4) + dgl j327) + 1) + dgl j342) 6)))] ++ Wd) := hD
      have hBT := BT_str hBT (cs := [59, 104, 97, 110, 103, 32]) (len := 6) rfl (by decide)
      obtain ⟨f5, ef5⟩ : ∃ f9 : Nat → Int32, f9 = (va_cpy (fun j => (([59, 104, 97, 110, 103, 32] : List Nat).map nI).getD j 0) f4 0 ((((0 + 4) + dgl j327) + 1) + dgl j342) 6) := ⟨_, rfl⟩
      rw [← ef5] at hP hD hBT
      clear ef5
      have hP : va_P D vwCl ([(zb, .inr (8, [.ref (ad314 0), .int 0, .int 0, .int (nI (((((0 + 4) + dgl j327) + 1) + dgl j342) + 6))])), ((ad314 0), .inl (cB, 16, .inl f5))] ++ Wd) _ := hP
      have hD : va_D A ([(zb, .inr (8, [.ref (ad314 0), .int 0, .int 0, .int (nI (((((0 + 4) + dgl j327) + 1) + dgl j342) + 6))])), ((ad314 0), .inl (cB, 16, .inl f5))] ++ Wd) := hD
      refine lv_iload_n hx hb dL_changes_353 rfl (lv_at hl 1 rfl) ?_
      refine lv_bipush (v := nI 7) hx hb dL_changes_354 (by decide) ?_
      refine lv_ishr hx hb dL_changes_356 ?_
      refine lv_bipush (v := nI 8) hx hb dL_changes_357 (by decide) ?_
      refine lc_i (X := XT) (O := oT) (O' := (fun _ => oT)) (F := fT0) (As := [.int (v >>> ((nI 7) &&& 31)), .int (nI 8)]) (rest := [.ref zb, .ref q]) hF (c_L_some l D cI cJ cC cL (v >>> ((nI 7) &&& 31)) (nI 8) _ (by decide)) (va_cwS 2 hts gL_changes_L_some rfl rfl rfl (by decide +kernel) ⟨Nat.le_of_ble_eq_true rfl, Nat.le_of_ble_eq_true rfl⟩) rfl hl rfl (Nat.le_of_ble_eq_true rfl) dL_changes_359 ⟨Nat.le_of_ble_eq_true rfl, Nat.le_of_ble_eq_true rfl⟩ hK hN (KX_T) (fun _ _ => trivial) trivial hS ((fun q h => hA q (Nat.le_trans hS.1 h))) (fun r u9 H locs hr _ hS hz hk => ?_)
      subst hr
      have hP := hP.kept (fun k z h9 => hk z.1 ((hP k z h9).lt) (Nat.not_le.mpr ((hP k z h9).lt)))
      obtain ⟨j359, hj359, ej359⟩ := smv_of (v := v >>> ((nI 7) &&& 31)) (n := nI 8) (k := 8) (by omega) (by omega) rfl
      rw [ej359]
      have hdl359 := dgl_le j359
      have hd1359 : dgl j359 = 1 := if_pos (by omega)
      have hP : va_P D vwCl ([(zb, .inr (8, [.ref (ad314 0), .int 0, .int 0, .int (nI (((((0 + 4) + dgl j327) + 1) + dgl j342) + 6))])), ((ad314 0), .inl (cB, 16, .inl f5))] ++ Wd) _ := hP
      have hD : va_D A ([(zb, .inr (8, [.ref (ad314 0), .int 0, .int 0, .int (nI (((((0 + 4) + dgl j327) + 1) + dgl j342) + 6))])), ((ad314 0), .inl (cB, 16, .inl f5))] ++ Wd) := hD
      refine jf_r (X := XQ) (tys := (tyB cI cJ cC cL cB)) (av := [.ref zb, .int (nI j359)]) (wc := [(zb, .inr (8, [.ref (ad314 0), .int 0, .int 0, .int (nI (((((0 + 4) + dgl j327) + 1) + dgl j342) + 6))])), ((ad314 0), .inl (cB, 16, .inl f5))]) (wr := Wd) (w1 := (fun ad362 => [(zb, .inr (8, [.ref (ad314 0), .int 0, .int 0, .int (nI ((((((0 + 4) + dgl j327) + 1) + dgl j342) + 6) + dgl j359))])), ((ad314 0), .inl (cB, 16, .inl (dgf f5 ((((((0 + 4) + dgl j327) + 1) + dgl j342) + 6) + dgl j359) j359)))])) (rr := fun ad362 => zb) (mc := 0) (ms := 0) KX_XQ hXQ hKB hN hP hD hS hA (fun hb1 hp1 => va_runV (C := RJ4) (As := [.int (nI j359)]) (rest := [.ref q]) hF (c_J4_append_bf812 l D cI cJ cC cL cB zb (ad314 0) (((((0 + 4) + dgl j327) + 1) + dgl j342) + 6) f5 j359 (by omega) (by omega) _) (cwV 1 hts gL_changes_J4_append_bf812 rfl rfl rfl (by decide +kernel) ⟨Nat.le_of_ble_eq_true rfl, Nat.le_of_ble_eq_true rfl⟩) ⟨hb1, (va_recv hKB hP (ci := 8) (q0 := 0) rfl rfl), hp1⟩ rfl rfl hl.1 rfl (lv_room (Nat.le_of_ble_eq_true rfl)) dL_changes_362 ⟨Nat.le_of_ble_eq_true rfl, Nat.le_of_ble_eq_true rfl⟩) (fun ad362 H locs hP hD hS hz => ?_)
      have hP : va_P D vwCl ([(zb, .inr (8, [.ref (ad314 0), .int 0, .int 0, .int (nI ((((((0 + 4) + dgl j327) + 1) + dgl j342) + 6) + dgl j359))])), ((ad314 0), .inl (cB, 16, .inl (dgf f5 ((((((0 + 4) + dgl j327) + 1) + dgl j342) + 6) + dgl j359) j359)))] ++ Wd) _ := hP
      have hD : va_D A ([(zb, .inr (8, [.ref (ad314 0), .int 0, .int 0, .int (nI ((((((0 + 4) + dgl j327) + 1) + dgl j342) + 6) + dgl j359))])), ((ad314 0), .inl (cB, 16, .inl (dgf f5 ((((((0 + 4) + dgl j327) + 1) + dgl j342) + 6) + dgl j359) j359)))] ++ Wd) := hD
      have hBT := BT_int hBT (k := j359) (by omega)
      obtain ⟨f6, ef6⟩ : ∃ f9 : Nat → Int32, f9 = (dgf f5 ((((((0 + 4) + dgl j327) + 1) + dgl j342) + 6) + dgl j359) j359) := ⟨_, rfl⟩
      rw [← ef6] at hP hD hBT
      clear ef6
      have hP : va_P D vwCl ([(zb, .inr (8, [.ref (ad314 0), .int 0, .int 0, .int (nI ((((((0 + 4) + dgl j327) + 1) + dgl j342) + 6) + dgl j359))])), ((ad314 0), .inl (cB, 16, .inl f6))] ++ Wd) _ := hP
      have hD : va_D A ([(zb, .inr (8, [.ref (ad314 0), .int 0, .int 0, .int (nI ((((((0 + 4) + dgl j327) + 1) + dgl j342) + 6) + dgl j359))])), ((ad314 0), .inl (cB, 16, .inl f6))] ++ Wd) := hD
      obtain ⟨qs365, hr365, hs365⟩ := hXS.2 (RL, 161, "*1", [42, 49]) (by decide +kernel)
      refine va_ldcS hx hb hown hr365 dL_changes_365 ?_
      refine jf_r (X := (XQS qs365 (([42, 49] : List Nat).map nI))) (tys := (tyB cI cJ cC cL cB)) (av := [.ref zb, .ref qs365]) (wc := [(zb, .inr (8, [.ref (ad314 0), .int 0, .int 0, .int (nI ((((((0 + 4) + dgl j327) + 1) + dgl j342) + 6) + dgl j359))])), ((ad314 0), .inl (cB, 16, .inl f6))]) (wr := Wd) (w1 := (fun ad367 => [(zb, .inr (8, [.ref (ad314 0), .int 0, .int 0, .int (nI (((((((0 + 4) + dgl j327) + 1) + dgl j342) + 6) + dgl j359) + 2))])), ((ad314 0), .inl (cB, 16, .inl (va_cpy (fun j => (([42, 49] : List Nat).map nI).getD j 0) f6 0 ((((((0 + 4) + dgl j327) + 1) + dgl j342) + 6) + dgl j359) 2)))])) (rr := fun ad367 => zb) (mc := 0) (ms := 0) KX_XQS (show XQ A s s.heap ∧ isStr qs365 (([42, 49] : List Nat).map nI) A s s.heap from ⟨hXQ, hs365⟩) hKB hN hP hD hS hA (fun hb1 hp1 => va_runV (C := RJ4) (As := [.ref qs365]) (rest := [.ref q]) hF (c_J4_append_15ec4 l D cI cJ cC cL cB zb (ad314 0) ((((((0 + 4) + dgl j327) + 1) + dgl j342) + 6) + dgl j359) f6 qs365 [42, 49] 2 rfl (by decide) (by omega) _) (cwV 1 hts gL_changes_J4_append_15ec4 rfl rfl rfl (by decide +kernel) ⟨Nat.le_of_ble_eq_true rfl, Nat.le_of_ble_eq_true rfl⟩) ⟨hb1, (va_recv hKB hP (ci := 8) (q0 := 0) rfl rfl), hp1⟩ rfl rfl hl.1 rfl (lv_room (Nat.le_of_ble_eq_true rfl)) dL_changes_367 ⟨Nat.le_of_ble_eq_true rfl, Nat.le_of_ble_eq_true rfl⟩) (fun ad367 H locs hP hD hS hz => ?_)
      have hP : va_P D vwCl ([(zb, .inr (8, [.ref (ad314 0), .int 0, .int 0, .int (nI (((((((0 + 4) + dgl j327) + 1) + dgl j342) + 6) + dgl j359) + 2))])), ((ad314 0), .inl (cB, 16, .inl (va_cpy (fun j => (([42, 49] : List Nat).map nI).getD j 0) f6 0 ((((((0 + 4) + dgl j327) + 1) + dgl j342) + 6) + dgl j359) 2)))] ++ Wd) _ := hP
      have hD : va_D A ([(zb, .inr (8, [.ref (ad314 0), .int 0, .int 0, .int (nI (((((((0 + 4) + dgl j327) + 1) + dgl j342) + 6) + dgl j359) + 2))])), ((ad314 0), .inl (cB, 16, .inl (va_cpy (fun j => (([42, 49] : List Nat).map nI).getD j 0) f6 0 ((((((0 + 4) + dgl j327) + 1) + dgl j342) + 6) + dgl j359) 2)))] ++ Wd) := hD
      have hBT := BT_str hBT (cs := [42, 49]) (len := 2) rfl (by decide)
      obtain ⟨f7, ef7⟩ : ∃ f9 : Nat → Int32, f9 = (va_cpy (fun j => (([42, 49] : List Nat).map nI).getD j 0) f6 0 ((((((0 + 4) + dgl j327) + 1) + dgl j342) + 6) + dgl j359) 2) := ⟨_, rfl⟩
      rw [← ef7] at hP hD hBT
      clear ef7
      have hP : va_P D vwCl ([(zb, .inr (8, [.ref (ad314 0), .int 0, .int 0, .int (nI (((((((0 + 4) + dgl j327) + 1) + dgl j342) + 6) + dgl j359) + 2))])), ((ad314 0), .inl (cB, 16, .inl f7))] ++ Wd) _ := hP
      have hD : va_D A ([(zb, .inr (8, [.ref (ad314 0), .int 0, .int 0, .int (nI (((((((0 + 4) + dgl j327) + 1) + dgl j342) + 6) + dgl j359) + 2))])), ((ad314 0), .inl (cB, 16, .inl f7))] ++ Wd) := hD
      refine jf_r (X := XQ) (tys := (tyB cI cJ cC cL cB)) (av := [.ref zb]) (wc := [(zb, .inr (8, [.ref (ad314 0), .int 0, .int 0, .int (nI (((((((0 + 4) + dgl j327) + 1) + dgl j342) + 6) + dgl j359) + 2))])), ((ad314 0), .inl (cB, 16, .inl f7))]) (wr := Wd) (w1 := (fun ad370 => [(zb, .inr (8, [.ref (ad314 0), .int 0, .int 0, .int (nI (((((((0 + 4) + dgl j327) + 1) + dgl j342) + 6) + dgl j359) + 2))])), ((ad314 0), .inl (cB, 16, .inl f7)), ((ad370 0), .inr (9, [.ref (ad370 1), .int 0, .int 0, .int 0])), ((ad370 1), .inl (cB, (((((((0 + 4) + dgl j327) + 1) + dgl j342) + 6) + dgl j359) + 2), .inl (va_cpy f7 (fun _ => 0) 0 0 (((((((0 + 4) + dgl j327) + 1) + dgl j342) + 6) + dgl j359) + 2))))])) (rr := fun ad370 => ad370 0) (mc := 2) (ms := 20) KX_XQ hXQ hKB hN hP hD hS hA (fun hb1 hp1 => va_runV (C := RJ4) (As := []) (rest := [.ref q]) hF (c_J4_toString_0e30d l D cI cJ cC cL cB zb (ad314 0) (((((((0 + 4) + dgl j327) + 1) + dgl j342) + 6) + dgl j359) + 2) f7 (by omega) hBT.2.2.2 _) (cwV 0 hts gL_changes_J4_toString_0e30d rfl rfl rfl (by decide +kernel) ⟨Nat.le_of_ble_eq_true rfl, Nat.le_of_ble_eq_true rfl⟩) ⟨hb1, (va_recv hKB hP (ci := 8) (q0 := 0) rfl rfl), hp1⟩ rfl rfl hl.1 rfl (lv_room (Nat.le_of_ble_eq_true rfl)) dL_changes_370 ⟨Nat.le_of_ble_eq_true rfl, Nat.le_of_ble_eq_true rfl⟩) (fun ad370 H locs hP hD hS hz => ?_)
      have hP : va_P D vwCl ([(zb, .inr (8, [.ref (ad314 0), .int 0, .int 0, .int (nI (((((((0 + 4) + dgl j327) + 1) + dgl j342) + 6) + dgl j359) + 2))])), ((ad314 0), .inl (cB, 16, .inl f7)), ((ad370 0), .inr (9, [.ref (ad370 1), .int 0, .int 0, .int 0])), ((ad370 1), .inl (cB, (((((((0 + 4) + dgl j327) + 1) + dgl j342) + 6) + dgl j359) + 2), .inl (va_cpy f7 (fun _ => 0) 0 0 (((((((0 + 4) + dgl j327) + 1) + dgl j342) + 6) + dgl j359) + 2))))] ++ Wd) _ := hP
      have hD : va_D A ([(zb, .inr (8, [.ref (ad314 0), .int 0, .int 0, .int (nI (((((((0 + 4) + dgl j327) + 1) + dgl j342) + 6) + dgl j359) + 2))])), ((ad314 0), .inl (cB, 16, .inl f7)), ((ad370 0), .inr (9, [.ref (ad370 1), .int 0, .int 0, .int 0])), ((ad370 1), .inl (cB, (((((((0 + 4) + dgl j327) + 1) + dgl j342) + 6) + dgl j359) + 2), .inl (va_cpy f7 (fun _ => 0) 0 0 (((((((0 + 4) + dgl j327) + 1) + dgl j342) + 6) + dgl j359) + 2))))] ++ Wd) := hD
      have hO := hback A H (vP_right hP) (vD_right hD)
      have hsub := OBJ_sub hO (fun z h => hA z (Nat.le_trans hS.1 h))
      obtain ⟨wsT, hBT⟩ : ∃ ws : List Nat, BT f7 (((((((0 + 4) + dgl j327) + 1) + dgl j342) + 6) + dgl j359) + 2) ws := ⟨_, hBT⟩
      have hstr : isStr (ad370 0) (wsT.map nI) (OA q ax H.size) s H := str_of (i := 2) (j := 3) (t := 4) (by rw [List.length_map]; exact hBT.1) hts hin_J0 hKB hP rfl rfl rfl (BT_new hBT) (not_OA hP hD had (i := 2) rfl) (not_OA hP hD had (i := 3) rfl)
      obtain ⟨qt, eqt⟩ : ∃ qt : Nat, qt = ad370 0 := ⟨_, rfl⟩
      rw [← eqt] at hstr ⊢
      have hwl : wsT.length ≤ 60 := by rw [hBT.1]; omega
      have hwr := BT_rng hBT
      refine W_raise (c1 := 8) (s1 := 80) (Nat.le_of_ble_eq_true rfl) (Nat.le_of_ble_eq_true rfl) ?_
      refine lc_i (X := (fun A U H => XS A U H ∧ isStr qt (wsT.map nI) A U H)) (O := (fun A H => OBJ D cI cJ cC cL A q ax B g hy N u0 sb gs (0) tg nL lc nr rn rd H)) (O' := (fun (u : ((Nat → Nat) × (Nat → Nat → Nat) × Nat × Nat × Nat × (Nat → Int32) × (Nat → Int32))) A H => OBJ D cI cJ cC cL A q ax (B + 100000) (u.1) (u.2.1) (u.2.2.1) (u.2.2.2.1) sb gs (0) tg nL lc (u.2.2.2.2.1) (u.2.2.2.2.2.1) (u.2.2.2.2.2.2) H)) (F := (OA q ax)) (As := [.ref q, .ref qt]) (rest := []) hF (c_L_reads l D cI cJ cC cL q ax B g hy N u0 sb gs tg nL lc nr rn rd qt wsT hwl hwr (IN_run_any (OBJ_G hO)) _) (va_cwS 2 hts gL_changes_L_reads rfl rfl rfl (by decide +kernel) ⟨Nat.le_of_ble_eq_true rfl, Nat.le_of_ble_eq_true rfl⟩) rfl hl rfl (Nat.le_of_ble_eq_true rfl) dL_changes_373 ⟨Nat.le_of_ble_eq_true rfl, Nat.le_of_ble_eq_true rfl⟩ hK hN ((KX_and KX_XS KX_isStr)) (fun U hW => ⟨X_at KX_XS hXS hS hsub U hW, KX_isStr.2.1 _ s U H hW hstr⟩) (OBJ_at hO _) hS (hsub) (fun r v9 H locs hr hO1 hS hz hk => ?_)
      have hO := OBJ_to hO1 hsub
      clear hsub hO1
      obtain ⟨g', hl', N', u', n', rn', rd'⟩ := v9
      obtain ⟨hch, hp⟩ := hr
      dsimp only at hch hp hO
      refine lv_if_lt (tgt := 383) hx hb dL_changes_376 (by decide) (fun hc => ?_) (fun hc => ?_)
      · refine lv_iconst (v := nI 0) hx hb dL_changes_383 (by decide) ?_
        exact hRet (g', hl', N', u', n', rn', rd') (Or.inl rfl) (Or.inr ⟨rfl, MS_r hch hc⟩) hO hS dL_changes_384
      · refine lv_iconst (v := nI 1) hx hb dL_changes_379 (by decide) ?_
        refine lv_goto (tgt := 384) hx hb dL_changes_380 (by decide) ?_
        exact hRet (g', hl', N', u', n', rn', rd') (Or.inr rfl) (Or.inl ⟨rfl, MS_c hch hc⟩) hO hS dL_changes_384
    · obtain ⟨Wd, hP, hD, had, hback⟩ := OBJ_W hO
      obtain ⟨cB, hb1, hb2⟩ := start_arr (hts (.arrayClass .byte) (by decide +kernel))
      have hKB := K_byte hK hb1 hb2
      have hXQ : XQ A s s.heap := ⟨hXS.1, hX.2.1, hX.2.2⟩
      refine va_new (ci := 8) (fs := [.null, .int 0, .int 0, .int 0]) (C := RJ4) (T := TJ4) (N := 4) hx hb hts hin_J4 tyJ4 tyJ4_ok hown (hts (.classLink RL 136 RJ4) (by decide +kernel)) (hts (.instantiable RJ4 4) (by decide +kernel)) (hts (.initialized RJ4) (by decide +kernel)) hKB hP hD hS hA rfl (fun j hj => by rcases (show j = 0 ∨ j = 1 ∨ j = 2 ∨ j = 3 by omega) with rfl | rfl | rfl | rfl <;> rfl) (Nat.le_of_ble_eq_true rfl) (Nat.le_of_ble_eq_true rfl) dL_changes_261 (fun zb H hP hD hS => ?_)
      have hP := vP_swap hP
      have hD := vD_swap hD
      have hP : va_P D vwCl ([(zb, .inr (8, [.null, .int 0, .int 0, .int 0]))] ++ Wd) _ := hP
      have hD : va_D A ([(zb, .inr (8, [.null, .int 0, .int 0, .int 0]))] ++ Wd) := hD
      refine lv_dup hx hb dL_changes_264 rfl ?_
      refine jf_v (X := XQ) (tys := (tyB cI cJ cC cL cB)) (av := [.ref zb]) (wc := [(zb, .inr (8, [.null, .int 0, .int 0, .int 0]))]) (wr := Wd) (w1 := (fun ad265 => [(zb, .inr (8, [.ref (ad265 0), .int 0, .int 0, .int (nI (0))])), ((ad265 0), .inl (cB, 16, .inl (fun _ => 0)))])) (mc := 1) (ms := 16) KX_XQ hXQ hKB hN hP hD hS hA (fun hb1 hp1 => va_runI (As := []) (rest := [.ref zb, .ref q]) hF (c_J4_init_da8c8 l D cI cJ cC cL cB zb _) (cwI 0 hts gL_changes_J4_init_da8c8 rfl rfl rfl (hts (.initialized RJ4) (by decide +kernel)) (hts (.methodLink RL 138 yJ4_init_da8c8) (by decide +kernel)) (hts (.instanceMethod yJ4_init_da8c8) (by decide +kernel)) rfl (by decide +kernel) ⟨Nat.le_of_ble_eq_true rfl, Nat.le_of_ble_eq_true rfl⟩) ⟨hb1, hp1⟩ rfl rfl hl.1 rfl (lv_room (Nat.le_of_ble_eq_true rfl)) dL_changes_265 ⟨Nat.le_of_ble_eq_true rfl, Nat.le_of_ble_eq_true rfl⟩) (fun ad265 H locs hP hD hS hz => ?_)
      have hP : va_P D vwCl ([(zb, .inr (8, [.ref (ad265 0), .int 0, .int 0, .int (nI (0))])), ((ad265 0), .inl (cB, 16, .inl (fun _ => 0)))] ++ Wd) _ := hP
      have hD : va_D A ([(zb, .inr (8, [.ref (ad265 0), .int 0, .int 0, .int (nI (0))])), ((ad265 0), .inl (cB, 16, .inl (fun _ => 0)))] ++ Wd) := hD
      have hBT := BT_0
      obtain ⟨qs268, hr268, hs268⟩ := hXS.2 (RL, 139, "tick ", [116, 105, 99, 107, 32]) (by decide +kernel)
      refine va_ldcS hx hb hown hr268 dL_changes_268 ?_
      refine jf_r (X := (XQS qs268 (([116, 105, 99, 107, 32] : List Nat).map nI))) (tys := (tyB cI cJ cC cL cB)) (av := [.ref zb, .ref qs268]) (wc := [(zb, .inr (8, [.ref (ad265 0), .int 0, .int 0, .int (nI (0))])), ((ad265 0), .inl (cB, 16, .inl (fun _ => 0)))]) (wr := Wd) (w1 := (fun ad270 => [(zb, .inr (8, [.ref (ad265 0), .int 0, .int 0, .int (nI (0 + 5))])), ((ad265 0), .inl (cB, 16, .inl (va_cpy (fun j => (([116, 105, 99, 107, 32] : List Nat).map nI).getD j 0) (fun _ => 0) 0 (0) 5)))])) (rr := fun ad270 => zb) (mc := 0) (ms := 0) KX_XQS (show XQ A s s.heap ∧ isStr qs268 (([116, 105, 99, 107, 32] : List Nat).map nI) A s s.heap from ⟨hXQ, hs268⟩) hKB hN hP hD hS hA (fun hb1 hp1 => va_runV (C := RJ4) (As := [.ref qs268]) (rest := [.ref q]) hF (c_J4_append_15ec4 l D cI cJ cC cL cB zb (ad265 0) (0) (fun _ => 0) qs268 [116, 105, 99, 107, 32] 5 rfl (by decide) (by omega) _) (cwV 1 hts gL_changes_J4_append_15ec4 rfl rfl rfl (by decide +kernel) ⟨Nat.le_of_ble_eq_true rfl, Nat.le_of_ble_eq_true rfl⟩) ⟨hb1, (va_recv hKB hP (ci := 8) (q0 := 0) rfl rfl), hp1⟩ rfl rfl hl.1 rfl (lv_room (Nat.le_of_ble_eq_true rfl)) dL_changes_270 ⟨Nat.le_of_ble_eq_true rfl, Nat.le_of_ble_eq_true rfl⟩) (fun ad270 H locs hP hD hS hz => ?_)
      have hP : va_P D vwCl ([(zb, .inr (8, [.ref (ad265 0), .int 0, .int 0, .int (nI (0 + 5))])), ((ad265 0), .inl (cB, 16, .inl (va_cpy (fun j => (([116, 105, 99, 107, 32] : List Nat).map nI).getD j 0) (fun _ => 0) 0 (0) 5)))] ++ Wd) _ := hP
      have hD : va_D A ([(zb, .inr (8, [.ref (ad265 0), .int 0, .int 0, .int (nI (0 + 5))])), ((ad265 0), .inl (cB, 16, .inl (va_cpy (fun j => (([116, 105, 99, 107, 32] : List Nat).map nI).getD j 0) (fun _ => 0) 0 (0) 5)))] ++ Wd) := hD
      have hBT := BT_str hBT (cs := [116, 105, 99, 107, 32]) (len := 5) rfl (by decide)
      obtain ⟨f1, ef1⟩ : ∃ f9 : Nat → Int32, f9 = (va_cpy (fun j => (([116, 105, 99, 107, 32] : List Nat).map nI).getD j 0) (fun _ => 0) 0 (0) 5) := ⟨_, rfl⟩
      rw [← ef1] at hP hD hBT
      clear ef1
      have hP : va_P D vwCl ([(zb, .inr (8, [.ref (ad265 0), .int 0, .int 0, .int (nI (0 + 5))])), ((ad265 0), .inl (cB, 16, .inl f1))] ++ Wd) _ := hP
      have hD : va_D A ([(zb, .inr (8, [.ref (ad265 0), .int 0, .int 0, .int (nI (0 + 5))])), ((ad265 0), .inl (cB, 16, .inl f1))] ++ Wd) := hD
      refine lv_iload_n hx hb dL_changes_273 rfl (lv_at hl 1 rfl) ?_
      refine lv_iconst (v := nI 3) hx hb dL_changes_274 (by decide) ?_
      refine lv_ishr hx hb dL_changes_275 ?_
      refine lv_bipush (v := nI 12) hx hb dL_changes_276 (by decide) ?_
      refine lc_i (X := XT) (O := oT) (O' := (fun _ => oT)) (F := fT0) (As := [.int (v >>> ((nI 3) &&& 31)), .int (nI 12)]) (rest := [.ref zb, .ref q]) hF (c_L_some l D cI cJ cC cL (v >>> ((nI 3) &&& 31)) (nI 12) _ (by decide)) (va_cwS 2 hts gL_changes_L_some rfl rfl rfl (by decide +kernel) ⟨Nat.le_of_ble_eq_true rfl, Nat.le_of_ble_eq_true rfl⟩) rfl hl rfl (Nat.le_of_ble_eq_true rfl) dL_changes_278 ⟨Nat.le_of_ble_eq_true rfl, Nat.le_of_ble_eq_true rfl⟩ hK hN (KX_T) (fun _ _ => trivial) trivial hS ((fun q h => hA q (Nat.le_trans hS.1 h))) (fun r u9 H locs hr _ hS hz hk => ?_)
      subst hr
      have hP := hP.kept (fun k z h9 => hk z.1 ((hP k z h9).lt) (Nat.not_le.mpr ((hP k z h9).lt)))
      obtain ⟨j278, hj278, ej278⟩ := smv_of (v := v >>> ((nI 3) &&& 31)) (n := nI 12) (k := 12) (by omega) (by omega) rfl
      rw [ej278]
      have hdl278 := dgl_le j278
      have hP : va_P D vwCl ([(zb, .inr (8, [.ref (ad265 0), .int 0, .int 0, .int (nI (0 + 5))])), ((ad265 0), .inl (cB, 16, .inl f1))] ++ Wd) _ := hP
      have hD : va_D A ([(zb, .inr (8, [.ref (ad265 0), .int 0, .int 0, .int (nI (0 + 5))])), ((ad265 0), .inl (cB, 16, .inl f1))] ++ Wd) := hD
      refine jf_r (X := XQ) (tys := (tyB cI cJ cC cL cB)) (av := [.ref zb, .int (nI j278)]) (wc := [(zb, .inr (8, [.ref (ad265 0), .int 0, .int 0, .int (nI (0 + 5))])), ((ad265 0), .inl (cB, 16, .inl f1))]) (wr := Wd) (w1 := (fun ad281 => [(zb, .inr (8, [.ref (ad265 0), .int 0, .int 0, .int (nI ((0 + 5) + dgl j278))])), ((ad265 0), .inl (cB, 16, .inl (dgf f1 ((0 + 5) + dgl j278) j278)))])) (rr := fun ad281 => zb) (mc := 0) (ms := 0) KX_XQ hXQ hKB hN hP hD hS hA (fun hb1 hp1 => va_runV (C := RJ4) (As := [.int (nI j278)]) (rest := [.ref q]) hF (c_J4_append_bf812 l D cI cJ cC cL cB zb (ad265 0) (0 + 5) f1 j278 (by omega) (by omega) _) (cwV 1 hts gL_changes_J4_append_bf812 rfl rfl rfl (by decide +kernel) ⟨Nat.le_of_ble_eq_true rfl, Nat.le_of_ble_eq_true rfl⟩) ⟨hb1, (va_recv hKB hP (ci := 8) (q0 := 0) rfl rfl), hp1⟩ rfl rfl hl.1 rfl (lv_room (Nat.le_of_ble_eq_true rfl)) dL_changes_281 ⟨Nat.le_of_ble_eq_true rfl, Nat.le_of_ble_eq_true rfl⟩) (fun ad281 H locs hP hD hS hz => ?_)
      have hP : va_P D vwCl ([(zb, .inr (8, [.ref (ad265 0), .int 0, .int 0, .int (nI ((0 + 5) + dgl j278))])), ((ad265 0), .inl (cB, 16, .inl (dgf f1 ((0 + 5) + dgl j278) j278)))] ++ Wd) _ := hP
      have hD : va_D A ([(zb, .inr (8, [.ref (ad265 0), .int 0, .int 0, .int (nI ((0 + 5) + dgl j278))])), ((ad265 0), .inl (cB, 16, .inl (dgf f1 ((0 + 5) + dgl j278) j278)))] ++ Wd) := hD
      have hBT := BT_int hBT (k := j278) (by omega)
      obtain ⟨f2, ef2⟩ : ∃ f9 : Nat → Int32, f9 = (dgf f1 ((0 + 5) + dgl j278) j278) := ⟨_, rfl⟩
      rw [← ef2] at hP hD hBT
      clear ef2
      have hP : va_P D vwCl ([(zb, .inr (8, [.ref (ad265 0), .int 0, .int 0, .int (nI ((0 + 5) + dgl j278))])), ((ad265 0), .inl (cB, 16, .inl f2))] ++ Wd) _ := hP
      have hD : va_D A ([(zb, .inr (8, [.ref (ad265 0), .int 0, .int 0, .int (nI ((0 + 5) + dgl j278))])), ((ad265 0), .inl (cB, 16, .inl f2))] ++ Wd) := hD
      obtain ⟨qs284, hr284, hs284⟩ := hXS.2 (RL, 147, ";set ", [59, 115, 101, 116, 32]) (by decide +kernel)
      refine va_ldcS hx hb hown hr284 dL_changes_284 ?_
      refine jf_r (X := (XQS qs284 (([59, 115, 101, 116, 32] : List Nat).map nI))) (tys := (tyB cI cJ cC cL cB)) (av := [.ref zb, .ref qs284]) (wc := [(zb, .inr (8, [.ref (ad265 0), .int 0, .int 0, .int (nI ((0 + 5) + dgl j278))])), ((ad265 0), .inl (cB, 16, .inl f2))]) (wr := Wd) (w1 := (fun ad286 => [(zb, .inr (8, [.ref (ad265 0), .int 0, .int 0, .int (nI (((0 + 5) + dgl j278) + 5))])), ((ad265 0), .inl (cB, 16, .inl (va_cpy (fun j => (([59, 115, 101, 116, 32] : List Nat).map nI).getD j 0) f2 0 ((0 + 5) + dgl j278) 5)))])) (rr := fun ad286 => zb) (mc := 0) (ms := 0) KX_XQS (show XQ A s s.heap ∧ isStr qs284 (([59, 115, 101, 116, 32] : List Nat).map nI) A s s.heap from ⟨hXQ, hs284⟩) hKB hN hP hD hS hA (fun hb1 hp1 => va_runV (C := RJ4) (As := [.ref qs284]) (rest := [.ref q]) hF (c_J4_append_15ec4 l D cI cJ cC cL cB zb (ad265 0) ((0 + 5) + dgl j278) f2 qs284 [59, 115, 101, 116, 32] 5 rfl (by decide) (by omega) _) (cwV 1 hts gL_changes_J4_append_15ec4 rfl rfl rfl (by decide +kernel) ⟨Nat.le_of_ble_eq_true rfl, Nat.le_of_ble_eq_true rfl⟩) ⟨hb1, (va_recv hKB hP (ci := 8) (q0 := 0) rfl rfl), hp1⟩ rfl rfl hl.1 rfl (lv_room (Nat.le_of_ble_eq_true rfl)) dL_changes_286 ⟨Nat.le_of_ble_eq_true rfl, Nat.le_of_ble_eq_true rfl⟩) (fun ad286 H locs hP hD hS hz => ?_)
      have hP : va_P D vwCl ([(zb, .inr (8, [.ref (ad265 0), .int 0, .int 0, .int (nI (((0 + 5) + dgl j278) + 5))])), ((ad265 0), .inl (cB, 16, .inl (va_cpy (fun j => (([59, 115, 101, 116, 32] : List Nat).map nI).getD j 0) f2 0 ((0 + 5) + dgl j278) 5)))] ++ Wd) _ := hP
      have hD : va_D A ([(zb, .inr (8, [.ref (ad265 0), .int 0, .int 0, .int (nI (((0 + 5) + dgl j278) + 5))])), ((ad265 0), .inl (cB, 16, .inl (va_cpy (fun j => (([59, 115, 101, 116, 32] : List Nat).map nI).getD j 0) f2 0 ((0 + 5) + dgl j278) 5)))] ++ Wd) := hD
      have hBT := BT_str hBT (cs := [59, 115, 101, 116, 32]) (len := 5) rfl (by decide)
      obtain ⟨f3, ef3⟩ : ∃ f9 : Nat → Int32, f9 = (va_cpy (fun j => (([59, 115, 101, 116, 32] : List Nat).map nI).getD j 0) f2 0 ((0 + 5) + dgl j278) 5) := ⟨_, rfl⟩
      rw [← ef3] at hP hD hBT
      clear ef3
      have hP : va_P D vwCl ([(zb, .inr (8, [.ref (ad265 0), .int 0, .int 0, .int (nI (((0 + 5) + dgl j278) + 5))])), ((ad265 0), .inl (cB, 16, .inl f3))] ++ Wd) _ := hP
      have hD : va_D A ([(zb, .inr (8, [.ref (ad265 0), .int 0, .int 0, .int (nI (((0 + 5) + dgl j278) + 5))])), ((ad265 0), .inl (cB, 16, .inl f3))] ++ Wd) := hD
      refine lv_iload_n hx hb dL_changes_289 rfl (lv_at hl 1 rfl) ?_
      refine lv_iconst (v := nI 5) hx hb dL_changes_290 (by decide) ?_
      refine lv_ishr hx hb dL_changes_291 ?_
      refine lv_iconst (v := nI 4) hx hb dL_changes_292 (by decide) ?_
      refine lc_i (X := XT) (O := oT) (O' := (fun _ => oT)) (F := fT0) (As := [.int (v >>> ((nI 5) &&& 31)), .int (nI 4)]) (rest := [.ref zb, .ref q]) hF (c_L_some l D cI cJ cC cL (v >>> ((nI 5) &&& 31)) (nI 4) _ (by decide)) (va_cwS 2 hts gL_changes_L_some rfl rfl rfl (by decide +kernel) ⟨Nat.le_of_ble_eq_true rfl, Nat.le_of_ble_eq_true rfl⟩) rfl hl rfl (Nat.le_of_ble_eq_true rfl) dL_changes_293 ⟨Nat.le_of_ble_eq_true rfl, Nat.le_of_ble_eq_true rfl⟩ hK hN (KX_T) (fun _ _ => trivial) trivial hS ((fun q h => hA q (Nat.le_trans hS.1 h))) (fun r u9 H locs hr _ hS hz hk => ?_)
      subst hr
      have hP := hP.kept (fun k z h9 => hk z.1 ((hP k z h9).lt) (Nat.not_le.mpr ((hP k z h9).lt)))
      obtain ⟨j293, hj293, ej293⟩ := smv_of (v := v >>> ((nI 5) &&& 31)) (n := nI 4) (k := 4) (by omega) (by omega) rfl
      rw [ej293]
      have hdl293 := dgl_le j293
      have hd1293 : dgl j293 = 1 := if_pos (by omega)
      have hP : va_P D vwCl ([(zb, .inr (8, [.ref (ad265 0), .int 0, .int 0, .int (nI (((0 + 5) + dgl j278) + 5))])), ((ad265 0), .inl (cB, 16, .inl f3))] ++ Wd) _ := hP
      have hD : va_D A ([(zb, .inr (8, [.ref (ad265 0), .int 0, .int 0, .int (nI (((0 + 5) + dgl j278) + 5))])), ((ad265 0), .inl (cB, 16, .inl f3))] ++ Wd) := hD
      refine jf_r (X := XQ) (tys := (tyB cI cJ cC cL cB)) (av := [.ref zb, .int (nI j293)]) (wc := [(zb, .inr (8, [.ref (ad265 0), .int 0, .int 0, .int (nI (((0 + 5) + dgl j278) + 5))])), ((ad265 0), .inl (cB, 16, .inl f3))]) (wr := Wd) (w1 := (fun ad296 => [(zb, .inr (8, [.ref (ad265 0), .int 0, .int 0, .int (nI ((((0 + 5) + dgl j278) + 5) + dgl j293))])), ((ad265 0), .inl (cB, 16, .inl (dgf f3 ((((0 + 5) + dgl j278) + 5) + dgl j293) j293)))])) (rr := fun ad296 => zb) (mc := 0) (ms := 0) KX_XQ hXQ hKB hN hP hD hS hA (fun hb1 hp1 => va_runV (C := RJ4) (As := [.int (nI j293)]) (rest := [.ref q]) hF (c_J4_append_bf812 l D cI cJ cC cL cB zb (ad265 0) (((0 + 5) + dgl j278) + 5) f3 j293 (by omega) (by omega) _) (cwV 1 hts gL_changes_J4_append_bf812 rfl rfl rfl (by decide +kernel) ⟨Nat.le_of_ble_eq_true rfl, Nat.le_of_ble_eq_true rfl⟩) ⟨hb1, (va_recv hKB hP (ci := 8) (q0 := 0) rfl rfl), hp1⟩ rfl rfl hl.1 rfl (lv_room (Nat.le_of_ble_eq_true rfl)) dL_changes_296 ⟨Nat.le_of_ble_eq_true rfl, Nat.le_of_ble_eq_true rfl⟩) (fun ad296 H locs hP hD hS hz => ?_)
      have hP : va_P D vwCl ([(zb, .inr (8, [.ref (ad265 0), .int 0, .int 0, .int (nI ((((0 + 5) + dgl j278) + 5) + dgl j293))])), ((ad265 0), .inl (cB, 16, .inl (dgf f3 ((((0 + 5) + dgl j278) + 5) + dgl j293) j293)))] ++ Wd) _ := hP
      have hD : va_D A ([(zb, .inr (8, [.ref (ad265 0), .int 0, .int 0, .int (nI ((((0 + 5) + dgl j278) + 5) + dgl j293))])), ((ad265 0), .inl (cB, 16, .inl (dgf f3 ((((0 + 5) + dgl j278) + 5) + dgl j293) j293)))] ++ Wd) := hD
      have hBT := BT_int hBT (k := j293) (by omega)
      obtain ⟨f4, ef4⟩ : ∃ f9 : Nat → Int32, f9 = (dgf f3 ((((0 + 5) + dgl j278) + 5) + dgl j293) j293) := ⟨_, rfl⟩
      rw [← ef4] at hP hD hBT
      clear ef4
      have hP : va_P D vwCl ([(zb, .inr (8, [.ref (ad265 0), .int 0, .int 0, .int (nI ((((0 + 5) + dgl j278) + 5) + dgl j293))])), ((ad265 0), .inl (cB, 16, .inl f4))] ++ Wd) _ := hP
      have hD : va_D A ([(zb, .inr (8, [.ref (ad265 0), .int 0, .int 0, .int (nI ((((0 + 5) + dgl j278) + 5) + dgl j293))])), ((ad265 0), .inl (cB, 16, .inl f4))] ++ Wd) := hD
      obtain ⟨qs299, hr299, hs299⟩ := hXS.2 (RL, 149, "+", [43]) (by decide +kernel)
      refine va_ldcS hx hb hown hr299 dL_changes_299 ?_
      refine jf_r (X := (XQS qs299 (([43] : List Nat).map nI))) (tys := (tyB cI cJ cC cL cB)) (av := [.ref zb, .ref qs299]) (wc := [(zb, .inr (8, [.ref (ad265 0), .int 0, .int 0, .int (nI ((((0 + 5) + dgl j278) + 5) + dgl j293))])), ((ad265 0), .inl (cB, 16, .inl f4))]) (wr := Wd) (w1 := (fun ad301 => [(zb, .inr (8, [.ref (ad265 0), .int 0, .int 0, .int (nI (((((0 + 5) + dgl j278) + 5) + dgl j293) + 1))])), ((ad265 0), .inl (cB, 16, .inl (va_cpy (fun j => (([43] : List Nat).map nI).getD j 0) f4 0 ((((0 + 5) + dgl j278) + 5) + dgl j293) 1)))])) (rr := fun ad301 => zb) (mc := 0) (ms := 0) KX_XQS (show XQ A s s.heap ∧ isStr qs299 (([43] : List Nat).map nI) A s s.heap from ⟨hXQ, hs299⟩) hKB hN hP hD hS hA (fun hb1 hp1 => va_runV (C := RJ4) (As := [.ref qs299]) (rest := [.ref q]) hF (c_J4_append_15ec4 l D cI cJ cC cL cB zb (ad265 0) ((((0 + 5) + dgl j278) + 5) + dgl j293) f4 qs299 [43] 1 rfl (by decide) (by omega) _) (cwV 1 hts gL_changes_J4_append_15ec4 rfl rfl rfl (by decide +kernel) ⟨Nat.le_of_ble_eq_true rfl, Nat.le_of_ble_eq_true rfl⟩) ⟨hb1, (va_recv hKB hP (ci := 8) (q0 := 0) rfl rfl), hp1⟩ rfl rfl hl.1 rfl (lv_room (Nat.le_of_ble_eq_true rfl)) dL_changes_301 ⟨Nat.le_of_ble_eq_true rfl, Nat.le_of_ble_eq_true rfl⟩) (fun ad301 H locs hP hD hS hz => ?_)
      have hP : va_P D vwCl ([(zb, .inr (8, [.ref (ad265 0), .int 0, .int 0, .int (nI (((((0 + 5) + dgl j278) + 5) + dgl j293) + 1))])), ((ad265 0), .inl (cB, 16, .inl (va_cpy (fun j => (([43] : List Nat).map nI).getD j 0) f4 0 ((((0 + 5) + dgl j278) + 5) + dgl j293) 1)))] ++ Wd) _ := hP
      have hD : va_D A ([(zb, .inr (8, [.ref (ad265 0), .int 0, .int 0, .int (nI (((((0 + 5) + dgl j278) + 5) + dgl j293) + 1))])), ((ad265 0), .inl (cB, 16, .inl (va_cpy (fun j => (([43] : List Nat).map nI).getD j 0) f4 0 ((((0 + 5) + dgl j278) + 5) + dgl j293) 1)))] ++ Wd) := hD
      have hBT := BT_str hBT (cs := [43]) (len := 1) rfl (by decide)
      obtain ⟨f5, ef5⟩ : ∃ f9 : Nat → Int32, f9 = (va_cpy (fun j => (([43] : List Nat).map nI).getD j 0) f4 0 ((((0 + 5) + dgl j278) + 5) + dgl j293) 1) := ⟨_, rfl⟩
      rw [← ef5] at hP hD hBT
      clear ef5
      have hP : va_P D vwCl ([(zb, .inr (8, [.ref (ad265 0), .int 0, .int 0, .int (nI (((((0 + 5) + dgl j278) + 5) + dgl j293) + 1))])), ((ad265 0), .inl (cB, 16, .inl f5))] ++ Wd) _ := hP
      have hD : va_D A ([(zb, .inr (8, [.ref (ad265 0), .int 0, .int 0, .int (nI (((((0 + 5) + dgl j278) + 5) + dgl j293) + 1))])), ((ad265 0), .inl (cB, 16, .inl f5))] ++ Wd) := hD
      refine jf_r (X := XQ) (tys := (tyB cI cJ cC cL cB)) (av := [.ref zb]) (wc := [(zb, .inr (8, [.ref (ad265 0), .int 0, .int 0, .int (nI (((((0 + 5) + dgl j278) + 5) + dgl j293) + 1))])), ((ad265 0), .inl (cB, 16, .inl f5))]) (wr := Wd) (w1 := (fun ad304 => [(zb, .inr (8, [.ref (ad265 0), .int 0, .int 0, .int (nI (((((0 + 5) + dgl j278) + 5) + dgl j293) + 1))])), ((ad265 0), .inl (cB, 16, .inl f5)), ((ad304 0), .inr (9, [.ref (ad304 1), .int 0, .int 0, .int 0])), ((ad304 1), .inl (cB, (((((0 + 5) + dgl j278) + 5) + dgl j293) + 1), .inl (va_cpy f5 (fun _ => 0) 0 0 (((((0 + 5) + dgl j278) + 5) + dgl j293) + 1))))])) (rr := fun ad304 => ad304 0) (mc := 2) (ms := 20) KX_XQ hXQ hKB hN hP hD hS hA (fun hb1 hp1 => va_runV (C := RJ4) (As := []) (rest := [.ref q]) hF (c_J4_toString_0e30d l D cI cJ cC cL cB zb (ad265 0) (((((0 + 5) + dgl j278) + 5) + dgl j293) + 1) f5 (by omega) hBT.2.2.2 _) (cwV 0 hts gL_changes_J4_toString_0e30d rfl rfl rfl (by decide +kernel) ⟨Nat.le_of_ble_eq_true rfl, Nat.le_of_ble_eq_true rfl⟩) ⟨hb1, (va_recv hKB hP (ci := 8) (q0 := 0) rfl rfl), hp1⟩ rfl rfl hl.1 rfl (lv_room (Nat.le_of_ble_eq_true rfl)) dL_changes_304 ⟨Nat.le_of_ble_eq_true rfl, Nat.le_of_ble_eq_true rfl⟩) (fun ad304 H locs hP hD hS hz => ?_)
      have hP : va_P D vwCl ([(zb, .inr (8, [.ref (ad265 0), .int 0, .int 0, .int (nI (((((0 + 5) + dgl j278) + 5) + dgl j293) + 1))])), ((ad265 0), .inl (cB, 16, .inl f5)), ((ad304 0), .inr (9, [.ref (ad304 1), .int 0, .int 0, .int 0])), ((ad304 1), .inl (cB, (((((0 + 5) + dgl j278) + 5) + dgl j293) + 1), .inl (va_cpy f5 (fun _ => 0) 0 0 (((((0 + 5) + dgl j278) + 5) + dgl j293) + 1))))] ++ Wd) _ := hP
      have hD : va_D A ([(zb, .inr (8, [.ref (ad265 0), .int 0, .int 0, .int (nI (((((0 + 5) + dgl j278) + 5) + dgl j293) + 1))])), ((ad265 0), .inl (cB, 16, .inl f5)), ((ad304 0), .inr (9, [.ref (ad304 1), .int 0, .int 0, .int 0])), ((ad304 1), .inl (cB, (((((0 + 5) + dgl j278) + 5) + dgl j293) + 1), .inl (va_cpy f5 (fun _ => 0) 0 0 (((((0 + 5) + dgl j278) + 5) + dgl j293) + 1))))] ++ Wd) := hD
      have hO := hback A H (vP_right hP) (vD_right hD)
      have hsub := OBJ_sub hO (fun z h => hA z (Nat.le_trans hS.1 h))
      obtain ⟨wsT, hBT⟩ : ∃ ws : List Nat, BT f5 (((((0 + 5) + dgl j278) + 5) + dgl j293) + 1) ws := ⟨_, hBT⟩
      have hstr : isStr (ad304 0) (wsT.map nI) (OA q ax H.size) s H := str_of (i := 2) (j := 3) (t := 4) (by rw [List.length_map]; exact hBT.1) hts hin_J0 hKB hP rfl rfl rfl (BT_new hBT) (not_OA hP hD had (i := 2) rfl) (not_OA hP hD had (i := 3) rfl)
      obtain ⟨qt, eqt⟩ : ∃ qt : Nat, qt = ad304 0 := ⟨_, rfl⟩
      rw [← eqt] at hstr ⊢
      have hwl : wsT.length ≤ 60 := by rw [hBT.1]; omega
      have hwr := BT_rng hBT
      refine W_raise (c1 := 8) (s1 := 80) (Nat.le_of_ble_eq_true rfl) (Nat.le_of_ble_eq_true rfl) ?_
      refine lv_goto (tgt := 373) hx hb dL_changes_307 (by decide) ?_
      refine lc_i (X := (fun A U H => XS A U H ∧ isStr qt (wsT.map nI) A U H)) (O := (fun A H => OBJ D cI cJ cC cL A q ax B g hy N u0 sb gs (0) tg nL lc nr rn rd H)) (O' := (fun (u : ((Nat → Nat) × (Nat → Nat → Nat) × Nat × Nat × Nat × (Nat → Int32) × (Nat → Int32))) A H => OBJ D cI cJ cC cL A q ax (B + 100000) (u.1) (u.2.1) (u.2.2.1) (u.2.2.2.1) sb gs (0) tg nL lc (u.2.2.2.2.1) (u.2.2.2.2.2.1) (u.2.2.2.2.2.2) H)) (F := (OA q ax)) (As := [.ref q, .ref qt]) (rest := []) hF (c_L_reads l D cI cJ cC cL q ax B g hy N u0 sb gs tg nL lc nr rn rd qt wsT hwl hwr (IN_run_any (OBJ_G hO)) _) (va_cwS 2 hts gL_changes_L_reads rfl rfl rfl (by decide +kernel) ⟨Nat.le_of_ble_eq_true rfl, Nat.le_of_ble_eq_true rfl⟩) rfl hl rfl (Nat.le_of_ble_eq_true rfl) dL_changes_373 ⟨Nat.le_of_ble_eq_true rfl, Nat.le_of_ble_eq_true rfl⟩ hK hN ((KX_and KX_XS KX_isStr)) (fun U hW => ⟨X_at KX_XS hXS hS hsub U hW, KX_isStr.2.1 _ s U H hW hstr⟩) (OBJ_at hO _) hS (hsub) (fun r v9 H locs hr hO1 hS hz hk => ?_)
      have hO := OBJ_to hO1 hsub
      clear hsub hO1
      obtain ⟨g', hl', N', u', n', rn', rd'⟩ := v9
      obtain ⟨hch, hp⟩ := hr
      dsimp only at hch hp hO
      refine lv_if_lt (tgt := 383) hx hb dL_changes_376 (by decide) (fun hc => ?_) (fun hc => ?_)
      · refine lv_iconst (v := nI 0) hx hb dL_changes_383 (by decide) ?_
        exact hRet (g', hl', N', u', n', rn', rd') (Or.inl rfl) (Or.inr ⟨rfl, MS_r hch hc⟩) hO hS dL_changes_384
      · refine lv_iconst (v := nI 1) hx hb dL_changes_379 (by decide) ?_
        refine lv_goto (tgt := 384) hx hb dL_changes_380 (by decide) ?_
        exact hRet (g', hl', N', u', n', rn', rd') (Or.inr rfl) (Or.inl ⟨rfl, MS_c hch hc⟩) hO hS dL_changes_384
  rcases (show j26 = 0 ∨ j26 = 1 ∨ j26 = 2 ∨ j26 = 3 ∨ j26 = 4 ∨ j26 = 5 ∨ j26 = 6 ∨ j26 = 7 ∨ j26 = 8 ∨ j26 = 9 ∨ j26 = 10 ∨ j26 = 11 ∨ j26 = 12 ∨ 13 ≤ j26 by omega) with rfl | rfl | rfl | rfl | rfl | rfl | rfl | rfl | rfl | rfl | rfl | rfl | rfl | h13
  · exact lv_tableIn (off := 67) (tgt := 96) hx hb dL_changes_29 (by decide +kernel) (by decide +kernel) rfl (by decide) T96
  · exact lv_tableIn (off := 97) (tgt := 126) hx hb dL_changes_29 (by decide +kernel) (by decide +kernel) rfl (by decide) T126
  · exact lv_tableIn (off := 97) (tgt := 126) hx hb dL_changes_29 (by decide +kernel) (by decide +kernel) rfl (by decide) T126
  · exact lv_tableIn (off := 97) (tgt := 126) hx hb dL_changes_29 (by decide +kernel) (by decide +kernel) rfl (by decide) T126
  · exact lv_tableIn (off := 126) (tgt := 155) hx hb dL_changes_29 (by decide +kernel) (by decide +kernel) rfl (by decide) T155
  · exact lv_tableIn (off := 126) (tgt := 155) hx hb dL_changes_29 (by decide +kernel) (by decide +kernel) rfl (by decide) T155
  · exact lv_tableIn (off := 141) (tgt := 170) hx hb dL_changes_29 (by decide +kernel) (by decide +kernel) rfl (by decide) T170
  · exact lv_tableIn (off := 141) (tgt := 170) hx hb dL_changes_29 (by decide +kernel) (by decide +kernel) rfl (by decide) T170
  · exact lv_tableIn (off := 141) (tgt := 170) hx hb dL_changes_29 (by decide +kernel) (by decide +kernel) rfl (by decide) T170
  · exact lv_tableIn (off := 175) (tgt := 204) hx hb dL_changes_29 (by decide +kernel) (by decide +kernel) rfl (by decide) T204
  · exact lv_tableIn (off := 201) (tgt := 230) hx hb dL_changes_29 (by decide +kernel) (by decide +kernel) rfl (by decide) T230
  · exact lv_tableIn (off := 201) (tgt := 230) hx hb dL_changes_29 (by decide +kernel) (by decide +kernel) rfl (by decide) T230
  · exact lv_tableIn (off := 201) (tgt := 230) hx hb dL_changes_29 (by decide +kernel) (by decide +kernel) rfl (by decide) T230
  · exact lv_tableOut (tgt := 251) hx hb dL_changes_29 (by rw [nI_toInt (by omega)]; omega) (by decide) T251


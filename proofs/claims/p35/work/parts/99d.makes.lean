/-! p35: makes -/
theorem mk_b2 {a b : Nat} (h : a + 2300000 ≤ b) : a + 1800000 + 500000 ≤ b := by rw [Nat.add_assoc]; exact h
theorem mk_b3 {a b : Nat} (h : a + 100000 * 0 + 2300000 ≤ b) : a + 300000 * 6 + 500000 ≤ b := mk_b2 h
abbrev rmL_makes : Room := { frames := 5, cells := 0, slots := 0, locals := 153 }
set_option maxHeartbeats 8000000 in
set_option maxRecDepth 100000 in
theorem c_L_makes (l : Launch) (D : va_G) (cI cJ cC cL : ClassId) (q : Nat) (ax : Nat → Nat) (B : Nat) (hy : Nat → Nat → Nat) (sb : Nat) (gs : Nat → Nat) (tg : Nat → Nat) (nL : Nat) (lc : Nat → Int32) (nr : Nat) (rn : Nat → Int32) (rd : Nat → Int32) (b L : Nat) (xs : Nat → Int32) (hL : L < 2 ^ 31) (sz : Nat) : Met l yL_makes wsL_makes rmL_makes (va_Pc [.ref q, .ref b] (lpre (fun A U H => XS A U H ∧ XScr b L xs A U H) D (tyL cI cJ cC cL) (fun A H => OBJ D cI cJ cC cL A q ax B gz hy (0) (0) sb gs (0) tg nL lc nr rn rd H) ((OA q ax)) sz)) (va_Qi (S := ((Nat → Nat) × (Nat → Nat → Nat) × Nat × Nat × Nat × (Nat → Int32) × (Nat → Int32))) (fun r u => r = nI 1 ∧ u.1 0 = 9 ∧ GA u.1 0 0 = 0 ∧ u.2.2.2.1 = 8) (fun uu t => lpost D (tyL cI cJ cC cL) ((fun (u : ((Nat → Nat) × (Nat → Nat → Nat) × Nat × Nat × Nat × (Nat → Int32) × (Nat → Int32))) A H => OBJ D cI cJ cC cL A q ax (B + 4000000) (u.1) (u.2.1) (u.2.2.1) (u.2.2.2.1) sb gs (0) tg nL lc (u.2.2.2.2.1) (u.2.2.2.2.2.1) (u.2.2.2.2.2.2) H) uu) ((OA q ax) sz) t) ((OA q ax) sz)) 0 0 ((OA q ax) sz) := by
  refine lE_z (y := yL_makes) (wy := wsL_makes) (X := (fun A U H => XS A U H ∧ XScr b L xs A U H)) (O := (fun A H => OBJ D cI cJ cC cL A q ax B gz hy (0) (0) sb gs (0) tg nL lc nr rn rd H)) (σ := ((Nat → Nat) × (Nat → Nat → Nat) × Nat × Nat × Nat × (Nat → Int32) × (Nat → Int32))) (O' := (fun (u : ((Nat → Nat) × (Nat → Nat → Nat) × Nat × Nat × Nat × (Nat → Int32) × (Nat → Int32))) A H => OBJ D cI cJ cC cL A q ax (B + 4000000) (u.1) (u.2.1) (u.2.2.1) (u.2.2.2.1) sb gs (0) tg nL lc (u.2.2.2.2.1) (u.2.2.2.2.2.1) (u.2.2.2.2.2.2) H)) (F := (OA q ax)) (cc := cL_makes) (maxL := 6) (own := RL) (ret := some .boolean) (lv0 := [(0, .ref q), (1, .ref b)]) (by decide) rfl rfl rfl (Nat.le_of_ble_eq_true rfl) rfl (fun z q h => Or.inr h) ?_
  intro p e s m args below meth c A Q ls hx hb hml hown hts hK hN hX hA hAe hO hS hl hRet
  have hF : CallFix p m c cL_makes 6 s args wsL_makes RL := ⟨hx, hb, hml, hown, hts⟩
  have hO : OBJ D cI cJ cC cL A q ax B gz hy (0) (0) sb gs (0) tg nL lc nr rn rd s.heap := hO
  have hXS : XS A s s.heap := hX.1
  have hXs : XScr b L xs A s s.heap := hX.2
  have T201 : ∀ (Bv : Nat) (g : Nat → Nat) (hy : Nat → Nat → Nat) (N u nr : Nat) (rn rd : Nat → Int32) (H : Heap) (locs : List Loc) (ls : Array Slot), MI 9 3 g N u ∧ 9 ≤ N ∧ Bv + 100000 ≤ B + 4000000 → OBJ D cI cJ cC cL A q ax Bv g hy N u sb gs (0) tg nL lc nr rn rd H → va_S A s.heap H locs → lv_has ls 6 [(0, .ref q), (1, .ref b)] → W p l e rmL_makes s m args below meth c H locs 0 0 Q (F0 m 201 ls []) := by
    intro Bv g hy N u nr rn rd H locs ls hI hO hS hl
    obtain ⟨hM, hN9, hB⟩ := hI
    refine lv_aload_n hx hb dL_makes_201 rfl (lv_at hl 0 rfl) ?_
    refine lv_iconst (v := nI 1) hx hb dL_makes_202 (by decide) ?_
    refine lv_aload_n hx hb dL_makes_203 rfl (lv_at hl 1 rfl) ?_
    refine lv_bipush (v := nI 18) hx hb dL_makes_204 (by decide) ?_
    refine lc_i (X := (XScr b L xs)) (O := oT) (O' := (fun _ => oT)) (F := fT0) (As := [.ref b, .int (nI 18)]) (rest := [.int (nI 1), .ref q]) hF (c_L_at l D cI cJ cC cL b L xs hL 18 (by omega) _) (va_cwS 2 hts gL_makes_L_at rfl rfl rfl (by decide +kernel) ⟨Nat.le_of_ble_eq_true rfl, Nat.le_of_ble_eq_true rfl⟩) rfl hl rfl (Nat.le_of_ble_eq_true rfl) dL_makes_206 ⟨Nat.zero_le _, Nat.zero_le _⟩ hK hN (KX_Scr) (X_at KX_Scr hXs hS (fun q h => hA q (Nat.le_trans hS.1 h))) trivial hS ((fun q h => hA q (Nat.le_trans hS.1 h))) (fun r u9 H locs hr _ hS hz hk => ?_)
    subst hr
    have hO := OBJ_keptO hO (fun z h => hk z h (Nat.not_le.mpr h))
    refine lv_bipush (v := nI 6) hx hb dL_makes_209 (by decide) ?_
    refine lc_i (X := XT) (O := oT) (O' := (fun _ => oT)) (F := fT0) (As := [.int (atv L xs (18)), .int (nI 6)]) (rest := [.int (nI 1), .ref q]) hF (c_L_some l D cI cJ cC cL (atv L xs (18)) (nI 6) _ (by decide)) (va_cwS 2 hts gL_makes_L_some rfl rfl rfl (by decide +kernel) ⟨Nat.le_of_ble_eq_true rfl, Nat.le_of_ble_eq_true rfl⟩) rfl hl rfl (Nat.le_of_ble_eq_true rfl) dL_makes_211 ⟨Nat.zero_le _, Nat.zero_le _⟩ hK hN (KX_T) (fun _ _ => trivial) trivial hS ((fun q h => hA q (Nat.le_trans hS.1 h))) (fun r u9 H locs hr _ hS hz hk => ?_)
    subst hr
    have hO := OBJ_keptO hO (fun z h => hk z h (Nat.not_le.mpr h))
    obtain ⟨j211, hj211, ej211⟩ := smv_of (v := (atv L xs (18))) (n := (nI 6)) (k := 6) (by omega) (by omega) rfl
    rw [ej211]
    refine lv_iadd hx hb dL_makes_214 ?_
    rw [nI_add]
    refine oc_tick hF (IN_tick_ok (OBJ_G hO) (tt := 1 + j211) (by omega) (by omega)) (cwV 1 hts gL_makes_X9_tick rfl rfl rfl (by decide +kernel) ⟨Nat.le_of_ble_eq_true rfl, Nat.le_of_ble_eq_true rfl⟩) (Nat.le_of_ble_eq_true rfl) hl (Nat.le_of_ble_eq_true rfl) dL_makes_215 ⟨Nat.zero_le _, Nat.zero_le _⟩ hK hN hXS hA hO hS (fun g' hl' N' u' n' rn' rd' x H locs hO hS hz hk hch hp => ?_)
    obtain ⟨rfl, rfl⟩ := hp
    have hts2 := tsum_le g (1 + j211)
    obtain ⟨rfl, rfl, rfl⟩ := MS_c hch (nI_pos (by omega))
    obtain ⟨m1, m2, m3⟩ := MI_tick (1 + j211) hM (by omega) (by omega)
    refine lv_if_lt (tgt := 225) hx hb dL_makes_218 (by decide) (fun hq => absurd hq (nI_pos (by omega))) (fun _ => ?_)
    refine lv_iconst (v := nI 1) hx hb dL_makes_221 (by decide) ?_
    refine lv_goto (tgt := 226) hx hb dL_makes_222 (by decide) ?_
    exact hRet (tki g (1 + j211), updh hy N g, N + 1, u8 u, n', rn', rd') (Or.inr rfl) ⟨rfl, m1, m2, m3⟩ (OBJ_up hO (by omega)) hS dL_makes_226
  have LD : ∀ (d k : Nat) (Bv : Nat) (g : Nat → Nat) (hy : Nat → Nat → Nat) (N u nr : Nat) (rn rd : Nat → Int32) (H : Heap) (locs : List Loc) (ls : Array Slot), k + d = 3 → MI 9 k g N u ∧ 9 ≤ N ∧ Bv + 100000 * d + 200000 ≤ B + 4000000 → OBJ D cI cJ cC cL A q ax Bv g hy N u sb gs (0) tg nL lc nr rn rd H → va_S A s.heap H locs → lv_has ls 6 [(0, .ref q), (1, .ref b), (2, .int (nI k))] → W p l e rmL_makes s m args below meth c H locs 0 0 Q (F0 m 167 ls []) := by
    intro d
    induction d with
    | zero =>
      intro k Bv g hy N u nr rn rd H locs ls hkd hI hO hS hl
      obtain ⟨hM, hN9, hB⟩ := hI
      refine lv_iload_n hx hb dL_makes_167 rfl (lv_at hl 2 rfl) ?_
      refine lv_iconst (v := nI 3) hx hb dL_makes_168 (by decide) ?_
      refine lv_icmp_ge (tgt := 201) hx hb dL_makes_169 (by decide) (fun _ => ?_) (fun hq => absurd (nI_le (by omega) (by omega)) hq)
      obtain rfl : k = 3 := by omega
      exact T201 Bv g hy N u nr rn rd _ _ _ ⟨hM, hN9, by omega⟩ hO hS (lv_sub hl [0, 1] rfl)
    | succ d ihd =>
      intro k Bv g hy N u nr rn rd H locs ls hkd hI hO hS hl
      obtain ⟨hM, hN9, hB⟩ := hI
      refine lv_iload_n hx hb dL_makes_167 rfl (lv_at hl 2 rfl) ?_
      refine lv_iconst (v := nI 3) hx hb dL_makes_168 (by decide) ?_
      refine lv_icmp_ge (tgt := 201) hx hb dL_makes_169 (by decide) (fun hq => absurd hq (nI_ge (by omega) (by omega))) (fun _ => ?_)
      refine lv_aload_n hx hb dL_makes_172 rfl (lv_at hl 1 rfl) ?_
      refine lv_iload_n hx hb dL_makes_173 rfl (lv_at hl 2 rfl) ?_
      refine lc_i (X := (XScr b L xs)) (O := oT) (O' := (fun _ => oT)) (F := fT0) (As := [.ref b, .int (nI k)]) (rest := []) hF (c_L_at l D cI cJ cC cL b L xs hL k (by omega) _) (va_cwS 2 hts gL_makes_L_at rfl rfl rfl (by decide +kernel) ⟨Nat.le_of_ble_eq_true rfl, Nat.le_of_ble_eq_true rfl⟩) rfl hl rfl (Nat.le_of_ble_eq_true rfl) dL_makes_174 ⟨Nat.zero_le _, Nat.zero_le _⟩ hK hN (KX_Scr) (X_at KX_Scr hXs hS (fun q h => hA q (Nat.le_trans hS.1 h))) trivial hS ((fun q h => hA q (Nat.le_trans hS.1 h))) (fun r u9 H locs hr _ hS hz hk => ?_)
      subst hr
      have hO := OBJ_keptO hO (fun z h => hk z h (Nat.not_le.mpr h))
      refine lv_iconst (v := nI 1) hx hb dL_makes_177 (by decide) ?_
      refine lv_iand hx hb dL_makes_178 ?_
      refine lv_iconst (v := nI 1) hx hb dL_makes_179 (by decide) ?_
      refine lv_icmp_ne (tgt := 195) hx hb dL_makes_180 (by decide) (fun hc => ?_) (fun hc => ?_)
      · refine lv_iinc (v := nI (k + 1)) (lv' := [(2, .int (nI (k + 1))), (0, .ref q), (1, .ref b)]) hx hb dL_makes_195 hl (k := 2) rfl (by rw [oi_1, nI_add]) (by decide) rfl (fun ls hl => ?_)
        refine lv_goto (tgt := 167) hx hb dL_makes_198 (by decide) ?_
        exact ihd (k + 1) Bv g hy N u nr rn rd H locs _ (by omega) ⟨MI_skip hM, hN9, by omega⟩ hO hS (lv_sub hl [1, 2, 0] rfl)
      · refine lv_aload_n hx hb dL_makes_183 rfl (lv_at hl 0 rfl) ?_
        refine lv_iload_n hx hb dL_makes_184 rfl (lv_at hl 2 rfl) ?_
        refine lv_iconst (v := nI 1) hx hb dL_makes_185 (by decide) ?_
        refine oc_set hF (IN_set_on (OBJ_G hO) (l := k) (b := 1) (by rw [hM.1]; omega) (by omega) (hM.2.2.1 k (by omega) (by omega)) (by rw [hM.2.2.2.1 k (Nat.le_refl k) (by omega)]; omega)) (cwV 2 hts gL_makes_X9_set rfl rfl rfl (by decide +kernel) ⟨Nat.le_of_ble_eq_true rfl, Nat.le_of_ble_eq_true rfl⟩) (Nat.le_of_ble_eq_true rfl) hl (Nat.le_of_ble_eq_true rfl) dL_makes_186 ⟨Nat.zero_le _, Nat.zero_le _⟩ hK hN hXS hA hO hS (fun g' hl' N' u' n' rn' rd' x H locs hO hS hz hk hch hp => ?_)
        obtain ⟨rfl, rfl⟩ := hp
        have hgl := gct_le (OBJ_G hO).1
        have hgs := gct_stn (g := g) (l := k) (by rw [hM.1]; omega)
        obtain ⟨rfl, rfl, rfl⟩ := MS_c hch (nI_pos (by omega))
        refine lv_iconst (v := nI 1) hx hb dL_makes_189 (by decide) ?_
        refine lv_icmp_ge (tgt := 195) hx hb dL_makes_190 (by decide) (fun _ => ?_) (fun hq => absurd (nI_le (by omega) (by omega)) hq)
        refine lv_iinc (v := nI (k + 1)) (lv' := [(2, .int (nI (k + 1))), (0, .ref q), (1, .ref b)]) hx hb dL_makes_195 hl (k := 2) rfl (by rw [oi_1, nI_add]) (by decide) rfl (fun ls hl => ?_)
        refine lv_goto (tgt := 167) hx hb dL_makes_198 (by decide) ?_
        exact ihd (k + 1) _ _ _ _ _ _ _ _ H locs _ (by omega) ⟨MI_set hM, by omega, by omega⟩ hO hS (lv_sub hl [1, 2, 0] rfl)
  have LC : ∀ (d k : Nat) (Bv : Nat) (g : Nat → Nat) (hy : Nat → Nat → Nat) (N u nr : Nat) (rn rd : Nat → Int32) (H : Heap) (locs : List Loc) (ls : Array Slot), k + d = 9 ∧ 3 ≤ k → MI 9 0 g N u ∧ 9 ≤ N ∧ Bv + 300000 * d + 500000 ≤ B + 4000000 → OBJ D cI cJ cC cL A q ax Bv g hy N u sb gs (0) tg nL lc nr rn rd H → va_S A s.heap H locs → lv_has ls 6 [(0, .ref q), (1, .ref b), (2, .int (nI k))] → W p l e rmL_makes s m args below meth c H locs 0 0 Q (F0 m 78 ls []) := by
    intro d
    induction d with
    | zero =>
      intro k Bv g hy N u nr rn rd H locs ls hkd hI hO hS hl
      obtain ⟨hM, hN9, hB⟩ := hI
      refine lv_iload_n hx hb dL_makes_78 rfl (lv_at hl 2 rfl) ?_
      refine lv_bipush (v := nI 9) hx hb dL_makes_79 (by decide) ?_
      refine lv_icmp_ge (tgt := 165) hx hb dL_makes_81 (by decide) (fun _ => ?_) (fun hq => absurd (nI_le (by omega) (by omega)) hq)
      refine lv_iconst (v := nI 0) hx hb dL_makes_165 (by decide) ?_
      refine lv_istore_n (lv' := [(2, .int (nI 0)), (0, .ref q), (1, .ref b)]) hx hb dL_makes_166 rfl hl (by decide) rfl (fun ls hl => ?_)
      exact LD 3 0 Bv g hy N u nr rn rd H locs _ (by omega) ⟨⟨hM.1, hM.2.1, hM.2.2.1, fun l2 _ h6 => hM.2.2.2.1 l2 (Nat.zero_le _) h6, hM.2.2.2.2⟩, hN9, by show Bv + 300000 + 200000 ≤ _; omega⟩ hO hS (lv_sub hl [1, 2, 0] rfl)
    | succ d ihk =>
      intro k Bv g hy N u nr rn rd H locs ls hkd hI hO hS hl
      obtain ⟨hM, hN9, hB⟩ := hI
      have LI : ∀ (e3 p3 : Nat) (Bv : Nat) (g : Nat → Nat) (hy : Nat → Nat → Nat) (N u nr : Nat) (rn rd : Nat → Int32) (H : Heap) (locs : List Loc) (ls : Array Slot), p3 + e3 = 3 → MI 9 0 g N u ∧ 9 ≤ N ∧ Bv + 100000 * e3 + 300000 * d + 500000 ≤ B + 4000000 → OBJ D cI cJ cC cL A q ax Bv g hy N u sb gs (0) tg nL lc nr rn rd H → va_S A s.heap H locs → lv_has ls 6 [(0, .ref q), (1, .ref b), (2, .int (nI k)), (3, .int (nI p3))] → W p l e rmL_makes s m args below meth c H locs 0 0 Q (F0 m 86 ls []) := by
        intro e3
        induction e3 with
        | zero =>
          intro p3 Bv g hy N u nr rn rd H locs ls hpd hI hO hS hl
          obtain ⟨hM, hN9, hB⟩ := hI
          refine lv_iload_n hx hb dL_makes_86 rfl (lv_at hl 3 rfl) ?_
          refine lv_iconst (v := nI 3) hx hb dL_makes_87 (by decide) ?_
          refine lv_icmp_ge (tgt := 159) hx hb dL_makes_88 (by decide) (fun _ => ?_) (fun hq => absurd (nI_le (by omega) (by omega)) hq)
          refine lv_iinc (v := nI (k + 1)) (lv' := [(2, .int (nI (k + 1))), (0, .ref q), (1, .ref b), (3, .int (nI p3))]) hx hb dL_makes_159 hl (k := 2) rfl (by rw [oi_1, nI_add]) (by decide) rfl (fun ls hl => ?_)
          refine lv_goto (tgt := 78) hx hb dL_makes_162 (by decide) ?_
          exact ihk (k + 1) Bv g hy N u nr rn rd H locs _ (by omega) ⟨hM, hN9, by omega⟩ hO hS (lv_sub hl [1, 2, 0] rfl)
        | succ e3 ihp =>
          intro p3 Bv g hy N u nr rn rd H locs ls hpd hI hO hS hl
          obtain ⟨hM, hN9, hB⟩ := hI
          refine lv_iload_n hx hb dL_makes_86 rfl (lv_at hl 3 rfl) ?_
          refine lv_iconst (v := nI 3) hx hb dL_makes_87 (by decide) ?_
          refine lv_icmp_ge (tgt := 159) hx hb dL_makes_88 (by decide) (fun hq => absurd hq (nI_ge (by omega) (by omega))) (fun _ => ?_)
          refine lv_aload_n hx hb dL_makes_91 rfl (lv_at hl 1 rfl) ?_
          refine lv_bipush (v := nI 9) hx hb dL_makes_92 (by decide) ?_
          refine lv_iload_n hx hb dL_makes_94 rfl (lv_at hl 2 rfl) ?_
          refine lv_iadd hx hb dL_makes_95 ?_
          rw [nI_add]
          refine lc_i (X := (XScr b L xs)) (O := oT) (O' := (fun _ => oT)) (F := fT0) (As := [.ref b, .int (nI (9 + k))]) (rest := []) hF (c_L_at l D cI cJ cC cL b L xs hL (9 + k) (by omega) _) (va_cwS 2 hts gL_makes_L_at rfl rfl rfl (by decide +kernel) ⟨Nat.le_of_ble_eq_true rfl, Nat.le_of_ble_eq_true rfl⟩) rfl hl rfl (Nat.le_of_ble_eq_true rfl) dL_makes_96 ⟨Nat.zero_le _, Nat.zero_le _⟩ hK hN (KX_Scr) (X_at KX_Scr hXs hS (fun q h => hA q (Nat.le_trans hS.1 h))) trivial hS ((fun q h => hA q (Nat.le_trans hS.1 h))) (fun r u9 H locs hr _ hS hz hk => ?_)
          subst hr
          have hO := OBJ_keptO hO (fun z h => hk z h (Nat.not_le.mpr h))
          refine lv_iconst (v := nI 4) hx hb dL_makes_99 (by decide) ?_
          refine lv_iload_n hx hb dL_makes_100 rfl (lv_at hl 3 rfl) ?_
          refine lv_imul hx hb dL_makes_101 ?_
          refine lv_ishr hx hb dL_makes_102 ?_
          refine lv_istore (lv' := [(4, .int ((atv L xs (9 + k)) >>> (((nI 4) * (nI p3)) &&& 31))), (0, .ref q), (1, .ref b), (2, .int (nI k)), (3, .int (nI p3))]) hx hb dL_makes_103 hl (by decide) rfl (fun ls hl => ?_)
          refine lv_aload_n hx hb dL_makes_105 rfl (lv_at hl 1 rfl) ?_
          refine lv_iload_n hx hb dL_makes_106 rfl (lv_at hl 3 rfl) ?_
          refine lv_iload_n hx hb dL_makes_107 rfl (lv_at hl 4 rfl) ?_
          refine lv_iload hx hb dL_makes_108 (lv_at hl 0 rfl) ?_
          refine lv_bipush (v := nI 15) hx hb dL_makes_110 (by decide) ?_
          refine lv_iand hx hb dL_makes_112 ?_
          refine lv_if_ne (tgt := 128) hx hb dL_makes_113 (by decide) (fun hc => ?_) (fun hc => ?_)
          · refine lv_iload hx hb dL_makes_128 (lv_at hl 0 rfl) ?_
            refine lv_iload_n hx hb dL_makes_130 rfl (lv_at hl 3 rfl) ?_
            refine lc_i (X := XT) (O := oT) (O' := (fun _ => oT)) (F := fT0) (As := [.int ((atv L xs (9 + k)) >>> (((nI 4) * (nI p3)) &&& 31)), .int (nI k)]) (rest := [.int (nI p3), .int (nI k), .ref q]) hF (c_L_some l D cI cJ cC cL ((atv L xs (9 + k)) >>> (((nI 4) * (nI p3)) &&& 31)) (nI k) _ (nI_ne0 (by omega) (by omega))) (va_cwS 2 hts gL_makes_L_some rfl rfl rfl (by decide +kernel) ⟨Nat.le_of_ble_eq_true rfl, Nat.le_of_ble_eq_true rfl⟩) rfl hl rfl (Nat.le_of_ble_eq_true rfl) dL_makes_131 ⟨Nat.zero_le _, Nat.zero_le _⟩ hK hN (KX_T) (fun _ _ => trivial) trivial hS ((fun q h => hA q (Nat.le_trans hS.1 h))) (fun r u9 H locs hr _ hS hz hk => ?_)
            subst hr
            have hO := OBJ_keptO hO (fun z h => hk z h (Nat.not_le.mpr h))
            obtain ⟨j131, hj131, ej131⟩ := smv_of (v := ((atv L xs (9 + k)) >>> (((nI 4) * (nI p3)) &&& 31))) (n := (nI k)) (k := k) (by omega) (by omega) rfl
            rw [ej131]
            refine oc_wire hF (IN_wire_valid (OBJ_G hO) (l := k) (f := j131) (p := p3) (by rw [hM.1]; omega) (by rw [hM.1]; omega) (by omega) hM.2.1) (cwV 3 hts gL_makes_X9_wire rfl rfl rfl (by decide +kernel) ⟨Nat.le_of_ble_eq_true rfl, Nat.le_of_ble_eq_true rfl⟩) (Nat.le_of_ble_eq_true rfl) hl (Nat.le_of_ble_eq_true rfl) dL_makes_134 ⟨Nat.zero_le _, Nat.zero_le _⟩ hK hN hXS hA hO hS (fun g' hl' N' u' n' rn' rd' x H locs hO hS hz hk hch hp => ?_)
            have hM2 := MI_wire hM hp hch
            have hN2 : 9 ≤ N' := by rcases hch with ⟨-, -, q, -⟩ | ⟨-, -, -, q, -⟩ <;> omega
            refine lv_istore (lv' := [(5, .int x), (4, .int ((atv L xs (9 + k)) >>> (((nI 4) * (nI p3)) &&& 31))), (0, .ref q), (1, .ref b), (2, .int (nI k)), (3, .int (nI p3))]) hx hb dL_makes_137 hl (by decide) rfl (fun ls hl => ?_)
            refine lv_iload hx hb dL_makes_139 (lv_at hl 0 rfl) ?_
            refine lv_if_ge (tgt := 153) hx hb dL_makes_141 (by decide) (fun hc => ?_) (fun hc => ?_)
            · refine lv_iinc (v := nI (p3 + 1)) (lv' := [(3, .int (nI (p3 + 1))), (5, .int x), (4, .int ((atv L xs (9 + k)) >>> (((nI 4) * (nI p3)) &&& 31))), (0, .ref q), (1, .ref b), (2, .int (nI k))]) hx hb dL_makes_153 hl (k := 5) rfl (by rw [oi_1, nI_add]) (by decide) rfl (fun ls hl => ?_)
              refine lv_goto (tgt := 86) hx hb dL_makes_156 (by decide) ?_
              exact ihp (p3 + 1) _ g' hl' N' u' n' rn' rd' H locs _ (by omega) ⟨hM2, hN2, by omega⟩ hO hS (lv_sub hl [3, 4, 5, 0] rfl)
            · refine lv_iload hx hb dL_makes_144 (lv_at hl 0 rfl) ?_
              refine lv_bipush (v := -nI 14) hx hb dL_makes_146 (by decide) ?_
              refine lv_icmp_eq (tgt := 153) hx hb dL_makes_148 (by decide) (fun _ => ?_) (fun hq => absurd (hp.1.resolve_left (fun ⟨a9, h9, e9⟩ => hc (by rw [e9]; exact nI_pos' h9))) hq)
              refine lv_iinc (v := nI (p3 + 1)) (lv' := [(3, .int (nI (p3 + 1))), (5, .int x), (4, .int ((atv L xs (9 + k)) >>> (((nI 4) * (nI p3)) &&& 31))), (0, .ref q), (1, .ref b), (2, .int (nI k))]) hx hb dL_makes_153 hl (k := 5) rfl (by rw [oi_1, nI_add]) (by decide) rfl (fun ls hl => ?_)
              refine lv_goto (tgt := 86) hx hb dL_makes_156 (by decide) ?_
              exact ihp (p3 + 1) _ g' hl' N' u' n' rn' rd' H locs _ (by omega) ⟨hM2, hN2, by omega⟩ hO hS (lv_sub hl [3, 4, 5, 0] rfl)
          · refine lv_iload hx hb dL_makes_116 (lv_at hl 0 rfl) ?_
            refine lv_iconst (v := nI 4) hx hb dL_makes_118 (by decide) ?_
            refine lv_ishr hx hb dL_makes_119 ?_
            refine lv_bipush (v := nI 9) hx hb dL_makes_120 (by decide) ?_
            refine lc_i (X := XT) (O := oT) (O' := (fun _ => oT)) (F := fT0) (As := [.int (((atv L xs (9 + k)) >>> (((nI 4) * (nI p3)) &&& 31)) >>> ((nI 4) &&& 31)), .int (nI 9)]) (rest := [.int (nI p3), .int (nI k), .ref q]) hF (c_L_some l D cI cJ cC cL (((atv L xs (9 + k)) >>> (((nI 4) * (nI p3)) &&& 31)) >>> ((nI 4) &&& 31)) (nI 9) _ (by decide)) (va_cwS 2 hts gL_makes_L_some rfl rfl rfl (by decide +kernel) ⟨Nat.le_of_ble_eq_true rfl, Nat.le_of_ble_eq_true rfl⟩) rfl hl rfl (Nat.le_of_ble_eq_true rfl) dL_makes_122 ⟨Nat.zero_le _, Nat.zero_le _⟩ hK hN (KX_T) (fun _ _ => trivial) trivial hS ((fun q h => hA q (Nat.le_trans hS.1 h))) (fun r u9 H locs hr _ hS hz hk => ?_)
            subst hr
            have hO := OBJ_keptO hO (fun z h => hk z h (Nat.not_le.mpr h))
            obtain ⟨j122, hj122, ej122⟩ := smv_of (v := (((atv L xs (9 + k)) >>> (((nI 4) * (nI p3)) &&& 31)) >>> ((nI 4) &&& 31))) (n := (nI 9)) (k := 9) (by omega) (by omega) rfl
            rw [ej122]
            refine lv_goto (tgt := 134) hx hb dL_makes_125 (by decide) ?_
            refine oc_wire hF (IN_wire_valid (OBJ_G hO) (l := k) (f := j122) (p := p3) (by rw [hM.1]; omega) (by rw [hM.1]; omega) (by omega) hM.2.1) (cwV 3 hts gL_makes_X9_wire rfl rfl rfl (by decide +kernel) ⟨Nat.le_of_ble_eq_true rfl, Nat.le_of_ble_eq_true rfl⟩) (Nat.le_of_ble_eq_true rfl) hl (Nat.le_of_ble_eq_true rfl) dL_makes_134 ⟨Nat.zero_le _, Nat.zero_le _⟩ hK hN hXS hA hO hS (fun g' hl' N' u' n' rn' rd' x H locs hO hS hz hk hch hp => ?_)
            have hM2 := MI_wire hM hp hch
            have hN2 : 9 ≤ N' := by rcases hch with ⟨-, -, q, -⟩ | ⟨-, -, -, q, -⟩ <;> omega
            refine lv_istore (lv' := [(5, .int x), (4, .int ((atv L xs (9 + k)) >>> (((nI 4) * (nI p3)) &&& 31))), (0, .ref q), (1, .ref b), (2, .int (nI k)), (3, .int (nI p3))]) hx hb dL_makes_137 hl (by decide) rfl (fun ls hl => ?_)
            refine lv_iload hx hb dL_makes_139 (lv_at hl 0 rfl) ?_
            refine lv_if_ge (tgt := 153) hx hb dL_makes_141 (by decide) (fun hc => ?_) (fun hc => ?_)
            · refine lv_iinc (v := nI (p3 + 1)) (lv' := [(3, .int (nI (p3 + 1))), (5, .int x), (4, .int ((atv L xs (9 + k)) >>> (((nI 4) * (nI p3)) &&& 31))), (0, .ref q), (1, .ref b), (2, .int (nI k))]) hx hb dL_makes_153 hl (k := 5) rfl (by rw [oi_1, nI_add]) (by decide) rfl (fun ls hl => ?_)
              refine lv_goto (tgt := 86) hx hb dL_makes_156 (by decide) ?_
              exact ihp (p3 + 1) _ g' hl' N' u' n' rn' rd' H locs _ (by omega) ⟨hM2, hN2, by omega⟩ hO hS (lv_sub hl [3, 4, 5, 0] rfl)
            · refine lv_iload hx hb dL_makes_144 (lv_at hl 0 rfl) ?_
              refine lv_bipush (v := -nI 14) hx hb dL_makes_146 (by decide) ?_
              refine lv_icmp_eq (tgt := 153) hx hb dL_makes_148 (by decide) (fun _ => ?_) (fun hq => absurd (hp.1.resolve_left (fun ⟨a9, h9, e9⟩ => hc (by rw [e9]; exact nI_pos' h9))) hq)
              refine lv_iinc (v := nI (p3 + 1)) (lv' := [(3, .int (nI (p3 + 1))), (5, .int x), (4, .int ((atv L xs (9 + k)) >>> (((nI 4) * (nI p3)) &&& 31))), (0, .ref q), (1, .ref b), (2, .int (nI k))]) hx hb dL_makes_153 hl (k := 5) rfl (by rw [oi_1, nI_add]) (by decide) rfl (fun ls hl => ?_)
              refine lv_goto (tgt := 86) hx hb dL_makes_156 (by decide) ?_
              exact ihp (p3 + 1) _ g' hl' N' u' n' rn' rd' H locs _ (by omega) ⟨hM2, hN2, by omega⟩ hO hS (lv_sub hl [3, 4, 5, 0] rfl)
      refine lv_iload_n hx hb dL_makes_78 rfl (lv_at hl 2 rfl) ?_
      refine lv_bipush (v := nI 9) hx hb dL_makes_79 (by decide) ?_
      refine lv_icmp_ge (tgt := 165) hx hb dL_makes_81 (by decide) (fun hq => absurd hq (nI_ge (by omega) (by omega))) (fun _ => ?_)
      refine lv_iconst (v := nI 0) hx hb dL_makes_84 (by decide) ?_
      refine lv_istore_n (lv' := [(3, .int (nI 0)), (0, .ref q), (1, .ref b), (2, .int (nI k))]) hx hb dL_makes_85 rfl hl (by decide) rfl (fun ls hl => ?_)
      exact LI 3 0 Bv g hy N u nr rn rd H locs _ (by omega) ⟨hM, hN9, by show Bv + 300000 + 300000 * d + 500000 ≤ _; omega⟩ hO hS (lv_sub hl [1, 2, 3, 0] rfl)
  have LB : ∀ (d k : Nat) (Bv : Nat) (g : Nat → Nat) (hy : Nat → Nat → Nat) (N u nr : Nat) (rn rd : Nat → Int32) (H : Heap) (locs : List Loc) (ls : Array Slot), k + d = 9 ∧ 3 ≤ k → MI k 0 g N u ∧ Bv + 100000 * d + 2300000 ≤ B + 4000000 → OBJ D cI cJ cC cL A q ax Bv g hy N u sb gs (0) tg nL lc nr rn rd H → va_S A s.heap H locs → lv_has ls 6 [(0, .ref q), (1, .ref b), (2, .int (nI k))] → W p l e rmL_makes s m args below meth c H locs 0 0 Q (F0 m 29 ls []) := by
    intro d
    induction d with
    | zero =>
      intro k Bv g hy N u nr rn rd H locs ls hkd hI hO hS hl
      obtain ⟨hM, hB⟩ := hI
      refine lv_iload_n hx hb dL_makes_29 rfl (lv_at hl 2 rfl) ?_
      refine lv_bipush (v := nI 9) hx hb dL_makes_30 (by decide) ?_
      refine lv_icmp_ge (tgt := 76) hx hb dL_makes_32 (by decide) (fun _ => ?_) (fun hq => absurd (nI_le (by omega) (by omega)) hq)
      refine lv_iconst (v := nI 3) hx hb dL_makes_76 (by decide) ?_
      refine lv_istore_n (lv' := [(2, .int (nI 3)), (0, .ref q), (1, .ref b)]) hx hb dL_makes_77 rfl hl (by decide) rfl (fun ls hl => ?_)
      have hM : MI 9 0 g N u := (show k = 9 by omega) ▸ hM
      exact LC 6 3 Bv g hy N u nr rn rd H locs _ (by omega) ⟨hM, hM.2.2.2.2.1, mk_b3 hB⟩ hO hS (lv_sub hl [1, 2, 0] rfl)
    | succ d ihb =>
      intro k Bv g hy N u nr rn rd H locs ls hkd hI hO hS hl
      obtain ⟨hM, hB⟩ := hI
      refine lv_iload_n hx hb dL_makes_29 rfl (lv_at hl 2 rfl) ?_
      refine lv_bipush (v := nI 9) hx hb dL_makes_30 (by decide) ?_
      refine lv_icmp_ge (tgt := 76) hx hb dL_makes_32 (by decide) (fun hq => absurd hq (nI_ge (by omega) (by omega))) (fun _ => ?_)
      refine lv_aload_n hx hb dL_makes_35 rfl (lv_at hl 0 rfl) ?_
      refine lv_iconst (v := nI 1) hx hb dL_makes_36 (by decide) ?_
      refine lv_aload_n hx hb dL_makes_37 rfl (lv_at hl 1 rfl) ?_
      refine lv_iload_n hx hb dL_makes_38 rfl (lv_at hl 2 rfl) ?_
      refine lc_i (X := (XScr b L xs)) (O := oT) (O' := (fun _ => oT)) (F := fT0) (As := [.ref b, .int (nI k)]) (rest := [.int (nI 1), .ref q]) hF (c_L_at l D cI cJ cC cL b L xs hL k (by omega) _) (va_cwS 2 hts gL_makes_L_at rfl rfl rfl (by decide +kernel) ⟨Nat.le_of_ble_eq_true rfl, Nat.le_of_ble_eq_true rfl⟩) rfl hl rfl (Nat.le_of_ble_eq_true rfl) dL_makes_39 ⟨Nat.zero_le _, Nat.zero_le _⟩ hK hN (KX_Scr) (X_at KX_Scr hXs hS (fun q h => hA q (Nat.le_trans hS.1 h))) trivial hS ((fun q h => hA q (Nat.le_trans hS.1 h))) (fun r u9 H locs hr _ hS hz hk => ?_)
      subst hr
      have hO := OBJ_keptO hO (fun z h => hk z h (Nat.not_le.mpr h))
      refine lv_bipush (v := nI 6) hx hb dL_makes_42 (by decide) ?_
      refine lc_i (X := XT) (O := oT) (O' := (fun _ => oT)) (F := fT0) (As := [.int (atv L xs k), .int (nI 6)]) (rest := [.int (nI 1), .ref q]) hF (c_L_some l D cI cJ cC cL (atv L xs k) (nI 6) _ (by decide)) (va_cwS 2 hts gL_makes_L_some rfl rfl rfl (by decide +kernel) ⟨Nat.le_of_ble_eq_true rfl, Nat.le_of_ble_eq_true rfl⟩) rfl hl rfl (Nat.le_of_ble_eq_true rfl) dL_makes_44 ⟨Nat.zero_le _, Nat.zero_le _⟩ hK hN (KX_T) (fun _ _ => trivial) trivial hS ((fun q h => hA q (Nat.le_trans hS.1 h))) (fun r u9 H locs hr _ hS hz hk => ?_)
      subst hr
      have hO := OBJ_keptO hO (fun z h => hk z h (Nat.not_le.mpr h))
      obtain ⟨j44, hj44, ej44⟩ := smv_of (v := (atv L xs k)) (n := (nI 6)) (k := 6) (by omega) (by omega) rfl
      rw [ej44]
      refine lv_iadd hx hb dL_makes_47 ?_
      refine lv_iconst (v := nI 1) hx hb dL_makes_48 (by decide) ?_
      refine lv_aload_n hx hb dL_makes_49 rfl (lv_at hl 1 rfl) ?_
      refine lv_iload_n hx hb dL_makes_50 rfl (lv_at hl 2 rfl) ?_
      refine lc_i (X := (XScr b L xs)) (O := oT) (O' := (fun _ => oT)) (F := fT0) (As := [.ref b, .int (nI k)]) (rest := [.int (nI 1), .int ((nI 1) + (nI j44)), .ref q]) hF (c_L_at l D cI cJ cC cL b L xs hL k (by omega) _) (va_cwS 2 hts gL_makes_L_at rfl rfl rfl (by decide +kernel) ⟨Nat.le_of_ble_eq_true rfl, Nat.le_of_ble_eq_true rfl⟩) rfl hl rfl (Nat.le_of_ble_eq_true rfl) dL_makes_51 ⟨Nat.zero_le _, Nat.zero_le _⟩ hK hN (KX_Scr) (X_at KX_Scr hXs hS (fun q h => hA q (Nat.le_trans hS.1 h))) trivial hS ((fun q h => hA q (Nat.le_trans hS.1 h))) (fun r u9 H locs hr _ hS hz hk => ?_)
      subst hr
      have hO := OBJ_keptO hO (fun z h => hk z h (Nat.not_le.mpr h))
      refine lv_iconst (v := nI 3) hx hb dL_makes_54 (by decide) ?_
      refine lv_ishr hx hb dL_makes_55 ?_
      refine lv_iconst (v := nI 4) hx hb dL_makes_56 (by decide) ?_
      refine lc_i (X := XT) (O := oT) (O' := (fun _ => oT)) (F := fT0) (As := [.int ((atv L xs k) >>> ((nI 3) &&& 31)), .int (nI 4)]) (rest := [.int (nI 1), .int ((nI 1) + (nI j44)), .ref q]) hF (c_L_some l D cI cJ cC cL ((atv L xs k) >>> ((nI 3) &&& 31)) (nI 4) _ (by decide)) (va_cwS 2 hts gL_makes_L_some rfl rfl rfl (by decide +kernel) ⟨Nat.le_of_ble_eq_true rfl, Nat.le_of_ble_eq_true rfl⟩) rfl hl rfl (Nat.le_of_ble_eq_true rfl) dL_makes_57 ⟨Nat.zero_le _, Nat.zero_le _⟩ hK hN (KX_T) (fun _ _ => trivial) trivial hS ((fun q h => hA q (Nat.le_trans hS.1 h))) (fun r u9 H locs hr _ hS hz hk => ?_)
      subst hr
      have hO := OBJ_keptO hO (fun z h => hk z h (Nat.not_le.mpr h))
      obtain ⟨j57, hj57, ej57⟩ := smv_of (v := ((atv L xs k) >>> ((nI 3) &&& 31))) (n := (nI 4)) (k := 4) (by omega) (by omega) rfl
      rw [ej57]
      refine lv_iadd hx hb dL_makes_60 ?_
      rw [nI_add, nI_add]
      refine oc_hang hF (IN_hang_ok (OBJ_G hO) (a := 1 + j44) (b := 1 + j57) (by omega) (by omega) (by omega) (by rw [hM.1]; omega)) (cwV 2 hts gL_makes_X9_hang rfl rfl rfl (by decide +kernel) ⟨Nat.le_of_ble_eq_true rfl, Nat.le_of_ble_eq_true rfl⟩) (Nat.le_of_ble_eq_true rfl) hl (Nat.le_of_ble_eq_true rfl) dL_makes_61 ⟨Nat.zero_le _, Nat.zero_le _⟩ hK hN hXS hA hO hS (fun g' hl' N' u' n' rn' rd' x H locs hO hS hz hk hch hp => ?_)
      obtain ⟨rfl, rfl⟩ := hp
      obtain ⟨rfl, rfl, rfl⟩ := MS_c hch (nI_pos (by rw [hM.1]; omega))
      refine lv_iload_n hx hb dL_makes_64 rfl (lv_at hl 2 rfl) ?_
      refine lv_icmp_eq (tgt := 70) hx hb dL_makes_65 (by decide) (fun _ => ?_) (fun hq => absurd (congrArg nI hM.1) hq)
      refine lv_iinc (v := nI (k + 1)) (lv' := [(2, .int (nI (k + 1))), (0, .ref q), (1, .ref b)]) hx hb dL_makes_70 hl (k := 2) rfl (by rw [oi_1, nI_add]) (by decide) rfl (fun ls hl => ?_)
      refine lv_goto (tgt := 29) hx hb dL_makes_73 (by decide) ?_
      exact ihb (k + 1) _ _ _ _ _ _ _ _ H locs _ (by omega) ⟨MI_hang hM (fun h => by omega), by omega⟩ hO hS (lv_sub hl [1, 2, 0] rfl)
  have LA : ∀ (d k : Nat) (Bv : Nat) (g : Nat → Nat) (hy : Nat → Nat → Nat) (N u nr : Nat) (rn rd : Nat → Int32) (H : Heap) (locs : List Loc) (ls : Array Slot), k + d = 3 → MI k 0 g N u ∧ Bv + 100000 * d + 3000000 ≤ B + 4000000 → OBJ D cI cJ cC cL A q ax Bv g hy N u sb gs (0) tg nL lc nr rn rd H → va_S A s.heap H locs → lv_has ls 6 [(0, .ref q), (1, .ref b), (2, .int (nI k))] → W p l e rmL_makes s m args below meth c H locs 0 0 Q (F0 m 2 ls []) := by
    intro d
    induction d with
    | zero =>
      intro k Bv g hy N u nr rn rd H locs ls hkd hI hO hS hl
      obtain ⟨hM, hB⟩ := hI
      refine lv_iload_n hx hb dL_makes_2 rfl (lv_at hl 2 rfl) ?_
      refine lv_iconst (v := nI 3) hx hb dL_makes_3 (by decide) ?_
      refine lv_icmp_ge (tgt := 27) hx hb dL_makes_4 (by decide) (fun _ => ?_) (fun hq => absurd (nI_le (by omega) (by omega)) hq)
      refine lv_iconst (v := nI 3) hx hb dL_makes_27 (by decide) ?_
      refine lv_istore_n (lv' := [(2, .int (nI 3)), (0, .ref q), (1, .ref b)]) hx hb dL_makes_28 rfl hl (by decide) rfl (fun ls hl => ?_)
      have hM : MI 3 0 g N u := (show k = 3 by omega) ▸ hM
      exact LB 6 3 Bv g hy N u nr rn rd H locs _ (by omega) ⟨hM, by show Bv + 600000 + 2300000 ≤ _; omega⟩ hO hS (lv_sub hl [1, 2, 0] rfl)
    | succ d iha =>
      intro k Bv g hy N u nr rn rd H locs ls hkd hI hO hS hl
      obtain ⟨hM, hB⟩ := hI
      refine lv_iload_n hx hb dL_makes_2 rfl (lv_at hl 2 rfl) ?_
      refine lv_iconst (v := nI 3) hx hb dL_makes_3 (by decide) ?_
      refine lv_icmp_ge (tgt := 27) hx hb dL_makes_4 (by decide) (fun hq => absurd hq (nI_ge (by omega) (by omega))) (fun _ => ?_)
      refine lv_aload_n hx hb dL_makes_7 rfl (lv_at hl 0 rfl) ?_
      refine lv_iconst (v := nI 0) hx hb dL_makes_8 (by decide) ?_
      refine lv_iconst (v := nI 1) hx hb dL_makes_9 (by decide) ?_
      refine lv_iload_n hx hb dL_makes_10 rfl (lv_at hl 2 rfl) ?_
      refine lv_iadd hx hb dL_makes_11 ?_
      rw [nI_add]
      refine oc_hang hF (IN_hang_ok (OBJ_G hO) (a := 0) (b := 1 + k) (by omega) (by omega) (by omega) (by rw [hM.1]; omega)) (cwV 2 hts gL_makes_X9_hang rfl rfl rfl (by decide +kernel) ⟨Nat.le_of_ble_eq_true rfl, Nat.le_of_ble_eq_true rfl⟩) (Nat.le_of_ble_eq_true rfl) hl (Nat.le_of_ble_eq_true rfl) dL_makes_12 ⟨Nat.zero_le _, Nat.zero_le _⟩ hK hN hXS hA hO hS (fun g' hl' N' u' n' rn' rd' x H locs hO hS hz hk hch hp => ?_)
      obtain ⟨rfl, rfl⟩ := hp
      obtain ⟨rfl, rfl, rfl⟩ := MS_c hch (nI_pos (by rw [hM.1]; omega))
      refine lv_iload_n hx hb dL_makes_15 rfl (lv_at hl 2 rfl) ?_
      refine lv_icmp_eq (tgt := 21) hx hb dL_makes_16 (by decide) (fun _ => ?_) (fun hq => absurd (congrArg nI hM.1) hq)
      refine lv_iinc (v := nI (k + 1)) (lv' := [(2, .int (nI (k + 1))), (0, .ref q), (1, .ref b)]) hx hb dL_makes_21 hl (k := 2) rfl (by rw [oi_1, nI_add]) (by decide) rfl (fun ls hl => ?_)
      refine lv_goto (tgt := 2) hx hb dL_makes_24 (by decide) ?_
      exact iha (k + 1) _ _ _ _ _ _ _ _ H locs _ (by omega) ⟨MI_hang hM (fun _ => rfl), by omega⟩ hO hS (lv_sub hl [1, 2, 0] rfl)
  refine lv_iconst (v := nI 0) hx hb dL_makes_0 (by decide) ?_
  refine lv_istore_n (lv' := [(2, .int (nI 0)), (0, .ref q), (1, .ref b)]) hx hb dL_makes_1 rfl hl (by decide) rfl (fun ls hl => ?_)
  exact LA 3 0 B gz hy 0 0 nr rn rd _ _ _ (by omega) ⟨MI_z, by show B + 300000 + 3000000 ≤ _; omega⟩ hO hS (lv_sub hl [1, 2, 0] rfl)


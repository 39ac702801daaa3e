/-! p35: the fixed run -/
theorem law_pred {i : Nat} (h : 1 ≤ i) : nI i - nI 1 = nI (i - 1) := by
  obtain ⟨k, rfl⟩ : ∃ k, i = k + 1 := ⟨i - 1, by omega⟩
  exact nI_pred k
theorem MS.none_no {P : Nat → Prop} (h : MS (nI 0) P) (i : Nat) : ¬ P i := fun hi => by
  have := (h i).2 hi
  rw [b_n0] at this
  cases this
set_option maxHeartbeats 8000000 in
set_option maxRecDepth 100000 in
theorem law_e3 {p : Program} {l : Launch} {e : Env} {s : State} {m : MethodId} {b : Nat} {below : List Frame} {meth : Method} {c : Code} {D : va_G} {cI cJ cC cL : ClassId} {L : Nat} {xs : Nat → Int32} {Q : State → Prop} {A : Nat → Prop} {q : Nat} {ax : Nat → Nat} {gs0 : Nat → Nat} {tg0 : Nat → Nat} {lc0 : Nat → Int32}  (C0 : LCx p s m c b L xs D cI cJ cC cL A) (hend : ∀ (H : Heap) (locs : List Loc) (ls : Array Slot), va_S A s.heap H locs → lv_has ls 11 [(0, .ref b)] → W p l e room_1 s m #[Value.ref b] below meth c H locs 69 1573 Q (F0 m 608 ls [])) (hy : Nat → Nat → Nat) (nr : Nat) (rn rd : Nat → Int32) (H : Heap) (locs : List Loc) (ls : Array Slot) (hO : OBJ D cI cJ cC cL A q ax (3200000) (ES 16 0 1 0) hy (31) (8) (1) gz (0) (fun i => 65 + i) (0) lc0 nr rn rd H) (hS : va_S A s.heap H locs) (hl : lv_has ls 11 [(1, .ref q), (0, .ref b)]) : W p l e room_1 s m #[Value.ref b] below meth c H locs 69 1573 Q (F0 m 199 ls []) := by
  obtain ⟨hx, hb, hml, hown, hts, hXs, hK, hN, hXS, hXN, hXC, hAO, hL31, hA⟩ := C0
  have hL := hL31
  have hF : CallFix p m c cL_law 11 s #[Value.ref b] wsL_law RL := ⟨hx, hb, hml, hown, hts⟩
  refine lv_aload_n hx hb dL_law_199 rfl (lv_at hl 0 rfl) ?_
  refine lv_iconst (v := nI 0) hx hb dL_law_200 (by decide) ?_
  refine lv_iconst (v := nI 1) hx hb dL_law_201 (by decide) ?_
  refine oc_hang hF (IN_hang_full (OBJ_G hO) (a := 0) (b := 1) (by decide) (by decide) (by decide) (show ES 16 0 1 0 0 = 16 by decide +kernel)) (cwV 2 hts gL_law_X9_hang rfl rfl rfl (by decide +kernel) ⟨Nat.le_of_ble_eq_true rfl, Nat.le_of_ble_eq_true rfl⟩) (Nat.le_of_ble_eq_true rfl) hl (Nat.le_of_ble_eq_true rfl) dL_law_202 ⟨Nat.le_of_ble_eq_true rfl, Nat.le_of_ble_eq_true rfl⟩ hK hN hXS hA hO hS (fun g7 hl7 N7 u7 nq7 rn7 rd7 x7 H locs hO hS hz hk hch hp => ?_)
  obtain ⟨rfl, rfl, e1, e2⟩ := hp
  obtain ⟨rfl, rfl, rfl, rfl⟩ := MS_rs hch (m_lt (by decide) (by decide))
  clear hch
  have hO : OBJ D cI cJ cC cL A q ax (3300000) (ES 16 0 1 0) hy (31) (8) (1) gz (0) (fun i => 65 + i) (0) lc0 (1) rn7 rd7 H := hO
  refine lv_bipush (v := -nI 14) hx hb dL_law_205 (by decide) ?_
  refine lv_icmp_ne (tgt := 379) hx hb dL_law_207 (by decide) (fun hq => absurd rfl hq) (fun _ => ?_)
  refine lv_aload_n hx hb dL_law_210 rfl (lv_at hl 0 rfl) ?_
  refine lv_iconst (v := nI 1) hx hb dL_law_211 (by decide) ?_
  refine lv_bipush (v := nI 16) hx hb dL_law_212 (by decide) ?_
  have hsub := OBJ_sub hO (fun z h => hA z (Nat.le_trans hS.1 h))
  refine lc_i (X := XS) (O := (fun A H => OBJ D cI cJ cC cL A q ax (3300000) (ES 16 0 1 0) hy (31) (8) (1) gz (0) (fun i => 65 + i) (0) lc0 (1) rn7 rd7 H)) (O' := (fun _ => (fun A H => OBJ D cI cJ cC cL A q ax (3300000) (ES 16 0 1 0) hy (31) (8) (1) gz (0) (fun i => 65 + i) (0) lc0 (1) rn7 rd7 H))) (F := (OA q ax)) (As := [.ref q, .int (nI 1), .int (nI 16)]) (rest := []) hF (c_L_is l D cI cJ cC cL q ax (3300000) (ES 16 0 1 0) hy (31) (8) (1) gz (0) (fun i => 65 + i) (0) lc0 rn7 rd7 (nI 1) (nI 16) e1 e2 _) (va_cwS 3 hts gL_law_L_is rfl rfl rfl (by decide +kernel) ⟨Nat.le_of_ble_eq_true rfl, Nat.le_of_ble_eq_true rfl⟩) rfl hl rfl (Nat.le_of_ble_eq_true rfl) dL_law_214 ⟨Nat.le_of_ble_eq_true rfl, Nat.le_of_ble_eq_true rfl⟩ hK hN (KX_XS) (X_at KX_XS hXS hS hsub) (OBJ_at hO _) hS (hsub) (fun r v9 H locs hr hO1 hS hz hk => ?_)
  have hO := OBJ_to hO1 hsub
  clear hsub hO1
  subst hr
  refine lv_if_eq (tgt := 379) hx hb dL_law_217 (by decide) (fun hq => absurd hq n10) (fun _ => ?_)
  refine lv_aload_n hx hb dL_law_220 rfl (lv_at hl 0 rfl) ?_
  refine lv_bipush (v := nI 12) hx hb dL_law_221 (by decide) ?_
  refine oc_account hF (cwV 1 hts gL_law_X9_account rfl rfl rfl (by decide +kernel) ⟨Nat.le_of_ble_eq_true rfl, Nat.le_of_ble_eq_true rfl⟩) (Nat.le_of_ble_eq_true rfl) hl (Nat.le_of_ble_eq_true rfl) dL_law_223 ⟨Nat.le_of_ble_eq_true rfl, Nat.le_of_ble_eq_true rfl⟩ hK hN hXS hA hO hS (fun H locs hO hS hz hk => ?_)
  rw [qe_acc12 (OBJ_G hO) (OBJ_QE hO)]
  refine lv_bipush (v := nI 8) hx hb dL_law_226 (by decide) ?_
  refine lv_icmp_ne (tgt := 379) hx hb dL_law_228 (by decide) (fun hq => absurd rfl hq) (fun _ => ?_)
  refine lv_aload_n hx hb dL_law_231 rfl (lv_at hl 0 rfl) ?_
  refine lv_bipush (v := nI 15) hx hb dL_law_232 (by decide) ?_
  refine oc_depth hF (cwV 1 hts gL_law_X9_depth rfl rfl rfl (by decide +kernel) ⟨Nat.le_of_ble_eq_true rfl, Nat.le_of_ble_eq_true rfl⟩) (Nat.le_of_ble_eq_true rfl) hl (Nat.le_of_ble_eq_true rfl) dL_law_234 ⟨Nat.le_of_ble_eq_true rfl, Nat.le_of_ble_eq_true rfl⟩ hK hN hXS hA hO hS (fun H locs hO hS hz hk => ?_)
  rw [qe_depth (OBJ_QE hO) k_dep1]
  refine lv_bipush (v := nI 15) hx hb dL_law_237 (by decide) ?_
  refine lv_icmp_ne (tgt := 379) hx hb dL_law_239 (by decide) (fun hq => absurd rfl hq) (fun _ => ?_)
  refine lv_aload_n hx hb dL_law_242 rfl (lv_at hl 0 rfl) ?_
  refine oc_settlesIn hF (cwV 0 hts gL_law_X9_settlesIn rfl rfl rfl (by decide +kernel) ⟨Nat.le_of_ble_eq_true rfl, Nat.le_of_ble_eq_true rfl⟩) (Nat.le_of_ble_eq_true rfl) hl (Nat.le_of_ble_eq_true rfl) dL_law_243 ⟨Nat.le_of_ble_eq_true rfl, Nat.le_of_ble_eq_true rfl⟩ hK hN hXS hA hO hS (fun H locs hO hS hz hk => ?_)
  rw [qe_settlesIn (OBJ_QE hO) (ES_dark 0 1) k_set1]
  refine lv_if_ne (tgt := 379) hx hb dL_law_246 (by decide) (fun hq => absurd nI_0 hq) (fun _ => ?_)
  refine lv_aload_n hx hb dL_law_249 rfl (lv_at hl 0 rfl) ?_
  refine lv_iconst (v := nI 1) hx hb dL_law_250 (by decide) ?_
  refine lv_iconst (v := nI 0) hx hb dL_law_251 (by decide) ?_
  refine lv_bipush (v := nI 15) hx hb dL_law_252 (by decide) ?_
  refine oc_wire hF (IN_wire_free (OBJ_G hO) (l := 1) (f := 15) (p := 0) (by decide +kernel) (by decide +kernel) (by decide) (by decide +kernel) (by decide +kernel) (by decide +kernel) (by decide +kernel)) (cwV 3 hts gL_law_X9_wire rfl rfl rfl (by decide +kernel) ⟨Nat.le_of_ble_eq_true rfl, Nat.le_of_ble_eq_true rfl⟩) (Nat.le_of_ble_eq_true rfl) hl (Nat.le_of_ble_eq_true rfl) dL_law_254 ⟨Nat.le_of_ble_eq_true rfl, Nat.le_of_ble_eq_true rfl⟩ hK hN hXS hA hO hS (fun g8 hl8 N8 u8 nq8 rn8 rd8 x8 H locs hO hS hz hk hch hp => ?_)
  obtain ⟨rfl, rfl⟩ := hp
  rw [show wct (updn (ES 16 0 1 0) (5 + 8 * 1 + (4 + 0)) (15 + 1)) 1 = 1 by decide +kernel] at hch ⊢
  rw [show updn (ES 16 0 1 0) (5 + 8 * 1 + (4 + 0)) (15 + 1) = (ES 16 16 1 0) from ES_wl] at hO hch
  obtain ⟨eh, eN, eu⟩ := MS_c hch (nI_pos (by decide))
  have eN : N8 = 32 := eN
  have eu : u8 = 8 := eu
  subst eN
  subst eu
  clear eh hch
  have hO : OBJ D cI cJ cC cL A q ax (3400000) (ES 16 16 1 0) hl8 (32) (8) (1) gz (0) (fun i => 65 + i) (0) lc0 nq8 rn8 rd8 H := hO
  refine lv_iconst (v := nI 1) hx hb dL_law_257 (by decide) ?_
  refine lv_icmp_ne (tgt := 379) hx hb dL_law_258 (by decide) (fun hq => absurd rfl hq) (fun _ => ?_)
  refine lv_aload_n hx hb dL_law_261 rfl (lv_at hl 0 rfl) ?_
  refine oc_looped hF (cwV 0 hts gL_law_X9_looped rfl rfl rfl (by decide +kernel) ⟨Nat.le_of_ble_eq_true rfl, Nat.le_of_ble_eq_true rfl⟩) (Nat.le_of_ble_eq_true rfl) hl (Nat.le_of_ble_eq_true rfl) dL_law_262 ⟨Nat.le_of_ble_eq_true rfl, Nat.le_of_ble_eq_true rfl⟩ hK hN hXS hA hO hS (fun H locs hO hS hz hk => ?_)
  rw [qe_looped (OBJ_QE hO) k_loop1]
  refine lv_ldc (v := nI 65534) hx hb hown (hts (.constant RL 192 65534) (by decide +kernel)) dL_law_265 ?_
  refine lv_icmp_ne (tgt := 379) hx hb dL_law_267 (by decide) (fun hq => absurd rfl hq) (fun _ => ?_)
  refine lv_aload_n hx hb dL_law_270 rfl (lv_at hl 0 rfl) ?_
  refine lv_bipush (v := nI 15) hx hb dL_law_271 (by decide) ?_
  refine oc_depth hF (cwV 1 hts gL_law_X9_depth rfl rfl rfl (by decide +kernel) ⟨Nat.le_of_ble_eq_true rfl, Nat.le_of_ble_eq_true rfl⟩) (Nat.le_of_ble_eq_true rfl) hl (Nat.le_of_ble_eq_true rfl) dL_law_273 ⟨Nat.le_of_ble_eq_true rfl, Nat.le_of_ble_eq_true rfl⟩ hK hN hXS hA hO hS (fun H locs hO hS hz hk => ?_)
  rw [qe_depth (OBJ_QE hO) k_dep2]
  refine lv_bipush (v := -nI 15) hx hb dL_law_276 (by decide) ?_
  refine lv_icmp_ne (tgt := 379) hx hb dL_law_278 (by decide) (fun hq => absurd rfl hq) (fun _ => ?_)
  refine lv_aload_n hx hb dL_law_281 rfl (lv_at hl 0 rfl) ?_
  refine oc_settlesIn hF (cwV 0 hts gL_law_X9_settlesIn rfl rfl rfl (by decide +kernel) ⟨Nat.le_of_ble_eq_true rfl, Nat.le_of_ble_eq_true rfl⟩) (Nat.le_of_ble_eq_true rfl) hl (Nat.le_of_ble_eq_true rfl) dL_law_282 ⟨Nat.le_of_ble_eq_true rfl, Nat.le_of_ble_eq_true rfl⟩ hK hN hXS hA hO hS (fun H locs hO hS hz hk => ?_)
  rw [qe_settlesIn_no (OBJ_QE hO) (fun s9 h9 => ES_nstl h9)]
  refine lv_bipush (v := -nI 15) hx hb dL_law_285 (by decide) ?_
  refine lv_icmp_ne (tgt := 379) hx hb dL_law_287 (by decide) (fun hq => absurd rfl hq) (fun _ => ?_)
  refine lv_aload_n hx hb dL_law_290 rfl (lv_at hl 0 rfl) ?_
  refine oc_period hF (cwV 0 hts gL_law_X9_period rfl rfl rfl (by decide +kernel) ⟨Nat.le_of_ble_eq_true rfl, Nat.le_of_ble_eq_true rfl⟩) (Nat.le_of_ble_eq_true rfl) hl (Nat.le_of_ble_eq_true rfl) dL_law_291 ⟨Nat.le_of_ble_eq_true rfl, Nat.le_of_ble_eq_true rfl⟩ hK hN hXS hA hO hS (fun H locs hO hS hz hk => ?_)
  rw [qe_period (OBJ_QE hO) (fun y9 h9 => ES_PR h9)]
  refine lv_bipush (v := nI 30) hx hb dL_law_294 (by decide) ?_
  refine lv_icmp_ne (tgt := 379) hx hb dL_law_296 (by decide) (fun hq => absurd rfl hq) (fun _ => ?_)
  refine lv_aload_n hx hb dL_law_299 rfl (lv_at hl 0 rfl) ?_
  refine oc_periodAgain hF (cwV 0 hts gL_law_X9_periodAgain rfl rfl rfl (by decide +kernel) ⟨Nat.le_of_ble_eq_true rfl, Nat.le_of_ble_eq_true rfl⟩) (Nat.le_of_ble_eq_true rfl) hl (Nat.le_of_ble_eq_true rfl) dL_law_300 ⟨Nat.le_of_ble_eq_true rfl, Nat.le_of_ble_eq_true rfl⟩ hK hN hXS hA hO hS (fun H locs hO hS hz hk => ?_)
  rw [qe_period (OBJ_QE hO) (fun y9 h9 => ES_PR h9)]
  refine lv_bipush (v := nI 30) hx hb dL_law_303 (by decide) ?_
  refine lv_icmp_ne (tgt := 379) hx hb dL_law_305 (by decide) (fun hq => absurd rfl hq) (fun _ => ?_)
  refine lv_aload_n hx hb dL_law_308 rfl (lv_at hl 0 rfl) ?_
  refine lv_bipush (v := nI 30) hx hb dL_law_309 (by decide) ?_
  refine oc_tick hF (IN_tick_ok (OBJ_G hO) (tt := 30) (by decide) (by decide)) (cwV 1 hts gL_law_X9_tick rfl rfl rfl (by decide +kernel) ⟨Nat.le_of_ble_eq_true rfl, Nat.le_of_ble_eq_true rfl⟩) (Nat.le_of_ble_eq_true rfl) hl (Nat.le_of_ble_eq_true rfl) dL_law_311 ⟨Nat.le_of_ble_eq_true rfl, Nat.le_of_ble_eq_true rfl⟩ hK hN hXS hA hO hS (fun g9 hl9 N9 u9 nq9 rn9 rd9 x9 H locs hO hS hz hk hch hp => ?_)
  obtain ⟨rfl, rfl⟩ := hp
  rw [show tsum (ES 16 16 1 0) 30 = 30 from ES_tsum (by decide)] at hch ⊢
  rw [show tki (ES 16 16 1 0) 30 = ES 16 16 1 30 from ES_tki 0 30 (by decide)] at hO hch
  obtain ⟨eh, eN, eu⟩ := MS_c hch (nI_pos (by decide))
  have eN : N9 = 33 := eN
  have eu : u9 = 8 := eu
  subst eN
  subst eu
  clear eh hch
  have hO : OBJ D cI cJ cC cL A q ax (3500000) (ES 16 16 1 30) hl9 (33) (8) (1) gz (0) (fun i => 65 + i) (0) lc0 nq9 rn9 rd9 H := hO
  refine lv_bipush (v := nI 30) hx hb dL_law_314 (by decide) ?_
  refine lv_icmp_ne (tgt := 379) hx hb dL_law_316 (by decide) (fun hq => absurd rfl hq) (fun _ => ?_)
  refine lv_aload_n hx hb dL_law_319 rfl (lv_at hl 0 rfl) ?_
  refine lv_iconst (v := nI 4) hx hb dL_law_320 (by decide) ?_
  refine oc_account hF (cwV 1 hts gL_law_X9_account rfl rfl rfl (by decide +kernel) ⟨Nat.le_of_ble_eq_true rfl, Nat.le_of_ble_eq_true rfl⟩) (Nat.le_of_ble_eq_true rfl) hl (Nat.le_of_ble_eq_true rfl) dL_law_321 ⟨Nat.le_of_ble_eq_true rfl, Nat.le_of_ble_eq_true rfl⟩ hK hN hXS hA hO hS (fun H locs hO hS hz hk => ?_)
  rw [qe_acc4 (OBJ_G hO) (OBJ_QE hO)]
  rw [ES_gct.1]
  refine lv_if_ne (tgt := 379) hx hb dL_law_324 (by decide) (fun hq => absurd nI_0 hq) (fun _ => ?_)
  refine lv_aload_n hx hb dL_law_327 rfl (lv_at hl 0 rfl) ?_
  refine lv_bipush (v := nI 15) hx hb dL_law_328 (by decide) ?_
  refine oc_tick hF (IN_tick_ok (OBJ_G hO) (tt := 15) (by decide) (by decide)) (cwV 1 hts gL_law_X9_tick rfl rfl rfl (by decide +kernel) ⟨Nat.le_of_ble_eq_true rfl, Nat.le_of_ble_eq_true rfl⟩) (Nat.le_of_ble_eq_true rfl) hl (Nat.le_of_ble_eq_true rfl) dL_law_330 ⟨Nat.le_of_ble_eq_true rfl, Nat.le_of_ble_eq_true rfl⟩ hK hN hXS hA hO hS (fun g10 hl10 N10 u10 nq10 rn10 rd10 x10 H locs hO hS hz hk hch hp => ?_)
  obtain ⟨rfl, rfl⟩ := hp
  rw [show tsum (ES 16 16 1 30) 15 = 15 from ES_tsum (by decide)] at hch ⊢
  rw [show tki (ES 16 16 1 30) 15 = ES 16 16 1 45 from ES_tki 30 15 (by decide)] at hO hch
  obtain ⟨eh, eN, eu⟩ := MS_c hch (nI_pos (by decide))
  have eN : N10 = 34 := eN
  have eu : u10 = 8 := eu
  subst eN
  subst eu
  clear eh hch
  have hO : OBJ D cI cJ cC cL A q ax (3600000) (ES 16 16 1 45) hl10 (34) (8) (1) gz (0) (fun i => 65 + i) (0) lc0 nq10 rn10 rd10 H := hO
  refine lv_bipush (v := nI 15) hx hb dL_law_333 (by decide) ?_
  refine lv_icmp_ne (tgt := 379) hx hb dL_law_335 (by decide) (fun hq => absurd rfl hq) (fun _ => ?_)
  refine lv_aload_n hx hb dL_law_338 rfl (lv_at hl 0 rfl) ?_
  refine lv_iconst (v := nI 4) hx hb dL_law_339 (by decide) ?_
  refine oc_account hF (cwV 1 hts gL_law_X9_account rfl rfl rfl (by decide +kernel) ⟨Nat.le_of_ble_eq_true rfl, Nat.le_of_ble_eq_true rfl⟩) (Nat.le_of_ble_eq_true rfl) hl (Nat.le_of_ble_eq_true rfl) dL_law_340 ⟨Nat.le_of_ble_eq_true rfl, Nat.le_of_ble_eq_true rfl⟩ hK hN hXS hA hO hS (fun H locs hO hS hz hk => ?_)
  rw [qe_acc4 (OBJ_G hO) (OBJ_QE hO)]
  rw [ES_gct.2]
  refine lv_bipush (v := nI 15) hx hb dL_law_343 (by decide) ?_
  refine lv_icmp_ne (tgt := 379) hx hb dL_law_345 (by decide) (fun hq => absurd rfl hq) (fun _ => ?_)
  refine lv_aload_n hx hb dL_law_348 rfl (lv_at hl 0 rfl) ?_
  refine lv_bipush (v := nI 99) hx hb dL_law_349 (by decide) ?_
  refine oc_tick hF (IN_tick_ok (OBJ_G hO) (tt := 99) (by decide) (by decide)) (cwV 1 hts gL_law_X9_tick rfl rfl rfl (by decide +kernel) ⟨Nat.le_of_ble_eq_true rfl, Nat.le_of_ble_eq_true rfl⟩) (Nat.le_of_ble_eq_true rfl) hl (Nat.le_of_ble_eq_true rfl) dL_law_351 ⟨Nat.le_of_ble_eq_true rfl, Nat.le_of_ble_eq_true rfl⟩ hK hN hXS hA hO hS (fun g11 hl11 N11 u11 nq11 rn11 rd11 x11 H locs hO hS hz hk hch hp => ?_)
  obtain ⟨rfl, rfl⟩ := hp
  rw [show tsum (ES 16 16 1 45) 99 = 99 from ES_tsum (by decide)] at hch ⊢
  rw [show tki (ES 16 16 1 45) 99 = ES 16 16 1 144 from ES_tki 45 99 (by decide)] at hO hch
  obtain ⟨eh, eN, eu⟩ := MS_c hch (nI_pos (by decide))
  have eN : N11 = 35 := eN
  have eu : u11 = 8 := eu
  subst eN
  subst eu
  have h34 : hl11 34 = (ES 16 16 1 45) := by rw [eh]; exact updh_a2
  clear eh hch
  have hO : OBJ D cI cJ cC cL A q ax (3700000) (ES 16 16 1 144) hl11 (35) (8) (1) gz (0) (fun i => 65 + i) (0) lc0 nq11 rn11 rd11 H := hO
  refine lv_bipush (v := nI 99) hx hb dL_law_354 (by decide) ?_
  refine lv_icmp_ne (tgt := 379) hx hb dL_law_356 (by decide) (fun hq => absurd rfl hq) (fun _ => ?_)
  refine lv_aload_n hx hb dL_law_359 rfl (lv_at hl 0 rfl) ?_
  refine lv_bipush (v := nI 8) hx hb dL_law_360 (by decide) ?_
  refine oc_account hF (cwV 1 hts gL_law_X9_account rfl rfl rfl (by decide +kernel) ⟨Nat.le_of_ble_eq_true rfl, Nat.le_of_ble_eq_true rfl⟩) (Nat.le_of_ble_eq_true rfl) hl (Nat.le_of_ble_eq_true rfl) dL_law_362 ⟨Nat.le_of_ble_eq_true rfl, Nat.le_of_ble_eq_true rfl⟩ hK hN hXS hA hO hS (fun H locs hO hS hz hk => ?_)
  rw [qe_acc8 (OBJ_G hO) (OBJ_QE hO)]
  rw [show ES 16 16 1 144 3 = 144 by decide +kernel]
  refine lv_sipush (v := nI 144) hx hb dL_law_365 (by decide) ?_
  refine lv_icmp_ne (tgt := 379) hx hb dL_law_368 (by decide) (fun hq => absurd rfl hq) (fun _ => ?_)
  refine lv_aload_n hx hb dL_law_371 rfl (lv_at hl 0 rfl) ?_
  refine oc_isBalanced hF (by decide) (cwV 0 hts gL_law_X9_isBalanced rfl rfl rfl (by decide +kernel) ⟨Nat.le_of_ble_eq_true rfl, Nat.le_of_ble_eq_true rfl⟩) (Nat.le_of_ble_eq_true rfl) hl (Nat.le_of_ble_eq_true rfl) dL_law_372 ⟨Nat.le_of_ble_eq_true rfl, Nat.le_of_ble_eq_true rfl⟩ hK hN hXS hA hO hS (fun H locs hO hS hz hk => ?_)
  refine lv_iconst (v := nI 1) hx hb dL_law_375 (by decide) ?_
  refine lv_icmp_eq (tgt := 381) hx hb dL_law_376 (by decide) (fun _ => ?_) (fun hq => absurd rfl hq)
  refine lv_aload_n hx hb dL_law_381 rfl (lv_at hl 0 rfl) ?_
  refine lv_iconst (v := nI 0) hx hb dL_law_382 (by decide) ?_
  refine oc_loops hF (IN_loops_no (OBJ_G hO) (r := 1) (n := 15) ((loops_O (OBJ_G hO).1 k_loop2 1).1 (by decide +kernel)) (fun j9 hj9 h9 => absurd ((loops_O (OBJ_G hO).1 k_loop2 j9).2 h9) (by rw [show j9 = 0 by omega]; decide +kernel)) (fun x9 h9 => by rw [h9.uniq (loops_O (OBJ_G hO).1 k_loop2)]; exact k_pop)) (cwV 1 hts gL_law_X9_loops rfl rfl rfl (by decide +kernel) ⟨Nat.le_of_ble_eq_true rfl, Nat.le_of_ble_eq_true rfl⟩) (Nat.le_of_ble_eq_true rfl) hl (Nat.le_of_ble_eq_true rfl) dL_law_383 ⟨Nat.le_of_ble_eq_true rfl, Nat.le_of_ble_eq_true rfl⟩ hK hN hXS hA hO hS (fun g12 hl12 N12 u12 nq12 rn12 rd12 x12 H locs hO hS hz hk hch hp => ?_)
  obtain ⟨rfl, rfl, e1, e2, e3, e4⟩ := hp
  obtain ⟨rfl, rfl, rfl, rfl⟩ := MS_rs hch (m_lt (by decide) (by decide))
  clear hch
  have hO : OBJ D cI cJ cC cL A q ax (3800000) (ES 16 16 1 144) hl11 (35) (8) (1) gz (0) (fun i => 65 + i) (0) lc0 (2) rn12 rd12 H := hO
  refine lv_bipush (v := -nI 14) hx hb dL_law_386 (by decide) ?_
  refine lv_icmp_ne (tgt := 506) hx hb dL_law_388 (by decide) (fun hq => absurd rfl hq) (fun _ => ?_)
  refine lv_aload_n hx hb dL_law_391 rfl (lv_at hl 0 rfl) ?_
  refine lv_bipush (v := nI 9) hx hb dL_law_392 (by decide) ?_
  refine lv_iconst (v := nI 1) hx hb dL_law_394 (by decide) ?_
  refine lv_bipush (v := nI 12) hx hb dL_law_395 (by decide) ?_
  refine lv_bipush (v := nI 15) hx hb dL_law_397 (by decide) ?_
  have hsub := OBJ_sub hO (fun z h => hA z (Nat.le_trans hS.1 h))
  refine lc_i (X := XS) (O := (fun A H => OBJ D cI cJ cC cL A q ax (3800000) (ES 16 16 1 144) hl11 (35) (8) (1) gz (0) (fun i => 65 + i) (0) lc0 (2) rn12 rd12 H)) (O' := (fun _ => (fun A H => OBJ D cI cJ cC cL A q ax (3800000) (ES 16 16 1 144) hl11 (35) (8) (1) gz (0) (fun i => 65 + i) (0) lc0 (2) rn12 rd12 H))) (F := (OA q ax)) (As := [.ref q, .int (nI 9), .int (nI 1), .int (nI 12), .int (nI 15)]) (rest := []) hF (c_L_is_ l D cI cJ cC cL q ax (3800000) (ES 16 16 1 144) hl11 (35) (8) (1) gz (0) (fun i => 65 + i) (0) lc0 rn12 rd12 (nI 9) (nI 1) (nI 12) (nI 15) e1 e2 e3 e4 _) (va_cwS 5 hts gL_law_L_is_ rfl rfl rfl (by decide +kernel) ⟨Nat.le_of_ble_eq_true rfl, Nat.le_of_ble_eq_true rfl⟩) rfl hl rfl (Nat.le_of_ble_eq_true rfl) dL_law_399 ⟨Nat.le_of_ble_eq_true rfl, Nat.le_of_ble_eq_true rfl⟩ hK hN (KX_XS) (X_at KX_XS hXS hS hsub) (OBJ_at hO _) hS (hsub) (fun r v9 H locs hr hO1 hS hz hk => ?_)
  have hO := OBJ_to hO1 hsub
  clear hsub hO1
  subst hr
  refine lv_if_eq (tgt := 506) hx hb dL_law_402 (by decide) (fun hq => absurd hq n10) (fun _ => ?_)
  refine lv_aload_n hx hb dL_law_405 rfl (lv_at hl 0 rfl) ?_
  refine lv_iconst (v := nI 1) hx hb dL_law_406 (by decide) ?_
  refine lv_iconst (v := nI 0) hx hb dL_law_407 (by decide) ?_
  refine oc_cut hF (IN_cut_ok (OBJ_G hO) (l := 1) (p := 0) (by decide +kernel) (by decide) (by decide +kernel) (by decide +kernel) (by decide +kernel)) (cwV 2 hts gL_law_X9_cut rfl rfl rfl (by decide +kernel) ⟨Nat.le_of_ble_eq_true rfl, Nat.le_of_ble_eq_true rfl⟩) (Nat.le_of_ble_eq_true rfl) hl (Nat.le_of_ble_eq_true rfl) dL_law_408 ⟨Nat.le_of_ble_eq_true rfl, Nat.le_of_ble_eq_true rfl⟩ hK hN hXS hA hO hS (fun g13 hl13 N13 u13 nq13 rn13 rd13 x13 H locs hO hS hz hk hch hp => ?_)
  obtain ⟨rfl, rfl⟩ := hp
  rw [show src (ES 16 16 1 144) 1 0 - 1 = 15 by decide +kernel] at hch ⊢
  rw [show updn (ES 16 16 1 144) (5 + 8 * 1 + (4 + 0)) 0 = (ES 16 0 1 144) from ES_c1] at hO hch
  obtain ⟨eh, eN, eu⟩ := MS_c hch (nI_pos (by decide))
  have eN : N13 = 36 := eN
  have eu : u13 = 8 := eu
  subst eN
  subst eu
  have h34 : hl13 34 = (ES 16 16 1 45) := by rw [eh]; exact (updh_n2 (by decide)).trans h34
  have h35 : hl13 35 = (ES 16 16 1 144) := by rw [eh]; exact updh_a2
  clear eh hch
  have hO : OBJ D cI cJ cC cL A q ax (3900000) (ES 16 0 1 144) hl13 (36) (8) (1) gz (0) (fun i => 65 + i) (0) lc0 nq13 rn13 rd13 H := hO
  refine lv_bipush (v := nI 15) hx hb dL_law_411 (by decide) ?_
  refine lv_icmp_ne (tgt := 506) hx hb dL_law_413 (by decide) (fun hq => absurd rfl hq) (fun _ => ?_)
  refine lv_aload_n hx hb dL_law_416 rfl (lv_at hl 0 rfl) ?_
  refine lv_iconst (v := nI 1) hx hb dL_law_417 (by decide) ?_
  refine lv_iconst (v := nI 0) hx hb dL_law_418 (by decide) ?_
  refine lv_iconst (v := nI 0) hx hb dL_law_419 (by decide) ?_
  refine oc_wire hF (IN_wire_free (OBJ_G hO) (l := 1) (f := 0) (p := 0) (by decide +kernel) (by decide +kernel) (by decide) (by decide +kernel) (by decide +kernel) (by decide +kernel) (by decide +kernel)) (cwV 3 hts gL_law_X9_wire rfl rfl rfl (by decide +kernel) ⟨Nat.le_of_ble_eq_true rfl, Nat.le_of_ble_eq_true rfl⟩) (Nat.le_of_ble_eq_true rfl) hl (Nat.le_of_ble_eq_true rfl) dL_law_420 ⟨Nat.le_of_ble_eq_true rfl, Nat.le_of_ble_eq_true rfl⟩ hK hN hXS hA hO hS (fun g14 hl14 N14 u14 nq14 rn14 rd14 x14 H locs hO hS hz hk hch hp => ?_)
  obtain ⟨rfl, rfl⟩ := hp
  rw [show wct (updn (ES 16 0 1 144) (5 + 8 * 1 + (4 + 0)) (0 + 1)) 1 = 1 by decide +kernel] at hch ⊢
  rw [show updn (ES 16 0 1 144) (5 + 8 * 1 + (4 + 0)) (0 + 1) = (ES 16 1 1 144) from ES_w0] at hO hch
  obtain ⟨eh, eN, eu⟩ := MS_c hch (nI_pos (by decide))
  have eN : N14 = 37 := eN
  have eu : u14 = 8 := eu
  subst eN
  subst eu
  have h34 : hl14 34 = (ES 16 16 1 45) := by rw [eh]; exact (updh_n2 (by decide)).trans h34
  have h35 : hl14 35 = (ES 16 16 1 144) := by rw [eh]; exact (updh_n2 (by decide)).trans h35
  have h36 : hl14 36 = (ES 16 0 1 144) := by rw [eh]; exact updh_a2
  clear eh hch
  have hO : OBJ D cI cJ cC cL A q ax (4000000) (ES 16 1 1 144) hl14 (37) (8) (1) gz (0) (fun i => 65 + i) (0) lc0 nq14 rn14 rd14 H := hO
  refine lv_iconst (v := nI 1) hx hb dL_law_423 (by decide) ?_
  refine lv_icmp_ne (tgt := 506) hx hb dL_law_424 (by decide) (fun hq => absurd rfl hq) (fun _ => ?_)
  refine lv_aload_n hx hb dL_law_427 rfl (lv_at hl 0 rfl) ?_
  refine lv_iconst (v := nI 0) hx hb dL_law_428 (by decide) ?_
  refine oc_loops hF (IN_loops_ok (OBJ_G hO) (b := 0) (by decide) (fun _ i hi => MS.none_no (loops_O (OBJ_G hO).1 k_loop3) i hi)) (cwV 1 hts gL_law_X9_loops rfl rfl rfl (by decide +kernel) ⟨Nat.le_of_ble_eq_true rfl, Nat.le_of_ble_eq_true rfl⟩) (Nat.le_of_ble_eq_true rfl) hl (Nat.le_of_ble_eq_true rfl) dL_law_429 ⟨Nat.le_of_ble_eq_true rfl, Nat.le_of_ble_eq_true rfl⟩ hK hN hXS hA hO hS (fun g15 hl15 N15 u15 nq15 rn15 rd15 x15 H locs hO hS hz hk hch hp => ?_)
  obtain ⟨rfl, rfl⟩ := hp
  rw [show (ES 16 1 1 144) 1 = 1 by decide +kernel] at hch ⊢
  rw [show updn (ES 16 1 1 144) 1 0 = (ES 16 1 0 144) from ES_l0] at hO hch
  obtain ⟨eh, eN, eu⟩ := MS_c hch (nI_pos (by decide))
  have eN : N15 = 38 := eN
  have eu : u15 = 8 := eu
  subst eN
  subst eu
  have h34 : hl15 34 = (ES 16 16 1 45) := by rw [eh]; exact (updh_n2 (by decide)).trans h34
  have h35 : hl15 35 = (ES 16 16 1 144) := by rw [eh]; exact (updh_n2 (by decide)).trans h35
  have h36 : hl15 36 = (ES 16 0 1 144) := by rw [eh]; exact (updh_n2 (by decide)).trans h36
  have h37 : hl15 37 = (ES 16 1 1 144) := by rw [eh]; exact updh_a2
  clear eh hch
  have hO : OBJ D cI cJ cC cL A q ax (4100000) (ES 16 1 0 144) hl15 (38) (8) (1) gz (0) (fun i => 65 + i) (0) lc0 nq15 rn15 rd15 H := hO
  refine lv_iconst (v := nI 1) hx hb dL_law_432 (by decide) ?_
  refine lv_icmp_ne (tgt := 506) hx hb dL_law_433 (by decide) (fun hq => absurd rfl hq) (fun _ => ?_)
  refine lv_aload_n hx hb dL_law_436 rfl (lv_at hl 0 rfl) ?_
  refine lv_iconst (v := nI 0) hx hb dL_law_437 (by decide) ?_
  refine oc_loops hF (IN_loops_ok (OBJ_G hO) (b := 0) (by decide) (fun _ i hi => MS.none_no (loops_O (OBJ_G hO).1 k_loop4) i hi)) (cwV 1 hts gL_law_X9_loops rfl rfl rfl (by decide +kernel) ⟨Nat.le_of_ble_eq_true rfl, Nat.le_of_ble_eq_true rfl⟩) (Nat.le_of_ble_eq_true rfl) hl (Nat.le_of_ble_eq_true rfl) dL_law_438 ⟨Nat.le_of_ble_eq_true rfl, Nat.le_of_ble_eq_true rfl⟩ hK hN hXS hA hO hS (fun g16 hl16 N16 u16 nq16 rn16 rd16 x16 H locs hO hS hz hk hch hp => ?_)
  obtain ⟨rfl, rfl⟩ := hp
  rw [show (ES 16 1 0 144) 1 = 0 by decide +kernel] at hch ⊢
  rw [show updn (ES 16 1 0 144) 1 0 = (ES 16 1 0 144) from ES_l1] at hO hch
  obtain ⟨eh, eN, eu⟩ := MS_c hch (nI_pos (by decide))
  have eN : N16 = 39 := eN
  have eu : u16 = 8 := eu
  subst eN
  subst eu
  have h34 : hl16 34 = (ES 16 16 1 45) := by rw [eh]; exact (updh_n2 (by decide)).trans h34
  have h35 : hl16 35 = (ES 16 16 1 144) := by rw [eh]; exact (updh_n2 (by decide)).trans h35
  have h36 : hl16 36 = (ES 16 0 1 144) := by rw [eh]; exact (updh_n2 (by decide)).trans h36
  have h37 : hl16 37 = (ES 16 1 1 144) := by rw [eh]; exact (updh_n2 (by decide)).trans h37
  have h38 : hl16 38 = (ES 16 1 0 144) := by rw [eh]; exact updh_a2
  clear eh hch
  have hO : OBJ D cI cJ cC cL A q ax (4200000) (ES 16 1 0 144) hl16 (39) (8) (1) gz (0) (fun i => 65 + i) (0) lc0 nq16 rn16 rd16 H := hO
  refine lv_if_ne (tgt := 506) hx hb dL_law_441 (by decide) (fun hq => absurd nI_0 hq) (fun _ => ?_)
  refine lv_aload_n hx hb dL_law_444 rfl (lv_at hl 0 rfl) ?_
  refine lv_iconst (v := nI 1) hx hb dL_law_445 (by decide) ?_
  refine lv_iconst (v := nI 0) hx hb dL_law_446 (by decide) ?_
  refine oc_cut hF (IN_cut_ok (OBJ_G hO) (l := 1) (p := 0) (by decide +kernel) (by decide) (by decide +kernel) (by decide +kernel) (by decide +kernel)) (cwV 2 hts gL_law_X9_cut rfl rfl rfl (by decide +kernel) ⟨Nat.le_of_ble_eq_true rfl, Nat.le_of_ble_eq_true rfl⟩) (Nat.le_of_ble_eq_true rfl) hl (Nat.le_of_ble_eq_true rfl) dL_law_447 ⟨Nat.le_of_ble_eq_true rfl, Nat.le_of_ble_eq_true rfl⟩ hK hN hXS hA hO hS (fun g17 hl17 N17 u17 nq17 rn17 rd17 x17 H locs hO hS hz hk hch hp => ?_)
  obtain ⟨rfl, rfl⟩ := hp
  rw [show src (ES 16 1 0 144) 1 0 - 1 = 0 by decide +kernel] at hch ⊢
  rw [show updn (ES 16 1 0 144) (5 + 8 * 1 + (4 + 0)) 0 = (ES 16 0 0 144) from ES_c2] at hO hch
  obtain ⟨eh, eN, eu⟩ := MS_c hch (nI_pos (by decide))
  have eN : N17 = 40 := eN
  have eu : u17 = 8 := eu
  subst eN
  subst eu
  have h34 : hl17 34 = (ES 16 16 1 45) := by rw [eh]; exact (updh_n2 (by decide)).trans h34
  have h35 : hl17 35 = (ES 16 16 1 144) := by rw [eh]; exact (updh_n2 (by decide)).trans h35
  have h36 : hl17 36 = (ES 16 0 1 144) := by rw [eh]; exact (updh_n2 (by decide)).trans h36
  have h37 : hl17 37 = (ES 16 1 1 144) := by rw [eh]; exact (updh_n2 (by decide)).trans h37
  have h38 : hl17 38 = (ES 16 1 0 144) := by rw [eh]; exact (updh_n2 (by decide)).trans h38
  have h39 : hl17 39 = (ES 16 1 0 144) := by rw [eh]; exact updh_a2
  clear eh hch
  have hO : OBJ D cI cJ cC cL A q ax (4300000) (ES 16 0 0 144) hl17 (40) (8) (1) gz (0) (fun i => 65 + i) (0) lc0 nq17 rn17 rd17 H := hO
  refine lv_if_ne (tgt := 506) hx hb dL_law_450 (by decide) (fun hq => absurd nI_0 hq) (fun _ => ?_)
  refine lv_aload_n hx hb dL_law_453 rfl (lv_at hl 0 rfl) ?_
  refine lv_iconst (v := nI 1) hx hb dL_law_454 (by decide) ?_
  refine lv_iconst (v := nI 0) hx hb dL_law_455 (by decide) ?_
  refine lv_bipush (v := nI 15) hx hb dL_law_456 (by decide) ?_
  refine oc_wire hF (IN_wire_loop (OBJ_G hO) (l := 1) (f := 15) (p := 0) (d := 14) (by decide +kernel) (by decide +kernel) (by decide) (by decide +kernel) (by decide +kernel) (by decide +kernel) (by decide +kernel) (by decide) (fewest_O (OBJ_G hO).1 (a := 1) (b := 15) (d := 14) (by decide +kernel) (by decide +kernel) (by decide) k_few1).1 (fewest_O (OBJ_G hO).1 (a := 1) (b := 15) (d := 14) (by decide +kernel) (by decide +kernel) (by decide) k_few1).2) (cwV 3 hts gL_law_X9_wire rfl rfl rfl (by decide +kernel) ⟨Nat.le_of_ble_eq_true rfl, Nat.le_of_ble_eq_true rfl⟩) (Nat.le_of_ble_eq_true rfl) hl (Nat.le_of_ble_eq_true rfl) dL_law_458 ⟨Nat.le_of_ble_eq_true rfl, Nat.le_of_ble_eq_true rfl⟩ hK hN hXS hA hO hS (fun g18 hl18 N18 u18 nq18 rn18 rd18 x18 H locs hO hS hz hk hch hp => ?_)
  obtain ⟨rfl, rfl, e1, e2, e3, e4⟩ := hp
  obtain ⟨rfl, rfl, rfl, rfl⟩ := MS_rs hch (m_lt (by decide) (by decide))
  clear hch
  have hO : OBJ D cI cJ cC cL A q ax (4400000) (ES 16 0 0 144) hl17 (40) (8) (1) gz (0) (fun i => 65 + i) (0) lc0 (2) rn18 rd18 H := hO
  refine lv_bipush (v := -nI 14) hx hb dL_law_461 (by decide) ?_
  refine lv_icmp_ne (tgt := 506) hx hb dL_law_463 (by decide) (fun hq => absurd rfl hq) (fun _ => ?_)
  refine lv_aload_n hx hb dL_law_466 rfl (lv_at hl 0 rfl) ?_
  refine lv_bipush (v := nI 8) hx hb dL_law_467 (by decide) ?_
  refine lv_bipush (v := nI 15) hx hb dL_law_469 (by decide) ?_
  refine lv_bipush (v := nI 11) hx hb dL_law_471 (by decide) ?_
  refine lv_bipush (v := nI 15) hx hb dL_law_473 (by decide) ?_
  have hsub := OBJ_sub hO (fun z h => hA z (Nat.le_trans hS.1 h))
  refine lc_i (X := XS) (O := (fun A H => OBJ D cI cJ cC cL A q ax (4400000) (ES 16 0 0 144) hl17 (40) (8) (1) gz (0) (fun i => 65 + i) (0) lc0 (2) rn18 rd18 H)) (O' := (fun _ => (fun A H => OBJ D cI cJ cC cL A q ax (4400000) (ES 16 0 0 144) hl17 (40) (8) (1) gz (0) (fun i => 65 + i) (0) lc0 (2) rn18 rd18 H))) (F := (OA q ax)) (As := [.ref q, .int (nI 8), .int (nI 15), .int (nI 11), .int (nI 15)]) (rest := []) hF (c_L_is_ l D cI cJ cC cL q ax (4400000) (ES 16 0 0 144) hl17 (40) (8) (1) gz (0) (fun i => 65 + i) (0) lc0 rn18 rd18 (nI 8) (nI 15) (nI 11) (nI 15) e1 e2 e3 e4 _) (va_cwS 5 hts gL_law_L_is_ rfl rfl rfl (by decide +kernel) ⟨Nat.le_of_ble_eq_true rfl, Nat.le_of_ble_eq_true rfl⟩) rfl hl rfl (Nat.le_of_ble_eq_true rfl) dL_law_475 ⟨Nat.le_of_ble_eq_true rfl, Nat.le_of_ble_eq_true rfl⟩ hK hN (KX_XS) (X_at KX_XS hXS hS hsub) (OBJ_at hO _) hS (hsub) (fun r v9 H locs hr hO1 hS hz hk => ?_)
  have hO := OBJ_to hO1 hsub
  clear hsub hO1
  subst hr
  refine lv_if_eq (tgt := 506) hx hb dL_law_478 (by decide) (fun hq => absurd hq n10) (fun _ => ?_)
  refine lv_aload_n hx hb dL_law_481 rfl (lv_at hl 0 rfl) ?_
  refine lv_iconst (v := nI 1) hx hb dL_law_482 (by decide) ?_
  refine lv_iconst (v := nI 0) hx hb dL_law_483 (by decide) ?_
  refine lv_iconst (v := nI 1) hx hb dL_law_484 (by decide) ?_
  refine oc_wire hF (IN_wire_loop (OBJ_G hO) (l := 1) (f := 1) (p := 0) (d := 0) (by decide +kernel) (by decide +kernel) (by decide) (by decide +kernel) (by decide +kernel) (by decide +kernel) (by decide +kernel) (by decide) (fewest_O (OBJ_G hO).1 (a := 1) (b := 1) (d := 0) (by decide +kernel) (by decide +kernel) (by decide) k_few2).1 (fewest_O (OBJ_G hO).1 (a := 1) (b := 1) (d := 0) (by decide +kernel) (by decide +kernel) (by decide) k_few2).2) (cwV 3 hts gL_law_X9_wire rfl rfl rfl (by decide +kernel) ⟨Nat.le_of_ble_eq_true rfl, Nat.le_of_ble_eq_true rfl⟩) (Nat.le_of_ble_eq_true rfl) hl (Nat.le_of_ble_eq_true rfl) dL_law_485 ⟨Nat.le_of_ble_eq_true rfl, Nat.le_of_ble_eq_true rfl⟩ hK hN hXS hA hO hS (fun g19 hl19 N19 u19 nq19 rn19 rd19 x19 H locs hO hS hz hk hch hp => ?_)
  obtain ⟨rfl, rfl, e1, e2, e3, e4⟩ := hp
  obtain ⟨rfl, rfl, rfl, rfl⟩ := MS_rs hch (m_lt (by decide) (by decide))
  clear hch
  have hO : OBJ D cI cJ cC cL A q ax (4500000) (ES 16 0 0 144) hl17 (40) (8) (1) gz (0) (fun i => 65 + i) (0) lc0 (2) rn19 rd19 H := hO
  refine lv_bipush (v := -nI 14) hx hb dL_law_488 (by decide) ?_
  refine lv_icmp_ne (tgt := 506) hx hb dL_law_490 (by decide) (fun hq => absurd rfl hq) (fun _ => ?_)
  refine lv_aload_n hx hb dL_law_493 rfl (lv_at hl 0 rfl) ?_
  refine lv_bipush (v := nI 8) hx hb dL_law_494 (by decide) ?_
  refine lv_iconst (v := nI 1) hx hb dL_law_496 (by decide) ?_
  refine lv_bipush (v := nI 11) hx hb dL_law_497 (by decide) ?_
  refine lv_iconst (v := nI 1) hx hb dL_law_499 (by decide) ?_
  have hsub := OBJ_sub hO (fun z h => hA z (Nat.le_trans hS.1 h))
  refine lc_i (X := XS) (O := (fun A H => OBJ D cI cJ cC cL A q ax (4500000) (ES 16 0 0 144) hl17 (40) (8) (1) gz (0) (fun i => 65 + i) (0) lc0 (2) rn19 rd19 H)) (O' := (fun _ => (fun A H => OBJ D cI cJ cC cL A q ax (4500000) (ES 16 0 0 144) hl17 (40) (8) (1) gz (0) (fun i => 65 + i) (0) lc0 (2) rn19 rd19 H))) (F := (OA q ax)) (As := [.ref q, .int (nI 8), .int (nI 1), .int (nI 11), .int (nI 1)]) (rest := []) hF (c_L_is_ l D cI cJ cC cL q ax (4500000) (ES 16 0 0 144) hl17 (40) (8) (1) gz (0) (fun i => 65 + i) (0) lc0 rn19 rd19 (nI 8) (nI 1) (nI 11) (nI 1) e1 e2 e3 e4 _) (va_cwS 5 hts gL_law_L_is_ rfl rfl rfl (by decide +kernel) ⟨Nat.le_of_ble_eq_true rfl, Nat.le_of_ble_eq_true rfl⟩) rfl hl rfl (Nat.le_of_ble_eq_true rfl) dL_law_500 ⟨Nat.le_of_ble_eq_true rfl, Nat.le_of_ble_eq_true rfl⟩ hK hN (KX_XS) (X_at KX_XS hXS hS hsub) (OBJ_at hO _) hS (hsub) (fun r v9 H locs hr hO1 hS hz hk => ?_)
  have hO := OBJ_to hO1 hsub
  clear hsub hO1
  subst hr
  refine lv_if_ne (tgt := 508) hx hb dL_law_503 (by decide) (fun _ => ?_) (fun hq => absurd hq n10)
  refine lv_aload_n hx hb dL_law_508 rfl (lv_at hl 0 rfl) ?_
  refine oc_undoS hF (v := 7) rfl (cwV 0 hts gL_law_X9_undo rfl rfl rfl (by decide +kernel) ⟨Nat.le_of_ble_eq_true rfl, Nat.le_of_ble_eq_true rfl⟩) (Nat.le_of_ble_eq_true rfl) hl (Nat.le_of_ble_eq_true rfl) dL_law_509 ⟨Nat.le_of_ble_eq_true rfl, Nat.le_of_ble_eq_true rfl⟩ hK hN hXS hA hO hS (fun H locs hO hS hz hk => ?_)
  rw [show hl17 (40 - 1) = (ES 16 1 0 144) from h39] at hO
  have hO : OBJ D cI cJ cC cL A q ax (4500000) (ES 16 1 0 144) hl17 (39) (7) (1) gz (0) (fun i => 65 + i) (0) lc0 (2) rn19 rd19 H := hO
  refine lv_bipush (v := nI 7) hx hb dL_law_512 (by decide) ?_
  refine lv_icmp_ne (tgt := 572) hx hb dL_law_514 (by decide) (fun hq => absurd rfl hq) (fun _ => ?_)
  refine lv_aload_n hx hb dL_law_517 rfl (lv_at hl 0 rfl) ?_
  refine lv_iconst (v := nI 1) hx hb dL_law_518 (by decide) ?_
  refine lv_iconst (v := nI 0) hx hb dL_law_519 (by decide) ?_
  refine oc_wireOf hF (cwV 2 hts gL_law_X9_wireOf rfl rfl rfl (by decide +kernel) ⟨Nat.le_of_ble_eq_true rfl, Nat.le_of_ble_eq_true rfl⟩) (Nat.le_of_ble_eq_true rfl) hl (Nat.le_of_ble_eq_true rfl) dL_law_520 ⟨Nat.le_of_ble_eq_true rfl, Nat.le_of_ble_eq_true rfl⟩ hK hN hXS hA hO hS (fun H locs hO hS hz hk => ?_)
  rw [qe_wireOf (OBJ_QE hO) (l := 1) (p := 0) (by decide +kernel) (by decide), show (if src (ES 16 1 0 144) 1 0 = 0 then -nI 15 else nI (src (ES 16 1 0 144) 1 0 - 1)) = nI 0 by decide +kernel]
  refine lv_if_ne (tgt := 572) hx hb dL_law_523 (by decide) (fun hq => absurd nI_0 hq) (fun _ => ?_)
  refine lv_aload_n hx hb dL_law_526 rfl (lv_at hl 0 rfl) ?_
  refine oc_undoS hF (v := 6) rfl (cwV 0 hts gL_law_X9_undo rfl rfl rfl (by decide +kernel) ⟨Nat.le_of_ble_eq_true rfl, Nat.le_of_ble_eq_true rfl⟩) (Nat.le_of_ble_eq_true rfl) hl (Nat.le_of_ble_eq_true rfl) dL_law_527 ⟨Nat.le_of_ble_eq_true rfl, Nat.le_of_ble_eq_true rfl⟩ hK hN hXS hA hO hS (fun H locs hO hS hz hk => ?_)
  rw [show hl17 (39 - 1) = (ES 16 1 0 144) from h38] at hO
  have hO : OBJ D cI cJ cC cL A q ax (4500000) (ES 16 1 0 144) hl17 (38) (6) (1) gz (0) (fun i => 65 + i) (0) lc0 (2) rn19 rd19 H := hO
  refine lv_bipush (v := nI 6) hx hb dL_law_530 (by decide) ?_
  refine lv_icmp_ne (tgt := 572) hx hb dL_law_532 (by decide) (fun hq => absurd rfl hq) (fun _ => ?_)
  refine lv_aload_n hx hb dL_law_535 rfl (lv_at hl 0 rfl) ?_
  refine oc_undoS hF (v := 5) rfl (cwV 0 hts gL_law_X9_undo rfl rfl rfl (by decide +kernel) ⟨Nat.le_of_ble_eq_true rfl, Nat.le_of_ble_eq_true rfl⟩) (Nat.le_of_ble_eq_true rfl) hl (Nat.le_of_ble_eq_true rfl) dL_law_536 ⟨Nat.le_of_ble_eq_true rfl, Nat.le_of_ble_eq_true rfl⟩ hK hN hXS hA hO hS (fun H locs hO hS hz hk => ?_)
  rw [show hl17 (38 - 1) = (ES 16 1 1 144) from h37] at hO
  have hO : OBJ D cI cJ cC cL A q ax (4500000) (ES 16 1 1 144) hl17 (37) (5) (1) gz (0) (fun i => 65 + i) (0) lc0 (2) rn19 rd19 H := hO
  refine lv_iconst (v := nI 5) hx hb dL_law_539 (by decide) ?_
  refine lv_icmp_ne (tgt := 572) hx hb dL_law_540 (by decide) (fun hq => absurd rfl hq) (fun _ => ?_)
  refine lv_aload_n hx hb dL_law_543 rfl (lv_at hl 0 rfl) ?_
  refine lv_bipush (v := nI 6) hx hb dL_law_544 (by decide) ?_
  refine oc_account hF (cwV 1 hts gL_law_X9_account rfl rfl rfl (by decide +kernel) ⟨Nat.le_of_ble_eq_true rfl, Nat.le_of_ble_eq_true rfl⟩) (Nat.le_of_ble_eq_true rfl) hl (Nat.le_of_ble_eq_true rfl) dL_law_546 ⟨Nat.le_of_ble_eq_true rfl, Nat.le_of_ble_eq_true rfl⟩ hK hN hXS hA hO hS (fun H locs hO hS hz hk => ?_)
  rw [qe_acc6 (OBJ_G hO) (OBJ_QE hO)]
  rw [show ES 16 1 1 144 1 = 1 by decide +kernel]
  refine lv_iconst (v := nI 1) hx hb dL_law_549 (by decide) ?_
  refine lv_icmp_ne (tgt := 572) hx hb dL_law_550 (by decide) (fun hq => absurd rfl hq) (fun _ => ?_)
  refine lv_aload_n hx hb dL_law_553 rfl (lv_at hl 0 rfl) ?_
  refine oc_undoS hF (v := 4) rfl (cwV 0 hts gL_law_X9_undo rfl rfl rfl (by decide +kernel) ⟨Nat.le_of_ble_eq_true rfl, Nat.le_of_ble_eq_true rfl⟩) (Nat.le_of_ble_eq_true rfl) hl (Nat.le_of_ble_eq_true rfl) dL_law_554 ⟨Nat.le_of_ble_eq_true rfl, Nat.le_of_ble_eq_true rfl⟩ hK hN hXS hA hO hS (fun H locs hO hS hz hk => ?_)
  rw [show hl17 (37 - 1) = (ES 16 0 1 144) from h36] at hO
  have hO : OBJ D cI cJ cC cL A q ax (4500000) (ES 16 0 1 144) hl17 (36) (4) (1) gz (0) (fun i => 65 + i) (0) lc0 (2) rn19 rd19 H := hO
  refine lv_iconst (v := nI 4) hx hb dL_law_557 (by decide) ?_
  refine lv_icmp_ne (tgt := 572) hx hb dL_law_558 (by decide) (fun hq => absurd rfl hq) (fun _ => ?_)
  refine lv_aload_n hx hb dL_law_561 rfl (lv_at hl 0 rfl) ?_
  refine lv_iconst (v := nI 1) hx hb dL_law_562 (by decide) ?_
  refine lv_iconst (v := nI 0) hx hb dL_law_563 (by decide) ?_
  refine oc_wireOf hF (cwV 2 hts gL_law_X9_wireOf rfl rfl rfl (by decide +kernel) ⟨Nat.le_of_ble_eq_true rfl, Nat.le_of_ble_eq_true rfl⟩) (Nat.le_of_ble_eq_true rfl) hl (Nat.le_of_ble_eq_true rfl) dL_law_564 ⟨Nat.le_of_ble_eq_true rfl, Nat.le_of_ble_eq_true rfl⟩ hK hN hXS hA hO hS (fun H locs hO hS hz hk => ?_)
  rw [qe_wireOf (OBJ_QE hO) (l := 1) (p := 0) (by decide +kernel) (by decide), show (if src (ES 16 0 1 144) 1 0 = 0 then -nI 15 else nI (src (ES 16 0 1 144) 1 0 - 1)) = -nI 15 by decide +kernel]
  refine lv_bipush (v := -nI 15) hx hb dL_law_567 (by decide) ?_
  refine lv_icmp_eq (tgt := 574) hx hb dL_law_569 (by decide) (fun _ => ?_) (fun hq => absurd rfl hq)
  refine lv_aload_n hx hb dL_law_574 rfl (lv_at hl 0 rfl) ?_
  refine oc_restore1 hF rfl (cwV 0 hts gL_law_X9_restore rfl rfl rfl (by decide +kernel) ⟨Nat.le_of_ble_eq_true rfl, Nat.le_of_ble_eq_true rfl⟩) (Nat.le_of_ble_eq_true rfl) hl (Nat.le_of_ble_eq_true rfl) dL_law_575 ⟨Nat.le_of_ble_eq_true rfl, Nat.le_of_ble_eq_true rfl⟩ hK hN hXS hA hO hS (fun H locs hO hS hz hk => ?_)
  rw [show gz 0 = 0 from gz_0 (by decide)]
  have hO : OBJ D cI cJ cC cL A q ax (4500000) gz hl17 (36) (0) (1) gz (0) (fun i => 65 + i) (0) lc0 (2) rn19 rd19 H := hO
  refine lv_if_ne (tgt := 606) hx hb dL_law_578 (by decide) (fun hq => absurd nI_0 hq) (fun _ => ?_)
  refine lv_aload_n hx hb dL_law_581 rfl (lv_at hl 0 rfl) ?_
  refine lv_iconst (v := nI 1) hx hb dL_law_582 (by decide) ?_
  refine oc_account hF (cwV 1 hts gL_law_X9_account rfl rfl rfl (by decide +kernel) ⟨Nat.le_of_ble_eq_true rfl, Nat.le_of_ble_eq_true rfl⟩) (Nat.le_of_ble_eq_true rfl) hl (Nat.le_of_ble_eq_true rfl) dL_law_583 ⟨Nat.le_of_ble_eq_true rfl, Nat.le_of_ble_eq_true rfl⟩ hK hN hXS hA hO hS (fun H locs hO hS hz hk => ?_)
  rw [qe_acc1 (OBJ_G hO) (OBJ_QE hO)]
  rw [show gz 0 = 0 from gz_0 (by decide)]
  refine lv_if_ne (tgt := 606) hx hb dL_law_586 (by decide) (fun hq => absurd nI_0 hq) (fun _ => ?_)
  refine lv_aload_n hx hb dL_law_589 rfl (lv_at hl 0 rfl) ?_
  refine lv_iconst (v := nI 0) hx hb dL_law_590 (by decide) ?_
  refine oc_account hF (cwV 1 hts gL_law_X9_account rfl rfl rfl (by decide +kernel) ⟨Nat.le_of_ble_eq_true rfl, Nat.le_of_ble_eq_true rfl⟩) (Nat.le_of_ble_eq_true rfl) hl (Nat.le_of_ble_eq_true rfl) dL_law_591 ⟨Nat.le_of_ble_eq_true rfl, Nat.le_of_ble_eq_true rfl⟩ hK hN hXS hA hO hS (fun H locs hO hS hz hk => ?_)
  rw [qe_acc0 (OBJ_G hO) (OBJ_QE hO)]
  rw [show gz 2 = 0 from gz_0 (by decide)]
  refine lv_if_ne (tgt := 606) hx hb dL_law_594 (by decide) (fun hq => absurd nI_0 hq) (fun _ => ?_)
  refine lv_aload_n hx hb dL_law_597 rfl (lv_at hl 0 rfl) ?_
  refine oc_undo0 hF rfl (cwV 0 hts gL_law_X9_undo rfl rfl rfl (by decide +kernel) ⟨Nat.le_of_ble_eq_true rfl, Nat.le_of_ble_eq_true rfl⟩) (Nat.le_of_ble_eq_true rfl) hl (Nat.le_of_ble_eq_true rfl) dL_law_598 ⟨Nat.le_of_ble_eq_true rfl, Nat.le_of_ble_eq_true rfl⟩ hK hN hXS hA hO hS (fun H locs hO hS hz hk => ?_)
  have hO : OBJ D cI cJ cC cL A q ax (4500000) gz hl17 (36) (0) (1) gz (0) (fun i => 65 + i) (0) lc0 (2) rn19 rd19 H := hO
  refine lv_bipush (v := -nI 15) hx hb dL_law_601 (by decide) ?_
  refine lv_icmp_eq (tgt := 608) hx hb dL_law_603 (by decide) (fun _ => ?_) (fun hq => absurd rfl hq)
  exact hend H locs _ hS (lv_sub hl [1] rfl)
set_option maxHeartbeats 8000000 in
set_option maxRecDepth 100000 in
theorem law_e2 {p : Program} {l : Launch} {e : Env} {s : State} {m : MethodId} {b : Nat} {below : List Frame} {meth : Method} {c : Code} {D : va_G} {cI cJ cC cL : ClassId} {L : Nat} {xs : Nat → Int32} {Q : State → Prop} {A : Nat → Prop} {q : Nat} {ax : Nat → Nat} {gs0 : Nat → Nat} {tg0 : Nat → Nat} {lc0 : Nat → Int32} (C0 : LCx p s m c b L xs D cI cJ cC cL A) (hend : ∀ (H : Heap) (locs : List Loc) (ls : Array Slot), va_S A s.heap H locs → lv_has ls 11 [(0, .ref b)] → W p l e room_1 s m #[Value.ref b] below meth c H locs 69 1573 Q (F0 m 608 ls [])) : ∀ (d i : Nat) (Bv : Nat) (hy : Nat → Nat → Nat) (N u nr : Nat) (rn rd : Nat → Int32) (H : Heap) (locs : List Loc) (ls : Array Slot), i + d = 16 → 2 ≤ i → Bv + 200000 * d ≤ 3200000 ∧ N + 2 * d = 31 ∧ (u = if N ≤ 8 then N else 8) → OBJ D cI cJ cC cL A q ax Bv (ES i 0 1 0) hy N u (1) gz (0) (fun i => 65 + i) (0) lc0 nr rn rd H → va_S A s.heap H locs → lv_has ls 11 [(2, .int (nI i)), (1, .ref q), (0, .ref b)] → W p l e room_1 s m #[Value.ref b] below meth c H locs 69 1573 Q (F0 m 161 ls []) := by
  have T199 := fun hy nr rn rd H locs ls => law_e3 (q := q) (ax := ax) (gs0 := gs0) (tg0 := tg0) (lc0 := lc0) C0 hend hy nr rn rd H locs ls
  obtain ⟨hx, hb, hml, hown, hts, hXs, hK, hN, hXS, hXN, hXC, hAO, hL31, hA⟩ := C0
  have hL := hL31
  have hF : CallFix p m c cL_law 11 s #[Value.ref b] wsL_law RL := ⟨hx, hb, hml, hown, hts⟩
  intro d
  induction d with
  | zero =>
    intro i Bv hy N u nr rn rd H locs ls hid hi2 hI hO hS hl
    refine lv_iload_n hx hb dL_law_161 rfl (lv_at hl 0 rfl) ?_
    refine lv_bipush (v := nI 16) hx hb dL_law_162 (by decide) ?_
    refine lv_icmp_ge (tgt := 199) hx hb dL_law_164 (by decide) (fun _ => ?_) (fun hq => absurd (nI_le (by omega) (by omega)) hq)
    obtain rfl : i = 16 := by omega
    obtain rfl : N = 31 := by omega
    obtain rfl : u = 8 := hI.2.2
    exact T199 hy nr rn rd H locs _ (OBJ_up hO (by omega)) hS (lv_sub hl [1, 2] rfl)
  | succ d ih =>
    intro i Bv hy N u nr rn rd H locs ls hid hi2 hI hO hS hl
    obtain ⟨c1, c2, c3, c4, c5⟩ := rw_c i (by omega) hi2
    refine lv_iload_n hx hb dL_law_161 rfl (lv_at hl 0 rfl) ?_
    refine lv_bipush (v := nI 16) hx hb dL_law_162 (by decide) ?_
    refine lv_icmp_ge (tgt := 199) hx hb dL_law_164 (by decide) (fun hq => absurd hq (nI_ge (by omega) (by omega))) (fun _ => ?_)
    refine lv_aload_n hx hb dL_law_167 rfl (lv_at hl 1 rfl) ?_
    refine lv_bipush (v := nI 6) hx hb dL_law_168 (by decide) ?_
    refine lv_iconst (v := nI 1) hx hb dL_law_170 (by decide) ?_
    refine oc_hang hF (IN_hang_ok (OBJ_G hO) (a := 6) (b := 1) (by decide) (by decide) (by decide) (show i < 16 by omega)) (cwV 2 hts gL_law_X9_hang rfl rfl rfl (by decide +kernel) ⟨Nat.le_of_ble_eq_true rfl, Nat.le_of_ble_eq_true rfl⟩) (Nat.le_of_ble_eq_true rfl) hl (Nat.le_of_ble_eq_true rfl) dL_law_171 ⟨Nat.le_of_ble_eq_true rfl, Nat.le_of_ble_eq_true rfl⟩ hK hN hXS hA hO hS (fun g5 hl5 N5 u5 nq5 rn5 rd5 x5 H locs hO hS hz hk hch hp => ?_)
    obtain ⟨rfl, rfl⟩ := hp
    rw [show ES i 0 1 0 0 = i from rfl] at hch ⊢
    obtain ⟨eh5, rfl, rfl⟩ := MS_c hch (nI_pos (by omega))
    clear hch
    refine lv_iload_n hx hb dL_law_174 rfl (lv_at hl 0 rfl) ?_
    refine lv_icmp_ne (tgt := 191) hx hb dL_law_175 (by decide) (fun hq => absurd rfl hq) (fun _ => ?_)
    refine lv_aload_n hx hb dL_law_178 rfl (lv_at hl 1 rfl) ?_
    refine lv_iload_n hx hb dL_law_179 rfl (lv_at hl 0 rfl) ?_
    refine lv_iconst (v := nI 0) hx hb dL_law_180 (by decide) ?_
    refine lv_iload_n hx hb dL_law_181 rfl (lv_at hl 0 rfl) ?_
    refine lv_iconst (v := nI 1) hx hb dL_law_182 (by decide) ?_
    refine lv_isub hx hb dL_law_183 ?_
    rw [show nI i - nI 1 = nI (i - 1) from law_pred (by omega)]
    refine oc_wire hF (IN_wire_free (OBJ_G hO) (l := i) (f := i - 1) (p := 0) (by rw [c1]; omega) (by rw [c1]; omega) (by decide) (by rw [c2]; decide) (by rw [c2]; decide) c3 c4) (cwV 3 hts gL_law_X9_wire rfl rfl rfl (by decide +kernel) ⟨Nat.le_of_ble_eq_true rfl, Nat.le_of_ble_eq_true rfl⟩) (Nat.le_of_ble_eq_true rfl) hl (Nat.le_of_ble_eq_true rfl) dL_law_184 ⟨Nat.le_of_ble_eq_true rfl, Nat.le_of_ble_eq_true rfl⟩ hK hN hXS hA hO hS (fun g6 hl6 N6 u6 nq6 rn6 rd6 x6 H locs hO hS hz hk hch hp => ?_)
    obtain ⟨rfl, rfl⟩ := hp
    rw [c5] at hch ⊢
    rw [ES_w (by omega) (by omega)] at hO hch
    obtain ⟨eh6, rfl, rfl⟩ := MS_c hch (nI_pos (by decide))
    clear hch
    refine lv_iconst (v := nI 1) hx hb dL_law_187 (by decide) ?_
    refine lv_icmp_eq (tgt := 193) hx hb dL_law_188 (by decide) (fun _ => ?_) (fun hq => absurd rfl hq)
    refine lv_iinc (v := nI (i + 1)) (lv' := [(2, .int (nI (i + 1))), (1, .ref q), (0, .ref b)]) hx hb dL_law_193 hl (k := 0) rfl (by rw [oi_1, nI_add]) (by decide) rfl (fun ls hl => ?_)
    refine lv_goto (tgt := 161) hx hb dL_law_196 (by decide) ?_
    exact ih (i + 1) _ _ _ _ _ _ _ H locs _ (by omega) (by omega) ⟨by omega, by omega, u8_min (u8_min hI.2.2)⟩ hO hS (lv_sub hl [0, 1, 2] rfl)
set_option maxHeartbeats 8000000 in
set_option maxRecDepth 100000 in
theorem law_e1 {p : Program} {l : Launch} {e : Env} {s : State} {m : MethodId} {b : Nat} {below : List Frame} {meth : Method} {c : Code} {D : va_G} {cI cJ cC cL : ClassId} {L : Nat} {xs : Nat → Int32} {Q : State → Prop} {A : Nat → Prop} {q : Nat} {ax : Nat → Nat} {gs0 : Nat → Nat} {tg0 : Nat → Nat} {lc0 : Nat → Int32} {hl0 : Nat → Nat → Nat} {rn0 rd0 : Nat → Int32} (C0 : LCx p s m c b L xs D cI cJ cC cL A) (hend : ∀ (H : Heap) (locs : List Loc) (ls : Array Slot), va_S A s.heap H locs → lv_has ls 11 [(0, .ref b)] → W p l e room_1 s m #[Value.ref b] below meth c H locs 69 1573 Q (F0 m 608 ls [])) (H : Heap) (locs : List Loc) (ls : Array Slot) (hO : OBJ D cI cJ cC cL A q ax (0) gz hl0 (0) (0) (0) gs0 (0) tg0 (0) lc0 (0) rn0 rd0 H) (hS : va_S A s.heap H locs) (hl : lv_has ls 11 [(1, .ref q), (0, .ref b)]) : W p l e room_1 s m #[Value.ref b] below meth c H locs 69 1573 Q (F0 m 8 ls []) := by
  have LW := law_e2 (q := q) (ax := ax) (gs0 := gs0) (tg0 := tg0) (lc0 := lc0) C0 hend
  obtain ⟨hx, hb, hml, hown, hts, hXs, hK, hN, hXS, hXN, hXC, hAO, hL31, hA⟩ := C0
  have hL := hL31
  have hF : CallFix p m c cL_law 11 s #[Value.ref b] wsL_law RL := ⟨hx, hb, hml, hown, hts⟩
  refine lv_aload_n hx hb dL_law_8 rfl (lv_at hl 0 rfl) ?_
  refine oc_undo0 hF rfl (cwV 0 hts gL_law_X9_undo rfl rfl rfl (by decide +kernel) ⟨Nat.le_of_ble_eq_true rfl, Nat.le_of_ble_eq_true rfl⟩) (Nat.le_of_ble_eq_true rfl) hl (Nat.le_of_ble_eq_true rfl) dL_law_9 ⟨Nat.le_of_ble_eq_true rfl, Nat.le_of_ble_eq_true rfl⟩ hK hN hXS hA hO hS (fun H locs hO hS hz hk => ?_)
  have hO : OBJ D cI cJ cC cL A q ax (0) gz hl0 (0) (0) (0) gs0 (0) tg0 (0) lc0 (0) rn0 rd0 H := hO
  refine lv_bipush (v := -nI 15) hx hb dL_law_12 (by decide) ?_
  refine lv_icmp_ne (tgt := 52) hx hb dL_law_14 (by decide) (fun hq => absurd rfl hq) (fun _ => ?_)
  refine lv_aload_n hx hb dL_law_17 rfl (lv_at hl 0 rfl) ?_
  refine oc_restore0 hF rfl (cwV 0 hts gL_law_X9_restore rfl rfl rfl (by decide +kernel) ⟨Nat.le_of_ble_eq_true rfl, Nat.le_of_ble_eq_true rfl⟩) (Nat.le_of_ble_eq_true rfl) hl (Nat.le_of_ble_eq_true rfl) dL_law_18 ⟨Nat.le_of_ble_eq_true rfl, Nat.le_of_ble_eq_true rfl⟩ hK hN hXS hA hO hS (fun H locs hO hS hz hk => ?_)
  have hO : OBJ D cI cJ cC cL A q ax (0) gz hl0 (0) (0) (0) gs0 (0) tg0 (0) lc0 (0) rn0 rd0 H := hO
  refine lv_bipush (v := -nI 15) hx hb dL_law_21 (by decide) ?_
  refine lv_icmp_ne (tgt := 52) hx hb dL_law_23 (by decide) (fun hq => absurd rfl hq) (fun _ => ?_)
  refine lv_aload_n hx hb dL_law_26 rfl (lv_at hl 0 rfl) ?_
  refine oc_save hF (cwV 0 hts gL_law_X9_save rfl rfl rfl (by decide +kernel) ⟨Nat.le_of_ble_eq_true rfl, Nat.le_of_ble_eq_true rfl⟩) (Nat.le_of_ble_eq_true rfl) hl (Nat.le_of_ble_eq_true rfl) dL_law_27 ⟨Nat.le_of_ble_eq_true rfl, Nat.le_of_ble_eq_true rfl⟩ hK hN hXS hA hO hS (fun H locs hO hS hz hk => ?_)
  rw [show gz 0 = 0 from gz_0 (by decide)]
  have hO : OBJ D cI cJ cC cL A q ax (0) gz hl0 (0) (0) (1) gz (0) tg0 (0) lc0 (0) rn0 rd0 H := hO
  refine lv_if_ne (tgt := 52) hx hb dL_law_30 (by decide) (fun hq => absurd nI_0 hq) (fun _ => ?_)
  refine lv_aload_n hx hb dL_law_33 rfl (lv_at hl 0 rfl) ?_
  refine lv_bipush (v := nI 99) hx hb dL_law_34 (by decide) ?_
  refine oc_tick hF (IN_tick_ok (OBJ_G hO) (tt := 99) (by decide) (by decide)) (cwV 1 hts gL_law_X9_tick rfl rfl rfl (by decide +kernel) ⟨Nat.le_of_ble_eq_true rfl, Nat.le_of_ble_eq_true rfl⟩) (Nat.le_of_ble_eq_true rfl) hl (Nat.le_of_ble_eq_true rfl) dL_law_36 ⟨Nat.le_of_ble_eq_true rfl, Nat.le_of_ble_eq_true rfl⟩ hK hN hXS hA hO hS (fun g1 hl1 N1 u1 nq1 rn1 rd1 x1 H locs hO hS hz hk hch hp => ?_)
  obtain ⟨rfl, rfl⟩ := hp
  rw [law_t0] at hch ⊢
  rw [ES_0] at hO hch
  obtain ⟨eh, eN, eu⟩ := MS_c hch (nI_pos (by decide))
  have eN : N1 = 1 := eN
  have eu : u1 = 1 := eu
  subst eN
  subst eu
  clear eh hch
  have hO : OBJ D cI cJ cC cL A q ax (100000) (ES 0 0 1 0) hl1 (1) (1) (1) gz (0) tg0 (0) lc0 nq1 rn1 rd1 H := hO
  refine lv_if_ne (tgt := 52) hx hb dL_law_39 (by decide) (fun hq => absurd nI_0 hq) (fun _ => ?_)
  refine lv_aload_n hx hb dL_law_42 rfl (lv_at hl 0 rfl) ?_
  refine lv_iconst (v := nI 0) hx hb dL_law_43 (by decide) ?_
  refine oc_account hF (cwV 1 hts gL_law_X9_account rfl rfl rfl (by decide +kernel) ⟨Nat.le_of_ble_eq_true rfl, Nat.le_of_ble_eq_true rfl⟩) (Nat.le_of_ble_eq_true rfl) hl (Nat.le_of_ble_eq_true rfl) dL_law_44 ⟨Nat.le_of_ble_eq_true rfl, Nat.le_of_ble_eq_true rfl⟩ hK hN hXS hA hO hS (fun H locs hO hS hz hk => ?_)
  rw [qe_acc0 (OBJ_G hO) (OBJ_QE hO)]
  rw [show ES 0 0 1 0 2 = 99 by decide +kernel]
  refine lv_bipush (v := nI 99) hx hb dL_law_47 (by decide) ?_
  refine lv_icmp_eq (tgt := 54) hx hb dL_law_49 (by decide) (fun _ => ?_) (fun hq => absurd rfl hq)
  have T84 : ∀ (H : Heap) (locs : List Loc) (ls : Array Slot), OBJ D cI cJ cC cL A q ax (100000) (ES 0 0 1 0) hl1 (1) (1) (1) gz (60) (fun i => 65 + i) (0) lc0 nq1 rn1 rd1 H → va_S A s.heap H locs → lv_has ls 11 [(1, .ref q), (0, .ref b)] → W p l e room_1 s m #[Value.ref b] below meth c H locs 69 1573 Q (F0 m 84 ls []) := by
    intro H locs ls hO hS hl
    refine lv_aload_n hx hb dL_law_84 rfl (lv_at hl 0 rfl) ?_
    refine lv_bipush (v := nI 31) hx hb dL_law_85 (by decide) ?_
    refine oc_append hF (x := -nI 12) (nT' := 60) (tg' := fun i => 65 + i) (fun sg9 hT => ⟨sg9, append_bad (Or.inl (by decide +kernel)), hT⟩) (cwV 1 hts gL_law_X9_append rfl rfl rfl (by decide +kernel) ⟨Nat.le_of_ble_eq_true rfl, Nat.le_of_ble_eq_true rfl⟩) (Nat.le_of_ble_eq_true rfl) hl (Nat.le_of_ble_eq_true rfl) dL_law_87 ⟨Nat.le_of_ble_eq_true rfl, Nat.le_of_ble_eq_true rfl⟩ hK hN hXS hA hO hS (fun H locs hO hS hz hk => ?_)
    have hO : OBJ D cI cJ cC cL A q ax (100000) (ES 0 0 1 0) hl1 (1) (1) (1) gz (60) (fun i => 65 + i) (0) lc0 nq1 rn1 rd1 H := hO
    refine lv_bipush (v := -nI 12) hx hb dL_law_90 (by decide) ?_
    refine lv_icmp_ne (tgt := 136) hx hb dL_law_92 (by decide) (fun hq => absurd rfl hq) (fun _ => ?_)
    refine lv_aload_n hx hb dL_law_95 rfl (lv_at hl 0 rfl) ?_
    refine lv_bipush (v := nI 119) hx hb dL_law_96 (by decide) ?_
    refine oc_append hF (x := -nI 13) (nT' := 60) (tg' := fun i => 65 + i) (fun sg9 hT => ⟨sg9, append_full (tg := fun i => 65 + i) (by decide) (by decide), hT⟩) (cwV 1 hts gL_law_X9_append rfl rfl rfl (by decide +kernel) ⟨Nat.le_of_ble_eq_true rfl, Nat.le_of_ble_eq_true rfl⟩) (Nat.le_of_ble_eq_true rfl) hl (Nat.le_of_ble_eq_true rfl) dL_law_98 ⟨Nat.le_of_ble_eq_true rfl, Nat.le_of_ble_eq_true rfl⟩ hK hN hXS hA hO hS (fun H locs hO hS hz hk => ?_)
    have hO : OBJ D cI cJ cC cL A q ax (100000) (ES 0 0 1 0) hl1 (1) (1) (1) gz (60) (fun i => 65 + i) (0) lc0 nq1 rn1 rd1 H := hO
    refine lv_bipush (v := -nI 13) hx hb dL_law_101 (by decide) ?_
    refine lv_icmp_ne (tgt := 136) hx hb dL_law_103 (by decide) (fun hq => absurd rfl hq) (fun _ => ?_)
    refine lv_aload_n hx hb dL_law_106 rfl (lv_at hl 0 rfl) ?_
    refine lv_bipush (v := nI 11) hx hb dL_law_107 (by decide) ?_
    refine oc_account hF (cwV 1 hts gL_law_X9_account rfl rfl rfl (by decide +kernel) ⟨Nat.le_of_ble_eq_true rfl, Nat.le_of_ble_eq_true rfl⟩) (Nat.le_of_ble_eq_true rfl) hl (Nat.le_of_ble_eq_true rfl) dL_law_109 ⟨Nat.le_of_ble_eq_true rfl, Nat.le_of_ble_eq_true rfl⟩ hK hN hXS hA hO hS (fun H locs hO hS hz hk => ?_)
    rw [qe_acc11 (OBJ_G hO) (OBJ_QE hO)]
    refine lv_bipush (v := nI 60) hx hb dL_law_112 (by decide) ?_
    refine lv_icmp_ne (tgt := 136) hx hb dL_law_114 (by decide) (fun hq => absurd rfl hq) (fun _ => ?_)
    refine lv_aload_n hx hb dL_law_117 rfl (lv_at hl 0 rfl) ?_
    refine oc_run hF (IN_run_wrong (OBJ_G hO) law_RF) (cwV 0 hts gL_law_X9_run rfl rfl rfl (by decide +kernel) ⟨Nat.le_of_ble_eq_true rfl, Nat.le_of_ble_eq_true rfl⟩) (Nat.le_of_ble_eq_true rfl) hl (Nat.le_of_ble_eq_true rfl) dL_law_118 ⟨Nat.le_of_ble_eq_true rfl, Nat.le_of_ble_eq_true rfl⟩ hK hN hXS hA hO hS (fun g2 hl2 N2 u2 nq2 rn2 rd2 x2 H locs hO hS hz hk hch hp => ?_)
    obtain ⟨rfl, rfl, rfl, rfl⟩ := PSm_s hp
    obtain ⟨rfl, rfl, rfl, rfl⟩ := MS_rs hch (by decide +kernel)
    clear hch
    have hO : OBJ D cI cJ cC cL A q ax (200000) (ES 0 0 1 0) hl1 (1) (1) (1) gz (0) (fun i => 65 + i) (0) lc0 nq1 rn1 rd1 H := hO
    refine lv_sipush (v := -nI 1000) hx hb dL_law_121 (by decide) ?_
    refine lv_icmp_ne (tgt := 136) hx hb dL_law_124 (by decide) (fun hq => absurd (show (-1000 : Int32) - nI 0 = -nI 1000 by decide +kernel) hq) (fun _ => ?_)
    refine lv_aload_n hx hb dL_law_127 rfl (lv_at hl 0 rfl) ?_
    refine lv_bipush (v := nI 11) hx hb dL_law_128 (by decide) ?_
    refine oc_account hF (cwV 1 hts gL_law_X9_account rfl rfl rfl (by decide +kernel) ⟨Nat.le_of_ble_eq_true rfl, Nat.le_of_ble_eq_true rfl⟩) (Nat.le_of_ble_eq_true rfl) hl (Nat.le_of_ble_eq_true rfl) dL_law_130 ⟨Nat.le_of_ble_eq_true rfl, Nat.le_of_ble_eq_true rfl⟩ hK hN hXS hA hO hS (fun H locs hO hS hz hk => ?_)
    rw [qe_acc11 (OBJ_G hO) (OBJ_QE hO)]
    refine lv_if_eq (tgt := 138) hx hb dL_law_133 (by decide) (fun _ => ?_) (fun hq => absurd nI_0 hq)
    refine lv_aload_n hx hb dL_law_138 rfl (lv_at hl 0 rfl) ?_
    refine lv_iconst (v := nI 0) hx hb dL_law_139 (by decide) ?_
    refine lv_iconst (v := nI 4) hx hb dL_law_140 (by decide) ?_
    refine oc_hang hF (IN_hang_ok (OBJ_G hO) (a := 0) (b := 4) (by decide) (by decide) (by decide) (show ES 0 0 1 0 0 < 16 by decide +kernel)) (cwV 2 hts gL_law_X9_hang rfl rfl rfl (by decide +kernel) ⟨Nat.le_of_ble_eq_true rfl, Nat.le_of_ble_eq_true rfl⟩) (Nat.le_of_ble_eq_true rfl) hl (Nat.le_of_ble_eq_true rfl) dL_law_141 ⟨Nat.le_of_ble_eq_true rfl, Nat.le_of_ble_eq_true rfl⟩ hK hN hXS hA hO hS (fun g3 hl3 N3 u3 nq3 rn3 rd3 x3 H locs hO hS hz hk hch hp => ?_)
    obtain ⟨rfl, rfl⟩ := hp
    rw [show ES 0 0 1 0 0 = 0 by decide +kernel] at hch ⊢
    rw [ES_h0] at hO hch
    obtain ⟨eh, eN, eu⟩ := MS_c hch (nI_pos (by decide))
    have eN : N3 = 2 := eN
    have eu : u3 = 2 := eu
    subst eN
    subst eu
    clear eh hch
    have hO : OBJ D cI cJ cC cL A q ax (300000) (ES 1 0 1 0) hl3 (2) (2) (1) gz (0) (fun i => 65 + i) (0) lc0 nq3 rn3 rd3 H := hO
    refine lv_if_ne (tgt := 157) hx hb dL_law_144 (by decide) (fun hq => absurd nI_0 hq) (fun _ => ?_)
    refine lv_aload_n hx hb dL_law_147 rfl (lv_at hl 0 rfl) ?_
    refine lv_iconst (v := nI 1) hx hb dL_law_148 (by decide) ?_
    refine lv_iconst (v := nI 1) hx hb dL_law_149 (by decide) ?_
    refine oc_hang hF (IN_hang_ok (OBJ_G hO) (a := 1) (b := 1) (by decide) (by decide) (by decide) (show ES 1 0 1 0 0 < 16 by decide +kernel)) (cwV 2 hts gL_law_X9_hang rfl rfl rfl (by decide +kernel) ⟨Nat.le_of_ble_eq_true rfl, Nat.le_of_ble_eq_true rfl⟩) (Nat.le_of_ble_eq_true rfl) hl (Nat.le_of_ble_eq_true rfl) dL_law_150 ⟨Nat.le_of_ble_eq_true rfl, Nat.le_of_ble_eq_true rfl⟩ hK hN hXS hA hO hS (fun g4 hl4 N4 u4 nq4 rn4 rd4 x4 H locs hO hS hz hk hch hp => ?_)
    obtain ⟨rfl, rfl⟩ := hp
    rw [show ES 1 0 1 0 0 = 1 by decide +kernel] at hch ⊢
    rw [ES_h1] at hO hch
    obtain ⟨eh, eN, eu⟩ := MS_c hch (nI_pos (by decide))
    have eN : N4 = 3 := eN
    have eu : u4 = 3 := eu
    subst eN
    subst eu
    clear eh hch
    have hO : OBJ D cI cJ cC cL A q ax (400000) (ES 2 0 1 0) hl4 (3) (3) (1) gz (0) (fun i => 65 + i) (0) lc0 nq4 rn4 rd4 H := hO
    refine lv_iconst (v := nI 1) hx hb dL_law_153 (by decide) ?_
    refine lv_icmp_eq (tgt := 159) hx hb dL_law_154 (by decide) (fun _ => ?_) (fun hq => absurd rfl hq)
    refine lv_iconst (v := nI 2) hx hb dL_law_159 (by decide) ?_
    refine lv_istore_n (lv' := [(2, .int (nI 2)), (1, .ref q), (0, .ref b)]) hx hb dL_law_160 rfl hl (by decide) rfl (fun ls hl => ?_)
    exact LW 14 2 400000 hl4 3 3 nq4 rn4 rd4 H locs _ (by omega) (by decide) (by decide) hO hS (lv_sub hl [0, 1, 2] rfl)
  have LAp : ∀ (d i : Nat) (tgA : Nat → Nat) (H : Heap) (locs : List Loc) (ls : Array Slot), i + d = 60 → (∀ j, j < i → tgA j = 65 + j) → OBJ D cI cJ cC cL A q ax (100000) (ES 0 0 1 0) hl1 (1) (1) (1) gz i tgA (0) lc0 nq1 rn1 rd1 H → va_S A s.heap H locs → lv_has ls 11 [(2, .int (nI i)), (1, .ref q), (0, .ref b)] → W p l e room_1 s m #[Value.ref b] below meth c H locs 69 1573 Q (F0 m 56 ls []) := by
    intro d
    induction d with
    | zero =>
      intro i tgA H locs ls hid ht hO hS hl
      refine lv_iload_n hx hb dL_law_56 rfl (lv_at hl 0 rfl) ?_
      refine lv_bipush (v := nI 60) hx hb dL_law_57 (by decide) ?_
      refine lv_icmp_ge (tgt := 84) hx hb dL_law_59 (by decide) (fun _ => ?_) (fun hq => absurd (nI_le (by omega) (by omega)) hq)
      obtain rfl : i = 60 := by omega
      have hO := OBJ_tg hO (tg2 := fun i => 65 + i) (fun j hj => ht j hj)
      exact T84 H locs _ hO hS (lv_sub hl [1, 2] rfl)
    | succ d ih =>
      intro i tgA H locs ls hid ht hO hS hl
      refine lv_iload_n hx hb dL_law_56 rfl (lv_at hl 0 rfl) ?_
      refine lv_bipush (v := nI 60) hx hb dL_law_57 (by decide) ?_
      refine lv_icmp_ge (tgt := 84) hx hb dL_law_59 (by decide) (fun hq => absurd hq (nI_ge (by omega) (by omega))) (fun _ => ?_)
      refine lv_aload_n hx hb dL_law_62 rfl (lv_at hl 1 rfl) ?_
      refine lv_bipush (v := nI 65) hx hb dL_law_63 (by decide) ?_
      refine lv_iload_n hx hb dL_law_65 rfl (lv_at hl 0 rfl) ?_
      refine lv_iadd hx hb dL_law_66 ?_
      rw [show nI 65 + nI i = nI (65 + i) from nI_add 65 i]
      refine oc_append hF (x := nI (i + 1)) (nT' := i + 1) (tg' := updn tgA i (65 + i)) (fun sg hT => ⟨_, (append_ok hT (by omega) (by omega) (by omega)).1, (append_ok hT (by omega) (by omega) (by omega)).2⟩) (cwV 1 hts gL_law_X9_append rfl rfl rfl (by decide +kernel) ⟨Nat.le_of_ble_eq_true rfl, Nat.le_of_ble_eq_true rfl⟩) (Nat.le_of_ble_eq_true rfl) hl (Nat.le_of_ble_eq_true rfl) dL_law_67 ⟨Nat.le_of_ble_eq_true rfl, Nat.le_of_ble_eq_true rfl⟩ hK hN hXS hA hO hS (fun H locs hO hS hz hk => ?_)
      refine lv_iload_n hx hb dL_law_70 rfl (lv_at hl 0 rfl) ?_
      refine lv_iconst (v := nI 1) hx hb dL_law_71 (by decide) ?_
      refine lv_iadd hx hb dL_law_72 ?_
      refine lv_icmp_eq (tgt := 78) hx hb dL_law_73 (by decide) (fun _ => ?_) (fun hq => absurd (nI_add i 1).symm hq)
      refine lv_iinc (v := nI (i + 1)) (lv' := [(2, .int (nI (i + 1))), (1, .ref q), (0, .ref b)]) hx hb dL_law_78 hl (k := 0) rfl (by rw [oi_1, nI_add]) (by decide) rfl (fun ls hl => ?_)
      refine lv_goto (tgt := 56) hx hb dL_law_81 (by decide) ?_
      exact ih (i + 1) _ H locs _ (by omega) (fun j hj => by
        unfold updn
        by_cases e : j = i
        · rw [if_pos e, e]
        · rw [if_neg e]; exact ht j (by omega)) hO hS (lv_sub hl [0, 1, 2] rfl)
  refine lv_iconst (v := nI 0) hx hb dL_law_54 (by decide) ?_
  refine lv_istore_n (lv' := [(2, .int (nI 0)), (1, .ref q), (0, .ref b)]) hx hb dL_law_55 rfl hl (by decide) rfl (fun ls hl => ?_)
  exact LAp 60 0 tg0 H locs _ (by omega) (fun j hj => absurd hj (Nat.not_lt_zero j)) hO hS (lv_sub hl [0, 1, 2] rfl)

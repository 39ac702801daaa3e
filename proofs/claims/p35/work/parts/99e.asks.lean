/-! p35: asks -/
abbrev rmL_asks : Room := { frames := 27, cells := 0, slots := 0, locals := 703 }
set_option maxHeartbeats 8000000 in
set_option maxRecDepth 100000 in
theorem c_L_asks (l : Launch) (D : va_G) (cI cJ cC cL : ClassId) (q : Nat) (ax : Nat → Nat) (B : Nat) (g : Nat → Nat) (hy : Nat → Nat → Nat) (N : Nat) (u : Nat) (sb : Nat) (gs : Nat → Nat) (nT : Nat) (tg : Nat → Nat) (nL : Nat) (lc : Nat → Int32) (nr : Nat) (rn : Nat → Int32) (rd : Nat → Int32) (hB31 : B < 2 ^ 31) (sz : Nat) : Met l yL_asks wsL_asks rmL_asks (va_Pc [.ref q] (lpre XS D (tyL cI cJ cC cL) (fun A H => OBJ D cI cJ cC cL A q ax B g hy N u sb gs nT tg nL lc nr rn rd H) ((OA q ax)) sz)) (va_Ql (S := Unit) (fun r _ => r = fAsk g) (fun uu t => lpost D (tyL cI cJ cC cL) ((fun _ => (fun A H => OBJ D cI cJ cC cL A q ax B g hy N u sb gs nT tg (q_tellN g) (q_tellC g) nr rn rd H)) uu) ((OA q ax) sz) t) ((OA q ax) sz)) 0 0 ((OA q ax) sz) := by
  refine lE_l (y := yL_asks) (wy := wsL_asks) (X := XS) (O := (fun A H => OBJ D cI cJ cC cL A q ax B g hy N u sb gs nT tg nL lc nr rn rd H)) (σ := Unit) (O' := (fun _ => (fun A H => OBJ D cI cJ cC cL A q ax B g hy N u sb gs nT tg (q_tellN g) (q_tellC g) nr rn rd H))) (F := (OA q ax)) (cc := cL_asks) (maxL := 7) (own := RL) (ret := some .long) (lv0 := [(0, .ref q)]) (by decide) rfl rfl rfl (Nat.le_of_ble_eq_true rfl) rfl (fun z q h => Or.inr h) ?_
  intro p e s m args below meth c A Q ls hx hb hml hown hts hK hN hX hA hAe hO hS hl hRet
  have hF : CallFix p m c cL_asks 7 s args wsL_asks RL := ⟨hx, hb, hml, hown, hts⟩
  have hO : OBJ D cI cJ cC cL A q ax B g hy N u sb gs nT tg nL lc nr rn rd s.heap := hO
  have hXS : XS A s s.heap := hX
  have hg16 := (OBJ_G hO).1.1
  have T295 : ∀ (sm : Int64) (H : Heap) (locs : List Loc) (ls : Array Slot), fE g sm = fAsk g → OBJ D cI cJ cC cL A q ax B g hy N u sb gs nT tg (q_tellN g) (q_tellC g) nr rn rd H → va_S A s.heap H locs → lv_has ls 7 [(0, .ref q), (1, .long sm)] → W p l e rmL_asks s m args below meth c H locs 0 0 Q (F0 m 295 ls []) := by
    intro sm H locs ls hT hO hS hl
    refine lv_ldc2 (v := (31 : Int64)) hx hb hown (hts (.constantLong RL 56 (31 : Int64)) (by decide +kernel)) dL_asks_295 ?_
    refine lv_ldc2 (v := (31 : Int64)) hx hb hown (hts (.constantLong RL 56 (31 : Int64)) (by decide +kernel)) dL_asks_298 ?_
    refine lv_ldc2 (v := (31 : Int64)) hx hb hown (hts (.constantLong RL 56 (31 : Int64)) (by decide +kernel)) dL_asks_301 ?_
    refine lv_ldc2 (v := (31 : Int64)) hx hb hown (hts (.constantLong RL 56 (31 : Int64)) (by decide +kernel)) dL_asks_304 ?_
    refine lv_ldc2 (v := (31 : Int64)) hx hb hown (hts (.constantLong RL 56 (31 : Int64)) (by decide +kernel)) dL_asks_307 ?_
    refine lv_lload_n hx hb dL_asks_310 rfl (lv_at hl 1 rfl) ?_
    refine lv_lmul hx hb dL_asks_311 ?_
    refine lv_aload_n hx hb dL_asks_312 rfl (lv_at hl 0 rfl) ?_
    refine oc_looped hF (cwV 0 hts gL_asks_X9_looped rfl rfl rfl (by decide +kernel) ⟨Nat.le_of_ble_eq_true rfl, Nat.le_of_ble_eq_true rfl⟩) (Nat.le_of_ble_eq_true rfl) hl (Nat.le_of_ble_eq_true rfl) dL_asks_313 ⟨Nat.zero_le _, Nat.zero_le _⟩ hK hN hXS hA hO hS (fun H locs hO hS hz hk => ?_)
    refine lv_i2l (v := (q_looped g).toInt64) hx hb dL_asks_316 rfl ?_
    refine lv_ladd hx hb dL_asks_317 ?_
    refine lv_lmul hx hb dL_asks_318 ?_
    refine lv_aload_n hx hb dL_asks_319 rfl (lv_at hl 0 rfl) ?_
    refine oc_settlesIn hF (cwV 0 hts gL_asks_X9_settlesIn rfl rfl rfl (by decide +kernel) ⟨Nat.le_of_ble_eq_true rfl, Nat.le_of_ble_eq_true rfl⟩) (Nat.le_of_ble_eq_true rfl) hl (Nat.le_of_ble_eq_true rfl) dL_asks_320 ⟨Nat.zero_le _, Nat.zero_le _⟩ hK hN hXS hA hO hS (fun H locs hO hS hz hk => ?_)
    refine lv_i2l (v := (q_settlesIn g).toInt64) hx hb dL_asks_323 rfl ?_
    refine lv_ladd hx hb dL_asks_324 ?_
    refine lv_lmul hx hb dL_asks_325 ?_
    refine lv_aload_n hx hb dL_asks_326 rfl (lv_at hl 0 rfl) ?_
    refine oc_period hF (cwV 0 hts gL_asks_X9_period rfl rfl rfl (by decide +kernel) ⟨Nat.le_of_ble_eq_true rfl, Nat.le_of_ble_eq_true rfl⟩) (Nat.le_of_ble_eq_true rfl) hl (Nat.le_of_ble_eq_true rfl) dL_asks_327 ⟨Nat.zero_le _, Nat.zero_le _⟩ hK hN hXS hA hO hS (fun H locs hO hS hz hk => ?_)
    refine lv_i2l (v := (q_period g).toInt64) hx hb dL_asks_330 rfl ?_
    refine lv_ladd hx hb dL_asks_331 ?_
    refine lv_lmul hx hb dL_asks_332 ?_
    refine lv_aload_n hx hb dL_asks_333 rfl (lv_at hl 0 rfl) ?_
    refine oc_periodAgain hF (cwV 0 hts gL_asks_X9_periodAgain rfl rfl rfl (by decide +kernel) ⟨Nat.le_of_ble_eq_true rfl, Nat.le_of_ble_eq_true rfl⟩) (Nat.le_of_ble_eq_true rfl) hl (Nat.le_of_ble_eq_true rfl) dL_asks_334 ⟨Nat.zero_le _, Nat.zero_le _⟩ hK hN hXS hA hO hS (fun H locs hO hS hz hk => ?_)
    refine lv_i2l (v := (q_period g).toInt64) hx hb dL_asks_337 rfl ?_
    refine lv_ladd hx hb dL_asks_338 ?_
    refine lv_lmul hx hb dL_asks_339 ?_
    refine lv_aload_n hx hb dL_asks_340 rfl (lv_at hl 0 rfl) ?_
    refine oc_isBalanced hF hB31 (cwV 0 hts gL_asks_X9_isBalanced rfl rfl rfl (by decide +kernel) ⟨Nat.le_of_ble_eq_true rfl, Nat.le_of_ble_eq_true rfl⟩) (Nat.le_of_ble_eq_true rfl) hl (Nat.le_of_ble_eq_true rfl) dL_asks_341 ⟨Nat.zero_le _, Nat.zero_le _⟩ hK hN hXS hA hO hS (fun H locs hO hS hz hk => ?_)
    refine lv_i2l (v := (nI 1).toInt64) hx hb dL_asks_344 rfl ?_
    refine lv_ladd hx hb dL_asks_345 ?_
    exact hRet () hT hO hS dL_asks_346
  have L268 : ∀ (d i : Nat) (sm : Int64) (H : Heap) (locs : List Loc) (ls : Array Slot), i + d = q_tellN g → fE g (lpS (fun i s => (31 : Int64) * s + (q_tellC g i).toInt64) d i sm) = fAsk g → OBJ D cI cJ cC cL A q ax B g hy N u sb gs nT tg (q_tellN g) (q_tellC g) nr rn rd H → va_S A s.heap H locs → lv_has ls 7 [(0, .ref q), (1, .long sm), (4, .int (nI (q_tellN g))), (5, .int (nI i))] → W p l e rmL_asks s m args below meth c H locs 0 0 Q (F0 m 268 ls []) := by
    intro d
    induction d with
    | zero =>
      intro i sm H locs ls hid hT hO hS hl
      have h32 := OBJ_nL hO
      refine lv_iload hx hb dL_asks_268 (lv_at hl 3 rfl) ?_
      refine lv_iload hx hb dL_asks_270 (lv_at hl 2 rfl) ?_
      refine lv_icmp_ge (tgt := 295) hx hb dL_asks_272 (by decide) (fun _ => ?_) (fun hq => absurd (nI_le (by omega) (by omega)) hq)
      exact T295 sm _ _ _ hT hO hS (lv_sub hl [0, 1] rfl)
    | succ d ih =>
      intro i sm H locs ls hid hT hO hS hl
      have h32 := OBJ_nL hO
      refine lv_iload hx hb dL_asks_268 (lv_at hl 3 rfl) ?_
      refine lv_iload hx hb dL_asks_270 (lv_at hl 2 rfl) ?_
      refine lv_icmp_ge (tgt := 295) hx hb dL_asks_272 (by decide) (fun hq => absurd hq (nI_ge (by omega) (by omega))) (fun _ => ?_)
      refine lv_ldc2 (v := (31 : Int64)) hx hb hown (hts (.constantLong RL 56 (31 : Int64)) (by decide +kernel)) dL_asks_275 ?_
      refine lv_lload_n hx hb dL_asks_278 rfl (lv_at hl 1 rfl) ?_
      refine lv_lmul hx hb dL_asks_279 ?_
      refine lv_aload_n hx hb dL_asks_280 rfl (lv_at hl 0 rfl) ?_
      refine lv_iload hx hb dL_asks_281 (lv_at hl 3 rfl) ?_
      refine oc_character hF (x := (q_tellC g) i) (fun ls9 h9 => char_at h9 (by omega)) (cwV 1 hts gL_asks_X9_character rfl rfl rfl (by decide +kernel) ⟨Nat.le_of_ble_eq_true rfl, Nat.le_of_ble_eq_true rfl⟩) (Nat.le_of_ble_eq_true rfl) hl (Nat.le_of_ble_eq_true rfl) dL_asks_283 ⟨Nat.zero_le _, Nat.zero_le _⟩ hK hN hXS hA hO hS (fun H locs hO hS hz hk => ?_)
      refine lv_i2l (v := ((q_tellC g) i).toInt64) hx hb dL_asks_286 rfl ?_
      refine lv_ladd hx hb dL_asks_287 ?_
      refine lv_lstore_n (lv' := [(1, .long (((31 : Int64) * sm) + (((q_tellC g) i).toInt64))), (0, .ref q), (4, .int (nI (q_tellN g))), (5, .int (nI i))]) hx hb dL_asks_288 rfl hl (by decide) rfl (fun ls hl => ?_)
      refine lv_iinc (v := nI (i + 1)) (lv' := [(5, .int (nI (i + 1))), (1, .long (((31 : Int64) * sm) + (((q_tellC g) i).toInt64))), (0, .ref q), (4, .int (nI (q_tellN g)))]) hx hb dL_asks_289 hl (k := 3) rfl (by rw [oi_1, nI_add]) (by decide) rfl (fun ls hl => ?_)
      refine lv_goto (tgt := 268) hx hb dL_asks_292 (by decide) ?_
      exact ih (i + 1) (((31 : Int64) * sm) + (((q_tellC g) i).toInt64)) H locs _ (by omega) hT hO hS (lv_sub hl [2, 1, 3, 0] rfl)
  have T259 : ∀ (sm : Int64) (nLv : Nat) (lcv : Nat → Int32) (H : Heap) (locs : List Loc) (ls : Array Slot), fE g (fT g sm) = fAsk g → OBJ D cI cJ cC cL A q ax B g hy N u sb gs nT tg nLv lcv nr rn rd H → va_S A s.heap H locs → lv_has ls 7 [(0, .ref q), (1, .long sm)] → W p l e rmL_asks s m args below meth c H locs 0 0 Q (F0 m 259 ls []) := by
    intro sm nLv lcv H locs ls hT hO hS hl
    refine lv_aload_n hx hb dL_asks_259 rfl (lv_at hl 0 rfl) ?_
    refine oc_tell hF (cwV 0 hts gL_asks_X9_tell rfl rfl rfl (by decide +kernel) ⟨Nat.le_of_ble_eq_true rfl, Nat.le_of_ble_eq_true rfl⟩) (Nat.le_of_ble_eq_true rfl) hl (Nat.le_of_ble_eq_true rfl) dL_asks_260 ⟨Nat.zero_le _, Nat.zero_le _⟩ hK hN hXS hA hO hS (fun H locs hO hS hz hk => ?_)
    refine lv_istore (lv' := [(4, .int (nI (q_tellN g))), (0, .ref q), (1, .long sm)]) hx hb dL_asks_263 hl (by decide) rfl (fun ls hl => ?_)
    refine lv_iconst (v := nI 0) hx hb dL_asks_265 (by decide) ?_
    refine lv_istore (lv' := [(5, .int (nI 0)), (4, .int (nI (q_tellN g))), (0, .ref q), (1, .long sm)]) hx hb dL_asks_266 hl (by decide) rfl (fun ls hl => ?_)
    exact L268 (q_tellN g) 0 sm H locs _ (by omega) hT hO hS (lv_sub hl [2, 3, 1, 0] rfl)
  have L57 : ∀ (d k : Nat) (sm : Int64) (nLv : Nat) (lcv : Nat → Int32) (H : Heap) (locs : List Loc) (ls : Array Slot), k + d = g 0 → fE g (fT g (lpS (fL g) d k sm)) = fAsk g → OBJ D cI cJ cC cL A q ax B g hy N u sb gs nT tg nLv lcv nr rn rd H → va_S A s.heap H locs → lv_has ls 7 [(0, .ref q), (1, .long sm), (3, .int (nI (g 0))), (4, .int (nI k))] → W p l e rmL_asks s m args below meth c H locs 0 0 Q (F0 m 57 ls []) := by
    intro d
    induction d with
    | zero =>
      intro k sm nLv lcv H locs ls hkd hT hO hS hl
      refine lv_iload hx hb dL_asks_57 (lv_at hl 3 rfl) ?_
      refine lv_iload_n hx hb dL_asks_59 rfl (lv_at hl 2 rfl) ?_
      refine lv_icmp_ge (tgt := 259) hx hb dL_asks_60 (by decide) (fun _ => ?_) (fun hq => absurd (nI_le (by omega) (by omega)) hq)
      exact T259 sm nLv lcv _ _ _ hT hO hS (lv_sub hl [0, 1] rfl)
    | succ d ihk =>
      intro k sm nLv lcv H locs ls hkd hT hO hS hl
      have L226 : ∀ (d6 i : Nat) (sm : Int64) (H : Heap) (locs : List Loc) (ls : Array Slot), i + d6 = q_lampN g k → fE g (fT g (lpS (fL g) d (k + 1) (lpS (fun i s => (31 : Int64) * s + (q_lampC g k i).toInt64) d6 i sm))) = fAsk g → OBJ D cI cJ cC cL A q ax B g hy N u sb gs nT tg (q_lampN g k) (q_lampC g k) nr rn rd H → va_S A s.heap H locs → lv_has ls 7 [(0, .ref q), (1, .long sm), (3, .int (nI (g 0))), (4, .int (nI k)), (5, .int (nI (q_lampN g k))), (6, .int (nI i))] → W p l e rmL_asks s m args below meth c H locs 0 0 Q (F0 m 226 ls []) := by
        intro d6
        induction d6 with
        | zero =>
          intro i sm H locs ls hid hT hO hS hl
          have h32 := OBJ_nL hO
          refine lv_iload hx hb dL_asks_226 (lv_at hl 5 rfl) ?_
          refine lv_iload hx hb dL_asks_228 (lv_at hl 4 rfl) ?_
          refine lv_icmp_ge (tgt := 253) hx hb dL_asks_230 (by decide) (fun _ => ?_) (fun hq => absurd (nI_le (by omega) (by omega)) hq)
          refine lv_iinc (v := nI (k + 1)) (lv' := [(4, .int (nI (k + 1))), (0, .ref q), (1, .long sm), (3, .int (nI (g 0))), (5, .int (nI (q_lampN g k))), (6, .int (nI i))]) hx hb dL_asks_253 hl (k := 3) rfl (by rw [oi_1, nI_add]) (by decide) rfl (fun ls hl => ?_)
          refine lv_goto (tgt := 57) hx hb dL_asks_256 (by decide) ?_
          exact ihk (k + 1) sm _ _ H locs _ (by omega) hT hO hS (lv_sub hl [1, 2, 3, 0] rfl)
        | succ d6 ih =>
          intro i sm H locs ls hid hT hO hS hl
          have h32 := OBJ_nL hO
          refine lv_iload hx hb dL_asks_226 (lv_at hl 5 rfl) ?_
          refine lv_iload hx hb dL_asks_228 (lv_at hl 4 rfl) ?_
          refine lv_icmp_ge (tgt := 253) hx hb dL_asks_230 (by decide) (fun hq => absurd hq (nI_ge (by omega) (by omega))) (fun _ => ?_)
          refine lv_ldc2 (v := (31 : Int64)) hx hb hown (hts (.constantLong RL 56 (31 : Int64)) (by decide +kernel)) dL_asks_233 ?_
          refine lv_lload_n hx hb dL_asks_236 rfl (lv_at hl 1 rfl) ?_
          refine lv_lmul hx hb dL_asks_237 ?_
          refine lv_aload_n hx hb dL_asks_238 rfl (lv_at hl 0 rfl) ?_
          refine lv_iload hx hb dL_asks_239 (lv_at hl 5 rfl) ?_
          refine oc_character hF (x := (q_lampC g k) i) (fun ls9 h9 => char_at h9 (by omega)) (cwV 1 hts gL_asks_X9_character rfl rfl rfl (by decide +kernel) ⟨Nat.le_of_ble_eq_true rfl, Nat.le_of_ble_eq_true rfl⟩) (Nat.le_of_ble_eq_true rfl) hl (Nat.le_of_ble_eq_true rfl) dL_asks_241 ⟨Nat.zero_le _, Nat.zero_le _⟩ hK hN hXS hA hO hS (fun H locs hO hS hz hk => ?_)
          refine lv_i2l (v := ((q_lampC g k) i).toInt64) hx hb dL_asks_244 rfl ?_
          refine lv_ladd hx hb dL_asks_245 ?_
          refine lv_lstore_n (lv' := [(1, .long (((31 : Int64) * sm) + (((q_lampC g k) i).toInt64))), (0, .ref q), (3, .int (nI (g 0))), (4, .int (nI k)), (5, .int (nI (q_lampN g k))), (6, .int (nI i))]) hx hb dL_asks_246 rfl hl (by decide) rfl (fun ls hl => ?_)
          refine lv_iinc (v := nI (i + 1)) (lv' := [(6, .int (nI (i + 1))), (1, .long (((31 : Int64) * sm) + (((q_lampC g k) i).toInt64))), (0, .ref q), (3, .int (nI (g 0))), (4, .int (nI k)), (5, .int (nI (q_lampN g k)))]) hx hb dL_asks_247 hl (k := 5) rfl (by rw [oi_1, nI_add]) (by decide) rfl (fun ls hl => ?_)
          refine lv_goto (tgt := 226) hx hb dL_asks_250 (by decide) ?_
          exact ih (i + 1) (((31 : Int64) * sm) + (((q_lampC g k) i).toInt64)) H locs _ (by omega) hT hO hS (lv_sub hl [2, 1, 3, 4, 5, 0] rfl)
      have T126 : ∀ (sm : Int64) (nLv : Nat) (lcv : Nat → Int32) (H : Heap) (locs : List Loc) (ls : Array Slot), fE g (fT g (lpS (fL g) d (k + 1) (fL5 g k (fL4 g k (fL3 g k sm))))) = fAsk g → OBJ D cI cJ cC cL A q ax B g hy N u sb gs nT tg nLv lcv nr rn rd H → va_S A s.heap H locs → lv_has ls 7 [(0, .ref q), (1, .long sm), (3, .int (nI (g 0))), (4, .int (nI k))] → W p l e rmL_asks s m args below meth c H locs 0 0 Q (F0 m 126 ls []) := by
        intro sm nLv lcv H locs ls hT hO hS hl
        refine lv_ldc2 (v := (31 : Int64)) hx hb hown (hts (.constantLong RL 56 (31 : Int64)) (by decide +kernel)) dL_asks_126 ?_
        refine lv_ldc2 (v := (31 : Int64)) hx hb hown (hts (.constantLong RL 56 (31 : Int64)) (by decide +kernel)) dL_asks_129 ?_
        refine lv_ldc2 (v := (31 : Int64)) hx hb hown (hts (.constantLong RL 56 (31 : Int64)) (by decide +kernel)) dL_asks_132 ?_
        refine lv_ldc2 (v := (31 : Int64)) hx hb hown (hts (.constantLong RL 56 (31 : Int64)) (by decide +kernel)) dL_asks_135 ?_
        refine lv_ldc2 (v := (31 : Int64)) hx hb hown (hts (.constantLong RL 56 (31 : Int64)) (by decide +kernel)) dL_asks_138 ?_
        refine lv_lload_n hx hb dL_asks_141 rfl (lv_at hl 1 rfl) ?_
        refine lv_lmul hx hb dL_asks_142 ?_
        refine lv_aload_n hx hb dL_asks_143 rfl (lv_at hl 0 rfl) ?_
        refine lv_iload hx hb dL_asks_144 (lv_at hl 3 rfl) ?_
        refine oc_leads hF (cwV 1 hts gL_asks_X9_leads rfl rfl rfl (by decide +kernel) ⟨Nat.le_of_ble_eq_true rfl, Nat.le_of_ble_eq_true rfl⟩) (Nat.le_of_ble_eq_true rfl) hl (Nat.le_of_ble_eq_true rfl) dL_asks_146 ⟨Nat.zero_le _, Nat.zero_le _⟩ hK hN hXS hA hO hS (fun H locs hO hS hz hk => ?_)
        refine lv_i2l (v := (q_leads g (nI k)).toInt64) hx hb dL_asks_149 rfl ?_
        refine lv_ladd hx hb dL_asks_150 ?_
        refine lv_lmul hx hb dL_asks_151 ?_
        refine lv_aload_n hx hb dL_asks_152 rfl (lv_at hl 0 rfl) ?_
        refine lv_iload hx hb dL_asks_153 (lv_at hl 3 rfl) ?_
        refine oc_depth hF (cwV 1 hts gL_asks_X9_depth rfl rfl rfl (by decide +kernel) ⟨Nat.le_of_ble_eq_true rfl, Nat.le_of_ble_eq_true rfl⟩) (Nat.le_of_ble_eq_true rfl) hl (Nat.le_of_ble_eq_true rfl) dL_asks_155 ⟨Nat.zero_le _, Nat.zero_le _⟩ hK hN hXS hA hO hS (fun H locs hO hS hz hk => ?_)
        refine lv_i2l (v := (q_depth g (nI k)).toInt64) hx hb dL_asks_158 rfl ?_
        refine lv_ladd hx hb dL_asks_159 ?_
        refine lv_lmul hx hb dL_asks_160 ?_
        refine lv_aload_n hx hb dL_asks_161 rfl (lv_at hl 0 rfl) ?_
        refine lv_iload hx hb dL_asks_162 (lv_at hl 3 rfl) ?_
        refine oc_depthAgain hF (cwV 1 hts gL_asks_X9_depthAgain rfl rfl rfl (by decide +kernel) ⟨Nat.le_of_ble_eq_true rfl, Nat.le_of_ble_eq_true rfl⟩) (Nat.le_of_ble_eq_true rfl) hl (Nat.le_of_ble_eq_true rfl) dL_asks_164 ⟨Nat.zero_le _, Nat.zero_le _⟩ hK hN hXS hA hO hS (fun H locs hO hS hz hk => ?_)
        refine lv_i2l (v := (q_depth g (nI k)).toInt64) hx hb dL_asks_167 rfl ?_
        refine lv_ladd hx hb dL_asks_168 ?_
        refine lv_lmul hx hb dL_asks_169 ?_
        refine lv_aload_n hx hb dL_asks_170 rfl (lv_at hl 0 rfl) ?_
        refine lv_iload hx hb dL_asks_171 (lv_at hl 3 rfl) ?_
        refine oc_switchesOf hF (cwV 1 hts gL_asks_X9_switchesOf rfl rfl rfl (by decide +kernel) ⟨Nat.le_of_ble_eq_true rfl, Nat.le_of_ble_eq_true rfl⟩) (Nat.le_of_ble_eq_true rfl) hl (Nat.le_of_ble_eq_true rfl) dL_asks_173 ⟨Nat.zero_le _, Nat.zero_le _⟩ hK hN hXS hA hO hS (fun H locs hO hS hz hk => ?_)
        refine lv_i2l (v := (q_switchesOf g (nI k)).toInt64) hx hb dL_asks_176 rfl ?_
        refine lv_ladd hx hb dL_asks_177 ?_
        refine lv_lmul hx hb dL_asks_178 ?_
        refine lv_aload_n hx hb dL_asks_179 rfl (lv_at hl 0 rfl) ?_
        refine lv_iload hx hb dL_asks_180 (lv_at hl 3 rfl) ?_
        refine lv_iconst (v := nI 0) hx hb dL_asks_182 (by decide) ?_
        refine oc_flickers hF (cwV 2 hts gL_asks_X9_flickers rfl rfl rfl (by decide +kernel) ⟨Nat.le_of_ble_eq_true rfl, Nat.le_of_ble_eq_true rfl⟩) (Nat.le_of_ble_eq_true rfl) hl (Nat.le_of_ble_eq_true rfl) dL_asks_183 ⟨Nat.zero_le _, Nat.zero_le _⟩ hK hN hXS hA hO hS (fun H locs hO hS hz hk => ?_)
        refine lv_i2l (v := (q_flickers g (nI k) (nI 0)).toInt64) hx hb dL_asks_186 rfl ?_
        refine lv_ladd hx hb dL_asks_187 ?_
        refine lv_lstore_n (lv' := [(1, .long (((31 : Int64) * (((31 : Int64) * (((31 : Int64) * (((31 : Int64) * (((31 : Int64) * sm) + ((q_leads g (nI k)).toInt64))) + ((q_depth g (nI k)).toInt64))) + ((q_depth g (nI k)).toInt64))) + ((q_switchesOf g (nI k)).toInt64))) + ((q_flickers g (nI k) (nI 0)).toInt64))), (0, .ref q), (3, .int (nI (g 0))), (4, .int (nI k))]) hx hb dL_asks_188 rfl hl (by decide) rfl (fun ls hl => ?_)
        refine lv_ldc2 (v := (31 : Int64)) hx hb hown (hts (.constantLong RL 56 (31 : Int64)) (by decide +kernel)) dL_asks_189 ?_
        refine lv_ldc2 (v := (31 : Int64)) hx hb hown (hts (.constantLong RL 56 (31 : Int64)) (by decide +kernel)) dL_asks_192 ?_
        refine lv_lload_n hx hb dL_asks_195 rfl (lv_at hl 0 rfl) ?_
        refine lv_lmul hx hb dL_asks_196 ?_
        refine lv_aload_n hx hb dL_asks_197 rfl (lv_at hl 1 rfl) ?_
        refine lv_iload hx hb dL_asks_198 (lv_at hl 3 rfl) ?_
        refine oc_table hF (cwV 1 hts gL_asks_X9_table rfl rfl rfl (by decide +kernel) ⟨Nat.le_of_ble_eq_true rfl, Nat.le_of_ble_eq_true rfl⟩) (Nat.le_of_ble_eq_true rfl) hl (Nat.le_of_ble_eq_true rfl) dL_asks_200 ⟨Nat.zero_le _, Nat.zero_le _⟩ hK hN hXS hA hO hS (fun H locs hO hS hz hk => ?_)
        refine lv_i2l (v := (q_table g (nI k)).toInt64) hx hb dL_asks_203 rfl ?_
        refine lv_ladd hx hb dL_asks_204 ?_
        refine lv_lmul hx hb dL_asks_205 ?_
        refine lv_aload_n hx hb dL_asks_206 rfl (lv_at hl 1 rfl) ?_
        refine lv_iload hx hb dL_asks_207 (lv_at hl 3 rfl) ?_
        refine oc_tableAgain hF (cwV 1 hts gL_asks_X9_tableAgain rfl rfl rfl (by decide +kernel) ⟨Nat.le_of_ble_eq_true rfl, Nat.le_of_ble_eq_true rfl⟩) (Nat.le_of_ble_eq_true rfl) hl (Nat.le_of_ble_eq_true rfl) dL_asks_209 ⟨Nat.zero_le _, Nat.zero_le _⟩ hK hN hXS hA hO hS (fun H locs hO hS hz hk => ?_)
        refine lv_i2l (v := (q_table g (nI k)).toInt64) hx hb dL_asks_212 rfl ?_
        refine lv_ladd hx hb dL_asks_213 ?_
        refine lv_lstore_n (lv' := [(1, .long (((31 : Int64) * (((31 : Int64) * (((31 : Int64) * (((31 : Int64) * (((31 : Int64) * (((31 : Int64) * (((31 : Int64) * sm) + ((q_leads g (nI k)).toInt64))) + ((q_depth g (nI k)).toInt64))) + ((q_depth g (nI k)).toInt64))) + ((q_switchesOf g (nI k)).toInt64))) + ((q_flickers g (nI k) (nI 0)).toInt64))) + ((q_table g (nI k)).toInt64))) + ((q_table g (nI k)).toInt64))), (0, .ref q), (3, .int (nI (g 0))), (4, .int (nI k))]) hx hb dL_asks_214 rfl hl (by decide) rfl (fun ls hl => ?_)
        refine lv_aload_n hx hb dL_asks_215 rfl (lv_at hl 1 rfl) ?_
        refine lv_iload hx hb dL_asks_216 (lv_at hl 3 rfl) ?_
        refine oc_tellLantern hF (x := nI (q_lampN g k)) (nL' := q_lampN g k) (lc' := q_lampC g k) (fun c al ti tc se st k9 w so ch ls9 hC9 _ => lamp_q (OBJ_G hO).1 hC9 (nI nLv) ls9 (by omega)) (cwV 1 hts gL_asks_X9_tellLantern rfl rfl rfl (by decide +kernel) ⟨Nat.le_of_ble_eq_true rfl, Nat.le_of_ble_eq_true rfl⟩) (Nat.le_of_ble_eq_true rfl) hl (Nat.le_of_ble_eq_true rfl) dL_asks_218 ⟨Nat.zero_le _, Nat.zero_le _⟩ hK hN hXS hA hO hS (fun H locs hO hS hz hk => ?_)
        refine lv_istore (lv' := [(5, .int (nI (q_lampN g k))), (1, .long (((31 : Int64) * (((31 : Int64) * (((31 : Int64) * (((31 : Int64) * (((31 : Int64) * (((31 : Int64) * (((31 : Int64) * sm) + ((q_leads g (nI k)).toInt64))) + ((q_depth g (nI k)).toInt64))) + ((q_depth g (nI k)).toInt64))) + ((q_switchesOf g (nI k)).toInt64))) + ((q_flickers g (nI k) (nI 0)).toInt64))) + ((q_table g (nI k)).toInt64))) + ((q_table g (nI k)).toInt64))), (0, .ref q), (3, .int (nI (g 0))), (4, .int (nI k))]) hx hb dL_asks_221 hl (by decide) rfl (fun ls hl => ?_)
        refine lv_iconst (v := nI 0) hx hb dL_asks_223 (by decide) ?_
        refine lv_istore (lv' := [(6, .int (nI 0)), (5, .int (nI (q_lampN g k))), (1, .long (((31 : Int64) * (((31 : Int64) * (((31 : Int64) * (((31 : Int64) * (((31 : Int64) * (((31 : Int64) * (((31 : Int64) * sm) + ((q_leads g (nI k)).toInt64))) + ((q_depth g (nI k)).toInt64))) + ((q_depth g (nI k)).toInt64))) + ((q_switchesOf g (nI k)).toInt64))) + ((q_flickers g (nI k) (nI 0)).toInt64))) + ((q_table g (nI k)).toInt64))) + ((q_table g (nI k)).toInt64))), (0, .ref q), (3, .int (nI (g 0))), (4, .int (nI k))]) hx hb dL_asks_224 hl (by decide) rfl (fun ls hl => ?_)
        exact L226 (q_lampN g k) 0 (((31 : Int64) * (((31 : Int64) * (((31 : Int64) * (((31 : Int64) * (((31 : Int64) * (((31 : Int64) * (((31 : Int64) * sm) + ((q_leads g (nI k)).toInt64))) + ((q_depth g (nI k)).toInt64))) + ((q_depth g (nI k)).toInt64))) + ((q_switchesOf g (nI k)).toInt64))) + ((q_flickers g (nI k) (nI 0)).toInt64))) + ((q_table g (nI k)).toInt64))) + ((q_table g (nI k)).toInt64)) H locs _ (by omega) hT hO hS (lv_sub hl [3, 2, 4, 5, 1, 0] rfl)
      have L98 : ∀ (d6 i : Nat) (sm : Int64) (nLv : Nat) (lcv : Nat → Int32) (H : Heap) (locs : List Loc) (ls : Array Slot), i + d6 = 3 → fE g (fT g (lpS (fL g) d (k + 1) (fL5 g k (fL4 g k (fL3 g k (lpS (fun p s => (31 : Int64) * s + (q_wireOf g (nI k) (nI p)).toInt64) d6 i sm)))))) = fAsk g → OBJ D cI cJ cC cL A q ax B g hy N u sb gs nT tg nLv lcv nr rn rd H → va_S A s.heap H locs → lv_has ls 7 [(0, .ref q), (1, .long sm), (3, .int (nI (g 0))), (4, .int (nI k)), (5, .int (nI i))] → W p l e rmL_asks s m args below meth c H locs 0 0 Q (F0 m 98 ls []) := by
        intro d6
        induction d6 with
        | zero =>
          intro i sm nLv lcv H locs ls hid hT hO hS hl
          refine lv_iload hx hb dL_asks_98 (lv_at hl 4 rfl) ?_
          refine lv_iconst (v := nI 3) hx hb dL_asks_100 (by decide) ?_
          refine lv_icmp_ge (tgt := 126) hx hb dL_asks_101 (by decide) (fun _ => ?_) (fun hq => absurd (nI_le (by omega) (by omega)) hq)
          exact T126 sm nLv lcv _ _ _ hT hO hS (lv_sub hl [0, 1, 2, 3] rfl)
        | succ d6 ih =>
          intro i sm nLv lcv H locs ls hid hT hO hS hl
          refine lv_iload hx hb dL_asks_98 (lv_at hl 4 rfl) ?_
          refine lv_iconst (v := nI 3) hx hb dL_asks_100 (by decide) ?_
          refine lv_icmp_ge (tgt := 126) hx hb dL_asks_101 (by decide) (fun hq => absurd hq (nI_ge (by omega) (by omega))) (fun _ => ?_)
          refine lv_ldc2 (v := (31 : Int64)) hx hb hown (hts (.constantLong RL 56 (31 : Int64)) (by decide +kernel)) dL_asks_104 ?_
          refine lv_lload_n hx hb dL_asks_107 rfl (lv_at hl 1 rfl) ?_
          refine lv_lmul hx hb dL_asks_108 ?_
          refine lv_aload_n hx hb dL_asks_109 rfl (lv_at hl 0 rfl) ?_
          refine lv_iload hx hb dL_asks_110 (lv_at hl 3 rfl) ?_
          refine lv_iload hx hb dL_asks_112 (lv_at hl 4 rfl) ?_
          refine oc_wireOf hF (cwV 2 hts gL_asks_X9_wireOf rfl rfl rfl (by decide +kernel) ⟨Nat.le_of_ble_eq_true rfl, Nat.le_of_ble_eq_true rfl⟩) (Nat.le_of_ble_eq_true rfl) hl (Nat.le_of_ble_eq_true rfl) dL_asks_114 ⟨Nat.zero_le _, Nat.zero_le _⟩ hK hN hXS hA hO hS (fun H locs hO hS hz hk => ?_)
          refine lv_i2l (v := (q_wireOf g (nI k) (nI i)).toInt64) hx hb dL_asks_117 rfl ?_
          refine lv_ladd hx hb dL_asks_118 ?_
          refine lv_lstore_n (lv' := [(1, .long (((31 : Int64) * sm) + ((q_wireOf g (nI k) (nI i)).toInt64))), (0, .ref q), (3, .int (nI (g 0))), (4, .int (nI k)), (5, .int (nI i))]) hx hb dL_asks_119 rfl hl (by decide) rfl (fun ls hl => ?_)
          refine lv_iinc (v := nI (i + 1)) (lv' := [(5, .int (nI (i + 1))), (1, .long (((31 : Int64) * sm) + ((q_wireOf g (nI k) (nI i)).toInt64))), (0, .ref q), (3, .int (nI (g 0))), (4, .int (nI k))]) hx hb dL_asks_120 hl (k := 4) rfl (by rw [oi_1, nI_add]) (by decide) rfl (fun ls hl => ?_)
          refine lv_goto (tgt := 98) hx hb dL_asks_123 (by decide) ?_
          exact ih (i + 1) (((31 : Int64) * sm) + ((q_wireOf g (nI k) (nI i)).toInt64)) nLv lcv H locs _ (by omega) hT hO hS (lv_sub hl [2, 1, 3, 4, 0] rfl)
      have L66 : ∀ (d6 i : Nat) (sm : Int64) (nLv : Nat) (lcv : Nat → Int32) (H : Heap) (locs : List Loc) (ls : Array Slot), i + d6 = 8 → fE g (fT g (lpS (fL g) d (k + 1) (fL5 g k (fL4 g k (fL3 g k (fL2 g k (lpS (fun w s => (31 : Int64) * s + (q_lanternOf g (nI k) (nI w)).toInt64) d6 i sm))))))) = fAsk g → OBJ D cI cJ cC cL A q ax B g hy N u sb gs nT tg nLv lcv nr rn rd H → va_S A s.heap H locs → lv_has ls 7 [(0, .ref q), (1, .long sm), (3, .int (nI (g 0))), (4, .int (nI k)), (5, .int (nI i))] → W p l e rmL_asks s m args below meth c H locs 0 0 Q (F0 m 66 ls []) := by
        intro d6
        induction d6 with
        | zero =>
          intro i sm nLv lcv H locs ls hid hT hO hS hl
          refine lv_iload hx hb dL_asks_66 (lv_at hl 4 rfl) ?_
          refine lv_bipush (v := nI 8) hx hb dL_asks_68 (by decide) ?_
          refine lv_icmp_ge (tgt := 95) hx hb dL_asks_70 (by decide) (fun _ => ?_) (fun hq => absurd (nI_le (by omega) (by omega)) hq)
          refine lv_iconst (v := nI 0) hx hb dL_asks_95 (by decide) ?_
          refine lv_istore (lv' := [(5, .int (nI 0)), (0, .ref q), (1, .long sm), (3, .int (nI (g 0))), (4, .int (nI k))]) hx hb dL_asks_96 hl (by decide) rfl (fun ls hl => ?_)
          exact L98 3 0 sm nLv lcv _ _ _ (by omega) hT hO hS (lv_sub hl [1, 2, 3, 4, 0] rfl)
        | succ d6 ih =>
          intro i sm nLv lcv H locs ls hid hT hO hS hl
          refine lv_iload hx hb dL_asks_66 (lv_at hl 4 rfl) ?_
          refine lv_bipush (v := nI 8) hx hb dL_asks_68 (by decide) ?_
          refine lv_icmp_ge (tgt := 95) hx hb dL_asks_70 (by decide) (fun hq => absurd hq (nI_ge (by omega) (by omega))) (fun _ => ?_)
          refine lv_ldc2 (v := (31 : Int64)) hx hb hown (hts (.constantLong RL 56 (31 : Int64)) (by decide +kernel)) dL_asks_73 ?_
          refine lv_lload_n hx hb dL_asks_76 rfl (lv_at hl 1 rfl) ?_
          refine lv_lmul hx hb dL_asks_77 ?_
          refine lv_aload_n hx hb dL_asks_78 rfl (lv_at hl 0 rfl) ?_
          refine lv_iload hx hb dL_asks_79 (lv_at hl 3 rfl) ?_
          refine lv_iload hx hb dL_asks_81 (lv_at hl 4 rfl) ?_
          refine oc_lanternOf hF (cwV 2 hts gL_asks_X9_lanternOf rfl rfl rfl (by decide +kernel) ⟨Nat.le_of_ble_eq_true rfl, Nat.le_of_ble_eq_true rfl⟩) (Nat.le_of_ble_eq_true rfl) hl (Nat.le_of_ble_eq_true rfl) dL_asks_83 ⟨Nat.zero_le _, Nat.zero_le _⟩ hK hN hXS hA hO hS (fun H locs hO hS hz hk => ?_)
          refine lv_i2l (v := (q_lanternOf g (nI k) (nI i)).toInt64) hx hb dL_asks_86 rfl ?_
          refine lv_ladd hx hb dL_asks_87 ?_
          refine lv_lstore_n (lv' := [(1, .long (((31 : Int64) * sm) + ((q_lanternOf g (nI k) (nI i)).toInt64))), (0, .ref q), (3, .int (nI (g 0))), (4, .int (nI k)), (5, .int (nI i))]) hx hb dL_asks_88 rfl hl (by decide) rfl (fun ls hl => ?_)
          refine lv_iinc (v := nI (i + 1)) (lv' := [(5, .int (nI (i + 1))), (1, .long (((31 : Int64) * sm) + ((q_lanternOf g (nI k) (nI i)).toInt64))), (0, .ref q), (3, .int (nI (g 0))), (4, .int (nI k))]) hx hb dL_asks_89 hl (k := 4) rfl (by rw [oi_1, nI_add]) (by decide) rfl (fun ls hl => ?_)
          refine lv_goto (tgt := 66) hx hb dL_asks_92 (by decide) ?_
          exact ih (i + 1) (((31 : Int64) * sm) + ((q_lanternOf g (nI k) (nI i)).toInt64)) nLv lcv H locs _ (by omega) hT hO hS (lv_sub hl [2, 1, 3, 4, 0] rfl)
      refine lv_iload hx hb dL_asks_57 (lv_at hl 3 rfl) ?_
      refine lv_iload_n hx hb dL_asks_59 rfl (lv_at hl 2 rfl) ?_
      refine lv_icmp_ge (tgt := 259) hx hb dL_asks_60 (by decide) (fun hq => absurd hq (nI_ge (by omega) (by omega))) (fun _ => ?_)
      refine lv_iconst (v := nI 0) hx hb dL_asks_63 (by decide) ?_
      refine lv_istore (lv' := [(5, .int (nI 0)), (0, .ref q), (1, .long sm), (3, .int (nI (g 0))), (4, .int (nI k))]) hx hb dL_asks_64 hl (by decide) rfl (fun ls hl => ?_)
      exact L66 8 0 sm nLv lcv _ _ _ (by omega) hT hO hS (lv_sub hl [1, 2, 3, 4, 0] rfl)
  have T48 : ∀ (sm : Int64) (H : Heap) (locs : List Loc) (ls : Array Slot), fE g (fT g (lpS (fL g) (g 0) 0 sm)) = fAsk g → OBJ D cI cJ cC cL A q ax B g hy N u sb gs nT tg nL lc nr rn rd H → va_S A s.heap H locs → lv_has ls 7 [(0, .ref q), (1, .long sm)] → W p l e rmL_asks s m args below meth c H locs 0 0 Q (F0 m 48 ls []) := by
    intro sm H locs ls hT hO hS hl
    refine lv_aload_n hx hb dL_asks_48 rfl (lv_at hl 0 rfl) ?_
    refine lv_iconst (v := nI 1) hx hb dL_asks_49 (by decide) ?_
    refine oc_accountS hF (by decide) (by decide) (cwV 1 hts gL_asks_X9_account rfl rfl rfl (by decide +kernel) ⟨Nat.le_of_ble_eq_true rfl, Nat.le_of_ble_eq_true rfl⟩) (Nat.le_of_ble_eq_true rfl) hl (Nat.le_of_ble_eq_true rfl) dL_asks_50 ⟨Nat.zero_le _, Nat.zero_le _⟩ hK hN hXS hA hO hS (fun H locs hO hS hz hk => ?_)
    rw [qe_acc1 (OBJ_G hO) (OBJ_QE hO)]
    refine lv_istore_n (lv' := [(3, .int (nI (g 0))), (0, .ref q), (1, .long sm)]) hx hb dL_asks_53 rfl hl (by decide) rfl (fun ls hl => ?_)
    refine lv_iconst (v := nI 0) hx hb dL_asks_54 (by decide) ?_
    refine lv_istore (lv' := [(4, .int (nI 0)), (3, .int (nI (g 0))), (0, .ref q), (1, .long sm)]) hx hb dL_asks_55 hl (by decide) rfl (fun ls hl => ?_)
    exact L57 (g 0) 0 sm nL lc H locs _ (by omega) hT hO hS (lv_sub hl [2, 3, 1, 0] rfl)
  have L23 : ∀ (d i : Nat) (sm : Int64) (H : Heap) (locs : List Loc) (ls : Array Slot), i + d = 11 → fE g (fT g (lpS (fL g) (g 0) 0 (lpS (fun w s => (31 : Int64) * s + (q_account g 0 0 (nI w)).toInt64) d i sm))) = fAsk g → OBJ D cI cJ cC cL A q ax B g hy N u sb gs nT tg nL lc nr rn rd H → va_S A s.heap H locs → lv_has ls 7 [(0, .ref q), (1, .long sm), (3, .int (nI i))] → W p l e rmL_asks s m args below meth c H locs 0 0 Q (F0 m 23 ls []) := by
    intro d
    induction d with
    | zero =>
      intro i sm H locs ls hid hT hO hS hl
      refine lv_iload_n hx hb dL_asks_23 rfl (lv_at hl 2 rfl) ?_
      refine lv_bipush (v := nI 11) hx hb dL_asks_24 (by decide) ?_
      refine lv_icmp_ge (tgt := 48) hx hb dL_asks_26 (by decide) (fun _ => ?_) (fun hq => absurd (nI_le (by omega) (by omega)) hq)
      exact T48 sm _ _ _ hT hO hS (lv_sub hl [0, 1] rfl)
    | succ d ih =>
      intro i sm H locs ls hid hT hO hS hl
      refine lv_iload_n hx hb dL_asks_23 rfl (lv_at hl 2 rfl) ?_
      refine lv_bipush (v := nI 11) hx hb dL_asks_24 (by decide) ?_
      refine lv_icmp_ge (tgt := 48) hx hb dL_asks_26 (by decide) (fun hq => absurd hq (nI_ge (by omega) (by omega))) (fun _ => ?_)
      refine lv_ldc2 (v := (31 : Int64)) hx hb hown (hts (.constantLong RL 56 (31 : Int64)) (by decide +kernel)) dL_asks_29 ?_
      refine lv_lload_n hx hb dL_asks_32 rfl (lv_at hl 1 rfl) ?_
      refine lv_lmul hx hb dL_asks_33 ?_
      refine lv_aload_n hx hb dL_asks_34 rfl (lv_at hl 0 rfl) ?_
      refine lv_iload_n hx hb dL_asks_35 rfl (lv_at hl 2 rfl) ?_
      refine oc_accountS hF (v1 := nI i) (fun h => by have := (nI_eq (by omega) (by omega)).1 (show nI i = nI 11 from h); omega) (fun h => by have := (nI_eq (by omega) (by omega)).1 (show nI i = nI 12 from h); omega) (cwV 1 hts gL_asks_X9_account rfl rfl rfl (by decide +kernel) ⟨Nat.le_of_ble_eq_true rfl, Nat.le_of_ble_eq_true rfl⟩) (Nat.le_of_ble_eq_true rfl) hl (Nat.le_of_ble_eq_true rfl) dL_asks_36 ⟨Nat.zero_le _, Nat.zero_le _⟩ hK hN hXS hA hO hS (fun H locs hO hS hz hk => ?_)
      refine lv_i2l (v := (q_account g 0 0 (nI i)).toInt64) hx hb dL_asks_39 rfl ?_
      refine lv_ladd hx hb dL_asks_40 ?_
      refine lv_lstore_n (lv' := [(1, .long (((31 : Int64) * sm) + ((q_account g 0 0 (nI i)).toInt64))), (0, .ref q), (3, .int (nI i))]) hx hb dL_asks_41 rfl hl (by decide) rfl (fun ls hl => ?_)
      refine lv_iinc (v := nI (i + 1)) (lv' := [(3, .int (nI (i + 1))), (1, .long (((31 : Int64) * sm) + ((q_account g 0 0 (nI i)).toInt64))), (0, .ref q)]) hx hb dL_asks_42 hl (k := 2) rfl (by rw [oi_1, nI_add]) (by decide) rfl (fun ls hl => ?_)
      refine lv_goto (tgt := 23) hx hb dL_asks_45 (by decide) ?_
      exact ih (i + 1) (((31 : Int64) * sm) + ((q_account g 0 0 (nI i)).toInt64)) H locs _ (by omega) hT hO hS (lv_sub hl [2, 1, 0] rfl)
  refine lv_ldc2 (v := (31 : Int64)) hx hb hown (hts (.constantLong RL 56 (31 : Int64)) (by decide +kernel)) dL_asks_0 ?_
  refine lv_aload_n hx hb dL_asks_3 rfl (lv_at hl 0 rfl) ?_
  refine oc_meanWick hF (cwV 0 hts gL_asks_X9_meanWick rfl rfl rfl (by decide +kernel) ⟨Nat.le_of_ble_eq_true rfl, Nat.le_of_ble_eq_true rfl⟩) (Nat.le_of_ble_eq_true rfl) hl (Nat.le_of_ble_eq_true rfl) dL_asks_4 ⟨Nat.zero_le _, Nat.zero_le _⟩ hK hN hXS hA hO hS (fun H locs hO hS hz hk => ?_)
  refine lc_l (X := XT) (O := oT) (O' := (fun _ => oT)) (F := fT0) (As := [.double (q_mean g)]) (rest := [.long (31 : Int64)]) hF (c_Jxe99ae_doubleToLongBits_ccdee l D cI cJ cC cL (q_mean g) _) (va_cwS 1 hts gL_asks_Jxe99ae_doubleToLongBits_ccdee rfl rfl rfl (by decide +kernel) ⟨Nat.le_of_ble_eq_true rfl, Nat.le_of_ble_eq_true rfl⟩) rfl hl rfl (Nat.le_of_ble_eq_true rfl) dL_asks_7 ⟨Nat.zero_le _, Nat.zero_le _⟩ hK hN (KX_T) (fun _ _ => trivial) trivial hS ((fun q h => hA q (Nat.le_trans hS.1 h))) (fun r u9 H locs hr _ hS hz hk => ?_)
  subst hr
  have hO := OBJ_keptO hO (fun z h => hk z h (Nat.not_le.mpr h))
  refine lv_lmul hx hb dL_asks_10 ?_
  refine lv_aload_n hx hb dL_asks_11 rfl (lv_at hl 0 rfl) ?_
  refine oc_glowShare hF (cwV 0 hts gL_asks_X9_glowShare rfl rfl rfl (by decide +kernel) ⟨Nat.le_of_ble_eq_true rfl, Nat.le_of_ble_eq_true rfl⟩) (Nat.le_of_ble_eq_true rfl) hl (Nat.le_of_ble_eq_true rfl) dL_asks_12 ⟨Nat.zero_le _, Nat.zero_le _⟩ hK hN hXS hA hO hS (fun H locs hO hS hz hk => ?_)
  refine lc_i (X := XT) (O := oT) (O' := (fun _ => oT)) (F := fT0) (As := [.float (q_glow g)]) (rest := [.long ((31 : Int64) * (dlb (q_mean g)))]) hF (c_Jxf58ca_floatToIntBits_5c35a l D cI cJ cC cL (q_glow g) _) (va_cwS 1 hts gL_asks_Jxf58ca_floatToIntBits_5c35a rfl rfl rfl (by decide +kernel) ⟨Nat.le_of_ble_eq_true rfl, Nat.le_of_ble_eq_true rfl⟩) rfl hl rfl (Nat.le_of_ble_eq_true rfl) dL_asks_15 ⟨Nat.zero_le _, Nat.zero_le _⟩ hK hN (KX_T) (fun _ _ => trivial) trivial hS ((fun q h => hA q (Nat.le_trans hS.1 h))) (fun r u9 H locs hr _ hS hz hk => ?_)
  subst hr
  have hO := OBJ_keptO hO (fun z h => hk z h (Nat.not_le.mpr h))
  refine lv_i2l (v := (fib (q_glow g)).toInt64) hx hb dL_asks_18 rfl ?_
  refine lv_ladd hx hb dL_asks_19 ?_
  refine lv_lstore_n (lv' := [(1, .long (((31 : Int64) * (dlb (q_mean g))) + ((fib (q_glow g)).toInt64))), (0, .ref q)]) hx hb dL_asks_20 rfl hl (by decide) rfl (fun ls hl => ?_)
  refine lv_iconst (v := nI 0) hx hb dL_asks_21 (by decide) ?_
  refine lv_istore_n (lv' := [(3, .int (nI 0)), (1, .long (((31 : Int64) * (dlb (q_mean g))) + ((fib (q_glow g)).toInt64))), (0, .ref q)]) hx hb dL_asks_22 rfl hl (by decide) rfl (fun ls hl => ?_)
  exact L23 11 0 (((31 : Int64) * (dlb (q_mean g))) + ((fib (q_glow g)).toInt64)) _ _ _ (by omega) rfl hO hS (lv_sub hl [2, 1, 0] rfl)


/-! entries of methods whose class's name isn't plain, but for which no native row stands -/
theorem Met.ofWF {l : Launch} {y : MethodName} {ws ws' : List Cond} {rm : Room} {Pc : Array Value → State → Prop} {Qc : Array Value → State → Outcome → State → Prop} {mc ms : Nat} {free : Addr → Prop} {cc : ByteArray} {maxL : Nat} {ret : Option FieldType}
    (hy : plainFor y = true) (hw : ws = Cond.code y cc maxL ret :: ws')
    (body : ∀ p e s m args below meth c s₁, BodyLoose p l y (headSpec ws rm) cc maxL ret e s m args below meth c s₁ → c.maxLocals = maxL → Pc args s →
      W p l e (headSpec ws rm).room s m args below meth c s.heap [] 0 0 (MQ below Qc args s mc ms free) (entryFrame m args maxL)) : Met l y ws rm Pc Qc mc ms free := by
  refine MetFree.of_bodySF (code := cc) (maxLocals := maxL) (ret := ret) hy ?_ ?_
  · intro args s m h hn
    obtain ⟨meth, c, h1, h2, h3, h4, h5, h6, -, -⟩ := Cond.code_spec hn (atoms_spec (ws := ws) h _ (by rw [hw]; exact List.mem_cons_self))
    exact ⟨meth, c, h1, h2, h3, h4, h5, h6⟩
  · intro p e s m args below meth c s₁ B hml hP _
    have hh0 : s₁.heap = s.heap := by rw [B.state]; rfl
    obtain ⟨t, a1, o, b1, b2, b3⟩ := body p e s m args below meth c s₁ B hml hP s₁ hh0 (Stand.of_body B)
    exact ⟨t, o, a1, b1, b2, ⟨b3.1, b3.2⟩⟩
section LEF
variable {p : Program} {l : Launch} {e : Env} {R : Room} {s : State} {m : MethodId} {args : Array Value} {below : List Frame} {meth : Method} {c : Code} {H : Heap} {locs : List Loc} {cells slots : Nat} {Q : State → Prop}
variable {y : MethodName} {bytes cc : ByteArray} {maxL nL mc ms n index : Nat} {ret : Option FieldType} {wy : List Cond} {rm : Room} {Pc : Array Value → State → Prop} {Qc : Array Value → State → Outcome → State → Prop} {free : Addr → Prop} {Ts : List Cond} {own C : String} {b : Addr} {As rest st0 : List Value} {g : JFrame} {pc : Nat} {ls : Array Slot}
variable {lv : List (Nat × Value)} {D : va_G} {A : Nat → Prop} {tys : List (ClassId × FieldType)} {ws wc w1 wr ws2 : va_W} {isC isR isB : List Nat} {ci q0 N : Nat} {T : u_T} {fs : List Value}
variable {X : jX} {O : oP} {σ : Type} {O' : σ → oP} {F : Nat → Nat → Prop}
theorem lE_iF {ws' : List Cond} {av : List Value} {lv0 : List (Nat × Value)} {sz : Nat} {post : Int32 → σ → Prop}
    (hy : plainFor y = true) (hw : wy = Cond.code y cc maxL ret :: ws') (hyo : y.cls = own) (hret : ret = some .int) (hal : (lg_sl av).length ≤ maxL) (hlv : lv_args 0 av = lv0) (hF : ∀ z q : Nat, z ≤ q → F z q)
    (body : ∀ p e s m args below meth c A Q ls, p.tables.exec = Jvm.exec → c.code = cc → c.maxLocals = maxL → s.vm.findClass own = some m.cls → (∀ w ∈ wy, w.before args s = true) → va_K D vwCl tys s → nst s → X A s s.heap → (∀ q : Nat, s.heap.size ≤ q → A q) → A = F s.heap.size → O A s.heap → va_S A s.heap s.heap [] → lv_has ls maxL lv0 →
      (∀ {H : Heap} {locs : List Loc} {pc : Nat} {ls : Array Slot} {v : Int32} (u : σ), post v u → O' u A H → va_S A s.heap H locs → decode cc pc = .ok (.ireturn, 1) → W p l e rm s m args below meth c H locs mc ms Q (F0 m pc ls [.int v])) →
      W p l e rm s m args below meth c s.heap [] 0 0 Q (F0 m 0 ls [])) :
    Met l y wy rm (va_Pc av (lpre X D tys O F sz)) (va_Qi post (fun u t => lpost D tys (O' u) (F sz) t) (F sz)) mc ms (F sz) := by
  refine Met.ofWF (cc := cc) (maxL := maxL) (ret := ret) hy hw ?_
  intro p e s m args below meth c s₁ B hml hv
  obtain ⟨rfl, hsz, hO, hK, hN, hX⟩ := hv
  subst hsz
  have hl := lv_entry av hal
  rw [hlv] at hl
  rw [lg_entry_eq]
  have hown : s.vm.findClass own = some m.cls := hyo ▸ findClass_of_methodNamed B.named
  refine body p e s m _ below meth c (F s.heap.size) _ _ B.exec B.bytes hml hown (atoms_spec (ws := wy) B.pre) hK hN hX (fun q h => hF _ q h) rfl hO va_S.rf hl ?_
  intro H locs pc ls v u hp hO hS hdg
  exact W.iret (v := v) B.exec B.bytes (hret ▸ B.returns) (fun t ht hW => ⟨⟨v, u, rfl, hp, by rw [ht]; exact hO, va_K.moved hW.alike hK⟩, hS.F ht⟩) hS.2.2 hdg B.notSynchronized
theorem lE_zF {ws' : List Cond} {av : List Value} {lv0 : List (Nat × Value)} {sz : Nat} {post : Int32 → σ → Prop}
    (hy : plainFor y = true) (hw : wy = Cond.code y cc maxL ret :: ws') (hyo : y.cls = own) (hret : ret = some .boolean) (hal : (lg_sl av).length ≤ maxL) (hlv : lv_args 0 av = lv0) (hF : ∀ z q : Nat, z ≤ q → F z q)
    (body : ∀ p e s m args below meth c A Q ls, p.tables.exec = Jvm.exec → c.code = cc → c.maxLocals = maxL → s.vm.findClass own = some m.cls → (∀ w ∈ wy, w.before args s = true) → va_K D vwCl tys s → nst s → X A s s.heap → (∀ q : Nat, s.heap.size ≤ q → A q) → A = F s.heap.size → O A s.heap → va_S A s.heap s.heap [] → lv_has ls maxL lv0 →
      (∀ {H : Heap} {locs : List Loc} {pc : Nat} {ls : Array Slot} {v : Int32} (u : σ), (v = 0 ∨ v = 1) → post v u → O' u A H → va_S A s.heap H locs → decode cc pc = .ok (.ireturn, 1) → W p l e rm s m args below meth c H locs mc ms Q (F0 m pc ls [.int v])) →
      W p l e rm s m args below meth c s.heap [] 0 0 Q (F0 m 0 ls [])) :
    Met l y wy rm (va_Pc av (lpre X D tys O F sz)) (va_Qi post (fun u t => lpost D tys (O' u) (F sz) t) (F sz)) mc ms (F sz) := by
  refine Met.ofWF (cc := cc) (maxL := maxL) (ret := ret) hy hw ?_
  intro p e s m args below meth c s₁ B hml hv
  obtain ⟨rfl, hsz, hO, hK, hN, hX⟩ := hv
  subst hsz
  have hl := lv_entry av hal
  rw [hlv] at hl
  rw [lg_entry_eq]
  have hown : s.vm.findClass own = some m.cls := hyo ▸ findClass_of_methodNamed B.named
  refine body p e s m _ below meth c (F s.heap.size) _ _ B.exec B.bytes hml hown (atoms_spec (ws := wy) B.pre) hK hN hX (fun q h => hF _ q h) rfl hO va_S.rf hl ?_
  intro H locs pc ls v u h01 hp hO hS hdg
  exact W.zret (v := v) (ty := .boolean) B.exec B.bytes (hret ▸ B.returns) (by rcases h01 with h | h <;> (rw [h]; rfl)) (fun t ht hW => ⟨⟨v, u, rfl, hp, by rw [ht]; exact hO, va_K.moved hW.alike hK⟩, hS.F ht⟩) hS.2.2 hdg B.notSynchronized
end LEF
/-! p35: the law's small methods -/
abbrev rmL_at : Room := { frames := 0, cells := 0, slots := 0, locals := 0 }
set_option maxHeartbeats 8000000 in
set_option maxRecDepth 100000 in
theorem c_L_at (l : Launch) (D : va_G) (cI cJ cC cL : ClassId) (b L : Nat) (xs : Nat → Int32) (hL : L < 2 ^ 31) (k : Nat) (hk0 : k < 2 ^ 31) (sz : Nat) : Met l yL_at wsL_at rmL_at (va_Pc [.ref b, .int (nI k)] (lpre (XScr b L xs) D (tyL cI cJ cC cL) oT (fT0) sz)) (va_Qi (S := Unit) (fun r _ => r = atv L xs k) (fun uu t => lpost D (tyL cI cJ cC cL) ((fun _ => oT) uu) (fT0 sz) t) (fT0 sz)) 0 0 (fT0 sz) := by
  refine lE_i (y := yL_at) (wy := wsL_at) (X := (XScr b L xs)) (O := oT) (σ := Unit) (O' := (fun _ => oT)) (F := fT0) (cc := cL_at) (maxL := 2) (own := RL) (ret := some .int) (lv0 := [(0, .ref b), (1, .int (nI k))]) (by decide) rfl rfl rfl (Nat.le_of_ble_eq_true rfl) rfl (fun z q h => h) ?_
  intro p e s m args below meth c A Q ls hx hb hml hown hts hK hN hX hA hAe hO hS hl hRet
  have hF : CallFix p m c cL_at 2 s args wsL_at RL := ⟨hx, hb, hml, hown, hts⟩
  refine lv_iload_n hx hb dL_at_0 rfl (lv_at hl 1 rfl) ?_
  refine lv_aload_n hx hb dL_at_1 rfl (lv_at hl 0 rfl) ?_
  refine va_slen hx hb hX.1 hX.2.1 hX.2.2 hS dL_at_2 ?_
  refine lv_icmp_ge (tgt := 12) hx hb dL_at_3 (by decide) (fun hc => ?_) (fun hc => ?_)
  · refine lv_iconst (v := nI 0) hx hb dL_at_12 (by decide) ?_
    exact hRet () (by unfold atv; rw [if_neg (fun h => nI_ge h (by omega) hc)]) trivial hS dL_at_13
  · have hkL : k < L := Nat.not_le.mp fun h => hc (nI_le h (by omega))
    refine lv_aload_n hx hb dL_at_6 rfl (lv_at hl 0 rfl) ?_
    refine lv_iload_n hx hb dL_at_7 rfl (lv_at hl 1 rfl) ?_
    refine va_sld hx hb hX.1 hX.2.1 hX.2.2 hS (nI_in hkL (by omega)) dL_at_8 ?_
    refine lv_goto (tgt := 13) hx hb dL_at_9 (by decide) ?_
    exact hRet () (by unfold atv; rw [if_pos hkL, nI_clamp (by omega)]) trivial hS dL_at_13

abbrev rmL_some : Room := { frames := 0, cells := 0, slots := 0, locals := 0 }
set_option maxHeartbeats 8000000 in
set_option maxRecDepth 100000 in
theorem c_L_some (l : Launch) (D : va_G) (cI cJ cC cL : ClassId) (v0 v1 : Int32) (sz : Nat) (hne : ¬ v1 = 0) : Met l yL_some wsL_some rmL_some (va_Pc [.int v0, .int v1] (lpre XT D (tyL cI cJ cC cL) oT (fT0) sz)) (va_Qi (S := Unit) (fun r _ => r = smv v0 v1) (fun uu t => lpost D (tyL cI cJ cC cL) ((fun _ => oT) uu) (fT0 sz) t) (fT0 sz)) 0 0 (fT0 sz) := by
  refine lE_i (y := yL_some) (wy := wsL_some) (X := XT) (O := oT) (σ := Unit) (O' := (fun _ => oT)) (F := fT0) (cc := cL_some) (maxL := 3) (own := RL) (ret := some .int) (lv0 := [(0, .int v0), (1, .int v1)]) (by decide) rfl rfl rfl (Nat.le_of_ble_eq_true rfl) rfl (fun z q h => h) ?_
  intro p e s m args below meth c A Q ls hx hb hml hown hts hK hN hX hA hAe hO hS hl hRet
  have hF : CallFix p m c cL_some 3 s args wsL_some RL := ⟨hx, hb, hml, hown, hts⟩
  refine lv_iload_n hx hb dL_some_0 rfl (lv_at hl 0 rfl) ?_
  refine lv_iload_n hx hb dL_some_1 rfl (lv_at hl 1 rfl) ?_
  refine lv_irem hx hb dL_some_2 hne ?_
  refine lv_istore_n (lv' := [(2, .int (v0 - v0 / v1 * v1)), (0, .int v0), (1, .int v1)]) hx hb dL_some_3 rfl hl (by decide) rfl (fun ls hl => ?_)
  refine lv_iload_n hx hb dL_some_4 rfl (lv_at hl 0 rfl) ?_
  refine lv_if_ge (tgt := 14) hx hb dL_some_5 (by decide) (fun hc => ?_) (fun hc => ?_)
  · refine lv_iload_n hx hb dL_some_14 rfl (lv_at hl 0 rfl) ?_
    exact hRet () (by unfold smv; rw [if_pos hc]) trivial hS dL_some_15
  · refine lv_iload_n hx hb dL_some_8 rfl (lv_at hl 0 rfl) ?_
    refine lv_iload_n hx hb dL_some_9 rfl (lv_at hl 2 rfl) ?_
    refine lv_iadd hx hb dL_some_10 ?_
    refine lv_goto (tgt := 15) hx hb dL_some_11 (by decide) ?_
    exact hRet () (by unfold smv; rw [if_neg hc]) trivial hS dL_some_15

abbrev rmJxe99ae_isNaN_b9ae7 : Room := { frames := 0, cells := 0, slots := 0, locals := 0 }
set_option maxHeartbeats 8000000 in
set_option maxRecDepth 100000 in
theorem c_Jxe99ae_isNaN_b9ae7 (l : Launch) (D : va_G) (cI cJ cC cL : ClassId) (x : UInt64) (sz : Nat) : Met l yJxe99ae_isNaN_b9ae7 wsJxe99ae_isNaN_b9ae7 rmJxe99ae_isNaN_b9ae7 (va_Pc [.double x] (lpre XT D (tyL cI cJ cC cL) oT (fT0) sz)) (va_Qi (S := Unit) (fun r _ => r = isn64 x) (fun uu t => lpost D (tyL cI cJ cC cL) ((fun _ => oT) uu) (fT0 sz) t) (fT0 sz)) 0 0 (fT0 sz) := by
  refine lE_z (y := yJxe99ae_isNaN_b9ae7) (wy := wsJxe99ae_isNaN_b9ae7) (X := XT) (O := oT) (σ := Unit) (O' := (fun _ => oT)) (F := fT0) (cc := cJxe99ae_isNaN_b9ae7) (maxL := 2) (own := RJxe99ae) (ret := some .boolean) (lv0 := [(0, .double x)]) (by decide) rfl rfl rfl (Nat.le_of_ble_eq_true rfl) rfl (fun z q h => h) ?_
  intro p e s m args below meth c A Q ls hx hb hml hown hts hK hN hX hA hAe hO hS hl hRet
  have hF : CallFix p m c cJxe99ae_isNaN_b9ae7 2 s args wsJxe99ae_isNaN_b9ae7 RJxe99ae := ⟨hx, hb, hml, hown, hts⟩
  refine lv_dload_n hx hb dJxe99ae_isNaN_b9ae7_0 rfl (lv_at hl 0 rfl) ?_
  refine lv_dload_n hx hb dJxe99ae_isNaN_b9ae7_1 rfl (lv_at hl 0 rfl) ?_
  refine lv_dcmp hx hb dJxe99ae_isNaN_b9ae7_2 ?_
  refine lv_if_eq (tgt := 10) hx hb dJxe99ae_isNaN_b9ae7_3 (by decide) (fun hc => ?_) (fun hc => ?_)
  · refine lv_iconst (v := nI 0) hx hb dJxe99ae_isNaN_b9ae7_10 (by decide) ?_
    exact hRet () (Or.inl rfl) (by unfold isn64; rw [if_pos hc]) trivial hS dJxe99ae_isNaN_b9ae7_11
  · refine lv_iconst (v := nI 1) hx hb dJxe99ae_isNaN_b9ae7_6 (by decide) ?_
    refine lv_goto (tgt := 11) hx hb dJxe99ae_isNaN_b9ae7_7 (by decide) ?_
    exact hRet () (Or.inr rfl) (by unfold isn64; rw [if_neg hc]) trivial hS dJxe99ae_isNaN_b9ae7_11

abbrev rmJxf58ca_isNaN_12338 : Room := { frames := 0, cells := 0, slots := 0, locals := 0 }
set_option maxHeartbeats 8000000 in
set_option maxRecDepth 100000 in
theorem c_Jxf58ca_isNaN_12338 (l : Launch) (D : va_G) (cI cJ cC cL : ClassId) (x : UInt32) (sz : Nat) : Met l yJxf58ca_isNaN_12338 wsJxf58ca_isNaN_12338 rmJxf58ca_isNaN_12338 (va_Pc [.float x] (lpre XT D (tyL cI cJ cC cL) oT (fT0) sz)) (va_Qi (S := Unit) (fun r _ => r = isn32 x) (fun uu t => lpost D (tyL cI cJ cC cL) ((fun _ => oT) uu) (fT0 sz) t) (fT0 sz)) 0 0 (fT0 sz) := by
  refine lE_zF (y := yJxf58ca_isNaN_12338) (wy := wsJxf58ca_isNaN_12338) (X := XT) (O := oT) (σ := Unit) (O' := (fun _ => oT)) (F := fT0) (cc := cJxf58ca_isNaN_12338) (maxL := 1) (own := RJxf58ca) (ret := some .boolean) (lv0 := [(0, .float x)]) (by decide +kernel) rfl rfl rfl (Nat.le_of_ble_eq_true rfl) rfl (fun z q h => h) ?_
  intro p e s m args below meth c A Q ls hx hb hml hown hts hK hN hX hA hAe hO hS hl hRet
  have hF : CallFix p m c cJxf58ca_isNaN_12338 1 s args wsJxf58ca_isNaN_12338 RJxf58ca := ⟨hx, hb, hml, hown, hts⟩
  refine lv_fload_n hx hb dJxf58ca_isNaN_12338_0 rfl (lv_at hl 0 rfl) ?_
  refine lv_fload_n hx hb dJxf58ca_isNaN_12338_1 rfl (lv_at hl 0 rfl) ?_
  refine lv_fcmp hx hb dJxf58ca_isNaN_12338_2 ?_
  refine lv_if_eq (tgt := 10) hx hb dJxf58ca_isNaN_12338_3 (by decide) (fun hc => ?_) (fun hc => ?_)
  · refine lv_iconst (v := nI 0) hx hb dJxf58ca_isNaN_12338_10 (by decide) ?_
    exact hRet () (Or.inl rfl) (by unfold isn32; rw [if_pos hc]) trivial hS dJxf58ca_isNaN_12338_11
  · refine lv_iconst (v := nI 1) hx hb dJxf58ca_isNaN_12338_6 (by decide) ?_
    refine lv_goto (tgt := 11) hx hb dJxf58ca_isNaN_12338_7 (by decide) ?_
    exact hRet () (Or.inr rfl) (by unfold isn32; rw [if_neg hc]) trivial hS dJxf58ca_isNaN_12338_11

abbrev rmJxe99ae_doubleToLongBits_ccdee : Room := { frames := 1, cells := 0, slots := 0, locals := 40 }
set_option maxHeartbeats 8000000 in
set_option maxRecDepth 100000 in
theorem c_Jxe99ae_doubleToLongBits_ccdee (l : Launch) (D : va_G) (cI cJ cC cL : ClassId) (x : UInt64) (sz : Nat) : Met l yJxe99ae_doubleToLongBits_ccdee wsJxe99ae_doubleToLongBits_ccdee rmJxe99ae_doubleToLongBits_ccdee (va_Pc [.double x] (lpre XT D (tyL cI cJ cC cL) oT (fT0) sz)) (va_Ql (S := Unit) (fun r _ => r = dlb x) (fun uu t => lpost D (tyL cI cJ cC cL) ((fun _ => oT) uu) (fT0 sz) t) (fT0 sz)) 0 0 (fT0 sz) := by
  refine lE_l (y := yJxe99ae_doubleToLongBits_ccdee) (wy := wsJxe99ae_doubleToLongBits_ccdee) (X := XT) (O := oT) (σ := Unit) (O' := (fun _ => oT)) (F := fT0) (cc := cJxe99ae_doubleToLongBits_ccdee) (maxL := 2) (own := RJxe99ae) (ret := some .long) (lv0 := [(0, .double x)]) (by decide) rfl rfl rfl (Nat.le_of_ble_eq_true rfl) rfl (fun z q h => h) ?_
  intro p e s m args below meth c A Q ls hx hb hml hown hts hK hN hX hA hAe hO hS hl hRet
  have hF : CallFix p m c cJxe99ae_doubleToLongBits_ccdee 2 s args wsJxe99ae_doubleToLongBits_ccdee RJxe99ae := ⟨hx, hb, hml, hown, hts⟩
  refine lv_dload_n hx hb dJxe99ae_doubleToLongBits_ccdee_0 rfl (lv_at hl 0 rfl) ?_
  refine lc_i (X := XT) (O := oT) (O' := (fun _ => oT)) (F := fT0) (As := [.double x]) (rest := []) hF (c_Jxe99ae_isNaN_b9ae7 l D cI cJ cC cL x _) (va_cwS 1 hts gJxe99ae_doubleToLongBits_ccdee_Jxe99ae_isNaN_b9ae7 rfl rfl rfl (by decide +kernel) ⟨Nat.le_of_ble_eq_true rfl, Nat.le_of_ble_eq_true rfl⟩) rfl hl rfl (Nat.le_of_ble_eq_true rfl) dJxe99ae_doubleToLongBits_ccdee_1 ⟨Nat.zero_le _, Nat.zero_le _⟩ hK hN (KX_T) (fun _ _ => trivial) trivial hS ((fun q h => hA q (Nat.le_trans hS.1 h))) (fun r u9 H locs hr _ hS hz hk => ?_)
  subst hr
  refine lv_if_ne (tgt := 12) hx hb dJxe99ae_doubleToLongBits_ccdee_4 (by decide) (fun hc => ?_) (fun hc => ?_)
  · refine lv_ldc2 (v := (9221120237041090560 : Int64)) hx hb hown (hts (.constantLong RJxe99ae 137 (9221120237041090560 : Int64)) (by decide +kernel)) dJxe99ae_doubleToLongBits_ccdee_12 ?_
    exact hRet () (by unfold dlb; rw [if_neg hc]) trivial hS dJxe99ae_doubleToLongBits_ccdee_15
  · refine lv_dload_n hx hb dJxe99ae_doubleToLongBits_ccdee_7 rfl (lv_at hl 0 rfl) ?_
    refine vn_d2l hx hb (hml.trans hl.1.symm) hown (hts (.methodLink RJxe99ae 134 ⟨"java/lang/Double", "doubleToRawLongBits", "(D)J"⟩) (by decide +kernel)) (hts (.native ⟨"java/lang/Double", "doubleToRawLongBits", "(D)J"⟩) (by decide +kernel)) (hts (.static ⟨"java/lang/Double", "doubleToRawLongBits", "(D)J"⟩) (by decide +kernel)) (hts (.initialized "java/lang/Double") (by decide +kernel)) (Nat.le_of_ble_eq_true rfl) (Nat.le_of_ble_eq_true rfl) dJxe99ae_doubleToLongBits_ccdee_8 ?_
    exact hRet () (by unfold dlb; rw [if_pos hc]) trivial hS dJxe99ae_doubleToLongBits_ccdee_11

abbrev rmJxf58ca_floatToIntBits_5c35a : Room := { frames := 1, cells := 0, slots := 0, locals := 40 }
set_option maxHeartbeats 8000000 in
set_option maxRecDepth 100000 in
theorem c_Jxf58ca_floatToIntBits_5c35a (l : Launch) (D : va_G) (cI cJ cC cL : ClassId) (x : UInt32) (sz : Nat) : Met l yJxf58ca_floatToIntBits_5c35a wsJxf58ca_floatToIntBits_5c35a rmJxf58ca_floatToIntBits_5c35a (va_Pc [.float x] (lpre XT D (tyL cI cJ cC cL) oT (fT0) sz)) (va_Qi (S := Unit) (fun r _ => r = fib x) (fun uu t => lpost D (tyL cI cJ cC cL) ((fun _ => oT) uu) (fT0 sz) t) (fT0 sz)) 0 0 (fT0 sz) := by
  refine lE_iF (y := yJxf58ca_floatToIntBits_5c35a) (wy := wsJxf58ca_floatToIntBits_5c35a) (X := XT) (O := oT) (σ := Unit) (O' := (fun _ => oT)) (F := fT0) (cc := cJxf58ca_floatToIntBits_5c35a) (maxL := 1) (own := RJxf58ca) (ret := some .int) (lv0 := [(0, .float x)]) (by decide +kernel) rfl rfl rfl (Nat.le_of_ble_eq_true rfl) rfl (fun z q h => h) ?_
  intro p e s m args below meth c A Q ls hx hb hml hown hts hK hN hX hA hAe hO hS hl hRet
  have hF : CallFix p m c cJxf58ca_floatToIntBits_5c35a 1 s args wsJxf58ca_floatToIntBits_5c35a RJxf58ca := ⟨hx, hb, hml, hown, hts⟩
  refine lv_fload_n hx hb dJxf58ca_floatToIntBits_5c35a_0 rfl (lv_at hl 0 rfl) ?_
  refine lc_i (X := XT) (O := oT) (O' := (fun _ => oT)) (F := fT0) (As := [.float x]) (rest := []) hF (c_Jxf58ca_isNaN_12338 l D cI cJ cC cL x _) (va_cwS 1 hts gJxf58ca_floatToIntBits_5c35a_Jxf58ca_isNaN_12338 rfl rfl rfl (by decide +kernel) ⟨Nat.le_of_ble_eq_true rfl, Nat.le_of_ble_eq_true rfl⟩) rfl hl rfl (Nat.le_of_ble_eq_true rfl) dJxf58ca_floatToIntBits_5c35a_1 ⟨Nat.zero_le _, Nat.zero_le _⟩ hK hN (KX_T) (fun _ _ => trivial) trivial hS ((fun q h => hA q (Nat.le_trans hS.1 h))) (fun r u9 H locs hr _ hS hz hk => ?_)
  subst hr
  refine lv_if_ne (tgt := 12) hx hb dJxf58ca_floatToIntBits_5c35a_4 (by decide) (fun hc => ?_) (fun hc => ?_)
  · refine lv_ldc (v := (2143289344 : Int32)) hx hb hown (hts (.constant RJxf58ca 77 (2143289344 : Int32)) (by decide +kernel)) dJxf58ca_floatToIntBits_5c35a_12 ?_
    exact hRet () (by unfold fib; rw [if_neg hc]) trivial hS dJxf58ca_floatToIntBits_5c35a_14
  · refine lv_fload_n hx hb dJxf58ca_floatToIntBits_5c35a_7 rfl (lv_at hl 0 rfl) ?_
    refine vn_f2i hx hb (hml.trans hl.1.symm) hown (hts (.methodLink RJxf58ca 74 ⟨"java/lang/Float", "floatToRawIntBits", "(F)I"⟩) (by decide +kernel)) (hts (.native ⟨"java/lang/Float", "floatToRawIntBits", "(F)I"⟩) (by decide +kernel)) (hts (.static ⟨"java/lang/Float", "floatToRawIntBits", "(F)I"⟩) (by decide +kernel)) (hts (.initialized "java/lang/Float") (by decide +kernel)) (Nat.le_of_ble_eq_true rfl) (Nat.le_of_ble_eq_true rfl) dJxf58ca_floatToIntBits_5c35a_8 ?_
    exact hRet () (by unfold fib; rw [if_pos hc]) trivial hS dJxf58ca_floatToIntBits_5c35a_11


/-! p35: STRINGBUILDER: rows for methods over its two cells -/
theorem start_arr {s : State} {args : Array Value} {ty : FieldType} (h : (Cond.arrayClass ty).before args s = true) : ∃ cA : ClassId, ArrOfT s cA ty ∧ s.vm.findClass ("[" ++ ty.toString) = some cA := by
  obtain ⟨c, k, comp, h1, h2, h3⟩ := Cond.arrayClass_spec (args := args) (first := s) (o := none) (s := s) (idx := []) h
  exact ⟨c, ⟨fun n z => ⟨fun k h => (by cases h), k, h2, comp, h3⟩, h1⟩⟩
abbrev tyB (cI cJ cC cL cB : ClassId) : List (ClassId × FieldType) := [(cI, .int), (cJ, .long), (cC, .char), (cL, .object "LanternLogic$Lanterns"), (cB, .byte)]
abbrev XN : jX := fun A U H => ∃ t1 t2 : Nat, (va_Z "java/lang/Integer" "DigitOnes" "[B" (.ref t1) A U H ∧ va_T .byte t1 100 (fun j => .int (nI (48 + j % 10))) A U H) ∧ va_Z "java/lang/Integer" "DigitTens" "[B" (.ref t2) A U H ∧ va_T .byte t2 100 (fun j => .int (nI (48 + j / 10))) A U H
theorem KX_XN : KX XN := KX_ex fun _ => KX_ex fun _ => KX_and (KX_and KX_Z KX_Tb) (KX_and KX_Z KX_Tb)
abbrev XCl : jX := fun _ U _ => va_Nw (.castable "[B" "java/lang/Cloneable") U
theorem KX_XCl : KX XCl := ⟨fun _ _ _ _ h q => va_Nw.same rfl h q, fun _ _ _ _ h q => va_Nw.warmC h q, fun _ _ _ _ _ q => q, fun _ _ _ _ _ q => q⟩
abbrev XQ : jX := fun A U H => XZ A U H ∧ XN A U H ∧ XCl A U H
theorem KX_XQ : KX XQ := KX_and KX_XZ (KX_and KX_XN KX_XCl)
abbrev XQS (a : Nat) (bs : List Int32) : jX := fun A U H => XQ A U H ∧ isStr a bs A U H
theorem KX_XQS {a : Nat} {bs : List Int32} : KX (XQS a bs) := KX_and KX_XQ KX_isStr
theorem vD_left {A : Nat → Prop} {w1 w2 : va_W} (h : va_D A (w1 ++ w2)) : va_D A w1 := by
  have e : ∀ (i : Nat) (p : Nat × va_E), w1[i]? = some p → (w1 ++ w2)[i]? = some p := fun i p hi => by
    rw [List.getElem?_append_left (List.getElem?_eq_some_iff.mp hi).1]; exact hi
  exact ⟨fun i j p q hi hj hx => h.1 i j p q (e i p hi) (e j q hj) hx, fun k q hk => h.2 k q (e k q hk)⟩
theorem vP_at {w1 w2 : va_W} {k : Nat} {q : Nat × va_E} (h : w2[k]? = some q) : (w1 ++ w2)[w1.length + k]? = some q := by
  rw [List.getElem?_append_right (Nat.le_add_right _ _), Nat.add_sub_cancel_left]; exact h
theorem vD_right {A : Nat → Prop} {w1 w2 : va_W} (h : va_D A (w1 ++ w2)) : va_D A w2 :=
  ⟨fun i j p q hi hj hx => by have := h.1 _ _ p q (vP_at (w1 := w1) hi) (vP_at (w1 := w1) hj) hx; omega, fun k q hk => h.2 _ q (vP_at (w1 := w1) hk)⟩
theorem vP_left {D : va_G} {cl : List vw_C} {w1 w2 : va_W} {H : Heap} (h : va_P D cl (w1 ++ w2) H) : va_P D cl w1 H := fun i p hi => h i p (by
  rw [List.getElem?_append_left (List.getElem?_eq_some_iff.mp hi).1]; exact hi)
theorem vP_right {D : va_G} {cl : List vw_C} {w1 w2 : va_W} {H : Heap} (h : va_P D cl (w1 ++ w2) H) : va_P D cl w2 H := fun _ p hi => h _ p (vP_at (w1 := w1) hi)
theorem vD_swap {A : Nat → Prop} {w1 w2 : va_W} (h : va_D A (w1 ++ w2)) : va_D A (w2 ++ w1) :=
  (vD_right h).app (vD_left h) (fun i j p q hi hj hx => by
    have e : (w1 ++ w2)[j]? = some q := by rw [List.getElem?_append_left (List.getElem?_eq_some_iff.mp hj).1]; exact hj
    have := h.1 _ _ q p e (vP_at (w1 := w1) hi) hx.symm
    have := (List.getElem?_eq_some_iff.mp hj).1
    omega)
theorem vP_swap {D : va_G} {cl : List vw_C} {w1 w2 : va_W} {H : Heap} (h : va_P D cl (w1 ++ w2) H) : va_P D cl (w2 ++ w1) H := (vP_right h).app (vP_left h)
section SBL
variable {p : Program} {l : Launch} {e : Env} {R : Room} {s : State} {m : MethodId} {args : Array Value} {below : List Frame} {meth : Method} {c : Code} {H : Heap} {locs : List Loc} {cells slots : Nat} {Q : State → Prop}
variable {cc : ByteArray} {pc : Nat} {ls : Array Slot} {rest st0 av : List Value} {D : va_G} {A : Nat → Prop} {tys : List (ClassId × FieldType)} {ws wc wr : va_W} {a' : Array Value} {mc ms : Nat} {X : jX}
theorem W_raise {c0 s0 c1 s1 : Nat} {g : JFrame} (hc : c0 ≤ c1) (hs : s0 ≤ s1) (k : W p l e R s m args below meth c H locs c1 s1 Q g) : W p l e R s m args below meth c H locs c0 s0 Q g := W.widen hc hs k
theorem jfree (hD : va_D A (wc ++ wr)) (hS : va_S A s.heap H locs) (hA : ∀ q : Nat, s.heap.size ≤ q → A q) : ∀ q : Nat, va_A wc H.size q → A q := by
  intro q h
  rcases h with ⟨k, e, h⟩ | h
  · exact (vD_left hD).2 k (q, e) h
  · exact hA q (Nat.le_trans hS.1 h)
theorem jfront {w1 : va_W} {H1 : Heap} {t : State} (hP : va_P D vwCl (wc ++ wr) H) (hD : va_D A (wc ++ wr)) (hF : ∀ q : Nat, va_A wc H.size q → A q) (ht : t.heap = H1) (hb : jpost D tys (va_A wc H.size) w1 t) (hk : ∀ q : Nat, q < H.size → ¬ va_A wc H.size q → H1[q]? = H[q]?) : va_P D vwCl (w1 ++ wr) H1 ∧ va_D A (w1 ++ wr) := by
  obtain ⟨hP1, -, hD1⟩ := hb
  rw [ht] at hP1
  have apart : ∀ (k : Nat) (q : Nat × va_E), wr[k]? = some q → q.1 < H.size ∧ ¬ va_A wc H.size q.1 := by
    intro k q hq
    have hl := (hP _ q (vP_at (w1 := wc) hq)).lt
    refine ⟨hl, fun h => ?_⟩
    rcases h with ⟨k2, e, h⟩ | h
    · have h3 : (wc ++ wr)[k2]? = some (q.1, e) := by rw [List.getElem?_append_left (List.getElem?_eq_some_iff.mp h).1]; exact h
      have h4 := hD.1 _ _ q (q.1, e) (vP_at (w1 := wc) hq) h3 rfl
      have := (List.getElem?_eq_some_iff.mp h).1
      omega
    · omega
  refine ⟨hP1.app (fun k q hq => ((vP_right hP) k q hq).kept (hk q.1 (apart k q hq).1 (apart k q hq).2)), (hD1.weaken (fun k q _ h => hF q.1 h)).app (vD_right hD) (fun i j x y hx hy hxy => ?_)⟩
  exact (apart j y hy).2 (by rw [← hxy]; exact hD1.2 i x hx)
theorem jf_v {w1 : (Nat → Nat) → va_W} (hKX : KX X) (hX : X A s s.heap) (hK : va_K D vwCl tys s) (hN : nst s) (hP : va_P D vwCl (wc ++ wr) H) (hD : va_D A (wc ++ wr)) (hS : va_S A s.heap H locs) (hA : ∀ q : Nat, s.heap.size ≤ q → A q)
    (hr : FrameBlind (va_Pc av (jpre X D tys wc H.size)) → (∀ U : State, U.heap = H → s.WarmedH U.vm → va_Pc av (jpre X D tys wc H.size) av.toArray U) → va_Run p l e R s m args below meth c H locs cells slots mc ms (F0 m pc ls st0) rest (va_Qv (fun (_ : Nat → Nat) => True) (fun ad t => jpost D tys (va_A wc H.size) (w1 ad) t) (va_A wc H.size) a') (va_A wc H.size))
    (kk : ∀ (ad : Nat → Nat) (H1 : Heap) (locs1 : List Loc), va_P D vwCl (w1 ad ++ wr) H1 → va_D A (w1 ad ++ wr) → va_S A s.heap H1 locs1 → H.size ≤ H1.size → W p l e R s m args below meth c H1 locs1 (cells + mc) (slots + ms) Q (F0 m (pc + 3) ls rest)) : W p l e R s m args below meth c H locs cells slots Q (F0 m pc ls st0) := by
  have hF := jfree hD hS hA
  refine va_callv (hr (jpre_blind hKX) (jpre_at hKX hX hF hS hK hN (vP_left hP) (vD_left hD))) hS (fun q _ h => hF q h) hF (fun ad t H1 locs1 ht hvm hw hB1 hz hk hS1 => ?_)
  obtain ⟨a1, a2⟩ := jfront hP hD hF ht hB1 hk
  exact kk ad H1 locs1 a1 a2 hS1 hz
theorem jf_u {w1 : va_W} (hKX : KX X) (hX : X A s s.heap) (hK : va_K D vwCl tys s) (hN : nst s) (hP : va_P D vwCl (wc ++ wr) H) (hD : va_D A (wc ++ wr)) (hS : va_S A s.heap H locs) (hA : ∀ q : Nat, s.heap.size ≤ q → A q)
    (hr : FrameBlind (va_Pc av (jpre X D tys wc H.size)) → (∀ U : State, U.heap = H → s.WarmedH U.vm → va_Pc av (jpre X D tys wc H.size) av.toArray U) → va_Run p l e R s m args below meth c H locs cells slots mc ms (F0 m pc ls st0) rest (va_Qv (fun (_ : Unit) => True) (fun _ t => jpost D tys (va_A wc H.size) w1 t) (va_A wc H.size) a') (va_A wc H.size))
    (kk : ∀ (H1 : Heap) (locs1 : List Loc), va_P D vwCl (w1 ++ wr) H1 → va_D A (w1 ++ wr) → va_S A s.heap H1 locs1 → H.size ≤ H1.size → W p l e R s m args below meth c H1 locs1 (cells + mc) (slots + ms) Q (F0 m (pc + 3) ls rest)) : W p l e R s m args below meth c H locs cells slots Q (F0 m pc ls st0) := by
  have hF := jfree hD hS hA
  refine va_callv (hr (jpre_blind hKX) (jpre_at hKX hX hF hS hK hN (vP_left hP) (vD_left hD))) hS (fun q _ h => hF q h) hF (fun u t H1 locs1 ht hvm hw hB1 hz hk hS1 => ?_)
  obtain ⟨a1, a2⟩ := jfront hP hD hF ht hB1 hk
  exact kk H1 locs1 a1 a2 hS1 hz
theorem jf_i {w1 : va_W} {r : Int32} (hKX : KX X) (hX : X A s s.heap) (hK : va_K D vwCl tys s) (hN : nst s) (hP : va_P D vwCl (wc ++ wr) H) (hD : va_D A (wc ++ wr)) (hS : va_S A s.heap H locs) (hA : ∀ q : Nat, s.heap.size ≤ q → A q)
    (hr : FrameBlind (va_Pc av (jpre X D tys wc H.size)) → (∀ U : State, U.heap = H → s.WarmedH U.vm → va_Pc av (jpre X D tys wc H.size) av.toArray U) → va_Run p l e R s m args below meth c H locs cells slots mc ms (F0 m pc ls st0) rest (va_Qi (fun r' (_ : Unit) => r' = r) (fun _ t => jpost D tys (va_A wc H.size) w1 t) (va_A wc H.size) a') (va_A wc H.size))
    (kk : ∀ (H1 : Heap) (locs1 : List Loc), va_P D vwCl (w1 ++ wr) H1 → va_D A (w1 ++ wr) → va_S A s.heap H1 locs1 → H.size ≤ H1.size → W p l e R s m args below meth c H1 locs1 (cells + mc) (slots + ms) Q (F0 m (pc + 3) ls (.int r :: rest))) : W p l e R s m args below meth c H locs cells slots Q (F0 m pc ls st0) := by
  have hF := jfree hD hS hA
  refine va_calli (hr (jpre_blind hKX) (jpre_at hKX hX hF hS hK hN (vP_left hP) (vD_left hD))) hS (fun q _ h => hF q h) hF (fun r' u t H1 locs1 ht hvm hw hB1 hz hk hS1 => ?_)
  have hw : r' = r := hw
  subst hw
  obtain ⟨a1, a2⟩ := jfront hP hD hF ht hB1 hk
  exact kk H1 locs1 a1 a2 hS1 hz
theorem jf_r {w1 : (Nat → Nat) → va_W} {rr : (Nat → Nat) → Nat} (hKX : KX X) (hX : X A s s.heap) (hK : va_K D vwCl tys s) (hN : nst s) (hP : va_P D vwCl (wc ++ wr) H) (hD : va_D A (wc ++ wr)) (hS : va_S A s.heap H locs) (hA : ∀ q : Nat, s.heap.size ≤ q → A q)
    (hr : FrameBlind (va_Pc av (jpre X D tys wc H.size)) → (∀ U : State, U.heap = H → s.WarmedH U.vm → va_Pc av (jpre X D tys wc H.size) av.toArray U) → va_Run p l e R s m args below meth c H locs cells slots mc ms (F0 m pc ls st0) rest (va_Qr (fun (_ : Nat → Nat) => True) (fun ad a t => a = rr ad ∧ jpost D tys (va_A wc H.size) (w1 ad) t) (va_A wc H.size) a') (va_A wc H.size))
    (kk : ∀ (ad : Nat → Nat) (H1 : Heap) (locs1 : List Loc), va_P D vwCl (w1 ad ++ wr) H1 → va_D A (w1 ad ++ wr) → va_S A s.heap H1 locs1 → H.size ≤ H1.size → W p l e R s m args below meth c H1 locs1 (cells + mc) (slots + ms) Q (F0 m (pc + 3) ls (.ref (rr ad) :: rest))) : W p l e R s m args below meth c H locs cells slots Q (F0 m pc ls st0) := by
  have hF := jfree hD hS hA
  refine va_callr (hr (jpre_blind hKX) (jpre_at hKX hX hF hS hK hN (vP_left hP) (vD_left hD))) hS (fun q _ h => hF q h) hF (fun ad ra t H1 locs1 ht hvm hw hB1 hz hk hS1 => ?_)
  obtain ⟨rfl, hB1⟩ := hB1
  obtain ⟨a1, a2⟩ := jfront hP hD hF ht hB1 hk
  exact kk ad H1 locs1 a1 a2 hS1 hz
theorem jE_r {y : MethodName} {ws0 ws' : List Cond} {rm : Room} {maxL : Nat} {own : String} {ret : Option FieldType} {rt : FieldType} {lv0 : List (Nat × Value)} {W0 : va_W} {W1 : (Nat → Nat) → va_W} {rr : (Nat → Nat) → Nat} {sz : Nat}
    (hy : plainName y.cls = true) (hw : ws0 = Cond.code y cc maxL ret :: ws') (hyo : y.cls = own) (hret : ret = some rt) (hrt : (∃ n, rt = .object n) ∨ ∃ t, rt = .array t) (hal : (lg_sl av).length ≤ maxL) (hlv : lv_args 0 av = lv0)
    (body : ∀ p e s m args below meth c A Q ls, p.tables.exec = Jvm.exec → c.code = cc → c.maxLocals = maxL → s.vm.findClass own = some m.cls → (∀ w ∈ ws0, w.before args s = true) → va_K D vwCl tys s → nst s → X A s s.heap → (∀ q : Nat, s.heap.size ≤ q → A q) → va_P D vwCl W0 s.heap → va_D A W0 → va_S A s.heap s.heap [] → lv_has ls maxL lv0 →
      (∀ {H : Heap} {locs : List Loc} {pc : Nat} {ls : Array Slot} (ad : Nat → Nat), va_P D vwCl (W1 ad) H → va_D A (W1 ad) → va_S A s.heap H locs → decode cc pc = .ok (.areturn, 1) → W p l e rm s m args below meth c H locs mc ms Q (F0 m pc ls [.ref (rr ad)])) →
      W p l e rm s m args below meth c s.heap [] 0 0 Q (F0 m 0 ls [])) :
    Met l y ws0 rm (va_Pc av (jpre X D tys W0 sz)) (va_Qr (fun (_ : Nat → Nat) => True) (fun ad a t => a = rr ad ∧ jpost D tys (va_A W0 sz) (W1 ad) t) (va_A W0 sz)) mc ms (va_A W0 sz) := by
  refine Met.ofW (cc := cc) (maxL := maxL) (ret := ret) hy hw ?_
  intro p e s m args below meth c s₁ B hml hv
  obtain ⟨rfl, hsz, hP, hK, hD0, hN, hX⟩ := hv
  subst hsz
  have hl := lv_entry av hal
  rw [hlv] at hl
  rw [lg_entry_eq]
  have hown : s.vm.findClass own = some m.cls := hyo ▸ findClass_of_methodNamed B.named
  refine body p e s m _ below meth c (va_A W0 s.heap.size) _ _ B.exec B.bytes hml hown (atoms_spec (ws := ws0) B.pre) hK hN hX (fun q h => Or.inr h) hP hD0.self va_S.rf hl ?_
  intro H locs pc ls ad hP hD hS hdg
  exact W.aret (v := .ref (rr ad)) (rt := rt) B.exec B.bytes (hret ▸ B.returns) hrt (Or.inr ⟨_, rfl⟩) (fun t ht hW => ⟨⟨ad, rr ad, rfl, trivial, rfl, by rw [ht]; exact hP, va_K.moved hW.alike hK, hD⟩, hS.F ht⟩) hS.2.2 hdg B.notSynchronized
end SBL
section SBJ
variable {p : Program} {l : Launch} {e : Env} {R : Room} {s : State} {m : MethodId} {args : Array Value} {below : List Frame} {meth : Method} {c : Code} {H : Heap} {locs : List Loc} {cells slots : Nat} {Q : State → Prop}
variable {y : MethodName} {bytes cc : ByteArray} {maxL nL n index : Nat} {ret : Option FieldType} {wy : List Cond} {rm : Room} {Ts : List Cond} {own : String} {As rest st0 : List Value} {pc : Nat} {ls : Array Slot} {lv : List (Nat × Value)} {D : va_G} {A : Nat → Prop} {tys : List (ClassId × FieldType)}
theorem jpS_v {X : jX} (S : CallFix p m c cc nL s args Ts own) (hM : Met l y wy rm (va_Pc As (jpre X D tys [] H.size)) (va_Qv (fun (_ : Unit) => True) (fun _ t => jpost D tys (va_A [] H.size) [] t) (va_A [] H.size)) 0 0 (va_A [] H.size))
    (cw : CallB R s args own index y bytes maxL ret wy rm 0 0 n ∧ (Cond.static y).before args s = true) (hn : As.length = n) (hls : lv_has ls nL lv) (hst : st0 = As.reverse ++ rest) (hW : (rest.map fun v => v.category).sum ≤ 8) (hdg : decode cc pc = .ok (.invokestatic index, 3)) (hf : cells ≤ R.cells ∧ slots ≤ R.slots)
    (hK : va_K D vwCl tys s) (hN : nst s) (hKX : KX X) (hXc : ∀ U : State, s.WarmedH U.vm → X (va_A [] H.size) U H) (hS : va_S A s.heap H locs) (hA : ∀ q : Nat, s.heap.size ≤ q → A q)
    (kk : ∀ (H1 : Heap) (locs1 : List Loc), va_S A s.heap H1 locs1 → H.size ≤ H1.size → (∀ q : Nat, q < H.size → H1[q]? = H[q]?) → W p l e R s m args below meth c H1 locs1 cells slots Q (F0 m (pc + 3) ls rest)) : W p l e R s m args below meth c H locs cells slots Q (F0 m pc ls st0) := by
  subst hst
  have hF : ∀ q : Nat, va_A [] H.size q → A q := fun q h => hA q (Nat.le_trans hS.1 (free0 h))
  have h0 : va_P D vwCl [] H := fun k q h => by simp at h
  have hD0 : va_D (fun _ => True) [] := ⟨fun i j p q h => by simp at h, fun k q h => by simp at h⟩
  refine va_callv (va_runS (As := As) (rest := rest) S hM cw ⟨jpre_blind hKX, fun U hU hW => ⟨rfl, by rw [hU], by rw [hU]; exact h0, va_K.moved hW.alike hK, hD0, nst_warm hW hN, by rw [hU]; exact hXc U hW⟩⟩ rfl hn hls.1 rfl (lv_room hW) hdg hf) hS (fun q _ h => hF q h) hF (fun u t H1 locs1 ht hvm hw hB1 hz hk hS1 => ?_)
  exact kk H1 locs1 hS1 hz (fun q hq => hk q hq (fun h => absurd (free0 h) (Nat.not_le.mpr hq)))
end SBJ
/-- an array's cell looks at its own places alone -/
theorem vP_int {D : va_G} {cl : List vw_C} {ws : va_W} {H : Heap} {cA : ClassId} {n q k : Nat} {f g : Nat → Int32} (h : va_P D cl ws H) (hk : ws[k]? = some (q, .inl (cA, n, .inl f))) (hfg : ∀ i, i < n → f i = g i) : va_P D cl (ws.set k (q, .inl (cA, n, .inl g))) H := by
  intro j x hx
  by_cases e : j = k
  · subst e
    rw [List.getElem?_set_self (List.getElem?_eq_some_iff.mp hk).1] at hx
    cases hx
    have h0 := h j _ hk
    have h1 : H[q]? = some (vp_cell cA (n, .inl f)) := h0
    show H[q]? = some (vp_cell cA (n, .inl g))
    rw [h1]
    show some (arrV cA n (fun j => .int (f j))) = some (arrV cA n (fun j => .int (g j)))
    unfold arrV
    congr 2
    congr 1
    funext j
    show Value.int (f j.val) = Value.int (g j.val)
    rw [hfg j.val j.isLt]
  · rw [List.getElem?_set_ne (Ne.symm e)] at hx
    exact h j x hx
/-- the digits of a number below a hundred -/
def dgl (k : Nat) : Nat := if k ≤ 9 then 1 else 2
def dgs (k : Nat) : List Nat := if k ≤ 9 then [48 + k] else [48 + k / 10, 48 + k % 10]
def dgf (f : Nat → Int32) (m k : Nat) : Nat → Int32 := if k ≤ 9 then upd f (m - 1) (nI (48 + k % 10)) else upd (upd f (m - 1) (nI (48 + k % 10))) (m - 2) (nI (48 + k / 10))
theorem dgl_le (k : Nat) : 1 ≤ dgl k ∧ dgl k ≤ 2 := by unfold dgl; split <;> omega
theorem bq_size : ∀ k, k < 100 → J_J6_stringSize_0f7a4 (nI k) = some (nI (dgl k)) := by decide +kernel
theorem bq_len : ∀ n, n < 17 → J_J7_checkLength_df160 (nI 0) (nI n) = some () := by decide +kernel
theorem bq_min : ∀ n, n < 17 → (if nI n < nI 16 then nI n else nI 16) = nI n := by decide +kernel
theorem bq_cap : ∀ n, n < 17 → nI n - nI 16 >>> (0 &&& 31) ≤ 0 := by decide +kernel
theorem bq_nar : ∀ j, j < 128 → vp_nar .byte (nI j) = nI j := by decide +kernel
theorem bq_fit : ∀ j, j < 128 → fits .byte (.int (nI j)) = true := by decide +kernel
theorem bq_sub0 (x : Int32) : x - nI 0 = x := by rw [nI_0]; exact Int32.sub_zero x
theorem bq_shl0 (x : Int32) : x <<< (nI 0 &&& 31) = x := by
  have e : nI 0 &&& 31 = 0 := by decide +kernel
  rw [e]; exact Int32.shiftLeft_zero
theorem bq_neg2 (x : Int32) : - -x = x := Int32.neg_neg
theorem bq_100 : ∀ k, k < 100 → -nI 100 < -nI k := by decide +kernel
theorem bq_9t : ∀ k, k < 10 → -nI 9 ≤ -nI k := by decide +kernel
theorem bq_9f : ∀ k, k < 100 → 9 < k → ¬ -nI 9 ≤ -nI k := by decide +kernel
theorem bq_dec {m : Nat} (h : 0 < m) : nI m + Int32.ofInt (-1) = nI (m - 1) := by
  obtain ⟨k, rfl⟩ : ∃ k, m = k + 1 := ⟨m - 1, by omega⟩
  rw [oi_m1, ← Int32.sub_eq_add_neg, Nat.add_sub_cancel]
  exact nI_pred k
/-- the builder's text -/
def BT (f : Nat → Int32) (n : Nat) (ws : List Nat) : Prop := ws.length = n ∧ (∀ c ∈ ws, 32 ≤ c ∧ c ≤ 126) ∧ (∀ j, j < n → f j = nI (ws.getD j 0)) ∧ ∀ j, fits .byte (.int (f j)) = true
theorem BT_0 : BT (fun _ => 0) 0 [] := ⟨rfl, fun c h => (by cases h), fun j h => absurd h (Nat.not_lt_zero j), fun _ => rfl⟩
theorem fits_upd {f : Nat → Int32} (h : ∀ j, fits .byte (.int (f j)) = true) (i v : Nat) (hv : v < 128) : ∀ j, fits .byte (.int (upd f i (nI v) j)) = true := by
  intro j
  unfold upd
  split
  · exact bq_fit v hv
  · exact h j
theorem getD_nI {cs : List Nat} {j : Nat} (h : j < cs.length) : (cs.map nI).getD j 0 = nI (cs.getD j 0) := by
  simp [List.getD_eq_getElem?_getD, List.getElem?_eq_getElem h]
theorem BT_str {f : Nat → Int32} {n len : Nat} {ws cs : List Nat} (h : BT f n ws) (hl : cs.length = len) (hc : ∀ c ∈ cs, 32 ≤ c ∧ c ≤ 126) : BT (va_cpy (fun j => (cs.map nI).getD j 0) f 0 n len) (n + len) (ws ++ cs) := by
  obtain ⟨h1, h2, h3, h4⟩ := h
  subst hl
  subst h1
  refine ⟨List.length_append, fun c h => (List.mem_append.mp h).elim (h2 c) (hc c), fun j hj => ?_, fun j => ?_⟩
  · unfold va_cpy
    by_cases e : ws.length ≤ j ∧ j < ws.length + cs.length
    · rw [if_pos e, Nat.zero_add]
      show (cs.map nI).getD (j - ws.length) 0 = nI ((ws ++ cs).getD j 0)
      rw [getD_nI (by omega), List.getD_eq_getElem?_getD, List.getD_eq_getElem?_getD, List.getElem?_append_right e.1]
    · rw [if_neg e, h3 j (by omega), List.getD_eq_getElem?_getD, List.getD_eq_getElem?_getD, List.getElem?_append_left (by omega)]
  · unfold va_cpy
    split
    · rename_i e
      rw [Nat.zero_add]
      show fits .byte (.int ((cs.map nI).getD (j - ws.length) 0)) = true
      rw [getD_nI (by omega)]
      refine bq_fit _ ?_
      have := hc (cs.getD (j - ws.length) 0) (by rw [List.getD_eq_getElem?_getD, List.getElem?_eq_getElem (show j - ws.length < cs.length by omega)]; exact List.getElem_mem _)
      omega
    · exact h4 j
theorem BT_int {f : Nat → Int32} {n k : Nat} {ws : List Nat} (h : BT f n ws) (hk : k < 100) : BT (dgf f (n + dgl k) k) (n + dgl k) (ws ++ dgs k) := by
  obtain ⟨h1, h2, h3, h4⟩ := h
  subst h1
  unfold dgf dgl dgs
  by_cases e : k ≤ 9
  · rw [if_pos e, if_pos e, if_pos e]
    refine ⟨List.length_append, fun c h => (List.mem_append.mp h).elim (h2 c) (fun h => ?_), fun j hj => ?_, fits_upd h4 _ _ (by omega)⟩
    · have := List.mem_singleton.mp h
      omega
    · unfold upd
      rw [List.getD_eq_getElem?_getD]
      by_cases ej : j = ws.length
      · subst ej
        rw [if_pos (by omega), List.getElem?_append_right (Nat.le_refl _), Nat.sub_self, show k % 10 = k by omega]
        rfl
      · rw [if_neg (by omega), h3 j (by omega), List.getD_eq_getElem?_getD, List.getElem?_append_left (by omega)]
  · rw [if_neg e, if_neg e, if_neg e]
    refine ⟨List.length_append, fun c h => (List.mem_append.mp h).elim (h2 c) (fun h => ?_), fun j hj => ?_, fits_upd (fits_upd h4 _ _ (by omega)) _ _ (by omega)⟩
    · rcases List.mem_cons.mp h with h | h
      · omega
      · have := List.mem_singleton.mp h
        omega
    · unfold upd
      rw [List.getD_eq_getElem?_getD]
      by_cases ej : j = ws.length
      · subst ej
        rw [if_pos (by omega), List.getElem?_append_right (Nat.le_refl _), Nat.sub_self]
        rfl
      · by_cases ej2 : j = ws.length + 1
        · subst ej2
          rw [if_neg (by omega), if_pos (by omega), List.getElem?_append_right (Nat.le_add_right _ _), Nat.add_sub_cancel_left]
          rfl
        · rw [if_neg (by omega), if_neg (by omega), h3 j (by omega), List.getD_eq_getElem?_getD, List.getElem?_append_left (by omega)]
/-- a new String -/
theorem str_of {args : Array Value} {s : State} {Ts : List Cond} {D : va_G} {tys : List (ClassId × FieldType)} {ws : va_W} {H : Heap} {A : Nat → Prop} {cB : ClassId} {a v i j t n : Nat} {g : Nat → Int32} {bs : List Int32} (hlen : bs.length = n) (hts : ∀ w ∈ Ts, w.before args s = true) (hin : ∀ w ∈ u_ws RJ0 TJ0 4, w ∈ Ts) (hK : va_K D vwCl tys s) (hP : va_P D vwCl ws H) (ha : ws[i]? = some (a, .inr (9, [.ref v, .int 0, .int 0, .int 0]))) (hv : ws[j]? = some (v, .inl (cB, n, .inl g))) (ht : tys[t]? = some (cB, .byte)) (hg : ∀ k, k < n → g k = bs.getD k 0) (hA : ¬ A a) (hAv : ¬ A v) : isStr a bs A s H := by
  subst hlen
  obtain ⟨r, h1, cell, q1, q2, q3, q4⟩ := hP i _ ha
  have hr : r = (RJ0, TJ0, 4) := Option.some.inj (h1.symm.trans rfl)
  subst hr
  obtain ⟨hS, hfc, kC, hkC, hkind⟩ := hK.1 9 _ rfl
  have hfld : ∀ (k : Nat) (w : Value), k < 4 → vp_V [.ref v, .int 0, .int 0, .int 0] k = w → va_OF (TJ0 k).1 (TJ0 k).2.1 (TJ0 k).2.2.1 w a A s H := by
    intro k w hk hw
    obtain ⟨cf, kf, fi, f, hi, hsl⟩ := hS k hk
    refine ⟨cf, kf, fi, f, cell, hi, (u_facts hfc hkC (u_lays hts hin hk) hi).1, q1, (by rw [q3]; exact fun h => (by cases h)), ?_, hA⟩
    rw [hsl, q4 k hk, hw]
  refine ⟨⟨cell, q1, by rw [q3]; rfl, by rw [q2]; exact hfc, hA⟩, hfld 1 _ (by decide) rfl, v, hfld 0 _ (by decide) rfl, ?_⟩
  have hc : H[v]? = some (arrV cB bs.length (fun k => .int (g k))) := hP j _ hv
  refine ⟨_, hc, (hK.2 t _ ht).1 _ _, (fun h => (by cases h)), Nat.le_of_eq (arrV_size _ _ _).symm, ?_, fun k hk => ?_, hAv⟩
  · rw [arrV_size]
  · rw [arrV_read _ _ hk]
    show some (Value.int (g k)) = some (Value.int (bs.getD k 0))
    rw [hg k hk]
theorem BT_new {f : Nat → Int32} {n : Nat} {ws : List Nat} (h : BT f n ws) : ∀ k, k < n → va_cpy f (fun _ => 0) 0 0 n k = (ws.map nI).getD k 0 := fun k hk => by
  unfold va_cpy
  rw [if_pos ⟨Nat.zero_le _, by omega⟩, Nat.zero_add, Nat.sub_zero, h.2.2.1 k hk, getD_nI (by rw [h.1]; exact hk)]
theorem BT_rng {f : Nat → Int32} {n : Nat} {ws : List Nat} (h : BT f n ws) : ∀ i, i < ws.length → 32 ≤ ws.getD i 0 ∧ ws.getD i 0 ≤ 126 := fun i hi =>
  h.2.1 _ (by rw [List.getD_eq_getElem?_getD, List.getElem?_eq_getElem hi]; exact List.getElem_mem _)
theorem K_byte {D : va_G} {cI cJ cC cL cB : ClassId} {s : State} (hK : va_K D vwCl (tyL cI cJ cC cL) s) (h1 : ArrOfT s cB .byte) (h2 : s.vm.findClass ("[" ++ (FieldType.byte).toString) = some cB) : va_K D vwCl (tyB cI cJ cC cL cB) s :=
  show va_K D vwCl (tyL cI cJ cC cL ++ [(cB, .byte)]) s from hK.app ⟨hK.1, fun k x hx => by
    have hz : k < 1 := (List.getElem?_eq_some_iff.mp hx).1
    rw [show k = 0 by omega] at hx
    cases hx
    exact ⟨h1, h2⟩⟩
theorem not_OA {D : va_G} {A : Nat → Prop} {q : Nat} {ax : Nat → Nat} {wc Wd : va_W} {H : Heap} {i : Nat} {x : Nat × va_E} (hP : va_P D vwCl (wc ++ Wd) H) (hD : va_D A (wc ++ Wd)) (had : Wd.map (fun z => z.1) = q :: (List.range 68).map ax) (hx : wc[i]? = some x) : ¬ OA q ax H.size x.1 := fun h => by
  have hi := (List.getElem?_eq_some_iff.mp hx).1
  have e : (wc ++ Wd)[i]? = some x := by rw [List.getElem?_append_left hi]; exact hx
  rcases h with h | h
  · rw [← had] at h
    obtain ⟨y, h1, h2⟩ := List.mem_map.mp h
    obtain ⟨k, h3⟩ := List.mem_iff_getElem?.mp h1
    have := hD.1 _ _ x y e (vP_at (w1 := wc) h3) h2.symm
    omega
  · exact absurd (hP _ _ e).lt (Nat.not_lt.mpr h)

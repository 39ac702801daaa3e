/-! p35: calls with up to 16 slots of stack below, and what they leave unchanged; methods over worlds that are hidden -/
section OLib
variable {p : Program} {l : Launch} {e : Env} {R : Room} {s : State} {m : MethodId} {args : Array Value} {below : List Frame} {meth : Method} {c : Code} {H : Heap} {locs : List Loc} {cells slots : Nat} {Q : State → Prop}
variable {y : MethodName} {bytes cc : ByteArray} {maxL nL mc ms n index : Nat} {ret : Option FieldType} {wy : List Cond} {rm : Room} {Pc : Array Value → State → Prop} {Qc : Array Value → State → Outcome → State → Prop} {free : Addr → Prop} {Ts : List Cond} {own C : String} {b : Addr} {As rest st0 : List Value} {g : JFrame} {pc : Nat} {ls : Array Slot}
theorem oroom {st : List Value} (h : (st.map fun v => v.category).sum ≤ 16) : 2 * (F0 m pc ls rest).monitorRoom + (st.map fun v => v.category).sum ≤ 16 := by
  show 2 * 0 + _ ≤ 16
  omega
theorem oback (cb : CallB R s args own index y bytes maxL ret wy rm mc ms n) (h16 : 16 + (maxL + 11) + rm.locals ≤ R.locals) (hM : Met l y wy rm Pc Qc mc ms free) (hbl : FrameBlind Pc) : Back l R p e below s args y 3 16 (PreOf R mc ms Pc) (PostOf Qc mc ms free) := by
  obtain ⟨k1, k2, k3, -, k5, k6, -, k8, -⟩ := cb
  exact back_of (bytes := bytes) (maxL := maxL) (ret := ret) hM hbl k1 k2 k3 h16 k5 k6 (fun a' U hW => word_at hW (Or.inl (by first | rfl | simp [Cond.onTables, Cond.keeps, Cond.steady])) k8)
/-- a virtual call, sixteen slots below -/
theorem orunV (S : CallFix p m c cc nL s args Ts own) (hM : Met l y wy rm Pc Qc mc ms free) (cw : CallW R s args own C index y bytes maxL ret wy rm mc ms n) (h16 : 16 + (maxL + 11) + rm.locals ≤ R.locals) (hp : PreV s H C b Pc As)
    (hg : g.method = m) (hn : As.length = n) (hsize : g.locals.size = nL) (hstack : g.stack = As.reverse ++ .ref b :: rest) (hW : 2 * g.monitorRoom + (rest.map fun v => v.category).sum ≤ 16) (hdg : decode cc g.pc = .ok (.invokevirtual index, 3)) (hf : cells + mc ≤ R.cells ∧ slots + ms ≤ R.slots) :
    va_Run p l e R s m args below meth c H locs cells slots mc ms g rest (Qc (Value.ref b :: As).toArray) free := by
  have hBk := oback cw.1 h16 hM hp.1 (p := p) (e := e) (below := below)
  obtain ⟨cb, hin, hse⟩ := cw
  obtain ⟨hx, hcc, hml, ho, -⟩ := S
  obtain ⟨-, ⟨cellB, hcB, hoB, hclB⟩, hPc⟩ := hp
  intro T hT X
  obtain ⟨v, vm₁, ⟨U', l2, c2, s2⟩, hW₁, X', ⟨g', mk, t, L, e1, e2, hq, h1, hL, h2, h3⟩, st⟩ := callV X hx (C := C) (bytes := bytes) (maxL := maxL) (ret := ret) ho cb.2.2.2.2.2.2.2.2.2.2 hin hse cb.2.2.2.2.2.2.1 cb.2.2.2.2.2.2.2.2.1 hBk (by rw [hT]; exact hcB) hoB hclB hg (hsize.trans hml.symm) (argsL := As) (rest := rest) (fun sig h => hn.trans (cb.2.2.2.2.2.2.2.2.2.1 sig h)) hstack hW (by rw [hcc]; exact hdg)
    (fun vm₁ hW₁ => ⟨hf.1, hf.2, hPc (T.setVm vm₁) hT hW₁⟩)
  dsimp only [Pt.U, Pt.locs, Pt.cells, Pt.slots] at X' e1 e2 h1 h2 h3 st
  subst h1; subst h2; subst h3
  exact ⟨v, (T.setVm vm₁).calling g' mk (Value.ref b :: As).toArray, t, U', L, hT, X', hL, e1, e2, hq, st⟩
variable {lv : List (Nat × Value)} {D : va_G} {A : Nat → Prop} {tys : List (ClassId × FieldType)} {ws wc w1 wr ws2 : va_W} {isC isR isB : List Nat} {ci q0 N : Nat} {T : u_T} {fs : List Value}
theorem jo_i {X : jX} {r : Int32} (S : CallFix p m c cc nL s args Ts own) (hM : Met l y wy rm (va_Pc (.ref b :: As) (jpre X D tys wc H.size)) (va_Qi (fun r' (_ : Unit) => r' = r) (fun _ t => jpost D tys (va_A wc H.size) w1 t) (va_A wc H.size)) 0 0 (va_A wc H.size))
    (cw : CallW R s args own C index y bytes maxL ret wy rm 0 0 n) (h16 : 16 + (maxL + 11) + rm.locals ≤ R.locals) (hn : As.length = n) (hls : lv_has ls nL lv) (hst : st0 = As.reverse ++ .ref b :: rest) (hW : (rest.map fun v => v.category).sum ≤ 16) (hdg : decode cc pc = .ok (.invokevirtual index, 3)) (hf : cells ≤ R.cells ∧ slots ≤ R.slots)
    (hK : va_K D vwCl tys s) (hN : nst s) (hKX : KX X) (hX : X A s s.heap) (hP : va_P D vwCl ws H) (hD : va_D A ws) (hS : va_S A s.heap H locs) (hA : ∀ q : Nat, s.heap.size ≤ q → A q) (hci : vwCl[ci]? = some (C, T, N)) (hq0 : wc[q0]? = some (b, .inr (ci, fs)))
    (hC : isC.map (fun i => ws[i]?) = wc.map some) (hnC : va_nd isC = true) (hR : isR.map (fun i => ws[i]?) = wr.map some) (hnR : va_nd isR = true) (hdis : ∀ i ∈ isR, i ∉ isC) (hB : isB.map (fun i => (wr ++ w1)[i]?) = ws2.map some) (hnB : va_nd isB = true)
    (kk : ∀ (H1 : Heap) (locs1 : List Loc), va_P D vwCl ws2 H1 → va_D A ws2 → va_S A s.heap H1 locs1 → H.size ≤ H1.size → (∀ q : Nat, q < H.size → ¬ va_A wc H.size q → H1[q]? = H[q]?) → W p l e R s m args below meth c H1 locs1 cells slots Q (F0 m (pc + 3) ls (.int r :: rest))) : W p l e R s m args below meth c H locs cells slots Q (F0 m pc ls st0) := by
  have hPc := hP.sub isC (filterMap_of hC)
  have hDc := hD.sub isC hnC hC
  have hF := va_free hD hS hA isC hC
  subst hst
  refine va_calli (orunV (As := As) (rest := rest) S hM cw h16 ⟨jpre_blind hKX, va_recv hK hPc hci hq0, jpre_at hKX hX hF hS hK hN hPc hDc⟩ rfl hn hls.1 rfl (oroom hW) hdg hf) hS (fun q _ h => hF q h) hF (fun r' u t H1 locs1 ht hvm hw hB1 hz hk hS1 => ?_)
  have hw : r' = r := hw
  subst hw
  obtain ⟨a1, a2⟩ := jback hP hD hS hA hC hR hnR hdis hB hnB ht hB1 hk
  exact kk H1 locs1 a1 a2 hS1 hz hk
theorem jo_d {X : jX} {r : UInt64} (S : CallFix p m c cc nL s args Ts own) (hM : Met l y wy rm (va_Pc (.ref b :: As) (jpre X D tys wc H.size)) (va_Qd (fun r' (_ : Unit) => r' = r) (fun _ t => jpost D tys (va_A wc H.size) w1 t) (va_A wc H.size)) 0 0 (va_A wc H.size))
    (cw : CallW R s args own C index y bytes maxL ret wy rm 0 0 n) (h16 : 16 + (maxL + 11) + rm.locals ≤ R.locals) (hn : As.length = n) (hls : lv_has ls nL lv) (hst : st0 = As.reverse ++ .ref b :: rest) (hW : (rest.map fun v => v.category).sum ≤ 16) (hdg : decode cc pc = .ok (.invokevirtual index, 3)) (hf : cells ≤ R.cells ∧ slots ≤ R.slots)
    (hK : va_K D vwCl tys s) (hN : nst s) (hKX : KX X) (hX : X A s s.heap) (hP : va_P D vwCl ws H) (hD : va_D A ws) (hS : va_S A s.heap H locs) (hA : ∀ q : Nat, s.heap.size ≤ q → A q) (hci : vwCl[ci]? = some (C, T, N)) (hq0 : wc[q0]? = some (b, .inr (ci, fs)))
    (hC : isC.map (fun i => ws[i]?) = wc.map some) (hnC : va_nd isC = true) (hR : isR.map (fun i => ws[i]?) = wr.map some) (hnR : va_nd isR = true) (hdis : ∀ i ∈ isR, i ∉ isC) (hB : isB.map (fun i => (wr ++ w1)[i]?) = ws2.map some) (hnB : va_nd isB = true)
    (kk : ∀ (H1 : Heap) (locs1 : List Loc), va_P D vwCl ws2 H1 → va_D A ws2 → va_S A s.heap H1 locs1 → H.size ≤ H1.size → (∀ q : Nat, q < H.size → ¬ va_A wc H.size q → H1[q]? = H[q]?) → W p l e R s m args below meth c H1 locs1 cells slots Q (F0 m (pc + 3) ls (.double r :: rest))) : W p l e R s m args below meth c H locs cells slots Q (F0 m pc ls st0) := by
  have hPc := hP.sub isC (filterMap_of hC)
  have hDc := hD.sub isC hnC hC
  have hF := va_free hD hS hA isC hC
  subst hst
  refine va_calld (orunV (As := As) (rest := rest) S hM cw h16 ⟨jpre_blind hKX, va_recv hK hPc hci hq0, jpre_at hKX hX hF hS hK hN hPc hDc⟩ rfl hn hls.1 rfl (oroom hW) hdg hf) hS (fun q _ h => hF q h) hF (fun r' u t H1 locs1 ht hvm hw hB1 hz hk hS1 => ?_)
  have hw : r' = r := hw
  subst hw
  obtain ⟨a1, a2⟩ := jback hP hD hS hA hC hR hnR hdis hB hnB ht hB1 hk
  exact kk H1 locs1 a1 a2 hS1 hz hk
theorem jo_f {X : jX} {r : UInt32} (S : CallFix p m c cc nL s args Ts own) (hM : Met l y wy rm (va_Pc (.ref b :: As) (jpre X D tys wc H.size)) (va_Qf (fun r' (_ : Unit) => r' = r) (fun _ t => jpost D tys (va_A wc H.size) w1 t) (va_A wc H.size)) 0 0 (va_A wc H.size))
    (cw : CallW R s args own C index y bytes maxL ret wy rm 0 0 n) (h16 : 16 + (maxL + 11) + rm.locals ≤ R.locals) (hn : As.length = n) (hls : lv_has ls nL lv) (hst : st0 = As.reverse ++ .ref b :: rest) (hW : (rest.map fun v => v.category).sum ≤ 16) (hdg : decode cc pc = .ok (.invokevirtual index, 3)) (hf : cells ≤ R.cells ∧ slots ≤ R.slots)
    (hK : va_K D vwCl tys s) (hN : nst s) (hKX : KX X) (hX : X A s s.heap) (hP : va_P D vwCl ws H) (hD : va_D A ws) (hS : va_S A s.heap H locs) (hA : ∀ q : Nat, s.heap.size ≤ q → A q) (hci : vwCl[ci]? = some (C, T, N)) (hq0 : wc[q0]? = some (b, .inr (ci, fs)))
    (hC : isC.map (fun i => ws[i]?) = wc.map some) (hnC : va_nd isC = true) (hR : isR.map (fun i => ws[i]?) = wr.map some) (hnR : va_nd isR = true) (hdis : ∀ i ∈ isR, i ∉ isC) (hB : isB.map (fun i => (wr ++ w1)[i]?) = ws2.map some) (hnB : va_nd isB = true)
    (kk : ∀ (H1 : Heap) (locs1 : List Loc), va_P D vwCl ws2 H1 → va_D A ws2 → va_S A s.heap H1 locs1 → H.size ≤ H1.size → (∀ q : Nat, q < H.size → ¬ va_A wc H.size q → H1[q]? = H[q]?) → W p l e R s m args below meth c H1 locs1 cells slots Q (F0 m (pc + 3) ls (.float r :: rest))) : W p l e R s m args below meth c H locs cells slots Q (F0 m pc ls st0) := by
  have hPc := hP.sub isC (filterMap_of hC)
  have hDc := hD.sub isC hnC hC
  have hF := va_free hD hS hA isC hC
  subst hst
  refine va_callf (orunV (As := As) (rest := rest) S hM cw h16 ⟨jpre_blind hKX, va_recv hK hPc hci hq0, jpre_at hKX hX hF hS hK hN hPc hDc⟩ rfl hn hls.1 rfl (oroom hW) hdg hf) hS (fun q _ h => hF q h) hF (fun r' u t H1 locs1 ht hvm hw hB1 hz hk hS1 => ?_)
  have hw : r' = r := hw
  subst hw
  obtain ⟨a1, a2⟩ := jback hP hD hS hA hC hR hnR hdis hB hnB ht hB1 hk
  exact kk H1 locs1 a1 a2 hS1 hz hk
/-! ## methods of the law: their worlds are what a predicate says of the heap -/
abbrev oP : Type := (Nat → Prop) → Heap → Prop
def lpre (X : jX) (D : va_G) (tys : List (ClassId × FieldType)) (O : oP) (F : Nat → Nat → Prop) (sz : Nat) (U : State) : Prop := U.heap.size = sz ∧ O (F sz) U.heap ∧ va_K D vwCl tys U ∧ nst U ∧ X (F sz) U U.heap
def lpost (D : va_G) (tys : List (ClassId × FieldType)) (O : oP) (A : Nat → Prop) (t : State) : Prop := O A t.heap ∧ va_K D vwCl tys t
theorem lpre_blind {X : jX} {O : oP} {F : Nat → Nat → Prop} {sz : Nat} {av : List Value} (hKX : KX X) : FrameBlind (va_Pc av (lpre X D tys O F sz)) :=
  fun a U g mk q => by
    obtain ⟨q0, q1, qO, qK, qN, qX⟩ := q
    exact ⟨q0, q1, qO, va_K.moved (u := U) (U := U.calling g mk a) (Vm.Alike.refl U.vm) qK, nst_same (u := U) (U := U.calling g mk a) rfl qN, hKX.1 _ U (U.calling g mk a) _ rfl qX⟩
theorem lpre_at {X : jX} {O : oP} {F : Nat → Nat → Prop} {av : List Value} (hO : O (F H.size) H) (hXc : ∀ U : State, s.WarmedH U.vm → X (F H.size) U H) (hK : va_K D vwCl tys s) (hN : nst s) : ∀ U : State, U.heap = H → s.WarmedH U.vm → va_Pc av (lpre X D tys O F H.size) av.toArray U :=
  fun U hU hW => ⟨rfl, by rw [hU], by rw [hU]; exact hO, va_K.moved hW.alike hK, nst_warm hW hN, by rw [hU]; exact hXc U hW⟩
theorem X_at {X : jX} {B : Nat → Prop} (hKX : KX X) (hX : X A s s.heap) (hS : va_S A s.heap H locs) (hBA : ∀ q, B q → A q) : ∀ U : State, s.WarmedH U.vm → X B U H :=
  fun U hW => hKX.2.1 _ s U H hW (hKX.2.2.2 A _ s H hBA (hKX.2.2.1 A s s.heap H hS.2.1 hX))
section LCall
variable {X : jX} {O : oP} {σ : Type} {O' : σ → oP} {F : Nat → Nat → Prop}
theorem lc_i {post : Int32 → σ → Prop} (S : CallFix p m c cc nL s args Ts own) (hM : Met l y wy rm (va_Pc As (lpre X D tys O F H.size)) (va_Qi post (fun u t => lpost D tys (O' u) (F H.size) t) (F H.size)) mc ms (F H.size))
    (cw : CallB R s args own index y bytes maxL ret wy rm mc ms n ∧ (Cond.static y).before args s = true) (hn : As.length = n) (hls : lv_has ls nL lv) (hst : st0 = As.reverse ++ rest) (hW : (rest.map fun v => v.category).sum ≤ 8) (hdg : decode cc pc = .ok (.invokestatic index, 3)) (hf : cells + mc ≤ R.cells ∧ slots + ms ≤ R.slots)
    (hK : va_K D vwCl tys s) (hN : nst s) (hKX : KX X) (hXc : ∀ U : State, s.WarmedH U.vm → X (F H.size) U H) (hO : O (F H.size) H) (hS : va_S A s.heap H locs) (hFA : ∀ q : Nat, F H.size q → A q)
    (kk : ∀ (r : Int32) (u : σ) (H1 : Heap) (locs1 : List Loc), post r u → O' u (F H.size) H1 → va_S A s.heap H1 locs1 → H.size ≤ H1.size → (∀ q : Nat, q < H.size → ¬ F H.size q → H1[q]? = H[q]?) → W p l e R s m args below meth c H1 locs1 (cells + mc) (slots + ms) Q (F0 m (pc + 3) ls (.int r :: rest))) : W p l e R s m args below meth c H locs cells slots Q (F0 m pc ls st0) := by
  subst hst
  refine va_calli (va_runS (As := As) (rest := rest) S hM cw ⟨lpre_blind hKX, lpre_at hO hXc hK hN⟩ rfl hn hls.1 rfl (lv_room hW) hdg hf) hS (fun q _ h => hFA q h) hFA (fun r u t H1 locs1 ht hvm hw hB1 hz hk hS1 => ?_)
  exact kk r u H1 locs1 hw (ht ▸ hB1.1) hS1 hz hk
theorem lc_l {post : Int64 → σ → Prop} (S : CallFix p m c cc nL s args Ts own) (hM : Met l y wy rm (va_Pc As (lpre X D tys O F H.size)) (va_Ql post (fun u t => lpost D tys (O' u) (F H.size) t) (F H.size)) mc ms (F H.size))
    (cw : CallB R s args own index y bytes maxL ret wy rm mc ms n ∧ (Cond.static y).before args s = true) (hn : As.length = n) (hls : lv_has ls nL lv) (hst : st0 = As.reverse ++ rest) (hW : (rest.map fun v => v.category).sum ≤ 8) (hdg : decode cc pc = .ok (.invokestatic index, 3)) (hf : cells + mc ≤ R.cells ∧ slots + ms ≤ R.slots)
    (hK : va_K D vwCl tys s) (hN : nst s) (hKX : KX X) (hXc : ∀ U : State, s.WarmedH U.vm → X (F H.size) U H) (hO : O (F H.size) H) (hS : va_S A s.heap H locs) (hFA : ∀ q : Nat, F H.size q → A q)
    (kk : ∀ (r : Int64) (u : σ) (H1 : Heap) (locs1 : List Loc), post r u → O' u (F H.size) H1 → va_S A s.heap H1 locs1 → H.size ≤ H1.size → (∀ q : Nat, q < H.size → ¬ F H.size q → H1[q]? = H[q]?) → W p l e R s m args below meth c H1 locs1 (cells + mc) (slots + ms) Q (F0 m (pc + 3) ls (.long r :: rest))) : W p l e R s m args below meth c H locs cells slots Q (F0 m pc ls st0) := by
  subst hst
  refine va_calll (va_runS (As := As) (rest := rest) S hM cw ⟨lpre_blind hKX, lpre_at hO hXc hK hN⟩ rfl hn hls.1 rfl (lv_room hW) hdg hf) hS (fun q _ h => hFA q h) hFA (fun r u t H1 locs1 ht hvm hw hB1 hz hk hS1 => ?_)
  exact kk r u H1 locs1 hw (ht ▸ hB1.1) hS1 hz hk
/-- the entry of a method of the law that answers an int -/
theorem lE_i {ws' : List Cond} {av : List Value} {lv0 : List (Nat × Value)} {sz : Nat} {post : Int32 → σ → Prop}
    (hy : plainName y.cls = true) (hw : wy = Cond.code y cc maxL ret :: ws') (hyo : y.cls = own) (hret : ret = some .int) (hal : (lg_sl av).length ≤ maxL) (hlv : lv_args 0 av = lv0) (hF : ∀ z q : Nat, z ≤ q → F z q)
    (body : ∀ p e s m args below meth c A Q ls, p.tables.exec = Jvm.exec → c.code = cc → c.maxLocals = maxL → s.vm.findClass own = some m.cls → (∀ w ∈ wy, w.before args s = true) → va_K D vwCl tys s → nst s → X A s s.heap → (∀ q : Nat, s.heap.size ≤ q → A q) → A = F s.heap.size → O A s.heap → va_S A s.heap s.heap [] → lv_has ls maxL lv0 →
      (∀ {H : Heap} {locs : List Loc} {pc : Nat} {ls : Array Slot} {v : Int32} (u : σ), post v u → O' u A H → va_S A s.heap H locs → decode cc pc = .ok (.ireturn, 1) → W p l e rm s m args below meth c H locs mc ms Q (F0 m pc ls [.int v])) →
      W p l e rm s m args below meth c s.heap [] 0 0 Q (F0 m 0 ls [])) :
    Met l y wy rm (va_Pc av (lpre X D tys O F sz)) (va_Qi post (fun u t => lpost D tys (O' u) (F sz) t) (F sz)) mc ms (F sz) := by
  refine Met.ofW (cc := cc) (maxL := maxL) (ret := ret) hy hw ?_
  intro p e s m args below meth c s₁ B hml hv
  obtain ⟨rfl, hsz, hO, hK, hN, hX⟩ := hv
  subst hsz
  have hl := lv_entry av hal
  rw [hlv] at hl
  rw [lg_entry_eq]
  have hown : s.vm.findClass own = some m.cls := hyo ▸ findClass_of_methodNamed B.named
  refine body p e s m _ below meth c (F s.heap.size) _ _ B.exec B.bytes hml hown (atoms_spec (ws := wy) B.pre) hK hN hX (fun q h => hF _ q h) rfl hO va_S.rf hl ?_
  intro H locs pc ls v u hp hO hS hdg
  exact W.iret (v := v) B.exec B.bytes (hret ▸ B.returns) (fun t ht hW => ⟨⟨v, u, rfl, hp, by rw [ht]; exact hO, va_K.moved hW.alike hK⟩, hS.F ht⟩) hS.2.2 hdg B.notSynchronized
/-- .. a boolean -/
theorem lE_z {ws' : List Cond} {av : List Value} {lv0 : List (Nat × Value)} {sz : Nat} {post : Int32 → σ → Prop}
    (hy : plainName y.cls = true) (hw : wy = Cond.code y cc maxL ret :: ws') (hyo : y.cls = own) (hret : ret = some .boolean) (hal : (lg_sl av).length ≤ maxL) (hlv : lv_args 0 av = lv0) (hF : ∀ z q : Nat, z ≤ q → F z q)
    (body : ∀ p e s m args below meth c A Q ls, p.tables.exec = Jvm.exec → c.code = cc → c.maxLocals = maxL → s.vm.findClass own = some m.cls → (∀ w ∈ wy, w.before args s = true) → va_K D vwCl tys s → nst s → X A s s.heap → (∀ q : Nat, s.heap.size ≤ q → A q) → A = F s.heap.size → O A s.heap → va_S A s.heap s.heap [] → lv_has ls maxL lv0 →
      (∀ {H : Heap} {locs : List Loc} {pc : Nat} {ls : Array Slot} {v : Int32} (u : σ), (v = 0 ∨ v = 1) → post v u → O' u A H → va_S A s.heap H locs → decode cc pc = .ok (.ireturn, 1) → W p l e rm s m args below meth c H locs mc ms Q (F0 m pc ls [.int v])) →
      W p l e rm s m args below meth c s.heap [] 0 0 Q (F0 m 0 ls [])) :
    Met l y wy rm (va_Pc av (lpre X D tys O F sz)) (va_Qi post (fun u t => lpost D tys (O' u) (F sz) t) (F sz)) mc ms (F sz) := by
  refine Met.ofW (cc := cc) (maxL := maxL) (ret := ret) hy hw ?_
  intro p e s m args below meth c s₁ B hml hv
  obtain ⟨rfl, hsz, hO, hK, hN, hX⟩ := hv
  subst hsz
  have hl := lv_entry av hal
  rw [hlv] at hl
  rw [lg_entry_eq]
  have hown : s.vm.findClass own = some m.cls := hyo ▸ findClass_of_methodNamed B.named
  refine body p e s m _ below meth c (F s.heap.size) _ _ B.exec B.bytes hml hown (atoms_spec (ws := wy) B.pre) hK hN hX (fun q h => hF _ q h) rfl hO va_S.rf hl ?_
  intro H locs pc ls v u h01 hp hO hS hdg
  exact W.zret (v := v) (ty := .boolean) B.exec B.bytes (hret ▸ B.returns) (by rcases h01 with h | h <;> (rw [h]; rfl)) (fun t ht hW => ⟨⟨v, u, rfl, hp, by rw [ht]; exact hO, va_K.moved hW.alike hK⟩, hS.F ht⟩) hS.2.2 hdg B.notSynchronized
/-- .. a long -/
theorem lE_l {ws' : List Cond} {av : List Value} {lv0 : List (Nat × Value)} {sz : Nat} {post : Int64 → σ → Prop}
    (hy : plainName y.cls = true) (hw : wy = Cond.code y cc maxL ret :: ws') (hyo : y.cls = own) (hret : ret = some .long) (hal : (lg_sl av).length ≤ maxL) (hlv : lv_args 0 av = lv0) (hF : ∀ z q : Nat, z ≤ q → F z q)
    (body : ∀ p e s m args below meth c A Q ls, p.tables.exec = Jvm.exec → c.code = cc → c.maxLocals = maxL → s.vm.findClass own = some m.cls → (∀ w ∈ wy, w.before args s = true) → va_K D vwCl tys s → nst s → X A s s.heap → (∀ q : Nat, s.heap.size ≤ q → A q) → A = F s.heap.size → O A s.heap → va_S A s.heap s.heap [] → lv_has ls maxL lv0 →
      (∀ {H : Heap} {locs : List Loc} {pc : Nat} {ls : Array Slot} {v : Int64} (u : σ), post v u → O' u A H → va_S A s.heap H locs → decode cc pc = .ok (.lreturn, 1) → W p l e rm s m args below meth c H locs mc ms Q (F0 m pc ls [.long v])) →
      W p l e rm s m args below meth c s.heap [] 0 0 Q (F0 m 0 ls [])) :
    Met l y wy rm (va_Pc av (lpre X D tys O F sz)) (va_Ql post (fun u t => lpost D tys (O' u) (F sz) t) (F sz)) mc ms (F sz) := by
  refine Met.ofW (cc := cc) (maxL := maxL) (ret := ret) hy hw ?_
  intro p e s m args below meth c s₁ B hml hv
  obtain ⟨rfl, hsz, hO, hK, hN, hX⟩ := hv
  subst hsz
  have hl := lv_entry av hal
  rw [hlv] at hl
  rw [lg_entry_eq]
  have hown : s.vm.findClass own = some m.cls := hyo ▸ findClass_of_methodNamed B.named
  refine body p e s m _ below meth c (F s.heap.size) _ _ B.exec B.bytes hml hown (atoms_spec (ws := wy) B.pre) hK hN hX (fun q h => hF _ q h) rfl hO va_S.rf hl ?_
  intro H locs pc ls v u hp hO hS hdg
  exact W.lret (v := v) B.exec B.bytes (hret ▸ B.returns) (fun t ht hW => ⟨⟨v, u, rfl, hp, by rw [ht]; exact hO, va_K.moved hW.alike hK⟩, hS.F ht⟩) hS.2.2 hdg B.notSynchronized
end LCall
end OLib


/-! constructors: entry and call rows -/
abbrev XAO : jX := fun _ U _ => va_AO "LanternLogic$Lanterns" U
theorem KX_XAO : KX XAO := ⟨fun _ _ _ _ h q => q.moved (jalike_of h), fun _ _ _ _ h q => q.moved h.alike, fun _ _ _ _ _ q => q, fun _ _ _ _ _ q => q⟩
section JCtor
variable {p : Program} {l : Launch} {e : Env} {R : Room} {s : State} {m : MethodId} {args : Array Value} {below : List Frame} {meth : Method} {c : Code} {H : Heap} {locs : List Loc} {cells slots : Nat} {Q : State → Prop}
variable {cc : ByteArray} {pc : Nat} {ls : Array Slot} {rest : List Value} {D : va_G} {A : Nat → Prop} {tys : List (ClassId × FieldType)} {ws : va_W}
theorem jarr_prim {cA cB : ClassId} {ty : FieldType} {t : Nat} (hp : (match ty with | .object _ => false | _ => true) = true) (h2 : va_K D vwCl (tys ++ [(cA, ty)]) s) (h1 : va_K D vwCl tys s) (ht : tys[t]? = some (cB, ty)) : cA = cB := by
  have a2 := (h2.2 tys.length (cA, ty) (by simp)).2
  have a1 := (h1.2 t (cB, ty) ht).2
  have b2 : s.vm.findClass ("[" ++ ty.toString) = some cA := by
    cases ty <;> first | exact a2 | cases hp
  have b1 : s.vm.findClass ("[" ++ ty.toString) = some cB := by
    cases ty <;> first | exact a1 | cases hp
  exact Option.some.inj (b2.symm.trans b1)
theorem jarr_obj {cA cB : ClassId} {C : String} {t : Nat} (h2 : va_K D vwCl (tys ++ [(cA, .object C)]) s) (h1 : va_K D vwCl tys s) (ht : tys[t]? = some (cB, .object C)) : cA = cB := by
  obtain ⟨_, _, _, _, _, b2⟩ := (h2.2 tys.length (cA, .object C) (by simp)).2
  obtain ⟨_, _, _, _, _, b1⟩ := (h1.2 t (cB, .object C) ht).2
  exact Option.some.inj (b2.symm.trans b1)
theorem jE_init {X : jX} {y : MethodName} {ws0 ws' : List Cond} {rm : Room} {maxL : Nat} {own : String} {av : List Value} {lv0 : List (Nat × Value)} {W0 : va_W} {W1 : (Nat → Nat) → va_W} {sz mc ms : Nat}
    (hy : plainName y.cls = true) (hw : ws0 = Cond.code y cc maxL none :: ws') (hyo : y.cls = own) (hyn : y.name = "<init>") (hal : (lg_sl av).length ≤ maxL) (hlv : lv_args 0 av = lv0)
    (body : ∀ p e s m args below meth c A Q ls, p.tables.exec = Jvm.exec → c.code = cc → c.maxLocals = maxL → s.vm.findClass own = some m.cls → (∀ w ∈ ws0, w.before args s = true) → va_K D vwCl tys s → nst s → X A s s.heap → meth.name = "<init>" → (∀ q : Nat, s.heap.size ≤ q → A q) → va_P D vwCl W0 s.heap → va_D A W0 → va_S A s.heap s.heap [] → lv_has ls maxL lv0 →
      (∀ {H : Heap} {locs : List Loc} {pc : Nat} {ls : Array Slot} (ad : Nat → Nat), va_P D vwCl (W1 ad) H → va_D A (W1 ad) → va_S A s.heap H locs → decode cc pc = .ok (.return_, 1) → W p l e rm s m args below meth c H locs mc ms Q (F0 m pc ls [])) →
      W p l e rm s m args below meth c s.heap [] 0 0 Q (F0 m 0 ls [])) :
    Met l y ws0 rm (va_Pc av (jpre X D tys W0 sz)) (va_Qv (fun (_ : Nat → Nat) => True) (fun ad t => jpost D tys (va_A W0 sz) (W1 ad) t) (va_A W0 sz)) mc ms (va_A W0 sz) := by
  refine Met.ofW (cc := cc) (maxL := maxL) (ret := none) hy hw ?_
  intro p e s m args below meth c s₁ B hml hv
  obtain ⟨rfl, hsz, hP, hK, hD0, hN, hX⟩ := hv
  subst hsz
  have hl := lv_entry av hal
  rw [hlv] at hl
  rw [lg_entry_eq]
  have hown : s.vm.findClass own = some m.cls := hyo ▸ findClass_of_methodNamed B.named
  have hin : meth.name = "<init>" := hyn ▸ (name_of_methodNamed B.named B.method).1
  refine body p e s m _ below meth c (va_A W0 s.heap.size) _ _ B.exec B.bytes hml hown (atoms_spec (ws := ws0) B.pre) hK hN hX hin (fun q h => Or.inr h) hP hD0.self va_S.rf hl ?_
  intro H locs pc ls ad hP hD hS hdg
  exact W.vret B.exec B.bytes B.returns (fun t ht hW => ⟨⟨ad, rfl, trivial, by rw [ht]; exact hP, va_K.moved hW.alike hK, hD⟩, hS.F ht⟩) hS.2.2 hdg B.notSynchronized
section JCtorC
variable {bytes : ByteArray} {maxL nL n index mc ms : Nat} {wy : List Cond} {rm : Room} {Ts : List Cond} {own : String} {b : Addr} {As : List Value} {st0 : List Value} {lv : List (Nat × Value)} {y : MethodName}
variable {wc wr : va_W} {w1 ws2 : (Nat → Nat) → va_W} {isC isR isB : List Nat}
theorem jcI {X : jX} (S : CallFix p m c cc nL s args Ts own) (hM : Met l y wy rm (va_Pc (.ref b :: As) (jpre X D tys wc H.size)) (va_Qv (fun (_ : Nat → Nat) => True) (fun ad t => jpost D tys (va_A wc H.size) (w1 ad) t) (va_A wc H.size)) mc ms (va_A wc H.size))
    (cw : CallB R s args own index y bytes maxL none wy rm mc ms n ∧ y.name = "<init>" ∧ (Cond.instanceMethod y).before args s = true) (hn : As.length = n) (hls : lv_has ls nL lv) (hst : st0 = As.reverse ++ .ref b :: rest) (hW : (rest.map fun v => v.category).sum ≤ 8) (hdg : decode cc pc = .ok (.invokespecial index, 3)) (hf : cells + mc ≤ R.cells ∧ slots + ms ≤ R.slots)
    (hK : va_K D vwCl tys s) (hN : nst s) (hKX : KX X) (hX : X A s s.heap) (hP : va_P D vwCl ws H) (hD : va_D A ws) (hS : va_S A s.heap H locs) (hA : ∀ q : Nat, s.heap.size ≤ q → A q)
    (hC : isC.map (fun i => ws[i]?) = wc.map some) (hnC : va_nd isC = true) (hR : isR.map (fun i => ws[i]?) = wr.map some) (hnR : va_nd isR = true) (hdis : ∀ i ∈ isR, i ∉ isC) (hB : ∀ ad : Nat → Nat, isB.map (fun i => (wr ++ w1 ad)[i]?) = (ws2 ad).map some) (hnB : va_nd isB = true)
    (kk : ∀ (ad : Nat → Nat) (H1 : Heap) (locs1 : List Loc), va_P D vwCl (ws2 ad) H1 → va_D A (ws2 ad) → va_S A s.heap H1 locs1 → W p l e R s m args below meth c H1 locs1 (cells + mc) (slots + ms) Q (F0 m (pc + 3) ls rest)) : W p l e R s m args below meth c H locs cells slots Q (F0 m pc ls st0) := by
  have hPc := hP.sub isC (filterMap_of hC)
  have hDc := hD.sub isC hnC hC
  have hF := va_free hD hS hA isC hC
  subst hst
  refine va_callv (va_runI (As := As) (rest := rest) S hM cw ⟨jpre_blind hKX, jpre_at hKX hX hF hS hK hN hPc hDc⟩ rfl hn hls.1 rfl (lv_room hW) hdg hf) hS (fun q _ h => hF q h) hF (fun ad t H1 locs1 ht hvm hw hB1 hz hk hS1 => ?_)
  obtain ⟨a1, a2⟩ := jback hP hD hS hA hC hR hnR hdis (hB ad) hnB ht hB1 hk
  exact kk ad H1 locs1 a1 a2 hS1
theorem jcJ {X : jX} {host : String} (S : CallFix p m c cc nL s args Ts own) (hM : Met l y wy rm (va_Pc (.ref b :: As) (jpre X D tys wc H.size)) (va_Qv (fun (_ : Nat → Nat) => True) (fun ad t => jpost D tys (va_A wc H.size) (w1 ad) t) (va_A wc H.size)) mc ms (va_A wc H.size))
    (cw : va_CN R s args own index y host bytes maxL none wy rm mc ms n ∧ y.name = "<init>" ∧ (Cond.instanceMethod y).before args s = true) (hn : As.length = n) (hls : lv_has ls nL lv) (hst : st0 = As.reverse ++ .ref b :: rest) (hW : (rest.map fun v => v.category).sum ≤ 8) (hdg : decode cc pc = .ok (.invokespecial index, 3)) (hf : cells + mc ≤ R.cells ∧ slots + ms ≤ R.slots)
    (hK : va_K D vwCl tys s) (hN : nst s) (hKX : KX X) (hX : X A s s.heap) (hP : va_P D vwCl ws H) (hD : va_D A ws) (hS : va_S A s.heap H locs) (hA : ∀ q : Nat, s.heap.size ≤ q → A q)
    (hC : isC.map (fun i => ws[i]?) = wc.map some) (hnC : va_nd isC = true) (hR : isR.map (fun i => ws[i]?) = wr.map some) (hnR : va_nd isR = true) (hdis : ∀ i ∈ isR, i ∉ isC) (hB : ∀ ad : Nat → Nat, isB.map (fun i => (wr ++ w1 ad)[i]?) = (ws2 ad).map some) (hnB : va_nd isB = true)
    (kk : ∀ (ad : Nat → Nat) (H1 : Heap) (locs1 : List Loc), va_P D vwCl (ws2 ad) H1 → va_D A (ws2 ad) → va_S A s.heap H1 locs1 → W p l e R s m args below meth c H1 locs1 (cells + mc) (slots + ms) Q (F0 m (pc + 3) ls rest)) : W p l e R s m args below meth c H locs cells slots Q (F0 m pc ls st0) := by
  have hPc := hP.sub isC (filterMap_of hC)
  have hDc := hD.sub isC hnC hC
  have hF := va_free hD hS hA isC hC
  subst hst
  refine va_callv (va_runIN (As := As) (rest := rest) S hM cw ⟨jpre_blind hKX, jpre_at hKX hX hF hS hK hN hPc hDc⟩ rfl hn hls.1 rfl (lv_room hW) hdg hf) hS (fun q _ h => hF q h) hF (fun ad t H1 locs1 ht hvm hw hB1 hz hk hS1 => ?_)
  obtain ⟨a1, a2⟩ := jback hP hD hS hA hC hR hnR hdis (hB ad) hnB ht hB1 hk
  exact kk ad H1 locs1 a1 a2 hS1
end JCtorC
theorem vP_row {cA : ClassId} {cl : List vw_C} {n q k : Nat} {f g : Nat → Option Nat} (h : va_P D cl ws H) (hk : ws[k]? = some (q, .inl (cA, n, .inr (.inr (.inr (.inr f)))))) (hfg : ∀ i, i < n → f i = g i) : va_P D cl (ws.set k (q, .inl (cA, n, .inr (.inr (.inr (.inr g)))))) H := by
  intro j x hx
  by_cases e : j = k
  · subst e
    rw [List.getElem?_set_self (List.getElem?_eq_some_iff.mp hk).1] at hx
    cases hx
    have h0 := h j _ hk
    show H[q]? = some (vp_cell cA (n, .inr (.inr (.inr (.inr g)))))
    have h1 : H[q]? = some (vp_cell cA (n, .inr (.inr (.inr (.inr f))))) := h0
    rw [h1]
    show some (arrV cA n (fun j => va_rf (f j))) = some (arrV cA n (fun j => va_rf (g j)))
    unfold arrV
    congr 2
    congr 1
    funext j
    show va_rf (f j.val) = va_rf (g j.val)
    rw [hfg j.val j.isLt]
  · rw [List.getElem?_set_ne (Ne.symm e)] at hx
    exact h j x hx
theorem vD_row {e1 e2 : va_E} {q k : Nat} (h : va_D A ws) (hk : ws[k]? = some (q, e1)) : va_D A (ws.set k (q, e2)) := h.set hk
end JCtor


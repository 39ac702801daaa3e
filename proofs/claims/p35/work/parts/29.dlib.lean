/-! doubles and floats: entry rows, call rows -/
def chd {β : Type} (r : UInt64) (b : Option β) : Option β := if r &&& 0x7fffffffffffffff ≤ 0x7ff0000000000000 then b else none
theorem chd_ok {β : Type} {r : UInt64} {b : Option β} {o : β} (h : chd r b = some o) : vf_n64 r ∧ b = some o := by
  unfold chd at h
  by_cases hc : r &&& 0x7fffffffffffffff ≤ 0x7ff0000000000000
  · rw [if_pos hc] at h; exact ⟨hc, h⟩
  · rw [if_neg hc] at h; cases h
def chf {β : Type} (r : UInt32) (b : Option β) : Option β := if r &&& 0x7fffffff ≤ 0x7f800000 then b else none
theorem chf_ok {β : Type} {r : UInt32} {b : Option β} {o : β} (h : chf r b = some o) : vf_n32 r ∧ b = some o := by
  unfold chf at h
  by_cases hc : r &&& 0x7fffffff ≤ 0x7f800000
  · rw [if_pos hc] at h; exact ⟨hc, h⟩
  · rw [if_neg hc] at h; cases h
theorem chd_go {β : Type} {r : UInt64} {b : Option β} (h : vf_n64 r) : chd r b = b := if_pos h
theorem chf_go {β : Type} {r : UInt32} {b : Option β} (h : vf_n32 r) : chf r b = b := if_pos h
section DLib
variable {p : Program} {l : Launch} {e : Env} {R : Room} {s : State} {m : MethodId} {args : Array Value} {below : List Frame} {meth : Method} {c : Code} {H : Heap} {locs : List Loc} {cells slots : Nat} {Q : State → Prop}
variable {cc : ByteArray} {pc : Nat} {ls : Array Slot} {rest : List Value} {D : va_G} {cl : List vw_C} {A : Nat → Prop} {a : Nat} {tys : List (ClassId × FieldType)} {ws : va_W} {H0 : Heap}
theorem jE_d {X : jX} {y : MethodName} {ws0 ws' : List Cond} {rm : Room} {maxL : Nat} {own : String} {ret : Option FieldType} {av : List Value} {lv0 : List (Nat × Value)} {W0 W1 : va_W} {sz : Nat} {r : UInt64}
    (hy : plainName y.cls = true) (hw : ws0 = Cond.code y cc maxL ret :: ws') (hyo : y.cls = own) (hret : ret = some .double) (hal : (lg_sl av).length ≤ maxL) (hlv : lv_args 0 av = lv0)
    (body : ∀ p e s m args below meth c A Q ls, p.tables.exec = Jvm.exec → c.code = cc → c.maxLocals = maxL → s.vm.findClass own = some m.cls → (∀ w ∈ ws0, w.before args s = true) → va_K D vwCl tys s → nst s → X A s s.heap → (∀ q : Nat, s.heap.size ≤ q → A q) → va_P D vwCl W0 s.heap → va_D A W0 → va_S A s.heap s.heap [] → lv_has ls maxL lv0 →
      (∀ {H : Heap} {locs : List Loc} {pc : Nat} {ls : Array Slot} {v : UInt64}, va_P D vwCl W1 H → va_D A W1 → va_S A s.heap H locs → v = r → decode cc pc = .ok (.dreturn, 1) → W p l e rm s m args below meth c H locs 0 0 Q (F0 m pc ls [.double v])) →
      W p l e rm s m args below meth c s.heap [] 0 0 Q (F0 m 0 ls [])) :
    Met l y ws0 rm (va_Pc av (jpre X D tys W0 sz)) (va_Qd (fun r' (_ : Unit) => r' = r) (fun _ t => jpost D tys (va_A W0 sz) W1 t) (va_A W0 sz)) 0 0 (va_A W0 sz) := by
  refine Met.ofW (cc := cc) (maxL := maxL) (ret := ret) hy hw ?_
  intro p e s m args below meth c s₁ B hml hv
  obtain ⟨rfl, hsz, hP, hK, hD0, hN, hX⟩ := hv
  subst hsz
  have hl := lv_entry av hal
  rw [hlv] at hl
  rw [lg_entry_eq]
  have hown : s.vm.findClass own = some m.cls := hyo ▸ findClass_of_methodNamed B.named
  refine body p e s m _ below meth c (va_A W0 s.heap.size) _ _ B.exec B.bytes hml hown (atoms_spec (ws := ws0) B.pre) hK hN hX (fun q h => Or.inr h) hP hD0.self va_S.rf hl ?_
  intro H locs pc ls v hP hD hS hv hdg
  exact W.dret (v := v) B.exec B.bytes (hret ▸ B.returns) (fun t ht hW => ⟨⟨v, (), rfl, hv, by rw [ht]; exact hP, va_K.moved hW.alike hK, hD⟩, hS.F ht⟩) hS.2.2 hdg B.notSynchronized
theorem jE_f {X : jX} {y : MethodName} {ws0 ws' : List Cond} {rm : Room} {maxL : Nat} {own : String} {ret : Option FieldType} {av : List Value} {lv0 : List (Nat × Value)} {W0 W1 : va_W} {sz : Nat} {r : UInt32}
    (hy : plainName y.cls = true) (hw : ws0 = Cond.code y cc maxL ret :: ws') (hyo : y.cls = own) (hret : ret = some .float) (hal : (lg_sl av).length ≤ maxL) (hlv : lv_args 0 av = lv0)
    (body : ∀ p e s m args below meth c A Q ls, p.tables.exec = Jvm.exec → c.code = cc → c.maxLocals = maxL → s.vm.findClass own = some m.cls → (∀ w ∈ ws0, w.before args s = true) → va_K D vwCl tys s → nst s → X A s s.heap → (∀ q : Nat, s.heap.size ≤ q → A q) → va_P D vwCl W0 s.heap → va_D A W0 → va_S A s.heap s.heap [] → lv_has ls maxL lv0 →
      (∀ {H : Heap} {locs : List Loc} {pc : Nat} {ls : Array Slot} {v : UInt32}, va_P D vwCl W1 H → va_D A W1 → va_S A s.heap H locs → v = r → decode cc pc = .ok (.freturn, 1) → W p l e rm s m args below meth c H locs 0 0 Q (F0 m pc ls [.float v])) →
      W p l e rm s m args below meth c s.heap [] 0 0 Q (F0 m 0 ls [])) :
    Met l y ws0 rm (va_Pc av (jpre X D tys W0 sz)) (va_Qf (fun r' (_ : Unit) => r' = r) (fun _ t => jpost D tys (va_A W0 sz) W1 t) (va_A W0 sz)) 0 0 (va_A W0 sz) := by
  refine Met.ofW (cc := cc) (maxL := maxL) (ret := ret) hy hw ?_
  intro p e s m args below meth c s₁ B hml hv
  obtain ⟨rfl, hsz, hP, hK, hD0, hN, hX⟩ := hv
  subst hsz
  have hl := lv_entry av hal
  rw [hlv] at hl
  rw [lg_entry_eq]
  have hown : s.vm.findClass own = some m.cls := hyo ▸ findClass_of_methodNamed B.named
  refine body p e s m _ below meth c (va_A W0 s.heap.size) _ _ B.exec B.bytes hml hown (atoms_spec (ws := ws0) B.pre) hK hN hX (fun q h => Or.inr h) hP hD0.self va_S.rf hl ?_
  intro H locs pc ls v hP hD hS hv hdg
  exact W.fret (v := v) B.exec B.bytes (hret ▸ B.returns) (fun t ht hW => ⟨⟨v, (), rfl, hv, by rw [ht]; exact hP, va_K.moved hW.alike hK, hD⟩, hS.F ht⟩) hS.2.2 hdg B.notSynchronized
section DCall
variable {bytes : ByteArray} {maxL nL n index : Nat} {ret : Option FieldType} {wy : List Cond} {rm : Room} {Ts : List Cond} {own C : String} {b : Addr} {As : List Value} {st0 : List Value} {lv : List (Nat × Value)} {y : MethodName}
variable {wc w1 wr ws2 : va_W} {isC isR isB : List Nat} {ci q0 N : Nat} {T : u_T} {fs : List Value}
theorem jcV_d {X : jX} {r : UInt64} (S : CallFix p m c cc nL s args Ts own) (hM : Met l y wy rm (va_Pc (.ref b :: As) (jpre X D tys wc H.size)) (va_Qd (fun r' (_ : Unit) => r' = r) (fun _ t => jpost D tys (va_A wc H.size) w1 t) (va_A wc H.size)) 0 0 (va_A wc H.size))
    (cw : CallW R s args own C index y bytes maxL ret wy rm 0 0 n) (hn : As.length = n) (hls : lv_has ls nL lv) (hst : st0 = As.reverse ++ .ref b :: rest) (hW : (rest.map fun v => v.category).sum ≤ 8) (hdg : decode cc pc = .ok (.invokevirtual index, 3)) (hf : cells ≤ R.cells ∧ slots ≤ R.slots)
    (hK : va_K D vwCl tys s) (hN : nst s) (hKX : KX X) (hX : X A s s.heap) (hP : va_P D vwCl ws H) (hD : va_D A ws) (hS : va_S A s.heap H locs) (hA : ∀ q : Nat, s.heap.size ≤ q → A q) (hci : vwCl[ci]? = some (C, T, N)) (hq0 : wc[q0]? = some (b, .inr (ci, fs))) 
    (hC : isC.map (fun i => ws[i]?) = wc.map some) (hnC : va_nd isC = true) (hR : isR.map (fun i => ws[i]?) = wr.map some) (hnR : va_nd isR = true) (hdis : ∀ i ∈ isR, i ∉ isC) (hB : isB.map (fun i => (wr ++ w1)[i]?) = ws2.map some) (hnB : va_nd isB = true)
    (kk : ∀ (H1 : Heap) (locs1 : List Loc), va_P D vwCl ws2 H1 → va_D A ws2 → va_S A s.heap H1 locs1 → W p l e R s m args below meth c H1 locs1 cells slots Q (F0 m (pc + 3) ls (.double r :: rest))) : W p l e R s m args below meth c H locs cells slots Q (F0 m pc ls st0) := by
  have hPc := hP.sub isC (filterMap_of hC)
  have hDc := hD.sub isC hnC hC
  have hF := va_free hD hS hA isC hC
  subst hst
  refine va_calld (va_runV (As := As) (rest := rest) S hM cw ⟨jpre_blind hKX, va_recv hK hPc hci hq0, jpre_at hKX hX hF hS hK hN hPc hDc⟩ rfl hn hls.1 rfl (lv_room hW) hdg hf) hS (fun q _ h => hF q h) hF (fun r' u t H1 locs1 ht hvm hw hB1 hz hk hS1 => ?_)
  have hw : r' = r := hw
  subst hw
  obtain ⟨a1, a2⟩ := jback hP hD hS hA hC hR hnR hdis hB hnB ht hB1 hk
  exact kk H1 locs1 a1 a2 hS1
theorem jcV_f {X : jX} {r : UInt32} (S : CallFix p m c cc nL s args Ts own) (hM : Met l y wy rm (va_Pc (.ref b :: As) (jpre X D tys wc H.size)) (va_Qf (fun r' (_ : Unit) => r' = r) (fun _ t => jpost D tys (va_A wc H.size) w1 t) (va_A wc H.size)) 0 0 (va_A wc H.size))
    (cw : CallW R s args own C index y bytes maxL ret wy rm 0 0 n) (hn : As.length = n) (hls : lv_has ls nL lv) (hst : st0 = As.reverse ++ .ref b :: rest) (hW : (rest.map fun v => v.category).sum ≤ 8) (hdg : decode cc pc = .ok (.invokevirtual index, 3)) (hf : cells ≤ R.cells ∧ slots ≤ R.slots)
    (hK : va_K D vwCl tys s) (hN : nst s) (hKX : KX X) (hX : X A s s.heap) (hP : va_P D vwCl ws H) (hD : va_D A ws) (hS : va_S A s.heap H locs) (hA : ∀ q : Nat, s.heap.size ≤ q → A q) (hci : vwCl[ci]? = some (C, T, N)) (hq0 : wc[q0]? = some (b, .inr (ci, fs))) 
    (hC : isC.map (fun i => ws[i]?) = wc.map some) (hnC : va_nd isC = true) (hR : isR.map (fun i => ws[i]?) = wr.map some) (hnR : va_nd isR = true) (hdis : ∀ i ∈ isR, i ∉ isC) (hB : isB.map (fun i => (wr ++ w1)[i]?) = ws2.map some) (hnB : va_nd isB = true)
    (kk : ∀ (H1 : Heap) (locs1 : List Loc), va_P D vwCl ws2 H1 → va_D A ws2 → va_S A s.heap H1 locs1 → W p l e R s m args below meth c H1 locs1 cells slots Q (F0 m (pc + 3) ls (.float r :: rest))) : W p l e R s m args below meth c H locs cells slots Q (F0 m pc ls st0) := by
  have hPc := hP.sub isC (filterMap_of hC)
  have hDc := hD.sub isC hnC hC
  have hF := va_free hD hS hA isC hC
  subst hst
  refine va_callf (va_runV (As := As) (rest := rest) S hM cw ⟨jpre_blind hKX, va_recv hK hPc hci hq0, jpre_at hKX hX hF hS hK hN hPc hDc⟩ rfl hn hls.1 rfl (lv_room hW) hdg hf) hS (fun q _ h => hF q h) hF (fun r' u t H1 locs1 ht hvm hw hB1 hz hk hS1 => ?_)
  have hw : r' = r := hw
  subst hw
  obtain ⟨a1, a2⟩ := jback hP hD hS hA hC hR hnR hdis hB hnB ht hB1 hk
  exact kk H1 locs1 a1 a2 hS1
end DCall
end DLib

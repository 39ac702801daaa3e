
/-! constructors: entry and call rows -/
abbrev XAO : jX := fun _ U _ => va_AO "LanternLogic$Lanterns" U
theorem KX_XAO : KX XAO := ⟨fun _ _ _ _ h q => q.moved (jalike_of h), fun _ _ _ _ h q => q.moved h.alike, fun _ _ _ _ _ q => q, fun _ _ _ _ _ q => q⟩
def fillv (n : Nat) (v : Int32) (a : Nat → Int32) : Nat → Int32 := fun j => if j < n then v else a j
theorem fill_loop (n : Nat) (hn : n < 2 ^ 31) (v : Int32) (a : Nat → Int32) : ∀ (k nf : Nat) (i : Nat), i + k = n → k < nf → J_J7_fill_53178_L5 n v nf (fillv i v a) (Int32.ofNat i) (Int32.ofNat n) = some (fillv n v a) := by
  intro k
  induction k with
  | zero =>
    intro nf i hi hk
    obtain ⟨m, rfl⟩ : ∃ m, nf = m + 1 := ⟨nf - 1, by omega⟩
    rw [J_J7_fill_53178_L5]
    have e : i = n := by omega
    subst e
    rw [if_pos (nI_le (Nat.le_refl i) hn)]
  | succ k ih =>
    intro nf i hi hk
    obtain ⟨m, rfl⟩ : ∃ m, nf = m + 1 := ⟨nf - 1, by omega⟩
    rw [J_J7_fill_53178_L5]
    rw [if_neg (nI_ge (a := i) (b := n) (by omega) hn)]
    unfold chk
    rw [if_neg (nI_in (by omega) hn)]
    unfold nm
    have e1 : Int32.ofNat i + Int32.ofInt 1 = Int32.ofNat (i + 1) := nI_1 i
    have e2 : upd (fillv i v a) (Int32.ofNat i).toNatClampNeg v = fillv (i + 1) v a := by
      rw [show (Int32.ofNat i).toNatClampNeg = i from nI_clamp (by omega)]
      funext j
      unfold upd fillv
      by_cases h1 : j = i
      · rw [if_pos h1, if_pos (by omega)]
      · rw [if_neg h1]
        by_cases h2 : j < i
        · rw [if_pos h2, if_pos (by omega)]
        · rw [if_neg h2, if_neg (by omega)]
    rw [e1, e2]
    exact ih m (i + 1) (by omega) (by omega)
theorem fill_spec {n : Nat} (hn : n < 1000) (v : Int32) (a : Nat → Int32) : J_J7_fill_53178 n a v = some (fillv n v a) := by
  unfold J_J7_fill_53178
  have h := fill_loop n (by omega) v a n FU 0 (by omega) (by unfold FU; omega)
  have e : fillv 0 v a = a := by funext j; unfold fillv; rw [if_neg (by omega)]
  have e0 : (0 : Int32) = Int32.ofNat 0 := rfl
  rw [e] at h
  rw [e0, h]
section JCtor
variable {p : Program} {l : Launch} {e : Env} {R : Room} {s : State} {m : MethodId} {args : Array Value} {below : List Frame} {meth : Method} {c : Code} {H : Heap} {locs : List Loc} {cells slots : Nat} {Q : State → Prop}
variable {cc : ByteArray} {pc : Nat} {ls : Array Slot} {rest : List Value} {D : va_G} {A : Nat → Prop} {tys : List (ClassId × FieldType)} {ws : va_W}
theorem jarr_prim {cA cB : ClassId} {ty : FieldType} {t : Nat} (hp : (match ty with | .object _ => false | _ => true) = true) (h2 : va_K D vwCl (tys ++ [(cA, ty)]) s) (h1 : va_K D vwCl tys s) (ht : tys[t]? = some (cB, ty)) : cA = cB := by
  have a2 := (h2.2 tys.length (cA, ty) (by simp)).2
  have a1 := (h1.2 t (cB, ty) ht).2
  have b2 : s.vm.findClass ("[" ++ ty.toString) = some cA := by
    cases ty <;> first | exact a2 | cases hp
  have b1 : s.vm.findClass ("[" ++ ty.toString) = some cB := by
    cases ty <;> first | exact a1 | cases hp
  exact Option.some.inj (b2.symm.trans b1)
theorem jarr_obj {cA cB : ClassId} {C : String} {t : Nat} (h2 : va_K D vwCl (tys ++ [(cA, .object C)]) s) (h1 : va_K D vwCl tys s) (ht : tys[t]? = some (cB, .object C)) : cA = cB := by
  obtain ⟨_, _, _, _, _, b2⟩ := (h2.2 tys.length (cA, .object C) (by simp)).2
  obtain ⟨_, _, _, _, _, b1⟩ := (h1.2 t (cB, .object C) ht).2
  exact Option.some.inj (b2.symm.trans b1)
theorem jE_init {X : jX} {y : MethodName} {ws0 ws' : List Cond} {rm : Room} {maxL : Nat} {own : String} {av : List Value} {lv0 : List (Nat × Value)} {W0 : va_W} {W1 : (Nat → Nat) → va_W} {sz mc ms : Nat}
    (hy : plainName y.cls = true) (hw : ws0 = Cond.code y cc maxL none :: ws') (hyo : y.cls = own) (hyn : y.name = "<init>") (hal : (lg_sl av).length ≤ maxL) (hlv : lv_args 0 av = lv0)
    (body : ∀ p e s m args below meth c A Q ls, p.tables.exec = Jvm.exec → c.code = cc → c.maxLocals = maxL → s.vm.findClass own = some m.cls → (∀ w ∈ ws0, w.before args s = true) → va_K D vwCl tys s → nst s → X A s s.heap → meth.name = "<init>" → (∀ q : Nat, s.heap.size ≤ q → A q) → va_P D vwCl W0 s.heap → va_D A W0 → va_S A s.heap s.heap [] → lv_has ls maxL lv0 →
      (∀ {H : Heap} {locs : List Loc} {pc : Nat} {ls : Array Slot} (ad : Nat → Nat), va_P D vwCl (W1 ad) H → va_D A (W1 ad) → va_S A s.heap H locs → decode cc pc = .ok (.return_, 1) → W p l e rm s m args below meth c H locs mc ms Q (F0 m pc ls [])) →
      W p l e rm s m args below meth c s.heap [] 0 0 Q (F0 m 0 ls [])) :
    Met l y ws0 rm (va_Pc av (jpre X D tys W0 sz)) (va_Qv (fun (_ : Nat → Nat) => True) (fun ad t => jpost D tys (va_A W0 sz) (W1 ad) t) (va_A W0 sz)) mc ms (va_A W0 sz) := by
  refine Met.ofW (cc := cc) (maxL := maxL) (ret := none) hy hw ?_
  intro p e s m args below meth c s₁ B hml hv
  obtain ⟨rfl, hsz, hP, hK, hD0, hN, hX⟩ := hv
  subst hsz
  have hl := lv_entry av hal
  rw [hlv] at hl
  rw [lg_entry_eq]
  have hown : s.vm.findClass own = some m.cls := hyo ▸ findClass_of_methodNamed B.named
  have hin : meth.name = "<init>" := hyn ▸ (name_of_methodNamed B.named B.method).1
  refine body p e s m _ below meth c (va_A W0 s.heap.size) _ _ B.exec B.bytes hml hown (atoms_spec (ws := ws0) B.pre) hK hN hX hin (fun q h => Or.inr h) hP hD0.self va_S.rf hl ?_
  intro H locs pc ls ad hP hD hS hdg
  exact W.vret B.exec B.bytes B.returns (fun t ht hW => ⟨⟨ad, rfl, trivial, by rw [ht]; exact hP, va_K.moved hW.alike hK, hD⟩, hS.F ht⟩) hS.2.2 hdg B.notSynchronized
section JCtorC
variable {bytes : ByteArray} {maxL nL n index mc ms : Nat} {wy : List Cond} {rm : Room} {Ts : List Cond} {own : String} {b : Addr} {As : List Value} {st0 : List Value} {lv : List (Nat × Value)} {y : MethodName}
variable {wc wr : va_W} {w1 ws2 : (Nat → Nat) → va_W} {isC isR isB : List Nat}
theorem jcI {X : jX} (S : CallFix p m c cc nL s args Ts own) (hM : Met l y wy rm (va_Pc (.ref b :: As) (jpre X D tys wc H.size)) (va_Qv (fun (_ : Nat → Nat) => True) (fun ad t => jpost D tys (va_A wc H.size) (w1 ad) t) (va_A wc H.size)) mc ms (va_A wc H.size))
    (cw : CallB R s args own index y bytes maxL none wy rm mc ms n ∧ y.name = "<init>" ∧ (Cond.instanceMethod y).before args s = true) (hn : As.length = n) (hls : lv_has ls nL lv) (hst : st0 = As.reverse ++ .ref b :: rest) (hW : (rest.map fun v => v.category).sum ≤ 8) (hdg : decode cc pc = .ok (.invokespecial index, 3)) (hf : cells + mc ≤ R.cells ∧ slots + ms ≤ R.slots)
    (hK : va_K D vwCl tys s) (hN : nst s) (hKX : KX X) (hX : X A s s.heap) (hP : va_P D vwCl ws H) (hD : va_D A ws) (hS : va_S A s.heap H locs) (hA : ∀ q : Nat, s.heap.size ≤ q → A q)
    (hC : isC.map (fun i => ws[i]?) = wc.map some) (hnC : va_nd isC = true) (hR : isR.map (fun i => ws[i]?) = wr.map some) (hnR : va_nd isR = true) (hdis : ∀ i ∈ isR, i ∉ isC) (hB : ∀ ad : Nat → Nat, isB.map (fun i => (wr ++ w1 ad)[i]?) = (ws2 ad).map some) (hnB : va_nd isB = true)
    (kk : ∀ (ad : Nat → Nat) (H1 : Heap) (locs1 : List Loc), va_P D vwCl (ws2 ad) H1 → va_D A (ws2 ad) → va_S A s.heap H1 locs1 → W p l e R s m args below meth c H1 locs1 (cells + mc) (slots + ms) Q (F0 m (pc + 3) ls rest)) : W p l e R s m args below meth c H locs cells slots Q (F0 m pc ls st0) := by
  have hPc := hP.sub isC (filterMap_of hC)
  have hDc := hD.sub isC hnC hC
  have hF := va_free hD hS hA isC hC
  subst hst
  refine va_callv (va_runI (As := As) (rest := rest) S hM cw ⟨jpre_blind hKX, jpre_at hKX hX hF hS hK hN hPc hDc⟩ rfl hn hls.1 rfl (lv_room hW) hdg hf) hS (fun q _ h => hF q h) hF (fun ad t H1 locs1 ht hvm hw hB1 hz hk hS1 => ?_)
  obtain ⟨a1, a2⟩ := jback hP hD hS hA hC hR hnR hdis (hB ad) hnB ht hB1 hk
  exact kk ad H1 locs1 a1 a2 hS1
theorem jcJ {X : jX} {host : String} (S : CallFix p m c cc nL s args Ts own) (hM : Met l y wy rm (va_Pc (.ref b :: As) (jpre X D tys wc H.size)) (va_Qv (fun (_ : Nat → Nat) => True) (fun ad t => jpost D tys (va_A wc H.size) (w1 ad) t) (va_A wc H.size)) mc ms (va_A wc H.size))
    (cw : va_CN R s args own index y host bytes maxL none wy rm mc ms n ∧ y.name = "<init>" ∧ (Cond.instanceMethod y).before args s = true) (hn : As.length = n) (hls : lv_has ls nL lv) (hst : st0 = As.reverse ++ .ref b :: rest) (hW : (rest.map fun v => v.category).sum ≤ 8) (hdg : decode cc pc = .ok (.invokespecial index, 3)) (hf : cells + mc ≤ R.cells ∧ slots + ms ≤ R.slots)
    (hK : va_K D vwCl tys s) (hN : nst s) (hKX : KX X) (hX : X A s s.heap) (hP : va_P D vwCl ws H) (hD : va_D A ws) (hS : va_S A s.heap H locs) (hA : ∀ q : Nat, s.heap.size ≤ q → A q)
    (hC : isC.map (fun i => ws[i]?) = wc.map some) (hnC : va_nd isC = true) (hR : isR.map (fun i => ws[i]?) = wr.map some) (hnR : va_nd isR = true) (hdis : ∀ i ∈ isR, i ∉ isC) (hB : ∀ ad : Nat → Nat, isB.map (fun i => (wr ++ w1 ad)[i]?) = (ws2 ad).map some) (hnB : va_nd isB = true)
    (kk : ∀ (ad : Nat → Nat) (H1 : Heap) (locs1 : List Loc), va_P D vwCl (ws2 ad) H1 → va_D A (ws2 ad) → va_S A s.heap H1 locs1 → W p l e R s m args below meth c H1 locs1 (cells + mc) (slots + ms) Q (F0 m (pc + 3) ls rest)) : W p l e R s m args below meth c H locs cells slots Q (F0 m pc ls st0) := by
  have hPc := hP.sub isC (filterMap_of hC)
  have hDc := hD.sub isC hnC hC
  have hF := va_free hD hS hA isC hC
  subst hst
  refine va_callv (va_runIN (As := As) (rest := rest) S hM cw ⟨jpre_blind hKX, jpre_at hKX hX hF hS hK hN hPc hDc⟩ rfl hn hls.1 rfl (lv_room hW) hdg hf) hS (fun q _ h => hF q h) hF (fun ad t H1 locs1 ht hvm hw hB1 hz hk hS1 => ?_)
  obtain ⟨a1, a2⟩ := jback hP hD hS hA hC hR hnR hdis (hB ad) hnB ht hB1 hk
  exact kk ad H1 locs1 a1 a2 hS1
end JCtorC
theorem vP_row {cA : ClassId} {cl : List vw_C} {n q k : Nat} {f g : Nat → Option Nat} (h : va_P D cl ws H) (hk : ws[k]? = some (q, .inl (cA, n, .inr (.inr (.inr (.inr f)))))) (hfg : ∀ i, i < n → f i = g i) : va_P D cl (ws.set k (q, .inl (cA, n, .inr (.inr (.inr (.inr g)))))) H := by
  intro j x hx
  by_cases e : j = k
  · subst e
    rw [List.getElem?_set_self (List.getElem?_eq_some_iff.mp hk).1] at hx
    cases hx
    have h0 := h j _ hk
    show H[q]? = some (vp_cell cA (n, .inr (.inr (.inr (.inr g)))))
    have h1 : H[q]? = some (vp_cell cA (n, .inr (.inr (.inr (.inr f))))) := h0
    rw [h1]
    show some (arrV cA n (fun j => va_rf (f j))) = some (arrV cA n (fun j => va_rf (g j)))
    unfold arrV
    congr 2
    congr 1
    funext j
    rw [hfg j.val j.isLt]
  · rw [List.getElem?_set_ne (Ne.symm e)] at hx
    exact h j x hx
theorem vD_row {e1 e2 : va_E} {q k : Nat} (h : va_D A ws) (hk : ws[k]? = some (q, e1)) : va_D A (ws.set k (q, e2)) := h.set hk
end JCtor

abbrev rmX0_init : Room := { frames := 1, cells := 1, slots := 16, locals := 12 }
set_option maxHeartbeats 8000000 in
set_option maxRecDepth 100000 in
theorem c_X0_init (l : Launch) (D : va_G) (cI cJ cC cL : ClassId) (q : Nat) (sz : Nat) : Met l yX0_init wsX0_init rmX0_init (va_Pc [.ref q] (jpre XAO D (tyL cI cJ cC cL) [(q, .inr (0, [.null]))] sz)) (va_Qv (fun (_ : Nat → Nat) => True) (fun ad t => jpost D (tyL cI cJ cC cL) (va_A [(q, .inr (0, [.null]))] sz) ((fun ad => [(q, .inr (0, [.ref (ad 0)])), ((ad 0), .inl (cI, 16, .inl (fun _ => 0)))]) ad) t) (va_A [(q, .inr (0, [.null]))] sz)) 1 16 (va_A [(q, .inr (0, [.null]))] sz) := by
  refine jE_init (cc := cX0_init) (maxL := 1) (own := RX0) (lv0 := [(0, .ref q)]) (W1 := (fun ad => [(q, .inr (0, [.ref (ad 0)])), ((ad 0), .inl (cI, 16, .inl (fun _ => 0)))])) (by decide) rfl rfl rfl (Nat.le_of_ble_eq_true rfl) rfl ?_
  intro p e s m args below meth c A Q ls hx hb hml hown hts hK hN hX hin hA hP hD hS hl hRet
  have hF : CallFix p m c cX0_init 1 s args wsX0_init RX0 := ⟨hx, hb, hml, hown, hts⟩
  have fl_9 := hts (.fieldLink RX0 9 "LanternLogic$Depths" "known" "[I") (by decide +kernel)
  have hin_X0 : ∀ w ∈ u_ws RX0 TX0 1, w ∈ wsX0_init := by decide +kernel
  refine lv_aload_n hx hb dX0_init_0 rfl (lv_at hl 0 rfl) ?_
  refine W.objInit hx hb hown (hts (.methodLink RX0 3 objectInit) (by decide +kernel)) (hts (.instanceMethod objectInit) (by decide +kernel)) (hts (.code objectInit ⟨#[0xb1]⟩ 1 none) (by decide +kernel)) rfl (by rw [hml]; exact hl.1) rfl dX0_init_1 (Nat.le_of_ble_eq_true rfl) (Nat.le_of_ble_eq_true rfl) ?_
  refine W.eq (g2 := F0 m 4 _ []) rfl ?_
  refine lv_aload_n hx hb dX0_init_4 rfl (lv_at hl 0 rfl) ?_
  refine lv_bipush (v := (16 : Int32)) hx hb dX0_init_5 (by decide) ?_
  refine va_newa (ty := .int) (N' := 16) (a0 := (16, .inl (fun _ => 0))) hx hb (hts (.arrayClass .int) (by decide +kernel)) rfl hK hP hD hS hA (fun _ => rfl) (by decide) (by decide) (Nat.le_of_ble_eq_true rfl) (Nat.le_of_ble_eq_true rfl) (Nat.le_of_ble_eq_true rfl) dX0_init_7 (fun q7_1 cA H hK2 hP hD hS => ?_)
  have hcA := jarr_prim (t := 0) rfl hK2 hK rfl
  subst hcA
  clear hK2
  have hP : va_P D vwCl [(q, .inr (0, [.null])), (q7_1, .inl (cI, 16, .inl (fun _ => 0)))] H := hP
  have hD : va_D A [(q, .inr (0, [.null])), (q7_1, .inl (cI, 16, .inl (fun _ => 0)))] := hD
  refine va_putF (ci := 0) (v := .ref q7_1) (ty := (.array .int)) (C := RX0) (T := TX0) (N := 1) hx hb hts hin_X0 tyX0 tyX0_ok nmX0 hown hK hP hD hS 0 rfl rfl 0 (by decide) fl_9 (fun _ h9 => h9) rfl hin rfl (by decide +kernel) rfl rfl (Nat.le_of_ble_eq_true rfl) dX0_init_9 (fun H locs hP hD hS => ?_)
  have hP : va_P D vwCl [(q, .inr (0, [.ref q7_1])), (q7_1, .inl (cI, 16, .inl (fun _ => 0)))] H := hP
  have hD : va_D A [(q, .inr (0, [.ref q7_1])), (q7_1, .inl (cI, 16, .inl (fun _ => 0)))] := hD
  obtain ⟨ad, had⟩ : ∃ ad : Nat → Nat, ad = fun i => ([q7_1] : List Nat).getD i 0 := ⟨_, rfl⟩
  have hP9 : va_P D vwCl [(q, .inr (0, [.ref q7_1])), (q7_1, .inl (cI, 16, .inl (fun _ => 0)))] H := hP.sub [0, 1] rfl
  have hD9 : va_D A [(q, .inr (0, [.ref q7_1])), (q7_1, .inl (cI, 16, .inl (fun _ => 0)))] := hD.sub [0, 1] rfl rfl
  exact hRet ad (by rw [had]; exact hP9) (by rw [had]; exact hD9) hS dX0_init_12


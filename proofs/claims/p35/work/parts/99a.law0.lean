/-! p35: THE LAW'S OWN WORDS -/
def smv (v n : Int32) : Int32 := if 0 ≤ v - v / n * n then v - v / n * n else v - v / n * n + n
def atv (L : Nat) (xs : Nat → Int32) (k : Nat) : Int32 := if k < L then xs k else nI 0
def isn64 (x : UInt64) : Int32 := if Op.cmpValue (FP.dcmp x x) .l = 0 then nI 0 else nI 1
def isn32 (x : UInt32) : Int32 := if Op.cmpValue (FP.fcmp x x) .l = 0 then nI 0 else nI 1
def dlb (x : UInt64) : Int64 := if isn64 x = 0 then x.toInt64 else 9221120237041090560
def fib (x : UInt32) : Int32 := if isn32 x = 0 then x.toInt32 else 2143289344
/-- d steps of a loop from i on -/
def lpS (f : Nat → Int64 → Int64) : Nat → Nat → Int64 → Int64
  | 0, _, s => s
  | d + 1, i, s => lpS f d (i + 1) (f i s)
/-- what asks adds for a lantern, and what it answers -/
def fL1 (g : Nat → Nat) (l : Nat) (s : Int64) : Int64 := lpS (fun w s => (31 : Int64) * s + (q_lanternOf g (nI l) (nI w)).toInt64) 8 0 s
def fL2 (g : Nat → Nat) (l : Nat) (s : Int64) : Int64 := lpS (fun p s => (31 : Int64) * s + (q_wireOf g (nI l) (nI p)).toInt64) 3 0 s
def fL3 (g : Nat → Nat) (l : Nat) (s : Int64) : Int64 := (31 : Int64) * ((31 : Int64) * ((31 : Int64) * ((31 : Int64) * ((31 : Int64) * s + (q_leads g (nI l)).toInt64) + (q_depth g (nI l)).toInt64) + (q_depth g (nI l)).toInt64) + (q_switchesOf g (nI l)).toInt64) + (q_flickers g (nI l) (nI 0)).toInt64
def fL4 (g : Nat → Nat) (l : Nat) (s : Int64) : Int64 := (31 : Int64) * ((31 : Int64) * s + (q_table g (nI l)).toInt64) + (q_table g (nI l)).toInt64
def fL5 (g : Nat → Nat) (l : Nat) (s : Int64) : Int64 := lpS (fun i s => (31 : Int64) * s + (q_lampC g l i).toInt64) (q_lampN g l) 0 s
def fL (g : Nat → Nat) (l : Nat) (s : Int64) : Int64 := fL5 g l (fL4 g l (fL3 g l (fL2 g l (fL1 g l s))))
def fZ (g : Nat → Nat) : Int64 := (31 : Int64) * dlb (q_mean g) + (fib (q_glow g)).toInt64
def fA (g : Nat → Nat) (s : Int64) : Int64 := lpS (fun w s => (31 : Int64) * s + (q_account g 0 0 (nI w)).toInt64) 11 0 s
def fT (g : Nat → Nat) (s : Int64) : Int64 := lpS (fun i s => (31 : Int64) * s + (q_tellC g i).toInt64) (q_tellN g) 0 s
def fE (g : Nat → Nat) (s : Int64) : Int64 := (31 : Int64) * ((31 : Int64) * ((31 : Int64) * ((31 : Int64) * ((31 : Int64) * s + (q_looped g).toInt64) + (q_settlesIn g).toInt64) + (q_period g).toInt64) + (q_period g).toInt64) + (nI 1).toInt64
def fAsk (g : Nat → Nat) : Int64 := fE g (fT g (lpS (fL g) (g 0) 0 (fA g (fZ g))))
theorem smv_toInt {v : Int32} {k : Nat} (hk : 0 < k) (hk2 : k < 2 ^ 31) : (v - v / nI k * nI k).toInt = v.toInt.tmod k := by
  have e1 : (nI k).toInt = (k : Int) := nI_toInt hk2
  have hne : nI k ≠ -1 := fun h => by
    have h1 : (nI k).toInt = (-1 : Int32).toInt := by rw [h]
    have h2 : (-1 : Int32).toInt = -1 := by decide
    omega
  have hk0 : (0 : Int) < (k : Int) := by omega
  have b1 := Int.tmod_lt_of_pos v.toInt hk0
  have b2 := Int.lt_tmod_of_pos v.toInt hk0
  rw [Int32.toInt_sub, Int32.toInt_mul, Int32.toInt_div_of_ne_right _ _ hne, e1, Int.sub_bmod_bmod]
  have h3 := Int.tdiv_mul_add_tmod v.toInt k
  rw [show v.toInt - v.toInt.tdiv k * k = v.toInt.tmod k by omega]
  exact Int.bmod_eq_of_le (by omega) (by omega)
theorem smv_of {v n : Int32} {k : Nat} (hk : 0 < k) (hk2 : k < 2 ^ 31) (hn : n = nI k) : ∃ j, j < k ∧ smv v n = nI j := by
  subst hn
  have e1 : (nI k).toInt = (k : Int) := nI_toInt hk2
  have e2 := smv_toInt (v := v) hk hk2
  have hk0 : (0 : Int) < (k : Int) := by omega
  have b1 := Int.tmod_lt_of_pos v.toInt hk0
  have b2 := Int.lt_tmod_of_pos v.toInt hk0
  unfold smv
  by_cases h : 0 ≤ v - v / nI k * nI k
  · rw [if_pos h]
    have h1 : (0 : Int) ≤ (v - v / nI k * nI k).toInt := by
      have := Int32.le_iff_toInt_le.mp h
      simpa using this
    refine ⟨(v - v / nI k * nI k).toInt.toNat, by omega, ?_⟩
    apply Int32.toInt_inj.mp
    rw [nI_toInt (by omega)]
    omega
  · rw [if_neg h]
    have h1 : (v - v / nI k * nI k).toInt < 0 := by
      have := Int32.lt_iff_toInt_lt.mp (Int32.not_le.mp h)
      simpa using this
    have e3 : (v - v / nI k * nI k + nI k).toInt = (v - v / nI k * nI k).toInt + k := by
      rw [Int32.toInt_add, e1]
      exact Int.bmod_eq_of_le (by omega) (by omega)
    refine ⟨(v - v / nI k * nI k + nI k).toInt.toNat, by omega, ?_⟩
    apply Int32.toInt_inj.mp
    rw [nI_toInt (by omega)]
    omega
/-- the script, where the law's methods look -/
abbrev XScr (b L : Nat) (xs : Nat → Int32) : jX := fun A U H => va_X b L xs U H ∧ b < H.size ∧ ¬ A b
theorem KX_Scr {b L : Nat} {xs : Nat → Int32} : KX (XScr b L xs) := ⟨fun _ _ _ _ h q => ⟨q.1.moved (jalike_of h), q.2⟩, fun _ _ _ _ h q => ⟨q.1.moved h.alike, q.2⟩, fun A U H H1 h q => by
  have h1 := h b q.2.1 q.2.2
  refine ⟨q.1.kept h1, ?_, q.2.2⟩
  obtain ⟨scr, h2, -⟩ := q.1
  rw [← h1] at h2
  exact (Array.getElem?_eq_some_iff.mp h2).1, fun A B U H h q => ⟨q.1, q.2.1, fun z => q.2.2 (h _ z)⟩⟩
section Law0
variable {p : Program} {l : Launch} {e : Env} {R : Room} {s : State} {m : MethodId} {args : Array Value} {below : List Frame} {meth : Method} {c : Code} {H : Heap} {locs : List Loc} {cells slots : Nat} {Q : State → Prop}
variable {y : MethodName} {bytes cc : ByteArray} {maxL nL n index : Nat} {ret : Option FieldType} {wy : List Cond} {rm : Room} {Ts : List Cond} {own C : String} {b : Nat} {As rest st0 : List Value} {pc : Nat} {ls : Array Slot} {lv : List (Nat × Value)} {D : va_G} {A : Nat → Prop} {tys : List (ClassId × FieldType)}
theorem free0 {z : Nat} (h : va_A [] H.size z) : H.size ≤ z := by
  rcases h with ⟨k, e, h⟩ | h
  · simp at h
  · exact h
/-- a method that looks at no cell of ours: what it leaves unchanged -/
theorem jpR_i {X : jX} {r : Int32} (S : CallFix p m c cc nL s args Ts own) (hM : Met l y wy rm (va_Pc (.ref b :: As) (jpre X D tys [] H.size)) (va_Qi (fun r' (_ : Unit) => r' = r) (fun _ t => jpost D tys (va_A [] H.size) [] t) (va_A [] H.size)) 0 0 (va_A [] H.size))
    (cw : CallW R s args own C index y bytes maxL ret wy rm 0 0 n) (hn : As.length = n) (hls : lv_has ls nL lv) (hst : st0 = As.reverse ++ .ref b :: rest) (hW : (rest.map fun v => v.category).sum ≤ 8) (hdg : decode cc pc = .ok (.invokevirtual index, 3)) (hf : cells ≤ R.cells ∧ slots ≤ R.slots)
    (hK : va_K D vwCl tys s) (hN : nst s) (hKX : KX X) (hXc : ∀ U : State, s.WarmedH U.vm → X (va_A [] H.size) U H) (hS : va_S A s.heap H locs) (hA : ∀ q : Nat, s.heap.size ≤ q → A q) (hrecv : ∃ cell : Cell, H[b]? = some cell ∧ cell.vm.isStatics = false ∧ s.vm.findClass C = some cell.cls)
    (kk : ∀ (H1 : Heap) (locs1 : List Loc), va_S A s.heap H1 locs1 → H.size ≤ H1.size → (∀ q : Nat, q < H.size → H1[q]? = H[q]?) → W p l e R s m args below meth c H1 locs1 cells slots Q (F0 m (pc + 3) ls (.int r :: rest))) : W p l e R s m args below meth c H locs cells slots Q (F0 m pc ls st0) := by
  subst hst
  have hF : ∀ q : Nat, va_A [] H.size q → A q := fun q h => hA q (Nat.le_trans hS.1 (free0 h))
  have h0 : va_P D vwCl [] H := fun k q h => by simp at h
  have hD0 : va_D (fun _ => True) [] := ⟨fun i j p q h => by simp at h, fun k q h => by simp at h⟩
  refine va_calli (va_runV (As := As) (rest := rest) S hM cw ⟨jpre_blind hKX, hrecv, fun U hU hW => ⟨rfl, by rw [hU], by rw [hU]; exact h0, va_K.moved hW.alike hK, hD0, nst_warm hW hN, by rw [hU]; exact hXc U hW⟩⟩ rfl hn hls.1 rfl (lv_room hW) hdg hf) hS (fun q _ h => hF q h) hF (fun r' u t H1 locs1 ht hvm hw hB1 hz hk hS1 => ?_)
  have hw : r' = r := hw
  subst hw
  exact kk H1 locs1 hS1 hz (fun q hq => hk q hq (fun h => absurd (free0 h) (Nat.not_le.mpr hq)))
theorem jpS_i {X : jX} {r : Int32} (S : CallFix p m c cc nL s args Ts own) (hM : Met l y wy rm (va_Pc As (jpre X D tys [] H.size)) (va_Qi (fun r' (_ : Unit) => r' = r) (fun _ t => jpost D tys (va_A [] H.size) [] t) (va_A [] H.size)) 0 0 (va_A [] H.size))
    (cw : CallB R s args own index y bytes maxL ret wy rm 0 0 n ∧ (Cond.static y).before args s = true) (hn : As.length = n) (hls : lv_has ls nL lv) (hst : st0 = As.reverse ++ rest) (hW : (rest.map fun v => v.category).sum ≤ 8) (hdg : decode cc pc = .ok (.invokestatic index, 3)) (hf : cells ≤ R.cells ∧ slots ≤ R.slots)
    (hK : va_K D vwCl tys s) (hN : nst s) (hKX : KX X) (hXc : ∀ U : State, s.WarmedH U.vm → X (va_A [] H.size) U H) (hS : va_S A s.heap H locs) (hA : ∀ q : Nat, s.heap.size ≤ q → A q)
    (kk : ∀ (H1 : Heap) (locs1 : List Loc), va_S A s.heap H1 locs1 → H.size ≤ H1.size → (∀ q : Nat, q < H.size → H1[q]? = H[q]?) → W p l e R s m args below meth c H1 locs1 cells slots Q (F0 m (pc + 3) ls (.int r :: rest))) : W p l e R s m args below meth c H locs cells slots Q (F0 m pc ls st0) := by
  subst hst
  have hF : ∀ q : Nat, va_A [] H.size q → A q := fun q h => hA q (Nat.le_trans hS.1 (free0 h))
  have h0 : va_P D vwCl [] H := fun k q h => by simp at h
  have hD0 : va_D (fun _ => True) [] := ⟨fun i j p q h => by simp at h, fun k q h => by simp at h⟩
  refine va_calli (va_runS (As := As) (rest := rest) S hM cw ⟨jpre_blind hKX, fun U hU hW => ⟨rfl, by rw [hU], by rw [hU]; exact h0, va_K.moved hW.alike hK, hD0, nst_warm hW hN, by rw [hU]; exact hXc U hW⟩⟩ rfl hn hls.1 rfl (lv_room hW) hdg hf) hS (fun q _ h => hF q h) hF (fun r' u t H1 locs1 ht hvm hw hB1 hz hk hS1 => ?_)
  have hw : r' = r := hw
  subst hw
  exact kk H1 locs1 hS1 hz (fun q hq => hk q hq (fun h => absurd (free0 h) (Nat.not_le.mpr hq)))
end Law0
/-- what a method of the law asks of the heap where it has no cell -/
abbrev oT : oP := fun _ _ => True
abbrev fT0 : Nat → Nat → Prop := fun sz z => sz ≤ z

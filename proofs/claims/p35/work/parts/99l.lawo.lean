/-! p35: the object of the script -/
set_option maxHeartbeats 8000000 in
set_option maxRecDepth 100000 in
theorem law_o3 {p : Program} {l : Launch} {e : Env} {s : State} {m : MethodId} {b : Nat} {below : List Frame} {meth : Method} {c : Code} {D : va_G} {cI cJ cC cL : ClassId} {L : Nat} {xs : Nat → Int32} {Q : State → Prop} {A : Nat → Prop} {q : Nat} {ax : Nat → Nat} {go : Nat → Nat} {tg : Nat → Nat} (hn9 : go 0 = 9) (C0 : LCx p s m c b L xs D cI cJ cC cL A) (hend : ∀ (cc sl : Nat) (H : Heap) (locs : List Loc) (ls : Array Slot), cc ≤ 1000 → sl ≤ 100000 → va_S A s.heap H locs → W p l e room_1 s m #[Value.ref b] below meth c H locs cc sl Q (F0 m 871 ls [.int (nI 1)])) (Bv : Nat) (g : Nat → Nat) (hy : Nat → Nat → Nat) (N : Nat) (u : Nat) (nL : Nat) (lc : Nat → Int32) (nr : Nat) (rn : Nat → Int32) (rd : Nat → Int32) (cc sl : Nat) (H : Heap) (locs : List Loc) (ls : Array Slot) (hc : cc ≤ 1000) (hs : sl ≤ 100000) (hB : Bv + 10 < 2 ^ 31) (hO : OBJ D cI cJ cC cL A q ax Bv g hy N u (1) go (0) tg nL lc nr rn rd H) (hS : va_S A s.heap H locs) (hl : lv_has ls 11 [(2, .ref q), (3, .long (fAsk go)), (5, .int (nI 9))]) : W p l e room_1 s m #[Value.ref b] below meth c H locs cc sl Q (F0 m 821 ls []) := by
  obtain ⟨hx, hb, hml, hown, hts, hXs, hK, hN, hXS, hXN, hXC, hAO, hL31, hA⟩ := C0
  have hL := hL31
  have hF : CallFix p m c cL_law 11 s #[Value.ref b] wsL_law RL := ⟨hx, hb, hml, hown, hts⟩
  refine lv_aload_n hx hb dL_law_821 rfl (lv_at hl 0 rfl) ?_
  refine oc_restore1 hF rfl (cwV 0 hts gL_law_X9_restore rfl rfl rfl (by decide +kernel) ⟨Nat.le_of_ble_eq_true rfl, Nat.le_of_ble_eq_true rfl⟩) (Nat.le_of_ble_eq_true rfl) hl (Nat.le_of_ble_eq_true rfl) dL_law_822 ⟨by show _ ≤ 600000; omega, by show _ ≤ 7302250; omega⟩ hK hN hXS hA hO hS (fun H locs hO hS hz hk => ?_)
  rw [hn9]
  refine lv_iload hx hb dL_law_825 (lv_at hl 2 rfl) ?_
  refine lv_icmp_ne (tgt := 870) hx hb dL_law_827 (by decide) (fun hq => absurd rfl hq) (fun _ => ?_)
  refine lv_aload_n hx hb dL_law_830 rfl (lv_at hl 0 rfl) ?_
  refine oc_undo0 hF rfl (cwV 0 hts gL_law_X9_undo rfl rfl rfl (by decide +kernel) ⟨Nat.le_of_ble_eq_true rfl, Nat.le_of_ble_eq_true rfl⟩) (Nat.le_of_ble_eq_true rfl) hl (Nat.le_of_ble_eq_true rfl) dL_law_831 ⟨by show _ ≤ 600000; omega, by show _ ≤ 7302250; omega⟩ hK hN hXS hA hO hS (fun H locs hO hS hz hk => ?_)
  refine lv_bipush (v := -nI 15) hx hb dL_law_834 (by decide) ?_
  refine lv_icmp_ne (tgt := 870) hx hb dL_law_836 (by decide) (fun hq => absurd rfl hq) (fun _ => ?_)
  refine lv_aload_n hx hb dL_law_839 rfl (lv_at hl 0 rfl) ?_
  have hB9 : Bv < 2 ^ 31 := by omega
  have hsub := OBJ_sub hO (fun z h => hA z (Nat.le_trans hS.1 h))
  refine lc_l (X := XS) (O := (fun A H => OBJ D cI cJ cC cL A q ax Bv go hy N (0) (1) go (0) tg nL lc nr rn rd H)) (O' := (fun _ => (fun A H => OBJ D cI cJ cC cL A q ax Bv go hy N (0) (1) go (0) tg (q_tellN go) (q_tellC go) nr rn rd H))) (F := (OA q ax)) (As := [.ref q]) (rest := []) hF (c_L_asks l D cI cJ cC cL q ax Bv go hy N (0) (1) go (0) tg nL lc nr rn rd hB9 _) (va_cwS 1 hts gL_law_L_asks rfl rfl rfl (by decide +kernel) ⟨Nat.le_of_ble_eq_true rfl, Nat.le_of_ble_eq_true rfl⟩) rfl hl rfl (Nat.le_of_ble_eq_true rfl) dL_law_840 ⟨by show _ ≤ 600000; omega, by show _ ≤ 7302250; omega⟩ hK hN (KX_XS) (X_at KX_XS hXS hS hsub) (OBJ_at hO _) hS (hsub) (fun r v9 H locs hr hO1 hS hz hk => ?_)
  have hO := OBJ_to hO1 hsub
  clear hsub hO1
  subst hr
  clear hB9
  refine lv_lload_n hx hb dL_law_843 rfl (lv_at hl 1 rfl) ?_
  refine W.lcmp hx hb dL_law_844 ?_
  refine lv_if_ne (tgt := 870) hx hb dL_law_845 (by decide) (fun hq => absurd ((lgc0 _ _).2 rfl) hq) (fun _ => ?_)
  refine lv_aload_n hx hb dL_law_848 rfl (lv_at hl 0 rfl) ?_
  refine oc_restore1 hF rfl (cwV 0 hts gL_law_X9_restore rfl rfl rfl (by decide +kernel) ⟨Nat.le_of_ble_eq_true rfl, Nat.le_of_ble_eq_true rfl⟩) (Nat.le_of_ble_eq_true rfl) hl (Nat.le_of_ble_eq_true rfl) dL_law_849 ⟨by show _ ≤ 600000; omega, by show _ ≤ 7302250; omega⟩ hK hN hXS hA hO hS (fun H locs hO hS hz hk => ?_)
  rw [hn9]
  refine lv_iload hx hb dL_law_852 (lv_at hl 2 rfl) ?_
  refine lv_icmp_ne (tgt := 870) hx hb dL_law_854 (by decide) (fun hq => absurd rfl hq) (fun _ => ?_)
  refine lv_aload_n hx hb dL_law_857 rfl (lv_at hl 0 rfl) ?_
  have hB9 : Bv < 2 ^ 31 := by omega
  have hsub := OBJ_sub hO (fun z h => hA z (Nat.le_trans hS.1 h))
  refine lc_l (X := XS) (O := (fun A H => OBJ D cI cJ cC cL A q ax Bv go hy N (0) (1) go (0) tg (q_tellN go) (q_tellC go) nr rn rd H)) (O' := (fun _ => (fun A H => OBJ D cI cJ cC cL A q ax Bv go hy N (0) (1) go (0) tg (q_tellN go) (q_tellC go) nr rn rd H))) (F := (OA q ax)) (As := [.ref q]) (rest := []) hF (c_L_asks l D cI cJ cC cL q ax Bv go hy N (0) (1) go (0) tg (q_tellN go) (q_tellC go) nr rn rd hB9 _) (va_cwS 1 hts gL_law_L_asks rfl rfl rfl (by decide +kernel) ⟨Nat.le_of_ble_eq_true rfl, Nat.le_of_ble_eq_true rfl⟩) rfl hl rfl (Nat.le_of_ble_eq_true rfl) dL_law_858 ⟨by show _ ≤ 600000; omega, by show _ ≤ 7302250; omega⟩ hK hN (KX_XS) (X_at KX_XS hXS hS hsub) (OBJ_at hO _) hS (hsub) (fun r v9 H locs hr hO1 hS hz hk => ?_)
  have hO := OBJ_to hO1 hsub
  clear hsub hO1
  subst hr
  clear hB9
  refine lv_lload_n hx hb dL_law_861 rfl (lv_at hl 1 rfl) ?_
  refine W.lcmp hx hb dL_law_862 ?_
  refine lv_if_ne (tgt := 870) hx hb dL_law_863 (by decide) (fun hq => absurd ((lgc0 _ _).2 rfl) hq) (fun _ => ?_)
  refine lv_iconst (v := nI 1) hx hb dL_law_866 (by decide) ?_
  refine lv_goto (tgt := 871) hx hb dL_law_867 (by decide) ?_
  exact hend _ _ H locs _ (by omega) (by omega) hS
def mn8 (n : Nat) : Nat := if n < 8 then n else 8
theorem law_b1 {a d : Nat} (h : a + 100000 * (d + 1) + 10 < 2 ^ 31) : a + 100000 < 2 ^ 31 := Nat.lt_of_le_of_lt (Nat.le_trans (Nat.add_le_add_left (Nat.le_mul_of_pos_right 100000 (Nat.succ_pos d)) a) (Nat.le_add_right _ 10)) h
theorem mn8_le (n : Nat) : mn8 n ≤ 8 ∧ mn8 n ≤ n := by unfold mn8; split <;> omega
theorem mn8_eq : ∀ n, n ≤ 10 → (if nI n < nI 8 then nI n else nI 8) = nI (mn8 n) := by decide +kernel
theorem law_sub2 {a b : Nat} (h : b ≤ a) : nI a - nI b = nI (a - b) := by
  obtain ⟨k, rfl⟩ : ∃ k, a = k + b := ⟨a - b, by omega⟩
  rw [← nI_add, Int32.add_sub_cancel, Nat.add_sub_cancel]
theorem AR_kept {D : va_G} {aw q : Nat} {ax : Nat → Nat} {e : va_E} {H H1 : Heap} (h : va_P D vwCl [(aw, e)] H) (haw : ¬ aw ∈ q :: (List.range 68).map ax) (hk : ∀ z : Nat, z < H.size → ¬ OA q ax H.size z → H1[z]? = H[z]?) : va_P D vwCl [(aw, e)] H1 := h.kept (fun k z hz => by
  have hl := (h k z hz).lt
  have e1 : z = (aw, e) := List.mem_singleton.mp (List.mem_of_getElem? hz)
  subst e1
  exact hk aw hl (fun h2 => h2.elim haw (fun h3 => absurd hl (Nat.not_lt.mpr h3))))
theorem AR_keptO {D : va_G} {aw : Nat} {e : va_E} {H H1 : Heap} (h : va_P D vwCl [(aw, e)] H) (hk : ∀ z : Nat, z < H.size → H1[z]? = H[z]?) : va_P D vwCl [(aw, e)] H1 := h.kept (fun k z hz => hk z.1 (h k z hz).lt)
set_option maxHeartbeats 8000000 in
set_option maxRecDepth 100000 in
theorem law_o2 {p : Program} {l : Launch} {e : Env} {s : State} {m : MethodId} {b : Nat} {below : List Frame} {meth : Method} {c : Code} {D : va_G} {cI cJ cC cL : ClassId} {L : Nat} {xs : Nat → Int32} {Q : State → Prop} {A : Nat → Prop} {q : Nat} {ax : Nat → Nat} {go : Nat → Nat} {tg : Nat → Nat} (hn9 : go 0 = 9) (C0 : LCx p s m c b L xs D cI cJ cC cL A) (hend : ∀ (cc sl : Nat) (H : Heap) (locs : List Loc) (ls : Array Slot), cc ≤ 1000 → sl ≤ 100000 → va_S A s.heap H locs → W p l e room_1 s m #[Value.ref b] below meth c H locs cc sl Q (F0 m 871 ls [.int (nI 1)])) {aw n N0 Bv : Nat} {fw : Nat → Int64} {hy : Nat → Nat → Nat} (hfw : ∀ j, j < n → fw j = fAsk (hy (N0 + j))) (hn : n ≤ 10) (hB : Bv + 10 < 2 ^ 31) (haw : ¬ aw ∈ q :: (List.range 68).map ax) (g : Nat → Nat) (nL : Nat) (lc : Nat → Int32) (nr : Nat) (rn rd : Nat → Int32) (cc sl : Nat) (H : Heap) (locs : List Loc) (ls : Array Slot) (hc : cc ≤ 1000) (hs : sl ≤ 100000) (hW : va_P D vwCl [(aw, .inl (cJ, 11, .inr (.inl fw)))] H) (hO : OBJ D cI cJ cC cL A q ax Bv g hy (N0 + n) (8) (1) go (0) tg nL lc nr rn rd H) (hS : va_S A s.heap H locs) (hl : lv_has ls 11 [(6, .ref aw), (7, .int (nI n)), (2, .ref q), (3, .long (fAsk go)), (5, .int (nI 9))]) : W p l e room_1 s m #[Value.ref b] below meth c H locs cc sl Q (F0 m 752 ls []) := by
  have C1 := C0
  obtain ⟨hx, hb, hml, hown, hts, hXs, hK, hN, hXS, hXN, hXC, hAO, hL31, hA⟩ := C1
  have hL := hL31
  have hF : CallFix p m c cL_law 11 s #[Value.ref b] wsL_law RL := ⟨hx, hb, hml, hown, hts⟩
  have hm8 := mn8_le n
  have LU : ∀ (d t cc : Nat) (sl : Nat) (g : Nat → Nat) (nL : Nat) (lc : Nat → Int32) (nr : Nat) (rn : Nat → Int32) (rd : Nat → Int32) (H : Heap) (locs : List Loc) (ls : Array Slot), t + d = mn8 n + 1 → 1 ≤ t → cc ≤ 1000 → sl ≤ 100000 → va_P D vwCl [(aw, .inl (cJ, 11, .inr (.inl fw)))] H → OBJ D cI cJ cC cL A q ax Bv g hy (N0 + n - (t - 1)) (8 - (t - 1)) (1) go (0) tg nL lc nr rn rd H → va_S A s.heap H locs → lv_has ls 11 [(8, .int (nI (mn8 n))), (9, .int (nI t)), (6, .ref aw), (7, .int (nI n)), (2, .ref q), (3, .long (fAsk go)), (5, .int (nI 9))] → W p l e room_1 s m #[Value.ref b] below meth c H locs cc sl Q (F0 m 764 ls []) := by
    intro d
    induction d with
    | zero =>
      intro t cc sl g nL lc nr rn rd H locs ls htd ht1 hc hs hW hO hS hl
      refine lv_iload hx hb dL_law_764 (lv_at hl 1 rfl) ?_
      refine lv_iload hx hb dL_law_766 (lv_at hl 0 rfl) ?_
      refine lv_icmp_gt (tgt := 821) hx hb dL_law_768 (by decide) (fun _ => ?_) (fun hq => absurd (nI_lt (by omega) (by omega)) hq)
      exact law_o3 hn9 C0 hend _ _ _ _ _ _ _ _ _ _ _ _ H locs _ (by omega) (by omega) (by omega) hO hS (lv_sub hl [4, 5, 6] rfl)
    | succ d ih =>
      intro t cc sl g nL lc nr rn rd H locs ls htd ht1 hc hs hW hO hS hl
      refine lv_iload hx hb dL_law_764 (lv_at hl 1 rfl) ?_
      refine lv_iload hx hb dL_law_766 (lv_at hl 0 rfl) ?_
      refine lv_icmp_gt (tgt := 821) hx hb dL_law_768 (by decide) (fun hq => absurd hq (nI_nlt (by omega) (by omega))) (fun _ => ?_)
      refine lv_aload_n hx hb dL_law_771 rfl (lv_at hl 4 rfl) ?_
      refine oc_undoS hF (v := 8 - t) (by omega) (cwV 0 hts gL_law_X9_undo rfl rfl rfl (by decide +kernel) ⟨Nat.le_of_ble_eq_true rfl, Nat.le_of_ble_eq_true rfl⟩) (Nat.le_of_ble_eq_true rfl) hl (Nat.le_of_ble_eq_true rfl) dL_law_772 ⟨by show _ ≤ 600000; omega, by show _ ≤ 7302250; omega⟩ hK hN hXS hA hO hS (fun H locs hO hS hz hk => ?_)
      have hW := AR_kept hW haw hk
      refine lv_istore (lv' := [(10, .int (nI (8 - t))), (8, .int (nI (mn8 n))), (9, .int (nI t)), (6, .ref aw), (7, .int (nI n)), (2, .ref q), (3, .long (fAsk go)), (5, .int (nI 9))]) hx hb dL_law_775 hl (by decide) rfl (fun ls hl => ?_)
      refine lv_iload hx hb dL_law_777 (lv_at hl 0 rfl) ?_
      refine lv_iload hx hb dL_law_779 (lv_at hl 1 rfl) ?_
      refine lv_iload hx hb dL_law_781 (lv_at hl 2 rfl) ?_
      refine lv_isub hx hb dL_law_783 ?_
      rw [law_sub2 (by omega)]
      refine lv_icmp_lt (tgt := 813) hx hb dL_law_784 (by decide) (fun hq => absurd hq (nI_nlt (by omega) (by omega))) (fun _ => ?_)
      refine lv_iload hx hb dL_law_787 (lv_at hl 0 rfl) ?_
      refine lv_bipush (v := nI 8) hx hb dL_law_789 (by decide) ?_
      refine lv_iload hx hb dL_law_791 (lv_at hl 2 rfl) ?_
      refine lv_isub hx hb dL_law_793 ?_
      rw [law_sub2 (by omega)]
      refine lv_icmp_gt (tgt := 813) hx hb dL_law_794 (by decide) (fun hq => absurd hq (nI_nlt (by omega) (by omega))) (fun _ => ?_)
      refine lv_aload_n hx hb dL_law_797 rfl (lv_at hl 5 rfl) ?_
      have hB9 : Bv < 2 ^ 31 := by omega
      have hsub := OBJ_sub hO (fun z h => hA z (Nat.le_trans hS.1 h))
      refine lc_l (X := XS) (O := (fun A H => OBJ D cI cJ cC cL A q ax Bv (hy (N0 + n - (t - 1) - 1)) hy (N0 + n - (t - 1) - 1) (8 - t) (1) go (0) tg nL lc nr rn rd H)) (O' := (fun _ => (fun A H => OBJ D cI cJ cC cL A q ax Bv (hy (N0 + n - (t - 1) - 1)) hy (N0 + n - (t - 1) - 1) (8 - t) (1) go (0) tg (q_tellN (hy (N0 + n - (t - 1) - 1))) (q_tellC (hy (N0 + n - (t - 1) - 1))) nr rn rd H))) (F := (OA q ax)) (As := [.ref q]) (rest := []) hF (c_L_asks l D cI cJ cC cL q ax Bv (hy (N0 + n - (t - 1) - 1)) hy (N0 + n - (t - 1) - 1) (8 - t) (1) go (0) tg nL lc nr rn rd hB9 _) (va_cwS 1 hts gL_law_L_asks rfl rfl rfl (by decide +kernel) ⟨Nat.le_of_ble_eq_true rfl, Nat.le_of_ble_eq_true rfl⟩) rfl hl rfl (Nat.le_of_ble_eq_true rfl) dL_law_798 ⟨by show _ ≤ 600000; omega, by show _ ≤ 7302250; omega⟩ hK hN (KX_XS) (X_at KX_XS hXS hS hsub) (OBJ_at hO _) hS (hsub) (fun r v9 H locs hr hO1 hS hz hk => ?_)
      have hO := OBJ_to hO1 hsub
      clear hsub hO1
      subst hr
      clear hB9
      have hW := AR_kept hW haw hk
      refine lv_aload hx hb dL_law_801 (lv_at hl 3 rfl) ?_
      refine lv_iload hx hb dL_law_803 (lv_at hl 4 rfl) ?_
      refine lv_iload hx hb dL_law_805 (lv_at hl 2 rfl) ?_
      refine lv_isub hx hb dL_law_807 ?_
      rw [law_sub2 (by omega)]
      refine va_lald hx hb hK hW 0 1 rfl rfl (nI_in (c := n - t) (N := 11) (by omega) (by omega)) dL_law_808 ?_
      rw [nI_clamp (show n - t < 2 ^ 31 by omega), hfw (n - t) (by omega), show N0 + (n - t) = N0 + n - (t - 1) - 1 by omega]
      refine W.lcmp hx hb dL_law_809 ?_
      refine lv_if_eq (tgt := 815) hx hb dL_law_810 (by decide) (fun _ => ?_) (fun hq => absurd ((lgc0 _ _).2 rfl) hq)
      refine lv_iinc (v := nI (t + 1)) (lv' := [(9, .int (nI (t + 1))), (10, .int (nI (8 - t))), (8, .int (nI (mn8 n))), (6, .ref aw), (7, .int (nI n)), (2, .ref q), (3, .long (fAsk go)), (5, .int (nI 9))]) hx hb dL_law_815 hl (k := 2) rfl (by rw [oi_1, nI_add]) (by decide) rfl (fun ls hl => ?_)
      refine lv_goto (tgt := 764) hx hb dL_law_818 (by decide) ?_
      rw [show N0 + n - (t - 1) - 1 = N0 + n - (t + 1 - 1) by omega, show 8 - t = 8 - (t + 1 - 1) by omega] at hO
      exact ih (t + 1) _ _ _ _ _ _ _ _ H locs _ (by omega) (by omega) (by omega) (by omega) hW hO hS (lv_sub hl [2, 0, 3, 4, 5, 6, 7] rfl)
  refine lv_bipush (v := nI 8) hx hb dL_law_752 (by decide) ?_
  refine lv_iload hx hb dL_law_754 (lv_at hl 1 rfl) ?_
  refine va_mmin hx hb (hml.trans hl.1.symm) hown (hts (.methodLink RL 205 Lib.Math.min.name) (by decide +kernel)) (hts (.static Lib.Math.min.name) (by decide +kernel)) (hts (.initialized "java/lang/Math") (by decide +kernel)) (hts (.code Lib.Math.min.name Lib.Math.min.code 2 (some .int)) (by decide +kernel)) (Nat.le_of_ble_eq_true rfl) (Nat.le_of_ble_eq_true rfl) (by show _ ≤ 600000; omega) (by show _ ≤ 7302250; omega) dL_law_756 ?_
  rw [mn8_eq n (by omega)]
  refine lv_istore (lv' := [(8, .int (nI (mn8 n))), (6, .ref aw), (7, .int (nI n)), (2, .ref q), (3, .long (fAsk go)), (5, .int (nI 9))]) hx hb dL_law_759 hl (by decide) rfl (fun ls hl => ?_)
  refine lv_iconst (v := nI 1) hx hb dL_law_761 (by decide) ?_
  refine lv_istore (lv' := [(9, .int (nI 1)), (8, .int (nI (mn8 n))), (6, .ref aw), (7, .int (nI n)), (2, .ref q), (3, .long (fAsk go)), (5, .int (nI 9))]) hx hb dL_law_762 hl (by decide) rfl (fun ls hl => ?_)
  exact LU (mn8 n) 1 cc sl g nL lc nr rn rd H locs _ (by omega) (by omega) hc hs hW hO hS (lv_sub hl [1, 0, 2, 3, 4, 5, 6] rfl)
theorem AR_D {A : Nat → Prop} {aw q : Nat} {ax : Nat → Nat} {e : va_E} {Wd : va_W} (hA1 : A aw) (hD : va_D A Wd) (had : Wd.map (fun z => z.1) = q :: (List.range 68).map ax) (haw : ¬ aw ∈ q :: (List.range 68).map ax) : va_D A ([(aw, e)] ++ Wd) :=
  va_D.app ⟨fun i j x y hi hj _ => by
    have h1 := (List.getElem?_eq_some_iff.mp hi).1
    have h2 := (List.getElem?_eq_some_iff.mp hj).1
    simp at h1 h2
    omega, fun k z hz => by
    have e1 : z = (aw, e) := List.mem_singleton.mp (List.mem_of_getElem? hz)
    subst e1
    exact hA1⟩ hD (fun i j x y hi hj hxy => haw (by
    have e1 : x = (aw, e) := List.mem_singleton.mp (List.mem_of_getElem? hi)
    subst e1
    rw [← had]
    exact List.mem_map.mpr ⟨y, List.mem_of_getElem? hj, hxy.symm⟩))
set_option maxHeartbeats 8000000 in
set_option maxRecDepth 100000 in
theorem law_o1 {p : Program} {l : Launch} {e : Env} {s : State} {m : MethodId} {b : Nat} {below : List Frame} {meth : Method} {c : Code} {D : va_G} {cI cJ cC cL : ClassId} {L : Nat} {xs : Nat → Int32} {Q : State → Prop} {A : Nat → Prop} {q : Nat} {ax : Nat → Nat} {go : Nat → Nat} {tg : Nat → Nat} (hn9 : go 0 = 9) (C0 : LCx p s m c b L xs D cI cJ cC cL A) (hend : ∀ (cc sl : Nat) (H : Heap) (locs : List Loc) (ls : Array Slot), cc ≤ 1000 → sl ≤ 100000 → va_S A s.heap H locs → W p l e room_1 s m #[Value.ref b] below meth c H locs cc sl Q (F0 m 871 ls [.int (nI 1)])) {aw N0 : Nat} (hA1 : A aw) (haw : ¬ aw ∈ q :: (List.range 68).map ax) : ∀ (d k n cc sl Bv : Nat) (fw : Nat → Int64) (g : Nat → Nat) (hy : Nat → Nat → Nat) (nL : Nat) (lc : Nat → Int32) (nr : Nat) (rn rd : Nat → Int32) (H : Heap) (locs : List Loc) (ls : Array Slot), k + d = 10 → n ≤ k → cc + 8 * d ≤ 1000 → sl + 80 * d ≤ 100000 → Bv + 100000 * d + 10 < 2 ^ 31 → (∀ j, j < n → fw j = fAsk (hy (N0 + j))) → va_P D vwCl [(aw, .inl (cJ, 11, .inr (.inl fw)))] H → OBJ D cI cJ cC cL A q ax Bv g hy (N0 + n) (8) (1) go (0) tg nL lc nr rn rd H → va_S A s.heap H locs → lv_has ls 11 [(8, .int (nI k)), (6, .ref aw), (7, .int (nI n)), (2, .ref q), (3, .long (fAsk go)), (5, .int (nI 9)), (0, .ref b)] → W p l e room_1 s m #[Value.ref b] below meth c H locs cc sl Q (F0 m 685 ls []) := by
  have C1 := C0
  obtain ⟨hx, hb, hml, hown, hts, hXs, hK, hN, hXS, hXN, hXC, hAO, hL31, hA⟩ := C1
  have hL := hL31
  have hF : CallFix p m c cL_law 11 s #[Value.ref b] wsL_law RL := ⟨hx, hb, hml, hown, hts⟩
  intro d
  induction d with
  | zero =>
    intro k n cc sl Bv fw g hy nL lc nr rn rd H locs ls hkd hnk hc hs hB hfw hW hO hS hl
    refine lv_iload hx hb dL_law_685 (lv_at hl 0 rfl) ?_
    refine lv_bipush (v := nI 10) hx hb dL_law_687 (by decide) ?_
    refine lv_icmp_ge (tgt := 752) hx hb dL_law_689 (by decide) (fun _ => ?_) (fun hq => absurd (nI_le (by omega) (by omega)) hq)
    exact law_o2 hn9 C0 hend hfw (by omega) (by omega) haw _ _ _ _ _ _ _ _ H locs _ (by omega) (by omega) hW hO hS (lv_sub hl [1, 2, 3, 4, 5] rfl)
  | succ d ih =>
    intro k n cc sl Bv fw g hy nL lc nr rn rd H locs ls hkd hnk hc hs hB hfw hW hO hS hl
    refine lv_iload hx hb dL_law_685 (lv_at hl 0 rfl) ?_
    refine lv_bipush (v := nI 10) hx hb dL_law_687 (by decide) ?_
    refine lv_icmp_ge (tgt := 752) hx hb dL_law_689 (by decide) (fun hq => absurd hq (nI_ge (by omega) (by omega))) (fun _ => ?_)
    refine lv_aload_n hx hb dL_law_692 rfl (lv_at hl 3 rfl) ?_
    have hB9 : Bv < 2 ^ 31 := by omega
    have hsub := OBJ_sub hO (fun z h => hA z (Nat.le_trans hS.1 h))
    refine lc_l (X := XS) (O := (fun A H => OBJ D cI cJ cC cL A q ax Bv g hy (N0 + n) (8) (1) go (0) tg nL lc nr rn rd H)) (O' := (fun _ => (fun A H => OBJ D cI cJ cC cL A q ax Bv g hy (N0 + n) (8) (1) go (0) tg (q_tellN g) (q_tellC g) nr rn rd H))) (F := (OA q ax)) (As := [.ref q]) (rest := []) hF (c_L_asks l D cI cJ cC cL q ax Bv g hy (N0 + n) (8) (1) go (0) tg nL lc nr rn rd hB9 _) (va_cwS 1 hts gL_law_L_asks rfl rfl rfl (by decide +kernel) ⟨Nat.le_of_ble_eq_true rfl, Nat.le_of_ble_eq_true rfl⟩) rfl hl rfl (Nat.le_of_ble_eq_true rfl) dL_law_693 ⟨by show _ ≤ 600000; omega, by show _ ≤ 7302250; omega⟩ hK hN (KX_XS) (X_at KX_XS hXS hS hsub) (OBJ_at hO _) hS (hsub) (fun r v9 H locs hr hO1 hS hz hk => ?_)
    have hO := OBJ_to hO1 hsub
    clear hsub hO1
    subst hr
    clear hB9
    have hW := AR_kept hW haw hk
    refine lv_lstore (lv' := [(9, .long (fAsk g)), (8, .int (nI k)), (6, .ref aw), (7, .int (nI n)), (2, .ref q), (3, .long (fAsk go)), (5, .int (nI 9)), (0, .ref b)]) hx hb dL_law_696 hl (by decide) rfl (fun ls hl => ?_)
    refine lv_aload_n hx hb dL_law_698 rfl (lv_at hl 4 rfl) ?_
    refine lv_aload_n hx hb dL_law_699 rfl (lv_at hl 7 rfl) ?_
    refine lv_bipush (v := nI 20) hx hb dL_law_700 (by decide) ?_
    refine lv_iload hx hb dL_law_702 (lv_at hl 1 rfl) ?_
    refine lv_iadd hx hb dL_law_704 ?_
    rw [nI_add]
    refine lc_i (X := (XScr b L xs)) (O := oT) (O' := (fun _ => oT)) (F := fT0) (As := [.ref b, .int (nI (20 + k))]) (rest := [.ref q]) hF (c_L_at l D cI cJ cC cL b L xs hL (20 + k) (by omega) _) (va_cwS 2 hts gL_law_L_at rfl rfl rfl (by decide +kernel) ⟨Nat.le_of_ble_eq_true rfl, Nat.le_of_ble_eq_true rfl⟩) rfl hl rfl (Nat.le_of_ble_eq_true rfl) dL_law_705 ⟨by show _ ≤ 600000; omega, by show _ ≤ 7302250; omega⟩ hK hN (KX_Scr) (X_at KX_Scr hXs hS (fun q h => hA q (Nat.le_trans hS.1 h))) trivial hS ((fun q h => hA q (Nat.le_trans hS.1 h))) (fun r u9 H locs hr _ hS hz hk => ?_)
    subst hr
    have hW := AR_keptO hW (fun z h => hk z h (Nat.not_le.mpr h))
    have hO := OBJ_keptO hO (fun z h => hk z h (Nat.not_le.mpr h))
    refine lv_iload hx hb dL_law_708 (lv_at hl 1 rfl) ?_
    refine lv_sipush (v := nI 977) hx hb dL_law_710 (by decide) ?_
    refine lv_imul hx hb dL_law_713 ?_
    refine lv_ixor hx hb dL_law_714 ?_
    have hsub := OBJ_sub hO (fun z h => hA z (Nat.le_trans hS.1 h))
    refine lc_i (X := (fun A U H => XS A U H ∧ XN A U H ∧ XCl A U H)) (O := (fun A H => OBJ D cI cJ cC cL A q ax Bv g hy (N0 + n) (8) (1) go (0) tg (q_tellN g) (q_tellC g) nr rn rd H)) (O' := (fun (u : ((Nat → Nat) × (Nat → Nat → Nat) × Nat × Nat × Nat × (Nat → Int32) × (Nat → Int32))) A H => OBJ D cI cJ cC cL A q ax (Bv + 100000) (u.1) (u.2.1) (u.2.2.1) (u.2.2.2.1) (1) go (0) tg (q_tellN g) (q_tellC g) (u.2.2.2.2.1) (u.2.2.2.2.2.1) (u.2.2.2.2.2.2) H)) (F := (OA q ax)) (As := [.ref q, .int ((atv L xs (20 + k)) ^^^ ((nI k) * (nI 977)))]) (rest := []) hF (c_L_changes l D cI cJ cC cL q ax Bv g hy (N0 + n) (8) (1) go tg (q_tellN g) (q_tellC g) nr rn rd ((atv L xs (20 + k)) ^^^ ((nI k) * (nI 977))) _) (va_cwS 2 hts gL_law_L_changes rfl rfl rfl (by decide +kernel) ⟨Nat.le_of_ble_eq_true rfl, Nat.le_of_ble_eq_true rfl⟩) rfl hl rfl (Nat.le_of_ble_eq_true rfl) dL_law_715 ⟨by show _ ≤ 600000; omega, by show _ ≤ 7302250; omega⟩ hK hN ((KX_and KX_XS (KX_and KX_XN KX_XCl))) (X_at (KX_and KX_XS (KX_and KX_XN KX_XCl)) (show XS A s s.heap ∧ XN A s s.heap ∧ XCl A s s.heap from ⟨hXS, hXN, hXC⟩) hS hsub) (OBJ_at hO _) hS (hsub) (fun r v9 H locs hr hO1 hS hz hk => ?_)
    have hO := OBJ_to hO1 hsub
    clear hsub hO1
    have hW := AR_kept hW haw hk
    obtain ⟨g', hl', N', u', n', rn', rd'⟩ := v9
    dsimp only at hr hO
    rcases hr with ⟨rfl, e1, rfl, rfl⟩ | ⟨rfl, eg, eh, eN, eu⟩
    · refine lv_if_eq (tgt := 734) hx hb dL_law_718 (by decide) (fun hq => absurd hq n10) (fun _ => ?_)
      refine lv_aload hx hb dL_law_721 (lv_at hl 2 rfl) ?_
      refine lv_iload hx hb dL_law_723 (lv_at hl 3 rfl) ?_
      refine lv_iinc (v := nI (n + 1)) (lv' := [(7, .int (nI (n + 1))), (9, .long (fAsk g)), (8, .int (nI k)), (6, .ref aw), (2, .ref q), (3, .long (fAsk go)), (5, .int (nI 9)), (0, .ref b)]) hx hb dL_law_725 hl (k := 3) rfl (by rw [oi_1, nI_add]) (by decide) rfl (fun ls hl => ?_)
      refine lv_lload hx hb dL_law_728 (lv_at hl 1 rfl) ?_
      obtain ⟨Wd, hP1, hD1, had, hback⟩ := OBJ_W hO
      have hD0 : va_D A ([(aw, .inl (cJ, 11, .inr (.inl fw)))] ++ Wd) := AR_D hA1 hD1 had haw
      refine va_last (ws := [(aw, .inl (cJ, 11, .inr (.inl fw)))] ++ Wd) hx hb hK (hW.app hP1) hD0 hS 0 1 rfl rfl (nI_in (by omega) (by omega)) dL_law_730 (fun H locs hP hD hS => ?_)
      have hP : va_P D vwCl ([(aw, .inl (cJ, 11, .inr (.inl (vp_updL fw (nI n).toNatClampNeg (fAsk g)))))] ++ Wd) H := hP
      rw [nI_clamp (show n < 2 ^ 31 by omega)] at hP
      have hW := vP_left hP
      have hO := hback A H (vP_right hP) hD1
      refine lv_goto (tgt := 746) hx hb dL_law_731 (by decide) ?_
      refine lv_iinc (v := nI (k + 1)) (lv' := [(8, .int (nI (k + 1))), (7, .int (nI (n + 1))), (9, .long (fAsk g)), (6, .ref aw), (2, .ref q), (3, .long (fAsk go)), (5, .int (nI 9)), (0, .ref b)]) hx hb dL_law_746 hl (k := 2) rfl (by rw [oi_1, nI_add]) (by decide) rfl (fun ls hl => ?_)
      refine lv_goto (tgt := 685) hx hb dL_law_749 (by decide) ?_
      refine ih (k + 1) (n + 1) _ _ _ _ _ _ _ _ _ _ _ H locs _ (by omega) (by omega) (by omega) (by omega) (by omega) (fun j hj => ?_) hW hO hS (lv_sub hl [0, 3, 1, 4, 5, 6, 7] rfl)
      unfold vp_updL
      rw [e1]
      by_cases ej : j = n
      · rw [if_pos ej, ej]
        exact congrArg fAsk updh_a2.symm
      · rw [if_neg ej, hfw j (by omega)]
        exact congrArg fAsk (updh_n2 (by omega)).symm
    · obtain rfl := eg.symm
      obtain rfl := eh.symm
      subst eN
      subst eu
      refine lv_if_eq (tgt := 734) hx hb dL_law_718 (by decide) (fun _ => ?_) (fun hq => absurd nI_0 hq)
      refine lv_aload_n hx hb dL_law_734 rfl (lv_at hl 4 rfl) ?_
      have hB9 : (Bv + 100000) < 2 ^ 31 := law_b1 hB
      have hsub := OBJ_sub hO (fun z h => hA z (Nat.le_trans hS.1 h))
      refine lc_l (X := XS) (O := (fun A H => OBJ D cI cJ cC cL A q ax (Bv + 100000) g hy (N0 + n) (8) (1) go (0) tg (q_tellN g) (q_tellC g) (n') (rn') (rd') H)) (O' := (fun _ => (fun A H => OBJ D cI cJ cC cL A q ax (Bv + 100000) g hy (N0 + n) (8) (1) go (0) tg (q_tellN g) (q_tellC g) (n') (rn') (rd') H))) (F := (OA q ax)) (As := [.ref q]) (rest := []) hF (c_L_asks l D cI cJ cC cL q ax (Bv + 100000) g hy (N0 + n) (8) (1) go (0) tg (q_tellN g) (q_tellC g) (n') (rn') (rd') hB9 _) (va_cwS 1 hts gL_law_L_asks rfl rfl rfl (by decide +kernel) ⟨Nat.le_of_ble_eq_true rfl, Nat.le_of_ble_eq_true rfl⟩) rfl hl rfl (Nat.le_of_ble_eq_true rfl) dL_law_735 ⟨by show _ ≤ 600000; omega, by show _ ≤ 7302250; omega⟩ hK hN (KX_XS) (X_at KX_XS hXS hS hsub) (OBJ_at hO _) hS (hsub) (fun r v9 H locs hr hO1 hS hz hk => ?_)
      have hO := OBJ_to hO1 hsub
      clear hsub hO1
      subst hr
      clear hB9
      have hW := AR_kept hW haw hk
      refine lv_lload hx hb dL_law_738 (lv_at hl 0 rfl) ?_
      refine W.lcmp hx hb dL_law_740 ?_
      refine lv_if_eq (tgt := 746) hx hb dL_law_741 (by decide) (fun _ => ?_) (fun hq => absurd ((lgc0 _ _).2 rfl) hq)
      refine lv_iinc (v := nI (k + 1)) (lv' := [(8, .int (nI (k + 1))), (9, .long (fAsk g)), (6, .ref aw), (7, .int (nI n)), (2, .ref q), (3, .long (fAsk go)), (5, .int (nI 9)), (0, .ref b)]) hx hb dL_law_746 hl (k := 1) rfl (by rw [oi_1, nI_add]) (by decide) rfl (fun ls hl => ?_)
      refine lv_goto (tgt := 685) hx hb dL_law_749 (by decide) ?_
      exact ih (k + 1) n _ _ _ _ _ _ _ _ _ _ _ H locs _ (by omega) (by omega) (by omega) (by omega) (by omega) hfw hW hO hS (lv_sub hl [0, 2, 3, 4, 5, 6, 7] rfl)
theorem AR_not {A : Nat → Prop} {aw q : Nat} {ax : Nat → Nat} {e : va_E} {Wd : va_W} (hD : va_D A (Wd ++ [(aw, e)])) (had : Wd.map (fun z => z.1) = q :: (List.range 68).map ax) (h : aw ∈ q :: (List.range 68).map ax) : False := by
  rw [← had] at h
  obtain ⟨y, h1, h2⟩ := List.mem_map.mp h
  obtain ⟨k, h3⟩ := List.mem_iff_getElem?.mp h1
  have hk := (List.getElem?_eq_some_iff.mp h3).1
  have e1 : (Wd ++ [(aw, e)])[k]? = some y := by rw [List.getElem?_append_left hk]; exact h3
  have e2 : (Wd ++ [(aw, e)])[Wd.length + 0]? = some (aw, e) := vP_at rfl
  have := hD.1 _ _ _ _ e1 e2 h2
  omega
set_option maxHeartbeats 8000000 in
set_option maxRecDepth 100000 in
theorem law_o0 {p : Program} {l : Launch} {e : Env} {s : State} {m : MethodId} {b : Nat} {below : List Frame} {meth : Method} {c : Code} {D : va_G} {cI cJ cC cL : ClassId} {L : Nat} {xs : Nat → Int32} {Q : State → Prop} {A : Nat → Prop} {q : Nat} {ax : Nat → Nat} {go : Nat → Nat} {tg : Nat → Nat} (hn9 : go 0 = 9) (hk0 : GA go 0 0 = 0) (C0 : LCx p s m c b L xs D cI cJ cC cL A) (hend : ∀ (cc sl : Nat) (H : Heap) (locs : List Loc) (ls : Array Slot), cc ≤ 1000 → sl ≤ 100000 → va_S A s.heap H locs → W p l e room_1 s m #[Value.ref b] below meth c H locs cc sl Q (F0 m 871 ls [.int (nI 1)])) {gs : Nat → Nat} {hy : Nat → Nat → Nat} {N0 nL nr : Nat} {lc rn rd : Nat → Int32} (H : Heap) (locs : List Loc) (ls : Array Slot) (hO : OBJ D cI cJ cC cL A q ax (4000000) go hy N0 (8) (0) gs (0) tg nL lc nr rn rd H) (hS : va_S A s.heap H locs) (hl : lv_has ls 11 [(2, .ref q), (0, .ref b)]) : W p l e room_1 s m #[Value.ref b] below meth c H locs 138 3146 Q (F0 m 626 ls []) := by
  have C1 := C0
  obtain ⟨hx, hb, hml, hown, hts, hXs, hK, hN, hXS, hXN, hXC, hAO, hL31, hA⟩ := C1
  have hL := hL31
  have hF : CallFix p m c cL_law 11 s #[Value.ref b] wsL_law RL := ⟨hx, hb, hml, hown, hts⟩
  refine lv_aload_n hx hb dL_law_626 rfl (lv_at hl 0 rfl) ?_
  have hB9 : 4000000 < 2 ^ 31 := by omega
  have hsub := OBJ_sub hO (fun z h => hA z (Nat.le_trans hS.1 h))
  refine lc_l (X := XS) (O := (fun A H => OBJ D cI cJ cC cL A q ax (4000000) go hy N0 (8) (0) gs (0) tg nL lc nr rn rd H)) (O' := (fun _ => (fun A H => OBJ D cI cJ cC cL A q ax (4000000) go hy N0 (8) (0) gs (0) tg (q_tellN go) (q_tellC go) nr rn rd H))) (F := (OA q ax)) (As := [.ref q]) (rest := []) hF (c_L_asks l D cI cJ cC cL q ax (4000000) go hy N0 (8) (0) gs (0) tg nL lc nr rn rd hB9 _) (va_cwS 1 hts gL_law_L_asks rfl rfl rfl (by decide +kernel) ⟨Nat.le_of_ble_eq_true rfl, Nat.le_of_ble_eq_true rfl⟩) rfl hl rfl (Nat.le_of_ble_eq_true rfl) dL_law_627 ⟨Nat.le_of_ble_eq_true rfl, Nat.le_of_ble_eq_true rfl⟩ hK hN (KX_XS) (X_at KX_XS hXS hS hsub) (OBJ_at hO _) hS (hsub) (fun r v9 H locs hr hO1 hS hz hk => ?_)
  have hO := OBJ_to hO1 hsub
  clear hsub hO1
  subst hr
  clear hB9
  refine lv_lstore_n (lv' := [(3, .long (fAsk go)), (2, .ref q), (0, .ref b)]) hx hb dL_law_630 rfl hl (by decide) rfl (fun ls hl => ?_)
  refine lv_aload_n hx hb dL_law_631 rfl (lv_at hl 1 rfl) ?_
  have hB9 : 4000000 < 2 ^ 31 := by omega
  have hsub := OBJ_sub hO (fun z h => hA z (Nat.le_trans hS.1 h))
  refine lc_l (X := XS) (O := (fun A H => OBJ D cI cJ cC cL A q ax (4000000) go hy N0 (8) (0) gs (0) tg (q_tellN go) (q_tellC go) nr rn rd H)) (O' := (fun _ => (fun A H => OBJ D cI cJ cC cL A q ax (4000000) go hy N0 (8) (0) gs (0) tg (q_tellN go) (q_tellC go) nr rn rd H))) (F := (OA q ax)) (As := [.ref q]) (rest := []) hF (c_L_asks l D cI cJ cC cL q ax (4000000) go hy N0 (8) (0) gs (0) tg (q_tellN go) (q_tellC go) nr rn rd hB9 _) (va_cwS 1 hts gL_law_L_asks rfl rfl rfl (by decide +kernel) ⟨Nat.le_of_ble_eq_true rfl, Nat.le_of_ble_eq_true rfl⟩) rfl hl rfl (Nat.le_of_ble_eq_true rfl) dL_law_632 ⟨Nat.le_of_ble_eq_true rfl, Nat.le_of_ble_eq_true rfl⟩ hK hN (KX_XS) (X_at KX_XS hXS hS hsub) (OBJ_at hO _) hS (hsub) (fun r v9 H locs hr hO1 hS hz hk => ?_)
  have hO := OBJ_to hO1 hsub
  clear hsub hO1
  subst hr
  clear hB9
  refine lv_lload_n hx hb dL_law_635 rfl (lv_at hl 0 rfl) ?_
  refine W.lcmp hx hb dL_law_636 ?_
  refine lv_if_ne (tgt := 647) hx hb dL_law_637 (by decide) (fun hq => absurd ((lgc0 _ _).2 rfl) hq) (fun _ => ?_)
  refine lv_aload_n hx hb dL_law_640 rfl (lv_at hl 1 rfl) ?_
  have hsub := OBJ_sub hO (fun z h => hA z (Nat.le_trans hS.1 h))
  refine lc_i (X := XS) (O := (fun A H => OBJ D cI cJ cC cL A q ax (4000000) go hy N0 (8) (0) gs (0) tg (q_tellN go) (q_tellC go) nr rn rd H)) (O' := (fun (u : (Nat × (Nat → Int32) × Nat × (Nat → Int32) × (Nat → Int32))) A H => OBJ D cI cJ cC cL A q ax (4000000 + 3000000) go hy N0 (8) (0) gs (0) tg (u.1) (u.2.1) (u.2.2.1) (u.2.2.2.1) (u.2.2.2.2) H)) (F := (OA q ax)) (As := [.ref q]) (rest := []) hF (c_L_refused l D cI cJ cC cL q ax (4000000) go hy N0 (8) (0) gs tg (q_tellN go) (q_tellC go) nr rn rd hn9 hk0 (by decide) _) (va_cwS 1 hts gL_law_L_refused rfl rfl rfl (by decide +kernel) ⟨Nat.le_of_ble_eq_true rfl, Nat.le_of_ble_eq_true rfl⟩) rfl hl rfl (Nat.le_of_ble_eq_true rfl) dL_law_641 ⟨Nat.le_of_ble_eq_true rfl, Nat.le_of_ble_eq_true rfl⟩ hK hN (KX_XS) (X_at KX_XS hXS hS hsub) (OBJ_at hO _) hS (hsub) (fun r v9 H locs hr hO1 hS hz hk => ?_)
  have hO := OBJ_to hO1 hsub
  clear hsub hO1
  obtain ⟨nL2, lc2, nr2, rn2, rd2⟩ := v9
  dsimp only at hO
  subst hr
  have hO : OBJ D cI cJ cC cL A q ax (7000000) go hy N0 (8) (0) gs (0) tg nL2 lc2 nr2 rn2 rd2 H := hO
  refine lv_if_ne (tgt := 649) hx hb dL_law_644 (by decide) (fun _ => ?_) (fun hq => absurd hq n10)
  refine lv_aload_n hx hb dL_law_649 rfl (lv_at hl 1 rfl) ?_
  refine oc_save hF (cwV 0 hts gL_law_X9_save rfl rfl rfl (by decide +kernel) ⟨Nat.le_of_ble_eq_true rfl, Nat.le_of_ble_eq_true rfl⟩) (Nat.le_of_ble_eq_true rfl) hl (Nat.le_of_ble_eq_true rfl) dL_law_650 ⟨Nat.le_of_ble_eq_true rfl, Nat.le_of_ble_eq_true rfl⟩ hK hN hXS hA hO hS (fun H locs hO hS hz hk => ?_)
  rw [hn9]
  refine lv_istore (lv' := [(5, .int (nI 9)), (3, .long (fAsk go)), (2, .ref q), (0, .ref b)]) hx hb dL_law_653 hl (by decide) rfl (fun ls hl => ?_)
  refine lv_iload hx hb dL_law_655 (lv_at hl 0 rfl) ?_
  refine lv_bipush (v := nI 9) hx hb dL_law_657 (by decide) ?_
  refine lv_icmp_ne (tgt := 671) hx hb dL_law_659 (by decide) (fun hq => absurd rfl hq) (fun _ => ?_)
  refine lv_aload_n hx hb dL_law_662 rfl (lv_at hl 2 rfl) ?_
  have hB9 : 7000000 < 2 ^ 31 := by omega
  have hsub := OBJ_sub hO (fun z h => hA z (Nat.le_trans hS.1 h))
  refine lc_l (X := XS) (O := (fun A H => OBJ D cI cJ cC cL A q ax (7000000) go hy N0 (8) (1) go (0) tg nL2 lc2 nr2 rn2 rd2 H)) (O' := (fun _ => (fun A H => OBJ D cI cJ cC cL A q ax (7000000) go hy N0 (8) (1) go (0) tg (q_tellN go) (q_tellC go) nr2 rn2 rd2 H))) (F := (OA q ax)) (As := [.ref q]) (rest := []) hF (c_L_asks l D cI cJ cC cL q ax (7000000) go hy N0 (8) (1) go (0) tg nL2 lc2 nr2 rn2 rd2 hB9 _) (va_cwS 1 hts gL_law_L_asks rfl rfl rfl (by decide +kernel) ⟨Nat.le_of_ble_eq_true rfl, Nat.le_of_ble_eq_true rfl⟩) rfl hl rfl (Nat.le_of_ble_eq_true rfl) dL_law_663 ⟨Nat.le_of_ble_eq_true rfl, Nat.le_of_ble_eq_true rfl⟩ hK hN (KX_XS) (X_at KX_XS hXS hS hsub) (OBJ_at hO _) hS (hsub) (fun r v9 H locs hr hO1 hS hz hk => ?_)
  have hO := OBJ_to hO1 hsub
  clear hsub hO1
  subst hr
  clear hB9
  refine lv_lload_n hx hb dL_law_666 rfl (lv_at hl 1 rfl) ?_
  refine W.lcmp hx hb dL_law_667 ?_
  refine lv_if_eq (tgt := 673) hx hb dL_law_668 (by decide) (fun _ => ?_) (fun hq => absurd ((lgc0 _ _).2 rfl) hq)
  refine lv_bipush (v := nI 11) hx hb dL_law_673 (by decide) ?_
  obtain ⟨Wd, hP1, hD1, had, hback⟩ := OBJ_W hO
  refine va_newa (atype := .long) (ty := .long) (N' := 11) (a0 := (11, .inr (.inl (fun _ => 0)))) hx hb (hts (.arrayClass .long) (by decide +kernel)) rfl hK hP1 hD1 hS hA (fun _ => rfl) (by decide) (by decide) (Nat.le_of_ble_eq_true rfl) (Nat.le_of_ble_eq_true rfl) (Nat.le_of_ble_eq_true rfl) dL_law_675 (fun aw cA H hK2 hP hD hS => ?_)
  have hcA := (jarr_prim (t := 1) rfl hK2 hK rfl).symm
  subst hcA
  clear hK2
  have hO := hback A H (vP_left hP) (vD_left hD)
  have hW := vP_right hP
  have hA1 := (vD_right hD).2 0 _ rfl
  have haw : ¬ aw ∈ q :: (List.range 68).map ax := fun h9 => AR_not hD had h9
  refine lv_astore (lv' := [(6, .ref aw), (5, .int (nI 9)), (3, .long (fAsk go)), (2, .ref q), (0, .ref b)]) hx hb dL_law_677 hl (by decide) rfl (fun ls hl => ?_)
  refine lv_iconst (v := nI 0) hx hb dL_law_679 (by decide) ?_
  refine lv_istore (lv' := [(7, .int (nI 0)), (6, .ref aw), (5, .int (nI 9)), (3, .long (fAsk go)), (2, .ref q), (0, .ref b)]) hx hb dL_law_680 hl (by decide) rfl (fun ls hl => ?_)
  refine lv_iconst (v := nI 0) hx hb dL_law_682 (by decide) ?_
  refine lv_istore (lv' := [(8, .int (nI 0)), (7, .int (nI 0)), (6, .ref aw), (5, .int (nI 9)), (3, .long (fAsk go)), (2, .ref q), (0, .ref b)]) hx hb dL_law_683 hl (by decide) rfl (fun ls hl => ?_)
  exact law_o1 hn9 C0 hend hA1 haw 10 0 0 _ _ 7000000 (fun _ => 0) go hy _ _ _ _ _ H locs _ (by omega) (by omega) (Nat.le_of_ble_eq_true rfl) (Nat.le_of_ble_eq_true rfl) (by decide) (fun j hj => absurd hj (Nat.not_lt_zero j)) hW hO hS (lv_sub hl [0, 2, 1, 5, 4, 3, 6] rfl)
set_option maxHeartbeats 8000000 in
set_option maxRecDepth 100000 in
theorem law_om {p : Program} {l : Launch} {e : Env} {s : State} {m : MethodId} {b : Nat} {below : List Frame} {meth : Method} {c : Code} {D : va_G} {cI cJ cC cL : ClassId} {L : Nat} {xs : Nat → Int32} {Q : State → Prop} {A : Nat → Prop} {q : Nat} {ax tg : Nat → Nat} (C0 : LCx p s m c b L xs D cI cJ cC cL A) (hend : ∀ (cc sl : Nat) (H : Heap) (locs : List Loc) (ls : Array Slot), cc ≤ 1000 → sl ≤ 100000 → va_S A s.heap H locs → W p l e room_1 s m #[Value.ref b] below meth c H locs cc sl Q (F0 m 871 ls [.int (nI 1)])) {gs : Nat → Nat} {hy : Nat → Nat → Nat} {nL nr : Nat} {lc rn rd : Nat → Int32} (H : Heap) (locs : List Loc) (ls : Array Slot) (hO : OBJ D cI cJ cC cL A q ax (0) gz hy (0) (0) (0) gs (0) tg nL lc nr rn rd H) (hS : va_S A s.heap H locs) (hl : lv_has ls 11 [(2, .ref q), (0, .ref b)]) : W p l e room_1 s m #[Value.ref b] below meth c H locs 138 3146 Q (F0 m 616 ls []) := by
  have C1 := C0
  obtain ⟨hx, hb, hml, hown, hts, hXs, hK, hN, hXS, hXN, hXC, hAO, hL31, hA⟩ := C1
  have hL := hL31
  have hF : CallFix p m c cL_law 11 s #[Value.ref b] wsL_law RL := ⟨hx, hb, hml, hown, hts⟩
  refine lv_aload_n hx hb dL_law_616 rfl (lv_at hl 0 rfl) ?_
  refine lv_aload_n hx hb dL_law_617 rfl (lv_at hl 1 rfl) ?_
  have hsub := OBJ_sub hO (fun z h => hA z (Nat.le_trans hS.1 h))
  refine lc_i (X := (fun A U H => XS A U H ∧ XScr b L xs A U H)) (O := (fun A H => OBJ D cI cJ cC cL A q ax (0) gz hy (0) (0) (0) gs (0) tg nL lc nr rn rd H)) (O' := (fun (u : ((Nat → Nat) × (Nat → Nat → Nat) × Nat × Nat × Nat × (Nat → Int32) × (Nat → Int32))) A H => OBJ D cI cJ cC cL A q ax (0 + 4000000) (u.1) (u.2.1) (u.2.2.1) (u.2.2.2.1) (0) gs (0) tg nL lc (u.2.2.2.2.1) (u.2.2.2.2.2.1) (u.2.2.2.2.2.2) H)) (F := (OA q ax)) (As := [.ref q, .ref b]) (rest := []) hF (c_L_makes l D cI cJ cC cL q ax (0) hy (0) gs tg nL lc nr rn rd b L xs hL31 _) (va_cwS 2 hts gL_law_L_makes rfl rfl rfl (by decide +kernel) ⟨Nat.le_of_ble_eq_true rfl, Nat.le_of_ble_eq_true rfl⟩) rfl hl rfl (Nat.le_of_ble_eq_true rfl) dL_law_618 ⟨Nat.le_of_ble_eq_true rfl, Nat.le_of_ble_eq_true rfl⟩ hK hN ((KX_and KX_XS KX_Scr)) (X_at (KX_and KX_XS KX_Scr) (show XS A s s.heap ∧ XScr b L xs A s s.heap from ⟨hXS, hXs⟩) hS hsub) (OBJ_at hO _) hS (hsub) (fun r v9 H locs hr hO1 hS hz hk => ?_)
  have hO := OBJ_to hO1 hsub
  clear hsub hO1
  obtain ⟨go, hyo, No, uo, nro, rno, rdo⟩ := v9
  obtain ⟨rfl, hn9, hk0, hu8⟩ := hr
  dsimp only at hn9 hk0 hu8 hO
  subst hu8
  refine lv_if_ne (tgt := 626) hx hb dL_law_621 (by decide) (fun _ => ?_) (fun hq => absurd hq n10)
  exact law_o0 hn9 hk0 C0 hend H locs _ hO hS (lv_sub hl [0, 1] rfl)

/-! LINES -/
/-- n signs, alike in both lines -/
def WL (n : Nat) (ls ln : Nat → Int32) : Prop := n ≤ 32 ∧ ∀ i, i < n → ls i = ln i
theorem nar_c {v : Nat} (h : v < 128) : vp_nar .char (nI v) = nI v := by
  have := pk_vc (nI v &&& 255)
  rwa [ch_eq h] at this
theorem X3_add {n v : Nat} (hn : n < 32) (hv : v < 128) (ls : Nat → Int32) : J_X3_add (nI n) ls (nI v) = some (nI (n + 1), upd ls n (nI v)) := by
  unfold J_X3_add J_X3_add_b36
  simp (disch := omega) only [↓reduceIte, nm_x, chk_nI, chz_0, chz_1, chz_b2, chn_nI, oi_1, oi_2, oi_m1, il_0, il_1, il_2, il_3, il_4, il_5, il_6, il_7, il_8, il_9, il_10, il_11, il_12, il_13, il_14, il_15, il_16, il_32, il_35, il_40, il_41, il_42, il_43, il_44, il_45, il_46, il_48, il_57, il_58, il_59, il_60, il_99, il_104, il_115, il_116, il_119, il_126, il_133, il_255, il_256, il_512, il_931, il_1000, il_65536, bn0, bn1, bn2, bn3, bn4, bn5, bn6, bn7, bn8, bn9, bn10, bn11, bn12, bn13, bn14, bn15, nI_leI, nI_ltI, nI_eq, nI_clamp, nI_add, pk_mul, nI_lt0, ng_lt0, ng_ge0, ng_eqn, ng_neq, ng_len, ng_eq, sV_m1, sV_lt0, sV_ge0, if_true, if_false, Nat.le_refl, Nat.lt_irrefl, Nat.not_lt_zero, Nat.zero_le, not_true_eq_false, not_false_eq_true, false_and, true_and, and_true, and_false, true_or, or_true, false_or, or_false, reduceCtorEq, show ¬ 32 ≤ n by omega]
  rw [nar_c hv]
theorem WL.add {n : Nat} {ls ln : Nat → Int32} (h : WL n ls ln) (hn : n < 32) (v : Int32) : WL (n + 1) (upd ls n v) (upd ln n v) := ⟨by omega, fun i hi => by
  unfold upd
  split
  · rfl
  · exact h.2 i (by omega)⟩
theorem dg_lo : ∀ v, v < 100 → nI 48 + (nI v - nI v / nI 10 * nI 10) = nI (48 + v % 10) := by decide +kernel
theorem dg_hi : ∀ v, v < 100 → nI 48 + nI v / nI 10 = nI (48 + v / 10) := by decide +kernel
theorem ch_nI {c : Nat} (hc : c < 65536) : ((nI c).toUInt32 % 65536).toInt32 = nI c := by
  rw [pk_char, pk_tn (by omega), Nat.mod_eq_of_lt hc]
theorem chn10 {β : Type} (b : Option β) : chn (nI 10) b = b := by
  unfold chn
  rw [if_neg (by decide +kernel)]
theorem number_both {n v : Nat} {ls ln : Nat → Int32} (h : WL n ls ln) (hv : v < 100) (hn : n + 2 ≤ 32) : ∃ n' ls' ln', J_X3_addNumber (nI n) ls (nI v) = some (nI n', ls') ∧ J_X10_writesNumber (nI n) ln (nI v) = some (nI n', ln') ∧ WL n' ls' ln' ∧ n < n' ∧ n' ≤ n + 2 ∧ (v ≤ 9 → n' ≤ n + 1) := by
  unfold J_X3_addNumber J_X3_addNumber_b18 J_X10_writesNumber J_X10_writesNumber_b29
  have hlo := dg_lo v hv
  have hhi := dg_hi v hv
  by_cases h9 : v ≤ 9
  · simp (disch := omega) only [il_0, il_1, il_2, il_3, il_4, il_5, il_6, il_7, il_8, il_9, il_10, il_11, il_12, il_13, il_14, il_15, il_16, il_32, il_35, il_40, il_41, il_42, il_43, il_44, il_45, il_46, il_48, il_57, il_58, il_59, il_60, il_99, il_104, il_115, il_116, il_119, il_126, il_133, il_255, il_256, il_512, il_931, il_1000, il_65536, chn10, nm_x, hlo, hhi]
    rw [if_pos (show nI v < nI 10 by rw [nI_ltI (by omega) (by omega)]; omega), if_pos (show nI v ≤ nI 9 by rw [nI_leI (by omega) (by omega)]; omega), ch_nI (by omega), X3_add (by omega) (by omega), bn2, chk_nI (by omega) (by omega), nI_clamp (by omega), nI_add]
    exact ⟨n + 1, _, _, rfl, rfl, h.add (by omega) _, by omega, by omega, by omega⟩
  · simp (disch := omega) only [il_0, il_1, il_2, il_3, il_4, il_5, il_6, il_7, il_8, il_9, il_10, il_11, il_12, il_13, il_14, il_15, il_16, il_32, il_35, il_40, il_41, il_42, il_43, il_44, il_45, il_46, il_48, il_57, il_58, il_59, il_60, il_99, il_104, il_115, il_116, il_119, il_126, il_133, il_255, il_256, il_512, il_931, il_1000, il_65536, chn10, nm_x, hlo, hhi]
    rw [if_neg (show ¬ nI v < nI 10 by rw [nI_ltI (by omega) (by omega)]; omega), if_neg (show ¬ nI v ≤ nI 9 by rw [nI_leI (by omega) (by omega)]; omega), ch_nI (by omega), X3_add (by omega) (by omega), bn2, ch_nI (by omega), X3_add (by omega) (by omega), bn2, chk_nI (by omega) (by omega), nI_clamp (by omega), nI_add, chk_nI (by omega) (by omega), nI_clamp (by omega), nI_add]
    exact ⟨n + 1 + 1, _, _, rfl, rfl, (h.add (by omega) _).add (by omega) _, by omega, by omega, by omega⟩
theorem word_both {ws : List Nat} (hc : ∀ i, i < ws.length → ws.getD i 0 < 128) : ∀ d nf nf' i n (ls ln : Nat → Int32), i + d = ws.length → d < nf → d < nf' → n + d ≤ 32 → WL n ls ln → ws.length < 100 → ∃ ls' ln', J_X3_addWord_L2 (ws.map nI) nf (nI n) ls (nI i) = some (nI (n + d), ls') ∧ J_X10_writes_L2 (ws.map nI) nf' (nI n) ln (nI i) = some (nI (n + d), ln') ∧ WL (n + d) ls' ln' := by
  intro d
  induction d with
  | zero =>
    intro nf nf' i n ls ln hi hd hd' hn h hw
    obtain ⟨m, rfl, -⟩ := nf_of hd
    obtain ⟨m', rfl, -⟩ := nf_of hd'
    obtain rfl : i = ws.length := by omega
    rw [J_X3_addWord_L2, J_X10_writes_L2, str_len (by omega), bn1, if_pos (by rw [nI_leI (by omega) (by omega)]; omega), bn1, if_pos (by rw [nI_leI (by omega) (by omega)]; omega)]
    exact ⟨_, _, rfl, rfl, h⟩
  | succ d ih =>
    intro nf nf' i n ls ln hi hd hd' hn h hw
    obtain ⟨m, rfl, hm⟩ := nf_of hd
    obtain ⟨m', rfl, hm'⟩ := nf_of hd'
    have hil : i < ws.length := by omega
    have hci := hc i hil
    rw [J_X3_addWord_L2, J_X10_writes_L2, str_len (by omega), bn1, if_neg (by rw [nI_leI (by omega) (by omega)]; omega), bn1, if_neg (by rw [nI_leI (by omega) (by omega)]; omega), str_at (by omega) hil hci, bn1, X3_add (by omega) hci, bn2]
    simp (disch := omega) only [↓reduceIte, nm_x, chk_nI, chz_0, chz_1, chz_b2, chn_nI, oi_1, oi_2, oi_m1, il_0, il_1, il_2, il_3, il_4, il_5, il_6, il_7, il_8, il_9, il_10, il_11, il_12, il_13, il_14, il_15, il_16, il_32, il_35, il_40, il_41, il_42, il_43, il_44, il_45, il_46, il_48, il_57, il_58, il_59, il_60, il_99, il_104, il_115, il_116, il_119, il_126, il_133, il_255, il_256, il_512, il_931, il_1000, il_65536, bn0, bn1, bn2, bn3, bn4, bn5, bn6, bn7, bn8, bn9, bn10, bn11, bn12, bn13, bn14, bn15, nI_leI, nI_ltI, nI_eq, nI_clamp, nI_add, pk_mul, nI_lt0, ng_lt0, ng_ge0, ng_eqn, ng_neq, ng_len, ng_eq, sV_m1, sV_lt0, sV_ge0, if_true, if_false, Nat.le_refl, Nat.lt_irrefl, Nat.not_lt_zero, Nat.zero_le, not_true_eq_false, not_false_eq_true, false_and, true_and, and_true, and_false, true_or, or_true, false_or, or_false, reduceCtorEq]
    obtain ⟨ls', ln', e1, e2, e3⟩ := ih m m' (i + 1) (n + 1) _ _ (by omega) hm hm' (by omega) (h.add (by omega) (nI (ws.getD i 0))) hw
    rw [show n + 1 + d = n + (d + 1) by omega] at e1 e2 e3
    exact ⟨ls', ln', e1, e2, e3⟩
theorem writes1 {n c : Nat} (hn : n < 32) (hc : c < 128) (ln : Nat → Int32) : J_X10_writes (nI n) ln [nI c] = some (nI (n + 1), upd ln n (nI c)) := by
  unfold J_X10_writes
  obtain ⟨m, hm⟩ : ∃ m, FU = m + 1 + 1 := ⟨998, rfl⟩
  have e := str_at (ws := [c]) (by show 1 < 2 ^ 31; omega) (i := 0) (by show 0 < 1; omega) hc
  have e0 := str_len (ws := [c]) (by show 1 < 2 ^ 31; omega)
  rw [show ([c] : List Nat).map nI = [nI c] from rfl] at e e0
  rw [hm, J_X10_writes_L2, e0, bn1, il_0, if_neg (show ¬ nI [c].length ≤ nI 0 from by show ¬ nI 1 ≤ nI 0; decide +kernel), e, il_1, nI_add, nm_x, bn1, chk_nI (by omega) (by omega), nI_clamp (by omega), oi_1, nI_add, nm_x, J_X10_writes_L2, e0, bn1, if_pos (show nI [c].length ≤ nI (0 + 1) from by show nI 1 ≤ nI 1; decide +kernel)]
  rfl
/-- a kind's word -/
def KW (k : Nat) : List Nat := if k = 0 then [115, 119, 105, 116, 99, 104] else if k = 1 then [110, 111, 116] else if k = 2 then [97, 110, 100] else if k = 3 then [111, 114] else if k = 4 then [117, 110, 108, 105, 107, 101] else if k = 5 then [109, 111, 115, 116] else [97, 108, 105, 107, 101]
theorem KW_c (k : Nat) (h : k ≤ 6) : ∃ w, J_X9_wordOf (nI k) = some w ∧ strB_X9_wordOf w = (KW k).map nI := by
  rcases (show k = 0 ∨ k = 1 ∨ k = 2 ∨ k = 3 ∨ k = 4 ∨ k = 5 ∨ k = 6 by omega) with rfl | rfl | rfl | rfl | rfl | rfl | rfl <;> exact ⟨_, rfl, rfl⟩
theorem KW_m (k : Nat) (h : k ≤ 6) : ∃ w, J_X10_kindWord (nI k) = some w ∧ strB_X10_kindWord w = (KW k).map nI := by
  rcases (show k = 0 ∨ k = 1 ∨ k = 2 ∨ k = 3 ∨ k = 4 ∨ k = 5 ∨ k = 6 by omega) with rfl | rfl | rfl | rfl | rfl | rfl | rfl <;> exact ⟨_, rfl, rfl⟩
theorem KW_le (k : Nat) : (KW k).length ≤ 6 ∧ ∀ i, i < (KW k).length → (KW k).getD i 0 < 128 := by
  unfold KW
  (repeat' split) <;> decide
section Line
variable {g : Nat → Nat} {c al ti tc se : Int32} {st : Int64} {k w so ch nw : Nat → Int32}
theorem tell_L (hG : GV g) (hE : ER g st) (hM : MR g nw) : ∀ d nf nf' i (ls ln : Nat → Int32), i + d = g 0 → d < nf → d < nf' → WL i ls ln → ∃ ls' ln', J_X9_tell_L9 (nI (g 0)) st nf (nI i) ls (nI i) = some (nI (g 0), nI (g 0), ls') ∧ J_X10_tell_L7 nw nf' (nI i) ln (nI i) = some (nI (g 0), nI (g 0), ln') ∧ WL (g 0) ls' ln' := by
  have h16 := hG.1
  intro d
  induction d with
  | zero =>
    intro nf nf' i ls ln hi hd hd' h
    obtain ⟨m, rfl, -⟩ := nf_of hd
    obtain ⟨m', rfl, -⟩ := nf_of hd'
    obtain rfl : i = g 0 := by omega
    rw [J_X9_tell_L9, J_X10_tell_L7]
    unfold J_X2_count J_X3_length
    simp (disch := omega) only [↓reduceIte, nm_x, chk_nI, chz_0, chz_1, chz_b2, chn_nI, oi_1, oi_2, oi_m1, il_0, il_1, il_2, il_3, il_4, il_5, il_6, il_7, il_8, il_9, il_10, il_11, il_12, il_13, il_14, il_15, il_16, il_32, il_35, il_40, il_41, il_42, il_43, il_44, il_45, il_46, il_48, il_57, il_58, il_59, il_60, il_99, il_104, il_115, il_116, il_119, il_126, il_133, il_255, il_256, il_512, il_931, il_1000, il_65536, bn0, bn1, bn2, bn3, bn4, bn5, bn6, bn7, bn8, bn9, bn10, bn11, bn12, bn13, bn14, bn15, nI_leI, nI_ltI, nI_eq, nI_clamp, nI_add, pk_mul, nI_lt0, ng_lt0, ng_ge0, ng_eqn, ng_neq, ng_len, ng_eq, sV_m1, sV_lt0, sV_ge0, if_true, if_false, Nat.le_refl, Nat.lt_irrefl, Nat.not_lt_zero, Nat.zero_le, not_true_eq_false, not_false_eq_true, false_and, true_and, and_true, and_false, true_or, or_true, false_or, or_false, reduceCtorEq, hM 0 (by omega)]
    exact ⟨_, _, rfl, rfl, h⟩
  | succ d ih =>
    intro nf nf' i ls ln hi hd hd' h
    obtain ⟨m, rfl, hm⟩ := nf_of hd
    obtain ⟨m', rfl, hm'⟩ := nf_of hd'
    rw [J_X9_tell_L9, J_X10_tell_L7]
    unfold J_X2_count J_X3_length J_X9_tell_b42 J_X10_tell_b49
    have q2 := (GV_l hG (l := i) (by omega)).2.2.1
    rw [X2_isGlowing hE (by omega), il_2, X10_of hM (by omega) (by omega)]
    simp (disch := omega) only [↓reduceIte, nm_x, chk_nI, chz_0, chz_1, chz_b2, chn_nI, oi_1, oi_2, oi_m1, il_0, il_1, il_2, il_3, il_4, il_5, il_6, il_7, il_8, il_9, il_10, il_11, il_12, il_13, il_14, il_15, il_16, il_32, il_35, il_40, il_41, il_42, il_43, il_44, il_45, il_46, il_48, il_57, il_58, il_59, il_60, il_99, il_104, il_115, il_116, il_119, il_126, il_133, il_255, il_256, il_512, il_931, il_1000, il_65536, bn0, bn1, bn2, bn3, bn4, bn5, bn6, bn7, bn8, bn9, bn10, bn11, bn12, bn13, bn14, bn15, nI_leI, nI_ltI, nI_eq, nI_clamp, nI_add, pk_mul, nI_lt0, ng_lt0, ng_ge0, ng_eqn, ng_neq, ng_len, ng_eq, sV_m1, sV_lt0, sV_ge0, if_true, if_false, Nat.le_refl, Nat.lt_irrefl, Nat.not_lt_zero, Nat.zero_le, not_true_eq_false, not_false_eq_true, false_and, true_and, and_true, and_false, true_or, or_true, false_or, or_false, reduceCtorEq, hM 0 (by omega), show ¬ g 0 ≤ i by omega, b2_0, gw]
    rcases (show GA g i 2 = 0 ∨ GA g i 2 = 1 by omega) with q | q
    · rw [q]
      simp (disch := omega) only [↓reduceIte, nm_x, chk_nI, chz_0, chz_1, chz_b2, chn_nI, oi_1, oi_2, oi_m1, il_0, il_1, il_2, il_3, il_4, il_5, il_6, il_7, il_8, il_9, il_10, il_11, il_12, il_13, il_14, il_15, il_16, il_32, il_35, il_40, il_41, il_42, il_43, il_44, il_45, il_46, il_48, il_57, il_58, il_59, il_60, il_99, il_104, il_115, il_116, il_119, il_126, il_133, il_255, il_256, il_512, il_931, il_1000, il_65536, bn0, bn1, bn2, bn3, bn4, bn5, bn6, bn7, bn8, bn9, bn10, bn11, bn12, bn13, bn14, bn15, nI_leI, nI_ltI, nI_eq, nI_clamp, nI_add, pk_mul, nI_lt0, ng_lt0, ng_ge0, ng_eqn, ng_neq, ng_len, ng_eq, sV_m1, sV_lt0, sV_ge0, if_true, if_false, Nat.le_refl, Nat.lt_irrefl, Nat.not_lt_zero, Nat.zero_le, not_true_eq_false, not_false_eq_true, false_and, true_and, and_true, and_false, true_or, or_true, false_or, or_false, reduceCtorEq, show ¬ 0 = 1 by omega, decide_true, decide_false]
      rw [X3_add (by omega) (by omega), bn2]
      exact ih m m' (i + 1) _ _ (by omega) hm hm' (h.add (by omega) (nI 46))
    · rw [q]
      simp (disch := omega) only [↓reduceIte, nm_x, chk_nI, chz_0, chz_1, chz_b2, chn_nI, oi_1, oi_2, oi_m1, il_0, il_1, il_2, il_3, il_4, il_5, il_6, il_7, il_8, il_9, il_10, il_11, il_12, il_13, il_14, il_15, il_16, il_32, il_35, il_40, il_41, il_42, il_43, il_44, il_45, il_46, il_48, il_57, il_58, il_59, il_60, il_99, il_104, il_115, il_116, il_119, il_126, il_133, il_255, il_256, il_512, il_931, il_1000, il_65536, bn0, bn1, bn2, bn3, bn4, bn5, bn6, bn7, bn8, bn9, bn10, bn11, bn12, bn13, bn14, bn15, nI_leI, nI_ltI, nI_eq, nI_clamp, nI_add, pk_mul, nI_lt0, ng_lt0, ng_ge0, ng_eqn, ng_neq, ng_len, ng_eq, sV_m1, sV_lt0, sV_ge0, if_true, if_false, Nat.le_refl, Nat.lt_irrefl, Nat.not_lt_zero, Nat.zero_le, not_true_eq_false, not_false_eq_true, false_and, true_and, and_true, and_false, true_or, or_true, false_or, or_false, reduceCtorEq, decide_true, decide_false, Bool.true_eq_false]
      rw [X3_add (by omega) (by omega), bn2]
      exact ih m m' (i + 1) _ _ (by omega) hm hm' (h.add (by omega) (nI 35))
theorem tell_both (hG : GV g) (hC : CR g c st al ti tc se k w so ch) (hM : MR g nw) (lc lm : Int32) (ls ln : Nat → Int32) : ∃ n' ls' ln', J_X9_tell c st lc ls = some (nI n', nI n', ls') ∧ J_X10_tell lm nw ln = some (nI n', nI n', ln') ∧ WL n' ls' ln' := by
  have h16 := hG.1
  unfold J_X9_tell J_X3_empty J_X10_tell
  obtain ⟨ls', ln', e1, e2, e3⟩ := tell_L hG hC.2.1 hM (g 0) FU FU 0 ls ln (by omega) (by unfold FU; omega) (by unfold FU; omega) ⟨Nat.zero_le _, fun i hi => absurd hi (Nat.not_lt_zero i)⟩
  rw [bn1, il_0, hC.1.1]
  exact ⟨g 0, ls', ln', e1, e2, e3⟩
theorem wires_L (hG : GV g) (hS : SR g c k w so) (hM : MR g nw) {l : Nat} (hl : l < g 0) (hk : GA g l 0 ≠ 0) : ∀ d nf nf' p n (ls ln : Nat → Int32), p + d = plc (GA g l 0) → d < nf → d < nf' → n + 3 * d + 2 ≤ 32 → WL n ls ln → ∃ n' ls' ln', J_X9_addWires_L14 c k so (nI l) nf (nI n) ls (nI (plc (GA g l 0))) (nI p) = some (nI n', ls') ∧ J_X10_tellLantern_L53 nw (nI l) nf' (nI n) ln (nI p) = J_X10_tellLantern_b129 nw (nI l) (nI n') ln' ∧ WL n' ls' ln' ∧ n' ≤ n + 3 * d + 1 := by
  have h16 := hG.1
  have hp3 := plc_le (GA g l 0)
  intro d
  induction d with
  | zero =>
    intro nf nf' p n ls ln hp hd hd' hn h
    obtain ⟨m, rfl, -⟩ := nf_of hd
    obtain ⟨m', rfl, -⟩ := nf_of hd'
    obtain rfl : p = plc (GA g l 0) := by omega
    rw [J_X9_addWires_L14, J_X10_tellLantern_L53, X10_places hG hM (by omega), if_pos (by rw [nI_leI (by omega) (by omega)]; omega), bn1, if_pos (by rw [nI_leI (by omega) (by omega)]; omega), X10_isSwitch hG hM (by omega), bn1, decide_eq_false hk, b2_f, if_pos (show nI 0 = (0 : Int32) from rfl), il_41, X3_add (by omega) (by omega), bn2, writes1 (by omega) (by omega), bn2]
    exact ⟨n + 1, _, _, rfl, rfl, h.add (by omega) _, by omega⟩
  | succ d ih =>
    intro nf nf' p n ls ln hp hd hd' hn h
    obtain ⟨m, rfl, hm⟩ := nf_of hd
    obtain ⟨m', rfl, hm'⟩ := nf_of hd'
    have hnp : ¬ nI (plc (GA g l 0)) ≤ nI p := by rw [nI_leI (by omega) (by omega)]; omega
    rw [J_X9_addWires_L14, J_X10_tellLantern_L53, X10_places hG hM (by omega), if_neg hnp, bn1, if_neg hnp]
    have go : ∀ s, s < 128 → ∃ n' ls' ln', J_X9_addWires_b34 (fun z0 z1 z2 z3 => J_X9_addWires_L14 c k so (nI l) m z0 z1 z2 z3) c k so (nI l) (nI n) ls (nI (plc (GA g l 0))) (nI p) (nI s) = some (nI n', ls') ∧ J_X10_tellLantern_b76 (fun z0 z1 z2 => J_X10_tellLantern_L53 nw (nI l) m' z0 z1 z2) nw (nI l) (nI n) ln (nI p) [nI s] = J_X10_tellLantern_b129 nw (nI l) (nI n') ln' ∧ WL n' ls' ln' ∧ n' ≤ n + 3 * (d + 1) + 1 := by
      intro s hs
      unfold J_X9_addWires_b34 J_X9_addWires_b75 J_X10_tellLantern_b76 J_X10_tellLantern_b108
      have hsp := ((GV_l hG (l := l) (by omega)).2.2.2.2 p (by omega))
      rw [X3_add (by omega) hs, bn2, writes1 (by omega) hs, bn2, X2_sourceOf hS (by omega) (by omega), X10_wired hM (by omega) (by omega), bn1, bn1, bn1]
      have h1 := h.add (by omega) (nI s)
      by_cases hz : src g l p = 0
      · rw [hz, if_pos (show sV 0 = (-1 : Int32) from rfl), if_neg (show ¬ (0 : Int32) ≤ sV 0 by decide +kernel), il_45, X3_add (by omega) (by omega), bn2, writes1 (by omega) (by omega), bn2, oi_1, nI_add, nm_x, nm_x]
        obtain ⟨n', ls', ln', e1, e2, e3, e4⟩ := ih m m' (p + 1) (n + 1 + 1) _ _ (by omega) hm hm' (by omega) (h1.add (by omega) (nI 45))
        exact ⟨n', ls', ln', e1, e2, e3, by omega⟩
      · obtain ⟨n2, ls2, ln2, f1, f2, f3, f4, f5, f6⟩ := number_both (v := src g l p - 1) h1 (by omega) (by omega)
        rw [sV_s hz, if_neg (show ¬ nI (src g l p - 1) = (-1 : Int32) from fun q => (ng_neq (by omega) (by omega) (by omega)).1 (show nI (src g l p - 1) = -nI 1 from q)), if_pos (show (0 : Int32) ≤ nI (src g l p - 1) by rw [il_0, nI_leI (by omega) (by omega)]; omega), f1, bn2, f2, bn2, oi_1, nI_add, nm_x, nm_x]
        obtain ⟨n', ls', ln', e1, e2, e3, e4⟩ := ih m m' (p + 1) n2 _ _ (by omega) hm hm' (by omega) f3
        exact ⟨n', ls', ln', e1, e2, e3, by omega⟩
    by_cases hz : p = 0
    · rw [if_pos (show nI p = (0 : Int32) by rw [hz]; rfl), if_pos (show nI p = (0 : Int32) by rw [hz]; rfl), il_40]
      exact go 40 (by omega)
    · rw [if_neg (show ¬ nI p = (0 : Int32) by rw [il_0, nI_eq (by omega) (by omega)]; exact hz), if_neg (show ¬ nI p = (0 : Int32) by rw [il_0, nI_eq (by omega) (by omega)]; exact hz), il_44]
      exact go 44 (by omega)
theorem tlend_both (hG : GV g) (hE : ER g st) (hM : MR g nw) {l n : Nat} (hl : l < g 0) (hn : n < 32) {ls ln : Nat → Int32} (h : WL n ls ln) : ∃ n' ls' ln', J_X9_tellLantern_b87 c st k w so (nI l) (nI n) ls = some (nI n', nI n', ls') ∧ J_X10_tellLantern_b129 nw (nI l) (nI n) ln = some (nI n', nI n', ln') ∧ WL n' ls' ln' := by
  have h16 := hG.1
  unfold J_X9_tellLantern_b87 J_X9_tellLantern_b107 J_X10_tellLantern_b129 J_X10_tellLantern_b146 J_X3_length
  have q2 := (GV_l hG (l := l) (by omega)).2.2.1
  rw [X2_isGlowing hE (by omega), il_2, X10_of hM (by omega) (by omega), gw]
  simp only [bn1]
  rcases (show GA g l 2 = 0 ∨ GA g l 2 = 1 by omega) with q | q
  · rw [q, decide_eq_false (show ¬ 0 = 1 by omega), b2_f, if_pos (show nI 0 = (0 : Int32) from rfl), if_neg (show ¬ nI 0 = (1 : Int32) by decide +kernel)]
    exact ⟨n, _, _, rfl, rfl, h⟩
  · rw [q, decide_eq_true (show 1 = 1 from rfl), b2_t, if_neg (show ¬ nI 1 = (0 : Int32) by decide +kernel), if_pos (show nI 1 = (1 : Int32) from rfl), il_35, X3_add hn (by omega), bn2, writes1 hn (by omega), bn2]
    exact ⟨n + 1, _, _, rfl, rfl, h.add hn _⟩
theorem tellLantern_both (hG : GV g) (hC : CR g c st al ti tc se k w so ch) (hM : MR g nw) {n : Nat} {ls ln : Nat → Int32} (h : WL n ls ln) (v1 : Int32) : ∃ n' x ls' ln', J_X9_tellLantern c st k w so (nI n) ls v1 = some (x, nI n', ls') ∧ J_X10_tellLantern (nI n) nw ln v1 = some (x, nI n', ln') ∧ WL n' ls' ln' := by
  have h16 := hG.1
  unfold J_X9_tellLantern J_X3_empty J_X10_tellLantern
  have hvl : (v1 < 0 ∨ nI (g 0) ≤ v1) ∨ ∃ l, l < g 0 ∧ v1 = nI l := by
    rcases pk_ix v1 (n := g 0) (by omega) with h | h | ⟨l, hl, rfl⟩
    · exact Or.inl (Or.inl h)
    · exact Or.inl (Or.inr h)
    · exact Or.inr ⟨l, hl, rfl⟩
  rcases hvl with hv | ⟨l, hl, rfl⟩
  · rw [hC.1.1, X2_isHung_f hv, bn1, if_pos (show nI 0 = (0 : Int32) from rfl), X10_isLantern_f hG hM hv, bn1, if_pos (show nI 0 = (0 : Int32) from rfl)]
    exact ⟨n, _, _, _, rfl, rfl, h⟩
  · have q := GV_l hG (l := l) (by omega)
    rw [hC.1.1, X2_isHung_t hl h16, bn1, if_neg (show ¬ nI 1 = (0 : Int32) by decide +kernel), X10_isLantern_t hG hM hl, bn1, bn1, if_neg (show ¬ nI 1 = (0 : Int32) by decide +kernel), ← hC.1.1]
    obtain ⟨n1, ls1, ln1, a1, a2, a3, a4, a5, a6⟩ := number_both (n := 0) (v := l) (ls := ls) (ln := ln) ⟨Nat.zero_le _, fun i hi => absurd hi (Nat.not_lt_zero i)⟩ (by omega) (by omega)
    rw [il_0, a1, a2, bn2, bn2, il_58, X3_add (by omega) (by omega), bn2, writes1 (by omega) (by omega), bn2, X2_kindOf hG hC.1 hl, X10_of hM (by omega) (show 0 < 8 by omega), bn1, bn1]
    have b3 := a3.add (by omega) (nI 58)
    obtain ⟨wc, k1, k2⟩ := KW_c (GA g l 0) q.1
    obtain ⟨wm, k3, k4⟩ := KW_m (GA g l 0) q.1
    obtain ⟨l6, l7⟩ := KW_le (GA g l 0)
    rw [k1, k3, bn1, bn1, k2, k4]
    obtain ⟨ls2, ln2, c1, c2, c3⟩ := word_both l7 (KW (GA g l 0)).length FU FU 0 (n1 + 1) _ _ (by omega) (by unfold FU; omega) (by unfold FU; omega) (by omega) b3 (by omega)
    unfold J_X3_addWord J_X10_writes
    rw [il_0, c1, c2, bn2, bn2, X2_wickOf hG hC.1 hl, il_1, X10_of hM (by omega) (by omega), bn1, bn1]
    obtain ⟨n3, ls3, ln3, d1, d2, d3, d4, d5, d6⟩ := number_both (v := GA g l 1) c3 (by omega) (by omega)
    have d7 := d6 (by omega)
    rw [d1, d2, bn2, bn2, X2_isSwitch hG hC.1 hl, bn1]
    by_cases hk : GA g l 0 = 0
    · rw [decide_eq_true hk, b2_t, if_neg (show ¬ nI 1 = nI 0 by decide +kernel)]
      obtain ⟨n4, ls4, ln4, e1, e2, e3⟩ := tlend_both (c := c) (k := k) (w := w) (so := so) hG hC.2.1 hM hl (show n3 < 32 by omega) d3
      obtain ⟨m, hm⟩ : ∃ m, FU = m + 1 := ⟨999, rfl⟩
      have hp0 : plc (GA g l 0) = 0 := by rw [hk]; rfl
      rw [e1, hm, J_X10_tellLantern_L53, X10_places hG hM (by omega), hp0, bn1, if_pos (show nI 0 ≤ nI 0 by decide +kernel), X10_isSwitch hG hM (by omega), decide_eq_true hk, b2_t, bn1, if_neg (show ¬ nI 1 = (0 : Int32) by decide +kernel), e2]
      exact ⟨n4, _, _, _, rfl, rfl, e3⟩
    · have hp3 := plc_le (GA g l 0)
      obtain ⟨n4, ls4, ln4, e1, e2, e3, e4⟩ := wires_L hG hC.1 hM hl hk (plc (GA g l 0)) FU FU 0 n3 ls3 ln3 (by omega) (by unfold FU; omega) (by unfold FU; omega) (by omega) d3
      rw [decide_eq_false hk, b2_f, if_pos (show nI 0 = nI 0 from rfl)]
      unfold J_X9_addWires
      rw [X2_kindOf hG hC.1 hl, bn1, X9_placesOf q.1, bn1, il_0, e1, bn2, e2]
      obtain ⟨n5, ls5, ln5, f1, f2, f3⟩ := tlend_both (c := c) (k := k) (w := w) (so := so) hG hC.2.1 hM hl (show n4 < 32 by omega) e3
      exact ⟨n5, _, _, _, f1, f2, f3⟩
end Line

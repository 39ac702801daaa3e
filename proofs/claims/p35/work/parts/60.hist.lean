/-! THE PAST: the class' ring and the reference's row -/
theorem cpy_in {α : Type} (a b : Nat → α) {n j : Nat} (hj : j < n) : va_cpy a b (0 : Int32).toNatClampNeg (0 : Int32).toNatClampNeg n j = a j := by
  rw [show (0 : Int32).toNatClampNeg = 0 from rfl, pk_cpy_in (Nat.zero_le j) (by omega)]
  congr 1
  omega
theorem X2_copy {g : Nat → Nat} (hG : GV g) {c al ti tc se : Int32} {st : Int64} {k w so ch : Nat → Int32} (hC : CR g c st al ti tc se k w so ch) (k0 w0 so0 ch0 : Nat → Int32) : ∃ k' w' so' ch', J_X2_copyFrom k0 w0 so0 ch0 c st al ti tc se k w so ch = some (c, st, al, ti, tc, se, k', w', so', ch') ∧ CR g c st al ti tc se k' w' so' ch' := by
  obtain ⟨hS, hE, h3, h4, h5⟩ := hC
  have h1 := hG.2.1
  have e1 : J_X2_copyFrom k0 w0 so0 ch0 c st al ti tc se k w so ch = some (c, st, al, ti, tc, se, va_cpy k k0 (0 : Int32).toNatClampNeg (0 : Int32).toNatClampNeg 16, va_cpy w w0 (0 : Int32).toNatClampNeg (0 : Int32).toNatClampNeg 16, va_cpy so so0 (0 : Int32).toNatClampNeg (0 : Int32).toNatClampNeg 48, va_cpy ch ch0 (0 : Int32).toNatClampNeg (0 : Int32).toNatClampNeg 16) := by
    unfold J_X2_copyFrom
    rw [h4]
    rcases (show g 1 = 0 ∨ g 1 = 1 by omega) with e | e <;> rw [e]
    · rw [chz_0]; rfl
    · rw [chz_1]; rfl
  exact ⟨_, _, _, _, e1, ⟨hS.1, fun l hl => by rw [cpy_in _ _ hl]; exact hS.2.1 l hl, fun l hl => by rw [cpy_in _ _ hl]; exact hS.2.2.1 l hl, fun l p hl hp => by rw [cpy_in _ _ (by omega)]; exact hS.2.2.2 l p hl hp⟩, hE, fun l hl => by rw [cpy_in _ _ hl]; exact h3 l hl, h4, h5⟩
/-- one place of the ring -/
abbrev SL (gh : Nat → Nat) (s : Nat) (Rc : Nat → Int32) (Rk Rw Rs Rch : Nat → Nat → Int32) (Rst : Nat → Int64) (Ral Rti Rtc Rse : Nat → Int32) : Prop := CR gh (Rc s) (Rst s) (Ral s) (Rti s) (Rtc s) (Rse s) (Rk s) (Rw s) (Rs s) (Rch s)
/-- the states that can be brought back: pg 0 the oldest of u, the ring's top at tp -/
def HR (u tp : Nat) (pg : Nat → Nat → Nat) (B : Nat) (top und : Int32) (Rc : Nat → Int32) (Rk Rw Rs Rch : Nat → Nat → Int32) (Rst : Nat → Int64) (Ral Rti Rtc Rse : Nat → Int32) (uds : Int32) (kp : Nat → Int32) : Prop := u ≤ 8 ∧ tp ≤ 8 ∧ top = nI tp ∧ und = nI u ∧ uds = nI u ∧ ∀ i, i < u → GW (pg i) B ∧ SL (pg i) ((tp + 9 - u + i) % 9) Rc Rk Rw Rs Rch Rst Ral Rti Rtc Rse ∧ ∀ j, j < 133 → kp (133 * i + j) = nI (pg i j)
theorem up_same {α : Type} (f : Nat → α) (s : Nat) (x : α) : va_up f s x s = x := if_pos rfl
theorem up_ne {α : Type} (f : Nat → α) {s t : Nat} (x : α) (h : t ≠ s) : va_up f s x t = f t := if_neg h
section Hist
variable {g : Nat → Nat} {u tp : Nat} {pg : Nat → Nat → Nat} {B : Nat} {c al ti tc se top und uds : Int32} {st : Int64} {k w so ch : Nat → Int32} {Rc : Nat → Int32} {Rk Rw Rs Rch : Nat → Nat → Int32} {Rst : Nat → Int64} {Ral Rti Rtc Rse kp : Nat → Int32}
theorem atTop_nI {tp : Nat} (h : tp ≤ 8) : J_X4_atTop (nI tp) = some tp := by
  unfold J_X4_atTop
  simp (disch := omega) only [↓reduceIte, nm_x, chk_nI, chz_0, chz_1, chz_b2, chn_nI, oi_1, oi_2, oi_m1, il_0, il_1, il_2, il_3, il_4, il_5, il_6, il_7, il_8, il_9, il_10, il_11, il_12, il_13, il_14, il_15, il_16, il_32, il_35, il_40, il_41, il_42, il_43, il_44, il_45, il_46, il_48, il_57, il_58, il_59, il_60, il_99, il_104, il_115, il_116, il_119, il_126, il_133, il_255, il_256, il_512, il_931, il_1000, il_65536, bn0, bn1, bn2, bn3, bn4, bn5, bn6, bn7, bn8, bn9, bn10, bn11, bn12, bn13, bn14, bn15, nI_leI, nI_ltI, nI_eq, nI_clamp, nI_add, pk_mul, nI_lt0, ng_lt0, ng_ge0, ng_eqn, ng_neq, ng_len, ng_eq, sV_m1, sV_lt0, sV_ge0, if_true, if_false, Nat.le_refl, Nat.lt_irrefl, Nat.not_lt_zero, Nat.zero_le, not_true_eq_false, not_false_eq_true, false_and, true_and, and_true, and_false, true_or, or_true, false_or, or_false, reduceCtorEq, show ¬ 8 < tp by omega]
theorem hold_c (hG : GV g) (hC : CR g c st al ti tc se k w so ch) (hH : HR u tp pg B top und Rc Rk Rw Rs Rch Rst Ral Rti Rtc Rse uds kp) : ∃ Rc' Rk' Rw' Rs' Rch' Rst' Ral' Rti' Rtc' Rse', J_X4_hold top c st al ti tc se k w so ch Rc Rk Rw Rs Rch Rst Ral Rti Rtc Rse = some (Rc', Rk', Rw', Rs', Rch', Rst', Ral', Rti', Rtc', Rse') ∧ HR u tp pg B top und Rc' Rk' Rw' Rs' Rch' Rst' Ral' Rti' Rtc' Rse' uds kp ∧ SL g tp Rc' Rk' Rw' Rs' Rch' Rst' Ral' Rti' Rtc' Rse' := by
  obtain ⟨h1, h2, h3, h4, h5, h6⟩ := hH
  obtain ⟨k', w', so', ch', e1, hC'⟩ := X2_copy hG hC (Rk tp) (Rw tp) (Rs tp) (Rch tp)
  have e : J_X4_hold top c st al ti tc se k w so ch Rc Rk Rw Rs Rch Rst Ral Rti Rtc Rse = some (va_up Rc tp c, va_up Rk tp k', va_up Rw tp w', va_up Rs tp so', va_up Rch tp ch', va_up Rst tp st, va_up Ral tp al, va_up Rti tp ti, va_up Rtc tp tc, va_up Rse tp se) := by
    unfold J_X4_hold
    rw [h3, atTop_nI h2, bn1, e1, bn10]
  refine ⟨_, _, _, _, _, _, _, _, _, _, e, ⟨h1, h2, h3, h4, h5, fun i hi => ?_⟩, ?_⟩
  · obtain ⟨a1, a2, a3⟩ := h6 i hi
    refine ⟨a1, ?_, a3⟩
    have hne : (tp + 9 - u + i) % 9 ≠ tp := by omega
    show CR _ _ _ _ _ _ _ _ _ _ _
    rw [up_ne _ _ hne, up_ne _ _ hne, up_ne _ _ hne, up_ne _ _ hne, up_ne _ _ hne, up_ne _ _ hne, up_ne _ _ hne, up_ne _ _ hne, up_ne _ _ hne, up_ne _ _ hne]
    exact a2
  · show CR _ _ _ _ _ _ _ _ _ _ _
    rw [up_same, up_same, up_same, up_same, up_same, up_same, up_same, up_same, up_same, up_same]
    exact hC'
/-! the reference keeps what it tried from -/
theorem keeps_L52 {td : Nat → Int32} (hT : MR g td) (v1 : Int32) {u : Nat} (hu : u < 8) : ∀ d nf j (kp : Nat → Int32), j + d = 133 → d < nf → (∀ i, i < j → kp (133 * u + i) = nI (g i)) → ∃ kp', J_X10_keeps_L52 td v1 nf (nI u) kp (nI j) = some (v1, nI (u + 1), kp') ∧ (∀ i, i < 133 → kp' (133 * u + i) = nI (g i)) ∧ ∀ i, i < 133 * u → kp' i = kp i := by
  intro d
  induction d with
  | zero =>
    intro nf j kp hj hd hk
    obtain ⟨m, rfl, -⟩ := nf_of hd
    obtain rfl : j = 133 := by omega
    refine ⟨kp, ?_, hk, fun _ _ => rfl⟩
    rw [J_X10_keeps_L52]
    simp (disch := omega) only [↓reduceIte, nm_x, chk_nI, chz_0, chz_1, chz_b2, chn_nI, oi_1, oi_2, oi_m1, il_0, il_1, il_2, il_3, il_4, il_5, il_6, il_7, il_8, il_9, il_10, il_11, il_12, il_13, il_14, il_15, il_16, il_32, il_35, il_40, il_41, il_42, il_43, il_44, il_45, il_46, il_48, il_57, il_58, il_59, il_60, il_99, il_104, il_115, il_116, il_119, il_126, il_133, il_255, il_256, il_512, il_931, il_1000, il_65536, bn0, bn1, bn2, bn3, bn4, bn5, bn6, bn7, bn8, bn9, bn10, bn11, bn12, bn13, bn14, bn15, nI_leI, nI_ltI, nI_eq, nI_clamp, nI_add, pk_mul, nI_lt0, ng_lt0, ng_ge0, ng_eqn, ng_neq, ng_len, ng_eq, sV_m1, sV_lt0, sV_ge0, if_true, if_false, Nat.le_refl, Nat.lt_irrefl, Nat.not_lt_zero, Nat.zero_le, not_true_eq_false, not_false_eq_true, false_and, true_and, and_true, and_false, true_or, or_true, false_or, or_false, reduceCtorEq]
  | succ d ih =>
    intro nf j kp hj hd hk
    obtain ⟨m, rfl, hm⟩ := nf_of hd
    rw [J_X10_keeps_L52]
    simp (disch := omega) only [↓reduceIte, nm_x, chk_nI, chz_0, chz_1, chz_b2, chn_nI, oi_1, oi_2, oi_m1, il_0, il_1, il_2, il_3, il_4, il_5, il_6, il_7, il_8, il_9, il_10, il_11, il_12, il_13, il_14, il_15, il_16, il_32, il_35, il_40, il_41, il_42, il_43, il_44, il_45, il_46, il_48, il_57, il_58, il_59, il_60, il_99, il_104, il_115, il_116, il_119, il_126, il_133, il_255, il_256, il_512, il_931, il_1000, il_65536, bn0, bn1, bn2, bn3, bn4, bn5, bn6, bn7, bn8, bn9, bn10, bn11, bn12, bn13, bn14, bn15, nI_leI, nI_ltI, nI_eq, nI_clamp, nI_add, pk_mul, nI_lt0, ng_lt0, ng_ge0, ng_eqn, ng_neq, ng_len, ng_eq, sV_m1, sV_lt0, sV_ge0, if_true, if_false, Nat.le_refl, Nat.lt_irrefl, Nat.not_lt_zero, Nat.zero_le, not_true_eq_false, not_false_eq_true, false_and, true_and, and_true, and_false, true_or, or_true, false_or, or_false, reduceCtorEq, show ¬ 133 ≤ j by omega]
    obtain ⟨kp', e1, h1, h2⟩ := ih m (j + 1) (upd kp (133 * u + j) (td j)) (by omega) hm (fun i hi => by
      unfold upd
      by_cases e : i = j
      · rw [if_pos (by omega), e]; exact hT j (by omega)
      · rw [if_neg (by omega)]; exact hk i (by omega))
    exact ⟨kp', e1, h1, fun i hi => by rw [h2 i hi]; unfold upd; rw [if_neg (by omega)]⟩
theorem keeps_L11 (td : Nat → Int32) (v1 : Int32) (kp0 : Nat → Int32) : ∀ d nf j (kp : Nat → Int32), j + d = 931 → d < nf → (∀ i, i < j → kp i = kp0 (133 + i)) → (∀ i, j ≤ i → kp i = kp0 i) → ∃ kp', J_X10_keeps_L11 td v1 nf (nI 8) kp (nI j) = J_X10_keeps_b50 td v1 (nI 7) kp' ∧ ∀ i, i < 931 → kp' i = kp0 (133 + i) := by
  intro d
  induction d with
  | zero =>
    intro nf j kp hj hd h1 h2
    obtain ⟨m, rfl, -⟩ := nf_of hd
    obtain rfl : j = 931 := by omega
    refine ⟨kp, ?_, h1⟩
    rw [J_X10_keeps_L11]
    have h8 : nI 8 - nI 1 = nI 7 := nI_pred 7
    simp (disch := omega) only [↓reduceIte, nm_x, chk_nI, chz_0, chz_1, chz_b2, chn_nI, oi_1, oi_2, oi_m1, il_0, il_1, il_2, il_3, il_4, il_5, il_6, il_7, il_8, il_9, il_10, il_11, il_12, il_13, il_14, il_15, il_16, il_32, il_35, il_40, il_41, il_42, il_43, il_44, il_45, il_46, il_48, il_57, il_58, il_59, il_60, il_99, il_104, il_115, il_116, il_119, il_126, il_133, il_255, il_256, il_512, il_931, il_1000, il_65536, bn0, bn1, bn2, bn3, bn4, bn5, bn6, bn7, bn8, bn9, bn10, bn11, bn12, bn13, bn14, bn15, nI_leI, nI_ltI, nI_eq, nI_clamp, nI_add, pk_mul, nI_lt0, ng_lt0, ng_ge0, ng_eqn, ng_neq, ng_len, ng_eq, sV_m1, sV_lt0, sV_ge0, if_true, if_false, Nat.le_refl, Nat.lt_irrefl, Nat.not_lt_zero, Nat.zero_le, not_true_eq_false, not_false_eq_true, false_and, true_and, and_true, and_false, true_or, or_true, false_or, or_false, reduceCtorEq, h8]
  | succ d ih =>
    intro nf j kp hj hd h1 h2
    obtain ⟨m, rfl, hm⟩ := nf_of hd
    rw [J_X10_keeps_L11]
    simp (disch := omega) only [↓reduceIte, nm_x, chk_nI, chz_0, chz_1, chz_b2, chn_nI, oi_1, oi_2, oi_m1, il_0, il_1, il_2, il_3, il_4, il_5, il_6, il_7, il_8, il_9, il_10, il_11, il_12, il_13, il_14, il_15, il_16, il_32, il_35, il_40, il_41, il_42, il_43, il_44, il_45, il_46, il_48, il_57, il_58, il_59, il_60, il_99, il_104, il_115, il_116, il_119, il_126, il_133, il_255, il_256, il_512, il_931, il_1000, il_65536, bn0, bn1, bn2, bn3, bn4, bn5, bn6, bn7, bn8, bn9, bn10, bn11, bn12, bn13, bn14, bn15, nI_leI, nI_ltI, nI_eq, nI_clamp, nI_add, pk_mul, nI_lt0, ng_lt0, ng_ge0, ng_eqn, ng_neq, ng_len, ng_eq, sV_m1, sV_lt0, sV_ge0, if_true, if_false, Nat.le_refl, Nat.lt_irrefl, Nat.not_lt_zero, Nat.zero_le, not_true_eq_false, not_false_eq_true, false_and, true_and, and_true, and_false, true_or, or_true, false_or, or_false, reduceCtorEq, show ¬ 931 ≤ j by omega]
    refine ih m (j + 1) _ (by omega) hm (fun i hi => ?_) (fun i hi => ?_)
    · unfold upd
      by_cases e : i = j
      · rw [if_pos e, e]; exact h2 _ (by omega)
      · rw [if_neg e]; exact h1 i (by omega)
    · unfold upd
      rw [if_neg (by omega)]
      exact h2 i (by omega)
theorem keeps_m {td : Nat → Int32} (hT : MR g td) (v1 : Int32) (hu : u ≤ 8) (kp : Nat → Int32) : ∃ kp', J_X10_keeps (nI u) td kp v1 = some (v1, nI (if u = 8 then 8 else u + 1), kp') ∧ if u = 8 then (∀ i, i < 931 → kp' i = kp (133 + i)) ∧ ∀ i, i < 133 → kp' (931 + i) = nI (g i) else (∀ i, i < 133 * u → kp' i = kp i) ∧ ∀ i, i < 133 → kp' (133 * u + i) = nI (g i) := by
  unfold J_X10_keeps
  by_cases h : u = 8
  · subst h
    obtain ⟨kp1, e1, h1⟩ := keeps_L11 td v1 kp 931 FU 0 kp rfl (by unfold FU; omega) (fun i hi => absurd hi (Nat.not_lt_zero i)) (fun i _ => rfl)
    obtain ⟨kp2, e2, h2, h3⟩ := keeps_L52 hT v1 (u := 7) (by omega) 133 FU 0 kp1 rfl (by unfold FU; omega) (fun i hi => absurd hi (Nat.not_lt_zero i))
    refine ⟨kp2, ?_, ?_⟩
    · rw [il_8, if_pos rfl, if_pos rfl, il_0, e1]
      unfold J_X10_keeps_b50
      rw [il_0]
      exact e2
    · rw [if_pos rfl]
      exact ⟨fun i hi => by rw [h3 i (by omega)]; exact h1 i hi, fun i hi => h2 i hi⟩
  · obtain ⟨kp2, e2, h2, h3⟩ := keeps_L52 hT v1 (u := u) (by omega) 133 FU 0 kp rfl (by unfold FU; omega) (fun i hi => absurd hi (Nat.not_lt_zero i))
    refine ⟨kp2, ?_, ?_⟩
    · rw [il_8, if_neg (by rw [nI_eq (by omega) (by omega)]; exact h), if_neg h]
      unfold J_X10_keeps_b50
      rw [il_0]
      exact e2
    · rw [if_neg h]
      exact ⟨h3, h2⟩
theorem keep_c (hu : u ≤ 8) (ht : tp ≤ 8) : J_X4_keepHeld (nI tp) (nI u) = some (nI ((tp + 1) % 9), nI (if u = 8 then 8 else u + 1)) := by
  unfold J_X4_keepHeld J_X4_keepHeld_b20
  simp (disch := omega) only [↓reduceIte, nm_x, chk_nI, chz_0, chz_1, chz_b2, chn_nI, oi_1, oi_2, oi_m1, il_0, il_1, il_2, il_3, il_4, il_5, il_6, il_7, il_8, il_9, il_10, il_11, il_12, il_13, il_14, il_15, il_16, il_32, il_35, il_40, il_41, il_42, il_43, il_44, il_45, il_46, il_48, il_57, il_58, il_59, il_60, il_99, il_104, il_115, il_116, il_119, il_126, il_133, il_255, il_256, il_512, il_931, il_1000, il_65536, bn0, bn1, bn2, bn3, bn4, bn5, bn6, bn7, bn8, bn9, bn10, bn11, bn12, bn13, bn14, bn15, nI_leI, nI_ltI, nI_eq, nI_clamp, nI_add, pk_mul, nI_lt0, ng_lt0, ng_ge0, ng_eqn, ng_neq, ng_len, ng_eq, sV_m1, sV_lt0, sV_ge0, if_true, if_false, Nat.le_refl, Nat.lt_irrefl, Nat.not_lt_zero, Nat.zero_le, not_true_eq_false, not_false_eq_true, false_and, true_and, and_true, and_false, true_or, or_true, false_or, or_false, reduceCtorEq]
  have e2 : (if 8 < u + 1 then nI 8 else nI (u + 1)) = nI (if u = 8 then 8 else u + 1) := by
    by_cases h : u = 8
    · rw [if_pos (by omega), if_pos h]
    · rw [if_neg (by omega), if_neg h]
  rw [e2]
  by_cases h : 8 ≤ tp
  · rw [if_pos h, show (tp + 1) % 9 = 0 by omega]
  · rw [if_neg h, show (tp + 1) % 9 = tp + 1 by omega]
/-- what was held is kept: one state more -/
theorem keep_both (hG : GW g B) (hH : HR u tp pg B top und Rc Rk Rw Rs Rch Rst Ral Rti Rtc Rse uds kp) (hL : SL g tp Rc Rk Rw Rs Rch Rst Ral Rti Rtc Rse) {td : Nat → Int32} (hT : MR g td) (v1 : Int32) : ∃ u' tp' pg' top' und' uds' kp', J_X4_keepHeld top und = some (top', und') ∧ J_X10_keeps uds td kp v1 = some (v1, uds', kp') ∧ HR u' tp' pg' B top' und' Rc Rk Rw Rs Rch Rst Ral Rti Rtc Rse uds' kp' := by
  obtain ⟨h1, h2, h3, h4, h5, h6⟩ := hH
  obtain ⟨kp', e1, hk⟩ := keeps_m hT v1 h1 kp
  rw [h3, h4, h5]
  by_cases h : u = 8
  · rw [if_pos h] at e1 hk
    have e2 := keep_c h1 h2
    rw [if_pos h] at e2
    refine ⟨8, (tp + 1) % 9, fun i => if i = 7 then g else pg (i + 1), _, _, _, _, e2, e1, by omega, by omega, rfl, rfl, rfl, fun i hi => ?_⟩
    by_cases e7 : i = 7
    · simp only [e7, if_true]
      refine ⟨hG, ?_, fun j hj => hk.2 j hj⟩
      rw [show ((tp + 1) % 9 + 9 - 8 + 7) % 9 = tp by omega]
      exact hL
    · simp only [e7, if_false]
      obtain ⟨a1, a2, a3⟩ := h6 (i + 1) (by omega)
      refine ⟨a1, ?_, fun j hj => ?_⟩
      · rw [show ((tp + 1) % 9 + 9 - 8 + i) % 9 = (tp + 9 - u + (i + 1)) % 9 by omega]
        exact a2
      · rw [hk.1 _ (by omega), ← a3 j hj]
        congr 1
        omega
  · rw [if_neg h] at e1 hk
    have e2 := keep_c h1 h2
    rw [if_neg h] at e2
    refine ⟨u + 1, (tp + 1) % 9, fun i => if i = u then g else pg i, _, _, _, _, e2, e1, by omega, by omega, rfl, rfl, rfl, fun i hi => ?_⟩
    by_cases eu : i = u
    · simp only [eu, if_true]
      refine ⟨hG, ?_, fun j hj => hk.2 j hj⟩
      rw [show ((tp + 1) % 9 + 9 - (u + 1) + u) % 9 = tp by omega]
      exact hL
    · simp only [eu, if_false]
      obtain ⟨a1, a2, a3⟩ := h6 i (by omega)
      refine ⟨a1, ?_, fun j hj => ?_⟩
      · rw [show ((tp + 1) % 9 + 9 - (u + 1) + i) % 9 = (tp + 9 - u + i) % 9 by omega]
        exact a2
      · rw [hk.1 _ (by have := Nat.mul_le_mul_left 133 (show i + 1 ≤ u by omega); omega)]
        exact a3 j hj
theorem HR.up {B' : Nat} (hH : HR u tp pg B top und Rc Rk Rw Rs Rch Rst Ral Rti Rtc Rse uds kp) (h : B ≤ B') : HR u tp pg B' top und Rc Rk Rw Rs Rch Rst Ral Rti Rtc Rse uds kp :=
  ⟨hH.1, hH.2.1, hH.2.2.1, hH.2.2.2.1, hH.2.2.2.2.1, fun i hi => ⟨(hH.2.2.2.2.2 i hi).1.up h, (hH.2.2.2.2.2 i hi).2⟩⟩
/-- the end of a change: the answer, and the past -/
theorem end_both (hG : GW g B) (hH : HR u tp pg B top und Rc Rk Rw Rs Rch Rst Ral Rti Rtc Rse uds kp) (hL : SL g tp Rc Rk Rw Rs Rch Rst Ral Rti Rtc Rse) {td : Nat → Int32} (hT : MR g td) {xc xm an : Int32} {same : Prop} {n : Nat} (hO : OUT xc xm an same n) : ∃ u' tp' pg' top' und' uds' kp', J_X9_kept top und xc = some (xc, top', und') ∧ J_X10_ends uds an td kp xm = some (xc, uds', kp') ∧ HR u' tp' pg' B top' und' Rc Rk Rw Rs Rch Rst Ral Rti Rtc Rse uds' kp' := by
  unfold J_X9_kept J_X9_kept_b11 J_X10_ends J_X10_ends_b16
  rcases hO with ⟨a, ha, rfl, rfl, rfl⟩ | ⟨-, e, he1, he2, rfl, rfl, -⟩
  · obtain ⟨u', tp', pg', top', und', uds', kp', e1, e2, h⟩ := keep_both hG hH hL hT (nI a)
    refine ⟨u', tp', pg', top', und', uds', kp', ?_, ?_, h⟩
    · rw [if_neg (nI_pos ha), e1, bn2]
    · rw [if_pos (show nI 0 = 0 from rfl), e2, bn3]
  · refine ⟨u, tp, pg, top, und, uds, kp, ?_, ?_, hH⟩
    · rw [if_pos (show -nI e < 0 from (ng_lt0 (by omega) (by omega)).mpr trivial)]
    · rw [if_neg (show ¬ -nI e = 0 from fun q => (ng_eqn (k := e) (n := 0) (by omega) (by omega) (by omega)).mp q)]
/-- undo -/
theorem undo_L (kp : Nat → Int32) {u : Nat} (hu : u < 8) (hk : ∀ j, j < 133 → kp (133 * u + j) = nI (g j)) : ∀ d nf j (nw : Nat → Int32), j + d = 133 → d < nf → (∀ i, i < j → nw i = nI (g i)) → ∃ nw', J_X10_undo_L22 kp nf (nI u) nw (nI j) = some (nI u, nI u, nw') ∧ MR g nw' := by
  intro d
  induction d with
  | zero =>
    intro nf j nw hj hd h1
    obtain ⟨m, rfl, -⟩ := nf_of hd
    obtain rfl : j = 133 := by omega
    refine ⟨nw, ?_, h1⟩
    rw [J_X10_undo_L22]
    simp (disch := omega) only [↓reduceIte, nm_x, chk_nI, chz_0, chz_1, chz_b2, chn_nI, oi_1, oi_2, oi_m1, il_0, il_1, il_2, il_3, il_4, il_5, il_6, il_7, il_8, il_9, il_10, il_11, il_12, il_13, il_14, il_15, il_16, il_32, il_35, il_40, il_41, il_42, il_43, il_44, il_45, il_46, il_48, il_57, il_58, il_59, il_60, il_99, il_104, il_115, il_116, il_119, il_126, il_133, il_255, il_256, il_512, il_931, il_1000, il_65536, bn0, bn1, bn2, bn3, bn4, bn5, bn6, bn7, bn8, bn9, bn10, bn11, bn12, bn13, bn14, bn15, nI_leI, nI_ltI, nI_eq, nI_clamp, nI_add, pk_mul, nI_lt0, ng_lt0, ng_ge0, ng_eqn, ng_neq, ng_len, ng_eq, sV_m1, sV_lt0, sV_ge0, if_true, if_false, Nat.le_refl, Nat.lt_irrefl, Nat.not_lt_zero, Nat.zero_le, not_true_eq_false, not_false_eq_true, false_and, true_and, and_true, and_false, true_or, or_true, false_or, or_false, reduceCtorEq]
  | succ d ih =>
    intro nf j nw hj hd h1
    obtain ⟨m, rfl, hm⟩ := nf_of hd
    rw [J_X10_undo_L22]
    simp (disch := omega) only [↓reduceIte, nm_x, chk_nI, chz_0, chz_1, chz_b2, chn_nI, oi_1, oi_2, oi_m1, il_0, il_1, il_2, il_3, il_4, il_5, il_6, il_7, il_8, il_9, il_10, il_11, il_12, il_13, il_14, il_15, il_16, il_32, il_35, il_40, il_41, il_42, il_43, il_44, il_45, il_46, il_48, il_57, il_58, il_59, il_60, il_99, il_104, il_115, il_116, il_119, il_126, il_133, il_255, il_256, il_512, il_931, il_1000, il_65536, bn0, bn1, bn2, bn3, bn4, bn5, bn6, bn7, bn8, bn9, bn10, bn11, bn12, bn13, bn14, bn15, nI_leI, nI_ltI, nI_eq, nI_clamp, nI_add, pk_mul, nI_lt0, ng_lt0, ng_ge0, ng_eqn, ng_neq, ng_len, ng_eq, sV_m1, sV_lt0, sV_ge0, if_true, if_false, Nat.le_refl, Nat.lt_irrefl, Nat.not_lt_zero, Nat.zero_le, not_true_eq_false, not_false_eq_true, false_and, true_and, and_true, and_false, true_or, or_true, false_or, or_false, reduceCtorEq, show ¬ 133 ≤ j by omega]
    refine ih m (j + 1) _ (by omega) hm fun i hi => ?_
    unfold upd
    by_cases e : i = j
    · rw [if_pos e, e]; exact hk j (by omega)
    · rw [if_neg e]; exact h1 i (by omega)
theorem undo_both (hG : GW g B) (hC : CR g c st al ti tc se k w so ch) {nw : Nat → Int32} (hM : MR g nw) (hH : HR u tp pg B top und Rc Rk Rw Rs Rch Rst Ral Rti Rtc Rse uds kp) : ∃ g' u' tp' x c' st' al' ti' tc' se' k' w' so' ch' top' und' nw' uds', J_X9_undo c st al ti tc se k w so ch top und Rc Rk Rw Rs Rch Rst Ral Rti Rtc Rse = some (x, c', st', al', ti', tc', se', k', w', so', ch', top', und') ∧ J_X10_undo uds nw kp = some (x, uds', nw') ∧ GW g' B ∧ CR g' c' st' al' ti' tc' se' k' w' so' ch' ∧ MR g' nw' ∧ HR u' tp' pg B top' und' Rc Rk Rw Rs Rch Rst Ral Rti Rtc Rse uds' kp := by
  obtain ⟨h1, h2, h3, h4, h5, h6⟩ := hH
  by_cases h0 : u = 0
  · refine ⟨g, u, tp, -nI 15, c, st, al, ti, tc, se, k, w, so, ch, top, und, nw, uds, ?_, ?_, hG, hC, hM, h1, h2, h3, h4, h5, h6⟩
    · unfold J_X9_undo J_X4_undoable
      rw [h4, h0]
      simp (disch := omega) only [↓reduceIte, nm_x, chk_nI, chz_0, chz_1, chz_b2, chn_nI, oi_1, oi_2, oi_m1, il_0, il_1, il_2, il_3, il_4, il_5, il_6, il_7, il_8, il_9, il_10, il_11, il_12, il_13, il_14, il_15, il_16, il_32, il_35, il_40, il_41, il_42, il_43, il_44, il_45, il_46, il_48, il_57, il_58, il_59, il_60, il_99, il_104, il_115, il_116, il_119, il_126, il_133, il_255, il_256, il_512, il_931, il_1000, il_65536, bn0, bn1, bn2, bn3, bn4, bn5, bn6, bn7, bn8, bn9, bn10, bn11, bn12, bn13, bn14, bn15, nI_leI, nI_ltI, nI_eq, nI_clamp, nI_add, pk_mul, nI_lt0, ng_lt0, ng_ge0, ng_eqn, ng_neq, ng_len, ng_eq, sV_m1, sV_lt0, sV_ge0, if_true, if_false, Nat.le_refl, Nat.lt_irrefl, Nat.not_lt_zero, Nat.zero_le, not_true_eq_false, not_false_eq_true, false_and, true_and, and_true, and_false, true_or, or_true, false_or, or_false, reduceCtorEq]
    · unfold J_X10_undo
      rw [h5, h0]
      simp (disch := omega) only [↓reduceIte, nm_x, chk_nI, chz_0, chz_1, chz_b2, chn_nI, oi_1, oi_2, oi_m1, il_0, il_1, il_2, il_3, il_4, il_5, il_6, il_7, il_8, il_9, il_10, il_11, il_12, il_13, il_14, il_15, il_16, il_32, il_35, il_40, il_41, il_42, il_43, il_44, il_45, il_46, il_48, il_57, il_58, il_59, il_60, il_99, il_104, il_115, il_116, il_119, il_126, il_133, il_255, il_256, il_512, il_931, il_1000, il_65536, bn0, bn1, bn2, bn3, bn4, bn5, bn6, bn7, bn8, bn9, bn10, bn11, bn12, bn13, bn14, bn15, nI_leI, nI_ltI, nI_eq, nI_clamp, nI_add, pk_mul, nI_lt0, ng_lt0, ng_ge0, ng_eqn, ng_neq, ng_len, ng_eq, sV_m1, sV_lt0, sV_ge0, if_true, if_false, Nat.le_refl, Nat.lt_irrefl, Nat.not_lt_zero, Nat.zero_le, not_true_eq_false, not_false_eq_true, false_and, true_and, and_true, and_false, true_or, or_true, false_or, or_false, reduceCtorEq]
  · obtain ⟨v, rfl⟩ : ∃ v, u = v + 1 := ⟨u - 1, by omega⟩
    obtain ⟨a1, a2, a3⟩ := h6 v (by omega)
    have hs : (tp + 9 - (v + 1) + v) % 9 = (tp + 8) % 9 := by omega
    rw [hs] at a2
    obtain ⟨k', w', so', ch', e1, hC'⟩ := X2_copy a1.1 a2 k w so ch
    obtain ⟨nw', e2, hM'⟩ := undo_L kp (u := v) (by omega) a3 133 FU 0 nw rfl (by unfold FU; omega) (fun i hi => absurd hi (Nat.not_lt_zero i))
    have hp : nI (v + 1) - nI 1 = nI v := nI_pred v
    have e3 : J_X4_bringBackLatest (nI tp) (nI (v + 1)) c st al ti tc se k w so ch Rc Rk Rw Rs Rch Rst Ral Rti Rtc Rse = some (nI ((tp + 8) % 9), nI v, Rc ((tp + 8) % 9), Rst ((tp + 8) % 9), Ral ((tp + 8) % 9), Rti ((tp + 8) % 9), Rtc ((tp + 8) % 9), Rse ((tp + 8) % 9), k', w', so', ch') := by
      unfold J_X4_bringBackLatest J_X4_bringBackLatest_b19
      by_cases ht : tp = 0
      · subst ht
        rw [il_0, if_pos (nI_le (Nat.le_refl 0) (by omega))]
        simp (disch := omega) only [↓reduceIte, nm_x, chk_nI, chz_0, chz_1, chz_b2, chn_nI, oi_1, oi_2, oi_m1, il_0, il_1, il_2, il_3, il_4, il_5, il_6, il_7, il_8, il_9, il_10, il_11, il_12, il_13, il_14, il_15, il_16, il_32, il_35, il_40, il_41, il_42, il_43, il_44, il_45, il_46, il_48, il_57, il_58, il_59, il_60, il_99, il_104, il_115, il_116, il_119, il_126, il_133, il_255, il_256, il_512, il_931, il_1000, il_65536, bn0, bn1, bn2, bn3, bn4, bn5, bn6, bn7, bn8, bn9, bn10, bn11, bn12, bn13, bn14, bn15, nI_leI, nI_ltI, nI_eq, nI_clamp, nI_add, pk_mul, nI_lt0, ng_lt0, ng_ge0, ng_eqn, ng_neq, ng_len, ng_eq, sV_m1, sV_lt0, sV_ge0, if_true, if_false, Nat.le_refl, Nat.lt_irrefl, Nat.not_lt_zero, Nat.zero_le, not_true_eq_false, not_false_eq_true, false_and, true_and, and_true, and_false, true_or, or_true, false_or, or_false, reduceCtorEq, hp, atTop_nI]
        rw [show (0 + 8) % 9 = 8 from rfl] at e1 ⊢
        rw [e1, bn10]
      · obtain ⟨t, rfl⟩ : ∃ t, tp = t + 1 := ⟨tp - 1, by omega⟩
        have hpt : nI (t + 1) - nI 1 = nI t := nI_pred t
        rw [il_0, if_neg (nI_ge (a := 0) (by omega) (by omega))]
        simp (disch := omega) only [↓reduceIte, nm_x, chk_nI, chz_0, chz_1, chz_b2, chn_nI, oi_1, oi_2, oi_m1, il_0, il_1, il_2, il_3, il_4, il_5, il_6, il_7, il_8, il_9, il_10, il_11, il_12, il_13, il_14, il_15, il_16, il_32, il_35, il_40, il_41, il_42, il_43, il_44, il_45, il_46, il_48, il_57, il_58, il_59, il_60, il_99, il_104, il_115, il_116, il_119, il_126, il_133, il_255, il_256, il_512, il_931, il_1000, il_65536, bn0, bn1, bn2, bn3, bn4, bn5, bn6, bn7, bn8, bn9, bn10, bn11, bn12, bn13, bn14, bn15, nI_leI, nI_ltI, nI_eq, nI_clamp, nI_add, pk_mul, nI_lt0, ng_lt0, ng_ge0, ng_eqn, ng_neq, ng_len, ng_eq, sV_m1, sV_lt0, sV_ge0, if_true, if_false, Nat.le_refl, Nat.lt_irrefl, Nat.not_lt_zero, Nat.zero_le, not_true_eq_false, not_false_eq_true, false_and, true_and, and_true, and_false, true_or, or_true, false_or, or_false, reduceCtorEq, hp, hpt, atTop_nI]
        rw [show (t + 1 + 8) % 9 = t by omega] at e1 ⊢
        rw [e1, bn10]
    refine ⟨pg v, v, (tp + 8) % 9, nI v, _, _, _, _, _, _, _, _, _, _, _, _, _, _, ?_, ?_, a1, hC', hM', by omega, by omega, rfl, rfl, rfl, fun i hi => ?_⟩
    · unfold J_X9_undo J_X4_undoable
      rw [h4, h3]
      simp only [bn1, il_0]
      rw [if_neg (show ¬ nI (v + 1) = nI 0 by rw [nI_eq (by omega) (by omega)]; omega), e3]
      simp only [bn12]
    · unfold J_X10_undo
      rw [h5]
      simp (disch := omega) only [↓reduceIte, nm_x, chk_nI, chz_0, chz_1, chz_b2, chn_nI, oi_1, oi_2, oi_m1, il_0, il_1, il_2, il_3, il_4, il_5, il_6, il_7, il_8, il_9, il_10, il_11, il_12, il_13, il_14, il_15, il_16, il_32, il_35, il_40, il_41, il_42, il_43, il_44, il_45, il_46, il_48, il_57, il_58, il_59, il_60, il_99, il_104, il_115, il_116, il_119, il_126, il_133, il_255, il_256, il_512, il_931, il_1000, il_65536, bn0, bn1, bn2, bn3, bn4, bn5, bn6, bn7, bn8, bn9, bn10, bn11, bn12, bn13, bn14, bn15, nI_leI, nI_ltI, nI_eq, nI_clamp, nI_add, pk_mul, nI_lt0, ng_lt0, ng_ge0, ng_eqn, ng_neq, ng_len, ng_eq, sV_m1, sV_lt0, sV_ge0, if_true, if_false, Nat.le_refl, Nat.lt_irrefl, Nat.not_lt_zero, Nat.zero_le, not_true_eq_false, not_false_eq_true, false_and, true_and, and_true, and_false, true_or, or_true, false_or, or_false, reduceCtorEq, hp]
      exact e2
    · obtain ⟨b1, b2, b3⟩ := h6 i (by omega)
      refine ⟨b1, ?_, b3⟩
      rw [show ((tp + 8) % 9 + 9 - v + i) % 9 = (tp + 9 - (v + 1) + i) % 9 by omega]
      exact b2
/-! the snapshot -/
def SN (b : Nat) (B : Nat) (hs : Int32) (c : Int32) (st : Int64) (al ti tc se : Int32) (k w so ch : Nat → Int32) (is : Int32) (sv : Nat → Int32) : Prop := b ≤ 1 ∧ hs = nI b ∧ is = nI b ∧ (b = 1 → ∃ gs, GW gs B ∧ CR gs c st al ti tc se k w so ch ∧ MR gs sv)
theorem SN.up {b B' : Nat} {hs is : Int32} {sv : Nat → Int32} (h : SN b B hs c st al ti tc se k w so ch is sv) (hB : B ≤ B') : SN b B' hs c st al ti tc se k w so ch is sv :=
  ⟨h.1, h.2.1, h.2.2.1, fun e => (h.2.2.2 e).elim fun gs q => ⟨gs, q.1.up hB, q.2⟩⟩
theorem save_L {nw : Nat → Int32} (hM : MR g nw) (is : Int32) : ∀ d nf j (sv : Nat → Int32), j + d = 133 → d < nf → (∀ i, i < j → sv i = nw i) → ∃ sv', J_X10_save_L7 nw nf is sv (nI j) = some (nI (g 0), is, sv') ∧ ∀ i, i < 133 → sv' i = nw i := by
  intro d
  induction d with
  | zero =>
    intro nf j sv hj hd h1
    obtain ⟨m, rfl, -⟩ := nf_of hd
    obtain rfl : j = 133 := by omega
    refine ⟨sv, ?_, h1⟩
    rw [J_X10_save_L7]
    simp (disch := omega) only [↓reduceIte, nm_x, chk_nI, chz_0, chz_1, chz_b2, chn_nI, oi_1, oi_2, oi_m1, il_0, il_1, il_2, il_3, il_4, il_5, il_6, il_7, il_8, il_9, il_10, il_11, il_12, il_13, il_14, il_15, il_16, il_32, il_35, il_40, il_41, il_42, il_43, il_44, il_45, il_46, il_48, il_57, il_58, il_59, il_60, il_99, il_104, il_115, il_116, il_119, il_126, il_133, il_255, il_256, il_512, il_931, il_1000, il_65536, bn0, bn1, bn2, bn3, bn4, bn5, bn6, bn7, bn8, bn9, bn10, bn11, bn12, bn13, bn14, bn15, nI_leI, nI_ltI, nI_eq, nI_clamp, nI_add, pk_mul, nI_lt0, ng_lt0, ng_ge0, ng_eqn, ng_neq, ng_len, ng_eq, sV_m1, sV_lt0, sV_ge0, if_true, if_false, Nat.le_refl, Nat.lt_irrefl, Nat.not_lt_zero, Nat.zero_le, not_true_eq_false, not_false_eq_true, false_and, true_and, and_true, and_false, true_or, or_true, false_or, or_false, reduceCtorEq, hM 0 (by omega)]
  | succ d ih =>
    intro nf j sv hj hd h1
    obtain ⟨m, rfl, hm⟩ := nf_of hd
    rw [J_X10_save_L7]
    simp (disch := omega) only [↓reduceIte, nm_x, chk_nI, chz_0, chz_1, chz_b2, chn_nI, oi_1, oi_2, oi_m1, il_0, il_1, il_2, il_3, il_4, il_5, il_6, il_7, il_8, il_9, il_10, il_11, il_12, il_13, il_14, il_15, il_16, il_32, il_35, il_40, il_41, il_42, il_43, il_44, il_45, il_46, il_48, il_57, il_58, il_59, il_60, il_99, il_104, il_115, il_116, il_119, il_126, il_133, il_255, il_256, il_512, il_931, il_1000, il_65536, bn0, bn1, bn2, bn3, bn4, bn5, bn6, bn7, bn8, bn9, bn10, bn11, bn12, bn13, bn14, bn15, nI_leI, nI_ltI, nI_eq, nI_clamp, nI_add, pk_mul, nI_lt0, ng_lt0, ng_ge0, ng_eqn, ng_neq, ng_len, ng_eq, sV_m1, sV_lt0, sV_ge0, if_true, if_false, Nat.le_refl, Nat.lt_irrefl, Nat.not_lt_zero, Nat.zero_le, not_true_eq_false, not_false_eq_true, false_and, true_and, and_true, and_false, true_or, or_true, false_or, or_false, reduceCtorEq, show ¬ 133 ≤ j by omega]
    refine ih m (j + 1) _ (by omega) hm fun i hi => ?_
    unfold upd
    by_cases e : i = j
    · rw [if_pos e, e]
    · rw [if_neg e]; exact h1 i (by omega)
theorem restore_L {sv : Nat → Int32} (hM : MR g sv) (is uds : Int32) : ∀ d nf j (nw : Nat → Int32), j + d = 133 → d < nf → (∀ i, i < j → nw i = sv i) → ∃ nw', J_X10_restore_L12 is sv nf uds nw (nI j) = some (nI (g 0), nI 0, nw') ∧ MR g nw' := by
  intro d
  induction d with
  | zero =>
    intro nf j nw hj hd h1
    obtain ⟨m, rfl, -⟩ := nf_of hd
    obtain rfl : j = 133 := by omega
    have hM' : MR g nw := MR_copy h1 hM
    refine ⟨nw, ?_, hM'⟩
    rw [J_X10_restore_L12]
    simp (disch := omega) only [↓reduceIte, nm_x, chk_nI, chz_0, chz_1, chz_b2, chn_nI, oi_1, oi_2, oi_m1, il_0, il_1, il_2, il_3, il_4, il_5, il_6, il_7, il_8, il_9, il_10, il_11, il_12, il_13, il_14, il_15, il_16, il_32, il_35, il_40, il_41, il_42, il_43, il_44, il_45, il_46, il_48, il_57, il_58, il_59, il_60, il_99, il_104, il_115, il_116, il_119, il_126, il_133, il_255, il_256, il_512, il_931, il_1000, il_65536, bn0, bn1, bn2, bn3, bn4, bn5, bn6, bn7, bn8, bn9, bn10, bn11, bn12, bn13, bn14, bn15, nI_leI, nI_ltI, nI_eq, nI_clamp, nI_add, pk_mul, nI_lt0, ng_lt0, ng_ge0, ng_eqn, ng_neq, ng_len, ng_eq, sV_m1, sV_lt0, sV_ge0, if_true, if_false, Nat.le_refl, Nat.lt_irrefl, Nat.not_lt_zero, Nat.zero_le, not_true_eq_false, not_false_eq_true, false_and, true_and, and_true, and_false, true_or, or_true, false_or, or_false, reduceCtorEq, hM' 0 (by omega)]
  | succ d ih =>
    intro nf j nw hj hd h1
    obtain ⟨m, rfl, hm⟩ := nf_of hd
    rw [J_X10_restore_L12]
    simp (disch := omega) only [↓reduceIte, nm_x, chk_nI, chz_0, chz_1, chz_b2, chn_nI, oi_1, oi_2, oi_m1, il_0, il_1, il_2, il_3, il_4, il_5, il_6, il_7, il_8, il_9, il_10, il_11, il_12, il_13, il_14, il_15, il_16, il_32, il_35, il_40, il_41, il_42, il_43, il_44, il_45, il_46, il_48, il_57, il_58, il_59, il_60, il_99, il_104, il_115, il_116, il_119, il_126, il_133, il_255, il_256, il_512, il_931, il_1000, il_65536, bn0, bn1, bn2, bn3, bn4, bn5, bn6, bn7, bn8, bn9, bn10, bn11, bn12, bn13, bn14, bn15, nI_leI, nI_ltI, nI_eq, nI_clamp, nI_add, pk_mul, nI_lt0, ng_lt0, ng_ge0, ng_eqn, ng_neq, ng_len, ng_eq, sV_m1, sV_lt0, sV_ge0, if_true, if_false, Nat.le_refl, Nat.lt_irrefl, Nat.not_lt_zero, Nat.zero_le, not_true_eq_false, not_false_eq_true, false_and, true_and, and_true, and_false, true_or, or_true, false_or, or_false, reduceCtorEq, show ¬ 133 ≤ j by omega]
    refine ih m (j + 1) _ (by omega) hm fun i hi => ?_
    unfold upd
    by_cases e : i = j
    · rw [if_pos e, e]
    · rw [if_neg e]; exact h1 i (by omega)
theorem save_both (hG : GW g B) (hC : CR g c st al ti tc se k w so ch) {nw : Nat → Int32} (hM : MR g nw) (k0 w0 so0 ch0 sv : Nat → Int32) (is : Int32) : ∃ x hs' c' st' al' ti' tc' se' k' w' so' ch' is' sv', J_X9_save c st al ti tc se k w so ch k0 w0 so0 ch0 = some (x, hs', c', st', al', ti', tc', se', k', w', so', ch') ∧ J_X10_save is nw sv = some (x, is', sv') ∧ SN 1 B hs' c' st' al' ti' tc' se' k' w' so' ch' is' sv' := by
  obtain ⟨k', w', so', ch', e1, hC'⟩ := X2_copy hG.1 hC k0 w0 so0 ch0
  obtain ⟨sv', e2, h2⟩ := save_L hM (nI 1) 133 FU 0 sv rfl (by unfold FU; omega) (fun i hi => absurd hi (Nat.not_lt_zero i))
  refine ⟨nI (g 0), nI 1, c, st, al, ti, tc, se, k', w', so', ch', nI 1, sv', ?_, ?_, by omega, rfl, rfl, fun _ => ⟨g, hG, hC', MR_copy h2 hM⟩⟩
  · unfold J_X9_save J_X2_count
    rw [e1]
    simp only [bn10, bn1, il_1, chz_1, hC.1.1]
  · unfold J_X10_save
    simp only [il_1, chz_1, il_0]
    exact e2
theorem restore_both {b : Nat} {hs is : Int32} {c2 al2 ti2 tc2 se2 : Int32} {st2 : Int64} {k2 w2 so2 ch2 sv nw : Nat → Int32} (hG : GW g B) (hC : CR g c st al ti tc se k w so ch) (hM : MR g nw) (hS : SN b B hs c2 st2 al2 ti2 tc2 se2 k2 w2 so2 ch2 is sv) (hH : HR u tp pg B top und Rc Rk Rw Rs Rch Rst Ral Rti Rtc Rse uds kp) : ∃ g' u' x c' st' al' ti' tc' se' k' w' so' ch' und' nw' uds', J_X9_restore hs c st al ti tc se k w so ch c2 st2 al2 ti2 tc2 se2 k2 w2 so2 ch2 und = some (x, c', st', al', ti', tc', se', k', w', so', ch', und') ∧ J_X10_restore uds is nw sv = some (x, uds', nw') ∧ GW g' B ∧ CR g' c' st' al' ti' tc' se' k' w' so' ch' ∧ MR g' nw' ∧ HR u' tp pg B top und' Rc Rk Rw Rs Rch Rst Ral Rti Rtc Rse uds' kp := by
  obtain ⟨hb, h1, h2, h3⟩ := hS
  by_cases h0 : b = 0
  · refine ⟨g, u, -nI 15, c, st, al, ti, tc, se, k, w, so, ch, und, nw, uds, ?_, ?_, hG, hC, hM, hH⟩
    · unfold J_X9_restore
      rw [h1, h0]
      simp (disch := omega) only [↓reduceIte, nm_x, chk_nI, chz_0, chz_1, chz_b2, chn_nI, oi_1, oi_2, oi_m1, il_0, il_1, il_2, il_3, il_4, il_5, il_6, il_7, il_8, il_9, il_10, il_11, il_12, il_13, il_14, il_15, il_16, il_32, il_35, il_40, il_41, il_42, il_43, il_44, il_45, il_46, il_48, il_57, il_58, il_59, il_60, il_99, il_104, il_115, il_116, il_119, il_126, il_133, il_255, il_256, il_512, il_931, il_1000, il_65536, bn0, bn1, bn2, bn3, bn4, bn5, bn6, bn7, bn8, bn9, bn10, bn11, bn12, bn13, bn14, bn15, nI_leI, nI_ltI, nI_eq, nI_clamp, nI_add, pk_mul, nI_lt0, ng_lt0, ng_ge0, ng_eqn, ng_neq, ng_len, ng_eq, sV_m1, sV_lt0, sV_ge0, if_true, if_false, Nat.le_refl, Nat.lt_irrefl, Nat.not_lt_zero, Nat.zero_le, not_true_eq_false, not_false_eq_true, false_and, true_and, and_true, and_false, true_or, or_true, false_or, or_false, reduceCtorEq]
    · unfold J_X10_restore
      rw [h2, h0]
      simp (disch := omega) only [↓reduceIte, nm_x, chk_nI, chz_0, chz_1, chz_b2, chn_nI, oi_1, oi_2, oi_m1, il_0, il_1, il_2, il_3, il_4, il_5, il_6, il_7, il_8, il_9, il_10, il_11, il_12, il_13, il_14, il_15, il_16, il_32, il_35, il_40, il_41, il_42, il_43, il_44, il_45, il_46, il_48, il_57, il_58, il_59, il_60, il_99, il_104, il_115, il_116, il_119, il_126, il_133, il_255, il_256, il_512, il_931, il_1000, il_65536, bn0, bn1, bn2, bn3, bn4, bn5, bn6, bn7, bn8, bn9, bn10, bn11, bn12, bn13, bn14, bn15, nI_leI, nI_ltI, nI_eq, nI_clamp, nI_add, pk_mul, nI_lt0, ng_lt0, ng_ge0, ng_eqn, ng_neq, ng_len, ng_eq, sV_m1, sV_lt0, sV_ge0, if_true, if_false, Nat.le_refl, Nat.lt_irrefl, Nat.not_lt_zero, Nat.zero_le, not_true_eq_false, not_false_eq_true, false_and, true_and, and_true, and_false, true_or, or_true, false_or, or_false, reduceCtorEq]
  · have hb1 : b = 1 := by omega
    obtain ⟨gs, q1, q2, q3⟩ := h3 hb1
    obtain ⟨k', w', so', ch', e1, hC'⟩ := X2_copy q1.1 q2 k w so ch
    obtain ⟨nw', e2, hM'⟩ := restore_L q3 is uds 133 FU 0 nw rfl (by unfold FU; omega) (fun i hi => absurd hi (Nat.not_lt_zero i))
    refine ⟨gs, 0, nI (gs 0), c2, st2, al2, ti2, tc2, se2, k', w', so', ch', nI 0, nw', nI 0, ?_, ?_, q1, hC', hM', by omega, hH.2.1, hH.2.2.1, rfl, rfl, fun i hi => absurd hi (Nat.not_lt_zero i)⟩
    · unfold J_X9_restore J_X4_forget J_X2_count
      rw [h1, hb1]
      simp (disch := omega) only [↓reduceIte, nm_x, chk_nI, chz_0, chz_1, chz_b2, chn_nI, oi_1, oi_2, oi_m1, il_0, il_1, il_2, il_3, il_4, il_5, il_6, il_7, il_8, il_9, il_10, il_11, il_12, il_13, il_14, il_15, il_16, il_32, il_35, il_40, il_41, il_42, il_43, il_44, il_45, il_46, il_48, il_57, il_58, il_59, il_60, il_99, il_104, il_115, il_116, il_119, il_126, il_133, il_255, il_256, il_512, il_931, il_1000, il_65536, bn0, bn1, bn2, bn3, bn4, bn5, bn6, bn7, bn8, bn9, bn10, bn11, bn12, bn13, bn14, bn15, nI_leI, nI_ltI, nI_eq, nI_clamp, nI_add, pk_mul, nI_lt0, ng_lt0, ng_ge0, ng_eqn, ng_neq, ng_len, ng_eq, sV_m1, sV_lt0, sV_ge0, if_true, if_false, Nat.le_refl, Nat.lt_irrefl, Nat.not_lt_zero, Nat.zero_le, not_true_eq_false, not_false_eq_true, false_and, true_and, and_true, and_false, true_or, or_true, false_or, or_false, reduceCtorEq, e1]
      rw [← q2.1.1]
    · unfold J_X10_restore
      rw [h2, hb1] at *
      simp (disch := omega) only [↓reduceIte, nm_x, chk_nI, chz_0, chz_1, chz_b2, chn_nI, oi_1, oi_2, oi_m1, il_0, il_1, il_2, il_3, il_4, il_5, il_6, il_7, il_8, il_9, il_10, il_11, il_12, il_13, il_14, il_15, il_16, il_32, il_35, il_40, il_41, il_42, il_43, il_44, il_45, il_46, il_48, il_57, il_58, il_59, il_60, il_99, il_104, il_115, il_116, il_119, il_126, il_133, il_255, il_256, il_512, il_931, il_1000, il_65536, bn0, bn1, bn2, bn3, bn4, bn5, bn6, bn7, bn8, bn9, bn10, bn11, bn12, bn13, bn14, bn15, nI_leI, nI_ltI, nI_eq, nI_clamp, nI_add, pk_mul, nI_lt0, ng_lt0, ng_ge0, ng_eqn, ng_neq, ng_len, ng_eq, sV_m1, sV_lt0, sV_ge0, if_true, if_false, Nat.le_refl, Nat.lt_irrefl, Nat.not_lt_zero, Nat.zero_le, not_true_eq_false, not_false_eq_true, false_and, true_and, and_true, and_false, true_or, or_true, false_or, or_false, reduceCtorEq]
      exact e2
end Hist

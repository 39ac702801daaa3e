/-! p35: LINES: their lengths and signs as functions of the state; accounts that neither the past nor the text changes -/
def q_tellN (g : Nat → Nat) : Nat := match J_X10_tell 0 (gO g) z0 with | none => 0 | some (x, _, _) => x.toNatClampNeg
def q_tellC (g : Nat → Nat) : Nat → Int32 := match J_X10_tell 0 (gO g) z0 with | none => z0 | some (_, _, l) => l
def q_lampN (g : Nat → Nat) (l : Nat) : Nat := match J_X10_tellLantern (nI 0) (gO g) z0 (nI l) with | none => 0 | some (x, _, _) => x.toNatClampNeg
def q_lampC (g : Nat → Nat) (l : Nat) : Nat → Int32 := match J_X10_tellLantern (nI 0) (gO g) z0 (nI l) with | none => z0 | some (_, _, l) => l
/-- the line: n signs -/
def LX (n : Nat) (lc ls : Nat → Int32) : Prop := n ≤ 32 ∧ ∀ i, i < n → ls i = lc i
section Lines2
variable {g : Nat → Nat} {B : Nat} {c al ti tc se : Int32} {st : Int64} {k w so ch : Nat → Int32}
theorem tell_q (hG : GV g) (hC : CR g c st al ti tc se k w so ch) (lc : Int32) (ls : Nat → Int32) : ∃ ls', J_X9_tell c st lc ls = some (nI (q_tellN g), nI (q_tellN g), ls') ∧ LX (q_tellN g) (q_tellC g) ls' := by
  obtain ⟨n', ls', ln', e1, e2, h⟩ := tell_both hG hC (MR_O g) lc 0 ls z0
  have e3 : J_X10_tell 0 (gO g) z0 = some (nI n', nI n', ln') := e2
  have hn : q_tellN g = n' := by
    unfold q_tellN
    rw [e3]
    exact nI_clamp (show n' < 2 ^ 31 by have := h.1; omega)
  have hc : q_tellC g = ln' := by unfold q_tellC; rw [e3]
  rw [hn, hc]
  exact ⟨ls', e1, h⟩
theorem lamp_both {nw : Nat → Int32} (hG : GV g) (hC : CR g c st al ti tc se k w so ch) (hM : MR g nw) (n : Nat) (ls ln : Nat → Int32) {l : Nat} (hl : l < g 0) : ∃ n' ls' ln', J_X9_tellLantern c st k w so (nI n) ls (nI l) = some (nI n', nI n', ls') ∧ J_X10_tellLantern (nI n) nw ln (nI l) = some (nI n', nI n', ln') ∧ WL n' ls' ln' := by
  have h16 := hG.1
  unfold J_X9_tellLantern J_X3_empty J_X10_tellLantern
  have q := GV_l hG (l := l) (by omega)
  rw [hC.1.1, X2_isHung_t hl h16, bn1, if_neg (show ¬ nI 1 = (0 : Int32) by decide +kernel), X10_isLantern_t hG hM hl, bn1, bn1, if_neg (show ¬ nI 1 = (0 : Int32) by decide +kernel), ← hC.1.1]
  obtain ⟨n1, ls1, ln1, a1, a2, a3, a4, a5, a6⟩ := number_both (n := 0) (v := l) (ls := ls) (ln := ln) ⟨Nat.zero_le _, fun i hi => absurd hi (Nat.not_lt_zero i)⟩ (by omega) (by omega)
  rw [il_0, a1, a2, bn2, bn2, il_58, X3_add (by omega) (by omega), bn2, writes1 (by omega) (by omega), bn2, X2_kindOf hG hC.1 hl, X10_of hM (by omega) (show 0 < 8 by omega), bn1, bn1]
  have b3 := a3.add (by omega) (nI 58)
  obtain ⟨wc, k1, k2⟩ := KW_c (GA g l 0) q.1
  obtain ⟨wm, k3, k4⟩ := KW_m (GA g l 0) q.1
  obtain ⟨l6, l7⟩ := KW_le (GA g l 0)
  rw [k1, k3, bn1, bn1, k2, k4]
  obtain ⟨ls2, ln2, c1, c2, c3⟩ := word_both l7 (KW (GA g l 0)).length FU FU 0 (n1 + 1) _ _ (by omega) (by unfold FU; omega) (by unfold FU; omega) (by omega) b3 (by omega)
  unfold J_X3_addWord J_X10_writes
  rw [il_0, c1, c2, bn2, bn2, X2_wickOf hG hC.1 hl, il_1, X10_of hM (by omega) (by omega), bn1, bn1]
  obtain ⟨n3, ls3, ln3, d1, d2, d3, d4, d5, d6⟩ := number_both (v := GA g l 1) c3 (by omega) (by omega)
  have d7 := d6 (by omega)
  rw [d1, d2, bn2, bn2, X2_isSwitch hG hC.1 hl, bn1]
  by_cases hk : GA g l 0 = 0
  · rw [decide_eq_true hk, b2_t, if_neg (show ¬ nI 1 = nI 0 by decide +kernel)]
    obtain ⟨n4, ls4, ln4, e1, e2, e3⟩ := tlend_both (c := c) (k := k) (w := w) (so := so) hG hC.2.1 hM hl (show n3 < 32 by omega) d3
    obtain ⟨m, hm⟩ : ∃ m, FU = m + 1 := ⟨999, rfl⟩
    have hp0 : plc (GA g l 0) = 0 := by rw [hk]; rfl
    rw [e1, hm, J_X10_tellLantern_L53, X10_places hG hM (by omega), hp0, bn1, if_pos (show nI 0 ≤ nI 0 by decide +kernel), X10_isSwitch hG hM (by omega), decide_eq_true hk, b2_t, bn1, if_neg (show ¬ nI 1 = (0 : Int32) by decide +kernel), e2]
    exact ⟨n4, _, _, rfl, rfl, e3⟩
  · have hp3 := plc_le (GA g l 0)
    obtain ⟨n4, ls4, ln4, e1, e2, e3, e4⟩ := wires_L hG hC.1 hM hl hk (plc (GA g l 0)) FU FU 0 n3 ls3 ln3 (by omega) (by unfold FU; omega) (by unfold FU; omega) (by omega) d3
    rw [decide_eq_false hk, b2_f, if_pos (show nI 0 = nI 0 from rfl)]
    unfold J_X9_addWires
    rw [X2_kindOf hG hC.1 hl, bn1, X9_placesOf q.1, bn1, il_0, e1, bn2, e2]
    obtain ⟨n5, ls5, ln5, f1, f2, f3⟩ := tlend_both (c := c) (k := k) (w := w) (so := so) hG hC.2.1 hM hl (show n4 < 32 by omega) e3
    exact ⟨n5, _, _, f1, f2, f3⟩
theorem lamp_q (hG : GV g) (hC : CR g c st al ti tc se k w so ch) (lc : Int32) (ls : Nat → Int32) {l : Nat} (hl : l < g 0) : ∃ ls', J_X9_tellLantern c st k w so lc ls (nI l) = some (nI (q_lampN g l), nI (q_lampN g l), ls') ∧ LX (q_lampN g l) (q_lampC g l) ls' := by
  have h16 := hG.1
  have hc := hC.1.1
  have e0 : J_X9_tellLantern c st k w so lc ls (nI l) = J_X9_tellLantern c st k w so (nI 0) ls (nI l) := by
    unfold J_X9_tellLantern
    rw [hc, X2_isHung_t hl h16, bn1, bn1, if_neg (show ¬ nI 1 = (0 : Int32) by decide +kernel), if_neg (show ¬ nI 1 = (0 : Int32) by decide +kernel)]
  obtain ⟨n', ls', ln', e1, e2, h⟩ := lamp_both hG hC (MR_O g) 0 ls z0 hl
  have e3 : J_X10_tellLantern (nI 0) (gO g) z0 (nI l) = some (nI n', nI n', ln') := e2
  have hn : q_lampN g l = n' := by
    unfold q_lampN
    rw [e3]
    exact nI_clamp (show n' < 2 ^ 31 by have := h.1; omega)
  have hq : q_lampC g l = ln' := by unfold q_lampC; rw [e3]
  rw [hn, hq, e0]
  exact ⟨ls', e1, h⟩
theorem account_un (und und' len len' : Int32) (kn : Nat → Int32) {v1 : Int32} (h11 : ¬ v1 = 11) (h12 : ¬ v1 = 12) : J_X9_account c st al ti tc se k w so ch und kn len v1 = J_X9_account c st al ti tc se k w so ch und' kn len' v1 := by
  unfold J_X9_account
  rw [if_neg h11, if_neg h12, if_neg h11, if_neg h12]
  rfl
theorem account_s (hG : GW g B) (hC : CR g c st al ti tc se k w so ch) (und len : Int32) (kn : Nat → Int32) {v1 : Int32} (h11 : ¬ v1 = 11) (h12 : ¬ v1 = 12) : ∃ kn', J_X9_account c st al ti tc se k w so ch und kn len v1 = some (q_account g 0 0 v1, kn') := by
  rw [account_un und (nI 0) len (nI 0) kn h11 h12]
  exact account_q hG hC 0 0 kn v1
theorem account_1 (hG : GW g B) (u n : Nat) : q_account g u n 1 = nI (g 0) := by
  unfold q_account J_X10_account
  simp (disch := omega) only [↓reduceIte, nm_x, chk_nI, chz_0, chz_1, chz_b2, chn_nI, oi_1, oi_2, oi_m1, il_0, il_1, il_2, il_3, il_4, il_5, il_6, il_7, il_8, il_9, il_10, il_11, il_12, il_13, il_14, il_15, il_16, il_32, il_35, il_40, il_41, il_42, il_43, il_44, il_45, il_46, il_48, il_57, il_58, il_59, il_60, il_99, il_104, il_115, il_116, il_119, il_126, il_133, il_255, il_256, il_512, il_931, il_1000, il_65536, bn0, bn1, bn2, bn3, bn4, bn5, bn6, bn7, bn8, bn9, bn10, bn11, bn12, bn13, bn14, bn15, nI_leI, nI_ltI, nI_eq, nI_clamp, nI_add, pk_mul, nI_lt0, ng_lt0, ng_ge0, ng_eqn, ng_neq, ng_len, ng_eq, sV_m1, sV_lt0, sV_ge0, if_true, if_false, Nat.le_refl, Nat.lt_irrefl, Nat.not_lt_zero, Nat.zero_le, not_true_eq_false, not_false_eq_true, false_and, true_and, and_true, and_false, true_or, or_true, false_or, or_false, reduceCtorEq]
  rfl
end Lines2

/-! COUNTS of wires, changes, glows; what balances -/
/-- all is accounted for, at most B changes so far -/
def GW (g : Nat → Nat) (B : Nat) : Prop := GV g ∧ (∀ l, l < 16 → GA g l 3 % 2 = GA g l 2) ∧ fb_sm (fun l => GA g l 3) 16 = g 3 + g 4 ∧ g 3 + g 4 ≤ B
theorem GW.up {g : Nat → Nat} {B B' : Nat} (h : GW g B) (hB : B ≤ B') : GW g B' := ⟨h.1, h.2.1, h.2.2.1, Nat.le_trans h.2.2.2 hB⟩
theorem GW.ch {g : Nat → Nat} {B : Nat} (h : GW g B) {l : Nat} (hl : l < 16) : GA g l 3 ≤ B := by
  have h1 := fb_sm_part (fun l => GA g l 3) hl
  have h2 := h.2.2.1
  have h3 := h.2.2.2
  omega
theorem dg_par {g : Nat → Nat} (hG : GV g) {l : Nat} (hl : l < 16) (h : GA g l 3 % 2 = GA g l 2) : (GA g l 3 + dg g l) % 2 = ng g l := by
  have h1 := ng_le hG hl
  have h2 := (GV_l hG hl).2.2.1
  unfold dg
  split <;> omega
theorem GW.tk {g : Nat → Nat} {B : Nat} (h : GW g B) : GW (tk g) (B + 16) := by
  have hs : fb_sm (dg g) 16 ≤ 16 * 1 := fb_sm_bound (fun l _ => dg_le g l)
  refine ⟨GV_tk h.1, fun l hl => by rw [tk_g3 g hl, tk_g2 g hl]; exact dg_par h.1 hl (h.2.1 l hl), ?_, ?_⟩
  · rw [fb_sm_cong (g := fun l => GA g l 3 + dg g l) (fun l hl => tk_g3 g hl), fb_sm_add, h.2.2.1, tk_3, tk_4]
    omega
  · rw [tk_3, tk_4]
    have := h.2.2.2
    omega
theorem GW.tki {g : Nat → Nat} {B : Nat} (h : GW g B) : ∀ t, GW (tki g t) (B + 16 * t)
  | 0 => h
  | t + 1 => (GW.tki h t).tk
/-- the changes of all in t ticks -/
def tsum (g : Nat → Nat) (t : Nat) : Nat := fb_sm (fun s => fb_sm (dg (tki g s)) 16) t
theorem tsum_le (g : Nat → Nat) (t : Nat) : tsum g t ≤ 16 * t := by
  have := fb_sm_bound (f := fun s => fb_sm (dg (tki g s)) 16) (c := 16) (n := t) (fun s _ => fb_sm_bound (c := 1) fun l _ => dg_le _ l)
  unfold tsum; omega
theorem fb_sm_tail {f : Nat → Nat} {n : Nat} (hn : n ≤ 16) (h : ∀ l, n ≤ l → l < 16 → f l = 0) : fb_sm f 16 = fb_sm f n := by
  have h1 := fb_sm_split f n (16 - n)
  rw [show n + (16 - n) = 16 by omega] at h1
  rw [h1, fb_sm_cong (g := fun _ => 0) (n := 16 - n) (fun k hk => h (n + k) (by omega) (by omega)), fb_sm_const]
  omega
theorem fb_sm_3 (f : Nat → Nat) : ∀ n, fb_sm f (n * 3) = fb_sm (fun l => fb_sm (fun p => f (l * 3 + p)) 3) n
  | 0 => rfl
  | n + 1 => by
    have h := fb_sm_split f (n * 3) 3
    rw [fb_sm_succ, ← fb_sm_3 f n, ← h, Nat.succ_mul]
section CountX
variable {g : Nat → Nat} {c : Int32} {k w so : Nat → Int32} {st : Int64}
theorem X2_wiresTo_L (hG : GV g) (hS : SR g c k w so) {l : Nat} (hl : l < 16) : ∀ d nf p, p + d = 3 → d < nf → J_X2_wiresTo_L4 so (nI l) nf (nI (fb_ct (fun p => decide (src g l p ≠ 0)) p)) (nI p) = some (nI (wct g l)) := by
  intro d
  induction d with
  | zero =>
    intro nf p hp hd
    obtain ⟨m, rfl, -⟩ := nf_of hd
    obtain rfl : p = 3 := by omega
    rw [J_X2_wiresTo_L4]
    simp (disch := omega) only [↓reduceIte, nm_x, chk_nI, chz_0, chz_1, chz_b2, chn_nI, oi_1, oi_2, oi_m1, il_0, il_1, il_2, il_3, il_4, il_5, il_6, il_7, il_8, il_9, il_10, il_11, il_12, il_13, il_14, il_15, il_16, il_32, il_35, il_40, il_41, il_42, il_43, il_44, il_45, il_46, il_48, il_57, il_58, il_59, il_60, il_99, il_104, il_115, il_116, il_119, il_126, il_133, il_255, il_256, il_512, il_931, il_1000, il_65536, bn0, bn1, bn2, bn3, bn4, bn5, bn6, bn7, bn8, bn9, bn10, bn11, bn12, bn13, bn14, bn15, nI_leI, nI_ltI, nI_eq, nI_clamp, nI_add, pk_mul, nI_lt0, ng_lt0, ng_ge0, ng_eqn, ng_neq, ng_len, ng_eq, sV_m1, sV_lt0, sV_ge0, if_true, if_false, Nat.le_refl, Nat.lt_irrefl, Nat.not_lt_zero, Nat.zero_le, not_true_eq_false, not_false_eq_true, false_and, true_and, and_true, and_false, true_or, or_true, false_or, or_false, reduceCtorEq]
    rfl
  | succ d ih =>
    intro nf p hp hd
    obtain ⟨m, rfl, hm⟩ := nf_of hd
    have hs := GV_src hG hl (show p < 3 by omega)
    have ih' := ih m (p + 1) (by omega) (by omega)
    rw [fb_ct_succ] at ih'
    rw [J_X2_wiresTo_L4, X2_sourceOf hS hl (by omega)]
    unfold J_X2_wiresTo_b22
    simp (disch := omega) only [↓reduceIte, nm_x, chk_nI, chz_0, chz_1, chz_b2, chn_nI, oi_1, oi_2, oi_m1, il_0, il_1, il_2, il_3, il_4, il_5, il_6, il_7, il_8, il_9, il_10, il_11, il_12, il_13, il_14, il_15, il_16, il_32, il_35, il_40, il_41, il_42, il_43, il_44, il_45, il_46, il_48, il_57, il_58, il_59, il_60, il_99, il_104, il_115, il_116, il_119, il_126, il_133, il_255, il_256, il_512, il_931, il_1000, il_65536, bn0, bn1, bn2, bn3, bn4, bn5, bn6, bn7, bn8, bn9, bn10, bn11, bn12, bn13, bn14, bn15, nI_leI, nI_ltI, nI_eq, nI_clamp, nI_add, pk_mul, nI_lt0, ng_lt0, ng_ge0, ng_eqn, ng_neq, ng_len, ng_eq, sV_m1, sV_lt0, sV_ge0, if_true, if_false, Nat.le_refl, Nat.lt_irrefl, Nat.not_lt_zero, Nat.zero_le, not_true_eq_false, not_false_eq_true, false_and, true_and, and_true, and_false, true_or, or_true, false_or, or_false, reduceCtorEq, show ¬ 3 ≤ p by omega]
    by_cases h : src g l p = 0
    · simp only [h, if_true]
      simp only [h, ne_eq, not_true_eq_false, decide_false, Bool.false_eq_true, if_false, Nat.add_zero] at ih'
      exact ih'
    · simp only [h, if_false]
      simp only [h, ne_eq, not_false_eq_true, decide_true, if_true] at ih'
      exact ih'
theorem X2_wiresTo (hG : GV g) (hS : SR g c k w so) {l : Nat} (hl : l < 16) : J_X2_wiresTo so (nI l) = some (nI (wct g l)) := by
  unfold J_X2_wiresTo
  simp only [il_0]
  exact X2_wiresTo_L hG hS hl 3 FU 0 rfl (by unfold FU; omega)
/-- a wire of the place i comes from l -/
def wfr (g : Nat → Nat) (l i : Nat) : Nat := if src g (i / 3) (i % 3) = l + 1 then 1 else 0
theorem X2_wiresFrom_L (hG : GV g) (hS : SR g c k w so) {l : Nat} (hl : l < 16) : ∀ d nf i, i + d = 48 → d < nf → J_X2_wiresFrom_L4 so (nI l) nf (nI (fb_sm (wfr g l) i)) (nI i) = some (nI (fb_sm (wfr g l) 48)) := by
  intro d
  induction d with
  | zero =>
    intro nf i hi hd
    obtain ⟨m, rfl, -⟩ := nf_of hd
    obtain rfl : i = 48 := by omega
    rw [J_X2_wiresFrom_L4]
    simp (disch := omega) only [↓reduceIte, nm_x, chk_nI, chz_0, chz_1, chz_b2, chn_nI, oi_1, oi_2, oi_m1, il_0, il_1, il_2, il_3, il_4, il_5, il_6, il_7, il_8, il_9, il_10, il_11, il_12, il_13, il_14, il_15, il_16, il_32, il_35, il_40, il_41, il_42, il_43, il_44, il_45, il_46, il_48, il_57, il_58, il_59, il_60, il_99, il_104, il_115, il_116, il_119, il_126, il_133, il_255, il_256, il_512, il_931, il_1000, il_65536, bn0, bn1, bn2, bn3, bn4, bn5, bn6, bn7, bn8, bn9, bn10, bn11, bn12, bn13, bn14, bn15, nI_leI, nI_ltI, nI_eq, nI_clamp, nI_add, pk_mul, nI_lt0, ng_lt0, ng_ge0, ng_eqn, ng_neq, ng_len, ng_eq, sV_m1, sV_lt0, sV_ge0, if_true, if_false, Nat.le_refl, Nat.lt_irrefl, Nat.not_lt_zero, Nat.zero_le, not_true_eq_false, not_false_eq_true, false_and, true_and, and_true, and_false, true_or, or_true, false_or, or_false, reduceCtorEq]
  | succ d ih =>
    intro nf i hi hd
    obtain ⟨m, rfl, hm⟩ := nf_of hd
    have hs := GV_src hG (l := i / 3) (p := i % 3) (by omega) (by omega)
    have hso := hS.2.2.2 (i / 3) (i % 3) (by omega) (by omega)
    rw [show i / 3 * 3 + i % 3 = i by omega] at hso
    have ih' := ih m (i + 1) (by omega) (by omega)
    rw [fb_sm_succ] at ih'
    rw [J_X2_wiresFrom_L4]
    unfold J_X2_wiresFrom_b23
    simp (disch := omega) only [↓reduceIte, nm_x, chk_nI, chz_0, chz_1, chz_b2, chn_nI, oi_1, oi_2, oi_m1, il_0, il_1, il_2, il_3, il_4, il_5, il_6, il_7, il_8, il_9, il_10, il_11, il_12, il_13, il_14, il_15, il_16, il_32, il_35, il_40, il_41, il_42, il_43, il_44, il_45, il_46, il_48, il_57, il_58, il_59, il_60, il_99, il_104, il_115, il_116, il_119, il_126, il_133, il_255, il_256, il_512, il_931, il_1000, il_65536, bn0, bn1, bn2, bn3, bn4, bn5, bn6, bn7, bn8, bn9, bn10, bn11, bn12, bn13, bn14, bn15, nI_leI, nI_ltI, nI_eq, nI_clamp, nI_add, pk_mul, nI_lt0, ng_lt0, ng_ge0, ng_eqn, ng_neq, ng_len, ng_eq, sV_m1, sV_lt0, sV_ge0, if_true, if_false, Nat.le_refl, Nat.lt_irrefl, Nat.not_lt_zero, Nat.zero_le, not_true_eq_false, not_false_eq_true, false_and, true_and, and_true, and_false, true_or, or_true, false_or, or_false, reduceCtorEq, show ¬ 48 ≤ i by omega, hso, sV_eq]
    unfold wfr at ih' ⊢
    by_cases h : src g (i / 3) (i % 3) = l + 1
    · rw [if_pos h] at ih' ⊢
      exact ih'
    · rw [if_neg h] at ih' ⊢
      exact ih'
theorem X2_wiresFrom (hG : GV g) (hS : SR g c k w so) {l : Nat} (hl : l < 16) : J_X2_wiresFrom so (nI l) = some (nI (fb_sm (wfr g l) 48)) := by
  unfold J_X2_wiresFrom
  simp only [il_0]
  exact X2_wiresFrom_L hG hS hl 48 FU 0 rfl (by unfold FU; omega)
theorem X2_wires_L (hG : GV g) (hS : SR g c k w so) : ∀ d nf j, j + d = g 0 → d < nf → J_X2_wires_L4 c so nf (nI (fb_sm (wct g) j)) (nI j) = some (nI (fb_sm (wct g) (g 0))) := by
  have hn := hG.1
  intro d
  induction d with
  | zero =>
    intro nf j hj hd
    obtain ⟨m, rfl, -⟩ := nf_of hd
    obtain rfl : j = g 0 := by omega
    rw [J_X2_wires_L4, hS.1]
    simp (disch := omega) only [↓reduceIte, nm_x, chk_nI, chz_0, chz_1, chz_b2, chn_nI, oi_1, oi_2, oi_m1, il_0, il_1, il_2, il_3, il_4, il_5, il_6, il_7, il_8, il_9, il_10, il_11, il_12, il_13, il_14, il_15, il_16, il_32, il_35, il_40, il_41, il_42, il_43, il_44, il_45, il_46, il_48, il_57, il_58, il_59, il_60, il_99, il_104, il_115, il_116, il_119, il_126, il_133, il_255, il_256, il_512, il_931, il_1000, il_65536, bn0, bn1, bn2, bn3, bn4, bn5, bn6, bn7, bn8, bn9, bn10, bn11, bn12, bn13, bn14, bn15, nI_leI, nI_ltI, nI_eq, nI_clamp, nI_add, pk_mul, nI_lt0, ng_lt0, ng_ge0, ng_eqn, ng_neq, ng_len, ng_eq, sV_m1, sV_lt0, sV_ge0, if_true, if_false, Nat.le_refl, Nat.lt_irrefl, Nat.not_lt_zero, Nat.zero_le, not_true_eq_false, not_false_eq_true, false_and, true_and, and_true, and_false, true_or, or_true, false_or, or_false, reduceCtorEq]
  | succ d ih =>
    intro nf j hj hd
    obtain ⟨m, rfl, hm⟩ := nf_of hd
    have ih' := ih m (j + 1) (by omega) hm
    have e := X2_wiresTo hG hS (show j < 16 by omega)
    rw [fb_sm_succ] at ih'
    rw [hS.1] at ih' ⊢
    rw [J_X2_wires_L4]
    simp (disch := omega) only [↓reduceIte, nm_x, chk_nI, chz_0, chz_1, chz_b2, chn_nI, oi_1, oi_2, oi_m1, il_0, il_1, il_2, il_3, il_4, il_5, il_6, il_7, il_8, il_9, il_10, il_11, il_12, il_13, il_14, il_15, il_16, il_32, il_35, il_40, il_41, il_42, il_43, il_44, il_45, il_46, il_48, il_57, il_58, il_59, il_60, il_99, il_104, il_115, il_116, il_119, il_126, il_133, il_255, il_256, il_512, il_931, il_1000, il_65536, bn0, bn1, bn2, bn3, bn4, bn5, bn6, bn7, bn8, bn9, bn10, bn11, bn12, bn13, bn14, bn15, nI_leI, nI_ltI, nI_eq, nI_clamp, nI_add, pk_mul, nI_lt0, ng_lt0, ng_ge0, ng_eqn, ng_neq, ng_len, ng_eq, sV_m1, sV_lt0, sV_ge0, if_true, if_false, Nat.le_refl, Nat.lt_irrefl, Nat.not_lt_zero, Nat.zero_le, not_true_eq_false, not_false_eq_true, false_and, true_and, and_true, and_false, true_or, or_true, false_or, or_false, reduceCtorEq, show ¬ g 0 ≤ j by omega, e]
    exact ih'
theorem X2_wires (hG : GV g) (hS : SR g c k w so) : J_X2_wires c so = some (nI (fb_sm (wct g) (g 0))) := by
  unfold J_X2_wires
  simp only [il_0]
  exact X2_wires_L hG hS (g 0) FU 0 (by omega) (by have := hG.1; unfold FU; omega)
theorem X2_changes_L (hG : GV g) (hS : SR g c k w so) {ch : Nat → Int32} (hch : ∀ l, l < 16 → ch l = nI (GA g l 3)) : ∀ d nf j, j + d = g 0 → d < nf → J_X2_changes_L4 c ch nf (nI (fb_sm (fun l => GA g l 3) j)) (nI j) = some (nI (fb_sm (fun l => GA g l 3) (g 0))) := by
  have hn := hG.1
  intro d
  induction d with
  | zero =>
    intro nf j hj hd
    obtain ⟨m, rfl, -⟩ := nf_of hd
    obtain rfl : j = g 0 := by omega
    rw [J_X2_changes_L4, hS.1]
    simp (disch := omega) only [↓reduceIte, nm_x, chk_nI, chz_0, chz_1, chz_b2, chn_nI, oi_1, oi_2, oi_m1, il_0, il_1, il_2, il_3, il_4, il_5, il_6, il_7, il_8, il_9, il_10, il_11, il_12, il_13, il_14, il_15, il_16, il_32, il_35, il_40, il_41, il_42, il_43, il_44, il_45, il_46, il_48, il_57, il_58, il_59, il_60, il_99, il_104, il_115, il_116, il_119, il_126, il_133, il_255, il_256, il_512, il_931, il_1000, il_65536, bn0, bn1, bn2, bn3, bn4, bn5, bn6, bn7, bn8, bn9, bn10, bn11, bn12, bn13, bn14, bn15, nI_leI, nI_ltI, nI_eq, nI_clamp, nI_add, pk_mul, nI_lt0, ng_lt0, ng_ge0, ng_eqn, ng_neq, ng_len, ng_eq, sV_m1, sV_lt0, sV_ge0, if_true, if_false, Nat.le_refl, Nat.lt_irrefl, Nat.not_lt_zero, Nat.zero_le, not_true_eq_false, not_false_eq_true, false_and, true_and, and_true, and_false, true_or, or_true, false_or, or_false, reduceCtorEq]
  | succ d ih =>
    intro nf j hj hd
    obtain ⟨m, rfl, hm⟩ := nf_of hd
    have ih' := ih m (j + 1) (by omega) hm
    have e := X2_changesOf hG hS ch (show j < g 0 by omega)
    rw [fb_sm_succ] at ih'
    rw [hS.1] at ih' e ⊢
    rw [J_X2_changes_L4]
    simp (disch := omega) only [↓reduceIte, nm_x, chk_nI, chz_0, chz_1, chz_b2, chn_nI, oi_1, oi_2, oi_m1, il_0, il_1, il_2, il_3, il_4, il_5, il_6, il_7, il_8, il_9, il_10, il_11, il_12, il_13, il_14, il_15, il_16, il_32, il_35, il_40, il_41, il_42, il_43, il_44, il_45, il_46, il_48, il_57, il_58, il_59, il_60, il_99, il_104, il_115, il_116, il_119, il_126, il_133, il_255, il_256, il_512, il_931, il_1000, il_65536, bn0, bn1, bn2, bn3, bn4, bn5, bn6, bn7, bn8, bn9, bn10, bn11, bn12, bn13, bn14, bn15, nI_leI, nI_ltI, nI_eq, nI_clamp, nI_add, pk_mul, nI_lt0, ng_lt0, ng_ge0, ng_eqn, ng_neq, ng_len, ng_eq, sV_m1, sV_lt0, sV_ge0, if_true, if_false, Nat.le_refl, Nat.lt_irrefl, Nat.not_lt_zero, Nat.zero_le, not_true_eq_false, not_false_eq_true, false_and, true_and, and_true, and_false, true_or, or_true, false_or, or_false, reduceCtorEq, show ¬ g 0 ≤ j by omega, e, hch]
    exact ih'
theorem X2_changes (hG : GV g) (hS : SR g c k w so) {ch : Nat → Int32} (hch : ∀ l, l < 16 → ch l = nI (GA g l 3)) : J_X2_changes c ch = some (nI (fb_sm (fun l => GA g l 3) (g 0))) := by
  unfold J_X2_changes
  simp only [il_0]
  exact X2_changes_L hG hS hch (g 0) FU 0 (by omega) (by have := hG.1; unfold FU; omega)
/-- how many glow -/
def gct (g : Nat → Nat) : Nat := fb_sm (fun l => GA g l 2) (g 0)
theorem gct_le {g : Nat → Nat} (hG : GV g) : gct g ≤ 16 := by
  have hn := hG.1
  have := fb_sm_bound (f := fun l => GA g l 2) (c := 1) (n := g 0) (fun l hl => (GV_l hG (by omega)).2.2.1)
  unfold gct; omega
theorem gct_bits (hG : GV g) {x : Int32} (hx : ∀ i, i < 32 → bt x i = (decide (i < 16) && bl st i)) (hE : ER g st) : J_J6_bitCount_0f7a4 x = some (nI (gct g)) := by
  have hn := hG.1
  rw [bitCount_eq (fun i hi => by
    rcases Nat.lt_or_ge i 32 with q | q
    · rw [hx i q, decide_eq_false (by omega)]; rfl
    · exact b_big q), fb_ct_sm]
  congr 2
  rw [fb_sm_cong (g := fun l => GA g l 2) (fun l hl => by
    show (if bt x l = true then 1 else 0) = GA g l 2
    rw [hx l (by omega), hE.1 l hl, decide_eq_true hl, Bool.true_and, gw_n hG hl])]
  exact fb_sm_tail hn fun l h1 h2 => hG.2.2.2.2.2 _ (by omega) (by omega)
end CountX
section CountM
variable {g : Nat → Nat} {nw : Nat → Int32}
theorem X10_glowing_L (hG : GV g) (hM : MR g nw) : ∀ d nf j, j + d = g 0 → d < nf → J_X10_glowing_L4 nw nf (nI (fb_sm (fun l => GA g l 2) j)) (nI j) = some (nI (gct g)) := by
  have hn := hG.1
  intro d
  induction d with
  | zero =>
    intro nf j hj hd
    obtain ⟨m, rfl, -⟩ := nf_of hd
    obtain rfl : j = g 0 := by omega
    rw [J_X10_glowing_L4]
    simp (disch := omega) only [↓reduceIte, nm_x, chk_nI, chz_0, chz_1, chz_b2, chn_nI, oi_1, oi_2, oi_m1, il_0, il_1, il_2, il_3, il_4, il_5, il_6, il_7, il_8, il_9, il_10, il_11, il_12, il_13, il_14, il_15, il_16, il_32, il_35, il_40, il_41, il_42, il_43, il_44, il_45, il_46, il_48, il_57, il_58, il_59, il_60, il_99, il_104, il_115, il_116, il_119, il_126, il_133, il_255, il_256, il_512, il_931, il_1000, il_65536, bn0, bn1, bn2, bn3, bn4, bn5, bn6, bn7, bn8, bn9, bn10, bn11, bn12, bn13, bn14, bn15, nI_leI, nI_ltI, nI_eq, nI_clamp, nI_add, pk_mul, nI_lt0, ng_lt0, ng_ge0, ng_eqn, ng_neq, ng_len, ng_eq, sV_m1, sV_lt0, sV_ge0, if_true, if_false, Nat.le_refl, Nat.lt_irrefl, Nat.not_lt_zero, Nat.zero_le, not_true_eq_false, not_false_eq_true, false_and, true_and, and_true, and_false, true_or, or_true, false_or, or_false, reduceCtorEq, hM 0 (by omega)]
    rfl
  | succ d ih =>
    intro nf j hj hd
    obtain ⟨m, rfl, hm⟩ := nf_of hd
    have ih' := ih m (j + 1) (by omega) hm
    have e := X10_of hM (show j < 16 by omega) (show 2 < 8 by omega)
    rw [fb_sm_succ] at ih'
    rw [J_X10_glowing_L4]
    simp (disch := omega) only [↓reduceIte, nm_x, chk_nI, chz_0, chz_1, chz_b2, chn_nI, oi_1, oi_2, oi_m1, il_0, il_1, il_2, il_3, il_4, il_5, il_6, il_7, il_8, il_9, il_10, il_11, il_12, il_13, il_14, il_15, il_16, il_32, il_35, il_40, il_41, il_42, il_43, il_44, il_45, il_46, il_48, il_57, il_58, il_59, il_60, il_99, il_104, il_115, il_116, il_119, il_126, il_133, il_255, il_256, il_512, il_931, il_1000, il_65536, bn0, bn1, bn2, bn3, bn4, bn5, bn6, bn7, bn8, bn9, bn10, bn11, bn12, bn13, bn14, bn15, nI_leI, nI_ltI, nI_eq, nI_clamp, nI_add, pk_mul, nI_lt0, ng_lt0, ng_ge0, ng_eqn, ng_neq, ng_len, ng_eq, sV_m1, sV_lt0, sV_ge0, if_true, if_false, Nat.le_refl, Nat.lt_irrefl, Nat.not_lt_zero, Nat.zero_le, not_true_eq_false, not_false_eq_true, false_and, true_and, and_true, and_false, true_or, or_true, false_or, or_false, reduceCtorEq, hM 0 (by omega), show ¬ g 0 ≤ j by omega, e]
    exact ih'
theorem X10_glowing (hG : GV g) (hM : MR g nw) : J_X10_glowing nw = some (nI (gct g)) := by
  unfold J_X10_glowing
  simp only [il_0]
  exact X10_glowing_L hG hM (g 0) FU 0 (by omega) (by have := hG.1; unfold FU; omega)
theorem X10_wiresFrom_L17 (hG : GV g) (hM : MR g nw) (k4 : Int32 → Int32 → Option Int32) {l j : Nat} (hl : l < 16) (hj : j < 16) (a : Nat) : ∀ d nf p, p + d = 3 → d < nf → J_X10_wiresFrom_L17 k4 nw (nI l) nf (nI (a + fb_sm (fun p => wfr g l (j * 3 + p)) p)) (nI j) (nI p) = k4 (nI (a + fb_sm (fun p => wfr g l (j * 3 + p)) 3)) (nI (j + 1)) := by
  intro d
  induction d with
  | zero =>
    intro nf p hp hd
    obtain ⟨m, rfl, -⟩ := nf_of hd
    obtain rfl : p = 3 := by omega
    rw [J_X10_wiresFrom_L17]
    simp (disch := omega) only [↓reduceIte, nm_x, chk_nI, chz_0, chz_1, chz_b2, chn_nI, oi_1, oi_2, oi_m1, il_0, il_1, il_2, il_3, il_4, il_5, il_6, il_7, il_8, il_9, il_10, il_11, il_12, il_13, il_14, il_15, il_16, il_32, il_35, il_40, il_41, il_42, il_43, il_44, il_45, il_46, il_48, il_57, il_58, il_59, il_60, il_99, il_104, il_115, il_116, il_119, il_126, il_133, il_255, il_256, il_512, il_931, il_1000, il_65536, bn0, bn1, bn2, bn3, bn4, bn5, bn6, bn7, bn8, bn9, bn10, bn11, bn12, bn13, bn14, bn15, nI_leI, nI_ltI, nI_eq, nI_clamp, nI_add, pk_mul, nI_lt0, ng_lt0, ng_ge0, ng_eqn, ng_neq, ng_len, ng_eq, sV_m1, sV_lt0, sV_ge0, if_true, if_false, Nat.le_refl, Nat.lt_irrefl, Nat.not_lt_zero, Nat.zero_le, not_true_eq_false, not_false_eq_true, false_and, true_and, and_true, and_false, true_or, or_true, false_or, or_false, reduceCtorEq]
  | succ d ih =>
    intro nf p hp hd
    obtain ⟨m, rfl, hm⟩ := nf_of hd
    have hs := GV_src hG hj (show p < 3 by omega)
    have ih' := ih m (p + 1) (by omega) (by omega)
    rw [fb_sm_succ, ← Nat.add_assoc] at ih'
    rw [J_X10_wiresFrom_L17, X10_wired hM hj (by omega)]
    unfold J_X10_wiresFrom_b37
    simp (disch := omega) only [↓reduceIte, nm_x, chk_nI, chz_0, chz_1, chz_b2, chn_nI, oi_1, oi_2, oi_m1, il_0, il_1, il_2, il_3, il_4, il_5, il_6, il_7, il_8, il_9, il_10, il_11, il_12, il_13, il_14, il_15, il_16, il_32, il_35, il_40, il_41, il_42, il_43, il_44, il_45, il_46, il_48, il_57, il_58, il_59, il_60, il_99, il_104, il_115, il_116, il_119, il_126, il_133, il_255, il_256, il_512, il_931, il_1000, il_65536, bn0, bn1, bn2, bn3, bn4, bn5, bn6, bn7, bn8, bn9, bn10, bn11, bn12, bn13, bn14, bn15, nI_leI, nI_ltI, nI_eq, nI_clamp, nI_add, pk_mul, nI_lt0, ng_lt0, ng_ge0, ng_eqn, ng_neq, ng_len, ng_eq, sV_m1, sV_lt0, sV_ge0, if_true, if_false, Nat.le_refl, Nat.lt_irrefl, Nat.not_lt_zero, Nat.zero_le, not_true_eq_false, not_false_eq_true, false_and, true_and, and_true, and_false, true_or, or_true, false_or, or_false, reduceCtorEq, show ¬ 3 ≤ p by omega, sV_eq]
    have e : wfr g l (j * 3 + p) = if src g j p = l + 1 then 1 else 0 := by
      unfold wfr
      rw [show (j * 3 + p) / 3 = j by omega, show (j * 3 + p) % 3 = p by omega]
    rw [e] at ih'
    by_cases h : src g j p = l + 1
    · rw [if_pos h] at ih' ⊢
      exact ih'
    · rw [if_neg h] at ih' ⊢
      exact ih'
theorem X10_wiresFrom_L (hG : GV g) (hM : MR g nw) {l : Nat} (hl : l < 16) : ∀ d nf j, j + d = g 0 → d < nf → J_X10_wiresFrom_L4 nw (nI l) nf (nI (fb_sm (fun j => fb_sm (fun p => wfr g l (j * 3 + p)) 3) j)) (nI j) = some (nI (fb_sm (fun j => fb_sm (fun p => wfr g l (j * 3 + p)) 3) (g 0))) := by
  have hn := hG.1
  intro d
  induction d with
  | zero =>
    intro nf j hj hd
    obtain ⟨m, rfl, -⟩ := nf_of hd
    obtain rfl : j = g 0 := by omega
    rw [J_X10_wiresFrom_L4]
    simp (disch := omega) only [↓reduceIte, nm_x, chk_nI, chz_0, chz_1, chz_b2, chn_nI, oi_1, oi_2, oi_m1, il_0, il_1, il_2, il_3, il_4, il_5, il_6, il_7, il_8, il_9, il_10, il_11, il_12, il_13, il_14, il_15, il_16, il_32, il_35, il_40, il_41, il_42, il_43, il_44, il_45, il_46, il_48, il_57, il_58, il_59, il_60, il_99, il_104, il_115, il_116, il_119, il_126, il_133, il_255, il_256, il_512, il_931, il_1000, il_65536, bn0, bn1, bn2, bn3, bn4, bn5, bn6, bn7, bn8, bn9, bn10, bn11, bn12, bn13, bn14, bn15, nI_leI, nI_ltI, nI_eq, nI_clamp, nI_add, pk_mul, nI_lt0, ng_lt0, ng_ge0, ng_eqn, ng_neq, ng_len, ng_eq, sV_m1, sV_lt0, sV_ge0, if_true, if_false, Nat.le_refl, Nat.lt_irrefl, Nat.not_lt_zero, Nat.zero_le, not_true_eq_false, not_false_eq_true, false_and, true_and, and_true, and_false, true_or, or_true, false_or, or_false, reduceCtorEq, hM 0 (by omega)]
  | succ d ih =>
    intro nf j hj hd
    obtain ⟨m, rfl, hm⟩ := nf_of hd
    have ih' := ih m (j + 1) (by omega) hm
    rw [fb_sm_succ] at ih'
    rw [J_X10_wiresFrom_L4]
    simp (disch := omega) only [↓reduceIte, nm_x, chk_nI, chz_0, chz_1, chz_b2, chn_nI, oi_1, oi_2, oi_m1, il_0, il_1, il_2, il_3, il_4, il_5, il_6, il_7, il_8, il_9, il_10, il_11, il_12, il_13, il_14, il_15, il_16, il_32, il_35, il_40, il_41, il_42, il_43, il_44, il_45, il_46, il_48, il_57, il_58, il_59, il_60, il_99, il_104, il_115, il_116, il_119, il_126, il_133, il_255, il_256, il_512, il_931, il_1000, il_65536, bn0, bn1, bn2, bn3, bn4, bn5, bn6, bn7, bn8, bn9, bn10, bn11, bn12, bn13, bn14, bn15, nI_leI, nI_ltI, nI_eq, nI_clamp, nI_add, pk_mul, nI_lt0, ng_lt0, ng_ge0, ng_eqn, ng_neq, ng_len, ng_eq, sV_m1, sV_lt0, sV_ge0, if_true, if_false, Nat.le_refl, Nat.lt_irrefl, Nat.not_lt_zero, Nat.zero_le, not_true_eq_false, not_false_eq_true, false_and, true_and, and_true, and_false, true_or, or_true, false_or, or_false, reduceCtorEq, hM 0 (by omega), show ¬ g 0 ≤ j by omega]
    have h := X10_wiresFrom_L17 hG hM (fun z0 z1 => J_X10_wiresFrom_L4 nw (nI l) m z0 z1) hl (show j < 16 by omega) (fb_sm (fun j => fb_sm (fun p => wfr g l (j * 3 + p)) 3) j) 3 FU 0 rfl (by unfold FU; omega)
    rw [show fb_sm (fun p => wfr g l (j * 3 + p)) 0 = 0 from rfl, Nat.add_zero] at h
    rw [h]
    exact ih'
theorem X10_wiresFrom (hG : GV g) (hM : MR g nw) {l : Nat} (hl : l < 16) : J_X10_wiresFrom nw (nI l) = some (nI (fb_sm (wfr g l) 48)) := by
  have hn := hG.1
  unfold J_X10_wiresFrom
  simp only [il_0]
  have h := X10_wiresFrom_L hG hM hl (g 0) FU 0 (by omega) (by have := hG.1; unfold FU; omega)
  have e : fb_sm (wfr g l) 48 = fb_sm (fun j => fb_sm (fun p => wfr g l (j * 3 + p)) 3) (g 0) := by
    rw [show (48 : Nat) = 16 * 3 from rfl, fb_sm_3]
    refine fb_sm_tail hn fun j h1 h2 => ?_
    have hz : ∀ p, p < 3 → src g j p = 0 := fun p hp => hG.2.2.2.2.2 (5 + 8 * j + (4 + p)) (by omega) (by omega)
    rw [fb_sm_cong (g := fun _ => 0) (n := 3) (fun p hp => by
      unfold wfr
      rw [show (j * 3 + p) / 3 = j by omega, show (j * 3 + p) % 3 = p by omega, hz p hp]
      rfl), fb_sm_const]
  rw [e]
  exact h
end CountM

/-! TABLES -/
theorem one_shl : ∀ k, k < 31 → nI 1 <<< (nI k &&& 31) = nI (2 ^ k) := by decide +kernel
/-- whether a lantern glows at last, the switches as sw tells, by wires f deep -/
def Vf (g : Nat → Nat) (sw : Nat → Bool) : Nat → Nat → Bool
  | 0, _ => false
  | f + 1, l => if GA g l 0 = 0 then sw l else fin g (fun i => Vf g sw f i) l
def VV (g : Nat → Nat) (sw : Nat → Bool) (l : Nat) : Bool := Vf g sw 16 l
theorem fin_src {g : Nat → Nat} {l : Nat} {G G' : Nat → Bool} (h : ∀ p, p < 3 → src g l p ≠ 0 → G (src g l p - 1) = G' (src g l p - 1)) : fin g G l = fin g G' l := by
  unfold fin lit
  rw [fb_ct_cong (p := fun p => decide (src g l p ≠ 0) && G (src g l p - 1)) (q := fun p => decide (src g l p ≠ 0) && G' (src g l p - 1)) fun p hp => by
    by_cases e : src g l p = 0
    · simp [e]
    · rw [h p hp e]]
section TableV
variable {g : Nat → Nat}
theorem Vf_up (sw : Nat → Bool) : ∀ {f l}, dk g f l → Vf g sw (f + 1) l = Vf g sw f l
  | 0, _, h => h.elim
  | f + 1, l, h => by
    rw [Vf, Vf]
    by_cases h0 : GA g l 0 = 0
    · rw [if_pos h0, if_pos h0]
    · rw [if_neg h0, if_neg h0]
      exact fin_src fun p hp hs => Vf_up sw ((h.resolve_left h0) p hp hs)
theorem Vf_mono (sw : Nat → Bool) {f f' l : Nat} (h : dk g f l) (hf : f ≤ f') : Vf g sw f' l = Vf g sw f l := by
  obtain ⟨d, rfl⟩ : ∃ d, f' = f + d := ⟨f' - f, by omega⟩
  clear hf
  induction d with
  | zero => rfl
  | succ d ih => exact (Vf_up (f := f + d) sw (dk_mono h (Nat.le_add_right f d))).trans ih
theorem VV_eq (sw : Nat → Bool) {l : Nat} (h : HD g l) : VV g sw l = if GA g l 0 = 0 then sw l else fin g (VV g sw) l := (Vf_mono sw h (Nat.le_succ 16)).symm
/-- only the switches that lead to it count -/
theorem Vf_cong (hG : GV g) {sw sw' : Nat → Bool} : ∀ {f l}, l < 16 → (∀ i, GA g i 0 = 0 → (i = l ∨ Leads g i l) → sw i = sw' i) → Vf g sw f l = Vf g sw' f l
  | 0, _, _, _ => rfl
  | f + 1, l, hl, h => by
    rw [Vf, Vf]
    by_cases h0 : GA g l 0 = 0
    · rw [if_pos h0, if_pos h0, h l h0 (Or.inl rfl)]
    · rw [if_neg h0, if_neg h0]
      refine fin_src fun p hp hs => ?_
      have hsl := src_lt hG hl hp hs
      have hlg : l < g 0 := by
        rcases Nat.lt_or_ge l (g 0) with q | q
        · exact q
        · exact absurd (hG.2.2.2.2.2 (5 + 8 * l + (4 + p)) (by omega) (by omega)) hs
      have hw := wr_src hlg hp hs
      refine Vf_cong hG (by have := hG.1; omega) fun i hi hil => h i hi (Or.inr ?_)
      rcases hil with e | e
      · rw [e]; exact Leads.of hw
      · exact e.wire hw
end TableV
/-- the switches of a set as a row tells -/
def swr (S : Int32) (r i : Nat) : Bool := r.testBit (fb_ct (bt S) i)
/-! the reference -/
section TableM
variable {g : Nat → Nat} {nw : Nat → Int32}
theorem below_mask {S : Int32} (hS : ∀ i, 16 ≤ i → bt S i = false) {l : Nat} (hl : l < 16) : J_J6_bitCount_0f7a4 (S &&& (nI 1 <<< (nI l &&& 31) - nI 1)) = some (nI (fb_ct (bt S) l)) := by
  have hp := Nat.two_pow_pos l
  rw [one_shl l (by omega), pk_sub hp]
  have hb : ∀ i, bt (S &&& nI (2 ^ l - 1)) i = (bt S i && decide (i < l)) := fun i => by
    rcases Nat.lt_or_ge i 32 with hi | hi
    · rw [b_and, b_nI _ _ hi, Nat.testBit_two_pow_sub_one]
    · rw [b_big hi, b_big hi]; rfl
  rw [bitCount_eq (fun i hi => by rw [hb, hS i hi]; rfl)]
  congr 2
  have h1 := fb_ct_split (bt (S &&& nI (2 ^ l - 1))) l (16 - l)
  rw [show l + (16 - l) = 16 by omega] at h1
  have h2 : fb_ct (fun k => bt (S &&& nI (2 ^ l - 1)) (l + k)) (16 - l) = 0 := fb_ct_zero.mpr fun i hi => by rw [hb, decide_eq_false (by omega)]; simp
  rw [h1, h2, Nat.add_zero]
  exact fb_ct_cong fun i hi => by rw [hb, decide_eq_true hi, Bool.and_true]
theorem row_bit {r k : Nat} (hr : r < 2 ^ 31) (hk : k < 32) : (nI r >>> (nI k &&& 31)) &&& nI 1 = b2 (r.testBit k) := by
  rw [bit_and _ k hk, b_nI _ _ hk]
  cases r.testBit k <;> rfl
theorem X10_glowsAt_L (hG : GV g) (hM : MR g nw) (slf : (Nat → Int32) → Int32 → Int32 → Int32 → Option Int32) (v2 v3 : Int32) (sw : Nat → Bool) {l f : Nat} (hl : l < 16) (hs : ∀ p, p < 3 → src g l p ≠ 0 → slf nw (nI (src g l p - 1)) v2 v3 = some (b2 (Vf g sw f (src g l p - 1)))) : ∀ d nf p, p + d = 3 → d < nf → J_X10_glowsAt_L32 slf nw (nI l) v2 v3 nf (nI (fb_ct (fun p => decide (src g l p ≠ 0) && Vf g sw f (src g l p - 1)) p)) (nI (fb_ct (fun p => decide (src g l p ≠ 0)) p)) (nI p) = some (b2 (fin g (fun i => Vf g sw f i) l)) := by
  intro d
  induction d with
  | zero =>
    intro nf p hp hd
    obtain ⟨m, rfl, -⟩ := nf_of hd
    obtain rfl : p = 3 := by omega
    have hf := X10_found (kd := GA g l 0) (li := lit g (fun i => Vf g sw f i) l) (wd := wct g l) (GV_l hG hl).1 (fb_ct_le _ _) (fb_ct_le _ _)
    rw [J_X10_glowsAt_L32]
    simp only [il_3, il_0]
    rw [X10_of hM hl (by omega)]
    simp (disch := omega) only [↓reduceIte, nm_x, chk_nI, chz_0, chz_1, chz_b2, chn_nI, oi_1, oi_2, oi_m1, il_0, il_1, il_2, il_3, il_4, il_5, il_6, il_7, il_8, il_9, il_10, il_11, il_12, il_13, il_14, il_15, il_16, il_32, il_35, il_40, il_41, il_42, il_43, il_44, il_45, il_46, il_48, il_57, il_58, il_59, il_60, il_99, il_104, il_115, il_116, il_119, il_126, il_133, il_255, il_256, il_512, il_931, il_1000, il_65536, bn0, bn1, bn2, bn3, bn4, bn5, bn6, bn7, bn8, bn9, bn10, bn11, bn12, bn13, bn14, bn15, nI_leI, nI_ltI, nI_eq, nI_clamp, nI_add, pk_mul, nI_lt0, ng_lt0, ng_ge0, ng_eqn, ng_neq, ng_len, ng_eq, sV_m1, sV_lt0, sV_ge0, if_true, if_false, Nat.le_refl, Nat.lt_irrefl, Nat.not_lt_zero, Nat.zero_le, not_true_eq_false, not_false_eq_true, false_and, true_and, and_true, and_false, true_or, or_true, false_or, or_false, reduceCtorEq]
    rw [show fb_ct (fun p => decide (src g l p ≠ 0) && Vf g sw f (src g l p - 1)) 3 = lit g (fun i => Vf g sw f i) l from rfl, show fb_ct (fun p => decide (src g l p ≠ 0)) 3 = wct g l from rfl, hf]
    rfl
  | succ d ih =>
    intro nf p hp hd
    obtain ⟨m, rfl, hm⟩ := nf_of hd
    have hsr := GV_src hG hl (show p < 3 by omega)
    have ih' := ih m (p + 1) (by omega) (by omega)
    rw [fb_ct_succ, fb_ct_succ] at ih'
    rw [J_X10_glowsAt_L32, X10_wired hM hl (by omega)]
    unfold J_X10_glowsAt_b72
    simp (disch := omega) only [↓reduceIte, nm_x, chk_nI, chz_0, chz_1, chz_b2, chn_nI, oi_1, oi_2, oi_m1, il_0, il_1, il_2, il_3, il_4, il_5, il_6, il_7, il_8, il_9, il_10, il_11, il_12, il_13, il_14, il_15, il_16, il_32, il_35, il_40, il_41, il_42, il_43, il_44, il_45, il_46, il_48, il_57, il_58, il_59, il_60, il_99, il_104, il_115, il_116, il_119, il_126, il_133, il_255, il_256, il_512, il_931, il_1000, il_65536, bn0, bn1, bn2, bn3, bn4, bn5, bn6, bn7, bn8, bn9, bn10, bn11, bn12, bn13, bn14, bn15, nI_leI, nI_ltI, nI_eq, nI_clamp, nI_add, pk_mul, nI_lt0, ng_lt0, ng_ge0, ng_eqn, ng_neq, ng_len, ng_eq, sV_m1, sV_lt0, sV_ge0, if_true, if_false, Nat.le_refl, Nat.lt_irrefl, Nat.not_lt_zero, Nat.zero_le, not_true_eq_false, not_false_eq_true, false_and, true_and, and_true, and_false, true_or, or_true, false_or, or_false, reduceCtorEq, show ¬ 3 ≤ p by omega]
    by_cases h : src g l p = 0
    · rw [if_neg (fun q => q h)]
      simp only [h, ne_eq, not_true_eq_false, decide_false, Bool.false_and, Bool.false_eq_true, if_false, Nat.add_zero] at ih'
      exact ih'
    · rw [if_pos h, sV_s h, hs p (by omega) h]
      simp only [h, ne_eq, not_false_eq_true, decide_true, Bool.true_and, if_true] at ih'
      simp only [bn1]
      rw [b2_n, nI_add]
      cases hv : Vf g sw f (src g l p - 1)
      · simp only [hv, Bool.false_eq_true, if_false] at ih'
        exact ih'
      · simp only [hv, if_true] at ih'
        exact ih'
theorem X10_glowsAt (hG : GV g) (hM : MR g nw) {S : Int32} (hS : ∀ i, 16 ≤ i → bt S i = false) {r : Nat} (hr : r < 2 ^ 31) : ∀ f l F, l < 16 → dk g f l → f ≤ F → J_X10_glowsAt F nw (nI l) S (nI r) = some (b2 (Vf g (swr S r) f l)) := by
  intro f
  induction f with
  | zero => intro l F _ h; exact h.elim
  | succ f ih =>
    intro l F hl h hF
    obtain ⟨F', rfl⟩ : ∃ F', F = F' + 1 := ⟨F - 1, by omega⟩
    rw [J_X10_glowsAt]
    unfold J_X10_glowsAt_top
    rw [X10_isSwitch hG hM hl]
    simp only [bn1, il_0, il_1, b2_0, decide_eq_false_iff_not, nm_x]
    rw [Vf]
    by_cases h0 : GA g l 0 = 0
    · rw [if_neg (by simpa using h0), if_pos h0, below_mask hS hl, bn1]
      have hc : fb_ct (bt S) l ≤ l := fb_ct_le _ _
      rw [row_bit hr (by omega)]
      rfl
    · rw [if_pos h0, if_neg h0]
      exact X10_glowsAt_L hG hM (fun t_now v1 v2 v3 => J_X10_glowsAt F' t_now v1 v2 v3) S (nI r) (swr S r) hl (fun p hp hs => ih _ F' (by have := src_lt hG hl hp hs; have := hG.1; omega) ((h.resolve_left h0) p hp hs) (by omega)) 3 FU 0 rfl (by unfold FU; omega)
theorem X10_table_L (hG : GV g) (hM : MR g nw) {S : Int32} (hS : ∀ i, 16 ≤ i → bt S i = false) {l : Nat} (hl : l < 16) (hH : HD g l) (rr : Nat → Int32) {n : Nat} (hn : n = fb_ct (bt S) 16) (hn4 : n ≤ 4) : ∀ d nf r, r + d = 2 ^ n → d < nf → J_X10_table_L52 nw (nI l) nf rr S (mset (fun r => VV g (swr S r) l) r) (nI r) = some (mset (fun r => VV g (swr S r) l) (2 ^ n), rr) := by
  have h16 : 2 ^ n ≤ 2 ^ 4 := p2le hn4
  intro d
  induction d with
  | zero =>
    intro nf r hr hd
    obtain ⟨m, rfl, -⟩ := nf_of hd
    obtain rfl : r = 2 ^ n := by omega
    rw [J_X10_table_L52, bitCount_eq hS, ← hn]
    simp only [bn1, il_1]
    rw [one_shl n (by omega), if_pos (nI_le (Nat.le_refl _) (by omega))]
  | succ d ih =>
    intro nf r hr hd
    obtain ⟨m, rfl, hm⟩ := nf_of hd
    have ih' := ih m (r + 1) (by omega) (by omega)
    rw [mset] at ih'
    rw [J_X10_table_L52, bitCount_eq hS, ← hn]
    simp only [bn1, il_1]
    rw [one_shl n (by omega), if_neg (nI_ge (by omega) (by omega)), X10_glowsAt hG hM hS (by omega) 16 l 20 hl hH (by omega)]
    simp only [bn1, nm_x, oi_1, nI_add]
    cases hv : VV g (swr S r) l
    · rw [if_neg (by rw [hv]; decide)] at ih'
      have e : Vf g (swr S r) 16 l = false := hv
      rw [e, b2_f]
      have e0 : mset (fun r => VV g (swr S r) l) r ||| nI 0 <<< (nI r &&& 31) = mset (fun r => VV g (swr S r) l) r := by
        apply b_ext
        intro i hi
        rw [b_or, b_shl r (by omega) _ hi, b_n0]; simp
      rw [e0]
      exact ih'
    · rw [if_pos hv] at ih'
      have e : Vf g (swr S r) 16 l = true := hv
      rw [e, b2_t]
      exact ih'
end TableM
/-! the class: by finding -/
section TableX
variable {g : Nat → Nat} {c : Int32} {k w so : Nat → Int32}
theorem X7_spread_L {S : Int32} {r : Nat} (hr : r < 2 ^ 31) : ∀ d nf j v, j + d = 16 → d < nf → (∀ i, i < 32 → bt v i = (decide (i < j) && (bt S i && swr S r i))) → ∃ x, J_X7_spread_L7 (nI r) S nf v (nI (fb_ct (bt S) j)) (nI j) = some x ∧ ∀ i, i < 32 → bt x i = (decide (i < 16) && (bt S i && swr S r i)) := by
  intro d
  induction d with
  | zero =>
    intro nf j v hj hd hv
    obtain ⟨m, rfl, -⟩ := nf_of hd
    obtain rfl : j = 16 := by omega
    refine ⟨v, ?_, hv⟩
    rw [J_X7_spread_L7]
    simp (disch := omega) only [↓reduceIte, nm_x, chk_nI, chz_0, chz_1, chz_b2, chn_nI, oi_1, oi_2, oi_m1, il_0, il_1, il_2, il_3, il_4, il_5, il_6, il_7, il_8, il_9, il_10, il_11, il_12, il_13, il_14, il_15, il_16, il_32, il_35, il_40, il_41, il_42, il_43, il_44, il_45, il_46, il_48, il_57, il_58, il_59, il_60, il_99, il_104, il_115, il_116, il_119, il_126, il_133, il_255, il_256, il_512, il_931, il_1000, il_65536, bn0, bn1, bn2, bn3, bn4, bn5, bn6, bn7, bn8, bn9, bn10, bn11, bn12, bn13, bn14, bn15, nI_leI, nI_ltI, nI_eq, nI_clamp, nI_add, pk_mul, nI_lt0, ng_lt0, ng_ge0, ng_eqn, ng_neq, ng_len, ng_eq, sV_m1, sV_lt0, sV_ge0, if_true, if_false, Nat.le_refl, Nat.lt_irrefl, Nat.not_lt_zero, Nat.zero_le, not_true_eq_false, not_false_eq_true, false_and, true_and, and_true, and_false, true_or, or_true, false_or, or_false, reduceCtorEq]
  | succ d ih =>
    intro nf j v hj hd hv
    obtain ⟨m, rfl, hm⟩ := nf_of hd
    have hcl := fb_ct_le (bt S) j
    have ih' := ih m (j + 1)
    rw [fb_ct_succ] at ih'
    rw [J_X7_spread_L7, X9_isIn S (show j < 32 by omega)]
    unfold J_X7_spread_b37
    simp (disch := omega) only [↓reduceIte, nm_x, chk_nI, chz_0, chz_1, chz_b2, chn_nI, oi_1, oi_2, oi_m1, il_0, il_1, il_2, il_3, il_4, il_5, il_6, il_7, il_8, il_9, il_10, il_11, il_12, il_13, il_14, il_15, il_16, il_32, il_35, il_40, il_41, il_42, il_43, il_44, il_45, il_46, il_48, il_57, il_58, il_59, il_60, il_99, il_104, il_115, il_116, il_119, il_126, il_133, il_255, il_256, il_512, il_931, il_1000, il_65536, bn0, bn1, bn2, bn3, bn4, bn5, bn6, bn7, bn8, bn9, bn10, bn11, bn12, bn13, bn14, bn15, nI_leI, nI_ltI, nI_eq, nI_clamp, nI_add, pk_mul, nI_lt0, ng_lt0, ng_ge0, ng_eqn, ng_neq, ng_len, ng_eq, sV_m1, sV_lt0, sV_ge0, if_true, if_false, Nat.le_refl, Nat.lt_irrefl, Nat.not_lt_zero, Nat.zero_le, not_true_eq_false, not_false_eq_true, false_and, true_and, and_true, and_false, true_or, or_true, false_or, or_false, reduceCtorEq, show ¬ 16 ≤ j by omega, b2_0]
    cases hb : bt S j
    · rw [if_pos rfl]
      simp only [hb, Bool.false_eq_true, if_false, Nat.add_zero] at ih'
      refine ih' v (by omega) (by omega) fun i hi => ?_
      rw [hv i hi]
      by_cases e : i = j
      · subst e; rw [hb]; simp
      · rw [dlt e]
    · rw [if_neg (by decide)]
      simp only [hb, if_true] at ih'
      rw [row_bit hr (by omega)]
      refine ih' _ (by omega) (by omega) fun i hi => ?_
      rw [b_or, hv i hi, b_shl j (by omega) _ hi, b2_n, b_nI _ _ (by omega)]
      by_cases e : i = j
      · subst e
        rw [Nat.sub_self, hb]
        unfold swr
        cases r.testBit (fb_ct (bt S) i) <;> simp
      · rw [dlt e]
        by_cases e2 : j ≤ i
        · have : (r.testBit (fb_ct (bt S) j)).toNat.testBit (i - j) = false := Nat.testBit_lt_two_pow (Nat.lt_of_lt_of_le (show (r.testBit (fb_ct (bt S) j)).toNat < 2 ^ 1 by cases r.testBit (fb_ct (bt S) j) <;> decide) (p2le (by omega)))
          rw [this]; simp
        · simp [e2]
theorem X7_spread {S : Int32} {r : Nat} (hr : r < 2 ^ 31) : ∃ x, J_X7_spread (nI r) S = some x ∧ ∀ i, i < 32 → bt x i = (decide (i < 16) && (bt S i && swr S r i)) := by
  unfold J_X7_spread
  simp only [il_0]
  exact X7_spread_L hr 16 FU 0 (nI 0) rfl (by unfold FU; omega) (fun i hi => by rw [b_n0]; simp)
theorem X2_switches_L (hG : GV g) (hS : SR g c k w so) : ∀ d nf j v, j + d = g 0 → d < nf → MS v (fun i => i < j ∧ GA g i 0 = 0) → ∃ x, J_X2_switches_L4 c k nf v (nI j) = some x ∧ MS x (fun i => i < g 0 ∧ GA g i 0 = 0) := by
  have hn := hG.1
  intro d
  induction d with
  | zero =>
    intro nf j v hj hd hv
    obtain ⟨m, rfl, -⟩ := nf_of hd
    obtain rfl : j = g 0 := by omega
    refine ⟨v, ?_, hv⟩
    rw [J_X2_switches_L4, hS.1]
    simp (disch := omega) only [↓reduceIte, nm_x, chk_nI, chz_0, chz_1, chz_b2, chn_nI, oi_1, oi_2, oi_m1, il_0, il_1, il_2, il_3, il_4, il_5, il_6, il_7, il_8, il_9, il_10, il_11, il_12, il_13, il_14, il_15, il_16, il_32, il_35, il_40, il_41, il_42, il_43, il_44, il_45, il_46, il_48, il_57, il_58, il_59, il_60, il_99, il_104, il_115, il_116, il_119, il_126, il_133, il_255, il_256, il_512, il_931, il_1000, il_65536, bn0, bn1, bn2, bn3, bn4, bn5, bn6, bn7, bn8, bn9, bn10, bn11, bn12, bn13, bn14, bn15, nI_leI, nI_ltI, nI_eq, nI_clamp, nI_add, pk_mul, nI_lt0, ng_lt0, ng_ge0, ng_eqn, ng_neq, ng_len, ng_eq, sV_m1, sV_lt0, sV_ge0, if_true, if_false, Nat.le_refl, Nat.lt_irrefl, Nat.not_lt_zero, Nat.zero_le, not_true_eq_false, not_false_eq_true, false_and, true_and, and_true, and_false, true_or, or_true, false_or, or_false, reduceCtorEq]
  | succ d ih =>
    intro nf j v hj hd hv
    obtain ⟨m, rfl, hm⟩ := nf_of hd
    have hi := ih m (j + 1)
    have es := X2_isSwitch hG hS (show j < g 0 by omega)
    rw [hS.1] at hi es ⊢
    rw [J_X2_switches_L4]
    unfold J_X2_switches_b26
    simp (disch := omega) only [↓reduceIte, nm_x, chk_nI, chz_0, chz_1, chz_b2, chn_nI, oi_1, oi_2, oi_m1, il_0, il_1, il_2, il_3, il_4, il_5, il_6, il_7, il_8, il_9, il_10, il_11, il_12, il_13, il_14, il_15, il_16, il_32, il_35, il_40, il_41, il_42, il_43, il_44, il_45, il_46, il_48, il_57, il_58, il_59, il_60, il_99, il_104, il_115, il_116, il_119, il_126, il_133, il_255, il_256, il_512, il_931, il_1000, il_65536, bn0, bn1, bn2, bn3, bn4, bn5, bn6, bn7, bn8, bn9, bn10, bn11, bn12, bn13, bn14, bn15, nI_leI, nI_ltI, nI_eq, nI_clamp, nI_add, pk_mul, nI_lt0, ng_lt0, ng_ge0, ng_eqn, ng_neq, ng_len, ng_eq, sV_m1, sV_lt0, sV_ge0, if_true, if_false, Nat.le_refl, Nat.lt_irrefl, Nat.not_lt_zero, Nat.zero_le, not_true_eq_false, not_false_eq_true, false_and, true_and, and_true, and_false, true_or, or_true, false_or, or_false, reduceCtorEq, show ¬ g 0 ≤ j by omega, es, b2_0, decide_eq_false_iff_not]
    by_cases hk : GA g j 0 = 0
    · rw [if_neg (by simpa using hk)]
      refine hi _ (by omega) hm fun i => ?_
      rw [(hv.set (show j < 32 by omega)) i]
      constructor
      · rintro (⟨h1, h2⟩ | rfl)
        · exact ⟨by omega, h2⟩
        · exact ⟨by omega, hk⟩
      · rintro ⟨h1, h2⟩
        by_cases e : i = j
        · exact Or.inr e
        · exact Or.inl ⟨by omega, h2⟩
    · rw [if_pos hk]
      refine hi _ (by omega) hm fun i => ?_
      rw [hv i]
      constructor
      · rintro ⟨h1, h2⟩; exact ⟨by omega, h2⟩
      · rintro ⟨h1, h2⟩
        refine ⟨?_, h2⟩
        rcases Nat.lt_or_ge i j with a | a
        · exact a
        · obtain rfl : i = j := by omega
          exact absurd h2 hk
theorem X2_switches (hG : GV g) (hS : SR g c k w so) : ∃ x, J_X2_switches c k = some x ∧ MS x (fun i => i < g 0 ∧ GA g i 0 = 0) := by
  unfold J_X2_switches
  simp only [il_0]
  exact X2_switches_L hG hS (g 0) FU 0 _ (by omega) (by have := hG.1; unfold FU; omega) (MS.none.iff fun i => ⟨fun h => h.elim, fun h => absurd h.1 (Nat.not_lt_zero i)⟩)
/-- what is known glows as it will at last; what isn't is dark as yet -/
def IG (g : Nat → Nat) (sw : Nat → Bool) (gl kn : Int32) : Prop := (∀ i, bt kn i = true → i < g 0 ∧ HD g i ∧ bt gl i = VV g sw i) ∧ (∀ i, bt kn i = false → bt gl i = false) ∧ ∀ i, i < g 0 → GA g i 0 = 0 → bt kn i = true
theorem X7_last_L30 (hG : GV g) (hS : SR g c k w so) (k11 : Int32 → Int32 → Int32 → Option Int32) (sw : Nat → Bool) (v1 v2 : Int32) (r : Nat) (v5 : Int32) : ∀ d nf j gl kn, j + d = g 0 → d < nf → IG g sw gl kn → (∀ i, i < g 0 → dk g r i → bt kn i = true) → (∀ i, i < j → dk g (r + 1) i → bt kn i = true) → ∃ gl' kn', J_X7_isGlowingAtLast_L30 k11 c k so v1 v2 nf gl kn v5 (nI j) = k11 gl' kn' (v5 + nI 1) ∧ IG g sw gl' kn' ∧ ∀ i, i < g 0 → dk g (r + 1) i → bt kn' i = true := by
  have hn := hG.1
  intro d
  induction d with
  | zero =>
    intro nf j gl kn hj hd hI h1 h2
    obtain ⟨m, rfl, -⟩ := nf_of hd
    obtain rfl : j = g 0 := by omega
    refine ⟨gl, kn, ?_, hI, h2⟩
    rw [J_X7_isGlowingAtLast_L30, hS.1]
    unfold J_X2_count
    simp (disch := omega) only [↓reduceIte, nm_x, chk_nI, chz_0, chz_1, chz_b2, chn_nI, oi_1, oi_2, oi_m1, il_0, il_1, il_2, il_3, il_4, il_5, il_6, il_7, il_8, il_9, il_10, il_11, il_12, il_13, il_14, il_15, il_16, il_32, il_35, il_40, il_41, il_42, il_43, il_44, il_45, il_46, il_48, il_57, il_58, il_59, il_60, il_99, il_104, il_115, il_116, il_119, il_126, il_133, il_255, il_256, il_512, il_931, il_1000, il_65536, bn0, bn1, bn2, bn3, bn4, bn5, bn6, bn7, bn8, bn9, bn10, bn11, bn12, bn13, bn14, bn15, nI_leI, nI_ltI, nI_eq, nI_clamp, nI_add, pk_mul, nI_lt0, ng_lt0, ng_ge0, ng_eqn, ng_neq, ng_len, ng_eq, sV_m1, sV_lt0, sV_ge0, if_true, if_false, Nat.le_refl, Nat.lt_irrefl, Nat.not_lt_zero, Nat.zero_le, not_true_eq_false, not_false_eq_true, false_and, true_and, and_true, and_false, true_or, or_true, false_or, or_false, reduceCtorEq]
  | succ d ih =>
    intro nf j gl kn hj hd hI h1 h2
    obtain ⟨m, rfl, hm⟩ := nf_of hd
    have hj16 : j < 16 := by omega
    obtain ⟨x, ex, hx⟩ := X2_sourcesOf hG hS hj16
    have hfd := X2_isFinding hG hS hj16 gl
    have hi := ih m (j + 1)
    rw [hS.1] at hi ⊢
    rw [J_X7_isGlowingAtLast_L30]
    unfold J_X2_count J_X7_isGlowingAtLast_b58 J_X7_isGlowingAtLast_b103 J_X7_isGlowingAtLast_b105
    simp (disch := omega) only [↓reduceIte, nm_x, chk_nI, chz_0, chz_1, chz_b2, chn_nI, oi_1, oi_2, oi_m1, il_0, il_1, il_2, il_3, il_4, il_5, il_6, il_7, il_8, il_9, il_10, il_11, il_12, il_13, il_14, il_15, il_16, il_32, il_35, il_40, il_41, il_42, il_43, il_44, il_45, il_46, il_48, il_57, il_58, il_59, il_60, il_99, il_104, il_115, il_116, il_119, il_126, il_133, il_255, il_256, il_512, il_931, il_1000, il_65536, bn0, bn1, bn2, bn3, bn4, bn5, bn6, bn7, bn8, bn9, bn10, bn11, bn12, bn13, bn14, bn15, nI_leI, nI_ltI, nI_eq, nI_clamp, nI_add, pk_mul, nI_lt0, ng_lt0, ng_ge0, ng_eqn, ng_neq, ng_len, ng_eq, sV_m1, sV_lt0, sV_ge0, if_true, if_false, Nat.le_refl, Nat.lt_irrefl, Nat.not_lt_zero, Nat.zero_le, not_true_eq_false, not_false_eq_true, false_and, true_and, and_true, and_false, true_or, or_true, false_or, or_false, reduceCtorEq, show ¬ g 0 ≤ j by omega, ex, X9_isIn, b2_0, hfd]
    -- are all its sources known
    have hrdy : x &&& (kn ^^^ -nI 1) = nI 0 ↔ ∀ p, p < 3 → src g j p ≠ 0 → bt kn (src g j p - 1) = true := by
      constructor
      · intro e p hp h0
        have hs := GV_src hG hj16 hp
        have hb : bt (x &&& (kn ^^^ -nI 1)) (src g j p - 1) = false := by rw [e, b_n0]
        have hx1 : bt x (src g j p - 1) = true := (hx _).mpr ⟨p, hp, by omega⟩
        rw [b_and, b_xor, hx1, show (-nI 1 : Int32) = -1 from rfl, b_m1 _ (by omega)] at hb
        simpa using hb
      · intro h
        apply b_ext
        intro i hi
        rw [b_n0, b_and, b_xor, show (-nI 1 : Int32) = -1 from rfl, b_m1 i hi]
        cases hxi : bt x i
        · rfl
        · obtain ⟨p, hp, e⟩ := (hx i).mp hxi
          have := h p hp (by omega)
          rw [show src g j p - 1 = i by omega] at this
          rw [this]; rfl
    have keep : (bt kn j = true ∨ ¬ dk g (r + 1) j) → ∀ i, i < j + 1 → dk g (r + 1) i → bt kn i = true := fun hh i hij hdk => by
      rcases Nat.lt_or_ge i j with a | a
      · exact h2 i a hdk
      · obtain rfl : i = j := by omega
        rcases hh with hh | hh
        · exact hh
        · exact absurd hdk hh
    by_cases q : x &&& (kn ^^^ -nI 1) = nI 0
    · rw [if_pos q]
      cases hb : bt kn j
      · rw [if_pos rfl]
        have hk0 : GA g j 0 ≠ 0 := fun h => by rw [hI.2.2 j (by omega) h] at hb; cases hb
        have hall := hrdy.mp q
        have hH : HD g j := (HD_iff hG hj16).mpr (Or.inr fun p hp h0 => (hI.1 _ (hall p hp h0)).2.1)
        have hval : fin g (bt gl) j = VV g sw j := by
          rw [VV_eq sw hH, if_neg hk0]
          exact fin_src fun p hp h0 => (hI.1 _ (hall p hp h0)).2.2
        have hglj := hI.2.1 j hb
        have hkn' : ∀ i, bt (kn ||| nI 1 <<< (nI j &&& 31)) i = (bt kn i || decide (i = j)) := fun i => b_set kn j i (by omega)
        have fin1 : ∀ gl', (∀ i, bt gl' i = (bt gl i || (decide (i = j) && VV g sw j))) → IG g sw gl' (kn ||| nI 1 <<< (nI j &&& 31)) := fun gl' hg' => by
          refine ⟨fun i hi => ?_, fun i hi => ?_, fun i hi h0 => ?_⟩
          · rw [hkn', Bool.or_eq_true, decide_eq_true_iff] at hi
            by_cases e : i = j
            · subst e
              exact ⟨by omega, hH, by rw [hg', hglj]; simp⟩
            · have := hI.1 i (hi.resolve_right e)
              exact ⟨this.1, this.2.1, by rw [hg', this.2.2]; simp [e]⟩
          · rw [hkn', Bool.or_eq_false_iff] at hi
            rw [hg', hI.2.1 i hi.1, hi.2]; rfl
          · rw [hkn', hI.2.2 i hi h0]; rfl
        have prog1 : ∀ i, i < g 0 → dk g r i → bt (kn ||| nI 1 <<< (nI j &&& 31)) i = true := fun i hi hd' => by rw [hkn', h1 i hi hd']; rfl
        have prog2 : ∀ i, i < j + 1 → dk g (r + 1) i → bt (kn ||| nI 1 <<< (nI j &&& 31)) i = true := fun i hi hd' => by
          rw [hkn']
          by_cases e : i = j
          · simp [e]
          · rw [h2 i (by omega) hd']; rfl
        rw [hval]
        cases hv : VV g sw j
        · rw [if_pos rfl]
          refine hi _ _ (by omega) hm (fin1 _ fun i => ?_) prog1 prog2
          rw [b_or, b_n0, hv]; simp
        · rw [if_neg (by decide)]
          refine hi _ _ (by omega) hm (fin1 _ fun i => ?_) prog1 prog2
          rw [b_or, b_one j i (by omega), hv]
          cases bt gl i <;> simp
      · rw [if_neg (by decide)]
        exact hi _ _ (by omega) hm hI h1 (keep (Or.inl hb))
    · rw [if_neg q]
      refine hi _ _ (by omega) hm hI h1 (keep ?_)
      by_cases hb : bt kn j = true
      · exact Or.inl hb
      · refine Or.inr fun hdk => ?_
        rcases hdk with h | h
        · exact hb (hI.2.2 j (by omega) h)
        · exact q (hrdy.mpr fun p hp h0 => h1 _ (src_lt hG hj16 hp h0) (h p hp h0))
theorem X7_last_L11 (hG : GV g) (hS : SR g c k w so) (sw : Nat → Bool) {l : Nat} (hl : l < g 0) (hH : HD g l) (v2 : Int32) : ∀ d nf r gl kn, r + d = 16 → d < nf → IG g sw gl kn → (∀ i, i < g 0 → dk g r i → bt kn i = true) → J_X7_isGlowingAtLast_L11 c k so (nI l) v2 nf gl kn (nI r) = some (b2 (VV g sw l)) := by
  have hn := hG.1
  intro d
  induction d with
  | zero =>
    intro nf r gl kn hr hd hI h1
    obtain ⟨m, rfl, -⟩ := nf_of hd
    obtain rfl : r = 16 := by omega
    rw [J_X7_isGlowingAtLast_L11]
    unfold J_X7_isGlowingAtLast_b117
    rw [X9_isIn gl (show l < 32 by omega), (hI.1 l (h1 l hl hH)).2.2]
    simp (disch := omega) only [↓reduceIte, nm_x, chk_nI, chz_0, chz_1, chz_b2, chn_nI, oi_1, oi_2, oi_m1, il_0, il_1, il_2, il_3, il_4, il_5, il_6, il_7, il_8, il_9, il_10, il_11, il_12, il_13, il_14, il_15, il_16, il_32, il_35, il_40, il_41, il_42, il_43, il_44, il_45, il_46, il_48, il_57, il_58, il_59, il_60, il_99, il_104, il_115, il_116, il_119, il_126, il_133, il_255, il_256, il_512, il_931, il_1000, il_65536, bn0, bn1, bn2, bn3, bn4, bn5, bn6, bn7, bn8, bn9, bn10, bn11, bn12, bn13, bn14, bn15, nI_leI, nI_ltI, nI_eq, nI_clamp, nI_add, pk_mul, nI_lt0, ng_lt0, ng_ge0, ng_eqn, ng_neq, ng_len, ng_eq, sV_m1, sV_lt0, sV_ge0, if_true, if_false, Nat.le_refl, Nat.lt_irrefl, Nat.not_lt_zero, Nat.zero_le, not_true_eq_false, not_false_eq_true, false_and, true_and, and_true, and_false, true_or, or_true, false_or, or_false, reduceCtorEq]
  | succ d ih =>
    intro nf r gl kn hr hd hI h1
    obtain ⟨m, rfl, hm⟩ := nf_of hd
    rw [J_X7_isGlowingAtLast_L11]
    unfold J_X7_isGlowingAtLast_b117
    simp (disch := omega) only [↓reduceIte, nm_x, chk_nI, chz_0, chz_1, chz_b2, chn_nI, oi_1, oi_2, oi_m1, il_0, il_1, il_2, il_3, il_4, il_5, il_6, il_7, il_8, il_9, il_10, il_11, il_12, il_13, il_14, il_15, il_16, il_32, il_35, il_40, il_41, il_42, il_43, il_44, il_45, il_46, il_48, il_57, il_58, il_59, il_60, il_99, il_104, il_115, il_116, il_119, il_126, il_133, il_255, il_256, il_512, il_931, il_1000, il_65536, bn0, bn1, bn2, bn3, bn4, bn5, bn6, bn7, bn8, bn9, bn10, bn11, bn12, bn13, bn14, bn15, nI_leI, nI_ltI, nI_eq, nI_clamp, nI_add, pk_mul, nI_lt0, ng_lt0, ng_ge0, ng_eqn, ng_neq, ng_len, ng_eq, sV_m1, sV_lt0, sV_ge0, if_true, if_false, Nat.le_refl, Nat.lt_irrefl, Nat.not_lt_zero, Nat.zero_le, not_true_eq_false, not_false_eq_true, false_and, true_and, and_true, and_false, true_or, or_true, false_or, or_false, reduceCtorEq, show ¬ 16 ≤ r by omega, X9_isIn, b2_0]
    cases hb : bt kn l
    · rw [if_pos rfl]
      obtain ⟨gl', kn', e1, h2, h3⟩ := X7_last_L30 hG hS (fun z0 z1 z2 => J_X7_isGlowingAtLast_L11 c k so (nI l) v2 m z0 z1 z2) sw (nI l) v2 r (nI r) (g 0) FU 0 gl kn (by omega) (by unfold FU; omega) hI h1 (fun i hi => absurd hi (Nat.not_lt_zero i))
      rw [e1, nI_add]
      exact ih m (r + 1) gl' kn' (by omega) hm h2 h3
    · rw [if_neg (by decide), (hI.1 l hb).2.2]
theorem X7_last (hG : GV g) (hS : SR g c k w so) {l : Nat} (hl : l < g 0) (hH : HD g l) {x : Int32} (hx : ∀ i, bt x i = true → i < g 0 ∧ GA g i 0 = 0) : J_X7_isGlowingAtLast c k so (nI l) x = some (b2 (VV g (bt x) l)) := by
  have hn := hG.1
  unfold J_X7_isGlowingAtLast
  obtain ⟨s, es, hs⟩ := X2_switches hG hS
  rw [es]
  simp only [bn1, il_0]
  refine X7_last_L11 hG hS (bt x) hl hH x 16 FU 0 x s rfl (by unfold FU; omega) ⟨fun i hi => ?_, fun i hi => ?_, fun i hi h0 => (hs i).mpr ⟨hi, h0⟩⟩ (fun i _ h => h.elim)
  · obtain ⟨h1, h2⟩ := (hs i).mp hi
    have hHi : HD g i := (HD_iff hG (by omega)).mpr (Or.inl h2)
    exact ⟨h1, hHi, by rw [VV_eq _ hHi, if_pos h2]⟩
  · cases hb : bt x i
    · rfl
    · rw [(hs i).mpr (hx i hb)] at hi; cases hi
/-- the set of switches that lead to l, and how it is used -/
theorem sw_same (hG : GV g) {l : Nat} (hl : l < 16) (hk : GA g l 0 ≠ 0) {S : Int32} (hS : MS S (fun i => i < g 0 ∧ GA g i 0 = 0 ∧ Leads g i l)) {sw : Nat → Bool} {r : Nat} (h : ∀ i, bt S i = true → sw i = swr S r i) : VV g sw l = VV g (swr S r) l :=
  Vf_cong hG hl fun i hi hil => h i ((hS i).mpr ⟨by
    rcases hil with e | e
    · subst e; exact absurd hi hk
    · exact e.lt' hG, hi, by
    rcases hil with e | e
    · subst e; exact absurd hi hk
    · exact e⟩)
theorem X7_byFinding_L (hG : GV g) (hSR : SR g c k w so) {l : Nat} (hl : l < g 0) (hk : GA g l 0 ≠ 0) (hH : HD g l) {S : Int32} (hS : MS S (fun i => i < g 0 ∧ GA g i 0 = 0 ∧ Leads g i l)) {n : Nat} (hn4 : n ≤ 4) : ∀ d nf r, r + d = 2 ^ n → d < nf → J_X7_byFinding_L19 c k so (nI l) nf S (nI (2 ^ n)) (mset (fun r => VV g (swr S r) l) r) (nI r) = some (mset (fun r => VV g (swr S r) l) (2 ^ n)) := by
  have hn := hG.1
  have h16 : 2 ^ n ≤ 2 ^ 4 := p2le hn4
  intro d
  induction d with
  | zero =>
    intro nf r hr hd
    obtain ⟨m, rfl, -⟩ := nf_of hd
    obtain rfl : r = 2 ^ n := by omega
    rw [J_X7_byFinding_L19, if_pos (nI_le (Nat.le_refl _) (by omega))]
  | succ d ih =>
    intro nf r hr hd
    obtain ⟨m, rfl, hm⟩ := nf_of hd
    have ih' := ih m (r + 1) (by omega) (by omega)
    rw [mset] at ih'
    obtain ⟨x, ex, hx⟩ := X7_spread (S := S) (r := r) (by omega)
    have hxS : ∀ i, bt x i = true → bt S i = true := fun i hi => by
      rcases Nat.lt_or_ge i 32 with q | q
      · rw [hx i q, Bool.and_eq_true, Bool.and_eq_true] at hi; exact hi.2.1
      · rw [b_big q] at hi; cases hi
    have e1 := X7_last hG hSR hl hH (x := x) (fun i hi => by have := (hS i).mp (hxS i hi); exact ⟨this.1, this.2.1⟩)
    have e2 : VV g (bt x) l = VV g (swr S r) l := sw_same hG (by omega) hk hS fun i hi => by
      have := ((hS i).mp hi).1
      rw [hx i (by omega), hi, decide_eq_true (show i < 16 by omega)]; simp
    rw [e2] at e1
    rw [J_X7_byFinding_L19, if_neg (nI_ge (by omega) (by omega))]
    unfold J_X7_byFinding_b48
    simp only [ex, bn1, e1, il_0, il_1, b2_0, nm_x, oi_1, nI_add]
    cases hv : VV g (swr S r) l
    · rw [if_neg (by rw [hv]; decide)] at ih'
      rw [if_pos rfl]
      exact ih'
    · rw [if_pos hv] at ih'
      rw [if_neg (by decide)]
      exact ih'
end TableX

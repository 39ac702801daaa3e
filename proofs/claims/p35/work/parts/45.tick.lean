/-! A TICK KEEPS WHAT HOLDS; the class' tick -/
def tki (g : Nat → Nat) : Nat → (Nat → Nat)
  | 0 => g
  | t + 1 => tk (tki g t)
theorem tk_0 (g : Nat → Nat) : tk g 0 = g 0 := by unfold tk tkj; rw [if_neg (by omega), if_neg (by omega), if_neg (by omega)]
theorem tk_1 (g : Nat → Nat) : tk g 1 = g 1 := by unfold tk tkj; rw [if_neg (by omega), if_neg (by omega), if_neg (by omega)]
theorem tk_2 (g : Nat → Nat) : tk g 2 = g 2 + 1 := if_pos rfl
theorem tk_3 (g : Nat → Nat) : tk g 3 = g 3 + fb_sm (dg g) 16 := by unfold tk; rw [if_neg (by omega), if_pos rfl]
theorem tk_4 (g : Nat → Nat) : tk g 4 = g 4 := by unfold tk tkj; rw [if_neg (by omega), if_neg (by omega), if_neg (by omega)]
/-- the static places -/
def SEq (g g' : Nat → Nat) : Prop := g' 0 = g 0 ∧ ∀ l, l < 16 → GA g' l 0 = GA g l 0 ∧ GA g' l 1 = GA g l 1 ∧ ∀ p, p < 3 → src g' l p = src g l p
theorem SEq.rf {g : Nat → Nat} : SEq g g := ⟨rfl, fun _ _ => ⟨rfl, rfl, fun _ _ => rfl⟩⟩
theorem SEq.tr {a b c : Nat → Nat} (h : SEq a b) (h2 : SEq b c) : SEq a c := ⟨h2.1.trans h.1, fun l hl => ⟨(h2.2 l hl).1.trans (h.2 l hl).1, (h2.2 l hl).2.1.trans (h.2 l hl).2.1, fun p hp => ((h2.2 l hl).2.2 p hp).trans ((h.2 l hl).2.2 p hp)⟩⟩
theorem tk_SEq (g : Nat → Nat) : SEq g (tk g) := by
  refine ⟨tk_0 g, fun l hl => ⟨?_, ?_, fun p hp => ?_⟩⟩
  · rw [tk_GA g hl (by omega)]; unfold tkl; rw [if_neg (by omega), if_neg (by omega), if_neg (by omega)]
  · rw [tk_GA g hl (by omega)]; unfold tkl; rw [if_neg (by omega), if_neg (by omega), if_neg (by omega)]
  · unfold src; rw [tk_GA g hl (by omega)]; unfold tkl; rw [if_neg (by omega), if_neg (by omega), if_neg (by omega)]
theorem tki_SEq (g : Nat → Nat) : ∀ t, SEq g (tki g t)
  | 0 => SEq.rf
  | t + 1 => (tki_SEq g t).tr (tk_SEq _)
theorem SR_SEq {g g' : Nat → Nat} {c : Int32} {k w so : Nat → Int32} (h : SEq g g') (hS : SR g c k w so) : SR g' c k w so :=
  ⟨by rw [h.1]; exact hS.1, fun l hl => by rw [(h.2 l hl).1]; exact hS.2.1 l hl, fun l hl => by rw [(h.2 l hl).2.1]; exact hS.2.2.1 l hl, fun l p hl hp => by rw [(h.2 l hl).2.2 p hp]; exact hS.2.2.2 l p hl hp⟩
theorem tk_g2 (g : Nat → Nat) {l : Nat} (hl : l < 16) : GA (tk g) l 2 = ng g l := by rw [tk_GA g hl (by omega)]; exact if_pos rfl
theorem tk_g3 (g : Nat → Nat) {l : Nat} (hl : l < 16) : GA (tk g) l 3 = GA g l 3 + dg g l := by rw [tk_GA g hl (by omega)]; unfold tkl; rw [if_neg (by omega), if_pos rfl]
theorem tk_g7 (g : Nat → Nat) {l : Nat} (hl : l < 16) : GA (tk g) l 7 = nfd g l := by rw [tk_GA g hl (by omega)]; unfold tkl; rw [if_neg (by omega), if_neg (by omega), if_pos rfl]
theorem ng_le {g : Nat → Nat} (hG : GV g) {l : Nat} (hl : l < 16) : ng g l ≤ 1 := by
  have := (GV_l hG hl).2.2.1
  unfold ng
  split <;> omega
theorem nfd_lt {g : Nat → Nat} (hG : GV g) {l : Nat} (hl : l < 16) : nfd g l < 8 := by
  have h1 := (GV_l hG hl).2.2.2.1
  have h2 := nv_lt hG hl
  unfold nfd
  split <;> omega
theorem GV_tk {g : Nat → Nat} (hG : GV g) : GV (tk g) := by
  have hn := hG.1
  have hs := tk_SEq g
  refine ⟨by rw [tk_0]; exact hG.1, by rw [tk_1]; exact hG.2.1, fun l hl => ?_, fun l hl => ?_, fun l hl h0 => ?_, fun i hi hi2 => ?_⟩
  · have h := GV_l hG hl
    refine ⟨by rw [(hs.2 l hl).1]; exact h.1, by rw [(hs.2 l hl).2.1]; exact h.2.1, by rw [tk_g2 g hl]; exact ng_le hG hl, by rw [tk_g7 g hl]; exact nfd_lt hG hl, fun p hp => ?_⟩
    rw [(hs.2 l hl).2.2 p hp, tk_0]
    exact h.2.2.2.2 p hp
  · rw [tk_0] at hl
    have hl16 : l < 16 := by omega
    have h := hG.2.2.2.1 l hl
    rw [(hs.2 l hl16).2.1, tk_g7 g hl16]
    refine ⟨h.1, ?_⟩
    unfold nfd
    split
    · exact h.2
    · have e : 2 ^ GA g l 1 = 2 * 2 ^ (GA g l 1 - 1) := by
        rw [Nat.mul_comm, ← Nat.pow_succ]
        congr 1
        omega
      have hnv : nv g l < 2 ^ GA g l 1 := by
        unfold nv
        refine Nat.or_lt_two_pow (by omega) ?_
        split <;> omega
      omega
  · rw [(hs.2 l hl).1] at h0
    have h := hG.2.2.2.2.1 l hl h0
    refine ⟨by rw [tk_g7 g hl, nfd, if_pos h0]; exact h.1, fun p hp => by rw [(hs.2 l hl).2.2 p hp]; exact h.2 p hp⟩
  · rw [tk_0] at hi
    unfold tk
    rw [if_neg (by omega), if_neg (by omega), ← tkj_16 hG hi2, tkj_out g (Or.inr hi)]
    exact hG.2.2.2.2.2 i hi hi2
theorem GV_tki {g : Nat → Nat} (hG : GV g) : ∀ t, GV (tki g t)
  | 0 => hG
  | t + 1 => GV_tk (GV_tki hG t)
/-- glows and what was found, the same -/
def deq (g g' : Nat → Nat) : Prop := ∀ l, l < 16 → GA g l 2 = GA g' l 2 ∧ GA g l 7 = GA g' l 7
theorem stl_deq (g : Nat → Nat) : stl g ↔ deq (tk g) g :=
  ⟨fun h l hl => by rw [tk_g2 g hl, tk_g7 g hl]; exact h l hl, fun h l hl => by have := h l hl; rwa [tk_g2 g hl, tk_g7 g hl] at this⟩
theorem tb_small {a b : Nat} (ha : a < 8) (hb : b < 8) (h : ∀ j, j < 3 → a.testBit j = b.testBit j) : a = b := by
  apply Nat.eq_of_testBit_eq
  intro i
  rcases Nat.lt_or_ge i 3 with q | q
  · exact h i q
  · have hp : 8 ≤ 2 ^ i := p2le q
    rw [Nat.testBit_lt_two_pow (by omega), Nat.testBit_lt_two_pow (by omega)]
theorem ER_eq {g g' : Nat → Nat} {st st' : Int64} (hG : GV g) (hG' : GV g') (h : ER g st) (h' : ER g' st') : st = st' ↔ deq g g' := by
  constructor
  · intro e
    subst e
    intro l hl
    refine ⟨?_, tb_small (GV_l hG hl).2.2.2.1 (GV_l hG' hl).2.2.2.1 fun j hj => by rw [← h.2 l j hl hj, h'.2 l j hl hj]⟩
    have e : gw g l = gw g' l := by rw [← h.1 l hl, h'.1 l hl]
    rw [gw_n hG hl, gw_n hG' hl, e]
  · intro e
    apply l_ext
    intro i hi
    rcases Nat.lt_or_ge i 16 with q | q
    · rw [h.1 i q, h'.1 i q]
      unfold gw
      rw [(e i q).1]
    · obtain ⟨l, j, hl, hj, rfl⟩ : ∃ l j, l < 16 ∧ j < 3 ∧ i = 16 + 3 * l + j := ⟨(i - 16) / 3, (i - 16) % 3, by omega, by omega, by omega⟩
      rw [h.2 l j hl hj, h'.2 l j hl hj, (e l hl).2]
theorem fb_ct_sm (p : Nat → Bool) : ∀ n, fb_ct p n = fb_sm (fun i => if p i then 1 else 0) n
  | 0 => rfl
  | n + 1 => by rw [fb_ct_succ, fb_sm_succ, fb_ct_sm p n]
section GoOn
variable {g : Nat → Nat} {c ti tc : Int32} {k w so ch : Nat → Int32} {st : Int64}
theorem X2_tick (hG : GV g) (hS : SR g c k w so) (hE : ER g st) : ∃ st', J_X2_behindTick c k w so st = some st' ∧ ER (tk g) st' := by
  obtain ⟨st', h1, h2, h3⟩ := X2_behindTick hG hS hE
  refine ⟨st', h1, fun l hl => ?_, fun l j hl hj => ?_⟩
  · rw [h2 l hl]; unfold gw; rw [tk_g2 g hl]
  · rw [h3 l j hl hj, tk_g7 g hl]
theorem X2_goOn_L {v1 : Int64} {v3 : Int32} (h3 : ∀ i, i < 16 → bt v3 i = decide (dg g i = 1)) (h16 : ∀ i, 16 ≤ i → bt v3 i = false) : ∀ d nf j (ch : Nat → Int32), j + d = 16 → d < nf → (∀ l, l < 16 → ch l = nI (GA g l 3 + if l < j then dg g l else 0)) → ∃ ch', J_X2_goOn_L22 c k w so nf st (nI (g 2)) (nI (g 3)) ch v1 v3 (nI j) = some (nI (fb_sm (dg g) 16), v1, nI (g 2 + 1), nI (g 3 + fb_sm (dg g) 16), ch') ∧ ∀ l, l < 16 → ch' l = nI (GA g l 3 + dg g l) := by
  intro d
  induction d with
  | zero =>
    intro nf j ch hj hd hch
    obtain ⟨m, rfl, -⟩ := nf_of hd
    obtain rfl : j = 16 := by omega
    refine ⟨ch, ?_, fun l hl => by rw [hch l hl, if_pos hl]⟩
    have hs : fb_ct (bt v3) 16 = fb_sm (dg g) 16 := by
      rw [fb_ct_sm]
      refine fb_sm_cong fun i hi => ?_
      rw [h3 i hi]
      have := dg_le g i
      by_cases e : dg g i = 1
      · simp [e]
      · simp [e]; omega
    rw [J_X2_goOn_L22, bitCount_eq h16, hs]
    simp (disch := omega) only [↓reduceIte, nm_x, chk_nI, chz_0, chz_1, chz_b2, chn_nI, oi_1, oi_2, oi_m1, il_0, il_1, il_2, il_3, il_4, il_5, il_6, il_7, il_8, il_9, il_10, il_11, il_12, il_13, il_14, il_15, il_16, il_32, il_35, il_40, il_41, il_42, il_43, il_44, il_45, il_46, il_48, il_57, il_58, il_59, il_60, il_99, il_104, il_115, il_116, il_119, il_126, il_133, il_255, il_256, il_512, il_931, il_1000, il_65536, bn0, bn1, bn2, bn3, bn4, bn5, bn6, bn7, bn8, bn9, bn10, bn11, bn12, bn13, bn14, bn15, nI_leI, nI_ltI, nI_eq, nI_clamp, nI_add, pk_mul, nI_lt0, ng_lt0, ng_ge0, ng_eqn, ng_neq, ng_len, ng_eq, sV_m1, sV_lt0, sV_ge0, if_true, if_false, Nat.le_refl, Nat.lt_irrefl, Nat.not_lt_zero, Nat.zero_le, not_true_eq_false, not_false_eq_true, false_and, true_and, and_true, and_false, true_or, or_true, false_or, or_false, reduceCtorEq]
  | succ d ih =>
    intro nf j ch hj hd hch
    obtain ⟨m, rfl, hm⟩ := nf_of hd
    have hj16 : j < 16 := by omega
    rw [J_X2_goOn_L22]
    simp (disch := omega) only [↓reduceIte, nm_x, chk_nI, chz_0, chz_1, chz_b2, chn_nI, oi_1, oi_2, oi_m1, il_0, il_1, il_2, il_3, il_4, il_5, il_6, il_7, il_8, il_9, il_10, il_11, il_12, il_13, il_14, il_15, il_16, il_32, il_35, il_40, il_41, il_42, il_43, il_44, il_45, il_46, il_48, il_57, il_58, il_59, il_60, il_99, il_104, il_115, il_116, il_119, il_126, il_133, il_255, il_256, il_512, il_931, il_1000, il_65536, bn0, bn1, bn2, bn3, bn4, bn5, bn6, bn7, bn8, bn9, bn10, bn11, bn12, bn13, bn14, bn15, nI_leI, nI_ltI, nI_eq, nI_clamp, nI_add, pk_mul, nI_lt0, ng_lt0, ng_ge0, ng_eqn, ng_neq, ng_len, ng_eq, sV_m1, sV_lt0, sV_ge0, if_true, if_false, Nat.le_refl, Nat.lt_irrefl, Nat.not_lt_zero, Nat.zero_le, not_true_eq_false, not_false_eq_true, false_and, true_and, and_true, and_false, true_or, or_true, false_or, or_false, reduceCtorEq, show ¬ 16 ≤ j by omega]
    rw [bit_and v3 j (by omega), h3 j hj16, hch j hj16, if_neg (Nat.lt_irrefl j)]
    have e : nI (GA g j 3 + 0) + (if decide (dg g j = 1) = true then nI 1 else nI 0) = nI (GA g j 3 + dg g j) := by
      have := dg_le g j
      by_cases q : dg g j = 1
      · simp only [q, decide_true, if_true, nI_add, Nat.add_zero]
      · rw [decide_eq_false q]
        simp only [Bool.false_eq_true, if_false, nI_add, Nat.add_zero]
        congr 1
        omega
    rw [e]
    refine ih m (j + 1) _ (by omega) hm fun l hl => ?_
    unfold upd
    by_cases q : l = j
    · rw [if_pos q, if_pos (by omega), q]
    · rw [if_neg q, hch l hl]
      congr 2
      by_cases q2 : l < j
      · rw [if_pos q2, if_pos (by omega)]
      · rw [if_neg q2, if_neg (by omega)]
theorem X2_goOn (hG : GV g) (hS : SR g c k w so) (hE : ER g st) (hti : ti = nI (g 2)) (htc : tc = nI (g 3)) (hch : ∀ l, l < 16 → ch l = nI (GA g l 3)) : ∃ st' ch', J_X2_goOn c st ti tc k w so ch = some (nI (fb_sm (dg g) 16), st', nI (g 2 + 1), nI (g 3 + fb_sm (dg g) 16), ch') ∧ ER (tk g) st' ∧ ∀ l, l < 16 → ch' l = nI (GA (tk g) l 3) := by
  obtain ⟨st', e1, hE'⟩ := X2_tick hG hS hE
  obtain ⟨x, ex, hx⟩ := X2_glowIn (st ^^^ st')
  have h3 : ∀ i, i < 16 → bt x i = decide (dg g i = 1) := fun i hi => by
    rw [hx i (by omega), l_xor, hE.1 i hi, hE'.1 i hi]
    have h1 := ng_le hG hi
    have h2 := (GV_l hG hi).2.2.1
    have h4 : gw (tk g) i = decide (ng g i = 1) := by unfold gw; rw [tk_g2 g hi]
    rw [h4]
    unfold gw dg
    by_cases q : ng g i = GA g i 2
    · rw [if_pos q, q]; simp
    · rw [if_neg q]
      rcases (show (ng g i = 0 ∧ GA g i 2 = 1) ∨ (ng g i = 1 ∧ GA g i 2 = 0) by omega) with ⟨a, b⟩ | ⟨a, b⟩ <;> simp [hi, a, b]
  have h16 : ∀ i, 16 ≤ i → bt x i = false := fun i hi => by
    rcases Nat.lt_or_ge i 32 with q | q
    · rw [hx i q, decide_eq_false (by omega)]; rfl
    · exact b_big q
  obtain ⟨ch', h1, h2⟩ := X2_goOn_L (c := c) (k := k) (w := w) (so := so) (st := st) (v1 := st') h3 h16 16 FU 0 ch rfl (by unfold FU; omega) (fun l hl => by rw [hch l hl]; simp)
  refine ⟨st', ch', ?_, hE', fun l hl => by rw [h2 l hl, tk_g3 g hl]⟩
  have e0 : J_X2_goOn c st ti tc k w so ch = J_X2_goOn_L22 c k w so FU st ti tc ch st' x (nI 0) := by
    unfold J_X2_goOn
    rw [e1]
    simp only [bn1, nm_x, ex, il_0]
  rw [e0, hti, htc]
  exact h1
end GoOn

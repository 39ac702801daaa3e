/-! HOW OFTEN A GATE FLICKERS -/
theorem lbit (x : Int64) (k : Nat) (hk : k < 63) : ((x >>> ((nI k).toInt64 &&& 63)) &&& (1 : Int64)).toInt32 = if bl x k then nI 1 else nI 0 := by
  apply b_ext
  intro i hi
  rw [l_to32 _ hi, l_and, l_1, l_sshr k (by omega) x (by omega)]
  by_cases h : i = 0
  · subst h
    rw [if_pos (by omega), Nat.add_zero]
    cases hb : bl x k <;> simp [b_n1, b_n0]
  · cases hb : bl x k <;> simp [h, b_n1, b_n0]
theorem updn_GA_ne {g : Nat → Nat} {l w l' w' v : Nat} (hw : w < 8) (hw' : w' < 8) (h : ¬ (l' = l ∧ w' = w)) : GA (updn g (5 + 8 * l + w) v) l' w' = GA g l' w' := by
  unfold GA updn
  rw [if_neg (by omega)]
theorem updn_GA {g : Nat → Nat} {l w v : Nat} : GA (updn g (5 + 8 * l + w) v) l w = v := by
  unfold GA updn
  rw [if_pos rfl]
theorem updn_src {g : Nat → Nat} {l w v l' p : Nat} (hw : w < 8) (hp : p < 3) (h : w < 4 ∨ w = 7) : src (updn g (5 + 8 * l + w) v) l' p = src g l' p := updn_GA_ne hw (by omega) (by omega)
/-- one lantern's glow is another -/
theorem SEq_glow (g : Nat → Nat) (l v : Nat) : SEq g (updn g (5 + 8 * l + 2) v) := by
  refine ⟨by unfold updn; rw [if_neg (by omega)], fun l' hl' => ⟨updn_GA_ne (by omega) (by omega) (by omega), updn_GA_ne (by omega) (by omega) (by omega), fun p hp => updn_src (by omega) hp (by omega)⟩⟩
theorem GV_glow {g : Nat → Nat} (hG : GV g) {l v : Nat} (hl : l < g 0) (hv : v ≤ 1) : GV (updn g (5 + 8 * l + 2) v) := by
  have hn := hG.1
  have hS := SEq_glow g l v
  have h7 : ∀ l', GA (updn g (5 + 8 * l + 2) v) l' 7 = GA g l' 7 := fun l' => updn_GA_ne (by omega) (by omega) (by omega)
  refine ⟨by rw [hS.1]; exact hn, by unfold updn; rw [if_neg (by omega)]; exact hG.2.1, fun l' hl' => ?_, fun l' hl' => ?_, fun l' hl' h0 => ?_, fun i hi hi2 => ?_⟩
  · have h := GV_l hG hl'
    refine ⟨by rw [(hS.2 l' hl').1]; exact h.1, by rw [(hS.2 l' hl').2.1]; exact h.2.1, ?_, by rw [h7]; exact h.2.2.2.1, fun p hp => by rw [(hS.2 l' hl').2.2 p hp, hS.1]; exact h.2.2.2.2 p hp⟩
    by_cases e : l' = l
    · subst e; rw [updn_GA]; exact hv
    · rw [updn_GA_ne (by omega) (by omega) (by omega)]; exact h.2.2.1
  · rw [hS.1] at hl'
    rw [(hS.2 l' (by omega)).2.1, h7]
    exact hG.2.2.2.1 l' hl'
  · rw [(hS.2 l' hl').1] at h0
    rw [h7]
    exact ⟨(hG.2.2.2.2.1 l' hl' h0).1, fun p hp => by rw [(hS.2 l' hl').2.2 p hp]; exact (hG.2.2.2.2.1 l' hl' h0).2 p hp⟩
  · rw [hS.1] at hi
    unfold updn
    rw [if_neg (by omega)]
    exact hG.2.2.2.2.2 i hi hi2
theorem ER_glow {g : Nat → Nat} (hG : GV g) {st : Int64} (hE : ER g st) {b : Nat} (hb : b < g 0) : ER (updn g (5 + 8 * b + 2) (1 - GA g b 2)) (st ^^^ ((1 : Int64) <<< ((nI b).toInt64 &&& 63))) := by
  have hn := hG.1
  have h1 := (GV_l hG (show b < 16 by omega)).2.2.1
  constructor
  · intro l hl
    rw [l_xor, l_shl b (by omega) _ (by omega), l_1, hE.1 l hl]
    unfold gw
    by_cases e : l = b
    · subst e
      rw [updn_GA]
      rcases (show GA g l 2 = 0 ∨ GA g l 2 = 1 by omega) with e | e <;> rw [e] <;> simp
    · rw [updn_GA_ne (by omega) (by omega) (by omega)]
      by_cases e2 : b ≤ l
      · simp [show ¬ l - b = 0 by omega]
      · simp [e2]
  · intro l j hl hj
    rw [l_xor, l_shl b (by omega) _ (by omega), l_1, hE.2 l j hl hj, updn_GA_ne (by omega) (by omega) (by omega)]
    simp [show ¬ 16 + 3 * l + j - b = 0 by omega]
/-- the changes of a lantern in t ticks -/
def csum (g : Nat → Nat) (l t : Nat) : Nat := fb_sm (fun s => dg (tki g s) l) t
theorem csum_le (g : Nat → Nat) (l t : Nat) : csum g l t ≤ t := by
  have := fb_sm_bound (f := fun s => dg (tki g s) l) (c := 1) (n := t) (fun s _ => dg_le _ _)
  unfold csum; omega
theorem tki_g3 (g : Nat → Nat) {l : Nat} (hl : l < 16) : ∀ t, GA (tki g t) l 3 = GA g l 3 + csum g l t
  | 0 => rfl
  | t + 1 => by
    show GA (tk (tki g t)) l 3 = _
    rw [tk_g3 _ hl, tki_g3 g hl t]
    unfold csum
    rw [fb_sm_succ]
    omega
section Flick
variable {g : Nat → Nat} {c : Int32} {k w so : Nat → Int32}
theorem X1_flick_L {g1 : Nat → Nat} (hG : GV g) (hG1 : GV g1) (hS : SR g1 c k w so) (st0 v2 v3 : Int64) {l : Nat} (hl : l < 16) {st : Int64} (hE : ER g st) (b3 : Int32) : ∀ d nf t v6, t + d = 257 → d < nf → ER (tki g1 t) v6 → (∀ s, s < t → ¬ stl (tki g1 s)) → ∃ x, J_X1_flickersOf_L35 c st0 k w so (nI l) b3 nf st v6 (nI (csum g1 l t)) (nI t) = some x ∧ ((∃ t', t' ≤ 256 ∧ stl (tki g1 t') ∧ (∀ s, s < t' → ¬ stl (tki g1 s)) ∧ x = nI (csum g1 l t') - (if GA g l 2 = GA (tki g1 t') l 2 then nI 0 else nI 1)) ∨ (x = -nI 15 ∧ ∀ s, s ≤ 256 → ¬ stl (tki g1 s))) := by
  intro d
  induction d with
  | zero =>
    intro nf t v6 ht hd hE6 hs
    obtain ⟨m, rfl, -⟩ := nf_of hd
    obtain rfl : t = 257 := by omega
    refine ⟨_, ?_, Or.inr ⟨rfl, fun s h => hs s (by omega)⟩⟩
    rw [J_X1_flickersOf_L35]
    simp (disch := omega) only [↓reduceIte, nm_x, chk_nI, chz_0, chz_1, chz_b2, chn_nI, oi_1, oi_2, oi_m1, il_0, il_1, il_2, il_3, il_4, il_5, il_6, il_7, il_8, il_9, il_10, il_11, il_12, il_13, il_14, il_15, il_16, il_32, il_35, il_40, il_41, il_42, il_43, il_44, il_45, il_46, il_48, il_57, il_58, il_59, il_60, il_99, il_104, il_115, il_116, il_119, il_126, il_133, il_255, il_256, il_512, il_931, il_1000, il_65536, bn0, bn1, bn2, bn3, bn4, bn5, bn6, bn7, bn8, bn9, bn10, bn11, bn12, bn13, bn14, bn15, nI_leI, nI_ltI, nI_eq, nI_clamp, nI_add, pk_mul, nI_lt0, ng_lt0, ng_ge0, ng_eqn, ng_neq, ng_len, ng_eq, sV_m1, sV_lt0, sV_ge0, if_true, if_false, Nat.le_refl, Nat.lt_irrefl, Nat.not_lt_zero, Nat.zero_le, not_true_eq_false, not_false_eq_true, false_and, true_and, and_true, and_false, true_or, or_true, false_or, or_false, reduceCtorEq, show 256 < 257 by omega]
  | succ d ih =>
    intro nf t v6 ht hd hE6 hs
    obtain ⟨m, rfl, hm⟩ := nf_of hd
    have hGt := GV_tki hG1 t
    obtain ⟨st', e1, h1⟩ := X2_tick hGt (SR_SEq (tki_SEq g1 t) hS) hE6
    have heq : st' = v6 ↔ stl (tki g1 t) := (ER_eq (GV_tki hG1 (t + 1)) hGt h1 hE6).trans (stl_deq _).symm
    rw [J_X1_flickersOf_L35]
    simp (disch := omega) only [↓reduceIte, nm_x, chk_nI, chz_0, chz_1, chz_b2, chn_nI, oi_1, oi_2, oi_m1, il_0, il_1, il_2, il_3, il_4, il_5, il_6, il_7, il_8, il_9, il_10, il_11, il_12, il_13, il_14, il_15, il_16, il_32, il_35, il_40, il_41, il_42, il_43, il_44, il_45, il_46, il_48, il_57, il_58, il_59, il_60, il_99, il_104, il_115, il_116, il_119, il_126, il_133, il_255, il_256, il_512, il_931, il_1000, il_65536, bn0, bn1, bn2, bn3, bn4, bn5, bn6, bn7, bn8, bn9, bn10, bn11, bn12, bn13, bn14, bn15, nI_leI, nI_ltI, nI_eq, nI_clamp, nI_add, pk_mul, nI_lt0, ng_lt0, ng_ge0, ng_eqn, ng_neq, ng_len, ng_eq, sV_m1, sV_lt0, sV_ge0, if_true, if_false, Nat.le_refl, Nat.lt_irrefl, Nat.not_lt_zero, Nat.zero_le, not_true_eq_false, not_false_eq_true, false_and, true_and, and_true, and_false, true_or, or_true, false_or, or_false, reduceCtorEq, show ¬ 256 < t by omega, e1, lgc0]
    by_cases q : st' = v6
    · rw [if_pos q]
      refine ⟨_, rfl, Or.inl ⟨t, by omega, heq.mp q, hs, ?_⟩⟩
      rw [lbit _ l (by omega), l_xor, hE.1 l hl, hE6.1 l hl]
      congr 1
      have a1 := (GV_l hG hl).2.2.1
      have a2 := (GV_l hGt hl).2.2.1
      unfold gw
      by_cases e : GA g l 2 = GA (tki g1 t) l 2
      · rw [if_pos e, e]; simp
      · rw [if_neg e]
        rcases (show (GA g l 2 = 0 ∧ GA (tki g1 t) l 2 = 1) ∨ (GA g l 2 = 1 ∧ GA (tki g1 t) l 2 = 0) by omega) with ⟨a, b⟩ | ⟨a, b⟩ <;> simp [a, b]
    · rw [if_neg q]
      have hbit : nI (csum g1 l t) + ((v6 ^^^ st') >>> ((nI l).toInt64 &&& 63) &&& 1).toInt32 = nI (csum g1 l (t + 1)) := by
        rw [lbit _ l (by omega), l_xor, hE6.1 l hl, h1.1 l hl]
        have a1 := (GV_l hGt hl).2.2.1
        have a2 := ng_le hGt hl
        unfold csum
        rw [fb_sm_succ]
        have e2 : gw (tk (tki g1 t)) l = decide (ng (tki g1 t) l = 1) := by unfold gw; rw [tk_g2 _ hl]
        rw [e2]
        unfold gw dg
        by_cases e : ng (tki g1 t) l = GA (tki g1 t) l 2
        · rw [if_pos e, e]; simp [nI_add]
        · rw [if_neg e]
          rcases (show (ng (tki g1 t) l = 0 ∧ GA (tki g1 t) l 2 = 1) ∨ (ng (tki g1 t) l = 1 ∧ GA (tki g1 t) l 2 = 0) by omega) with ⟨a, b⟩ | ⟨a, b⟩ <;> simp [a, b, nI_add]
      rw [hbit]
      refine ih m (t + 1) st' (by omega) hm h1 fun s hst => ?_
      rcases Nat.lt_or_ge s t with a | a
      · exact hs s a
      · obtain rfl : s = t := by omega
        exact fun h => q (heq.mpr h)
theorem flick_both {nw : Nat → Int32} {st : Int64} (hG : GV g) (hS : SR g c k w so) (hE : ER g st) (hM : MR g nw) {l b : Nat} (hl : l < g 0) (hb : b < g 0) (hlk : GA g l 0 ≠ 0) (hbk : GA g b 0 = 0) (th fi : Nat → Int32) : ∃ x nw' th' fi', J_X1_flickersOf c st k w so (nI l) (nI b) = some x ∧ J_X10_flickers nw th fi (nI l) (nI b) = some (x, nw', th', fi') ∧ MR g nw' := by
  have hn := hG.1
  have hl16 : l < 16 := by omega
  have hb16 : b < 16 := by omega
  obtain ⟨st', e1, h1⟩ := X2_tick hG hS hE
  have heq : st' = st ↔ stl g := (ER_eq (GV_tk hG) hG h1 hE).trans (stl_deq _).symm
  obtain ⟨bb, fi1, e2, h2⟩ := X10_isSettled hG hM fi
  have hm1 := (GV_l hG hb16).2.2.1
  have m1 := X10_isLantern_t hG hM hl
  have m2 := X10_isLantern_t hG hM hb
  have m3 := X10_isSwitch hG hM hl16
  have m4 := X10_isSwitch hG hM hb16
  rw [decide_eq_false hlk, b2_f] at m3
  rw [decide_eq_true hbk, b2_t] at m4
  unfold J_X1_flickersOf J_X10_flickers J_X2_state
  simp (disch := omega) only [↓reduceIte, nm_x, chk_nI, chz_0, chz_1, chz_b2, chn_nI, oi_1, oi_2, oi_m1, il_0, il_1, il_2, il_3, il_4, il_5, il_6, il_7, il_8, il_9, il_10, il_11, il_12, il_13, il_14, il_15, il_16, il_32, il_35, il_40, il_41, il_42, il_43, il_44, il_45, il_46, il_48, il_57, il_58, il_59, il_60, il_99, il_104, il_115, il_116, il_119, il_126, il_133, il_255, il_256, il_512, il_931, il_1000, il_65536, bn0, bn1, bn2, bn3, bn4, bn5, bn6, bn7, bn8, bn9, bn10, bn11, bn12, bn13, bn14, bn15, nI_leI, nI_ltI, nI_eq, nI_clamp, nI_add, pk_mul, nI_lt0, ng_lt0, ng_ge0, ng_eqn, ng_neq, ng_len, ng_eq, sV_m1, sV_lt0, sV_ge0, if_true, if_false, Nat.le_refl, Nat.lt_irrefl, Nat.not_lt_zero, Nat.zero_le, not_true_eq_false, not_false_eq_true, false_and, true_and, and_true, and_false, true_or, or_true, false_or, or_false, reduceCtorEq, e1, lgc0, m1, m2, m3, m4, e2, b2_0]
  by_cases q : st' = st
  · rw [if_pos q]
    have hbb := h2.mpr (heq.mp q)
    rw [hbb]
    obtain ⟨th1, e3, h3⟩ := X10_thinks nw th
    have hG1 := GV_glow hG hb (show 1 - GA g b 2 ≤ 1 by omega)
    have hM1 := MR_upd hM (5 + 8 * b + 2) (1 - GA g b 2)
    have hS1 := SR_SEq (SEq_glow g b (1 - GA g b 2)) hS
    have hE1 := ER_glow hG hE hb
    obtain ⟨y, nw1, fi2, e4, h4⟩ := X10_settles hG1 hM1 fi1
    obtain ⟨nw2, e5, h5⟩ := X10_thinksNoMore th1 nw1
    have hM2 : MR g nw2 := MR_copy h5 (MR_copy h3 hM)
    obtain ⟨x, e6, h6⟩ := X1_flick_L hG hG1 hS1 st st st hl16 hE (nI b) 257 FU 0 _ rfl (by unfold FU; omega) hE1 (fun s hs => absurd hs (Nat.not_lt_zero s))
    have hg3 : GA (updn g (5 + 8 * b + 2) (1 - GA g b 2)) l 3 = GA g l 3 := updn_GA_ne (by omega) (by omega) (by omega)
    have rd : ∀ t, MR (tki (updn g (5 + 8 * b + 2) (1 - GA g b 2)) t) nw1 → J_X10_of nw1 (nI l) (nI 3) = some (nI (GA g l 3 + csum (updn g (5 + 8 * b + 2) (1 - GA g b 2)) l t)) ∧ J_X10_of nw1 (nI l) (nI 2) = some (nI (GA (tki (updn g (5 + 8 * b + 2) (1 - GA g b 2)) t) l 2)) := fun t hMt => by
      refine ⟨?_, X10_of hMt hl16 (by omega)⟩
      rw [X10_of hMt hl16 (by omega), tki_g3 _ hl16, hg3]
    have r2 := X10_of hM hl16 (show 2 < 8 by omega)
    have r3 := X10_of hM hl16 (show 3 < 8 by omega)
    have rb := X10_of hM hb16 (show 2 < 8 by omega)
    have hs1 : nI 1 - nI (GA g b 2) = nI (1 - GA g b 2) := pk_sub hm1
    rw [show csum (updn g (5 + 8 * b + 2) (1 - GA g b 2)) l 0 = 0 from rfl] at e6
    refine ⟨x, nw2, th1, fi2, e6, ?_, hM2⟩
    unfold J_X10_flickers_b111 J_X10_flickers_b127
    simp (disch := omega) only [↓reduceIte, nm_x, chk_nI, chz_0, chz_1, chz_b2, chn_nI, oi_1, oi_2, oi_m1, il_0, il_1, il_2, il_3, il_4, il_5, il_6, il_7, il_8, il_9, il_10, il_11, il_12, il_13, il_14, il_15, il_16, il_32, il_35, il_40, il_41, il_42, il_43, il_44, il_45, il_46, il_48, il_57, il_58, il_59, il_60, il_99, il_104, il_115, il_116, il_119, il_126, il_133, il_255, il_256, il_512, il_931, il_1000, il_65536, bn0, bn1, bn2, bn3, bn4, bn5, bn6, bn7, bn8, bn9, bn10, bn11, bn12, bn13, bn14, bn15, nI_leI, nI_ltI, nI_eq, nI_clamp, nI_add, pk_mul, nI_lt0, ng_lt0, ng_ge0, ng_eqn, ng_neq, ng_len, ng_eq, sV_m1, sV_lt0, sV_ge0, if_true, if_false, Nat.le_refl, Nat.lt_irrefl, Nat.not_lt_zero, Nat.zero_le, not_true_eq_false, not_false_eq_true, false_and, true_and, and_true, and_false, true_or, or_true, false_or, or_false, reduceCtorEq, Bool.true_eq_false, e3, r2, r3, rb, hs1, X10_sets hb16 (show 2 < 8 by omega), e4, e5]
    rcases h4 with ⟨t, a1, rfl, a3, a4, a5⟩ | ⟨rfl, a2, a5⟩
    · obtain ⟨rd3, rd2⟩ := rd t a5
      have hgt := (GV_l (GV_tki hG1 t) hl16).2.2.1
      have hg2 := (GV_l hG hl16).2.2.1
      rcases h6 with ⟨t', b1, b3, b4, rfl⟩ | ⟨-, b2⟩
      · have : t = t' := by
          rcases Nat.lt_trichotomy t t' with q | q | q
          · exact absurd a3 (b4 t q)
          · exact q
          · exact absurd b3 (a4 t' q)
        subst this
        have hsub : nI (GA g l 3 + csum (updn g (5 + 8 * b + 2) (1 - GA g b 2)) l t) - nI (GA g l 3) = nI (csum (updn g (5 + 8 * b + 2) (1 - GA g b 2)) l t) := by
          rw [pk_sub (by omega), Nat.add_sub_cancel_left]
        simp (disch := omega) only [↓reduceIte, nm_x, chk_nI, chz_0, chz_1, chz_b2, chn_nI, oi_1, oi_2, oi_m1, il_0, il_1, il_2, il_3, il_4, il_5, il_6, il_7, il_8, il_9, il_10, il_11, il_12, il_13, il_14, il_15, il_16, il_32, il_35, il_40, il_41, il_42, il_43, il_44, il_45, il_46, il_48, il_57, il_58, il_59, il_60, il_99, il_104, il_115, il_116, il_119, il_126, il_133, il_255, il_256, il_512, il_931, il_1000, il_65536, bn0, bn1, bn2, bn3, bn4, bn5, bn6, bn7, bn8, bn9, bn10, bn11, bn12, bn13, bn14, bn15, nI_leI, nI_ltI, nI_eq, nI_clamp, nI_add, pk_mul, nI_lt0, ng_lt0, ng_ge0, ng_eqn, ng_neq, ng_len, ng_eq, sV_m1, sV_lt0, sV_ge0, if_true, if_false, Nat.le_refl, Nat.lt_irrefl, Nat.not_lt_zero, Nat.zero_le, not_true_eq_false, not_false_eq_true, false_and, true_and, and_true, and_false, true_or, or_true, false_or, or_false, reduceCtorEq, rd3, rd2, hsub, nI_ge0]
        by_cases e : GA (tki (updn g (5 + 8 * b + 2) (1 - GA g b 2)) t) l 2 = GA g l 2
        · rw [if_pos e, if_pos e.symm]
          have h0 : nI (csum (updn g (5 + 8 * b + 2) (1 - GA g b 2)) l t) - nI 0 = nI (csum (updn g (5 + 8 * b + 2) (1 - GA g b 2)) l t) := by rw [pk_sub (by omega)]; rfl
          rw [h0]
        · rw [if_neg e, if_neg (fun h => e h.symm), Int32.sub_eq_add_neg]
      · exact absurd a3 (b2 t a1)
    · obtain ⟨rd3, rd2⟩ := rd 257 a5
      rcases h6 with ⟨t', b1, b3, -, -⟩ | ⟨rfl, -⟩
      · exact absurd b3 (a2 t' b1)
      · have hgt := (GV_l (GV_tki hG1 257) hl16).2.2.1
        have hg2 := (GV_l hG hl16).2.2.1
        simp (disch := omega) only [↓reduceIte, nm_x, chk_nI, chz_0, chz_1, chz_b2, chn_nI, oi_1, oi_2, oi_m1, il_0, il_1, il_2, il_3, il_4, il_5, il_6, il_7, il_8, il_9, il_10, il_11, il_12, il_13, il_14, il_15, il_16, il_32, il_35, il_40, il_41, il_42, il_43, il_44, il_45, il_46, il_48, il_57, il_58, il_59, il_60, il_99, il_104, il_115, il_116, il_119, il_126, il_133, il_255, il_256, il_512, il_931, il_1000, il_65536, bn0, bn1, bn2, bn3, bn4, bn5, bn6, bn7, bn8, bn9, bn10, bn11, bn12, bn13, bn14, bn15, nI_leI, nI_ltI, nI_eq, nI_clamp, nI_add, pk_mul, nI_lt0, ng_lt0, ng_ge0, ng_eqn, ng_neq, ng_len, ng_eq, sV_m1, sV_lt0, sV_ge0, if_true, if_false, Nat.le_refl, Nat.lt_irrefl, Nat.not_lt_zero, Nat.zero_le, not_true_eq_false, not_false_eq_true, false_and, true_and, and_true, and_false, true_or, or_true, false_or, or_false, reduceCtorEq, rd3, rd2]
        by_cases e : GA (tki (updn g (5 + 8 * b + 2) (1 - GA g b 2)) 257) l 2 = GA g l 2
        · rw [if_pos e]
        · rw [if_neg e]
  · rw [if_neg q]
    have hbb : bb = false := by
      cases hb : bb
      · rfl
      · exact absurd (heq.mpr (h2.mp hb)) q
    rw [hbb]
    simp (disch := omega) only [↓reduceIte, nm_x, chk_nI, chz_0, chz_1, chz_b2, chn_nI, oi_1, oi_2, oi_m1, il_0, il_1, il_2, il_3, il_4, il_5, il_6, il_7, il_8, il_9, il_10, il_11, il_12, il_13, il_14, il_15, il_16, il_32, il_35, il_40, il_41, il_42, il_43, il_44, il_45, il_46, il_48, il_57, il_58, il_59, il_60, il_99, il_104, il_115, il_116, il_119, il_126, il_133, il_255, il_256, il_512, il_931, il_1000, il_65536, bn0, bn1, bn2, bn3, bn4, bn5, bn6, bn7, bn8, bn9, bn10, bn11, bn12, bn13, bn14, bn15, nI_leI, nI_ltI, nI_eq, nI_clamp, nI_add, pk_mul, nI_lt0, ng_lt0, ng_ge0, ng_eqn, ng_neq, ng_len, ng_eq, sV_m1, sV_lt0, sV_ge0, if_true, if_false, Nat.le_refl, Nat.lt_irrefl, Nat.not_lt_zero, Nat.zero_le, not_true_eq_false, not_false_eq_true, false_and, true_and, and_true, and_false, true_or, or_true, false_or, or_false, reduceCtorEq]
    exact ⟨_, _, _, _, rfl, rfl, hM⟩
end Flick

/-! TABLES by letting ticks go by; both calls -/
theorem mset_step (p : Nat → Bool) {r : Nat} (hr : r < 32) : mset p r ||| (if p r = true then nI 1 else nI 0) <<< (nI r &&& 31) = mset p (r + 1) := by
  rw [mset]
  by_cases h : p r = true
  · rw [if_pos h, if_pos h]
  · rw [if_neg h, if_neg h]
    apply b_ext
    intro i hi
    rw [b_or, b_shl r hr _ hi, b_n0]; simp
theorem tki_add (g : Nat → Nat) (t : Nat) : ∀ j, tki g (t + j) = tki (tki g t) j
  | 0 => rfl
  | j + 1 => congrArg tk (tki_add g t j)
theorem fin_SEq {g g' : Nat → Nat} (hS : SEq g g') {l : Nat} (hl : l < 16) (G : Nat → Bool) : fin g' G l = fin g G l := by
  have hs := (hS.2 l hl).2.2
  unfold fin wct lit
  rw [(hS.2 l hl).1, fb_ct_cong (p := fun p => decide (src g' l p ≠ 0)) (q := fun p => decide (src g l p ≠ 0)) (fun p hp => by rw [hs p hp]), fb_ct_cong (p := fun p => decide (src g' l p ≠ 0) && G (src g' l p - 1)) (q := fun p => decide (src g l p ≠ 0) && G (src g l p - 1)) (fun p hp => by rw [hs p hp])]
section InDepth
variable {g : Nat → Nat}
theorem sw_stays (g : Nat → Nat) {l : Nat} (hl : l < 16) (h0 : GA g l 0 = 0) : ∀ t, GA (tki g t) l 2 = GA g l 2
  | 0 => rfl
  | t + 1 => by
    show GA (tk (tki g t)) l 2 = _
    rw [tk_g2 _ hl, ng, if_pos (by rw [((tki_SEq g t).2 l hl).1]; exact h0)]
    exact sw_stays g hl h0 t
/-- what it finds now shows behind as many ticks as its wick -/
theorem pipe (hG : GV g) {l : Nat} (hl : l < g 0) (h0 : GA g l 0 ≠ 0) : gw (tki g (GA g l 1)) l = fin g (gw g) l := by
  have hl16 : l < 16 := by have := hG.1; omega
  have hw := hG.2.2.2.1 l hl
  have key : ∀ j, j < GA g l 1 → (nv (tki g j) l).testBit (GA g l 1 - 1 - j) = fin g (gw g) l := by
    intro j
    induction j with
    | zero =>
      intro _
      show (GA g l 7 ||| _).testBit _ = _
      rw [Nat.testBit_or, Nat.testBit_lt_two_pow (by rw [Nat.sub_zero]; exact hw.2), Bool.false_or, Nat.sub_zero]
      show (if fin g (gw g) l = true then 2 ^ (GA g l 1 - 1) else 0).testBit _ = _
      cases fin g (gw g) l
      · simp
      · simp [Nat.testBit_two_pow]
    | succ j ih =>
      intro hj
      have ih' := ih (by omega)
      have hS := tki_SEq g (j + 1)
      have e7 : GA (tki g (j + 1)) l 7 = nv (tki g j) l / 2 := by
        show GA (tk (tki g j)) l 7 = _
        rw [tk_g7 _ hl16, nfd, if_neg (by rw [((tki_SEq g j).2 l hl16).1]; exact h0)]
      unfold nv
      rw [Nat.testBit_or, e7, (hS.2 l hl16).2.1]
      have e1 : (nv (tki g j) l / 2).testBit (GA g l 1 - 1 - (j + 1)) = (nv (tki g j) l).testBit (GA g l 1 - 1 - j) := by
        rw [← Nat.testBit_succ]
        congr 1
        omega
      rw [e1, ih']
      split
      · rw [Nat.testBit_two_pow, decide_eq_false (by omega), Bool.or_false]
      · simp
  obtain ⟨wk, hwk⟩ : ∃ wk, GA g l 1 = wk + 1 := ⟨GA g l 1 - 1, by omega⟩
  have h1 := key wk (by omega)
  rw [hwk] at h1
  rw [hwk]
  rw [← h1, show wk + 1 - 1 - wk = 0 by omega, Nat.testBit_zero]
  show decide (GA (tk (tki g wk)) l 2 = 1) = _
  rw [tk_g2 _ hl16, ng, if_neg (by rw [((tki_SEq g wk).2 l hl16).1]; exact h0)]
/-- behind as many ticks as it is deep, a lantern is as it is at last -/
theorem in_depth (hG : GV g) : ∀ f l, l < 16 → dk g f l → ∀ t, dv g f l ≤ t → gw (tki g t) l = Vf g (gw g) f l := by
  intro f
  induction f with
  | zero => intro l _ h; exact h.elim
  | succ f ih =>
    intro l hl h t ht
    rw [dv] at ht
    rw [Vf]
    by_cases h0 : GA g l 0 = 0
    · rw [if_pos h0]
      unfold gw
      rw [sw_stays g hl h0]
    · rw [if_neg h0] at ht ⊢
      have hlg : l < g 0 := by
        rcases Nat.lt_or_ge l (g 0) with q | q
        · exact q
        · exact absurd (hG.2.2.2.2.2 (5 + 8 * l + 0) (by omega) (by omega)) h0
      obtain ⟨t', rfl⟩ : ∃ t', t = t' + GA g l 1 := ⟨t - GA g l 1, by omega⟩
      have hS := tki_SEq g t'
      have hp := pipe (GV_tki hG t') (l := l) (by rw [hS.1]; exact hlg) (by rw [(hS.2 l hl).1]; exact h0)
      rw [(hS.2 l hl).2.1, ← tki_add, fin_SEq hS hl] at hp
      rw [hp]
      refine fin_src fun p hp3 hs => ?_
      have hm := mx_ge (F := fun p => if src g l p = 0 then 0 else dv g f (src g l p - 1)) (n := 3) hp3
      have hm' : dv g f (src g l p - 1) ≤ mx (fun p => if src g l p = 0 then 0 else dv g f (src g l p - 1)) 3 := by
        rw [if_neg hs] at hm
        exact hm
      exact ih _ (by have := src_lt hG hl hp3 hs; have := hG.1; omega) ((h.resolve_left h0) p hp3 hs) t' (by omega)
end InDepth
/-- the switches of S set as the row r tells -/
def gsw (g : Nat → Nat) (S : Int32) (r : Nat) : Nat → Nat := fun i => if 5 ≤ i ∧ i < 133 ∧ (i - 5) % 8 = 2 ∧ bt S ((i - 5) / 8) = true then (swr S r ((i - 5) / 8)).toNat else g i
theorem gsw_2 (g : Nat → Nat) (S : Int32) (r : Nat) {l : Nat} (hl : l < 16) : GA (gsw g S r) l 2 = if bt S l = true then (swr S r l).toNat else GA g l 2 := by
  unfold GA gsw
  rw [show (5 + 8 * l + 2 - 5) % 8 = 2 by omega, show (5 + 8 * l + 2 - 5) / 8 = l by omega]
  by_cases h : bt S l = true
  · rw [if_pos ⟨by omega, by omega, rfl, h⟩, if_pos h]
  · rw [if_neg (fun q => h q.2.2.2), if_neg h]
theorem gsw_ne (g : Nat → Nat) (S : Int32) (r : Nat) {l w : Nat} (hw : w < 8) (h2 : w ≠ 2) : GA (gsw g S r) l w = GA g l w := by
  unfold GA gsw
  rw [if_neg (by omega)]
theorem gsw_SEq (g : Nat → Nat) (S : Int32) (r : Nat) : SEq g (gsw g S r) := ⟨by unfold gsw; rw [if_neg (by omega)], fun l hl => ⟨gsw_ne g S r (by omega) (by omega), gsw_ne g S r (by omega) (by omega), fun p hp => gsw_ne g S r (by omega) (by omega)⟩⟩
section ByTicks
variable {g : Nat → Nat} {c : Int32} {k w so : Nat → Int32}
theorem GV_gsw (hG : GV g) {S : Int32} (hS : ∀ i, bt S i = true → i < g 0) (r : Nat) : GV (gsw g S r) := by
  have hE := gsw_SEq g S r
  have h7 : ∀ l, GA (gsw g S r) l 7 = GA g l 7 := fun l => gsw_ne g S r (by omega) (by omega)
  refine ⟨by rw [hE.1]; exact hG.1, by unfold gsw; rw [if_neg (by omega)]; exact hG.2.1, fun l hl => ?_, fun l hl => ?_, fun l hl h0 => ?_, fun i hi hi2 => ?_⟩
  · have h := GV_l hG hl
    refine ⟨by rw [(hE.2 l hl).1]; exact h.1, by rw [(hE.2 l hl).2.1]; exact h.2.1, ?_, by rw [h7]; exact h.2.2.2.1, fun p hp => by rw [(hE.2 l hl).2.2 p hp, hE.1]; exact h.2.2.2.2 p hp⟩
    rw [gsw_2 g S r hl]
    split
    · cases swr S r l <;> decide
    · exact h.2.2.1
  · rw [hE.1] at hl
    rw [(hE.2 l (by have := hG.1; omega)).2.1, h7]
    exact hG.2.2.2.1 l hl
  · rw [(hE.2 l hl).1] at h0
    rw [h7]
    exact ⟨(hG.2.2.2.2.1 l hl h0).1, fun p hp => by rw [(hE.2 l hl).2.2 p hp]; exact (hG.2.2.2.2.1 l hl h0).2 p hp⟩
  · rw [hE.1] at hi
    unfold gsw
    rw [if_neg (fun q => by have := hS _ q.2.2.2; omega)]
    exact hG.2.2.2.2.2 i hi hi2
theorem ER_gsw (hG : GV g) {st : Int64} (hE : ER g st) {S : Int32} (hS : ∀ i, bt S i = true → i < g 0) {r : Nat} {x : Int32} (hx : ∀ i, i < 32 → bt x i = (decide (i < 16) && (bt S i && swr S r i))) : ER (gsw g S r) ((st &&& (S.toInt64 ^^^ (-1 : Int64))) ||| x.toInt64) := by
  have hn := hG.1
  have hS0 : ∀ i, 16 ≤ i → bt S i = false := fun i hi => by
    cases h : bt S i
    · rfl
    · have := hS i h; omega
  constructor
  · intro l hl
    rw [l_or, l_and, l_xor, l_m1 l (by omega), l_of32 S (by omega), l_of32 x (by omega), if_pos (by omega), if_pos (by omega), hE.1 l hl, hx l (by omega)]
    unfold gw
    rw [gsw_2 g S r hl]
    cases hb : bt S l
    · simp
    · cases hs : swr S r l <;> simp [hl]
  · intro l j hl hj
    have e1 : bl S.toInt64 (16 + 3 * l + j) = false := by
      rw [l_of32 S (by omega)]
      split
      · exact hS0 _ (by omega)
      · exact hS0 _ (by omega)
    have e2 : bl x.toInt64 (16 + 3 * l + j) = false := by
      rw [l_of32 x (by omega)]
      split
      · rw [hx _ (by omega), decide_eq_false (by omega)]; rfl
      · rw [hx _ (by omega)]; rfl
    rw [l_or, l_and, l_xor, l_m1 _ (by omega), e1, e2, hE.2 l j hl hj, gsw_ne g S r (by omega) (by omega)]
    simp
theorem X7_ticks_L55 {h : Nat → Nat} (hG : GV h) (hS : SR h c k w so) (k33 : Int32 → Int32 → Int64 → Int32 → Int32 → Option Int32) (st0 : Int64) {l : Nat} (hl : l < 16) {D : Nat} (hD : D ≤ 64) (v3 v4 : Int32) (v5 : Int64) (v7 v8 : Int32) : ∀ d nf t v9, t + d = D → d < nf → ER (tki h t) v9 → J_X7_byTicks_L55 k33 c st0 k w so (nI l) (nI D) nf v3 v4 v5 v7 v8 v9 (nI t) = k33 v3 v4 v5 (v7 ||| (if gw (tki h D) l = true then nI 1 else nI 0) <<< (v8 &&& 31)) (v8 + nI 1) := by
  intro d
  induction d with
  | zero =>
    intro nf t v9 ht hd hE
    obtain ⟨m, rfl, -⟩ := nf_of hd
    obtain rfl : t = D := by omega
    rw [J_X7_byTicks_L55]
    simp (disch := omega) only [↓reduceIte, nm_x, chk_nI, chz_0, chz_1, chz_b2, chn_nI, oi_1, oi_2, oi_m1, il_0, il_1, il_2, il_3, il_4, il_5, il_6, il_7, il_8, il_9, il_10, il_11, il_12, il_13, il_14, il_15, il_16, il_32, il_35, il_40, il_41, il_42, il_43, il_44, il_45, il_46, il_48, il_57, il_58, il_59, il_60, il_99, il_104, il_115, il_116, il_119, il_126, il_133, il_255, il_256, il_512, il_931, il_1000, il_65536, bn0, bn1, bn2, bn3, bn4, bn5, bn6, bn7, bn8, bn9, bn10, bn11, bn12, bn13, bn14, bn15, nI_leI, nI_ltI, nI_eq, nI_clamp, nI_add, pk_mul, nI_lt0, ng_lt0, ng_ge0, ng_eqn, ng_neq, ng_len, ng_eq, sV_m1, sV_lt0, sV_ge0, if_true, if_false, Nat.le_refl, Nat.lt_irrefl, Nat.not_lt_zero, Nat.zero_le, not_true_eq_false, not_false_eq_true, false_and, true_and, and_true, and_false, true_or, or_true, false_or, or_false, reduceCtorEq, lbit _ l (show l < 63 by omega), hE.1 l hl]
  | succ d ih =>
    intro nf t v9 ht hd hE
    obtain ⟨m, rfl, hm⟩ := nf_of hd
    obtain ⟨st', e1, h1⟩ := X2_tick (GV_tki hG t) (SR_SEq (tki_SEq h t) hS) hE
    rw [J_X7_byTicks_L55]
    simp (disch := omega) only [↓reduceIte, nm_x, chk_nI, chz_0, chz_1, chz_b2, chn_nI, oi_1, oi_2, oi_m1, il_0, il_1, il_2, il_3, il_4, il_5, il_6, il_7, il_8, il_9, il_10, il_11, il_12, il_13, il_14, il_15, il_16, il_32, il_35, il_40, il_41, il_42, il_43, il_44, il_45, il_46, il_48, il_57, il_58, il_59, il_60, il_99, il_104, il_115, il_116, il_119, il_126, il_133, il_255, il_256, il_512, il_931, il_1000, il_65536, bn0, bn1, bn2, bn3, bn4, bn5, bn6, bn7, bn8, bn9, bn10, bn11, bn12, bn13, bn14, bn15, nI_leI, nI_ltI, nI_eq, nI_clamp, nI_add, pk_mul, nI_lt0, ng_lt0, ng_ge0, ng_eqn, ng_neq, ng_len, ng_eq, sV_m1, sV_lt0, sV_ge0, if_true, if_false, Nat.le_refl, Nat.lt_irrefl, Nat.not_lt_zero, Nat.zero_le, not_true_eq_false, not_false_eq_true, false_and, true_and, and_true, and_false, true_or, or_true, false_or, or_false, reduceCtorEq, show ¬ D ≤ t by omega, e1]
    exact ih m (t + 1) st' (by omega) hm h1
theorem X7_byTicks_L (hG : GV g) (hSR : SR g c k w so) {st : Int64} (hE : ER g st) {l : Nat} (hl : l < g 0) (hk : GA g l 0 ≠ 0) (hH : HD g l) {S : Int32} (hS : MS S (fun i => i < g 0 ∧ GA g i 0 = 0 ∧ Leads g i l)) {n : Nat} (hn4 : n ≤ 4) : ∀ d nf r, r + d = 2 ^ n → d < nf → J_X7_byTicks_L33 c st k w so (nI l) (nI (DV g l)) nf S (nI (2 ^ n)) (st &&& (S.toInt64 ^^^ (-1 : Int64))) (mset (fun r => VV g (swr S r) l) r) (nI r) = some (mset (fun r => VV g (swr S r) l) (2 ^ n)) := by
  have hn := hG.1
  have hl16 : l < 16 := by omega
  have h16 : 2 ^ n ≤ 2 ^ 4 := p2le hn4
  intro d
  induction d with
  | zero =>
    intro nf r hr hd
    obtain ⟨m, rfl, -⟩ := nf_of hd
    obtain rfl : r = 2 ^ n := by omega
    rw [J_X7_byTicks_L33, if_pos (nI_le (Nat.le_refl _) (by omega))]
  | succ d ih =>
    intro nf r hr hd
    obtain ⟨m, rfl, hm⟩ := nf_of hd
    obtain ⟨x, ex, hx⟩ := X7_spread (S := S) (r := r) (by omega)
    have hSn : ∀ i, bt S i = true → i < g 0 := fun i hi => ((hS i).mp hi).1
    have hG' := GV_gsw hG hSn r
    have hE' := ER_gsw hG hE hSn hx
    have hSE := gsw_SEq g S r
    have hS' := SR_SEq hSE hSR
    have hHS : HD (gsw g S r) l ∧ DV (gsw g S r) l = DV g l ∧ ∀ sw f i, i < 16 → Vf (gsw g S r) sw f i = Vf g sw f i := by
      have k1 : ∀ f i, i < 16 → dk g f i → dk (gsw g S r) f i := by
        intro f
        induction f with
        | zero => intro i _ h; exact h
        | succ f ihf =>
          intro i hi h
          rcases h with h | h
          · exact Or.inl (by rw [(hSE.2 i hi).1]; exact h)
          · refine Or.inr fun p hp h0 => ?_
            rw [(hSE.2 i hi).2.2 p hp] at h0 ⊢
            exact ihf _ (by have := src_lt hG hi hp h0; omega) (h p hp h0)
      have k2 : ∀ f i, i < 16 → dv (gsw g S r) f i = dv g f i := by
        intro f
        induction f with
        | zero => intro i _; rfl
        | succ f ihf =>
          intro i hi
          rw [dv, dv, (hSE.2 i hi).1, (hSE.2 i hi).2.1]
          congr 2
          refine mx_cong fun p hp => ?_
          rw [(hSE.2 i hi).2.2 p hp]
          by_cases h0 : src g i p = 0
          · rw [if_pos h0, if_pos h0]
          · rw [if_neg h0, if_neg h0]
            exact ihf _ (by have := src_lt hG hi hp h0; omega)
      have k3 : ∀ sw f i, i < 16 → Vf (gsw g S r) sw f i = Vf g sw f i := by
        intro sw f
        induction f with
        | zero => intro i _; rfl
        | succ f ihf =>
          intro i hi
          rw [Vf, Vf, (hSE.2 i hi).1, fin_SEq hSE hi]
          congr 1
          exact fin_src fun p hp h0 => ihf _ (by have := src_lt hG hi hp h0; omega)
      exact ⟨k1 16 l hl16 hH, k2 16 l hl16, k3⟩
    have hval : gw (tki (gsw g S r) (DV g l)) l = VV g (swr S r) l := by
      rw [in_depth hG' 16 l hl16 hHS.1 (DV g l) (by rw [← hHS.2.1]; exact Nat.le_refl _), hHS.2.2 _ _ _ hl16]
      refine sw_same hG hl16 hk hS fun i hi => ?_
      unfold gw
      rw [gsw_2 g S r (by have := hSn i hi; omega), if_pos hi]
      cases swr S r i <;> rfl
    have hL := X7_ticks_L55 hG' hS' (fun z0 z1 z2 z3 z4 => J_X7_byTicks_L33 c st k w so (nI l) (nI (DV g l)) m z0 z1 z2 z3 z4) st hl16 (DV_le hG hl16) S (nI (2 ^ n)) (st &&& (S.toInt64 ^^^ (-1 : Int64))) (mset (fun r => VV g (swr S r) l) r) (nI r) (DV g l) FU 0 _ (by omega) (by have := DV_le hG hl16; unfold FU; omega) hE'
    rw [J_X7_byTicks_L33, if_neg (nI_ge (by omega) (by omega))]
    simp only [ex, bn1, nm_x, il_0]
    rw [hL, hval, mset_step (fun r => VV g (swr S r) l) (by omega), nI_add]
    exact ih m (r + 1) (by omega) hm
end ByTicks
section TableBoth
variable {g : Nat → Nat} {nw : Nat → Int32}
theorem X10_switchSet_L (hG : GV g) (hM : MR g nw) {l : Nat} (hl : l < 16) {rr : Nat → Int32} (hr : ∀ a, a < 16 → MS (rr a) (Leads g a)) : ∀ d nf j v, j + d = g 0 → d < nf → MS v (fun i => i < j ∧ GA g i 0 = 0 ∧ Leads g i l) → ∃ x, J_X10_switchSet_L8 nw (nI l) nf rr v (nI j) = some (x, rr) ∧ MS x (fun i => i < g 0 ∧ GA g i 0 = 0 ∧ Leads g i l) := by
  have hn := hG.1
  intro d
  induction d with
  | zero =>
    intro nf j v hj hd hv
    obtain ⟨m, rfl, -⟩ := nf_of hd
    obtain rfl : j = g 0 := by omega
    refine ⟨v, ?_, hv⟩
    rw [J_X10_switchSet_L8]
    simp (disch := omega) only [↓reduceIte, nm_x, chk_nI, chz_0, chz_1, chz_b2, chn_nI, oi_1, oi_2, oi_m1, il_0, il_1, il_2, il_3, il_4, il_5, il_6, il_7, il_8, il_9, il_10, il_11, il_12, il_13, il_14, il_15, il_16, il_32, il_35, il_40, il_41, il_42, il_43, il_44, il_45, il_46, il_48, il_57, il_58, il_59, il_60, il_99, il_104, il_115, il_116, il_119, il_126, il_133, il_255, il_256, il_512, il_931, il_1000, il_65536, bn0, bn1, bn2, bn3, bn4, bn5, bn6, bn7, bn8, bn9, bn10, bn11, bn12, bn13, bn14, bn15, nI_leI, nI_ltI, nI_eq, nI_clamp, nI_add, pk_mul, nI_lt0, ng_lt0, ng_ge0, ng_eqn, ng_neq, ng_len, ng_eq, sV_m1, sV_lt0, sV_ge0, if_true, if_false, Nat.le_refl, Nat.lt_irrefl, Nat.not_lt_zero, Nat.zero_le, not_true_eq_false, not_false_eq_true, false_and, true_and, and_true, and_false, true_or, or_true, false_or, or_false, reduceCtorEq, hM 0 (by omega)]
  | succ d ih =>
    intro nf j v hj hd hv
    obtain ⟨m, rfl, hm⟩ := nf_of hd
    have hj16 : j < 16 := by omega
    rw [J_X10_switchSet_L8, X10_isSwitch hG hM hj16]
    unfold J_X10_switchSet_b46
    simp (disch := omega) only [↓reduceIte, nm_x, chk_nI, chz_0, chz_1, chz_b2, chn_nI, oi_1, oi_2, oi_m1, il_0, il_1, il_2, il_3, il_4, il_5, il_6, il_7, il_8, il_9, il_10, il_11, il_12, il_13, il_14, il_15, il_16, il_32, il_35, il_40, il_41, il_42, il_43, il_44, il_45, il_46, il_48, il_57, il_58, il_59, il_60, il_99, il_104, il_115, il_116, il_119, il_126, il_133, il_255, il_256, il_512, il_931, il_1000, il_65536, bn0, bn1, bn2, bn3, bn4, bn5, bn6, bn7, bn8, bn9, bn10, bn11, bn12, bn13, bn14, bn15, nI_leI, nI_ltI, nI_eq, nI_clamp, nI_add, pk_mul, nI_lt0, ng_lt0, ng_ge0, ng_eqn, ng_neq, ng_len, ng_eq, sV_m1, sV_lt0, sV_ge0, if_true, if_false, Nat.le_refl, Nat.lt_irrefl, Nat.not_lt_zero, Nat.zero_le, not_true_eq_false, not_false_eq_true, false_and, true_and, and_true, and_false, true_or, or_true, false_or, or_false, reduceCtorEq, hM 0 (by omega), show ¬ g 0 ≤ j by omega, b2_0, decide_eq_false_iff_not]
    have no : ¬ (GA g j 0 = 0 ∧ Leads g j l) → MS v (fun i => i < j + 1 ∧ GA g i 0 = 0 ∧ Leads g i l) := fun hq i => by
      rw [hv i]
      constructor
      · rintro ⟨h1, h2⟩; exact ⟨by omega, h2⟩
      · rintro ⟨h1, h2⟩
        refine ⟨?_, h2⟩
        rcases Nat.lt_or_ge i j with a | a
        · exact a
        · obtain rfl : i = j := by omega
          exact absurd h2 hq
    by_cases hk : GA g j 0 = 0
    · rw [if_neg (by simpa using hk), bit_and _ l (by omega)]
      cases hb : bt (rr j) l
      · simp (disch := omega) only [↓reduceIte, nm_x, chk_nI, chz_0, chz_1, chz_b2, chn_nI, oi_1, oi_2, oi_m1, il_0, il_1, il_2, il_3, il_4, il_5, il_6, il_7, il_8, il_9, il_10, il_11, il_12, il_13, il_14, il_15, il_16, il_32, il_35, il_40, il_41, il_42, il_43, il_44, il_45, il_46, il_48, il_57, il_58, il_59, il_60, il_99, il_104, il_115, il_116, il_119, il_126, il_133, il_255, il_256, il_512, il_931, il_1000, il_65536, bn0, bn1, bn2, bn3, bn4, bn5, bn6, bn7, bn8, bn9, bn10, bn11, bn12, bn13, bn14, bn15, nI_leI, nI_ltI, nI_eq, nI_clamp, nI_add, pk_mul, nI_lt0, ng_lt0, ng_ge0, ng_eqn, ng_neq, ng_len, ng_eq, sV_m1, sV_lt0, sV_ge0, if_true, if_false, Nat.le_refl, Nat.lt_irrefl, Nat.not_lt_zero, Nat.zero_le, not_true_eq_false, not_false_eq_true, false_and, true_and, and_true, and_false, true_or, or_true, false_or, or_false, reduceCtorEq, Bool.false_eq_true]
        exact ih m (j + 1) v (by omega) hm (no fun h => by rw [(hr j hj16 l).mpr h.2] at hb; cases hb)
      · simp (disch := omega) only [↓reduceIte, nm_x, chk_nI, chz_0, chz_1, chz_b2, chn_nI, oi_1, oi_2, oi_m1, il_0, il_1, il_2, il_3, il_4, il_5, il_6, il_7, il_8, il_9, il_10, il_11, il_12, il_13, il_14, il_15, il_16, il_32, il_35, il_40, il_41, il_42, il_43, il_44, il_45, il_46, il_48, il_57, il_58, il_59, il_60, il_99, il_104, il_115, il_116, il_119, il_126, il_133, il_255, il_256, il_512, il_931, il_1000, il_65536, bn0, bn1, bn2, bn3, bn4, bn5, bn6, bn7, bn8, bn9, bn10, bn11, bn12, bn13, bn14, bn15, nI_leI, nI_ltI, nI_eq, nI_clamp, nI_add, pk_mul, nI_lt0, ng_lt0, ng_ge0, ng_eqn, ng_neq, ng_len, ng_eq, sV_m1, sV_lt0, sV_ge0, if_true, if_false, Nat.le_refl, Nat.lt_irrefl, Nat.not_lt_zero, Nat.zero_le, not_true_eq_false, not_false_eq_true, false_and, true_and, and_true, and_false, true_or, or_true, false_or, or_false, reduceCtorEq]
        refine ih m (j + 1) _ (by omega) hm fun i => ?_
        rw [(hv.set (show j < 32 by omega)) i]
        constructor
        · rintro (⟨h1, h2⟩ | rfl)
          · exact ⟨by omega, h2⟩
          · exact ⟨by omega, hk, (hr i hj16 l).mp hb⟩
        · rintro ⟨h1, h2⟩
          by_cases e : i = j
          · exact Or.inr e
          · exact Or.inl ⟨by omega, h2⟩
    · rw [if_pos hk]
      exact ih m (j + 1) v (by omega) hm (no fun h => hk h.1)
theorem X10_switchSet (hG : GV g) (hM : MR g nw) {l : Nat} (hl : l < 16) (r : Nat → Int32) : ∃ x r', J_X10_switchSet nw r (nI l) = some (x, r') ∧ MS x (fun i => i < g 0 ∧ GA g i 0 = 0 ∧ Leads g i l) := by
  unfold J_X10_switchSet
  obtain ⟨r', e1, h1⟩ := X10_reaches hG hM r
  rw [e1]
  simp only [bn1, il_0]
  obtain ⟨x, e2, h2⟩ := X10_switchSet_L hG hM hl h1 (g 0) FU 0 (nI 0) (by omega) (by have := hG.1; unfold FU; omega) (MS.none.iff fun i => ⟨fun h => h.elim, fun h => absurd h.1 (Nat.not_lt_zero i)⟩)
  exact ⟨x, r', e2, h2⟩
theorem table_both {c : Int32} {k w so : Nat → Int32} {st : Int64} (hG : GV g) (hS : SR g c k w so) (hE : ER g st) (hM : MR g nw) {l : Nat} (hl : l < g 0) (kn kn2 rr rr2 : Nat → Int32) : ∃ x kn' kn2' rr' rr2', J_X9_table c k w so kn (nI l) = some (x, kn') ∧ J_X9_tableAgain c st k w so kn2 (nI l) = some (x, kn2') ∧ J_X10_table nw rr (nI l) = some (x, rr') ∧ J_X10_tableAgain nw rr2 (nI l) = some (x, rr2') := by
  have hn := hG.1
  have hl16 : l < 16 := by omega
  have hh : J_X2_isHung c (nI l) = some (nI 1) := by rw [hS.1]; exact X2_isHung_t hl hn
  have hlt := X10_isLantern_t hG hM hl
  have hsx := X2_isSwitch hG hS hl
  have hsm := X10_isSwitch hG hM hl16
  have key : ∃ x, (∀ kn, ∃ kn', J_X9_table c k w so kn (nI l) = some (x, kn')) ∧ (∀ kn, ∃ kn', J_X9_tableAgain c st k w so kn (nI l) = some (x, kn')) ∧ ∀ rr, ∃ rr', J_X10_table nw rr (nI l) = some (x, rr') := by
    by_cases hk : GA g l 0 = 0
    · rw [decide_eq_true hk, b2_t] at hsx hsm
      refine ⟨-nI 15, fun kn => ⟨kn, ?_⟩, fun kn => ⟨kn, ?_⟩, fun rr => ⟨rr, ?_⟩⟩
      · unfold J_X9_table J_X9_table_b35 J_X9_hasTable J_X9_hasTable_b45 J_X9_hasTable_b46
        simp (disch := omega) only [↓reduceIte, nm_x, chk_nI, chz_0, chz_1, chz_b2, chn_nI, oi_1, oi_2, oi_m1, il_0, il_1, il_2, il_3, il_4, il_5, il_6, il_7, il_8, il_9, il_10, il_11, il_12, il_13, il_14, il_15, il_16, il_32, il_35, il_40, il_41, il_42, il_43, il_44, il_45, il_46, il_48, il_57, il_58, il_59, il_60, il_99, il_104, il_115, il_116, il_119, il_126, il_133, il_255, il_256, il_512, il_931, il_1000, il_65536, bn0, bn1, bn2, bn3, bn4, bn5, bn6, bn7, bn8, bn9, bn10, bn11, bn12, bn13, bn14, bn15, nI_leI, nI_ltI, nI_eq, nI_clamp, nI_add, pk_mul, nI_lt0, ng_lt0, ng_ge0, ng_eqn, ng_neq, ng_len, ng_eq, sV_m1, sV_lt0, sV_ge0, if_true, if_false, Nat.le_refl, Nat.lt_irrefl, Nat.not_lt_zero, Nat.zero_le, not_true_eq_false, not_false_eq_true, false_and, true_and, and_true, and_false, true_or, or_true, false_or, or_false, reduceCtorEq, hh, hsx]
      · unfold J_X9_tableAgain J_X9_tableAgain_b47 J_X9_hasTable J_X9_hasTable_b45 J_X9_hasTable_b46
        simp (disch := omega) only [↓reduceIte, nm_x, chk_nI, chz_0, chz_1, chz_b2, chn_nI, oi_1, oi_2, oi_m1, il_0, il_1, il_2, il_3, il_4, il_5, il_6, il_7, il_8, il_9, il_10, il_11, il_12, il_13, il_14, il_15, il_16, il_32, il_35, il_40, il_41, il_42, il_43, il_44, il_45, il_46, il_48, il_57, il_58, il_59, il_60, il_99, il_104, il_115, il_116, il_119, il_126, il_133, il_255, il_256, il_512, il_931, il_1000, il_65536, bn0, bn1, bn2, bn3, bn4, bn5, bn6, bn7, bn8, bn9, bn10, bn11, bn12, bn13, bn14, bn15, nI_leI, nI_ltI, nI_eq, nI_clamp, nI_add, pk_mul, nI_lt0, ng_lt0, ng_ge0, ng_eqn, ng_neq, ng_len, ng_eq, sV_m1, sV_lt0, sV_ge0, if_true, if_false, Nat.le_refl, Nat.lt_irrefl, Nat.not_lt_zero, Nat.zero_le, not_true_eq_false, not_false_eq_true, false_and, true_and, and_true, and_false, true_or, or_true, false_or, or_false, reduceCtorEq, hh, hsx]
      · unfold J_X10_table J_X10_table_b27
        simp (disch := omega) only [↓reduceIte, nm_x, chk_nI, chz_0, chz_1, chz_b2, chn_nI, oi_1, oi_2, oi_m1, il_0, il_1, il_2, il_3, il_4, il_5, il_6, il_7, il_8, il_9, il_10, il_11, il_12, il_13, il_14, il_15, il_16, il_32, il_35, il_40, il_41, il_42, il_43, il_44, il_45, il_46, il_48, il_57, il_58, il_59, il_60, il_99, il_104, il_115, il_116, il_119, il_126, il_133, il_255, il_256, il_512, il_931, il_1000, il_65536, bn0, bn1, bn2, bn3, bn4, bn5, bn6, bn7, bn8, bn9, bn10, bn11, bn12, bn13, bn14, bn15, nI_leI, nI_ltI, nI_eq, nI_clamp, nI_add, pk_mul, nI_lt0, ng_lt0, ng_ge0, ng_eqn, ng_neq, ng_len, ng_eq, sV_m1, sV_lt0, sV_ge0, if_true, if_false, Nat.le_refl, Nat.lt_irrefl, Nat.not_lt_zero, Nat.zero_le, not_true_eq_false, not_false_eq_true, false_and, true_and, and_true, and_false, true_or, or_true, false_or, or_false, reduceCtorEq, hlt, hsm]
    · rw [decide_eq_false hk, b2_f] at hsx hsm
      obtain ⟨S, eS, hMS⟩ := X5_switchesTo hG hS hl16
      have hS16 : ∀ i, 16 ≤ i → bt S i = false := fun i hi => by
        cases h : bt S i
        · rfl
        · have := ((hMS i).mp h).1; omega
      have hcl : fb_ct (bt S) 16 ≤ 16 := fb_ct_le _ _
      rcases Classical.em (HD g l) with hH | hH
      · have hdle := DV_le hG hl16
        have bw : ∀ kn, ∃ kn', J_X0_byWires kn c k w so (nI l) = some (nI (DV g l), kn') := fun kn => by
          obtain ⟨x, kn', e, h⟩ := X0_byWires hG hS hl kn
          rcases h with ⟨-, rfl⟩ | ⟨h, -⟩
          · exact ⟨kn', e⟩
          · exact absurd hH h
        have dp : ∀ rr, ∃ rr', J_X10_deep nw rr (nI l) = some (nI (DV g l), rr') := fun rr => by
          obtain ⟨x, rr', e, h⟩ := X10_deep hG hM hl16 rr
          rcases h with ⟨-, rfl⟩ | ⟨h, -⟩
          · exact ⟨rr', e⟩
          · exact absurd hH h
        have ss : ∀ rr, ∃ rr', J_X10_switchSet nw rr (nI l) = some (S, rr') := fun rr => by
          obtain ⟨x, rr', e, h⟩ := X10_switchSet hG hM hl16 rr
          rw [h.uniq hMS] at e
          exact ⟨rr', e⟩
        by_cases h4 : fb_ct (bt S) 16 ≤ 4
        · have h16 : 2 ^ fb_ct (bt S) 16 ≤ 2 ^ 4 := p2le h4
          have ms0 : nI 0 = mset (fun r => VV g (swr S r) l) 0 := rfl
          refine ⟨mset (fun r => VV g (swr S r) l) (2 ^ fb_ct (bt S) 16), fun kn => ?_, fun kn => ?_, fun rr => ?_⟩
          · obtain ⟨kn1, e1⟩ := bw kn
            have e2 : J_X7_byFinding c k so (nI l) = some (mset (fun r => VV g (swr S r) l) (2 ^ fb_ct (bt S) 16)) := by
              unfold J_X7_byFinding
              simp only [eS, bn1, bitCount_eq hS16, nm_x, il_1, il_0]
              rw [one_shl _ (by omega), ms0]
              exact X7_byFinding_L hG hS hl hk hH hMS h4 (2 ^ fb_ct (bt S) 16) FU 0 (by omega) (by unfold FU; omega)
            refine ⟨kn1, ?_⟩
            unfold J_X9_table J_X9_table_b35 J_X9_hasTable J_X9_hasTable_b45 J_X9_hasTable_b46
            simp (disch := omega) only [↓reduceIte, nm_x, chk_nI, chz_0, chz_1, chz_b2, chn_nI, oi_1, oi_2, oi_m1, il_0, il_1, il_2, il_3, il_4, il_5, il_6, il_7, il_8, il_9, il_10, il_11, il_12, il_13, il_14, il_15, il_16, il_32, il_35, il_40, il_41, il_42, il_43, il_44, il_45, il_46, il_48, il_57, il_58, il_59, il_60, il_99, il_104, il_115, il_116, il_119, il_126, il_133, il_255, il_256, il_512, il_931, il_1000, il_65536, bn0, bn1, bn2, bn3, bn4, bn5, bn6, bn7, bn8, bn9, bn10, bn11, bn12, bn13, bn14, bn15, nI_leI, nI_ltI, nI_eq, nI_clamp, nI_add, pk_mul, nI_lt0, ng_lt0, ng_ge0, ng_eqn, ng_neq, ng_len, ng_eq, sV_m1, sV_lt0, sV_ge0, if_true, if_false, Nat.le_refl, Nat.lt_irrefl, Nat.not_lt_zero, Nat.zero_le, not_true_eq_false, not_false_eq_true, false_and, true_and, and_true, and_false, true_or, or_true, false_or, or_false, reduceCtorEq, hh, hsx, e1, eS, bitCount_eq hS16, show ¬ 4 < fb_ct (bt S) 16 by omega, e2]
          · obtain ⟨kn1, e1⟩ := bw kn
            obtain ⟨kn2, e3⟩ := bw kn1
            have e2 : J_X7_byTicks c st k w so (nI l) (nI (DV g l)) = some (mset (fun r => VV g (swr S r) l) (2 ^ fb_ct (bt S) 16)) := by
              unfold J_X7_byTicks J_X2_state
              simp only [eS, bn1, bitCount_eq hS16, nm_x, il_1, il_0]
              rw [one_shl _ (by omega), ms0]
              exact X7_byTicks_L hG hS hE hl hk hH hMS h4 (2 ^ fb_ct (bt S) 16) FU 0 (by omega) (by unfold FU; omega)
            refine ⟨kn2, ?_⟩
            unfold J_X9_tableAgain J_X9_tableAgain_b47 J_X9_hasTable J_X9_hasTable_b45 J_X9_hasTable_b46
            simp (disch := omega) only [↓reduceIte, nm_x, chk_nI, chz_0, chz_1, chz_b2, chn_nI, oi_1, oi_2, oi_m1, il_0, il_1, il_2, il_3, il_4, il_5, il_6, il_7, il_8, il_9, il_10, il_11, il_12, il_13, il_14, il_15, il_16, il_32, il_35, il_40, il_41, il_42, il_43, il_44, il_45, il_46, il_48, il_57, il_58, il_59, il_60, il_99, il_104, il_115, il_116, il_119, il_126, il_133, il_255, il_256, il_512, il_931, il_1000, il_65536, bn0, bn1, bn2, bn3, bn4, bn5, bn6, bn7, bn8, bn9, bn10, bn11, bn12, bn13, bn14, bn15, nI_leI, nI_ltI, nI_eq, nI_clamp, nI_add, pk_mul, nI_lt0, ng_lt0, ng_ge0, ng_eqn, ng_neq, ng_len, ng_eq, sV_m1, sV_lt0, sV_ge0, if_true, if_false, Nat.le_refl, Nat.lt_irrefl, Nat.not_lt_zero, Nat.zero_le, not_true_eq_false, not_false_eq_true, false_and, true_and, and_true, and_false, true_or, or_true, false_or, or_false, reduceCtorEq, hh, hsx, e1, eS, bitCount_eq hS16, show ¬ 4 < fb_ct (bt S) 16 by omega, e3, e2]
          · obtain ⟨r1, e1⟩ := dp rr
            obtain ⟨r2, e2⟩ := ss r1
            refine ⟨r2, ?_⟩
            unfold J_X10_table J_X10_table_b27
            simp (disch := omega) only [↓reduceIte, nm_x, chk_nI, chz_0, chz_1, chz_b2, chn_nI, oi_1, oi_2, oi_m1, il_0, il_1, il_2, il_3, il_4, il_5, il_6, il_7, il_8, il_9, il_10, il_11, il_12, il_13, il_14, il_15, il_16, il_32, il_35, il_40, il_41, il_42, il_43, il_44, il_45, il_46, il_48, il_57, il_58, il_59, il_60, il_99, il_104, il_115, il_116, il_119, il_126, il_133, il_255, il_256, il_512, il_931, il_1000, il_65536, bn0, bn1, bn2, bn3, bn4, bn5, bn6, bn7, bn8, bn9, bn10, bn11, bn12, bn13, bn14, bn15, nI_leI, nI_ltI, nI_eq, nI_clamp, nI_add, pk_mul, nI_lt0, ng_lt0, ng_ge0, ng_eqn, ng_neq, ng_len, ng_eq, sV_m1, sV_lt0, sV_ge0, if_true, if_false, Nat.le_refl, Nat.lt_irrefl, Nat.not_lt_zero, Nat.zero_le, not_true_eq_false, not_false_eq_true, false_and, true_and, and_true, and_false, true_or, or_true, false_or, or_false, reduceCtorEq, hlt, hsm, e1, nI_ge0, e2, bitCount_eq hS16, h4]
            rw [ms0]
            exact X10_table_L hG hM hS16 hl16 hH r2 rfl h4 (2 ^ fb_ct (bt S) 16) FU 0 (by omega) (by unfold FU; omega)
        · refine ⟨-nI 15, fun kn => ?_, fun kn => ?_, fun rr => ?_⟩
          · obtain ⟨kn1, e1⟩ := bw kn
            refine ⟨kn1, ?_⟩
            unfold J_X9_table J_X9_table_b35 J_X9_hasTable J_X9_hasTable_b45 J_X9_hasTable_b46
            simp (disch := omega) only [↓reduceIte, nm_x, chk_nI, chz_0, chz_1, chz_b2, chn_nI, oi_1, oi_2, oi_m1, il_0, il_1, il_2, il_3, il_4, il_5, il_6, il_7, il_8, il_9, il_10, il_11, il_12, il_13, il_14, il_15, il_16, il_32, il_35, il_40, il_41, il_42, il_43, il_44, il_45, il_46, il_48, il_57, il_58, il_59, il_60, il_99, il_104, il_115, il_116, il_119, il_126, il_133, il_255, il_256, il_512, il_931, il_1000, il_65536, bn0, bn1, bn2, bn3, bn4, bn5, bn6, bn7, bn8, bn9, bn10, bn11, bn12, bn13, bn14, bn15, nI_leI, nI_ltI, nI_eq, nI_clamp, nI_add, pk_mul, nI_lt0, ng_lt0, ng_ge0, ng_eqn, ng_neq, ng_len, ng_eq, sV_m1, sV_lt0, sV_ge0, if_true, if_false, Nat.le_refl, Nat.lt_irrefl, Nat.not_lt_zero, Nat.zero_le, not_true_eq_false, not_false_eq_true, false_and, true_and, and_true, and_false, true_or, or_true, false_or, or_false, reduceCtorEq, hh, hsx, e1, eS, bitCount_eq hS16, show 4 < fb_ct (bt S) 16 by omega]
          · obtain ⟨kn1, e1⟩ := bw kn
            refine ⟨kn1, ?_⟩
            unfold J_X9_tableAgain J_X9_tableAgain_b47 J_X9_hasTable J_X9_hasTable_b45 J_X9_hasTable_b46
            simp (disch := omega) only [↓reduceIte, nm_x, chk_nI, chz_0, chz_1, chz_b2, chn_nI, oi_1, oi_2, oi_m1, il_0, il_1, il_2, il_3, il_4, il_5, il_6, il_7, il_8, il_9, il_10, il_11, il_12, il_13, il_14, il_15, il_16, il_32, il_35, il_40, il_41, il_42, il_43, il_44, il_45, il_46, il_48, il_57, il_58, il_59, il_60, il_99, il_104, il_115, il_116, il_119, il_126, il_133, il_255, il_256, il_512, il_931, il_1000, il_65536, bn0, bn1, bn2, bn3, bn4, bn5, bn6, bn7, bn8, bn9, bn10, bn11, bn12, bn13, bn14, bn15, nI_leI, nI_ltI, nI_eq, nI_clamp, nI_add, pk_mul, nI_lt0, ng_lt0, ng_ge0, ng_eqn, ng_neq, ng_len, ng_eq, sV_m1, sV_lt0, sV_ge0, if_true, if_false, Nat.le_refl, Nat.lt_irrefl, Nat.not_lt_zero, Nat.zero_le, not_true_eq_false, not_false_eq_true, false_and, true_and, and_true, and_false, true_or, or_true, false_or, or_false, reduceCtorEq, hh, hsx, e1, eS, bitCount_eq hS16, show 4 < fb_ct (bt S) 16 by omega]
          · obtain ⟨r1, e1⟩ := dp rr
            obtain ⟨r2, e2⟩ := ss r1
            refine ⟨r2, ?_⟩
            unfold J_X10_table J_X10_table_b27
            simp (disch := omega) only [↓reduceIte, nm_x, chk_nI, chz_0, chz_1, chz_b2, chn_nI, oi_1, oi_2, oi_m1, il_0, il_1, il_2, il_3, il_4, il_5, il_6, il_7, il_8, il_9, il_10, il_11, il_12, il_13, il_14, il_15, il_16, il_32, il_35, il_40, il_41, il_42, il_43, il_44, il_45, il_46, il_48, il_57, il_58, il_59, il_60, il_99, il_104, il_115, il_116, il_119, il_126, il_133, il_255, il_256, il_512, il_931, il_1000, il_65536, bn0, bn1, bn2, bn3, bn4, bn5, bn6, bn7, bn8, bn9, bn10, bn11, bn12, bn13, bn14, bn15, nI_leI, nI_ltI, nI_eq, nI_clamp, nI_add, pk_mul, nI_lt0, ng_lt0, ng_ge0, ng_eqn, ng_neq, ng_len, ng_eq, sV_m1, sV_lt0, sV_ge0, if_true, if_false, Nat.le_refl, Nat.lt_irrefl, Nat.not_lt_zero, Nat.zero_le, not_true_eq_false, not_false_eq_true, false_and, true_and, and_true, and_false, true_or, or_true, false_or, or_false, reduceCtorEq, hlt, hsm, e1, nI_ge0, e2, bitCount_eq hS16, h4]
      · have bw : ∀ kn, ∃ kn', J_X0_byWires kn c k w so (nI l) = some (-nI 15, kn') := fun kn => by
          obtain ⟨x, kn', e, h⟩ := X0_byWires hG hS hl kn
          rcases h with ⟨h, -⟩ | ⟨-, rfl⟩
          · exact absurd h hH
          · exact ⟨kn', e⟩
        have dp : ∀ rr, ∃ rr', J_X10_deep nw rr (nI l) = some (-nI 1, rr') := fun rr => by
          obtain ⟨x, rr', e, h⟩ := X10_deep hG hM hl16 rr
          rcases h with ⟨h, -⟩ | ⟨-, rfl⟩
          · exact absurd h hH
          · exact ⟨rr', e⟩
        refine ⟨-nI 15, fun kn => ?_, fun kn => ?_, fun rr => ?_⟩
        · obtain ⟨kn1, e1⟩ := bw kn
          refine ⟨kn1, ?_⟩
          unfold J_X9_table J_X9_table_b35 J_X9_hasTable J_X9_hasTable_b45 J_X9_hasTable_b46
          simp (disch := omega) only [↓reduceIte, nm_x, chk_nI, chz_0, chz_1, chz_b2, chn_nI, oi_1, oi_2, oi_m1, il_0, il_1, il_2, il_3, il_4, il_5, il_6, il_7, il_8, il_9, il_10, il_11, il_12, il_13, il_14, il_15, il_16, il_32, il_35, il_40, il_41, il_42, il_43, il_44, il_45, il_46, il_48, il_57, il_58, il_59, il_60, il_99, il_104, il_115, il_116, il_119, il_126, il_133, il_255, il_256, il_512, il_931, il_1000, il_65536, bn0, bn1, bn2, bn3, bn4, bn5, bn6, bn7, bn8, bn9, bn10, bn11, bn12, bn13, bn14, bn15, nI_leI, nI_ltI, nI_eq, nI_clamp, nI_add, pk_mul, nI_lt0, ng_lt0, ng_ge0, ng_eqn, ng_neq, ng_len, ng_eq, sV_m1, sV_lt0, sV_ge0, if_true, if_false, Nat.le_refl, Nat.lt_irrefl, Nat.not_lt_zero, Nat.zero_le, not_true_eq_false, not_false_eq_true, false_and, true_and, and_true, and_false, true_or, or_true, false_or, or_false, reduceCtorEq, hh, hsx, e1]
        · obtain ⟨kn1, e1⟩ := bw kn
          refine ⟨kn1, ?_⟩
          unfold J_X9_tableAgain J_X9_tableAgain_b47 J_X9_hasTable J_X9_hasTable_b45 J_X9_hasTable_b46
          simp (disch := omega) only [↓reduceIte, nm_x, chk_nI, chz_0, chz_1, chz_b2, chn_nI, oi_1, oi_2, oi_m1, il_0, il_1, il_2, il_3, il_4, il_5, il_6, il_7, il_8, il_9, il_10, il_11, il_12, il_13, il_14, il_15, il_16, il_32, il_35, il_40, il_41, il_42, il_43, il_44, il_45, il_46, il_48, il_57, il_58, il_59, il_60, il_99, il_104, il_115, il_116, il_119, il_126, il_133, il_255, il_256, il_512, il_931, il_1000, il_65536, bn0, bn1, bn2, bn3, bn4, bn5, bn6, bn7, bn8, bn9, bn10, bn11, bn12, bn13, bn14, bn15, nI_leI, nI_ltI, nI_eq, nI_clamp, nI_add, pk_mul, nI_lt0, ng_lt0, ng_ge0, ng_eqn, ng_neq, ng_len, ng_eq, sV_m1, sV_lt0, sV_ge0, if_true, if_false, Nat.le_refl, Nat.lt_irrefl, Nat.not_lt_zero, Nat.zero_le, not_true_eq_false, not_false_eq_true, false_and, true_and, and_true, and_false, true_or, or_true, false_or, or_false, reduceCtorEq, hh, hsx, e1]
        · obtain ⟨r1, e1⟩ := dp rr
          refine ⟨r1, ?_⟩
          unfold J_X10_table J_X10_table_b27
          simp (disch := omega) only [↓reduceIte, nm_x, chk_nI, chz_0, chz_1, chz_b2, chn_nI, oi_1, oi_2, oi_m1, il_0, il_1, il_2, il_3, il_4, il_5, il_6, il_7, il_8, il_9, il_10, il_11, il_12, il_13, il_14, il_15, il_16, il_32, il_35, il_40, il_41, il_42, il_43, il_44, il_45, il_46, il_48, il_57, il_58, il_59, il_60, il_99, il_104, il_115, il_116, il_119, il_126, il_133, il_255, il_256, il_512, il_931, il_1000, il_65536, bn0, bn1, bn2, bn3, bn4, bn5, bn6, bn7, bn8, bn9, bn10, bn11, bn12, bn13, bn14, bn15, nI_leI, nI_ltI, nI_eq, nI_clamp, nI_add, pk_mul, nI_lt0, ng_lt0, ng_ge0, ng_eqn, ng_neq, ng_len, ng_eq, sV_m1, sV_lt0, sV_ge0, if_true, if_false, Nat.le_refl, Nat.lt_irrefl, Nat.not_lt_zero, Nat.zero_le, not_true_eq_false, not_false_eq_true, false_and, true_and, and_true, and_false, true_or, or_true, false_or, or_false, reduceCtorEq, hlt, hsm, e1]
  obtain ⟨x, h1, h2, h3⟩ := key
  obtain ⟨kn', e1⟩ := h1 kn
  obtain ⟨kn2', e2⟩ := h2 kn2
  obtain ⟨rr', e3⟩ := h3 rr
  obtain ⟨rr2', e4⟩ := h3 rr2
  refine ⟨x, kn', kn2', rr', rr2', e1, e2, e3, ?_⟩
  unfold J_X10_tableAgain
  rw [e4, bn2]
end TableBoth

/-! WHEN ALL REPEATS, by the reference: three numbers a tick -/
def NR (g : Nat → Nat) (j : Nat) (a b c : Int32) : Prop := (∀ i, bt a i = (decide (i < j) && gw g i)) ∧ (∀ i, i < 32 → bt b i = (decide (i < 24) && (decide (i / 3 < j) && (GA g (i / 3) 7).testBit (i % 3)))) ∧ ∀ i, i < 32 → bt c i = (decide (i < 24) && (decide (i / 3 + 8 < j) && (GA g (i / 3 + 8) 7).testBit (i % 3)))
theorem b_nI (n i : Nat) (hi : i < 32) : bt (nI n) i = n.testBit i := by
  unfold bt nI
  show (BitVec.ofNat 32 n).getLsbD i = _
  rw [BitVec.getLsbD_ofNat]
  simp [hi]
theorem tb_big {f i : Nat} (hf : f < 8) (hi : 3 ≤ i) : f.testBit i = false := Nat.testBit_lt_two_pow (Nat.lt_of_lt_of_le hf (p2le (a := 3) hi))
theorem NR_eq {g g' : Nat → Nat} (hG : GV g) (hG' : GV g') (h0 : g' 0 = g 0) {a b c a' b' c' : Int32} (h : NR g (g 0) a b c) (h' : NR g' (g' 0) a' b' c') : (a = a' ∧ b = b' ∧ c = c') ↔ deq g g' := by
  have hn := hG.1
  have hz : ∀ l, l < 16 → ¬ l < g 0 → (GA g l 2 = 0 ∧ GA g l 7 = 0) ∧ (GA g' l 2 = 0 ∧ GA g' l 7 = 0) := fun l hl hln =>
    ⟨⟨hG.2.2.2.2.2 _ (by omega) (by omega), hG.2.2.2.2.2 _ (by omega) (by omega)⟩, ⟨hG'.2.2.2.2.2 _ (by omega) (by omega), hG'.2.2.2.2.2 _ (by omega) (by omega)⟩⟩
  constructor
  · rintro ⟨rfl, rfl, rfl⟩ l hl
    by_cases hln : l < g 0
    · constructor
      · have h1 := h.1 l
        have h2 := h'.1 l
        rw [h0, h1] at h2
        have e : gw g l = gw g' l := by simpa [hln] using h2
        rw [gw_n hG hl, gw_n hG' hl, e]
      · refine tb_small (GV_l hG hl).2.2.2.1 (GV_l hG' hl).2.2.2.1 fun j hj => ?_
        rcases Nat.lt_or_ge l 8 with q | q
        · have h1 := h.2.1 (3 * l + j) (by omega)
          have h2 := h'.2.1 (3 * l + j) (by omega)
          rw [h0, h1, show (3 * l + j) / 3 = l by omega, show (3 * l + j) % 3 = j by omega] at h2
          simpa [hln, show 3 * l + j < 24 by omega] using h2
        · have h1 := h.2.2 (3 * (l - 8) + j) (by omega)
          have h2 := h'.2.2 (3 * (l - 8) + j) (by omega)
          rw [h0, h1, show (3 * (l - 8) + j) / 3 + 8 = l by omega, show (3 * (l - 8) + j) % 3 = j by omega] at h2
          simpa [hln, show 3 * (l - 8) + j < 24 by omega] using h2
    · obtain ⟨⟨a1, a2⟩, a3, a4⟩ := hz l hl hln
      rw [a1, a2, a3, a4]
      exact ⟨rfl, rfl⟩
  · intro e
    refine ⟨b_ext fun i hi => ?_, b_ext fun i hi => ?_, b_ext fun i hi => ?_⟩
    · rw [h.1 i, h'.1 i, h0]
      rcases Nat.lt_or_ge i 16 with q | q
      · unfold gw; rw [(e i q).1]
      · rw [decide_eq_false (by omega)]; rfl
    · rw [h.2.1 i hi, h'.2.1 i hi, h0]
      rcases Nat.lt_or_ge i 24 with q | q
      · rw [(e (i / 3) (by omega)).2]
      · rw [decide_eq_false (by omega)]; rfl
    · rw [h.2.2 i hi, h'.2.2 i hi, h0]
      rcases Nat.lt_or_ge i 24 with q | q
      · rw [(e (i / 3 + 8) (by omega)).2]
      · rw [decide_eq_false (by omega)]; rfl
section Notes
variable {g : Nat → Nat} {nw : Nat → Int32}
theorem sh_found {f l : Nat} (hf : f < 8) (hl : l < 8) {i : Nat} (hi : i < 32) : bt (nI f <<< (nI (3 * l) &&& 31)) i = (decide (i < 24) && (decide (i / 3 = l) && f.testBit (i % 3))) := by
  rw [b_shl (3 * l) (by omega) _ hi, b_nI _ _ (by omega)]
  by_cases h : 3 * l ≤ i
  · rw [decide_eq_true h, Bool.true_and]
    by_cases h2 : i < 3 * l + 3
    · rw [show i - 3 * l = i % 3 by omega, decide_eq_true (show i < 24 by omega), decide_eq_true (show i / 3 = l by omega)]; rfl
    · rw [tb_big hf (by omega), decide_eq_false (show ¬ i / 3 = l by omega)]; simp
  · rw [decide_eq_false h, decide_eq_false (show ¬ i / 3 = l by omega)]; simp
theorem X10_notes_L (hG : GV g) (hM : MR g nw) {t : Nat} (ht : t < 257) : ∀ d nf j (gl lo up : Nat → Int32), j + d = g 0 → d < nf → NR g j (gl t) (lo t) (up t) → ∃ gl' lo' up', J_X10_notes_L23 nw (nI t) nf gl lo up (nI j) = some (gl', lo', up') ∧ NR g (g 0) (gl' t) (lo' t) (up' t) ∧ ∀ i, i ≠ t → gl' i = gl i ∧ lo' i = lo i ∧ up' i = up i := by
  have hn := hG.1
  intro d
  induction d with
  | zero =>
    intro nf j gl lo up hj hd hN
    obtain ⟨m, rfl, -⟩ := nf_of hd
    obtain rfl : j = g 0 := by omega
    refine ⟨gl, lo, up, ?_, hN, fun _ _ => ⟨rfl, rfl, rfl⟩⟩
    rw [J_X10_notes_L23]
    simp (disch := omega) only [↓reduceIte, nm_x, chk_nI, chz_0, chz_1, chz_b2, chn_nI, oi_1, oi_2, oi_m1, il_0, il_1, il_2, il_3, il_4, il_5, il_6, il_7, il_8, il_9, il_10, il_11, il_12, il_13, il_14, il_15, il_16, il_32, il_35, il_40, il_41, il_42, il_43, il_44, il_45, il_46, il_48, il_57, il_58, il_59, il_60, il_99, il_104, il_115, il_116, il_119, il_126, il_133, il_255, il_256, il_512, il_931, il_1000, il_65536, bn0, bn1, bn2, bn3, bn4, bn5, bn6, bn7, bn8, bn9, bn10, bn11, bn12, bn13, bn14, bn15, nI_leI, nI_ltI, nI_eq, nI_clamp, nI_add, pk_mul, nI_lt0, ng_lt0, ng_ge0, ng_eqn, ng_neq, ng_len, ng_eq, sV_m1, sV_lt0, sV_ge0, if_true, if_false, Nat.le_refl, Nat.lt_irrefl, Nat.not_lt_zero, Nat.zero_le, not_true_eq_false, not_false_eq_true, false_and, true_and, and_true, and_false, true_or, or_true, false_or, or_false, reduceCtorEq, hM 0 (by omega)]
  | succ d ih =>
    intro nf j gl lo up hj hd hN
    obtain ⟨m, rfl, hm⟩ := nf_of hd
    have hj16 : j < 16 := by omega
    have hl := GV_l hG hj16
    have h2 := X10_of hM hj16 (show 2 < 8 by omega)
    have h7 := X10_of hM hj16 (show 7 < 8 by omega)
    rw [J_X10_notes_L23]
    unfold J_X10_notes_b102
    simp (disch := omega) only [↓reduceIte, nm_x, chk_nI, chz_0, chz_1, chz_b2, chn_nI, oi_1, oi_2, oi_m1, il_0, il_1, il_2, il_3, il_4, il_5, il_6, il_7, il_8, il_9, il_10, il_11, il_12, il_13, il_14, il_15, il_16, il_32, il_35, il_40, il_41, il_42, il_43, il_44, il_45, il_46, il_48, il_57, il_58, il_59, il_60, il_99, il_104, il_115, il_116, il_119, il_126, il_133, il_255, il_256, il_512, il_931, il_1000, il_65536, bn0, bn1, bn2, bn3, bn4, bn5, bn6, bn7, bn8, bn9, bn10, bn11, bn12, bn13, bn14, bn15, nI_leI, nI_ltI, nI_eq, nI_clamp, nI_add, pk_mul, nI_lt0, ng_lt0, ng_ge0, ng_eqn, ng_neq, ng_len, ng_eq, sV_m1, sV_lt0, sV_ge0, if_true, if_false, Nat.le_refl, Nat.lt_irrefl, Nat.not_lt_zero, Nat.zero_le, not_true_eq_false, not_false_eq_true, false_and, true_and, and_true, and_false, true_or, or_true, false_or, or_false, reduceCtorEq, hM 0 (by omega), show ¬ g 0 ≤ j by omega, h2, h7]
    have hgl : ∀ i, bt (gl t ||| nI (GA g j 2) <<< (nI j &&& 31)) i = (decide (i < j + 1) && gw g i) := fun i => by
      rcases Nat.lt_or_ge i 32 with hi | hi
      · rw [b_or, hN.1 i, b_shl j (by omega) _ hi, b_nI _ _ (by omega)]
        by_cases e : i = j
        · subst e
          rw [Nat.sub_self]
          unfold gw
          rcases (show GA g i 2 = 0 ∨ GA g i 2 = 1 by omega) with e | e <;> rw [e] <;> simp
        · rw [← dlt e]
          by_cases e2 : j ≤ i
          · have : (GA g j 2).testBit (i - j) = false := Nat.testBit_lt_two_pow (Nat.lt_of_lt_of_le (show GA g j 2 < 2 ^ 1 by omega) (p2le (by omega)))
            rw [this]; simp
          · simp [e2]
      · rw [b_big hi, decide_eq_false (by omega)]; rfl
    by_cases h8 : 8 ≤ j
    · simp (disch := omega) only [↓reduceIte, nm_x, chk_nI, chz_0, chz_1, chz_b2, chn_nI, oi_1, oi_2, oi_m1, il_0, il_1, il_2, il_3, il_4, il_5, il_6, il_7, il_8, il_9, il_10, il_11, il_12, il_13, il_14, il_15, il_16, il_32, il_35, il_40, il_41, il_42, il_43, il_44, il_45, il_46, il_48, il_57, il_58, il_59, il_60, il_99, il_104, il_115, il_116, il_119, il_126, il_133, il_255, il_256, il_512, il_931, il_1000, il_65536, bn0, bn1, bn2, bn3, bn4, bn5, bn6, bn7, bn8, bn9, bn10, bn11, bn12, bn13, bn14, bn15, nI_leI, nI_ltI, nI_eq, nI_clamp, nI_add, pk_mul, nI_lt0, ng_lt0, ng_ge0, ng_eqn, ng_neq, ng_len, ng_eq, sV_m1, sV_lt0, sV_ge0, if_true, if_false, Nat.le_refl, Nat.lt_irrefl, Nat.not_lt_zero, Nat.zero_le, not_true_eq_false, not_false_eq_true, false_and, true_and, and_true, and_false, true_or, or_true, false_or, or_false, reduceCtorEq, h8, pk_sub]
      obtain ⟨gl', lo', up', e1, e2, e3⟩ := ih m (j + 1) (upd gl t (gl t ||| nI (GA g j 2) <<< (nI j &&& 31))) lo (upd up t (up t ||| nI (GA g j 7) <<< (nI (3 * (j - 8)) &&& 31))) (by omega) hm ⟨fun i => by unfold upd; rw [if_pos rfl]; exact hgl i, fun i hi => by
        rw [hN.2.1 i hi]
        rcases Nat.lt_or_ge i 24 with q | q
        · rw [decide_eq_true (show i / 3 < j by omega), decide_eq_true (show i / 3 < j + 1 by omega)]
        · rw [decide_eq_false (show ¬ i < 24 by omega)]; rfl, fun i hi => by
        unfold upd
        rw [if_pos rfl, b_or, hN.2.2 i hi, sh_found hl.2.2.2.1 (by omega) hi]
        rcases Nat.lt_or_ge i 24 with q | q
        · rw [decide_eq_true q]
          by_cases e : i / 3 + 8 = j
          · rw [show i / 3 = j - 8 by omega, show j - 8 + 8 = j by omega]; simp
          · rw [dlt e, decide_eq_false (show ¬ i / 3 = j - 8 by omega)]; simp
        · rw [decide_eq_false (show ¬ i < 24 by omega)]; rfl⟩
      exact ⟨gl', lo', up', e1, e2, fun i hi => by
        obtain ⟨a1, a2, a3⟩ := e3 i hi
        unfold upd at a1 a3
        rw [if_neg hi] at a1 a3
        exact ⟨a1, a2, a3⟩⟩
    · simp (disch := omega) only [↓reduceIte, nm_x, chk_nI, chz_0, chz_1, chz_b2, chn_nI, oi_1, oi_2, oi_m1, il_0, il_1, il_2, il_3, il_4, il_5, il_6, il_7, il_8, il_9, il_10, il_11, il_12, il_13, il_14, il_15, il_16, il_32, il_35, il_40, il_41, il_42, il_43, il_44, il_45, il_46, il_48, il_57, il_58, il_59, il_60, il_99, il_104, il_115, il_116, il_119, il_126, il_133, il_255, il_256, il_512, il_931, il_1000, il_65536, bn0, bn1, bn2, bn3, bn4, bn5, bn6, bn7, bn8, bn9, bn10, bn11, bn12, bn13, bn14, bn15, nI_leI, nI_ltI, nI_eq, nI_clamp, nI_add, pk_mul, nI_lt0, ng_lt0, ng_ge0, ng_eqn, ng_neq, ng_len, ng_eq, sV_m1, sV_lt0, sV_ge0, if_true, if_false, Nat.le_refl, Nat.lt_irrefl, Nat.not_lt_zero, Nat.zero_le, not_true_eq_false, not_false_eq_true, false_and, true_and, and_true, and_false, true_or, or_true, false_or, or_false, reduceCtorEq, h8]
      obtain ⟨gl', lo', up', e1, e2, e3⟩ := ih m (j + 1) (upd gl t (gl t ||| nI (GA g j 2) <<< (nI j &&& 31))) (upd lo t (lo t ||| nI (GA g j 7) <<< (nI (3 * j) &&& 31))) up (by omega) hm ⟨fun i => by unfold upd; rw [if_pos rfl]; exact hgl i, fun i hi => by
        unfold upd
        rw [if_pos rfl, b_or, hN.2.1 i hi, sh_found hl.2.2.2.1 (by omega) hi]
        rcases Nat.lt_or_ge i 24 with q | q
        · rw [decide_eq_true q]
          by_cases e : i / 3 = j
          · rw [e]; simp
          · rw [dlt e, decide_eq_false e]; simp
        · rw [decide_eq_false (show ¬ i < 24 by omega)]; rfl, fun i hi => by
        rw [hN.2.2 i hi]
        rcases Nat.lt_or_ge i 24 with q | q
        · rw [decide_eq_false (show ¬ i / 3 + 8 < j by omega), decide_eq_false (show ¬ i / 3 + 8 < j + 1 by omega)]
        · rw [decide_eq_false (show ¬ i < 24 by omega)]; rfl⟩
      exact ⟨gl', lo', up', e1, e2, fun i hi => by
        obtain ⟨a1, a2, a3⟩ := e3 i hi
        unfold upd at a1 a2
        rw [if_neg hi] at a1 a2
        exact ⟨a1, a2, a3⟩⟩
theorem X10_notes (hG : GV g) (hM : MR g nw) {t : Nat} (ht : t < 257) (gl lo up : Nat → Int32) : ∃ gl' lo' up', J_X10_notes nw gl lo up (nI t) = some (gl', lo', up') ∧ NR g (g 0) (gl' t) (lo' t) (up' t) ∧ ∀ i, i ≠ t → gl' i = gl i ∧ lo' i = lo i ∧ up' i = up i := by
  unfold J_X10_notes
  simp (disch := omega) only [↓reduceIte, nm_x, chk_nI, chz_0, chz_1, chz_b2, chn_nI, oi_1, oi_2, oi_m1, il_0, il_1, il_2, il_3, il_4, il_5, il_6, il_7, il_8, il_9, il_10, il_11, il_12, il_13, il_14, il_15, il_16, il_32, il_35, il_40, il_41, il_42, il_43, il_44, il_45, il_46, il_48, il_57, il_58, il_59, il_60, il_99, il_104, il_115, il_116, il_119, il_126, il_133, il_255, il_256, il_512, il_931, il_1000, il_65536, bn0, bn1, bn2, bn3, bn4, bn5, bn6, bn7, bn8, bn9, bn10, bn11, bn12, bn13, bn14, bn15, nI_leI, nI_ltI, nI_eq, nI_clamp, nI_add, pk_mul, nI_lt0, ng_lt0, ng_ge0, ng_eqn, ng_neq, ng_len, ng_eq, sV_m1, sV_lt0, sV_ge0, if_true, if_false, Nat.le_refl, Nat.lt_irrefl, Nat.not_lt_zero, Nat.zero_le, not_true_eq_false, not_false_eq_true, false_and, true_and, and_true, and_false, true_or, or_true, false_or, or_false, reduceCtorEq]
  obtain ⟨gl', lo', up', e1, e2, e3⟩ := X10_notes_L hG hM ht (g 0) FU 0 (upd gl t (nI 0)) (upd lo t (nI 0)) (upd up t (nI 0)) (by omega) (by have := hG.1; unfold FU; omega) ⟨fun i => by unfold upd; rw [if_pos rfl, b_n0]; simp, fun i hi => by unfold upd; rw [if_pos rfl, b_n0]; simp, fun i hi => by unfold upd; rw [if_pos rfl, b_n0]; simp⟩
  exact ⟨gl', lo', up', e1, e2, fun i hi => by
    obtain ⟨a1, a2, a3⟩ := e3 i hi
    unfold upd at a1 a2 a3
    rw [if_neg hi] at a1 a2 a3
    exact ⟨a1, a2, a3⟩⟩
/-- the notes of the first t ticks -/
def NT (g : Nat → Nat) (t : Nat) (gl lo up : Nat → Int32) : Prop := ∀ i, i < t → NR (tki g i) ((tki g i) 0) (gl i) (lo i) (up i)
theorem X10_period_L38 (hG : GV g) (k14 : (Nat → Int32) → (Nat → Int32) → (Nat → Int32) → (Nat → Int32) → (Nat → Int32) → (Nat → Int32) → Int32 → Int32 → Option (Int32 × (Nat → Int32) × (Nat → Int32) × (Nat → Int32) × (Nat → Int32) × (Nat → Int32) × (Nat → Int32))) (nw th fi : Nat → Int32) {t : Nat} (ht : t ≤ 256) {gl lo up : Nat → Int32} (hN : NT g (t + 1) gl lo up) : ∀ d nf j, j + d = t → d < nf → (∀ i, i < j → ¬ EQ g i t) → (∃ i, i < t ∧ EQ g i t ∧ J_X10_period_L38 k14 nf nw th fi gl lo up (-nI 15) (nI t) (nI j) = k14 nw th fi gl lo up (nI (t - i)) (nI (t + 1))) ∨ ((∀ i, i < t → ¬ EQ g i t) ∧ J_X10_period_L38 k14 nf nw th fi gl lo up (-nI 15) (nI t) (nI j) = k14 nw th fi gl lo up (-nI 15) (nI (t + 1))) := by
  intro d
  induction d with
  | zero =>
    intro nf j hj hd hno
    obtain ⟨m, rfl, -⟩ := nf_of hd
    obtain rfl : j = t := by omega
    refine Or.inr ⟨hno, ?_⟩
    rw [J_X10_period_L38]
    unfold J_X10_period_b107
    simp (disch := omega) only [↓reduceIte, nm_x, chk_nI, chz_0, chz_1, chz_b2, chn_nI, oi_1, oi_2, oi_m1, il_0, il_1, il_2, il_3, il_4, il_5, il_6, il_7, il_8, il_9, il_10, il_11, il_12, il_13, il_14, il_15, il_16, il_32, il_35, il_40, il_41, il_42, il_43, il_44, il_45, il_46, il_48, il_57, il_58, il_59, il_60, il_99, il_104, il_115, il_116, il_119, il_126, il_133, il_255, il_256, il_512, il_931, il_1000, il_65536, bn0, bn1, bn2, bn3, bn4, bn5, bn6, bn7, bn8, bn9, bn10, bn11, bn12, bn13, bn14, bn15, nI_leI, nI_ltI, nI_eq, nI_clamp, nI_add, pk_mul, nI_lt0, ng_lt0, ng_ge0, ng_eqn, ng_neq, ng_len, ng_eq, sV_m1, sV_lt0, sV_ge0, if_true, if_false, Nat.le_refl, Nat.lt_irrefl, Nat.not_lt_zero, Nat.zero_le, not_true_eq_false, not_false_eq_true, false_and, true_and, and_true, and_false, true_or, or_true, false_or, or_false, reduceCtorEq]
  | succ d ih =>
    intro nf j hj hd hno
    obtain ⟨m, rfl, hm⟩ := nf_of hd
    have heq := NR_eq (GV_tki hG j) (GV_tki hG t) (((tki_SEq g t).1).trans ((tki_SEq g j).1).symm) (hN j (by omega)) (hN t (by omega))
    rw [J_X10_period_L38]
    unfold J_X10_period_b101
    simp (disch := omega) only [↓reduceIte, nm_x, chk_nI, chz_0, chz_1, chz_b2, chn_nI, oi_1, oi_2, oi_m1, il_0, il_1, il_2, il_3, il_4, il_5, il_6, il_7, il_8, il_9, il_10, il_11, il_12, il_13, il_14, il_15, il_16, il_32, il_35, il_40, il_41, il_42, il_43, il_44, il_45, il_46, il_48, il_57, il_58, il_59, il_60, il_99, il_104, il_115, il_116, il_119, il_126, il_133, il_255, il_256, il_512, il_931, il_1000, il_65536, bn0, bn1, bn2, bn3, bn4, bn5, bn6, bn7, bn8, bn9, bn10, bn11, bn12, bn13, bn14, bn15, nI_leI, nI_ltI, nI_eq, nI_clamp, nI_add, pk_mul, nI_lt0, ng_lt0, ng_ge0, ng_eqn, ng_neq, ng_len, ng_eq, sV_m1, sV_lt0, sV_ge0, if_true, if_false, Nat.le_refl, Nat.lt_irrefl, Nat.not_lt_zero, Nat.zero_le, not_true_eq_false, not_false_eq_true, false_and, true_and, and_true, and_false, true_or, or_true, false_or, or_false, reduceCtorEq, show ¬ t ≤ j by omega]
    have next : ¬ EQ g j t → (∃ i, i < t ∧ EQ g i t ∧ J_X10_period_L38 k14 m nw th fi gl lo up (-nI 15) (nI t) (nI (j + 1)) = k14 nw th fi gl lo up (nI (t - i)) (nI (t + 1))) ∨ ((∀ i, i < t → ¬ EQ g i t) ∧ J_X10_period_L38 k14 m nw th fi gl lo up (-nI 15) (nI t) (nI (j + 1)) = k14 nw th fi gl lo up (-nI 15) (nI (t + 1))) := fun h => ih m (j + 1) (by omega) hm fun i hi => by
      rcases Nat.lt_or_ge i j with a | a
      · exact hno i a
      · obtain rfl : i = j := by omega
        exact h
    by_cases q1 : gl j = gl t
    · rw [if_pos q1]
      by_cases q2 : lo j = lo t
      · rw [if_pos q2]
        by_cases q3 : up j = up t
        · rw [if_pos q3, pk_sub (by omega)]
          have hE : EQ g j t := heq.mp ⟨q1, q2, q3⟩
          refine Or.inl ⟨j, by omega, hE, ?_⟩
          obtain ⟨m', rfl⟩ : ∃ m', m = m' + 1 := ⟨m - 1, by omega⟩
          rw [J_X10_period_L38]
          unfold J_X10_period_b107
          simp (disch := omega) only [↓reduceIte, nm_x, chk_nI, chz_0, chz_1, chz_b2, chn_nI, oi_1, oi_2, oi_m1, il_0, il_1, il_2, il_3, il_4, il_5, il_6, il_7, il_8, il_9, il_10, il_11, il_12, il_13, il_14, il_15, il_16, il_32, il_35, il_40, il_41, il_42, il_43, il_44, il_45, il_46, il_48, il_57, il_58, il_59, il_60, il_99, il_104, il_115, il_116, il_119, il_126, il_133, il_255, il_256, il_512, il_931, il_1000, il_65536, bn0, bn1, bn2, bn3, bn4, bn5, bn6, bn7, bn8, bn9, bn10, bn11, bn12, bn13, bn14, bn15, nI_leI, nI_ltI, nI_eq, nI_clamp, nI_add, pk_mul, nI_lt0, ng_lt0, ng_ge0, ng_eqn, ng_neq, ng_len, ng_eq, sV_m1, sV_lt0, sV_ge0, if_true, if_false, Nat.le_refl, Nat.lt_irrefl, Nat.not_lt_zero, Nat.zero_le, not_true_eq_false, not_false_eq_true, false_and, true_and, and_true, and_false, true_or, or_true, false_or, or_false, reduceCtorEq, nI_ge0]
          by_cases q : t ≤ j + 1
          · rw [if_pos q]
          · rw [if_neg q]
        · rw [if_neg q3]
          exact next fun h => q3 (heq.mpr h).2.2
      · rw [if_neg q2]
        exact next fun h => q2 (heq.mpr h).2.1
    · rw [if_neg q1]
      exact next fun h => q1 (heq.mpr h).1
theorem X10_period_L (hG : GV g) {th : Nat → Int32} (hT : MR g th) : ∀ d nf t (nw fi gl lo up : Nat → Int32), t + d = 256 → d + 1 < nf → MR (tki g t) nw → NT g (t + 1) gl lo up → (∀ t', t' ≤ t → ∀ k', k' < t' → ¬ EQ g k' t') → ∃ x nw' fi' gl' lo' up', J_X10_period_L14 nf nw th fi gl lo up (-nI 15) (nI (t + 1)) = some (x, nw', th, fi', gl', lo', up') ∧ MR g nw' ∧ PR g x := by
  intro d
  induction d with
  | zero =>
    intro nf t nw fi gl lo up ht hd hM hN hno
    obtain ⟨m, rfl, -⟩ := nf_of hd
    obtain rfl : t = 256 := by omega
    obtain ⟨nw2, e1, h1⟩ := X10_thinksNoMore th nw
    refine ⟨_, nw2, fi, gl, lo, up, ?_, MR_copy h1 hT, Or.inr ⟨fun t ht => hno t ht, rfl⟩⟩
    rw [J_X10_period_L14]
    unfold J_X10_period_b113
    simp (disch := omega) only [↓reduceIte, nm_x, chk_nI, chz_0, chz_1, chz_b2, chn_nI, oi_1, oi_2, oi_m1, il_0, il_1, il_2, il_3, il_4, il_5, il_6, il_7, il_8, il_9, il_10, il_11, il_12, il_13, il_14, il_15, il_16, il_32, il_35, il_40, il_41, il_42, il_43, il_44, il_45, il_46, il_48, il_57, il_58, il_59, il_60, il_99, il_104, il_115, il_116, il_119, il_126, il_133, il_255, il_256, il_512, il_931, il_1000, il_65536, bn0, bn1, bn2, bn3, bn4, bn5, bn6, bn7, bn8, bn9, bn10, bn11, bn12, bn13, bn14, bn15, nI_leI, nI_ltI, nI_eq, nI_clamp, nI_add, pk_mul, nI_lt0, ng_lt0, ng_ge0, ng_eqn, ng_neq, ng_len, ng_eq, sV_m1, sV_lt0, sV_ge0, if_true, if_false, Nat.le_refl, Nat.lt_irrefl, Nat.not_lt_zero, Nat.zero_le, not_true_eq_false, not_false_eq_true, false_and, true_and, and_true, and_false, true_or, or_true, false_or, or_false, reduceCtorEq, show 256 < 256 + 1 by omega, e1]
  | succ d ih =>
    intro nf t nw fi gl lo up ht hd hM hN hno
    obtain ⟨m, rfl, hm⟩ := nf_of hd
    obtain ⟨nw1, fi1, e1, h1⟩ := X10_goes (GV_tki hG t) hM fi
    obtain ⟨gl', lo', up', e2, h2, h3⟩ := X10_notes (GV_tki hG (t + 1)) (show MR (tki g (t + 1)) nw1 from h1) (t := t + 1) (by omega) gl lo up
    have hN' : NT g (t + 2) gl' lo' up' := fun i hi => by
      by_cases e : i = t + 1
      · subst e; exact h2
      · obtain ⟨a1, a2, a3⟩ := h3 i e
        rw [a1, a2, a3]
        exact hN i (by omega)
    rw [J_X10_period_L14]
    simp (disch := omega) only [↓reduceIte, nm_x, chk_nI, chz_0, chz_1, chz_b2, chn_nI, oi_1, oi_2, oi_m1, il_0, il_1, il_2, il_3, il_4, il_5, il_6, il_7, il_8, il_9, il_10, il_11, il_12, il_13, il_14, il_15, il_16, il_32, il_35, il_40, il_41, il_42, il_43, il_44, il_45, il_46, il_48, il_57, il_58, il_59, il_60, il_99, il_104, il_115, il_116, il_119, il_126, il_133, il_255, il_256, il_512, il_931, il_1000, il_65536, bn0, bn1, bn2, bn3, bn4, bn5, bn6, bn7, bn8, bn9, bn10, bn11, bn12, bn13, bn14, bn15, nI_leI, nI_ltI, nI_eq, nI_clamp, nI_add, pk_mul, nI_lt0, ng_lt0, ng_ge0, ng_eqn, ng_neq, ng_len, ng_eq, sV_m1, sV_lt0, sV_ge0, if_true, if_false, Nat.le_refl, Nat.lt_irrefl, Nat.not_lt_zero, Nat.zero_le, not_true_eq_false, not_false_eq_true, false_and, true_and, and_true, and_false, true_or, or_true, false_or, or_false, reduceCtorEq, show ¬ 256 < t + 1 by omega, e1, e2]
    have hL := X10_period_L38 hG (fun z0 z1 z2 z3 z4 z5 z6 z7 => J_X10_period_L14 m z0 z1 z2 z3 z4 z5 z6 z7) nw1 th fi1 (show t + 1 ≤ 256 by omega) hN' (t + 1) FU 0 (by omega) (by unfold FU; omega) (fun i hi => absurd hi (Nat.not_lt_zero i))
    have hno1 : ∀ t', t' < t + 1 → ∀ k', k' < t' → ¬ EQ g k' t' := fun t' h => hno t' (by omega)
    rcases hL with ⟨i, hi, he, e3⟩ | ⟨hn, e3⟩
    · rw [e3]
      obtain ⟨m', rfl⟩ : ∃ m', m = m' + 1 := ⟨m - 1, by omega⟩
      obtain ⟨nw2, e4, h4⟩ := X10_thinksNoMore th nw1
      refine ⟨nI (t + 1 - i), nw2, fi1, gl', lo', up', ?_, MR_copy h4 hT, Or.inl ⟨t + 1, i, by omega, hi, he, hno1, rfl⟩⟩
      rw [J_X10_period_L14]
      unfold J_X10_period_b113
      simp (disch := omega) only [↓reduceIte, nm_x, chk_nI, chz_0, chz_1, chz_b2, chn_nI, oi_1, oi_2, oi_m1, il_0, il_1, il_2, il_3, il_4, il_5, il_6, il_7, il_8, il_9, il_10, il_11, il_12, il_13, il_14, il_15, il_16, il_32, il_35, il_40, il_41, il_42, il_43, il_44, il_45, il_46, il_48, il_57, il_58, il_59, il_60, il_99, il_104, il_115, il_116, il_119, il_126, il_133, il_255, il_256, il_512, il_931, il_1000, il_65536, bn0, bn1, bn2, bn3, bn4, bn5, bn6, bn7, bn8, bn9, bn10, bn11, bn12, bn13, bn14, bn15, nI_leI, nI_ltI, nI_eq, nI_clamp, nI_add, pk_mul, nI_lt0, ng_lt0, ng_ge0, ng_eqn, ng_neq, ng_len, ng_eq, sV_m1, sV_lt0, sV_ge0, if_true, if_false, Nat.le_refl, Nat.lt_irrefl, Nat.not_lt_zero, Nat.zero_le, not_true_eq_false, not_false_eq_true, false_and, true_and, and_true, and_false, true_or, or_true, false_or, or_false, reduceCtorEq, nI_ge0, e4]
      by_cases q : 256 < t + 1 + 1
      · rw [if_pos q]
      · rw [if_neg q]
    · rw [e3]
      refine ih m (t + 1) nw1 fi1 gl' lo' up' (by omega) (by omega) h1 hN' fun t' ht' k' hk' => ?_
      rcases Nat.lt_or_ge t' (t + 1) with a | a
      · exact hno t' (by omega) k' hk'
      · obtain rfl : t' = t + 1 := by omega
        exact hn k' hk'
theorem X10_period (hG : GV g) (hM : MR g nw) (th fi gl lo up : Nat → Int32) : ∃ x nw' th' fi' gl' lo' up', J_X10_period nw th fi gl lo up = some (x, nw', th', fi', gl', lo', up') ∧ MR g nw' ∧ PR g x := by
  obtain ⟨th1, e1, h1⟩ := X10_thinks nw th
  obtain ⟨gl1, lo1, up1, e2, h2, -⟩ := X10_notes hG hM (t := 0) (by omega) gl lo up
  obtain ⟨x, nw', fi', gl', lo', up', e3, h3, h4⟩ := X10_period_L hG (MR_copy h1 hM) 256 FU 0 nw fi gl1 lo1 up1 rfl (by unfold FU; omega) hM (fun i hi => by
    obtain rfl : i = 0 := by omega
    exact h2) (fun t' h k' hk' => by omega)
  refine ⟨x, nw', th1, fi', gl', lo', up', ?_, h3, h4⟩
  unfold J_X10_period
  simp only [e1, bn1, il_0, e2, bn3, il_15, il_1]
  exact e3
end Notes

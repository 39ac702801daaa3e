/-! p35: THE CHANGES THEMSELVES, each case by name -/
section Inner
variable {g : Nat → Nat} {B n : Nat} {c al ti tc se rc v1 v2 v3 : Int32} {st : Int64} {k w so ch rn rd : Nat → Int32}
theorem OUT_neg {xc xm an : Int32} {same : Prop} {n : Nat} (h : OUT xc xm an same n) : xc < 0 → same := by
  intro hx
  rcases h with ⟨a, ha, rfl, -, -⟩ | ⟨hs, -⟩
  · exact absurd hx (nI_pos ha)
  · exact hs
theorem hang_any (hG : GW g B) (hC : CR g c st al ti tc se k w so ch) (hR : RC n rc) (v1 v2 : Int32) : ∃ g' n' x c' k' w' rc' rn' rd', J_X9_hangUp c k w rc rn rd v1 v2 = some (x, c', k', w', rc', rn', rd') ∧ CR g' c' st al ti tc se k' w' so ch ∧ GW g' B ∧ RC n' rc' ∧ (x < 0 → g' = g) := by
  obtain ⟨g', n', xc, c', k', w', rc', rn', rd', xm, wh', an', nw', wy', mo', e1, -, hC', -, hG', hR', hO⟩ := hang_both hG hC (MR_O g) (RC_RR (rn := rn) (rd := rd) hR) 0 v1 v2
  exact ⟨g', n', xc, c', k', w', rc', rn', rd', e1, hC', hG', RR_RC hR', OUT_neg hO⟩
theorem wire_any (hG : GW g B) (hC : CR g c st al ti tc se k w so ch) (hR : RC n rc) (v1 v2 v3 : Int32) : ∃ g' n' x so' rc' rn' rd', J_X9_putWire c al k so rc rn rd v1 v2 v3 = some (x, so', rc', rn', rd') ∧ CR g' c st al ti tc se k w so' ch ∧ GW g' B ∧ RC n' rc' ∧ (x < 0 → g' = g) := by
  obtain ⟨g', n', xc, so', rc', rn', rd', xm, wh', an', nw', sp', wy', mo', e1, -, hC', -, hG', hR', hO⟩ := wire_both hG hC (MR_O g) (RC_RR (rn := rn) (rd := rd) hR) 0 v1 v2 v3 (fun _ => 0)
  exact ⟨g', n', xc, so', rc', rn', rd', e1, hC', hG', RR_RC hR', OUT_neg hO⟩
theorem cut_any (hG : GW g B) (hC : CR g c st al ti tc se k w so ch) (hR : RC n rc) (v1 v2 : Int32) : ∃ g' n' x so' rc' rn' rd', J_X9_cutWire c k so rc rn rd v1 v2 = some (x, so', rc', rn', rd') ∧ CR g' c st al ti tc se k w so' ch ∧ GW g' B ∧ RC n' rc' ∧ (x < 0 → g' = g) := by
  obtain ⟨g', n', xc, so', rc', rn', rd', xm, wh', an', nw', wy', mo', e1, -, hC', -, hG', hR', hO⟩ := cut_both hG hC (MR_O g) (RC_RR (rn := rn) (rd := rd) hR) 0 v1 v2
  exact ⟨g', n', xc, so', rc', rn', rd', e1, hC', hG', RR_RC hR', OUT_neg hO⟩
theorem set_any (hG : GW g B) (hC : CR g c st al ti tc se k w so ch) (hR : RC n rc) (v1 : Int32) {b : Nat} (hb : b ≤ 1) : ∃ g' n' x st' se' ch' rc' rn' rd', J_X9_setSwitch c st se k ch rc rn rd v1 (nI b) = some (x, st', se', ch', rc', rn', rd') ∧ CR g' c st' al ti tc se' k w so ch' ∧ GW g' (B + 1) ∧ RC n' rc' ∧ (x < 0 → g' = g) := by
  obtain ⟨g', n', xc, st', se', ch', rc', rn', rd', xm, wh', an', nw', wy', mo', e1, -, hC', -, hG', hR', hO⟩ := set_both hG hC (MR_O g) (RC_RR (rn := rn) (rd := rd) hR) 0 v1 hb
  exact ⟨g', n', xc, st', se', ch', rc', rn', rd', e1, hC', hG', RR_RC hR', OUT_neg hO⟩
theorem tick_any (hG : GW g B) (hC : CR g c st al ti tc se k w so ch) (v1 : Int32) : ∃ g' x st' ti' tc' ch', J_X9_letGoBy c st ti tc k w so ch v1 = some (x, st', ti', tc', ch') ∧ CR g' c st' al ti' tc' se k w so ch' ∧ GW g' (B + 1584) ∧ (x < 0 → g' = g) := by
  obtain ⟨g', xc, st', ti', tc', ch', xm, an', nw', fi', e1, -, hC', -, hG', hO⟩ := tick_both hG hC (MR_O g) 0 v1 (fun _ => 0) 0
  exact ⟨g', xc, st', ti', tc', ch', e1, hC', hG', OUT_neg hO⟩
/-! hang, by cases -/
theorem hang_bad (hv : (v1 < 0 ∨ nI 6 < v1) ∨ (v2 < nI 1 ∨ nI 4 < v2)) : J_X9_hangUp c k w rc rn rd v1 v2 = some (-nI 12, c, k, w, rc, rn, rd) := by
  unfold J_X9_hangUp J_X9_hangUp_b20
  by_cases a1 : v1 < 0
  · rw [if_pos a1, il_12]
  · rw [if_neg a1]
    by_cases a2 : (6 : Int32) < v1
    · rw [if_pos a2, il_12]
    · rw [if_neg a2]
      by_cases a3 : v2 < 1
      · rw [if_pos a3, il_12]
      · have h4 : nI 4 < v2 := by
          rcases hv with (h | h) | (h | h)
          · exact absurd h a1
          · exact absurd h a2
          · exact absurd h a3
          · exact h
        rw [if_neg a3, if_neg (show ¬ v2 ≤ (4 : Int32) from fun h => absurd h (fa_of_lt h4).2.1), il_12]
theorem hang_full (hC : CR g c st al ti tc se k w so ch) {a b : Nat} (ha : a ≤ 6) (a3 : 1 ≤ b) (hb : b ≤ 4) (h16 : g 0 = 16) : J_X9_hangUp c k w rc rn rd (nI a) (nI b) = some (-nI 14, c, k, w, nI 1, upd rn 0 (nI 1), upd rd 0 (nI 16)) := by
  have hc := hC.1.1
  unfold J_X9_hangUp J_X9_hangUp_b50 J_X2_add J_X2_add_b15
  rw [hc, h16]
  simp (disch := omega) only [↓reduceIte, nm_x, chk_nI, chz_0, chz_1, chz_b2, chn_nI, oi_1, oi_2, oi_m1, il_0, il_1, il_2, il_3, il_4, il_5, il_6, il_7, il_8, il_9, il_10, il_11, il_12, il_13, il_14, il_15, il_16, il_32, il_35, il_40, il_41, il_42, il_43, il_44, il_45, il_46, il_48, il_57, il_58, il_59, il_60, il_99, il_104, il_115, il_116, il_119, il_126, il_133, il_255, il_256, il_512, il_931, il_1000, il_65536, bn0, bn1, bn2, bn3, bn4, bn5, bn6, bn7, bn8, bn9, bn10, bn11, bn12, bn13, bn14, bn15, nI_leI, nI_ltI, nI_eq, nI_clamp, nI_add, pk_mul, nI_lt0, ng_lt0, ng_ge0, ng_eqn, ng_neq, ng_len, ng_eq, sV_m1, sV_lt0, sV_ge0, if_true, if_false, Nat.le_refl, Nat.lt_irrefl, Nat.not_lt_zero, Nat.zero_le, not_true_eq_false, not_false_eq_true, false_and, true_and, and_true, and_false, true_or, or_true, false_or, or_false, reduceCtorEq, show ¬ 6 < a by omega, show ¬ b < 1 by omega, hb, refuse_c]
theorem hang_ok (hG : GW g B) (hC : CR g c st al ti tc se k w so ch) {a b : Nat} (ha : a ≤ 6) (a3 : 1 ≤ b) (hb : b ≤ 4) (hn16 : g 0 < 16) : ∃ c' k' w', J_X9_hangUp c k w rc rn rd (nI a) (nI b) = some (nI (g 0), c', k', w', rc, rn, rd) ∧ CR (hgn g a b) c' st al ti tc se k' w' so ch ∧ GW (hgn g a b) B := by
  have hc := hC.1.1
  have e1 : J_X9_hangUp c k w rc rn rd (nI a) (nI b) = some (nI (g 0), nI (g 0 + 1), upd k (g 0) (nI a), upd w (g 0) (nI b), rc, rn, rd) := by
    unfold J_X9_hangUp J_X9_hangUp_b50 J_X2_add
    rw [hc]
    simp (disch := omega) only [↓reduceIte, nm_x, chk_nI, chz_0, chz_1, chz_b2, chn_nI, oi_1, oi_2, oi_m1, il_0, il_1, il_2, il_3, il_4, il_5, il_6, il_7, il_8, il_9, il_10, il_11, il_12, il_13, il_14, il_15, il_16, il_32, il_35, il_40, il_41, il_42, il_43, il_44, il_45, il_46, il_48, il_57, il_58, il_59, il_60, il_99, il_104, il_115, il_116, il_119, il_126, il_133, il_255, il_256, il_512, il_931, il_1000, il_65536, bn0, bn1, bn2, bn3, bn4, bn5, bn6, bn7, bn8, bn9, bn10, bn11, bn12, bn13, bn14, bn15, nI_leI, nI_ltI, nI_eq, nI_clamp, nI_add, pk_mul, nI_lt0, ng_lt0, ng_ge0, ng_eqn, ng_neq, ng_len, ng_eq, sV_m1, sV_lt0, sV_ge0, if_true, if_false, Nat.le_refl, Nat.lt_irrefl, Nat.not_lt_zero, Nat.zero_le, not_true_eq_false, not_false_eq_true, false_and, true_and, and_true, and_false, true_or, or_true, false_or, or_false, reduceCtorEq, show ¬ 6 < a by omega, show ¬ b < 1 by omega, hb, hn16]
  obtain ⟨hS, hE, h4, h5, h6, h7, h8⟩ := hC
  refine ⟨_, _, _, e1, ⟨⟨rfl, fun l hl => ?_, fun l hl => ?_, fun l p hl hp => ?_⟩, ⟨fun l hl => ?_, fun l j hl hj => ?_⟩, fun l hl => ?_, ?_, ?_, ?_, ?_⟩, GW_hgn hG hn16 ha a3 hb⟩
  · rw [hgn_GA g a b (by omega)]
    unfold upd
    by_cases e : l = g 0
    · rw [if_pos e, if_pos ⟨e, rfl⟩]
    · rw [if_neg e, if_neg (by omega), if_neg (by omega)]; exact hS.2.1 l hl
  · rw [hgn_GA g a b (by omega), if_neg (by omega)]
    unfold upd
    by_cases e : l = g 0
    · rw [if_pos e, if_pos ⟨e, rfl⟩]
    · rw [if_neg e, if_neg (by omega)]; exact hS.2.2.1 l hl
  · rw [show src (hgn g a b) l p = src g l p from hgn_GA2 g a b (by omega) (by omega)]; exact hS.2.2.2 l p hl hp
  · unfold gw; rw [hgn_GA2 g a b (by omega) (by omega)]; exact hE.1 l hl
  · rw [hgn_GA2 g a b (by omega) (by omega)]; exact hE.2 l j hl hj
  · rw [hgn_GA2 g a b (by omega) (by omega)]; exact h4 l hl
  · rw [hgn_s (by omega) (by omega)]; exact h5
  · rw [hgn_s (by omega) (by omega)]; exact h6
  · rw [hgn_s (by omega) (by omega)]; exact h7
  · rw [hgn_s (by omega) (by omega)]; exact h8
/-! wire, by cases -/
theorem wire_none (hG : GW g B) (hC : CR g c st al ti tc se k w so ch) (h : (v1 < 0 ∨ nI (g 0) ≤ v1) ∨ ((∃ l, l < g 0 ∧ v1 = nI l) ∧ (v3 < 0 ∨ nI (g 0) ≤ v3))) : J_X9_putWire c al k so rc rn rd v1 v2 v3 = some (-nI 11, so, rc, rn, rd) := by
  have hn := hG.1.1
  have hc := hC.1.1
  unfold J_X9_putWire J_X9_putWire_b22
  rcases h with h | ⟨⟨l, hl, rfl⟩, h⟩
  · rw [hc, X2_isHung_f h]
    simp (disch := omega) only [↓reduceIte, nm_x, chk_nI, chz_0, chz_1, chz_b2, chn_nI, oi_1, oi_2, oi_m1, il_0, il_1, il_2, il_3, il_4, il_5, il_6, il_7, il_8, il_9, il_10, il_11, il_12, il_13, il_14, il_15, il_16, il_32, il_35, il_40, il_41, il_42, il_43, il_44, il_45, il_46, il_48, il_57, il_58, il_59, il_60, il_99, il_104, il_115, il_116, il_119, il_126, il_133, il_255, il_256, il_512, il_931, il_1000, il_65536, bn0, bn1, bn2, bn3, bn4, bn5, bn6, bn7, bn8, bn9, bn10, bn11, bn12, bn13, bn14, bn15, nI_leI, nI_ltI, nI_eq, nI_clamp, nI_add, pk_mul, nI_lt0, ng_lt0, ng_ge0, ng_eqn, ng_neq, ng_len, ng_eq, sV_m1, sV_lt0, sV_ge0, if_true, if_false, Nat.le_refl, Nat.lt_irrefl, Nat.not_lt_zero, Nat.zero_le, not_true_eq_false, not_false_eq_true, false_and, true_and, and_true, and_false, true_or, or_true, false_or, or_false, reduceCtorEq]
  · rw [hc, X2_isHung_t hl hn, X2_isHung_f h]
    simp (disch := omega) only [↓reduceIte, nm_x, chk_nI, chz_0, chz_1, chz_b2, chn_nI, oi_1, oi_2, oi_m1, il_0, il_1, il_2, il_3, il_4, il_5, il_6, il_7, il_8, il_9, il_10, il_11, il_12, il_13, il_14, il_15, il_16, il_32, il_35, il_40, il_41, il_42, il_43, il_44, il_45, il_46, il_48, il_57, il_58, il_59, il_60, il_99, il_104, il_115, il_116, il_119, il_126, il_133, il_255, il_256, il_512, il_931, il_1000, il_65536, bn0, bn1, bn2, bn3, bn4, bn5, bn6, bn7, bn8, bn9, bn10, bn11, bn12, bn13, bn14, bn15, nI_leI, nI_ltI, nI_eq, nI_clamp, nI_add, pk_mul, nI_lt0, ng_lt0, ng_ge0, ng_eqn, ng_neq, ng_len, ng_eq, sV_m1, sV_lt0, sV_ge0, if_true, if_false, Nat.le_refl, Nat.lt_irrefl, Nat.not_lt_zero, Nat.zero_le, not_true_eq_false, not_false_eq_true, false_and, true_and, and_true, and_false, true_or, or_true, false_or, or_false, reduceCtorEq]
theorem wire_bad (hG : GW g B) (hC : CR g c st al ti tc se k w so ch) {l f : Nat} (hl : l < g 0) (hf : f < g 0) (h : v2 < 0 ∨ nI 3 ≤ v2) : J_X9_putWire c al k so rc rn rd (nI l) v2 (nI f) = some (-nI 12, so, rc, rn, rd) := by
  have hn := hG.1.1
  have hc := hC.1.1
  have hh : J_X2_isHung c (nI l) = some (nI 1) := by rw [hc]; exact X2_isHung_t hl hn
  have hh3 : J_X2_isHung c (nI f) = some (nI 1) := by rw [hc]; exact X2_isHung_t hf hn
  unfold J_X9_putWire
  rw [hh, hh3, X9_isPlace_f h]
  simp (disch := omega) only [↓reduceIte, nm_x, chk_nI, chz_0, chz_1, chz_b2, chn_nI, oi_1, oi_2, oi_m1, il_0, il_1, il_2, il_3, il_4, il_5, il_6, il_7, il_8, il_9, il_10, il_11, il_12, il_13, il_14, il_15, il_16, il_32, il_35, il_40, il_41, il_42, il_43, il_44, il_45, il_46, il_48, il_57, il_58, il_59, il_60, il_99, il_104, il_115, il_116, il_119, il_126, il_133, il_255, il_256, il_512, il_931, il_1000, il_65536, bn0, bn1, bn2, bn3, bn4, bn5, bn6, bn7, bn8, bn9, bn10, bn11, bn12, bn13, bn14, bn15, nI_leI, nI_ltI, nI_eq, nI_clamp, nI_add, pk_mul, nI_lt0, ng_lt0, ng_ge0, ng_eqn, ng_neq, ng_len, ng_eq, sV_m1, sV_lt0, sV_ge0, if_true, if_false, Nat.le_refl, Nat.lt_irrefl, Nat.not_lt_zero, Nat.zero_le, not_true_eq_false, not_false_eq_true, false_and, true_and, and_true, and_false, true_or, or_true, false_or, or_false, reduceCtorEq]
theorem wire_sw (hG : GW g B) (hC : CR g c st al ti tc se k w so ch) {l f p : Nat} (hl : l < g 0) (hf : f < g 0) (hp : p < 3) (h0 : GA g l 0 = 0) : J_X9_putWire c al k so rc rn rd (nI l) (nI p) (nI f) = some (-nI 14, so, nI 1, upd rn 0 (nI 2), upd rd 0 (nI l)) := by
  have hn := hG.1.1
  have hc := hC.1.1
  have hh : J_X2_isHung c (nI l) = some (nI 1) := by rw [hc]; exact X2_isHung_t hl hn
  have hh3 : J_X2_isHung c (nI f) = some (nI 1) := by rw [hc]; exact X2_isHung_t hf hn
  have hpc := place_c hG hC hl hp rc rn rd
  rw [if_pos h0] at hpc
  unfold J_X9_putWire
  rw [hh, hh3, X9_isPlace_t hp, hpc]
  simp (disch := omega) only [↓reduceIte, nm_x, chk_nI, chz_0, chz_1, chz_b2, chn_nI, oi_1, oi_2, oi_m1, il_0, il_1, il_2, il_3, il_4, il_5, il_6, il_7, il_8, il_9, il_10, il_11, il_12, il_13, il_14, il_15, il_16, il_32, il_35, il_40, il_41, il_42, il_43, il_44, il_45, il_46, il_48, il_57, il_58, il_59, il_60, il_99, il_104, il_115, il_116, il_119, il_126, il_133, il_255, il_256, il_512, il_931, il_1000, il_65536, bn0, bn1, bn2, bn3, bn4, bn5, bn6, bn7, bn8, bn9, bn10, bn11, bn12, bn13, bn14, bn15, nI_leI, nI_ltI, nI_eq, nI_clamp, nI_add, pk_mul, nI_lt0, ng_lt0, ng_ge0, ng_eqn, ng_neq, ng_len, ng_eq, sV_m1, sV_lt0, sV_ge0, if_true, if_false, Nat.le_refl, Nat.lt_irrefl, Nat.not_lt_zero, Nat.zero_le, not_true_eq_false, not_false_eq_true, false_and, true_and, and_true, and_false, true_or, or_true, false_or, or_false, reduceCtorEq]
/-- a wire to a place that is free, while loops are allowed -/
theorem wire_free (hG : GW g B) (hC : CR g c st al ti tc se k w so ch) {l f p : Nat} (hl : l < g 0) (hf : f < g 0) (hp : p < 3) (h0 : GA g l 0 ≠ 0) (hpl : p < plc (GA g l 0)) (hs : src g l p = 0) (ha1 : g 1 = 1 ∨ J_X5_fewestWires c so (nI l) (nI f) = some (-nI 15)) : ∃ so', J_X9_putWire c al k so rc rn rd (nI l) (nI p) (nI f) = some (nI (wct (updn g (5 + 8 * l + (4 + p)) (f + 1)) l), so', rc, rn, rd) ∧ CR (updn g (5 + 8 * l + (4 + p)) (f + 1)) c st al ti tc se k w so' ch ∧ GW (updn g (5 + 8 * l + (4 + p)) (f + 1)) B := by
  have hn := hG.1.1
  have hc := hC.1.1
  have hl16 : l < 16 := by omega
  have hh : J_X2_isHung c (nI l) = some (nI 1) := by rw [hc]; exact X2_isHung_t hl hn
  have hh3 : J_X2_isHung c (nI f) = some (nI 1) := by rw [hc]; exact X2_isHung_t hf hn
  have hpc := place_c hG hC hl hp rc rn rd
  rw [if_neg h0, if_neg (by omega)] at hpc
  have hsc := X2_sourceOf hC.1 hl16 hp
  have hal := hC.2.2.2.1
  have hal1 := hG.1.2.1
  have hala : J_X2_areLoopsAllowed al = some al := by
    unfold J_X2_areLoopsAllowed
    rw [hal]
    rcases (show g 1 = 0 ∨ g 1 = 1 by omega) with e | e <;> rw [e] <;> simp (disch := omega) only [↓reduceIte, nm_x, chk_nI, chz_0, chz_1, chz_b2, chn_nI, oi_1, oi_2, oi_m1, il_0, il_1, il_2, il_3, il_4, il_5, il_6, il_7, il_8, il_9, il_10, il_11, il_12, il_13, il_14, il_15, il_16, il_32, il_35, il_40, il_41, il_42, il_43, il_44, il_45, il_46, il_48, il_57, il_58, il_59, il_60, il_99, il_104, il_115, il_116, il_119, il_126, il_133, il_255, il_256, il_512, il_931, il_1000, il_65536, bn0, bn1, bn2, bn3, bn4, bn5, bn6, bn7, bn8, bn9, bn10, bn11, bn12, bn13, bn14, bn15, nI_leI, nI_ltI, nI_eq, nI_clamp, nI_add, pk_mul, nI_lt0, ng_lt0, ng_ge0, ng_eqn, ng_neq, ng_len, ng_eq, sV_m1, sV_lt0, sV_ge0, if_true, if_false, Nat.le_refl, Nat.lt_irrefl, Nat.not_lt_zero, Nat.zero_le, not_true_eq_false, not_false_eq_true, false_and, true_and, and_true, and_false, true_or, or_true, false_or, or_false, reduceCtorEq]
  have hC' := CR_srcu (v := f + 1) hC hl16 hp
  rw [show sV (f + 1) = nI f from by rw [sV_s (by omega)]; rfl] at hC'
  have hG' := GW_srcu (v := f + 1) hG hl hp h0 (by omega)
  have hw3 : wct (updn g (5 + 8 * l + (4 + p)) (f + 1)) l ≤ 3 := wct_srcu
  have p1 := X2_connect (so := so) hc hn hl hp (nI f)
  have p2 := X2_wiresTo hG'.1 hC'.1 hl16
  refine ⟨_, ?_, hC', hG'⟩
  unfold J_X9_putWire J_X9_putWire_b96
  rw [hh, hh3, X9_isPlace_t hp, hpc, hsc, hala, hal]
  rcases (show g 1 = 0 ∨ g 1 = 1 by omega) with ha | ha
  · have e3 := ha1.resolve_left (by omega)
    rw [ha]
    simp (disch := omega) only [↓reduceIte, nm_x, chk_nI, chz_0, chz_1, chz_b2, chn_nI, oi_1, oi_2, oi_m1, il_0, il_1, il_2, il_3, il_4, il_5, il_6, il_7, il_8, il_9, il_10, il_11, il_12, il_13, il_14, il_15, il_16, il_32, il_35, il_40, il_41, il_42, il_43, il_44, il_45, il_46, il_48, il_57, il_58, il_59, il_60, il_99, il_104, il_115, il_116, il_119, il_126, il_133, il_255, il_256, il_512, il_931, il_1000, il_65536, bn0, bn1, bn2, bn3, bn4, bn5, bn6, bn7, bn8, bn9, bn10, bn11, bn12, bn13, bn14, bn15, nI_leI, nI_ltI, nI_eq, nI_clamp, nI_add, pk_mul, nI_lt0, ng_lt0, ng_ge0, ng_eqn, ng_neq, ng_len, ng_eq, sV_m1, sV_lt0, sV_ge0, if_true, if_false, Nat.le_refl, Nat.lt_irrefl, Nat.not_lt_zero, Nat.zero_le, not_true_eq_false, not_false_eq_true, false_and, true_and, and_true, and_false, true_or, or_true, false_or, or_false, reduceCtorEq, hs, e3, p1, p2]
  · rw [ha]
    simp (disch := omega) only [↓reduceIte, nm_x, chk_nI, chz_0, chz_1, chz_b2, chn_nI, oi_1, oi_2, oi_m1, il_0, il_1, il_2, il_3, il_4, il_5, il_6, il_7, il_8, il_9, il_10, il_11, il_12, il_13, il_14, il_15, il_16, il_32, il_35, il_40, il_41, il_42, il_43, il_44, il_45, il_46, il_48, il_57, il_58, il_59, il_60, il_99, il_104, il_115, il_116, il_119, il_126, il_133, il_255, il_256, il_512, il_931, il_1000, il_65536, bn0, bn1, bn2, bn3, bn4, bn5, bn6, bn7, bn8, bn9, bn10, bn11, bn12, bn13, bn14, bn15, nI_leI, nI_ltI, nI_eq, nI_clamp, nI_add, pk_mul, nI_lt0, ng_lt0, ng_ge0, ng_eqn, ng_neq, ng_len, ng_eq, sV_m1, sV_lt0, sV_ge0, if_true, if_false, Nat.le_refl, Nat.lt_irrefl, Nat.not_lt_zero, Nat.zero_le, not_true_eq_false, not_false_eq_true, false_and, true_and, and_true, and_false, true_or, or_true, false_or, or_false, reduceCtorEq, hs, p1, p2]
/-! ticks -/
theorem tick_bad (hv : v1 < nI 1 ∨ nI 99 < v1) : J_X9_letGoBy c st ti tc k w so ch v1 = some (-nI 12, st, ti, tc, ch) := by
  unfold J_X9_letGoBy J_X9_letGoBy_b11
  by_cases a1 : v1 < 1
  · rw [if_pos a1, il_12]
  · rw [if_neg a1, if_neg (show ¬ v1 ≤ (99 : Int32) from fun h => absurd h (fa_of_lt (hv.resolve_left a1)).2.1), il_12]
theorem tick_ok (hG : GW g B) (hC : CR g c st al ti tc se k w so ch) {tt : Nat} (a1 : 1 ≤ tt) (htt : tt ≤ 99) : ∃ st' ti' tc' ch', J_X9_letGoBy c st ti tc k w so ch (nI tt) = some (nI (tsum g tt), st', ti', tc', ch') ∧ CR (tki g tt) c st' al ti' tc' se k w so ch' ∧ GW (tki g tt) (B + 1584) := by
  have ht := tsum_le g tt
  obtain ⟨st', ti', tc', ch', e1, h1⟩ := X9_go_L (se := se) hG.1 htt tt FU 0 st ti tc ch (by omega) (by unfold FU; omega) hC
  refine ⟨st', ti', tc', ch', ?_, h1, (hG.tki tt).up (by omega)⟩
  unfold J_X9_letGoBy
  simp (disch := omega) only [↓reduceIte, nm_x, chk_nI, chz_0, chz_1, chz_b2, chn_nI, oi_1, oi_2, oi_m1, il_0, il_1, il_2, il_3, il_4, il_5, il_6, il_7, il_8, il_9, il_10, il_11, il_12, il_13, il_14, il_15, il_16, il_32, il_35, il_40, il_41, il_42, il_43, il_44, il_45, il_46, il_48, il_57, il_58, il_59, il_60, il_99, il_104, il_115, il_116, il_119, il_126, il_133, il_255, il_256, il_512, il_931, il_1000, il_65536, bn0, bn1, bn2, bn3, bn4, bn5, bn6, bn7, bn8, bn9, bn10, bn11, bn12, bn13, bn14, bn15, nI_leI, nI_ltI, nI_eq, nI_clamp, nI_add, pk_mul, nI_lt0, ng_lt0, ng_ge0, ng_eqn, ng_neq, ng_len, ng_eq, sV_m1, sV_lt0, sV_ge0, if_true, if_false, Nat.le_refl, Nat.lt_irrefl, Nat.not_lt_zero, Nat.zero_le, not_true_eq_false, not_false_eq_true, false_and, true_and, and_true, and_false, true_or, or_true, false_or, or_false, reduceCtorEq, show ¬ tt < 1 by omega, htt]
  exact e1
end Inner

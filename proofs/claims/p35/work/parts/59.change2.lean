/-! THE CHANGES, the other ones -/
section Ops2
variable {g : Nat → Nat} {B n : Nat} {c al ti tc se rc wh : Int32} {st : Int64} {k w so ch rn rd nw wy mo : Nat → Int32}
theorem wct_srcu {l p v : Nat} : wct (updn g (5 + 8 * l + (4 + p)) v) l ≤ 3 := fb_ct_le _ _
theorem wire_both (hG : GW g B) (hC : CR g c st al ti tc se k w so ch) (hM : MR g nw) (hR : RR n rc rn rd wh wy mo) (an v1 v2 v3 : Int32) (sp : Nat → Int32) : ∃ g' n' xc so' rc' rn' rd' xm wh' an' nw' sp' wy' mo', J_X9_putWire c al k so rc rn rd v1 v2 v3 = some (xc, so', rc', rn', rd') ∧ J_X10_wires wh an nw sp wy mo v1 v2 v3 = some (xm, wh', an', nw', sp', wy', mo') ∧ CR g' c st al ti tc se k w so' ch ∧ MR g' nw' ∧ GW g' B ∧ RR n' rc' rn' rd' wh' wy' mo' ∧ OUT xc xm an' (g' = g) n' := by
  have hn := hG.1.1
  have hc := hC.1.1
  have nolan : (v1 < 0 ∨ nI (g 0) ≤ v1) ∨ ((∃ l, l < g 0 ∧ v1 = nI l) ∧ (v3 < 0 ∨ nI (g 0) ≤ v3)) → ∃ g' n' xc so' rc' rn' rd' xm wh' an' nw' sp' wy' mo', J_X9_putWire c al k so rc rn rd v1 v2 v3 = some (xc, so', rc', rn', rd') ∧ J_X10_wires wh an nw sp wy mo v1 v2 v3 = some (xm, wh', an', nw', sp', wy', mo') ∧ CR g' c st al ti tc se k w so' ch ∧ MR g' nw' ∧ GW g' B ∧ RR n' rc' rn' rd' wh' wy' mo' ∧ OUT xc xm an' (g' = g) n' := fun h => by
    have e1 : J_X9_putWire c al k so rc rn rd v1 v2 v3 = some (-nI 11, so, rc, rn, rd) := by
      unfold J_X9_putWire J_X9_putWire_b22
      rcases h with h | ⟨⟨l, hl, rfl⟩, h⟩
      · rw [hc, X2_isHung_f h]
        simp (disch := omega) only [↓reduceIte, nm_x, chk_nI, chz_0, chz_1, chz_b2, chn_nI, oi_1, oi_2, oi_m1, il_0, il_1, il_2, il_3, il_4, il_5, il_6, il_7, il_8, il_9, il_10, il_11, il_12, il_13, il_14, il_15, il_16, il_32, il_35, il_40, il_41, il_42, il_43, il_44, il_45, il_46, il_48, il_57, il_58, il_59, il_60, il_99, il_104, il_115, il_116, il_119, il_126, il_133, il_255, il_256, il_512, il_931, il_1000, il_65536, bn0, bn1, bn2, bn3, bn4, bn5, bn6, bn7, bn8, bn9, bn10, bn11, bn12, bn13, bn14, bn15, nI_leI, nI_ltI, nI_eq, nI_clamp, nI_add, pk_mul, nI_lt0, ng_lt0, ng_ge0, ng_eqn, ng_neq, ng_len, ng_eq, sV_m1, sV_lt0, sV_ge0, if_true, if_false, Nat.le_refl, Nat.lt_irrefl, Nat.not_lt_zero, Nat.zero_le, not_true_eq_false, not_false_eq_true, false_and, true_and, and_true, and_false, true_or, or_true, false_or, or_false, reduceCtorEq]
      · rw [hc, X2_isHung_t hl hn, X2_isHung_f h]
        simp (disch := omega) only [↓reduceIte, nm_x, chk_nI, chz_0, chz_1, chz_b2, chn_nI, oi_1, oi_2, oi_m1, il_0, il_1, il_2, il_3, il_4, il_5, il_6, il_7, il_8, il_9, il_10, il_11, il_12, il_13, il_14, il_15, il_16, il_32, il_35, il_40, il_41, il_42, il_43, il_44, il_45, il_46, il_48, il_57, il_58, il_59, il_60, il_99, il_104, il_115, il_116, il_119, il_126, il_133, il_255, il_256, il_512, il_931, il_1000, il_65536, bn0, bn1, bn2, bn3, bn4, bn5, bn6, bn7, bn8, bn9, bn10, bn11, bn12, bn13, bn14, bn15, nI_leI, nI_ltI, nI_eq, nI_clamp, nI_add, pk_mul, nI_lt0, ng_lt0, ng_ge0, ng_eqn, ng_neq, ng_len, ng_eq, sV_m1, sV_lt0, sV_ge0, if_true, if_false, Nat.le_refl, Nat.lt_irrefl, Nat.not_lt_zero, Nat.zero_le, not_true_eq_false, not_false_eq_true, false_and, true_and, and_true, and_false, true_or, or_true, false_or, or_false, reduceCtorEq]
    have e2 : J_X10_wires wh an nw sp wy mo v1 v2 v3 = some (-nI 11, wh, an, nw, sp, wy, mo) := by
      unfold J_X10_wires J_X10_wires_b16
      rcases h with h | ⟨⟨l, hl, rfl⟩, h⟩
      · rw [X10_isLantern_f hG.1 hM h]
        simp (disch := omega) only [↓reduceIte, nm_x, chk_nI, chz_0, chz_1, chz_b2, chn_nI, oi_1, oi_2, oi_m1, il_0, il_1, il_2, il_3, il_4, il_5, il_6, il_7, il_8, il_9, il_10, il_11, il_12, il_13, il_14, il_15, il_16, il_32, il_35, il_40, il_41, il_42, il_43, il_44, il_45, il_46, il_48, il_57, il_58, il_59, il_60, il_99, il_104, il_115, il_116, il_119, il_126, il_133, il_255, il_256, il_512, il_931, il_1000, il_65536, bn0, bn1, bn2, bn3, bn4, bn5, bn6, bn7, bn8, bn9, bn10, bn11, bn12, bn13, bn14, bn15, nI_leI, nI_ltI, nI_eq, nI_clamp, nI_add, pk_mul, nI_lt0, ng_lt0, ng_ge0, ng_eqn, ng_neq, ng_len, ng_eq, sV_m1, sV_lt0, sV_ge0, if_true, if_false, Nat.le_refl, Nat.lt_irrefl, Nat.not_lt_zero, Nat.zero_le, not_true_eq_false, not_false_eq_true, false_and, true_and, and_true, and_false, true_or, or_true, false_or, or_false, reduceCtorEq]
      · rw [X10_isLantern_t hG.1 hM hl, X10_isLantern_f hG.1 hM h]
        simp (disch := omega) only [↓reduceIte, nm_x, chk_nI, chz_0, chz_1, chz_b2, chn_nI, oi_1, oi_2, oi_m1, il_0, il_1, il_2, il_3, il_4, il_5, il_6, il_7, il_8, il_9, il_10, il_11, il_12, il_13, il_14, il_15, il_16, il_32, il_35, il_40, il_41, il_42, il_43, il_44, il_45, il_46, il_48, il_57, il_58, il_59, il_60, il_99, il_104, il_115, il_116, il_119, il_126, il_133, il_255, il_256, il_512, il_931, il_1000, il_65536, bn0, bn1, bn2, bn3, bn4, bn5, bn6, bn7, bn8, bn9, bn10, bn11, bn12, bn13, bn14, bn15, nI_leI, nI_ltI, nI_eq, nI_clamp, nI_add, pk_mul, nI_lt0, ng_lt0, ng_ge0, ng_eqn, ng_neq, ng_len, ng_eq, sV_m1, sV_lt0, sV_ge0, if_true, if_false, Nat.le_refl, Nat.lt_irrefl, Nat.not_lt_zero, Nat.zero_le, not_true_eq_false, not_false_eq_true, false_and, true_and, and_true, and_false, true_or, or_true, false_or, or_false, reduceCtorEq]
    exact ⟨g, n, _, _, _, _, _, _, _, _, _, _, _, _, e1, e2, hC, hM, hG, hR, Or.inr ⟨rfl, 11, by omega, by omega, rfl, rfl, fun h => by omega⟩⟩
  rcases pk_ix v1 (n := g 0) (by omega) with h | h | ⟨l, hl, rfl⟩
  · exact nolan (Or.inl (Or.inl h))
  · exact nolan (Or.inl (Or.inr h))
  · rcases pk_ix v3 (n := g 0) (by omega) with h | h | ⟨f, hf, rfl⟩
    · exact nolan (Or.inr ⟨⟨l, hl, rfl⟩, Or.inl h⟩)
    · exact nolan (Or.inr ⟨⟨l, hl, rfl⟩, Or.inr h⟩)
    · have hl16 : l < 16 := by omega
      have hh : J_X2_isHung c (nI l) = some (nI 1) := by rw [hc]; exact X2_isHung_t hl hn
      have hh3 : J_X2_isHung c (nI f) = some (nI 1) := by rw [hc]; exact X2_isHung_t hf hn
      have hlt := X10_isLantern_t hG.1 hM hl
      have hlt3 := X10_isLantern_t hG.1 hM hf
      have bad : (v2 < 0 ∨ nI 3 ≤ v2) → ∃ g' n' xc so' rc' rn' rd' xm wh' an' nw' sp' wy' mo', J_X9_putWire c al k so rc rn rd (nI l) v2 (nI f) = some (xc, so', rc', rn', rd') ∧ J_X10_wires wh an nw sp wy mo (nI l) v2 (nI f) = some (xm, wh', an', nw', sp', wy', mo') ∧ CR g' c st al ti tc se k w so' ch ∧ MR g' nw' ∧ GW g' B ∧ RR n' rc' rn' rd' wh' wy' mo' ∧ OUT xc xm an' (g' = g) n' := fun h => by
        have e1 : J_X9_putWire c al k so rc rn rd (nI l) v2 (nI f) = some (-nI 12, so, rc, rn, rd) := by
          unfold J_X9_putWire
          rw [hh, hh3, X9_isPlace_f h]
          simp (disch := omega) only [↓reduceIte, nm_x, chk_nI, chz_0, chz_1, chz_b2, chn_nI, oi_1, oi_2, oi_m1, il_0, il_1, il_2, il_3, il_4, il_5, il_6, il_7, il_8, il_9, il_10, il_11, il_12, il_13, il_14, il_15, il_16, il_32, il_35, il_40, il_41, il_42, il_43, il_44, il_45, il_46, il_48, il_57, il_58, il_59, il_60, il_99, il_104, il_115, il_116, il_119, il_126, il_133, il_255, il_256, il_512, il_931, il_1000, il_65536, bn0, bn1, bn2, bn3, bn4, bn5, bn6, bn7, bn8, bn9, bn10, bn11, bn12, bn13, bn14, bn15, nI_leI, nI_ltI, nI_eq, nI_clamp, nI_add, pk_mul, nI_lt0, ng_lt0, ng_ge0, ng_eqn, ng_neq, ng_len, ng_eq, sV_m1, sV_lt0, sV_ge0, if_true, if_false, Nat.le_refl, Nat.lt_irrefl, Nat.not_lt_zero, Nat.zero_le, not_true_eq_false, not_false_eq_true, false_and, true_and, and_true, and_false, true_or, or_true, false_or, or_false, reduceCtorEq]
        have e2 : J_X10_wires wh an nw sp wy mo (nI l) v2 (nI f) = some (-nI 12, wh, an, nw, sp, wy, mo) := by
          unfold J_X10_wires
          rw [hlt, hlt3]
          simp (disch := omega) only [↓reduceIte, nm_x, chk_nI, chz_0, chz_1, chz_b2, chn_nI, oi_1, oi_2, oi_m1, il_0, il_1, il_2, il_3, il_4, il_5, il_6, il_7, il_8, il_9, il_10, il_11, il_12, il_13, il_14, il_15, il_16, il_32, il_35, il_40, il_41, il_42, il_43, il_44, il_45, il_46, il_48, il_57, il_58, il_59, il_60, il_99, il_104, il_115, il_116, il_119, il_126, il_133, il_255, il_256, il_512, il_931, il_1000, il_65536, bn0, bn1, bn2, bn3, bn4, bn5, bn6, bn7, bn8, bn9, bn10, bn11, bn12, bn13, bn14, bn15, nI_leI, nI_ltI, nI_eq, nI_clamp, nI_add, pk_mul, nI_lt0, ng_lt0, ng_ge0, ng_eqn, ng_neq, ng_len, ng_eq, sV_m1, sV_lt0, sV_ge0, if_true, if_false, Nat.le_refl, Nat.lt_irrefl, Nat.not_lt_zero, Nat.zero_le, not_true_eq_false, not_false_eq_true, false_and, true_and, and_true, and_false, true_or, or_true, false_or, or_false, reduceCtorEq, in02_f h]
        exact ⟨g, n, _, _, _, _, _, _, _, _, _, _, _, _, e1, e2, hC, hM, hG, hR, Or.inr ⟨rfl, 12, by omega, by omega, rfl, rfl, fun h => by omega⟩⟩
      rcases pk_ix v2 (n := 3) (by omega) with h | h | ⟨p, hp, rfl⟩
      · exact bad (Or.inl h)
      · exact bad (Or.inr h)
      · have hpc := place_c hG hC hl hp rc rn rd
        have hsm := X10_isSwitch hG.1 hM hl16
        have hplm := X10_places hG.1 hM hl16
        have hwm := X10_wired hM hl16 hp
        have hsc := X2_sourceOf hC.1 hl16 hp
        have hsr := GV_src hG.1 hl16 hp
        have hpl3 := plc_le (GA g l 0)
        by_cases h0 : GA g l 0 = 0
        · rw [if_pos h0] at hpc
          rw [decide_eq_true h0, b2_t] at hsm
          have e1 : J_X9_putWire c al k so rc rn rd (nI l) (nI p) (nI f) = some (-nI 14, so, nI 1, upd rn 0 (nI 2), upd rd 0 (nI l)) := by
            unfold J_X9_putWire
            rw [hh, hh3, X9_isPlace_t hp, hpc]
            simp (disch := omega) only [↓reduceIte, nm_x, chk_nI, chz_0, chz_1, chz_b2, chn_nI, oi_1, oi_2, oi_m1, il_0, il_1, il_2, il_3, il_4, il_5, il_6, il_7, il_8, il_9, il_10, il_11, il_12, il_13, il_14, il_15, il_16, il_32, il_35, il_40, il_41, il_42, il_43, il_44, il_45, il_46, il_48, il_57, il_58, il_59, il_60, il_99, il_104, il_115, il_116, il_119, il_126, il_133, il_255, il_256, il_512, il_931, il_1000, il_65536, bn0, bn1, bn2, bn3, bn4, bn5, bn6, bn7, bn8, bn9, bn10, bn11, bn12, bn13, bn14, bn15, nI_leI, nI_ltI, nI_eq, nI_clamp, nI_add, pk_mul, nI_lt0, ng_lt0, ng_ge0, ng_eqn, ng_neq, ng_len, ng_eq, sV_m1, sV_lt0, sV_ge0, if_true, if_false, Nat.le_refl, Nat.lt_irrefl, Nat.not_lt_zero, Nat.zero_le, not_true_eq_false, not_false_eq_true, false_and, true_and, and_true, and_false, true_or, or_true, false_or, or_false, reduceCtorEq]
          have e2 : J_X10_wires wh an nw sp wy mo (nI l) (nI p) (nI f) = some (-nI 14, nI 1, an, nw, sp, upd wy 0 (nI 2), upd mo 0 (nI l)) := by
            unfold J_X10_wires
            rw [hlt, hlt3]
            simp (disch := omega) only [↓reduceIte, nm_x, chk_nI, chz_0, chz_1, chz_b2, chn_nI, oi_1, oi_2, oi_m1, il_0, il_1, il_2, il_3, il_4, il_5, il_6, il_7, il_8, il_9, il_10, il_11, il_12, il_13, il_14, il_15, il_16, il_32, il_35, il_40, il_41, il_42, il_43, il_44, il_45, il_46, il_48, il_57, il_58, il_59, il_60, il_99, il_104, il_115, il_116, il_119, il_126, il_133, il_255, il_256, il_512, il_931, il_1000, il_65536, bn0, bn1, bn2, bn3, bn4, bn5, bn6, bn7, bn8, bn9, bn10, bn11, bn12, bn13, bn14, bn15, nI_leI, nI_ltI, nI_eq, nI_clamp, nI_add, pk_mul, nI_lt0, ng_lt0, ng_ge0, ng_eqn, ng_neq, ng_len, ng_eq, sV_m1, sV_lt0, sV_ge0, if_true, if_false, Nat.le_refl, Nat.lt_irrefl, Nat.not_lt_zero, Nat.zero_le, not_true_eq_false, not_false_eq_true, false_and, true_and, and_true, and_false, true_or, or_true, false_or, or_false, reduceCtorEq, in02_t hp, hsm, refuse_m]
          exact ⟨g, 1, _, _, _, _, _, _, _, _, _, _, _, _, e1, e2, hC, hM, hG, RR_1 _ _ _ _ _ _, Or.inr ⟨rfl, 14, by omega, by omega, rfl, rfl, fun _ => by omega⟩⟩
        · rw [if_neg h0] at hpc
          rw [decide_eq_false h0, b2_f] at hsm
          by_cases hpl : plc (GA g l 0) ≤ p
          · rw [if_pos hpl] at hpc
            have e1 : J_X9_putWire c al k so rc rn rd (nI l) (nI p) (nI f) = some (-nI 14, so, nI 1, upd rn 0 (nI 3), upd rd 0 (nI (plc (GA g l 0)))) := by
              unfold J_X9_putWire
              rw [hh, hh3, X9_isPlace_t hp, hpc]
              simp (disch := omega) only [↓reduceIte, nm_x, chk_nI, chz_0, chz_1, chz_b2, chn_nI, oi_1, oi_2, oi_m1, il_0, il_1, il_2, il_3, il_4, il_5, il_6, il_7, il_8, il_9, il_10, il_11, il_12, il_13, il_14, il_15, il_16, il_32, il_35, il_40, il_41, il_42, il_43, il_44, il_45, il_46, il_48, il_57, il_58, il_59, il_60, il_99, il_104, il_115, il_116, il_119, il_126, il_133, il_255, il_256, il_512, il_931, il_1000, il_65536, bn0, bn1, bn2, bn3, bn4, bn5, bn6, bn7, bn8, bn9, bn10, bn11, bn12, bn13, bn14, bn15, nI_leI, nI_ltI, nI_eq, nI_clamp, nI_add, pk_mul, nI_lt0, ng_lt0, ng_ge0, ng_eqn, ng_neq, ng_len, ng_eq, sV_m1, sV_lt0, sV_ge0, if_true, if_false, Nat.le_refl, Nat.lt_irrefl, Nat.not_lt_zero, Nat.zero_le, not_true_eq_false, not_false_eq_true, false_and, true_and, and_true, and_false, true_or, or_true, false_or, or_false, reduceCtorEq]
            have e2 : J_X10_wires wh an nw sp wy mo (nI l) (nI p) (nI f) = some (-nI 14, nI 1, an, nw, sp, upd wy 0 (nI 3), upd mo 0 (nI (plc (GA g l 0)))) := by
              unfold J_X10_wires
              rw [hlt, hlt3]
              simp (disch := omega) only [↓reduceIte, nm_x, chk_nI, chz_0, chz_1, chz_b2, chn_nI, oi_1, oi_2, oi_m1, il_0, il_1, il_2, il_3, il_4, il_5, il_6, il_7, il_8, il_9, il_10, il_11, il_12, il_13, il_14, il_15, il_16, il_32, il_35, il_40, il_41, il_42, il_43, il_44, il_45, il_46, il_48, il_57, il_58, il_59, il_60, il_99, il_104, il_115, il_116, il_119, il_126, il_133, il_255, il_256, il_512, il_931, il_1000, il_65536, bn0, bn1, bn2, bn3, bn4, bn5, bn6, bn7, bn8, bn9, bn10, bn11, bn12, bn13, bn14, bn15, nI_leI, nI_ltI, nI_eq, nI_clamp, nI_add, pk_mul, nI_lt0, ng_lt0, ng_ge0, ng_eqn, ng_neq, ng_len, ng_eq, sV_m1, sV_lt0, sV_ge0, if_true, if_false, Nat.le_refl, Nat.lt_irrefl, Nat.not_lt_zero, Nat.zero_le, not_true_eq_false, not_false_eq_true, false_and, true_and, and_true, and_false, true_or, or_true, false_or, or_false, reduceCtorEq, in02_t hp, hsm, refuse_m, hplm, show ¬ p < plc (GA g l 0) by omega]
            exact ⟨g, 1, _, _, _, _, _, _, _, _, _, _, _, _, e1, e2, hC, hM, hG, RR_1 _ _ _ _ _ _, Or.inr ⟨rfl, 14, by omega, by omega, rfl, rfl, fun _ => by omega⟩⟩
          · rw [if_neg hpl] at hpc
            by_cases hs : src g l p = 0
            · -- free: the loop that it would close
              obtain ⟨sp', hway⟩ := way_both hG.1 hM hC.1 hl hf sp
              have hal := hC.2.2.2.1
              have hal1 := hG.1.2.1
              have hala : J_X2_areLoopsAllowed al = some al := by
                unfold J_X2_areLoopsAllowed
                rw [hal]
                rcases (show g 1 = 0 ∨ g 1 = 1 by omega) with e | e <;> rw [e] <;> simp (disch := omega) only [↓reduceIte, nm_x, chk_nI, chz_0, chz_1, chz_b2, chn_nI, oi_1, oi_2, oi_m1, il_0, il_1, il_2, il_3, il_4, il_5, il_6, il_7, il_8, il_9, il_10, il_11, il_12, il_13, il_14, il_15, il_16, il_32, il_35, il_40, il_41, il_42, il_43, il_44, il_45, il_46, il_48, il_57, il_58, il_59, il_60, il_99, il_104, il_115, il_116, il_119, il_126, il_133, il_255, il_256, il_512, il_931, il_1000, il_65536, bn0, bn1, bn2, bn3, bn4, bn5, bn6, bn7, bn8, bn9, bn10, bn11, bn12, bn13, bn14, bn15, nI_leI, nI_ltI, nI_eq, nI_clamp, nI_add, pk_mul, nI_lt0, ng_lt0, ng_ge0, ng_eqn, ng_neq, ng_len, ng_eq, sV_m1, sV_lt0, sV_ge0, if_true, if_false, Nat.le_refl, Nat.lt_irrefl, Nat.not_lt_zero, Nat.zero_le, not_true_eq_false, not_false_eq_true, false_and, true_and, and_true, and_false, true_or, or_true, false_or, or_false, reduceCtorEq]
              have h1m := hM 1 (by omega)
              have hC' := CR_srcu (v := f + 1) hC hl16 hp
              rw [show sV (f + 1) = nI f from by rw [sV_s (by omega)]; rfl] at hC'
              have hG' := GW_srcu (v := f + 1) hG hl hp h0 (by omega)
              have hM' := MR_upd hM (5 + 8 * l + (4 + p)) (f + 1)
              have hw3 : wct (updn g (5 + 8 * l + (4 + p)) (f + 1)) l ≤ 3 := wct_srcu
              have p1 := X2_connect (so := so) hc hn hl hp (nI f)
              have p2 := X2_wiresTo hG'.1 hC'.1 hl16
              have p3 := X10_wiresTo hG'.1 hM' hl16
              have hO : OUT (nI (wct (updn g (5 + 8 * l + (4 + p)) (f + 1)) l)) (nI 0) (nI (wct (updn g (5 + 8 * l + (4 + p)) (f + 1)) l)) (updn g (5 + 8 * l + (4 + p)) (f + 1) = g) n := Or.inl ⟨_, by omega, rfl, rfl, rfl⟩
              have hadd : nI f + nI 1 = nI (f + 1) := nI_add f 1
              by_cases ha : g 1 = 0
              · rw [ha] at hal h1m
                rcases hway with ⟨fw, hfw, e3, e4⟩ | ⟨e3, e4⟩
                · have e1 : J_X9_putWire c al k so rc rn rd (nI l) (nI p) (nI f) = some (-nI 14, so, nI 2, upd (upd rn 0 (nI 8)) 1 (nI 11), upd (upd rd 0 (nI f)) 1 (nI (fw + 1))) := by
                    unfold J_X9_putWire J_X9_putWire_b96
                    rw [hh, hh3, X9_isPlace_t hp, hpc, hsc, hala, hal]
                    simp (disch := omega) only [↓reduceIte, nm_x, chk_nI, chz_0, chz_1, chz_b2, chn_nI, oi_1, oi_2, oi_m1, il_0, il_1, il_2, il_3, il_4, il_5, il_6, il_7, il_8, il_9, il_10, il_11, il_12, il_13, il_14, il_15, il_16, il_32, il_35, il_40, il_41, il_42, il_43, il_44, il_45, il_46, il_48, il_57, il_58, il_59, il_60, il_99, il_104, il_115, il_116, il_119, il_126, il_133, il_255, il_256, il_512, il_931, il_1000, il_65536, bn0, bn1, bn2, bn3, bn4, bn5, bn6, bn7, bn8, bn9, bn10, bn11, bn12, bn13, bn14, bn15, nI_leI, nI_ltI, nI_eq, nI_clamp, nI_add, pk_mul, nI_lt0, ng_lt0, ng_ge0, ng_eqn, ng_neq, ng_len, ng_eq, sV_m1, sV_lt0, sV_ge0, if_true, if_false, Nat.le_refl, Nat.lt_irrefl, Nat.not_lt_zero, Nat.zero_le, not_true_eq_false, not_false_eq_true, false_and, true_and, and_true, and_false, true_or, or_true, false_or, or_false, reduceCtorEq, hs, e3, refuse_c, behind_c]
                  have e2 : J_X10_wires wh an nw sp wy mo (nI l) (nI p) (nI f) = some (-nI 14, nI 2, an, nw, sp', upd (upd wy 0 (nI 8)) 1 (nI 11), upd (upd mo 0 (nI f)) 1 (nI (fw + 1))) := by
                    unfold J_X10_wires J_X10_wires_b129
                    rw [hlt, hlt3]
                    simp (disch := omega) only [↓reduceIte, nm_x, chk_nI, chz_0, chz_1, chz_b2, chn_nI, oi_1, oi_2, oi_m1, il_0, il_1, il_2, il_3, il_4, il_5, il_6, il_7, il_8, il_9, il_10, il_11, il_12, il_13, il_14, il_15, il_16, il_32, il_35, il_40, il_41, il_42, il_43, il_44, il_45, il_46, il_48, il_57, il_58, il_59, il_60, il_99, il_104, il_115, il_116, il_119, il_126, il_133, il_255, il_256, il_512, il_931, il_1000, il_65536, bn0, bn1, bn2, bn3, bn4, bn5, bn6, bn7, bn8, bn9, bn10, bn11, bn12, bn13, bn14, bn15, nI_leI, nI_ltI, nI_eq, nI_clamp, nI_add, pk_mul, nI_lt0, ng_lt0, ng_ge0, ng_eqn, ng_neq, ng_len, ng_eq, sV_m1, sV_lt0, sV_ge0, if_true, if_false, Nat.le_refl, Nat.lt_irrefl, Nat.not_lt_zero, Nat.zero_le, not_true_eq_false, not_false_eq_true, false_and, true_and, and_true, and_false, true_or, or_true, false_or, or_false, reduceCtorEq, in02_t hp, hsm, hplm, show p < plc (GA g l 0) by omega, hwm, hs, e4, h1m, refuse_m, behind_m]
                  exact ⟨g, 2, _, _, _, _, _, _, _, _, _, _, _, _, e1, e2, hC, hM, hG, RR_2 (RR_1 _ _ _ _ _ _) _ _, Or.inr ⟨rfl, 14, by omega, by omega, rfl, rfl, fun _ => by omega⟩⟩
                · have e1 : J_X9_putWire c al k so rc rn rd (nI l) (nI p) (nI f) = some (nI (wct (updn g (5 + 8 * l + (4 + p)) (f + 1)) l), upd so (l * 3 + p) (nI f), rc, rn, rd) := by
                    unfold J_X9_putWire J_X9_putWire_b96
                    rw [hh, hh3, X9_isPlace_t hp, hpc, hsc, hala, hal]
                    simp (disch := omega) only [↓reduceIte, nm_x, chk_nI, chz_0, chz_1, chz_b2, chn_nI, oi_1, oi_2, oi_m1, il_0, il_1, il_2, il_3, il_4, il_5, il_6, il_7, il_8, il_9, il_10, il_11, il_12, il_13, il_14, il_15, il_16, il_32, il_35, il_40, il_41, il_42, il_43, il_44, il_45, il_46, il_48, il_57, il_58, il_59, il_60, il_99, il_104, il_115, il_116, il_119, il_126, il_133, il_255, il_256, il_512, il_931, il_1000, il_65536, bn0, bn1, bn2, bn3, bn4, bn5, bn6, bn7, bn8, bn9, bn10, bn11, bn12, bn13, bn14, bn15, nI_leI, nI_ltI, nI_eq, nI_clamp, nI_add, pk_mul, nI_lt0, ng_lt0, ng_ge0, ng_eqn, ng_neq, ng_len, ng_eq, sV_m1, sV_lt0, sV_ge0, if_true, if_false, Nat.le_refl, Nat.lt_irrefl, Nat.not_lt_zero, Nat.zero_le, not_true_eq_false, not_false_eq_true, false_and, true_and, and_true, and_false, true_or, or_true, false_or, or_false, reduceCtorEq, hs, e3, p1, p2]
                  have e2 : J_X10_wires wh an nw sp wy mo (nI l) (nI p) (nI f) = some (nI 0, wh, nI (wct (updn g (5 + 8 * l + (4 + p)) (f + 1)) l), upd nw (5 + 8 * l + (4 + p)) (nI (f + 1)), sp', wy, mo) := by
                    unfold J_X10_wires J_X10_wires_b129 J_X10_does
                    rw [hlt, hlt3]
                    simp (disch := omega) only [↓reduceIte, nm_x, chk_nI, chz_0, chz_1, chz_b2, chn_nI, oi_1, oi_2, oi_m1, il_0, il_1, il_2, il_3, il_4, il_5, il_6, il_7, il_8, il_9, il_10, il_11, il_12, il_13, il_14, il_15, il_16, il_32, il_35, il_40, il_41, il_42, il_43, il_44, il_45, il_46, il_48, il_57, il_58, il_59, il_60, il_99, il_104, il_115, il_116, il_119, il_126, il_133, il_255, il_256, il_512, il_931, il_1000, il_65536, bn0, bn1, bn2, bn3, bn4, bn5, bn6, bn7, bn8, bn9, bn10, bn11, bn12, bn13, bn14, bn15, nI_leI, nI_ltI, nI_eq, nI_clamp, nI_add, pk_mul, nI_lt0, ng_lt0, ng_ge0, ng_eqn, ng_neq, ng_len, ng_eq, sV_m1, sV_lt0, sV_ge0, if_true, if_false, Nat.le_refl, Nat.lt_irrefl, Nat.not_lt_zero, Nat.zero_le, not_true_eq_false, not_false_eq_true, false_and, true_and, and_true, and_false, true_or, or_true, false_or, or_false, reduceCtorEq, in02_t hp, hsm, hplm, show p < plc (GA g l 0) by omega, hwm, hs, e4, h1m, X10_sets hl16 (show 4 + p < 8 by omega), p3]
                  exact ⟨_, n, _, _, _, _, _, _, _, _, _, _, _, _, e1, e2, hC', hM', hG', hR, hO⟩
              · have ha1 : g 1 = 1 := by omega
                rw [ha1] at hal h1m
                have e1 : J_X9_putWire c al k so rc rn rd (nI l) (nI p) (nI f) = some (nI (wct (updn g (5 + 8 * l + (4 + p)) (f + 1)) l), upd so (l * 3 + p) (nI f), rc, rn, rd) := by
                  unfold J_X9_putWire J_X9_putWire_b96
                  rw [hh, hh3, X9_isPlace_t hp, hpc, hsc, hala, hal]
                  simp (disch := omega) only [↓reduceIte, nm_x, chk_nI, chz_0, chz_1, chz_b2, chn_nI, oi_1, oi_2, oi_m1, il_0, il_1, il_2, il_3, il_4, il_5, il_6, il_7, il_8, il_9, il_10, il_11, il_12, il_13, il_14, il_15, il_16, il_32, il_35, il_40, il_41, il_42, il_43, il_44, il_45, il_46, il_48, il_57, il_58, il_59, il_60, il_99, il_104, il_115, il_116, il_119, il_126, il_133, il_255, il_256, il_512, il_931, il_1000, il_65536, bn0, bn1, bn2, bn3, bn4, bn5, bn6, bn7, bn8, bn9, bn10, bn11, bn12, bn13, bn14, bn15, nI_leI, nI_ltI, nI_eq, nI_clamp, nI_add, pk_mul, nI_lt0, ng_lt0, ng_ge0, ng_eqn, ng_neq, ng_len, ng_eq, sV_m1, sV_lt0, sV_ge0, if_true, if_false, Nat.le_refl, Nat.lt_irrefl, Nat.not_lt_zero, Nat.zero_le, not_true_eq_false, not_false_eq_true, false_and, true_and, and_true, and_false, true_or, or_true, false_or, or_false, reduceCtorEq, hs, p1, p2]
                have e2 : ∃ sp', J_X10_wires wh an nw sp wy mo (nI l) (nI p) (nI f) = some (nI 0, wh, nI (wct (updn g (5 + 8 * l + (4 + p)) (f + 1)) l), upd nw (5 + 8 * l + (4 + p)) (nI (f + 1)), sp', wy, mo) := by
                  refine ⟨sp', ?_⟩
                  unfold J_X10_wires J_X10_wires_b129 J_X10_does
                  rw [hlt, hlt3]
                  rcases hway with ⟨fw, hfw, e3, e4⟩ | ⟨e3, e4⟩ <;> simp (disch := omega) only [↓reduceIte, nm_x, chk_nI, chz_0, chz_1, chz_b2, chn_nI, oi_1, oi_2, oi_m1, il_0, il_1, il_2, il_3, il_4, il_5, il_6, il_7, il_8, il_9, il_10, il_11, il_12, il_13, il_14, il_15, il_16, il_32, il_35, il_40, il_41, il_42, il_43, il_44, il_45, il_46, il_48, il_57, il_58, il_59, il_60, il_99, il_104, il_115, il_116, il_119, il_126, il_133, il_255, il_256, il_512, il_931, il_1000, il_65536, bn0, bn1, bn2, bn3, bn4, bn5, bn6, bn7, bn8, bn9, bn10, bn11, bn12, bn13, bn14, bn15, nI_leI, nI_ltI, nI_eq, nI_clamp, nI_add, pk_mul, nI_lt0, ng_lt0, ng_ge0, ng_eqn, ng_neq, ng_len, ng_eq, sV_m1, sV_lt0, sV_ge0, if_true, if_false, Nat.le_refl, Nat.lt_irrefl, Nat.not_lt_zero, Nat.zero_le, not_true_eq_false, not_false_eq_true, false_and, true_and, and_true, and_false, true_or, or_true, false_or, or_false, reduceCtorEq, in02_t hp, hsm, hplm, show p < plc (GA g l 0) by omega, hwm, hs, e4, h1m, X10_sets hl16 (show 4 + p < 8 by omega), p3]
                obtain ⟨sp2, e2⟩ := e2
                exact ⟨_, n, _, _, _, _, _, _, _, _, _, _, _, _, e1, e2, hC', hM', hG', hR, hO⟩
            · have e1 : J_X9_putWire c al k so rc rn rd (nI l) (nI p) (nI f) = some (-nI 14, so, nI 1, upd rn 0 (nI 4), upd rd 0 (sV (src g l p))) := by
                unfold J_X9_putWire
                rw [hh, hh3, X9_isPlace_t hp, hpc, hsc]
                simp (disch := omega) only [↓reduceIte, nm_x, chk_nI, chz_0, chz_1, chz_b2, chn_nI, oi_1, oi_2, oi_m1, il_0, il_1, il_2, il_3, il_4, il_5, il_6, il_7, il_8, il_9, il_10, il_11, il_12, il_13, il_14, il_15, il_16, il_32, il_35, il_40, il_41, il_42, il_43, il_44, il_45, il_46, il_48, il_57, il_58, il_59, il_60, il_99, il_104, il_115, il_116, il_119, il_126, il_133, il_255, il_256, il_512, il_931, il_1000, il_65536, bn0, bn1, bn2, bn3, bn4, bn5, bn6, bn7, bn8, bn9, bn10, bn11, bn12, bn13, bn14, bn15, nI_leI, nI_ltI, nI_eq, nI_clamp, nI_add, pk_mul, nI_lt0, ng_lt0, ng_ge0, ng_eqn, ng_neq, ng_len, ng_eq, sV_m1, sV_lt0, sV_ge0, if_true, if_false, Nat.le_refl, Nat.lt_irrefl, Nat.not_lt_zero, Nat.zero_le, not_true_eq_false, not_false_eq_true, false_and, true_and, and_true, and_false, true_or, or_true, false_or, or_false, reduceCtorEq, hs, refuse_c]
              have e2 : J_X10_wires wh an nw sp wy mo (nI l) (nI p) (nI f) = some (-nI 14, nI 1, an, nw, sp, upd wy 0 (nI 4), upd mo 0 (sV (src g l p))) := by
                unfold J_X10_wires
                rw [hlt, hlt3]
                simp (disch := omega) only [↓reduceIte, nm_x, chk_nI, chz_0, chz_1, chz_b2, chn_nI, oi_1, oi_2, oi_m1, il_0, il_1, il_2, il_3, il_4, il_5, il_6, il_7, il_8, il_9, il_10, il_11, il_12, il_13, il_14, il_15, il_16, il_32, il_35, il_40, il_41, il_42, il_43, il_44, il_45, il_46, il_48, il_57, il_58, il_59, il_60, il_99, il_104, il_115, il_116, il_119, il_126, il_133, il_255, il_256, il_512, il_931, il_1000, il_65536, bn0, bn1, bn2, bn3, bn4, bn5, bn6, bn7, bn8, bn9, bn10, bn11, bn12, bn13, bn14, bn15, nI_leI, nI_ltI, nI_eq, nI_clamp, nI_add, pk_mul, nI_lt0, ng_lt0, ng_ge0, ng_eqn, ng_neq, ng_len, ng_eq, sV_m1, sV_lt0, sV_ge0, if_true, if_false, Nat.le_refl, Nat.lt_irrefl, Nat.not_lt_zero, Nat.zero_le, not_true_eq_false, not_false_eq_true, false_and, true_and, and_true, and_false, true_or, or_true, false_or, or_false, reduceCtorEq, in02_t hp, hsm, hplm, show p < plc (GA g l 0) by omega, hwm, hs, refuse_m]
              exact ⟨g, 1, _, _, _, _, _, _, _, _, _, _, _, _, e1, e2, hC, hM, hG, RR_1 _ _ _ _ _ _, Or.inr ⟨rfl, 14, by omega, by omega, rfl, rfl, fun _ => by omega⟩⟩
/-! a switch set -/
def stn (g : Nat → Nat) (l b : Nat) : Nat → Nat := updn (updn (updn g (5 + 8 * l + 2) b) (5 + 8 * l + 3) (GA g l 3 + 1)) 4 (g 4 + 1)
theorem stn_GA (g : Nat → Nat) (l b : Nat) {l' w' : Nat} (hw : w' < 8) : GA (stn g l b) l' w' = if l' = l ∧ w' = 2 then b else if l' = l ∧ w' = 3 then GA g l 3 + 1 else GA g l' w' := by
  unfold stn GA updn
  by_cases e2 : l' = l ∧ w' = 2
  · rw [if_neg (by omega), if_neg (by omega), if_pos (by omega), if_pos e2]
  · rw [if_neg e2, if_neg (by omega)]
    by_cases e3 : l' = l ∧ w' = 3
    · rw [if_pos (by omega), if_pos e3]
    · rw [if_neg (by omega), if_neg (by omega), if_neg e3]
theorem stn_GAn (g : Nat → Nat) (l b : Nat) {l' w' : Nat} (hw : w' < 8) (h2 : w' ≠ 2) (h3 : w' ≠ 3) : GA (stn g l b) l' w' = GA g l' w' := by
  rw [stn_GA g l b hw, if_neg (by omega), if_neg (by omega)]
theorem stn_s (g : Nat → Nat) (l b : Nat) {i : Nat} (hi : i < 4) : stn g l b i = g i := by
  unfold stn updn
  rw [if_neg (by omega), if_neg (by omega), if_neg (by omega)]
theorem stn_4 (g : Nat → Nat) (l b : Nat) : stn g l b 4 = g 4 + 1 := by unfold stn updn; rw [if_pos rfl]
theorem GW_stn (hG : GW g B) {l b : Nat} (hl : l < g 0) (hb : b ≤ 1) (hne : GA g l 2 ≠ b) : GW (stn g l b) (B + 1) := by
  have hn := hG.1.1
  have hl2 := (GV_l hG.1 (show l < 16 by omega)).2.2.1
  have hs : ∀ l' p, p < 3 → src (stn g l b) l' p = src g l' p := fun l' p hp => stn_GAn g l b (by omega) (by omega) (by omega)
  refine ⟨⟨by rw [stn_s g l b (by omega)]; exact hn, by rw [stn_s g l b (by omega)]; exact hG.1.2.1, fun l' hl' => ?_, fun l' hl' => ?_, fun l' hl' h0 => ?_, fun i hi hi2 => ?_⟩, fun l' hl' => ?_, ?_, ?_⟩
  · have h := GV_l hG.1 hl'
    rw [stn_GAn g l b (by omega) (by omega) (by omega), stn_GAn g l b (by omega) (by omega) (by omega), stn_GAn g l b (w' := 7) (by omega) (by omega) (by omega), stn_s g l b (by omega)]
    refine ⟨h.1, h.2.1, ?_, h.2.2.2.1, fun p hp => by rw [hs l' p hp]; exact h.2.2.2.2 p hp⟩
    rw [stn_GA g l b (by omega)]
    split
    · exact hb
    · rw [if_neg (by omega)]; exact h.2.2.1
  · rw [stn_s g l b (by omega)] at hl'
    rw [stn_GAn g l b (by omega) (by omega) (by omega), stn_GAn g l b (w' := 7) (by omega) (by omega) (by omega)]
    exact hG.1.2.2.2.1 l' hl'
  · rw [stn_GAn g l b (by omega) (by omega) (by omega)] at h0
    rw [stn_GAn g l b (w' := 7) (by omega) (by omega) (by omega)]
    exact ⟨(hG.1.2.2.2.2.1 l' hl' h0).1, fun p hp => by rw [hs l' p hp]; exact (hG.1.2.2.2.2.1 l' hl' h0).2 p hp⟩
  · rw [stn_s g l b (by omega)] at hi
    unfold stn updn
    rw [if_neg (by omega), if_neg (by omega), if_neg (by omega)]
    exact hG.1.2.2.2.2.2 i hi hi2
  · rw [stn_GA g l b (by omega), stn_GA g l b (by omega)]
    have := hG.2.1 l' hl'
    by_cases e : l' = l
    · subst e
      rw [if_neg (by omega), if_pos ⟨rfl, rfl⟩, if_pos ⟨rfl, rfl⟩]
      omega
    · rw [if_neg (by omega), if_neg (by omega), if_neg (by omega), if_neg (by omega)]
      exact this
  · rw [stn_4, stn_s g l b (by omega)]
    have h1 := fb_sm_upd (fun l => GA g l 3) (GA g l 3 + 1) (show l < 16 by omega)
    have h2 : fb_sm (fun l' => GA (stn g l b) l' 3) 16 = fb_sm (fun l' => if l' = l then GA g l 3 + 1 else GA g l' 3) 16 := fb_sm_cong fun l' _ => by
      rw [stn_GA g l b (by omega), if_neg (by omega)]
      by_cases e : l' = l
      · rw [if_pos ⟨e, rfl⟩, if_pos e]
      · rw [if_neg (by omega), if_neg e]
    rw [h2]
    have := hG.2.2.1
    omega
  · rw [stn_4, stn_s g l b (by omega)]
    have := hG.2.2.2
    omega
theorem set_both (hG : GW g B) (hC : CR g c st al ti tc se k w so ch) (hM : MR g nw) (hR : RR n rc rn rd wh wy mo) (an v1 : Int32) {b : Nat} (hb : b ≤ 1) : ∃ g' n' xc st' se' ch' rc' rn' rd' xm wh' an' nw' wy' mo', J_X9_setSwitch c st se k ch rc rn rd v1 (nI b) = some (xc, st', se', ch', rc', rn', rd') ∧ J_X10_switches wh an nw wy mo v1 (nI b) = some (xm, wh', an', nw', wy', mo') ∧ CR g' c st' al ti tc se' k w so ch' ∧ MR g' nw' ∧ GW g' (B + 1) ∧ RR n' rc' rn' rd' wh' wy' mo' ∧ OUT xc xm an' (g' = g) n' := by
  have hn := hG.1.1
  have hc := hC.1.1
  have nolan : (v1 < 0 ∨ nI (g 0) ≤ v1) → ∃ g' n' xc st' se' ch' rc' rn' rd' xm wh' an' nw' wy' mo', J_X9_setSwitch c st se k ch rc rn rd v1 (nI b) = some (xc, st', se', ch', rc', rn', rd') ∧ J_X10_switches wh an nw wy mo v1 (nI b) = some (xm, wh', an', nw', wy', mo') ∧ CR g' c st' al ti tc se' k w so ch' ∧ MR g' nw' ∧ GW g' (B + 1) ∧ RR n' rc' rn' rd' wh' wy' mo' ∧ OUT xc xm an' (g' = g) n' := fun h => by
    have e1 : J_X9_setSwitch c st se k ch rc rn rd v1 (nI b) = some (-nI 11, st, se, ch, rc, rn, rd) := by
      unfold J_X9_setSwitch
      rw [hc, X2_isHung_f h]
      simp (disch := omega) only [↓reduceIte, nm_x, chk_nI, chz_0, chz_1, chz_b2, chn_nI, oi_1, oi_2, oi_m1, il_0, il_1, il_2, il_3, il_4, il_5, il_6, il_7, il_8, il_9, il_10, il_11, il_12, il_13, il_14, il_15, il_16, il_32, il_35, il_40, il_41, il_42, il_43, il_44, il_45, il_46, il_48, il_57, il_58, il_59, il_60, il_99, il_104, il_115, il_116, il_119, il_126, il_133, il_255, il_256, il_512, il_931, il_1000, il_65536, bn0, bn1, bn2, bn3, bn4, bn5, bn6, bn7, bn8, bn9, bn10, bn11, bn12, bn13, bn14, bn15, nI_leI, nI_ltI, nI_eq, nI_clamp, nI_add, pk_mul, nI_lt0, ng_lt0, ng_ge0, ng_eqn, ng_neq, ng_len, ng_eq, sV_m1, sV_lt0, sV_ge0, if_true, if_false, Nat.le_refl, Nat.lt_irrefl, Nat.not_lt_zero, Nat.zero_le, not_true_eq_false, not_false_eq_true, false_and, true_and, and_true, and_false, true_or, or_true, false_or, or_false, reduceCtorEq]
    have e2 : J_X10_switches wh an nw wy mo v1 (nI b) = some (-nI 11, wh, an, nw, wy, mo) := by
      unfold J_X10_switches
      rw [X10_isLantern_f hG.1 hM h]
      simp (disch := omega) only [↓reduceIte, nm_x, chk_nI, chz_0, chz_1, chz_b2, chn_nI, oi_1, oi_2, oi_m1, il_0, il_1, il_2, il_3, il_4, il_5, il_6, il_7, il_8, il_9, il_10, il_11, il_12, il_13, il_14, il_15, il_16, il_32, il_35, il_40, il_41, il_42, il_43, il_44, il_45, il_46, il_48, il_57, il_58, il_59, il_60, il_99, il_104, il_115, il_116, il_119, il_126, il_133, il_255, il_256, il_512, il_931, il_1000, il_65536, bn0, bn1, bn2, bn3, bn4, bn5, bn6, bn7, bn8, bn9, bn10, bn11, bn12, bn13, bn14, bn15, nI_leI, nI_ltI, nI_eq, nI_clamp, nI_add, pk_mul, nI_lt0, ng_lt0, ng_ge0, ng_eqn, ng_neq, ng_len, ng_eq, sV_m1, sV_lt0, sV_ge0, if_true, if_false, Nat.le_refl, Nat.lt_irrefl, Nat.not_lt_zero, Nat.zero_le, not_true_eq_false, not_false_eq_true, false_and, true_and, and_true, and_false, true_or, or_true, false_or, or_false, reduceCtorEq]
    exact ⟨g, n, _, _, _, _, _, _, _, _, _, _, _, _, _, e1, e2, hC, hM, hG.up (by omega), hR, Or.inr ⟨rfl, 11, by omega, by omega, rfl, rfl, fun h => by omega⟩⟩
  rcases pk_ix v1 (n := g 0) (by omega) with h | h | ⟨l, hl, rfl⟩
  · exact nolan (Or.inl h)
  · exact nolan (Or.inr h)
  · have hl16 : l < 16 := by omega
    have hh : J_X2_isHung c (nI l) = some (nI 1) := by rw [hc]; exact X2_isHung_t hl hn
    have hlt := X10_isLantern_t hG.1 hM hl
    have hsx := X2_isSwitch hG.1 hC.1 hl
    have hsm := X10_isSwitch hG.1 hM hl16
    have hkx := X2_kindOf hG.1 hC.1 hl
    have hk0 := X10_of hM hl16 (show 0 < 8 by omega)
    have hk2 := X10_of hM hl16 (show 2 < 8 by omega)
    have hgl := X2_isGlowing (st := st) hC.2.1 hl16
    have hl2 := (GV_l hG.1 hl16).2.2.1
    by_cases h0 : GA g l 0 = 0
    · rw [decide_eq_true h0, b2_t] at hsx hsm
      have hgb : b2 (gw g l) = nI (GA g l 2) := by
        rw [gw_n hG.1 hl16]
        cases gw g l <;> rfl
      rw [hgb] at hgl
      by_cases hs : GA g l 2 = b
      · have e1 : J_X9_setSwitch c st se k ch rc rn rd (nI l) (nI b) = some (-nI 14, st, se, ch, nI 1, upd rn 0 (nI 7), upd rd 0 (nI l)) := by
          unfold J_X9_setSwitch
          rw [hh, hsx, hgl]
          simp (disch := omega) only [↓reduceIte, nm_x, chk_nI, chz_0, chz_1, chz_b2, chn_nI, oi_1, oi_2, oi_m1, il_0, il_1, il_2, il_3, il_4, il_5, il_6, il_7, il_8, il_9, il_10, il_11, il_12, il_13, il_14, il_15, il_16, il_32, il_35, il_40, il_41, il_42, il_43, il_44, il_45, il_46, il_48, il_57, il_58, il_59, il_60, il_99, il_104, il_115, il_116, il_119, il_126, il_133, il_255, il_256, il_512, il_931, il_1000, il_65536, bn0, bn1, bn2, bn3, bn4, bn5, bn6, bn7, bn8, bn9, bn10, bn11, bn12, bn13, bn14, bn15, nI_leI, nI_ltI, nI_eq, nI_clamp, nI_add, pk_mul, nI_lt0, ng_lt0, ng_ge0, ng_eqn, ng_neq, ng_len, ng_eq, sV_m1, sV_lt0, sV_ge0, if_true, if_false, Nat.le_refl, Nat.lt_irrefl, Nat.not_lt_zero, Nat.zero_le, not_true_eq_false, not_false_eq_true, false_and, true_and, and_true, and_false, true_or, or_true, false_or, or_false, reduceCtorEq, hs, refuse_c]
        have e2 : J_X10_switches wh an nw wy mo (nI l) (nI b) = some (-nI 14, nI 1, an, nw, upd wy 0 (nI 7), upd mo 0 (nI l)) := by
          unfold J_X10_switches
          rw [hlt, hsm]
          simp (disch := omega) only [↓reduceIte, nm_x, chk_nI, chz_0, chz_1, chz_b2, chn_nI, oi_1, oi_2, oi_m1, il_0, il_1, il_2, il_3, il_4, il_5, il_6, il_7, il_8, il_9, il_10, il_11, il_12, il_13, il_14, il_15, il_16, il_32, il_35, il_40, il_41, il_42, il_43, il_44, il_45, il_46, il_48, il_57, il_58, il_59, il_60, il_99, il_104, il_115, il_116, il_119, il_126, il_133, il_255, il_256, il_512, il_931, il_1000, il_65536, bn0, bn1, bn2, bn3, bn4, bn5, bn6, bn7, bn8, bn9, bn10, bn11, bn12, bn13, bn14, bn15, nI_leI, nI_ltI, nI_eq, nI_clamp, nI_add, pk_mul, nI_lt0, ng_lt0, ng_ge0, ng_eqn, ng_neq, ng_len, ng_eq, sV_m1, sV_lt0, sV_ge0, if_true, if_false, Nat.le_refl, Nat.lt_irrefl, Nat.not_lt_zero, Nat.zero_le, not_true_eq_false, not_false_eq_true, false_and, true_and, and_true, and_false, true_or, or_true, false_or, or_false, reduceCtorEq, hk2, hs, refuse_m]
        exact ⟨g, 1, _, _, _, _, _, _, _, _, _, _, _, _, _, e1, e2, hC, hM, hG.up (by omega), RR_1 _ _ _ _ _ _, Or.inr ⟨rfl, 14, by omega, by omega, rfl, rfl, fun _ => by omega⟩⟩
      · have hG' := GW_stn hG hl hb hs
        have hE' : ER (stn g l b) (st ^^^ ((1 : Int64) <<< ((nI l).toInt64 &&& 63))) := by
          have h := ER_glow hG.1 hC.2.1 hl
          have hb2 : 1 - GA g l 2 = b := by omega
          rw [hb2] at h
          refine ⟨fun l' hl' => ?_, fun l' j hl' hj => ?_⟩
          · rw [h.1 l' hl']
            unfold gw
            rw [stn_GA g l b (by omega)]
            by_cases e : l' = l
            · rw [e, updn_GA, if_pos ⟨rfl, rfl⟩]
            · rw [updn_GA_ne (by omega) (by omega) (by omega), if_neg (by omega), if_neg (by omega)]
          · rw [h.2 l' j hl' hj, updn_GA_ne (by omega) (by omega) (by omega), stn_GAn g l b (by omega) (by omega) (by omega)]
        have hM' : MR (stn g l b) (upd (upd (upd nw (5 + 8 * l + 2) (nI b)) (5 + 8 * l + 3) (nI (GA g l 3 + 1))) 4 (nI (g 4 + 1))) := MR_upd (MR_upd (MR_upd hM _ _) _ _) _ _
        have hch := hC.2.2.1 l hl16
        have hse := hC.2.2.2.2.2.2
        have htn : J_X2_turn c st se ch (nI l) = some (st ^^^ ((1 : Int64) <<< ((nI l).toInt64 &&& 63)), nI (g 4 + 1), upd ch l (nI (GA g l 3 + 1))) := by
          unfold J_X2_turn J_X2_turn_b40
          rw [hh, hse]
          simp (disch := omega) only [↓reduceIte, nm_x, chk_nI, chz_0, chz_1, chz_b2, chn_nI, oi_1, oi_2, oi_m1, il_0, il_1, il_2, il_3, il_4, il_5, il_6, il_7, il_8, il_9, il_10, il_11, il_12, il_13, il_14, il_15, il_16, il_32, il_35, il_40, il_41, il_42, il_43, il_44, il_45, il_46, il_48, il_57, il_58, il_59, il_60, il_99, il_104, il_115, il_116, il_119, il_126, il_133, il_255, il_256, il_512, il_931, il_1000, il_65536, bn0, bn1, bn2, bn3, bn4, bn5, bn6, bn7, bn8, bn9, bn10, bn11, bn12, bn13, bn14, bn15, nI_leI, nI_ltI, nI_eq, nI_clamp, nI_add, pk_mul, nI_lt0, ng_lt0, ng_ge0, ng_eqn, ng_neq, ng_len, ng_eq, sV_m1, sV_lt0, sV_ge0, if_true, if_false, Nat.le_refl, Nat.lt_irrefl, Nat.not_lt_zero, Nat.zero_le, not_true_eq_false, not_false_eq_true, false_and, true_and, and_true, and_false, true_or, or_true, false_or, or_false, reduceCtorEq, hch]
        obtain ⟨x, ex, hx⟩ := X2_glow (st ^^^ ((1 : Int64) <<< ((nI l).toInt64 &&& 63)))
        have hbc := gct_bits hG'.1 hx hE'
        have hgle := gct_le hG'.1
        have e1 : J_X9_setSwitch c st se k ch rc rn rd (nI l) (nI b) = some (nI (gct (stn g l b)), st ^^^ ((1 : Int64) <<< ((nI l).toInt64 &&& 63)), nI (g 4 + 1), upd ch l (nI (GA g l 3 + 1)), rc, rn, rd) := by
          unfold J_X9_setSwitch
          rw [hh, hsx, hgl]
          simp (disch := omega) only [↓reduceIte, nm_x, chk_nI, chz_0, chz_1, chz_b2, chn_nI, oi_1, oi_2, oi_m1, il_0, il_1, il_2, il_3, il_4, il_5, il_6, il_7, il_8, il_9, il_10, il_11, il_12, il_13, il_14, il_15, il_16, il_32, il_35, il_40, il_41, il_42, il_43, il_44, il_45, il_46, il_48, il_57, il_58, il_59, il_60, il_99, il_104, il_115, il_116, il_119, il_126, il_133, il_255, il_256, il_512, il_931, il_1000, il_65536, bn0, bn1, bn2, bn3, bn4, bn5, bn6, bn7, bn8, bn9, bn10, bn11, bn12, bn13, bn14, bn15, nI_leI, nI_ltI, nI_eq, nI_clamp, nI_add, pk_mul, nI_lt0, ng_lt0, ng_ge0, ng_eqn, ng_neq, ng_len, ng_eq, sV_m1, sV_lt0, sV_ge0, if_true, if_false, Nat.le_refl, Nat.lt_irrefl, Nat.not_lt_zero, Nat.zero_le, not_true_eq_false, not_false_eq_true, false_and, true_and, and_true, and_false, true_or, or_true, false_or, or_false, reduceCtorEq, hs, htn, ex, hbc]
        have hk3 : J_X10_of (upd nw (5 + 8 * l + 2) (nI b)) (nI l) (nI 3) = some (nI (GA g l 3)) := by
          rw [X10_of (MR_upd hM _ _) hl16 (by omega), updn_GA_ne (by omega) (by omega) (by omega)]
        have hn4 : upd (upd nw (5 + 8 * l + 2) (nI b)) (5 + 8 * l + 3) (nI (GA g l 3 + 1)) 4 = nI (g 4) := by
          unfold upd
          rw [if_neg (by omega), if_neg (by omega)]
          exact hM 4 (by omega)
        have e2 : J_X10_switches wh an nw wy mo (nI l) (nI b) = some (nI 0, wh, nI (gct (stn g l b)), upd (upd (upd nw (5 + 8 * l + 2) (nI b)) (5 + 8 * l + 3) (nI (GA g l 3 + 1))) 4 (nI (g 4 + 1)), wy, mo) := by
          unfold J_X10_switches J_X10_does
          rw [hlt, hsm]
          simp (disch := omega) only [↓reduceIte, nm_x, chk_nI, chz_0, chz_1, chz_b2, chn_nI, oi_1, oi_2, oi_m1, il_0, il_1, il_2, il_3, il_4, il_5, il_6, il_7, il_8, il_9, il_10, il_11, il_12, il_13, il_14, il_15, il_16, il_32, il_35, il_40, il_41, il_42, il_43, il_44, il_45, il_46, il_48, il_57, il_58, il_59, il_60, il_99, il_104, il_115, il_116, il_119, il_126, il_133, il_255, il_256, il_512, il_931, il_1000, il_65536, bn0, bn1, bn2, bn3, bn4, bn5, bn6, bn7, bn8, bn9, bn10, bn11, bn12, bn13, bn14, bn15, nI_leI, nI_ltI, nI_eq, nI_clamp, nI_add, pk_mul, nI_lt0, ng_lt0, ng_ge0, ng_eqn, ng_neq, ng_len, ng_eq, sV_m1, sV_lt0, sV_ge0, if_true, if_false, Nat.le_refl, Nat.lt_irrefl, Nat.not_lt_zero, Nat.zero_le, not_true_eq_false, not_false_eq_true, false_and, true_and, and_true, and_false, true_or, or_true, false_or, or_false, reduceCtorEq, hk2, hs, X10_sets hl16 (show 2 < 8 by omega), hk3, X10_sets hl16 (show 3 < 8 by omega), hn4, X10_glowing hG'.1 hM']
        obtain ⟨hS, hE, h3, h4, h5, h6, h7⟩ := hC
        refine ⟨_, n, _, _, _, _, _, _, _, _, _, _, _, _, _, e1, e2, ⟨⟨by rw [stn_s g l b (by omega)]; exact hS.1, fun l' hl' => by rw [stn_GAn g l b (by omega) (by omega) (by omega)]; exact hS.2.1 l' hl', fun l' hl' => by rw [stn_GAn g l b (by omega) (by omega) (by omega)]; exact hS.2.2.1 l' hl', fun l' p hl' hp => by rw [show src (stn g l b) l' p = src g l' p from stn_GAn g l b (by omega) (by omega) (by omega)]; exact hS.2.2.2 l' p hl' hp⟩, hE', fun l' hl' => ?_, by rw [stn_s g l b (by omega)]; exact h4, by rw [stn_s g l b (by omega)]; exact h5, by rw [stn_s g l b (by omega)]; exact h6, by rw [stn_4]⟩, hM', hG', hR, Or.inl ⟨_, by omega, rfl, rfl, rfl⟩⟩
        rw [stn_GA g l b (by omega), if_neg (by omega)]
        unfold upd
        by_cases e : l' = l
        · rw [if_pos e, if_pos ⟨e, rfl⟩]
        · rw [if_neg e, if_neg (by omega)]; exact h3 l' hl'
    · rw [decide_eq_false h0, b2_f] at hsx hsm
      have e1 : J_X9_setSwitch c st se k ch rc rn rd (nI l) (nI b) = some (-nI 14, st, se, ch, nI 1, upd rn 0 (nI 6), upd rd 0 (nI (GA g l 0))) := by
        unfold J_X9_setSwitch
        rw [hh, hsx, hkx]
        simp (disch := omega) only [↓reduceIte, nm_x, chk_nI, chz_0, chz_1, chz_b2, chn_nI, oi_1, oi_2, oi_m1, il_0, il_1, il_2, il_3, il_4, il_5, il_6, il_7, il_8, il_9, il_10, il_11, il_12, il_13, il_14, il_15, il_16, il_32, il_35, il_40, il_41, il_42, il_43, il_44, il_45, il_46, il_48, il_57, il_58, il_59, il_60, il_99, il_104, il_115, il_116, il_119, il_126, il_133, il_255, il_256, il_512, il_931, il_1000, il_65536, bn0, bn1, bn2, bn3, bn4, bn5, bn6, bn7, bn8, bn9, bn10, bn11, bn12, bn13, bn14, bn15, nI_leI, nI_ltI, nI_eq, nI_clamp, nI_add, pk_mul, nI_lt0, ng_lt0, ng_ge0, ng_eqn, ng_neq, ng_len, ng_eq, sV_m1, sV_lt0, sV_ge0, if_true, if_false, Nat.le_refl, Nat.lt_irrefl, Nat.not_lt_zero, Nat.zero_le, not_true_eq_false, not_false_eq_true, false_and, true_and, and_true, and_false, true_or, or_true, false_or, or_false, reduceCtorEq, refuse_c]
      have e2 : J_X10_switches wh an nw wy mo (nI l) (nI b) = some (-nI 14, nI 1, an, nw, upd wy 0 (nI 6), upd mo 0 (nI (GA g l 0))) := by
        unfold J_X10_switches
        rw [hlt, hsm]
        simp (disch := omega) only [↓reduceIte, nm_x, chk_nI, chz_0, chz_1, chz_b2, chn_nI, oi_1, oi_2, oi_m1, il_0, il_1, il_2, il_3, il_4, il_5, il_6, il_7, il_8, il_9, il_10, il_11, il_12, il_13, il_14, il_15, il_16, il_32, il_35, il_40, il_41, il_42, il_43, il_44, il_45, il_46, il_48, il_57, il_58, il_59, il_60, il_99, il_104, il_115, il_116, il_119, il_126, il_133, il_255, il_256, il_512, il_931, il_1000, il_65536, bn0, bn1, bn2, bn3, bn4, bn5, bn6, bn7, bn8, bn9, bn10, bn11, bn12, bn13, bn14, bn15, nI_leI, nI_ltI, nI_eq, nI_clamp, nI_add, pk_mul, nI_lt0, ng_lt0, ng_ge0, ng_eqn, ng_neq, ng_len, ng_eq, sV_m1, sV_lt0, sV_ge0, if_true, if_false, Nat.le_refl, Nat.lt_irrefl, Nat.not_lt_zero, Nat.zero_le, not_true_eq_false, not_false_eq_true, false_and, true_and, and_true, and_false, true_or, or_true, false_or, or_false, reduceCtorEq, hk0, refuse_m]
      exact ⟨g, 1, _, _, _, _, _, _, _, _, _, _, _, _, _, e1, e2, hC, hM, hG.up (by omega), RR_1 _ _ _ _ _ _, Or.inr ⟨rfl, 14, by omega, by omega, rfl, rfl, fun _ => by omega⟩⟩
/-! ticks go by -/
theorem CR_tk {st' : Int64} {ch' : Nat → Int32} (hC : CR g c st al ti tc se k w so ch) (hE' : ER (tk g) st') (hch : ∀ l, l < 16 → ch' l = nI (GA (tk g) l 3)) : CR (tk g) c st' al (nI (g 2 + 1)) (nI (g 3 + fb_sm (dg g) 16)) se k w so ch' :=
  ⟨SR_SEq (tk_SEq g) hC.1, hE', hch, by rw [tk_1]; exact hC.2.2.2.1, by rw [tk_2], by rw [tk_3], by rw [tk_4]; exact hC.2.2.2.2.2.2⟩
theorem X9_go_L (hG : GV g) {tt : Nat} (htt : tt ≤ 99) : ∀ d nf t st ti tc ch, t + d = tt → d < nf → CR (tki g t) c st al ti tc se k w so ch → ∃ st' ti' tc' ch', J_X9_letGoBy_L18 c k w so (nI tt) nf st ti tc ch (nI (tsum g t)) (nI t) = some (nI (tsum g tt), st', ti', tc', ch') ∧ CR (tki g tt) c st' al ti' tc' se k w so ch' := by
  intro d
  induction d with
  | zero =>
    intro nf t st ti tc ch ht hd hC
    obtain ⟨m, rfl, -⟩ := nf_of hd
    obtain rfl : t = tt := by omega
    refine ⟨st, ti, tc, ch, ?_, hC⟩
    rw [J_X9_letGoBy_L18]
    simp (disch := omega) only [↓reduceIte, nm_x, chk_nI, chz_0, chz_1, chz_b2, chn_nI, oi_1, oi_2, oi_m1, il_0, il_1, il_2, il_3, il_4, il_5, il_6, il_7, il_8, il_9, il_10, il_11, il_12, il_13, il_14, il_15, il_16, il_32, il_35, il_40, il_41, il_42, il_43, il_44, il_45, il_46, il_48, il_57, il_58, il_59, il_60, il_99, il_104, il_115, il_116, il_119, il_126, il_133, il_255, il_256, il_512, il_931, il_1000, il_65536, bn0, bn1, bn2, bn3, bn4, bn5, bn6, bn7, bn8, bn9, bn10, bn11, bn12, bn13, bn14, bn15, nI_leI, nI_ltI, nI_eq, nI_clamp, nI_add, pk_mul, nI_lt0, ng_lt0, ng_ge0, ng_eqn, ng_neq, ng_len, ng_eq, sV_m1, sV_lt0, sV_ge0, if_true, if_false, Nat.le_refl, Nat.lt_irrefl, Nat.not_lt_zero, Nat.zero_le, not_true_eq_false, not_false_eq_true, false_and, true_and, and_true, and_false, true_or, or_true, false_or, or_false, reduceCtorEq]
  | succ d ih =>
    intro nf t st ti tc ch ht hd hC
    obtain ⟨m, rfl, hm⟩ := nf_of hd
    obtain ⟨st', ch', e1, h1, h2⟩ := X2_goOn (GV_tki hG t) hC.1 hC.2.1 hC.2.2.2.2.1 hC.2.2.2.2.2.1 hC.2.2.1
    have ih' := ih m (t + 1) _ _ _ _ (by omega) hm (CR_tk hC h1 h2)
    have e2 : tsum g (t + 1) = tsum g t + fb_sm (dg (tki g t)) 16 := rfl
    rw [e2] at ih'
    rw [J_X9_letGoBy_L18]
    simp (disch := omega) only [↓reduceIte, nm_x, chk_nI, chz_0, chz_1, chz_b2, chn_nI, oi_1, oi_2, oi_m1, il_0, il_1, il_2, il_3, il_4, il_5, il_6, il_7, il_8, il_9, il_10, il_11, il_12, il_13, il_14, il_15, il_16, il_32, il_35, il_40, il_41, il_42, il_43, il_44, il_45, il_46, il_48, il_57, il_58, il_59, il_60, il_99, il_104, il_115, il_116, il_119, il_126, il_133, il_255, il_256, il_512, il_931, il_1000, il_65536, bn0, bn1, bn2, bn3, bn4, bn5, bn6, bn7, bn8, bn9, bn10, bn11, bn12, bn13, bn14, bn15, nI_leI, nI_ltI, nI_eq, nI_clamp, nI_add, pk_mul, nI_lt0, ng_lt0, ng_ge0, ng_eqn, ng_neq, ng_len, ng_eq, sV_m1, sV_lt0, sV_ge0, if_true, if_false, Nat.le_refl, Nat.lt_irrefl, Nat.not_lt_zero, Nat.zero_le, not_true_eq_false, not_false_eq_true, false_and, true_and, and_true, and_false, true_or, or_true, false_or, or_false, reduceCtorEq, show ¬ tt ≤ t by omega, e1]
    exact ih'
theorem X10_ticks_L (hG : GV g) {tt : Nat} (htt : tt ≤ 99) (an : Int32) : ∀ d nf t (nw fi : Nat → Int32), t + d = tt → d < nf → MR (tki g t) nw → ∃ nw' fi', J_X10_ticks_L17 (nI tt) nf an nw fi (nI (tsum g t)) (nI t) = some (nI 0, nI (tsum g tt), nw', fi') ∧ MR (tki g tt) nw' := by
  intro d
  induction d with
  | zero =>
    intro nf t nw fi ht hd hM
    obtain ⟨m, rfl, -⟩ := nf_of hd
    obtain rfl : t = tt := by omega
    refine ⟨nw, fi, ?_, hM⟩
    rw [J_X10_ticks_L17]
    unfold J_X10_does
    simp (disch := omega) only [↓reduceIte, nm_x, chk_nI, chz_0, chz_1, chz_b2, chn_nI, oi_1, oi_2, oi_m1, il_0, il_1, il_2, il_3, il_4, il_5, il_6, il_7, il_8, il_9, il_10, il_11, il_12, il_13, il_14, il_15, il_16, il_32, il_35, il_40, il_41, il_42, il_43, il_44, il_45, il_46, il_48, il_57, il_58, il_59, il_60, il_99, il_104, il_115, il_116, il_119, il_126, il_133, il_255, il_256, il_512, il_931, il_1000, il_65536, bn0, bn1, bn2, bn3, bn4, bn5, bn6, bn7, bn8, bn9, bn10, bn11, bn12, bn13, bn14, bn15, nI_leI, nI_ltI, nI_eq, nI_clamp, nI_add, pk_mul, nI_lt0, ng_lt0, ng_ge0, ng_eqn, ng_neq, ng_len, ng_eq, sV_m1, sV_lt0, sV_ge0, if_true, if_false, Nat.le_refl, Nat.lt_irrefl, Nat.not_lt_zero, Nat.zero_le, not_true_eq_false, not_false_eq_true, false_and, true_and, and_true, and_false, true_or, or_true, false_or, or_false, reduceCtorEq]
  | succ d ih =>
    intro nf t nw fi ht hd hM
    obtain ⟨m, rfl, hm⟩ := nf_of hd
    obtain ⟨nw1, fi1, e1, h1⟩ := X10_goes (GV_tki hG t) hM fi
    have ih' := ih m (t + 1) nw1 fi1 (by omega) hm h1
    have e2 : tsum g (t + 1) = tsum g t + fb_sm (dg (tki g t)) 16 := rfl
    rw [e2] at ih'
    rw [J_X10_ticks_L17]
    simp (disch := omega) only [↓reduceIte, nm_x, chk_nI, chz_0, chz_1, chz_b2, chn_nI, oi_1, oi_2, oi_m1, il_0, il_1, il_2, il_3, il_4, il_5, il_6, il_7, il_8, il_9, il_10, il_11, il_12, il_13, il_14, il_15, il_16, il_32, il_35, il_40, il_41, il_42, il_43, il_44, il_45, il_46, il_48, il_57, il_58, il_59, il_60, il_99, il_104, il_115, il_116, il_119, il_126, il_133, il_255, il_256, il_512, il_931, il_1000, il_65536, bn0, bn1, bn2, bn3, bn4, bn5, bn6, bn7, bn8, bn9, bn10, bn11, bn12, bn13, bn14, bn15, nI_leI, nI_ltI, nI_eq, nI_clamp, nI_add, pk_mul, nI_lt0, ng_lt0, ng_ge0, ng_eqn, ng_neq, ng_len, ng_eq, sV_m1, sV_lt0, sV_ge0, if_true, if_false, Nat.le_refl, Nat.lt_irrefl, Nat.not_lt_zero, Nat.zero_le, not_true_eq_false, not_false_eq_true, false_and, true_and, and_true, and_false, true_or, or_true, false_or, or_false, reduceCtorEq, show ¬ tt ≤ t by omega, e1]
    exact ih'
theorem tick_both (hG : GW g B) (hC : CR g c st al ti tc se k w so ch) (hM : MR g nw) (an v1 : Int32) (fi : Nat → Int32) (n : Nat) : ∃ g' xc st' ti' tc' ch' xm an' nw' fi', J_X9_letGoBy c st ti tc k w so ch v1 = some (xc, st', ti', tc', ch') ∧ J_X10_ticks an nw fi v1 = some (xm, an', nw', fi') ∧ CR g' c st' al ti' tc' se k w so ch' ∧ MR g' nw' ∧ GW g' (B + 1584) ∧ OUT xc xm an' (g' = g) n := by
  by_cases hv : v1 < nI 1 ∨ nI 99 < v1
  · have e1 : J_X9_letGoBy c st ti tc k w so ch v1 = some (-nI 12, st, ti, tc, ch) := by
      unfold J_X9_letGoBy J_X9_letGoBy_b11
      by_cases a1 : v1 < 1
      · rw [if_pos a1, il_12]
      · rw [if_neg a1, if_neg (show ¬ v1 ≤ (99 : Int32) from fun h => absurd h (fa_of_lt (hv.resolve_left a1)).2.1), il_12]
    have e2 : J_X10_ticks an nw fi v1 = some (-nI 12, an, nw, fi) := by
      unfold J_X10_ticks
      simp only [il_0, il_1, il_99, il_12]
      rw [X10_in_f hv, bn1, if_pos rfl]
    exact ⟨g, _, _, _, _, _, _, _, _, _, e1, e2, hC, hM, hG.up (by omega), Or.inr ⟨rfl, 12, by omega, by omega, rfl, rfl, fun h => by omega⟩⟩
  · have a1 : ¬ v1 < nI 1 := fun h => hv (Or.inl h)
    have a2 : ¬ nI 99 < v1 := fun h => hv (Or.inr h)
    have a3 : ¬ v1 < 0 := fun h => a1 (by rw [fa_lt] at h ⊢; rw [nI_toInt (by omega)]; rw [il_0, nI_toInt (by omega)] at h; omega)
    obtain ⟨tt, htt, rfl⟩ := nI_of2 (M := nI 99) (n := 99) (nI_toInt (by omega)) a3 (fa_of_nlt a2)
    rw [nI_ltI (by omega) (by omega)] at a1
    have ht := tsum_le g tt
    obtain ⟨st', ti', tc', ch', e1, h1⟩ := X9_go_L (se := se) hG.1 htt tt FU 0 st ti tc ch (by omega) (by unfold FU; omega) hC
    obtain ⟨nw', fi', e2, h2⟩ := X10_ticks_L hG.1 htt an tt FU 0 nw fi (by omega) (by unfold FU; omega) hM
    have in1 : J_X10_in (nI tt) (nI 1) (nI 99) = some (nI 1) := X10_in_t (nI_nlt (by omega) (by omega)) (nI_nlt htt (by omega))
    have e3 : J_X9_letGoBy c st ti tc k w so ch (nI tt) = some (nI (tsum g tt), st', ti', tc', ch') := by
      unfold J_X9_letGoBy
      simp (disch := omega) only [↓reduceIte, nm_x, chk_nI, chz_0, chz_1, chz_b2, chn_nI, oi_1, oi_2, oi_m1, il_0, il_1, il_2, il_3, il_4, il_5, il_6, il_7, il_8, il_9, il_10, il_11, il_12, il_13, il_14, il_15, il_16, il_32, il_35, il_40, il_41, il_42, il_43, il_44, il_45, il_46, il_48, il_57, il_58, il_59, il_60, il_99, il_104, il_115, il_116, il_119, il_126, il_133, il_255, il_256, il_512, il_931, il_1000, il_65536, bn0, bn1, bn2, bn3, bn4, bn5, bn6, bn7, bn8, bn9, bn10, bn11, bn12, bn13, bn14, bn15, nI_leI, nI_ltI, nI_eq, nI_clamp, nI_add, pk_mul, nI_lt0, ng_lt0, ng_ge0, ng_eqn, ng_neq, ng_len, ng_eq, sV_m1, sV_lt0, sV_ge0, if_true, if_false, Nat.le_refl, Nat.lt_irrefl, Nat.not_lt_zero, Nat.zero_le, not_true_eq_false, not_false_eq_true, false_and, true_and, and_true, and_false, true_or, or_true, false_or, or_false, reduceCtorEq, show ¬ tt < 1 by omega, htt]
      exact e1
    have e4 : J_X10_ticks an nw fi (nI tt) = some (nI 0, nI (tsum g tt), nw', fi') := by
      unfold J_X10_ticks
      simp (disch := omega) only [↓reduceIte, nm_x, chk_nI, chz_0, chz_1, chz_b2, chn_nI, oi_1, oi_2, oi_m1, il_0, il_1, il_2, il_3, il_4, il_5, il_6, il_7, il_8, il_9, il_10, il_11, il_12, il_13, il_14, il_15, il_16, il_32, il_35, il_40, il_41, il_42, il_43, il_44, il_45, il_46, il_48, il_57, il_58, il_59, il_60, il_99, il_104, il_115, il_116, il_119, il_126, il_133, il_255, il_256, il_512, il_931, il_1000, il_65536, bn0, bn1, bn2, bn3, bn4, bn5, bn6, bn7, bn8, bn9, bn10, bn11, bn12, bn13, bn14, bn15, nI_leI, nI_ltI, nI_eq, nI_clamp, nI_add, pk_mul, nI_lt0, ng_lt0, ng_ge0, ng_eqn, ng_neq, ng_len, ng_eq, sV_m1, sV_lt0, sV_ge0, if_true, if_false, Nat.le_refl, Nat.lt_irrefl, Nat.not_lt_zero, Nat.zero_le, not_true_eq_false, not_false_eq_true, false_and, true_and, and_true, and_false, true_or, or_true, false_or, or_false, reduceCtorEq, in1]
      exact e2
    exact ⟨tki g tt, _, _, _, _, _, _, _, _, _, e3, e4, h1, h2, (hG.tki tt).up (by omega), Or.inl ⟨_, by omega, rfl, rfl, rfl⟩⟩
end Ops2

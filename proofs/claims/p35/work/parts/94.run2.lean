/-! p35: TEXTS, of the class alone: what a text makes of the state and of the past -/
section RunX
variable {g gh : Nat → Nat} {hl : Nat → Nat → Nat} {B n n0 N u tp : Nat} {tg : Nat → Nat} {sg : Nat → Int32} {c al ti tc se top und rc : Int32} {st : Int64} {k w so ch rn rd : Nat → Int32} {Rc : Nat → Int32} {Rk Rw Rs Rch : Nat → Nat → Int32} {Rst : Nat → Int64} {Ral Rti Rtc Rse : Nat → Int32}
theorem carry_any (hG : GW g B) (hC : CR g c st al ti tc se k w so ch) (hR : RC n rc) {K x y z : Nat} (hK : K ≤ 4) (hy : K = 3 → y ≤ 1) {wd f s t : Int32} (h1 : OK1 (some (K, x, y, z)) wd f s t) : ∃ (g' : Nat → Nat) (n' : Nat) (xc c' : Int32) (st' : Int64) (ti' tc' se' : Int32) (k' w' so' ch' : Nat → Int32) (rc' : Int32) (rn' rd' : Nat → Int32), J_X9_carryOut c st al ti tc se k w so ch wd f s t rc rn rd = some (xc, c', st', ti', tc', se', k', w', so', ch', rc', rn', rd') ∧ CR g' c' st' al ti' tc' se' k' w' so' ch' ∧ GW g' (B + 1584) ∧ RC n' rc' ∧ ((∃ a, a < 2 ^ 31 ∧ xc = nI a) ∨ (g' = g ∧ ∃ e, 11 ≤ e ∧ e ≤ 14 ∧ xc = -nI e ∧ (e = 14 → 1 ≤ n' ∧ n' ≤ 2))) := by
  obtain ⟨g', n', xc, c', st', ti', tc', se', k', w', so', ch', rc', rn', rd', xm, wh', an', nw', fi', sp', wy', mo', e1, -, hC', -, hG', hR', hO⟩ := carry_both hG hC (MR_O g) (RC_RR (rn := rn) (rd := rd) hR) hK hy h1 (o := nI (oc K)) (told := fun i => if i = 0 then nI x else if i = 1 then nI y else nI z) (fun K' x' y' z' h => by
    cases h
    exact ⟨rfl, rfl, fun _ => rfl, fun _ => rfl⟩) 0 (fun _ => 0) (fun _ => 0)
  refine ⟨g', n', xc, c', st', ti', tc', se', k', w', so', ch', rc', rn', rd', e1, hC', hG', RR_RC hR', ?_⟩
  rcases hO with ⟨a, ha, h2, -, -⟩ | ⟨hs, e, h11, h14, h2, -, h3⟩
  · exact Or.inl ⟨a, ha, h2⟩
  · exact Or.inr ⟨hs, e, h11, h14, h2, h3⟩
theorem refuseOrder_x (hR : RC n rc) {j e : Nat} (hj : j < 2 ^ 31) (he : 11 ≤ e ∧ e ≤ 14 ∧ (e = 14 → 1 ≤ n ∧ n ≤ 2)) : ∃ n' rc' rn' rd', J_X9_refuseOrder rc rn rd (nI j) (-nI e) = some (-nI 14, rc', rn', rd') ∧ RC n' rc' := by
  obtain ⟨n', rc', rn', rd', wh', wy', mo', e1, -, h⟩ := refuseOrder_both (RC_RR (rn := rn) (rd := rd) hR) hj he
  exact ⟨n', rc', rn', rd', e1, RR_RC h⟩
theorem run2_x (hT1 : TG n tg sg) (hH : HX hl N u tp B top und Rc Rk Rw Rs Rch Rst Ral Rti Rtc Rse) (hL : SL gh tp Rc Rk Rw Rs Rch Rst Ral Rti Rtc Rse) (hGh : GW gh B) : ∀ d nf a p j (g : Nat → Nat) (B' n0 : Nat) (c al ti tc se w0 f0 s0 t0 m0 rc : Int32) (st : Int64) (k w so ch rn rd : Nat → Int32), n - a < d → d < nf → 2 * j ≤ a → a ≤ n → (p = 0 ∧ a = 0 ∨ 0 < p ∧ p + 1 = a ∧ tg p = 59) → (RF n tg d a).2 = true → B ≤ B' → GW g B' → CR g c st al ti tc se k w so ch → RC n0 rc → ∃ (g' : Nat → Nat) (n' : Nat) (x c' : Int32) (st' : Int64) (al' ti' tc' se' : Int32) (k' w' so' ch' : Nat → Int32) (top' und' at' wd' f' s' t' m' rc' : Int32) (rn' rd' : Nat → Int32), J_X9_carryOutAll_L20 (nI n) sg nf c st al ti tc se k w so ch top und (nI p) w0 f0 s0 t0 m0 rc rn rd Rc Rk Rw Rs Rch Rst Ral Rti Rtc Rse (nI j) = some (x, c', st', al', ti', tc', se', k', w', so', ch', top', und', at', wd', f', s', t', m', rc', rn', rd', Rc, Rk, Rw, Rs, Rch, Rst, Ral, Rti, Rtc, Rse) ∧ CR g' c' st' al' ti' tc' se' k' w' so' ch' ∧ GW g' (B' + 1584 * d) ∧ RC n' rc' ∧ (x < 0 → g' = gh) ∧ CHX x gh hl N u B top' und' Rc Rk Rw Rs Rch Rst Ral Rti Rtc Rse := by
  have h60 := hT1.1
  intro d
  induction d with
  | zero => intro nf a p j g B' n0 c al ti tc se w0 f0 s0 t0 m0 rc st k w so ch rn rd hd; omega
  | succ d ih =>
    intro nf a p j g B' n0 c al ti tc se w0 f0 s0 t0 m0 rc st k w so ch rn rd hd hnf hj ha hp hRF hB hG hC hR
    obtain ⟨m, rfl, hm⟩ := nf_of hnf
    rw [RF] at hRF
    rw [J_X9_carryOutAll_L20]
    obtain ⟨wd, f, s, t, mm, e1, e2⟩ := X8_next hT1 hp ha w0 f0 s0 t0 m0
    rw [e1]
    rcases hq : PO n tg a with ⟨b, _ | ⟨K, x, y, z⟩⟩ <;> rw [hq] at hRF e2
    · cases hRF
    · obtain ⟨p1, p2, v1, v2, v3, v4, v5⟩ := PO_v hq
      obtain ⟨g1, n1, xc, c1, st1, ti1, tc1, se1, k1, w1, so1, ch1, rc1, rn1, rd1, r1, hC1, hG1, hR1, hO1⟩ := carry_any (rn := rn) (rd := rd) hG hC hR v1 v4 e2
      rw [if_neg (show ¬ (60 : Int32) ≤ nI j by rw [il_60, nI_leI (by omega) (by omega)]; omega), bn7, oS, b2_t, if_neg (show ¬ nI 1 = (0 : Int32) by decide +kernel), r1, bn13]
      rcases hO1 with ⟨r, hr, rfl⟩ | ⟨hsame, e, h11, h14, rfl, hn14⟩
      · rw [if_pos (show (0 : Int32) ≤ nI r by rw [il_0, nI_leI (by omega) hr]; omega), oi_1, nI_add, nm_x]
        replace hRF : (if b = n then (b, true) else if tg b = 59 then RF n tg d (b + 1) else (b, false)).2 = true := hRF
        by_cases hb : b = n
        · subst hb
          obtain ⟨q, rfl, hq1⟩ := nf_of (show 0 < m by omega)
          rw [J_X9_carryOutAll_L20, if_neg (show ¬ (60 : Int32) ≤ nI (j + 1) by rw [il_60, nI_leI (by omega) (by omega)]; omega), X8_next_n hT1 (by omega), bn7, if_pos (show nI 0 = (0 : Int32) from rfl)]
          unfold J_X9_carryOutAll_b69
          obtain ⟨top', und', y1, y2⟩ := keep_x hGh hH hL
          rw [y1, bn2]
          exact ⟨g1, n1, _, _, _, _, _, _, _, _, _, _, _, _, _, _, _, _, _, _, _, _, _, _, rfl, hC1, hG1.up (by omega), hR1, fun h => absurd h (nI_pos (by omega)), _, Or.inl ⟨nI_pos (by omega), y2⟩⟩
        · rw [if_neg hb] at hRF
          by_cases h59 : tg b = 59
          · rw [if_pos h59] at hRF
            obtain ⟨g', n', x', c', st', al', ti', tc', se', k', w', so', ch', top', und', at', wd', f', s', t', m'', rc', rn', rd', z1, z3, z5, z6, z7, z8⟩ := ih m (b + 1) b (j + 1) g1 (B' + 1584) n1 c1 al ti1 tc1 se1 wd f s t mm rc1 st1 k1 w1 so1 ch1 rn1 rd1 (by omega) hm (by omega) (by omega) (Or.inr ⟨by omega, rfl, h59⟩) hRF (by omega) hG1 hC1 hR1
            exact ⟨g', n', _, _, _, _, _, _, _, _, _, _, _, _, _, _, _, _, _, _, _, _, _, _, z1, z3, z5.up (by omega), z6, z7, z8⟩
          · rw [if_neg h59] at hRF; cases hRF
      · subst hsame
        obtain ⟨ht8, htop⟩ : tp ≤ 8 ∧ top = nI tp := ⟨hH.2.2.1, hH.2.2.2.1⟩
        rw [if_neg (show ¬ (0 : Int32) ≤ -nI e from fun q => (ng_ge0 (by omega) (by omega)).1 q)]
        obtain ⟨c2, st2, al2, ti2, tc2, se2, k2, w2, so2, ch2, y1, hC2⟩ := backHeld hGh.1 ht8 hL k1 w1 so1 ch1
        obtain ⟨n3, rc3, rn3, rd3, y2, hR3⟩ := refuseOrder_x (rn := rn1) (rd := rd1) hR1 (show j < 2 ^ 31 by omega) ⟨h11, h14, hn14⟩
        rw [htop, y1, bn10, y2, bn4]
        exact ⟨gh, n3, _, _, _, _, _, _, _, _, _, _, _, _, _, _, _, _, _, _, _, _, _, _, rfl, hC2, hGh.up (by omega), hR3, fun _ => rfl, tp, Or.inr ⟨by decide +kernel, htop ▸ hH⟩⟩
theorem run_x (hT1 : TG n tg sg) (hG : GW g B) (hC : CR g c st al ti tc se k w so ch) (hR : RC n0 rc) (hH : HX hl N u tp B top und Rc Rk Rw Rs Rch Rst Ral Rti Rtc Rse) (a0 w0 f0 s0 t0 m0 : Int32) : ∃ (g' : Nat → Nat) (n' : Nat) (x c' : Int32) (st' : Int64) (al' ti' tc' se' : Int32) (k' w' so' ch' : Nat → Int32) (top' und' at' wd' f' s' t' m' rc' : Int32) (rn' rd' : Nat → Int32) (Rc' : Nat → Int32) (Rk' Rw' Rs' Rch' : Nat → Nat → Int32) (Rst' : Nat → Int64) (Ral' Rti' Rtc' Rse' : Nat → Int32), J_X9_run c st al ti tc se k w so ch top und (nI n) a0 w0 f0 s0 t0 m0 sg rc rn rd Rc Rk Rw Rs Rch Rst Ral Rti Rtc Rse = some (x, c', st', al', ti', tc', se', k', w', so', ch', top', und', nI 0, at', wd', f', s', t', m', rc', rn', rd', Rc', Rk', Rw', Rs', Rch', Rst', Ral', Rti', Rtc', Rse') ∧ CR g' c' st' al' ti' tc' se' k' w' so' ch' ∧ GW g' (B + 100000) ∧ RC n' rc' ∧ (x < 0 → g' = g) ∧ CHX x g hl N u B top' und' Rc' Rk' Rw' Rs' Rch' Rst' Ral' Rti' Rtc' Rse' ∧ ((RF n tg 61 0).2 = false → x = (-1000 : Int32) - nI (RF n tg 61 0).1 ∧ rc' = rc ∧ rn' = rn ∧ rd' = rd) := by
  have h60 := hT1.1
  obtain ⟨wd, f, s, t, mm, e1⟩ := X8_isRight hT1 a0 w0 f0 s0 t0 m0
  have hle := RF_le (n := n) (tg := tg) 61 0 (Nat.zero_le n)
  unfold J_X9_run J_X9_run_b28 J_X8_empty J_X8_position
  rw [e1, bn7]
  rcases hr : (RF n tg 61 0).2 with _ | _
  · rw [b2_f, if_pos (show nI 0 = (0 : Int32) from rfl), bn1, nm_x, bn1]
    refine ⟨g, n0, _, _, _, _, _, _, _, _, _, _, _, _, _, _, _, _, _, _, _, _, _, _, _, _, _, _, _, _, _, _, _, _, rfl, hC, hG.up (by omega), hR, fun _ => rfl, ⟨tp, Or.inr ⟨?_, hH⟩⟩, fun _ => ⟨rfl, rfl, rfl, rfl⟩⟩
    exact (by decide +kernel : ∀ a, a < 61 → (-1000 : Int32) - nI a < 0) _ (by omega)
  · rw [b2_t, if_neg (show ¬ nI 1 = (0 : Int32) by decide +kernel)]
    unfold J_X9_carryOutAll J_X8_toStart
    obtain ⟨Rc3, Rk3, Rw3, Rs3, Rch3, Rst3, Ral3, Rti3, Rtc3, Rse3, y1, y2, y3⟩ := hold_x hG.1 hC hH
    rw [y1, bn10, bn1]
    obtain ⟨g', n', x', c', st', al', ti', tc', se', k', w', so', ch', top', und', at', wd', f', s', t', m'', rc', rn', rd', z1, z3, z5, z6, z7, z8⟩ := run2_x hT1 y2 y3 hG 61 FU 0 0 0 g B n0 c al ti tc se wd f s t mm rc st k w so ch rn rd (by omega) (by unfold FU; omega) (by omega) (by omega) (Or.inl ⟨rfl, rfl⟩) hr (Nat.le_refl B) hG hC hR
    rw [il_0, z1, bn32, bn1]
    exact ⟨g', n', _, _, _, _, _, _, _, _, _, _, _, _, _, _, _, _, _, _, _, _, _, _, _, _, _, _, _, _, _, _, _, _, rfl, z3, z5.up (by omega), z6, z7, z8, fun h => by cases h⟩
end RunX

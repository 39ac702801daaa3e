/-! p35: the ring goes round -/
section RingT
variable {t : Nat}
theorem ES_at (t : Nat) {l w : Nat} (hl : l < 16) (hw : w < 8) : GA (ES 16 16 1 t) l w = if w = 0 then (if l = 0 then 0 else if l = 1 then 1 else 6) else if w = 1 then (if l = 0 then 4 else 1) else if w = 2 then eg l t else if w = 3 then ec l t else if w = 4 then (if l = 0 then 0 else if l = 1 then 16 else l) else 0 := by
  unfold GA ES
  rw [if_neg (by omega), if_neg (by omega), if_neg (by omega), if_neg (by omega), if_neg (by omega), if_neg (by omega), show (5 + 8 * l + w - 5) % 8 = w by omega, show (5 + 8 * l + w - 5) / 8 = l by omega]
theorem ES_a0 (t : Nat) {l : Nat} (hl : l < 16) : GA (ES 16 16 1 t) l 0 = if l = 0 then 0 else if l = 1 then 1 else 6 := ES_at t hl (by omega)
theorem ES_a1 (t : Nat) {l : Nat} (hl : l < 16) : GA (ES 16 16 1 t) l 1 = if l = 0 then 4 else 1 := ES_at t hl (by omega)
theorem ES_g2 (t : Nat) {l : Nat} (hl : l < 16) : GA (ES 16 16 1 t) l 2 = eg l t := ES_at t hl (by omega)
theorem ES_a3 (t : Nat) {l : Nat} (hl : l < 16) : GA (ES 16 16 1 t) l 3 = ec l t := ES_at t hl (by omega)
theorem ES_a4 (t : Nat) {l : Nat} (hl : l < 16) : GA (ES 16 16 1 t) l 4 = if l = 0 then 0 else if l = 1 then 16 else l := ES_at t hl (by omega)
theorem ES_a5 (t : Nat) {l : Nat} (hl : l < 16) : GA (ES 16 16 1 t) l 5 = 0 := ES_at t hl (by omega)
theorem ES_a6 (t : Nat) {l : Nat} (hl : l < 16) : GA (ES 16 16 1 t) l 6 = 0 := ES_at t hl (by omega)
theorem ES_g7 (t : Nat) {l : Nat} (hl : l < 16) : GA (ES 16 16 1 t) l 7 = 0 := ES_at t hl (by omega)
theorem eg_step1 : ∀ t, t < 260 → eg 1 (t + 1) = if eg 15 t = 1 then 0 else 1 := by decide +kernel
theorem eg_stepl : ∀ t, t < 260 → ∀ l, l < 16 → 2 ≤ l → eg l (t + 1) = if eg (l - 1) t = 1 then 1 else 0 := by decide +kernel
theorem ec_step : ∀ t, t < 260 → ∀ l, l < 16 → ec l (t + 1) = ec l t + if eg l (t + 1) = eg l t then 0 else 1 := by decide +kernel
theorem eg_one : ∀ t, t < 260 → fb_sm (fun l => if eg l (t + 1) = eg l t then 0 else 1) 16 = 1 := by decide +kernel
theorem ES_fin (t : Nat) {l : Nat} (hl : l < 16) (h1 : 1 ≤ l) : fin (ES 16 16 1 t) (gw (ES 16 16 1 t)) l = if l = 1 then !decide (eg 15 t = 1) else decide (eg (l - 1) t = 1) := by
  have s0 : src (ES 16 16 1 t) l 0 = if l = 1 then 16 else l := by
    show GA (ES 16 16 1 t) l 4 = _
    rw [ES_a4 t hl, if_neg (by omega)]
  have s1 : src (ES 16 16 1 t) l 1 = 0 := by
    exact ES_a5 t hl
  have s2 : src (ES 16 16 1 t) l 2 = 0 := by
    exact ES_a6 t hl
  have k0 : GA (ES 16 16 1 t) l 0 = if l = 1 then 1 else 6 := by
    rw [ES_a0 t hl, if_neg (by omega)]
  have hgw : ∀ i, i < 16 → gw (ES 16 16 1 t) i = decide (eg i t = 1) := fun i hi => by
    unfold gw
    rw [ES_g2 t hi]
  have hw : wct (ES 16 16 1 t) l = 1 := by
    unfold wct
    rw [fb_ct_succ, fb_ct_succ, fb_ct_succ, s0, s1, s2]
    by_cases e : l = 1
    · subst e; rfl
    · rw [if_neg e]
      simp [fb_ct, show l ≠ 0 by omega]
  have hl2 : lit (ES 16 16 1 t) (gw (ES 16 16 1 t)) l = if (if l = 1 then eg 15 t else eg (l - 1) t) = 1 then 1 else 0 := by
    unfold lit
    rw [fb_ct_succ, fb_ct_succ, fb_ct_succ, s0, s1, s2]
    by_cases e : l = 1
    · subst e
      rw [if_pos rfl, if_pos rfl, hgw _ (show 16 - 1 < 16 by omega)]
      by_cases q : eg 15 t = 1
      · simp [fb_ct, q]
      · simp [fb_ct, q]
    · rw [if_neg e, if_neg e, hgw _ (show l - 1 < 16 by omega)]
      by_cases q : eg (l - 1) t = 1
      · simp [fb_ct, q, show l ≠ 0 by omega]
      · simp [fb_ct, q]
  unfold fin
  rw [hw, hl2, k0]
  by_cases e : l = 1
  · subst e
    by_cases q : eg 15 t = 1
    · simp [fnd, q]
    · simp [fnd, q]
  · by_cases q : eg (l - 1) t = 1
    · simp [fnd, e, q]
    · simp [fnd, e, q]
theorem ES_nv (ht : t < 260) {l : Nat} (hl : l < 16) (h1 : 1 ≤ l) : nv (ES 16 16 1 t) l = eg l (t + 1) := by
  unfold nv
  rw [ES_fin t hl h1, ES_g7 t hl, ES_a1 t hl, if_neg (show ¬ l = 0 by omega)]
  by_cases e : l = 1
  · subst e
    rw [eg_step1 t ht, if_pos rfl]
    by_cases q : eg 15 t = 1
    · simp [q]
    · simp [q]
  · rw [eg_stepl t ht l hl (by omega), if_neg e]
    by_cases q : eg (l - 1) t = 1
    · simp [q]
    · simp [q]
theorem eg_le : ∀ l t, eg l t ≤ 1 := fun l t => by
  unfold eg
  (repeat' split) <;> omega
theorem ES_ng (ht : t < 260) {l : Nat} (hl : l < 16) : ng (ES 16 16 1 t) l = eg l (t + 1) := by
  unfold ng
  rw [ES_a0 t hl]
  by_cases h0 : l = 0
  · subst h0
    rw [if_pos rfl, if_pos rfl, ES_g2 t hl]
    rfl
  · have := eg_le l (t + 1)
    rw [if_neg h0, if_neg (by split <;> omega), ES_nv ht hl (by omega)]
    omega
theorem ES_nfd (ht : t < 260) {l : Nat} (hl : l < 16) : nfd (ES 16 16 1 t) l = 0 := by
  unfold nfd
  rw [ES_a0 t hl]
  by_cases h0 : l = 0
  · subst h0
    rw [if_pos rfl, if_pos rfl, ES_g7 t hl]
  · have := eg_le l (t + 1)
    rw [if_neg h0, if_neg (by split <;> omega), ES_nv ht hl (by omega)]
    omega
theorem ES_dg (ht : t < 260) {l : Nat} (hl : l < 16) : dg (ES 16 16 1 t) l = if eg l (t + 1) = eg l t then 0 else 1 := by
  unfold dg
  rw [ES_ng ht hl, ES_g2 t hl]
theorem fb_sm_cg {f h : Nat → Nat} : ∀ n, (∀ l, l < n → f l = h l) → fb_sm f n = fb_sm h n
  | 0, _ => rfl
  | n + 1, e => by rw [fb_sm_succ, fb_sm_succ, fb_sm_cg n (fun l hl => e l (by omega)), e n (by omega)]
theorem ES_tk (ht : t < 260) : tk (ES 16 16 1 t) = ES 16 16 1 (t + 1) := fx133 (fun i hi => by
  by_cases h5 : i < 5
  · rcases (show i = 0 ∨ i = 1 ∨ i = 2 ∨ i = 3 ∨ i = 4 by omega) with rfl | rfl | rfl | rfl | rfl
    · rw [tk_0]; rfl
    · rw [tk_1]; rfl
    · rw [tk_2]; rfl
    · rw [tk_3, fb_sm_cg (h := fun l => if eg l (t + 1) = eg l t then 0 else 1) 16 (fun l hl => ES_dg ht hl), eg_one t ht]; rfl
    · rw [tk_4]; rfl
  · obtain ⟨l, w, hl, hw, rfl⟩ : ∃ l w, l < 16 ∧ w < 8 ∧ i = 5 + 8 * l + w := ⟨(i - 5) / 8, (i - 5) % 8, by omega, by omega, by omega⟩
    show GA (tk (ES 16 16 1 t)) l w = GA (ES 16 16 1 (t + 1)) l w
    rw [tk_GA _ hl hw]
    rcases (show w = 0 ∨ w = 1 ∨ w = 2 ∨ w = 3 ∨ w = 4 ∨ w = 5 ∨ w = 6 ∨ w = 7 by omega) with rfl | rfl | rfl | rfl | rfl | rfl | rfl | rfl
    · rw [ES_a0 (t + 1) hl]; exact ES_a0 t hl
    · rw [ES_a1 (t + 1) hl]; exact ES_a1 t hl
    · rw [ES_g2 (t + 1) hl]; exact ES_ng ht hl
    · rw [ES_a3 (t + 1) hl, ec_step t ht l hl, ← ES_dg ht hl, ← ES_a3 t hl]; rfl
    · rw [ES_a4 (t + 1) hl]; exact ES_a4 t hl
    · rw [ES_a5 (t + 1) hl]; exact ES_a5 t hl
    · rw [ES_a6 (t + 1) hl]; exact ES_a6 t hl
    · rw [ES_g7 (t + 1) hl]; exact ES_nfd ht hl) fun i hi => by
  rw [tk_big hi, ES_big (by omega) hi, ES_big (by omega) hi]
end RingT
theorem ES_tki (a : Nat) : ∀ t, a + t ≤ 260 → tki (ES 16 16 1 a) t = ES 16 16 1 (a + t)
  | 0, _ => rfl
  | t + 1, h => by
    show tk (tki (ES 16 16 1 a) t) = _
    rw [ES_tki a t (by omega), ES_tk (by omega)]
    rfl
theorem tsum_3 (g : Nat → Nat) : ∀ t, tki g t 3 = g 3 + tsum g t
  | 0 => rfl
  | t + 1 => by
    show tk (tki g t) 3 = _
    have h9 : tsum g (t + 1) = tsum g t + fb_sm (dg (tki g t)) 16 := fb_sm_succ (fun s => fb_sm (dg (tki g s)) 16) t
    rw [tk_3, tsum_3 g t, h9]
    omega
theorem ES_tsum {a t : Nat} (h : a + t ≤ 260) : tsum (ES 16 16 1 a) t = t := by
  have h1 := tsum_3 (ES 16 16 1 a) t
  rw [ES_tki a t h] at h1
  have h2 : ∀ b, ES 16 16 1 b 3 = b := fun b => rfl
  rw [h2, h2] at h1
  omega
theorem eg_ne : ∀ t, t < 258 → eg (t % 15 + 1) (t + 1) ≠ eg (t % 15 + 1) t := by decide +kernel
theorem ES_nstl {t : Nat} (ht : t ≤ 256) : ¬ stl (tki (ES 16 16 1 0) t) := fun h => by
  rw [ES_tki 0 t (by omega), Nat.zero_add] at h
  have h1 := (h (t % 15 + 1) (by omega)).1
  rw [← tk_g2 _ (show t % 15 + 1 < 16 by omega), ES_tk (by omega), ES_g2 _ (by omega), ES_g2 _ (by omega)] at h1
  exact eg_ne t (by omega) h1
theorem ES_EQ {a b : Nat} (ha : a ≤ 256) (hb : b ≤ 256) : EQ (ES 16 16 1 0) a b ↔ ∀ l, l < 16 → eg l a = eg l b := by
  unfold EQ deq
  rw [ES_tki 0 a (by omega), ES_tki 0 b (by omega), Nat.zero_add, Nat.zero_add]
  refine ⟨fun h l hl => ?_, fun h l hl => ⟨?_, ?_⟩⟩
  · have h1 := (h l hl).1
    rw [ES_g2 _ hl, ES_g2 _ hl] at h1
    exact h1
  · rw [ES_g2 _ hl, ES_g2 _ hl]
    exact h l hl
  · rw [ES_g7 _ hl, ES_g7 _ hl]
theorem eg_30 : ∀ l, l < 16 → eg l 0 = eg l 30 := by decide +kernel
theorem eg_no : ∀ t, t < 30 → ∀ k, k < t → ∃ l, l < 16 ∧ eg l k ≠ eg l t := by
  have h : ∀ t, t < 30 → ∀ k, k < t → ¬ ∀ l, l < 16 → eg l k = eg l t := by decide +kernel
  intro t ht k hk
  exact Classical.byContradiction fun hn => h t ht k hk fun l hl => Classical.byContradiction fun hq => hn ⟨l, hl, hq⟩
theorem ES_PR {x : Int32} (h : PR (ES 16 16 1 0) x) : x = nI 30 := by
  refine PR.uniq h (Or.inl ⟨30, 0, by omega, by omega, (ES_EQ (by omega) (by omega)).2 eg_30, fun t' ht' k' hk' he => ?_, rfl⟩)
  obtain ⟨l, hl, hne⟩ := eg_no t' ht' k' hk'
  exact hne ((ES_EQ (by omega) (by omega)).1 he l hl)
theorem ES_gct : gct (ES 16 16 1 30) = 0 ∧ gct (ES 16 16 1 45) = 15 := by decide +kernel
/-! queries by cells that stand for the state -/
def kO (g : Nat → Nat) : Nat → Int32 := fun l => nI (GA g l 0)
def wO (g : Nat → Nat) : Nat → Int32 := fun l => nI (GA g l 1)
def soO (g : Nat → Nat) : Nat → Int32 := fun i => sV (src g (i / 3) (i % 3))
theorem SR_O (g : Nat → Nat) : SR g (nI (g 0)) (kO g) (wO g) (soO g) := ⟨rfl, fun _ _ => rfl, fun _ _ => rfl, fun l p _ hp => by
  unfold soO
  rw [show (l * 3 + p) / 3 = l by omega, show (l * 3 + p) % 3 = p by omega]⟩
section RingQ
variable {g : Nat → Nat} {v1 x : Int32}
theorem loops_O (hG : GV g) (e : J_X5_inLoops (nI (g 0)) (soO g) = some x) : MS x (fun i => Leads g i i) := by
  obtain ⟨y, e1, e2⟩ := X5_inLoops hG (SR_O g)
  rw [e] at e1
  cases e1
  exact e2
theorem qe_looped (h : QE g) (e : J_X5_inLoops (nI (g 0)) (soO g) = some x) : q_looped g = x := by
  obtain ⟨hG, c, st, al, ti, tc, se, k, w, so, ch, hC⟩ := h
  have e1 := looped_q hG hC
  unfold J_X9_looped at e1
  obtain ⟨y, e2, e3⟩ := X5_inLoops hG hC.1
  rw [e2, bn1] at e1
  rw [← (Option.some.inj e1)]
  exact e3.uniq (loops_O hG e)
theorem qe_depth (h : QE g) (e : (J_X9_depth (nI (g 0)) (kO g) (wO g) (soO g) z0 v1).map (fun z => z.1) = some x) : q_depth g v1 = x := by
  obtain ⟨hG, c, st, al, ti, tc, se, k, w, so, ch, hC⟩ := h
  obtain ⟨⟨kn', e1⟩, -⟩ := depth_q hG (show CR g _ _ _ _ _ _ _ _ _ _ from ⟨SR_O g, hC.2⟩) z0 z0 v1
  rw [e1] at e
  exact Option.some.inj e
theorem qe_settlesIn (h : QE g) (hE : ER g 0) (e : J_X1_ticksToSettle (nI (g 0)) 0 (kO g) (wO g) (soO g) = some x) : q_settlesIn g = x := by
  obtain ⟨hG, c, st, al, ti, tc, se, k, w, so, ch, hC⟩ := h
  have e1 := settlesIn_q hG (show CR g _ _ _ _ _ _ _ _ _ _ from ⟨SR_O g, hE, hC.2.2⟩)
  unfold J_X9_settlesIn at e1
  rw [e, bn1] at e1
  exact (Option.some.inj e1).symm
theorem qe_settlesIn_no (h : QE g) (hn : ∀ s, s ≤ 256 → ¬ stl (tki g s)) : q_settlesIn g = -nI 15 := by
  obtain ⟨hG, c, st, al, ti, tc, se, k, w, so, ch, hC⟩ := h
  have e1 := settlesIn_q hG hC
  unfold J_X9_settlesIn J_X1_ticksToSettle J_X2_state at e1
  obtain ⟨y, e2, h2⟩ := X1_settle_L st hG hC.1 257 FU 0 st (by omega) (by unfold FU; omega) hC.2.1 (fun s hs => absurd hs (Nat.not_lt_zero s))
  rw [bn1, il_0, e2, bn1] at e1
  rcases h2 with ⟨t', h3, -, h4, -⟩ | ⟨h3, -⟩
  · exact absurd h4 (hn t' h3)
  · rw [h3] at e1
    exact (Option.some.inj e1).symm
set_option maxRecDepth 100000 in
theorem qe_period (h : QE g) (hp : ∀ y, PR g y → y = x) : q_period g = x := by
  obtain ⟨hG, c, st, al, ti, tc, se, k, w, so, ch, hC⟩ := h
  obtain ⟨⟨sn', e1⟩, -⟩ := period_q hG hC (fun _ => 0)
  unfold J_X9_period at e1
  obtain ⟨y, sn2, e2, h2⟩ := X1_keep hG hC.1 hC.2.1 (fun _ => 0)
  rw [e2, bn2] at e1
  injection e1 with e1
  injection e1 with e3 _
  rw [← e3]
  exact hp y h2
theorem fewest_O (hG : GV g) {a b d : Nat} (ha : a < g 0) (hb : b < g 0) (hd : d < 16) (e : J_X5_fewestWires (nI (g 0)) (soO g) (nI a) (nI b) = some (nI d)) : Wy g d a b ∧ ∀ f', f' < d → ¬ Wy g f' a b := by
  rcases X5_fewest hG (SR_O g) ha hb with ⟨f, a1, a2, a3, a4⟩ | ⟨a1, a2⟩
  · rw [e] at a4
    have e1 := (nI_eq (by omega) (by omega)).1 (Option.some.inj a4)
    subst e1
    exact ⟨a2, a3⟩
  · rw [e] at a2
    exact absurd (Option.some.inj a2).symm (fun q => (ng_eqn (by omega) (by omega) (by omega)).1 q)
end RingQ
theorem ES_dark (w1 al : Nat) : ER (ES 16 w1 al 0) 0 := by
  have h2 : ∀ l, l < 16 → GA (ES 16 w1 al 0) l 2 = 0 := fun l hl => by
    unfold GA ES
    rw [if_neg (by omega), if_neg (by omega), if_neg (by omega), if_neg (by omega), if_neg (by omega), if_neg (by omega), if_neg (by omega), if_neg (by omega), if_pos (by omega)]
    unfold eg
    split
    · rfl
    · rw [if_pos (by omega)]
  have h7 : ∀ l, l < 16 → GA (ES 16 w1 al 0) l 7 = 0 := fun l hl => by
    unfold GA ES
    rw [if_neg (by omega), if_neg (by omega), if_neg (by omega), if_neg (by omega), if_neg (by omega), if_neg (by omega), if_neg (by omega), if_neg (by omega), if_neg (by omega), if_neg (by omega), if_neg (by omega)]
  refine ⟨fun l hl => ?_, fun l j hl hj => ?_⟩
  · rw [l_0]
    unfold gw
    rw [h2 l hl]
    rfl
  · rw [l_0, h7 l hl, Nat.zero_testBit]
theorem k_loop1 : J_X5_inLoops (nI 16) (soO (ES 16 16 1 0)) = some (nI 65534) := by decide +kernel
theorem k_loop2 : J_X5_inLoops (nI 16) (soO (ES 16 16 1 144)) = some (nI 65534) := by decide +kernel
theorem k_loop3 : J_X5_inLoops (nI 16) (soO (ES 16 1 1 144)) = some (nI 0) := by decide +kernel
theorem k_loop4 : J_X5_inLoops (nI 16) (soO (ES 16 1 0 144)) = some (nI 0) := by decide +kernel
theorem k_dep1 : (J_X9_depth (nI 16) (kO (ES 16 0 1 0)) (wO (ES 16 0 1 0)) (soO (ES 16 0 1 0)) z0 (nI 15)).map (fun z => z.1) = some (nI 15) := by decide +kernel
theorem k_dep2 : (J_X9_depth (nI 16) (kO (ES 16 16 1 0)) (wO (ES 16 16 1 0)) (soO (ES 16 16 1 0)) z0 (nI 15)).map (fun z => z.1) = some (-nI 15) := by decide +kernel
theorem k_set1 : J_X1_ticksToSettle (nI 16) 0 (kO (ES 16 0 1 0)) (wO (ES 16 0 1 0)) (soO (ES 16 0 1 0)) = some (nI 0) := by decide +kernel
theorem k_few1 : J_X5_fewestWires (nI 16) (soO (ES 16 0 0 144)) (nI 1) (nI 15) = some (nI 14) := by decide +kernel
theorem k_few2 : J_X5_fewestWires (nI 16) (soO (ES 16 0 0 144)) (nI 1) (nI 1) = some (nI 0) := by decide +kernel
theorem k_pop : fb_ct (bt (nI 65534)) 16 = 15 := by decide +kernel

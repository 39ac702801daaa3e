/-! p35: THE FIXED RUN: lanterns in a ring, as numbers -/
/-- does lantern l glow t ticks behind the ring's closing; how often has it changed -/
def eg (l t : Nat) : Nat := if l = 0 then 0 else if t < l then 0 else if (t - l) % 30 < 15 then 1 else 0
def ec (l t : Nat) : Nat := if l = 0 then 0 else if t < l then 0 else (t - l) / 15 + 1
/-- n lanterns, what leads to lantern 1, whether loops are allowed, ticks of the ring -/
def ES (n w1 al t : Nat) : Nat → Nat := fun i =>
  if i = 0 then n else if i = 1 then al else if i = 2 then 99 + t else if i = 3 then t else if i < 5 then 0 else if 5 + 8 * n ≤ i then 0 else
  if (i - 5) % 8 = 0 then (if (i - 5) / 8 = 0 then 0 else if (i - 5) / 8 = 1 then 1 else 6)
  else if (i - 5) % 8 = 1 then (if (i - 5) / 8 = 0 then 4 else 1)
  else if (i - 5) % 8 = 2 then eg ((i - 5) / 8) t
  else if (i - 5) % 8 = 3 then ec ((i - 5) / 8) t
  else if (i - 5) % 8 = 4 then (if (i - 5) / 8 = 0 then 0 else if (i - 5) / 8 = 1 then w1 else (i - 5) / 8)
  else 0
theorem fx133 {f h : Nat → Nat} (h1 : ∀ i, i < 133 → f i = h i) (h2 : ∀ i, 133 ≤ i → f i = h i) : f = h := funext fun i => by
  rcases Nat.lt_or_ge i 133 with q | q
  · exact h1 i q
  · exact h2 i q
theorem ES_big {n w1 al t i : Nat} (hn : n ≤ 16) (hi : 133 ≤ i) : ES n w1 al t i = 0 := by
  unfold ES
  rw [if_neg (by omega), if_neg (by omega), if_neg (by omega), if_neg (by omega), if_neg (by omega), if_pos (by omega)]
theorem tk_big {g : Nat → Nat} {i : Nat} (hi : 133 ≤ i) : tk g i = g i := by
  unfold tk tkj
  rw [if_neg (by omega), if_neg (by omega), if_neg (by omega)]
theorem hgn_big {g : Nat → Nat} {a b i : Nat} (hg : g 0 < 16) (hi : 133 ≤ i) : hgn g a b i = g i := by
  unfold hgn
  rw [if_neg (by omega), if_neg (by omega), if_neg (by omega)]
theorem updn_big {g : Nat → Nat} {j v i : Nat} (hj : j < 133) (hi : 133 ≤ i) : updn g j v i = g i := by
  unfold updn
  rw [if_neg (by omega)]
theorem gz_tick : ∀ t, tki gz t = fun i => if i = 1 then 1 else if i = 2 then t else 0
  | 0 => by
    funext i
    show (if i = 1 then 1 else 0) = _
    by_cases h1 : i = 1
    · rw [if_pos h1, if_pos h1]
    · rw [if_neg h1, if_neg h1]
      by_cases h2 : i = 2
      · rw [if_pos h2]
      · rw [if_neg h2]
  | t + 1 => by
    have ih := gz_tick t
    show tk (tki gz t) = _
    rw [ih]
    have hz : ∀ l w, GA (fun i => if i = 1 then 1 else if i = 2 then t else 0) l w = 0 := fun l w => by
      show (if 5 + 8 * l + w = 1 then 1 else if 5 + 8 * l + w = 2 then t else 0) = 0
      rw [if_neg (by omega), if_neg (by omega)]
    have hd : ∀ l, dg (fun i => if i = 1 then 1 else if i = 2 then t else 0) l = 0 := fun l => dg_sw (hz l 0)
    have hs : fb_sm (dg (fun i => if i = 1 then 1 else if i = 2 then t else 0)) 16 = 0 := by
      have h9 : ∀ n, fb_sm (dg (fun i => if i = 1 then 1 else if i = 2 then t else 0)) n = 0 := fun n => by
        induction n with
        | zero => rfl
        | succ n ih => rw [fb_sm_succ, ih, hd]
      exact h9 16
    funext i
    unfold tk
    by_cases h2 : i = 2
    · subst h2
      rfl
    · rw [if_neg h2]
      by_cases h3 : i = 3
      · subst h3
        rw [if_pos rfl, hs]
        rfl
      · rw [if_neg h3]
        unfold tkj
        by_cases h5 : 5 ≤ i ∧ i < 5 + 8 * 16
        · rw [if_pos h5, if_neg (by omega), if_neg (by omega)]
          have h7 : ∀ l w, tkl (fun i => if i = 1 then 1 else if i = 2 then t else 0) l w = 0 := fun l w => by
            unfold tkl ng nfd
            rw [hz l 0, if_pos rfl, if_pos rfl, hz, hz, hz, hd, hz]
            simp
          exact h7 _ _
        · rw [if_neg h5]
          show (if i = 1 then 1 else if i = 2 then t else 0) = _
          by_cases h1 : i = 1
          · rw [if_pos h1, if_pos h1]
          · rw [if_neg h1, if_neg h2, if_neg h1, if_neg h2]
theorem ES_0 : tki gz 99 = ES 0 0 1 0 := by
  rw [gz_tick]
  refine fx133 (by decide +kernel) fun i hi => ?_
  rw [ES_big (by omega) hi, if_neg (by omega), if_neg (by omega)]
theorem ES_h0 : hgn (ES 0 0 1 0) 0 4 = ES 1 0 1 0 := fx133 (by decide +kernel) fun i hi => by
  rw [hgn_big (show ES 0 0 1 0 0 < 16 by decide +kernel) hi, ES_big (by omega) hi, ES_big (by omega) hi]
theorem ES_h1 : hgn (ES 1 0 1 0) 1 1 = ES 2 0 1 0 := fx133 (by decide +kernel) fun i hi => by
  rw [hgn_big (show ES 1 0 1 0 0 < 16 by decide +kernel) hi, ES_big (by omega) hi, ES_big (by omega) hi]
theorem ES_hl : ∀ l, l < 16 → 2 ≤ l → ∀ i, i < 133 → updn (hgn (ES l 0 1 0) 6 1) (5 + 8 * l + (4 + 0)) (l - 1 + 1) i = ES (l + 1) 0 1 0 i := by decide +kernel
theorem ES_w {l : Nat} (h2 : 2 ≤ l) (h16 : l < 16) : updn (hgn (ES l 0 1 0) 6 1) (5 + 8 * l + (4 + 0)) (l - 1 + 1) = ES (l + 1) 0 1 0 := fx133 (ES_hl l h16 h2) fun i hi => by
  rw [updn_big (by omega) hi, hgn_big (show ES l 0 1 0 0 < 16 by show l < 16; exact h16) hi, ES_big (by omega) hi, ES_big (by omega) hi]
theorem ES_u (w1 al t v : Nat) (h : ∀ i, i < 133 → updn (ES 16 w1 al t) (5 + 8 * 1 + (4 + 0)) v i = ES 16 v al t i) : updn (ES 16 w1 al t) (5 + 8 * 1 + (4 + 0)) v = ES 16 v al t := fx133 h fun i hi => by
  rw [updn_big (by omega) hi, ES_big (by omega) hi, ES_big (by omega) hi]
theorem ES_wl : updn (ES 16 0 1 0) (5 + 8 * 1 + (4 + 0)) 16 = ES 16 16 1 0 := ES_u _ _ _ _ (by decide +kernel)
theorem ES_c1 : updn (ES 16 16 1 144) (5 + 8 * 1 + (4 + 0)) 0 = ES 16 0 1 144 := ES_u _ _ _ _ (by decide +kernel)
theorem ES_w0 : updn (ES 16 0 1 144) (5 + 8 * 1 + (4 + 0)) 1 = ES 16 1 1 144 := ES_u _ _ _ _ (by decide +kernel)
theorem ES_al (w1 al t v : Nat) (h : ∀ i, i < 133 → updn (ES 16 w1 al t) 1 v i = ES 16 w1 v t i) : updn (ES 16 w1 al t) 1 v = ES 16 w1 v t := fx133 h fun i hi => by
  rw [updn_big (by omega) hi, ES_big (by omega) hi, ES_big (by omega) hi]
theorem ES_l0 : updn (ES 16 1 1 144) 1 0 = ES 16 1 0 144 := ES_al _ _ _ _ (by decide +kernel)
theorem ES_l1 : updn (ES 16 1 0 144) 1 0 = ES 16 1 0 144 := ES_al _ _ _ _ (by decide +kernel)
theorem ES_c2 : updn (ES 16 1 0 144) (5 + 8 * 1 + (4 + 0)) 0 = ES 16 0 0 144 := ES_u _ _ _ _ (by decide +kernel)

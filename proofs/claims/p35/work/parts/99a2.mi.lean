/-! p35: what makes keeps true -/
def MI (n j : Nat) (g : Nat → Nat) (N u : Nat) : Prop := g 0 = n ∧ g 1 = 1 ∧ (∀ l, l < 3 → l < n → GA g l 0 = 0) ∧ (∀ l, j ≤ l → l < 16 → GA g l 2 = 0) ∧ n ≤ N ∧ u = if N ≤ 8 then N else 8
theorem u8_min {N u : Nat} (h : u = if N ≤ 8 then N else 8) : u8 u = if N + 1 ≤ 8 then N + 1 else 8 := by
  unfold u8
  by_cases h1 : N ≤ 8
  · rw [if_pos h1] at h
    subst h
    by_cases h2 : u = 8
    · rw [if_pos h2, if_neg (by omega)]
    · rw [if_neg h2, if_pos (by omega)]
  · rw [if_neg h1] at h
    rw [if_pos h, if_neg (by omega)]
theorem MI_hang {n : Nat} {g : Nat → Nat} {N u a b : Nat} (h : MI n 0 g N u) (ha : n < 3 → a = 0) : MI (n + 1) 0 (hgn g a b) (N + 1) (u8 u) := by
  obtain ⟨h0, h1, h2, h3, h4, h5⟩ := h
  refine ⟨?_, ?_, fun l hl hn => ?_, fun l hl hl6 => ?_, by omega, u8_min h5⟩
  · show (if (0 : Nat) = 0 then g 0 + 1 else _) = n + 1
    rw [if_pos rfl, h0]
  · rw [hgn_s (by omega) (by omega), h1]
  · rw [hgn_GA g a b (by omega)]
    by_cases e : l = g 0
    · rw [if_pos ⟨e, rfl⟩]
      exact ha (by omega)
    · rw [if_neg (by omega), if_neg (by omega)]
      exact h2 l hl (by omega)
  · rw [hgn_GA2 g a b (by omega) (by omega)]
    exact h3 l hl hl6
theorem MI_wire {n j : Nat} {g g' : Nat → Nat} {N u N' u' n' : Nat} {x : Int32} {rn' rd' : Nat → Int32} {hh hh' : Nat → Nat → Nat} (h : MI n j g N u) (hp : PWr g x g' n' rn' rd') (hc : (¬ x < 0 ∧ hh' = updh hh N g ∧ N' = N + 1 ∧ u' = u8 u) ∨ (x < 0 ∧ g' = g ∧ hh' = hh ∧ N' = N ∧ u' = u)) : MI n j g' N' u' := by
  obtain ⟨h0, h1, h2, h3, h4, h5⟩ := h
  obtain ⟨-, p0, p1, p2⟩ := hp
  refine ⟨p0.trans h0, p1.trans h1, fun l hl hn => ?_, fun l hl hl6 => ?_, ?_, ?_⟩
  · rw [(p2 l (by omega)).1]; exact h2 l hl hn
  · rw [(p2 l hl6).2]; exact h3 l hl hl6
  · rcases hc with ⟨-, -, rfl, -⟩ | ⟨-, -, -, rfl, -⟩ <;> omega
  · rcases hc with ⟨-, -, rfl, rfl⟩ | ⟨-, -, -, rfl, rfl⟩
    · exact u8_min h5
    · exact h5
theorem MI_skip {n j : Nat} {g : Nat → Nat} {N u : Nat} (h : MI n j g N u) : MI n (j + 1) g N u := ⟨h.1, h.2.1, h.2.2.1, fun l hl hl6 => h.2.2.2.1 l (by omega) hl6, h.2.2.2.2⟩
theorem MI_set {n j : Nat} {g : Nat → Nat} {N u : Nat} (h : MI n j g N u) : MI n (j + 1) (stn g j 1) (N + 1) (u8 u) := by
  obtain ⟨h0, h1, h2, h3, h4, h5⟩ := h
  refine ⟨?_, ?_, fun l hl hn => ?_, fun l hl hl6 => ?_, by omega, u8_min h5⟩
  · rw [stn_s g j 1 (by omega), h0]
  · rw [stn_s g j 1 (by omega), h1]
  · rw [stn_GAn g j 1 (by omega) (by omega) (by omega)]; exact h2 l hl hn
  · rw [stn_GA g j 1 (by omega), if_neg (by omega), if_neg (by omega)]; exact h3 l (by omega) hl6
theorem MI_tick {n j : Nat} {g : Nat → Nat} {N u : Nat} (t : Nat) (h : MI n j g N u) (hn : 0 < n) (h8 : 8 ≤ N) : tki g t 0 = n ∧ GA (tki g t) 0 0 = 0 ∧ u8 u = 8 := by
  obtain ⟨h0, h1, h2, h3, h4, h5⟩ := h
  have hs := tki_SEq g t
  refine ⟨hs.1.trans h0, (hs.2 0 (by omega)).1.trans (h2 0 (by omega) hn), ?_⟩
  rw [u8_min h5, if_neg (by omega)]
theorem MI_z : MI 0 0 gz 0 0 := ⟨rfl, rfl, fun l _ h => absurd h (Nat.not_lt_zero l), fun l _ _ => gz_GA l 2, Nat.le_refl _, rfl⟩
theorem fb_sm_ge {f : Nat → Nat} {i : Nat} : ∀ {n}, i < n → f i ≤ fb_sm f n
  | 0, h => absurd h (Nat.not_lt_zero i)
  | n + 1, h => by
    rw [fb_sm_succ]
    by_cases e : i = n
    · subst e; omega
    · have := fb_sm_ge (f := f) (i := i) (n := n) (by omega)
      omega
theorem gct_stn {g : Nat → Nat} {l : Nat} (hl : l < g 0) : 1 ≤ gct (stn g l 1) := by
  have h1 : GA (stn g l 1) l 2 = 1 := by rw [stn_GA g l 1 (by omega), if_pos ⟨rfl, rfl⟩]
  have h2 := fb_sm_ge (f := fun i => GA (stn g l 1) i 2) (i := l) (n := stn g l 1 0) (by rw [stn_s g l 1 (by omega)]; exact hl)
  show 1 ≤ fb_sm (fun i => GA (stn g l 1) i 2) (stn g l 1 0)
  simp only [h1] at h2
  exact h2
theorem MS_c {hh hh' : Nat → Nat → Nat} {N N' u u' : Nat} {x : Int32} {g g' : Nat → Nat} (h : (¬ x < 0 ∧ hh' = updh hh N g ∧ N' = N + 1 ∧ u' = u8 u) ∨ (x < 0 ∧ g' = g ∧ hh' = hh ∧ N' = N ∧ u' = u)) (hx : ¬ x < 0) : hh' = updh hh N g ∧ N' = N + 1 ∧ u' = u8 u := (h.resolve_right (fun z => hx z.1)).2
theorem MS_r {hh hh' : Nat → Nat → Nat} {N N' u u' : Nat} {x : Int32} {g g' : Nat → Nat} (h : (¬ x < 0 ∧ hh' = updh hh N g ∧ N' = N + 1 ∧ u' = u8 u) ∨ (x < 0 ∧ g' = g ∧ hh' = hh ∧ N' = N ∧ u' = u)) (hx : x < 0) : g' = g ∧ hh' = hh ∧ N' = N ∧ u' = u := (h.resolve_left (fun z => z.1 hx)).2
theorem MS_rs {hh hh' : Nat → Nat → Nat} {N N' u u' : Nat} {x : Int32} {g g' : Nat → Nat} (h : (¬ x < 0 ∧ hh' = updh hh N g ∧ N' = N + 1 ∧ u' = u8 u) ∨ (x < 0 ∧ g' = g ∧ hh' = hh ∧ N' = N ∧ u' = u)) (hx : x < 0) : g = g' ∧ hh = hh' ∧ N = N' ∧ u = u' := by
  obtain ⟨a, b, c, d⟩ := MS_r h hx
  exact ⟨a.symm, b.symm, c.symm, d.symm⟩
theorem PSm_s {x0 x : Int32} {nr n' : Nat} {rn rd rn' rd' : Nat → Int32} {g' : Nat → Nat} (h : PSm x0 nr rn rd x g' n' rn' rd') : x = x0 ∧ nr = n' ∧ rn = rn' ∧ rd = rd' := ⟨h.1, h.2.1.symm, h.2.2.1.symm, h.2.2.2.symm⟩
/-- the texts that refused reads -/
def wQ : List Nat := [113]
def wT : List Nat := [116, 105, 99, 107, 32, 49, 59, 116, 105, 99, 107, 32, 48]
theorem wQ_RF : RF wQ.length (fun i => wQ.getD i 0) 61 0 = (0, false) := by decide +kernel
theorem wT_1 : PO wT.length (fun i => wT.getD i 0) 0 = (6, some (4, 1, 0, 0)) := by decide +kernel
theorem wT_2 : PO wT.length (fun i => wT.getD i 0) (6 + 1) = (wT.length, some (4, 0, 0, 0)) := by decide +kernel
theorem wT_RF : RF wT.length (fun i => wT.getD i 0) 61 0 = (wT.length, true) := by decide +kernel
theorem wQ_ok : ∀ i, i < wQ.length → 32 ≤ wQ.getD i 0 ∧ wQ.getD i 0 ≤ 126 := by decide +kernel
theorem wT_ok : ∀ i, i < wT.length → 32 ≤ wT.getD i 0 ∧ wT.getD i 0 ≤ 126 := by decide +kernel

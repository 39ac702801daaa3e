/-! HOW DEEP -/
/-- of a depth within f steps; and what it is -/
def dk (g : Nat → Nat) : Nat → Nat → Prop
  | 0, _ => False
  | f + 1, l => GA g l 0 = 0 ∨ ∀ p, p < 3 → src g l p ≠ 0 → dk g f (src g l p - 1)
def mx (F : Nat → Nat) : Nat → Nat
  | 0 => 0
  | p + 1 => if mx F p < F p then F p else mx F p
def dv (g : Nat → Nat) : Nat → Nat → Nat
  | 0, _ => 0
  | f + 1, l => if GA g l 0 = 0 then 0 else mx (fun p => if src g l p = 0 then 0 else dv g f (src g l p - 1)) 3 + GA g l 1
def HD (g : Nat → Nat) (l : Nat) : Prop := dk g 16 l
def DV (g : Nat → Nat) (l : Nat) : Nat := dv g 16 l
theorem mx_cong {F F' : Nat → Nat} : ∀ {n}, (∀ p, p < n → F p = F' p) → mx F n = mx F' n
  | 0, _ => rfl
  | n + 1, h => by rw [mx, mx, mx_cong (fun p hp => h p (by omega)), h n (by omega)]
theorem mx_le {F : Nat → Nat} {b : Nat} : ∀ {n}, (∀ p, p < n → F p ≤ b) → mx F n ≤ b
  | 0, _ => Nat.zero_le b
  | n + 1, h => by
    rw [mx]
    have := mx_le (n := n) (fun p hp => h p (by omega))
    have := h n (by omega)
    split <;> omega
theorem mx_ge {F : Nat → Nat} : ∀ {n p}, p < n → F p ≤ mx F n
  | 0, p, h => absurd h (Nat.not_lt_zero p)
  | n + 1, p, h => by
    rw [mx]
    by_cases e : p = n
    · subst e; split <;> omega
    · have := mx_ge (F := F) (n := n) (p := p) (by omega)
      split <;> omega
section Deep
variable {g : Nat → Nat}
theorem dk_up : ∀ {f l}, dk g f l → dk g (f + 1) l
  | 0, _, h => h.elim
  | f + 1, l, h => h.elim (fun h => Or.inl h) fun h => Or.inr fun p hp h0 => dk_up (h p hp h0)
theorem dk_mono {f f' l : Nat} (h : dk g f l) (hf : f ≤ f') : dk g f' l := by
  obtain ⟨d, rfl⟩ : ∃ d, f' = f + d := ⟨f' - f, by omega⟩
  clear hf
  induction d with
  | zero => exact h
  | succ d ih => exact dk_up ih
theorem dv_up : ∀ {f l}, dk g f l → dv g (f + 1) l = dv g f l
  | 0, _, h => h.elim
  | f + 1, l, h => by
    rw [dv, dv]
    by_cases h0 : GA g l 0 = 0
    · rw [if_pos h0, if_pos h0]
    · rw [if_neg h0, if_neg h0]
      congr 1
      refine mx_cong fun p hp => ?_
      by_cases hs : src g l p = 0
      · rw [if_pos hs, if_pos hs]
      · rw [if_neg hs, if_neg hs]
        exact dv_up ((h.resolve_left h0) p hp hs)
theorem dv_mono {f f' l : Nat} (h : dk g f l) (hf : f ≤ f') : dv g f' l = dv g f l := by
  obtain ⟨d, rfl⟩ : ∃ d, f' = f + d := ⟨f' - f, by omega⟩
  clear hf
  induction d with
  | zero => rfl
  | succ d ih => exact (dv_up (f := f + d) (dk_mono h (Nat.le_add_right f d))).trans ih
theorem src_lt (hG : GV g) {l p : Nat} (hl : l < 16) (hp : p < 3) (h0 : src g l p ≠ 0) : src g l p - 1 < g 0 := by
  have := (GV_l hG hl).2.2.2.2 p hp
  omega
theorem dk_sat (hG : GV g) {f l : Nat} (hl : l < 16) (h : dk g f l) : HD g l := by
  refine sat (N := 16) (fun f i => dk g f i) (fun f i h => dk_up h) (fun f hs i hi h => ?_) f l hl h
  rcases h with h | h
  · exact Or.inl h
  · exact Or.inr fun p hp h0 => hs _ (by have := src_lt hG hi hp h0; have := hG.1; omega) (h p hp h0)
theorem HD_iff (hG : GV g) {l : Nat} (hl : l < 16) : HD g l ↔ (GA g l 0 = 0 ∨ ∀ p, p < 3 → src g l p ≠ 0 → HD g (src g l p - 1)) := by
  constructor
  · intro h
    rcases (h : dk g 16 l) with h | h
    · exact Or.inl h
    · exact Or.inr fun p hp h0 => dk_up (h p hp h0)
  · intro h
    exact dk_sat (f := 17) hG hl h
theorem DV_eq (hG : GV g) {l : Nat} (hl : l < 16) (h : HD g l) : DV g l = if GA g l 0 = 0 then 0 else mx (fun p => if src g l p = 0 then 0 else DV g (src g l p - 1)) 3 + GA g l 1 :=
  (dv_mono h (Nat.le_succ 16)).symm
theorem dv_le (hG : GV g) : ∀ f l, l < 16 → dv g f l ≤ 4 * f
  | 0, _, _ => Nat.le_refl 0
  | f + 1, l, hl => by
    rw [dv]
    have h1 := (GV_l hG hl).2.1
    split
    · omega
    · have := mx_le (F := fun p => if src g l p = 0 then 0 else dv g f (src g l p - 1)) (b := 4 * f) (n := 3) (fun p hp => by
        show (if src g l p = 0 then 0 else dv g f (src g l p - 1)) ≤ 4 * f
        split
        · omega
        · exact dv_le hG f _ (by have := src_lt hG hl hp (by assumption); have := hG.1; omega))
      omega
theorem DV_le (hG : GV g) {l : Nat} (hl : l < 16) : DV g l ≤ 64 := dv_le hG 16 l hl
theorem wr_src {l p : Nat} (hl : l < g 0) (hp : p < 3) (h0 : src g l p ≠ 0) : wr g (src g l p - 1) l := ⟨hl, p, hp, by omega⟩
theorem wr_gate (hG : GV g) {a b : Nat} (h : wr g a b) : GA g b 0 ≠ 0 := fun h0 => by
  obtain ⟨hb, p, hp, e⟩ := h
  have := (hG.2.2.2.2.1 b (by have := hG.1; omega) h0).2 p hp
  omega
/-- the last wire of a way -/
theorem Leads.last {a b : Nat} (h : Leads g a b) : ∃ m, wr g m b ∧ (a = m ∨ Leads g a m) := by
  obtain ⟨f, h⟩ := h
  induction f with
  | zero => exact ⟨a, h, Or.inl rfl⟩
  | succ f ih =>
    rcases h with h | ⟨m, h, h2⟩
    · exact ih h
    · exact ⟨m, h2, Or.inr ⟨f, h⟩⟩
/-- of a depth: no loop is behind it -/
theorem dk_noloop (hG : GV g) : ∀ {f l}, l < 16 → dk g f l → ∀ x, Leads g x x → ¬ (x = l ∨ Leads g x l)
  | 0, _, _, h => h.elim
  | f + 1, l, hl, h => by
    intro x hx hxl
    have hlast : ∃ m, wr g m l ∧ (x = m ∨ Leads g x m) := by
      rcases hxl with e | e
      · subst e; exact hx.last
      · exact e.last
    obtain ⟨m, hm, hxm⟩ := hlast
    rcases h with h | h
    · exact wr_gate hG hm h
    · obtain ⟨hb, p, hp, e⟩ := hm
      have := h p hp (by omega)
      rw [show src g l p - 1 = m by omega] at this
      exact dk_noloop hG (by have := src_lt hG hl hp (by omega); have := hG.1; omega) this x hx hxm
/-- those that lead to l -/
noncomputable def anc (g : Nat → Nat) (l : Nat) : Nat → Bool := fun x => @decide (Leads g x l) (Classical.propDecidable _)
theorem anc_t {x l : Nat} : anc g l x = true ↔ Leads g x l := by unfold anc; exact @decide_eq_true_iff _ (Classical.propDecidable _)
theorem dk_anc (hG : GV g) : ∀ n l, l < 16 → fb_ct (anc g l) 16 ≤ n → (∀ x, Leads g x x → ¬ (x = l ∨ Leads g x l)) → dk g (n + 1) l := by
  intro n
  induction n with
  | zero =>
    intro l hl hn hx
    refine Or.inr fun p hp h0 => ?_
    exfalso
    have hs := src_lt hG hl hp h0
    have hn16 := hG.1
    have hlg : l < g 0 := by
      rcases Nat.lt_or_ge l (g 0) with q | q
      · exact q
      · exact absurd (hG.2.2.2.2.2 (5 + 8 * l + (4 + p)) (by omega) (by omega)) h0
    have : 0 < fb_ct (anc g l) 16 := fb_ct_pos.mpr ⟨_, by omega, anc_t.mpr (Leads.of (wr_src hlg hp h0))⟩
    omega
  | succ n ih =>
    intro l hl hn hx
    refine Or.inr fun p hp h0 => ?_
    have hs := src_lt hG hl hp h0
    have hn16 := hG.1
    have hlg : l < g 0 := by
      rcases Nat.lt_or_ge l (g 0) with q | q
      · exact q
      · exact absurd (hG.2.2.2.2.2 (5 + 8 * l + (4 + p)) (by omega) (by omega)) h0
    have hw := wr_src hlg hp h0
    have hlt : fb_ct (anc g (src g l p - 1)) 16 < fb_ct (anc g l) 16 := by
      refine fb_ct_lt (fun k _ hk => anc_t.mpr ((anc_t.mp hk).wire hw)) ⟨src g l p - 1, by omega, anc_t.mpr (Leads.of hw), ?_⟩
      cases ha : anc g (src g l p - 1) (src g l p - 1)
      · rfl
      · exact absurd (Or.inr (Leads.of hw)) (hx _ (anc_t.mp ha))
    refine ih _ (by omega) (by omega) fun x hxx hxs => hx x hxx (Or.inr ?_)
    rcases hxs with e | e
    · rw [e]; exact Leads.of hw
    · exact e.wire hw
theorem HD_loop (hG : GV g) {l : Nat} (hl : l < 16) : HD g l ↔ ∀ x, Leads g x x → ¬ (x = l ∨ Leads g x l) :=
  ⟨fun h => dk_noloop hG hl h, fun h => dk_sat hG hl (dk_anc hG 16 l hl (fb_ct_le _ _) h)⟩
end Deep
/-! the reference -/
section DeepM
variable {g : Nat → Nat} {nw : Nat → Int32}
theorem X10_rises_L (hG : GV g) (hM : MR g nw) (slf : (Nat → Int32) → Int32 → Option Int32) {l f : Nat} (hl : l < 16) (hf : f ≤ 16) (hs : ∀ p, p < 3 → src g l p ≠ 0 → slf nw (nI (src g l p - 1)) = some (nI (dv g f (src g l p - 1)))) : ∀ d nf p, p + d = 3 → d < nf → J_X10_rises_L14 slf nw (nI l) nf (nI (mx (fun p => if src g l p = 0 then 0 else dv g f (src g l p - 1)) p)) (nI p) = some (nI (mx (fun p => if src g l p = 0 then 0 else dv g f (src g l p - 1)) 3 + GA g l 1)) := by
  have hbd : ∀ p, p < 3 → (if src g l p = 0 then 0 else dv g f (src g l p - 1)) ≤ 4 * f := fun p hp => by
    split
    · omega
    · exact dv_le hG f _ (by have := src_lt hG hl hp (by assumption); have := hG.1; omega)
  intro d
  induction d with
  | zero =>
    intro nf p hp hd
    obtain ⟨m, rfl, -⟩ := nf_of hd
    obtain rfl : p = 3 := by omega
    rw [J_X10_rises_L14]
    simp only [il_1, il_3]
    rw [X10_of hM hl (by omega)]
    simp (disch := omega) only [↓reduceIte, nm_x, chk_nI, chz_0, chz_1, chz_b2, chn_nI, oi_1, oi_2, oi_m1, il_0, il_1, il_2, il_3, il_4, il_5, il_6, il_7, il_8, il_9, il_10, il_11, il_12, il_13, il_14, il_15, il_16, il_32, il_35, il_40, il_41, il_42, il_43, il_44, il_45, il_46, il_48, il_57, il_58, il_59, il_60, il_99, il_104, il_115, il_116, il_119, il_126, il_133, il_255, il_256, il_512, il_931, il_1000, il_65536, bn0, bn1, bn2, bn3, bn4, bn5, bn6, bn7, bn8, bn9, bn10, bn11, bn12, bn13, bn14, bn15, nI_leI, nI_ltI, nI_eq, nI_clamp, nI_add, pk_mul, nI_lt0, ng_lt0, ng_ge0, ng_eqn, ng_neq, ng_len, ng_eq, sV_m1, sV_lt0, sV_ge0, if_true, if_false, Nat.le_refl, Nat.lt_irrefl, Nat.not_lt_zero, Nat.zero_le, not_true_eq_false, not_false_eq_true, false_and, true_and, and_true, and_false, true_or, or_true, false_or, or_false, reduceCtorEq]
  | succ d ih =>
    intro nf p hp hd
    obtain ⟨m, rfl, hm⟩ := nf_of hd
    have hsr := GV_src hG hl (show p < 3 by omega)
    have ih' := ih m (p + 1) (by omega) (by omega)
    rw [mx] at ih'
    rw [J_X10_rises_L14, X10_wired hM hl (by omega)]
    unfold J_X10_rises_b43
    simp (disch := omega) only [↓reduceIte, nm_x, chk_nI, chz_0, chz_1, chz_b2, chn_nI, oi_1, oi_2, oi_m1, il_0, il_1, il_2, il_3, il_4, il_5, il_6, il_7, il_8, il_9, il_10, il_11, il_12, il_13, il_14, il_15, il_16, il_32, il_35, il_40, il_41, il_42, il_43, il_44, il_45, il_46, il_48, il_57, il_58, il_59, il_60, il_99, il_104, il_115, il_116, il_119, il_126, il_133, il_255, il_256, il_512, il_931, il_1000, il_65536, bn0, bn1, bn2, bn3, bn4, bn5, bn6, bn7, bn8, bn9, bn10, bn11, bn12, bn13, bn14, bn15, nI_leI, nI_ltI, nI_eq, nI_clamp, nI_add, pk_mul, nI_lt0, ng_lt0, ng_ge0, ng_eqn, ng_neq, ng_len, ng_eq, sV_m1, sV_lt0, sV_ge0, if_true, if_false, Nat.le_refl, Nat.lt_irrefl, Nat.not_lt_zero, Nat.zero_le, not_true_eq_false, not_false_eq_true, false_and, true_and, and_true, and_false, true_or, or_true, false_or, or_false, reduceCtorEq, show ¬ 3 ≤ p by omega]
    by_cases h : src g l p = 0
    · simp only [h, if_true]
      simp only [h, if_true, Nat.not_lt_zero, if_false] at ih'
      exact ih'
    · simp only [h, if_false, sV_s h]
      simp only [h, if_false] at ih'
      rw [hs p (by omega) h]
      have hb1 := hbd p (by omega)
      rw [if_neg h] at hb1
      have hb2 := mx_le (F := fun p => if src g l p = 0 then 0 else dv g f (src g l p - 1)) (n := p) (fun q hq => hbd q (by omega))
      simp (disch := omega) only [↓reduceIte, nm_x, chk_nI, chz_0, chz_1, chz_b2, chn_nI, oi_1, oi_2, oi_m1, il_0, il_1, il_2, il_3, il_4, il_5, il_6, il_7, il_8, il_9, il_10, il_11, il_12, il_13, il_14, il_15, il_16, il_32, il_35, il_40, il_41, il_42, il_43, il_44, il_45, il_46, il_48, il_57, il_58, il_59, il_60, il_99, il_104, il_115, il_116, il_119, il_126, il_133, il_255, il_256, il_512, il_931, il_1000, il_65536, bn0, bn1, bn2, bn3, bn4, bn5, bn6, bn7, bn8, bn9, bn10, bn11, bn12, bn13, bn14, bn15, nI_leI, nI_ltI, nI_eq, nI_clamp, nI_add, pk_mul, nI_lt0, ng_lt0, ng_ge0, ng_eqn, ng_neq, ng_len, ng_eq, sV_m1, sV_lt0, sV_ge0, if_true, if_false, Nat.le_refl, Nat.lt_irrefl, Nat.not_lt_zero, Nat.zero_le, not_true_eq_false, not_false_eq_true, false_and, true_and, and_true, and_false, true_or, or_true, false_or, or_false, reduceCtorEq]
      by_cases q : mx (fun p => if src g l p = 0 then 0 else dv g f (src g l p - 1)) p < dv g f (src g l p - 1)
      · rw [if_pos q] at ih' ⊢
        exact ih'
      · rw [if_neg q] at ih' ⊢
        exact ih'
theorem X10_rises (hG : GV g) (hM : MR g nw) : ∀ f l F, l < 16 → dk g f l → f ≤ 16 → f ≤ F → J_X10_rises F nw (nI l) = some (nI (dv g f l)) := by
  intro f
  induction f with
  | zero => intro l F _ h; exact h.elim
  | succ f ih =>
    intro l F hl h hf hF
    obtain ⟨F', rfl⟩ : ∃ F', F = F' + 1 := ⟨F - 1, by omega⟩
    rw [J_X10_rises]
    unfold J_X10_rises_top
    rw [X10_isSwitch hG hM hl]
    simp only [bn1, il_0, b2_0, decide_eq_false_iff_not]
    rw [dv]
    by_cases h0 : GA g l 0 = 0
    · rw [if_neg (by simpa using h0), if_pos h0]
    · rw [if_pos h0, if_neg h0]
      exact X10_rises_L hG hM (fun t_now v1 => J_X10_rises F' t_now v1) hl (f := f) (by omega) (fun p hp hs => ih _ F' (by have := src_lt hG hl hp hs; have := hG.1; omega) ((h.resolve_left h0) p hp hs) (by omega) (by omega)) 3 FU 0 rfl (by unfold FU; omega)
theorem X10_deep_L (hG : GV g) (hM : MR g nw) {l : Nat} (hl : l < 16) {r : Nat → Int32} (hr : ∀ a, a < 16 → MS (r a) (Leads g a)) {v2 : Int32} (hv : MS v2 (fun i => Leads g i i)) (hll : ¬ Leads g l l) : ∀ d nf j, j + d = g 0 → d < nf → (∀ x, x < j → Leads g x x → ¬ Leads g x l) → ∃ x, J_X10_deep_L28 nw (nI l) nf r v2 (nI j) = some (x, r) ∧ ((HD g l ∧ x = nI (DV g l)) ∨ (¬ HD g l ∧ x = -nI 1)) := by
  have hn := hG.1
  intro d
  induction d with
  | zero =>
    intro nf j hj hd hx
    obtain ⟨m, rfl, -⟩ := nf_of hd
    obtain rfl : j = g 0 := by omega
    have hH : HD g l := (HD_loop hG hl).mpr fun x hxx hxl => by
      rcases hxl with e | e
      · subst e; exact hll hxx
      · exact hx x hxx.lt hxx e
    refine ⟨_, ?_, Or.inl ⟨hH, rfl⟩⟩
    rw [J_X10_deep_L28, X10_rises hG hM 16 l 20 hl hH (by omega) (by omega)]
    simp (disch := omega) only [↓reduceIte, nm_x, chk_nI, chz_0, chz_1, chz_b2, chn_nI, oi_1, oi_2, oi_m1, il_0, il_1, il_2, il_3, il_4, il_5, il_6, il_7, il_8, il_9, il_10, il_11, il_12, il_13, il_14, il_15, il_16, il_32, il_35, il_40, il_41, il_42, il_43, il_44, il_45, il_46, il_48, il_57, il_58, il_59, il_60, il_99, il_104, il_115, il_116, il_119, il_126, il_133, il_255, il_256, il_512, il_931, il_1000, il_65536, bn0, bn1, bn2, bn3, bn4, bn5, bn6, bn7, bn8, bn9, bn10, bn11, bn12, bn13, bn14, bn15, nI_leI, nI_ltI, nI_eq, nI_clamp, nI_add, pk_mul, nI_lt0, ng_lt0, ng_ge0, ng_eqn, ng_neq, ng_len, ng_eq, sV_m1, sV_lt0, sV_ge0, if_true, if_false, Nat.le_refl, Nat.lt_irrefl, Nat.not_lt_zero, Nat.zero_le, not_true_eq_false, not_false_eq_true, false_and, true_and, and_true, and_false, true_or, or_true, false_or, or_false, reduceCtorEq, hM 0 (by omega)]
    rfl
  | succ d ih =>
    intro nf j hj hd hx
    obtain ⟨m, rfl, hm⟩ := nf_of hd
    rw [J_X10_deep_L28]
    unfold J_X10_deep_b63
    simp (disch := omega) only [↓reduceIte, nm_x, chk_nI, chz_0, chz_1, chz_b2, chn_nI, oi_1, oi_2, oi_m1, il_0, il_1, il_2, il_3, il_4, il_5, il_6, il_7, il_8, il_9, il_10, il_11, il_12, il_13, il_14, il_15, il_16, il_32, il_35, il_40, il_41, il_42, il_43, il_44, il_45, il_46, il_48, il_57, il_58, il_59, il_60, il_99, il_104, il_115, il_116, il_119, il_126, il_133, il_255, il_256, il_512, il_931, il_1000, il_65536, bn0, bn1, bn2, bn3, bn4, bn5, bn6, bn7, bn8, bn9, bn10, bn11, bn12, bn13, bn14, bn15, nI_leI, nI_ltI, nI_eq, nI_clamp, nI_add, pk_mul, nI_lt0, ng_lt0, ng_ge0, ng_eqn, ng_neq, ng_len, ng_eq, sV_m1, sV_lt0, sV_ge0, if_true, if_false, Nat.le_refl, Nat.lt_irrefl, Nat.not_lt_zero, Nat.zero_le, not_true_eq_false, not_false_eq_true, false_and, true_and, and_true, and_false, true_or, or_true, false_or, or_false, reduceCtorEq, hM 0 (by omega), show ¬ g 0 ≤ j by omega]
    rw [bit_and _ j (by omega), bit_and _ l (by omega)]
    have next : ¬ (Leads g j j ∧ Leads g j l) → ∃ x, J_X10_deep_L28 nw (nI l) m r v2 (nI (j + 1)) = some (x, r) ∧ ((HD g l ∧ x = nI (DV g l)) ∨ (¬ HD g l ∧ x = -nI 1)) := fun h => ih m (j + 1) (by omega) hm fun x hxj hxx hxl => by
      rcases Nat.lt_or_ge x j with q | q
      · exact hx x q hxx hxl
      · obtain rfl : x = j := by omega
        exact h ⟨hxx, hxl⟩
    cases hb : bt v2 j
    · simp (disch := omega) only [↓reduceIte, nm_x, chk_nI, chz_0, chz_1, chz_b2, chn_nI, oi_1, oi_2, oi_m1, il_0, il_1, il_2, il_3, il_4, il_5, il_6, il_7, il_8, il_9, il_10, il_11, il_12, il_13, il_14, il_15, il_16, il_32, il_35, il_40, il_41, il_42, il_43, il_44, il_45, il_46, il_48, il_57, il_58, il_59, il_60, il_99, il_104, il_115, il_116, il_119, il_126, il_133, il_255, il_256, il_512, il_931, il_1000, il_65536, bn0, bn1, bn2, bn3, bn4, bn5, bn6, bn7, bn8, bn9, bn10, bn11, bn12, bn13, bn14, bn15, nI_leI, nI_ltI, nI_eq, nI_clamp, nI_add, pk_mul, nI_lt0, ng_lt0, ng_ge0, ng_eqn, ng_neq, ng_len, ng_eq, sV_m1, sV_lt0, sV_ge0, if_true, if_false, Nat.le_refl, Nat.lt_irrefl, Nat.not_lt_zero, Nat.zero_le, not_true_eq_false, not_false_eq_true, false_and, true_and, and_true, and_false, true_or, or_true, false_or, or_false, reduceCtorEq, Bool.false_eq_true]
      exact next fun h => by rw [(hv j).mpr h.1] at hb; cases hb
    · simp (disch := omega) only [↓reduceIte, nm_x, chk_nI, chz_0, chz_1, chz_b2, chn_nI, oi_1, oi_2, oi_m1, il_0, il_1, il_2, il_3, il_4, il_5, il_6, il_7, il_8, il_9, il_10, il_11, il_12, il_13, il_14, il_15, il_16, il_32, il_35, il_40, il_41, il_42, il_43, il_44, il_45, il_46, il_48, il_57, il_58, il_59, il_60, il_99, il_104, il_115, il_116, il_119, il_126, il_133, il_255, il_256, il_512, il_931, il_1000, il_65536, bn0, bn1, bn2, bn3, bn4, bn5, bn6, bn7, bn8, bn9, bn10, bn11, bn12, bn13, bn14, bn15, nI_leI, nI_ltI, nI_eq, nI_clamp, nI_add, pk_mul, nI_lt0, ng_lt0, ng_ge0, ng_eqn, ng_neq, ng_len, ng_eq, sV_m1, sV_lt0, sV_ge0, if_true, if_false, Nat.le_refl, Nat.lt_irrefl, Nat.not_lt_zero, Nat.zero_le, not_true_eq_false, not_false_eq_true, false_and, true_and, and_true, and_false, true_or, or_true, false_or, or_false, reduceCtorEq]
      cases hb2 : bt (r j) l
      · simp (disch := omega) only [↓reduceIte, nm_x, chk_nI, chz_0, chz_1, chz_b2, chn_nI, oi_1, oi_2, oi_m1, il_0, il_1, il_2, il_3, il_4, il_5, il_6, il_7, il_8, il_9, il_10, il_11, il_12, il_13, il_14, il_15, il_16, il_32, il_35, il_40, il_41, il_42, il_43, il_44, il_45, il_46, il_48, il_57, il_58, il_59, il_60, il_99, il_104, il_115, il_116, il_119, il_126, il_133, il_255, il_256, il_512, il_931, il_1000, il_65536, bn0, bn1, bn2, bn3, bn4, bn5, bn6, bn7, bn8, bn9, bn10, bn11, bn12, bn13, bn14, bn15, nI_leI, nI_ltI, nI_eq, nI_clamp, nI_add, pk_mul, nI_lt0, ng_lt0, ng_ge0, ng_eqn, ng_neq, ng_len, ng_eq, sV_m1, sV_lt0, sV_ge0, if_true, if_false, Nat.le_refl, Nat.lt_irrefl, Nat.not_lt_zero, Nat.zero_le, not_true_eq_false, not_false_eq_true, false_and, true_and, and_true, and_false, true_or, or_true, false_or, or_false, reduceCtorEq, Bool.false_eq_true]
        exact next fun h => by rw [(hr j (by omega) l).mpr h.2] at hb2; cases hb2
      · simp (disch := omega) only [↓reduceIte, nm_x, chk_nI, chz_0, chz_1, chz_b2, chn_nI, oi_1, oi_2, oi_m1, il_0, il_1, il_2, il_3, il_4, il_5, il_6, il_7, il_8, il_9, il_10, il_11, il_12, il_13, il_14, il_15, il_16, il_32, il_35, il_40, il_41, il_42, il_43, il_44, il_45, il_46, il_48, il_57, il_58, il_59, il_60, il_99, il_104, il_115, il_116, il_119, il_126, il_133, il_255, il_256, il_512, il_931, il_1000, il_65536, bn0, bn1, bn2, bn3, bn4, bn5, bn6, bn7, bn8, bn9, bn10, bn11, bn12, bn13, bn14, bn15, nI_leI, nI_ltI, nI_eq, nI_clamp, nI_add, pk_mul, nI_lt0, ng_lt0, ng_ge0, ng_eqn, ng_neq, ng_len, ng_eq, sV_m1, sV_lt0, sV_ge0, if_true, if_false, Nat.le_refl, Nat.lt_irrefl, Nat.not_lt_zero, Nat.zero_le, not_true_eq_false, not_false_eq_true, false_and, true_and, and_true, and_false, true_or, or_true, false_or, or_false, reduceCtorEq]
        exact ⟨_, rfl, Or.inr ⟨fun h => (HD_loop hG hl).mp h j ((hv j).mp hb) (Or.inr ((hr j (by omega) l).mp hb2)), rfl⟩⟩
theorem X10_deep (hG : GV g) (hM : MR g nw) {l : Nat} (hl : l < 16) (r : Nat → Int32) : ∃ x r', J_X10_deep nw r (nI l) = some (x, r') ∧ ((HD g l ∧ x = nI (DV g l)) ∨ (¬ HD g l ∧ x = -nI 1)) := by
  unfold J_X10_deep
  rw [X10_isSwitch hG hM hl]
  simp only [bn1, il_0, b2_0, decide_eq_false_iff_not]
  by_cases h0 : GA g l 0 = 0
  · rw [if_neg (by simpa using h0)]
    have hH : HD g l := (HD_iff hG hl).mpr (Or.inl h0)
    exact ⟨_, _, rfl, Or.inl ⟨hH, by rw [DV_eq hG hl hH, if_pos h0]⟩⟩
  · rw [if_pos h0]
    obtain ⟨x, r', e1, h1, h2⟩ := X10_loopSet hG hM r
    rw [e1]
    simp only [bn2, nm_x, il_1]
    rw [bit_and _ l (by omega)]
    cases hb : bt x l
    · simp (disch := omega) only [↓reduceIte, nm_x, chk_nI, chz_0, chz_1, chz_b2, chn_nI, oi_1, oi_2, oi_m1, il_0, il_1, il_2, il_3, il_4, il_5, il_6, il_7, il_8, il_9, il_10, il_11, il_12, il_13, il_14, il_15, il_16, il_32, il_35, il_40, il_41, il_42, il_43, il_44, il_45, il_46, il_48, il_57, il_58, il_59, il_60, il_99, il_104, il_115, il_116, il_119, il_126, il_133, il_255, il_256, il_512, il_931, il_1000, il_65536, bn0, bn1, bn2, bn3, bn4, bn5, bn6, bn7, bn8, bn9, bn10, bn11, bn12, bn13, bn14, bn15, nI_leI, nI_ltI, nI_eq, nI_clamp, nI_add, pk_mul, nI_lt0, ng_lt0, ng_ge0, ng_eqn, ng_neq, ng_len, ng_eq, sV_m1, sV_lt0, sV_ge0, if_true, if_false, Nat.le_refl, Nat.lt_irrefl, Nat.not_lt_zero, Nat.zero_le, not_true_eq_false, not_false_eq_true, false_and, true_and, and_true, and_false, true_or, or_true, false_or, or_false, reduceCtorEq, Bool.false_eq_true]
      obtain ⟨y, e2, h3⟩ := X10_deep_L hG hM hl h2 h1 (fun h => by rw [(h1 l).mpr h] at hb; cases hb) (g 0) FU 0 (by omega) (by have := hG.1; unfold FU; omega) (fun x hx => absurd hx (Nat.not_lt_zero x))
      exact ⟨y, r', e2, h3⟩
    · simp (disch := omega) only [↓reduceIte, nm_x, chk_nI, chz_0, chz_1, chz_b2, chn_nI, oi_1, oi_2, oi_m1, il_0, il_1, il_2, il_3, il_4, il_5, il_6, il_7, il_8, il_9, il_10, il_11, il_12, il_13, il_14, il_15, il_16, il_32, il_35, il_40, il_41, il_42, il_43, il_44, il_45, il_46, il_48, il_57, il_58, il_59, il_60, il_99, il_104, il_115, il_116, il_119, il_126, il_133, il_255, il_256, il_512, il_931, il_1000, il_65536, bn0, bn1, bn2, bn3, bn4, bn5, bn6, bn7, bn8, bn9, bn10, bn11, bn12, bn13, bn14, bn15, nI_leI, nI_ltI, nI_eq, nI_clamp, nI_add, pk_mul, nI_lt0, ng_lt0, ng_ge0, ng_eqn, ng_neq, ng_len, ng_eq, sV_m1, sV_lt0, sV_ge0, if_true, if_false, Nat.le_refl, Nat.lt_irrefl, Nat.not_lt_zero, Nat.zero_le, not_true_eq_false, not_false_eq_true, false_and, true_and, and_true, and_false, true_or, or_true, false_or, or_false, reduceCtorEq]
      exact ⟨_, _, rfl, Or.inr ⟨fun h => (HD_loop hG hl).mp h l ((h1 l).mp hb) (Or.inl rfl), rfl⟩⟩
end DeepM
/-! the class: down the wires, with what is known kept -/
def unk (kn : Nat → Int32) : Nat := fb_ct (fun x => decide (kn x = -nI 1)) 16
/-- what is known is right; what is marked has no depth, or is on the way down -/
def KN (g : Nat → Nat) (kn : Nat → Int32) (A : Nat → Prop) : Prop := ∀ x, x < 16 → kn x = -nI 1 ∨ (HD g x ∧ kn x = nI (DV g x)) ∨ (kn x = -nI 15 ∧ (¬ HD g x ∨ A x))
theorem unk_le {kn kn' : Nat → Int32} (h : ∀ x, x < 16 → kn' x = -nI 1 → kn x = -nI 1) : unk kn' ≤ unk kn := fb_ct_sub fun x hx hb => decide_eq_true (h x hx (of_decide_eq_true hb))
theorem unk_upd {kn : Nat → Int32} {l : Nat} {v : Int32} (hl : l < 16) (h : kn l = -nI 1) (hv : v ≠ -nI 1) : unk (upd kn l v) < unk kn := by
  refine fb_ct_lt (fun x hx hb => ?_) ⟨l, hl, decide_eq_true h, decide_eq_false ?_⟩
  · have h1 := of_decide_eq_true hb
    unfold upd at h1
    by_cases e : x = l
    · rw [if_pos e] at h1; exact absurd h1 hv
    · rw [if_neg e] at h1; exact decide_eq_true h1
  · unfold upd; rw [if_pos rfl]; exact hv
section BelowX
variable {g : Nat → Nat} {c : Int32} {k w so : Nat → Int32}
theorem X0_ownDepth (hG : GV g) (hS : SR g c k w so) {l dd : Nat} (hl : l < g 0) : J_X0_ownDepth c k w (nI l) (nI dd) = some (nI (if GA g l 0 = 0 then 0 else dd + GA g l 1)) := by
  unfold J_X0_ownDepth J_X0_ownDepth_b19
  rw [X2_isSwitch hG hS hl, X2_wickOf hG hS hl]
  simp only [bn1, il_0, b2_0, decide_eq_false_iff_not, nm_x, nI_add]
  by_cases h0 : GA g l 0 = 0
  · rw [if_neg (by simpa using h0), if_pos h0]
  · rw [if_pos h0, if_neg h0]
/-- the answer of a descent to l -/
def BW (g : Nat → Nat) (l : Nat) (kn : Nat → Int32) (A : Nat → Prop) (r : Int32) (kn' : Nat → Int32) : Prop := KN g kn' A ∧ (∀ x, x < 16 → kn' x = -nI 1 → kn x = -nI 1) ∧ ((HD g l ∧ r = nI (DV g l)) ∨ (r = -nI 15 ∧ (¬ HD g l ∨ A l)))
theorem X0_below_L (hG : GV g) (hS : SR g c k w so) (slf : Int32 → (Nat → Int32) → (Nat → Int32) → (Nat → Int32) → (Nat → Int32) → Int32 → Int32 → Option (Int32 × (Nat → Int32))) {l lv : Nat} (hl : l < g 0) (A : Nat → Prop) (hA : ∀ x, A x → x = l ∨ Leads g l x) {kn0 : Nat → Int32}
    (hslf : ∀ s kn, s < g 0 → wr g s l → KN g kn (fun x => A x ∨ x = l) → unk kn ≤ unk kn0 → ∃ r kn', slf c k w so kn (nI s) (nI (lv + 1)) = some (r, kn') ∧ BW g s kn (fun x => A x ∨ x = l) r kn') :
    ∀ d nf p kn, p + d = 3 → d < nf → KN g kn (fun x => A x ∨ x = l) → (∀ x, x < 16 → kn x = -nI 1 → kn0 x = -nI 1) → (∀ q, q < p → src g l q ≠ 0 → HD g (src g l q - 1)) → ∃ r kn', J_X0_below_L39 slf c k w so (nI l) (nI lv) nf kn (nI (mx (fun q => if src g l q = 0 then 0 else DV g (src g l q - 1)) p)) (nI p) = some (r, kn') ∧ BW g l kn0 A r kn' := by
  have hn := hG.1
  have hl16 : l < 16 := by omega
  have hbd : ∀ p, p < 3 → (if src g l p = 0 then 0 else DV g (src g l p - 1)) ≤ 64 := fun p hp => by
    split
    · omega
    · exact DV_le hG (by have := src_lt hG hl16 hp (by assumption); omega)
  intro d
  induction d with
  | zero =>
    intro nf p kn hp hd hk hu hq
    obtain ⟨m, rfl, -⟩ := nf_of hd
    obtain rfl : p = 3 := by omega
    have hH : HD g l := (HD_iff hG hl16).mpr (Or.inr fun p hp h0 => hq p hp h0)
    have hdv : (if GA g l 0 = 0 then 0 else mx (fun q => if src g l q = 0 then 0 else DV g (src g l q - 1)) 3 + GA g l 1) = DV g l := (DV_eq hG hl16 hH).symm
    rw [J_X0_below_L39, X0_ownDepth hG hS hl]
    simp (disch := omega) only [↓reduceIte, nm_x, chk_nI, chz_0, chz_1, chz_b2, chn_nI, oi_1, oi_2, oi_m1, il_0, il_1, il_2, il_3, il_4, il_5, il_6, il_7, il_8, il_9, il_10, il_11, il_12, il_13, il_14, il_15, il_16, il_32, il_35, il_40, il_41, il_42, il_43, il_44, il_45, il_46, il_48, il_57, il_58, il_59, il_60, il_99, il_104, il_115, il_116, il_119, il_126, il_133, il_255, il_256, il_512, il_931, il_1000, il_65536, bn0, bn1, bn2, bn3, bn4, bn5, bn6, bn7, bn8, bn9, bn10, bn11, bn12, bn13, bn14, bn15, nI_leI, nI_ltI, nI_eq, nI_clamp, nI_add, pk_mul, nI_lt0, ng_lt0, ng_ge0, ng_eqn, ng_neq, ng_len, ng_eq, sV_m1, sV_lt0, sV_ge0, if_true, if_false, Nat.le_refl, Nat.lt_irrefl, Nat.not_lt_zero, Nat.zero_le, not_true_eq_false, not_false_eq_true, false_and, true_and, and_true, and_false, true_or, or_true, false_or, or_false, reduceCtorEq]
    rw [hdv]
    refine ⟨_, _, rfl, fun x hx => ?_, fun x hx e => ?_, Or.inl ⟨hH, by unfold upd; rw [if_pos rfl]⟩⟩
    · unfold upd
      by_cases e : x = l
      · rw [if_pos e, e]; exact Or.inr (Or.inl ⟨hH, rfl⟩)
      · rw [if_neg e]
        rcases hk x hx with h | h | ⟨h1, h2 | h2 | h2⟩
        · exact Or.inl h
        · exact Or.inr (Or.inl h)
        · exact Or.inr (Or.inr ⟨h1, Or.inl h2⟩)
        · exact Or.inr (Or.inr ⟨h1, Or.inr h2⟩)
        · exact absurd h2 e
    · unfold upd at e
      by_cases q : x = l
      · rw [if_pos q, ng_neq (by omega) (by omega) (by have := DV_le hG hl16; omega)] at e; exact e.elim
      · rw [if_neg q] at e; exact hu x hx e
  | succ d ih =>
    intro nf p kn hp hd hk hu hq
    obtain ⟨m, rfl, hm⟩ := nf_of hd
    have hsr := GV_src hG hl16 (show p < 3 by omega)
    rw [J_X0_below_L39, X2_sourceOf hS hl16 (by omega)]
    unfold J_X0_below_b74
    have hb2 := mx_le (F := fun q => if src g l q = 0 then 0 else DV g (src g l q - 1)) (n := p) (fun q hq => hbd q (by omega))
    simp (disch := omega) only [↓reduceIte, nm_x, chk_nI, chz_0, chz_1, chz_b2, chn_nI, oi_1, oi_2, oi_m1, il_0, il_1, il_2, il_3, il_4, il_5, il_6, il_7, il_8, il_9, il_10, il_11, il_12, il_13, il_14, il_15, il_16, il_32, il_35, il_40, il_41, il_42, il_43, il_44, il_45, il_46, il_48, il_57, il_58, il_59, il_60, il_99, il_104, il_115, il_116, il_119, il_126, il_133, il_255, il_256, il_512, il_931, il_1000, il_65536, bn0, bn1, bn2, bn3, bn4, bn5, bn6, bn7, bn8, bn9, bn10, bn11, bn12, bn13, bn14, bn15, nI_leI, nI_ltI, nI_eq, nI_clamp, nI_add, pk_mul, nI_lt0, ng_lt0, ng_ge0, ng_eqn, ng_neq, ng_len, ng_eq, sV_m1, sV_lt0, sV_ge0, if_true, if_false, Nat.le_refl, Nat.lt_irrefl, Nat.not_lt_zero, Nat.zero_le, not_true_eq_false, not_false_eq_true, false_and, true_and, and_true, and_false, true_or, or_true, false_or, or_false, reduceCtorEq, show ¬ 3 ≤ p by omega]
    by_cases h : src g l p = 0
    · simp only [h, if_true]
      have ih' := ih m (p + 1) kn (by omega) (by omega) hk hu (fun q hq1 hq0 => by
        rcases Nat.lt_or_ge q p with x | x
        · exact hq q x hq0
        · obtain rfl : q = p := by omega
          exact absurd h hq0)
      rw [mx] at ih'
      simp only [h, if_true, Nat.not_lt_zero, if_false] at ih'
      exact ih'
    · simp only [h, if_false, sV_s h]
      have hs := src_lt hG hl16 (show p < 3 by omega) h
      have hw := wr_src hl (show p < 3 by omega) h
      have hgate := wr_gate hG hw
      obtain ⟨r, kn', e1, h1, h2, h3⟩ := hslf _ kn hs hw hk (unk_le hu)
      rw [e1]
      simp only [bn2]
      have hu' : ∀ x, x < 16 → kn' x = -nI 1 → kn0 x = -nI 1 := fun x hx e => hu x hx (h2 x hx e)
      rcases h3 with ⟨h3, rfl⟩ | ⟨rfl, h3⟩
      · have hb1 := hbd p (by omega)
        rw [if_neg h] at hb1
        have ih' := ih m (p + 1) kn' (by omega) (by omega) h1 hu' (fun q hq1 hq0 => by
          rcases Nat.lt_or_ge q p with x | x
          · exact hq q x hq0
          · obtain rfl : q = p := by omega
            exact h3)
        rw [mx] at ih'
        simp only [h, if_false] at ih'
        simp (disch := omega) only [↓reduceIte, nm_x, chk_nI, chz_0, chz_1, chz_b2, chn_nI, oi_1, oi_2, oi_m1, il_0, il_1, il_2, il_3, il_4, il_5, il_6, il_7, il_8, il_9, il_10, il_11, il_12, il_13, il_14, il_15, il_16, il_32, il_35, il_40, il_41, il_42, il_43, il_44, il_45, il_46, il_48, il_57, il_58, il_59, il_60, il_99, il_104, il_115, il_116, il_119, il_126, il_133, il_255, il_256, il_512, il_931, il_1000, il_65536, bn0, bn1, bn2, bn3, bn4, bn5, bn6, bn7, bn8, bn9, bn10, bn11, bn12, bn13, bn14, bn15, nI_leI, nI_ltI, nI_eq, nI_clamp, nI_add, pk_mul, nI_lt0, ng_lt0, ng_ge0, ng_eqn, ng_neq, ng_len, ng_eq, sV_m1, sV_lt0, sV_ge0, if_true, if_false, Nat.le_refl, Nat.lt_irrefl, Nat.not_lt_zero, Nat.zero_le, not_true_eq_false, not_false_eq_true, false_and, true_and, and_true, and_false, true_or, or_true, false_or, or_false, reduceCtorEq]
        by_cases q : mx (fun q => if src g l q = 0 then 0 else DV g (src g l q - 1)) p < DV g (src g l p - 1)
        · rw [if_pos q] at ih' ⊢
          exact ih'
        · rw [if_neg q] at ih' ⊢
          exact ih'
      · simp (disch := omega) only [↓reduceIte, nm_x, chk_nI, chz_0, chz_1, chz_b2, chn_nI, oi_1, oi_2, oi_m1, il_0, il_1, il_2, il_3, il_4, il_5, il_6, il_7, il_8, il_9, il_10, il_11, il_12, il_13, il_14, il_15, il_16, il_32, il_35, il_40, il_41, il_42, il_43, il_44, il_45, il_46, il_48, il_57, il_58, il_59, il_60, il_99, il_104, il_115, il_116, il_119, il_126, il_133, il_255, il_256, il_512, il_931, il_1000, il_65536, bn0, bn1, bn2, bn3, bn4, bn5, bn6, bn7, bn8, bn9, bn10, bn11, bn12, bn13, bn14, bn15, nI_leI, nI_ltI, nI_eq, nI_clamp, nI_add, pk_mul, nI_lt0, ng_lt0, ng_ge0, ng_eqn, ng_neq, ng_len, ng_eq, sV_m1, sV_lt0, sV_ge0, if_true, if_false, Nat.le_refl, Nat.lt_irrefl, Nat.not_lt_zero, Nat.zero_le, not_true_eq_false, not_false_eq_true, false_and, true_and, and_true, and_false, true_or, or_true, false_or, or_false, reduceCtorEq]
        have hno : ¬ HD g l := fun hH => by
          rcases h3 with h3 | h3 | h3
          · exact h3 (((HD_iff hG hl16).mp hH).resolve_left hgate p (by omega) h)
          · have hlx : Leads g l l := by
              rcases hA _ h3 with e | e
              · rw [e] at hw; exact Leads.of hw
              · exact e.wire hw
            exact (HD_loop hG hl16).mp hH l hlx (Or.inl rfl)
          · rw [h3] at hw
            exact (HD_loop hG hl16).mp hH l (Leads.of hw) (Or.inl rfl)
        refine ⟨_, _, rfl, fun x hx => ?_, hu', Or.inr ⟨rfl, Or.inl hno⟩⟩
        rcases h1 x hx with a | a | ⟨a, b | b | b⟩
        · exact Or.inl a
        · exact Or.inr (Or.inl a)
        · exact Or.inr (Or.inr ⟨a, Or.inl b⟩)
        · exact Or.inr (Or.inr ⟨a, Or.inr b⟩)
        · subst b; exact Or.inr (Or.inr ⟨a, Or.inl hno⟩)
theorem X0_below (hG : GV g) (hS : SR g c k w so) : ∀ F l lv kn (A : Nat → Prop), l < g 0 → KN g kn A → (∀ x, A x → x = l ∨ Leads g l x) → unk kn + 1 ≤ F → lv + unk kn ≤ 16 → ∃ r kn', J_X0_below F c k w so kn (nI l) (nI lv) = some (r, kn') ∧ BW g l kn A r kn' := by
  have hn := hG.1
  intro F
  induction F with
  | zero => intro l lv kn A _ _ _ h; omega
  | succ F ih =>
    intro l lv kn A hl hk hA hF hlv
    have hl16 : l < 16 := by omega
    rw [J_X0_below]
    unfold J_X0_below_top J_X0_below_b14
    have hc := X2_isHung_t hl hn
    rw [← hS.1] at hc
    rw [hc]
    simp (disch := omega) only [↓reduceIte, nm_x, chk_nI, chz_0, chz_1, chz_b2, chn_nI, oi_1, oi_2, oi_m1, il_0, il_1, il_2, il_3, il_4, il_5, il_6, il_7, il_8, il_9, il_10, il_11, il_12, il_13, il_14, il_15, il_16, il_32, il_35, il_40, il_41, il_42, il_43, il_44, il_45, il_46, il_48, il_57, il_58, il_59, il_60, il_99, il_104, il_115, il_116, il_119, il_126, il_133, il_255, il_256, il_512, il_931, il_1000, il_65536, bn0, bn1, bn2, bn3, bn4, bn5, bn6, bn7, bn8, bn9, bn10, bn11, bn12, bn13, bn14, bn15, nI_leI, nI_ltI, nI_eq, nI_clamp, nI_add, pk_mul, nI_lt0, ng_lt0, ng_ge0, ng_eqn, ng_neq, ng_len, ng_eq, sV_m1, sV_lt0, sV_ge0, if_true, if_false, Nat.le_refl, Nat.lt_irrefl, Nat.not_lt_zero, Nat.zero_le, not_true_eq_false, not_false_eq_true, false_and, true_and, and_true, and_false, true_or, or_true, false_or, or_false, reduceCtorEq, show lv ≤ 16 by omega]
    by_cases h : kn l = -nI 1
    · rw [if_pos h]
      have hlt := unk_upd (v := -nI 15) hl16 h (fun e => absurd e (by rw [ng_eq (by omega) (by omega)]; omega))
      obtain ⟨r, kn', e1, h1, h2, h3⟩ := X0_below_L hG hS (fun a0_count a0_kinds a0_wicks a0_sources a2 v1 v3 => J_X0_below F a0_count a0_kinds a0_wicks a0_sources a2 v1 v3) (lv := lv) hl A hA (kn0 := upd kn l (-nI 15)) (fun s kn1 hs hw hk1 hu1 => ih s (lv + 1) kn1 _ hs hk1 (fun x hx => by
        rcases hx with hx | hx
        · rcases hA x hx with e | e
          · subst e; exact Or.inr (Leads.of hw)
          · exact Or.inr ((Leads.of hw).tr e)
        · subst hx; exact Or.inr (Leads.of hw)) (by omega) (by omega)) 3 FU 0 (upd kn l (-nI 15)) rfl (by unfold FU; omega) (fun x hx => by
          unfold upd
          by_cases e : x = l
          · rw [if_pos e]; exact Or.inr (Or.inr ⟨rfl, Or.inr (Or.inr e)⟩)
          · rw [if_neg e]
            rcases hk x hx with a | a | ⟨a, b | b⟩
            · exact Or.inl a
            · exact Or.inr (Or.inl a)
            · exact Or.inr (Or.inr ⟨a, Or.inl b⟩)
            · exact Or.inr (Or.inr ⟨a, Or.inr (Or.inl b)⟩)) (fun x hx e => e) (fun q hq => absurd hq (Nat.not_lt_zero q))
      refine ⟨r, kn', e1, h1, fun x hx e => ?_, h3⟩
      have := h2 x hx e
      unfold upd at this
      by_cases q : x = l
      · rw [q]; exact h
      · rw [if_neg q] at this; exact this
    · rw [if_neg h]
      refine ⟨_, _, rfl, hk, fun x hx e => e, ?_⟩
      rcases hk l hl16 with a | a | a
      · exact absurd a h
      · exact Or.inl a
      · exact Or.inr a
theorem unk_16 (kn : Nat → Int32) : unk kn ≤ 16 := fb_ct_le _ _
end BelowX

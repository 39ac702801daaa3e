/-! TEXTS: how they are read -/
/-- a text of n signs -/
def TG (n : Nat) (tg : Nat → Nat) (sg : Nat → Int32) : Prop := n ≤ 60 ∧ ∀ i, i < n → sg i = nI (tg i) ∧ tg i < 128
def pb {α β : Type} (r : Nat × Option α) (f : Nat → α → Nat × Option β) : Nat × Option β := match r with
  | (a, none) => (a, none)
  | (a, some v) => f a v
def rwo (n : Nat) (tg : Nat → Nat) : List Nat → Nat → Nat × Option Unit
  | [], a => (a, some ())
  | c :: cs, a => if a < n ∧ tg a = c then rwo n tg cs (a + 1) else (a, none)
def rdg (n : Nat) (tg : Nat → Nat) (a : Nat) : Nat × Option Nat := if a < n ∧ 48 ≤ tg a ∧ tg a ≤ 57 then (a + 1, some (tg a - 48)) else (a, none)
def rnm (n : Nat) (tg : Nat → Nat) (a : Nat) : Nat × Option Nat := pb (rdg n tg a) fun a1 v => match rdg n tg a1 with
  | (a2, some w) => (a2, some (10 * v + w))
  | (_, none) => (a1, some v)
def rsg (n : Nat) (tg : Nat → Nat) (a : Nat) : Nat × Option Nat := if a < n ∧ tg a = 43 then (a + 1, some 1) else if a < n ∧ tg a = 45 then (a + 1, some 0) else (a, none)
def pkw (n : Nat) (tg : Nat → Nat) (a : Nat) : Nat × Option (Nat × Nat) := pb (rdg n tg a) fun a x => pb (rwo n tg [42] a) fun a _ => pb (rdg n tg a) fun a y => (a, some (x, y))
def plp (n : Nat) (tg : Nat → Nat) (a : Nat) : Nat × Option (Nat × Nat) := pb (rnm n tg a) fun a x => pb (rwo n tg [46] a) fun a _ => pb (rdg n tg a) fun a y => (a, some (x, y))
def pfr (n : Nat) (tg : Nat → Nat) (a : Nat) : Nat × Option Nat := pb (rwo n tg [60] a) fun a _ => rnm n tg a
def plg (n : Nat) (tg : Nat → Nat) (a : Nat) : Nat × Option (Nat × Nat) := pb (rnm n tg a) fun a x => pb (rsg n tg a) fun a y => (a, some (x, y))
/-- an order: which, and its numbers -/
def PO (n : Nat) (tg : Nat → Nat) (a : Nat) : Nat × Option (Nat × Nat × Nat × Nat) :=
  if ¬ a < n then (a, none)
  else if tg a = 104 then pb (rwo n tg [97, 110, 103, 32] (a + 1)) fun a _ => pb (pkw n tg a) fun a v => (a, some (0, v.1, v.2, 0))
  else if tg a = 119 then pb (rwo n tg [105, 114, 101, 32] (a + 1)) fun a _ => pb (plp n tg a) fun a v => pb (pfr n tg a) fun a z => (a, some (1, v.1, v.2, z))
  else if tg a = 99 then pb (rwo n tg [117, 116, 32] (a + 1)) fun a _ => pb (plp n tg a) fun a v => (a, some (2, v.1, v.2, 0))
  else if tg a = 115 then pb (rwo n tg [101, 116, 32] (a + 1)) fun a _ => pb (plg n tg a) fun a v => (a, some (3, v.1, v.2, 0))
  else if tg a = 116 then pb (rwo n tg [105, 99, 107, 32] (a + 1)) fun a _ => pb (rnm n tg a) fun a x => (a, some (4, x, 0, 0))
  else (a, none)
/-! where reading goes: no further than the text, nor back -/
theorem rwo_le {n : Nat} {tg : Nat → Nat} : ∀ ws a, a ≤ n → a ≤ (rwo n tg ws a).1 ∧ (rwo n tg ws a).1 ≤ n
  | [], a, h => ⟨Nat.le_refl a, h⟩
  | c :: cs, a, h => by
    rw [rwo]
    split
    · have := rwo_le (n := n) (tg := tg) cs (a + 1) (by omega)
      omega
    · exact ⟨Nat.le_refl a, h⟩
theorem rdg_le {n : Nat} {tg : Nat → Nat} {a : Nat} (h : a ≤ n) : a ≤ (rdg n tg a).1 ∧ (rdg n tg a).1 ≤ n := by
  unfold rdg
  split
  · show a ≤ a + 1 ∧ a + 1 ≤ n
    omega
  · exact ⟨Nat.le_refl a, h⟩
theorem rdg_v {n : Nat} {tg : Nat → Nat} {a a1 v : Nat} (h : rdg n tg a = (a1, some v)) : a1 = a + 1 ∧ a < n ∧ v ≤ 9 ∧ v = tg a - 48 ∧ 48 ≤ tg a := by
  unfold rdg at h
  split at h
  · cases h
    omega
  · cases h
theorem rnm_v {n : Nat} {tg : Nat → Nat} {a a1 v : Nat} (h : rnm n tg a = (a1, some v)) : a < a1 ∧ a1 ≤ n ∧ v ≤ 99 := by
  unfold rnm at h
  rcases h1 : rdg n tg a with ⟨b, _ | x⟩
  · rw [h1] at h; cases h
  · rw [h1] at h
    obtain ⟨q1, q2, q3, -⟩ := rdg_v h1
    rcases h2 : rdg n tg b with ⟨b2, _ | y⟩
    · simp only [pb, h2] at h
      cases h
      omega
    · simp only [pb, h2] at h
      obtain ⟨r1, r2, r3, -⟩ := rdg_v h2
      cases h
      omega
theorem rnm_le {n : Nat} {tg : Nat → Nat} {a : Nat} (h : a ≤ n) : a ≤ (rnm n tg a).1 ∧ (rnm n tg a).1 ≤ n := by
  unfold rnm
  rcases h1 : rdg n tg a with ⟨b, _ | x⟩
  · have := rdg_le (tg := tg) h
    rw [h1] at this
    exact this
  · obtain ⟨q1, q2, q3, -⟩ := rdg_v h1
    rcases h2 : rdg n tg b with ⟨b2, _ | y⟩
    · simp only [pb, h2]
      omega
    · obtain ⟨r1, r2, r3, -⟩ := rdg_v h2
      simp only [pb, h2]
      omega
theorem rsg_le {n : Nat} {tg : Nat → Nat} {a : Nat} (h : a ≤ n) : a ≤ (rsg n tg a).1 ∧ (rsg n tg a).1 ≤ n := by
  unfold rsg
  split
  · show a ≤ a + 1 ∧ a + 1 ≤ n
    omega
  · split
    · show a ≤ a + 1 ∧ a + 1 ≤ n
      omega
    · exact ⟨Nat.le_refl a, h⟩
/-! strings of the JDK -/
theorem getD_get {ws : List Nat} {i : Nat} (hi : i < ws.length) : ws.getD i 0 = ws[i] := by
  rw [List.getD_eq_getElem?_getD, List.getElem?_eq_getElem hi]; rfl
theorem getD_map {ws : List Nat} {i : Nat} (hi : i < ws.length) : (ws.map nI).getD i 0 = nI (ws.getD i 0) := by
  rw [List.getD_eq_getElem?_getD, List.getElem?_map, List.getElem?_eq_getElem hi, getD_get hi]; rfl
theorem str_len {ws : List Nat} (h : ws.length < 2 ^ 31) : J_J0_length_8abf5 (ws.map nI) = some (nI ws.length) := by
  unfold J_J0_length_8abf5 J_J0_coder_7d493 J_J0_coder_7d493_b14
  rw [if_neg (by decide +kernel), il_0, chz_0, bn1, List.length_map]
  show some (nI ws.length >>> (nI 0 &&& 31)) = _
  rw [pk_shrN h (nI 0 &&& 31) 0 (by decide +kernel), Nat.pow_zero, Nat.div_one]
theorem ch_eq {c : Nat} (hc : c < 128) : ((nI c &&& 255).toUInt32 % 65536).toInt32 = nI c := by
  rw [show (255 : Int32) = nI (2 ^ 8 - 1) from rfl, fa_mask, Nat.mod_eq_of_lt (by omega), pk_char, pk_tn (by omega), Nat.mod_eq_of_lt (by omega)]
theorem str_at {ws : List Nat} (h : ws.length < 2 ^ 31) {i : Nat} (hi : i < ws.length) (hc : ws.getD i 0 < 128) : J_J0_charAt_5068e (ws.map nI) (nI i) = some (nI (ws.getD i 0)) := by
  have hg : (ws.map nI).getD i 0 = nI (ws.getD i 0) := getD_map hi
  have hk : vp_nar .char (nI (ws.getD i 0)) = nI (ws.getD i 0) := by
    have := pk_vc (nI (ws.getD i 0) &&& 255)
    rwa [ch_eq hc] at this
  have e1 : J_J1_charAt_3b067 (ws.map nI) (nI i) = some (nI (ws.getD i 0)) := by
    unfold J_J1_charAt_3b067 J_J0_checkIndex_df160 J_J3_checkIndex_8e157
    rw [if_neg (nI_pos (by omega)), List.length_map, if_pos (show nI i < Int32.ofNat ws.length from nI_lt hi h), bn1, bn0, chk_nI hi h, nI_clamp (by omega), nm_x, hg, ch_eq hc]
    unfold chc
    rw [if_pos hk]
  unfold J_J0_charAt_5068e J_J0_isLatin1_aae02 J_J0_isLatin1_aae02_b18
  rw [if_neg (by decide +kernel), if_pos rfl, il_1, chz_1, bn1, if_neg (by decide +kernel), e1, bn1]
  unfold chc
  rw [if_pos hk]
section Parse
variable {n : Nat} {tg : Nat → Nat} {sg tx : Nat → Int32}
theorem X8_isRead (hT : TG n tg sg) {a c : Nat} (ha : a ≤ n) (hc : c < 128) : J_X8_isRead (nI n) (nI a) sg (nI c) = if a < n ∧ tg a = c then some (nI 1, nI (a + 1)) else some (nI 0, nI a) := by
  have h60 := hT.1
  unfold J_X8_isRead J_X8_isRead_b40
  by_cases h : a < n
  · obtain ⟨h1, h2⟩ := hT.2 a h
    simp (disch := omega) only [↓reduceIte, nm_x, chk_nI, chz_0, chz_1, chz_b2, chn_nI, oi_1, oi_2, oi_m1, il_0, il_1, il_2, il_3, il_4, il_5, il_6, il_7, il_8, il_9, il_10, il_11, il_12, il_13, il_14, il_15, il_16, il_32, il_35, il_40, il_41, il_42, il_43, il_44, il_45, il_46, il_48, il_57, il_58, il_59, il_60, il_99, il_104, il_115, il_116, il_119, il_126, il_133, il_255, il_256, il_512, il_931, il_1000, il_65536, bn0, bn1, bn2, bn3, bn4, bn5, bn6, bn7, bn8, bn9, bn10, bn11, bn12, bn13, bn14, bn15, nI_leI, nI_ltI, nI_eq, nI_clamp, nI_add, pk_mul, nI_lt0, ng_lt0, ng_ge0, ng_eqn, ng_neq, ng_len, ng_eq, sV_m1, sV_lt0, sV_ge0, if_true, if_false, Nat.le_refl, Nat.lt_irrefl, Nat.not_lt_zero, Nat.zero_le, not_true_eq_false, not_false_eq_true, false_and, true_and, and_true, and_false, true_or, or_true, false_or, or_false, reduceCtorEq, show ¬ n ≤ a by omega, show ¬ 60 ≤ a by omega, h1]
    by_cases q : tg a = c
    · rw [if_pos q, if_pos ⟨h, q⟩]
    · rw [if_neg q, if_neg (fun x => q x.2)]
  · simp (disch := omega) only [↓reduceIte, nm_x, chk_nI, chz_0, chz_1, chz_b2, chn_nI, oi_1, oi_2, oi_m1, il_0, il_1, il_2, il_3, il_4, il_5, il_6, il_7, il_8, il_9, il_10, il_11, il_12, il_13, il_14, il_15, il_16, il_32, il_35, il_40, il_41, il_42, il_43, il_44, il_45, il_46, il_48, il_57, il_58, il_59, il_60, il_99, il_104, il_115, il_116, il_119, il_126, il_133, il_255, il_256, il_512, il_931, il_1000, il_65536, bn0, bn1, bn2, bn3, bn4, bn5, bn6, bn7, bn8, bn9, bn10, bn11, bn12, bn13, bn14, bn15, nI_leI, nI_ltI, nI_eq, nI_clamp, nI_add, pk_mul, nI_lt0, ng_lt0, ng_ge0, ng_eqn, ng_neq, ng_len, ng_eq, sV_m1, sV_lt0, sV_ge0, if_true, if_false, Nat.le_refl, Nat.lt_irrefl, Nat.not_lt_zero, Nat.zero_le, not_true_eq_false, not_false_eq_true, false_and, true_and, and_true, and_false, true_or, or_true, false_or, or_false, reduceCtorEq, show n ≤ a by omega]
    rw [if_neg (fun x => h x.1)]
theorem X8_areRead_L (hT : TG n tg sg) {ws : List Nat} (hw : ws.length < 100) (hc : ∀ i, i < ws.length → ws.getD i 0 < 128) : ∀ d nf i a, i + d = ws.length → d < nf → a ≤ n → J_X8_areRead_L2 (nI n) sg (ws.map nI) nf (nI a) (nI i) = some (b2 (rwo n tg (ws.drop i) a).2.isSome, nI (rwo n tg (ws.drop i) a).1) := by
  intro d
  induction d with
  | zero =>
    intro nf i a hi hd ha
    obtain ⟨m, rfl, -⟩ := nf_of hd
    obtain rfl : i = ws.length := by omega
    rw [J_X8_areRead_L2, str_len (by omega), List.drop_length]
    simp (disch := omega) only [↓reduceIte, nm_x, chk_nI, chz_0, chz_1, chz_b2, chn_nI, oi_1, oi_2, oi_m1, il_0, il_1, il_2, il_3, il_4, il_5, il_6, il_7, il_8, il_9, il_10, il_11, il_12, il_13, il_14, il_15, il_16, il_32, il_35, il_40, il_41, il_42, il_43, il_44, il_45, il_46, il_48, il_57, il_58, il_59, il_60, il_99, il_104, il_115, il_116, il_119, il_126, il_133, il_255, il_256, il_512, il_931, il_1000, il_65536, bn0, bn1, bn2, bn3, bn4, bn5, bn6, bn7, bn8, bn9, bn10, bn11, bn12, bn13, bn14, bn15, nI_leI, nI_ltI, nI_eq, nI_clamp, nI_add, pk_mul, nI_lt0, ng_lt0, ng_ge0, ng_eqn, ng_neq, ng_len, ng_eq, sV_m1, sV_lt0, sV_ge0, if_true, if_false, Nat.le_refl, Nat.lt_irrefl, Nat.not_lt_zero, Nat.zero_le, not_true_eq_false, not_false_eq_true, false_and, true_and, and_true, and_false, true_or, or_true, false_or, or_false, reduceCtorEq, rwo]
    rfl
  | succ d ih =>
    intro nf i a hi hd ha
    obtain ⟨m, rfl, hm⟩ := nf_of hd
    have hil : i < ws.length := by omega
    have hd1 : ws.drop i = ws.getD i 0 :: ws.drop (i + 1) := by
      rw [getD_get hil]
      exact List.drop_eq_getElem_cons hil
    rw [J_X8_areRead_L2, str_len (by omega), str_at (by omega) hil (hc i hil), hd1, rwo]
    simp (disch := omega) only [↓reduceIte, nm_x, chk_nI, chz_0, chz_1, chz_b2, chn_nI, oi_1, oi_2, oi_m1, il_0, il_1, il_2, il_3, il_4, il_5, il_6, il_7, il_8, il_9, il_10, il_11, il_12, il_13, il_14, il_15, il_16, il_32, il_35, il_40, il_41, il_42, il_43, il_44, il_45, il_46, il_48, il_57, il_58, il_59, il_60, il_99, il_104, il_115, il_116, il_119, il_126, il_133, il_255, il_256, il_512, il_931, il_1000, il_65536, bn0, bn1, bn2, bn3, bn4, bn5, bn6, bn7, bn8, bn9, bn10, bn11, bn12, bn13, bn14, bn15, nI_leI, nI_ltI, nI_eq, nI_clamp, nI_add, pk_mul, nI_lt0, ng_lt0, ng_ge0, ng_eqn, ng_neq, ng_len, ng_eq, sV_m1, sV_lt0, sV_ge0, if_true, if_false, Nat.le_refl, Nat.lt_irrefl, Nat.not_lt_zero, Nat.zero_le, not_true_eq_false, not_false_eq_true, false_and, true_and, and_true, and_false, true_or, or_true, false_or, or_false, reduceCtorEq, show ¬ ws.length ≤ i by omega]
    rw [X8_isRead hT ha (hc i hil)]
    by_cases q : a < n ∧ tg a = ws.getD i 0
    · rw [if_pos q, if_pos q]
      simp (disch := omega) only [↓reduceIte, nm_x, chk_nI, chz_0, chz_1, chz_b2, chn_nI, oi_1, oi_2, oi_m1, il_0, il_1, il_2, il_3, il_4, il_5, il_6, il_7, il_8, il_9, il_10, il_11, il_12, il_13, il_14, il_15, il_16, il_32, il_35, il_40, il_41, il_42, il_43, il_44, il_45, il_46, il_48, il_57, il_58, il_59, il_60, il_99, il_104, il_115, il_116, il_119, il_126, il_133, il_255, il_256, il_512, il_931, il_1000, il_65536, bn0, bn1, bn2, bn3, bn4, bn5, bn6, bn7, bn8, bn9, bn10, bn11, bn12, bn13, bn14, bn15, nI_leI, nI_ltI, nI_eq, nI_clamp, nI_add, pk_mul, nI_lt0, ng_lt0, ng_ge0, ng_eqn, ng_neq, ng_len, ng_eq, sV_m1, sV_lt0, sV_ge0, if_true, if_false, Nat.le_refl, Nat.lt_irrefl, Nat.not_lt_zero, Nat.zero_le, not_true_eq_false, not_false_eq_true, false_and, true_and, and_true, and_false, true_or, or_true, false_or, or_false, reduceCtorEq]
      exact ih m (i + 1) (a + 1) (by omega) hm (by omega)
    · rw [if_neg q, if_neg q]
      simp (disch := omega) only [↓reduceIte, nm_x, chk_nI, chz_0, chz_1, chz_b2, chn_nI, oi_1, oi_2, oi_m1, il_0, il_1, il_2, il_3, il_4, il_5, il_6, il_7, il_8, il_9, il_10, il_11, il_12, il_13, il_14, il_15, il_16, il_32, il_35, il_40, il_41, il_42, il_43, il_44, il_45, il_46, il_48, il_57, il_58, il_59, il_60, il_99, il_104, il_115, il_116, il_119, il_126, il_133, il_255, il_256, il_512, il_931, il_1000, il_65536, bn0, bn1, bn2, bn3, bn4, bn5, bn6, bn7, bn8, bn9, bn10, bn11, bn12, bn13, bn14, bn15, nI_leI, nI_ltI, nI_eq, nI_clamp, nI_add, pk_mul, nI_lt0, ng_lt0, ng_ge0, ng_eqn, ng_neq, ng_len, ng_eq, sV_m1, sV_lt0, sV_ge0, if_true, if_false, Nat.le_refl, Nat.lt_irrefl, Nat.not_lt_zero, Nat.zero_le, not_true_eq_false, not_false_eq_true, false_and, true_and, and_true, and_false, true_or, or_true, false_or, or_false, reduceCtorEq]
      rfl
theorem X8_areRead (hT : TG n tg sg) {ws : List Nat} (hw : ws.length < 100) (hc : ∀ i, i < ws.length → ws.getD i 0 < 128) {a : Nat} (ha : a ≤ n) : J_X8_areRead (nI n) (nI a) sg (ws.map nI) = some (b2 (rwo n tg ws a).2.isSome, nI (rwo n tg ws a).1) := by
  unfold J_X8_areRead
  rw [il_0]
  exact X8_areRead_L hT hw hc ws.length FU 0 a (by omega) (by unfold FU; omega) ha
theorem X10_word_L (hT : TG n tg tx) {ws : List Nat} (hw : ws.length < 100) (hc : ∀ i, i < ws.length → ws.getD i 0 < 128) : ∀ d nf i a, i + d = ws.length → d < nf → a ≤ n → J_X10_word_L2 (nI n) tx (ws.map nI) nf (nI a) (nI i) = some (b2 (rwo n tg (ws.drop i) a).2.isSome, nI (rwo n tg (ws.drop i) a).1) := by
  have h60 := hT.1
  intro d
  induction d with
  | zero =>
    intro nf i a hi hd ha
    obtain ⟨m, rfl, -⟩ := nf_of hd
    obtain rfl : i = ws.length := by omega
    rw [J_X10_word_L2, str_len (by omega), List.drop_length]
    simp (disch := omega) only [↓reduceIte, nm_x, chk_nI, chz_0, chz_1, chz_b2, chn_nI, oi_1, oi_2, oi_m1, il_0, il_1, il_2, il_3, il_4, il_5, il_6, il_7, il_8, il_9, il_10, il_11, il_12, il_13, il_14, il_15, il_16, il_32, il_35, il_40, il_41, il_42, il_43, il_44, il_45, il_46, il_48, il_57, il_58, il_59, il_60, il_99, il_104, il_115, il_116, il_119, il_126, il_133, il_255, il_256, il_512, il_931, il_1000, il_65536, bn0, bn1, bn2, bn3, bn4, bn5, bn6, bn7, bn8, bn9, bn10, bn11, bn12, bn13, bn14, bn15, nI_leI, nI_ltI, nI_eq, nI_clamp, nI_add, pk_mul, nI_lt0, ng_lt0, ng_ge0, ng_eqn, ng_neq, ng_len, ng_eq, sV_m1, sV_lt0, sV_ge0, if_true, if_false, Nat.le_refl, Nat.lt_irrefl, Nat.not_lt_zero, Nat.zero_le, not_true_eq_false, not_false_eq_true, false_and, true_and, and_true, and_false, true_or, or_true, false_or, or_false, reduceCtorEq, rwo]
    rfl
  | succ d ih =>
    intro nf i a hi hd ha
    obtain ⟨m, rfl, hm⟩ := nf_of hd
    have hil : i < ws.length := by omega
    have hd1 : ws.drop i = ws.getD i 0 :: ws.drop (i + 1) := by
      rw [getD_get hil]
      exact List.drop_eq_getElem_cons hil
    have hci := hc i hil
    rw [J_X10_word_L2, str_len (by omega), str_at (by omega) hil hci, hd1, rwo]
    unfold J_X10_word_b38
    simp (disch := omega) only [↓reduceIte, nm_x, chk_nI, chz_0, chz_1, chz_b2, chn_nI, oi_1, oi_2, oi_m1, il_0, il_1, il_2, il_3, il_4, il_5, il_6, il_7, il_8, il_9, il_10, il_11, il_12, il_13, il_14, il_15, il_16, il_32, il_35, il_40, il_41, il_42, il_43, il_44, il_45, il_46, il_48, il_57, il_58, il_59, il_60, il_99, il_104, il_115, il_116, il_119, il_126, il_133, il_255, il_256, il_512, il_931, il_1000, il_65536, bn0, bn1, bn2, bn3, bn4, bn5, bn6, bn7, bn8, bn9, bn10, bn11, bn12, bn13, bn14, bn15, nI_leI, nI_ltI, nI_eq, nI_clamp, nI_add, pk_mul, nI_lt0, ng_lt0, ng_ge0, ng_eqn, ng_neq, ng_len, ng_eq, sV_m1, sV_lt0, sV_ge0, if_true, if_false, Nat.le_refl, Nat.lt_irrefl, Nat.not_lt_zero, Nat.zero_le, not_true_eq_false, not_false_eq_true, false_and, true_and, and_true, and_false, true_or, or_true, false_or, or_false, reduceCtorEq, show ¬ ws.length ≤ i by omega]
    by_cases ha2 : a = n
    · rw [if_pos ha2, if_neg (by omega)]
      rfl
    · obtain ⟨h1, h2⟩ := hT.2 a (by omega)
      simp (disch := omega) only [↓reduceIte, nm_x, chk_nI, chz_0, chz_1, chz_b2, chn_nI, oi_1, oi_2, oi_m1, il_0, il_1, il_2, il_3, il_4, il_5, il_6, il_7, il_8, il_9, il_10, il_11, il_12, il_13, il_14, il_15, il_16, il_32, il_35, il_40, il_41, il_42, il_43, il_44, il_45, il_46, il_48, il_57, il_58, il_59, il_60, il_99, il_104, il_115, il_116, il_119, il_126, il_133, il_255, il_256, il_512, il_931, il_1000, il_65536, bn0, bn1, bn2, bn3, bn4, bn5, bn6, bn7, bn8, bn9, bn10, bn11, bn12, bn13, bn14, bn15, nI_leI, nI_ltI, nI_eq, nI_clamp, nI_add, pk_mul, nI_lt0, ng_lt0, ng_ge0, ng_eqn, ng_neq, ng_len, ng_eq, sV_m1, sV_lt0, sV_ge0, if_true, if_false, Nat.le_refl, Nat.lt_irrefl, Nat.not_lt_zero, Nat.zero_le, not_true_eq_false, not_false_eq_true, false_and, true_and, and_true, and_false, true_or, or_true, false_or, or_false, reduceCtorEq, ha2, h1]
      by_cases q : tg a = ws.getD i 0
      · rw [if_pos q, if_pos ⟨by omega, q⟩]
        exact ih m (i + 1) (a + 1) (by omega) hm (by omega)
      · rw [if_neg q, if_neg (fun x => q x.2)]
        rfl
theorem X10_word (hT : TG n tg tx) {ws : List Nat} (hw : ws.length < 100) (hc : ∀ i, i < ws.length → ws.getD i 0 < 128) {a : Nat} (ha : a ≤ n) : J_X10_word (nI n) (nI a) tx (ws.map nI) = some (b2 (rwo n tg ws a).2.isSome, nI (rwo n tg ws a).1) := by
  unfold J_X10_word
  rw [il_0]
  exact X10_word_L hT hw hc ws.length FU 0 a (by omega) (by unfold FU; omega) ha
/-! digits -/
theorem X8_digit (hT : TG n tg sg) {a : Nat} (ha : a ≤ n) (num : Int32) : J_X8_isDigitRead (nI n) (nI a) num sg = some (b2 (rdg n tg a).2.isSome, nI (rdg n tg a).1, match (rdg n tg a).2 with | some v => nI v | none => num) := by
  have h60 := hT.1
  unfold J_X8_isDigitRead J_X8_isDigitRead_b55 rdg
  by_cases h : a < n
  · obtain ⟨h1, h2⟩ := hT.2 a h
    simp (disch := omega) only [↓reduceIte, nm_x, chk_nI, chz_0, chz_1, chz_b2, chn_nI, oi_1, oi_2, oi_m1, il_0, il_1, il_2, il_3, il_4, il_5, il_6, il_7, il_8, il_9, il_10, il_11, il_12, il_13, il_14, il_15, il_16, il_32, il_35, il_40, il_41, il_42, il_43, il_44, il_45, il_46, il_48, il_57, il_58, il_59, il_60, il_99, il_104, il_115, il_116, il_119, il_126, il_133, il_255, il_256, il_512, il_931, il_1000, il_65536, bn0, bn1, bn2, bn3, bn4, bn5, bn6, bn7, bn8, bn9, bn10, bn11, bn12, bn13, bn14, bn15, nI_leI, nI_ltI, nI_eq, nI_clamp, nI_add, pk_mul, nI_lt0, ng_lt0, ng_ge0, ng_eqn, ng_neq, ng_len, ng_eq, sV_m1, sV_lt0, sV_ge0, if_true, if_false, Nat.le_refl, Nat.lt_irrefl, Nat.not_lt_zero, Nat.zero_le, not_true_eq_false, not_false_eq_true, false_and, true_and, and_true, and_false, true_or, or_true, false_or, or_false, reduceCtorEq, show ¬ n ≤ a by omega, show ¬ 60 ≤ a by omega, h1]
    by_cases q1 : tg a < 48
    · rw [if_pos q1, if_neg (by omega)]; rfl
    · rw [if_neg q1]
      by_cases q2 : tg a ≤ 57
      · rw [if_pos q2, if_pos (by omega), pk_sub (by omega)]; rfl
      · rw [if_neg q2, if_neg (by omega)]; rfl
  · simp (disch := omega) only [↓reduceIte, nm_x, chk_nI, chz_0, chz_1, chz_b2, chn_nI, oi_1, oi_2, oi_m1, il_0, il_1, il_2, il_3, il_4, il_5, il_6, il_7, il_8, il_9, il_10, il_11, il_12, il_13, il_14, il_15, il_16, il_32, il_35, il_40, il_41, il_42, il_43, il_44, il_45, il_46, il_48, il_57, il_58, il_59, il_60, il_99, il_104, il_115, il_116, il_119, il_126, il_133, il_255, il_256, il_512, il_931, il_1000, il_65536, bn0, bn1, bn2, bn3, bn4, bn5, bn6, bn7, bn8, bn9, bn10, bn11, bn12, bn13, bn14, bn15, nI_leI, nI_ltI, nI_eq, nI_clamp, nI_add, pk_mul, nI_lt0, ng_lt0, ng_ge0, ng_eqn, ng_neq, ng_len, ng_eq, sV_m1, sV_lt0, sV_ge0, if_true, if_false, Nat.le_refl, Nat.lt_irrefl, Nat.not_lt_zero, Nat.zero_le, not_true_eq_false, not_false_eq_true, false_and, true_and, and_true, and_false, true_or, or_true, false_or, or_false, reduceCtorEq, show n ≤ a by omega]
    rw [if_neg (by omega)]; rfl
theorem X8_digits (hT : TG n tg sg) {a : Nat} (ha : a ≤ n) (num : Int32) : ∃ num', J_X8_areDigitsRead (nI n) (nI a) num sg = some (b2 (rnm n tg a).2.isSome, nI (rnm n tg a).1, num') ∧ ∀ v, (rnm n tg a).2 = some v → num' = nI v := by
  unfold J_X8_areDigitsRead J_X8_areDigitsRead_b34 rnm
  rw [X8_digit hT ha]
  have hle := rdg_le (tg := tg) ha
  rcases h1 : rdg n tg a with ⟨b, _ | x⟩
  · simp (disch := omega) only [↓reduceIte, nm_x, chk_nI, chz_0, chz_1, chz_b2, chn_nI, oi_1, oi_2, oi_m1, il_0, il_1, il_2, il_3, il_4, il_5, il_6, il_7, il_8, il_9, il_10, il_11, il_12, il_13, il_14, il_15, il_16, il_32, il_35, il_40, il_41, il_42, il_43, il_44, il_45, il_46, il_48, il_57, il_58, il_59, il_60, il_99, il_104, il_115, il_116, il_119, il_126, il_133, il_255, il_256, il_512, il_931, il_1000, il_65536, bn0, bn1, bn2, bn3, bn4, bn5, bn6, bn7, bn8, bn9, bn10, bn11, bn12, bn13, bn14, bn15, nI_leI, nI_ltI, nI_eq, nI_clamp, nI_add, pk_mul, nI_lt0, ng_lt0, ng_ge0, ng_eqn, ng_neq, ng_len, ng_eq, sV_m1, sV_lt0, sV_ge0, if_true, if_false, Nat.le_refl, Nat.lt_irrefl, Nat.not_lt_zero, Nat.zero_le, not_true_eq_false, not_false_eq_true, false_and, true_and, and_true, and_false, true_or, or_true, false_or, or_false, reduceCtorEq, Option.isSome, b2_f, pb]
    exact ⟨_, rfl, fun v h => by cases h⟩
  · rw [h1] at hle
    obtain ⟨q1, q2, q3, -⟩ := rdg_v h1
    simp (disch := omega) only [↓reduceIte, nm_x, chk_nI, chz_0, chz_1, chz_b2, chn_nI, oi_1, oi_2, oi_m1, il_0, il_1, il_2, il_3, il_4, il_5, il_6, il_7, il_8, il_9, il_10, il_11, il_12, il_13, il_14, il_15, il_16, il_32, il_35, il_40, il_41, il_42, il_43, il_44, il_45, il_46, il_48, il_57, il_58, il_59, il_60, il_99, il_104, il_115, il_116, il_119, il_126, il_133, il_255, il_256, il_512, il_931, il_1000, il_65536, bn0, bn1, bn2, bn3, bn4, bn5, bn6, bn7, bn8, bn9, bn10, bn11, bn12, bn13, bn14, bn15, nI_leI, nI_ltI, nI_eq, nI_clamp, nI_add, pk_mul, nI_lt0, ng_lt0, ng_ge0, ng_eqn, ng_neq, ng_len, ng_eq, sV_m1, sV_lt0, sV_ge0, if_true, if_false, Nat.le_refl, Nat.lt_irrefl, Nat.not_lt_zero, Nat.zero_le, not_true_eq_false, not_false_eq_true, false_and, true_and, and_true, and_false, true_or, or_true, false_or, or_false, reduceCtorEq, Option.isSome, b2_t, pb]
    rw [X8_digit hT hle.2]
    rcases h2 : rdg n tg b with ⟨b2', _ | y⟩
    · have hb : b2' = b := by
        unfold rdg at h2
        split at h2
        · cases h2
        · cases h2; rfl
      simp (disch := omega) only [↓reduceIte, nm_x, chk_nI, chz_0, chz_1, chz_b2, chn_nI, oi_1, oi_2, oi_m1, il_0, il_1, il_2, il_3, il_4, il_5, il_6, il_7, il_8, il_9, il_10, il_11, il_12, il_13, il_14, il_15, il_16, il_32, il_35, il_40, il_41, il_42, il_43, il_44, il_45, il_46, il_48, il_57, il_58, il_59, il_60, il_99, il_104, il_115, il_116, il_119, il_126, il_133, il_255, il_256, il_512, il_931, il_1000, il_65536, bn0, bn1, bn2, bn3, bn4, bn5, bn6, bn7, bn8, bn9, bn10, bn11, bn12, bn13, bn14, bn15, nI_leI, nI_ltI, nI_eq, nI_clamp, nI_add, pk_mul, nI_lt0, ng_lt0, ng_ge0, ng_eqn, ng_neq, ng_len, ng_eq, sV_m1, sV_lt0, sV_ge0, if_true, if_false, Nat.le_refl, Nat.lt_irrefl, Nat.not_lt_zero, Nat.zero_le, not_true_eq_false, not_false_eq_true, false_and, true_and, and_true, and_false, true_or, or_true, false_or, or_false, reduceCtorEq, Option.isSome, b2_f, b2_t]
      rw [hb]
      exact ⟨_, rfl, fun v h => by cases h; rfl⟩
    · simp (disch := omega) only [↓reduceIte, nm_x, chk_nI, chz_0, chz_1, chz_b2, chn_nI, oi_1, oi_2, oi_m1, il_0, il_1, il_2, il_3, il_4, il_5, il_6, il_7, il_8, il_9, il_10, il_11, il_12, il_13, il_14, il_15, il_16, il_32, il_35, il_40, il_41, il_42, il_43, il_44, il_45, il_46, il_48, il_57, il_58, il_59, il_60, il_99, il_104, il_115, il_116, il_119, il_126, il_133, il_255, il_256, il_512, il_931, il_1000, il_65536, bn0, bn1, bn2, bn3, bn4, bn5, bn6, bn7, bn8, bn9, bn10, bn11, bn12, bn13, bn14, bn15, nI_leI, nI_ltI, nI_eq, nI_clamp, nI_add, pk_mul, nI_lt0, ng_lt0, ng_ge0, ng_eqn, ng_neq, ng_len, ng_eq, sV_m1, sV_lt0, sV_ge0, if_true, if_false, Nat.le_refl, Nat.lt_irrefl, Nat.not_lt_zero, Nat.zero_le, not_true_eq_false, not_false_eq_true, false_and, true_and, and_true, and_false, true_or, or_true, false_or, or_false, reduceCtorEq, Option.isSome, b2_t]
      exact ⟨_, rfl, fun v h => by cases h; rw [Nat.add_comm]⟩
/-- the reference's number at the place p of what it is told -/
theorem X10_number_L (hT : TG n tg tx) {p : Nat} (hp : p < 3) (most : Nat) (told0 : Nat → Int32) {a1 v1 : Nat} (ha1 : a1 ≤ n) (h1 : most = 1 ∨ (rdg n tg a1).2 = none) (told : Nat → Int32) (hm : most ≤ 2) (hk : told p = nI v1) (ho : ∀ j, j ≠ p → told j = told0 j) (hmost : 1 ≤ most) (nf : Nat) : ∃ told', J_X10_number_L9 (nI n) tx (nI p) (nI most) (nf + 1) (nI a1) told (nI 1) = some (nI 1, nI a1, told') ∧ told' p = nI v1 ∧ ∀ j, j ≠ p → told' j = told0 j := by
  have h60 := hT.1
  refine ⟨told, ?_, hk, ho⟩
  rw [J_X10_number_L9]
  unfold J_X10_number_b85 J_X10_number_b94
  simp (disch := omega) only [↓reduceIte, nm_x, chk_nI, chz_0, chz_1, chz_b2, chn_nI, oi_1, oi_2, oi_m1, il_0, il_1, il_2, il_3, il_4, il_5, il_6, il_7, il_8, il_9, il_10, il_11, il_12, il_13, il_14, il_15, il_16, il_32, il_35, il_40, il_41, il_42, il_43, il_44, il_45, il_46, il_48, il_57, il_58, il_59, il_60, il_99, il_104, il_115, il_116, il_119, il_126, il_133, il_255, il_256, il_512, il_931, il_1000, il_65536, bn0, bn1, bn2, bn3, bn4, bn5, bn6, bn7, bn8, bn9, bn10, bn11, bn12, bn13, bn14, bn15, nI_leI, nI_ltI, nI_eq, nI_clamp, nI_add, pk_mul, nI_lt0, ng_lt0, ng_ge0, ng_eqn, ng_neq, ng_len, ng_eq, sV_m1, sV_lt0, sV_ge0, if_true, if_false, Nat.le_refl, Nat.lt_irrefl, Nat.not_lt_zero, Nat.zero_le, not_true_eq_false, not_false_eq_true, false_and, true_and, and_true, and_false, true_or, or_true, false_or, or_false, reduceCtorEq]
  rcases h1 with h1 | h1
  · rw [if_pos (show most ≤ 1 by omega)]
    simp (disch := omega) only [↓reduceIte, nm_x, chk_nI, chz_0, chz_1, chz_b2, chn_nI, oi_1, oi_2, oi_m1, il_0, il_1, il_2, il_3, il_4, il_5, il_6, il_7, il_8, il_9, il_10, il_11, il_12, il_13, il_14, il_15, il_16, il_32, il_35, il_40, il_41, il_42, il_43, il_44, il_45, il_46, il_48, il_57, il_58, il_59, il_60, il_99, il_104, il_115, il_116, il_119, il_126, il_133, il_255, il_256, il_512, il_931, il_1000, il_65536, bn0, bn1, bn2, bn3, bn4, bn5, bn6, bn7, bn8, bn9, bn10, bn11, bn12, bn13, bn14, bn15, nI_leI, nI_ltI, nI_eq, nI_clamp, nI_add, pk_mul, nI_lt0, ng_lt0, ng_ge0, ng_eqn, ng_neq, ng_len, ng_eq, sV_m1, sV_lt0, sV_ge0, if_true, if_false, Nat.le_refl, Nat.lt_irrefl, Nat.not_lt_zero, Nat.zero_le, not_true_eq_false, not_false_eq_true, false_and, true_and, and_true, and_false, true_or, or_true, false_or, or_false, reduceCtorEq, show ¬ 1 ≤ 0 by omega]
  · by_cases q : most ≤ 1
    · rw [if_pos q]
      simp (disch := omega) only [↓reduceIte, nm_x, chk_nI, chz_0, chz_1, chz_b2, chn_nI, oi_1, oi_2, oi_m1, il_0, il_1, il_2, il_3, il_4, il_5, il_6, il_7, il_8, il_9, il_10, il_11, il_12, il_13, il_14, il_15, il_16, il_32, il_35, il_40, il_41, il_42, il_43, il_44, il_45, il_46, il_48, il_57, il_58, il_59, il_60, il_99, il_104, il_115, il_116, il_119, il_126, il_133, il_255, il_256, il_512, il_931, il_1000, il_65536, bn0, bn1, bn2, bn3, bn4, bn5, bn6, bn7, bn8, bn9, bn10, bn11, bn12, bn13, bn14, bn15, nI_leI, nI_ltI, nI_eq, nI_clamp, nI_add, pk_mul, nI_lt0, ng_lt0, ng_ge0, ng_eqn, ng_neq, ng_len, ng_eq, sV_m1, sV_lt0, sV_ge0, if_true, if_false, Nat.le_refl, Nat.lt_irrefl, Nat.not_lt_zero, Nat.zero_le, not_true_eq_false, not_false_eq_true, false_and, true_and, and_true, and_false, true_or, or_true, false_or, or_false, reduceCtorEq, show ¬ 1 ≤ 0 by omega]
    · rw [if_neg q]
      by_cases q2 : n ≤ a1
      · rw [if_pos q2]
        simp (disch := omega) only [↓reduceIte, nm_x, chk_nI, chz_0, chz_1, chz_b2, chn_nI, oi_1, oi_2, oi_m1, il_0, il_1, il_2, il_3, il_4, il_5, il_6, il_7, il_8, il_9, il_10, il_11, il_12, il_13, il_14, il_15, il_16, il_32, il_35, il_40, il_41, il_42, il_43, il_44, il_45, il_46, il_48, il_57, il_58, il_59, il_60, il_99, il_104, il_115, il_116, il_119, il_126, il_133, il_255, il_256, il_512, il_931, il_1000, il_65536, bn0, bn1, bn2, bn3, bn4, bn5, bn6, bn7, bn8, bn9, bn10, bn11, bn12, bn13, bn14, bn15, nI_leI, nI_ltI, nI_eq, nI_clamp, nI_add, pk_mul, nI_lt0, ng_lt0, ng_ge0, ng_eqn, ng_neq, ng_len, ng_eq, sV_m1, sV_lt0, sV_ge0, if_true, if_false, Nat.le_refl, Nat.lt_irrefl, Nat.not_lt_zero, Nat.zero_le, not_true_eq_false, not_false_eq_true, false_and, true_and, and_true, and_false, true_or, or_true, false_or, or_false, reduceCtorEq, show ¬ 1 ≤ 0 by omega]
      · obtain ⟨t1, t2⟩ := hT.2 a1 (by omega)
        have hno : ¬ (48 ≤ tg a1 ∧ tg a1 ≤ 57) := fun h => by
          unfold rdg at h1
          rw [if_pos ⟨by omega, h⟩] at h1
          cases h1
        have hin : J_X10_in (nI (tg a1)) (nI 48) (nI 57) = some (nI 0) := X10_in_f (by rw [nI_ltI (by omega) (by omega), nI_ltI (by omega) (by omega)]; omega)
        simp (disch := omega) only [↓reduceIte, nm_x, chk_nI, chz_0, chz_1, chz_b2, chn_nI, oi_1, oi_2, oi_m1, il_0, il_1, il_2, il_3, il_4, il_5, il_6, il_7, il_8, il_9, il_10, il_11, il_12, il_13, il_14, il_15, il_16, il_32, il_35, il_40, il_41, il_42, il_43, il_44, il_45, il_46, il_48, il_57, il_58, il_59, il_60, il_99, il_104, il_115, il_116, il_119, il_126, il_133, il_255, il_256, il_512, il_931, il_1000, il_65536, bn0, bn1, bn2, bn3, bn4, bn5, bn6, bn7, bn8, bn9, bn10, bn11, bn12, bn13, bn14, bn15, nI_leI, nI_ltI, nI_eq, nI_clamp, nI_add, pk_mul, nI_lt0, ng_lt0, ng_ge0, ng_eqn, ng_neq, ng_len, ng_eq, sV_m1, sV_lt0, sV_ge0, if_true, if_false, Nat.le_refl, Nat.lt_irrefl, Nat.not_lt_zero, Nat.zero_le, not_true_eq_false, not_false_eq_true, false_and, true_and, and_true, and_false, true_or, or_true, false_or, or_false, reduceCtorEq, q2, t1, hin, show ¬ 1 ≤ 0 by omega]
theorem X10_number1 (hT : TG n tg tx) {p a : Nat} (hp : p < 3) (ha : a ≤ n) (told : Nat → Int32) : ∃ told', J_X10_number (nI n) (nI a) tx told (nI p) (nI 1) = some (b2 (rdg n tg a).2.isSome, nI (rdg n tg a).1, told') ∧ (∀ v, (rdg n tg a).2 = some v → told' p = nI v) ∧ ∀ j, j ≠ p → told' j = told j := by
  have h60 := hT.1
  unfold J_X10_number
  simp (disch := omega) only [↓reduceIte, nm_x, chk_nI, chz_0, chz_1, chz_b2, chn_nI, oi_1, oi_2, oi_m1, il_0, il_1, il_2, il_3, il_4, il_5, il_6, il_7, il_8, il_9, il_10, il_11, il_12, il_13, il_14, il_15, il_16, il_32, il_35, il_40, il_41, il_42, il_43, il_44, il_45, il_46, il_48, il_57, il_58, il_59, il_60, il_99, il_104, il_115, il_116, il_119, il_126, il_133, il_255, il_256, il_512, il_931, il_1000, il_65536, bn0, bn1, bn2, bn3, bn4, bn5, bn6, bn7, bn8, bn9, bn10, bn11, bn12, bn13, bn14, bn15, nI_leI, nI_ltI, nI_eq, nI_clamp, nI_add, pk_mul, nI_lt0, ng_lt0, ng_ge0, ng_eqn, ng_neq, ng_len, ng_eq, sV_m1, sV_lt0, sV_ge0, if_true, if_false, Nat.le_refl, Nat.lt_irrefl, Nat.not_lt_zero, Nat.zero_le, not_true_eq_false, not_false_eq_true, false_and, true_and, and_true, and_false, true_or, or_true, false_or, or_false, reduceCtorEq]
  have hu : ∀ j, j ≠ p → upd told p (nI 0) j = told j := fun j hj => by unfold upd; rw [if_neg hj]
  rw [show FU = 998 + 1 + 1 from rfl, J_X10_number_L9]
  unfold J_X10_number_b85 J_X10_number_b94
  simp (disch := omega) only [↓reduceIte, nm_x, chk_nI, chz_0, chz_1, chz_b2, chn_nI, oi_1, oi_2, oi_m1, il_0, il_1, il_2, il_3, il_4, il_5, il_6, il_7, il_8, il_9, il_10, il_11, il_12, il_13, il_14, il_15, il_16, il_32, il_35, il_40, il_41, il_42, il_43, il_44, il_45, il_46, il_48, il_57, il_58, il_59, il_60, il_99, il_104, il_115, il_116, il_119, il_126, il_133, il_255, il_256, il_512, il_931, il_1000, il_65536, bn0, bn1, bn2, bn3, bn4, bn5, bn6, bn7, bn8, bn9, bn10, bn11, bn12, bn13, bn14, bn15, nI_leI, nI_ltI, nI_eq, nI_clamp, nI_add, pk_mul, nI_lt0, ng_lt0, ng_ge0, ng_eqn, ng_neq, ng_len, ng_eq, sV_m1, sV_lt0, sV_ge0, if_true, if_false, Nat.le_refl, Nat.lt_irrefl, Nat.not_lt_zero, Nat.zero_le, not_true_eq_false, not_false_eq_true, false_and, true_and, and_true, and_false, true_or, or_true, false_or, or_false, reduceCtorEq, show ¬ 1 ≤ 0 by omega]
  by_cases h : n ≤ a
  · rw [if_pos h]
    have e : rdg n tg a = (a, none) := by unfold rdg; rw [if_neg (by omega)]
    rw [e]
    exact ⟨_, rfl, fun v h => (by cases h), hu⟩
  · obtain ⟨t1, t2⟩ := hT.2 a (by omega)
    rw [if_neg h]
    by_cases hd : 48 ≤ tg a ∧ tg a ≤ 57
    · have e : rdg n tg a = (a + 1, some (tg a - 48)) := by unfold rdg; rw [if_pos ⟨by omega, hd⟩]
      have hin : J_X10_in (nI (tg a)) (nI 48) (nI 57) = some (nI 1) := X10_in_t (nI_nlt hd.1 (by omega)) (nI_nlt hd.2 (by omega))
      have hup : upd told p (nI 0) p = nI 0 := by unfold upd; rw [if_pos rfl]
      simp (disch := omega) only [↓reduceIte, nm_x, chk_nI, chz_0, chz_1, chz_b2, chn_nI, oi_1, oi_2, oi_m1, il_0, il_1, il_2, il_3, il_4, il_5, il_6, il_7, il_8, il_9, il_10, il_11, il_12, il_13, il_14, il_15, il_16, il_32, il_35, il_40, il_41, il_42, il_43, il_44, il_45, il_46, il_48, il_57, il_58, il_59, il_60, il_99, il_104, il_115, il_116, il_119, il_126, il_133, il_255, il_256, il_512, il_931, il_1000, il_65536, bn0, bn1, bn2, bn3, bn4, bn5, bn6, bn7, bn8, bn9, bn10, bn11, bn12, bn13, bn14, bn15, nI_leI, nI_ltI, nI_eq, nI_clamp, nI_add, pk_mul, nI_lt0, ng_lt0, ng_ge0, ng_eqn, ng_neq, ng_len, ng_eq, sV_m1, sV_lt0, sV_ge0, if_true, if_false, Nat.le_refl, Nat.lt_irrefl, Nat.not_lt_zero, Nat.zero_le, not_true_eq_false, not_false_eq_true, false_and, true_and, and_true, and_false, true_or, or_true, false_or, or_false, reduceCtorEq, t1, hin, hup]
      rw [show (10 * 0 + tg a : Nat) = tg a by omega, pk_sub hd.1, e]
      obtain ⟨told', e1, e2, e3⟩ := X10_number_L hT hp 1 told (a1 := a + 1) (v1 := tg a - 48) (by omega) (Or.inl rfl) (upd (upd told p (nI 0)) p (nI (tg a - 48))) (by omega) (by unfold upd; rw [if_pos rfl]) (fun j hj => by unfold upd; rw [if_neg hj, if_neg hj]) (by omega) 998
      exact ⟨told', e1, fun v h => by cases h; exact e2, e3⟩
    · have e : rdg n tg a = (a, none) := by unfold rdg; rw [if_neg (fun x => hd x.2)]
      have hin : J_X10_in (nI (tg a)) (nI 48) (nI 57) = some (nI 0) := X10_in_f (by rw [nI_ltI (by omega) (by omega), nI_ltI (by omega) (by omega)]; omega)
      simp (disch := omega) only [↓reduceIte, nm_x, chk_nI, chz_0, chz_1, chz_b2, chn_nI, oi_1, oi_2, oi_m1, il_0, il_1, il_2, il_3, il_4, il_5, il_6, il_7, il_8, il_9, il_10, il_11, il_12, il_13, il_14, il_15, il_16, il_32, il_35, il_40, il_41, il_42, il_43, il_44, il_45, il_46, il_48, il_57, il_58, il_59, il_60, il_99, il_104, il_115, il_116, il_119, il_126, il_133, il_255, il_256, il_512, il_931, il_1000, il_65536, bn0, bn1, bn2, bn3, bn4, bn5, bn6, bn7, bn8, bn9, bn10, bn11, bn12, bn13, bn14, bn15, nI_leI, nI_ltI, nI_eq, nI_clamp, nI_add, pk_mul, nI_lt0, ng_lt0, ng_ge0, ng_eqn, ng_neq, ng_len, ng_eq, sV_m1, sV_lt0, sV_ge0, if_true, if_false, Nat.le_refl, Nat.lt_irrefl, Nat.not_lt_zero, Nat.zero_le, not_true_eq_false, not_false_eq_true, false_and, true_and, and_true, and_false, true_or, or_true, false_or, or_false, reduceCtorEq, t1, hin]
      rw [e]
      exact ⟨_, rfl, fun v h => (by cases h), hu⟩
theorem X10_number2 (hT : TG n tg tx) {p a : Nat} (hp : p < 3) (ha : a ≤ n) (told : Nat → Int32) : ∃ told', J_X10_number (nI n) (nI a) tx told (nI p) (nI 2) = some (b2 (rnm n tg a).2.isSome, nI (rnm n tg a).1, told') ∧ (∀ v, (rnm n tg a).2 = some v → told' p = nI v) ∧ ∀ j, j ≠ p → told' j = told j := by
  have h60 := hT.1
  unfold J_X10_number
  simp (disch := omega) only [↓reduceIte, nm_x, chk_nI, chz_0, chz_1, chz_b2, chn_nI, oi_1, oi_2, oi_m1, il_0, il_1, il_2, il_3, il_4, il_5, il_6, il_7, il_8, il_9, il_10, il_11, il_12, il_13, il_14, il_15, il_16, il_32, il_35, il_40, il_41, il_42, il_43, il_44, il_45, il_46, il_48, il_57, il_58, il_59, il_60, il_99, il_104, il_115, il_116, il_119, il_126, il_133, il_255, il_256, il_512, il_931, il_1000, il_65536, bn0, bn1, bn2, bn3, bn4, bn5, bn6, bn7, bn8, bn9, bn10, bn11, bn12, bn13, bn14, bn15, nI_leI, nI_ltI, nI_eq, nI_clamp, nI_add, pk_mul, nI_lt0, ng_lt0, ng_ge0, ng_eqn, ng_neq, ng_len, ng_eq, sV_m1, sV_lt0, sV_ge0, if_true, if_false, Nat.le_refl, Nat.lt_irrefl, Nat.not_lt_zero, Nat.zero_le, not_true_eq_false, not_false_eq_true, false_and, true_and, and_true, and_false, true_or, or_true, false_or, or_false, reduceCtorEq]
  have hu : ∀ j, j ≠ p → upd told p (nI 0) j = told j := fun j hj => by unfold upd; rw [if_neg hj]
  rw [show FU = 997 + 1 + 1 + 1 from rfl, J_X10_number_L9]
  unfold J_X10_number_b85 J_X10_number_b94
  simp (disch := omega) only [↓reduceIte, nm_x, chk_nI, chz_0, chz_1, chz_b2, chn_nI, oi_1, oi_2, oi_m1, il_0, il_1, il_2, il_3, il_4, il_5, il_6, il_7, il_8, il_9, il_10, il_11, il_12, il_13, il_14, il_15, il_16, il_32, il_35, il_40, il_41, il_42, il_43, il_44, il_45, il_46, il_48, il_57, il_58, il_59, il_60, il_99, il_104, il_115, il_116, il_119, il_126, il_133, il_255, il_256, il_512, il_931, il_1000, il_65536, bn0, bn1, bn2, bn3, bn4, bn5, bn6, bn7, bn8, bn9, bn10, bn11, bn12, bn13, bn14, bn15, nI_leI, nI_ltI, nI_eq, nI_clamp, nI_add, pk_mul, nI_lt0, ng_lt0, ng_ge0, ng_eqn, ng_neq, ng_len, ng_eq, sV_m1, sV_lt0, sV_ge0, if_true, if_false, Nat.le_refl, Nat.lt_irrefl, Nat.not_lt_zero, Nat.zero_le, not_true_eq_false, not_false_eq_true, false_and, true_and, and_true, and_false, true_or, or_true, false_or, or_false, reduceCtorEq, show ¬ 2 ≤ 0 by omega]
  by_cases h : n ≤ a
  · rw [if_pos h]
    have e : rnm n tg a = (a, none) := by unfold rnm rdg; rw [if_neg (by omega)]; rfl
    rw [e]
    exact ⟨_, rfl, fun v h => (by cases h), hu⟩
  · obtain ⟨t1, t2⟩ := hT.2 a (by omega)
    rw [if_neg h]
    by_cases hd : 48 ≤ tg a ∧ tg a ≤ 57
    · have e : rdg n tg a = (a + 1, some (tg a - 48)) := by unfold rdg; rw [if_pos ⟨by omega, hd⟩]
      have hin : J_X10_in (nI (tg a)) (nI 48) (nI 57) = some (nI 1) := X10_in_t (nI_nlt hd.1 (by omega)) (nI_nlt hd.2 (by omega))
      have hup : upd told p (nI 0) p = nI 0 := by unfold upd; rw [if_pos rfl]
      simp (disch := omega) only [↓reduceIte, nm_x, chk_nI, chz_0, chz_1, chz_b2, chn_nI, oi_1, oi_2, oi_m1, il_0, il_1, il_2, il_3, il_4, il_5, il_6, il_7, il_8, il_9, il_10, il_11, il_12, il_13, il_14, il_15, il_16, il_32, il_35, il_40, il_41, il_42, il_43, il_44, il_45, il_46, il_48, il_57, il_58, il_59, il_60, il_99, il_104, il_115, il_116, il_119, il_126, il_133, il_255, il_256, il_512, il_931, il_1000, il_65536, bn0, bn1, bn2, bn3, bn4, bn5, bn6, bn7, bn8, bn9, bn10, bn11, bn12, bn13, bn14, bn15, nI_leI, nI_ltI, nI_eq, nI_clamp, nI_add, pk_mul, nI_lt0, ng_lt0, ng_ge0, ng_eqn, ng_neq, ng_len, ng_eq, sV_m1, sV_lt0, sV_ge0, if_true, if_false, Nat.le_refl, Nat.lt_irrefl, Nat.not_lt_zero, Nat.zero_le, not_true_eq_false, not_false_eq_true, false_and, true_and, and_true, and_false, true_or, or_true, false_or, or_false, reduceCtorEq, t1, hin, hup]
      rw [show (10 * 0 + tg a : Nat) = tg a by omega, pk_sub hd.1]
      rcases h2 : rdg n tg (a + 1) with ⟨b2', _ | y⟩
      · have er : rnm n tg a = (a + 1, some (tg a - 48)) := by unfold rnm; rw [e]; simp only [pb, h2]
        rw [er]
        obtain ⟨told', e1, e2, e3⟩ := X10_number_L hT hp 2 told (a1 := a + 1) (v1 := tg a - 48) (by omega) (Or.inr (by rw [h2])) (upd (upd told p (nI 0)) p (nI (tg a - 48))) (by omega) (by unfold upd; rw [if_pos rfl]) (fun j hj => by unfold upd; rw [if_neg hj, if_neg hj]) (by omega) 998
        exact ⟨told', e1, fun v h => by cases h; exact e2, e3⟩
      · obtain ⟨r1, r2, r3, r4, r5⟩ := rdg_v h2
        have er : rnm n tg a = (b2', some (10 * (tg a - 48) + y)) := by unfold rnm; rw [e]; simp only [pb, h2]
        rw [er, r1]
        obtain ⟨s1, s2⟩ := hT.2 (a + 1) r2
        have hin2 : J_X10_in (nI (tg (a + 1))) (nI 48) (nI 57) = some (nI 1) := X10_in_t (nI_nlt r5 (by omega)) (nI_nlt (by
          unfold rdg at h2
          split at h2
          · next hq => exact hq.2.2
          · cases h2) (by omega))
        have hup2 : upd (upd told p (nI 0)) p (nI (tg a - 48)) p = nI (tg a - 48) := by unfold upd; rw [if_pos rfl]
        rw [J_X10_number_L9]
        unfold J_X10_number_b85 J_X10_number_b94
        simp (disch := omega) only [↓reduceIte, nm_x, chk_nI, chz_0, chz_1, chz_b2, chn_nI, oi_1, oi_2, oi_m1, il_0, il_1, il_2, il_3, il_4, il_5, il_6, il_7, il_8, il_9, il_10, il_11, il_12, il_13, il_14, il_15, il_16, il_32, il_35, il_40, il_41, il_42, il_43, il_44, il_45, il_46, il_48, il_57, il_58, il_59, il_60, il_99, il_104, il_115, il_116, il_119, il_126, il_133, il_255, il_256, il_512, il_931, il_1000, il_65536, bn0, bn1, bn2, bn3, bn4, bn5, bn6, bn7, bn8, bn9, bn10, bn11, bn12, bn13, bn14, bn15, nI_leI, nI_ltI, nI_eq, nI_clamp, nI_add, pk_mul, nI_lt0, ng_lt0, ng_ge0, ng_eqn, ng_neq, ng_len, ng_eq, sV_m1, sV_lt0, sV_ge0, if_true, if_false, Nat.le_refl, Nat.lt_irrefl, Nat.not_lt_zero, Nat.zero_le, not_true_eq_false, not_false_eq_true, false_and, true_and, and_true, and_false, true_or, or_true, false_or, or_false, reduceCtorEq, show ¬ 2 ≤ 1 by omega, show ¬ n ≤ a + 1 by omega, s1, hin2, hup2]
        rw [pk_sub (by omega)]
        rw [J_X10_number_L9]
        unfold J_X10_number_b85 J_X10_number_b94
        simp (disch := omega) only [↓reduceIte, nm_x, chk_nI, chz_0, chz_1, chz_b2, chn_nI, oi_1, oi_2, oi_m1, il_0, il_1, il_2, il_3, il_4, il_5, il_6, il_7, il_8, il_9, il_10, il_11, il_12, il_13, il_14, il_15, il_16, il_32, il_35, il_40, il_41, il_42, il_43, il_44, il_45, il_46, il_48, il_57, il_58, il_59, il_60, il_99, il_104, il_115, il_116, il_119, il_126, il_133, il_255, il_256, il_512, il_931, il_1000, il_65536, bn0, bn1, bn2, bn3, bn4, bn5, bn6, bn7, bn8, bn9, bn10, bn11, bn12, bn13, bn14, bn15, nI_leI, nI_ltI, nI_eq, nI_clamp, nI_add, pk_mul, nI_lt0, ng_lt0, ng_ge0, ng_eqn, ng_neq, ng_len, ng_eq, sV_m1, sV_lt0, sV_ge0, if_true, if_false, Nat.le_refl, Nat.lt_irrefl, Nat.not_lt_zero, Nat.zero_le, not_true_eq_false, not_false_eq_true, false_and, true_and, and_true, and_false, true_or, or_true, false_or, or_false, reduceCtorEq, show ¬ 2 ≤ 0 by omega]
        refine ⟨_, rfl, fun v h => ?_, fun j hj => ?_⟩
        · cases h
          unfold upd
          rw [if_pos rfl]
          congr 1
          omega
        · unfold upd
          rw [if_neg hj, if_neg hj, if_neg hj]
    · have e : rnm n tg a = (a, none) := by unfold rnm rdg; rw [if_neg (fun x => hd x.2)]; rfl
      have hin : J_X10_in (nI (tg a)) (nI 48) (nI 57) = some (nI 0) := X10_in_f (by rw [nI_ltI (by omega) (by omega), nI_ltI (by omega) (by omega)]; omega)
      simp (disch := omega) only [↓reduceIte, nm_x, chk_nI, chz_0, chz_1, chz_b2, chn_nI, oi_1, oi_2, oi_m1, il_0, il_1, il_2, il_3, il_4, il_5, il_6, il_7, il_8, il_9, il_10, il_11, il_12, il_13, il_14, il_15, il_16, il_32, il_35, il_40, il_41, il_42, il_43, il_44, il_45, il_46, il_48, il_57, il_58, il_59, il_60, il_99, il_104, il_115, il_116, il_119, il_126, il_133, il_255, il_256, il_512, il_931, il_1000, il_65536, bn0, bn1, bn2, bn3, bn4, bn5, bn6, bn7, bn8, bn9, bn10, bn11, bn12, bn13, bn14, bn15, nI_leI, nI_ltI, nI_eq, nI_clamp, nI_add, pk_mul, nI_lt0, ng_lt0, ng_ge0, ng_eqn, ng_neq, ng_len, ng_eq, sV_m1, sV_lt0, sV_ge0, if_true, if_false, Nat.le_refl, Nat.lt_irrefl, Nat.not_lt_zero, Nat.zero_le, not_true_eq_false, not_false_eq_true, false_and, true_and, and_true, and_false, true_or, or_true, false_or, or_false, reduceCtorEq, t1, hin]
      rw [e]
      exact ⟨_, rfl, fun v h => (by cases h), hu⟩
theorem X10_sign (hT : TG n tg tx) {a : Nat} (ha : a ≤ n) (told : Nat → Int32) : ∃ told', J_X10_sign (nI n) (nI a) tx told = some (b2 (rsg n tg a).2.isSome, nI (rsg n tg a).1, told') ∧ (∀ v, (rsg n tg a).2 = some v → told' 1 = nI v) ∧ ∀ j, j ≠ 1 → told' j = told j := by
  have h60 := hT.1
  unfold J_X10_sign J_X10_sign_b39 J_X10_sign_b41 J_X10_sign_b72
  by_cases h : a = n
  · have e : rsg n tg a = (a, none) := by unfold rsg; rw [if_neg (by omega), if_neg (by omega)]
    rw [e]
    simp (disch := omega) only [↓reduceIte, nm_x, chk_nI, chz_0, chz_1, chz_b2, chn_nI, oi_1, oi_2, oi_m1, il_0, il_1, il_2, il_3, il_4, il_5, il_6, il_7, il_8, il_9, il_10, il_11, il_12, il_13, il_14, il_15, il_16, il_32, il_35, il_40, il_41, il_42, il_43, il_44, il_45, il_46, il_48, il_57, il_58, il_59, il_60, il_99, il_104, il_115, il_116, il_119, il_126, il_133, il_255, il_256, il_512, il_931, il_1000, il_65536, bn0, bn1, bn2, bn3, bn4, bn5, bn6, bn7, bn8, bn9, bn10, bn11, bn12, bn13, bn14, bn15, nI_leI, nI_ltI, nI_eq, nI_clamp, nI_add, pk_mul, nI_lt0, ng_lt0, ng_ge0, ng_eqn, ng_neq, ng_len, ng_eq, sV_m1, sV_lt0, sV_ge0, if_true, if_false, Nat.le_refl, Nat.lt_irrefl, Nat.not_lt_zero, Nat.zero_le, not_true_eq_false, not_false_eq_true, false_and, true_and, and_true, and_false, true_or, or_true, false_or, or_false, reduceCtorEq, h]
    exact ⟨told, rfl, fun v h => (by cases h), fun _ _ => rfl⟩
  · obtain ⟨t1, t2⟩ := hT.2 a (by omega)
    by_cases q1 : tg a = 43
    · have e : rsg n tg a = (a + 1, some 1) := by unfold rsg; rw [if_pos ⟨by omega, q1⟩]
      rw [e]
      simp (disch := omega) only [↓reduceIte, nm_x, chk_nI, chz_0, chz_1, chz_b2, chn_nI, oi_1, oi_2, oi_m1, il_0, il_1, il_2, il_3, il_4, il_5, il_6, il_7, il_8, il_9, il_10, il_11, il_12, il_13, il_14, il_15, il_16, il_32, il_35, il_40, il_41, il_42, il_43, il_44, il_45, il_46, il_48, il_57, il_58, il_59, il_60, il_99, il_104, il_115, il_116, il_119, il_126, il_133, il_255, il_256, il_512, il_931, il_1000, il_65536, bn0, bn1, bn2, bn3, bn4, bn5, bn6, bn7, bn8, bn9, bn10, bn11, bn12, bn13, bn14, bn15, nI_leI, nI_ltI, nI_eq, nI_clamp, nI_add, pk_mul, nI_lt0, ng_lt0, ng_ge0, ng_eqn, ng_neq, ng_len, ng_eq, sV_m1, sV_lt0, sV_ge0, if_true, if_false, Nat.le_refl, Nat.lt_irrefl, Nat.not_lt_zero, Nat.zero_le, not_true_eq_false, not_false_eq_true, false_and, true_and, and_true, and_false, true_or, or_true, false_or, or_false, reduceCtorEq, h, t1, q1]
      refine ⟨_, rfl, fun v h => ?_, fun j hj => ?_⟩
      · cases h; unfold upd; rw [if_pos rfl]
      · unfold upd; rw [if_neg hj]
    · by_cases q2 : tg a = 45
      · have e : rsg n tg a = (a + 1, some 0) := by unfold rsg; rw [if_neg (fun x => q1 x.2), if_pos ⟨by omega, q2⟩]
        rw [e]
        simp (disch := omega) only [↓reduceIte, nm_x, chk_nI, chz_0, chz_1, chz_b2, chn_nI, oi_1, oi_2, oi_m1, il_0, il_1, il_2, il_3, il_4, il_5, il_6, il_7, il_8, il_9, il_10, il_11, il_12, il_13, il_14, il_15, il_16, il_32, il_35, il_40, il_41, il_42, il_43, il_44, il_45, il_46, il_48, il_57, il_58, il_59, il_60, il_99, il_104, il_115, il_116, il_119, il_126, il_133, il_255, il_256, il_512, il_931, il_1000, il_65536, bn0, bn1, bn2, bn3, bn4, bn5, bn6, bn7, bn8, bn9, bn10, bn11, bn12, bn13, bn14, bn15, nI_leI, nI_ltI, nI_eq, nI_clamp, nI_add, pk_mul, nI_lt0, ng_lt0, ng_ge0, ng_eqn, ng_neq, ng_len, ng_eq, sV_m1, sV_lt0, sV_ge0, if_true, if_false, Nat.le_refl, Nat.lt_irrefl, Nat.not_lt_zero, Nat.zero_le, not_true_eq_false, not_false_eq_true, false_and, true_and, and_true, and_false, true_or, or_true, false_or, or_false, reduceCtorEq, h, t1, q2]
        refine ⟨_, rfl, fun v h => ?_, fun j hj => ?_⟩
        · cases h; unfold upd; rw [if_pos rfl]
        · unfold upd; rw [if_neg hj]
      · have e : rsg n tg a = (a, none) := by unfold rsg; rw [if_neg (fun x => q1 x.2), if_neg (fun x => q2 x.2)]
        rw [e]
        simp (disch := omega) only [↓reduceIte, nm_x, chk_nI, chz_0, chz_1, chz_b2, chn_nI, oi_1, oi_2, oi_m1, il_0, il_1, il_2, il_3, il_4, il_5, il_6, il_7, il_8, il_9, il_10, il_11, il_12, il_13, il_14, il_15, il_16, il_32, il_35, il_40, il_41, il_42, il_43, il_44, il_45, il_46, il_48, il_57, il_58, il_59, il_60, il_99, il_104, il_115, il_116, il_119, il_126, il_133, il_255, il_256, il_512, il_931, il_1000, il_65536, bn0, bn1, bn2, bn3, bn4, bn5, bn6, bn7, bn8, bn9, bn10, bn11, bn12, bn13, bn14, bn15, nI_leI, nI_ltI, nI_eq, nI_clamp, nI_add, pk_mul, nI_lt0, ng_lt0, ng_ge0, ng_eqn, ng_neq, ng_len, ng_eq, sV_m1, sV_lt0, sV_ge0, if_true, if_false, Nat.le_refl, Nat.lt_irrefl, Nat.not_lt_zero, Nat.zero_le, not_true_eq_false, not_false_eq_true, false_and, true_and, and_true, and_false, true_or, or_true, false_or, or_false, reduceCtorEq, h, t1, q1, q2]
        exact ⟨told, rfl, fun v h => (by cases h), fun _ _ => rfl⟩
end Parse

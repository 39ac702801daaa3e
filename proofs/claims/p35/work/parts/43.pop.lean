/-! how many bits of 16, as the JDK counts: each of the 65536 by the kernel, over numbers; the lowest of them -/
def dbl (f : Nat → Bool) (b : Nat) : Bool := and (f (Nat.mul 2 b)) (f (Nat.add (Nat.mul 2 b) 1))
theorem dbl_spec {f : Nat → Bool} {b : Nat} (h : dbl f b = true) : ∀ m, m / 2 = b → f m = true := by
  intro m hm
  have h' : (f (2 * b) && f (2 * b + 1)) = true := h
  rw [Bool.and_eq_true] at h'
  rcases Nat.mod_two_eq_zero_or_one m with q | q
  · have := h'.1; rwa [show 2 * b = m by omega] at this
  · have := h'.2; rwa [show 2 * b + 1 = m by omega] at this
def al4 (f : Nat → Bool) : Nat → Bool := dbl (dbl (dbl (dbl f)))
theorem al4_spec {f : Nat → Bool} {b : Nat} (h : al4 f b = true) : ∀ m, m / 16 = b → f m = true := fun m hm => by
  have h1 := dbl_spec (dbl_spec (dbl_spec (dbl_spec h (m / 2 / 2 / 2) (by omega)) (m / 2 / 2) (by omega)) (m / 2) (by omega)) m (by omega)
  exact h1
def pc1 (m : Nat) : Nat := Nat.sub m (Nat.land (Nat.div m 2) 1431655765)
def pc2 (a : Nat) : Nat := Nat.add (Nat.land a 858993459) (Nat.land (Nat.div a 4) 858993459)
def pc3 (b : Nat) : Nat := Nat.land (Nat.add b (Nat.div b 16)) 252645135
def pc4 (c : Nat) : Nat := Nat.add c (Nat.div c 256)
def pc5 (d : Nat) : Nat := Nat.land (Nat.add d (Nat.div d 65536)) 63
def bs4 (m : Nat) : Nat := Nat.add (Nat.add (Nat.mod m 2) (Nat.mod (Nat.div m 2) 2)) (Nat.add (Nat.mod (Nat.div m 4) 2) (Nat.mod (Nat.div m 8) 2))
def bs16 (m : Nat) : Nat := Nat.add (Nat.add (bs4 m) (bs4 (Nat.div m 16))) (Nat.add (bs4 (Nat.div m 256)) (bs4 (Nat.div m 4096)))
def pcb (m : Nat) : Bool := Nat.beq (pc5 (pc4 (pc3 (pc2 (pc1 m))))) (bs16 m)
theorem pc_al0 : al4 (al4 (al4 pcb)) 0 = true := by decide +kernel
theorem pc_al1 : al4 (al4 (al4 pcb)) 1 = true := by decide +kernel
theorem pc_al2 : al4 (al4 (al4 pcb)) 2 = true := by decide +kernel
theorem pc_al3 : al4 (al4 (al4 pcb)) 3 = true := by decide +kernel
theorem pc_al4 : al4 (al4 (al4 pcb)) 4 = true := by decide +kernel
theorem pc_al5 : al4 (al4 (al4 pcb)) 5 = true := by decide +kernel
theorem pc_al6 : al4 (al4 (al4 pcb)) 6 = true := by decide +kernel
theorem pc_al7 : al4 (al4 (al4 pcb)) 7 = true := by decide +kernel
theorem pc_al8 : al4 (al4 (al4 pcb)) 8 = true := by decide +kernel
theorem pc_al9 : al4 (al4 (al4 pcb)) 9 = true := by decide +kernel
theorem pc_al10 : al4 (al4 (al4 pcb)) 10 = true := by decide +kernel
theorem pc_al11 : al4 (al4 (al4 pcb)) 11 = true := by decide +kernel
theorem pc_al12 : al4 (al4 (al4 pcb)) 12 = true := by decide +kernel
theorem pc_al13 : al4 (al4 (al4 pcb)) 13 = true := by decide +kernel
theorem pc_al14 : al4 (al4 (al4 pcb)) 14 = true := by decide +kernel
theorem pc_al15 : al4 (al4 (al4 pcb)) 15 = true := by decide +kernel
theorem pc_all {m : Nat} (hm : m < 65536) : pc5 (pc4 (pc3 (pc2 (pc1 m)))) = bs16 m := by
  have key : ∀ q, q < 16 → al4 (al4 (al4 pcb)) q = true := by
    intro q hq
    rcases (show q = 0 ∨ q = 1 ∨ q = 2 ∨ q = 3 ∨ q = 4 ∨ q = 5 ∨ q = 6 ∨ q = 7 ∨ q = 8 ∨ q = 9 ∨ q = 10 ∨ q = 11 ∨ q = 12 ∨ q = 13 ∨ q = 14 ∨ q = 15 by omega) with rfl | rfl | rfl | rfl | rfl | rfl | rfl | rfl | rfl | rfl | rfl | rfl | rfl | rfl | rfl | rfl
    · exact pc_al0
    · exact pc_al1
    · exact pc_al2
    · exact pc_al3
    · exact pc_al4
    · exact pc_al5
    · exact pc_al6
    · exact pc_al7
    · exact pc_al8
    · exact pc_al9
    · exact pc_al10
    · exact pc_al11
    · exact pc_al12
    · exact pc_al13
    · exact pc_al14
    · exact pc_al15
  exact Nat.eq_of_beq_eq_true (al4_spec (al4_spec (al4_spec (key (m / 16 / 16 / 16) (by omega)) (m / 16 / 16) rfl) (m / 16) rfl) m rfl)
theorem tb_n (m i : Nat) : (if m.testBit i = true then 1 else 0) = m / 2 ^ i % 2 := by
  rw [Nat.testBit_eq_decide_div_mod_eq]
  by_cases h : m / 2 ^ i % 2 = 1
  · rw [h]; rfl
  · rw [decide_eq_false h, if_neg (by decide)]; omega
theorem bs4_eq (m : Nat) : bs4 m = fb_ct (fun i => m.testBit i) 4 := by
  simp only [fb_ct_succ, fb_ct, tb_n, Nat.reducePow, Nat.div_one]
  show (m % 2 + m / 2 % 2) + (m / 4 % 2 + m / 8 % 2) = _
  omega
theorem bs4_at (m k : Nat) : bs4 (m / 2 ^ k) = fb_ct (fun i => m.testBit (k + i)) 4 := by
  rw [bs4_eq]
  exact fb_ct_cong fun i _ => by rw [Nat.testBit_div_two_pow]; congr 1; omega
theorem pc_bits (m : Nat) : bs16 m = fb_ct (fun i => m.testBit i) 16 := by
  have h1 : fb_ct (fun i => m.testBit i) 16 = fb_ct (fun i => m.testBit i) 8 + fb_ct (fun i => m.testBit (8 + i)) 8 := fb_ct_split _ 8 8
  have h2 : fb_ct (fun i => m.testBit i) 8 = fb_ct (fun i => m.testBit i) 4 + fb_ct (fun i => m.testBit (4 + i)) 4 := fb_ct_split _ 4 4
  have h3 : fb_ct (fun i => m.testBit (8 + i)) 8 = fb_ct (fun i => m.testBit (8 + i)) 4 + fb_ct (fun k => m.testBit (8 + (4 + k))) 4 := fb_ct_split _ 4 4
  have e : bs16 m = (bs4 m + bs4 (m / 2 ^ 4)) + (bs4 (m / 2 ^ 8) + bs4 (m / 2 ^ 12)) := rfl
  rw [e, bs4_eq, bs4_at, bs4_at, bs4_at]
  have h4 : fb_ct (fun k => m.testBit (8 + (4 + k))) 4 = fb_ct (fun i => m.testBit (12 + i)) 4 := fb_ct_cong fun i _ => by rw [← Nat.add_assoc]
  rw [h4] at h3
  omega
theorem ush1 {m : Nat} (h : m < 2 ^ 31) : ((nI m).toUInt32 >>> ((1 : Int32).toUInt32 &&& Int32.toUInt32 31)).toInt32 = nI (m / 2) := pk_ushrN (by omega) 1 1 (by decide +kernel)
theorem ush2 {m : Nat} (h : m < 2 ^ 31) : ((nI m).toUInt32 >>> ((2 : Int32).toUInt32 &&& Int32.toUInt32 31)).toInt32 = nI (m / 4) := pk_ushrN (by omega) 2 2 (by decide +kernel)
theorem ush4 {m : Nat} (h : m < 2 ^ 31) : ((nI m).toUInt32 >>> ((4 : Int32).toUInt32 &&& Int32.toUInt32 31)).toInt32 = nI (m / 16) := pk_ushrN (by omega) 4 4 (by decide +kernel)
theorem ush8 {m : Nat} (h : m < 2 ^ 31) : ((nI m).toUInt32 >>> ((8 : Int32).toUInt32 &&& Int32.toUInt32 31)).toInt32 = nI (m / 256) := pk_ushrN (by omega) 8 8 (by decide +kernel)
theorem ush16 {m : Nat} (h : m < 2 ^ 31) : ((nI m).toUInt32 >>> ((16 : Int32).toUInt32 &&& Int32.toUInt32 31)).toInt32 = nI (m / 65536) := pk_ushrN (by omega) 16 16 (by decide +kernel)
theorem pc_J {m : Nat} (hm : m < 65536) : J_J6_bitCount_0f7a4 (nI m) = some (nI (pc5 (pc4 (pc3 (pc2 (pc1 m)))))) := by
  unfold J_J6_bitCount_0f7a4
  have e1 : (1431655765 : Int32) = nI 1431655765 := rfl
  have e2 : (858993459 : Int32) = nI 858993459 := rfl
  have e3 : (252645135 : Int32) = nI 252645135 := rfl
  have e4 : (63 : Int32) = nI 63 := rfl
  have a1 : m / 2 &&& 1431655765 ≤ m / 2 := Nat.and_le_left
  have a2 : m - (m / 2 &&& 1431655765) < 65536 := by omega
  have b1 : ((m - (m / 2 &&& 1431655765)) &&& 858993459) ≤ m - (m / 2 &&& 1431655765) := Nat.and_le_left
  have b2' : ((m - (m / 2 &&& 1431655765)) / 4 &&& 858993459) ≤ (m - (m / 2 &&& 1431655765)) / 4 := Nat.and_le_left
  obtain ⟨B, hB⟩ : ∃ B, B = ((m - (m / 2 &&& 1431655765)) &&& 858993459) + ((m - (m / 2 &&& 1431655765)) / 4 &&& 858993459) := ⟨_, rfl⟩
  have hB2 : B < 131072 := by omega
  have c1 : (B + B / 16) &&& 252645135 ≤ B + B / 16 := Nat.and_le_left
  simp only [nm_x]
  rw [ush1 (by omega), e1, fa_and, pk_sub (by omega), ush2 (by omega), e2, fa_and, fa_and, nI_add, ← hB, ush4 (by omega), nI_add, e3, fa_and, ush8 (by omega), nI_add, ush16 (by omega), nI_add, e4, fa_and]
  rw [hB]
  rfl
theorem bt_big16 {x : Int32} (h : ∀ i, 16 ≤ i → bt x i = false) : ∃ m, m < 65536 ∧ x = nI m ∧ ∀ i, bt x i = m.testBit i := by
  refine ⟨x.toBitVec.toNat, ?_, ?_, fun i => rfl⟩
  · exact Nat.lt_pow_two_of_testBit (n := 16) _ fun i hi => h i hi
  · apply Int32.toBitVec_inj.mp
    show _ = BitVec.ofNat 32 _
    simp
theorem bitCount_eq {x : Int32} (h : ∀ i, 16 ≤ i → bt x i = false) : J_J6_bitCount_0f7a4 x = some (nI (fb_ct (bt x) 16)) := by
  obtain ⟨m, hm, e, hb⟩ := bt_big16 h
  rw [e, pc_J hm, pc_all hm, pc_bits]
  congr 2
  exact fb_ct_cong fun i _ => by rw [← e, hb]
/-- the lowest bit r: what lies below it -/
theorem low_mask {m r : Nat} (hm : m < 65536) (hr : m.testBit r = true) (hlow : ∀ i, i < r → m.testBit i = false) : (nI m ^^^ (-1)) &&& (nI m - nI 1) = nI (2 ^ r - 1) := by
  have hr16 : r < 16 := by
    rcases Nat.lt_or_ge r 16 with q | q
    · exact q
    · rw [Nat.testBit_lt_two_pow (Nat.lt_of_lt_of_le hm (p2le (a := 16) q))] at hr; cases hr
  have hp := Nat.two_pow_pos r
  have e : m = 2 ^ (r + 1) * (m / 2 ^ (r + 1)) + 2 ^ r := by
    have h1 := Nat.div_add_mod m (2 ^ (r + 1))
    have h2 : m % 2 ^ (r + 1) = 2 ^ r := by
      apply Nat.eq_of_testBit_eq
      intro i
      rw [Nat.testBit_mod_two_pow, Nat.testBit_two_pow]
      rcases Nat.lt_trichotomy i r with q | q | q
      · rw [hlow i q]; simp; omega
      · subst q; simp [hr]
      · rw [decide_eq_false (by omega), decide_eq_false (by omega)]; rfl
    omega
  have hpos : 1 ≤ m := by omega
  rw [pk_sub hpos]
  apply b_ext
  intro i hi
  have hbn : ∀ n, bt (nI n) i = n.testBit i := fun n => by
    unfold bt nI
    show (BitVec.ofNat 32 n).getLsbD i = _
    rw [BitVec.getLsbD_ofNat]
    simp [hi]
  rw [b_and, b_xor, b_m1 i hi, hbn, hbn, hbn]
  have e1 : m - 1 = 2 ^ (r + 1) * (m / 2 ^ (r + 1)) + (2 ^ r - 1) := by omega
  rw [e1]
  have lt1 : 2 ^ r - 1 < 2 ^ (r + 1) := by rw [Nat.pow_succ]; omega
  rw [Nat.testBit_two_pow_mul_add _ lt1, Nat.testBit_two_pow_sub_one]
  rcases Nat.lt_trichotomy i r with q | q | q
  · rw [hlow i q]; simp [q]; omega
  · subst q; rw [hr]; simp
  · have : m.testBit i = (m / 2 ^ (r + 1)).testBit (i - (r + 1)) := by
      have lt2 : 2 ^ r < 2 ^ (r + 1) := p2lt (by omega)
      rw [show m.testBit i = (2 ^ (r + 1) * (m / 2 ^ (r + 1)) + 2 ^ r).testBit i by rw [← e], Nat.testBit_two_pow_mul_add _ lt2, if_neg (by omega)]
    rw [this, if_neg (by omega), decide_eq_false (by omega)]
    cases (m / 2 ^ (r + 1)).testBit (i - (r + 1)) <;> rfl
theorem ntz_small : ∀ r, r < 16 → ∀ v : Int32, (v ^^^ (-1)) &&& (v - 1) = nI (2 ^ r - 1) → J_J6_numberOfTrailingZeros_0f7a4 v = some (nI r) := by
  intro r hr v hv
  have key : ∀ r, r < 16 → (if 0 < nI (2 ^ r - 1) then (if nI (2 ^ r - 1) ≤ 65536 then J_J6_numberOfTrailingZeros_0f7a4_b34 (nI (2 ^ r - 1)) 1 else (nm ((1 : Int32) + Int32.ofInt 16) fun x26 => nm (((nI (2 ^ r - 1)).toUInt32 >>> ((16 : Int32).toUInt32 &&& Int32.toUInt32 31)).toInt32) fun x32 => J_J6_numberOfTrailingZeros_0f7a4_b34 x32 x26)) else some (nI (2 ^ r - 1) &&& 32)) = some (nI r) := by decide +kernel
  unfold J_J6_numberOfTrailingZeros_0f7a4
  simp only [nm_x]
  rw [hv]
  exact key r hr
theorem ntz_eq {x : Int32} (h : ∀ i, 16 ≤ i → bt x i = false) {r : Nat} (hr : bt x r = true) (hlow : ∀ i, i < r → bt x i = false) : J_J6_numberOfTrailingZeros_0f7a4 x = some (nI r) := by
  obtain ⟨m, hm, e, hb⟩ := bt_big16 h
  have hr16 : r < 16 := by
    rcases Nat.lt_or_ge r 16 with q | q
    · exact q
    · rw [h r q] at hr; cases hr
  refine ntz_small r hr16 x ?_
  rw [e]
  exact low_mask hm (by rw [← hb]; exact hr) fun i hi => by rw [← hb]; exact hlow i hi
/-- the lowest of a set, as the class looks for it -/
theorem X9_lowestIn_L {x : Int32} {r : Nat} (hr16 : r < 16) (hr : bt x r = true) (hlow : ∀ i, i < r → bt x i = false) : ∀ d nf i, i + d = r → d < nf → J_X9_lowestIn_L2 x nf (nI i) = some (nI r) := by
  intro d
  induction d with
  | zero =>
    intro nf i hi hd
    obtain ⟨m, rfl, -⟩ := nf_of hd
    obtain rfl : i = r := by omega
    rw [J_X9_lowestIn_L2]
    unfold J_X9_lowestIn_b22
    rw [X9_isIn x (show i < 32 by omega), hr]
    simp (disch := omega) only [↓reduceIte, nm_x, chk_nI, chz_0, chz_1, chz_b2, chn_nI, oi_1, oi_2, oi_m1, il_0, il_1, il_2, il_3, il_4, il_5, il_6, il_7, il_8, il_9, il_10, il_11, il_12, il_13, il_14, il_15, il_16, il_32, il_35, il_40, il_41, il_42, il_43, il_44, il_45, il_46, il_48, il_57, il_58, il_59, il_60, il_99, il_104, il_115, il_116, il_119, il_126, il_133, il_255, il_256, il_512, il_931, il_1000, il_65536, bn0, bn1, bn2, bn3, bn4, bn5, bn6, bn7, bn8, bn9, bn10, bn11, bn12, bn13, bn14, bn15, nI_leI, nI_ltI, nI_eq, nI_clamp, nI_add, pk_mul, nI_lt0, ng_lt0, ng_ge0, ng_eqn, ng_neq, ng_len, ng_eq, sV_m1, sV_lt0, sV_ge0, if_true, if_false, Nat.le_refl, Nat.lt_irrefl, Nat.not_lt_zero, Nat.zero_le, not_true_eq_false, not_false_eq_true, false_and, true_and, and_true, and_false, true_or, or_true, false_or, or_false, reduceCtorEq, show ¬ 16 ≤ i by omega, b2_t]
  | succ d ih =>
    intro nf i hi hd
    obtain ⟨m, rfl, hm⟩ := nf_of hd
    rw [J_X9_lowestIn_L2]
    unfold J_X9_lowestIn_b22
    rw [X9_isIn x (show i < 32 by omega), hlow i (by omega)]
    simp (disch := omega) only [↓reduceIte, nm_x, chk_nI, chz_0, chz_1, chz_b2, chn_nI, oi_1, oi_2, oi_m1, il_0, il_1, il_2, il_3, il_4, il_5, il_6, il_7, il_8, il_9, il_10, il_11, il_12, il_13, il_14, il_15, il_16, il_32, il_35, il_40, il_41, il_42, il_43, il_44, il_45, il_46, il_48, il_57, il_58, il_59, il_60, il_99, il_104, il_115, il_116, il_119, il_126, il_133, il_255, il_256, il_512, il_931, il_1000, il_65536, bn0, bn1, bn2, bn3, bn4, bn5, bn6, bn7, bn8, bn9, bn10, bn11, bn12, bn13, bn14, bn15, nI_leI, nI_ltI, nI_eq, nI_clamp, nI_add, pk_mul, nI_lt0, ng_lt0, ng_ge0, ng_eqn, ng_neq, ng_len, ng_eq, sV_m1, sV_lt0, sV_ge0, if_true, if_false, Nat.le_refl, Nat.lt_irrefl, Nat.not_lt_zero, Nat.zero_le, not_true_eq_false, not_false_eq_true, false_and, true_and, and_true, and_false, true_or, or_true, false_or, or_false, reduceCtorEq, show ¬ 16 ≤ i by omega, b2_f]
    exact ih m (i + 1) (by omega) (by omega)
theorem X9_lowestIn {x : Int32} {r : Nat} (hr16 : r < 16) (hr : bt x r = true) (hlow : ∀ i, i < r → bt x i = false) : J_X9_lowestIn x = some (nI r) := by
  unfold J_X9_lowestIn
  simp only [il_0]
  exact X9_lowestIn_L hr16 hr hlow r FU 0 (by omega) (by unfold FU; omega)

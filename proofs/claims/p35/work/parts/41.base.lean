/-! longs by their bits -/
def bl (x : Int64) (i : Nat) : Bool := x.toBitVec.getLsbD i
theorem l_ext {x y : Int64} (h : ∀ i, i < 64 → bl x i = bl y i) : x = y := Int64.toBitVec_inj.mp (BitVec.eq_of_getLsbD_eq (fun i hi => h i hi))
theorem l_or (x y : Int64) (i : Nat) : bl (x ||| y) i = (bl x i || bl y i) := by unfold bl; rw [Int64.toBitVec_or, BitVec.getLsbD_or]
theorem l_and (x y : Int64) (i : Nat) : bl (x &&& y) i = (bl x i && bl y i) := by unfold bl; rw [Int64.toBitVec_and, BitVec.getLsbD_and]
theorem l_xor (x y : Int64) (i : Nat) : bl (x ^^^ y) i = (bl x i ^^ bl y i) := by unfold bl; rw [Int64.toBitVec_xor, BitVec.getLsbD_xor]
theorem l_big {x : Int64} {i : Nat} (h : 64 ≤ i) : bl x i = false := BitVec.getLsbD_of_ge _ _ h
theorem l_c63 : ∀ k, k < 64 → (((nI k).toInt64 &&& 63).toBitVec.smod 64).toNat = k := by decide +kernel
theorem l_cu : ∀ k, k < 64 → (((nI k).toInt64.toUInt64 &&& Int64.toUInt64 63).toBitVec % 64).toNat = k := by decide +kernel
theorem l_shl (k : Nat) (hk : k < 64) (x : Int64) {i : Nat} (hi : i < 64) : bl (x <<< ((nI k).toInt64 &&& 63)) i = (decide (k ≤ i) && bl x (i - k)) := by
  unfold bl
  rw [Int64.toBitVec_shiftLeft]
  show (x.toBitVec <<< (((nI k).toInt64 &&& 63).toBitVec.smod 64).toNat).getLsbD i = _
  rw [l_c63 k hk, BitVec.getLsbD_shiftLeft]
  rcases Nat.lt_or_ge i k with h | h
  · simp [h, Nat.not_le.mpr h]
  · simp [hi, h, Nat.not_lt.mpr h]
theorem l_ushr (k : Nat) (hk : k < 64) (x : Int64) (i : Nat) : bl ((x.toUInt64 >>> ((nI k).toInt64.toUInt64 &&& Int64.toUInt64 63)).toInt64) i = bl x (k + i) := by
  show (x.toUInt64 >>> ((nI k).toInt64.toUInt64 &&& Int64.toUInt64 63)).toBitVec.getLsbD i = x.toUInt64.toBitVec.getLsbD (k + i)
  rw [UInt64.toBitVec_shiftRight]
  show (x.toUInt64.toBitVec >>> (((nI k).toInt64.toUInt64 &&& Int64.toUInt64 63).toBitVec % 64).toNat).getLsbD i = _
  rw [l_cu k hk, BitVec.getLsbD_ushiftRight]
theorem l_sshr (k : Nat) (hk : k < 64) (x : Int64) {i : Nat} (hi : i < 64) : bl (x >>> ((nI k).toInt64 &&& 63)) i = if k + i < 64 then bl x (k + i) else bl x 63 := by
  unfold bl
  rw [Int64.toBitVec_shiftRight]
  show (x.toBitVec.sshiftRight (((nI k).toInt64 &&& 63).toBitVec.smod 64).toNat).getLsbD i = _
  rw [l_c63 k hk, BitVec.getLsbD_sshiftRight, BitVec.msb_eq_getLsbD_last]
  simp [hi]
theorem l_to32 (x : Int64) {i : Nat} (hi : i < 32) : bt x.toInt32 i = bl x i := by
  unfold bt bl
  rw [Int64.toBitVec_toInt32, BitVec.getLsbD_signExtend]
  simp [hi, show i < 64 by omega]
theorem l_of32 (x : Int32) {i : Nat} (hi : i < 64) : bl x.toInt64 i = if i < 32 then bt x i else bt x 31 := by
  unfold bt bl
  rw [Int32.toBitVec_toInt64, BitVec.getLsbD_signExtend, BitVec.msb_eq_getLsbD_last]
  simp [hi]
theorem l_0 (i : Nat) : bl 0 i = false := BitVec.getLsbD_zero
theorem l_1 (i : Nat) : bl 1 i = decide (i = 0) := by
  rcases Nat.lt_or_ge i 64 with h | h
  · exact (by decide +kernel : ∀ i, i < 64 → bl 1 i = decide (i = 0)) i h
  · rw [l_big h, decide_eq_false (by omega)]
theorem l_7 (i : Nat) : bl 7 i = decide (i < 3) := by
  rcases Nat.lt_or_ge i 64 with h | h
  · exact (by decide +kernel : ∀ i, i < 64 → bl 7 i = decide (i < 3)) i h
  · rw [l_big h, decide_eq_false (by omega)]
theorem l_65535 (i : Nat) : bl 65535 i = decide (i < 16) := by
  rcases Nat.lt_or_ge i 64 with h | h
  · exact (by decide +kernel : ∀ i, i < 64 → bl 65535 i = decide (i < 16)) i h
  · rw [l_big h, decide_eq_false (by omega)]
theorem l_m1 : ∀ i, i < 64 → bl (-1) i = true := by decide +kernel
/-! ints by their bits, more -/
theorem b_1 (i : Nat) : bt 1 i = decide (i = 0) := by
  rcases Nat.lt_or_ge i 32 with h | h
  · exact (by decide +kernel : ∀ i, i < 32 → bt 1 i = decide (i = 0)) i h
  · rw [b_big h, decide_eq_false (by omega)]
theorem b_n1 (i : Nat) : bt (nI 1) i = decide (i = 0) := b_1 i
theorem b_n0 (i : Nat) : bt (nI 0) i = false := b_0 i
/-- the bit k of x, as the class reads it -/
theorem bit_and (x : Int32) (k : Nat) (hk : k < 32) : (x >>> (nI k &&& 31)) &&& nI 1 = if bt x k then nI 1 else nI 0 := by
  apply b_ext
  intro i hi
  rw [b_and, b_sshr k hk x hi, b_n1]
  by_cases h : i = 0
  · subst h
    rw [if_pos (by omega)]
    cases hb : bt x k <;> simp [hb, b_n1, b_n0]
  · cases hb : bt x k <;> simp [h, b_n1, b_n0]
/-- the set with k put in -/
theorem b_set (x : Int32) (k i : Nat) (hk : k < 32) : bt (x ||| (nI 1 <<< (nI k &&& 31))) i = (bt x i || decide (i = k)) := by
  rcases Nat.lt_or_ge i 32 with h | h
  · rw [b_or, b_shl k hk _ h, b_n1]
    congr 1
    by_cases e : i = k
    · subst e; simp
    · by_cases e2 : k ≤ i
      · simp [e, e2]; omega
      · simp [e, e2]
  · rw [b_big h, b_big h]; simp; omega
theorem b_one (k i : Nat) (hk : k < 32) : bt (nI 1 <<< (nI k &&& 31)) i = decide (i = k) := by
  have h := b_set 0 k i hk
  rw [b_or, b_0] at h
  simpa using h
/-- the set {i < n : p i} -/
def mset (p : Nat → Bool) : Nat → Int32
  | 0 => nI 0
  | n + 1 => if p n then mset p n ||| (nI 1 <<< (nI n &&& 31)) else mset p n
theorem b_mset (p : Nat → Bool) (i : Nat) : ∀ n, n ≤ 32 → bt (mset p n) i = (decide (i < n) && p i)
  | 0, _ => by rw [mset, b_n0]; simp
  | n + 1, h => by
    have ih := b_mset p i n (by omega)
    rw [mset]
    by_cases hp : p n = true
    · rw [if_pos hp, b_set _ n i (by omega), ih]
      by_cases e : i = n
      · subst e; simp [hp]
      · have : (decide (i < n)) = decide (i < n + 1) := decide_eq_decide.mpr (by omega)
        simp [e, this]
    · rw [if_neg hp, ih]
      by_cases e : i = n
      · subst e; simp [hp]
      · have : (decide (i < n)) = decide (i < n + 1) := decide_eq_decide.mpr (by omega)
        rw [this]
theorem mset_eq {x : Int32} {p : Nat → Bool} {n : Nat} (hn : n ≤ 32) (h : ∀ i, i < 32 → bt x i = (decide (i < n) && p i)) : x = mset p n :=
  b_ext fun i hi => by rw [h i hi, b_mset p i n hn]
theorem mset_cong {p q : Nat → Bool} {n : Nat} (h : ∀ i, i < n → p i = q i) : mset p n = mset q n := by
  induction n with
  | zero => rfl
  | succ n ih => rw [mset, mset, ih (fun i hi => h i (by omega)), h n (by omega)]
/-! the functions' own words over small numbers -/
theorem il_0 : (0 : Int32) = nI 0 := Eq.trans rfl rfl
theorem il_1 : (1 : Int32) = nI 1 := Eq.trans rfl rfl
theorem il_2 : (2 : Int32) = nI 2 := Eq.trans rfl rfl
theorem il_3 : (3 : Int32) = nI 3 := Eq.trans rfl rfl
theorem il_4 : (4 : Int32) = nI 4 := Eq.trans rfl rfl
theorem il_5 : (5 : Int32) = nI 5 := Eq.trans rfl rfl
theorem il_6 : (6 : Int32) = nI 6 := Eq.trans rfl rfl
theorem il_7 : (7 : Int32) = nI 7 := Eq.trans rfl rfl
theorem il_8 : (8 : Int32) = nI 8 := Eq.trans rfl rfl
theorem il_9 : (9 : Int32) = nI 9 := Eq.trans rfl rfl
theorem il_10 : (10 : Int32) = nI 10 := Eq.trans rfl rfl
theorem il_11 : (11 : Int32) = nI 11 := Eq.trans rfl rfl
theorem il_12 : (12 : Int32) = nI 12 := Eq.trans rfl rfl
theorem il_13 : (13 : Int32) = nI 13 := Eq.trans rfl rfl
theorem il_14 : (14 : Int32) = nI 14 := Eq.trans rfl rfl
theorem il_15 : (15 : Int32) = nI 15 := Eq.trans rfl rfl
theorem il_16 : (16 : Int32) = nI 16 := Eq.trans rfl rfl
theorem il_32 : (32 : Int32) = nI 32 := Eq.trans rfl rfl
theorem il_35 : (35 : Int32) = nI 35 := Eq.trans rfl rfl
theorem il_40 : (40 : Int32) = nI 40 := Eq.trans rfl rfl
theorem il_41 : (41 : Int32) = nI 41 := Eq.trans rfl rfl
theorem il_42 : (42 : Int32) = nI 42 := Eq.trans rfl rfl
theorem il_43 : (43 : Int32) = nI 43 := Eq.trans rfl rfl
theorem il_44 : (44 : Int32) = nI 44 := Eq.trans rfl rfl
theorem il_45 : (45 : Int32) = nI 45 := Eq.trans rfl rfl
theorem il_46 : (46 : Int32) = nI 46 := Eq.trans rfl rfl
theorem il_48 : (48 : Int32) = nI 48 := Eq.trans rfl rfl
theorem il_57 : (57 : Int32) = nI 57 := Eq.trans rfl rfl
theorem il_58 : (58 : Int32) = nI 58 := Eq.trans rfl rfl
theorem il_59 : (59 : Int32) = nI 59 := Eq.trans rfl rfl
theorem il_60 : (60 : Int32) = nI 60 := Eq.trans rfl rfl
theorem il_99 : (99 : Int32) = nI 99 := Eq.trans rfl rfl
theorem il_104 : (104 : Int32) = nI 104 := Eq.trans rfl rfl
theorem il_115 : (115 : Int32) = nI 115 := Eq.trans rfl rfl
theorem il_116 : (116 : Int32) = nI 116 := Eq.trans rfl rfl
theorem il_119 : (119 : Int32) = nI 119 := Eq.trans rfl rfl
theorem il_126 : (126 : Int32) = nI 126 := Eq.trans rfl rfl
theorem il_133 : (133 : Int32) = nI 133 := Eq.trans rfl rfl
theorem il_255 : (255 : Int32) = nI 255 := Eq.trans rfl rfl
theorem il_256 : (256 : Int32) = nI 256 := Eq.trans rfl rfl
theorem il_512 : (512 : Int32) = nI 512 := Eq.trans rfl rfl
theorem il_931 : (931 : Int32) = nI 931 := Eq.trans rfl rfl
theorem il_1000 : (1000 : Int32) = nI 1000 := Eq.trans rfl rfl
theorem il_65536 : (65536 : Int32) = nI 65536 := Eq.trans rfl rfl
theorem nm_x {α β : Type} (x : α) (f : α → β) : nm x f = f x := Eq.trans rfl rfl
theorem bn0 {β : Type} (f : Option β) : bnd0 (some ()) f = f := Eq.trans rfl rfl
theorem bn1 {T1 Z : Type} (a1 : T1) (f : T1 → Option Z) : bnd1 (some (a1)) f = f a1 := Eq.trans rfl rfl
theorem bn2 {T1 T2 Z : Type} (a1 : T1) (a2 : T2) (f : T1 → T2 → Option Z) : bnd2 (some (a1, a2)) f = f a1 a2 := Eq.trans rfl rfl
theorem bn3 {T1 T2 T3 Z : Type} (a1 : T1) (a2 : T2) (a3 : T3) (f : T1 → T2 → T3 → Option Z) : bnd3 (some (a1, a2, a3)) f = f a1 a2 a3 := Eq.trans rfl rfl
theorem bn4 {T1 T2 T3 T4 Z : Type} (a1 : T1) (a2 : T2) (a3 : T3) (a4 : T4) (f : T1 → T2 → T3 → T4 → Option Z) : bnd4 (some (a1, a2, a3, a4)) f = f a1 a2 a3 a4 := Eq.trans rfl rfl
theorem bn5 {T1 T2 T3 T4 T5 Z : Type} (a1 : T1) (a2 : T2) (a3 : T3) (a4 : T4) (a5 : T5) (f : T1 → T2 → T3 → T4 → T5 → Option Z) : bnd5 (some (a1, a2, a3, a4, a5)) f = f a1 a2 a3 a4 a5 := Eq.trans rfl rfl
theorem bn6 {T1 T2 T3 T4 T5 T6 Z : Type} (a1 : T1) (a2 : T2) (a3 : T3) (a4 : T4) (a5 : T5) (a6 : T6) (f : T1 → T2 → T3 → T4 → T5 → T6 → Option Z) : bnd6 (some (a1, a2, a3, a4, a5, a6)) f = f a1 a2 a3 a4 a5 a6 := Eq.trans rfl rfl
theorem bn7 {T1 T2 T3 T4 T5 T6 T7 Z : Type} (a1 : T1) (a2 : T2) (a3 : T3) (a4 : T4) (a5 : T5) (a6 : T6) (a7 : T7) (f : T1 → T2 → T3 → T4 → T5 → T6 → T7 → Option Z) : bnd7 (some (a1, a2, a3, a4, a5, a6, a7)) f = f a1 a2 a3 a4 a5 a6 a7 := Eq.trans rfl rfl
theorem bn8 {T1 T2 T3 T4 T5 T6 T7 T8 Z : Type} (a1 : T1) (a2 : T2) (a3 : T3) (a4 : T4) (a5 : T5) (a6 : T6) (a7 : T7) (a8 : T8) (f : T1 → T2 → T3 → T4 → T5 → T6 → T7 → T8 → Option Z) : bnd8 (some (a1, a2, a3, a4, a5, a6, a7, a8)) f = f a1 a2 a3 a4 a5 a6 a7 a8 := Eq.trans rfl rfl
theorem bn9 {T1 T2 T3 T4 T5 T6 T7 T8 T9 Z : Type} (a1 : T1) (a2 : T2) (a3 : T3) (a4 : T4) (a5 : T5) (a6 : T6) (a7 : T7) (a8 : T8) (a9 : T9) (f : T1 → T2 → T3 → T4 → T5 → T6 → T7 → T8 → T9 → Option Z) : bnd9 (some (a1, a2, a3, a4, a5, a6, a7, a8, a9)) f = f a1 a2 a3 a4 a5 a6 a7 a8 a9 := Eq.trans rfl rfl
theorem bn10 {T1 T2 T3 T4 T5 T6 T7 T8 T9 T10 Z : Type} (a1 : T1) (a2 : T2) (a3 : T3) (a4 : T4) (a5 : T5) (a6 : T6) (a7 : T7) (a8 : T8) (a9 : T9) (a10 : T10) (f : T1 → T2 → T3 → T4 → T5 → T6 → T7 → T8 → T9 → T10 → Option Z) : bnd10 (some (a1, a2, a3, a4, a5, a6, a7, a8, a9, a10)) f = f a1 a2 a3 a4 a5 a6 a7 a8 a9 a10 := Eq.trans rfl rfl
theorem bn11 {T1 T2 T3 T4 T5 T6 T7 T8 T9 T10 T11 Z : Type} (a1 : T1) (a2 : T2) (a3 : T3) (a4 : T4) (a5 : T5) (a6 : T6) (a7 : T7) (a8 : T8) (a9 : T9) (a10 : T10) (a11 : T11) (f : T1 → T2 → T3 → T4 → T5 → T6 → T7 → T8 → T9 → T10 → T11 → Option Z) : bnd11 (some (a1, a2, a3, a4, a5, a6, a7, a8, a9, a10, a11)) f = f a1 a2 a3 a4 a5 a6 a7 a8 a9 a10 a11 := Eq.trans rfl rfl
theorem bn12 {T1 T2 T3 T4 T5 T6 T7 T8 T9 T10 T11 T12 Z : Type} (a1 : T1) (a2 : T2) (a3 : T3) (a4 : T4) (a5 : T5) (a6 : T6) (a7 : T7) (a8 : T8) (a9 : T9) (a10 : T10) (a11 : T11) (a12 : T12) (f : T1 → T2 → T3 → T4 → T5 → T6 → T7 → T8 → T9 → T10 → T11 → T12 → Option Z) : bnd12 (some (a1, a2, a3, a4, a5, a6, a7, a8, a9, a10, a11, a12)) f = f a1 a2 a3 a4 a5 a6 a7 a8 a9 a10 a11 a12 := Eq.trans rfl rfl
theorem bn13 {T1 T2 T3 T4 T5 T6 T7 T8 T9 T10 T11 T12 T13 Z : Type} (a1 : T1) (a2 : T2) (a3 : T3) (a4 : T4) (a5 : T5) (a6 : T6) (a7 : T7) (a8 : T8) (a9 : T9) (a10 : T10) (a11 : T11) (a12 : T12) (a13 : T13) (f : T1 → T2 → T3 → T4 → T5 → T6 → T7 → T8 → T9 → T10 → T11 → T12 → T13 → Option Z) : bnd13 (some (a1, a2, a3, a4, a5, a6, a7, a8, a9, a10, a11, a12, a13)) f = f a1 a2 a3 a4 a5 a6 a7 a8 a9 a10 a11 a12 a13 := Eq.trans rfl rfl
theorem bn14 {T1 T2 T3 T4 T5 T6 T7 T8 T9 T10 T11 T12 T13 T14 Z : Type} (a1 : T1) (a2 : T2) (a3 : T3) (a4 : T4) (a5 : T5) (a6 : T6) (a7 : T7) (a8 : T8) (a9 : T9) (a10 : T10) (a11 : T11) (a12 : T12) (a13 : T13) (a14 : T14) (f : T1 → T2 → T3 → T4 → T5 → T6 → T7 → T8 → T9 → T10 → T11 → T12 → T13 → T14 → Option Z) : bnd14 (some (a1, a2, a3, a4, a5, a6, a7, a8, a9, a10, a11, a12, a13, a14)) f = f a1 a2 a3 a4 a5 a6 a7 a8 a9 a10 a11 a12 a13 a14 := Eq.trans rfl rfl
theorem bn15 {T1 T2 T3 T4 T5 T6 T7 T8 T9 T10 T11 T12 T13 T14 T15 Z : Type} (a1 : T1) (a2 : T2) (a3 : T3) (a4 : T4) (a5 : T5) (a6 : T6) (a7 : T7) (a8 : T8) (a9 : T9) (a10 : T10) (a11 : T11) (a12 : T12) (a13 : T13) (a14 : T14) (a15 : T15) (f : T1 → T2 → T3 → T4 → T5 → T6 → T7 → T8 → T9 → T10 → T11 → T12 → T13 → T14 → T15 → Option Z) : bnd15 (some (a1, a2, a3, a4, a5, a6, a7, a8, a9, a10, a11, a12, a13, a14, a15)) f = f a1 a2 a3 a4 a5 a6 a7 a8 a9 a10 a11 a12 a13 a14 a15 := Eq.trans rfl rfl
def b2 (b : Bool) : Int32 := if b then nI 1 else nI 0
theorem b2_0 (b : Bool) : b2 b = nI 0 ↔ b = false := by cases b <;> decide +kernel
theorem b2_1 (b : Bool) : b2 b = nI 1 ↔ b = true := by cases b <;> decide +kernel
theorem b2_t : b2 true = nI 1 := rfl
theorem b2_f : b2 false = nI 0 := rfl
theorem b2_n (b : Bool) : b2 b = nI b.toNat := by cases b <;> rfl
theorem b2_inj {a b : Bool} : b2 a = b2 b ↔ a = b := by cases a <;> cases b <;> decide +kernel
theorem chk_nI {β : Type} {i N : Nat} (h : i < N) (hN : N < 2 ^ 31) (b : Option β) : chk (nI i) N b = b := by unfold chk; exact if_neg (nI_in h hN)
theorem chz_0 {β : Type} (b : Option β) : chz (nI 0) b = b := if_pos (Or.inl rfl)
theorem chz_1 {β : Type} (b : Option β) : chz (nI 1) b = b := if_pos (Or.inr rfl)
theorem chz_b2 {β : Type} (c : Bool) (b : Option β) : chz (b2 c) b = b := by cases c; exact chz_0 b; exact chz_1 b
theorem chn_nI {β : Type} {n : Nat} (h : 0 < n) (hn : n < 2 ^ 31) (b : Option β) : chn (nI n) b = b := if_neg (nI_ne0 h hn)
theorem oi_1 : Int32.ofInt 1 = nI 1 := Eq.trans rfl rfl
theorem oi_2 : Int32.ofInt 2 = nI 2 := Eq.trans rfl rfl
theorem oi_m1 : Int32.ofInt (-1) = -nI 1 := Eq.trans rfl rfl
theorem ng_toInt {k : Nat} (h : k < 2 ^ 31) : (-nI k).toInt = -(k : Int) := sb_negT h
theorem ng_lt0 {k : Nat} (h : 0 < k) (hk : k < 2 ^ 31) : -nI k < nI 0 ↔ True := ⟨fun _ => trivial, fun _ => by rw [fa_lt, ng_toInt hk, nI_toInt (by omega)]; omega⟩
theorem ng_ge0 {k : Nat} (h : 0 < k) (hk : k < 2 ^ 31) : nI 0 ≤ -nI k ↔ False := ⟨fun q => by rw [fa_le, ng_toInt hk, nI_toInt (by omega)] at q; omega, fun h => h.elim⟩
theorem ng_eqn {k n : Nat} (h : 0 < k) (hk : k < 2 ^ 31) (hn : n < 2 ^ 31) : -nI k = nI n ↔ False := ⟨fun q => by rw [fa_eq, ng_toInt hk, nI_toInt hn] at q; omega, fun h => h.elim⟩
theorem ng_neq {k n : Nat} (h : 0 < k) (hk : k < 2 ^ 31) (hn : n < 2 ^ 31) : nI n = -nI k ↔ False := ⟨fun q => by rw [fa_eq, ng_toInt hk, nI_toInt hn] at q; omega, fun h => h.elim⟩
theorem ng_len {k n : Nat} (h : 0 < k) (hk : k < 2 ^ 31) (hn : n < 2 ^ 31) : nI n ≤ -nI k ↔ False := ⟨fun q => by rw [fa_le, ng_toInt hk, nI_toInt hn] at q; omega, fun h => h.elim⟩
theorem ng_eq {k n : Nat} (hk : k < 2 ^ 31) (hn : n < 2 ^ 31) : -nI k = -nI n ↔ k = n := ⟨fun q => by rw [fa_eq, ng_toInt hk, ng_toInt hn] at q; omega, fun h => by rw [h]⟩
theorem nI_lt0 {n : Nat} (h : n < 2 ^ 31) : nI n < nI 0 ↔ False := ⟨fun e => nI_pos h e, fun h => h.elim⟩
theorem nI_ge0 {n : Nat} (h : n < 2 ^ 31) : nI 0 ≤ nI n ↔ True := ⟨fun _ => trivial, fun _ => nI_pos' h⟩
/-- a wire's number less 1: -1 without one -/
def sV (s : Nat) : Int32 := if s = 0 then -nI 1 else nI (s - 1)
theorem sV_0 : sV 0 = -nI 1 := rfl
theorem sV_s {s : Nat} (h : s ≠ 0) : sV s = nI (s - 1) := if_neg h
theorem sV_sub (s : Nat) : nI s - nI 1 = sV s := by
  cases s with
  | zero => rfl
  | succ s => rw [sV_s (by omega)]; exact nI_pred s
theorem sV_m1 {s : Nat} (h : s < 2 ^ 31) : sV s = -nI 1 ↔ s = 0 := by
  by_cases e : s = 0
  · subst e; exact ⟨fun _ => rfl, fun _ => rfl⟩
  · rw [sV_s e, ng_neq (by omega) (by omega) (by omega)]; exact ⟨fun h => h.elim, fun h => e h⟩
theorem sV_lt0 {s : Nat} (h : s < 2 ^ 31) : sV s < nI 0 ↔ s = 0 := by
  by_cases e : s = 0
  · subst e; exact ⟨fun _ => rfl, fun _ => by decide +kernel⟩
  · rw [sV_s e, nI_lt0 (by omega)]; exact ⟨fun h => h.elim, fun h => e h⟩
theorem sV_ge0 {s : Nat} (h : s < 2 ^ 31) : nI 0 ≤ sV s ↔ ¬ s = 0 := by
  by_cases e : s = 0
  · subst e; exact ⟨fun h => absurd h (by decide +kernel), fun h => absurd rfl h⟩
  · rw [sV_s e, nI_ge0 (by omega)]; exact ⟨fun _ => e, fun _ => trivial⟩
theorem sV_eq {s n : Nat} (h : s < 2 ^ 31) (hn : n < 2 ^ 31) : sV s = nI n ↔ s = n + 1 := by
  by_cases e : s = 0
  · subst e
    rw [sV_0, ng_eqn (by omega) (by omega) hn]
    exact ⟨fun h => h.elim, fun h => by omega⟩
  · rw [sV_s e, nI_eq (by omega) hn]; omega
theorem dlt {l j : Nat} (h : ¬ l = j) : decide (l < j) = decide (l < j + 1) := decide_eq_decide.mpr (by omega)
theorem p2le {a b : Nat} (h : a ≤ b) : 2 ^ a ≤ 2 ^ b := Nat.pow_le_pow_right (by decide) h
theorem p2lt {a b : Nat} (h : a < b) : 2 ^ a < 2 ^ b := Nat.pow_lt_pow_right (by decide) h
theorem FU4 : FU = 996 + 1 + 1 + 1 + 1 := rfl
theorem nf_of {k nf : Nat} (h : k < nf) : ∃ m, nf = m + 1 ∧ k ≤ m := ⟨nf - 1, by omega, by omega⟩
/-- what grows in steps and stands still once it has: within N steps it does -/
theorem sat {N : Nat} (P : Nat → Nat → Prop) (up : ∀ f i, P f i → P (f + 1) i) (st : ∀ f, (∀ i, i < N → P (f + 1) i → P f i) → ∀ i, i < N → P (f + 2) i → P (f + 1) i) : ∀ f i, i < N → P f i → P N i := by
  have upn : ∀ d f i, P f i → P (f + d) i := by
    intro d
    induction d with
    | zero => intro f i h; exact h
    | succ d ih => intro f i h; exact up _ _ (ih f i h)
  -- behind a step that adds nothing, nothing is added
  have stay : ∀ f0, (∀ i, i < N → P (f0 + 1) i → P f0 i) → ∀ d i, i < N → P (f0 + d) i → P f0 i := by
    intro f0 h0
    have each : ∀ d i, i < N → P (f0 + d + 1) i → P (f0 + d) i := by
      intro d
      induction d with
      | zero => exact h0
      | succ d ih => exact st (f0 + d) ih
    intro d
    induction d with
    | zero => intro i _ h; exact h
    | succ d ih => intro i hi h; exact ih i hi (each d i hi h)
  by_cases hx : ∃ f0, f0 ≤ N ∧ ∀ i, i < N → P (f0 + 1) i → P f0 i
  · obtain ⟨f0, hf0, h0⟩ := hx
    intro f i hi h
    have h1 : P f0 i := by
      rcases Nat.lt_or_ge f f0 with q | q
      · have := upn (f0 - f) f i h
        rwa [show f + (f0 - f) = f0 by omega] at this
      · have := stay f0 h0 (f - f0) i hi
        rw [show f0 + (f - f0) = f by omega] at this
        exact this h
    have := upn (N - f0) f0 i h1
    rwa [show f0 + (N - f0) = N by omega] at this
  · -- each of N + 1 steps adds one of N: too many
    exfalso
    have hpick : ∀ f0, f0 ≤ N → ∃ i, i < N ∧ P (f0 + 1) i ∧ ¬ P f0 i := by
      intro f0 hf
      refine Classical.byContradiction fun hn => hx ⟨f0, hf, fun i hi h => Classical.byContradiction fun q => hn ⟨i, hi, h, q⟩⟩
    have hch : ∃ F : Nat → Nat, ∀ f0, f0 ≤ N → F f0 < N ∧ P (f0 + 1) (F f0) ∧ ¬ P f0 (F f0) := by
      refine ⟨fun f0 => if h : f0 ≤ N then Classical.choose (hpick f0 h) else 0, fun f0 hf => ?_⟩
      simp only [dif_pos hf]
      exact Classical.choose_spec (hpick f0 hf)
    obtain ⟨F, hF⟩ := hch
    obtain ⟨i, j, hij, hj, e⟩ := fb_twice (m := N) (n := N + 1) (f := F) (fun i hi => (hF i (by omega)).1) (by omega)
    have a1 := (hF i (by omega)).2.1
    have a2 := (hF j (by omega)).2.2
    rw [← e] at a2
    have := upn (j - (i + 1)) (i + 1) _ a1
    rw [show i + 1 + (j - (i + 1)) = j by omega] at this
    exact a2 this

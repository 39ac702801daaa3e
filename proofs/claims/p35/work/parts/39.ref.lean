/-! THE REFERENCE, as functions alone: in this claim no class of that name has methods; it is a ghost -/
def J_J6_numberOfTrailingZeros_0f7a4_b74 (v0 : Int32) (v1 : Int32) : Option (Int32) :=
    some (v1 + ((v0.toUInt32 >>> ((1 : Int32).toUInt32 &&& Int32.toUInt32 31)).toInt32))
def J_J6_numberOfTrailingZeros_0f7a4_b62 (v0 : Int32) (v1 : Int32) : Option (Int32) :=
    if v0 ≤ (4 : Int32) then (
    J_J6_numberOfTrailingZeros_0f7a4_b74  v0 v1)
    else (
    nm (v1 + Int32.ofInt 2) fun x67 =>
    nm ((v0.toUInt32 >>> ((2 : Int32).toUInt32 &&& Int32.toUInt32 31)).toInt32) fun x72 =>
    J_J6_numberOfTrailingZeros_0f7a4_b74  x72 x67)
def J_J6_numberOfTrailingZeros_0f7a4_b49 (v0 : Int32) (v1 : Int32) : Option (Int32) :=
    if v0 ≤ (16 : Int32) then (
    J_J6_numberOfTrailingZeros_0f7a4_b62  v0 v1)
    else (
    nm (v1 + Int32.ofInt 4) fun x55 =>
    nm ((v0.toUInt32 >>> ((4 : Int32).toUInt32 &&& Int32.toUInt32 31)).toInt32) fun x60 =>
    J_J6_numberOfTrailingZeros_0f7a4_b62  x60 x55)
def J_J6_numberOfTrailingZeros_0f7a4_b34 (v0 : Int32) (v1 : Int32) : Option (Int32) :=
    if v0 ≤ (256 : Int32) then (
    J_J6_numberOfTrailingZeros_0f7a4_b49  v0 v1)
    else (
    nm (v1 + Int32.ofInt 8) fun x41 =>
    nm ((v0.toUInt32 >>> ((8 : Int32).toUInt32 &&& Int32.toUInt32 31)).toInt32) fun x47 =>
    J_J6_numberOfTrailingZeros_0f7a4_b49  x47 x41)
def J_J6_numberOfTrailingZeros_0f7a4 (v0 : Int32) : Option (Int32) :=
    nm (v0 ^^^ (-1 : Int32)) fun x2 =>
    nm (x2 &&& (v0 - (1 : Int32))) fun x6 =>
    if 0 < x6 then (
    if x6 ≤ (65536 : Int32) then (
    J_J6_numberOfTrailingZeros_0f7a4_b34  x6 (1 : Int32))
    else (
    nm ((1 : Int32) + Int32.ofInt 16) fun x26 =>
    nm ((x6.toUInt32 >>> ((16 : Int32).toUInt32 &&& Int32.toUInt32 31)).toInt32) fun x32 =>
    J_J6_numberOfTrailingZeros_0f7a4_b34  x32 x26))
    else (
    some (x6 &&& (32 : Int32)))
def J_X10_in_b15 (v0 : Int32) (v1 : Int32) (v2 : Int32) (s15_0 : Int32) : Option (Int32) :=
    chz s15_0 (some (s15_0))
def J_X10_in_b14 (v0 : Int32) (v1 : Int32) (v2 : Int32) : Option (Int32) :=
    J_X10_in_b15 v0 v1 v2 (0 : Int32)
def J_X10_in (v0 : Int32) (v1 : Int32) (v2 : Int32) : Option (Int32) :=
    if v0 < v1 then (
    J_X10_in_b14 v0 v1 v2 )
    else (
    if v2 < v0 then (
    J_X10_in_b14 v0 v1 v2 )
    else (
    J_X10_in_b15 v0 v1 v2 (1 : Int32)))
def J_X10_tries_L2 (t_now : Nat → Int32) : Nat → (Nat → Int32) → Int32 → Option ((Nat → Int32))
  | 0, _, _ => none
  | nf + 1, t_tried, v1 =>
    if (133 : Int32) ≤ v1 then (
    some (t_tried))
    else (
    chk v1 133 (
    nm (t_now v1.toNatClampNeg) fun x19 =>
    chk v1 133 (
    nm (v1 + Int32.ofInt 1) fun x21 =>
    J_X10_tries_L2 t_now nf (upd t_tried v1.toNatClampNeg x19) x21)))
def J_X10_tries (t_now : Nat → Int32) (t_tried : Nat → Int32) : Option ((Nat → Int32)) :=
    J_X10_tries_L2 t_now FU t_tried (0 : Int32)
def J_X10_comesBack_L2 (t_tried : Nat → Int32) : Nat → (Nat → Int32) → Int32 → Option ((Nat → Int32))
  | 0, _, _ => none
  | nf + 1, t_now, v1 =>
    if (133 : Int32) ≤ v1 then (
    some (t_now))
    else (
    chk v1 133 (
    nm (t_tried v1.toNatClampNeg) fun x19 =>
    chk v1 133 (
    nm (v1 + Int32.ofInt 1) fun x21 =>
    J_X10_comesBack_L2 t_tried nf (upd t_now v1.toNatClampNeg x19) x21)))
def J_X10_comesBack (t_now : Nat → Int32) (t_tried : Nat → Int32) : Option ((Nat → Int32)) :=
    J_X10_comesBack_L2 t_tried FU t_now (0 : Int32)
def J_X10_thinks_L2 (t_now : Nat → Int32) : Nat → (Nat → Int32) → Int32 → Option ((Nat → Int32))
  | 0, _, _ => none
  | nf + 1, t_thought, v1 =>
    if (133 : Int32) ≤ v1 then (
    some (t_thought))
    else (
    chk v1 133 (
    nm (t_now v1.toNatClampNeg) fun x19 =>
    chk v1 133 (
    nm (v1 + Int32.ofInt 1) fun x21 =>
    J_X10_thinks_L2 t_now nf (upd t_thought v1.toNatClampNeg x19) x21)))
def J_X10_thinks (t_now : Nat → Int32) (t_thought : Nat → Int32) : Option ((Nat → Int32)) :=
    J_X10_thinks_L2 t_now FU t_thought (0 : Int32)
def J_X10_thinksNoMore_L2 (t_thought : Nat → Int32) : Nat → (Nat → Int32) → Int32 → Option ((Nat → Int32))
  | 0, _, _ => none
  | nf + 1, t_now, v1 =>
    if (133 : Int32) ≤ v1 then (
    some (t_now))
    else (
    chk v1 133 (
    nm (t_thought v1.toNatClampNeg) fun x19 =>
    chk v1 133 (
    nm (v1 + Int32.ofInt 1) fun x21 =>
    J_X10_thinksNoMore_L2 t_thought nf (upd t_now v1.toNatClampNeg x19) x21)))
def J_X10_thinksNoMore (t_now : Nat → Int32) (t_thought : Nat → Int32) : Option ((Nat → Int32)) :=
    J_X10_thinksNoMore_L2 t_thought FU t_now (0 : Int32)
def J_X10_keeps_L52 (t_tried : Nat → Int32) (v1 : Int32) : Nat → Int32 → (Nat → Int32) → Int32 → Option (Int32 × Int32 × (Nat → Int32))
  | 0, _, _, _ => none
  | nf + 1, t_undos, t_kept, v2 =>
    if (133 : Int32) ≤ v2 then (
    nm (t_undos + (1 : Int32)) fun x92 =>
    some (v1, x92, t_kept))
    else (
    nm ((133 : Int32) * t_undos) fun x70 =>
    nm (x70 + v2) fun x72 =>
    chk v2 133 (
    nm (t_tried v2.toNatClampNeg) fun x78 =>
    chk x72 1064 (
    nm (v2 + Int32.ofInt 1) fun x80 =>
    J_X10_keeps_L52 t_tried v1 nf t_undos (upd t_kept x72.toNatClampNeg x78) x80)))
def J_X10_keeps_b50 (t_tried : Nat → Int32) (v1 : Int32) (t_undos : Int32) (t_kept : Nat → Int32) : Option (Int32 × Int32 × (Nat → Int32)) :=
    J_X10_keeps_L52 t_tried v1 FU t_undos t_kept (0 : Int32)
def J_X10_keeps_L11 (t_tried : Nat → Int32) (v1 : Int32) : Nat → Int32 → (Nat → Int32) → Int32 → Option (Int32 × Int32 × (Nat → Int32))
  | 0, _, _, _ => none
  | nf + 1, t_undos, t_kept, v2 =>
    if (931 : Int32) ≤ v2 then (
    nm (t_undos - (1 : Int32)) fun x46 =>
    J_X10_keeps_b50 t_tried v1 x46 t_kept)
    else (
    nm ((133 : Int32) + v2) fun x31 =>
    chk x31 1064 (
    nm (t_kept x31.toNatClampNeg) fun x32 =>
    chk v2 1064 (
    nm (v2 + Int32.ofInt 1) fun x34 =>
    J_X10_keeps_L11 t_tried v1 nf t_undos (upd t_kept v2.toNatClampNeg x32) x34)))
def J_X10_keeps (t_undos : Int32) (t_tried : Nat → Int32) (t_kept : Nat → Int32) (v1 : Int32) : Option (Int32 × Int32 × (Nat → Int32)) :=
    if t_undos = (8 : Int32) then (
    J_X10_keeps_L11 t_tried v1 FU t_undos t_kept (0 : Int32))
    else (
    J_X10_keeps_b50 t_tried v1 t_undos t_kept)
def J_X10_refuses (t_why : Nat → Int32) (t_more : Nat → Int32) (v1 : Int32) (v2 : Int32) : Option (Int32 × Int32 × (Nat → Int32) × (Nat → Int32)) :=
    chk (0 : Int32) 4 (
    chk (0 : Int32) 4 (
    some ((-14 : Int32), (1 : Int32), (upd t_why (0 : Int32).toNatClampNeg v1), (upd t_more (0 : Int32).toNatClampNeg v2))))
def J_X10_behind (t_whys : Int32) (t_why : Nat → Int32) (t_more : Nat → Int32) (v1 : Int32) (v2 : Int32) : Option (Int32 × Int32 × (Nat → Int32) × (Nat → Int32)) :=
    chk t_whys 4 (
    chk t_whys 4 (
    nm (t_whys + (1 : Int32)) fun x26 =>
    some ((-14 : Int32), x26, (upd t_why t_whys.toNatClampNeg v1), (upd t_more t_whys.toNatClampNeg v2))))
def J_X10_does (v1 : Int32) : Option (Int32 × Int32) :=
    some ((0 : Int32), v1)
def J_X10_ends_b16 (t_answer : Int32) (t_tried : Nat → Int32) (v1 : Int32) (t_undos : Int32) (t_kept : Nat → Int32) (s16_0 : Int32) : Option (Int32 × Int32 × (Nat → Int32)) :=
    some (s16_0, t_undos, t_kept)
def J_X10_ends (t_undos : Int32) (t_answer : Int32) (t_tried : Nat → Int32) (t_kept : Nat → Int32) (v1 : Int32) : Option (Int32 × Int32 × (Nat → Int32)) :=
    if v1 = 0 then (
    bnd3 (J_X10_keeps t_undos t_tried t_kept t_answer) fun x9 t_undos_9 t_kept_9 =>
    J_X10_ends_b16 t_answer t_tried v1 t_undos_9 t_kept_9 x9)
    else (
    J_X10_ends_b16 t_answer t_tried v1 t_undos t_kept v1)
def J_X10_isLantern (t_now : Nat → Int32) (v1 : Int32) : Option (Int32) :=
    chk (0 : Int32) 133 (
    nm (t_now (0 : Int32).toNatClampNeg) fun x7 =>
    nm (x7 - (1 : Int32)) fun x9 =>
    bnd1 (J_X10_in v1 (0 : Int32) x9) fun x10 =>
    chz x10 (some (x10)))
def J_X10_of (t_now : Nat → Int32) (v1 : Int32) (v2 : Int32) : Option (Int32) :=
    nm ((5 : Int32) + ((8 : Int32) * v1)) fun x9 =>
    nm (x9 + v2) fun x11 =>
    chk x11 133 (
    nm (t_now x11.toNatClampNeg) fun x12 =>
    some (x12))
def J_X10_sets (t_now : Nat → Int32) (v1 : Int32) (v2 : Int32) (v3 : Int32) : Option ((Nat → Int32)) :=
    nm ((5 : Int32) + ((8 : Int32) * v1)) fun x9 =>
    nm (x9 + v2) fun x11 =>
    chk x11 133 (
    some ((upd t_now x11.toNatClampNeg v3)))
def J_X10_isSwitch_b14 (t_now : Nat → Int32) (v1 : Int32) (s14_0 : Int32) : Option (Int32) :=
    chz s14_0 (some (s14_0))
def J_X10_isSwitch (t_now : Nat → Int32) (v1 : Int32) : Option (Int32) :=
    bnd1 (J_X10_of t_now v1 (0 : Int32)) fun x3 =>
    if x3 = 0 then (
    J_X10_isSwitch_b14 t_now v1 (1 : Int32))
    else (
    J_X10_isSwitch_b14 t_now v1 (0 : Int32))
def J_X10_places (t_now : Nat → Int32) (v1 : Int32) : Option (Int32) :=
    bnd1 (J_X10_of t_now v1 (0 : Int32)) fun x3 =>
    if x3 = (0 : Int32) then (
    some ((0 : Int32)))
    else (
    if x3 = (1 : Int32) then (
    some ((1 : Int32)))
    else (
    if x3 = (2 : Int32) then (
    some ((3 : Int32)))
    else (
    if x3 = (3 : Int32) then (
    some ((3 : Int32)))
    else (
    if x3 = (4 : Int32) then (
    some ((2 : Int32)))
    else (
    if x3 = (5 : Int32) then (
    some ((3 : Int32)))
    else (
    if x3 = (6 : Int32) then (
    some ((1 : Int32)))
    else (
    some ((3 : Int32)))))))))
def J_X10_wired (t_now : Nat → Int32) (v1 : Int32) (v2 : Int32) : Option (Int32) :=
    nm ((4 : Int32) + v2) fun x4 =>
    bnd1 (J_X10_of t_now v1 x4) fun x5 =>
    some (x5 - (1 : Int32))
def J_X10_wiresTo_b21 (k4 : Int32 → Int32 → Option (Int32)) (t_now : Nat → Int32) (v1 : Int32) (v2 : Int32) (v3 : Int32) : Option (Int32) :=
    nm (v3 + Int32.ofInt 1) fun x21 =>
    k4 v2 x21
def J_X10_wiresTo_L4 (t_now : Nat → Int32) (v1 : Int32) : Nat → Int32 → Int32 → Option (Int32)
  | 0, _, _ => none
  | nf + 1, v2, v3 =>
    if (3 : Int32) ≤ v3 then (
    some (v2))
    else (
    bnd1 (J_X10_wired t_now v1 v3) fun x12 =>
    if x12 < 0 then (
    J_X10_wiresTo_b21 (fun z0 z1 => J_X10_wiresTo_L4 t_now v1 nf z0 z1) t_now v1 v2 v3)
    else (
    nm (v2 + Int32.ofInt 1) fun x18 =>
    J_X10_wiresTo_b21 (fun z0 z1 => J_X10_wiresTo_L4 t_now v1 nf z0 z1) t_now v1 x18 v3))
def J_X10_wiresTo (t_now : Nat → Int32) (v1 : Int32) : Option (Int32) :=
    J_X10_wiresTo_L4 t_now v1 FU (0 : Int32) (0 : Int32)
def J_X10_wiresFrom_b37 (k4 : Int32 → Int32 → Option (Int32)) (k17 : Int32 → Int32 → Int32 → Option (Int32)) (t_now : Nat → Int32) (v1 : Int32) (v2 : Int32) (v3 : Int32) (v4 : Int32) : Option (Int32) :=
    nm (v4 + Int32.ofInt 1) fun x37 =>
    k17 v2 v3 x37
def J_X10_wiresFrom_L17 (k4 : Int32 → Int32 → Option (Int32)) (t_now : Nat → Int32) (v1 : Int32) : Nat → Int32 → Int32 → Int32 → Option (Int32)
  | 0, _, _, _ => none
  | nf + 1, v2, v3, v4 =>
    if (3 : Int32) ≤ v4 then (
    nm (v3 + Int32.ofInt 1) fun x43 =>
    k4 v2 x43)
    else (
    bnd1 (J_X10_wired t_now v3 v4) fun x27 =>
    if x27 = v1 then (
    nm (v2 + Int32.ofInt 1) fun x34 =>
    J_X10_wiresFrom_b37 k4 (fun z0 z1 z2 => J_X10_wiresFrom_L17 k4 t_now v1 nf z0 z1 z2) t_now v1 x34 v3 v4)
    else (
    J_X10_wiresFrom_b37 k4 (fun z0 z1 z2 => J_X10_wiresFrom_L17 k4 t_now v1 nf z0 z1 z2) t_now v1 v2 v3 v4))
def J_X10_wiresFrom_L4 (t_now : Nat → Int32) (v1 : Int32) : Nat → Int32 → Int32 → Option (Int32)
  | 0, _, _ => none
  | nf + 1, v2, v3 =>
    chk (0 : Int32) 133 (
    nm (t_now (0 : Int32).toNatClampNeg) fun x10 =>
    if x10 ≤ v3 then (
    some (v2))
    else (
    J_X10_wiresFrom_L17 (fun z0 z1 => J_X10_wiresFrom_L4 t_now v1 nf z0 z1) t_now v1 FU v2 v3 (0 : Int32)))
def J_X10_wiresFrom (t_now : Nat → Int32) (v1 : Int32) : Option (Int32) :=
    J_X10_wiresFrom_L4 t_now v1 FU (0 : Int32) (0 : Int32)
def J_X10_glowing_L4 (t_now : Nat → Int32) : Nat → Int32 → Int32 → Option (Int32)
  | 0, _, _ => none
  | nf + 1, v1, v2 =>
    chk (0 : Int32) 133 (
    nm (t_now (0 : Int32).toNatClampNeg) fun x10 =>
    if x10 ≤ v2 then (
    some (v1))
    else (
    bnd1 (J_X10_of t_now v2 (2 : Int32)) fun x18 =>
    nm (v1 + x18) fun x21 =>
    nm (v2 + Int32.ofInt 1) fun x23 =>
    J_X10_glowing_L4 t_now nf x21 x23))
def J_X10_glowing (t_now : Nat → Int32) : Option (Int32) :=
    J_X10_glowing_L4 t_now FU (0 : Int32) (0 : Int32)
def J_X10_reaches_b66 (k23 : (Nat → Int32) → Int32 → Option ((Nat → Int32))) (k35 : (Nat → Int32) → Int32 → Int32 → Option ((Nat → Int32))) (t_now : Nat → Int32) (t_reach : Nat → Int32) (v1 : Int32) (v2 : Int32) : Option ((Nat → Int32)) :=
    nm (v2 + Int32.ofInt 1) fun x66 =>
    k35 t_reach v1 x66
def J_X10_reaches_L35 (k23 : (Nat → Int32) → Int32 → Option ((Nat → Int32))) (t_now : Nat → Int32) : Nat → (Nat → Int32) → Int32 → Int32 → Option ((Nat → Int32))
  | 0, _, _, _ => none
  | nf + 1, t_reach, v1, v2 =>
    if (3 : Int32) ≤ v2 then (
    nm (v1 + Int32.ofInt 1) fun x72 =>
    k23 t_reach x72)
    else (
    bnd1 (J_X10_wired t_now v1 v2) fun x43 =>
    if x43 < 0 then (
    J_X10_reaches_b66 k23 (fun z0 z1 z2 => J_X10_reaches_L35 k23 t_now nf z0 z1 z2) t_now t_reach v1 v2)
    else (
    bnd1 (J_X10_wired t_now v1 v2) fun x56 =>
    chk x56 16 (
    nm (t_reach x56.toNatClampNeg) fun x60 =>
    nm (x60 ||| ((1 : Int32) <<< (v1 &&& 31))) fun x64 =>
    chk x56 16 (
    J_X10_reaches_b66 k23 (fun z0 z1 z2 => J_X10_reaches_L35 k23 t_now nf z0 z1 z2) t_now (upd t_reach x56.toNatClampNeg x64) v1 v2))))
def J_X10_reaches_b144 (k80 : (Nat → Int32) → Int32 → Option ((Nat → Int32))) (k88 : (Nat → Int32) → Int32 → Int32 → Option ((Nat → Int32))) (k108 : (Nat → Int32) → Int32 → Int32 → Int32 → Int32 → Option ((Nat → Int32))) (t_now : Nat → Int32) (t_reach : Nat → Int32) (v1 : Int32) (v2 : Int32) (v3 : Int32) (v4 : Int32) : Option ((Nat → Int32)) :=
    nm (v4 + Int32.ofInt 1) fun x144 =>
    k108 t_reach v1 v2 v3 x144
def J_X10_reaches_b166 (k80 : (Nat → Int32) → Int32 → Option ((Nat → Int32))) (k88 : (Nat → Int32) → Int32 → Int32 → Option ((Nat → Int32))) (t_now : Nat → Int32) (t_reach : Nat → Int32) (v2 : Int32) (v3 : Int32) (s166_0 : Int32) (s166_1 : Int32) : Option ((Nat → Int32)) :=
    nm (s166_0 ||| s166_1) fun x166 =>
    chk v2 16 (
    nm (v2 + Int32.ofInt 1) fun x175 =>
    k88 (upd t_reach v2.toNatClampNeg v3) x166 x175)
def J_X10_reaches_L108 (k80 : (Nat → Int32) → Int32 → Option ((Nat → Int32))) (k88 : (Nat → Int32) → Int32 → Int32 → Option ((Nat → Int32))) (t_now : Nat → Int32) : Nat → (Nat → Int32) → Int32 → Int32 → Int32 → Int32 → Option ((Nat → Int32))
  | 0, _, _, _, _, _ => none
  | nf + 1, t_reach, v1, v2, v3, v4 =>
    chk (0 : Int32) 133 (
    nm (t_now (0 : Int32).toNatClampNeg) fun x115 =>
    if x115 ≤ v4 then (
    chk v2 16 (
    nm (t_reach v2.toNatClampNeg) fun x157 =>
    if v3 = x157 then (
    J_X10_reaches_b166 k80 k88 t_now t_reach v2 v3 v1 (0 : Int32))
    else (
    J_X10_reaches_b166 k80 k88 t_now t_reach v2 v3 v1 (1 : Int32))))
    else (
    chk v2 16 (
    nm (t_reach v2.toNatClampNeg) fun x124 =>
    nm (x124 >>> (v4 &&& 31)) fun x127 =>
    nm (x127 &&& (1 : Int32)) fun x129 =>
    if x129 = (1 : Int32) then (
    chk v4 16 (
    nm (t_reach v4.toNatClampNeg) fun x141 =>
    nm (v3 ||| x141) fun x142 =>
    J_X10_reaches_b144 k80 k88 (fun z0 z1 z2 z3 z4 => J_X10_reaches_L108 k80 k88 t_now nf z0 z1 z2 z3 z4) t_now t_reach v1 v2 x142 v4))
    else (
    J_X10_reaches_b144 k80 k88 (fun z0 z1 z2 z3 z4 => J_X10_reaches_L108 k80 k88 t_now nf z0 z1 z2 z3 z4) t_now t_reach v1 v2 v3 v4))))
def J_X10_reaches_L88 (k80 : (Nat → Int32) → Int32 → Option ((Nat → Int32))) (t_now : Nat → Int32) : Nat → (Nat → Int32) → Int32 → Int32 → Option ((Nat → Int32))
  | 0, _, _, _ => none
  | nf + 1, t_reach, v1, v2 =>
    chk (0 : Int32) 133 (
    nm (t_now (0 : Int32).toNatClampNeg) fun x94 =>
    if x94 ≤ v2 then (
    k80 t_reach v1)
    else (
    chk v2 16 (
    nm (t_reach v2.toNatClampNeg) fun x103 =>
    J_X10_reaches_L108 k80 (fun z0 z1 z2 => J_X10_reaches_L88 k80 t_now nf z0 z1 z2) t_now FU t_reach v1 v2 x103 (0 : Int32))))
def J_X10_reaches_L80 (t_now : Nat → Int32) : Nat → (Nat → Int32) → Int32 → Option ((Nat → Int32))
  | 0, _, _ => none
  | nf + 1, t_reach, v1 =>
    if v1 = 0 then (
    some (t_reach))
    else (
    J_X10_reaches_L88 (fun z0 z1 => J_X10_reaches_L80 t_now nf z0 z1) t_now FU t_reach (0 : Int32) (0 : Int32))
def J_X10_reaches_L23 (t_now : Nat → Int32) : Nat → (Nat → Int32) → Int32 → Option ((Nat → Int32))
  | 0, _, _ => none
  | nf + 1, t_reach, v1 =>
    chk (0 : Int32) 133 (
    nm (t_now (0 : Int32).toNatClampNeg) fun x29 =>
    if x29 ≤ v1 then (
    J_X10_reaches_L80 t_now FU t_reach (1 : Int32))
    else (
    J_X10_reaches_L35 (fun z0 z1 => J_X10_reaches_L23 t_now nf z0 z1) t_now FU t_reach v1 (0 : Int32)))
def J_X10_reaches_L2 (t_now : Nat → Int32) : Nat → (Nat → Int32) → Int32 → Option ((Nat → Int32))
  | 0, _, _ => none
  | nf + 1, t_reach, v1 =>
    if (16 : Int32) ≤ v1 then (
    J_X10_reaches_L23 t_now FU t_reach (0 : Int32))
    else (
    chk v1 16 (
    nm (v1 + Int32.ofInt 1) fun x15 =>
    J_X10_reaches_L2 t_now nf (upd t_reach v1.toNatClampNeg (0 : Int32)) x15))
def J_X10_reaches (t_now : Nat → Int32) (t_reach : Nat → Int32) : Option ((Nat → Int32)) :=
    J_X10_reaches_L2 t_now FU t_reach (0 : Int32)
def J_X10_loopSet_b38 (k8 : (Nat → Int32) → Int32 → Int32 → Option (Int32 × (Nat → Int32))) (t_now : Nat → Int32) (t_reach : Nat → Int32) (v1 : Int32) (v2 : Int32) : Option (Int32 × (Nat → Int32)) :=
    nm (v2 + Int32.ofInt 1) fun x38 =>
    k8 t_reach v1 x38
def J_X10_loopSet_L8 (t_now : Nat → Int32) : Nat → (Nat → Int32) → Int32 → Int32 → Option (Int32 × (Nat → Int32))
  | 0, _, _, _ => none
  | nf + 1, t_reach, v1, v2 =>
    chk (0 : Int32) 133 (
    nm (t_now (0 : Int32).toNatClampNeg) fun x14 =>
    if x14 ≤ v2 then (
    some (v1, t_reach))
    else (
    chk v2 16 (
    nm (t_reach v2.toNatClampNeg) fun x23 =>
    nm (x23 >>> (v2 &&& 31)) fun x25 =>
    nm (x25 &&& (1 : Int32)) fun x27 =>
    if x27 = (1 : Int32) then (
    nm (v1 ||| ((1 : Int32) <<< (v2 &&& 31))) fun x36 =>
    J_X10_loopSet_b38 (fun z0 z1 z2 => J_X10_loopSet_L8 t_now nf z0 z1 z2) t_now t_reach x36 v2)
    else (
    J_X10_loopSet_b38 (fun z0 z1 z2 => J_X10_loopSet_L8 t_now nf z0 z1 z2) t_now t_reach v1 v2))))
def J_X10_loopSet (t_now : Nat → Int32) (t_reach : Nat → Int32) : Option (Int32 × (Nat → Int32)) :=
    bnd1 (J_X10_reaches t_now t_reach) fun t_reach_1 =>
    J_X10_loopSet_L8 t_now FU t_reach_1 (0 : Int32) (0 : Int32)
def J_X10_way_b23 (k2 : (Nat → Int32) → Int32 → Option (Int32 × (Nat → Int32))) (t_now : Nat → Int32) (v1 : Int32) (v2 : Int32) (t_steps : Nat → Int32) (v3 : Int32) (s23_1 : Int32) (s23_2 : Int32) : Option (Int32 × (Nat → Int32)) :=
    chk s23_1 16 (
    nm (v3 + Int32.ofInt 1) fun x24 =>
    k2 (upd t_steps s23_1.toNatClampNeg s23_2) x24)
def J_X10_way_b109 (k32 : (Nat → Int32) → Int32 → Option (Int32 × (Nat → Int32))) (k41 : (Nat → Int32) → Int32 → Int32 → Option (Int32 × (Nat → Int32))) (k55 : (Nat → Int32) → Int32 → Int32 → Int32 → Option (Int32 × (Nat → Int32))) (t_now : Nat → Int32) (v1 : Int32) (v2 : Int32) (t_steps : Nat → Int32) (v3 : Int32) (v4 : Int32) (v5 : Int32) : Option (Int32 × (Nat → Int32)) :=
    nm (v5 + Int32.ofInt 1) fun x109 =>
    k55 t_steps v3 v4 x109
def J_X10_way_b115 (k32 : (Nat → Int32) → Int32 → Option (Int32 × (Nat → Int32))) (k41 : (Nat → Int32) → Int32 → Int32 → Option (Int32 × (Nat → Int32))) (t_now : Nat → Int32) (v1 : Int32) (v2 : Int32) (t_steps : Nat → Int32) (v3 : Int32) (v4 : Int32) : Option (Int32 × (Nat → Int32)) :=
    nm (v4 + Int32.ofInt 1) fun x115 =>
    k41 t_steps v3 x115
def J_X10_way_L55 (k32 : (Nat → Int32) → Int32 → Option (Int32 × (Nat → Int32))) (k41 : (Nat → Int32) → Int32 → Int32 → Option (Int32 × (Nat → Int32))) (t_now : Nat → Int32) (v1 : Int32) (v2 : Int32) : Nat → (Nat → Int32) → Int32 → Int32 → Int32 → Option (Int32 × (Nat → Int32))
  | 0, _, _, _, _ => none
  | nf + 1, t_steps, v3, v4, v5 =>
    if (3 : Int32) ≤ v5 then (
    J_X10_way_b115 k32 k41 t_now v1 v2 t_steps v3 v4)
    else (
    chk v4 16 (
    nm (t_steps v4.toNatClampNeg) fun x67 =>
    if 0 ≤ x67 then (
    J_X10_way_b115 k32 k41 t_now v1 v2 t_steps v3 v4)
    else (
    bnd1 (J_X10_wired t_now v4 v5) fun x76 =>
    if x76 < 0 then (
    J_X10_way_b109 k32 k41 (fun z0 z1 z2 z3 => J_X10_way_L55 k32 k41 t_now v1 v2 nf z0 z1 z2 z3) t_now v1 v2 t_steps v3 v4 v5)
    else (
    bnd1 (J_X10_wired t_now v4 v5) fun x91 =>
    chk x91 16 (
    nm (t_steps x91.toNatClampNeg) fun x94 =>
    if x94 = (v3 - (1 : Int32)) then (
    chk v4 16 (
    J_X10_way_b109 k32 k41 (fun z0 z1 z2 z3 => J_X10_way_L55 k32 k41 t_now v1 v2 nf z0 z1 z2 z3) t_now v1 v2 (upd t_steps v4.toNatClampNeg v3) v3 v4 v5))
    else (
    J_X10_way_b109 k32 k41 (fun z0 z1 z2 z3 => J_X10_way_L55 k32 k41 t_now v1 v2 nf z0 z1 z2 z3) t_now v1 v2 t_steps v3 v4 v5))))))
def J_X10_way_L41 (k32 : (Nat → Int32) → Int32 → Option (Int32 × (Nat → Int32))) (t_now : Nat → Int32) (v1 : Int32) (v2 : Int32) : Nat → (Nat → Int32) → Int32 → Int32 → Option (Int32 × (Nat → Int32))
  | 0, _, _, _ => none
  | nf + 1, t_steps, v3, v4 =>
    chk (0 : Int32) 133 (
    nm (t_now (0 : Int32).toNatClampNeg) fun x48 =>
    if x48 ≤ v4 then (
    nm (v3 + Int32.ofInt 1) fun x121 =>
    k32 t_steps x121)
    else (
    J_X10_way_L55 k32 (fun z0 z1 z2 => J_X10_way_L41 k32 t_now v1 v2 nf z0 z1 z2) t_now v1 v2 FU t_steps v3 v4 (0 : Int32)))
def J_X10_way_L32 (t_now : Nat → Int32) (v1 : Int32) (v2 : Int32) : Nat → (Nat → Int32) → Int32 → Option (Int32 × (Nat → Int32))
  | 0, _, _ => none
  | nf + 1, t_steps, v3 =>
    if (16 : Int32) < v3 then (
    chk v2 16 (
    nm (t_steps v2.toNatClampNeg) fun x132 =>
    some (x132, t_steps)))
    else (
    J_X10_way_L41 (fun z0 z1 => J_X10_way_L32 t_now v1 v2 nf z0 z1) t_now v1 v2 FU t_steps v3 (0 : Int32))
def J_X10_way_L2 (t_now : Nat → Int32) (v1 : Int32) (v2 : Int32) : Nat → (Nat → Int32) → Int32 → Option (Int32 × (Nat → Int32))
  | 0, _, _ => none
  | nf + 1, t_steps, v3 =>
    if (16 : Int32) ≤ v3 then (
    J_X10_way_L32 t_now v1 v2 FU t_steps (1 : Int32))
    else (
    if v3 = v1 then (
    J_X10_way_b23 (fun z0 z1 => J_X10_way_L2 t_now v1 v2 nf z0 z1) t_now v1 v2 t_steps v3 v3 (0 : Int32))
    else (
    J_X10_way_b23 (fun z0 z1 => J_X10_way_L2 t_now v1 v2 nf z0 z1) t_now v1 v2 t_steps v3 v3 (-1 : Int32)))
def J_X10_way (t_now : Nat → Int32) (t_steps : Nat → Int32) (v1 : Int32) (v2 : Int32) : Option (Int32 × (Nat → Int32)) :=
    J_X10_way_L2 t_now v1 v2 FU t_steps (0 : Int32)
def J_X10_hangs_b19 (v1 : Int32) (v2 : Int32) (t_whys : Int32) (t_answer : Int32) (t_now : Nat → Int32) (t_why : Nat → Int32) (t_more : Nat → Int32) : Option (Int32 × Int32 × Int32 × (Nat → Int32) × (Nat → Int32) × (Nat → Int32)) :=
    some ((-12 : Int32), t_whys, t_answer, t_now, t_why, t_more)
def J_X10_hangs_L56 (v1 : Int32) (v2 : Int32) : Nat → Int32 → Int32 → (Nat → Int32) → (Nat → Int32) → (Nat → Int32) → Int32 → Int32 → Option (Int32 × Int32 × Int32 × (Nat → Int32) × (Nat → Int32) × (Nat → Int32))
  | 0, _, _, _, _, _, _, _ => none
  | nf + 1, t_whys, t_answer, t_now, t_why, t_more, v3, v4 =>
    if (8 : Int32) ≤ v4 then (
    bnd1 (J_X10_sets t_now v3 (0 : Int32) v1) fun t_now_81 =>
    bnd1 (J_X10_sets t_now_81 v3 (1 : Int32) v2) fun t_now_88 =>
    bnd2 (J_X10_does v3) fun x93 t_answer_93 =>
    some (x93, t_whys, t_answer_93, t_now_88, t_why, t_more))
    else (
    bnd1 (J_X10_sets t_now v3 v4 (0 : Int32)) fun t_now_68 =>
    nm (v4 + Int32.ofInt 1) fun x71 =>
    J_X10_hangs_L56 v1 v2 nf t_whys t_answer t_now_68 t_why t_more v3 x71)
def J_X10_hangs (t_whys : Int32) (t_answer : Int32) (t_now : Nat → Int32) (t_why : Nat → Int32) (t_more : Nat → Int32) (v1 : Int32) (v2 : Int32) : Option (Int32 × Int32 × Int32 × (Nat → Int32) × (Nat → Int32) × (Nat → Int32)) :=
    bnd1 (J_X10_in v1 (0 : Int32) (6 : Int32)) fun x4 =>
    if x4 = 0 then (
    J_X10_hangs_b19 v1 v2 t_whys t_answer t_now t_why t_more)
    else (
    bnd1 (J_X10_in v2 (1 : Int32) (4 : Int32)) fun x13 =>
    if x13 = 0 then (
    J_X10_hangs_b19 v1 v2 t_whys t_answer t_now t_why t_more)
    else (
    chk (0 : Int32) 133 (
    nm (t_now (0 : Int32).toNatClampNeg) fun x27 =>
    if x27 = (16 : Int32) then (
    bnd4 (J_X10_refuses t_why t_more (1 : Int32) (16 : Int32)) fun x39 t_whys_39 t_why_39 t_more_39 =>
    some (x39, t_whys_39, t_answer, t_now, t_why_39, t_more_39))
    else (
    chk (0 : Int32) 133 (
    nm (t_now (0 : Int32).toNatClampNeg) fun x49 =>
    nm (x49 + (1 : Int32)) fun x51 =>
    chk (0 : Int32) 133 (
    J_X10_hangs_L56 v1 v2 FU t_whys t_answer (upd t_now (0 : Int32).toNatClampNeg x51) t_why t_more x27 (0 : Int32)))))))
def J_X10_hang (t_undos : Int32) (t_whys : Int32) (t_answer : Int32) (t_now : Nat → Int32) (t_tried : Nat → Int32) (t_kept : Nat → Int32) (t_why : Nat → Int32) (t_more : Nat → Int32) (v1 : Int32) (v2 : Int32) : Option (Int32 × Int32 × Int32 × Int32 × (Nat → Int32) × (Nat → Int32) × (Nat → Int32) × (Nat → Int32) × (Nat → Int32)) :=
    bnd1 (J_X10_tries t_now t_tried) fun t_tried_1 =>
    bnd6 (J_X10_hangs t_whys t_answer t_now t_why t_more v1 v2) fun x8 t_whys_8 t_answer_8 t_now_8 t_why_8 t_more_8 =>
    bnd3 (J_X10_ends t_undos t_answer_8 t_tried_1 t_kept x8) fun x11 t_undos_11 t_kept_11 =>
    some (x11, t_undos_11, t_whys_8, t_answer_8, t_now_8, t_tried_1, t_kept_11, t_why_8, t_more_8)
def J_X10_wires_b16 (v1 : Int32) (v2 : Int32) (v3 : Int32) (t_whys : Int32) (t_answer : Int32) (t_now : Nat → Int32) (t_steps : Nat → Int32) (t_why : Nat → Int32) (t_more : Nat → Int32) : Option (Int32 × Int32 × Int32 × (Nat → Int32) × (Nat → Int32) × (Nat → Int32) × (Nat → Int32)) :=
    some ((-11 : Int32), t_whys, t_answer, t_now, t_steps, t_why, t_more)
def J_X10_wires_b129 (v1 : Int32) (v2 : Int32) (v3 : Int32) (t_whys : Int32) (t_answer : Int32) (t_now : Nat → Int32) (t_steps : Nat → Int32) (t_why : Nat → Int32) (t_more : Nat → Int32) : Option (Int32 × Int32 × Int32 × (Nat → Int32) × (Nat → Int32) × (Nat → Int32) × (Nat → Int32)) :=
    nm ((4 : Int32) + v2) fun x133 =>
    nm (v3 + (1 : Int32)) fun x136 =>
    bnd1 (J_X10_sets t_now v1 x133 x136) fun t_now_137 =>
    bnd1 (J_X10_wiresTo t_now_137 v1) fun x143 =>
    bnd2 (J_X10_does x143) fun x146 t_answer_146 =>
    some (x146, t_whys, t_answer_146, t_now_137, t_steps, t_why, t_more)
def J_X10_wires (t_whys : Int32) (t_answer : Int32) (t_now : Nat → Int32) (t_steps : Nat → Int32) (t_why : Nat → Int32) (t_more : Nat → Int32) (v1 : Int32) (v2 : Int32) (v3 : Int32) : Option (Int32 × Int32 × Int32 × (Nat → Int32) × (Nat → Int32) × (Nat → Int32) × (Nat → Int32)) :=
    bnd1 (J_X10_isLantern t_now v1) fun x2 =>
    if x2 = 0 then (
    J_X10_wires_b16 v1 v2 v3 t_whys t_answer t_now t_steps t_why t_more)
    else (
    bnd1 (J_X10_isLantern t_now v3) fun x10 =>
    if x10 = 0 then (
    J_X10_wires_b16 v1 v2 v3 t_whys t_answer t_now t_steps t_why t_more)
    else (
    bnd1 (J_X10_in v2 (0 : Int32) (2 : Int32)) fun x22 =>
    if x22 = 0 then (
    some ((-12 : Int32), t_whys, t_answer, t_now, t_steps, t_why, t_more))
    else (
    bnd1 (J_X10_isSwitch t_now v1) fun x33 =>
    if x33 = 0 then (
    bnd1 (J_X10_places t_now v1) fun x49 =>
    if v2 < x49 then (
    bnd1 (J_X10_wired t_now v1 v2) fun x69 =>
    if x69 < 0 then (
    bnd2 (J_X10_way t_now t_steps v1 v3) fun x90 t_steps_90 =>
    chk (1 : Int32) 133 (
    nm (t_now (1 : Int32).toNatClampNeg) fun x100 =>
    if x100 = 0 then (
    if x90 < 0 then (
    J_X10_wires_b129 v1 v2 v3 t_whys t_answer t_now t_steps_90 t_why t_more)
    else (
    bnd4 (J_X10_refuses t_why t_more (8 : Int32) v3) fun x113 t_whys_113 t_why_113 t_more_113 =>
    nm (x90 + (1 : Int32)) fun x124 =>
    bnd4 (J_X10_behind t_whys_113 t_why_113 t_more_113 (11 : Int32) x124) fun x125 t_whys_125 t_why_125 t_more_125 =>
    some (x125, t_whys_125, t_answer, t_now, t_steps_90, t_why_125, t_more_125)))
    else (
    J_X10_wires_b129 v1 v2 v3 t_whys t_answer t_now t_steps_90 t_why t_more)))
    else (
    bnd1 (J_X10_wired t_now v1 v2) fun x80 =>
    bnd4 (J_X10_refuses t_why t_more (4 : Int32) x80) fun x83 t_whys_83 t_why_83 t_more_83 =>
    some (x83, t_whys_83, t_answer, t_now, t_steps, t_why_83, t_more_83)))
    else (
    bnd1 (J_X10_places t_now v1) fun x59 =>
    bnd4 (J_X10_refuses t_why t_more (3 : Int32) x59) fun x62 t_whys_62 t_why_62 t_more_62 =>
    some (x62, t_whys_62, t_answer, t_now, t_steps, t_why_62, t_more_62)))
    else (
    bnd4 (J_X10_refuses t_why t_more (2 : Int32) v1) fun x42 t_whys_42 t_why_42 t_more_42 =>
    some (x42, t_whys_42, t_answer, t_now, t_steps, t_why_42, t_more_42)))))
def J_X10_wire (t_undos : Int32) (t_whys : Int32) (t_answer : Int32) (t_now : Nat → Int32) (t_tried : Nat → Int32) (t_kept : Nat → Int32) (t_steps : Nat → Int32) (t_why : Nat → Int32) (t_more : Nat → Int32) (v1 : Int32) (v2 : Int32) (v3 : Int32) : Option (Int32 × Int32 × Int32 × Int32 × (Nat → Int32) × (Nat → Int32) × (Nat → Int32) × (Nat → Int32) × (Nat → Int32) × (Nat → Int32)) :=
    bnd1 (J_X10_tries t_now t_tried) fun t_tried_1 =>
    bnd7 (J_X10_wires t_whys t_answer t_now t_steps t_why t_more v1 v2 v3) fun x9 t_whys_9 t_answer_9 t_now_9 t_steps_9 t_why_9 t_more_9 =>
    bnd3 (J_X10_ends t_undos t_answer_9 t_tried_1 t_kept x9) fun x12 t_undos_12 t_kept_12 =>
    some (x12, t_undos_12, t_whys_9, t_answer_9, t_now_9, t_tried_1, t_kept_12, t_steps_9, t_why_9, t_more_9)
def J_X10_cuts (t_whys : Int32) (t_answer : Int32) (t_now : Nat → Int32) (t_why : Nat → Int32) (t_more : Nat → Int32) (v1 : Int32) (v2 : Int32) : Option (Int32 × Int32 × Int32 × (Nat → Int32) × (Nat → Int32) × (Nat → Int32)) :=
    bnd1 (J_X10_isLantern t_now v1) fun x2 =>
    if x2 = 0 then (
    some ((-11 : Int32), t_whys, t_answer, t_now, t_why, t_more))
    else (
    bnd1 (J_X10_in v2 (0 : Int32) (2 : Int32)) fun x14 =>
    if x14 = 0 then (
    some ((-12 : Int32), t_whys, t_answer, t_now, t_why, t_more))
    else (
    bnd1 (J_X10_isSwitch t_now v1) fun x25 =>
    if x25 = 0 then (
    bnd1 (J_X10_places t_now v1) fun x41 =>
    if v2 < x41 then (
    bnd1 (J_X10_wired t_now v1 v2) fun x61 =>
    if 0 ≤ x61 then (
    nm ((4 : Int32) + v2) fun x80 =>
    bnd1 (J_X10_sets t_now v1 x80 (0 : Int32)) fun t_now_82 =>
    bnd2 (J_X10_does x61) fun x87 t_answer_87 =>
    some (x87, t_whys, t_answer_87, t_now_82, t_why, t_more))
    else (
    bnd4 (J_X10_refuses t_why t_more (5 : Int32) v2) fun x72 t_whys_72 t_why_72 t_more_72 =>
    some (x72, t_whys_72, t_answer, t_now, t_why_72, t_more_72)))
    else (
    bnd1 (J_X10_places t_now v1) fun x51 =>
    bnd4 (J_X10_refuses t_why t_more (3 : Int32) x51) fun x54 t_whys_54 t_why_54 t_more_54 =>
    some (x54, t_whys_54, t_answer, t_now, t_why_54, t_more_54)))
    else (
    bnd4 (J_X10_refuses t_why t_more (2 : Int32) v1) fun x34 t_whys_34 t_why_34 t_more_34 =>
    some (x34, t_whys_34, t_answer, t_now, t_why_34, t_more_34))))
def J_X10_cut (t_undos : Int32) (t_whys : Int32) (t_answer : Int32) (t_now : Nat → Int32) (t_tried : Nat → Int32) (t_kept : Nat → Int32) (t_why : Nat → Int32) (t_more : Nat → Int32) (v1 : Int32) (v2 : Int32) : Option (Int32 × Int32 × Int32 × Int32 × (Nat → Int32) × (Nat → Int32) × (Nat → Int32) × (Nat → Int32) × (Nat → Int32)) :=
    bnd1 (J_X10_tries t_now t_tried) fun t_tried_1 =>
    bnd6 (J_X10_cuts t_whys t_answer t_now t_why t_more v1 v2) fun x8 t_whys_8 t_answer_8 t_now_8 t_why_8 t_more_8 =>
    bnd3 (J_X10_ends t_undos t_answer_8 t_tried_1 t_kept x8) fun x11 t_undos_11 t_kept_11 =>
    some (x11, t_undos_11, t_whys_8, t_answer_8, t_now_8, t_tried_1, t_kept_11, t_why_8, t_more_8)
def J_X10_switches (t_whys : Int32) (t_answer : Int32) (t_now : Nat → Int32) (t_why : Nat → Int32) (t_more : Nat → Int32) (v1 : Int32) (v2 : Int32) : Option (Int32 × Int32 × Int32 × (Nat → Int32) × (Nat → Int32) × (Nat → Int32)) :=
    bnd1 (J_X10_isLantern t_now v1) fun x2 =>
    if x2 = 0 then (
    some ((-11 : Int32), t_whys, t_answer, t_now, t_why, t_more))
    else (
    bnd1 (J_X10_isSwitch t_now v1) fun x13 =>
    if x13 = 0 then (
    bnd1 (J_X10_of t_now v1 (0 : Int32)) fun x25 =>
    bnd4 (J_X10_refuses t_why t_more (6 : Int32) x25) fun x28 t_whys_28 t_why_28 t_more_28 =>
    some (x28, t_whys_28, t_answer, t_now, t_why_28, t_more_28))
    else (
    bnd1 (J_X10_of t_now v1 (2 : Int32)) fun x35 =>
    if x35 = v2 then (
    bnd4 (J_X10_refuses t_why t_more (7 : Int32) v1) fun x46 t_whys_46 t_why_46 t_more_46 =>
    some (x46, t_whys_46, t_answer, t_now, t_why_46, t_more_46))
    else (
    bnd1 (J_X10_sets t_now v1 (2 : Int32) v2) fun t_now_54 =>
    bnd1 (J_X10_of t_now_54 v1 (3 : Int32)) fun x63 =>
    nm (x63 + (1 : Int32)) fun x67 =>
    bnd1 (J_X10_sets t_now_54 v1 (3 : Int32) x67) fun t_now_68 =>
    chk (4 : Int32) 133 (
    nm (t_now_68 (4 : Int32).toNatClampNeg) fun x77 =>
    nm (x77 + (1 : Int32)) fun x79 =>
    chk (4 : Int32) 133 (
    bnd1 (J_X10_glowing (upd t_now_68 (4 : Int32).toNatClampNeg x79)) fun x83 =>
    bnd2 (J_X10_does x83) fun x86 t_answer_86 =>
    some (x86, t_whys, t_answer_86, (upd t_now_68 (4 : Int32).toNatClampNeg x79), t_why, t_more))))))
def J_X10_set_b16 (v1 : Int32) (v2 : Int32) (t_undos : Int32) (t_whys : Int32) (t_answer : Int32) (t_now : Nat → Int32) (t_tried : Nat → Int32) (t_kept : Nat → Int32) (t_why : Nat → Int32) (t_more : Nat → Int32) (s16_2 : Int32) (s16_3 : Int32) : Option (Int32 × Int32 × Int32 × Int32 × (Nat → Int32) × (Nat → Int32) × (Nat → Int32) × (Nat → Int32) × (Nat → Int32)) :=
    bnd6 (J_X10_switches t_whys t_answer t_now t_why t_more s16_2 s16_3) fun x16 t_whys_16 t_answer_16 t_now_16 t_why_16 t_more_16 =>
    bnd3 (J_X10_ends t_undos t_answer_16 t_tried t_kept x16) fun x19 t_undos_19 t_kept_19 =>
    some (x19, t_undos_19, t_whys_16, t_answer_16, t_now_16, t_tried, t_kept_19, t_why_16, t_more_16)
def J_X10_set (t_undos : Int32) (t_whys : Int32) (t_answer : Int32) (t_now : Nat → Int32) (t_tried : Nat → Int32) (t_kept : Nat → Int32) (t_why : Nat → Int32) (t_more : Nat → Int32) (v1 : Int32) (v2 : Int32) : Option (Int32 × Int32 × Int32 × Int32 × (Nat → Int32) × (Nat → Int32) × (Nat → Int32) × (Nat → Int32) × (Nat → Int32)) :=
    bnd1 (J_X10_tries t_now t_tried) fun t_tried_1 =>
    if v2 = 0 then (
    J_X10_set_b16 v1 v2 t_undos t_whys t_answer t_now t_tried_1 t_kept t_why t_more v1 (0 : Int32))
    else (
    J_X10_set_b16 v1 v2 t_undos t_whys t_answer t_now t_tried_1 t_kept t_why t_more v1 (1 : Int32))
def J_X10_found_b77 (v0 : Int32) (v1 : Int32) (v2 : Int32) (s77_0 : Int32) : Option (Int32) :=
    some (s77_0)
def J_X10_found_b87 (v0 : Int32) (v1 : Int32) (v2 : Int32) (s87_0 : Int32) : Option (Int32) :=
    some (s87_0)
def J_X10_found_b60 (v0 : Int32) (v1 : Int32) (v2 : Int32) (s60_0 : Int32) : Option (Int32) :=
    some (s60_0)
def J_X10_found_b49 (v0 : Int32) (v1 : Int32) (v2 : Int32) (s49_0 : Int32) : Option (Int32) :=
    some (s49_0)
def J_X10_found (v0 : Int32) (v1 : Int32) (v2 : Int32) : Option (Int32) :=
    if v2 = 0 then (
    some ((0 : Int32)))
    else (
    if v0 = (1 : Int32) then (
    if v1 = 0 then (
    J_X10_found_b49 v0 v1 v2 (1 : Int32))
    else (
    J_X10_found_b49 v0 v1 v2 (0 : Int32)))
    else (
    if v0 = (2 : Int32) then (
    if v1 = v2 then (
    J_X10_found_b60 v0 v1 v2 (1 : Int32))
    else (
    J_X10_found_b60 v0 v1 v2 (0 : Int32)))
    else (
    if v0 = (3 : Int32) then (
    if v1 ≤ 0 then (
    J_X10_found_b87 v0 v1 v2 (0 : Int32))
    else (
    J_X10_found_b87 v0 v1 v2 (1 : Int32)))
    else (
    if v0 = (4 : Int32) then (
    chn (2 : Int32) (
    some (v1 - v1 / (2 : Int32) * (2 : Int32))))
    else (
    if v0 = (5 : Int32) then (
    nm ((2 : Int32) * v1) fun x67 =>
    if x67 ≤ v2 then (
    J_X10_found_b77 v0 v1 v2 (0 : Int32))
    else (
    J_X10_found_b77 v0 v1 v2 (1 : Int32)))
    else (
    if v1 ≤ 0 then (
    J_X10_found_b87 v0 v1 v2 (0 : Int32))
    else (
    J_X10_found_b87 v0 v1 v2 (1 : Int32))))))))
def J_X10_findsNow_b42 (k14 : Int32 → Int32 → Option (Int32)) (t_now : Nat → Int32) (v1 : Int32) (v2 : Int32) (v3 : Int32) : Option (Int32) :=
    nm (v3 + Int32.ofInt 1) fun x42 =>
    k14 v2 x42
def J_X10_findsNow_L14 (t_now : Nat → Int32) (v1 : Int32) : Nat → Int32 → Int32 → Option (Int32)
  | 0, _, _ => none
  | nf + 1, v2, v3 =>
    if (3 : Int32) ≤ v3 then (
    bnd1 (J_X10_of t_now v1 (0 : Int32)) fun x51 =>
    bnd1 (J_X10_wiresTo t_now v1) fun x57 =>
    bnd1 (J_X10_found x51 v2 x57) fun x60 =>
    some (x60))
    else (
    bnd1 (J_X10_wired t_now v1 v3) fun x22 =>
    if x22 < 0 then (
    J_X10_findsNow_b42 (fun z0 z1 => J_X10_findsNow_L14 t_now v1 nf z0 z1) t_now v1 v2 v3)
    else (
    bnd1 (J_X10_wired t_now v1 v3) fun x33 =>
    bnd1 (J_X10_of t_now x33 (2 : Int32)) fun x37 =>
    nm (v2 + x37) fun x40 =>
    J_X10_findsNow_b42 (fun z0 z1 => J_X10_findsNow_L14 t_now v1 nf z0 z1) t_now v1 x40 v3))
def J_X10_findsNow (t_now : Nat → Int32) (v1 : Int32) : Option (Int32) :=
    bnd1 (J_X10_isSwitch t_now v1) fun x2 =>
    if x2 = 0 then (
    J_X10_findsNow_L14 t_now v1 FU (0 : Int32) (0 : Int32))
    else (
    some ((0 : Int32)))
def J_X10_allFind_L2 (t_now : Nat → Int32) : Nat → (Nat → Int32) → Int32 → Option ((Nat → Int32))
  | 0, _, _ => none
  | nf + 1, t_finds, v1 =>
    chk (0 : Int32) 133 (
    nm (t_now (0 : Int32).toNatClampNeg) fun x8 =>
    if x8 ≤ v1 then (
    some (t_finds))
    else (
    bnd1 (J_X10_findsNow t_now v1) fun x19 =>
    chk v1 16 (
    nm (v1 + Int32.ofInt 1) fun x23 =>
    J_X10_allFind_L2 t_now nf (upd t_finds v1.toNatClampNeg x19) x23)))
def J_X10_allFind (t_now : Nat → Int32) (t_finds : Nat → Int32) : Option ((Nat → Int32)) :=
    J_X10_allFind_L2 t_now FU t_finds (0 : Int32)
def J_X10_glowBehind_b28 (t_now : Nat → Int32) (t_finds : Nat → Int32) (v1 : Int32) (s28_0 : Int32) : Option (Int32) :=
    some (s28_0)
def J_X10_glowBehind (t_now : Nat → Int32) (t_finds : Nat → Int32) (v1 : Int32) : Option (Int32) :=
    bnd1 (J_X10_of t_now v1 (1 : Int32)) fun x3 =>
    if x3 = (1 : Int32) then (
    chk v1 16 (
    nm (t_finds v1.toNatClampNeg) fun x15 =>
    J_X10_glowBehind_b28 t_now t_finds v1 x15))
    else (
    bnd1 (J_X10_of t_now v1 (7 : Int32)) fun x23 =>
    nm (x23 &&& (1 : Int32)) fun x27 =>
    J_X10_glowBehind_b28 t_now t_finds v1 x27)
def J_X10_foundBehind_b36 (t_now : Nat → Int32) (t_finds : Nat → Int32) (v1 : Int32) (s36_0 : Int32) : Option (Int32) :=
    some (s36_0)
def J_X10_foundBehind (t_now : Nat → Int32) (t_finds : Nat → Int32) (v1 : Int32) : Option (Int32) :=
    bnd1 (J_X10_of t_now v1 (1 : Int32)) fun x3 =>
    if x3 = (1 : Int32) then (
    J_X10_foundBehind_b36 t_now t_finds v1 (0 : Int32))
    else (
    bnd1 (J_X10_of t_now v1 (7 : Int32)) fun x20 =>
    nm (x20 >>> ((1 : Int32) &&& 31)) fun x24 =>
    chk v1 16 (
    nm (t_finds v1.toNatClampNeg) fun x30 =>
    nm (x24 ||| (x30 <<< ((x3 - (2 : Int32)) &&& 31))) fun x35 =>
    J_X10_foundBehind_b36 t_now t_finds v1 x35))
def J_X10_isSettled_b53 (t_now : Nat → Int32) (t_finds : Nat → Int32) : Option (Int32 × (Nat → Int32)) :=
    chz (0 : Int32) (some ((0 : Int32), t_finds))
def J_X10_isSettled_b55 (k6 : (Nat → Int32) → Int32 → Option (Int32 × (Nat → Int32))) (t_now : Nat → Int32) (t_finds : Nat → Int32) (v1 : Int32) : Option (Int32 × (Nat → Int32)) :=
    nm (v1 + Int32.ofInt 1) fun x55 =>
    k6 t_finds x55
def J_X10_isSettled_L6 (t_now : Nat → Int32) : Nat → (Nat → Int32) → Int32 → Option (Int32 × (Nat → Int32))
  | 0, _, _ => none
  | nf + 1, t_finds, v1 =>
    chk (0 : Int32) 133 (
    nm (t_now (0 : Int32).toNatClampNeg) fun x12 =>
    if x12 ≤ v1 then (
    chz (1 : Int32) (some ((1 : Int32), t_finds)))
    else (
    bnd1 (J_X10_isSwitch t_now v1) fun x18 =>
    if x18 = 0 then (
    bnd1 (J_X10_glowBehind t_now t_finds v1) fun x26 =>
    bnd1 (J_X10_of t_now v1 (2 : Int32)) fun x32 =>
    if x26 = x32 then (
    bnd1 (J_X10_foundBehind t_now t_finds v1) fun x40 =>
    bnd1 (J_X10_of t_now v1 (7 : Int32)) fun x47 =>
    if x40 = x47 then (
    J_X10_isSettled_b55 (fun z0 z1 => J_X10_isSettled_L6 t_now nf z0 z1) t_now t_finds v1)
    else (
    J_X10_isSettled_b53 t_now t_finds))
    else (
    J_X10_isSettled_b53 t_now t_finds))
    else (
    J_X10_isSettled_b55 (fun z0 z1 => J_X10_isSettled_L6 t_now nf z0 z1) t_now t_finds v1)))
def J_X10_isSettled (t_now : Nat → Int32) (t_finds : Nat → Int32) : Option (Int32 × (Nat → Int32)) :=
    bnd1 (J_X10_allFind t_now t_finds) fun t_finds_1 =>
    J_X10_isSettled_L6 t_now FU t_finds_1 (0 : Int32)
def J_X10_goes_b85 (k8 : (Nat → Int32) → (Nat → Int32) → Int32 → Int32 → Option (Int32 × (Nat → Int32) × (Nat → Int32))) (t_now : Nat → Int32) (t_finds : Nat → Int32) (v1 : Int32) (v2 : Int32) : Option (Int32 × (Nat → Int32) × (Nat → Int32)) :=
    nm (v2 + Int32.ofInt 1) fun x85 =>
    k8 t_now t_finds v1 x85
def J_X10_goes_b69 (k8 : (Nat → Int32) → (Nat → Int32) → Int32 → Int32 → Option (Int32 × (Nat → Int32) × (Nat → Int32))) (t_now : Nat → Int32) (t_finds : Nat → Int32) (v1 : Int32) (v2 : Int32) (v3 : Int32) (v4 : Int32) : Option (Int32 × (Nat → Int32) × (Nat → Int32)) :=
    bnd1 (J_X10_sets t_now v2 (2 : Int32) v3) fun t_now_73 =>
    bnd1 (J_X10_sets t_now_73 v2 (7 : Int32) v4) fun t_now_82 =>
    J_X10_goes_b85 k8  t_now_82 t_finds v1 v2
def J_X10_goes_L8  : Nat → (Nat → Int32) → (Nat → Int32) → Int32 → Int32 → Option (Int32 × (Nat → Int32) × (Nat → Int32))
  | 0, _, _, _, _ => none
  | nf + 1, t_now, t_finds, v1, v2 =>
    chk (0 : Int32) 133 (
    nm (t_now (0 : Int32).toNatClampNeg) fun x14 =>
    if x14 ≤ v2 then (
    chk (2 : Int32) 133 (
    nm (t_now (2 : Int32).toNatClampNeg) fun x97 =>
    nm (x97 + (1 : Int32)) fun x99 =>
    chk (2 : Int32) 133 (
    chk (3 : Int32) 133 (
    nm ((upd t_now (2 : Int32).toNatClampNeg x99) (3 : Int32).toNatClampNeg) fun x107 =>
    nm (x107 + v1) fun x109 =>
    chk (3 : Int32) 133 (
    some (v1, (upd (upd t_now (2 : Int32).toNatClampNeg x99) (3 : Int32).toNatClampNeg x109), t_finds))))))
    else (
    bnd1 (J_X10_isSwitch t_now v2) fun x20 =>
    if x20 = 0 then (
    bnd1 (J_X10_glowBehind t_now t_finds v2) fun x31 =>
    bnd1 (J_X10_foundBehind t_now t_finds v2) fun x37 =>
    bnd1 (J_X10_of t_now v2 (2 : Int32)) fun x46 =>
    if x31 = x46 then (
    J_X10_goes_b69 (fun z0 z1 z2 z3 => J_X10_goes_L8  nf z0 z1 z2 z3)  t_now t_finds v1 v2 x31 x37)
    else (
    nm (v1 + Int32.ofInt 1) fun x52 =>
    bnd1 (J_X10_of t_now v2 (3 : Int32)) fun x61 =>
    nm (x61 + (1 : Int32)) fun x65 =>
    bnd1 (J_X10_sets t_now v2 (3 : Int32) x65) fun t_now_66 =>
    J_X10_goes_b69 (fun z0 z1 z2 z3 => J_X10_goes_L8  nf z0 z1 z2 z3)  t_now_66 t_finds x52 v2 x31 x37))
    else (
    J_X10_goes_b85 (fun z0 z1 z2 z3 => J_X10_goes_L8  nf z0 z1 z2 z3)  t_now t_finds v1 v2)))
def J_X10_goes (t_now : Nat → Int32) (t_finds : Nat → Int32) : Option (Int32 × (Nat → Int32) × (Nat → Int32)) :=
    bnd1 (J_X10_allFind t_now t_finds) fun t_finds_1 =>
    J_X10_goes_L8  FU t_now t_finds_1 (0 : Int32) (0 : Int32)
def J_X10_ticks_L17 (v1 : Int32) : Nat → Int32 → (Nat → Int32) → (Nat → Int32) → Int32 → Int32 → Option (Int32 × Int32 × (Nat → Int32) × (Nat → Int32))
  | 0, _, _, _, _, _ => none
  | nf + 1, t_answer, t_now, t_finds, v2, v3 =>
    if v1 ≤ v3 then (
    bnd2 (J_X10_does v2) fun x37 t_answer_37 =>
    some (x37, t_answer_37, t_now, t_finds))
    else (
    bnd3 (J_X10_goes t_now t_finds) fun x24 t_now_24 t_finds_24 =>
    nm (v2 + x24) fun x27 =>
    nm (v3 + Int32.ofInt 1) fun x29 =>
    J_X10_ticks_L17 v1 nf t_answer t_now_24 t_finds_24 x27 x29)
def J_X10_ticks (t_answer : Int32) (t_now : Nat → Int32) (t_finds : Nat → Int32) (v1 : Int32) : Option (Int32 × Int32 × (Nat → Int32) × (Nat → Int32)) :=
    bnd1 (J_X10_in v1 (1 : Int32) (99 : Int32)) fun x4 =>
    if x4 = 0 then (
    some ((-12 : Int32), t_answer, t_now, t_finds))
    else (
    J_X10_ticks_L17 v1 FU t_answer t_now t_finds (0 : Int32) (0 : Int32))
def J_X10_tick (t_undos : Int32) (t_answer : Int32) (t_now : Nat → Int32) (t_tried : Nat → Int32) (t_kept : Nat → Int32) (t_finds : Nat → Int32) (v1 : Int32) : Option (Int32 × Int32 × Int32 × (Nat → Int32) × (Nat → Int32) × (Nat → Int32) × (Nat → Int32)) :=
    bnd1 (J_X10_tries t_now t_tried) fun t_tried_1 =>
    bnd4 (J_X10_ticks t_answer t_now t_finds v1) fun x7 t_answer_7 t_now_7 t_finds_7 =>
    bnd3 (J_X10_ends t_undos t_answer_7 t_tried_1 t_kept x7) fun x10 t_undos_10 t_kept_10 =>
    some (x10, t_undos_10, t_answer_7, t_now_7, t_tried_1, t_kept_10, t_finds_7)
def J_X10_lanternOf (t_now : Nat → Int32) (v1 : Int32) (v2 : Int32) : Option (Int32) :=
    bnd1 (J_X10_isLantern t_now v1) fun x2 =>
    if x2 = 0 then (
    some ((-11 : Int32)))
    else (
    if v2 = (0 : Int32) then (
    bnd1 (J_X10_of t_now v1 v2) fun x63 =>
    some (x63))
    else (
    if v2 = (1 : Int32) then (
    bnd1 (J_X10_of t_now v1 v2) fun x63 =>
    some (x63))
    else (
    if v2 = (2 : Int32) then (
    bnd1 (J_X10_of t_now v1 v2) fun x63 =>
    some (x63))
    else (
    if v2 = (3 : Int32) then (
    bnd1 (J_X10_wiresTo t_now v1) fun x69 =>
    some (x69))
    else (
    if v2 = (4 : Int32) then (
    bnd1 (J_X10_wiresFrom t_now v1) fun x75 =>
    some (x75))
    else (
    if v2 = (5 : Int32) then (
    bnd1 (J_X10_of t_now v1 (3 : Int32)) fun x82 =>
    some (x82))
    else (
    if v2 = (6 : Int32) then (
    bnd1 (J_X10_findsNow t_now v1) fun x88 =>
    some (x88))
    else (
    if v2 = (7 : Int32) then (
    bnd1 (J_X10_of t_now v1 (7 : Int32)) fun x96 =>
    some (x96))
    else (
    some ((-12 : Int32)))))))))))
def J_X10_wireOf_b43 (t_now : Nat → Int32) (v1 : Int32) (v2 : Int32) (s43_0 : Int32) : Option (Int32) :=
    some (s43_0)
def J_X10_wireOf (t_now : Nat → Int32) (v1 : Int32) (v2 : Int32) : Option (Int32) :=
    bnd1 (J_X10_isLantern t_now v1) fun x2 =>
    if x2 = 0 then (
    some ((-11 : Int32)))
    else (
    bnd1 (J_X10_in v2 (0 : Int32) (2 : Int32)) fun x14 =>
    if x14 = 0 then (
    some ((-12 : Int32)))
    else (
    bnd1 (J_X10_wired t_now v1 v2) fun x26 =>
    if 0 ≤ x26 then (
    bnd1 (J_X10_wired t_now v1 v2) fun x40 =>
    J_X10_wireOf_b43 t_now v1 v2 x40)
    else (
    J_X10_wireOf_b43 t_now v1 v2 (-15 : Int32))))
def J_X10_leads (t_now : Nat → Int32) (t_reach : Nat → Int32) (v1 : Int32) : Option (Int32 × (Nat → Int32)) :=
    bnd1 (J_X10_isLantern t_now v1) fun x2 =>
    if x2 = 0 then (
    some ((-11 : Int32), t_reach))
    else (
    bnd1 (J_X10_reaches t_now t_reach) fun t_reach_12 =>
    chk v1 16 (
    nm (t_reach_12 v1.toNatClampNeg) fun x20 =>
    some (x20, t_reach_12)))
def J_X10_looped (t_now : Nat → Int32) (t_reach : Nat → Int32) : Option (Int32 × (Nat → Int32)) :=
    bnd2 (J_X10_loopSet t_now t_reach) fun x1 t_reach_1 =>
    some (x1, t_reach_1)
def J_X10_rises_b43 (k14 : Int32 → Int32 → Option (Int32)) (slf : (Nat → Int32) → Int32 → Option (Int32)) (t_now : Nat → Int32) (v1 : Int32) (v2 : Int32) (v3 : Int32) : Option (Int32) :=
    nm (v3 + Int32.ofInt 1) fun x43 =>
    k14 v2 x43
def J_X10_rises_L14 (slf : (Nat → Int32) → Int32 → Option (Int32)) (t_now : Nat → Int32) (v1 : Int32) : Nat → Int32 → Int32 → Option (Int32)
  | 0, _, _ => none
  | nf + 1, v2, v3 =>
    if (3 : Int32) ≤ v3 then (
    bnd1 (J_X10_of t_now v1 (1 : Int32)) fun x53 =>
    some (v2 + x53))
    else (
    bnd1 (J_X10_wired t_now v1 v3) fun x22 =>
    if x22 < 0 then (
    J_X10_rises_b43 (fun z0 z1 => J_X10_rises_L14 slf t_now v1 nf z0 z1) slf t_now v1 v2 v3)
    else (
    bnd1 (J_X10_wired t_now v1 v3) fun x33 =>
    bnd1 (slf t_now x33) fun x36 =>
    nm (if v2 < x36 then x36 else v2) fun x39 =>
    J_X10_rises_b43 (fun z0 z1 => J_X10_rises_L14 slf t_now v1 nf z0 z1) slf t_now v1 x39 v3))
def J_X10_rises_top (slf : (Nat → Int32) → Int32 → Option (Int32)) (t_now : Nat → Int32) (v1 : Int32) : Option (Int32) :=
    bnd1 (J_X10_isSwitch t_now v1) fun x2 =>
    if x2 = 0 then (
    J_X10_rises_L14 slf t_now v1 FU (0 : Int32) (0 : Int32))
    else (
    some ((0 : Int32)))
def J_X10_rises : Nat → (Nat → Int32) → Int32 → Option (Int32)
  | 0, _, _ => none
  | dp + 1, t_now, v1 => J_X10_rises_top (fun t_now v1 => J_X10_rises dp t_now v1) t_now v1
def J_X10_settles_L2  : Nat → (Nat → Int32) → (Nat → Int32) → Int32 → Option (Int32 × (Nat → Int32) × (Nat → Int32))
  | 0, _, _, _ => none
  | nf + 1, t_now, t_finds, v1 =>
    if (256 : Int32) < v1 then (
    some ((-1 : Int32), t_now, t_finds))
    else (
    bnd2 (J_X10_isSettled t_now t_finds) fun x10 t_finds_10 =>
    if x10 = 0 then (
    bnd3 (J_X10_goes t_now t_finds_10) fun x19 t_now_19 t_finds_19 =>
    nm (v1 + Int32.ofInt 1) fun x23 =>
    J_X10_settles_L2  nf t_now_19 t_finds_19 x23)
    else (
    some (v1, t_now, t_finds_10)))
def J_X10_settles (t_now : Nat → Int32) (t_finds : Nat → Int32) : Option (Int32 × (Nat → Int32) × (Nat → Int32)) :=
    J_X10_settles_L2  FU t_now t_finds (0 : Int32)
def J_X10_settlesIn_b23 (t_now : Nat → Int32) (t_thought : Nat → Int32) (t_finds : Nat → Int32) (s23_0 : Int32) : Option (Int32 × (Nat → Int32) × (Nat → Int32) × (Nat → Int32)) :=
    some (s23_0, t_now, t_thought, t_finds)
def J_X10_settlesIn (t_now : Nat → Int32) (t_thought : Nat → Int32) (t_finds : Nat → Int32) : Option (Int32 × (Nat → Int32) × (Nat → Int32) × (Nat → Int32)) :=
    bnd1 (J_X10_thinks t_now t_thought) fun t_thought_1 =>
    bnd3 (J_X10_settles t_now t_finds) fun x5 t_now_5 t_finds_5 =>
    bnd1 (J_X10_thinksNoMore t_now_5 t_thought_1) fun t_now_10 =>
    if 0 ≤ x5 then (
    J_X10_settlesIn_b23  t_now_10 t_thought_1 t_finds_5 x5)
    else (
    J_X10_settlesIn_b23  t_now_10 t_thought_1 t_finds_5 (-15 : Int32))
def J_X10_notes_b102 (k23 : (Nat → Int32) → (Nat → Int32) → (Nat → Int32) → Int32 → Option ((Nat → Int32) × (Nat → Int32) × (Nat → Int32))) (t_now : Nat → Int32) (v1 : Int32) (t_glows : Nat → Int32) (t_lower : Nat → Int32) (t_upper : Nat → Int32) (v2 : Int32) : Option ((Nat → Int32) × (Nat → Int32) × (Nat → Int32)) :=
    nm (v2 + Int32.ofInt 1) fun x102 =>
    k23 t_glows t_lower t_upper x102
def J_X10_notes_L23 (t_now : Nat → Int32) (v1 : Int32) : Nat → (Nat → Int32) → (Nat → Int32) → (Nat → Int32) → Int32 → Option ((Nat → Int32) × (Nat → Int32) × (Nat → Int32))
  | 0, _, _, _, _ => none
  | nf + 1, t_glows, t_lower, t_upper, v2 =>
    chk (0 : Int32) 133 (
    nm (t_now (0 : Int32).toNatClampNeg) fun x29 =>
    if x29 ≤ v2 then (
    some (t_glows, t_lower, t_upper))
    else (
    chk v1 257 (
    nm (t_glows v1.toNatClampNeg) fun x39 =>
    bnd1 (J_X10_of t_now v2 (2 : Int32)) fun x43 =>
    nm (x39 ||| (x43 <<< (v2 &&& 31))) fun x48 =>
    chk v1 257 (
    if (8 : Int32) ≤ v2 then (
    chk v1 257 (
    nm (t_upper v1.toNatClampNeg) fun x85 =>
    bnd1 (J_X10_of t_now v2 (7 : Int32)) fun x90 =>
    nm (x85 ||| (x90 <<< (((3 : Int32) * (v2 - (8 : Int32))) &&& 31))) fun x100 =>
    chk v1 257 (
    J_X10_notes_b102 (fun z0 z1 z2 z3 => J_X10_notes_L23 t_now v1 nf z0 z1 z2 z3) t_now v1 (upd t_glows v1.toNatClampNeg x48) t_lower (upd t_upper v1.toNatClampNeg x100) v2)))
    else (
    chk v1 257 (
    nm (t_lower v1.toNatClampNeg) fun x62 =>
    bnd1 (J_X10_of t_now v2 (7 : Int32)) fun x67 =>
    nm (x62 ||| (x67 <<< (((3 : Int32) * v2) &&& 31))) fun x74 =>
    chk v1 257 (
    J_X10_notes_b102 (fun z0 z1 z2 z3 => J_X10_notes_L23 t_now v1 nf z0 z1 z2 z3) t_now v1 (upd t_glows v1.toNatClampNeg x48) (upd t_lower v1.toNatClampNeg x74) t_upper v2)))))))
def J_X10_notes (t_now : Nat → Int32) (t_glows : Nat → Int32) (t_lower : Nat → Int32) (t_upper : Nat → Int32) (v1 : Int32) : Option ((Nat → Int32) × (Nat → Int32) × (Nat → Int32)) :=
    chk v1 257 (
    chk v1 257 (
    chk v1 257 (
    J_X10_notes_L23 t_now v1 FU (upd t_glows v1.toNatClampNeg (0 : Int32)) (upd t_lower v1.toNatClampNeg (0 : Int32)) (upd t_upper v1.toNatClampNeg (0 : Int32)) (0 : Int32))))
def J_X10_period_b101 (k14 : (Nat → Int32) → (Nat → Int32) → (Nat → Int32) → (Nat → Int32) → (Nat → Int32) → (Nat → Int32) → Int32 → Int32 → Option (Int32 × (Nat → Int32) × (Nat → Int32) × (Nat → Int32) × (Nat → Int32) × (Nat → Int32) × (Nat → Int32))) (k38 : (Nat → Int32) → (Nat → Int32) → (Nat → Int32) → (Nat → Int32) → (Nat → Int32) → (Nat → Int32) → Int32 → Int32 → Int32 → Option (Int32 × (Nat → Int32) × (Nat → Int32) × (Nat → Int32) × (Nat → Int32) × (Nat → Int32) × (Nat → Int32))) (t_now : Nat → Int32) (t_thought : Nat → Int32) (t_finds : Nat → Int32) (t_glows : Nat → Int32) (t_lower : Nat → Int32) (t_upper : Nat → Int32) (v1 : Int32) (v2 : Int32) (v4 : Int32) : Option (Int32 × (Nat → Int32) × (Nat → Int32) × (Nat → Int32) × (Nat → Int32) × (Nat → Int32) × (Nat → Int32)) :=
    nm (v4 + Int32.ofInt 1) fun x101 =>
    k38 t_now t_thought t_finds t_glows t_lower t_upper v1 v2 x101
def J_X10_period_b107 (k14 : (Nat → Int32) → (Nat → Int32) → (Nat → Int32) → (Nat → Int32) → (Nat → Int32) → (Nat → Int32) → Int32 → Int32 → Option (Int32 × (Nat → Int32) × (Nat → Int32) × (Nat → Int32) × (Nat → Int32) × (Nat → Int32) × (Nat → Int32))) (t_now : Nat → Int32) (t_thought : Nat → Int32) (t_finds : Nat → Int32) (t_glows : Nat → Int32) (t_lower : Nat → Int32) (t_upper : Nat → Int32) (v1 : Int32) (v2 : Int32) : Option (Int32 × (Nat → Int32) × (Nat → Int32) × (Nat → Int32) × (Nat → Int32) × (Nat → Int32) × (Nat → Int32)) :=
    nm (v2 + Int32.ofInt 1) fun x107 =>
    k14 t_now t_thought t_finds t_glows t_lower t_upper v1 x107
def J_X10_period_L38 (k14 : (Nat → Int32) → (Nat → Int32) → (Nat → Int32) → (Nat → Int32) → (Nat → Int32) → (Nat → Int32) → Int32 → Int32 → Option (Int32 × (Nat → Int32) × (Nat → Int32) × (Nat → Int32) × (Nat → Int32) × (Nat → Int32) × (Nat → Int32))) : Nat → (Nat → Int32) → (Nat → Int32) → (Nat → Int32) → (Nat → Int32) → (Nat → Int32) → (Nat → Int32) → Int32 → Int32 → Int32 → Option (Int32 × (Nat → Int32) × (Nat → Int32) × (Nat → Int32) × (Nat → Int32) × (Nat → Int32) × (Nat → Int32))
  | 0, _, _, _, _, _, _, _, _, _ => none
  | nf + 1, t_now, t_thought, t_finds, t_glows, t_lower, t_upper, v1, v2, v4 =>
    if v2 ≤ v4 then (
    J_X10_period_b107 k14  t_now t_thought t_finds t_glows t_lower t_upper v1 v2)
    else (
    if 0 ≤ v1 then (
    J_X10_period_b107 k14  t_now t_thought t_finds t_glows t_lower t_upper v1 v2)
    else (
    chk v4 257 (
    nm (t_glows v4.toNatClampNeg) fun x54 =>
    chk v2 257 (
    nm (t_glows v2.toNatClampNeg) fun x60 =>
    if x54 = x60 then (
    chk v4 257 (
    nm (t_lower v4.toNatClampNeg) fun x70 =>
    chk v2 257 (
    nm (t_lower v2.toNatClampNeg) fun x76 =>
    if x70 = x76 then (
    chk v4 257 (
    nm (t_upper v4.toNatClampNeg) fun x86 =>
    chk v2 257 (
    nm (t_upper v2.toNatClampNeg) fun x92 =>
    if x86 = x92 then (
    nm (v2 - v4) fun x99 =>
    J_X10_period_b101 k14 (fun z0 z1 z2 z3 z4 z5 z6 z7 z8 => J_X10_period_L38 k14  nf z0 z1 z2 z3 z4 z5 z6 z7 z8)  t_now t_thought t_finds t_glows t_lower t_upper x99 v2 v4)
    else (
    J_X10_period_b101 k14 (fun z0 z1 z2 z3 z4 z5 z6 z7 z8 => J_X10_period_L38 k14  nf z0 z1 z2 z3 z4 z5 z6 z7 z8)  t_now t_thought t_finds t_glows t_lower t_upper v1 v2 v4))))
    else (
    J_X10_period_b101 k14 (fun z0 z1 z2 z3 z4 z5 z6 z7 z8 => J_X10_period_L38 k14  nf z0 z1 z2 z3 z4 z5 z6 z7 z8)  t_now t_thought t_finds t_glows t_lower t_upper v1 v2 v4))))
    else (
    J_X10_period_b101 k14 (fun z0 z1 z2 z3 z4 z5 z6 z7 z8 => J_X10_period_L38 k14  nf z0 z1 z2 z3 z4 z5 z6 z7 z8)  t_now t_thought t_finds t_glows t_lower t_upper v1 v2 v4)))))
def J_X10_period_b113 (t_now : Nat → Int32) (t_thought : Nat → Int32) (t_finds : Nat → Int32) (t_glows : Nat → Int32) (t_lower : Nat → Int32) (t_upper : Nat → Int32) (v1 : Int32) : Option (Int32 × (Nat → Int32) × (Nat → Int32) × (Nat → Int32) × (Nat → Int32) × (Nat → Int32) × (Nat → Int32)) :=
    bnd1 (J_X10_thinksNoMore t_now t_thought) fun t_now_114 =>
    some (v1, t_now_114, t_thought, t_finds, t_glows, t_lower, t_upper)
def J_X10_period_L14  : Nat → (Nat → Int32) → (Nat → Int32) → (Nat → Int32) → (Nat → Int32) → (Nat → Int32) → (Nat → Int32) → Int32 → Int32 → Option (Int32 × (Nat → Int32) × (Nat → Int32) × (Nat → Int32) × (Nat → Int32) × (Nat → Int32) × (Nat → Int32))
  | 0, _, _, _, _, _, _, _, _ => none
  | nf + 1, t_now, t_thought, t_finds, t_glows, t_lower, t_upper, v1, v2 =>
    if (256 : Int32) < v2 then (
    J_X10_period_b113  t_now t_thought t_finds t_glows t_lower t_upper v1)
    else (
    if 0 ≤ v1 then (
    J_X10_period_b113  t_now t_thought t_finds t_glows t_lower t_upper v1)
    else (
    bnd3 (J_X10_goes t_now t_finds) fun x26 t_now_26 t_finds_26 =>
    bnd3 (J_X10_notes t_now_26 t_glows t_lower t_upper v2) fun t_glows_32 t_lower_32 t_upper_32 =>
    J_X10_period_L38 (fun z0 z1 z2 z3 z4 z5 z6 z7 => J_X10_period_L14  nf z0 z1 z2 z3 z4 z5 z6 z7)  FU t_now_26 t_thought t_finds_26 t_glows_32 t_lower_32 t_upper_32 v1 v2 (0 : Int32)))
def J_X10_period (t_now : Nat → Int32) (t_thought : Nat → Int32) (t_finds : Nat → Int32) (t_glows : Nat → Int32) (t_lower : Nat → Int32) (t_upper : Nat → Int32) : Option (Int32 × (Nat → Int32) × (Nat → Int32) × (Nat → Int32) × (Nat → Int32) × (Nat → Int32) × (Nat → Int32)) :=
    bnd1 (J_X10_thinks t_now t_thought) fun t_thought_1 =>
    bnd3 (J_X10_notes t_now t_glows t_lower t_upper (0 : Int32)) fun t_glows_9 t_lower_9 t_upper_9 =>
    J_X10_period_L14  FU t_now t_thought_1 t_finds t_glows_9 t_lower_9 t_upper_9 (-15 : Int32) (1 : Int32)
def J_X10_periodAgain (t_now : Nat → Int32) (t_thought : Nat → Int32) (t_finds : Nat → Int32) (t_glows : Nat → Int32) (t_lower : Nat → Int32) (t_upper : Nat → Int32) : Option (Int32 × (Nat → Int32) × (Nat → Int32) × (Nat → Int32) × (Nat → Int32) × (Nat → Int32) × (Nat → Int32)) :=
    bnd7 (J_X10_period t_now t_thought t_finds t_glows t_lower t_upper) fun x1 t_now_1 t_thought_1 t_finds_1 t_glows_1 t_lower_1 t_upper_1 =>
    some (x1, t_now_1, t_thought_1, t_finds_1, t_glows_1, t_lower_1, t_upper_1)
def J_X10_flickers_b16 (v1 : Int32) (v2 : Int32) (t_now : Nat → Int32) (t_thought : Nat → Int32) (t_finds : Nat → Int32) : Option (Int32 × (Nat → Int32) × (Nat → Int32) × (Nat → Int32)) :=
    some ((-11 : Int32), t_now, t_thought, t_finds)
def J_X10_flickers_b35 (v1 : Int32) (v2 : Int32) (t_now : Nat → Int32) (t_thought : Nat → Int32) (t_finds : Nat → Int32) : Option (Int32 × (Nat → Int32) × (Nat → Int32) × (Nat → Int32)) :=
    some ((-12 : Int32), t_now, t_thought, t_finds)
def J_X10_flickers_b127 (v1 : Int32) (v2 : Int32) (t_now : Nat → Int32) (t_thought : Nat → Int32) (t_finds : Nat → Int32) (s127_0 : Int32) : Option (Int32 × (Nat → Int32) × (Nat → Int32) × (Nat → Int32)) :=
    some (s127_0, t_now, t_thought, t_finds)
def J_X10_flickers_b111 (v1 : Int32) (v2 : Int32) (t_now : Nat → Int32) (t_thought : Nat → Int32) (t_finds : Nat → Int32) (v5 : Int32) (v6 : Int32) : Option (Int32 × (Nat → Int32) × (Nat → Int32) × (Nat → Int32)) :=
    bnd1 (J_X10_thinksNoMore t_now t_thought) fun t_now_112 =>
    if 0 ≤ v5 then (
    J_X10_flickers_b127 v1 v2 t_now_112 t_thought t_finds v6)
    else (
    J_X10_flickers_b127 v1 v2 t_now_112 t_thought t_finds (-15 : Int32))
def J_X10_flickers (t_now : Nat → Int32) (t_thought : Nat → Int32) (t_finds : Nat → Int32) (v1 : Int32) (v2 : Int32) : Option (Int32 × (Nat → Int32) × (Nat → Int32) × (Nat → Int32)) :=
    bnd1 (J_X10_isLantern t_now v1) fun x2 =>
    if x2 = 0 then (
    J_X10_flickers_b16 v1 v2 t_now t_thought t_finds)
    else (
    bnd1 (J_X10_isLantern t_now v2) fun x10 =>
    if x10 = 0 then (
    J_X10_flickers_b16 v1 v2 t_now t_thought t_finds)
    else (
    bnd1 (J_X10_isSwitch t_now v1) fun x21 =>
    if x21 = 0 then (
    bnd1 (J_X10_isSwitch t_now v2) fun x29 =>
    if x29 = 0 then (
    J_X10_flickers_b35 v1 v2 t_now t_thought t_finds)
    else (
    bnd2 (J_X10_isSettled t_now t_finds) fun x39 t_finds_39 =>
    if x39 = 0 then (
    some ((-15 : Int32), t_now, t_thought, t_finds_39))
    else (
    bnd1 (J_X10_thinks t_now t_thought) fun t_thought_49 =>
    bnd1 (J_X10_of t_now v1 (2 : Int32)) fun x55 =>
    bnd1 (J_X10_of t_now v1 (3 : Int32)) fun x62 =>
    bnd1 (J_X10_of t_now v2 (2 : Int32)) fun x74 =>
    nm ((1 : Int32) - x74) fun x77 =>
    bnd1 (J_X10_sets t_now v2 (2 : Int32) x77) fun t_now_78 =>
    bnd3 (J_X10_settles t_now_78 t_finds_39) fun x82 t_now_82 t_finds_82 =>
    bnd1 (J_X10_of t_now_82 v1 (3 : Int32)) fun x90 =>
    nm (x90 - x62) fun x95 =>
    bnd1 (J_X10_of t_now_82 v1 (2 : Int32)) fun x101 =>
    if x101 = x55 then (
    J_X10_flickers_b111 v1 v2 t_now_82 t_thought_49 t_finds_82 x82 x95)
    else (
    nm (x95 + Int32.ofInt (-1)) fun x108 =>
    J_X10_flickers_b111 v1 v2 t_now_82 t_thought_49 t_finds_82 x82 x108))))
    else (
    J_X10_flickers_b35 v1 v2 t_now t_thought t_finds)))
def J_X10_switchSet_b46 (k8 : (Nat → Int32) → Int32 → Int32 → Option (Int32 × (Nat → Int32))) (t_now : Nat → Int32) (v1 : Int32) (t_reach : Nat → Int32) (v2 : Int32) (v3 : Int32) : Option (Int32 × (Nat → Int32)) :=
    nm (v3 + Int32.ofInt 1) fun x46 =>
    k8 t_reach v2 x46
def J_X10_switchSet_L8 (t_now : Nat → Int32) (v1 : Int32) : Nat → (Nat → Int32) → Int32 → Int32 → Option (Int32 × (Nat → Int32))
  | 0, _, _, _ => none
  | nf + 1, t_reach, v2, v3 =>
    chk (0 : Int32) 133 (
    nm (t_now (0 : Int32).toNatClampNeg) fun x14 =>
    if x14 ≤ v3 then (
    some (v2, t_reach))
    else (
    bnd1 (J_X10_isSwitch t_now v3) fun x20 =>
    if x20 = 0 then (
    J_X10_switchSet_b46 (fun z0 z1 z2 => J_X10_switchSet_L8 t_now v1 nf z0 z1 z2) t_now v1 t_reach v2 v3)
    else (
    chk v3 16 (
    nm (t_reach v3.toNatClampNeg) fun x31 =>
    nm (x31 >>> (v1 &&& 31)) fun x33 =>
    nm (x33 &&& (1 : Int32)) fun x35 =>
    if x35 = (1 : Int32) then (
    nm (v2 ||| ((1 : Int32) <<< (v3 &&& 31))) fun x44 =>
    J_X10_switchSet_b46 (fun z0 z1 z2 => J_X10_switchSet_L8 t_now v1 nf z0 z1 z2) t_now v1 t_reach x44 v3)
    else (
    J_X10_switchSet_b46 (fun z0 z1 z2 => J_X10_switchSet_L8 t_now v1 nf z0 z1 z2) t_now v1 t_reach v2 v3)))))
def J_X10_switchSet (t_now : Nat → Int32) (t_reach : Nat → Int32) (v1 : Int32) : Option (Int32 × (Nat → Int32)) :=
    bnd1 (J_X10_reaches t_now t_reach) fun t_reach_1 =>
    J_X10_switchSet_L8 t_now v1 FU t_reach_1 (0 : Int32) (0 : Int32)
def J_X10_switchesOf_b18 (t_now : Nat → Int32) (v1 : Int32) (t_reach : Nat → Int32) (s18_0 : Int32) : Option (Int32 × (Nat → Int32)) :=
    some (s18_0, t_reach)
def J_X10_switchesOf (t_now : Nat → Int32) (t_reach : Nat → Int32) (v1 : Int32) : Option (Int32 × (Nat → Int32)) :=
    bnd1 (J_X10_isLantern t_now v1) fun x2 =>
    if x2 = 0 then (
    J_X10_switchesOf_b18 t_now v1 t_reach (-11 : Int32))
    else (
    bnd2 (J_X10_switchSet t_now t_reach v1) fun x10 t_reach_10 =>
    J_X10_switchesOf_b18 t_now v1 t_reach_10 x10)
def J_X10_append (t_length : Int32) (t_text : Nat → Int32) (v1 : Int32) : Option (Int32 × Int32 × (Nat → Int32)) :=
    bnd1 (J_X10_in v1 (32 : Int32) (126 : Int32)) fun x5 =>
    if x5 = 0 then (
    some ((-12 : Int32), t_length, t_text))
    else (
    if t_length = (60 : Int32) then (
    some ((-13 : Int32), t_length, t_text))
    else (
    nm (t_length + (1 : Int32)) fun x37 =>
    nm ((v1.toUInt32 % 65536).toInt32) fun x42 =>
    chk t_length 60 (
    some (x37, x37, (upd t_text t_length.toNatClampNeg (vp_nar .char x42))))))
def J_X10_number_b94 (t_length : Int32) (t_text : Nat → Int32) (v1 : Int32) (v2 : Int32) (t_at : Int32) (t_told : Nat → Int32) (s94_0 : Int32) : Option (Int32 × Int32 × (Nat → Int32)) :=
    chz s94_0 (some (s94_0, t_at, t_told))
def J_X10_number_b85 (t_length : Int32) (t_text : Nat → Int32) (v1 : Int32) (v2 : Int32) (t_at : Int32) (t_told : Nat → Int32) (v3 : Int32) : Option (Int32 × Int32 × (Nat → Int32)) :=
    if v3 ≤ 0 then (
    J_X10_number_b94 t_length t_text v1 v2 t_at t_told (0 : Int32))
    else (
    J_X10_number_b94 t_length t_text v1 v2 t_at t_told (1 : Int32))
def J_X10_number_L9 (t_length : Int32) (t_text : Nat → Int32) (v1 : Int32) (v2 : Int32) : Nat → Int32 → (Nat → Int32) → Int32 → Option (Int32 × Int32 × (Nat → Int32))
  | 0, _, _, _ => none
  | nf + 1, t_at, t_told, v3 =>
    if v2 ≤ v3 then (
    J_X10_number_b85 t_length t_text v1 v2 t_at t_told v3)
    else (
    if t_length ≤ t_at then (
    J_X10_number_b85 t_length t_text v1 v2 t_at t_told v3)
    else (
    chk t_at 60 (
    nm (t_text t_at.toNatClampNeg) fun x33 =>
    bnd1 (J_X10_in x33 (48 : Int32) (57 : Int32)) fun x38 =>
    if x38 = 0 then (
    J_X10_number_b85 t_length t_text v1 v2 t_at t_told v3)
    else (
    chk v1 3 (
    nm (t_told v1.toNatClampNeg) fun x56 =>
    nm ((10 : Int32) * x56) fun x57 =>
    nm (t_at + (1 : Int32)) fun x69 =>
    chk t_at 60 (
    nm (t_text t_at.toNatClampNeg) fun x73 =>
    nm (x57 + x73) fun x74 =>
    nm (x74 - (48 : Int32)) fun x77 =>
    chk v1 3 (
    nm (v3 + Int32.ofInt 1) fun x79 =>
    J_X10_number_L9 t_length t_text v1 v2 nf x69 (upd t_told v1.toNatClampNeg x77) x79)))))))
def J_X10_number (t_length : Int32) (t_at : Int32) (t_text : Nat → Int32) (t_told : Nat → Int32) (v1 : Int32) (v2 : Int32) : Option (Int32 × Int32 × (Nat → Int32)) :=
    chk v1 3 (
    J_X10_number_L9 t_length t_text v1 v2 FU t_at (upd t_told v1.toNatClampNeg (0 : Int32)) (0 : Int32))
def J_X10_sign_b39 (t_length : Int32) (t_text : Nat → Int32) (t_at : Int32) (t_told : Nat → Int32) : Option (Int32 × Int32 × (Nat → Int32)) :=
    chz (0 : Int32) (some ((0 : Int32), t_at, t_told))
def J_X10_sign_b72 (t_length : Int32) (t_text : Nat → Int32) (t_at : Int32) (t_told : Nat → Int32) (s72_1 : Int32) (s72_2 : Int32) : Option (Int32 × Int32 × (Nat → Int32)) :=
    chk s72_1 3 (
    chz (1 : Int32) (some ((1 : Int32), t_at, (upd t_told s72_1.toNatClampNeg s72_2))))
def J_X10_sign_b41 (t_length : Int32) (t_text : Nat → Int32) (t_at : Int32) (t_told : Nat → Int32) : Option (Int32 × Int32 × (Nat → Int32)) :=
    nm (t_at + (1 : Int32)) fun x57 =>
    chk t_at 60 (
    nm (t_text t_at.toNatClampNeg) fun x61 =>
    if x61 = (43 : Int32) then (
    J_X10_sign_b72 t_length t_text x57 t_told (1 : Int32) (1 : Int32))
    else (
    J_X10_sign_b72 t_length t_text x57 t_told (1 : Int32) (0 : Int32)))
def J_X10_sign (t_length : Int32) (t_at : Int32) (t_text : Nat → Int32) (t_told : Nat → Int32) : Option (Int32 × Int32 × (Nat → Int32)) :=
    if t_at = t_length then (
    J_X10_sign_b39 t_length t_text t_at t_told)
    else (
    chk t_at 60 (
    nm (t_text t_at.toNatClampNeg) fun x19 =>
    if x19 = (43 : Int32) then (
    J_X10_sign_b41 t_length t_text t_at t_told)
    else (
    chk t_at 60 (
    nm (t_text t_at.toNatClampNeg) fun x33 =>
    if x33 = (45 : Int32) then (
    J_X10_sign_b41 t_length t_text t_at t_told)
    else (
    J_X10_sign_b39 t_length t_text t_at t_told)))))
def J_X10_carries (t_order : Int32) (t_whys : Int32) (t_answer : Int32) (t_now : Nat → Int32) (t_finds : Nat → Int32) (t_steps : Nat → Int32) (t_told : Nat → Int32) (t_why : Nat → Int32) (t_more : Nat → Int32) : Option (Int32 × Int32 × Int32 × (Nat → Int32) × (Nat → Int32) × (Nat → Int32) × (Nat → Int32) × (Nat → Int32)) :=
    if t_order = (99 : Int32) then (
    chk (0 : Int32) 3 (
    nm (t_told (0 : Int32).toNatClampNeg) fun x94 =>
    chk (1 : Int32) 3 (
    nm (t_told (1 : Int32).toNatClampNeg) fun x100 =>
    bnd6 (J_X10_cuts t_whys t_answer t_now t_why t_more x94 x100) fun x101 t_whys_101 t_answer_101 t_now_101 t_why_101 t_more_101 =>
    some (x101, t_whys_101, t_answer_101, t_now_101, t_finds, t_steps, t_why_101, t_more_101))))
    else (
    if t_order = (104 : Int32) then (
    chk (0 : Int32) 3 (
    nm (t_told (0 : Int32).toNatClampNeg) fun x54 =>
    chk (1 : Int32) 3 (
    nm (t_told (1 : Int32).toNatClampNeg) fun x60 =>
    bnd6 (J_X10_hangs t_whys t_answer t_now t_why t_more x54 x60) fun x61 t_whys_61 t_answer_61 t_now_61 t_why_61 t_more_61 =>
    some (x61, t_whys_61, t_answer_61, t_now_61, t_finds, t_steps, t_why_61, t_more_61))))
    else (
    if t_order = (115 : Int32) then (
    chk (0 : Int32) 3 (
    nm (t_told (0 : Int32).toNatClampNeg) fun x111 =>
    chk (1 : Int32) 3 (
    nm (t_told (1 : Int32).toNatClampNeg) fun x117 =>
    bnd6 (J_X10_switches t_whys t_answer t_now t_why t_more x111 x117) fun x118 t_whys_118 t_answer_118 t_now_118 t_why_118 t_more_118 =>
    some (x118, t_whys_118, t_answer_118, t_now_118, t_finds, t_steps, t_why_118, t_more_118))))
    else (
    if t_order = (119 : Int32) then (
    chk (0 : Int32) 3 (
    nm (t_told (0 : Int32).toNatClampNeg) fun x71 =>
    chk (1 : Int32) 3 (
    nm (t_told (1 : Int32).toNatClampNeg) fun x77 =>
    chk (2 : Int32) 3 (
    nm (t_told (2 : Int32).toNatClampNeg) fun x83 =>
    bnd7 (J_X10_wires t_whys t_answer t_now t_steps t_why t_more x71 x77 x83) fun x84 t_whys_84 t_answer_84 t_now_84 t_steps_84 t_why_84 t_more_84 =>
    some (x84, t_whys_84, t_answer_84, t_now_84, t_finds, t_steps_84, t_why_84, t_more_84)))))
    else (
    chk (0 : Int32) 3 (
    nm (t_told (0 : Int32).toNatClampNeg) fun x128 =>
    bnd4 (J_X10_ticks t_answer t_now t_finds x128) fun x129 t_answer_129 t_now_129 t_finds_129 =>
    some (x129, t_whys, t_answer_129, t_now_129, t_finds_129, t_steps, t_why, t_more))))))
def J_X10_stops_b101 (v1 : Int32) (v2 : Int32) (t_whys : Int32) (t_why : Nat → Int32) (t_more : Nat → Int32) (s101_0 : Int32) : Option (Int32 × Int32 × (Nat → Int32) × (Nat → Int32)) :=
    some (s101_0, t_whys, t_why, t_more)
def J_X10_stops_L18 (v1 : Int32) (v2 : Int32) : Nat → Int32 → (Nat → Int32) → (Nat → Int32) → Int32 → Int32 → Option (Int32 × Int32 × (Nat → Int32) × (Nat → Int32))
  | 0, _, _, _, _, _ => none
  | nf + 1, t_whys, t_why, t_more, v3, v4 =>
    if v4 ≤ 0 then (
    chk (0 : Int32) 4 (
    chk (0 : Int32) 4 (
    nm (v3 + (1 : Int32)) fun x79 =>
    if v2 = (-14 : Int32) then (
    J_X10_stops_b101 v1 v2 x79 (upd t_why (0 : Int32).toNatClampNeg (10 : Int32)) (upd t_more (0 : Int32).toNatClampNeg v1) (-14 : Int32))
    else (
    bnd4 (J_X10_behind x79 (upd t_why (0 : Int32).toNatClampNeg (10 : Int32)) (upd t_more (0 : Int32).toNatClampNeg v1) (13 : Int32) v2) fun x98 t_whys_98 t_why_98 t_more_98 =>
    J_X10_stops_b101 v1 v2 t_whys_98 t_why_98 t_more_98 x98))))
    else (
    nm (v4 - (1 : Int32)) fun x36 =>
    chk x36 4 (
    nm (t_why x36.toNatClampNeg) fun x37 =>
    chk v4 4 (
    nm (v4 - (1 : Int32)) fun x52 =>
    chk x52 4 (
    nm (t_more x52.toNatClampNeg) fun x53 =>
    chk v4 4 (
    nm (v4 + Int32.ofInt (-1)) fun x55 =>
    J_X10_stops_L18 v1 v2 nf t_whys (upd t_why v4.toNatClampNeg x37) (upd t_more v4.toNatClampNeg x53) v3 x55)))))
def J_X10_stops_b14 (v1 : Int32) (v2 : Int32) (t_whys : Int32) (t_why : Nat → Int32) (t_more : Nat → Int32) (s14_0 : Int32) : Option (Int32 × Int32 × (Nat → Int32) × (Nat → Int32)) :=
    J_X10_stops_L18 v1 v2 FU t_whys t_why t_more s14_0 s14_0
def J_X10_stops (t_whys : Int32) (t_why : Nat → Int32) (t_more : Nat → Int32) (v1 : Int32) (v2 : Int32) : Option (Int32 × Int32 × (Nat → Int32) × (Nat → Int32)) :=
    if v2 = (-14 : Int32) then (
    J_X10_stops_b14 v1 v2 t_whys t_why t_more t_whys)
    else (
    J_X10_stops_b14 v1 v2 t_whys t_why t_more (0 : Int32))
def J_X10_writesNumber_b29 (v1 : Int32) (t_lined : Int32) (t_line : Nat → Int32) : Option (Int32 × (Nat → Int32)) :=
    nm (t_lined + (1 : Int32)) fun x40 =>
    chn (10 : Int32) (
    nm ((48 : Int32) + (v1 - v1 / (10 : Int32) * (10 : Int32))) fun x50 =>
    chk t_lined 40 (
    some (x40, (upd t_line t_lined.toNatClampNeg x50))))
def J_X10_writesNumber (t_lined : Int32) (t_line : Nat → Int32) (v1 : Int32) : Option (Int32 × (Nat → Int32)) :=
    if v1 ≤ (9 : Int32) then (
    J_X10_writesNumber_b29 v1 t_lined t_line)
    else (
    nm (t_lined + (1 : Int32)) fun x17 =>
    chn (10 : Int32) (
    nm ((48 : Int32) + (v1 / (10 : Int32))) fun x27 =>
    chk t_lined 40 (
    J_X10_writesNumber_b29 v1 x17 (upd t_line t_lined.toNatClampNeg x27))))
def J_X10_tell_b49 (k7 : Int32 → (Nat → Int32) → Int32 → Option (Int32 × Int32 × (Nat → Int32))) (t_now : Nat → Int32) (t_lined : Int32) (t_line : Nat → Int32) (v1 : Int32) (s49_1 : Int32) (s49_2 : Int32) : Option (Int32 × Int32 × (Nat → Int32)) :=
    chk s49_1 40 (
    nm (v1 + Int32.ofInt 1) fun x50 =>
    k7 t_lined (upd t_line s49_1.toNatClampNeg s49_2) x50)
def J_X10_tell_L7 (t_now : Nat → Int32) : Nat → Int32 → (Nat → Int32) → Int32 → Option (Int32 × Int32 × (Nat → Int32))
  | 0, _, _, _ => none
  | nf + 1, t_lined, t_line, v1 =>
    chk (0 : Int32) 133 (
    nm (t_now (0 : Int32).toNatClampNeg) fun x13 =>
    if x13 ≤ v1 then (
    some (t_lined, t_lined, t_line))
    else (
    nm (t_lined + (1 : Int32)) fun x28 =>
    bnd1 (J_X10_of t_now v1 (2 : Int32)) fun x35 =>
    if x35 = (1 : Int32) then (
    J_X10_tell_b49 (fun z0 z1 z2 => J_X10_tell_L7 t_now nf z0 z1 z2) t_now x28 t_line v1 t_lined (35 : Int32))
    else (
    J_X10_tell_b49 (fun z0 z1 z2 => J_X10_tell_L7 t_now nf z0 z1 z2) t_now x28 t_line v1 t_lined (46 : Int32))))
def J_X10_tell (t_lined : Int32) (t_now : Nat → Int32) (t_line : Nat → Int32) : Option (Int32 × Int32 × (Nat → Int32)) :=
    J_X10_tell_L7 t_now FU (0 : Int32) t_line (0 : Int32)
def J_X10_character_b25 (t_lined : Int32) (t_line : Nat → Int32) (v1 : Int32) (s25_0 : Int32) : Option (Int32) :=
    some (s25_0)
def J_X10_character (t_lined : Int32) (t_line : Nat → Int32) (v1 : Int32) : Option (Int32) :=
    nm (t_lined - (1 : Int32)) fun x7 =>
    bnd1 (J_X10_in v1 (0 : Int32) x7) fun x8 =>
    if x8 = 0 then (
    J_X10_character_b25 t_lined t_line v1 (-11 : Int32))
    else (
    chk v1 40 (
    nm (t_line v1.toNatClampNeg) fun x19 =>
    J_X10_character_b25 t_lined t_line v1 x19))
def J_X10_reason_b36 (t_whys : Int32) (t_why : Nat → Int32) (t_more : Nat → Int32) (v1 : Int32) (v2 : Int32) (s36_0 : Int32) : Option (Int32) :=
    some (s36_0)
def J_X10_reason (t_whys : Int32) (t_why : Nat → Int32) (t_more : Nat → Int32) (v1 : Int32) (v2 : Int32) : Option (Int32) :=
    nm (t_whys - (1 : Int32)) fun x7 =>
    bnd1 (J_X10_in v1 (0 : Int32) x7) fun x8 =>
    if x8 = 0 then (
    some ((-15 : Int32)))
    else (
    if v2 = 0 then (
    chk v1 4 (
    nm (t_why v1.toNatClampNeg) fun x35 =>
    J_X10_reason_b36 t_whys t_why t_more v1 v2 x35))
    else (
    chk v1 4 (
    nm (t_more v1.toNatClampNeg) fun x26 =>
    J_X10_reason_b36 t_whys t_why t_more v1 v2 x26)))
def J_X10_isBalanced_b70 (t_now : Nat → Int32) (s70_0 : Int32) : Option (Int32) :=
    some (s70_0)
def J_X10_isBalanced_L4 (t_now : Nat → Int32) : Nat → Int32 → Int32 → Option (Int32)
  | 0, _, _ => none
  | nf + 1, v1, v2 =>
    chk (0 : Int32) 133 (
    nm (t_now (0 : Int32).toNatClampNeg) fun x10 =>
    if x10 ≤ v2 then (
    chk (3 : Int32) 133 (
    nm (t_now (3 : Int32).toNatClampNeg) fun x54 =>
    chk (4 : Int32) 133 (
    nm (t_now (4 : Int32).toNatClampNeg) fun x60 =>
    if v1 = (x54 + x60) then (
    J_X10_isBalanced_b70 t_now (1 : Int32))
    else (
    J_X10_isBalanced_b70 t_now (0 : Int32)))))
    else (
    bnd1 (J_X10_of t_now v2 (3 : Int32)) fun x17 =>
    chn (2 : Int32) (
    nm (x17 - x17 / (2 : Int32) * (2 : Int32)) fun x21 =>
    bnd1 (J_X10_of t_now v2 (2 : Int32)) fun x25 =>
    if x21 = x25 then (
    bnd1 (J_X10_of t_now v2 (3 : Int32)) fun x37 =>
    nm (v1 + x37) fun x40 =>
    nm (v2 + Int32.ofInt 1) fun x42 =>
    J_X10_isBalanced_L4 t_now nf x40 x42)
    else (
    some ((0 : Int32))))))
def J_X10_isBalanced (t_now : Nat → Int32) : Option (Int32) :=
    J_X10_isBalanced_L4 t_now FU (0 : Int32) (0 : Int32)
def J_X10_undo_L22 (t_kept : Nat → Int32) : Nat → Int32 → (Nat → Int32) → Int32 → Option (Int32 × Int32 × (Nat → Int32))
  | 0, _, _, _ => none
  | nf + 1, t_undos, t_now, v1 =>
    if (133 : Int32) ≤ v1 then (
    some (t_undos, t_undos, t_now))
    else (
    nm ((133 : Int32) * t_undos) fun x45 =>
    nm (x45 + v1) fun x47 =>
    chk x47 1064 (
    nm (t_kept x47.toNatClampNeg) fun x48 =>
    chk v1 133 (
    nm (v1 + Int32.ofInt 1) fun x50 =>
    J_X10_undo_L22 t_kept nf t_undos (upd t_now v1.toNatClampNeg x48) x50)))
def J_X10_undo (t_undos : Int32) (t_now : Nat → Int32) (t_kept : Nat → Int32) : Option (Int32 × Int32 × (Nat → Int32)) :=
    if t_undos = 0 then (
    some ((-15 : Int32), t_undos, t_now))
    else (
    nm (t_undos - (1 : Int32)) fun x16 =>
    J_X10_undo_L22 t_kept FU x16 t_now (0 : Int32))
def J_X10_save_L7 (t_now : Nat → Int32) : Nat → Int32 → (Nat → Int32) → Int32 → Option (Int32 × Int32 × (Nat → Int32))
  | 0, _, _, _ => none
  | nf + 1, t_isSaved, t_saved, v1 =>
    if (133 : Int32) ≤ v1 then (
    chk (0 : Int32) 133 (
    nm (t_now (0 : Int32).toNatClampNeg) fun x37 =>
    some (x37, t_isSaved, t_saved)))
    else (
    chk v1 133 (
    nm (t_now v1.toNatClampNeg) fun x24 =>
    chk v1 133 (
    nm (v1 + Int32.ofInt 1) fun x26 =>
    J_X10_save_L7 t_now nf t_isSaved (upd t_saved v1.toNatClampNeg x24) x26)))
def J_X10_save (t_isSaved : Int32) (t_now : Nat → Int32) (t_saved : Nat → Int32) : Option (Int32 × Int32 × (Nat → Int32)) :=
    chz (1 : Int32) (
    J_X10_save_L7 t_now FU (1 : Int32) t_saved (0 : Int32))
def J_X10_restore_L12 (t_isSaved : Int32) (t_saved : Nat → Int32) : Nat → Int32 → (Nat → Int32) → Int32 → Option (Int32 × Int32 × (Nat → Int32))
  | 0, _, _, _ => none
  | nf + 1, t_undos, t_now, v1 =>
    if (133 : Int32) ≤ v1 then (
    chk (0 : Int32) 133 (
    nm (t_now (0 : Int32).toNatClampNeg) fun x47 =>
    some (x47, (0 : Int32), t_now)))
    else (
    chk v1 133 (
    nm (t_saved v1.toNatClampNeg) fun x29 =>
    chk v1 133 (
    nm (v1 + Int32.ofInt 1) fun x31 =>
    J_X10_restore_L12 t_isSaved t_saved nf t_undos (upd t_now v1.toNatClampNeg x29) x31)))
def J_X10_restore (t_undos : Int32) (t_isSaved : Int32) (t_now : Nat → Int32) (t_saved : Nat → Int32) : Option (Int32 × Int32 × (Nat → Int32)) :=
    if t_isSaved = 0 then (
    some ((-15 : Int32), t_undos, t_now))
    else (
    J_X10_restore_L12 t_isSaved t_saved FU t_undos t_now (0 : Int32))
def J_X10_loops_b60 (v1 : Int32) (t_undos : Int32) (t_whys : Int32) (t_now : Nat → Int32) (t_tried : Nat → Int32) (t_kept : Nat → Int32) (t_reach : Nat → Int32) (t_why : Nat → Int32) (t_more : Nat → Int32) (v3 : Int32) (s60_1 : Int32) (s60_2 : Int32) : Option (Int32 × Int32 × Int32 × (Nat → Int32) × (Nat → Int32) × (Nat → Int32) × (Nat → Int32) × (Nat → Int32) × (Nat → Int32)) :=
    chk s60_1 133 (
    bnd3 (J_X10_keeps t_undos t_tried t_kept v3) fun x63 t_undos_63 t_kept_63 =>
    some (x63, t_undos_63, t_whys, (upd t_now s60_1.toNatClampNeg s60_2), t_tried, t_kept_63, t_reach, t_why, t_more))
def J_X10_loops_b39 (v1 : Int32) (t_undos : Int32) (t_whys : Int32) (t_now : Nat → Int32) (t_tried : Nat → Int32) (t_kept : Nat → Int32) (t_reach : Nat → Int32) (t_why : Nat → Int32) (t_more : Nat → Int32) : Option (Int32 × Int32 × Int32 × (Nat → Int32) × (Nat → Int32) × (Nat → Int32) × (Nat → Int32) × (Nat → Int32) × (Nat → Int32)) :=
    chk (1 : Int32) 133 (
    nm (t_now (1 : Int32).toNatClampNeg) fun x44 =>
    if v1 = 0 then (
    J_X10_loops_b60 v1 t_undos t_whys t_now t_tried t_kept t_reach t_why t_more x44 (1 : Int32) (0 : Int32))
    else (
    J_X10_loops_b60 v1 t_undos t_whys t_now t_tried t_kept t_reach t_why t_more x44 (1 : Int32) (1 : Int32)))
def J_X10_loops (t_undos : Int32) (t_whys : Int32) (t_now : Nat → Int32) (t_tried : Nat → Int32) (t_kept : Nat → Int32) (t_reach : Nat → Int32) (t_why : Nat → Int32) (t_more : Nat → Int32) (v1 : Int32) : Option (Int32 × Int32 × Int32 × (Nat → Int32) × (Nat → Int32) × (Nat → Int32) × (Nat → Int32) × (Nat → Int32) × (Nat → Int32)) :=
    bnd1 (J_X10_tries t_now t_tried) fun t_tried_1 =>
    bnd2 (J_X10_loopSet t_now t_reach) fun x5 t_reach_5 =>
    if v1 = 0 then (
    if x5 = 0 then (
    J_X10_loops_b39 v1 t_undos t_whys t_now t_tried_1 t_kept t_reach_5 t_why t_more)
    else (
    bnd1 (J_J6_numberOfTrailingZeros_0f7a4 x5) fun x21 =>
    bnd4 (J_X10_refuses t_why t_more (9 : Int32) x21) fun x24 t_whys_24 t_why_24 t_more_24 =>
    bnd1 (J_J6_bitCount_0f7a4 x5) fun x32 =>
    bnd4 (J_X10_behind t_whys_24 t_why_24 t_more_24 (12 : Int32) x32) fun x35 t_whys_35 t_why_35 t_more_35 =>
    some (x35, t_undos, t_whys_35, t_now, t_tried_1, t_kept, t_reach_5, t_why_35, t_more_35)))
    else (
    J_X10_loops_b39 v1 t_undos t_whys t_now t_tried_1 t_kept t_reach_5 t_why t_more)
def J_X10_deep_b63 (k28 : (Nat → Int32) → Int32 → Int32 → Option (Int32 × (Nat → Int32))) (t_now : Nat → Int32) (v1 : Int32) (t_reach : Nat → Int32) (v2 : Int32) (v3 : Int32) : Option (Int32 × (Nat → Int32)) :=
    nm (v3 + Int32.ofInt 1) fun x63 =>
    k28 t_reach v2 x63
def J_X10_deep_L28 (t_now : Nat → Int32) (v1 : Int32) : Nat → (Nat → Int32) → Int32 → Int32 → Option (Int32 × (Nat → Int32))
  | 0, _, _, _ => none
  | nf + 1, t_reach, v2, v3 =>
    chk (0 : Int32) 133 (
    nm (t_now (0 : Int32).toNatClampNeg) fun x34 =>
    if x34 ≤ v3 then (
    bnd1 (J_X10_rises 20 t_now v1) fun x71 =>
    some (x71, t_reach))
    else (
    nm (v2 >>> (v3 &&& 31)) fun x40 =>
    nm (x40 &&& (1 : Int32)) fun x42 =>
    if x42 = (1 : Int32) then (
    chk v3 16 (
    nm (t_reach v3.toNatClampNeg) fun x52 =>
    nm (x52 >>> (v1 &&& 31)) fun x54 =>
    nm (x54 &&& (1 : Int32)) fun x56 =>
    if x56 = (1 : Int32) then (
    some ((-1 : Int32), t_reach))
    else (
    J_X10_deep_b63 (fun z0 z1 z2 => J_X10_deep_L28 t_now v1 nf z0 z1 z2) t_now v1 t_reach v2 v3)))
    else (
    J_X10_deep_b63 (fun z0 z1 z2 => J_X10_deep_L28 t_now v1 nf z0 z1 z2) t_now v1 t_reach v2 v3)))
def J_X10_deep (t_now : Nat → Int32) (t_reach : Nat → Int32) (v1 : Int32) : Option (Int32 × (Nat → Int32)) :=
    bnd1 (J_X10_isSwitch t_now v1) fun x2 =>
    if x2 = 0 then (
    bnd2 (J_X10_loopSet t_now t_reach) fun x11 t_reach_11 =>
    nm (x11 >>> (v1 &&& 31)) fun x17 =>
    nm (x17 &&& (1 : Int32)) fun x19 =>
    if x19 = (1 : Int32) then (
    some ((-1 : Int32), t_reach_11))
    else (
    J_X10_deep_L28 t_now v1 FU t_reach_11 x11 (0 : Int32)))
    else (
    some ((0 : Int32), t_reach))
def J_X10_depth_b29 (t_now : Nat → Int32) (v1 : Int32) (t_reach : Nat → Int32) (s29_0 : Int32) : Option (Int32 × (Nat → Int32)) :=
    some (s29_0, t_reach)
def J_X10_depth (t_now : Nat → Int32) (t_reach : Nat → Int32) (v1 : Int32) : Option (Int32 × (Nat → Int32)) :=
    bnd1 (J_X10_isLantern t_now v1) fun x2 =>
    if x2 = 0 then (
    some ((-11 : Int32), t_reach))
    else (
    bnd2 (J_X10_deep t_now t_reach v1) fun x13 t_reach_13 =>
    if 0 ≤ x13 then (
    bnd2 (J_X10_deep t_now t_reach_13 v1) fun x26 t_reach_26 =>
    J_X10_depth_b29 t_now v1 t_reach_26 x26)
    else (
    J_X10_depth_b29 t_now v1 t_reach_13 (-15 : Int32)))
def J_X10_depthAgain (t_now : Nat → Int32) (t_reach : Nat → Int32) (v1 : Int32) : Option (Int32 × (Nat → Int32)) :=
    bnd2 (J_X10_depth t_now t_reach v1) fun x2 t_reach_2 =>
    some (x2, t_reach_2)
def J_X10_glowsAt_b72 (k32 : Int32 → Int32 → Int32 → Option (Int32)) (slf : (Nat → Int32) → Int32 → Int32 → Int32 → Option (Int32)) (t_now : Nat → Int32) (v1 : Int32) (v2 : Int32) (v3 : Int32) (v4 : Int32) (v5 : Int32) (v6 : Int32) : Option (Int32) :=
    nm (v6 + Int32.ofInt 1) fun x72 =>
    k32 v4 v5 x72
def J_X10_glowsAt_L32 (slf : (Nat → Int32) → Int32 → Int32 → Int32 → Option (Int32)) (t_now : Nat → Int32) (v1 : Int32) (v2 : Int32) (v3 : Int32) : Nat → Int32 → Int32 → Int32 → Option (Int32)
  | 0, _, _, _ => none
  | nf + 1, v4, v5, v6 =>
    if (3 : Int32) ≤ v6 then (
    bnd1 (J_X10_of t_now v1 (0 : Int32)) fun x81 =>
    bnd1 (J_X10_found x81 v4 v5) fun x88 =>
    some (x88))
    else (
    bnd1 (J_X10_wired t_now v1 v6) fun x42 =>
    if 0 ≤ x42 then (
    nm (v5 + Int32.ofInt 1) fun x51 =>
    bnd1 (J_X10_wired t_now v1 v6) fun x61 =>
    bnd1 (slf t_now x61 v2 v3) fun x66 =>
    nm (v4 + x66) fun x69 =>
    J_X10_glowsAt_b72 (fun z0 z1 z2 => J_X10_glowsAt_L32 slf t_now v1 v2 v3 nf z0 z1 z2) slf t_now v1 v2 v3 x69 x51 v6)
    else (
    J_X10_glowsAt_b72 (fun z0 z1 z2 => J_X10_glowsAt_L32 slf t_now v1 v2 v3 nf z0 z1 z2) slf t_now v1 v2 v3 v4 v5 v6))
def J_X10_glowsAt_top (slf : (Nat → Int32) → Int32 → Int32 → Int32 → Option (Int32)) (t_now : Nat → Int32) (v1 : Int32) (v2 : Int32) (v3 : Int32) : Option (Int32) :=
    bnd1 (J_X10_isSwitch t_now v1) fun x2 =>
    if x2 = 0 then (
    J_X10_glowsAt_L32 slf t_now v1 v2 v3 FU (0 : Int32) (0 : Int32) (0 : Int32))
    else (
    nm ((1 : Int32) <<< (v1 &&& 31)) fun x12 =>
    nm (v2 &&& (x12 - (1 : Int32))) fun x15 =>
    bnd1 (J_J6_bitCount_0f7a4 x15) fun x16 =>
    nm (v3 >>> (x16 &&& 31)) fun x19 =>
    some (x19 &&& (1 : Int32)))
def J_X10_glowsAt : Nat → (Nat → Int32) → Int32 → Int32 → Int32 → Option (Int32)
  | 0, _, _, _, _ => none
  | dp + 1, t_now, v1, v2, v3 => J_X10_glowsAt_top (fun t_now v1 v2 v3 => J_X10_glowsAt dp t_now v1 v2 v3) t_now v1 v2 v3
def J_X10_table_b27 (t_now : Nat → Int32) (v1 : Int32) (t_reach : Nat → Int32) : Option (Int32 × (Nat → Int32)) :=
    some ((-15 : Int32), t_reach)
def J_X10_table_L52 (t_now : Nat → Int32) (v1 : Int32) : Nat → (Nat → Int32) → Int32 → Int32 → Int32 → Option (Int32 × (Nat → Int32))
  | 0, _, _, _, _ => none
  | nf + 1, t_reach, v2, v3, v4 =>
    bnd1 (J_J6_bitCount_0f7a4 v2) fun x56 =>
    if ((1 : Int32) <<< (x56 &&& 31)) ≤ v4 then (
    some (v3, t_reach))
    else (
    bnd1 (J_X10_glowsAt 20 t_now v1 v2 v4) fun x69 =>
    nm (v3 ||| (x69 <<< (v4 &&& 31))) fun x75 =>
    nm (v4 + Int32.ofInt 1) fun x77 =>
    J_X10_table_L52 t_now v1 nf t_reach v2 x75 x77)
def J_X10_table (t_now : Nat → Int32) (t_reach : Nat → Int32) (v1 : Int32) : Option (Int32 × (Nat → Int32)) :=
    bnd1 (J_X10_isLantern t_now v1) fun x2 =>
    if x2 = 0 then (
    some ((-11 : Int32), t_reach))
    else (
    bnd1 (J_X10_isSwitch t_now v1) fun x13 =>
    if x13 = 0 then (
    bnd2 (J_X10_deep t_now t_reach v1) fun x21 t_reach_21 =>
    if 0 ≤ x21 then (
    bnd2 (J_X10_switchSet t_now t_reach_21 v1) fun x32 t_reach_32 =>
    bnd1 (J_J6_bitCount_0f7a4 x32) fun x37 =>
    if x37 ≤ (4 : Int32) then (
    J_X10_table_L52 t_now v1 FU t_reach_32 x32 (0 : Int32) (0 : Int32))
    else (
    some ((-15 : Int32), t_reach_32)))
    else (
    J_X10_table_b27 t_now v1 t_reach_21))
    else (
    J_X10_table_b27 t_now v1 t_reach))
def J_X10_tableAgain (t_now : Nat → Int32) (t_reach : Nat → Int32) (v1 : Int32) : Option (Int32 × (Nat → Int32)) :=
    bnd2 (J_X10_table t_now t_reach v1) fun x2 t_reach_2 =>
    some (x2, t_reach_2)
def J_X10_account_L191 (t_undos : Int32) (t_length : Int32) (t_now : Nat → Int32) (v1 : Int32) : Nat → (Nat → Int32) → Int32 → Int32 → Option (Int32 × (Nat → Int32))
  | 0, _, _, _ => none
  | nf + 1, t_reach, v2, v3 =>
    chk (0 : Int32) 133 (
    nm (t_now (0 : Int32).toNatClampNeg) fun x197 =>
    if x197 ≤ v3 then (
    some (v2, t_reach))
    else (
    bnd2 (J_X10_deep t_now t_reach v3) fun x204 t_reach_204 =>
    nm (if v2 < x204 then x204 else v2) fun x207 =>
    nm (v3 + Int32.ofInt 1) fun x211 =>
    J_X10_account_L191 t_undos t_length t_now v1 nf t_reach_204 x207 x211))
def J_X10_account_L115 (t_undos : Int32) (t_length : Int32) (t_now : Nat → Int32) (v1 : Int32) : Nat → (Nat → Int32) → Int32 → Int32 → Option (Int32 × (Nat → Int32))
  | 0, _, _, _ => none
  | nf + 1, t_reach, v2, v3 =>
    chk (0 : Int32) 133 (
    nm (t_now (0 : Int32).toNatClampNeg) fun x121 =>
    if x121 ≤ v3 then (
    some (v2, t_reach))
    else (
    bnd1 (J_X10_wiresTo t_now v3) fun x128 =>
    nm (v2 + x128) fun x131 =>
    nm (v3 + Int32.ofInt 1) fun x133 =>
    J_X10_account_L115 t_undos t_length t_now v1 nf t_reach x131 x133))
def J_X10_account_b105 (k84 : (Nat → Int32) → Int32 → Int32 → Option (Int32 × (Nat → Int32))) (t_undos : Int32) (t_length : Int32) (t_now : Nat → Int32) (v1 : Int32) (t_reach : Nat → Int32) (v2 : Int32) (v3 : Int32) : Option (Int32 × (Nat → Int32)) :=
    nm (v3 + Int32.ofInt 1) fun x105 =>
    k84 t_reach v2 x105
def J_X10_account_L84 (t_undos : Int32) (t_length : Int32) (t_now : Nat → Int32) (v1 : Int32) : Nat → (Nat → Int32) → Int32 → Int32 → Option (Int32 × (Nat → Int32))
  | 0, _, _, _ => none
  | nf + 1, t_reach, v2, v3 =>
    chk (0 : Int32) 133 (
    nm (t_now (0 : Int32).toNatClampNeg) fun x90 =>
    if x90 ≤ v3 then (
    some (v2, t_reach))
    else (
    bnd1 (J_X10_isSwitch t_now v3) fun x96 =>
    if x96 = 0 then (
    J_X10_account_b105 (fun z0 z1 z2 => J_X10_account_L84 t_undos t_length t_now v1 nf z0 z1 z2) t_undos t_length t_now v1 t_reach v2 v3)
    else (
    nm (v2 + Int32.ofInt 1) fun x102 =>
    J_X10_account_b105 (fun z0 z1 z2 => J_X10_account_L84 t_undos t_length t_now v1 nf z0 z1 z2) t_undos t_length t_now v1 t_reach x102 v3)))
def J_X10_account (t_undos : Int32) (t_length : Int32) (t_now : Nat → Int32) (t_reach : Nat → Int32) (v1 : Int32) : Option (Int32 × (Nat → Int32)) :=
    if v1 = (0 : Int32) then (
    chk (2 : Int32) 133 (
    nm (t_now (2 : Int32).toNatClampNeg) fun x73 =>
    some (x73, t_reach)))
    else (
    if v1 = (1 : Int32) then (
    chk (0 : Int32) 133 (
    nm (t_now (0 : Int32).toNatClampNeg) fun x80 =>
    some (x80, t_reach)))
    else (
    if v1 = (2 : Int32) then (
    J_X10_account_L84 t_undos t_length t_now v1 FU t_reach (0 : Int32) (0 : Int32))
    else (
    if v1 = (3 : Int32) then (
    J_X10_account_L115 t_undos t_length t_now v1 FU t_reach (0 : Int32) (0 : Int32))
    else (
    if v1 = (4 : Int32) then (
    bnd1 (J_X10_glowing t_now) fun x142 =>
    some (x142, t_reach))
    else (
    if v1 = (5 : Int32) then (
    bnd2 (J_X10_loopSet t_now t_reach) fun x147 t_reach_147 =>
    bnd1 (J_J6_bitCount_0f7a4 x147) fun x150 =>
    some (x150, t_reach_147))
    else (
    if v1 = (6 : Int32) then (
    chk (1 : Int32) 133 (
    nm (t_now (1 : Int32).toNatClampNeg) fun x159 =>
    some (x159, t_reach)))
    else (
    if v1 = (7 : Int32) then (
    chk (3 : Int32) 133 (
    nm (t_now (3 : Int32).toNatClampNeg) fun x166 =>
    chk (4 : Int32) 133 (
    nm (t_now (4 : Int32).toNatClampNeg) fun x172 =>
    some (x166 + x172, t_reach))))
    else (
    if v1 = (8 : Int32) then (
    chk (3 : Int32) 133 (
    nm (t_now (3 : Int32).toNatClampNeg) fun x180 =>
    some (x180, t_reach)))
    else (
    if v1 = (9 : Int32) then (
    chk (4 : Int32) 133 (
    nm (t_now (4 : Int32).toNatClampNeg) fun x187 =>
    some (x187, t_reach)))
    else (
    if v1 = (10 : Int32) then (
    J_X10_account_L191 t_undos t_length t_now v1 FU t_reach (0 : Int32) (0 : Int32))
    else (
    if v1 = (11 : Int32) then (
    some (t_length, t_reach))
    else (
    if v1 = (12 : Int32) then (
    some (t_undos, t_reach))
    else (
    some ((-12 : Int32), t_reach))))))))))))))
def J_X10_kindWord (v0 : Int32) : Option (Nat) :=
    if v0 = (0 : Int32) then (
    some 278)
    else (
    if v0 = (1 : Int32) then (
    some 280)
    else (
    if v0 = (2 : Int32) then (
    some 282)
    else (
    if v0 = (3 : Int32) then (
    some 284)
    else (
    if v0 = (4 : Int32) then (
    some 286)
    else (
    if v0 = (5 : Int32) then (
    some 288)
    else (
    some 290))))))
def tab_X10_kindWord : List (Nat × String × List Int32) := [(290, "alike", [97, 108, 105, 107, 101]), (288, "most", [109, 111, 115, 116]), (286, "unlike", [117, 110, 108, 105, 107, 101]), (284, "or", [111, 114]), (282, "and", [97, 110, 100]), (280, "not", [110, 111, 116]), (278, "switch", [115, 119, 105, 116, 99, 104])]
def strB_X10_kindWord (k : Nat) : List Int32 := if k = 290 then [97, 108, 105, 107, 101] else if k = 288 then [109, 111, 115, 116] else if k = 286 then [117, 110, 108, 105, 107, 101] else if k = 284 then [111, 114] else if k = 282 then [97, 110, 100] else if k = 280 then [110, 111, 116] else if k = 278 then [115, 119, 105, 116, 99, 104] else []
def J_X10_word_b38 (t_length : Int32) (t_text : Nat → Int32) (b1 : List Int32) (t_at : Int32) : Option (Int32 × Int32) :=
    chz (0 : Int32) (some ((0 : Int32), t_at))
def J_X10_word_L2 (t_length : Int32) (t_text : Nat → Int32) (b1 : List Int32) : Nat → Int32 → Int32 → Option (Int32 × Int32)
  | 0, _, _ => none
  | nf + 1, t_at, v2 =>
    bnd1 (J_J0_length_8abf5 b1) fun x4 =>
    if x4 ≤ v2 then (
    chz (1 : Int32) (some ((1 : Int32), t_at)))
    else (
    if t_at = t_length then (
    J_X10_word_b38 t_length t_text b1 t_at)
    else (
    chk t_at 60 (
    nm (t_text t_at.toNatClampNeg) fun x29 =>
    bnd1 (J_J0_charAt_5068e b1 v2) fun x32 =>
    if x29 = x32 then (
    nm (t_at + (1 : Int32)) fun x46 =>
    nm (v2 + Int32.ofInt 1) fun x50 =>
    J_X10_word_L2 t_length t_text b1 nf x46 x50)
    else (
    J_X10_word_b38 t_length t_text b1 t_at))))
def J_X10_word (t_length : Int32) (t_at : Int32) (t_text : Nat → Int32) (b1 : List Int32) : Option (Int32 × Int32) :=
    J_X10_word_L2 t_length t_text b1 FU t_at (0 : Int32)
def J_X10_isOrder_b181 (t_length : Int32) (t_text : Nat → Int32) (t_at : Int32) (t_order : Int32) (t_told : Nat → Int32) (s181_0 : Int32) : Option (Int32 × Int32 × Int32 × (Nat → Int32)) :=
    chz s181_0 (some (s181_0, t_at, t_order, t_told))
def J_X10_isOrder_b180 (t_length : Int32) (t_text : Nat → Int32) (t_at : Int32) (t_order : Int32) (t_told : Nat → Int32) : Option (Int32 × Int32 × Int32 × (Nat → Int32)) :=
    J_X10_isOrder_b181 t_length t_text t_at t_order t_told (0 : Int32)
def J_X10_isOrder_b279 (t_length : Int32) (t_text : Nat → Int32) (t_at : Int32) (t_order : Int32) (t_told : Nat → Int32) (s279_0 : Int32) : Option (Int32 × Int32 × Int32 × (Nat → Int32)) :=
    chz s279_0 (some (s279_0, t_at, t_order, t_told))
def J_X10_isOrder_b278 (t_length : Int32) (t_text : Nat → Int32) (t_at : Int32) (t_order : Int32) (t_told : Nat → Int32) : Option (Int32 × Int32 × Int32 × (Nat → Int32)) :=
    J_X10_isOrder_b279 t_length t_text t_at t_order t_told (0 : Int32)
def J_X10_isOrder_b254 (t_length : Int32) (t_text : Nat → Int32) (t_at : Int32) (t_order : Int32) (t_told : Nat → Int32) (s254_0 : Int32) : Option (Int32 × Int32 × Int32 × (Nat → Int32)) :=
    chz s254_0 (some (s254_0, t_at, t_order, t_told))
def J_X10_isOrder_b253 (t_length : Int32) (t_text : Nat → Int32) (t_at : Int32) (t_order : Int32) (t_told : Nat → Int32) : Option (Int32 × Int32 × Int32 × (Nat → Int32)) :=
    J_X10_isOrder_b254 t_length t_text t_at t_order t_told (0 : Int32)
def J_X10_isOrder_b121 (t_length : Int32) (t_text : Nat → Int32) (t_at : Int32) (t_order : Int32) (t_told : Nat → Int32) (s121_0 : Int32) : Option (Int32 × Int32 × Int32 × (Nat → Int32)) :=
    chz s121_0 (some (s121_0, t_at, t_order, t_told))
def J_X10_isOrder_b120 (t_length : Int32) (t_text : Nat → Int32) (t_at : Int32) (t_order : Int32) (t_told : Nat → Int32) : Option (Int32 × Int32 × Int32 × (Nat → Int32)) :=
    J_X10_isOrder_b121 t_length t_text t_at t_order t_told (0 : Int32)
def J_X10_isOrder_b223 (t_length : Int32) (t_text : Nat → Int32) (t_at : Int32) (t_order : Int32) (t_told : Nat → Int32) (s223_0 : Int32) : Option (Int32 × Int32 × Int32 × (Nat → Int32)) :=
    chz s223_0 (some (s223_0, t_at, t_order, t_told))
def J_X10_isOrder_b222 (t_length : Int32) (t_text : Nat → Int32) (t_at : Int32) (t_order : Int32) (t_told : Nat → Int32) : Option (Int32 × Int32 × Int32 × (Nat → Int32)) :=
    J_X10_isOrder_b223 t_length t_text t_at t_order t_told (0 : Int32)
def J_X10_isOrder (t_length : Int32) (t_at : Int32) (t_order : Int32) (t_text : Nat → Int32) (t_told : Nat → Int32) : Option (Int32 × Int32 × Int32 × (Nat → Int32)) :=
    if t_at = t_length then (
    chz (0 : Int32) (some ((0 : Int32), t_at, t_order, t_told)))
    else (
    chk t_at 60 (
    nm (t_text t_at.toNatClampNeg) fun x22 =>
    if x22 = (99 : Int32) then (
    bnd2 (J_X10_word t_length t_at t_text ([99, 117, 116, 32] : List Int32)) fun x185 t_at_185 =>
    if x185 = 0 then (
    J_X10_isOrder_b222 t_length t_text t_at_185 x22 t_told)
    else (
    bnd3 (J_X10_number t_length t_at_185 t_text t_told (0 : Int32) (2 : Int32)) fun x194 t_at_194 t_told_194 =>
    if x194 = 0 then (
    J_X10_isOrder_b222 t_length t_text t_at_194 x22 t_told_194)
    else (
    bnd2 (J_X10_word t_length t_at_194 t_text ([46] : List Int32)) fun x203 t_at_203 =>
    if x203 = 0 then (
    J_X10_isOrder_b222 t_length t_text t_at_203 x22 t_told_194)
    else (
    bnd3 (J_X10_number t_length t_at_203 t_text t_told_194 (1 : Int32) (1 : Int32)) fun x212 t_at_212 t_told_212 =>
    if x212 = 0 then (
    J_X10_isOrder_b222 t_length t_text t_at_212 x22 t_told_212)
    else (
    J_X10_isOrder_b223 t_length t_text t_at_212 x22 t_told_212 (1 : Int32))))))
    else (
    if x22 = (104 : Int32) then (
    bnd2 (J_X10_word t_length t_at t_text ([104, 97, 110, 103, 32] : List Int32)) fun x83 t_at_83 =>
    if x83 = 0 then (
    J_X10_isOrder_b120 t_length t_text t_at_83 x22 t_told)
    else (
    bnd3 (J_X10_number t_length t_at_83 t_text t_told (0 : Int32) (1 : Int32)) fun x92 t_at_92 t_told_92 =>
    if x92 = 0 then (
    J_X10_isOrder_b120 t_length t_text t_at_92 x22 t_told_92)
    else (
    bnd2 (J_X10_word t_length t_at_92 t_text ([42] : List Int32)) fun x101 t_at_101 =>
    if x101 = 0 then (
    J_X10_isOrder_b120 t_length t_text t_at_101 x22 t_told_92)
    else (
    bnd3 (J_X10_number t_length t_at_101 t_text t_told_92 (1 : Int32) (1 : Int32)) fun x110 t_at_110 t_told_110 =>
    if x110 = 0 then (
    J_X10_isOrder_b120 t_length t_text t_at_110 x22 t_told_110)
    else (
    J_X10_isOrder_b121 t_length t_text t_at_110 x22 t_told_110 (1 : Int32))))))
    else (
    if x22 = (115 : Int32) then (
    bnd2 (J_X10_word t_length t_at t_text ([115, 101, 116, 32] : List Int32)) fun x227 t_at_227 =>
    if x227 = 0 then (
    J_X10_isOrder_b253 t_length t_text t_at_227 x22 t_told)
    else (
    bnd3 (J_X10_number t_length t_at_227 t_text t_told (0 : Int32) (2 : Int32)) fun x236 t_at_236 t_told_236 =>
    if x236 = 0 then (
    J_X10_isOrder_b253 t_length t_text t_at_236 x22 t_told_236)
    else (
    bnd3 (J_X10_sign t_length t_at_236 t_text t_told_236) fun x243 t_at_243 t_told_243 =>
    if x243 = 0 then (
    J_X10_isOrder_b253 t_length t_text t_at_243 x22 t_told_243)
    else (
    J_X10_isOrder_b254 t_length t_text t_at_243 x22 t_told_243 (1 : Int32)))))
    else (
    if x22 = (116 : Int32) then (
    bnd2 (J_X10_word t_length t_at t_text ([116, 105, 99, 107, 32] : List Int32)) fun x259 t_at_259 =>
    if x259 = 0 then (
    J_X10_isOrder_b278 t_length t_text t_at_259 x22 t_told)
    else (
    bnd3 (J_X10_number t_length t_at_259 t_text t_told (0 : Int32) (2 : Int32)) fun x268 t_at_268 t_told_268 =>
    if x268 = 0 then (
    J_X10_isOrder_b278 t_length t_text t_at_268 x22 t_told_268)
    else (
    J_X10_isOrder_b279 t_length t_text t_at_268 x22 t_told_268 (1 : Int32))))
    else (
    if x22 = (119 : Int32) then (
    bnd2 (J_X10_word t_length t_at t_text ([119, 105, 114, 101, 32] : List Int32)) fun x125 t_at_125 =>
    if x125 = 0 then (
    J_X10_isOrder_b180 t_length t_text t_at_125 x22 t_told)
    else (
    bnd3 (J_X10_number t_length t_at_125 t_text t_told (0 : Int32) (2 : Int32)) fun x134 t_at_134 t_told_134 =>
    if x134 = 0 then (
    J_X10_isOrder_b180 t_length t_text t_at_134 x22 t_told_134)
    else (
    bnd2 (J_X10_word t_length t_at_134 t_text ([46] : List Int32)) fun x143 t_at_143 =>
    if x143 = 0 then (
    J_X10_isOrder_b180 t_length t_text t_at_143 x22 t_told_134)
    else (
    bnd3 (J_X10_number t_length t_at_143 t_text t_told_134 (1 : Int32) (1 : Int32)) fun x152 t_at_152 t_told_152 =>
    if x152 = 0 then (
    J_X10_isOrder_b180 t_length t_text t_at_152 x22 t_told_152)
    else (
    bnd2 (J_X10_word t_length t_at_152 t_text ([60] : List Int32)) fun x161 t_at_161 =>
    if x161 = 0 then (
    J_X10_isOrder_b180 t_length t_text t_at_161 x22 t_told_152)
    else (
    bnd3 (J_X10_number t_length t_at_161 t_text t_told_152 (2 : Int32) (2 : Int32)) fun x170 t_at_170 t_told_170 =>
    if x170 = 0 then (
    J_X10_isOrder_b180 t_length t_text t_at_170 x22 t_told_170)
    else (
    J_X10_isOrder_b181 t_length t_text t_at_170 x22 t_told_170 (1 : Int32))))))))
    else (
    chz (0 : Int32) (some ((0 : Int32), t_at, x22, t_told)))))))))
def J_X10_run_b51 (k14 : Int32 → Int32 → Int32 → Int32 → Int32 → Int32 → (Nat → Int32) → (Nat → Int32) → (Nat → Int32) → (Nat → Int32) → (Nat → Int32) → (Nat → Int32) → (Nat → Int32) → (Nat → Int32) → Int32 → Option (Int32 × Int32 × Int32 × Int32 × Int32 × Int32 × Int32 × (Nat → Int32) × (Nat → Int32) × (Nat → Int32) × (Nat → Int32) × (Nat → Int32) × (Nat → Int32) × (Nat → Int32) × (Nat → Int32))) (t_text : Nat → Int32) (t_undos : Int32) (t_length : Int32) (t_at : Int32) (t_order : Int32) (t_whys : Int32) (t_answer : Int32) (t_now : Nat → Int32) (t_tried : Nat → Int32) (t_kept : Nat → Int32) (t_finds : Nat → Int32) (t_steps : Nat → Int32) (t_told : Nat → Int32) (t_why : Nat → Int32) (t_more : Nat → Int32) (s51_0 : Int32) : Option (Int32 × Int32 × Int32 × Int32 × Int32 × Int32 × Int32 × (Nat → Int32) × (Nat → Int32) × (Nat → Int32) × (Nat → Int32) × (Nat → Int32) × (Nat → Int32) × (Nat → Int32) × (Nat → Int32)) :=
    k14 t_undos t_length t_at t_order t_whys t_answer t_now t_tried t_kept t_finds t_steps t_told t_why t_more s51_0
def J_X10_run_b50 (k14 : Int32 → Int32 → Int32 → Int32 → Int32 → Int32 → (Nat → Int32) → (Nat → Int32) → (Nat → Int32) → (Nat → Int32) → (Nat → Int32) → (Nat → Int32) → (Nat → Int32) → (Nat → Int32) → Int32 → Option (Int32 × Int32 × Int32 × Int32 × Int32 × Int32 × Int32 × (Nat → Int32) × (Nat → Int32) × (Nat → Int32) × (Nat → Int32) × (Nat → Int32) × (Nat → Int32) × (Nat → Int32) × (Nat → Int32))) (t_text : Nat → Int32) (t_undos : Int32) (t_length : Int32) (t_at : Int32) (t_order : Int32) (t_whys : Int32) (t_answer : Int32) (t_now : Nat → Int32) (t_tried : Nat → Int32) (t_kept : Nat → Int32) (t_finds : Nat → Int32) (t_steps : Nat → Int32) (t_told : Nat → Int32) (t_why : Nat → Int32) (t_more : Nat → Int32) : Option (Int32 × Int32 × Int32 × Int32 × Int32 × Int32 × Int32 × (Nat → Int32) × (Nat → Int32) × (Nat → Int32) × (Nat → Int32) × (Nat → Int32) × (Nat → Int32) × (Nat → Int32) × (Nat → Int32)) :=
    J_X10_run_b51 k14 t_text t_undos t_length t_at t_order t_whys t_answer t_now t_tried t_kept t_finds t_steps t_told t_why t_more (0 : Int32)
def J_X10_run_b126 (k85 : Int32 → Int32 → Int32 → Int32 → Int32 → Int32 → (Nat → Int32) → (Nat → Int32) → (Nat → Int32) → (Nat → Int32) → (Nat → Int32) → (Nat → Int32) → (Nat → Int32) → (Nat → Int32) → Int32 → Int32 → Int32 → Option (Int32 × Int32 × Int32 × Int32 × Int32 × Int32 × Int32 × (Nat → Int32) × (Nat → Int32) × (Nat → Int32) × (Nat → Int32) × (Nat → Int32) × (Nat → Int32) × (Nat → Int32) × (Nat → Int32))) (t_text : Nat → Int32) (t_undos : Int32) (t_length : Int32) (t_at : Int32) (t_order : Int32) (t_whys : Int32) (t_answer : Int32) (t_now : Nat → Int32) (t_tried : Nat → Int32) (t_kept : Nat → Int32) (t_finds : Nat → Int32) (t_steps : Nat → Int32) (t_told : Nat → Int32) (t_why : Nat → Int32) (t_more : Nat → Int32) (v2 : Int32) (v3 : Int32) (s126_0 : Int32) : Option (Int32 × Int32 × Int32 × Int32 × Int32 × Int32 × Int32 × (Nat → Int32) × (Nat → Int32) × (Nat → Int32) × (Nat → Int32) × (Nat → Int32) × (Nat → Int32) × (Nat → Int32) × (Nat → Int32)) :=
    k85 t_undos t_length t_at t_order t_whys t_answer t_now t_tried t_kept t_finds t_steps t_told t_why t_more v2 v3 s126_0
def J_X10_run_b125 (k85 : Int32 → Int32 → Int32 → Int32 → Int32 → Int32 → (Nat → Int32) → (Nat → Int32) → (Nat → Int32) → (Nat → Int32) → (Nat → Int32) → (Nat → Int32) → (Nat → Int32) → (Nat → Int32) → Int32 → Int32 → Int32 → Option (Int32 × Int32 × Int32 × Int32 × Int32 × Int32 × Int32 × (Nat → Int32) × (Nat → Int32) × (Nat → Int32) × (Nat → Int32) × (Nat → Int32) × (Nat → Int32) × (Nat → Int32) × (Nat → Int32))) (t_text : Nat → Int32) (t_undos : Int32) (t_length : Int32) (t_at : Int32) (t_order : Int32) (t_whys : Int32) (t_answer : Int32) (t_now : Nat → Int32) (t_tried : Nat → Int32) (t_kept : Nat → Int32) (t_finds : Nat → Int32) (t_steps : Nat → Int32) (t_told : Nat → Int32) (t_why : Nat → Int32) (t_more : Nat → Int32) (v2 : Int32) (v3 : Int32) : Option (Int32 × Int32 × Int32 × Int32 × Int32 × Int32 × Int32 × (Nat → Int32) × (Nat → Int32) × (Nat → Int32) × (Nat → Int32) × (Nat → Int32) × (Nat → Int32) × (Nat → Int32) × (Nat → Int32)) :=
    J_X10_run_b126 k85 t_text t_undos t_length t_at t_order t_whys t_answer t_now t_tried t_kept t_finds t_steps t_told t_why t_more v2 v3 (0 : Int32)
def J_X10_run_b107 (k85 : Int32 → Int32 → Int32 → Int32 → Int32 → Int32 → (Nat → Int32) → (Nat → Int32) → (Nat → Int32) → (Nat → Int32) → (Nat → Int32) → (Nat → Int32) → (Nat → Int32) → (Nat → Int32) → Int32 → Int32 → Int32 → Option (Int32 × Int32 × Int32 × Int32 × Int32 × Int32 × Int32 × (Nat → Int32) × (Nat → Int32) × (Nat → Int32) × (Nat → Int32) × (Nat → Int32) × (Nat → Int32) × (Nat → Int32) × (Nat → Int32))) (t_text : Nat → Int32) (t_undos : Int32) (t_length : Int32) (t_at : Int32) (t_order : Int32) (t_whys : Int32) (t_answer : Int32) (t_now : Nat → Int32) (t_tried : Nat → Int32) (t_kept : Nat → Int32) (t_finds : Nat → Int32) (t_steps : Nat → Int32) (t_told : Nat → Int32) (t_why : Nat → Int32) (t_more : Nat → Int32) (v2 : Int32) (v3 : Int32) : Option (Int32 × Int32 × Int32 × Int32 × Int32 × Int32 × Int32 × (Nat → Int32) × (Nat → Int32) × (Nat → Int32) × (Nat → Int32) × (Nat → Int32) × (Nat → Int32) × (Nat → Int32) × (Nat → Int32)) :=
    if v3 = 0 then (
    bnd2 (J_X10_word t_length t_at t_text ([59] : List Int32)) fun x115 t_at_115 =>
    if x115 = 0 then (
    J_X10_run_b125 k85 t_text t_undos t_length t_at_115 t_order t_whys t_answer t_now t_tried t_kept t_finds t_steps t_told t_why t_more v2 v3)
    else (
    J_X10_run_b126 k85 t_text t_undos t_length t_at_115 t_order t_whys t_answer t_now t_tried t_kept t_finds t_steps t_told t_why t_more v2 v3 (1 : Int32)))
    else (
    J_X10_run_b125 k85 t_text t_undos t_length t_at t_order t_whys t_answer t_now t_tried t_kept t_finds t_steps t_told t_why t_more v2 v3)
def J_X10_run_L85 (t_text : Nat → Int32) : Nat → Int32 → Int32 → Int32 → Int32 → Int32 → Int32 → (Nat → Int32) → (Nat → Int32) → (Nat → Int32) → (Nat → Int32) → (Nat → Int32) → (Nat → Int32) → (Nat → Int32) → (Nat → Int32) → Int32 → Int32 → Int32 → Option (Int32 × Int32 × Int32 × Int32 × Int32 × Int32 × Int32 × (Nat → Int32) × (Nat → Int32) × (Nat → Int32) × (Nat → Int32) × (Nat → Int32) × (Nat → Int32) × (Nat → Int32) × (Nat → Int32))
  | 0, _, _, _, _, _, _, _, _, _, _, _, _, _, _, _, _, _ => none
  | nf + 1, t_undos, t_length, t_at, t_order, t_whys, t_answer, t_now, t_tried, t_kept, t_finds, t_steps, t_told, t_why, t_more, v2, v3, v4 =>
    if v4 = 0 then (
    if v3 = 0 then (
    bnd3 (J_X10_keeps t_undos t_tried t_kept v2) fun x142 t_undos_142 t_kept_142 =>
    some (x142, t_undos_142, (0 : Int32), t_at, t_order, t_whys, t_answer, t_now, t_tried, t_kept_142, t_finds, t_steps, t_told, t_why, t_more))
    else (
    bnd1 (J_X10_comesBack t_now t_tried) fun t_now_147 =>
    bnd4 (J_X10_stops t_whys t_why t_more v2 v3) fun x153 t_whys_153 t_why_153 t_more_153 =>
    some (x153, t_undos, (0 : Int32), t_at, t_order, t_whys_153, t_answer, t_now_147, t_tried, t_kept, t_finds, t_steps, t_told, t_why_153, t_more_153)))
    else (
    bnd4 (J_X10_isOrder t_length t_at t_order t_text t_told) fun x91 t_at_91 t_order_91 t_told_91 =>
    bnd8 (J_X10_carries t_order_91 t_whys t_answer t_now t_finds t_steps t_told_91 t_why t_more) fun x96 t_whys_96 t_answer_96 t_now_96 t_finds_96 t_steps_96 t_why_96 t_more_96 =>
    if x96 = 0 then (
    nm (v2 + Int32.ofInt 1) fun x104 =>
    J_X10_run_b107 (fun z0 z1 z2 z3 z4 z5 z6 z7 z8 z9 z10 z11 z12 z13 z14 z15 z16 => J_X10_run_L85 t_text nf z0 z1 z2 z3 z4 z5 z6 z7 z8 z9 z10 z11 z12 z13 z14 z15 z16) t_text t_undos t_length t_at_91 t_order_91 t_whys_96 t_answer_96 t_now_96 t_tried t_kept t_finds_96 t_steps_96 t_told_91 t_why_96 t_more_96 x104 x96)
    else (
    J_X10_run_b107 (fun z0 z1 z2 z3 z4 z5 z6 z7 z8 z9 z10 z11 z12 z13 z14 z15 z16 => J_X10_run_L85 t_text nf z0 z1 z2 z3 z4 z5 z6 z7 z8 z9 z10 z11 z12 z13 z14 z15 z16) t_text t_undos t_length t_at_91 t_order_91 t_whys_96 t_answer_96 t_now_96 t_tried t_kept t_finds_96 t_steps_96 t_told_91 t_why_96 t_more_96 v2 x96))
def J_X10_run_b55 (t_text : Nat → Int32) (t_undos : Int32) (t_length : Int32) (t_at : Int32) (t_order : Int32) (t_whys : Int32) (t_answer : Int32) (t_now : Nat → Int32) (t_tried : Nat → Int32) (t_kept : Nat → Int32) (t_finds : Nat → Int32) (t_steps : Nat → Int32) (t_told : Nat → Int32) (t_why : Nat → Int32) (t_more : Nat → Int32) (v1 : Int32) : Option (Int32 × Int32 × Int32 × Int32 × Int32 × Int32 × Int32 × (Nat → Int32) × (Nat → Int32) × (Nat → Int32) × (Nat → Int32) × (Nat → Int32) × (Nat → Int32) × (Nat → Int32) × (Nat → Int32)) :=
    if v1 = 0 then (
    some ((-1000 : Int32) - t_at, t_undos, (0 : Int32), t_at, t_order, t_whys, t_answer, t_now, t_tried, t_kept, t_finds, t_steps, t_told, t_why, t_more))
    else (
    J_X10_run_L85 t_text FU t_undos t_length (0 : Int32) t_order t_whys t_answer t_now t_tried t_kept t_finds t_steps t_told t_why t_more (0 : Int32) (0 : Int32) (1 : Int32))
def J_X10_run_L14 (t_text : Nat → Int32) : Nat → Int32 → Int32 → Int32 → Int32 → Int32 → Int32 → (Nat → Int32) → (Nat → Int32) → (Nat → Int32) → (Nat → Int32) → (Nat → Int32) → (Nat → Int32) → (Nat → Int32) → (Nat → Int32) → Int32 → Option (Int32 × Int32 × Int32 × Int32 × Int32 × Int32 × Int32 × (Nat → Int32) × (Nat → Int32) × (Nat → Int32) × (Nat → Int32) × (Nat → Int32) × (Nat → Int32) × (Nat → Int32) × (Nat → Int32))
  | 0, _, _, _, _, _, _, _, _, _, _, _, _, _, _, _ => none
  | nf + 1, t_undos, t_length, t_at, t_order, t_whys, t_answer, t_now, t_tried, t_kept, t_finds, t_steps, t_told, t_why, t_more, v1 =>
    if v1 = 0 then (
    J_X10_run_b55 t_text t_undos t_length t_at t_order t_whys t_answer t_now t_tried t_kept t_finds t_steps t_told t_why t_more v1)
    else (
    if t_length ≤ t_at then (
    J_X10_run_b55 t_text t_undos t_length t_at t_order t_whys t_answer t_now t_tried t_kept t_finds t_steps t_told t_why t_more v1)
    else (
    bnd2 (J_X10_word t_length t_at t_text ([59] : List Int32)) fun x33 t_at_33 =>
    if x33 = 0 then (
    J_X10_run_b50 (fun z0 z1 z2 z3 z4 z5 z6 z7 z8 z9 z10 z11 z12 z13 z14 => J_X10_run_L14 t_text nf z0 z1 z2 z3 z4 z5 z6 z7 z8 z9 z10 z11 z12 z13 z14) t_text t_undos t_length t_at_33 t_order t_whys t_answer t_now t_tried t_kept t_finds t_steps t_told t_why t_more)
    else (
    bnd4 (J_X10_isOrder t_length t_at_33 t_order t_text t_told) fun x40 t_at_40 t_order_40 t_told_40 =>
    if x40 = 0 then (
    J_X10_run_b50 (fun z0 z1 z2 z3 z4 z5 z6 z7 z8 z9 z10 z11 z12 z13 z14 => J_X10_run_L14 t_text nf z0 z1 z2 z3 z4 z5 z6 z7 z8 z9 z10 z11 z12 z13 z14) t_text t_undos t_length t_at_40 t_order_40 t_whys t_answer t_now t_tried t_kept t_finds t_steps t_told_40 t_why t_more)
    else (
    J_X10_run_b51 (fun z0 z1 z2 z3 z4 z5 z6 z7 z8 z9 z10 z11 z12 z13 z14 => J_X10_run_L14 t_text nf z0 z1 z2 z3 z4 z5 z6 z7 z8 z9 z10 z11 z12 z13 z14) t_text t_undos t_length t_at_40 t_order_40 t_whys t_answer t_now t_tried t_kept t_finds t_steps t_told_40 t_why t_more (1 : Int32)))))
def J_X10_run (t_undos : Int32) (t_length : Int32) (t_at : Int32) (t_order : Int32) (t_whys : Int32) (t_answer : Int32) (t_now : Nat → Int32) (t_tried : Nat → Int32) (t_kept : Nat → Int32) (t_finds : Nat → Int32) (t_steps : Nat → Int32) (t_text : Nat → Int32) (t_told : Nat → Int32) (t_why : Nat → Int32) (t_more : Nat → Int32) : Option (Int32 × Int32 × Int32 × Int32 × Int32 × Int32 × Int32 × (Nat → Int32) × (Nat → Int32) × (Nat → Int32) × (Nat → Int32) × (Nat → Int32) × (Nat → Int32) × (Nat → Int32) × (Nat → Int32)) :=
    bnd1 (J_X10_tries t_now t_tried) fun t_tried_1 =>
    bnd4 (J_X10_isOrder t_length (0 : Int32) t_order t_text t_told) fun x10 t_at_10 t_order_10 t_told_10 =>
    J_X10_run_L14 t_text FU t_undos t_length t_at_10 t_order_10 t_whys t_answer t_now t_tried_1 t_kept t_finds t_steps t_told_10 t_why t_more x10
def J_X10_writes_L2 (b1 : List Int32) : Nat → Int32 → (Nat → Int32) → Int32 → Option (Int32 × (Nat → Int32))
  | 0, _, _, _ => none
  | nf + 1, t_lined, t_line, v2 =>
    bnd1 (J_J0_length_8abf5 b1) fun x4 =>
    if x4 ≤ v2 then (
    some (t_lined, t_line))
    else (
    nm (t_lined + (1 : Int32)) fun x21 =>
    bnd1 (J_J0_charAt_5068e b1 v2) fun x27 =>
    chk t_lined 40 (
    nm (v2 + Int32.ofInt 1) fun x31 =>
    J_X10_writes_L2 b1 nf x21 (upd t_line t_lined.toNatClampNeg x27) x31))
def J_X10_writes (t_lined : Int32) (t_line : Nat → Int32) (b1 : List Int32) : Option (Int32 × (Nat → Int32)) :=
    J_X10_writes_L2 b1 FU t_lined t_line (0 : Int32)
def J_X10_tellLantern_b108 (k53 : Int32 → (Nat → Int32) → Int32 → Option (Int32 × Int32 × (Nat → Int32))) (t_now : Nat → Int32) (v1 : Int32) (t_lined : Int32) (t_line : Nat → Int32) (v2 : Int32) : Option (Int32 × Int32 × (Nat → Int32)) :=
    nm (v2 + Int32.ofInt 1) fun x108 =>
    k53 t_lined t_line x108
def J_X10_tellLantern_b76 (k53 : Int32 → (Nat → Int32) → Int32 → Option (Int32 × Int32 × (Nat → Int32))) (t_now : Nat → Int32) (v1 : Int32) (t_lined : Int32) (t_line : Nat → Int32) (v2 : Int32) (s76_1 : List Int32) : Option (Int32 × Int32 × (Nat → Int32)) :=
    bnd2 (J_X10_writes t_lined t_line s76_1) fun t_lined_76 t_line_76 =>
    bnd1 (J_X10_wired t_now v1 v2) fun x82 =>
    if 0 ≤ x82 then (
    bnd1 (J_X10_wired t_now v1 v2) fun x102 =>
    bnd2 (J_X10_writesNumber t_lined_76 t_line_76 x102) fun t_lined_105 t_line_105 =>
    J_X10_tellLantern_b108 k53 t_now v1 t_lined_105 t_line_105 v2)
    else (
    bnd2 (J_X10_writes t_lined_76 t_line_76 ([45] : List Int32)) fun t_lined_92 t_line_92 =>
    J_X10_tellLantern_b108 k53 t_now v1 t_lined_92 t_line_92 v2)
def J_X10_tellLantern_b146 (t_now : Nat → Int32) (v1 : Int32) (t_lined : Int32) (t_line : Nat → Int32) : Option (Int32 × Int32 × (Nat → Int32)) :=
    some (t_lined, t_lined, t_line)
def J_X10_tellLantern_b129 (t_now : Nat → Int32) (v1 : Int32) (t_lined : Int32) (t_line : Nat → Int32) : Option (Int32 × Int32 × (Nat → Int32)) :=
    bnd1 (J_X10_of t_now v1 (2 : Int32)) fun x132 =>
    if x132 = (1 : Int32) then (
    bnd2 (J_X10_writes t_lined t_line ([35] : List Int32)) fun t_lined_143 t_line_143 =>
    J_X10_tellLantern_b146 t_now v1 t_lined_143 t_line_143)
    else (
    J_X10_tellLantern_b146 t_now v1 t_lined t_line)
def J_X10_tellLantern_L53 (t_now : Nat → Int32) (v1 : Int32) : Nat → Int32 → (Nat → Int32) → Int32 → Option (Int32 × Int32 × (Nat → Int32))
  | 0, _, _, _ => none
  | nf + 1, t_lined, t_line, v2 =>
    bnd1 (J_X10_places t_now v1) fun x56 =>
    if x56 ≤ v2 then (
    bnd1 (J_X10_isSwitch t_now v1) fun x116 =>
    if x116 = 0 then (
    bnd2 (J_X10_writes t_lined t_line ([41] : List Int32)) fun t_lined_126 t_line_126 =>
    J_X10_tellLantern_b129 t_now v1 t_lined_126 t_line_126)
    else (
    J_X10_tellLantern_b129 t_now v1 t_lined t_line))
    else (
    if v2 = 0 then (
    J_X10_tellLantern_b76 (fun z0 z1 z2 => J_X10_tellLantern_L53 t_now v1 nf z0 z1 z2) t_now v1 t_lined t_line v2 ([40] : List Int32))
    else (
    J_X10_tellLantern_b76 (fun z0 z1 z2 => J_X10_tellLantern_L53 t_now v1 nf z0 z1 z2) t_now v1 t_lined t_line v2 ([44] : List Int32)))
def J_X10_tellLantern (t_lined : Int32) (t_now : Nat → Int32) (t_line : Nat → Int32) (v1 : Int32) : Option (Int32 × Int32 × (Nat → Int32)) :=
    bnd1 (J_X10_isLantern t_now v1) fun x2 =>
    if x2 = 0 then (
    some ((-11 : Int32), t_lined, t_line))
    else (
    bnd2 (J_X10_writesNumber (0 : Int32) t_line v1) fun t_lined_18 t_line_18 =>
    bnd2 (J_X10_writes t_lined_18 t_line_18 ([58] : List Int32)) fun t_lined_25 t_line_25 =>
    bnd1 (J_X10_of t_now v1 (0 : Int32)) fun x32 =>
    bnd1 (J_X10_kindWord x32) fun x35 =>
    bnd2 (J_X10_writes t_lined_25 t_line_25 (strB_X10_kindWord x35)) fun t_lined_38 t_line_38 =>
    bnd1 (J_X10_of t_now v1 (1 : Int32)) fun x45 =>
    bnd2 (J_X10_writesNumber t_lined_38 t_line_38 x45) fun t_lined_48 t_line_48 =>
    J_X10_tellLantern_L53 t_now v1 FU t_lined_48 t_line_48 (0 : Int32))
def J_X10_meanWick_b39 (k6 : Int32 → Int32 → Int32 → Option (UInt64)) (t_now : Nat → Int32) (v1 : Int32) (v2 : Int32) (v3 : Int32) : Option (UInt64) :=
    nm (v3 + Int32.ofInt 1) fun x39 =>
    k6 v1 v2 x39
def J_X10_meanWick_b58 (t_now : Nat → Int32) (s58_0 : UInt64) : Option (UInt64) :=
    some (s58_0)
def J_X10_meanWick_L6 (t_now : Nat → Int32) : Nat → Int32 → Int32 → Int32 → Option (UInt64)
  | 0, _, _, _ => none
  | nf + 1, v1, v2, v3 =>
    chk (0 : Int32) 133 (
    nm (t_now (0 : Int32).toNatClampNeg) fun x12 =>
    if x12 ≤ v3 then (
    if v1 = 0 then (
    J_X10_meanWick_b58 t_now (FP.dconst0))
    else (
    chd (FP.ddiv (FP.i2d v2) (FP.i2d v1)) (
    J_X10_meanWick_b58 t_now (FP.ddiv (FP.i2d v2) (FP.i2d v1)))))
    else (
    bnd1 (J_X10_isSwitch t_now v3) fun x18 =>
    if x18 = 0 then (
    nm (v1 + Int32.ofInt 1) fun x27 =>
    bnd1 (J_X10_of t_now v3 (1 : Int32)) fun x34 =>
    nm (v2 + x34) fun x37 =>
    J_X10_meanWick_b39 (fun z0 z1 z2 => J_X10_meanWick_L6 t_now nf z0 z1 z2) t_now x27 x37 v3)
    else (
    J_X10_meanWick_b39 (fun z0 z1 z2 => J_X10_meanWick_L6 t_now nf z0 z1 z2) t_now v1 v2 v3)))
def J_X10_meanWick (t_now : Nat → Int32) : Option (UInt64) :=
    J_X10_meanWick_L6 t_now FU (0 : Int32) (0 : Int32) (0 : Int32)
def J_X10_glowShare_b26 (t_now : Nat → Int32) (s26_0 : UInt32) : Option (UInt32) :=
    some (s26_0)
def J_X10_glowShare (t_now : Nat → Int32) : Option (UInt32) :=
    chk (0 : Int32) 133 (
    nm (t_now (0 : Int32).toNatClampNeg) fun x5 =>
    if x5 = 0 then (
    J_X10_glowShare_b26 t_now (FP.fconst0))
    else (
    bnd1 (J_X10_glowing t_now) fun x14 =>
    chk (0 : Int32) 133 (
    nm (t_now (0 : Int32).toNatClampNeg) fun x23 =>
    chf (FP.fdiv (FP.i2f x14) (FP.i2f x23)) (
    J_X10_glowShare_b26 t_now (FP.fdiv (FP.i2f x14) (FP.i2f x23))))))

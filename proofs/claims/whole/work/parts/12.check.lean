/-! does a block say what the bytes say -/
def cnc : ClassFile.Cond → Int
  | .eq => 0
  | .ne => 1
  | .lt => 2
  | .ge => 3
  | .gt => 4
  | .le => 5
def flq (y ix : Nat) (op : Op) : Bool := flL.any fun q => decide (q.1.1 = ow y ∧ q.1.2.1 = ix ∧ (q.1.2.2.1 : Int) = op.2.2 ∧ q.1.2.2.2 = op.2.1)
def flw (y ix : Nat) (op : Op) : Bool := flL.any fun q => decide (q.1.1 = ow y ∧ q.1.2.1 = ix ∧ (q.1.2.2.1 : Int) = op.2.2 ∧ q.1.2.2.2 = op.2.1 ∧ q.1.2.2.2 < clN q.1.2.2.1 ∧ q.1.2.2.1 < 9 ∧ (clT q.1.2.2.1 q.1.2.2.2).2.2.2 = false)
def maL : List ((Nat × Nat × Nat) × Nat) := [((3, 121, 41), 545), ((3, 31, 42), 582), ((4, 35, 42), 585), ((3, 110, 39), 541), ((2, 79, 42), 636), ((2, 153, 40), 674)]
def okI (y pc : Nat) (i : Instr) (len : Nat) (op : Op) : Bool :=
  match i with
  | .iload_n k => decide (len = 1 ∧ op = (0, k.val, 0))
  | .iload k => decide (len = 2 ∧ op = (0, k, 0))
  | .aload_n k => decide (len = 1 ∧ op = (47, k.val, 0))
  | .lload k => decide (len = 2 ∧ op = (48, k, 0))
  | .istore_n k => decide (len = 1 ∧ op = (1, k.val, 0))
  | .istore k => decide (len = 2 ∧ op = (1, k, 0))
  | .lstore k => decide (len = 2 ∧ op = (2, k, 0))
  | .iconst v => decide (len = 1 ∧ op = (3, 0, v) ∧ -1 ≤ v ∧ v ≤ 5)
  | .bipush v => decide (len = 2 ∧ op = (3, 0, v) ∧ -128 ≤ v ∧ v ≤ 127)
  | .sipush v => decide (len = 3 ∧ op = (3, 0, v) ∧ -32768 ≤ v ∧ v ≤ 32767)
  | .ldc ix => decide (len = 2 ∧ op = (3, 0, op.2.2) ∧ -2147483648 ≤ op.2.2 ∧ op.2.2 < 2147483648) && csL.any fun q => decide (q.1 = (ow y, ix, op.2.2))
  | .ldc2_w ix => decide (len = 3 ∧ op = (4, 0, op.2.2) ∧ -2147483648 ≤ op.2.2 ∧ op.2.2 < 2147483648) && clL.any fun q => decide (q.1 = (ow y, ix, op.2.2))
  | .lconst n => decide (len = 1 ∧ op = (4, 0, (n.val : Int)))
  | .iinc k v => decide (len = 3 ∧ op = (5, k, v))
  | .iadd => decide (len = 1 ∧ op = (6, 0, 0))
  | .isub => decide (len = 1 ∧ op = (7, 0, 0))
  | .imul => decide (len = 1 ∧ op = (8, 0, 0))
  | .iand => decide (len = 1 ∧ op = (9, 0, 0))
  | .ior => decide (len = 1 ∧ op = (10, 0, 0))
  | .ishl => decide (len = 1 ∧ op = (11, 0, 0))
  | .ishr => decide (len = 1 ∧ op = (12, 0, 0))
  | .idiv => decide (len = 1 ∧ op = (13, 0, 0))
  | .irem => decide (len = 1 ∧ op = (14, 0, 0))
  | .ineg => decide (len = 1 ∧ op = (15, 0, 0))
  | .i2l => decide (len = 1 ∧ op = (16, 0, 0))
  | .l2i => decide (len = 1 ∧ op = (17, 0, 0))
  | .ladd => decide (len = 1 ∧ op = (18, 0, 0))
  | .lmul => decide (len = 1 ∧ op = (19, 0, 0))
  | .ldiv => decide (len = 1 ∧ op = (20, 0, 0))
  | .lcmp => decide (len = 1 ∧ op = (21, 0, 0))
  | .getfield ix => decide (len = 3 ∧ op.1 = 22) && (flq y ix op || decide (ow y = 7 ∧ ix = 211 ∧ op = (22, 0, 2)))
  | .putfield ix => decide (len = 3 ∧ op.1 = 23) && flw y ix op
  | .iaload => decide (len = 1 ∧ (op = (24, 0, 0) ∨ (y = 0 ∧ op = (44, 0, 0))))
  | .iastore => decide (len = 1 ∧ op = (25, 0, 0))
  | .bastore => decide (len = 1 ∧ op = (26, 0, 0))
  | .laload => decide (len = 1 ∧ op = (27, 0, 0))
  | .lastore => decide (len = 1 ∧ op = (28, 0, 0))
  | .baload => decide (len = 1 ∧ op = (46, 0, 0))
  | .ifCond c off => decide (len = 3 ∧ op = (29, op.2.1, cnc c) ∧ (pc : Int) + off = (bpc y op.2.1 : Int))
  | .if_icmp c off => decide (len = 3 ∧ op = (30, op.2.1, cnc c) ∧ (pc : Int) + off = (bpc y op.2.1 : Int))
  | .goto off => decide (len = 3 ∧ op = (31, op.2.1, 0) ∧ (pc : Int) + off = (bpc y op.2.1 : Int))
  | .dup => decide (len = 1 ∧ op = (33, 0, 0))
  | .dup2 => decide (len = 1 ∧ op = (34, 0, 0))
  | .pop => decide (len = 1 ∧ op = (35, 0, 0))
  | .tableswitch df lo hi offs => decide (op = (36, op.2.1, 0) ∧ (sw op.2.1).1 = lo ∧ hi = lo + ((sw op.2.1).2.1.length : Int) - 1 ∧ (pc : Int) + df = (bpc y (sw op.2.1).2.2 : Int)) && (List.range (sw op.2.1).2.1.length).all fun j => decide (offs[j]? = some ((bpc y (nt (sw op.2.1).2.2 (sw op.2.1).2.1 j) : Int) - pc))
  | .ireturn => decide (len = 1 ∧ ((op = (37, 0, 0) ∧ rty y = some .int) ∨ (op = (37, 0, 1) ∧ rty y = some .boolean)))
  | .return_ => decide (len = 1 ∧ op = (38, 0, 0) ∧ rty y = none)
  | .arraylength => decide (len = 1 ∧ (op = (43, 0, 0) ∨ (y = 0 ∧ op = (45, 0, 0))))
  | .invokevirtual ix => decide (len = 3 ∧ op.1 = 50 + nar op.2.1 ∧ ist op.2.1 = false ∧ 1 ≤ nar op.2.1 ∧ op.2.1 ≠ 0 ∧ op.2.1 < 133 ∧ ((op.2.2 = 0 ∧ rty op.2.1 = none) ∨ (op.2.2 = 1 ∧ (rty op.2.1 = some .int ∨ rty op.2.1 = some .boolean)))) && mlL.any fun q => decide (q.1 = (ow y, ix, op.2.1))
  | .invokestatic ix => decide (len = 3) && ((decide (op.1 = 50 + nar op.2.1 ∧ ist op.2.1 = true ∧ 1 ≤ nar op.2.1 ∧ op.2.1 ≠ 0 ∧ op.2.1 < 133 ∧ ((op.2.2 = 0 ∧ rty op.2.1 = none) ∨ (op.2.2 = 1 ∧ (rty op.2.1 = some .int ∨ rty op.2.1 = some .boolean)))) && ((mlL.any fun q => decide (q.1 = (ow y, ix, op.2.1))) || decide (ow y = 0 ∧ ix = 48 ∧ op.2.1 = 76))) || (decide (op = (op.1, 0, 0) ∧ 39 ≤ op.1 ∧ op.1 ≤ 42) && maL.any fun q => decide (q.1 = (ow y, ix, op.1))))
  | .astore_n k => decide (len = 1 ∧ op = (49, k.val, 0))
  | .aload k => decide (len = 2 ∧ op = (47, k, 0))
  | _ => false
def okE (op : Op) : Bool := decide (op.1 = 31 ∨ op.1 = 36 ∨ op.1 = 37 ∨ op.1 = 38)
def okB (y : Nat) : List Op → Nat → Bool
  | [], _ => false
  | op :: os, pc => if op.1 = 32 then decide (pc = bpc y op.2.1) else
    match decode (cod y) pc with
    | .ok (i, len) => okI y pc i len op && (okE op || okB y os (pc + len))
    | .error _ => false

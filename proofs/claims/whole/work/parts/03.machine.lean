/-! a small machine over whole numbers: cells are numbered, a reference is a cell's number -/
abbrev AV : Type := Int ⊕ (Int ⊕ Nat)
abbrev Me : Type := Nat → Int → Int
abbrev Lo : Type := List (Option AV)
abbrev St : Type := List AV
abbrev Op : Type := Nat × Nat × Int
abbrev Ou : Type := Nat × Nat × Lo × St × Me × List AV × Int
abbrev vI (x : Int) : AV := .inl x
abbrev vL (x : Int) : AV := .inr (.inl x)
abbrev vR (k : Nat) : AV := .inr (.inr k)
def w32 (x : Int) : Int := x.bmod 4294967296
def w64 (x : Int) : Int := x.bmod 18446744073709551616
def me_put (M : Me) (k : Nat) (i v : Int) : Me := fun a b => if a = k ∧ b = i then v else M a b
def me_cpy (M : Me) (sk : Nat) (sp : Int) (dk : Nat) (dp n : Int) : Me := fun a b => if a = dk ∧ dp ≤ b ∧ b < dp + n then M sk (sp + (b - dp)) else M a b
/-- the n-th of a list, else a default -/
def nt {α : Type} (d : α) : List α → Nat → α
  | [], _ => d
  | a :: _, 0 => a
  | _ :: l, n + 1 => nt d l n
def lg (lo : Lo) (i : Nat) : Option AV := nt none lo i
def lz : Lo → Nat → AV → Lo
  | [], _, _ => []
  | _ :: l, 0, v => some v :: l
  | a :: l, n + 1, v => a :: lz l n v
def ly : Lo → Nat → Lo
  | [], _ => []
  | _ :: l, 0 => none :: l
  | a :: l, n + 1 => a :: ly l n
def isL : Option AV → Bool
  | some (.inr (.inl _)) => true
  | _ => false
def lp (lo : Lo) : Nat → Bool
  | 0 => false
  | n + 1 => isL (lg lo n)
def cnd (c : Int) (x y : Int) : Prop := (c = 0 ∧ x = y) ∨ (c = 1 ∧ x ≠ y) ∨ (c = 2 ∧ x < y) ∨ (c = 3 ∧ x ≥ y) ∨ (c = 4 ∧ x > y) ∨ (c = 5 ∧ x ≤ y)
noncomputable def iand (x y : Int) : Int := (Int32.ofInt x &&& Int32.ofInt y).toInt
noncomputable def ior (x y : Int) : Int := (Int32.ofInt x ||| Int32.ofInt y).toInt
noncomputable def ishl (x y : Int) : Int := (Int32.ofInt x <<< (Int32.ofInt y &&& 31)).toInt
noncomputable def ishr (x y : Int) : Int := (Int32.ofInt x >>> (Int32.ofInt y &&& 31)).toInt
abbrev nx (lo : Lo) (st : St) (M : Me) : Option Ou := some (0, 0, lo, st, M, [], 0)
abbrev jp (t : Nat) (lo : Lo) (st : St) (M : Me) : Option Ou := some (1, t, lo, st, M, [], 0)
abbrev cl (z : Nat) (lo : Lo) (st : St) (M : Me) (as : List AV) (f : Int) : Option Ou := some (2, z, lo, st, M, as, f)
abbrev rt (M : Me) (v : Int) : Option Ou := some (3, 0, [], [], M, [], v)
def swj (q : Int × List Nat × Nat) (x : Int) : Nat := if x < q.1 then q.2.2 else nt q.2.2 q.2.1 (x - q.1).toNat

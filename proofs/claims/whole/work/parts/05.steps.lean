def cnb (c x y : Int) : Bool := if c = 0 then decide (x = y) else if c = 1 then decide (x ≠ y) else if c = 2 then decide (x < y) else if c = 3 then decide (x ≥ y) else if c = 4 then decide (x > y) else decide (x ≤ y)
noncomputable def stepF (op : Op) (lo : Lo) (st : St) (M : Me) : Option Ou :=
  match op.1 with
  | 0 => match lg lo op.2.1 with
    | some (.inl x) => nx lo (.inl x :: st) M
    | _ => none
  | 47 => match lg lo op.2.1 with
    | some (.inr (.inr x)) => nx lo (.inr (.inr x) :: st) M
    | _ => none
  | 48 => match lg lo op.2.1 with
    | some (.inr (.inl x)) => nx lo (.inr (.inl x) :: st) M
    | _ => none
  | 1 => match st with
    | .inl x :: st' => if lp lo op.2.1 || decide (lo.length ≤ op.2.1) then none else nx (lz lo op.2.1 (.inl x)) st' M
    | _ => none
  | 49 => match st with
    | .inr (.inr x) :: st' => if lp lo op.2.1 || decide (lo.length ≤ op.2.1) then none else nx (lz lo op.2.1 (.inr (.inr x))) st' M
    | _ => none
  | 2 => match st with
    | .inr (.inl x) :: st' => if lp lo op.2.1 || decide (lo.length ≤ op.2.1 + 1) then none else nx (ly (lz lo op.2.1 (vL x)) (op.2.1 + 1)) st' M
    | _ => none
  | 3 => nx lo (vI op.2.2 :: st) M
  | 4 => nx lo (vL op.2.2 :: st) M
  | 5 => match lg lo op.2.1 with
    | some (.inl x) => if lp lo op.2.1 || decide (lo.length ≤ op.2.1) then none else nx (lz lo op.2.1 (vI (w32 (x + op.2.2)))) st M
    | _ => none
  | 6 => match st with
    | .inl y :: .inl x :: st' => nx lo (vI (w32 (x + y)) :: st') M
    | _ => none
  | 7 => match st with
    | .inl y :: .inl x :: st' => nx lo (vI (w32 (x - y)) :: st') M
    | _ => none
  | 8 => match st with
    | .inl y :: .inl x :: st' => nx lo (vI (w32 (x * y)) :: st') M
    | _ => none
  | 9 => match st with
    | .inl y :: .inl x :: st' => nx lo (vI (iand x y) :: st') M
    | _ => none
  | 10 => match st with
    | .inl y :: .inl x :: st' => nx lo (vI (ior x y) :: st') M
    | _ => none
  | 11 => match st with
    | .inl y :: .inl x :: st' => nx lo (vI (ishl x y) :: st') M
    | _ => none
  | 12 => match st with
    | .inl y :: .inl x :: st' => nx lo (vI (ishr x y) :: st') M
    | _ => none
  | 13 => match st with
    | .inl y :: .inl x :: st' => if y = 0 then none else nx lo (vI (w32 (x.tdiv y)) :: st') M
    | _ => none
  | 14 => match st with
    | .inl y :: .inl x :: st' => if y = 0 then none else nx lo (vI (x.tmod y) :: st') M
    | _ => none
  | 15 => match st with
    | .inl x :: st' => nx lo (vI (w32 (-x)) :: st') M
    | _ => none
  | 16 => match st with
    | .inl x :: st' => nx lo (vL x :: st') M
    | _ => none
  | 17 => match st with
    | .inr (.inl x) :: st' => nx lo (vI (w32 x) :: st') M
    | _ => none
  | 18 => match st with
    | .inr (.inl y) :: .inr (.inl x) :: st' => nx lo (vL (w64 (x + y)) :: st') M
    | _ => none
  | 19 => match st with
    | .inr (.inl y) :: .inr (.inl x) :: st' => nx lo (vL (w64 (x * y)) :: st') M
    | _ => none
  | 20 => match st with
    | .inr (.inl y) :: .inr (.inl x) :: st' => if y = 0 then none else nx lo (vL (w64 (x.tdiv y)) :: st') M
    | _ => none
  | 21 => match st with
    | .inr (.inl y) :: .inr (.inl x) :: st' => nx lo (vI (if x < y then -1 else if x = y then 0 else 1) :: st') M
    | _ => none
  | 22 => match st with
    | .inr (.inr o) :: st' => if (oc o : Int) = op.2.2 then (match fk o op.2.1 with
      | 0 => nx lo (vI (M o op.2.1) :: st') M
      | 1 => nx lo (vI (M o op.2.1) :: st') M
      | r + 2 => nx lo (vR r :: st') M) else none
    | _ => none
  | 23 => match st with
    | .inl v :: .inr (.inr o) :: st' => if (oc o : Int) = op.2.2 then (match fk o op.2.1 with
      | 0 => nx lo st' (me_put M o op.2.1 v)
      | 1 => if v = 0 ∨ v = 1 then nx lo st' (me_put M o op.2.1 v) else none
      | _ + 2 => none) else none
    | _ => none
  | 24 => match st with
    | .inl i :: .inr (.inr a) :: st' => if kd a = 1 ∧ 0 ≤ i ∧ i < ln a then nx lo (vI (M a i) :: st') M else none
    | _ => none
  | 25 => match st with
    | .inl v :: .inl i :: .inr (.inr a) :: st' => if kd a = 1 ∧ 0 ≤ i ∧ i < ln a then nx lo st' (me_put M a i v) else none
    | _ => none
  | 26 => match st with
    | .inl v :: .inl i :: .inr (.inr a) :: st' => if kd a = 2 ∧ (v = 0 ∨ v = 1) ∧ 0 ≤ i ∧ i < ln a then nx lo st' (me_put M a i v) else none
    | _ => none
  | 27 => match st with
    | .inl i :: .inr (.inr a) :: st' => if kd a = 3 ∧ 0 ≤ i ∧ i < ln a then nx lo (vL (M a i) :: st') M else none
    | _ => none
  | 28 => match st with
    | .inr (.inl v) :: .inl i :: .inr (.inr a) :: st' => if kd a = 3 ∧ 0 ≤ i ∧ i < ln a then nx lo st' (me_put M a i v) else none
    | _ => none
  | 29 => match st with
    | .inl x :: st' => if cnb op.2.2 x 0 then jp op.2.1 lo st' M else nx lo st' M
    | _ => none
  | 30 => match st with
    | .inl y :: .inl x :: st' => if cnb op.2.2 x y then jp op.2.1 lo st' M else nx lo st' M
    | _ => none
  | 31 => jp op.2.1 lo st M
  | 32 => jp op.2.1 lo st M
  | 33 => match st with
    | .inl x :: st' => nx lo (.inl x :: .inl x :: st') M
    | .inr (.inr x) :: st' => nx lo (.inr (.inr x) :: .inr (.inr x) :: st') M
    | _ => none
  | 34 => match st with
    | .inl x :: .inr (.inr a) :: st' => nx lo (.inl x :: .inr (.inr a) :: .inl x :: .inr (.inr a) :: st') M
    | _ => none
  | 35 => match st with
    | .inl _ :: st' => nx lo st' M
    | _ => none
  | 36 => match st with
    | .inl x :: st' => jp (swj (sw op.2.1) x) lo st' M
    | _ => none
  | 37 => match st with
    | [.inl v] => if op.2.2 = 1 ∧ ¬ (v = 0 ∨ v = 1) then none else rt M v
    | _ => none
  | 38 => match st with
    | [] => rt M 0
    | _ => none
  | 39 => match st with
    | .inl y :: .inl x :: st' => if st'.length ≤ 4 then nx lo (vI (if x < y then y else x) :: st') M else none
    | _ => none
  | 40 => match st with
    | .inl y :: .inl x :: st' => if st'.length ≤ 4 then nx lo (vI (if y < x then y else x) :: st') M else none
    | _ => none
  | 41 => match st with
    | .inr (.inl y) :: .inr (.inl x) :: st' => if st'.length ≤ 4 then nx lo (vL (if y < x then y else x) :: st') M else none
    | _ => none
  | 42 => match st with
    | [.inl n, .inl dp, .inr (.inr dk), .inl sp, .inr (.inr sk)] => if kd dk = 1 ∧ kd sk = 1 ∧ 0 ≤ n ∧ 0 ≤ dp ∧ 0 ≤ sp ∧ dp + n ≤ ln dk ∧ sp + n ≤ ln sk then nx lo [] (me_cpy M sk sp dk dp n) else none
    | _ => none
  | 43 => match st with
    | .inr (.inr a) :: st' => if kd a = 1 then nx lo (vI (ln a) :: st') M else none
    | _ => none
  | 44 => match st with
    | .inl i :: .inr (.inr a) :: st' => if a = 99 ∧ 0 ≤ i ∧ i < M 98 0 then nx lo (vI (M 99 i) :: st') M else none
    | _ => none
  | 45 => match st with
    | .inr (.inr a) :: st' => if a = 99 then nx lo (vI (M 98 0) :: st') M else none
    | _ => none
  | 46 => match st with
    | .inl i :: .inr (.inr a) :: st' => if kd a = 2 ∧ 0 ≤ i ∧ i < ln a then nx lo (vI (M a i) :: st') M else none
    | _ => none
  | 51 => match st with
    | a0 :: st' => if st'.length ≤ 4 then cl op.2.1 lo st' M [a0] op.2.2 else none
    | _ => none
  | 52 => match st with
    | a1 :: a0 :: st' => if st'.length ≤ 4 then cl op.2.1 lo st' M [a0, a1] op.2.2 else none
    | _ => none
  | 53 => match st with
    | a2 :: a1 :: a0 :: st' => if st'.length ≤ 4 then cl op.2.1 lo st' M [a0, a1, a2] op.2.2 else none
    | _ => none
  | 54 => match st with
    | a3 :: a2 :: a1 :: a0 :: st' => if st'.length ≤ 4 then cl op.2.1 lo st' M [a0, a1, a2, a3] op.2.2 else none
    | _ => none
  | 55 => match st with
    | a4 :: a3 :: a2 :: a1 :: a0 :: st' => if st'.length ≤ 4 then cl op.2.1 lo st' M [a0, a1, a2, a3, a4] op.2.2 else none
    | _ => none
  | 56 => match st with
    | a5 :: a4 :: a3 :: a2 :: a1 :: a0 :: st' => if st'.length ≤ 4 then cl op.2.1 lo st' M [a0, a1, a2, a3, a4, a5] op.2.2 else none
    | _ => none
  | _ => none
def en (z : Nat) (as : List AV) : Lo := as.map some ++ List.replicate (mxl z - as.length) none
def res (f v : Int) (st : St) : St := if f = 1 then vI v :: st else st
/-- no long among them -/
def nlg : List AV → Bool
  | [] => true
  | .inl _ :: l => nlg l
  | .inr (.inr _) :: l => nlg l
  | .inr (.inl _) :: _ => false
theorem nlg_n : nlg [] = true := rfl
theorem nlg_I (x : Int) (l : List AV) : nlg (.inl x :: l) = nlg l := rfl
theorem nlg_R (x : Nat) (l : List AV) : nlg (.inr (.inr x) :: l) = nlg l := rfl
/-- what holds behind a run of at most n steps with calls at most d deep -/
def wpf : Nat → Nat → List Op → Nat → Lo → St → Me → (Int → Me → Prop) → Prop
  | 0, _, _, _, _, _, _, _ => False
  | _ + 1, _, [], _, _, _, _, _ => False
  | n + 1, d, op :: os, y, lo, st, M, Q => match stepF op lo st M with
    | some (0, _, lo', st', M', _, _) => wpf n d os y lo' st' M' Q
    | some (1, t, lo', st', M', _, _) => wpf n d (blk y t) y lo' st' M' Q
    | some (2, z, lo', st', M', as, f) => match d with
      | 0 => False
      | d' + 1 => (nlg as && rcvb z as) = true ∧ wpf n d' (blk z 0) z (en z as) [] M' (fun v M2 => wpf n (d' + 1) os y lo' (res f v st') M2 Q)
    | some (3, _, _, _, M', _, v) => Q v M'
    | _ => False
theorem wpf_mono : ∀ (n n' d : Nat) (ops : List Op) (y : Nat) (lo : Lo) (st : St) (M : Me) (Q Q' : Int → Me → Prop), n ≤ n' → (∀ v M2, Q v M2 → Q' v M2) → wpf n d ops y lo st M Q → wpf n' d ops y lo st M Q' := by
  intro n
  induction n with
  | zero => intro n' d ops y lo st M Q Q' _ _ h; exact h.elim
  | succ n ih =>
    intro n' d ops y lo st M Q Q' hn hQ h
    cases n' with
    | zero => omega
    | succ n' =>
      have hn' : n ≤ n' := by omega
      cases ops with
      | nil => exact h.elim
      | cons op os =>
        simp only [wpf] at h ⊢
        generalize stepF op lo st M = r at h ⊢
        match r with
        | none => exact h
        | some (0, _, lo', st', M', _, _) => exact ih _ _ _ _ _ _ _ _ _ hn' hQ h
        | some (1, t, lo', st', M', _, _) => exact ih _ _ _ _ _ _ _ _ _ hn' hQ h
        | some (2, z, lo', st', M', as, f) =>
          cases d with
          | zero => exact h.elim
          | succ d' => exact ⟨h.1, ih _ _ _ _ _ _ _ _ _ hn' (fun v M2 h2 => ih _ _ _ _ _ _ _ _ _ hn' hQ h2) h.2⟩
        | some (3, _, _, _, M', _, v) => exact hQ _ _ h
        | some (k + 4, _, _, _, _, _, _) => exact h
theorem wpf_sup : ∀ (n d : Nat) (ops : List Op) (y : Nat) (lo : Lo) (st : St) (M : Me) (P : Nat → Int → Me → Prop), (∀ k k' v M2, k ≤ k' → P k v M2 → P k' v M2) → wpf n d ops y lo st M (fun v M2 => ∃ k, P k v M2) → ∃ k, wpf n d ops y lo st M (P k) := by
  intro n
  induction n with
  | zero => intro d ops y lo st M P _ h; exact h.elim
  | succ n ih =>
    intro d ops y lo st M P hP h
    cases ops with
    | nil => exact h.elim
    | cons op os =>
      simp only [wpf] at h ⊢
      generalize stepF op lo st M = r at h ⊢
      match r with
      | none => exact h.elim
      | some (0, _, lo', st', M', _, _) => exact ih _ _ _ _ _ _ _ hP h
      | some (1, t, lo', st', M', _, _) => exact ih _ _ _ _ _ _ _ hP h
      | some (2, z, lo', st', M', as, f) =>
        cases d with
        | zero => exact h.elim
        | succ d' =>
          have h1 : wpf n d' (blk z 0) z (en z as) [] M' (fun v M2 => ∃ k, wpf n (d' + 1) os y lo' (res f v st') M2 (P k)) :=
            wpf_mono _ _ _ _ _ _ _ _ _ _ (Nat.le_refl n) (fun v M2 h2 => ih _ _ _ _ _ _ _ hP h2) h.2
          obtain ⟨k, hk⟩ := ih _ _ _ _ _ _ (fun k v M2 => wpf n (d' + 1) os y lo' (res f v st') M2 (P k)) (fun k k' v M2 hk h2 => wpf_mono _ _ _ _ _ _ _ _ _ _ (Nat.le_refl n) (fun v M2 h3 => hP k k' v M2 hk h3) h2) h1
          exact ⟨k, h.1, hk⟩
      | some (3, _, _, _, M', _, v) => exact h
      | some (k + 4, _, _, _, _, _, _) => exact h.elim
/-- the run from here comes to an end with Q -/
def Rn (d : Nat) (ops : List Op) (y : Nat) (lo : Lo) (st : St) (M : Me) (Q : Int → Me → Prop) : Prop := ∃ n, wpf n d ops y lo st M Q
/-- a call of method z comes to an end with Q -/
def Cl (d z : Nat) (as : List AV) (M : Me) (Q : Int → Me → Prop) : Prop := Rn d (blk z 0) z (en z as) [] M Q
theorem Rn.mono {d : Nat} {ops : List Op} {y : Nat} {lo : Lo} {st : St} {M : Me} {Q Q' : Int → Me → Prop} (h : Rn d ops y lo st M Q) (hQ : ∀ v M2, Q v M2 → Q' v M2) : Rn d ops y lo st M Q' := by
  obtain ⟨n, h⟩ := h
  exact ⟨n, wpf_mono _ _ _ _ _ _ _ _ _ _ (Nat.le_refl n) hQ h⟩
theorem Cl.mono {d z : Nat} {as : List AV} {M : Me} {Q Q' : Int → Me → Prop} (h : Cl d z as M Q) (hQ : ∀ v M2, Q v M2 → Q' v M2) : Cl d z as M Q' := Rn.mono h hQ
theorem Rn_nx {d : Nat} {op : Op} {os : List Op} {y : Nat} {lo lo' : Lo} {st st' : St} {M M' : Me} {Q : Int → Me → Prop} {a : Nat} {b : List AV} {c : Int} (h : stepF op lo st M = some (0, a, lo', st', M', b, c)) : Rn d (op :: os) y lo st M Q = Rn d os y lo' st' M' Q := by
  apply propext
  constructor
  · rintro ⟨n, hn⟩
    cases n with
    | zero => exact hn.elim
    | succ n => simp only [wpf, h] at hn; exact ⟨n, hn⟩
  · rintro ⟨n, hn⟩
    exact ⟨n + 1, by simp only [wpf, h]; exact hn⟩
theorem Rn_jp {d : Nat} {op : Op} {os : List Op} {y t : Nat} {lo lo' : Lo} {st st' : St} {M M' : Me} {Q : Int → Me → Prop} {b : List AV} {c : Int} (h : stepF op lo st M = some (1, t, lo', st', M', b, c)) : Rn d (op :: os) y lo st M Q = Rn d (blk y t) y lo' st' M' Q := by
  apply propext
  constructor
  · rintro ⟨n, hn⟩
    cases n with
    | zero => exact hn.elim
    | succ n => simp only [wpf, h] at hn; exact ⟨n, hn⟩
  · rintro ⟨n, hn⟩
    exact ⟨n + 1, by simp only [wpf, h]; exact hn⟩
theorem Rn_cl {d : Nat} {op : Op} {os : List Op} {y z : Nat} {lo lo' : Lo} {st st' : St} {M M' : Me} {Q : Int → Me → Prop} {as : List AV} {f : Int} (h : stepF op lo st M = some (2, z, lo', st', M', as, f)) : Rn (d + 1) (op :: os) y lo st M Q = ((nlg as && rcvb z as) = true ∧ Cl d z as M' (fun v M2 => Rn (d + 1) os y lo' (res f v st') M2 Q)) := by
  apply propext
  constructor
  · rintro ⟨n, hn⟩
    cases n with
    | zero => exact hn.elim
    | succ n => simp only [wpf, h] at hn; exact ⟨hn.1, n, wpf_mono _ _ _ _ _ _ _ _ _ _ (Nat.le_refl n) (fun v M2 h2 => ⟨n, h2⟩) hn.2⟩
  · rintro ⟨hr, n, hn⟩
    obtain ⟨k, hk⟩ := wpf_sup _ _ _ _ _ _ _ (fun k v M2 => wpf k (d + 1) os y lo' (res f v st') M2 Q) (fun k k' v M2 hk h2 => wpf_mono _ _ _ _ _ _ _ _ _ _ hk (fun _ _ h3 => h3) h2) hn
    refine ⟨max n k + 1, ?_⟩
    simp only [wpf, h]
    exact ⟨hr, wpf_mono _ _ _ _ _ _ _ _ _ _ (Nat.le_max_left n k) (fun v M2 h2 => wpf_mono _ _ _ _ _ _ _ _ _ _ (Nat.le_max_right n k) (fun _ _ h3 => h3) h2) hk⟩
theorem Rn_rt {d : Nat} {op : Op} {os : List Op} {y : Nat} {lo : Lo} {st : St} {M M' : Me} {Q : Int → Me → Prop} {v : Int} {a : Nat} {b : Lo} {c : St} {e : List AV} (h : stepF op lo st M = some (3, a, b, c, M', e, v)) : Rn d (op :: os) y lo st M Q = Q v M' := by
  apply propext
  constructor
  · rintro ⟨n, hn⟩
    cases n with
    | zero => exact hn.elim
    | succ n => simp only [wpf, h] at hn; exact hn
  · intro hn
    exact ⟨1, by simp only [wpf, h]; exact hn⟩
theorem Rn_no {d : Nat} {op : Op} {os : List Op} {y : Nat} {lo : Lo} {st : St} {M : Me} {Q : Int → Me → Prop} (h : stepF op lo st M = none) : Rn d (op :: os) y lo st M Q = False := by
  apply propext
  constructor
  · rintro ⟨n, hn⟩
    cases n with
    | zero => exact hn.elim
    | succ n => simp only [wpf, h] at hn
  · exact fun h => h.elim

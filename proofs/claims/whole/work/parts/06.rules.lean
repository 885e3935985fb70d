def cnP (c x y : Int) : Prop := cnb c x y = true
theorem cnP_0 (x y : Int) : cnP 0 x y = (x = y) := by simp [cnP, cnb]
theorem cnP_1 (x y : Int) : cnP 1 x y = (x ≠ y) := by simp [cnP, cnb]
theorem cnP_2 (x y : Int) : cnP 2 x y = (x < y) := by simp [cnP, cnb]
theorem cnP_3 (x y : Int) : cnP 3 x y = (y ≤ x) := by simp [cnP, cnb]
theorem cnP_4 (x y : Int) : cnP 4 x y = (y < x) := by simp [cnP, cnb]
theorem cnP_5 (x y : Int) : cnP 5 x y = (x ≤ y) := by simp [cnP, cnb]
section RU
variable {d : Nat} {os : List Op} {y i t z : Nat} {j v : Int} {lo : Lo} {st : St} {M : Me} {Q : Int → Me → Prop}
def lgI : Option AV → (Int → Prop) → Prop
  | some (.inl v), k => k v
  | _, _ => False
theorem lgI_some (v : Int) (k : Int → Prop) : lgI (some (.inl v)) k = k v := rfl
def lgL : Option AV → (Int → Prop) → Prop
  | some (.inr (.inl v)), k => k v
  | _, _ => False
theorem lgL_some (v : Int) (k : Int → Prop) : lgL (some (.inr (.inl v))) k = k v := rfl
def lgR : Option AV → (Nat → Prop) → Prop
  | some (.inr (.inr v)), k => k v
  | _, _ => False
theorem lgR_some (v : Nat) (k : Nat → Prop) : lgR (some (.inr (.inr v))) k = k v := rfl
theorem s_0 : Rn d ((0, i, j) :: os) y lo st M Q = lgI (lg lo i) (fun v => Rn d os y lo (.inl v :: st) M Q) := by
  match h : lg lo i with
  | none => exact Rn_no (by simp only [stepF, h])
  | some (.inl v) => exact Rn_nx (a := 0) (b := []) (c := 0) (by simp only [stepF, h])
  | some (.inr v) => exact Rn_no (by simp only [stepF, h])
theorem s_47 : Rn d ((47, i, j) :: os) y lo st M Q = lgR (lg lo i) (fun v => Rn d os y lo (.inr (.inr v) :: st) M Q) := by
  match h : lg lo i with
  | none => exact Rn_no (by simp only [stepF, h])
  | some (.inr (.inr v)) => exact Rn_nx (a := 0) (b := []) (c := 0) (by simp only [stepF, h])
  | some (.inl v) => exact Rn_no (by simp only [stepF, h])
  | some (.inr (.inl v)) => exact Rn_no (by simp only [stepF, h])
theorem s_48 : Rn d ((48, i, j) :: os) y lo st M Q = lgL (lg lo i) (fun v => Rn d os y lo (.inr (.inl v) :: st) M Q) := by
  match h : lg lo i with
  | none => exact Rn_no (by simp only [stepF, h])
  | some (.inr (.inl v)) => exact Rn_nx (a := 0) (b := []) (c := 0) (by simp only [stepF, h])
  | some (.inl v) => exact Rn_no (by simp only [stepF, h])
  | some (.inr (.inr v)) => exact Rn_no (by simp only [stepF, h])
theorem s_1I {x : Int} : Rn d ((1, i, j) :: os) y lo (.inl x :: st) M Q = (lp lo i = false ∧ i < lo.length ∧ Rn d os y (lz lo i (.inl x)) st M Q) := by
  by_cases h : lp lo i = false ∧ i < lo.length
  · rw [Rn_nx (lo' := lz lo i (.inl x)) (st' := st) (M' := M) (a := 0) (b := []) (c := 0) (by simp [stepF, h.1, h.2])]
    simp [h.1, h.2]
  · rw [Rn_no (by
      have : (lp lo i || decide (lo.length ≤ i)) = true := by
        cases h1 : lp lo i <;> simp_all
      simp [stepF] at this ⊢
      exact fun q => by simpa [q] using this)]
    simp only [eq_iff_iff, false_iff]
    exact fun q => h ⟨q.1, q.2.1⟩
theorem s_49 {x : Nat} : Rn d ((49, i, j) :: os) y lo (.inr (.inr x) :: st) M Q = (lp lo i = false ∧ i < lo.length ∧ Rn d os y (lz lo i (.inr (.inr x))) st M Q) := by
  by_cases h : lp lo i = false ∧ i < lo.length
  · rw [Rn_nx (lo' := lz lo i (.inr (.inr x))) (st' := st) (M' := M) (a := 0) (b := []) (c := 0) (by simp [stepF, h.1, h.2])]
    simp [h.1, h.2]
  · rw [Rn_no (by
      have : (lp lo i || decide (lo.length ≤ i)) = true := by
        cases h1 : lp lo i <;> simp_all
      simp [stepF] at this ⊢
      exact fun q => by simpa [q] using this)]
    simp only [eq_iff_iff, false_iff]
    exact fun q => h ⟨q.1, q.2.1⟩
theorem s_2 {x : Int} : Rn d ((2, i, j) :: os) y lo (.inr (.inl x) :: st) M Q = (lp lo i = false ∧ i + 1 < lo.length ∧ Rn d os y (ly (lz lo i (.inr (.inl x))) (i + 1)) st M Q) := by
  by_cases h : lp lo i = false ∧ i + 1 < lo.length
  · rw [Rn_nx (lo' := ly (lz lo i (.inr (.inl x))) (i + 1)) (st' := st) (M' := M) (a := 0) (b := []) (c := 0) (by simp [stepF, h.1, h.2])]
    simp [h.1, h.2]
  · rw [Rn_no (by
      have : (lp lo i || decide (lo.length ≤ i + 1)) = true := by
        cases h1 : lp lo i <;> simp_all
      simp [stepF] at this ⊢
      exact fun q => by simpa [q] using this)]
    simp only [eq_iff_iff, false_iff]
    exact fun q => h ⟨q.1, q.2.1⟩
theorem s_3 : Rn d ((3, i, v) :: os) y lo st M Q = Rn d os y lo (.inl v :: st) M Q := Rn_nx rfl
theorem s_4 : Rn d ((4, i, v) :: os) y lo st M Q = Rn d os y lo (.inr (.inl v) :: st) M Q := Rn_nx rfl
theorem s_5 {x : Int} (h : lg lo i = some (.inl x)) : Rn d ((5, i, v) :: os) y lo st M Q = (lp lo i = false ∧ i < lo.length ∧ Rn d os y (lz lo i (.inl (w32 (x + v)))) st M Q) := by
  by_cases h2 : lp lo i = false ∧ i < lo.length
  · rw [Rn_nx (lo' := lz lo i (.inl (w32 (x + v)))) (st' := st) (M' := M) (a := 0) (b := []) (c := 0) (by simp [stepF, h, h2.1, h2.2])]
    simp [h2.1, h2.2]
  · rw [Rn_no (by
      have : (lp lo i || decide (lo.length ≤ i)) = true := by
        cases h1 : lp lo i <;> simp_all
      simp [stepF, h] at this ⊢
      exact fun q => by simpa [q] using this)]
    simp only [eq_iff_iff, false_iff]
    exact fun q => h2 ⟨q.1, q.2.1⟩
theorem s_5K : Rn d ((5, i, v) :: os) y lo st M Q = lgI (lg lo i) (fun x => lp lo i = false ∧ i < lo.length ∧ Rn d os y (lz lo i (.inl (w32 (x + v)))) st M Q) := by
  match h : lg lo i with
  | some (.inl x) => rw [lgI_some]; exact s_5 h
  | none => rw [Rn_no (by simp only [stepF, h])]; rfl
  | some (.inr x) => rw [Rn_no (by simp only [stepF, h])]; rfl
theorem s_6 {x y' : Int} : Rn d ((6, i, v) :: os) y lo (.inl y' :: .inl x :: st) M Q = Rn d os y lo (.inl (w32 (x + y')) :: st) M Q := Rn_nx rfl
theorem s_7 {x y' : Int} : Rn d ((7, i, v) :: os) y lo (.inl y' :: .inl x :: st) M Q = Rn d os y lo (.inl (w32 (x - y')) :: st) M Q := Rn_nx rfl
theorem s_8 {x y' : Int} : Rn d ((8, i, v) :: os) y lo (.inl y' :: .inl x :: st) M Q = Rn d os y lo (.inl (w32 (x * y')) :: st) M Q := Rn_nx rfl
theorem s_9 {x y' : Int} : Rn d ((9, i, v) :: os) y lo (.inl y' :: .inl x :: st) M Q = Rn d os y lo (.inl (iand x y') :: st) M Q := Rn_nx rfl
theorem s_10 {x y' : Int} : Rn d ((10, i, v) :: os) y lo (.inl y' :: .inl x :: st) M Q = Rn d os y lo (.inl (ior x y') :: st) M Q := Rn_nx rfl
theorem s_11 {x y' : Int} : Rn d ((11, i, v) :: os) y lo (.inl y' :: .inl x :: st) M Q = Rn d os y lo (.inl (ishl x y') :: st) M Q := Rn_nx rfl
theorem s_12 {x y' : Int} : Rn d ((12, i, v) :: os) y lo (.inl y' :: .inl x :: st) M Q = Rn d os y lo (.inl (ishr x y') :: st) M Q := Rn_nx rfl
theorem s_13 {x y' : Int} : Rn d ((13, i, v) :: os) y lo (.inl y' :: .inl x :: st) M Q = (y' ≠ 0 ∧ Rn d os y lo (.inl (w32 (x.tdiv y')) :: st) M Q) := by
  by_cases h : y' = 0
  · rw [Rn_no (by simp [stepF, h])]; simp [h]
  · rw [Rn_nx (lo' := lo) (st' := .inl (w32 (x.tdiv y')) :: st) (M' := M) (a := 0) (b := []) (c := 0) (by simp [stepF, h])]; simp [h]
theorem s_14 {x y' : Int} : Rn d ((14, i, v) :: os) y lo (.inl y' :: .inl x :: st) M Q = (y' ≠ 0 ∧ Rn d os y lo (.inl (x.tmod y') :: st) M Q) := by
  by_cases h : y' = 0
  · rw [Rn_no (by simp [stepF, h])]; simp [h]
  · rw [Rn_nx (lo' := lo) (st' := .inl (x.tmod y') :: st) (M' := M) (a := 0) (b := []) (c := 0) (by simp [stepF, h])]; simp [h]
theorem s_15 {x : Int} : Rn d ((15, i, v) :: os) y lo (.inl x :: st) M Q = Rn d os y lo (.inl (w32 (-x)) :: st) M Q := Rn_nx rfl
theorem s_16 {x : Int} : Rn d ((16, i, v) :: os) y lo (.inl x :: st) M Q = Rn d os y lo (.inr (.inl x) :: st) M Q := Rn_nx rfl
theorem s_17 {x : Int} : Rn d ((17, i, v) :: os) y lo (.inr (.inl x) :: st) M Q = Rn d os y lo (.inl (w32 x) :: st) M Q := Rn_nx rfl
theorem s_18 {x y' : Int} : Rn d ((18, i, v) :: os) y lo (.inr (.inl y') :: .inr (.inl x) :: st) M Q = Rn d os y lo (.inr (.inl (w64 (x + y'))) :: st) M Q := Rn_nx rfl
theorem s_19 {x y' : Int} : Rn d ((19, i, v) :: os) y lo (.inr (.inl y') :: .inr (.inl x) :: st) M Q = Rn d os y lo (.inr (.inl (w64 (x * y'))) :: st) M Q := Rn_nx rfl
theorem s_20 {x y' : Int} : Rn d ((20, i, v) :: os) y lo (.inr (.inl y') :: .inr (.inl x) :: st) M Q = (y' ≠ 0 ∧ Rn d os y lo (.inr (.inl (w64 (x.tdiv y'))) :: st) M Q) := by
  by_cases h : y' = 0
  · rw [Rn_no (by simp [stepF, h])]; simp [h]
  · rw [Rn_nx (lo' := lo) (st' := .inr (.inl (w64 (x.tdiv y'))) :: st) (M' := M) (a := 0) (b := []) (c := 0) (by simp [stepF, h])]; simp [h]
theorem s_21 {x y' : Int} : Rn d ((21, i, v) :: os) y lo (.inr (.inl y') :: .inr (.inl x) :: st) M Q = Rn d os y lo (.inl (if x < y' then -1 else if x = y' then 0 else 1) :: st) M Q := Rn_nx rfl
theorem s_24 {x : Int} {a : Nat} : Rn d ((24, i, v) :: os) y lo (.inl x :: .inr (.inr a) :: st) M Q = ((kd a = 1 ∧ 0 ≤ x ∧ x < ln a) ∧ Rn d os y lo (.inl (M a x) :: st) M Q) := by
  by_cases h : kd a = 1 ∧ 0 ≤ x ∧ x < ln a
  · rw [Rn_nx (lo' := lo) (st' := .inl (M a x) :: st) (M' := M) (a := 0) (b := []) (c := 0) (by simp [stepF, h])]; simp [h]
  · rw [Rn_no (by simp only [stepF, if_neg h])]; simp [h]
theorem s_25 {x w : Int} {a : Nat} : Rn d ((25, i, v) :: os) y lo (.inl w :: .inl x :: .inr (.inr a) :: st) M Q = ((kd a = 1 ∧ 0 ≤ x ∧ x < ln a) ∧ Rn d os y lo st (me_put M a x w) Q) := by
  by_cases h : kd a = 1 ∧ 0 ≤ x ∧ x < ln a
  · rw [Rn_nx (lo' := lo) (st' := st) (M' := me_put M a x w) (a := 0) (b := []) (c := 0) (by simp [stepF, h])]; simp [h]
  · rw [Rn_no (by simp only [stepF, if_neg h])]; simp [h]
theorem s_26 {x w : Int} {a : Nat} : Rn d ((26, i, v) :: os) y lo (.inl w :: .inl x :: .inr (.inr a) :: st) M Q = ((kd a = 2 ∧ (w = 0 ∨ w = 1) ∧ 0 ≤ x ∧ x < ln a) ∧ Rn d os y lo st (me_put M a x w) Q) := by
  by_cases h : kd a = 2 ∧ (w = 0 ∨ w = 1) ∧ 0 ≤ x ∧ x < ln a
  · rw [Rn_nx (lo' := lo) (st' := st) (M' := me_put M a x w) (a := 0) (b := []) (c := 0) (by simp only [stepF, if_pos h])]; simp [h]
  · rw [Rn_no (by simp only [stepF, if_neg h])]; simp [h]
theorem s_27 {x : Int} {a : Nat} : Rn d ((27, i, v) :: os) y lo (.inl x :: .inr (.inr a) :: st) M Q = ((kd a = 3 ∧ 0 ≤ x ∧ x < ln a) ∧ Rn d os y lo (.inr (.inl (M a x)) :: st) M Q) := by
  by_cases h : kd a = 3 ∧ 0 ≤ x ∧ x < ln a
  · rw [Rn_nx (lo' := lo) (st' := .inr (.inl (M a x)) :: st) (M' := M) (a := 0) (b := []) (c := 0) (by simp [stepF, h])]; simp [h]
  · rw [Rn_no (by simp only [stepF, if_neg h])]; simp [h]
theorem s_28 {x w : Int} {a : Nat} : Rn d ((28, i, v) :: os) y lo (.inr (.inl w) :: .inl x :: .inr (.inr a) :: st) M Q = ((kd a = 3 ∧ 0 ≤ x ∧ x < ln a) ∧ Rn d os y lo st (me_put M a x w) Q) := by
  by_cases h : kd a = 3 ∧ 0 ≤ x ∧ x < ln a
  · rw [Rn_nx (lo' := lo) (st' := st) (M' := me_put M a x w) (a := 0) (b := []) (c := 0) (by simp [stepF, h])]; simp [h]
  · rw [Rn_no (by simp only [stepF, if_neg h])]; simp [h]
theorem s_29 {x : Int} : Rn d ((29, t, v) :: os) y lo (.inl x :: st) M Q = ((cnP v x 0 → Rn d (blk y t) y lo st M Q) ∧ (¬ cnP v x 0 → Rn d os y lo st M Q)) := by
  by_cases h : cnb v x 0 = true
  · rw [Rn_jp (t := t) (lo' := lo) (st' := st) (M' := M) (b := []) (c := 0) (by simp only [stepF, if_pos h])]; simp [cnP, h]
  · rw [Rn_nx (lo' := lo) (st' := st) (M' := M) (a := 0) (b := []) (c := 0) (by simp only [stepF, if_neg h])]; simp [cnP, h]
theorem s_30 {x y' : Int} : Rn d ((30, t, v) :: os) y lo (.inl y' :: .inl x :: st) M Q = ((cnP v x y' → Rn d (blk y t) y lo st M Q) ∧ (¬ cnP v x y' → Rn d os y lo st M Q)) := by
  by_cases h : cnb v x y' = true
  · rw [Rn_jp (t := t) (lo' := lo) (st' := st) (M' := M) (b := []) (c := 0) (by simp only [stepF, if_pos h])]; simp [cnP, h]
  · rw [Rn_nx (lo' := lo) (st' := st) (M' := M) (a := 0) (b := []) (c := 0) (by simp only [stepF, if_neg h])]; simp [cnP, h]
theorem s_31 : Rn d ((31, t, v) :: os) y lo st M Q = Rn d (blk y t) y lo st M Q := Rn_jp rfl
theorem s_32 : Rn d ((32, t, v) :: os) y lo st M Q = Rn d (blk y t) y lo st M Q := Rn_jp rfl
theorem s_33I {x : Int} : Rn d ((33, i, v) :: os) y lo (.inl x :: st) M Q = Rn d os y lo (.inl x :: .inl x :: st) M Q := Rn_nx rfl
theorem s_33R {x : Nat} : Rn d ((33, i, v) :: os) y lo (.inr (.inr x) :: st) M Q = Rn d os y lo (.inr (.inr x) :: .inr (.inr x) :: st) M Q := Rn_nx rfl
theorem s_34 {x : Int} {a : Nat} : Rn d ((34, i, v) :: os) y lo (.inl x :: .inr (.inr a) :: st) M Q = Rn d os y lo (.inl x :: .inr (.inr a) :: .inl x :: .inr (.inr a) :: st) M Q := Rn_nx rfl
theorem s_35 {x : Int} : Rn d ((35, i, v) :: os) y lo (.inl x :: st) M Q = Rn d os y lo st M Q := Rn_nx rfl
theorem s_36 {x : Int} : Rn d ((36, i, v) :: os) y lo (.inl x :: st) M Q = Rn d (blk y (swj (sw i) x)) y lo st M Q := Rn_jp rfl
theorem s_37i {x : Int} : Rn d ((37, i, 0) :: os) y lo [.inl x] M Q = Q x M := Rn_rt rfl
theorem s_37z {x : Int} : Rn d ((37, i, 1) :: os) y lo [.inl x] M Q = ((x = 0 ∨ x = 1) ∧ Q x M) := by
  by_cases h : x = 0 ∨ x = 1
  · rw [Rn_rt (M' := M) (v := x) (a := 0) (b := []) (c := []) (e := []) (by simp [stepF, h])]; simp [h]
  · rw [Rn_no (by simp [stepF, h])]; simp [h]
theorem s_38 : Rn d ((38, i, v) :: os) y lo [] M Q = Q 0 M := Rn_rt rfl
theorem s_39 {x y' : Int} : Rn d ((39, i, v) :: os) y lo (.inl y' :: .inl x :: st) M Q = (st.length ≤ 4 ∧ Rn d os y lo (.inl (if x < y' then y' else x) :: st) M Q) := by
  by_cases h : st.length ≤ 4
  · rw [Rn_nx (lo' := lo) (st' := .inl (if x < y' then y' else x) :: st) (M' := M) (a := 0) (b := []) (c := 0) (by simp only [stepF, if_pos h])]; simp [h]
  · rw [Rn_no (by simp only [stepF, if_neg h])]; simp [h]
theorem s_40 {x y' : Int} : Rn d ((40, i, v) :: os) y lo (.inl y' :: .inl x :: st) M Q = (st.length ≤ 4 ∧ Rn d os y lo (.inl (if y' < x then y' else x) :: st) M Q) := by
  by_cases h : st.length ≤ 4
  · rw [Rn_nx (lo' := lo) (st' := .inl (if y' < x then y' else x) :: st) (M' := M) (a := 0) (b := []) (c := 0) (by simp only [stepF, if_pos h])]; simp [h]
  · rw [Rn_no (by simp only [stepF, if_neg h])]; simp [h]
theorem s_41 {x y' : Int} : Rn d ((41, i, v) :: os) y lo (.inr (.inl y') :: .inr (.inl x) :: st) M Q = (st.length ≤ 4 ∧ Rn d os y lo (.inr (.inl (if y' < x then y' else x)) :: st) M Q) := by
  by_cases h : st.length ≤ 4
  · rw [Rn_nx (lo' := lo) (st' := .inr (.inl (if y' < x then y' else x)) :: st) (M' := M) (a := 0) (b := []) (c := 0) (by simp only [stepF, if_pos h])]; simp [h]
  · rw [Rn_no (by simp only [stepF, if_neg h])]; simp [h]
theorem s_42 {n dp sp : Int} {dk sk : Nat} : Rn d ((42, i, v) :: os) y lo [.inl n, .inl dp, .inr (.inr dk), .inl sp, .inr (.inr sk)] M Q = ((kd dk = 1 ∧ kd sk = 1 ∧ 0 ≤ n ∧ 0 ≤ dp ∧ 0 ≤ sp ∧ dp + n ≤ ln dk ∧ sp + n ≤ ln sk) ∧ Rn d os y lo [] (me_cpy M sk sp dk dp n) Q) := by
  by_cases h : kd dk = 1 ∧ kd sk = 1 ∧ 0 ≤ n ∧ 0 ≤ dp ∧ 0 ≤ sp ∧ dp + n ≤ ln dk ∧ sp + n ≤ ln sk
  · rw [Rn_nx (lo' := lo) (st' := []) (M' := me_cpy M sk sp dk dp n) (a := 0) (b := []) (c := 0) (by simp only [stepF, if_pos h])]; simp [h]
  · rw [Rn_no (by simp only [stepF, if_neg h])]; simp [h]
theorem s_43 {a : Nat} : Rn d ((43, i, v) :: os) y lo (.inr (.inr a) :: st) M Q = (kd a = 1 ∧ Rn d os y lo (.inl (ln a) :: st) M Q) := by
  by_cases h : kd a = 1
  · rw [Rn_nx (lo' := lo) (st' := .inl (ln a) :: st) (M' := M) (a := 0) (b := []) (c := 0) (by simp only [stepF, if_pos h])]; simp [h]
  · rw [Rn_no (by simp only [stepF, if_neg h])]; simp [h]
theorem s_44 {x : Int} : Rn d ((44, i, v) :: os) y lo (.inl x :: .inr (.inr 99) :: st) M Q = ((0 ≤ x ∧ x < M 98 0) ∧ Rn d os y lo (.inl (M 99 x) :: st) M Q) := by
  by_cases h : 0 ≤ x ∧ x < M 98 0
  · rw [Rn_nx (lo' := lo) (st' := .inl (M 99 x) :: st) (M' := M) (a := 0) (b := []) (c := 0) (by simp [stepF, h])]; simp [h]
  · rw [Rn_no (by simp only [stepF]; rw [if_neg (by simpa using h)])]; simp [h]
theorem s_45 : Rn d ((45, i, v) :: os) y lo (.inr (.inr 99) :: st) M Q = Rn d os y lo (.inl (M 98 0) :: st) M Q := Rn_nx rfl
theorem s_46 {x : Int} {a : Nat} : Rn d ((46, i, v) :: os) y lo (.inl x :: .inr (.inr a) :: st) M Q = ((kd a = 2 ∧ 0 ≤ x ∧ x < ln a) ∧ Rn d os y lo (.inl (M a x) :: st) M Q) := by
  by_cases h : kd a = 2 ∧ 0 ≤ x ∧ x < ln a
  · rw [Rn_nx (lo' := lo) (st' := .inl (M a x) :: st) (M' := M) (a := 0) (b := []) (c := 0) (by simp [stepF, h])]; simp [h]
  · rw [Rn_no (by simp only [stepF, if_neg h])]; simp [h]
theorem s_51 {a0 : AV} : Rn (d + 1) ((51, z, v) :: os) y lo (a0 :: st) M Q = (st.length ≤ 4 ∧ (nlg [a0] && rcvb z [a0]) = true ∧ Cl d z [a0] M (fun w M2 => Rn (d + 1) os y lo (res v w st) M2 Q)) := by
  by_cases h : st.length ≤ 4
  · rw [Rn_cl (z := z) (lo' := lo) (st' := st) (M' := M) (as := [a0]) (f := v) (by simp only [stepF, if_pos h])]; simp [h]
  · rw [Rn_no (by simp only [stepF, if_neg h])]; simp [h]
theorem s_52 {a0 a1 : AV} : Rn (d + 1) ((52, z, v) :: os) y lo (a1 :: a0 :: st) M Q = (st.length ≤ 4 ∧ (nlg [a0, a1] && rcvb z [a0, a1]) = true ∧ Cl d z [a0, a1] M (fun w M2 => Rn (d + 1) os y lo (res v w st) M2 Q)) := by
  by_cases h : st.length ≤ 4
  · rw [Rn_cl (z := z) (lo' := lo) (st' := st) (M' := M) (as := [a0, a1]) (f := v) (by simp only [stepF, if_pos h])]; simp [h]
  · rw [Rn_no (by simp only [stepF, if_neg h])]; simp [h]
theorem s_53 {a0 a1 a2 : AV} : Rn (d + 1) ((53, z, v) :: os) y lo (a2 :: a1 :: a0 :: st) M Q = (st.length ≤ 4 ∧ (nlg [a0, a1, a2] && rcvb z [a0, a1, a2]) = true ∧ Cl d z [a0, a1, a2] M (fun w M2 => Rn (d + 1) os y lo (res v w st) M2 Q)) := by
  by_cases h : st.length ≤ 4
  · rw [Rn_cl (z := z) (lo' := lo) (st' := st) (M' := M) (as := [a0, a1, a2]) (f := v) (by simp only [stepF, if_pos h])]; simp [h]
  · rw [Rn_no (by simp only [stepF, if_neg h])]; simp [h]
theorem s_54 {a0 a1 a2 a3 : AV} : Rn (d + 1) ((54, z, v) :: os) y lo (a3 :: a2 :: a1 :: a0 :: st) M Q = (st.length ≤ 4 ∧ (nlg [a0, a1, a2, a3] && rcvb z [a0, a1, a2, a3]) = true ∧ Cl d z [a0, a1, a2, a3] M (fun w M2 => Rn (d + 1) os y lo (res v w st) M2 Q)) := by
  by_cases h : st.length ≤ 4
  · rw [Rn_cl (z := z) (lo' := lo) (st' := st) (M' := M) (as := [a0, a1, a2, a3]) (f := v) (by simp only [stepF, if_pos h])]; simp [h]
  · rw [Rn_no (by simp only [stepF, if_neg h])]; simp [h]
theorem s_55 {a0 a1 a2 a3 a4 : AV} : Rn (d + 1) ((55, z, v) :: os) y lo (a4 :: a3 :: a2 :: a1 :: a0 :: st) M Q = (st.length ≤ 4 ∧ (nlg [a0, a1, a2, a3, a4] && rcvb z [a0, a1, a2, a3, a4]) = true ∧ Cl d z [a0, a1, a2, a3, a4] M (fun w M2 => Rn (d + 1) os y lo (res v w st) M2 Q)) := by
  by_cases h : st.length ≤ 4
  · rw [Rn_cl (z := z) (lo' := lo) (st' := st) (M' := M) (as := [a0, a1, a2, a3, a4]) (f := v) (by simp only [stepF, if_pos h])]; simp [h]
  · rw [Rn_no (by simp only [stepF, if_neg h])]; simp [h]
theorem s_56 {a0 a1 a2 a3 a4 a5 : AV} : Rn (d + 1) ((56, z, v) :: os) y lo (a5 :: a4 :: a3 :: a2 :: a1 :: a0 :: st) M Q = (st.length ≤ 4 ∧ (nlg [a0, a1, a2, a3, a4, a5] && rcvb z [a0, a1, a2, a3, a4, a5]) = true ∧ Cl d z [a0, a1, a2, a3, a4, a5] M (fun w M2 => Rn (d + 1) os y lo (res v w st) M2 Q)) := by
  by_cases h : st.length ≤ 4
  · rw [Rn_cl (z := z) (lo' := lo) (st' := st) (M' := M) (as := [a0, a1, a2, a3, a4, a5]) (f := v) (by simp only [stepF, if_pos h])]; simp [h]
  · rw [Rn_no (by simp only [stepF, if_neg h])]; simp [h]
theorem res_1 {w : Int} : res 1 w st = .inl w :: st := rfl
theorem res_0 {w : Int} : res 0 w st = st := rfl
theorem s_22I {o k : Nat} {c : Int} (h : (oc o : Int) = c) (h2 : fk o k = 0 ∨ fk o k = 1) : Rn d ((22, k, c) :: os) y lo (.inr (.inr o) :: st) M Q = Rn d os y lo (.inl (M o k) :: st) M Q := by
  refine Rn_nx (a := 0) (b := []) (c := 0) ?_
  rcases h2 with h2 | h2 <;> simp [stepF, h, h2]
theorem s_22R {o k r : Nat} {c : Int} (h : (oc o : Int) = c) (h2 : fk o k = r + 2) : Rn d ((22, k, c) :: os) y lo (.inr (.inr o) :: st) M Q = Rn d os y lo (.inr (.inr r) :: st) M Q := by
  refine Rn_nx (a := 0) (b := []) (c := 0) ?_
  simp [stepF, h, h2]
theorem s_23I {o k : Nat} {c w : Int} (h : (oc o : Int) = c) (h2 : fk o k = 0) : Rn d ((23, k, c) :: os) y lo (.inl w :: .inr (.inr o) :: st) M Q = Rn d os y lo st (me_put M o k w) Q := by
  refine Rn_nx (a := 0) (b := []) (c := 0) ?_
  simp [stepF, h, h2]
theorem s_23Z {o k : Nat} {c w : Int} (h : (oc o : Int) = c) (h2 : fk o k = 1) : Rn d ((23, k, c) :: os) y lo (.inl w :: .inr (.inr o) :: st) M Q = ((w = 0 ∨ w = 1) ∧ Rn d os y lo st (me_put M o k w) Q) := by
  by_cases h3 : w = 0 ∨ w = 1
  · rw [Rn_nx (lo' := lo) (st' := st) (M' := me_put M o k w) (a := 0) (b := []) (c := 0) (by simp [stepF, h, h2, h3])]; simp [h3]
  · rw [Rn_no (by simp [stepF, h, h2, h3])]; simp [h3]
end RU
theorem me_eq (M : Me) (k : Nat) (i v j : Int) : me_put M k i v k j = if j = i then v else M k j := by simp [me_put]
theorem me_ne (M : Me) {k a : Nat} (i v j : Int) (h : a ≠ k) : me_put M k i v a j = M a j := by simp [me_put, h]
theorem me_self (M : Me) (k : Nat) (i v : Int) : me_put M k i v k i = v := by simp [me_put]
theorem w32_id {x : Int} (h1 : -2147483648 ≤ x) (h2 : x < 2147483648) : w32 x = x := by
  unfold w32
  rw [Int.bmod_eq_of_le] <;> omega
theorem w64_id {x : Int} (h1 : -9223372036854775808 ≤ x) (h2 : x < 9223372036854775808) : w64 x = x := by
  unfold w64
  rw [Int.bmod_eq_of_le] <;> omega
theorem w32_rng (x : Int) : -2147483648 ≤ w32 x ∧ w32 x < 2147483648 := by
  unfold w32
  have h1 := Int.le_bmod (x := x) (m := 4294967296) (by omega)
  have h2 := Int.bmod_lt (x := x) (m := 4294967296) (by omega)
  omega
theorem w64_rng (x : Int) : -9223372036854775808 ≤ w64 x ∧ w64 x < 9223372036854775808 := by
  unfold w64
  have h1 := Int.le_bmod (x := x) (m := 18446744073709551616) (by omega)
  have h2 := Int.bmod_lt (x := x) (m := 18446744073709551616) (by omega)
  omega

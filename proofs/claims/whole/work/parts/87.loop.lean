/-! every run of the law's loop -/
theorem law_loop {L : Int} (hL : L ≤ 3072) : ∀ (n : Nat) (M : Me) (i : Int), Iv M → M 98 0 = L → 0 ≤ i → L - i < 6 * n → (∀ j, -2147483648 ≤ M 99 j ∧ M 99 j < 2147483648) → 0 ≤ L → i ≤ 4000 → Rn 9 (blk 0 1) 0 [some (vR 99), some (vR 0), some (vR 50), some (vI i)] [] M (fun v _ => v = 1) := by
  intro n
  induction n with
  | zero =>
    intro M i I e i0 hi hx hL0 i4
    rw [bq0_1]
    simp only [bq0_27, s_0, lgI_some, s_3, s_7, s_9, s_30, cnP_0, cnP_1, cnP_2, cnP_3, cnP_4, cnP_5, s_36, s_37i, s_37z, s_44, s_45, s_47, lgR_some, lg_0, lg_1, lg_2, lg_3, List.length_cons, List.length_nil, Nat.reduceAdd, Nat.reduceLT, Nat.reduceLeDiff, true_and, and_true, true_or, or_true, Int.reduceEq, Nat.reduceEqDiff, reduceCtorEq, true_implies, false_implies, not_true_eq_false, not_false_eq_true, Nat.zero_le, Int.zero_add, Nat.zero_add, Nat.lt_add_one, eq_self, forall_const, implies_true, Bool.false_eq_true, false_or, or_false, and_self, ne_eq, me_ne, me_self, e, show w32 (L - 6) = L - 6 from w32_id (by omega) (by omega), show L - 6 < i by omega]
  | succ n ih =>
    intro M i I e i0 hi hx hL0 i4
    rw [bq0_1]
    by_cases q : L - 6 < i
    · simp only [bq0_27, s_0, lgI_some, s_3, s_7, s_9, s_30, cnP_0, cnP_1, cnP_2, cnP_3, cnP_4, cnP_5, s_36, s_37i, s_37z, s_44, s_45, s_47, lgR_some, lg_0, lg_1, lg_2, lg_3, List.length_cons, List.length_nil, Nat.reduceAdd, Nat.reduceLT, Nat.reduceLeDiff, true_and, and_true, true_or, or_true, Int.reduceEq, Nat.reduceEqDiff, reduceCtorEq, true_implies, false_implies, not_true_eq_false, not_false_eq_true, Nat.zero_le, Int.zero_add, Nat.zero_add, Nat.lt_add_one, eq_self, forall_const, implies_true, Bool.false_eq_true, false_or, or_false, and_self, ne_eq, me_ne, me_self, e, show w32 (L - 6) = L - 6 from w32_id (by omega) (by omega), q]
    · have nx : ∀ M2, Iv M2 → kp M M2 → Rn 9 (blk 0 26) 0 [some (vR 99), some (vR 0), some (vR 50), some (vI i)] [] M2 (fun v _ => v = 1) := by
        intro M2 I2 k2
        rw [bq0_26]
        simp only [s_0, lgI_some, s_3, s_5K, s_7, s_9, s_30, cnP_0, cnP_1, cnP_2, cnP_3, cnP_4, cnP_5, s_31, s_36, s_44, s_45, s_47, lgR_some, lg_0, lg_1, lg_2, lg_3, lz_0, lz_1, lz_2, lz_3, lp_0, lp_1, lp_2, lp_3, isL_n, isL_I, isL_R, List.length_cons, List.length_nil, Nat.reduceAdd, Nat.reduceLT, Nat.reduceLeDiff, true_and, and_true, true_or, or_true, Int.reduceEq, Nat.reduceEqDiff, reduceCtorEq, true_implies, false_implies, not_true_eq_false, not_false_eq_true, Nat.zero_le, Int.zero_add, Nat.zero_add, Nat.lt_add_one, eq_self, forall_const, implies_true, Bool.false_eq_true, false_or, or_false, and_self, ne_eq, me_ne, me_self, show w32 (i + 6) = i + 6 from w32_id (by omega) (by omega)]
        exact ih M2 (i + 6) I2 (by rw [k2.1, e]) (by omega) (by omega) (by rw [k2.2]; exact hx) hL0 (by omega)
      simp only [s_0, lgI_some, s_3, s_5K, s_7, s_9, s_30, cnP_0, cnP_1, cnP_2, cnP_3, cnP_4, cnP_5, s_31, s_36, s_44, s_45, s_47, lgR_some, lg_0, lg_1, lg_2, lg_3, lz_0, lz_1, lz_2, lz_3, lp_0, lp_1, lp_2, lp_3, isL_n, isL_I, isL_R, List.length_cons, List.length_nil, Nat.reduceAdd, Nat.reduceLT, Nat.reduceLeDiff, true_and, and_true, true_or, or_true, Int.reduceEq, Nat.reduceEqDiff, reduceCtorEq, true_implies, false_implies, not_true_eq_false, not_false_eq_true, Nat.zero_le, Int.zero_add, Nat.zero_add, Nat.lt_add_one, eq_self, forall_const, implies_true, Bool.false_eq_true, false_or, or_false, and_self, ne_eq, me_ne, me_self, e, show w32 (L - 6) = L - 6 from w32_id (by omega) (by omega), q, i0, show i < L by omega]
      generalize iand (M 99 i) 31 = x
      have a6 : i + 6 ≤ M 98 0 := by omega
      have a7 : M 98 0 ≤ 3072 := by omega
      by_cases c0 : x = 0
      · subst c0; rw [show swj (sw 0) 0 = 2 from rfl]; exact k_52 hx I i0 a6 a7 nx
      by_cases c1 : x = 1
      · subst c1; rw [show swj (sw 0) 1 = 3 from rfl]; exact k_53 hx I i0 a6 a7 nx
      by_cases c2 : x = 2
      · subst c2; rw [show swj (sw 0) 2 = 4 from rfl]; exact k_54 hx I i0 a6 a7 nx
      by_cases c3 : x = 3
      · subst c3; rw [show swj (sw 0) 3 = 5 from rfl]; exact k_55 hx I i0 a6 a7 nx
      by_cases c4 : x = 4
      · subst c4; rw [show swj (sw 0) 4 = 6 from rfl]; exact k_56 hx I i0 a6 a7 nx
      by_cases c5 : x = 5
      · subst c5; rw [show swj (sw 0) 5 = 7 from rfl]; exact k_57 hx I i0 a6 a7 nx
      by_cases c6 : x = 6
      · subst c6; rw [show swj (sw 0) 6 = 8 from rfl]; exact k_58 hx I i0 a6 a7 nx
      by_cases c7 : x = 7
      · subst c7; rw [show swj (sw 0) 7 = 9 from rfl]; exact k_59 hx I i0 a6 a7 nx
      by_cases c8 : x = 8
      · subst c8; rw [show swj (sw 0) 8 = 10 from rfl]; exact k_60 hx I i0 a6 a7 nx
      by_cases c9 : x = 9
      · subst c9; rw [show swj (sw 0) 9 = 11 from rfl]; exact k_61 hx I i0 a6 a7 nx
      by_cases c10 : x = 10
      · subst c10; rw [show swj (sw 0) 10 = 12 from rfl]; exact k_62 hx I i0 a6 a7 nx
      by_cases c11 : x = 11
      · subst c11; rw [show swj (sw 0) 11 = 13 from rfl]; exact k_63 hx I i0 a6 a7 nx
      by_cases c12 : x = 12
      · subst c12; rw [show swj (sw 0) 12 = 14 from rfl]; exact k_64 hx I i0 a6 a7 nx
      by_cases c13 : x = 13
      · subst c13; rw [show swj (sw 0) 13 = 15 from rfl]; exact k_65 hx I i0 a6 a7 nx
      by_cases c14 : x = 14
      · subst c14; rw [show swj (sw 0) 14 = 16 from rfl]; exact k_66 hx I i0 a6 a7 nx
      by_cases c15 : x = 15
      · subst c15; rw [show swj (sw 0) 15 = 17 from rfl]; exact k_67 hx I i0 a6 a7 nx
      by_cases c16 : x = 16
      · subst c16; rw [show swj (sw 0) 16 = 18 from rfl]; exact k_68 hx I i0 a6 a7 nx
      by_cases c17 : x = 17
      · subst c17; rw [show swj (sw 0) 17 = 19 from rfl]; exact k_69 hx I i0 a6 a7 nx
      by_cases c18 : x = 18
      · subst c18; rw [show swj (sw 0) 18 = 20 from rfl]; exact k_70 hx I i0 a6 a7 nx
      by_cases c19 : x = 19
      · subst c19; rw [show swj (sw 0) 19 = 21 from rfl]; exact k_71 hx I i0 a6 a7 nx
      by_cases c20 : x = 20
      · subst c20; rw [show swj (sw 0) 20 = 22 from rfl]; exact k_72 hx I i0 a6 a7 nx
      by_cases c21 : x = 21
      · subst c21; rw [show swj (sw 0) 21 = 23 from rfl]; exact k_73 hx I i0 a6 a7 nx
      by_cases c22 : x = 22
      · subst c22; rw [show swj (sw 0) 22 = 24 from rfl]; exact k_74 hx I i0 a6 a7 nx
      by_cases c23 : x = 23
      · subst c23; rw [show swj (sw 0) 23 = 25 from rfl]; exact k_75 hx I i0 a6 a7 nx
      rw [swj_hi (q := sw 0) (by show x < 0 ∨ (0 : Int) + (24 : Nat) ≤ x; omega)]
      exact nx M I ⟨rfl, rfl⟩
theorem law_all (L : Nat) (xs : Nat → Int32) (hL : L ≤ 3072) : Rn 9 (blk 0 0) 0 [some (vR 99), some (vR 0), some (vR 50), none] [] (me0 L xs) (fun v _ => v = 1) := by
  rw [bq0_0]
  simp only [s_0, lgI_some, s_1I, s_3, s_7, s_9, s_30, cnP_0, cnP_1, cnP_2, cnP_3, cnP_4, cnP_5, s_32, s_36, s_44, s_45, s_47, lgR_some, lg_0, lg_1, lg_2, lg_3, lz_0, lz_1, lz_2, lz_3, lp_0, lp_1, lp_2, lp_3, isL_n, isL_I, isL_R, List.length_cons, List.length_nil, Nat.reduceAdd, Nat.reduceLT, Nat.reduceLeDiff, true_and, and_true, true_or, or_true, Int.reduceEq, Nat.reduceEqDiff, reduceCtorEq, true_implies, false_implies, not_true_eq_false, not_false_eq_true, Nat.zero_le, Int.zero_add, Nat.zero_add, Nat.lt_add_one, eq_self, forall_const, implies_true, Bool.false_eq_true, false_or, or_false, and_self, ne_eq, me_ne, me_self]
  refine law_loop (L := L) (by omega) 600 (me0 L xs) 0 (Iv_0 L xs) (by simp [me0]) (by omega) (by omega) (fun j => ?_) (by omega) (by omega)
  have h1 := Int32.le_toInt (xs j.toNat)
  have h2 := Int32.toInt_lt (xs j.toNat)
  simp only [me0]
  simp
  omega

/-! the class's hour, of flood 5 -/
theorem w32_al (x y : Int) : w32 (w32 x + y) = w32 (x + y) := by
  unfold w32; exact Int.bmod_add_bmod
theorem w32_32 (x : Int) : w32 (w32 x) = w32 x := by
  unfold w32; exact Int.bmod_bmod
theorem mul100 {k h : Int} (h0 : 0 ≤ k) (h1 : k < 12) (h2 : 0 ≤ h) (h3 : h ≤ 100) : w32 (w32 (k * 100) + h) = k * 100 + h := by
  rw [w32_id (x := k * 100) (by omega) (by omega), w32_id (by omega) (by omega)]
def wr5 (M : Me) (s : HS) : Me := fun a b => if a = 36 ∧ 0 ≤ b ∧ b < 10 then s.1 b else if a = 37 ∧ 0 ≤ b ∧ b < 12 then s.2.1 b else if a = 5 ∧ b = 3 then s.2.2.1 else if a = 5 ∧ b = 4 then w32 s.2.2.2.1 else if a = 5 ∧ b = 5 then w32 s.2.2.2.2 else M a b
section H5
variable {d : Nat} {M : Me} {s : HS} {Q : Int → Me → Prop}
theorem wr5_f {k : Nat} (h1 : k ≠ 36) (h2 : k ≠ 37) (h3 : k ≠ 5) : wr5 M s k = M k := by
  funext b; simp [wr5, h1, h2, h3]
theorem wr5_o {k : Nat} {b : Int} (h1 : k ≠ 36) (h2 : k ≠ 37) (h3 : k ≠ 5) : wr5 M s k b = M k b := by
  rw [wr5_f h1 h2 h3]
theorem wr5_w {b : Int} (h0 : 0 ≤ b) (h1 : b < 10) : wr5 M s 36 b = s.1 b := by simp [wr5, h0, h1]
theorem wr5_b {b : Int} (h0 : 0 ≤ b) (h1 : b < 12) : wr5 M s 37 b = s.2.1 b := by simp [wr5, h0, h1]
theorem wr5_2 : wr5 M s 5 2 = M 5 2 := rfl
theorem wr5_3 : wr5 M s 5 3 = s.2.2.1 := rfl
theorem wr5_4 : wr5 M s 5 4 = w32 s.2.2.2.1 := rfl
theorem wr5_5 : wr5 M s 5 5 = w32 s.2.2.2.2 := rfl
theorem wp5_w {i v : Int} (h0 : 0 ≤ i) (h1 : i < 10) : me_put (wr5 M s) 36 i v = wr5 M (fu s.1 i v, s.2) := by
  funext a b
  simp only [me_put, wr5, fu]
  by_cases h : a = 36
  · subst h
    by_cases q : b = i
    · subst q; simp [h0, h1]
    · simp [q]
  · simp [h]
theorem wp5_b {i v : Int} (h0 : 0 ≤ i) (h1 : i < 12) : me_put (wr5 M s) 37 i v = wr5 M (s.1, fu s.2.1 i v, s.2.2) := by
  funext a b
  simp only [me_put, wr5, fu]
  by_cases h : a = 37
  · subst h
    by_cases q : b = i
    · subst q; simp [h0, h1]
    · simp [q]
  · simp [h]
theorem wp5_3 {v : Int} : me_put (wr5 M s) 5 3 v = wr5 M (s.1, s.2.1, v, s.2.2.2) := by
  funext a b
  simp only [me_put, wr5]
  by_cases h : a = 5
  · subst h; by_cases h : b = 3
    · subst h; simp
    · simp [h]
  · simp [h]
theorem wp5_4 {x : Int} : me_put (wr5 M s) 5 4 (w32 x) = wr5 M (s.1, s.2.1, s.2.2.1, x, s.2.2.2.2) := by
  funext a b
  simp only [me_put, wr5]
  by_cases h : a = 5
  · subst h; by_cases h : b = 4
    · subst h; simp
    · simp [h]
  · simp [h]
theorem wp5_5 {x : Int} : me_put (wr5 M s) 5 5 (w32 x) = wr5 M (s.1, s.2.1, s.2.2.1, s.2.2.2.1, x) := by
  funext a b
  simp only [me_put, wr5]
  by_cases h : a = 5
  · subst h; by_cases h : b = 5
    · subst h; simp
    · simp [h]
  · simp [h]
theorem wp5_h {v : Int} : me_put (wr5 M s) 5 2 v = wr5 (me_put M 5 2 v) s := by
  funext a b
  simp only [me_put, wr5]
  by_cases h : a = 5
  · subst h; by_cases h : b = 2
    · subst h; simp
    · simp [h]
  · simp [h]
theorem q5_34 {b : Int} (h0 : 0 ≤ b) (h1 : b < 10) (ha : 1 ≤ M 10 b) : Cl d 34 [vR 5, vR 1, vI b] (wr5 M s) Q = Q (hlv M s b) (wr5 M s) := by
  unfold Cl
  rw [en_34]
  simp only [bq34_0, bq34_1, bq34_2, s_0, lgI_some, s_1I, s_3, s_6, s_13, s_24, s_30, cnP_0, cnP_1, cnP_2, cnP_3, cnP_4, cnP_5, s_31, s_32, s_37i, s_37z, s_47, lgR_some, kd_9, kd_10, kd_11, kd_12, kd_13, kd_14, kd_15, kd_16, kd_17, kd_18, kd_19, kd_20, kd_21, kd_22, kd_23, kd_24, kd_25, kd_26, kd_27, kd_28, kd_29, kd_30, kd_31, kd_32, kd_33, kd_34, kd_35, kd_36, kd_37, kd_38, kd_39, kd_40, kd_41, kd_42, kd_43, kd_44, kd_45, kd_46, kd_47, kd_48, kd_49, ln_9, ln_10, ln_11, ln_12, ln_13, ln_14, ln_15, ln_16, ln_17, ln_18, ln_19, ln_20, ln_21, ln_22, ln_23, ln_24, ln_25, ln_26, ln_27, ln_28, ln_29, ln_30, ln_31, ln_32, ln_33, ln_34, ln_35, ln_36, ln_37, ln_38, ln_39, ln_40, ln_41, ln_42, ln_43, ln_44, ln_45, ln_46, ln_47, ln_48, ln_49, lg_0, lg_1, lg_2, lg_3, lz_0, lz_1, lz_2, lz_3, lp_0, lp_1, lp_2, lp_3, isL_n, isL_I, isL_R, g_1_1, g_1_2, g_5_0, g_8_0, List.length_cons, List.length_nil, Nat.reduceAdd, Nat.reduceLT, Nat.reduceLeDiff, true_and, and_true, true_or, or_true, Int.reduceEq, Nat.reduceEqDiff, reduceCtorEq, true_implies, false_implies, not_true_eq_false, not_false_eq_true, Nat.zero_le, Int.zero_add, Nat.zero_add, Nat.lt_add_one, eq_self, forall_const, implies_true, Bool.false_eq_true, false_or, or_false, and_self, ne_eq, me_ne, me_self, wr5_o, wr5_w, h0, h1, ha, show ¬ M 10 b = 0 by omega]
  rfl
theorem q5_36 {k : Int} (h0 : 0 ≤ k) (h1 : k < 12) : Cl (d + 1) 36 [vR 5, vR 2, vI k] (wr5 M s) Q = Q (htp M (M 5 2) s k) (wr5 M s) := by
  unfold Cl
  rw [en_36]
  simp only [bq36_0, bq36_1, bq36_2, s_0, lgI_some, s_3, s_6, s_13, s_24, s_29, cnP_0, cnP_1, cnP_2, cnP_3, cnP_4, cnP_5, s_31, s_32, s_37i, s_37z, s_47, lgR_some, s_53, res_0, res_1, nlg_n, nlg_I, nlg_R, Bool.true_and, Bool.and_self, Bool.and_true, kd_9, kd_10, kd_11, kd_12, kd_13, kd_14, kd_15, kd_16, kd_17, kd_18, kd_19, kd_20, kd_21, kd_22, kd_23, kd_24, kd_25, kd_26, kd_27, kd_28, kd_29, kd_30, kd_31, kd_32, kd_33, kd_34, kd_35, kd_36, kd_37, kd_38, kd_39, kd_40, kd_41, kd_42, kd_43, kd_44, kd_45, kd_46, kd_47, kd_48, kd_49, ln_9, ln_10, ln_11, ln_12, ln_13, ln_14, ln_15, ln_16, ln_17, ln_18, ln_19, ln_20, ln_21, ln_22, ln_23, ln_24, ln_25, ln_26, ln_27, ln_28, ln_29, ln_30, ln_31, ln_32, ln_33, ln_34, ln_35, ln_36, ln_37, ln_38, ln_39, ln_40, ln_41, ln_42, ln_43, ln_44, ln_45, ln_46, ln_47, ln_48, ln_49, lg_0, lg_1, lg_2, g_2_2, g_2_5, g_5_1, g_5_2, g_8_1, g_8_2, rc_9_2, List.length_cons, List.length_nil, Nat.reduceAdd, Nat.reduceLT, Nat.reduceLeDiff, true_and, and_true, true_or, or_true, Int.reduceEq, Nat.reduceEqDiff, reduceCtorEq, true_implies, false_implies, not_true_eq_false, not_false_eq_true, Nat.zero_le, Int.zero_add, Nat.zero_add, Nat.lt_add_one, eq_self, forall_const, implies_true, Bool.false_eq_true, false_or, or_false, and_self, ne_eq, me_ne, me_self, wr5_o, wr5_b, wr5_2, q_9 h0 h1, h0, h1, b01_z, Classical.not_not]
  unfold htp hbr
  by_cases q : ¬M 23 k = -1 ∧ M 23 k ≤ M 5 2
  · simp only [q, not_true_eq_false, false_implies, true_implies, true_and, if_true, not_false_eq_true, and_self]
  · simp only [q, not_true_eq_false, false_implies, true_implies, true_and, and_true, if_false, not_false_eq_true]
theorem c5_39 (hB : IvB M) (hh : 0 ≤ M 5 2 ∧ M 5 2 < 100) (H : Q 0 (wr5 M (hIn M (M 5 2) s))) : Cl d 39 [vR 5, vR 1] (wr5 M s) Q := by
  unfold Cl
  rw [en_39]
  unfold hIn at H
  by_cases q : M 1 9 ≤ 0
  · simp only [bq39_0, bq39_1, s_0, lgI_some, s_1I, s_3, s_6, s_24, s_25, s_29, cnP_0, cnP_1, cnP_2, cnP_3, cnP_4, cnP_5, s_32, s_33I, s_33R, s_34, s_38, s_47, lgR_some, kd_9, kd_10, kd_11, kd_12, kd_13, kd_14, kd_15, kd_16, kd_17, kd_18, kd_19, kd_20, kd_21, kd_22, kd_23, kd_24, kd_25, kd_26, kd_27, kd_28, kd_29, kd_30, kd_31, kd_32, kd_33, kd_34, kd_35, kd_36, kd_37, kd_38, kd_39, kd_40, kd_41, kd_42, kd_43, kd_44, kd_45, kd_46, kd_47, kd_48, kd_49, ln_9, ln_10, ln_11, ln_12, ln_13, ln_14, ln_15, ln_16, ln_17, ln_18, ln_19, ln_20, ln_21, ln_22, ln_23, ln_24, ln_25, ln_26, ln_27, ln_28, ln_29, ln_30, ln_31, ln_32, ln_33, ln_34, ln_35, ln_36, ln_37, ln_38, ln_39, ln_40, ln_41, ln_42, ln_43, ln_44, ln_45, ln_46, ln_47, ln_48, ln_49, lg_0, lg_1, lg_2, lz_0, lz_1, lz_2, lp_0, lp_1, lp_2, isL_n, isL_I, isL_R, g_1_6, g_1_7, g_1_9, g_5_0, g_5_2, g_5_5, g_8_0, g_8_2, g_8_5, p_5_5, p_8_5, List.length_cons, List.length_nil, Nat.reduceAdd, Nat.reduceLT, Nat.reduceLeDiff, true_and, and_true, true_or, or_true, Int.reduceEq, Nat.reduceEqDiff, reduceCtorEq, true_implies, false_implies, not_true_eq_false, not_false_eq_true, Nat.zero_le, Int.zero_add, Nat.zero_add, Nat.lt_add_one, eq_self, forall_const, implies_true, Bool.false_eq_true, false_or, or_false, and_self, ne_eq, me_ne, me_self, wr5_o, q]
    rwa [if_pos q] at H
  · have b1 := IvB_st hB (Int.le_refl 0) (by omega)
    have b2 : M 15 0 < 10 := by have := hB.1; omega
    simp only [bq39_0, bq39_1, s_0, lgI_some, s_1I, s_3, s_6, s_24, s_25, s_29, cnP_0, cnP_1, cnP_2, cnP_3, cnP_4, cnP_5, s_32, s_33I, s_33R, s_34, s_38, s_47, lgR_some, kd_9, kd_10, kd_11, kd_12, kd_13, kd_14, kd_15, kd_16, kd_17, kd_18, kd_19, kd_20, kd_21, kd_22, kd_23, kd_24, kd_25, kd_26, kd_27, kd_28, kd_29, kd_30, kd_31, kd_32, kd_33, kd_34, kd_35, kd_36, kd_37, kd_38, kd_39, kd_40, kd_41, kd_42, kd_43, kd_44, kd_45, kd_46, kd_47, kd_48, kd_49, ln_9, ln_10, ln_11, ln_12, ln_13, ln_14, ln_15, ln_16, ln_17, ln_18, ln_19, ln_20, ln_21, ln_22, ln_23, ln_24, ln_25, ln_26, ln_27, ln_28, ln_29, ln_30, ln_31, ln_32, ln_33, ln_34, ln_35, ln_36, ln_37, ln_38, ln_39, ln_40, ln_41, ln_42, ln_43, ln_44, ln_45, ln_46, ln_47, ln_48, ln_49, lg_0, lg_1, lg_2, lz_0, lz_1, lz_2, lp_0, lp_1, lp_2, isL_n, isL_I, isL_R, g_1_6, g_1_7, g_1_9, g_5_0, g_5_2, g_5_5, g_8_0, g_8_2, g_8_5, p_5_5, p_8_5, List.length_cons, List.length_nil, Nat.reduceAdd, Nat.reduceLT, Nat.reduceLeDiff, true_and, and_true, true_or, or_true, Int.reduceEq, Nat.reduceEqDiff, reduceCtorEq, true_implies, false_implies, not_true_eq_false, not_false_eq_true, Nat.zero_le, Int.zero_add, Nat.zero_add, Nat.lt_add_one, eq_self, forall_const, implies_true, Bool.false_eq_true, false_or, or_false, and_self, ne_eq, me_ne, me_self, wr5_o, wr5_w, wr5_2, wr5_5, wp5_w, wp5_5, w32_al, q, b1.1.1, b2, hh.1, hh.2]
    rw [if_neg q] at H
    exact ⟨by omega, H⟩
theorem l5_40 (hB : IvB M) : ∀ (n : Nat) (s : HS) (x y : Option AV) (i : Int), i = (n : Int) - 1 → (n : Int) ≤ M 1 9 → Q 0 (wr5 M (hPd M n s)) → Rn d (blk 40 1) 40 [some (vR 5), some (vR 1), some (vI (M 1 9 - 1)), some (vI i), x, y] [] (wr5 M s) Q := by
  intro n
  induction n with
  | zero =>
    intro s x y i hi hn H
    rw [bq40_1]
    simp only [bq40_2, bq40_3, bq40_4, s_0, lgI_some, s_1I, s_3, s_4, s_5K, s_6, s_7, s_16, s_17, s_19, s_20, s_24, s_25, s_29, cnP_0, cnP_1, cnP_2, cnP_3, cnP_4, cnP_5, s_30, s_31, s_32, s_33I, s_33R, s_34, s_38, s_47, lgR_some, kd_9, kd_10, kd_11, kd_12, kd_13, kd_14, kd_15, kd_16, kd_17, kd_18, kd_19, kd_20, kd_21, kd_22, kd_23, kd_24, kd_25, kd_26, kd_27, kd_28, kd_29, kd_30, kd_31, kd_32, kd_33, kd_34, kd_35, kd_36, kd_37, kd_38, kd_39, kd_40, kd_41, kd_42, kd_43, kd_44, kd_45, kd_46, kd_47, kd_48, kd_49, ln_9, ln_10, ln_11, ln_12, ln_13, ln_14, ln_15, ln_16, ln_17, ln_18, ln_19, ln_20, ln_21, ln_22, ln_23, ln_24, ln_25, ln_26, ln_27, ln_28, ln_29, ln_30, ln_31, ln_32, ln_33, ln_34, ln_35, ln_36, ln_37, ln_38, ln_39, ln_40, ln_41, ln_42, ln_43, ln_44, ln_45, ln_46, ln_47, ln_48, ln_49, lg_0, lg_1, lg_2, lg_3, lg_4, lg_5, lz_0, lz_1, lz_2, lz_3, lz_4, lz_5, lp_0, lp_1, lp_2, lp_3, lp_4, lp_5, isL_n, isL_I, isL_R, g_1_3, g_1_6, g_5_0, g_5_4, g_8_0, g_8_4, p_5_4, p_8_4, List.length_cons, List.length_nil, Nat.reduceAdd, Nat.reduceLT, Nat.reduceLeDiff, true_and, and_true, true_or, or_true, Int.reduceEq, Nat.reduceEqDiff, reduceCtorEq, true_implies, false_implies, not_true_eq_false, not_false_eq_true, Nat.zero_le, Int.zero_add, Nat.zero_add, Nat.lt_add_one, eq_self, forall_const, implies_true, Bool.false_eq_true, false_or, or_false, and_self, ne_eq, me_ne, me_self, show i < 0 by omega]
    exact H
  | succ n ih =>
    intro s x y i hi hn H
    have b1 := IvB_st hB (i := i) (by omega) (by omega)
    have b2 := hB.1
    have b3 := IvB_sc hB
    rw [bq40_1]
    have e : i = (n : Int) := by omega
    simp only [hPd] at H
    unfold hPs at H
    rw [← e] at H
    by_cases q : i = M 1 9 - 1
    · simp only [bq40_2, bq40_3, bq40_4, s_0, lgI_some, s_1I, s_3, s_4, s_5K, s_6, s_7, s_16, s_17, s_19, s_20, s_24, s_25, s_29, cnP_0, cnP_1, cnP_2, cnP_3, cnP_4, cnP_5, s_30, s_31, s_32, s_33I, s_33R, s_34, s_38, s_47, lgR_some, kd_9, kd_10, kd_11, kd_12, kd_13, kd_14, kd_15, kd_16, kd_17, kd_18, kd_19, kd_20, kd_21, kd_22, kd_23, kd_24, kd_25, kd_26, kd_27, kd_28, kd_29, kd_30, kd_31, kd_32, kd_33, kd_34, kd_35, kd_36, kd_37, kd_38, kd_39, kd_40, kd_41, kd_42, kd_43, kd_44, kd_45, kd_46, kd_47, kd_48, kd_49, ln_9, ln_10, ln_11, ln_12, ln_13, ln_14, ln_15, ln_16, ln_17, ln_18, ln_19, ln_20, ln_21, ln_22, ln_23, ln_24, ln_25, ln_26, ln_27, ln_28, ln_29, ln_30, ln_31, ln_32, ln_33, ln_34, ln_35, ln_36, ln_37, ln_38, ln_39, ln_40, ln_41, ln_42, ln_43, ln_44, ln_45, ln_46, ln_47, ln_48, ln_49, lg_0, lg_1, lg_2, lg_3, lg_4, lg_5, lz_0, lz_1, lz_2, lz_3, lz_4, lz_5, lp_0, lp_1, lp_2, lp_3, lp_4, lp_5, isL_n, isL_I, isL_R, g_1_3, g_1_6, g_5_0, g_5_4, g_8_0, g_8_4, p_5_4, p_8_4, List.length_cons, List.length_nil, Nat.reduceAdd, Nat.reduceLT, Nat.reduceLeDiff, true_and, and_true, true_or, or_true, Int.reduceEq, Nat.reduceEqDiff, reduceCtorEq, true_implies, false_implies, not_true_eq_false, not_false_eq_true, Nat.zero_le, Int.zero_add, Nat.zero_add, Nat.lt_add_one, eq_self, forall_const, implies_true, Bool.false_eq_true, false_or, or_false, and_self, ne_eq, me_ne, me_self, wr5_o, wr5_w, wr5_4, wp5_w, wp5_4, w32_al, show ¬ i < 0 by omega, show 0 ≤ i by omega, show i < 10 by omega, b1.1.1, show M 15 i < 10 by omega, show w32 (i + -1) = i - 1 from w32_id (by omega) (by omega), show w32 (i + 1) = i + 1 from w32_id (by omega) (by omega)]
      refine ⟨fun z => (z q).elim, fun _ => ?_⟩
      rw [if_pos q] at H
      exact ih _ _ _ _ (by omega) (by omega) H
    · have b4 := IvB_st hB (i := i + 1) (by omega) (by omega)
      simp only [bq40_2, bq40_3, bq40_4, s_0, lgI_some, s_1I, s_3, s_4, s_5K, s_6, s_7, s_16, s_17, s_19, s_20, s_24, s_25, s_29, cnP_0, cnP_1, cnP_2, cnP_3, cnP_4, cnP_5, s_30, s_31, s_32, s_33I, s_33R, s_34, s_38, s_47, lgR_some, kd_9, kd_10, kd_11, kd_12, kd_13, kd_14, kd_15, kd_16, kd_17, kd_18, kd_19, kd_20, kd_21, kd_22, kd_23, kd_24, kd_25, kd_26, kd_27, kd_28, kd_29, kd_30, kd_31, kd_32, kd_33, kd_34, kd_35, kd_36, kd_37, kd_38, kd_39, kd_40, kd_41, kd_42, kd_43, kd_44, kd_45, kd_46, kd_47, kd_48, kd_49, ln_9, ln_10, ln_11, ln_12, ln_13, ln_14, ln_15, ln_16, ln_17, ln_18, ln_19, ln_20, ln_21, ln_22, ln_23, ln_24, ln_25, ln_26, ln_27, ln_28, ln_29, ln_30, ln_31, ln_32, ln_33, ln_34, ln_35, ln_36, ln_37, ln_38, ln_39, ln_40, ln_41, ln_42, ln_43, ln_44, ln_45, ln_46, ln_47, ln_48, ln_49, lg_0, lg_1, lg_2, lg_3, lg_4, lg_5, lz_0, lz_1, lz_2, lz_3, lz_4, lz_5, lp_0, lp_1, lp_2, lp_3, lp_4, lp_5, isL_n, isL_I, isL_R, g_1_3, g_1_6, g_5_0, g_5_4, g_8_0, g_8_4, p_5_4, p_8_4, List.length_cons, List.length_nil, Nat.reduceAdd, Nat.reduceLT, Nat.reduceLeDiff, true_and, and_true, true_or, or_true, Int.reduceEq, Nat.reduceEqDiff, reduceCtorEq, true_implies, false_implies, not_true_eq_false, not_false_eq_true, Nat.zero_le, Int.zero_add, Nat.zero_add, Nat.lt_add_one, eq_self, forall_const, implies_true, Bool.false_eq_true, false_or, or_false, and_self, ne_eq, me_ne, me_self, wr5_o, wr5_w, wr5_4, wp5_w, wp5_4, w32_al, show ¬ i < 0 by omega, show 0 ≤ i by omega, show i < 10 by omega, show 0 ≤ i + 1 by omega, show i + 1 < 10 by omega, b1.1.1, show M 15 i < 10 by omega, b4.1.1, show M 15 (i + 1) < 10 by omega, show w32 (i + -1) = i - 1 from w32_id (by omega) (by omega), show w32 (i + 1) = i + 1 from w32_id (by omega) (by omega), q]
      rw [if_neg q] at H
      exact ih _ _ _ _ (by omega) (by omega) H
theorem c5_40 (hB : IvB M) (H : Q 0 (wr5 M (hPd M (M 1 9).toNat s))) : Cl d 40 [vR 5, vR 1] (wr5 M s) Q := by
  have b3 := IvB_sc hB
  have b2 := hB.1
  unfold Cl
  rw [en_40]
  simp only [bq40_0, s_0, lgI_some, s_1I, s_3, s_7, s_32, s_47, lgR_some, lg_0, lg_1, lg_2, lg_3, lg_4, lg_5, lz_0, lz_1, lz_2, lz_3, lz_4, lz_5, lp_0, lp_1, lp_2, lp_3, lp_4, lp_5, isL_n, isL_I, isL_R, g_1_9, List.length_cons, List.length_nil, Nat.reduceAdd, Nat.reduceLT, Nat.reduceLeDiff, true_and, and_true, true_or, or_true, Int.reduceEq, Nat.reduceEqDiff, reduceCtorEq, true_implies, false_implies, not_true_eq_false, not_false_eq_true, Nat.zero_le, Int.zero_add, Nat.zero_add, Nat.lt_add_one, eq_self, forall_const, implies_true, Bool.false_eq_true, false_or, or_false, and_self, ne_eq, me_ne, me_self, wr5_o, show w32 (M 1 9 - 1) = M 1 9 - 1 from w32_id (by omega) (by omega)]
  exact l5_40 hB _ _ _ _ _ (by omega) (by omega) H
theorem c5_41 {k : Int} (h0 : 0 ≤ k) (h1 : k < 12) (hh : 0 ≤ M 5 2 ∧ M 5 2 < 100) (H : Q 0 (wr5 M (hLa M (M 5 2) k s))) : Cl (d + 1) 41 [vR 5, vR 2, vI k] (wr5 M s) Q := by
  unfold Cl
  rw [en_41]
  simp only [bq41_0, bq41_1, s_0, lgI_some, s_3, s_6, s_8, s_24, s_25, s_29, cnP_0, cnP_1, cnP_2, cnP_3, cnP_4, cnP_5, s_32, s_33I, s_33R, s_34, s_38, s_47, lgR_some, s_53, res_0, res_1, nlg_n, nlg_I, nlg_R, Bool.true_and, Bool.and_self, Bool.and_true, kd_9, kd_10, kd_11, kd_12, kd_13, kd_14, kd_15, kd_16, kd_17, kd_18, kd_19, kd_20, kd_21, kd_22, kd_23, kd_24, kd_25, kd_26, kd_27, kd_28, kd_29, kd_30, kd_31, kd_32, kd_33, kd_34, kd_35, kd_36, kd_37, kd_38, kd_39, kd_40, kd_41, kd_42, kd_43, kd_44, kd_45, kd_46, kd_47, kd_48, kd_49, ln_9, ln_10, ln_11, ln_12, ln_13, ln_14, ln_15, ln_16, ln_17, ln_18, ln_19, ln_20, ln_21, ln_22, ln_23, ln_24, ln_25, ln_26, ln_27, ln_28, ln_29, ln_30, ln_31, ln_32, ln_33, ln_34, ln_35, ln_36, ln_37, ln_38, ln_39, ln_40, ln_41, ln_42, ln_43, ln_44, ln_45, ln_46, ln_47, ln_48, ln_49, lg_0, lg_1, lg_2, g_2_7, g_5_1, g_5_2, g_5_3, g_8_1, g_8_2, g_8_3, p_5_3, p_8_3, rc_9_2, List.length_cons, List.length_nil, Nat.reduceAdd, Nat.reduceLT, Nat.reduceLeDiff, true_and, and_true, true_or, or_true, Int.reduceEq, Nat.reduceEqDiff, reduceCtorEq, true_implies, false_implies, not_true_eq_false, not_false_eq_true, Nat.zero_le, Int.zero_add, Nat.zero_add, Nat.lt_add_one, eq_self, forall_const, implies_true, Bool.false_eq_true, false_or, or_false, and_self, ne_eq, me_ne, me_self, wr5_o, wr5_b, wr5_2, wr5_3, wp5_b, wp5_3, fu_s, fu_fu, q_9 h0 h1, h0, h1, b01_z, Classical.not_not, mul100 h0 h1 hh.1 (show M 5 2 ≤ 100 by omega)]
  unfold hLa hbr at H
  refine ⟨⟨by omega, by omega⟩, fun q => ?_, fun q => ?_⟩
  · rwa [if_neg q] at H
  · rwa [if_pos q] at H
theorem c5_42 {k : Int} (hB : IvB M) (hD : IvD M) (h0 : 0 ≤ k) (h1 : k < M 2 8) (H : Q 0 (wr5 M (hOv M (M 5 2) k s))) : Cl (d + 2) 42 [vR 5, vR 1, vR 2, vI k] (wr5 M s) Q := by
  have g := hD.2.1 k h0 h1
  have e := hD.1
  have f := hB.1
  have a1 := hB.2.2.2.1 _ g.1.1 g.1.2
  have a2 := hB.2.2.2.1 _ g.2.1.1 g.2.1.2
  have h1' : k < 12 := by omega
  have x1 : M 17 k < 10 := by omega
  have x2 : M 18 k < 10 := by omega
  unfold Cl
  rw [en_42]
  simp only [bq42_0, bq42_1, bq42_2, s_0, lgI_some, s_1I, s_2, s_4, s_6, s_7, s_16, s_17, s_19, s_20, s_21, s_24, s_25, s_29, cnP_0, cnP_1, cnP_2, cnP_3, cnP_4, cnP_5, s_30, s_32, s_34, s_38, s_39, s_41, s_47, lgR_some, s_48, lgL_some, s_53, res_0, res_1, nlg_n, nlg_I, nlg_R, Bool.true_and, Bool.and_self, Bool.and_true, kd_9, kd_10, kd_11, kd_12, kd_13, kd_14, kd_15, kd_16, kd_17, kd_18, kd_19, kd_20, kd_21, kd_22, kd_23, kd_24, kd_25, kd_26, kd_27, kd_28, kd_29, kd_30, kd_31, kd_32, kd_33, kd_34, kd_35, kd_36, kd_37, kd_38, kd_39, kd_40, kd_41, kd_42, kd_43, kd_44, kd_45, kd_46, kd_47, kd_48, kd_49, ln_9, ln_10, ln_11, ln_12, ln_13, ln_14, ln_15, ln_16, ln_17, ln_18, ln_19, ln_20, ln_21, ln_22, ln_23, ln_24, ln_25, ln_26, ln_27, ln_28, ln_29, ln_30, ln_31, ln_32, ln_33, ln_34, ln_35, ln_36, ln_37, ln_38, ln_39, ln_40, ln_41, ln_42, ln_43, ln_44, ln_45, ln_46, ln_47, ln_48, ln_49, lg_0, lg_1, lg_2, lg_3, lg_4, lg_5, lg_6, lg_7, lg_8, lg_9, lg_10, lg_11, lg_12, lz_0, lz_1, lz_2, lz_3, lz_4, lz_5, lz_6, lz_7, lz_8, lz_9, lz_10, lz_11, lz_12, lp_0, lp_1, lp_2, lp_3, lp_4, lp_5, lp_6, lp_7, lp_8, lp_9, lp_10, lp_11, lp_12, isL_n, isL_I, isL_R, ly_0, ly_1, ly_2, ly_3, ly_4, ly_5, ly_6, ly_7, ly_8, ly_9, ly_10, ly_11, ly_12, g_1_1, g_2_0, g_2_1, g_2_3, g_5_0, g_8_0, rc_34_5, rc_34_8, rc_36_5, rc_36_8, List.length_cons, List.length_nil, Nat.reduceAdd, Nat.reduceLT, Nat.reduceLeDiff, true_and, and_true, true_or, or_true, Int.reduceEq, Nat.reduceEqDiff, reduceCtorEq, true_implies, false_implies, not_true_eq_false, not_false_eq_true, Nat.zero_le, Int.zero_add, Nat.zero_add, Nat.lt_add_one, eq_self, forall_const, implies_true, Bool.false_eq_true, false_or, or_false, and_self, ne_eq, me_ne, me_self, wr5_o, wr5_w, wr5_2, wp5_w, q5_34 g.1.1 x1 a1.1.1, q5_34 g.2.1.1 x2 a2.1.1, q5_36 h0 h1', h0, h1', lc_le, g.1.1, g.2.1.1, x1, x2]
  unfold hOv at H
  refine ⟨fun q => ?_, fun q => ?_⟩
  · rw [if_pos q] at H
    unfold hO1 at H
    refine ⟨fun q => ?_, fun q => ?_⟩
    · rwa [if_pos (show hhd _ _ _ ≤ 0 from q)] at H
    · rwa [if_neg (show ¬ hhd _ _ _ ≤ 0 from q)] at H
  · rw [if_neg q] at H
    unfold hO1 at H
    refine ⟨fun q => ?_, fun q => ?_⟩
    · rwa [if_pos (show hhd _ _ _ ≤ 0 from q)] at H
    · rwa [if_neg (show ¬ hhd _ _ _ ≤ 0 from q)] at H
theorem l5_38b (hB : IvB M) (hD : IvD M) (hh : 0 ≤ M 5 2 ∧ M 5 2 < 100) : ∀ (n : Nat) (s : HS) (k : Int), 0 ≤ k → k + (n : Int) = M 2 8 → Q 0 (me_put (wr5 M (hOd M (M 5 2) n k s)) 5 2 (M 5 2 + 1)) → Rn (d + 3) (blk 38 4) 38 [some (vR 5), some (vR 1), some (vR 2), some (vI k)] [] (wr5 M s) Q := by
  intro n
  induction n with
  | zero =>
    intro s k h0 hn H
    rw [bq38_4]
    simp only [bq38_5, s_0, lgI_some, s_3, s_5K, s_6, s_30, cnP_0, cnP_1, cnP_2, cnP_3, cnP_4, cnP_5, s_31, s_33I, s_33R, s_38, s_47, lgR_some, s_54, res_0, res_1, nlg_n, nlg_I, nlg_R, Bool.true_and, Bool.and_self, Bool.and_true, lg_0, lg_1, lg_2, lg_3, lz_0, lz_1, lz_2, lz_3, lp_0, lp_1, lp_2, lp_3, isL_n, isL_I, isL_R, g_2_8, g_5_2, g_8_2, p_5_2, p_8_2, rc_42_5, rc_42_8, List.length_cons, List.length_nil, Nat.reduceAdd, Nat.reduceLT, Nat.reduceLeDiff, true_and, and_true, true_or, or_true, Int.reduceEq, Nat.reduceEqDiff, reduceCtorEq, true_implies, false_implies, not_true_eq_false, not_false_eq_true, Nat.zero_le, Int.zero_add, Nat.zero_add, Nat.lt_add_one, eq_self, forall_const, implies_true, Bool.false_eq_true, false_or, or_false, and_self, ne_eq, me_ne, me_self, wr5_o, wr5_2, show M 2 8 ≤ k by omega, show w32 (M 5 2 + 1) = M 5 2 + 1 from w32_id (by omega) (by omega)]
    exact H
  | succ n ih =>
    intro s k h0 hn H
    have e := hD.1
    rw [bq38_4]
    simp only [bq38_5, s_0, lgI_some, s_3, s_5K, s_6, s_30, cnP_0, cnP_1, cnP_2, cnP_3, cnP_4, cnP_5, s_31, s_33I, s_33R, s_38, s_47, lgR_some, s_54, res_0, res_1, nlg_n, nlg_I, nlg_R, Bool.true_and, Bool.and_self, Bool.and_true, lg_0, lg_1, lg_2, lg_3, lz_0, lz_1, lz_2, lz_3, lp_0, lp_1, lp_2, lp_3, isL_n, isL_I, isL_R, g_2_8, g_5_2, g_8_2, p_5_2, p_8_2, rc_42_5, rc_42_8, List.length_cons, List.length_nil, Nat.reduceAdd, Nat.reduceLT, Nat.reduceLeDiff, true_and, and_true, true_or, or_true, Int.reduceEq, Nat.reduceEqDiff, reduceCtorEq, true_implies, false_implies, not_true_eq_false, not_false_eq_true, Nat.zero_le, Int.zero_add, Nat.zero_add, Nat.lt_add_one, eq_self, forall_const, implies_true, Bool.false_eq_true, false_or, or_false, and_self, ne_eq, me_ne, me_self, wr5_o, wr5_2, show ¬ M 2 8 ≤ k by omega, show w32 (k + 1) = k + 1 from w32_id (by omega) (by omega)]
    refine c5_42 hB hD h0 (by omega) ?_
    exact ih _ _ (by omega) (by omega) H
theorem l5_38a (hB : IvB M) (hD : IvD M) (hh : 0 ≤ M 5 2 ∧ M 5 2 < 100) : ∀ (n : Nat) (s : HS) (k : Int), 0 ≤ k → k + (n : Int) = M 2 8 → Q 0 (me_put (wr5 M (hOd M (M 5 2) (M 2 8).toNat 0 (hLd M (M 5 2) n k s))) 5 2 (M 5 2 + 1)) → Rn (d + 3) (blk 38 2) 38 [some (vR 5), some (vR 1), some (vR 2), some (vI k)] [] (wr5 M s) Q := by
  intro n
  induction n with
  | zero =>
    intro s k h0 hn H
    rw [bq38_2]
    simp only [bq38_3, s_0, lgI_some, s_1I, s_3, s_5K, s_30, cnP_0, cnP_1, cnP_2, cnP_3, cnP_4, cnP_5, s_31, s_32, s_47, lgR_some, s_53, s_54, res_0, res_1, nlg_n, nlg_I, nlg_R, Bool.true_and, Bool.and_self, Bool.and_true, lg_0, lg_1, lg_2, lg_3, lz_0, lz_1, lz_2, lz_3, lp_0, lp_1, lp_2, lp_3, isL_n, isL_I, isL_R, g_2_8, rc_41_5, rc_41_8, rc_42_5, rc_42_8, List.length_cons, List.length_nil, Nat.reduceAdd, Nat.reduceLT, Nat.reduceLeDiff, true_and, and_true, true_or, or_true, Int.reduceEq, Nat.reduceEqDiff, reduceCtorEq, true_implies, false_implies, not_true_eq_false, not_false_eq_true, Nat.zero_le, Int.zero_add, Nat.zero_add, Nat.lt_add_one, eq_self, forall_const, implies_true, Bool.false_eq_true, false_or, or_false, and_self, ne_eq, me_ne, me_self, wr5_o, wr5_2, show M 2 8 ≤ k by omega]
    exact l5_38b hB hD hh _ _ _ (Int.le_refl 0) (by omega) H
  | succ n ih =>
    intro s k h0 hn H
    have e := hD.1
    rw [bq38_2]
    simp only [bq38_3, s_0, lgI_some, s_1I, s_3, s_5K, s_30, cnP_0, cnP_1, cnP_2, cnP_3, cnP_4, cnP_5, s_31, s_32, s_47, lgR_some, s_53, s_54, res_0, res_1, nlg_n, nlg_I, nlg_R, Bool.true_and, Bool.and_self, Bool.and_true, lg_0, lg_1, lg_2, lg_3, lz_0, lz_1, lz_2, lz_3, lp_0, lp_1, lp_2, lp_3, isL_n, isL_I, isL_R, g_2_8, rc_41_5, rc_41_8, rc_42_5, rc_42_8, List.length_cons, List.length_nil, Nat.reduceAdd, Nat.reduceLT, Nat.reduceLeDiff, true_and, and_true, true_or, or_true, Int.reduceEq, Nat.reduceEqDiff, reduceCtorEq, true_implies, false_implies, not_true_eq_false, not_false_eq_true, Nat.zero_le, Int.zero_add, Nat.zero_add, Nat.lt_add_one, eq_self, forall_const, implies_true, Bool.false_eq_true, false_or, or_false, and_self, ne_eq, me_ne, me_self, wr5_o, wr5_2, show ¬ M 2 8 ≤ k by omega, show w32 (k + 1) = k + 1 from w32_id (by omega) (by omega)]
    refine c5_41 h0 (by omega) hh ?_
    exact ih _ _ (by omega) (by omega) H
/-- an hour passes -/
theorem c5_38 (hB : IvB M) (hD : IvD M) (hh : 0 ≤ M 5 2 ∧ M 5 2 < 100) (H : Q 0 (wr5 (me_put M 5 2 (M 5 2 + 1)) (hF M (M 5 2) s))) : Cl (d + 3) 38 [vR 5, vR 1, vR 2] (wr5 M s) Q := by
  have e := hD.1
  unfold Cl
  rw [en_38]
  simp only [bq38_0, bq38_1, s_0, lgI_some, s_1I, s_3, s_5K, s_30, cnP_0, cnP_1, cnP_2, cnP_3, cnP_4, cnP_5, s_31, s_32, s_38, s_47, lgR_some, s_52, s_53, s_54, res_0, res_1, nlg_n, nlg_I, nlg_R, Bool.true_and, Bool.and_self, Bool.and_true, lg_0, lg_1, lg_2, lg_3, lz_0, lz_1, lz_2, lz_3, lp_0, lp_1, lp_2, lp_3, isL_n, isL_I, isL_R, g_2_8, g_5_2, g_8_2, rc_39_5, rc_39_8, rc_40_5, rc_40_8, rc_41_5, rc_41_8, rc_42_5, rc_42_8, List.length_cons, List.length_nil, Nat.reduceAdd, Nat.reduceLT, Nat.reduceLeDiff, true_and, and_true, true_or, or_true, Int.reduceEq, Nat.reduceEqDiff, reduceCtorEq, true_implies, false_implies, not_true_eq_false, not_false_eq_true, Nat.zero_le, Int.zero_add, Nat.zero_add, Nat.lt_add_one, eq_self, forall_const, implies_true, Bool.false_eq_true, false_or, or_false, and_self, ne_eq, me_ne, me_self, wr5_o, wr5_2, hh.2]
  refine c5_39 hB hh (c5_40 hB ?_)
  rw [← wp5_h] at H
  exact l5_38a hB hD hh _ _ _ (Int.le_refl 0) (by omega) H
/-- behind the last hour nothing -/
theorem c5_38e (hh : 100 ≤ M 5 2) (H : Q 0 M) : Cl d 38 [vR 5, vR 1, vR 2] M Q := by
  unfold Cl
  rw [en_38]
  simp only [bq38_0, bq38_1, s_0, lgI_some, s_1I, s_3, s_5K, s_30, cnP_0, cnP_1, cnP_2, cnP_3, cnP_4, cnP_5, s_31, s_32, s_38, s_47, lgR_some, s_52, s_53, s_54, res_0, res_1, nlg_n, nlg_I, nlg_R, Bool.true_and, Bool.and_self, Bool.and_true, lg_0, lg_1, lg_2, lg_3, lz_0, lz_1, lz_2, lz_3, lp_0, lp_1, lp_2, lp_3, isL_n, isL_I, isL_R, g_2_8, g_5_2, g_8_2, rc_39_5, rc_39_8, rc_40_5, rc_40_8, rc_41_5, rc_41_8, rc_42_5, rc_42_8, List.length_cons, List.length_nil, Nat.reduceAdd, Nat.reduceLT, Nat.reduceLeDiff, true_and, and_true, true_or, or_true, Int.reduceEq, Nat.reduceEqDiff, reduceCtorEq, true_implies, false_implies, not_true_eq_false, not_false_eq_true, Nat.zero_le, Int.zero_add, Nat.zero_add, Nat.lt_add_one, eq_self, forall_const, implies_true, Bool.false_eq_true, false_or, or_false, and_self, ne_eq, me_ne, me_self, show ¬ M 5 2 < 100 by omega]
  exact H
end H5
def wr8 (M : Me) (s : HS) : Me := fun a b => if a = 48 ∧ 0 ≤ b ∧ b < 10 then s.1 b else if a = 49 ∧ 0 ≤ b ∧ b < 12 then s.2.1 b else if a = 8 ∧ b = 3 then s.2.2.1 else if a = 8 ∧ b = 4 then w32 s.2.2.2.1 else if a = 8 ∧ b = 5 then w32 s.2.2.2.2 else M a b
section H8
variable {d : Nat} {M : Me} {s : HS} {Q : Int → Me → Prop}
theorem wr8_f {k : Nat} (h1 : k ≠ 48) (h2 : k ≠ 49) (h3 : k ≠ 8) : wr8 M s k = M k := by
  funext b; simp [wr8, h1, h2, h3]
theorem wr8_o {k : Nat} {b : Int} (h1 : k ≠ 48) (h2 : k ≠ 49) (h3 : k ≠ 8) : wr8 M s k b = M k b := by
  rw [wr8_f h1 h2 h3]
theorem wr8_w {b : Int} (h0 : 0 ≤ b) (h1 : b < 10) : wr8 M s 48 b = s.1 b := by simp [wr8, h0, h1]
theorem wr8_b {b : Int} (h0 : 0 ≤ b) (h1 : b < 12) : wr8 M s 49 b = s.2.1 b := by simp [wr8, h0, h1]
theorem wr8_2 : wr8 M s 8 2 = M 8 2 := rfl
theorem wr8_3 : wr8 M s 8 3 = s.2.2.1 := rfl
theorem wr8_4 : wr8 M s 8 4 = w32 s.2.2.2.1 := rfl
theorem wr8_5 : wr8 M s 8 5 = w32 s.2.2.2.2 := rfl
theorem wp8_w {i v : Int} (h0 : 0 ≤ i) (h1 : i < 10) : me_put (wr8 M s) 48 i v = wr8 M (fu s.1 i v, s.2) := by
  funext a b
  simp only [me_put, wr8, fu]
  by_cases h : a = 48
  · subst h
    by_cases q : b = i
    · subst q; simp [h0, h1]
    · simp [q]
  · simp [h]
theorem wp8_b {i v : Int} (h0 : 0 ≤ i) (h1 : i < 12) : me_put (wr8 M s) 49 i v = wr8 M (s.1, fu s.2.1 i v, s.2.2) := by
  funext a b
  simp only [me_put, wr8, fu]
  by_cases h : a = 49
  · subst h
    by_cases q : b = i
    · subst q; simp [h0, h1]
    · simp [q]
  · simp [h]
theorem wp8_3 {v : Int} : me_put (wr8 M s) 8 3 v = wr8 M (s.1, s.2.1, v, s.2.2.2) := by
  funext a b
  simp only [me_put, wr8]
  by_cases h : a = 8
  · subst h; by_cases h : b = 3
    · subst h; simp
    · simp [h]
  · simp [h]
theorem wp8_4 {x : Int} : me_put (wr8 M s) 8 4 (w32 x) = wr8 M (s.1, s.2.1, s.2.2.1, x, s.2.2.2.2) := by
  funext a b
  simp only [me_put, wr8]
  by_cases h : a = 8
  · subst h; by_cases h : b = 4
    · subst h; simp
    · simp [h]
  · simp [h]
theorem wp8_5 {x : Int} : me_put (wr8 M s) 8 5 (w32 x) = wr8 M (s.1, s.2.1, s.2.2.1, s.2.2.2.1, x) := by
  funext a b
  simp only [me_put, wr8]
  by_cases h : a = 8
  · subst h; by_cases h : b = 5
    · subst h; simp
    · simp [h]
  · simp [h]
theorem wp8_h {v : Int} : me_put (wr8 M s) 8 2 v = wr8 (me_put M 8 2 v) s := by
  funext a b
  simp only [me_put, wr8]
  by_cases h : a = 8
  · subst h; by_cases h : b = 2
    · subst h; simp
    · simp [h]
  · simp [h]
theorem q8_34 {b : Int} (h0 : 0 ≤ b) (h1 : b < 10) (ha : 1 ≤ M 10 b) : Cl d 34 [vR 8, vR 1, vI b] (wr8 M s) Q = Q (hlv M s b) (wr8 M s) := by
  unfold Cl
  rw [en_34]
  simp only [bq34_0, bq34_1, bq34_2, s_0, lgI_some, s_1I, s_3, s_6, s_13, s_24, s_30, cnP_0, cnP_1, cnP_2, cnP_3, cnP_4, cnP_5, s_31, s_32, s_37i, s_37z, s_47, lgR_some, kd_9, kd_10, kd_11, kd_12, kd_13, kd_14, kd_15, kd_16, kd_17, kd_18, kd_19, kd_20, kd_21, kd_22, kd_23, kd_24, kd_25, kd_26, kd_27, kd_28, kd_29, kd_30, kd_31, kd_32, kd_33, kd_34, kd_35, kd_36, kd_37, kd_38, kd_39, kd_40, kd_41, kd_42, kd_43, kd_44, kd_45, kd_46, kd_47, kd_48, kd_49, ln_9, ln_10, ln_11, ln_12, ln_13, ln_14, ln_15, ln_16, ln_17, ln_18, ln_19, ln_20, ln_21, ln_22, ln_23, ln_24, ln_25, ln_26, ln_27, ln_28, ln_29, ln_30, ln_31, ln_32, ln_33, ln_34, ln_35, ln_36, ln_37, ln_38, ln_39, ln_40, ln_41, ln_42, ln_43, ln_44, ln_45, ln_46, ln_47, ln_48, ln_49, lg_0, lg_1, lg_2, lg_3, lz_0, lz_1, lz_2, lz_3, lp_0, lp_1, lp_2, lp_3, isL_n, isL_I, isL_R, g_1_1, g_1_2, g_5_0, g_8_0, List.length_cons, List.length_nil, Nat.reduceAdd, Nat.reduceLT, Nat.reduceLeDiff, true_and, and_true, true_or, or_true, Int.reduceEq, Nat.reduceEqDiff, reduceCtorEq, true_implies, false_implies, not_true_eq_false, not_false_eq_true, Nat.zero_le, Int.zero_add, Nat.zero_add, Nat.lt_add_one, eq_self, forall_const, implies_true, Bool.false_eq_true, false_or, or_false, and_self, ne_eq, me_ne, me_self, wr8_o, wr8_w, h0, h1, ha, show ¬ M 10 b = 0 by omega]
  rfl
theorem q8_36 {k : Int} (h0 : 0 ≤ k) (h1 : k < 12) : Cl (d + 1) 36 [vR 8, vR 2, vI k] (wr8 M s) Q = Q (htp M (M 8 2) s k) (wr8 M s) := by
  unfold Cl
  rw [en_36]
  simp only [bq36_0, bq36_1, bq36_2, s_0, lgI_some, s_3, s_6, s_13, s_24, s_29, cnP_0, cnP_1, cnP_2, cnP_3, cnP_4, cnP_5, s_31, s_32, s_37i, s_37z, s_47, lgR_some, s_53, res_0, res_1, nlg_n, nlg_I, nlg_R, Bool.true_and, Bool.and_self, Bool.and_true, kd_9, kd_10, kd_11, kd_12, kd_13, kd_14, kd_15, kd_16, kd_17, kd_18, kd_19, kd_20, kd_21, kd_22, kd_23, kd_24, kd_25, kd_26, kd_27, kd_28, kd_29, kd_30, kd_31, kd_32, kd_33, kd_34, kd_35, kd_36, kd_37, kd_38, kd_39, kd_40, kd_41, kd_42, kd_43, kd_44, kd_45, kd_46, kd_47, kd_48, kd_49, ln_9, ln_10, ln_11, ln_12, ln_13, ln_14, ln_15, ln_16, ln_17, ln_18, ln_19, ln_20, ln_21, ln_22, ln_23, ln_24, ln_25, ln_26, ln_27, ln_28, ln_29, ln_30, ln_31, ln_32, ln_33, ln_34, ln_35, ln_36, ln_37, ln_38, ln_39, ln_40, ln_41, ln_42, ln_43, ln_44, ln_45, ln_46, ln_47, ln_48, ln_49, lg_0, lg_1, lg_2, g_2_2, g_2_5, g_5_1, g_5_2, g_8_1, g_8_2, rc_9_2, List.length_cons, List.length_nil, Nat.reduceAdd, Nat.reduceLT, Nat.reduceLeDiff, true_and, and_true, true_or, or_true, Int.reduceEq, Nat.reduceEqDiff, reduceCtorEq, true_implies, false_implies, not_true_eq_false, not_false_eq_true, Nat.zero_le, Int.zero_add, Nat.zero_add, Nat.lt_add_one, eq_self, forall_const, implies_true, Bool.false_eq_true, false_or, or_false, and_self, ne_eq, me_ne, me_self, wr8_o, wr8_b, wr8_2, q_9 h0 h1, h0, h1, b01_z, Classical.not_not]
  unfold htp hbr
  by_cases q : ¬M 23 k = -1 ∧ M 23 k ≤ M 8 2
  · simp only [q, not_true_eq_false, false_implies, true_implies, true_and, if_true, not_false_eq_true, and_self]
  · simp only [q, not_true_eq_false, false_implies, true_implies, true_and, and_true, if_false, not_false_eq_true]
theorem c8_39 (hB : IvB M) (hh : 0 ≤ M 8 2 ∧ M 8 2 < 100) (H : Q 0 (wr8 M (hIn M (M 8 2) s))) : Cl d 39 [vR 8, vR 1] (wr8 M s) Q := by
  unfold Cl
  rw [en_39]
  unfold hIn at H
  by_cases q : M 1 9 ≤ 0
  · simp only [bq39_0, bq39_1, s_0, lgI_some, s_1I, s_3, s_6, s_24, s_25, s_29, cnP_0, cnP_1, cnP_2, cnP_3, cnP_4, cnP_5, s_32, s_33I, s_33R, s_34, s_38, s_47, lgR_some, kd_9, kd_10, kd_11, kd_12, kd_13, kd_14, kd_15, kd_16, kd_17, kd_18, kd_19, kd_20, kd_21, kd_22, kd_23, kd_24, kd_25, kd_26, kd_27, kd_28, kd_29, kd_30, kd_31, kd_32, kd_33, kd_34, kd_35, kd_36, kd_37, kd_38, kd_39, kd_40, kd_41, kd_42, kd_43, kd_44, kd_45, kd_46, kd_47, kd_48, kd_49, ln_9, ln_10, ln_11, ln_12, ln_13, ln_14, ln_15, ln_16, ln_17, ln_18, ln_19, ln_20, ln_21, ln_22, ln_23, ln_24, ln_25, ln_26, ln_27, ln_28, ln_29, ln_30, ln_31, ln_32, ln_33, ln_34, ln_35, ln_36, ln_37, ln_38, ln_39, ln_40, ln_41, ln_42, ln_43, ln_44, ln_45, ln_46, ln_47, ln_48, ln_49, lg_0, lg_1, lg_2, lz_0, lz_1, lz_2, lp_0, lp_1, lp_2, isL_n, isL_I, isL_R, g_1_6, g_1_7, g_1_9, g_5_0, g_5_2, g_5_5, g_8_0, g_8_2, g_8_5, p_5_5, p_8_5, List.length_cons, List.length_nil, Nat.reduceAdd, Nat.reduceLT, Nat.reduceLeDiff, true_and, and_true, true_or, or_true, Int.reduceEq, Nat.reduceEqDiff, reduceCtorEq, true_implies, false_implies, not_true_eq_false, not_false_eq_true, Nat.zero_le, Int.zero_add, Nat.zero_add, Nat.lt_add_one, eq_self, forall_const, implies_true, Bool.false_eq_true, false_or, or_false, and_self, ne_eq, me_ne, me_self, wr8_o, q]
    rwa [if_pos q] at H
  · have b1 := IvB_st hB (Int.le_refl 0) (by omega)
    have b2 : M 15 0 < 10 := by have := hB.1; omega
    simp only [bq39_0, bq39_1, s_0, lgI_some, s_1I, s_3, s_6, s_24, s_25, s_29, cnP_0, cnP_1, cnP_2, cnP_3, cnP_4, cnP_5, s_32, s_33I, s_33R, s_34, s_38, s_47, lgR_some, kd_9, kd_10, kd_11, kd_12, kd_13, kd_14, kd_15, kd_16, kd_17, kd_18, kd_19, kd_20, kd_21, kd_22, kd_23, kd_24, kd_25, kd_26, kd_27, kd_28, kd_29, kd_30, kd_31, kd_32, kd_33, kd_34, kd_35, kd_36, kd_37, kd_38, kd_39, kd_40, kd_41, kd_42, kd_43, kd_44, kd_45, kd_46, kd_47, kd_48, kd_49, ln_9, ln_10, ln_11, ln_12, ln_13, ln_14, ln_15, ln_16, ln_17, ln_18, ln_19, ln_20, ln_21, ln_22, ln_23, ln_24, ln_25, ln_26, ln_27, ln_28, ln_29, ln_30, ln_31, ln_32, ln_33, ln_34, ln_35, ln_36, ln_37, ln_38, ln_39, ln_40, ln_41, ln_42, ln_43, ln_44, ln_45, ln_46, ln_47, ln_48, ln_49, lg_0, lg_1, lg_2, lz_0, lz_1, lz_2, lp_0, lp_1, lp_2, isL_n, isL_I, isL_R, g_1_6, g_1_7, g_1_9, g_5_0, g_5_2, g_5_5, g_8_0, g_8_2, g_8_5, p_5_5, p_8_5, List.length_cons, List.length_nil, Nat.reduceAdd, Nat.reduceLT, Nat.reduceLeDiff, true_and, and_true, true_or, or_true, Int.reduceEq, Nat.reduceEqDiff, reduceCtorEq, true_implies, false_implies, not_true_eq_false, not_false_eq_true, Nat.zero_le, Int.zero_add, Nat.zero_add, Nat.lt_add_one, eq_self, forall_const, implies_true, Bool.false_eq_true, false_or, or_false, and_self, ne_eq, me_ne, me_self, wr8_o, wr8_w, wr8_2, wr8_5, wp8_w, wp8_5, w32_al, q, b1.1.1, b2, hh.1, hh.2]
    rw [if_neg q] at H
    exact ⟨by omega, H⟩
theorem l8_40 (hB : IvB M) : ∀ (n : Nat) (s : HS) (x y : Option AV) (i : Int), i = (n : Int) - 1 → (n : Int) ≤ M 1 9 → Q 0 (wr8 M (hPd M n s)) → Rn d (blk 40 1) 40 [some (vR 8), some (vR 1), some (vI (M 1 9 - 1)), some (vI i), x, y] [] (wr8 M s) Q := by
  intro n
  induction n with
  | zero =>
    intro s x y i hi hn H
    rw [bq40_1]
    simp only [bq40_2, bq40_3, bq40_4, s_0, lgI_some, s_1I, s_3, s_4, s_5K, s_6, s_7, s_16, s_17, s_19, s_20, s_24, s_25, s_29, cnP_0, cnP_1, cnP_2, cnP_3, cnP_4, cnP_5, s_30, s_31, s_32, s_33I, s_33R, s_34, s_38, s_47, lgR_some, kd_9, kd_10, kd_11, kd_12, kd_13, kd_14, kd_15, kd_16, kd_17, kd_18, kd_19, kd_20, kd_21, kd_22, kd_23, kd_24, kd_25, kd_26, kd_27, kd_28, kd_29, kd_30, kd_31, kd_32, kd_33, kd_34, kd_35, kd_36, kd_37, kd_38, kd_39, kd_40, kd_41, kd_42, kd_43, kd_44, kd_45, kd_46, kd_47, kd_48, kd_49, ln_9, ln_10, ln_11, ln_12, ln_13, ln_14, ln_15, ln_16, ln_17, ln_18, ln_19, ln_20, ln_21, ln_22, ln_23, ln_24, ln_25, ln_26, ln_27, ln_28, ln_29, ln_30, ln_31, ln_32, ln_33, ln_34, ln_35, ln_36, ln_37, ln_38, ln_39, ln_40, ln_41, ln_42, ln_43, ln_44, ln_45, ln_46, ln_47, ln_48, ln_49, lg_0, lg_1, lg_2, lg_3, lg_4, lg_5, lz_0, lz_1, lz_2, lz_3, lz_4, lz_5, lp_0, lp_1, lp_2, lp_3, lp_4, lp_5, isL_n, isL_I, isL_R, g_1_3, g_1_6, g_5_0, g_5_4, g_8_0, g_8_4, p_5_4, p_8_4, List.length_cons, List.length_nil, Nat.reduceAdd, Nat.reduceLT, Nat.reduceLeDiff, true_and, and_true, true_or, or_true, Int.reduceEq, Nat.reduceEqDiff, reduceCtorEq, true_implies, false_implies, not_true_eq_false, not_false_eq_true, Nat.zero_le, Int.zero_add, Nat.zero_add, Nat.lt_add_one, eq_self, forall_const, implies_true, Bool.false_eq_true, false_or, or_false, and_self, ne_eq, me_ne, me_self, show i < 0 by omega]
    exact H
  | succ n ih =>
    intro s x y i hi hn H
    have b1 := IvB_st hB (i := i) (by omega) (by omega)
    have b2 := hB.1
    have b3 := IvB_sc hB
    rw [bq40_1]
    have e : i = (n : Int) := by omega
    simp only [hPd] at H
    unfold hPs at H
    rw [← e] at H
    by_cases q : i = M 1 9 - 1
    · simp only [bq40_2, bq40_3, bq40_4, s_0, lgI_some, s_1I, s_3, s_4, s_5K, s_6, s_7, s_16, s_17, s_19, s_20, s_24, s_25, s_29, cnP_0, cnP_1, cnP_2, cnP_3, cnP_4, cnP_5, s_30, s_31, s_32, s_33I, s_33R, s_34, s_38, s_47, lgR_some, kd_9, kd_10, kd_11, kd_12, kd_13, kd_14, kd_15, kd_16, kd_17, kd_18, kd_19, kd_20, kd_21, kd_22, kd_23, kd_24, kd_25, kd_26, kd_27, kd_28, kd_29, kd_30, kd_31, kd_32, kd_33, kd_34, kd_35, kd_36, kd_37, kd_38, kd_39, kd_40, kd_41, kd_42, kd_43, kd_44, kd_45, kd_46, kd_47, kd_48, kd_49, ln_9, ln_10, ln_11, ln_12, ln_13, ln_14, ln_15, ln_16, ln_17, ln_18, ln_19, ln_20, ln_21, ln_22, ln_23, ln_24, ln_25, ln_26, ln_27, ln_28, ln_29, ln_30, ln_31, ln_32, ln_33, ln_34, ln_35, ln_36, ln_37, ln_38, ln_39, ln_40, ln_41, ln_42, ln_43, ln_44, ln_45, ln_46, ln_47, ln_48, ln_49, lg_0, lg_1, lg_2, lg_3, lg_4, lg_5, lz_0, lz_1, lz_2, lz_3, lz_4, lz_5, lp_0, lp_1, lp_2, lp_3, lp_4, lp_5, isL_n, isL_I, isL_R, g_1_3, g_1_6, g_5_0, g_5_4, g_8_0, g_8_4, p_5_4, p_8_4, List.length_cons, List.length_nil, Nat.reduceAdd, Nat.reduceLT, Nat.reduceLeDiff, true_and, and_true, true_or, or_true, Int.reduceEq, Nat.reduceEqDiff, reduceCtorEq, true_implies, false_implies, not_true_eq_false, not_false_eq_true, Nat.zero_le, Int.zero_add, Nat.zero_add, Nat.lt_add_one, eq_self, forall_const, implies_true, Bool.false_eq_true, false_or, or_false, and_self, ne_eq, me_ne, me_self, wr8_o, wr8_w, wr8_4, wp8_w, wp8_4, w32_al, show ¬ i < 0 by omega, show 0 ≤ i by omega, show i < 10 by omega, b1.1.1, show M 15 i < 10 by omega, show w32 (i + -1) = i - 1 from w32_id (by omega) (by omega), show w32 (i + 1) = i + 1 from w32_id (by omega) (by omega)]
      refine ⟨fun z => (z q).elim, fun _ => ?_⟩
      rw [if_pos q] at H
      exact ih _ _ _ _ (by omega) (by omega) H
    · have b4 := IvB_st hB (i := i + 1) (by omega) (by omega)
      simp only [bq40_2, bq40_3, bq40_4, s_0, lgI_some, s_1I, s_3, s_4, s_5K, s_6, s_7, s_16, s_17, s_19, s_20, s_24, s_25, s_29, cnP_0, cnP_1, cnP_2, cnP_3, cnP_4, cnP_5, s_30, s_31, s_32, s_33I, s_33R, s_34, s_38, s_47, lgR_some, kd_9, kd_10, kd_11, kd_12, kd_13, kd_14, kd_15, kd_16, kd_17, kd_18, kd_19, kd_20, kd_21, kd_22, kd_23, kd_24, kd_25, kd_26, kd_27, kd_28, kd_29, kd_30, kd_31, kd_32, kd_33, kd_34, kd_35, kd_36, kd_37, kd_38, kd_39, kd_40, kd_41, kd_42, kd_43, kd_44, kd_45, kd_46, kd_47, kd_48, kd_49, ln_9, ln_10, ln_11, ln_12, ln_13, ln_14, ln_15, ln_16, ln_17, ln_18, ln_19, ln_20, ln_21, ln_22, ln_23, ln_24, ln_25, ln_26, ln_27, ln_28, ln_29, ln_30, ln_31, ln_32, ln_33, ln_34, ln_35, ln_36, ln_37, ln_38, ln_39, ln_40, ln_41, ln_42, ln_43, ln_44, ln_45, ln_46, ln_47, ln_48, ln_49, lg_0, lg_1, lg_2, lg_3, lg_4, lg_5, lz_0, lz_1, lz_2, lz_3, lz_4, lz_5, lp_0, lp_1, lp_2, lp_3, lp_4, lp_5, isL_n, isL_I, isL_R, g_1_3, g_1_6, g_5_0, g_5_4, g_8_0, g_8_4, p_5_4, p_8_4, List.length_cons, List.length_nil, Nat.reduceAdd, Nat.reduceLT, Nat.reduceLeDiff, true_and, and_true, true_or, or_true, Int.reduceEq, Nat.reduceEqDiff, reduceCtorEq, true_implies, false_implies, not_true_eq_false, not_false_eq_true, Nat.zero_le, Int.zero_add, Nat.zero_add, Nat.lt_add_one, eq_self, forall_const, implies_true, Bool.false_eq_true, false_or, or_false, and_self, ne_eq, me_ne, me_self, wr8_o, wr8_w, wr8_4, wp8_w, wp8_4, w32_al, show ¬ i < 0 by omega, show 0 ≤ i by omega, show i < 10 by omega, show 0 ≤ i + 1 by omega, show i + 1 < 10 by omega, b1.1.1, show M 15 i < 10 by omega, b4.1.1, show M 15 (i + 1) < 10 by omega, show w32 (i + -1) = i - 1 from w32_id (by omega) (by omega), show w32 (i + 1) = i + 1 from w32_id (by omega) (by omega), q]
      rw [if_neg q] at H
      exact ih _ _ _ _ (by omega) (by omega) H
theorem c8_40 (hB : IvB M) (H : Q 0 (wr8 M (hPd M (M 1 9).toNat s))) : Cl d 40 [vR 8, vR 1] (wr8 M s) Q := by
  have b3 := IvB_sc hB
  have b2 := hB.1
  unfold Cl
  rw [en_40]
  simp only [bq40_0, s_0, lgI_some, s_1I, s_3, s_7, s_32, s_47, lgR_some, lg_0, lg_1, lg_2, lg_3, lg_4, lg_5, lz_0, lz_1, lz_2, lz_3, lz_4, lz_5, lp_0, lp_1, lp_2, lp_3, lp_4, lp_5, isL_n, isL_I, isL_R, g_1_9, List.length_cons, List.length_nil, Nat.reduceAdd, Nat.reduceLT, Nat.reduceLeDiff, true_and, and_true, true_or, or_true, Int.reduceEq, Nat.reduceEqDiff, reduceCtorEq, true_implies, false_implies, not_true_eq_false, not_false_eq_true, Nat.zero_le, Int.zero_add, Nat.zero_add, Nat.lt_add_one, eq_self, forall_const, implies_true, Bool.false_eq_true, false_or, or_false, and_self, ne_eq, me_ne, me_self, wr8_o, show w32 (M 1 9 - 1) = M 1 9 - 1 from w32_id (by omega) (by omega)]
  exact l8_40 hB _ _ _ _ _ (by omega) (by omega) H
theorem c8_41 {k : Int} (h0 : 0 ≤ k) (h1 : k < 12) (hh : 0 ≤ M 8 2 ∧ M 8 2 < 100) (H : Q 0 (wr8 M (hLa M (M 8 2) k s))) : Cl (d + 1) 41 [vR 8, vR 2, vI k] (wr8 M s) Q := by
  unfold Cl
  rw [en_41]
  simp only [bq41_0, bq41_1, s_0, lgI_some, s_3, s_6, s_8, s_24, s_25, s_29, cnP_0, cnP_1, cnP_2, cnP_3, cnP_4, cnP_5, s_32, s_33I, s_33R, s_34, s_38, s_47, lgR_some, s_53, res_0, res_1, nlg_n, nlg_I, nlg_R, Bool.true_and, Bool.and_self, Bool.and_true, kd_9, kd_10, kd_11, kd_12, kd_13, kd_14, kd_15, kd_16, kd_17, kd_18, kd_19, kd_20, kd_21, kd_22, kd_23, kd_24, kd_25, kd_26, kd_27, kd_28, kd_29, kd_30, kd_31, kd_32, kd_33, kd_34, kd_35, kd_36, kd_37, kd_38, kd_39, kd_40, kd_41, kd_42, kd_43, kd_44, kd_45, kd_46, kd_47, kd_48, kd_49, ln_9, ln_10, ln_11, ln_12, ln_13, ln_14, ln_15, ln_16, ln_17, ln_18, ln_19, ln_20, ln_21, ln_22, ln_23, ln_24, ln_25, ln_26, ln_27, ln_28, ln_29, ln_30, ln_31, ln_32, ln_33, ln_34, ln_35, ln_36, ln_37, ln_38, ln_39, ln_40, ln_41, ln_42, ln_43, ln_44, ln_45, ln_46, ln_47, ln_48, ln_49, lg_0, lg_1, lg_2, g_2_7, g_5_1, g_5_2, g_5_3, g_8_1, g_8_2, g_8_3, p_5_3, p_8_3, rc_9_2, List.length_cons, List.length_nil, Nat.reduceAdd, Nat.reduceLT, Nat.reduceLeDiff, true_and, and_true, true_or, or_true, Int.reduceEq, Nat.reduceEqDiff, reduceCtorEq, true_implies, false_implies, not_true_eq_false, not_false_eq_true, Nat.zero_le, Int.zero_add, Nat.zero_add, Nat.lt_add_one, eq_self, forall_const, implies_true, Bool.false_eq_true, false_or, or_false, and_self, ne_eq, me_ne, me_self, wr8_o, wr8_b, wr8_2, wr8_3, wp8_b, wp8_3, fu_s, fu_fu, q_9 h0 h1, h0, h1, b01_z, Classical.not_not, mul100 h0 h1 hh.1 (show M 8 2 ≤ 100 by omega)]
  unfold hLa hbr at H
  refine ⟨⟨by omega, by omega⟩, fun q => ?_, fun q => ?_⟩
  · rwa [if_neg q] at H
  · rwa [if_pos q] at H
theorem c8_42 {k : Int} (hB : IvB M) (hD : IvD M) (h0 : 0 ≤ k) (h1 : k < M 2 8) (H : Q 0 (wr8 M (hOv M (M 8 2) k s))) : Cl (d + 2) 42 [vR 8, vR 1, vR 2, vI k] (wr8 M s) Q := by
  have g := hD.2.1 k h0 h1
  have e := hD.1
  have f := hB.1
  have a1 := hB.2.2.2.1 _ g.1.1 g.1.2
  have a2 := hB.2.2.2.1 _ g.2.1.1 g.2.1.2
  have h1' : k < 12 := by omega
  have x1 : M 17 k < 10 := by omega
  have x2 : M 18 k < 10 := by omega
  unfold Cl
  rw [en_42]
  simp only [bq42_0, bq42_1, bq42_2, s_0, lgI_some, s_1I, s_2, s_4, s_6, s_7, s_16, s_17, s_19, s_20, s_21, s_24, s_25, s_29, cnP_0, cnP_1, cnP_2, cnP_3, cnP_4, cnP_5, s_30, s_32, s_34, s_38, s_39, s_41, s_47, lgR_some, s_48, lgL_some, s_53, res_0, res_1, nlg_n, nlg_I, nlg_R, Bool.true_and, Bool.and_self, Bool.and_true, kd_9, kd_10, kd_11, kd_12, kd_13, kd_14, kd_15, kd_16, kd_17, kd_18, kd_19, kd_20, kd_21, kd_22, kd_23, kd_24, kd_25, kd_26, kd_27, kd_28, kd_29, kd_30, kd_31, kd_32, kd_33, kd_34, kd_35, kd_36, kd_37, kd_38, kd_39, kd_40, kd_41, kd_42, kd_43, kd_44, kd_45, kd_46, kd_47, kd_48, kd_49, ln_9, ln_10, ln_11, ln_12, ln_13, ln_14, ln_15, ln_16, ln_17, ln_18, ln_19, ln_20, ln_21, ln_22, ln_23, ln_24, ln_25, ln_26, ln_27, ln_28, ln_29, ln_30, ln_31, ln_32, ln_33, ln_34, ln_35, ln_36, ln_37, ln_38, ln_39, ln_40, ln_41, ln_42, ln_43, ln_44, ln_45, ln_46, ln_47, ln_48, ln_49, lg_0, lg_1, lg_2, lg_3, lg_4, lg_5, lg_6, lg_7, lg_8, lg_9, lg_10, lg_11, lg_12, lz_0, lz_1, lz_2, lz_3, lz_4, lz_5, lz_6, lz_7, lz_8, lz_9, lz_10, lz_11, lz_12, lp_0, lp_1, lp_2, lp_3, lp_4, lp_5, lp_6, lp_7, lp_8, lp_9, lp_10, lp_11, lp_12, isL_n, isL_I, isL_R, ly_0, ly_1, ly_2, ly_3, ly_4, ly_5, ly_6, ly_7, ly_8, ly_9, ly_10, ly_11, ly_12, g_1_1, g_2_0, g_2_1, g_2_3, g_5_0, g_8_0, rc_34_5, rc_34_8, rc_36_5, rc_36_8, List.length_cons, List.length_nil, Nat.reduceAdd, Nat.reduceLT, Nat.reduceLeDiff, true_and, and_true, true_or, or_true, Int.reduceEq, Nat.reduceEqDiff, reduceCtorEq, true_implies, false_implies, not_true_eq_false, not_false_eq_true, Nat.zero_le, Int.zero_add, Nat.zero_add, Nat.lt_add_one, eq_self, forall_const, implies_true, Bool.false_eq_true, false_or, or_false, and_self, ne_eq, me_ne, me_self, wr8_o, wr8_w, wr8_2, wp8_w, q8_34 g.1.1 x1 a1.1.1, q8_34 g.2.1.1 x2 a2.1.1, q8_36 h0 h1', h0, h1', lc_le, g.1.1, g.2.1.1, x1, x2]
  unfold hOv at H
  refine ⟨fun q => ?_, fun q => ?_⟩
  · rw [if_pos q] at H
    unfold hO1 at H
    refine ⟨fun q => ?_, fun q => ?_⟩
    · rwa [if_pos (show hhd _ _ _ ≤ 0 from q)] at H
    · rwa [if_neg (show ¬ hhd _ _ _ ≤ 0 from q)] at H
  · rw [if_neg q] at H
    unfold hO1 at H
    refine ⟨fun q => ?_, fun q => ?_⟩
    · rwa [if_pos (show hhd _ _ _ ≤ 0 from q)] at H
    · rwa [if_neg (show ¬ hhd _ _ _ ≤ 0 from q)] at H
theorem l8_38b (hB : IvB M) (hD : IvD M) (hh : 0 ≤ M 8 2 ∧ M 8 2 < 100) : ∀ (n : Nat) (s : HS) (k : Int), 0 ≤ k → k + (n : Int) = M 2 8 → Q 0 (me_put (wr8 M (hOd M (M 8 2) n k s)) 8 2 (M 8 2 + 1)) → Rn (d + 3) (blk 38 4) 38 [some (vR 8), some (vR 1), some (vR 2), some (vI k)] [] (wr8 M s) Q := by
  intro n
  induction n with
  | zero =>
    intro s k h0 hn H
    rw [bq38_4]
    simp only [bq38_5, s_0, lgI_some, s_3, s_5K, s_6, s_30, cnP_0, cnP_1, cnP_2, cnP_3, cnP_4, cnP_5, s_31, s_33I, s_33R, s_38, s_47, lgR_some, s_54, res_0, res_1, nlg_n, nlg_I, nlg_R, Bool.true_and, Bool.and_self, Bool.and_true, lg_0, lg_1, lg_2, lg_3, lz_0, lz_1, lz_2, lz_3, lp_0, lp_1, lp_2, lp_3, isL_n, isL_I, isL_R, g_2_8, g_5_2, g_8_2, p_5_2, p_8_2, rc_42_5, rc_42_8, List.length_cons, List.length_nil, Nat.reduceAdd, Nat.reduceLT, Nat.reduceLeDiff, true_and, and_true, true_or, or_true, Int.reduceEq, Nat.reduceEqDiff, reduceCtorEq, true_implies, false_implies, not_true_eq_false, not_false_eq_true, Nat.zero_le, Int.zero_add, Nat.zero_add, Nat.lt_add_one, eq_self, forall_const, implies_true, Bool.false_eq_true, false_or, or_false, and_self, ne_eq, me_ne, me_self, wr8_o, wr8_2, show M 2 8 ≤ k by omega, show w32 (M 8 2 + 1) = M 8 2 + 1 from w32_id (by omega) (by omega)]
    exact H
  | succ n ih =>
    intro s k h0 hn H
    have e := hD.1
    rw [bq38_4]
    simp only [bq38_5, s_0, lgI_some, s_3, s_5K, s_6, s_30, cnP_0, cnP_1, cnP_2, cnP_3, cnP_4, cnP_5, s_31, s_33I, s_33R, s_38, s_47, lgR_some, s_54, res_0, res_1, nlg_n, nlg_I, nlg_R, Bool.true_and, Bool.and_self, Bool.and_true, lg_0, lg_1, lg_2, lg_3, lz_0, lz_1, lz_2, lz_3, lp_0, lp_1, lp_2, lp_3, isL_n, isL_I, isL_R, g_2_8, g_5_2, g_8_2, p_5_2, p_8_2, rc_42_5, rc_42_8, List.length_cons, List.length_nil, Nat.reduceAdd, Nat.reduceLT, Nat.reduceLeDiff, true_and, and_true, true_or, or_true, Int.reduceEq, Nat.reduceEqDiff, reduceCtorEq, true_implies, false_implies, not_true_eq_false, not_false_eq_true, Nat.zero_le, Int.zero_add, Nat.zero_add, Nat.lt_add_one, eq_self, forall_const, implies_true, Bool.false_eq_true, false_or, or_false, and_self, ne_eq, me_ne, me_self, wr8_o, wr8_2, show ¬ M 2 8 ≤ k by omega, show w32 (k + 1) = k + 1 from w32_id (by omega) (by omega)]
    refine c8_42 hB hD h0 (by omega) ?_
    exact ih _ _ (by omega) (by omega) H
theorem l8_38a (hB : IvB M) (hD : IvD M) (hh : 0 ≤ M 8 2 ∧ M 8 2 < 100) : ∀ (n : Nat) (s : HS) (k : Int), 0 ≤ k → k + (n : Int) = M 2 8 → Q 0 (me_put (wr8 M (hOd M (M 8 2) (M 2 8).toNat 0 (hLd M (M 8 2) n k s))) 8 2 (M 8 2 + 1)) → Rn (d + 3) (blk 38 2) 38 [some (vR 8), some (vR 1), some (vR 2), some (vI k)] [] (wr8 M s) Q := by
  intro n
  induction n with
  | zero =>
    intro s k h0 hn H
    rw [bq38_2]
    simp only [bq38_3, s_0, lgI_some, s_1I, s_3, s_5K, s_30, cnP_0, cnP_1, cnP_2, cnP_3, cnP_4, cnP_5, s_31, s_32, s_47, lgR_some, s_53, s_54, res_0, res_1, nlg_n, nlg_I, nlg_R, Bool.true_and, Bool.and_self, Bool.and_true, lg_0, lg_1, lg_2, lg_3, lz_0, lz_1, lz_2, lz_3, lp_0, lp_1, lp_2, lp_3, isL_n, isL_I, isL_R, g_2_8, rc_41_5, rc_41_8, rc_42_5, rc_42_8, List.length_cons, List.length_nil, Nat.reduceAdd, Nat.reduceLT, Nat.reduceLeDiff, true_and, and_true, true_or, or_true, Int.reduceEq, Nat.reduceEqDiff, reduceCtorEq, true_implies, false_implies, not_true_eq_false, not_false_eq_true, Nat.zero_le, Int.zero_add, Nat.zero_add, Nat.lt_add_one, eq_self, forall_const, implies_true, Bool.false_eq_true, false_or, or_false, and_self, ne_eq, me_ne, me_self, wr8_o, wr8_2, show M 2 8 ≤ k by omega]
    exact l8_38b hB hD hh _ _ _ (Int.le_refl 0) (by omega) H
  | succ n ih =>
    intro s k h0 hn H
    have e := hD.1
    rw [bq38_2]
    simp only [bq38_3, s_0, lgI_some, s_1I, s_3, s_5K, s_30, cnP_0, cnP_1, cnP_2, cnP_3, cnP_4, cnP_5, s_31, s_32, s_47, lgR_some, s_53, s_54, res_0, res_1, nlg_n, nlg_I, nlg_R, Bool.true_and, Bool.and_self, Bool.and_true, lg_0, lg_1, lg_2, lg_3, lz_0, lz_1, lz_2, lz_3, lp_0, lp_1, lp_2, lp_3, isL_n, isL_I, isL_R, g_2_8, rc_41_5, rc_41_8, rc_42_5, rc_42_8, List.length_cons, List.length_nil, Nat.reduceAdd, Nat.reduceLT, Nat.reduceLeDiff, true_and, and_true, true_or, or_true, Int.reduceEq, Nat.reduceEqDiff, reduceCtorEq, true_implies, false_implies, not_true_eq_false, not_false_eq_true, Nat.zero_le, Int.zero_add, Nat.zero_add, Nat.lt_add_one, eq_self, forall_const, implies_true, Bool.false_eq_true, false_or, or_false, and_self, ne_eq, me_ne, me_self, wr8_o, wr8_2, show ¬ M 2 8 ≤ k by omega, show w32 (k + 1) = k + 1 from w32_id (by omega) (by omega)]
    refine c8_41 h0 (by omega) hh ?_
    exact ih _ _ (by omega) (by omega) H
/-- an hour passes -/
theorem c8_38 (hB : IvB M) (hD : IvD M) (hh : 0 ≤ M 8 2 ∧ M 8 2 < 100) (H : Q 0 (wr8 (me_put M 8 2 (M 8 2 + 1)) (hF M (M 8 2) s))) : Cl (d + 3) 38 [vR 8, vR 1, vR 2] (wr8 M s) Q := by
  have e := hD.1
  unfold Cl
  rw [en_38]
  simp only [bq38_0, bq38_1, s_0, lgI_some, s_1I, s_3, s_5K, s_30, cnP_0, cnP_1, cnP_2, cnP_3, cnP_4, cnP_5, s_31, s_32, s_38, s_47, lgR_some, s_52, s_53, s_54, res_0, res_1, nlg_n, nlg_I, nlg_R, Bool.true_and, Bool.and_self, Bool.and_true, lg_0, lg_1, lg_2, lg_3, lz_0, lz_1, lz_2, lz_3, lp_0, lp_1, lp_2, lp_3, isL_n, isL_I, isL_R, g_2_8, g_5_2, g_8_2, rc_39_5, rc_39_8, rc_40_5, rc_40_8, rc_41_5, rc_41_8, rc_42_5, rc_42_8, List.length_cons, List.length_nil, Nat.reduceAdd, Nat.reduceLT, Nat.reduceLeDiff, true_and, and_true, true_or, or_true, Int.reduceEq, Nat.reduceEqDiff, reduceCtorEq, true_implies, false_implies, not_true_eq_false, not_false_eq_true, Nat.zero_le, Int.zero_add, Nat.zero_add, Nat.lt_add_one, eq_self, forall_const, implies_true, Bool.false_eq_true, false_or, or_false, and_self, ne_eq, me_ne, me_self, wr8_o, wr8_2, hh.2]
  refine c8_39 hB hh (c8_40 hB ?_)
  rw [← wp8_h] at H
  exact l8_38a hB hD hh _ _ _ (Int.le_refl 0) (by omega) H
/-- behind the last hour nothing -/
theorem c8_38e (hh : 100 ≤ M 8 2) (H : Q 0 M) : Cl d 38 [vR 8, vR 1, vR 2] M Q := by
  unfold Cl
  rw [en_38]
  simp only [bq38_0, bq38_1, s_0, lgI_some, s_1I, s_3, s_5K, s_30, cnP_0, cnP_1, cnP_2, cnP_3, cnP_4, cnP_5, s_31, s_32, s_38, s_47, lgR_some, s_52, s_53, s_54, res_0, res_1, nlg_n, nlg_I, nlg_R, Bool.true_and, Bool.and_self, Bool.and_true, lg_0, lg_1, lg_2, lg_3, lz_0, lz_1, lz_2, lz_3, lp_0, lp_1, lp_2, lp_3, isL_n, isL_I, isL_R, g_2_8, g_5_2, g_8_2, rc_39_5, rc_39_8, rc_40_5, rc_40_8, rc_41_5, rc_41_8, rc_42_5, rc_42_8, List.length_cons, List.length_nil, Nat.reduceAdd, Nat.reduceLT, Nat.reduceLeDiff, true_and, and_true, true_or, or_true, Int.reduceEq, Nat.reduceEqDiff, reduceCtorEq, true_implies, false_implies, not_true_eq_false, not_false_eq_true, Nat.zero_le, Int.zero_add, Nat.zero_add, Nat.lt_add_one, eq_self, forall_const, implies_true, Bool.false_eq_true, false_or, or_false, and_self, ne_eq, me_ne, me_self, show ¬ M 8 2 < 100 by omega]
  exact H
end H8

/-! answers of the small methods, as equations -/
theorem b01_T : b01 True = 1 := b01_t trivial
theorem b01_F : b01 False = 0 := b01_f id
theorem b01_z (p : Prop) : (b01 p = 0) = ¬ p := by
  by_cases h : p
  · simp [b01_T, h]
  · simp [b01_F, h]
theorem b01_o (p : Prop) : (b01 p = 1) = p := by
  by_cases h : p
  · simp [b01_T, h]
  · simp [b01_F, h]
theorem b01_01 (p : Prop) : (b01 p = 0 ∨ b01 p = 1) = True := by
  by_cases h : p
  · simp [b01_t h]
  · simp [b01_f h]
theorem b01_cg {p q : Prop} (h : p ↔ q) : b01 p = b01 q := by rw [propext h]
section BB
variable (Q : Int → Me → Prop) {M : Me} {p q : Prop}
theorem bb1 : ((p → Q 0 M) ∧ (¬ p → Q 1 M)) = Q (b01 (¬ p)) M := by
  by_cases h : p
  · simp [b01_F, h]
  · simp [b01_T, h]
theorem bb2 : ((¬ p → Q 0 M) ∧ (p → Q 1 M)) = Q (b01 p) M := by
  by_cases h : p
  · simp [b01_T, h]
  · simp [b01_F, h]
theorem bb3 : ((p → Q 0 M) ∧ (¬ p → Q (b01 q) M)) = Q (b01 (¬ p ∧ q)) M := by
  by_cases h : p
  · simp [b01_F, h]
  · simp [h]
theorem bb4 : ((¬ p → Q 0 M) ∧ (p → Q (b01 q) M)) = Q (b01 (p ∧ q)) M := by
  by_cases h : p
  · simp [h]
  · simp [b01_F, h]
theorem bb5 (h : p ↔ q) : Q (b01 p) M = Q (b01 q) M := by rw [propext h]
end BB
section QB
variable {d : Nat} {M : Me} {Q : Int → Me → Prop}
theorem q_76 {a b c : Int} : Cl d 76 [vI a, vI b, vI c] M Q = Q (b01 (b ≤ a ∧ a ≤ c)) M := by
  unfold Cl
  rw [en_76]
  simp only [bq76_0, bq76_1, bq76_2, s_0, lgI_some, s_3, s_30, cnP_0, cnP_1, cnP_2, cnP_3, cnP_4, cnP_5, s_31, s_32, s_37i, s_37z, lg_0, lg_1, lg_2, List.length_cons, List.length_nil, Nat.reduceAdd, Nat.reduceLT, Nat.reduceLeDiff, true_and, and_true, true_or, or_true, Int.reduceEq, Nat.reduceEqDiff, reduceCtorEq, true_implies, false_implies, not_true_eq_false, not_false_eq_true, Nat.zero_le, Int.zero_add, Nat.zero_add, Nat.lt_add_one, eq_self, forall_const, implies_true, Bool.false_eq_true, false_or, or_false, and_self, ne_eq, me_ne, me_self]
  simp only [bb1 Q, bb3 Q]
  exact bb5 Q (by omega)
theorem q_85 {a b c : Int} : Cl d 85 [vI a, vI b, vI c] M Q = Q (b01 (b ≤ a ∧ a ≤ c)) M := by
  unfold Cl
  rw [en_85]
  simp only [bq85_0, bq85_1, bq85_2, s_0, lgI_some, s_3, s_30, cnP_0, cnP_1, cnP_2, cnP_3, cnP_4, cnP_5, s_31, s_32, s_37i, s_37z, lg_0, lg_1, lg_2, List.length_cons, List.length_nil, Nat.reduceAdd, Nat.reduceLT, Nat.reduceLeDiff, true_and, and_true, true_or, or_true, Int.reduceEq, Nat.reduceEqDiff, reduceCtorEq, true_implies, false_implies, not_true_eq_false, not_false_eq_true, Nat.zero_le, Int.zero_add, Nat.zero_add, Nat.lt_add_one, eq_self, forall_const, implies_true, Bool.false_eq_true, false_or, or_false, and_self, ne_eq, me_ne, me_self]
  simp only [bb1 Q, bb3 Q]
  exact bb5 Q (by omega)
theorem q_1 {b : Int} : Cl d 1 [vR 1, vI b] M Q = Q (b01 (0 ≤ b ∧ b < M 1 8)) M := by
  unfold Cl
  rw [en_1]
  simp only [bq1_0, bq1_1, bq1_2, s_0, lgI_some, s_3, s_29, cnP_0, cnP_1, cnP_2, cnP_3, cnP_4, cnP_5, s_30, s_31, s_32, s_37i, s_37z, s_47, lgR_some, lg_0, lg_1, g_1_8, List.length_cons, List.length_nil, Nat.reduceAdd, Nat.reduceLT, Nat.reduceLeDiff, true_and, and_true, true_or, or_true, Int.reduceEq, Nat.reduceEqDiff, reduceCtorEq, true_implies, false_implies, not_true_eq_false, not_false_eq_true, Nat.zero_le, Int.zero_add, Nat.zero_add, Nat.lt_add_one, eq_self, forall_const, implies_true, Bool.false_eq_true, false_or, or_false, and_self, ne_eq, me_ne, me_self]
  simp only [bb1 Q, bb3 Q]
  exact bb5 Q (by omega)
theorem q_2 {b : Int} (hn : M 1 8 ≤ 10) : Cl (d + 1) 2 [vR 1, vI b] M Q = Q (b01 (0 ≤ b ∧ b < M 1 8 ∧ M 9 b ≠ 0)) M := by
  unfold Cl
  rw [en_2]
  simp only [bq2_0, bq2_1, bq2_2, s_0, lgI_some, s_3, s_29, cnP_0, cnP_1, cnP_2, cnP_3, cnP_4, cnP_5, s_31, s_32, s_37i, s_37z, s_46, s_47, lgR_some, s_52, res_0, res_1, nlg_n, nlg_I, nlg_R, Bool.true_and, Bool.and_self, Bool.and_true, kd_9, kd_10, kd_11, kd_12, kd_13, kd_14, kd_15, kd_16, kd_17, kd_18, kd_19, kd_20, kd_21, kd_22, kd_23, kd_24, kd_25, kd_26, kd_27, kd_28, kd_29, kd_30, kd_31, kd_32, kd_33, kd_34, kd_35, kd_36, kd_37, kd_38, kd_39, kd_40, kd_41, kd_42, kd_43, kd_44, kd_45, kd_46, kd_47, kd_48, kd_49, ln_9, ln_10, ln_11, ln_12, ln_13, ln_14, ln_15, ln_16, ln_17, ln_18, ln_19, ln_20, ln_21, ln_22, ln_23, ln_24, ln_25, ln_26, ln_27, ln_28, ln_29, ln_30, ln_31, ln_32, ln_33, ln_34, ln_35, ln_36, ln_37, ln_38, ln_39, ln_40, ln_41, ln_42, ln_43, ln_44, ln_45, ln_46, ln_47, ln_48, ln_49, lg_0, lg_1, g_1_0, rc_1_1, List.length_cons, List.length_nil, Nat.reduceAdd, Nat.reduceLT, Nat.reduceLeDiff, true_and, and_true, true_or, or_true, Int.reduceEq, Nat.reduceEqDiff, reduceCtorEq, true_implies, false_implies, not_true_eq_false, not_false_eq_true, Nat.zero_le, Int.zero_add, Nat.zero_add, Nat.lt_add_one, eq_self, forall_const, implies_true, Bool.false_eq_true, false_or, or_false, and_self, ne_eq, me_ne, me_self, q_1, b01_z, Classical.not_not]
  by_cases h1 : 0 ≤ b ∧ b < M 1 8
  · simp only [h1, not_true_eq_false, false_implies, true_and, true_implies, show b < 10 by omega, bb1 Q]
  · simp only [h1, not_false_eq_true, true_implies, false_implies, and_true]
    rw [b01_f (by omega)]
theorem q_7 {b : Int} : Cl d 7 [vR 2, vI b] M Q = Q (b01 (0 ≤ b ∧ b < M 2 8)) M := by
  unfold Cl
  rw [en_7]
  simp only [bq7_0, bq7_1, bq7_2, s_0, lgI_some, s_3, s_29, cnP_0, cnP_1, cnP_2, cnP_3, cnP_4, cnP_5, s_30, s_31, s_32, s_37i, s_37z, s_47, lgR_some, lg_0, lg_1, g_2_8, List.length_cons, List.length_nil, Nat.reduceAdd, Nat.reduceLT, Nat.reduceLeDiff, true_and, and_true, true_or, or_true, Int.reduceEq, Nat.reduceEqDiff, reduceCtorEq, true_implies, false_implies, not_true_eq_false, not_false_eq_true, Nat.zero_le, Int.zero_add, Nat.zero_add, Nat.lt_add_one, eq_self, forall_const, implies_true, Bool.false_eq_true, false_or, or_false, and_self, ne_eq, me_ne, me_self]
  simp only [bb1 Q, bb3 Q]
  exact bb5 Q (by omega)
theorem q_9 {k hr : Int} (h0 : 0 ≤ k) (h1 : k < 12) : Cl d 9 [vR 2, vI k, vI hr] M Q = Q (b01 (M 23 k ≠ -1 ∧ M 23 k ≤ hr)) M := by
  unfold Cl
  rw [en_9]
  simp only [bq9_0, bq9_1, bq9_2, s_0, lgI_some, s_3, s_24, s_30, cnP_0, cnP_1, cnP_2, cnP_3, cnP_4, cnP_5, s_31, s_32, s_37i, s_37z, s_47, lgR_some, kd_9, kd_10, kd_11, kd_12, kd_13, kd_14, kd_15, kd_16, kd_17, kd_18, kd_19, kd_20, kd_21, kd_22, kd_23, kd_24, kd_25, kd_26, kd_27, kd_28, kd_29, kd_30, kd_31, kd_32, kd_33, kd_34, kd_35, kd_36, kd_37, kd_38, kd_39, kd_40, kd_41, kd_42, kd_43, kd_44, kd_45, kd_46, kd_47, kd_48, kd_49, ln_9, ln_10, ln_11, ln_12, ln_13, ln_14, ln_15, ln_16, ln_17, ln_18, ln_19, ln_20, ln_21, ln_22, ln_23, ln_24, ln_25, ln_26, ln_27, ln_28, ln_29, ln_30, ln_31, ln_32, ln_33, ln_34, ln_35, ln_36, ln_37, ln_38, ln_39, ln_40, ln_41, ln_42, ln_43, ln_44, ln_45, ln_46, ln_47, ln_48, ln_49, lg_0, lg_1, lg_2, g_2_6, List.length_cons, List.length_nil, Nat.reduceAdd, Nat.reduceLT, Nat.reduceLeDiff, true_and, and_true, true_or, or_true, Int.reduceEq, Nat.reduceEqDiff, reduceCtorEq, true_implies, false_implies, not_true_eq_false, not_false_eq_true, Nat.zero_le, Int.zero_add, Nat.zero_add, Nat.lt_add_one, eq_self, forall_const, implies_true, Bool.false_eq_true, false_or, or_false, and_self, ne_eq, me_ne, me_self, h0, h1]
  simp only [bb1 Q, bb3 Q]
  exact bb5 Q (by omega)
theorem q_3 {a f : Int} : Cl (d + 1) 3 [vR 1, vI a, vI f] M Q = Q (b01 (M 1 8 < 10 ∧ (1 ≤ a ∧ a ≤ 1000) ∧ (0 ≤ f ∧ f ≤ 1000))) M := by
  unfold Cl
  rw [en_3]
  simp only [bq3_0, bq3_1, bq3_2, s_0, lgI_some, s_3, s_29, cnP_0, cnP_1, cnP_2, cnP_3, cnP_4, cnP_5, s_30, s_31, s_32, s_37i, s_37z, s_47, lgR_some, s_53, res_0, res_1, nlg_n, nlg_I, nlg_R, Bool.true_and, Bool.and_self, Bool.and_true, lg_0, lg_1, lg_2, g_1_8, rc_76, List.length_cons, List.length_nil, Nat.reduceAdd, Nat.reduceLT, Nat.reduceLeDiff, true_and, and_true, true_or, or_true, Int.reduceEq, Nat.reduceEqDiff, reduceCtorEq, true_implies, false_implies, not_true_eq_false, not_false_eq_true, Nat.zero_le, Int.zero_add, Nat.zero_add, Nat.lt_add_one, eq_self, forall_const, implies_true, Bool.false_eq_true, false_or, or_false, and_self, ne_eq, me_ne, me_self, q_76, b01_z, Classical.not_not]
  simp only [bb1 Q, bb3 Q, bb2 Q, bb4 Q]
  exact bb5 Q (by omega)
theorem q_77 {h : Int} : Cl d 77 [vR 0, vI h] M Q = Q (b01 (M 5 2 ≤ h ∧ h < 100)) M := by
  unfold Cl
  rw [en_77]
  simp only [bq77_0, bq77_1, bq77_2, s_0, lgI_some, s_3, s_30, cnP_0, cnP_1, cnP_2, cnP_3, cnP_4, cnP_5, s_31, s_32, s_37i, s_37z, s_47, lgR_some, lg_0, lg_1, g_0_4, g_5_2, g_8_2, List.length_cons, List.length_nil, Nat.reduceAdd, Nat.reduceLT, Nat.reduceLeDiff, true_and, and_true, true_or, or_true, Int.reduceEq, Nat.reduceEqDiff, reduceCtorEq, true_implies, false_implies, not_true_eq_false, not_false_eq_true, Nat.zero_le, Int.zero_add, Nat.zero_add, Nat.lt_add_one, eq_self, forall_const, implies_true, Bool.false_eq_true, false_or, or_false, and_self, ne_eq, me_ne, me_self]
  simp only [bb1 Q, bb3 Q, bb2 Q, bb4 Q]
  exact bb5 Q (by omega)
theorem q_78 {k : Int} (h0 : 0 ≤ k) (h1 : k < 12) : Cl (d + 1) 78 [vR 0, vI k] M Q = Q (b01 (M 23 k ≠ -1 ∧ M 23 k ≤ w32 (M 5 2 - 1))) M := by
  unfold Cl
  rw [en_78]
  simp only [bq78_0, s_0, lgI_some, s_3, s_7, s_37i, s_37z, s_47, lgR_some, s_53, res_0, res_1, nlg_n, nlg_I, nlg_R, Bool.true_and, Bool.and_self, Bool.and_true, lg_0, lg_1, g_0_1, g_0_4, g_5_2, g_8_2, rc_9_2, List.length_cons, List.length_nil, Nat.reduceAdd, Nat.reduceLT, Nat.reduceLeDiff, true_and, and_true, true_or, or_true, Int.reduceEq, Nat.reduceEqDiff, reduceCtorEq, true_implies, false_implies, not_true_eq_false, not_false_eq_true, Nat.zero_le, Int.zero_add, Nat.zero_add, Nat.lt_add_one, eq_self, forall_const, implies_true, Bool.false_eq_true, false_or, or_false, and_self, ne_eq, me_ne, me_self, q_9, h0, h1, b01_01]
theorem q_79 {k n : Int} (hn : M 2 8 ≤ 12) : Cl (d + 1) 79 [vR 0, vI k, vI n] M Q = Q (b01 ((0 ≤ k ∧ k < M 2 8) ∧ (1 ≤ n ∧ n ≤ M 0 7) ∧ M 5 2 ≤ w32 (M 5 2 + M 21 k) ∧ w32 (M 5 2 + M 21 k) < 100)) M := by
  unfold Cl
  rw [en_79]
  simp only [bq79_0, bq79_1, bq79_2, s_0, lgI_some, s_3, s_6, s_24, s_29, cnP_0, cnP_1, cnP_2, cnP_3, cnP_4, cnP_5, s_31, s_32, s_37i, s_37z, s_47, lgR_some, s_52, s_53, res_0, res_1, nlg_n, nlg_I, nlg_R, Bool.true_and, Bool.and_self, Bool.and_true, kd_9, kd_10, kd_11, kd_12, kd_13, kd_14, kd_15, kd_16, kd_17, kd_18, kd_19, kd_20, kd_21, kd_22, kd_23, kd_24, kd_25, kd_26, kd_27, kd_28, kd_29, kd_30, kd_31, kd_32, kd_33, kd_34, kd_35, kd_36, kd_37, kd_38, kd_39, kd_40, kd_41, kd_42, kd_43, kd_44, kd_45, kd_46, kd_47, kd_48, kd_49, ln_9, ln_10, ln_11, ln_12, ln_13, ln_14, ln_15, ln_16, ln_17, ln_18, ln_19, ln_20, ln_21, ln_22, ln_23, ln_24, ln_25, ln_26, ln_27, ln_28, ln_29, ln_30, ln_31, ln_32, ln_33, ln_34, ln_35, ln_36, ln_37, ln_38, ln_39, ln_40, ln_41, ln_42, ln_43, ln_44, ln_45, ln_46, ln_47, ln_48, ln_49, lg_0, lg_1, lg_2, g_0_1, g_0_4, g_0_7, g_2_4, g_5_2, g_8_2, rc_76, rc_77_0, rc_7_2, List.length_cons, List.length_nil, Nat.reduceAdd, Nat.reduceLT, Nat.reduceLeDiff, true_and, and_true, true_or, or_true, Int.reduceEq, Nat.reduceEqDiff, reduceCtorEq, true_implies, false_implies, not_true_eq_false, not_false_eq_true, Nat.zero_le, Int.zero_add, Nat.zero_add, Nat.lt_add_one, eq_self, forall_const, implies_true, Bool.false_eq_true, false_or, or_false, and_self, ne_eq, me_ne, me_self, q_7, q_76, q_77, b01_z, b01_01, Classical.not_not]
  by_cases h1 : 0 ≤ k ∧ k < M 2 8
  · simp only [h1, not_true_eq_false, false_implies, true_and, true_implies, show k < 12 by omega, bb1 Q, bb2 Q, bb3 Q, bb4 Q, and_true]
  · simp only [h1, not_false_eq_true, true_implies, false_implies, and_true, false_and, b01_F]
theorem q_86 {b : Int} (h1 : -2147483648 < M 50 1) (h2 : M 50 1 < 2147483648) : Cl (d + 1) 86 [vR 50, vI b] M Q = Q (b01 (0 ≤ b ∧ b < M 50 1)) M := by
  unfold Cl
  rw [en_86]
  simp only [bq86_0, s_0, lgI_some, s_3, s_7, s_37i, s_37z, s_47, lgR_some, s_53, res_0, res_1, nlg_n, nlg_I, nlg_R, Bool.true_and, Bool.and_self, Bool.and_true, lg_0, lg_1, g_50_1, rc_85, List.length_cons, List.length_nil, Nat.reduceAdd, Nat.reduceLT, Nat.reduceLeDiff, true_and, and_true, true_or, or_true, Int.reduceEq, Nat.reduceEqDiff, reduceCtorEq, true_implies, false_implies, not_true_eq_false, not_false_eq_true, Nat.zero_le, Int.zero_add, Nat.zero_add, Nat.lt_add_one, eq_self, forall_const, implies_true, Bool.false_eq_true, false_or, or_false, and_self, ne_eq, me_ne, me_self, q_85, b01_01]
  rw [w32_id (by omega) (by omega)]
  exact bb5 Q (by omega)
theorem q_87 {b : Int} (h1 : 0 ≤ M 50 1) (hn : M 50 1 ≤ 10) : Cl (d + 2) 87 [vR 50, vI b] M Q = Q (b01 (0 ≤ b ∧ b < M 50 1 ∧ M 51 b ≠ 0)) M := by
  unfold Cl
  rw [en_87]
  simp only [bq87_0, bq87_1, bq87_2, s_0, lgI_some, s_3, s_29, cnP_0, cnP_1, cnP_2, cnP_3, cnP_4, cnP_5, s_31, s_32, s_37i, s_37z, s_46, s_47, lgR_some, s_52, res_0, res_1, nlg_n, nlg_I, nlg_R, Bool.true_and, Bool.and_self, Bool.and_true, kd_51, kd_52, kd_53, kd_54, kd_55, kd_56, kd_57, kd_58, kd_59, kd_60, kd_61, kd_62, kd_63, kd_64, kd_65, kd_66, kd_67, kd_68, kd_69, kd_70, kd_71, kd_72, kd_73, kd_74, kd_75, kd_76, kd_77, kd_78, kd_79, kd_80, kd_81, kd_82, kd_83, kd_84, kd_85, ln_51, ln_52, ln_53, ln_54, ln_55, ln_56, ln_57, ln_58, ln_59, ln_60, ln_61, ln_62, ln_63, ln_64, ln_65, ln_66, ln_67, ln_68, ln_69, ln_70, ln_71, ln_72, ln_73, ln_74, ln_75, ln_76, ln_77, ln_78, ln_79, ln_80, ln_81, ln_82, ln_83, ln_84, ln_85, lg_0, lg_1, g_50_2, rc_86_50, List.length_cons, List.length_nil, Nat.reduceAdd, Nat.reduceLT, Nat.reduceLeDiff, true_and, and_true, true_or, or_true, Int.reduceEq, Nat.reduceEqDiff, reduceCtorEq, true_implies, false_implies, not_true_eq_false, not_false_eq_true, Nat.zero_le, Int.zero_add, Nat.zero_add, Nat.lt_add_one, eq_self, forall_const, implies_true, Bool.false_eq_true, false_or, or_false, and_self, ne_eq, me_ne, me_self, q_86 (M := M) (show -2147483648 < M 50 1 by omega) (show M 50 1 < 2147483648 by omega), b01_z, Classical.not_not]
  by_cases h1 : 0 ≤ b ∧ b < M 50 1
  · simp only [h1, not_true_eq_false, false_implies, true_and, true_implies, show b < 10 by omega, bb1 Q]
  · simp only [h1, not_false_eq_true, true_implies, false_implies, and_true]
    rw [b01_f (by omega)]
theorem q_88 {b : Int} (h1 : -2147483648 < M 50 9) (h2 : M 50 9 < 2147483648) : Cl (d + 1) 88 [vR 50, vI b] M Q = Q (b01 (0 ≤ b ∧ b < M 50 9)) M := by
  unfold Cl
  rw [en_88]
  simp only [bq88_0, s_0, lgI_some, s_3, s_7, s_37i, s_37z, s_47, lgR_some, s_53, res_0, res_1, nlg_n, nlg_I, nlg_R, Bool.true_and, Bool.and_self, Bool.and_true, lg_0, lg_1, g_50_9, rc_85, List.length_cons, List.length_nil, Nat.reduceAdd, Nat.reduceLT, Nat.reduceLeDiff, true_and, and_true, true_or, or_true, Int.reduceEq, Nat.reduceEqDiff, reduceCtorEq, true_implies, false_implies, not_true_eq_false, not_false_eq_true, Nat.zero_le, Int.zero_add, Nat.zero_add, Nat.lt_add_one, eq_self, forall_const, implies_true, Bool.false_eq_true, false_or, or_false, and_self, ne_eq, me_ne, me_self, q_85, b01_01]
  rw [w32_id (by omega) (by omega)]
  exact bb5 Q (by omega)
theorem q_93 {k hr : Int} (h0 : 0 ≤ k) (h1 : k < 12) : Cl d 93 [vR 50, vI k, vI hr] M Q = Q (b01 (M 63 k ≠ -1 ∧ M 63 k ≤ hr)) M := by
  unfold Cl
  rw [en_93]
  simp only [bq93_0, bq93_1, bq93_2, s_0, lgI_some, s_3, s_24, s_30, cnP_0, cnP_1, cnP_2, cnP_3, cnP_4, cnP_5, s_31, s_32, s_37i, s_37z, s_47, lgR_some, kd_51, kd_52, kd_53, kd_54, kd_55, kd_56, kd_57, kd_58, kd_59, kd_60, kd_61, kd_62, kd_63, kd_64, kd_65, kd_66, kd_67, kd_68, kd_69, kd_70, kd_71, kd_72, kd_73, kd_74, kd_75, kd_76, kd_77, kd_78, kd_79, kd_80, kd_81, kd_82, kd_83, kd_84, kd_85, ln_51, ln_52, ln_53, ln_54, ln_55, ln_56, ln_57, ln_58, ln_59, ln_60, ln_61, ln_62, ln_63, ln_64, ln_65, ln_66, ln_67, ln_68, ln_69, ln_70, ln_71, ln_72, ln_73, ln_74, ln_75, ln_76, ln_77, ln_78, ln_79, ln_80, ln_81, ln_82, ln_83, ln_84, ln_85, lg_0, lg_1, lg_2, g_50_15, List.length_cons, List.length_nil, Nat.reduceAdd, Nat.reduceLT, Nat.reduceLeDiff, true_and, and_true, true_or, or_true, Int.reduceEq, Nat.reduceEqDiff, reduceCtorEq, true_implies, false_implies, not_true_eq_false, not_false_eq_true, Nat.zero_le, Int.zero_add, Nat.zero_add, Nat.lt_add_one, eq_self, forall_const, implies_true, Bool.false_eq_true, false_or, or_false, and_self, ne_eq, me_ne, me_self, h0, h1]
  simp only [bb1 Q, bb3 Q]
  exact bb5 Q (by omega)
theorem q_97 {k n : Int} (h1 : 0 ≤ M 50 9) (hn : M 50 9 ≤ 12) : Cl (d + 2) 97 [vR 50, vI k, vI n] M Q = Q (b01 ((0 ≤ k ∧ k < M 50 9) ∧ (1 ≤ n ∧ n ≤ M 50 18) ∧ w32 (M 50 0 + M 62 k) < 100)) M := by
  unfold Cl
  rw [en_97]
  simp only [bq97_0, bq97_1, bq97_2, s_0, lgI_some, s_3, s_6, s_24, s_29, cnP_0, cnP_1, cnP_2, cnP_3, cnP_4, cnP_5, s_30, s_31, s_32, s_37i, s_37z, s_47, lgR_some, s_52, res_0, res_1, nlg_n, nlg_I, nlg_R, Bool.true_and, Bool.and_self, Bool.and_true, kd_51, kd_52, kd_53, kd_54, kd_55, kd_56, kd_57, kd_58, kd_59, kd_60, kd_61, kd_62, kd_63, kd_64, kd_65, kd_66, kd_67, kd_68, kd_69, kd_70, kd_71, kd_72, kd_73, kd_74, kd_75, kd_76, kd_77, kd_78, kd_79, kd_80, kd_81, kd_82, kd_83, kd_84, kd_85, ln_51, ln_52, ln_53, ln_54, ln_55, ln_56, ln_57, ln_58, ln_59, ln_60, ln_61, ln_62, ln_63, ln_64, ln_65, ln_66, ln_67, ln_68, ln_69, ln_70, ln_71, ln_72, ln_73, ln_74, ln_75, ln_76, ln_77, ln_78, ln_79, ln_80, ln_81, ln_82, ln_83, ln_84, ln_85, lg_0, lg_1, lg_2, g_50_0, g_50_14, g_50_18, rc_88_50, List.length_cons, List.length_nil, Nat.reduceAdd, Nat.reduceLT, Nat.reduceLeDiff, true_and, and_true, true_or, or_true, Int.reduceEq, Nat.reduceEqDiff, reduceCtorEq, true_implies, false_implies, not_true_eq_false, not_false_eq_true, Nat.zero_le, Int.zero_add, Nat.zero_add, Nat.lt_add_one, eq_self, forall_const, implies_true, Bool.false_eq_true, false_or, or_false, and_self, ne_eq, me_ne, me_self, q_88 (M := M) (show -2147483648 < M 50 9 by omega) (show M 50 9 < 2147483648 by omega), b01_z, b01_01, Classical.not_not]
  by_cases h1 : 0 ≤ k ∧ k < M 50 9
  · simp only [h1, not_true_eq_false, false_implies, true_and, true_implies, show k < 12 by omega, bb1 Q, bb2 Q, bb3 Q, bb4 Q, and_true]
    exact bb5 Q (by omega)
  · simp only [h1, not_false_eq_true, true_implies, false_implies, and_true, false_and, b01_F]
end QB

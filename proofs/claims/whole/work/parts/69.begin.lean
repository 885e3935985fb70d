/-! a flight begins -/
section BE
variable {d : Nat} {K M X : Me} {t : Int} {Q : Int → Me → Prop}
theorem c_132_41 (H : ∀ X, (∀ k, k ≠ 41 → X k = M k) → (∀ j, 0 ≤ j → j < 1010 → X 41 j = 0) → Q 0 X) : Cl d 132 [vR 41, vI 0] M Q := by
  have lp : ∀ (n : Nat) (X : Me) (i : Int), 0 ≤ i → i + (n : Int) = 1010 → (∀ k, k ≠ 41 → X k = M k) → (∀ j, 0 ≤ j → j < i → X 41 j = 0) → Rn d (blk 132 1) 132 [some (vR 41), some (vI 0), some (vI i), some (vI 1010)] [] X Q := by
    intro n
    induction n with
    | zero =>
      intro X i i0 i1 h1 h2
      rw [bq132_1]
      simp only [bq132_2, s_0, lgI_some, s_5K, s_25, s_30, cnP_0, cnP_1, cnP_2, cnP_3, cnP_4, cnP_5, s_31, s_38, s_47, lgR_some, kd_9, kd_10, kd_11, kd_12, kd_13, kd_14, kd_15, kd_16, kd_17, kd_18, kd_19, kd_20, kd_21, kd_22, kd_23, kd_24, kd_25, kd_26, kd_27, kd_28, kd_29, kd_30, kd_31, kd_32, kd_33, kd_34, kd_35, kd_36, kd_37, kd_38, kd_39, kd_40, kd_41, kd_42, kd_43, kd_44, kd_45, kd_46, kd_47, kd_48, kd_49, kd_51, kd_52, kd_53, kd_54, kd_55, kd_56, kd_57, kd_58, kd_59, kd_60, kd_61, kd_62, kd_63, kd_64, kd_65, kd_66, kd_67, kd_68, kd_69, kd_70, kd_71, kd_72, kd_73, kd_74, kd_75, kd_76, kd_77, kd_78, kd_79, kd_80, kd_81, kd_82, kd_83, kd_84, kd_85, ln_9, ln_10, ln_11, ln_12, ln_13, ln_14, ln_15, ln_16, ln_17, ln_18, ln_19, ln_20, ln_21, ln_22, ln_23, ln_24, ln_25, ln_26, ln_27, ln_28, ln_29, ln_30, ln_31, ln_32, ln_33, ln_34, ln_35, ln_36, ln_37, ln_38, ln_39, ln_40, ln_41, ln_42, ln_43, ln_44, ln_45, ln_46, ln_47, ln_48, ln_49, ln_51, ln_52, ln_53, ln_54, ln_55, ln_56, ln_57, ln_58, ln_59, ln_60, ln_61, ln_62, ln_63, ln_64, ln_65, ln_66, ln_67, ln_68, ln_69, ln_70, ln_71, ln_72, ln_73, ln_74, ln_75, ln_76, ln_77, ln_78, ln_79, ln_80, ln_81, ln_82, ln_83, ln_84, ln_85, lg_0, lg_1, lg_2, lg_3, lz_0, lz_1, lz_2, lz_3, lp_0, lp_1, lp_2, lp_3, isL_n, isL_I, isL_R, List.length_cons, List.length_nil, Nat.reduceAdd, Nat.reduceLT, Nat.reduceLeDiff, true_and, and_true, true_or, or_true, Int.reduceEq, Nat.reduceEqDiff, reduceCtorEq, true_implies, false_implies, not_true_eq_false, not_false_eq_true, Nat.zero_le, Int.zero_add, Nat.zero_add, Nat.lt_add_one, eq_self, forall_const, implies_true, Bool.false_eq_true, false_or, or_false, and_self, ne_eq, me_ne, me_self, show 1010 ≤ i by omega]
      exact H X h1 (fun j j0 j1 => h2 j j0 (by omega))
    | succ n ih =>
      intro X i i0 i1 h1 h2
      rw [bq132_1]
      simp only [bq132_2, s_0, lgI_some, s_5K, s_25, s_30, cnP_0, cnP_1, cnP_2, cnP_3, cnP_4, cnP_5, s_31, s_38, s_47, lgR_some, kd_9, kd_10, kd_11, kd_12, kd_13, kd_14, kd_15, kd_16, kd_17, kd_18, kd_19, kd_20, kd_21, kd_22, kd_23, kd_24, kd_25, kd_26, kd_27, kd_28, kd_29, kd_30, kd_31, kd_32, kd_33, kd_34, kd_35, kd_36, kd_37, kd_38, kd_39, kd_40, kd_41, kd_42, kd_43, kd_44, kd_45, kd_46, kd_47, kd_48, kd_49, kd_51, kd_52, kd_53, kd_54, kd_55, kd_56, kd_57, kd_58, kd_59, kd_60, kd_61, kd_62, kd_63, kd_64, kd_65, kd_66, kd_67, kd_68, kd_69, kd_70, kd_71, kd_72, kd_73, kd_74, kd_75, kd_76, kd_77, kd_78, kd_79, kd_80, kd_81, kd_82, kd_83, kd_84, kd_85, ln_9, ln_10, ln_11, ln_12, ln_13, ln_14, ln_15, ln_16, ln_17, ln_18, ln_19, ln_20, ln_21, ln_22, ln_23, ln_24, ln_25, ln_26, ln_27, ln_28, ln_29, ln_30, ln_31, ln_32, ln_33, ln_34, ln_35, ln_36, ln_37, ln_38, ln_39, ln_40, ln_41, ln_42, ln_43, ln_44, ln_45, ln_46, ln_47, ln_48, ln_49, ln_51, ln_52, ln_53, ln_54, ln_55, ln_56, ln_57, ln_58, ln_59, ln_60, ln_61, ln_62, ln_63, ln_64, ln_65, ln_66, ln_67, ln_68, ln_69, ln_70, ln_71, ln_72, ln_73, ln_74, ln_75, ln_76, ln_77, ln_78, ln_79, ln_80, ln_81, ln_82, ln_83, ln_84, ln_85, lg_0, lg_1, lg_2, lg_3, lz_0, lz_1, lz_2, lz_3, lp_0, lp_1, lp_2, lp_3, isL_n, isL_I, isL_R, List.length_cons, List.length_nil, Nat.reduceAdd, Nat.reduceLT, Nat.reduceLeDiff, true_and, and_true, true_or, or_true, Int.reduceEq, Nat.reduceEqDiff, reduceCtorEq, true_implies, false_implies, not_true_eq_false, not_false_eq_true, Nat.zero_le, Int.zero_add, Nat.zero_add, Nat.lt_add_one, eq_self, forall_const, implies_true, Bool.false_eq_true, false_or, or_false, and_self, ne_eq, me_ne, me_self, show ¬ 1010 ≤ i by omega, i0, show i < 1010 by omega, show w32 (i + 1) = i + 1 from w32_id (by omega) (by omega)]
      refine ih _ _ (by omega) (by omega) (fun k q => by rw [me_f _ q]; exact h1 k q) (fun j j0 j1 => ?_)
      by_cases z : j = i
      · rw [z, me_self]
      · rw [me_i _ z]; exact h2 j j0 (by omega)
  unfold Cl
  rw [en_132]
  simp only [bq132_0, s_0, lgI_some, s_1I, s_3, s_5K, s_25, s_30, cnP_0, cnP_1, cnP_2, cnP_3, cnP_4, cnP_5, s_31, s_32, s_43, s_47, lgR_some, kd_9, kd_10, kd_11, kd_12, kd_13, kd_14, kd_15, kd_16, kd_17, kd_18, kd_19, kd_20, kd_21, kd_22, kd_23, kd_24, kd_25, kd_26, kd_27, kd_28, kd_29, kd_30, kd_31, kd_32, kd_33, kd_34, kd_35, kd_36, kd_37, kd_38, kd_39, kd_40, kd_41, kd_42, kd_43, kd_44, kd_45, kd_46, kd_47, kd_48, kd_49, kd_51, kd_52, kd_53, kd_54, kd_55, kd_56, kd_57, kd_58, kd_59, kd_60, kd_61, kd_62, kd_63, kd_64, kd_65, kd_66, kd_67, kd_68, kd_69, kd_70, kd_71, kd_72, kd_73, kd_74, kd_75, kd_76, kd_77, kd_78, kd_79, kd_80, kd_81, kd_82, kd_83, kd_84, kd_85, ln_9, ln_10, ln_11, ln_12, ln_13, ln_14, ln_15, ln_16, ln_17, ln_18, ln_19, ln_20, ln_21, ln_22, ln_23, ln_24, ln_25, ln_26, ln_27, ln_28, ln_29, ln_30, ln_31, ln_32, ln_33, ln_34, ln_35, ln_36, ln_37, ln_38, ln_39, ln_40, ln_41, ln_42, ln_43, ln_44, ln_45, ln_46, ln_47, ln_48, ln_49, ln_51, ln_52, ln_53, ln_54, ln_55, ln_56, ln_57, ln_58, ln_59, ln_60, ln_61, ln_62, ln_63, ln_64, ln_65, ln_66, ln_67, ln_68, ln_69, ln_70, ln_71, ln_72, ln_73, ln_74, ln_75, ln_76, ln_77, ln_78, ln_79, ln_80, ln_81, ln_82, ln_83, ln_84, ln_85, lg_0, lg_1, lg_2, lg_3, lz_0, lz_1, lz_2, lz_3, lp_0, lp_1, lp_2, lp_3, isL_n, isL_I, isL_R, List.length_cons, List.length_nil, Nat.reduceAdd, Nat.reduceLT, Nat.reduceLeDiff, true_and, and_true, true_or, or_true, Int.reduceEq, Nat.reduceEqDiff, reduceCtorEq, true_implies, false_implies, not_true_eq_false, not_false_eq_true, Nat.zero_le, Int.zero_add, Nat.zero_add, Nat.lt_add_one, eq_self, forall_const, implies_true, Bool.false_eq_true, false_or, or_false, and_self, ne_eq, me_ne, me_self]
  exact lp 1010 M 0 (Int.le_refl 0) (by omega) (fun _ _ => rfl) (fun j j0 j1 => by omega)
theorem c_132_42 (H : ∀ X, (∀ k, k ≠ 42 → X k = M k) → (∀ j, 0 ≤ j → j < 1200 → X 42 j = 0) → Q 0 X) : Cl d 132 [vR 42, vI 0] M Q := by
  have lp : ∀ (n : Nat) (X : Me) (i : Int), 0 ≤ i → i + (n : Int) = 1200 → (∀ k, k ≠ 42 → X k = M k) → (∀ j, 0 ≤ j → j < i → X 42 j = 0) → Rn d (blk 132 1) 132 [some (vR 42), some (vI 0), some (vI i), some (vI 1200)] [] X Q := by
    intro n
    induction n with
    | zero =>
      intro X i i0 i1 h1 h2
      rw [bq132_1]
      simp only [bq132_2, s_0, lgI_some, s_5K, s_25, s_30, cnP_0, cnP_1, cnP_2, cnP_3, cnP_4, cnP_5, s_31, s_38, s_47, lgR_some, kd_9, kd_10, kd_11, kd_12, kd_13, kd_14, kd_15, kd_16, kd_17, kd_18, kd_19, kd_20, kd_21, kd_22, kd_23, kd_24, kd_25, kd_26, kd_27, kd_28, kd_29, kd_30, kd_31, kd_32, kd_33, kd_34, kd_35, kd_36, kd_37, kd_38, kd_39, kd_40, kd_41, kd_42, kd_43, kd_44, kd_45, kd_46, kd_47, kd_48, kd_49, kd_51, kd_52, kd_53, kd_54, kd_55, kd_56, kd_57, kd_58, kd_59, kd_60, kd_61, kd_62, kd_63, kd_64, kd_65, kd_66, kd_67, kd_68, kd_69, kd_70, kd_71, kd_72, kd_73, kd_74, kd_75, kd_76, kd_77, kd_78, kd_79, kd_80, kd_81, kd_82, kd_83, kd_84, kd_85, ln_9, ln_10, ln_11, ln_12, ln_13, ln_14, ln_15, ln_16, ln_17, ln_18, ln_19, ln_20, ln_21, ln_22, ln_23, ln_24, ln_25, ln_26, ln_27, ln_28, ln_29, ln_30, ln_31, ln_32, ln_33, ln_34, ln_35, ln_36, ln_37, ln_38, ln_39, ln_40, ln_41, ln_42, ln_43, ln_44, ln_45, ln_46, ln_47, ln_48, ln_49, ln_51, ln_52, ln_53, ln_54, ln_55, ln_56, ln_57, ln_58, ln_59, ln_60, ln_61, ln_62, ln_63, ln_64, ln_65, ln_66, ln_67, ln_68, ln_69, ln_70, ln_71, ln_72, ln_73, ln_74, ln_75, ln_76, ln_77, ln_78, ln_79, ln_80, ln_81, ln_82, ln_83, ln_84, ln_85, lg_0, lg_1, lg_2, lg_3, lz_0, lz_1, lz_2, lz_3, lp_0, lp_1, lp_2, lp_3, isL_n, isL_I, isL_R, List.length_cons, List.length_nil, Nat.reduceAdd, Nat.reduceLT, Nat.reduceLeDiff, true_and, and_true, true_or, or_true, Int.reduceEq, Nat.reduceEqDiff, reduceCtorEq, true_implies, false_implies, not_true_eq_false, not_false_eq_true, Nat.zero_le, Int.zero_add, Nat.zero_add, Nat.lt_add_one, eq_self, forall_const, implies_true, Bool.false_eq_true, false_or, or_false, and_self, ne_eq, me_ne, me_self, show 1200 ≤ i by omega]
      exact H X h1 (fun j j0 j1 => h2 j j0 (by omega))
    | succ n ih =>
      intro X i i0 i1 h1 h2
      rw [bq132_1]
      simp only [bq132_2, s_0, lgI_some, s_5K, s_25, s_30, cnP_0, cnP_1, cnP_2, cnP_3, cnP_4, cnP_5, s_31, s_38, s_47, lgR_some, kd_9, kd_10, kd_11, kd_12, kd_13, kd_14, kd_15, kd_16, kd_17, kd_18, kd_19, kd_20, kd_21, kd_22, kd_23, kd_24, kd_25, kd_26, kd_27, kd_28, kd_29, kd_30, kd_31, kd_32, kd_33, kd_34, kd_35, kd_36, kd_37, kd_38, kd_39, kd_40, kd_41, kd_42, kd_43, kd_44, kd_45, kd_46, kd_47, kd_48, kd_49, kd_51, kd_52, kd_53, kd_54, kd_55, kd_56, kd_57, kd_58, kd_59, kd_60, kd_61, kd_62, kd_63, kd_64, kd_65, kd_66, kd_67, kd_68, kd_69, kd_70, kd_71, kd_72, kd_73, kd_74, kd_75, kd_76, kd_77, kd_78, kd_79, kd_80, kd_81, kd_82, kd_83, kd_84, kd_85, ln_9, ln_10, ln_11, ln_12, ln_13, ln_14, ln_15, ln_16, ln_17, ln_18, ln_19, ln_20, ln_21, ln_22, ln_23, ln_24, ln_25, ln_26, ln_27, ln_28, ln_29, ln_30, ln_31, ln_32, ln_33, ln_34, ln_35, ln_36, ln_37, ln_38, ln_39, ln_40, ln_41, ln_42, ln_43, ln_44, ln_45, ln_46, ln_47, ln_48, ln_49, ln_51, ln_52, ln_53, ln_54, ln_55, ln_56, ln_57, ln_58, ln_59, ln_60, ln_61, ln_62, ln_63, ln_64, ln_65, ln_66, ln_67, ln_68, ln_69, ln_70, ln_71, ln_72, ln_73, ln_74, ln_75, ln_76, ln_77, ln_78, ln_79, ln_80, ln_81, ln_82, ln_83, ln_84, ln_85, lg_0, lg_1, lg_2, lg_3, lz_0, lz_1, lz_2, lz_3, lp_0, lp_1, lp_2, lp_3, isL_n, isL_I, isL_R, List.length_cons, List.length_nil, Nat.reduceAdd, Nat.reduceLT, Nat.reduceLeDiff, true_and, and_true, true_or, or_true, Int.reduceEq, Nat.reduceEqDiff, reduceCtorEq, true_implies, false_implies, not_true_eq_false, not_false_eq_true, Nat.zero_le, Int.zero_add, Nat.zero_add, Nat.lt_add_one, eq_self, forall_const, implies_true, Bool.false_eq_true, false_or, or_false, and_self, ne_eq, me_ne, me_self, show ¬ 1200 ≤ i by omega, i0, show i < 1200 by omega, show w32 (i + 1) = i + 1 from w32_id (by omega) (by omega)]
      refine ih _ _ (by omega) (by omega) (fun k q => by rw [me_f _ q]; exact h1 k q) (fun j j0 j1 => ?_)
      by_cases z : j = i
      · rw [z, me_self]
      · rw [me_i _ z]; exact h2 j j0 (by omega)
  unfold Cl
  rw [en_132]
  simp only [bq132_0, s_0, lgI_some, s_1I, s_3, s_5K, s_25, s_30, cnP_0, cnP_1, cnP_2, cnP_3, cnP_4, cnP_5, s_31, s_32, s_43, s_47, lgR_some, kd_9, kd_10, kd_11, kd_12, kd_13, kd_14, kd_15, kd_16, kd_17, kd_18, kd_19, kd_20, kd_21, kd_22, kd_23, kd_24, kd_25, kd_26, kd_27, kd_28, kd_29, kd_30, kd_31, kd_32, kd_33, kd_34, kd_35, kd_36, kd_37, kd_38, kd_39, kd_40, kd_41, kd_42, kd_43, kd_44, kd_45, kd_46, kd_47, kd_48, kd_49, kd_51, kd_52, kd_53, kd_54, kd_55, kd_56, kd_57, kd_58, kd_59, kd_60, kd_61, kd_62, kd_63, kd_64, kd_65, kd_66, kd_67, kd_68, kd_69, kd_70, kd_71, kd_72, kd_73, kd_74, kd_75, kd_76, kd_77, kd_78, kd_79, kd_80, kd_81, kd_82, kd_83, kd_84, kd_85, ln_9, ln_10, ln_11, ln_12, ln_13, ln_14, ln_15, ln_16, ln_17, ln_18, ln_19, ln_20, ln_21, ln_22, ln_23, ln_24, ln_25, ln_26, ln_27, ln_28, ln_29, ln_30, ln_31, ln_32, ln_33, ln_34, ln_35, ln_36, ln_37, ln_38, ln_39, ln_40, ln_41, ln_42, ln_43, ln_44, ln_45, ln_46, ln_47, ln_48, ln_49, ln_51, ln_52, ln_53, ln_54, ln_55, ln_56, ln_57, ln_58, ln_59, ln_60, ln_61, ln_62, ln_63, ln_64, ln_65, ln_66, ln_67, ln_68, ln_69, ln_70, ln_71, ln_72, ln_73, ln_74, ln_75, ln_76, ln_77, ln_78, ln_79, ln_80, ln_81, ln_82, ln_83, ln_84, ln_85, lg_0, lg_1, lg_2, lg_3, lz_0, lz_1, lz_2, lz_3, lp_0, lp_1, lp_2, lp_3, isL_n, isL_I, isL_R, List.length_cons, List.length_nil, Nat.reduceAdd, Nat.reduceLT, Nat.reduceLeDiff, true_and, and_true, true_or, or_true, Int.reduceEq, Nat.reduceEqDiff, reduceCtorEq, true_implies, false_implies, not_true_eq_false, not_false_eq_true, Nat.zero_le, Int.zero_add, Nat.zero_add, Nat.lt_add_one, eq_self, forall_const, implies_true, Bool.false_eq_true, false_or, or_false, and_self, ne_eq, me_ne, me_self]
  exact lp 1200 M 0 (Int.le_refl 0) (by omega) (fun _ _ => rfl) (fun j j0 j1 => by omega)

/-- marks of an hour -/
theorem l_13b {h : Int} (hb : 0 ≤ M 1 8 ∧ M 1 8 ≤ 10) (h0 : 0 ≤ h) (h1 : h ≤ 100)
    (H : ∀ X y, (∀ k, k ≠ 43 → X k = M k) → (∀ c h', 0 ≤ c → c < 10 → 0 ≤ h' → h' ≤ 100 → X 43 (h' * 10 + c) = if h' = h ∧ c < M 1 8 then (if M 10 c ≤ M 38 (h * 10 + c) then -2 else 0) else M 43 (h' * 10 + c)) → Rn (d + 2) (blk 13 5) 13 [some (vR 7), some (vR 1), some (vR 6), some (vI t), some (vI h), y] [] X Q) :
    ∀ (n : Nat) (X : Me) (c : Int), 0 ≤ c → c + (n : Int) = M 1 8 → (∀ k, k ≠ 43 → X k = M k) → (∀ c' h', 0 ≤ c' → c' < 10 → 0 ≤ h' → h' ≤ 100 → X 43 (h' * 10 + c') = if h' = h ∧ c' < c then (if M 10 c' ≤ M 38 (h * 10 + c') then -2 else 0) else M 43 (h' * 10 + c')) → Rn (d + 2) (blk 13 2) 13 [some (vR 7), some (vR 1), some (vR 6), some (vI t), some (vI h), some (vI c)] [] X Q := by
  intro n
  induction n with
  | zero =>
    intro X c c0 c1 hX hm
    have e : c = M 1 8 := by omega
    subst e
    rw [bq13_2]
    simp only [bq13_3, bq13_4, s_0, lgI_some, s_3, s_5K, s_6, s_8, s_25, s_29, cnP_0, cnP_1, cnP_2, cnP_3, cnP_4, cnP_5, s_30, s_31, s_32, s_47, lgR_some, s_54, res_0, res_1, nlg_n, nlg_I, nlg_R, Bool.true_and, Bool.and_self, Bool.and_true, kd_9, kd_10, kd_11, kd_12, kd_13, kd_14, kd_15, kd_16, kd_17, kd_18, kd_19, kd_20, kd_21, kd_22, kd_23, kd_24, kd_25, kd_26, kd_27, kd_28, kd_29, kd_30, kd_31, kd_32, kd_33, kd_34, kd_35, kd_36, kd_37, kd_38, kd_39, kd_40, kd_41, kd_42, kd_43, kd_44, kd_45, kd_46, kd_47, kd_48, kd_49, ln_9, ln_10, ln_11, ln_12, ln_13, ln_14, ln_15, ln_16, ln_17, ln_18, ln_19, ln_20, ln_21, ln_22, ln_23, ln_24, ln_25, ln_26, ln_27, ln_28, ln_29, ln_30, ln_31, ln_32, ln_33, ln_34, ln_35, ln_36, ln_37, ln_38, ln_39, ln_40, ln_41, ln_42, ln_43, ln_44, ln_45, ln_46, ln_47, ln_48, ln_49, lg_0, lg_1, lg_2, lg_3, lg_4, lg_5, lz_0, lz_1, lz_2, lz_3, lz_4, lz_5, lp_0, lp_1, lp_2, lp_3, lp_4, lp_5, isL_n, isL_I, isL_R, g_1_8, g_7_4, rc_46_6, List.length_cons, List.length_nil, Nat.reduceAdd, Nat.reduceLT, Nat.reduceLeDiff, true_and, and_true, true_or, or_true, Int.reduceEq, Nat.reduceEqDiff, reduceCtorEq, true_implies, false_implies, not_true_eq_false, not_false_eq_true, Nat.zero_le, Int.zero_add, Nat.zero_add, Nat.lt_add_one, eq_self, forall_const, implies_true, Bool.false_eq_true, false_or, or_false, and_self, ne_eq, me_ne, me_self, hX 1 (by decide), show M 1 8 ≤ M 1 8 by omega]
    exact H X _ hX hm
  | succ n ih =>
    intro X c c0 c1 hX hm
    have c2 : c < 10 := by omega
    rw [bq13_2]
    simp only [bq13_3, bq13_4, s_0, lgI_some, s_3, s_5K, s_6, s_8, s_25, s_29, cnP_0, cnP_1, cnP_2, cnP_3, cnP_4, cnP_5, s_30, s_31, s_32, s_47, lgR_some, s_54, res_0, res_1, nlg_n, nlg_I, nlg_R, Bool.true_and, Bool.and_self, Bool.and_true, kd_9, kd_10, kd_11, kd_12, kd_13, kd_14, kd_15, kd_16, kd_17, kd_18, kd_19, kd_20, kd_21, kd_22, kd_23, kd_24, kd_25, kd_26, kd_27, kd_28, kd_29, kd_30, kd_31, kd_32, kd_33, kd_34, kd_35, kd_36, kd_37, kd_38, kd_39, kd_40, kd_41, kd_42, kd_43, kd_44, kd_45, kd_46, kd_47, kd_48, kd_49, ln_9, ln_10, ln_11, ln_12, ln_13, ln_14, ln_15, ln_16, ln_17, ln_18, ln_19, ln_20, ln_21, ln_22, ln_23, ln_24, ln_25, ln_26, ln_27, ln_28, ln_29, ln_30, ln_31, ln_32, ln_33, ln_34, ln_35, ln_36, ln_37, ln_38, ln_39, ln_40, ln_41, ln_42, ln_43, ln_44, ln_45, ln_46, ln_47, ln_48, ln_49, lg_0, lg_1, lg_2, lg_3, lg_4, lg_5, lz_0, lz_1, lz_2, lz_3, lz_4, lz_5, lp_0, lp_1, lp_2, lp_3, lp_4, lp_5, isL_n, isL_I, isL_R, g_1_8, g_7_4, rc_46_6, List.length_cons, List.length_nil, Nat.reduceAdd, Nat.reduceLT, Nat.reduceLeDiff, true_and, and_true, true_or, or_true, Int.reduceEq, Nat.reduceEqDiff, reduceCtorEq, true_implies, false_implies, not_true_eq_false, not_false_eq_true, Nat.zero_le, Int.zero_add, Nat.zero_add, Nat.lt_add_one, eq_self, forall_const, implies_true, Bool.false_eq_true, false_or, or_false, and_self, ne_eq, me_ne, me_self, hX 1 (by decide), q_46 c0 c2 h0 h1, hX 10 (by decide), hX 38 (by decide), b01_z, Classical.not_not, ix10h c0 c2 h0 h1, show ¬ M 1 8 ≤ c by omega, show w32 (c + 1) = c + 1 from w32_id (by omega) (by omega)]
    have st : ∀ v, (v = if M 10 c ≤ M 38 (h * 10 + c) then -2 else 0) → Rn (d + 2) (blk 13 2) 13 [some (vR 7), some (vR 1), some (vR 6), some (vI t), some (vI h), some (vI (c + 1))] [] (me_put X 43 (h * 10 + c) v) Q := by
      intro v hv
      refine ih _ _ (by omega) (by omega) (fun k q => by rw [me_f _ q]; exact hX k q) (fun c' h' a0 a1 b0 b1 => ?_)
      by_cases z : h' = h ∧ c' = c
      · rw [z.1, z.2, me_self, if_pos ⟨rfl, by omega⟩]; exact hv
      · rw [me_i _ (by omega), hm c' h' a0 a1 b0 b1]
        by_cases y : h' = h ∧ c' < c
        · rw [if_pos y, if_pos (show h' = h ∧ c' < c + 1 from ⟨y.1, by omega⟩)]
        · rw [if_neg y, if_neg (show ¬ (h' = h ∧ c' < c + 1) by omega)]
    refine ⟨fun q => ⟨by omega, st _ (by rw [if_neg q])⟩, fun q => ⟨by omega, st _ (by rw [if_pos q])⟩⟩
theorem l_13a {now : Int} (hb : 0 ≤ M 1 8 ∧ M 1 8 ≤ 10) (n0 : 0 ≤ now)
    (H : ∀ X y, (∀ k, k ≠ 43 → X k = M k) → (∀ c h', 0 ≤ c → c < M 1 8 → now ≤ h' → h' ≤ 100 → X 43 (h' * 10 + c) = if M 10 c ≤ M 38 (h' * 10 + c) then -2 else 0) → Rn (d + 2) (blk 13 6) 13 [some (vR 7), some (vR 1), some (vR 6), some (vI now), some (vI 101), y] [] X Q) :
    ∀ (n : Nat) (X : Me) (h : Int) (y : Option AV), now ≤ h → h + (n : Int) = 101 → (∀ k, k ≠ 43 → X k = M k) → (∀ c h', 0 ≤ c → c < M 1 8 → now ≤ h' → h' < h → X 43 (h' * 10 + c) = if M 10 c ≤ M 38 (h' * 10 + c) then -2 else 0) → Rn (d + 2) (blk 13 1) 13 [some (vR 7), some (vR 1), some (vR 6), some (vI now), some (vI h), y] [] X Q := by
  intro n
  induction n with
  | zero =>
    intro X h y h0 h1 hX hm
    have e : h = 101 := by omega
    subst e
    rw [bq13_1]
    simp only [s_0, lgI_some, s_1I, s_3, s_6, s_7, s_8, s_29, cnP_0, cnP_1, cnP_2, cnP_3, cnP_4, cnP_5, s_30, s_31, s_32, s_38, s_47, lgR_some, s_54, res_0, res_1, nlg_n, nlg_I, nlg_R, Bool.true_and, Bool.and_self, Bool.and_true, lg_0, lg_1, lg_2, lg_3, lg_4, lg_5, lz_0, lz_1, lz_2, lz_3, lz_4, lz_5, lp_0, lp_1, lp_2, lp_3, lp_4, lp_5, isL_n, isL_I, isL_R, g_1_8, g_7_12, g_7_4, p_7_11, p_7_13, p_7_14, p_7_15, p_7_16, p_7_17, rc_46_6, List.length_cons, List.length_nil, Nat.reduceAdd, Nat.reduceLT, Nat.reduceLeDiff, true_and, and_true, true_or, or_true, Int.reduceEq, Nat.reduceEqDiff, reduceCtorEq, true_implies, false_implies, not_true_eq_false, not_false_eq_true, Nat.zero_le, Int.zero_add, Nat.zero_add, Nat.lt_add_one, eq_self, forall_const, implies_true, Bool.false_eq_true, false_or, or_false, and_self, ne_eq, me_ne, me_self]
    exact ⟨fun _ => H X _ hX (fun c h' c0 c1 a b => hm c h' c0 c1 a (by omega)), fun q => by omega⟩
  | succ n ih =>
    intro X h y h0 h1 hX hm
    rw [bq13_1]
    simp only [s_0, lgI_some, s_1I, s_3, s_6, s_7, s_8, s_29, cnP_0, cnP_1, cnP_2, cnP_3, cnP_4, cnP_5, s_30, s_31, s_32, s_38, s_47, lgR_some, s_54, res_0, res_1, nlg_n, nlg_I, nlg_R, Bool.true_and, Bool.and_self, Bool.and_true, lg_0, lg_1, lg_2, lg_3, lg_4, lg_5, lz_0, lz_1, lz_2, lz_3, lz_4, lz_5, lp_0, lp_1, lp_2, lp_3, lp_4, lp_5, isL_n, isL_I, isL_R, g_1_8, g_7_12, g_7_4, p_7_11, p_7_13, p_7_14, p_7_15, p_7_16, p_7_17, rc_46_6, List.length_cons, List.length_nil, Nat.reduceAdd, Nat.reduceLT, Nat.reduceLeDiff, true_and, and_true, true_or, or_true, Int.reduceEq, Nat.reduceEqDiff, reduceCtorEq, true_implies, false_implies, not_true_eq_false, not_false_eq_true, Nat.zero_le, Int.zero_add, Nat.zero_add, Nat.lt_add_one, eq_self, forall_const, implies_true, Bool.false_eq_true, false_or, or_false, and_self, ne_eq, me_ne, me_self, show ¬ 100 < h by omega]
    have e1 : X 1 = M 1 := hX 1 (by decide)
    refine l_13b (M := X) (by rw [e1]; exact hb) (by omega) (by omega) ?_ (M 1 8).toNat X 0 (Int.le_refl 0) (by rw [e1]; omega) (fun _ _ => rfl) (fun c' h' _ _ _ _ => by rw [if_neg (by omega)])
    intro X' y' hX' hm'
    rw [bq13_5]
    simp only [s_0, lgI_some, s_1I, s_3, s_5K, s_30, cnP_0, cnP_1, cnP_2, cnP_3, cnP_4, cnP_5, s_31, s_32, lg_0, lg_1, lg_2, lg_3, lg_4, lg_5, lz_0, lz_1, lz_2, lz_3, lz_4, lz_5, lp_0, lp_1, lp_2, lp_3, lp_4, lp_5, isL_n, isL_I, isL_R, List.length_cons, List.length_nil, Nat.reduceAdd, Nat.reduceLT, Nat.reduceLeDiff, true_and, and_true, true_or, or_true, Int.reduceEq, Nat.reduceEqDiff, reduceCtorEq, true_implies, false_implies, not_true_eq_false, not_false_eq_true, Nat.zero_le, Int.zero_add, Nat.zero_add, Nat.lt_add_one, eq_self, forall_const, implies_true, Bool.false_eq_true, false_or, or_false, and_self, ne_eq, me_ne, me_self, show w32 (h + 1) = h + 1 from w32_id (by omega) (by omega)]
    refine ih X' (h + 1) _ (by omega) (by omega) (fun k q => by rw [hX' k q, hX k q]) (fun c h' c0 c1 a b => ?_)
    rw [hm' c h' c0 (by omega) (by omega) (by omega), e1, hX 10 (by decide), hX 38 (by decide)]
    by_cases z : h' = h
    · subst z; rw [if_pos ⟨rfl, c1⟩]
    · rw [if_neg (fun y => z y.1)]; exact hm c h' c0 c1 a (by omega)
theorem c_13 (W : WK M) (H : ∀ X, f7 M X → RK M X → X 7 11 = 0 → X 7 14 = M 5 2 - 1 → X 7 15 = -1 → X 7 17 = 1 → Q 0 X) : Cl (d + 3) 13 [vR 7, vR 1, vR 6, vI (M 5 2)] M Q := by
  have hn := W.2.2
  have hb := W.1.1
  unfold Cl
  rw [en_13]
  simp only [bq13_0, s_0, lgI_some, s_1I, s_3, s_30, cnP_0, cnP_1, cnP_2, cnP_3, cnP_4, cnP_5, s_32, s_42, s_47, lgR_some, s_52, res_0, res_1, nlg_n, nlg_I, nlg_R, Bool.true_and, Bool.and_self, Bool.and_true, kd_9, kd_10, kd_11, kd_12, kd_13, kd_14, kd_15, kd_16, kd_17, kd_18, kd_19, kd_20, kd_21, kd_22, kd_23, kd_24, kd_25, kd_26, kd_27, kd_28, kd_29, kd_30, kd_31, kd_32, kd_33, kd_34, kd_35, kd_36, kd_37, kd_38, kd_39, kd_40, kd_41, kd_42, kd_43, kd_44, kd_45, kd_46, kd_47, kd_48, kd_49, ln_9, ln_10, ln_11, ln_12, ln_13, ln_14, ln_15, ln_16, ln_17, ln_18, ln_19, ln_20, ln_21, ln_22, ln_23, ln_24, ln_25, ln_26, ln_27, ln_28, ln_29, ln_30, ln_31, ln_32, ln_33, ln_34, ln_35, ln_36, ln_37, ln_38, ln_39, ln_40, ln_41, ln_42, ln_43, ln_44, ln_45, ln_46, ln_47, ln_48, ln_49, lg_0, lg_1, lg_2, lg_3, lg_4, lg_5, lz_0, lz_1, lz_2, lz_3, lz_4, lz_5, lp_0, lp_1, lp_2, lp_3, lp_4, lp_5, isL_n, isL_I, isL_R, g_1_4, g_7_1, g_7_12, g_7_2, g_7_3, p_7_12, rc_132, List.length_cons, List.length_nil, Nat.reduceAdd, Nat.reduceLT, Nat.reduceLeDiff, true_and, and_true, true_or, or_true, Int.reduceEq, Nat.reduceEqDiff, reduceCtorEq, true_implies, false_implies, not_true_eq_false, not_false_eq_true, Nat.zero_le, Int.zero_add, Nat.zero_add, Nat.lt_add_one, eq_self, forall_const, implies_true, Bool.false_eq_true, false_or, or_false, and_self, ne_eq, me_ne, me_self]
  refine c_132_41 (fun X1 a1 a2 => ?_)
  refine c_132_42 (fun X2 b1 b2 => ?_)
  have e7 : X2 7 12 = M 5 2 := by rw [b1 7 (by decide), a1 7 (by decide), me_self]
  refine ⟨by omega, ?_⟩
  rw [show me_cpy X2 13 0 40 0 10 7 12 = M 5 2 by unfold me_cpy; rw [if_neg (by omega)]; exact e7]
  generalize hX3 : me_cpy X2 13 0 40 0 10 = X3
  have k3 : ∀ k, k ≠ 40 → X3 k = X2 k := fun k q => by rw [← hX3]; funext b; unfold me_cpy; rw [if_neg (by omega)]
  have k2 : ∀ k, k ≠ 7 → k ≠ 40 → k ≠ 41 → k ≠ 42 → X3 k = M k := fun k q1 q2 q3 q4 => by rw [k3 k q2, b1 k q4, a1 k q3, me_f _ q1]
  have x40 : ∀ c, 0 ≤ c → c < 10 → X3 40 c = M 13 c := fun c c0 c1 => by
    rw [← hX3]; unfold me_cpy; rw [if_pos ⟨rfl, by omega, by omega⟩, b1 13 (by decide), a1 13 (by decide), me_f _ (by decide)]
    congr 1; omega
  refine l_13a (M := X3) (by rw [k2 1 (by decide) (by decide) (by decide) (by decide)]; exact hb) hn.1 ?_ (101 - M 5 2).toNat X3 _ none (Int.le_refl _) (by omega) (fun _ _ => rfl) (fun c h' _ _ a b => by omega)
  intro X4 y c1 c2
  rw [bq13_6]
  have e12 : X4 7 12 = M 5 2 := by rw [c1 7 (by decide), k3 7 (by decide), e7]
  simp only [s_3, s_7, s_38, s_47, lgR_some, lg_0, lg_1, lg_2, lg_3, lg_4, lg_5, g_7_12, p_7_11, p_7_13, p_7_14, p_7_15, p_7_16, p_7_17, List.length_cons, List.length_nil, Nat.reduceAdd, Nat.reduceLT, Nat.reduceLeDiff, true_and, and_true, true_or, or_true, Int.reduceEq, Nat.reduceEqDiff, reduceCtorEq, true_implies, false_implies, not_true_eq_false, not_false_eq_true, Nat.zero_le, Int.zero_add, Nat.zero_add, Nat.lt_add_one, eq_self, forall_const, implies_true, Bool.false_eq_true, false_or, or_false, and_self, ne_eq, me_ne, me_self, me_i, e12, show w32 (M 5 2 - 1) = M 5 2 - 1 from w32_id (by omega) (by omega)]
  generalize hZ : me_put (me_put (me_put (me_put (me_put (me_put X4 7 11 0) 7 13 0) 7 14 (M 5 2 - 1)) 7 15 (-1)) 7 16 0) 7 17 1 = Z
  have kz : ∀ k, k ≠ 7 → Z k = X4 k := fun k q => by rw [← hZ, me_f _ q, me_f _ q, me_f _ q, me_f _ q, me_f _ q, me_f _ q]
  have z11 : Z 7 11 = 0 := by rw [← hZ]; simp only [me_f, me_fs, me_ne, me_self, me_i, fu_s, ne_eq, Nat.reduceEqDiff, not_false_eq_true, Int.reduceEq, reduceCtorEq]
  have z13 : Z 7 13 = 0 := by rw [← hZ]; simp only [me_f, me_fs, me_ne, me_self, me_i, fu_s, ne_eq, Nat.reduceEqDiff, not_false_eq_true, Int.reduceEq, reduceCtorEq]
  have z14 : Z 7 14 = M 5 2 - 1 := by rw [← hZ]; simp only [me_f, me_fs, me_ne, me_self, me_i, fu_s, ne_eq, Nat.reduceEqDiff, not_false_eq_true, Int.reduceEq, reduceCtorEq]
  have z15 : Z 7 15 = -1 := by rw [← hZ]; simp only [me_f, me_fs, me_ne, me_self, me_i, fu_s, ne_eq, Nat.reduceEqDiff, not_false_eq_true, Int.reduceEq, reduceCtorEq]
  have z17 : Z 7 17 = 1 := by rw [← hZ]; simp only [me_f, me_fs, me_ne, me_self, me_i, fu_s, ne_eq, Nat.reduceEqDiff, not_false_eq_true, Int.reduceEq, reduceCtorEq]
  have z12 : Z 7 12 = M 5 2 := by rw [← hZ]; simp only [me_f, me_fs, me_ne, me_self, me_i, fu_s, ne_eq, Nat.reduceEqDiff, not_false_eq_true, Int.reduceEq, reduceCtorEq]; exact e12
  have f : f7 M Z := fun k q1 q2 => by
    rw [kz k q1, c1 k (by omega), k2 k q1 (by omega) (by omega) (by omega)]
  have z40 : ∀ c, 0 ≤ c → c < 10 → Z 40 c = M 13 c := fun c c0 c1' => by rw [kz 40 (by decide), c1 40 (by decide)]; exact x40 c c0 c1'
  have z41 : ∀ j, 0 ≤ j → j < 1010 → Z 41 j = 0 := fun j j0 j1 => by rw [kz 41 (by decide), c1 41 (by decide), k3 41 (by decide), b1 41 (by decide)]; exact a2 j j0 j1
  have z42 : ∀ j, 0 ≤ j → j < 1200 → Z 42 j = 0 := fun j j0 j1 => by rw [kz 42 (by decide), c1 42 (by decide), k3 42 (by decide)]; exact b2 j j0 j1
  have z43 : ∀ c h, 0 ≤ c → c < M 1 8 → M 5 2 ≤ h → h ≤ 100 → Z 43 (h * 10 + c) = if M 10 c ≤ M 38 (h * 10 + c) then -2 else 0 := by
    intro c h c0 c1' h0 h1
    rw [kz 43 (by decide), c2 c h c0 (by rw [k2 1 (by decide) (by decide) (by decide) (by decide)]; exact c1') h0 h1, k2 10 (by decide) (by decide) (by decide) (by decide), k2 38 (by decide) (by decide) (by decide) (by decide)]
  have fg : ∀ c, 0 ≤ c → c < 10 → fgk M Z c = 0 := fun c c0 c1' => by unfold fgk; rw [z40 c c0 c1']; omega
  have fw0 : ∀ c h, 0 ≤ c → c < 10 → 0 ≤ h → h < 101 → fwt Z c h = 0 := fun c h c0 c1' h0 h1 => by unfold fwt; exact z41 _ (by omega) (by omega)
  have fs0 : ∀ r h, 0 ≤ r → r < 12 → 0 ≤ h → h < 101 → fsr Z r h = 0 := fun r h r0 r1 h0 h1 => by
    unfold fsr; split
    · exact z42 _ (by omega) (by omega)
    · rfl
  refine H Z f ⟨⟨f, z12, ?_, by omega, ?_, ?_, ?_⟩, ?_, ?_, by omega⟩ z11 z14 z15 z17
  · intro c h c0 c1' c2' c3 h0 h1
    rw [z43 c h c0 c2' h0 h1, z11]
    by_cases q : M 10 c ≤ M 38 (h * 10 + c)
    · rw [if_pos q]; exact ⟨⟨fun _ => by omega, fun _ => rfl⟩, by omega, by omega⟩
    · rw [if_neg q]; exact ⟨⟨fun z => by omega, fun z => by omega⟩, by omega, by omega⟩
  · intro c c0 c1'
    rw [z40 c c0 c1']
    have := W.1.2.2.2.2.2.2.1 c
    omega
  · rw [z13]
    refine ⟨fun c c0 c1' => ?_, fun c h c0 c1' h0 h1 => ?_, fun r h r0 r1 h0 h1 => ?_, fun χ w => ?_⟩
    · rw [fg c c0 c1']; exact ⟨Int.le_refl _, fun z => (z rfl).elim⟩
    · rw [fw0 c h c0 c1' h0 h1]; exact ⟨Int.le_refl _, fun z => (z rfl).elim⟩
    · rw [fs0 r h r0 r1 h0 h1]; exact ⟨Int.le_refl _, fun z => (z rfl).elim⟩
    · unfold LL
      have s1 : sm 10 (fun c => fgk M Z c * χ c (M 5 2)) = 0 := by
        rw [sm_cg (n := 10) (g := fun _ => 0) (fun i i0 i1 => by rw [fg i i0 (by omega)]; omega), sm_0]
      have s2 : sm 10 (fun c => sm 101 (fun h => fwt Z c h * (χ c (h + 1) - χ c h))) = 0 := by
        rw [sm_cg (n := 10) (g := fun _ => 0) (fun i i0 i1 => by
          show sm 101 (fun h => fwt Z i h * (χ i (h + 1) - χ i h)) = 0
          rw [sm_cg (n := 101) (g := fun _ => 0) (fun j j0 j1 => by rw [fw0 i j i0 (by omega) j0 (by omega)]; omega), sm_0]), sm_0]
      have s3 : sm 12 (fun r => sm 101 (fun h => fsr Z r h * (hdv M χ w r h - χ (M 25 r) h))) = 0 := by
        rw [sm_cg (n := 12) (g := fun _ => 0) (fun i i0 i1 => by
          show sm 101 (fun h => fsr Z i h * (hdv M χ w i h - χ (M 25 i) h)) = 0
          rw [sm_cg (n := 101) (g := fun _ => 0) (fun j j0 j1 => by rw [fs0 i j i0 (by omega) j0 (by omega)]; omega), sm_0]), sm_0]
      rw [s1, s2, s3]
      omega
  · intro c h pp hm
    rw [z43 c h pp.1 pp.2.2.1 pp.2.2.2.2.1 pp.2.2.2.2.2.1] at hm
    have := pp.2.2.2.2.2.2
    rw [if_neg (by omega)] at hm
    omega
  · intro r h r0 r1 r2 h0 h1
    obtain ⟨r12, rf, rt, rb, rl', rn⟩ := WK_r W r0 r1
    omega
  · intro t t0 t1
    omega
end BE

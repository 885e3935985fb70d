theorem c_9 {d : Nat} {M : Me} {k hr : Int} {Q : Int → Me → Prop} (hk : 0 ≤ k ∧ k < 12) (h : Q (b01 (M 23 k ≠ -1 ∧ M 23 k ≤ hr)) M) : Cl d 9 [vR 2, vI k, vI hr] M Q := by
  unfold Cl
  rw [en_9]
  simp only [bq9_0, bq9_1, bq9_2, s_0, lgI_some, s_3, s_24, s_30, cnP_0, cnP_1, cnP_2, cnP_3, cnP_4, cnP_5, s_31, s_32, s_37i, s_37z, s_47, lgR_some, kd_9, kd_10, kd_11, kd_12, kd_13, kd_14, kd_15, kd_16, kd_17, kd_18, kd_19, kd_20, kd_21, kd_22, kd_23, kd_24, kd_25, kd_26, kd_27, kd_28, kd_29, kd_30, kd_31, kd_32, kd_33, kd_34, kd_35, kd_36, kd_37, kd_38, kd_39, kd_40, kd_41, kd_42, kd_43, kd_44, kd_45, kd_46, kd_47, kd_48, kd_49, ln_9, ln_10, ln_11, ln_12, ln_13, ln_14, ln_15, ln_16, ln_17, ln_18, ln_19, ln_20, ln_21, ln_22, ln_23, ln_24, ln_25, ln_26, ln_27, ln_28, ln_29, ln_30, ln_31, ln_32, ln_33, ln_34, ln_35, ln_36, ln_37, ln_38, ln_39, ln_40, ln_41, ln_42, ln_43, ln_44, ln_45, ln_46, ln_47, ln_48, ln_49, lg_0, lg_1, lg_2, g_2_6, List.length_cons, List.length_nil, Nat.reduceAdd, Nat.reduceLT, Nat.reduceLeDiff, true_and, and_true, true_or, or_true, Int.reduceEq, Nat.reduceEqDiff, reduceCtorEq, true_implies, false_implies, not_true_eq_false, not_false_eq_true, Nat.zero_le, Int.zero_add, Nat.zero_add, Nat.lt_add_one, eq_self, forall_const, implies_true, Bool.false_eq_true, false_or, or_false, and_self, ne_eq, me_ne, me_self]
  refine ⟨hk, fun q => ?_, fun q => ⟨hk, fun q2 => ?_, fun q2 => ?_⟩⟩
  · rwa [b01_f (by omega)] at h
  · rwa [b01_f (by omega)] at h
  · rwa [b01_t (by omega)] at h
theorem c_93 {d : Nat} {M : Me} {k hr : Int} {Q : Int → Me → Prop} (hk : 0 ≤ k ∧ k < 12) (h : Q (b01 (M 63 k ≠ -1 ∧ M 63 k ≤ hr)) M) : Cl d 93 [vR 50, vI k, vI hr] M Q := by
  unfold Cl
  rw [en_93]
  simp only [bq93_0, bq93_1, bq93_2, s_0, lgI_some, s_3, s_24, s_30, cnP_0, cnP_1, cnP_2, cnP_3, cnP_4, cnP_5, s_31, s_32, s_37i, s_37z, s_47, lgR_some, kd_51, kd_52, kd_53, kd_54, kd_55, kd_56, kd_57, kd_58, kd_59, kd_60, kd_61, kd_62, kd_63, kd_64, kd_65, kd_66, kd_67, kd_68, kd_69, kd_70, kd_71, kd_72, kd_73, kd_74, kd_75, kd_76, kd_77, kd_78, kd_79, kd_80, kd_81, kd_82, kd_83, kd_84, kd_85, ln_51, ln_52, ln_53, ln_54, ln_55, ln_56, ln_57, ln_58, ln_59, ln_60, ln_61, ln_62, ln_63, ln_64, ln_65, ln_66, ln_67, ln_68, ln_69, ln_70, ln_71, ln_72, ln_73, ln_74, ln_75, ln_76, ln_77, ln_78, ln_79, ln_80, ln_81, ln_82, ln_83, ln_84, ln_85, lg_0, lg_1, lg_2, g_50_15, List.length_cons, List.length_nil, Nat.reduceAdd, Nat.reduceLT, Nat.reduceLeDiff, true_and, and_true, true_or, or_true, Int.reduceEq, Nat.reduceEqDiff, reduceCtorEq, true_implies, false_implies, not_true_eq_false, not_false_eq_true, Nat.zero_le, Int.zero_add, Nat.zero_add, Nat.lt_add_one, eq_self, forall_const, implies_true, Bool.false_eq_true, false_or, or_false, and_self, ne_eq, me_ne, me_self]
  refine ⟨hk, fun q => ?_, fun q => ⟨hk, fun q2 => ?_, fun q2 => ?_⟩⟩
  · rwa [b01_f (by omega)] at h
  · rwa [b01_f (by omega)] at h
  · rwa [b01_t (by omega)] at h

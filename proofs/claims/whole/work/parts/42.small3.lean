theorem c_2 {d : Nat} {M : Me} {b : Int} {Q : Int → Me → Prop} (hn : M 1 8 ≤ 10) (h : Q (b01 (0 ≤ b ∧ b < M 1 8 ∧ M 9 b ≠ 0)) M) : Cl (d + 1) 2 [vR 1, vI b] M Q := by
  unfold Cl
  rw [en_2]
  simp only [bq2_0, bq2_1, bq2_2, s_0, lgI_some, s_3, s_29, cnP_0, cnP_1, cnP_2, cnP_3, cnP_4, cnP_5, s_31, s_32, s_37i, s_37z, s_46, s_47, lgR_some, s_52, res_0, res_1, nlg_n, nlg_I, nlg_R, Bool.true_and, Bool.and_self, Bool.and_true, kd_9, kd_10, kd_11, kd_12, kd_13, kd_14, kd_15, kd_16, kd_17, kd_18, kd_19, kd_20, kd_21, kd_22, kd_23, kd_24, kd_25, kd_26, kd_27, kd_28, kd_29, kd_30, kd_31, kd_32, kd_33, kd_34, kd_35, kd_36, kd_37, kd_38, kd_39, kd_40, kd_41, kd_42, kd_43, kd_44, kd_45, kd_46, kd_47, kd_48, kd_49, ln_9, ln_10, ln_11, ln_12, ln_13, ln_14, ln_15, ln_16, ln_17, ln_18, ln_19, ln_20, ln_21, ln_22, ln_23, ln_24, ln_25, ln_26, ln_27, ln_28, ln_29, ln_30, ln_31, ln_32, ln_33, ln_34, ln_35, ln_36, ln_37, ln_38, ln_39, ln_40, ln_41, ln_42, ln_43, ln_44, ln_45, ln_46, ln_47, ln_48, ln_49, lg_0, lg_1, g_1_0, rc_1_1, List.length_cons, List.length_nil, Nat.reduceAdd, Nat.reduceLT, Nat.reduceLeDiff, true_and, and_true, true_or, or_true, Int.reduceEq, Nat.reduceEqDiff, reduceCtorEq, true_implies, false_implies, not_true_eq_false, not_false_eq_true, Nat.zero_le, Int.zero_add, Nat.zero_add, Nat.lt_add_one, eq_self, forall_const, implies_true, Bool.false_eq_true, false_or, or_false, and_self, ne_eq, me_ne, me_self]
  refine c_1 ⟨fun q => ?_, fun q => ?_⟩
  · by_cases h1 : 0 ≤ b ∧ b < M 1 8
    · rw [b01_t h1] at q; omega
    · rwa [b01_f (by omega)] at h
  · by_cases h1 : 0 ≤ b ∧ b < M 1 8
    · refine ⟨⟨h1.1, by omega⟩, fun q2 => ?_, fun q2 => ?_⟩
      · rwa [b01_f (by omega)] at h
      · rwa [b01_t ⟨h1.1, h1.2, q2⟩] at h
    · rw [b01_f h1] at q; omega
theorem c_10 {d : Nat} {M : Me} {k hr n : Int} {Q : Int → Me → Prop} (hk : 0 ≤ k ∧ k < 12) (hh : 0 ≤ hr ∧ hr < 100) (h : Q 0 (me_put M 24 (k * 100 + hr) (w32 (M 24 (k * 100 + hr) + n)))) : Cl d 10 [vR 2, vI k, vI hr, vI n] M Q := by
  unfold Cl
  rw [en_10]
  simp only [bq10_0, bq10_1, s_0, lgI_some, s_3, s_6, s_8, s_24, s_25, s_29, cnP_0, cnP_1, cnP_2, cnP_3, cnP_4, cnP_5, s_30, s_32, s_34, s_38, s_47, lgR_some, kd_9, kd_10, kd_11, kd_12, kd_13, kd_14, kd_15, kd_16, kd_17, kd_18, kd_19, kd_20, kd_21, kd_22, kd_23, kd_24, kd_25, kd_26, kd_27, kd_28, kd_29, kd_30, kd_31, kd_32, kd_33, kd_34, kd_35, kd_36, kd_37, kd_38, kd_39, kd_40, kd_41, kd_42, kd_43, kd_44, kd_45, kd_46, kd_47, kd_48, kd_49, ln_9, ln_10, ln_11, ln_12, ln_13, ln_14, ln_15, ln_16, ln_17, ln_18, ln_19, ln_20, ln_21, ln_22, ln_23, ln_24, ln_25, ln_26, ln_27, ln_28, ln_29, ln_30, ln_31, ln_32, ln_33, ln_34, ln_35, ln_36, ln_37, ln_38, ln_39, ln_40, ln_41, ln_42, ln_43, ln_44, ln_45, ln_46, ln_47, ln_48, ln_49, lg_0, lg_1, lg_2, lg_3, g_2_7, List.length_cons, List.length_nil, Nat.reduceAdd, Nat.reduceLT, Nat.reduceLeDiff, true_and, and_true, true_or, or_true, Int.reduceEq, Nat.reduceEqDiff, reduceCtorEq, true_implies, false_implies, not_true_eq_false, not_false_eq_true, Nat.zero_le, Int.zero_add, Nat.zero_add, Nat.lt_add_one, eq_self, forall_const, implies_true, Bool.false_eq_true, false_or, or_false, and_self, ne_eq, me_ne, me_self]
  have e1 : w32 (k * 100) = k * 100 := w32_id (by omega) (by omega)
  have e2 : w32 (k * 100 + hr) = k * 100 + hr := w32_id (by omega) (by omega)
  rw [e1, e2]
  refine ⟨fun q => by omega, fun q => ⟨fun q2 => by omega, fun q2 => ⟨by omega, by omega, h⟩⟩⟩

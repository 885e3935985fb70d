noncomputable def b01 (p : Prop) : Int := @ite Int p (Classical.propDecidable p) 1 0
theorem b01_t {p : Prop} (h : p) : b01 p = 1 := by unfold b01; rw [if_pos h]
theorem b01_f {p : Prop} (h : ¬ p) : b01 p = 0 := by unfold b01; rw [if_neg h]
theorem c_76 {d : Nat} {M : Me} {a b c : Int} {Q : Int → Me → Prop} (h : Q (b01 (b ≤ a ∧ a ≤ c)) M) : Cl d 76 [vI a, vI b, vI c] M Q := by
  unfold Cl
  rw [en_76]
  simp only [bq76_0, bq76_1, bq76_2, s_0, lgI_some, s_3, s_30, cnP_0, cnP_1, cnP_2, cnP_3, cnP_4, cnP_5, s_31, s_32, s_37i, s_37z, lg_0, lg_1, lg_2, List.length_cons, List.length_nil, Nat.reduceAdd, Nat.reduceLT, Nat.reduceLeDiff, true_and, and_true, true_or, or_true, Int.reduceEq, Nat.reduceEqDiff, reduceCtorEq, true_implies, false_implies, not_true_eq_false, not_false_eq_true, Nat.zero_le, Int.zero_add, Nat.zero_add, Nat.lt_add_one, eq_self, forall_const, implies_true, Bool.false_eq_true, false_or, or_false, and_self, ne_eq, me_ne, me_self]
  refine ⟨fun q => ?_, fun q => ⟨fun q2 => ?_, fun q2 => ?_⟩⟩
  · rwa [b01_f (by omega)] at h
  · rwa [b01_f (by omega)] at h
  · rwa [b01_t (by omega)] at h
theorem c_85 {d : Nat} {M : Me} {a b c : Int} {Q : Int → Me → Prop} (h : Q (b01 (b ≤ a ∧ a ≤ c)) M) : Cl d 85 [vI a, vI b, vI c] M Q := by
  unfold Cl
  rw [en_85]
  simp only [bq85_0, bq85_1, bq85_2, s_0, lgI_some, s_3, s_30, cnP_0, cnP_1, cnP_2, cnP_3, cnP_4, cnP_5, s_31, s_32, s_37i, s_37z, lg_0, lg_1, lg_2, List.length_cons, List.length_nil, Nat.reduceAdd, Nat.reduceLT, Nat.reduceLeDiff, true_and, and_true, true_or, or_true, Int.reduceEq, Nat.reduceEqDiff, reduceCtorEq, true_implies, false_implies, not_true_eq_false, not_false_eq_true, Nat.zero_le, Int.zero_add, Nat.zero_add, Nat.lt_add_one, eq_self, forall_const, implies_true, Bool.false_eq_true, false_or, or_false, and_self, ne_eq, me_ne, me_self]
  refine ⟨fun q => ?_, fun q => ⟨fun q2 => ?_, fun q2 => ?_⟩⟩
  · rwa [b01_f (by omega)] at h
  · rwa [b01_f (by omega)] at h
  · rwa [b01_t (by omega)] at h
theorem c_1 {d : Nat} {M : Me} {b : Int} {Q : Int → Me → Prop} (h : Q (b01 (0 ≤ b ∧ b < M 1 8)) M) : Cl d 1 [vR 1, vI b] M Q := by
  unfold Cl
  rw [en_1]
  simp only [bq1_0, bq1_1, bq1_2, s_0, lgI_some, s_3, s_29, cnP_0, cnP_1, cnP_2, cnP_3, cnP_4, cnP_5, s_30, s_31, s_32, s_37i, s_37z, s_47, lgR_some, lg_0, lg_1, g_1_8, List.length_cons, List.length_nil, Nat.reduceAdd, Nat.reduceLT, Nat.reduceLeDiff, true_and, and_true, true_or, or_true, Int.reduceEq, Nat.reduceEqDiff, reduceCtorEq, true_implies, false_implies, not_true_eq_false, not_false_eq_true, Nat.zero_le, Int.zero_add, Nat.zero_add, Nat.lt_add_one, eq_self, forall_const, implies_true, Bool.false_eq_true, false_or, or_false, and_self, ne_eq, me_ne, me_self]
  refine ⟨fun q => ?_, fun q => ⟨fun q2 => ?_, fun q2 => ?_⟩⟩
  · rwa [b01_f (by omega)] at h
  · rwa [b01_f (by omega)] at h
  · rwa [b01_t (by omega)] at h
theorem c_7 {d : Nat} {M : Me} {b : Int} {Q : Int → Me → Prop} (h : Q (b01 (0 ≤ b ∧ b < M 2 8)) M) : Cl d 7 [vR 2, vI b] M Q := by
  unfold Cl
  rw [en_7]
  simp only [bq7_0, bq7_1, bq7_2, s_0, lgI_some, s_3, s_29, cnP_0, cnP_1, cnP_2, cnP_3, cnP_4, cnP_5, s_30, s_31, s_32, s_37i, s_37z, s_47, lgR_some, lg_0, lg_1, g_2_8, List.length_cons, List.length_nil, Nat.reduceAdd, Nat.reduceLT, Nat.reduceLeDiff, true_and, and_true, true_or, or_true, Int.reduceEq, Nat.reduceEqDiff, reduceCtorEq, true_implies, false_implies, not_true_eq_false, not_false_eq_true, Nat.zero_le, Int.zero_add, Nat.zero_add, Nat.lt_add_one, eq_self, forall_const, implies_true, Bool.false_eq_true, false_or, or_false, and_self, ne_eq, me_ne, me_self]
  refine ⟨fun q => ?_, fun q => ⟨fun q2 => ?_, fun q2 => ?_⟩⟩
  · rwa [b01_f (by omega)] at h
  · rwa [b01_f (by omega)] at h
  · rwa [b01_t (by omega)] at h
theorem c_12 {d : Nat} {M : Me} {Q : Int → Me → Prop} (h : Q 0 (me_put M 7 17 0)) : Cl d 12 [vR 7] M Q := by
  unfold Cl
  rw [en_12]
  simp only [bq12_0, s_3, s_38, s_47, lgR_some, lg_0, p_7_17, List.length_cons, List.length_nil, Nat.reduceAdd, Nat.reduceLT, Nat.reduceLeDiff, true_and, and_true, true_or, or_true, Int.reduceEq, Nat.reduceEqDiff, reduceCtorEq, true_implies, false_implies, not_true_eq_false, not_false_eq_true, Nat.zero_le, Int.zero_add, Nat.zero_add, Nat.lt_add_one, eq_self, forall_const, implies_true, Bool.false_eq_true, false_or, or_false, and_self, ne_eq, me_ne, me_self]
  exact h
theorem c_43 {d : Nat} {M : Me} {Q : Int → Me → Prop} (h : Q 0 (me_put M 6 2 0)) : Cl d 43 [vR 6] M Q := by
  unfold Cl
  rw [en_43]
  simp only [bq43_0, s_3, s_38, s_47, lgR_some, lg_0, p_6_2, List.length_cons, List.length_nil, Nat.reduceAdd, Nat.reduceLT, Nat.reduceLeDiff, true_and, and_true, true_or, or_true, Int.reduceEq, Nat.reduceEqDiff, reduceCtorEq, true_implies, false_implies, not_true_eq_false, not_false_eq_true, Nat.zero_le, Int.zero_add, Nat.zero_add, Nat.lt_add_one, eq_self, forall_const, implies_true, Bool.false_eq_true, false_or, or_false, and_self, ne_eq, me_ne, me_self]
  exact h
theorem c_82 {d : Nat} {M : Me} {Q : Int → Me → Prop} (h : Q 0 (me_put (me_put M 6 2 0) 7 17 0)) : Cl (d + 1) 82 [vR 0] M Q := by
  unfold Cl
  rw [en_82]
  simp only [bq82_0, s_38, s_47, lgR_some, s_51, res_0, res_1, nlg_n, nlg_I, nlg_R, Bool.true_and, Bool.and_self, Bool.and_true, lg_0, g_0_5, g_0_6, rc_12_7, rc_43_6, List.length_cons, List.length_nil, Nat.reduceAdd, Nat.reduceLT, Nat.reduceLeDiff, true_and, and_true, true_or, or_true, Int.reduceEq, Nat.reduceEqDiff, reduceCtorEq, true_implies, false_implies, not_true_eq_false, not_false_eq_true, Nat.zero_le, Int.zero_add, Nat.zero_add, Nat.lt_add_one, eq_self, forall_const, implies_true, Bool.false_eq_true, false_or, or_false, and_self, ne_eq, me_ne, me_self]
  exact c_43 (c_12 h)

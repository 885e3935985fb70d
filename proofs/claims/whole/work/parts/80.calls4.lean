/-! leave, soonest, bars, bar -/
section LV
variable {d : Nat} {K M X Y : Me} {t : Int} {Q : Int → Me → Prop}
theorem Iv_r (I : Iv M) (f1 : ∀ k, k ∉ [50, 79, 80, 81, 82, 83, 84, 85] → X k = M k) (f2 : ∀ j, j ≠ 41 → j ≠ 42 → j ≠ 43 → X 50 j = M 50 j) : Iv X := by
  obtain ⟨hL, hB, hD, hC, hF, hR, hP, hX⟩ := I
  have eW : cw X = cw M := cw_of (fun k q1 q2 q3 q4 q5 => f1 k (fun e => by simp at e; omega))
  refine ⟨?_, cw_IB eW hB, cw_ID eW hD, IvC_cg (f1 2 (by decide)) (f1 5 (by decide)) (f1 24 (by decide)) (f1 65 (by decide)) hC, IvF_cg (f1 2 (by decide)) (f1 5 (by decide)) (f1 36 (by decide)) (f1 37 (by decide)) (f1 73 (by decide)) (f1 74 (by decide)) (f1 75 (by decide)) (f1 76 (by decide)) (f1 77 (by decide)) hF, cw_IR eW hR, IvP_cg (f1 0 (by decide)) (f1 2 (by decide)) (f1 4 (by decide)) (f1 33 (by decide)) (f1 34 (by decide)) hP, IvX_fr (fun k hk => f1 k (fun e => by simp at e; omega)) hX⟩
  unfold IvL at *
  rw [f1 51 (by decide), f1 52 (by decide), f1 53 (by decide), f1 54 (by decide), f1 55 (by decide), f1 56 (by decide), f1 57 (by decide), f1 58 (by decide), f1 59 (by decide), f1 60 (by decide), f1 61 (by decide), f1 62 (by decide), f1 63 (by decide), f1 64 (by decide), f1 66 (by decide), f1 67 (by decide), f1 68 (by decide), f1 69 (by decide), f1 70 (by decide), f1 71 (by decide), f1 72 (by decide), f2 0 (by decide) (by decide) (by decide), f2 1 (by decide) (by decide) (by decide), f2 9 (by decide) (by decide) (by decide), f2 18 (by decide) (by decide) (by decide), f2 19 (by decide) (by decide) (by decide), f2 23 (by decide) (by decide) (by decide), f1 0 (by decide), f1 1 (by decide), f1 2 (by decide), f1 3 (by decide), f1 4 (by decide), f1 5 (by decide), f1 9 (by decide), f1 10 (by decide), f1 11 (by decide), f1 12 (by decide), f1 13 (by decide), f1 14 (by decide), f1 16 (by decide), f1 17 (by decide), f1 18 (by decide), f1 19 (by decide), f1 20 (by decide), f1 21 (by decide), f1 22 (by decide), f1 23 (by decide), f1 33 (by decide), f1 34 (by decide), f1 35 (by decide), f1 25 (by decide), f1 26 (by decide), f1 27 (by decide), f1 28 (by decide)]
  exact hL
/-- the reference leads: the greatest, and its heap -/
theorem c_125 (I : Iv M) (h6 : M 6 2 ≠ 0) (h0 : M 5 2 ≤ t) (ht : t ≤ 100) (H : ∀ X v, Iv X → (∀ k, k < 50 → X k = M k) → rW M X → heap M t (Sr X) → (∀ p, 0 ≤ p → p < 1010 → X 82 p = 0 ∨ X 82 p = 1) → Mx M t v → Q v X) : Cl (d + 5) 125 [vR 50, vI t] M Q := by
  have W := Iv_WK I
  have hn := W.2.2
  have hb := W.1.1
  have foi := I.2.2.2.2.2.2.2.1 h6
  unfold Cl
  rw [en_125]
  simp only [bq125_0, s_0, lgI_some, s_1I, s_3, s_5K, s_25, s_30, cnP_0, cnP_1, cnP_2, cnP_3, cnP_4, cnP_5, s_31, s_32, s_47, lgR_some, s_51, res_0, res_1, nlg_n, nlg_I, nlg_R, Bool.true_and, Bool.and_self, Bool.and_true, kd_51, kd_52, kd_53, kd_54, kd_55, kd_56, kd_57, kd_58, kd_59, kd_60, kd_61, kd_62, kd_63, kd_64, kd_65, kd_66, kd_67, kd_68, kd_69, kd_70, kd_71, kd_72, kd_73, kd_74, kd_75, kd_76, kd_77, kd_78, kd_79, kd_80, kd_81, kd_82, kd_83, kd_84, kd_85, ln_51, ln_52, ln_53, ln_54, ln_55, ln_56, ln_57, ln_58, ln_59, ln_60, ln_61, ln_62, ln_63, ln_64, ln_65, ln_66, ln_67, ln_68, ln_69, ln_70, ln_71, ln_72, ln_73, ln_74, ln_75, ln_76, ln_77, ln_78, ln_79, ln_80, ln_81, ln_82, ln_83, ln_84, ln_85, lg_0, lg_1, lg_2, lg_3, lg_4, lg_5, lg_6, lz_0, lz_1, lz_2, lz_3, lz_4, lz_5, lz_6, lp_0, lp_1, lp_2, lp_3, lp_4, lp_5, lp_6, isL_n, isL_I, isL_R, g_50_34, rc_108_50, List.length_cons, List.length_nil, Nat.reduceAdd, Nat.reduceLT, Nat.reduceLeDiff, true_and, and_true, true_or, or_true, Int.reduceEq, Nat.reduceEqDiff, reduceCtorEq, true_implies, false_implies, not_true_eq_false, not_false_eq_true, Nat.zero_le, Int.zero_add, Nat.zero_add, Nat.lt_add_one, eq_self, forall_const, implies_true, Bool.false_eq_true, false_or, or_false, and_self, ne_eq, me_ne, me_self]
  refine c_tell I (fun Y IY FY => ?_)
  have y49 : ∀ k, k < 50 → Y k = M k := fun k q => FY.1 k (fun e => by simp at e; omega)
  have hL := IY.1
  obtain ⟨⟨l51, l52, l53, l54, l55, l56, l57⟩, ⟨l58, l59, l60, l61, l62, l63, l64⟩, ⟨l66, l67, l68⟩, ⟨l69, l70, l71, l72⟩, ⟨n0, n1, n9, n18, n19, n23⟩⟩ := hL
  have wY : rW M Y := ⟨⟨by rw [l69, y49 25 (by decide)], by rw [l70, y49 26 (by decide)], by rw [l71, y49 27 (by decide)], by rw [l72, y49 28 (by decide)], by rw [l55, y49 13 (by decide)], by rw [l51, y49 9 (by decide)], by rw [l52, y49 10 (by decide)]⟩, ⟨by rw [n23, y49 3 (by decide)], by rw [n0, y49 5 (by decide)], by rw [n1, y49 1 (by decide)]⟩, fun c h c0 c1 g0 g1 => by rw [FY.2.2.2.2.2.2.2 h c g0 g1 c0 c1, foi h c g0 g1 c0 (by omega)]⟩
  -- three arrays of zeros
  have lp1 : ∀ (n : Nat) (X : Me) (i : Int), 0 ≤ i → i + (n : Int) = 10 → (∀ k, k ≠ 79 → X k = Y k) → (∀ j, 0 ≤ j → j < i → X 79 j = 0) → (∀ X', (∀ k, k ≠ 79 → X' k = Y k) → (∀ j, 0 ≤ j → j < 10 → X' 79 j = 0) → Rn (d + 5) (blk 125 3) 125 [some (vR 50), some (vI t), some (vI 0), none, none, none, none] [] X' Q) → Rn (d + 5) (blk 125 1) 125 [some (vR 50), some (vI t), some (vI i), none, none, none, none] [] X Q := by
    intro n
    induction n with
    | zero =>
      intro X i i0 i1 a1 a2 G
      rw [bq125_1]
      simp only [bq125_2, s_0, lgI_some, s_1I, s_3, s_5K, s_25, s_30, cnP_0, cnP_1, cnP_2, cnP_3, cnP_4, cnP_5, s_31, s_32, s_47, lgR_some, kd_51, kd_52, kd_53, kd_54, kd_55, kd_56, kd_57, kd_58, kd_59, kd_60, kd_61, kd_62, kd_63, kd_64, kd_65, kd_66, kd_67, kd_68, kd_69, kd_70, kd_71, kd_72, kd_73, kd_74, kd_75, kd_76, kd_77, kd_78, kd_79, kd_80, kd_81, kd_82, kd_83, kd_84, kd_85, ln_51, ln_52, ln_53, ln_54, ln_55, ln_56, ln_57, ln_58, ln_59, ln_60, ln_61, ln_62, ln_63, ln_64, ln_65, ln_66, ln_67, ln_68, ln_69, ln_70, ln_71, ln_72, ln_73, ln_74, ln_75, ln_76, ln_77, ln_78, ln_79, ln_80, ln_81, ln_82, ln_83, ln_84, ln_85, lg_0, lg_1, lg_2, lg_3, lg_4, lg_5, lg_6, lz_0, lz_1, lz_2, lz_3, lz_4, lz_5, lz_6, lp_0, lp_1, lp_2, lp_3, lp_4, lp_5, lp_6, isL_n, isL_I, isL_R, g_50_34, g_50_35, List.length_cons, List.length_nil, Nat.reduceAdd, Nat.reduceLT, Nat.reduceLeDiff, true_and, and_true, true_or, or_true, Int.reduceEq, Nat.reduceEqDiff, reduceCtorEq, true_implies, false_implies, not_true_eq_false, not_false_eq_true, Nat.zero_le, Int.zero_add, Nat.zero_add, Nat.lt_add_one, eq_self, forall_const, implies_true, Bool.false_eq_true, false_or, or_false, and_self, ne_eq, me_ne, me_self, show 10 ≤ i by omega]
      exact G X a1 (fun j j0 j1 => a2 j j0 (by omega))
    | succ n ih =>
      intro X i i0 i1 a1 a2 G
      rw [bq125_1]
      simp only [bq125_2, s_0, lgI_some, s_1I, s_3, s_5K, s_25, s_30, cnP_0, cnP_1, cnP_2, cnP_3, cnP_4, cnP_5, s_31, s_32, s_47, lgR_some, kd_51, kd_52, kd_53, kd_54, kd_55, kd_56, kd_57, kd_58, kd_59, kd_60, kd_61, kd_62, kd_63, kd_64, kd_65, kd_66, kd_67, kd_68, kd_69, kd_70, kd_71, kd_72, kd_73, kd_74, kd_75, kd_76, kd_77, kd_78, kd_79, kd_80, kd_81, kd_82, kd_83, kd_84, kd_85, ln_51, ln_52, ln_53, ln_54, ln_55, ln_56, ln_57, ln_58, ln_59, ln_60, ln_61, ln_62, ln_63, ln_64, ln_65, ln_66, ln_67, ln_68, ln_69, ln_70, ln_71, ln_72, ln_73, ln_74, ln_75, ln_76, ln_77, ln_78, ln_79, ln_80, ln_81, ln_82, ln_83, ln_84, ln_85, lg_0, lg_1, lg_2, lg_3, lg_4, lg_5, lg_6, lz_0, lz_1, lz_2, lz_3, lz_4, lz_5, lz_6, lp_0, lp_1, lp_2, lp_3, lp_4, lp_5, lp_6, isL_n, isL_I, isL_R, g_50_34, g_50_35, List.length_cons, List.length_nil, Nat.reduceAdd, Nat.reduceLT, Nat.reduceLeDiff, true_and, and_true, true_or, or_true, Int.reduceEq, Nat.reduceEqDiff, reduceCtorEq, true_implies, false_implies, not_true_eq_false, not_false_eq_true, Nat.zero_le, Int.zero_add, Nat.zero_add, Nat.lt_add_one, eq_self, forall_const, implies_true, Bool.false_eq_true, false_or, or_false, and_self, ne_eq, me_ne, me_self, show ¬ 10 ≤ i by omega, i0, show i < 10 by omega, show w32 (i + 1) = i + 1 from w32_id (by omega) (by omega)]
      refine ih _ _ (by omega) (by omega) (fun k q => by rw [me_f _ q]; exact a1 k q) (fun j j0 j1 => ?_) G
      by_cases z : j = i
      · rw [z, me_self]
      · rw [me_i _ z]; exact a2 j j0 (by omega)
  have lp2 : ∀ (Y' : Me) (n : Nat) (X : Me) (i : Int), 0 ≤ i → i + (n : Int) = 1010 → (∀ k, k ≠ 80 → X k = Y' k) → (∀ j, 0 ≤ j → j < i → X 80 j = 0) → (∀ X', (∀ k, k ≠ 80 → X' k = Y' k) → (∀ j, 0 ≤ j → j < 1010 → X' 80 j = 0) → Rn (d + 5) (blk 125 5) 125 [some (vR 50), some (vI t), some (vI 0), none, none, none, none] [] X' Q) → Rn (d + 5) (blk 125 3) 125 [some (vR 50), some (vI t), some (vI i), none, none, none, none] [] X Q := by
    intro Y' n
    induction n with
    | zero =>
      intro X i i0 i1 a1 a2 G
      rw [bq125_3]
      simp only [bq125_4, s_0, lgI_some, s_1I, s_3, s_5K, s_25, s_30, cnP_0, cnP_1, cnP_2, cnP_3, cnP_4, cnP_5, s_31, s_32, s_47, lgR_some, kd_51, kd_52, kd_53, kd_54, kd_55, kd_56, kd_57, kd_58, kd_59, kd_60, kd_61, kd_62, kd_63, kd_64, kd_65, kd_66, kd_67, kd_68, kd_69, kd_70, kd_71, kd_72, kd_73, kd_74, kd_75, kd_76, kd_77, kd_78, kd_79, kd_80, kd_81, kd_82, kd_83, kd_84, kd_85, ln_51, ln_52, ln_53, ln_54, ln_55, ln_56, ln_57, ln_58, ln_59, ln_60, ln_61, ln_62, ln_63, ln_64, ln_65, ln_66, ln_67, ln_68, ln_69, ln_70, ln_71, ln_72, ln_73, ln_74, ln_75, ln_76, ln_77, ln_78, ln_79, ln_80, ln_81, ln_82, ln_83, ln_84, ln_85, lg_0, lg_1, lg_2, lg_3, lg_4, lg_5, lg_6, lz_0, lz_1, lz_2, lz_3, lz_4, lz_5, lz_6, lp_0, lp_1, lp_2, lp_3, lp_4, lp_5, lp_6, isL_n, isL_I, isL_R, g_50_35, g_50_36, List.length_cons, List.length_nil, Nat.reduceAdd, Nat.reduceLT, Nat.reduceLeDiff, true_and, and_true, true_or, or_true, Int.reduceEq, Nat.reduceEqDiff, reduceCtorEq, true_implies, false_implies, not_true_eq_false, not_false_eq_true, Nat.zero_le, Int.zero_add, Nat.zero_add, Nat.lt_add_one, eq_self, forall_const, implies_true, Bool.false_eq_true, false_or, or_false, and_self, ne_eq, me_ne, me_self, show 1010 ≤ i by omega]
      exact G X a1 (fun j j0 j1 => a2 j j0 (by omega))
    | succ n ih =>
      intro X i i0 i1 a1 a2 G
      rw [bq125_3]
      simp only [bq125_4, s_0, lgI_some, s_1I, s_3, s_5K, s_25, s_30, cnP_0, cnP_1, cnP_2, cnP_3, cnP_4, cnP_5, s_31, s_32, s_47, lgR_some, kd_51, kd_52, kd_53, kd_54, kd_55, kd_56, kd_57, kd_58, kd_59, kd_60, kd_61, kd_62, kd_63, kd_64, kd_65, kd_66, kd_67, kd_68, kd_69, kd_70, kd_71, kd_72, kd_73, kd_74, kd_75, kd_76, kd_77, kd_78, kd_79, kd_80, kd_81, kd_82, kd_83, kd_84, kd_85, ln_51, ln_52, ln_53, ln_54, ln_55, ln_56, ln_57, ln_58, ln_59, ln_60, ln_61, ln_62, ln_63, ln_64, ln_65, ln_66, ln_67, ln_68, ln_69, ln_70, ln_71, ln_72, ln_73, ln_74, ln_75, ln_76, ln_77, ln_78, ln_79, ln_80, ln_81, ln_82, ln_83, ln_84, ln_85, lg_0, lg_1, lg_2, lg_3, lg_4, lg_5, lg_6, lz_0, lz_1, lz_2, lz_3, lz_4, lz_5, lz_6, lp_0, lp_1, lp_2, lp_3, lp_4, lp_5, lp_6, isL_n, isL_I, isL_R, g_50_35, g_50_36, List.length_cons, List.length_nil, Nat.reduceAdd, Nat.reduceLT, Nat.reduceLeDiff, true_and, and_true, true_or, or_true, Int.reduceEq, Nat.reduceEqDiff, reduceCtorEq, true_implies, false_implies, not_true_eq_false, not_false_eq_true, Nat.zero_le, Int.zero_add, Nat.zero_add, Nat.lt_add_one, eq_self, forall_const, implies_true, Bool.false_eq_true, false_or, or_false, and_self, ne_eq, me_ne, me_self, show ¬ 1010 ≤ i by omega, i0, show i < 1010 by omega, show w32 (i + 1) = i + 1 from w32_id (by omega) (by omega)]
      refine ih _ _ (by omega) (by omega) (fun k q => by rw [me_f _ q]; exact a1 k q) (fun j j0 j1 => ?_) G
      by_cases z : j = i
      · rw [z, me_self]
      · rw [me_i _ z]; exact a2 j j0 (by omega)
  have lp3 : ∀ (Y' : Me) (n : Nat) (X : Me) (i : Int), 0 ≤ i → i + (n : Int) = 1212 → (∀ k, k ≠ 81 → X k = Y' k) → (∀ j, 0 ≤ j → j < i → X 81 j = 0) → (∀ X', (∀ k, k ≠ 81 → X' k = Y' k) → (∀ j, 0 ≤ j → j < 1212 → X' 81 j = 0) → Rn (d + 5) (blk 125 7) 125 [some (vR 50), some (vI t), some (vI 0), none, none, none, none] [] X' Q) → Rn (d + 5) (blk 125 5) 125 [some (vR 50), some (vI t), some (vI i), none, none, none, none] [] X Q := by
    intro Y' n
    induction n with
    | zero =>
      intro X i i0 i1 a1 a2 G
      rw [bq125_5]
      simp only [bq125_6, s_0, lgI_some, s_1I, s_3, s_5K, s_6, s_7, s_8, s_14, s_24, s_25, s_29, cnP_0, cnP_1, cnP_2, cnP_3, cnP_4, cnP_5, s_30, s_31, s_32, s_47, lgR_some, s_52, res_0, res_1, nlg_n, nlg_I, nlg_R, Bool.true_and, Bool.and_self, Bool.and_true, kd_51, kd_52, kd_53, kd_54, kd_55, kd_56, kd_57, kd_58, kd_59, kd_60, kd_61, kd_62, kd_63, kd_64, kd_65, kd_66, kd_67, kd_68, kd_69, kd_70, kd_71, kd_72, kd_73, kd_74, kd_75, kd_76, kd_77, kd_78, kd_79, kd_80, kd_81, kd_82, kd_83, kd_84, kd_85, ln_51, ln_52, ln_53, ln_54, ln_55, ln_56, ln_57, ln_58, ln_59, ln_60, ln_61, ln_62, ln_63, ln_64, ln_65, ln_66, ln_67, ln_68, ln_69, ln_70, ln_71, ln_72, ln_73, ln_74, ln_75, ln_76, ln_77, ln_78, ln_79, ln_80, ln_81, ln_82, ln_83, ln_84, ln_85, lg_0, lg_1, lg_2, lg_3, lg_4, lg_5, lg_6, lz_0, lz_1, lz_2, lz_3, lz_4, lz_5, lz_6, lp_0, lp_1, lp_2, lp_3, lp_4, lp_5, lp_6, isL_n, isL_I, isL_R, g_50_26, g_50_36, g_50_42, g_50_43, rc_120_50, List.length_cons, List.length_nil, Nat.reduceAdd, Nat.reduceLT, Nat.reduceLeDiff, true_and, and_true, true_or, or_true, Int.reduceEq, Nat.reduceEqDiff, reduceCtorEq, true_implies, false_implies, not_true_eq_false, not_false_eq_true, Nat.zero_le, Int.zero_add, Nat.zero_add, Nat.lt_add_one, eq_self, forall_const, implies_true, Bool.false_eq_true, false_or, or_false, and_self, ne_eq, me_ne, me_self, show 1212 ≤ i by omega]
      exact G X a1 (fun j j0 j1 => a2 j j0 (by omega))
    | succ n ih =>
      intro X i i0 i1 a1 a2 G
      rw [bq125_5]
      simp only [bq125_6, s_0, lgI_some, s_1I, s_3, s_5K, s_6, s_7, s_8, s_14, s_24, s_25, s_29, cnP_0, cnP_1, cnP_2, cnP_3, cnP_4, cnP_5, s_30, s_31, s_32, s_47, lgR_some, s_52, res_0, res_1, nlg_n, nlg_I, nlg_R, Bool.true_and, Bool.and_self, Bool.and_true, kd_51, kd_52, kd_53, kd_54, kd_55, kd_56, kd_57, kd_58, kd_59, kd_60, kd_61, kd_62, kd_63, kd_64, kd_65, kd_66, kd_67, kd_68, kd_69, kd_70, kd_71, kd_72, kd_73, kd_74, kd_75, kd_76, kd_77, kd_78, kd_79, kd_80, kd_81, kd_82, kd_83, kd_84, kd_85, ln_51, ln_52, ln_53, ln_54, ln_55, ln_56, ln_57, ln_58, ln_59, ln_60, ln_61, ln_62, ln_63, ln_64, ln_65, ln_66, ln_67, ln_68, ln_69, ln_70, ln_71, ln_72, ln_73, ln_74, ln_75, ln_76, ln_77, ln_78, ln_79, ln_80, ln_81, ln_82, ln_83, ln_84, ln_85, lg_0, lg_1, lg_2, lg_3, lg_4, lg_5, lg_6, lz_0, lz_1, lz_2, lz_3, lz_4, lz_5, lz_6, lp_0, lp_1, lp_2, lp_3, lp_4, lp_5, lp_6, isL_n, isL_I, isL_R, g_50_26, g_50_36, g_50_42, g_50_43, rc_120_50, List.length_cons, List.length_nil, Nat.reduceAdd, Nat.reduceLT, Nat.reduceLeDiff, true_and, and_true, true_or, or_true, Int.reduceEq, Nat.reduceEqDiff, reduceCtorEq, true_implies, false_implies, not_true_eq_false, not_false_eq_true, Nat.zero_le, Int.zero_add, Nat.zero_add, Nat.lt_add_one, eq_self, forall_const, implies_true, Bool.false_eq_true, false_or, or_false, and_self, ne_eq, me_ne, me_self, show ¬ 1212 ≤ i by omega, i0, show i < 1212 by omega, show w32 (i + 1) = i + 1 from w32_id (by omega) (by omega)]
      refine ih _ _ (by omega) (by omega) (fun k q => by rw [me_f _ q]; exact a1 k q) (fun j j0 j1 => ?_) G
      by_cases z : j = i
      · rw [z, me_self]
      · rw [me_i _ z]; exact a2 j j0 (by omega)
  refine lp1 10 Y 0 (Int.le_refl 0) (by omega) (fun _ _ => rfl) (fun j j0 j1 => by omega) (fun X1 a1 a2 => ?_)
  refine lp2 X1 1010 X1 0 (Int.le_refl 0) (by omega) (fun _ _ => rfl) (fun j j0 j1 => by omega) (fun X2 b1 b2 => ?_)
  refine lp3 X2 1212 X2 0 (Int.le_refl 0) (by omega) (fun _ _ => rfl) (fun j j0 j1 => by omega) (fun X3 c1 c2 => ?_)
  have k3 : ∀ k, k ≠ 79 → k ≠ 80 → k ≠ 81 → X3 k = Y k := fun k q1 q2 q3 => by rw [c1 k q3, b1 k q2, a1 k q1]
  have g0 : ∀ c, 0 ≤ c → c < 10 → rgo X3 c = 0 := fun c x0 x1 => by unfold rgo; rw [c1 79 (by decide), b1 79 (by decide)]; exact a2 c x0 x1
  have w0 : ∀ c h, 0 ≤ c → c < 10 → 0 ≤ h → h < 101 → rwt X3 c h = 0 := fun c h x0 x1 x2 x3 => by unfold rwt; rw [c1 80 (by decide)]; exact b2 _ (by omega) (by omega)
  have s0 : ∀ r h, 0 ≤ r → r < 12 → 0 ≤ h → h < 101 → rst X3 r h = 0 := fun r h x0 x1 x2 x3 => by unfold rst; exact c2 _ (by omega) (by omega)
  refine l_125c (d := d + 1) (M := Y) W h0 ht ?_ 5001 X3 0 _ _ _ _ (Int.le_refl 0) (by omega) rfl rfl rfl (fun k q => ?_) (fun j _ _ _ => by rw [k3 50 (by decide) (by decide) (by decide)]) (rW_cg wY k3) ⟨?_, ?_, ?_, ?_⟩
  · intro X v f1 f2 wX hp h01 mx
    exact H X v (Iv_r IY f1 f2) (fun k q => by rw [f1 k (fun e => by simp at e; omega), y49 k q]) wX hp h01 mx
  · simp at q; exact k3 k (by omega) (by omega) (by omega)
  · intro c x0 x1; rw [g0 c x0 x1]; exact ⟨Int.le_refl _, fun z => (z rfl).elim⟩
  · intro c h x0 x1 x2 x3; rw [w0 c h x0 x1 x2 x3]; exact ⟨Int.le_refl _, fun z => (z rfl).elim⟩
  · intro r h x0 x1 x2 x3; rw [s0 r h x0 x1 x2 x3]; exact ⟨Int.le_refl _, fun z => (z rfl).elim⟩
  · intro χ w
    unfold LL
    have e1 : sm 10 (fun c => rgo X3 c * χ c (M 5 2)) = 0 := by
      rw [sm_cg (n := 10) (g := fun _ => 0) (fun i i0 i1 => by rw [g0 i i0 (by omega)]; omega), sm_0]
    have e2 : sm 10 (fun c => sm 101 (fun h => rwt X3 c h * (χ c (h + 1) - χ c h))) = 0 := by
      rw [sm_cg (n := 10) (g := fun _ => 0) (fun i i0 i1 => by
        show sm 101 (fun h => rwt X3 i h * (χ i (h + 1) - χ i h)) = 0
        rw [sm_cg (n := 101) (g := fun _ => 0) (fun j j0 j1 => by rw [w0 i j i0 (by omega) j0 (by omega)]; omega), sm_0]), sm_0]
    have e3 : sm 12 (fun r => sm 101 (fun h => rst X3 r h * (hdv M χ w r h - χ (M 25 r) h))) = 0 := by
      rw [sm_cg (n := 12) (g := fun _ => 0) (fun i i0 i1 => by
        show sm 101 (fun h => rst X3 i h * (hdv M χ w i h - χ (M 25 i) h)) = 0
        rw [sm_cg (n := 101) (g := fun _ => 0) (fun j j0 j1 => by rw [s0 i j i0 (by omega) j0 (by omega)]; omega), sm_0]), sm_0]
    rw [e1, e2, e3]
    omega
theorem p_71 {a : Int} (I : Iv M) : Tw d 71 126 [vI a] M := by
  have hL := I.1
  obtain ⟨⟨l51, l52, l53, l54, l55, l56, l57⟩, ⟨l58, l59, l60, l61, l62, l63, l64⟩, ⟨l66, l67, l68⟩, ⟨l69, l70, l71, l72⟩, ⟨n0, n1, n9, n18, n19, n23⟩⟩ := hL
  unfold Tw
  rw [uc 71, en_71]
  by_cases acc : M 5 2 ≤ a ∧ a ≤ 100
  · simp only [bq71_0, bq71_1, s_0, lgI_some, s_3, s_24, s_29, cnP_0, cnP_1, cnP_2, cnP_3, cnP_4, cnP_5, s_37i, s_37z, s_47, lgR_some, s_51, s_53, res_0, res_1, nlg_n, nlg_I, nlg_R, Bool.true_and, Bool.and_self, Bool.and_true, kd_9, kd_10, kd_11, kd_12, kd_13, kd_14, kd_15, kd_16, kd_17, kd_18, kd_19, kd_20, kd_21, kd_22, kd_23, kd_24, kd_25, kd_26, kd_27, kd_28, kd_29, kd_30, kd_31, kd_32, kd_33, kd_34, kd_35, kd_36, kd_37, kd_38, kd_39, kd_40, kd_41, kd_42, kd_43, kd_44, kd_45, kd_46, kd_47, kd_48, kd_49, ln_9, ln_10, ln_11, ln_12, ln_13, ln_14, ln_15, ln_16, ln_17, ln_18, ln_19, ln_20, ln_21, ln_22, ln_23, ln_24, ln_25, ln_26, ln_27, ln_28, ln_29, ln_30, ln_31, ln_32, ln_33, ln_34, ln_35, ln_36, ln_37, ln_38, ln_39, ln_40, ln_41, ln_42, ln_43, ln_44, ln_45, ln_46, ln_47, ln_48, ln_49, lg_0, lg_1, g_0_2, g_0_4, g_0_6, g_5_2, g_7_0, g_8_2, rc_14_7, rc_76, rc_83_0, List.length_cons, List.length_nil, Nat.reduceAdd, Nat.reduceLT, Nat.reduceLeDiff, true_and, and_true, true_or, or_true, Int.reduceEq, Nat.reduceEqDiff, reduceCtorEq, true_implies, false_implies, not_true_eq_false, not_false_eq_true, Nat.zero_le, Int.zero_add, Nat.zero_add, Nat.lt_add_one, eq_self, forall_const, implies_true, Bool.false_eq_true, false_or, or_false, and_self, ne_eq, me_ne, me_self, q_76, b01_z, Classical.not_not, acc.1, acc.2]
    refine c_83 (d := d) I (fun X IX x17 x6 FX x37 x50 _ _ => ?_)
    have e5 : X 5 = M 5 := x37 5 (by decide) (by decide) (by decide) (by decide)
    refine c_14v (d := d) IX x17 (by rw [e5]; exact acc.1) acc.2 (fun Y IY y17 FY fY yh _ _ _ => ?_)
    have y5 : Y 5 = M 5 := by rw [fY 5 (by decide) (by decide), e5]
    have y6 : Y 6 2 ≠ 0 := by rw [fY 6 (by decide) (by decide)]; exact x6
    have hn := IY.2.2.2.2.1.1
    rw [y5] at hn
    have mx := FY.2.2.2.2.2.2.2.2.1 a (by rw [y5]; exact acc.1) yh
    have q0 : Y 50 0 = M 5 2 := by rw [IY.1.2.2.2.2.1, y5]
    simp only [bq71_0, bq71_1, s_0, lgI_some, s_3, s_24, s_29, cnP_0, cnP_1, cnP_2, cnP_3, cnP_4, cnP_5, s_37i, s_37z, s_47, lgR_some, s_51, s_53, res_0, res_1, nlg_n, nlg_I, nlg_R, Bool.true_and, Bool.and_self, Bool.and_true, kd_9, kd_10, kd_11, kd_12, kd_13, kd_14, kd_15, kd_16, kd_17, kd_18, kd_19, kd_20, kd_21, kd_22, kd_23, kd_24, kd_25, kd_26, kd_27, kd_28, kd_29, kd_30, kd_31, kd_32, kd_33, kd_34, kd_35, kd_36, kd_37, kd_38, kd_39, kd_40, kd_41, kd_42, kd_43, kd_44, kd_45, kd_46, kd_47, kd_48, kd_49, ln_9, ln_10, ln_11, ln_12, ln_13, ln_14, ln_15, ln_16, ln_17, ln_18, ln_19, ln_20, ln_21, ln_22, ln_23, ln_24, ln_25, ln_26, ln_27, ln_28, ln_29, ln_30, ln_31, ln_32, ln_33, ln_34, ln_35, ln_36, ln_37, ln_38, ln_39, ln_40, ln_41, ln_42, ln_43, ln_44, ln_45, ln_46, ln_47, ln_48, ln_49, lg_0, lg_1, g_0_2, g_0_4, g_0_6, g_5_2, g_7_0, g_8_2, rc_14_7, rc_76, rc_83_0, List.length_cons, List.length_nil, Nat.reduceAdd, Nat.reduceLT, Nat.reduceLeDiff, true_and, and_true, true_or, or_true, Int.reduceEq, Nat.reduceEqDiff, reduceCtorEq, true_implies, false_implies, not_true_eq_false, not_false_eq_true, Nat.zero_le, Int.zero_add, Nat.zero_add, Nat.lt_add_one, eq_self, forall_const, implies_true, Bool.false_eq_true, false_or, or_false, and_self, ne_eq, me_ne, me_self, show 0 ≤ a by omega, show a < 101 by omega]
    rw [uc 126, en_126]
    simp only [bq126_0, bq126_1, bq126_2, s_0, lgI_some, s_3, s_29, cnP_0, cnP_1, cnP_2, cnP_3, cnP_4, cnP_5, s_31, s_32, s_37i, s_37z, s_47, lgR_some, s_52, s_53, res_0, res_1, nlg_n, nlg_I, nlg_R, Bool.true_and, Bool.and_self, Bool.and_true, lg_0, lg_1, g_50_0, rc_125_50, rc_85, List.length_cons, List.length_nil, Nat.reduceAdd, Nat.reduceLT, Nat.reduceLeDiff, true_and, and_true, true_or, or_true, Int.reduceEq, Nat.reduceEqDiff, reduceCtorEq, true_implies, false_implies, not_true_eq_false, not_false_eq_true, Nat.zero_le, Int.zero_add, Nat.zero_add, Nat.lt_add_one, eq_self, forall_const, implies_true, Bool.false_eq_true, false_or, or_false, and_self, ne_eq, me_ne, me_self, q_85, q0, b01_z, Classical.not_not, acc.1, acc.2]
    refine c_125 (d := d) IY y6 (by rw [y5]; exact acc.1) acc.2 (fun Z v IZ _ _ _ _ mv => ?_)
    exact ⟨Mx_un mx mv, IZ⟩
  · simp only [bq71_0, s_0, lgI_some, s_3, s_24, s_29, cnP_0, cnP_1, cnP_2, cnP_3, cnP_4, cnP_5, s_37i, s_37z, s_47, lgR_some, s_51, s_53, res_0, res_1, nlg_n, nlg_I, nlg_R, Bool.true_and, Bool.and_self, Bool.and_true, kd_9, kd_10, kd_11, kd_12, kd_13, kd_14, kd_15, kd_16, kd_17, kd_18, kd_19, kd_20, kd_21, kd_22, kd_23, kd_24, kd_25, kd_26, kd_27, kd_28, kd_29, kd_30, kd_31, kd_32, kd_33, kd_34, kd_35, kd_36, kd_37, kd_38, kd_39, kd_40, kd_41, kd_42, kd_43, kd_44, kd_45, kd_46, kd_47, kd_48, kd_49, ln_9, ln_10, ln_11, ln_12, ln_13, ln_14, ln_15, ln_16, ln_17, ln_18, ln_19, ln_20, ln_21, ln_22, ln_23, ln_24, ln_25, ln_26, ln_27, ln_28, ln_29, ln_30, ln_31, ln_32, ln_33, ln_34, ln_35, ln_36, ln_37, ln_38, ln_39, ln_40, ln_41, ln_42, ln_43, ln_44, ln_45, ln_46, ln_47, ln_48, ln_49, lg_0, lg_1, g_0_2, g_0_4, g_0_6, g_5_2, g_7_0, g_8_2, rc_14_7, rc_76, rc_83_0, List.length_cons, List.length_nil, Nat.reduceAdd, Nat.reduceLT, Nat.reduceLeDiff, true_and, and_true, true_or, or_true, Int.reduceEq, Nat.reduceEqDiff, reduceCtorEq, true_implies, false_implies, not_true_eq_false, not_false_eq_true, Nat.zero_le, Int.zero_add, Nat.zero_add, Nat.lt_add_one, eq_self, forall_const, implies_true, Bool.false_eq_true, false_or, or_false, and_self, ne_eq, me_ne, me_self, q_76, b01_z, Classical.not_not, acc]
    rw [uc 126, en_126]
    simp only [bq126_0, bq126_1, bq126_2, s_0, lgI_some, s_3, s_29, cnP_0, cnP_1, cnP_2, cnP_3, cnP_4, cnP_5, s_31, s_32, s_37i, s_37z, s_47, lgR_some, s_52, s_53, res_0, res_1, nlg_n, nlg_I, nlg_R, Bool.true_and, Bool.and_self, Bool.and_true, lg_0, lg_1, g_50_0, rc_125_50, rc_85, List.length_cons, List.length_nil, Nat.reduceAdd, Nat.reduceLT, Nat.reduceLeDiff, true_and, and_true, true_or, or_true, Int.reduceEq, Nat.reduceEqDiff, reduceCtorEq, true_implies, false_implies, not_true_eq_false, not_false_eq_true, Nat.zero_le, Int.zero_add, Nat.zero_add, Nat.lt_add_one, eq_self, forall_const, implies_true, Bool.false_eq_true, false_or, or_false, and_self, ne_eq, me_ne, me_self, q_85, n0, b01_z, Classical.not_not, acc, I]
end LV

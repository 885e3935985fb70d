/-! wet, foretold -/
section FO
variable {d : Nat} {M : Me} {Q : Int → Me → Prop}
theorem Fo_iv {X K : Me} (I : Iv M) (F : Fo K M X) : Iv X := by
  obtain ⟨hL, hB, hD, hC, hF, hR, hP, hX⟩ := I
  obtain ⟨a1, a2, a3, a4, a5, a6, a7, a8⟩ := F
  have eW : cw X = cw M := cw_of (fun k q1 _ _ _ _ => a1 k (fun z => by simp at z; omega))
  refine ⟨IvL_fr a1 hL, cw_IB eW hB, cw_ID eW hD, IvC_cg (a1 2 (by decide)) (a1 5 (by decide)) (a1 24 (by decide)) (a1 65 (by decide)) hC, ?_, cw_IR eW hR, IvP_cg (a1 0 (by decide)) (a1 2 (by decide)) (a1 4 (by decide)) (a1 33 (by decide)) (a1 34 (by decide)) hP, IvX_fr (fun k hk => a1 k (fun z => by simp at z; omega)) hX⟩
  obtain ⟨f1, f2, f3, f4, f5, f6, f7, f8, f9⟩ := hF
  unfold IvF st5
  rw [a1 5 (by decide), a1 36 (by decide), a1 37 (by decide), a1 2 (by decide), a4, a5, a6]
  exact ⟨f1, fun c c0 c1 => by rw [a2 c c0 c1]; exact f2 c c0 c1, fun c c0 c1 => by rw [a3 c c0 c1]; exact f3 c c0 c1, f4, f5, f6, a7, f8, f9⟩
/-- the reference foretells, and nothing is lost -/
theorem c_tell (I : Iv M) (H : ∀ X, Iv X → Fo M M X → Q 0 X) : Cl (d + 4) 108 [vR 50] M Q :=
  c_108 (fun _ _ => rfl) I.1 I.2.1 I.2.2.1 (fun k h a b c e => (I.2.2.2.1 k h a b c e).2.1) I.2.2.2.2.1 (fun X F => H X (Fo_iv I F) F)
/-- the class foresees -/
theorem c_see (I : Iv M) (H : ∀ X, Iv X → X 6 2 ≠ 0 → (∀ k, k ∉ [38, 48, 49, 8, 6] → X k = M k) → Q 0 X) : Cl (d + 4) 44 [vR 6, vR 1, vR 2, vR 5] M Q := by
  have I0 := I
  obtain ⟨hL, hB, hD, hC, hF, hR, hP, hX⟩ := I0
  by_cases f : M 6 2 = 0
  · obtain ⟨f1, f2, f3, f4, f5, f6, f7, f8, f9⟩ := hF
    refine c_44 hB hD f1.1 f1.2 (by rw [f5]; exact w32_32 _) (by rw [f6]; exact w32_32 _) f ?_
    intro X x1 x2 x3
    have a1 : ∀ k, k ∉ [38, 48, 49, 8, 6] → X k = M k := fun k q => by
      simp at q; exact x1 k q.1 q.2.1 q.2.2.1 q.2.2.2.1 q.2.2.2.2
    have eW : cw X = cw M := cw_of (fun k q1 q2 q3 q4 q5 => a1 k (fun z => by simp at z; omega))
    have x7 : X 7 17 = 0 := by
      rw [a1 7 (by decide)]
      apply Classical.byContradiction
      intro q
      exact (hX.2 q).1 f
    have e3 : fw X = fw M := fw_cg (cw_ag eW) (a1 36 (by decide)) (a1 37 (by decide)) (a1 5 (by decide))
    refine H X ⟨?_, cw_IB eW hB, cw_ID eW hD, IvC_cg (a1 2 (by decide)) (a1 5 (by decide)) (a1 24 (by decide)) (a1 65 (by decide)) hC, IvF_cg (a1 2 (by decide)) (a1 5 (by decide)) (a1 36 (by decide)) (a1 37 (by decide)) (a1 73 (by decide)) (a1 74 (by decide)) (a1 75 (by decide)) (a1 76 (by decide)) (a1 77 (by decide)) ⟨f1, f2, f3, f4, f5, f6, f7, f8, f9⟩, cw_IR eW hR, IvP_cg (a1 0 (by decide)) (a1 2 (by decide)) (a1 4 (by decide)) (a1 33 (by decide)) (a1 34 (by decide)) hP, fun _ => ?_, fun q => (q x7).elim⟩ (by rw [x2]; decide) a1
    · unfold IvL at *
      rw [a1 51 (by decide), a1 52 (by decide), a1 53 (by decide), a1 54 (by decide), a1 55 (by decide), a1 56 (by decide), a1 57 (by decide), a1 58 (by decide), a1 59 (by decide), a1 60 (by decide), a1 61 (by decide), a1 62 (by decide), a1 63 (by decide), a1 64 (by decide), a1 66 (by decide), a1 67 (by decide), a1 68 (by decide), a1 69 (by decide), a1 70 (by decide), a1 71 (by decide), a1 72 (by decide), a1 50 (by decide), a1 0 (by decide), a1 1 (by decide), a1 2 (by decide), a1 3 (by decide), a1 4 (by decide), a1 5 (by decide), a1 9 (by decide), a1 10 (by decide), a1 11 (by decide), a1 12 (by decide), a1 13 (by decide), a1 14 (by decide), a1 16 (by decide), a1 17 (by decide), a1 18 (by decide), a1 19 (by decide), a1 20 (by decide), a1 21 (by decide), a1 22 (by decide), a1 23 (by decide), a1 33 (by decide), a1 34 (by decide), a1 35 (by decide), a1 25 (by decide), a1 26 (by decide), a1 27 (by decide), a1 28 (by decide)]
      exact hL
    · intro h c h0 h1 c0 c1
      rw [a1 5 (by decide)] at h0
      rw [e3]
      exact x3 h c h0 h1 c0 c1
  · exact c_44f f (H M I f (fun _ _ => rfl))
theorem ix10h {c h : Int} (c0 : 0 ≤ c) (c1 : c < 10) (h0 : 0 ≤ h) (h1 : h ≤ 100) : w32 (w32 (h * 10) + c) = h * 10 + c := by
  rw [w32_id (x := h * 10) (by omega) (by omega), w32_id (by omega) (by omega)]
theorem q_45 {c h : Int} (c0 : 0 ≤ c) (c1 : c < 10) (h0 : 0 ≤ h) (h1 : h ≤ 100) : Cl d 45 [vR 6, vI c, vI h] M Q = Q (M 38 (h * 10 + c)) M := by
  unfold Cl
  rw [en_45]
  simp only [bq45_0, s_0, lgI_some, s_3, s_6, s_8, s_24, s_37i, s_37z, s_47, lgR_some, kd_9, kd_10, kd_11, kd_12, kd_13, kd_14, kd_15, kd_16, kd_17, kd_18, kd_19, kd_20, kd_21, kd_22, kd_23, kd_24, kd_25, kd_26, kd_27, kd_28, kd_29, kd_30, kd_31, kd_32, kd_33, kd_34, kd_35, kd_36, kd_37, kd_38, kd_39, kd_40, kd_41, kd_42, kd_43, kd_44, kd_45, kd_46, kd_47, kd_48, kd_49, ln_9, ln_10, ln_11, ln_12, ln_13, ln_14, ln_15, ln_16, ln_17, ln_18, ln_19, ln_20, ln_21, ln_22, ln_23, ln_24, ln_25, ln_26, ln_27, ln_28, ln_29, ln_30, ln_31, ln_32, ln_33, ln_34, ln_35, ln_36, ln_37, ln_38, ln_39, ln_40, ln_41, ln_42, ln_43, ln_44, ln_45, ln_46, ln_47, ln_48, ln_49, lg_0, lg_1, lg_2, g_6_1, List.length_cons, List.length_nil, Nat.reduceAdd, Nat.reduceLT, Nat.reduceLeDiff, true_and, and_true, true_or, or_true, Int.reduceEq, Nat.reduceEqDiff, reduceCtorEq, true_implies, false_implies, not_true_eq_false, not_false_eq_true, Nat.zero_le, Int.zero_add, Nat.zero_add, Nat.lt_add_one, eq_self, forall_const, implies_true, Bool.false_eq_true, false_or, or_false, and_self, ne_eq, me_ne, me_self, ix10h c0 c1 h0 h1, eq_true (show 0 ≤ h * 10 + c by omega), eq_true (show h * 10 + c < 1010 by omega)]
theorem q_46 {c h : Int} (c0 : 0 ≤ c) (c1 : c < 10) (h0 : 0 ≤ h) (h1 : h ≤ 100) : Cl (d + 1) 46 [vR 6, vR 1, vI c, vI h] M Q = Q (b01 (M 10 c ≤ M 38 (h * 10 + c))) M := by
  unfold Cl
  rw [en_46]
  simp only [bq46_0, bq46_1, bq46_2, s_0, lgI_some, s_3, s_24, s_30, cnP_0, cnP_1, cnP_2, cnP_3, cnP_4, cnP_5, s_31, s_32, s_37i, s_37z, s_47, lgR_some, s_53, res_0, res_1, nlg_n, nlg_I, nlg_R, Bool.true_and, Bool.and_self, Bool.and_true, kd_9, kd_10, kd_11, kd_12, kd_13, kd_14, kd_15, kd_16, kd_17, kd_18, kd_19, kd_20, kd_21, kd_22, kd_23, kd_24, kd_25, kd_26, kd_27, kd_28, kd_29, kd_30, kd_31, kd_32, kd_33, kd_34, kd_35, kd_36, kd_37, kd_38, kd_39, kd_40, kd_41, kd_42, kd_43, kd_44, kd_45, kd_46, kd_47, kd_48, kd_49, ln_9, ln_10, ln_11, ln_12, ln_13, ln_14, ln_15, ln_16, ln_17, ln_18, ln_19, ln_20, ln_21, ln_22, ln_23, ln_24, ln_25, ln_26, ln_27, ln_28, ln_29, ln_30, ln_31, ln_32, ln_33, ln_34, ln_35, ln_36, ln_37, ln_38, ln_39, ln_40, ln_41, ln_42, ln_43, ln_44, ln_45, ln_46, ln_47, ln_48, ln_49, lg_0, lg_1, lg_2, lg_3, g_1_1, rc_45_6, List.length_cons, List.length_nil, Nat.reduceAdd, Nat.reduceLT, Nat.reduceLeDiff, true_and, and_true, true_or, or_true, Int.reduceEq, Nat.reduceEqDiff, reduceCtorEq, true_implies, false_implies, not_true_eq_false, not_false_eq_true, Nat.zero_le, Int.zero_add, Nat.zero_add, Nat.lt_add_one, eq_self, forall_const, implies_true, Bool.false_eq_true, false_or, or_false, and_self, ne_eq, me_ne, me_self, q_45 c0 c1 h0 h1, c0, c1]
  simp only [bb1 Q, bb2 Q, bb3 Q, bb4 Q]
  exact bb5 Q (by omega)
theorem q_109 {c h : Int} (c0 : 0 ≤ c) (c1 : c < 10) (h0 : 0 ≤ h) (h1 : h ≤ 100) : Cl d 109 [vR 50, vI c, vI h] M Q = Q (b01 (M 52 c ≤ M 78 (101 * c + h))) M := by
  unfold Cl
  rw [en_109]
  simp only [bq109_0, bq109_1, bq109_2, s_0, lgI_some, s_3, s_6, s_8, s_24, s_30, cnP_0, cnP_1, cnP_2, cnP_3, cnP_4, cnP_5, s_31, s_32, s_37i, s_37z, s_47, lgR_some, kd_51, kd_52, kd_53, kd_54, kd_55, kd_56, kd_57, kd_58, kd_59, kd_60, kd_61, kd_62, kd_63, kd_64, kd_65, kd_66, kd_67, kd_68, kd_69, kd_70, kd_71, kd_72, kd_73, kd_74, kd_75, kd_76, kd_77, kd_78, kd_79, kd_80, kd_81, kd_82, kd_83, kd_84, kd_85, ln_51, ln_52, ln_53, ln_54, ln_55, ln_56, ln_57, ln_58, ln_59, ln_60, ln_61, ln_62, ln_63, ln_64, ln_65, ln_66, ln_67, ln_68, ln_69, ln_70, ln_71, ln_72, ln_73, ln_74, ln_75, ln_76, ln_77, ln_78, ln_79, ln_80, ln_81, ln_82, ln_83, ln_84, ln_85, lg_0, lg_1, lg_2, g_50_3, g_50_33, List.length_cons, List.length_nil, Nat.reduceAdd, Nat.reduceLT, Nat.reduceLeDiff, true_and, and_true, true_or, or_true, Int.reduceEq, Nat.reduceEqDiff, reduceCtorEq, true_implies, false_implies, not_true_eq_false, not_false_eq_true, Nat.zero_le, Int.zero_add, Nat.zero_add, Nat.lt_add_one, eq_self, forall_const, implies_true, Bool.false_eq_true, false_or, or_false, and_self, ne_eq, me_ne, me_self, ix101 c0 (show c < 12 by omega) h0 h1, eq_true (show 0 ≤ 101 * c + h by omega), eq_true (show 101 * c + h < 1010 by omega), c0, c1]
  simp only [bb1 Q, bb2 Q, bb3 Q, bb4 Q]
  exact bb5 Q (by omega)
/-- the first hour with enough -/
def fx (f : Int → Int) (a : Int) : Nat → Int → Int
  | 0, _ => -1
  | n + 1, h => if a ≤ f h then h else fx f a n (h + 1)
theorem fx_cg {f g : Int → Int} {a : Int} : ∀ (n : Nat) (h : Int), (∀ i, h ≤ i → i < h + n → f i = g i) → fx f a n h = fx g a n h := by
  intro n
  induction n with
  | zero => intro h _; rfl
  | succ n ih =>
    intro h q
    simp only [fx]
    rw [q h (by omega) (by omega), ih (h + 1) (fun i h1 h2 => q i (by omega) (by omega))]
theorem c_47 {c h : Int} (c0 : 0 ≤ c) (c1 : c < 10) (h0 : 0 ≤ h) (h1 : h ≤ 100) (H : Q (fx (fun h => M 38 (h * 10 + c)) (M 10 c) (101 - h).toNat h) M) : Cl (d + 2) 47 [vR 6, vR 1, vI c, vI h] M Q := by
  have lp : ∀ (n : Nat) (i : Int), 0 ≤ i → i + (n : Int) = 101 → Q (fx (fun h => M 38 (h * 10 + c)) (M 10 c) n i) M → Rn (d + 2) (blk 47 1) 47 [some (vR 6), some (vR 1), some (vI c), some (vI h), some (vI i)] [] M Q := by
    intro n
    induction n with
    | zero =>
      intro i i0 i1 H
      rw [bq47_1]
      simp only [bq47_2, bq47_3, s_0, lgI_some, s_3, s_5K, s_29, cnP_0, cnP_1, cnP_2, cnP_3, cnP_4, cnP_5, s_30, s_31, s_37i, s_37z, s_47, lgR_some, s_54, res_0, res_1, nlg_n, nlg_I, nlg_R, Bool.true_and, Bool.and_self, Bool.and_true, lg_0, lg_1, lg_2, lg_3, lg_4, lz_0, lz_1, lz_2, lz_3, lz_4, lp_0, lp_1, lp_2, lp_3, lp_4, isL_n, isL_I, isL_R, rc_46_6, List.length_cons, List.length_nil, Nat.reduceAdd, Nat.reduceLT, Nat.reduceLeDiff, true_and, and_true, true_or, or_true, Int.reduceEq, Nat.reduceEqDiff, reduceCtorEq, true_implies, false_implies, not_true_eq_false, not_false_eq_true, Nat.zero_le, Int.zero_add, Nat.zero_add, Nat.lt_add_one, eq_self, forall_const, implies_true, Bool.false_eq_true, false_or, or_false, and_self, ne_eq, me_ne, me_self, show 100 < i by omega]
      exact H
    | succ n ih =>
      intro i i0 i1 H
      rw [bq47_1]
      simp only [bq47_2, bq47_3, s_0, lgI_some, s_3, s_5K, s_29, cnP_0, cnP_1, cnP_2, cnP_3, cnP_4, cnP_5, s_30, s_31, s_37i, s_37z, s_47, lgR_some, s_54, res_0, res_1, nlg_n, nlg_I, nlg_R, Bool.true_and, Bool.and_self, Bool.and_true, lg_0, lg_1, lg_2, lg_3, lg_4, lz_0, lz_1, lz_2, lz_3, lz_4, lp_0, lp_1, lp_2, lp_3, lp_4, isL_n, isL_I, isL_R, rc_46_6, List.length_cons, List.length_nil, Nat.reduceAdd, Nat.reduceLT, Nat.reduceLeDiff, true_and, and_true, true_or, or_true, Int.reduceEq, Nat.reduceEqDiff, reduceCtorEq, true_implies, false_implies, not_true_eq_false, not_false_eq_true, Nat.zero_le, Int.zero_add, Nat.zero_add, Nat.lt_add_one, eq_self, forall_const, implies_true, Bool.false_eq_true, false_or, or_false, and_self, ne_eq, me_ne, me_self, q_46 c0 c1 i0 (show i ≤ 100 by omega), b01_z, Classical.not_not, show ¬ 100 < i by omega, show w32 (i + 1) = i + 1 from w32_id (by omega) (by omega)]
      simp only [fx] at H
      refine ⟨fun q => ?_, fun q => ?_⟩
      · rw [if_neg q] at H
        exact ih _ (by omega) (by omega) H
      · rwa [if_pos q] at H
  unfold Cl
  rw [en_47]
  simp only [bq47_0, s_0, lgI_some, s_1I, s_3, s_29, cnP_0, cnP_1, cnP_2, cnP_3, cnP_4, cnP_5, s_30, s_32, s_37i, s_37z, s_47, lgR_some, s_54, res_0, res_1, nlg_n, nlg_I, nlg_R, Bool.true_and, Bool.and_self, Bool.and_true, lg_0, lg_1, lg_2, lg_3, lg_4, lz_0, lz_1, lz_2, lz_3, lz_4, lp_0, lp_1, lp_2, lp_3, lp_4, isL_n, isL_I, isL_R, rc_46_6, List.length_cons, List.length_nil, Nat.reduceAdd, Nat.reduceLT, Nat.reduceLeDiff, true_and, and_true, true_or, or_true, Int.reduceEq, Nat.reduceEqDiff, reduceCtorEq, true_implies, false_implies, not_true_eq_false, not_false_eq_true, Nat.zero_le, Int.zero_add, Nat.zero_add, Nat.lt_add_one, eq_self, forall_const, implies_true, Bool.false_eq_true, false_or, or_false, and_self, ne_eq, me_ne, me_self]
  exact lp _ _ h0 (by omega) H
theorem p_67 {a : Int} (I : Iv M) : Tw d 67 114 [vI a] M := by
  have I0 := I
  obtain ⟨hL, hB, hD, hC, hF, hR, hP, hX⟩ := I0
  obtain ⟨⟨l51, l52, l53, l54, l55, l56, l57⟩, ⟨l58, l59, l60, l61, l62, l63, l64⟩, ⟨l66, l67, l68⟩, ⟨l69, l70, l71, l72⟩, ⟨n0, n1, n9, n18, n19, n23⟩⟩ := hL
  have hb1 := hB.1
  have hf1 := hF.1
  unfold Tw
  rw [uc 67, en_67]
  have e2 : ∀ {X : Me} {Q} {d} {x}, X 50 1 = M 1 8 → X 51 = M 9 → Cl (d + 2) 87 [vR 50, vI x] X Q = Q (b01 (0 ≤ x ∧ x < M 1 8 ∧ M 9 x ≠ 0)) X := by
    intro X Q d x h1 h2
    rw [q_87 (by omega) (by omega), h1, h2]
  by_cases acc : 0 ≤ a ∧ a < M 1 8 ∧ ¬ M 9 a = 0
  · simp only [bq67_0, bq67_1, s_0, lgI_some, s_3, s_29, cnP_0, cnP_1, cnP_2, cnP_3, cnP_4, cnP_5, s_37i, s_37z, s_47, lgR_some, s_52, s_54, res_0, res_1, nlg_n, nlg_I, nlg_R, Bool.true_and, Bool.and_self, Bool.and_true, lg_0, lg_1, g_0_0, g_0_1, g_0_4, g_0_5, g_5_2, g_8_2, rc_2_1, rc_44_6, rc_47_6, List.length_cons, List.length_nil, Nat.reduceAdd, Nat.reduceLT, Nat.reduceLeDiff, true_and, and_true, true_or, or_true, Int.reduceEq, Nat.reduceEqDiff, reduceCtorEq, true_implies, false_implies, not_true_eq_false, not_false_eq_true, Nat.zero_le, Int.zero_add, Nat.zero_add, Nat.lt_add_one, eq_self, forall_const, implies_true, Bool.false_eq_true, false_or, or_false, and_self, ne_eq, me_ne, me_self, q_2 hb1.2, b01_z, Classical.not_not, acc.1, acc.2.1, acc.2.2]
    refine c_see I (fun X IX x6 x1 => ?_)
    simp only [bq67_0, bq67_1, s_0, lgI_some, s_3, s_29, cnP_0, cnP_1, cnP_2, cnP_3, cnP_4, cnP_5, s_37i, s_37z, s_47, lgR_some, s_52, s_54, res_0, res_1, nlg_n, nlg_I, nlg_R, Bool.true_and, Bool.and_self, Bool.and_true, lg_0, lg_1, g_0_0, g_0_1, g_0_4, g_0_5, g_5_2, g_8_2, rc_2_1, rc_44_6, rc_47_6, List.length_cons, List.length_nil, Nat.reduceAdd, Nat.reduceLT, Nat.reduceLeDiff, true_and, and_true, true_or, or_true, Int.reduceEq, Nat.reduceEqDiff, reduceCtorEq, true_implies, false_implies, not_true_eq_false, not_false_eq_true, Nat.zero_le, Int.zero_add, Nat.zero_add, Nat.lt_add_one, eq_self, forall_const, implies_true, Bool.false_eq_true, false_or, or_false, and_self, ne_eq, me_ne, me_self, x1 5 (by decide)]
    refine c_47 acc.1 (by omega) hf1.1 hf1.2 ?_
    rw [uc 114, en_114]
    simp only [bq114_0, bq114_1, s_0, lgI_some, s_1I, s_3, s_29, cnP_0, cnP_1, cnP_2, cnP_3, cnP_4, cnP_5, s_30, s_32, s_37i, s_37z, s_47, lgR_some, s_51, s_52, s_53, res_0, res_1, nlg_n, nlg_I, nlg_R, Bool.true_and, Bool.and_self, Bool.and_true, lg_0, lg_1, lg_2, lz_0, lz_1, lz_2, lp_0, lp_1, lp_2, isL_n, isL_I, isL_R, g_50_0, rc_108_50, rc_109_50, rc_87_50, List.length_cons, List.length_nil, Nat.reduceAdd, Nat.reduceLT, Nat.reduceLeDiff, true_and, and_true, true_or, or_true, Int.reduceEq, Nat.reduceEqDiff, reduceCtorEq, true_implies, false_implies, not_true_eq_false, not_false_eq_true, Nat.zero_le, Int.zero_add, Nat.zero_add, Nat.lt_add_one, eq_self, forall_const, implies_true, Bool.false_eq_true, false_or, or_false, and_self, ne_eq, me_ne, me_self, e2 (show X 50 1 = M 1 8 by rw [x1 50 (by decide)]; exact n1) (show X 51 = M 9 by rw [x1 51 (by decide)]; exact l51), b01_z, Classical.not_not, acc.1, acc.2.1, acc.2.2]
    refine c_tell IX (fun Y IY FY => ?_)
    have y5 : Y 50 0 = M 5 2 := by rw [FY.1 50 (by decide), x1 50 (by decide)]; exact n0
    have y10 : Y 52 a = X 10 a := by rw [FY.1 52 (by decide), x1 52 (by decide), x1 10 (by decide), l52]
    have x5 : X 5 = M 5 := x1 5 (by decide)
    have x18 : X 1 = M 1 := x1 1 (by decide)
    have key : ∀ (n : Nat) (i : Int), M 5 2 ≤ i → i + (n : Int) = 101 → Rn (d + 6) (blk 114 2) 114 [some (vR 50), some (vI a), some (vI i)] [] Y (fun v' M2 => fx (fun h => X 38 (h * 10 + a)) (X 10 a) n i = v' ∧ Iv M2) := by
      intro n
      induction n with
      | zero =>
        intro i i0 i1
        rw [bq114_2]
        simp only [bq114_3, bq114_4, s_0, lgI_some, s_3, s_5K, s_29, cnP_0, cnP_1, cnP_2, cnP_3, cnP_4, cnP_5, s_30, s_31, s_37i, s_37z, s_47, lgR_some, s_53, res_0, res_1, nlg_n, nlg_I, nlg_R, Bool.true_and, Bool.and_self, Bool.and_true, lg_0, lg_1, lg_2, lz_0, lz_1, lz_2, lp_0, lp_1, lp_2, isL_n, isL_I, isL_R, rc_109_50, List.length_cons, List.length_nil, Nat.reduceAdd, Nat.reduceLT, Nat.reduceLeDiff, true_and, and_true, true_or, or_true, Int.reduceEq, Nat.reduceEqDiff, reduceCtorEq, true_implies, false_implies, not_true_eq_false, not_false_eq_true, Nat.zero_le, Int.zero_add, Nat.zero_add, Nat.lt_add_one, eq_self, forall_const, implies_true, Bool.false_eq_true, false_or, or_false, and_self, ne_eq, me_ne, me_self, show 100 < i by omega]
        exact ⟨rfl, IY⟩
      | succ n ih =>
        intro i i0 i1
        have e1 := IX.2.2.2.2.2.2.2.1 x6 i a (by rw [x5]; exact i0) (by omega) acc.1 (by omega)
        have e3 := FY.2.2.2.2.2.2.2 i a (by rw [x5]; exact i0) (by omega) acc.1 (by rw [x18]; exact acc.2.1)
        rw [bq114_2]
        simp only [bq114_3, bq114_4, s_0, lgI_some, s_3, s_5K, s_29, cnP_0, cnP_1, cnP_2, cnP_3, cnP_4, cnP_5, s_30, s_31, s_37i, s_37z, s_47, lgR_some, s_53, res_0, res_1, nlg_n, nlg_I, nlg_R, Bool.true_and, Bool.and_self, Bool.and_true, lg_0, lg_1, lg_2, lz_0, lz_1, lz_2, lp_0, lp_1, lp_2, isL_n, isL_I, isL_R, rc_109_50, List.length_cons, List.length_nil, Nat.reduceAdd, Nat.reduceLT, Nat.reduceLeDiff, true_and, and_true, true_or, or_true, Int.reduceEq, Nat.reduceEqDiff, reduceCtorEq, true_implies, false_implies, not_true_eq_false, not_false_eq_true, Nat.zero_le, Int.zero_add, Nat.zero_add, Nat.lt_add_one, eq_self, forall_const, implies_true, Bool.false_eq_true, false_or, or_false, and_self, ne_eq, me_ne, me_self, q_109 acc.1 (show a < 10 by omega) (show 0 ≤ i by omega) (show i ≤ 100 by omega), b01_z, Classical.not_not, show ¬ 100 < i by omega, show w32 (i + 1) = i + 1 from w32_id (by omega) (by omega)]
        rw [y10, e3, ← e1]
        simp only [fx]
        refine ⟨fun q => ?_, fun q => ?_⟩
        · rw [if_neg q]; exact ih _ (by omega) (by omega)
        · rw [if_pos q]; exact ⟨rfl, IY⟩
    rw [y5]
    exact key _ _ (Int.le_refl _) (by omega)
  · simp only [bq67_0, s_0, lgI_some, s_3, s_29, cnP_0, cnP_1, cnP_2, cnP_3, cnP_4, cnP_5, s_37i, s_37z, s_47, lgR_some, s_52, s_54, res_0, res_1, nlg_n, nlg_I, nlg_R, Bool.true_and, Bool.and_self, Bool.and_true, lg_0, lg_1, g_0_0, g_0_1, g_0_4, g_0_5, g_5_2, g_8_2, rc_2_1, rc_44_6, rc_47_6, List.length_cons, List.length_nil, Nat.reduceAdd, Nat.reduceLT, Nat.reduceLeDiff, true_and, and_true, true_or, or_true, Int.reduceEq, Nat.reduceEqDiff, reduceCtorEq, true_implies, false_implies, not_true_eq_false, not_false_eq_true, Nat.zero_le, Int.zero_add, Nat.zero_add, Nat.lt_add_one, eq_self, forall_const, implies_true, Bool.false_eq_true, false_or, or_false, and_self, ne_eq, me_ne, me_self, q_2 hb1.2, b01_z, Classical.not_not, acc]
    rw [uc 114, en_114]
    simp only [bq114_0, s_0, lgI_some, s_1I, s_3, s_29, cnP_0, cnP_1, cnP_2, cnP_3, cnP_4, cnP_5, s_32, s_37i, s_37z, s_47, lgR_some, s_51, s_52, res_0, res_1, nlg_n, nlg_I, nlg_R, Bool.true_and, Bool.and_self, Bool.and_true, lg_0, lg_1, lg_2, lz_0, lz_1, lz_2, lp_0, lp_1, lp_2, isL_n, isL_I, isL_R, g_50_0, rc_108_50, rc_87_50, List.length_cons, List.length_nil, Nat.reduceAdd, Nat.reduceLT, Nat.reduceLeDiff, true_and, and_true, true_or, or_true, Int.reduceEq, Nat.reduceEqDiff, reduceCtorEq, true_implies, false_implies, not_true_eq_false, not_false_eq_true, Nat.zero_le, Int.zero_add, Nat.zero_add, Nat.lt_add_one, eq_self, forall_const, implies_true, Bool.false_eq_true, false_or, or_false, and_self, ne_eq, me_ne, me_self, e2 n1 l51, b01_z, Classical.not_not, acc, I]
theorem p_68 {a b : Int} (I : Iv M) : Tw d 68 115 [vI a, vI b] M := by
  have I0 := I
  obtain ⟨hL, hB, hD, hC, hF, hR, hP, hX⟩ := I0
  obtain ⟨⟨l51, l52, l53, l54, l55, l56, l57⟩, ⟨l58, l59, l60, l61, l62, l63, l64⟩, ⟨l66, l67, l68⟩, ⟨l69, l70, l71, l72⟩, ⟨n0, n1, n9, n18, n19, n23⟩⟩ := hL
  have hb1 := hB.1
  have hf1 := hF.1
  unfold Tw
  rw [uc 68, en_68]
  have e2 : ∀ {X : Me} {Q} {d} {x}, X 50 1 = M 1 8 → Cl (d + 1) 86 [vR 50, vI x] X Q = Q (b01 (0 ≤ x ∧ x < M 1 8)) X := by
    intro X Q d x h1
    rw [q_86 (by omega) (by omega), h1]
  by_cases acc : (0 ≤ a ∧ a < M 1 8) ∧ (M 5 2 ≤ b ∧ b ≤ 100)
  · simp only [bq68_0, bq68_1, bq68_2, s_0, lgI_some, s_3, s_29, cnP_0, cnP_1, cnP_2, cnP_3, cnP_4, cnP_5, s_32, s_37i, s_37z, s_47, lgR_some, s_52, s_53, s_54, res_0, res_1, nlg_n, nlg_I, nlg_R, Bool.true_and, Bool.and_self, Bool.and_true, lg_0, lg_1, lg_2, g_0_0, g_0_1, g_0_4, g_0_5, g_5_2, g_8_2, rc_1_1, rc_44_6, rc_45_6, rc_76, List.length_cons, List.length_nil, Nat.reduceAdd, Nat.reduceLT, Nat.reduceLeDiff, true_and, and_true, true_or, or_true, Int.reduceEq, Nat.reduceEqDiff, reduceCtorEq, true_implies, false_implies, not_true_eq_false, not_false_eq_true, Nat.zero_le, Int.zero_add, Nat.zero_add, Nat.lt_add_one, eq_self, forall_const, implies_true, Bool.false_eq_true, false_or, or_false, and_self, ne_eq, me_ne, me_self, q_1, q_76, b01_z, Classical.not_not, acc.1.1, acc.1.2, acc.2.1, acc.2.2]
    refine c_see I (fun X IX x6 x1 => ?_)
    have x5 : X 5 = M 5 := x1 5 (by decide)
    have x18 : X 1 = M 1 := x1 1 (by decide)
    simp only [bq68_0, bq68_1, bq68_2, s_0, lgI_some, s_3, s_29, cnP_0, cnP_1, cnP_2, cnP_3, cnP_4, cnP_5, s_32, s_37i, s_37z, s_47, lgR_some, s_52, s_53, s_54, res_0, res_1, nlg_n, nlg_I, nlg_R, Bool.true_and, Bool.and_self, Bool.and_true, lg_0, lg_1, lg_2, g_0_0, g_0_1, g_0_4, g_0_5, g_5_2, g_8_2, rc_1_1, rc_44_6, rc_45_6, rc_76, List.length_cons, List.length_nil, Nat.reduceAdd, Nat.reduceLT, Nat.reduceLeDiff, true_and, and_true, true_or, or_true, Int.reduceEq, Nat.reduceEqDiff, reduceCtorEq, true_implies, false_implies, not_true_eq_false, not_false_eq_true, Nat.zero_le, Int.zero_add, Nat.zero_add, Nat.lt_add_one, eq_self, forall_const, implies_true, Bool.false_eq_true, false_or, or_false, and_self, ne_eq, me_ne, me_self, q_45 acc.1.1 (show a < 10 by omega) (show 0 ≤ b by omega) acc.2.2]
    rw [uc 115, en_115]
    simp only [bq115_0, bq115_1, bq115_2, s_0, lgI_some, s_3, s_6, s_8, s_24, s_29, cnP_0, cnP_1, cnP_2, cnP_3, cnP_4, cnP_5, s_32, s_37i, s_37z, s_47, lgR_some, s_51, s_52, s_53, res_0, res_1, nlg_n, nlg_I, nlg_R, Bool.true_and, Bool.and_self, Bool.and_true, kd_51, kd_52, kd_53, kd_54, kd_55, kd_56, kd_57, kd_58, kd_59, kd_60, kd_61, kd_62, kd_63, kd_64, kd_65, kd_66, kd_67, kd_68, kd_69, kd_70, kd_71, kd_72, kd_73, kd_74, kd_75, kd_76, kd_77, kd_78, kd_79, kd_80, kd_81, kd_82, kd_83, kd_84, kd_85, ln_51, ln_52, ln_53, ln_54, ln_55, ln_56, ln_57, ln_58, ln_59, ln_60, ln_61, ln_62, ln_63, ln_64, ln_65, ln_66, ln_67, ln_68, ln_69, ln_70, ln_71, ln_72, ln_73, ln_74, ln_75, ln_76, ln_77, ln_78, ln_79, ln_80, ln_81, ln_82, ln_83, ln_84, ln_85, lg_0, lg_1, lg_2, g_50_0, g_50_33, rc_108_50, rc_85, rc_86_50, List.length_cons, List.length_nil, Nat.reduceAdd, Nat.reduceLT, Nat.reduceLeDiff, true_and, and_true, true_or, or_true, Int.reduceEq, Nat.reduceEqDiff, reduceCtorEq, true_implies, false_implies, not_true_eq_false, not_false_eq_true, Nat.zero_le, Int.zero_add, Nat.zero_add, Nat.lt_add_one, eq_self, forall_const, implies_true, Bool.false_eq_true, false_or, or_false, and_self, ne_eq, me_ne, me_self, e2 (show X 50 1 = M 1 8 by rw [x1 50 (by decide)]; exact n1), show X 50 0 = M 5 2 by rw [x1 50 (by decide)]; exact n0, q_85, b01_z, Classical.not_not, acc.1.1, acc.1.2, acc.2.1, acc.2.2]
    refine c_tell IX (fun Y IY FY => ?_)
    simp only [bq115_0, bq115_1, bq115_2, s_0, lgI_some, s_3, s_6, s_8, s_24, s_29, cnP_0, cnP_1, cnP_2, cnP_3, cnP_4, cnP_5, s_32, s_37i, s_37z, s_47, lgR_some, s_51, s_52, s_53, res_0, res_1, nlg_n, nlg_I, nlg_R, Bool.true_and, Bool.and_self, Bool.and_true, kd_51, kd_52, kd_53, kd_54, kd_55, kd_56, kd_57, kd_58, kd_59, kd_60, kd_61, kd_62, kd_63, kd_64, kd_65, kd_66, kd_67, kd_68, kd_69, kd_70, kd_71, kd_72, kd_73, kd_74, kd_75, kd_76, kd_77, kd_78, kd_79, kd_80, kd_81, kd_82, kd_83, kd_84, kd_85, ln_51, ln_52, ln_53, ln_54, ln_55, ln_56, ln_57, ln_58, ln_59, ln_60, ln_61, ln_62, ln_63, ln_64, ln_65, ln_66, ln_67, ln_68, ln_69, ln_70, ln_71, ln_72, ln_73, ln_74, ln_75, ln_76, ln_77, ln_78, ln_79, ln_80, ln_81, ln_82, ln_83, ln_84, ln_85, lg_0, lg_1, lg_2, g_50_0, g_50_33, rc_108_50, rc_85, rc_86_50, List.length_cons, List.length_nil, Nat.reduceAdd, Nat.reduceLT, Nat.reduceLeDiff, true_and, and_true, true_or, or_true, Int.reduceEq, Nat.reduceEqDiff, reduceCtorEq, true_implies, false_implies, not_true_eq_false, not_false_eq_true, Nat.zero_le, Int.zero_add, Nat.zero_add, Nat.lt_add_one, eq_self, forall_const, implies_true, Bool.false_eq_true, false_or, or_false, and_self, ne_eq, me_ne, me_self, ix101 acc.1.1 (show a < 12 by omega) (show 0 ≤ b by omega) acc.2.2]
    have e1 := IX.2.2.2.2.2.2.2.1 x6 b a (by rw [x5]; exact acc.2.1) (by omega) acc.1.1 (by omega)
    have e3 := FY.2.2.2.2.2.2.2 b a (by rw [x5]; exact acc.2.1) (by omega) acc.1.1 (by rw [x18]; exact acc.1.2)
    exact ⟨by omega, by rw [e1, e3], IY⟩
  · have hr : Cl (d + 6) 115 [vR 50, vI a, vI b] M (fun v' M2 => -1 = v' ∧ Iv M2) := by
      rw [uc 115, en_115]
      simp only [bq115_0, bq115_1, s_0, lgI_some, s_3, s_6, s_8, s_24, s_29, cnP_0, cnP_1, cnP_2, cnP_3, cnP_4, cnP_5, s_32, s_37i, s_37z, s_47, lgR_some, s_51, s_52, s_53, res_0, res_1, nlg_n, nlg_I, nlg_R, Bool.true_and, Bool.and_self, Bool.and_true, kd_51, kd_52, kd_53, kd_54, kd_55, kd_56, kd_57, kd_58, kd_59, kd_60, kd_61, kd_62, kd_63, kd_64, kd_65, kd_66, kd_67, kd_68, kd_69, kd_70, kd_71, kd_72, kd_73, kd_74, kd_75, kd_76, kd_77, kd_78, kd_79, kd_80, kd_81, kd_82, kd_83, kd_84, kd_85, ln_51, ln_52, ln_53, ln_54, ln_55, ln_56, ln_57, ln_58, ln_59, ln_60, ln_61, ln_62, ln_63, ln_64, ln_65, ln_66, ln_67, ln_68, ln_69, ln_70, ln_71, ln_72, ln_73, ln_74, ln_75, ln_76, ln_77, ln_78, ln_79, ln_80, ln_81, ln_82, ln_83, ln_84, ln_85, lg_0, lg_1, lg_2, g_50_0, g_50_33, rc_108_50, rc_85, rc_86_50, List.length_cons, List.length_nil, Nat.reduceAdd, Nat.reduceLT, Nat.reduceLeDiff, true_and, and_true, true_or, or_true, Int.reduceEq, Nat.reduceEqDiff, reduceCtorEq, true_implies, false_implies, not_true_eq_false, not_false_eq_true, Nat.zero_le, Int.zero_add, Nat.zero_add, Nat.lt_add_one, eq_self, forall_const, implies_true, Bool.false_eq_true, false_or, or_false, and_self, ne_eq, me_ne, me_self, e2 n1, n0, q_85, b01_z, Classical.not_not, I]
      repeat' first | intro _ | apply And.intro
      all_goals first | exact I | (exfalso; omega)
    simp only [bq68_0, bq68_1, s_0, lgI_some, s_3, s_29, cnP_0, cnP_1, cnP_2, cnP_3, cnP_4, cnP_5, s_32, s_37i, s_37z, s_47, lgR_some, s_52, s_53, s_54, res_0, res_1, nlg_n, nlg_I, nlg_R, Bool.true_and, Bool.and_self, Bool.and_true, lg_0, lg_1, lg_2, g_0_0, g_0_1, g_0_4, g_0_5, g_5_2, g_8_2, rc_1_1, rc_44_6, rc_45_6, rc_76, List.length_cons, List.length_nil, Nat.reduceAdd, Nat.reduceLT, Nat.reduceLeDiff, true_and, and_true, true_or, or_true, Int.reduceEq, Nat.reduceEqDiff, reduceCtorEq, true_implies, false_implies, not_true_eq_false, not_false_eq_true, Nat.zero_le, Int.zero_add, Nat.zero_add, Nat.lt_add_one, eq_self, forall_const, implies_true, Bool.false_eq_true, false_or, or_false, and_self, ne_eq, me_ne, me_self, q_1, q_76, b01_z, Classical.not_not]
    repeat' first | intro _ | apply And.intro
    all_goals first | exact hr | (exfalso; omega)
end FO

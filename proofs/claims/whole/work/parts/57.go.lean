/-! hours pass -/
noncomputable def hr (K : Me) : Nat → Int → HS → HS
  | 0, _, s => s
  | m + 1, h, s => hr K m (h + 1) (hF K h s)
theorem hP_hr {K : Me} (hB : IvB K) (hD : IvD K) : ∀ (m : Nat) (h : Int) (s : HS), 0 ≤ h → h + (m : Int) ≤ 100 → hP (1000000 * h) s → hP (1000000 * (h + m)) (hr K m h s) := by
  intro m
  induction m with
  | zero => intro h s _ _ H; simpa [hr] using H
  | succ m ih =>
    intro h s h0 h1 H
    have := ih (h + 1) (hF K h s) (by omega) (by omega) (by
      rw [show 1000000 * (h + 1) = 1000000 * h + 1000000 by omega]
      exact hP_F hB hD (by omega) H)
    simp only [hr]
    rwa [show h + ((m + 1 : Nat) : Int) = h + 1 + (m : Int) by omega]
theorem hPs_2 {K : Me} {i : Int} {s : HS} : (hPs K i s).2.1 = s.2.1 := by unfold hPs; split <;> rfl
theorem hPd_2 {K : Me} : ∀ (n : Nat) (s : HS), (hPd K n s).2.1 = s.2.1 := by
  intro n
  induction n with
  | zero => intro s; rfl
  | succ n ih => intro s; simp only [hPd]; rw [ih, hPs_2]
theorem hIn_2 {K : Me} {h : Int} {s : HS} : (hIn K h s).2.1 = s.2.1 := by unfold hIn; split <;> rfl
theorem hOv_2' {K : Me} {h k : Int} {s : HS} : (hOv K h k s).2.1 = s.2.1 := by
  unfold hOv hO1; repeat' split
  all_goals rfl
theorem hOd_2 {K : Me} {h : Int} : ∀ (n : Nat) (k : Int) (s : HS), (hOd K h n k s).2.1 = s.2.1 := by
  intro n
  induction n with
  | zero => intro k s; rfl
  | succ n ih => intro k s; simp only [hOd]; rw [ih, hOv_2']
theorem hLd_2 {K : Me} {h j : Int} : ∀ (n : Nat) (k : Int) (s : HS), k + n ≤ j → (hLd K h n k s).2.1 j = s.2.1 j := by
  intro n
  induction n with
  | zero => intro k s _; rfl
  | succ n ih =>
    intro k s hj
    simp only [hLd]
    rw [ih _ _ (by omega)]
    unfold hLa
    split
    · exact fu_n (by omega)
    · exact fu_n (by omega)
/-- dikes that aren't there bear no bags -/
theorem hF_2 {K : Me} {h j : Int} {s : HS} (hD : IvD K) (hj : K 2 8 ≤ j) : (hF K h s).2.1 j = s.2.1 j := by
  unfold hF
  rw [hOd_2, hLd_2 _ _ _ (by have := hD.1; omega), hPd_2, hIn_2]
theorem hr_2 {K : Me} {j : Int} (hD : IvD K) (hj : K 2 8 ≤ j) : ∀ (m : Nat) (h : Int) (s : HS), (hr K m h s).2.1 j = s.2.1 j := by
  intro m
  induction m with
  | zero => intro h s; rfl
  | succ m ih => intro h s; simp only [hr]; rw [ih, hF_2 hD hj]
theorem cw_p5 {M : Me} {i v : Int} : cw (me_put M 5 i v) = cw M := cw_of (fun k _ q2 _ _ _ => me_f _ q2)
section GO
variable {d : Nat} {M : Me} {Q : Int → Me → Prop}
theorem l_63 {n : Int} (hB : IvB M) (hD : IvD M) (hn : n ≤ 100) : ∀ (m : Nat) (h i : Int) (s : HS), 0 ≤ h → 0 ≤ i → h + (m : Int) ≤ 100 → i + (m : Int) ≤ n → (h + (m : Int) = 100 ∨ i + (m : Int) = n) → (∀ x, Rn (d + 6) (blk 63 3) 63 [some (vR 0), some (vI n), x] [] (wr5 (me_put M 5 2 (h + m)) (hr M m h s)) Q) → Rn (d + 6) (blk 63 2) 63 [some (vR 0), some (vI n), some (vI i)] [] (wr5 (me_put M 5 2 h) s) Q := by
  intro m
  induction m with
  | zero =>
    intro h i s h0 i0 h1 i1 e H
    have H' := H (some (vI i))
    simp only [hr] at H'
    rw [show h + ((0 : Nat) : Int) = h by omega] at H'
    rw [bq63_2]
    simp only [s_0, lgI_some, s_3, s_5K, s_30, cnP_0, cnP_1, cnP_2, cnP_3, cnP_4, cnP_5, s_31, s_37i, s_37z, s_47, lgR_some, s_51, s_53, res_0, res_1, nlg_n, nlg_I, nlg_R, Bool.true_and, Bool.and_self, Bool.and_true, lg_0, lg_1, lg_2, lz_0, lz_1, lz_2, lp_0, lp_1, lp_2, isL_n, isL_I, isL_R, g_0_0, g_0_1, g_0_4, g_5_2, g_8_2, rc_38_5, rc_38_8, rc_82_0, List.length_cons, List.length_nil, Nat.reduceAdd, Nat.reduceLT, Nat.reduceLeDiff, true_and, and_true, true_or, or_true, Int.reduceEq, Nat.reduceEqDiff, reduceCtorEq, true_implies, false_implies, not_true_eq_false, not_false_eq_true, Nat.zero_le, Int.zero_add, Nat.zero_add, Nat.lt_add_one, eq_self, forall_const, implies_true, Bool.false_eq_true, false_or, or_false, and_self, ne_eq, me_ne, me_self, wr5_2]
    refine ⟨fun _ => H', fun q => ⟨fun _ => H', fun q2 => by omega⟩⟩
  | succ m ih =>
    intro h i s h0 i0 h1 i1 e H
    rw [bq63_2]
    simp only [s_0, lgI_some, s_3, s_5K, s_30, cnP_0, cnP_1, cnP_2, cnP_3, cnP_4, cnP_5, s_31, s_37i, s_37z, s_47, lgR_some, s_51, s_53, res_0, res_1, nlg_n, nlg_I, nlg_R, Bool.true_and, Bool.and_self, Bool.and_true, lg_0, lg_1, lg_2, lz_0, lz_1, lz_2, lp_0, lp_1, lp_2, isL_n, isL_I, isL_R, g_0_0, g_0_1, g_0_4, g_5_2, g_8_2, rc_38_5, rc_38_8, rc_82_0, List.length_cons, List.length_nil, Nat.reduceAdd, Nat.reduceLT, Nat.reduceLeDiff, true_and, and_true, true_or, or_true, Int.reduceEq, Nat.reduceEqDiff, reduceCtorEq, true_implies, false_implies, not_true_eq_false, not_false_eq_true, Nat.zero_le, Int.zero_add, Nat.zero_add, Nat.lt_add_one, eq_self, forall_const, implies_true, Bool.false_eq_true, false_or, or_false, and_self, ne_eq, me_ne, me_self, wr5_2, show ¬ n ≤ i by omega, show ¬ 100 ≤ h by omega, show w32 (i + 1) = i + 1 from w32_id (by omega) (by omega)]
    have e5 : me_put M 5 2 h 5 2 = h := me_self _ _ _ _
    refine c5_38 (cw_IB cw_p5 hB) (cw_ID cw_p5 hD) (by rw [e5]; omega) ?_
    rw [e5, hF_ag (cw_ag cw_p5), show me_put (me_put M 5 2 h) 5 2 (h + 1) = me_put M 5 2 (h + 1) from by
      funext a b; simp only [me_put]; split <;> rfl]
    refine ih _ _ _ (by omega) (by omega) (by omega) (by omega) (by omega) (fun x => ?_)
    have := H x
    simp only [hr] at this
    rwa [show h + ((m + 1 : Nat) : Int) = h + 1 + (m : Int) by omega] at this
/-- the reference's zeros -/
theorem l_107c {n i h : Int} (hh : 0 ≤ h ∧ h ≤ 100) (hd : 0 ≤ M 50 9 ∧ M 50 9 ≤ 12) (hm : M 50 0 = h) : ∀ (m : Nat) (X : Me) (k : Int), 0 ≤ k → k + (m : Int) = M 50 9 → (∀ j, j ≠ 65 → X j = M j) → (∀ a h', 0 ≤ a → a < 12 → 0 ≤ h' → h' ≤ 100 → X 65 (101 * a + h') = if h' = h ∧ a < k then 0 else M 65 (101 * a + h')) →
    (∀ X' : Me, (∀ j, j ≠ 65 → X' j = M j) → (∀ a h', 0 ≤ a → a < 12 → 0 ≤ h' → h' ≤ 100 → X' 65 (101 * a + h') = if h' = h ∧ a < M 50 9 then 0 else M 65 (101 * a + h')) → Rn d (blk 107 4) 107 [some (vR 50), some (vI n), some (vI i), some (vI (M 50 9))] [] X' Q) →
    Rn d (blk 107 3) 107 [some (vR 50), some (vI n), some (vI i), some (vI k)] [] X Q := by
  intro m
  induction m with
  | zero =>
    intro X k k0 hk hX h65 H
    rw [bq107_3]
    simp only [s_0, lgI_some, s_3, s_5K, s_6, s_8, s_25, s_30, cnP_0, cnP_1, cnP_2, cnP_3, cnP_4, cnP_5, s_31, s_33I, s_33R, s_47, lgR_some, kd_51, kd_52, kd_53, kd_54, kd_55, kd_56, kd_57, kd_58, kd_59, kd_60, kd_61, kd_62, kd_63, kd_64, kd_65, kd_66, kd_67, kd_68, kd_69, kd_70, kd_71, kd_72, kd_73, kd_74, kd_75, kd_76, kd_77, kd_78, kd_79, kd_80, kd_81, kd_82, kd_83, kd_84, kd_85, ln_51, ln_52, ln_53, ln_54, ln_55, ln_56, ln_57, ln_58, ln_59, ln_60, ln_61, ln_62, ln_63, ln_64, ln_65, ln_66, ln_67, ln_68, ln_69, ln_70, ln_71, ln_72, ln_73, ln_74, ln_75, ln_76, ln_77, ln_78, ln_79, ln_80, ln_81, ln_82, ln_83, ln_84, ln_85, lg_0, lg_1, lg_2, lg_3, lz_0, lz_1, lz_2, lz_3, lp_0, lp_1, lp_2, lp_3, isL_n, isL_I, isL_R, g_50_0, g_50_17, g_50_9, p_50_0, List.length_cons, List.length_nil, Nat.reduceAdd, Nat.reduceLT, Nat.reduceLeDiff, true_and, and_true, true_or, or_true, Int.reduceEq, Nat.reduceEqDiff, reduceCtorEq, true_implies, false_implies, not_true_eq_false, not_false_eq_true, Nat.zero_le, Int.zero_add, Nat.zero_add, Nat.lt_add_one, eq_self, forall_const, implies_true, Bool.false_eq_true, false_or, or_false, and_self, ne_eq, me_ne, me_self, hX 50 (by decide), show M 50 9 ≤ k by omega]
    have e : k = M 50 9 := by omega
    subst e
    exact H X hX h65
  | succ m ih =>
    intro X k k0 hk hX h65 H
    rw [bq107_3]
    simp only [s_0, lgI_some, s_3, s_5K, s_6, s_8, s_25, s_30, cnP_0, cnP_1, cnP_2, cnP_3, cnP_4, cnP_5, s_31, s_33I, s_33R, s_47, lgR_some, kd_51, kd_52, kd_53, kd_54, kd_55, kd_56, kd_57, kd_58, kd_59, kd_60, kd_61, kd_62, kd_63, kd_64, kd_65, kd_66, kd_67, kd_68, kd_69, kd_70, kd_71, kd_72, kd_73, kd_74, kd_75, kd_76, kd_77, kd_78, kd_79, kd_80, kd_81, kd_82, kd_83, kd_84, kd_85, ln_51, ln_52, ln_53, ln_54, ln_55, ln_56, ln_57, ln_58, ln_59, ln_60, ln_61, ln_62, ln_63, ln_64, ln_65, ln_66, ln_67, ln_68, ln_69, ln_70, ln_71, ln_72, ln_73, ln_74, ln_75, ln_76, ln_77, ln_78, ln_79, ln_80, ln_81, ln_82, ln_83, ln_84, ln_85, lg_0, lg_1, lg_2, lg_3, lz_0, lz_1, lz_2, lz_3, lp_0, lp_1, lp_2, lp_3, isL_n, isL_I, isL_R, g_50_0, g_50_17, g_50_9, p_50_0, List.length_cons, List.length_nil, Nat.reduceAdd, Nat.reduceLT, Nat.reduceLeDiff, true_and, and_true, true_or, or_true, Int.reduceEq, Nat.reduceEqDiff, reduceCtorEq, true_implies, false_implies, not_true_eq_false, not_false_eq_true, Nat.zero_le, Int.zero_add, Nat.zero_add, Nat.lt_add_one, eq_self, forall_const, implies_true, Bool.false_eq_true, false_or, or_false, and_self, ne_eq, me_ne, me_self, hX 50 (by decide), hm, ix101 k0 (show k < 12 by omega) hh.1 hh.2, show ¬ M 50 9 ≤ k by omega, show w32 (k + 1) = k + 1 from w32_id (by omega) (by omega)]
    refine ⟨by omega, ih _ _ (by omega) (by omega) ?_ ?_ H⟩
    · intro j hj; rw [me_f _ hj]; exact hX j hj
    · intro a h' a0 a1 g0 g1
      by_cases q : a = k ∧ h' = h
      · rw [q.1, q.2, me_self, if_pos ⟨rfl, by omega⟩]
      · rw [me_i _ (by omega), h65 a h' a0 a1 g0 g1]
        by_cases z : h' = h ∧ a < k
        · rw [if_pos z, if_pos ⟨z.1, by omega⟩]
        · rw [if_neg z, if_neg (by omega)]
/-- the reference's hours, over the class's memory behind its own -/
theorem l_107 {n now : Int} {M0 : Me} (hK : IvK M) (hB : IvB M) (hD : IvD M) (hC : IvC M0) (e24 : M 24 = M0 24) (hn : n ≤ 100) (hnow : M0 5 2 = now) (e2 : M 2 = M0 2) : ∀ (m : Nat) (h i : Int) (s : HS) (X : Me) (x : Option AV), now ≤ h → 0 ≤ now → 0 ≤ i → h + (m : Int) ≤ 100 → i + (m : Int) ≤ n → (h + (m : Int) = 100 ∨ i + (m : Int) = n) → hP (1000000 * h) s →
    (∀ j, j ≠ 65 → j ≠ 50 → X j = M j) → (∀ j, j ≠ 0 → X 50 j = M 50 j) → X 50 0 = h → (∀ a h', 0 ≤ a → a < 12 → 0 ≤ h' → h' ≤ 100 → X 65 (101 * a + h') = if h ≤ h' ∧ h' < 100 then M 24 (a * 100 + h') else 0) →
    (∀ X' : Me, (∀ j, j ≠ 65 → j ≠ 50 → X' j = M j) → (∀ j, j ≠ 0 → X' 50 j = M 50 j) → X' 50 0 = h + m → (∀ a h', 0 ≤ a → a < 12 → 0 ≤ h' → h' ≤ 100 → X' 65 (101 * a + h') = if h + (m : Int) ≤ h' ∧ h' < 100 then M 24 (a * 100 + h') else 0) → Q (h + m) (wq 0 X' (hr M m h s))) →
    Rn (d + 6) (blk 107 2) 107 [some (vR 50), some (vI n), some (vI i), x] [] (wq 0 X s) Q := by
  intro m
  induction m with
  | zero =>
    intro h i s X x h0 n0 i0 h1 i1 e hp hX h50 h500 h65 H
    have H' := H X hX h50 (by rw [h500]; omega) (fun a h' a0 a1 g0 g1 => by rw [h65 a h' a0 a1 g0 g1, show h + ((0 : Nat) : Int) = h by omega])
    simp only [hr] at H'
    rw [show h + ((0 : Nat) : Int) = h by omega] at H'
    rw [bq107_2]
    simp only [bq107_5, s_0, lgI_some, s_1I, s_3, s_5K, s_6, s_8, s_25, s_30, cnP_0, cnP_1, cnP_2, cnP_3, cnP_4, cnP_5, s_31, s_32, s_37i, s_37z, s_47, lgR_some, s_53, res_0, res_1, nlg_n, nlg_I, nlg_R, Bool.true_and, Bool.and_self, Bool.and_true, kd_51, kd_52, kd_53, kd_54, kd_55, kd_56, kd_57, kd_58, kd_59, kd_60, kd_61, kd_62, kd_63, kd_64, kd_65, kd_66, kd_67, kd_68, kd_69, kd_70, kd_71, kd_72, kd_73, kd_74, kd_75, kd_76, kd_77, kd_78, kd_79, kd_80, kd_81, kd_82, kd_83, kd_84, kd_85, ln_51, ln_52, ln_53, ln_54, ln_55, ln_56, ln_57, ln_58, ln_59, ln_60, ln_61, ln_62, ln_63, ln_64, ln_65, ln_66, ln_67, ln_68, ln_69, ln_70, ln_71, ln_72, ln_73, ln_74, ln_75, ln_76, ln_77, ln_78, ln_79, ln_80, ln_81, ln_82, ln_83, ln_84, ln_85, lg_0, lg_1, lg_2, lg_3, lz_0, lz_1, lz_2, lz_3, lp_0, lp_1, lp_2, lp_3, isL_n, isL_I, isL_R, g_50_0, g_50_17, g_50_9, rc_105_50, List.length_cons, List.length_nil, Nat.reduceAdd, Nat.reduceLT, Nat.reduceLeDiff, true_and, and_true, true_or, or_true, Int.reduceEq, Nat.reduceEqDiff, reduceCtorEq, true_implies, false_implies, not_true_eq_false, not_false_eq_true, Nat.zero_le, Int.zero_add, Nat.zero_add, Nat.lt_add_one, eq_self, forall_const, implies_true, Bool.false_eq_true, false_or, or_false, and_self, ne_eq, me_ne, me_self, wq_o, h500]
    refine ⟨fun _ => H', fun q => ⟨fun _ => H', fun q2 => by omega⟩⟩
  | succ m ih =>
    intro h i s X x h0 n0 i0 h1 i1 e hp hX h50 h500 h65 H
    have hd := hD.1
    have g : ∀ k, k ≤ 49 → X k = M k := fun k hk => hX k (by omega) (by omega)
    have eW : cw X = cw M := cw_of (fun k q1 _ _ _ _ => g k (by omega))
    have n9 : X 50 9 = M 2 8 := by rw [h50 9 (by decide)]; exact hK.2.2.2.2.2.2.1
    have hKX : IvK X := by
      unfold IvK at *
      rw [hX 51 (by decide) (by decide), hX 52 (by decide) (by decide), hX 53 (by decide) (by decide), hX 54 (by decide) (by decide), hX 55 (by decide) (by decide), hX 56 (by decide) (by decide), hX 57 (by decide) (by decide), hX 58 (by decide) (by decide), hX 59 (by decide) (by decide), hX 60 (by decide) (by decide), hX 61 (by decide) (by decide), hX 62 (by decide) (by decide), hX 63 (by decide) (by decide), hX 64 (by decide) (by decide), hX 66 (by decide) (by decide), hX 67 (by decide) (by decide), hX 68 (by decide) (by decide), hX 69 (by decide) (by decide), hX 70 (by decide) (by decide), hX 71 (by decide) (by decide), hX 72 (by decide) (by decide), h50 1 (by decide), h50 9 (by decide), h50 18 (by decide), h50 19 (by decide), h50 23 (by decide), g 0 (by decide), g 1 (by decide), g 2 (by decide), g 3 (by decide), g 4 (by decide), g 9 (by decide), g 10 (by decide), g 11 (by decide), g 12 (by decide), g 13 (by decide), g 14 (by decide), g 16 (by decide), g 17 (by decide), g 18 (by decide), g 19 (by decide), g 20 (by decide), g 21 (by decide), g 22 (by decide), g 23 (by decide), g 33 (by decide), g 34 (by decide), g 35 (by decide), g 25 (by decide), g 26 (by decide), g 27 (by decide), g 28 (by decide)]
      exact hK
    rw [bq107_2]
    simp only [bq107_5, s_0, lgI_some, s_1I, s_3, s_5K, s_6, s_8, s_25, s_30, cnP_0, cnP_1, cnP_2, cnP_3, cnP_4, cnP_5, s_31, s_32, s_37i, s_37z, s_47, lgR_some, s_53, res_0, res_1, nlg_n, nlg_I, nlg_R, Bool.true_and, Bool.and_self, Bool.and_true, kd_51, kd_52, kd_53, kd_54, kd_55, kd_56, kd_57, kd_58, kd_59, kd_60, kd_61, kd_62, kd_63, kd_64, kd_65, kd_66, kd_67, kd_68, kd_69, kd_70, kd_71, kd_72, kd_73, kd_74, kd_75, kd_76, kd_77, kd_78, kd_79, kd_80, kd_81, kd_82, kd_83, kd_84, kd_85, ln_51, ln_52, ln_53, ln_54, ln_55, ln_56, ln_57, ln_58, ln_59, ln_60, ln_61, ln_62, ln_63, ln_64, ln_65, ln_66, ln_67, ln_68, ln_69, ln_70, ln_71, ln_72, ln_73, ln_74, ln_75, ln_76, ln_77, ln_78, ln_79, ln_80, ln_81, ln_82, ln_83, ln_84, ln_85, lg_0, lg_1, lg_2, lg_3, lz_0, lz_1, lz_2, lz_3, lp_0, lp_1, lp_2, lp_3, isL_n, isL_I, isL_R, g_50_0, g_50_17, g_50_9, rc_105_50, List.length_cons, List.length_nil, Nat.reduceAdd, Nat.reduceLT, Nat.reduceLeDiff, true_and, and_true, true_or, or_true, Int.reduceEq, Nat.reduceEqDiff, reduceCtorEq, true_implies, false_implies, not_true_eq_false, not_false_eq_true, Nat.zero_le, Int.zero_add, Nat.zero_add, Nat.lt_add_one, eq_self, forall_const, implies_true, Bool.false_eq_true, false_or, or_false, and_self, ne_eq, me_ne, me_self, wq_o, h500, show ¬ n ≤ i by omega, show ¬ 100 ≤ h by omega]
    refine c_105 (K := X) (fun _ _ => rfl) (B := 1000000 * h) hKX (cw_IB eW hB) (cw_ID eW hD) (by omega) (by omega) (by omega) ⟨by omega, by omega⟩ ?_ hp ?_
    · intro k q1 q2
      rw [h65 k h q1 q2 (by omega) (by omega), if_pos ⟨Int.le_refl _, by omega⟩, g 24 (by decide)]
    · rw [hF_ag (cw_ag eW)]
      refine l_107c (M := wq 0 X (hF M h s)) (h := h) ⟨by omega, by omega⟩ (by rw [wq_o (by decide) (by decide) (by decide) (by decide) (by decide), n9]; exact hd) (by rw [wq_o (by decide) (by decide) (by decide) (by decide) (by decide), h500]) (M 2 8).toNat _ 0 (Int.le_refl 0) (by rw [wq_o (by decide) (by decide) (by decide) (by decide) (by decide), n9]; omega) (fun _ _ => rfl) (fun a h' a0 a1 g0 g1 => by rw [if_neg (by omega)]) ?_
      intro Y hY hY65
      rw [wq_o (by decide) (by decide) (by decide) (by decide) (by decide), n9] at hY65 ⊢
      have y50 : Y 50 = X 50 := by rw [hY 50 (by decide), wq_f (by decide) (by decide) (by decide) (by decide) (by decide)]
      rw [bq107_4]
      simp only [s_0, lgI_some, s_1I, s_3, s_5K, s_6, s_30, cnP_0, cnP_1, cnP_2, cnP_3, cnP_4, cnP_5, s_31, s_32, s_33I, s_33R, s_47, lgR_some, s_53, res_0, res_1, nlg_n, nlg_I, nlg_R, Bool.true_and, Bool.and_self, Bool.and_true, lg_0, lg_1, lg_2, lg_3, lz_0, lz_1, lz_2, lz_3, lp_0, lp_1, lp_2, lp_3, isL_n, isL_I, isL_R, g_50_0, p_50_0, rc_105_50, List.length_cons, List.length_nil, Nat.reduceAdd, Nat.reduceLT, Nat.reduceLeDiff, true_and, and_true, true_or, or_true, Int.reduceEq, Nat.reduceEqDiff, reduceCtorEq, true_implies, false_implies, not_true_eq_false, not_false_eq_true, Nat.zero_le, Int.zero_add, Nat.zero_add, Nat.lt_add_one, eq_self, forall_const, implies_true, Bool.false_eq_true, false_or, or_false, and_self, ne_eq, me_ne, me_self, y50, h500, show w32 (i + 1) = i + 1 from w32_id (by omega) (by omega), show w32 (h + 1) = h + 1 from w32_id (by omega) (by omega)]
      have eY : me_put Y 50 0 (h + 1) = wq 0 (fun a b => if a = 65 then Y 65 b else me_put X 50 0 (h + 1) a b) (hF M h s) := by
        funext a b
        by_cases q5 : a = 65
        · subst q5; rw [me_ne _ _ _ _ (by decide), wq_o (by decide) (by decide) (by decide) (by decide) (by decide), if_pos rfl]
        · by_cases q0 : a = 50
          · subst q0; rw [wq_o (by decide) (by decide) (by decide) (by decide) (by decide)]
            simp only [me_put, y50]
            simp
          · rw [me_ne _ _ _ _ q0, hY a q5]
            simp only [wq]
            repeat' split
            all_goals first | rfl | (rw [me_ne _ _ _ _ q0])
      rw [eY]
      refine ih (h + 1) (i + 1) _ _ _ (by omega) n0 (by omega) (by omega) (by omega) (by omega) ?_ ?_ ?_ ?_ ?_ ?_
      · rw [show 1000000 * (h + 1) = 1000000 * h + 1000000 by omega]
        exact hP_F hB hD (by omega) hp
      · intro j q1 q2
        funext b
        show (if j = 65 then Y 65 b else me_put X 50 0 (h + 1) j b) = M j b
        rw [if_neg q1, me_ne _ _ _ _ q2, hX j q1 q2]
      · intro j q
        show (if (50 : Nat) = 65 then Y 65 j else me_put X 50 0 (h + 1) 50 j) = M 50 j
        rw [if_neg (by decide), me_i _ q, h50 j q]
      · show (if (50 : Nat) = 65 then Y 65 0 else me_put X 50 0 (h + 1) 50 0) = h + 1
        rw [if_neg (by decide), me_self]
      · intro a h' a0 a1 g0 g1
        show (if (65 : Nat) = 65 then Y 65 (101 * a + h') else me_put X 50 0 (h + 1) 65 (101 * a + h')) = _
        rw [if_pos rfl, hY65 a h' a0 a1 g0 g1, wq_o (by decide) (by decide) (by decide) (by decide) (by decide), h65 a h' a0 a1 g0 g1]
        by_cases z : h' = h
        · subst z
          rw [if_neg (show ¬ (h' + 1 ≤ h' ∧ h' < 100) by omega)]
          by_cases y : a < M 2 8
          · rw [if_pos ⟨rfl, y⟩]
          · rw [if_neg (by omega), if_pos ⟨Int.le_refl _, by omega⟩, e24]
            exact (hC a h' a0 a1 g0 g1).2.2 (by rw [← e2]; omega)
        · rw [if_neg (by omega)]
          by_cases y : h ≤ h' ∧ h' < 100
          · rw [if_pos y, if_pos (by omega)]
          · rw [if_neg y, if_neg (by omega)]
      · intro X' x1 x2 x3 x4
        have := H X' x1 x2 (by rw [x3]; omega) (fun a h' a0 a1 g0 g1 => by rw [x4 a h' a0 a1 g0 g1, show h + ((m + 1 : Nat) : Int) = h + 1 + (m : Int) by omega])
        simp only [hr] at this
        rwa [show h + ((m + 1 : Nat) : Int) = h + 1 + (m : Int) by omega] at this
theorem hr_ag {X : Me} (a : ag X M) : ∀ (m : Nat) (h : Int) (s : HS), hr X m h s = hr M m h s := by
  intro m
  induction m with
  | zero => intro h s; rfl
  | succ m ih => intro h s; simp only [hr]; rw [ih, hF_ag a]
theorem w32_64 (x : Int) : w32 (w64 x) = w32 x := by
  unfold w32 w64
  exact Int.bmod_bmod_of_dvd (by decide)
theorem IvK_fr {X : Me} (h : ∀ k, k ∉ [5, 6, 7, 8, 36, 37, 38] → X k = M k) (q : IvK M) : IvK X := by
  unfold IvK at *
  rw [h 51 (by decide), h 52 (by decide), h 53 (by decide), h 54 (by decide), h 55 (by decide), h 56 (by decide), h 57 (by decide), h 58 (by decide), h 59 (by decide), h 60 (by decide), h 61 (by decide), h 62 (by decide), h 63 (by decide), h 64 (by decide), h 66 (by decide), h 67 (by decide), h 68 (by decide), h 69 (by decide), h 70 (by decide), h 71 (by decide), h 72 (by decide), h 50 (by decide), h 0 (by decide), h 1 (by decide), h 2 (by decide), h 3 (by decide), h 4 (by decide), h 9 (by decide), h 10 (by decide), h 11 (by decide), h 12 (by decide), h 13 (by decide), h 14 (by decide), h 16 (by decide), h 17 (by decide), h 18 (by decide), h 19 (by decide), h 20 (by decide), h 21 (by decide), h 22 (by decide), h 23 (by decide), h 33 (by decide), h 34 (by decide), h 35 (by decide), h 25 (by decide), h 26 (by decide), h 27 (by decide), h 28 (by decide)]
  exact q
/-- the memory behind both -/
theorem go_iv {m : Nat} {M1 X : Me} {s : HS} (I : Iv M) (hm : M 5 2 + (m : Int) ≤ 100) (e1 : M1 = me_put (me_put (wr5 (me_put M 5 2 (M 5 2 + m)) s) 6 2 0) 7 17 0) (hp : hP (1000000 * (M 5 2 + m)) s) (h0 : ∀ k, M 2 8 ≤ k → k < 12 → s.2.1 k = 0)
    (x1 : ∀ j, j ≠ 65 → j ≠ 50 → X j = M1 j) (x2 : ∀ j, j ≠ 0 → X 50 j = M1 50 j) (x3 : X 50 0 = M 5 2 + m) (x4 : ∀ a h', 0 ≤ a → a < 12 → 0 ≤ h' → h' ≤ 100 → X 65 (101 * a + h') = if M 5 2 + (m : Int) ≤ h' ∧ h' < 100 then M1 24 (a * 100 + h') else 0) : Iv (wq 0 X s) := by
  obtain ⟨hL, hB, hD, hC, hF, hR, hP, hX⟩ := I
  have f1 : ∀ k, k ∉ [5, 6, 7, 36, 37] → M1 k = M k := by
    intro k q
    simp at q
    rw [e1, me_f _ q.2.2.1, me_f _ q.2.1, wr5_f q.2.2.2.1 q.2.2.2.2 q.1, me_f _ q.1]
  have m5 : M1 5 2 = M 5 2 + m := by rw [e1]; simp only [me_ne, ne_eq, Nat.reduceEqDiff, not_false_eq_true]; rw [wr5_2, me_self]
  have a1 : ∀ k, k ∉ [50, 65, 73, 74, 75, 76, 77] → wq 0 X s k = M1 k := by
    intro k q
    simp at q
    rw [wq_f q.2.2.1 q.2.2.2.1 q.2.2.2.2.1 q.2.2.2.2.2.1 q.2.2.2.2.2.2, x1 k q.2.1 q.1]
  have a2 : ∀ k, k ∉ [5, 6, 7, 36, 37, 50, 65, 73, 74, 75, 76, 77] → wq 0 X s k = M k := by
    intro k q
    rw [a1 k (fun z => q (by simp at z ⊢; omega)), f1 k (fun z => q (by simp at z ⊢; omega))]
  have a5 : wq 0 X s 5 2 = M 5 2 + m := by rw [a1 5 (by decide), m5]
  have eW : cw (wq 0 X s) = cw M := cw_of (fun k q1 q2 q3 q4 q5 => a2 k (fun z => by simp at z; omega))
  have a50 : ∀ j, j ≠ 0 → wq 0 X s 50 j = M 50 j := fun j hj => by
    rw [wq_o (by decide) (by decide) (by decide) (by decide) (by decide), x2 j hj, f1 50 (by decide)]
  refine ⟨?_, cw_IB eW hB, cw_ID eW hD, ?_, ?_, cw_IR eW hR, IvP_cg (a2 0 (by decide)) (a2 2 (by decide)) (a2 4 (by decide)) (a2 33 (by decide)) (a2 34 (by decide)) hP, ?_⟩
  · unfold IvL at *
    rw [a50 1 (by decide), a50 9 (by decide), a50 18 (by decide), a50 19 (by decide), a50 23 (by decide), a5]
    rw [a2 51 (by decide), a2 52 (by decide), a2 53 (by decide), a2 54 (by decide), a2 55 (by decide), a2 56 (by decide), a2 57 (by decide), a2 58 (by decide), a2 59 (by decide), a2 60 (by decide), a2 61 (by decide), a2 62 (by decide), a2 63 (by decide), a2 64 (by decide), a2 66 (by decide), a2 67 (by decide), a2 68 (by decide), a2 69 (by decide), a2 70 (by decide), a2 71 (by decide), a2 72 (by decide), a2 0 (by decide), a2 1 (by decide), a2 2 (by decide), a2 3 (by decide), a2 4 (by decide), a2 9 (by decide), a2 10 (by decide), a2 11 (by decide), a2 12 (by decide), a2 13 (by decide), a2 14 (by decide), a2 16 (by decide), a2 17 (by decide), a2 18 (by decide), a2 19 (by decide), a2 20 (by decide), a2 21 (by decide), a2 22 (by decide), a2 23 (by decide), a2 33 (by decide), a2 34 (by decide), a2 35 (by decide), a2 25 (by decide), a2 26 (by decide), a2 27 (by decide), a2 28 (by decide)]
    obtain ⟨⟨l51, l52, l53, l54, l55, l56, l57⟩, ⟨l58, l59, l60, l61, l62, l63, l64⟩, ⟨l66, l67, l68⟩, ⟨l69, l70, l71, l72⟩, ⟨n0, n1, n9, n18, n19, n23⟩⟩ := hL
    exact ⟨⟨l51, l52, l53, l54, l55, l56, l57⟩, ⟨l58, l59, l60, l61, l62, l63, l64⟩, ⟨l66, l67, l68⟩, ⟨l69, l70, l71, l72⟩, ⟨by rw [wq_o (by decide) (by decide) (by decide) (by decide) (by decide), x3], n1, n9, n18, n19, n23⟩⟩
  · intro k h k0 k1 g0 g1
    have c := hC k h k0 k1 g0 g1
    rw [a2 24 (by decide), a2 2 (by decide), a5, wq_o (by decide) (by decide) (by decide) (by decide) (by decide), x4 k h k0 k1 g0 g1, f1 24 (by decide)]
    exact ⟨c.1, rfl, c.2.2⟩
  · obtain ⟨g1, g2, g3, g4, g5, g6, g7, g8, g9⟩ := hF
    have b36 : ∀ c, 0 ≤ c → c < 10 → wq 0 X s 36 c = s.1 c := fun c c0 c1 => by
      rw [a1 36 (by decide), e1]; simp only [me_ne, ne_eq, Nat.reduceEqDiff, not_false_eq_true]; exact wr5_w c0 c1
    have b37 : ∀ c, 0 ≤ c → c < 12 → wq 0 X s 37 c = s.2.1 c := fun c c0 c1 => by
      rw [a1 37 (by decide), e1]; simp only [me_ne, ne_eq, Nat.reduceEqDiff, not_false_eq_true]; exact wr5_b c0 c1
    have b5 : ∀ i, wq 0 X s 5 i = wr5 (me_put M 5 2 (M 5 2 + m)) s 5 i := fun i => by
      rw [a1 5 (by decide), e1]; simp only [me_ne, ne_eq, Nat.reduceEqDiff, not_false_eq_true]
    refine ⟨by rw [a5]; omega, fun c c0 c1 => ?_, fun c c0 c1 => ?_, ?_, ?_, ?_, fun i => ?_, ?_, fun k k0 k1 => ?_⟩
    · rw [b36 c c0 c1]
      have := wq_w (o := 0) (M := X) (s := s) c0 c1
      rwa [show 10 * (0 : Int) + c = c by omega] at this
    · rw [b37 c c0 c1]
      have := wq_b (o := 0) (M := X) (s := s) c0 c1
      rwa [show 12 * (0 : Int) + c = c by omega] at this
    · rw [wq_5, b5, wr5_3]
    · rw [wq_6, b5, wr5_4, w32_64]
    · rw [wq_7, b5, wr5_5, w32_64]
    · by_cases q : i = 0
      · subst q; rw [wq_6, wq_7]; exact ⟨w64_64 _, w64_64 _⟩
      · have y6 : wq 0 X s 76 i = M 76 i := by
          rw [← f1 76 (by decide), ← x1 76 (by decide) (by decide)]; unfold wq; rw [if_neg (by omega), if_neg (by omega), if_neg (by omega), if_neg (by omega), if_neg (by omega)]
        have y7 : wq 0 X s 77 i = M 77 i := by
          rw [← f1 77 (by decide), ← x1 77 (by decide) (by decide)]; unfold wq; rw [if_neg (by omega), if_neg (by omega), if_neg (by omega), if_neg (by omega), if_neg (by omega)]
        rw [y6, y7]; exact g7 i
    · rw [a5]
      refine ⟨fun i i0 i1 => ?_, ?_⟩
      · show 0 ≤ wq 0 X s 36 i
        rw [b36 i i0 i1]; exact hp.1 i i0 i1
      · show sm 10 (wq 0 X s 36) ≤ _
        rw [sm_cg (g := s.1) (fun i i0 i1 => b36 i i0 (by omega))]
        exact hp.2
    · rw [a2 2 (by decide)] at k0
      rw [b37 k (by have := hD.1; omega) k1]
      exact h0 k k0 k1
  · exact IvX_0 (by rw [a1 6 (by decide), e1]; simp only [me_ne, me_self, ne_eq, Nat.reduceEqDiff, not_false_eq_true]) (by rw [a1 7 (by decide), e1, me_self])
theorem p_63 {a : Int} (I : Iv M) : Tw d 63 107 [vI a] M := by
  have I0 := I
  obtain ⟨hL, hB, hD, hC, hF, hR, hP, hX⟩ := I0
  have hL' := hL
  obtain ⟨⟨l51, l52, l53, l54, l55, l56, l57⟩, ⟨l58, l59, l60, l61, l62, l63, l64⟩, ⟨l66, l67, l68⟩, ⟨l69, l70, l71, l72⟩, ⟨n0, n1, n9, n18, n19, n23⟩⟩ := hL'
  have hf := hF
  obtain ⟨f1, f2, f3, f4, f5, f6, f7, f8, f9⟩ := hf
  unfold Tw
  rw [uc 63, en_63]
  by_cases acc : 0 ≤ a ∧ a ≤ 100
  · simp only [bq63_0, bq63_1, s_0, lgI_some, s_1I, s_3, s_5K, s_29, cnP_0, cnP_1, cnP_2, cnP_3, cnP_4, cnP_5, s_30, s_31, s_32, s_37i, s_37z, s_47, lgR_some, s_53, res_0, res_1, nlg_n, nlg_I, nlg_R, Bool.true_and, Bool.and_self, Bool.and_true, lg_0, lg_1, lg_2, lz_0, lz_1, lz_2, lp_0, lp_1, lp_2, isL_n, isL_I, isL_R, g_0_0, g_0_1, g_0_4, g_5_2, g_8_2, rc_38_5, rc_38_8, rc_76, List.length_cons, List.length_nil, Nat.reduceAdd, Nat.reduceLT, Nat.reduceLeDiff, true_and, and_true, true_or, or_true, Int.reduceEq, Nat.reduceEqDiff, reduceCtorEq, true_implies, false_implies, not_true_eq_false, not_false_eq_true, Nat.zero_le, Int.zero_add, Nat.zero_add, Nat.lt_add_one, eq_self, forall_const, implies_true, Bool.false_eq_true, false_or, or_false, and_self, ne_eq, me_ne, me_self, q_76, b01_z, acc.1, acc.2]
    have hs0 : M = wr5 (me_put M 5 2 (M 5 2)) (M 36, M 37, M 5 3, M 76 0, M 77 0) := by
      funext k b
      simp only [wr5, me_put]
      by_cases q : k = 36
      · subst q; simp
      · by_cases q : k = 37
        · subst q; simp
        · by_cases q : k = 5
          · subst q
            by_cases q : b = 3
            · subst q; simp
            · by_cases q : b = 4
              · subst q; simp; exact f5
              · by_cases q : b = 5
                · subst q; simp; exact f6
                · by_cases q : b = 2
                  · subst q; simp
                  · simp [*]
          · simp [*]
    obtain ⟨m, hm1, hm2, hm3⟩ : ∃ m : Nat, M 5 2 + (m : Int) ≤ 100 ∧ 0 + (m : Int) ≤ a ∧ (M 5 2 + (m : Int) = 100 ∨ 0 + (m : Int) = a) := by
      by_cases q : a ≤ 100 - M 5 2
      · exact ⟨a.toNat, by omega, by omega, by omega⟩
      · exact ⟨(100 - M 5 2).toNat, by omega, by omega, by omega⟩
    rw [hs0]
    refine l_63 hB hD acc.2 m (M 5 2) 0 _ f1.1 (Int.le_refl 0) hm1 hm2 hm3 (fun x => ?_)
    simp only [bq63_3, s_37i, s_37z, s_47, lgR_some, s_51, res_0, res_1, nlg_n, nlg_I, nlg_R, Bool.true_and, Bool.and_self, Bool.and_true, lg_0, lg_1, lg_2, g_0_4, g_5_2, g_8_2, rc_82_0, List.length_cons, List.length_nil, Nat.reduceAdd, Nat.reduceLT, Nat.reduceLeDiff, true_and, and_true, true_or, or_true, Int.reduceEq, Nat.reduceEqDiff, reduceCtorEq, true_implies, false_implies, not_true_eq_false, not_false_eq_true, Nat.zero_le, Int.zero_add, Nat.zero_add, Nat.lt_add_one, eq_self, forall_const, implies_true, Bool.false_eq_true, false_or, or_false, and_self, ne_eq, me_ne, me_self, uc 82, en_82, bq82_0, s_38, g_0_5, g_0_6, rc_12_7, rc_43_6, uc 43, en_43, bq43_0, s_3, p_6_2, uc 12, en_12, bq12_0, p_7_17, wr5_2]
    generalize e1 : me_put (me_put (wr5 (me_put M 5 2 (M 5 2 + ↑m)) (hr M m (M 5 2) (M 36, M 37, M 5 3, M 76 0, M 77 0))) 6 2 0) 7 17 0 = M1
    have k1 : ∀ k, k ∉ [5, 6, 7, 8, 36, 37, 38] → M1 k = M k := by
      intro k q
      simp at q
      rw [← e1, me_f _ q.2.2.1, me_f _ q.2.1, wr5_f q.2.2.2.2.1 q.2.2.2.2.2.1 q.1, me_f _ q.1]
    have eW : cw M1 = cw M := cw_of (fun k q1 q2 q3 q4 q5 => k1 k (fun z => by simp at z; omega))
    have hq : M1 = wq 0 M1 (M 36, M 37, M 5 3, M 76 0, M 77 0) := by
      funext k b
      simp only [wq]
      by_cases q : k = 73
      · subst q
        by_cases z : 10 * 0 ≤ b ∧ b < 10 * 0 + 10
        · rw [if_pos ⟨rfl, z⟩, k1 73 (by decide), f2 b (by omega) (by omega), show b - 10 * 0 = b by omega]
        · rw [if_neg (fun y => z y.2)]; simp
      · by_cases q : k = 74
        · subst q
          by_cases z : 12 * 0 ≤ b ∧ b < 12 * 0 + 12
          · rw [if_neg (by omega), if_pos ⟨rfl, z⟩, k1 74 (by decide), f3 b (by omega) (by omega), show b - 12 * 0 = b by omega]
          · rw [if_neg (by omega), if_neg (fun y => z y.2)]; simp
        · by_cases q : k = 75
          · subst q; by_cases z : b = 0
            · subst z; simp; rw [k1 75 (by decide)]; exact f4
            · simp [z]
          · by_cases q : k = 76
            · subst q; by_cases z : b = 0
              · subst z; simp; rw [k1 76 (by decide)]; exact (f7 0).1.symm
              · simp [z]
            · by_cases q : k = 77
              · subst q; by_cases z : b = 0
                · subst z; simp; rw [k1 77 (by decide)]; exact (f7 0).2.symm
                · simp [z]
              · simp [*]
    rw [uc 107, en_107]
    simp only [bq107_0, bq107_1, s_0, lgI_some, s_1I, s_3, s_29, cnP_0, cnP_1, cnP_2, cnP_3, cnP_4, cnP_5, s_30, s_32, s_37i, s_37z, s_47, lgR_some, s_53, res_0, res_1, nlg_n, nlg_I, nlg_R, Bool.true_and, Bool.and_self, Bool.and_true, lg_0, lg_1, lg_2, lg_3, lz_0, lz_1, lz_2, lz_3, lp_0, lp_1, lp_2, lp_3, isL_n, isL_I, isL_R, g_50_0, rc_105_50, rc_85, List.length_cons, List.length_nil, Nat.reduceAdd, Nat.reduceLT, Nat.reduceLeDiff, true_and, and_true, true_or, or_true, Int.reduceEq, Nat.reduceEqDiff, reduceCtorEq, true_implies, false_implies, not_true_eq_false, not_false_eq_true, Nat.zero_le, Int.zero_add, Nat.zero_add, Nat.lt_add_one, eq_self, forall_const, implies_true, Bool.false_eq_true, false_or, or_false, and_self, ne_eq, me_ne, me_self, q_85, b01_z, acc.1, acc.2]
    rw [hq]
    refine l_107 (M0 := M) (now := M 5 2) (IvK_fr k1 (IvL_K hL)) (cw_IB eW hB) (cw_ID eW hD) hC (k1 24 (by decide)) acc.2 rfl (k1 2 (by decide)) m (M 5 2) 0 _ M1 none (Int.le_refl _) f1.1 (Int.le_refl 0) hm1 hm2 hm3 f8 (fun _ _ _ => rfl) (fun _ _ => rfl) (by rw [k1 50 (by decide)]; exact n0) ?_ ?_
    · intro a h' a0 a1 g0 g1
      rw [k1 65 (by decide), k1 24 (by decide)]
      exact (hC a h' a0 a1 g0 g1).2.1
    · intro X' x1 x2 x3 x4
      rw [hr_ag (cw_ag eW)]
      exact ⟨rfl, go_iv I hm1 e1.symm (hP_hr hB hD m _ _ f1.1 hm1 f8) (fun k k0 k1 => by rw [hr_2 hD k0]; exact f9 k k0 k1) x1 x2 x3 x4⟩
  · have hr : Cl (d + 6) 107 [vR 50, vI a] M (fun v' M2 => -1 = v' ∧ Iv M2) := by
      rw [uc 107, en_107]
      simp only [bq107_0, s_0, lgI_some, s_1I, s_3, s_29, cnP_0, cnP_1, cnP_2, cnP_3, cnP_4, cnP_5, s_32, s_37i, s_37z, s_53, res_0, res_1, nlg_n, nlg_I, nlg_R, Bool.true_and, Bool.and_self, Bool.and_true, lg_0, lg_1, lg_2, lg_3, lz_0, lz_1, lz_2, lz_3, lp_0, lp_1, lp_2, lp_3, isL_n, isL_I, isL_R, rc_85, List.length_cons, List.length_nil, Nat.reduceAdd, Nat.reduceLT, Nat.reduceLeDiff, true_and, and_true, true_or, or_true, Int.reduceEq, Nat.reduceEqDiff, reduceCtorEq, true_implies, false_implies, not_true_eq_false, not_false_eq_true, Nat.zero_le, Int.zero_add, Nat.zero_add, Nat.lt_add_one, eq_self, forall_const, implies_true, Bool.false_eq_true, false_or, or_false, and_self, ne_eq, me_ne, me_self, q_85, b01_z, acc, I]
    simp only [bq63_0, s_0, lgI_some, s_1I, s_3, s_29, cnP_0, cnP_1, cnP_2, cnP_3, cnP_4, cnP_5, s_32, s_37i, s_37z, s_53, res_0, res_1, nlg_n, nlg_I, nlg_R, Bool.true_and, Bool.and_self, Bool.and_true, lg_0, lg_1, lg_2, lz_0, lz_1, lz_2, lp_0, lp_1, lp_2, isL_n, isL_I, isL_R, rc_76, List.length_cons, List.length_nil, Nat.reduceAdd, Nat.reduceLT, Nat.reduceLeDiff, true_and, and_true, true_or, or_true, Int.reduceEq, Nat.reduceEqDiff, reduceCtorEq, true_implies, false_implies, not_true_eq_false, not_false_eq_true, Nat.zero_le, Int.zero_add, Nat.zero_add, Nat.lt_add_one, eq_self, forall_const, implies_true, Bool.false_eq_true, false_or, or_false, and_self, ne_eq, me_ne, me_self, q_76, b01_z, acc]
    exact hr
end GO

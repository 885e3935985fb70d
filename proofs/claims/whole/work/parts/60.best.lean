/-! best -/
noncomputable def bst (cs : Int → Prop) (g : Int → Int) : Nat → Int → Int → Int → Int
  | 0, _, b, _ => b
  | n + 1, i, b, l => @ite Int (cs i ∧ (b = -1 ∨ g i < l)) (Classical.propDecidable _) (bst cs g n (i + 1) i (g i)) (bst cs g n (i + 1) b l)
def mb (M : Me) (n i : Int) : Me := me_put M 24 (i * 100 + (M 5 2 + M 21 i)) (w32 (M 24 (i * 100 + (M 5 2 + M 21 i)) + n))
def cs (M : Me) (n i : Int) : Prop := 1 ≤ n ∧ n ≤ M 0 7 ∧ M 5 2 + M 21 i < 100
theorem w32_ba {x n : Int} (h1 : -2147483648 ≤ x) (h2 : x < 2147483648) : w32 (w32 (x + n) - n) = x := by
  rw [Int.sub_eq_add_neg, w32_al, show x + n + -n = x by omega, w32_id h1 h2]
theorem w32_ba2 {x n : Int} (h1 : -2147483648 ≤ x) (h2 : x < 2147483648) : w32 (w32 (x + n) + -n) = x := by
  rw [w32_al, show x + n + -n = x by omega, w32_id h1 h2]
section BE
variable {d : Nat} {M : Me} {Q : Int → Me → Prop}
theorem mb_f {n i : Int} {k : Nat} (h : k ≠ 24) : mb M n i k = M k := me_f _ h
/-- the loss with bags lent -/
theorem c_81 {X : Me} {i n : Int} (hB : IvB M) (hD : IvD M) (hC : IvC M) (hF : IvF M) (hX : ∀ k, k ≠ 48 → k ≠ 49 → k ≠ 8 → X k = M k) (h0 : 0 ≤ i) (h1 : i < M 2 8) (hn : 1 ≤ n ∧ n ≤ 100000) (hs : M 5 2 + M 21 i < 100) (H : ∀ Y : Me, (∀ k, k ≠ 48 → k ≠ 49 → k ≠ 8 → Y k = M k) → Q (los (mb M n i)) Y) : Cl (d + 5) 81 [vR 0, vI i, vI n] X Q := by
  have hk := hD.2.1 i h0 h1
  have hd := hD.1
  obtain ⟨f1, f2, f3, f4, f5, f6, f7, f8, f9⟩ := hF
  have i2 : i < 12 := by omega
  have e8 : w32 (M 5 2 + M 21 i) = M 5 2 + M 21 i := w32_id (by omega) (by omega)
  have e11 : w32 (w32 (i * 100) + (M 5 2 + M 21 i)) = i * 100 + (M 5 2 + M 21 i) := mul100 h0 i2 (by omega) (by omega)
  have c1 := (hC i (M 5 2 + M 21 i) h0 i2 (by omega) (by omega)).1
  have en : w32 (-n) = -n := w32_id (by omega) (by omega)
  unfold Cl
  rw [en_81]
  simp only [bq81_0, s_0, lgI_some, s_1I, s_6, s_15, s_24, s_37i, s_37z, s_47, lgR_some, s_54, res_0, res_1, nlg_n, nlg_I, nlg_R, Bool.true_and, Bool.and_self, Bool.and_true, kd_9, kd_10, kd_11, kd_12, kd_13, kd_14, kd_15, kd_16, kd_17, kd_18, kd_19, kd_20, kd_21, kd_22, kd_23, kd_24, kd_25, kd_26, kd_27, kd_28, kd_29, kd_30, kd_31, kd_32, kd_33, kd_34, kd_35, kd_36, kd_37, kd_38, kd_39, kd_40, kd_41, kd_42, kd_43, kd_44, kd_45, kd_46, kd_47, kd_48, kd_49, ln_9, ln_10, ln_11, ln_12, ln_13, ln_14, ln_15, ln_16, ln_17, ln_18, ln_19, ln_20, ln_21, ln_22, ln_23, ln_24, ln_25, ln_26, ln_27, ln_28, ln_29, ln_30, ln_31, ln_32, ln_33, ln_34, ln_35, ln_36, ln_37, ln_38, ln_39, ln_40, ln_41, ln_42, ln_43, ln_44, ln_45, ln_46, ln_47, ln_48, ln_49, lg_0, lg_1, lg_2, lg_3, lg_4, lz_0, lz_1, lz_2, lz_3, lz_4, lp_0, lp_1, lp_2, lp_3, lp_4, isL_n, isL_I, isL_R, g_0_0, g_0_1, g_0_4, g_0_5, g_2_4, g_5_2, g_8_2, rc_10_2, rc_48_6, List.length_cons, List.length_nil, Nat.reduceAdd, Nat.reduceLT, Nat.reduceLeDiff, true_and, and_true, true_or, or_true, Int.reduceEq, Nat.reduceEqDiff, reduceCtorEq, true_implies, false_implies, not_true_eq_false, not_false_eq_true, Nat.zero_le, Int.zero_add, Nat.zero_add, Nat.lt_add_one, eq_self, forall_const, implies_true, Bool.false_eq_true, false_or, or_false, and_self, ne_eq, me_ne, me_self, uc 10, en_10, bq10_0, bq10_1, s_3, s_8, s_25, s_29, cnP_0, cnP_1, cnP_2, cnP_3, cnP_4, cnP_5, s_30, s_32, s_34, s_38, g_2_7, hX 5 (by decide) (by decide) (by decide), hX 21 (by decide) (by decide) (by decide), hX 24 (by decide) (by decide) (by decide), e8, e11, en, h0, i2, show ¬ M 5 2 + M 21 i < 0 by omega, show ¬ 100 ≤ M 5 2 + M 21 i by omega]
  refine ⟨by omega, by omega, ?_⟩
  have g : ∀ k, k ≠ 48 → k ≠ 49 → k ≠ 8 → me_put X 24 (i * 100 + (M 5 2 + M 21 i)) (w32 (M 24 (i * 100 + (M 5 2 + M 21 i)) + n)) k = mb M n i k := by
    intro k q1 q2 q3
    by_cases z : k = 24
    · subst z; unfold mb; rw [me_fs, me_fs, hX 24 q1 q2 q3]
    · rw [me_f _ z, mb_f z, hX k q1 q2 q3]
  generalize hZ : me_put X 24 (i * 100 + (M 5 2 + M 21 i)) (w32 (M 24 (i * 100 + (M 5 2 + M 21 i)) + n)) = Z at g ⊢
  have g' : ∀ k, k ≠ 48 → k ≠ 49 → k ≠ 8 → k ≠ 24 → Z k = M k := fun k q1 q2 q3 q4 => by rw [g k q1 q2 q3, mb_f q4]
  refine c_48 (IvB_cg (g' 1 (by decide) (by decide) (by decide) (by decide)) (g' 9 (by decide) (by decide) (by decide) (by decide)) (g' 10 (by decide) (by decide) (by decide) (by decide)) (g' 11 (by decide) (by decide) (by decide) (by decide)) (g' 12 (by decide) (by decide) (by decide) (by decide)) (g' 13 (by decide) (by decide) (by decide) (by decide)) (g' 14 (by decide) (by decide) (by decide) (by decide)) (g' 15 (by decide) (by decide) (by decide) (by decide)) (g' 16 (by decide) (by decide) (by decide) (by decide)) hB) (IvD_cg (g' 1 (by decide) (by decide) (by decide) (by decide)) (g' 2 (by decide) (by decide) (by decide) (by decide)) (g' 17 (by decide) (by decide) (by decide) (by decide)) (g' 18 (by decide) (by decide) (by decide) (by decide)) (g' 19 (by decide) (by decide) (by decide) (by decide)) (g' 20 (by decide) (by decide) (by decide) (by decide)) (g' 21 (by decide) (by decide) (by decide) (by decide)) (g' 22 (by decide) (by decide) (by decide) (by decide)) hD) (by rw [g' 5 (by decide) (by decide) (by decide) (by decide)]; exact f1.1) (by rw [g' 5 (by decide) (by decide) (by decide) (by decide)]; exact f1.2) (by rw [g' 5 (by decide) (by decide) (by decide) (by decide), f5]; exact w32_32 _) (by rw [g' 5 (by decide) (by decide) (by decide) (by decide), f6]; exact w32_32 _) (fun Y y1 => ?_)
  have y24 : Y 24 (i * 100 + (M 5 2 + M 21 i)) = w32 (M 24 (i * 100 + (M 5 2 + M 21 i)) + n) := by
    rw [y1 24 (by decide) (by decide) (by decide), ← hZ, me_self]
  simp only [bq81_0, s_0, lgI_some, s_1I, s_6, s_15, s_24, s_37i, s_37z, s_47, lgR_some, s_54, res_0, res_1, nlg_n, nlg_I, nlg_R, Bool.true_and, Bool.and_self, Bool.and_true, kd_9, kd_10, kd_11, kd_12, kd_13, kd_14, kd_15, kd_16, kd_17, kd_18, kd_19, kd_20, kd_21, kd_22, kd_23, kd_24, kd_25, kd_26, kd_27, kd_28, kd_29, kd_30, kd_31, kd_32, kd_33, kd_34, kd_35, kd_36, kd_37, kd_38, kd_39, kd_40, kd_41, kd_42, kd_43, kd_44, kd_45, kd_46, kd_47, kd_48, kd_49, ln_9, ln_10, ln_11, ln_12, ln_13, ln_14, ln_15, ln_16, ln_17, ln_18, ln_19, ln_20, ln_21, ln_22, ln_23, ln_24, ln_25, ln_26, ln_27, ln_28, ln_29, ln_30, ln_31, ln_32, ln_33, ln_34, ln_35, ln_36, ln_37, ln_38, ln_39, ln_40, ln_41, ln_42, ln_43, ln_44, ln_45, ln_46, ln_47, ln_48, ln_49, lg_0, lg_1, lg_2, lg_3, lg_4, lz_0, lz_1, lz_2, lz_3, lz_4, lp_0, lp_1, lp_2, lp_3, lp_4, isL_n, isL_I, isL_R, g_0_0, g_0_1, g_0_4, g_0_5, g_2_4, g_5_2, g_8_2, rc_10_2, rc_48_6, List.length_cons, List.length_nil, Nat.reduceAdd, Nat.reduceLT, Nat.reduceLeDiff, true_and, and_true, true_or, or_true, Int.reduceEq, Nat.reduceEqDiff, reduceCtorEq, true_implies, false_implies, not_true_eq_false, not_false_eq_true, Nat.zero_le, Int.zero_add, Nat.zero_add, Nat.lt_add_one, eq_self, forall_const, implies_true, Bool.false_eq_true, false_or, or_false, and_self, ne_eq, me_ne, me_self, uc 10, en_10, bq10_0, bq10_1, s_3, s_8, s_25, s_29, cnP_0, cnP_1, cnP_2, cnP_3, cnP_4, cnP_5, s_30, s_32, s_34, s_38, g_2_7, e8, e11, en, y24, w32_ba2 c1.1 c1.2, show ¬ M 5 2 + M 21 i < 0 by omega, show ¬ 100 ≤ M 5 2 + M 21 i by omega]
  refine ⟨by omega, by omega, ?_⟩
  have el : los Z = los (mb M n i) := los_cg (cw_of (fun k q1 q2 q3 q4 q5 => g k (by omega) (by omega) (by omega))) (g 36 (by decide) (by decide) (by decide)) (g 37 (by decide) (by decide) (by decide)) (g 5 (by decide) (by decide) (by decide))
  rw [el]
  refine H _ (fun k q1 q2 q3 => ?_)
  by_cases z : k = 24
  · subst z
    rw [me_fs, y1 24 q1 q2 q3, ← hZ, me_fs, fu_fu, hX 24 q1 q2 q3]
    funext j
    unfold fu
    split
    · rename_i q; rw [q]
    · rfl
  · rw [me_f _ z, y1 k q1 q2 q3, g' k q1 q2 q3 z]
theorem l_70 {n : Int} (hB : IvB M) (hD : IvD M) (hC : IvC M) (hF : IvF M) (hP : IvP M) (H : ∀ X : Me, (∀ k, k ≠ 48 → k ≠ 49 → k ≠ 8 → X k = M k) → Q (bst (cs M n) (fun i => los (mb M n i)) (M 2 8).toNat 0 (-1) 0) X) :
    ∀ (m : Nat) (X : Me) (i b l : Int) (x : Option AV), 0 ≤ i → i + (m : Int) = M 2 8 → -1 ≤ b → (∀ k, k ≠ 48 → k ≠ 49 → k ≠ 8 → X k = M k) → bst (cs M n) (fun i => los (mb M n i)) (M 2 8).toNat 0 (-1) 0 = bst (cs M n) (fun i => los (mb M n i)) m i b l → Rn (d + 6) (blk 70 1) 70 [some (vR 0), some (vI n), some (vI b), some (vI l), some (vI i), x] [] X Q := by
  have hd := hD.1
  have f1 := hF.1
  have p1 := hP.1
  intro m
  induction m with
  | zero =>
    intro X i b l x i0 i1 b0 hX e
    rw [bq70_1]
    simp only [bq70_4, s_0, lgI_some, s_1I, s_3, s_29, cnP_0, cnP_1, cnP_2, cnP_3, cnP_4, cnP_5, s_30, s_32, s_37i, s_37z, s_47, lgR_some, s_53, res_0, res_1, nlg_n, nlg_I, nlg_R, Bool.true_and, Bool.and_self, Bool.and_true, lg_0, lg_1, lg_2, lg_3, lg_4, lg_5, lz_0, lz_1, lz_2, lz_3, lz_4, lz_5, lp_0, lp_1, lp_2, lp_3, lp_4, lp_5, isL_n, isL_I, isL_R, g_0_1, g_2_8, rc_79_0, rc_81_0, List.length_cons, List.length_nil, Nat.reduceAdd, Nat.reduceLT, Nat.reduceLeDiff, true_and, and_true, true_or, or_true, Int.reduceEq, Nat.reduceEqDiff, reduceCtorEq, true_implies, false_implies, not_true_eq_false, not_false_eq_true, Nat.zero_le, Int.zero_add, Nat.zero_add, Nat.lt_add_one, eq_self, forall_const, implies_true, Bool.false_eq_true, false_or, or_false, and_self, ne_eq, me_ne, me_self, hX 2 (by decide) (by decide) (by decide), show M 2 8 ≤ i by omega]
    have := H X hX
    rw [e] at this
    exact this
  | succ m ih =>
    intro X i b l x i0 i1 b0 hX e
    have hk := hD.2.1 i i0 (by omega)
    rw [bq70_1]
    simp only [bq70_2, bq70_3, bq70_4, s_0, lgI_some, s_1I, s_3, s_5K, s_29, cnP_0, cnP_1, cnP_2, cnP_3, cnP_4, cnP_5, s_30, s_31, s_32, s_37i, s_37z, s_47, lgR_some, s_53, res_0, res_1, nlg_n, nlg_I, nlg_R, Bool.true_and, Bool.and_self, Bool.and_true, lg_0, lg_1, lg_2, lg_3, lg_4, lg_5, lz_0, lz_1, lz_2, lz_3, lz_4, lz_5, lp_0, lp_1, lp_2, lp_3, lp_4, lp_5, isL_n, isL_I, isL_R, g_0_1, g_2_8, rc_79_0, rc_81_0, List.length_cons, List.length_nil, Nat.reduceAdd, Nat.reduceLT, Nat.reduceLeDiff, true_and, and_true, true_or, or_true, Int.reduceEq, Nat.reduceEqDiff, reduceCtorEq, true_implies, false_implies, not_true_eq_false, not_false_eq_true, Nat.zero_le, Int.zero_add, Nat.zero_add, Nat.lt_add_one, eq_self, forall_const, implies_true, Bool.false_eq_true, false_or, or_false, and_self, ne_eq, me_ne, me_self, hX 2 (by decide) (by decide) (by decide), q_79 (show X 2 8 ≤ 12 by rw [hX 2 (by decide) (by decide) (by decide)]; omega), hX 0 (by decide) (by decide) (by decide), hX 5 (by decide) (by decide) (by decide), hX 21 (by decide) (by decide) (by decide), b01_z, Classical.not_not, i0, show i < M 2 8 by omega, show ¬ M 2 8 ≤ i by omega, show w32 (i + 1) = i + 1 from w32_id (by omega) (by omega), show w32 (M 5 2 + M 21 i) = M 5 2 + M 21 i from w32_id (by omega) (by omega), show M 5 2 ≤ M 5 2 + M 21 i by omega]
    simp only [bst] at e
    refine ⟨fun q => ?_, fun q => ?_⟩
    · rw [if_neg (fun z => q ⟨⟨z.1.1, z.1.2.1⟩, z.1.2.2⟩)] at e
      exact ih _ _ _ _ _ (by omega) (by omega) b0 hX e
    · refine c_81 hB hD hC hF hX i0 (by omega) ⟨q.1.1, by omega⟩ q.2 (fun Y hY => ?_)
      refine ⟨fun q2 => ?_, fun q2 => ⟨fun q3 => ?_, fun q3 => ?_⟩⟩
      · rw [if_pos ⟨⟨q.1.1, q.1.2, q.2⟩, Or.inl q2⟩] at e
        exact ih _ _ _ _ _ (by omega) (by omega) (by omega) hY e
      · rw [if_neg (fun z => by rcases z.2 with z | z <;> omega)] at e
        exact ih _ _ _ _ _ (by omega) (by omega) b0 hY e
      · rw [if_pos ⟨⟨q.1.1, q.1.2, q.2⟩, Or.inr (by omega)⟩] at e
        exact ih _ _ _ _ _ (by omega) (by omega) (by omega) hY e
theorem Fo_rs {K X : Me} {at' v : Int} (F : Fo K (me_put M 65 at' v) X) : Fo K M (me_put X 65 at' (M 65 at')) := by
  obtain ⟨a1, a2, a3, a4, a5, a6, a7, a8⟩ := F
  refine ⟨?_, ?_, ?_, ?_, ?_, ?_, ?_, ?_⟩
  · intro k q
    by_cases z : k = 65
    · subst z
      rw [me_fs, a1 65 (by decide), me_fs, fu_fu]
      funext j
      unfold fu
      split
      · rename_i q; rw [q]
      · rfl
    · rw [me_f _ z, a1 k q, me_f _ z]
  · intro b b0 b1
    rw [me_ne _ _ _ _ (by decide), a2 b b0 b1, me_ne _ _ _ _ (by decide)]
  · intro b b0 b1
    rw [me_ne _ _ _ _ (by decide), a3 b b0 b1, me_ne _ _ _ _ (by decide)]
  · rw [me_ne _ _ _ _ (by decide), a4, me_ne _ _ _ _ (by decide)]
  · rw [me_ne _ _ _ _ (by decide), a5, me_ne _ _ _ _ (by decide)]
  · rw [me_ne _ _ _ _ (by decide), a6, me_ne _ _ _ _ (by decide)]
  · intro i
    rw [me_ne _ _ _ _ (by decide), me_ne _ _ _ _ (by decide)]; exact a7 i
  · intro h c h0 h1 c0 c1
    rw [me_ne _ _ _ _ (by decide)]
    exact a8 h c (by rw [me_ne _ _ _ _ (by decide)]; exact h0) h1 c0 (by rw [me_ne _ _ _ _ (by decide)]; exact c1)
theorem l_117 {n : Int} (H : ∀ X : Me, Iv X → Q (bst (cs M n) (fun i => los (mb M n i)) (M 2 8).toNat 0 (-1) 0) X) :
    ∀ (m : Nat) (Y : Me) (i b l : Int) (x y : Option AV), Iv Y → 0 ≤ i → i + (m : Int) = M 2 8 → -1 ≤ b → (∀ k, k ≤ 47 → k ≠ 8 → Y k = M k) → bst (cs M n) (fun i => los (mb M n i)) (M 2 8).toNat 0 (-1) 0 = bst (cs M n) (fun i => los (mb M n i)) m i b l → Rn (d + 6) (blk 117 1) 117 [some (vR 50), some (vI n), some (vI b), some (vI l), some (vI i), x, y] [] Y Q := by
  intro m
  induction m with
  | zero =>
    intro Y i b l x y IY i0 i1 b0 hY e
    rw [bq117_1]
    simp only [bq117_5, s_0, lgI_some, s_29, cnP_0, cnP_1, cnP_2, cnP_3, cnP_4, cnP_5, s_30, s_31, s_37i, s_37z, s_47, lgR_some, s_53, res_0, res_1, nlg_n, nlg_I, nlg_R, Bool.true_and, Bool.and_self, Bool.and_true, lg_0, lg_1, lg_2, lg_3, lg_4, lg_5, lg_6, g_50_9, rc_97_50, List.length_cons, List.length_nil, Nat.reduceAdd, Nat.reduceLT, Nat.reduceLeDiff, true_and, and_true, true_or, or_true, Int.reduceEq, Nat.reduceEqDiff, reduceCtorEq, true_implies, false_implies, not_true_eq_false, not_false_eq_true, Nat.zero_le, Int.zero_add, Nat.zero_add, Nat.lt_add_one, eq_self, forall_const, implies_true, Bool.false_eq_true, false_or, or_false, and_self, ne_eq, me_ne, me_self, IY.1.2.2.2.2.2.2.1, hY 2 (by decide) (by decide), show M 2 8 ≤ i by omega]
    have := H Y IY
    rw [e] at this
    exact this
  | succ m ih =>
    intro Y i b l x y IY i0 i1 b0 hY e
    have IY0 := IY
    obtain ⟨hL, hB, hD, hC, hF, hR, hP, hX⟩ := IY0
    have hL' := hL
    obtain ⟨⟨l51, l52, l53, l54, l55, l56, l57⟩, ⟨l58, l59, l60, l61, l62, l63, l64⟩, ⟨l66, l67, l68⟩, ⟨l69, l70, l71, l72⟩, ⟨n0, n1, n9, n18, n19, n23⟩⟩ := hL'
    have y2 : Y 2 = M 2 := hY 2 (by decide) (by decide)
    have y5 : Y 5 = M 5 := hY 5 (by decide) (by decide)
    have y21 : Y 21 = M 21 := hY 21 (by decide) (by decide)
    have y24 : Y 24 = M 24 := hY 24 (by decide) (by decide)
    have hk := hD.2.1 i i0 (by rw [y2]; omega)
    have hd := hD.1
    have f1 := hF.1
    have p1 := hP.1
    rw [y2] at hd
    rw [y5] at f1
    rw [y21] at hk
    rw [hY 0 (by decide) (by decide)] at p1
    have i2 : i < 12 := by omega
    have e8 : w32 (M 5 2 + M 21 i) = M 5 2 + M 21 i := w32_id (by omega) (by omega)
    have e10 : w32 (w32 (w32 (101 * i) + M 5 2) + M 21 i) = 101 * i + (M 5 2 + M 21 i) := by
      rw [w32_id (x := 101 * i) (by omega) (by omega), w32_id (x := 101 * i + M 5 2) (by omega) (by omega), w32_id (by omega) (by omega)]; omega
    rw [bq117_1]
    simp only [bq117_2, bq117_3, bq117_4, bq117_5, s_0, lgI_some, s_1I, s_3, s_5K, s_6, s_7, s_8, s_24, s_25, s_29, cnP_0, cnP_1, cnP_2, cnP_3, cnP_4, cnP_5, s_30, s_31, s_32, s_34, s_37i, s_37z, s_47, lgR_some, s_51, s_53, res_0, res_1, nlg_n, nlg_I, nlg_R, Bool.true_and, Bool.and_self, Bool.and_true, kd_51, kd_52, kd_53, kd_54, kd_55, kd_56, kd_57, kd_58, kd_59, kd_60, kd_61, kd_62, kd_63, kd_64, kd_65, kd_66, kd_67, kd_68, kd_69, kd_70, kd_71, kd_72, kd_73, kd_74, kd_75, kd_76, kd_77, kd_78, kd_79, kd_80, kd_81, kd_82, kd_83, kd_84, kd_85, ln_51, ln_52, ln_53, ln_54, ln_55, ln_56, ln_57, ln_58, ln_59, ln_60, ln_61, ln_62, ln_63, ln_64, ln_65, ln_66, ln_67, ln_68, ln_69, ln_70, ln_71, ln_72, ln_73, ln_74, ln_75, ln_76, ln_77, ln_78, ln_79, ln_80, ln_81, ln_82, ln_83, ln_84, ln_85, lg_0, lg_1, lg_2, lg_3, lg_4, lg_5, lg_6, lz_0, lz_1, lz_2, lz_3, lz_4, lz_5, lz_6, lp_0, lp_1, lp_2, lp_3, lp_4, lp_5, lp_6, isL_n, isL_I, isL_R, g_50_0, g_50_14, g_50_17, g_50_9, rc_116_50, rc_97_50, List.length_cons, List.length_nil, Nat.reduceAdd, Nat.reduceLT, Nat.reduceLeDiff, true_and, and_true, true_or, or_true, Int.reduceEq, Nat.reduceEqDiff, reduceCtorEq, true_implies, false_implies, not_true_eq_false, not_false_eq_true, Nat.zero_le, Int.zero_add, Nat.zero_add, Nat.lt_add_one, eq_self, forall_const, implies_true, Bool.false_eq_true, false_or, or_false, and_self, ne_eq, me_ne, me_self, n9, y2, q_97 (show 0 ≤ Y 50 9 by rw [n9, y2]; omega) (show Y 50 9 ≤ 12 by rw [n9, y2]; omega), n18, n0, l62, y5, y21, hY 0 (by decide) (by decide), b01_z, Classical.not_not, i0, i2, show i < M 2 8 by omega, show ¬ M 2 8 ≤ i by omega, e8, e10, show w32 (i + 1) = i + 1 from w32_id (by omega) (by omega)]
    simp only [bst] at e
    refine ⟨fun q => ?_, fun q => ?_⟩
    · have c1 := hC i (M 5 2 + M 21 i) i0 i2 (by omega) (by omega)
      rw [y5, if_pos ⟨by omega, q.2⟩, y24] at c1
      refine ⟨by omega, by omega, ?_⟩
      generalize hv : w32 (Y 65 (101 * i + (M 5 2 + M 21 i)) + n) = v
      refine c_116 (K := me_put (me_put Y 65 (101 * i + (M 5 2 + M 21 i)) v) 24 (i * 100 + (M 5 2 + M 21 i)) (w32 (M 24 (i * 100 + (M 5 2 + M 21 i)) + n))) (fun k q => me_f _ q) ?_ ?_ ?_ ?_ ?_ ?_
      · unfold IvL; simp only [me_f, me_fs, me_ne, me_self, me_i, fu_s, ne_eq, Nat.reduceEqDiff, not_false_eq_true, Int.reduceEq, reduceCtorEq, l51, l52, l53, l54, l55, l56, l57, l58, l59, l60, l61, l62, l63, l64, l66, l67, l68, l69, l70, l71, l72, n0, n1, n9, n18, n19, n23, and_self]
      · exact IvB_cg (by simp only [me_f, me_fs, me_ne, me_self, me_i, fu_s, ne_eq, Nat.reduceEqDiff, not_false_eq_true, Int.reduceEq, reduceCtorEq]) (by simp only [me_f, me_fs, me_ne, me_self, me_i, fu_s, ne_eq, Nat.reduceEqDiff, not_false_eq_true, Int.reduceEq, reduceCtorEq]) (by simp only [me_f, me_fs, me_ne, me_self, me_i, fu_s, ne_eq, Nat.reduceEqDiff, not_false_eq_true, Int.reduceEq, reduceCtorEq]) (by simp only [me_f, me_fs, me_ne, me_self, me_i, fu_s, ne_eq, Nat.reduceEqDiff, not_false_eq_true, Int.reduceEq, reduceCtorEq]) (by simp only [me_f, me_fs, me_ne, me_self, me_i, fu_s, ne_eq, Nat.reduceEqDiff, not_false_eq_true, Int.reduceEq, reduceCtorEq]) (by simp only [me_f, me_fs, me_ne, me_self, me_i, fu_s, ne_eq, Nat.reduceEqDiff, not_false_eq_true, Int.reduceEq, reduceCtorEq]) (by simp only [me_f, me_fs, me_ne, me_self, me_i, fu_s, ne_eq, Nat.reduceEqDiff, not_false_eq_true, Int.reduceEq, reduceCtorEq]) (by simp only [me_f, me_fs, me_ne, me_self, me_i, fu_s, ne_eq, Nat.reduceEqDiff, not_false_eq_true, Int.reduceEq, reduceCtorEq]) (by simp only [me_f, me_fs, me_ne, me_self, me_i, fu_s, ne_eq, Nat.reduceEqDiff, not_false_eq_true, Int.reduceEq, reduceCtorEq]) hB
      · exact IvD_cg (by simp only [me_f, me_fs, me_ne, me_self, me_i, fu_s, ne_eq, Nat.reduceEqDiff, not_false_eq_true, Int.reduceEq, reduceCtorEq]) (by simp only [me_f, me_fs, me_ne, me_self, me_i, fu_s, ne_eq, Nat.reduceEqDiff, not_false_eq_true, Int.reduceEq, reduceCtorEq]) (by simp only [me_f, me_fs, me_ne, me_self, me_i, fu_s, ne_eq, Nat.reduceEqDiff, not_false_eq_true, Int.reduceEq, reduceCtorEq]) (by simp only [me_f, me_fs, me_ne, me_self, me_i, fu_s, ne_eq, Nat.reduceEqDiff, not_false_eq_true, Int.reduceEq, reduceCtorEq]) (by simp only [me_f, me_fs, me_ne, me_self, me_i, fu_s, ne_eq, Nat.reduceEqDiff, not_false_eq_true, Int.reduceEq, reduceCtorEq]) (by simp only [me_f, me_fs, me_ne, me_self, me_i, fu_s, ne_eq, Nat.reduceEqDiff, not_false_eq_true, Int.reduceEq, reduceCtorEq]) (by simp only [me_f, me_fs, me_ne, me_self, me_i, fu_s, ne_eq, Nat.reduceEqDiff, not_false_eq_true, Int.reduceEq, reduceCtorEq]) (by simp only [me_f, me_fs, me_ne, me_self, me_i, fu_s, ne_eq, Nat.reduceEqDiff, not_false_eq_true, Int.reduceEq, reduceCtorEq]) hD
      · exact IvF_cg (by simp only [me_f, me_fs, me_ne, me_self, me_i, fu_s, ne_eq, Nat.reduceEqDiff, not_false_eq_true, Int.reduceEq, reduceCtorEq]) (by simp only [me_f, me_fs, me_ne, me_self, me_i, fu_s, ne_eq, Nat.reduceEqDiff, not_false_eq_true, Int.reduceEq, reduceCtorEq]) (by simp only [me_f, me_fs, me_ne, me_self, me_i, fu_s, ne_eq, Nat.reduceEqDiff, not_false_eq_true, Int.reduceEq, reduceCtorEq]) (by simp only [me_f, me_fs, me_ne, me_self, me_i, fu_s, ne_eq, Nat.reduceEqDiff, not_false_eq_true, Int.reduceEq, reduceCtorEq]) (by simp only [me_f, me_fs, me_ne, me_self, me_i, fu_s, ne_eq, Nat.reduceEqDiff, not_false_eq_true, Int.reduceEq, reduceCtorEq]) (by simp only [me_f, me_fs, me_ne, me_self, me_i, fu_s, ne_eq, Nat.reduceEqDiff, not_false_eq_true, Int.reduceEq, reduceCtorEq]) (by simp only [me_f, me_fs, me_ne, me_self, me_i, fu_s, ne_eq, Nat.reduceEqDiff, not_false_eq_true, Int.reduceEq, reduceCtorEq]) (by simp only [me_f, me_fs, me_ne, me_self, me_i, fu_s, ne_eq, Nat.reduceEqDiff, not_false_eq_true, Int.reduceEq, reduceCtorEq]) (by simp only [me_f, me_fs, me_ne, me_self, me_i, fu_s, ne_eq, Nat.reduceEqDiff, not_false_eq_true, Int.reduceEq, reduceCtorEq]) hF
      · intro k h k0 k1 g0 g1
        have c2 := (hC k h k0 k1 g0 g1).2.1
        simp only [me_f, me_fs, me_ne, me_self, me_i, fu_s, ne_eq, Nat.reduceEqDiff, not_false_eq_true, Int.reduceEq, reduceCtorEq]
        by_cases z : k = i ∧ h = M 5 2 + M 21 i
        · rw [z.1, z.2, fu_s, fu_s, y5, if_pos ⟨by omega, by omega⟩, ← hv, c1.2.1]
        · rw [fu_n (by omega), c2]
          by_cases w : Y 5 2 ≤ h ∧ h < 100
          · rw [if_pos w, if_pos w, fu_n (by omega)]
          · rw [if_neg w, if_neg w]
      · intro X FX
        have IZ := Fo_iv IY (Fo_rs FX)
        have x65 : X 65 (101 * i + (M 5 2 + M 21 i)) = w32 (M 24 (i * 100 + (M 5 2 + M 21 i)) + n) := by
          rw [FX.1 65 (by decide), me_self, ← hv, c1.2.1]
        simp only [bq117_2, bq117_3, bq117_4, bq117_5, s_0, lgI_some, s_1I, s_3, s_5K, s_6, s_7, s_8, s_24, s_25, s_29, cnP_0, cnP_1, cnP_2, cnP_3, cnP_4, cnP_5, s_30, s_31, s_32, s_34, s_37i, s_37z, s_47, lgR_some, s_51, s_53, res_0, res_1, nlg_n, nlg_I, nlg_R, Bool.true_and, Bool.and_self, Bool.and_true, kd_51, kd_52, kd_53, kd_54, kd_55, kd_56, kd_57, kd_58, kd_59, kd_60, kd_61, kd_62, kd_63, kd_64, kd_65, kd_66, kd_67, kd_68, kd_69, kd_70, kd_71, kd_72, kd_73, kd_74, kd_75, kd_76, kd_77, kd_78, kd_79, kd_80, kd_81, kd_82, kd_83, kd_84, kd_85, ln_51, ln_52, ln_53, ln_54, ln_55, ln_56, ln_57, ln_58, ln_59, ln_60, ln_61, ln_62, ln_63, ln_64, ln_65, ln_66, ln_67, ln_68, ln_69, ln_70, ln_71, ln_72, ln_73, ln_74, ln_75, ln_76, ln_77, ln_78, ln_79, ln_80, ln_81, ln_82, ln_83, ln_84, ln_85, lg_0, lg_1, lg_2, lg_3, lg_4, lg_5, lg_6, lz_0, lz_1, lz_2, lz_3, lz_4, lz_5, lz_6, lp_0, lp_1, lp_2, lp_3, lp_4, lp_5, lp_6, isL_n, isL_I, isL_R, g_50_0, g_50_14, g_50_17, g_50_9, rc_116_50, rc_97_50, List.length_cons, List.length_nil, Nat.reduceAdd, Nat.reduceLT, Nat.reduceLeDiff, true_and, and_true, true_or, or_true, Int.reduceEq, Nat.reduceEqDiff, reduceCtorEq, true_implies, false_implies, not_true_eq_false, not_false_eq_true, Nat.zero_le, Int.zero_add, Nat.zero_add, Nat.lt_add_one, eq_self, forall_const, implies_true, Bool.false_eq_true, false_or, or_false, and_self, ne_eq, me_ne, me_self, x65, w32_ba c1.1.1 c1.1.2, show w32 (i + 1) = i + 1 from w32_id (by omega) (by omega)]
        refine ⟨by omega, by omega, ?_⟩
        rw [c1.2.1] at IZ
        have hZ : ∀ k, k ≤ 47 → k ≠ 8 → me_put X 65 (101 * i + (M 5 2 + M 21 i)) (M 24 (i * 100 + (M 5 2 + M 21 i))) k = M k := by
          intro k q1 q2
          rw [me_f _ (by omega), FX.1 k (fun z => by simp at z; omega), me_f _ (by omega), hY k q1 q2]
        have el : los (me_put (me_put Y 65 (101 * i + (M 5 2 + M 21 i)) v) 24 (i * 100 + (M 5 2 + M 21 i)) (w32 (M 24 (i * 100 + (M 5 2 + M 21 i)) + n))) = los (mb M n i) := by
          have g : ∀ k, k ≤ 47 → k ≠ 8 → me_put (me_put Y 65 (101 * i + (M 5 2 + M 21 i)) v) 24 (i * 100 + (M 5 2 + M 21 i)) (w32 (M 24 (i * 100 + (M 5 2 + M 21 i)) + n)) k = mb M n i k := by
            intro k q1 q2
            unfold mb
            by_cases z : k = 24
            · subst z; rw [me_fs, me_fs, me_f _ (by decide), y24]
            · rw [me_f _ z, me_f _ (by omega), me_f _ z, hY k q1 q2]
          exact los_cg (cw_of (fun k q1 q2 q3 q4 q5 => g k (by omega) (by omega))) (g 36 (by decide) (by decide)) (g 37 (by decide) (by decide)) (g 5 (by decide) (by decide))
        rw [el]
        refine ⟨fun q2 => ?_, fun q2 => ⟨fun q3 => ?_, fun q3 => ?_⟩⟩
        · rw [if_pos ⟨⟨q.1.1, q.1.2, q.2⟩, Or.inl q2⟩] at e
          exact ih _ _ _ _ _ _ IZ (by omega) (by omega) (by omega) hZ e
        · rw [if_pos ⟨⟨q.1.1, q.1.2, q.2⟩, Or.inr (by omega)⟩] at e
          exact ih _ _ _ _ _ _ IZ (by omega) (by omega) (by omega) hZ e
        · rw [if_neg (fun z => by rcases z.2 with z | z <;> omega)] at e
          exact ih _ _ _ _ _ _ IZ (by omega) (by omega) b0 hZ e
    · rw [if_neg (fun z => q ⟨⟨z.1.1, z.1.2.1⟩, z.1.2.2⟩)] at e
      exact ih _ _ _ _ _ _ IY (by omega) (by omega) b0 hY e
theorem p_70 {a : Int} (I : Iv M) : Tw d 70 117 [vI a] M := by
  have I0 := I
  obtain ⟨hL, hB, hD, hC, hF, hR, hP, hX⟩ := I0
  unfold Tw
  rw [uc 70, en_70]
  simp only [bq70_0, s_0, lgI_some, s_1I, s_3, s_29, cnP_0, cnP_1, cnP_2, cnP_3, cnP_4, cnP_5, s_30, s_32, s_47, lgR_some, s_53, res_0, res_1, nlg_n, nlg_I, nlg_R, Bool.true_and, Bool.and_self, Bool.and_true, lg_0, lg_1, lg_2, lg_3, lg_4, lg_5, lz_0, lz_1, lz_2, lz_3, lz_4, lz_5, lp_0, lp_1, lp_2, lp_3, lp_4, lp_5, isL_n, isL_I, isL_R, g_0_1, g_2_8, rc_79_0, rc_81_0, List.length_cons, List.length_nil, Nat.reduceAdd, Nat.reduceLT, Nat.reduceLeDiff, true_and, and_true, true_or, or_true, Int.reduceEq, Nat.reduceEqDiff, reduceCtorEq, true_implies, false_implies, not_true_eq_false, not_false_eq_true, Nat.zero_le, Int.zero_add, Nat.zero_add, Nat.lt_add_one, eq_self, forall_const, implies_true, Bool.false_eq_true, false_or, or_false, and_self, ne_eq, me_ne, me_self]
  refine l_70 hB hD hC hF hP (fun X x1 => ?_) (M 2 8).toNat M 0 (-1) 0 _ (Int.le_refl 0) (by have := hD.1; omega) (by omega) (fun _ _ _ _ => rfl) rfl
  rw [uc 117, en_117]
  simp only [bq117_0, s_0, lgI_some, s_1I, s_3, s_29, cnP_0, cnP_1, cnP_2, cnP_3, cnP_4, cnP_5, s_30, s_31, s_32, s_47, lgR_some, s_53, res_0, res_1, nlg_n, nlg_I, nlg_R, Bool.true_and, Bool.and_self, Bool.and_true, lg_0, lg_1, lg_2, lg_3, lg_4, lg_5, lg_6, lz_0, lz_1, lz_2, lz_3, lz_4, lz_5, lz_6, lp_0, lp_1, lp_2, lp_3, lp_4, lp_5, lp_6, isL_n, isL_I, isL_R, g_50_9, rc_97_50, List.length_cons, List.length_nil, Nat.reduceAdd, Nat.reduceLT, Nat.reduceLeDiff, true_and, and_true, true_or, or_true, Int.reduceEq, Nat.reduceEqDiff, reduceCtorEq, true_implies, false_implies, not_true_eq_false, not_false_eq_true, Nat.zero_le, Int.zero_add, Nat.zero_add, Nat.lt_add_one, eq_self, forall_const, implies_true, Bool.false_eq_true, false_or, or_false, and_self, ne_eq, me_ne, me_self]
  exact l_117 (M := M) (fun Y IY => ⟨rfl, IY⟩) (M 2 8).toNat X 0 (-1) 0 _ _ (c48_iv I x1) (Int.le_refl 0) (by have := hD.1; omega) (by omega) (fun k q1 q2 => x1 k (by omega) (by omega) q2) rfl
end BE

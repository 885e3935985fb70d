/-! the calls that only look -/
def lk (M : Me) (k hr : Int) : Nat → Int
  | 0 => -1
  | n + 1 => if M 33 (n : Int) = k ∧ M 35 (n : Int) ≤ hr then M 34 (n : Int) else lk M k hr n
def bu (f : Int → Int) : Nat → Int → Int → Int
  | 0, _, a => a
  | n + 1, h, a => bu f n (h + 1) (w32 (a + f h))
theorem bu_cg {f g : Int → Int} : ∀ (n : Nat) (h a : Int), (∀ i, h ≤ i → i < h + n → f i = g i) → bu f n h a = bu g n h a := by
  intro n
  induction n with
  | zero => intro h a _; rfl
  | succ n ih =>
    intro h a q
    simp only [bu]
    rw [q h (by omega) (by omega)]
    exact ih _ _ (fun i h1 h2 => q i (by omega) (by omega))
theorem bu_ap {f : Int → Int} : ∀ (n m : Nat) (h a : Int), bu f (n + m) h a = bu f m (h + n) (bu f n h a) := by
  intro n
  induction n with
  | zero => intro m h a; simp [bu]
  | succ n ih =>
    intro m h a
    rw [show n + 1 + m = (n + m) + 1 by omega]
    simp only [bu]
    rw [ih]
    congr 1
    omega
theorem bu_bd {f : Int → Int} : ∀ (n : Nat) (h a : Int), -2147483648 ≤ a → a < 2147483648 → -2147483648 ≤ bu f n h a ∧ bu f n h a < 2147483648 := by
  intro n
  induction n with
  | zero => intro h a h1 h2; exact ⟨h1, h2⟩
  | succ n ih => intro h a _ _; exact ih _ _ (w32_bd _).1 (w32_bd _).2
theorem bu_0 {f : Int → Int} : ∀ (n : Nat) (h a : Int), -2147483648 ≤ a → a < 2147483648 → (∀ i, h ≤ i → i < h + n → f i = 0) → bu f n h a = a := by
  intro n
  induction n with
  | zero => intro h a _ _ _; rfl
  | succ n ih =>
    intro h a h1 h2 q
    simp only [bu]
    rw [q h (by omega) (by omega), Int.add_zero, w32_id h1 h2]
    exact ih _ _ h1 h2 (fun i h3 h4 => q i (by omega) (by omega))
section RD
variable {d : Nat} {M : Me} {Q : Int → Me → Prop}
theorem c_50 {k hr : Int} (hn : 0 ≤ M 4 3 ∧ M 4 3 ≤ 100) (H : Q (lk M k hr (M 4 3).toNat) M) : Cl d 50 [vR 4, vI k, vI hr] M Q := by
  have lp : ∀ (n : Nat) (i : Int), i = (n : Int) - 1 → n ≤ 100 → Q (lk M k hr n) M → Rn d (blk 50 1) 50 [some (vR 4), some (vI k), some (vI hr), some (vI i)] [] M Q := by
    intro n
    induction n with
    | zero =>
      intro i hi _ H
      rw [bq50_1]
      simp only [bq50_2, bq50_3, s_0, lgI_some, s_3, s_5K, s_24, s_29, cnP_0, cnP_1, cnP_2, cnP_3, cnP_4, cnP_5, s_30, s_31, s_37i, s_37z, s_47, lgR_some, kd_9, kd_10, kd_11, kd_12, kd_13, kd_14, kd_15, kd_16, kd_17, kd_18, kd_19, kd_20, kd_21, kd_22, kd_23, kd_24, kd_25, kd_26, kd_27, kd_28, kd_29, kd_30, kd_31, kd_32, kd_33, kd_34, kd_35, kd_36, kd_37, kd_38, kd_39, kd_40, kd_41, kd_42, kd_43, kd_44, kd_45, kd_46, kd_47, kd_48, kd_49, ln_9, ln_10, ln_11, ln_12, ln_13, ln_14, ln_15, ln_16, ln_17, ln_18, ln_19, ln_20, ln_21, ln_22, ln_23, ln_24, ln_25, ln_26, ln_27, ln_28, ln_29, ln_30, ln_31, ln_32, ln_33, ln_34, ln_35, ln_36, ln_37, ln_38, ln_39, ln_40, ln_41, ln_42, ln_43, ln_44, ln_45, ln_46, ln_47, ln_48, ln_49, lg_0, lg_1, lg_2, lg_3, lz_0, lz_1, lz_2, lz_3, lp_0, lp_1, lp_2, lp_3, isL_n, isL_I, isL_R, g_4_0, g_4_1, g_4_2, List.length_cons, List.length_nil, Nat.reduceAdd, Nat.reduceLT, Nat.reduceLeDiff, true_and, and_true, true_or, or_true, Int.reduceEq, Nat.reduceEqDiff, reduceCtorEq, true_implies, false_implies, not_true_eq_false, not_false_eq_true, Nat.zero_le, Int.zero_add, Nat.zero_add, Nat.lt_add_one, eq_self, forall_const, implies_true, Bool.false_eq_true, false_or, or_false, and_self, ne_eq, me_ne, me_self, show i < 0 by omega]
      exact H
    | succ n ih =>
      intro i hi h1 H
      have e : i = (n : Int) := by omega
      rw [bq50_1]
      simp only [bq50_2, bq50_3, s_0, lgI_some, s_3, s_5K, s_24, s_29, cnP_0, cnP_1, cnP_2, cnP_3, cnP_4, cnP_5, s_30, s_31, s_37i, s_37z, s_47, lgR_some, kd_9, kd_10, kd_11, kd_12, kd_13, kd_14, kd_15, kd_16, kd_17, kd_18, kd_19, kd_20, kd_21, kd_22, kd_23, kd_24, kd_25, kd_26, kd_27, kd_28, kd_29, kd_30, kd_31, kd_32, kd_33, kd_34, kd_35, kd_36, kd_37, kd_38, kd_39, kd_40, kd_41, kd_42, kd_43, kd_44, kd_45, kd_46, kd_47, kd_48, kd_49, ln_9, ln_10, ln_11, ln_12, ln_13, ln_14, ln_15, ln_16, ln_17, ln_18, ln_19, ln_20, ln_21, ln_22, ln_23, ln_24, ln_25, ln_26, ln_27, ln_28, ln_29, ln_30, ln_31, ln_32, ln_33, ln_34, ln_35, ln_36, ln_37, ln_38, ln_39, ln_40, ln_41, ln_42, ln_43, ln_44, ln_45, ln_46, ln_47, ln_48, ln_49, lg_0, lg_1, lg_2, lg_3, lz_0, lz_1, lz_2, lz_3, lp_0, lp_1, lp_2, lp_3, isL_n, isL_I, isL_R, g_4_0, g_4_1, g_4_2, List.length_cons, List.length_nil, Nat.reduceAdd, Nat.reduceLT, Nat.reduceLeDiff, true_and, and_true, true_or, or_true, Int.reduceEq, Nat.reduceEqDiff, reduceCtorEq, true_implies, false_implies, not_true_eq_false, not_false_eq_true, Nat.zero_le, Int.zero_add, Nat.zero_add, Nat.lt_add_one, eq_self, forall_const, implies_true, Bool.false_eq_true, false_or, or_false, and_self, ne_eq, me_ne, me_self, show ¬ i < 0 by omega, show 0 ≤ i by omega, show i < 100 by omega, show w32 (i + -1) = i - 1 from w32_id (by omega) (by omega)]
      simp only [lk] at H
      rw [← e] at H
      refine ⟨fun q => ?_, fun q => ⟨fun q2 => ?_, fun q2 => ?_⟩⟩
      · rw [if_neg (fun z => q z.1)] at H
        exact ih _ (by omega) (by omega) H
      · rw [if_neg (fun z => by omega)] at H
        exact ih _ (by omega) (by omega) H
      · rwa [if_pos ⟨Classical.not_not.mp q, by omega⟩] at H
  unfold Cl
  rw [en_50]
  simp only [bq50_0, s_0, lgI_some, s_1I, s_3, s_7, s_24, s_29, cnP_0, cnP_1, cnP_2, cnP_3, cnP_4, cnP_5, s_30, s_32, s_37i, s_37z, s_47, lgR_some, kd_9, kd_10, kd_11, kd_12, kd_13, kd_14, kd_15, kd_16, kd_17, kd_18, kd_19, kd_20, kd_21, kd_22, kd_23, kd_24, kd_25, kd_26, kd_27, kd_28, kd_29, kd_30, kd_31, kd_32, kd_33, kd_34, kd_35, kd_36, kd_37, kd_38, kd_39, kd_40, kd_41, kd_42, kd_43, kd_44, kd_45, kd_46, kd_47, kd_48, kd_49, ln_9, ln_10, ln_11, ln_12, ln_13, ln_14, ln_15, ln_16, ln_17, ln_18, ln_19, ln_20, ln_21, ln_22, ln_23, ln_24, ln_25, ln_26, ln_27, ln_28, ln_29, ln_30, ln_31, ln_32, ln_33, ln_34, ln_35, ln_36, ln_37, ln_38, ln_39, ln_40, ln_41, ln_42, ln_43, ln_44, ln_45, ln_46, ln_47, ln_48, ln_49, lg_0, lg_1, lg_2, lg_3, lz_0, lz_1, lz_2, lz_3, lp_0, lp_1, lp_2, lp_3, isL_n, isL_I, isL_R, g_4_0, g_4_1, g_4_2, g_4_3, List.length_cons, List.length_nil, Nat.reduceAdd, Nat.reduceLT, Nat.reduceLeDiff, true_and, and_true, true_or, or_true, Int.reduceEq, Nat.reduceEqDiff, reduceCtorEq, true_implies, false_implies, not_true_eq_false, not_false_eq_true, Nat.zero_le, Int.zero_add, Nat.zero_add, Nat.lt_add_one, eq_self, forall_const, implies_true, Bool.false_eq_true, false_or, or_false, and_self, ne_eq, me_ne, me_self, show w32 (M 4 3 - 1) = M 4 3 - 1 from w32_id (by omega) (by omega)]
  exact lp _ _ (by omega) (by omega) H
theorem c_100 {k : Int} (hL : IvL M) (hn : 0 ≤ M 4 3 ∧ M 4 3 ≤ 100) (H : Q (lk M k (M 5 2) (M 4 3).toNat) M) : Cl d 100 [vR 50, vI k] M Q := by
  obtain ⟨⟨l51, l52, l53, l54, l55, l56, l57⟩, ⟨l58, l59, l60, l61, l62, l63, l64⟩, ⟨l66, l67, l68⟩, ⟨l69, l70, l71, l72⟩, ⟨n0, n1, n9, n18, n19, n23⟩⟩ := hL
  have lp : ∀ (n : Nat) (i v : Int), 0 ≤ i → i + (n : Int) = M 4 3 → v = lk M k (M 5 2) i.toNat → Rn d (blk 100 1) 100 [some (vR 50), some (vI k), some (vI v), some (vI i)] [] M Q := by
    intro n
    induction n with
    | zero =>
      intro i v h0 h1 hv
      rw [bq100_1]
      simp only [bq100_2, bq100_3, s_0, lgI_some, s_1I, s_5K, s_24, s_30, cnP_0, cnP_1, cnP_2, cnP_3, cnP_4, cnP_5, s_31, s_32, s_37i, s_37z, s_47, lgR_some, kd_51, kd_52, kd_53, kd_54, kd_55, kd_56, kd_57, kd_58, kd_59, kd_60, kd_61, kd_62, kd_63, kd_64, kd_65, kd_66, kd_67, kd_68, kd_69, kd_70, kd_71, kd_72, kd_73, kd_74, kd_75, kd_76, kd_77, kd_78, kd_79, kd_80, kd_81, kd_82, kd_83, kd_84, kd_85, ln_51, ln_52, ln_53, ln_54, ln_55, ln_56, ln_57, ln_58, ln_59, ln_60, ln_61, ln_62, ln_63, ln_64, ln_65, ln_66, ln_67, ln_68, ln_69, ln_70, ln_71, ln_72, ln_73, ln_74, ln_75, ln_76, ln_77, ln_78, ln_79, ln_80, ln_81, ln_82, ln_83, ln_84, ln_85, lg_0, lg_1, lg_2, lg_3, lz_0, lz_1, lz_2, lz_3, lp_0, lp_1, lp_2, lp_3, isL_n, isL_I, isL_R, g_50_0, g_50_19, g_50_20, g_50_21, g_50_22, List.length_cons, List.length_nil, Nat.reduceAdd, Nat.reduceLT, Nat.reduceLeDiff, true_and, and_true, true_or, or_true, Int.reduceEq, Nat.reduceEqDiff, reduceCtorEq, true_implies, false_implies, not_true_eq_false, not_false_eq_true, Nat.zero_le, Int.zero_add, Nat.zero_add, Nat.lt_add_one, eq_self, forall_const, implies_true, Bool.false_eq_true, false_or, or_false, and_self, ne_eq, me_ne, me_self, n19, show M 4 3 ≤ i by omega]
      rw [hv, show i = M 4 3 by omega]
      exact H
    | succ n ih =>
      intro i v h0 h1 hv
      have e : ((i.toNat : Nat) : Int) = i := by omega
      rw [bq100_1]
      simp only [bq100_2, bq100_3, s_0, lgI_some, s_1I, s_5K, s_24, s_30, cnP_0, cnP_1, cnP_2, cnP_3, cnP_4, cnP_5, s_31, s_32, s_37i, s_37z, s_47, lgR_some, kd_51, kd_52, kd_53, kd_54, kd_55, kd_56, kd_57, kd_58, kd_59, kd_60, kd_61, kd_62, kd_63, kd_64, kd_65, kd_66, kd_67, kd_68, kd_69, kd_70, kd_71, kd_72, kd_73, kd_74, kd_75, kd_76, kd_77, kd_78, kd_79, kd_80, kd_81, kd_82, kd_83, kd_84, kd_85, ln_51, ln_52, ln_53, ln_54, ln_55, ln_56, ln_57, ln_58, ln_59, ln_60, ln_61, ln_62, ln_63, ln_64, ln_65, ln_66, ln_67, ln_68, ln_69, ln_70, ln_71, ln_72, ln_73, ln_74, ln_75, ln_76, ln_77, ln_78, ln_79, ln_80, ln_81, ln_82, ln_83, ln_84, ln_85, lg_0, lg_1, lg_2, lg_3, lz_0, lz_1, lz_2, lz_3, lp_0, lp_1, lp_2, lp_3, isL_n, isL_I, isL_R, g_50_0, g_50_19, g_50_20, g_50_21, g_50_22, List.length_cons, List.length_nil, Nat.reduceAdd, Nat.reduceLT, Nat.reduceLeDiff, true_and, and_true, true_or, or_true, Int.reduceEq, Nat.reduceEqDiff, reduceCtorEq, true_implies, false_implies, not_true_eq_false, not_false_eq_true, Nat.zero_le, Int.zero_add, Nat.zero_add, Nat.lt_add_one, eq_self, forall_const, implies_true, Bool.false_eq_true, false_or, or_false, and_self, ne_eq, me_ne, me_self, n19, n0, l66, l67, l68, show ¬ M 4 3 ≤ i by omega, h0, show i < 100 by omega, show w32 (i + 1) = i + 1 from w32_id (by omega) (by omega)]
      have e2 : lk M k (M 5 2) (i + 1).toNat = if M 33 i = k ∧ M 35 i ≤ M 5 2 then M 34 i else lk M k (M 5 2) i.toNat := by
        rw [show (i + 1).toNat = i.toNat + 1 by omega]; simp only [lk]; rw [e]
      refine ⟨fun q => ?_, fun q => ⟨fun q2 => ?_, fun q2 => ?_⟩⟩
      · exact ih _ _ (by omega) (by omega) (by rw [e2, if_neg (fun z => q z.1)]; exact hv)
      · exact ih _ _ (by omega) (by omega) (by rw [e2, if_neg (fun z => by omega)]; exact hv)
      · exact ih _ _ (by omega) (by omega) (by rw [e2, if_pos ⟨Classical.not_not.mp q, by omega⟩])
  unfold Cl
  rw [en_100]
  simp only [bq100_0, s_0, lgI_some, s_1I, s_3, s_24, s_30, cnP_0, cnP_1, cnP_2, cnP_3, cnP_4, cnP_5, s_32, s_47, lgR_some, kd_51, kd_52, kd_53, kd_54, kd_55, kd_56, kd_57, kd_58, kd_59, kd_60, kd_61, kd_62, kd_63, kd_64, kd_65, kd_66, kd_67, kd_68, kd_69, kd_70, kd_71, kd_72, kd_73, kd_74, kd_75, kd_76, kd_77, kd_78, kd_79, kd_80, kd_81, kd_82, kd_83, kd_84, kd_85, ln_51, ln_52, ln_53, ln_54, ln_55, ln_56, ln_57, ln_58, ln_59, ln_60, ln_61, ln_62, ln_63, ln_64, ln_65, ln_66, ln_67, ln_68, ln_69, ln_70, ln_71, ln_72, ln_73, ln_74, ln_75, ln_76, ln_77, ln_78, ln_79, ln_80, ln_81, ln_82, ln_83, ln_84, ln_85, lg_0, lg_1, lg_2, lg_3, lz_0, lz_1, lz_2, lz_3, lp_0, lp_1, lp_2, lp_3, isL_n, isL_I, isL_R, g_50_0, g_50_19, g_50_20, g_50_21, g_50_22, List.length_cons, List.length_nil, Nat.reduceAdd, Nat.reduceLT, Nat.reduceLeDiff, true_and, and_true, true_or, or_true, Int.reduceEq, Nat.reduceEqDiff, reduceCtorEq, true_implies, false_implies, not_true_eq_false, not_false_eq_true, Nat.zero_le, Int.zero_add, Nat.zero_add, Nat.lt_add_one, eq_self, forall_const, implies_true, Bool.false_eq_true, false_or, or_false, and_self, ne_eq, me_ne, me_self]
  exact lp (M 4 3).toNat 0 (-1) (by omega) (by omega) rfl
theorem lk_no {k hr : Int} (hk : ¬ (0 ≤ k ∧ k < M 2 8)) (hP : IvP M) : ∀ n : Nat, (n : Int) ≤ M 4 3 → lk M k hr n = -1 := by
  intro n
  induction n with
  | zero => intro _; rfl
  | succ n ih =>
    intro h
    simp only [lk]
    have := hP.2.2 n (by omega) (by omega)
    rw [if_neg (fun z => hk (by rw [← z.1]; exact this.1))]
    exact ih (by omega)
theorem lk_ge {k hr : Int} (hP : IvP M) : ∀ n : Nat, (n : Int) ≤ M 4 3 → -1 ≤ lk M k hr n := by
  intro n
  induction n with
  | zero => intro _; exact Int.le_refl _
  | succ n ih =>
    intro h
    simp only [lk]
    have := hP.2.2 n (by omega) (by omega)
    split
    · omega
    · exact ih (by omega)
theorem p_60 {a : Int} (I : Iv M) : Tw d 60 100 [vI a] M := by
  have I0 := I
  obtain ⟨hL, hB, hD, hC, hF, hR, hP, hX⟩ := I0
  unfold Tw
  rw [uc 60, en_60]
  by_cases k0 : 0 ≤ a ∧ a < M 2 8
  · simp only [bq60_0, bq60_1, bq60_2, s_0, lgI_some, s_3, s_29, cnP_0, cnP_1, cnP_2, cnP_3, cnP_4, cnP_5, s_31, s_32, s_37i, s_37z, s_47, lgR_some, s_52, s_53, res_0, res_1, nlg_n, nlg_I, nlg_R, Bool.true_and, Bool.and_self, Bool.and_true, lg_0, lg_1, g_0_1, g_0_3, g_0_4, g_5_2, g_8_2, rc_50_4, rc_7_2, List.length_cons, List.length_nil, Nat.reduceAdd, Nat.reduceLT, Nat.reduceLeDiff, true_and, and_true, true_or, or_true, Int.reduceEq, Nat.reduceEqDiff, reduceCtorEq, true_implies, false_implies, not_true_eq_false, not_false_eq_true, Nat.zero_le, Int.zero_add, Nat.zero_add, Nat.lt_add_one, eq_self, forall_const, implies_true, Bool.false_eq_true, false_or, or_false, and_self, ne_eq, me_ne, me_self, q_7, b01_z, k0.1, k0.2]
    exact c_50 hP.2.1 (c_100 hL hP.2.1 ⟨rfl, I⟩)
  · simp only [bq60_0, bq60_1, bq60_2, s_0, lgI_some, s_3, s_29, cnP_0, cnP_1, cnP_2, cnP_3, cnP_4, cnP_5, s_31, s_32, s_37i, s_37z, s_47, lgR_some, s_52, s_53, res_0, res_1, nlg_n, nlg_I, nlg_R, Bool.true_and, Bool.and_self, Bool.and_true, lg_0, lg_1, g_0_1, g_0_3, g_0_4, g_5_2, g_8_2, rc_50_4, rc_7_2, List.length_cons, List.length_nil, Nat.reduceAdd, Nat.reduceLT, Nat.reduceLeDiff, true_and, and_true, true_or, or_true, Int.reduceEq, Nat.reduceEqDiff, reduceCtorEq, true_implies, false_implies, not_true_eq_false, not_false_eq_true, Nat.zero_le, Int.zero_add, Nat.zero_add, Nat.lt_add_one, eq_self, forall_const, implies_true, Bool.false_eq_true, false_or, or_false, and_self, ne_eq, me_ne, me_self, q_7, b01_z, k0]
    exact c_100 hL hP.2.1 ⟨(lk_no k0 hP _ (by have := hP.2.1; omega)).symm, I⟩
/-- the worst: from i on, n more -/
def wf (f : Int → Int) : Nat → Int → Int → Int
  | 0, _, b => b
  | n + 1, i, b => wf f n (i + 1) (if f i ≠ -1 ∧ (b = -1 ∨ f b < f i) then i else b)
theorem p_61 (I : Iv M) : Tw d 61 101 [] M := by
  have I0 := I
  obtain ⟨hL, hB, hD, hC, hF, hR, hP, hX⟩ := I0
  have hL' := hL
  obtain ⟨⟨l51, l52, l53, l54, l55, l56, l57⟩, ⟨l58, l59, l60, l61, l62, l63, l64⟩, ⟨l66, l67, l68⟩, ⟨l69, l70, l71, l72⟩, ⟨n0, n1, n9, n18, n19, n23⟩⟩ := hL'
  have hd := hD.1
  have hw : ∀ k, -1 ≤ lk M k (M 5 2) (M 4 3).toNat := fun k => lk_ge hP _ (by have := hP.2.1; omega)
  have lc : ∀ (Q : Int → Me → Prop) (n : Nat) (i b m : Int) (x : Option AV), 0 ≤ i → i + (n : Int) = M 2 8 → (m = if b = -1 then -1 else lk M b (M 5 2) (M 4 3).toNat) → Q (wf (fun k => lk M k (M 5 2) (M 4 3).toNat) n i b) M → Rn (d + 6) (blk 61 1) 61 [some (vR 0), some (vI b), some (vI m), some (vI i), x] [] M Q := by
    intro Q n
    induction n with
    | zero =>
      intro i b m x h0 h1 hm H
      rw [bq61_1]
      simp only [bq61_2, bq61_3, s_0, lgI_some, s_1I, s_5K, s_30, cnP_0, cnP_1, cnP_2, cnP_3, cnP_4, cnP_5, s_31, s_32, s_37i, s_37z, s_47, lgR_some, s_53, res_0, res_1, nlg_n, nlg_I, nlg_R, Bool.true_and, Bool.and_self, Bool.and_true, lg_0, lg_1, lg_2, lg_3, lg_4, lz_0, lz_1, lz_2, lz_3, lz_4, lp_0, lp_1, lp_2, lp_3, lp_4, isL_n, isL_I, isL_R, g_0_1, g_0_3, g_0_4, g_2_8, g_5_2, g_8_2, rc_50_4, List.length_cons, List.length_nil, Nat.reduceAdd, Nat.reduceLT, Nat.reduceLeDiff, true_and, and_true, true_or, or_true, Int.reduceEq, Nat.reduceEqDiff, reduceCtorEq, true_implies, false_implies, not_true_eq_false, not_false_eq_true, Nat.zero_le, Int.zero_add, Nat.zero_add, Nat.lt_add_one, eq_self, forall_const, implies_true, Bool.false_eq_true, false_or, or_false, and_self, ne_eq, me_ne, me_self, show M 2 8 ≤ i by omega]
      exact H
    | succ n ih =>
      intro i b m x h0 h1 hm H
      rw [bq61_1]
      simp only [bq61_2, bq61_3, s_0, lgI_some, s_1I, s_5K, s_30, cnP_0, cnP_1, cnP_2, cnP_3, cnP_4, cnP_5, s_31, s_32, s_37i, s_37z, s_47, lgR_some, s_53, res_0, res_1, nlg_n, nlg_I, nlg_R, Bool.true_and, Bool.and_self, Bool.and_true, lg_0, lg_1, lg_2, lg_3, lg_4, lz_0, lz_1, lz_2, lz_3, lz_4, lp_0, lp_1, lp_2, lp_3, lp_4, isL_n, isL_I, isL_R, g_0_1, g_0_3, g_0_4, g_2_8, g_5_2, g_8_2, rc_50_4, List.length_cons, List.length_nil, Nat.reduceAdd, Nat.reduceLT, Nat.reduceLeDiff, true_and, and_true, true_or, or_true, Int.reduceEq, Nat.reduceEqDiff, reduceCtorEq, true_implies, false_implies, not_true_eq_false, not_false_eq_true, Nat.zero_le, Int.zero_add, Nat.zero_add, Nat.lt_add_one, eq_self, forall_const, implies_true, Bool.false_eq_true, false_or, or_false, and_self, ne_eq, me_ne, me_self, show ¬ M 2 8 ≤ i by omega, show w32 (i + 1) = i + 1 from w32_id (by omega) (by omega)]
      refine c_50 hP.2.1 ?_
      simp only [wf] at H
      have g1 := hw i
      have g2 := hw b
      refine ⟨fun q => ?_, fun q => ?_⟩
      · rw [if_neg (fun z => by
          by_cases y : b = -1
          · rw [if_pos y] at hm; omega
          · rw [if_neg y] at hm; omega)] at H
        exact ih _ _ _ _ (by omega) (by omega) hm H
      · rw [if_pos (by
          by_cases y : b = -1
          · rw [if_pos y] at hm; omega
          · rw [if_neg y] at hm; omega)] at H
        exact ih _ _ _ _ (by omega) (by omega) (by rw [if_neg (by omega)]) H
  have lr : ∀ (Q : Int → Me → Prop) (n : Nat) (i b : Int), 0 ≤ i → i + (n : Int) = M 2 8 → Q (wf (fun k => lk M k (M 5 2) (M 4 3).toNat) n i b) M → Rn (d + 6) (blk 101 1) 101 [some (vR 50), some (vI b), some (vI i)] [] M Q := by
    intro Q n
    induction n with
    | zero =>
      intro i b h0 h1 H
      rw [bq101_1]
      simp only [bq101_2, bq101_3, bq101_4, s_0, lgI_some, s_1I, s_3, s_5K, s_30, cnP_0, cnP_1, cnP_2, cnP_3, cnP_4, cnP_5, s_31, s_32, s_37i, s_37z, s_47, lgR_some, s_52, res_0, res_1, nlg_n, nlg_I, nlg_R, Bool.true_and, Bool.and_self, Bool.and_true, lg_0, lg_1, lg_2, lz_0, lz_1, lz_2, lp_0, lp_1, lp_2, isL_n, isL_I, isL_R, g_50_9, rc_100_50, List.length_cons, List.length_nil, Nat.reduceAdd, Nat.reduceLT, Nat.reduceLeDiff, true_and, and_true, true_or, or_true, Int.reduceEq, Nat.reduceEqDiff, reduceCtorEq, true_implies, false_implies, not_true_eq_false, not_false_eq_true, Nat.zero_le, Int.zero_add, Nat.zero_add, Nat.lt_add_one, eq_self, forall_const, implies_true, Bool.false_eq_true, false_or, or_false, and_self, ne_eq, me_ne, me_self, n9, show M 2 8 ≤ i by omega]
      exact H
    | succ n ih =>
      intro i b h0 h1 H
      rw [bq101_1]
      simp only [bq101_2, bq101_3, bq101_4, s_0, lgI_some, s_1I, s_3, s_5K, s_30, cnP_0, cnP_1, cnP_2, cnP_3, cnP_4, cnP_5, s_31, s_32, s_37i, s_37z, s_47, lgR_some, s_52, res_0, res_1, nlg_n, nlg_I, nlg_R, Bool.true_and, Bool.and_self, Bool.and_true, lg_0, lg_1, lg_2, lz_0, lz_1, lz_2, lp_0, lp_1, lp_2, isL_n, isL_I, isL_R, g_50_9, rc_100_50, List.length_cons, List.length_nil, Nat.reduceAdd, Nat.reduceLT, Nat.reduceLeDiff, true_and, and_true, true_or, or_true, Int.reduceEq, Nat.reduceEqDiff, reduceCtorEq, true_implies, false_implies, not_true_eq_false, not_false_eq_true, Nat.zero_le, Int.zero_add, Nat.zero_add, Nat.lt_add_one, eq_self, forall_const, implies_true, Bool.false_eq_true, false_or, or_false, and_self, ne_eq, me_ne, me_self, n9, show ¬ M 2 8 ≤ i by omega, show w32 (i + 1) = i + 1 from w32_id (by omega) (by omega)]
      simp only [wf] at H
      refine c_100 hL hP.2.1 ?_
      refine ⟨fun q => ?_, fun q => ⟨fun q2 => ?_, fun q2 => ?_⟩⟩
      · rw [if_neg (fun z => z.1 q)] at H
        exact ih _ _ (by omega) (by omega) H
      · rw [if_pos ⟨q, Or.inl q2⟩] at H
        exact ih _ _ (by omega) (by omega) H
      · refine c_100 hL hP.2.1 (c_100 hL hP.2.1 ?_)
        refine ⟨fun q3 => ?_, fun q3 => ?_⟩
        · rw [if_neg (fun z => by omega)] at H
          exact ih _ _ (by omega) (by omega) H
        · rw [if_pos ⟨q, Or.inr (by omega)⟩] at H
          exact ih _ _ (by omega) (by omega) H
  unfold Tw
  rw [uc 61, en_61]
  simp only [bq61_0, s_0, lgI_some, s_1I, s_3, s_30, cnP_0, cnP_1, cnP_2, cnP_3, cnP_4, cnP_5, s_32, s_47, lgR_some, s_53, res_0, res_1, nlg_n, nlg_I, nlg_R, Bool.true_and, Bool.and_self, Bool.and_true, lg_0, lg_1, lg_2, lg_3, lg_4, lz_0, lz_1, lz_2, lz_3, lz_4, lp_0, lp_1, lp_2, lp_3, lp_4, isL_n, isL_I, isL_R, g_0_1, g_0_3, g_0_4, g_2_8, g_5_2, g_8_2, rc_50_4, List.length_cons, List.length_nil, Nat.reduceAdd, Nat.reduceLT, Nat.reduceLeDiff, true_and, and_true, true_or, or_true, Int.reduceEq, Nat.reduceEqDiff, reduceCtorEq, true_implies, false_implies, not_true_eq_false, not_false_eq_true, Nat.zero_le, Int.zero_add, Nat.zero_add, Nat.lt_add_one, eq_self, forall_const, implies_true, Bool.false_eq_true, false_or, or_false, and_self, ne_eq, me_ne, me_self]
  refine lc _ (M 2 8).toNat _ _ _ _ (by omega) (by omega) (by rw [if_pos rfl]) ?_
  rw [uc 101, en_101]
  simp only [bq101_0, s_0, lgI_some, s_1I, s_3, s_30, cnP_0, cnP_1, cnP_2, cnP_3, cnP_4, cnP_5, s_32, s_47, lgR_some, s_52, res_0, res_1, nlg_n, nlg_I, nlg_R, Bool.true_and, Bool.and_self, Bool.and_true, lg_0, lg_1, lg_2, lz_0, lz_1, lz_2, lp_0, lp_1, lp_2, isL_n, isL_I, isL_R, g_50_9, rc_100_50, List.length_cons, List.length_nil, Nat.reduceAdd, Nat.reduceLT, Nat.reduceLeDiff, true_and, and_true, true_or, or_true, Int.reduceEq, Nat.reduceEqDiff, reduceCtorEq, true_implies, false_implies, not_true_eq_false, not_false_eq_true, Nat.zero_le, Int.zero_add, Nat.zero_add, Nat.lt_add_one, eq_self, forall_const, implies_true, Bool.false_eq_true, false_or, or_false, and_self, ne_eq, me_ne, me_self]
  exact lr _ (M 2 8).toNat _ _ (by omega) (by omega) ⟨rfl, I⟩
end RD

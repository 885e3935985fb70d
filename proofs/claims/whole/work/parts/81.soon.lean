/-! soonest -/
def FH (g : Int → Int) (now r : Int) : Prop := now ≤ r ∧ r ≤ 100 ∧ g r = g 100 ∧ ∀ h, now ≤ h → h < r → g h ≠ g 100
theorem FH_un {g : Int → Int} {now r r' : Int} (h : FH g now r) (h' : FH g now r') : r = r' := by
  obtain ⟨a1, a2, a3, a4⟩ := h
  obtain ⟨b1, b2, b3, b4⟩ := h'
  by_cases z : r < r'
  · exact (b4 r a1 z a3).elim
  · by_cases y : r' < r
    · exact (a4 r' b1 y b3).elim
    · omega
section SO
variable {d : Nat} {K M X Y : Me} {t : Int} {Q : Int → Me → Prop}
theorem kz_50 (h : ∀ k, k < 50 → X k = M k) : kz X = kz M := by
  funext k
  unfold kz
  repeat' split
  all_goals first | rfl | exact h k (by omega)
theorem Mx_50 (h : ∀ k, k < 50 → X k = M k) : Mx X = Mx M := by
  rw [← kz_Mx X, kz_50 h, kz_Mx]
theorem c_15 (hn : M 7 12 = M 5 2) (h0 : 0 ≤ M 5 2) (h1 : M 5 2 ≤ 100) (H1 : M 39 100 < 1 → Q (-1) M) (H2 : 1 ≤ M 39 100 → ∀ r, FH (M 39) (M 5 2) r → Q r M) : Cl d 15 [vR 7] M Q := by
  unfold Cl
  rw [en_15]
  by_cases z : M 39 100 < 1
  · simp only [bq15_0, s_0, lgI_some, s_1I, s_3, s_24, s_30, cnP_0, cnP_1, cnP_2, cnP_3, cnP_4, cnP_5, s_32, s_37i, s_37z, s_47, lgR_some, kd_9, kd_10, kd_11, kd_12, kd_13, kd_14, kd_15, kd_16, kd_17, kd_18, kd_19, kd_20, kd_21, kd_22, kd_23, kd_24, kd_25, kd_26, kd_27, kd_28, kd_29, kd_30, kd_31, kd_32, kd_33, kd_34, kd_35, kd_36, kd_37, kd_38, kd_39, kd_40, kd_41, kd_42, kd_43, kd_44, kd_45, kd_46, kd_47, kd_48, kd_49, ln_9, ln_10, ln_11, ln_12, ln_13, ln_14, ln_15, ln_16, ln_17, ln_18, ln_19, ln_20, ln_21, ln_22, ln_23, ln_24, ln_25, ln_26, ln_27, ln_28, ln_29, ln_30, ln_31, ln_32, ln_33, ln_34, ln_35, ln_36, ln_37, ln_38, ln_39, ln_40, ln_41, ln_42, ln_43, ln_44, ln_45, ln_46, ln_47, ln_48, ln_49, lg_0, lg_1, lg_2, lz_0, lz_1, lz_2, lp_0, lp_1, lp_2, isL_n, isL_I, isL_R, g_7_0, g_7_12, List.length_cons, List.length_nil, Nat.reduceAdd, Nat.reduceLT, Nat.reduceLeDiff, true_and, and_true, true_or, or_true, Int.reduceEq, Nat.reduceEqDiff, reduceCtorEq, true_implies, false_implies, not_true_eq_false, not_false_eq_true, Nat.zero_le, Int.zero_add, Nat.zero_add, Nat.lt_add_one, eq_self, forall_const, implies_true, Bool.false_eq_true, false_or, or_false, and_self, ne_eq, me_ne, me_self, show ¬ 1 ≤ M 39 100 by omega]
    exact ⟨by omega, H1 z⟩
  · simp only [bq15_0, bq15_1, s_0, lgI_some, s_1I, s_3, s_24, s_30, cnP_0, cnP_1, cnP_2, cnP_3, cnP_4, cnP_5, s_32, s_37i, s_37z, s_47, lgR_some, kd_9, kd_10, kd_11, kd_12, kd_13, kd_14, kd_15, kd_16, kd_17, kd_18, kd_19, kd_20, kd_21, kd_22, kd_23, kd_24, kd_25, kd_26, kd_27, kd_28, kd_29, kd_30, kd_31, kd_32, kd_33, kd_34, kd_35, kd_36, kd_37, kd_38, kd_39, kd_40, kd_41, kd_42, kd_43, kd_44, kd_45, kd_46, kd_47, kd_48, kd_49, ln_9, ln_10, ln_11, ln_12, ln_13, ln_14, ln_15, ln_16, ln_17, ln_18, ln_19, ln_20, ln_21, ln_22, ln_23, ln_24, ln_25, ln_26, ln_27, ln_28, ln_29, ln_30, ln_31, ln_32, ln_33, ln_34, ln_35, ln_36, ln_37, ln_38, ln_39, ln_40, ln_41, ln_42, ln_43, ln_44, ln_45, ln_46, ln_47, ln_48, ln_49, lg_0, lg_1, lg_2, lz_0, lz_1, lz_2, lp_0, lp_1, lp_2, isL_n, isL_I, isL_R, g_7_0, g_7_12, List.length_cons, List.length_nil, Nat.reduceAdd, Nat.reduceLT, Nat.reduceLeDiff, true_and, and_true, true_or, or_true, Int.reduceEq, Nat.reduceEqDiff, reduceCtorEq, true_implies, false_implies, not_true_eq_false, not_false_eq_true, Nat.zero_le, Int.zero_add, Nat.zero_add, Nat.lt_add_one, eq_self, forall_const, implies_true, Bool.false_eq_true, false_or, or_false, and_self, ne_eq, me_ne, me_self, show 1 ≤ M 39 100 by omega, hn]
    refine ⟨by omega, ?_⟩
    have lp : ∀ (n : Nat) (h : Int), M 5 2 ≤ h → h + (n : Int) = 100 → (∀ i, M 5 2 ≤ i → i < h → M 39 i ≠ M 39 100) → Rn d (blk 15 2) 15 [some (vR 7), some (vI (M 39 100)), some (vI h)] [] M Q := by
      intro n
      induction n with
      | zero =>
        intro h g0 g1 hh
        have e : h = 100 := by omega
        subst e
        rw [bq15_2]
        simp only [bq15_3, bq15_4, s_0, lgI_some, s_3, s_5K, s_24, s_30, cnP_0, cnP_1, cnP_2, cnP_3, cnP_4, cnP_5, s_31, s_37i, s_37z, s_47, lgR_some, kd_9, kd_10, kd_11, kd_12, kd_13, kd_14, kd_15, kd_16, kd_17, kd_18, kd_19, kd_20, kd_21, kd_22, kd_23, kd_24, kd_25, kd_26, kd_27, kd_28, kd_29, kd_30, kd_31, kd_32, kd_33, kd_34, kd_35, kd_36, kd_37, kd_38, kd_39, kd_40, kd_41, kd_42, kd_43, kd_44, kd_45, kd_46, kd_47, kd_48, kd_49, ln_9, ln_10, ln_11, ln_12, ln_13, ln_14, ln_15, ln_16, ln_17, ln_18, ln_19, ln_20, ln_21, ln_22, ln_23, ln_24, ln_25, ln_26, ln_27, ln_28, ln_29, ln_30, ln_31, ln_32, ln_33, ln_34, ln_35, ln_36, ln_37, ln_38, ln_39, ln_40, ln_41, ln_42, ln_43, ln_44, ln_45, ln_46, ln_47, ln_48, ln_49, lg_0, lg_1, lg_2, lz_0, lz_1, lz_2, lp_0, lp_1, lp_2, isL_n, isL_I, isL_R, g_7_0, List.length_cons, List.length_nil, Nat.reduceAdd, Nat.reduceLT, Nat.reduceLeDiff, true_and, and_true, true_or, or_true, Int.reduceEq, Nat.reduceEqDiff, reduceCtorEq, true_implies, false_implies, not_true_eq_false, not_false_eq_true, Nat.zero_le, Int.zero_add, Nat.zero_add, Nat.lt_add_one, eq_self, forall_const, implies_true, Bool.false_eq_true, false_or, or_false, and_self, ne_eq, me_ne, me_self]
        exact ⟨fun _ => H2 (by omega) 100 ⟨g0, Int.le_refl _, rfl, hh⟩, fun q => by omega⟩
      | succ n ih =>
        intro h g0 g1 hh
        rw [bq15_2]
        simp only [bq15_3, bq15_4, s_0, lgI_some, s_3, s_5K, s_24, s_30, cnP_0, cnP_1, cnP_2, cnP_3, cnP_4, cnP_5, s_31, s_37i, s_37z, s_47, lgR_some, kd_9, kd_10, kd_11, kd_12, kd_13, kd_14, kd_15, kd_16, kd_17, kd_18, kd_19, kd_20, kd_21, kd_22, kd_23, kd_24, kd_25, kd_26, kd_27, kd_28, kd_29, kd_30, kd_31, kd_32, kd_33, kd_34, kd_35, kd_36, kd_37, kd_38, kd_39, kd_40, kd_41, kd_42, kd_43, kd_44, kd_45, kd_46, kd_47, kd_48, kd_49, ln_9, ln_10, ln_11, ln_12, ln_13, ln_14, ln_15, ln_16, ln_17, ln_18, ln_19, ln_20, ln_21, ln_22, ln_23, ln_24, ln_25, ln_26, ln_27, ln_28, ln_29, ln_30, ln_31, ln_32, ln_33, ln_34, ln_35, ln_36, ln_37, ln_38, ln_39, ln_40, ln_41, ln_42, ln_43, ln_44, ln_45, ln_46, ln_47, ln_48, ln_49, lg_0, lg_1, lg_2, lz_0, lz_1, lz_2, lp_0, lp_1, lp_2, isL_n, isL_I, isL_R, g_7_0, List.length_cons, List.length_nil, Nat.reduceAdd, Nat.reduceLT, Nat.reduceLeDiff, true_and, and_true, true_or, or_true, Int.reduceEq, Nat.reduceEqDiff, reduceCtorEq, true_implies, false_implies, not_true_eq_false, not_false_eq_true, Nat.zero_le, Int.zero_add, Nat.zero_add, Nat.lt_add_one, eq_self, forall_const, implies_true, Bool.false_eq_true, false_or, or_false, and_self, ne_eq, me_ne, me_self, show ¬ 100 ≤ h by omega, show 0 ≤ h by omega, show h < 101 by omega, show w32 (h + 1) = h + 1 from w32_id (by omega) (by omega)]
        refine ⟨fun q => ih (h + 1) (by omega) (by omega) (fun i i0 i1 => ?_), fun q => H2 (by omega) h ⟨g0, by omega, Classical.not_not.mp q, hh⟩⟩
        by_cases y : i = h
        · rw [y]; exact q
        · exact hh i i0 (by omega)
    exact lp (100 - M 5 2).toNat (M 5 2) (Int.le_refl _) (by omega) (fun i a b => by omega)
theorem l_127 {all : Int} {g : Int → Int} (h0 : 0 ≤ M 5 2) (h1 : M 5 2 ≤ 100) (hg : ∀ t, M 5 2 ≤ t → t ≤ 100 → Mx M t (g t)) (ea : all = g 100) (H : ∀ X r, Iv X → FH g (M 5 2) r → Q r X) :
    ∀ (n : Nat) (Y : Me) (lo hi : Int) (x : Option AV), Iv Y → Y 6 2 ≠ 0 → (∀ k, k < 50 → Y k = M k) → M 5 2 ≤ lo → lo ≤ hi → hi ≤ 100 → hi - lo < n → g hi = all → (∀ i, M 5 2 ≤ i → i < lo → g i ≠ all) → Rn (d + 6) (blk 127 2) 127 [some (vR 50), some (vI all), some (vI lo), some (vI hi), x] [] Y Q := by
  intro n
  induction n with
  | zero => intro Y lo hi x IY y6 f a b c e; omega
  | succ n ih =>
    intro Y lo hi x IY y6 f a b c e gh hl
    rw [bq127_2]
    by_cases q : hi ≤ lo
    · simp only [bq127_3, bq127_4, bq127_5, s_0, lgI_some, s_1I, s_3, s_6, s_13, s_30, cnP_0, cnP_1, cnP_2, cnP_3, cnP_4, cnP_5, s_31, s_32, s_37i, s_37z, s_47, lgR_some, s_52, res_0, res_1, nlg_n, nlg_I, nlg_R, Bool.true_and, Bool.and_self, Bool.and_true, lg_0, lg_1, lg_2, lg_3, lg_4, lz_0, lz_1, lz_2, lz_3, lz_4, lp_0, lp_1, lp_2, lp_3, lp_4, isL_n, isL_I, isL_R, rc_125_50, List.length_cons, List.length_nil, Nat.reduceAdd, Nat.reduceLT, Nat.reduceLeDiff, true_and, and_true, true_or, or_true, Int.reduceEq, Nat.reduceEqDiff, reduceCtorEq, true_implies, false_implies, not_true_eq_false, not_false_eq_true, Nat.zero_le, Int.zero_add, Nat.zero_add, Nat.lt_add_one, eq_self, forall_const, implies_true, Bool.false_eq_true, false_or, or_false, and_self, ne_eq, me_ne, me_self, q]
      have : lo = hi := by omega
      subst this
      exact H Y lo IY ⟨a, c, by rw [← ea]; exact gh, fun i i0 i1 => by rw [← ea]; exact hl i i0 i1⟩
    · have em : w32 ((w32 (lo + hi)).tdiv 2) = (lo + hi) / 2 := by
        rw [w32_id (x := lo + hi) (by omega) (by omega), Int.tdiv_eq_ediv_of_nonneg (by omega), w32_id (by omega) (by omega)]
      simp only [bq127_3, bq127_4, bq127_5, s_0, lgI_some, s_1I, s_3, s_6, s_13, s_30, cnP_0, cnP_1, cnP_2, cnP_3, cnP_4, cnP_5, s_31, s_32, s_37i, s_37z, s_47, lgR_some, s_52, res_0, res_1, nlg_n, nlg_I, nlg_R, Bool.true_and, Bool.and_self, Bool.and_true, lg_0, lg_1, lg_2, lg_3, lg_4, lz_0, lz_1, lz_2, lz_3, lz_4, lp_0, lp_1, lp_2, lp_3, lp_4, isL_n, isL_I, isL_R, rc_125_50, List.length_cons, List.length_nil, Nat.reduceAdd, Nat.reduceLT, Nat.reduceLeDiff, true_and, and_true, true_or, or_true, Int.reduceEq, Nat.reduceEqDiff, reduceCtorEq, true_implies, false_implies, not_true_eq_false, not_false_eq_true, Nat.zero_le, Int.zero_add, Nat.zero_add, Nat.lt_add_one, eq_self, forall_const, implies_true, Bool.false_eq_true, false_or, or_false, and_self, ne_eq, me_ne, me_self, q, em]
      have y5 : Y 5 = M 5 := f 5 (by decide)
      refine c_125 (d := d) IY y6 (by rw [y5]; omega) (by omega) (fun Z v IZ fz _ _ _ mv => ?_)
      rw [Mx_50 f] at mv
      have ev := Mx_un mv (hg _ (by omega) (by omega))
      have z6 : Z 6 2 ≠ 0 := by rw [fz 6 (by decide)]; exact y6
      have zf : ∀ k, k < 50 → Z k = M k := fun k q => by rw [fz k q, f k q]
      refine ⟨fun w => ?_, fun w => ?_⟩
      · rw [w32_id (x := (lo + hi) / 2 + 1) (by omega) (by omega)]
        refine ih Z _ _ _ IZ z6 zf (by omega) (by omega) c (by omega) gh (fun i i0 i1 => ?_)
        intro gi
        have m1 := Mx_mo (show i ≤ (lo + hi) / 2 by omega) (hg i i0 (by omega)) (hg _ (by omega) (by omega))
        have m2 := Mx_mo (show (lo + hi) / 2 ≤ 100 by omega) (hg ((lo + hi) / 2) (by omega) (by omega)) (hg 100 h1 (Int.le_refl _))
        omega
      · exact ih Z _ _ _ IZ z6 zf a (by omega) (by omega) (by omega) (by omega) hl
theorem p_72 (I : Iv M) : Tw d 72 127 [] M := by
  unfold Tw
  rw [uc 72, en_72]
  simp only [bq72_0, s_3, s_37i, s_37z, s_47, lgR_some, s_51, s_53, res_0, res_1, nlg_n, nlg_I, nlg_R, Bool.true_and, Bool.and_self, Bool.and_true, lg_0, g_0_2, g_0_6, rc_14_7, rc_15_7, rc_83_0, List.length_cons, List.length_nil, Nat.reduceAdd, Nat.reduceLT, Nat.reduceLeDiff, true_and, and_true, true_or, or_true, Int.reduceEq, Nat.reduceEqDiff, reduceCtorEq, true_implies, false_implies, not_true_eq_false, not_false_eq_true, Nat.zero_le, Int.zero_add, Nat.zero_add, Nat.lt_add_one, eq_self, forall_const, implies_true, Bool.false_eq_true, false_or, or_false, and_self, ne_eq, me_ne, me_self]
  refine c_83 (d := d) I (fun X IX x17 x6 FX x37 x50 _ _ => ?_)
  have hnX := IX.2.2.2.2.1.1
  refine c_14v (d := d) IX x17 hnX.2 (Int.le_refl _) (fun Y IY y17 FY fY yh y14 _ _ => ?_)
  have y5 : Y 5 = X 5 := fY 5 (by decide) (by decide)
  have y6 : Y 6 2 ≠ 0 := by rw [fY 6 (by decide) (by decide)]; exact x6
  have hn := IY.2.2.2.2.1.1
  have hg : ∀ t, Y 5 2 ≤ t → t ≤ 100 → Mx Y t (Y 39 t) := fun t t0 t1 => FY.2.2.2.2.2.2.2.2.1 t t0 (by omega)
  have pos : 0 ≤ Y 39 100 := (hg 100 hn.2 (Int.le_refl _)).2 _ _ _ _ Vl_0
  have ref : ∀ v : Int, (Y 39 100 < 1 → v = -1) → (1 ≤ Y 39 100 → FH (Y 39) (Y 5 2) v) → Cl (d + 6) 127 [vR 50] Y (fun v' M2 => v = v' ∧ Iv M2) := by
    intro v v1 v2
    have q0 : Y 50 0 = Y 5 2 := IY.1.2.2.2.2.1
    rw [uc 127, en_127]
    simp only [bq127_0, bq127_1, s_0, lgI_some, s_1I, s_3, s_6, s_13, s_29, cnP_0, cnP_1, cnP_2, cnP_3, cnP_4, cnP_5, s_30, s_31, s_32, s_37i, s_37z, s_47, lgR_some, s_52, res_0, res_1, nlg_n, nlg_I, nlg_R, Bool.true_and, Bool.and_self, Bool.and_true, lg_0, lg_1, lg_2, lg_3, lg_4, lz_0, lz_1, lz_2, lz_3, lz_4, lp_0, lp_1, lp_2, lp_3, lp_4, isL_n, isL_I, isL_R, g_50_0, rc_125_50, List.length_cons, List.length_nil, Nat.reduceAdd, Nat.reduceLT, Nat.reduceLeDiff, true_and, and_true, true_or, or_true, Int.reduceEq, Nat.reduceEqDiff, reduceCtorEq, true_implies, false_implies, not_true_eq_false, not_false_eq_true, Nat.zero_le, Int.zero_add, Nat.zero_add, Nat.lt_add_one, eq_self, forall_const, implies_true, Bool.false_eq_true, false_or, or_false, and_self, ne_eq, me_ne, me_self]
    refine c_125 (d := d) IY y6 hn.2 (Int.le_refl _) (fun Z u IZ fz _ _ _ mv => ?_)
    have eu := Mx_un mv (hg 100 hn.2 (Int.le_refl _))
    have z50 : Z 50 0 = Y 5 2 := by rw [IZ.1.2.2.2.2.1, fz 5 (by decide)]
    simp only [bq127_0, bq127_1, s_0, lgI_some, s_1I, s_3, s_6, s_13, s_29, cnP_0, cnP_1, cnP_2, cnP_3, cnP_4, cnP_5, s_30, s_31, s_32, s_37i, s_37z, s_47, lgR_some, s_52, res_0, res_1, nlg_n, nlg_I, nlg_R, Bool.true_and, Bool.and_self, Bool.and_true, lg_0, lg_1, lg_2, lg_3, lg_4, lz_0, lz_1, lz_2, lz_3, lz_4, lp_0, lp_1, lp_2, lp_3, lp_4, isL_n, isL_I, isL_R, g_50_0, rc_125_50, List.length_cons, List.length_nil, Nat.reduceAdd, Nat.reduceLT, Nat.reduceLeDiff, true_and, and_true, true_or, or_true, Int.reduceEq, Nat.reduceEqDiff, reduceCtorEq, true_implies, false_implies, not_true_eq_false, not_false_eq_true, Nat.zero_le, Int.zero_add, Nat.zero_add, Nat.lt_add_one, eq_self, forall_const, implies_true, Bool.false_eq_true, false_or, or_false, and_self, ne_eq, me_ne, me_self, z50]
    refine ⟨fun w => ?_, fun w => ?_⟩
    · refine l_127 (M := Y) (g := Y 39) hn.1 hn.2 hg eu ?_ 102 Z _ _ _ IZ (by rw [fz 6 (by decide)]; exact y6) fz (Int.le_refl _) hn.2 (Int.le_refl _) (by omega) eu.symm (fun i a b => by omega)
      intro X' r IX' hr
      exact ⟨FH_un (v2 (by omega)) hr, IX'⟩
    · exact ⟨v1 (by omega), IZ⟩
  refine c_15 FY.1 hn.1 hn.2 (fun z => ref (-1) (fun _ => rfl) (fun y => by omega)) (fun z r hr => ref r (fun y => by omega) (fun _ => hr))
end SO

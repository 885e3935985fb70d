/-! those ahead of a place -/
/-- all to which one could come from p are marked -/
def DF (K : Me) (t : Int) (M : Me) (p : Int) : Prop :=
  (p / 10 < t → nm M (p + 10)) ∧ (K 5 2 < p / 10 → 0 < M 41 (p - 10) → nm M (p - 10)) ∧
  (∀ r, 0 ≤ r → r < K 3 8 → K 25 r = p % 10 → K 26 r ≠ -1 → p / 10 + K 28 r ≤ t → M 42 (r * 100 + p / 10) < K 27 r → nm M ((p / 10 + K 28 r) * 10 + K 26 r)) ∧
  (∀ r, 0 ≤ r → r < K 3 8 → K 26 r = p % 10 → K 5 2 ≤ p / 10 - K 28 r → 0 < M 42 (r * 100 + (p / 10 - K 28 r)) → nm M ((p / 10 - K 28 r) * 10 + K 25 r))
section AH
variable {d : Nat} {K M X X1 : Me} {t : Int} {P : Int → Int → Prop} {Q : Int → Me → Prop}
theorem c_19n {p s : Int} (h : SI K t M) (p0 : 0 ≤ p) (p1 : p < 1010) (g : nm M p) (hq : Q 0 M) : Cl d 19 [vR 7, vI p, vI s] M Q := by
  have h1 := h.1
  unfold Cl
  rw [en_19]
  simp only [bq19_0, bq19_1, bq19_2, bq19_3, bq19_4, s_0, lgI_some, s_1I, s_3, s_6, s_24, s_25, s_29, cnP_0, cnP_1, cnP_2, cnP_3, cnP_4, cnP_5, s_30, s_32, s_33I, s_33R, s_38, s_47, lgR_some, kd_9, kd_10, kd_11, kd_12, kd_13, kd_14, kd_15, kd_16, kd_17, kd_18, kd_19, kd_20, kd_21, kd_22, kd_23, kd_24, kd_25, kd_26, kd_27, kd_28, kd_29, kd_30, kd_31, kd_32, kd_33, kd_34, kd_35, kd_36, kd_37, kd_38, kd_39, kd_40, kd_41, kd_42, kd_43, kd_44, kd_45, kd_46, kd_47, kd_48, kd_49, ln_9, ln_10, ln_11, ln_12, ln_13, ln_14, ln_15, ln_16, ln_17, ln_18, ln_19, ln_20, ln_21, ln_22, ln_23, ln_24, ln_25, ln_26, ln_27, ln_28, ln_29, ln_30, ln_31, ln_32, ln_33, ln_34, ln_35, ln_36, ln_37, ln_38, ln_39, ln_40, ln_41, ln_42, ln_43, ln_44, ln_45, ln_46, ln_47, ln_48, ln_49, lg_0, lg_1, lg_2, lg_3, lz_0, lz_1, lz_2, lz_3, lp_0, lp_1, lp_2, lp_3, isL_n, isL_I, isL_R, g_7_10, g_7_11, g_7_4, g_7_5, g_7_6, g_7_7, g_7_9, p_7_10, p_7_9, List.length_cons, List.length_nil, Nat.reduceAdd, Nat.reduceLT, Nat.reduceLeDiff, true_and, and_true, true_or, or_true, Int.reduceEq, Nat.reduceEqDiff, reduceCtorEq, true_implies, false_implies, not_true_eq_false, not_false_eq_true, Nat.zero_le, Int.zero_add, Nat.zero_add, Nat.lt_add_one, eq_self, forall_const, implies_true, Bool.false_eq_true, false_or, or_false, and_self, ne_eq, me_ne, me_self, p0, p1, show ¬ p < 0 by omega, show ¬ 1010 ≤ p by omega]
  refine ⟨fun _ => hq, fun _ => ⟨fun _ => ⟨fun _ => hq, fun q => ⟨fun q2 => ?_, fun _ => hq⟩⟩, fun _ => hq⟩⟩
  rcases g with g | g
  · omega
  · exact (q2 g).elim
theorem c_19f {p s : Int} (h : SI K t M) (p0 : 0 ≤ p) (p1 : p < 1010) (hp : 0 ≤ M 43 p → (pl K (p % 10) (p / 10) ∧ p / 10 ≤ t) ∧ P p s) (H : ∀ M', Mt K t P M M' → nm M' p → Q 0 M') : Cl d 19 [vR 7, vI p, vI s] M Q := by
  by_cases z : 0 ≤ M 43 p
  · exact c_19 h p0 p1 (fun y => (hp y).1) (hp z).2 H
  · have : nm M p := Or.inl (by omega)
    exact c_19n h p0 p1 this (H M (Mt_rf h) this)
theorem l_28a {p c h : Int} (W : WK K) (ht : t ≤ 100) (ec : p = h * 10 + c) (c0 : 0 ≤ c) (c1 : c < 10) (h0 : K 5 2 ≤ h) (h1 : h ≤ t) (hP : ∀ r, 0 ≤ r → r < K 3 8 → K 25 r = c → K 26 r ≠ -1 → h + K 28 r ≤ t → M 42 (r * 100 + h) < K 27 r → pl K (K 26 r) (h + K 28 r) → P ((h + K 28 r) * 10 + K 26 r) (2 + r)) :
    ∀ (n : Nat) (X : Me) (i : Int) (x y : Option AV), 0 ≤ i → i + (n : Int) = K 30 c → BG K t M X → (∀ j, 0 ≤ j → j < i → K 26 (K 29 (c * 12 + j)) ≠ -1 → h + K 28 (K 29 (c * 12 + j)) ≤ t → M 42 (K 29 (c * 12 + j) * 100 + h) < K 27 (K 29 (c * 12 + j)) → nm X ((h + K 28 (K 29 (c * 12 + j))) * 10 + K 26 (K 29 (c * 12 + j)))) →
    (∀ X' x y z, Mt K t P X X' → (∀ j, 0 ≤ j → j < K 30 c → K 26 (K 29 (c * 12 + j)) ≠ -1 → h + K 28 (K 29 (c * 12 + j)) ≤ t → M 42 (K 29 (c * 12 + j) * 100 + h) < K 27 (K 29 (c * 12 + j)) → nm X' ((h + K 28 (K 29 (c * 12 + j))) * 10 + K 26 (K 29 (c * 12 + j)))) → Rn (d + 1) (blk 28 7) 28 [some (vR 7), some (vR 3), some (vI p), some (vI t), some (vI c), some (vI h), x, y, z] [] X' Q) →
    Rn (d + 1) (blk 28 3) 28 [some (vR 7), some (vR 3), some (vI p), some (vI t), some (vI c), some (vI h), some (vI i), x, y] [] X Q := by
  have wr := W.2.1.1
  have hnow := W.2.2
  have wl := W.2.1.2.2.1 c c0 c1
  intro n
  induction n with
  | zero =>
    intro X i x y i0 i1 B hj H
    rw [bq28_3]
    simp only [bq28_4, bq28_5, bq28_6, s_0, lgI_some, s_1I, s_3, s_5K, s_6, s_8, s_24, s_29, cnP_0, cnP_1, cnP_2, cnP_3, cnP_4, cnP_5, s_30, s_31, s_32, s_47, lgR_some, s_53, s_54, res_0, res_1, nlg_n, nlg_I, nlg_R, Bool.true_and, Bool.and_self, Bool.and_true, kd_9, kd_10, kd_11, kd_12, kd_13, kd_14, kd_15, kd_16, kd_17, kd_18, kd_19, kd_20, kd_21, kd_22, kd_23, kd_24, kd_25, kd_26, kd_27, kd_28, kd_29, kd_30, kd_31, kd_32, kd_33, kd_34, kd_35, kd_36, kd_37, kd_38, kd_39, kd_40, kd_41, kd_42, kd_43, kd_44, kd_45, kd_46, kd_47, kd_48, kd_49, ln_9, ln_10, ln_11, ln_12, ln_13, ln_14, ln_15, ln_16, ln_17, ln_18, ln_19, ln_20, ln_21, ln_22, ln_23, ln_24, ln_25, ln_26, ln_27, ln_28, ln_29, ln_30, ln_31, ln_32, ln_33, ln_34, ln_35, ln_36, ln_37, ln_38, ln_39, ln_40, ln_41, ln_42, ln_43, ln_44, ln_45, ln_46, ln_47, ln_48, ln_49, lg_0, lg_1, lg_2, lg_3, lg_4, lg_5, lg_6, lg_7, lg_8, lz_0, lz_1, lz_2, lz_3, lz_4, lz_5, lz_6, lz_7, lz_8, lp_0, lp_1, lp_2, lp_3, lp_4, lp_5, lp_6, lp_7, lp_8, isL_n, isL_I, isL_R, g_3_1, g_3_2, g_3_3, g_3_4, g_3_5, g_7_3, rc_19_7, rc_21_7, List.length_cons, List.length_nil, Nat.reduceAdd, Nat.reduceLT, Nat.reduceLeDiff, true_and, and_true, true_or, or_true, Int.reduceEq, Nat.reduceEqDiff, reduceCtorEq, true_implies, false_implies, not_true_eq_false, not_false_eq_true, Nat.zero_le, Int.zero_add, Nat.zero_add, Nat.lt_add_one, eq_self, forall_const, implies_true, Bool.false_eq_true, false_or, or_false, and_self, ne_eq, me_ne, me_self, B.1 30 (by decide) (by decide), c0, c1, show K 30 c ≤ i by omega]
    exact H X _ _ _ (Mt_rf B.2.2.1) (fun j j0 j1 => hj j j0 (by omega))
  | succ n ih =>
    intro X i x y i0 i1 B hj H
    have g := wl.2.2.1 i i0 (by omega)
    obtain ⟨r12, rf, rt, rb, rl, rn⟩ := WK_r W g.1.1 g.1.2
    have x30 := B.1 30 (by decide) (by decide)
    have x29 := B.1 29 (by decide) (by decide)
    have x26 := B.1 26 (by decide) (by decide)
    have x27 := B.1 27 (by decide) (by decide)
    have x28 := B.1 28 (by decide) (by decide)
    have ei : w32 (w32 (c * 12) + i) = c * 12 + i := by
      rw [w32_id (x := c * 12) (by omega) (by omega), w32_id (by omega) (by omega)]
    generalize er : K 29 (c * 12 + i) = r at *
    have x29' : X 29 (c * 12 + i) = r := by rw [x29]; exact er
    have el : w32 (h + K 28 r) = h + K 28 r := w32_id (by omega) (by omega)
    have skip : (¬ (K 26 r ≠ -1 ∧ h + K 28 r ≤ t ∧ M 42 (r * 100 + h) < K 27 r)) → ∀ x y, Rn (d + 1) (blk 28 3) 28 [some (vR 7), some (vR 3), some (vI p), some (vI t), some (vI c), some (vI h), some (vI (i + 1)), x, y] [] X Q := by
      intro q x y
      refine ih _ _ _ _ (by omega) (by omega) B (fun j j0 j1 z1 z2 z3 => ?_) H
      by_cases w : j = i
      · subst w; rw [er] at z1 z2 z3; exact (q ⟨z1, z2, z3⟩).elim
      · exact hj j j0 (by omega) z1 z2 z3
    rw [bq28_3]
    by_cases q1 : K 26 r = -1
    · simp only [bq28_4, bq28_5, bq28_6, s_0, lgI_some, s_1I, s_3, s_5K, s_6, s_8, s_24, s_29, cnP_0, cnP_1, cnP_2, cnP_3, cnP_4, cnP_5, s_30, s_31, s_32, s_47, lgR_some, s_53, s_54, res_0, res_1, nlg_n, nlg_I, nlg_R, Bool.true_and, Bool.and_self, Bool.and_true, kd_9, kd_10, kd_11, kd_12, kd_13, kd_14, kd_15, kd_16, kd_17, kd_18, kd_19, kd_20, kd_21, kd_22, kd_23, kd_24, kd_25, kd_26, kd_27, kd_28, kd_29, kd_30, kd_31, kd_32, kd_33, kd_34, kd_35, kd_36, kd_37, kd_38, kd_39, kd_40, kd_41, kd_42, kd_43, kd_44, kd_45, kd_46, kd_47, kd_48, kd_49, ln_9, ln_10, ln_11, ln_12, ln_13, ln_14, ln_15, ln_16, ln_17, ln_18, ln_19, ln_20, ln_21, ln_22, ln_23, ln_24, ln_25, ln_26, ln_27, ln_28, ln_29, ln_30, ln_31, ln_32, ln_33, ln_34, ln_35, ln_36, ln_37, ln_38, ln_39, ln_40, ln_41, ln_42, ln_43, ln_44, ln_45, ln_46, ln_47, ln_48, ln_49, lg_0, lg_1, lg_2, lg_3, lg_4, lg_5, lg_6, lg_7, lg_8, lz_0, lz_1, lz_2, lz_3, lz_4, lz_5, lz_6, lz_7, lz_8, lp_0, lp_1, lp_2, lp_3, lp_4, lp_5, lp_6, lp_7, lp_8, isL_n, isL_I, isL_R, g_3_1, g_3_2, g_3_3, g_3_4, g_3_5, g_7_3, rc_19_7, rc_21_7, List.length_cons, List.length_nil, Nat.reduceAdd, Nat.reduceLT, Nat.reduceLeDiff, true_and, and_true, true_or, or_true, Int.reduceEq, Nat.reduceEqDiff, reduceCtorEq, true_implies, false_implies, not_true_eq_false, not_false_eq_true, Nat.zero_le, Int.zero_add, Nat.zero_add, Nat.lt_add_one, eq_self, forall_const, implies_true, Bool.false_eq_true, false_or, or_false, and_self, ne_eq, me_ne, me_self, x30, x29', x26, q1, ei, c0, c1, g.1.1, r12, show 0 ≤ c * 12 + i by omega, show c * 12 + i < 120 by omega, show ¬ K 30 c ≤ i by omega, show w32 (i + 1) = i + 1 from w32_id (by omega) (by omega)]
      exact skip (fun z => z.1 q1) _ _
    · by_cases q2 : t < h + K 28 r
      · simp only [bq28_4, bq28_5, bq28_6, s_0, lgI_some, s_1I, s_3, s_5K, s_6, s_8, s_24, s_29, cnP_0, cnP_1, cnP_2, cnP_3, cnP_4, cnP_5, s_30, s_31, s_32, s_47, lgR_some, s_53, s_54, res_0, res_1, nlg_n, nlg_I, nlg_R, Bool.true_and, Bool.and_self, Bool.and_true, kd_9, kd_10, kd_11, kd_12, kd_13, kd_14, kd_15, kd_16, kd_17, kd_18, kd_19, kd_20, kd_21, kd_22, kd_23, kd_24, kd_25, kd_26, kd_27, kd_28, kd_29, kd_30, kd_31, kd_32, kd_33, kd_34, kd_35, kd_36, kd_37, kd_38, kd_39, kd_40, kd_41, kd_42, kd_43, kd_44, kd_45, kd_46, kd_47, kd_48, kd_49, ln_9, ln_10, ln_11, ln_12, ln_13, ln_14, ln_15, ln_16, ln_17, ln_18, ln_19, ln_20, ln_21, ln_22, ln_23, ln_24, ln_25, ln_26, ln_27, ln_28, ln_29, ln_30, ln_31, ln_32, ln_33, ln_34, ln_35, ln_36, ln_37, ln_38, ln_39, ln_40, ln_41, ln_42, ln_43, ln_44, ln_45, ln_46, ln_47, ln_48, ln_49, lg_0, lg_1, lg_2, lg_3, lg_4, lg_5, lg_6, lg_7, lg_8, lz_0, lz_1, lz_2, lz_3, lz_4, lz_5, lz_6, lz_7, lz_8, lp_0, lp_1, lp_2, lp_3, lp_4, lp_5, lp_6, lp_7, lp_8, isL_n, isL_I, isL_R, g_3_1, g_3_2, g_3_3, g_3_4, g_3_5, g_7_3, rc_19_7, rc_21_7, List.length_cons, List.length_nil, Nat.reduceAdd, Nat.reduceLT, Nat.reduceLeDiff, true_and, and_true, true_or, or_true, Int.reduceEq, Nat.reduceEqDiff, reduceCtorEq, true_implies, false_implies, not_true_eq_false, not_false_eq_true, Nat.zero_le, Int.zero_add, Nat.zero_add, Nat.lt_add_one, eq_self, forall_const, implies_true, Bool.false_eq_true, false_or, or_false, and_self, ne_eq, me_ne, me_self, x30, x29', x26, x28, q1, el, q2, ei, c0, c1, g.1.1, r12, show 0 ≤ c * 12 + i by omega, show c * 12 + i < 120 by omega, show ¬ K 30 c ≤ i by omega, show w32 (i + 1) = i + 1 from w32_id (by omega) (by omega)]
        exact skip (fun z => by omega) _ _
      · have rt' := rt.resolve_left q1
        simp only [bq28_4, bq28_5, bq28_6, s_0, lgI_some, s_1I, s_3, s_5K, s_6, s_8, s_24, s_29, cnP_0, cnP_1, cnP_2, cnP_3, cnP_4, cnP_5, s_30, s_31, s_32, s_47, lgR_some, s_53, s_54, res_0, res_1, nlg_n, nlg_I, nlg_R, Bool.true_and, Bool.and_self, Bool.and_true, kd_9, kd_10, kd_11, kd_12, kd_13, kd_14, kd_15, kd_16, kd_17, kd_18, kd_19, kd_20, kd_21, kd_22, kd_23, kd_24, kd_25, kd_26, kd_27, kd_28, kd_29, kd_30, kd_31, kd_32, kd_33, kd_34, kd_35, kd_36, kd_37, kd_38, kd_39, kd_40, kd_41, kd_42, kd_43, kd_44, kd_45, kd_46, kd_47, kd_48, kd_49, ln_9, ln_10, ln_11, ln_12, ln_13, ln_14, ln_15, ln_16, ln_17, ln_18, ln_19, ln_20, ln_21, ln_22, ln_23, ln_24, ln_25, ln_26, ln_27, ln_28, ln_29, ln_30, ln_31, ln_32, ln_33, ln_34, ln_35, ln_36, ln_37, ln_38, ln_39, ln_40, ln_41, ln_42, ln_43, ln_44, ln_45, ln_46, ln_47, ln_48, ln_49, lg_0, lg_1, lg_2, lg_3, lg_4, lg_5, lg_6, lg_7, lg_8, lz_0, lz_1, lz_2, lz_3, lz_4, lz_5, lz_6, lz_7, lz_8, lp_0, lp_1, lp_2, lp_3, lp_4, lp_5, lp_6, lp_7, lp_8, isL_n, isL_I, isL_R, g_3_1, g_3_2, g_3_3, g_3_4, g_3_5, g_7_3, rc_19_7, rc_21_7, List.length_cons, List.length_nil, Nat.reduceAdd, Nat.reduceLT, Nat.reduceLeDiff, true_and, and_true, true_or, or_true, Int.reduceEq, Nat.reduceEqDiff, reduceCtorEq, true_implies, false_implies, not_true_eq_false, not_false_eq_true, Nat.zero_le, Int.zero_add, Nat.zero_add, Nat.lt_add_one, eq_self, forall_const, implies_true, Bool.false_eq_true, false_or, or_false, and_self, ne_eq, me_ne, me_self, x30, x29', x26, x27, x28, q1, el, q2, B.2.2.2.2.1, mul100 g.1.1 r12 (show 0 ≤ h by omega) (show h ≤ 100 by omega), ei, c0, c1, g.1.1, r12, show 0 ≤ c * 12 + i by omega, show c * 12 + i < 120 by omega, show ¬ K 30 c ≤ i by omega, show w32 (i + 1) = i + 1 from w32_id (by omega) (by omega), show w32 (2 + r) = 2 + r from w32_id (by omega) (by omega), q_21 g.1.1 r12 (show 0 ≤ h by omega) (show h ≤ 100 by omega) (show 1 ≤ X 28 r by rw [x28]; omega) (show X 28 r ≤ 5 by rw [x28]; omega) (show -1 ≤ X 26 r by rw [x26]; omega) (show X 26 r < 10 by rw [x26]; omega)]
        refine ⟨⟨by omega, by omega⟩, fun q3 => skip (fun z => by omega) _ _, fun q3 => ?_⟩
        refine c_19f (K := K) (t := t) (P := P) B.2.2.1 (by omega) (by omega) (fun y0 => ?_) (fun X1 m1 n1 => ?_)
        · have pp := mkK_pl B.2.1 rt'.1 rt'.2.1 rt'.2.2.1 rt'.2.2.2 (show K 5 2 ≤ h + K 28 r by omega) (by omega) y0
          rw [show ((h + K 28 r) * 10 + K 26 r) % 10 = K 26 r by omega, show ((h + K 28 r) * 10 + K 26 r) / 10 = h + K 28 r by omega]
          exact ⟨⟨pp, by omega⟩, hP r g.1.1 g.1.2 g.2 q1 (by omega) (by omega) pp⟩
        · refine ih _ _ _ _ (by omega) (by omega) (BG_mt B m1) (fun j j0 j1 z1 z2 z3 => ?_) (fun X' x y z m2 w => H X' x y z (Mt_tr m1 m2 B.2.2.1) w)
          by_cases w : j = i
          · subst w; rw [er]; exact n1
          · have g2 := wl.2.2.1 j j0 (by omega)
            obtain ⟨s12, sf, st, sb, sl, sn⟩ := WK_r W g2.1.1 g2.1.2
            have st' := st.resolve_left z1
            exact Mt_nm m1 (by omega) (by omega) (hj j j0 (by omega) z1 z2 z3)
theorem l_28b {p c h : Int} (W : WK K) (ec : p = h * 10 + c) (c0 : 0 ≤ c) (c1 : c < 10) (h0 : K 5 2 ≤ h) (h1 : h ≤ 100) (ht : h ≤ t) (hP : ∀ r, 0 ≤ r → r < K 3 8 → K 26 r = c → K 5 2 ≤ h - K 28 r → 0 < M 42 (r * 100 + (h - K 28 r)) → pl K (K 25 r) (h - K 28 r) → P ((h - K 28 r) * 10 + K 25 r) (14 + r)) :
    ∀ (n : Nat) (X : Me) (i : Int) (x y : Option AV), 0 ≤ i → i + (n : Int) = K 32 c → BG K t M X → (∀ j, 0 ≤ j → j < i → K 5 2 ≤ h - K 28 (K 31 (c * 12 + j)) → 0 < M 42 (K 31 (c * 12 + j) * 100 + (h - K 28 (K 31 (c * 12 + j)))) → nm X ((h - K 28 (K 31 (c * 12 + j))) * 10 + K 25 (K 31 (c * 12 + j)))) →
    (∀ X', Mt K t P X X' → (∀ j, 0 ≤ j → j < K 32 c → K 5 2 ≤ h - K 28 (K 31 (c * 12 + j)) → 0 < M 42 (K 31 (c * 12 + j) * 100 + (h - K 28 (K 31 (c * 12 + j)))) → nm X' ((h - K 28 (K 31 (c * 12 + j))) * 10 + K 25 (K 31 (c * 12 + j)))) → Q 0 X') →
    Rn (d + 1) (blk 28 8) 28 [some (vR 7), some (vR 3), some (vI p), some (vI t), some (vI c), some (vI h), some (vI i), x, y] [] X Q := by
  have wr := W.2.1.1
  have hnow := W.2.2
  have wl := W.2.1.2.2.1 c c0 c1
  intro n
  induction n with
  | zero =>
    intro X i x y i0 i1 B hj H
    rw [bq28_8]
    simp only [bq28_9, bq28_10, s_0, lgI_some, s_1I, s_3, s_5K, s_6, s_7, s_8, s_24, s_29, cnP_0, cnP_1, cnP_2, cnP_3, cnP_4, cnP_5, s_30, s_31, s_32, s_38, s_47, lgR_some, s_53, res_0, res_1, nlg_n, nlg_I, nlg_R, Bool.true_and, Bool.and_self, Bool.and_true, kd_9, kd_10, kd_11, kd_12, kd_13, kd_14, kd_15, kd_16, kd_17, kd_18, kd_19, kd_20, kd_21, kd_22, kd_23, kd_24, kd_25, kd_26, kd_27, kd_28, kd_29, kd_30, kd_31, kd_32, kd_33, kd_34, kd_35, kd_36, kd_37, kd_38, kd_39, kd_40, kd_41, kd_42, kd_43, kd_44, kd_45, kd_46, kd_47, kd_48, kd_49, ln_9, ln_10, ln_11, ln_12, ln_13, ln_14, ln_15, ln_16, ln_17, ln_18, ln_19, ln_20, ln_21, ln_22, ln_23, ln_24, ln_25, ln_26, ln_27, ln_28, ln_29, ln_30, ln_31, ln_32, ln_33, ln_34, ln_35, ln_36, ln_37, ln_38, ln_39, ln_40, ln_41, ln_42, ln_43, ln_44, ln_45, ln_46, ln_47, ln_48, ln_49, lg_0, lg_1, lg_2, lg_3, lg_4, lg_5, lg_6, lg_7, lg_8, lz_0, lz_1, lz_2, lz_3, lz_4, lz_5, lz_6, lz_7, lz_8, lp_0, lp_1, lp_2, lp_3, lp_4, lp_5, lp_6, lp_7, lp_8, isL_n, isL_I, isL_R, g_3_0, g_3_3, g_3_6, g_3_7, g_7_12, g_7_3, rc_19_7, List.length_cons, List.length_nil, Nat.reduceAdd, Nat.reduceLT, Nat.reduceLeDiff, true_and, and_true, true_or, or_true, Int.reduceEq, Nat.reduceEqDiff, reduceCtorEq, true_implies, false_implies, not_true_eq_false, not_false_eq_true, Nat.zero_le, Int.zero_add, Nat.zero_add, Nat.lt_add_one, eq_self, forall_const, implies_true, Bool.false_eq_true, false_or, or_false, and_self, ne_eq, me_ne, me_self, B.1 32 (by decide) (by decide), c0, c1, show K 32 c ≤ i by omega]
    exact H X (Mt_rf B.2.2.1) (fun j j0 j1 => hj j j0 (by omega))
  | succ n ih =>
    intro X i x y i0 i1 B hj H
    have g := wl.2.2.2 i i0 (by omega)
    obtain ⟨r12, rf, rt, rb, rl, rn⟩ := WK_r W g.1.1 g.1.2
    have x32 := B.1 32 (by decide) (by decide)
    have x31 := B.1 31 (by decide) (by decide)
    have x25 := B.1 25 (by decide) (by decide)
    have x28 := B.1 28 (by decide) (by decide)
    have ei : w32 (w32 (c * 12) + i) = c * 12 + i := by
      rw [w32_id (x := c * 12) (by omega) (by omega), w32_id (by omega) (by omega)]
    generalize er : K 31 (c * 12 + i) = r at *
    have x31' : X 31 (c * 12 + i) = r := by rw [x31]; exact er
    have el : w32 (h - K 28 r) = h - K 28 r := w32_id (by omega) (by omega)
    rw [bq28_8]
    by_cases q : h - K 28 r < K 5 2
    · simp only [bq28_9, bq28_10, s_0, lgI_some, s_1I, s_3, s_5K, s_6, s_7, s_8, s_24, s_29, cnP_0, cnP_1, cnP_2, cnP_3, cnP_4, cnP_5, s_30, s_31, s_32, s_38, s_47, lgR_some, s_53, res_0, res_1, nlg_n, nlg_I, nlg_R, Bool.true_and, Bool.and_self, Bool.and_true, kd_9, kd_10, kd_11, kd_12, kd_13, kd_14, kd_15, kd_16, kd_17, kd_18, kd_19, kd_20, kd_21, kd_22, kd_23, kd_24, kd_25, kd_26, kd_27, kd_28, kd_29, kd_30, kd_31, kd_32, kd_33, kd_34, kd_35, kd_36, kd_37, kd_38, kd_39, kd_40, kd_41, kd_42, kd_43, kd_44, kd_45, kd_46, kd_47, kd_48, kd_49, ln_9, ln_10, ln_11, ln_12, ln_13, ln_14, ln_15, ln_16, ln_17, ln_18, ln_19, ln_20, ln_21, ln_22, ln_23, ln_24, ln_25, ln_26, ln_27, ln_28, ln_29, ln_30, ln_31, ln_32, ln_33, ln_34, ln_35, ln_36, ln_37, ln_38, ln_39, ln_40, ln_41, ln_42, ln_43, ln_44, ln_45, ln_46, ln_47, ln_48, ln_49, lg_0, lg_1, lg_2, lg_3, lg_4, lg_5, lg_6, lg_7, lg_8, lz_0, lz_1, lz_2, lz_3, lz_4, lz_5, lz_6, lz_7, lz_8, lp_0, lp_1, lp_2, lp_3, lp_4, lp_5, lp_6, lp_7, lp_8, isL_n, isL_I, isL_R, g_3_0, g_3_3, g_3_6, g_3_7, g_7_12, g_7_3, rc_19_7, List.length_cons, List.length_nil, Nat.reduceAdd, Nat.reduceLT, Nat.reduceLeDiff, true_and, and_true, true_or, or_true, Int.reduceEq, Nat.reduceEqDiff, reduceCtorEq, true_implies, false_implies, not_true_eq_false, not_false_eq_true, Nat.zero_le, Int.zero_add, Nat.zero_add, Nat.lt_add_one, eq_self, forall_const, implies_true, Bool.false_eq_true, false_or, or_false, and_self, ne_eq, me_ne, me_self, x32, x31', x28, el, ei, B.2.2.2.2.2.2.1, q, c0, c1, g.1.1, r12, show 0 ≤ c * 12 + i by omega, show c * 12 + i < 120 by omega, show ¬ K 32 c ≤ i by omega, show w32 (i + 1) = i + 1 from w32_id (by omega) (by omega)]
      refine ih _ _ _ _ (by omega) (by omega) B (fun j j0 j1 z1 z2 => ?_) H
      by_cases w : j = i
      · subst w; rw [er] at z1; omega
      · exact hj j j0 (by omega) z1 z2
    · have e100 := mul100 g.1.1 r12 (show 0 ≤ h - K 28 r by omega) (show h - K 28 r ≤ 100 by omega)
      have e10 := ix10h rf.1 rf.2.1 (show 0 ≤ h - K 28 r by omega) (show h - K 28 r ≤ 100 by omega)
      simp only [bq28_9, bq28_10, s_0, lgI_some, s_1I, s_3, s_5K, s_6, s_7, s_8, s_24, s_29, cnP_0, cnP_1, cnP_2, cnP_3, cnP_4, cnP_5, s_30, s_31, s_32, s_38, s_47, lgR_some, s_53, res_0, res_1, nlg_n, nlg_I, nlg_R, Bool.true_and, Bool.and_self, Bool.and_true, kd_9, kd_10, kd_11, kd_12, kd_13, kd_14, kd_15, kd_16, kd_17, kd_18, kd_19, kd_20, kd_21, kd_22, kd_23, kd_24, kd_25, kd_26, kd_27, kd_28, kd_29, kd_30, kd_31, kd_32, kd_33, kd_34, kd_35, kd_36, kd_37, kd_38, kd_39, kd_40, kd_41, kd_42, kd_43, kd_44, kd_45, kd_46, kd_47, kd_48, kd_49, ln_9, ln_10, ln_11, ln_12, ln_13, ln_14, ln_15, ln_16, ln_17, ln_18, ln_19, ln_20, ln_21, ln_22, ln_23, ln_24, ln_25, ln_26, ln_27, ln_28, ln_29, ln_30, ln_31, ln_32, ln_33, ln_34, ln_35, ln_36, ln_37, ln_38, ln_39, ln_40, ln_41, ln_42, ln_43, ln_44, ln_45, ln_46, ln_47, ln_48, ln_49, lg_0, lg_1, lg_2, lg_3, lg_4, lg_5, lg_6, lg_7, lg_8, lz_0, lz_1, lz_2, lz_3, lz_4, lz_5, lz_6, lz_7, lz_8, lp_0, lp_1, lp_2, lp_3, lp_4, lp_5, lp_6, lp_7, lp_8, isL_n, isL_I, isL_R, g_3_0, g_3_3, g_3_6, g_3_7, g_7_12, g_7_3, rc_19_7, List.length_cons, List.length_nil, Nat.reduceAdd, Nat.reduceLT, Nat.reduceLeDiff, true_and, and_true, true_or, or_true, Int.reduceEq, Nat.reduceEqDiff, reduceCtorEq, true_implies, false_implies, not_true_eq_false, not_false_eq_true, Nat.zero_le, Int.zero_add, Nat.zero_add, Nat.lt_add_one, eq_self, forall_const, implies_true, Bool.false_eq_true, false_or, or_false, and_self, ne_eq, me_ne, me_self, x32, x31', x28, x25, el, ei, e100, e10, B.2.2.2.2.2.2.1, B.2.2.2.2.1, q, c0, c1, g.1.1, r12, show 0 ≤ c * 12 + i by omega, show c * 12 + i < 120 by omega, show ¬ K 32 c ≤ i by omega, show w32 (i + 1) = i + 1 from w32_id (by omega) (by omega), show w32 (14 + r) = 14 + r from w32_id (by omega) (by omega)]
      refine ⟨⟨by omega, by omega⟩, fun q2 => ?_, fun q2 => ?_⟩
      · refine ih _ _ _ _ (by omega) (by omega) B (fun j j0 j1 z1 z2 => ?_) H
        by_cases w : j = i
        · subst w; rw [er] at z2; omega
        · exact hj j j0 (by omega) z1 z2
      · refine c_19f (K := K) (t := t) (P := P) B.2.2.1 (by omega) (by omega) (fun y0 => ?_) (fun X1 m1 n1 => ?_)
        · have pp := mkK_pl B.2.1 rf.1 rf.2.1 rf.2.2.1 rf.2.2.2 (show K 5 2 ≤ h - K 28 r by omega) (by omega) y0
          rw [show ((h - K 28 r) * 10 + K 25 r) % 10 = K 25 r by omega, show ((h - K 28 r) * 10 + K 25 r) / 10 = h - K 28 r by omega]
          exact ⟨⟨pp, by omega⟩, hP r g.1.1 g.1.2 g.2 (by omega) (by omega) pp⟩
        · refine ih _ _ _ _ (by omega) (by omega) (BG_mt B m1) (fun j j0 j1 z1 z2 => ?_) (fun X' m2 w => H X' (Mt_tr m1 m2 B.2.2.1) w)
          by_cases w : j = i
          · subst w; rw [er]; exact n1
          · have g2 := wl.2.2.2 j j0 (by omega)
            obtain ⟨s12, sf, st, sb, sl, sn⟩ := WK_r W g2.1.1 g2.1.2
            exact Mt_nm m1 (by omega) (by omega) (hj j j0 (by omega) z1 z2)
/-- all ahead of p are met -/
theorem c_28 {p : Int} {g : Int → Int} (W : WK K) (B : BG K t M M) (ht : t ≤ 100) (p0 : 0 ≤ p) (p1 : p < 1010) (hp : pl K (p % 10) (p / 10)) (hpt : p / 10 ≤ t) (hR : Rz K t g (fwt M) (fsr M) (p % 10) (p / 10)) (H : ∀ M', Mt K t (fun q _ => Rz K t g (fwt M) (fsr M) (q % 10) (q / 10)) M M' → DF K t M' p → Q 0 M') : Cl (d + 1) 28 [vR 7, vR 3, vI p, vI t] M Q := by
  have hnow := W.2.2
  have cz := Rz_cz (K := K) (t := t) (g := g) (wt := fwt M) (st := fsr M)
  have hp0 := hp
  obtain ⟨c0, c1, c2, c3, h0, h1, hd⟩ := hp
  have et : p.tmod 10 = p % 10 := Int.tmod_eq_emod_of_nonneg p0
  have ed : w32 (p.tdiv 10) = p / 10 := by rw [Int.tdiv_eq_ediv_of_nonneg p0, w32_id (by omega) (by omega)]
  have ep : p = p / 10 * 10 + p % 10 := by omega
  generalize ec : p % 10 = c at *
  generalize eh : p / 10 = h at *
  have wl := W.2.1.2.2.1 c c0 c1
  have fsE : ∀ r x, x < 100 → fsr M r x = M 42 (r * 100 + x) := fun r x hx => by unfold fsr; rw [if_pos hx]
  have hPa : ∀ r, 0 ≤ r → r < K 3 8 → K 25 r = c → K 26 r ≠ -1 → h + K 28 r ≤ t → M 42 (r * 100 + h) < K 27 r → pl K (K 26 r) (h + K 28 r) → Rz K t g (fwt M) (fsr M) (((h + K 28 r) * 10 + K 26 r) % 10) (((h + K 28 r) * 10 + K 26 r) / 10) := by
    intro r r0 r1 r2 r3 r4 r5 r6
    obtain ⟨r12, rf, rt, rb, rl, rn⟩ := WK_r W r0 r1
    have rt' := rt.resolve_left r3
    rw [show ((h + K 28 r) * 10 + K 26 r) % 10 = K 26 r by omega, show ((h + K 28 r) * 10 + K 26 r) / 10 = h + K 28 r by omega]
    exact cz.2.2.2.1 r h r0 r12 r1 r3 (by rw [r2]; exact hR) (by rw [r2]; exact hp0) r6 r4 (by rw [fsE r h (by omega)]; exact r5)
  have hPb : ∀ r, 0 ≤ r → r < K 3 8 → K 26 r = c → K 5 2 ≤ h - K 28 r → 0 < M 42 (r * 100 + (h - K 28 r)) → pl K (K 25 r) (h - K 28 r) → Rz K t g (fwt M) (fsr M) (((h - K 28 r) * 10 + K 25 r) % 10) (((h - K 28 r) * 10 + K 25 r) / 10) := by
    intro r r0 r1 r2 r3 r4 r5
    obtain ⟨r12, rf, rt, rb, rl, rn⟩ := WK_r W r0 r1
    rw [show ((h - K 28 r) * 10 + K 25 r) % 10 = K 25 r by omega, show ((h - K 28 r) * 10 + K 25 r) / 10 = h - K 28 r by omega]
    exact cz.2.2.2.2 r (h - K 28 r) r0 r12 r1 (by omega) (by rw [r2, show h - K 28 r + K 28 r = h by omega]; exact hR) r5 (by rw [fsE r _ (by omega)]; exact r4)
  have tail : ∀ (X : Me) (x y z : Option AV), Mt K t (fun q _ => Rz K t g (fwt M) (fsr M) (q % 10) (q / 10)) M X → (h < t → nm X (p + 10)) → (K 5 2 < h → 0 < M 41 (p - 10) → nm X (p - 10)) → Rn (d + 1) (blk 28 2) 28 [some (vR 7), some (vR 3), some (vI p), some (vI t), some (vI c), some (vI h), x, y, z] [] X Q := by
    intro X x y z m1 a1 a2
    have BX := BG_mt B m1
    rw [bq28_2]
    simp only [s_0, lgI_some, s_1I, s_3, s_6, s_8, s_24, s_30, cnP_0, cnP_1, cnP_2, cnP_3, cnP_4, cnP_5, s_31, s_32, s_47, lgR_some, kd_9, kd_10, kd_11, kd_12, kd_13, kd_14, kd_15, kd_16, kd_17, kd_18, kd_19, kd_20, kd_21, kd_22, kd_23, kd_24, kd_25, kd_26, kd_27, kd_28, kd_29, kd_30, kd_31, kd_32, kd_33, kd_34, kd_35, kd_36, kd_37, kd_38, kd_39, kd_40, kd_41, kd_42, kd_43, kd_44, kd_45, kd_46, kd_47, kd_48, kd_49, ln_9, ln_10, ln_11, ln_12, ln_13, ln_14, ln_15, ln_16, ln_17, ln_18, ln_19, ln_20, ln_21, ln_22, ln_23, ln_24, ln_25, ln_26, ln_27, ln_28, ln_29, ln_30, ln_31, ln_32, ln_33, ln_34, ln_35, ln_36, ln_37, ln_38, ln_39, ln_40, ln_41, ln_42, ln_43, ln_44, ln_45, ln_46, ln_47, ln_48, ln_49, lg_0, lg_1, lg_2, lg_3, lg_4, lg_5, lg_6, lg_7, lg_8, lz_0, lz_1, lz_2, lz_3, lz_4, lz_5, lz_6, lz_7, lz_8, lp_0, lp_1, lp_2, lp_3, lp_4, lp_5, lp_6, lp_7, lp_8, isL_n, isL_I, isL_R, g_3_1, g_3_3, g_3_4, g_3_5, List.length_cons, List.length_nil, Nat.reduceAdd, Nat.reduceLT, Nat.reduceLeDiff, true_and, and_true, true_or, or_true, Int.reduceEq, Nat.reduceEqDiff, reduceCtorEq, true_implies, false_implies, not_true_eq_false, not_false_eq_true, Nat.zero_le, Int.zero_add, Nat.zero_add, Nat.lt_add_one, eq_self, forall_const, implies_true, Bool.false_eq_true, false_or, or_false, and_self, ne_eq, me_ne, me_self]
    refine l_28a (M := M) (P := fun q _ => Rz K t g (fwt M) (fsr M) (q % 10) (q / 10)) W ht ep c0 c1 h0 hpt hPa (K 30 c).toNat X 0 _ _ (Int.le_refl 0) (by omega) BX (fun j j0 j1 => by omega) ?_
    intro X2 x2 y2 z2 m2 a3
    have BX2 := BG_mt BX m2
    rw [bq28_7]
    simp only [s_0, lgI_some, s_1I, s_3, s_6, s_7, s_8, s_24, s_29, cnP_0, cnP_1, cnP_2, cnP_3, cnP_4, cnP_5, s_30, s_32, s_47, lgR_some, s_53, res_0, res_1, nlg_n, nlg_I, nlg_R, Bool.true_and, Bool.and_self, Bool.and_true, kd_9, kd_10, kd_11, kd_12, kd_13, kd_14, kd_15, kd_16, kd_17, kd_18, kd_19, kd_20, kd_21, kd_22, kd_23, kd_24, kd_25, kd_26, kd_27, kd_28, kd_29, kd_30, kd_31, kd_32, kd_33, kd_34, kd_35, kd_36, kd_37, kd_38, kd_39, kd_40, kd_41, kd_42, kd_43, kd_44, kd_45, kd_46, kd_47, kd_48, kd_49, ln_9, ln_10, ln_11, ln_12, ln_13, ln_14, ln_15, ln_16, ln_17, ln_18, ln_19, ln_20, ln_21, ln_22, ln_23, ln_24, ln_25, ln_26, ln_27, ln_28, ln_29, ln_30, ln_31, ln_32, ln_33, ln_34, ln_35, ln_36, ln_37, ln_38, ln_39, ln_40, ln_41, ln_42, ln_43, ln_44, ln_45, ln_46, ln_47, ln_48, ln_49, lg_0, lg_1, lg_2, lg_3, lg_4, lg_5, lg_6, lg_7, lg_8, lz_0, lz_1, lz_2, lz_3, lz_4, lz_5, lz_6, lz_7, lz_8, lp_0, lp_1, lp_2, lp_3, lp_4, lp_5, lp_6, lp_7, lp_8, isL_n, isL_I, isL_R, g_3_0, g_3_3, g_3_6, g_3_7, g_7_12, g_7_3, rc_19_7, List.length_cons, List.length_nil, Nat.reduceAdd, Nat.reduceLT, Nat.reduceLeDiff, true_and, and_true, true_or, or_true, Int.reduceEq, Nat.reduceEqDiff, reduceCtorEq, true_implies, false_implies, not_true_eq_false, not_false_eq_true, Nat.zero_le, Int.zero_add, Nat.zero_add, Nat.lt_add_one, eq_self, forall_const, implies_true, Bool.false_eq_true, false_or, or_false, and_self, ne_eq, me_ne, me_self]
    refine l_28b (M := M) (P := fun q _ => Rz K t g (fwt M) (fsr M) (q % 10) (q / 10)) W ep c0 c1 h0 h1 hpt hPb (K 32 c).toNat X2 0 _ _ (Int.le_refl 0) (by omega) BX2 (fun j j0 j1 => by omega) ?_
    intro X3 m3 a4
    have BX3 := BG_mt BX2 m3
    have m23 := Mt_tr m2 m3 BX.2.2.1
    refine H X3 (Mt_tr m1 m23 B.2.2.1) ⟨?_, ?_, ?_, ?_⟩
    · rw [eh]; intro z1; exact Mt_nm m23 (by omega) (by omega) (a1 z1)
    · rw [eh, BX3.2.2.2.1]; intro z1 z2; exact Mt_nm m23 (by omega) (by omega) (a2 z1 z2)
    · rw [eh, ec, BX3.2.2.2.2.1]
      intro r r0 r1 r2 r3 r4 r5
      obtain ⟨r12, rf, rt, rb, rl, rn⟩ := WK_r W r0 r1
      have rt' := rt.resolve_left r3
      obtain ⟨i, i0, i1, i2⟩ := (W.2.1.2.2.2 r r0 r1).1
      rw [r2] at i1 i2
      have := a3 i i0 i1
      rw [i2] at this
      exact Mt_nm m3 (by omega) (by omega) (this r3 r4 r5)
    · rw [eh, ec, BX3.2.2.2.2.1]
      intro r r0 r1 r2 r3 r4
      obtain ⟨i, i0, i1, i2⟩ := (W.2.1.2.2.2 r r0 r1).2 (by omega)
      rw [r2] at i1 i2
      have := a4 i i0 i1
      rw [i2] at this
      exact this r3 r4
  have mid : ∀ (X : Me), Mt K t (fun q _ => Rz K t g (fwt M) (fsr M) (q % 10) (q / 10)) M X → (h < t → nm X (p + 10)) → Rn (d + 1) (blk 28 1) 28 [some (vR 7), some (vR 3), some (vI p), some (vI t), some (vI c), some (vI h), none, none, none] [] X Q := by
    intro X m1 a1
    have BX := BG_mt B m1
    rw [bq28_1]
    simp only [s_0, lgI_some, s_1I, s_3, s_7, s_24, s_29, cnP_0, cnP_1, cnP_2, cnP_3, cnP_4, cnP_5, s_30, s_32, s_47, lgR_some, s_53, res_0, res_1, nlg_n, nlg_I, nlg_R, Bool.true_and, Bool.and_self, Bool.and_true, kd_9, kd_10, kd_11, kd_12, kd_13, kd_14, kd_15, kd_16, kd_17, kd_18, kd_19, kd_20, kd_21, kd_22, kd_23, kd_24, kd_25, kd_26, kd_27, kd_28, kd_29, kd_30, kd_31, kd_32, kd_33, kd_34, kd_35, kd_36, kd_37, kd_38, kd_39, kd_40, kd_41, kd_42, kd_43, kd_44, kd_45, kd_46, kd_47, kd_48, kd_49, ln_9, ln_10, ln_11, ln_12, ln_13, ln_14, ln_15, ln_16, ln_17, ln_18, ln_19, ln_20, ln_21, ln_22, ln_23, ln_24, ln_25, ln_26, ln_27, ln_28, ln_29, ln_30, ln_31, ln_32, ln_33, ln_34, ln_35, ln_36, ln_37, ln_38, ln_39, ln_40, ln_41, ln_42, ln_43, ln_44, ln_45, ln_46, ln_47, ln_48, ln_49, lg_0, lg_1, lg_2, lg_3, lg_4, lg_5, lg_6, lg_7, lg_8, lz_0, lz_1, lz_2, lz_3, lz_4, lz_5, lz_6, lz_7, lz_8, lp_0, lp_1, lp_2, lp_3, lp_4, lp_5, lp_6, lp_7, lp_8, isL_n, isL_I, isL_R, g_7_12, g_7_2, rc_19_7, List.length_cons, List.length_nil, Nat.reduceAdd, Nat.reduceLT, Nat.reduceLeDiff, true_and, and_true, true_or, or_true, Int.reduceEq, Nat.reduceEqDiff, reduceCtorEq, true_implies, false_implies, not_true_eq_false, not_false_eq_true, Nat.zero_le, Int.zero_add, Nat.zero_add, Nat.lt_add_one, eq_self, forall_const, implies_true, Bool.false_eq_true, false_or, or_false, and_self, ne_eq, me_ne, me_self, BX.2.2.2.2.2.2.1, BX.2.2.2.1, show w32 (p - 10) = p - 10 from w32_id (by omega) (by omega)]
    refine ⟨fun q => tail X _ _ _ m1 a1 (fun z => by omega), fun q => ⟨⟨by omega, by omega⟩, fun q2 => tail X _ _ _ m1 a1 (fun _ z => by omega), fun q2 => ?_⟩⟩
    refine c_19f (K := K) (t := t) (P := fun q _ => Rz K t g (fwt M) (fsr M) (q % 10) (q / 10)) BX.2.2.1 (by omega) (by omega) (fun y0 => ?_) (fun X2 m2 n2 => tail X2 _ _ _ (Mt_tr m1 m2 B.2.2.1) (fun z => Mt_nm m2 (by omega) (by omega) (a1 z)) (fun _ _ => n2))
    rw [show p - 10 = (h - 1) * 10 + c by omega] at y0
    have pp := mkK_pl BX.2.1 c0 c1 c2 c3 (show K 5 2 ≤ h - 1 by omega) (by omega) y0
    rw [show (p - 10) % 10 = c by omega, show (p - 10) / 10 = h - 1 by omega]
    refine ⟨⟨pp, by omega⟩, cz.2.2.1 c (h - 1) (by rw [show h - 1 + 1 = h by omega]; exact hR) pp ?_⟩
    unfold fwt
    rw [show (h - 1) * 10 + c = p - 10 by omega]; omega
  unfold Cl
  rw [en_28]
  simp only [bq28_0, s_0, lgI_some, s_1I, s_3, s_6, s_7, s_13, s_14, s_24, s_29, cnP_0, cnP_1, cnP_2, cnP_3, cnP_4, cnP_5, s_30, s_32, s_47, lgR_some, s_53, res_0, res_1, nlg_n, nlg_I, nlg_R, Bool.true_and, Bool.and_self, Bool.and_true, kd_9, kd_10, kd_11, kd_12, kd_13, kd_14, kd_15, kd_16, kd_17, kd_18, kd_19, kd_20, kd_21, kd_22, kd_23, kd_24, kd_25, kd_26, kd_27, kd_28, kd_29, kd_30, kd_31, kd_32, kd_33, kd_34, kd_35, kd_36, kd_37, kd_38, kd_39, kd_40, kd_41, kd_42, kd_43, kd_44, kd_45, kd_46, kd_47, kd_48, kd_49, ln_9, ln_10, ln_11, ln_12, ln_13, ln_14, ln_15, ln_16, ln_17, ln_18, ln_19, ln_20, ln_21, ln_22, ln_23, ln_24, ln_25, ln_26, ln_27, ln_28, ln_29, ln_30, ln_31, ln_32, ln_33, ln_34, ln_35, ln_36, ln_37, ln_38, ln_39, ln_40, ln_41, ln_42, ln_43, ln_44, ln_45, ln_46, ln_47, ln_48, ln_49, lg_0, lg_1, lg_2, lg_3, lg_4, lg_5, lg_6, lg_7, lg_8, lz_0, lz_1, lz_2, lz_3, lz_4, lz_5, lz_6, lz_7, lz_8, lp_0, lp_1, lp_2, lp_3, lp_4, lp_5, lp_6, lp_7, lp_8, isL_n, isL_I, isL_R, g_7_12, g_7_2, rc_19_7, List.length_cons, List.length_nil, Nat.reduceAdd, Nat.reduceLT, Nat.reduceLeDiff, true_and, and_true, true_or, or_true, Int.reduceEq, Nat.reduceEqDiff, reduceCtorEq, true_implies, false_implies, not_true_eq_false, not_false_eq_true, Nat.zero_le, Int.zero_add, Nat.zero_add, Nat.lt_add_one, eq_self, forall_const, implies_true, Bool.false_eq_true, false_or, or_false, and_self, ne_eq, me_ne, me_self, et, ed, show w32 (p + 10) = p + 10 from w32_id (by omega) (by omega)]
  refine ⟨fun q => mid M (Mt_rf B.2.2.1) (fun z => by omega), fun q => ?_⟩
  refine c_19f (K := K) (t := t) (P := fun q _ => Rz K t g (fwt M) (fsr M) (q % 10) (q / 10)) B.2.2.1 (by omega) (by omega) (fun y0 => ?_) (fun X2 m2 n2 => mid X2 m2 (fun _ => n2))
  rw [show p + 10 = (h + 1) * 10 + c by omega] at y0
  have pp := mkK_pl B.2.1 c0 c1 c2 c3 (show K 5 2 ≤ h + 1 by omega) (by omega) y0
  rw [show (p + 10) % 10 = c by omega, show (p + 10) / 10 = h + 1 by omega]
  exact ⟨⟨pp, by omega⟩, cz.2.1 c h hR hp0 pp (by omega)⟩
end AH

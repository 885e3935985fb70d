/-! what is grown is the greatest -/
def ORk (K X : Me) (t : Int) : Prop := ∀ r h, 0 ≤ r → r < K 3 8 → K 26 r = -1 → K 5 2 ≤ h → h + K 28 r ≤ t → K 27 r ≤ X 42 (r * 100 + h) ∨ X 43 (h * 10 + K 25 r) < 0
def RK (K X : Me) : Prop := GK K (X 7 14) X ∧ ORk K X (X 7 14) ∧ (∀ t, K 5 2 ≤ t → t ≤ X 7 14 → Mx K t (X 39 t)) ∧ (K 5 2 - 1 ≤ X 7 14 ∧ X 7 14 ≤ 100)
/-- what isn't cut off -/
def Snc (K X : Me) (t c h : Int) : Prop := pl K c h ∧ h ≤ t ∧ 0 ≤ X 43 (h * 10 + c)
section GX
variable {d : Nat} {K M X X1 Y : Me} {t : Int} {Q : Int → Me → Prop}
theorem Snc_cz (W : WK K) (G : GK K t X) (hO : ORk K X t) (ht0 : K 5 2 ≤ t) (ht : t ≤ 100) : Cz K t (fgk K X) (fwt X) (fsr X) (Snc K X t) ∧ Nz K t (fsr X) (Snc K X t) := by
  have hn := W.2.2
  obtain ⟨g1, g2, g3, g4, g5, g6, g7⟩ := G
  refine ⟨⟨?_, ?_, ?_, ?_, ?_⟩, ?_⟩
  · intro c pp hg
    refine ⟨pp, ht0, ?_⟩
    apply Classical.byContradiction
    intro z
    have := (g7 c _ pp (by omega)).2.2.2.2 rfl
    unfold fgk at hg
    omega
  · intro c h hs pp pp2 h1
    refine ⟨pp2, h1, ?_⟩
    apply Classical.byContradiction
    intro z
    have := (g7 c _ pp2 (by omega)).2.1 (by have := pp.2.2.2.2.1; omega)
    rw [show h + 1 - 1 = h by omega] at this
    have := hs.2.2
    omega
  · intro c h hs pp hw
    have h1 := hs.1.2.2.2.2.2.1
    refine ⟨pp, by have := hs.2.1; omega, ?_⟩
    apply Classical.byContradiction
    intro z
    have := (g7 c h pp (by omega)).1 (by omega) hw
    have := hs.2.2
    omega
  · intro r h r0 r1 r2 r3 hs pp pp2 h1 hf
    obtain ⟨r12, rf, rt, rb, rl', rn⟩ := WK_r W r0 r2
    have hh : h < 100 := by omega
    unfold fsr at hf
    rw [if_pos hh] at hf
    refine ⟨pp2, h1, ?_⟩
    apply Classical.byContradiction
    intro z
    have := (g7 _ _ pp2 (by omega)).2.2.2.1 r r0 r2 rfl (by have := pp.2.2.2.2.1; omega)
    rw [show h + K 28 r - K 28 r = h by omega] at this
    have := this hf
    have := hs.2.2
    omega
  · intro r h r0 r1 r2 r3 hs pp hf
    obtain ⟨r12, rf, rt, rb, rl', rn⟩ := WK_r W r0 r2
    unfold fsr at hf
    by_cases hh : h < 100
    · rw [if_pos hh] at hf
      refine ⟨pp, by have := hs.2.1; omega, ?_⟩
      apply Classical.byContradiction
      intro z
      have := (g7 _ _ pp (by omega)).2.2.1 r r0 r2 rfl r3 hh hf
      have := hs.2.2
      omega
    · rw [if_neg hh] at hf; omega
  · intro r h r0 r1 r2 r3 hs pp h1
    obtain ⟨r12, rf, rt, rb, rl', rn⟩ := WK_r W r0 r2
    unfold fsr
    rw [if_pos (by omega)]
    rcases hO r h r0 r2 r3 pp.2.2.2.2.1 h1 with z | z
    · exact z
    · have := hs.2.2; omega
theorem GK_mx (W : WK K) (G : GK K t X) (hO : ORk K X t) (ht0 : K 5 2 ≤ t) (ht : t ≤ 100) : Mx K t (X 7 13) := by
  have := Snc_cz W G hO ht0 ht
  exact Mx_of W.2.2.1 G.2.2.2.2.2.1 this.1 this.2
theorem l_14b {t hour : Int} (W : WK K) (ht : t ≤ 100) (ht0 : K 5 2 ≤ t) (s1 : X 7 11 ≤ 100000000) (s0 : 0 ≤ X 7 11) (hO : ORk K X (t - 1))
    (H : ∀ X' y, GK K t X' → GR K X X' → ORk K X' t → X' 7 11 ≤ X 7 11 + 1200 → Rn (d + 5) (blk 14 4) 14 [some (vR 7), some (vR 3), some (vI hour), some (vI t), y] [] X' Q) :
    ∀ (m : Nat) (Y : Me) (i : Int), 0 ≤ i → i + (m : Int) = K 3 8 → GK K t Y → GR K X Y → Y 7 11 ≤ X 7 11 + 100 * i → (∀ r, 0 ≤ r → r < i → K 26 r = -1 → t - K 28 r < K 5 2 ∨ K 27 r ≤ Y 42 (r * 100 + (t - K 28 r)) ∨ Y 43 ((t - K 28 r) * 10 + K 25 r) < 0) → Rn (d + 5) (blk 14 2) 14 [some (vR 7), some (vR 3), some (vI hour), some (vI t), some (vI i)] [] Y Q := by
  have hn := W.2.2
  have wr := W.2.1.1
  intro m
  induction m with
  | zero =>
    intro Y i i0 i1 G R sy hr
    rw [bq14_2]
    simp only [bq14_3, s_0, lgI_some, s_3, s_5K, s_7, s_24, s_25, s_30, cnP_0, cnP_1, cnP_2, cnP_3, cnP_4, cnP_5, s_31, s_32, s_47, lgR_some, s_54, res_0, res_1, nlg_n, nlg_I, nlg_R, Bool.true_and, Bool.and_self, Bool.and_true, kd_9, kd_10, kd_11, kd_12, kd_13, kd_14, kd_15, kd_16, kd_17, kd_18, kd_19, kd_20, kd_21, kd_22, kd_23, kd_24, kd_25, kd_26, kd_27, kd_28, kd_29, kd_30, kd_31, kd_32, kd_33, kd_34, kd_35, kd_36, kd_37, kd_38, kd_39, kd_40, kd_41, kd_42, kd_43, kd_44, kd_45, kd_46, kd_47, kd_48, kd_49, ln_9, ln_10, ln_11, ln_12, ln_13, ln_14, ln_15, ln_16, ln_17, ln_18, ln_19, ln_20, ln_21, ln_22, ln_23, ln_24, ln_25, ln_26, ln_27, ln_28, ln_29, ln_30, ln_31, ln_32, ln_33, ln_34, ln_35, ln_36, ln_37, ln_38, ln_39, ln_40, ln_41, ln_42, ln_43, ln_44, ln_45, ln_46, ln_47, ln_48, ln_49, lg_0, lg_1, lg_2, lg_3, lg_4, lz_0, lz_1, lz_2, lz_3, lz_4, lp_0, lp_1, lp_2, lp_3, lp_4, isL_n, isL_I, isL_R, g_3_1, g_3_3, g_3_8, g_7_0, g_7_13, p_7_14, rc_16_7, List.length_cons, List.length_nil, Nat.reduceAdd, Nat.reduceLT, Nat.reduceLeDiff, true_and, and_true, true_or, or_true, Int.reduceEq, Nat.reduceEqDiff, reduceCtorEq, true_implies, false_implies, not_true_eq_false, not_false_eq_true, Nat.zero_le, Int.zero_add, Nat.zero_add, Nat.lt_add_one, eq_self, forall_const, implies_true, Bool.false_eq_true, false_or, or_false, and_self, ne_eq, me_ne, me_self, G.1 3 (by decide) (by decide), show K 3 8 ≤ i by omega]
    refine H Y _ G R ?_ (by omega)
    intro r h r0 r1 r2 h0 h1
    obtain ⟨r12, rf, rt, rb, rl', rn⟩ := WK_r W r0 r1
    by_cases z : h + K 28 r = t
    · have := hr r r0 (by omega) r2
      rw [show t - K 28 r = h by omega] at this
      exact this.resolve_left (by omega)
    · rcases hO r h r0 r1 r2 h0 (by omega) with w | w
      · have := R.2.2.2 r h r0 r1 r2 (by omega) (by omega)
        exact Or.inl (by omega)
      · exact Or.inr (R.2.2.1 _ (by omega) (by omega) w)
  | succ m ih =>
    intro Y i i0 i1 G R sy hr
    obtain ⟨r12, rf, rt, rb, rl', rn⟩ := WK_r W i0 (show i < K 3 8 by omega)
    rw [bq14_2]
    simp only [bq14_3, s_0, lgI_some, s_3, s_5K, s_7, s_24, s_25, s_30, cnP_0, cnP_1, cnP_2, cnP_3, cnP_4, cnP_5, s_31, s_32, s_47, lgR_some, s_54, res_0, res_1, nlg_n, nlg_I, nlg_R, Bool.true_and, Bool.and_self, Bool.and_true, kd_9, kd_10, kd_11, kd_12, kd_13, kd_14, kd_15, kd_16, kd_17, kd_18, kd_19, kd_20, kd_21, kd_22, kd_23, kd_24, kd_25, kd_26, kd_27, kd_28, kd_29, kd_30, kd_31, kd_32, kd_33, kd_34, kd_35, kd_36, kd_37, kd_38, kd_39, kd_40, kd_41, kd_42, kd_43, kd_44, kd_45, kd_46, kd_47, kd_48, kd_49, ln_9, ln_10, ln_11, ln_12, ln_13, ln_14, ln_15, ln_16, ln_17, ln_18, ln_19, ln_20, ln_21, ln_22, ln_23, ln_24, ln_25, ln_26, ln_27, ln_28, ln_29, ln_30, ln_31, ln_32, ln_33, ln_34, ln_35, ln_36, ln_37, ln_38, ln_39, ln_40, ln_41, ln_42, ln_43, ln_44, ln_45, ln_46, ln_47, ln_48, ln_49, lg_0, lg_1, lg_2, lg_3, lg_4, lz_0, lz_1, lz_2, lz_3, lz_4, lp_0, lp_1, lp_2, lp_3, lp_4, isL_n, isL_I, isL_R, g_3_1, g_3_3, g_3_8, g_7_0, g_7_13, p_7_14, rc_16_7, List.length_cons, List.length_nil, Nat.reduceAdd, Nat.reduceLT, Nat.reduceLeDiff, true_and, and_true, true_or, or_true, Int.reduceEq, Nat.reduceEqDiff, reduceCtorEq, true_implies, false_implies, not_true_eq_false, not_false_eq_true, Nat.zero_le, Int.zero_add, Nat.zero_add, Nat.lt_add_one, eq_self, forall_const, implies_true, Bool.false_eq_true, false_or, or_false, and_self, ne_eq, me_ne, me_self, G.1 3 (by decide) (by decide), G.1 26 (by decide) (by decide), G.1 28 (by decide) (by decide), i0, r12, show ¬ K 3 8 ≤ i by omega, show w32 (i + 1) = i + 1 from w32_id (by omega) (by omega), show w32 (t - K 28 i) = t - K 28 i from w32_id (by omega) (by omega)]
    refine ⟨fun q => ?_, fun q => ?_⟩
    · refine ih Y (i + 1) (by omega) (by omega) G R (by omega) (fun r r0 r1 r2 => ?_)
      by_cases z : r = i
      · subst z; exact (q r2).elim
      · exact hr r r0 (by omega) r2
    · refine c_16 (d := d) W G ht i0 (by omega) (Classical.not_not.mp q) (by omega) (by omega) (by omega) (fun X' G' R' c' s' => ?_)
      refine ih X' (i + 1) (by omega) (by omega) G' (GR_tr R R') (by omega) (fun r r0 r1 r2 => ?_)
      by_cases z : r = i
      · subst z; exact c'
      · obtain ⟨s12, sf, st, sb, sl', sn⟩ := WK_r W r0 (show r < K 3 8 by omega)
        rcases hr r r0 (by omega) r2 with w | w | w
        · exact Or.inl w
        · by_cases y : t - K 28 r < K 5 2
          · exact Or.inl y
          · have := R'.2.2.2 r (t - K 28 r) r0 (by omega) r2 (by omega) (by omega)
            exact Or.inr (Or.inl (by omega))
        · by_cases y : t - K 28 r < K 5 2
          · exact Or.inl y
          · exact Or.inr (Or.inr (R'.2.2.1 _ (by omega) (by omega) w))
/-- what a growth leaves as it was -/
def GS (X X' : Me) : Prop := (∀ k, k ∉ [7, 39, 40, 41, 42, 43, 44, 45, 46] → X' k = X k) ∧ (∀ j, j ≠ 9 → j ≠ 10 → j ≠ 11 → j ≠ 13 → j ≠ 14 → X' 7 j = X 7 j)
theorem GK_mo {t' : Int} (ht : t ≤ t') (G : GK K t X) : GK K t' X :=
  ⟨G.1, G.2.1, G.2.2.1, G.2.2.2.1, G.2.2.2.2.1, Vl_mo ht G.2.2.2.2.2.1, G.2.2.2.2.2.2⟩
theorem l_14 {hour : Int} (W : WK K) (h1 : hour ≤ 100) (H : ∀ X', RK K X' → GS X X' → X' 7 14 = hour → X' 7 11 ≤ 2000 * (hour + 1) → Q 0 X') :
    ∀ (m : Nat) (Y : Me) (t : Int) (y : Option AV), t + (m : Int) = hour + 1 → 0 ≤ t → t = Y 7 14 + 1 → RK K Y → GS X Y → (0 < m ∨ Y 7 11 ≤ 2000 * (hour + 1)) → Y 7 11 ≤ 2000 * (Y 7 14 + 1) + 1 → Rn (d + 5) (blk 14 1) 14 [some (vR 7), some (vR 3), some (vI hour), some (vI t), y] [] Y Q := by
  have hn := W.2.2
  intro m
  induction m with
  | zero =>
    intro Y t y e t0 et R S sb sb2
    rw [bq14_1]
    simp only [bq14_5, s_0, lgI_some, s_1I, s_3, s_30, cnP_0, cnP_1, cnP_2, cnP_3, cnP_4, cnP_5, s_32, s_38, lg_0, lg_1, lg_2, lg_3, lg_4, lz_0, lz_1, lz_2, lz_3, lz_4, lp_0, lp_1, lp_2, lp_3, lp_4, isL_n, isL_I, isL_R, List.length_cons, List.length_nil, Nat.reduceAdd, Nat.reduceLT, Nat.reduceLeDiff, true_and, and_true, true_or, or_true, Int.reduceEq, Nat.reduceEqDiff, reduceCtorEq, true_implies, false_implies, not_true_eq_false, not_false_eq_true, Nat.zero_le, Int.zero_add, Nat.zero_add, Nat.lt_add_one, eq_self, forall_const, implies_true, Bool.false_eq_true, false_or, or_false, and_self, ne_eq, me_ne, me_self, show hour < t by omega]
    exact H Y R S (by omega) (by omega)
  | succ m ih =>
    intro Y t y e t0 et R S sb sb2
    obtain ⟨G, hO, hx, hr⟩ := R
    rw [bq14_1]
    simp only [bq14_5, s_0, lgI_some, s_1I, s_3, s_7, s_24, s_30, cnP_0, cnP_1, cnP_2, cnP_3, cnP_4, cnP_5, s_32, s_38, s_47, lgR_some, s_54, res_0, res_1, nlg_n, nlg_I, nlg_R, Bool.true_and, Bool.and_self, Bool.and_true, kd_9, kd_10, kd_11, kd_12, kd_13, kd_14, kd_15, kd_16, kd_17, kd_18, kd_19, kd_20, kd_21, kd_22, kd_23, kd_24, kd_25, kd_26, kd_27, kd_28, kd_29, kd_30, kd_31, kd_32, kd_33, kd_34, kd_35, kd_36, kd_37, kd_38, kd_39, kd_40, kd_41, kd_42, kd_43, kd_44, kd_45, kd_46, kd_47, kd_48, kd_49, ln_9, ln_10, ln_11, ln_12, ln_13, ln_14, ln_15, ln_16, ln_17, ln_18, ln_19, ln_20, ln_21, ln_22, ln_23, ln_24, ln_25, ln_26, ln_27, ln_28, ln_29, ln_30, ln_31, ln_32, ln_33, ln_34, ln_35, ln_36, ln_37, ln_38, ln_39, ln_40, ln_41, ln_42, ln_43, ln_44, ln_45, ln_46, ln_47, ln_48, ln_49, lg_0, lg_1, lg_2, lg_3, lg_4, lz_0, lz_1, lz_2, lz_3, lz_4, lp_0, lp_1, lp_2, lp_3, lp_4, isL_n, isL_I, isL_R, g_3_1, g_3_3, g_3_8, rc_16_7, List.length_cons, List.length_nil, Nat.reduceAdd, Nat.reduceLT, Nat.reduceLeDiff, true_and, and_true, true_or, or_true, Int.reduceEq, Nat.reduceEqDiff, reduceCtorEq, true_implies, false_implies, not_true_eq_false, not_false_eq_true, Nat.zero_le, Int.zero_add, Nat.zero_add, Nat.lt_add_one, eq_self, forall_const, implies_true, Bool.false_eq_true, false_or, or_false, and_self, ne_eq, me_ne, me_self, show ¬ hour < t by omega, show ¬ 100 < t by omega]
    refine l_14b (X := Y) W (by omega) (by omega) (by omega) G.2.2.2.1 (by rw [show t - 1 = Y 7 14 by omega]; exact hO) ?_ (K 3 8).toNat Y 0 (Int.le_refl 0) (by have := W.2.1.1; omega) (GK_mo (by omega) G) GR_rf (by omega) (fun r r0 r1 => by omega)
    intro X' y' G' R' O' s'
    have e14 := R'.2.1 14 (by decide) (by decide) (by decide) (by decide)
    rw [bq14_4]
    simp only [s_0, lgI_some, s_1I, s_3, s_5K, s_25, s_30, cnP_0, cnP_1, cnP_2, cnP_3, cnP_4, cnP_5, s_31, s_32, s_47, lgR_some, kd_9, kd_10, kd_11, kd_12, kd_13, kd_14, kd_15, kd_16, kd_17, kd_18, kd_19, kd_20, kd_21, kd_22, kd_23, kd_24, kd_25, kd_26, kd_27, kd_28, kd_29, kd_30, kd_31, kd_32, kd_33, kd_34, kd_35, kd_36, kd_37, kd_38, kd_39, kd_40, kd_41, kd_42, kd_43, kd_44, kd_45, kd_46, kd_47, kd_48, kd_49, ln_9, ln_10, ln_11, ln_12, ln_13, ln_14, ln_15, ln_16, ln_17, ln_18, ln_19, ln_20, ln_21, ln_22, ln_23, ln_24, ln_25, ln_26, ln_27, ln_28, ln_29, ln_30, ln_31, ln_32, ln_33, ln_34, ln_35, ln_36, ln_37, ln_38, ln_39, ln_40, ln_41, ln_42, ln_43, ln_44, ln_45, ln_46, ln_47, ln_48, ln_49, lg_0, lg_1, lg_2, lg_3, lg_4, lz_0, lz_1, lz_2, lz_3, lz_4, lp_0, lp_1, lp_2, lp_3, lp_4, isL_n, isL_I, isL_R, g_7_0, g_7_13, p_7_14, List.length_cons, List.length_nil, Nat.reduceAdd, Nat.reduceLT, Nat.reduceLeDiff, true_and, and_true, true_or, or_true, Int.reduceEq, Nat.reduceEqDiff, reduceCtorEq, true_implies, false_implies, not_true_eq_false, not_false_eq_true, Nat.zero_le, Int.zero_add, Nat.zero_add, Nat.lt_add_one, eq_self, forall_const, implies_true, Bool.false_eq_true, false_or, or_false, and_self, ne_eq, me_ne, me_self, show 0 ≤ t by omega, show t < 101 by omega, show w32 (t + 1) = t + 1 from w32_id (by omega) (by omega)]
    generalize hZ : me_put (me_put X' 39 t (X' 7 13)) 7 14 t = Z
    have k1 : ∀ k, k ≠ 7 → k ≠ 39 → Z k = X' k := fun k q1 q2 => by rw [← hZ, me_f _ q1, me_f _ q2]
    have j1 : ∀ j, j ≠ 14 → Z 7 j = X' 7 j := fun j q => by rw [← hZ, me_i _ q, me_ne _ _ _ _ (by decide)]
    have z14 : Z 7 14 = t := by rw [← hZ, me_self]
    have z39 : Z 39 = fu (X' 39) t (X' 7 13) := by rw [← hZ, me_f _ (by decide), me_fs]
    obtain ⟨g1, g2, g3, g4, g5, g6, g7⟩ := G'
    refine ih Z (t + 1) _ (by omega) (by omega) (by omega) ⟨?_, ?_, ?_, by omega⟩ ⟨fun k q => ?_, fun j q1 q2 q3 q4 q5 => ?_⟩ (Or.inr (by rw [j1 11 (by decide)]; omega)) (by rw [j1 11 (by decide), z14]; omega)
    · rw [z14]
      refine ⟨fun k q1 q2 => by rw [k1 k q1 (by omega)]; exact g1 k q1 q2, by rw [j1 12 (by decide)]; exact g2, fun c h c0 c1 c2 c3 h0 h1 => by rw [k1 43 (by decide) (by decide), j1 11 (by decide)]; exact g3 c h c0 c1 c2 c3 h0 h1, by rw [j1 11 (by decide)]; exact g4, by rw [k1 40 (by decide) (by decide)]; exact g5, ?_, ?_⟩
      · rw [show fgk K Z = fgk K X' by funext c; unfold fgk; rw [k1 40 (by decide) (by decide)], show fwt Z = fwt X' by unfold fwt; rw [k1 41 (by decide) (by decide)], show fsr Z = fsr X' by unfold fsr; rw [k1 42 (by decide) (by decide)], j1 13 (by decide)]
        exact g6
      · unfold COk
        rw [k1 40 (by decide) (by decide), k1 41 (by decide) (by decide), k1 42 (by decide) (by decide), k1 43 (by decide) (by decide)]
        exact g7
    · rw [z14]
      unfold ORk
      rw [k1 42 (by decide) (by decide), k1 43 (by decide) (by decide)]
      exact O'
    · intro u u0 u1
      rw [z14] at u1
      rw [z39]
      by_cases z : u = t
      · rw [z, fu_s]
        exact GK_mx W ⟨g1, g2, g3, g4, g5, g6, g7⟩ O' (by omega) (by omega)
      · rw [fu_n z, R'.1 39 (by decide)]
        exact hx u u0 (by omega)
    · simp at q
      rw [k1 k (by omega) (by omega), R'.1 k (fun z => by simp at z; omega), S.1 k (fun z => by simp at z; omega)]
    · rw [j1 j q5, R'.2.1 j q1 q2 q3 q4, S.2 j q1 q2 q3 q4 q5]
/-- the flow is grown to an hour -/
theorem c_14 {hour : Int} (W : WK K) (R : RK K X) (h0 : X 7 14 < hour) (h1 : hour ≤ 100) (sb : X 7 11 ≤ 2000 * (X 7 14 + 1) + 1) (H : ∀ X', RK K X' → GS X X' → X' 7 14 = hour → X' 7 11 ≤ 2000 * (hour + 1) → Q 0 X') : Cl (d + 5) 14 [vR 7, vR 3, vI hour] X Q := by
  have hr := R.2.2.2
  have hn := W.2.2
  unfold Cl
  rw [en_14]
  simp only [bq14_0, s_0, lgI_some, s_1I, s_3, s_6, s_30, cnP_0, cnP_1, cnP_2, cnP_3, cnP_4, cnP_5, s_32, s_47, lgR_some, lg_0, lg_1, lg_2, lg_3, lg_4, lz_0, lz_1, lz_2, lz_3, lz_4, lp_0, lp_1, lp_2, lp_3, lp_4, isL_n, isL_I, isL_R, g_7_14, List.length_cons, List.length_nil, Nat.reduceAdd, Nat.reduceLT, Nat.reduceLeDiff, true_and, and_true, true_or, or_true, Int.reduceEq, Nat.reduceEqDiff, reduceCtorEq, true_implies, false_implies, not_true_eq_false, not_false_eq_true, Nat.zero_le, Int.zero_add, Nat.zero_add, Nat.lt_add_one, eq_self, forall_const, implies_true, Bool.false_eq_true, false_or, or_false, and_self, ne_eq, me_ne, me_self, show w32 (X 7 14 + 1) = X 7 14 + 1 from w32_id (by omega) (by omega)]
  exact l_14 W h1 H (hour - X 7 14).toNat X _ _ (by omega) (by omega) rfl R ⟨fun _ _ => rfl, fun _ _ _ _ _ _ => rfl⟩ (Or.inl (by omega)) sb
theorem c_14e {hour : Int} (h0 : hour ≤ X 7 14) (h2 : -1 ≤ X 7 14) (h3 : X 7 14 ≤ 100) (H : Q 0 X) : Cl (d + 5) 14 [vR 7, vR 3, vI hour] X Q := by
  unfold Cl
  rw [en_14]
  simp only [bq14_0, s_0, lgI_some, s_1I, s_3, s_6, s_30, cnP_0, cnP_1, cnP_2, cnP_3, cnP_4, cnP_5, s_32, s_47, lgR_some, lg_0, lg_1, lg_2, lg_3, lg_4, lz_0, lz_1, lz_2, lz_3, lz_4, lp_0, lp_1, lp_2, lp_3, lp_4, isL_n, isL_I, isL_R, g_7_14, List.length_cons, List.length_nil, Nat.reduceAdd, Nat.reduceLT, Nat.reduceLeDiff, true_and, and_true, true_or, or_true, Int.reduceEq, Nat.reduceEqDiff, reduceCtorEq, true_implies, false_implies, not_true_eq_false, not_false_eq_true, Nat.zero_le, Int.zero_add, Nat.zero_add, Nat.lt_add_one, eq_self, forall_const, implies_true, Bool.false_eq_true, false_or, or_false, and_self, ne_eq, me_ne, me_self, show w32 (X 7 14 + 1) = X 7 14 + 1 from w32_id (by omega) (by omega)]
  rw [bq14_1]
  simp only [bq14_5, s_0, lgI_some, s_1I, s_3, s_30, cnP_0, cnP_1, cnP_2, cnP_3, cnP_4, cnP_5, s_32, s_38, lg_0, lg_1, lg_2, lg_3, lg_4, lz_0, lz_1, lz_2, lz_3, lz_4, lp_0, lp_1, lp_2, lp_3, lp_4, isL_n, isL_I, isL_R, List.length_cons, List.length_nil, Nat.reduceAdd, Nat.reduceLT, Nat.reduceLeDiff, true_and, and_true, true_or, or_true, Int.reduceEq, Nat.reduceEqDiff, reduceCtorEq, true_implies, false_implies, not_true_eq_false, not_false_eq_true, Nat.zero_le, Int.zero_add, Nat.zero_add, Nat.lt_add_one, eq_self, forall_const, implies_true, Bool.false_eq_true, false_or, or_false, and_self, ne_eq, me_ne, me_self, show hour < X 7 14 + 1 by omega]
  exact H
end GX

/-! the flow grows hour by hour -/
def fgk (K X : Me) (c : Int) : Int := K 13 c - X 40 c
def GK (K : Me) (t : Int) (X : Me) : Prop := f7 K X ∧ X 7 12 = K 5 2 ∧ mkK K X ∧ 0 ≤ X 7 11 ∧ (∀ c, 0 ≤ c → c < 10 → 0 ≤ X 40 c ∧ X 40 c ≤ K 13 c) ∧ Vl K t (fgk K X) (fwt X) (fsr X) (X 7 13) ∧ COk K X
def GR (K X X' : Me) : Prop := (∀ k, k ∉ [7, 40, 41, 42, 43, 44, 45, 46] → X' k = X k) ∧ (∀ j, j ≠ 9 → j ≠ 10 → j ≠ 11 → j ≠ 13 → X' 7 j = X 7 j) ∧ (∀ q, 0 ≤ q → q < 1010 → X 43 q < 0 → X' 43 q < 0) ∧ (∀ r y, 0 ≤ r → r < K 3 8 → K 26 r = -1 → 0 ≤ y → y < 100 → X 42 (r * 100 + y) ≤ X' 42 (r * 100 + y))
section GW
variable {d : Nat} {K M X X1 X2 Y : Me} {t n rt rs : Int} {Q : Int → Me → Prop}
theorem GR_rf : GR K X X := ⟨fun _ _ => rfl, fun _ _ _ _ _ => rfl, fun _ _ _ h => h, fun _ _ _ _ _ _ _ => Int.le_refl _⟩
theorem GR_tr (a : GR K X X1) (b : GR K X1 X2) : GR K X X2 :=
  ⟨fun k q => by rw [b.1 k q, a.1 k q], fun j q1 q2 q3 q4 => by rw [b.2.1 j q1 q2 q3 q4, a.2.1 j q1 q2 q3 q4], fun q q0 q1 h => b.2.2.1 q q0 q1 (a.2.2.1 q q0 q1 h), fun r y r0 r1 r2 y0 y1 => Int.le_trans (a.2.2.2 r y r0 r1 r2 y0 y1) (b.2.2.2 r y r0 r1 r2 y0 y1)⟩
theorem CO_mm (W : WK K) (hv : Vs K t (fsr Y)) (hc : COk K Y) (mm : MM Y X) (s0 : 0 ≤ Y 7 11) (e40 : X 40 = Y 40) (e41 : X 41 = Y 41) (e42 : X 42 = Y 42) : COk K X := by
  have hn := W.2.2
  have neg : ∀ q, 0 ≤ q → q < 1010 → Y 43 q < 0 → X 43 q < 0 := by
    intro q q0 q1 h
    rcases mm q q0 q1 with z | z
    · rw [z]; exact h
    · omega
  intro c h pp hm
  obtain ⟨c0, c1, c2, c3, h0, h1, hd⟩ := pp
  have hY : Y 43 (h * 10 + c) < 0 := by
    rcases mm (h * 10 + c) (by omega) (by omega) with z | z
    · rw [← z]; exact hm
    · omega
  obtain ⟨a1, a2, a3, a4, a5⟩ := hc c h ⟨c0, c1, c2, c3, h0, h1, hd⟩ hY
  rw [e40, e41, e42]
  refine ⟨fun z1 z2 => neg _ (by omega) (by omega) (a1 z1 z2), fun z => neg _ (by omega) (by omega) (a2 z), fun r r0 r1 r2 r3 z1 z2 => ?_, fun r r0 r1 r2 z1 z2 => ?_, a5⟩
  · obtain ⟨r12, rf, rt, rb, rl', rn⟩ := WK_r W r0 r1
    have rt' := rt.resolve_left r3
    have v := hv r h r0 r12 (by omega) (by omega)
    unfold fsr at v
    rw [if_pos z1] at v
    have v2 := ((v.2 (by omega)).2.2.2.2 r3).2.2.2.2.2.1
    exact neg _ (by omega) (by omega) (a3 r r0 r1 r2 r3 z1 z2)
  · obtain ⟨r12, rf, rt, rb, rl', rn⟩ := WK_r W r0 r1
    exact neg _ (by omega) (by omega) (a4 r r0 r1 r2 z1 z2)
theorem rmf_cg {p s : Int} (e41 : X 41 = Y 41) (e42 : X 42 = Y 42) : rmf K X p s = rmf K Y p s := by
  unfold rmf; rw [e41, e42]
theorem pth_cg (e41 : X 41 = Y 41) (e42 : X 42 = Y 42) (e44 : X 44 = Y 44) : ∀ (k : Nat) (p : Int), pth K X n k p = pth K Y n k p := by
  intro k
  induction k with
  | zero => intro p; rfl
  | succ k ih =>
    intro p
    simp only [pth]
    rw [e44]
    simp only [ih, RS_cg e41 e42, rmf_cg e41 e42]
theorem c_16 {r h : Int} (W : WK K) (G : GK K t X) (ht : t ≤ 100) (r0 : 0 ≤ r) (r1 : r < K 3 8) (r2 : K 26 r = -1) (h1 : h + K 28 r ≤ t) (hb : -10 ≤ h) (s1 : X 7 11 ≤ 1000000000)
    (H : ∀ X', GK K t X' → GR K X X' → (h < K 5 2 ∨ K 27 r ≤ X' 42 (r * 100 + h) ∨ X' 43 (h * 10 + K 25 r) < 0) → X' 7 11 ≤ X 7 11 + 100 → Q 0 X') : Cl (d + 4) 16 [vR 7, vR 3, vI r, vI h] X Q := by
  have hn := W.2.2
  obtain ⟨r12, rf, rt, rb, rl', rn⟩ := WK_r W r0 r1
  have x25 := G.1 25 (by decide) (by decide)
  have x27 := G.1 27 (by decide) (by decide)
  unfold Cl
  rw [en_16]
  by_cases hnow : h < K 5 2
  · simp only [bq16_0, s_0, lgI_some, s_1I, s_3, s_6, s_8, s_24, s_30, cnP_0, cnP_1, cnP_2, cnP_3, cnP_4, cnP_5, s_32, s_38, s_47, lgR_some, kd_9, kd_10, kd_11, kd_12, kd_13, kd_14, kd_15, kd_16, kd_17, kd_18, kd_19, kd_20, kd_21, kd_22, kd_23, kd_24, kd_25, kd_26, kd_27, kd_28, kd_29, kd_30, kd_31, kd_32, kd_33, kd_34, kd_35, kd_36, kd_37, kd_38, kd_39, kd_40, kd_41, kd_42, kd_43, kd_44, kd_45, kd_46, kd_47, kd_48, kd_49, ln_9, ln_10, ln_11, ln_12, ln_13, ln_14, ln_15, ln_16, ln_17, ln_18, ln_19, ln_20, ln_21, ln_22, ln_23, ln_24, ln_25, ln_26, ln_27, ln_28, ln_29, ln_30, ln_31, ln_32, ln_33, ln_34, ln_35, ln_36, ln_37, ln_38, ln_39, ln_40, ln_41, ln_42, ln_43, ln_44, ln_45, ln_46, ln_47, ln_48, ln_49, lg_0, lg_1, lg_2, lg_3, lg_4, lg_5, lg_6, lg_7, lg_8, lz_0, lz_1, lz_2, lz_3, lz_4, lz_5, lz_6, lz_7, lz_8, lp_0, lp_1, lp_2, lp_3, lp_4, lp_5, lp_6, lp_7, lp_8, isL_n, isL_I, isL_R, g_3_0, g_3_2, g_7_12, List.length_cons, List.length_nil, Nat.reduceAdd, Nat.reduceLT, Nat.reduceLeDiff, true_and, and_true, true_or, or_true, Int.reduceEq, Nat.reduceEqDiff, reduceCtorEq, true_implies, false_implies, not_true_eq_false, not_false_eq_true, Nat.zero_le, Int.zero_add, Nat.zero_add, Nat.lt_add_one, eq_self, forall_const, implies_true, Bool.false_eq_true, false_or, or_false, and_self, ne_eq, me_ne, me_self, G.2.1, show ¬ K 5 2 ≤ h by omega]
    exact H X G GR_rf (Or.inl hnow) (by omega)
  · have e10 := ix10h rf.1 rf.2.1 (show 0 ≤ h by omega) (show h ≤ 100 by omega)
    have e100 := mul100 r0 r12 (show 0 ≤ h by omega) (show h ≤ 100 by omega)
    simp only [bq16_0, bq16_1, s_0, lgI_some, s_1I, s_3, s_6, s_8, s_24, s_30, cnP_0, cnP_1, cnP_2, cnP_3, cnP_4, cnP_5, s_32, s_38, s_47, lgR_some, s_54, res_0, res_1, nlg_n, nlg_I, nlg_R, Bool.true_and, Bool.and_self, Bool.and_true, kd_9, kd_10, kd_11, kd_12, kd_13, kd_14, kd_15, kd_16, kd_17, kd_18, kd_19, kd_20, kd_21, kd_22, kd_23, kd_24, kd_25, kd_26, kd_27, kd_28, kd_29, kd_30, kd_31, kd_32, kd_33, kd_34, kd_35, kd_36, kd_37, kd_38, kd_39, kd_40, kd_41, kd_42, kd_43, kd_44, kd_45, kd_46, kd_47, kd_48, kd_49, ln_9, ln_10, ln_11, ln_12, ln_13, ln_14, ln_15, ln_16, ln_17, ln_18, ln_19, ln_20, ln_21, ln_22, ln_23, ln_24, ln_25, ln_26, ln_27, ln_28, ln_29, ln_30, ln_31, ln_32, ln_33, ln_34, ln_35, ln_36, ln_37, ln_38, ln_39, ln_40, ln_41, ln_42, ln_43, ln_44, ln_45, ln_46, ln_47, ln_48, ln_49, lg_0, lg_1, lg_2, lg_3, lg_4, lg_5, lg_6, lg_7, lg_8, lz_0, lz_1, lz_2, lz_3, lz_4, lz_5, lz_6, lz_7, lz_8, lp_0, lp_1, lp_2, lp_3, lp_4, lp_5, lp_6, lp_7, lp_8, isL_n, isL_I, isL_R, g_3_0, g_3_2, g_7_12, g_7_3, rc_17_7, List.length_cons, List.length_nil, Nat.reduceAdd, Nat.reduceLT, Nat.reduceLeDiff, true_and, and_true, true_or, or_true, Int.reduceEq, Nat.reduceEqDiff, reduceCtorEq, true_implies, false_implies, not_true_eq_false, not_false_eq_true, Nat.zero_le, Int.zero_add, Nat.zero_add, Nat.lt_add_one, eq_self, forall_const, implies_true, Bool.false_eq_true, false_or, or_false, and_self, ne_eq, me_ne, me_self, G.2.1, show K 5 2 ≤ h by omega, x25, x27, e10, r0, r12]
    have lp : ∀ (m : Nat) (Y : Me) (i : Int) (u v : Option AV), 0 ≤ i → i + (m : Int) = K 27 r → GK K t Y → GR K X Y → i ≤ Y 42 (r * 100 + h) → Y 7 11 ≤ X 7 11 + i → Rn (d + 4) (blk 16 2) 16 [some (vR 7), some (vR 3), some (vI r), some (vI h), some (vI (h * 10 + K 25 r)), some (vI (K 27 r)), some (vI i), u, v] [] Y Q := by
      intro m
      induction m with
      | zero =>
        intro Y i u v i0 i1 GY RY iy sy
        rw [bq16_2]
        simp only [bq16_4, s_0, lgI_some, s_1I, s_3, s_6, s_8, s_24, s_30, cnP_0, cnP_1, cnP_2, cnP_3, cnP_4, cnP_5, s_38, s_47, lgR_some, s_54, res_0, res_1, nlg_n, nlg_I, nlg_R, Bool.true_and, Bool.and_self, Bool.and_true, kd_9, kd_10, kd_11, kd_12, kd_13, kd_14, kd_15, kd_16, kd_17, kd_18, kd_19, kd_20, kd_21, kd_22, kd_23, kd_24, kd_25, kd_26, kd_27, kd_28, kd_29, kd_30, kd_31, kd_32, kd_33, kd_34, kd_35, kd_36, kd_37, kd_38, kd_39, kd_40, kd_41, kd_42, kd_43, kd_44, kd_45, kd_46, kd_47, kd_48, kd_49, ln_9, ln_10, ln_11, ln_12, ln_13, ln_14, ln_15, ln_16, ln_17, ln_18, ln_19, ln_20, ln_21, ln_22, ln_23, ln_24, ln_25, ln_26, ln_27, ln_28, ln_29, ln_30, ln_31, ln_32, ln_33, ln_34, ln_35, ln_36, ln_37, ln_38, ln_39, ln_40, ln_41, ln_42, ln_43, ln_44, ln_45, ln_46, ln_47, ln_48, ln_49, lg_0, lg_1, lg_2, lg_3, lg_4, lg_5, lg_6, lg_7, lg_8, lz_0, lz_1, lz_2, lz_3, lz_4, lz_5, lz_6, lz_7, lz_8, lp_0, lp_1, lp_2, lp_3, lp_4, lp_5, lp_6, lp_7, lp_8, isL_n, isL_I, isL_R, g_7_3, rc_17_7, List.length_cons, List.length_nil, Nat.reduceAdd, Nat.reduceLT, Nat.reduceLeDiff, true_and, and_true, true_or, or_true, Int.reduceEq, Nat.reduceEqDiff, reduceCtorEq, true_implies, false_implies, not_true_eq_false, not_false_eq_true, Nat.zero_le, Int.zero_add, Nat.zero_add, Nat.lt_add_one, eq_self, forall_const, implies_true, Bool.false_eq_true, false_or, or_false, and_self, ne_eq, me_ne, me_self, show K 27 r ≤ i by omega]
        exact H Y GY RY (Or.inr (Or.inl (by omega))) (by omega)
      | succ m ih =>
        intro Y i u v i0 i1 GY RY iy sy
        have GY0 := GY
        obtain ⟨g1, g2, g3, g4, g5, g6, g7⟩ := GY0
        rw [bq16_2]
        simp only [bq16_4, s_0, lgI_some, s_1I, s_3, s_5K, s_6, s_7, s_8, s_14, s_24, s_25, s_30, cnP_0, cnP_1, cnP_2, cnP_3, cnP_4, cnP_5, s_31, s_33I, s_33R, s_34, s_38, s_47, lgR_some, s_53, s_54, res_0, res_1, nlg_n, nlg_I, nlg_R, Bool.true_and, Bool.and_self, Bool.and_true, kd_9, kd_10, kd_11, kd_12, kd_13, kd_14, kd_15, kd_16, kd_17, kd_18, kd_19, kd_20, kd_21, kd_22, kd_23, kd_24, kd_25, kd_26, kd_27, kd_28, kd_29, kd_30, kd_31, kd_32, kd_33, kd_34, kd_35, kd_36, kd_37, kd_38, kd_39, kd_40, kd_41, kd_42, kd_43, kd_44, kd_45, kd_46, kd_47, kd_48, kd_49, ln_9, ln_10, ln_11, ln_12, ln_13, ln_14, ln_15, ln_16, ln_17, ln_18, ln_19, ln_20, ln_21, ln_22, ln_23, ln_24, ln_25, ln_26, ln_27, ln_28, ln_29, ln_30, ln_31, ln_32, ln_33, ln_34, ln_35, ln_36, ln_37, ln_38, ln_39, ln_40, ln_41, ln_42, ln_43, ln_44, ln_45, ln_46, ln_47, ln_48, ln_49, lg_0, lg_1, lg_2, lg_3, lg_4, lg_5, lg_6, lg_7, lg_8, lz_0, lz_1, lz_2, lz_3, lz_4, lz_5, lz_6, lz_7, lz_8, lp_0, lp_1, lp_2, lp_3, lp_4, lp_5, lp_6, lp_7, lp_8, isL_n, isL_I, isL_R, g_7_1, g_7_13, g_7_3, p_7_13, rc_17_7, rc_22_7, rc_23_7, List.length_cons, List.length_nil, Nat.reduceAdd, Nat.reduceLT, Nat.reduceLeDiff, true_and, and_true, true_or, or_true, Int.reduceEq, Nat.reduceEqDiff, reduceCtorEq, true_implies, false_implies, not_true_eq_false, not_false_eq_true, Nat.zero_le, Int.zero_add, Nat.zero_add, Nat.lt_add_one, eq_self, forall_const, implies_true, Bool.false_eq_true, false_or, or_false, and_self, ne_eq, me_ne, me_self, show ¬ K 27 r ≤ i by omega, e100, show w32 (2 + r) = 2 + r from w32_id (by omega) (by omega)]
        refine ⟨by omega, fun q => H Y GY RY (Or.inr (Or.inl q)) (by omega), fun q => ?_⟩
        refine c_17 (d := d + 1) W g1 g2 g3 g4 (by omega) g6.2.1 g6.2.2.1 ht g7 (fun c c0 c1 => (g5 c c0 c1).1) r0 r1 r2 (by omega) h1 (by omega) ?_ ?_
        · intro X1 at' F B mm pt a0 a1 am ah al
          refine ⟨fun _ => ?_, fun z => (z (by omega)).elim⟩
          have e40 : X1 40 = Y 40 := B.2.2.2.2.2.1
          have e41 : X1 41 = Y 41 := B.2.2.2.1
          have e42 : X1 42 = Y 42 := B.2.2.2.2.1
          obtain ⟨⟨ia, ia0, ia1, ia2⟩, ap, at_t⟩ := B.2.2.1.2.2.1 at' a0 a1 am
          have ptX : PT K X1 (h * 10 + K 25 r) (2 + r) X1 := by
            intro j j0 j1
            obtain ⟨q, q1, q2⟩ := pt j j0 j1
            exact ⟨q, by rw [RS_cg e41 e42]; exact q1, q2⟩
          have fw1 : fwt X1 = fwt Y := by unfold fwt; rw [e41]
          have fs1 : fsr X1 = fsr Y := by unfold fsr; rw [e42]
          have hvX : Vs K t (fsr X1) := by rw [fs1]; exact g6.2.2.1
          have hwX : Vw K t (fwt X1) := by rw [fw1]; exact g6.2.1
          have et : at'.tmod 10 = at' % 10 := Int.tmod_eq_emod_of_nonneg a0
          rw [bq16_3]
          simp only [s_0, lgI_some, s_1I, s_3, s_5K, s_6, s_7, s_8, s_14, s_24, s_25, s_30, cnP_0, cnP_1, cnP_2, cnP_3, cnP_4, cnP_5, s_31, s_33I, s_33R, s_34, s_38, s_47, lgR_some, s_53, s_54, res_0, res_1, nlg_n, nlg_I, nlg_R, Bool.true_and, Bool.and_self, Bool.and_true, kd_9, kd_10, kd_11, kd_12, kd_13, kd_14, kd_15, kd_16, kd_17, kd_18, kd_19, kd_20, kd_21, kd_22, kd_23, kd_24, kd_25, kd_26, kd_27, kd_28, kd_29, kd_30, kd_31, kd_32, kd_33, kd_34, kd_35, kd_36, kd_37, kd_38, kd_39, kd_40, kd_41, kd_42, kd_43, kd_44, kd_45, kd_46, kd_47, kd_48, kd_49, ln_9, ln_10, ln_11, ln_12, ln_13, ln_14, ln_15, ln_16, ln_17, ln_18, ln_19, ln_20, ln_21, ln_22, ln_23, ln_24, ln_25, ln_26, ln_27, ln_28, ln_29, ln_30, ln_31, ln_32, ln_33, ln_34, ln_35, ln_36, ln_37, ln_38, ln_39, ln_40, ln_41, ln_42, ln_43, ln_44, ln_45, ln_46, ln_47, ln_48, ln_49, lg_0, lg_1, lg_2, lg_3, lg_4, lg_5, lg_6, lg_7, lg_8, lz_0, lz_1, lz_2, lz_3, lz_4, lz_5, lz_6, lz_7, lz_8, lp_0, lp_1, lp_2, lp_3, lp_4, lp_5, lp_6, lp_7, lp_8, isL_n, isL_I, isL_R, g_7_1, g_7_13, g_7_3, p_7_13, rc_17_7, rc_22_7, rc_23_7, List.length_cons, List.length_nil, Nat.reduceAdd, Nat.reduceLT, Nat.reduceLeDiff, true_and, and_true, true_or, or_true, Int.reduceEq, Nat.reduceEqDiff, reduceCtorEq, true_implies, false_implies, not_true_eq_false, not_false_eq_true, Nat.zero_le, Int.zero_add, Nat.zero_add, Nat.lt_add_one, eq_self, forall_const, implies_true, Bool.false_eq_true, false_or, or_false, and_self, ne_eq, me_ne, me_self]
          rw [← ia2]
          refine c_22 (d := d) W B.1 hvX B.2.2.1 ptX ia0 ia1 (by rw [ia2, e40]; omega) (fun n k n1 n2 k1 pk => ?_)
          rw [ia2] at n2 pk ⊢
          rw [e40] at n2
          have lb := g5 (at' % 10) (by omega) (by omega)
          have pb := W.1.2.2.2.2.2.2.1 (at' % 10)
          simp only [s_0, lgI_some, s_1I, s_3, s_5K, s_6, s_7, s_8, s_14, s_24, s_25, s_30, cnP_0, cnP_1, cnP_2, cnP_3, cnP_4, cnP_5, s_31, s_33I, s_33R, s_34, s_38, s_47, lgR_some, s_53, s_54, res_0, res_1, nlg_n, nlg_I, nlg_R, Bool.true_and, Bool.and_self, Bool.and_true, kd_9, kd_10, kd_11, kd_12, kd_13, kd_14, kd_15, kd_16, kd_17, kd_18, kd_19, kd_20, kd_21, kd_22, kd_23, kd_24, kd_25, kd_26, kd_27, kd_28, kd_29, kd_30, kd_31, kd_32, kd_33, kd_34, kd_35, kd_36, kd_37, kd_38, kd_39, kd_40, kd_41, kd_42, kd_43, kd_44, kd_45, kd_46, kd_47, kd_48, kd_49, ln_9, ln_10, ln_11, ln_12, ln_13, ln_14, ln_15, ln_16, ln_17, ln_18, ln_19, ln_20, ln_21, ln_22, ln_23, ln_24, ln_25, ln_26, ln_27, ln_28, ln_29, ln_30, ln_31, ln_32, ln_33, ln_34, ln_35, ln_36, ln_37, ln_38, ln_39, ln_40, ln_41, ln_42, ln_43, ln_44, ln_45, ln_46, ln_47, ln_48, ln_49, lg_0, lg_1, lg_2, lg_3, lg_4, lg_5, lg_6, lg_7, lg_8, lz_0, lz_1, lz_2, lz_3, lz_4, lz_5, lz_6, lz_7, lz_8, lp_0, lp_1, lp_2, lp_3, lp_4, lp_5, lp_6, lp_7, lp_8, isL_n, isL_I, isL_R, g_7_1, g_7_13, g_7_3, p_7_13, rc_17_7, rc_22_7, rc_23_7, List.length_cons, List.length_nil, Nat.reduceAdd, Nat.reduceLT, Nat.reduceLeDiff, true_and, and_true, true_or, or_true, Int.reduceEq, Nat.reduceEqDiff, reduceCtorEq, true_implies, false_implies, not_true_eq_false, not_false_eq_true, Nat.zero_le, Int.zero_add, Nat.zero_add, Nat.lt_add_one, eq_self, forall_const, implies_true, Bool.false_eq_true, false_or, or_false, and_self, ne_eq, me_ne, me_self, et, e40, show w32 (Y 40 (at' % 10) - n) = Y 40 (at' % 10) - n from w32_id (by omega) (by omega)]
          refine ⟨by omega, by omega, ?_⟩
          generalize hX2 : me_put X1 40 (at' % 10) (Y 40 (at' % 10) - n) = X2
          have k2 : ∀ k, k ≠ 40 → X2 k = X1 k := fun k q => by rw [← hX2, me_f _ q]
          have x40 : X2 40 = fu (Y 40) (at' % 10) (Y 40 (at' % 10) - n) := by rw [← hX2, me_fs, e40]
          have fw2 : fwt X2 = fwt Y := by unfold fwt; rw [k2 41 (by decide), e41]
          have fs2 : fsr X2 = fsr Y := by unfold fsr; rw [k2 42 (by decide), e42]
          have co1 := CO_mm W g6.2.2.1 g7 mm g4 e40 e41 e42
          have co2 : COk K X2 := by
            intro c h' pp hm
            rw [k2 43 (by decide)] at hm
            obtain ⟨b1, b2, b3, b4, b5⟩ := co1 c h' pp hm
            rw [k2 41 (by decide), k2 42 (by decide), k2 43 (by decide), x40]
            refine ⟨b1, b2, b3, b4, fun z => ?_⟩
            have hne : c ≠ at' % 10 := by
              intro e
              have : h' * 10 + c = at' := by omega
              rw [this, am.2] at hm
              have := B.2.2.1.1.2.2.2
              omega
            rw [fu_n hne, ← e40]; exact b5 z
          have vb := Vl_v W g6
          rw [uc 23, en_23]
          simp only [bq23_0, s_0, lgI_some, s_1I, s_3, s_5K, s_30, cnP_0, cnP_1, cnP_2, cnP_3, cnP_4, cnP_5, s_31, s_32, s_47, lgR_some, s_53, s_54, res_0, res_1, nlg_n, nlg_I, nlg_R, Bool.true_and, Bool.and_self, Bool.and_true, lg_0, lg_1, lg_2, lg_3, lg_4, lg_5, lg_6, lz_0, lz_1, lz_2, lz_3, lz_4, lz_5, lz_6, lp_0, lp_1, lp_2, lp_3, lp_4, lp_5, lp_6, isL_n, isL_I, isL_R, rc_24_7, rc_26_7, List.length_cons, List.length_nil, Nat.reduceAdd, Nat.reduceLT, Nat.reduceLeDiff, true_and, and_true, true_or, or_true, Int.reduceEq, Nat.reduceEqDiff, reduceCtorEq, true_implies, false_implies, not_true_eq_false, not_false_eq_true, Nat.zero_le, Int.zero_add, Nat.zero_add, Nat.lt_add_one, eq_self, forall_const, implies_true, Bool.false_eq_true, false_or, or_false, and_self, ne_eq, me_ne, me_self]
          rw [show at' = X2 46 ia by rw [k2 46 (by decide), ia2]]
          refine l_23 (d := d + 1) (X := X2) (x := at') (t := t) (M := X1) (rt := h * 10 + K 25 r) (rs := 2 + r) (r := r) (h := h) W n1 (by omega) rfl rfl r0 r1 h1 (by omega) ht (fgk K X2) ?_ k X2 ia 0 _ ia0 (by rw [k2 7 (by decide)]; exact ia1) (Int.le_refl 0) (by omega) ?_ ?_ ?_ ?_ ?_ (fun _ _ _ => rfl) (by rw [fw2]; exact g6.2.1) (by rw [fs2]; exact g6.2.2.1) ?_ co2 (fun _ _ _ _ _ _ _ => rfl)
          · intro X3 x1 x2 x3 x4 x5 x6
            have e3 : X3 7 = X1 7 := by rw [x1 7 (by decide) (by decide), k2 7 (by decide)]
            have e13 : X3 7 13 = Y 7 13 := by rw [e3, F.2.1 13 (by decide) (by decide) (by decide)]
            have e340 : X3 40 = X2 40 := x1 40 (by decide) (by decide)
            simp only [s_0, lgI_some, s_1I, s_3, s_5K, s_6, s_7, s_8, s_14, s_24, s_25, s_30, cnP_0, cnP_1, cnP_2, cnP_3, cnP_4, cnP_5, s_31, s_33I, s_33R, s_34, s_38, s_47, lgR_some, s_53, s_54, res_0, res_1, nlg_n, nlg_I, nlg_R, Bool.true_and, Bool.and_self, Bool.and_true, kd_9, kd_10, kd_11, kd_12, kd_13, kd_14, kd_15, kd_16, kd_17, kd_18, kd_19, kd_20, kd_21, kd_22, kd_23, kd_24, kd_25, kd_26, kd_27, kd_28, kd_29, kd_30, kd_31, kd_32, kd_33, kd_34, kd_35, kd_36, kd_37, kd_38, kd_39, kd_40, kd_41, kd_42, kd_43, kd_44, kd_45, kd_46, kd_47, kd_48, kd_49, ln_9, ln_10, ln_11, ln_12, ln_13, ln_14, ln_15, ln_16, ln_17, ln_18, ln_19, ln_20, ln_21, ln_22, ln_23, ln_24, ln_25, ln_26, ln_27, ln_28, ln_29, ln_30, ln_31, ln_32, ln_33, ln_34, ln_35, ln_36, ln_37, ln_38, ln_39, ln_40, ln_41, ln_42, ln_43, ln_44, ln_45, ln_46, ln_47, ln_48, ln_49, lg_0, lg_1, lg_2, lg_3, lg_4, lg_5, lg_6, lg_7, lg_8, lz_0, lz_1, lz_2, lz_3, lz_4, lz_5, lz_6, lz_7, lz_8, lp_0, lp_1, lp_2, lp_3, lp_4, lp_5, lp_6, lp_7, lp_8, isL_n, isL_I, isL_R, g_7_1, g_7_13, g_7_3, p_7_13, rc_17_7, rc_22_7, rc_23_7, List.length_cons, List.length_nil, Nat.reduceAdd, Nat.reduceLT, Nat.reduceLeDiff, true_and, and_true, true_or, or_true, Int.reduceEq, Nat.reduceEqDiff, reduceCtorEq, true_implies, false_implies, not_true_eq_false, not_false_eq_true, Nat.zero_le, Int.zero_add, Nat.zero_add, Nat.lt_add_one, eq_self, forall_const, implies_true, Bool.false_eq_true, false_or, or_false, and_self, ne_eq, me_ne, me_self, e13, show w32 (Y 7 13 + n) = Y 7 13 + n from w32_id (by omega) (by omega), show w32 (i + 1) = i + 1 from w32_id (by omega) (by omega)]
            generalize hX4 : me_put X3 7 13 (Y 7 13 + n) = X4
            have k4 : ∀ k, k ≠ 7 → X4 k = X3 k := fun k q => by rw [← hX4, me_f _ q]
            have j4 : ∀ j, j ≠ 13 → X4 7 j = X3 7 j := fun j q => by rw [← hX4, me_i _ q]
            have fw4 : fwt X4 = fwt X3 := by unfold fwt; rw [k4 41 (by decide)]
            have fs4 : fsr X4 = fsr X3 := by unfold fsr; rw [k4 42 (by decide)]
            have fg4 : fgk K X4 = fgk K X2 := by funext c; unfold fgk; rw [k4 40 (by decide), e340]
            have f4 : ∀ k, k ∉ [7, 40, 41, 42, 43, 44, 45, 46] → X4 k = Y k := by
              intro k q
              simp at q
              rw [k4 k q.1, x1 k (by omega) (by omega), k2 k (by omega), F.1 k (fun z => by simp at z; omega)]
            have m4 : X4 43 = X1 43 := by rw [k4 43 (by decide), x1 43 (by decide) (by decide), k2 43 (by decide)]
            have s4 : X4 7 11 = Y 7 11 + 1 := by rw [j4 11 (by decide), e3, F.2.2]
            have neg : ∀ q, 0 ≤ q → q < 1010 → Y 43 q < 0 → X4 43 q < 0 := by
              intro q q0 q1 hq
              rw [m4]
              rcases mm q q0 q1 with z | z
              · rw [z]; exact hq
              · omega
            have o4 : ∀ r' y, 0 ≤ r' → r' < K 3 8 → K 26 r' = -1 → 0 ≤ y → y < 100 → X4 42 (r' * 100 + y) = Y 42 (r' * 100 + y) + (if r' = r ∧ y = h then n else 0) := by
              intro r' y q0 q1 q2 y0 y1
              rw [k4 42 (by decide), x6 r' y q0 q1 q2 y0 y1, k2 42 (by decide), e42]
            refine ih X4 (i + 1) _ _ (by omega) (by omega) ⟨?_, ?_, ?_, by rw [s4]; omega, ?_, ?_, ?_⟩ ?_ ?_ ?_
            · intro k q1 q2
              rw [f4 k (fun z => by simp at z; omega)]; exact g1 k q1 q2
            · rw [j4 12 (by decide), e3, F.2.1 12 (by decide) (by decide) (by decide)]; exact g2
            · intro c h' c0 c1 c2 c3 h0 h1'
              rw [m4, s4, ← F.2.2]
              exact B.2.1 c h' c0 c1 c2 c3 h0 h1'
            · intro c c0 c1
              rw [k4 40 (by decide), e340, x40]
              by_cases z : c = at' % 10
              · rw [z, fu_s]; omega
              · rw [fu_n z]; exact g5 c c0 c1
            · rw [fg4, fw4, fs4, show X4 7 13 = Y 7 13 + n by rw [← hX4, me_self]]
              refine ⟨?_, x2, x3, ?_⟩
              · intro c c0 c1
                unfold fgk
                rw [x40]
                by_cases z : c = at' % 10
                · rw [z, fu_s]
                  refine ⟨by omega, fun _ => ⟨?_, by omega⟩⟩
                  rw [← ah]; exact ap
                · rw [fu_n z]; exact g6.1 c c0 c1
              · intro χ w
                rw [x4 χ w, fw2, fs2, LL_g (g := fgk K Y) (g' := fgk K X2) (c := at' % 10) (n := n) (by omega) (by omega), g6.2.2.2 χ w]
                · unfold chv
                  rw [if_neg (by omega), ah, Int.mul_sub, Int.add_mul]
                  omega
                · unfold fgk; rw [x40, fu_s]; omega
                · intro j j0 j1 z
                  unfold fgk; rw [x40, fu_n z]
            · intro c h' pp hm
              rw [k4 43 (by decide)] at hm
              rw [k4 40 (by decide), k4 41 (by decide), k4 42 (by decide), k4 43 (by decide)]
              exact x5 c h' pp hm
            · refine GR_tr RY ⟨f4, fun j q1 q2 q3 q4 => ?_, neg, fun r' y q0 q1 q2 y0 y1 => ?_⟩
              · rw [j4 j q4, e3, F.2.1 j q1 q2 q3]
              · rw [o4 r' y q0 q1 q2 y0 y1]; split <;> omega
            · rw [o4 r h r0 r1 r2 (by omega) (by omega), if_pos ⟨rfl, rfl⟩]; omega
            · rw [s4]; omega
          · rw [pth_cg (k2 41 (by decide)) (k2 42 (by decide)) (k2 44 (by decide)), k2 46 (by decide), ia2]; exact pk
          · intro k q1 q2
            rw [k2 k (by omega)]; exact B.1 k q1 q2
          · exact (by
              unfold SI mz at *
              rw [k2 7 (by decide), k2 43 (by decide), k2 45 (by decide), k2 46 (by decide)]
              exact B.2.2.1)
          · intro j j0 j1
            rw [k2 7 (by decide)] at j1
            rw [k2 46 (by decide), k2 44 (by decide)]
            exact ptX j j0 j1
          · intro j j0 j1
            rw [k2 41 (by decide), e41]
            have b1 := g6.2.1 (j % 10) (j / 10) (by omega) (by omega) (by omega) (by omega)
            have b2 := Vl_wt W g6 (c := j % 10) (h := j / 10) (by omega) (by omega) (by omega) (by omega)
            unfold fwt at b1 b2
            rw [show j / 10 * 10 + j % 10 = j by omega] at b1 b2
            omega
          · intro χ w
            rw [k2 46 (by decide), ia2, Int.sub_self, Int.mul_zero, Int.add_zero]
        · intro X1 F hm hc hcut neg
          refine ⟨fun z => (z rfl).elim, fun _ => ?_⟩
          have f1 : ∀ k, k ∉ [7, 43, 44, 45, 46] → X1 k = Y k := F.1
          have fw1 : fwt X1 = fwt Y := by unfold fwt; rw [f1 41 (by decide)]
          have fs1 : fsr X1 = fsr Y := by unfold fsr; rw [f1 42 (by decide)]
          have fg1 : fgk K X1 = fgk K Y := by funext c; unfold fgk; rw [f1 40 (by decide)]
          have e11 := F.2.2
          refine H X1 ⟨fun k q1 q2 => ?_, ?_, hm, by omega, ?_, ?_, hc⟩ (GR_tr RY ⟨fun k q => f1 k (fun z => q (by simp at z ⊢; omega)), fun j q1 q2 q3 q4 => F.2.1 j q1 q2 q3, neg, fun r' y q0 q1 q2 y0 y1 => by rw [f1 42 (by decide)]; exact Int.le_refl _⟩) (Or.inr (Or.inr hcut)) (by omega)
          · rw [f1 k (fun z => by simp at z; omega)]; exact g1 k q1 q2
          · rw [F.2.1 12 (by decide) (by decide) (by decide)]; exact g2
          · rw [f1 40 (by decide)]; exact g5
          · rw [fg1, fw1, fs1, F.2.1 13 (by decide) (by decide) (by decide)]; exact g6
    have v0 := G.2.2.2.2.2.1.2.2.1 r h r0 r12 (by omega) (by omega)
    unfold fsr at v0
    rw [if_pos (by omega)] at v0
    exact lp (K 27 r).toNat X 0 _ _ (Int.le_refl 0) (by omega) G GR_rf v0.1 (by omega)
end GW

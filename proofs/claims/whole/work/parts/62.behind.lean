/-! those behind a place -/
def WK (K : Me) : Prop := IvB K ∧ IvR K ∧ (0 ≤ K 5 2 ∧ K 5 2 ≤ 100)
def f7 (K M : Me) : Prop := ∀ k, k ≠ 7 → ¬ (39 ≤ k ∧ k ≤ 47) → M k = K k
def mkK (K M : Me) : Prop := ∀ c h, 0 ≤ c → c < 10 → c < K 1 8 → K 9 c ≠ 0 → K 5 2 ≤ h → h ≤ 100 → (M 43 (h * 10 + c) = -2 ↔ ¬ K 38 (h * 10 + c) < K 10 c) ∧ -2 ≤ M 43 (h * 10 + c) ∧ M 43 (h * 10 + c) ≤ M 7 11
theorem mkK_pl {K M : Me} (hm : mkK K M) {c h : Int} (c0 : 0 ≤ c) (c1 : c < 10) (c2 : c < K 1 8) (c3 : K 9 c ≠ 0) (h0 : K 5 2 ≤ h) (h1 : h ≤ 100) (q : 0 ≤ M 43 (h * 10 + c)) : pl K c h := by
  refine ⟨c0, c1, c2, c3, h0, h1, ?_⟩
  have := (hm c h c0 c1 c2 c3 h0 h1).1
  apply Classical.byContradiction
  intro z
  have := this.mpr z
  omega
/-- a step beside the flow from p to q -/
def RS (K M : Me) (p s q : Int) : Prop :=
  (s = 0 ∧ p / 10 < 100 ∧ q = p + 10) ∨ (s = 1 ∧ K 5 2 < p / 10 ∧ q = p - 10 ∧ 0 < M 41 (p - 10)) ∨
  (∃ r, 0 ≤ r ∧ r < K 3 8 ∧ s = 2 + r ∧ K 25 r = p % 10 ∧ p / 10 < 100 ∧ M 42 (r * 100 + p / 10) < K 27 r ∧ ((K 26 r ≠ -1 ∧ q = (p / 10 + K 28 r) * 10 + K 26 r) ∨ (K 26 r = -1 ∧ q = -1))) ∨
  (∃ r, 0 ≤ r ∧ r < K 3 8 ∧ s = 14 + r ∧ K 26 r ≠ -1 ∧ K 26 r = p % 10 ∧ K 5 2 ≤ p / 10 - K 28 r ∧ 0 < M 42 (r * 100 + (p / 10 - K 28 r)) ∧ q = (p / 10 - K 28 r) * 10 + K 25 r)
/-- all from which one could come to p are marked -/
def Dn (K M : Me) (p : Int) : Prop :=
  (p / 10 < 100 → 0 < M 41 p → nm M (p + 10)) ∧ (K 5 2 < p / 10 → nm M (p - 10)) ∧
  (∀ r, 0 ≤ r → r < K 3 8 → K 25 r = p % 10 → K 26 r ≠ -1 → p / 10 < 100 → 0 < M 42 (r * 100 + p / 10) → nm M ((p / 10 + K 28 r) * 10 + K 26 r)) ∧
  (∀ r, 0 ≤ r → r < K 3 8 → K 26 r = p % 10 → K 5 2 ≤ p / 10 - K 28 r → M 42 (r * 100 + (p / 10 - K 28 r)) < K 27 r → nm M ((p / 10 - K 28 r) * 10 + K 25 r))
/-- the ground of a search -/
def BG (K : Me) (t : Int) (M X : Me) : Prop := f7 K X ∧ mkK K X ∧ SI K t X ∧ X 41 = M 41 ∧ X 42 = M 42 ∧ X 40 = M 40 ∧ X 7 12 = K 5 2 ∧ 0 ≤ K 5 2
section BH
variable {d : Nat} {K M X X1 : Me} {t : Int} {P : Int → Int → Prop} {Q : Int → Me → Prop}
theorem BG_mt (b : BG K t M X) (h : Mt K t P X X1) : BG K t M X1 := by
  obtain ⟨b1, b2, b3, b4, b5, b5', b6, b7⟩ := b
  obtain ⟨a1, a2, a3, a4, a5, a6, a7, a8, a9, a10⟩ := h
  refine ⟨fun k q1 q2 => ?_, fun c h c0 c1 c2 c3 h0 h1 => ?_, a10, ?_, ?_, ?_, ?_, b7⟩
  · rw [a1 k (fun z => by simp at z; omega), b1 k q1 q2]
  · have m := b2 c h c0 c1 c2 c3 h0 h1
    have e := a2 11 (by decide) (by decide)
    have s4 := b3.1.2.2.2
    rcases a4 (h * 10 + c) (by omega) (by omega) with z | z
    · rw [z, e]; exact m
    · rw [z.1, e]
      refine ⟨⟨fun y => by omega, fun y => ?_⟩, by omega, Int.le_refl _⟩
      have := m.1.mpr y
      omega
  · rw [a1 41 (by decide), b4]
  · rw [a1 42 (by decide), b5]
  · rw [a1 40 (by decide), b5']
  · rw [a2 12 (by decide) (by decide), b6]
theorem q_21 {r h : Int} (r0 : 0 ≤ r) (r1 : r < 12) (h0 : 0 ≤ h) (h1 : h ≤ 100) (l0 : 1 ≤ X 28 r) (l1 : X 28 r ≤ 5) (t0 : -1 ≤ X 26 r) (t1 : X 26 r < 10) : Cl d 21 [vR 7, vR 3, vI r, vI h] X Q = Q ((h + X 28 r) * 10 + X 26 r) X := by
  unfold Cl
  rw [en_21]
  simp only [bq21_0, s_0, lgI_some, s_3, s_6, s_8, s_24, s_37i, s_37z, s_47, lgR_some, kd_9, kd_10, kd_11, kd_12, kd_13, kd_14, kd_15, kd_16, kd_17, kd_18, kd_19, kd_20, kd_21, kd_22, kd_23, kd_24, kd_25, kd_26, kd_27, kd_28, kd_29, kd_30, kd_31, kd_32, kd_33, kd_34, kd_35, kd_36, kd_37, kd_38, kd_39, kd_40, kd_41, kd_42, kd_43, kd_44, kd_45, kd_46, kd_47, kd_48, kd_49, ln_9, ln_10, ln_11, ln_12, ln_13, ln_14, ln_15, ln_16, ln_17, ln_18, ln_19, ln_20, ln_21, ln_22, ln_23, ln_24, ln_25, ln_26, ln_27, ln_28, ln_29, ln_30, ln_31, ln_32, ln_33, ln_34, ln_35, ln_36, ln_37, ln_38, ln_39, ln_40, ln_41, ln_42, ln_43, ln_44, ln_45, ln_46, ln_47, ln_48, ln_49, lg_0, lg_1, lg_2, lg_3, g_3_1, g_3_3, List.length_cons, List.length_nil, Nat.reduceAdd, Nat.reduceLT, Nat.reduceLeDiff, true_and, and_true, true_or, or_true, Int.reduceEq, Nat.reduceEqDiff, reduceCtorEq, true_implies, false_implies, not_true_eq_false, not_false_eq_true, Nat.zero_le, Int.zero_add, Nat.zero_add, Nat.lt_add_one, eq_self, forall_const, implies_true, Bool.false_eq_true, false_or, or_false, and_self, ne_eq, me_ne, me_self, r0, r1, show w32 (h + X 28 r) = h + X 28 r from w32_id (by omega) (by omega), show w32 ((h + X 28 r) * 10) = (h + X 28 r) * 10 from w32_id (by omega) (by omega), show w32 ((h + X 28 r) * 10 + X 26 r) = (h + X 28 r) * 10 + X 26 r from w32_id (by omega) (by omega)]
theorem WK_r (W : WK K) {r : Int} (r0 : 0 ≤ r) (r1 : r < K 3 8) : r < 12 ∧ (0 ≤ K 25 r ∧ K 25 r < 10 ∧ K 25 r < K 1 8 ∧ K 9 (K 25 r) ≠ 0) ∧ (K 26 r = -1 ∨ (0 ≤ K 26 r ∧ K 26 r < 10 ∧ K 26 r < K 1 8 ∧ K 9 (K 26 r) ≠ 0)) ∧ (1 ≤ K 27 r ∧ K 27 r ≤ 99) ∧ (1 ≤ K 28 r ∧ K 28 r ≤ 5) ∧ K 25 r ≠ K 26 r := by
  have a := W.2.1.1
  have b := W.1.1
  obtain ⟨x1, x2, x3, x4, x5⟩ := W.2.1.2.1 r r0 r1
  refine ⟨by omega, ⟨x1.1, by omega, x1.2.1, x1.2.2⟩, ?_, x4, x5, x3⟩
  rcases x2 with z | z
  · exact Or.inl z
  · exact Or.inr ⟨z.1, by omega, z.2.1, z.2.2⟩
theorem l_20a {p c h : Int} (W : WK K) (hv : Vs K t (fsr M)) (ht : t ≤ 100) (ec : p = h * 10 + c) (c0 : 0 ≤ c) (c1 : c < 10) (h0 : K 5 2 ≤ h) (h1 : h < 100) (hP : ∀ r, 0 ≤ r → r < K 3 8 → K 25 r = c → K 26 r ≠ -1 → 0 < M 42 (r * 100 + h) → P ((h + K 28 r) * 10 + K 26 r) (14 + r)) :
    ∀ (n : Nat) (X : Me) (i : Int) (x y : Option AV), 0 ≤ i → i + (n : Int) = K 30 c → BG K t M X → (∀ j, 0 ≤ j → j < i → K 26 (K 29 (c * 12 + j)) ≠ -1 → 0 < M 42 (K 29 (c * 12 + j) * 100 + h) → nm X ((h + K 28 (K 29 (c * 12 + j))) * 10 + K 26 (K 29 (c * 12 + j)))) →
    (∀ X' x y, Mt K t P X X' → (∀ j, 0 ≤ j → j < K 30 c → K 26 (K 29 (c * 12 + j)) ≠ -1 → 0 < M 42 (K 29 (c * 12 + j) * 100 + h) → nm X' ((h + K 28 (K 29 (c * 12 + j))) * 10 + K 26 (K 29 (c * 12 + j)))) → Rn (d + 1) (blk 20 4) 20 [some (vR 7), some (vR 3), some (vI p), some (vI c), some (vI h), x, y, none] [] X' Q) →
    Rn (d + 1) (blk 20 2) 20 [some (vR 7), some (vR 3), some (vI p), some (vI c), some (vI h), some (vI i), x, none] [] X Q := by
  have wr := W.2.1.1
  have hnow := W.2.2
  have wl := W.2.1.2.2.1 c c0 c1
  intro n
  induction n with
  | zero =>
    intro X i x y i0 i1 B hj H
    rw [bq20_2]
    simp only [bq20_3, s_0, lgI_some, s_1I, s_3, s_5K, s_6, s_8, s_24, s_29, cnP_0, cnP_1, cnP_2, cnP_3, cnP_4, cnP_5, s_30, s_31, s_32, s_47, lgR_some, s_53, s_54, res_0, res_1, nlg_n, nlg_I, nlg_R, Bool.true_and, Bool.and_self, Bool.and_true, kd_9, kd_10, kd_11, kd_12, kd_13, kd_14, kd_15, kd_16, kd_17, kd_18, kd_19, kd_20, kd_21, kd_22, kd_23, kd_24, kd_25, kd_26, kd_27, kd_28, kd_29, kd_30, kd_31, kd_32, kd_33, kd_34, kd_35, kd_36, kd_37, kd_38, kd_39, kd_40, kd_41, kd_42, kd_43, kd_44, kd_45, kd_46, kd_47, kd_48, kd_49, ln_9, ln_10, ln_11, ln_12, ln_13, ln_14, ln_15, ln_16, ln_17, ln_18, ln_19, ln_20, ln_21, ln_22, ln_23, ln_24, ln_25, ln_26, ln_27, ln_28, ln_29, ln_30, ln_31, ln_32, ln_33, ln_34, ln_35, ln_36, ln_37, ln_38, ln_39, ln_40, ln_41, ln_42, ln_43, ln_44, ln_45, ln_46, ln_47, ln_48, ln_49, lg_0, lg_1, lg_2, lg_3, lg_4, lg_5, lg_6, lg_7, lz_0, lz_1, lz_2, lz_3, lz_4, lz_5, lz_6, lz_7, lp_0, lp_1, lp_2, lp_3, lp_4, lp_5, lp_6, lp_7, isL_n, isL_I, isL_R, g_3_1, g_3_4, g_3_5, g_7_3, rc_19_7, rc_21_7, List.length_cons, List.length_nil, Nat.reduceAdd, Nat.reduceLT, Nat.reduceLeDiff, true_and, and_true, true_or, or_true, Int.reduceEq, Nat.reduceEqDiff, reduceCtorEq, true_implies, false_implies, not_true_eq_false, not_false_eq_true, Nat.zero_le, Int.zero_add, Nat.zero_add, Nat.lt_add_one, eq_self, forall_const, implies_true, Bool.false_eq_true, false_or, or_false, and_self, ne_eq, me_ne, me_self, B.1 30 (by decide) (by decide), c0, c1, show K 30 c ≤ i by omega]
    exact H X _ _ (Mt_rf B.2.2.1) (fun j j0 j1 => hj j j0 (by omega))
  | succ n ih =>
    intro X i x y i0 i1 B hj H
    have g := wl.2.2.1 i i0 (by omega)
    obtain ⟨r12, rf, rt, rb, rl, rn⟩ := WK_r W g.1.1 g.1.2
    have x30 := B.1 30 (by decide) (by decide)
    have x29 := B.1 29 (by decide) (by decide)
    have x26 := B.1 26 (by decide) (by decide)
    have x28 := B.1 28 (by decide) (by decide)
    have ei : w32 (w32 (c * 12) + i) = c * 12 + i := by
      rw [w32_id (x := c * 12) (by omega) (by omega), w32_id (by omega) (by omega)]
    generalize er : K 29 (c * 12 + i) = r at *
    have x29' : X 29 (c * 12 + i) = r := by rw [x29]; exact er
    rw [bq20_2]
    simp only [bq20_3, s_0, lgI_some, s_1I, s_3, s_5K, s_6, s_8, s_24, s_29, cnP_0, cnP_1, cnP_2, cnP_3, cnP_4, cnP_5, s_30, s_31, s_32, s_47, lgR_some, s_53, s_54, res_0, res_1, nlg_n, nlg_I, nlg_R, Bool.true_and, Bool.and_self, Bool.and_true, kd_9, kd_10, kd_11, kd_12, kd_13, kd_14, kd_15, kd_16, kd_17, kd_18, kd_19, kd_20, kd_21, kd_22, kd_23, kd_24, kd_25, kd_26, kd_27, kd_28, kd_29, kd_30, kd_31, kd_32, kd_33, kd_34, kd_35, kd_36, kd_37, kd_38, kd_39, kd_40, kd_41, kd_42, kd_43, kd_44, kd_45, kd_46, kd_47, kd_48, kd_49, ln_9, ln_10, ln_11, ln_12, ln_13, ln_14, ln_15, ln_16, ln_17, ln_18, ln_19, ln_20, ln_21, ln_22, ln_23, ln_24, ln_25, ln_26, ln_27, ln_28, ln_29, ln_30, ln_31, ln_32, ln_33, ln_34, ln_35, ln_36, ln_37, ln_38, ln_39, ln_40, ln_41, ln_42, ln_43, ln_44, ln_45, ln_46, ln_47, ln_48, ln_49, lg_0, lg_1, lg_2, lg_3, lg_4, lg_5, lg_6, lg_7, lz_0, lz_1, lz_2, lz_3, lz_4, lz_5, lz_6, lz_7, lp_0, lp_1, lp_2, lp_3, lp_4, lp_5, lp_6, lp_7, isL_n, isL_I, isL_R, g_3_1, g_3_4, g_3_5, g_7_3, rc_19_7, rc_21_7, List.length_cons, List.length_nil, Nat.reduceAdd, Nat.reduceLT, Nat.reduceLeDiff, true_and, and_true, true_or, or_true, Int.reduceEq, Nat.reduceEqDiff, reduceCtorEq, true_implies, false_implies, not_true_eq_false, not_false_eq_true, Nat.zero_le, Int.zero_add, Nat.zero_add, Nat.lt_add_one, eq_self, forall_const, implies_true, Bool.false_eq_true, false_or, or_false, and_self, ne_eq, me_ne, me_self, x30, x29', x26, B.2.2.2.2.1, ei, mul100 g.1.1 r12 (show 0 ≤ h by omega) (show h ≤ 100 by omega), c0, c1, g.1.1, r12, show 0 ≤ c * 12 + i by omega, show c * 12 + i < 120 by omega, show ¬ K 30 c ≤ i by omega, show w32 (i + 1) = i + 1 from w32_id (by omega) (by omega), show w32 (14 + r) = 14 + r from w32_id (by omega) (by omega), q_21 g.1.1 r12 (show 0 ≤ h by omega) (show h ≤ 100 by omega) (show 1 ≤ X 28 r by rw [x28]; omega) (show X 28 r ≤ 5 by rw [x28]; omega) (show -1 ≤ X 26 r by rw [x26]; omega) (show X 26 r < 10 by rw [x26]; omega), x28]
    refine ⟨fun q => ?_, fun q => ⟨⟨by omega, by omega⟩, fun q2 => ?_, fun q2 => ?_⟩⟩
    · refine ih _ _ _ y (by omega) (by omega) B (fun j j0 j1 z1 z2 => ?_) H
      by_cases w : j = i
      · subst w; rw [er] at z1; exact (z1 q).elim
      · exact hj j j0 (by omega) z1 z2
    · refine ih _ _ _ y (by omega) (by omega) B (fun j j0 j1 z1 z2 => ?_) H
      by_cases w : j = i
      · subst w; rw [er] at z2; omega
      · exact hj j j0 (by omega) z1 z2
    · have rt' := rt.resolve_left q
      have v := hv r h g.1.1 r12 (by omega) (by omega)
      have fs : fsr M r h = M 42 (r * 100 + h) := by unfold fsr; rw [if_pos h1]
      rw [fs] at v
      have v2 := (v.2 (by omega)).2.2
      have vp := v2.2.2 q
      refine c_19 (K := K) (t := t) (P := P) B.2.2.1 (by have := vp.2.2.2.2; omega) (by have := vp.2.2.2.2; omega) (fun _ => ?_) (hP r g.1.1 g.1.2 g.2 q (by omega)) (fun X1 m1 n1 => ?_)
      · rw [show ((h + K 28 r) * 10 + K 26 r) % 10 = K 26 r by omega, show ((h + K 28 r) * 10 + K 26 r) / 10 = h + K 28 r by omega]
        exact ⟨vp, v2.2.1⟩
      · refine ih _ _ _ y (by omega) (by omega) (BG_mt B m1) (fun j j0 j1 z1 z2 => ?_) (fun X' x y m2 z => H X' x y (Mt_tr m1 m2 B.2.2.1) z)
        by_cases w : j = i
        · subst w; rw [er]; exact n1
        · have g2 := wl.2.2.1 j j0 (by omega)
          obtain ⟨s12, sf, st, sb, sl, sn⟩ := WK_r W g2.1.1 g2.1.2
          have st' := st.resolve_left z1
          have v := hv _ h g2.1.1 s12 (by omega) (by omega)
          unfold fsr at v
          rw [if_pos h1] at v
          have v2 := (v.2 (by omega)).2.2.2.1
          exact Mt_nm m1 (by omega) (by omega) (hj j j0 (by omega) z1 z2)
theorem l_20b {p c h : Int} (W : WK K) (ec : p = h * 10 + c) (c0 : 0 ≤ c) (c1 : c < 10) (h0 : K 5 2 ≤ h) (h1 : h ≤ 100) (ht : h ≤ t) (hP : ∀ r, 0 ≤ r → r < K 3 8 → K 26 r = c → K 5 2 ≤ h - K 28 r → M 42 (r * 100 + (h - K 28 r)) < K 27 r → P ((h - K 28 r) * 10 + K 25 r) (2 + r)) :
    ∀ (n : Nat) (X : Me) (i : Int) (x y : Option AV), 0 ≤ i → i + (n : Int) = K 32 c → BG K t M X → (∀ j, 0 ≤ j → j < i → K 5 2 ≤ h - K 28 (K 31 (c * 12 + j)) → M 42 (K 31 (c * 12 + j) * 100 + (h - K 28 (K 31 (c * 12 + j)))) < K 27 (K 31 (c * 12 + j)) → nm X ((h - K 28 (K 31 (c * 12 + j))) * 10 + K 25 (K 31 (c * 12 + j)))) →
    (∀ X' x y z, Mt K t P X X' → (∀ j, 0 ≤ j → j < K 32 c → K 5 2 ≤ h - K 28 (K 31 (c * 12 + j)) → M 42 (K 31 (c * 12 + j) * 100 + (h - K 28 (K 31 (c * 12 + j)))) < K 27 (K 31 (c * 12 + j)) → nm X' ((h - K 28 (K 31 (c * 12 + j))) * 10 + K 25 (K 31 (c * 12 + j)))) → Rn (d + 1) (blk 20 7) 20 [some (vR 7), some (vR 3), some (vI p), some (vI c), some (vI h), x, y, z] [] X' Q) →
    Rn (d + 1) (blk 20 5) 20 [some (vR 7), some (vR 3), some (vI p), some (vI c), some (vI h), some (vI i), x, y] [] X Q := by
  have wr := W.2.1.1
  have hnow := W.2.2
  have wl := W.2.1.2.2.1 c c0 c1
  intro n
  induction n with
  | zero =>
    intro X i x y i0 i1 B hj H
    rw [bq20_5]
    simp only [bq20_6, s_0, lgI_some, s_1I, s_3, s_5K, s_6, s_7, s_8, s_24, s_30, cnP_0, cnP_1, cnP_2, cnP_3, cnP_4, cnP_5, s_31, s_32, s_47, lgR_some, s_53, res_0, res_1, nlg_n, nlg_I, nlg_R, Bool.true_and, Bool.and_self, Bool.and_true, kd_9, kd_10, kd_11, kd_12, kd_13, kd_14, kd_15, kd_16, kd_17, kd_18, kd_19, kd_20, kd_21, kd_22, kd_23, kd_24, kd_25, kd_26, kd_27, kd_28, kd_29, kd_30, kd_31, kd_32, kd_33, kd_34, kd_35, kd_36, kd_37, kd_38, kd_39, kd_40, kd_41, kd_42, kd_43, kd_44, kd_45, kd_46, kd_47, kd_48, kd_49, ln_9, ln_10, ln_11, ln_12, ln_13, ln_14, ln_15, ln_16, ln_17, ln_18, ln_19, ln_20, ln_21, ln_22, ln_23, ln_24, ln_25, ln_26, ln_27, ln_28, ln_29, ln_30, ln_31, ln_32, ln_33, ln_34, ln_35, ln_36, ln_37, ln_38, ln_39, ln_40, ln_41, ln_42, ln_43, ln_44, ln_45, ln_46, ln_47, ln_48, ln_49, lg_0, lg_1, lg_2, lg_3, lg_4, lg_5, lg_6, lg_7, lz_0, lz_1, lz_2, lz_3, lz_4, lz_5, lz_6, lz_7, lp_0, lp_1, lp_2, lp_3, lp_4, lp_5, lp_6, lp_7, isL_n, isL_I, isL_R, g_3_0, g_3_2, g_3_3, g_3_6, g_3_7, g_7_12, g_7_3, rc_19_7, List.length_cons, List.length_nil, Nat.reduceAdd, Nat.reduceLT, Nat.reduceLeDiff, true_and, and_true, true_or, or_true, Int.reduceEq, Nat.reduceEqDiff, reduceCtorEq, true_implies, false_implies, not_true_eq_false, not_false_eq_true, Nat.zero_le, Int.zero_add, Nat.zero_add, Nat.lt_add_one, eq_self, forall_const, implies_true, Bool.false_eq_true, false_or, or_false, and_self, ne_eq, me_ne, me_self, B.1 32 (by decide) (by decide), c0, c1, show K 32 c ≤ i by omega]
    exact H X _ _ _ (Mt_rf B.2.2.1) (fun j j0 j1 => hj j j0 (by omega))
  | succ n ih =>
    intro X i x y i0 i1 B hj H
    have g := wl.2.2.2 i i0 (by omega)
    obtain ⟨r12, rf, rt, rb, rl, rn⟩ := WK_r W g.1.1 g.1.2
    have x32 := B.1 32 (by decide) (by decide)
    have x31 := B.1 31 (by decide) (by decide)
    have x25 := B.1 25 (by decide) (by decide)
    have x27 := B.1 27 (by decide) (by decide)
    have x28 := B.1 28 (by decide) (by decide)
    have ei : w32 (w32 (c * 12) + i) = c * 12 + i := by
      rw [w32_id (x := c * 12) (by omega) (by omega), w32_id (by omega) (by omega)]
    generalize er : K 31 (c * 12 + i) = r at *
    have x31' : X 31 (c * 12 + i) = r := by rw [x31]; exact er
    have el : w32 (h - K 28 r) = h - K 28 r := w32_id (by omega) (by omega)
    rw [bq20_5]
    by_cases q : h - K 28 r < K 5 2
    · simp only [bq20_6, s_0, lgI_some, s_1I, s_3, s_5K, s_6, s_7, s_8, s_24, s_30, cnP_0, cnP_1, cnP_2, cnP_3, cnP_4, cnP_5, s_31, s_32, s_47, lgR_some, s_53, res_0, res_1, nlg_n, nlg_I, nlg_R, Bool.true_and, Bool.and_self, Bool.and_true, kd_9, kd_10, kd_11, kd_12, kd_13, kd_14, kd_15, kd_16, kd_17, kd_18, kd_19, kd_20, kd_21, kd_22, kd_23, kd_24, kd_25, kd_26, kd_27, kd_28, kd_29, kd_30, kd_31, kd_32, kd_33, kd_34, kd_35, kd_36, kd_37, kd_38, kd_39, kd_40, kd_41, kd_42, kd_43, kd_44, kd_45, kd_46, kd_47, kd_48, kd_49, ln_9, ln_10, ln_11, ln_12, ln_13, ln_14, ln_15, ln_16, ln_17, ln_18, ln_19, ln_20, ln_21, ln_22, ln_23, ln_24, ln_25, ln_26, ln_27, ln_28, ln_29, ln_30, ln_31, ln_32, ln_33, ln_34, ln_35, ln_36, ln_37, ln_38, ln_39, ln_40, ln_41, ln_42, ln_43, ln_44, ln_45, ln_46, ln_47, ln_48, ln_49, lg_0, lg_1, lg_2, lg_3, lg_4, lg_5, lg_6, lg_7, lz_0, lz_1, lz_2, lz_3, lz_4, lz_5, lz_6, lz_7, lp_0, lp_1, lp_2, lp_3, lp_4, lp_5, lp_6, lp_7, isL_n, isL_I, isL_R, g_3_0, g_3_2, g_3_3, g_3_6, g_3_7, g_7_12, g_7_3, rc_19_7, List.length_cons, List.length_nil, Nat.reduceAdd, Nat.reduceLT, Nat.reduceLeDiff, true_and, and_true, true_or, or_true, Int.reduceEq, Nat.reduceEqDiff, reduceCtorEq, true_implies, false_implies, not_true_eq_false, not_false_eq_true, Nat.zero_le, Int.zero_add, Nat.zero_add, Nat.lt_add_one, eq_self, forall_const, implies_true, Bool.false_eq_true, false_or, or_false, and_self, ne_eq, me_ne, me_self, x32, x31', x28, el, ei, B.2.2.2.2.2.2.1, q, c0, c1, g.1.1, r12, show 0 ≤ c * 12 + i by omega, show c * 12 + i < 120 by omega, show ¬ K 32 c ≤ i by omega, show w32 (i + 1) = i + 1 from w32_id (by omega) (by omega)]
      refine ih _ _ _ _ (by omega) (by omega) B (fun j j0 j1 z1 z2 => ?_) H
      by_cases w : j = i
      · subst w; rw [er] at z1; omega
      · exact hj j j0 (by omega) z1 z2
    · have e100 := mul100 g.1.1 r12 (show 0 ≤ h - K 28 r by omega) (show h - K 28 r ≤ 100 by omega)
      have e10 := ix10h rf.1 rf.2.1 (show 0 ≤ h - K 28 r by omega) (show h - K 28 r ≤ 100 by omega)
      simp only [bq20_6, s_0, lgI_some, s_1I, s_3, s_5K, s_6, s_7, s_8, s_24, s_30, cnP_0, cnP_1, cnP_2, cnP_3, cnP_4, cnP_5, s_31, s_32, s_47, lgR_some, s_53, res_0, res_1, nlg_n, nlg_I, nlg_R, Bool.true_and, Bool.and_self, Bool.and_true, kd_9, kd_10, kd_11, kd_12, kd_13, kd_14, kd_15, kd_16, kd_17, kd_18, kd_19, kd_20, kd_21, kd_22, kd_23, kd_24, kd_25, kd_26, kd_27, kd_28, kd_29, kd_30, kd_31, kd_32, kd_33, kd_34, kd_35, kd_36, kd_37, kd_38, kd_39, kd_40, kd_41, kd_42, kd_43, kd_44, kd_45, kd_46, kd_47, kd_48, kd_49, ln_9, ln_10, ln_11, ln_12, ln_13, ln_14, ln_15, ln_16, ln_17, ln_18, ln_19, ln_20, ln_21, ln_22, ln_23, ln_24, ln_25, ln_26, ln_27, ln_28, ln_29, ln_30, ln_31, ln_32, ln_33, ln_34, ln_35, ln_36, ln_37, ln_38, ln_39, ln_40, ln_41, ln_42, ln_43, ln_44, ln_45, ln_46, ln_47, ln_48, ln_49, lg_0, lg_1, lg_2, lg_3, lg_4, lg_5, lg_6, lg_7, lz_0, lz_1, lz_2, lz_3, lz_4, lz_5, lz_6, lz_7, lp_0, lp_1, lp_2, lp_3, lp_4, lp_5, lp_6, lp_7, isL_n, isL_I, isL_R, g_3_0, g_3_2, g_3_3, g_3_6, g_3_7, g_7_12, g_7_3, rc_19_7, List.length_cons, List.length_nil, Nat.reduceAdd, Nat.reduceLT, Nat.reduceLeDiff, true_and, and_true, true_or, or_true, Int.reduceEq, Nat.reduceEqDiff, reduceCtorEq, true_implies, false_implies, not_true_eq_false, not_false_eq_true, Nat.zero_le, Int.zero_add, Nat.zero_add, Nat.lt_add_one, eq_self, forall_const, implies_true, Bool.false_eq_true, false_or, or_false, and_self, ne_eq, me_ne, me_self, x32, x31', x28, x27, x25, el, ei, e100, e10, B.2.2.2.2.2.2.1, B.2.2.2.2.1, q, c0, c1, g.1.1, r12, show 0 ≤ c * 12 + i by omega, show c * 12 + i < 120 by omega, show ¬ K 32 c ≤ i by omega, show w32 (i + 1) = i + 1 from w32_id (by omega) (by omega), show w32 (2 + r) = 2 + r from w32_id (by omega) (by omega)]
      refine ⟨⟨by omega, by omega⟩, fun q2 => ?_, fun q2 => ?_⟩
      · refine ih _ _ _ _ (by omega) (by omega) B (fun j j0 j1 z1 z2 => ?_) H
        by_cases w : j = i
        · subst w; rw [er] at z2; omega
        · exact hj j j0 (by omega) z1 z2
      · refine c_19 (K := K) (t := t) (P := P) B.2.2.1 (by omega) (by omega) (fun y0 => ?_) (hP r g.1.1 g.1.2 g.2 (by omega) (by omega)) (fun X1 m1 n1 => ?_)
        · rw [show ((h - K 28 r) * 10 + K 25 r) % 10 = K 25 r by omega, show ((h - K 28 r) * 10 + K 25 r) / 10 = h - K 28 r by omega]
          exact ⟨mkK_pl B.2.1 rf.1 rf.2.1 rf.2.2.1 rf.2.2.2 (by omega) (by omega) y0, by omega⟩
        · refine ih _ _ _ _ (by omega) (by omega) (BG_mt B m1) (fun j j0 j1 z1 z2 => ?_) (fun X' x y z m2 w => H X' x y z (Mt_tr m1 m2 B.2.2.1) w)
          by_cases w : j = i
          · subst w; rw [er]; exact n1
          · have g2 := wl.2.2.2 j j0 (by omega)
            obtain ⟨s12, sf, st, sb, sl, sn⟩ := WK_r W g2.1.1 g2.1.2
            exact Mt_nm m1 (by omega) (by omega) (hj j j0 (by omega) z1 z2)
/-- all behind p are met -/
theorem c_20 {p : Int} (W : WK K) (B : BG K t M M) (hw : Vw K t (fwt M)) (hv : Vs K t (fsr M)) (ht : t ≤ 100) (p0 : 0 ≤ p) (p1 : p < 1010) (hp : pl K (p % 10) (p / 10)) (hpt : p / 10 ≤ t) (H : ∀ M', Mt K t (fun q s => RS K M q s p) M M' → Dn K M' p → Q 0 M') : Cl (d + 1) 20 [vR 7, vR 3, vI p] M Q := by
  have hnow := W.2.2
  obtain ⟨c0, c1, c2, c3, h0, h1, hd⟩ := hp
  have et : p.tmod 10 = p % 10 := Int.tmod_eq_emod_of_nonneg p0
  have ed : w32 (p.tdiv 10) = p / 10 := by rw [Int.tdiv_eq_ediv_of_nonneg p0, w32_id (by omega) (by omega)]
  have ep : p = p / 10 * 10 + p % 10 := by omega
  generalize ec : p % 10 = c at *
  generalize eh : p / 10 = h at *
  have wl := W.2.1.2.2.1 c c0 c1
  have hPa : ∀ r, 0 ≤ r → r < K 3 8 → K 25 r = c → K 26 r ≠ -1 → h < 100 → 0 < M 42 (r * 100 + h) → RS K M ((h + K 28 r) * 10 + K 26 r) (14 + r) p := by
    intro r r0 r1 r2 r3 hh r4
    obtain ⟨r12, rf, rt, rb, rl, rn⟩ := WK_r W r0 r1
    have rt' := rt.resolve_left r3
    refine Or.inr (Or.inr (Or.inr ⟨r, r0, r1, rfl, r3, ?_, ?_, ?_, ?_⟩))
    · omega
    · omega
    · rw [show ((h + K 28 r) * 10 + K 26 r) / 10 - K 28 r = h by omega]; exact r4
    · rw [show ((h + K 28 r) * 10 + K 26 r) / 10 - K 28 r = h by omega, r2]; exact ep
  have hPb : ∀ r, 0 ≤ r → r < K 3 8 → K 26 r = c → K 5 2 ≤ h - K 28 r → M 42 (r * 100 + (h - K 28 r)) < K 27 r → RS K M ((h - K 28 r) * 10 + K 25 r) (2 + r) p := by
    intro r r0 r1 r2 r3 r4
    obtain ⟨r12, rf, rt, rb, rl, rn⟩ := WK_r W r0 r1
    have eq1 : ((h - K 28 r) * 10 + K 25 r) / 10 = h - K 28 r := by omega
    refine Or.inr (Or.inr (Or.inl ⟨r, r0, r1, rfl, by omega, by omega, by rw [eq1]; exact r4, Or.inl ⟨by omega, ?_⟩⟩))
    rw [eq1, r2]; omega
  -- the tail: roads that come, and the wait
  have tail : ∀ (X : Me) (x y : Option AV), Mt K t (fun q s => RS K M q s p) M X → (h < 100 → 0 < M 41 p → nm X (p + 10)) → (∀ r, 0 ≤ r → r < K 3 8 → K 25 r = c → K 26 r ≠ -1 → h < 100 → 0 < M 42 (r * 100 + h) → nm X ((h + K 28 r) * 10 + K 26 r)) → Rn (d + 1) (blk 20 4) 20 [some (vR 7), some (vR 3), some (vI p), some (vI c), some (vI h), x, y, none] [] X Q := by
    intro X x y m1 a1 a2
    have BX := BG_mt B m1
    rw [bq20_4]
    simp only [s_0, lgI_some, s_1I, s_3, s_6, s_7, s_8, s_24, s_30, cnP_0, cnP_1, cnP_2, cnP_3, cnP_4, cnP_5, s_32, s_47, lgR_some, s_53, res_0, res_1, nlg_n, nlg_I, nlg_R, Bool.true_and, Bool.and_self, Bool.and_true, kd_9, kd_10, kd_11, kd_12, kd_13, kd_14, kd_15, kd_16, kd_17, kd_18, kd_19, kd_20, kd_21, kd_22, kd_23, kd_24, kd_25, kd_26, kd_27, kd_28, kd_29, kd_30, kd_31, kd_32, kd_33, kd_34, kd_35, kd_36, kd_37, kd_38, kd_39, kd_40, kd_41, kd_42, kd_43, kd_44, kd_45, kd_46, kd_47, kd_48, kd_49, ln_9, ln_10, ln_11, ln_12, ln_13, ln_14, ln_15, ln_16, ln_17, ln_18, ln_19, ln_20, ln_21, ln_22, ln_23, ln_24, ln_25, ln_26, ln_27, ln_28, ln_29, ln_30, ln_31, ln_32, ln_33, ln_34, ln_35, ln_36, ln_37, ln_38, ln_39, ln_40, ln_41, ln_42, ln_43, ln_44, ln_45, ln_46, ln_47, ln_48, ln_49, lg_0, lg_1, lg_2, lg_3, lg_4, lg_5, lg_6, lg_7, lz_0, lz_1, lz_2, lz_3, lz_4, lz_5, lz_6, lz_7, lp_0, lp_1, lp_2, lp_3, lp_4, lp_5, lp_6, lp_7, isL_n, isL_I, isL_R, g_3_0, g_3_2, g_3_3, g_3_6, g_3_7, g_7_12, g_7_3, rc_19_7, List.length_cons, List.length_nil, Nat.reduceAdd, Nat.reduceLT, Nat.reduceLeDiff, true_and, and_true, true_or, or_true, Int.reduceEq, Nat.reduceEqDiff, reduceCtorEq, true_implies, false_implies, not_true_eq_false, not_false_eq_true, Nat.zero_le, Int.zero_add, Nat.zero_add, Nat.lt_add_one, eq_self, forall_const, implies_true, Bool.false_eq_true, false_or, or_false, and_self, ne_eq, me_ne, me_self]
    refine l_20b (M := M) (P := fun q s => RS K M q s p) W ep c0 c1 h0 h1 hpt hPb (K 32 c).toNat X 0 _ _ (Int.le_refl 0) (by omega) BX (fun j j0 j1 => by omega) ?_
    intro X2 x2 y2 z2 m2 a3
    have BX2 := BG_mt BX m2
    have m3 := Mt_tr m1 m2 B.2.2.1
    have b1 : h < 100 → 0 < M 41 p → nm X2 (p + 10) := fun z1 z2 => Mt_nm m2 (by omega) (by omega) (a1 z1 z2)
    have b2 : ∀ r, 0 ≤ r → r < K 3 8 → K 25 r = c → K 26 r ≠ -1 → h < 100 → 0 < M 42 (r * 100 + h) → nm X2 ((h + K 28 r) * 10 + K 26 r) := by
      intro r r0 r1 r2 r3 hh r4
      obtain ⟨r12, rf, rt, rb, rl, rn⟩ := WK_r W r0 r1
      have v := hv r h r0 r12 (by omega) (by omega)
      unfold fsr at v
      rw [if_pos hh] at v
      have v2 := (v.2 (by omega)).2.2.2.1
      exact Mt_nm m2 (by omega) (by omega) (a2 r r0 r1 r2 r3 hh r4)
    have b3 : ∀ r, 0 ≤ r → r < K 3 8 → K 26 r = c → K 5 2 ≤ h - K 28 r → M 42 (r * 100 + (h - K 28 r)) < K 27 r → nm X2 ((h - K 28 r) * 10 + K 25 r) := by
      intro r r0 r1 r2 r3 r4
      obtain ⟨i, i0, i1, i2⟩ := (W.2.1.2.2.2 r r0 r1).2 (by omega)
      rw [r2] at i1 i2
      have := a3 i i0 i1
      rw [i2] at this
      exact this r3 r4
    have fin : ∀ X3 : Me, Mt K t (fun q s => RS K M q s p) X2 X3 → (K 5 2 < h → nm X3 (p - 10)) → Q 0 X3 := by
      intro X3 m4 w
      have BX3 := BG_mt BX2 m4
      refine H X3 (Mt_tr m3 m4 B.2.2.1) ⟨?_, ?_, ?_, ?_⟩
      · rw [eh, BX3.2.2.2.1]; intro z1 z2; exact Mt_nm m4 (by omega) (by omega) (b1 z1 z2)
      · rw [eh]; exact w
      · rw [eh, ec, BX3.2.2.2.2.1]
        intro r r0 r1 r2 r3 hh r4
        obtain ⟨r12, rf, rt, rb, rl, rn⟩ := WK_r W r0 r1
        have v := hv r h r0 r12 (by omega) (by omega)
        unfold fsr at v
        rw [if_pos hh] at v
        have v2 := (v.2 (by omega)).2.2.2.1
        exact Mt_nm m4 (by omega) (by omega) (b2 r r0 r1 r2 r3 hh r4)
      · rw [eh, ec, BX3.2.2.2.2.1]
        intro r r0 r1 r2 r3 r4
        obtain ⟨r12, rf, rt, rb, rl, rn⟩ := WK_r W r0 r1
        exact Mt_nm m4 (by omega) (by omega) (b3 r r0 r1 r2 r3 r4)
    rw [bq20_7]
    simp only [bq20_8, s_0, lgI_some, s_3, s_7, s_30, cnP_0, cnP_1, cnP_2, cnP_3, cnP_4, cnP_5, s_32, s_38, s_47, lgR_some, s_53, res_0, res_1, nlg_n, nlg_I, nlg_R, Bool.true_and, Bool.and_self, Bool.and_true, lg_0, lg_1, lg_2, lg_3, lg_4, lg_5, lg_6, lg_7, g_7_12, rc_19_7, List.length_cons, List.length_nil, Nat.reduceAdd, Nat.reduceLT, Nat.reduceLeDiff, true_and, and_true, true_or, or_true, Int.reduceEq, Nat.reduceEqDiff, reduceCtorEq, true_implies, false_implies, not_true_eq_false, not_false_eq_true, Nat.zero_le, Int.zero_add, Nat.zero_add, Nat.lt_add_one, eq_self, forall_const, implies_true, Bool.false_eq_true, false_or, or_false, and_self, ne_eq, me_ne, me_self, BX2.2.2.2.2.2.2.1, show w32 (p - 10) = p - 10 from w32_id (by omega) (by omega)]
    refine ⟨fun q => fin X2 (Mt_rf BX2.2.2.1) (fun z => by omega), fun q => ?_⟩
    refine c_19 (K := K) (t := t) (P := fun q s => RS K M q s p) BX2.2.2.1 (by omega) (by omega) (fun y0 => ?_) (Or.inl ⟨rfl, by omega, by omega⟩) (fun X3 m4 n4 => fin X3 m4 (fun _ => n4))
    rw [show (p - 10) % 10 = c by omega, show (p - 10) / 10 = h - 1 by omega]
    rw [show p - 10 = (h - 1) * 10 + c by omega] at y0
    exact ⟨mkK_pl BX2.2.1 c0 c1 c2 c3 (by omega) (by omega) y0, by omega⟩
  unfold Cl
  rw [en_20]
  simp only [bq20_0, bq20_1, s_0, lgI_some, s_1I, s_3, s_6, s_8, s_13, s_14, s_24, s_29, cnP_0, cnP_1, cnP_2, cnP_3, cnP_4, cnP_5, s_30, s_32, s_47, lgR_some, s_53, s_54, res_0, res_1, nlg_n, nlg_I, nlg_R, Bool.true_and, Bool.and_self, Bool.and_true, kd_9, kd_10, kd_11, kd_12, kd_13, kd_14, kd_15, kd_16, kd_17, kd_18, kd_19, kd_20, kd_21, kd_22, kd_23, kd_24, kd_25, kd_26, kd_27, kd_28, kd_29, kd_30, kd_31, kd_32, kd_33, kd_34, kd_35, kd_36, kd_37, kd_38, kd_39, kd_40, kd_41, kd_42, kd_43, kd_44, kd_45, kd_46, kd_47, kd_48, kd_49, ln_9, ln_10, ln_11, ln_12, ln_13, ln_14, ln_15, ln_16, ln_17, ln_18, ln_19, ln_20, ln_21, ln_22, ln_23, ln_24, ln_25, ln_26, ln_27, ln_28, ln_29, ln_30, ln_31, ln_32, ln_33, ln_34, ln_35, ln_36, ln_37, ln_38, ln_39, ln_40, ln_41, ln_42, ln_43, ln_44, ln_45, ln_46, ln_47, ln_48, ln_49, lg_0, lg_1, lg_2, lg_3, lg_4, lg_5, lg_6, lg_7, lz_0, lz_1, lz_2, lz_3, lz_4, lz_5, lz_6, lz_7, lp_0, lp_1, lp_2, lp_3, lp_4, lp_5, lp_6, lp_7, isL_n, isL_I, isL_R, g_3_1, g_3_4, g_3_5, g_7_2, g_7_3, rc_19_7, rc_21_7, List.length_cons, List.length_nil, Nat.reduceAdd, Nat.reduceLT, Nat.reduceLeDiff, true_and, and_true, true_or, or_true, Int.reduceEq, Nat.reduceEqDiff, reduceCtorEq, true_implies, false_implies, not_true_eq_false, not_false_eq_true, Nat.zero_le, Int.zero_add, Nat.zero_add, Nat.lt_add_one, eq_self, forall_const, implies_true, Bool.false_eq_true, false_or, or_false, and_self, ne_eq, me_ne, me_self, et, ed, p0, p1, show w32 (p + 10) = p + 10 from w32_id (by omega) (by omega)]
  refine ⟨fun q => ?_, fun q => ⟨fun q2 => ?_, fun q2 => ?_⟩⟩
  · exact tail M _ _ (Mt_rf B.2.2.1) (fun z => by omega) (fun r r0 r1 r2 r3 hh => by omega)
  · refine l_20a (M := M) (P := fun q s => RS K M q s p) W hv ht ep c0 c1 h0 (by omega) (fun r r0 r1 r2 r3 r4 => hPa r r0 r1 r2 r3 (by omega) r4) (K 30 c).toNat M 0 _ none (Int.le_refl 0) (by omega) B (fun j j0 j1 => by omega) ?_
    intro X x y m1 a1
    refine tail X x y m1 (fun z1 z2 => by omega) (fun r r0 r1 r2 r3 hh r4 => ?_)
    obtain ⟨i, i0, i1, i2⟩ := (W.2.1.2.2.2 r r0 r1).1
    rw [r2] at i1 i2
    have := a1 i i0 i1
    rw [i2] at this
    exact this r3 r4
  · have v := hw c h c0 c1 (by omega) (by omega)
    unfold fwt at v
    rw [← ep] at v
    have v2 := v.2 (by omega)
    refine c_19 (K := K) (t := t) (P := fun q s => RS K M q s p) B.2.2.1 (by omega) (by omega) (fun _ => ?_) (Or.inr (Or.inl ⟨rfl, by omega, by omega, ?_⟩)) (fun X1 m1 n1 => ?_)
    · rw [show (p + 10) % 10 = c by omega, show (p + 10) / 10 = h + 1 by omega]
      exact ⟨v2.2.1, v2.2.2⟩
    · rw [show p + 10 - 10 = p by omega]; omega
    · refine l_20a (M := M) (P := fun q s => RS K M q s p) W hv ht ep c0 c1 h0 (by omega) (fun r r0 r1 r2 r3 r4 => hPa r r0 r1 r2 r3 (by omega) r4) (K 30 c).toNat X1 0 _ none (Int.le_refl 0) (by omega) (BG_mt B m1) (fun j j0 j1 => by omega) ?_
      intro X x y m2 a1
      refine tail X x y (Mt_tr m1 m2 B.2.2.1) (fun z1 z2 => Mt_nm m2 (by omega) (by omega) n1) (fun r r0 r1 r2 r3 hh r4 => ?_)
      obtain ⟨i, i0, i1, i2⟩ := (W.2.1.2.2.2 r r0 r1).1
      rw [r2] at i1 i2
      have := a1 i i0 i1
      rw [i2] at this
      exact this r3 r4
end BH

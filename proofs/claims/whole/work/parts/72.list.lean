/-! the list of bars -/
section LB
variable {d : Nat} {K M X Y : Me} {t : Int} {Q : Int → Me → Prop}
theorem q_30 {r h : Int} (r0 : 0 ≤ r) (r1 : r < 12) (f0 : 0 ≤ X 25 r) (f1 : X 25 r < 10) (l0 : 1 ≤ X 28 r) (l1 : X 28 r ≤ 5) (t0 : -1 ≤ X 26 r) (t1 : X 26 r < 10) (h0 : 0 ≤ h) (h1 : h + X 28 r ≤ 100) : Cl (d + 1) 30 [vR 7, vR 3, vI r, vI h] X Q = Q (b01 (X 43 (h * 10 + X 25 r) = X 7 11 ∧ (X 26 r = -1 ∨ (X 43 ((h + X 28 r) * 10 + X 26 r) ≠ -2 ∧ X 43 ((h + X 28 r) * 10 + X 26 r) ≠ X 7 11)))) X := by
  unfold Cl
  rw [en_30]
  simp only [bq30_0, bq30_1, bq30_2, bq30_3, bq30_4, s_0, lgI_some, s_1I, s_3, s_6, s_8, s_24, s_30, cnP_0, cnP_1, cnP_2, cnP_3, cnP_4, cnP_5, s_31, s_32, s_37i, s_37z, s_47, lgR_some, s_54, res_0, res_1, nlg_n, nlg_I, nlg_R, Bool.true_and, Bool.and_self, Bool.and_true, kd_9, kd_10, kd_11, kd_12, kd_13, kd_14, kd_15, kd_16, kd_17, kd_18, kd_19, kd_20, kd_21, kd_22, kd_23, kd_24, kd_25, kd_26, kd_27, kd_28, kd_29, kd_30, kd_31, kd_32, kd_33, kd_34, kd_35, kd_36, kd_37, kd_38, kd_39, kd_40, kd_41, kd_42, kd_43, kd_44, kd_45, kd_46, kd_47, kd_48, kd_49, ln_9, ln_10, ln_11, ln_12, ln_13, ln_14, ln_15, ln_16, ln_17, ln_18, ln_19, ln_20, ln_21, ln_22, ln_23, ln_24, ln_25, ln_26, ln_27, ln_28, ln_29, ln_30, ln_31, ln_32, ln_33, ln_34, ln_35, ln_36, ln_37, ln_38, ln_39, ln_40, ln_41, ln_42, ln_43, ln_44, ln_45, ln_46, ln_47, ln_48, ln_49, lg_0, lg_1, lg_2, lg_3, lg_4, lz_0, lz_1, lz_2, lz_3, lz_4, lp_0, lp_1, lp_2, lp_3, lp_4, isL_n, isL_I, isL_R, g_3_0, g_3_1, g_7_11, g_7_4, rc_21_7, List.length_cons, List.length_nil, Nat.reduceAdd, Nat.reduceLT, Nat.reduceLeDiff, true_and, and_true, true_or, or_true, Int.reduceEq, Nat.reduceEqDiff, reduceCtorEq, true_implies, false_implies, not_true_eq_false, not_false_eq_true, Nat.zero_le, Int.zero_add, Nat.zero_add, Nat.lt_add_one, eq_self, forall_const, implies_true, Bool.false_eq_true, false_or, or_false, and_self, ne_eq, me_ne, me_self, r0, r1, ix10h f0 f1 h0 (show h ≤ 100 by omega), eq_true (show 0 ≤ h * 10 + X 25 r by omega), eq_true (show h * 10 + X 25 r < 1010 by omega), q_21 r0 r1 h0 (show h ≤ 100 by omega) l0 l1 t0 t1]
  by_cases a : X 43 (h * 10 + X 25 r) = X 7 11
  · by_cases b : X 26 r = -1
    · rw [b01_t ⟨a, Or.inl b⟩]; simp [a, b]
    · have g1 : 0 ≤ (h + X 28 r) * 10 + X 26 r := by omega
      have g2 : (h + X 28 r) * 10 + X 26 r < 1010 := by omega
      by_cases c : X 43 ((h + X 28 r) * 10 + X 26 r) = -2
      · rw [b01_f (fun z => z.2.elim b (fun y => y.1 c))]; simp [a, b, c, g1, g2]
      · by_cases e : X 43 ((h + X 28 r) * 10 + X 26 r) = X 7 11
        · rw [b01_f (fun z => z.2.elim b (fun y => y.2 e))]
          simp only [a, b, g1, g2, e, not_true_eq_false, not_false_eq_true, true_implies, false_implies, and_true, true_and, and_self]
          by_cases u : X 7 11 = -2 <;> simp [u]
        · rw [b01_t ⟨a, Or.inr ⟨c, e⟩⟩]; simp [a, b, c, e, g1, g2]
  · rw [b01_f (fun z => a z.1)]; simp [a]
def LV (P : Int → Prop) (X Y : Me) (J : Int) : Prop := (∀ k, k ≠ 7 → k ≠ 47 → Y k = X k) ∧ (∀ j, j ≠ 16 → Y 7 j = X 7 j) ∧ Y 7 16 = cnt P J.toNat ∧ (∀ j : Nat, (j : Int) < J → P j → Y 47 (cnt P j) = j)
theorem LV_skip {P : Int → Prop} {J J' : Int} (h : LV P X Y J) (j0 : 0 ≤ J) (jj : J ≤ J') (hp : ∀ j : Nat, J ≤ (j : Int) → (j : Int) < J' → ¬ P j) : LV P X Y J' := by
  obtain ⟨a, b, c, e⟩ := h
  refine ⟨a, b, ?_, fun j j1 pj => ?_⟩
  · rw [c, show J'.toNat = J.toNat + (J' - J).toNat by omega, cnt_skip _ (fun j x1 x2 => hp j (by omega) (by omega))]
  · by_cases z : (j : Int) < J
    · exact e j z pj
    · exact (hp j (by omega) j1 pj).elim
theorem bp_iff (W : WK K) (B : mkK K X) (s4 : 1 ≤ X 7 11) {r h : Int} (ht : t ≤ 100) (r0 : 0 ≤ r) (r1 : r < K 3 8) (h0 : K 5 2 ≤ h) (h1 : h + K 28 r ≤ t) : bp K (Sm K X) t (h * 12 + r) ↔ (X 43 (h * 10 + K 25 r) = X 7 11 ∧ (K 26 r = -1 ∨ (X 43 ((h + K 28 r) * 10 + K 26 r) ≠ -2 ∧ X 43 ((h + K 28 r) * 10 + K 26 r) ≠ X 7 11))) := by
  have hn := W.2.2
  obtain ⟨r12, rf, rt, rb, rl', rn⟩ := WK_r W r0 r1
  unfold bp
  rw [show (h * 12 + r) % 12 = r by omega, show (h * 12 + r) / 12 = h by omega]
  have e1 : Sm K X (K 25 r) h ↔ X 43 (h * 10 + K 25 r) = X 7 11 := by
    constructor
    · intro z; exact z.2.2.2.2.2
    · intro z
      refine ⟨rf.1, rf.2.1, by omega, by omega, ⟨by omega, ?_, ?_⟩, z⟩
      · rw [show (h * 10 + K 25 r) % 10 = K 25 r by omega]; exact rf.2.2.1
      · rw [show (h * 10 + K 25 r) % 10 = K 25 r by omega]; exact rf.2.2.2
  rw [e1]
  constructor
  · rintro ⟨-, -, -, a, b⟩
    refine ⟨a, b.imp id (fun ⟨p, n⟩ => ?_)⟩
    have m := (B _ _ p.1 p.2.1 p.2.2.1 p.2.2.2.1 p.2.2.2.2.1 p.2.2.2.2.2.1).1
    refine ⟨fun z => (m.mp z) p.2.2.2.2.2.2, fun z => n ⟨p.1, p.2.1, p.2.2.2.2.2.1, by have := p.2.2.2.2.1; omega, ⟨?_, ?_, ?_⟩, z⟩⟩
    · have := p.2.1; have := p.1; have := p.2.2.2.2.1; omega
    · rw [show ((h + K 28 r) * 10 + K 26 r) % 10 = K 26 r by have := p.2.1; have := p.1; omega]; exact p.2.2.1
    · rw [show ((h + K 28 r) * 10 + K 26 r) % 10 = K 26 r by have := p.2.1; have := p.1; omega]; exact p.2.2.2.1
  · rintro ⟨a, b⟩
    refine ⟨r1, h0, h1, a, ?_⟩
    by_cases z : K 26 r = -1
    · exact Or.inl z
    · have rt' := rt.resolve_left z
      obtain ⟨b1, b2⟩ := b.resolve_left z
      have m := (B (K 26 r) (h + K 28 r) rt'.1 rt'.2.1 rt'.2.2.1 rt'.2.2.2 (by omega) (by omega)).1
      refine Or.inr ⟨⟨rt'.1, rt'.2.1, rt'.2.2.1, rt'.2.2.2, by omega, by omega, ?_⟩, fun y => b2 y.2.2.2.2.2⟩
      apply Classical.byContradiction
      intro y
      exact b1 (m.mpr y)
theorem l_29b {h : Int} (W : WK K) (f : f7 K X) (B : mkK K X) (s4 : 1 ≤ X 7 11) (ht : t ≤ 100) (h0 : K 5 2 ≤ h) (h1 : h < t)
    (H : ∀ Y y, LV (bp K (Sm K X) t) X Y (h * 12 + K 3 8) → Rn (d + 2) (blk 29 4) 29 [some (vR 7), some (vR 3), some (vI t), some (vI h), y] [] Y Q) :
    ∀ (n : Nat) (Y : Me) (r : Int), 0 ≤ r → r + (n : Int) = K 3 8 → LV (bp K (Sm K X) t) X Y (h * 12 + r) → Rn (d + 2) (blk 29 2) 29 [some (vR 7), some (vR 3), some (vI t), some (vI h), some (vI r)] [] Y Q := by
  have hn := W.2.2
  have wr := W.2.1.1
  intro n
  induction n with
  | zero =>
    intro Y r r0 r1 L
    have fY : f7 K Y := fun k q1 q2 => by rw [L.1 k q1 (by omega)]; exact f k q1 q2
    have e : r = K 3 8 := by omega
    subst e
    rw [bq29_2]
    simp only [bq29_3, s_0, lgI_some, s_3, s_5K, s_6, s_8, s_24, s_25, s_29, cnP_0, cnP_1, cnP_2, cnP_3, cnP_4, cnP_5, s_30, s_31, s_32, s_33I, s_33R, s_47, lgR_some, s_54, res_0, res_1, nlg_n, nlg_I, nlg_R, Bool.true_and, Bool.and_self, Bool.and_true, kd_9, kd_10, kd_11, kd_12, kd_13, kd_14, kd_15, kd_16, kd_17, kd_18, kd_19, kd_20, kd_21, kd_22, kd_23, kd_24, kd_25, kd_26, kd_27, kd_28, kd_29, kd_30, kd_31, kd_32, kd_33, kd_34, kd_35, kd_36, kd_37, kd_38, kd_39, kd_40, kd_41, kd_42, kd_43, kd_44, kd_45, kd_46, kd_47, kd_48, kd_49, ln_9, ln_10, ln_11, ln_12, ln_13, ln_14, ln_15, ln_16, ln_17, ln_18, ln_19, ln_20, ln_21, ln_22, ln_23, ln_24, ln_25, ln_26, ln_27, ln_28, ln_29, ln_30, ln_31, ln_32, ln_33, ln_34, ln_35, ln_36, ln_37, ln_38, ln_39, ln_40, ln_41, ln_42, ln_43, ln_44, ln_45, ln_46, ln_47, ln_48, ln_49, lg_0, lg_1, lg_2, lg_3, lg_4, lz_0, lz_1, lz_2, lz_3, lz_4, lp_0, lp_1, lp_2, lp_3, lp_4, isL_n, isL_I, isL_R, g_3_3, g_3_8, g_7_16, g_7_8, p_7_16, rc_30_7, List.length_cons, List.length_nil, Nat.reduceAdd, Nat.reduceLT, Nat.reduceLeDiff, true_and, and_true, true_or, or_true, Int.reduceEq, Nat.reduceEqDiff, reduceCtorEq, true_implies, false_implies, not_true_eq_false, not_false_eq_true, Nat.zero_le, Int.zero_add, Nat.zero_add, Nat.lt_add_one, eq_self, forall_const, implies_true, Bool.false_eq_true, false_or, or_false, and_self, ne_eq, me_ne, me_self, fY 3 (by decide) (by decide), show K 3 8 ≤ K 3 8 by omega]
    exact H Y _ L
  | succ n ih =>
    intro Y r r0 r1 L
    have fY : f7 K Y := fun k q1 q2 => by rw [L.1 k q1 (by omega)]; exact f k q1 q2
    obtain ⟨r12, rf, rt, rb, rl', rn⟩ := WK_r W r0 (show r < K 3 8 by omega)
    have y25 := fY 25 (by decide) (by decide)
    have y26 := fY 26 (by decide) (by decide)
    have y28 := fY 28 (by decide) (by decide)
    rw [bq29_2]
    by_cases q : t < h + K 28 r
    · simp only [bq29_3, s_0, lgI_some, s_3, s_5K, s_6, s_8, s_24, s_25, s_29, cnP_0, cnP_1, cnP_2, cnP_3, cnP_4, cnP_5, s_30, s_31, s_32, s_33I, s_33R, s_47, lgR_some, s_54, res_0, res_1, nlg_n, nlg_I, nlg_R, Bool.true_and, Bool.and_self, Bool.and_true, kd_9, kd_10, kd_11, kd_12, kd_13, kd_14, kd_15, kd_16, kd_17, kd_18, kd_19, kd_20, kd_21, kd_22, kd_23, kd_24, kd_25, kd_26, kd_27, kd_28, kd_29, kd_30, kd_31, kd_32, kd_33, kd_34, kd_35, kd_36, kd_37, kd_38, kd_39, kd_40, kd_41, kd_42, kd_43, kd_44, kd_45, kd_46, kd_47, kd_48, kd_49, ln_9, ln_10, ln_11, ln_12, ln_13, ln_14, ln_15, ln_16, ln_17, ln_18, ln_19, ln_20, ln_21, ln_22, ln_23, ln_24, ln_25, ln_26, ln_27, ln_28, ln_29, ln_30, ln_31, ln_32, ln_33, ln_34, ln_35, ln_36, ln_37, ln_38, ln_39, ln_40, ln_41, ln_42, ln_43, ln_44, ln_45, ln_46, ln_47, ln_48, ln_49, lg_0, lg_1, lg_2, lg_3, lg_4, lz_0, lz_1, lz_2, lz_3, lz_4, lp_0, lp_1, lp_2, lp_3, lp_4, isL_n, isL_I, isL_R, g_3_3, g_3_8, g_7_16, g_7_8, p_7_16, rc_30_7, List.length_cons, List.length_nil, Nat.reduceAdd, Nat.reduceLT, Nat.reduceLeDiff, true_and, and_true, true_or, or_true, Int.reduceEq, Nat.reduceEqDiff, reduceCtorEq, true_implies, false_implies, not_true_eq_false, not_false_eq_true, Nat.zero_le, Int.zero_add, Nat.zero_add, Nat.lt_add_one, eq_self, forall_const, implies_true, Bool.false_eq_true, false_or, or_false, and_self, ne_eq, me_ne, me_self, fY 3 (by decide) (by decide), y28, r0, r12, show ¬ K 3 8 ≤ r by omega, show w32 (h + K 28 r) = h + K 28 r from w32_id (by omega) (by omega), q, show w32 (r + 1) = r + 1 from w32_id (by omega) (by omega)]
      refine ih Y (r + 1) (by omega) (by omega) (LV_skip L (by omega) (by omega) (fun j j0 j1 pj => ?_))
      have e : (j : Int) = h * 12 + r := by omega
      rw [e] at pj
      have := pj.2.2.1
      rw [show (h * 12 + r) % 12 = r by omega, show (h * 12 + r) / 12 = h by omega] at this
      omega
    · have bi := bp_iff (X := X) W B s4 ht r0 (show r < K 3 8 by omega) h0 (show h + K 28 r ≤ t by omega)
      simp only [bq29_3, s_0, lgI_some, s_3, s_5K, s_6, s_8, s_24, s_25, s_29, cnP_0, cnP_1, cnP_2, cnP_3, cnP_4, cnP_5, s_30, s_31, s_32, s_33I, s_33R, s_47, lgR_some, s_54, res_0, res_1, nlg_n, nlg_I, nlg_R, Bool.true_and, Bool.and_self, Bool.and_true, kd_9, kd_10, kd_11, kd_12, kd_13, kd_14, kd_15, kd_16, kd_17, kd_18, kd_19, kd_20, kd_21, kd_22, kd_23, kd_24, kd_25, kd_26, kd_27, kd_28, kd_29, kd_30, kd_31, kd_32, kd_33, kd_34, kd_35, kd_36, kd_37, kd_38, kd_39, kd_40, kd_41, kd_42, kd_43, kd_44, kd_45, kd_46, kd_47, kd_48, kd_49, ln_9, ln_10, ln_11, ln_12, ln_13, ln_14, ln_15, ln_16, ln_17, ln_18, ln_19, ln_20, ln_21, ln_22, ln_23, ln_24, ln_25, ln_26, ln_27, ln_28, ln_29, ln_30, ln_31, ln_32, ln_33, ln_34, ln_35, ln_36, ln_37, ln_38, ln_39, ln_40, ln_41, ln_42, ln_43, ln_44, ln_45, ln_46, ln_47, ln_48, ln_49, lg_0, lg_1, lg_2, lg_3, lg_4, lz_0, lz_1, lz_2, lz_3, lz_4, lp_0, lp_1, lp_2, lp_3, lp_4, isL_n, isL_I, isL_R, g_3_3, g_3_8, g_7_16, g_7_8, p_7_16, rc_30_7, List.length_cons, List.length_nil, Nat.reduceAdd, Nat.reduceLT, Nat.reduceLeDiff, true_and, and_true, true_or, or_true, Int.reduceEq, Nat.reduceEqDiff, reduceCtorEq, true_implies, false_implies, not_true_eq_false, not_false_eq_true, Nat.zero_le, Int.zero_add, Nat.zero_add, Nat.lt_add_one, eq_self, forall_const, implies_true, Bool.false_eq_true, false_or, or_false, and_self, ne_eq, me_ne, me_self, fY 3 (by decide) (by decide), y28, r0, r12, show ¬ K 3 8 ≤ r by omega, show w32 (h + K 28 r) = h + K 28 r from w32_id (by omega) (by omega), q, show w32 (r + 1) = r + 1 from w32_id (by omega) (by omega)]
      rw [q_30 r0 r12 (by rw [y25]; exact rf.1) (by rw [y25]; exact rf.2.1) (by rw [y28]; omega) (by rw [y28]; omega) (by rw [y26]; omega) (by rw [y26]; omega) (by omega) (by rw [y28]; omega), y25, y26, y28, L.1 43 (by decide) (by decide), L.2.1 11 (by decide), propext bi.symm]
      have cb := cnt_bd (bp K (Sm K X) t) (h * 12 + r).toNat
      have e16 := L.2.2.1
      simp only [bq29_3, s_0, lgI_some, s_3, s_5K, s_6, s_8, s_24, s_25, s_29, cnP_0, cnP_1, cnP_2, cnP_3, cnP_4, cnP_5, s_30, s_31, s_32, s_33I, s_33R, s_47, lgR_some, s_54, res_0, res_1, nlg_n, nlg_I, nlg_R, Bool.true_and, Bool.and_self, Bool.and_true, kd_9, kd_10, kd_11, kd_12, kd_13, kd_14, kd_15, kd_16, kd_17, kd_18, kd_19, kd_20, kd_21, kd_22, kd_23, kd_24, kd_25, kd_26, kd_27, kd_28, kd_29, kd_30, kd_31, kd_32, kd_33, kd_34, kd_35, kd_36, kd_37, kd_38, kd_39, kd_40, kd_41, kd_42, kd_43, kd_44, kd_45, kd_46, kd_47, kd_48, kd_49, ln_9, ln_10, ln_11, ln_12, ln_13, ln_14, ln_15, ln_16, ln_17, ln_18, ln_19, ln_20, ln_21, ln_22, ln_23, ln_24, ln_25, ln_26, ln_27, ln_28, ln_29, ln_30, ln_31, ln_32, ln_33, ln_34, ln_35, ln_36, ln_37, ln_38, ln_39, ln_40, ln_41, ln_42, ln_43, ln_44, ln_45, ln_46, ln_47, ln_48, ln_49, lg_0, lg_1, lg_2, lg_3, lg_4, lz_0, lz_1, lz_2, lz_3, lz_4, lp_0, lp_1, lp_2, lp_3, lp_4, isL_n, isL_I, isL_R, g_3_3, g_3_8, g_7_16, g_7_8, p_7_16, rc_30_7, List.length_cons, List.length_nil, Nat.reduceAdd, Nat.reduceLT, Nat.reduceLeDiff, true_and, and_true, true_or, or_true, Int.reduceEq, Nat.reduceEqDiff, reduceCtorEq, true_implies, false_implies, not_true_eq_false, not_false_eq_true, Nat.zero_le, Int.zero_add, Nat.zero_add, Nat.lt_add_one, eq_self, forall_const, implies_true, Bool.false_eq_true, false_or, or_false, and_self, ne_eq, me_ne, me_self, b01_z, Classical.not_not]
      refine ⟨fun pj => ?_, fun pj => ?_⟩
      · refine ih Y (r + 1) (by omega) (by omega) (LV_skip L (by omega) (by omega) (fun j j0 j1 pj' => ?_))
        have e : (j : Int) = h * 12 + r := by omega
        rw [e] at pj'
        exact pj pj'
      · have ej : w32 (w32 (h * 12) + r) = h * 12 + r := by
          rw [w32_id (x := h * 12) (by omega) (by omega), w32_id (by omega) (by omega)]
        rw [ej, w32_id (x := Y 7 16 + 1) (by omega) (by omega)]
        refine ⟨by omega, ih _ (r + 1) (by omega) (by omega) ⟨fun k q1 q2 => ?_, fun j hj => ?_, ?_, fun j j1 pj' => ?_⟩⟩
        · rw [me_f _ q1, me_f _ q2]; exact L.1 k q1 q2
        · rw [me_i _ hj, me_ne _ _ _ _ (by decide)]; exact L.2.1 j hj
        · rw [me_self, e16, show (h * 12 + (r + 1)).toNat = (h * 12 + r).toNat + 1 by omega]
          simp only [cnt]
          rw [show (((h * 12 + r).toNat : Nat) : Int) = h * 12 + r by omega, b01_t pj]
        · rw [me_ne _ _ _ _ (by decide)]
          by_cases z : (j : Int) = h * 12 + r
          · rw [e16, show j = (h * 12 + r).toNat by omega, me_self]; omega
          · have c1 := cnt_mo (P := bp K (Sm K X) t) (a := j + 1) (b := (h * 12 + r).toNat) (by omega)
            simp only [cnt] at c1
            rw [b01_t pj'] at c1
            rw [me_i _ (by omega)]
            exact L.2.2.2 j (by omega) pj'
theorem l_29a (W : WK K) (f : f7 K X) (B : mkK K X) (s4 : 1 ≤ X 7 11) (ht : t ≤ 100)
    (H : ∀ Y, LV (bp K (Sm K X) t) X Y (t * 12) → Q 0 Y) :
    ∀ (n : Nat) (Y : Me) (h : Int) (y : Option AV), K 5 2 ≤ h → h + (n : Int) = t → LV (bp K (Sm K X) t) X Y (h * 12) → Rn (d + 2) (blk 29 1) 29 [some (vR 7), some (vR 3), some (vI t), some (vI h), y] [] Y Q := by
  have hn := W.2.2
  have wr := W.2.1.1
  intro n
  induction n with
  | zero =>
    intro Y h y h0 h1 L
    have e : h = t := by omega
    subst e
    rw [bq29_1]
    simp only [bq29_5, s_0, lgI_some, s_1I, s_3, s_6, s_8, s_24, s_25, s_29, cnP_0, cnP_1, cnP_2, cnP_3, cnP_4, cnP_5, s_30, s_32, s_33I, s_33R, s_38, s_47, lgR_some, s_54, res_0, res_1, nlg_n, nlg_I, nlg_R, Bool.true_and, Bool.and_self, Bool.and_true, kd_9, kd_10, kd_11, kd_12, kd_13, kd_14, kd_15, kd_16, kd_17, kd_18, kd_19, kd_20, kd_21, kd_22, kd_23, kd_24, kd_25, kd_26, kd_27, kd_28, kd_29, kd_30, kd_31, kd_32, kd_33, kd_34, kd_35, kd_36, kd_37, kd_38, kd_39, kd_40, kd_41, kd_42, kd_43, kd_44, kd_45, kd_46, kd_47, kd_48, kd_49, ln_9, ln_10, ln_11, ln_12, ln_13, ln_14, ln_15, ln_16, ln_17, ln_18, ln_19, ln_20, ln_21, ln_22, ln_23, ln_24, ln_25, ln_26, ln_27, ln_28, ln_29, ln_30, ln_31, ln_32, ln_33, ln_34, ln_35, ln_36, ln_37, ln_38, ln_39, ln_40, ln_41, ln_42, ln_43, ln_44, ln_45, ln_46, ln_47, ln_48, ln_49, lg_0, lg_1, lg_2, lg_3, lg_4, lz_0, lz_1, lz_2, lz_3, lz_4, lp_0, lp_1, lp_2, lp_3, lp_4, isL_n, isL_I, isL_R, g_3_3, g_3_8, g_7_16, g_7_8, p_7_16, rc_30_7, List.length_cons, List.length_nil, Nat.reduceAdd, Nat.reduceLT, Nat.reduceLeDiff, true_and, and_true, true_or, or_true, Int.reduceEq, Nat.reduceEqDiff, reduceCtorEq, true_implies, false_implies, not_true_eq_false, not_false_eq_true, Nat.zero_le, Int.zero_add, Nat.zero_add, Nat.lt_add_one, eq_self, forall_const, implies_true, Bool.false_eq_true, false_or, or_false, and_self, ne_eq, me_ne, me_self, show h ≤ h by omega]
    exact H Y L
  | succ n ih =>
    intro Y h y h0 h1 L
    rw [bq29_1]
    simp only [bq29_5, s_0, lgI_some, s_1I, s_3, s_6, s_8, s_24, s_25, s_29, cnP_0, cnP_1, cnP_2, cnP_3, cnP_4, cnP_5, s_30, s_32, s_33I, s_33R, s_38, s_47, lgR_some, s_54, res_0, res_1, nlg_n, nlg_I, nlg_R, Bool.true_and, Bool.and_self, Bool.and_true, kd_9, kd_10, kd_11, kd_12, kd_13, kd_14, kd_15, kd_16, kd_17, kd_18, kd_19, kd_20, kd_21, kd_22, kd_23, kd_24, kd_25, kd_26, kd_27, kd_28, kd_29, kd_30, kd_31, kd_32, kd_33, kd_34, kd_35, kd_36, kd_37, kd_38, kd_39, kd_40, kd_41, kd_42, kd_43, kd_44, kd_45, kd_46, kd_47, kd_48, kd_49, ln_9, ln_10, ln_11, ln_12, ln_13, ln_14, ln_15, ln_16, ln_17, ln_18, ln_19, ln_20, ln_21, ln_22, ln_23, ln_24, ln_25, ln_26, ln_27, ln_28, ln_29, ln_30, ln_31, ln_32, ln_33, ln_34, ln_35, ln_36, ln_37, ln_38, ln_39, ln_40, ln_41, ln_42, ln_43, ln_44, ln_45, ln_46, ln_47, ln_48, ln_49, lg_0, lg_1, lg_2, lg_3, lg_4, lz_0, lz_1, lz_2, lz_3, lz_4, lp_0, lp_1, lp_2, lp_3, lp_4, isL_n, isL_I, isL_R, g_3_3, g_3_8, g_7_16, g_7_8, p_7_16, rc_30_7, List.length_cons, List.length_nil, Nat.reduceAdd, Nat.reduceLT, Nat.reduceLeDiff, true_and, and_true, true_or, or_true, Int.reduceEq, Nat.reduceEqDiff, reduceCtorEq, true_implies, false_implies, not_true_eq_false, not_false_eq_true, Nat.zero_le, Int.zero_add, Nat.zero_add, Nat.lt_add_one, eq_self, forall_const, implies_true, Bool.false_eq_true, false_or, or_false, and_self, ne_eq, me_ne, me_self, show ¬ t ≤ h by omega]
    refine l_29b W f B s4 ht h0 (by omega) ?_ (K 3 8).toNat Y 0 (Int.le_refl 0) (by omega) (by rw [Int.add_zero]; exact L)
    intro Y' y' L'
    rw [bq29_4]
    simp only [s_0, lgI_some, s_1I, s_3, s_5K, s_30, cnP_0, cnP_1, cnP_2, cnP_3, cnP_4, cnP_5, s_31, s_32, lg_0, lg_1, lg_2, lg_3, lg_4, lz_0, lz_1, lz_2, lz_3, lz_4, lp_0, lp_1, lp_2, lp_3, lp_4, isL_n, isL_I, isL_R, List.length_cons, List.length_nil, Nat.reduceAdd, Nat.reduceLT, Nat.reduceLeDiff, true_and, and_true, true_or, or_true, Int.reduceEq, Nat.reduceEqDiff, reduceCtorEq, true_implies, false_implies, not_true_eq_false, not_false_eq_true, Nat.zero_le, Int.zero_add, Nat.zero_add, Nat.lt_add_one, eq_self, forall_const, implies_true, Bool.false_eq_true, false_or, or_false, and_self, ne_eq, me_ne, me_self, show w32 (h + 1) = h + 1 from w32_id (by omega) (by omega)]
    refine ih Y' (h + 1) _ (by omega) (by omega) (LV_skip L' (by omega) (by omega) (fun j j0 j1 pj => ?_))
    have := pj.1
    omega
/-- the bars for an hour -/
theorem c_27 (W : WK K) (G : GK K t M) (hO : ORk K M t) (h0 : K 5 2 ≤ t) (ht : t ≤ 100) (s1 : M 7 11 < 2000000000)
    (H : ∀ X, (∀ k, k ∉ [7, 43, 44, 45, 46, 47] → X k = M k) → (∀ j, j ≠ 9 → j ≠ 10 → j ≠ 11 → j ≠ 15 → j ≠ 16 → X 7 j = M 7 j) → X 7 11 = M 7 11 + 1 → X 7 15 = t → mkK K X → COk K X → (∀ q, 0 ≤ q → q < 1010 → M 43 q < 0 → X 43 q < 0) → (∃ S, heap K t S ∧ X 7 16 = cnt (bp K S t) 1200 ∧ ∀ j : Nat, j < 1200 → bp K S t j → X 47 (cnt (bp K S t) j) = j) → Q 0 X) : Cl (d + 3) 27 [vR 7, vR 3, vI t] M Q := by
  have hn := W.2.2
  have wr := W.2.1.1
  have G0 := G
  obtain ⟨g1, g2, g3, g4, g5, g6, g7⟩ := G
  unfold Cl
  rw [en_27]
  simp only [bq27_0, s_0, lgI_some, s_1I, s_3, s_6, s_8, s_24, s_29, cnP_0, cnP_1, cnP_2, cnP_3, cnP_4, cnP_5, s_30, s_32, s_47, lgR_some, s_51, s_53, res_0, res_1, nlg_n, nlg_I, nlg_R, Bool.true_and, Bool.and_self, Bool.and_true, kd_9, kd_10, kd_11, kd_12, kd_13, kd_14, kd_15, kd_16, kd_17, kd_18, kd_19, kd_20, kd_21, kd_22, kd_23, kd_24, kd_25, kd_26, kd_27, kd_28, kd_29, kd_30, kd_31, kd_32, kd_33, kd_34, kd_35, kd_36, kd_37, kd_38, kd_39, kd_40, kd_41, kd_42, kd_43, kd_44, kd_45, kd_46, kd_47, kd_48, kd_49, ln_9, ln_10, ln_11, ln_12, ln_13, ln_14, ln_15, ln_16, ln_17, ln_18, ln_19, ln_20, ln_21, ln_22, ln_23, ln_24, ln_25, ln_26, ln_27, ln_28, ln_29, ln_30, ln_31, ln_32, ln_33, ln_34, ln_35, ln_36, ln_37, ln_38, ln_39, ln_40, ln_41, ln_42, ln_43, ln_44, ln_45, ln_46, ln_47, ln_48, ln_49, lg_0, lg_1, lg_2, lg_3, lz_0, lz_1, lz_2, lz_3, lp_0, lp_1, lp_2, lp_3, isL_n, isL_I, isL_R, g_7_1, g_7_12, rc_18_7, rc_19_7, List.length_cons, List.length_nil, Nat.reduceAdd, Nat.reduceLT, Nat.reduceLeDiff, true_and, and_true, true_or, or_true, Int.reduceEq, Nat.reduceEqDiff, reduceCtorEq, true_implies, false_implies, not_true_eq_false, not_false_eq_true, Nat.zero_le, Int.zero_add, Nat.zero_add, Nat.lt_add_one, eq_self, forall_const, implies_true, Bool.false_eq_true, false_or, or_false, and_self, ne_eq, me_ne, me_self]
  refine c_18 s1 g4 ?_
  generalize hX : me_put (me_put (me_put M 7 11 (M 7 11 + 1)) 7 9 0) 7 10 0 = X
  obtain ⟨a1, a2, a3, a4, a5, a6, a7, a8⟩ := SI_0 (K := K) (t := t) W g3 g4 hX.symm
  have B : BG K t M X := ⟨fun k q1 q2 => by rw [a2.1 k (fun z => by simp at z; omega), g1 k q1 q2], a8, a1, a2.1 41 (by decide), a2.1 42 (by decide), a2.1 40 (by decide), by rw [a2.2.1 12 (by decide) (by decide) (by decide), g2], hn.1⟩
  refine l_27a (d := d + 1) W h0 ht (fun c c0 c1 => (g5 c c0 c1).2) ?_ 10 X 0 (Int.le_refl 0) (by omega) a2 B a3 (fun q q0 q1 hq => (a4 q q0 q1 hq).elim) (fun q q0 q1 hq => (a4 q q0 q1 hq).elim) (by omega) (fun c c0 c1 => by omega)
  intro X1 y F1 B1 m1 r1 D1 e1 n1
  rw [bq27_3]
  simp only [s_0, lgI_some, s_1I, s_3, s_5K, s_7, s_24, s_29, cnP_0, cnP_1, cnP_2, cnP_3, cnP_4, cnP_5, s_30, s_31, s_32, s_33I, s_33R, s_47, lgR_some, s_54, res_0, res_1, nlg_n, nlg_I, nlg_R, Bool.true_and, Bool.and_self, Bool.and_true, kd_9, kd_10, kd_11, kd_12, kd_13, kd_14, kd_15, kd_16, kd_17, kd_18, kd_19, kd_20, kd_21, kd_22, kd_23, kd_24, kd_25, kd_26, kd_27, kd_28, kd_29, kd_30, kd_31, kd_32, kd_33, kd_34, kd_35, kd_36, kd_37, kd_38, kd_39, kd_40, kd_41, kd_42, kd_43, kd_44, kd_45, kd_46, kd_47, kd_48, kd_49, ln_9, ln_10, ln_11, ln_12, ln_13, ln_14, ln_15, ln_16, ln_17, ln_18, ln_19, ln_20, ln_21, ln_22, ln_23, ln_24, ln_25, ln_26, ln_27, ln_28, ln_29, ln_30, ln_31, ln_32, ln_33, ln_34, ln_35, ln_36, ln_37, ln_38, ln_39, ln_40, ln_41, ln_42, ln_43, ln_44, ln_45, ln_46, ln_47, ln_48, ln_49, lg_0, lg_1, lg_2, lg_3, lz_0, lz_1, lz_2, lz_3, lp_0, lp_1, lp_2, lp_3, isL_n, isL_I, isL_R, g_7_6, g_7_9, p_7_9, rc_28_7, List.length_cons, List.length_nil, Nat.reduceAdd, Nat.reduceLT, Nat.reduceLeDiff, true_and, and_true, true_or, or_true, Int.reduceEq, Nat.reduceEqDiff, reduceCtorEq, true_implies, false_implies, not_true_eq_false, not_false_eq_true, Nat.zero_le, Int.zero_add, Nat.zero_add, Nat.lt_add_one, eq_self, forall_const, implies_true, Bool.false_eq_true, false_or, or_false, and_self, ne_eq, me_ne, me_self]
  refine l_27b (d := d + 1) (M := M) (Y := X1) (g := fgk K M) W ht ?_ 1010 X1 0 (Int.le_refl 0) (by omega) (by omega) F1 B1 m1 r1 D1 (fun _ _ _ h => h)
  intro X2 F2 B2 m2 r2 D2 n2 y2
  have hp := Sm_heap W G0 hO h0 ht F2 B2 m2 r2 D2 (fun c c0 c1 cl => n2 _ (by omega) (by omega) (n1 c c0 c1 cl))
  have co := CO_mm W g6.2.2.1 g7 m2 g4 B2.2.2.2.2.2.1 B2.2.2.2.1 B2.2.2.2.2.1
  have s4 := B2.2.2.1.1.2.2.2
  rw [bq27_5]
  simp only [s_0, lgI_some, s_38, s_47, lgR_some, s_53, res_0, res_1, nlg_n, nlg_I, nlg_R, Bool.true_and, Bool.and_self, Bool.and_true, lg_0, lg_1, lg_2, lg_3, p_7_15, rc_29_7, List.length_cons, List.length_nil, Nat.reduceAdd, Nat.reduceLT, Nat.reduceLeDiff, true_and, and_true, true_or, or_true, Int.reduceEq, Nat.reduceEqDiff, reduceCtorEq, true_implies, false_implies, not_true_eq_false, not_false_eq_true, Nat.zero_le, Int.zero_add, Nat.zero_add, Nat.lt_add_one, eq_self, forall_const, implies_true, Bool.false_eq_true, false_or, or_false, and_self, ne_eq, me_ne, me_self]
  rw [uc 29, en_29]
  simp only [bq29_0, s_0, lgI_some, s_1I, s_3, s_30, cnP_0, cnP_1, cnP_2, cnP_3, cnP_4, cnP_5, s_32, s_47, lgR_some, lg_0, lg_1, lg_2, lg_3, lg_4, lz_0, lz_1, lz_2, lz_3, lz_4, lp_0, lp_1, lp_2, lp_3, lp_4, isL_n, isL_I, isL_R, g_7_12, p_7_16, List.length_cons, List.length_nil, Nat.reduceAdd, Nat.reduceLT, Nat.reduceLeDiff, true_and, and_true, true_or, or_true, Int.reduceEq, Nat.reduceEqDiff, reduceCtorEq, true_implies, false_implies, not_true_eq_false, not_false_eq_true, Nat.zero_le, Int.zero_add, Nat.zero_add, Nat.lt_add_one, eq_self, forall_const, implies_true, Bool.false_eq_true, false_or, or_false, and_self, ne_eq, me_ne, me_self, me_i, B2.2.2.2.2.2.2.1]
  have e0 : cnt (bp K (Sm K X2) t) (K 5 2 * 12).toNat = 0 := by
    have := cnt_skip (P := bp K (Sm K X2) t) (a := 0) (K 5 2 * 12).toNat (fun j j0 j1 pj => by have := pj.2.1; omega)
    rw [Nat.zero_add] at this
    rw [this]; rfl
  have L0 : LV (bp K (Sm K X2) t) X2 (me_put X2 7 16 0) (K 5 2 * 12) := ⟨fun k q1 q2 => me_f _ q1, fun j hj => me_i _ hj, by rw [me_self, e0], fun j j1 pj => by have := pj.2.1; omega⟩
  refine l_29a (d := d) (X := X2) W B2.1 B2.2.1 s4 ht ?_ (t - K 5 2).toNat _ (K 5 2) _ (Int.le_refl _) (by omega) L0
  intro Z LZ
  have LZ2 := LV_skip LZ (by omega) (show t * 12 ≤ 1200 by omega) (fun j j0 j1 pj => by
    have p1 := pj.1
    have p3 := pj.2.2.1
    obtain ⟨r12, rf, rt, rb, rl', rn⟩ := WK_r W (show 0 ≤ (j : Int) % 12 by omega) p1
    omega)
  refine H _ (fun k q => ?_) (fun j q1 q2 q3 q4 q5 => ?_) ?_ (me_self _ _ _ _) ?_ ?_ ?_ ⟨Sm K X2, hp, ?_, ?_⟩
  · simp at q
    rw [me_f _ q.1, LZ2.1 k q.1 (by omega), F2.1 k (fun z => by simp at z; omega)]
  · rw [me_i _ q4, LZ2.2.1 j q5, F2.2.1 j q1 q2 q3]
  · rw [me_i _ (by decide), LZ2.2.1 11 (by decide), F2.2.2]
  · intro c h c0 c1 c2 c3 h0' h1'
    rw [me_f _ (by decide), LZ2.1 43 (by decide) (by decide), me_i _ (by decide), LZ2.2.1 11 (by decide)]
    exact B2.2.1 c h c0 c1 c2 c3 h0' h1'
  · unfold COk
    rw [me_f _ (by decide), me_f _ (by decide), me_f _ (by decide), me_f _ (by decide), LZ2.1 40 (by decide) (by decide), LZ2.1 41 (by decide) (by decide), LZ2.1 42 (by decide) (by decide), LZ2.1 43 (by decide) (by decide)]
    exact co
  · intro q q0 q1 hq
    rw [me_f _ (by decide), LZ2.1 43 (by decide) (by decide)]
    rcases m2 q q0 q1 with w | w
    · rw [w]; exact hq
    · omega
  · rw [me_i _ (by decide)]; exact LZ2.2.2.1
  · intro j j1 pj
    rw [me_f _ (by decide)]
    exact LZ2.2.2.2 j (by omega) pj
end LB

/-! the reference's way -/
def rmr (K X : Me) (p k r : Int) : Int := if k = 0 then K 13 (p / 101) - X 79 (p / 101) else if k = 1 then 1000000000 else if k = 2 then X 80 p else if k = 3 then K 27 r - X 81 (101 * r + (p % 101 - K 28 r)) else X 81 (101 * r + p % 101)
def mvr (K X : Me) (p k r n : Int) : Me := if k = 0 then me_put X 79 (p / 101) (X 79 (p / 101) + n) else if k = 1 then me_put X 80 (p - 1) (X 80 (p - 1) + n) else if k = 2 then me_put X 80 p (X 80 p - n) else if k = 3 then me_put X 81 (101 * r + (p % 101 - K 28 r)) (X 81 (101 * r + (p % 101 - K 28 r)) + n) else me_put X 81 (101 * r + p % 101) (X 81 (101 * r + p % 101) - n)
def ptr (K X : Me) (n : Int) : Nat → Int → Prop
  | 0, _ => False
  | k + 1, p => n ≤ rmr K X p (X 84 p) (X 85 p) ∧ ((X 84 p = 0 ∧ p % 101 = K 5 2) ∨ ∃ q, Rr K X p (X 84 p) (X 85 p) q ∧ ptr K X n k q)
section RW
variable {d : Nat} {K M X : Me} {t n p q k r : Int} {g : Int → Int} {Q : Int → Me → Prop}
theorem Rr_k (h : Rr K X p k r q) : 1 ≤ k ∧ k ≤ 4 := by
  rcases h with h | h | h | h <;> omega
theorem Rr_rm (h : Rr K X p k r q) : 1 ≤ rmr K X p k r := by
  unfold rmr
  rcases h with h | h | ⟨h1, r0, r1, r2, r3, r4, r5⟩ | ⟨h1, r0, r1, r2, r3, r4, r5, r6⟩
  · rw [if_neg (by omega), if_pos h.1]; omega
  · rw [if_neg (by omega), if_neg (by omega), if_pos h.1]; omega
  · rw [if_neg (by omega), if_neg (by omega), if_neg (by omega), if_pos h1]; omega
  · rw [if_neg (by omega), if_neg (by omega), if_neg (by omega), if_neg (by omega)]; omega
theorem c_122 (W : WK K) (w : rW K X) (p0 : 0 ≤ p) (p1 : p < 1010) (hk : X 84 p = k) (hr : X 85 p = r) (h : Rr K X p k r q) (H : Q q X) : Cl d 122 [vR 50, vI p] X Q := by
  have hn := W.2.2
  have wr := W.2.1.1
  obtain ⟨⟨l69, l70, l71, l72, l55, l51, l52⟩, ⟨n23, n0, n1⟩, tb⟩ := w
  have et : p.tmod 101 = p % 101 := Int.tmod_eq_emod_of_nonneg p0
  unfold Cl
  rw [en_122]
  rcases h with h | h | ⟨h1, r0, r1, r2, r3, r4, r5⟩ | ⟨h1, r0, r1, r2, r3, r4, r5, r6⟩
  · simp only [bq122_0, bq122_1, bq122_2, bq122_3, bq122_4, s_0, lgI_some, s_1I, s_3, s_6, s_7, s_8, s_14, s_24, s_36, s_37i, s_37z, s_47, lgR_some, kd_51, kd_52, kd_53, kd_54, kd_55, kd_56, kd_57, kd_58, kd_59, kd_60, kd_61, kd_62, kd_63, kd_64, kd_65, kd_66, kd_67, kd_68, kd_69, kd_70, kd_71, kd_72, kd_73, kd_74, kd_75, kd_76, kd_77, kd_78, kd_79, kd_80, kd_81, kd_82, kd_83, kd_84, kd_85, ln_51, ln_52, ln_53, ln_54, ln_55, ln_56, ln_57, ln_58, ln_59, ln_60, ln_61, ln_62, ln_63, ln_64, ln_65, ln_66, ln_67, ln_68, ln_69, ln_70, ln_71, ln_72, ln_73, ln_74, ln_75, ln_76, ln_77, ln_78, ln_79, ln_80, ln_81, ln_82, ln_83, ln_84, ln_85, lg_0, lg_1, lg_2, lz_0, lz_1, lz_2, lp_0, lp_1, lp_2, isL_n, isL_I, isL_R, g_50_24, g_50_25, g_50_27, g_50_39, g_50_40, List.length_cons, List.length_nil, Nat.reduceAdd, Nat.reduceLT, Nat.reduceLeDiff, true_and, and_true, true_or, or_true, Int.reduceEq, Nat.reduceEqDiff, reduceCtorEq, true_implies, false_implies, not_true_eq_false, not_false_eq_true, Nat.zero_le, Int.zero_add, Nat.zero_add, Nat.lt_add_one, eq_self, forall_const, implies_true, Bool.false_eq_true, false_or, or_false, and_self, ne_eq, me_ne, me_self, hk, hr, h.1, p0, p1, show swj (sw 6) 1 = 1 from rfl, show w32 (p - 1) = p - 1 from w32_id (by omega) (by omega)]
    rw [← h.2.2]; exact H
  · simp only [bq122_0, bq122_1, bq122_2, bq122_3, bq122_4, s_0, lgI_some, s_1I, s_3, s_6, s_7, s_8, s_14, s_24, s_36, s_37i, s_37z, s_47, lgR_some, kd_51, kd_52, kd_53, kd_54, kd_55, kd_56, kd_57, kd_58, kd_59, kd_60, kd_61, kd_62, kd_63, kd_64, kd_65, kd_66, kd_67, kd_68, kd_69, kd_70, kd_71, kd_72, kd_73, kd_74, kd_75, kd_76, kd_77, kd_78, kd_79, kd_80, kd_81, kd_82, kd_83, kd_84, kd_85, ln_51, ln_52, ln_53, ln_54, ln_55, ln_56, ln_57, ln_58, ln_59, ln_60, ln_61, ln_62, ln_63, ln_64, ln_65, ln_66, ln_67, ln_68, ln_69, ln_70, ln_71, ln_72, ln_73, ln_74, ln_75, ln_76, ln_77, ln_78, ln_79, ln_80, ln_81, ln_82, ln_83, ln_84, ln_85, lg_0, lg_1, lg_2, lz_0, lz_1, lz_2, lp_0, lp_1, lp_2, isL_n, isL_I, isL_R, g_50_24, g_50_25, g_50_27, g_50_39, g_50_40, List.length_cons, List.length_nil, Nat.reduceAdd, Nat.reduceLT, Nat.reduceLeDiff, true_and, and_true, true_or, or_true, Int.reduceEq, Nat.reduceEqDiff, reduceCtorEq, true_implies, false_implies, not_true_eq_false, not_false_eq_true, Nat.zero_le, Int.zero_add, Nat.zero_add, Nat.lt_add_one, eq_self, forall_const, implies_true, Bool.false_eq_true, false_or, or_false, and_self, ne_eq, me_ne, me_self, hk, hr, h.1, p0, p1, show swj (sw 6) 2 = 2 from rfl, show w32 (p + 1) = p + 1 from w32_id (by omega) (by omega)]
    rw [← h.2.2.1]; exact H
  · obtain ⟨r12, rf, rt, rb, rl, rn⟩ := WK_r W r0 r1
    simp only [bq122_0, bq122_1, bq122_2, bq122_3, bq122_4, s_0, lgI_some, s_1I, s_3, s_6, s_7, s_8, s_14, s_24, s_36, s_37i, s_37z, s_47, lgR_some, kd_51, kd_52, kd_53, kd_54, kd_55, kd_56, kd_57, kd_58, kd_59, kd_60, kd_61, kd_62, kd_63, kd_64, kd_65, kd_66, kd_67, kd_68, kd_69, kd_70, kd_71, kd_72, kd_73, kd_74, kd_75, kd_76, kd_77, kd_78, kd_79, kd_80, kd_81, kd_82, kd_83, kd_84, kd_85, ln_51, ln_52, ln_53, ln_54, ln_55, ln_56, ln_57, ln_58, ln_59, ln_60, ln_61, ln_62, ln_63, ln_64, ln_65, ln_66, ln_67, ln_68, ln_69, ln_70, ln_71, ln_72, ln_73, ln_74, ln_75, ln_76, ln_77, ln_78, ln_79, ln_80, ln_81, ln_82, ln_83, ln_84, ln_85, lg_0, lg_1, lg_2, lz_0, lz_1, lz_2, lp_0, lp_1, lp_2, isL_n, isL_I, isL_R, g_50_24, g_50_25, g_50_27, g_50_39, g_50_40, List.length_cons, List.length_nil, Nat.reduceAdd, Nat.reduceLT, Nat.reduceLeDiff, true_and, and_true, true_or, or_true, Int.reduceEq, Nat.reduceEqDiff, reduceCtorEq, true_implies, false_implies, not_true_eq_false, not_false_eq_true, Nat.zero_le, Int.zero_add, Nat.zero_add, Nat.lt_add_one, eq_self, forall_const, implies_true, Bool.false_eq_true, false_or, or_false, and_self, ne_eq, me_ne, me_self, hk, hr, h1, p0, p1, et, l69, l72, r0, r12, show swj (sw 6) 3 = 3 from rfl, ix101 rf.1 (show K 25 r < 12 by omega) (show 0 ≤ p % 101 by omega) (show p % 101 ≤ 100 by omega), show w32 (101 * K 25 r + p % 101 - K 28 r) = q by rw [w32_id] <;> omega]
    exact H
  · obtain ⟨r12, rf, rt, rb, rl, rn⟩ := WK_r W r0 r1
    have rt' := rt.resolve_left r3
    simp only [bq122_0, bq122_1, bq122_2, bq122_3, bq122_4, s_0, lgI_some, s_1I, s_3, s_6, s_7, s_8, s_14, s_24, s_36, s_37i, s_37z, s_47, lgR_some, kd_51, kd_52, kd_53, kd_54, kd_55, kd_56, kd_57, kd_58, kd_59, kd_60, kd_61, kd_62, kd_63, kd_64, kd_65, kd_66, kd_67, kd_68, kd_69, kd_70, kd_71, kd_72, kd_73, kd_74, kd_75, kd_76, kd_77, kd_78, kd_79, kd_80, kd_81, kd_82, kd_83, kd_84, kd_85, ln_51, ln_52, ln_53, ln_54, ln_55, ln_56, ln_57, ln_58, ln_59, ln_60, ln_61, ln_62, ln_63, ln_64, ln_65, ln_66, ln_67, ln_68, ln_69, ln_70, ln_71, ln_72, ln_73, ln_74, ln_75, ln_76, ln_77, ln_78, ln_79, ln_80, ln_81, ln_82, ln_83, ln_84, ln_85, lg_0, lg_1, lg_2, lz_0, lz_1, lz_2, lp_0, lp_1, lp_2, isL_n, isL_I, isL_R, g_50_24, g_50_25, g_50_27, g_50_39, g_50_40, List.length_cons, List.length_nil, Nat.reduceAdd, Nat.reduceLT, Nat.reduceLeDiff, true_and, and_true, true_or, or_true, Int.reduceEq, Nat.reduceEqDiff, reduceCtorEq, true_implies, false_implies, not_true_eq_false, not_false_eq_true, Nat.zero_le, Int.zero_add, Nat.zero_add, Nat.lt_add_one, eq_self, forall_const, implies_true, Bool.false_eq_true, false_or, or_false, and_self, ne_eq, me_ne, me_self, hk, hr, h1, p0, p1, et, l70, l72, r0, r12, show swj (sw 6) 4 = 4 from rfl, ix101 rt'.1 (show K 26 r < 12 by omega) (show 0 ≤ p % 101 by omega) (show p % 101 ≤ 100 by omega), show w32 (101 * K 26 r + p % 101 + K 28 r) = q by rw [w32_id] <;> omega]
    exact H
theorem c_123 (W : WK K) (w : rW K X) (hg : Vg K (rgo X)) (hv : Vs K t (rst X)) (p0 : 0 ≤ p) (p1 : p < 1010) (hk : X 84 p = k) (hr : X 85 p = r) (h : k = 0 ∨ Rr K X p k r q) (H : Q (rmr K X p k r) X) : Cl d 123 [vR 50, vI p] X Q := by
  have hn := W.2.2
  have wr := W.2.1.1
  obtain ⟨⟨l69, l70, l71, l72, l55, l51, l52⟩, ⟨n23, n0, n1⟩, tb⟩ := w
  have et : p.tmod 101 = p % 101 := Int.tmod_eq_emod_of_nonneg p0
  have ed : w32 (p.tdiv 101) = p / 101 := by rw [Int.tdiv_eq_ediv_of_nonneg p0, w32_id (by omega) (by omega)]
  unfold Cl
  rw [en_123]
  unfold rmr at H
  rcases h with h | h | h | ⟨h1, r0, r1, r2, r3, r4, r5⟩ | ⟨h1, r0, r1, r2, r3, r4, r5, r6⟩
  · rw [if_pos h] at H
    have a := hg (p / 101) (by omega) (by omega)
    have b := W.1.2.2.2.2.2.2.1 (p / 101)
    unfold rgo at a
    have a2 : X 79 (p / 101) ≤ 500 := by
      by_cases z : X 79 (p / 101) = 0
      · omega
      · have := (a.2 z).2; omega
    simp only [bq123_0, bq123_1, bq123_2, bq123_3, bq123_4, bq123_5, s_0, lgI_some, s_1I, s_3, s_6, s_7, s_8, s_13, s_14, s_24, s_36, s_37i, s_37z, s_47, lgR_some, kd_51, kd_52, kd_53, kd_54, kd_55, kd_56, kd_57, kd_58, kd_59, kd_60, kd_61, kd_62, kd_63, kd_64, kd_65, kd_66, kd_67, kd_68, kd_69, kd_70, kd_71, kd_72, kd_73, kd_74, kd_75, kd_76, kd_77, kd_78, kd_79, kd_80, kd_81, kd_82, kd_83, kd_84, kd_85, ln_51, ln_52, ln_53, ln_54, ln_55, ln_56, ln_57, ln_58, ln_59, ln_60, ln_61, ln_62, ln_63, ln_64, ln_65, ln_66, ln_67, ln_68, ln_69, ln_70, ln_71, ln_72, ln_73, ln_74, ln_75, ln_76, ln_77, ln_78, ln_79, ln_80, ln_81, ln_82, ln_83, ln_84, ln_85, lg_0, lg_1, lg_2, lz_0, lz_1, lz_2, lp_0, lp_1, lp_2, isL_n, isL_I, isL_R, g_50_26, g_50_27, g_50_34, g_50_35, g_50_36, g_50_39, g_50_40, g_50_6, List.length_cons, List.length_nil, Nat.reduceAdd, Nat.reduceLT, Nat.reduceLeDiff, true_and, and_true, true_or, or_true, Int.reduceEq, Nat.reduceEqDiff, reduceCtorEq, true_implies, false_implies, not_true_eq_false, not_false_eq_true, Nat.zero_le, Int.zero_add, Nat.zero_add, Nat.lt_add_one, eq_self, forall_const, implies_true, Bool.false_eq_true, false_or, or_false, and_self, ne_eq, me_ne, me_self, hk, hr, h, p0, p1, ed, l55, show swj (sw 7) 0 = 1 from rfl, show w32 (K 13 (p / 101) - X 79 (p / 101)) = K 13 (p / 101) - X 79 (p / 101) from w32_id (by omega) (by omega)]
    exact ⟨by omega, by omega, H⟩
  · rw [if_neg (by omega), if_pos h.1] at H
    simp only [bq123_0, bq123_1, bq123_2, bq123_3, bq123_4, bq123_5, s_0, lgI_some, s_1I, s_3, s_6, s_7, s_8, s_13, s_14, s_24, s_36, s_37i, s_37z, s_47, lgR_some, kd_51, kd_52, kd_53, kd_54, kd_55, kd_56, kd_57, kd_58, kd_59, kd_60, kd_61, kd_62, kd_63, kd_64, kd_65, kd_66, kd_67, kd_68, kd_69, kd_70, kd_71, kd_72, kd_73, kd_74, kd_75, kd_76, kd_77, kd_78, kd_79, kd_80, kd_81, kd_82, kd_83, kd_84, kd_85, ln_51, ln_52, ln_53, ln_54, ln_55, ln_56, ln_57, ln_58, ln_59, ln_60, ln_61, ln_62, ln_63, ln_64, ln_65, ln_66, ln_67, ln_68, ln_69, ln_70, ln_71, ln_72, ln_73, ln_74, ln_75, ln_76, ln_77, ln_78, ln_79, ln_80, ln_81, ln_82, ln_83, ln_84, ln_85, lg_0, lg_1, lg_2, lz_0, lz_1, lz_2, lp_0, lp_1, lp_2, isL_n, isL_I, isL_R, g_50_26, g_50_27, g_50_34, g_50_35, g_50_36, g_50_39, g_50_40, g_50_6, List.length_cons, List.length_nil, Nat.reduceAdd, Nat.reduceLT, Nat.reduceLeDiff, true_and, and_true, true_or, or_true, Int.reduceEq, Nat.reduceEqDiff, reduceCtorEq, true_implies, false_implies, not_true_eq_false, not_false_eq_true, Nat.zero_le, Int.zero_add, Nat.zero_add, Nat.lt_add_one, eq_self, forall_const, implies_true, Bool.false_eq_true, false_or, or_false, and_self, ne_eq, me_ne, me_self, hk, hr, h.1, p0, p1, show swj (sw 7) 1 = 2 from rfl]
    exact H
  · rw [if_neg (by omega), if_neg (by omega), if_pos h.1] at H
    simp only [bq123_0, bq123_1, bq123_2, bq123_3, bq123_4, bq123_5, s_0, lgI_some, s_1I, s_3, s_6, s_7, s_8, s_13, s_14, s_24, s_36, s_37i, s_37z, s_47, lgR_some, kd_51, kd_52, kd_53, kd_54, kd_55, kd_56, kd_57, kd_58, kd_59, kd_60, kd_61, kd_62, kd_63, kd_64, kd_65, kd_66, kd_67, kd_68, kd_69, kd_70, kd_71, kd_72, kd_73, kd_74, kd_75, kd_76, kd_77, kd_78, kd_79, kd_80, kd_81, kd_82, kd_83, kd_84, kd_85, ln_51, ln_52, ln_53, ln_54, ln_55, ln_56, ln_57, ln_58, ln_59, ln_60, ln_61, ln_62, ln_63, ln_64, ln_65, ln_66, ln_67, ln_68, ln_69, ln_70, ln_71, ln_72, ln_73, ln_74, ln_75, ln_76, ln_77, ln_78, ln_79, ln_80, ln_81, ln_82, ln_83, ln_84, ln_85, lg_0, lg_1, lg_2, lz_0, lz_1, lz_2, lp_0, lp_1, lp_2, isL_n, isL_I, isL_R, g_50_26, g_50_27, g_50_34, g_50_35, g_50_36, g_50_39, g_50_40, g_50_6, List.length_cons, List.length_nil, Nat.reduceAdd, Nat.reduceLT, Nat.reduceLeDiff, true_and, and_true, true_or, or_true, Int.reduceEq, Nat.reduceEqDiff, reduceCtorEq, true_implies, false_implies, not_true_eq_false, not_false_eq_true, Nat.zero_le, Int.zero_add, Nat.zero_add, Nat.lt_add_one, eq_self, forall_const, implies_true, Bool.false_eq_true, false_or, or_false, and_self, ne_eq, me_ne, me_self, hk, hr, h.1, p0, p1, show swj (sw 7) 2 = 3 from rfl]
    exact H
  · rw [if_neg (by omega), if_neg (by omega), if_neg (by omega), if_pos h1] at H
    obtain ⟨r12, rf, rt, rb, rl, rn⟩ := WK_r W r0 r1
    have v := hv r (p % 101 - K 28 r) r0 r12 (by omega) (by omega)
    unfold rst at v
    simp only [bq123_0, bq123_1, bq123_2, bq123_3, bq123_4, bq123_5, s_0, lgI_some, s_1I, s_3, s_6, s_7, s_8, s_13, s_14, s_24, s_36, s_37i, s_37z, s_47, lgR_some, kd_51, kd_52, kd_53, kd_54, kd_55, kd_56, kd_57, kd_58, kd_59, kd_60, kd_61, kd_62, kd_63, kd_64, kd_65, kd_66, kd_67, kd_68, kd_69, kd_70, kd_71, kd_72, kd_73, kd_74, kd_75, kd_76, kd_77, kd_78, kd_79, kd_80, kd_81, kd_82, kd_83, kd_84, kd_85, ln_51, ln_52, ln_53, ln_54, ln_55, ln_56, ln_57, ln_58, ln_59, ln_60, ln_61, ln_62, ln_63, ln_64, ln_65, ln_66, ln_67, ln_68, ln_69, ln_70, ln_71, ln_72, ln_73, ln_74, ln_75, ln_76, ln_77, ln_78, ln_79, ln_80, ln_81, ln_82, ln_83, ln_84, ln_85, lg_0, lg_1, lg_2, lz_0, lz_1, lz_2, lp_0, lp_1, lp_2, isL_n, isL_I, isL_R, g_50_26, g_50_27, g_50_34, g_50_35, g_50_36, g_50_39, g_50_40, g_50_6, List.length_cons, List.length_nil, Nat.reduceAdd, Nat.reduceLT, Nat.reduceLeDiff, true_and, and_true, true_or, or_true, Int.reduceEq, Nat.reduceEqDiff, reduceCtorEq, true_implies, false_implies, not_true_eq_false, not_false_eq_true, Nat.zero_le, Int.zero_add, Nat.zero_add, Nat.lt_add_one, eq_self, forall_const, implies_true, Bool.false_eq_true, false_or, or_false, and_self, ne_eq, me_ne, me_self, hk, hr, h1, p0, p1, et, l71, l72, r0, r12, show swj (sw 7) 3 = 4 from rfl, ix101 r0 r12 (show 0 ≤ p % 101 by omega) (show p % 101 ≤ 100 by omega), show w32 (101 * r + p % 101 - K 28 r) = 101 * r + (p % 101 - K 28 r) by rw [w32_id] <;> omega, show w32 (K 27 r - X 81 (101 * r + (p % 101 - K 28 r))) = K 27 r - X 81 (101 * r + (p % 101 - K 28 r)) from w32_id (by omega) (by omega)]
    exact ⟨by omega, H⟩
  · rw [if_neg (by omega), if_neg (by omega), if_neg (by omega), if_neg (by omega)] at H
    obtain ⟨r12, rf, rt, rb, rl, rn⟩ := WK_r W r0 r1
    simp only [bq123_0, bq123_1, bq123_2, bq123_3, bq123_4, bq123_5, s_0, lgI_some, s_1I, s_3, s_6, s_7, s_8, s_13, s_14, s_24, s_36, s_37i, s_37z, s_47, lgR_some, kd_51, kd_52, kd_53, kd_54, kd_55, kd_56, kd_57, kd_58, kd_59, kd_60, kd_61, kd_62, kd_63, kd_64, kd_65, kd_66, kd_67, kd_68, kd_69, kd_70, kd_71, kd_72, kd_73, kd_74, kd_75, kd_76, kd_77, kd_78, kd_79, kd_80, kd_81, kd_82, kd_83, kd_84, kd_85, ln_51, ln_52, ln_53, ln_54, ln_55, ln_56, ln_57, ln_58, ln_59, ln_60, ln_61, ln_62, ln_63, ln_64, ln_65, ln_66, ln_67, ln_68, ln_69, ln_70, ln_71, ln_72, ln_73, ln_74, ln_75, ln_76, ln_77, ln_78, ln_79, ln_80, ln_81, ln_82, ln_83, ln_84, ln_85, lg_0, lg_1, lg_2, lz_0, lz_1, lz_2, lp_0, lp_1, lp_2, isL_n, isL_I, isL_R, g_50_26, g_50_27, g_50_34, g_50_35, g_50_36, g_50_39, g_50_40, g_50_6, List.length_cons, List.length_nil, Nat.reduceAdd, Nat.reduceLT, Nat.reduceLeDiff, true_and, and_true, true_or, or_true, Int.reduceEq, Nat.reduceEqDiff, reduceCtorEq, true_implies, false_implies, not_true_eq_false, not_false_eq_true, Nat.zero_le, Int.zero_add, Nat.zero_add, Nat.lt_add_one, eq_self, forall_const, implies_true, Bool.false_eq_true, false_or, or_false, and_self, ne_eq, me_ne, me_self, hk, hr, h1, p0, p1, et, r0, r12, show swj (sw 7) 4 = 5 from rfl, ix101 r0 r12 (show 0 ≤ p % 101 by omega) (show p % 101 ≤ 100 by omega)]
    exact ⟨by omega, H⟩
theorem c_124 (W : WK K) (w : rW K X) (hg : Vg K (rgo X)) (hv : Vs K t (rst X)) (hw : ∀ i, 0 ≤ i → i < 1010 → 0 ≤ X 80 i ∧ X 80 i ≤ 1000000) (n0 : 0 ≤ n) (n1 : n ≤ 500) (hn2 : n ≤ rmr K X p k r) (p0 : 0 ≤ p) (p1 : p < 1010) (hk : X 84 p = k) (hr : X 85 p = r) (h : k = 0 ∨ Rr K X p k r q) (H : Q 0 (mvr K X p k r n)) : Cl d 124 [vR 50, vI p, vI n] X Q := by
  have hn := W.2.2
  have wr := W.2.1.1
  obtain ⟨⟨l69, l70, l71, l72, l55, l51, l52⟩, ⟨n23, n0', n1'⟩, tb⟩ := w
  have et : p.tmod 101 = p % 101 := Int.tmod_eq_emod_of_nonneg p0
  have ed : w32 (p.tdiv 101) = p / 101 := by rw [Int.tdiv_eq_ediv_of_nonneg p0, w32_id (by omega) (by omega)]
  unfold Cl
  rw [en_124]
  unfold mvr at H
  unfold rmr at hn2
  rcases h with h | h | h | ⟨h1, r0, r1, r2, r3, r4, r5⟩ | ⟨h1, r0, r1, r2, r3, r4, r5, r6⟩
  · rw [if_pos h] at H hn2
    have a := hg (p / 101) (by omega) (by omega)
    have b := W.1.2.2.2.2.2.2.1 (p / 101)
    unfold rgo at a
    simp only [bq124_0, bq124_1, bq124_2, bq124_3, bq124_4, bq124_5, bq124_6, s_0, lgI_some, s_1I, s_3, s_6, s_7, s_8, s_13, s_14, s_24, s_25, s_31, s_32, s_34, s_36, s_38, s_47, lgR_some, kd_51, kd_52, kd_53, kd_54, kd_55, kd_56, kd_57, kd_58, kd_59, kd_60, kd_61, kd_62, kd_63, kd_64, kd_65, kd_66, kd_67, kd_68, kd_69, kd_70, kd_71, kd_72, kd_73, kd_74, kd_75, kd_76, kd_77, kd_78, kd_79, kd_80, kd_81, kd_82, kd_83, kd_84, kd_85, ln_51, ln_52, ln_53, ln_54, ln_55, ln_56, ln_57, ln_58, ln_59, ln_60, ln_61, ln_62, ln_63, ln_64, ln_65, ln_66, ln_67, ln_68, ln_69, ln_70, ln_71, ln_72, ln_73, ln_74, ln_75, ln_76, ln_77, ln_78, ln_79, ln_80, ln_81, ln_82, ln_83, ln_84, ln_85, lg_0, lg_1, lg_2, lg_3, lz_0, lz_1, lz_2, lz_3, lp_0, lp_1, lp_2, lp_3, isL_n, isL_I, isL_R, g_50_27, g_50_34, g_50_35, g_50_36, g_50_39, g_50_40, List.length_cons, List.length_nil, Nat.reduceAdd, Nat.reduceLT, Nat.reduceLeDiff, true_and, and_true, true_or, or_true, Int.reduceEq, Nat.reduceEqDiff, reduceCtorEq, true_implies, false_implies, not_true_eq_false, not_false_eq_true, Nat.zero_le, Int.zero_add, Nat.zero_add, Nat.lt_add_one, eq_self, forall_const, implies_true, Bool.false_eq_true, false_or, or_false, and_self, ne_eq, me_ne, me_self, hk, hr, h, p0, p1, ed, show swj (sw 8) 0 = 1 from rfl, show w32 (X 79 (p / 101) + n) = X 79 (p / 101) + n from w32_id (by omega) (by omega)]
    exact ⟨by omega, by omega, H⟩
  · rw [if_neg (by omega), if_pos h.1] at H
    have b := hw (p - 1) (by omega) (by omega)
    simp only [bq124_0, bq124_1, bq124_2, bq124_3, bq124_4, bq124_5, bq124_6, s_0, lgI_some, s_1I, s_3, s_6, s_7, s_8, s_13, s_14, s_24, s_25, s_31, s_32, s_34, s_36, s_38, s_47, lgR_some, kd_51, kd_52, kd_53, kd_54, kd_55, kd_56, kd_57, kd_58, kd_59, kd_60, kd_61, kd_62, kd_63, kd_64, kd_65, kd_66, kd_67, kd_68, kd_69, kd_70, kd_71, kd_72, kd_73, kd_74, kd_75, kd_76, kd_77, kd_78, kd_79, kd_80, kd_81, kd_82, kd_83, kd_84, kd_85, ln_51, ln_52, ln_53, ln_54, ln_55, ln_56, ln_57, ln_58, ln_59, ln_60, ln_61, ln_62, ln_63, ln_64, ln_65, ln_66, ln_67, ln_68, ln_69, ln_70, ln_71, ln_72, ln_73, ln_74, ln_75, ln_76, ln_77, ln_78, ln_79, ln_80, ln_81, ln_82, ln_83, ln_84, ln_85, lg_0, lg_1, lg_2, lg_3, lz_0, lz_1, lz_2, lz_3, lp_0, lp_1, lp_2, lp_3, isL_n, isL_I, isL_R, g_50_27, g_50_34, g_50_35, g_50_36, g_50_39, g_50_40, List.length_cons, List.length_nil, Nat.reduceAdd, Nat.reduceLT, Nat.reduceLeDiff, true_and, and_true, true_or, or_true, Int.reduceEq, Nat.reduceEqDiff, reduceCtorEq, true_implies, false_implies, not_true_eq_false, not_false_eq_true, Nat.zero_le, Int.zero_add, Nat.zero_add, Nat.lt_add_one, eq_self, forall_const, implies_true, Bool.false_eq_true, false_or, or_false, and_self, ne_eq, me_ne, me_self, hk, hr, h.1, p0, p1, show swj (sw 8) 1 = 2 from rfl, show w32 (p - 1) = p - 1 from w32_id (by omega) (by omega), show w32 (X 80 (p - 1) + n) = X 80 (p - 1) + n from w32_id (by omega) (by omega)]
    exact ⟨by omega, by omega, H⟩
  · rw [if_neg (by omega), if_neg (by omega), if_pos h.1] at H
    have b := hw p p0 p1
    simp only [bq124_0, bq124_1, bq124_2, bq124_3, bq124_4, bq124_5, bq124_6, s_0, lgI_some, s_1I, s_3, s_6, s_7, s_8, s_13, s_14, s_24, s_25, s_31, s_32, s_34, s_36, s_38, s_47, lgR_some, kd_51, kd_52, kd_53, kd_54, kd_55, kd_56, kd_57, kd_58, kd_59, kd_60, kd_61, kd_62, kd_63, kd_64, kd_65, kd_66, kd_67, kd_68, kd_69, kd_70, kd_71, kd_72, kd_73, kd_74, kd_75, kd_76, kd_77, kd_78, kd_79, kd_80, kd_81, kd_82, kd_83, kd_84, kd_85, ln_51, ln_52, ln_53, ln_54, ln_55, ln_56, ln_57, ln_58, ln_59, ln_60, ln_61, ln_62, ln_63, ln_64, ln_65, ln_66, ln_67, ln_68, ln_69, ln_70, ln_71, ln_72, ln_73, ln_74, ln_75, ln_76, ln_77, ln_78, ln_79, ln_80, ln_81, ln_82, ln_83, ln_84, ln_85, lg_0, lg_1, lg_2, lg_3, lz_0, lz_1, lz_2, lz_3, lp_0, lp_1, lp_2, lp_3, isL_n, isL_I, isL_R, g_50_27, g_50_34, g_50_35, g_50_36, g_50_39, g_50_40, List.length_cons, List.length_nil, Nat.reduceAdd, Nat.reduceLT, Nat.reduceLeDiff, true_and, and_true, true_or, or_true, Int.reduceEq, Nat.reduceEqDiff, reduceCtorEq, true_implies, false_implies, not_true_eq_false, not_false_eq_true, Nat.zero_le, Int.zero_add, Nat.zero_add, Nat.lt_add_one, eq_self, forall_const, implies_true, Bool.false_eq_true, false_or, or_false, and_self, ne_eq, me_ne, me_self, hk, hr, h.1, p0, p1, show swj (sw 8) 2 = 3 from rfl, show w32 (X 80 p - n) = X 80 p - n from w32_id (by omega) (by omega)]
    exact H
  · rw [if_neg (by omega), if_neg (by omega), if_neg (by omega), if_pos h1] at H hn2
    obtain ⟨r12, rf, rt, rb, rl, rn⟩ := WK_r W r0 r1
    have v := hv r (p % 101 - K 28 r) r0 r12 (by omega) (by omega)
    unfold rst at v
    simp only [bq124_0, bq124_1, bq124_2, bq124_3, bq124_4, bq124_5, bq124_6, s_0, lgI_some, s_1I, s_3, s_6, s_7, s_8, s_13, s_14, s_24, s_25, s_31, s_32, s_34, s_36, s_38, s_47, lgR_some, kd_51, kd_52, kd_53, kd_54, kd_55, kd_56, kd_57, kd_58, kd_59, kd_60, kd_61, kd_62, kd_63, kd_64, kd_65, kd_66, kd_67, kd_68, kd_69, kd_70, kd_71, kd_72, kd_73, kd_74, kd_75, kd_76, kd_77, kd_78, kd_79, kd_80, kd_81, kd_82, kd_83, kd_84, kd_85, ln_51, ln_52, ln_53, ln_54, ln_55, ln_56, ln_57, ln_58, ln_59, ln_60, ln_61, ln_62, ln_63, ln_64, ln_65, ln_66, ln_67, ln_68, ln_69, ln_70, ln_71, ln_72, ln_73, ln_74, ln_75, ln_76, ln_77, ln_78, ln_79, ln_80, ln_81, ln_82, ln_83, ln_84, ln_85, lg_0, lg_1, lg_2, lg_3, lz_0, lz_1, lz_2, lz_3, lp_0, lp_1, lp_2, lp_3, isL_n, isL_I, isL_R, g_50_27, g_50_34, g_50_35, g_50_36, g_50_39, g_50_40, List.length_cons, List.length_nil, Nat.reduceAdd, Nat.reduceLT, Nat.reduceLeDiff, true_and, and_true, true_or, or_true, Int.reduceEq, Nat.reduceEqDiff, reduceCtorEq, true_implies, false_implies, not_true_eq_false, not_false_eq_true, Nat.zero_le, Int.zero_add, Nat.zero_add, Nat.lt_add_one, eq_self, forall_const, implies_true, Bool.false_eq_true, false_or, or_false, and_self, ne_eq, me_ne, me_self, hk, hr, h1, p0, p1, et, l72, r0, r12, show swj (sw 8) 3 = 4 from rfl, ix101 r0 r12 (show 0 ≤ p % 101 by omega) (show p % 101 ≤ 100 by omega), show w32 (101 * r + p % 101 - K 28 r) = 101 * r + (p % 101 - K 28 r) by rw [w32_id] <;> omega, show w32 (X 81 (101 * r + (p % 101 - K 28 r)) + n) = X 81 (101 * r + (p % 101 - K 28 r)) + n from w32_id (by omega) (by omega)]
    exact ⟨by omega, by omega, H⟩
  · rw [if_neg (by omega), if_neg (by omega), if_neg (by omega), if_neg (by omega)] at H hn2
    obtain ⟨r12, rf, rt, rb, rl, rn⟩ := WK_r W r0 r1
    have v := hv r (p % 101) r0 r12 (by omega) (by omega)
    unfold rst at v
    simp only [bq124_0, bq124_1, bq124_2, bq124_3, bq124_4, bq124_5, bq124_6, s_0, lgI_some, s_1I, s_3, s_6, s_7, s_8, s_13, s_14, s_24, s_25, s_31, s_32, s_34, s_36, s_38, s_47, lgR_some, kd_51, kd_52, kd_53, kd_54, kd_55, kd_56, kd_57, kd_58, kd_59, kd_60, kd_61, kd_62, kd_63, kd_64, kd_65, kd_66, kd_67, kd_68, kd_69, kd_70, kd_71, kd_72, kd_73, kd_74, kd_75, kd_76, kd_77, kd_78, kd_79, kd_80, kd_81, kd_82, kd_83, kd_84, kd_85, ln_51, ln_52, ln_53, ln_54, ln_55, ln_56, ln_57, ln_58, ln_59, ln_60, ln_61, ln_62, ln_63, ln_64, ln_65, ln_66, ln_67, ln_68, ln_69, ln_70, ln_71, ln_72, ln_73, ln_74, ln_75, ln_76, ln_77, ln_78, ln_79, ln_80, ln_81, ln_82, ln_83, ln_84, ln_85, lg_0, lg_1, lg_2, lg_3, lz_0, lz_1, lz_2, lz_3, lp_0, lp_1, lp_2, lp_3, isL_n, isL_I, isL_R, g_50_27, g_50_34, g_50_35, g_50_36, g_50_39, g_50_40, List.length_cons, List.length_nil, Nat.reduceAdd, Nat.reduceLT, Nat.reduceLeDiff, true_and, and_true, true_or, or_true, Int.reduceEq, Nat.reduceEqDiff, reduceCtorEq, true_implies, false_implies, not_true_eq_false, not_false_eq_true, Nat.zero_le, Int.zero_add, Nat.zero_add, Nat.lt_add_one, eq_self, forall_const, implies_true, Bool.false_eq_true, false_or, or_false, and_self, ne_eq, me_ne, me_self, hk, hr, h1, p0, p1, et, r0, r12, show swj (sw 8) 4 = 5 from rfl, ix101 r0 r12 (show 0 ≤ p % 101 by omega) (show p % 101 ≤ 100 by omega), show w32 (X 81 (101 * r + p % 101) - n) = X 81 (101 * r + p % 101) - n from w32_id (by omega) (by omega)]
    exact ⟨by omega, by omega, H⟩
theorem mvr_f {j : Nat} (h1 : j ≠ 79) (h2 : j ≠ 80) (h3 : j ≠ 81) : mvr K X p k r n j = X j := by
  unfold mvr
  repeat' split
  all_goals first | exact me_f _ h1 | exact me_f _ h2 | exact me_f _ h3
def cr (χ : Int → Int → Int) (p : Int) : Int := χ (p / 101) (p % 101)
/-- a step of the way, in the sum -/
theorem mr_LL {χ : Int → Int → Int} {w : Int} (W : WK K) (p0 : 0 ≤ p) (p1 : p < 1010) (h : Rr K X p k r q) : LL K (rgo (mvr K X p k r n)) (rwt (mvr K X p k r n)) (rst (mvr K X p k r n)) χ w = LL K (rgo X) (rwt X) (rst X) χ w + n * (cr χ p - cr χ q) := by
  have wr := W.2.1.1
  have hn := W.2.2
  unfold mvr cr
  rcases h with h | h | ⟨h1, r0, r1, r2, r3, r4, r5⟩ | ⟨h1, r0, r1, r2, r3, r4, r5, r6⟩
  · rw [if_neg (by omega), if_pos h.1]
    have e1 : rgo (me_put X 80 (p - 1) (X 80 (p - 1) + n)) = rgo X := by unfold rgo; rw [me_f _ (by decide)]
    have e2 : rst (me_put X 80 (p - 1) (X 80 (p - 1) + n)) = rst X := by unfold rst; rw [me_f _ (by decide)]
    rw [e1, e2, LL_w (wt := rwt X) (wt' := rwt (me_put X 80 (p - 1) (X 80 (p - 1) + n))) (c := p / 101) (h := p % 101 - 1) (n := n) (by omega) (by omega) (by omega) (by omega)]
    · rw [show q / 101 = p / 101 by omega, show q % 101 = p % 101 - 1 by omega, show p % 101 - 1 + 1 = p % 101 by omega]
    · unfold rwt; rw [show 101 * (p / 101) + (p % 101 - 1) = p - 1 by omega, me_self]
    · intro i j i0 i1 j0 j1 z
      unfold rwt; rw [me_i _ (by omega)]
  · rw [if_neg (by omega), if_neg (by omega), if_pos h.1]
    have e1 : rgo (me_put X 80 p (X 80 p - n)) = rgo X := by unfold rgo; rw [me_f _ (by decide)]
    have e2 : rst (me_put X 80 p (X 80 p - n)) = rst X := by unfold rst; rw [me_f _ (by decide)]
    rw [e1, e2, LL_w (wt := rwt X) (wt' := rwt (me_put X 80 p (X 80 p - n))) (c := p / 101) (h := p % 101) (n := -n) (by omega) (by omega) (by omega) (by omega)]
    · rw [show q / 101 = p / 101 by omega, show q % 101 = p % 101 + 1 by omega, neg_mul_sub]
    · unfold rwt; rw [show 101 * (p / 101) + p % 101 = p by omega, me_self]; omega
    · intro i j i0 i1 j0 j1 z
      unfold rwt; rw [me_i _ (by omega)]
  · obtain ⟨r12, rf, rt, rb, rl, rn⟩ := WK_r W r0 r1
    rw [if_neg (by omega), if_neg (by omega), if_neg (by omega), if_pos h1]
    have e1 : rgo (me_put X 81 (101 * r + (p % 101 - K 28 r)) (X 81 (101 * r + (p % 101 - K 28 r)) + n)) = rgo X := by unfold rgo; rw [me_f _ (by decide)]
    have e2 : rwt (me_put X 81 (101 * r + (p % 101 - K 28 r)) (X 81 (101 * r + (p % 101 - K 28 r)) + n)) = rwt X := by unfold rwt; rw [me_f _ (by decide)]
    rw [e1, e2, LL_s (st := rst X) (st' := rst (me_put X 81 (101 * r + (p % 101 - K 28 r)) (X 81 (101 * r + (p % 101 - K 28 r)) + n))) (r := r) (h := p % 101 - K 28 r) (n := n) r0 r12 (by omega) (by omega)]
    · unfold hdv
      rw [if_neg (by omega), r2, show p % 101 - K 28 r + K 28 r = p % 101 by omega, show q / 101 = K 25 r by omega, show q % 101 = p % 101 - K 28 r by omega]
    · unfold rst; rw [me_self]
    · intro i j i0 i1 j0 j1 z
      unfold rst; rw [me_i _ (by omega)]
  · obtain ⟨r12, rf, rt, rb, rl, rn⟩ := WK_r W r0 r1
    have rt' := rt.resolve_left r3
    rw [if_neg (by omega), if_neg (by omega), if_neg (by omega), if_neg (by omega)]
    have e1 : rgo (me_put X 81 (101 * r + p % 101) (X 81 (101 * r + p % 101) - n)) = rgo X := by unfold rgo; rw [me_f _ (by decide)]
    have e2 : rwt (me_put X 81 (101 * r + p % 101) (X 81 (101 * r + p % 101) - n)) = rwt X := by unfold rwt; rw [me_f _ (by decide)]
    rw [e1, e2, LL_s (st := rst X) (st' := rst (me_put X 81 (101 * r + p % 101) (X 81 (101 * r + p % 101) - n))) (r := r) (h := p % 101) (n := -n) r0 r12 (by omega) (by omega)]
    · unfold hdv
      rw [if_neg r3, neg_mul_sub, r2, show q / 101 = K 26 r by omega, show q % 101 = p % 101 + K 28 r by omega]
    · unfold rst; rw [me_self]; omega
    · intro i j i0 i1 j0 j1 z
      unfold rst; rw [me_i _ (by omega)]
/-- and its bounds -/
def okr (K : Me) (t p : Int) : Prop := 0 ≤ p ∧ p < 1010 ∧ pl K (p / 101) (p % 101) ∧ p % 101 ≤ t
theorem mr_V (W : WK K) (hw : Vw K t (rwt X)) (hv : Vs K t (rst X)) (hp : okr K t p) (hq : okr K t q) (n0 : 0 ≤ n) (h : Rr K X p k r q) (hr : n ≤ rmr K X p k r) : Vw K t (rwt (mvr K X p k r n)) ∧ Vs K t (rst (mvr K X p k r n)) := by
  have wr := W.2.1.1
  have hn := W.2.2
  obtain ⟨p0, p1, pp, pt⟩ := hp
  unfold mvr
  unfold rmr at hr
  rcases h with h | h | ⟨h1, r0, r1, r2, r3, r4, r5⟩ | ⟨h1, r0, r1, r2, r3, r4, r5, r6⟩
  · rw [if_neg (by omega), if_pos h.1]
    constructor
    · intro c h' c0 c1 g0 g1
      have v := hw c h' c0 c1 g0 g1
      unfold rwt at v ⊢
      by_cases z : 101 * c + h' = p - 1
      · rw [z] at v ⊢
        rw [me_self]
        refine ⟨by omega, fun _ => ?_⟩
        have g := hq.2.2
        rw [show q / 101 = c by omega, show q % 101 = h' by omega] at g
        rw [show p / 101 = c by omega, show p % 101 = h' + 1 by omega] at pp
        exact ⟨g.1, pp, by omega⟩
      · rw [me_i _ z]; exact v
    · intro r h' r0 r1 g0 g1
      have v := hv r h' r0 r1 g0 g1
      unfold rst at v ⊢
      rw [me_f _ (by decide)]; exact v
  · rw [if_neg (by omega), if_neg (by omega), if_pos h.1]
    rw [if_neg (by omega), if_neg (by omega), if_pos h.1] at hr
    constructor
    · intro c h' c0 c1 g0 g1
      have v := hw c h' c0 c1 g0 g1
      unfold rwt at v ⊢
      by_cases z : 101 * c + h' = p
      · rw [z] at v ⊢
        rw [me_self]
        exact ⟨by omega, fun _ => v.2 (by omega)⟩
      · rw [me_i _ z]; exact v
    · intro r h' r0 r1 g0 g1
      have v := hv r h' r0 r1 g0 g1
      unfold rst at v ⊢
      rw [me_f _ (by decide)]; exact v
  · obtain ⟨r12, rf, rt, rb, rl, rn⟩ := WK_r W r0 r1
    rw [if_neg (by omega), if_neg (by omega), if_neg (by omega), if_pos h1]
    rw [if_neg (by omega), if_neg (by omega), if_neg (by omega), if_pos h1] at hr
    constructor
    · intro c h' c0 c1 g0 g1
      have v := hw c h' c0 c1 g0 g1
      unfold rwt at v ⊢
      rw [me_f _ (by decide)]; exact v
    · intro r' h' a0 a1 g0 g1
      have v := hv r' h' a0 a1 g0 g1
      unfold rst at v ⊢
      by_cases y : 101 * r' + h' = 101 * r + (p % 101 - K 28 r)
      · have e1 : r' = r := by omega
        have e2 : h' = p % 101 - K 28 r := by omega
        subst e1; subst e2
        rw [me_self]
        refine ⟨by omega, fun _ => ⟨r1, by omega, ?_, by omega, fun _ => ?_⟩⟩
        · have g := hq.2.2.1
          rw [show q / 101 = K 25 r' by omega, show q % 101 = p % 101 - K 28 r' by omega] at g
          exact g
        · rw [r2, show p % 101 - K 28 r' + K 28 r' = p % 101 by omega]; exact pp
      · rw [me_i _ y]; exact v
  · obtain ⟨r12, rf, rt, rb, rl, rn⟩ := WK_r W r0 r1
    rw [if_neg (by omega), if_neg (by omega), if_neg (by omega), if_neg (by omega)]
    rw [if_neg (by omega), if_neg (by omega), if_neg (by omega), if_neg (by omega)] at hr
    constructor
    · intro c h' c0 c1 g0 g1
      have v := hw c h' c0 c1 g0 g1
      unfold rwt at v ⊢
      rw [me_f _ (by decide)]; exact v
    · intro r' h' a0 a1 g0 g1
      have v := hv r' h' a0 a1 g0 g1
      unfold rst at v ⊢
      by_cases y : 101 * r' + h' = 101 * r + p % 101
      · rw [y] at v ⊢
        rw [me_self]
        refine ⟨by omega, fun _ => ?_⟩
        have := v.2 (by omega)
        exact ⟨this.1, by omega, this.2.2⟩
      · rw [me_i _ y]; exact v
end RW

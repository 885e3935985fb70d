/-! what the reference foretells -/
/-- the class's world alone -/
def cw (M : Me) : Me := fun k => if k ≤ 4 then M k else if k ≤ 8 then fun _ => 0 else if k ≤ 35 then M k else fun _ => 0
theorem cw_B (M : Me) : IvB (cw M) = IvB M := rfl
theorem cw_D (M : Me) : IvD (cw M) = IvD M := rfl
theorem cw_ag {X M : Me} (h : cw X = cw M) : ag X M :=
  ⟨congrFun h 1, congrFun h 2, congrFun h 10, congrFun h 11, congrFun h 12, congrFun h 15, congrFun h 16, congrFun h 17, congrFun h 18, congrFun h 19, congrFun h 20, congrFun h 22, congrFun h 23, congrFun h 24⟩
theorem cw_of {X M : Me} (h : ∀ k, k ≤ 35 → k ≠ 5 → k ≠ 6 → k ≠ 7 → k ≠ 8 → X k = M k) : cw X = cw M := by
  funext k
  unfold cw
  split
  · exact h k (by omega) (by omega) (by omega) (by omega) (by omega)
  · split
    · rfl
    · split
      · exact h k (by omega) (by omega) (by omega) (by omega) (by omega)
      · rfl
theorem cw_IB {X M : Me} (h : cw X = cw M) (q : IvB M) : IvB X := by
  rw [← cw_B, h, cw_B]; exact q
theorem cw_ID {X M : Me} (h : cw X = cw M) (q : IvD M) : IvD X := by
  rw [← cw_D, h, cw_D]; exact q
theorem IvL_fr {X M : Me} (h : ∀ k, k ∉ [73, 74, 75, 76, 77, 78] → X k = M k) (q : IvL M) : IvL X := by
  unfold IvL at *
  rw [h 51 (by decide), h 52 (by decide), h 53 (by decide), h 54 (by decide), h 55 (by decide), h 56 (by decide), h 57 (by decide), h 58 (by decide), h 59 (by decide), h 60 (by decide), h 61 (by decide), h 62 (by decide), h 63 (by decide), h 64 (by decide), h 66 (by decide), h 67 (by decide), h 68 (by decide), h 69 (by decide), h 70 (by decide), h 71 (by decide), h 72 (by decide), h 50 (by decide), h 0 (by decide), h 1 (by decide), h 2 (by decide), h 3 (by decide), h 4 (by decide), h 5 (by decide), h 9 (by decide), h 10 (by decide), h 11 (by decide), h 12 (by decide), h 13 (by decide), h 14 (by decide), h 16 (by decide), h 17 (by decide), h 18 (by decide), h 19 (by decide), h 20 (by decide), h 21 (by decide), h 22 (by decide), h 23 (by decide), h 33 (by decide), h 34 (by decide), h 35 (by decide), h 25 (by decide), h 26 (by decide), h 27 (by decide), h 28 (by decide)]
  exact q
def Fo (K M M' : Me) : Prop := (∀ k, k ∉ [73, 74, 75, 76, 77, 78] → M' k = M k) ∧ (∀ b, 0 ≤ b → b < 10 → M' 73 b = M 73 b) ∧ (∀ b, 0 ≤ b → b < 12 → M' 74 b = M 74 b) ∧ M' 75 0 = M 75 0 ∧ M' 76 0 = M 76 0 ∧ M' 77 0 = M 77 0 ∧ (∀ i, w64 (M' 76 i) = M' 76 i ∧ w64 (M' 77 i) = M' 77 i) ∧ ∀ h c, M 5 2 ≤ h → h ≤ 100 → 0 ≤ c → c < M 1 8 → M' 78 (101 * c + h) = fw K c h
theorem w64_64 (x : Int) : w64 (w64 x) = w64 x := by
  unfold w64; exact Int.bmod_bmod
theorem wq1_w {X : Me} {s : HS} {b : Int} (h0 : 0 ≤ b) (h1 : b < 10) : wq 1 X s 73 (10 + b) = s.1 b := by
  have := wq_w (o := 1) (M := X) (s := s) h0 h1
  rwa [Int.mul_one] at this
theorem wq_p {X : Me} {s : HS} {o i v : Int} : me_put (wq o X s) 78 i v = wq o (me_put X 78 i v) s := by
  funext a b
  simp only [me_put, wq]
  by_cases h : a = 78
  · subst h; simp
  · simp [h]
theorem me_i (M : Me) {k : Nat} {i j v : Int} (h : j ≠ i) : me_put M k i v k j = M k j := by simp [me_put, h]
theorem me_f (M : Me) {k a : Nat} {i v : Int} (h : a ≠ k) : me_put M k i v a = M a := by funext b; simp [me_put, h]
section C108
variable {d : Nat} {M : Me} {Q : Int → Me → Prop}
theorem l_108a : ∀ (n : Nat) (Y : Me) (i : Int), i + (n : Int) = 10 → 0 ≤ i → (∀ k, k ≠ 73 → Y k = M k) → (∀ b, b < 10 → Y 73 b = M 73 b) → (∀ b, 0 ≤ b → b < i → Y 73 (10 + b) = M 73 b) →
    (∀ Y' : Me, (∀ k, k ≠ 73 → Y' k = M k) → (∀ b, b < 10 → Y' 73 b = M 73 b) → (∀ b, 0 ≤ b → b < 10 → Y' 73 (10 + b) = M 73 b) → Rn d (blk 108 3) 108 [some (vR 50), some (vI 0), none] [] Y' Q) → Rn d (blk 108 1) 108 [some (vR 50), some (vI i), none] [] Y Q := by
  intro n
  induction n with
  | zero =>
    intro Y i hi h0 a1 a2 a3 H
    rw [bq108_1]
    simp only [bq108_2, s_0, lgI_some, s_1I, s_3, s_5K, s_6, s_24, s_25, s_30, cnP_0, cnP_1, cnP_2, cnP_3, cnP_4, cnP_5, s_31, s_32, s_47, lgR_some, kd_51, kd_52, kd_53, kd_54, kd_55, kd_56, kd_57, kd_58, kd_59, kd_60, kd_61, kd_62, kd_63, kd_64, kd_65, kd_66, kd_67, kd_68, kd_69, kd_70, kd_71, kd_72, kd_73, kd_74, kd_75, kd_76, kd_77, kd_78, kd_79, kd_80, kd_81, kd_82, kd_83, kd_84, kd_85, ln_51, ln_52, ln_53, ln_54, ln_55, ln_56, ln_57, ln_58, ln_59, ln_60, ln_61, ln_62, ln_63, ln_64, ln_65, ln_66, ln_67, ln_68, ln_69, ln_70, ln_71, ln_72, ln_73, ln_74, ln_75, ln_76, ln_77, ln_78, ln_79, ln_80, ln_81, ln_82, ln_83, ln_84, ln_85, lg_0, lg_1, lg_2, lz_0, lz_1, lz_2, lp_0, lp_1, lp_2, isL_n, isL_I, isL_R, g_50_28, g_50_29, List.length_cons, List.length_nil, Nat.reduceAdd, Nat.reduceLT, Nat.reduceLeDiff, true_and, and_true, true_or, or_true, Int.reduceEq, Nat.reduceEqDiff, reduceCtorEq, true_implies, false_implies, not_true_eq_false, not_false_eq_true, Nat.zero_le, Int.zero_add, Nat.zero_add, Nat.lt_add_one, eq_self, forall_const, implies_true, Bool.false_eq_true, false_or, or_false, and_self, ne_eq, me_ne, me_self, show 10 ≤ i by omega]
    exact H Y a1 a2 (fun b q1 q2 => a3 b q1 (by omega))
  | succ n ih =>
    intro Y i hi h0 a1 a2 a3 H
    rw [bq108_1]
    simp only [bq108_2, s_0, lgI_some, s_1I, s_3, s_5K, s_6, s_24, s_25, s_30, cnP_0, cnP_1, cnP_2, cnP_3, cnP_4, cnP_5, s_31, s_32, s_47, lgR_some, kd_51, kd_52, kd_53, kd_54, kd_55, kd_56, kd_57, kd_58, kd_59, kd_60, kd_61, kd_62, kd_63, kd_64, kd_65, kd_66, kd_67, kd_68, kd_69, kd_70, kd_71, kd_72, kd_73, kd_74, kd_75, kd_76, kd_77, kd_78, kd_79, kd_80, kd_81, kd_82, kd_83, kd_84, kd_85, ln_51, ln_52, ln_53, ln_54, ln_55, ln_56, ln_57, ln_58, ln_59, ln_60, ln_61, ln_62, ln_63, ln_64, ln_65, ln_66, ln_67, ln_68, ln_69, ln_70, ln_71, ln_72, ln_73, ln_74, ln_75, ln_76, ln_77, ln_78, ln_79, ln_80, ln_81, ln_82, ln_83, ln_84, ln_85, lg_0, lg_1, lg_2, lz_0, lz_1, lz_2, lp_0, lp_1, lp_2, isL_n, isL_I, isL_R, g_50_28, g_50_29, List.length_cons, List.length_nil, Nat.reduceAdd, Nat.reduceLT, Nat.reduceLeDiff, true_and, and_true, true_or, or_true, Int.reduceEq, Nat.reduceEqDiff, reduceCtorEq, true_implies, false_implies, not_true_eq_false, not_false_eq_true, Nat.zero_le, Int.zero_add, Nat.zero_add, Nat.lt_add_one, eq_self, forall_const, implies_true, Bool.false_eq_true, false_or, or_false, and_self, ne_eq, me_ne, me_self, show ¬ 10 ≤ i by omega, show w32 (i + 1) = i + 1 from w32_id (by omega) (by omega), show w32 (10 + i) = 10 + i from w32_id (by omega) (by omega)]
    refine ⟨by omega, by omega, ih _ _ (by omega) (by omega) ?_ ?_ ?_ H⟩
    · intro k q; rw [me_f _ q]; exact a1 k q
    · intro b q; rw [me_i _ (by omega)]; exact a2 b q
    · intro b q1 q2
      by_cases z : b = i
      · subst z; rw [me_self]; exact a2 _ (by omega)
      · rw [me_i _ (by omega)]; exact a3 b q1 (by omega)
theorem l_108b : ∀ (n : Nat) (Y : Me) (i : Int), i + (n : Int) = 12 → 0 ≤ i → (∀ k, k ≠ 74 → Y k = M k) → (∀ b, b < 12 → Y 74 b = M 74 b) → (∀ b, 0 ≤ b → b < i → Y 74 (12 + b) = M 74 b) →
    (∀ Y' : Me, (∀ k, k ≠ 74 → Y' k = M k) → (∀ b, b < 12 → Y' 74 b = M 74 b) → (∀ b, 0 ≤ b → b < 12 → Y' 74 (12 + b) = M 74 b) → Rn d (blk 108 5) 108 [some (vR 50), some (vI (Y' 50 0)), none] [] Y' Q) → Rn d (blk 108 3) 108 [some (vR 50), some (vI i), none] [] Y Q := by
  intro n
  induction n with
  | zero =>
    intro Y i hi h0 a1 a2 a3 H
    rw [bq108_3]
    simp only [bq108_4, s_0, lgI_some, s_1I, s_3, s_5K, s_6, s_24, s_25, s_30, cnP_0, cnP_1, cnP_2, cnP_3, cnP_4, cnP_5, s_31, s_32, s_47, lgR_some, kd_51, kd_52, kd_53, kd_54, kd_55, kd_56, kd_57, kd_58, kd_59, kd_60, kd_61, kd_62, kd_63, kd_64, kd_65, kd_66, kd_67, kd_68, kd_69, kd_70, kd_71, kd_72, kd_73, kd_74, kd_75, kd_76, kd_77, kd_78, kd_79, kd_80, kd_81, kd_82, kd_83, kd_84, kd_85, ln_51, ln_52, ln_53, ln_54, ln_55, ln_56, ln_57, ln_58, ln_59, ln_60, ln_61, ln_62, ln_63, ln_64, ln_65, ln_66, ln_67, ln_68, ln_69, ln_70, ln_71, ln_72, ln_73, ln_74, ln_75, ln_76, ln_77, ln_78, ln_79, ln_80, ln_81, ln_82, ln_83, ln_84, ln_85, lg_0, lg_1, lg_2, lz_0, lz_1, lz_2, lp_0, lp_1, lp_2, isL_n, isL_I, isL_R, g_50_0, g_50_29, List.length_cons, List.length_nil, Nat.reduceAdd, Nat.reduceLT, Nat.reduceLeDiff, true_and, and_true, true_or, or_true, Int.reduceEq, Nat.reduceEqDiff, reduceCtorEq, true_implies, false_implies, not_true_eq_false, not_false_eq_true, Nat.zero_le, Int.zero_add, Nat.zero_add, Nat.lt_add_one, eq_self, forall_const, implies_true, Bool.false_eq_true, false_or, or_false, and_self, ne_eq, me_ne, me_self, show 12 ≤ i by omega]
    exact H Y a1 a2 (fun b q1 q2 => a3 b q1 (by omega))
  | succ n ih =>
    intro Y i hi h0 a1 a2 a3 H
    rw [bq108_3]
    simp only [bq108_4, s_0, lgI_some, s_1I, s_3, s_5K, s_6, s_24, s_25, s_30, cnP_0, cnP_1, cnP_2, cnP_3, cnP_4, cnP_5, s_31, s_32, s_47, lgR_some, kd_51, kd_52, kd_53, kd_54, kd_55, kd_56, kd_57, kd_58, kd_59, kd_60, kd_61, kd_62, kd_63, kd_64, kd_65, kd_66, kd_67, kd_68, kd_69, kd_70, kd_71, kd_72, kd_73, kd_74, kd_75, kd_76, kd_77, kd_78, kd_79, kd_80, kd_81, kd_82, kd_83, kd_84, kd_85, ln_51, ln_52, ln_53, ln_54, ln_55, ln_56, ln_57, ln_58, ln_59, ln_60, ln_61, ln_62, ln_63, ln_64, ln_65, ln_66, ln_67, ln_68, ln_69, ln_70, ln_71, ln_72, ln_73, ln_74, ln_75, ln_76, ln_77, ln_78, ln_79, ln_80, ln_81, ln_82, ln_83, ln_84, ln_85, lg_0, lg_1, lg_2, lz_0, lz_1, lz_2, lp_0, lp_1, lp_2, isL_n, isL_I, isL_R, g_50_0, g_50_29, List.length_cons, List.length_nil, Nat.reduceAdd, Nat.reduceLT, Nat.reduceLeDiff, true_and, and_true, true_or, or_true, Int.reduceEq, Nat.reduceEqDiff, reduceCtorEq, true_implies, false_implies, not_true_eq_false, not_false_eq_true, Nat.zero_le, Int.zero_add, Nat.zero_add, Nat.lt_add_one, eq_self, forall_const, implies_true, Bool.false_eq_true, false_or, or_false, and_self, ne_eq, me_ne, me_self, show ¬ 12 ≤ i by omega, show w32 (i + 1) = i + 1 from w32_id (by omega) (by omega), show w32 (12 + i) = 12 + i from w32_id (by omega) (by omega)]
    refine ⟨by omega, by omega, ih _ _ (by omega) (by omega) ?_ ?_ ?_ H⟩
    · intro k q; rw [me_f _ q]; exact a1 k q
    · intro b q; rw [me_i _ (by omega)]; exact a2 b q
    · intro b q1 q2
      by_cases z : b = i
      · subst z; rw [me_self]; exact a2 _ (by omega)
      · rw [me_i _ (by omega)]; exact a3 b q1 (by omega)
theorem l_108d {X : Me} {s : HS} {h : Int} (hh : 0 ≤ h ∧ h ≤ 100) (hn : 0 ≤ X 50 1 ∧ X 50 1 ≤ 10) : ∀ (n : Nat) (Y : Me) (b : Int) (z : Option AV), b + (n : Int) = X 50 1 → 0 ≤ b → (∀ k, k ≠ 78 → Y k = X k) → (∀ c h', 0 ≤ c → c < 10 → 0 ≤ h' → h' ≤ 100 → h' ≠ h → Y 78 (101 * c + h') = X 78 (101 * c + h')) → (∀ c, 0 ≤ c → c < b → Y 78 (101 * c + h) = s.1 c) →
    (∀ (Y' : Me) (z : Option AV), (∀ k, k ≠ 78 → Y' k = X k) → (∀ c h', 0 ≤ c → c < 10 → 0 ≤ h' → h' ≤ 100 → h' ≠ h → Y' 78 (101 * c + h') = X 78 (101 * c + h')) → (∀ c, 0 ≤ c → c < X 50 1 → Y' 78 (101 * c + h) = s.1 c) → Rn d (blk 108 7) 108 [some (vR 50), some (vI h), z] [] (wq 1 Y' s) Q) → Rn d (blk 108 6) 108 [some (vR 50), some (vI h), some (vI b)] [] (wq 1 Y s) Q := by
  intro n
  induction n with
  | zero =>
    intro Y b z hi h0 a1 a2 a3 H
    rw [bq108_6]
    simp only [s_0, lgI_some, s_3, s_5K, s_6, s_8, s_24, s_25, s_30, cnP_0, cnP_1, cnP_2, cnP_3, cnP_4, cnP_5, s_31, s_32, s_47, lgR_some, s_53, res_0, res_1, nlg_n, nlg_I, nlg_R, Bool.true_and, Bool.and_self, Bool.and_true, kd_51, kd_52, kd_53, kd_54, kd_55, kd_56, kd_57, kd_58, kd_59, kd_60, kd_61, kd_62, kd_63, kd_64, kd_65, kd_66, kd_67, kd_68, kd_69, kd_70, kd_71, kd_72, kd_73, kd_74, kd_75, kd_76, kd_77, kd_78, kd_79, kd_80, kd_81, kd_82, kd_83, kd_84, kd_85, ln_51, ln_52, ln_53, ln_54, ln_55, ln_56, ln_57, ln_58, ln_59, ln_60, ln_61, ln_62, ln_63, ln_64, ln_65, ln_66, ln_67, ln_68, ln_69, ln_70, ln_71, ln_72, ln_73, ln_74, ln_75, ln_76, ln_77, ln_78, ln_79, ln_80, ln_81, ln_82, ln_83, ln_84, ln_85, lg_0, lg_1, lg_2, lz_0, lz_1, lz_2, lp_0, lp_1, lp_2, isL_n, isL_I, isL_R, g_50_1, g_50_28, g_50_33, rc_105_50, List.length_cons, List.length_nil, Nat.reduceAdd, Nat.reduceLT, Nat.reduceLeDiff, true_and, and_true, true_or, or_true, Int.reduceEq, Nat.reduceEqDiff, reduceCtorEq, true_implies, false_implies, not_true_eq_false, not_false_eq_true, Nat.zero_le, Int.zero_add, Nat.zero_add, Nat.lt_add_one, eq_self, forall_const, implies_true, Bool.false_eq_true, false_or, or_false, and_self, ne_eq, me_ne, me_self, wq_o, a1 50 (by decide), show X 50 1 ≤ b by omega]
    exact H Y _ a1 a2 (fun c q1 q2 => a3 c q1 (by omega))
  | succ n ih =>
    intro Y b z hi h0 a1 a2 a3 H
    have b1 : b < 10 := by omega
    rw [bq108_6]
    simp only [s_0, lgI_some, s_3, s_5K, s_6, s_8, s_24, s_25, s_30, cnP_0, cnP_1, cnP_2, cnP_3, cnP_4, cnP_5, s_31, s_32, s_47, lgR_some, s_53, res_0, res_1, nlg_n, nlg_I, nlg_R, Bool.true_and, Bool.and_self, Bool.and_true, kd_51, kd_52, kd_53, kd_54, kd_55, kd_56, kd_57, kd_58, kd_59, kd_60, kd_61, kd_62, kd_63, kd_64, kd_65, kd_66, kd_67, kd_68, kd_69, kd_70, kd_71, kd_72, kd_73, kd_74, kd_75, kd_76, kd_77, kd_78, kd_79, kd_80, kd_81, kd_82, kd_83, kd_84, kd_85, ln_51, ln_52, ln_53, ln_54, ln_55, ln_56, ln_57, ln_58, ln_59, ln_60, ln_61, ln_62, ln_63, ln_64, ln_65, ln_66, ln_67, ln_68, ln_69, ln_70, ln_71, ln_72, ln_73, ln_74, ln_75, ln_76, ln_77, ln_78, ln_79, ln_80, ln_81, ln_82, ln_83, ln_84, ln_85, lg_0, lg_1, lg_2, lz_0, lz_1, lz_2, lp_0, lp_1, lp_2, isL_n, isL_I, isL_R, g_50_1, g_50_28, g_50_33, rc_105_50, List.length_cons, List.length_nil, Nat.reduceAdd, Nat.reduceLT, Nat.reduceLeDiff, true_and, and_true, true_or, or_true, Int.reduceEq, Nat.reduceEqDiff, reduceCtorEq, true_implies, false_implies, not_true_eq_false, not_false_eq_true, Nat.zero_le, Int.zero_add, Nat.zero_add, Nat.lt_add_one, eq_self, forall_const, implies_true, Bool.false_eq_true, false_or, or_false, and_self, ne_eq, me_ne, me_self, wq_o, a1 50 (by decide), show ¬ X 50 1 ≤ b by omega, show w32 (b + 1) = b + 1 from w32_id (by omega) (by omega), show w32 (10 + b) = 10 + b from w32_id (by omega) (by omega), ix101 h0 (show b < 12 by omega) hh.1 hh.2, wq1_w h0 b1, wq_p]
    refine ⟨by omega, by omega, ih _ _ none (by omega) (by omega) ?_ ?_ ?_ H⟩
    · intro k q; rw [me_f _ q]; exact a1 k q
    · intro c h' q1 q2 q3 q4 q5; rw [me_i _ (by omega)]; exact a2 c h' q1 q2 q3 q4 q5
    · intro c q1 q2
      by_cases z : c = b
      · subst z; rw [me_self]
      · rw [me_i _ (by omega)]; exact a3 c q1 (by omega)
theorem l_108c {K : Me} (eK : ∀ k, k ≠ 24 → K k = M k) (hL : IvL M) (hB : IvB M) (hD : IvD M) (hC : ∀ k h, 0 ≤ k → k < 12 → 0 ≤ h → h ≤ 100 → M 65 (101 * k + h) = (if M 5 2 ≤ h ∧ h < 100 then K 24 (k * 100 + h) else 0)) (hn0 : 0 ≤ M 5 2) (hw : ∀ i, w64 (M 76 i) = M 76 i ∧ w64 (M 77 i) = M 77 i) (H : ∀ M', Fo K M M' → Q 0 M') : ∀ (n : Nat) (X : Me) (s : HS) (h : Int) (z : Option AV), h + (n : Int) = 101 → M 5 2 ≤ h → (∀ k, k ∉ [73, 74, 78] → X k = M k) → (∀ b, b < 10 → X 73 b = M 73 b) → (∀ b, b < 12 → X 74 b = M 74 b) → (h ≤ 100 → wb s (hI K (M 5 2) (st5 M) (h - M 5 2).toNat) ∧ hP (1000000 * h) s) → (∀ h' c, M 5 2 ≤ h' → h' < h → 0 ≤ c → c < M 1 8 → X 78 (101 * c + h') = fw K c h') →
    Rn (d + 4) (blk 108 5) 108 [some (vR 50), some (vI h), z] [] (wq 1 X s) Q := by
  have hb := hB.1
  intro n
  induction n with
  | zero =>
    intro X s h z hh h1 hX h73 h74 hs hT
    rw [bq108_5]
    simp only [bq108_9, s_0, lgI_some, s_1I, s_3, s_5K, s_6, s_8, s_24, s_25, s_30, cnP_0, cnP_1, cnP_2, cnP_3, cnP_4, cnP_5, s_31, s_32, s_38, s_47, lgR_some, kd_51, kd_52, kd_53, kd_54, kd_55, kd_56, kd_57, kd_58, kd_59, kd_60, kd_61, kd_62, kd_63, kd_64, kd_65, kd_66, kd_67, kd_68, kd_69, kd_70, kd_71, kd_72, kd_73, kd_74, kd_75, kd_76, kd_77, kd_78, kd_79, kd_80, kd_81, kd_82, kd_83, kd_84, kd_85, ln_51, ln_52, ln_53, ln_54, ln_55, ln_56, ln_57, ln_58, ln_59, ln_60, ln_61, ln_62, ln_63, ln_64, ln_65, ln_66, ln_67, ln_68, ln_69, ln_70, ln_71, ln_72, ln_73, ln_74, ln_75, ln_76, ln_77, ln_78, ln_79, ln_80, ln_81, ln_82, ln_83, ln_84, ln_85, lg_0, lg_1, lg_2, lz_0, lz_1, lz_2, lp_0, lp_1, lp_2, isL_n, isL_I, isL_R, g_50_1, g_50_28, g_50_33, List.length_cons, List.length_nil, Nat.reduceAdd, Nat.reduceLT, Nat.reduceLeDiff, true_and, and_true, true_or, or_true, Int.reduceEq, Nat.reduceEqDiff, reduceCtorEq, true_implies, false_implies, not_true_eq_false, not_false_eq_true, Nat.zero_le, Int.zero_add, Nat.zero_add, Nat.lt_add_one, eq_self, forall_const, implies_true, Bool.false_eq_true, false_or, or_false, and_self, ne_eq, me_ne, me_self, show 100 < h by omega]
    refine H _ ⟨?_, ?_, ?_, ?_, ?_, ?_, ?_, ?_⟩
    · intro k q
      rw [wq_f (fun e => q (by simp [e])) (fun e => q (by simp [e])) (fun e => q (by simp [e])) (fun e => q (by simp [e])) (fun e => q (by simp [e])), hX k (fun e => q (by simp at e; rcases e with e | e | e <;> simp [e]))]
    · intro b q1 q2
      rw [← h73 b q2]; unfold wq; rw [if_neg (by omega), if_neg (by omega), if_neg (by omega), if_neg (by omega), if_neg (by omega)]
    · intro b q1 q2
      rw [← h74 b q2]; unfold wq; rw [if_neg (by omega), if_neg (by omega), if_neg (by omega), if_neg (by omega), if_neg (by omega)]
    · rw [← hX 75 (by decide)]; unfold wq; rw [if_neg (by omega), if_neg (by omega), if_neg (by omega), if_neg (by omega), if_neg (by omega)]
    · rw [← hX 76 (by decide)]; unfold wq; rw [if_neg (by omega), if_neg (by omega), if_neg (by omega), if_neg (by omega), if_neg (by omega)]
    · rw [← hX 77 (by decide)]; unfold wq; rw [if_neg (by omega), if_neg (by omega), if_neg (by omega), if_neg (by omega), if_neg (by omega)]
    · intro i
      have e6 := hX 76 (by decide)
      have e7 := hX 77 (by decide)
      by_cases q : i = 1
      · subst q; rw [wq_6, wq_7]; exact ⟨w64_64 _, w64_64 _⟩
      · have x6 : wq 1 X s 76 i = M 76 i := by rw [← e6]; unfold wq; rw [if_neg (by omega), if_neg (by omega), if_neg (by omega), if_neg (by omega), if_neg (by omega)]
        have x7 : wq 1 X s 77 i = M 77 i := by rw [← e7]; unfold wq; rw [if_neg (by omega), if_neg (by omega), if_neg (by omega), if_neg (by omega), if_neg (by omega)]
        rw [x6, x7]; exact hw i
    · intro h' c a1 a2 a3 a4
      rw [wq_o (by decide) (by decide) (by decide) (by decide) (by decide)]
      exact hT h' c a1 (by omega) a3 a4
  | succ n ih =>
    intro X s h z hh h1 hX h73 h74 hs hT
    have h2 : h ≤ 100 := by omega
    obtain ⟨hs1, hs2⟩ := hs h2
    have e50 : X 50 1 = M 1 8 := by rw [hX 50 (by decide)]; exact hL.2.2.2.2.2.1
    rw [bq108_5]
    simp only [bq108_9, s_0, lgI_some, s_1I, s_3, s_5K, s_6, s_8, s_24, s_25, s_30, cnP_0, cnP_1, cnP_2, cnP_3, cnP_4, cnP_5, s_31, s_32, s_38, s_47, lgR_some, kd_51, kd_52, kd_53, kd_54, kd_55, kd_56, kd_57, kd_58, kd_59, kd_60, kd_61, kd_62, kd_63, kd_64, kd_65, kd_66, kd_67, kd_68, kd_69, kd_70, kd_71, kd_72, kd_73, kd_74, kd_75, kd_76, kd_77, kd_78, kd_79, kd_80, kd_81, kd_82, kd_83, kd_84, kd_85, ln_51, ln_52, ln_53, ln_54, ln_55, ln_56, ln_57, ln_58, ln_59, ln_60, ln_61, ln_62, ln_63, ln_64, ln_65, ln_66, ln_67, ln_68, ln_69, ln_70, ln_71, ln_72, ln_73, ln_74, ln_75, ln_76, ln_77, ln_78, ln_79, ln_80, ln_81, ln_82, ln_83, ln_84, ln_85, lg_0, lg_1, lg_2, lz_0, lz_1, lz_2, lp_0, lp_1, lp_2, isL_n, isL_I, isL_R, g_50_1, g_50_28, g_50_33, List.length_cons, List.length_nil, Nat.reduceAdd, Nat.reduceLT, Nat.reduceLeDiff, true_and, and_true, true_or, or_true, Int.reduceEq, Nat.reduceEqDiff, reduceCtorEq, true_implies, false_implies, not_true_eq_false, not_false_eq_true, Nat.zero_le, Int.zero_add, Nat.zero_add, Nat.lt_add_one, eq_self, forall_const, implies_true, Bool.false_eq_true, false_or, or_false, and_self, ne_eq, me_ne, me_self, show ¬ 100 < h by omega]
    refine l_108d (X := X) ⟨by omega, h2⟩ (by omega) (M 1 8).toNat X 0 none (by omega) (Int.le_refl 0) (fun _ _ => rfl) (fun _ _ _ _ _ _ _ => rfl) (fun c q1 q2 => by omega) ?_
    intro Y z' y1 y2 y3
    have hY : ∀ k, k ∉ [73, 74, 78] → Y k = M k := fun k q => by
      rw [y1 k (fun e => q (by simp [e])), hX k q]
    have y73 : ∀ b, b < 10 → Y 73 b = M 73 b := fun b q => by rw [y1 73 (by decide)]; exact h73 b q
    have y74 : ∀ b, b < 12 → Y 74 b = M 74 b := fun b q => by rw [y1 74 (by decide)]; exact h74 b q
    have hT2 : ∀ h' c, M 5 2 ≤ h' → h' < h + 1 → 0 ≤ c → c < M 1 8 → Y 78 (101 * c + h') = fw K c h' := by
      intro h' c a1 a2 a3 a4
      by_cases q : h' = h
      · subst q
        rw [y3 c a3 (by omega)]
        unfold fw st5
        rw [hs1.1, eK 5 (by decide), eK 36 (by decide), eK 37 (by decide)]
        rfl
      · rw [y2 c h' a3 (by omega) (by omega) (by omega) q]
        exact hT h' c a1 (by omega) a3 a4
    rw [bq108_7]
    by_cases q : h = 100
    · subst q
      simp only [bq108_8, s_0, lgI_some, s_1I, s_3, s_5K, s_30, cnP_0, cnP_1, cnP_2, cnP_3, cnP_4, cnP_5, s_31, s_32, s_47, lgR_some, s_53, res_0, res_1, nlg_n, nlg_I, nlg_R, Bool.true_and, Bool.and_self, Bool.and_true, lg_0, lg_1, lg_2, lz_0, lz_1, lz_2, lp_0, lp_1, lp_2, isL_n, isL_I, isL_R, rc_105_50, List.length_cons, List.length_nil, Nat.reduceAdd, Nat.reduceLT, Nat.reduceLeDiff, true_and, and_true, true_or, or_true, Int.reduceEq, Nat.reduceEqDiff, reduceCtorEq, true_implies, false_implies, not_true_eq_false, not_false_eq_true, Nat.zero_le, Int.zero_add, Nat.zero_add, Nat.lt_add_one, eq_self, forall_const, implies_true, Bool.false_eq_true, false_or, or_false, and_self, ne_eq, me_ne, me_self]
      refine ⟨fun _ => ?_, fun q => (q (Int.le_refl _)).elim⟩
      rw [show w32 (100 + 1) = 101 from w32_id (by omega) (by omega)]
      exact ih _ _ _ _ (by omega) (by omega) hY y73 y74 (fun z => by omega) hT2
    · simp only [bq108_8, s_0, lgI_some, s_1I, s_3, s_5K, s_30, cnP_0, cnP_1, cnP_2, cnP_3, cnP_4, cnP_5, s_31, s_32, s_47, lgR_some, s_53, res_0, res_1, nlg_n, nlg_I, nlg_R, Bool.true_and, Bool.and_self, Bool.and_true, lg_0, lg_1, lg_2, lz_0, lz_1, lz_2, lp_0, lp_1, lp_2, isL_n, isL_I, isL_R, rc_105_50, List.length_cons, List.length_nil, Nat.reduceAdd, Nat.reduceLT, Nat.reduceLeDiff, true_and, and_true, true_or, or_true, Int.reduceEq, Nat.reduceEqDiff, reduceCtorEq, true_implies, false_implies, not_true_eq_false, not_false_eq_true, Nat.zero_le, Int.zero_add, Nat.zero_add, Nat.lt_add_one, eq_self, forall_const, implies_true, Bool.false_eq_true, false_or, or_false, and_self, ne_eq, me_ne, me_self, show ¬ 100 ≤ h by omega, show w32 (h + 1) = h + 1 from w32_id (by omega) (by omega)]
      have eY : ∀ k, k ∉ [73, 74, 75, 76, 77, 78] → Y k = M k := fun k q => hY k (fun e => q (by simp at e; rcases e with e | e | e <;> simp [e]))
      have eW : cw Y = cw M := cw_of (fun k q1 q2 q3 q4 q5 => hY k (fun e => by simp at e; omega))
      refine c_105 (K := fun a => if a = 24 then K 24 else Y a) (fun k q => if_neg q) (B := 1000000 * h) (IvL_K (IvL_fr eY hL)) (cw_IB eW hB) (cw_ID eW hD) (by omega) (by omega) (by omega) ⟨by omega, by omega⟩ ?_ hs2 ?_
      · intro k q1 q2
        rw [hY 65 (by decide), hC k h q1 q2 (by omega) h2, if_pos ⟨h1, by omega⟩, if_pos rfl]
      · have eA : ag (fun a => if a = 24 then K 24 else Y a) K := by
          have f : ∀ k, k ≤ 35 → k ≠ 24 → k ≠ 5 → k ≠ 6 → k ≠ 7 → k ≠ 8 → (fun a => if a = 24 then K 24 else Y a) k = K k := fun k q1 q2 q3 q4 q5 q6 => by
            show (if k = 24 then K 24 else Y k) = K k
            rw [if_neg q2, eK k q2]
            exact hY k (fun e => by simp at e; omega)
          exact ⟨f 1 (by omega) (by omega) (by omega) (by omega) (by omega) (by omega), f 2 (by omega) (by omega) (by omega) (by omega) (by omega) (by omega), f 10 (by omega) (by omega) (by omega) (by omega) (by omega) (by omega), f 11 (by omega) (by omega) (by omega) (by omega) (by omega) (by omega), f 12 (by omega) (by omega) (by omega) (by omega) (by omega) (by omega), f 15 (by omega) (by omega) (by omega) (by omega) (by omega) (by omega), f 16 (by omega) (by omega) (by omega) (by omega) (by omega) (by omega), f 17 (by omega) (by omega) (by omega) (by omega) (by omega) (by omega), f 18 (by omega) (by omega) (by omega) (by omega) (by omega) (by omega), f 19 (by omega) (by omega) (by omega) (by omega) (by omega) (by omega), f 20 (by omega) (by omega) (by omega) (by omega) (by omega) (by omega), f 22 (by omega) (by omega) (by omega) (by omega) (by omega) (by omega), f 23 (by omega) (by omega) (by omega) (by omega) (by omega) (by omega), if_pos rfl⟩
        rw [hF_ag eA]
        refine ih _ _ _ _ (by omega) (by omega) hY y73 y74 (fun _ => ⟨?_, ?_⟩) hT2
        · rw [show (h + 1 - M 5 2).toNat = (h - M 5 2).toNat + 1 by omega]
          simp only [hI]
          rw [show M 5 2 + (((h - M 5 2).toNat : Nat) : Int) = h by omega]
          exact hF_wb hs1
        · rw [show 1000000 * (h + 1) = 1000000 * h + 1000000 by omega]
          refine hP_F ?_ ?_ (by omega) hs2
          · exact IvB_cg (eK 1 (by decide)) (eK 9 (by decide)) (eK 10 (by decide)) (eK 11 (by decide)) (eK 12 (by decide)) (eK 13 (by decide)) (eK 14 (by decide)) (eK 15 (by decide)) (eK 16 (by decide)) hB
          · exact IvD_cg (eK 1 (by decide)) (eK 2 (by decide)) (eK 17 (by decide)) (eK 18 (by decide)) (eK 19 (by decide)) (eK 20 (by decide)) (eK 21 (by decide)) (eK 22 (by decide)) hD
/-- the reference foretells -/
theorem c_108 {K : Me} (eK : ∀ k, k ≠ 24 → K k = M k) (hL : IvL M) (hB : IvB M) (hD : IvD M) (hC : ∀ k h, 0 ≤ k → k < 12 → 0 ≤ h → h ≤ 100 → M 65 (101 * k + h) = (if M 5 2 ≤ h ∧ h < 100 then K 24 (k * 100 + h) else 0)) (hF : IvF M) (H : ∀ M', Fo K M M' → Q 0 M') : Cl (d + 4) 108 [vR 50] M Q := by
  obtain ⟨f1, f2, f3, f4, f5, f6, f7, f8, f9⟩ := hF
  unfold Cl
  rw [en_108]
  simp only [bq108_0, s_0, lgI_some, s_1I, s_3, s_5K, s_6, s_24, s_25, s_30, cnP_0, cnP_1, cnP_2, cnP_3, cnP_4, cnP_5, s_31, s_32, s_47, lgR_some, kd_51, kd_52, kd_53, kd_54, kd_55, kd_56, kd_57, kd_58, kd_59, kd_60, kd_61, kd_62, kd_63, kd_64, kd_65, kd_66, kd_67, kd_68, kd_69, kd_70, kd_71, kd_72, kd_73, kd_74, kd_75, kd_76, kd_77, kd_78, kd_79, kd_80, kd_81, kd_82, kd_83, kd_84, kd_85, ln_51, ln_52, ln_53, ln_54, ln_55, ln_56, ln_57, ln_58, ln_59, ln_60, ln_61, ln_62, ln_63, ln_64, ln_65, ln_66, ln_67, ln_68, ln_69, ln_70, ln_71, ln_72, ln_73, ln_74, ln_75, ln_76, ln_77, ln_78, ln_79, ln_80, ln_81, ln_82, ln_83, ln_84, ln_85, lg_0, lg_1, lg_2, lz_0, lz_1, lz_2, lp_0, lp_1, lp_2, isL_n, isL_I, isL_R, g_50_28, List.length_cons, List.length_nil, Nat.reduceAdd, Nat.reduceLT, Nat.reduceLeDiff, true_and, and_true, true_or, or_true, Int.reduceEq, Nat.reduceEqDiff, reduceCtorEq, true_implies, false_implies, not_true_eq_false, not_false_eq_true, Nat.zero_le, Int.zero_add, Nat.zero_add, Nat.lt_add_one, eq_self, forall_const, implies_true, Bool.false_eq_true, false_or, or_false, and_self, ne_eq, me_ne, me_self]
  refine l_108a (M := M) 10 M 0 (by omega) (by omega) (fun _ _ => rfl) (fun _ _ => rfl) (fun b q1 q2 => by omega) ?_
  intro Y a1 a2 a3
  refine l_108b (M := Y) 12 Y 0 (by omega) (by omega) (fun _ _ => rfl) (fun _ _ => rfl) (fun b q1 q2 => by omega) ?_
  intro Z b1 b2 b3
  have z50 : Z 50 0 = M 5 2 := by rw [b1 50 (by decide), a1 50 (by decide)]; exact hL.2.2.2.2.1
  rw [z50]
  have hZ : ∀ k, k ∉ [73, 74, 78] → Z k = M k := fun k q => by
    rw [b1 k (fun e => q (by simp [e])), a1 k (fun e => q (by simp [e]))]
  have e : Z = wq 1 Z (M 36, M 37, Z 75 1, Z 76 1, Z 77 1) := by
    funext a b
    simp only [wq]
    by_cases q3 : a = 73
    · subst q3
      by_cases q : 10 * 1 ≤ b ∧ b < 10 * 1 + 10
      · rw [if_pos ⟨rfl, q⟩, ← f2 (b - 10 * 1) (by omega) (by omega), b1 73 (by decide), ← a3 _ (by omega) (by omega)]
        congr 1; omega
      · simp; intro _ _; omega
    · by_cases q4 : a = 74
      · subst q4
        by_cases q : 12 * 1 ≤ b ∧ b < 12 * 1 + 12
        · rw [if_neg (by omega), if_pos ⟨rfl, q⟩, ← f3 (b - 12 * 1) (by omega) (by omega)]
          have := b3 (b - 12 * 1) (by omega) (by omega)
          rw [a1 74 (by decide)] at this
          rw [← this]
          congr 1; omega
        · simp; intro _ _; omega
      · by_cases q5 : a = 75
        · subst q5; by_cases q : b = 1
          · subst q; simp
          · simp [q]
        · by_cases q6 : a = 76
          · subst q6; by_cases q : b = 1
            · subst q; simp; rw [hZ 76 (by decide)]; exact ((f7 1).1).symm
            · simp [q]
          · by_cases q7 : a = 77
            · subst q7; by_cases q : b = 1
              · subst q; simp; rw [hZ 77 (by decide)]; exact ((f7 1).2).symm
              · simp [q]
            · simp [q3, q4, q5, q6, q7]
  rw [e]
  refine l_108c eK hL hB hD hC f1.1 f7 H (101 - M 5 2).toNat Z _ _ _ (by omega) (Int.le_refl _) hZ ?_ ?_ ?_ ?_
  · intro b q; rw [b1 73 (by decide)]; exact a2 b q
  · intro b q; rw [b2 b q, a1 74 (by decide)]
  · intro _
    rw [show (M 5 2 - M 5 2).toNat = 0 by omega]
    exact ⟨⟨rfl, rfl⟩, f8⟩
  · intro h' c q1 q2; omega
end C108

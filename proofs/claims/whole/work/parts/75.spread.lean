/-! the reference spreads -/
def rgo (M : Me) (c : Int) : Int := M 79 c
def rwt (M : Me) (c h : Int) : Int := M 80 (101 * c + h)
def rst (M : Me) (r h : Int) : Int := M 81 (101 * r + h)
/-- a step beside the flow from q to p, as it is kept at p -/
def Rr (K M : Me) (p k r q : Int) : Prop :=
  (k = 1 ∧ 0 < p % 101 ∧ q = p - 1) ∨ (k = 2 ∧ p % 101 < 100 ∧ q = p + 1 ∧ 0 < M 80 p) ∨
  (k = 3 ∧ 0 ≤ r ∧ r < K 3 8 ∧ K 26 r = p / 101 ∧ K 5 2 ≤ p % 101 - K 28 r ∧ q = 101 * K 25 r + (p % 101 - K 28 r) ∧ M 81 (101 * r + (p % 101 - K 28 r)) < K 27 r) ∨
  (k = 4 ∧ 0 ≤ r ∧ r < K 3 8 ∧ K 25 r = p / 101 ∧ K 26 r ≠ -1 ∧ p % 101 + K 28 r ≤ 100 ∧ q = 101 * K 26 r + (p % 101 + K 28 r) ∧ 0 < M 81 (101 * r + p % 101))
/-- all to which one could come from p are seen -/
def Dr (K : Me) (t : Int) (M : Me) (p : Int) : Prop :=
  (pl K (p / 101) (p % 101 + 1) → p % 101 + 1 ≤ t → M 82 (p + 1) = 1) ∧ (K 5 2 < p % 101 → 0 < M 80 (p - 1) → M 82 (p - 1) = 1) ∧
  (∀ r, 0 ≤ r → r < K 3 8 → K 25 r = p / 101 → p % 101 + K 28 r ≤ t → M 81 (101 * r + p % 101) < K 27 r → K 26 r ≠ -1 ∧ (pl K (K 26 r) (p % 101 + K 28 r) → M 82 (101 * K 26 r + (p % 101 + K 28 r)) = 1)) ∧
  (∀ r, 0 ≤ r → r < K 3 8 → K 26 r = p / 101 → K 5 2 ≤ p % 101 - K 28 r → 0 < M 81 (101 * r + (p % 101 - K 28 r)) → M 82 (101 * K 25 r + (p % 101 - K 28 r)) = 1)
section SP
variable {d : Nat} {K M X X1 : Me} {t : Int} {Q : Int → Me → Prop}
def BR (K : Me) (t : Int) (M X : Me) : Prop := rW K X ∧ SR K t X ∧ X 79 = M 79 ∧ X 80 = M 80 ∧ X 81 = M 81
theorem BR_mr {P : Int → Int → Int → Prop} (b : BR K t M X) (m : Mr K t P X X1) : BR K t M X1 := by
  obtain ⟨⟨⟨l69, l70, l71, l72, l55, l51, l52⟩, ⟨n23, n0, n1⟩, tb⟩, s, e1, e2, e3⟩ := b
  refine ⟨⟨⟨?_, ?_, ?_, ?_, ?_, ?_, ?_⟩, ⟨?_, ?_, ?_⟩, ?_⟩, m.2.2.2.2.2.2.2, ?_, ?_, ?_⟩
  · rw [m.1 69 (by decide), l69]
  · rw [m.1 70 (by decide), l70]
  · rw [m.1 71 (by decide), l71]
  · rw [m.1 72 (by decide), l72]
  · rw [m.1 55 (by decide), l55]
  · rw [m.1 51 (by decide), l51]
  · rw [m.1 52 (by decide), l52]
  · rw [m.2.1 23 (by decide), n23]
  · rw [m.2.1 0 (by decide), n0]
  · rw [m.2.1 1 (by decide), n1]
  · intro c h c0 c1 h0 h1; rw [m.1 78 (by decide)]; exact tb c h c0 c1 h0 h1
  · rw [m.1 79 (by decide), e1]
  · rw [m.1 80 (by decide), e2]
  · rw [m.1 81 (by decide), e3]
theorem l_121 {p c h : Int} (W : WK K) (hv : Vs K t (rst M)) (ht : t ≤ 100) (ec : p = 101 * c + h) (c0 : 0 ≤ c) (c1 : c < 10) (h0 : K 5 2 ≤ h) (h1 : h ≤ t) (hl : M 50 42 = -1)
    (H1 : ∀ X r, Mr K t (fun q k r => Rr K M q k r p) M X → 0 ≤ r → r < K 3 8 → K 25 r = c → K 26 r = -1 → h + K 28 r ≤ t → M 81 (101 * r + h) < K 27 r → Q 0 (me_put (me_put X 50 42 p) 50 43 r))
    (H2 : ∀ X, Mr K t (fun q k r => Rr K M q k r p) M X → (∀ r, 0 ≤ r → r < K 3 8 → (K 25 r = c → h + K 28 r ≤ t → M 81 (101 * r + h) < K 27 r → K 26 r ≠ -1 ∧ (pl K (K 26 r) (h + K 28 r) → X 82 (101 * K 26 r + (h + K 28 r)) = 1)) ∧ (K 26 r = c → K 5 2 ≤ h - K 28 r → 0 < M 81 (101 * r + (h - K 28 r)) → X 82 (101 * K 25 r + (h - K 28 r)) = 1)) → (∀ q, 0 ≤ q → q < 1010 → X1 82 q = 1 → X 82 q = 1) → Q 0 X) :
    ∀ (n : Nat) (X : Me) (i : Int) (x y : Option AV), 0 ≤ i → i + (n : Int) = K 3 8 → BR K t M X → Mr K t (fun q k r => Rr K M q k r p) M X → SR K t M → (∀ q, 0 ≤ q → q < 1010 → X1 82 q = 1 → X 82 q = 1) → (∀ r, 0 ≤ r → r < i → (K 25 r = c → h + K 28 r ≤ t → M 81 (101 * r + h) < K 27 r → K 26 r ≠ -1 ∧ (pl K (K 26 r) (h + K 28 r) → X 82 (101 * K 26 r + (h + K 28 r)) = 1)) ∧ (K 26 r = c → K 5 2 ≤ h - K 28 r → 0 < M 81 (101 * r + (h - K 28 r)) → X 82 (101 * K 25 r + (h - K 28 r)) = 1)) →
    Rn (d + 2) (blk 121 3) 121 [some (vR 50), some (vI c), some (vI h), some (vI t), some (vI i), x, y] [] X Q := by
  have hn := W.2.2
  have wr := W.2.1.1
  have hb := W.1.1
  intro n
  induction n with
  | zero =>
    intro X i x y i0 i1 B m S hX hr
    rw [bq121_3]
    simp only [bq121_7, s_0, lgI_some, s_1I, s_3, s_6, s_8, s_24, s_30, cnP_0, cnP_1, cnP_2, cnP_3, cnP_4, cnP_5, s_38, s_47, lgR_some, kd_51, kd_52, kd_53, kd_54, kd_55, kd_56, kd_57, kd_58, kd_59, kd_60, kd_61, kd_62, kd_63, kd_64, kd_65, kd_66, kd_67, kd_68, kd_69, kd_70, kd_71, kd_72, kd_73, kd_74, kd_75, kd_76, kd_77, kd_78, kd_79, kd_80, kd_81, kd_82, kd_83, kd_84, kd_85, ln_51, ln_52, ln_53, ln_54, ln_55, ln_56, ln_57, ln_58, ln_59, ln_60, ln_61, ln_62, ln_63, ln_64, ln_65, ln_66, ln_67, ln_68, ln_69, ln_70, ln_71, ln_72, ln_73, ln_74, ln_75, ln_76, ln_77, ln_78, ln_79, ln_80, ln_81, ln_82, ln_83, ln_84, ln_85, lg_0, lg_1, lg_2, lg_3, lg_4, lg_5, lg_6, lz_0, lz_1, lz_2, lz_3, lz_4, lz_5, lz_6, lp_0, lp_1, lp_2, lp_3, lp_4, lp_5, lp_6, isL_n, isL_I, isL_R, g_50_23, g_50_24, g_50_25, g_50_26, g_50_27, g_50_36, p_50_42, p_50_43, List.length_cons, List.length_nil, Nat.reduceAdd, Nat.reduceLT, Nat.reduceLeDiff, true_and, and_true, true_or, or_true, Int.reduceEq, Nat.reduceEqDiff, reduceCtorEq, true_implies, false_implies, not_true_eq_false, not_false_eq_true, Nat.zero_le, Int.zero_add, Nat.zero_add, Nat.lt_add_one, eq_self, forall_const, implies_true, Bool.false_eq_true, false_or, or_false, and_self, ne_eq, me_ne, me_self, B.1.2.1.1, show K 3 8 ≤ i by omega]
    exact H2 X m (fun r r0 r1 => hr r r0 (by omega)) hX
  | succ n ih =>
    intro X i x y i0 i1 B m S hX hr
    obtain ⟨r12, rf, rt, rb, rl', rn⟩ := WK_r W i0 (show i < K 3 8 by omega)
    obtain ⟨⟨l69, l70, l71, l72, l55, l51, l52⟩, ⟨n23, n0, n1⟩, tb⟩ := B.1
    have e81 : X 81 = M 81 := B.2.2.2.2
    have el : w32 (h + K 28 i) = h + K 28 i := w32_id (by omega) (by omega)
    have el2 : w32 (h - K 28 i) = h - K 28 i := w32_id (by omega) (by omega)
    have e101 := ix101 i0 r12 (show 0 ≤ h by omega) (show h ≤ 100 by omega)
    -- the second half of a road's turn
    have half : ∀ (Y : Me) (x : Option AV), BR K t M Y → Mr K t (fun q k r => Rr K M q k r p) X Y → (K 25 i = c → h + K 28 i ≤ t → M 81 (101 * i + h) < K 27 i → K 26 i ≠ -1 ∧ (pl K (K 26 i) (h + K 28 i) → Y 82 (101 * K 26 i + (h + K 28 i)) = 1)) → Rn (d + 2) (blk 121 5) 121 [some (vR 50), some (vI c), some (vI h), some (vI t), some (vI i), some (vI (h + K 28 i)), x] [] Y Q := by
      intro Y x BY mY a1
      obtain ⟨⟨k69, k70, k71, k72, k55, k51, k52⟩, ⟨m23, m0, m1⟩, tb'⟩ := BY.1
      have f81 : Y 81 = M 81 := BY.2.2.2.2
      have nxt : ∀ (Z : Me) (y : Option AV), BR K t M Z → Mr K t (fun q k r => Rr K M q k r p) Y Z → (K 26 i = c → K 5 2 ≤ h - K 28 i → 0 < M 81 (101 * i + (h - K 28 i)) → Z 82 (101 * K 25 i + (h - K 28 i)) = 1) → Rn (d + 2) (blk 121 3) 121 [some (vR 50), some (vI c), some (vI h), some (vI t), some (vI (i + 1)), some (vI (h + K 28 i)), y] [] Z Q := by
        intro Z y BZ mZ a2
        have mXZ := Mr_tr mY mZ B.2.1
        refine ih Z (i + 1) _ _ (by omega) (by omega) BZ (Mr_tr m mXZ S) S (fun q q0 q1 hq => Mr_mk mXZ q0 q1 (hX q q0 q1 hq)) (fun r r0 r1 => ?_)
        by_cases z : r = i
        · subst z
          refine ⟨fun b1 b2 b3 => ⟨(a1 b1 b2 b3).1, fun b4 => Mr_mk mZ (by have := b4.1; have := b4.2.1; omega) (by have := b4.1; have := b4.2.1; omega) ((a1 b1 b2 b3).2 b4)⟩, a2⟩
        · obtain ⟨s12, sf, st, sb, sl', sn⟩ := WK_r W r0 (show r < K 3 8 by omega)
          have o := hr r r0 (by omega)
          exact ⟨fun b1 b2 b3 => ⟨(o.1 b1 b2 b3).1, fun b4 => Mr_mk mXZ (by have := b4.1; have := b4.2.1; omega) (by have := b4.1; have := b4.2.1; omega) ((o.1 b1 b2 b3).2 b4)⟩, fun b1 b2 b3 => Mr_mk mXZ (by omega) (by omega) (o.2 b1 b2 b3)⟩
      rw [bq121_5]
      by_cases q1 : K 26 i = c
      · by_cases q2 : h - K 28 i < K 5 2
        · simp only [bq121_6, s_0, lgI_some, s_1I, s_3, s_5K, s_6, s_7, s_8, s_24, s_29, cnP_0, cnP_1, cnP_2, cnP_3, cnP_4, cnP_5, s_30, s_31, s_32, s_38, s_47, lgR_some, s_55, res_0, res_1, nlg_n, nlg_I, nlg_R, Bool.true_and, Bool.and_self, Bool.and_true, kd_51, kd_52, kd_53, kd_54, kd_55, kd_56, kd_57, kd_58, kd_59, kd_60, kd_61, kd_62, kd_63, kd_64, kd_65, kd_66, kd_67, kd_68, kd_69, kd_70, kd_71, kd_72, kd_73, kd_74, kd_75, kd_76, kd_77, kd_78, kd_79, kd_80, kd_81, kd_82, kd_83, kd_84, kd_85, ln_51, ln_52, ln_53, ln_54, ln_55, ln_56, ln_57, ln_58, ln_59, ln_60, ln_61, ln_62, ln_63, ln_64, ln_65, ln_66, ln_67, ln_68, ln_69, ln_70, ln_71, ln_72, ln_73, ln_74, ln_75, ln_76, ln_77, ln_78, ln_79, ln_80, ln_81, ln_82, ln_83, ln_84, ln_85, lg_0, lg_1, lg_2, lg_3, lg_4, lg_5, lg_6, lz_0, lz_1, lz_2, lz_3, lz_4, lz_5, lz_6, lp_0, lp_1, lp_2, lp_3, lp_4, lp_5, lp_6, isL_n, isL_I, isL_R, g_50_0, g_50_23, g_50_24, g_50_25, g_50_26, g_50_27, g_50_36, p_50_42, p_50_43, rc_119_50, List.length_cons, List.length_nil, Nat.reduceAdd, Nat.reduceLT, Nat.reduceLeDiff, true_and, and_true, true_or, or_true, Int.reduceEq, Nat.reduceEqDiff, reduceCtorEq, true_implies, false_implies, not_true_eq_false, not_false_eq_true, Nat.zero_le, Int.zero_add, Nat.zero_add, Nat.lt_add_one, eq_self, forall_const, implies_true, Bool.false_eq_true, false_or, or_false, and_self, ne_eq, me_ne, me_self, k70, k72, m0, el2, q1, q2, i0, r12, show w32 (i + 1) = i + 1 from w32_id (by omega) (by omega)]
          exact nxt Y _ BY (Mr_rf BY.2.1) (fun _ b => by omega)
        · have e102 := ix101 i0 r12 (show 0 ≤ h - K 28 i by omega) (show h - K 28 i ≤ 100 by omega)
          simp only [bq121_6, s_0, lgI_some, s_1I, s_3, s_5K, s_6, s_7, s_8, s_24, s_29, cnP_0, cnP_1, cnP_2, cnP_3, cnP_4, cnP_5, s_30, s_31, s_32, s_38, s_47, lgR_some, s_55, res_0, res_1, nlg_n, nlg_I, nlg_R, Bool.true_and, Bool.and_self, Bool.and_true, kd_51, kd_52, kd_53, kd_54, kd_55, kd_56, kd_57, kd_58, kd_59, kd_60, kd_61, kd_62, kd_63, kd_64, kd_65, kd_66, kd_67, kd_68, kd_69, kd_70, kd_71, kd_72, kd_73, kd_74, kd_75, kd_76, kd_77, kd_78, kd_79, kd_80, kd_81, kd_82, kd_83, kd_84, kd_85, ln_51, ln_52, ln_53, ln_54, ln_55, ln_56, ln_57, ln_58, ln_59, ln_60, ln_61, ln_62, ln_63, ln_64, ln_65, ln_66, ln_67, ln_68, ln_69, ln_70, ln_71, ln_72, ln_73, ln_74, ln_75, ln_76, ln_77, ln_78, ln_79, ln_80, ln_81, ln_82, ln_83, ln_84, ln_85, lg_0, lg_1, lg_2, lg_3, lg_4, lg_5, lg_6, lz_0, lz_1, lz_2, lz_3, lz_4, lz_5, lz_6, lp_0, lp_1, lp_2, lp_3, lp_4, lp_5, lp_6, isL_n, isL_I, isL_R, g_50_0, g_50_23, g_50_24, g_50_25, g_50_26, g_50_27, g_50_36, p_50_42, p_50_43, rc_119_50, List.length_cons, List.length_nil, Nat.reduceAdd, Nat.reduceLT, Nat.reduceLeDiff, true_and, and_true, true_or, or_true, Int.reduceEq, Nat.reduceEqDiff, reduceCtorEq, true_implies, false_implies, not_true_eq_false, not_false_eq_true, Nat.zero_le, Int.zero_add, Nat.zero_add, Nat.lt_add_one, eq_self, forall_const, implies_true, Bool.false_eq_true, false_or, or_false, and_self, ne_eq, me_ne, me_self, k69, k70, k72, m0, el2, q1, q2, f81, e102, i0, r12, show w32 (i + 1) = i + 1 from w32_id (by omega) (by omega)]
          refine ⟨⟨by omega, by omega⟩, fun q3 => nxt Y _ BY (Mr_rf BY.2.1) (fun _ _ b => by omega), fun q3 => ?_⟩
          have v := hv i (h - K 28 i) i0 r12 (by omega) (by omega)
          unfold rst at v
          have v2 := (v.2 (by omega)).2.2
          refine c_119 (P := fun q k r => Rr K M q k r p) BY.2.1 rf.1 rf.2.1 (by omega) (by omega) v2.1 (by omega) ?_ (fun Z mZ z1 => nxt Z _ (BR_mr BY mZ) mZ (fun _ _ _ => z1))
          refine Or.inr (Or.inr (Or.inr ⟨rfl, i0, by omega, ?_, by omega, ?_, ?_, ?_⟩))
          · omega
          · omega
          · omega
          · rw [show (101 * K 25 i + (h - K 28 i)) % 101 = h - K 28 i by omega]; omega
      · simp only [bq121_6, s_0, lgI_some, s_1I, s_3, s_5K, s_6, s_7, s_8, s_24, s_29, cnP_0, cnP_1, cnP_2, cnP_3, cnP_4, cnP_5, s_30, s_31, s_32, s_38, s_47, lgR_some, s_55, res_0, res_1, nlg_n, nlg_I, nlg_R, Bool.true_and, Bool.and_self, Bool.and_true, kd_51, kd_52, kd_53, kd_54, kd_55, kd_56, kd_57, kd_58, kd_59, kd_60, kd_61, kd_62, kd_63, kd_64, kd_65, kd_66, kd_67, kd_68, kd_69, kd_70, kd_71, kd_72, kd_73, kd_74, kd_75, kd_76, kd_77, kd_78, kd_79, kd_80, kd_81, kd_82, kd_83, kd_84, kd_85, ln_51, ln_52, ln_53, ln_54, ln_55, ln_56, ln_57, ln_58, ln_59, ln_60, ln_61, ln_62, ln_63, ln_64, ln_65, ln_66, ln_67, ln_68, ln_69, ln_70, ln_71, ln_72, ln_73, ln_74, ln_75, ln_76, ln_77, ln_78, ln_79, ln_80, ln_81, ln_82, ln_83, ln_84, ln_85, lg_0, lg_1, lg_2, lg_3, lg_4, lg_5, lg_6, lz_0, lz_1, lz_2, lz_3, lz_4, lz_5, lz_6, lp_0, lp_1, lp_2, lp_3, lp_4, lp_5, lp_6, isL_n, isL_I, isL_R, g_50_0, g_50_23, g_50_24, g_50_25, g_50_26, g_50_27, g_50_36, p_50_42, p_50_43, rc_119_50, List.length_cons, List.length_nil, Nat.reduceAdd, Nat.reduceLT, Nat.reduceLeDiff, true_and, and_true, true_or, or_true, Int.reduceEq, Nat.reduceEqDiff, reduceCtorEq, true_implies, false_implies, not_true_eq_false, not_false_eq_true, Nat.zero_le, Int.zero_add, Nat.zero_add, Nat.lt_add_one, eq_self, forall_const, implies_true, Bool.false_eq_true, false_or, or_false, and_self, ne_eq, me_ne, me_self, k70, k72, el2, q1, i0, r12, show w32 (i + 1) = i + 1 from w32_id (by omega) (by omega)]
        exact nxt Y _ BY (Mr_rf BY.2.1) (fun b => (q1 b).elim)
    rw [bq121_3]
    by_cases q1 : K 25 i = c
    · by_cases q2 : t < h + K 28 i
      · simp only [s_0, lgI_some, s_1I, s_3, s_6, s_7, s_8, s_24, s_29, cnP_0, cnP_1, cnP_2, cnP_3, cnP_4, cnP_5, s_30, s_32, s_38, s_47, lgR_some, s_54, s_55, res_0, res_1, nlg_n, nlg_I, nlg_R, Bool.true_and, Bool.and_self, Bool.and_true, kd_51, kd_52, kd_53, kd_54, kd_55, kd_56, kd_57, kd_58, kd_59, kd_60, kd_61, kd_62, kd_63, kd_64, kd_65, kd_66, kd_67, kd_68, kd_69, kd_70, kd_71, kd_72, kd_73, kd_74, kd_75, kd_76, kd_77, kd_78, kd_79, kd_80, kd_81, kd_82, kd_83, kd_84, kd_85, ln_51, ln_52, ln_53, ln_54, ln_55, ln_56, ln_57, ln_58, ln_59, ln_60, ln_61, ln_62, ln_63, ln_64, ln_65, ln_66, ln_67, ln_68, ln_69, ln_70, ln_71, ln_72, ln_73, ln_74, ln_75, ln_76, ln_77, ln_78, ln_79, ln_80, ln_81, ln_82, ln_83, ln_84, ln_85, lg_0, lg_1, lg_2, lg_3, lg_4, lg_5, lg_6, lz_0, lz_1, lz_2, lz_3, lz_4, lz_5, lz_6, lp_0, lp_1, lp_2, lp_3, lp_4, lp_5, lp_6, isL_n, isL_I, isL_R, g_50_0, g_50_23, g_50_24, g_50_25, g_50_26, g_50_27, g_50_36, p_50_42, p_50_43, rc_118_50, rc_119_50, List.length_cons, List.length_nil, Nat.reduceAdd, Nat.reduceLT, Nat.reduceLeDiff, true_and, and_true, true_or, or_true, Int.reduceEq, Nat.reduceEqDiff, reduceCtorEq, true_implies, false_implies, not_true_eq_false, not_false_eq_true, Nat.zero_le, Int.zero_add, Nat.zero_add, Nat.lt_add_one, eq_self, forall_const, implies_true, Bool.false_eq_true, false_or, or_false, and_self, ne_eq, me_ne, me_self, n23, l72, l69, el, q1, q2, i0, r12, show ¬ K 3 8 ≤ i by omega]
        exact half X _ B (Mr_rf B.2.1) (fun _ b => by omega)
      · by_cases q3 : K 27 i ≤ M 81 (101 * i + h)
        · simp only [s_0, lgI_some, s_1I, s_3, s_6, s_7, s_8, s_24, s_29, cnP_0, cnP_1, cnP_2, cnP_3, cnP_4, cnP_5, s_30, s_32, s_38, s_47, lgR_some, s_54, s_55, res_0, res_1, nlg_n, nlg_I, nlg_R, Bool.true_and, Bool.and_self, Bool.and_true, kd_51, kd_52, kd_53, kd_54, kd_55, kd_56, kd_57, kd_58, kd_59, kd_60, kd_61, kd_62, kd_63, kd_64, kd_65, kd_66, kd_67, kd_68, kd_69, kd_70, kd_71, kd_72, kd_73, kd_74, kd_75, kd_76, kd_77, kd_78, kd_79, kd_80, kd_81, kd_82, kd_83, kd_84, kd_85, ln_51, ln_52, ln_53, ln_54, ln_55, ln_56, ln_57, ln_58, ln_59, ln_60, ln_61, ln_62, ln_63, ln_64, ln_65, ln_66, ln_67, ln_68, ln_69, ln_70, ln_71, ln_72, ln_73, ln_74, ln_75, ln_76, ln_77, ln_78, ln_79, ln_80, ln_81, ln_82, ln_83, ln_84, ln_85, lg_0, lg_1, lg_2, lg_3, lg_4, lg_5, lg_6, lz_0, lz_1, lz_2, lz_3, lz_4, lz_5, lz_6, lp_0, lp_1, lp_2, lp_3, lp_4, lp_5, lp_6, isL_n, isL_I, isL_R, g_50_0, g_50_23, g_50_24, g_50_25, g_50_26, g_50_27, g_50_36, p_50_42, p_50_43, rc_118_50, rc_119_50, List.length_cons, List.length_nil, Nat.reduceAdd, Nat.reduceLT, Nat.reduceLeDiff, true_and, and_true, true_or, or_true, Int.reduceEq, Nat.reduceEqDiff, reduceCtorEq, true_implies, false_implies, not_true_eq_false, not_false_eq_true, Nat.zero_le, Int.zero_add, Nat.zero_add, Nat.lt_add_one, eq_self, forall_const, implies_true, Bool.false_eq_true, false_or, or_false, and_self, ne_eq, me_ne, me_self, n23, l72, l69, l71, el, q1, q2, e81, e101, q3, i0, r12, show ¬ K 3 8 ≤ i by omega]
          exact ⟨⟨by omega, by omega⟩, half X _ B (Mr_rf B.2.1) (fun _ _ b => by omega)⟩
        · by_cases q4 : K 26 i = -1
          · simp only [s_0, lgI_some, s_1I, s_3, s_6, s_7, s_8, s_24, s_29, cnP_0, cnP_1, cnP_2, cnP_3, cnP_4, cnP_5, s_30, s_32, s_38, s_47, lgR_some, s_54, s_55, res_0, res_1, nlg_n, nlg_I, nlg_R, Bool.true_and, Bool.and_self, Bool.and_true, kd_51, kd_52, kd_53, kd_54, kd_55, kd_56, kd_57, kd_58, kd_59, kd_60, kd_61, kd_62, kd_63, kd_64, kd_65, kd_66, kd_67, kd_68, kd_69, kd_70, kd_71, kd_72, kd_73, kd_74, kd_75, kd_76, kd_77, kd_78, kd_79, kd_80, kd_81, kd_82, kd_83, kd_84, kd_85, ln_51, ln_52, ln_53, ln_54, ln_55, ln_56, ln_57, ln_58, ln_59, ln_60, ln_61, ln_62, ln_63, ln_64, ln_65, ln_66, ln_67, ln_68, ln_69, ln_70, ln_71, ln_72, ln_73, ln_74, ln_75, ln_76, ln_77, ln_78, ln_79, ln_80, ln_81, ln_82, ln_83, ln_84, ln_85, lg_0, lg_1, lg_2, lg_3, lg_4, lg_5, lg_6, lz_0, lz_1, lz_2, lz_3, lz_4, lz_5, lz_6, lp_0, lp_1, lp_2, lp_3, lp_4, lp_5, lp_6, isL_n, isL_I, isL_R, g_50_0, g_50_23, g_50_24, g_50_25, g_50_26, g_50_27, g_50_36, p_50_42, p_50_43, rc_118_50, rc_119_50, List.length_cons, List.length_nil, Nat.reduceAdd, Nat.reduceLT, Nat.reduceLeDiff, true_and, and_true, true_or, or_true, Int.reduceEq, Nat.reduceEqDiff, reduceCtorEq, true_implies, false_implies, not_true_eq_false, not_false_eq_true, Nat.zero_le, Int.zero_add, Nat.zero_add, Nat.lt_add_one, eq_self, forall_const, implies_true, Bool.false_eq_true, false_or, or_false, and_self, ne_eq, me_ne, me_self, n23, l72, l69, l70, l71, el, q1, q2, e81, e101, q3, q4, i0, r12, ix101 c0 (show c < 12 by omega) (show 0 ≤ h by omega) (show h ≤ 100 by omega), show ¬ K 3 8 ≤ i by omega]
            refine ⟨⟨by omega, by omega⟩, ?_⟩
            rw [← ec]
            exact H1 X i m i0 (by omega) q1 q4 (by omega) (by omega)
          · have rt' := rt.resolve_left q4
            simp only [s_0, lgI_some, s_1I, s_3, s_6, s_7, s_8, s_24, s_29, cnP_0, cnP_1, cnP_2, cnP_3, cnP_4, cnP_5, s_30, s_32, s_38, s_47, lgR_some, s_54, s_55, res_0, res_1, nlg_n, nlg_I, nlg_R, Bool.true_and, Bool.and_self, Bool.and_true, kd_51, kd_52, kd_53, kd_54, kd_55, kd_56, kd_57, kd_58, kd_59, kd_60, kd_61, kd_62, kd_63, kd_64, kd_65, kd_66, kd_67, kd_68, kd_69, kd_70, kd_71, kd_72, kd_73, kd_74, kd_75, kd_76, kd_77, kd_78, kd_79, kd_80, kd_81, kd_82, kd_83, kd_84, kd_85, ln_51, ln_52, ln_53, ln_54, ln_55, ln_56, ln_57, ln_58, ln_59, ln_60, ln_61, ln_62, ln_63, ln_64, ln_65, ln_66, ln_67, ln_68, ln_69, ln_70, ln_71, ln_72, ln_73, ln_74, ln_75, ln_76, ln_77, ln_78, ln_79, ln_80, ln_81, ln_82, ln_83, ln_84, ln_85, lg_0, lg_1, lg_2, lg_3, lg_4, lg_5, lg_6, lz_0, lz_1, lz_2, lz_3, lz_4, lz_5, lz_6, lp_0, lp_1, lp_2, lp_3, lp_4, lp_5, lp_6, isL_n, isL_I, isL_R, g_50_0, g_50_23, g_50_24, g_50_25, g_50_26, g_50_27, g_50_36, p_50_42, p_50_43, rc_118_50, rc_119_50, List.length_cons, List.length_nil, Nat.reduceAdd, Nat.reduceLT, Nat.reduceLeDiff, true_and, and_true, true_or, or_true, Int.reduceEq, Nat.reduceEqDiff, reduceCtorEq, true_implies, false_implies, not_true_eq_false, not_false_eq_true, Nat.zero_le, Int.zero_add, Nat.zero_add, Nat.lt_add_one, eq_self, forall_const, implies_true, Bool.false_eq_true, false_or, or_false, and_self, ne_eq, me_ne, me_self, n23, l72, l69, l70, l71, el, q1, q2, e81, e101, q3, q4, i0, r12, show ¬ K 3 8 ≤ i by omega]
            refine ⟨⟨by omega, by omega⟩, ?_⟩
            rw [bq121_4]
            simp only [s_0, lgI_some, s_1I, s_3, s_6, s_7, s_8, s_24, s_29, cnP_0, cnP_1, cnP_2, cnP_3, cnP_4, cnP_5, s_30, s_32, s_47, lgR_some, s_54, s_55, res_0, res_1, nlg_n, nlg_I, nlg_R, Bool.true_and, Bool.and_self, Bool.and_true, kd_51, kd_52, kd_53, kd_54, kd_55, kd_56, kd_57, kd_58, kd_59, kd_60, kd_61, kd_62, kd_63, kd_64, kd_65, kd_66, kd_67, kd_68, kd_69, kd_70, kd_71, kd_72, kd_73, kd_74, kd_75, kd_76, kd_77, kd_78, kd_79, kd_80, kd_81, kd_82, kd_83, kd_84, kd_85, ln_51, ln_52, ln_53, ln_54, ln_55, ln_56, ln_57, ln_58, ln_59, ln_60, ln_61, ln_62, ln_63, ln_64, ln_65, ln_66, ln_67, ln_68, ln_69, ln_70, ln_71, ln_72, ln_73, ln_74, ln_75, ln_76, ln_77, ln_78, ln_79, ln_80, ln_81, ln_82, ln_83, ln_84, ln_85, lg_0, lg_1, lg_2, lg_3, lg_4, lg_5, lg_6, lz_0, lz_1, lz_2, lz_3, lz_4, lz_5, lz_6, lp_0, lp_1, lp_2, lp_3, lp_4, lp_5, lp_6, isL_n, isL_I, isL_R, g_50_0, g_50_24, g_50_25, g_50_27, g_50_36, rc_118_50, rc_119_50, List.length_cons, List.length_nil, Nat.reduceAdd, Nat.reduceLT, Nat.reduceLeDiff, true_and, and_true, true_or, or_true, Int.reduceEq, Nat.reduceEqDiff, reduceCtorEq, true_implies, false_implies, not_true_eq_false, not_false_eq_true, Nat.zero_le, Int.zero_add, Nat.zero_add, Nat.lt_add_one, eq_self, forall_const, implies_true, Bool.false_eq_true, false_or, or_false, and_self, ne_eq, me_ne, me_self, l70, i0, r12]
            rw [q_118 W B.1 rt'.1 rt'.2.2.1 ht]
            simp only [s_0, lgI_some, s_1I, s_3, s_6, s_7, s_8, s_24, s_29, cnP_0, cnP_1, cnP_2, cnP_3, cnP_4, cnP_5, s_30, s_32, s_47, lgR_some, s_54, s_55, res_0, res_1, nlg_n, nlg_I, nlg_R, Bool.true_and, Bool.and_self, Bool.and_true, kd_51, kd_52, kd_53, kd_54, kd_55, kd_56, kd_57, kd_58, kd_59, kd_60, kd_61, kd_62, kd_63, kd_64, kd_65, kd_66, kd_67, kd_68, kd_69, kd_70, kd_71, kd_72, kd_73, kd_74, kd_75, kd_76, kd_77, kd_78, kd_79, kd_80, kd_81, kd_82, kd_83, kd_84, kd_85, ln_51, ln_52, ln_53, ln_54, ln_55, ln_56, ln_57, ln_58, ln_59, ln_60, ln_61, ln_62, ln_63, ln_64, ln_65, ln_66, ln_67, ln_68, ln_69, ln_70, ln_71, ln_72, ln_73, ln_74, ln_75, ln_76, ln_77, ln_78, ln_79, ln_80, ln_81, ln_82, ln_83, ln_84, ln_85, lg_0, lg_1, lg_2, lg_3, lg_4, lg_5, lg_6, lz_0, lz_1, lz_2, lz_3, lz_4, lz_5, lz_6, lp_0, lp_1, lp_2, lp_3, lp_4, lp_5, lp_6, isL_n, isL_I, isL_R, g_50_0, g_50_24, g_50_25, g_50_27, g_50_36, rc_118_50, rc_119_50, List.length_cons, List.length_nil, Nat.reduceAdd, Nat.reduceLT, Nat.reduceLeDiff, true_and, and_true, true_or, or_true, Int.reduceEq, Nat.reduceEqDiff, reduceCtorEq, true_implies, false_implies, not_true_eq_false, not_false_eq_true, Nat.zero_le, Int.zero_add, Nat.zero_add, Nat.lt_add_one, eq_self, forall_const, implies_true, Bool.false_eq_true, false_or, or_false, and_self, ne_eq, me_ne, me_self, b01_z, Classical.not_not, l70]
            refine ⟨fun q5 => half X _ B (Mr_rf B.2.1) (fun _ _ _ => ⟨q4, fun b => (q5 ⟨b, by omega⟩).elim⟩), fun q5 => ?_⟩
            refine c_119 (P := fun q k r => Rr K M q k r p) B.2.1 rt'.1 rt'.2.1 (by omega) (by omega) q5.1 q5.2 ?_ (fun Z mZ z1 => half Z _ (BR_mr B mZ) mZ (fun _ _ _ => ⟨q4, fun _ => z1⟩))
            refine Or.inr (Or.inr (Or.inl ⟨rfl, i0, by omega, by omega, by omega, ?_, ?_⟩))
            · rw [show (101 * K 26 i + (h + K 28 i)) % 101 - K 28 i = h by omega, q1]; exact ec
            · rw [show (101 * K 26 i + (h + K 28 i)) % 101 - K 28 i = h by omega]; omega
    · simp only [s_0, lgI_some, s_1I, s_3, s_6, s_7, s_8, s_24, s_29, cnP_0, cnP_1, cnP_2, cnP_3, cnP_4, cnP_5, s_30, s_32, s_38, s_47, lgR_some, s_54, s_55, res_0, res_1, nlg_n, nlg_I, nlg_R, Bool.true_and, Bool.and_self, Bool.and_true, kd_51, kd_52, kd_53, kd_54, kd_55, kd_56, kd_57, kd_58, kd_59, kd_60, kd_61, kd_62, kd_63, kd_64, kd_65, kd_66, kd_67, kd_68, kd_69, kd_70, kd_71, kd_72, kd_73, kd_74, kd_75, kd_76, kd_77, kd_78, kd_79, kd_80, kd_81, kd_82, kd_83, kd_84, kd_85, ln_51, ln_52, ln_53, ln_54, ln_55, ln_56, ln_57, ln_58, ln_59, ln_60, ln_61, ln_62, ln_63, ln_64, ln_65, ln_66, ln_67, ln_68, ln_69, ln_70, ln_71, ln_72, ln_73, ln_74, ln_75, ln_76, ln_77, ln_78, ln_79, ln_80, ln_81, ln_82, ln_83, ln_84, ln_85, lg_0, lg_1, lg_2, lg_3, lg_4, lg_5, lg_6, lz_0, lz_1, lz_2, lz_3, lz_4, lz_5, lz_6, lp_0, lp_1, lp_2, lp_3, lp_4, lp_5, lp_6, isL_n, isL_I, isL_R, g_50_0, g_50_23, g_50_24, g_50_25, g_50_26, g_50_27, g_50_36, p_50_42, p_50_43, rc_118_50, rc_119_50, List.length_cons, List.length_nil, Nat.reduceAdd, Nat.reduceLT, Nat.reduceLeDiff, true_and, and_true, true_or, or_true, Int.reduceEq, Nat.reduceEqDiff, reduceCtorEq, true_implies, false_implies, not_true_eq_false, not_false_eq_true, Nat.zero_le, Int.zero_add, Nat.zero_add, Nat.lt_add_one, eq_self, forall_const, implies_true, Bool.false_eq_true, false_or, or_false, and_self, ne_eq, me_ne, me_self, n23, l72, l69, el, q1, i0, r12, show ¬ K 3 8 ≤ i by omega]
      exact half X _ B (Mr_rf B.2.1) (fun b => (q1 b).elim)
/-- the reference spreads from a place -/
theorem c_121 {p : Int} (W : WK K) (B : BR K t M M) (hw : Vw K t (rwt M)) (hv : Vs K t (rst M)) (ht : t ≤ 100) (p0 : 0 ≤ p) (p1 : p < 1010) (hp : pl K (p / 101) (p % 101)) (hpt : p % 101 ≤ t) (hl : M 50 42 = -1)
    (H1 : ∀ X r, Mr K t (fun q k r => Rr K M q k r p) M X → 0 ≤ r → r < K 3 8 → K 25 r = p / 101 → K 26 r = -1 → p % 101 + K 28 r ≤ t → M 81 (101 * r + p % 101) < K 27 r → Q 0 (me_put (me_put X 50 42 p) 50 43 r))
    (H2 : ∀ X, Mr K t (fun q k r => Rr K M q k r p) M X → Dr K t X p → Q 0 X) : Cl (d + 2) 121 [vR 50, vI (p / 101), vI (p % 101), vI t] M Q := by
  have hn := W.2.2
  have hb := W.1.1
  have hp0 := hp
  obtain ⟨c0, c1, c2, c3, h0, h1, hd⟩ := hp
  have ep : p = 101 * (p / 101) + p % 101 := by omega
  generalize ec : p / 101 = c at *
  generalize eh : p % 101 = h at *
  obtain ⟨⟨l69, l70, l71, l72, l55, l51, l52⟩, ⟨n23, n0, n1⟩, tb⟩ := B.1
  have el : w32 (h + 1) = h + 1 := w32_id (by omega) (by omega)
  have el2 : w32 (h - 1) = h - 1 := w32_id (by omega) (by omega)
  have e1 : w32 (w32 (w32 (101 * c) + h) - 1) = p - 1 := by
    rw [ix101 c0 (show c < 12 by omega) (show 0 ≤ h by omega) (show h ≤ 100 by omega), ← ep, w32_id (by omega) (by omega)]
  have tail : ∀ X, Mr K t (fun q k r => Rr K M q k r p) M X → (pl K c (h + 1) → h + 1 ≤ t → X 82 (p + 1) = 1) → (K 5 2 < h → 0 < M 80 (p - 1) → X 82 (p - 1) = 1) → Rn (d + 2) (blk 121 2) 121 [some (vR 50), some (vI c), some (vI h), some (vI t), none, none, none] [] X Q := by
    intro X m a1 a2
    have BX := BR_mr B m
    rw [bq121_2]
    simp only [s_0, lgI_some, s_1I, s_3, s_6, s_8, s_24, s_30, cnP_0, cnP_1, cnP_2, cnP_3, cnP_4, cnP_5, s_32, s_38, s_47, lgR_some, kd_51, kd_52, kd_53, kd_54, kd_55, kd_56, kd_57, kd_58, kd_59, kd_60, kd_61, kd_62, kd_63, kd_64, kd_65, kd_66, kd_67, kd_68, kd_69, kd_70, kd_71, kd_72, kd_73, kd_74, kd_75, kd_76, kd_77, kd_78, kd_79, kd_80, kd_81, kd_82, kd_83, kd_84, kd_85, ln_51, ln_52, ln_53, ln_54, ln_55, ln_56, ln_57, ln_58, ln_59, ln_60, ln_61, ln_62, ln_63, ln_64, ln_65, ln_66, ln_67, ln_68, ln_69, ln_70, ln_71, ln_72, ln_73, ln_74, ln_75, ln_76, ln_77, ln_78, ln_79, ln_80, ln_81, ln_82, ln_83, ln_84, ln_85, lg_0, lg_1, lg_2, lg_3, lg_4, lg_5, lg_6, lz_0, lz_1, lz_2, lz_3, lz_4, lz_5, lz_6, lp_0, lp_1, lp_2, lp_3, lp_4, lp_5, lp_6, isL_n, isL_I, isL_R, g_50_23, g_50_24, g_50_25, g_50_26, g_50_27, g_50_36, p_50_42, p_50_43, List.length_cons, List.length_nil, Nat.reduceAdd, Nat.reduceLT, Nat.reduceLeDiff, true_and, and_true, true_or, or_true, Int.reduceEq, Nat.reduceEqDiff, reduceCtorEq, true_implies, false_implies, not_true_eq_false, not_false_eq_true, Nat.zero_le, Int.zero_add, Nat.zero_add, Nat.lt_add_one, eq_self, forall_const, implies_true, Bool.false_eq_true, false_or, or_false, and_self, ne_eq, me_ne, me_self]
    refine l_121 (X1 := X) W hv ht ep c0 c1 h0 hpt hl H1 ?_ (K 3 8).toNat X 0 _ _ (Int.le_refl 0) (by have := W.2.1.1; omega) BX m B.2.1 (fun _ _ _ h => h) (fun r r0 r1 => by omega)
    intro Y mY a3 a4
    have BY := BR_mr B mY
    refine H2 Y mY ⟨?_, ?_, ?_, ?_⟩
    · rw [ec, eh]; intro z1 z2; exact a4 _ (by omega) (by omega) (a1 z1 z2)
    · rw [eh, BY.2.2.2.1]; intro z1 z2; exact a4 _ (by omega) (by omega) (a2 z1 z2)
    · rw [ec, eh, BY.2.2.2.2]; intro r r0 r1; exact (a3 r r0 r1).1
    · rw [ec, eh, BY.2.2.2.2]; intro r r0 r1; exact (a3 r r0 r1).2
  have mid : ∀ X, Mr K t (fun q k r => Rr K M q k r p) M X → (pl K c (h + 1) → h + 1 ≤ t → X 82 (p + 1) = 1) → Rn (d + 2) (blk 121 1) 121 [some (vR 50), some (vI c), some (vI h), some (vI t), none, none, none] [] X Q := by
    intro X m a1
    have BX := BR_mr B m
    rw [bq121_1]
    simp only [s_0, lgI_some, s_1I, s_3, s_6, s_7, s_8, s_24, s_29, cnP_0, cnP_1, cnP_2, cnP_3, cnP_4, cnP_5, s_30, s_32, s_47, lgR_some, s_55, res_0, res_1, nlg_n, nlg_I, nlg_R, Bool.true_and, Bool.and_self, Bool.and_true, kd_51, kd_52, kd_53, kd_54, kd_55, kd_56, kd_57, kd_58, kd_59, kd_60, kd_61, kd_62, kd_63, kd_64, kd_65, kd_66, kd_67, kd_68, kd_69, kd_70, kd_71, kd_72, kd_73, kd_74, kd_75, kd_76, kd_77, kd_78, kd_79, kd_80, kd_81, kd_82, kd_83, kd_84, kd_85, ln_51, ln_52, ln_53, ln_54, ln_55, ln_56, ln_57, ln_58, ln_59, ln_60, ln_61, ln_62, ln_63, ln_64, ln_65, ln_66, ln_67, ln_68, ln_69, ln_70, ln_71, ln_72, ln_73, ln_74, ln_75, ln_76, ln_77, ln_78, ln_79, ln_80, ln_81, ln_82, ln_83, ln_84, ln_85, lg_0, lg_1, lg_2, lg_3, lg_4, lg_5, lg_6, lz_0, lz_1, lz_2, lz_3, lz_4, lz_5, lz_6, lp_0, lp_1, lp_2, lp_3, lp_4, lp_5, lp_6, isL_n, isL_I, isL_R, g_50_0, g_50_35, rc_119_50, List.length_cons, List.length_nil, Nat.reduceAdd, Nat.reduceLT, Nat.reduceLeDiff, true_and, and_true, true_or, or_true, Int.reduceEq, Nat.reduceEqDiff, reduceCtorEq, true_implies, false_implies, not_true_eq_false, not_false_eq_true, Nat.zero_le, Int.zero_add, Nat.zero_add, Nat.lt_add_one, eq_self, forall_const, implies_true, Bool.false_eq_true, false_or, or_false, and_self, ne_eq, me_ne, me_self, BX.1.2.1.2.1, BX.2.2.2.1, e1, el2]
    refine ⟨fun q => tail X m a1 (fun z => by omega), fun q => ⟨⟨by omega, by omega⟩, fun q2 => tail X m a1 (fun _ z => by omega), fun q2 => ?_⟩⟩
    have v := hw c (h - 1) c0 c1 (by omega) (by omega)
    unfold rwt at v
    rw [show 101 * c + (h - 1) = p - 1 by omega] at v
    have v2 := v.2 (by omega)
    refine c_119 (P := fun q k r => Rr K M q k r p) BX.2.1 c0 c1 (by omega) (by omega) v2.1 (by omega) ?_ (fun Y mY y1 => tail Y (Mr_tr m mY B.2.1) (fun z1 z2 => Mr_mk mY (by omega) (by omega) (a1 z1 z2)) (fun _ _ => by rw [show p - 1 = 101 * c + (h - 1) by omega]; exact y1))
    refine Or.inr (Or.inl ⟨rfl, by omega, by omega, ?_⟩)
    rw [show 101 * c + (h - 1) = p - 1 by omega]; omega
  unfold Cl
  rw [en_121]
  simp only [bq121_0, s_0, lgI_some, s_3, s_6, s_7, s_8, s_24, s_29, cnP_0, cnP_1, cnP_2, cnP_3, cnP_4, cnP_5, s_30, s_32, s_47, lgR_some, s_54, s_55, res_0, res_1, nlg_n, nlg_I, nlg_R, Bool.true_and, Bool.and_self, Bool.and_true, kd_51, kd_52, kd_53, kd_54, kd_55, kd_56, kd_57, kd_58, kd_59, kd_60, kd_61, kd_62, kd_63, kd_64, kd_65, kd_66, kd_67, kd_68, kd_69, kd_70, kd_71, kd_72, kd_73, kd_74, kd_75, kd_76, kd_77, kd_78, kd_79, kd_80, kd_81, kd_82, kd_83, kd_84, kd_85, ln_51, ln_52, ln_53, ln_54, ln_55, ln_56, ln_57, ln_58, ln_59, ln_60, ln_61, ln_62, ln_63, ln_64, ln_65, ln_66, ln_67, ln_68, ln_69, ln_70, ln_71, ln_72, ln_73, ln_74, ln_75, ln_76, ln_77, ln_78, ln_79, ln_80, ln_81, ln_82, ln_83, ln_84, ln_85, lg_0, lg_1, lg_2, lg_3, lg_4, lg_5, lg_6, g_50_0, g_50_35, rc_118_50, rc_119_50, List.length_cons, List.length_nil, Nat.reduceAdd, Nat.reduceLT, Nat.reduceLeDiff, true_and, and_true, true_or, or_true, Int.reduceEq, Nat.reduceEqDiff, reduceCtorEq, true_implies, false_implies, not_true_eq_false, not_false_eq_true, Nat.zero_le, Int.zero_add, Nat.zero_add, Nat.lt_add_one, eq_self, forall_const, implies_true, Bool.false_eq_true, false_or, or_false, and_self, ne_eq, me_ne, me_self, el]
  rw [q_118 W B.1 c0 c2 ht]
  simp only [bq121_0, s_0, lgI_some, s_3, s_6, s_7, s_8, s_24, s_29, cnP_0, cnP_1, cnP_2, cnP_3, cnP_4, cnP_5, s_30, s_32, s_47, lgR_some, s_54, s_55, res_0, res_1, nlg_n, nlg_I, nlg_R, Bool.true_and, Bool.and_self, Bool.and_true, kd_51, kd_52, kd_53, kd_54, kd_55, kd_56, kd_57, kd_58, kd_59, kd_60, kd_61, kd_62, kd_63, kd_64, kd_65, kd_66, kd_67, kd_68, kd_69, kd_70, kd_71, kd_72, kd_73, kd_74, kd_75, kd_76, kd_77, kd_78, kd_79, kd_80, kd_81, kd_82, kd_83, kd_84, kd_85, ln_51, ln_52, ln_53, ln_54, ln_55, ln_56, ln_57, ln_58, ln_59, ln_60, ln_61, ln_62, ln_63, ln_64, ln_65, ln_66, ln_67, ln_68, ln_69, ln_70, ln_71, ln_72, ln_73, ln_74, ln_75, ln_76, ln_77, ln_78, ln_79, ln_80, ln_81, ln_82, ln_83, ln_84, ln_85, lg_0, lg_1, lg_2, lg_3, lg_4, lg_5, lg_6, g_50_0, g_50_35, rc_118_50, rc_119_50, List.length_cons, List.length_nil, Nat.reduceAdd, Nat.reduceLT, Nat.reduceLeDiff, true_and, and_true, true_or, or_true, Int.reduceEq, Nat.reduceEqDiff, reduceCtorEq, true_implies, false_implies, not_true_eq_false, not_false_eq_true, Nat.zero_le, Int.zero_add, Nat.zero_add, Nat.lt_add_one, eq_self, forall_const, implies_true, Bool.false_eq_true, false_or, or_false, and_self, ne_eq, me_ne, me_self, b01_z, Classical.not_not, el]
  refine ⟨fun q => mid M (Mr_rf B.2.1) (fun z1 z2 => (q ⟨z1, z2⟩).elim), fun q => ?_⟩
  refine c_119 (P := fun q k r => Rr K M q k r p) B.2.1 c0 c1 (by omega) (by omega) q.1 q.2 ?_ (fun Y mY y1 => mid Y mY (fun _ _ => by rw [show p + 1 = 101 * c + (h + 1) by omega]; exact y1))
  exact Or.inl ⟨rfl, by omega, by omega⟩
end SP

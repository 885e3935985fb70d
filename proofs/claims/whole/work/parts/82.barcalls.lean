/-! bars, bar -/
section BC
variable {d : Nat} {K M X Y : Me} {t : Int} {Q : Int → Me → Prop}
theorem c_84 (I : Iv M) (h0 : M 5 2 ≤ t) (ht : t ≤ 100) (H : ∀ X, Iv X → X 6 2 ≠ 0 → X 5 = M 5 → BarsOk X t → Q 0 X) : Cl (d + 6) 84 [vR 0, vI t] M Q := by
  have hn := I.2.2.2.2.1.1
  -- from a memory that isn't past t, nor has the bars
  have go : ∀ X0 : Me, Iv X0 → X0 5 = M 5 → (X0 7 17 ≠ 0 → X0 7 14 ≤ t ∧ X0 7 15 ≠ t) → Rn (d + 6) (blk 84 2) 84 [some (vR 0), some (vI t)] [] X0 Q := by
    intro X0 I0 e0 h17
    rw [bq84_2]
    simp only [s_0, lgI_some, s_38, s_47, lgR_some, s_51, s_53, res_0, res_1, nlg_n, nlg_I, nlg_R, Bool.true_and, Bool.and_self, Bool.and_true, lg_0, lg_1, g_0_2, g_0_6, rc_14_7, rc_27_7, rc_83_0, List.length_cons, List.length_nil, Nat.reduceAdd, Nat.reduceLT, Nat.reduceLeDiff, true_and, and_true, true_or, or_true, Int.reduceEq, Nat.reduceEqDiff, reduceCtorEq, true_implies, false_implies, not_true_eq_false, not_false_eq_true, Nat.zero_le, Int.zero_add, Nat.zero_add, Nat.lt_add_one, eq_self, forall_const, implies_true, Bool.false_eq_true, false_or, or_false, and_self, ne_eq, me_ne, me_self]
    refine c_83 (d := d) I0 (fun X IX x17 x6 FX x37 x50 xs xn => ?_)
    have e5 : X 5 = M 5 := by rw [x37 5 (by decide) (by decide) (by decide) (by decide), e0]
    have x14 : X 7 14 ≤ t ∧ X 7 15 ≠ t := by
      by_cases z : X0 7 17 = 0
      · have := xn z
        rw [e0] at this
        omega
      · rw [xs z]; exact h17 z
    refine c_14v (d := d) IX x17 (by rw [e5]; exact h0) ht (fun Y IY y17 FY fY yh y14 y11 ye => ?_)
    have y5 : Y 5 = M 5 := by rw [fY 5 (by decide) (by decide), e5]
    have y6 : Y 6 2 ≠ 0 := by rw [fY 6 (by decide) (by decide)]; exact x6
    obtain ⟨R, s, b⟩ := FlI_to FY
    have t14 := y14 x14.1
    have sb : Y 7 11 ≤ 2000 * (t + 1) := by
      by_cases z : X 7 14 < t
      · exact y11 z
      · have eY := ye (by omega)
        have s' := (FlI_to FX).2.1
        rw [eY]
        rcases s' with w | w
        · omega
        · have := x14.2
          have := x14.1
          omega
    have W := Iv_WK IY
    have G := R.1
    have O := R.2.1
    rw [t14] at G O
    refine c_27 (d := d + 2) W G O (by rw [y5]; exact h0) ht (by omega) (fun Z f1 f2 z11 z15 zm zc zneg zb => ?_)
    have fZ : f7 Y Z := fun k q1 q2 => f1 k (fun e => by simp at e; omega)
    obtain ⟨t1, t2, t3, t4, t5, t6, t7, t8⟩ := f7_t fZ
    have z14 : Z 7 14 = t := by rw [f2 14 (by decide) (by decide) (by decide) (by decide) (by decide), t14]
    have z5 : Z 5 = Y 5 := fZ 5 (by decide) (by decide)
    have RZ : RK Y Z := by
      obtain ⟨g1, g2, g3, g4, g5, g6, g7⟩ := G
      refine ⟨⟨fZ, by rw [f2 12 (by decide) (by decide) (by decide) (by decide) (by decide)]; exact g2, zm, by omega, by rw [f1 40 (by decide)]; exact g5, ?_, zc⟩, ?_, ?_, by rw [z14]; have := R.2.2.2; omega⟩
      · rw [z14, show fgk Y Z = fgk Y Y by funext c; unfold fgk; rw [f1 40 (by decide)], show fwt Z = fwt Y by unfold fwt; rw [f1 41 (by decide)], show fsr Z = fsr Y by unfold fsr; rw [f1 42 (by decide)], f2 13 (by decide) (by decide) (by decide) (by decide) (by decide)]
        exact g6
      · intro r h r0 r1 r2 a0 a1
        obtain ⟨r12, rf, rt, rb, rl', rn⟩ := WK_r W r0 r1
        have hY := W.2.2
        rw [z14] at a1
        rw [f1 42 (by decide)]
        exact (O r h r0 r1 r2 a0 a1).imp id (fun q => zneg _ (by omega) (by omega) q)
      · intro u u0 u1
        rw [f1 39 (by decide)]
        exact R.2.2.1 u u0 (by omega)
    have RZZ := RK_self fZ RZ
    have bz : BarsOk Z t := by
      unfold BarsOk
      rw [t3, t4]; exact zb
    have FZ : FlI Z := FlI_of RZZ (Or.inr ⟨by omega, by omega⟩) (Or.inr ⟨by rw [z15, z5, y5]; exact h0, by rw [z15]; exact bz⟩)
    have IZ : Iv Z := Iv_f7 IY fZ (fun _ => ⟨y6, FZ⟩)
    exact H Z IZ (by rw [fZ 6 (by decide) (by decide)]; exact y6) (by rw [z5, y5]) bz
  have mid : ¬ (M 7 17 ≠ 0 ∧ M 7 15 = t) → Rn (d + 6) (blk 84 1) 84 [some (vR 0), some (vI t)] [] M Q := by
    intro nf
    rw [bq84_1]
    simp only [s_0, lgI_some, s_30, cnP_0, cnP_1, cnP_2, cnP_3, cnP_4, cnP_5, s_32, s_38, s_47, lgR_some, s_51, s_53, res_0, res_1, nlg_n, nlg_I, nlg_R, Bool.true_and, Bool.and_self, Bool.and_true, lg_0, lg_1, g_0_2, g_0_6, g_7_14, rc_12_7, rc_14_7, rc_27_7, rc_83_0, List.length_cons, List.length_nil, Nat.reduceAdd, Nat.reduceLT, Nat.reduceLeDiff, true_and, and_true, true_or, or_true, Int.reduceEq, Nat.reduceEqDiff, reduceCtorEq, true_implies, false_implies, not_true_eq_false, not_false_eq_true, Nat.zero_le, Int.zero_add, Nat.zero_add, Nat.lt_add_one, eq_self, forall_const, implies_true, Bool.false_eq_true, false_or, or_false, and_self, ne_eq, me_ne, me_self, uc 12, en_12, bq12_0, s_3, p_7_17]
    refine ⟨fun q => go M I rfl (fun z => ⟨q, fun e => nf ⟨z, e⟩⟩), fun q => ?_⟩
    refine go _ (Iv_f7 I (fun k q1 q2 => me_f _ q1) (fun z => (z (me_self _ _ _ _)).elim)) (me_f _ (by decide)) (fun z => (z (me_self _ _ _ _)).elim)
  unfold Cl
  rw [en_84]
  simp only [bq84_0, s_0, lgI_some, s_29, cnP_0, cnP_1, cnP_2, cnP_3, cnP_4, cnP_5, s_30, s_32, s_38, s_47, lgR_some, s_51, res_0, res_1, nlg_n, nlg_I, nlg_R, Bool.true_and, Bool.and_self, Bool.and_true, lg_0, lg_1, g_0_6, g_7_14, g_7_15, g_7_17, rc_12_7, List.length_cons, List.length_nil, Nat.reduceAdd, Nat.reduceLT, Nat.reduceLeDiff, true_and, and_true, true_or, or_true, Int.reduceEq, Nat.reduceEqDiff, reduceCtorEq, true_implies, false_implies, not_true_eq_false, not_false_eq_true, Nat.zero_le, Int.zero_add, Nat.zero_add, Nat.lt_add_one, eq_self, forall_const, implies_true, Bool.false_eq_true, false_or, or_false, and_self, ne_eq, me_ne, me_self]
  refine ⟨fun q => mid (fun z => z.1 q), fun q => ⟨fun q2 => mid (fun z => q2 z.2), fun q2 => ?_⟩⟩
  have hx := I.2.2.2.2.2.2.2.2 q
  have b := (FlI_to hx.2).2.2
  rw [Classical.not_not.mp q2] at b
  exact H M I hx.1 rfl (b.resolve_left (by omega)).2
theorem q_128 {r h : Int} (W : WK K) (w : rW K X) (hs : ∀ c h, Sr X c h → pl K c h ∧ h ≤ t) (h82 : ∀ p, 0 ≤ p → p < 1010 → X 82 p = 0 ∨ X 82 p = 1 ∨ True) (ht : t ≤ 100) (r0 : 0 ≤ r) (r1 : r < K 3 8) (h0 : K 5 2 ≤ h) (h1 : h ≤ t) (hz : ∀ p, 0 ≤ p → p < 1010 → X 82 p ≠ 0 → X 82 p = 1) : Cl (d + 2) 128 [vR 50, vI r, vI h, vI t] X Q = Q (b01 (bp K (Sr X) t (h * 12 + r))) X := by
  have hn := W.2.2
  obtain ⟨r12, rf, rt, rb, rl', rn⟩ := WK_r W r0 r1
  have w0 := w
  obtain ⟨⟨l69, l70, l71, l72, l55, l51, l52⟩, ⟨n23, n0, n1⟩, tb⟩ := w0
  have e82 : ∀ p, 0 ≤ p → p < 1010 → (X 82 p = 0 ↔ ¬ X 82 p = 1) := fun p p0 p1 => ⟨fun z => by omega, fun z => Classical.byContradiction (fun y => z (hz p p0 p1 y))⟩
  have eb : bp K (Sr X) t (h * 12 + r) ↔ ((pl K (K 25 r) h ∧ h ≤ t) ∧ ¬ X 82 (101 * K 25 r + h) = 0 ∧ h + K 28 r ≤ t ∧ (K 26 r = -1 ∨ ((pl K (K 26 r) (h + K 28 r) ∧ h + K 28 r ≤ t) ∧ X 82 (101 * K 26 r + (h + K 28 r)) = 0))) := by
    unfold bp
    rw [show (h * 12 + r) % 12 = r by omega, show (h * 12 + r) / 12 = h by omega]
    constructor
    · rintro ⟨-, -, a3, a4, a5⟩
      refine ⟨hs _ _ a4, by have := a4.2.2.2.2; omega, a3, a5.imp id (fun ⟨b1, b2⟩ => ⟨⟨b1, a3⟩, ?_⟩)⟩
      have c1 := b1.1
      have c2 := b1.2.1
      have c3 := b1.2.2.2.2.1
      have c4 := b1.2.2.2.2.2.1
      rw [e82 _ (by omega) (by omega)]
      exact fun z => b2 ⟨c1, c2, by omega, c4, z⟩
    · rintro ⟨a1, a2, a3, a4⟩
      have c1 := a1.1.1
      have c2 := a1.1.2.1
      refine ⟨r1, h0, a3, ⟨c1, c2, by omega, by omega, hz _ (by omega) (by omega) a2⟩, a4.imp id (fun ⟨b1, b2⟩ => ⟨b1.1, fun z => ?_⟩)⟩
      have := z.2.2.2.2
      omega
  obtain ⟨P, hP⟩ : ∃ P, P = bp K (Sr X) t (h * 12 + r) := ⟨_, rfl⟩
  rw [← hP]
  rw [propext eb] at hP
  unfold Cl
  rw [en_128]
  simp only [bq128_0, bq128_1, bq128_2, bq128_3, bq128_4, bq128_5, s_0, lgI_some, s_1I, s_3, s_6, s_8, s_24, s_29, cnP_0, cnP_1, cnP_2, cnP_3, cnP_4, cnP_5, s_30, s_31, s_32, s_37i, s_37z, s_46, s_47, lgR_some, s_54, res_0, res_1, nlg_n, nlg_I, nlg_R, Bool.true_and, Bool.and_self, Bool.and_true, kd_51, kd_52, kd_53, kd_54, kd_55, kd_56, kd_57, kd_58, kd_59, kd_60, kd_61, kd_62, kd_63, kd_64, kd_65, kd_66, kd_67, kd_68, kd_69, kd_70, kd_71, kd_72, kd_73, kd_74, kd_75, kd_76, kd_77, kd_78, kd_79, kd_80, kd_81, kd_82, kd_83, kd_84, kd_85, ln_51, ln_52, ln_53, ln_54, ln_55, ln_56, ln_57, ln_58, ln_59, ln_60, ln_61, ln_62, ln_63, ln_64, ln_65, ln_66, ln_67, ln_68, ln_69, ln_70, ln_71, ln_72, ln_73, ln_74, ln_75, ln_76, ln_77, ln_78, ln_79, ln_80, ln_81, ln_82, ln_83, ln_84, ln_85, lg_0, lg_1, lg_2, lg_3, lg_4, lg_5, lz_0, lz_1, lz_2, lz_3, lz_4, lz_5, lp_0, lp_1, lp_2, lp_3, lp_4, lp_5, isL_n, isL_I, isL_R, g_50_24, g_50_25, g_50_27, g_50_37, rc_118_50, List.length_cons, List.length_nil, Nat.reduceAdd, Nat.reduceLT, Nat.reduceLeDiff, true_and, and_true, true_or, or_true, Int.reduceEq, Nat.reduceEqDiff, reduceCtorEq, true_implies, false_implies, not_true_eq_false, not_false_eq_true, Nat.zero_le, Int.zero_add, Nat.zero_add, Nat.lt_add_one, eq_self, forall_const, implies_true, Bool.false_eq_true, false_or, or_false, and_self, ne_eq, me_ne, me_self, l69, l70, l72, r0, r12, show w32 (h + K 28 r) = h + K 28 r from w32_id (by omega) (by omega)]
  rw [q_118 W w rf.1 rf.2.2.1 ht]
  have e1 := ix101 rf.1 (show K 25 r < 12 by omega) (show 0 ≤ h by omega) (show h ≤ 100 by omega)
  by_cases a1 : pl K (K 25 r) h ∧ h ≤ t
  · by_cases a2 : X 82 (101 * K 25 r + h) = 0
    · simp only [bq128_0, bq128_1, bq128_2, bq128_3, bq128_4, bq128_5, s_0, lgI_some, s_1I, s_3, s_6, s_8, s_24, s_29, cnP_0, cnP_1, cnP_2, cnP_3, cnP_4, cnP_5, s_30, s_31, s_32, s_37i, s_37z, s_46, s_47, lgR_some, s_54, res_0, res_1, nlg_n, nlg_I, nlg_R, Bool.true_and, Bool.and_self, Bool.and_true, kd_51, kd_52, kd_53, kd_54, kd_55, kd_56, kd_57, kd_58, kd_59, kd_60, kd_61, kd_62, kd_63, kd_64, kd_65, kd_66, kd_67, kd_68, kd_69, kd_70, kd_71, kd_72, kd_73, kd_74, kd_75, kd_76, kd_77, kd_78, kd_79, kd_80, kd_81, kd_82, kd_83, kd_84, kd_85, ln_51, ln_52, ln_53, ln_54, ln_55, ln_56, ln_57, ln_58, ln_59, ln_60, ln_61, ln_62, ln_63, ln_64, ln_65, ln_66, ln_67, ln_68, ln_69, ln_70, ln_71, ln_72, ln_73, ln_74, ln_75, ln_76, ln_77, ln_78, ln_79, ln_80, ln_81, ln_82, ln_83, ln_84, ln_85, lg_0, lg_1, lg_2, lg_3, lg_4, lg_5, lz_0, lz_1, lz_2, lz_3, lz_4, lz_5, lp_0, lp_1, lp_2, lp_3, lp_4, lp_5, isL_n, isL_I, isL_R, g_50_24, g_50_25, g_50_27, g_50_37, rc_118_50, List.length_cons, List.length_nil, Nat.reduceAdd, Nat.reduceLT, Nat.reduceLeDiff, true_and, and_true, true_or, or_true, Int.reduceEq, Nat.reduceEqDiff, reduceCtorEq, true_implies, false_implies, not_true_eq_false, not_false_eq_true, Nat.zero_le, Int.zero_add, Nat.zero_add, Nat.lt_add_one, eq_self, forall_const, implies_true, Bool.false_eq_true, false_or, or_false, and_self, ne_eq, me_ne, me_self, b01_z, Classical.not_not, a1, e1, a2, show 0 ≤ 101 * K 25 r + h by omega, show 101 * K 25 r + h < 1010 by omega, l69, l70, l72, r0, r12]
      rw [b01_f (by rw [hP]; exact fun z => z.2.1 a2)]
    · by_cases a3 : h + K 28 r ≤ t
      · by_cases a4 : K 26 r = -1
        · simp only [bq128_0, bq128_1, bq128_2, bq128_3, bq128_4, bq128_5, s_0, lgI_some, s_1I, s_3, s_6, s_8, s_24, s_29, cnP_0, cnP_1, cnP_2, cnP_3, cnP_4, cnP_5, s_30, s_31, s_32, s_37i, s_37z, s_46, s_47, lgR_some, s_54, res_0, res_1, nlg_n, nlg_I, nlg_R, Bool.true_and, Bool.and_self, Bool.and_true, kd_51, kd_52, kd_53, kd_54, kd_55, kd_56, kd_57, kd_58, kd_59, kd_60, kd_61, kd_62, kd_63, kd_64, kd_65, kd_66, kd_67, kd_68, kd_69, kd_70, kd_71, kd_72, kd_73, kd_74, kd_75, kd_76, kd_77, kd_78, kd_79, kd_80, kd_81, kd_82, kd_83, kd_84, kd_85, ln_51, ln_52, ln_53, ln_54, ln_55, ln_56, ln_57, ln_58, ln_59, ln_60, ln_61, ln_62, ln_63, ln_64, ln_65, ln_66, ln_67, ln_68, ln_69, ln_70, ln_71, ln_72, ln_73, ln_74, ln_75, ln_76, ln_77, ln_78, ln_79, ln_80, ln_81, ln_82, ln_83, ln_84, ln_85, lg_0, lg_1, lg_2, lg_3, lg_4, lg_5, lz_0, lz_1, lz_2, lz_3, lz_4, lz_5, lp_0, lp_1, lp_2, lp_3, lp_4, lp_5, isL_n, isL_I, isL_R, g_50_24, g_50_25, g_50_27, g_50_37, rc_118_50, List.length_cons, List.length_nil, Nat.reduceAdd, Nat.reduceLT, Nat.reduceLeDiff, true_and, and_true, true_or, or_true, Int.reduceEq, Nat.reduceEqDiff, reduceCtorEq, true_implies, false_implies, not_true_eq_false, not_false_eq_true, Nat.zero_le, Int.zero_add, Nat.zero_add, Nat.lt_add_one, eq_self, forall_const, implies_true, Bool.false_eq_true, false_or, or_false, and_self, ne_eq, me_ne, me_self, b01_z, Classical.not_not, a1, e1, a2, a3, a4, show 0 ≤ 101 * K 25 r + h by omega, show 101 * K 25 r + h < 1010 by omega, l69, l70, l72, r0, r12]
          rw [b01_t (by rw [hP]; exact ⟨a1, a2, a3, Or.inl a4⟩)]
        · have rt' := rt.resolve_left a4
          have e2 := ix101 rt'.1 (show K 26 r < 12 by omega) (show 0 ≤ h + K 28 r by omega) (show h + K 28 r ≤ 100 by omega)
          simp only [bq128_0, bq128_1, bq128_2, bq128_3, bq128_4, bq128_5, s_0, lgI_some, s_1I, s_3, s_6, s_8, s_24, s_29, cnP_0, cnP_1, cnP_2, cnP_3, cnP_4, cnP_5, s_30, s_31, s_32, s_37i, s_37z, s_46, s_47, lgR_some, s_54, res_0, res_1, nlg_n, nlg_I, nlg_R, Bool.true_and, Bool.and_self, Bool.and_true, kd_51, kd_52, kd_53, kd_54, kd_55, kd_56, kd_57, kd_58, kd_59, kd_60, kd_61, kd_62, kd_63, kd_64, kd_65, kd_66, kd_67, kd_68, kd_69, kd_70, kd_71, kd_72, kd_73, kd_74, kd_75, kd_76, kd_77, kd_78, kd_79, kd_80, kd_81, kd_82, kd_83, kd_84, kd_85, ln_51, ln_52, ln_53, ln_54, ln_55, ln_56, ln_57, ln_58, ln_59, ln_60, ln_61, ln_62, ln_63, ln_64, ln_65, ln_66, ln_67, ln_68, ln_69, ln_70, ln_71, ln_72, ln_73, ln_74, ln_75, ln_76, ln_77, ln_78, ln_79, ln_80, ln_81, ln_82, ln_83, ln_84, ln_85, lg_0, lg_1, lg_2, lg_3, lg_4, lg_5, lz_0, lz_1, lz_2, lz_3, lz_4, lz_5, lp_0, lp_1, lp_2, lp_3, lp_4, lp_5, isL_n, isL_I, isL_R, g_50_24, g_50_25, g_50_27, g_50_37, rc_118_50, List.length_cons, List.length_nil, Nat.reduceAdd, Nat.reduceLT, Nat.reduceLeDiff, true_and, and_true, true_or, or_true, Int.reduceEq, Nat.reduceEqDiff, reduceCtorEq, true_implies, false_implies, not_true_eq_false, not_false_eq_true, Nat.zero_le, Int.zero_add, Nat.zero_add, Nat.lt_add_one, eq_self, forall_const, implies_true, Bool.false_eq_true, false_or, or_false, and_self, ne_eq, me_ne, me_self, b01_z, Classical.not_not, a1, e1, a2, a3, a4, show 0 ≤ 101 * K 25 r + h by omega, show 101 * K 25 r + h < 1010 by omega, l69, l70, l72, r0, r12]
          rw [q_118 W w rt'.1 rt'.2.2.1 ht]
          by_cases a5 : pl K (K 26 r) (h + K 28 r)
          · by_cases a6 : X 82 (101 * K 26 r + (h + K 28 r)) = 0
            · simp only [bq128_0, bq128_1, bq128_2, bq128_3, bq128_4, bq128_5, s_0, lgI_some, s_1I, s_3, s_6, s_8, s_24, s_29, cnP_0, cnP_1, cnP_2, cnP_3, cnP_4, cnP_5, s_30, s_31, s_32, s_37i, s_37z, s_46, s_47, lgR_some, s_54, res_0, res_1, nlg_n, nlg_I, nlg_R, Bool.true_and, Bool.and_self, Bool.and_true, kd_51, kd_52, kd_53, kd_54, kd_55, kd_56, kd_57, kd_58, kd_59, kd_60, kd_61, kd_62, kd_63, kd_64, kd_65, kd_66, kd_67, kd_68, kd_69, kd_70, kd_71, kd_72, kd_73, kd_74, kd_75, kd_76, kd_77, kd_78, kd_79, kd_80, kd_81, kd_82, kd_83, kd_84, kd_85, ln_51, ln_52, ln_53, ln_54, ln_55, ln_56, ln_57, ln_58, ln_59, ln_60, ln_61, ln_62, ln_63, ln_64, ln_65, ln_66, ln_67, ln_68, ln_69, ln_70, ln_71, ln_72, ln_73, ln_74, ln_75, ln_76, ln_77, ln_78, ln_79, ln_80, ln_81, ln_82, ln_83, ln_84, ln_85, lg_0, lg_1, lg_2, lg_3, lg_4, lg_5, lz_0, lz_1, lz_2, lz_3, lz_4, lz_5, lp_0, lp_1, lp_2, lp_3, lp_4, lp_5, isL_n, isL_I, isL_R, g_50_24, g_50_25, g_50_27, g_50_37, rc_118_50, List.length_cons, List.length_nil, Nat.reduceAdd, Nat.reduceLT, Nat.reduceLeDiff, true_and, and_true, true_or, or_true, Int.reduceEq, Nat.reduceEqDiff, reduceCtorEq, true_implies, false_implies, not_true_eq_false, not_false_eq_true, Nat.zero_le, Int.zero_add, Nat.zero_add, Nat.lt_add_one, eq_self, forall_const, implies_true, Bool.false_eq_true, false_or, or_false, and_self, ne_eq, me_ne, me_self, b01_z, Classical.not_not, a5, e2, a6, a3, l70, r0, r12, show 0 ≤ 101 * K 26 r + (h + K 28 r) by omega, show 101 * K 26 r + (h + K 28 r) < 1010 by omega]
              rw [b01_t (by rw [hP]; exact ⟨a1, a2, a3, Or.inr ⟨⟨a5, a3⟩, a6⟩⟩)]
            · simp only [bq128_0, bq128_1, bq128_2, bq128_3, bq128_4, bq128_5, s_0, lgI_some, s_1I, s_3, s_6, s_8, s_24, s_29, cnP_0, cnP_1, cnP_2, cnP_3, cnP_4, cnP_5, s_30, s_31, s_32, s_37i, s_37z, s_46, s_47, lgR_some, s_54, res_0, res_1, nlg_n, nlg_I, nlg_R, Bool.true_and, Bool.and_self, Bool.and_true, kd_51, kd_52, kd_53, kd_54, kd_55, kd_56, kd_57, kd_58, kd_59, kd_60, kd_61, kd_62, kd_63, kd_64, kd_65, kd_66, kd_67, kd_68, kd_69, kd_70, kd_71, kd_72, kd_73, kd_74, kd_75, kd_76, kd_77, kd_78, kd_79, kd_80, kd_81, kd_82, kd_83, kd_84, kd_85, ln_51, ln_52, ln_53, ln_54, ln_55, ln_56, ln_57, ln_58, ln_59, ln_60, ln_61, ln_62, ln_63, ln_64, ln_65, ln_66, ln_67, ln_68, ln_69, ln_70, ln_71, ln_72, ln_73, ln_74, ln_75, ln_76, ln_77, ln_78, ln_79, ln_80, ln_81, ln_82, ln_83, ln_84, ln_85, lg_0, lg_1, lg_2, lg_3, lg_4, lg_5, lz_0, lz_1, lz_2, lz_3, lz_4, lz_5, lp_0, lp_1, lp_2, lp_3, lp_4, lp_5, isL_n, isL_I, isL_R, g_50_24, g_50_25, g_50_27, g_50_37, rc_118_50, List.length_cons, List.length_nil, Nat.reduceAdd, Nat.reduceLT, Nat.reduceLeDiff, true_and, and_true, true_or, or_true, Int.reduceEq, Nat.reduceEqDiff, reduceCtorEq, true_implies, false_implies, not_true_eq_false, not_false_eq_true, Nat.zero_le, Int.zero_add, Nat.zero_add, Nat.lt_add_one, eq_self, forall_const, implies_true, Bool.false_eq_true, false_or, or_false, and_self, ne_eq, me_ne, me_self, b01_z, Classical.not_not, a5, e2, a6, a3, l70, r0, r12, show 0 ≤ 101 * K 26 r + (h + K 28 r) by omega, show 101 * K 26 r + (h + K 28 r) < 1010 by omega]
              rw [b01_f (by rw [hP]; exact fun z => z.2.2.2.elim a4 (fun y => a6 y.2))]
          · simp only [bq128_0, bq128_1, bq128_2, bq128_3, bq128_4, bq128_5, s_0, lgI_some, s_1I, s_3, s_6, s_8, s_24, s_29, cnP_0, cnP_1, cnP_2, cnP_3, cnP_4, cnP_5, s_30, s_31, s_32, s_37i, s_37z, s_46, s_47, lgR_some, s_54, res_0, res_1, nlg_n, nlg_I, nlg_R, Bool.true_and, Bool.and_self, Bool.and_true, kd_51, kd_52, kd_53, kd_54, kd_55, kd_56, kd_57, kd_58, kd_59, kd_60, kd_61, kd_62, kd_63, kd_64, kd_65, kd_66, kd_67, kd_68, kd_69, kd_70, kd_71, kd_72, kd_73, kd_74, kd_75, kd_76, kd_77, kd_78, kd_79, kd_80, kd_81, kd_82, kd_83, kd_84, kd_85, ln_51, ln_52, ln_53, ln_54, ln_55, ln_56, ln_57, ln_58, ln_59, ln_60, ln_61, ln_62, ln_63, ln_64, ln_65, ln_66, ln_67, ln_68, ln_69, ln_70, ln_71, ln_72, ln_73, ln_74, ln_75, ln_76, ln_77, ln_78, ln_79, ln_80, ln_81, ln_82, ln_83, ln_84, ln_85, lg_0, lg_1, lg_2, lg_3, lg_4, lg_5, lz_0, lz_1, lz_2, lz_3, lz_4, lz_5, lp_0, lp_1, lp_2, lp_3, lp_4, lp_5, isL_n, isL_I, isL_R, g_50_24, g_50_25, g_50_27, g_50_37, rc_118_50, List.length_cons, List.length_nil, Nat.reduceAdd, Nat.reduceLT, Nat.reduceLeDiff, true_and, and_true, true_or, or_true, Int.reduceEq, Nat.reduceEqDiff, reduceCtorEq, true_implies, false_implies, not_true_eq_false, not_false_eq_true, Nat.zero_le, Int.zero_add, Nat.zero_add, Nat.lt_add_one, eq_self, forall_const, implies_true, Bool.false_eq_true, false_or, or_false, and_self, ne_eq, me_ne, me_self, b01_z, Classical.not_not, a5, false_and]
            rw [b01_f (by rw [hP]; exact fun z => z.2.2.2.elim a4 (fun y => a5 y.1.1))]
      · simp only [bq128_0, bq128_1, bq128_2, bq128_3, bq128_4, bq128_5, s_0, lgI_some, s_1I, s_3, s_6, s_8, s_24, s_29, cnP_0, cnP_1, cnP_2, cnP_3, cnP_4, cnP_5, s_30, s_31, s_32, s_37i, s_37z, s_46, s_47, lgR_some, s_54, res_0, res_1, nlg_n, nlg_I, nlg_R, Bool.true_and, Bool.and_self, Bool.and_true, kd_51, kd_52, kd_53, kd_54, kd_55, kd_56, kd_57, kd_58, kd_59, kd_60, kd_61, kd_62, kd_63, kd_64, kd_65, kd_66, kd_67, kd_68, kd_69, kd_70, kd_71, kd_72, kd_73, kd_74, kd_75, kd_76, kd_77, kd_78, kd_79, kd_80, kd_81, kd_82, kd_83, kd_84, kd_85, ln_51, ln_52, ln_53, ln_54, ln_55, ln_56, ln_57, ln_58, ln_59, ln_60, ln_61, ln_62, ln_63, ln_64, ln_65, ln_66, ln_67, ln_68, ln_69, ln_70, ln_71, ln_72, ln_73, ln_74, ln_75, ln_76, ln_77, ln_78, ln_79, ln_80, ln_81, ln_82, ln_83, ln_84, ln_85, lg_0, lg_1, lg_2, lg_3, lg_4, lg_5, lz_0, lz_1, lz_2, lz_3, lz_4, lz_5, lp_0, lp_1, lp_2, lp_3, lp_4, lp_5, isL_n, isL_I, isL_R, g_50_24, g_50_25, g_50_27, g_50_37, rc_118_50, List.length_cons, List.length_nil, Nat.reduceAdd, Nat.reduceLT, Nat.reduceLeDiff, true_and, and_true, true_or, or_true, Int.reduceEq, Nat.reduceEqDiff, reduceCtorEq, true_implies, false_implies, not_true_eq_false, not_false_eq_true, Nat.zero_le, Int.zero_add, Nat.zero_add, Nat.lt_add_one, eq_self, forall_const, implies_true, Bool.false_eq_true, false_or, or_false, and_self, ne_eq, me_ne, me_self, b01_z, Classical.not_not, a1, e1, a2, a3, show 0 ≤ 101 * K 25 r + h by omega, show 101 * K 25 r + h < 1010 by omega, l69, l70, l72, r0, r12]
        rw [b01_f (by rw [hP]; exact fun z => a3 z.2.2.1)]
  · simp only [bq128_0, bq128_1, bq128_2, bq128_3, bq128_4, bq128_5, s_0, lgI_some, s_1I, s_3, s_6, s_8, s_24, s_29, cnP_0, cnP_1, cnP_2, cnP_3, cnP_4, cnP_5, s_30, s_31, s_32, s_37i, s_37z, s_46, s_47, lgR_some, s_54, res_0, res_1, nlg_n, nlg_I, nlg_R, Bool.true_and, Bool.and_self, Bool.and_true, kd_51, kd_52, kd_53, kd_54, kd_55, kd_56, kd_57, kd_58, kd_59, kd_60, kd_61, kd_62, kd_63, kd_64, kd_65, kd_66, kd_67, kd_68, kd_69, kd_70, kd_71, kd_72, kd_73, kd_74, kd_75, kd_76, kd_77, kd_78, kd_79, kd_80, kd_81, kd_82, kd_83, kd_84, kd_85, ln_51, ln_52, ln_53, ln_54, ln_55, ln_56, ln_57, ln_58, ln_59, ln_60, ln_61, ln_62, ln_63, ln_64, ln_65, ln_66, ln_67, ln_68, ln_69, ln_70, ln_71, ln_72, ln_73, ln_74, ln_75, ln_76, ln_77, ln_78, ln_79, ln_80, ln_81, ln_82, ln_83, ln_84, ln_85, lg_0, lg_1, lg_2, lg_3, lg_4, lg_5, lz_0, lz_1, lz_2, lz_3, lz_4, lz_5, lp_0, lp_1, lp_2, lp_3, lp_4, lp_5, isL_n, isL_I, isL_R, g_50_24, g_50_25, g_50_27, g_50_37, rc_118_50, List.length_cons, List.length_nil, Nat.reduceAdd, Nat.reduceLT, Nat.reduceLeDiff, true_and, and_true, true_or, or_true, Int.reduceEq, Nat.reduceEqDiff, reduceCtorEq, true_implies, false_implies, not_true_eq_false, not_false_eq_true, Nat.zero_le, Int.zero_add, Nat.zero_add, Nat.lt_add_one, eq_self, forall_const, implies_true, Bool.false_eq_true, false_or, or_false, and_self, ne_eq, me_ne, me_self, b01_z, Classical.not_not, a1, l69, l70, l72, r0, r12]
    rw [b01_f (by rw [hP]; exact fun z => a1 z.1)]
end BC

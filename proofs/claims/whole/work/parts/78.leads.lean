/-! the reference leads -/
section LD
variable {d : Nat} {K M X Y : Me} {t n p q k r : Int} {Q : Int → Me → Prop}
/-- a move at p leaves the room elsewhere -/
theorem mr_rm {p' k' r' q' : Int} (W : WK K) (p0 : 0 ≤ p) (p1 : p < 1010) (p0' : 0 ≤ p') (p1' : p' < 1010) (h : Rr K X p k r q) (h' : Rr K X p' k' r' q') (np : p' ≠ p) (nq : q' ≠ p) : rmr K (mvr K X p k r n) p' k' r' = rmr K X p' k' r' ∧ Rr K (mvr K X p k r n) p' k' r' q' := by
  have wr := W.2.1.1
  have hn := W.2.2
  rcases h' with g | g | ⟨g1, g0, g2, g3, g4, g5, g6⟩ | ⟨g1, g0, g2, g3, g4, g5, g6, g7⟩
  · exact ⟨by unfold rmr; rw [if_neg (by omega), if_pos g.1, if_neg (by omega), if_pos g.1], Or.inl g⟩
  · have e : mvr K X p k r n 80 p' = X 80 p' := by
      rcases h with h | h | ⟨h1, h2⟩ | ⟨h1, h2⟩
      · unfold mvr; rw [if_neg (by omega), if_pos h.1, me_i _ (by omega)]
      · unfold mvr; rw [if_neg (by omega), if_neg (by omega), if_pos h.1, me_i _ np]
      · unfold mvr; rw [if_neg (by omega), if_neg (by omega), if_neg (by omega), if_pos h1, me_ne _ _ _ _ (by decide)]
      · unfold mvr; rw [if_neg (by omega), if_neg (by omega), if_neg (by omega), if_neg (by omega), me_ne _ _ _ _ (by decide)]
    refine ⟨?_, Or.inr (Or.inl ⟨g.1, g.2.1, g.2.2.1, by rw [e]; exact g.2.2.2⟩)⟩
    unfold rmr
    rw [if_neg (by omega), if_neg (by omega), if_pos g.1, if_neg (by omega), if_neg (by omega), if_pos g.1, e]
  · obtain ⟨s12, sf, st, sb, sl, sn⟩ := WK_r W g0 g2
    have e : mvr K X p k r n 81 (101 * r' + (p' % 101 - K 28 r')) = X 81 (101 * r' + (p' % 101 - K 28 r')) := by
      rcases h with h | h | ⟨h1, r0, r1, r2, r3, r4, r5⟩ | ⟨h1, r0, r1, r2, r3, r4, r5, r6⟩
      · unfold mvr; rw [if_neg (by omega), if_pos h.1, me_ne _ _ _ _ (by decide)]
      · unfold mvr; rw [if_neg (by omega), if_neg (by omega), if_pos h.1, me_ne _ _ _ _ (by decide)]
      · obtain ⟨r12, rf, rt, rb, rl, rn⟩ := WK_r W r0 r1
        unfold mvr; rw [if_neg (by omega), if_neg (by omega), if_neg (by omega), if_pos h1, me_i]
        intro y
        have e1 : r' = r := by omega
        subst e1
        omega
      · obtain ⟨r12, rf, rt, rb, rl, rn⟩ := WK_r W r0 r1
        unfold mvr; rw [if_neg (by omega), if_neg (by omega), if_neg (by omega), if_neg (by omega), me_i]
        intro y
        have e1 : r' = r := by omega
        subst e1
        omega
    refine ⟨?_, Or.inr (Or.inr (Or.inl ⟨g1, g0, g2, g3, g4, g5, by rw [e]; exact g6⟩))⟩
    unfold rmr
    rw [if_neg (by omega), if_neg (by omega), if_neg (by omega), if_pos g1, if_neg (by omega), if_neg (by omega), if_neg (by omega), if_pos g1, e]
  · obtain ⟨s12, sf, st, sb, sl, sn⟩ := WK_r W g0 g2
    have st' := st.resolve_left g4
    have e : mvr K X p k r n 81 (101 * r' + p' % 101) = X 81 (101 * r' + p' % 101) := by
      rcases h with h | h | ⟨h1, r0, r1, r2, r3, r4, r5⟩ | ⟨h1, r0, r1, r2, r3, r4, r5, r6⟩
      · unfold mvr; rw [if_neg (by omega), if_pos h.1, me_ne _ _ _ _ (by decide)]
      · unfold mvr; rw [if_neg (by omega), if_neg (by omega), if_pos h.1, me_ne _ _ _ _ (by decide)]
      · obtain ⟨r12, rf, rt, rb, rl, rn⟩ := WK_r W r0 r1
        unfold mvr; rw [if_neg (by omega), if_neg (by omega), if_neg (by omega), if_pos h1, me_i]
        intro y
        have e1 : r' = r := by omega
        subst e1
        omega
      · obtain ⟨r12, rf, rt, rb, rl, rn⟩ := WK_r W r0 r1
        unfold mvr; rw [if_neg (by omega), if_neg (by omega), if_neg (by omega), if_neg (by omega), me_i]
        intro y
        have e1 : r' = r := by omega
        subst e1
        omega
    refine ⟨?_, Or.inr (Or.inr (Or.inr ⟨g1, g0, g2, g3, g4, g5, g6, by rw [e]; exact g7⟩))⟩
    unfold rmr
    rw [if_neg (by omega), if_neg (by omega), if_neg (by omega), if_neg (by omega), if_neg (by omega), if_neg (by omega), if_neg (by omega), if_neg (by omega), e]
theorem Rr_det {M' : Me} {q' : Int} (h : Rr K M p k r q) (h' : Rr K M' p k r q') : q = q' := by
  rcases h with h | h | h | h <;> rcases h' with g | g | g | g <;> omega
theorem ptr_mv {i : Int} (W : WK K) (hs : SR K t X) (pr : PR K M X) (i0 : 0 ≤ i) (i1 : i < X 50 41) (h : Rr K X (X 83 i) k r q) : ∀ (m : Nat) (j : Int), 0 ≤ j → j < i → ptr K X n m (X 83 j) → ptr K (mvr K X (X 83 i) k r n) n m (X 83 j) := by
  intro m
  induction m with
  | zero => intro j j0 j1 hp; exact hp
  | succ m ih =>
    intro j j0 j1 hp
    obtain ⟨hr, hp'⟩ := hp
    have a := (hs.2.2.1 i i0 i1).1
    have b := (hs.2.2.1 j j0 (by omega)).1
    have inj := hs.2.2.2.2
    have np : X 83 j ≠ X 83 i := fun e => by have := inj j i j0 (by omega) i0 i1 e; omega
    simp only [ptr]
    rw [mvr_f (j := 84) (by decide) (by decide) (by decide), mvr_f (j := 85) (by decide) (by decide) (by decide)]
    rcases hp' with ⟨z1, z2⟩ | ⟨q', hq, hp'⟩
    · refine ⟨?_, Or.inl ⟨z1, z2⟩⟩
      have e : mvr K X (X 83 i) k r n 79 = X 79 := by
        have := Rr_k h
        unfold mvr
        rw [if_neg (by omega)]
        repeat' split
        all_goals exact me_f _ (by decide)
      rw [z1] at hr ⊢
      unfold rmr at hr ⊢
      rw [if_pos rfl] at hr ⊢
      rw [e]; exact hr
    · rcases pr j j0 (by omega) with ⟨z, -⟩ | ⟨q2, hq2, l, l0, l1, l2⟩
      · have := Rr_k hq; omega
      · have e := Rr_det hq hq2
        subst e
        have nq : q' ≠ X 83 i := fun e => by
          have := inj l i l0 (by omega) i0 i1 (by rw [l2]; exact e)
          omega
        obtain ⟨g1, g2⟩ := mr_rm (n := n) W a.1 a.2 b.1 b.2 h hq np nq
        refine ⟨by rw [g1]; exact hr, Or.inr ⟨q', g2, ?_⟩⟩
        rw [← l2] at hp' ⊢
        exact ih l l0 (by omega) hp'
/-- the room of the way -/
theorem l_125a {all : Int} (W : WK K) (w : rW K X) (hg : Vg K (rgo X)) (hv : Vs K t (rst X)) (hs : SR K t X) (pr : PR K X X) : ∀ (m : Nat) (i n : Int) (z : Option AV), 0 ≤ i → i < m → i < X 50 41 → 1 ≤ n → (∀ (n' : Int) (k : Nat) (x y : Option AV), 1 ≤ n' → n' ≤ n → (k : Int) ≤ i + 1 → ptr K X n' k (X 83 i) → Rn (d + 4) (blk 125 13) 125 [some (vR 50), some (vI t), some (vI all), some (vI n'), x, some (vI 0), y] [] X Q) → Rn (d + 4) (blk 125 8) 125 [some (vR 50), some (vI t), some (vI all), some (vI n), some (vI (X 83 i)), some (vI 1), z] [] X Q := by
  intro m
  induction m with
  | zero => intro i n z i0 i1; omega
  | succ m ih =>
    intro i n z i0 i1 i2 n1 H
    have a := (hs.2.2.1 i i0 i2)
    generalize ep : X 83 i = p at *
    rw [bq125_8]
    simp only [bq125_9, bq125_10, bq125_11, bq125_12, s_0, lgI_some, s_1I, s_3, s_6, s_8, s_14, s_24, s_25, s_29, cnP_0, cnP_1, cnP_2, cnP_3, cnP_4, cnP_5, s_30, s_31, s_32, s_34, s_47, lgR_some, s_52, res_0, res_1, nlg_n, nlg_I, nlg_R, Bool.true_and, Bool.and_self, Bool.and_true, kd_51, kd_52, kd_53, kd_54, kd_55, kd_56, kd_57, kd_58, kd_59, kd_60, kd_61, kd_62, kd_63, kd_64, kd_65, kd_66, kd_67, kd_68, kd_69, kd_70, kd_71, kd_72, kd_73, kd_74, kd_75, kd_76, kd_77, kd_78, kd_79, kd_80, kd_81, kd_82, kd_83, kd_84, kd_85, ln_51, ln_52, ln_53, ln_54, ln_55, ln_56, ln_57, ln_58, ln_59, ln_60, ln_61, ln_62, ln_63, ln_64, ln_65, ln_66, ln_67, ln_68, ln_69, ln_70, ln_71, ln_72, ln_73, ln_74, ln_75, ln_76, ln_77, ln_78, ln_79, ln_80, ln_81, ln_82, ln_83, ln_84, ln_85, lg_0, lg_1, lg_2, lg_3, lg_4, lg_5, lg_6, lz_0, lz_1, lz_2, lz_3, lz_4, lz_5, lz_6, lp_0, lp_1, lp_2, lp_3, lp_4, lp_5, lp_6, isL_n, isL_I, isL_R, g_50_36, g_50_39, g_50_42, g_50_43, rc_122_50, rc_123_50, List.length_cons, List.length_nil, Nat.reduceAdd, Nat.reduceLT, Nat.reduceLeDiff, true_and, and_true, true_or, or_true, Int.reduceEq, Nat.reduceEqDiff, reduceCtorEq, true_implies, false_implies, not_true_eq_false, not_false_eq_true, Nat.zero_le, Int.zero_add, Nat.zero_add, Nat.lt_add_one, eq_self, forall_const, implies_true, Bool.false_eq_true, false_or, or_false, and_self, ne_eq, me_ne, me_self]
    have key : ∀ n', n' = (if rmr K X p (X 84 p) (X 85 p) < n then rmr K X p (X 84 p) (X 85 p) else n) → 1 ≤ rmr K X p (X 84 p) (X 85 p) → (X 84 p = 0 → p % 101 = K 5 2) → ∀ z, (X 84 p = 0 → Rn (d + 4) (blk 125 8) 125 [some (vR 50), some (vI t), some (vI all), some (vI n'), some (vI p), some (vI 0), z] [] X Q) := by
      intro n' en r1 hsrc z hk
      rw [bq125_8]
      simp only [s_0, lgI_some, s_1I, s_3, s_6, s_8, s_14, s_24, s_25, s_29, cnP_0, cnP_1, cnP_2, cnP_3, cnP_4, cnP_5, s_30, s_32, s_34, s_47, lgR_some, s_52, res_0, res_1, nlg_n, nlg_I, nlg_R, Bool.true_and, Bool.and_self, Bool.and_true, kd_51, kd_52, kd_53, kd_54, kd_55, kd_56, kd_57, kd_58, kd_59, kd_60, kd_61, kd_62, kd_63, kd_64, kd_65, kd_66, kd_67, kd_68, kd_69, kd_70, kd_71, kd_72, kd_73, kd_74, kd_75, kd_76, kd_77, kd_78, kd_79, kd_80, kd_81, kd_82, kd_83, kd_84, kd_85, ln_51, ln_52, ln_53, ln_54, ln_55, ln_56, ln_57, ln_58, ln_59, ln_60, ln_61, ln_62, ln_63, ln_64, ln_65, ln_66, ln_67, ln_68, ln_69, ln_70, ln_71, ln_72, ln_73, ln_74, ln_75, ln_76, ln_77, ln_78, ln_79, ln_80, ln_81, ln_82, ln_83, ln_84, ln_85, lg_0, lg_1, lg_2, lg_3, lg_4, lg_5, lg_6, lz_0, lz_1, lz_2, lz_3, lz_4, lz_5, lz_6, lp_0, lp_1, lp_2, lp_3, lp_4, lp_5, lp_6, isL_n, isL_I, isL_R, g_50_36, g_50_42, g_50_43, rc_123_50, List.length_cons, List.length_nil, Nat.reduceAdd, Nat.reduceLT, Nat.reduceLeDiff, true_and, and_true, true_or, or_true, Int.reduceEq, Nat.reduceEqDiff, reduceCtorEq, true_implies, false_implies, not_true_eq_false, not_false_eq_true, Nat.zero_le, Int.zero_add, Nat.zero_add, Nat.lt_add_one, eq_self, forall_const, implies_true, Bool.false_eq_true, false_or, or_false, and_self, ne_eq, me_ne, me_self]
      have b : 1 ≤ n' ∧ n' ≤ n ∧ n' ≤ rmr K X p (X 84 p) (X 85 p) := by rw [en]; split <;> omega
      exact H n' 1 _ _ b.1 b.2.1 (by omega) ⟨b.2.2, Or.inl ⟨hk, hsrc hk⟩⟩
    rcases pr i i0 i2 with ⟨z1, z2, z3⟩ | ⟨q, hq, j, j0, j1, j2⟩
    · rw [ep] at z1 z2 z3
      have r1 : 1 ≤ rmr K X p (X 84 p) (X 85 p) := by unfold rmr; rw [if_pos z1]; omega
      refine c_123 (q := 0) W w hg hv a.1.1 a.1.2 rfl rfl (Or.inl z1) ?_
      simp only [bq125_9, bq125_10, bq125_11, bq125_12, s_0, lgI_some, s_1I, s_3, s_6, s_8, s_14, s_24, s_25, s_29, cnP_0, cnP_1, cnP_2, cnP_3, cnP_4, cnP_5, s_30, s_31, s_32, s_34, s_47, lgR_some, s_52, res_0, res_1, nlg_n, nlg_I, nlg_R, Bool.true_and, Bool.and_self, Bool.and_true, kd_51, kd_52, kd_53, kd_54, kd_55, kd_56, kd_57, kd_58, kd_59, kd_60, kd_61, kd_62, kd_63, kd_64, kd_65, kd_66, kd_67, kd_68, kd_69, kd_70, kd_71, kd_72, kd_73, kd_74, kd_75, kd_76, kd_77, kd_78, kd_79, kd_80, kd_81, kd_82, kd_83, kd_84, kd_85, ln_51, ln_52, ln_53, ln_54, ln_55, ln_56, ln_57, ln_58, ln_59, ln_60, ln_61, ln_62, ln_63, ln_64, ln_65, ln_66, ln_67, ln_68, ln_69, ln_70, ln_71, ln_72, ln_73, ln_74, ln_75, ln_76, ln_77, ln_78, ln_79, ln_80, ln_81, ln_82, ln_83, ln_84, ln_85, lg_0, lg_1, lg_2, lg_3, lg_4, lg_5, lg_6, lz_0, lz_1, lz_2, lz_3, lz_4, lz_5, lz_6, lp_0, lp_1, lp_2, lp_3, lp_4, lp_5, lp_6, isL_n, isL_I, isL_R, g_50_36, g_50_39, g_50_42, g_50_43, rc_122_50, rc_123_50, List.length_cons, List.length_nil, Nat.reduceAdd, Nat.reduceLT, Nat.reduceLeDiff, true_and, and_true, true_or, or_true, Int.reduceEq, Nat.reduceEqDiff, reduceCtorEq, true_implies, false_implies, not_true_eq_false, not_false_eq_true, Nat.zero_le, Int.zero_add, Nat.zero_add, Nat.lt_add_one, eq_self, forall_const, implies_true, Bool.false_eq_true, false_or, or_false, and_self, ne_eq, me_ne, me_self, a.1.1, a.1.2, z1]
      rw [z1] at r1
      refine ⟨fun c => ?_, fun c => ?_⟩
      · exact key n (by rw [z1, if_neg (by omega)]) (by rw [z1]; exact r1) (fun _ => z2) _ z1
      · exact key _ (by rw [z1, if_pos (by omega)]) (by rw [z1]; exact r1) (fun _ => z2) _ z1
    · rw [ep] at hq
      have r1 := Rr_rm hq
      have kk := Rr_k hq
      have c122 : ∀ (n' : Int) (z : Option AV), n' = (if rmr K X p (X 84 p) (X 85 p) < n then rmr K X p (X 84 p) (X 85 p) else n) → Cl (d + 3) 122 [vR 50, vI p] X (fun w M2 => Rn (d + 4) (blk 125 8) 125 [some (vR 50), some (vI t), some (vI all), some (vI n'), some (vI w), some (vI 1), z] [] M2 Q) := by
        intro n' z en
        have b : 1 ≤ n' ∧ n' ≤ n ∧ n' ≤ rmr K X p (X 84 p) (X 85 p) := by rw [en]; split <;> omega
        refine c_122 W w a.1.1 a.1.2 rfl rfl hq ?_
        rw [← j2]
        refine ih j n' _ j0 (by omega) (by omega) b.1 (fun n2 k x y m1 m2 m3 m4 => ?_)
        rw [j2] at m4
        exact H n2 (k + 1) _ _ m1 (by omega) (by omega) ⟨by omega, Or.inr ⟨q, hq, m4⟩⟩
      refine c_123 W w hg hv a.1.1 a.1.2 rfl rfl (Or.inr hq) ?_
      simp only [bq125_9, bq125_10, bq125_11, bq125_12, s_0, lgI_some, s_1I, s_3, s_6, s_8, s_14, s_24, s_25, s_29, cnP_0, cnP_1, cnP_2, cnP_3, cnP_4, cnP_5, s_30, s_31, s_32, s_34, s_47, lgR_some, s_52, res_0, res_1, nlg_n, nlg_I, nlg_R, Bool.true_and, Bool.and_self, Bool.and_true, kd_51, kd_52, kd_53, kd_54, kd_55, kd_56, kd_57, kd_58, kd_59, kd_60, kd_61, kd_62, kd_63, kd_64, kd_65, kd_66, kd_67, kd_68, kd_69, kd_70, kd_71, kd_72, kd_73, kd_74, kd_75, kd_76, kd_77, kd_78, kd_79, kd_80, kd_81, kd_82, kd_83, kd_84, kd_85, ln_51, ln_52, ln_53, ln_54, ln_55, ln_56, ln_57, ln_58, ln_59, ln_60, ln_61, ln_62, ln_63, ln_64, ln_65, ln_66, ln_67, ln_68, ln_69, ln_70, ln_71, ln_72, ln_73, ln_74, ln_75, ln_76, ln_77, ln_78, ln_79, ln_80, ln_81, ln_82, ln_83, ln_84, ln_85, lg_0, lg_1, lg_2, lg_3, lg_4, lg_5, lg_6, lz_0, lz_1, lz_2, lz_3, lz_4, lz_5, lz_6, lp_0, lp_1, lp_2, lp_3, lp_4, lp_5, lp_6, isL_n, isL_I, isL_R, g_50_36, g_50_39, g_50_42, g_50_43, rc_122_50, rc_123_50, List.length_cons, List.length_nil, Nat.reduceAdd, Nat.reduceLT, Nat.reduceLeDiff, true_and, and_true, true_or, or_true, Int.reduceEq, Nat.reduceEqDiff, reduceCtorEq, true_implies, false_implies, not_true_eq_false, not_false_eq_true, Nat.zero_le, Int.zero_add, Nat.zero_add, Nat.lt_add_one, eq_self, forall_const, implies_true, Bool.false_eq_true, false_or, or_false, and_self, ne_eq, me_ne, me_self, a.1.1, a.1.2, show ¬ X 84 p = 0 by omega]
      refine ⟨fun c => ?_, fun c => ?_⟩
      · exact c122 n _ (by rw [if_neg (by omega)])
      · exact c122 _ _ (by rw [if_pos (by omega)])
end LD

/-! the reference seeks -/
/-- each that was seen has people, or was come to from one seen before it -/
def PR (K M X : Me) : Prop := ∀ i, 0 ≤ i → i < X 50 41 → (X 84 (X 83 i) = 0 ∧ X 83 i % 101 = K 5 2 ∧ M 79 (X 83 i / 101) < K 13 (X 83 i / 101)) ∨ ∃ q, Rr K M (X 83 i) (X 84 (X 83 i)) (X 85 (X 83 i)) q ∧ ∃ j, 0 ≤ j ∧ j < i ∧ X 83 j = q
def SQ (M X : Me) : Prop := (∀ k, k ∉ [50, 82, 83, 84, 85] → X k = M k) ∧ (∀ j, j ≠ 41 → j ≠ 42 → j ≠ 43 → X 50 j = M 50 j)
section SK
variable {d : Nat} {K M X X1 : Me} {t : Int} {Q : Int → Me → Prop}
theorem Rr_cg {p k r q : Int} (h80 : X 80 = M 80) (h81 : X 81 = M 81) : Rr K X p k r q = Rr K M p k r q := by
  unfold Rr; rw [h80, h81]
theorem Dr_mo {p : Int} (W : WK K) (p0 : 0 ≤ p) (p1 : p < 1010) (ht : t ≤ 100) (m : ∀ q, 0 ≤ q → q < 1010 → X 82 q = 1 → X1 82 q = 1) (e80 : X1 80 = X 80) (e81 : X1 81 = X 81) (h : Dr K t X p) : Dr K t X1 p := by
  have hn := W.2.2
  obtain ⟨a1, a2, a3, a4⟩ := h
  refine ⟨?_, ?_, ?_, ?_⟩
  · intro z1 z2; exact m _ (by omega) (by omega) (a1 z1 z2)
  · rw [e80]; intro z1 z2; exact m _ (by omega) (by omega) (a2 z1 z2)
  · rw [e81]; intro r r0 r1 r2 r3 r4
    obtain ⟨r12, rf, rt, rb, rl, rn⟩ := WK_r W r0 r1
    have := a3 r r0 r1 r2 r3 r4
    exact ⟨this.1, fun b => m _ (by have := b.1; have := b.2.1; omega) (by have := b.1; have := b.2.1; omega) (this.2 b)⟩
  · rw [e81]; intro r r0 r1 r2 r3 r4
    obtain ⟨r12, rf, rt, rb, rl, rn⟩ := WK_r W r0 r1
    exact m _ (by omega) (by omega) (a4 r r0 r1 r2 r3 r4)
theorem PR_mr {p : Int} (hs : SR K t X) (e80 : X 80 = M 80) (e81 : X 81 = M 81) (pr : PR K M X) (p0 : 0 ≤ p) (p1 : p < 1010) (hp : X 82 p = 1) (m : Mr K t (fun q k r => Rr K X q k r p) X X1) : PR K M X1 := by
  intro i i0 i1
  by_cases z : i < X 50 41
  · have a := hs.2.2.1 i i0 z
    have x := m.2.2.2.2.2.1 _ a.1.1 a.1.2 a.2
    rw [m.2.2.2.2.1 i i0 z, x.1, x.2]
    refine (pr i i0 z).imp id (fun ⟨q, q1, j, j0, j1, j2⟩ => ⟨q, q1, j, j0, j1, by rw [m.2.2.2.2.1 j j0 (by omega)]; exact j2⟩)
  · have g : Rr K X (X1 83 i) (X1 84 (X1 83 i)) (X1 85 (X1 83 i)) p := m.2.2.2.2.2.2.1 i (by omega) i1
    rw [Rr_cg e80 e81] at g
    obtain ⟨j, j0, j1, j2⟩ := (hs.2.2.2.1 p p0 p1 hp).1
    exact Or.inr ⟨p, g, j, j0, by omega, by rw [m.2.2.2.2.1 j j0 j1]; exact j2⟩
theorem PR_Rz (W : WK K) (hs : SR K t X) (pr : PR K M X) : ∀ (m : Nat) (i : Int), 0 ≤ i → i < m → i < X 50 41 → Rz K t (rgo M) (rwt M) (rst M) (X 83 i / 101) (X 83 i % 101) := by
  have hn := W.2.2
  have cz := Rz_cz (K := K) (t := t) (g := rgo M) (wt := rwt M) (st := rst M)
  intro m
  induction m with
  | zero => intro i i0 i1; omega
  | succ m ih =>
    intro i i0 i1 i2
    have a := hs.2.2.1 i i0 i2
    obtain ⟨-, ap, at'⟩ := hs.2.2.2.1 _ a.1.1 a.1.2 a.2
    rcases pr i i0 i2 with ⟨z1, z2, z3⟩ | ⟨q, hq, j, j0, j1, j2⟩
    · rw [z2] at ap ⊢
      exact cz.1 _ ap z3
    · have rq := ih j j0 (by omega) (by omega)
      have b := hs.2.2.1 j j0 (by omega)
      obtain ⟨-, bp', bt⟩ := hs.2.2.2.1 _ b.1.1 b.1.2 b.2
      rw [j2] at rq bp' bt b
      generalize X 83 i = p at *
      rcases hq with h | h | ⟨h1, r0, r1, r2, r3, r4, r5⟩ | ⟨h1, r0, r1, r2, r3, r4, r5, r6⟩
      · rw [show q / 101 = p / 101 by omega, show q % 101 = p % 101 - 1 by omega] at rq bp'
        have := cz.2.1 (p / 101) (p % 101 - 1) rq bp' (by rw [show p % 101 - 1 + 1 = p % 101 by omega]; exact ap) (by omega)
        rwa [show p % 101 - 1 + 1 = p % 101 by omega] at this
      · rw [show q / 101 = p / 101 by omega, show q % 101 = p % 101 + 1 by omega] at rq
        refine cz.2.2.1 (p / 101) (p % 101) rq ap ?_
        unfold rwt
        rw [show 101 * (p / 101) + p % 101 = p by omega]; exact h.2.2.2
      · obtain ⟨r12, rf, rt, rb, rl, rn⟩ := WK_r W r0 r1
        generalize X 85 p = r at *
        rw [show q / 101 = K 25 r by omega, show q % 101 = p % 101 - K 28 r by omega] at rq bp'
        have := cz.2.2.2.1 r (p % 101 - K 28 r) r0 r12 r1 (by omega) rq bp' (by rw [r2, show p % 101 - K 28 r + K 28 r = p % 101 by omega]; exact ap) (by omega) r5
        rwa [r2, show p % 101 - K 28 r + K 28 r = p % 101 by omega] at this
      · obtain ⟨r12, rf, rt, rb, rl, rn⟩ := WK_r W r0 r1
        generalize X 85 p = r at *
        have rt' := rt.resolve_left r3
        rw [show q / 101 = K 26 r by omega, show q % 101 = p % 101 + K 28 r by omega] at rq
        have := cz.2.2.2.2 r (p % 101) r0 r12 r1 r3 rq (by rw [r2]; exact ap) r6
        rwa [r2] at this
theorem l_120c (W : WK K) (hw : Vw K t (rwt M)) (hv : Vs K t (rst M)) (ht : t ≤ 100)
    (H1 : ∀ X p r, SQ M X → SR K t X → PR K M X → X 50 42 = p → X 50 43 = r → 0 ≤ p → p < 1010 → X 82 p = 1 → 0 ≤ r → r < K 3 8 → K 25 r = p / 101 → K 26 r = -1 → p % 101 + K 28 r ≤ t → M 81 (101 * r + p % 101) < K 27 r → Q 1 X)
    (H2 : ∀ X, SQ M X → SR K t X → PR K M X → (∀ q, 0 ≤ q → q < 1010 → X 82 q = 1 → Dr K t X q) → (∀ q, 0 ≤ q → q < 1010 → X1 82 q = 1 → X 82 q = 1) → Q 0 X) :
    ∀ (n : Nat) (X : Me) (k : Int), 0 ≤ k → k + (n : Int) = 1010 → SQ M X → BR K t M X → PR K M X → X 50 42 = -1 → (∀ i, 0 ≤ i → i < k → i < X 50 41 → Dr K t X (X 83 i)) → (∀ q, 0 ≤ q → q < 1010 → X1 82 q = 1 → X 82 q = 1) → Rn (d + 3) (blk 120 6) 120 [some (vR 50), some (vI t), some (vI k)] [] X Q := by
  have hn := W.2.2
  have fin : ∀ (X : Me) (k : Int), X 50 41 ≤ k → SQ M X → BR K t M X → PR K M X → X 50 42 = -1 → (∀ i, 0 ≤ i → i < k → i < X 50 41 → Dr K t X (X 83 i)) → (∀ q, 0 ≤ q → q < 1010 → X1 82 q = 1 → X 82 q = 1) → Rn (d + 3) (blk 120 6) 120 [some (vR 50), some (vI t), some (vI k)] [] X Q := by
    intro X k hk F B pr hl hd hX
    rw [bq120_6]
    simp only [bq120_7, bq120_8, bq120_9, s_0, lgI_some, s_3, s_5K, s_13, s_14, s_24, s_30, cnP_0, cnP_1, cnP_2, cnP_3, cnP_4, cnP_5, s_31, s_32, s_37i, s_37z, s_47, lgR_some, s_54, res_0, res_1, nlg_n, nlg_I, nlg_R, Bool.true_and, Bool.and_self, Bool.and_true, kd_51, kd_52, kd_53, kd_54, kd_55, kd_56, kd_57, kd_58, kd_59, kd_60, kd_61, kd_62, kd_63, kd_64, kd_65, kd_66, kd_67, kd_68, kd_69, kd_70, kd_71, kd_72, kd_73, kd_74, kd_75, kd_76, kd_77, kd_78, kd_79, kd_80, kd_81, kd_82, kd_83, kd_84, kd_85, ln_51, ln_52, ln_53, ln_54, ln_55, ln_56, ln_57, ln_58, ln_59, ln_60, ln_61, ln_62, ln_63, ln_64, ln_65, ln_66, ln_67, ln_68, ln_69, ln_70, ln_71, ln_72, ln_73, ln_74, ln_75, ln_76, ln_77, ln_78, ln_79, ln_80, ln_81, ln_82, ln_83, ln_84, ln_85, lg_0, lg_1, lg_2, lz_0, lz_1, lz_2, lp_0, lp_1, lp_2, isL_n, isL_I, isL_R, g_50_38, g_50_41, g_50_42, rc_121_50, List.length_cons, List.length_nil, Nat.reduceAdd, Nat.reduceLT, Nat.reduceLeDiff, true_and, and_true, true_or, or_true, Int.reduceEq, Nat.reduceEqDiff, reduceCtorEq, true_implies, false_implies, not_true_eq_false, not_false_eq_true, Nat.zero_le, Int.zero_add, Nat.zero_add, Nat.lt_add_one, eq_self, forall_const, implies_true, Bool.false_eq_true, false_or, or_false, and_self, ne_eq, me_ne, me_self, hk, hl]
    refine H2 X F B.2.1 pr (fun q q0 q1 hq => ?_) hX
    obtain ⟨i, i0, i1, i2⟩ := (B.2.1.2.2.2.1 q q0 q1 hq).1
    rw [← i2]; exact hd i i0 (by omega) i1
  intro n
  induction n with
  | zero =>
    intro X k k0 k1 F B pr hl hd hX
    have lt : X 50 41 ≤ 1010 := by
      have b := sm_le (n := 1010) (f := fun i => b01 (X 82 i = 1)) (g := fun _ => 1) (fun i _ _ => (b01_bd _).2)
      have c : sm 1010 (fun _ => 1) = 1010 := by decide +kernel
      have := B.2.1.1.2
      omega
    exact fin X k (by omega) F B pr hl hd hX
  | succ n ih =>
    intro X k k0 k1 F B pr hl hd hX
    by_cases q : X 50 41 ≤ k
    · exact fin X k q F B pr hl hd hX
    · have a := B.2.1.2.2.1 k k0 (by omega)
      obtain ⟨-, ap, at'⟩ := B.2.1.2.2.2.1 _ a.1.1 a.1.2 a.2
      generalize ep : X 83 k = p at *
      have et : p.tmod 101 = p % 101 := Int.tmod_eq_emod_of_nonneg a.1.1
      have ed : w32 (p.tdiv 101) = p / 101 := by rw [Int.tdiv_eq_ediv_of_nonneg a.1.1, w32_id (by omega) (by omega)]
      have e80 : X 80 = M 80 := B.2.2.2.1
      have e81 : X 81 = M 81 := B.2.2.2.2
      have ew : rwt X = rwt M := by unfold rwt; rw [e80]
      have es : rst X = rst M := by unfold rst; rw [e81]
      rw [bq120_6]
      simp only [bq120_7, bq120_8, bq120_9, s_0, lgI_some, s_3, s_5K, s_13, s_14, s_24, s_30, cnP_0, cnP_1, cnP_2, cnP_3, cnP_4, cnP_5, s_31, s_32, s_37i, s_37z, s_47, lgR_some, s_54, res_0, res_1, nlg_n, nlg_I, nlg_R, Bool.true_and, Bool.and_self, Bool.and_true, kd_51, kd_52, kd_53, kd_54, kd_55, kd_56, kd_57, kd_58, kd_59, kd_60, kd_61, kd_62, kd_63, kd_64, kd_65, kd_66, kd_67, kd_68, kd_69, kd_70, kd_71, kd_72, kd_73, kd_74, kd_75, kd_76, kd_77, kd_78, kd_79, kd_80, kd_81, kd_82, kd_83, kd_84, kd_85, ln_51, ln_52, ln_53, ln_54, ln_55, ln_56, ln_57, ln_58, ln_59, ln_60, ln_61, ln_62, ln_63, ln_64, ln_65, ln_66, ln_67, ln_68, ln_69, ln_70, ln_71, ln_72, ln_73, ln_74, ln_75, ln_76, ln_77, ln_78, ln_79, ln_80, ln_81, ln_82, ln_83, ln_84, ln_85, lg_0, lg_1, lg_2, lz_0, lz_1, lz_2, lp_0, lp_1, lp_2, isL_n, isL_I, isL_R, g_50_38, g_50_41, g_50_42, rc_121_50, List.length_cons, List.length_nil, Nat.reduceAdd, Nat.reduceLT, Nat.reduceLeDiff, true_and, and_true, true_or, or_true, Int.reduceEq, Nat.reduceEqDiff, reduceCtorEq, true_implies, false_implies, not_true_eq_false, not_false_eq_true, Nat.zero_le, Int.zero_add, Nat.zero_add, Nat.lt_add_one, eq_self, forall_const, implies_true, Bool.false_eq_true, false_or, or_false, and_self, ne_eq, me_ne, me_self, q, hl, ep, et, ed, k0, show k < 1010 by omega, show w32 (k + 1) = k + 1 from w32_id (by omega) (by omega)]
      refine c_121 W ⟨B.1, B.2.1, rfl, rfl, rfl⟩ (by rw [ew]; exact hw) (by rw [es]; exact hv) ht a.1.1 a.1.2 ap at' hl ?_ ?_
      · intro Y r m r0 r1 r2 r3 r4 r5
        have BY := BR_mr B m
        have pY := PR_mr B.2.1 e80 e81 pr a.1.1 a.1.2 a.2 m
        generalize hZ : me_put (me_put Y 50 42 p) 50 43 r = Z
        have z42 : Z 50 42 = p := by rw [← hZ]; simp only [me_f, me_fs, me_ne, me_self, me_i, fu_s, ne_eq, Nat.reduceEqDiff, not_false_eq_true, Int.reduceEq, reduceCtorEq]
        have z43 : Z 50 43 = r := by rw [← hZ]; simp only [me_f, me_fs, me_ne, me_self, me_i, fu_s, ne_eq, Nat.reduceEqDiff, not_false_eq_true, Int.reduceEq, reduceCtorEq]
        have z50 : ∀ j, j ≠ 42 → j ≠ 43 → Z 50 j = Y 50 j := fun j q1 q2 => by rw [← hZ, me_i _ q2, me_i _ q1]
        have zk : ∀ k, k ≠ 50 → Z k = Y k := fun k q => by rw [← hZ, me_f _ q, me_f _ q]
        have SZ : SR K t Z := by
          unfold SR
          rw [z50 41 (by decide) (by decide), zk 82 (by decide), zk 83 (by decide)]
          exact BY.2.1
        have pZ : PR K M Z := by
          unfold PR
          rw [z50 41 (by decide) (by decide), zk 83 (by decide), zk 84 (by decide), zk 85 (by decide)]
          exact pY
        have out := H1 Z p r ⟨fun k q => by rw [zk k (fun e => q (by simp [e])), m.1 k q, F.1 k q], fun j q1 q2 q3 => by rw [z50 j q2 q3, m.2.1 j q1, F.2 j q1 q2 q3]⟩ SZ pZ z42 z43 a.1.1 a.1.2 (by rw [zk 82 (by decide)]; exact Mr_mk m a.1.1 a.1.2 a.2) r0 r1 r2 r3 r4 (by rw [← e81]; exact r5)
        rw [bq120_6]
        simp only [bq120_7, bq120_8, bq120_9, s_0, lgI_some, s_3, s_5K, s_13, s_14, s_24, s_30, cnP_0, cnP_1, cnP_2, cnP_3, cnP_4, cnP_5, s_31, s_32, s_37i, s_37z, s_47, lgR_some, s_54, res_0, res_1, nlg_n, nlg_I, nlg_R, Bool.true_and, Bool.and_self, Bool.and_true, kd_51, kd_52, kd_53, kd_54, kd_55, kd_56, kd_57, kd_58, kd_59, kd_60, kd_61, kd_62, kd_63, kd_64, kd_65, kd_66, kd_67, kd_68, kd_69, kd_70, kd_71, kd_72, kd_73, kd_74, kd_75, kd_76, kd_77, kd_78, kd_79, kd_80, kd_81, kd_82, kd_83, kd_84, kd_85, ln_51, ln_52, ln_53, ln_54, ln_55, ln_56, ln_57, ln_58, ln_59, ln_60, ln_61, ln_62, ln_63, ln_64, ln_65, ln_66, ln_67, ln_68, ln_69, ln_70, ln_71, ln_72, ln_73, ln_74, ln_75, ln_76, ln_77, ln_78, ln_79, ln_80, ln_81, ln_82, ln_83, ln_84, ln_85, lg_0, lg_1, lg_2, lz_0, lz_1, lz_2, lp_0, lp_1, lp_2, isL_n, isL_I, isL_R, g_50_38, g_50_41, g_50_42, rc_121_50, List.length_cons, List.length_nil, Nat.reduceAdd, Nat.reduceLT, Nat.reduceLeDiff, true_and, and_true, true_or, or_true, Int.reduceEq, Nat.reduceEqDiff, reduceCtorEq, true_implies, false_implies, not_true_eq_false, not_false_eq_true, Nat.zero_le, Int.zero_add, Nat.zero_add, Nat.lt_add_one, eq_self, forall_const, implies_true, Bool.false_eq_true, false_or, or_false, and_self, ne_eq, me_ne, me_self, z42, show ¬ p = -1 by omega]
        exact ⟨fun _ => out, fun _ => out⟩
      · intro Y m dr
        have BY := BR_mr B m
        have pY := PR_mr B.2.1 e80 e81 pr a.1.1 a.1.2 a.2 m
        refine ih Y (k + 1) (by omega) (by omega) ⟨fun k q => by rw [m.1 k q, F.1 k q], fun j q1 q2 q3 => by rw [m.2.1 j q1, F.2 j q1 q2 q3]⟩ BY pY (by rw [m.2.1 42 (by decide)]; exact hl) (fun i i0 i1 i2 => ?_) (fun q q0 q1 hq => Mr_mk m q0 q1 (hX q q0 q1 hq))
        by_cases z : i = k
        · rw [z, m.2.2.2.2.1 k k0 (by omega), ep]; exact dr
        · rw [m.2.2.2.2.1 i i0 (by omega)]
          have b := B.2.1.2.2.1 i i0 (by omega)
          exact Dr_mo W b.1.1 b.1.2 ht (fun q q0 q1 hq => Mr_mk m q0 q1 hq) (by rw [BY.2.2.2.1, e80]) (by rw [BY.2.2.2.2, e81]) (hd i i0 (by omega) (by omega))
theorem l_120b (W : WK K) (ht : t ≤ 100) (h0 : K 5 2 ≤ t)
    (H : ∀ X y, SQ M X → BR K t M X → PR K M X → X 50 42 = -1 → (∀ c, 0 ≤ c → c < K 1 8 → pl K c (K 5 2) → M 79 c < K 13 c → X 82 (101 * c + K 5 2) = 1) → Rn (d + 3) (blk 120 5) 120 [some (vR 50), some (vI t), y] [] X Q) :
    ∀ (n : Nat) (X : Me) (c : Int), 0 ≤ c → c + (n : Int) = K 1 8 → SQ M X → BR K t M X → PR K M X → X 50 42 = -1 → (∀ c', 0 ≤ c' → c' < c → pl K c' (K 5 2) → M 79 c' < K 13 c' → X 82 (101 * c' + K 5 2) = 1) → Rn (d + 3) (blk 120 3) 120 [some (vR 50), some (vI t), some (vI c)] [] X Q := by
  have hn := W.2.2
  have hb := W.1.1
  intro n
  induction n with
  | zero =>
    intro X c c0 c1 F B pr hl hc
    rw [bq120_3]
    simp only [bq120_4, s_0, lgI_some, s_1I, s_3, s_5K, s_24, s_29, cnP_0, cnP_1, cnP_2, cnP_3, cnP_4, cnP_5, s_30, s_31, s_32, s_47, lgR_some, s_54, s_55, res_0, res_1, nlg_n, nlg_I, nlg_R, Bool.true_and, Bool.and_self, Bool.and_true, kd_51, kd_52, kd_53, kd_54, kd_55, kd_56, kd_57, kd_58, kd_59, kd_60, kd_61, kd_62, kd_63, kd_64, kd_65, kd_66, kd_67, kd_68, kd_69, kd_70, kd_71, kd_72, kd_73, kd_74, kd_75, kd_76, kd_77, kd_78, kd_79, kd_80, kd_81, kd_82, kd_83, kd_84, kd_85, ln_51, ln_52, ln_53, ln_54, ln_55, ln_56, ln_57, ln_58, ln_59, ln_60, ln_61, ln_62, ln_63, ln_64, ln_65, ln_66, ln_67, ln_68, ln_69, ln_70, ln_71, ln_72, ln_73, ln_74, ln_75, ln_76, ln_77, ln_78, ln_79, ln_80, ln_81, ln_82, ln_83, ln_84, ln_85, lg_0, lg_1, lg_2, lz_0, lz_1, lz_2, lp_0, lp_1, lp_2, isL_n, isL_I, isL_R, g_50_0, g_50_1, g_50_34, g_50_6, rc_118_50, rc_119_50, List.length_cons, List.length_nil, Nat.reduceAdd, Nat.reduceLT, Nat.reduceLeDiff, true_and, and_true, true_or, or_true, Int.reduceEq, Nat.reduceEqDiff, reduceCtorEq, true_implies, false_implies, not_true_eq_false, not_false_eq_true, Nat.zero_le, Int.zero_add, Nat.zero_add, Nat.lt_add_one, eq_self, forall_const, implies_true, Bool.false_eq_true, false_or, or_false, and_self, ne_eq, me_ne, me_self, B.1.2.1.2.2, show K 1 8 ≤ c by omega]
    exact H X _ F B pr hl (fun c' a b => hc c' a (by omega))
  | succ n ih =>
    intro X c c0 c1 F B pr hl hc
    obtain ⟨⟨l69, l70, l71, l72, l55, l51, l52⟩, ⟨n23, n0, n1⟩, tb⟩ := B.1
    have nxt : ∀ Y, SQ M Y → BR K t M Y → PR K M Y → Y 50 42 = -1 → (∀ c', 0 ≤ c' → c' < c + 1 → pl K c' (K 5 2) → M 79 c' < K 13 c' → Y 82 (101 * c' + K 5 2) = 1) → Rn (d + 3) (blk 120 3) 120 [some (vR 50), some (vI t), some (vI (c + 1))] [] Y Q := fun Y a1 a2 a3 a4 a5 => ih Y (c + 1) (by omega) (by omega) a1 a2 a3 a4 a5
    rw [bq120_3]
    simp only [bq120_4, s_0, lgI_some, s_1I, s_3, s_5K, s_24, s_29, cnP_0, cnP_1, cnP_2, cnP_3, cnP_4, cnP_5, s_30, s_31, s_32, s_47, lgR_some, s_54, s_55, res_0, res_1, nlg_n, nlg_I, nlg_R, Bool.true_and, Bool.and_self, Bool.and_true, kd_51, kd_52, kd_53, kd_54, kd_55, kd_56, kd_57, kd_58, kd_59, kd_60, kd_61, kd_62, kd_63, kd_64, kd_65, kd_66, kd_67, kd_68, kd_69, kd_70, kd_71, kd_72, kd_73, kd_74, kd_75, kd_76, kd_77, kd_78, kd_79, kd_80, kd_81, kd_82, kd_83, kd_84, kd_85, ln_51, ln_52, ln_53, ln_54, ln_55, ln_56, ln_57, ln_58, ln_59, ln_60, ln_61, ln_62, ln_63, ln_64, ln_65, ln_66, ln_67, ln_68, ln_69, ln_70, ln_71, ln_72, ln_73, ln_74, ln_75, ln_76, ln_77, ln_78, ln_79, ln_80, ln_81, ln_82, ln_83, ln_84, ln_85, lg_0, lg_1, lg_2, lz_0, lz_1, lz_2, lp_0, lp_1, lp_2, isL_n, isL_I, isL_R, g_50_0, g_50_1, g_50_34, g_50_6, rc_118_50, rc_119_50, List.length_cons, List.length_nil, Nat.reduceAdd, Nat.reduceLT, Nat.reduceLeDiff, true_and, and_true, true_or, or_true, Int.reduceEq, Nat.reduceEqDiff, reduceCtorEq, true_implies, false_implies, not_true_eq_false, not_false_eq_true, Nat.zero_le, Int.zero_add, Nat.zero_add, Nat.lt_add_one, eq_self, forall_const, implies_true, Bool.false_eq_true, false_or, or_false, and_self, ne_eq, me_ne, me_self, n1, n0, show ¬ K 1 8 ≤ c by omega, show w32 (c + 1) = c + 1 from w32_id (by omega) (by omega)]
    rw [q_118 W B.1 c0 (by omega) ht]
    simp only [bq120_4, s_0, lgI_some, s_1I, s_3, s_5K, s_24, s_29, cnP_0, cnP_1, cnP_2, cnP_3, cnP_4, cnP_5, s_30, s_31, s_32, s_47, lgR_some, s_54, s_55, res_0, res_1, nlg_n, nlg_I, nlg_R, Bool.true_and, Bool.and_self, Bool.and_true, kd_51, kd_52, kd_53, kd_54, kd_55, kd_56, kd_57, kd_58, kd_59, kd_60, kd_61, kd_62, kd_63, kd_64, kd_65, kd_66, kd_67, kd_68, kd_69, kd_70, kd_71, kd_72, kd_73, kd_74, kd_75, kd_76, kd_77, kd_78, kd_79, kd_80, kd_81, kd_82, kd_83, kd_84, kd_85, ln_51, ln_52, ln_53, ln_54, ln_55, ln_56, ln_57, ln_58, ln_59, ln_60, ln_61, ln_62, ln_63, ln_64, ln_65, ln_66, ln_67, ln_68, ln_69, ln_70, ln_71, ln_72, ln_73, ln_74, ln_75, ln_76, ln_77, ln_78, ln_79, ln_80, ln_81, ln_82, ln_83, ln_84, ln_85, lg_0, lg_1, lg_2, lz_0, lz_1, lz_2, lp_0, lp_1, lp_2, isL_n, isL_I, isL_R, g_50_0, g_50_1, g_50_34, g_50_6, rc_118_50, rc_119_50, List.length_cons, List.length_nil, Nat.reduceAdd, Nat.reduceLT, Nat.reduceLeDiff, true_and, and_true, true_or, or_true, Int.reduceEq, Nat.reduceEqDiff, reduceCtorEq, true_implies, false_implies, not_true_eq_false, not_false_eq_true, Nat.zero_le, Int.zero_add, Nat.zero_add, Nat.lt_add_one, eq_self, forall_const, implies_true, Bool.false_eq_true, false_or, or_false, and_self, ne_eq, me_ne, me_self, b01_z, Classical.not_not, l55, B.2.2.1, n0, c0, show c < 10 by omega, show w32 (c + 1) = c + 1 from w32_id (by omega) (by omega)]
    refine ⟨fun q => ?_, fun q => ⟨fun q2 => ?_, fun q2 => ?_⟩⟩
    · refine nxt X F B pr hl (fun c' a0 a1 a2 a3 => ?_)
      by_cases z : c' = c
      · subst z; exact (q ⟨a2, h0⟩).elim
      · exact hc c' a0 (by omega) a2 a3
    · refine nxt X F B pr hl (fun c' a0 a1 a2 a3 => ?_)
      by_cases z : c' = c
      · subst z; omega
      · exact hc c' a0 (by omega) a2 a3
    · refine c_119 (P := fun q k r => k = 0 ∧ q = 101 * c + K 5 2) B.2.1 c0 (by omega) (by omega) hn.2 q.1 h0 ⟨rfl, rfl⟩ (fun Y m y1 => ?_)
      have BY := BR_mr B m
      refine nxt Y ⟨fun k q => by rw [m.1 k q, F.1 k q], fun j q1 q2 q3 => by rw [m.2.1 j q1, F.2 j q1 q2 q3]⟩ BY ?_ (by rw [m.2.1 42 (by decide)]; exact hl) (fun c' a0 a1 a2 a3 => ?_)
      · intro i i0 i1
        by_cases z : i < X 50 41
        · have a := B.2.1.2.2.1 i i0 z
          have x := m.2.2.2.2.2.1 _ a.1.1 a.1.2 a.2
          rw [m.2.2.2.2.1 i i0 z, x.1, x.2]
          refine (pr i i0 z).imp id (fun ⟨q, q1, j, j0, j1, j2⟩ => ⟨q, q1, j, j0, j1, by rw [m.2.2.2.2.1 j j0 (by omega)]; exact j2⟩)
        · obtain ⟨g1, g2⟩ := m.2.2.2.2.2.2.1 i (by omega) i1
          refine Or.inl ⟨g1, by omega, ?_⟩
          rw [show Y 83 i / 101 = c by omega]; omega
      · by_cases z : c' = c
        · subst z; exact y1
        · exact Mr_mk m (by omega) (by omega) (hc c' a0 (by omega) a2 a3)
/-- the reference seeks a way -/
theorem c_120 (W : WK K) (w : rW K M) (hw : Vw K t (rwt M)) (hv : Vs K t (rst M)) (ht : t ≤ 100) (h0 : K 5 2 ≤ t)
    (H1 : ∀ X p r, SQ M X → SR K t X → PR K M X → X 50 42 = p → X 50 43 = r → 0 ≤ p → p < 1010 → X 82 p = 1 → 0 ≤ r → r < K 3 8 → K 25 r = p / 101 → K 26 r = -1 → p % 101 + K 28 r ≤ t → M 81 (101 * r + p % 101) < K 27 r → Q 1 X)
    (H2 : ∀ X, SQ M X → SR K t X → PR K M X → (∀ q, 0 ≤ q → q < 1010 → X 82 q = 1 → Dr K t X q) → (∀ c, 0 ≤ c → c < K 1 8 → pl K c (K 5 2) → M 79 c < K 13 c → X 82 (101 * c + K 5 2) = 1) → Q 0 X) : Cl (d + 3) 120 [vR 50, vI t] M Q := by
  have hn := W.2.2
  have hb := W.1.1
  have lp : ∀ (n : Nat) (X : Me) (i : Int), 0 ≤ i → i + (n : Int) = 1010 → (∀ k, k ≠ 82 → X k = M k) → (∀ j, 0 ≤ j → j < i → X 82 j = 0) → Rn (d + 3) (blk 120 1) 120 [some (vR 50), some (vI t), some (vI i)] [] X Q := by
    intro n
    induction n with
    | zero =>
      intro X i i0 i1 h1 h2
      rw [bq120_1]
      simp only [bq120_2, s_0, lgI_some, s_1I, s_3, s_5K, s_24, s_26, s_29, cnP_0, cnP_1, cnP_2, cnP_3, cnP_4, cnP_5, s_30, s_31, s_32, s_47, lgR_some, s_54, s_55, res_0, res_1, nlg_n, nlg_I, nlg_R, Bool.true_and, Bool.and_self, Bool.and_true, kd_51, kd_52, kd_53, kd_54, kd_55, kd_56, kd_57, kd_58, kd_59, kd_60, kd_61, kd_62, kd_63, kd_64, kd_65, kd_66, kd_67, kd_68, kd_69, kd_70, kd_71, kd_72, kd_73, kd_74, kd_75, kd_76, kd_77, kd_78, kd_79, kd_80, kd_81, kd_82, kd_83, kd_84, kd_85, ln_51, ln_52, ln_53, ln_54, ln_55, ln_56, ln_57, ln_58, ln_59, ln_60, ln_61, ln_62, ln_63, ln_64, ln_65, ln_66, ln_67, ln_68, ln_69, ln_70, ln_71, ln_72, ln_73, ln_74, ln_75, ln_76, ln_77, ln_78, ln_79, ln_80, ln_81, ln_82, ln_83, ln_84, ln_85, lg_0, lg_1, lg_2, lz_0, lz_1, lz_2, lp_0, lp_1, lp_2, isL_n, isL_I, isL_R, g_50_0, g_50_1, g_50_34, g_50_37, g_50_6, p_50_41, p_50_42, rc_118_50, rc_119_50, List.length_cons, List.length_nil, Nat.reduceAdd, Nat.reduceLT, Nat.reduceLeDiff, true_and, and_true, true_or, or_true, Int.reduceEq, Nat.reduceEqDiff, reduceCtorEq, true_implies, false_implies, not_true_eq_false, not_false_eq_true, Nat.zero_le, Int.zero_add, Nat.zero_add, Nat.lt_add_one, eq_self, forall_const, implies_true, Bool.false_eq_true, false_or, or_false, and_self, ne_eq, me_ne, me_self, show 1010 ≤ i by omega]
      generalize hZ : me_put (me_put X 50 41 0) 50 42 (-1) = Z
      have z41 : Z 50 41 = 0 := by rw [← hZ]; simp only [me_f, me_fs, me_ne, me_self, me_i, fu_s, ne_eq, Nat.reduceEqDiff, not_false_eq_true, Int.reduceEq, reduceCtorEq]
      have z42 : Z 50 42 = -1 := by rw [← hZ]; simp only [me_f, me_fs, me_ne, me_self, me_i, fu_s, ne_eq, Nat.reduceEqDiff, not_false_eq_true, Int.reduceEq, reduceCtorEq]
      have zk : ∀ k, k ≠ 50 → k ≠ 82 → Z k = M k := fun k q1 q2 => by rw [← hZ, me_f _ q1, me_f _ q1, h1 k q2]
      have z50 : ∀ j, j ≠ 41 → j ≠ 42 → Z 50 j = M 50 j := fun j q1 q2 => by rw [← hZ, me_i _ q2, me_i _ q1, h1 50 (by decide)]
      have z82 : ∀ j, 0 ≤ j → j < 1010 → Z 82 j = 0 := fun j j0 j1 => by rw [← hZ, me_f _ (by decide), me_f _ (by decide)]; exact h2 j j0 (by omega)
      have FZ : SQ M Z := ⟨fun k q => by simp at q; exact zk k q.1 q.2.1, fun j q1 q2 q3 => z50 j q1 q2⟩
      have SZ : SR K t Z := ⟨⟨by omega, by rw [z41, sm_cg (n := 1010) (g := fun _ => 0) (fun i i0 i1 => b01_f (by rw [z82 i i0 (by omega)]; decide)), sm_0]⟩, fun p p0 p1 => Or.inl (z82 p p0 p1), fun i i0 i1 => by omega, fun p p0 p1 q => by rw [z82 p p0 p1] at q; omega, fun i j i0 i1 => by omega⟩
      have WZ : rW K Z := by
        unfold rW
        rw [zk 69 (by decide) (by decide), zk 70 (by decide) (by decide), zk 71 (by decide) (by decide), zk 72 (by decide) (by decide), zk 55 (by decide) (by decide), zk 51 (by decide) (by decide), zk 52 (by decide) (by decide), zk 78 (by decide) (by decide), z50 23 (by decide) (by decide), z50 0 (by decide) (by decide), z50 1 (by decide) (by decide)]
        exact w
      refine l_120b W ht h0 ?_ (K 1 8).toNat Z 0 (Int.le_refl 0) (by omega) FZ ⟨WZ, SZ, zk 79 (by decide) (by decide), zk 80 (by decide) (by decide), zk 81 (by decide) (by decide)⟩ (fun i i0 i1 => by omega) z42 (fun c a b => by omega)
      intro Y y FY BY pY lY cY
      rw [bq120_5]
      simp only [s_0, lgI_some, s_1I, s_3, s_5K, s_13, s_14, s_24, s_30, cnP_0, cnP_1, cnP_2, cnP_3, cnP_4, cnP_5, s_31, s_32, s_47, lgR_some, s_54, res_0, res_1, nlg_n, nlg_I, nlg_R, Bool.true_and, Bool.and_self, Bool.and_true, kd_51, kd_52, kd_53, kd_54, kd_55, kd_56, kd_57, kd_58, kd_59, kd_60, kd_61, kd_62, kd_63, kd_64, kd_65, kd_66, kd_67, kd_68, kd_69, kd_70, kd_71, kd_72, kd_73, kd_74, kd_75, kd_76, kd_77, kd_78, kd_79, kd_80, kd_81, kd_82, kd_83, kd_84, kd_85, ln_51, ln_52, ln_53, ln_54, ln_55, ln_56, ln_57, ln_58, ln_59, ln_60, ln_61, ln_62, ln_63, ln_64, ln_65, ln_66, ln_67, ln_68, ln_69, ln_70, ln_71, ln_72, ln_73, ln_74, ln_75, ln_76, ln_77, ln_78, ln_79, ln_80, ln_81, ln_82, ln_83, ln_84, ln_85, lg_0, lg_1, lg_2, lz_0, lz_1, lz_2, lp_0, lp_1, lp_2, isL_n, isL_I, isL_R, g_50_38, g_50_41, g_50_42, rc_121_50, List.length_cons, List.length_nil, Nat.reduceAdd, Nat.reduceLT, Nat.reduceLeDiff, true_and, and_true, true_or, or_true, Int.reduceEq, Nat.reduceEqDiff, reduceCtorEq, true_implies, false_implies, not_true_eq_false, not_false_eq_true, Nat.zero_le, Int.zero_add, Nat.zero_add, Nat.lt_add_one, eq_self, forall_const, implies_true, Bool.false_eq_true, false_or, or_false, and_self, ne_eq, me_ne, me_self]
      exact l_120c (X1 := Y) W hw hv ht H1 (fun X a b c e f => H2 X a b c e (fun c0 x0 x1 x2 x3 => f _ (by omega) (by omega) (cY c0 x0 x1 x2 x3))) 1010 Y 0 (Int.le_refl 0) (by omega) FY BY pY lY (fun i i0 i1 => by omega) (fun _ _ _ h => h)
    | succ n ih =>
      intro X i i0 i1 h1 h2
      rw [bq120_1]
      simp only [bq120_2, s_0, lgI_some, s_1I, s_3, s_5K, s_24, s_26, s_29, cnP_0, cnP_1, cnP_2, cnP_3, cnP_4, cnP_5, s_30, s_31, s_32, s_47, lgR_some, s_54, s_55, res_0, res_1, nlg_n, nlg_I, nlg_R, Bool.true_and, Bool.and_self, Bool.and_true, kd_51, kd_52, kd_53, kd_54, kd_55, kd_56, kd_57, kd_58, kd_59, kd_60, kd_61, kd_62, kd_63, kd_64, kd_65, kd_66, kd_67, kd_68, kd_69, kd_70, kd_71, kd_72, kd_73, kd_74, kd_75, kd_76, kd_77, kd_78, kd_79, kd_80, kd_81, kd_82, kd_83, kd_84, kd_85, ln_51, ln_52, ln_53, ln_54, ln_55, ln_56, ln_57, ln_58, ln_59, ln_60, ln_61, ln_62, ln_63, ln_64, ln_65, ln_66, ln_67, ln_68, ln_69, ln_70, ln_71, ln_72, ln_73, ln_74, ln_75, ln_76, ln_77, ln_78, ln_79, ln_80, ln_81, ln_82, ln_83, ln_84, ln_85, lg_0, lg_1, lg_2, lz_0, lz_1, lz_2, lp_0, lp_1, lp_2, isL_n, isL_I, isL_R, g_50_0, g_50_1, g_50_34, g_50_37, g_50_6, p_50_41, p_50_42, rc_118_50, rc_119_50, List.length_cons, List.length_nil, Nat.reduceAdd, Nat.reduceLT, Nat.reduceLeDiff, true_and, and_true, true_or, or_true, Int.reduceEq, Nat.reduceEqDiff, reduceCtorEq, true_implies, false_implies, not_true_eq_false, not_false_eq_true, Nat.zero_le, Int.zero_add, Nat.zero_add, Nat.lt_add_one, eq_self, forall_const, implies_true, Bool.false_eq_true, false_or, or_false, and_self, ne_eq, me_ne, me_self, show ¬ 1010 ≤ i by omega, i0, show i < 1010 by omega, show w32 (i + 1) = i + 1 from w32_id (by omega) (by omega)]
      refine ih _ _ (by omega) (by omega) (fun k q => by rw [me_f _ q]; exact h1 k q) (fun j j0 j1 => ?_)
      by_cases z : j = i
      · rw [z, me_self]
      · rw [me_i _ z]; exact h2 j j0 (by omega)
  unfold Cl
  rw [en_120]
  simp only [bq120_0, s_0, lgI_some, s_1I, s_3, s_5K, s_26, s_30, cnP_0, cnP_1, cnP_2, cnP_3, cnP_4, cnP_5, s_31, s_32, s_47, lgR_some, kd_51, kd_52, kd_53, kd_54, kd_55, kd_56, kd_57, kd_58, kd_59, kd_60, kd_61, kd_62, kd_63, kd_64, kd_65, kd_66, kd_67, kd_68, kd_69, kd_70, kd_71, kd_72, kd_73, kd_74, kd_75, kd_76, kd_77, kd_78, kd_79, kd_80, kd_81, kd_82, kd_83, kd_84, kd_85, ln_51, ln_52, ln_53, ln_54, ln_55, ln_56, ln_57, ln_58, ln_59, ln_60, ln_61, ln_62, ln_63, ln_64, ln_65, ln_66, ln_67, ln_68, ln_69, ln_70, ln_71, ln_72, ln_73, ln_74, ln_75, ln_76, ln_77, ln_78, ln_79, ln_80, ln_81, ln_82, ln_83, ln_84, ln_85, lg_0, lg_1, lg_2, lz_0, lz_1, lz_2, lp_0, lp_1, lp_2, isL_n, isL_I, isL_R, g_50_37, List.length_cons, List.length_nil, Nat.reduceAdd, Nat.reduceLT, Nat.reduceLeDiff, true_and, and_true, true_or, or_true, Int.reduceEq, Nat.reduceEqDiff, reduceCtorEq, true_implies, false_implies, not_true_eq_false, not_false_eq_true, Nat.zero_le, Int.zero_add, Nat.zero_add, Nat.lt_add_one, eq_self, forall_const, implies_true, Bool.false_eq_true, false_or, or_false, and_self, ne_eq, me_ne, me_self]
  exact lp 1010 M 0 (Int.le_refl 0) (by omega) (fun _ _ => rfl) (fun j j0 j1 => by omega)
end SK

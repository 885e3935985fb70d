/-! the reference leads, as far as it goes -/
section LE
variable {d : Nat} {K M X Y : Me} {t n p q k r : Int} {Q : Int → Me → Prop}
theorem rW_cg (w : rW K X) (h : ∀ k, k ≠ 79 → k ≠ 80 → k ≠ 81 → Y k = X k) : rW K Y := by
  unfold rW at *
  rw [h 69 (by decide) (by decide) (by decide), h 70 (by decide) (by decide) (by decide), h 71 (by decide) (by decide) (by decide), h 72 (by decide) (by decide) (by decide), h 55 (by decide) (by decide) (by decide), h 51 (by decide) (by decide) (by decide), h 52 (by decide) (by decide) (by decide), h 78 (by decide) (by decide) (by decide), h 50 (by decide) (by decide) (by decide)]
  exact w
theorem SR_cg (s : SR K t X) (h : ∀ k, k ≠ 79 → k ≠ 80 → k ≠ 81 → Y k = X k) : SR K t Y := by
  unfold SR at *
  rw [h 50 (by decide) (by decide) (by decide), h 82 (by decide) (by decide) (by decide), h 83 (by decide) (by decide) (by decide)]
  exact s
theorem PR_cg (s : PR K M X) (h : ∀ k, k ≠ 79 → k ≠ 80 → k ≠ 81 → Y k = X k) : PR K M Y := by
  unfold PR at *
  rw [h 50 (by decide) (by decide) (by decide), h 83 (by decide) (by decide) (by decide), h 84 (by decide) (by decide) (by decide), h 85 (by decide) (by decide) (by decide)]
  exact s
theorem l_125b {all : Int} {L : (Int → Int → Int) → Int → Int} (W : WK K) (n1 : 1 ≤ n) (n2 : n ≤ 99)
    (H : ∀ X', (∀ k, k ≠ 79 → k ≠ 80 → k ≠ 81 → X' k = X k) → Vg K (rgo X') → Vw K t (rwt X') → Vs K t (rst X') → (∀ χ w, LL K (rgo X') (rwt X') (rst X') χ w = L χ w) → ∀ (x : Int) (y : Option AV), Rn (d + 4) (blk 125 19) 125 [some (vR 50), some (vI t), some (vI all), some (vI n), some (vI x), some (vI 0), y] [] X' Q) :
    ∀ (m : Nat) (Y : Me) (i c : Int) (z : Option AV), 0 ≤ i → i < Y 50 41 → 0 ≤ c → c + (m : Int) ≤ 2000 → ptr K Y n m (Y 83 i) → rW K Y → SR K t Y → PR K M Y → (∀ j, 0 ≤ j → j < 1010 → 0 ≤ Y 80 j ∧ Y 80 j ≤ 5000 + 100 * c) → (∀ k, k ≠ 79 → k ≠ 80 → k ≠ 81 → Y k = X k) → Vg K (rgo Y) → Vw K t (rwt Y) → Vs K t (rst Y) → (∀ χ w, LL K (rgo Y) (rwt Y) (rst Y) χ w = L χ w - n * cr χ (Y 83 i)) →
    Rn (d + 4) (blk 125 14) 125 [some (vR 50), some (vI t), some (vI all), some (vI n), some (vI (Y 83 i)), some (vI 1), z] [] Y Q := by
  have hn := W.2.2
  intro m
  induction m with
  | zero => intro Y i c z i0 i1 c0 c1 hp; exact hp.elim
  | succ m ih =>
    intro Y i c z i0 i1 c0 c1 hp w hs pr hb hY hg hw hv hl
    have a := hs.2.2.1 i i0 i1
    obtain ⟨-, ap, at'⟩ := hs.2.2.2.1 _ a.1.1 a.1.2 a.2
    obtain ⟨hr, hp'⟩ := hp
    have Y' : ∀ j, j ≠ 79 → j ≠ 80 → j ≠ 81 → mvr K Y (Y 83 i) (Y 84 (Y 83 i)) (Y 85 (Y 83 i)) n j = X j := fun j q1 q2 q3 => by rw [mvr_f q1 q2 q3, hY j q1 q2 q3]
    have bd : ∀ j, 0 ≤ j → j < 1010 → 0 ≤ Y 80 j ∧ Y 80 j ≤ 1000000 := fun j j0 j1 => by have := hb j j0 j1; omega
    rw [bq125_14]
    rcases hp' with ⟨z1, z2⟩ | ⟨q, hq, hp'⟩
    · simp only [bq125_15, bq125_16, bq125_17, bq125_18, s_0, lgI_some, s_1I, s_3, s_6, s_24, s_29, cnP_0, cnP_1, cnP_2, cnP_3, cnP_4, cnP_5, s_30, s_31, s_32, s_47, lgR_some, s_52, s_53, res_0, res_1, nlg_n, nlg_I, nlg_R, Bool.true_and, Bool.and_self, Bool.and_true, kd_51, kd_52, kd_53, kd_54, kd_55, kd_56, kd_57, kd_58, kd_59, kd_60, kd_61, kd_62, kd_63, kd_64, kd_65, kd_66, kd_67, kd_68, kd_69, kd_70, kd_71, kd_72, kd_73, kd_74, kd_75, kd_76, kd_77, kd_78, kd_79, kd_80, kd_81, kd_82, kd_83, kd_84, kd_85, ln_51, ln_52, ln_53, ln_54, ln_55, ln_56, ln_57, ln_58, ln_59, ln_60, ln_61, ln_62, ln_63, ln_64, ln_65, ln_66, ln_67, ln_68, ln_69, ln_70, ln_71, ln_72, ln_73, ln_74, ln_75, ln_76, ln_77, ln_78, ln_79, ln_80, ln_81, ln_82, ln_83, ln_84, ln_85, lg_0, lg_1, lg_2, lg_3, lg_4, lg_5, lg_6, lz_0, lz_1, lz_2, lz_3, lz_4, lz_5, lz_6, lp_0, lp_1, lp_2, lp_3, lp_4, lp_5, lp_6, isL_n, isL_I, isL_R, g_50_39, rc_122_50, rc_124_50, List.length_cons, List.length_nil, Nat.reduceAdd, Nat.reduceLT, Nat.reduceLeDiff, true_and, and_true, true_or, or_true, Int.reduceEq, Nat.reduceEqDiff, reduceCtorEq, true_implies, false_implies, not_true_eq_false, not_false_eq_true, Nat.zero_le, Int.zero_add, Nat.zero_add, Nat.lt_add_one, eq_self, forall_const, implies_true, Bool.false_eq_true, false_or, or_false, and_self, ne_eq, me_ne, me_self, a.1.1, a.1.2, z1]
      refine c_124 (q := 0) W w hg hv bd (by omega) (by omega) hr a.1.1 a.1.2 rfl rfl (Or.inl z1) ?_
      rw [bq125_14]
      simp only [s_0, lgI_some, s_1I, s_3, s_6, s_24, s_29, cnP_0, cnP_1, cnP_2, cnP_3, cnP_4, cnP_5, s_31, s_47, lgR_some, kd_51, kd_52, kd_53, kd_54, kd_55, kd_56, kd_57, kd_58, kd_59, kd_60, kd_61, kd_62, kd_63, kd_64, kd_65, kd_66, kd_67, kd_68, kd_69, kd_70, kd_71, kd_72, kd_73, kd_74, kd_75, kd_76, kd_77, kd_78, kd_79, kd_80, kd_81, kd_82, kd_83, kd_84, kd_85, ln_51, ln_52, ln_53, ln_54, ln_55, ln_56, ln_57, ln_58, ln_59, ln_60, ln_61, ln_62, ln_63, ln_64, ln_65, ln_66, ln_67, ln_68, ln_69, ln_70, ln_71, ln_72, ln_73, ln_74, ln_75, ln_76, ln_77, ln_78, ln_79, ln_80, ln_81, ln_82, ln_83, ln_84, ln_85, lg_0, lg_1, lg_2, lg_3, lg_4, lg_5, lg_6, lz_0, lz_1, lz_2, lz_3, lz_4, lz_5, lz_6, lp_0, lp_1, lp_2, lp_3, lp_4, lp_5, lp_6, isL_n, isL_I, isL_R, g_50_39, List.length_cons, List.length_nil, Nat.reduceAdd, Nat.reduceLT, Nat.reduceLeDiff, true_and, and_true, true_or, or_true, Int.reduceEq, Nat.reduceEqDiff, reduceCtorEq, true_implies, false_implies, not_true_eq_false, not_false_eq_true, Nat.zero_le, Int.zero_add, Nat.zero_add, Nat.lt_add_one, eq_self, forall_const, implies_true, Bool.false_eq_true, false_or, or_false, and_self, ne_eq, me_ne, me_self]
      have e0 : mvr K Y (Y 83 i) (Y 84 (Y 83 i)) (Y 85 (Y 83 i)) n = me_put Y 79 (Y 83 i / 101) (Y 79 (Y 83 i / 101) + n) := by unfold mvr; rw [if_pos z1]
      unfold rmr at hr
      rw [if_pos z1] at hr
      have ew : rwt (me_put Y 79 (Y 83 i / 101) (Y 79 (Y 83 i / 101) + n)) = rwt Y := by unfold rwt; rw [me_f _ (by decide)]
      have es : rst (me_put Y 79 (Y 83 i / 101) (Y 79 (Y 83 i / 101) + n)) = rst Y := by unfold rst; rw [me_f _ (by decide)]
      refine H _ Y' ?_ ?_ ?_ ?_ _ _
      · rw [e0]
        intro c' x0 x1
        have v := hg c' x0 x1
        unfold rgo at v ⊢
        by_cases y : c' = Y 83 i / 101
        · subst y
          rw [me_self]
          refine ⟨by omega, fun _ => ⟨?_, by omega⟩⟩
          rw [← z2]; exact ap
        · rw [me_i _ y]; exact v
      · rw [e0, ew]; exact hw
      · rw [e0, es]; exact hv
      · intro χ w'
        rw [e0, ew, es, LL_g (g := rgo Y) (g' := rgo (me_put Y 79 (Y 83 i / 101) (Y 79 (Y 83 i / 101) + n))) (c := Y 83 i / 101) (n := n) (by omega) (by omega), hl χ w']
        · unfold cr; rw [z2]; omega
        · unfold rgo; rw [me_self]
        · intro j j0 j1 y
          unfold rgo; rw [me_i _ y]
    · have kk := Rr_k hq
      rcases pr i i0 i1 with ⟨z, -⟩ | ⟨q2, hq2, l, l0, l1, l2⟩
      · omega
      · have e := Rr_det hq hq2
        subst e
        have b := hs.2.2.1 l l0 (by omega)
        obtain ⟨-, bp', bt⟩ := hs.2.2.2.1 _ b.1.1 b.1.2 b.2
        rw [l2] at b bp' bt
        simp only [bq125_15, bq125_16, bq125_17, bq125_18, s_0, lgI_some, s_1I, s_3, s_6, s_24, s_29, cnP_0, cnP_1, cnP_2, cnP_3, cnP_4, cnP_5, s_30, s_31, s_32, s_47, lgR_some, s_52, s_53, res_0, res_1, nlg_n, nlg_I, nlg_R, Bool.true_and, Bool.and_self, Bool.and_true, kd_51, kd_52, kd_53, kd_54, kd_55, kd_56, kd_57, kd_58, kd_59, kd_60, kd_61, kd_62, kd_63, kd_64, kd_65, kd_66, kd_67, kd_68, kd_69, kd_70, kd_71, kd_72, kd_73, kd_74, kd_75, kd_76, kd_77, kd_78, kd_79, kd_80, kd_81, kd_82, kd_83, kd_84, kd_85, ln_51, ln_52, ln_53, ln_54, ln_55, ln_56, ln_57, ln_58, ln_59, ln_60, ln_61, ln_62, ln_63, ln_64, ln_65, ln_66, ln_67, ln_68, ln_69, ln_70, ln_71, ln_72, ln_73, ln_74, ln_75, ln_76, ln_77, ln_78, ln_79, ln_80, ln_81, ln_82, ln_83, ln_84, ln_85, lg_0, lg_1, lg_2, lg_3, lg_4, lg_5, lg_6, lz_0, lz_1, lz_2, lz_3, lz_4, lz_5, lz_6, lp_0, lp_1, lp_2, lp_3, lp_4, lp_5, lp_6, isL_n, isL_I, isL_R, g_50_39, rc_122_50, rc_124_50, List.length_cons, List.length_nil, Nat.reduceAdd, Nat.reduceLT, Nat.reduceLeDiff, true_and, and_true, true_or, or_true, Int.reduceEq, Nat.reduceEqDiff, reduceCtorEq, true_implies, false_implies, not_true_eq_false, not_false_eq_true, Nat.zero_le, Int.zero_add, Nat.zero_add, Nat.lt_add_one, eq_self, forall_const, implies_true, Bool.false_eq_true, false_or, or_false, and_self, ne_eq, me_ne, me_self, a.1.1, a.1.2, show ¬ Y 84 (Y 83 i) = 0 by omega]
        refine c_122 W w a.1.1 a.1.2 rfl rfl hq ?_
        refine c_124 W w hg hv bd (by omega) (by omega) hr a.1.1 a.1.2 rfl rfl (Or.inr hq) ?_
        simp only [bq125_17, bq125_18, s_0, lgI_some, s_1I, s_3, s_6, s_24, s_29, cnP_0, cnP_1, cnP_2, cnP_3, cnP_4, cnP_5, s_31, s_32, s_47, lgR_some, kd_51, kd_52, kd_53, kd_54, kd_55, kd_56, kd_57, kd_58, kd_59, kd_60, kd_61, kd_62, kd_63, kd_64, kd_65, kd_66, kd_67, kd_68, kd_69, kd_70, kd_71, kd_72, kd_73, kd_74, kd_75, kd_76, kd_77, kd_78, kd_79, kd_80, kd_81, kd_82, kd_83, kd_84, kd_85, ln_51, ln_52, ln_53, ln_54, ln_55, ln_56, ln_57, ln_58, ln_59, ln_60, ln_61, ln_62, ln_63, ln_64, ln_65, ln_66, ln_67, ln_68, ln_69, ln_70, ln_71, ln_72, ln_73, ln_74, ln_75, ln_76, ln_77, ln_78, ln_79, ln_80, ln_81, ln_82, ln_83, ln_84, ln_85, lg_0, lg_1, lg_2, lg_3, lg_4, lg_5, lg_6, lz_0, lz_1, lz_2, lz_3, lz_4, lz_5, lz_6, lp_0, lp_1, lp_2, lp_3, lp_4, lp_5, lp_6, isL_n, isL_I, isL_R, g_50_39, List.length_cons, List.length_nil, Nat.reduceAdd, Nat.reduceLT, Nat.reduceLeDiff, true_and, and_true, true_or, or_true, Int.reduceEq, Nat.reduceEqDiff, reduceCtorEq, true_implies, false_implies, not_true_eq_false, not_false_eq_true, Nat.zero_le, Int.zero_add, Nat.zero_add, Nat.lt_add_one, eq_self, forall_const, implies_true, Bool.false_eq_true, false_or, or_false, and_self, ne_eq, me_ne, me_self, show ¬ q = -1 by omega]
        have V' := mr_V (n := n) W hw hv ⟨a.1.1, a.1.2, ap, at'⟩ ⟨b.1.1, b.1.2, bp', bt⟩ (by omega) hq hr
        have e83 : mvr K Y (Y 83 i) (Y 84 (Y 83 i)) (Y 85 (Y 83 i)) n 83 = Y 83 := mvr_f (by decide) (by decide) (by decide)
        have e50 : mvr K Y (Y 83 i) (Y 84 (Y 83 i)) (Y 85 (Y 83 i)) n 50 = Y 50 := mvr_f (by decide) (by decide) (by decide)
        have eg : rgo (mvr K Y (Y 83 i) (Y 84 (Y 83 i)) (Y 85 (Y 83 i)) n) = rgo Y := by
          unfold rgo mvr
          rw [if_neg (by omega)]
          funext c'
          repeat' split
          all_goals exact me_ne _ _ _ _ (by decide)
        have pm := ptr_mv (n := n) W hs pr i0 i1 hq m l l0 l1 (by rw [l2]; exact hp')
        rw [show q = mvr K Y (Y 83 i) (Y 84 (Y 83 i)) (Y 85 (Y 83 i)) n 83 l by rw [e83, l2]]
        refine ih _ l (c + 1) _ l0 (by rw [e50]; omega) (by omega) (by omega) (by rw [e83]; exact pm) (rW_cg w (fun k q1 q2 q3 => mvr_f q1 q2 q3)) (SR_cg hs (fun k q1 q2 q3 => mvr_f q1 q2 q3)) (PR_cg pr (fun k q1 q2 q3 => mvr_f q1 q2 q3)) ?_ Y' (by rw [eg]; exact hg) V'.1 V'.2 ?_
        · intro j j0 j1
          have bj := hb j j0 j1
          unfold rmr at hr
          unfold mvr
          split
          · rw [me_ne _ _ _ _ (by decide)]; omega
          · split
            · by_cases y : j = Y 83 i - 1
              · rw [y, me_self]
                rcases hq with h | h | h | h
                · have := hb (Y 83 i - 1) (by omega) (by omega); omega
                · omega
                · omega
                · omega
              · rw [me_i _ y]; omega
            · split
              · rename_i z1 z2 z3
                rw [if_neg z1, if_neg z2, if_pos z3] at hr
                by_cases y : j = Y 83 i
                · rw [y, me_self]; have := hb (Y 83 i) a.1.1 a.1.2; omega
                · rw [me_i _ y]; omega
              · split <;> rw [me_ne _ _ _ _ (by decide)] <;> omega
        · intro χ w'
          rw [e83, l2, mr_LL W a.1.1 a.1.2 hq, hl χ w', Int.mul_sub]
          omega
/-- the heap that was seen -/
def Sr (X : Me) (c h : Int) : Prop := 0 ≤ c ∧ c < 10 ∧ 0 ≤ h ∧ h ≤ 100 ∧ X 82 (101 * c + h) = 1
theorem Sr_heap {v : Int} (W : WK K) (h0 : K 5 2 ≤ t) (V : Vl K t (rgo M) (rwt M) (rst M) v) (F : SQ M X) (hs : SR K t X) (pr : PR K M X) (D : ∀ q, 0 ≤ q → q < 1010 → X 82 q = 1 → Dr K t X q) (hc : ∀ c, 0 ≤ c → c < K 1 8 → pl K c (K 5 2) → M 79 c < K 13 c → X 82 (101 * c + K 5 2) = 1) : heap K t (Sr X) ∧ Mx K t v := by
  have hn := W.2.2
  have e80 : X 80 = M 80 := F.1 80 (by decide)
  have e81 : X 81 = M 81 := F.1 81 (by decide)
  have sp : ∀ c h, Sr X c h → pl K c h ∧ h ≤ t := by
    rintro c h ⟨c0, c1, g0, g1, m⟩
    have := (hs.2.2.2.1 _ (by omega) (by omega) m).2
    rw [show (101 * c + h) / 101 = c by omega, show (101 * c + h) % 101 = h by omega] at this
    exact this
  have mk : ∀ c h, pl K c h → X 82 (101 * c + h) = 1 → Sr X c h := fun c h pp m => ⟨pp.1, pp.2.1, by have := pp.2.2.2.2.1; omega, pp.2.2.2.2.2.1, m⟩
  have C : Cz K t (rgo M) (rwt M) (rst M) (Sr X) := by
    refine ⟨?_, ?_, ?_, ?_, ?_⟩
    · intro c pp hg
      exact mk c _ pp (hc c pp.1 pp.2.2.1 pp hg)
    · intro c h s pp pp2 h1
      have c0 := pp.1
      have c1 := pp.2.1
      have g0 := pp.2.2.2.2.1
      have g1 := pp.2.2.2.2.2.1
      have := (D _ (by omega) (by omega) s.2.2.2.2).1
      rw [show (101 * c + h) / 101 = c by omega, show (101 * c + h) % 101 = h by omega, show 101 * c + h + 1 = 101 * c + (h + 1) by omega] at this
      exact mk _ _ pp2 (this pp2 h1)
    · intro c h s pp hw
      have c0 := pp.1
      have c1 := pp.2.1
      have g0 := pp.2.2.2.2.1
      have g1 := (sp _ _ s).1.2.2.2.2.2.1
      unfold rwt at hw
      have := (D _ (by omega) (by omega) s.2.2.2.2).2.1
      rw [show (101 * c + (h + 1)) % 101 = h + 1 by omega, show 101 * c + (h + 1) - 1 = 101 * c + h by omega, e80] at this
      exact mk _ _ pp (this (by omega) hw)
    · intro r h r0 r1 r2 r3 s pp pp2 h1 hf
      obtain ⟨r12, rf, rt, rb, rl', rn⟩ := WK_r W r0 r2
      have g0 := pp.2.2.2.2.1
      have g1 := pp.2.2.2.2.2.1
      unfold rst at hf
      have := (D _ (by omega) (by omega) s.2.2.2.2).2.2.1 r r0 r2
      rw [show (101 * K 25 r + h) / 101 = K 25 r by omega, show (101 * K 25 r + h) % 101 = h by omega, e81] at this
      exact mk _ _ pp2 ((this rfl h1 hf).2 pp2)
    · intro r h r0 r1 r2 r3 s pp hf
      obtain ⟨r12, rf, rt, rb, rl', rn⟩ := WK_r W r0 r2
      have rt' := rt.resolve_left r3
      have g0 := pp.2.2.2.2.1
      have g1 := (sp _ _ s).1.2.2.2.2.2.1
      unfold rst at hf
      have := (D _ (by omega) (by omega) s.2.2.2.2).2.2.2 r r0 r2
      rw [show (101 * K 26 r + (h + K 28 r)) / 101 = K 26 r by omega, show (101 * K 26 r + (h + K 28 r)) % 101 - K 28 r = h by omega, e81] at this
      exact mk _ _ pp (this rfl g0 hf)
  have N : Nz K t (rst M) (Sr X) := by
    intro r h r0 r1 r2 r3 s pp h1
    obtain ⟨r12, rf, rt, rb, rl', rn⟩ := WK_r W r0 r2
    have g0 := pp.2.2.2.2.1
    have g1 := pp.2.2.2.2.2.1
    unfold rst
    apply Classical.byContradiction
    intro z
    have := (D _ (by omega) (by omega) s.2.2.2.2).2.2.1 r r0 r2
    rw [show (101 * K 25 r + h) / 101 = K 25 r by omega, show (101 * K 25 r + h) % 101 = h by omega, e81] at this
    exact (this rfl h1 (by omega)).1 r3
  refine ⟨⟨sp, rgo M, rwt M, rst M, v, V, C, N, ?_⟩, Mx_of hn.1 V C N⟩
  rintro c h ⟨c0, c1, g0, g1, m⟩
  obtain ⟨i, i0, i1, i2⟩ := (hs.2.2.2.1 _ (by omega) (by omega) m).1
  have := PR_Rz W hs pr (i + 1).toNat i i0 (by omega) i1
  rw [i2, show (101 * c + h) / 101 = c by omega, show (101 * c + h) % 101 = h by omega] at this
  exact this
/-- while there is a way -/
theorem l_125c (W : WK K) (h0 : K 5 2 ≤ t) (ht : t ≤ 100)
    (H : ∀ X v, (∀ k, k ∉ [50, 79, 80, 81, 82, 83, 84, 85] → X k = M k) → (∀ j, j ≠ 41 → j ≠ 42 → j ≠ 43 → X 50 j = M 50 j) → rW K X → heap K t (Sr X) → (∀ p, 0 ≤ p → p < 1010 → X 82 p = 0 ∨ X 82 p = 1) → Mx K t v → Q v X) :
    ∀ (m : Nat) (Y : Me) (all : Int) (x y z u : Option AV), 0 ≤ all → 5001 ≤ all + (m : Int) → isL x = false → isL y = false → isL z = false → (∀ k, k ∉ [50, 79, 80, 81, 82, 83, 84, 85] → Y k = M k) → (∀ j, j ≠ 41 → j ≠ 42 → j ≠ 43 → Y 50 j = M 50 j) → rW K Y → Vl K t (rgo Y) (rwt Y) (rst Y) all → Rn (d + 4) (blk 125 7) 125 [some (vR 50), some (vI t), some (vI all), x, y, z, u] [] Y Q := by
  have hn := W.2.2
  have wr := W.2.1.1
  intro m
  induction m with
  | zero =>
    intro Y all x y z u a0 a1 _ _ _ f1 f2 w V
    have := Vl_v W V
    omega
  | succ m ih =>
    intro Y all x y z u a0 a1 lx ly lz' f1 f2 w V
    have vb := Vl_v W V
    have w0 := w
    obtain ⟨⟨l69, l70, l71, l72, l55, l51, l52⟩, ⟨n23, n0, n1⟩, tb⟩ := w0
    rw [bq125_7]
    simp only [bq125_20, s_0, lgI_some, s_1I, s_3, s_6, s_7, s_8, s_14, s_24, s_29, cnP_0, cnP_1, cnP_2, cnP_3, cnP_4, cnP_5, s_30, s_32, s_37i, s_37z, s_47, lgR_some, s_52, res_0, res_1, nlg_n, nlg_I, nlg_R, Bool.true_and, Bool.and_self, Bool.and_true, kd_51, kd_52, kd_53, kd_54, kd_55, kd_56, kd_57, kd_58, kd_59, kd_60, kd_61, kd_62, kd_63, kd_64, kd_65, kd_66, kd_67, kd_68, kd_69, kd_70, kd_71, kd_72, kd_73, kd_74, kd_75, kd_76, kd_77, kd_78, kd_79, kd_80, kd_81, kd_82, kd_83, kd_84, kd_85, ln_51, ln_52, ln_53, ln_54, ln_55, ln_56, ln_57, ln_58, ln_59, ln_60, ln_61, ln_62, ln_63, ln_64, ln_65, ln_66, ln_67, ln_68, ln_69, ln_70, ln_71, ln_72, ln_73, ln_74, ln_75, ln_76, ln_77, ln_78, ln_79, ln_80, ln_81, ln_82, ln_83, ln_84, ln_85, lg_0, lg_1, lg_2, lg_3, lg_4, lg_5, lg_6, lz_0, lz_1, lz_2, lz_3, lz_4, lz_5, lz_6, lp_0, lp_1, lp_2, lp_3, lp_4, lp_5, lp_6, isL_n, isL_I, isL_R, g_50_26, g_50_36, g_50_42, g_50_43, rc_120_50, rc_123_50, List.length_cons, List.length_nil, Nat.reduceAdd, Nat.reduceLT, Nat.reduceLeDiff, true_and, and_true, true_or, or_true, Int.reduceEq, Nat.reduceEqDiff, reduceCtorEq, true_implies, false_implies, not_true_eq_false, not_false_eq_true, Nat.zero_le, Int.zero_add, Nat.zero_add, Nat.lt_add_one, eq_self, forall_const, implies_true, Bool.false_eq_true, false_or, or_false, and_self, ne_eq, me_ne, me_self]
    refine c_120 W w V.2.1 V.2.2.1 ht h0 ?_ ?_
    · intro X p r F S pr e42 e43 p0 p1 hp r0 r1 r2 r3 r4 r5
      obtain ⟨r12, rf, rt, rb, rl', rn⟩ := WK_r W r0 r1
      have v := V.2.2.1 r (p % 101) r0 r12 (by omega) (by omega)
      unfold rst at v
      have et : p.tmod 101 = p % 101 := Int.tmod_eq_emod_of_nonneg p0
      have e101 := ix101 r0 r12 (show 0 ≤ p % 101 by omega) (show p % 101 ≤ 100 by omega)
      have x81 : X 81 = Y 81 := F.1 81 (by decide)
      have x80 : X 80 = Y 80 := F.1 80 (by decide)
      have x79 : X 79 = Y 79 := F.1 79 (by decide)
      have x71 : X 71 = K 27 := by rw [F.1 71 (by decide), l71]
      have wX : rW K X := by
        unfold rW at *
        rw [F.1 69 (by decide), F.1 70 (by decide), F.1 71 (by decide), F.1 72 (by decide), F.1 55 (by decide), F.1 51 (by decide), F.1 52 (by decide), F.1 78 (by decide), F.2 23 (by decide) (by decide) (by decide), F.2 0 (by decide) (by decide) (by decide), F.2 1 (by decide) (by decide) (by decide)]
        exact w
      have eg : rgo X = rgo Y := by unfold rgo; rw [x79]
      have ew : rwt X = rwt Y := by unfold rwt; rw [x80]
      have es : rst X = rst Y := by unfold rst; rw [x81]
      have prX : PR K X X := by
        intro i i0 i1
        have := pr i i0 i1
        rw [x79]
        exact this.imp id (fun ⟨q, q1, j⟩ => ⟨q, by rw [Rr_cg x80 x81]; exact q1, j⟩)
      obtain ⟨⟨ia, ia0, ia1, ia2⟩, ap, at'⟩ := S.2.2.2.1 p p0 p1 hp
      have lt : X 50 41 ≤ 1010 := by
        have b := sm_le (n := 1010) (f := fun i => b01 (X 82 i = 1)) (g := fun _ => 1) (fun i _ _ => (b01_bd _).2)
        have c : sm 1010 (fun _ => 1) = 1010 := by decide +kernel
        have := S.1.2
        omega
      simp only [bq125_20, s_0, lgI_some, s_1I, s_3, s_6, s_7, s_8, s_14, s_24, s_29, cnP_0, cnP_1, cnP_2, cnP_3, cnP_4, cnP_5, s_30, s_32, s_37i, s_37z, s_47, lgR_some, s_52, res_0, res_1, nlg_n, nlg_I, nlg_R, Bool.true_and, Bool.and_self, Bool.and_true, kd_51, kd_52, kd_53, kd_54, kd_55, kd_56, kd_57, kd_58, kd_59, kd_60, kd_61, kd_62, kd_63, kd_64, kd_65, kd_66, kd_67, kd_68, kd_69, kd_70, kd_71, kd_72, kd_73, kd_74, kd_75, kd_76, kd_77, kd_78, kd_79, kd_80, kd_81, kd_82, kd_83, kd_84, kd_85, ln_51, ln_52, ln_53, ln_54, ln_55, ln_56, ln_57, ln_58, ln_59, ln_60, ln_61, ln_62, ln_63, ln_64, ln_65, ln_66, ln_67, ln_68, ln_69, ln_70, ln_71, ln_72, ln_73, ln_74, ln_75, ln_76, ln_77, ln_78, ln_79, ln_80, ln_81, ln_82, ln_83, ln_84, ln_85, lg_0, lg_1, lg_2, lg_3, lg_4, lg_5, lg_6, lz_0, lz_1, lz_2, lz_3, lz_4, lz_5, lz_6, lp_0, lp_1, lp_2, lp_3, lp_4, lp_5, lp_6, isL_n, isL_I, isL_R, g_50_26, g_50_36, g_50_42, g_50_43, rc_120_50, rc_123_50, List.length_cons, List.length_nil, Nat.reduceAdd, Nat.reduceLT, Nat.reduceLeDiff, true_and, and_true, true_or, or_true, Int.reduceEq, Nat.reduceEqDiff, reduceCtorEq, true_implies, false_implies, not_true_eq_false, not_false_eq_true, Nat.zero_le, Int.zero_add, Nat.zero_add, Nat.lt_add_one, eq_self, forall_const, implies_true, Bool.false_eq_true, false_or, or_false, and_self, ne_eq, me_ne, me_self, e42, e43, et, e101, x81, x71, r0, r12, lx, ly, lz', show w32 (K 27 r - Y 81 (101 * r + p % 101)) = K 27 r - Y 81 (101 * r + p % 101) from w32_id (by omega) (by omega)]
      refine ⟨⟨by omega, by omega⟩, ?_⟩
      rw [← ia2]
      refine l_125a W wX (by rw [eg]; exact V.1) (by rw [es]; exact V.2.2.1) S prX (ia + 1).toNat ia _ _ ia0 (by omega) ia1 (by rw [ia2]; omega) ?_
      intro n kk x' y' m1 m2 m3 pk
      rw [ia2] at m2 pk
      rw [bq125_13]
      simp only [s_0, lgI_some, s_1I, s_3, s_6, s_8, s_14, s_24, s_25, s_29, cnP_0, cnP_1, cnP_2, cnP_3, cnP_4, cnP_5, s_31, s_32, s_34, s_47, lgR_some, kd_51, kd_52, kd_53, kd_54, kd_55, kd_56, kd_57, kd_58, kd_59, kd_60, kd_61, kd_62, kd_63, kd_64, kd_65, kd_66, kd_67, kd_68, kd_69, kd_70, kd_71, kd_72, kd_73, kd_74, kd_75, kd_76, kd_77, kd_78, kd_79, kd_80, kd_81, kd_82, kd_83, kd_84, kd_85, ln_51, ln_52, ln_53, ln_54, ln_55, ln_56, ln_57, ln_58, ln_59, ln_60, ln_61, ln_62, ln_63, ln_64, ln_65, ln_66, ln_67, ln_68, ln_69, ln_70, ln_71, ln_72, ln_73, ln_74, ln_75, ln_76, ln_77, ln_78, ln_79, ln_80, ln_81, ln_82, ln_83, ln_84, ln_85, lg_0, lg_1, lg_2, lg_3, lg_4, lg_5, lg_6, lz_0, lz_1, lz_2, lz_3, lz_4, lz_5, lz_6, lp_0, lp_1, lp_2, lp_3, lp_4, lp_5, lp_6, isL_n, isL_I, isL_R, g_50_36, g_50_39, g_50_42, g_50_43, List.length_cons, List.length_nil, Nat.reduceAdd, Nat.reduceLT, Nat.reduceLeDiff, true_and, and_true, true_or, or_true, Int.reduceEq, Nat.reduceEqDiff, reduceCtorEq, true_implies, false_implies, not_true_eq_false, not_false_eq_true, Nat.zero_le, Int.zero_add, Nat.zero_add, Nat.lt_add_one, eq_self, forall_const, implies_true, Bool.false_eq_true, false_or, or_false, and_self, ne_eq, me_ne, me_self, e42, e43, et, e101, x81, show w32 (Y 81 (101 * r + p % 101) + n) = Y 81 (101 * r + p % 101) + n from w32_id (by omega) (by omega)]
      refine ⟨⟨by omega, by omega⟩, ⟨by omega, by omega⟩, ?_⟩
      generalize hZ : me_put X 81 (101 * r + p % 101) (Y 81 (101 * r + p % 101) + n) = Z
      have zk : ∀ k, k ≠ 81 → Z k = X k := fun k q => by rw [← hZ, me_f _ q]
      have z81 : Z 81 = fu (Y 81) (101 * r + p % 101) (Y 81 (101 * r + p % 101) + n) := by rw [← hZ, me_fs, x81]
      have zg : rgo Z = rgo Y := by unfold rgo; rw [zk 79 (by decide), x79]
      have zw : rwt Z = rwt Y := by unfold rwt; rw [zk 80 (by decide), x80]
      have z42 : Z 50 42 = p := by rw [zk 50 (by decide), e42]
      have hvZ : Vs K t (rst Z) := by
        intro r' h' q0 q1 g0 g1
        have v' := V.2.2.1 r' h' q0 q1 g0 g1
        unfold rst at v' ⊢
        rw [z81]
        by_cases y : 101 * r' + h' = 101 * r + p % 101
        · have e1 : r' = r := by omega
          have e2 : h' = p % 101 := by omega
          subst e1; subst e2
          rw [fu_s]
          exact ⟨by omega, fun _ => ⟨r1, by omega, by rw [r2]; exact ap, by omega, fun z => (z r3).elim⟩⟩
        · rw [fu_n y]; exact v'
      -- the rooms of the way aren't touched
      have rooms : ∀ (m : Nat) (j : Int), 0 ≤ j → j < X 50 41 → ptr K X n m (X 83 j) → ptr K Z n m (X 83 j) := by
        intro m
        induction m with
        | zero => intro j j0 j1 h; exact h
        | succ m ih2 =>
          intro j j0 j1 h
          obtain ⟨hr, hp'⟩ := h
          have b := (S.2.2.1 j j0 j1).1
          simp only [ptr]
          rw [zk 84 (by decide), zk 85 (by decide)]
          rcases hp' with ⟨y1, y2⟩ | ⟨q, hq, hp'⟩
          · refine ⟨?_, Or.inl ⟨y1, y2⟩⟩
            unfold rmr at hr ⊢
            rw [if_pos y1] at hr ⊢
            rw [zk 79 (by decide)]; exact hr
          · rcases prX j j0 j1 with ⟨y, -⟩ | ⟨q2, hq2, l, l0, l1, l2⟩
            · have := Rr_k hq; omega
            · have e := Rr_det hq hq2
              subst e
              have both : rmr K Z (X 83 j) (X 84 (X 83 j)) (X 85 (X 83 j)) = rmr K X (X 83 j) (X 84 (X 83 j)) (X 85 (X 83 j)) ∧ Rr K Z (X 83 j) (X 84 (X 83 j)) (X 85 (X 83 j)) q := by
                rcases hq with g | g | ⟨g1, g0, g2, g3, g4, g5, g6⟩ | ⟨g1, g0, g2, g3, g4, g5, g6, g7⟩
                · exact ⟨by unfold rmr; rw [if_neg (by omega), if_pos g.1, if_neg (by omega), if_pos g.1], Or.inl g⟩
                · refine ⟨by unfold rmr; rw [if_neg (by omega), if_neg (by omega), if_pos g.1, if_neg (by omega), if_neg (by omega), if_pos g.1, zk 80 (by decide)], Or.inr (Or.inl ⟨g.1, g.2.1, g.2.2.1, by rw [zk 80 (by decide)]; exact g.2.2.2⟩)⟩
                · obtain ⟨s12, sf, st, sb, sl, sn⟩ := WK_r W g0 g2
                  have e : Z 81 (101 * X 85 (X 83 j) + (X 83 j % 101 - K 28 (X 85 (X 83 j)))) = X 81 (101 * X 85 (X 83 j) + (X 83 j % 101 - K 28 (X 85 (X 83 j)))) := by
                    rw [← hZ, me_i]
                    intro y
                    have e1 : X 85 (X 83 j) = r := by omega
                    rw [e1] at g3
                    omega
                  exact ⟨by unfold rmr; rw [if_neg (by omega), if_neg (by omega), if_neg (by omega), if_pos g1, if_neg (by omega), if_neg (by omega), if_neg (by omega), if_pos g1, e], Or.inr (Or.inr (Or.inl ⟨g1, g0, g2, g3, g4, g5, by rw [e]; exact g6⟩))⟩
                · obtain ⟨s12, sf, st, sb, sl, sn⟩ := WK_r W g0 g2
                  have e : Z 81 (101 * X 85 (X 83 j) + X 83 j % 101) = X 81 (101 * X 85 (X 83 j) + X 83 j % 101) := by
                    rw [← hZ, me_i]
                    intro y
                    have e1 : X 85 (X 83 j) = r := by omega
                    rw [e1] at g4
                    exact g4 r3
                  exact ⟨by unfold rmr; rw [if_neg (by omega), if_neg (by omega), if_neg (by omega), if_neg (by omega), if_neg (by omega), if_neg (by omega), if_neg (by omega), if_neg (by omega), e], Or.inr (Or.inr (Or.inr ⟨g1, g0, g2, g3, g4, g5, g6, by rw [e]; exact g7⟩))⟩
              refine ⟨by rw [both.1]; exact hr, Or.inr ⟨q, both.2, ?_⟩⟩
              rw [← l2] at hp' ⊢
              exact ih2 l l0 (by omega) hp'
      have pk2 := rooms kk ia ia0 ia1 (by rw [ia2]; exact pk)
      have wZ : rW K Z := rW_cg wX (fun k _ _ q => zk k q)
      have SZ : SR K t Z := SR_cg S (fun k _ _ q => zk k q)
      have pZ : PR K X Z := PR_cg prX (fun k _ _ q => zk k q)
      rw [show p = Z 83 ia by rw [zk 83 (by decide), ia2]]
      refine l_125b (X := Z) (M := X) (L := fun χ w => (all + n) * w) W m1 (by omega) ?_ kk Z ia 0 _ ia0 (by rw [zk 50 (by decide)]; exact ia1) (Int.le_refl 0) (by omega) (by rw [zk 83 (by decide)]; exact pk2) wZ SZ pZ ?_ (fun _ _ _ _ => rfl) (by rw [zg]; exact V.1) (by rw [zw]; exact V.2.1) hvZ ?_
      · intro X' g1 g2 g3 g4 g5 x'' y''
        rw [bq125_19]
        simp only [s_0, lgI_some, s_1I, s_3, s_6, s_7, s_8, s_14, s_24, s_29, cnP_0, cnP_1, cnP_2, cnP_3, cnP_4, cnP_5, s_31, s_32, s_47, lgR_some, s_52, res_0, res_1, nlg_n, nlg_I, nlg_R, Bool.true_and, Bool.and_self, Bool.and_true, kd_51, kd_52, kd_53, kd_54, kd_55, kd_56, kd_57, kd_58, kd_59, kd_60, kd_61, kd_62, kd_63, kd_64, kd_65, kd_66, kd_67, kd_68, kd_69, kd_70, kd_71, kd_72, kd_73, kd_74, kd_75, kd_76, kd_77, kd_78, kd_79, kd_80, kd_81, kd_82, kd_83, kd_84, kd_85, ln_51, ln_52, ln_53, ln_54, ln_55, ln_56, ln_57, ln_58, ln_59, ln_60, ln_61, ln_62, ln_63, ln_64, ln_65, ln_66, ln_67, ln_68, ln_69, ln_70, ln_71, ln_72, ln_73, ln_74, ln_75, ln_76, ln_77, ln_78, ln_79, ln_80, ln_81, ln_82, ln_83, ln_84, ln_85, lg_0, lg_1, lg_2, lg_3, lg_4, lg_5, lg_6, lz_0, lz_1, lz_2, lz_3, lz_4, lz_5, lz_6, lp_0, lp_1, lp_2, lp_3, lp_4, lp_5, lp_6, isL_n, isL_I, isL_R, g_50_26, g_50_36, g_50_42, g_50_43, rc_120_50, List.length_cons, List.length_nil, Nat.reduceAdd, Nat.reduceLT, Nat.reduceLeDiff, true_and, and_true, true_or, or_true, Int.reduceEq, Nat.reduceEqDiff, reduceCtorEq, true_implies, false_implies, not_true_eq_false, not_false_eq_true, Nat.zero_le, Int.zero_add, Nat.zero_add, Nat.lt_add_one, eq_self, forall_const, implies_true, Bool.false_eq_true, false_or, or_false, and_self, ne_eq, me_ne, me_self, show w32 (all + n) = all + n from w32_id (by omega) (by omega)]
        refine ih X' (all + n) _ _ _ _ (by omega) (by omega) rfl rfl rfl (fun k q => ?_) (fun j q1 q2 q3 => ?_) (rW_cg wZ g1) ⟨g2, g3, g4, g5⟩
        · simp at q; rw [g1 k (by omega) (by omega) (by omega), zk k (by omega), F.1 k (fun z => by simp at z; omega), f1 k (fun z => by simp at z; omega)]
        · rw [g1 50 (by decide) (by decide) (by decide), zk 50 (by decide), F.2 j q1 q2 q3, f2 j q1 q2 q3]
      · intro j j0 j1
        rw [zk 80 (by decide), x80]
        have b1 := V.2.1 (j / 101) (j % 101) (by omega) (by omega) (by omega) (by omega)
        have b2 := Vl_wt W V (c := j / 101) (h := j % 101) (by omega) (by omega) (by omega) (by omega)
        unfold rwt at b1 b2
        rw [show 101 * (j / 101) + j % 101 = j by omega] at b1 b2
        omega
      · intro χ w'
        rw [zg, zw, LL_s (st := rst Y) (st' := rst Z) (r := r) (h := p % 101) (n := n) r0 r12 (by omega) (by omega), V.2.2.2 χ w']
        · unfold hdv cr
          rw [if_pos r3, zk 83 (by decide), ia2, r2, Int.mul_sub, Int.add_mul]
          omega
        · unfold rst; rw [z81, fu_s]
        · intro i j i0 i1 j0 j1 y
          unfold rst; rw [z81, fu_n (by omega)]
    · intro X F S pr D hc
      have wX : rW K X := by
        unfold rW at *
        rw [F.1 69 (by decide), F.1 70 (by decide), F.1 71 (by decide), F.1 72 (by decide), F.1 55 (by decide), F.1 51 (by decide), F.1 52 (by decide), F.1 78 (by decide), F.2 23 (by decide) (by decide) (by decide), F.2 0 (by decide) (by decide) (by decide), F.2 1 (by decide) (by decide) (by decide)]
        exact w
      obtain ⟨hh, mx⟩ := Sr_heap W h0 V F S pr D hc
      exact ⟨fun _ => H X all (fun k q => by rw [F.1 k (fun z => q (by simp at z ⊢; omega)), f1 k q]) (fun j q1 q2 q3 => by rw [F.2 j q1 q2 q3, f2 j q1 q2 q3]) wX hh S.2.1 mx, fun q => (q rfl).elim⟩
end LE

/-! bars and bar, both sides -/
theorem heap_eq {K : Me} {t : Int} {S S' : Int → Int → Prop} (hn : 0 ≤ K 5 2) (h : heap K t S) (h' : heap K t S') : ∀ c h, S c h ↔ S' c h := by
  obtain ⟨-, g, wt, st, v, V, C, N, R⟩ := h
  obtain ⟨-, g', wt', st', v', V', C', N', R'⟩ := h'
  exact (heap_un hn V C N R V' C' N' R').2
theorem bp_cg {K : Me} {t j : Int} {S S' : Int → Int → Prop} (h : ∀ c h, S c h ↔ S' c h) : bp K S t j ↔ bp K S' t j := by
  have e : S = S' := by funext c h'; exact propext (h c h')
  rw [e]
theorem cnt_top {K : Me} {t : Int} {S : Int → Int → Prop} (W : WK K) (h0 : 0 ≤ t) (a : Nat) (ha : t * 12 ≤ a) : cnt (bp K S t) a = cnt (bp K S t) (t * 12).toNat := by
  have := cnt_skip (P := bp K S t) (a := (t * 12).toNat) (a - (t * 12).toNat) (fun j j0 j1 pj => by
    have p1 := pj.1
    have p3 := pj.2.2.1
    obtain ⟨r12, rf, rt, rb, rl', rn⟩ := WK_r W (show 0 ≤ (j : Int) % 12 by omega) p1
    omega)
  rwa [show (t * 12).toNat + (a - (t * 12).toNat) = a by omega] at this
theorem cnt_inv {P : Int → Prop} (n : Nat) : ∀ i : Int, 0 ≤ i → i < cnt P n → ∃ j : Nat, j < n ∧ P j ∧ cnt P j = i := by
  induction n with
  | zero => intro i i0 i1; simp only [cnt] at i1; omega
  | succ n ih =>
    intro i i0 i1
    simp only [cnt] at i1
    by_cases q : i < cnt P n
    · obtain ⟨j, a, b, c⟩ := ih i i0 q
      exact ⟨j, by omega, b, c⟩
    · by_cases z : P n
      · rw [b01_t z] at i1
        exact ⟨n, by omega, z, by omega⟩
      · rw [b01_f z] at i1; omega
section BD
variable {d : Nat} {K M X Y : Me} {t : Int} {Q : Int → Me → Prop}
theorem l_129 (W : WK K) (w : rW K X) (hs : ∀ c h, Sr X c h → pl K c h ∧ h ≤ t) (hz : ∀ p, 0 ≤ p → p < 1010 → X 82 p ≠ 0 → X 82 p = 1) (ht : t ≤ 100) (h0 : K 5 2 ≤ t) (H : Q (cnt (bp K (Sr X) t) (t * 12).toNat) X) :
    ∀ (n : Nat) (h a : Int) (x : Option AV), K 5 2 ≤ h → h + (n : Int) = t + 1 → a = cnt (bp K (Sr X) t) (h * 12).toNat → Rn (d + 6) (blk 129 2) 129 [some (vR 50), some (vI t), some (vI a), some (vI h), x] [] X Q := by
  have hn := W.2.2
  have wr := W.2.1.1
  intro n
  induction n with
  | zero =>
    intro h a x g0 g1 ea
    rw [bq129_2]
    simp only [bq129_7, s_0, lgI_some, s_1I, s_3, s_29, cnP_0, cnP_1, cnP_2, cnP_3, cnP_4, cnP_5, s_30, s_31, s_32, s_37i, s_37z, s_47, lgR_some, s_54, res_0, res_1, nlg_n, nlg_I, nlg_R, Bool.true_and, Bool.and_self, Bool.and_true, lg_0, lg_1, lg_2, lg_3, lg_4, lz_0, lz_1, lz_2, lz_3, lz_4, lp_0, lp_1, lp_2, lp_3, lp_4, isL_n, isL_I, isL_R, g_50_23, rc_128_50, List.length_cons, List.length_nil, Nat.reduceAdd, Nat.reduceLT, Nat.reduceLeDiff, true_and, and_true, true_or, or_true, Int.reduceEq, Nat.reduceEqDiff, reduceCtorEq, true_implies, false_implies, not_true_eq_false, not_false_eq_true, Nat.zero_le, Int.zero_add, Nat.zero_add, Nat.lt_add_one, eq_self, forall_const, implies_true, Bool.false_eq_true, false_or, or_false, and_self, ne_eq, me_ne, me_self, show t < h by omega]
    rw [ea, cnt_top W (by omega) _ (by omega)]
    exact H
  | succ n ih =>
    intro h a x g0 g1 ea
    have inn : ∀ (m : Nat) (r b : Int), 0 ≤ r → r + (m : Int) = K 3 8 → b = cnt (bp K (Sr X) t) (h * 12 + r).toNat → Rn (d + 6) (blk 129 3) 129 [some (vR 50), some (vI t), some (vI b), some (vI h), some (vI r)] [] X Q := by
      intro m
      induction m with
      | zero =>
        intro r b r0 r1 eb
        rw [bq129_3]
        simp only [bq129_6, s_0, lgI_some, s_1I, s_3, s_5K, s_29, cnP_0, cnP_1, cnP_2, cnP_3, cnP_4, cnP_5, s_30, s_31, s_32, s_47, lgR_some, s_54, res_0, res_1, nlg_n, nlg_I, nlg_R, Bool.true_and, Bool.and_self, Bool.and_true, lg_0, lg_1, lg_2, lg_3, lg_4, lz_0, lz_1, lz_2, lz_3, lz_4, lp_0, lp_1, lp_2, lp_3, lp_4, isL_n, isL_I, isL_R, g_50_23, rc_128_50, List.length_cons, List.length_nil, Nat.reduceAdd, Nat.reduceLT, Nat.reduceLeDiff, true_and, and_true, true_or, or_true, Int.reduceEq, Nat.reduceEqDiff, reduceCtorEq, true_implies, false_implies, not_true_eq_false, not_false_eq_true, Nat.zero_le, Int.zero_add, Nat.zero_add, Nat.lt_add_one, eq_self, forall_const, implies_true, Bool.false_eq_true, false_or, or_false, and_self, ne_eq, me_ne, me_self, w.2.1.1, show K 3 8 ≤ r by omega, show w32 (h + 1) = h + 1 from w32_id (by omega) (by omega)]
        refine ih (h + 1) b _ (by omega) (by omega) ?_
        rw [eb]
        have := cnt_skip (P := bp K (Sr X) t) (a := (h * 12 + r).toNat) (12 - r).toNat (fun j j0 j1 pj => by have := pj.1; omega)
        rw [← this, show (h * 12 + r).toNat + (12 - r).toNat = ((h + 1) * 12).toNat by omega]
      | succ m ih2 =>
        intro r b r0 r1 eb
        have cb := cnt_bd (bp K (Sr X) t) (h * 12 + r).toNat
        have e1 : cnt (bp K (Sr X) t) (h * 12 + (r + 1)).toNat = b + b01 (bp K (Sr X) t (h * 12 + r)) := by
          rw [show (h * 12 + (r + 1)).toNat = (h * 12 + r).toNat + 1 by omega]
          simp only [cnt]
          rw [← eb, show (((h * 12 + r).toNat : Nat) : Int) = h * 12 + r by omega]
        rw [bq129_3]
        simp only [bq129_4, bq129_5, s_0, lgI_some, s_1I, s_3, s_5K, s_6, s_29, cnP_0, cnP_1, cnP_2, cnP_3, cnP_4, cnP_5, s_30, s_31, s_32, s_47, lgR_some, s_54, res_0, res_1, nlg_n, nlg_I, nlg_R, Bool.true_and, Bool.and_self, Bool.and_true, lg_0, lg_1, lg_2, lg_3, lg_4, lz_0, lz_1, lz_2, lz_3, lz_4, lp_0, lp_1, lp_2, lp_3, lp_4, isL_n, isL_I, isL_R, g_50_23, rc_128_50, List.length_cons, List.length_nil, Nat.reduceAdd, Nat.reduceLT, Nat.reduceLeDiff, true_and, and_true, true_or, or_true, Int.reduceEq, Nat.reduceEqDiff, reduceCtorEq, true_implies, false_implies, not_true_eq_false, not_false_eq_true, Nat.zero_le, Int.zero_add, Nat.zero_add, Nat.lt_add_one, eq_self, forall_const, implies_true, Bool.false_eq_true, false_or, or_false, and_self, ne_eq, me_ne, me_self, w.2.1.1, show ¬ K 3 8 ≤ r by omega, show w32 (r + 1) = r + 1 from w32_id (by omega) (by omega)]
        rw [q_128 W w hs (fun _ _ _ => Or.inr (Or.inr trivial)) ht r0 (by omega) g0 (by omega) hz]
        simp only [bq129_4, bq129_5, s_0, lgI_some, s_1I, s_3, s_5K, s_6, s_29, cnP_0, cnP_1, cnP_2, cnP_3, cnP_4, cnP_5, s_30, s_31, s_32, s_47, lgR_some, s_54, res_0, res_1, nlg_n, nlg_I, nlg_R, Bool.true_and, Bool.and_self, Bool.and_true, lg_0, lg_1, lg_2, lg_3, lg_4, lz_0, lz_1, lz_2, lz_3, lz_4, lp_0, lp_1, lp_2, lp_3, lp_4, isL_n, isL_I, isL_R, g_50_23, rc_128_50, List.length_cons, List.length_nil, Nat.reduceAdd, Nat.reduceLT, Nat.reduceLeDiff, true_and, and_true, true_or, or_true, Int.reduceEq, Nat.reduceEqDiff, reduceCtorEq, true_implies, false_implies, not_true_eq_false, not_false_eq_true, Nat.zero_le, Int.zero_add, Nat.zero_add, Nat.lt_add_one, eq_self, forall_const, implies_true, Bool.false_eq_true, false_or, or_false, and_self, ne_eq, me_ne, me_self, b01_z, Classical.not_not]
        refine ⟨fun q => ih2 (r + 1) _ (by omega) (by omega) ?_, fun q => ih2 (r + 1) _ (by omega) (by omega) ?_⟩
        · rw [e1, b01_f q, w32_id (by omega) (by omega)]
        · rw [e1, b01_t q, w32_id (by omega) (by omega)]
    rw [bq129_2]
    simp only [s_0, lgI_some, s_1I, s_3, s_29, cnP_0, cnP_1, cnP_2, cnP_3, cnP_4, cnP_5, s_30, s_31, s_32, s_47, lgR_some, s_54, res_0, res_1, nlg_n, nlg_I, nlg_R, Bool.true_and, Bool.and_self, Bool.and_true, lg_0, lg_1, lg_2, lg_3, lg_4, lz_0, lz_1, lz_2, lz_3, lz_4, lp_0, lp_1, lp_2, lp_3, lp_4, isL_n, isL_I, isL_R, g_50_23, rc_128_50, List.length_cons, List.length_nil, Nat.reduceAdd, Nat.reduceLT, Nat.reduceLeDiff, true_and, and_true, true_or, or_true, Int.reduceEq, Nat.reduceEqDiff, reduceCtorEq, true_implies, false_implies, not_true_eq_false, not_false_eq_true, Nat.zero_le, Int.zero_add, Nat.zero_add, Nat.lt_add_one, eq_self, forall_const, implies_true, Bool.false_eq_true, false_or, or_false, and_self, ne_eq, me_ne, me_self, show ¬ t < h by omega]
    exact inn (K 3 8).toNat 0 a (Int.le_refl 0) (by omega) (by rw [ea, Int.add_zero])
theorem p_73 {a : Int} (I : Iv M) : Tw (d + 1) 73 129 [vI a] M := by
  have hL := I.1
  obtain ⟨⟨l51, l52, l53, l54, l55, l56, l57⟩, ⟨l58, l59, l60, l61, l62, l63, l64⟩, ⟨l66, l67, l68⟩, ⟨l69, l70, l71, l72⟩, ⟨n0, n1, n9, n18, n19, n23⟩⟩ := hL
  unfold Tw
  rw [uc 73, en_73]
  by_cases acc : M 5 2 ≤ a ∧ a ≤ 100
  · simp only [bq73_0, bq73_1, s_0, lgI_some, s_3, s_29, cnP_0, cnP_1, cnP_2, cnP_3, cnP_4, cnP_5, s_37i, s_37z, s_47, lgR_some, s_52, s_53, res_0, res_1, nlg_n, nlg_I, nlg_R, Bool.true_and, Bool.and_self, Bool.and_true, lg_0, lg_1, g_0_4, g_0_6, g_5_2, g_7_16, g_8_2, rc_76, rc_84_0, List.length_cons, List.length_nil, Nat.reduceAdd, Nat.reduceLT, Nat.reduceLeDiff, true_and, and_true, true_or, or_true, Int.reduceEq, Nat.reduceEqDiff, reduceCtorEq, true_implies, false_implies, not_true_eq_false, not_false_eq_true, Nat.zero_le, Int.zero_add, Nat.zero_add, Nat.lt_add_one, eq_self, forall_const, implies_true, Bool.false_eq_true, false_or, or_false, and_self, ne_eq, me_ne, me_self, q_76, b01_z, Classical.not_not, acc.1, acc.2]
    refine c_84 (d := d) I acc.1 acc.2 (fun X IX x6 x5 ⟨S, hS, e16, _⟩ => ?_)
    have W := Iv_WK IX
    have hn := W.2.2
    have q0 : X 50 0 = M 5 2 := by rw [IX.1.2.2.2.2.1, x5]
    rw [uc 129, en_129]
    simp only [bq129_0, bq129_1, s_0, lgI_some, s_1I, s_3, s_29, cnP_0, cnP_1, cnP_2, cnP_3, cnP_4, cnP_5, s_30, s_32, s_35, s_37i, s_37z, s_47, lgR_some, s_52, s_53, res_0, res_1, nlg_n, nlg_I, nlg_R, Bool.true_and, Bool.and_self, Bool.and_true, lg_0, lg_1, lg_2, lg_3, lg_4, lz_0, lz_1, lz_2, lz_3, lz_4, lp_0, lp_1, lp_2, lp_3, lp_4, isL_n, isL_I, isL_R, g_50_0, rc_125_50, rc_85, List.length_cons, List.length_nil, Nat.reduceAdd, Nat.reduceLT, Nat.reduceLeDiff, true_and, and_true, true_or, or_true, Int.reduceEq, Nat.reduceEqDiff, reduceCtorEq, true_implies, false_implies, not_true_eq_false, not_false_eq_true, Nat.zero_le, Int.zero_add, Nat.zero_add, Nat.lt_add_one, eq_self, forall_const, implies_true, Bool.false_eq_true, false_or, or_false, and_self, ne_eq, me_ne, me_self, q_85, q0, b01_z, Classical.not_not, acc.1, acc.2]
    refine c_125 (d := d + 1) IX x6 (by rw [x5]; exact acc.1) acc.2 (fun Z v IZ fz wZ hZ h01 mv => ?_)
    have z50 : Z 50 0 = X 5 2 := wZ.2.1.2.1
    simp only [bq129_0, bq129_1, s_0, lgI_some, s_1I, s_3, s_29, cnP_0, cnP_1, cnP_2, cnP_3, cnP_4, cnP_5, s_30, s_32, s_35, s_37i, s_37z, s_47, lgR_some, s_52, s_53, res_0, res_1, nlg_n, nlg_I, nlg_R, Bool.true_and, Bool.and_self, Bool.and_true, lg_0, lg_1, lg_2, lg_3, lg_4, lz_0, lz_1, lz_2, lz_3, lz_4, lp_0, lp_1, lp_2, lp_3, lp_4, isL_n, isL_I, isL_R, g_50_0, rc_125_50, rc_85, List.length_cons, List.length_nil, Nat.reduceAdd, Nat.reduceLT, Nat.reduceLeDiff, true_and, and_true, true_or, or_true, Int.reduceEq, Nat.reduceEqDiff, reduceCtorEq, true_implies, false_implies, not_true_eq_false, not_false_eq_true, Nat.zero_le, Int.zero_add, Nat.zero_add, Nat.lt_add_one, eq_self, forall_const, implies_true, Bool.false_eq_true, false_or, or_false, and_self, ne_eq, me_ne, me_self, z50]
    have he := heap_eq hn.1 hS hZ
    refine l_129 (d := d + 1) W wZ hZ.1 (fun p p0 p1 z => (h01 p p0 p1).resolve_left z) acc.2 (by rw [x5]; exact acc.1) ⟨?_, IZ⟩ (a + 1 - X 5 2).toNat (X 5 2) 0 _ (Int.le_refl _) (by rw [x5] at hn ⊢; omega) ?_
    · have := cnt_skip (P := bp X (Sr Z) a) (a := 0) (X 5 2 * 12).toNat (fun j j0 j1 pj => by have := pj.2.1; omega)
      rw [Nat.zero_add] at this
      rw [this]; rfl
    · rw [e16, cnt_cg (P' := bp X (Sr Z) a) (fun j _ => bp_cg he), cnt_top W (by rw [x5] at hn; omega) 1200 (by omega)]
  · simp only [bq73_0, s_0, lgI_some, s_3, s_29, cnP_0, cnP_1, cnP_2, cnP_3, cnP_4, cnP_5, s_37i, s_37z, s_47, lgR_some, s_52, s_53, res_0, res_1, nlg_n, nlg_I, nlg_R, Bool.true_and, Bool.and_self, Bool.and_true, lg_0, lg_1, g_0_4, g_0_6, g_5_2, g_7_16, g_8_2, rc_76, rc_84_0, List.length_cons, List.length_nil, Nat.reduceAdd, Nat.reduceLT, Nat.reduceLeDiff, true_and, and_true, true_or, or_true, Int.reduceEq, Nat.reduceEqDiff, reduceCtorEq, true_implies, false_implies, not_true_eq_false, not_false_eq_true, Nat.zero_le, Int.zero_add, Nat.zero_add, Nat.lt_add_one, eq_self, forall_const, implies_true, Bool.false_eq_true, false_or, or_false, and_self, ne_eq, me_ne, me_self, q_76, b01_z, Classical.not_not, acc]
    rw [uc 129, en_129]
    simp only [bq129_0, s_0, lgI_some, s_1I, s_3, s_29, cnP_0, cnP_1, cnP_2, cnP_3, cnP_4, cnP_5, s_32, s_35, s_37i, s_37z, s_47, lgR_some, s_52, s_53, res_0, res_1, nlg_n, nlg_I, nlg_R, Bool.true_and, Bool.and_self, Bool.and_true, lg_0, lg_1, lg_2, lg_3, lg_4, lz_0, lz_1, lz_2, lz_3, lz_4, lp_0, lp_1, lp_2, lp_3, lp_4, isL_n, isL_I, isL_R, g_50_0, rc_125_50, rc_85, List.length_cons, List.length_nil, Nat.reduceAdd, Nat.reduceLT, Nat.reduceLeDiff, true_and, and_true, true_or, or_true, Int.reduceEq, Nat.reduceEqDiff, reduceCtorEq, true_implies, false_implies, not_true_eq_false, not_false_eq_true, Nat.zero_le, Int.zero_add, Nat.zero_add, Nat.lt_add_one, eq_self, forall_const, implies_true, Bool.false_eq_true, false_or, or_false, and_self, ne_eq, me_ne, me_self, q_85, n0, b01_z, Classical.not_not, acc, I]
theorem l_130 {i wh : Int} (W : WK K) (w : rW K X) (hs : ∀ c h, Sr X c h → pl K c h ∧ h ≤ t) (hz : ∀ p, 0 ≤ p → p < 1010 → X 82 p ≠ 0 → X 82 p = 1) (ht : t ≤ 100) (h0 : K 5 2 ≤ t) (i1 : i < 2147483648) (Ha : ∀ j : Nat, (j : Int) < t * 12 + 12 → bp K (Sr X) t j → cnt (bp K (Sr X) t) j = i → Q (if wh = 0 then (j : Int) % 12 else (j : Int) / 12) X) (Hb : cnt (bp K (Sr X) t) (t * 12).toNat ≤ i → Q (-1) X) :
    ∀ (n : Nat) (h a : Int) (x : Option AV), K 5 2 ≤ h → h + (n : Int) = t + 1 → a = i - cnt (bp K (Sr X) t) (h * 12).toNat → 0 ≤ a → Rn (d + 6) (blk 130 3) 130 [some (vR 50), some (vI t), some (vI i), some (vI wh), some (vI a), some (vI h), x] [] X Q := by
  have hn := W.2.2
  have wr := W.2.1.1
  intro n
  induction n with
  | zero =>
    intro h a x g0 g1 ea a0
    rw [bq130_3]
    simp only [bq130_11, s_0, lgI_some, s_1I, s_3, s_29, cnP_0, cnP_1, cnP_2, cnP_3, cnP_4, cnP_5, s_30, s_31, s_32, s_37i, s_37z, s_47, lgR_some, s_54, res_0, res_1, nlg_n, nlg_I, nlg_R, Bool.true_and, Bool.and_self, Bool.and_true, lg_0, lg_1, lg_2, lg_3, lg_4, lg_5, lg_6, lz_0, lz_1, lz_2, lz_3, lz_4, lz_5, lz_6, lp_0, lp_1, lp_2, lp_3, lp_4, lp_5, lp_6, isL_n, isL_I, isL_R, g_50_23, rc_128_50, List.length_cons, List.length_nil, Nat.reduceAdd, Nat.reduceLT, Nat.reduceLeDiff, true_and, and_true, true_or, or_true, Int.reduceEq, Nat.reduceEqDiff, reduceCtorEq, true_implies, false_implies, not_true_eq_false, not_false_eq_true, Nat.zero_le, Int.zero_add, Nat.zero_add, Nat.lt_add_one, eq_self, forall_const, implies_true, Bool.false_eq_true, false_or, or_false, and_self, ne_eq, me_ne, me_self, show t < h by omega]
    refine Hb ?_
    rw [cnt_top W (by omega) _ (by omega)] at ea
    omega
  | succ n ih =>
    intro h a x g0 g1 ea a0
    have inn : ∀ (m : Nat) (r b : Int), 0 ≤ r → r + (m : Int) = K 3 8 → b = i - cnt (bp K (Sr X) t) (h * 12 + r).toNat → 0 ≤ b → Rn (d + 6) (blk 130 4) 130 [some (vR 50), some (vI t), some (vI i), some (vI wh), some (vI b), some (vI h), some (vI r)] [] X Q := by
      intro m
      induction m with
      | zero =>
        intro r b r0 r1 eb b0
        rw [bq130_4]
        simp only [bq130_10, s_0, lgI_some, s_1I, s_3, s_5K, s_29, cnP_0, cnP_1, cnP_2, cnP_3, cnP_4, cnP_5, s_30, s_31, s_32, s_47, lgR_some, s_54, res_0, res_1, nlg_n, nlg_I, nlg_R, Bool.true_and, Bool.and_self, Bool.and_true, lg_0, lg_1, lg_2, lg_3, lg_4, lg_5, lg_6, lz_0, lz_1, lz_2, lz_3, lz_4, lz_5, lz_6, lp_0, lp_1, lp_2, lp_3, lp_4, lp_5, lp_6, isL_n, isL_I, isL_R, g_50_23, rc_128_50, List.length_cons, List.length_nil, Nat.reduceAdd, Nat.reduceLT, Nat.reduceLeDiff, true_and, and_true, true_or, or_true, Int.reduceEq, Nat.reduceEqDiff, reduceCtorEq, true_implies, false_implies, not_true_eq_false, not_false_eq_true, Nat.zero_le, Int.zero_add, Nat.zero_add, Nat.lt_add_one, eq_self, forall_const, implies_true, Bool.false_eq_true, false_or, or_false, and_self, ne_eq, me_ne, me_self, w.2.1.1, show K 3 8 ≤ r by omega, show w32 (h + 1) = h + 1 from w32_id (by omega) (by omega)]
        refine ih (h + 1) b _ (by omega) (by omega) ?_ b0
        rw [eb]
        have := cnt_skip (P := bp K (Sr X) t) (a := (h * 12 + r).toNat) (12 - r).toNat (fun j j0 j1 pj => by have := pj.1; omega)
        rw [← this, show (h * 12 + r).toNat + (12 - r).toNat = ((h + 1) * 12).toNat by omega]
      | succ m ih2 =>
        intro r b r0 r1 eb b0
        have cb := cnt_bd (bp K (Sr X) t) (h * 12 + r).toNat
        have e1 : cnt (bp K (Sr X) t) (h * 12 + (r + 1)).toNat = cnt (bp K (Sr X) t) (h * 12 + r).toNat + b01 (bp K (Sr X) t (h * 12 + r)) := by
          rw [show (h * 12 + (r + 1)).toNat = (h * 12 + r).toNat + 1 by omega]
          simp only [cnt]
          rw [show (((h * 12 + r).toNat : Nat) : Int) = h * 12 + r by omega]
        rw [bq130_4]
        simp only [bq130_5, bq130_6, bq130_7, bq130_8, bq130_9, s_0, lgI_some, s_5K, s_29, cnP_0, cnP_1, cnP_2, cnP_3, cnP_4, cnP_5, s_30, s_31, s_32, s_37i, s_37z, s_47, lgR_some, s_54, res_0, res_1, nlg_n, nlg_I, nlg_R, Bool.true_and, Bool.and_self, Bool.and_true, lg_0, lg_1, lg_2, lg_3, lg_4, lg_5, lg_6, lz_0, lz_1, lz_2, lz_3, lz_4, lz_5, lz_6, lp_0, lp_1, lp_2, lp_3, lp_4, lp_5, lp_6, isL_n, isL_I, isL_R, g_50_23, rc_128_50, List.length_cons, List.length_nil, Nat.reduceAdd, Nat.reduceLT, Nat.reduceLeDiff, true_and, and_true, true_or, or_true, Int.reduceEq, Nat.reduceEqDiff, reduceCtorEq, true_implies, false_implies, not_true_eq_false, not_false_eq_true, Nat.zero_le, Int.zero_add, Nat.zero_add, Nat.lt_add_one, eq_self, forall_const, implies_true, Bool.false_eq_true, false_or, or_false, and_self, ne_eq, me_ne, me_self, w.2.1.1, show ¬ K 3 8 ≤ r by omega, show w32 (r + 1) = r + 1 from w32_id (by omega) (by omega)]
        rw [q_128 W w hs (fun _ _ _ => Or.inr (Or.inr trivial)) ht r0 (by omega) g0 (by omega) hz]
        simp only [bq130_5, bq130_6, bq130_7, bq130_8, bq130_9, s_0, lgI_some, s_5K, s_29, cnP_0, cnP_1, cnP_2, cnP_3, cnP_4, cnP_5, s_30, s_31, s_32, s_37i, s_37z, s_47, lgR_some, s_54, res_0, res_1, nlg_n, nlg_I, nlg_R, Bool.true_and, Bool.and_self, Bool.and_true, lg_0, lg_1, lg_2, lg_3, lg_4, lg_5, lg_6, lz_0, lz_1, lz_2, lz_3, lz_4, lz_5, lz_6, lp_0, lp_1, lp_2, lp_3, lp_4, lp_5, lp_6, isL_n, isL_I, isL_R, g_50_23, rc_128_50, List.length_cons, List.length_nil, Nat.reduceAdd, Nat.reduceLT, Nat.reduceLeDiff, true_and, and_true, true_or, or_true, Int.reduceEq, Nat.reduceEqDiff, reduceCtorEq, true_implies, false_implies, not_true_eq_false, not_false_eq_true, Nat.zero_le, Int.zero_add, Nat.zero_add, Nat.lt_add_one, eq_self, forall_const, implies_true, Bool.false_eq_true, false_or, or_false, and_self, ne_eq, me_ne, me_self, b01_z, Classical.not_not, show w32 (b + -1) = b - 1 from w32_id (by omega) (by omega), show w32 (r + 1) = r + 1 from w32_id (by omega) (by omega)]
        refine ⟨fun q => ⟨fun q2 => ?_, fun q2 => ?_⟩, fun q => ?_⟩
        · exact ih2 (r + 1) _ (by omega) (by omega) (by rw [e1, b01_t q]; omega) (by omega)
        · have fin := Ha (h * 12 + r).toNat (by omega) (by rw [show (((h * 12 + r).toNat : Nat) : Int) = h * 12 + r by omega]; exact q) (by omega)
          rw [show (((h * 12 + r).toNat : Nat) : Int) = h * 12 + r by omega, show (h * 12 + r) % 12 = r by omega, show (h * 12 + r) / 12 = h by omega] at fin
          refine ⟨fun z => ?_, fun z => ?_⟩
          · rwa [if_neg z] at fin
          · rwa [if_pos z] at fin
        · exact ih2 (r + 1) b (by omega) (by omega) (by rw [e1, b01_f q]; omega) b0
    rw [bq130_3]
    simp only [s_0, lgI_some, s_1I, s_3, s_29, cnP_0, cnP_1, cnP_2, cnP_3, cnP_4, cnP_5, s_30, s_31, s_32, s_47, lgR_some, s_54, res_0, res_1, nlg_n, nlg_I, nlg_R, Bool.true_and, Bool.and_self, Bool.and_true, lg_0, lg_1, lg_2, lg_3, lg_4, lg_5, lg_6, lz_0, lz_1, lz_2, lz_3, lz_4, lz_5, lz_6, lp_0, lp_1, lp_2, lp_3, lp_4, lp_5, lp_6, isL_n, isL_I, isL_R, g_50_23, rc_128_50, List.length_cons, List.length_nil, Nat.reduceAdd, Nat.reduceLT, Nat.reduceLeDiff, true_and, and_true, true_or, or_true, Int.reduceEq, Nat.reduceEqDiff, reduceCtorEq, true_implies, false_implies, not_true_eq_false, not_false_eq_true, Nat.zero_le, Int.zero_add, Nat.zero_add, Nat.lt_add_one, eq_self, forall_const, implies_true, Bool.false_eq_true, false_or, or_false, and_self, ne_eq, me_ne, me_self, show ¬ t < h by omega]
    exact inn (K 3 8).toNat 0 a (Int.le_refl 0) (by omega) (by rw [ea, Int.add_zero]) a0
theorem p_74 {a i b : Int} (hi : -2147483648 ≤ i ∧ i < 2147483648) (I : Iv M) : Tw (d + 1) 74 130 [vI a, vI i, vI b] M := by
  have hL := I.1
  obtain ⟨⟨l51, l52, l53, l54, l55, l56, l57⟩, ⟨l58, l59, l60, l61, l62, l63, l64⟩, ⟨l66, l67, l68⟩, ⟨l69, l70, l71, l72⟩, ⟨n0, n1, n9, n18, n19, n23⟩⟩ := hL
  unfold Tw
  rw [uc 74, en_74]
  by_cases acc : (M 5 2 ≤ a ∧ a ≤ 100) ∧ (0 ≤ b ∧ b ≤ 1)
  · simp only [bq74_0, bq74_1, bq74_2, s_0, lgI_some, s_3, s_29, cnP_0, cnP_1, cnP_2, cnP_3, cnP_4, cnP_5, s_30, s_31, s_32, s_37i, s_37z, s_47, lgR_some, s_52, s_53, res_0, res_1, nlg_n, nlg_I, nlg_R, Bool.true_and, Bool.and_self, Bool.and_true, lg_0, lg_1, lg_2, lg_3, g_0_4, g_0_6, g_5_2, g_7_16, g_8_2, rc_31_7, rc_76, rc_84_0, List.length_cons, List.length_nil, Nat.reduceAdd, Nat.reduceLT, Nat.reduceLeDiff, true_and, and_true, true_or, or_true, Int.reduceEq, Nat.reduceEqDiff, reduceCtorEq, true_implies, false_implies, not_true_eq_false, not_false_eq_true, Nat.zero_le, Int.zero_add, Nat.zero_add, Nat.lt_add_one, eq_self, forall_const, implies_true, Bool.false_eq_true, false_or, or_false, and_self, ne_eq, me_ne, me_self, q_76, b01_z, Classical.not_not, acc.1.1, acc.1.2, acc.2.1, acc.2.2]
    refine c_84 (d := d) I acc.1.1 acc.1.2 (fun X IX x6 x5 ⟨S, hS, e16, hl⟩ => ?_)
    have W := Iv_WK IX
    have hn := W.2.2
    have q0 : X 50 0 = M 5 2 := by rw [IX.1.2.2.2.2.1, x5]
    have cb := cnt_bd (bp X S a) 1200
    have ref : ∀ v : Int, 0 ≤ i → (∀ j : Nat, (j : Int) < a * 12 + 12 → bp X S a j → cnt (bp X S a) j = i → v = if b = 0 then (j : Int) % 12 else (j : Int) / 12) → (cnt (bp X S a) (a * 12).toNat ≤ i → v = -1) → Cl (d + 1 + 6) 130 [vR 50, vI a, vI i, vI b] X (fun v' M2 => v = v' ∧ Iv M2) := by
      intro v i0 va vb
      rw [uc 130, en_130]
      simp only [bq130_0, bq130_2, s_0, lgI_some, s_1I, s_3, s_29, cnP_0, cnP_1, cnP_2, cnP_3, cnP_4, cnP_5, s_30, s_32, s_35, s_37i, s_37z, s_47, lgR_some, s_52, s_53, res_0, res_1, nlg_n, nlg_I, nlg_R, Bool.true_and, Bool.and_self, Bool.and_true, lg_0, lg_1, lg_2, lg_3, lg_4, lg_5, lg_6, lz_0, lz_1, lz_2, lz_3, lz_4, lz_5, lz_6, lp_0, lp_1, lp_2, lp_3, lp_4, lp_5, lp_6, isL_n, isL_I, isL_R, g_50_0, rc_125_50, rc_85, List.length_cons, List.length_nil, Nat.reduceAdd, Nat.reduceLT, Nat.reduceLeDiff, true_and, and_true, true_or, or_true, Int.reduceEq, Nat.reduceEqDiff, reduceCtorEq, true_implies, false_implies, not_true_eq_false, not_false_eq_true, Nat.zero_le, Int.zero_add, Nat.zero_add, Nat.lt_add_one, eq_self, forall_const, implies_true, Bool.false_eq_true, false_or, or_false, and_self, ne_eq, me_ne, me_self, q_85, q0, b01_z, Classical.not_not, acc.1.1, acc.1.2, acc.2.1, acc.2.2, i0]
      refine c_125 (d := d + 1) IX x6 (by rw [x5]; exact acc.1.1) acc.1.2 (fun Z u IZ fz wZ hZ h01 mv => ?_)
      have z50 : Z 50 0 = X 5 2 := wZ.2.1.2.1
      simp only [bq130_0, bq130_2, s_0, lgI_some, s_1I, s_3, s_29, cnP_0, cnP_1, cnP_2, cnP_3, cnP_4, cnP_5, s_30, s_32, s_35, s_37i, s_37z, s_47, lgR_some, s_52, s_53, res_0, res_1, nlg_n, nlg_I, nlg_R, Bool.true_and, Bool.and_self, Bool.and_true, lg_0, lg_1, lg_2, lg_3, lg_4, lg_5, lg_6, lz_0, lz_1, lz_2, lz_3, lz_4, lz_5, lz_6, lp_0, lp_1, lp_2, lp_3, lp_4, lp_5, lp_6, isL_n, isL_I, isL_R, g_50_0, rc_125_50, rc_85, List.length_cons, List.length_nil, Nat.reduceAdd, Nat.reduceLT, Nat.reduceLeDiff, true_and, and_true, true_or, or_true, Int.reduceEq, Nat.reduceEqDiff, reduceCtorEq, true_implies, false_implies, not_true_eq_false, not_false_eq_true, Nat.zero_le, Int.zero_add, Nat.zero_add, Nat.lt_add_one, eq_self, forall_const, implies_true, Bool.false_eq_true, false_or, or_false, and_self, ne_eq, me_ne, me_self, z50]
      have he := heap_eq hn.1 hS hZ
      have ep : bp X (Sr Z) a = bp X S a := by funext j; exact propext (bp_cg he).symm
      refine l_130 (d := d + 1) W wZ hZ.1 (fun p p0 p1 z => (h01 p p0 p1).resolve_left z) acc.1.2 (by rw [x5]; exact acc.1.1) hi.2 (fun j j1 j2 j3 => ⟨va j j1 (by rw [← ep]; exact j2) (by rw [← ep]; exact j3), IZ⟩) (fun z => ⟨vb (by rw [← ep]; exact z), IZ⟩) (a + 1 - X 5 2).toNat (X 5 2) i _ (Int.le_refl _) (by rw [x5] at hn ⊢; omega) ?_ i0
      have := cnt_skip (P := bp X (Sr Z) a) (a := 0) (X 5 2 * 12).toNat (fun j j0 j1 pj => by have := pj.2.1; omega)
      rw [Nat.zero_add] at this
      rw [this]
      show i = i - 0
      omega
    have top := cnt_top (S := S) W (show 0 ≤ a by rw [x5] at hn; omega) 1200 (by omega)
    have refn : i < 0 → Cl (d + 1 + 6) 130 [vR 50, vI a, vI i, vI b] X (fun v' M2 => -1 = v' ∧ Iv M2) := by
      intro q
      rw [uc 130, en_130]
      simp only [bq130_0, bq130_1, s_0, lgI_some, s_1I, s_3, s_29, cnP_0, cnP_1, cnP_2, cnP_3, cnP_4, cnP_5, s_32, s_35, s_37i, s_37z, s_47, lgR_some, s_52, s_53, res_0, res_1, nlg_n, nlg_I, nlg_R, Bool.true_and, Bool.and_self, Bool.and_true, lg_0, lg_1, lg_2, lg_3, lg_4, lg_5, lg_6, lz_0, lz_1, lz_2, lz_3, lz_4, lz_5, lz_6, lp_0, lp_1, lp_2, lp_3, lp_4, lp_5, lp_6, isL_n, isL_I, isL_R, g_50_0, rc_125_50, rc_85, List.length_cons, List.length_nil, Nat.reduceAdd, Nat.reduceLT, Nat.reduceLeDiff, true_and, and_true, true_or, or_true, Int.reduceEq, Nat.reduceEqDiff, reduceCtorEq, true_implies, false_implies, not_true_eq_false, not_false_eq_true, Nat.zero_le, Int.zero_add, Nat.zero_add, Nat.lt_add_one, eq_self, forall_const, implies_true, Bool.false_eq_true, false_or, or_false, and_self, ne_eq, me_ne, me_self, q_85, q0, b01_z, Classical.not_not, acc.1.1, acc.1.2, acc.2.1, acc.2.2, show ¬ 0 ≤ i by omega, IX]
    simp only [bq74_3, s_0, lgI_some, s_3, s_29, cnP_0, cnP_1, cnP_2, cnP_3, cnP_4, cnP_5, s_31, s_37i, s_37z, s_47, lgR_some, s_52, res_0, res_1, nlg_n, nlg_I, nlg_R, Bool.true_and, Bool.and_self, Bool.and_true, lg_0, lg_1, lg_2, lg_3, g_0_6, rc_31_7, List.length_cons, List.length_nil, Nat.reduceAdd, Nat.reduceLT, Nat.reduceLeDiff, true_and, and_true, true_or, or_true, Int.reduceEq, Nat.reduceEqDiff, reduceCtorEq, true_implies, false_implies, not_true_eq_false, not_false_eq_true, Nat.zero_le, Int.zero_add, Nat.zero_add, Nat.lt_add_one, eq_self, forall_const, implies_true, Bool.false_eq_true, false_or, or_false, and_self, ne_eq, me_ne, me_self, e16]
    refine ⟨fun q => refn q, fun q => ⟨fun q2 => ?_, fun q2 => ?_⟩⟩
    · obtain ⟨j, j1, j2, j3⟩ := cnt_inv (P := bp X S a) 1200 i (by omega) q2
      have x47 := hl j j1 j2
      rw [j3] at x47
      have un : ∀ j' : Nat, bp X S a j' → cnt (bp X S a) j' = i → j' = j := by
        intro j' p' c'
        by_cases z : j' < j
        · have := cnt_mo (P := bp X S a) (a := j' + 1) (b := j) (by omega)
          simp only [cnt] at this
          rw [b01_t p'] at this
          omega
        · by_cases y : j < j'
          · have := cnt_mo (P := bp X S a) (a := j + 1) (b := j') (by omega)
            simp only [cnt] at this
            rw [b01_t j2] at this
            omega
          · omega
      rw [bq74_4]
      simp only [bq74_5, bq74_6, s_0, lgI_some, s_29, cnP_0, cnP_1, cnP_2, cnP_3, cnP_4, cnP_5, s_31, s_32, s_37i, s_37z, s_47, lgR_some, s_52, res_0, res_1, nlg_n, nlg_I, nlg_R, Bool.true_and, Bool.and_self, Bool.and_true, lg_0, lg_1, lg_2, lg_3, g_0_6, rc_31_7, rc_32_7, List.length_cons, List.length_nil, Nat.reduceAdd, Nat.reduceLT, Nat.reduceLeDiff, true_and, and_true, true_or, or_true, Int.reduceEq, Nat.reduceEqDiff, reduceCtorEq, true_implies, false_implies, not_true_eq_false, not_false_eq_true, Nat.zero_le, Int.zero_add, Nat.zero_add, Nat.lt_add_one, eq_self, forall_const, implies_true, Bool.false_eq_true, false_or, or_false, and_self, ne_eq, me_ne, me_self, uc 31, en_31, bq31_0, s_3, s_14, s_24, kd_9, kd_10, kd_11, kd_12, kd_13, kd_14, kd_15, kd_16, kd_17, kd_18, kd_19, kd_20, kd_21, kd_22, kd_23, kd_24, kd_25, kd_26, kd_27, kd_28, kd_29, kd_30, kd_31, kd_32, kd_33, kd_34, kd_35, kd_36, kd_37, kd_38, kd_39, kd_40, kd_41, kd_42, kd_43, kd_44, kd_45, kd_46, kd_47, kd_48, kd_49, ln_9, ln_10, ln_11, ln_12, ln_13, ln_14, ln_15, ln_16, ln_17, ln_18, ln_19, ln_20, ln_21, ln_22, ln_23, ln_24, ln_25, ln_26, ln_27, ln_28, ln_29, ln_30, ln_31, ln_32, ln_33, ln_34, ln_35, ln_36, ln_37, ln_38, ln_39, ln_40, ln_41, ln_42, ln_43, ln_44, ln_45, ln_46, ln_47, ln_48, ln_49, g_7_8, uc 32, en_32, bq32_0, s_13, x47, show 0 ≤ i by omega, show i < 1200 by omega]
      refine ⟨fun z => ?_, fun z => ?_⟩
      · rw [Int.tdiv_eq_ediv_of_nonneg (by omega), w32_id (by omega) (by omega)]
        exact ref _ (by omega) (fun j' _ p' c' => by rw [un j' p' c', if_neg z]) (fun w => by omega)
      · rw [Int.tmod_eq_emod_of_nonneg (by omega)]
        exact ref _ (by omega) (fun j' _ p' c' => by rw [un j' p' c', if_pos (Classical.not_not.mp z)]) (fun w => by omega)
    · refine ref (-1) (by omega) (fun j' j1 p' c' => ?_) (fun _ => rfl)
      have mo := cnt_mo (P := bp X S a) (a := j' + 1) (b := (a * 12).toNat + 12) (by omega)
      have top2 := cnt_top (S := S) W (show 0 ≤ a by rw [x5] at hn; omega) ((a * 12).toNat + 12) (by omega)
      have e : cnt (bp X S a) (j' + 1) = cnt (bp X S a) j' + b01 (bp X S a j') := rfl
      rw [b01_t p'] at e
      omega
  · have hr : Cl (d + 1 + 6) 130 [vR 50, vI a, vI i, vI b] M (fun v' M2 => -1 = v' ∧ Iv M2) := by
      rw [uc 130, en_130]
      simp only [bq130_0, bq130_1, s_0, lgI_some, s_1I, s_3, s_29, cnP_0, cnP_1, cnP_2, cnP_3, cnP_4, cnP_5, s_32, s_35, s_37i, s_37z, s_47, lgR_some, s_52, s_53, res_0, res_1, nlg_n, nlg_I, nlg_R, Bool.true_and, Bool.and_self, Bool.and_true, lg_0, lg_1, lg_2, lg_3, lg_4, lg_5, lg_6, lz_0, lz_1, lz_2, lz_3, lz_4, lz_5, lz_6, lp_0, lp_1, lp_2, lp_3, lp_4, lp_5, lp_6, isL_n, isL_I, isL_R, g_50_0, rc_125_50, rc_85, List.length_cons, List.length_nil, Nat.reduceAdd, Nat.reduceLT, Nat.reduceLeDiff, true_and, and_true, true_or, or_true, Int.reduceEq, Nat.reduceEqDiff, reduceCtorEq, true_implies, false_implies, not_true_eq_false, not_false_eq_true, Nat.zero_le, Int.zero_add, Nat.zero_add, Nat.lt_add_one, eq_self, forall_const, implies_true, Bool.false_eq_true, false_or, or_false, and_self, ne_eq, me_ne, me_self, q_85, n0, b01_z, Classical.not_not, I]
      repeat' first | intro _ | apply And.intro
      all_goals first | exact I | (exfalso; omega)
    simp only [bq74_0, bq74_1, s_0, lgI_some, s_3, s_29, cnP_0, cnP_1, cnP_2, cnP_3, cnP_4, cnP_5, s_30, s_32, s_37i, s_37z, s_47, lgR_some, s_52, s_53, res_0, res_1, nlg_n, nlg_I, nlg_R, Bool.true_and, Bool.and_self, Bool.and_true, lg_0, lg_1, lg_2, lg_3, g_0_4, g_0_6, g_5_2, g_7_16, g_8_2, rc_76, rc_84_0, List.length_cons, List.length_nil, Nat.reduceAdd, Nat.reduceLT, Nat.reduceLeDiff, true_and, and_true, true_or, or_true, Int.reduceEq, Nat.reduceEqDiff, reduceCtorEq, true_implies, false_implies, not_true_eq_false, not_false_eq_true, Nat.zero_le, Int.zero_add, Nat.zero_add, Nat.lt_add_one, eq_self, forall_const, implies_true, Bool.false_eq_true, false_or, or_false, and_self, ne_eq, me_ne, me_self, q_76, b01_z, Classical.not_not]
    repeat' first | intro _ | apply And.intro
    all_goals first | exact hr | (exfalso; omega)
end BD

/-! the class's search -/
/-- marked, or never to be -/
def nm (M : Me) (p : Int) : Prop := M 43 p < 0 ∨ M 43 p = M 7 11
/-- a place of a cell, from now on -/
def rl (K : Me) (p : Int) : Prop := K 5 2 ≤ p / 10 ∧ p % 10 < K 1 8 ∧ K 9 (p % 10) ≠ 0
def mz (K M : Me) (p : Int) : Prop := rl K p ∧ M 43 p = M 7 11
theorem rl_pl {K : Me} {p : Int} (h : pl K (p % 10) (p / 10)) : rl K p := ⟨h.2.2.2.2.1, h.2.2.1, h.2.2.2.1⟩
def SI (K : Me) (t : Int) (M : Me) : Prop := (0 ≤ M 7 9 ∧ M 7 9 ≤ M 7 10 ∧ M 7 10 = sm 1010 (fun p => b01 (mz K M p)) ∧ 1 ≤ M 7 11) ∧
  (∀ i, 0 ≤ i → i < M 7 10 → (0 ≤ M 46 i ∧ M 46 i < 1010) ∧ mz K M (M 46 i)) ∧
  (∀ p, 0 ≤ p → p < 1010 → mz K M p → (∃ i, 0 ≤ i ∧ i < M 7 10 ∧ M 46 i = p) ∧ pl K (p % 10) (p / 10) ∧ p / 10 ≤ t) ∧
  (∀ i, 0 ≤ i → i < M 7 9 → (0 ≤ M 45 i ∧ M 45 i < 1010) ∧ mz K M (M 45 i)) ∧
  (∀ i j, 0 ≤ i → i < M 7 10 → 0 ≤ j → j < M 7 10 → M 46 i = M 46 j → i = j)
def Mt (K : Me) (t : Int) (P : Int → Int → Prop) (M M' : Me) : Prop :=
  (∀ k, k ∉ [7, 43, 44, 45, 46] → M' k = M k) ∧ (∀ j, j ≠ 9 → j ≠ 10 → M' 7 j = M 7 j) ∧
  (M 7 9 ≤ M' 7 9 ∧ M' 7 10 - M 7 10 = M' 7 9 - M 7 9) ∧
  (∀ p, 0 ≤ p → p < 1010 → M' 43 p = M 43 p ∨ (M' 43 p = M 7 11 ∧ 0 ≤ M 43 p)) ∧
  (∀ i, 0 ≤ i → i < M 7 9 → M' 45 i = M 45 i) ∧ (∀ i, 0 ≤ i → i < M 7 10 → M' 46 i = M 46 i) ∧
  (∀ p, 0 ≤ p → p < 1010 → M 43 p = M 7 11 → M' 44 p = M 44 p) ∧
  (∀ p, 0 ≤ p → p < 1010 → M' 43 p = M 7 11 → M 43 p ≠ M 7 11 → ∃ i, M 7 9 ≤ i ∧ i < M' 7 9 ∧ M' 45 i = p) ∧
  (∀ i, M 7 10 ≤ i → i < M' 7 10 → P (M' 46 i) (M' 44 (M' 46 i))) ∧ SI K t M'
section ME
variable {d : Nat} {K M M1 M2 : Me} {t : Int} {P : Int → Int → Prop} {Q : Int → Me → Prop}
theorem Mt_rf (h : SI K t M) : Mt K t P M M :=
  ⟨fun _ _ => rfl, fun _ _ _ => rfl, ⟨Int.le_refl _, by omega⟩, fun _ _ _ => Or.inl rfl, fun _ _ _ => rfl, fun _ _ _ => rfl, fun _ _ _ _ => rfl, fun _ _ _ a b => (b a).elim, fun i a b => by omega, h⟩
theorem Mt_nm {p : Int} (h : Mt K t P M M1) (h0 : 0 ≤ p) (h1 : p < 1010) (q : nm M p) : nm M1 p := by
  have e := h.2.1 11 (by decide) (by decide)
  rcases h.2.2.2.1 p h0 h1 with z | z
  · unfold nm at *; rw [z, e]; exact q
  · exact Or.inr (by rw [z.1, e])
theorem Mt_mk {p : Int} (h : Mt K t P M M1) (h0 : 0 ≤ p) (h1 : p < 1010) (q : M 43 p = M 7 11) : M1 43 p = M 7 11 := by
  rcases h.2.2.2.1 p h0 h1 with z | z
  · rw [z]; exact q
  · exact z.1
theorem Mt_tr (h : Mt K t P M M1) (g : Mt K t P M1 M2) (hs : SI K t M) : Mt K t P M M2 := by
  have e := h.2.1 11 (by decide) (by decide)
  have g0 := g
  have h0 := h
  obtain ⟨a1, a2, a3, a4, a5, a6, a7, a8, a9, a10⟩ := h
  obtain ⟨b1, b2, b3, b4, b5, b6, b7, b8, b9, b10⟩ := g
  rw [e] at b4 b7 b8
  refine ⟨fun k q => by rw [b1 k q, a1 k q], fun j q1 q2 => by rw [b2 j q1 q2, a2 j q1 q2], by omega, ?_, ?_, ?_, ?_, ?_, ?_, b10⟩
  · intro p p0 p1
    rcases b4 p p0 p1 with z | z
    · rw [z]; exact a4 p p0 p1
    · refine Or.inr ⟨z.1, ?_⟩
      rcases a4 p p0 p1 with y | y
      · rw [← y]; exact z.2
      · exact y.2
  · intro i i0 i1
    rw [b5 i i0 (by omega), a5 i i0 i1]
  · intro i i0 i1
    have := hs.1
    rw [b6 i i0 (by omega), a6 i i0 i1]
  · intro p p0 p1 q
    rw [b7 p p0 p1 (Mt_mk h0 p0 p1 q), a7 p p0 p1 q]
  · intro p p0 p1 q1 q2
    have hs1 := hs.1
    by_cases z : M1 43 p = M 7 11
    · obtain ⟨i, i0, i1, i2⟩ := a8 p p0 p1 z q2
      exact ⟨i, i0, by omega, by rw [b5 i (by omega) i1, i2]⟩
    · obtain ⟨i, i0, i1, i2⟩ := b8 p p0 p1 q1 z
      exact ⟨i, by omega, i1, i2⟩
  · intro i i0 i1
    have hs1 := hs.1
    by_cases z : i < M1 7 10
    · have c := a10.2.1 i (by omega) z
      rw [b6 i (by omega) z, b7 _ c.1.1 c.1.2 (by rw [c.2.2, e])]
      exact a9 i i0 z
    · exact b9 i (by omega) i1
def mtm (M : Me) (p s : Int) : Me := me_put (me_put (me_put (me_put (me_put (me_put M 43 p (M 7 11)) 44 p s) 45 (M 7 9) p) 7 9 (M 7 9 + 1)) 46 (M 7 10) p) 7 10 (M 7 10 + 1)
theorem SI_lt {p : Int} (h : SI K t M) (p0 : 0 ≤ p) (p1 : p < 1010) (q : M 43 p ≠ M 7 11) : M 7 10 < 1010 := by
  have e := h.1.2.2.1
  have a := sm_up (n := 1010) (f := fun p => b01 (mz K M p)) (g := fun i => if i = p then 1 else b01 (mz K M i)) (k := p) (x := 1) p0 (by omega) (by simp only [if_true]; rw [b01_f (fun z => q z.2)]; omega) (fun i _ _ hi => by simp [hi])
  have b := sm_le (n := 1010) (f := fun i => if i = p then 1 else b01 (mz K M i)) (g := fun _ => 1) (fun i _ _ => by
    split
    · omega
    · by_cases z : mz K M i
      · rw [b01_t z]; omega
      · rw [b01_f z]; omega)
  have c : sm 1010 (fun _ => 1) = 1010 := by decide +kernel
  omega
theorem SI_mt {p s : Int} (h : SI K t M) (p0 : 0 ≤ p) (p1 : p < 1010) (q : M 43 p ≠ M 7 11) (hp : pl K (p % 10) (p / 10)) (ht : p / 10 ≤ t) (hP : P p s) (g0 : 0 ≤ M 43 p) : Mt K t P M (mtm M p s) := by
  have e43 : mtm M p s 43 = fu (M 43) p (M 7 11) := by unfold mtm; simp only [me_f, me_fs, me_ne, me_self, me_i, fu_s, ne_eq, Nat.reduceEqDiff, not_false_eq_true, Int.reduceEq, reduceCtorEq]
  have e44 : mtm M p s 44 = fu (M 44) p s := by unfold mtm; simp only [me_f, me_fs, me_ne, me_self, me_i, fu_s, ne_eq, Nat.reduceEqDiff, not_false_eq_true, Int.reduceEq, reduceCtorEq]
  have e45 : mtm M p s 45 = fu (M 45) (M 7 9) p := by unfold mtm; simp only [me_f, me_fs, me_ne, me_self, me_i, fu_s, ne_eq, Nat.reduceEqDiff, not_false_eq_true, Int.reduceEq, reduceCtorEq]
  have e46 : mtm M p s 46 = fu (M 46) (M 7 10) p := by unfold mtm; simp only [me_f, me_fs, me_ne, me_self, me_i, fu_s, ne_eq, Nat.reduceEqDiff, not_false_eq_true, Int.reduceEq, reduceCtorEq]
  have e9 : mtm M p s 7 9 = M 7 9 + 1 := by unfold mtm; simp only [me_f, me_fs, me_ne, me_self, me_i, fu_s, ne_eq, Nat.reduceEqDiff, not_false_eq_true, Int.reduceEq, reduceCtorEq]
  have e10 : mtm M p s 7 10 = M 7 10 + 1 := by unfold mtm; simp only [me_f, me_fs, me_ne, me_self, me_i, fu_s, ne_eq, Nat.reduceEqDiff, not_false_eq_true, Int.reduceEq, reduceCtorEq]
  have e7 : ∀ j, j ≠ 9 → j ≠ 10 → mtm M p s 7 j = M 7 j := fun j q1 q2 => by unfold mtm; simp only [me_ne, me_i, ne_eq, Nat.reduceEqDiff, not_false_eq_true, q1, q2]
  have e11 := e7 11 (by decide) (by decide)
  have hrl := rl_pl hp
  have ez : ∀ i, i ≠ p → (mz K (mtm M p s) i ↔ mz K M i) := fun i hi => by unfold mz; rw [e43, e11, fu_n hi]
  have ezp : mz K (mtm M p s) p := ⟨hrl, by rw [e43, e11, fu_s]⟩
  obtain ⟨⟨s1, s2, s3, s4⟩, s5, s6, s7, s8⟩ := h
  refine ⟨?_, e7, ?_, ?_, ?_, ?_, ?_, ?_, ?_, ?_⟩
  · intro k hk
    simp at hk
    unfold mtm
    rw [me_f _ hk.1, me_f _ hk.2.2.2.2, me_f _ hk.1, me_f _ hk.2.2.2.1, me_f _ hk.2.2.1, me_f _ hk.2.1]
  · rw [e9, e10]; omega
  · intro i i0 i1
    rw [e43]
    by_cases z : i = p
    · subst z; rw [fu_s]; exact Or.inr ⟨rfl, g0⟩
    · rw [fu_n z]; exact Or.inl rfl
  · intro i i0 i1; rw [e45, fu_n (by omega)]
  · intro i i0 i1; rw [e46, fu_n (by omega)]
  · intro i i0 i1 z
    rw [e44, fu_n (fun y => q (by rw [← y]; exact z))]
  · intro i i0 i1 z1 z2
    rw [e43] at z1
    by_cases z : i = p
    · exact ⟨M 7 9, Int.le_refl _, by rw [e9]; omega, by rw [e45, fu_s, z]⟩
    · rw [fu_n z] at z1; exact (z2 z1).elim
  · intro i i0 i1
    rw [e10] at i1
    have : i = M 7 10 := by omega
    subst this
    rw [e46, fu_s, e44, fu_s]
    exact hP
  · refine ⟨⟨by rw [e9]; omega, by rw [e9, e10]; omega, ?_, by rw [e11]; exact s4⟩, ?_, ?_, ?_, ?_⟩
    · rw [e10, s3]
      exact (sm_up (n := 1010) (k := p) (x := 1) p0 (by omega) (by rw [b01_t ezp, b01_f (fun z => q z.2)]; omega) (fun i _ _ hi => b01_cg (ez i hi))).symm
    · intro i i0 i1
      rw [e10] at i1
      rw [e46]
      by_cases z : i = M 7 10
      · subst z; rw [fu_s]; exact ⟨⟨p0, p1⟩, ezp⟩
      · have c := s5 i i0 (by omega)
        rw [fu_n z]
        refine ⟨c.1, ?_⟩
        by_cases y : M 46 i = p
        · rw [y]; exact ezp
        · exact (ez _ y).mpr c.2
    · intro i i0 i1 z
      by_cases y : i = p
      · subst y
        exact ⟨⟨M 7 10, by omega, by rw [e10]; omega, by rw [e46, fu_s]⟩, hp, ht⟩
      · obtain ⟨⟨j, j0, j1, j2⟩, c⟩ := s6 i i0 i1 ((ez i y).mp z)
        exact ⟨⟨j, j0, by rw [e10]; omega, by rw [e46, fu_n (by omega)]; exact j2⟩, c⟩
    · intro i i0 i1
      rw [e9] at i1
      rw [e45]
      by_cases z : i = M 7 9
      · subst z; rw [fu_s]; exact ⟨⟨p0, p1⟩, ezp⟩
      · have c := s7 i i0 (by omega)
        rw [fu_n z]
        refine ⟨c.1, ?_⟩
        by_cases y : M 45 i = p
        · rw [y]; exact ezp
        · exact (ez _ y).mpr c.2
    · intro i j i0 i1 j0 j1 z
      rw [e10] at i1 j1
      rw [e46] at z
      by_cases y : i = M 7 10
      · by_cases x : j = M 7 10
        · omega
        · rw [y, fu_s, fu_n x] at z
          have c := s5 j j0 (by omega)
          rw [← z] at c
          exact (q c.2.2).elim
      · by_cases x : j = M 7 10
        · rw [x, fu_s, fu_n y] at z
          have c := s5 i i0 (by omega)
          rw [z] at c
          exact (q c.2.2).elim
        · rw [fu_n y, fu_n x] at z
          exact s8 i j i0 (by omega) j0 (by omega) z
/-- a place is met -/
theorem c_19 {p s : Int} (h : SI K t M) (p0 : 0 ≤ p) (p1 : p < 1010) (hp : 0 ≤ M 43 p → pl K (p % 10) (p / 10) ∧ p / 10 ≤ t) (hP : P p s) (H : ∀ M', Mt K t P M M' → nm M' p → Q 0 M') : Cl d 19 [vR 7, vI p, vI s] M Q := by
  have h1 := h.1
  unfold Cl
  rw [en_19]
  by_cases g : nm M p
  · have hq := H M (Mt_rf h) g
    simp only [bq19_0, bq19_1, bq19_2, bq19_3, bq19_4, s_0, lgI_some, s_1I, s_3, s_6, s_24, s_25, s_29, cnP_0, cnP_1, cnP_2, cnP_3, cnP_4, cnP_5, s_30, s_32, s_33I, s_33R, s_38, s_47, lgR_some, kd_9, kd_10, kd_11, kd_12, kd_13, kd_14, kd_15, kd_16, kd_17, kd_18, kd_19, kd_20, kd_21, kd_22, kd_23, kd_24, kd_25, kd_26, kd_27, kd_28, kd_29, kd_30, kd_31, kd_32, kd_33, kd_34, kd_35, kd_36, kd_37, kd_38, kd_39, kd_40, kd_41, kd_42, kd_43, kd_44, kd_45, kd_46, kd_47, kd_48, kd_49, ln_9, ln_10, ln_11, ln_12, ln_13, ln_14, ln_15, ln_16, ln_17, ln_18, ln_19, ln_20, ln_21, ln_22, ln_23, ln_24, ln_25, ln_26, ln_27, ln_28, ln_29, ln_30, ln_31, ln_32, ln_33, ln_34, ln_35, ln_36, ln_37, ln_38, ln_39, ln_40, ln_41, ln_42, ln_43, ln_44, ln_45, ln_46, ln_47, ln_48, ln_49, lg_0, lg_1, lg_2, lg_3, lz_0, lz_1, lz_2, lz_3, lp_0, lp_1, lp_2, lp_3, isL_n, isL_I, isL_R, g_7_10, g_7_11, g_7_4, g_7_5, g_7_6, g_7_7, g_7_9, p_7_10, p_7_9, List.length_cons, List.length_nil, Nat.reduceAdd, Nat.reduceLT, Nat.reduceLeDiff, true_and, and_true, true_or, or_true, Int.reduceEq, Nat.reduceEqDiff, reduceCtorEq, true_implies, false_implies, not_true_eq_false, not_false_eq_true, Nat.zero_le, Int.zero_add, Nat.zero_add, Nat.lt_add_one, eq_self, forall_const, implies_true, Bool.false_eq_true, false_or, or_false, and_self, ne_eq, me_ne, me_self, p0, p1, show ¬ p < 0 by omega, show ¬ 1010 ≤ p by omega]
    refine ⟨fun _ => hq, fun _ => ⟨fun _ => ⟨fun _ => hq, fun q => ⟨fun q2 => ?_, fun _ => hq⟩⟩, fun _ => hq⟩⟩
    rcases g with g | g
    · omega
    · exact (q2 g).elim
  · have g1 : ¬ M 43 p < 0 := fun z => g (Or.inl z)
    have g2 : ¬ M 43 p = M 7 11 := fun z => g (Or.inr z)
    have lt := SI_lt h p0 p1 g2
    have hp' := hp (by omega)
    have hm := SI_mt h p0 p1 g2 hp'.1 hp'.2 hP (by omega)
    have hq := H (mtm M p s) hm (Or.inr (by
      have e := hm.2.1 11 (by decide) (by decide)
      rw [e]; unfold mtm; simp only [me_f, me_fs, me_ne, me_self, me_i, fu_s, ne_eq, Nat.reduceEqDiff, not_false_eq_true, Int.reduceEq, reduceCtorEq]))
    simp only [bq19_0, bq19_1, bq19_2, bq19_3, bq19_4, s_0, lgI_some, s_1I, s_3, s_6, s_24, s_25, s_29, cnP_0, cnP_1, cnP_2, cnP_3, cnP_4, cnP_5, s_30, s_32, s_33I, s_33R, s_38, s_47, lgR_some, kd_9, kd_10, kd_11, kd_12, kd_13, kd_14, kd_15, kd_16, kd_17, kd_18, kd_19, kd_20, kd_21, kd_22, kd_23, kd_24, kd_25, kd_26, kd_27, kd_28, kd_29, kd_30, kd_31, kd_32, kd_33, kd_34, kd_35, kd_36, kd_37, kd_38, kd_39, kd_40, kd_41, kd_42, kd_43, kd_44, kd_45, kd_46, kd_47, kd_48, kd_49, ln_9, ln_10, ln_11, ln_12, ln_13, ln_14, ln_15, ln_16, ln_17, ln_18, ln_19, ln_20, ln_21, ln_22, ln_23, ln_24, ln_25, ln_26, ln_27, ln_28, ln_29, ln_30, ln_31, ln_32, ln_33, ln_34, ln_35, ln_36, ln_37, ln_38, ln_39, ln_40, ln_41, ln_42, ln_43, ln_44, ln_45, ln_46, ln_47, ln_48, ln_49, lg_0, lg_1, lg_2, lg_3, lz_0, lz_1, lz_2, lz_3, lp_0, lp_1, lp_2, lp_3, isL_n, isL_I, isL_R, g_7_10, g_7_11, g_7_4, g_7_5, g_7_6, g_7_7, g_7_9, p_7_10, p_7_9, List.length_cons, List.length_nil, Nat.reduceAdd, Nat.reduceLT, Nat.reduceLeDiff, true_and, and_true, true_or, or_true, Int.reduceEq, Nat.reduceEqDiff, reduceCtorEq, true_implies, false_implies, not_true_eq_false, not_false_eq_true, Nat.zero_le, Int.zero_add, Nat.zero_add, Nat.lt_add_one, eq_self, forall_const, implies_true, Bool.false_eq_true, false_or, or_false, and_self, ne_eq, me_ne, me_self, me_i, p0, p1, show ¬ p < 0 by omega, show ¬ 1010 ≤ p by omega, show ¬ 1010 ≤ M 7 10 by omega, show M 7 9 < 1010 by omega, g1, g2, h1.1, show 0 ≤ M 7 10 by omega, lt, show w32 (M 7 9 + 1) = M 7 9 + 1 from w32_id (by omega) (by omega), show w32 (M 7 10 + 1) = M 7 10 + 1 from w32_id (by omega) (by omega)]
    exact hq
end ME

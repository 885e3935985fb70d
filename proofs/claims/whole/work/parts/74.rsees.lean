/-! the reference's search -/
def rW (K M : Me) : Prop := (M 69 = K 25 ∧ M 70 = K 26 ∧ M 71 = K 27 ∧ M 72 = K 28 ∧ M 55 = K 13 ∧ M 51 = K 9 ∧ M 52 = K 10) ∧ (M 50 23 = K 3 8 ∧ M 50 0 = K 5 2 ∧ M 50 1 = K 1 8) ∧ (∀ c h, 0 ≤ c → c < K 1 8 → K 5 2 ≤ h → h ≤ 100 → M 78 (101 * c + h) = K 38 (h * 10 + c))
def SR (K : Me) (t : Int) (M : Me) : Prop := (0 ≤ M 50 41 ∧ M 50 41 = sm 1010 (fun p => b01 (M 82 p = 1))) ∧ (∀ p, 0 ≤ p → p < 1010 → M 82 p = 0 ∨ M 82 p = 1) ∧
  (∀ i, 0 ≤ i → i < M 50 41 → (0 ≤ M 83 i ∧ M 83 i < 1010) ∧ M 82 (M 83 i) = 1) ∧
  (∀ p, 0 ≤ p → p < 1010 → M 82 p = 1 → (∃ i, 0 ≤ i ∧ i < M 50 41 ∧ M 83 i = p) ∧ pl K (p / 101) (p % 101) ∧ p % 101 ≤ t) ∧
  (∀ i j, 0 ≤ i → i < M 50 41 → 0 ≤ j → j < M 50 41 → M 83 i = M 83 j → i = j)
def Mr (K : Me) (t : Int) (P : Int → Int → Int → Prop) (M M' : Me) : Prop :=
  (∀ k, k ∉ [50, 82, 83, 84, 85] → M' k = M k) ∧ (∀ j, j ≠ 41 → M' 50 j = M 50 j) ∧ M 50 41 ≤ M' 50 41 ∧
  (∀ p, 0 ≤ p → p < 1010 → M' 82 p = M 82 p ∨ M' 82 p = 1) ∧ (∀ i, 0 ≤ i → i < M 50 41 → M' 83 i = M 83 i) ∧
  (∀ p, 0 ≤ p → p < 1010 → M 82 p = 1 → M' 84 p = M 84 p ∧ M' 85 p = M 85 p) ∧
  (∀ i, M 50 41 ≤ i → i < M' 50 41 → P (M' 83 i) (M' 84 (M' 83 i)) (M' 85 (M' 83 i))) ∧ SR K t M'
section RS
variable {d : Nat} {K M M1 M2 : Me} {t : Int} {P : Int → Int → Int → Prop} {Q : Int → Me → Prop}
theorem Mr_rf (h : SR K t M) : Mr K t P M M :=
  ⟨fun _ _ => rfl, fun _ _ => rfl, Int.le_refl _, fun _ _ _ => Or.inl rfl, fun _ _ _ => rfl, fun _ _ _ _ => ⟨rfl, rfl⟩, fun i a b => by omega, h⟩
theorem Mr_mk {p : Int} (h : Mr K t P M M1) (h0 : 0 ≤ p) (h1 : p < 1010) (q : M 82 p = 1) : M1 82 p = 1 := by
  rcases h.2.2.2.1 p h0 h1 with z | z
  · rw [z]; exact q
  · exact z
theorem Mr_tr (h : Mr K t P M M1) (g : Mr K t P M1 M2) (hs : SR K t M) : Mr K t P M M2 := by
  have h0 := h
  obtain ⟨a1, a2, a3, a4, a5, a6, a7, a8⟩ := h
  obtain ⟨b1, b2, b3, b4, b5, b6, b7, b8⟩ := g
  refine ⟨fun k q => by rw [b1 k q, a1 k q], fun j q => by rw [b2 j q, a2 j q], by omega, ?_, ?_, ?_, ?_, b8⟩
  · intro p p0 p1
    rcases b4 p p0 p1 with z | z
    · rw [z]; exact a4 p p0 p1
    · exact Or.inr z
  · intro i i0 i1; rw [b5 i i0 (by omega), a5 i i0 i1]
  · intro p p0 p1 q
    have x := b6 p p0 p1 (Mr_mk h0 p0 p1 q)
    have y := a6 p p0 p1 q
    exact ⟨by rw [x.1, y.1], by rw [x.2, y.2]⟩
  · intro i i0 i1
    have hs1 := hs.1
    by_cases z : i < M1 50 41
    · have c := a8.2.2.1 i (by omega) z
      have x := b6 _ c.1.1 c.1.2 c.2
      rw [b5 i (by omega) z, x.1, x.2]
      exact a7 i i0 z
    · exact b7 i (by omega) i1
theorem SR_lt {p : Int} (h : SR K t M) (p0 : 0 ≤ p) (p1 : p < 1010) (q : M 82 p ≠ 1) : M 50 41 < 1010 := by
  have e := h.1.2
  have a := sm_up (n := 1010) (f := fun p => b01 (M 82 p = 1)) (g := fun i => if i = p then 1 else b01 (M 82 i = 1)) (k := p) (x := 1) p0 (by omega) (by simp only [if_true]; rw [b01_f q]; omega) (fun i _ _ hi => by simp [hi])
  have b := sm_le (n := 1010) (f := fun i => if i = p then 1 else b01 (M 82 i = 1)) (g := fun _ => 1) (fun i _ _ => by
    split
    · omega
    · exact (b01_bd _).2)
  have c : sm 1010 (fun _ => 1) = 1010 := by decide +kernel
  omega
/-- a place is seen -/
theorem c_119 {c h k r : Int} (hs : SR K t M) (c0 : 0 ≤ c) (c1 : c < 10) (h0 : 0 ≤ h) (h1 : h ≤ 100) (hp : pl K c h) (ht : h ≤ t) (hP : P (101 * c + h) k r) (H : ∀ M', Mr K t P M M' → M' 82 (101 * c + h) = 1 → Q 0 M') : Cl d 119 [vR 50, vI c, vI h, vI k, vI r] M Q := by
  have e := ix101 c0 (show c < 12 by omega) h0 h1
  unfold Cl
  rw [en_119]
  by_cases g : M 82 (101 * c + h) = 1
  · simp only [bq119_0, bq119_1, s_0, lgI_some, s_1I, s_3, s_6, s_8, s_25, s_26, s_29, cnP_0, cnP_1, cnP_2, cnP_3, cnP_4, cnP_5, s_33I, s_33R, s_38, s_46, s_47, lgR_some, kd_51, kd_52, kd_53, kd_54, kd_55, kd_56, kd_57, kd_58, kd_59, kd_60, kd_61, kd_62, kd_63, kd_64, kd_65, kd_66, kd_67, kd_68, kd_69, kd_70, kd_71, kd_72, kd_73, kd_74, kd_75, kd_76, kd_77, kd_78, kd_79, kd_80, kd_81, kd_82, kd_83, kd_84, kd_85, ln_51, ln_52, ln_53, ln_54, ln_55, ln_56, ln_57, ln_58, ln_59, ln_60, ln_61, ln_62, ln_63, ln_64, ln_65, ln_66, ln_67, ln_68, ln_69, ln_70, ln_71, ln_72, ln_73, ln_74, ln_75, ln_76, ln_77, ln_78, ln_79, ln_80, ln_81, ln_82, ln_83, ln_84, ln_85, lg_0, lg_1, lg_2, lg_3, lg_4, lg_5, lz_0, lz_1, lz_2, lz_3, lz_4, lz_5, lp_0, lp_1, lp_2, lp_3, lp_4, lp_5, isL_n, isL_I, isL_R, g_50_37, g_50_38, g_50_39, g_50_40, g_50_41, p_50_41, List.length_cons, List.length_nil, Nat.reduceAdd, Nat.reduceLT, Nat.reduceLeDiff, true_and, and_true, true_or, or_true, Int.reduceEq, Nat.reduceEqDiff, reduceCtorEq, true_implies, false_implies, not_true_eq_false, not_false_eq_true, Nat.zero_le, Int.zero_add, Nat.zero_add, Nat.lt_add_one, eq_self, forall_const, implies_true, Bool.false_eq_true, false_or, or_false, and_self, ne_eq, me_ne, me_self, e, eq_true (show 0 ≤ 101 * c + h by omega), eq_true (show 101 * c + h < 1010 by omega), g]
    exact H M (Mr_rf hs) g
  · have g0 : M 82 (101 * c + h) = 0 := (hs.2.1 _ (by omega) (by omega)).resolve_right g
    have lt := SR_lt hs (p := 101 * c + h) (by omega) (by omega) g
    have s1 := hs.1
    simp only [bq119_0, bq119_1, s_0, lgI_some, s_1I, s_3, s_6, s_8, s_25, s_26, s_29, cnP_0, cnP_1, cnP_2, cnP_3, cnP_4, cnP_5, s_33I, s_33R, s_38, s_46, s_47, lgR_some, kd_51, kd_52, kd_53, kd_54, kd_55, kd_56, kd_57, kd_58, kd_59, kd_60, kd_61, kd_62, kd_63, kd_64, kd_65, kd_66, kd_67, kd_68, kd_69, kd_70, kd_71, kd_72, kd_73, kd_74, kd_75, kd_76, kd_77, kd_78, kd_79, kd_80, kd_81, kd_82, kd_83, kd_84, kd_85, ln_51, ln_52, ln_53, ln_54, ln_55, ln_56, ln_57, ln_58, ln_59, ln_60, ln_61, ln_62, ln_63, ln_64, ln_65, ln_66, ln_67, ln_68, ln_69, ln_70, ln_71, ln_72, ln_73, ln_74, ln_75, ln_76, ln_77, ln_78, ln_79, ln_80, ln_81, ln_82, ln_83, ln_84, ln_85, lg_0, lg_1, lg_2, lg_3, lg_4, lg_5, lz_0, lz_1, lz_2, lz_3, lz_4, lz_5, lp_0, lp_1, lp_2, lp_3, lp_4, lp_5, isL_n, isL_I, isL_R, g_50_37, g_50_38, g_50_39, g_50_40, g_50_41, p_50_41, List.length_cons, List.length_nil, Nat.reduceAdd, Nat.reduceLT, Nat.reduceLeDiff, true_and, and_true, true_or, or_true, Int.reduceEq, Nat.reduceEqDiff, reduceCtorEq, true_implies, false_implies, not_true_eq_false, not_false_eq_true, Nat.zero_le, Int.zero_add, Nat.zero_add, Nat.lt_add_one, eq_self, forall_const, implies_true, Bool.false_eq_true, false_or, or_false, and_self, ne_eq, me_ne, me_self, e, eq_true (show 0 ≤ 101 * c + h by omega), eq_true (show 101 * c + h < 1010 by omega), g0, s1.1, lt, show w32 (M 50 41 + 1) = M 50 41 + 1 from w32_id (by omega) (by omega)]
    generalize hp' : 101 * c + h = p at *
    have p0 : 0 ≤ p := by omega
    have p1 : p < 1010 := by omega
    generalize hX : me_put (me_put (me_put (me_put (me_put M 82 p 1) 84 p k) 85 p r) 83 (M 50 41) p) 50 41 (M 50 41 + 1) = X
    have x82 : X 82 = fu (M 82) p 1 := by rw [← hX]; simp only [me_f, me_fs, me_ne, me_self, me_i, fu_s, ne_eq, Nat.reduceEqDiff, not_false_eq_true, Int.reduceEq, reduceCtorEq]
    have x83 : X 83 = fu (M 83) (M 50 41) p := by rw [← hX]; simp only [me_f, me_fs, me_ne, me_self, me_i, fu_s, ne_eq, Nat.reduceEqDiff, not_false_eq_true, Int.reduceEq, reduceCtorEq]
    have x84 : X 84 = fu (M 84) p k := by rw [← hX]; simp only [me_f, me_fs, me_ne, me_self, me_i, fu_s, ne_eq, Nat.reduceEqDiff, not_false_eq_true, Int.reduceEq, reduceCtorEq]
    have x85 : X 85 = fu (M 85) p r := by rw [← hX]; simp only [me_f, me_fs, me_ne, me_self, me_i, fu_s, ne_eq, Nat.reduceEqDiff, not_false_eq_true, Int.reduceEq, reduceCtorEq]
    have x41 : X 50 41 = M 50 41 + 1 := by rw [← hX]; simp only [me_f, me_fs, me_ne, me_self, me_i, fu_s, ne_eq, Nat.reduceEqDiff, not_false_eq_true, Int.reduceEq, reduceCtorEq]
    have x50 : ∀ j, j ≠ 41 → X 50 j = M 50 j := fun j q => by rw [← hX]; simp only [me_ne, me_i, ne_eq, Nat.reduceEqDiff, not_false_eq_true, q]
    obtain ⟨⟨s1, s2⟩, s3, s4, s5, s6⟩ := hs
    refine H X ⟨?_, x50, by omega, ?_, ?_, ?_, ?_, ⟨⟨by omega, ?_⟩, ?_, ?_, ?_, ?_⟩⟩ (by rw [x82, fu_s])
    · intro k' hk
      simp at hk
      rw [← hX, me_f _ hk.1, me_f _ hk.2.2.1, me_f _ hk.2.2.2.2, me_f _ hk.2.2.2.1, me_f _ hk.2.1]
    · intro i i0 i1
      rw [x82]
      by_cases z : i = p
      · rw [z, fu_s]; exact Or.inr rfl
      · rw [fu_n z]; exact Or.inl rfl
    · intro i i0 i1; rw [x83, fu_n (by omega)]
    · intro i i0 i1 z
      have : i ≠ p := fun y => g (by rw [← y]; exact z)
      rw [x84, x85, fu_n this, fu_n this]; exact ⟨rfl, rfl⟩
    · intro i i0 i1
      have : i = M 50 41 := by omega
      subst this
      rw [x83, fu_s, x84, x85, fu_s, fu_s]; exact hP
    · rw [x41, s2, x82]
      exact (sm_up (n := 1010) (k := p) (x := 1) p0 (by omega) (by rw [fu_s, b01_t rfl, b01_f g]; omega) (fun i _ _ hi => by rw [fu_n hi])).symm
    · intro i i0 i1
      rw [x82]
      by_cases z : i = p
      · rw [z, fu_s]; exact Or.inr rfl
      · rw [fu_n z]; exact s3 i i0 i1
    · intro i i0 i1
      rw [x83, x82]
      by_cases z : i = M 50 41
      · subst z; rw [fu_s, fu_s]; exact ⟨⟨p0, p1⟩, rfl⟩
      · have a := s4 i i0 (by omega)
        rw [fu_n z]
        refine ⟨a.1, ?_⟩
        by_cases y : M 83 i = p
        · rw [y, fu_s]
        · rw [fu_n y]; exact a.2
    · intro i i0 i1 z
      rw [x82] at z
      by_cases y : i = p
      · subst y
        refine ⟨⟨M 50 41, by omega, by omega, by rw [x83, fu_s]⟩, ?_, ?_⟩
        · rw [show i / 101 = c by omega, show i % 101 = h by omega]; exact hp
        · omega
      · rw [fu_n y] at z
        obtain ⟨⟨j, j0, j1, j2⟩, a⟩ := s5 i i0 i1 z
        exact ⟨⟨j, j0, by omega, by rw [x83, fu_n (by omega)]; exact j2⟩, a⟩
    · intro i j i0 i1 j0 j1 z
      rw [x83] at z
      by_cases y : i = M 50 41
      · by_cases x : j = M 50 41
        · omega
        · rw [y, fu_s, fu_n x] at z
          have a := s4 j j0 (by omega)
          rw [← z] at a
          exact (g a.2).elim
      · by_cases x : j = M 50 41
        · rw [x, fu_s, fu_n y] at z
          have a := s4 i i0 (by omega)
          rw [z] at a
          exact (g a.2).elim
        · rw [fu_n y, fu_n x] at z
          exact s6 i j i0 (by omega) j0 (by omega) z
theorem q_118 {c h : Int} (W : WK K) (w : rW K M) (c0 : 0 ≤ c) (c1 : c < K 1 8) (ht : t ≤ 100) : Cl (d + 1) 118 [vR 50, vI c, vI h, vI t] M Q = Q (b01 (pl K c h ∧ h ≤ t)) M := by
  have hb := W.1.1
  have hn := W.2.2
  obtain ⟨⟨l69, l70, l71, l72, l55, l51, l52⟩, ⟨n23, n0, n1⟩, tb⟩ := w
  unfold Cl
  rw [en_118]
  have c2 : c < 10 := by omega
  by_cases a : K 5 2 ≤ h ∧ h ≤ t
  · simp only [bq118_0, bq118_1, bq118_2, s_0, lgI_some, s_3, s_29, cnP_0, cnP_1, cnP_2, cnP_3, cnP_4, cnP_5, s_31, s_32, s_37i, s_37z, s_46, s_47, lgR_some, s_53, res_0, res_1, nlg_n, nlg_I, nlg_R, Bool.true_and, Bool.and_self, Bool.and_true, kd_51, kd_52, kd_53, kd_54, kd_55, kd_56, kd_57, kd_58, kd_59, kd_60, kd_61, kd_62, kd_63, kd_64, kd_65, kd_66, kd_67, kd_68, kd_69, kd_70, kd_71, kd_72, kd_73, kd_74, kd_75, kd_76, kd_77, kd_78, kd_79, kd_80, kd_81, kd_82, kd_83, kd_84, kd_85, ln_51, ln_52, ln_53, ln_54, ln_55, ln_56, ln_57, ln_58, ln_59, ln_60, ln_61, ln_62, ln_63, ln_64, ln_65, ln_66, ln_67, ln_68, ln_69, ln_70, ln_71, ln_72, ln_73, ln_74, ln_75, ln_76, ln_77, ln_78, ln_79, ln_80, ln_81, ln_82, ln_83, ln_84, ln_85, lg_0, lg_1, lg_2, lg_3, g_50_0, g_50_2, rc_109_50, rc_85, List.length_cons, List.length_nil, Nat.reduceAdd, Nat.reduceLT, Nat.reduceLeDiff, true_and, and_true, true_or, or_true, Int.reduceEq, Nat.reduceEqDiff, reduceCtorEq, true_implies, false_implies, not_true_eq_false, not_false_eq_true, Nat.zero_le, Int.zero_add, Nat.zero_add, Nat.lt_add_one, eq_self, forall_const, implies_true, Bool.false_eq_true, false_or, or_false, and_self, ne_eq, me_ne, me_self, l51, n0, q_85, q_109 c0 c2 (show 0 ≤ h by omega) (show h ≤ 100 by omega), l52, tb c h c0 c1 a.1 (show h ≤ 100 by omega), b01_z, Classical.not_not, c0, c2, a.1, a.2]
    simp only [bb1 Q, bb2 Q, bb3 Q, bb4 Q]
    exact bb5 Q ⟨fun z => ⟨c0, c2, c1, z.1, a.1, by omega, by have := z.2; omega⟩, fun z => ⟨z.2.2.2.1, by have := z.2.2.2.2.2.2; omega⟩⟩
  · simp only [bq118_0, bq118_1, bq118_2, s_0, lgI_some, s_3, s_29, cnP_0, cnP_1, cnP_2, cnP_3, cnP_4, cnP_5, s_31, s_32, s_37i, s_37z, s_46, s_47, lgR_some, s_53, res_0, res_1, nlg_n, nlg_I, nlg_R, Bool.true_and, Bool.and_self, Bool.and_true, kd_51, kd_52, kd_53, kd_54, kd_55, kd_56, kd_57, kd_58, kd_59, kd_60, kd_61, kd_62, kd_63, kd_64, kd_65, kd_66, kd_67, kd_68, kd_69, kd_70, kd_71, kd_72, kd_73, kd_74, kd_75, kd_76, kd_77, kd_78, kd_79, kd_80, kd_81, kd_82, kd_83, kd_84, kd_85, ln_51, ln_52, ln_53, ln_54, ln_55, ln_56, ln_57, ln_58, ln_59, ln_60, ln_61, ln_62, ln_63, ln_64, ln_65, ln_66, ln_67, ln_68, ln_69, ln_70, ln_71, ln_72, ln_73, ln_74, ln_75, ln_76, ln_77, ln_78, ln_79, ln_80, ln_81, ln_82, ln_83, ln_84, ln_85, lg_0, lg_1, lg_2, lg_3, g_50_0, g_50_2, rc_109_50, rc_85, List.length_cons, List.length_nil, Nat.reduceAdd, Nat.reduceLT, Nat.reduceLeDiff, true_and, and_true, true_or, or_true, Int.reduceEq, Nat.reduceEqDiff, reduceCtorEq, true_implies, false_implies, not_true_eq_false, not_false_eq_true, Nat.zero_le, Int.zero_add, Nat.zero_add, Nat.lt_add_one, eq_self, forall_const, implies_true, Bool.false_eq_true, false_or, or_false, and_self, ne_eq, me_ne, me_self, l51, n0, q_85, b01_z, Classical.not_not, c0, c2, a]
    rw [b01_f (fun z => a ⟨z.1.2.2.2.2.1, z.2⟩)]
    by_cases z : K 9 c = 0 <;> simp [z]
end RS

/-! the bars of the class -/
/-- the heap that was marked -/
def Sm (K X : Me) (c h : Int) : Prop := 0 ≤ c ∧ c < 10 ∧ h ≤ 100 ∧ 0 ≤ h ∧ mz K X (h * 10 + c)
theorem cnt_bd (P : Int → Prop) (n : Nat) : 0 ≤ cnt P n ∧ cnt P n ≤ n := by
  induction n with
  | zero => exact ⟨Int.le_refl _, Int.le_refl _⟩
  | succ n ih =>
    simp only [cnt]
    have := b01_bd (P n)
    omega
theorem cnt_skip {P : Int → Prop} {a : Nat} (b : Nat) (h : ∀ j : Nat, a ≤ j → j < a + b → ¬ P j) : cnt P (a + b) = cnt P a := by
  induction b with
  | zero => rfl
  | succ b ih =>
    rw [show a + (b + 1) = a + b + 1 by omega]
    simp only [cnt]
    rw [ih (fun j j0 j1 => h j j0 (by omega)), b01_f (h _ (by omega) (by omega))]
    omega
theorem cnt_mo {P : Int → Prop} {a b : Nat} (h : a ≤ b) : cnt P a ≤ cnt P b := by
  induction b with
  | zero => have : a = 0 := by omega
            subst this; exact Int.le_refl _
  | succ b ih =>
    by_cases q : a = b + 1
    · subst q; exact Int.le_refl _
    · have := ih (by omega)
      have := b01_bd (P b)
      simp only [cnt]
      omega
theorem cnt_cg {P P' : Int → Prop} {n : Nat} (h : ∀ j : Nat, j < n → (P j ↔ P' j)) : cnt P n = cnt P' n := by
  induction n with
  | zero => rfl
  | succ n ih => simp only [cnt]; rw [ih (fun j hj => h j (by omega)), b01_cg (h n (by omega))]
section BA
variable {d : Nat} {K M X Y : Me} {t : Int} {g : Int → Int} {Q : Int → Me → Prop}
/-- all marked can be come to -/
def RM (K : Me) (t : Int) (g : Int → Int) (M X : Me) : Prop := ∀ q, 0 ≤ q → q < 1010 → mz K X q → Rz K t g (fwt M) (fsr M) (q % 10) (q / 10)
theorem RM_mt (hs : SI K t X) (r : RM K t g M X) (m : Mt K t (fun q _ => Rz K t g (fwt M) (fsr M) (q % 10) (q / 10)) X Y) : RM K t g M Y := by
  intro q q0 q1 hq
  obtain ⟨i, i0, i1, i2⟩ := (m.2.2.2.2.2.2.2.2.2.2.2.1 q q0 q1 hq).1
  by_cases z : i < X 7 10
  · have a := hs.2.1 i i0 z
    have := r _ a.1.1 a.1.2 a.2
    rw [m.2.2.2.2.2.1 i i0 z] at i2
    rw [i2] at this
    exact this
  · have := m.2.2.2.2.2.2.2.2.1 i (by omega) i1
    rw [i2] at this
    exact this
theorem DF_mo {p : Int} (W : WK K) (p0 : 0 ≤ p) (p1 : p < 1010) (ht : t ≤ 100) (m : ∀ q, 0 ≤ q → q < 1010 → nm X q → nm Y q) (e41 : Y 41 = X 41) (e42 : Y 42 = X 42) (h : DF K t X p) : DF K t Y p := by
  have hn := W.2.2
  obtain ⟨a1, a2, a3, a4⟩ := h
  refine ⟨?_, ?_, ?_, ?_⟩
  · intro z1; exact m _ (by omega) (by omega) (a1 z1)
  · rw [e41]; intro z z2; exact m _ (by omega) (by omega) (a2 z z2)
  · rw [e42]; intro r r0 r1 r2 r3 r4 r5
    obtain ⟨r12, rf, rt, rb, rl, rn⟩ := WK_r W r0 r1
    have rt' := rt.resolve_left r3
    exact m _ (by omega) (by omega) (a3 r r0 r1 r2 r3 r4 r5)
  · rw [e42]; intro r r0 r1 r2 r3 r4
    obtain ⟨r12, rf, rt, rb, rl, rn⟩ := WK_r W r0 r1
    exact m _ (by omega) (by omega) (a4 r r0 r1 r2 r3 r4)
def DG (K : Me) (t : Int) (X : Me) : Prop := ∀ q, 0 ≤ q → q < 1010 → mz K X q → (∃ i, 0 ≤ i ∧ i < X 7 9 ∧ X 45 i = q) ∨ DF K t X q
/-- the cells with people left -/
theorem l_27a (W : WK K) (h0 : K 5 2 ≤ t) (ht : t ≤ 100) (hl : ∀ c, 0 ≤ c → c < 10 → M 40 c ≤ K 13 c)
    (H : ∀ X y, SF M X → BG K t M X → MM M X → RM K t (fgk K M) M X → DG K t X → X 7 9 = X 7 10 → (∀ c, 0 ≤ c → c < 10 → 0 < M 40 c → nm X (K 5 2 * 10 + c)) → Rn (d + 2) (blk 27 3) 27 [some (vR 7), some (vR 3), some (vI t), y] [] X Q) :
    ∀ (n : Nat) (X : Me) (i : Int), 0 ≤ i → i + (n : Int) = 10 → SF M X → BG K t M X → MM M X → RM K t (fgk K M) M X → DG K t X → X 7 9 = X 7 10 → (∀ c, 0 ≤ c → c < i → 0 < M 40 c → nm X (K 5 2 * 10 + c)) → Rn (d + 2) (blk 27 1) 27 [some (vR 7), some (vR 3), some (vI t), some (vI i)] [] X Q := by
  have hn := W.2.2
  have hb := W.1.1
  intro n
  induction n with
  | zero =>
    intro X i i0 i1 F B mm rm D e9 hc
    rw [bq27_1]
    simp only [bq27_2, s_0, lgI_some, s_1I, s_3, s_5K, s_6, s_8, s_24, s_29, cnP_0, cnP_1, cnP_2, cnP_3, cnP_4, cnP_5, s_30, s_31, s_32, s_47, lgR_some, s_53, res_0, res_1, nlg_n, nlg_I, nlg_R, Bool.true_and, Bool.and_self, Bool.and_true, kd_9, kd_10, kd_11, kd_12, kd_13, kd_14, kd_15, kd_16, kd_17, kd_18, kd_19, kd_20, kd_21, kd_22, kd_23, kd_24, kd_25, kd_26, kd_27, kd_28, kd_29, kd_30, kd_31, kd_32, kd_33, kd_34, kd_35, kd_36, kd_37, kd_38, kd_39, kd_40, kd_41, kd_42, kd_43, kd_44, kd_45, kd_46, kd_47, kd_48, kd_49, ln_9, ln_10, ln_11, ln_12, ln_13, ln_14, ln_15, ln_16, ln_17, ln_18, ln_19, ln_20, ln_21, ln_22, ln_23, ln_24, ln_25, ln_26, ln_27, ln_28, ln_29, ln_30, ln_31, ln_32, ln_33, ln_34, ln_35, ln_36, ln_37, ln_38, ln_39, ln_40, ln_41, ln_42, ln_43, ln_44, ln_45, ln_46, ln_47, ln_48, ln_49, lg_0, lg_1, lg_2, lg_3, lz_0, lz_1, lz_2, lz_3, lp_0, lp_1, lp_2, lp_3, isL_n, isL_I, isL_R, g_7_1, g_7_12, rc_19_7, List.length_cons, List.length_nil, Nat.reduceAdd, Nat.reduceLT, Nat.reduceLeDiff, true_and, and_true, true_or, or_true, Int.reduceEq, Nat.reduceEqDiff, reduceCtorEq, true_implies, false_implies, not_true_eq_false, not_false_eq_true, Nat.zero_le, Int.zero_add, Nat.zero_add, Nat.lt_add_one, eq_self, forall_const, implies_true, Bool.false_eq_true, false_or, or_false, and_self, ne_eq, me_ne, me_self, show 10 ≤ i by omega]
    exact H X _ F B mm rm D e9 (fun c c0 c1 => hc c c0 (by omega))
  | succ n ih =>
    intro X i i0 i1 F B mm rm D e9 hc
    rw [bq27_1]
    simp only [bq27_2, s_0, lgI_some, s_1I, s_3, s_5K, s_6, s_8, s_24, s_29, cnP_0, cnP_1, cnP_2, cnP_3, cnP_4, cnP_5, s_30, s_31, s_32, s_47, lgR_some, s_53, res_0, res_1, nlg_n, nlg_I, nlg_R, Bool.true_and, Bool.and_self, Bool.and_true, kd_9, kd_10, kd_11, kd_12, kd_13, kd_14, kd_15, kd_16, kd_17, kd_18, kd_19, kd_20, kd_21, kd_22, kd_23, kd_24, kd_25, kd_26, kd_27, kd_28, kd_29, kd_30, kd_31, kd_32, kd_33, kd_34, kd_35, kd_36, kd_37, kd_38, kd_39, kd_40, kd_41, kd_42, kd_43, kd_44, kd_45, kd_46, kd_47, kd_48, kd_49, ln_9, ln_10, ln_11, ln_12, ln_13, ln_14, ln_15, ln_16, ln_17, ln_18, ln_19, ln_20, ln_21, ln_22, ln_23, ln_24, ln_25, ln_26, ln_27, ln_28, ln_29, ln_30, ln_31, ln_32, ln_33, ln_34, ln_35, ln_36, ln_37, ln_38, ln_39, ln_40, ln_41, ln_42, ln_43, ln_44, ln_45, ln_46, ln_47, ln_48, ln_49, lg_0, lg_1, lg_2, lg_3, lz_0, lz_1, lz_2, lz_3, lp_0, lp_1, lp_2, lp_3, isL_n, isL_I, isL_R, g_7_1, g_7_12, rc_19_7, List.length_cons, List.length_nil, Nat.reduceAdd, Nat.reduceLT, Nat.reduceLeDiff, true_and, and_true, true_or, or_true, Int.reduceEq, Nat.reduceEqDiff, reduceCtorEq, true_implies, false_implies, not_true_eq_false, not_false_eq_true, Nat.zero_le, Int.zero_add, Nat.zero_add, Nat.lt_add_one, eq_self, forall_const, implies_true, Bool.false_eq_true, false_or, or_false, and_self, ne_eq, me_ne, me_self, show ¬ 10 ≤ i by omega, B.2.2.2.2.2.1, B.2.2.2.2.2.2.1, i0, show i < 10 by omega, show w32 (i + 1) = i + 1 from w32_id (by omega) (by omega), ix10h i0 (show i < 10 by omega) hn.1 hn.2]
    refine ⟨fun q => ?_, fun q => ?_⟩
    · refine ih X (i + 1) (by omega) (by omega) F B mm rm D e9 (fun c c0 c1 cl => ?_)
      by_cases z : c = i
      · subst z; omega
      · exact hc c c0 (by omega) cl
    · have pi := hl i i0 (by omega)
      have i9 : K 9 i ≠ 0 := fun z => by have := W.1.2.2.2.2.2.1 i z; omega
      have i8 : i < K 1 8 := by
        apply Classical.byContradiction
        intro z
        exact i9 (W.1.2.2.1 i (by omega))
      refine c_19f (K := K) (t := t) (P := fun q _ => Rz K t (fgk K M) (fwt M) (fsr M) (q % 10) (q / 10)) B.2.2.1 (by omega) (by omega) (fun y0 => ?_) (fun X2 m2 n2 => ?_)
      · have pp := mkK_pl B.2.1 i0 (by omega) i8 i9 (Int.le_refl _) hn.2 y0
        rw [show (K 5 2 * 10 + i) % 10 = i by omega, show (K 5 2 * 10 + i) / 10 = K 5 2 by omega]
        refine ⟨⟨pp, h0⟩, Rz_cz.1 i pp ?_⟩
        unfold fgk; omega
      · have B2 := BG_mt B m2
        have y11 : X2 7 11 = X 7 11 := m2.2.1 11 (by decide) (by decide)
        refine ih X2 (i + 1) (by omega) (by omega) ?_ B2 ?_ (RM_mt B.2.2.1 rm m2) ?_ (by have := m2.2.2.1; omega) (fun c c0 c1 cl => ?_)
        · exact ⟨fun k q => by rw [m2.1 k q, F.1 k q], fun j q1 q2 q3 => by rw [m2.2.1 j q1 q2, F.2.1 j q1 q2 q3], by rw [y11, F.2.2]⟩
        · intro q q0 q1
          rcases m2.2.2.2.1 q q0 q1 with z | z
          · rw [z]; exact mm q q0 q1
          · refine Or.inr ⟨by rw [z.1, F.2.2], ?_⟩
            rcases mm q q0 q1 with w | w
            · rw [← w]; exact z.2
            · exact w.2
        · intro q q0 q1 hq
          by_cases w : mz K X q
          · rcases D q q0 q1 w with ⟨k, k0, k1, k2⟩ | dq
            · exact Or.inl ⟨k, k0, by have := m2.2.2.1; omega, by rw [m2.2.2.2.2.1 k k0 k1]; exact k2⟩
            · exact Or.inr (DF_mo W q0 q1 ht (fun z z0 z1 hz => Mt_nm m2 z0 z1 hz) (by rw [B2.2.2.2.1, B.2.2.2.1]) (by rw [B2.2.2.2.2.1, B.2.2.2.2.1]) dq)
          · obtain ⟨k, k0, k1, k2⟩ := m2.2.2.2.2.2.2.2.1 q q0 q1 (by rw [hq.2, y11]) (fun e => w ⟨hq.1, e⟩)
            exact Or.inl ⟨k, by have := B.2.2.1.1; omega, k1, k2⟩
        · by_cases z : c = i
          · subst z; exact n2
          · exact Mt_nm m2 (by omega) (by omega) (hc c c0 (by omega) cl)
/-- all that can be come to is met -/
theorem l_27b (W : WK K) (ht : t ≤ 100)
    (H : ∀ X, SF M X → BG K t M X → MM M X → RM K t g M X → (∀ q, 0 ≤ q → q < 1010 → mz K X q → DF K t X q) → (∀ q, 0 ≤ q → q < 1010 → nm Y q → nm X q) → ∀ y, Rn (d + 2) (blk 27 5) 27 [some (vR 7), some (vR 3), some (vI t), y] [] X Q) :
    ∀ (n : Nat) (X : Me) (i : Int), 0 ≤ i → i + (n : Int) = 1010 → i + X 7 9 = X 7 10 → SF M X → BG K t M X → MM M X → RM K t g M X → DG K t X → (∀ q, 0 ≤ q → q < 1010 → nm Y q → nm X q) → Rn (d + 2) (blk 27 4) 27 [some (vR 7), some (vR 3), some (vI t), some (vI i)] [] X Q := by
  have hn := W.2.2
  intro n
  induction n with
  | zero =>
    intro X i i0 i1 ic F B mm rm D hY
    have b := sm_le (n := 1010) (f := fun i => b01 (mz K X i)) (g := fun _ => 1) (fun i _ _ => (b01_bd _).2)
    have c : sm 1010 (fun _ => 1) = 1010 := by decide +kernel
    have s1 := B.2.2.1.1
    rw [bq27_4]
    simp only [s_0, lgI_some, s_3, s_5K, s_7, s_24, s_29, cnP_0, cnP_1, cnP_2, cnP_3, cnP_4, cnP_5, s_30, s_31, s_33I, s_33R, s_38, s_47, lgR_some, s_53, s_54, res_0, res_1, nlg_n, nlg_I, nlg_R, Bool.true_and, Bool.and_self, Bool.and_true, kd_9, kd_10, kd_11, kd_12, kd_13, kd_14, kd_15, kd_16, kd_17, kd_18, kd_19, kd_20, kd_21, kd_22, kd_23, kd_24, kd_25, kd_26, kd_27, kd_28, kd_29, kd_30, kd_31, kd_32, kd_33, kd_34, kd_35, kd_36, kd_37, kd_38, kd_39, kd_40, kd_41, kd_42, kd_43, kd_44, kd_45, kd_46, kd_47, kd_48, kd_49, ln_9, ln_10, ln_11, ln_12, ln_13, ln_14, ln_15, ln_16, ln_17, ln_18, ln_19, ln_20, ln_21, ln_22, ln_23, ln_24, ln_25, ln_26, ln_27, ln_28, ln_29, ln_30, ln_31, ln_32, ln_33, ln_34, ln_35, ln_36, ln_37, ln_38, ln_39, ln_40, ln_41, ln_42, ln_43, ln_44, ln_45, ln_46, ln_47, ln_48, ln_49, lg_0, lg_1, lg_2, lg_3, lz_0, lz_1, lz_2, lz_3, lp_0, lp_1, lp_2, lp_3, isL_n, isL_I, isL_R, g_7_6, g_7_9, p_7_15, p_7_9, rc_28_7, rc_29_7, List.length_cons, List.length_nil, Nat.reduceAdd, Nat.reduceLT, Nat.reduceLeDiff, true_and, and_true, true_or, or_true, Int.reduceEq, Nat.reduceEqDiff, reduceCtorEq, true_implies, false_implies, not_true_eq_false, not_false_eq_true, Nat.zero_le, Int.zero_add, Nat.zero_add, Nat.lt_add_one, eq_self, forall_const, implies_true, Bool.false_eq_true, false_or, or_false, and_self, ne_eq, me_ne, me_self, show 1010 ≤ i by omega]
    exact H X F B mm rm (fun q q0 q1 hq => (D q q0 q1 hq).resolve_left (fun ⟨k, k0, k1, _⟩ => by omega)) hY _
  | succ n ih =>
    intro X i i0 i1 ic F B mm rm D hY
    have s1 := B.2.2.1.1
    have lt : X 7 10 ≤ 1010 := by
      have b := sm_le (n := 1010) (f := fun i => b01 (mz K X i)) (g := fun _ => 1) (fun i _ _ => (b01_bd _).2)
      have c : sm 1010 (fun _ => 1) = 1010 := by decide +kernel
      omega
    rw [bq27_4]
    by_cases e9 : X 7 9 ≤ 0
    · simp only [s_0, lgI_some, s_3, s_5K, s_7, s_24, s_29, cnP_0, cnP_1, cnP_2, cnP_3, cnP_4, cnP_5, s_30, s_31, s_33I, s_33R, s_38, s_47, lgR_some, s_53, s_54, res_0, res_1, nlg_n, nlg_I, nlg_R, Bool.true_and, Bool.and_self, Bool.and_true, kd_9, kd_10, kd_11, kd_12, kd_13, kd_14, kd_15, kd_16, kd_17, kd_18, kd_19, kd_20, kd_21, kd_22, kd_23, kd_24, kd_25, kd_26, kd_27, kd_28, kd_29, kd_30, kd_31, kd_32, kd_33, kd_34, kd_35, kd_36, kd_37, kd_38, kd_39, kd_40, kd_41, kd_42, kd_43, kd_44, kd_45, kd_46, kd_47, kd_48, kd_49, ln_9, ln_10, ln_11, ln_12, ln_13, ln_14, ln_15, ln_16, ln_17, ln_18, ln_19, ln_20, ln_21, ln_22, ln_23, ln_24, ln_25, ln_26, ln_27, ln_28, ln_29, ln_30, ln_31, ln_32, ln_33, ln_34, ln_35, ln_36, ln_37, ln_38, ln_39, ln_40, ln_41, ln_42, ln_43, ln_44, ln_45, ln_46, ln_47, ln_48, ln_49, lg_0, lg_1, lg_2, lg_3, lz_0, lz_1, lz_2, lz_3, lp_0, lp_1, lp_2, lp_3, isL_n, isL_I, isL_R, g_7_6, g_7_9, p_7_15, p_7_9, rc_28_7, rc_29_7, List.length_cons, List.length_nil, Nat.reduceAdd, Nat.reduceLT, Nat.reduceLeDiff, true_and, and_true, true_or, or_true, Int.reduceEq, Nat.reduceEqDiff, reduceCtorEq, true_implies, false_implies, not_true_eq_false, not_false_eq_true, Nat.zero_le, Int.zero_add, Nat.zero_add, Nat.lt_add_one, eq_self, forall_const, implies_true, Bool.false_eq_true, false_or, or_false, and_self, ne_eq, me_ne, me_self, show ¬ 1010 ≤ i by omega, e9]
      exact H X F B mm rm (fun q q0 q1 hq => (D q q0 q1 hq).resolve_left (fun ⟨k, k0, k1, _⟩ => by omega)) hY _
    · have a := B.2.2.1.2.2.2.1 (X 7 9 - 1) (by omega) (by omega)
      generalize eat : X 45 (X 7 9 - 1) = p2 at *
      obtain ⟨⟨a0, a1⟩, am⟩ := a
      have ap := (B.2.2.1.2.2.1 p2 a0 a1 am).2
      simp only [s_0, lgI_some, s_3, s_5K, s_7, s_24, s_29, cnP_0, cnP_1, cnP_2, cnP_3, cnP_4, cnP_5, s_30, s_31, s_33I, s_33R, s_38, s_47, lgR_some, s_53, s_54, res_0, res_1, nlg_n, nlg_I, nlg_R, Bool.true_and, Bool.and_self, Bool.and_true, kd_9, kd_10, kd_11, kd_12, kd_13, kd_14, kd_15, kd_16, kd_17, kd_18, kd_19, kd_20, kd_21, kd_22, kd_23, kd_24, kd_25, kd_26, kd_27, kd_28, kd_29, kd_30, kd_31, kd_32, kd_33, kd_34, kd_35, kd_36, kd_37, kd_38, kd_39, kd_40, kd_41, kd_42, kd_43, kd_44, kd_45, kd_46, kd_47, kd_48, kd_49, ln_9, ln_10, ln_11, ln_12, ln_13, ln_14, ln_15, ln_16, ln_17, ln_18, ln_19, ln_20, ln_21, ln_22, ln_23, ln_24, ln_25, ln_26, ln_27, ln_28, ln_29, ln_30, ln_31, ln_32, ln_33, ln_34, ln_35, ln_36, ln_37, ln_38, ln_39, ln_40, ln_41, ln_42, ln_43, ln_44, ln_45, ln_46, ln_47, ln_48, ln_49, lg_0, lg_1, lg_2, lg_3, lz_0, lz_1, lz_2, lz_3, lp_0, lp_1, lp_2, lp_3, isL_n, isL_I, isL_R, g_7_6, g_7_9, p_7_15, p_7_9, rc_28_7, rc_29_7, List.length_cons, List.length_nil, Nat.reduceAdd, Nat.reduceLT, Nat.reduceLeDiff, true_and, and_true, true_or, or_true, Int.reduceEq, Nat.reduceEqDiff, reduceCtorEq, true_implies, false_implies, not_true_eq_false, not_false_eq_true, Nat.zero_le, Int.zero_add, Nat.zero_add, Nat.lt_add_one, eq_self, forall_const, implies_true, Bool.false_eq_true, false_or, or_false, and_self, ne_eq, me_ne, me_self, me_i, show ¬ 1010 ≤ i by omega, e9, show w32 (X 7 9 - 1) = X 7 9 - 1 from w32_id (by omega) (by omega), show 0 ≤ X 7 9 - 1 by omega, show X 7 9 - 1 < 1010 by omega, eat, show w32 (i + 1) = i + 1 from w32_id (by omega) (by omega)]
      have SIp := SI_pop B.2.2.1 (by omega)
      generalize hX' : me_put X 7 9 (X 7 9 - 1) = X' at *
      have x7 : ∀ j, j ≠ 9 → X' 7 j = X 7 j := fun j q => by rw [← hX', me_i _ q]
      have x79 : X' 7 9 = X 7 9 - 1 := by rw [← hX', me_self]
      have xk : ∀ k, k ≠ 7 → X' k = X k := fun k q => by rw [← hX', me_f _ q]
      have F' : SF M X' := ⟨fun k q => by rw [xk k (fun e => q (by simp [e])), F.1 k q], fun j q1 q2 q3 => by rw [x7 j q1, F.2.1 j q1 q2 q3], by rw [x7 11 (by decide), F.2.2]⟩
      have B' : BG K t M X' := ⟨fun k q1 q2 => by rw [xk k q1, B.1 k q1 q2], fun c h c0 c1 c2 c3 h0 h1 => by rw [xk 43 (by decide), x7 11 (by decide)]; exact B.2.1 c h c0 c1 c2 c3 h0 h1, SIp, by rw [xk 41 (by decide), B.2.2.2.1], by rw [xk 42 (by decide), B.2.2.2.2.1], by rw [xk 40 (by decide), B.2.2.2.2.2.1], by rw [x7 12 (by decide), B.2.2.2.2.2.2.1], B.2.2.2.2.2.2.2⟩
      have mm' : MM M X' := fun q q0 q1 => by rw [xk 43 (by decide)]; exact mm q q0 q1
      have amz' : ∀ q, mz K X' q = mz K X q := fun q => by unfold mz; rw [xk 43 (by decide), x7 11 (by decide)]
      have enm : ∀ q, nm X' q = nm X q := fun q => by unfold nm; rw [xk 43 (by decide), x7 11 (by decide)]
      have rm' : RM K t g M X' := fun q q0 q1 hq => rm q q0 q1 (by rw [← amz']; exact hq)
      have ew : fwt X' = fwt M := by unfold fwt; rw [B'.2.2.2.1]
      have es : fsr X' = fsr M := by unfold fsr; rw [B'.2.2.2.2.1]
      have BX : BG K t X' X' := ⟨B'.1, B'.2.1, B'.2.2.1, rfl, rfl, rfl, B'.2.2.2.2.2.2⟩
      refine c_28 (g := g) W BX ht a0 a1 ap.1 ap.2 (by rw [ew, es]; exact rm p2 a0 a1 am) (fun X2 m2 dn => ?_)
      rw [ew, es] at m2
      have B2 := BG_mt B' m2
      have y11 : X2 7 11 = X' 7 11 := m2.2.1 11 (by decide) (by decide)
      refine ih X2 (i + 1) (by omega) (by omega) (by have := m2.2.2.1; have := x7 10 (by decide); omega) ?_ B2 ?_ (RM_mt SIp rm' m2) ?_ ?_
      · exact ⟨fun k q => by rw [m2.1 k q, F'.1 k q], fun j q1 q2 q3 => by rw [m2.2.1 j q1 q2, F'.2.1 j q1 q2 q3], by rw [y11, F'.2.2]⟩
      · intro q q0 q1
        rcases m2.2.2.2.1 q q0 q1 with z | z
        · rw [z]; exact mm' q q0 q1
        · refine Or.inr ⟨by rw [z.1, F'.2.2], ?_⟩
          rcases mm' q q0 q1 with w | w
          · rw [← w]; exact z.2
          · exact w.2
      · intro q q0 q1 hq
        by_cases w : mz K X' q
        · rw [amz'] at w
          rcases D q q0 q1 w with ⟨k, k0, k1, k2⟩ | dq
          · by_cases v : k = X 7 9 - 1
            · have : q = p2 := by rw [← k2, v]; exact eat
              rw [this]
              exact Or.inr dn
            · refine Or.inl ⟨k, k0, by have := m2.2.2.1; omega, ?_⟩
              rw [m2.2.2.2.2.1 k k0 (by omega), xk 45 (by decide)]; exact k2
          · exact Or.inr (DF_mo W q0 q1 ht (fun z z0 z1 hz => Mt_nm m2 z0 z1 (by rw [enm]; exact hz)) (by rw [B2.2.2.2.1, B.2.2.2.1]) (by rw [B2.2.2.2.2.1, B.2.2.2.2.1]) dq)
        · have h2 : X2 43 q = X' 7 11 := by rw [hq.2, y11]
          have h3 : X' 43 q ≠ X' 7 11 := fun e => w ⟨hq.1, e⟩
          obtain ⟨k, k0, k1, k2⟩ := m2.2.2.2.2.2.2.2.1 q q0 q1 h2 h3
          exact Or.inl ⟨k, by omega, k1, k2⟩
      · intro q q0 q1 hq
        exact Mt_nm m2 q0 q1 (by rw [enm]; exact hY q q0 q1 hq)
/-- what was marked is the least of the cheapest heaps -/
theorem Sm_heap (W : WK K) (G : GK K t M) (hO : ORk K M t) (h0 : K 5 2 ≤ t) (ht : t ≤ 100) (F : SF M X) (B : BG K t M X) (mm : MM M X) (rm : RM K t (fgk K M) M X) (D : ∀ q, 0 ≤ q → q < 1010 → mz K X q → DF K t X q) (hc : ∀ c, 0 ≤ c → c < 10 → 0 < M 40 c → nm X (K 5 2 * 10 + c)) : heap K t (Sm K X) := by
  have hn := W.2.2
  obtain ⟨g1, g2, g3, g4, g5, g6, g7⟩ := G
  have co := CO_mm W g6.2.2.1 g7 mm g4 B.2.2.2.2.2.1 B.2.2.2.1 B.2.2.2.2.1
  have s4 := B.2.2.1.1.2.2.2
  have sp : ∀ c h, Sm K X c h → pl K c h ∧ h ≤ t := by
    rintro c h ⟨c0, c1, h1, h0', m⟩
    have := (B.2.2.1.2.2.1 _ (by omega) (by omega) m).2
    rw [show (h * 10 + c) % 10 = c by omega, show (h * 10 + c) / 10 = h by omega] at this
    exact this
  have mk : ∀ c h, pl K c h → 0 ≤ X 43 (h * 10 + c) → nm X (h * 10 + c) → Sm K X c h := by
    intro c h pp n0 nn
    obtain ⟨c0, c1, c2, c3, h0', h1, hd⟩ := pp
    refine ⟨c0, c1, h1, by omega, ⟨by omega, ?_, ?_⟩, nn.resolve_left (by omega)⟩
    · rw [show (h * 10 + c) % 10 = c by omega]; exact c2
    · rw [show (h * 10 + c) % 10 = c by omega]; exact c3
  have pos : ∀ c h, Sm K X c h → 0 ≤ X 43 (h * 10 + c) := fun c h s => by rw [s.2.2.2.2.2]; omega
  refine ⟨sp, fgk K M, fwt M, fsr M, M 7 13, g6, ⟨?_, ?_, ?_, ?_, ?_⟩, ?_, ?_⟩
  · intro c pp hg
    unfold fgk at hg
    refine mk c _ pp ?_ (hc c pp.1 pp.2.1 (by omega))
    apply Classical.byContradiction
    intro z
    have := (co c _ pp (by omega)).2.2.2.2 rfl
    rw [B.2.2.2.2.2.1] at this
    omega
  · intro c h s pp pp2 h1
    have c1 := pp.2.1
    have c0 := pp.1
    have hh := pp.2.2.2.2.1
    refine mk c _ pp2 ?_ ?_
    · apply Classical.byContradiction
      intro z
      have := (co c _ pp2 (by omega)).2.1 (by omega)
      rw [show h + 1 - 1 = h by omega] at this
      have := pos c h s
      omega
    · have := (D _ (by omega) (by omega) s.2.2.2.2).1
      rw [show (h * 10 + c) / 10 = h by omega, show h * 10 + c + 10 = (h + 1) * 10 + c by omega] at this
      exact this (by omega)
  · intro c h s pp hw
    have h1 := (sp _ _ s).1.2.2.2.2.2.1
    have c1 := pp.2.1
    have c0 := pp.1
    have hh := pp.2.2.2.2.1
    unfold fwt at hw
    refine mk c _ pp ?_ ?_
    · apply Classical.byContradiction
      intro z
      have := (co c h pp (by omega)).1 (by omega) (by rw [B.2.2.2.1]; exact hw)
      have := pos _ _ s
      omega
    · have := (D _ (by omega) (by omega) s.2.2.2.2).2.1
      rw [show ((h + 1) * 10 + c) / 10 = h + 1 by omega, show (h + 1) * 10 + c - 10 = h * 10 + c by omega, B.2.2.2.1] at this
      exact this (by omega) hw
  · intro r h r0 r1 r2 r3 s pp pp2 h1 hf
    obtain ⟨r12, rf, rt, rb, rl', rn⟩ := WK_r W r0 r2
    have hh := pp.2.2.2.2.1
    unfold fsr at hf
    rw [if_pos (by omega)] at hf
    refine mk _ _ pp2 ?_ ?_
    · apply Classical.byContradiction
      intro z
      have := (co _ _ pp2 (by omega)).2.2.2.1 r r0 r2 rfl (by omega)
      rw [show h + K 28 r - K 28 r = h by omega, B.2.2.2.2.1] at this
      have := this hf
      have := pos _ _ s
      omega
    · have := (D _ (by omega) (by omega) s.2.2.2.2).2.2.1 r r0 r2
      rw [show (h * 10 + K 25 r) / 10 = h by omega, show (h * 10 + K 25 r) % 10 = K 25 r by omega, B.2.2.2.2.1] at this
      exact this rfl r3 h1 hf
  · intro r h r0 r1 r2 r3 s pp hf
    obtain ⟨r12, rf, rt, rb, rl', rn⟩ := WK_r W r0 r2
    have rt' := rt.resolve_left r3
    have hh := pp.2.2.2.2.1
    have h2 := (sp _ _ s).1.2.2.2.2.2.1
    unfold fsr at hf
    rw [if_pos (by omega)] at hf
    refine mk _ _ pp ?_ ?_
    · apply Classical.byContradiction
      intro z
      have := (co _ _ pp (by omega)).2.2.1 r r0 r2 rfl r3 (by omega) (by rw [B.2.2.2.2.1]; exact hf)
      have := pos _ _ s
      omega
    · have := (D _ (by omega) (by omega) s.2.2.2.2).2.2.2 r r0 r2
      rw [show ((h + K 28 r) * 10 + K 26 r) / 10 - K 28 r = h by omega, show ((h + K 28 r) * 10 + K 26 r) % 10 = K 26 r by omega, B.2.2.2.2.1] at this
      exact this rfl hh hf
  · intro r h r0 r1 r2 r3 s pp h1
    obtain ⟨r12, rf, rt, rb, rl', rn⟩ := WK_r W r0 r2
    have hh := pp.2.2.2.2.1
    unfold fsr
    rw [if_pos (by omega)]
    rcases hO r h r0 r2 r3 hh h1 with z | z
    · exact z
    · have := pos _ _ s
      rcases mm (h * 10 + K 25 r) (by omega) (by omega) with w | w
      · omega
      · omega
  · rintro c h ⟨c0, c1, h1, h0', m⟩
    have := rm _ (by omega) (by omega) m
    rw [show (h * 10 + c) % 10 = c by omega, show (h * 10 + c) / 10 = h by omega] at this
    exact this
end BA

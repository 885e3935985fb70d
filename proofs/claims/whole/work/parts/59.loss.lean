/-! the loss -/
def bt (x : Int32) (i : Nat) : Bool := x.toBitVec.getLsbD i
theorem b_ext {x y : Int32} (h : ∀ i, i < 32 → bt x i = bt y i) : x = y := Int32.toBitVec_inj.mp (BitVec.eq_of_getLsbD_eq (fun i hi => h i hi))
theorem b_or (x y : Int32) (i : Nat) : bt (x ||| y) i = (bt x i || bt y i) := by unfold bt; rw [Int32.toBitVec_or, BitVec.getLsbD_or]
theorem b_and (x y : Int32) (i : Nat) : bt (x &&& y) i = (bt x i && bt y i) := by unfold bt; rw [Int32.toBitVec_and, BitVec.getLsbD_and]
theorem b_0 (i : Nat) : bt 0 i = false := BitVec.getLsbD_zero
theorem s_l : ∀ n, n < 32 → ((nI n &&& 31).toBitVec.smod 32).toNat = n := by decide +kernel
theorem b_shl (n : Nat) (hn : n < 32) (x : Int32) {i : Nat} (hi : i < 32) : bt (x <<< (nI n &&& 31)) i = (decide (n ≤ i) && bt x (i - n)) := by
  unfold bt
  rw [Int32.toBitVec_shiftLeft]
  show (x.toBitVec <<< ((nI n &&& 31).toBitVec.smod 32).toNat).getLsbD i = _
  rw [s_l n hn, BitVec.getLsbD_shiftLeft]
  rcases Nat.lt_or_ge i n with h | h
  · simp [h, Nat.not_le.mpr h]
  · simp [hi, h, Nat.not_lt.mpr h]
theorem b_sshr (n : Nat) (hn : n < 32) (x : Int32) {i : Nat} (hi : i < 32) : bt (x >>> (nI n &&& 31)) i = if n + i < 32 then bt x (n + i) else bt x 31 := by
  unfold bt
  rw [Int32.toBitVec_shiftRight]
  show (x.toBitVec.sshiftRight ((nI n &&& 31).toBitVec.smod 32).toNat).getLsbD i = _
  rw [s_l n hn, BitVec.getLsbD_sshiftRight, BitVec.msb_eq_getLsbD_last]
  simp [hi]
theorem bit1 (E : Int32) {j : Nat} (hj : j < 32) : ((E >>> (nI j &&& 31)) &&& 1) = if bt E j then 1 else 0 := by
  apply b_ext
  intro i hi
  rw [b_and, b_sshr j hj E hi]
  have h1 : ∀ i, i < 32 → bt 1 i = decide (i = 0) := by decide +kernel
  rw [h1 i hi]
  by_cases q : i = 0
  · subst q
    rw [if_pos (by omega)]
    cases h : bt E j
    · simp [h, b_0]
    · simp [h]; exact h1 0 (by omega)
  · simp [q]
    split
    · rw [h1 i hi]; simp [q]
    · rw [b_0]
theorem ofn32 : ∀ n : Nat, n < 32 → Int32.ofInt (n : Int) = nI n := by decide +kernel
def btz (e i : Int) : Int := (if bt (Int32.ofInt e) i.toNat then 1 else 0)
theorem btz_e {e i : Int} (h0 : 0 ≤ i) (h1 : i < 10) : iand (ishr e i) 1 = btz e i := by
  unfold iand ishr btz
  obtain ⟨n, rfl⟩ := Int.eq_ofNat_of_zero_le h0
  rw [Int32.ofInt_toInt, ofn32 n (by omega), show (Int32.ofInt 1) = 1 from rfl, bit1 _ (by omega)]
  simp only [Int.toNat_natCast]
  split <;> rfl
theorem btz_0 (i : Int) : btz 0 i = 0 := by
  unfold btz
  rw [show Int32.ofInt 0 = 0 from rfl, b_0]
  rfl
theorem btz_or {e i j : Int} (h0 : 0 ≤ i) (h1 : i < 10) (g0 : 0 ≤ j) (g1 : j < 10) : btz (ior e (ishl 1 i)) j = if j = i then 1 else btz e j := by
  unfold ior ishl btz
  obtain ⟨n, rfl⟩ := Int.eq_ofNat_of_zero_le h0
  obtain ⟨m, rfl⟩ := Int.eq_ofNat_of_zero_le g0
  rw [Int32.ofInt_toInt, Int32.ofInt_toInt, ofn32 n (by omega), b_or, show (Int32.ofInt 1) = 1 from rfl]
  simp only [Int.toNat_natCast]
  have h2 : ∀ i, i < 32 → bt 1 i = decide (i = 0) := by decide +kernel
  simp only [b_shl n (show n < 32 by omega) 1 (show m < 32 by omega), h2 (m - n) (by omega)]
  by_cases q : m = n
  · subst q; simp
  · rw [if_neg (show ¬ ((m : Int) = (n : Int)) by omega)]
    have : (decide (n ≤ m) && decide (m - n = 0)) = false := by
      by_cases z : n ≤ m
      · have : ¬ (m - n = 0) := by omega
        simp [this]
      · simp [z]
    simp only [this, Bool.or_false]
/-- a cell that gets wet up to hour h, or at it -/
def wtb (M : Me) (i h : Int) : Prop := ¬ M 9 i = 0 ∧ ∃ h', M 5 2 ≤ h' ∧ h' < h ∧ M 10 i ≤ fw M i h'
noncomputable def los (M : Me) : Int := bu (fun i => b01 (wtb M i 101) * M 14 i) (M 1 8).toNat 0 0
theorem b01_bd (p : Prop) : 0 ≤ b01 p ∧ b01 p ≤ 1 := by
  by_cases h : p
  · rw [b01_t h]; omega
  · rw [b01_f h]; omega
section LO
variable {d : Nat} {M : Me} {Q : Int → Me → Prop}
theorem q8_35 {X : Me} {s : HS} {b : Int} (h0 : 0 ≤ b) (h1 : b < 10) : Cl d 35 [vR 8, vR 1, vI b] (wr8 X s) Q = Q (b01 (¬ X 9 b = 0 ∧ X 10 b ≤ s.1 b)) (wr8 X s) := by
  unfold Cl
  rw [en_35]
  simp only [bq35_0, bq35_1, bq35_2, s_0, lgI_some, s_3, s_24, s_29, cnP_0, cnP_1, cnP_2, cnP_3, cnP_4, cnP_5, s_30, s_31, s_32, s_37i, s_37z, s_46, s_47, lgR_some, kd_9, kd_10, kd_11, kd_12, kd_13, kd_14, kd_15, kd_16, kd_17, kd_18, kd_19, kd_20, kd_21, kd_22, kd_23, kd_24, kd_25, kd_26, kd_27, kd_28, kd_29, kd_30, kd_31, kd_32, kd_33, kd_34, kd_35, kd_36, kd_37, kd_38, kd_39, kd_40, kd_41, kd_42, kd_43, kd_44, kd_45, kd_46, kd_47, kd_48, kd_49, ln_9, ln_10, ln_11, ln_12, ln_13, ln_14, ln_15, ln_16, ln_17, ln_18, ln_19, ln_20, ln_21, ln_22, ln_23, ln_24, ln_25, ln_26, ln_27, ln_28, ln_29, ln_30, ln_31, ln_32, ln_33, ln_34, ln_35, ln_36, ln_37, ln_38, ln_39, ln_40, ln_41, ln_42, ln_43, ln_44, ln_45, ln_46, ln_47, ln_48, ln_49, lg_0, lg_1, lg_2, g_1_0, g_1_1, g_5_0, g_8_0, List.length_cons, List.length_nil, Nat.reduceAdd, Nat.reduceLT, Nat.reduceLeDiff, true_and, and_true, true_or, or_true, Int.reduceEq, Nat.reduceEqDiff, reduceCtorEq, true_implies, false_implies, not_true_eq_false, not_false_eq_true, Nat.zero_le, Int.zero_add, Nat.zero_add, Nat.lt_add_one, eq_self, forall_const, implies_true, Bool.false_eq_true, false_or, or_false, and_self, ne_eq, me_ne, me_self, wr8_o, wr8_w h0 h1, h0, h1]
  generalize wr8 X s = Z
  simp only [bb1 Q, bb2 Q, bb3 Q, bb4 Q]
  exact bb5 Q (by omega)
theorem l_48b {X : Me} {s : HS} {h : Int} {P : Int → Prop} (hn : 0 ≤ X 1 8 ∧ X 1 8 ≤ 10) : ∀ (n : Nat) (i e : Int), 0 ≤ i → i + (n : Int) = X 1 8 → (∀ j, 0 ≤ j → j < 10 → btz e j = b01 (P j ∨ (j < i ∧ ¬ X 9 j = 0 ∧ X 10 j ≤ s.1 j))) →
    (∀ e' x, (∀ j, 0 ≤ j → j < 10 → btz e' j = b01 (P j ∨ (j < X 1 8 ∧ ¬ X 9 j = 0 ∧ X 10 j ≤ s.1 j))) → Rn (d + 4) (blk 48 4) 48 [some (vR 6), some (vR 1), some (vR 2), some (vR 5), some (vI e'), some (vI h), some (vI x)] [] (wr8 X s) Q) →
    Rn (d + 4) (blk 48 2) 48 [some (vR 6), some (vR 1), some (vR 2), some (vR 5), some (vI e), some (vI h), some (vI i)] [] (wr8 X s) Q := by
  intro n
  induction n with
  | zero =>
    intro i e i0 i1 he H
    rw [bq48_2]
    simp only [bq48_3, s_0, lgI_some, s_1I, s_3, s_5K, s_10, s_11, s_29, cnP_0, cnP_1, cnP_2, cnP_3, cnP_4, cnP_5, s_30, s_31, s_32, s_47, lgR_some, s_53, res_0, res_1, nlg_n, nlg_I, nlg_R, Bool.true_and, Bool.and_self, Bool.and_true, lg_0, lg_1, lg_2, lg_3, lg_4, lg_5, lg_6, lz_0, lz_1, lz_2, lz_3, lz_4, lz_5, lz_6, lp_0, lp_1, lp_2, lp_3, lp_4, lp_5, lp_6, isL_n, isL_I, isL_R, g_1_8, g_6_0, rc_35_5, rc_35_8, rc_38_5, rc_38_8, List.length_cons, List.length_nil, Nat.reduceAdd, Nat.reduceLT, Nat.reduceLeDiff, true_and, and_true, true_or, or_true, Int.reduceEq, Nat.reduceEqDiff, reduceCtorEq, true_implies, false_implies, not_true_eq_false, not_false_eq_true, Nat.zero_le, Int.zero_add, Nat.zero_add, Nat.lt_add_one, eq_self, forall_const, implies_true, Bool.false_eq_true, false_or, or_false, and_self, ne_eq, me_ne, me_self, wr8_o, show X 1 8 ≤ i by omega]
    have e1 : i = X 1 8 := by omega
    refine H _ _ (fun j j0 j1 => ?_)
    rw [← e1]; exact he j j0 j1
  | succ n ih =>
    intro i e i0 i1 he H
    have i2 : i < 10 := by omega
    rw [bq48_2]
    simp only [bq48_3, s_0, lgI_some, s_1I, s_3, s_5K, s_10, s_11, s_29, cnP_0, cnP_1, cnP_2, cnP_3, cnP_4, cnP_5, s_30, s_31, s_32, s_47, lgR_some, s_53, res_0, res_1, nlg_n, nlg_I, nlg_R, Bool.true_and, Bool.and_self, Bool.and_true, lg_0, lg_1, lg_2, lg_3, lg_4, lg_5, lg_6, lz_0, lz_1, lz_2, lz_3, lz_4, lz_5, lz_6, lp_0, lp_1, lp_2, lp_3, lp_4, lp_5, lp_6, isL_n, isL_I, isL_R, g_1_8, g_6_0, rc_35_5, rc_35_8, rc_38_5, rc_38_8, List.length_cons, List.length_nil, Nat.reduceAdd, Nat.reduceLT, Nat.reduceLeDiff, true_and, and_true, true_or, or_true, Int.reduceEq, Nat.reduceEqDiff, reduceCtorEq, true_implies, false_implies, not_true_eq_false, not_false_eq_true, Nat.zero_le, Int.zero_add, Nat.zero_add, Nat.lt_add_one, eq_self, forall_const, implies_true, Bool.false_eq_true, false_or, or_false, and_self, ne_eq, me_ne, me_self, wr8_o, q8_35 i0 i2, b01_z, Classical.not_not, show ¬ X 1 8 ≤ i by omega, show w32 (i + 1) = i + 1 from w32_id (by omega) (by omega)]
    refine ⟨fun q => ih _ _ (by omega) (by omega) (fun j j0 j1 => ?_) H, fun q => ih _ _ (by omega) (by omega) (fun j j0 j1 => ?_) H⟩
    · rw [he j j0 j1]
      apply b01_cg
      constructor
      · rintro (z | z)
        · exact Or.inl z
        · exact Or.inr ⟨by omega, z.2⟩
      · rintro (z | z)
        · exact Or.inl z
        · by_cases y : j = i
          · subst y; exact (q z.2).elim
          · exact Or.inr ⟨by omega, z.2⟩
    · rw [btz_or i0 i2 j0 j1]
      by_cases y : j = i
      · subst y
        rw [if_pos rfl, b01_t (Or.inr ⟨by omega, q⟩)]
      · rw [if_neg y, he j j0 j1]
        apply b01_cg
        constructor
        · rintro (z | z)
          · exact Or.inl z
          · exact Or.inr ⟨by omega, z.2⟩
        · rintro (z | z)
          · exact Or.inl z
          · exact Or.inr ⟨by omega, z.2⟩
theorem l_48c {X : Me} {e : Int} (hB : IvB M) (hX : ∀ k, k ≠ 48 → k ≠ 49 → k ≠ 8 → X k = M k) (he : ∀ j, 0 ≤ j → j < M 1 8 → btz e j = b01 (wtb M j 101)) (H : Q (los M) X) : ∀ (n : Nat) (i a : Int), 0 ≤ i → i + (n : Int) = M 1 8 → los M = bu (fun i => b01 (wtb M i 101) * M 14 i) n i a → Rn (d + 4) (blk 48 6) 48 [some (vR 6), some (vR 1), some (vR 2), some (vR 5), some (vI e), some (vI a), some (vI i)] [] X Q := by
  have hb := hB.1
  intro n
  induction n with
  | zero =>
    intro i a i0 i1 el
    rw [bq48_6]
    simp only [bq48_7, s_0, lgI_some, s_1I, s_3, s_5K, s_6, s_8, s_9, s_12, s_24, s_30, cnP_0, cnP_1, cnP_2, cnP_3, cnP_4, cnP_5, s_31, s_37i, s_37z, s_47, lgR_some, kd_9, kd_10, kd_11, kd_12, kd_13, kd_14, kd_15, kd_16, kd_17, kd_18, kd_19, kd_20, kd_21, kd_22, kd_23, kd_24, kd_25, kd_26, kd_27, kd_28, kd_29, kd_30, kd_31, kd_32, kd_33, kd_34, kd_35, kd_36, kd_37, kd_38, kd_39, kd_40, kd_41, kd_42, kd_43, kd_44, kd_45, kd_46, kd_47, kd_48, kd_49, ln_9, ln_10, ln_11, ln_12, ln_13, ln_14, ln_15, ln_16, ln_17, ln_18, ln_19, ln_20, ln_21, ln_22, ln_23, ln_24, ln_25, ln_26, ln_27, ln_28, ln_29, ln_30, ln_31, ln_32, ln_33, ln_34, ln_35, ln_36, ln_37, ln_38, ln_39, ln_40, ln_41, ln_42, ln_43, ln_44, ln_45, ln_46, ln_47, ln_48, ln_49, lg_0, lg_1, lg_2, lg_3, lg_4, lg_5, lg_6, lz_0, lz_1, lz_2, lz_3, lz_4, lz_5, lz_6, lp_0, lp_1, lp_2, lp_3, lp_4, lp_5, lp_6, isL_n, isL_I, isL_R, g_1_5, g_1_8, List.length_cons, List.length_nil, Nat.reduceAdd, Nat.reduceLT, Nat.reduceLeDiff, true_and, and_true, true_or, or_true, Int.reduceEq, Nat.reduceEqDiff, reduceCtorEq, true_implies, false_implies, not_true_eq_false, not_false_eq_true, Nat.zero_le, Int.zero_add, Nat.zero_add, Nat.lt_add_one, eq_self, forall_const, implies_true, Bool.false_eq_true, false_or, or_false, and_self, ne_eq, me_ne, me_self, hX 1 (by decide) (by decide) (by decide), show M 1 8 ≤ i by omega]
    rw [el] at H
    exact H
  | succ n ih =>
    intro i a i0 i1 el
    have i2 : i < 10 := by omega
    have g := b01_bd (wtb M i 101)
    have w := hB.2.2.2.2.2.2.2.1 i
    have e3 : w32 (b01 (wtb M i 101) * M 14 i) = b01 (wtb M i 101) * M 14 i := by
      by_cases z : wtb M i 101
      · rw [b01_t z, w32_id (by omega) (by omega)]
      · rw [b01_f z, w32_id (by omega) (by omega)]
    rw [bq48_6]
    simp only [bq48_7, s_0, lgI_some, s_1I, s_3, s_5K, s_6, s_8, s_9, s_12, s_24, s_30, cnP_0, cnP_1, cnP_2, cnP_3, cnP_4, cnP_5, s_31, s_37i, s_37z, s_47, lgR_some, kd_9, kd_10, kd_11, kd_12, kd_13, kd_14, kd_15, kd_16, kd_17, kd_18, kd_19, kd_20, kd_21, kd_22, kd_23, kd_24, kd_25, kd_26, kd_27, kd_28, kd_29, kd_30, kd_31, kd_32, kd_33, kd_34, kd_35, kd_36, kd_37, kd_38, kd_39, kd_40, kd_41, kd_42, kd_43, kd_44, kd_45, kd_46, kd_47, kd_48, kd_49, ln_9, ln_10, ln_11, ln_12, ln_13, ln_14, ln_15, ln_16, ln_17, ln_18, ln_19, ln_20, ln_21, ln_22, ln_23, ln_24, ln_25, ln_26, ln_27, ln_28, ln_29, ln_30, ln_31, ln_32, ln_33, ln_34, ln_35, ln_36, ln_37, ln_38, ln_39, ln_40, ln_41, ln_42, ln_43, ln_44, ln_45, ln_46, ln_47, ln_48, ln_49, lg_0, lg_1, lg_2, lg_3, lg_4, lg_5, lg_6, lz_0, lz_1, lz_2, lz_3, lz_4, lz_5, lz_6, lp_0, lp_1, lp_2, lp_3, lp_4, lp_5, lp_6, isL_n, isL_I, isL_R, g_1_5, g_1_8, List.length_cons, List.length_nil, Nat.reduceAdd, Nat.reduceLT, Nat.reduceLeDiff, true_and, and_true, true_or, or_true, Int.reduceEq, Nat.reduceEqDiff, reduceCtorEq, true_implies, false_implies, not_true_eq_false, not_false_eq_true, Nat.zero_le, Int.zero_add, Nat.zero_add, Nat.lt_add_one, eq_self, forall_const, implies_true, Bool.false_eq_true, false_or, or_false, and_self, ne_eq, me_ne, me_self, hX 1 (by decide) (by decide) (by decide), hX 14 (by decide) (by decide) (by decide), btz_e i0 i2, he i i0 (show i < M 1 8 by omega), e3, show ¬ M 1 8 ≤ i by omega, show w32 (i + 1) = i + 1 from w32_id (by omega) (by omega)]
    exact ⟨by omega, ih _ _ (by omega) (by omega) (by rw [el]; rfl)⟩
theorem l_48a (hB : IvB M) (hD : IvD M) (hn : 0 ≤ M 5 2) (H : ∀ X : Me, (∀ k, k ≠ 48 → k ≠ 49 → k ≠ 8 → X k = M k) → Q (los M) X) :
    ∀ (n : Nat) (X : Me) (s : HS) (h e : Int) (x : Option AV), h + (n : Int) = 101 → M 5 2 ≤ h → (∀ k, k ≠ 48 → k ≠ 49 → k ≠ 8 → X k = M k) → (h ≤ 100 → X 8 2 = h ∧ s = hI M (M 5 2) (st5 M) (h - M 5 2).toNat) → (∀ j, 0 ≤ j → j < 10 → btz e j = b01 (j < M 1 8 ∧ wtb M j h)) →
    Rn (d + 4) (blk 48 1) 48 [some (vR 6), some (vR 1), some (vR 2), some (vR 5), some (vI e), some (vI h), x] [] (wr8 X s) Q := by
  intro n
  induction n with
  | zero =>
    intro X s h e x hh h1 hX hs he
    have e1 : h = 101 := by omega
    subst e1
    rw [bq48_1]
    simp only [bq48_5, s_0, lgI_some, s_1I, s_3, s_5K, s_6, s_8, s_9, s_12, s_24, s_30, cnP_0, cnP_1, cnP_2, cnP_3, cnP_4, cnP_5, s_31, s_32, s_47, lgR_some, kd_9, kd_10, kd_11, kd_12, kd_13, kd_14, kd_15, kd_16, kd_17, kd_18, kd_19, kd_20, kd_21, kd_22, kd_23, kd_24, kd_25, kd_26, kd_27, kd_28, kd_29, kd_30, kd_31, kd_32, kd_33, kd_34, kd_35, kd_36, kd_37, kd_38, kd_39, kd_40, kd_41, kd_42, kd_43, kd_44, kd_45, kd_46, kd_47, kd_48, kd_49, ln_9, ln_10, ln_11, ln_12, ln_13, ln_14, ln_15, ln_16, ln_17, ln_18, ln_19, ln_20, ln_21, ln_22, ln_23, ln_24, ln_25, ln_26, ln_27, ln_28, ln_29, ln_30, ln_31, ln_32, ln_33, ln_34, ln_35, ln_36, ln_37, ln_38, ln_39, ln_40, ln_41, ln_42, ln_43, ln_44, ln_45, ln_46, ln_47, ln_48, ln_49, lg_0, lg_1, lg_2, lg_3, lg_4, lg_5, lg_6, lz_0, lz_1, lz_2, lz_3, lz_4, lz_5, lz_6, lp_0, lp_1, lp_2, lp_3, lp_4, lp_5, lp_6, isL_n, isL_I, isL_R, g_1_5, g_1_8, List.length_cons, List.length_nil, Nat.reduceAdd, Nat.reduceLT, Nat.reduceLeDiff, true_and, and_true, true_or, or_true, Int.reduceEq, Nat.reduceEqDiff, reduceCtorEq, true_implies, false_implies, not_true_eq_false, not_false_eq_true, Nat.zero_le, Int.zero_add, Nat.zero_add, Nat.lt_add_one, eq_self, forall_const, implies_true, Bool.false_eq_true, false_or, or_false, and_self, ne_eq, me_ne, me_self]
    refine ⟨fun _ => ?_, fun q => by omega⟩
    have hX2 : ∀ k, k ≠ 48 → k ≠ 49 → k ≠ 8 → wr8 X s k = M k := fun k q1 q2 q3 => by rw [wr8_f q1 q2 q3, hX k q1 q2 q3]
    refine l_48c hB hX2 (fun j j0 j1 => ?_) (H _ hX2) (M 1 8).toNat 0 0 (Int.le_refl 0) (by have := hB.1; omega) rfl
    rw [he j j0 (by have := hB.1; omega)]
    exact b01_cg ⟨fun z => z.2, fun z => ⟨j1, z⟩⟩
  | succ n ih =>
    intro X s h e x hh h1 hX hs he
    have h2 : h ≤ 100 := by omega
    obtain ⟨hs1, hs2⟩ := hs h2
    have g1 : X 1 = M 1 := hX 1 (by decide) (by decide) (by decide)
    rw [bq48_1]
    simp only [bq48_5, s_0, lgI_some, s_1I, s_3, s_10, s_11, s_29, cnP_0, cnP_1, cnP_2, cnP_3, cnP_4, cnP_5, s_30, s_32, s_47, lgR_some, s_53, res_0, res_1, nlg_n, nlg_I, nlg_R, Bool.true_and, Bool.and_self, Bool.and_true, lg_0, lg_1, lg_2, lg_3, lg_4, lg_5, lg_6, lz_0, lz_1, lz_2, lz_3, lz_4, lz_5, lz_6, lp_0, lp_1, lp_2, lp_3, lp_4, lp_5, lp_6, isL_n, isL_I, isL_R, g_1_8, g_6_0, rc_35_5, rc_35_8, List.length_cons, List.length_nil, Nat.reduceAdd, Nat.reduceLT, Nat.reduceLeDiff, true_and, and_true, true_or, or_true, Int.reduceEq, Nat.reduceEqDiff, reduceCtorEq, true_implies, false_implies, not_true_eq_false, not_false_eq_true, Nat.zero_le, Int.zero_add, Nat.zero_add, Nat.lt_add_one, eq_self, forall_const, implies_true, Bool.false_eq_true, false_or, or_false, and_self, ne_eq, me_ne, me_self, show ¬ 100 < h by omega]
    refine l_48b (P := fun j => j < M 1 8 ∧ wtb M j h) (by rw [g1]; exact hB.1) (M 1 8).toNat 0 e (Int.le_refl 0) (by rw [g1]; have := hB.1; omega) (fun j j0 j1 => ?_) ?_
    · rw [he j j0 j1]
      exact b01_cg ⟨fun z => Or.inl z, fun z => z.resolve_right (fun y => by omega)⟩
    · intro e' x' he'
      have he2 : ∀ j, 0 ≤ j → j < 10 → btz e' j = b01 (j < M 1 8 ∧ wtb M j (h + 1)) := by
        intro j j0 j1
        rw [he' j j0 j1, g1, hX 9 (by decide) (by decide) (by decide), hX 10 (by decide) (by decide) (by decide)]
        apply b01_cg
        constructor
        · rintro (z | z)
          · obtain ⟨z1, z2, h', z3, z4, z5⟩ := z
            exact ⟨z1, z2, h', z3, by omega, z5⟩
          · refine ⟨z.1, z.2.1, h, h1, by omega, ?_⟩
            unfold fw
            rw [← hs2]
            exact z.2.2
        · rintro ⟨z1, z2, h', z3, z4, z5⟩
          by_cases q : h' = h
          · refine Or.inr ⟨z1, z2, ?_⟩
            rw [hs2, ← q]
            exact z5
          · exact Or.inl ⟨z1, z2, h', z3, by omega, z5⟩
      rw [bq48_4]
      simp only [s_0, lgI_some, s_1I, s_3, s_5K, s_30, cnP_0, cnP_1, cnP_2, cnP_3, cnP_4, cnP_5, s_31, s_32, s_47, lgR_some, s_53, res_0, res_1, nlg_n, nlg_I, nlg_R, Bool.true_and, Bool.and_self, Bool.and_true, lg_0, lg_1, lg_2, lg_3, lg_4, lg_5, lg_6, lz_0, lz_1, lz_2, lz_3, lz_4, lz_5, lz_6, lp_0, lp_1, lp_2, lp_3, lp_4, lp_5, lp_6, isL_n, isL_I, isL_R, g_6_0, rc_38_5, rc_38_8, List.length_cons, List.length_nil, Nat.reduceAdd, Nat.reduceLT, Nat.reduceLeDiff, true_and, and_true, true_or, or_true, Int.reduceEq, Nat.reduceEqDiff, reduceCtorEq, true_implies, false_implies, not_true_eq_false, not_false_eq_true, Nat.zero_le, Int.zero_add, Nat.zero_add, Nat.lt_add_one, eq_self, forall_const, implies_true, Bool.false_eq_true, false_or, or_false, and_self, ne_eq, me_ne, me_self, show w32 (h + 1) = h + 1 from w32_id (by omega) (by omega)]
      by_cases q : h = 100
      · subst q
        refine c8_38e (by rw [wr8_2, hs1]; exact Int.le_refl _) ?_
        exact ih _ _ _ _ _ (by omega) (by omega) hX (fun z => by omega) he2
      · have eW : cw X = cw M := cw_of (fun k q1 q2 q3 q4 q5 => hX k (by omega) (by omega) (by omega))
        refine c8_38 (cw_IB eW hB) (cw_ID eW hD) (by rw [hs1]; omega) ?_
        rw [hs1, hF_ag (cw_ag eW)]
        refine ih _ _ _ _ _ (by omega) (by omega) ?_ ?_ he2
        · intro k q1 q2 q3
          rw [me_f _ q3, hX k q1 q2 q3]
        · intro _
          refine ⟨me_self _ _ _ _, ?_⟩
          rw [show (h + 1 - M 5 2).toNat = (h - M 5 2).toNat + 1 by omega]
          simp only [hI]
          rw [← hs2, show M 5 2 + (((h - M 5 2).toNat : Nat) : Int) = h by omega]
/-- the class's loss -/
theorem c_48 (hB : IvB M) (hD : IvD M) (hn : 0 ≤ M 5 2) (hn2 : M 5 2 ≤ 100) (h4 : w32 (M 5 4) = M 5 4) (h5 : w32 (M 5 5) = M 5 5) (H : ∀ X : Me, (∀ k, k ≠ 48 → k ≠ 49 → k ≠ 8 → X k = M k) → Q (los M) X) : Cl (d + 4) 48 [vR 6, vR 1, vR 2, vR 5] M Q := by
  unfold Cl
  rw [en_48]
  simp only [bq48_0, s_0, lgI_some, s_1I, s_3, s_30, cnP_0, cnP_1, cnP_2, cnP_3, cnP_4, cnP_5, s_32, s_47, lgR_some, s_52, res_0, res_1, nlg_n, nlg_I, nlg_R, Bool.true_and, Bool.and_self, Bool.and_true, lg_0, lg_1, lg_2, lg_3, lg_4, lg_5, lg_6, lz_0, lz_1, lz_2, lz_3, lz_4, lz_5, lz_6, lp_0, lp_1, lp_2, lp_3, lp_4, lp_5, lp_6, isL_n, isL_I, isL_R, g_5_2, g_6_0, g_8_2, rc_33_5, rc_33_8, List.length_cons, List.length_nil, Nat.reduceAdd, Nat.reduceLT, Nat.reduceLeDiff, true_and, and_true, true_or, or_true, Int.reduceEq, Nat.reduceEqDiff, reduceCtorEq, true_implies, false_implies, not_true_eq_false, not_false_eq_true, Nat.zero_le, Int.zero_add, Nat.zero_add, Nat.lt_add_one, eq_self, forall_const, implies_true, Bool.false_eq_true, false_or, or_false, and_self, ne_eq, me_ne, me_self]
  refine c_33 h4 h5 ?_
  simp only [bq48_0, s_0, lgI_some, s_1I, s_3, s_30, cnP_0, cnP_1, cnP_2, cnP_3, cnP_4, cnP_5, s_32, s_47, lgR_some, s_52, res_0, res_1, nlg_n, nlg_I, nlg_R, Bool.true_and, Bool.and_self, Bool.and_true, lg_0, lg_1, lg_2, lg_3, lg_4, lg_5, lg_6, lz_0, lz_1, lz_2, lz_3, lz_4, lz_5, lz_6, lp_0, lp_1, lp_2, lp_3, lp_4, lp_5, lp_6, isL_n, isL_I, isL_R, g_5_2, g_6_0, g_8_2, rc_33_5, rc_33_8, List.length_cons, List.length_nil, Nat.reduceAdd, Nat.reduceLT, Nat.reduceLeDiff, true_and, and_true, true_or, or_true, Int.reduceEq, Nat.reduceEqDiff, reduceCtorEq, true_implies, false_implies, not_true_eq_false, not_false_eq_true, Nat.zero_le, Int.zero_add, Nat.zero_add, Nat.lt_add_one, eq_self, forall_const, implies_true, Bool.false_eq_true, false_or, or_false, and_self, ne_eq, me_ne, me_self, wr8_o]
  refine l_48a hB hD hn H (101 - M 5 2).toNat _ _ _ _ _ (by omega) (Int.le_refl _) ?_ ?_ ?_
  · intro k q1 q2 q3
    exact me_f _ q3
  · intro _
    refine ⟨me_self _ _ _ _, ?_⟩
    rw [show (M 5 2 - M 5 2).toNat = 0 by omega]
    rfl
  · intro j j0 j1
    rw [btz_0, b01_f]
    rintro ⟨-, -, h', z1, z2, -⟩
    omega
theorem l_116b {Y : Me} {c : Int} {f : Int → Int} {a : Int} (c0 : 0 ≤ c) (c1 : c < 10) (hf : ∀ h, M 5 2 ≤ h → h ≤ 100 → Y 78 (101 * c + h) = f h) (h51 : Y 51 c = M 9 c) (h52 : Y 52 c = M 10 c) (hn : 0 ≤ M 5 2) : ∀ (n : Nat) (h b : Int), M 5 2 ≤ h → h + (n : Int) = 101 → b = b01 (¬ M 9 c = 0 ∧ ∃ h', M 5 2 ≤ h' ∧ h' < h ∧ M 10 c ≤ f h') →
    (∀ x, Rn (d + 2) (blk 116 6) 116 [some (vR 50), some (vI a), some (vI c), some (vI (b01 (¬ M 9 c = 0 ∧ ∃ h', M 5 2 ≤ h' ∧ h' < 101 ∧ M 10 c ≤ f h'))), some (vI x)] [] Y Q) →
    Rn (d + 2) (blk 116 2) 116 [some (vR 50), some (vI a), some (vI c), some (vI b), some (vI h)] [] Y Q := by
  intro n
  induction n with
  | zero =>
    intro h b h0 h1 hb H
    have e : h = 101 := by omega
    subst e
    rw [bq116_2]
    simp only [bq116_3, bq116_4, bq116_5, s_0, lgI_some, s_1I, s_3, s_5K, s_24, s_29, cnP_0, cnP_1, cnP_2, cnP_3, cnP_4, cnP_5, s_30, s_31, s_32, s_46, s_47, lgR_some, s_53, res_0, res_1, nlg_n, nlg_I, nlg_R, Bool.true_and, Bool.and_self, Bool.and_true, kd_51, kd_52, kd_53, kd_54, kd_55, kd_56, kd_57, kd_58, kd_59, kd_60, kd_61, kd_62, kd_63, kd_64, kd_65, kd_66, kd_67, kd_68, kd_69, kd_70, kd_71, kd_72, kd_73, kd_74, kd_75, kd_76, kd_77, kd_78, kd_79, kd_80, kd_81, kd_82, kd_83, kd_84, kd_85, ln_51, ln_52, ln_53, ln_54, ln_55, ln_56, ln_57, ln_58, ln_59, ln_60, ln_61, ln_62, ln_63, ln_64, ln_65, ln_66, ln_67, ln_68, ln_69, ln_70, ln_71, ln_72, ln_73, ln_74, ln_75, ln_76, ln_77, ln_78, ln_79, ln_80, ln_81, ln_82, ln_83, ln_84, ln_85, lg_0, lg_1, lg_2, lg_3, lg_4, lz_0, lz_1, lz_2, lz_3, lz_4, lp_0, lp_1, lp_2, lp_3, lp_4, isL_n, isL_I, isL_R, g_50_2, g_50_7, rc_109_50, List.length_cons, List.length_nil, Nat.reduceAdd, Nat.reduceLT, Nat.reduceLeDiff, true_and, and_true, true_or, or_true, Int.reduceEq, Nat.reduceEqDiff, reduceCtorEq, true_implies, false_implies, not_true_eq_false, not_false_eq_true, Nat.zero_le, Int.zero_add, Nat.zero_add, Nat.lt_add_one, eq_self, forall_const, implies_true, Bool.false_eq_true, false_or, or_false, and_self, ne_eq, me_ne, me_self]
    refine ⟨fun _ => ?_, fun q => by omega⟩
    rw [hb]; exact H _
  | succ n ih =>
    intro h b h0 h1 hb H
    have e3 : (b01 (¬ M 9 c = 0 ∧ ∃ h', M 5 2 ≤ h' ∧ h' < h + 1 ∧ M 10 c ≤ f h')) = b01 (¬ b = 0 ∨ (¬ M 9 c = 0 ∧ M 10 c ≤ f h)) := by
      rw [hb, b01_z]
      apply b01_cg
      constructor
      · rintro ⟨z1, h', z2, z3, z4⟩
        by_cases q : h' = h
        · subst q; exact Or.inr ⟨z1, z4⟩
        · exact Or.inl (Classical.not_not.mpr ⟨z1, h', z2, by omega, z4⟩)
      · rintro (z | z)
        · obtain ⟨z1, h', z2, z3, z4⟩ := Classical.not_not.mp z
          exact ⟨z1, h', z2, by omega, z4⟩
        · exact ⟨z.1, h, h0, by omega, z.2⟩
    rw [bq116_2]
    simp only [bq116_3, bq116_4, bq116_5, s_0, lgI_some, s_1I, s_3, s_5K, s_24, s_29, cnP_0, cnP_1, cnP_2, cnP_3, cnP_4, cnP_5, s_30, s_31, s_32, s_46, s_47, lgR_some, s_53, res_0, res_1, nlg_n, nlg_I, nlg_R, Bool.true_and, Bool.and_self, Bool.and_true, kd_51, kd_52, kd_53, kd_54, kd_55, kd_56, kd_57, kd_58, kd_59, kd_60, kd_61, kd_62, kd_63, kd_64, kd_65, kd_66, kd_67, kd_68, kd_69, kd_70, kd_71, kd_72, kd_73, kd_74, kd_75, kd_76, kd_77, kd_78, kd_79, kd_80, kd_81, kd_82, kd_83, kd_84, kd_85, ln_51, ln_52, ln_53, ln_54, ln_55, ln_56, ln_57, ln_58, ln_59, ln_60, ln_61, ln_62, ln_63, ln_64, ln_65, ln_66, ln_67, ln_68, ln_69, ln_70, ln_71, ln_72, ln_73, ln_74, ln_75, ln_76, ln_77, ln_78, ln_79, ln_80, ln_81, ln_82, ln_83, ln_84, ln_85, lg_0, lg_1, lg_2, lg_3, lg_4, lz_0, lz_1, lz_2, lz_3, lz_4, lp_0, lp_1, lp_2, lp_3, lp_4, isL_n, isL_I, isL_R, g_50_2, g_50_7, rc_109_50, List.length_cons, List.length_nil, Nat.reduceAdd, Nat.reduceLT, Nat.reduceLeDiff, true_and, and_true, true_or, or_true, Int.reduceEq, Nat.reduceEqDiff, reduceCtorEq, true_implies, false_implies, not_true_eq_false, not_false_eq_true, Nat.zero_le, Int.zero_add, Nat.zero_add, Nat.lt_add_one, eq_self, forall_const, implies_true, Bool.false_eq_true, false_or, or_false, and_self, ne_eq, me_ne, me_self, q_109 c0 c1 (show 0 ≤ h by omega) (show h ≤ 100 by omega), h51, h52, hf h h0 (show h ≤ 100 by omega), b01_z, Classical.not_not, c0, c1, show ¬ 100 < h by omega, show w32 (h + 1) = h + 1 from w32_id (by omega) (by omega)]
    refine ⟨fun q => ?_, fun q => ⟨fun q2 => ?_, fun q2 => ⟨fun q3 => ?_, fun q3 => ?_⟩⟩⟩
    · exact ih _ _ (by omega) (by omega) (by rw [e3, b01_t (Or.inl q)]) H
    · exact ih _ _ (by omega) (by omega) (by rw [e3, b01_f (fun z => z.elim (fun y => y q) (fun y => y.1 q2))]) H
    · exact ih _ _ (by omega) (by omega) (by rw [e3, b01_f (fun z => z.elim (fun y => y q) (fun y => q3 y.2))]) H
    · exact ih _ _ (by omega) (by omega) (by rw [e3, b01_t (Or.inr ⟨q2, q3⟩)]) H
/-- the reference's loss, where K has the bags that it sees -/
theorem c_116 {K : Me} (eK : ∀ k, k ≠ 24 → K k = M k) (hL : IvL M) (hB : IvB M) (hD : IvD M) (hF : IvF M) (hC : ∀ k h, 0 ≤ k → k < 12 → 0 ≤ h → h ≤ 100 → M 65 (101 * k + h) = (if M 5 2 ≤ h ∧ h < 100 then K 24 (k * 100 + h) else 0)) (H : ∀ X, Fo K M X → Q (los K) X) : Cl (d + 5) 116 [vR 50] M Q := by
  have hb := hB.1
  have hL' := hL
  obtain ⟨⟨l51, l52, l53, l54, l55, l56, l57⟩, ⟨l58, l59, l60, l61, l62, l63, l64⟩, ⟨l66, l67, l68⟩, ⟨l69, l70, l71, l72⟩, ⟨n0, n1, n9, n18, n19, n23⟩⟩ := hL'
  unfold Cl
  rw [en_116]
  simp only [bq116_0, s_0, lgI_some, s_1I, s_3, s_30, cnP_0, cnP_1, cnP_2, cnP_3, cnP_4, cnP_5, s_32, s_47, lgR_some, s_51, res_0, res_1, nlg_n, nlg_I, nlg_R, Bool.true_and, Bool.and_self, Bool.and_true, lg_0, lg_1, lg_2, lg_3, lg_4, lz_0, lz_1, lz_2, lz_3, lz_4, lp_0, lp_1, lp_2, lp_3, lp_4, isL_n, isL_I, isL_R, g_50_0, g_50_1, rc_108_50, List.length_cons, List.length_nil, Nat.reduceAdd, Nat.reduceLT, Nat.reduceLeDiff, true_and, and_true, true_or, or_true, Int.reduceEq, Nat.reduceEqDiff, reduceCtorEq, true_implies, false_implies, not_true_eq_false, not_false_eq_true, Nat.zero_le, Int.zero_add, Nat.zero_add, Nat.lt_add_one, eq_self, forall_const, implies_true, Bool.false_eq_true, false_or, or_false, and_self, ne_eq, me_ne, me_self]
  refine c_108 eK hL hB hD hC hF (fun Y FY => ?_)
  have H' := H Y FY
  obtain ⟨a1, a2, a3, a4, a5, a6, a7, a8⟩ := FY
  have lp : ∀ (n : Nat) (c a : Int) (x y : Option AV), 0 ≤ c → c + (n : Int) = M 1 8 → los K = bu (fun i => b01 (wtb K i 101) * K 14 i) n c a → Rn (d + 5) (blk 116 1) 116 [some (vR 50), some (vI a), some (vI c), x, y] [] Y Q := by
    intro n
    induction n with
    | zero =>
      intro c a x y c0 c1 el
      rw [bq116_1]
      simp only [bq116_9, s_0, lgI_some, s_1I, s_3, s_29, cnP_0, cnP_1, cnP_2, cnP_3, cnP_4, cnP_5, s_30, s_32, s_37i, s_37z, s_46, s_47, lgR_some, s_53, res_0, res_1, nlg_n, nlg_I, nlg_R, Bool.true_and, Bool.and_self, Bool.and_true, kd_51, kd_52, kd_53, kd_54, kd_55, kd_56, kd_57, kd_58, kd_59, kd_60, kd_61, kd_62, kd_63, kd_64, kd_65, kd_66, kd_67, kd_68, kd_69, kd_70, kd_71, kd_72, kd_73, kd_74, kd_75, kd_76, kd_77, kd_78, kd_79, kd_80, kd_81, kd_82, kd_83, kd_84, kd_85, ln_51, ln_52, ln_53, ln_54, ln_55, ln_56, ln_57, ln_58, ln_59, ln_60, ln_61, ln_62, ln_63, ln_64, ln_65, ln_66, ln_67, ln_68, ln_69, ln_70, ln_71, ln_72, ln_73, ln_74, ln_75, ln_76, ln_77, ln_78, ln_79, ln_80, ln_81, ln_82, ln_83, ln_84, ln_85, lg_0, lg_1, lg_2, lg_3, lg_4, lz_0, lz_1, lz_2, lz_3, lz_4, lp_0, lp_1, lp_2, lp_3, lp_4, isL_n, isL_I, isL_R, g_50_0, g_50_1, g_50_2, rc_109_50, List.length_cons, List.length_nil, Nat.reduceAdd, Nat.reduceLT, Nat.reduceLeDiff, true_and, and_true, true_or, or_true, Int.reduceEq, Nat.reduceEqDiff, reduceCtorEq, true_implies, false_implies, not_true_eq_false, not_false_eq_true, Nat.zero_le, Int.zero_add, Nat.zero_add, Nat.lt_add_one, eq_self, forall_const, implies_true, Bool.false_eq_true, false_or, or_false, and_self, ne_eq, me_ne, me_self, a1 50 (by decide), n1, show M 1 8 ≤ c by omega]
      rw [el] at H'
      exact H'
    | succ n ih =>
      intro c a x y c0 c1 el
      have c2 : c < 10 := by omega
      rw [bq116_1]
      simp only [bq116_9, s_0, lgI_some, s_1I, s_3, s_29, cnP_0, cnP_1, cnP_2, cnP_3, cnP_4, cnP_5, s_30, s_32, s_37i, s_37z, s_46, s_47, lgR_some, s_53, res_0, res_1, nlg_n, nlg_I, nlg_R, Bool.true_and, Bool.and_self, Bool.and_true, kd_51, kd_52, kd_53, kd_54, kd_55, kd_56, kd_57, kd_58, kd_59, kd_60, kd_61, kd_62, kd_63, kd_64, kd_65, kd_66, kd_67, kd_68, kd_69, kd_70, kd_71, kd_72, kd_73, kd_74, kd_75, kd_76, kd_77, kd_78, kd_79, kd_80, kd_81, kd_82, kd_83, kd_84, kd_85, ln_51, ln_52, ln_53, ln_54, ln_55, ln_56, ln_57, ln_58, ln_59, ln_60, ln_61, ln_62, ln_63, ln_64, ln_65, ln_66, ln_67, ln_68, ln_69, ln_70, ln_71, ln_72, ln_73, ln_74, ln_75, ln_76, ln_77, ln_78, ln_79, ln_80, ln_81, ln_82, ln_83, ln_84, ln_85, lg_0, lg_1, lg_2, lg_3, lg_4, lz_0, lz_1, lz_2, lz_3, lz_4, lp_0, lp_1, lp_2, lp_3, lp_4, isL_n, isL_I, isL_R, g_50_0, g_50_1, g_50_2, rc_109_50, List.length_cons, List.length_nil, Nat.reduceAdd, Nat.reduceLT, Nat.reduceLeDiff, true_and, and_true, true_or, or_true, Int.reduceEq, Nat.reduceEqDiff, reduceCtorEq, true_implies, false_implies, not_true_eq_false, not_false_eq_true, Nat.zero_le, Int.zero_add, Nat.zero_add, Nat.lt_add_one, eq_self, forall_const, implies_true, Bool.false_eq_true, false_or, or_false, and_self, ne_eq, me_ne, me_self, a1 50 (by decide), n1, n0, show ¬ M 1 8 ≤ c by omega]
      refine l_116b (d := d + 3) (M := M) (f := fw K c) c0 c2 (fun h h0 h1 => a8 h c h0 h1 c0 (by omega)) (by rw [a1 51 (by decide), l51]) (by rw [a1 52 (by decide), l52]) hF.1.1 (101 - M 5 2).toNat _ _ (Int.le_refl _) (by have := hF.1; omega) ?_ (fun z => ?_)
      · rw [b01_f]
        rintro ⟨-, h', z1, z2, -⟩
        omega
      · rw [bq116_6]
        have ew : wtb K c 101 = (¬ M 9 c = 0 ∧ ∃ h', M 5 2 ≤ h' ∧ h' < 101 ∧ M 10 c ≤ fw K c h') := by
          unfold wtb; rw [eK 9 (by decide), eK 5 (by decide), eK 10 (by decide)]
        rw [← ew]
        simp only [bq116_7, bq116_8, s_0, lgI_some, s_1I, s_3, s_5K, s_6, s_24, s_29, cnP_0, cnP_1, cnP_2, cnP_3, cnP_4, cnP_5, s_30, s_31, s_32, s_47, lgR_some, kd_51, kd_52, kd_53, kd_54, kd_55, kd_56, kd_57, kd_58, kd_59, kd_60, kd_61, kd_62, kd_63, kd_64, kd_65, kd_66, kd_67, kd_68, kd_69, kd_70, kd_71, kd_72, kd_73, kd_74, kd_75, kd_76, kd_77, kd_78, kd_79, kd_80, kd_81, kd_82, kd_83, kd_84, kd_85, ln_51, ln_52, ln_53, ln_54, ln_55, ln_56, ln_57, ln_58, ln_59, ln_60, ln_61, ln_62, ln_63, ln_64, ln_65, ln_66, ln_67, ln_68, ln_69, ln_70, ln_71, ln_72, ln_73, ln_74, ln_75, ln_76, ln_77, ln_78, ln_79, ln_80, ln_81, ln_82, ln_83, ln_84, ln_85, lg_0, lg_1, lg_2, lg_3, lg_4, lz_0, lz_1, lz_2, lz_3, lz_4, lp_0, lp_1, lp_2, lp_3, lp_4, isL_n, isL_I, isL_R, g_50_0, g_50_1, g_50_7, List.length_cons, List.length_nil, Nat.reduceAdd, Nat.reduceLT, Nat.reduceLeDiff, true_and, and_true, true_or, or_true, Int.reduceEq, Nat.reduceEqDiff, reduceCtorEq, true_implies, false_implies, not_true_eq_false, not_false_eq_true, Nat.zero_le, Int.zero_add, Nat.zero_add, Nat.lt_add_one, eq_self, forall_const, implies_true, Bool.false_eq_true, false_or, or_false, and_self, ne_eq, me_ne, me_self, a1 56 (by decide), l56, b01_z, Classical.not_not, c0, c2, show w32 (c + 1) = c + 1 from w32_id (by omega) (by omega)]
        have el2 : los K = bu (fun i => b01 (wtb K i 101) * K 14 i) n (c + 1) (w32 (a + b01 (wtb K c 101) * M 14 c)) := by
          rw [el, ← eK 14 (by decide)]; rfl
        refine ⟨fun q => ?_, fun q => ?_⟩
        · refine ih _ _ _ _ (by omega) (by omega) ?_
          rw [el2, b01_f q, Int.zero_mul]
        · refine ih _ _ _ _ (by omega) (by omega) ?_
          rw [el2, b01_t q, Int.one_mul]
  exact lp (M 1 8).toNat 0 0 _ _ (Int.le_refl 0) (by omega) (by unfold los; rw [eK 1 (by decide)])
theorem c48_iv {X : Me} (I : Iv M) (a1 : ∀ k, k ≠ 48 → k ≠ 49 → k ≠ 8 → X k = M k) : Iv X := by
  obtain ⟨hL, hB, hD, hC, hF, hR, hP, hX⟩ := I
  have eW : cw X = cw M := cw_of (fun k q1 q2 q3 q4 q5 => a1 k (by omega) (by omega) (by omega))
  refine ⟨?_, cw_IB eW hB, cw_ID eW hD, IvC_cg (a1 2 (by decide) (by decide) (by decide)) (a1 5 (by decide) (by decide) (by decide)) (a1 24 (by decide) (by decide) (by decide)) (a1 65 (by decide) (by decide) (by decide)) hC, IvF_cg (a1 2 (by decide) (by decide) (by decide)) (a1 5 (by decide) (by decide) (by decide)) (a1 36 (by decide) (by decide) (by decide)) (a1 37 (by decide) (by decide) (by decide)) (a1 73 (by decide) (by decide) (by decide)) (a1 74 (by decide) (by decide) (by decide)) (a1 75 (by decide) (by decide) (by decide)) (a1 76 (by decide) (by decide) (by decide)) (a1 77 (by decide) (by decide) (by decide)) hF, cw_IR eW hR, IvP_cg (a1 0 (by decide) (by decide) (by decide)) (a1 2 (by decide) (by decide) (by decide)) (a1 4 (by decide) (by decide) (by decide)) (a1 33 (by decide) (by decide) (by decide)) (a1 34 (by decide) (by decide) (by decide)) hP, IvX_fr (fun k hk => a1 k (by omega) (by omega) (by omega)) hX⟩
  have b1 : ∀ k, k ∉ [8, 48, 49] → X k = M k := fun k q => by simp at q; exact a1 k q.2.1 q.2.2 q.1
  unfold IvL at *
  rw [b1 51 (by decide), b1 52 (by decide), b1 53 (by decide), b1 54 (by decide), b1 55 (by decide), b1 56 (by decide), b1 57 (by decide), b1 58 (by decide), b1 59 (by decide), b1 60 (by decide), b1 61 (by decide), b1 62 (by decide), b1 63 (by decide), b1 64 (by decide), b1 66 (by decide), b1 67 (by decide), b1 68 (by decide), b1 69 (by decide), b1 70 (by decide), b1 71 (by decide), b1 72 (by decide), b1 50 (by decide), b1 0 (by decide), b1 1 (by decide), b1 2 (by decide), b1 3 (by decide), b1 4 (by decide), b1 5 (by decide), b1 9 (by decide), b1 10 (by decide), b1 11 (by decide), b1 12 (by decide), b1 13 (by decide), b1 14 (by decide), b1 16 (by decide), b1 17 (by decide), b1 18 (by decide), b1 19 (by decide), b1 20 (by decide), b1 21 (by decide), b1 22 (by decide), b1 23 (by decide), b1 33 (by decide), b1 34 (by decide), b1 35 (by decide), b1 25 (by decide), b1 26 (by decide), b1 27 (by decide), b1 28 (by decide)]
  exact hL
theorem los_cg {X : Me} (h : cw X = cw M) (h1 : X 36 = M 36) (h2 : X 37 = M 37) (h3 : X 5 = M 5) : los X = los M := by
  have e : fw X = fw M := fw_cg (cw_ag h) h1 h2 h3
  unfold los wtb
  rw [e, h3, show X 9 = M 9 from congrFun h 9, show X 10 = M 10 from congrFun h 10, show X 14 = M 14 from congrFun h 14, show X 1 = M 1 from congrFun h 1]
theorem p_69 (I : Iv M) : Tw d 69 116 [] M := by
  have I0 := I
  obtain ⟨hL, hB, hD, hC, hF, hR, hP, hX⟩ := I0
  have hf := hF
  obtain ⟨f1, f2, f3, f4, f5, f6, f7, f8, f9⟩ := hf
  unfold Tw
  rw [uc 69, en_69]
  simp only [bq69_0, s_37i, s_37z, s_47, lgR_some, s_54, res_0, res_1, nlg_n, nlg_I, nlg_R, Bool.true_and, Bool.and_self, Bool.and_true, lg_0, g_0_0, g_0_1, g_0_4, g_0_5, rc_48_6, List.length_cons, List.length_nil, Nat.reduceAdd, Nat.reduceLT, Nat.reduceLeDiff, true_and, and_true, true_or, or_true, Int.reduceEq, Nat.reduceEqDiff, reduceCtorEq, true_implies, false_implies, not_true_eq_false, not_false_eq_true, Nat.zero_le, Int.zero_add, Nat.zero_add, Nat.lt_add_one, eq_self, forall_const, implies_true, Bool.false_eq_true, false_or, or_false, and_self, ne_eq, me_ne, me_self]
  refine c_48 hB hD f1.1 f1.2 (by rw [f5]; exact w32_32 _) (by rw [f6]; exact w32_32 _) (fun X x1 => ?_)
  have IX := c48_iv I x1
  refine c_116 (fun _ _ => rfl) IX.1 IX.2.1 IX.2.2.1 IX.2.2.2.2.1 (fun k h a b c e => (IX.2.2.2.1 k h a b c e).2.1) (fun Y FY => ⟨?_, Fo_iv IX FY⟩)
  exact (los_cg (cw_of (fun k q1 q2 q3 q4 q5 => x1 k (by omega) (by omega) (by omega))) (x1 36 (by decide) (by decide) (by decide)) (x1 37 (by decide) (by decide) (by decide)) (x1 5 (by decide) (by decide) (by decide))).symm
end LO

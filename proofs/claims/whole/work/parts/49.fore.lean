/-! what is foretold -/
def ag (X M : Me) : Prop := X 1 = M 1 ∧ X 2 = M 2 ∧ X 10 = M 10 ∧ X 11 = M 11 ∧ X 12 = M 12 ∧ X 15 = M 15 ∧ X 16 = M 16 ∧ X 17 = M 17 ∧ X 18 = M 18 ∧ X 19 = M 19 ∧ X 20 = M 20 ∧ X 22 = M 22 ∧ X 23 = M 23 ∧ X 24 = M 24
section AG
variable {X M : Me}
theorem hIn_ag (a : ag X M) : hIn X = hIn M := by
  obtain ⟨a1, a2, a10, a11, a12, a15, a16, a17, a18, a19, a20, a22, a23, a24⟩ := a
  funext h s; unfold hIn; rw [a1, a15, a16]
theorem hPs_ag (a : ag X M) : hPs X = hPs M := by
  obtain ⟨a1, a2, a10, a11, a12, a15, a16, a17, a18, a19, a20, a22, a23, a24⟩ := a
  funext i s; unfold hPs hpg; rw [a1, a15, a12]
theorem hPd_ag (a : ag X M) : hPd X = hPd M := by
  funext n
  induction n with
  | zero => rfl
  | succ n ih => funext s; simp only [hPd]; rw [ih, hPs_ag a]
theorem hLa_ag (a : ag X M) : hLa X = hLa M := by
  obtain ⟨a1, a2, a10, a11, a12, a15, a16, a17, a18, a19, a20, a22, a23, a24⟩ := a
  funext h k s; unfold hLa hbr; rw [a23, a24]
theorem hLd_ag (a : ag X M) : hLd X = hLd M := by
  funext h n
  induction n with
  | zero => rfl
  | succ n ih => funext k s; simp only [hLd]; rw [ih, hLa_ag a]
theorem hOv_ag (a : ag X M) : hOv X = hOv M := by
  obtain ⟨a1, a2, a10, a11, a12, a15, a16, a17, a18, a19, a20, a22, a23, a24⟩ := a
  funext h k s; unfold hOv hO1 htp hlv hbr; rw [a10, a11, a17, a18, a19, a20, a22, a23]
theorem hOd_ag (a : ag X M) : hOd X = hOd M := by
  funext h n
  induction n with
  | zero => rfl
  | succ n ih => funext k s; simp only [hOd]; rw [ih, hOv_ag a]
theorem hF_ag (a : ag X M) : hF X = hF M := by
  funext h s; unfold hF; rw [hIn_ag a, hPd_ag a, hLd_ag a, hOd_ag a, a.1, a.2.1]
end AG
/-- water and bags alike -/
def wb (s s' : HS) : Prop := s.1 = s'.1 ∧ s.2.1 = s'.2.1
section WB
variable {K : Me} {s s' : HS}
theorem hIn_wb {h : Int} (a : wb s s') : wb (hIn K h s) (hIn K h s') := by
  unfold hIn; split
  · exact a
  · exact ⟨by simp only [a.1], a.2⟩
theorem hPs_wb {i : Int} (a : wb s s') : wb (hPs K i s) (hPs K i s') := by
  unfold hPs; split
  · exact ⟨by simp only [a.1], a.2⟩
  · exact ⟨by simp only [a.1], a.2⟩
theorem hPd_wb {n : Nat} : ∀ {s s' : HS}, wb s s' → wb (hPd K n s) (hPd K n s') := by
  induction n with
  | zero => intro s s' a; exact a
  | succ n ih => intro s s' a; exact ih (hPs_wb a)
theorem hLa_wb {h k : Int} (a : wb s s') : wb (hLa K h k s) (hLa K h k s') := by
  unfold hLa; split
  · exact ⟨a.1, by simp only [a.2]⟩
  · exact ⟨a.1, by simp only [a.2]⟩
theorem hLd_wb {h : Int} {n : Nat} : ∀ {k : Int} {s s' : HS}, wb s s' → wb (hLd K h n k s) (hLd K h n k s') := by
  induction n with
  | zero => intro k s s' a; exact a
  | succ n ih => intro k s s' a; exact ih (hLa_wb a)
theorem hO1_wb {h k u l : Int} (a : wb s s') : wb (hO1 K h k u l s) (hO1 K h k u l s') := by
  have e1 : hlv K s = hlv K s' := by funext b; unfold hlv; rw [a.1]
  have e2 : htp K h s = htp K h s' := by funext b; unfold htp; rw [a.2]
  unfold hO1
  rw [e1, e2]
  split
  · exact a
  · exact ⟨by simp only [a.1], a.2⟩
theorem hOv_wb {h k : Int} (a : wb s s') : wb (hOv K h k s) (hOv K h k s') := by
  have e1 : hlv K s = hlv K s' := by funext b; unfold hlv; rw [a.1]
  unfold hOv
  rw [e1]
  split <;> exact hO1_wb a
theorem hOd_wb {h : Int} {n : Nat} : ∀ {k : Int} {s s' : HS}, wb s s' → wb (hOd K h n k s) (hOd K h n k s') := by
  induction n with
  | zero => intro k s s' a; exact a
  | succ n ih => intro k s s' a; exact ih (hOv_wb a)
theorem hF_wb {h : Int} (a : wb s s') : wb (hF K h s) (hF K h s') := hOd_wb (hLd_wb (hPd_wb (hIn_wb a)))
end WB
/-- k hours from hour h on -/
noncomputable def hI (K : Me) (h : Int) (s : HS) : Nat → HS
  | 0 => s
  | k + 1 => hF K (h + k) (hI K h s k)
theorem hI_wb {K : Me} {h : Int} {s s' : HS} (a : wb s s') (n : Nat) : wb (hI K h s n) (hI K h s' n) := by
  induction n with
  | zero => exact a
  | succ n ih => exact hF_wb ih
theorem hI_ag {X M : Me} (a : ag X M) (h : Int) (s : HS) (n : Nat) : hI X h s n = hI M h s n := by
  induction n with
  | zero => rfl
  | succ n ih => simp only [hI]; rw [ih, hF_ag a]
def st5 (M : Me) : HS := (M 36, M 37, M 5 3, M 5 4, M 5 5)
noncomputable def fw (M : Me) (c h : Int) : Int := (hI M (M 5 2) (st5 M) (h - M 5 2).toNat).1 c
theorem fw_cg {X M : Me} (a : ag X M) (h1 : X 36 = M 36) (h2 : X 37 = M 37) (h3 : X 5 = M 5) : fw X = fw M := by
  funext c h; unfold fw st5; rw [hI_ag a, h1, h2, h3]
theorem IvB_cg {X M : Me} (h1 : X 1 = M 1) (h9 : X 9 = M 9) (h10 : X 10 = M 10) (h11 : X 11 = M 11) (h12 : X 12 = M 12) (h13 : X 13 = M 13) (h14 : X 14 = M 14) (h15 : X 15 = M 15) (h16 : X 16 = M 16) (h : IvB M) : IvB X := by
  unfold IvB at *; rw [h1, h9, h10, h11, h12, h13, h14, h15, h16]; exact h
theorem IvD_cg {X M : Me} (h1 : X 1 = M 1) (h2 : X 2 = M 2) (h17 : X 17 = M 17) (h18 : X 18 = M 18) (h19 : X 19 = M 19) (h20 : X 20 = M 20) (h21 : X 21 = M 21) (h22 : X 22 = M 22) (h : IvD M) : IvD X := by
  unfold IvD at *; rw [h1, h2, h17, h18, h19, h20, h21, h22]; exact h
/-- the flood, both sides -/
def IvF (M : Me) : Prop := (0 ≤ M 5 2 ∧ M 5 2 ≤ 100) ∧ (∀ c, 0 ≤ c → c < 10 → M 73 c = M 36 c) ∧ (∀ k, 0 ≤ k → k < 12 → M 74 k = M 37 k) ∧ M 75 0 = M 5 3 ∧ M 5 4 = w32 (M 76 0) ∧ M 5 5 = w32 (M 77 0) ∧ (∀ i, w64 (M 76 i) = M 76 i ∧ w64 (M 77 i) = M 77 i) ∧ hP (1000000 * M 5 2) (st5 M) ∧ (∀ k, M 2 8 ≤ k → k < 12 → M 37 k = 0)
/-- bags under way, both sides -/
def IvC (M : Me) : Prop := ∀ k h, 0 ≤ k → k < 12 → 0 ≤ h → h ≤ 100 → (-2147483648 ≤ M 24 (k * 100 + h) ∧ M 24 (k * 100 + h) < 2147483648) ∧ M 65 (101 * k + h) = (if M 5 2 ≤ h ∧ h < 100 then M 24 (k * 100 + h) else 0) ∧ (M 2 8 ≤ k → M 24 (k * 100 + h) = 0)
section C44
variable {d : Nat} {M : Me} {Q : Int → Me → Prop}
theorem c_33 (h4 : w32 (M 5 4) = M 5 4) (h5 : w32 (M 5 5) = M 5 5) (H : Q 0 (wr8 (me_put M 8 2 (M 5 2)) (st5 M))) : Cl d 33 [vR 8, vR 5] M Q := by
  unfold Cl
  rw [en_33]
  simp only [bq33_0, s_3, s_38, s_42, s_47, lgR_some, kd_9, kd_10, kd_11, kd_12, kd_13, kd_14, kd_15, kd_16, kd_17, kd_18, kd_19, kd_20, kd_21, kd_22, kd_23, kd_24, kd_25, kd_26, kd_27, kd_28, kd_29, kd_30, kd_31, kd_32, kd_33, kd_34, kd_35, kd_36, kd_37, kd_38, kd_39, kd_40, kd_41, kd_42, kd_43, kd_44, kd_45, kd_46, kd_47, kd_48, kd_49, ln_9, ln_10, ln_11, ln_12, ln_13, ln_14, ln_15, ln_16, ln_17, ln_18, ln_19, ln_20, ln_21, ln_22, ln_23, ln_24, ln_25, ln_26, ln_27, ln_28, ln_29, ln_30, ln_31, ln_32, ln_33, ln_34, ln_35, ln_36, ln_37, ln_38, ln_39, ln_40, ln_41, ln_42, ln_43, ln_44, ln_45, ln_46, ln_47, ln_48, ln_49, lg_0, lg_1, g_5_0, g_5_1, g_5_2, g_5_3, g_5_4, g_5_5, g_8_0, g_8_1, g_8_2, g_8_3, g_8_4, g_8_5, p_5_2, p_5_3, p_5_4, p_5_5, p_8_2, p_8_3, p_8_4, p_8_5, List.length_cons, List.length_nil, Nat.reduceAdd, Nat.reduceLT, Nat.reduceLeDiff, true_and, and_true, true_or, or_true, Int.reduceEq, Nat.reduceEqDiff, reduceCtorEq, true_implies, false_implies, not_true_eq_false, not_false_eq_true, Nat.zero_le, Int.zero_add, Nat.zero_add, Nat.lt_add_one, eq_self, forall_const, implies_true, Bool.false_eq_true, false_or, or_false, and_self, ne_eq, me_ne, me_self]
  refine ⟨by omega, by omega, ?_⟩
  have e : ∀ X, X = wr8 (me_put M 8 2 (M 5 2)) (st5 M) → Q 0 X := fun X h => by rw [h]; exact H
  apply e
  funext a b
  simp only [me_put, me_cpy, wr8, st5, h4, h5]
  by_cases h : a = 48
  · subst h
    by_cases q : 0 ≤ b ∧ b < 10
    · simp [q]
    · simp [q]
  · by_cases h' : a = 49
    · subst h'
      by_cases q : 0 ≤ b ∧ b < 12
      · simp [q]
      · simp [q]
    · by_cases h2 : a = 8
      · subst h2
        by_cases q : b = 5
        · subst q; simp
        · by_cases q : b = 4
          · subst q; simp
          · by_cases q : b = 3
            · subst q; simp
            · by_cases q : b = 2
              · subst q; simp
              · simp [*]
      · simp [h, h', h2]
def tb (X : Me) (s : HS) (h : Int) : Me := fun a b => if a = 38 ∧ h * 10 ≤ b ∧ b < h * 10 + 10 then s.1 (b - h * 10) else X a b
theorem tb_f {X : Me} {s : HS} {h : Int} {k : Nat} (hk : k ≠ 38) : tb X s h k = X k := by
  funext b; simp [tb, hk]
theorem tb_cpy {X : Me} {s : HS} {h : Int} : me_cpy (wr8 X s) 48 0 38 (h * 10) 10 = wr8 (tb X s h) s := by
  funext a b
  simp only [me_cpy, wr8, tb]
  by_cases q : a = 38
  · subst q
    by_cases q2 : h * 10 ≤ b ∧ b < h * 10 + 10
    · have : 0 ≤ b - h * 10 ∧ b - h * 10 < 10 := by omega
      simp [q2, this]
    · simp [q2]
  · simp [q]
theorem l_44 (hB : IvB M) (hD : IvD M) (hn : 0 ≤ M 5 2) (H : ∀ M' : Me, (∀ k, k ≠ 38 → k ≠ 48 → k ≠ 49 → k ≠ 8 → k ≠ 6 → M' k = M k) → M' 6 2 = 1 → (∀ h c, M 5 2 ≤ h → h ≤ 100 → 0 ≤ c → c < 10 → M' 38 (h * 10 + c) = fw M c h) → Q 0 M') :
    ∀ (n : Nat) (X : Me) (s : HS) (h : Int), h + (n : Int) = 101 → M 5 2 ≤ h → (∀ k, k ≠ 38 → k ≠ 48 → k ≠ 49 → k ≠ 8 → X k = M k) → (h ≤ 100 → X 8 2 = h ∧ s = hI M (M 5 2) (st5 M) (h - M 5 2).toNat) → (∀ h' c, M 5 2 ≤ h' → h' < h → 0 ≤ c → c < 10 → X 38 (h' * 10 + c) = fw M c h') →
    Rn (d + 4) (blk 44 2) 44 [some (vR 6), some (vR 1), some (vR 2), some (vR 5), some (vI h)] [] (wr8 X s) Q := by
  intro n
  induction n with
  | zero =>
    intro X s h hh h1 hX hs hT
    rw [bq44_2]
    simp only [bq44_3, s_0, lgI_some, s_3, s_5K, s_8, s_30, cnP_0, cnP_1, cnP_2, cnP_3, cnP_4, cnP_5, s_31, s_38, s_42, s_47, lgR_some, s_53, res_0, res_1, nlg_n, nlg_I, nlg_R, Bool.true_and, Bool.and_self, Bool.and_true, kd_9, kd_10, kd_11, kd_12, kd_13, kd_14, kd_15, kd_16, kd_17, kd_18, kd_19, kd_20, kd_21, kd_22, kd_23, kd_24, kd_25, kd_26, kd_27, kd_28, kd_29, kd_30, kd_31, kd_32, kd_33, kd_34, kd_35, kd_36, kd_37, kd_38, kd_39, kd_40, kd_41, kd_42, kd_43, kd_44, kd_45, kd_46, kd_47, kd_48, kd_49, ln_9, ln_10, ln_11, ln_12, ln_13, ln_14, ln_15, ln_16, ln_17, ln_18, ln_19, ln_20, ln_21, ln_22, ln_23, ln_24, ln_25, ln_26, ln_27, ln_28, ln_29, ln_30, ln_31, ln_32, ln_33, ln_34, ln_35, ln_36, ln_37, ln_38, ln_39, ln_40, ln_41, ln_42, ln_43, ln_44, ln_45, ln_46, ln_47, ln_48, ln_49, lg_0, lg_1, lg_2, lg_3, lg_4, lz_0, lz_1, lz_2, lz_3, lz_4, lp_0, lp_1, lp_2, lp_3, lp_4, isL_n, isL_I, isL_R, g_5_0, g_6_0, g_6_1, g_8_0, p_6_2, rc_38_5, rc_38_8, List.length_cons, List.length_nil, Nat.reduceAdd, Nat.reduceLT, Nat.reduceLeDiff, true_and, and_true, true_or, or_true, Int.reduceEq, Nat.reduceEqDiff, reduceCtorEq, true_implies, false_implies, not_true_eq_false, not_false_eq_true, Nat.zero_le, Int.zero_add, Nat.zero_add, Nat.lt_add_one, eq_self, forall_const, implies_true, Bool.false_eq_true, false_or, or_false, and_self, ne_eq, me_ne, me_self, show 100 < h by omega]
    refine H _ ?_ ?_ ?_
    · intro k q1 q2 q3 q4 q5
      funext b
      rw [me_ne _ _ _ _ q5, wr8_o q2 q3 q4, hX k q1 q2 q3 q4]
    · rw [me_self]
    · intro h' c a1 a2 a3 a4
      rw [me_ne _ _ _ _ (by decide), wr8_o (by decide) (by decide) (by decide)]
      exact hT h' c a1 (by omega) a3 a4
  | succ n ih =>
    intro X s h hh h1 hX hs hT
    have h2 : h ≤ 100 := by omega
    obtain ⟨hs1, hs2⟩ := hs h2
    rw [bq44_2]
    simp only [bq44_3, s_0, lgI_some, s_3, s_5K, s_8, s_30, cnP_0, cnP_1, cnP_2, cnP_3, cnP_4, cnP_5, s_31, s_38, s_42, s_47, lgR_some, s_53, res_0, res_1, nlg_n, nlg_I, nlg_R, Bool.true_and, Bool.and_self, Bool.and_true, kd_9, kd_10, kd_11, kd_12, kd_13, kd_14, kd_15, kd_16, kd_17, kd_18, kd_19, kd_20, kd_21, kd_22, kd_23, kd_24, kd_25, kd_26, kd_27, kd_28, kd_29, kd_30, kd_31, kd_32, kd_33, kd_34, kd_35, kd_36, kd_37, kd_38, kd_39, kd_40, kd_41, kd_42, kd_43, kd_44, kd_45, kd_46, kd_47, kd_48, kd_49, ln_9, ln_10, ln_11, ln_12, ln_13, ln_14, ln_15, ln_16, ln_17, ln_18, ln_19, ln_20, ln_21, ln_22, ln_23, ln_24, ln_25, ln_26, ln_27, ln_28, ln_29, ln_30, ln_31, ln_32, ln_33, ln_34, ln_35, ln_36, ln_37, ln_38, ln_39, ln_40, ln_41, ln_42, ln_43, ln_44, ln_45, ln_46, ln_47, ln_48, ln_49, lg_0, lg_1, lg_2, lg_3, lg_4, lz_0, lz_1, lz_2, lz_3, lz_4, lp_0, lp_1, lp_2, lp_3, lp_4, isL_n, isL_I, isL_R, g_5_0, g_6_0, g_6_1, g_8_0, p_6_2, rc_38_5, rc_38_8, List.length_cons, List.length_nil, Nat.reduceAdd, Nat.reduceLT, Nat.reduceLeDiff, true_and, and_true, true_or, or_true, Int.reduceEq, Nat.reduceEqDiff, reduceCtorEq, true_implies, false_implies, not_true_eq_false, not_false_eq_true, Nat.zero_le, Int.zero_add, Nat.zero_add, Nat.lt_add_one, eq_self, forall_const, implies_true, Bool.false_eq_true, false_or, or_false, and_self, ne_eq, me_ne, me_self, show ¬ 100 < h by omega, show w32 (h * 10) = h * 10 from w32_id (by omega) (by omega), show w32 (h + 1) = h + 1 from w32_id (by omega) (by omega), tb_cpy]
    refine ⟨by omega, ?_⟩
    have hX2 : ∀ k, k ≠ 38 → k ≠ 48 → k ≠ 49 → k ≠ 8 → tb X s h k = M k := fun k q1 q2 q3 q4 => by rw [tb_f q1, hX k q1 q2 q3 q4]
    have hT2 : ∀ h' c, M 5 2 ≤ h' → h' < h + 1 → 0 ≤ c → c < 10 → tb X s h 38 (h' * 10 + c) = fw M c h' := by
      intro h' c a1 a2 a3 a4
      unfold tb
      by_cases q : h' = h
      · subst q
        rw [if_pos ⟨rfl, by omega, by omega⟩, show h' * 10 + c - h' * 10 = c by omega, hs2]
        rfl
      · rw [if_neg (by omega)]
        exact hT h' c a1 (by omega) a3 a4
    by_cases q : h = 100
    · subst q
      refine c8_38e (by rw [wr8_2, tb_f (by decide), hs1]; exact Int.le_refl _) ?_
      exact ih _ _ _ (by omega) (by omega) hX2 (fun z => by omega) hT2
    · have eB : IvB (tb X s h) := IvB_cg (hX2 1 (by decide) (by decide) (by decide) (by decide)) (hX2 9 (by decide) (by decide) (by decide) (by decide)) (hX2 10 (by decide) (by decide) (by decide) (by decide)) (hX2 11 (by decide) (by decide) (by decide) (by decide)) (hX2 12 (by decide) (by decide) (by decide) (by decide)) (hX2 13 (by decide) (by decide) (by decide) (by decide)) (hX2 14 (by decide) (by decide) (by decide) (by decide)) (hX2 15 (by decide) (by decide) (by decide) (by decide)) (hX2 16 (by decide) (by decide) (by decide) (by decide)) hB
      have eD : IvD (tb X s h) := IvD_cg (hX2 1 (by decide) (by decide) (by decide) (by decide)) (hX2 2 (by decide) (by decide) (by decide) (by decide)) (hX2 17 (by decide) (by decide) (by decide) (by decide)) (hX2 18 (by decide) (by decide) (by decide) (by decide)) (hX2 19 (by decide) (by decide) (by decide) (by decide)) (hX2 20 (by decide) (by decide) (by decide) (by decide)) (hX2 21 (by decide) (by decide) (by decide) (by decide)) (hX2 22 (by decide) (by decide) (by decide) (by decide)) hD
      have eA : ag (tb X s h) M := ⟨hX2 1 (by decide) (by decide) (by decide) (by decide), hX2 2 (by decide) (by decide) (by decide) (by decide), hX2 10 (by decide) (by decide) (by decide) (by decide), hX2 11 (by decide) (by decide) (by decide) (by decide), hX2 12 (by decide) (by decide) (by decide) (by decide), hX2 15 (by decide) (by decide) (by decide) (by decide), hX2 16 (by decide) (by decide) (by decide) (by decide), hX2 17 (by decide) (by decide) (by decide) (by decide), hX2 18 (by decide) (by decide) (by decide) (by decide), hX2 19 (by decide) (by decide) (by decide) (by decide), hX2 20 (by decide) (by decide) (by decide) (by decide), hX2 22 (by decide) (by decide) (by decide) (by decide), hX2 23 (by decide) (by decide) (by decide) (by decide), hX2 24 (by decide) (by decide) (by decide) (by decide)⟩
      have e8 : tb X s h 8 2 = h := by rw [tb_f (by decide), hs1]
      refine c8_38 eB eD (by rw [e8]; omega) ?_
      rw [e8, hF_ag eA]
      refine ih _ _ _ (by omega) (by omega) ?_ ?_ ?_
      · intro k q1 q2 q3 q4
        funext b
        rw [me_ne _ _ _ _ q4, hX2 k q1 q2 q3 q4]
      · intro _
        refine ⟨me_self _ _ _ _, ?_⟩
        rw [show (h + 1 - M 5 2).toNat = (h - M 5 2).toNat + 1 by omega]
        simp only [hI]
        rw [← hs2, show M 5 2 + (((h - M 5 2).toNat : Nat) : Int) = h by omega]
      · intro h' c a1 a2 a3 a4
        rw [me_ne _ _ _ _ (by decide)]
        exact hT2 h' c a1 a2 a3 a4
/-- the table of what is foretold -/
theorem c_44 (hB : IvB M) (hD : IvD M) (hn : 0 ≤ M 5 2) (hn2 : M 5 2 ≤ 100) (h4 : w32 (M 5 4) = M 5 4) (h5 : w32 (M 5 5) = M 5 5) (hf : M 6 2 = 0) (H : ∀ M' : Me, (∀ k, k ≠ 38 → k ≠ 48 → k ≠ 49 → k ≠ 8 → k ≠ 6 → M' k = M k) → M' 6 2 = 1 → (∀ h c, M 5 2 ≤ h → h ≤ 100 → 0 ≤ c → c < 10 → M' 38 (h * 10 + c) = fw M c h) → Q 0 M') :
    Cl (d + 4) 44 [vR 6, vR 1, vR 2, vR 5] M Q := by
  unfold Cl
  rw [en_44]
  simp only [bq44_0, bq44_1, s_0, lgI_some, s_1I, s_3, s_5K, s_8, s_29, cnP_0, cnP_1, cnP_2, cnP_3, cnP_4, cnP_5, s_30, s_31, s_32, s_38, s_42, s_47, lgR_some, s_52, s_53, res_0, res_1, nlg_n, nlg_I, nlg_R, Bool.true_and, Bool.and_self, Bool.and_true, kd_9, kd_10, kd_11, kd_12, kd_13, kd_14, kd_15, kd_16, kd_17, kd_18, kd_19, kd_20, kd_21, kd_22, kd_23, kd_24, kd_25, kd_26, kd_27, kd_28, kd_29, kd_30, kd_31, kd_32, kd_33, kd_34, kd_35, kd_36, kd_37, kd_38, kd_39, kd_40, kd_41, kd_42, kd_43, kd_44, kd_45, kd_46, kd_47, kd_48, kd_49, ln_9, ln_10, ln_11, ln_12, ln_13, ln_14, ln_15, ln_16, ln_17, ln_18, ln_19, ln_20, ln_21, ln_22, ln_23, ln_24, ln_25, ln_26, ln_27, ln_28, ln_29, ln_30, ln_31, ln_32, ln_33, ln_34, ln_35, ln_36, ln_37, ln_38, ln_39, ln_40, ln_41, ln_42, ln_43, ln_44, ln_45, ln_46, ln_47, ln_48, ln_49, lg_0, lg_1, lg_2, lg_3, lg_4, lz_0, lz_1, lz_2, lz_3, lz_4, lp_0, lp_1, lp_2, lp_3, lp_4, isL_n, isL_I, isL_R, g_5_0, g_5_2, g_6_0, g_6_1, g_6_2, g_8_0, g_8_2, rc_33_5, rc_33_8, rc_38_5, rc_38_8, List.length_cons, List.length_nil, Nat.reduceAdd, Nat.reduceLT, Nat.reduceLeDiff, true_and, and_true, true_or, or_true, Int.reduceEq, Nat.reduceEqDiff, reduceCtorEq, true_implies, false_implies, not_true_eq_false, not_false_eq_true, Nat.zero_le, Int.zero_add, Nat.zero_add, Nat.lt_add_one, eq_self, forall_const, implies_true, Bool.false_eq_true, false_or, or_false, and_self, ne_eq, me_ne, me_self, hf]
  refine c_33 h4 h5 ?_
  simp only [bq44_0, bq44_1, s_0, lgI_some, s_1I, s_3, s_5K, s_8, s_29, cnP_0, cnP_1, cnP_2, cnP_3, cnP_4, cnP_5, s_30, s_31, s_32, s_38, s_42, s_47, lgR_some, s_52, s_53, res_0, res_1, nlg_n, nlg_I, nlg_R, Bool.true_and, Bool.and_self, Bool.and_true, kd_9, kd_10, kd_11, kd_12, kd_13, kd_14, kd_15, kd_16, kd_17, kd_18, kd_19, kd_20, kd_21, kd_22, kd_23, kd_24, kd_25, kd_26, kd_27, kd_28, kd_29, kd_30, kd_31, kd_32, kd_33, kd_34, kd_35, kd_36, kd_37, kd_38, kd_39, kd_40, kd_41, kd_42, kd_43, kd_44, kd_45, kd_46, kd_47, kd_48, kd_49, ln_9, ln_10, ln_11, ln_12, ln_13, ln_14, ln_15, ln_16, ln_17, ln_18, ln_19, ln_20, ln_21, ln_22, ln_23, ln_24, ln_25, ln_26, ln_27, ln_28, ln_29, ln_30, ln_31, ln_32, ln_33, ln_34, ln_35, ln_36, ln_37, ln_38, ln_39, ln_40, ln_41, ln_42, ln_43, ln_44, ln_45, ln_46, ln_47, ln_48, ln_49, lg_0, lg_1, lg_2, lg_3, lg_4, lz_0, lz_1, lz_2, lz_3, lz_4, lp_0, lp_1, lp_2, lp_3, lp_4, isL_n, isL_I, isL_R, g_5_0, g_5_2, g_6_0, g_6_1, g_6_2, g_8_0, g_8_2, rc_33_5, rc_33_8, rc_38_5, rc_38_8, List.length_cons, List.length_nil, Nat.reduceAdd, Nat.reduceLT, Nat.reduceLeDiff, true_and, and_true, true_or, or_true, Int.reduceEq, Nat.reduceEqDiff, reduceCtorEq, true_implies, false_implies, not_true_eq_false, not_false_eq_true, Nat.zero_le, Int.zero_add, Nat.zero_add, Nat.lt_add_one, eq_self, forall_const, implies_true, Bool.false_eq_true, false_or, or_false, and_self, ne_eq, me_ne, me_self, wr8_o]
  refine l_44 hB hD hn H (101 - M 5 2).toNat _ _ _ (by omega) (Int.le_refl _) ?_ ?_ ?_
  · intro k q1 q2 q3 q4
    funext b
    rw [me_ne _ _ _ _ q4]
  · intro _
    refine ⟨me_self _ _ _ _, ?_⟩
    rw [show (M 5 2 - M 5 2).toNat = 0 by omega]
    rfl
  · intro h' c a1 a2
    omega
theorem c_44f (hf : M 6 2 ≠ 0) (H : Q 0 M) : Cl d 44 [vR 6, vR 1, vR 2, vR 5] M Q := by
  unfold Cl
  rw [en_44]
  simp only [bq44_0, bq44_1, s_0, lgI_some, s_1I, s_3, s_5K, s_8, s_29, cnP_0, cnP_1, cnP_2, cnP_3, cnP_4, cnP_5, s_30, s_31, s_32, s_38, s_42, s_47, lgR_some, s_52, s_53, res_0, res_1, nlg_n, nlg_I, nlg_R, Bool.true_and, Bool.and_self, Bool.and_true, kd_9, kd_10, kd_11, kd_12, kd_13, kd_14, kd_15, kd_16, kd_17, kd_18, kd_19, kd_20, kd_21, kd_22, kd_23, kd_24, kd_25, kd_26, kd_27, kd_28, kd_29, kd_30, kd_31, kd_32, kd_33, kd_34, kd_35, kd_36, kd_37, kd_38, kd_39, kd_40, kd_41, kd_42, kd_43, kd_44, kd_45, kd_46, kd_47, kd_48, kd_49, ln_9, ln_10, ln_11, ln_12, ln_13, ln_14, ln_15, ln_16, ln_17, ln_18, ln_19, ln_20, ln_21, ln_22, ln_23, ln_24, ln_25, ln_26, ln_27, ln_28, ln_29, ln_30, ln_31, ln_32, ln_33, ln_34, ln_35, ln_36, ln_37, ln_38, ln_39, ln_40, ln_41, ln_42, ln_43, ln_44, ln_45, ln_46, ln_47, ln_48, ln_49, lg_0, lg_1, lg_2, lg_3, lg_4, lz_0, lz_1, lz_2, lz_3, lz_4, lp_0, lp_1, lp_2, lp_3, lp_4, isL_n, isL_I, isL_R, g_5_0, g_5_2, g_6_0, g_6_1, g_6_2, g_8_0, g_8_2, rc_33_5, rc_33_8, rc_38_5, rc_38_8, List.length_cons, List.length_nil, Nat.reduceAdd, Nat.reduceLT, Nat.reduceLeDiff, true_and, and_true, true_or, or_true, Int.reduceEq, Nat.reduceEqDiff, reduceCtorEq, true_implies, false_implies, not_true_eq_false, not_false_eq_true, Nat.zero_le, Int.zero_add, Nat.zero_add, Nat.lt_add_one, eq_self, forall_const, implies_true, Bool.false_eq_true, false_or, or_false, and_self, ne_eq, me_ne, me_self, hf]
  exact H
end C44

/-! the reference's hour -/
def IvL (M : Me) : Prop := (M 51 = M 9 ∧ M 52 = M 10 ∧ M 53 = M 11 ∧ M 54 = M 12 ∧ M 55 = M 13 ∧ M 56 = M 14 ∧ M 57 = M 16) ∧ (M 58 = M 17 ∧ M 59 = M 18 ∧ M 60 = M 19 ∧ M 61 = M 20 ∧ M 62 = M 21 ∧ M 63 = M 23 ∧ M 64 = M 22) ∧ (M 66 = M 33 ∧ M 67 = M 34 ∧ M 68 = M 35) ∧ (M 69 = M 25 ∧ M 70 = M 26 ∧ M 71 = M 27 ∧ M 72 = M 28) ∧ (M 50 0 = M 5 2 ∧ M 50 1 = M 1 8 ∧ M 50 9 = M 2 8 ∧ M 50 18 = M 0 7 ∧ M 50 19 = M 4 3 ∧ M 50 23 = M 3 8)
def IvK (M : Me) : Prop := (M 51 = M 9 ∧ M 52 = M 10 ∧ M 53 = M 11 ∧ M 54 = M 12 ∧ M 55 = M 13 ∧ M 56 = M 14 ∧ M 57 = M 16) ∧ (M 58 = M 17 ∧ M 59 = M 18 ∧ M 60 = M 19 ∧ M 61 = M 20 ∧ M 62 = M 21 ∧ M 63 = M 23 ∧ M 64 = M 22) ∧ (M 66 = M 33 ∧ M 67 = M 34 ∧ M 68 = M 35) ∧ (M 69 = M 25 ∧ M 70 = M 26 ∧ M 71 = M 27 ∧ M 72 = M 28) ∧ (True ∧ M 50 1 = M 1 8 ∧ M 50 9 = M 2 8 ∧ M 50 18 = M 0 7 ∧ M 50 19 = M 4 3 ∧ M 50 23 = M 3 8)
theorem IvL_K {M : Me} (h : IvL M) : IvK M := ⟨h.1, h.2.1, h.2.2.1, h.2.2.2.1, trivial, h.2.2.2.2.2⟩
def wq (o : Int) (M : Me) (s : HS) : Me := fun a b => if a = 73 ∧ 10 * o ≤ b ∧ b < 10 * o + 10 then s.1 (b - 10 * o) else if a = 74 ∧ 12 * o ≤ b ∧ b < 12 * o + 12 then s.2.1 (b - 12 * o) else if a = 75 ∧ b = o then s.2.2.1 else if a = 76 ∧ b = o then w64 s.2.2.2.1 else if a = 77 ∧ b = o then w64 s.2.2.2.2 else M a b
theorem w64_al (x y : Int) : w64 (w64 x + y) = w64 (x + y) := by
  unfold w64; exact Int.bmod_add_bmod
/-- alike but for the bags under way -/
theorem hIn_a0 {K M : Me} (e : ∀ k, k ≠ 24 → K k = M k) : hIn K = hIn M := by
  funext h s; unfold hIn; rw [e 1 (by decide), e 15 (by decide), e 16 (by decide)]
theorem hPs_a0 {K M : Me} (e : ∀ k, k ≠ 24 → K k = M k) : hPs K = hPs M := by
  funext i s; unfold hPs hpg; rw [e 1 (by decide), e 15 (by decide), e 12 (by decide)]
theorem hPd_a0 {K M : Me} (e : ∀ k, k ≠ 24 → K k = M k) : hPd K = hPd M := by
  funext n
  induction n with
  | zero => rfl
  | succ n ih => funext s; simp only [hPd]; rw [ih, hPs_a0 e]
theorem hOv_a0 {K M : Me} (e : ∀ k, k ≠ 24 → K k = M k) : hOv K = hOv M := by
  funext h k s; unfold hOv hO1 htp hlv hbr; rw [e 10 (by decide), e 11 (by decide), e 17 (by decide), e 18 (by decide), e 19 (by decide), e 20 (by decide), e 22 (by decide), e 23 (by decide)]
theorem hOd_a0 {K M : Me} (e : ∀ k, k ≠ 24 → K k = M k) : hOd K = hOd M := by
  funext h n
  induction n with
  | zero => rfl
  | succ n ih => funext k s; simp only [hOd]; rw [ih, hOv_a0 e]
theorem hF_a0 {K M : Me} (e : ∀ k, k ≠ 24 → K k = M k) (h : Int) (s : HS) : hF K h s = hOd M h (M 2 8).toNat 0 (hLd K h (M 2 8).toNat 0 (hPd M (M 1 9).toNat (hIn M h s))) := by
  unfold hF; rw [hIn_a0 e, hPd_a0 e, hOd_a0 e, e 2 (by decide), e 1 (by decide)]
section HR
variable {d : Nat} {o : Int} {M : Me} {s : HS} {Q : Int → Me → Prop}
theorem wq_f {k : Nat} (h1 : k ≠ 73) (h2 : k ≠ 74) (h3 : k ≠ 75) (h4 : k ≠ 76) (h5 : k ≠ 77) : wq o M s k = M k := by
  funext b; simp [wq, h1, h2, h3, h4, h5]
theorem wq_o {k : Nat} {b : Int} (h1 : k ≠ 73) (h2 : k ≠ 74) (h3 : k ≠ 75) (h4 : k ≠ 76) (h5 : k ≠ 77) : wq o M s k b = M k b := by
  rw [wq_f h1 h2 h3 h4 h5]
theorem wq_w {b : Int} (h0 : 0 ≤ b) (h1 : b < 10) : wq o M s 73 (10 * o + b) = s.1 b := by
  unfold wq
  rw [if_pos ⟨rfl, by omega, by omega⟩, show 10 * o + b - 10 * o = b by omega]
theorem wq_b {b : Int} (h0 : 0 ≤ b) (h1 : b < 12) : wq o M s 74 (12 * o + b) = s.2.1 b := by
  unfold wq
  rw [if_neg (by omega), if_pos ⟨rfl, by omega, by omega⟩, show 12 * o + b - 12 * o = b by omega]
theorem wq_5 : wq o M s 75 o = s.2.2.1 := by simp [wq]
theorem wq_6 : wq o M s 76 o = w64 s.2.2.2.1 := by simp [wq]
theorem wq_7 : wq o M s 77 o = w64 s.2.2.2.2 := by simp [wq]
theorem wqp_w {i v : Int} (h0 : 0 ≤ i) (h1 : i < 10) : me_put (wq o M s) 73 (10 * o + i) v = wq o M (fu s.1 i v, s.2) := by
  funext a b
  simp only [me_put, wq, fu]
  by_cases h : a = 73
  · subst h
    by_cases q : b = 10 * o + i
    · subst q
      rw [if_pos ⟨rfl, rfl⟩, if_pos ⟨rfl, by omega, by omega⟩, if_pos (by omega)]
    · rw [if_neg (fun z => q z.2)]
      by_cases q2 : 10 * o ≤ b ∧ b < 10 * o + 10
      · have : ¬ b - 10 * o = i := by omega
        simp [q2, this]
      · simp [q2]
  · simp [h]
theorem wqp_b {i v : Int} (h0 : 0 ≤ i) (h1 : i < 12) : me_put (wq o M s) 74 (12 * o + i) v = wq o M (s.1, fu s.2.1 i v, s.2.2) := by
  funext a b
  simp only [me_put, wq, fu]
  by_cases h : a = 74
  · subst h
    by_cases q : b = 12 * o + i
    · subst q
      rw [if_pos ⟨rfl, rfl⟩, if_neg (by omega), if_pos ⟨rfl, by omega, by omega⟩, if_pos (by omega)]
    · rw [if_neg (fun z => q z.2)]
      by_cases q2 : 12 * o ≤ b ∧ b < 12 * o + 12
      · have : ¬ b - 12 * o = i := by omega
        simp [q2, this]
      · simp [q2]
  · simp [h]
theorem wqp_5 {v : Int} : me_put (wq o M s) 75 o v = wq o M (s.1, s.2.1, v, s.2.2.2) := by
  funext a b
  simp only [me_put, wq]
  by_cases h : a = 75
  · subst h; by_cases h : b = o
    · subst h; simp
    · simp [h]
  · simp [h]
theorem wqp_6 {x : Int} : me_put (wq o M s) 76 o (w64 x) = wq o M (s.1, s.2.1, s.2.2.1, x, s.2.2.2.2) := by
  funext a b
  simp only [me_put, wq]
  by_cases h : a = 76
  · subst h; by_cases h : b = o
    · subst h; simp
    · simp [h]
  · simp [h]
theorem wqp_7 {x : Int} : me_put (wq o M s) 77 o (w64 x) = wq o M (s.1, s.2.1, s.2.2.1, s.2.2.2.1, x) := by
  funext a b
  simp only [me_put, wq]
  by_cases h : a = 77
  · subst h; by_cases h : b = o
    · subst h; simp
    · simp [h]
  · simp [h]
theorem ix10 {b : Int} (ho0 : 0 ≤ o) (ho1 : o ≤ 1) (h0 : 0 ≤ b) (h1 : b < 10) : w32 (w32 (10 * o) + b) = 10 * o + b := by
  rw [w32_id (x := 10 * o) (by omega) (by omega), w32_id (by omega) (by omega)]
theorem ix12 {b : Int} (ho0 : 0 ≤ o) (ho1 : o ≤ 1) (h0 : 0 ≤ b) (h1 : b < 12) : w32 (w32 (12 * o) + b) = 12 * o + b := by
  rw [w32_id (x := 12 * o) (by omega) (by omega), w32_id (by omega) (by omega)]
theorem ix101 {k h : Int} (h0 : 0 ≤ k) (h1 : k < 12) (h2 : 0 ≤ h) (h3 : h ≤ 100) : w32 (w32 (101 * k) + h) = 101 * k + h := by
  rw [w32_id (x := 101 * k) (by omega) (by omega), w32_id (by omega) (by omega)]
theorem bd20 {b : Int} (ho0 : 0 ≤ o) (ho1 : o ≤ 1) (h0 : 0 ≤ b) (h1 : b < 10) : (0 ≤ 10 * o + b ∧ 10 * o + b < 20) = True := eq_true ⟨by omega, by omega⟩
theorem bd24 {b : Int} (ho0 : 0 ≤ o) (ho1 : o ≤ 1) (h0 : 0 ≤ b) (h1 : b < 12) : (0 ≤ 12 * o + b ∧ 12 * o + b < 24) = True := eq_true ⟨by omega, by omega⟩
theorem q_103 {b : Int} (hL : IvK M) (ho0 : 0 ≤ o) (ho1 : o ≤ 1) (h0 : 0 ≤ b) (h1 : b < 10) (ha : 1 ≤ M 10 b) : Cl d 103 [vR 50, vI o, vI b] (wq o M s) Q = Q (hlv M s b) (wq o M s) := by
  unfold Cl
  rw [en_103]
  simp only [bq103_0, s_0, lgI_some, s_3, s_6, s_8, s_13, s_24, s_37i, s_37z, s_47, lgR_some, kd_51, kd_52, kd_53, kd_54, kd_55, kd_56, kd_57, kd_58, kd_59, kd_60, kd_61, kd_62, kd_63, kd_64, kd_65, kd_66, kd_67, kd_68, kd_69, kd_70, kd_71, kd_72, kd_73, kd_74, kd_75, kd_76, kd_77, kd_78, kd_79, kd_80, kd_81, kd_82, kd_83, kd_84, kd_85, ln_51, ln_52, ln_53, ln_54, ln_55, ln_56, ln_57, ln_58, ln_59, ln_60, ln_61, ln_62, ln_63, ln_64, ln_65, ln_66, ln_67, ln_68, ln_69, ln_70, ln_71, ln_72, ln_73, ln_74, ln_75, ln_76, ln_77, ln_78, ln_79, ln_80, ln_81, ln_82, ln_83, ln_84, ln_85, lg_0, lg_1, lg_2, g_50_28, g_50_3, g_50_4, List.length_cons, List.length_nil, Nat.reduceAdd, Nat.reduceLT, Nat.reduceLeDiff, true_and, and_true, true_or, or_true, Int.reduceEq, Nat.reduceEqDiff, reduceCtorEq, true_implies, false_implies, not_true_eq_false, not_false_eq_true, Nat.zero_le, Int.zero_add, Nat.zero_add, Nat.lt_add_one, eq_self, forall_const, implies_true, Bool.false_eq_true, false_or, or_false, and_self, ne_eq, me_ne, me_self, wq_o, ix10 ho0 ho1 h0 h1, bd20 ho0 ho1 h0 h1, wq_w h0 h1, h0, h1, hL.1.2.1, hL.1.2.2.1, show ¬ M 10 b = 0 by omega]
  rfl
theorem q_104 {k h : Int} (hL : IvK M) (ho0 : 0 ≤ o) (ho1 : o ≤ 1) (h0 : 0 ≤ k) (h1 : k < 12) : Cl (d + 1) 104 [vR 50, vI o, vI k, vI h] (wq o M s) Q = Q (htp M h s k) (wq o M s) := by
  unfold Cl
  rw [en_104]
  simp only [bq104_0, bq104_1, bq104_2, s_0, lgI_some, s_3, s_6, s_8, s_13, s_24, s_29, cnP_0, cnP_1, cnP_2, cnP_3, cnP_4, cnP_5, s_31, s_32, s_37i, s_37z, s_47, lgR_some, s_53, res_0, res_1, nlg_n, nlg_I, nlg_R, Bool.true_and, Bool.and_self, Bool.and_true, kd_51, kd_52, kd_53, kd_54, kd_55, kd_56, kd_57, kd_58, kd_59, kd_60, kd_61, kd_62, kd_63, kd_64, kd_65, kd_66, kd_67, kd_68, kd_69, kd_70, kd_71, kd_72, kd_73, kd_74, kd_75, kd_76, kd_77, kd_78, kd_79, kd_80, kd_81, kd_82, kd_83, kd_84, kd_85, ln_51, ln_52, ln_53, ln_54, ln_55, ln_56, ln_57, ln_58, ln_59, ln_60, ln_61, ln_62, ln_63, ln_64, ln_65, ln_66, ln_67, ln_68, ln_69, ln_70, ln_71, ln_72, ln_73, ln_74, ln_75, ln_76, ln_77, ln_78, ln_79, ln_80, ln_81, ln_82, ln_83, ln_84, ln_85, lg_0, lg_1, lg_2, lg_3, g_50_12, g_50_16, g_50_29, rc_93_50, List.length_cons, List.length_nil, Nat.reduceAdd, Nat.reduceLT, Nat.reduceLeDiff, true_and, and_true, true_or, or_true, Int.reduceEq, Nat.reduceEqDiff, reduceCtorEq, true_implies, false_implies, not_true_eq_false, not_false_eq_true, Nat.zero_le, Int.zero_add, Nat.zero_add, Nat.lt_add_one, eq_self, forall_const, implies_true, Bool.false_eq_true, false_or, or_false, and_self, ne_eq, me_ne, me_self, wq_o, ix12 ho0 ho1 h0 h1, bd24 ho0 ho1 h0 h1, wq_b h0 h1, q_93 h0 h1, h0, h1, b01_z, Classical.not_not, hL.2.1.2.2.1, hL.2.1.2.2.2.2.2.1, hL.2.1.2.2.2.2.2.2]
  unfold htp hbr
  by_cases q : ¬M 23 k = -1 ∧ M 23 k ≤ h
  · simp only [q, not_true_eq_false, false_implies, true_implies, true_and, if_true, not_false_eq_true, and_self]
  · simp only [q, not_true_eq_false, false_implies, true_implies, true_and, and_true, if_false, not_false_eq_true]
theorem hOv_1 {h k : Int} (q : hlv M s (M 17 k) ≤ hlv M s (M 18 k)) (h0 : 0 ≤ hlv M s (M 17 k)) (hD : IvD M) : hOv M h k s = hO1 M h k (M 18 k) (M 17 k) s := by
  unfold hOv
  by_cases z : hlv M s (M 18 k) ≤ hlv M s (M 17 k)
  · rw [if_pos z]
    have e : hlv M s (M 18 k) = hlv M s (M 17 k) := by omega
    have c := htp_bd (K := M) (h := h) (k := k) (s := s) hD
    unfold hO1
    rw [e]
    have f : hlv M s (M 17 k) < 2147483648 := (w32_bd _).2
    have : hhd (hlv M s (M 17 k)) (hlv M s (M 17 k)) (htp M h s k) ≤ 0 := by
      unfold hhd
      generalize hlv M s (M 17 k) = x at *
      generalize htp M h s k = y at *
      split <;> rw [w32_id (by omega) (by omega)] <;> omega
    rw [if_pos this, if_pos this]
  · rw [if_neg z]
theorem hOv_2 {h k : Int} (q : ¬ hlv M s (M 17 k) ≤ hlv M s (M 18 k)) : hOv M h k s = hO1 M h k (M 17 k) (M 18 k) s := by
  unfold hOv
  rw [if_pos (by omega)]
theorem ov_leaf (P : Int → Prop) {R : Prop} {wd hd hd' ar wu : Int} (e : hd' = hd) (h1 : ¬ hd ≤ 0 → P (hgo wd hd ar wu)) (h2 : hd ≤ 0 → R) :
    (0 < hd' → (w64 (wd * hd') ≤ w64 ((w64 (hd' * ar)).tdiv 2) → (w64 (wd * hd') ≤ wu → P (w32 (w64 (wd * hd')))) ∧ (¬ w64 (wd * hd') ≤ wu → P (w32 wu))) ∧ (¬ w64 (wd * hd') ≤ w64 ((w64 (hd' * ar)).tdiv 2) → (w64 ((w64 (hd' * ar)).tdiv 2) ≤ wu → P (w32 (w64 ((w64 (hd' * ar)).tdiv 2)))) ∧ (¬ w64 ((w64 (hd' * ar)).tdiv 2) ≤ wu → P (w32 wu)))) ∧ (¬ 0 < hd' → R) := by
  subst e
  refine ⟨fun q => ⟨fun q2 => ⟨fun q3 => ?_, fun q3 => ?_⟩, fun q2 => ⟨fun q3 => ?_, fun q3 => ?_⟩⟩, fun q => h2 (by omega)⟩
  all_goals
    have H := h1 (by omega)
    unfold hgo at H
    generalize w64 (wd * hd') = f at *
    generalize w64 ((w64 (hd' * ar)).tdiv 2) = g at *
  · rwa [if_neg (show ¬ g < f by omega), if_neg (show ¬ wu < f by omega)] at H
  · rwa [if_neg (show ¬ g < f by omega), if_pos (show wu < f by omega)] at H
  · rwa [if_pos (show g < f by omega), if_neg (show ¬ wu < g by omega)] at H
  · rwa [if_pos (show g < f by omega), if_pos (show wu < g by omega)] at H
theorem c_106 {k h B : Int} (hL : IvK M) (hB : IvB M) (hD : IvD M) (hb : B ≤ 1000000000) (hP' : hP B s) (ho0 : 0 ≤ o) (ho1 : o ≤ 1) (h0 : 0 ≤ k) (h1 : k < M 2 8) (H : Q 0 (wq o M (hOv M h k s))) : Cl (d + 2) 106 [vR 50, vI o, vI k, vI h] (wq o M s) Q := by
  have g := hD.2.1 k h0 h1
  have e := hD.1
  have f := hB.1
  have a1 := hB.2.2.2.1 _ g.1.1 g.1.2
  have a2 := hB.2.2.2.1 _ g.2.1.1 g.2.1.2
  have h1' : k < 12 := by omega
  have x1 : M 17 k < 10 := by omega
  have x2 : M 18 k < 10 := by omega
  unfold Cl
  rw [en_106]
  simp only [bq106_0, bq106_1, bq106_2, bq106_3, bq106_4, bq106_5, bq106_6, bq106_7, bq106_8, bq106_9, s_0, lgI_some, s_1I, s_2, s_3, s_4, s_6, s_7, s_8, s_16, s_17, s_19, s_20, s_21, s_24, s_25, s_29, cnP_0, cnP_1, cnP_2, cnP_3, cnP_4, cnP_5, s_30, s_31, s_32, s_34, s_38, s_47, lgR_some, s_48, lgL_some, s_53, s_54, res_0, res_1, nlg_n, nlg_I, nlg_R, Bool.true_and, Bool.and_self, Bool.and_true, kd_51, kd_52, kd_53, kd_54, kd_55, kd_56, kd_57, kd_58, kd_59, kd_60, kd_61, kd_62, kd_63, kd_64, kd_65, kd_66, kd_67, kd_68, kd_69, kd_70, kd_71, kd_72, kd_73, kd_74, kd_75, kd_76, kd_77, kd_78, kd_79, kd_80, kd_81, kd_82, kd_83, kd_84, kd_85, ln_51, ln_52, ln_53, ln_54, ln_55, ln_56, ln_57, ln_58, ln_59, ln_60, ln_61, ln_62, ln_63, ln_64, ln_65, ln_66, ln_67, ln_68, ln_69, ln_70, ln_71, ln_72, ln_73, ln_74, ln_75, ln_76, ln_77, ln_78, ln_79, ln_80, ln_81, ln_82, ln_83, ln_84, ln_85, lg_0, lg_1, lg_2, lg_3, lg_4, lg_5, lg_6, lg_7, lg_8, lg_9, lg_10, lg_11, lg_12, lg_13, lg_14, lz_0, lz_1, lz_2, lz_3, lz_4, lz_5, lz_6, lz_7, lz_8, lz_9, lz_10, lz_11, lz_12, lz_13, lz_14, lp_0, lp_1, lp_2, lp_3, lp_4, lp_5, lp_6, lp_7, lp_8, lp_9, lp_10, lp_11, lp_12, lp_13, lp_14, isL_n, isL_I, isL_R, ly_0, ly_1, ly_2, ly_3, ly_4, ly_5, ly_6, ly_7, ly_8, ly_9, ly_10, ly_11, ly_12, ly_13, ly_14, g_50_10, g_50_11, g_50_13, g_50_28, g_50_3, rc_103_50, rc_104_50, List.length_cons, List.length_nil, Nat.reduceAdd, Nat.reduceLT, Nat.reduceLeDiff, true_and, and_true, true_or, or_true, Int.reduceEq, Nat.reduceEqDiff, reduceCtorEq, true_implies, false_implies, not_true_eq_false, not_false_eq_true, Nat.zero_le, Int.zero_add, Nat.zero_add, Nat.lt_add_one, eq_self, forall_const, implies_true, Bool.false_eq_true, false_or, or_false, and_self, ne_eq, me_ne, me_self, wq_o, ix10 ho0 ho1 g.1.1 x1, ix10 ho0 ho1 g.2.1.1 x2, bd20 ho0 ho1 g.1.1 x1, bd20 ho0 ho1 g.2.1.1 x2, wq_w g.1.1 x1, wq_w g.2.1.1 x2, wqp_w g.1.1 x1, wqp_w g.2.1.1 x2, q_103 hL ho0 ho1 g.1.1 x1 a1.1.1, q_103 hL ho0 ho1 g.2.1.1 x2 a2.1.1, q_104 hL ho0 ho1 h0 h1', h0, h1', lc_ge, g.1.1, g.2.1.1, x1, x2, hL.1.2.1, hL.2.1.1, hL.2.1.2.1, hL.2.1.2.2.2.1, g.2.2.1, Ne.symm g.2.2.1]
  have lv := hlv_bd hB hb hP' g.1.1 g.1.2
  refine ⟨fun q => ?_, fun q => ?_⟩
  · rw [hOv_1 q lv.1 hD] at H
    unfold hO1 at H
    refine ⟨fun q2 => ?_, fun q2 => ?_⟩
    · refine ov_leaf (fun x => Q 0 (wq o M (fu (fu s.1 (M 18 k) (w32 (s.1 (M 18 k) - x))) (M 17 k) (w32 (fu s.1 (M 18 k) (w32 (s.1 (M 18 k) - x)) (M 17 k) + x)), s.2))) (hd := hhd (hlv M s (M 18 k)) (hlv M s (M 17 k)) (htp M h s k)) (by unfold hhd; split <;> first | rfl | (congr 2; omega)) (fun z => ?_) (fun z => ?_)
      · rwa [if_neg z] at H
      · rwa [if_pos z] at H
    · refine ov_leaf (fun x => Q 0 (wq o M (fu (fu s.1 (M 18 k) (w32 (s.1 (M 18 k) - x))) (M 17 k) (w32 (fu s.1 (M 18 k) (w32 (s.1 (M 18 k) - x)) (M 17 k) + x)), s.2))) (hd := hhd (hlv M s (M 18 k)) (hlv M s (M 17 k)) (htp M h s k)) (by unfold hhd; rw [if_neg (by omega)]) (fun z => ?_) (fun z => ?_)
      · rwa [if_neg z] at H
      · rwa [if_pos z] at H
  · rw [hOv_2 q] at H
    unfold hO1 at H
    refine ⟨fun q2 => ?_, fun q2 => ?_⟩
    · refine ov_leaf (fun x => Q 0 (wq o M (fu (fu s.1 (M 17 k) (w32 (s.1 (M 17 k) - x))) (M 18 k) (w32 (fu s.1 (M 17 k) (w32 (s.1 (M 17 k) - x)) (M 18 k) + x)), s.2))) (hd := hhd (hlv M s (M 17 k)) (hlv M s (M 18 k)) (htp M h s k)) (by unfold hhd; split <;> first | rfl | (congr 2; omega)) (fun z => ?_) (fun z => ?_)
      · rwa [if_neg z] at H
      · rwa [if_pos z] at H
    · refine ov_leaf (fun x => Q 0 (wq o M (fu (fu s.1 (M 17 k) (w32 (s.1 (M 17 k) - x))) (M 18 k) (w32 (fu s.1 (M 17 k) (w32 (s.1 (M 17 k) - x)) (M 18 k) + x)), s.2))) (hd := hhd (hlv M s (M 17 k)) (hlv M s (M 18 k)) (htp M h s k)) (by unfold hhd; rw [if_neg (by omega)]) (fun z => ?_) (fun z => ?_)
      · rwa [if_neg z] at H
      · rwa [if_pos z] at H
/-- the dikes' loop -/
theorem l_105d {h B : Int} (hL : IvK M) (hB : IvB M) (hD : IvD M) (hb : B ≤ 1000000000) (ho0 : 0 ≤ o) (ho1 : o ≤ 1) : ∀ (n : Nat) (s : HS) (k c e : Int) (z : Option AV), 0 ≤ k → k + (n : Int) = M 2 8 → hP B s → Q 0 (wq o M (hOd M h n k s)) → Rn (d + 3) (blk 105 14) 105 [some (vR 50), some (vI o), some (vI h), some (vI c), some (vI e), some (vI k), z] [] (wq o M s) Q := by
  intro n
  induction n with
  | zero =>
    intro s k c e' z h0 hn _ H
    rw [bq105_14]
    simp only [bq105_15, s_0, lgI_some, s_5K, s_30, cnP_0, cnP_1, cnP_2, cnP_3, cnP_4, cnP_5, s_31, s_38, s_47, lgR_some, s_54, res_0, res_1, nlg_n, nlg_I, nlg_R, Bool.true_and, Bool.and_self, Bool.and_true, lg_0, lg_1, lg_2, lg_3, lg_4, lg_5, lg_6, lz_0, lz_1, lz_2, lz_3, lz_4, lz_5, lz_6, lp_0, lp_1, lp_2, lp_3, lp_4, lp_5, lp_6, isL_n, isL_I, isL_R, g_50_9, rc_106_50, List.length_cons, List.length_nil, Nat.reduceAdd, Nat.reduceLT, Nat.reduceLeDiff, true_and, and_true, true_or, or_true, Int.reduceEq, Nat.reduceEqDiff, reduceCtorEq, true_implies, false_implies, not_true_eq_false, not_false_eq_true, Nat.zero_le, Int.zero_add, Nat.zero_add, Nat.lt_add_one, eq_self, forall_const, implies_true, Bool.false_eq_true, false_or, or_false, and_self, ne_eq, me_ne, me_self, wq_o, hL.2.2.2.2.2.2.1, show M 2 8 ≤ k by omega]
    exact H
  | succ n ih =>
    intro s k c e' z h0 hn hp H
    have e := hD.1
    rw [bq105_14]
    simp only [bq105_15, s_0, lgI_some, s_5K, s_30, cnP_0, cnP_1, cnP_2, cnP_3, cnP_4, cnP_5, s_31, s_38, s_47, lgR_some, s_54, res_0, res_1, nlg_n, nlg_I, nlg_R, Bool.true_and, Bool.and_self, Bool.and_true, lg_0, lg_1, lg_2, lg_3, lg_4, lg_5, lg_6, lz_0, lz_1, lz_2, lz_3, lz_4, lz_5, lz_6, lp_0, lp_1, lp_2, lp_3, lp_4, lp_5, lp_6, isL_n, isL_I, isL_R, g_50_9, rc_106_50, List.length_cons, List.length_nil, Nat.reduceAdd, Nat.reduceLT, Nat.reduceLeDiff, true_and, and_true, true_or, or_true, Int.reduceEq, Nat.reduceEqDiff, reduceCtorEq, true_implies, false_implies, not_true_eq_false, not_false_eq_true, Nat.zero_le, Int.zero_add, Nat.zero_add, Nat.lt_add_one, eq_self, forall_const, implies_true, Bool.false_eq_true, false_or, or_false, and_self, ne_eq, me_ne, me_self, wq_o, hL.2.2.2.2.2.2.1, show ¬ M 2 8 ≤ k by omega, show w32 (k + 1) = k + 1 from w32_id (by omega) (by omega)]
    refine c_106 hL hB hD hb hp ho0 ho1 h0 (by omega) ?_
    exact ih _ _ _ _ _ (by omega) (by omega) (hP_ov hB hD hb ⟨h0, by omega⟩ hp) H
/-- the bags' loop -/
theorem l_105c {K : Me} (eK : ∀ k, k ≠ 24 → K k = M k) {h B : Int} (hL : IvK M) (hB : IvB M) (hD : IvD M) (hb : B ≤ 1000000000) (ho0 : 0 ≤ o) (ho1 : o ≤ 1) (hh : 0 ≤ h ∧ h < 100) (hC : ∀ k, 0 ≤ k → k < 12 → M 65 (101 * k + h) = K 24 (k * 100 + h)) : ∀ (n : Nat) (s : HS) (k c e : Int) (z : Option AV), 0 ≤ k → k + (n : Int) = M 2 8 → hP B s → Q 0 (wq o M (hOd M h (M 2 8).toNat 0 (hLd K h n k s))) → Rn (d + 3) (blk 105 10) 105 [some (vR 50), some (vI o), some (vI h), some (vI c), some (vI e), some (vI k), z] [] (wq o M s) Q := by
  intro n
  induction n with
  | zero =>
    intro s k c e' z h0 hn hp H
    rw [bq105_10]
    simp only [bq105_11, bq105_12, bq105_13, s_0, lgI_some, s_1I, s_3, s_5K, s_6, s_8, s_24, s_25, s_29, cnP_0, cnP_1, cnP_2, cnP_3, cnP_4, cnP_5, s_30, s_31, s_32, s_34, s_47, lgR_some, s_53, s_54, res_0, res_1, nlg_n, nlg_I, nlg_R, Bool.true_and, Bool.and_self, Bool.and_true, kd_51, kd_52, kd_53, kd_54, kd_55, kd_56, kd_57, kd_58, kd_59, kd_60, kd_61, kd_62, kd_63, kd_64, kd_65, kd_66, kd_67, kd_68, kd_69, kd_70, kd_71, kd_72, kd_73, kd_74, kd_75, kd_76, kd_77, kd_78, kd_79, kd_80, kd_81, kd_82, kd_83, kd_84, kd_85, ln_51, ln_52, ln_53, ln_54, ln_55, ln_56, ln_57, ln_58, ln_59, ln_60, ln_61, ln_62, ln_63, ln_64, ln_65, ln_66, ln_67, ln_68, ln_69, ln_70, ln_71, ln_72, ln_73, ln_74, ln_75, ln_76, ln_77, ln_78, ln_79, ln_80, ln_81, ln_82, ln_83, ln_84, ln_85, lg_0, lg_1, lg_2, lg_3, lg_4, lg_5, lg_6, lz_0, lz_1, lz_2, lz_3, lz_4, lz_5, lz_6, lp_0, lp_1, lp_2, lp_3, lp_4, lp_5, lp_6, isL_n, isL_I, isL_R, g_50_17, g_50_29, g_50_30, g_50_9, rc_106_50, rc_93_50, List.length_cons, List.length_nil, Nat.reduceAdd, Nat.reduceLT, Nat.reduceLeDiff, true_and, and_true, true_or, or_true, Int.reduceEq, Nat.reduceEqDiff, reduceCtorEq, true_implies, false_implies, not_true_eq_false, not_false_eq_true, Nat.zero_le, Int.zero_add, Nat.zero_add, Nat.lt_add_one, eq_self, forall_const, implies_true, Bool.false_eq_true, false_or, or_false, and_self, ne_eq, me_ne, me_self, wq_o, hL.2.2.2.2.2.2.1, show M 2 8 ≤ k by omega]
    exact l_105d hL hB hD hb ho0 ho1 _ _ _ _ _ _ (Int.le_refl 0) (by have := hD.1; omega) hp H
  | succ n ih =>
    intro s k c e' z h0 hn hp H
    have e := hD.1
    have h1 : k < 12 := by omega
    rw [bq105_10]
    simp only [bq105_11, bq105_12, bq105_13, s_0, lgI_some, s_1I, s_3, s_5K, s_6, s_8, s_24, s_25, s_29, cnP_0, cnP_1, cnP_2, cnP_3, cnP_4, cnP_5, s_30, s_31, s_32, s_34, s_47, lgR_some, s_53, s_54, res_0, res_1, nlg_n, nlg_I, nlg_R, Bool.true_and, Bool.and_self, Bool.and_true, kd_51, kd_52, kd_53, kd_54, kd_55, kd_56, kd_57, kd_58, kd_59, kd_60, kd_61, kd_62, kd_63, kd_64, kd_65, kd_66, kd_67, kd_68, kd_69, kd_70, kd_71, kd_72, kd_73, kd_74, kd_75, kd_76, kd_77, kd_78, kd_79, kd_80, kd_81, kd_82, kd_83, kd_84, kd_85, ln_51, ln_52, ln_53, ln_54, ln_55, ln_56, ln_57, ln_58, ln_59, ln_60, ln_61, ln_62, ln_63, ln_64, ln_65, ln_66, ln_67, ln_68, ln_69, ln_70, ln_71, ln_72, ln_73, ln_74, ln_75, ln_76, ln_77, ln_78, ln_79, ln_80, ln_81, ln_82, ln_83, ln_84, ln_85, lg_0, lg_1, lg_2, lg_3, lg_4, lg_5, lg_6, lz_0, lz_1, lz_2, lz_3, lz_4, lz_5, lz_6, lp_0, lp_1, lp_2, lp_3, lp_4, lp_5, lp_6, isL_n, isL_I, isL_R, g_50_17, g_50_29, g_50_30, g_50_9, rc_106_50, rc_93_50, List.length_cons, List.length_nil, Nat.reduceAdd, Nat.reduceLT, Nat.reduceLeDiff, true_and, and_true, true_or, or_true, Int.reduceEq, Nat.reduceEqDiff, reduceCtorEq, true_implies, false_implies, not_true_eq_false, not_false_eq_true, Nat.zero_le, Int.zero_add, Nat.zero_add, Nat.lt_add_one, eq_self, forall_const, implies_true, Bool.false_eq_true, false_or, or_false, and_self, ne_eq, me_ne, me_self, wq_o, wq_b h0 h1, wqp_b h0 h1, wq_5, wqp_5, fu_s, fu_fu, ix12 ho0 ho1 h0 h1, bd24 ho0 ho1 h0 h1, ix101 h0 h1 hh.1 (show h ≤ 100 by omega), hC k h0 h1, q_93 h0 h1, hL.2.1.2.2.2.2.2.1, hL.2.2.2.2.2.2.1, show ¬ M 2 8 ≤ k by omega, show w32 (k + 1) = k + 1 from w32_id (by omega) (by omega), b01_z, Classical.not_not, ho0, show o < 2 by omega]
    have H : Q 0 (wq o M (hOd M h (M 2 8).toNat 0 (hLd K h n (k + 1) (hLa K h k s)))) := H
    unfold hLa hbr at H
    rw [eK 23 (by decide)] at H
    refine ⟨⟨by omega, by omega⟩, fun q => ?_, fun q => ?_⟩
    · rw [if_pos q] at H
      exact ih _ _ _ _ _ (by omega) (by omega) hp H
    · rw [if_neg q] at H
      exact ih _ _ _ _ _ (by omega) (by omega) hp H
/-- the stretches' loop -/
theorem l_105b {K : Me} (eK : ∀ k, k ≠ 24 → K k = M k) {h B : Int} (hL : IvK M) (hB : IvB M) (hD : IvD M) (hb : B ≤ 1000000000) (ho0 : 0 ≤ o) (ho1 : o ≤ 1) (hh : 0 ≤ h ∧ h < 100) (hC : ∀ k, 0 ≤ k → k < 12 → M 65 (101 * k + h) = K 24 (k * 100 + h)) : ∀ (n : Nat) (s : HS) (b c e : Int) (z : Option AV), b = (n : Int) - 1 → (n : Int) ≤ M 1 8 → (e = if rk (M 9) n = M 1 9 then -1 else M 15 (rk (M 9) n)) → hP B s → Q 0 (wq o M (hOd M h (M 2 8).toNat 0 (hLd K h (M 2 8).toNat 0 (hPd M (rk (M 9) n).toNat s)))) → Rn (d + 3) (blk 105 4) 105 [some (vR 50), some (vI o), some (vI h), some (vI c), some (vI e), some (vI b), z] [] (wq o M s) Q := by
  intro n
  induction n with
  | zero =>
    intro s b c e z hb2 hn he hp H
    rw [bq105_4]
    simp only [bq105_5, bq105_6, bq105_7, bq105_8, bq105_9, s_0, lgI_some, s_1I, s_3, s_4, s_5K, s_6, s_7, s_8, s_16, s_17, s_18, s_19, s_20, s_24, s_25, s_27, s_28, s_29, cnP_0, cnP_1, cnP_2, cnP_3, cnP_4, cnP_5, s_30, s_31, s_32, s_34, s_46, s_47, lgR_some, s_53, res_0, res_1, nlg_n, nlg_I, nlg_R, Bool.true_and, Bool.and_self, Bool.and_true, kd_51, kd_52, kd_53, kd_54, kd_55, kd_56, kd_57, kd_58, kd_59, kd_60, kd_61, kd_62, kd_63, kd_64, kd_65, kd_66, kd_67, kd_68, kd_69, kd_70, kd_71, kd_72, kd_73, kd_74, kd_75, kd_76, kd_77, kd_78, kd_79, kd_80, kd_81, kd_82, kd_83, kd_84, kd_85, ln_51, ln_52, ln_53, ln_54, ln_55, ln_56, ln_57, ln_58, ln_59, ln_60, ln_61, ln_62, ln_63, ln_64, ln_65, ln_66, ln_67, ln_68, ln_69, ln_70, ln_71, ln_72, ln_73, ln_74, ln_75, ln_76, ln_77, ln_78, ln_79, ln_80, ln_81, ln_82, ln_83, ln_84, ln_85, lg_0, lg_1, lg_2, lg_3, lg_4, lg_5, lg_6, lz_0, lz_1, lz_2, lz_3, lz_4, lz_5, lz_6, lp_0, lp_1, lp_2, lp_3, lp_4, lp_5, lp_6, isL_n, isL_I, isL_R, g_50_17, g_50_2, g_50_28, g_50_29, g_50_31, g_50_5, g_50_9, rc_93_50, List.length_cons, List.length_nil, Nat.reduceAdd, Nat.reduceLT, Nat.reduceLeDiff, true_and, and_true, true_or, or_true, Int.reduceEq, Nat.reduceEqDiff, reduceCtorEq, true_implies, false_implies, not_true_eq_false, not_false_eq_true, Nat.zero_le, Int.zero_add, Nat.zero_add, Nat.lt_add_one, eq_self, forall_const, implies_true, Bool.false_eq_true, false_or, or_false, and_self, ne_eq, me_ne, me_self, show b < 0 by omega]
    exact l_105c eK hL hB hD hb ho0 ho1 hh hC _ _ _ _ _ _ (Int.le_refl 0) (by have := hD.1; omega) hp H
  | succ n ih =>
    intro s b c e z hb2 hn he hp H
    have e1 := hB.1
    have e2 := IvB_sc hB
    have b0 : 0 ≤ b := by omega
    have b1 : b < 10 := by omega
    have eb : b = (n : Int) := by omega
    have k0 := rk_bd (M 9) n
    have k1 : rk (M 9) (n + 1) = rk (M 9) n + (if M 9 n = 0 then 1 else 0) := rfl
    have k2 : rk (M 9) (n + 1) ≤ M 1 9 := by
      rw [hB.2.2.2.2.2.2.2.2.2.1]; exact rk_le (by omega)
    rw [bq105_4]
    simp only [bq105_5, bq105_6, bq105_7, bq105_8, bq105_9, s_0, lgI_some, s_1I, s_3, s_4, s_5K, s_6, s_7, s_8, s_16, s_17, s_18, s_19, s_20, s_24, s_25, s_27, s_28, s_29, cnP_0, cnP_1, cnP_2, cnP_3, cnP_4, cnP_5, s_30, s_31, s_32, s_34, s_46, s_47, lgR_some, s_53, res_0, res_1, nlg_n, nlg_I, nlg_R, Bool.true_and, Bool.and_self, Bool.and_true, kd_51, kd_52, kd_53, kd_54, kd_55, kd_56, kd_57, kd_58, kd_59, kd_60, kd_61, kd_62, kd_63, kd_64, kd_65, kd_66, kd_67, kd_68, kd_69, kd_70, kd_71, kd_72, kd_73, kd_74, kd_75, kd_76, kd_77, kd_78, kd_79, kd_80, kd_81, kd_82, kd_83, kd_84, kd_85, ln_51, ln_52, ln_53, ln_54, ln_55, ln_56, ln_57, ln_58, ln_59, ln_60, ln_61, ln_62, ln_63, ln_64, ln_65, ln_66, ln_67, ln_68, ln_69, ln_70, ln_71, ln_72, ln_73, ln_74, ln_75, ln_76, ln_77, ln_78, ln_79, ln_80, ln_81, ln_82, ln_83, ln_84, ln_85, lg_0, lg_1, lg_2, lg_3, lg_4, lg_5, lg_6, lz_0, lz_1, lz_2, lz_3, lz_4, lz_5, lz_6, lp_0, lp_1, lp_2, lp_3, lp_4, lp_5, lp_6, isL_n, isL_I, isL_R, g_50_17, g_50_2, g_50_28, g_50_29, g_50_31, g_50_5, g_50_9, rc_93_50, List.length_cons, List.length_nil, Nat.reduceAdd, Nat.reduceLT, Nat.reduceLeDiff, true_and, and_true, true_or, or_true, Int.reduceEq, Nat.reduceEqDiff, reduceCtorEq, true_implies, false_implies, not_true_eq_false, not_false_eq_true, Nat.zero_le, Int.zero_add, Nat.zero_add, Nat.lt_add_one, eq_self, forall_const, implies_true, Bool.false_eq_true, false_or, or_false, and_self, ne_eq, me_ne, me_self, wq_o, wq_w b0 b1, wqp_w b0 b1, wq_6, wqp_6, w64_al, ix10 ho0 ho1 b0 b1, bd20 ho0 ho1 b0 b1, hL.1.1, hL.1.2.2.2.1, show ¬ b < 0 by omega, b0, b1, ho0, show o < 2 by omega, show w32 (b + -1) = b - 1 from w32_id (by omega) (by omega)]
    refine ⟨fun q => ?_, fun q => ?_⟩
    · rw [eb] at q
      rw [if_pos q] at k1
      have k3 := hB.2.2.2.2.2.2.2.2.2.2 n (by omega) q
      have k4 : (rk (M 9) (n + 1)).toNat = (rk (M 9) n).toNat + 1 := by omega
      have H : Q 0 (wq o M (hOd M h (M 2 8).toNat 0 (hLd K h (M 2 8).toNat 0 (hPd M (rk (M 9) n).toNat (hPs M (rk (M 9) n) s))))) := by
        have e3 : (((rk (M 9) n).toNat : Nat) : Int) = rk (M 9) n := by omega
        rw [k4] at H
        simp only [hPd] at H
        rwa [e3] at H
      have k5 : hP B (hPs M (rk (M 9) n) s) := hP_ps hB hb (by omega) (by omega) hp
      have k6 : (b = if rk (M 9) n = M 1 9 then -1 else M 15 (rk (M 9) n)) := by
        rw [if_neg (by omega), k3]; exact eb
      unfold hPs at H k5
      rw [k3, ← eb] at H k5
      by_cases w : rk (M 9) n = M 1 9 - 1
      · rw [if_pos w] at H k5
        rw [if_pos (by omega)] at he
        subst he
        simp only [not_true_eq_false, false_implies, true_and, not_false_eq_true, true_implies]
        exact ih _ _ _ _ _ (by omega) (by omega) k6 k5 H
      · rw [if_neg w] at H k5
        rw [if_neg (by omega)] at he
        rw [k1] at he
        have k7 := IvB_st hB (i := rk (M 9) n + 1) (by omega) (by omega)
        rw [← he] at H k5 k7
        have g0 : 0 ≤ e := k7.1.1
        have g1 : e < 10 := by omega
        simp only [ix10 ho0 ho1 g0 g1, bd20 ho0 ho1 g0 g1, wq_w g0 g1, wqp_w g0 g1, show ¬ e = -1 by omega, true_and, not_true_eq_false, not_false_eq_true, true_implies, false_implies, and_true]
        exact ih _ _ _ _ _ (by omega) (by omega) k6 k5 H
    · rw [eb] at q
      rw [if_neg q] at k1
      rw [k1] at H he
      exact ih _ _ _ _ _ (by omega) (by omega) (by rw [he]; simp only [Int.add_zero]) hp (by simpa only [Int.add_zero] using H)
/-- the hour of the reference -/
theorem c_105 {K : Me} (eK : ∀ k, k ≠ 24 → K k = M k) {h B : Int} (hL : IvK M) (hB : IvB M) (hD : IvD M) (hb : B ≤ 900000000) (ho0 : 0 ≤ o) (ho1 : o ≤ 1) (hh : 0 ≤ h ∧ h < 100) (hC : ∀ k, 0 ≤ k → k < 12 → M 65 (101 * k + h) = K 24 (k * 100 + h)) (hp : hP B s) (H : Q 0 (wq o M (hF K h s))) : Cl (d + 3) 105 [vR 50, vI o, vI h] (wq o M s) Q := by
  rw [hF_a0 eK] at H
  have hp2 := hP_in (h := h) hB (by omega) hp
  have e1 := hB.1
  have e2 := IvB_sc hB
  have e3 := hB.2.2.2.2.2.2.2.2.2.1
  unfold Cl
  rw [en_105]
  simp only [bq105_0, s_0, lgI_some, s_1I, s_3, s_5K, s_29, cnP_0, cnP_1, cnP_2, cnP_3, cnP_4, cnP_5, s_30, s_31, s_32, s_46, s_47, lgR_some, kd_51, kd_52, kd_53, kd_54, kd_55, kd_56, kd_57, kd_58, kd_59, kd_60, kd_61, kd_62, kd_63, kd_64, kd_65, kd_66, kd_67, kd_68, kd_69, kd_70, kd_71, kd_72, kd_73, kd_74, kd_75, kd_76, kd_77, kd_78, kd_79, kd_80, kd_81, kd_82, kd_83, kd_84, kd_85, ln_51, ln_52, ln_53, ln_54, ln_55, ln_56, ln_57, ln_58, ln_59, ln_60, ln_61, ln_62, ln_63, ln_64, ln_65, ln_66, ln_67, ln_68, ln_69, ln_70, ln_71, ln_72, ln_73, ln_74, ln_75, ln_76, ln_77, ln_78, ln_79, ln_80, ln_81, ln_82, ln_83, ln_84, ln_85, lg_0, lg_1, lg_2, lg_3, lg_4, lg_5, lg_6, lz_0, lz_1, lz_2, lz_3, lz_4, lz_5, lz_6, lp_0, lp_1, lp_2, lp_3, lp_4, lp_5, lp_6, isL_n, isL_I, isL_R, g_50_1, g_50_2, List.length_cons, List.length_nil, Nat.reduceAdd, Nat.reduceLT, Nat.reduceLeDiff, true_and, and_true, true_or, or_true, Int.reduceEq, Nat.reduceEqDiff, reduceCtorEq, true_implies, false_implies, not_true_eq_false, not_false_eq_true, Nat.zero_le, Int.zero_add, Nat.zero_add, Nat.lt_add_one, eq_self, forall_const, implies_true, Bool.false_eq_true, false_or, or_false, and_self, ne_eq, me_ne, me_self]
  have key : ∀ (s' : HS) (c : Int), s' = hIn M h s → Rn (d + 3) (blk 105 4) 105 [some (vR 50), some (vI o), some (vI h), some (vI c), some (vI (-1)), some (vI (M 1 8 - 1)), none] [] (wq o M s') Q := by
    intro s' c es
    subst es
    refine l_105b eK hL hB hD (B := B + 1000000) (by omega) ho0 ho1 hh hC (M 1 8).toNat _ _ _ _ _ (by omega) (by omega) ?_ hp2 ?_
    · rw [if_pos e3.symm]
    · rw [← e3]; exact H
  have lp : ∀ (n : Nat) (k : Int), 0 ≤ k → k + (n : Int) = M 1 8 → rk (M 9) k.toNat = 0 → Rn (d + 3) (blk 105 1) 105 [some (vR 50), some (vI o), some (vI h), some (vI k), none, none, none] [] (wq o M s) Q := by
    intro n
    induction n with
    | zero =>
      intro k h0 hk hr
      rw [bq105_1]
      simp only [bq105_2, bq105_3, s_0, lgI_some, s_1I, s_3, s_5K, s_6, s_7, s_8, s_16, s_18, s_24, s_25, s_27, s_28, s_29, cnP_0, cnP_1, cnP_2, cnP_3, cnP_4, cnP_5, s_30, s_31, s_32, s_34, s_46, s_47, lgR_some, kd_51, kd_52, kd_53, kd_54, kd_55, kd_56, kd_57, kd_58, kd_59, kd_60, kd_61, kd_62, kd_63, kd_64, kd_65, kd_66, kd_67, kd_68, kd_69, kd_70, kd_71, kd_72, kd_73, kd_74, kd_75, kd_76, kd_77, kd_78, kd_79, kd_80, kd_81, kd_82, kd_83, kd_84, kd_85, ln_51, ln_52, ln_53, ln_54, ln_55, ln_56, ln_57, ln_58, ln_59, ln_60, ln_61, ln_62, ln_63, ln_64, ln_65, ln_66, ln_67, ln_68, ln_69, ln_70, ln_71, ln_72, ln_73, ln_74, ln_75, ln_76, ln_77, ln_78, ln_79, ln_80, ln_81, ln_82, ln_83, ln_84, ln_85, lg_0, lg_1, lg_2, lg_3, lg_4, lg_5, lg_6, lz_0, lz_1, lz_2, lz_3, lz_4, lz_5, lz_6, lp_0, lp_1, lp_2, lp_3, lp_4, lp_5, lp_6, isL_n, isL_I, isL_R, g_50_1, g_50_2, g_50_28, g_50_32, g_50_8, List.length_cons, List.length_nil, Nat.reduceAdd, Nat.reduceLT, Nat.reduceLeDiff, true_and, and_true, true_or, or_true, Int.reduceEq, Nat.reduceEqDiff, reduceCtorEq, true_implies, false_implies, not_true_eq_false, not_false_eq_true, Nat.zero_le, Int.zero_add, Nat.zero_add, Nat.lt_add_one, eq_self, forall_const, implies_true, Bool.false_eq_true, false_or, or_false, and_self, ne_eq, me_ne, me_self, wq_o, hL.2.2.2.2.2.1, show M 1 8 ≤ k by omega, show w32 (M 1 8 - 1) = M 1 8 - 1 from w32_id (by omega) (by omega)]
      have e4 : k = M 1 8 := by omega
      refine key _ _ ?_
      unfold hIn
      rw [if_pos]
      rw [e3, ← e4, hr]
      exact Int.le_refl 0
    | succ n ih =>
      intro k h0 hk hr
      have k1 : k < 10 := by omega
      have ek : (k.toNat : Int) = k := by omega
      have k2 : rk (M 9) (k.toNat + 1) = rk (M 9) k.toNat + (if M 9 (k.toNat : Int) = 0 then 1 else 0) := rfl
      rw [ek] at k2
      rw [bq105_1]
      simp only [bq105_2, bq105_3, s_0, lgI_some, s_1I, s_3, s_5K, s_6, s_7, s_8, s_16, s_18, s_24, s_25, s_27, s_28, s_29, cnP_0, cnP_1, cnP_2, cnP_3, cnP_4, cnP_5, s_30, s_31, s_32, s_34, s_46, s_47, lgR_some, kd_51, kd_52, kd_53, kd_54, kd_55, kd_56, kd_57, kd_58, kd_59, kd_60, kd_61, kd_62, kd_63, kd_64, kd_65, kd_66, kd_67, kd_68, kd_69, kd_70, kd_71, kd_72, kd_73, kd_74, kd_75, kd_76, kd_77, kd_78, kd_79, kd_80, kd_81, kd_82, kd_83, kd_84, kd_85, ln_51, ln_52, ln_53, ln_54, ln_55, ln_56, ln_57, ln_58, ln_59, ln_60, ln_61, ln_62, ln_63, ln_64, ln_65, ln_66, ln_67, ln_68, ln_69, ln_70, ln_71, ln_72, ln_73, ln_74, ln_75, ln_76, ln_77, ln_78, ln_79, ln_80, ln_81, ln_82, ln_83, ln_84, ln_85, lg_0, lg_1, lg_2, lg_3, lg_4, lg_5, lg_6, lz_0, lz_1, lz_2, lz_3, lz_4, lz_5, lz_6, lp_0, lp_1, lp_2, lp_3, lp_4, lp_5, lp_6, isL_n, isL_I, isL_R, g_50_1, g_50_2, g_50_28, g_50_32, g_50_8, List.length_cons, List.length_nil, Nat.reduceAdd, Nat.reduceLT, Nat.reduceLeDiff, true_and, and_true, true_or, or_true, Int.reduceEq, Nat.reduceEqDiff, reduceCtorEq, true_implies, false_implies, not_true_eq_false, not_false_eq_true, Nat.zero_le, Int.zero_add, Nat.zero_add, Nat.lt_add_one, eq_self, forall_const, implies_true, Bool.false_eq_true, false_or, or_false, and_self, ne_eq, me_ne, me_self, wq_o, wq_w h0 k1, wqp_w h0 k1, wq_7, wqp_7, w64_al, ix10 ho0 ho1 h0 k1, bd20 ho0 ho1 h0 k1, hL.2.2.2.2.2.1, hL.1.1, hL.1.2.2.2.2.2.2, show ¬ M 1 8 ≤ k by omega, h0, k1, hh.1, hh.2, ho0, show o < 2 by omega, show w32 (M 1 8 - 1) = M 1 8 - 1 from w32_id (by omega) (by omega), show w32 (k + 1) = k + 1 from w32_id (by omega) (by omega)]
      refine ⟨fun q => ?_, fun q => ?_⟩
      · rw [if_pos q, hr] at k2
        have k3 : rk (M 9) (k.toNat + 1) ≤ rk (M 9) (M 1 8).toNat := rk_le (by omega)
        have k4 := hB.2.2.2.2.2.2.2.2.2.2 k.toNat (by omega) (by rw [ek]; exact q)
        rw [hr, ek] at k4
        refine key _ _ ?_
        unfold hIn
        rw [if_neg (by omega), k4]
      · rw [if_neg q, hr] at k2
        refine ih _ (by omega) (by omega) ?_
        rw [show (k + 1).toNat = k.toNat + 1 by omega, k2]
        rfl
  exact lp (M 1 8).toNat 0 (Int.le_refl 0) (by omega) rfl
end HR

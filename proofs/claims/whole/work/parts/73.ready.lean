/-! the class's flight is ready -/
def kz (M : Me) : Me := fun k => if k ≤ 6 then M k else if k = 7 then fun _ => 0 else if k ≤ 38 then M k else fun _ => 0
theorem kz_eq {K X : Me} (f : f7 K X) : kz X = kz K := by
  funext k
  unfold kz
  repeat' split
  all_goals first | rfl | exact f k (by omega) (by omega)
theorem kz_Vl (M : Me) : Vl (kz M) = Vl M := rfl
theorem kz_Mx (M : Me) : Mx (kz M) = Mx M := rfl
theorem kz_hp (M : Me) : heap (kz M) = heap M := rfl
theorem kz_bp (M : Me) : bp (kz M) = bp M := rfl
theorem kz_mk (M : Me) : mkK (kz M) = mkK M := rfl
theorem kz_co (M : Me) : COk (kz M) = COk M := rfl
theorem kz_or (M : Me) : ORk (kz M) = ORk M := rfl
theorem kz_fg (M : Me) : fgk (kz M) = fgk M := rfl
section RY
variable {d : Nat} {K M X : Me} {t : Int} {Q : Int → Me → Prop}
theorem f7_t (f : f7 K X) : Vl X = Vl K ∧ Mx X = Mx K ∧ heap X = heap K ∧ bp X = bp K ∧ mkK X = mkK K ∧ COk X = COk K ∧ ORk X = ORk K ∧ fgk X = fgk K := by
  have e := kz_eq f
  refine ⟨?_, ?_, ?_, ?_, ?_, ?_, ?_, ?_⟩
  · rw [← kz_Vl X, e, kz_Vl]
  · rw [← kz_Mx X, e, kz_Mx]
  · rw [← kz_hp X, e, kz_hp]
  · rw [← kz_bp X, e, kz_bp]
  · rw [← kz_mk X, e, kz_mk]
  · rw [← kz_co X, e, kz_co]
  · rw [← kz_or X, e, kz_or]
  · rw [← kz_fg X, e, kz_fg]
theorem f7_rf : f7 M M := fun _ _ _ => rfl
theorem RK_self (f : f7 K X) (R : RK K X) : RK X X := by
  obtain ⟨t1, t2, t3, t4, t5, t6, t7, t8⟩ := f7_t f
  obtain ⟨⟨g1, g2, g3, g4, g5, g6, g7⟩, o, m, b⟩ := R
  have e5 : X 5 = K 5 := f 5 (by decide) (by decide)
  have e13 : X 13 = K 13 := f 13 (by decide) (by decide)
  refine ⟨⟨f7_rf, by rw [e5]; exact g2, by rw [t5]; exact g3, g4, by rw [e13]; exact g5, by rw [t1, t8]; exact g6, by rw [t6]; exact g7⟩, by rw [t7]; exact o, by rw [e5, t2]; exact m, by rw [e5]; exact b⟩
theorem FlI_of (R : RK M M) (s : M 7 11 ≤ 2000 * (M 7 14 + 1) ∨ (M 7 15 = M 7 14 ∧ M 7 11 ≤ 2000 * (M 7 14 + 1) + 1)) (b : M 7 15 = -1 ∨ (M 5 2 ≤ M 7 15 ∧ BarsOk M (M 7 15))) : FlI M := by
  obtain ⟨⟨g1, g2, g3, g4, g5, g6, g7⟩, o, m, r⟩ := R
  exact ⟨g2, r, ⟨g4, s⟩, g3, g5, g6, g7, o, m, b⟩
theorem FlI_to (F : FlI M) : RK M M ∧ (M 7 11 ≤ 2000 * (M 7 14 + 1) ∨ (M 7 15 = M 7 14 ∧ M 7 11 ≤ 2000 * (M 7 14 + 1) + 1)) ∧ (M 7 15 = -1 ∨ (M 5 2 ≤ M 7 15 ∧ BarsOk M (M 7 15))) := by
  obtain ⟨g2, r, ⟨g4, s⟩, g3, g5, g6, g7, o, m, b⟩ := F
  exact ⟨⟨⟨f7_rf, g2, g3, g4, g5, g6, g7⟩, o, m, r⟩, s, b⟩
theorem Iv_WK (I : Iv M) : WK M := ⟨I.2.1, I.2.2.2.2.2.1, I.2.2.2.2.1.1⟩
theorem Iv_f7 (I : Iv M) (f : f7 M X) (h : X 7 17 ≠ 0 → M 6 2 ≠ 0 ∧ FlI X) : Iv X := by
  obtain ⟨hL, hB, hD, hC, hF, hR, hP, hX⟩ := I
  have b1 : ∀ k, k ∉ [7, 39, 40, 41, 42, 43, 44, 45, 46, 47] → X k = M k := fun k q => f k (fun e => q (by simp [e])) (fun e => q (by simp; omega))
  have eW : cw X = cw M := cw_of (fun k q1 q2 q3 q4 q5 => f k q4 (by omega))
  refine ⟨?_, cw_IB eW hB, cw_ID eW hD, IvC_cg (b1 2 (by decide)) (b1 5 (by decide)) (b1 24 (by decide)) (b1 65 (by decide)) hC, IvF_cg (b1 2 (by decide)) (b1 5 (by decide)) (b1 36 (by decide)) (b1 37 (by decide)) (b1 73 (by decide)) (b1 74 (by decide)) (b1 75 (by decide)) (b1 76 (by decide)) (b1 77 (by decide)) hF, cw_IR eW hR, IvP_cg (b1 0 (by decide)) (b1 2 (by decide)) (b1 4 (by decide)) (b1 33 (by decide)) (b1 34 (by decide)) hP, ?_, ?_⟩
  · unfold IvL at *
    rw [b1 51 (by decide), b1 52 (by decide), b1 53 (by decide), b1 54 (by decide), b1 55 (by decide), b1 56 (by decide), b1 57 (by decide), b1 58 (by decide), b1 59 (by decide), b1 60 (by decide), b1 61 (by decide), b1 62 (by decide), b1 63 (by decide), b1 64 (by decide), b1 66 (by decide), b1 67 (by decide), b1 68 (by decide), b1 69 (by decide), b1 70 (by decide), b1 71 (by decide), b1 72 (by decide), b1 50 (by decide), b1 0 (by decide), b1 1 (by decide), b1 2 (by decide), b1 3 (by decide), b1 4 (by decide), b1 5 (by decide), b1 9 (by decide), b1 10 (by decide), b1 11 (by decide), b1 12 (by decide), b1 13 (by decide), b1 14 (by decide), b1 16 (by decide), b1 17 (by decide), b1 18 (by decide), b1 19 (by decide), b1 20 (by decide), b1 21 (by decide), b1 22 (by decide), b1 23 (by decide), b1 33 (by decide), b1 34 (by decide), b1 35 (by decide), b1 25 (by decide), b1 26 (by decide), b1 27 (by decide), b1 28 (by decide)]
    exact hL
  · intro z
    rw [b1 6 (by decide)] at z
    have := hX.1 z
    unfold FoI at *
    rw [fw_cg (cw_ag eW) (b1 36 (by decide)) (b1 37 (by decide)) (b1 5 (by decide)), b1 5 (by decide), b1 38 (by decide)]
    exact this
  · intro z
    rw [b1 6 (by decide)]
    exact h z
/-- readyFlight -/
theorem c_83 (I : Iv M) (H : ∀ X, Iv X → X 7 17 ≠ 0 → X 6 2 ≠ 0 → FlI X → (∀ k, k ≤ 37 → k ≠ 6 → k ≠ 7 → k ≠ 8 → X k = M k) → (∀ k, 50 ≤ k → X k = M k) → (M 7 17 ≠ 0 → X = M) → (M 7 17 = 0 → X 7 14 = M 5 2 - 1 ∧ X 7 15 = -1) → Q 0 X) : Cl (d + 5) 83 [vR 0] M Q := by
  unfold Cl
  rw [en_83]
  by_cases z : M 7 17 = 0
  · simp only [bq83_0, bq83_1, s_29, cnP_0, cnP_1, cnP_2, cnP_3, cnP_4, cnP_5, s_32, s_38, s_47, lgR_some, s_54, res_0, res_1, nlg_n, nlg_I, nlg_R, Bool.true_and, Bool.and_self, Bool.and_true, lg_0, g_0_0, g_0_1, g_0_4, g_0_5, g_0_6, g_5_2, g_7_17, g_8_2, rc_13_7, rc_44_6, List.length_cons, List.length_nil, Nat.reduceAdd, Nat.reduceLT, Nat.reduceLeDiff, true_and, and_true, true_or, or_true, Int.reduceEq, Nat.reduceEqDiff, reduceCtorEq, true_implies, false_implies, not_true_eq_false, not_false_eq_true, Nat.zero_le, Int.zero_add, Nat.zero_add, Nat.lt_add_one, eq_self, forall_const, implies_true, Bool.false_eq_true, false_or, or_false, and_self, ne_eq, me_ne, me_self, z]
    refine c_see I (fun X IX x6 x1 => ?_)
    simp only [bq83_0, bq83_1, s_29, cnP_0, cnP_1, cnP_2, cnP_3, cnP_4, cnP_5, s_32, s_38, s_47, lgR_some, s_54, res_0, res_1, nlg_n, nlg_I, nlg_R, Bool.true_and, Bool.and_self, Bool.and_true, lg_0, g_0_0, g_0_1, g_0_4, g_0_5, g_0_6, g_5_2, g_7_17, g_8_2, rc_13_7, rc_44_6, List.length_cons, List.length_nil, Nat.reduceAdd, Nat.reduceLT, Nat.reduceLeDiff, true_and, and_true, true_or, or_true, Int.reduceEq, Nat.reduceEqDiff, reduceCtorEq, true_implies, false_implies, not_true_eq_false, not_false_eq_true, Nat.zero_le, Int.zero_add, Nat.zero_add, Nat.lt_add_one, eq_self, forall_const, implies_true, Bool.false_eq_true, false_or, or_false, and_self, ne_eq, me_ne, me_self, x1 5 (by decide)]
    have e5 : X 5 = M 5 := x1 5 (by decide)
    rw [← e5]
    refine c_13 (d := d + 1) (Iv_WK IX) (fun Y fY RY s11 s14 s15 s17 => ?_)
    have y5 : Y 5 = X 5 := fY 5 (by decide) (by decide)
    have RYY := RK_self fY RY
    have hn := (Iv_WK IX).2.2
    have FY : FlI Y := FlI_of RYY (Or.inl (by rw [s11, s14]; omega)) (Or.inl s15)
    have y6 : Y 6 = X 6 := fY 6 (by decide) (by decide)
    refine H Y (Iv_f7 IX fY (fun _ => ⟨x6, FY⟩)) (by rw [s17]; decide) (by rw [y6]; exact x6) FY ?_ ?_ (fun w => (w z).elim) (fun _ => ⟨by rw [s14, e5], s15⟩)
    · intro k q1 q2 q3 q4
      rw [fY k q3 (by omega), x1 k (fun e => by simp at e; omega)]
    · intro k q1
      rw [fY k (by omega) (by omega), x1 k (fun e => by simp at e; omega)]
  · simp only [bq83_0, bq83_1, s_29, cnP_0, cnP_1, cnP_2, cnP_3, cnP_4, cnP_5, s_32, s_38, s_47, lgR_some, s_54, res_0, res_1, nlg_n, nlg_I, nlg_R, Bool.true_and, Bool.and_self, Bool.and_true, lg_0, g_0_0, g_0_1, g_0_4, g_0_5, g_0_6, g_5_2, g_7_17, g_8_2, rc_13_7, rc_44_6, List.length_cons, List.length_nil, Nat.reduceAdd, Nat.reduceLT, Nat.reduceLeDiff, true_and, and_true, true_or, or_true, Int.reduceEq, Nat.reduceEqDiff, reduceCtorEq, true_implies, false_implies, not_true_eq_false, not_false_eq_true, Nat.zero_le, Int.zero_add, Nat.zero_add, Nat.lt_add_one, eq_self, forall_const, implies_true, Bool.false_eq_true, false_or, or_false, and_self, ne_eq, me_ne, me_self, z]
    have hx := I.2.2.2.2.2.2.2.2 z
    exact H M I z hx.1 hx.2 (fun _ _ _ _ _ => rfl) (fun _ _ => rfl) (fun _ => rfl) (fun w => (z w).elim)
/-- growth, with the invariant -/
theorem c_14v {hour : Int} (I : Iv M) (z : M 7 17 ≠ 0) (h0 : M 5 2 ≤ hour) (h1 : hour ≤ 100) (H : ∀ X, Iv X → X 7 17 ≠ 0 → FlI X → f7 M X → hour ≤ X 7 14 → (M 7 14 ≤ hour → X 7 14 = hour) → (M 7 14 < hour → X 7 11 ≤ 2000 * (hour + 1)) → (hour ≤ M 7 14 → X = M) → Q 0 X) : Cl (d + 5) 14 [vR 7, vR 3, vI hour] M Q := by
  have hx := I.2.2.2.2.2.2.2.2 z
  obtain ⟨R, s, b⟩ := FlI_to hx.2
  have hr := R.2.2.2
  have W := Iv_WK I
  have hn := W.2.2
  by_cases q : M 7 14 < hour
  · refine c_14 W R q h1 (by omega) (fun X RX SX x14 x11 => ?_)
    have fX : f7 M X := RX.1.1
    obtain ⟨t1, t2, t3, t4, t5, t6, t7, t8⟩ := f7_t fX
    have RXX := RK_self fX RX
    have x5 : X 5 = M 5 := fX 5 (by decide) (by decide)
    have x15 : X 7 15 = M 7 15 := SX.2 15 (by decide) (by decide) (by decide) (by decide) (by decide)
    have x16 : X 7 16 = M 7 16 := SX.2 16 (by decide) (by decide) (by decide) (by decide) (by decide)
    have x17 : X 7 17 = M 7 17 := SX.2 17 (by decide) (by decide) (by decide) (by decide) (by decide)
    have FX : FlI X := FlI_of RXX (Or.inl (by rw [x14]; exact x11)) (by
      rw [x15, x5]
      refine b.imp id (fun ⟨b1, b2⟩ => ⟨b1, ?_⟩)
      unfold BarsOk at *
      rw [t3, t4, x16, SX.1 47 (by decide)]
      exact b2)
    exact H X (Iv_f7 I fX (fun _ => ⟨hx.1, FX⟩)) (by rw [x17]; exact z) FX fX (by omega) (fun _ => x14) (fun _ => x11) (fun w => by omega)
  · exact c_14e (by omega) (by omega) (by omega) (H M I z hx.2 f7_rf (by omega) (fun w => by omega) (fun w => by omega) (fun _ => rfl))
end RY

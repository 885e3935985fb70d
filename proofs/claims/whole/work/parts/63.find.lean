/-! from a road OUT back to people -/
def COk (K M : Me) : Prop := ∀ c h, pl K c h → M 43 (h * 10 + c) < 0 →
  (h < 100 → 0 < M 41 (h * 10 + c) → M 43 ((h + 1) * 10 + c) < 0) ∧
  (K 5 2 < h → M 43 ((h - 1) * 10 + c) < 0) ∧
  (∀ r, 0 ≤ r → r < K 3 8 → K 25 r = c → K 26 r ≠ -1 → h < 100 → 0 < M 42 (r * 100 + h) → M 43 ((h + K 28 r) * 10 + K 26 r) < 0) ∧
  (∀ r, 0 ≤ r → r < K 3 8 → K 26 r = c → K 5 2 ≤ h - K 28 r → M 42 (r * 100 + (h - K 28 r)) < K 27 r → M 43 ((h - K 28 r) * 10 + K 25 r) < 0) ∧
  (h = K 5 2 → M 40 c = 0)
/-- each that was met leads to one met before it, or OUT -/
def PT (K M : Me) (rt rs : Int) (X : Me) : Prop := ∀ i, 0 ≤ i → i < X 7 10 → ∃ q, RS K M (X 46 i) (X 44 (X 46 i)) q ∧ ((q = -1 ∧ X 46 i = rt ∧ X 44 (X 46 i) = rs) ∨ ∃ j, 0 ≤ j ∧ j < i ∧ X 46 j = q)
/-- what a search leaves as it was -/
def SF (M X : Me) : Prop := (∀ k, k ∉ [7, 43, 44, 45, 46] → X k = M k) ∧ (∀ j, j ≠ 9 → j ≠ 10 → j ≠ 11 → X 7 j = M 7 j) ∧ X 7 11 = M 7 11 + 1
section FP
variable {d : Nat} {K M X X1 : Me} {t : Int} {P : Int → Int → Prop} {Q : Int → Me → Prop}
theorem RS_cg {p s q : Int} (h41 : X 41 = M 41) (h42 : X 42 = M 42) : RS K X p s q = RS K M p s q := by
  unfold RS; rw [h41, h42]
theorem SI_pop (h : SI K t X) (g : 0 < X 7 9) : SI K t (me_put X 7 9 (X 7 9 - 1)) := by
  have e9 : me_put X 7 9 (X 7 9 - 1) 7 9 = X 7 9 - 1 := me_self _ _ _ _
  have e10 : me_put X 7 9 (X 7 9 - 1) 7 10 = X 7 10 := me_i _ (by decide)
  have e11 : me_put X 7 9 (X 7 9 - 1) 7 11 = X 7 11 := me_i _ (by decide)
  have em : ∀ p, mz K (me_put X 7 9 (X 7 9 - 1)) p = mz K X p := fun p => by
    unfold mz; rw [e11, me_ne _ _ _ _ (by decide)]
  obtain ⟨⟨s1, s2, s3, s4⟩, s5, s6, s7, s8⟩ := h
  refine ⟨⟨by rw [e9]; omega, by rw [e9, e10]; omega, by rw [e10, s3]; exact sm_cg (fun i _ _ => by rw [em]), by rw [e11]; exact s4⟩, ?_, ?_, ?_, ?_⟩
  · intro i i0 i1
    rw [e10] at i1
    rw [em, me_f _ (by decide)]; exact s5 i i0 i1
  · intro p p0 p1 q
    rw [em] at q
    rw [e10, me_f _ (by decide)]; exact s6 p p0 p1 q
  · intro i i0 i1
    rw [e9] at i1
    rw [em, me_f _ (by decide)]; exact s7 i i0 (by omega)
  · intro i j i0 i1 j0 j1
    rw [e10] at i1 j1
    rw [me_f _ (by decide)]; exact s8 i j i0 i1 j0 j1
theorem Dn_mo {p : Int} (W : WK K) (hv : Vs K t (fsr X)) (p0 : 0 ≤ p) (p1 : p < 1010) (m : ∀ q, 0 ≤ q → q < 1010 → nm X q → nm X1 q) (e41 : X1 41 = X 41) (e42 : X1 42 = X 42) (h : Dn K X p) : Dn K X1 p := by
  have hn := W.2.2
  obtain ⟨a1, a2, a3, a4⟩ := h
  refine ⟨?_, ?_, ?_, ?_⟩
  · rw [e41]; intro z1 z2; exact m _ (by omega) (by omega) (a1 z1 z2)
  · intro z; exact m _ (by omega) (by omega) (a2 z)
  · rw [e42]; intro r r0 r1 r2 r3 hh r4
    obtain ⟨r12, rf, rt, rb, rl, rn⟩ := WK_r W r0 r1
    have v := hv r (p / 10) r0 r12 (by omega) (by omega)
    unfold fsr at v
    rw [if_pos hh] at v
    have v2 := (v.2 (by omega)).2.2.2.2 r3
    have := v2.2.2.2.2.2.1
    exact m _ (by omega) (by omega) (a3 r r0 r1 r2 r3 hh r4)
  · rw [e42]; intro r r0 r1 r2 r3 r4
    obtain ⟨r12, rf, rt, rb, rl, rn⟩ := WK_r W r0 r1
    exact m _ (by omega) (by omega) (a4 r r0 r1 r2 r3 r4)
/-- done, or on the stack -/
def DO (K M X : Me) : Prop := ∀ q, 0 ≤ q → q < 1010 → mz K X q → (∃ i, 0 ≤ i ∧ i < X 7 9 ∧ X 45 i = q) ∨ (Dn K X q ∧ (q / 10 = K 5 2 → M 40 (q % 10) ≤ 0))
def MM (M X : Me) : Prop := ∀ q, 0 ≤ q → q < 1010 → X 43 q = M 43 q ∨ (X 43 q = M 7 11 + 1 ∧ 0 ≤ M 43 q)
/-- the marks of those seen go to -1 -/
theorem l_17b {x p s : Int} {y : Option AV} (hs : SI K t X) (H : ∀ Z, (∀ k, k ≠ 43 → Z k = X k) → (∀ q, 0 ≤ q → q < 1010 → (mz K X q → Z 43 q = -1) ∧ (¬ mz K X q → Z 43 q = X 43 q)) → Q (-1) Z) :
    ∀ (n : Nat) (Z : Me) (j : Int), 0 ≤ j → j + (n : Int) = X 7 10 → (∀ k, k ≠ 43 → Z k = X k) → (∀ q, (∃ i, 0 ≤ i ∧ i < j ∧ X 46 i = q) → Z 43 q = -1) → (∀ q, (¬ ∃ i, 0 ≤ i ∧ i < j ∧ X 46 i = q) → Z 43 q = X 43 q) → Rn d (blk 17 4) 17 [some (vR 7), some (vR 3), some (vI p), some (vI s), some (vI j), y] [] Z Q := by
  intro n
  induction n with
  | zero =>
    intro Z j j0 j1 hZ z1 z2
    rw [bq17_4]
    simp only [bq17_5, s_0, lgI_some, s_3, s_5K, s_24, s_25, s_30, cnP_0, cnP_1, cnP_2, cnP_3, cnP_4, cnP_5, s_31, s_37i, s_37z, s_47, lgR_some, kd_9, kd_10, kd_11, kd_12, kd_13, kd_14, kd_15, kd_16, kd_17, kd_18, kd_19, kd_20, kd_21, kd_22, kd_23, kd_24, kd_25, kd_26, kd_27, kd_28, kd_29, kd_30, kd_31, kd_32, kd_33, kd_34, kd_35, kd_36, kd_37, kd_38, kd_39, kd_40, kd_41, kd_42, kd_43, kd_44, kd_45, kd_46, kd_47, kd_48, kd_49, ln_9, ln_10, ln_11, ln_12, ln_13, ln_14, ln_15, ln_16, ln_17, ln_18, ln_19, ln_20, ln_21, ln_22, ln_23, ln_24, ln_25, ln_26, ln_27, ln_28, ln_29, ln_30, ln_31, ln_32, ln_33, ln_34, ln_35, ln_36, ln_37, ln_38, ln_39, ln_40, ln_41, ln_42, ln_43, ln_44, ln_45, ln_46, ln_47, ln_48, ln_49, lg_0, lg_1, lg_2, lg_3, lg_4, lg_5, lz_0, lz_1, lz_2, lz_3, lz_4, lz_5, lp_0, lp_1, lp_2, lp_3, lp_4, lp_5, isL_n, isL_I, isL_R, g_7_10, g_7_4, g_7_7, List.length_cons, List.length_nil, Nat.reduceAdd, Nat.reduceLT, Nat.reduceLeDiff, true_and, and_true, true_or, or_true, Int.reduceEq, Nat.reduceEqDiff, reduceCtorEq, true_implies, false_implies, not_true_eq_false, not_false_eq_true, Nat.zero_le, Int.zero_add, Nat.zero_add, Nat.lt_add_one, eq_self, forall_const, implies_true, Bool.false_eq_true, false_or, or_false, and_self, ne_eq, me_ne, me_self, hZ 7 (by decide), show X 7 10 ≤ j by omega]
    refine H Z hZ (fun q q0 q1 => ⟨fun m => ?_, fun m => ?_⟩)
    · obtain ⟨i, i0, i1, i2⟩ := (hs.2.2.1 q q0 q1 m).1
      exact z1 q ⟨i, i0, by omega, i2⟩
    · refine z2 q (fun ⟨i, i0, i1, i2⟩ => m ?_)
      rw [← i2]; exact (hs.2.1 i i0 (by omega)).2
  | succ n ih =>
    intro Z j j0 j1 hZ z1 z2
    have a := hs.2.1 j j0 (by omega)
    have lt : X 7 10 ≤ 1010 := by
      have b := sm_le (n := 1010) (f := fun i => b01 (mz K X i)) (g := fun _ => 1) (fun i _ _ => (b01_bd _).2)
      have c : sm 1010 (fun _ => 1) = 1010 := by decide +kernel
      have := hs.1.2.2.1
      omega
    rw [bq17_4]
    simp only [bq17_5, s_0, lgI_some, s_3, s_5K, s_24, s_25, s_30, cnP_0, cnP_1, cnP_2, cnP_3, cnP_4, cnP_5, s_31, s_37i, s_37z, s_47, lgR_some, kd_9, kd_10, kd_11, kd_12, kd_13, kd_14, kd_15, kd_16, kd_17, kd_18, kd_19, kd_20, kd_21, kd_22, kd_23, kd_24, kd_25, kd_26, kd_27, kd_28, kd_29, kd_30, kd_31, kd_32, kd_33, kd_34, kd_35, kd_36, kd_37, kd_38, kd_39, kd_40, kd_41, kd_42, kd_43, kd_44, kd_45, kd_46, kd_47, kd_48, kd_49, ln_9, ln_10, ln_11, ln_12, ln_13, ln_14, ln_15, ln_16, ln_17, ln_18, ln_19, ln_20, ln_21, ln_22, ln_23, ln_24, ln_25, ln_26, ln_27, ln_28, ln_29, ln_30, ln_31, ln_32, ln_33, ln_34, ln_35, ln_36, ln_37, ln_38, ln_39, ln_40, ln_41, ln_42, ln_43, ln_44, ln_45, ln_46, ln_47, ln_48, ln_49, lg_0, lg_1, lg_2, lg_3, lg_4, lg_5, lz_0, lz_1, lz_2, lz_3, lz_4, lz_5, lp_0, lp_1, lp_2, lp_3, lp_4, lp_5, isL_n, isL_I, isL_R, g_7_10, g_7_4, g_7_7, List.length_cons, List.length_nil, Nat.reduceAdd, Nat.reduceLT, Nat.reduceLeDiff, true_and, and_true, true_or, or_true, Int.reduceEq, Nat.reduceEqDiff, reduceCtorEq, true_implies, false_implies, not_true_eq_false, not_false_eq_true, Nat.zero_le, Int.zero_add, Nat.zero_add, Nat.lt_add_one, eq_self, forall_const, implies_true, Bool.false_eq_true, false_or, or_false, and_self, ne_eq, me_ne, me_self, hZ 7 (by decide), hZ 46 (by decide), show ¬ X 7 10 ≤ j by omega, j0, show j < 1010 by omega, a.1.1, a.1.2, show w32 (j + 1) = j + 1 from w32_id (by omega) (by omega)]
    refine ih _ _ (by omega) (by omega) (fun k q => by rw [me_f _ q]; exact hZ k q) ?_ ?_
    · rintro q ⟨i, i0, i1, i2⟩
      by_cases w : i = j
      · rw [← i2, w, me_self]
      · by_cases w2 : q = X 46 j
        · rw [w2, me_self]
        · rw [me_i _ w2]; exact z1 q ⟨i, i0, by omega, i2⟩
    · intro q hq
      have w2 : q ≠ X 46 j := fun e => hq ⟨j, j0, by omega, e.symm⟩
      rw [me_i _ w2]
      exact z2 q (fun ⟨i, i0, i1, i2⟩ => hq ⟨i, i0, by omega, i2⟩)
theorem f7_rl (W : WK K) {p : Int} (h : pl K (p % 10) (p / 10)) : rl K p := rl_pl h
/-- the end without people: all that was met is cut off -/
theorem cut_off {Z : Me} (W : WK K) (hv : Vs K t (fsr M)) (hc : COk K M) (hl : ∀ c, 0 ≤ c → c < 10 → 0 ≤ M 40 c) (F : SF M X) (B : BG K t M X) (D : DO K M X) (mm : MM M X) (h9 : X 7 9 = 0) (hZ : ∀ k, k ≠ 43 → Z k = X k) (hz : ∀ q, 0 ≤ q → q < 1010 → (mz K X q → Z 43 q = -1) ∧ (¬ mz K X q → Z 43 q = X 43 q)) : COk K Z ∧ mkK K Z := by
  have hn := W.2.2
  have e11 : Z 7 11 = X 7 11 := by rw [hZ 7 (by decide)]
  have e41 : Z 41 = M 41 := by rw [hZ 41 (by decide), B.2.2.2.1]
  have e42 : Z 42 = M 42 := by rw [hZ 42 (by decide), B.2.2.2.2.1]
  have e40 : Z 40 = M 40 := by rw [hZ 40 (by decide), B.2.2.2.2.2.1]
  have neg : ∀ q, 0 ≤ q → q < 1010 → rl K q → nm X q → Z 43 q < 0 := by
    intro q q0 q1 r n
    by_cases w : mz K X q
    · rw [(hz q q0 q1).1 w]; decide
    · rw [(hz q q0 q1).2 w]
      exact n.resolve_right (fun e => w ⟨r, e⟩)
  have neg2 : ∀ q, 0 ≤ q → q < 1010 → M 43 q < 0 → Z 43 q < 0 := by
    intro q q0 q1 n
    by_cases w : mz K X q
    · rw [(hz q q0 q1).1 w]; decide
    · rw [(hz q q0 q1).2 w]
      rcases mm q q0 q1 with z | z
      · rw [z]; exact n
      · omega
  constructor
  · intro c h hp hm
    obtain ⟨c0, c1, c2, c3, h0, h1, hd⟩ := hp
    have hq0 : 0 ≤ h * 10 + c := by omega
    have hq1 : h * 10 + c < 1010 := by omega
    have em : (h * 10 + c) % 10 = c := by omega
    have ed : (h * 10 + c) / 10 = h := by omega
    rw [e40, e41, e42]
    by_cases w : mz K X (h * 10 + c)
    · have dn := (D _ hq0 hq1 w).resolve_left (fun ⟨i, i0, i1, i2⟩ => by omega)
      obtain ⟨⟨a1, a2, a3, a4⟩, a5⟩ := dn
      rw [ed, B.2.2.2.1] at a1
      rw [ed] at a2 a5
      rw [ed, em, B.2.2.2.2.1] at a3 a4
      rw [em] at a5
      refine ⟨fun z1 z2 => ?_, fun z => ?_, fun r r0 r1 r2 r3 z1 z2 => ?_, fun r r0 r1 r2 z1 z2 => ?_, fun z => ?_⟩
      · rw [show (h + 1) * 10 + c = h * 10 + c + 10 by omega]
        refine neg _ (by omega) (by omega) ⟨by omega, ?_, ?_⟩ (a1 z1 z2)
        · rw [show (h * 10 + c + 10) % 10 = c by omega]; exact c2
        · rw [show (h * 10 + c + 10) % 10 = c by omega]; exact c3
      · rw [show (h - 1) * 10 + c = h * 10 + c - 10 by omega]
        refine neg _ (by omega) (by omega) ⟨by omega, ?_, ?_⟩ (a2 z)
        · rw [show (h * 10 + c - 10) % 10 = c by omega]; exact c2
        · rw [show (h * 10 + c - 10) % 10 = c by omega]; exact c3
      · obtain ⟨r12, rf, rt, rb, rl', rn⟩ := WK_r W r0 r1
        have rt' := rt.resolve_left r3
        have v := hv r h r0 r12 (by omega) (by omega)
        unfold fsr at v
        rw [if_pos z1] at v
        have v2 := ((v.2 (by omega)).2.2.2.2 r3).2.2.2.2.2.1
        refine neg _ (by omega) (by omega) ⟨by omega, ?_, ?_⟩ (a3 r r0 r1 r2 r3 z1 z2)
        · rw [show ((h + K 28 r) * 10 + K 26 r) % 10 = K 26 r by omega]; exact rt'.2.2.1
        · rw [show ((h + K 28 r) * 10 + K 26 r) % 10 = K 26 r by omega]; exact rt'.2.2.2
      · obtain ⟨r12, rf, rt, rb, rl', rn⟩ := WK_r W r0 r1
        refine neg _ (by omega) (by omega) ⟨by omega, ?_, ?_⟩ (a4 r r0 r1 r2 z1 z2)
        · rw [show ((h - K 28 r) * 10 + K 25 r) % 10 = K 25 r by omega]; exact rf.2.2.1
        · rw [show ((h - K 28 r) * 10 + K 25 r) % 10 = K 25 r by omega]; exact rf.2.2.2
      · have := a5 z
        have := hl c c0 c1
        omega
    · rw [(hz _ hq0 hq1).2 w] at hm
      have hM : M 43 (h * 10 + c) < 0 := by
        rcases mm _ hq0 hq1 with z | z
        · rw [← z]; exact hm
        · rw [z.1] at hm
          have := F.2.2
          have := B.2.2.1.1.2.2.2
          omega
      obtain ⟨a1, a2, a3, a4, a5⟩ := hc c h ⟨c0, c1, c2, c3, h0, h1, hd⟩ hM
      refine ⟨fun z1 z2 => neg2 _ (by omega) (by omega) (a1 z1 z2), fun z => neg2 _ (by omega) (by omega) (a2 z), fun r r0 r1 r2 r3 z1 z2 => ?_, fun r r0 r1 r2 z1 z2 => ?_, a5⟩
      · obtain ⟨r12, rf, rt, rb, rl', rn⟩ := WK_r W r0 r1
        have rt' := rt.resolve_left r3
        have v := hv r h r0 r12 (by omega) (by omega)
        unfold fsr at v
        rw [if_pos z1] at v
        have v2 := ((v.2 (by omega)).2.2.2.2 r3).2.2.2.2.2.1
        exact neg2 _ (by omega) (by omega) (a3 r r0 r1 r2 r3 z1 z2)
      · obtain ⟨r12, rf, rt, rb, rl', rn⟩ := WK_r W r0 r1
        exact neg2 _ (by omega) (by omega) (a4 r r0 r1 r2 z1 z2)
  · intro c h c0 c1 c2 c3 h0 h1
    have a := B.2.1 c h c0 c1 c2 c3 h0 h1
    rw [e11]
    by_cases w : mz K X (h * 10 + c)
    · have e := w.2
      have s4 := B.2.2.1.1.2.2.2
      rw [(hz _ (by omega) (by omega)).1 w]
      refine ⟨⟨fun z => by omega, fun z => ?_⟩, by omega, by omega⟩
      have := a.1.mpr z
      omega
    · rw [(hz _ (by omega) (by omega)).2 w]; exact a
/-- people are sought -/
theorem l_17a {p s : Int} (W : WK K) (hw : Vw K t (fwt M)) (hv : Vs K t (fsr M)) (ht : t ≤ 100) (hc : COk K M) (hl : ∀ c, 0 ≤ c → c < 10 → 0 ≤ M 40 c) (p0 : 0 ≤ p) (p1 : p < 1010) (hrl : rl K p)
    (H1 : ∀ (X : Me) (at' : Int), SF M X → BG K t M X → MM M X → PT K M p s X → 0 ≤ at' → at' < 1010 → mz K X at' → at' / 10 = K 5 2 → 0 < M 40 (at' % 10) → Q at' X)
    (H2 : ∀ X : Me, SF M X → mkK K X → COk K X → X 43 p < 0 → (∀ q, 0 ≤ q → q < 1010 → M 43 q < 0 → X 43 q < 0) → Q (-1) X) :
    ∀ (n : Nat) (X : Me) (i : Int) (y : Option AV), 0 ≤ i → i + (n : Int) = 1010 → i + X 7 9 = X 7 10 → SF M X → BG K t M X → MM M X → PT K M p s X → DO K M X → nm X p → Rn (d + 2) (blk 17 1) 17 [some (vR 7), some (vR 3), some (vI p), some (vI s), some (vI i), y] [] X Q := by
  have hn := W.2.2
  have done : ∀ (X : Me) (y : Option AV), X 7 9 = 0 → SF M X → BG K t M X → MM M X → DO K M X → nm X p → Rn (d + 2) (blk 17 4) 17 [some (vR 7), some (vR 3), some (vI p), some (vI s), some (vI 0), y] [] X Q := by
    intro X y h9 F B mm D n
    refine l_17b (K := K) (t := t) (X := X) (x := 0) B.2.2.1 (fun Z hZ hz => ?_) (X 7 10).toNat X 0 (Int.le_refl 0) (by have := B.2.2.1.1; omega) (fun _ _ => rfl) (fun q ⟨i, i0, i1, _⟩ => by omega) (fun _ _ => rfl)
    obtain ⟨c1, c2⟩ := cut_off W hv hc hl F B D mm h9 hZ hz
    refine H2 Z ⟨fun k q => ?_, fun j q1 q2 q3 => ?_, ?_⟩ c2 c1 ?_ ?_
    · rw [hZ k (fun e => q (by simp [e])), F.1 k q]
    · rw [hZ 7 (by decide), F.2.1 j q1 q2 q3]
    · rw [hZ 7 (by decide), F.2.2]
    · by_cases w : mz K X p
      · rw [(hz p p0 p1).1 w]; decide
      · rw [(hz p p0 p1).2 w]; exact n.resolve_right (fun e => w ⟨hrl, e⟩)
    · intro q q0 q1 h
      by_cases w : mz K X q
      · rw [(hz q q0 q1).1 w]; decide
      · rw [(hz q q0 q1).2 w]
        rcases mm q q0 q1 with z | z
        · rw [z]; exact h
        · omega
  intro n
  induction n with
  | zero =>
    intro X i y i0 i1 ic F B mm pt D nn
    have b := sm_le (n := 1010) (f := fun i => b01 (mz K X i)) (g := fun _ => 1) (fun i _ _ => (b01_bd _).2)
    have c : sm 1010 (fun _ => 1) = 1010 := by decide +kernel
    have s1 := B.2.2.1.1
    rw [bq17_1]
    simp only [bq17_3, s_0, lgI_some, s_1I, s_3, s_5K, s_7, s_13, s_14, s_24, s_25, s_29, cnP_0, cnP_1, cnP_2, cnP_3, cnP_4, cnP_5, s_30, s_31, s_32, s_33I, s_33R, s_37i, s_37z, s_47, lgR_some, kd_9, kd_10, kd_11, kd_12, kd_13, kd_14, kd_15, kd_16, kd_17, kd_18, kd_19, kd_20, kd_21, kd_22, kd_23, kd_24, kd_25, kd_26, kd_27, kd_28, kd_29, kd_30, kd_31, kd_32, kd_33, kd_34, kd_35, kd_36, kd_37, kd_38, kd_39, kd_40, kd_41, kd_42, kd_43, kd_44, kd_45, kd_46, kd_47, kd_48, kd_49, ln_9, ln_10, ln_11, ln_12, ln_13, ln_14, ln_15, ln_16, ln_17, ln_18, ln_19, ln_20, ln_21, ln_22, ln_23, ln_24, ln_25, ln_26, ln_27, ln_28, ln_29, ln_30, ln_31, ln_32, ln_33, ln_34, ln_35, ln_36, ln_37, ln_38, ln_39, ln_40, ln_41, ln_42, ln_43, ln_44, ln_45, ln_46, ln_47, ln_48, ln_49, lg_0, lg_1, lg_2, lg_3, lg_4, lg_5, lz_0, lz_1, lz_2, lz_3, lz_4, lz_5, lp_0, lp_1, lp_2, lp_3, lp_4, lp_5, isL_n, isL_I, isL_R, g_7_1, g_7_10, g_7_12, g_7_4, g_7_6, g_7_7, g_7_9, p_7_9, List.length_cons, List.length_nil, Nat.reduceAdd, Nat.reduceLT, Nat.reduceLeDiff, true_and, and_true, true_or, or_true, Int.reduceEq, Nat.reduceEqDiff, reduceCtorEq, true_implies, false_implies, not_true_eq_false, not_false_eq_true, Nat.zero_le, Int.zero_add, Nat.zero_add, Nat.lt_add_one, eq_self, forall_const, implies_true, Bool.false_eq_true, false_or, or_false, and_self, ne_eq, me_ne, me_self, show 1010 ≤ i by omega]
    exact done X y (by omega) F B mm D nn
  | succ n ih =>
    intro X i y i0 i1 ic F B mm pt D nn
    have s1 := B.2.2.1.1
    have lt : X 7 10 ≤ 1010 := by
      have b := sm_le (n := 1010) (f := fun i => b01 (mz K X i)) (g := fun _ => 1) (fun i _ _ => (b01_bd _).2)
      have c : sm 1010 (fun _ => 1) = 1010 := by decide +kernel
      omega
    rw [bq17_1]
    by_cases e9 : X 7 9 ≤ 0
    · simp only [bq17_3, s_0, lgI_some, s_1I, s_3, s_5K, s_7, s_13, s_14, s_24, s_25, s_29, cnP_0, cnP_1, cnP_2, cnP_3, cnP_4, cnP_5, s_30, s_31, s_32, s_33I, s_33R, s_37i, s_37z, s_47, lgR_some, kd_9, kd_10, kd_11, kd_12, kd_13, kd_14, kd_15, kd_16, kd_17, kd_18, kd_19, kd_20, kd_21, kd_22, kd_23, kd_24, kd_25, kd_26, kd_27, kd_28, kd_29, kd_30, kd_31, kd_32, kd_33, kd_34, kd_35, kd_36, kd_37, kd_38, kd_39, kd_40, kd_41, kd_42, kd_43, kd_44, kd_45, kd_46, kd_47, kd_48, kd_49, ln_9, ln_10, ln_11, ln_12, ln_13, ln_14, ln_15, ln_16, ln_17, ln_18, ln_19, ln_20, ln_21, ln_22, ln_23, ln_24, ln_25, ln_26, ln_27, ln_28, ln_29, ln_30, ln_31, ln_32, ln_33, ln_34, ln_35, ln_36, ln_37, ln_38, ln_39, ln_40, ln_41, ln_42, ln_43, ln_44, ln_45, ln_46, ln_47, ln_48, ln_49, lg_0, lg_1, lg_2, lg_3, lg_4, lg_5, lz_0, lz_1, lz_2, lz_3, lz_4, lz_5, lp_0, lp_1, lp_2, lp_3, lp_4, lp_5, isL_n, isL_I, isL_R, g_7_1, g_7_10, g_7_12, g_7_4, g_7_6, g_7_7, g_7_9, p_7_9, List.length_cons, List.length_nil, Nat.reduceAdd, Nat.reduceLT, Nat.reduceLeDiff, true_and, and_true, true_or, or_true, Int.reduceEq, Nat.reduceEqDiff, reduceCtorEq, true_implies, false_implies, not_true_eq_false, not_false_eq_true, Nat.zero_le, Int.zero_add, Nat.zero_add, Nat.lt_add_one, eq_self, forall_const, implies_true, Bool.false_eq_true, false_or, or_false, and_self, ne_eq, me_ne, me_self, show ¬ 1010 ≤ i by omega, e9]
      exact done X y (by omega) F B mm D nn
    · have a := B.2.2.1.2.2.2.1 (X 7 9 - 1) (by omega) (by omega)
      generalize eat : X 45 (X 7 9 - 1) = p2 at *
      obtain ⟨⟨a0, a1⟩, am⟩ := a
      have ap := (B.2.2.1.2.2.1 p2 a0 a1 am).2
      have et : p2.tmod 10 = p2 % 10 := Int.tmod_eq_emod_of_nonneg a0
      have ed : w32 (p2.tdiv 10) = p2 / 10 := by rw [Int.tdiv_eq_ediv_of_nonneg a0, w32_id (by omega) (by omega)]
      have e12 : X 7 12 = K 5 2 := B.2.2.2.2.2.2.1
      have e40 : X 40 = M 40 := B.2.2.2.2.2.1
      simp only [bq17_3, s_0, lgI_some, s_1I, s_3, s_5K, s_7, s_13, s_14, s_24, s_25, s_29, cnP_0, cnP_1, cnP_2, cnP_3, cnP_4, cnP_5, s_30, s_31, s_32, s_33I, s_33R, s_37i, s_37z, s_47, lgR_some, s_53, res_0, res_1, nlg_n, nlg_I, nlg_R, Bool.true_and, Bool.and_self, Bool.and_true, kd_9, kd_10, kd_11, kd_12, kd_13, kd_14, kd_15, kd_16, kd_17, kd_18, kd_19, kd_20, kd_21, kd_22, kd_23, kd_24, kd_25, kd_26, kd_27, kd_28, kd_29, kd_30, kd_31, kd_32, kd_33, kd_34, kd_35, kd_36, kd_37, kd_38, kd_39, kd_40, kd_41, kd_42, kd_43, kd_44, kd_45, kd_46, kd_47, kd_48, kd_49, ln_9, ln_10, ln_11, ln_12, ln_13, ln_14, ln_15, ln_16, ln_17, ln_18, ln_19, ln_20, ln_21, ln_22, ln_23, ln_24, ln_25, ln_26, ln_27, ln_28, ln_29, ln_30, ln_31, ln_32, ln_33, ln_34, ln_35, ln_36, ln_37, ln_38, ln_39, ln_40, ln_41, ln_42, ln_43, ln_44, ln_45, ln_46, ln_47, ln_48, ln_49, lg_0, lg_1, lg_2, lg_3, lg_4, lg_5, lz_0, lz_1, lz_2, lz_3, lz_4, lz_5, lp_0, lp_1, lp_2, lp_3, lp_4, lp_5, isL_n, isL_I, isL_R, g_7_1, g_7_10, g_7_12, g_7_4, g_7_6, g_7_7, g_7_9, p_7_9, rc_20_7, List.length_cons, List.length_nil, Nat.reduceAdd, Nat.reduceLT, Nat.reduceLeDiff, true_and, and_true, true_or, or_true, Int.reduceEq, Nat.reduceEqDiff, reduceCtorEq, true_implies, false_implies, not_true_eq_false, not_false_eq_true, Nat.zero_le, Int.zero_add, Nat.zero_add, Nat.lt_add_one, eq_self, forall_const, implies_true, Bool.false_eq_true, false_or, or_false, and_self, ne_eq, me_ne, me_self, me_i, show ¬ 1010 ≤ i by omega, e9, show w32 (X 7 9 - 1) = X 7 9 - 1 from w32_id (by omega) (by omega), show 0 ≤ X 7 9 - 1 by omega, show X 7 9 - 1 < 1010 by omega, eat, et, ed, e12, e40]
      have SIp := SI_pop B.2.2.1 (by omega)
      generalize hX' : me_put X 7 9 (X 7 9 - 1) = X' at *
      have x7 : ∀ j, j ≠ 9 → X' 7 j = X 7 j := fun j q => by rw [← hX', me_i _ q]
      have x79 : X' 7 9 = X 7 9 - 1 := by rw [← hX', me_self]
      have xk : ∀ k, k ≠ 7 → X' k = X k := fun k q => by rw [← hX', me_f _ q]
      have F' : SF M X' := ⟨fun k q => by rw [xk k (fun e => q (by simp [e])), F.1 k q], fun j q1 q2 q3 => by rw [x7 j q1, F.2.1 j q1 q2 q3], by rw [x7 11 (by decide), F.2.2]⟩
      have B' : BG K t M X' := ⟨fun k q1 q2 => by rw [xk k q1, B.1 k q1 q2], fun c h c0 c1 c2 c3 h0 h1 => by rw [xk 43 (by decide), x7 11 (by decide)]; exact B.2.1 c h c0 c1 c2 c3 h0 h1, SIp, by rw [xk 41 (by decide), B.2.2.2.1], by rw [xk 42 (by decide), B.2.2.2.2.1], by rw [xk 40 (by decide), B.2.2.2.2.2.1], by rw [x7 12 (by decide), e12], B.2.2.2.2.2.2.2⟩
      have mm' : MM M X' := fun q q0 q1 => by rw [xk 43 (by decide)]; exact mm q q0 q1
      have pt' : PT K M p s X' := fun i i0 i1 => by rw [x7 10 (by decide)] at i1; rw [xk 46 (by decide), xk 44 (by decide)]; exact pt i i0 i1
      have amz' : ∀ q, mz K X' q = mz K X q := fun q => by unfold mz; rw [xk 43 (by decide), x7 11 (by decide)]
      have enm : ∀ q, nm X' q = nm X q := fun q => by unfold nm; rw [xk 43 (by decide), x7 11 (by decide)]
      have go : ¬ (p2 / 10 = K 5 2 ∧ 0 < M 40 (p2 % 10)) → Rn (d + 2) (blk 17 2) 17 [some (vR 7), some (vR 3), some (vI p), some (vI s), some (vI i), some (vI p2)] [] X' Q := by
        intro nsrc
        rw [bq17_2]
        simp only [s_0, lgI_some, s_1I, s_3, s_5K, s_7, s_13, s_14, s_24, s_29, cnP_0, cnP_1, cnP_2, cnP_3, cnP_4, cnP_5, s_30, s_31, s_33I, s_33R, s_37i, s_37z, s_47, lgR_some, s_53, res_0, res_1, nlg_n, nlg_I, nlg_R, Bool.true_and, Bool.and_self, Bool.and_true, kd_9, kd_10, kd_11, kd_12, kd_13, kd_14, kd_15, kd_16, kd_17, kd_18, kd_19, kd_20, kd_21, kd_22, kd_23, kd_24, kd_25, kd_26, kd_27, kd_28, kd_29, kd_30, kd_31, kd_32, kd_33, kd_34, kd_35, kd_36, kd_37, kd_38, kd_39, kd_40, kd_41, kd_42, kd_43, kd_44, kd_45, kd_46, kd_47, kd_48, kd_49, ln_9, ln_10, ln_11, ln_12, ln_13, ln_14, ln_15, ln_16, ln_17, ln_18, ln_19, ln_20, ln_21, ln_22, ln_23, ln_24, ln_25, ln_26, ln_27, ln_28, ln_29, ln_30, ln_31, ln_32, ln_33, ln_34, ln_35, ln_36, ln_37, ln_38, ln_39, ln_40, ln_41, ln_42, ln_43, ln_44, ln_45, ln_46, ln_47, ln_48, ln_49, lg_0, lg_1, lg_2, lg_3, lg_4, lg_5, lz_0, lz_1, lz_2, lz_3, lz_4, lz_5, lp_0, lp_1, lp_2, lp_3, lp_4, lp_5, isL_n, isL_I, isL_R, g_7_1, g_7_12, g_7_6, g_7_9, p_7_9, rc_20_7, List.length_cons, List.length_nil, Nat.reduceAdd, Nat.reduceLT, Nat.reduceLeDiff, true_and, and_true, true_or, or_true, Int.reduceEq, Nat.reduceEqDiff, reduceCtorEq, true_implies, false_implies, not_true_eq_false, not_false_eq_true, Nat.zero_le, Int.zero_add, Nat.zero_add, Nat.lt_add_one, eq_self, forall_const, implies_true, Bool.false_eq_true, false_or, or_false, and_self, ne_eq, me_ne, me_self, show w32 (i + 1) = i + 1 from w32_id (by omega) (by omega)]
        have BX : BG K t X' X' := ⟨B'.1, B'.2.1, B'.2.2.1, rfl, rfl, rfl, B'.2.2.2.2.2.2⟩
        have hwX : Vw K t (fwt X') := by
          have : fwt X' = fwt M := by unfold fwt; rw [B'.2.2.2.1]
          rw [this]; exact hw
        have hvX : Vs K t (fsr X') := by
          have : fsr X' = fsr M := by unfold fsr; rw [B'.2.2.2.2.1]
          rw [this]; exact hv
        refine c_20 W BX hwX hvX ht a0 a1 ap.1 ap.2 (fun X2 m2 dn => ?_)
        have B2 := BG_mt B' m2
        have y11 : X2 7 11 = X' 7 11 := m2.2.1 11 (by decide) (by decide)
        have s1' := SIp.1
        refine ih X2 _ _ (by omega) (by omega) (by have := m2.2.2.1; have := x7 10 (by decide); omega) ?_ B2 ?_ ?_ ?_ ?_
        · exact ⟨fun k q => by rw [m2.1 k q, F'.1 k q], fun j q1 q2 q3 => by rw [m2.2.1 j q1 q2, F'.2.1 j q1 q2 q3], by rw [y11, F'.2.2]⟩
        · intro q q0 q1
          rcases m2.2.2.2.1 q q0 q1 with z | z
          · rw [z]; exact mm' q q0 q1
          · refine Or.inr ⟨by rw [z.1, F'.2.2], ?_⟩
            rcases mm' q q0 q1 with w | w
            · rw [← w]; exact z.2
            · exact w.2
        · intro j j0 j1
          by_cases w : j < X' 7 10
          · have g := SIp.2.1 j j0 w
            obtain ⟨q, q1, q2⟩ := pt' j j0 w
            rw [m2.2.2.2.2.2.1 j j0 w, m2.2.2.2.2.2.2.1 _ g.1.1 g.1.2 g.2.2]
            refine ⟨q, q1, q2.imp id (fun ⟨k, k0, k1, k2⟩ => ⟨k, k0, k1, by rw [m2.2.2.2.2.2.1 k k0 (by omega)]; exact k2⟩)⟩
          · have g := m2.2.2.2.2.2.2.2.2.1 j (by omega) j1
            have g : RS K X' (X2 46 j) (X2 44 (X2 46 j)) p2 := g
            rw [RS_cg B'.2.2.2.1 B'.2.2.2.2.1] at g
            obtain ⟨k, k0, k1, k2⟩ := (SIp.2.2.1 p2 a0 a1 (by rw [amz']; exact am)).1
            exact ⟨p2, g, Or.inr ⟨k, k0, by omega, by rw [m2.2.2.2.2.2.1 k k0 k1]; exact k2⟩⟩
        · intro q q0 q1 hq
          by_cases w : mz K X' q
          · rw [amz'] at w
            rcases D q q0 q1 w with ⟨k, k0, k1, k2⟩ | dq
            · by_cases v : k = X 7 9 - 1
              · have : q = p2 := by rw [← k2, v]; exact eat
                rw [this]
                refine Or.inr ⟨dn, fun z => ?_⟩
                apply Classical.byContradiction
                intro z2
                exact nsrc ⟨z, by omega⟩
              · refine Or.inl ⟨k, k0, by have := m2.2.2.1; omega, ?_⟩
                rw [m2.2.2.2.2.1 k k0 (by omega), xk 45 (by decide)]; exact k2
            · refine Or.inr ⟨Dn_mo W (X := X) (t := t) ?_ q0 q1 (fun z z0 z1 hz => Mt_nm m2 z0 z1 (by rw [enm]; exact hz)) (by rw [B2.2.2.2.1, B.2.2.2.1]) (by rw [B2.2.2.2.2.1, B.2.2.2.2.1]) dq.1, dq.2⟩
              have : fsr X = fsr M := by unfold fsr; rw [B.2.2.2.2.1]
              rw [this]; exact hv
          · have h2 : X2 43 q = X' 7 11 := by rw [hq.2, y11]
            have h3 : X' 43 q ≠ X' 7 11 := fun e => w ⟨hq.1, e⟩
            obtain ⟨k, k0, k1, k2⟩ := m2.2.2.2.2.2.2.2.1 q q0 q1 h2 h3
            exact Or.inl ⟨k, by omega, k1, k2⟩
        · exact Mt_nm m2 p0 p1 (by rw [enm]; exact nn)
      refine ⟨fun q => go (fun z => q z.1), fun q => ⟨⟨by have := ap.1.1; omega, by have := ap.1.2.1; omega⟩, fun q2 => go (fun z => by omega), fun q2 => ?_⟩⟩
      exact H1 X' p2 F' B' mm' pt' a0 a1 (by rw [amz']; exact am) (Classical.not_not.mp q) (by omega)
/-- a search begins -/
theorem c_18 (h : M 7 11 < 2000000000) (h0 : 0 ≤ M 7 11) (H : Q 0 (me_put (me_put (me_put M 7 11 (M 7 11 + 1)) 7 9 0) 7 10 0)) : Cl d 18 [vR 7] M Q := by
  unfold Cl
  rw [en_18]
  simp only [bq18_0, s_3, s_6, s_33I, s_33R, s_38, s_47, lgR_some, lg_0, g_7_11, p_7_10, p_7_11, p_7_9, List.length_cons, List.length_nil, Nat.reduceAdd, Nat.reduceLT, Nat.reduceLeDiff, true_and, and_true, true_or, or_true, Int.reduceEq, Nat.reduceEqDiff, reduceCtorEq, true_implies, false_implies, not_true_eq_false, not_false_eq_true, Nat.zero_le, Int.zero_add, Nat.zero_add, Nat.lt_add_one, eq_self, forall_const, implies_true, Bool.false_eq_true, false_or, or_false, and_self, ne_eq, me_ne, me_self, show w32 (M 7 11 + 1) = M 7 11 + 1 from w32_id (by omega) (by omega)]
  exact H
theorem SI_0 {X : Me} (W : WK K) (hm : mkK K M) (h0 : 0 ≤ M 7 11) (hX : X = me_put (me_put (me_put M 7 11 (M 7 11 + 1)) 7 9 0) 7 10 0) : SI K t X ∧ SF M X ∧ MM M X ∧ (∀ q, 0 ≤ q → q < 1010 → ¬ mz K X q) ∧ X 7 9 = 0 ∧ X 7 10 = 0 ∧ X 43 = M 43 ∧ mkK K X := by
  have x43 : X 43 = M 43 := by rw [hX]; simp only [me_f, me_fs, me_ne, me_self, me_i, fu_s, ne_eq, Nat.reduceEqDiff, not_false_eq_true, Int.reduceEq, reduceCtorEq]
  have x9 : X 7 9 = 0 := by rw [hX]; simp only [me_f, me_fs, me_ne, me_self, me_i, fu_s, ne_eq, Nat.reduceEqDiff, not_false_eq_true, Int.reduceEq, reduceCtorEq]
  have x10 : X 7 10 = 0 := by rw [hX]; simp only [me_f, me_fs, me_ne, me_self, me_i, fu_s, ne_eq, Nat.reduceEqDiff, not_false_eq_true, Int.reduceEq, reduceCtorEq]
  have x11 : X 7 11 = M 7 11 + 1 := by rw [hX]; simp only [me_f, me_fs, me_ne, me_self, me_i, fu_s, ne_eq, Nat.reduceEqDiff, not_false_eq_true, Int.reduceEq, reduceCtorEq]
  have no : ∀ q, 0 ≤ q → q < 1010 → ¬ mz K X q := by
    rintro q q0 q1 ⟨⟨r1, r2, r3⟩, e⟩
    have b := W.1.1
    have := (hm (q % 10) (q / 10) (by omega) (by omega) r2 r3 r1 (by omega)).2.2
    rw [show q / 10 * 10 + q % 10 = q by omega] at this
    rw [x43, x11] at e
    omega
  refine ⟨⟨⟨by omega, by omega, ?_, by omega⟩, fun i i0 i1 => by omega, fun p p0 p1 q => (no p p0 p1 q).elim, fun i i0 i1 => by omega, fun i j i0 i1 => by omega⟩, ⟨fun k q => ?_, fun j q1 q2 q3 => ?_, x11⟩, fun q _ _ => Or.inl (by rw [x43]), no, x9, x10, x43, ?_⟩
  · rw [x10, sm_cg (n := 1010) (g := fun _ => 0) (fun i i0 i1 => b01_f (no i i0 (by omega))), sm_0]
  · rw [hX, me_f _ (fun e => q (by simp [e])), me_f _ (fun e => q (by simp [e])), me_f _ (fun e => q (by simp [e]))]
  · rw [hX, me_i _ q2, me_i _ q1, me_i _ q3]
  · intro c h c0 c1 c2 c3 h0' h1'
    rw [x43, x11]
    have := hm c h c0 c1 c2 c3 h0' h1'
    exact ⟨this.1, this.2.1, by omega⟩
theorem c_17 {h r : Int} (W : WK K) (f : f7 K M) (e12 : M 7 12 = K 5 2) (hm : mkK K M) (s0 : 0 ≤ M 7 11) (s1 : M 7 11 < 2000000000) (hw : Vw K t (fwt M)) (hv : Vs K t (fsr M)) (ht : t ≤ 100) (hc : COk K M) (hl : ∀ c, 0 ≤ c → c < 10 → 0 ≤ M 40 c)
    (r0 : 0 ≤ r) (r1 : r < K 3 8) (r2 : K 26 r = -1) (h0 : K 5 2 ≤ h) (h1 : h + K 28 r ≤ t) (hb : M 42 (r * 100 + h) < K 27 r)
    (H1 : ∀ (X : Me) (at' : Int), SF M X → BG K t M X → MM M X → PT K M (h * 10 + K 25 r) (2 + r) X → 0 ≤ at' → at' < 1010 → mz K X at' → at' / 10 = K 5 2 → 0 < M 40 (at' % 10) → Q at' X)
    (H2 : ∀ X : Me, SF M X → mkK K X → COk K X → X 43 (h * 10 + K 25 r) < 0 → (∀ q, 0 ≤ q → q < 1010 → M 43 q < 0 → X 43 q < 0) → Q (-1) X) : Cl (d + 2) 17 [vR 7, vR 3, vI (h * 10 + K 25 r), vI (2 + r)] M Q := by
  have hn := W.2.2
  obtain ⟨r12, rf, rt, rb, rl', rn⟩ := WK_r W r0 r1
  have em : (h * 10 + K 25 r) % 10 = K 25 r := by omega
  have ed : (h * 10 + K 25 r) / 10 = h := by omega
  have hrl : rl K (h * 10 + K 25 r) := ⟨by omega, by rw [em]; exact rf.2.2.1, by rw [em]; exact rf.2.2.2⟩
  unfold Cl
  rw [en_17]
  simp only [bq17_0, s_0, lgI_some, s_1I, s_3, s_7, s_13, s_14, s_24, s_29, cnP_0, cnP_1, cnP_2, cnP_3, cnP_4, cnP_5, s_30, s_32, s_33I, s_33R, s_37i, s_37z, s_47, lgR_some, s_51, s_53, res_0, res_1, nlg_n, nlg_I, nlg_R, Bool.true_and, Bool.and_self, Bool.and_true, kd_9, kd_10, kd_11, kd_12, kd_13, kd_14, kd_15, kd_16, kd_17, kd_18, kd_19, kd_20, kd_21, kd_22, kd_23, kd_24, kd_25, kd_26, kd_27, kd_28, kd_29, kd_30, kd_31, kd_32, kd_33, kd_34, kd_35, kd_36, kd_37, kd_38, kd_39, kd_40, kd_41, kd_42, kd_43, kd_44, kd_45, kd_46, kd_47, kd_48, kd_49, ln_9, ln_10, ln_11, ln_12, ln_13, ln_14, ln_15, ln_16, ln_17, ln_18, ln_19, ln_20, ln_21, ln_22, ln_23, ln_24, ln_25, ln_26, ln_27, ln_28, ln_29, ln_30, ln_31, ln_32, ln_33, ln_34, ln_35, ln_36, ln_37, ln_38, ln_39, ln_40, ln_41, ln_42, ln_43, ln_44, ln_45, ln_46, ln_47, ln_48, ln_49, lg_0, lg_1, lg_2, lg_3, lg_4, lg_5, lz_0, lz_1, lz_2, lz_3, lz_4, lz_5, lp_0, lp_1, lp_2, lp_3, lp_4, lp_5, isL_n, isL_I, isL_R, g_7_1, g_7_12, g_7_6, g_7_9, p_7_9, rc_18_7, rc_19_7, List.length_cons, List.length_nil, Nat.reduceAdd, Nat.reduceLT, Nat.reduceLeDiff, true_and, and_true, true_or, or_true, Int.reduceEq, Nat.reduceEqDiff, reduceCtorEq, true_implies, false_implies, not_true_eq_false, not_false_eq_true, Nat.zero_le, Int.zero_add, Nat.zero_add, Nat.lt_add_one, eq_self, forall_const, implies_true, Bool.false_eq_true, false_or, or_false, and_self, ne_eq, me_ne, me_self]
  refine c_18 s1 s0 ?_
  generalize hX : me_put (me_put (me_put M 7 11 (M 7 11 + 1)) 7 9 0) 7 10 0 = X
  obtain ⟨a1, a2, a3, a4, a5, a6, a7, a8⟩ := SI_0 (K := K) (t := t) W hm s0 hX.symm
  have B : BG K t M X := ⟨fun k q1 q2 => by rw [a2.1 k (fun z => by simp at z; omega), f k q1 q2], a8, a1, a2.1 41 (by decide), a2.1 42 (by decide), a2.1 40 (by decide), by rw [a2.2.1 12 (by decide) (by decide) (by decide), e12], hn.1⟩
  refine c_19 (K := K) (t := t) (P := fun q s => q = h * 10 + K 25 r ∧ s = 2 + r) a1 (by omega) (by omega) (fun y0 => ?_) ⟨rfl, rfl⟩ (fun X2 m2 n2 => ?_)
  · rw [em, ed]
    exact ⟨mkK_pl a8 rf.1 rf.2.1 rf.2.2.1 rf.2.2.2 h0 (by omega) y0, by omega⟩
  · have y11 : X2 7 11 = X 7 11 := m2.2.1 11 (by decide) (by decide)
    refine l_17a W hw hv ht hc hl (by omega) (by omega) hrl H1 H2 1010 X2 0 _ (Int.le_refl 0) (by omega) (by have := m2.2.2.1; omega) ?_ (BG_mt B m2) ?_ ?_ ?_ n2
    · exact ⟨fun k q => by rw [m2.1 k q, a2.1 k q], fun j q1 q2 q3 => by rw [m2.2.1 j q1 q2, a2.2.1 j q1 q2 q3], by rw [y11, a2.2.2]⟩
    · intro q q0 q1
      rcases m2.2.2.2.1 q q0 q1 with z | z
      · rw [z]; exact a3 q q0 q1
      · exact Or.inr ⟨by rw [z.1, a2.2.2], by rw [← a7]; exact z.2⟩
    · intro j j0 j1
      obtain ⟨g1, g2⟩ := m2.2.2.2.2.2.2.2.2.1 j (by omega) j1
      rw [g1] at g2 ⊢
      rw [g2]
      refine ⟨-1, ?_, Or.inl ⟨rfl, rfl, rfl⟩⟩
      exact Or.inr (Or.inr (Or.inl ⟨r, r0, r1, rfl, em.symm, by omega, by rw [ed]; exact hb, Or.inr ⟨r2, rfl⟩⟩))
    · intro q q0 q1 hq
      obtain ⟨k, k0, k1, k2⟩ := m2.2.2.2.2.2.2.2.1 q q0 q1 (by rw [hq.2, y11]) (fun e => a4 q q0 q1 ⟨hq.1, e⟩)
      exact Or.inl ⟨k, by omega, k1, k2⟩
end FP

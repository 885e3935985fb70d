/-! a road OUT is filled -/
theorem ite_bd {p : Prop} [Decidable p] : 0 ≤ (if p then (1 : Int) else 0) ∧ (if p then (1 : Int) else 0) ≤ 1 := by split <;> omega
theorem Vl_wt {K : Me} {t v : Int} {g : Int → Int} {wt st : Int → Int → Int} (W : WK K) (V : Vl K t g wt st v) {c h : Int} (c0 : 0 ≤ c) (c1 : c < 10) (h0 : 0 ≤ h) (h1 : h < 101) : wt c h ≤ v := by
  have e := V.2.2.2 (fun _ h' => if h + 1 ≤ h' then 1 else 0) 1
  unfold LL at e
  have a1 : 0 ≤ sm 10 (fun c => g c * (if h + 1 ≤ K 5 2 then (1 : Int) else 0)) := (sm_ge (n := 10) (fun i i0 i1 => by
    have := V.1 i i0 (by omega)
    split <;> omega)).1
  have t2 : ∀ i : Int, 0 ≤ i → i < 10 → ∀ j : Int, 0 ≤ j → j < 101 → 0 ≤ wt i j * ((if h + 1 ≤ j + 1 then (1 : Int) else 0) - (if h + 1 ≤ j then (1 : Int) else 0)) := by
    intro i i0 i1 j j0 j1
    have := V.2.1 i j i0 i1 j0 j1
    by_cases z : h + 1 ≤ j
    · rw [if_pos z, if_pos (by omega)]; omega
    · by_cases y : h + 1 ≤ j + 1
      · rw [if_neg z, if_pos y]; omega
      · rw [if_neg z, if_neg y]; omega
  have a2 : wt c h ≤ sm 10 (fun c => sm 101 (fun j => wt c j * ((if h + 1 ≤ j + 1 then (1 : Int) else 0) - (if h + 1 ≤ j then (1 : Int) else 0)))) := by
    have b1 := (sm_ge (n := 101) (f := fun j => wt c j * ((if h + 1 ≤ j + 1 then (1 : Int) else 0) - (if h + 1 ≤ j then (1 : Int) else 0))) (fun j j0 j1 => t2 c c0 c1 j j0 (by omega))).2 h h0 (by omega)
    have b2 := (sm_ge (n := 10) (f := fun c => sm 101 (fun j => wt c j * ((if h + 1 ≤ j + 1 then (1 : Int) else 0) - (if h + 1 ≤ j then (1 : Int) else 0)))) (fun i i0 i1 => (sm_ge (n := 101) (fun j j0 j1 => t2 i i0 (by omega) j j0 (by omega))).1)).2 c c0 (by omega)
    have b3 : wt c h * ((if h + 1 ≤ h + 1 then (1 : Int) else 0) - (if h + 1 ≤ h then (1 : Int) else 0)) = wt c h := by
      rw [if_pos (Int.le_refl _), if_neg (by omega)]; omega
    have b1' : wt c h * ((if h + 1 ≤ h + 1 then (1 : Int) else 0) - (if h + 1 ≤ h then (1 : Int) else 0)) ≤ sm 101 (fun j => wt c j * ((if h + 1 ≤ j + 1 then (1 : Int) else 0) - (if h + 1 ≤ j then (1 : Int) else 0))) := b1
    have b2' : sm 101 (fun j => wt c j * ((if h + 1 ≤ j + 1 then (1 : Int) else 0) - (if h + 1 ≤ j then (1 : Int) else 0))) ≤ sm 10 (fun c => sm 101 (fun j => wt c j * ((if h + 1 ≤ j + 1 then (1 : Int) else 0) - (if h + 1 ≤ j then (1 : Int) else 0)))) := b2
    omega
  have a3 : 0 ≤ sm 12 (fun r => sm 101 (fun j => st r j * (hdv K (fun _ h' => if h + 1 ≤ h' then 1 else 0) 1 r j - (if h + 1 ≤ j then (1 : Int) else 0)))) := (sm_ge (n := 12) (fun r r0 r1 => (sm_ge (n := 101) (fun j j0 j1 => by
    have v := V.2.2.1 r j r0 (by omega) j0 (by omega)
    by_cases z : st r j = 0
    · rw [z]; omega
    · have w := WK_r W r0 (v.2 z).1
      have : 0 ≤ hdv K (fun _ h' => if h + 1 ≤ h' then 1 else 0) 1 r j - (if h + 1 ≤ j then (1 : Int) else 0) := by
        unfold hdv
        by_cases y : K 26 r = -1
        · rw [if_pos y]; split <;> omega
        · rw [if_neg y]; simp only; split <;> split <;> omega
      exact Int.mul_nonneg v.1 this)).1)).1
  have e' : sm 10 (fun c => g c * (if h + 1 ≤ K 5 2 then (1 : Int) else 0)) + sm 10 (fun c => sm 101 (fun j => wt c j * ((if h + 1 ≤ j + 1 then (1 : Int) else 0) - (if h + 1 ≤ j then (1 : Int) else 0)))) + sm 12 (fun r => sm 101 (fun j => st r j * (hdv K (fun _ h' => if h + 1 ≤ h' then 1 else 0) 1 r j - (if h + 1 ≤ j then (1 : Int) else 0)))) = v * 1 := e
  omega
theorem Vl_v {K : Me} {t v : Int} {g : Int → Int} {wt st : Int → Int → Int} (W : WK K) (V : Vl K t g wt st v) : 0 ≤ v ∧ v ≤ 5000 := by
  have e := V.2.2.2 (fun _ _ => 1) 1
  unfold LL at e
  have a2 : sm 10 (fun c => sm 101 (fun h => wt c h * ((1 : Int) - 1))) = 0 := by
    rw [sm_cg (g := fun _ => 0) (fun i _ _ => by rw [sm_cg (g := fun _ => 0) (fun j _ _ => by omega), sm_0]), sm_0]
  have a3 : sm 12 (fun r => sm 101 (fun h => st r h * (hdv K (fun _ _ => 1) 1 r h - 1))) = 0 := by
    rw [sm_cg (g := fun _ => 0) (fun i _ _ => by rw [sm_cg (g := fun _ => 0) (fun j _ _ => by
      have : hdv K (fun _ _ => 1) 1 i j = 1 := by unfold hdv; split <;> rfl
      rw [this]; omega), sm_0]), sm_0]
  have a1 := sm_le (n := 10) (f := fun c => g c * 1) (g := fun _ => 500) (fun i i0 i1 => by
    have := V.1 i i0 (by omega)
    have b := W.1.2.2.2.2.2.2.1 i
    by_cases z : g i = 0
    · omega
    · have := (this.2 z).2; omega)
  have a4 := (sm_ge (n := 10) (f := fun c => g c * 1) (fun i i0 i1 => by have := V.1 i i0 (by omega); omega)).1
  have c : sm 10 (fun _ => 500) = 5000 := by decide +kernel
  simp only at e
  omega
section FI
variable {d : Nat} {K M X : Me} {t n rt rs : Int} {Q : Int → Me → Prop}
theorem l_22 {st : Int} (W : WK K) (f : f7 K X) (hv : Vs K t (fsr X)) (hs : SI K t X) (pt : PT K X rt rs X) : ∀ (m : Nat) (i room c : Int), 0 ≤ i → i < m → i < X 7 10 → 1 ≤ room → 0 ≤ c → c + i + 1 ≤ 1010 → (∀ (n : Int) (k : Nat), 1 ≤ n → n ≤ room → (k : Int) ≤ i + 1 → pth K X n k (X 46 i) → Q n X) → Rn (d + 2) (blk 22 1) 22 [some (vR 7), some (vR 3), some (vI st), some (vI room), some (vI (X 46 i)), some (vI c)] [] X Q := by
  intro m
  induction m with
  | zero => intro i room c i0 i1; omega
  | succ m ih =>
    intro i room c i0 i1 i2 r1 c0 c1 H
    have a := (hs.2.1 i i0 i2).1
    obtain ⟨q, hq, hj⟩ := pt i i0 i2
    have rm := RS_rm hq W
    generalize ep : X 46 i = p at *
    rw [bq22_1]
    simp only [bq22_2, s_0, lgI_some, s_1I, s_3, s_5K, s_30, cnP_0, cnP_1, cnP_2, cnP_3, cnP_4, cnP_5, s_31, s_37i, s_37z, s_40, s_47, lgR_some, s_53, res_0, res_1, nlg_n, nlg_I, nlg_R, Bool.true_and, Bool.and_self, Bool.and_true, lg_0, lg_1, lg_2, lg_3, lg_4, lg_5, lz_0, lz_1, lz_2, lz_3, lz_4, lz_5, lp_0, lp_1, lp_2, lp_3, lp_4, lp_5, isL_n, isL_I, isL_R, rc_24_7, rc_25_7, List.length_cons, List.length_nil, Nat.reduceAdd, Nat.reduceLT, Nat.reduceLeDiff, true_and, and_true, true_or, or_true, Int.reduceEq, Nat.reduceEqDiff, reduceCtorEq, true_implies, false_implies, not_true_eq_false, not_false_eq_true, Nat.zero_le, Int.zero_add, Nat.zero_add, Nat.lt_add_one, eq_self, forall_const, implies_true, Bool.false_eq_true, false_or, or_false, and_self, ne_eq, me_ne, me_self, show ¬ 1010 ≤ c by omega, show ¬ p = -1 by omega]
    refine c_25 W f hv a.1 a.2 rfl hq ?_
    refine c_24 W f a.1 a.2 rfl hq ?_
    simp only [s_0, lgI_some, s_1I, s_3, s_5K, s_30, cnP_0, cnP_1, cnP_2, cnP_3, cnP_4, cnP_5, s_31, s_40, s_47, lgR_some, s_53, res_0, res_1, nlg_n, nlg_I, nlg_R, Bool.true_and, Bool.and_self, Bool.and_true, lg_0, lg_1, lg_2, lg_3, lg_4, lg_5, lz_0, lz_1, lz_2, lz_3, lz_4, lz_5, lp_0, lp_1, lp_2, lp_3, lp_4, lp_5, isL_n, isL_I, isL_R, rc_24_7, rc_25_7, List.length_cons, List.length_nil, Nat.reduceAdd, Nat.reduceLT, Nat.reduceLeDiff, true_and, and_true, true_or, or_true, Int.reduceEq, Nat.reduceEqDiff, reduceCtorEq, true_implies, false_implies, not_true_eq_false, not_false_eq_true, Nat.zero_le, Int.zero_add, Nat.zero_add, Nat.lt_add_one, eq_self, forall_const, implies_true, Bool.false_eq_true, false_or, or_false, and_self, ne_eq, me_ne, me_self, show w32 (c + 1) = c + 1 from w32_id (by omega) (by omega)]
    generalize hr : (if rmf K X p (X 44 p) < room then rmf K X p (X 44 p) else room) = room'
    have b : 1 ≤ room' ∧ room' ≤ room ∧ room' ≤ rmf K X p (X 44 p) := by rw [← hr]; split <;> omega
    rcases hj with ⟨z, -⟩ | ⟨j, j0, j1, j2⟩
    · subst z
      rw [bq22_1]
      simp only [bq22_2, s_0, lgI_some, s_1I, s_3, s_5K, s_30, cnP_0, cnP_1, cnP_2, cnP_3, cnP_4, cnP_5, s_31, s_37i, s_37z, s_40, s_47, lgR_some, s_53, res_0, res_1, nlg_n, nlg_I, nlg_R, Bool.true_and, Bool.and_self, Bool.and_true, lg_0, lg_1, lg_2, lg_3, lg_4, lg_5, lz_0, lz_1, lz_2, lz_3, lz_4, lz_5, lp_0, lp_1, lp_2, lp_3, lp_4, lp_5, isL_n, isL_I, isL_R, rc_24_7, rc_25_7, List.length_cons, List.length_nil, Nat.reduceAdd, Nat.reduceLT, Nat.reduceLeDiff, true_and, and_true, true_or, or_true, Int.reduceEq, Nat.reduceEqDiff, reduceCtorEq, true_implies, false_implies, not_true_eq_false, not_false_eq_true, Nat.zero_le, Int.zero_add, Nat.zero_add, Nat.lt_add_one, eq_self, forall_const, implies_true, Bool.false_eq_true, false_or, or_false, and_self, ne_eq, me_ne, me_self]
      have fin := H room' 1 b.1 b.2.1 (by omega) ⟨a.1, -1, hq, b.2.2, rfl⟩
      exact ⟨fun _ => fin, fun _ => fin⟩
    · rw [← j2]
      refine ih j room' (c + 1) j0 (by omega) (by omega) b.1 (by omega) (by omega) (fun n k n1 n2 k1 pk => ?_)
      rw [j2] at pk
      exact H n (k + 1) n1 (by omega) (by omega) ⟨a.1, q, hq, by omega, pk⟩
/-- the room of a way -/
theorem c_22 {i : Int} (W : WK K) (f : f7 K X) (hv : Vs K t (fsr X)) (hs : SI K t X) (pt : PT K X rt rs X) (i0 : 0 ≤ i) (i1 : i < X 7 10) (hl : 1 ≤ X 40 (X 46 i % 10)) (H : ∀ (n : Int) (k : Nat), 1 ≤ n → n ≤ X 40 (X 46 i % 10) → (k : Int) ≤ 1010 → pth K X n k (X 46 i) → Q n X) : Cl (d + 3) 22 [vR 7, vR 3, vI (X 46 i)] X Q := by
  have a := (hs.2.1 i i0 i1).1
  have et : (X 46 i).tmod 10 = X 46 i % 10 := Int.tmod_eq_emod_of_nonneg a.1
  have lt : X 7 10 ≤ 1010 := by
    have b := sm_le (n := 1010) (f := fun i => b01 (mz K X i)) (g := fun _ => 1) (fun i _ _ => (b01_bd _).2)
    have c : sm 1010 (fun _ => 1) = 1010 := by decide +kernel
    have := hs.1.2.2.1
    omega
  unfold Cl
  rw [en_22]
  simp only [bq22_0, s_0, lgI_some, s_1I, s_3, s_5K, s_14, s_24, s_30, cnP_0, cnP_1, cnP_2, cnP_3, cnP_4, cnP_5, s_31, s_32, s_40, s_47, lgR_some, s_53, res_0, res_1, nlg_n, nlg_I, nlg_R, Bool.true_and, Bool.and_self, Bool.and_true, kd_9, kd_10, kd_11, kd_12, kd_13, kd_14, kd_15, kd_16, kd_17, kd_18, kd_19, kd_20, kd_21, kd_22, kd_23, kd_24, kd_25, kd_26, kd_27, kd_28, kd_29, kd_30, kd_31, kd_32, kd_33, kd_34, kd_35, kd_36, kd_37, kd_38, kd_39, kd_40, kd_41, kd_42, kd_43, kd_44, kd_45, kd_46, kd_47, kd_48, kd_49, ln_9, ln_10, ln_11, ln_12, ln_13, ln_14, ln_15, ln_16, ln_17, ln_18, ln_19, ln_20, ln_21, ln_22, ln_23, ln_24, ln_25, ln_26, ln_27, ln_28, ln_29, ln_30, ln_31, ln_32, ln_33, ln_34, ln_35, ln_36, ln_37, ln_38, ln_39, ln_40, ln_41, ln_42, ln_43, ln_44, ln_45, ln_46, ln_47, ln_48, ln_49, lg_0, lg_1, lg_2, lg_3, lg_4, lg_5, lz_0, lz_1, lz_2, lz_3, lz_4, lz_5, lp_0, lp_1, lp_2, lp_3, lp_4, lp_5, isL_n, isL_I, isL_R, g_7_1, rc_24_7, rc_25_7, List.length_cons, List.length_nil, Nat.reduceAdd, Nat.reduceLT, Nat.reduceLeDiff, true_and, and_true, true_or, or_true, Int.reduceEq, Nat.reduceEqDiff, reduceCtorEq, true_implies, false_implies, not_true_eq_false, not_false_eq_true, Nat.zero_le, Int.zero_add, Nat.zero_add, Nat.lt_add_one, eq_self, forall_const, implies_true, Bool.false_eq_true, false_or, or_false, and_self, ne_eq, me_ne, me_self, et]
  exact ⟨by omega, l_22 (d := d + 1) W f hv hs pt (i + 1).toNat i _ 0 i0 (by omega) i1 hl (Int.le_refl 0) (by omega) (fun n k n1 n2 k1 pk => H n k n1 n2 (by omega) pk)⟩
theorem pth_mv {i : Int} (W : WK K) (hs : SI K t X) (pt : PT K M rt rs X) (i0 : 0 ≤ i) (i1 : i < X 7 10) {s q : Int} (h : RS K X (X 46 i) s q) : ∀ (k : Nat) (j : Int), 0 ≤ j → j < i → pth K X n k (X 46 j) → pth K (mvm K X (X 46 i) s n) n k (X 46 j) := by
  intro k
  induction k with
  | zero => intro j j0 j1 hp; exact hp
  | succ k ih =>
    intro j j0 j1 hp
    obtain ⟨p0, q', hq, hr, hp'⟩ := hp
    obtain ⟨q2, hq2, hj⟩ := pt j j0 (by omega)
    have e := RS_det W hq hq2
    subst e
    have a := (hs.2.1 i i0 i1).1
    have b := (hs.2.1 j j0 (by omega)).1
    have inj := hs.2.2.2.2
    have np : X 46 j ≠ X 46 i := fun e => by have := inj j i j0 (by omega) i0 i1 e; omega
    have nq : q' ≠ X 46 i := by
      rcases hj with ⟨z, -⟩ | ⟨l, l0, l1, l2⟩
      · omega
      · intro e
        have := inj l i l0 (by omega) i0 i1 (by rw [l2]; exact e)
        omega
    obtain ⟨g1, g2⟩ := mv_rm (n := n) W a.1 a.2 b.1 b.2 h hq np nq
    refine ⟨p0, q', ?_, ?_, ?_⟩
    · rw [mvm_f (by decide) (by decide)]; exact g2
    · rw [mvm_f (k := 44) (by decide) (by decide), g1]; exact hr
    · rcases hj with ⟨z, -⟩ | ⟨l, l0, l1, l2⟩
      · subst z
        cases k with
        | zero => rfl
        | succ k => exact absurd hp'.1 (by decide)
      · rw [← l2] at hp' ⊢
        exact ih l l0 (by omega) hp'
theorem SI_cg {X1 : Me} (h : ∀ k, k ≠ 41 → k ≠ 42 → X1 k = X k) (hs : SI K t X) : SI K t X1 := by
  unfold SI mz at *
  rw [h 7 (by decide) (by decide), h 43 (by decide) (by decide), h 45 (by decide) (by decide), h 46 (by decide) (by decide)]
  exact hs
theorem l_23 {r h x : Int} {st : Int} (W : WK K) (n1 : 1 ≤ n) (n2 : n ≤ 500) (erh : rt = h * 10 + K 25 r) (ers : rs = 2 + r) (r0 : 0 ≤ r) (r1 : r < K 3 8) (ho : h + K 28 r ≤ t) (h0 : 0 ≤ h) (ht : t ≤ 100) (g : Int → Int)
    (H : ∀ X', (∀ k, k ≠ 41 → k ≠ 42 → X' k = X k) → Vw K t (fwt X') → Vs K t (fsr X') → (∀ χ w, LL K g (fwt X') (fsr X') χ w = LL K g (fwt X) (fsr X) χ w + n * (w - chv χ w x)) → COk K X' → (∀ r' y, 0 ≤ r' → r' < K 3 8 → K 26 r' = -1 → 0 ≤ y → y < 100 → X' 42 (r' * 100 + y) = X 42 (r' * 100 + y) + (if r' = r ∧ y = h then n else 0)) → Q 0 X') :
    ∀ (k : Nat) (Y : Me) (i c : Int) (z : Option AV), 0 ≤ i → i < Y 7 10 → 0 ≤ c → c + (k : Int) ≤ 1010 → pth K Y n k (Y 46 i) → f7 K Y → SI K t Y → PT K M rt rs Y → (∀ i, 0 ≤ i → i < 1010 → 0 ≤ Y 41 i ∧ Y 41 i ≤ 5000 + 500 * c) → (∀ k, k ≠ 41 → k ≠ 42 → Y k = X k) → Vw K t (fwt Y) → Vs K t (fsr Y) → (∀ χ w, LL K g (fwt Y) (fsr Y) χ w = LL K g (fwt X) (fsr X) χ w + n * (chv χ w (Y 46 i) - chv χ w x)) → COk K Y → (∀ r' y, 0 ≤ r' → r' < K 3 8 → K 26 r' = -1 → 0 ≤ y → y < 100 → Y 42 (r' * 100 + y) = X 42 (r' * 100 + y)) →
    Rn (d + 2) (blk 23 1) 23 [some (vR 7), some (vR 3), some (vI st), some (vI n), some (vI (Y 46 i)), some (vI c), z] [] Y Q := by
  have hn := W.2.2
  intro k
  induction k with
  | zero =>
    intro Y i c z i0 i1 c0 c1 hp f hs
    have a := (hs.2.1 i i0 i1).1
    have : Y 46 i = -1 := hp
    omega
  | succ k ih =>
    intro Y i c z i0 i1 c0 c1 hp f hs pt hb hY hw hv hl hco hout
    have a := hs.2.1 i i0 i1
    obtain ⟨p0, q, hq, hr, hp'⟩ := hp
    obtain ⟨q2, hq2, hj⟩ := pt i i0 i1
    have e := RS_det W hq hq2
    subst e
    have am := hs.2.2.1 _ a.1.1 a.1.2 a.2
    have okP : okp K t (Y 46 i) := ⟨a.1.1, a.1.2, am.2⟩
    have okQ : q = -1 ∨ okp K t q := by
      rcases hj with ⟨z, -⟩ | ⟨l, l0, l1, l2⟩
      · exact Or.inl z
      · have b := hs.2.1 l l0 (by omega)
        rw [l2] at b
        exact Or.inr ⟨b.1.1, b.1.2, (hs.2.2.1 _ b.1.1 b.1.2 b.2).2⟩
    have s4 := hs.1.2.2.2
    have mP : 0 ≤ Y 43 (Y 46 i) := by rw [a.2.2]; omega
    have mQ : q = -1 ∨ (0 ≤ q ∧ q < 1010 ∧ 0 ≤ Y 43 q) := by
      rcases hj with ⟨z, -⟩ | ⟨l, l0, l1, l2⟩
      · exact Or.inl z
      · have b := hs.2.1 l l0 (by omega)
        rw [l2] at b
        exact Or.inr ⟨b.1.1, b.1.2, by rw [b.2.2]; omega⟩
    have hoo : q = -1 → Y 46 i / 10 + K 28 (Y 44 (Y 46 i) - 2) ≤ t := by
      intro z
      obtain ⟨r12, rf, rt', rb, rl, rn⟩ := WK_r W r0 r1
      rcases hj with ⟨-, y1, y2⟩ | ⟨l, l0, l1, l2⟩
      · rw [y2, y1, erh, ers, show 2 + r - 2 = r by omega, show (h * 10 + K 25 r) / 10 = h by omega]; exact ho
      · have b := hs.2.1 l l0 (by omega)
        rw [l2] at b
        omega
    have V' := mv_V (n := n) W hw hv okP okQ hoo (by omega) hq hr
    have C' := mv_CO (n := n) W hco a.1.1 a.1.2 mP mQ hq
    have L' : ∀ χ w, LL K g (fwt (mvm K Y (Y 46 i) (Y 44 (Y 46 i)) n)) (fsr (mvm K Y (Y 46 i) (Y 44 (Y 46 i)) n)) χ w = LL K g (fwt X) (fsr X) χ w + n * (chv χ w q - chv χ w x) := by
      intro χ w
      rw [mv_LL W a.1.1 a.1.2 hq, hl χ w, Int.mul_sub, Int.mul_sub, Int.mul_sub]
      omega
    have Y' : ∀ k, k ≠ 41 → k ≠ 42 → mvm K Y (Y 46 i) (Y 44 (Y 46 i)) n k = X k := fun k q1 q2 => by rw [mvm_f q1 q2, hY k q1 q2]
    rw [bq23_1]
    simp only [bq23_2, s_0, lgI_some, s_1I, s_3, s_5K, s_30, cnP_0, cnP_1, cnP_2, cnP_3, cnP_4, cnP_5, s_31, s_38, s_47, lgR_some, s_53, s_54, res_0, res_1, nlg_n, nlg_I, nlg_R, Bool.true_and, Bool.and_self, Bool.and_true, lg_0, lg_1, lg_2, lg_3, lg_4, lg_5, lg_6, lz_0, lz_1, lz_2, lz_3, lz_4, lz_5, lz_6, lp_0, lp_1, lp_2, lp_3, lp_4, lp_5, lp_6, isL_n, isL_I, isL_R, rc_24_7, rc_26_7, List.length_cons, List.length_nil, Nat.reduceAdd, Nat.reduceLT, Nat.reduceLeDiff, true_and, and_true, true_or, or_true, Int.reduceEq, Nat.reduceEqDiff, reduceCtorEq, true_implies, false_implies, not_true_eq_false, not_false_eq_true, Nat.zero_le, Int.zero_add, Nat.zero_add, Nat.lt_add_one, eq_self, forall_const, implies_true, Bool.false_eq_true, false_or, or_false, and_self, ne_eq, me_ne, me_self, show ¬ 1010 ≤ c by omega, show ¬ Y 46 i = -1 by omega]
    refine c_24 W f a.1.1 a.1.2 rfl hq ?_
    refine c_26 (t := t) W f hv (fun i i0 i1 => by have := hb i i0 i1; omega) (by omega) n2 hr a.1.1 a.1.2 rfl hq ?_
    simp only [s_0, lgI_some, s_1I, s_3, s_5K, s_30, cnP_0, cnP_1, cnP_2, cnP_3, cnP_4, cnP_5, s_31, s_47, lgR_some, s_53, s_54, res_0, res_1, nlg_n, nlg_I, nlg_R, Bool.true_and, Bool.and_self, Bool.and_true, lg_0, lg_1, lg_2, lg_3, lg_4, lg_5, lg_6, lz_0, lz_1, lz_2, lz_3, lz_4, lz_5, lz_6, lp_0, lp_1, lp_2, lp_3, lp_4, lp_5, lp_6, isL_n, isL_I, isL_R, rc_24_7, rc_26_7, List.length_cons, List.length_nil, Nat.reduceAdd, Nat.reduceLT, Nat.reduceLeDiff, true_and, and_true, true_or, or_true, Int.reduceEq, Nat.reduceEqDiff, reduceCtorEq, true_implies, false_implies, not_true_eq_false, not_false_eq_true, Nat.zero_le, Int.zero_add, Nat.zero_add, Nat.lt_add_one, eq_self, forall_const, implies_true, Bool.false_eq_true, false_or, or_false, and_self, ne_eq, me_ne, me_self, show w32 (c + 1) = c + 1 from w32_id (by omega) (by omega)]
    rcases hj with ⟨zq, y1, y2⟩ | ⟨l, l0, l1, l2⟩
    · subst zq
      obtain ⟨r12, rf, rt', rb, rl, rn⟩ := WK_r W r0 r1
      have fin := H _ Y' V'.1 V'.2 L' C' (fun r' y g0 g1 g2 y0 y1' => by
        rw [mv_OUT W a.1.1 a.1.2 hq g0 g1 g2 y0 y1', hout r' y g0 g1 g2 y0 y1', y2, y1, erh, ers, show 2 + r - 2 = r by omega, show (h * 10 + K 25 r) / 10 = h by omega]
        by_cases w : r' = r ∧ y = h
        · rw [if_pos w, if_pos ⟨rfl, by rw [w.1, w.2]⟩]
        · rw [if_neg w, if_neg (by omega)])
      rw [bq23_1]
      simp only [bq23_2, s_0, lgI_some, s_1I, s_3, s_5K, s_30, cnP_0, cnP_1, cnP_2, cnP_3, cnP_4, cnP_5, s_31, s_38, s_47, lgR_some, s_53, s_54, res_0, res_1, nlg_n, nlg_I, nlg_R, Bool.true_and, Bool.and_self, Bool.and_true, lg_0, lg_1, lg_2, lg_3, lg_4, lg_5, lg_6, lz_0, lz_1, lz_2, lz_3, lz_4, lz_5, lz_6, lp_0, lp_1, lp_2, lp_3, lp_4, lp_5, lp_6, isL_n, isL_I, isL_R, rc_24_7, rc_26_7, List.length_cons, List.length_nil, Nat.reduceAdd, Nat.reduceLT, Nat.reduceLeDiff, true_and, and_true, true_or, or_true, Int.reduceEq, Nat.reduceEqDiff, reduceCtorEq, true_implies, false_implies, not_true_eq_false, not_false_eq_true, Nat.zero_le, Int.zero_add, Nat.zero_add, Nat.lt_add_one, eq_self, forall_const, implies_true, Bool.false_eq_true, false_or, or_false, and_self, ne_eq, me_ne, me_self]
      exact ⟨fun _ => fin, fun _ => fin⟩
    · have b := hs.2.1 l l0 (by omega)
      have e46 : mvm K Y (Y 46 i) (Y 44 (Y 46 i)) n 46 = Y 46 := mvm_f (by decide) (by decide)
      have e7 : mvm K Y (Y 46 i) (Y 44 (Y 46 i)) n 7 = Y 7 := mvm_f (by decide) (by decide)
      have pr := pth_mv (n := n) W hs pt i0 i1 hq k l l0 l1 (by rw [l2]; exact hp')
      rw [show q = mvm K Y (Y 46 i) (Y 44 (Y 46 i)) n 46 l by rw [e46, l2]]
      refine ih _ l (c + 1) _ l0 (by rw [e7]; omega) (by omega) (by omega) (by rw [e46]; exact pr) ?_ (SI_cg (fun k q1 q2 => mvm_f q1 q2) hs) ?_ ?_ Y' V'.1 V'.2 ?_ C' ?_
      · intro k q1 q2
        rw [mvm_f (by omega) (by omega), f k q1 q2]
      · intro j j0 j1
        rw [e7] at j1
        rw [e46, mvm_f (k := 44) (by decide) (by decide)]
        exact pt j j0 j1
      · intro j j0 j1
        have bj := hb j j0 j1
        unfold rmf at hr
        unfold mvm
        split
        · by_cases w : j = Y 46 i
          · rw [w, me_self]; have := hb (Y 46 i) a.1.1 a.1.2; omega
          · rw [me_i _ w]; omega
        · split
          · rename_i z1 z2
            rw [if_neg z1, if_pos z2] at hr
            by_cases w : j = Y 46 i - 10
            · rw [w, me_self]; have := hb (Y 46 i - 10) (by omega) (by omega); omega
            · rw [me_i _ w]; omega
          · split <;> rw [me_ne _ _ _ _ (by decide)] <;> omega
      · intro χ w
        rw [e46, l2]; exact L' χ w
      · intro r' y g0 g1 g2 y0 y1
        rw [mv_OUT W a.1.1 a.1.2 hq g0 g1 g2 y0 y1, hout r' y g0 g1 g2 y0 y1, if_neg (fun z => by rw [l2] at b; omega)]
        omega
end FI

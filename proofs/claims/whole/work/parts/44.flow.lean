/-! sums, and the theory of flows: a valid flow, a shut heap, the cut -/
def sm : Nat → (Int → Int) → Int
  | 0, _ => 0
  | n + 1, f => sm n f + f (n : Int)
theorem sm_cg {n : Nat} {f g : Int → Int} (h : ∀ i : Int, 0 ≤ i → i < n → f i = g i) : sm n f = sm n g := by
  induction n with
  | zero => rfl
  | succ n ih =>
    simp only [sm]
    rw [ih (fun i h1 h2 => h i h1 (by omega)), h n (by omega) (by omega)]
theorem sm_le {n : Nat} {f g : Int → Int} (h : ∀ i : Int, 0 ≤ i → i < n → f i ≤ g i) : sm n f ≤ sm n g := by
  induction n with
  | zero => exact Int.le_refl _
  | succ n ih =>
    simp only [sm]
    have h1 := ih (fun i h1 h2 => h i h1 (by omega))
    have h2 := h n (by omega) (by omega)
    omega
theorem sm_ee {n : Nat} {f g : Int → Int} (h : ∀ i : Int, 0 ≤ i → i < n → f i ≤ g i) (e : sm n f = sm n g) : ∀ i : Int, 0 ≤ i → i < n → f i = g i := by
  induction n with
  | zero => intro i h1 h2; omega
  | succ n ih =>
    simp only [sm] at e
    have h1 := sm_le (n := n) (f := f) (g := g) (fun i h1 h2 => h i h1 (by omega))
    have h2 := h n (by omega) (by omega)
    intro i h3 h4
    by_cases q : i = n
    · subst q; omega
    · exact ih (fun i h1 h2 => h i h1 (by omega)) (by omega) i h3 (by omega)
theorem sm_up {n : Nat} {f g : Int → Int} {k x : Int} (h0 : 0 ≤ k) (h1 : k < n) (hk : g k = f k + x) (ho : ∀ i : Int, 0 ≤ i → i < n → i ≠ k → g i = f i) : sm n g = sm n f + x := by
  induction n with
  | zero => omega
  | succ n ih =>
    simp only [sm]
    by_cases q : k = n
    · subst q
      rw [sm_cg (f := g) (g := f) (fun i h1 h2 => ho i h1 (by omega) (by omega)), hk]
      omega
    · rw [ih (by omega) (fun i h1 h2 h3 => ho i h1 (by omega) h3), ho n (by omega) (by omega) (by omega)]
      omega
theorem sm2_up {a b : Nat} {F G : Int → Int → Int} {c h x : Int} (hc0 : 0 ≤ c) (hc : c < a) (hh0 : 0 ≤ h) (hh : h < b) (hk : G c h = F c h + x) (ho : ∀ i j : Int, 0 ≤ i → i < a → 0 ≤ j → j < b → ¬ (i = c ∧ j = h) → G i j = F i j) : sm a (fun i => sm b (G i)) = sm a (fun i => sm b (F i)) + x := by
  refine sm_up hc0 hc ?_ ?_
  · exact sm_up hh0 hh hk (fun j h1 h2 h3 => ho c j hc0 hc h1 h2 (fun q => h3 q.2))
  · intro i h1 h2 h3
    exact sm_cg (fun j h4 h5 => ho i j h1 h2 h4 h5 (fun q => h3 q.1))
theorem sm_0 (n : Nat) : sm n (fun _ => 0) = 0 := by
  induction n with
  | zero => rfl
  | succ n ih => simp only [sm]; omega
/-- a place: a cell and an hour in which it isn't wet -/
def pl (K : Me) (c h : Int) : Prop := 0 ≤ c ∧ c < 10 ∧ c < K 1 8 ∧ K 9 c ≠ 0 ∧ K 5 2 ≤ h ∧ h ≤ 100 ∧ K 38 (h * 10 + c) < K 10 c
def hdv (K : Me) (χ : Int → Int → Int) (w r h : Int) : Int := if K 26 r = -1 then w else χ (K 26 r) (h + K 28 r)
def LL (K : Me) (g : Int → Int) (wt st : Int → Int → Int) (χ : Int → Int → Int) (w : Int) : Int :=
  sm 10 (fun c => g c * χ c (K 5 2)) + sm 10 (fun c => sm 101 (fun h => wt c h * (χ c (h + 1) - χ c h))) + sm 12 (fun r => sm 101 (fun h => st r h * (hdv K χ w r h - χ (K 25 r) h)))
def Vg (K : Me) (g : Int → Int) : Prop := ∀ c : Int, 0 ≤ c → c < 10 → 0 ≤ g c ∧ (g c ≠ 0 → pl K c (K 5 2) ∧ g c ≤ K 13 c)
def Vw (K : Me) (t : Int) (wt : Int → Int → Int) : Prop := ∀ c h : Int, 0 ≤ c → c < 10 → 0 ≤ h → h < 101 → 0 ≤ wt c h ∧ (wt c h ≠ 0 → pl K c h ∧ pl K c (h + 1) ∧ h + 1 ≤ t)
def Vs (K : Me) (t : Int) (st : Int → Int → Int) : Prop := ∀ r h : Int, 0 ≤ r → r < 12 → 0 ≤ h → h < 101 → 0 ≤ st r h ∧ (st r h ≠ 0 → r < K 3 8 ∧ st r h ≤ K 27 r ∧ pl K (K 25 r) h ∧ h + K 28 r ≤ t ∧ (K 26 r ≠ -1 → pl K (K 26 r) (h + K 28 r)))
/-- a valid flow to hour t, of value v -/
def Vl (K : Me) (t : Int) (g : Int → Int) (wt st : Int → Int → Int) (v : Int) : Prop :=
  Vg K g ∧ Vw K t wt ∧ Vs K t st ∧ ∀ χ w, LL K g wt st χ w = v * w
/-- closed under steps beside the flow -/
def Cz (K : Me) (t : Int) (g : Int → Int) (wt st : Int → Int → Int) (S : Int → Int → Prop) : Prop :=
  (∀ c, pl K c (K 5 2) → g c < K 13 c → S c (K 5 2)) ∧
  (∀ c h, S c h → pl K c h → pl K c (h + 1) → h + 1 ≤ t → S c (h + 1)) ∧
  (∀ c h, S c (h + 1) → pl K c h → 0 < wt c h → S c h) ∧
  (∀ r h, 0 ≤ r → r < 12 → r < K 3 8 → K 26 r ≠ -1 → S (K 25 r) h → pl K (K 25 r) h → pl K (K 26 r) (h + K 28 r) → h + K 28 r ≤ t → st r h < K 27 r → S (K 26 r) (h + K 28 r)) ∧
  (∀ r h, 0 ≤ r → r < 12 → r < K 3 8 → K 26 r ≠ -1 → S (K 26 r) (h + K 28 r) → pl K (K 25 r) h → 0 < st r h → S (K 25 r) h)
/-- no step to OUT is left -/
def Nz (K : Me) (t : Int) (st : Int → Int → Int) (S : Int → Int → Prop) : Prop :=
  ∀ r h, 0 ≤ r → r < 12 → r < K 3 8 → K 26 r = -1 → S (K 25 r) h → pl K (K 25 r) h → h + K 28 r ≤ t → K 27 r ≤ st r h
section FL
variable {K : Me} {t v v' : Int} {g g' : Int → Int} {wt wt' st st' : Int → Int → Int} {S : Int → Int → Prop}
noncomputable def chi (S : Int → Int → Prop) (c h : Int) : Int := @ite Int (S c h) (Classical.propDecidable _) 0 1
theorem chi_t {c h : Int} (q : S c h) : chi S c h = 0 := by unfold chi; rw [if_pos q]
theorem chi_f {c h : Int} (q : ¬ S c h) : chi S c h = 1 := by unfold chi; rw [if_neg q]
theorem cut_g (V : Vg K g) (V' : Vg K g') (C : Cz K t g wt st S) {c : Int} (h0 : 0 ≤ c) (h1 : c < 10) : g' c * chi S c (K 5 2) ≤ g c * chi S c (K 5 2) := by
  by_cases q : S c (K 5 2)
  · rw [chi_t q]; omega
  · rw [chi_f q]
    have a := V c h0 h1
    have b := V' c h0 h1
    by_cases z : g' c = 0
    · omega
    · have d := b.2 z
      have : ¬ g c < K 13 c := fun e => q (C.1 c d.1 e)
      omega
theorem cut_w (V : Vw K t wt) (V' : Vw K t wt') (C : Cz K t g wt st S) {c h : Int} (h0 : 0 ≤ c) (h1 : c < 10) (h2 : 0 ≤ h) (h3 : h < 101) : wt' c h * (chi S c (h + 1) - chi S c h) ≤ wt c h * (chi S c (h + 1) - chi S c h) := by
  have a := V c h h0 h1 h2 h3
  have b := V' c h h0 h1 h2 h3
  by_cases q : S c h
  · by_cases p : S c (h + 1)
    · rw [chi_t q, chi_t p]; omega
    · rw [chi_t q, chi_f p]
      by_cases z : wt' c h = 0
      · omega
      · have d := b.2 z
        exact (p (C.2.1 c h q d.1 d.2.1 d.2.2)).elim
  · by_cases p : S c (h + 1)
    · rw [chi_f q, chi_t p]
      by_cases z : wt c h = 0
      · omega
      · exact (q (C.2.2.1 c h p (a.2 z).1 (by omega))).elim
    · rw [chi_f q, chi_f p]; omega
theorem cut_s (V : Vs K t st) (V' : Vs K t st') (C : Cz K t g wt st S) (N : Nz K t st S) {r h : Int} (h0 : 0 ≤ r) (h1 : r < 12) (h2 : 0 ≤ h) (h3 : h < 101) : st' r h * (hdv K (chi S) 1 r h - chi S (K 25 r) h) ≤ st r h * (hdv K (chi S) 1 r h - chi S (K 25 r) h) := by
  have a := V r h h0 h1 h2 h3
  have b := V' r h h0 h1 h2 h3
  unfold hdv
  by_cases o : K 26 r = -1
  · rw [if_pos o]
    by_cases q : S (K 25 r) h
    · rw [chi_t q]
      by_cases z : st' r h = 0
      · omega
      · have d := b.2 z
        have := N r h h0 h1 d.1 o q d.2.2.1 d.2.2.2.1
        omega
    · rw [chi_f q]; omega
  · rw [if_neg o]
    by_cases q : S (K 25 r) h
    · by_cases p : S (K 26 r) (h + K 28 r)
      · rw [chi_t q, chi_t p]; omega
      · rw [chi_t q, chi_f p]
        by_cases z : st' r h = 0
        · omega
        · have d := b.2 z
          have : ¬ st r h < K 27 r := fun e => p (C.2.2.2.1 r h h0 h1 d.1 o q d.2.2.1 (d.2.2.2.2 o) d.2.2.2.1 e)
          omega
    · by_cases p : S (K 26 r) (h + K 28 r)
      · rw [chi_f q, chi_t p]
        by_cases z : st r h = 0
        · omega
        · have d := a.2 z
          exact (q (C.2.2.2.2 r h h0 h1 d.1 o p d.2.2.1 (by omega))).elim
      · rw [chi_f q, chi_f p]; omega
/-- no flow is greater than one with a cut, and one that is as great has the same cut -/
theorem cut_le (hn : 0 ≤ K 5 2) (V : Vl K t g wt st v) (C : Cz K t g wt st S) (N : Nz K t st S) (V' : Vl K t g' wt' st' v') : v' ≤ v ∧ (v' = v → Cz K t g' wt' st' S ∧ Nz K t st' S) := by
  have e1 := V.2.2.2 (chi S) 1
  have e2 := V'.2.2.2 (chi S) 1
  unfold LL at e1 e2
  have l1 := sm_le (n := 10) (fun c h0 h1 => cut_g V.1 V'.1 C h0 (by omega))
  have i2 := fun (c : Int) (h0 : 0 ≤ c) (h1 : c < 10) => sm_le (n := 101) (fun h h2 h3 => cut_w V.2.1 V'.2.1 C h0 h1 h2 (by omega))
  have l2 := sm_le (n := 10) (fun c h0 h1 => i2 c h0 (by omega))
  have i3 := fun (r : Int) (h0 : 0 ≤ r) (h1 : r < 12) => sm_le (n := 101) (fun h h2 h3 => cut_s V.2.2.1 V'.2.2.1 C N h0 h1 h2 (by omega))
  have l3 := sm_le (n := 12) (fun c h0 h1 => i3 c h0 (by omega))
  refine ⟨by omega, fun e => ?_⟩
  have x1 := sm_ee (n := 10) (fun c h0 h1 => cut_g V.1 V'.1 C h0 (by omega)) (by omega)
  have x2 : ∀ c h : Int, 0 ≤ c → c < 10 → 0 ≤ h → h < 101 → wt' c h * (chi S c (h + 1) - chi S c h) = wt c h * (chi S c (h + 1) - chi S c h) := by
    intro c h h0 h1 h2 h3
    have := sm_ee (n := 10) (fun c h0 h1 => i2 c h0 (by omega)) (by omega) c h0 (by omega)
    exact sm_ee (n := 101) (fun h h2 h3 => cut_w V.2.1 V'.2.1 C h0 h1 h2 (by omega)) this h h2 (by omega)
  have x3 : ∀ r h : Int, 0 ≤ r → r < 12 → 0 ≤ h → h < 101 → st' r h * (hdv K (chi S) 1 r h - chi S (K 25 r) h) = st r h * (hdv K (chi S) 1 r h - chi S (K 25 r) h) := by
    intro c h h0 h1 h2 h3
    have := sm_ee (n := 12) (fun c h0 h1 => i3 c h0 (by omega)) (by omega) c h0 (by omega)
    exact sm_ee (n := 101) (fun h h2 h3 => cut_s V.2.2.1 V'.2.2.1 C N h0 h1 h2 (by omega)) this h h2 (by omega)
  refine ⟨⟨?_, C.2.1, ?_, ?_, ?_⟩, ?_⟩
  · intro c hp hl
    apply Classical.byContradiction
    intro q
    have a := x1 c hp.1 (by have := hp.2.1; omega)
    simp only [chi_f q] at a
    exact q (C.1 c hp (by omega))
  · intro c h hs hp hl
    apply Classical.byContradiction
    intro q
    have a := x2 c h hp.1 (by have := hp.2.1; omega) (by have := hp.2.2.2.2; omega) (by have := hp.2.2.2.2; omega)
    rw [chi_f q, chi_t hs] at a
    exact q (C.2.2.1 c h hs hp (by omega))
  · intro r h h0 h1 hr ho hs hp hp2 ht hl
    apply Classical.byContradiction
    intro q
    have a := x3 r h h0 h1 (by have := hp.2.2.2.2; omega) (by have := hp.2.2.2.2; omega)
    unfold hdv at a
    rw [if_neg ho, chi_f q, chi_t hs] at a
    exact q (C.2.2.2.1 r h h0 h1 hr ho hs hp hp2 ht (by omega))
  · intro r h h0 h1 hr ho hs hp hl
    apply Classical.byContradiction
    intro q
    have a := x3 r h h0 h1 (by have := hp.2.2.2.2; omega) (by have := hp.2.2.2.2; omega)
    unfold hdv at a
    rw [if_neg ho, chi_f q, chi_t hs] at a
    exact q (C.2.2.2.2 r h h0 h1 hr ho hs hp (by omega))
  · intro r h h0 h1 hr ho hs hp ht
    have a := x3 r h h0 h1 (by have := hp.2.2.2.2; omega) (by have := hp.2.2.2.2; omega)
    unfold hdv at a
    rw [if_pos ho, chi_t hs] at a
    have := N r h h0 h1 hr ho hs hp ht
    omega
/-- what can be come to beside the flow -/
def Rz (K : Me) (t : Int) (g : Int → Int) (wt st : Int → Int → Int) (c h : Int) : Prop := ∀ S, Cz K t g wt st S → S c h
theorem Rz_cz : Cz K t g wt st (Rz K t g wt st) := by
  refine ⟨?_, ?_, ?_, ?_, ?_⟩
  · intro c h1 h2 S C; exact C.1 c h1 h2
  · intro c h h1 h2 h3 h4 S C; exact C.2.1 c h (h1 S C) h2 h3 h4
  · intro c h h1 h2 h3 S C; exact C.2.2.1 c h (h1 S C) h2 h3
  · intro r h h0 h1 h2 h3 h4 h5 h6 h7 h8 S C; exact C.2.2.2.1 r h h0 h1 h2 h3 (h4 S C) h5 h6 h7 h8
  · intro r h h0 h1 h2 h3 h4 h5 h6 S C; exact C.2.2.2.2 r h h0 h1 h2 h3 (h4 S C) h5 h6
/-- the greatest -/
def Mx (K : Me) (t v : Int) : Prop := (∃ g wt st, Vl K t g wt st v) ∧ ∀ g wt st v', Vl K t g wt st v' → v' ≤ v
theorem Mx_un {v v' : Int} (h : Mx K t v) (h' : Mx K t v') : v = v' := by
  obtain ⟨⟨g, wt, st, a⟩, b⟩ := h
  obtain ⟨⟨g', wt', st', a'⟩, b'⟩ := h'
  have := b _ _ _ _ a'
  have := b' _ _ _ _ a
  omega
theorem Mx_of (hn : 0 ≤ K 5 2) (V : Vl K t g wt st v) (C : Cz K t g wt st S) (N : Nz K t st S) : Mx K t v :=
  ⟨⟨g, wt, st, V⟩, fun _ _ _ _ V' => (cut_le hn V C N V').1⟩
theorem Vl_mo {t' : Int} (ht : t ≤ t') (V : Vl K t g wt st v) : Vl K t' g wt st v := by
  refine ⟨V.1, ?_, ?_, V.2.2.2⟩
  · intro c h h0 h1 h2 h3
    have a := V.2.1 c h h0 h1 h2 h3
    exact ⟨a.1, fun z => ⟨(a.2 z).1, (a.2 z).2.1, by have := (a.2 z).2.2; omega⟩⟩
  · intro r h h0 h1 h2 h3
    have a := V.2.2.1 r h h0 h1 h2 h3
    exact ⟨a.1, fun z => ⟨(a.2 z).1, (a.2 z).2.1, (a.2 z).2.2.1, by have := (a.2 z).2.2.2.1; omega, (a.2 z).2.2.2.2⟩⟩
theorem Mx_mo {t' v v' : Int} (ht : t ≤ t') (h : Mx K t v) (h' : Mx K t' v') : v ≤ v' := by
  obtain ⟨⟨g, wt, st, a⟩, b⟩ := h
  exact h'.2 _ _ _ _ (Vl_mo ht a)
/-- the heap of two greatest flows is one -/
theorem heap_un {S' : Int → Int → Prop} (hn : 0 ≤ K 5 2) (V : Vl K t g wt st v) (C : Cz K t g wt st S) (N : Nz K t st S) (R : ∀ c h, S c h → Rz K t g wt st c h)
    (V' : Vl K t g' wt' st' v') (C' : Cz K t g' wt' st' S') (N' : Nz K t st' S') (R' : ∀ c h, S' c h → Rz K t g' wt' st' c h) : v = v' ∧ ∀ c h, S c h ↔ S' c h := by
  have a := cut_le hn V C N V'
  have b := cut_le hn V' C' N' V
  have e : v = v' := by omega
  refine ⟨e, fun c h => ⟨fun q => R c h q S' (b.2 e).1, fun q => R' c h q S (a.2 e.symm).1⟩⟩
theorem sm2_0 (a b : Nat) : sm a (fun _ => sm b (fun _ => 0)) = 0 := by
  rw [sm_0 b, sm_0 a]
theorem Vl_0 : Vl K t (fun _ => 0) (fun _ _ => 0) (fun _ _ => 0) 0 := by
  refine ⟨fun c _ _ => ⟨Int.le_refl 0, fun h => (h rfl).elim⟩, fun c h _ _ _ _ => ⟨Int.le_refl 0, fun h => (h rfl).elim⟩, fun c h _ _ _ _ => ⟨Int.le_refl 0, fun h => (h rfl).elim⟩, fun χ w => ?_⟩
  unfold LL
  simp only [Int.zero_mul, sm_0]
  omega
theorem LL_g {χ : Int → Int → Int} {w c n : Int} (h0 : 0 ≤ c) (h1 : c < 10) (hk : g' c = g c + n) (ho : ∀ i : Int, 0 ≤ i → i < 10 → i ≠ c → g' i = g i) : LL K g' wt st χ w = LL K g wt st χ w + n * χ c (K 5 2) := by
  unfold LL
  rw [sm_up (n := 10) (f := fun c => g c * χ c (K 5 2)) (g := fun c => g' c * χ c (K 5 2)) (x := n * χ c (K 5 2)) h0 (by omega) (by simp only [hk, Int.add_mul]) (fun i h1 h2 h3 => by simp only [ho i h1 (by omega) h3])]
  omega
theorem LL_w {χ : Int → Int → Int} {w c h n : Int} (h0 : 0 ≤ c) (h1 : c < 10) (h2 : 0 ≤ h) (h3 : h < 101) (hk : wt' c h = wt c h + n) (ho : ∀ i j : Int, 0 ≤ i → i < 10 → 0 ≤ j → j < 101 → ¬ (i = c ∧ j = h) → wt' i j = wt i j) : LL K g wt' st χ w = LL K g wt st χ w + n * (χ c (h + 1) - χ c h) := by
  unfold LL
  rw [sm2_up (a := 10) (b := 101) (F := fun c h => wt c h * (χ c (h + 1) - χ c h)) (G := fun c h => wt' c h * (χ c (h + 1) - χ c h)) (x := n * (χ c (h + 1) - χ c h)) h0 (by omega) h2 (by omega) (by simp only [hk, Int.add_mul]) (fun i j a1 a2 a3 a4 a5 => by simp only [ho i j a1 (by omega) a3 (by omega) a5])]
  omega
theorem LL_s {χ : Int → Int → Int} {w r h n : Int} (h0 : 0 ≤ r) (h1 : r < 12) (h2 : 0 ≤ h) (h3 : h < 101) (hk : st' r h = st r h + n) (ho : ∀ i j : Int, 0 ≤ i → i < 12 → 0 ≤ j → j < 101 → ¬ (i = r ∧ j = h) → st' i j = st i j) : LL K g wt st' χ w = LL K g wt st χ w + n * (hdv K χ w r h - χ (K 25 r) h) := by
  unfold LL
  rw [sm2_up (a := 12) (b := 101) (F := fun r h => st r h * (hdv K χ w r h - χ (K 25 r) h)) (G := fun r h => st' r h * (hdv K χ w r h - χ (K 25 r) h)) (x := n * (hdv K χ w r h - χ (K 25 r) h)) h0 (by omega) h2 (by omega) (by simp only [hk, Int.add_mul]) (fun i j a1 a2 a3 a4 a5 => by simp only [ho i j a1 (by omega) a3 (by omega) a5])]
  omega
end FL

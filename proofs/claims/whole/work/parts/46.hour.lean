/-! the invariant's parts on the class's world, and the pure hour -/
theorem lc_le (x y : Int) : ((if x < y then (-1 : Int) else if x = y then 0 else 1) ≤ 0) = (x ≤ y) := by
  apply propext
  by_cases h : x < y
  · simp only [h, if_true]; omega
  · by_cases h2 : x = y
    · subst h2; simp
    · simp only [h, h2, if_false]; omega
theorem lc_ge (x y : Int) : (0 ≤ (if x < y then (-1 : Int) else if x = y then 0 else 1)) = (y ≤ x) := by
  apply propext
  by_cases h : x < y
  · simp only [h, if_true]; omega
  · by_cases h2 : x = y
    · subst h2; simp
    · simp only [h, h2, if_false]; omega
/-- how many of the first k are no cells -/
def rk (f : Int → Int) : Nat → Int
  | 0 => 0
  | k + 1 => rk f k + (if f (k : Int) = 0 then 1 else 0)
theorem rk_bd (f : Int → Int) (k : Nat) : 0 ≤ rk f k ∧ rk f k ≤ k := by
  induction k with
  | zero => exact ⟨Int.le_refl _, Int.le_refl _⟩
  | succ k ih =>
    simp only [rk]
    split <;> omega
theorem rk_inv (f : Int → Int) (n : Nat) : ∀ i : Int, 0 ≤ i → i < rk f n → ∃ c : Nat, c < n ∧ f c = 0 ∧ rk f c = i := by
  induction n with
  | zero => intro i h0 h1; simp only [rk] at h1; omega
  | succ n ih =>
    intro i h0 h1
    simp only [rk] at h1
    by_cases q : i < rk f n
    · obtain ⟨c, a, b, e⟩ := ih i h0 q
      exact ⟨c, by omega, b, e⟩
    · by_cases z : f n = 0
      · rw [if_pos z] at h1
        exact ⟨n, by omega, z, by omega⟩
      · rw [if_neg z] at h1; omega
theorem rk_cg {f g : Int → Int} {n : Nat} (h : ∀ c : Nat, c < n → f c = g c) : rk f n = rk g n := by
  induction n with
  | zero => rfl
  | succ n ih => simp only [rk]; rw [ih (fun c hc => h c (by omega)), h n (by omega)]
theorem rk_le {f : Int → Int} {a b : Nat} (h : a ≤ b) : rk f a ≤ rk f b := by
  induction b with
  | zero => have : a = 0 := by omega
            subst this; exact Int.le_refl _
  | succ b ih =>
    by_cases q : a = b + 1
    · subst q; exact Int.le_refl _
    · have := ih (by omega)
      simp only [rk]
      split <;> omega
/-- bodies -/
def IvB (M : Me) : Prop := (0 ≤ M 1 8 ∧ M 1 8 ≤ 10) ∧ (∀ c, M 9 c = 0 ∨ M 9 c = 1) ∧ (∀ c, M 1 8 ≤ c → M 9 c = 0) ∧
  (∀ c, 0 ≤ c → c < M 1 8 → (1 ≤ M 10 c ∧ M 10 c ≤ 1000) ∧ (0 ≤ M 11 c ∧ M 11 c ≤ 1000)) ∧
  (∀ c, 0 ≤ c → c < M 1 8 → M 9 c = 0 → 0 ≤ M 12 c ∧ M 12 c ≤ 100) ∧
  (∀ c, M 9 c = 0 → M 13 c = 0) ∧ (∀ c, 0 ≤ M 13 c ∧ M 13 c ≤ 500) ∧ (∀ c, 0 ≤ M 14 c ∧ M 14 c ≤ 1000000) ∧ (∀ h, 0 ≤ M 16 h ∧ M 16 h ≤ 1000000) ∧
  M 1 9 = rk (M 9) (M 1 8).toNat ∧ (∀ c : Nat, (c : Int) < M 1 8 → M 9 c = 0 → M 15 (rk (M 9) c) = c)
/-- dikes -/
def IvD (M : Me) : Prop := (0 ≤ M 2 8 ∧ M 2 8 ≤ 12) ∧
  (∀ k, 0 ≤ k → k < M 2 8 → (0 ≤ M 17 k ∧ M 17 k < M 1 8) ∧ (0 ≤ M 18 k ∧ M 18 k < M 1 8) ∧ M 17 k ≠ M 18 k ∧ (0 ≤ M 19 k ∧ M 19 k ≤ 2000) ∧ (1 ≤ M 20 k ∧ M 20 k ≤ 1000) ∧ (0 ≤ M 21 k ∧ M 21 k ≤ 20)) ∧ (∀ k, 0 ≤ M 22 k ∧ M 22 k ≤ 2000)
theorem IvB_st {M : Me} (h : IvB M) {i : Int} (h0 : 0 ≤ i) (h1 : i < M 1 9) : (0 ≤ M 15 i ∧ M 15 i < M 1 8) ∧ M 9 (M 15 i) = 0 ∧ i = rk (M 9) (M 15 i).toNat := by
  obtain ⟨a, -, -, -, -, -, -, -, -, b, c⟩ := h
  rw [b] at h1
  obtain ⟨k, x, y, z⟩ := rk_inv _ _ i h0 h1
  have := c k (by omega) y
  rw [z] at this
  rw [this]
  exact ⟨by omega, y, by rw [← z]; rfl⟩
theorem IvB_sc {M : Me} (h : IvB M) : 0 ≤ M 1 9 ∧ M 1 9 ≤ M 1 8 := by
  obtain ⟨a, -, -, -, -, -, -, -, -, b, c⟩ := h
  have := rk_bd (M 9) (M 1 8).toNat
  omega
/-- an hour's state: water, bags, washed, out, came in -/
abbrev HS : Type := (Int → Int) × (Int → Int) × Int × Int × Int
def fu (f : Int → Int) (i v : Int) : Int → Int := fun j => if j = i then v else f j
theorem fu_s (f : Int → Int) (i v : Int) : fu f i v i = v := by simp [fu]
theorem fu_n {f : Int → Int} {i v j : Int} (h : j ≠ i) : fu f i v j = f j := by simp [fu, h]
theorem fu_fu (f : Int → Int) (i v w : Int) : fu (fu f i v) i w = fu f i w := by
  funext j; simp only [fu]; split <;> rfl
def hIn (K : Me) (h : Int) (s : HS) : HS := if K 1 9 ≤ 0 then s else (fu s.1 (K 15 0) (w32 (s.1 (K 15 0) + K 16 h)), s.2.1, s.2.2.1, s.2.2.2.1, s.2.2.2.2 + K 16 h)
def hpg (K : Me) (w b : Int) : Int := w32 (w64 ((w64 (w * K 12 b)).tdiv 100))
def hPs (K : Me) (i : Int) (s : HS) : HS :=
  if i = K 1 9 - 1 then (fu s.1 (K 15 i) (w32 (s.1 (K 15 i) - hpg K (s.1 (K 15 i)) (K 15 i))), s.2.1, s.2.2.1, s.2.2.2.1 + hpg K (s.1 (K 15 i)) (K 15 i), s.2.2.2.2)
  else (fu (fu s.1 (K 15 i) (w32 (s.1 (K 15 i) - hpg K (s.1 (K 15 i)) (K 15 i)))) (K 15 (i + 1)) (w32 (fu s.1 (K 15 i) (w32 (s.1 (K 15 i) - hpg K (s.1 (K 15 i)) (K 15 i))) (K 15 (i + 1)) + hpg K (s.1 (K 15 i)) (K 15 i))), s.2.1, s.2.2.1, s.2.2.2.1, s.2.2.2.2)
def hPd (K : Me) : Nat → HS → HS
  | 0, s => s
  | k + 1, s => hPd K k (hPs K k s)
def hbr (K : Me) (h k : Int) : Prop := ¬ K 23 k = -1 ∧ K 23 k ≤ h
noncomputable def hLa (K : Me) (h k : Int) (s : HS) : HS :=
  @ite HS (hbr K h k) (Classical.propDecidable _) (s.1, fu s.2.1 k 0, w32 (s.2.2.1 + w32 (s.2.1 k + K 24 (k * 100 + h))), s.2.2.2) (s.1, fu s.2.1 k (w32 (s.2.1 k + K 24 (k * 100 + h))), s.2.2)
noncomputable def hLd (K : Me) (h : Int) : Nat → Int → HS → HS
  | 0, _, s => s
  | n + 1, k, s => hLd K h n (k + 1) (hLa K h k s)
def hlv (K : Me) (s : HS) (b : Int) : Int := w32 (K 11 b + w32 ((s.1 b).tdiv (K 10 b)))
noncomputable def htp (K : Me) (h : Int) (s : HS) (k : Int) : Int := @ite Int (hbr K h k) (Classical.propDecidable _) (K 22 k) (w32 (K 19 k + w32 ((s.2.1 k).tdiv 10)))
def hmn (x y : Int) : Int := if y < x then y else x
def hgo (wd hd ar wu : Int) : Int := w32 (if wu < (if w64 ((w64 (hd * ar)).tdiv 2) < w64 (wd * hd) then w64 ((w64 (hd * ar)).tdiv 2) else w64 (wd * hd)) then wu else (if w64 ((w64 (hd * ar)).tdiv 2) < w64 (wd * hd) then w64 ((w64 (hd * ar)).tdiv 2) else w64 (wd * hd)))
def hhd (ul ll tp : Int) : Int := w32 (ul - if tp < ll then ll else tp)
/-- over a dike from u to l -/
noncomputable def hO1 (K : Me) (h k u l : Int) (s : HS) : HS :=
  if hhd (hlv K s u) (hlv K s l) (htp K h s k) ≤ 0 then s
  else (fu (fu s.1 u (w32 (s.1 u - hgo (K 20 k) (hhd (hlv K s u) (hlv K s l) (htp K h s k)) (K 10 u) (s.1 u)))) l (w32 (fu s.1 u (w32 (s.1 u - hgo (K 20 k) (hhd (hlv K s u) (hlv K s l) (htp K h s k)) (K 10 u) (s.1 u))) l + hgo (K 20 k) (hhd (hlv K s u) (hlv K s l) (htp K h s k)) (K 10 u) (s.1 u))), s.2)
noncomputable def hOv (K : Me) (h k : Int) (s : HS) : HS :=
  if hlv K s (K 18 k) ≤ hlv K s (K 17 k) then hO1 K h k (K 17 k) (K 18 k) s else hO1 K h k (K 18 k) (K 17 k) s
noncomputable def hOd (K : Me) (h : Int) : Nat → Int → HS → HS
  | 0, _, s => s
  | n + 1, k, s => hOd K h n (k + 1) (hOv K h k s)
noncomputable def hF (K : Me) (h : Int) (s : HS) : HS :=
  hOd K h (K 2 8).toNat 0 (hLd K h (K 2 8).toNat 0 (hPd K (K 1 9).toNat (hIn K h s)))
/-- how much water there is -/
def hP (B : Int) (s : HS) : Prop := (∀ i, 0 ≤ i → i < 10 → 0 ≤ s.1 i) ∧ sm 10 s.1 ≤ B
theorem sm_ge {n : Nat} {f : Int → Int} (h : ∀ i : Int, 0 ≤ i → i < n → 0 ≤ f i) : 0 ≤ sm n f ∧ ∀ i : Int, 0 ≤ i → i < n → f i ≤ sm n f := by
  induction n with
  | zero => exact ⟨Int.le_refl _, fun i h1 h2 => by omega⟩
  | succ n ih =>
    have := ih (fun i h1 h2 => h i h1 (by omega))
    have h3 := h n (by omega) (by omega)
    simp only [sm]
    refine ⟨by omega, fun i h1 h2 => ?_⟩
    by_cases q : i = n
    · subst q; omega
    · have := this.2 i h1 (by omega); omega
theorem hP_le {B : Int} {s : HS} (h : hP B s) {i : Int} (h0 : 0 ≤ i) (h1 : i < 10) : 0 ≤ s.1 i ∧ s.1 i ≤ B :=
  ⟨h.1 i h0 h1, Int.le_trans ((sm_ge (n := 10) h.1).2 i h0 (by omega)) h.2⟩
theorem sm_fu {n : Nat} {f : Int → Int} {i v : Int} (h0 : 0 ≤ i) (h1 : i < n) : sm n (fu f i v) = sm n f + (v - f i) :=
  sm_up h0 h1 (by rw [fu_s]; omega) (fun j _ _ h => fu_n h)
theorem hpg_bd {K : Me} {w b : Int} (h0 : 0 ≤ w) (h1 : w ≤ 1000000000) (h2 : 0 ≤ K 12 b) (h3 : K 12 b ≤ 100) : 0 ≤ hpg K w b ∧ hpg K w b ≤ w := by
  unfold hpg
  have a1 : 0 ≤ w * K 12 b := Int.mul_nonneg h0 h2
  have a2 : w * K 12 b ≤ w * 100 := Int.mul_le_mul_of_nonneg_left h3 h0
  generalize w * K 12 b = x at a1 a2
  rw [w64_id (x := x) (by omega) (by omega), Int.tdiv_eq_ediv_of_nonneg a1, w64_id (by omega) (by omega), w32_id (by omega) (by omega)]
  omega
theorem hP_in {K : Me} {h B : Int} {s : HS} (hB : IvB K) (hb : B ≤ 1000000000) (H : hP B s) : hP (B + 1000000) (hIn K h s) := by
  unfold hIn
  by_cases q : K 1 9 ≤ 0
  · rw [if_pos q]; exact ⟨H.1, by have := H.2; omega⟩
  · rw [if_neg q]
    have b1 := IvB_st hB (Int.le_refl 0) (by omega)
    have b2 : 0 ≤ K 16 h ∧ K 16 h ≤ 1000000 := hB.2.2.2.2.2.2.2.2.1 h
    have b3 := hP_le H (i := K 15 0) (by omega) (by have := hB.1; omega)
    have b4 : K 15 0 < 10 := by have := hB.1; omega
    refine ⟨?_, ?_⟩
    · intro i h0 h1
      by_cases z : i = K 15 0
      · subst z; simp only [fu_s]; rw [w32_id (by omega) (by omega)]; omega
      · simp only [fu_n z]; exact H.1 i h0 h1
    · show sm 10 (fu s.1 _ _) ≤ _
      rw [sm_fu (by omega) (by omega), w32_id (by omega) (by omega)]
      have := H.2
      omega
theorem hP_mv {B x : Int} {s : HS} {u l : Int} (hu0 : 0 ≤ u) (hu1 : u < 10) (hl0 : 0 ≤ l) (hl1 : l < 10) (hul : u ≠ l) (hb : B ≤ 1010000000) (H : hP B s) (h0 : 0 ≤ x) (h1 : x ≤ s.1 u) (s' : (Int → Int) × Int × Int × Int) :
    hP B (fu (fu s.1 u (w32 (s.1 u - x))) l (w32 (fu s.1 u (w32 (s.1 u - x)) l + x)), s') := by
  have a1 := hP_le H hu0 hu1
  have a2 := hP_le H hl0 hl1
  have a3 : s.1 u + s.1 l ≤ B := by
    have e := sm_fu (n := 10) (f := s.1) (i := u) (v := s.1 u - s.1 u) hu0 (by omega)
    have g := sm_ge (n := 10) (f := fu s.1 u (s.1 u - s.1 u)) (fun i h2 h3 => by
      by_cases z : i = u
      · subst z; rw [fu_s]; omega
      · rw [fu_n z]; exact H.1 i h2 (by omega))
    have := g.2 l hl0 (by omega)
    rw [fu_n (Ne.symm hul)] at this
    have := H.2
    omega
  rw [w32_id (x := s.1 u - x) (by omega) (by omega), fu_n (Ne.symm hul), w32_id (by omega) (by omega)]
  refine ⟨?_, ?_⟩
  · intro i h2 h3
    by_cases z : i = l
    · subst z; simp only [fu_s]; omega
    · simp only [fu_n z]
      by_cases y : i = u
      · subst y; simp only [fu_s]; omega
      · rw [fu_n y]; exact H.1 i h2 h3
  · show sm 10 (fu (fu s.1 _ _) _ _) ≤ _
    rw [sm_fu hl0 (by omega), sm_fu hu0 (by omega), fu_n (Ne.symm hul)]
    have := H.2
    omega
theorem hP_ps {K : Me} {B i : Int} {s : HS} (hB : IvB K) (hb : B ≤ 1000000000) (h0 : 0 ≤ i) (h1 : i < K 1 9) (H : hP B s) : hP B (hPs K i s) := by
  have b1 := IvB_st hB h0 h1
  have b4 : K 15 i < 10 := by have := hB.1; omega
  have b3 := hP_le H (i := K 15 i) (by omega) b4
  have b5 := hB.2.2.2.2.1 (K 15 i) b1.1.1 b1.1.2 b1.2.1
  have b6 := hpg_bd (w := s.1 (K 15 i)) (b := K 15 i) b3.1 (by omega) b5.1 b5.2
  unfold hPs
  by_cases q : i = K 1 9 - 1
  · rw [if_pos q]
    generalize hpg K (s.1 (K 15 i)) (K 15 i) = x at b6
    rw [w32_id (x := s.1 (K 15 i) - x) (by omega) (by omega)]
    refine ⟨?_, ?_⟩
    · intro j h2 h3
      by_cases z : j = K 15 i
      · subst z; simp only [fu_s]; omega
      · simp only [fu_n z]; exact H.1 j h2 h3
    · show sm 10 (fu s.1 _ _) ≤ _
      rw [sm_fu (by omega) (by omega)]
      have := H.2
      omega
  · rw [if_neg q]
    have b7 := IvB_st hB (i := i + 1) (by omega) (by omega)
    have b8 : K 15 (i + 1) < 10 := by have := hB.1; omega
    refine hP_mv b1.1.1 b4 b7.1.1 b8 (fun e => ?_) (by omega) H b6.1 b6.2 _
    have := b1.2.2
    rw [e] at this
    have := b7.2.2
    omega
theorem hP_pd {K : Me} {B : Int} (hB : IvB K) (hb : B ≤ 1000000000) (n : Nat) : ∀ s : HS, (n : Int) ≤ K 1 9 → hP B s → hP B (hPd K n s) := by
  induction n with
  | zero => intro s _ H; exact H
  | succ n ih => intro s hn H; exact ih _ (by omega) (hP_ps hB hb (by omega) (by omega) H)
theorem hP_la {K : Me} {B h k : Int} {s : HS} (H : hP B s) : hP B (hLa K h k s) := by
  unfold hLa
  split <;> exact H
theorem hP_ld {K : Me} {B h : Int} (n : Nat) : ∀ (k : Int) (s : HS), hP B s → hP B (hLd K h n k s) := by
  induction n with
  | zero => intro k s H; exact H
  | succ n ih => intro k s H; exact ih _ _ (hP_la H)
theorem hlv_bd {K : Me} {B : Int} {s : HS} {b : Int} (hB : IvB K) (hb : B ≤ 1000000000) (H : hP B s) (h0 : 0 ≤ b) (h1 : b < K 1 8) : 0 ≤ hlv K s b ∧ hlv K s b ≤ 1000001000 := by
  have a := hB.2.2.2.1 b h0 h1
  have c := hP_le H h0 (by have := hB.1; omega)
  unfold hlv
  rw [Int.tdiv_eq_ediv_of_nonneg c.1]
  have e1 : 0 ≤ s.1 b / K 10 b := Int.ediv_nonneg c.1 (by omega)
  have e2 : s.1 b / K 10 b ≤ s.1 b := Int.ediv_le_self _ c.1
  rw [w32_id (x := s.1 b / K 10 b) (by omega) (by omega), w32_id (by omega) (by omega)]
  omega
theorem w32_bd (x : Int) : -2147483648 ≤ w32 x ∧ w32 x < 2147483648 := by
  unfold w32
  have h1 := Int.le_bmod (x := x) (m := 4294967296) (by omega)
  have h2 := Int.bmod_lt (x := x) (m := 4294967296) (by omega)
  omega
theorem htp_bd {K : Me} {h k : Int} {s : HS} (hD : IvD K) : -2147483648 ≤ htp K h s k ∧ htp K h s k < 2147483648 := by
  unfold htp
  have := hD.2.2 k
  split
  · omega
  · exact w32_bd _
theorem hhd_bd {K : Me} {B h k u l : Int} {s : HS} (hB : IvB K) (hD : IvD K) (hb : B ≤ 1000000000) (H : hP B s) (hu : 0 ≤ u ∧ u < K 1 8) (hl : 0 ≤ l ∧ l < K 1 8) : hhd (hlv K s u) (hlv K s l) (htp K h s k) ≤ 1000001000 := by
  have a := hlv_bd hB hb H hu.1 hu.2
  have b := hlv_bd hB hb H hl.1 hl.2
  have c := htp_bd (K := K) (h := h) (k := k) (s := s) hD
  unfold hhd
  generalize hlv K s u = x at *
  generalize hlv K s l = y at *
  generalize htp K h s k = z at *
  split
  · rw [w32_id (by omega) (by omega)]; omega
  · rw [w32_id (by omega) (by omega)]; omega
theorem hgo_bd {wd hd ar wu : Int} (h1 : 1 ≤ wd) (h2 : wd ≤ 1000) (h3 : 0 < hd) (h4 : hd ≤ 1000001000) (h5 : 1 ≤ ar) (h6 : ar ≤ 1000) (h7 : 0 ≤ wu) (h8 : wu ≤ 1000000000) : 0 ≤ hgo wd hd ar wu ∧ hgo wd hd ar wu ≤ wu := by
  unfold hgo
  have a1 : 0 ≤ hd * ar := Int.mul_nonneg (by omega) (by omega)
  have a2 : hd * ar ≤ hd * 1000 := Int.mul_le_mul_of_nonneg_left h6 (by omega)
  have b1 : 0 ≤ wd * hd := Int.mul_nonneg (by omega) (by omega)
  have b2 : wd * hd ≤ 1000 * hd := Int.mul_le_mul_of_nonneg_right h2 (by omega)
  generalize hd * ar = x at *
  generalize wd * hd = y at *
  rw [w64_id (x := x) (by omega) (by omega), w64_id (x := y) (by omega) (by omega), Int.tdiv_eq_ediv_of_nonneg a1, w64_id (x := x / 2) (by omega) (by omega)]
  rw [w32_id]
  · split <;> split <;> omega
  · split <;> split <;> omega
  · split <;> split <;> omega
theorem hP_o1 {K : Me} {B h k u l : Int} {s : HS} (hB : IvB K) (hD : IvD K) (hb : B ≤ 1000000000) (hk : 0 ≤ k ∧ k < K 2 8) (hu : 0 ≤ u ∧ u < K 1 8) (hl : 0 ≤ l ∧ l < K 1 8) (hul : u ≠ l) (H : hP B s) : hP B (hO1 K h k u l s) := by
  unfold hO1
  have c := hhd_bd (h := h) (k := k) hB hD hb H hu hl
  have e := hP_le H hu.1 (by have := hB.1; omega)
  have f := hB.2.2.2.1 u hu.1 hu.2
  have g := hD.2.1 k hk.1 hk.2
  have i := hB.1
  generalize hhd (hlv K s u) (hlv K s l) (htp K h s k) = x at *
  by_cases q : x ≤ 0
  · rw [if_pos q]; exact H
  · rw [if_neg q]
    have j := hgo_bd (wd := K 20 k) (hd := x) (ar := K 10 u) (wu := s.1 u) (by omega) (by omega) (by omega) c (by omega) (by omega) e.1 (by omega)
    exact hP_mv hu.1 (by omega) hl.1 (by omega) hul (by omega) H j.1 j.2 _
theorem hP_ov {K : Me} {B h k : Int} {s : HS} (hB : IvB K) (hD : IvD K) (hb : B ≤ 1000000000) (hk : 0 ≤ k ∧ k < K 2 8) (H : hP B s) : hP B (hOv K h k s) := by
  have g := hD.2.1 k hk.1 hk.2
  unfold hOv
  split
  · exact hP_o1 hB hD hb hk g.1 g.2.1 g.2.2.1 H
  · exact hP_o1 hB hD hb hk g.2.1 g.1 (Ne.symm g.2.2.1) H
theorem hP_od {K : Me} {B h : Int} (hB : IvB K) (hD : IvD K) (hb : B ≤ 1000000000) (n : Nat) : ∀ (k : Int) (s : HS), 0 ≤ k → k + n ≤ K 2 8 → hP B s → hP B (hOd K h n k s) := by
  induction n with
  | zero => intro k s _ _ H; exact H
  | succ n ih => intro k s h0 h1 H; exact ih _ _ (by omega) (by omega) (hP_ov hB hD hb ⟨h0, by omega⟩ H)
theorem hP_F {K : Me} {B h : Int} {s : HS} (hB : IvB K) (hD : IvD K) (hb : B ≤ 900000000) (H : hP B s) : hP (B + 1000000) (hF K h s) := by
  have h1 := hB.1
  have h2 := hD.1
  have h3 := IvB_sc hB
  exact hP_od hB hD (by omega) _ _ _ (Int.le_refl 0) (by omega) (hP_ld _ _ _ (hP_pd hB (by omega) _ _ (by omega) (hP_in hB (by omega) H)))

/-! the invariant -/
def fwt (M : Me) (c h : Int) : Int := M 41 (h * 10 + c)
def fsr (M : Me) (r h : Int) : Int := if h < 100 then M 42 (r * 100 + h) else 0
def fgo (M : Me) (c : Int) : Int := M 13 c - M 40 c
/-- marks: under water just where it is wet -/
def MK (M : Me) : Prop := ∀ c h, 0 ≤ c → c < 10 → c < M 1 8 → M 9 c ≠ 0 → M 5 2 ≤ h → h ≤ 100 → (M 43 (h * 10 + c) = -2 ↔ ¬ M 38 (h * 10 + c) < M 10 c) ∧ -2 ≤ M 43 (h * 10 + c) ∧ M 43 (h * 10 + c) ≤ M 7 11
/-- what is cut off stays so: no step leads to it from what isn't -/
def CO (M : Me) : Prop := ∀ c h, pl M c h → M 43 (h * 10 + c) < 0 →
  (h < 100 → 0 < M 41 (h * 10 + c) → M 43 ((h + 1) * 10 + c) < 0) ∧
  (M 5 2 < h → M 43 ((h - 1) * 10 + c) < 0) ∧
  (∀ r, 0 ≤ r → r < M 3 8 → M 25 r = c → M 26 r ≠ -1 → h < 100 → 0 < M 42 (r * 100 + h) → M 43 ((h + M 28 r) * 10 + M 26 r) < 0) ∧
  (∀ r, 0 ≤ r → r < M 3 8 → M 26 r = c → M 5 2 ≤ h - M 28 r → M 42 (r * 100 + (h - M 28 r)) < M 27 r → M 43 ((h - M 28 r) * 10 + M 25 r) < 0) ∧
  (h = M 5 2 → M 40 c = 0)
/-- roads OUT are full, or cut off -/
def OR (M : Me) : Prop := ∀ r h, 0 ≤ r → r < M 3 8 → M 26 r = -1 → M 5 2 ≤ h → h + M 28 r ≤ M 7 14 → M 27 r ≤ M 42 (r * 100 + h) ∨ M 43 (h * 10 + M 25 r) < 0
/-- a bar, by its number -/
def bp (K : Me) (S : Int → Int → Prop) (t j : Int) : Prop := j % 12 < K 3 8 ∧ K 5 2 ≤ j / 12 ∧ j / 12 + K 28 (j % 12) ≤ t ∧ S (K 25 (j % 12)) (j / 12) ∧ (K 26 (j % 12) = -1 ∨ (pl K (K 26 (j % 12)) (j / 12 + K 28 (j % 12)) ∧ ¬ S (K 26 (j % 12)) (j / 12 + K 28 (j % 12))))
noncomputable def cnt (P : Int → Prop) : Nat → Int
  | 0 => 0
  | n + 1 => cnt P n + b01 (P (n : Int))
/-- the least of the cheapest heaps -/
def heap (K : Me) (t : Int) (S : Int → Int → Prop) : Prop := (∀ c h, S c h → pl K c h ∧ h ≤ t) ∧ ∃ g wt st v, Vl K t g wt st v ∧ Cz K t g wt st S ∧ Nz K t st S ∧ ∀ c h, S c h → Rz K t g wt st c h
def BarsOk (M : Me) (t : Int) : Prop := ∃ S, heap M t S ∧ M 7 16 = cnt (bp M S t) 1200 ∧ ∀ j : Nat, j < 1200 → bp M S t j → M 47 (cnt (bp M S t) j) = j
/-- the class's flight, while it is fresh -/
def FlI (M : Me) : Prop := M 7 12 = M 5 2 ∧ (M 5 2 - 1 ≤ M 7 14 ∧ M 7 14 ≤ 100) ∧ (0 ≤ M 7 11 ∧ (M 7 11 ≤ 2000 * (M 7 14 + 1) ∨ (M 7 15 = M 7 14 ∧ M 7 11 ≤ 2000 * (M 7 14 + 1) + 1))) ∧ MK M ∧ (∀ c, 0 ≤ c → c < 10 → 0 ≤ M 40 c ∧ M 40 c ≤ M 13 c) ∧
  Vl M (M 7 14) (fgo M) (fwt M) (fsr M) (M 7 13) ∧ CO M ∧ OR M ∧ (∀ t, M 5 2 ≤ t → t ≤ M 7 14 → Mx M t (M 39 t)) ∧ (M 7 15 = -1 ∨ (M 5 2 ≤ M 7 15 ∧ BarsOk M (M 7 15)))
/-- what the flight rests on -/
def fz (M : Me) : Me := fun k => if k ≤ 3 then (if k = 0 then fun _ => 0 else M k) else if k = 5 then M k else if k = 7 then M k else if k ≤ 8 then fun _ => 0 else if k ≤ 32 then M k else if k ≤ 37 then fun _ => 0 else if k ≤ 47 then M k else fun _ => 0
theorem fz_F (M : Me) : FlI (fz M) = FlI M := rfl
/-- what is foretold is in the table, while that is fresh -/
def FoI (M : Me) : Prop := ∀ h c, M 5 2 ≤ h → h ≤ 100 → 0 ≤ c → c < 10 → M 38 (h * 10 + c) = fw M c h
def IvX (M : Me) : Prop := (M 6 2 ≠ 0 → FoI M) ∧ (M 7 17 ≠ 0 → M 6 2 ≠ 0 ∧ FlI M)
/-- roads -/
def IvR (M : Me) : Prop := (0 ≤ M 3 8 ∧ M 3 8 ≤ 12) ∧
  (∀ r, 0 ≤ r → r < M 3 8 → (0 ≤ M 25 r ∧ M 25 r < M 1 8 ∧ M 9 (M 25 r) ≠ 0) ∧ (M 26 r = -1 ∨ (0 ≤ M 26 r ∧ M 26 r < M 1 8 ∧ M 9 (M 26 r) ≠ 0)) ∧ M 25 r ≠ M 26 r ∧ (1 ≤ M 27 r ∧ M 27 r ≤ 99) ∧ (1 ≤ M 28 r ∧ M 28 r ≤ 5)) ∧
  (∀ c, 0 ≤ c → c < 10 → (0 ≤ M 30 c ∧ M 30 c ≤ M 3 8) ∧ (0 ≤ M 32 c ∧ M 32 c ≤ M 3 8) ∧ (∀ i, 0 ≤ i → i < M 30 c → (0 ≤ M 29 (c * 12 + i) ∧ M 29 (c * 12 + i) < M 3 8) ∧ M 25 (M 29 (c * 12 + i)) = c) ∧ (∀ i, 0 ≤ i → i < M 32 c → (0 ≤ M 31 (c * 12 + i) ∧ M 31 (c * 12 + i) < M 3 8) ∧ M 26 (M 31 (c * 12 + i)) = c)) ∧
  (∀ r, 0 ≤ r → r < M 3 8 → (∃ i, 0 ≤ i ∧ i < M 30 (M 25 r) ∧ M 29 (M 25 r * 12 + i) = r) ∧ (M 26 r ≠ -1 → ∃ i, 0 ≤ i ∧ i < M 32 (M 26 r) ∧ M 31 (M 26 r * 12 + i) = r))
/-- the pit and the walkers -/
def IvP (M : Me) : Prop := (0 ≤ M 0 7 ∧ M 0 7 ≤ 100000) ∧ (0 ≤ M 4 3 ∧ M 4 3 ≤ 100) ∧ ∀ i, 0 ≤ i → i < M 4 3 → (0 ≤ M 33 i ∧ M 33 i < M 2 8) ∧ 0 ≤ M 34 i
def Iv (M : Me) : Prop := IvL M ∧ IvB M ∧ IvD M ∧ IvC M ∧ IvF M ∧ IvR M ∧ IvP M ∧ IvX M
theorem cw_R (M : Me) : IvR (cw M) = IvR M := rfl
theorem cw_IR {X M : Me} (h : cw X = cw M) (q : IvR M) : IvR X := by
  rw [← cw_R, h, cw_R]; exact q
theorem fz_of {X M : Me} (h : ∀ k, (1 ≤ k ∧ k ≤ 3) ∨ k = 5 ∨ k = 7 ∨ (9 ≤ k ∧ k ≤ 32) ∨ (38 ≤ k ∧ k ≤ 47) → X k = M k) : fz X = fz M := by
  funext k
  unfold fz
  repeat' split
  all_goals first | rfl | exact h k (by omega)
theorem IvX_fr {X M : Me} (h : ∀ k, (1 ≤ k ∧ k ≤ 3) ∨ (5 ≤ k ∧ k ≤ 7) ∨ (9 ≤ k ∧ k ≤ 32) ∨ (36 ≤ k ∧ k ≤ 47) → X k = M k) (q : IvX M) : IvX X := by
  have e1 : ag X M := ⟨h 1 (by omega), h 2 (by omega), h 10 (by omega), h 11 (by omega), h 12 (by omega), h 15 (by omega), h 16 (by omega), h 17 (by omega), h 18 (by omega), h 19 (by omega), h 20 (by omega), h 22 (by omega), h 23 (by omega), h 24 (by omega)⟩
  have e2 : fw X = fw M := fw_cg e1 (h 36 (by omega)) (h 37 (by omega)) (h 5 (by omega))
  have e3 : fz X = fz M := fz_of (fun k hk => h k (by omega))
  unfold IvX FoI at *
  rw [h 6 (by omega), h 7 (by omega), h 5 (by omega), h 38 (by omega), e2, ← fz_F X, e3, fz_F M]
  exact q
/-- nothing is fresh -/
theorem IvX_0 {M : Me} (h6 : M 6 2 = 0) (h7 : M 7 17 = 0) : IvX M := ⟨fun h => (h h6).elim, fun h => (h h7).elim⟩

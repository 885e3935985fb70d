/-- the memory behind the constructors; the script lies in 98, 99 -/
def me0 (L : Nat) (xs : Nat → Int32) : Me := fun k j => if k = 7 then (if j = 14 ∨ j = 15 then -1 else 0) else if k = 98 then (L : Int) else if k = 99 then (xs j.toNat).toInt else 0
def ad0 (b q0 : Nat) (u : Nat → Nat) (q1 : Nat) (v : Nat → Nat) (k : Nat) : Nat := if k = 99 then b else nt 0 [q0, u 0, u 9, u 18, u 27, u 31, u 34, u 39, u 35, u 1, u 2, u 3, u 4, u 5, u 6, u 7, u 8, u 10, u 11, u 12, u 13, u 14, u 15, u 16, u 17, u 19, u 20, u 21, u 22, u 23, u 24, u 25, u 26, u 28, u 29, u 30, u 32, u 33, u 38, u 40, u 41, u 42, u 43, u 44, u 45, u 46, u 47, u 48, u 36, u 37, q1, v 0, v 1, v 2, v 3, v 4, v 5, v 6, v 7, v 8, v 9, v 10, v 11, v 12, v 13, v 14, v 15, v 16, v 17, v 18, v 19, v 20, v 21, v 22, v 23, v 24, v 25, v 26, v 27, v 28, v 29, v 30, v 31, v 32, v 33, v 34] k
section W0
variable {D : va_G} {cI cZ cJ : ClassId} {H : Heap} {b q0 q1 L : Nat} {u v : Nat → Nat} {xs : Nat → Int32} {A : Nat → Prop}
theorem w0_at (hP : va_P D cls9 (wc7 cI cZ cJ q0 u ++ wc8 cI cZ cJ q1 v) H) : ∀ k, k < 86 → va_at D cls9 (ad0 b q0 u q1 v k, ent (ad0 b q0 u q1 v) cI cZ cJ (me0 L xs) k) H := by
  intro k hk
  match k, hk with
  | 0, _ => exact hP 0 _ rfl
  | 1, _ => exact hP 1 _ rfl
  | 2, _ => exact hP 10 _ rfl
  | 3, _ => exact hP 19 _ rfl
  | 4, _ => exact hP 28 _ rfl
  | 5, _ => exact hP 32 _ rfl
  | 6, _ => exact hP 35 _ rfl
  | 7, _ => exact hP 40 _ rfl
  | 8, _ => exact hP 36 _ rfl
  | 9, _ => exact hP 2 _ rfl
  | 10, _ => exact hP 3 _ rfl
  | 11, _ => exact hP 4 _ rfl
  | 12, _ => exact hP 5 _ rfl
  | 13, _ => exact hP 6 _ rfl
  | 14, _ => exact hP 7 _ rfl
  | 15, _ => exact hP 8 _ rfl
  | 16, _ => exact hP 9 _ rfl
  | 17, _ => exact hP 11 _ rfl
  | 18, _ => exact hP 12 _ rfl
  | 19, _ => exact hP 13 _ rfl
  | 20, _ => exact hP 14 _ rfl
  | 21, _ => exact hP 15 _ rfl
  | 22, _ => exact hP 16 _ rfl
  | 23, _ => exact hP 17 _ rfl
  | 24, _ => exact hP 18 _ rfl
  | 25, _ => exact hP 20 _ rfl
  | 26, _ => exact hP 21 _ rfl
  | 27, _ => exact hP 22 _ rfl
  | 28, _ => exact hP 23 _ rfl
  | 29, _ => exact hP 24 _ rfl
  | 30, _ => exact hP 25 _ rfl
  | 31, _ => exact hP 26 _ rfl
  | 32, _ => exact hP 27 _ rfl
  | 33, _ => exact hP 29 _ rfl
  | 34, _ => exact hP 30 _ rfl
  | 35, _ => exact hP 31 _ rfl
  | 36, _ => exact hP 33 _ rfl
  | 37, _ => exact hP 34 _ rfl
  | 38, _ => exact hP 39 _ rfl
  | 39, _ => exact hP 41 _ rfl
  | 40, _ => exact hP 42 _ rfl
  | 41, _ => exact hP 43 _ rfl
  | 42, _ => exact hP 44 _ rfl
  | 43, _ => exact hP 45 _ rfl
  | 44, _ => exact hP 46 _ rfl
  | 45, _ => exact hP 47 _ rfl
  | 46, _ => exact hP 48 _ rfl
  | 47, _ => exact hP 49 _ rfl
  | 48, _ => exact hP 37 _ rfl
  | 49, _ => exact hP 38 _ rfl
  | 50, _ => exact hP 50 _ rfl
  | 51, _ => exact hP 51 _ rfl
  | 52, _ => exact hP 52 _ rfl
  | 53, _ => exact hP 53 _ rfl
  | 54, _ => exact hP 54 _ rfl
  | 55, _ => exact hP 55 _ rfl
  | 56, _ => exact hP 56 _ rfl
  | 57, _ => exact hP 57 _ rfl
  | 58, _ => exact hP 58 _ rfl
  | 59, _ => exact hP 59 _ rfl
  | 60, _ => exact hP 60 _ rfl
  | 61, _ => exact hP 61 _ rfl
  | 62, _ => exact hP 62 _ rfl
  | 63, _ => exact hP 63 _ rfl
  | 64, _ => exact hP 64 _ rfl
  | 65, _ => exact hP 65 _ rfl
  | 66, _ => exact hP 66 _ rfl
  | 67, _ => exact hP 67 _ rfl
  | 68, _ => exact hP 68 _ rfl
  | 69, _ => exact hP 69 _ rfl
  | 70, _ => exact hP 70 _ rfl
  | 71, _ => exact hP 71 _ rfl
  | 72, _ => exact hP 72 _ rfl
  | 73, _ => exact hP 73 _ rfl
  | 74, _ => exact hP 74 _ rfl
  | 75, _ => exact hP 75 _ rfl
  | 76, _ => exact hP 76 _ rfl
  | 77, _ => exact hP 77 _ rfl
  | 78, _ => exact hP 78 _ rfl
  | 79, _ => exact hP 79 _ rfl
  | 80, _ => exact hP 80 _ rfl
  | 81, _ => exact hP 81 _ rfl
  | 82, _ => exact hP 82 _ rfl
  | 83, _ => exact hP 83 _ rfl
  | 84, _ => exact hP 84 _ rfl
  | 85, _ => exact hP 85 _ rfl
  | n + 86, h => omega
theorem w0_P (hP : va_P D cls9 (wc7 cI cZ cJ q0 u ++ wc8 cI cZ cJ q1 v) H) : va_P D cls9 (wsM (ad0 b q0 u q1 v) cI cZ cJ (me0 L xs)) H := by
  intro k q hk
  rcases Nat.lt_or_ge k 86 with h1 | h1
  · rw [wsM_get h1] at hk
    rw [← Option.some.inj hk]
    exact w0_at hP k h1
  · rw [List.getElem?_eq_none (by simp [wsM]; omega)] at hk
    cases hk
def pm86 : List Nat := [0, 1, 10, 19, 28, 32, 35, 40, 36, 2, 3, 4, 5, 6, 7, 8, 9, 11, 12, 13, 14, 15, 16, 17, 18, 20, 21, 22, 23, 24, 25, 26, 27, 29, 30, 31, 33, 34, 39, 41, 42, 43, 44, 45, 46, 47, 48, 49, 37, 38, 50, 51, 52, 53, 54, 55, 56, 57, 58, 59, 60, 61, 62, 63, 64, 65, 66, 67, 68, 69, 70, 71, 72, 73, 74, 75, 76, 77, 78, 79, 80, 81, 82, 83, 84, 85]
theorem pm_lt : ∀ k, k < 86 → nt 0 pm86 k < 86 := by decide +kernel
theorem pm_inj : ∀ i, i < 86 → ∀ j, j < 86 → nt 0 pm86 i = nt 0 pm86 j → i = j := by decide +kernel
theorem w0_ad : ∀ k, k < 86 → ∃ E, (wc7 cI cZ cJ q0 u ++ wc8 cI cZ cJ q1 v)[nt 0 pm86 k]? = some (ad0 b q0 u q1 v k, E) := by
  intro k hk
  match k, hk with
  | 0, _ => exact ⟨_, rfl⟩
  | 1, _ => exact ⟨_, rfl⟩
  | 2, _ => exact ⟨_, rfl⟩
  | 3, _ => exact ⟨_, rfl⟩
  | 4, _ => exact ⟨_, rfl⟩
  | 5, _ => exact ⟨_, rfl⟩
  | 6, _ => exact ⟨_, rfl⟩
  | 7, _ => exact ⟨_, rfl⟩
  | 8, _ => exact ⟨_, rfl⟩
  | 9, _ => exact ⟨_, rfl⟩
  | 10, _ => exact ⟨_, rfl⟩
  | 11, _ => exact ⟨_, rfl⟩
  | 12, _ => exact ⟨_, rfl⟩
  | 13, _ => exact ⟨_, rfl⟩
  | 14, _ => exact ⟨_, rfl⟩
  | 15, _ => exact ⟨_, rfl⟩
  | 16, _ => exact ⟨_, rfl⟩
  | 17, _ => exact ⟨_, rfl⟩
  | 18, _ => exact ⟨_, rfl⟩
  | 19, _ => exact ⟨_, rfl⟩
  | 20, _ => exact ⟨_, rfl⟩
  | 21, _ => exact ⟨_, rfl⟩
  | 22, _ => exact ⟨_, rfl⟩
  | 23, _ => exact ⟨_, rfl⟩
  | 24, _ => exact ⟨_, rfl⟩
  | 25, _ => exact ⟨_, rfl⟩
  | 26, _ => exact ⟨_, rfl⟩
  | 27, _ => exact ⟨_, rfl⟩
  | 28, _ => exact ⟨_, rfl⟩
  | 29, _ => exact ⟨_, rfl⟩
  | 30, _ => exact ⟨_, rfl⟩
  | 31, _ => exact ⟨_, rfl⟩
  | 32, _ => exact ⟨_, rfl⟩
  | 33, _ => exact ⟨_, rfl⟩
  | 34, _ => exact ⟨_, rfl⟩
  | 35, _ => exact ⟨_, rfl⟩
  | 36, _ => exact ⟨_, rfl⟩
  | 37, _ => exact ⟨_, rfl⟩
  | 38, _ => exact ⟨_, rfl⟩
  | 39, _ => exact ⟨_, rfl⟩
  | 40, _ => exact ⟨_, rfl⟩
  | 41, _ => exact ⟨_, rfl⟩
  | 42, _ => exact ⟨_, rfl⟩
  | 43, _ => exact ⟨_, rfl⟩
  | 44, _ => exact ⟨_, rfl⟩
  | 45, _ => exact ⟨_, rfl⟩
  | 46, _ => exact ⟨_, rfl⟩
  | 47, _ => exact ⟨_, rfl⟩
  | 48, _ => exact ⟨_, rfl⟩
  | 49, _ => exact ⟨_, rfl⟩
  | 50, _ => exact ⟨_, rfl⟩
  | 51, _ => exact ⟨_, rfl⟩
  | 52, _ => exact ⟨_, rfl⟩
  | 53, _ => exact ⟨_, rfl⟩
  | 54, _ => exact ⟨_, rfl⟩
  | 55, _ => exact ⟨_, rfl⟩
  | 56, _ => exact ⟨_, rfl⟩
  | 57, _ => exact ⟨_, rfl⟩
  | 58, _ => exact ⟨_, rfl⟩
  | 59, _ => exact ⟨_, rfl⟩
  | 60, _ => exact ⟨_, rfl⟩
  | 61, _ => exact ⟨_, rfl⟩
  | 62, _ => exact ⟨_, rfl⟩
  | 63, _ => exact ⟨_, rfl⟩
  | 64, _ => exact ⟨_, rfl⟩
  | 65, _ => exact ⟨_, rfl⟩
  | 66, _ => exact ⟨_, rfl⟩
  | 67, _ => exact ⟨_, rfl⟩
  | 68, _ => exact ⟨_, rfl⟩
  | 69, _ => exact ⟨_, rfl⟩
  | 70, _ => exact ⟨_, rfl⟩
  | 71, _ => exact ⟨_, rfl⟩
  | 72, _ => exact ⟨_, rfl⟩
  | 73, _ => exact ⟨_, rfl⟩
  | 74, _ => exact ⟨_, rfl⟩
  | 75, _ => exact ⟨_, rfl⟩
  | 76, _ => exact ⟨_, rfl⟩
  | 77, _ => exact ⟨_, rfl⟩
  | 78, _ => exact ⟨_, rfl⟩
  | 79, _ => exact ⟨_, rfl⟩
  | 80, _ => exact ⟨_, rfl⟩
  | 81, _ => exact ⟨_, rfl⟩
  | 82, _ => exact ⟨_, rfl⟩
  | 83, _ => exact ⟨_, rfl⟩
  | 84, _ => exact ⟨_, rfl⟩
  | 85, _ => exact ⟨_, rfl⟩
  | n + 86, h => omega
theorem w0_D (hD : va_D A (wc7 cI cZ cJ q0 u ++ wc8 cI cZ cJ q1 v)) : va_D A (wsM (ad0 b q0 u q1 v) cI cZ cJ (me0 L xs)) := by
  have key : ∀ (k : Nat) (q : Nat × va_E), (wsM (ad0 b q0 u q1 v) cI cZ cJ (me0 L xs))[k]? = some q → k < 86 ∧ q.1 = ad0 b q0 u q1 v k := by
    intro k q hq
    rcases Nat.lt_or_ge k 86 with h1 | h1
    · rw [wsM_get h1] at hq
      exact ⟨h1, by rw [← Option.some.inj hq]⟩
    · rw [List.getElem?_eq_none (by simp [wsM]; omega)] at hq
      cases hq
  refine ⟨fun i j p q hi hj e => ?_, fun k q hk => ?_⟩
  · obtain ⟨h1, e1⟩ := key i p hi
    obtain ⟨h2, e2⟩ := key j q hj
    obtain ⟨E1, g1⟩ := w0_ad (cI := cI) (cZ := cZ) (cJ := cJ) (b := b) (q0 := q0) (u := u) (q1 := q1) (v := v) i h1
    obtain ⟨E2, g2⟩ := w0_ad (cI := cI) (cZ := cZ) (cJ := cJ) (b := b) (q0 := q0) (u := u) (q1 := q1) (v := v) j h2
    exact pm_inj i h1 j h2 (hD.1 _ _ _ _ g1 g2 (by show ad0 b q0 u q1 v i = ad0 b q0 u q1 v j; rw [← e1, ← e2]; exact e))
  · obtain ⟨h1, e1⟩ := key k q hk
    obtain ⟨E1, g1⟩ := w0_ad (cI := cI) (cZ := cZ) (cJ := cJ) (b := b) (q0 := q0) (u := u) (q1 := q1) (v := v) k h1
    rw [e1]
    exact hD.2 _ _ g1
end W0

/-! the law's loop -/
theorem Iv_0 (L : Nat) (xs : Nat → Int32) : Iv (me0 L xs) := by
  have zf : ∀ k, k ≠ 7 → k ≠ 98 → k ≠ 99 → me0 L xs k = fun _ => 0 := fun k a b c => by funext j; simp [me0, a, b, c]
  have w0 : w32 0 = 0 := w32_id (by omega) (by omega)
  have w6 : w64 0 = 0 := w64_id (by omega) (by omega)
  refine ⟨?_, ?_, ?_, ?_, ?_, ?_, ?_, ?_⟩
  · unfold IvL; simp [zf]
  · unfold IvB; simp [zf, rk]; intro c h; omega
  · unfold IvD; simp [zf]
  · unfold IvC; simp [zf]
  · unfold IvF st5 hP; simp [zf, w0, w6, sm_0]
  · unfold IvR; simp [zf]; intro r h0 h1; omega
  · unfold IvP; simp [zf]
  · exact IvX_0 (by simp [zf]) (by simp [me0])

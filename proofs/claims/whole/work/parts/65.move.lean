/-! the way is moved along -/
def chv (χ : Int → Int → Int) (w p : Int) : Int := if p = -1 then w else χ (p % 10) (p / 10)
def okp (K : Me) (t p : Int) : Prop := 0 ≤ p ∧ p < 1010 ∧ pl K (p % 10) (p / 10) ∧ p / 10 ≤ t
def pth (K X : Me) (n : Int) : Nat → Int → Prop
  | 0, p => p = -1
  | k + 1, p => 0 ≤ p ∧ ∃ q, RS K X p (X 44 p) q ∧ n ≤ rmf K X p (X 44 p) ∧ pth K X n k q
section MV
variable {d : Nat} {K M X : Me} {t n p q s : Int} {g : Int → Int} {Q : Int → Me → Prop}
theorem RS_det {M' : Me} {q' : Int} (W : WK K) (h : RS K M p s q) (h' : RS K M' p s q') : q = q' := by
  have wr := W.2.1.1
  rcases h with h | h | ⟨r, r0, r1, r2, r3, r4, r5, r6⟩ | ⟨r, r0, r1, r2, r3, r4, r5, r6, r7⟩
  · rcases h' with h' | h' | ⟨r', g⟩ | ⟨r', g⟩ <;> omega
  · rcases h' with h' | h' | ⟨r', g⟩ | ⟨r', g⟩ <;> omega
  · rcases h' with h' | h' | ⟨r', g0, g1, g2, g3, g4, g5, g6⟩ | ⟨r', g⟩
    · omega
    · omega
    · have : r = r' := by omega
      subst this
      omega
    · omega
  · rcases h' with h' | h' | ⟨r', g⟩ | ⟨r', g0, g1, g2, g3, g4, g5, g6, g7⟩
    · omega
    · omega
    · omega
    · have : r = r' := by omega
      subst this
      omega
theorem neg_mul_sub (n a b : Int) : -n * (a - b) = n * (b - a) := by
  rw [Int.neg_mul, ← Int.mul_neg, Int.neg_sub]
theorem mv_LL {χ : Int → Int → Int} {w : Int} (W : WK K) (p0 : 0 ≤ p) (p1 : p < 1010) (h : RS K X p s q) : LL K g (fwt (mvm K X p s n)) (fsr (mvm K X p s n)) χ w = LL K g (fwt X) (fsr X) χ w + n * (chv χ w q - chv χ w p) := by
  have wr := W.2.1.1
  have hn := W.2.2
  unfold mvm chv
  rcases h with h | h | ⟨r, r0, r1, r2, r3, r4, r5, r6⟩ | ⟨r, r0, r1, r2, r3, r4, r5, r6, r7⟩
  · rw [if_pos h.1]
    have e : fsr (me_put X 41 p (X 41 p + n)) = fsr X := by unfold fsr; rw [me_f _ (by decide)]
    rw [e, if_neg (by omega), if_neg (by omega), LL_w (wt := fwt X) (wt' := fwt (me_put X 41 p (X 41 p + n))) (c := p % 10) (h := p / 10) (n := n) (by omega) (by omega) (by omega) (by omega)]
    · rw [show q % 10 = p % 10 by omega, show q / 10 = p / 10 + 1 by omega]
    · unfold fwt; rw [show p / 10 * 10 + p % 10 = p by omega, me_self]
    · intro i j i0 i1 j0 j1 z
      unfold fwt; rw [me_i _ (by omega)]
  · rw [if_neg (by omega), if_pos h.1]
    have e : fsr (me_put X 41 (p - 10) (X 41 (p - 10) - n)) = fsr X := by unfold fsr; rw [me_f _ (by decide)]
    rw [e, if_neg (by omega), if_neg (by omega), LL_w (wt := fwt X) (wt' := fwt (me_put X 41 (p - 10) (X 41 (p - 10) - n))) (c := p % 10) (h := p / 10 - 1) (n := -n) (by omega) (by omega) (by omega) (by omega)]
    · rw [show q % 10 = p % 10 by omega, show q / 10 = p / 10 - 1 by omega, show p / 10 - 1 + 1 = p / 10 by omega, neg_mul_sub]
    · unfold fwt; rw [show (p / 10 - 1) * 10 + p % 10 = p - 10 by omega, me_self]; omega
    · intro i j i0 i1 j0 j1 z
      unfold fwt; rw [me_i _ (by omega)]
  · obtain ⟨r12, rf, rt, rb, rl, rn⟩ := WK_r W r0 r1
    rw [if_neg (by omega), if_neg (by omega), if_pos (by omega), show s - 2 = r by omega]
    have e : fwt (me_put X 42 (r * 100 + p / 10) (X 42 (r * 100 + p / 10) + n)) = fwt X := by unfold fwt; rw [me_f _ (by decide)]
    rw [e, if_neg (show ¬ p = -1 by omega), LL_s (st := fsr X) (st' := fsr (me_put X 42 (r * 100 + p / 10) (X 42 (r * 100 + p / 10) + n))) (r := r) (h := p / 10) (n := n) r0 r12 (by omega) (by omega)]
    · unfold hdv
      rcases r6 with z | z
      · rw [if_neg z.1, if_neg (by have := rt.resolve_left z.1; omega), r3, show q % 10 = K 26 r by have := rt.resolve_left z.1; omega, show q / 10 = p / 10 + K 28 r by have := rt.resolve_left z.1; omega]
      · rw [if_pos z.1, if_pos z.2, r3]
    · unfold fsr; rw [if_pos r4, if_pos r4, me_self]
    · intro i j i0 i1 j0 j1 z
      unfold fsr
      split
      · rw [me_i _ (by omega)]
      · rfl
  · obtain ⟨r12, rf, rt, rb, rl, rn⟩ := WK_r W r0 r1
    rw [if_neg (by omega), if_neg (by omega), if_neg (by omega), show s - 14 = r by omega]
    have e : fwt (me_put X 42 (r * 100 + (p / 10 - K 28 r)) (X 42 (r * 100 + (p / 10 - K 28 r)) - n)) = fwt X := by unfold fwt; rw [me_f _ (by decide)]
    rw [e, if_neg (show ¬ p = -1 by omega), if_neg (show ¬ q = -1 by omega), LL_s (st := fsr X) (st' := fsr (me_put X 42 (r * 100 + (p / 10 - K 28 r)) (X 42 (r * 100 + (p / 10 - K 28 r)) - n))) (r := r) (h := p / 10 - K 28 r) (n := -n) r0 r12 (by omega) (by omega)]
    · unfold hdv
      rw [if_neg r3, neg_mul_sub, r4, show p / 10 - K 28 r + K 28 r = p / 10 by omega, show q % 10 = K 25 r by omega, show q / 10 = p / 10 - K 28 r by omega]
    · unfold fsr; rw [if_pos (by omega), if_pos (by omega), me_self]; omega
    · intro i j i0 i1 j0 j1 z
      unfold fsr
      split
      · rw [me_i _ (by omega)]
      · rfl
/-- a moved flow keeps its bounds -/
theorem mv_V (W : WK K) (hw : Vw K t (fwt X)) (hv : Vs K t (fsr X)) (hp : okp K t p) (hq : q = -1 ∨ okp K t q) (ho : q = -1 → p / 10 + K 28 (s - 2) ≤ t) (n0 : 0 ≤ n) (h : RS K X p s q) (hr : n ≤ rmf K X p s) : Vw K t (fwt (mvm K X p s n)) ∧ Vs K t (fsr (mvm K X p s n)) := by
  have wr := W.2.1.1
  have hn := W.2.2
  obtain ⟨p0, p1, pp, pt⟩ := hp
  unfold mvm
  unfold rmf at hr
  rcases h with h | h | ⟨r, r0, r1, r2, r3, r4, r5, r6⟩ | ⟨r, r0, r1, r2, r3, r4, r5, r6, r7⟩
  · rw [if_pos h.1]
    have hq' := hq.resolve_left (by omega)
    constructor
    · intro c h' c0 c1 h0 h1
      have v := hw c h' c0 c1 h0 h1
      unfold fwt at v ⊢
      by_cases z : h' * 10 + c = p
      · rw [z] at v ⊢
        rw [me_self]
        refine ⟨by omega, fun _ => ?_⟩
        have e1 : p % 10 = c := by omega
        have e2 : p / 10 = h' := by omega
        have g := hq'.2.2
        rw [show q % 10 = c by omega, show q / 10 = h' + 1 by omega] at g
        rw [e1, e2] at pp
        exact ⟨pp, g.1, g.2⟩
      · rw [me_i _ z]; exact v
    · intro r h' r0 r1 h0 h1
      have v := hv r h' r0 r1 h0 h1
      unfold fsr at v ⊢
      rw [me_f _ (by decide)]; exact v
  · rw [if_neg (by omega), if_pos h.1]
    rw [if_neg (by omega), if_pos h.1] at hr
    constructor
    · intro c h' c0 c1 h0 h1
      have v := hw c h' c0 c1 h0 h1
      unfold fwt at v ⊢
      by_cases z : h' * 10 + c = p - 10
      · rw [z] at v ⊢
        rw [me_self]
        exact ⟨by omega, fun _ => v.2 (by omega)⟩
      · rw [me_i _ z]; exact v
    · intro r h' r0 r1 h0 h1
      have v := hv r h' r0 r1 h0 h1
      unfold fsr at v ⊢
      rw [me_f _ (by decide)]; exact v
  · obtain ⟨r12, rf, rt, rb, rl, rn⟩ := WK_r W r0 r1
    rw [if_neg (by omega), if_neg (by omega), if_pos (by omega), show s - 2 = r by omega]
    rw [if_neg (by omega), if_neg (by omega), if_pos (by omega), show s - 2 = r by omega] at hr
    rw [show s - 2 = r by omega] at ho
    constructor
    · intro c h' c0 c1 h0 h1
      have v := hw c h' c0 c1 h0 h1
      unfold fwt at v ⊢
      rw [me_f _ (by decide)]; exact v
    · intro r' h' g0 g1 h0 h1
      have v := hv r' h' g0 g1 h0 h1
      unfold fsr at v ⊢
      by_cases z : h' < 100
      · rw [if_pos z] at v ⊢
        by_cases y : r' * 100 + h' = r * 100 + p / 10
        · have e1 : r' = r := by omega
          have e2 : h' = p / 10 := by omega
          subst e1; subst e2
          rw [me_self]
          refine ⟨by omega, fun _ => ⟨r1, by omega, ?_, ?_, ?_⟩⟩
          · rw [r3]; exact pp
          · rcases r6 with w | w
            · have := rt.resolve_left w.1
              have := hq.resolve_left (by omega)
              have := this.2.2.2
              omega
            · exact ho w.2
          · intro w
            rcases r6 with w2 | w2
            · have := rt.resolve_left w
              have g := (hq.resolve_left (by omega)).2.2.1
              rw [show q % 10 = K 26 r' by omega, show q / 10 = p / 10 + K 28 r' by omega] at g
              exact g
            · exact (w w2.1).elim
        · rw [me_i _ y]; exact v
      · rw [if_neg z] at v ⊢; exact v
  · obtain ⟨r12, rf, rt, rb, rl, rn⟩ := WK_r W r0 r1
    rw [if_neg (by omega), if_neg (by omega), if_neg (by omega), show s - 14 = r by omega]
    rw [if_neg (by omega), if_neg (by omega), if_neg (by omega), show s - 14 = r by omega] at hr
    constructor
    · intro c h' c0 c1 h0 h1
      have v := hw c h' c0 c1 h0 h1
      unfold fwt at v ⊢
      rw [me_f _ (by decide)]; exact v
    · intro r' h' g0 g1 h0 h1
      have v := hv r' h' g0 g1 h0 h1
      unfold fsr at v ⊢
      by_cases z : h' < 100
      · rw [if_pos z] at v ⊢
        by_cases y : r' * 100 + h' = r * 100 + (p / 10 - K 28 r)
        · rw [y] at v ⊢
          rw [me_self]
          refine ⟨by omega, fun _ => ?_⟩
          have := v.2 (by omega)
          exact ⟨this.1, by omega, this.2.2⟩
        · rw [me_i _ y]; exact v
      · rw [if_neg z] at v ⊢; exact v
/-- a move at p leaves the room elsewhere -/
theorem mv_rm {p' s' q' : Int} (W : WK K) (p0 : 0 ≤ p) (p1 : p < 1010) (p0' : 0 ≤ p') (p1' : p' < 1010) (h : RS K X p s q) (h' : RS K X p' s' q') (np : p' ≠ p) (nq : q' ≠ p) : rmf K (mvm K X p s n) p' s' = rmf K X p' s' ∧ RS K (mvm K X p s n) p' s' q' := by
  have wr := W.2.1.1
  have hn := W.2.2
  have k41 : ∀ i, (s = 0 → i ≠ p) → (s = 1 → i ≠ p - 10) → mvm K X p s n 41 i = X 41 i := by
    intro i a b
    unfold mvm
    split
    · rename_i z; rw [me_i _ (a z)]
    · split
      · rename_i z; rw [me_i _ (b z)]
      · split <;> rw [me_ne _ _ _ _ (by decide)]
  have k42 : ∀ i, (¬ s = 0 → ¬ s = 1 → s < 14 → i ≠ (s - 2) * 100 + p / 10) → (¬ s < 14 → i ≠ (s - 14) * 100 + (p / 10 - K 28 (s - 14))) → mvm K X p s n 42 i = X 42 i := by
    intro i a b
    unfold mvm
    split
    · rw [me_ne _ _ _ _ (by decide)]
    · split
      · rw [me_ne _ _ _ _ (by decide)]
      · split
        · rename_i z1 z2 z3; rw [me_i _ (a z1 z2 z3)]
        · rename_i z1 z2 z3; rw [me_i _ (b z3)]
  rcases h' with g | g | ⟨r', g0, g1, g2, g3, g4, g5, g6⟩ | ⟨r', g0, g1, g2, g3, g4, g5, g6, g7⟩
  · exact ⟨by unfold rmf; rw [if_pos g.1, if_pos g.1], Or.inl g⟩
  · have e := k41 (p' - 10) (fun _ => by omega) (fun _ => by omega)
    refine ⟨?_, Or.inr (Or.inl ⟨g.1, g.2.1, g.2.2.1, by rw [e]; exact g.2.2.2⟩)⟩
    unfold rmf
    rw [if_neg (by omega), if_pos g.1, if_neg (by omega), if_pos g.1, e]
  · obtain ⟨r12, rf, rt, rb, rl, rn⟩ := WK_r W g0 g1
    have e : mvm K X p s n 42 (r' * 100 + p' / 10) = X 42 (r' * 100 + p' / 10) := by
      rcases h with h | h | ⟨r, r0, r1, r2, r3, r4, r5, r6⟩ | ⟨r, r0, r1, r2, r3, r4, r5, r6, r7⟩
      · exact k42 _ (fun z => by omega) (fun z => by omega)
      · exact k42 _ (fun z1 z2 => by omega) (fun z => by omega)
      · refine k42 _ (fun _ _ _ y => ?_) (fun z => by omega)
        rw [show s - 2 = r by omega] at y
        have e1 : r' = r := by omega
        subst e1
        omega
      · refine k42 _ (fun z1 z2 z3 => by omega) (fun _ y => ?_)
        obtain ⟨s12, sf, st, sb, sl, sn⟩ := WK_r W r0 r1
        rw [show s - 14 = r by omega] at y
        have e1 : r' = r := by omega
        subst e1
        rcases g6 with w | w
        · omega
        · exact (r3 w.1).elim
    refine ⟨?_, Or.inr (Or.inr (Or.inl ⟨r', g0, g1, g2, g3, g4, by rw [e]; exact g5, g6⟩))⟩
    unfold rmf
    rw [if_neg (by omega), if_neg (by omega), if_pos (by omega), if_neg (by omega), if_neg (by omega), if_pos (by omega), show s' - 2 = r' by omega, e]
  · obtain ⟨r12, rf, rt, rb, rl, rn⟩ := WK_r W g0 g1
    have e : mvm K X p s n 42 (r' * 100 + (p' / 10 - K 28 r')) = X 42 (r' * 100 + (p' / 10 - K 28 r')) := by
      rcases h with h | h | ⟨r, r0, r1, r2, r3, r4, r5, r6⟩ | ⟨r, r0, r1, r2, r3, r4, r5, r6, r7⟩
      · exact k42 _ (fun z => by omega) (fun z => by omega)
      · exact k42 _ (fun z1 z2 => by omega) (fun z => by omega)
      · refine k42 _ (fun _ _ _ y => ?_) (fun z => by omega)
        rw [show s - 2 = r by omega] at y
        have e1 : r' = r := by omega
        subst e1
        omega
      · refine k42 _ (fun z1 z2 z3 => by omega) (fun _ y => ?_)
        obtain ⟨s12, sf, st, sb, sl, sn⟩ := WK_r W r0 r1
        rw [show s - 14 = r by omega] at y
        have e1 : r' = r := by omega
        subst e1
        omega
    refine ⟨?_, Or.inr (Or.inr (Or.inr ⟨r', g0, g1, g2, g3, g4, g5, by rw [e]; exact g6, g7⟩))⟩
    unfold rmf
    rw [if_neg (by omega), if_neg (by omega), if_neg (by omega), if_neg (by omega), if_neg (by omega), if_neg (by omega), show s' - 14 = r' by omega, e]
theorem mvm_f {k : Nat} (h1 : k ≠ 41) (h2 : k ≠ 42) : mvm K X p s n k = X k := by
  unfold mvm
  split
  · exact me_f _ h1
  · split
    · exact me_f _ h1
    · split
      · exact me_f _ h2
      · exact me_f _ h2
/-- what is cut off stays so -/
theorem mv_CO (W : WK K) (hc : COk K X) (p0 : 0 ≤ p) (p1 : p < 1010) (hp : 0 ≤ X 43 p) (hq : q = -1 ∨ (0 ≤ q ∧ q < 1010 ∧ 0 ≤ X 43 q)) (h : RS K X p s q) : COk K (mvm K X p s n) := by
  have wr := W.2.1.1
  have hn := W.2.2
  intro c h' pp hm
  rw [mvm_f (by decide) (by decide)] at hm
  obtain ⟨a1, a2, a3, a4, a5⟩ := hc c h' pp hm
  obtain ⟨c0, c1, c2, c3, h0, h1, hd⟩ := pp
  rw [mvm_f (k := 43) (by decide) (by decide), mvm_f (k := 40) (by decide) (by decide)]
  have np : h' * 10 + c ≠ p := fun e => by rw [e] at hm; omega
  have nq : h' * 10 + c ≠ q := fun e => by
    rcases hq with z | z
    · omega
    · rw [e] at hm; omega
  have k41 : mvm K X p s n 41 (h' * 10 + c) = X 41 (h' * 10 + c) := by
    rcases h with h | h | ⟨r, g⟩ | ⟨r, g⟩
    · unfold mvm; rw [if_pos h.1, me_i _ np]
    · unfold mvm; rw [if_neg (by omega), if_pos h.1, me_i _ (by omega)]
    · unfold mvm; rw [if_neg (by omega), if_neg (by omega), if_pos (by omega), me_ne _ _ _ _ (by decide)]
    · unfold mvm; rw [if_neg (by omega), if_neg (by omega), if_neg (by omega), me_ne _ _ _ _ (by decide)]
  have k42 : ∀ r', 0 ≤ r' → r' < K 3 8 → ∀ x, 0 ≤ x → x < 100 → ((K 25 r' = c ∧ x = h') ∨ (K 26 r' = c ∧ x + K 28 r' = h')) → mvm K X p s n 42 (r' * 100 + x) = X 42 (r' * 100 + x) := by
    intro r' g0 g1 x x0 x1 hx
    rcases h with h | h | ⟨r, r0, r1, r2, r3, r4, r5, r6⟩ | ⟨r, r0, r1, r2, r3, r4, r5, r6, r7⟩
    · unfold mvm; rw [if_pos h.1, me_ne _ _ _ _ (by decide)]
    · unfold mvm; rw [if_neg (by omega), if_pos h.1, me_ne _ _ _ _ (by decide)]
    · obtain ⟨r12, rf, rt, rb, rl, rn⟩ := WK_r W r0 r1
      unfold mvm; rw [if_neg (by omega), if_neg (by omega), if_pos (by omega), show s - 2 = r by omega, me_i]
      intro y
      have e1 : r' = r := by omega
      subst e1
      rcases hx with hx | hx
      · omega
      · rcases r6 with w | w <;> omega
    · obtain ⟨r12, rf, rt, rb, rl, rn⟩ := WK_r W r0 r1
      unfold mvm; rw [if_neg (by omega), if_neg (by omega), if_neg (by omega), show s - 14 = r by omega, me_i]
      intro y
      have e1 : r' = r := by omega
      subst e1
      rcases hx with hx | hx <;> omega
  refine ⟨fun z1 z2 => a1 z1 (by rw [← k41]; exact z2), a2, fun r r0 r1 r2 r3 z1 z2 => ?_, fun r r0 r1 r2 z1 z2 => ?_, a5⟩
  · rw [k42 r r0 r1 h' (by omega) z1 (Or.inl ⟨r2, rfl⟩)] at z2
    exact a3 r r0 r1 r2 r3 z1 z2
  · obtain ⟨r12, rf, rt, rb, rl, rn⟩ := WK_r W r0 r1
    rw [k42 r r0 r1 (h' - K 28 r) (by omega) (by omega) (Or.inr ⟨r2, by omega⟩)] at z2
    exact a4 r r0 r1 r2 z1 z2
/-- roads OUT change only at the last step -/
theorem mv_OUT {r' x : Int} (W : WK K) (p0 : 0 ≤ p) (p1 : p < 1010) (h : RS K X p s q) (g0 : 0 ≤ r') (g1 : r' < K 3 8) (g2 : K 26 r' = -1) (x0 : 0 ≤ x) (x1 : x < 100) : mvm K X p s n 42 (r' * 100 + x) = X 42 (r' * 100 + x) + (if q = -1 ∧ r' * 100 + x = (s - 2) * 100 + p / 10 then n else 0) := by
  have wr := W.2.1.1
  have hn := W.2.2
  rcases h with h | h | ⟨r, r0, r1, r2, r3, r4, r5, r6⟩ | ⟨r, r0, r1, r2, r3, r4, r5, r6, r7⟩
  · unfold mvm; rw [if_pos h.1, me_ne _ _ _ _ (by decide), if_neg (by omega)]; omega
  · unfold mvm; rw [if_neg (by omega), if_pos h.1, me_ne _ _ _ _ (by decide), if_neg (by omega)]; omega
  · obtain ⟨r12, rf, rt, rb, rl, rn⟩ := WK_r W r0 r1
    unfold mvm; rw [if_neg (by omega), if_neg (by omega), if_pos (by omega), show s - 2 = r by omega]
    by_cases y : r' * 100 + x = r * 100 + p / 10
    · have e1 : r' = r := by omega
      subst e1
      rw [y, me_self, if_pos]
      refine ⟨?_, rfl⟩
      rcases r6 with w | w
      · exact (w.1 g2).elim
      · exact w.2
    · rw [me_i _ y, if_neg (fun z => y z.2)]; omega
  · obtain ⟨r12, rf, rt, rb, rl, rn⟩ := WK_r W r0 r1
    unfold mvm; rw [if_neg (by omega), if_neg (by omega), if_neg (by omega), show s - 14 = r by omega, me_i, if_neg (by omega)]
    · omega
    · intro y
      have e1 : r' = r := by omega
      subst e1
      exact r3 g2
end MV

/-! the small machine's cells in the heap -/
def lw_ok : List Cond := lw_tbl.filter goodWord
theorem ok_in {w : Cond} (h : w ∈ lw_tbl) (hg : goodWord w = true) : w ∈ lw_ok := List.mem_filter.mpr ⟨h, hg⟩
theorem good_in {ws : List Cond} (h : ∀ w ∈ ws, w ∈ lw_ok) : GoodIn lw_ok ws := fun w hw => ⟨h w hw, good_of_word (List.mem_filter.mp (h w hw)).2⟩
theorem at_in {w : Cond} {i : Nat} (h : lw_tbl[i]? = some w) (hg : goodWord w = true) : w ∈ lw_ok := ok_in (List.mem_of_getElem? h) hg
def cvv (ad : Nat → Nat) : AV → Value
  | .inl x => .int (Int32.ofInt x)
  | .inr (.inl x) => .long (Int64.ofInt x)
  | .inr (.inr k) => .ref (ad k)
def fvl (ad : Nat → Nat) (M : Me) (o k : Nat) : Value := match fk o k with
  | 0 => .int (Int32.ofInt (M o k))
  | 1 => .int (Int32.ofInt (M o k))
  | r + 2 => .ref (ad r)
def fvs (ad : Nat → Nat) (M : Me) (o : Nat) : List Value := (List.range (clN (oc o))).map (fvl ad M o)
def ent (ad : Nat → Nat) (cI cZ cJ : ClassId) (M : Me) (k : Nat) : va_E := match kd k with
  | 0 => .inr (oc k, fvs ad M k)
  | 1 => .inl (cI, (ln k).toNat, .inl (fun j => Int32.ofInt (M k (j : Int))))
  | 2 => .inl (cZ, (ln k).toNat, .inl (fun j => Int32.ofInt (M k (j : Int))))
  | _ => .inl (cJ, (ln k).toNat, .inr (.inl (fun j => Int64.ofInt (M k (j : Int)))))
def wsM (ad : Nat → Nat) (cI cZ cJ : ClassId) (M : Me) : va_W := (List.range 86).map (fun k => (ad k, ent ad cI cZ cJ M k))
def rg (k : Nat) (x : Int) : Prop := if kd k = 3 then -9223372036854775808 ≤ x ∧ x < 9223372036854775808 else -2147483648 ≤ x ∧ x < 2147483648
def okM (S M : Me) : Prop := (∀ k j, rg k (M k j)) ∧ ∀ j, M 98 j = S 98 j ∧ M 99 j = S 99 j
def okV : AV → Prop
  | .inl x => -2147483648 ≤ x ∧ x < 2147483648
  | .inr (.inl x) => -9223372036854775808 ≤ x ∧ x < 9223372036854775808
  | .inr (.inr _) => True
def okS (st : St) : Prop := ∀ v ∈ st, okV v
def okO (lo : Lo) : Prop := ∀ (i : Nat) (v : AV), lg lo i = some v → okV v
def prs (ad : Nat → Nat) (lo : Lo) : List (Nat × Value) := lo.zipIdx.filterMap fun q => q.1.map fun v => (q.2, cvv ad v)
theorem nt_get {α : Type} (d : α) : ∀ (l : List α) (n : Nat), nt d l n = (l[n]?).getD d
  | [], _ => rfl
  | _ :: _, 0 => rfl
  | _ :: l, n + 1 => by rw [nt, nt_get d l n]; simp
theorem nt_lt {α : Type} {d : α} {l : List α} {n : Nat} (h : nt d l n ≠ d) : n < l.length := by
  rcases Nat.lt_or_ge n l.length with h1 | h1
  · exact h1
  · rw [nt_get, List.getElem?_eq_none h1] at h
    exact absurd rfl h
theorem lg_iff {lo : Lo} {i : Nat} {v : AV} : lg lo i = some v ↔ lo[i]? = some (some v) := by
  unfold lg
  rw [nt_get]
  cases h : lo[i]? with
  | none => simp
  | some q => simp
theorem mem_prs {ad : Nat → Nat} {lo : Lo} {i : Nat} {u : Value} : (i, u) ∈ prs ad lo ↔ ∃ v, lg lo i = some v ∧ u = cvv ad v := by
  simp only [prs, List.mem_filterMap, lg_iff]
  constructor
  · rintro ⟨⟨q, j⟩, h1, h2⟩
    cases q with
    | none => simp at h2
    | some v =>
      simp at h2
      obtain ⟨rfl, rfl⟩ := h2
      exact ⟨v, List.mk_mem_zipIdx_iff_getElem?.mp h1, rfl⟩
  · rintro ⟨v, h1, rfl⟩
    exact ⟨(some v, i), List.mk_mem_zipIdx_iff_getElem?.mpr h1, rfl⟩
theorem lz_len : ∀ (lo : Lo) (i : Nat) (v : AV), (lz lo i v).length = lo.length
  | [], _, _ => rfl
  | _ :: _, 0, _ => rfl
  | a :: l, n + 1, v => by simp [lz, lz_len l n v]
theorem ly_len : ∀ (lo : Lo) (i : Nat), (ly lo i).length = lo.length
  | [], _ => rfl
  | _ :: _, 0 => rfl
  | a :: l, n + 1 => by simp [ly, ly_len l n]
theorem lz_get : ∀ (lo : Lo) (i : Nat) (v : AV) (j : Nat), j ≠ i → lg (lz lo i v) j = lg lo j
  | [], _, _, _, _ => rfl
  | _ :: _, 0, _, 0, h => absurd rfl h
  | _ :: _, 0, _, _ + 1, _ => rfl
  | _ :: _, _ + 1, _, 0, _ => rfl
  | a :: l, n + 1, v, j + 1, h => lz_get l n v j (fun q => h (by rw [q]))
theorem lz_at : ∀ (lo : Lo) (i : Nat) (v u : AV), lg (lz lo i v) i = some u → u = v
  | [], _, _, _, h => by simp [lz, lg, nt] at h
  | _ :: _, 0, v, u, h => by simp [lz, lg, nt] at h; exact h.symm
  | a :: l, n + 1, v, u, h => lz_at l n v u h
theorem ly_get : ∀ (lo : Lo) (i : Nat) (j : Nat), j ≠ i → lg (ly lo i) j = lg lo j
  | [], _, _, _ => rfl
  | _ :: _, 0, 0, h => absurd rfl h
  | _ :: _, 0, _ + 1, _ => rfl
  | _ :: _, _ + 1, 0, _ => rfl
  | a :: l, n + 1, j + 1, h => ly_get l n j (fun q => h (by rw [q]))
theorem ly_at : ∀ (lo : Lo) (i : Nat), lg (ly lo i) i = none
  | [], _ => rfl
  | _ :: _, 0 => rfl
  | a :: l, n + 1 => ly_at l n
theorem kd_lt {k n : Nat} (h : kd k = n) (hn : n ≠ 9) : k < 86 := nt_lt (d := 9) (l := kdl) (by unfold kd at h; rw [h]; exact hn)
theorem oc_lt {k n : Nat} (h : oc k = n) (hn : n ≠ 99) : k < 86 := nt_lt (d := 99) (l := ocl) (by unfold oc at h; rw [h]; exact hn)
theorem oc_kd : ∀ k, k < 86 → oc k < 9 → kd k = 0 := by decide +kernel
theorem ln_rng : ∀ k, k < 86 → 0 ≤ ln k ∧ ln k ≤ 2000 := by decide +kernel
theorem wsM_get {ad : Nat → Nat} {cI cZ cJ : ClassId} {M : Me} {k : Nat} (h : k < 86) : (wsM ad cI cZ cJ M)[k]? = some (ad k, ent ad cI cZ cJ M k) := by
  simp [wsM, List.getElem?_map, List.getElem?_range h]
theorem ent_congr {ad : Nat → Nat} {cI cZ cJ : ClassId} {M M' : Me} {k : Nat} (h : ∀ j, M' k j = M k j) : ent ad cI cZ cJ M' k = ent ad cI cZ cJ M k := by
  have hf : fvs ad M' k = fvs ad M k := by
    unfold fvs
    apply List.map_congr_left
    intro j _
    unfold fvl
    rw [h]
  unfold ent
  simp only [hf, h]
theorem wsM_set {ad : Nat → Nat} {cI cZ cJ : ClassId} {M M' : Me} {a : Nat} {E : va_E} (ha : a < 86) (hE : E = ent ad cI cZ cJ M' a) (hM : ∀ k, k ≠ a → ∀ j, M' k j = M k j) : (wsM ad cI cZ cJ M).set a (ad a, E) = wsM ad cI cZ cJ M' := by
  apply List.ext_getElem?
  intro k
  rw [List.getElem?_set]
  by_cases hk : a = k
  · subst hk
    rw [if_pos rfl, wsM_get ha, hE]
    simp [wsM, ha]
  · rw [if_neg hk]
    by_cases h2 : k < 86
    · rw [wsM_get h2, wsM_get h2, ent_congr (hM k (fun q => hk q.symm))]
    · rw [List.getElem?_eq_none (by simp [wsM]; omega), List.getElem?_eq_none (by simp [wsM]; omega)]
theorem wsM_D {ad : Nat → Nat} {cI cZ cJ : ClassId} {M M' : Me} {A : Nat → Prop} (h : va_D A (wsM ad cI cZ cJ M)) : va_D A (wsM ad cI cZ cJ M') := by
  have key : ∀ (k : Nat) (q : Nat × va_E), (wsM ad cI cZ cJ M')[k]? = some q → k < 86 ∧ q.1 = ad k := by
    intro k q hq
    rcases Nat.lt_or_ge k 86 with h1 | h1
    · rw [wsM_get h1] at hq
      exact ⟨h1, by rw [← Option.some.inj hq]⟩
    · rw [List.getElem?_eq_none (by simp [wsM]; omega)] at hq
      cases hq
  refine ⟨fun i j p q hi hj e => ?_, fun k q hk => ?_⟩
  · obtain ⟨h1, e1⟩ := key i p hi
    obtain ⟨h2, e2⟩ := key j q hj
    exact h.1 i j _ _ (wsM_get h1) (wsM_get h2) (by show ad i = ad j; rw [← e1, ← e2]; exact e)
  · obtain ⟨h1, e1⟩ := key k q hk
    rw [e1]
    exact h.2 k _ (wsM_get h1)
theorem i_of {x : Int} (h : -2147483648 ≤ x ∧ x < 2147483648) : (Int32.ofInt x).toInt = x := Int32.toInt_ofInt_of_le (by omega) (by omega)
theorem l_of {x : Int} (h : -9223372036854775808 ≤ x ∧ x < 9223372036854775808) : (Int64.ofInt x).toInt = x := Int64.toInt_ofInt_of_le (by omega) (by omega)
theorem i_w (x : Int) : (Int32.ofInt (w32 x)).toInt = w32 x := i_of (w32_rng x)
theorem l_w (x : Int) : (Int64.ofInt (w64 x)).toInt = w64 x := l_of (w64_rng x)
theorem i_add {x y : Int} (hx : -2147483648 ≤ x ∧ x < 2147483648) (hy : -2147483648 ≤ y ∧ y < 2147483648) : Int32.ofInt x + Int32.ofInt y = Int32.ofInt (w32 (x + y)) := by
  apply Int32.toInt_inj.mp
  rw [i_w, Int32.toInt_add, i_of hx, i_of hy]; rfl
theorem i_sub {x y : Int} (hx : -2147483648 ≤ x ∧ x < 2147483648) (hy : -2147483648 ≤ y ∧ y < 2147483648) : Int32.ofInt x - Int32.ofInt y = Int32.ofInt (w32 (x - y)) := by
  apply Int32.toInt_inj.mp
  rw [i_w, Int32.toInt_sub, i_of hx, i_of hy]; rfl
theorem i_mul {x y : Int} (hx : -2147483648 ≤ x ∧ x < 2147483648) (hy : -2147483648 ≤ y ∧ y < 2147483648) : Int32.ofInt x * Int32.ofInt y = Int32.ofInt (w32 (x * y)) := by
  apply Int32.toInt_inj.mp
  rw [i_w, Int32.toInt_mul, i_of hx, i_of hy]; rfl
theorem i_neg {x : Int} (hx : -2147483648 ≤ x ∧ x < 2147483648) : - Int32.ofInt x = Int32.ofInt (w32 (-x)) := by
  apply Int32.toInt_inj.mp
  rw [i_w, Int32.toInt_neg, i_of hx]; rfl
theorem i_div {x y : Int} (hx : -2147483648 ≤ x ∧ x < 2147483648) (hy : -2147483648 ≤ y ∧ y < 2147483648) : Int32.ofInt x / Int32.ofInt y = Int32.ofInt (w32 (x.tdiv y)) := by
  apply Int32.toInt_inj.mp
  rw [i_w, Int32.toInt_div, i_of hx, i_of hy]; rfl
theorem i_tmod {x y : Int} (hx : -2147483648 ≤ x ∧ x < 2147483648) : -2147483648 ≤ x.tmod y ∧ x.tmod y < 2147483648 := by
  have h1 := Int.natAbs_tmod x y
  have h2 : x.natAbs % y.natAbs ≤ x.natAbs := Nat.mod_le _ _
  by_cases h : x < 0
  · have h3 := Int.tmod_nonneg y (by omega : 0 ≤ -x)
    have h4 : (-(-x)).tmod y = -((-x).tmod y) := Int.neg_tmod ..
    rw [Int.neg_neg] at h4
    omega
  · have h3 := Int.tmod_nonneg y (by omega : 0 ≤ x)
    omega
theorem i_rem {x y : Int} (hx : -2147483648 ≤ x ∧ x < 2147483648) (hy : -2147483648 ≤ y ∧ y < 2147483648) : Int32.ofInt x - Int32.ofInt x / Int32.ofInt y * Int32.ofInt y = Int32.ofInt (x.tmod y) := by
  apply Int32.toInt_inj.mp
  rw [i_of (i_tmod hx), Int32.toInt_sub, Int32.toInt_mul, Int32.toInt_div, i_of hx, i_of hy]
  have e : x - (x.tdiv y) * y = x.tmod y := by
    have := Int.tmod_add_mul_tdiv x y
    rw [Int.mul_comm] at this
    omega
  have h1 : (x - ((x.tdiv y).bmod (2 ^ 32) * y).bmod (2 ^ 32)).bmod (2 ^ 32) = (x - x.tdiv y * y).bmod (2 ^ 32) := (Int.bmod_sub_cancel_left x).mpr (by rw [Int.bmod_bmod, Int.bmod_mul_bmod])
  rw [h1, e]
  have := i_tmod (y := y) hx
  rw [Int.bmod_eq_of_le] <;> omega
theorem l_add {x y : Int} (hx : -9223372036854775808 ≤ x ∧ x < 9223372036854775808) (hy : -9223372036854775808 ≤ y ∧ y < 9223372036854775808) : Int64.ofInt x + Int64.ofInt y = Int64.ofInt (w64 (x + y)) := by
  apply Int64.toInt_inj.mp
  rw [l_w, Int64.toInt_add, l_of hx, l_of hy]; rfl
theorem l_mul {x y : Int} (hx : -9223372036854775808 ≤ x ∧ x < 9223372036854775808) (hy : -9223372036854775808 ≤ y ∧ y < 9223372036854775808) : Int64.ofInt x * Int64.ofInt y = Int64.ofInt (w64 (x * y)) := by
  apply Int64.toInt_inj.mp
  rw [l_w, Int64.toInt_mul, l_of hx, l_of hy]; rfl
theorem l_div {x y : Int} (hx : -9223372036854775808 ≤ x ∧ x < 9223372036854775808) (hy : -9223372036854775808 ≤ y ∧ y < 9223372036854775808) : Int64.ofInt x / Int64.ofInt y = Int64.ofInt (w64 (x.tdiv y)) := by
  apply Int64.toInt_inj.mp
  rw [l_w, Int64.toInt_div, l_of hx, l_of hy]; rfl
theorem i_l {x : Int} (hx : -2147483648 ≤ x ∧ x < 2147483648) : (Int32.ofInt x).toInt64 = Int64.ofInt x := by
  apply Int64.toInt_inj.mp
  rw [l_of (by omega), Int32.toInt_toInt64, i_of hx]
theorem l_i {x : Int} (hx : -9223372036854775808 ≤ x ∧ x < 9223372036854775808) : (Int64.ofInt x).toInt32 = Int32.ofInt (w32 x) := by
  apply Int32.toInt_inj.mp
  rw [i_w, Int64.toInt_toInt32, l_of hx]; rfl
theorem i_lt {x y : Int} (hx : -2147483648 ≤ x ∧ x < 2147483648) (hy : -2147483648 ≤ y ∧ y < 2147483648) : Int32.ofInt x < Int32.ofInt y ↔ x < y := by
  rw [Int32.lt_iff_toInt_lt, i_of hx, i_of hy]
theorem i_le {x y : Int} (hx : -2147483648 ≤ x ∧ x < 2147483648) (hy : -2147483648 ≤ y ∧ y < 2147483648) : Int32.ofInt x ≤ Int32.ofInt y ↔ x ≤ y := by
  rw [Int32.le_iff_toInt_le, i_of hx, i_of hy]
theorem i_eq {x y : Int} (hx : -2147483648 ≤ x ∧ x < 2147483648) (hy : -2147483648 ≤ y ∧ y < 2147483648) : Int32.ofInt x = Int32.ofInt y ↔ x = y := by
  rw [← Int32.toInt_inj, i_of hx, i_of hy]
theorem l_lt {x y : Int} (hx : -9223372036854775808 ≤ x ∧ x < 9223372036854775808) (hy : -9223372036854775808 ≤ y ∧ y < 9223372036854775808) : Int64.ofInt x < Int64.ofInt y ↔ x < y := by
  rw [Int64.lt_iff_toInt_lt, l_of hx, l_of hy]
theorem l_eq {x y : Int} (hx : -9223372036854775808 ≤ x ∧ x < 9223372036854775808) (hy : -9223372036854775808 ≤ y ∧ y < 9223372036854775808) : Int64.ofInt x = Int64.ofInt y ↔ x = y := by
  rw [← Int64.toInt_inj, l_of hx, l_of hy]
theorem i_rng (x : Int32) : -2147483648 ≤ x.toInt ∧ x.toInt < 2147483648 := by
  have h1 := Int32.le_toInt x
  have h2 := Int32.toInt_lt x
  omega
theorem i_cl {x : Int} (h0 : 0 ≤ x) (h1 : x < 2147483648) : (Int32.ofInt x).toNatClampNeg = x.toNat := Int32.toNatClampNeg_ofInt_of_le (by omega) (by omega)
theorem i_in {x : Int} {n : Nat} (h0 : 0 ≤ x) (h1 : x < n) (hn : x < 2147483648) : vp_in (Int32.ofInt x) n := by
  rw [vp_in_iff, i_of ⟨by omega, hn⟩]
  exact ⟨h0, h1⟩
theorem i_zn {v : Int} (h : v = 0 ∨ v = 1) : narrow .boolean (.int (Int32.ofInt v)) = .int (Int32.ofInt v) := by
  rcases h with rfl | rfl <;> rfl
theorem okS_nil : okS [] := fun v h => by simp at h
theorem okS.push {st : St} {v : AV} (h : okS st) (hv : okV v) : okS (v :: st) := fun u hu => by
  rcases List.mem_cons.mp hu with rfl | h2
  · exact hv
  · exact h u h2
theorem okS.tail {st : St} {v : AV} (h : okS (v :: st)) : okS st := fun u hu => h u (List.mem_cons_of_mem _ hu)
theorem okS.head {st : St} {v : AV} (h : okS (v :: st)) : okV v := h v List.mem_cons_self
theorem okO.set {lo : Lo} {i : Nat} {v : AV} (h : okO lo) (hv : okV v) : okO (lz lo i v) := by
  intro j u hu
  by_cases hj : j = i
  · subst hj
    rw [lz_at lo j v u hu]
    exact hv
  · rw [lz_get lo i v j hj] at hu
    exact h j u hu
theorem okO.clr {lo : Lo} {i : Nat} (h : okO lo) : okO (ly lo i) := by
  intro j u hu
  by_cases hj : j = i
  · subst hj
    rw [ly_at lo j] at hu
    cases hu
  · rw [ly_get lo i j hj] at hu
    exact h j u hu
theorem okM.put {S M : Me} {k : Nat} {i v : Int} (h : okM S M) (hk : k < 86) (hv : rg k v) : okM S (me_put M k i v) := by
  refine ⟨fun a b => ?_, fun j => ?_⟩
  · unfold me_put
    split
    · rename_i q
      rw [q.1]
      exact hv
    · exact h.1 a b
  · rw [me_ne _ _ _ _ (by omega : (98 : Nat) ≠ k), me_ne _ _ _ _ (by omega : (99 : Nat) ≠ k)]
    exact h.2 j
theorem okM.get {S M : Me} {k : Nat} (h : okM S M) (hk : kd k ≠ 3) (j : Int) : -2147483648 ≤ M k j ∧ M k j < 2147483648 := by
  have := h.1 k j
  unfold rg at this
  rwa [if_neg hk] at this
theorem okM.getL {S M : Me} {k : Nat} (h : okM S M) (hk : kd k = 3) (j : Int) : -9223372036854775808 ≤ M k j ∧ M k j < 9223372036854775808 := by
  have := h.1 k j
  unfold rg at this
  rwa [if_pos hk] at this

theorem clC : ∀ ci, ci < 9 → cls9[ci]? = some (clR ci, clT ci, clN ci) := by
  intro ci h
  match ci, h with
  | 0, _ => rfl
  | 1, _ => rfl
  | 2, _ => rfl
  | 3, _ => rfl
  | 4, _ => rfl
  | 5, _ => rfl
  | 6, _ => rfl
  | 7, _ => rfl
  | 8, _ => rfl
theorem clY_ok : ∀ ci, ci < 9 → ∀ k, k < clN ci → parseFieldDescriptor (clT ci k).2.2.1 = some (clY ci k) := by
  intro ci h
  match ci, h with
  | 0, _ => exact tyX0_ok
  | 1, _ => exact tyX1_ok
  | 2, _ => exact tyX2_ok
  | 3, _ => exact tyX3_ok
  | 4, _ => exact tyX4_ok
  | 5, _ => exact tyX5_ok
  | 6, _ => exact tyX6_ok
  | 7, _ => exact tyX7_ok
  | 8, _ => exact tyX8_ok
theorem clM_ok : ∀ ci, ci < 9 → ∀ a, a < clN ci → ∀ b, b < clN ci → a ≠ b → (clT ci a).2.1 ≠ (clT ci b).2.1 := by
  intro ci h
  match ci, h with
  | 0, _ => exact nmX0
  | 1, _ => exact nmX1
  | 2, _ => exact nmX2
  | 3, _ => exact nmX3
  | 4, _ => exact nmX4
  | 5, _ => exact nmX5
  | 6, _ => exact nmX6
  | 7, _ => exact nmX7
  | 8, _ => exact nmX8
theorem clW_ok : ((List.range 9).all fun ci => (u_ws (clR ci) (clT ci) (clN ci)).all fun w => decide (w ∈ lw_tbl) && goodWord w) = true := by decide +kernel
theorem clW {ci : Nat} (h : ci < 9) : ∀ w ∈ u_ws (clR ci) (clT ci) (clN ci), w ∈ lw_ok := by
  intro w hw
  have h1 := List.all_eq_true.mp (List.all_eq_true.mp clW_ok ci (List.mem_range.mpr h)) w hw
  rw [Bool.and_eq_true] at h1
  exact ok_in (of_decide_eq_true h1.1) h1.2
theorem flR_ok : (flL.all fun q => decide (q.1.2.2.1 < 9 ∧ q.1.2.2.2 < clN q.1.2.2.1)) = true := by decide +kernel
theorem fkY_ok : ∀ o, o < 86 → oc o < 9 → ∀ k, k < clN (oc o) → (fk o k = 0 → clY (oc o) k = .int) ∧ (fk o k = 1 → clY (oc o) k = .boolean) := by decide +kernel
theorem flL_in {q : (Nat × Nat × Nat × Nat) × Nat} (h : q ∈ flL) : Cond.fieldLink (clR q.1.1) q.1.2.1 (clT q.1.2.2.1 q.1.2.2.2).1 (clT q.1.2.2.1 q.1.2.2.2).2.1 (clT q.1.2.2.1 q.1.2.2.2).2.2.1 ∈ lw_ok := by
  have := List.all_eq_true.mp flL_ok q h
  exact at_in (of_decide_eq_true this) rfl
section GT
variable {p : Program} {l : Launch} {e : Env} {R : Room} {s : State} {m : MethodId} {args : Array Value} {below : List Frame} {meth : Method} {c : Code} {cells slots : Nat} {QQ : State → Prop} {H0 : Heap} {A : Nat → Prop} {D : va_G} {ad : Nat → Nat} {cI cZ cJ : ClassId} {S : Me} {y d pc : Nat} {lo : Lo} {st : St} {M : Me}
theorem fvs_get {o k : Nat} (h : k < clN (oc o)) : (fvs ad M o)[k]? = some (fvl ad M o k) := by
  simp [fvs, List.getElem?_map, List.getElem?_range h]
theorem fvl_I {o k : Nat} (h : fk o k = 0 ∨ fk o k = 1) : fvl ad M o k = .int (Int32.ofInt (M o k)) := by
  unfold fvl
  rcases h with h | h <;> rw [h]
theorem fvl_R {o k r : Nat} (h : fk o k = r + 2) : fvl ad M o k = .ref (ad r) := by
  unfold fvl
  rw [h]
theorem G_get {ix o k : Nat} {v : AV} (X : Cx p R s m args c cells slots D cI cZ cJ y d) (hd : decode (cod y) pc = .ok (.getfield ix, 3)) (hf : flq y ix (22, k, (oc o : Int)) = true ∨ (ow y = 7 ∧ ix = 211 ∧ (k = 0 ∧ (oc o : Int) = 2))) (hv : cvv ad v = fvl ad M o k) (ok : okM S M → okV v) (kk : GG p l e R s m args below meth c cells slots QQ H0 A D ad cI cZ cJ S (pc + 3) lo (v :: st) M) : GG p l e R s m args below meth c cells slots QQ H0 A D ad cI cZ cJ S pc lo (.inr (.inr o) :: st) M := by
  intro ls H locs hl hs ho hw
  rcases hf with hf | ⟨h1, rfl, rfl, h3⟩
  · obtain ⟨q, hq, e1⟩ := List.any_eq_true.mp hf
    obtain ⟨e2, e3, e4, e5⟩ := of_decide_eq_true e1
    have e6 : q.1.2.2.1 = oc o := by
      have : (q.1.2.2.1 : Int) = (oc o : Int) := e4
      omega
    have e7 : q.1.2.2.2 = k := e5
    have hr := of_decide_eq_true (List.all_eq_true.mp flR_ok q hq)
    have hi := flL_in hq
    rw [e2, e3, e6, e7] at hi
    rw [e6, e7] at hr
    have ho8 := oc_lt (k := o) rfl (by omega)
    have hk0 := oc_kd o ho8 hr.1
    have hg := wsM_get (ad := ad) (cI := cI) (cZ := cZ) (cJ := cJ) (M := M) ho8
    rw [en_0k hk0] at hg
    refine va_get (D := D) (cl := cls9) (C := clR (oc o)) (T := clT (oc o)) (N := clN (oc o)) (v := cvv ad v) X.1 X.2.1 X.2.2.2.2.1 (clW hr.1) X.2.2.2.1 X.2.2.2.2.2.1 hw.1 o hg (clC _ hr.1) k hr.2 (X.2.2.2.2.1 _ hi) (fun _ h9 => h9) ?_ hd (kk ls H locs hl (hs.tail.push (ok hw.2.2.2)) ho hw)
    rw [fvs_get hr.2, hv]
  · have e6 : oc o = 2 := by omega
    have ho8 := oc_lt (k := o) rfl (by omega)
    have hk0 := oc_kd o ho8 (by omega)
    have hg := wsM_get (ad := ad) (cI := cI) (cZ := cZ) (cJ := cJ) (M := M) ho8
    rw [en_0k hk0, e6] at hg
    refine va_getN (D := D) (cl := cls9) (own := clR (ow y)) (ref := "FloodCells$Flight") (C := clR 2) (T := clT 2) (N := clN 2) (host := "FloodCells") (index := 211) (v := cvv ad v) X.1 X.2.1 X.2.2.2.2.1 (clW (by omega)) X.2.2.2.1 X.2.2.2.2.2.1 hw.1 o hg (clC _ (by omega)) 0 (by decide) ?_ (fun _ h9 => h9) ?_ hd (kk ls H locs hl (hs.tail.push (ok hw.2.2.2)) ho hw)
    · rw [h1]
      exact va_Nw.use rfl X.2.2.2.2.2.2.2.1
    · rw [fvs_get (by rw [e6]; decide), hv]
theorem fvs_set {o k : Nat} {v : Int} (hk : k < clN (oc o)) (hf : fk o k = 0 ∨ fk o k = 1) : (fvs ad M o).set k (.int (Int32.ofInt v)) = fvs ad (me_put M o k v) o := by
  apply List.ext_getElem?
  intro j
  rw [List.getElem?_set]
  by_cases hj : k = j
  · subst hj
    rw [if_pos rfl, fvs_get hk, fvl_I hf, me_self]
    simp [fvs, hk]
  · rw [if_neg hj]
    by_cases h2 : j < clN (oc o)
    · rw [fvs_get h2, fvs_get h2]
      have : me_put M o k v o (j : Int) = M o (j : Int) := by
        rw [me_eq, if_neg (by omega)]
      unfold fvl
      rw [this]
    · rw [List.getElem?_eq_none (by simp [fvs]; omega), List.getElem?_eq_none (by simp [fvs]; omega)]
theorem G_put {ix o k : Nat} {v : Int} (X : Cx p R s m args c cells slots D cI cZ cJ y d) (hd : decode (cod y) pc = .ok (.putfield ix, 3)) (hf : flw y ix (23, k, (oc o : Int)) = true) (hv : fk o k = 0 ∨ (fk o k = 1 ∧ (v = 0 ∨ v = 1))) (kk : GG p l e R s m args below meth c cells slots QQ H0 A D ad cI cZ cJ S (pc + 3) lo st (me_put M o k v)) : GG p l e R s m args below meth c cells slots QQ H0 A D ad cI cZ cJ S pc lo (.inl v :: .inr (.inr o) :: st) M := by
  intro ls H locs hl hs ho hw
  obtain ⟨q, hq, e1⟩ := List.any_eq_true.mp hf
  obtain ⟨e2, e3, e4, e5, e8, e9, e10⟩ := of_decide_eq_true e1
  have e6 : q.1.2.2.1 = oc o := by
    have : (q.1.2.2.1 : Int) = (oc o : Int) := e4
    omega
  have e7 : q.1.2.2.2 = k := e5
  have hi := flL_in hq
  rw [e2, e3, e6, e7] at hi
  rw [e6] at e9
  rw [e6, e7] at e8 e10
  have ho8 := oc_lt (k := o) rfl (by omega)
  have hk0 := oc_kd o ho8 e9
  have hg := wsM_get (ad := ad) (cI := cI) (cZ := cZ) (cJ := cJ) (M := M) ho8
  rw [en_0k hk0] at hg
  have hy := fkY_ok o ho8 e9 k e8
  have hvr : -2147483648 ≤ v ∧ v < 2147483648 := hs.head
  have hn : narrow (clY (oc o) k) (.int (Int32.ofInt v)) = .int (Int32.ofInt v) := by
    rcases hv with h | ⟨h, h2⟩
    · rw [hy.1 h]; rfl
    · rw [hy.2 h]; exact i_zn h2
  have hfit : fits (clY (oc o) k) (.int (Int32.ofInt v)) = true := by
    rcases hv with h | ⟨h, h2⟩
    · rw [hy.1 h]; rfl
    · rw [hy.2 h]
      rcases h2 with rfl | rfl <;> rfl
  refine va_put (D := D) (cl := cls9) (C := clR (oc o)) (T := clT (oc o)) (N := clN (oc o)) (ty := clY (oc o) k) (v := .int (Int32.ofInt v)) X.1 X.2.1 X.2.2.2.2.1 (clW e9) (clY (oc o)) (clY_ok _ e9) (clM_ok _ e9) X.2.2.2.1 X.2.2.2.2.2.1 hw.1 hw.2.1 hw.2.2.1 o hg (clC _ e9) k e8 (X.2.2.2.2.1 _ hi) (fun _ h9 => h9) e10 (clY_ok _ e9 k e8) hn hfit (by simp [fvs]; exact e8) hd (fun H1 locs1 hP _ hS => ?_)
  refine kk ls H1 locs1 hl hs.tail.tail ho (hw.put ho8 ?_ (by unfold rg; rw [if_neg (by omega)]; exact hvr) hP hS)
  rw [en_0k hk0, fvs_set e8 (by rcases hv with h | h; exact Or.inl h; exact Or.inr h.1)]
theorem maL_ok : (lw_tbl[541]? = some (Cond.methodLink (clR 3) 110 Lib.Math.max.name)) ∧ (lw_tbl[674]? = some (Cond.methodLink (clR 2) 153 Lib.Math.min.name)) ∧ (lw_tbl[545]? = some (Cond.methodLink (clR 3) 121 Lib.MathLoose.min_long.x)) ∧ (lw_tbl[582]? = some (Cond.methodLink (clR 3) 31 arraycopyName)) ∧ (lw_tbl[585]? = some (Cond.methodLink (clR 4) 35 arraycopyName)) ∧ (lw_tbl[636]? = some (Cond.methodLink (clR 2) 79 arraycopyName)) := by decide +kernel
end GT

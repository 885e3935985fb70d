/-! THE CLAIM OUT OF ONE WALK OF THE LAW'S BODY. Your part is whole_start (and what it stands on); all else here is the same for every law, but numbers. -/
def R_law : String := "FloodCellsLaw"
def lw_P (b : Addr) (xs : List Int32) (args : Array Value) (s : State) : Prop := args = #[.ref b] ∧ s.IntsAt b xs ∧ xs.length ≤ 3072 ∧ (Jvm.Cond.and given_1 narrow_1).before args s = true
def lw_Q (_ : Array Value) (s : State) (o : Outcome) (t : State) : Prop := o = .returned (some (.int 1)) ∧ Framed s o t [] 86 19930
def lw_Z (below : List Frame) (a : Array Value) (s : State) : State → Prop := fun t => ∃ o, t.status = .running ∧ Ended t below o ∧ lw_Q a s o t
/-- the law's own end, with 1 on the stack, nothing written that was there before, its room as the claim has it -/
theorem lw_ret {p : Program} {l : Launch} {e : Env} {s : State} {m : MethodId} {below : List Frame} {meth : Method} {c : Code} {b : Nat} (hx : p.tables.exec = Jvm.exec) (hb : c.code = code) (hr : meth.sig.returnType = ret) (hlocks : meth.locks = false) {pc : Nat} {H : Heap} {ls : Array Slot} (hdg : decode code pc = .ok (.ireturn, 1)) : W p l e room_1 s m #[Value.ref b] below meth c H [] 86 19930 (lw_Z below #[Value.ref b] s) (F0 m pc ls [.int 1]) := by
  intro T hT X
  obtain ⟨fs, hret, hrun, hended, hW, hframe⟩ := X.leave (v := some (.int 1)) (hlocks := hlocks) (fun h => by rw [hr] at h; cases h)
  have hmeth' : T.vm.method? m = some meth := X.method'
  refine ⟨T.setFrames fs, ?_, .returned (some (.int 1)), hrun, hended, rfl, ⟨_, rfl⟩, hW, hframe⟩
  jvm_step X.here [X.here.top, hx, hb, hdg, hmeth', hr, ret, narrow_b1]
  (try refine ⟨rfl, ?_⟩); (try refine ⟨rfl, ?_⟩)
  first | (intro acts; rw [hret _ acts rfl rfl rfl]) | rw [hret _ _ rfl rfl rfl]
  exact Steps.refl _
/-- what holds at the law's entry: the machine, the code, the tables' words (any of lw_tbl by 'hts w (by decide +kernel)'), the script of L ints xs at the cell b, what the Statement gives of the start (any of its parts by flat_of_before) -/
def lw_At (p : Program) (s : State) (m : MethodId) (meth : Method) (c : Code) (b L : Nat) (xs : Nat → Int32) : Prop :=
  p.tables.exec = Jvm.exec ∧ c.code = code ∧ meth.sig.returnType = ret ∧ c.maxLocals = 4 ∧ s.vm.findClass R_law = some m.cls ∧ (∀ w ∈ lw_tbl, w.before #[Value.ref b] s = true) ∧ va_X b L xs s s.heap ∧ b < s.heap.size ∧ meth.locks = false ∧ (Jvm.Cond.and given_1 narrow_1).before #[Value.ref b] s = true
theorem dl_0 : decode code 0 = .ok (.new 7, 3) := by decide +kernel
theorem dl_3 : decode code 3 = .ok (.dup, 1) := by decide +kernel
theorem dl_4 : decode code 4 = .ok (.invokespecial 9, 3) := by decide +kernel
theorem dl_7 : decode code 7 = .ok (.astore_n 1, 1) := by decide +kernel
theorem dl_8 : decode code 8 = .ok (.new 10, 3) := by decide +kernel
theorem dl_11 : decode code 11 = .ok (.dup, 1) := by decide +kernel
theorem dl_12 : decode code 12 = .ok (.invokespecial 12, 3) := by decide +kernel
theorem dl_15 : decode code 15 = .ok (.astore_n 2, 1) := by decide +kernel
theorem df7 : ∀ j, j < clN 7 → defaultValue (clY 7 j) = vp_V [.null, .null, .null, .null, .null, .null, .null, .int 0] j := by decide +kernel
theorem df8 : ∀ j, j < clN 8 → defaultValue (clY 8 j) = vp_V [.int 0, .int 0, .null, .null, .null, .null, .null, .null, .null, .int 0, .null, .null, .null, .null, .null, .null, .null, .null, .int 0, .int 0, .null, .null, .null, .int 0, .null, .null, .null, .null, .null, .null, .null, .null, .null, .null, .null, .null, .null, .null, .null, .null, .null, .int 0, .int 0, .int 0] j := by decide +kernel
theorem li_a : lw_tbl[62]? = some (Cond.classLink "FloodCellsLaw" 7 (clR 7)) := by decide +kernel
theorem li_b : lw_tbl[745]? = some (Cond.classLink "FloodCellsLaw" 10 (clR 8)) := by decide +kernel
theorem li_c : lw_tbl[63]? = some (Cond.instantiable (clR 7) (clN 7)) ∧ lw_tbl[746]? = some (Cond.instantiable (clR 8) (clN 8)) := by decide +kernel
theorem li_d : lw_tbl[65]? = some (Cond.instanceMethod yX7_init) ∧ lw_tbl[748]? = some (Cond.instanceMethod yX8_init) := by decide +kernel
theorem li_e : lw_tbl[50]? = some (Cond.initialized (clR 7)) ∧ lw_tbl[58]? = some (Cond.initialized (clR 8)) := by decide +kernel
theorem nsC_in : ∀ q ∈ nsC, Cond.methodLinkNest q.1 q.2.1 q.2.2 "FloodCells" ∈ lw_tbl := by
  intro q hq
  simp only [nsC, List.mem_cons, List.not_mem_nil, or_false] at hq
  rcases hq with rfl | rfl | rfl | rfl | rfl | rfl | rfl | rfl
  · exact List.mem_of_getElem? (i := 72) (by decide +kernel)
  · exact List.mem_of_getElem? (i := 131) (by decide +kernel)
  · exact List.mem_of_getElem? (i := 177) (by decide +kernel)
  · exact List.mem_of_getElem? (i := 221) (by decide +kernel)
  · exact List.mem_of_getElem? (i := 240) (by decide +kernel)
  · exact List.mem_of_getElem? (i := 273) (by decide +kernel)
  · exact List.mem_of_getElem? (i := 278) (by decide +kernel)
  · exact List.mem_of_getElem? (i := 291) (by decide +kernel)
set_option maxHeartbeats 8000000 in
/-- the law's start, given that the small machine runs the law's loop to the answer 1 -/
theorem whole_open (hmain : ∀ (L : Nat) (xs : Nat → Int32), L ≤ 3072 → Rn 9 (blk 0 0) 0 [some (vR 99), some (vR 0), some (vR 50), none] [] (me0 L xs) (fun v _ => v = 1)) {p : Program} {e : Env} {s : State} {m : MethodId} {below : List Frame} {meth : Method} {c : Code} (l : Launch) {b L : Nat} {xs : Nat → Int32} (hL : L ≤ 3072) (C0 : lw_At p s m meth c b L xs) : W p l e room_1 s m #[Value.ref b] below meth c s.heap [] 0 0 (lw_Z below #[Value.ref b] s) (entryFrame m ([Value.ref b] : List Value).toArray 4) := by
  obtain ⟨hx, hb, hr, hml, hown, hts, hX, hbl, hlocks, hgv⟩ := id C0
  have htk : ∀ w ∈ lw_ok, w.before #[Value.ref b] s = true := fun w hw => hts w (List.mem_filter.mp hw).1
  have hA : ∀ q : Nat, s.heap.size ≤ q → (fun q : Nat => s.heap.size ≤ q) q := fun _ h => h
  have hbA : ¬ (fun q : Nat => s.heap.size ≤ q) b := Nat.not_le.mpr hbl
  obtain ⟨cI, kI, pI, fI, gI, hI⟩ := Cond.arrayClass_spec (htk _ (at_in arI rfl))
  obtain ⟨cZ, kZ, pZ, fZ, gZ, hZ⟩ := Cond.arrayClass_spec (htk _ (at_in arZ rfl))
  obtain ⟨cJ, kJ, pJ, fJ, gJ, hJ⟩ := Cond.arrayClass_spec (htk _ (at_in arJ rfl))
  obtain ⟨c0, iS0, hKn0⟩ := u_known (C := clR 0) (T := clT 0) (N := clN 0) (n := clN 0) htk (clW (by decide)) (htk _ (at_in (i := 71) (w := Cond.instantiable (clR 0) (clN 0)) (by decide +kernel) rfl))
  obtain ⟨c1, iS1, hKn1⟩ := u_known (C := clR 1) (T := clT 1) (N := clN 1) (n := clN 1) htk (clW (by decide)) (htk _ (at_in (i := 130) (w := Cond.instantiable (clR 1) (clN 1)) (by decide +kernel) rfl))
  obtain ⟨c2, iS2, hKn2⟩ := u_known (C := clR 2) (T := clT 2) (N := clN 2) (n := clN 2) htk (clW (by decide)) (htk _ (at_in (i := 290) (w := Cond.instantiable (clR 2) (clN 2)) (by decide +kernel) rfl))
  obtain ⟨c3, iS3, hKn3⟩ := u_known (C := clR 3) (T := clT 3) (N := clN 3) (n := clN 3) htk (clW (by decide)) (htk _ (at_in (i := 239) (w := Cond.instantiable (clR 3) (clN 3)) (by decide +kernel) rfl))
  obtain ⟨c4, iS4, hKn4⟩ := u_known (C := clR 4) (T := clT 4) (N := clN 4) (n := clN 4) htk (clW (by decide)) (htk _ (at_in (i := 272) (w := Cond.instantiable (clR 4) (clN 4)) (by decide +kernel) rfl))
  obtain ⟨c5, iS5, hKn5⟩ := u_known (C := clR 5) (T := clT 5) (N := clN 5) (n := clN 5) htk (clW (by decide)) (htk _ (at_in (i := 220) (w := Cond.instantiable (clR 5) (clN 5)) (by decide +kernel) rfl))
  obtain ⟨c6, iS6, hKn6⟩ := u_known (C := clR 6) (T := clT 6) (N := clN 6) (n := clN 6) htk (clW (by decide)) (htk _ (at_in (i := 176) (w := Cond.instantiable (clR 6) (clN 6)) (by decide +kernel) rfl))
  obtain ⟨c7, iS7, hKn7⟩ := u_known (C := clR 7) (T := clT 7) (N := clN 7) (n := clN 7) htk (clW (by decide)) (htk _ (at_in (i := 63) (w := Cond.instantiable (clR 7) (clN 7)) (by decide +kernel) rfl))
  obtain ⟨c8, iS8, hKn8⟩ := u_known (C := clR 8) (T := clT 8) (N := clN 8) (n := clN 8) htk (clW (by decide)) (htk _ (at_in (i := 746) (w := Cond.instantiable (clR 8) (clN 8)) (by decide +kernel) rfl))
  obtain ⟨D, hKc⟩ : ∃ D : va_G, ∀ (k : Nat) (q : vw_C), cls9[k]? = some q → u_Kn s q.1 q.2.1 q.2.2 (D.1 k) (D.2 k) := by
    refine ⟨(fun k => nt 0 [c0, c1, c2, c3, c4, c5, c6, c7, c8] k, fun k => nt (fun _ => 0) [iS0, iS1, iS2, iS3, iS4, iS5, iS6, iS7, iS8] k), ?_⟩
    intro k q hq
    match k, hq with
    | 0, hq => cases hq; exact hKn0
    | 1, hq => cases hq; exact hKn1
    | 2, hq => cases hq; exact hKn2
    | 3, hq => cases hq; exact hKn3
    | 4, hq => cases hq; exact hKn4
    | 5, hq => cases hq; exact hKn5
    | 6, hq => cases hq; exact hKn6
    | 7, hq => cases hq; exact hKn7
    | 8, hq => cases hq; exact hKn8
    | k + 9, hq => simp [cls9] at hq
  have hK : va_K D cls9 (tys3 cI cZ cJ) s := by
    refine ⟨hKc, ?_⟩
    intro k q hq
    match k, hq with
    | 0, hq => cases hq; exact ⟨fun n z => ⟨fun k h => (by cases h), kI, gI, pI, hI⟩, fI⟩
    | 1, hq => cases hq; exact ⟨fun n z => ⟨fun k h => (by cases h), kZ, gZ, pZ, hZ⟩, fZ⟩
    | 2, hq => cases hq; exact ⟨fun n z => ⟨fun k h => (by cases h), kJ, gJ, pJ, hJ⟩, fJ⟩
    | k + 3, hq => simp [tys3] at hq
  have hS : va_S (fun q : Nat => s.heap.size ≤ q) s.heap s.heap [] := va_S.rf
  have hP : va_P D cls9 [] s.heap := fun k q h => by simp at h
  have hD : va_D (fun q : Nat => s.heap.size ≤ q) [] := ⟨fun i j p q h => by simp at h, fun k q h => by simp at h⟩
  have nsx : ∀ q ∈ nsC, va_Nw (.methodLinkNest q.1 q.2.1 q.2.2 "FloodCells") s := fun q hq => va_Nw.of rfl (hts _ (nsC_in q hq))
  have hG : ∀ {y : MethodName} {bt : ByteArray}, Cond.code y bt 1 none ∈ lw_ok → GoodIn lw_ok (Cond.code y bt 1 none :: lw_ok) := fun hc => good_in (fun w hw => by
    rcases List.mem_cons.mp hw with rfl | h2
    · exact hc
    · exact h2)
  have one : ∀ {wr : va_W} {x : Nat × va_E} {H : Heap} {locs : List Loc}, va_P D cls9 (wr ++ [x]) H → va_D (fun q : Nat => s.heap.size ≤ q) (wr ++ [x]) → va_S (fun q : Nat => s.heap.size ≤ q) s.heap H locs → (va_P D cls9 [x] H ∧ va_D (fun _ => True) [x] ∧ ∀ q, va_A [x] H.size q → s.heap.size ≤ q) := by
    intro wr x H locs hP hD hS
    have hx1 : (wr ++ [x])[wr.length]? = some x := by simp
    refine ⟨fun j y hj => ?_, ⟨fun i j p1 p2 h1 h2 _ => ?_, fun _ _ _ => trivial⟩, ?_⟩
    · have h5 := (List.getElem?_eq_some_iff.mp hj).1
      simp at h5
      subst h5
      simp at hj
      subst hj
      exact hP _ _ hx1
    · have e1 := (List.getElem?_eq_some_iff.mp h1).1
      have e2 := (List.getElem?_eq_some_iff.mp h2).1
      simp at e1 e2
      omega
    · rintro q (⟨j, e', hj⟩ | hq)
      · have h5 := (List.getElem?_eq_some_iff.mp hj).1
        simp at h5
        subst h5
        simp at hj
        have := hD.2 _ _ hx1
        rw [hj] at this
        exact this
      · exact Nat.le_trans hS.1 hq
  have hl := lv_entry ([.ref b]) (n := 4) (Nat.le_of_ble_eq_true rfl)
  rw [lg_entry_eq]
  generalize (lg_sl ([.ref b]) ++ List.replicate (4 - (lg_sl ([.ref b])).length) Slot.unset).toArray = ls at hl ⊢
  have hl : lv_has ls 4 [(0, .ref b)] := hl
  refine va_new (ci := 7) (fs := [.null, .null, .null, .null, .null, .null, .null, .int 0]) (own := R_law) (C := clR 7) (T := clT 7) (N := clN 7) hx hb htk (clW (by decide)) (clY 7) (clY_ok 7 (by decide)) hown (htk _ (at_in li_a rfl)) (htk _ (at_in li_c.1 rfl)) (htk _ (at_in li_e.1 rfl)) hK hP hD hS hA (clC 7 (by decide)) df7 (by show _ ≤ (86 : Nat); omega) (by show _ ≤ (19930 : Nat); have : clN 7 = 8 := rfl; omega) dl_0 (fun q0 H hP hD hS => ?_)
  refine lv_dup hx hb dl_3 rfl ?_
  obtain ⟨hPc, hDc, hFc⟩ := one hP hD hS
  refine va_callv (va_runI (As := []) (rest := [.ref q0]) (b := q0) ⟨hx, hb, hml, hown, htk⟩ (mi7 l D cI cZ cJ q0 H.size) (cwI 0 htk (hG (at_in cow_iX7 rfl)) rfl rfl rfl (htk _ (at_in li_e.1 rfl)) (htk _ (at_in lnk7.1 rfl)) (htk _ (at_in li_d.1 rfl)) rfl (by decide +kernel) ⟨Nat.le_of_ble_eq_true rfl, Nat.le_of_ble_eq_true rfl⟩) ⟨Pci_bl, fun U hU hW => ⟨rfl, by rw [hU], by rw [hU]; exact hPc, va_K.moved hW.alike hK, hDc, fun x hx1 => va_Nw.warmM hW (nsx x hx1)⟩⟩ rfl rfl hl.1 rfl (lv_room (Nat.le_of_ble_eq_true rfl)) dl_4 ⟨by show _ ≤ (86 : Nat); omega, by show _ ≤ (19930 : Nat); have : clN 7 = 8 := rfl; have : clN 8 = 44 := rfl; omega⟩) hS (fun q _ h => hFc q h) hFc (fun u0 t H1 locs0 ht hvm hw hB hz1 hk1 hS => ?_)
  obtain ⟨hP1, hD1⟩ := hB
  rw [ht] at hP1
  obtain ⟨hP, hD⟩ := join1 hP hD hk1 hFc hP1 hD1
  refine lv_astore_n (lv' := [(1, .ref q0), (0, .ref b)]) hx hb dl_7 rfl hl (by decide) rfl (fun ls hl => ?_)
  refine va_new (ci := 8) (fs := [.int 0, .int 0, .null, .null, .null, .null, .null, .null, .null, .int 0, .null, .null, .null, .null, .null, .null, .null, .null, .int 0, .int 0, .null, .null, .null, .int 0, .null, .null, .null, .null, .null, .null, .null, .null, .null, .null, .null, .null, .null, .null, .null, .null, .null, .int 0, .int 0, .int 0]) (own := R_law) (C := clR 8) (T := clT 8) (N := clN 8) hx hb htk (clW (by decide)) (clY 8) (clY_ok 8 (by decide)) hown (htk _ (at_in li_b rfl)) (htk _ (at_in li_c.2 rfl)) (htk _ (at_in li_e.2 rfl)) hK hP hD hS hA (clC 8 (by decide)) df8 (by show _ ≤ (86 : Nat); omega) (by show _ ≤ (19930 : Nat); have : clN 8 = 44 := rfl; have : clN 7 = 8 := rfl; omega) dl_8 (fun q1 H hP hD hS => ?_)
  refine lv_dup hx hb dl_11 rfl ?_
  obtain ⟨hPc, hDc, hFc⟩ := one hP hD hS
  refine va_callv (va_runI (As := []) (rest := [.ref q1]) (b := q1) ⟨hx, hb, hml, hown, htk⟩ (mi8 l D cI cZ cJ q1 H.size) (cwI 0 htk (hG (at_in cow_iX8 rfl)) rfl rfl rfl (htk _ (at_in li_e.2 rfl)) (htk _ (at_in lnk7.2 rfl)) (htk _ (at_in li_d.2 rfl)) rfl (by decide +kernel) ⟨Nat.le_of_ble_eq_true rfl, Nat.le_of_ble_eq_true rfl⟩) ⟨Pci_bl, fun U hU hW => ⟨rfl, by rw [hU], by rw [hU]; exact hPc, va_K.moved hW.alike hK, hDc, fun x hx1 => va_Nw.warmM hW (nsx x hx1)⟩⟩ rfl rfl hl.1 rfl (lv_room (Nat.le_of_ble_eq_true rfl)) dl_12 ⟨by show _ ≤ (86 : Nat); omega, by show _ ≤ (19930 : Nat); have : clN 7 = 8 := rfl; have : clN 8 = 44 := rfl; omega⟩) hS (fun q _ h => hFc q h) hFc (fun u1 t H1 locs1 ht hvm hw hB hz1 hk1 hS => ?_)
  obtain ⟨hP1, hD1⟩ := hB
  rw [ht] at hP1
  obtain ⟨hP, hD⟩ := join1 hP hD hk1 hFc hP1 hD1
  refine lv_astore_n (lv' := [(2, .ref q1), (1, .ref q0), (0, .ref b)]) hx hb dl_15 rfl hl (by decide) rfl (fun ls hl => ?_)
  refine W.widen (k := 86) (n := 19930) (by omega) (by have : clN 7 = 8 := rfl; have : clN 8 = 44 := rfl; omega) ?_
  have X : Cx p room_1 s m #[Value.ref b] c 86 19930 D cI cZ cJ 0 9 := ⟨hx, hb, hml, hown, htk, hK, ⟨Nat.le_of_ble_eq_true rfl, Nat.le_of_ble_eq_true rfl, Nat.le_refl _, Nat.le_refl _⟩, va_Nw.of rfl (hts _ (List.mem_of_getElem? nsF_at)), va_Nw.of rfl (hts _ (List.mem_of_getElem? nsM_at))⟩
  obtain ⟨n, hn⟩ := hmain L xs hL
  have hsc : Sc s s.heap (fun q : Nat => s.heap.size ≤ q) (ad0 b q0 u0 q1 u1) (me0 L xs) 0 := fun _ => ⟨L, xs, hX, hbl, hbA, hL, rfl, fun j _ => rfl⟩
  have hkr : Kr p l e room_1 s m #[Value.ref b] below meth c 86 19930 (lw_Z below #[Value.ref b] s) s.heap (fun q : Nat => s.heap.size ≤ q) D (ad0 b q0 u0 q1 u1) cI cZ cJ (me0 L xs) 0 (fun v _ => v = 1) := by
    intro v M pc ls H locs hq hv hw
    refine ⟨fun h1 => (by cases h1), fun ty h1 hnar hd => ?_⟩
    subst hq
    exact va_forget (fun q hq => hw.2.2.1.2.2 q hq) (lw_ret hx hb hr hlocks hd)
  have hg := sound l (me0 L xs) n 9 (blk 0 0) 0 [some (vR 99), some (vR 0), some (vR 50), none] [] (me0 L xs) (fun v _ => v = 1) hn p e room_1 s m #[Value.ref b] below meth c 86 19930 (lw_Z below #[Value.ref b] s) s.heap (fun q : Nat => s.heap.size ≤ q) D (ad0 b q0 u0 q1 u1) cI cZ cJ 16 X okb0_0 hsc (by decide) hA rfl hkr
  refine hg ls _ _ ⟨hl.1, hl.2.1, fun q hq => hl.2.2 q ?_⟩ okS_nil ?_ ⟨w0_P hP, w0_D hD, hS, ?_, fun j => ⟨rfl, rfl⟩⟩
  · obtain ⟨i, w⟩ := q
    obtain ⟨v, hv, rfl⟩ := mem_prs.mp hq
    match i, hv with
    | 0, hv => have h9 : some (vR 99) = some v := hv; cases h9; simp [cvv, ad0]
    | 1, hv => have h9 : some (vR 0) = some v := hv; cases h9; simp [cvv, ad0, nt]
    | 2, hv => have h9 : some (vR 50) = some v := hv; cases h9; simp [cvv, ad0, nt]
    | 3, hv => have h9 : none = some v := hv; cases h9
    | i + 4, hv => have h9 : none = some v := hv; cases h9
  · intro i v hv
    match i, hv with
    | 0, hv => have h9 : some (vR 99) = some v := hv; cases h9; trivial
    | 1, hv => have h9 : some (vR 0) = some v := hv; cases h9; trivial
    | 2, hv => have h9 : some (vR 50) = some v := hv; cases h9; trivial
    | 3, hv => have h9 : none = some v := hv; cases h9
    | i + 4, hv => have h9 : none = some v := hv; cases h9
  · intro k j
    have hv : -2147483648 ≤ me0 L xs k j ∧ me0 L xs k j < 2147483648 := by
      unfold me0
      split
      · split <;> omega
      · split
        · omega
        · split
          · exact i_rng _
          · omega
    unfold rg
    split
    · constructor <;> omega
    · exact hv

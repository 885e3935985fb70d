theorem n_ok {n : Int} {N : Nat} (h0 : 0 ≤ n) (h1 : n < 2147483648) (hN : n.toNat = N) : ¬ Int32.ofInt n < 0 ∧ (Int32.ofInt n).toNatClampNeg = N := by
  refine ⟨fun q => ?_, by rw [i_cl h0 h1, hN]⟩
  rw [show (0 : Int32) = Int32.ofInt 0 from rfl, i_lt ⟨by omega, h1⟩ ⟨by omega, by omega⟩] at q
  omega
theorem a0I {N : Nat} (cB : ClassId) : vp_cell cB (N, .inl fun _ => Int32.ofInt 0) = arrV cB N (fun _ => defaultValue .int) := by
  rw [show (Int32.ofInt 0) = (0 : Int32) from by decide]; rfl
theorem a0Z {N : Nat} (cB : ClassId) : vp_cell cB (N, .inl fun _ => Int32.ofInt 0) = arrV cB N (fun _ => defaultValue .boolean) := by
  rw [show (Int32.ofInt 0) = (0 : Int32) from by decide]; rfl
theorem a0J {N : Nat} (cB : ClassId) : vp_cell cB (N, .inr (.inl fun _ => Int64.ofInt 0)) = arrV cB N (fun _ => defaultValue .long) := by
  rw [show (Int64.ofInt 0) = (0 : Int64) from by decide]; rfl
theorem cbI_2 : 2 * componentBytes .int ≤ 536870912 := by decide +kernel
theorem cbZ_2 : 2 * componentBytes .boolean ≤ 536870912 := by decide +kernel
theorem cbJ_2 : 2 * componentBytes .long ≤ 536870912 := by decide +kernel
theorem sz_2 : ¬ Int32.ofInt 2 < 0 ∧ (Int32.ofInt 2).toNatClampNeg = 2 := n_ok (by decide) (by decide) rfl
theorem cbI_10 : 10 * componentBytes .int ≤ 536870912 := by decide +kernel
theorem cbZ_10 : 10 * componentBytes .boolean ≤ 536870912 := by decide +kernel
theorem cbJ_10 : 10 * componentBytes .long ≤ 536870912 := by decide +kernel
theorem sz_10 : ¬ Int32.ofInt 10 < 0 ∧ (Int32.ofInt 10).toNatClampNeg = 10 := n_ok (by decide) (by decide) rfl
theorem cbI_12 : 12 * componentBytes .int ≤ 536870912 := by decide +kernel
theorem cbZ_12 : 12 * componentBytes .boolean ≤ 536870912 := by decide +kernel
theorem cbJ_12 : 12 * componentBytes .long ≤ 536870912 := by decide +kernel
theorem sz_12 : ¬ Int32.ofInt 12 < 0 ∧ (Int32.ofInt 12).toNatClampNeg = 12 := n_ok (by decide) (by decide) rfl
theorem cbI_20 : 20 * componentBytes .int ≤ 536870912 := by decide +kernel
theorem cbZ_20 : 20 * componentBytes .boolean ≤ 536870912 := by decide +kernel
theorem cbJ_20 : 20 * componentBytes .long ≤ 536870912 := by decide +kernel
theorem sz_20 : ¬ Int32.ofInt 20 < 0 ∧ (Int32.ofInt 20).toNatClampNeg = 20 := n_ok (by decide) (by decide) rfl
theorem cbI_24 : 24 * componentBytes .int ≤ 536870912 := by decide +kernel
theorem cbZ_24 : 24 * componentBytes .boolean ≤ 536870912 := by decide +kernel
theorem cbJ_24 : 24 * componentBytes .long ≤ 536870912 := by decide +kernel
theorem sz_24 : ¬ Int32.ofInt 24 < 0 ∧ (Int32.ofInt 24).toNatClampNeg = 24 := n_ok (by decide) (by decide) rfl
theorem cbI_100 : 100 * componentBytes .int ≤ 536870912 := by decide +kernel
theorem cbZ_100 : 100 * componentBytes .boolean ≤ 536870912 := by decide +kernel
theorem cbJ_100 : 100 * componentBytes .long ≤ 536870912 := by decide +kernel
theorem sz_100 : ¬ Int32.ofInt 100 < 0 ∧ (Int32.ofInt 100).toNatClampNeg = 100 := n_ok (by decide) (by decide) rfl
theorem cbI_101 : 101 * componentBytes .int ≤ 536870912 := by decide +kernel
theorem cbZ_101 : 101 * componentBytes .boolean ≤ 536870912 := by decide +kernel
theorem cbJ_101 : 101 * componentBytes .long ≤ 536870912 := by decide +kernel
theorem sz_101 : ¬ Int32.ofInt 101 < 0 ∧ (Int32.ofInt 101).toNatClampNeg = 101 := n_ok (by decide) (by decide) rfl
theorem cbI_120 : 120 * componentBytes .int ≤ 536870912 := by decide +kernel
theorem cbZ_120 : 120 * componentBytes .boolean ≤ 536870912 := by decide +kernel
theorem cbJ_120 : 120 * componentBytes .long ≤ 536870912 := by decide +kernel
theorem sz_120 : ¬ Int32.ofInt 120 < 0 ∧ (Int32.ofInt 120).toNatClampNeg = 120 := n_ok (by decide) (by decide) rfl
theorem cbI_1010 : 1010 * componentBytes .int ≤ 536870912 := by decide +kernel
theorem cbZ_1010 : 1010 * componentBytes .boolean ≤ 536870912 := by decide +kernel
theorem cbJ_1010 : 1010 * componentBytes .long ≤ 536870912 := by decide +kernel
theorem sz_1010 : ¬ Int32.ofInt 1010 < 0 ∧ (Int32.ofInt 1010).toNatClampNeg = 1010 := n_ok (by decide) (by decide) rfl
theorem cbI_1200 : 1200 * componentBytes .int ≤ 536870912 := by decide +kernel
theorem cbZ_1200 : 1200 * componentBytes .boolean ≤ 536870912 := by decide +kernel
theorem cbJ_1200 : 1200 * componentBytes .long ≤ 536870912 := by decide +kernel
theorem sz_1200 : ¬ Int32.ofInt 1200 < 0 ∧ (Int32.ofInt 1200).toNatClampNeg = 1200 := n_ok (by decide) (by decide) rfl
theorem cbI_1212 : 1212 * componentBytes .int ≤ 536870912 := by decide +kernel
theorem cbZ_1212 : 1212 * componentBytes .boolean ≤ 536870912 := by decide +kernel
theorem cbJ_1212 : 1212 * componentBytes .long ≤ 536870912 := by decide +kernel
theorem sz_1212 : ¬ Int32.ofInt 1212 < 0 ∧ (Int32.ofInt 1212).toNatClampNeg = 1212 := n_ok (by decide) (by decide) rfl
theorem bp_bipush_10 : (Int8.ofInt 10).toInt32 = Int32.ofInt 10 := by decide
theorem bp_bipush_12 : (Int8.ofInt 12).toInt32 = Int32.ofInt 12 := by decide
theorem bp_bipush_20 : (Int8.ofInt 20).toInt32 = Int32.ofInt 20 := by decide
theorem bp_bipush_24 : (Int8.ofInt 24).toInt32 = Int32.ofInt 24 := by decide
theorem bp_bipush_100 : (Int8.ofInt 100).toInt32 = Int32.ofInt 100 := by decide
theorem bp_bipush_101 : (Int8.ofInt 101).toInt32 = Int32.ofInt 101 := by decide
theorem bp_bipush_120 : (Int8.ofInt 120).toInt32 = Int32.ofInt 120 := by decide
theorem bp_iconst_m1 : Int32.ofInt (-1) = Int32.ofInt (-1) := by decide
theorem bp_iconst_0 : Int32.ofInt 0 = Int32.ofInt 0 := by decide
theorem bp_iconst_2 : Int32.ofInt 2 = Int32.ofInt 2 := by decide
theorem bp_sipush_1010 : (Int16.ofInt 1010).toInt32 = Int32.ofInt 1010 := by decide
theorem bp_sipush_1200 : (Int16.ofInt 1200).toInt32 = Int32.ofInt 1200 := by decide
theorem bp_sipush_1212 : (Int16.ofInt 1212).toInt32 = Int32.ofInt 1212 := by decide
abbrev va_E_mk (ci : Nat) (fs : List Value) : va_E := .inr (ci, fs)
section CJ
variable {D : va_G} {cI cZ cJ : ClassId} {A : Nat → Prop} {H H1 : Heap}
theorem join1 {wr w1 : va_W} {x : Nat × va_E} (hP : va_P D cls9 (wr ++ [x]) H) (hD : va_D A (wr ++ [x])) (hk : ∀ q : Nat, q < H.size → ¬ va_A [x] H.size q → H1[q]? = H[q]?) (hF : ∀ q, va_A [x] H.size q → A q) (hP1 : va_P D cls9 w1 H1) (hD1 : va_D (va_A [x] H.size) w1) : va_P D cls9 (wr ++ w1) H1 ∧ va_D A (wr ++ w1) := by
  have hl : ∀ (i : Nat) (p : Nat × va_E), wr[i]? = some p → (wr ++ [x])[i]? = some p ∧ i < wr.length := by
    intro i p h
    have h1 := (List.getElem?_eq_some_iff.mp h).1
    exact ⟨by rw [List.getElem?_append_left h1]; exact h, h1⟩
  have hx : (wr ++ [x])[wr.length]? = some x := by simp
  have hn : ∀ (i : Nat) (p : Nat × va_E), wr[i]? = some p → p.1 < H.size ∧ ¬ va_A [x] H.size p.1 := by
    intro i p h
    obtain ⟨h1, h2⟩ := hl i p h
    have h3 := (hP i p h1).lt
    refine ⟨h3, ?_⟩
    rintro (⟨k, e, hk⟩ | h4)
    · have h5 : k = 0 := by
        have := (List.getElem?_eq_some_iff.mp hk).1
        simp at this
        exact this
      subst h5
      simp at hk
      have h6 := hD.1 i wr.length p x h1 hx (by rw [hk])
      omega
    · omega
  refine ⟨va_P.app (fun k q h => ((hP k q (hl k q h).1).kept (hk q.1 (hn k q h).1 (hn k q h).2))) hP1, va_D.app ⟨fun i j p q h1 h2 e => hD.1 i j p q (hl i p h1).1 (hl j q h2).1 e, fun k q h => hD.2 k q (hl k q h).1⟩ ⟨hD1.1, fun k q h => hF _ (hD1.2 k q h)⟩ (fun i j p q h1 h2 e => (hn i p h1).2 (by rw [e]; exact hD1.2 j q h2))⟩
end CJ
def Pci (D : va_G) (cI cZ cJ : ClassId) (h0 sz : Nat) (E : va_E) : Array Value → State → Prop := va_Pc [.ref h0] (fun U => U.heap.size = sz ∧ va_P D cls9 [(h0, E)] U.heap ∧ va_K D cls9 (tys3 cI cZ cJ) U ∧ va_D (fun _ => True) [(h0, E)] ∧ ∀ q ∈ nsC, va_Nw (.methodLinkNest q.1 q.2.1 q.2.2 "FloodCells") U)
def Qci {S : Type} (D : va_G) (h0 sz : Nat) (E : va_E) (wc : Nat → S → va_W) : Array Value → State → Outcome → State → Prop := va_Qv (fun _ : S => True) (fun u t => va_P D cls9 (wc h0 u) t.heap ∧ va_D (va_A [(h0, E)] sz) (wc h0 u)) (va_A [(h0, E)] sz)
theorem Pci_bl {D : va_G} {cI cZ cJ : ClassId} {h0 sz : Nat} {E : va_E} : FrameBlind (Pci D cI cZ cJ h0 sz E) := by
  intro a U g mk h
  obtain ⟨h1, h2, h3, h4, h5, h6⟩ := h
  exact ⟨h1, h2, h3, va_K.moved (u := U) (U := U.calling g mk a) (Vm.Alike.refl U.vm) h4, h5, fun q hq => va_Nw.same (u := U) rfl rfl (h6 q hq)⟩
section CS
variable {p : Program} {l : Launch} {e : Env} {R : Room} {s : State} {m : MethodId} {args : Array Value} {below : List Frame} {meth : Method} {c : Code} {H : Heap} {locs : List Loc} {cells slots : Nat} {Q : State → Prop} {H0 : Heap} {A : Nat → Prop} {D : va_G} {cI cZ cJ : ClassId} {cc : ByteArray} {ci pc : Nat}
theorem ct_sub {S : Type} {cj i1 i2 i3 k d h0 nc ns N fr lc : Nat} {y : MethodName} {bytes : ByteArray} {fs fs0 : List Value} {rest : va_W} {ls : Array Slot} {wc : Nat → S → va_W} (X : Cy p s m args meth c D cI cZ cJ cc ci)
    (hM : ∀ q sz, Met l y (Cond.code y bytes 1 none :: lw_ok) { frames := fr, cells := nc, slots := ns, locals := lc } (Pci D cI cZ cJ q sz (.inr (cj, fs0))) (Qci D q sz (.inr (cj, fs0)) wc) nc ns (va_A [(q, .inr (cj, fs0))] sz))
    (hcj : cj < 9) (hN : clN cj = N) (hfs0 : ∀ j, j < N → defaultValue (clY cj j) = vp_V fs0 j) (hcl : Cond.classLink (clR ci) i1 (clR cj) ∈ lw_ok) (hinst : Cond.instantiable (clR cj) (clN cj) ∈ lw_ok) (hini : Cond.initialized (clR cj) ∈ lw_ok)
    (hcode : Cond.code y bytes 1 none ∈ lw_ok) (him : Cond.instanceMethod y ∈ lw_ok) (hy : y.cls = clR cj ∧ y.name = "<init>" ∧ y.cls ≠ "java/lang/invoke/MethodHandle" ∧ y.cls ≠ "java/lang/invoke/VarHandle" ∧ (parseMethodDescriptor y.desc).map (fun d => d.parameters.length) = some 0) (hns : (clR ci, i2, y) ∈ nsC)
    (hf : ((ci, i3, k), d) ∈ flC) (hk : k < clN ci) (hfin : (clT ci k).2.2.2 = true) (hdecl : (clT ci k).1 = clR ci) (hyk : clY ci k = .object (clR cj)) (hR : fr + 1 ≤ R.frames ∧ 20 + lc ≤ R.locals) (hcells : cells + 1 + nc ≤ R.cells) (hslots : slots + N + ns ≤ R.slots) (hA : ∀ q, H0.size ≤ q → A q) (hls : ls.size = 1)
    (hd1 : decode cc pc = .ok (.new i1, 3)) (hd2 : decode cc (pc + 3) = .ok (.dup, 1)) (hd3 : decode cc (pc + 3 + 1) = .ok (.invokespecial i2, 3)) (hd4 : decode cc (pc + 3 + 1 + 3) = .ok (.putfield i3, 3)) (hl : k < fs.length) (hP : va_P D cls9 ((h0, .inr (ci, fs)) :: rest) H) (hD : va_D A ((h0, .inr (ci, fs)) :: rest)) (hS : va_S A H0 H locs)
    (kk : ∀ (q : Nat) (u : S) (H1 : Heap) (locs1 : List Loc), va_P D cls9 ((h0, .inr (ci, fs.set k (.ref q))) :: (rest ++ wc q u)) H1 → va_D A ((h0, .inr (ci, fs.set k (.ref q))) :: (rest ++ wc q u)) → va_S A H0 H1 locs1 → W p l e R s m args below meth c H1 locs1 (cells + 1 + nc) (slots + N + ns) Q (F0 m (pc + 3 + 1 + 3 + 3) ls [])) : W p l e R s m args below meth c H locs cells slots Q (F0 m pc ls [.ref h0]) := by
  subst hN
  refine va_new (ci := cj) (fs := fs0) (own := clR ci) (C := clR cj) (T := clT cj) (N := clN cj) X.1 X.2.1 X.2.2.2.2.1 (clW hcj) (clY cj) (clY_ok _ hcj) X.2.2.2.1 (X.2.2.2.2.1 _ hcl) (X.2.2.2.2.1 _ hinst) (X.2.2.2.2.1 _ hini) X.2.2.2.2.2.1 hP hD hS hA (clC _ hcj) hfs0 (by omega) (by omega) hd1 (fun q H1 hP1 hD1 hS1 => ?_)
  refine lv_dup X.1 X.2.1 hd2 rfl ?_
  have hFc : ∀ x, va_A [(q, .inr (cj, fs0))] H1.size x → A x := by
    rintro x (⟨j, e', hj⟩ | hx)
    · have h5 : j = 0 := by
        have := (List.getElem?_eq_some_iff.mp hj).1
        simp at this
        exact this
      subst h5
      simp at hj
      rw [← hj.1]
      exact hD1.2 ((h0, va_E_mk ci fs) :: rest).length (q, .inr (cj, fs0)) (by simp)
    · exact hA x (Nat.le_trans hS1.1 hx)
  have hPc : va_P D cls9 [(q, .inr (cj, fs0))] H1 := by
    intro j x hj
    have h5 : j = 0 := by
      have := (List.getElem?_eq_some_iff.mp hj).1
      simp at this
      exact this
    subst h5
    simp at hj
    subst hj
    exact hP1 ((h0, va_E_mk ci fs) :: rest).length _ (by simp)
  have hDc : va_D (fun _ => True) [(q, (.inr (cj, fs0) : va_E))] := by
    refine ⟨fun i j p1 p2 h1 h2 _ => ?_, fun _ _ _ => trivial⟩
    have e1 := (List.getElem?_eq_some_iff.mp h1).1
    have e2 := (List.getElem?_eq_some_iff.mp h2).1
    simp at e1 e2
    omega
  have hG : GoodIn lw_ok (Cond.code y bytes 1 none :: lw_ok) := good_in (fun w hw => by
    rcases List.mem_cons.mp hw with rfl | h2
    · exact hcode
    · exact h2)
  refine va_callv (va_runIN (As := []) (rest := [.ref q, .ref h0]) (b := q) (g := F0 m (pc + 3 + 1) ls [.ref q, .ref q, .ref h0]) ⟨X.1, X.2.1, X.2.2.1, X.2.2.2.1, X.2.2.2.2.1⟩ (hM q H1.size) ⟨va_cnB 0 X.2.2.2.2.1 hG rfl rfl rfl (X.2.2.2.2.2.2.2.2 _ hns) (X.2.2.2.2.1 _ (by rw [hy.1]; exact hini)) ⟨hy.2.2.1, hy.2.2.2.1, hy.2.2.2.2⟩ ⟨hR.1, by show 8 + (1 + 11) + lc ≤ R.locals; omega⟩, hy.2.1, X.2.2.2.2.1 _ him⟩ ⟨Pci_bl, fun U hU hW => ⟨rfl, by rw [hU], by rw [hU]; exact hPc, va_K.moved hW.alike X.2.2.2.2.2.1, hDc, fun x hx => va_Nw.warmM hW (X.2.2.2.2.2.2.2.2 x hx)⟩⟩ rfl rfl hls rfl (by show 2 * 0 + (1 + (1 + 0)) ≤ 8; omega) hd3 ⟨hcells, hslots⟩) hS1 (fun x _ h => hFc x h) hFc (fun u t H2 locs2 ht hvm hw hB hz1 hk1 hS2 => ?_)
  obtain ⟨hP2, hD2⟩ := hB
  rw [ht] at hP2
  obtain ⟨hP3, hD3⟩ := join1 hP1 hD1 hk1 hFc hP2 hD2
  have hc := X.2.2.2.2.2.2.2.1
  exact va_putF (D := D) (cl := cls9) (own := clR ci) (C := clR ci) (T := clT ci) (N := clN ci) (ty := clY ci k) X.1 X.2.1 X.2.2.2.2.1 (clW hc) (clY ci) (clY_ok _ hc) (clM_ok _ hc) X.2.2.2.1 X.2.2.2.2.2.1 hP3 hD3 hS2 0 rfl (clC _ hc) k hk (X.2.2.2.2.1 _ (flC_in hf)) (fun _ h9 => h9) hfin X.2.2.2.2.2.2.1 hdecl (clY_ok _ hc k hk) (by rw [hyk]; rfl) (by rw [hyk]; rfl) hl hd4 (fun H4 locs4 hP4 hD4 hS4 => kk q u H4 locs4 hP4 hD4 hS4)
end CS
def wc0 (cI cZ cJ : ClassId) (h0 : Nat) (u : Nat → Nat) : va_W := (h0, .inr (0, [.ref (u 0), .ref (u 1), .ref (u 2), .ref (u 3), .ref (u 4), .ref (u 5), .ref (u 6), .ref (u 7), .int (Int32.ofInt 0), .int (Int32.ofInt 0)])) :: [(u 0, .inl (cZ, (10, .inl fun _ => Int32.ofInt 0))), (u 1, .inl (cI, (10, .inl fun _ => Int32.ofInt 0))), (u 2, .inl (cI, (10, .inl fun _ => Int32.ofInt 0))), (u 3, .inl (cI, (10, .inl fun _ => Int32.ofInt 0))), (u 4, .inl (cI, (10, .inl fun _ => Int32.ofInt 0))), (u 5, .inl (cI, (10, .inl fun _ => Int32.ofInt 0))), (u 6, .inl (cI, (10, .inl fun _ => Int32.ofInt 0))), (u 7, .inl (cI, (100, .inl fun _ => Int32.ofInt 0)))]
set_option maxHeartbeats 40000000 in
theorem mi0 (l : Launch) (D : va_G) (cI cZ cJ : ClassId) (h0 sz : Nat) : Met l yX0_init (Cond.code yX0_init cX0_init 1 none :: lw_ok) { frames := 1, cells := 8, slots := 170, locals := 12 } (Pci D cI cZ cJ h0 sz (.inr (0, [.null, .null, .null, .null, .null, .null, .null, .null, .int 0, .int 0]))) (Qci D h0 sz (.inr (0, [.null, .null, .null, .null, .null, .null, .null, .null, .int 0, .int 0])) (wc0 cI cZ cJ)) 8 170 (va_A [(h0, (.inr (0, [.null, .null, .null, .null, .null, .null, .null, .null, .int 0, .int 0])))] sz) := by
  refine Met.ofW (cc := cX0_init) (maxL := 1) (ret := none) (by decide) rfl ?_
  intro p e s m args below meth c s₁ B hml hv
  obtain ⟨rfl, hsz, hP, hK, hD0, hns⟩ := hv
  have hr := B.returns
  have hlocks := B.notSynchronized
  have hts := atoms_spec (ws := Cond.code yX0_init cX0_init 1 none :: lw_ok) B.pre
  have X : Cy p s m _ meth c D cI cZ cJ cX0_init 0 := ⟨B.exec, B.bytes, hml, findClass_of_methodNamed B.named, fun w hw => hts w (List.mem_cons_of_mem _ hw), hK, (name_of_methodNamed B.named B.method).1, by decide, hns⟩
  subst hsz
  have hD := hD0.self (sz := s.heap.size)
  generalize hAe : va_A [(h0, (.inr (0, [.null, .null, .null, .null, .null, .null, .null, .null, .int 0, .int 0]) : va_E))] s.heap.size = A at hD ⊢
  have hA : ∀ q : Nat, s.heap.size ≤ q → A q := fun q h => by rw [← hAe]; exact Or.inr h
  have hS : va_S A s.heap s.heap [] := va_S.rf
  have hl := lv_entry ([.ref h0]) (n := 1) (Nat.le_of_ble_eq_true rfl)
  rw [lg_entry_eq]
  generalize (lg_sl ([.ref h0]) ++ List.replicate (1 - (lg_sl ([.ref h0])).length) Slot.unset).toArray = ls at hl ⊢
  have hl : lv_has ls 1 [(0, .ref h0)] := hl
  refine lv_aload_n X.1 X.2.1 diX0_0 rfl (lv_at hl 0 rfl) ?_
  refine ct_obj (d := 75) X (by decide) hl.1 ⟨Nat.le_of_ble_eq_true rfl, Nat.le_of_ble_eq_true rfl⟩ diX0_1 ?_
  refine lv_aload_n X.1 X.2.1 diX0_4 rfl (lv_at hl 0 rfl) ?_
  refine lv_bipush (v := Int32.ofInt 10) X.1 X.2.1 diX0_5 bp_bipush_10 ?_
  refine ct_arr (ty := .boolean) (cA := cZ) (t0 := 1) (N := 10) (a0 := (10, .inl fun _ => Int32.ofInt 0)) (d := 76) (k := 0) X (List.mem_of_getElem? (i := 9) rfl) (Nat.le_of_ble_eq_true rfl) rfl rfl rfl rfl (by simp) rfl (at_in arZ rfl) a0Z sz_10.1 sz_10.2 cbZ_10 (by show _ ≤ (8 : Nat); omega) (by show _ ≤ (170 : Nat); omega) hA diX0_7 diX0_9 (Nat.le_of_ble_eq_true rfl) hP hD hS (fun a0 H locs hP hD hS => ?_)
  have hP : va_P D cls9 ((h0, .inr (0, [.ref a0, .null, .null, .null, .null, .null, .null, .null, .int 0, .int 0])) :: [(a0, .inl (cZ, (10, .inl fun _ => Int32.ofInt 0)))]) H := hP
  have hD : va_D A ((h0, .inr (0, [.ref a0, .null, .null, .null, .null, .null, .null, .null, .int 0, .int 0])) :: [(a0, .inl (cZ, (10, .inl fun _ => Int32.ofInt 0)))]) := hD
  refine lv_aload_n X.1 X.2.1 diX0_12 rfl (lv_at hl 0 rfl) ?_
  refine lv_bipush (v := Int32.ofInt 10) X.1 X.2.1 diX0_13 bp_bipush_10 ?_
  refine ct_arr (ty := .int) (cA := cI) (t0 := 0) (N := 10) (a0 := (10, .inl fun _ => Int32.ofInt 0)) (d := 79) (k := 1) X (List.mem_of_getElem? (i := 0) rfl) (Nat.le_of_ble_eq_true rfl) rfl rfl rfl rfl (by simp) rfl (at_in arI rfl) a0I sz_10.1 sz_10.2 cbI_10 (by show _ ≤ (8 : Nat); omega) (by show _ ≤ (170 : Nat); omega) hA diX0_15 diX0_17 (Nat.le_of_ble_eq_true rfl) hP hD hS (fun a1 H locs hP hD hS => ?_)
  have hP : va_P D cls9 ((h0, .inr (0, [.ref a0, .ref a1, .null, .null, .null, .null, .null, .null, .int 0, .int 0])) :: [(a0, .inl (cZ, (10, .inl fun _ => Int32.ofInt 0))), (a1, .inl (cI, (10, .inl fun _ => Int32.ofInt 0)))]) H := hP
  have hD : va_D A ((h0, .inr (0, [.ref a0, .ref a1, .null, .null, .null, .null, .null, .null, .int 0, .int 0])) :: [(a0, .inl (cZ, (10, .inl fun _ => Int32.ofInt 0))), (a1, .inl (cI, (10, .inl fun _ => Int32.ofInt 0)))]) := hD
  refine lv_aload_n X.1 X.2.1 diX0_20 rfl (lv_at hl 0 rfl) ?_
  refine lv_bipush (v := Int32.ofInt 10) X.1 X.2.1 diX0_21 bp_bipush_10 ?_
  refine ct_arr (ty := .int) (cA := cI) (t0 := 0) (N := 10) (a0 := (10, .inl fun _ => Int32.ofInt 0)) (d := 83) (k := 2) X (List.mem_of_getElem? (i := 1) rfl) (Nat.le_of_ble_eq_true rfl) rfl rfl rfl rfl (by simp) rfl (at_in arI rfl) a0I sz_10.1 sz_10.2 cbI_10 (by show _ ≤ (8 : Nat); omega) (by show _ ≤ (170 : Nat); omega) hA diX0_23 diX0_25 (Nat.le_of_ble_eq_true rfl) hP hD hS (fun a2 H locs hP hD hS => ?_)
  have hP : va_P D cls9 ((h0, .inr (0, [.ref a0, .ref a1, .ref a2, .null, .null, .null, .null, .null, .int 0, .int 0])) :: [(a0, .inl (cZ, (10, .inl fun _ => Int32.ofInt 0))), (a1, .inl (cI, (10, .inl fun _ => Int32.ofInt 0))), (a2, .inl (cI, (10, .inl fun _ => Int32.ofInt 0)))]) H := hP
  have hD : va_D A ((h0, .inr (0, [.ref a0, .ref a1, .ref a2, .null, .null, .null, .null, .null, .int 0, .int 0])) :: [(a0, .inl (cZ, (10, .inl fun _ => Int32.ofInt 0))), (a1, .inl (cI, (10, .inl fun _ => Int32.ofInt 0))), (a2, .inl (cI, (10, .inl fun _ => Int32.ofInt 0)))]) := hD
  refine lv_aload_n X.1 X.2.1 diX0_28 rfl (lv_at hl 0 rfl) ?_
  refine lv_bipush (v := Int32.ofInt 10) X.1 X.2.1 diX0_29 bp_bipush_10 ?_
  refine ct_arr (ty := .int) (cA := cI) (t0 := 0) (N := 10) (a0 := (10, .inl fun _ => Int32.ofInt 0)) (d := 86) (k := 3) X (List.mem_of_getElem? (i := 2) rfl) (Nat.le_of_ble_eq_true rfl) rfl rfl rfl rfl (by simp) rfl (at_in arI rfl) a0I sz_10.1 sz_10.2 cbI_10 (by show _ ≤ (8 : Nat); omega) (by show _ ≤ (170 : Nat); omega) hA diX0_31 diX0_33 (Nat.le_of_ble_eq_true rfl) hP hD hS (fun a3 H locs hP hD hS => ?_)
  have hP : va_P D cls9 ((h0, .inr (0, [.ref a0, .ref a1, .ref a2, .ref a3, .null, .null, .null, .null, .int 0, .int 0])) :: [(a0, .inl (cZ, (10, .inl fun _ => Int32.ofInt 0))), (a1, .inl (cI, (10, .inl fun _ => Int32.ofInt 0))), (a2, .inl (cI, (10, .inl fun _ => Int32.ofInt 0))), (a3, .inl (cI, (10, .inl fun _ => Int32.ofInt 0)))]) H := hP
  have hD : va_D A ((h0, .inr (0, [.ref a0, .ref a1, .ref a2, .ref a3, .null, .null, .null, .null, .int 0, .int 0])) :: [(a0, .inl (cZ, (10, .inl fun _ => Int32.ofInt 0))), (a1, .inl (cI, (10, .inl fun _ => Int32.ofInt 0))), (a2, .inl (cI, (10, .inl fun _ => Int32.ofInt 0))), (a3, .inl (cI, (10, .inl fun _ => Int32.ofInt 0)))]) := hD
  refine lv_aload_n X.1 X.2.1 diX0_36 rfl (lv_at hl 0 rfl) ?_
  refine lv_bipush (v := Int32.ofInt 10) X.1 X.2.1 diX0_37 bp_bipush_10 ?_
  refine ct_arr (ty := .int) (cA := cI) (t0 := 0) (N := 10) (a0 := (10, .inl fun _ => Int32.ofInt 0)) (d := 89) (k := 4) X (List.mem_of_getElem? (i := 3) rfl) (Nat.le_of_ble_eq_true rfl) rfl rfl rfl rfl (by simp) rfl (at_in arI rfl) a0I sz_10.1 sz_10.2 cbI_10 (by show _ ≤ (8 : Nat); omega) (by show _ ≤ (170 : Nat); omega) hA diX0_39 diX0_41 (Nat.le_of_ble_eq_true rfl) hP hD hS (fun a4 H locs hP hD hS => ?_)
  have hP : va_P D cls9 ((h0, .inr (0, [.ref a0, .ref a1, .ref a2, .ref a3, .ref a4, .null, .null, .null, .int 0, .int 0])) :: [(a0, .inl (cZ, (10, .inl fun _ => Int32.ofInt 0))), (a1, .inl (cI, (10, .inl fun _ => Int32.ofInt 0))), (a2, .inl (cI, (10, .inl fun _ => Int32.ofInt 0))), (a3, .inl (cI, (10, .inl fun _ => Int32.ofInt 0))), (a4, .inl (cI, (10, .inl fun _ => Int32.ofInt 0)))]) H := hP
  have hD : va_D A ((h0, .inr (0, [.ref a0, .ref a1, .ref a2, .ref a3, .ref a4, .null, .null, .null, .int 0, .int 0])) :: [(a0, .inl (cZ, (10, .inl fun _ => Int32.ofInt 0))), (a1, .inl (cI, (10, .inl fun _ => Int32.ofInt 0))), (a2, .inl (cI, (10, .inl fun _ => Int32.ofInt 0))), (a3, .inl (cI, (10, .inl fun _ => Int32.ofInt 0))), (a4, .inl (cI, (10, .inl fun _ => Int32.ofInt 0)))]) := hD
  refine lv_aload_n X.1 X.2.1 diX0_44 rfl (lv_at hl 0 rfl) ?_
  refine lv_bipush (v := Int32.ofInt 10) X.1 X.2.1 diX0_45 bp_bipush_10 ?_
  refine ct_arr (ty := .int) (cA := cI) (t0 := 0) (N := 10) (a0 := (10, .inl fun _ => Int32.ofInt 0)) (d := 92) (k := 5) X (List.mem_of_getElem? (i := 4) rfl) (Nat.le_of_ble_eq_true rfl) rfl rfl rfl rfl (by simp) rfl (at_in arI rfl) a0I sz_10.1 sz_10.2 cbI_10 (by show _ ≤ (8 : Nat); omega) (by show _ ≤ (170 : Nat); omega) hA diX0_47 diX0_49 (Nat.le_of_ble_eq_true rfl) hP hD hS (fun a5 H locs hP hD hS => ?_)
  have hP : va_P D cls9 ((h0, .inr (0, [.ref a0, .ref a1, .ref a2, .ref a3, .ref a4, .ref a5, .null, .null, .int 0, .int 0])) :: [(a0, .inl (cZ, (10, .inl fun _ => Int32.ofInt 0))), (a1, .inl (cI, (10, .inl fun _ => Int32.ofInt 0))), (a2, .inl (cI, (10, .inl fun _ => Int32.ofInt 0))), (a3, .inl (cI, (10, .inl fun _ => Int32.ofInt 0))), (a4, .inl (cI, (10, .inl fun _ => Int32.ofInt 0))), (a5, .inl (cI, (10, .inl fun _ => Int32.ofInt 0)))]) H := hP
  have hD : va_D A ((h0, .inr (0, [.ref a0, .ref a1, .ref a2, .ref a3, .ref a4, .ref a5, .null, .null, .int 0, .int 0])) :: [(a0, .inl (cZ, (10, .inl fun _ => Int32.ofInt 0))), (a1, .inl (cI, (10, .inl fun _ => Int32.ofInt 0))), (a2, .inl (cI, (10, .inl fun _ => Int32.ofInt 0))), (a3, .inl (cI, (10, .inl fun _ => Int32.ofInt 0))), (a4, .inl (cI, (10, .inl fun _ => Int32.ofInt 0))), (a5, .inl (cI, (10, .inl fun _ => Int32.ofInt 0)))]) := hD
  refine lv_aload_n X.1 X.2.1 diX0_52 rfl (lv_at hl 0 rfl) ?_
  refine lv_bipush (v := Int32.ofInt 10) X.1 X.2.1 diX0_53 bp_bipush_10 ?_
  refine ct_arr (ty := .int) (cA := cI) (t0 := 0) (N := 10) (a0 := (10, .inl fun _ => Int32.ofInt 0)) (d := 95) (k := 6) X (List.mem_of_getElem? (i := 5) rfl) (Nat.le_of_ble_eq_true rfl) rfl rfl rfl rfl (by simp) rfl (at_in arI rfl) a0I sz_10.1 sz_10.2 cbI_10 (by show _ ≤ (8 : Nat); omega) (by show _ ≤ (170 : Nat); omega) hA diX0_55 diX0_57 (Nat.le_of_ble_eq_true rfl) hP hD hS (fun a6 H locs hP hD hS => ?_)
  have hP : va_P D cls9 ((h0, .inr (0, [.ref a0, .ref a1, .ref a2, .ref a3, .ref a4, .ref a5, .ref a6, .null, .int 0, .int 0])) :: [(a0, .inl (cZ, (10, .inl fun _ => Int32.ofInt 0))), (a1, .inl (cI, (10, .inl fun _ => Int32.ofInt 0))), (a2, .inl (cI, (10, .inl fun _ => Int32.ofInt 0))), (a3, .inl (cI, (10, .inl fun _ => Int32.ofInt 0))), (a4, .inl (cI, (10, .inl fun _ => Int32.ofInt 0))), (a5, .inl (cI, (10, .inl fun _ => Int32.ofInt 0))), (a6, .inl (cI, (10, .inl fun _ => Int32.ofInt 0)))]) H := hP
  have hD : va_D A ((h0, .inr (0, [.ref a0, .ref a1, .ref a2, .ref a3, .ref a4, .ref a5, .ref a6, .null, .int 0, .int 0])) :: [(a0, .inl (cZ, (10, .inl fun _ => Int32.ofInt 0))), (a1, .inl (cI, (10, .inl fun _ => Int32.ofInt 0))), (a2, .inl (cI, (10, .inl fun _ => Int32.ofInt 0))), (a3, .inl (cI, (10, .inl fun _ => Int32.ofInt 0))), (a4, .inl (cI, (10, .inl fun _ => Int32.ofInt 0))), (a5, .inl (cI, (10, .inl fun _ => Int32.ofInt 0))), (a6, .inl (cI, (10, .inl fun _ => Int32.ofInt 0)))]) := hD
  refine lv_aload_n X.1 X.2.1 diX0_60 rfl (lv_at hl 0 rfl) ?_
  refine lv_bipush (v := Int32.ofInt 100) X.1 X.2.1 diX0_61 bp_bipush_100 ?_
  refine ct_arr (ty := .int) (cA := cI) (t0 := 0) (N := 100) (a0 := (100, .inl fun _ => Int32.ofInt 0)) (d := 97) (k := 7) X (List.mem_of_getElem? (i := 6) rfl) (Nat.le_of_ble_eq_true rfl) rfl rfl rfl rfl (by simp) rfl (at_in arI rfl) a0I sz_100.1 sz_100.2 cbI_100 (by show _ ≤ (8 : Nat); omega) (by show _ ≤ (170 : Nat); omega) hA diX0_63 diX0_65 (Nat.le_of_ble_eq_true rfl) hP hD hS (fun a7 H locs hP hD hS => ?_)
  have hP : va_P D cls9 ((h0, .inr (0, [.ref a0, .ref a1, .ref a2, .ref a3, .ref a4, .ref a5, .ref a6, .ref a7, .int 0, .int 0])) :: [(a0, .inl (cZ, (10, .inl fun _ => Int32.ofInt 0))), (a1, .inl (cI, (10, .inl fun _ => Int32.ofInt 0))), (a2, .inl (cI, (10, .inl fun _ => Int32.ofInt 0))), (a3, .inl (cI, (10, .inl fun _ => Int32.ofInt 0))), (a4, .inl (cI, (10, .inl fun _ => Int32.ofInt 0))), (a5, .inl (cI, (10, .inl fun _ => Int32.ofInt 0))), (a6, .inl (cI, (10, .inl fun _ => Int32.ofInt 0))), (a7, .inl (cI, (100, .inl fun _ => Int32.ofInt 0)))]) H := hP
  have hD : va_D A ((h0, .inr (0, [.ref a0, .ref a1, .ref a2, .ref a3, .ref a4, .ref a5, .ref a6, .ref a7, .int 0, .int 0])) :: [(a0, .inl (cZ, (10, .inl fun _ => Int32.ofInt 0))), (a1, .inl (cI, (10, .inl fun _ => Int32.ofInt 0))), (a2, .inl (cI, (10, .inl fun _ => Int32.ofInt 0))), (a3, .inl (cI, (10, .inl fun _ => Int32.ofInt 0))), (a4, .inl (cI, (10, .inl fun _ => Int32.ofInt 0))), (a5, .inl (cI, (10, .inl fun _ => Int32.ofInt 0))), (a6, .inl (cI, (10, .inl fun _ => Int32.ofInt 0))), (a7, .inl (cI, (100, .inl fun _ => Int32.ofInt 0)))]) := hD
  refine lv_aload_n X.1 X.2.1 diX0_68 rfl (lv_at hl 0 rfl) ?_
  refine lv_iconst (v := Int32.ofInt 0) X.1 X.2.1 diX0_69 bp_iconst_0 ?_
  refine ct_int (d := 100) (k := 8) X (List.mem_of_getElem? (i := 7) rfl) (Nat.le_of_ble_eq_true rfl) rfl (by first | rfl | exact i_zn (Or.inl rfl)) (by first | rfl | decide) diX0_70 (Nat.le_of_ble_eq_true rfl) hP hD hS (fun H locs hP hD hS => ?_)
  have hP : va_P D cls9 ((h0, .inr (0, [.ref a0, .ref a1, .ref a2, .ref a3, .ref a4, .ref a5, .ref a6, .ref a7, .int (Int32.ofInt 0), .int 0])) :: [(a0, .inl (cZ, (10, .inl fun _ => Int32.ofInt 0))), (a1, .inl (cI, (10, .inl fun _ => Int32.ofInt 0))), (a2, .inl (cI, (10, .inl fun _ => Int32.ofInt 0))), (a3, .inl (cI, (10, .inl fun _ => Int32.ofInt 0))), (a4, .inl (cI, (10, .inl fun _ => Int32.ofInt 0))), (a5, .inl (cI, (10, .inl fun _ => Int32.ofInt 0))), (a6, .inl (cI, (10, .inl fun _ => Int32.ofInt 0))), (a7, .inl (cI, (100, .inl fun _ => Int32.ofInt 0)))]) H := hP
  have hD : va_D A ((h0, .inr (0, [.ref a0, .ref a1, .ref a2, .ref a3, .ref a4, .ref a5, .ref a6, .ref a7, .int (Int32.ofInt 0), .int 0])) :: [(a0, .inl (cZ, (10, .inl fun _ => Int32.ofInt 0))), (a1, .inl (cI, (10, .inl fun _ => Int32.ofInt 0))), (a2, .inl (cI, (10, .inl fun _ => Int32.ofInt 0))), (a3, .inl (cI, (10, .inl fun _ => Int32.ofInt 0))), (a4, .inl (cI, (10, .inl fun _ => Int32.ofInt 0))), (a5, .inl (cI, (10, .inl fun _ => Int32.ofInt 0))), (a6, .inl (cI, (10, .inl fun _ => Int32.ofInt 0))), (a7, .inl (cI, (100, .inl fun _ => Int32.ofInt 0)))]) := hD
  refine lv_aload_n X.1 X.2.1 diX0_73 rfl (lv_at hl 0 rfl) ?_
  refine lv_iconst (v := Int32.ofInt 0) X.1 X.2.1 diX0_74 bp_iconst_0 ?_
  refine ct_int (d := 104) (k := 9) X (List.mem_of_getElem? (i := 8) rfl) (Nat.le_of_ble_eq_true rfl) rfl (by first | rfl | exact i_zn (Or.inl rfl)) (by first | rfl | decide) diX0_75 (Nat.le_of_ble_eq_true rfl) hP hD hS (fun H locs hP hD hS => ?_)
  have hP : va_P D cls9 ((h0, .inr (0, [.ref a0, .ref a1, .ref a2, .ref a3, .ref a4, .ref a5, .ref a6, .ref a7, .int (Int32.ofInt 0), .int (Int32.ofInt 0)])) :: [(a0, .inl (cZ, (10, .inl fun _ => Int32.ofInt 0))), (a1, .inl (cI, (10, .inl fun _ => Int32.ofInt 0))), (a2, .inl (cI, (10, .inl fun _ => Int32.ofInt 0))), (a3, .inl (cI, (10, .inl fun _ => Int32.ofInt 0))), (a4, .inl (cI, (10, .inl fun _ => Int32.ofInt 0))), (a5, .inl (cI, (10, .inl fun _ => Int32.ofInt 0))), (a6, .inl (cI, (10, .inl fun _ => Int32.ofInt 0))), (a7, .inl (cI, (100, .inl fun _ => Int32.ofInt 0)))]) H := hP
  have hD : va_D A ((h0, .inr (0, [.ref a0, .ref a1, .ref a2, .ref a3, .ref a4, .ref a5, .ref a6, .ref a7, .int (Int32.ofInt 0), .int (Int32.ofInt 0)])) :: [(a0, .inl (cZ, (10, .inl fun _ => Int32.ofInt 0))), (a1, .inl (cI, (10, .inl fun _ => Int32.ofInt 0))), (a2, .inl (cI, (10, .inl fun _ => Int32.ofInt 0))), (a3, .inl (cI, (10, .inl fun _ => Int32.ofInt 0))), (a4, .inl (cI, (10, .inl fun _ => Int32.ofInt 0))), (a5, .inl (cI, (10, .inl fun _ => Int32.ofInt 0))), (a6, .inl (cI, (10, .inl fun _ => Int32.ofInt 0))), (a7, .inl (cI, (100, .inl fun _ => Int32.ofInt 0)))]) := hD
  have hP9 : va_P D cls9 (wc0 cI cZ cJ h0 (fun i => nt 0 [a0, a1, a2, a3, a4, a5, a6, a7] i)) H := hP
  have hD9 : va_D A (wc0 cI cZ cJ h0 (fun i => nt 0 [a0, a1, a2, a3, a4, a5, a6, a7] i)) := hD
  refine W.widen (k := 8) (n := 170) (by omega) (by omega) ?_
  exact W.vret X.1 X.2.1 hr (fun t ht _ => ⟨⟨(fun i => nt 0 [a0, a1, a2, a3, a4, a5, a6, a7] i), rfl, trivial, (by rw [← ht] at hP9; exact hP9), (by rw [hAe]; exact hD9)⟩, by rw [hAe]; exact hS.F ht⟩) hS.2.2 diX0_78
def wc1 (cI cZ cJ : ClassId) (h0 : Nat) (u : Nat → Nat) : va_W := (h0, .inr (1, [.ref (u 0), .ref (u 1), .ref (u 2), .ref (u 3), .ref (u 4), .ref (u 5), .ref (u 6), .ref (u 7), .int (Int32.ofInt 0)])) :: [(u 0, .inl (cI, (12, .inl fun _ => Int32.ofInt 0))), (u 1, .inl (cI, (12, .inl fun _ => Int32.ofInt 0))), (u 2, .inl (cI, (12, .inl fun _ => Int32.ofInt 0))), (u 3, .inl (cI, (12, .inl fun _ => Int32.ofInt 0))), (u 4, .inl (cI, (12, .inl fun _ => Int32.ofInt 0))), (u 5, .inl (cI, (12, .inl fun _ => Int32.ofInt 0))), (u 6, .inl (cI, (12, .inl fun _ => Int32.ofInt 0))), (u 7, .inl (cI, (1200, .inl fun _ => Int32.ofInt 0)))]
set_option maxHeartbeats 40000000 in
theorem mi1 (l : Launch) (D : va_G) (cI cZ cJ : ClassId) (h0 sz : Nat) : Met l yX1_init (Cond.code yX1_init cX1_init 1 none :: lw_ok) { frames := 1, cells := 8, slots := 1284, locals := 12 } (Pci D cI cZ cJ h0 sz (.inr (1, [.null, .null, .null, .null, .null, .null, .null, .null, .int 0]))) (Qci D h0 sz (.inr (1, [.null, .null, .null, .null, .null, .null, .null, .null, .int 0])) (wc1 cI cZ cJ)) 8 1284 (va_A [(h0, (.inr (1, [.null, .null, .null, .null, .null, .null, .null, .null, .int 0])))] sz) := by
  refine Met.ofW (cc := cX1_init) (maxL := 1) (ret := none) (by decide) rfl ?_
  intro p e s m args below meth c s₁ B hml hv
  obtain ⟨rfl, hsz, hP, hK, hD0, hns⟩ := hv
  have hr := B.returns
  have hlocks := B.notSynchronized
  have hts := atoms_spec (ws := Cond.code yX1_init cX1_init 1 none :: lw_ok) B.pre
  have X : Cy p s m _ meth c D cI cZ cJ cX1_init 1 := ⟨B.exec, B.bytes, hml, findClass_of_methodNamed B.named, fun w hw => hts w (List.mem_cons_of_mem _ hw), hK, (name_of_methodNamed B.named B.method).1, by decide, hns⟩
  subst hsz
  have hD := hD0.self (sz := s.heap.size)
  generalize hAe : va_A [(h0, (.inr (1, [.null, .null, .null, .null, .null, .null, .null, .null, .int 0]) : va_E))] s.heap.size = A at hD ⊢
  have hA : ∀ q : Nat, s.heap.size ≤ q → A q := fun q h => by rw [← hAe]; exact Or.inr h
  have hS : va_S A s.heap s.heap [] := va_S.rf
  have hl := lv_entry ([.ref h0]) (n := 1) (Nat.le_of_ble_eq_true rfl)
  rw [lg_entry_eq]
  generalize (lg_sl ([.ref h0]) ++ List.replicate (1 - (lg_sl ([.ref h0])).length) Slot.unset).toArray = ls at hl ⊢
  have hl : lv_has ls 1 [(0, .ref h0)] := hl
  refine lv_aload_n X.1 X.2.1 diX1_0 rfl (lv_at hl 0 rfl) ?_
  refine ct_obj (d := 134) X (by decide) hl.1 ⟨Nat.le_of_ble_eq_true rfl, Nat.le_of_ble_eq_true rfl⟩ diX1_1 ?_
  refine lv_aload_n X.1 X.2.1 diX1_4 rfl (lv_at hl 0 rfl) ?_
  refine lv_bipush (v := Int32.ofInt 12) X.1 X.2.1 diX1_5 bp_bipush_12 ?_
  refine ct_arr (ty := .int) (cA := cI) (t0 := 0) (N := 12) (a0 := (12, .inl fun _ => Int32.ofInt 0)) (d := 135) (k := 0) X (List.mem_of_getElem? (i := 18) rfl) (Nat.le_of_ble_eq_true rfl) rfl rfl rfl rfl (by simp) rfl (at_in arI rfl) a0I sz_12.1 sz_12.2 cbI_12 (by show _ ≤ (8 : Nat); omega) (by show _ ≤ (1284 : Nat); omega) hA diX1_7 diX1_9 (Nat.le_of_ble_eq_true rfl) hP hD hS (fun a0 H locs hP hD hS => ?_)
  have hP : va_P D cls9 ((h0, .inr (1, [.ref a0, .null, .null, .null, .null, .null, .null, .null, .int 0])) :: [(a0, .inl (cI, (12, .inl fun _ => Int32.ofInt 0)))]) H := hP
  have hD : va_D A ((h0, .inr (1, [.ref a0, .null, .null, .null, .null, .null, .null, .null, .int 0])) :: [(a0, .inl (cI, (12, .inl fun _ => Int32.ofInt 0)))]) := hD
  refine lv_aload_n X.1 X.2.1 diX1_12 rfl (lv_at hl 0 rfl) ?_
  refine lv_bipush (v := Int32.ofInt 12) X.1 X.2.1 diX1_13 bp_bipush_12 ?_
  refine ct_arr (ty := .int) (cA := cI) (t0 := 0) (N := 12) (a0 := (12, .inl fun _ => Int32.ofInt 0)) (d := 137) (k := 1) X (List.mem_of_getElem? (i := 10) rfl) (Nat.le_of_ble_eq_true rfl) rfl rfl rfl rfl (by simp) rfl (at_in arI rfl) a0I sz_12.1 sz_12.2 cbI_12 (by show _ ≤ (8 : Nat); omega) (by show _ ≤ (1284 : Nat); omega) hA diX1_15 diX1_17 (Nat.le_of_ble_eq_true rfl) hP hD hS (fun a1 H locs hP hD hS => ?_)
  have hP : va_P D cls9 ((h0, .inr (1, [.ref a0, .ref a1, .null, .null, .null, .null, .null, .null, .int 0])) :: [(a0, .inl (cI, (12, .inl fun _ => Int32.ofInt 0))), (a1, .inl (cI, (12, .inl fun _ => Int32.ofInt 0)))]) H := hP
  have hD : va_D A ((h0, .inr (1, [.ref a0, .ref a1, .null, .null, .null, .null, .null, .null, .int 0])) :: [(a0, .inl (cI, (12, .inl fun _ => Int32.ofInt 0))), (a1, .inl (cI, (12, .inl fun _ => Int32.ofInt 0)))]) := hD
  refine lv_aload_n X.1 X.2.1 diX1_20 rfl (lv_at hl 0 rfl) ?_
  refine lv_bipush (v := Int32.ofInt 12) X.1 X.2.1 diX1_21 bp_bipush_12 ?_
  refine ct_arr (ty := .int) (cA := cI) (t0 := 0) (N := 12) (a0 := (12, .inl fun _ => Int32.ofInt 0)) (d := 139) (k := 2) X (List.mem_of_getElem? (i := 11) rfl) (Nat.le_of_ble_eq_true rfl) rfl rfl rfl rfl (by simp) rfl (at_in arI rfl) a0I sz_12.1 sz_12.2 cbI_12 (by show _ ≤ (8 : Nat); omega) (by show _ ≤ (1284 : Nat); omega) hA diX1_23 diX1_25 (Nat.le_of_ble_eq_true rfl) hP hD hS (fun a2 H locs hP hD hS => ?_)
  have hP : va_P D cls9 ((h0, .inr (1, [.ref a0, .ref a1, .ref a2, .null, .null, .null, .null, .null, .int 0])) :: [(a0, .inl (cI, (12, .inl fun _ => Int32.ofInt 0))), (a1, .inl (cI, (12, .inl fun _ => Int32.ofInt 0))), (a2, .inl (cI, (12, .inl fun _ => Int32.ofInt 0)))]) H := hP
  have hD : va_D A ((h0, .inr (1, [.ref a0, .ref a1, .ref a2, .null, .null, .null, .null, .null, .int 0])) :: [(a0, .inl (cI, (12, .inl fun _ => Int32.ofInt 0))), (a1, .inl (cI, (12, .inl fun _ => Int32.ofInt 0))), (a2, .inl (cI, (12, .inl fun _ => Int32.ofInt 0)))]) := hD
  refine lv_aload_n X.1 X.2.1 diX1_28 rfl (lv_at hl 0 rfl) ?_
  refine lv_bipush (v := Int32.ofInt 12) X.1 X.2.1 diX1_29 bp_bipush_12 ?_
  refine ct_arr (ty := .int) (cA := cI) (t0 := 0) (N := 12) (a0 := (12, .inl fun _ => Int32.ofInt 0)) (d := 142) (k := 3) X (List.mem_of_getElem? (i := 12) rfl) (Nat.le_of_ble_eq_true rfl) rfl rfl rfl rfl (by simp) rfl (at_in arI rfl) a0I sz_12.1 sz_12.2 cbI_12 (by show _ ≤ (8 : Nat); omega) (by show _ ≤ (1284 : Nat); omega) hA diX1_31 diX1_33 (Nat.le_of_ble_eq_true rfl) hP hD hS (fun a3 H locs hP hD hS => ?_)
  have hP : va_P D cls9 ((h0, .inr (1, [.ref a0, .ref a1, .ref a2, .ref a3, .null, .null, .null, .null, .int 0])) :: [(a0, .inl (cI, (12, .inl fun _ => Int32.ofInt 0))), (a1, .inl (cI, (12, .inl fun _ => Int32.ofInt 0))), (a2, .inl (cI, (12, .inl fun _ => Int32.ofInt 0))), (a3, .inl (cI, (12, .inl fun _ => Int32.ofInt 0)))]) H := hP
  have hD : va_D A ((h0, .inr (1, [.ref a0, .ref a1, .ref a2, .ref a3, .null, .null, .null, .null, .int 0])) :: [(a0, .inl (cI, (12, .inl fun _ => Int32.ofInt 0))), (a1, .inl (cI, (12, .inl fun _ => Int32.ofInt 0))), (a2, .inl (cI, (12, .inl fun _ => Int32.ofInt 0))), (a3, .inl (cI, (12, .inl fun _ => Int32.ofInt 0)))]) := hD
  refine lv_aload_n X.1 X.2.1 diX1_36 rfl (lv_at hl 0 rfl) ?_
  refine lv_bipush (v := Int32.ofInt 12) X.1 X.2.1 diX1_37 bp_bipush_12 ?_
  refine ct_arr (ty := .int) (cA := cI) (t0 := 0) (N := 12) (a0 := (12, .inl fun _ => Int32.ofInt 0)) (d := 144) (k := 4) X (List.mem_of_getElem? (i := 13) rfl) (Nat.le_of_ble_eq_true rfl) rfl rfl rfl rfl (by simp) rfl (at_in arI rfl) a0I sz_12.1 sz_12.2 cbI_12 (by show _ ≤ (8 : Nat); omega) (by show _ ≤ (1284 : Nat); omega) hA diX1_39 diX1_41 (Nat.le_of_ble_eq_true rfl) hP hD hS (fun a4 H locs hP hD hS => ?_)
  have hP : va_P D cls9 ((h0, .inr (1, [.ref a0, .ref a1, .ref a2, .ref a3, .ref a4, .null, .null, .null, .int 0])) :: [(a0, .inl (cI, (12, .inl fun _ => Int32.ofInt 0))), (a1, .inl (cI, (12, .inl fun _ => Int32.ofInt 0))), (a2, .inl (cI, (12, .inl fun _ => Int32.ofInt 0))), (a3, .inl (cI, (12, .inl fun _ => Int32.ofInt 0))), (a4, .inl (cI, (12, .inl fun _ => Int32.ofInt 0)))]) H := hP
  have hD : va_D A ((h0, .inr (1, [.ref a0, .ref a1, .ref a2, .ref a3, .ref a4, .null, .null, .null, .int 0])) :: [(a0, .inl (cI, (12, .inl fun _ => Int32.ofInt 0))), (a1, .inl (cI, (12, .inl fun _ => Int32.ofInt 0))), (a2, .inl (cI, (12, .inl fun _ => Int32.ofInt 0))), (a3, .inl (cI, (12, .inl fun _ => Int32.ofInt 0))), (a4, .inl (cI, (12, .inl fun _ => Int32.ofInt 0)))]) := hD
  refine lv_aload_n X.1 X.2.1 diX1_44 rfl (lv_at hl 0 rfl) ?_
  refine lv_bipush (v := Int32.ofInt 12) X.1 X.2.1 diX1_45 bp_bipush_12 ?_
  refine ct_arr (ty := .int) (cA := cI) (t0 := 0) (N := 12) (a0 := (12, .inl fun _ => Int32.ofInt 0)) (d := 146) (k := 5) X (List.mem_of_getElem? (i := 14) rfl) (Nat.le_of_ble_eq_true rfl) rfl rfl rfl rfl (by simp) rfl (at_in arI rfl) a0I sz_12.1 sz_12.2 cbI_12 (by show _ ≤ (8 : Nat); omega) (by show _ ≤ (1284 : Nat); omega) hA diX1_47 diX1_49 (Nat.le_of_ble_eq_true rfl) hP hD hS (fun a5 H locs hP hD hS => ?_)
  have hP : va_P D cls9 ((h0, .inr (1, [.ref a0, .ref a1, .ref a2, .ref a3, .ref a4, .ref a5, .null, .null, .int 0])) :: [(a0, .inl (cI, (12, .inl fun _ => Int32.ofInt 0))), (a1, .inl (cI, (12, .inl fun _ => Int32.ofInt 0))), (a2, .inl (cI, (12, .inl fun _ => Int32.ofInt 0))), (a3, .inl (cI, (12, .inl fun _ => Int32.ofInt 0))), (a4, .inl (cI, (12, .inl fun _ => Int32.ofInt 0))), (a5, .inl (cI, (12, .inl fun _ => Int32.ofInt 0)))]) H := hP
  have hD : va_D A ((h0, .inr (1, [.ref a0, .ref a1, .ref a2, .ref a3, .ref a4, .ref a5, .null, .null, .int 0])) :: [(a0, .inl (cI, (12, .inl fun _ => Int32.ofInt 0))), (a1, .inl (cI, (12, .inl fun _ => Int32.ofInt 0))), (a2, .inl (cI, (12, .inl fun _ => Int32.ofInt 0))), (a3, .inl (cI, (12, .inl fun _ => Int32.ofInt 0))), (a4, .inl (cI, (12, .inl fun _ => Int32.ofInt 0))), (a5, .inl (cI, (12, .inl fun _ => Int32.ofInt 0)))]) := hD
  refine lv_aload_n X.1 X.2.1 diX1_52 rfl (lv_at hl 0 rfl) ?_
  refine lv_bipush (v := Int32.ofInt 12) X.1 X.2.1 diX1_53 bp_bipush_12 ?_
  refine ct_arr (ty := .int) (cA := cI) (t0 := 0) (N := 12) (a0 := (12, .inl fun _ => Int32.ofInt 0)) (d := 149) (k := 6) X (List.mem_of_getElem? (i := 15) rfl) (Nat.le_of_ble_eq_true rfl) rfl rfl rfl rfl (by simp) rfl (at_in arI rfl) a0I sz_12.1 sz_12.2 cbI_12 (by show _ ≤ (8 : Nat); omega) (by show _ ≤ (1284 : Nat); omega) hA diX1_55 diX1_57 (Nat.le_of_ble_eq_true rfl) hP hD hS (fun a6 H locs hP hD hS => ?_)
  have hP : va_P D cls9 ((h0, .inr (1, [.ref a0, .ref a1, .ref a2, .ref a3, .ref a4, .ref a5, .ref a6, .null, .int 0])) :: [(a0, .inl (cI, (12, .inl fun _ => Int32.ofInt 0))), (a1, .inl (cI, (12, .inl fun _ => Int32.ofInt 0))), (a2, .inl (cI, (12, .inl fun _ => Int32.ofInt 0))), (a3, .inl (cI, (12, .inl fun _ => Int32.ofInt 0))), (a4, .inl (cI, (12, .inl fun _ => Int32.ofInt 0))), (a5, .inl (cI, (12, .inl fun _ => Int32.ofInt 0))), (a6, .inl (cI, (12, .inl fun _ => Int32.ofInt 0)))]) H := hP
  have hD : va_D A ((h0, .inr (1, [.ref a0, .ref a1, .ref a2, .ref a3, .ref a4, .ref a5, .ref a6, .null, .int 0])) :: [(a0, .inl (cI, (12, .inl fun _ => Int32.ofInt 0))), (a1, .inl (cI, (12, .inl fun _ => Int32.ofInt 0))), (a2, .inl (cI, (12, .inl fun _ => Int32.ofInt 0))), (a3, .inl (cI, (12, .inl fun _ => Int32.ofInt 0))), (a4, .inl (cI, (12, .inl fun _ => Int32.ofInt 0))), (a5, .inl (cI, (12, .inl fun _ => Int32.ofInt 0))), (a6, .inl (cI, (12, .inl fun _ => Int32.ofInt 0)))]) := hD
  refine lv_aload_n X.1 X.2.1 diX1_60 rfl (lv_at hl 0 rfl) ?_
  refine lv_sipush (v := Int32.ofInt 1200) X.1 X.2.1 diX1_61 bp_sipush_1200 ?_
  refine ct_arr (ty := .int) (cA := cI) (t0 := 0) (N := 1200) (a0 := (1200, .inl fun _ => Int32.ofInt 0)) (d := 151) (k := 7) X (List.mem_of_getElem? (i := 16) rfl) (Nat.le_of_ble_eq_true rfl) rfl rfl rfl rfl (by simp) rfl (at_in arI rfl) a0I sz_1200.1 sz_1200.2 cbI_1200 (by show _ ≤ (8 : Nat); omega) (by show _ ≤ (1284 : Nat); omega) hA diX1_64 diX1_66 (Nat.le_of_ble_eq_true rfl) hP hD hS (fun a7 H locs hP hD hS => ?_)
  have hP : va_P D cls9 ((h0, .inr (1, [.ref a0, .ref a1, .ref a2, .ref a3, .ref a4, .ref a5, .ref a6, .ref a7, .int 0])) :: [(a0, .inl (cI, (12, .inl fun _ => Int32.ofInt 0))), (a1, .inl (cI, (12, .inl fun _ => Int32.ofInt 0))), (a2, .inl (cI, (12, .inl fun _ => Int32.ofInt 0))), (a3, .inl (cI, (12, .inl fun _ => Int32.ofInt 0))), (a4, .inl (cI, (12, .inl fun _ => Int32.ofInt 0))), (a5, .inl (cI, (12, .inl fun _ => Int32.ofInt 0))), (a6, .inl (cI, (12, .inl fun _ => Int32.ofInt 0))), (a7, .inl (cI, (1200, .inl fun _ => Int32.ofInt 0)))]) H := hP
  have hD : va_D A ((h0, .inr (1, [.ref a0, .ref a1, .ref a2, .ref a3, .ref a4, .ref a5, .ref a6, .ref a7, .int 0])) :: [(a0, .inl (cI, (12, .inl fun _ => Int32.ofInt 0))), (a1, .inl (cI, (12, .inl fun _ => Int32.ofInt 0))), (a2, .inl (cI, (12, .inl fun _ => Int32.ofInt 0))), (a3, .inl (cI, (12, .inl fun _ => Int32.ofInt 0))), (a4, .inl (cI, (12, .inl fun _ => Int32.ofInt 0))), (a5, .inl (cI, (12, .inl fun _ => Int32.ofInt 0))), (a6, .inl (cI, (12, .inl fun _ => Int32.ofInt 0))), (a7, .inl (cI, (1200, .inl fun _ => Int32.ofInt 0)))]) := hD
  refine lv_aload_n X.1 X.2.1 diX1_69 rfl (lv_at hl 0 rfl) ?_
  refine lv_iconst (v := Int32.ofInt 0) X.1 X.2.1 diX1_70 bp_iconst_0 ?_
  refine ct_int (d := 153) (k := 8) X (List.mem_of_getElem? (i := 17) rfl) (Nat.le_of_ble_eq_true rfl) rfl (by first | rfl | exact i_zn (Or.inl rfl)) (by first | rfl | decide) diX1_71 (Nat.le_of_ble_eq_true rfl) hP hD hS (fun H locs hP hD hS => ?_)
  have hP : va_P D cls9 ((h0, .inr (1, [.ref a0, .ref a1, .ref a2, .ref a3, .ref a4, .ref a5, .ref a6, .ref a7, .int (Int32.ofInt 0)])) :: [(a0, .inl (cI, (12, .inl fun _ => Int32.ofInt 0))), (a1, .inl (cI, (12, .inl fun _ => Int32.ofInt 0))), (a2, .inl (cI, (12, .inl fun _ => Int32.ofInt 0))), (a3, .inl (cI, (12, .inl fun _ => Int32.ofInt 0))), (a4, .inl (cI, (12, .inl fun _ => Int32.ofInt 0))), (a5, .inl (cI, (12, .inl fun _ => Int32.ofInt 0))), (a6, .inl (cI, (12, .inl fun _ => Int32.ofInt 0))), (a7, .inl (cI, (1200, .inl fun _ => Int32.ofInt 0)))]) H := hP
  have hD : va_D A ((h0, .inr (1, [.ref a0, .ref a1, .ref a2, .ref a3, .ref a4, .ref a5, .ref a6, .ref a7, .int (Int32.ofInt 0)])) :: [(a0, .inl (cI, (12, .inl fun _ => Int32.ofInt 0))), (a1, .inl (cI, (12, .inl fun _ => Int32.ofInt 0))), (a2, .inl (cI, (12, .inl fun _ => Int32.ofInt 0))), (a3, .inl (cI, (12, .inl fun _ => Int32.ofInt 0))), (a4, .inl (cI, (12, .inl fun _ => Int32.ofInt 0))), (a5, .inl (cI, (12, .inl fun _ => Int32.ofInt 0))), (a6, .inl (cI, (12, .inl fun _ => Int32.ofInt 0))), (a7, .inl (cI, (1200, .inl fun _ => Int32.ofInt 0)))]) := hD
  have hP9 : va_P D cls9 (wc1 cI cZ cJ h0 (fun i => nt 0 [a0, a1, a2, a3, a4, a5, a6, a7] i)) H := hP
  have hD9 : va_D A (wc1 cI cZ cJ h0 (fun i => nt 0 [a0, a1, a2, a3, a4, a5, a6, a7] i)) := hD
  refine W.widen (k := 8) (n := 1284) (by omega) (by omega) ?_
  exact W.vret X.1 X.2.1 hr (fun t ht _ => ⟨⟨(fun i => nt 0 [a0, a1, a2, a3, a4, a5, a6, a7] i), rfl, trivial, (by rw [← ht] at hP9; exact hP9), (by rw [hAe]; exact hD9)⟩, by rw [hAe]; exact hS.F ht⟩) hS.2.2 diX1_74
def wc6 (cI cZ cJ : ClassId) (h0 : Nat) (u : Nat → Nat) : va_W := (h0, .inr (6, [.ref (u 0), .ref (u 1), .ref (u 2), .ref (u 3), .ref (u 4), .ref (u 5), .ref (u 6), .ref (u 7), .int (Int32.ofInt 0)])) :: [(u 0, .inl (cI, (12, .inl fun _ => Int32.ofInt 0))), (u 1, .inl (cI, (12, .inl fun _ => Int32.ofInt 0))), (u 2, .inl (cI, (12, .inl fun _ => Int32.ofInt 0))), (u 3, .inl (cI, (12, .inl fun _ => Int32.ofInt 0))), (u 4, .inl (cI, (120, .inl fun _ => Int32.ofInt 0))), (u 5, .inl (cI, (10, .inl fun _ => Int32.ofInt 0))), (u 6, .inl (cI, (120, .inl fun _ => Int32.ofInt 0))), (u 7, .inl (cI, (10, .inl fun _ => Int32.ofInt 0)))]
set_option maxHeartbeats 40000000 in
theorem mi6 (l : Launch) (D : va_G) (cI cZ cJ : ClassId) (h0 sz : Nat) : Met l yX6_init (Cond.code yX6_init cX6_init 1 none :: lw_ok) { frames := 1, cells := 8, slots := 308, locals := 12 } (Pci D cI cZ cJ h0 sz (.inr (6, [.null, .null, .null, .null, .null, .null, .null, .null, .int 0]))) (Qci D h0 sz (.inr (6, [.null, .null, .null, .null, .null, .null, .null, .null, .int 0])) (wc6 cI cZ cJ)) 8 308 (va_A [(h0, (.inr (6, [.null, .null, .null, .null, .null, .null, .null, .null, .int 0])))] sz) := by
  refine Met.ofW (cc := cX6_init) (maxL := 1) (ret := none) (by decide) rfl ?_
  intro p e s m args below meth c s₁ B hml hv
  obtain ⟨rfl, hsz, hP, hK, hD0, hns⟩ := hv
  have hr := B.returns
  have hlocks := B.notSynchronized
  have hts := atoms_spec (ws := Cond.code yX6_init cX6_init 1 none :: lw_ok) B.pre
  have X : Cy p s m _ meth c D cI cZ cJ cX6_init 6 := ⟨B.exec, B.bytes, hml, findClass_of_methodNamed B.named, fun w hw => hts w (List.mem_cons_of_mem _ hw), hK, (name_of_methodNamed B.named B.method).1, by decide, hns⟩
  subst hsz
  have hD := hD0.self (sz := s.heap.size)
  generalize hAe : va_A [(h0, (.inr (6, [.null, .null, .null, .null, .null, .null, .null, .null, .int 0]) : va_E))] s.heap.size = A at hD ⊢
  have hA : ∀ q : Nat, s.heap.size ≤ q → A q := fun q h => by rw [← hAe]; exact Or.inr h
  have hS : va_S A s.heap s.heap [] := va_S.rf
  have hl := lv_entry ([.ref h0]) (n := 1) (Nat.le_of_ble_eq_true rfl)
  rw [lg_entry_eq]
  generalize (lg_sl ([.ref h0]) ++ List.replicate (1 - (lg_sl ([.ref h0])).length) Slot.unset).toArray = ls at hl ⊢
  have hl : lv_has ls 1 [(0, .ref h0)] := hl
  refine lv_aload_n X.1 X.2.1 diX6_0 rfl (lv_at hl 0 rfl) ?_
  refine ct_obj (d := 180) X (by decide) hl.1 ⟨Nat.le_of_ble_eq_true rfl, Nat.le_of_ble_eq_true rfl⟩ diX6_1 ?_
  refine lv_aload_n X.1 X.2.1 diX6_4 rfl (lv_at hl 0 rfl) ?_
  refine lv_bipush (v := Int32.ofInt 12) X.1 X.2.1 diX6_5 bp_bipush_12 ?_
  refine ct_arr (ty := .int) (cA := cI) (t0 := 0) (N := 12) (a0 := (12, .inl fun _ => Int32.ofInt 0)) (d := 181) (k := 0) X (List.mem_of_getElem? (i := 58) rfl) (Nat.le_of_ble_eq_true rfl) rfl rfl rfl rfl (by simp) rfl (at_in arI rfl) a0I sz_12.1 sz_12.2 cbI_12 (by show _ ≤ (8 : Nat); omega) (by show _ ≤ (308 : Nat); omega) hA diX6_7 diX6_9 (Nat.le_of_ble_eq_true rfl) hP hD hS (fun a0 H locs hP hD hS => ?_)
  have hP : va_P D cls9 ((h0, .inr (6, [.ref a0, .null, .null, .null, .null, .null, .null, .null, .int 0])) :: [(a0, .inl (cI, (12, .inl fun _ => Int32.ofInt 0)))]) H := hP
  have hD : va_D A ((h0, .inr (6, [.ref a0, .null, .null, .null, .null, .null, .null, .null, .int 0])) :: [(a0, .inl (cI, (12, .inl fun _ => Int32.ofInt 0)))]) := hD
  refine lv_aload_n X.1 X.2.1 diX6_12 rfl (lv_at hl 0 rfl) ?_
  refine lv_bipush (v := Int32.ofInt 12) X.1 X.2.1 diX6_13 bp_bipush_12 ?_
  refine ct_arr (ty := .int) (cA := cI) (t0 := 0) (N := 12) (a0 := (12, .inl fun _ => Int32.ofInt 0)) (d := 183) (k := 1) X (List.mem_of_getElem? (i := 50) rfl) (Nat.le_of_ble_eq_true rfl) rfl rfl rfl rfl (by simp) rfl (at_in arI rfl) a0I sz_12.1 sz_12.2 cbI_12 (by show _ ≤ (8 : Nat); omega) (by show _ ≤ (308 : Nat); omega) hA diX6_15 diX6_17 (Nat.le_of_ble_eq_true rfl) hP hD hS (fun a1 H locs hP hD hS => ?_)
  have hP : va_P D cls9 ((h0, .inr (6, [.ref a0, .ref a1, .null, .null, .null, .null, .null, .null, .int 0])) :: [(a0, .inl (cI, (12, .inl fun _ => Int32.ofInt 0))), (a1, .inl (cI, (12, .inl fun _ => Int32.ofInt 0)))]) H := hP
  have hD : va_D A ((h0, .inr (6, [.ref a0, .ref a1, .null, .null, .null, .null, .null, .null, .int 0])) :: [(a0, .inl (cI, (12, .inl fun _ => Int32.ofInt 0))), (a1, .inl (cI, (12, .inl fun _ => Int32.ofInt 0)))]) := hD
  refine lv_aload_n X.1 X.2.1 diX6_20 rfl (lv_at hl 0 rfl) ?_
  refine lv_bipush (v := Int32.ofInt 12) X.1 X.2.1 diX6_21 bp_bipush_12 ?_
  refine ct_arr (ty := .int) (cA := cI) (t0 := 0) (N := 12) (a0 := (12, .inl fun _ => Int32.ofInt 0)) (d := 185) (k := 2) X (List.mem_of_getElem? (i := 51) rfl) (Nat.le_of_ble_eq_true rfl) rfl rfl rfl rfl (by simp) rfl (at_in arI rfl) a0I sz_12.1 sz_12.2 cbI_12 (by show _ ≤ (8 : Nat); omega) (by show _ ≤ (308 : Nat); omega) hA diX6_23 diX6_25 (Nat.le_of_ble_eq_true rfl) hP hD hS (fun a2 H locs hP hD hS => ?_)
  have hP : va_P D cls9 ((h0, .inr (6, [.ref a0, .ref a1, .ref a2, .null, .null, .null, .null, .null, .int 0])) :: [(a0, .inl (cI, (12, .inl fun _ => Int32.ofInt 0))), (a1, .inl (cI, (12, .inl fun _ => Int32.ofInt 0))), (a2, .inl (cI, (12, .inl fun _ => Int32.ofInt 0)))]) H := hP
  have hD : va_D A ((h0, .inr (6, [.ref a0, .ref a1, .ref a2, .null, .null, .null, .null, .null, .int 0])) :: [(a0, .inl (cI, (12, .inl fun _ => Int32.ofInt 0))), (a1, .inl (cI, (12, .inl fun _ => Int32.ofInt 0))), (a2, .inl (cI, (12, .inl fun _ => Int32.ofInt 0)))]) := hD
  refine lv_aload_n X.1 X.2.1 diX6_28 rfl (lv_at hl 0 rfl) ?_
  refine lv_bipush (v := Int32.ofInt 12) X.1 X.2.1 diX6_29 bp_bipush_12 ?_
  refine ct_arr (ty := .int) (cA := cI) (t0 := 0) (N := 12) (a0 := (12, .inl fun _ => Int32.ofInt 0)) (d := 187) (k := 3) X (List.mem_of_getElem? (i := 52) rfl) (Nat.le_of_ble_eq_true rfl) rfl rfl rfl rfl (by simp) rfl (at_in arI rfl) a0I sz_12.1 sz_12.2 cbI_12 (by show _ ≤ (8 : Nat); omega) (by show _ ≤ (308 : Nat); omega) hA diX6_31 diX6_33 (Nat.le_of_ble_eq_true rfl) hP hD hS (fun a3 H locs hP hD hS => ?_)
  have hP : va_P D cls9 ((h0, .inr (6, [.ref a0, .ref a1, .ref a2, .ref a3, .null, .null, .null, .null, .int 0])) :: [(a0, .inl (cI, (12, .inl fun _ => Int32.ofInt 0))), (a1, .inl (cI, (12, .inl fun _ => Int32.ofInt 0))), (a2, .inl (cI, (12, .inl fun _ => Int32.ofInt 0))), (a3, .inl (cI, (12, .inl fun _ => Int32.ofInt 0)))]) H := hP
  have hD : va_D A ((h0, .inr (6, [.ref a0, .ref a1, .ref a2, .ref a3, .null, .null, .null, .null, .int 0])) :: [(a0, .inl (cI, (12, .inl fun _ => Int32.ofInt 0))), (a1, .inl (cI, (12, .inl fun _ => Int32.ofInt 0))), (a2, .inl (cI, (12, .inl fun _ => Int32.ofInt 0))), (a3, .inl (cI, (12, .inl fun _ => Int32.ofInt 0)))]) := hD
  refine lv_aload_n X.1 X.2.1 diX6_36 rfl (lv_at hl 0 rfl) ?_
  refine lv_bipush (v := Int32.ofInt 120) X.1 X.2.1 diX6_37 bp_bipush_120 ?_
  refine ct_arr (ty := .int) (cA := cI) (t0 := 0) (N := 120) (a0 := (120, .inl fun _ => Int32.ofInt 0)) (d := 189) (k := 4) X (List.mem_of_getElem? (i := 53) rfl) (Nat.le_of_ble_eq_true rfl) rfl rfl rfl rfl (by simp) rfl (at_in arI rfl) a0I sz_120.1 sz_120.2 cbI_120 (by show _ ≤ (8 : Nat); omega) (by show _ ≤ (308 : Nat); omega) hA diX6_39 diX6_41 (Nat.le_of_ble_eq_true rfl) hP hD hS (fun a4 H locs hP hD hS => ?_)
  have hP : va_P D cls9 ((h0, .inr (6, [.ref a0, .ref a1, .ref a2, .ref a3, .ref a4, .null, .null, .null, .int 0])) :: [(a0, .inl (cI, (12, .inl fun _ => Int32.ofInt 0))), (a1, .inl (cI, (12, .inl fun _ => Int32.ofInt 0))), (a2, .inl (cI, (12, .inl fun _ => Int32.ofInt 0))), (a3, .inl (cI, (12, .inl fun _ => Int32.ofInt 0))), (a4, .inl (cI, (120, .inl fun _ => Int32.ofInt 0)))]) H := hP
  have hD : va_D A ((h0, .inr (6, [.ref a0, .ref a1, .ref a2, .ref a3, .ref a4, .null, .null, .null, .int 0])) :: [(a0, .inl (cI, (12, .inl fun _ => Int32.ofInt 0))), (a1, .inl (cI, (12, .inl fun _ => Int32.ofInt 0))), (a2, .inl (cI, (12, .inl fun _ => Int32.ofInt 0))), (a3, .inl (cI, (12, .inl fun _ => Int32.ofInt 0))), (a4, .inl (cI, (120, .inl fun _ => Int32.ofInt 0)))]) := hD
  refine lv_aload_n X.1 X.2.1 diX6_44 rfl (lv_at hl 0 rfl) ?_
  refine lv_bipush (v := Int32.ofInt 10) X.1 X.2.1 diX6_45 bp_bipush_10 ?_
  refine ct_arr (ty := .int) (cA := cI) (t0 := 0) (N := 10) (a0 := (10, .inl fun _ => Int32.ofInt 0)) (d := 191) (k := 5) X (List.mem_of_getElem? (i := 54) rfl) (Nat.le_of_ble_eq_true rfl) rfl rfl rfl rfl (by simp) rfl (at_in arI rfl) a0I sz_10.1 sz_10.2 cbI_10 (by show _ ≤ (8 : Nat); omega) (by show _ ≤ (308 : Nat); omega) hA diX6_47 diX6_49 (Nat.le_of_ble_eq_true rfl) hP hD hS (fun a5 H locs hP hD hS => ?_)
  have hP : va_P D cls9 ((h0, .inr (6, [.ref a0, .ref a1, .ref a2, .ref a3, .ref a4, .ref a5, .null, .null, .int 0])) :: [(a0, .inl (cI, (12, .inl fun _ => Int32.ofInt 0))), (a1, .inl (cI, (12, .inl fun _ => Int32.ofInt 0))), (a2, .inl (cI, (12, .inl fun _ => Int32.ofInt 0))), (a3, .inl (cI, (12, .inl fun _ => Int32.ofInt 0))), (a4, .inl (cI, (120, .inl fun _ => Int32.ofInt 0))), (a5, .inl (cI, (10, .inl fun _ => Int32.ofInt 0)))]) H := hP
  have hD : va_D A ((h0, .inr (6, [.ref a0, .ref a1, .ref a2, .ref a3, .ref a4, .ref a5, .null, .null, .int 0])) :: [(a0, .inl (cI, (12, .inl fun _ => Int32.ofInt 0))), (a1, .inl (cI, (12, .inl fun _ => Int32.ofInt 0))), (a2, .inl (cI, (12, .inl fun _ => Int32.ofInt 0))), (a3, .inl (cI, (12, .inl fun _ => Int32.ofInt 0))), (a4, .inl (cI, (120, .inl fun _ => Int32.ofInt 0))), (a5, .inl (cI, (10, .inl fun _ => Int32.ofInt 0)))]) := hD
  refine lv_aload_n X.1 X.2.1 diX6_52 rfl (lv_at hl 0 rfl) ?_
  refine lv_bipush (v := Int32.ofInt 120) X.1 X.2.1 diX6_53 bp_bipush_120 ?_
  refine ct_arr (ty := .int) (cA := cI) (t0 := 0) (N := 120) (a0 := (120, .inl fun _ => Int32.ofInt 0)) (d := 193) (k := 6) X (List.mem_of_getElem? (i := 55) rfl) (Nat.le_of_ble_eq_true rfl) rfl rfl rfl rfl (by simp) rfl (at_in arI rfl) a0I sz_120.1 sz_120.2 cbI_120 (by show _ ≤ (8 : Nat); omega) (by show _ ≤ (308 : Nat); omega) hA diX6_55 diX6_57 (Nat.le_of_ble_eq_true rfl) hP hD hS (fun a6 H locs hP hD hS => ?_)
  have hP : va_P D cls9 ((h0, .inr (6, [.ref a0, .ref a1, .ref a2, .ref a3, .ref a4, .ref a5, .ref a6, .null, .int 0])) :: [(a0, .inl (cI, (12, .inl fun _ => Int32.ofInt 0))), (a1, .inl (cI, (12, .inl fun _ => Int32.ofInt 0))), (a2, .inl (cI, (12, .inl fun _ => Int32.ofInt 0))), (a3, .inl (cI, (12, .inl fun _ => Int32.ofInt 0))), (a4, .inl (cI, (120, .inl fun _ => Int32.ofInt 0))), (a5, .inl (cI, (10, .inl fun _ => Int32.ofInt 0))), (a6, .inl (cI, (120, .inl fun _ => Int32.ofInt 0)))]) H := hP
  have hD : va_D A ((h0, .inr (6, [.ref a0, .ref a1, .ref a2, .ref a3, .ref a4, .ref a5, .ref a6, .null, .int 0])) :: [(a0, .inl (cI, (12, .inl fun _ => Int32.ofInt 0))), (a1, .inl (cI, (12, .inl fun _ => Int32.ofInt 0))), (a2, .inl (cI, (12, .inl fun _ => Int32.ofInt 0))), (a3, .inl (cI, (12, .inl fun _ => Int32.ofInt 0))), (a4, .inl (cI, (120, .inl fun _ => Int32.ofInt 0))), (a5, .inl (cI, (10, .inl fun _ => Int32.ofInt 0))), (a6, .inl (cI, (120, .inl fun _ => Int32.ofInt 0)))]) := hD
  refine lv_aload_n X.1 X.2.1 diX6_60 rfl (lv_at hl 0 rfl) ?_
  refine lv_bipush (v := Int32.ofInt 10) X.1 X.2.1 diX6_61 bp_bipush_10 ?_
  refine ct_arr (ty := .int) (cA := cI) (t0 := 0) (N := 10) (a0 := (10, .inl fun _ => Int32.ofInt 0)) (d := 195) (k := 7) X (List.mem_of_getElem? (i := 56) rfl) (Nat.le_of_ble_eq_true rfl) rfl rfl rfl rfl (by simp) rfl (at_in arI rfl) a0I sz_10.1 sz_10.2 cbI_10 (by show _ ≤ (8 : Nat); omega) (by show _ ≤ (308 : Nat); omega) hA diX6_63 diX6_65 (Nat.le_of_ble_eq_true rfl) hP hD hS (fun a7 H locs hP hD hS => ?_)
  have hP : va_P D cls9 ((h0, .inr (6, [.ref a0, .ref a1, .ref a2, .ref a3, .ref a4, .ref a5, .ref a6, .ref a7, .int 0])) :: [(a0, .inl (cI, (12, .inl fun _ => Int32.ofInt 0))), (a1, .inl (cI, (12, .inl fun _ => Int32.ofInt 0))), (a2, .inl (cI, (12, .inl fun _ => Int32.ofInt 0))), (a3, .inl (cI, (12, .inl fun _ => Int32.ofInt 0))), (a4, .inl (cI, (120, .inl fun _ => Int32.ofInt 0))), (a5, .inl (cI, (10, .inl fun _ => Int32.ofInt 0))), (a6, .inl (cI, (120, .inl fun _ => Int32.ofInt 0))), (a7, .inl (cI, (10, .inl fun _ => Int32.ofInt 0)))]) H := hP
  have hD : va_D A ((h0, .inr (6, [.ref a0, .ref a1, .ref a2, .ref a3, .ref a4, .ref a5, .ref a6, .ref a7, .int 0])) :: [(a0, .inl (cI, (12, .inl fun _ => Int32.ofInt 0))), (a1, .inl (cI, (12, .inl fun _ => Int32.ofInt 0))), (a2, .inl (cI, (12, .inl fun _ => Int32.ofInt 0))), (a3, .inl (cI, (12, .inl fun _ => Int32.ofInt 0))), (a4, .inl (cI, (120, .inl fun _ => Int32.ofInt 0))), (a5, .inl (cI, (10, .inl fun _ => Int32.ofInt 0))), (a6, .inl (cI, (120, .inl fun _ => Int32.ofInt 0))), (a7, .inl (cI, (10, .inl fun _ => Int32.ofInt 0)))]) := hD
  refine lv_aload_n X.1 X.2.1 diX6_68 rfl (lv_at hl 0 rfl) ?_
  refine lv_iconst (v := Int32.ofInt 0) X.1 X.2.1 diX6_69 bp_iconst_0 ?_
  refine ct_int (d := 197) (k := 8) X (List.mem_of_getElem? (i := 57) rfl) (Nat.le_of_ble_eq_true rfl) rfl (by first | rfl | exact i_zn (Or.inl rfl)) (by first | rfl | decide) diX6_70 (Nat.le_of_ble_eq_true rfl) hP hD hS (fun H locs hP hD hS => ?_)
  have hP : va_P D cls9 ((h0, .inr (6, [.ref a0, .ref a1, .ref a2, .ref a3, .ref a4, .ref a5, .ref a6, .ref a7, .int (Int32.ofInt 0)])) :: [(a0, .inl (cI, (12, .inl fun _ => Int32.ofInt 0))), (a1, .inl (cI, (12, .inl fun _ => Int32.ofInt 0))), (a2, .inl (cI, (12, .inl fun _ => Int32.ofInt 0))), (a3, .inl (cI, (12, .inl fun _ => Int32.ofInt 0))), (a4, .inl (cI, (120, .inl fun _ => Int32.ofInt 0))), (a5, .inl (cI, (10, .inl fun _ => Int32.ofInt 0))), (a6, .inl (cI, (120, .inl fun _ => Int32.ofInt 0))), (a7, .inl (cI, (10, .inl fun _ => Int32.ofInt 0)))]) H := hP
  have hD : va_D A ((h0, .inr (6, [.ref a0, .ref a1, .ref a2, .ref a3, .ref a4, .ref a5, .ref a6, .ref a7, .int (Int32.ofInt 0)])) :: [(a0, .inl (cI, (12, .inl fun _ => Int32.ofInt 0))), (a1, .inl (cI, (12, .inl fun _ => Int32.ofInt 0))), (a2, .inl (cI, (12, .inl fun _ => Int32.ofInt 0))), (a3, .inl (cI, (12, .inl fun _ => Int32.ofInt 0))), (a4, .inl (cI, (120, .inl fun _ => Int32.ofInt 0))), (a5, .inl (cI, (10, .inl fun _ => Int32.ofInt 0))), (a6, .inl (cI, (120, .inl fun _ => Int32.ofInt 0))), (a7, .inl (cI, (10, .inl fun _ => Int32.ofInt 0)))]) := hD
  have hP9 : va_P D cls9 (wc6 cI cZ cJ h0 (fun i => nt 0 [a0, a1, a2, a3, a4, a5, a6, a7] i)) H := hP
  have hD9 : va_D A (wc6 cI cZ cJ h0 (fun i => nt 0 [a0, a1, a2, a3, a4, a5, a6, a7] i)) := hD
  refine W.widen (k := 8) (n := 308) (by omega) (by omega) ?_
  exact W.vret X.1 X.2.1 hr (fun t ht _ => ⟨⟨(fun i => nt 0 [a0, a1, a2, a3, a4, a5, a6, a7] i), rfl, trivial, (by rw [← ht] at hP9; exact hP9), (by rw [hAe]; exact hD9)⟩, by rw [hAe]; exact hS.F ht⟩) hS.2.2 diX6_73
def wc5 (cI cZ cJ : ClassId) (h0 : Nat) (u : Nat → Nat) : va_W := (h0, .inr (5, [.ref (u 0), .ref (u 1), .ref (u 2), .int (Int32.ofInt 0)])) :: [(u 0, .inl (cI, (100, .inl fun _ => Int32.ofInt 0))), (u 1, .inl (cI, (100, .inl fun _ => Int32.ofInt 0))), (u 2, .inl (cI, (100, .inl fun _ => Int32.ofInt 0)))]
set_option maxHeartbeats 40000000 in
theorem mi5 (l : Launch) (D : va_G) (cI cZ cJ : ClassId) (h0 sz : Nat) : Met l yX5_init (Cond.code yX5_init cX5_init 1 none :: lw_ok) { frames := 1, cells := 3, slots := 300, locals := 12 } (Pci D cI cZ cJ h0 sz (.inr (5, [.null, .null, .null, .int 0]))) (Qci D h0 sz (.inr (5, [.null, .null, .null, .int 0])) (wc5 cI cZ cJ)) 3 300 (va_A [(h0, (.inr (5, [.null, .null, .null, .int 0])))] sz) := by
  refine Met.ofW (cc := cX5_init) (maxL := 1) (ret := none) (by decide) rfl ?_
  intro p e s m args below meth c s₁ B hml hv
  obtain ⟨rfl, hsz, hP, hK, hD0, hns⟩ := hv
  have hr := B.returns
  have hlocks := B.notSynchronized
  have hts := atoms_spec (ws := Cond.code yX5_init cX5_init 1 none :: lw_ok) B.pre
  have X : Cy p s m _ meth c D cI cZ cJ cX5_init 5 := ⟨B.exec, B.bytes, hml, findClass_of_methodNamed B.named, fun w hw => hts w (List.mem_cons_of_mem _ hw), hK, (name_of_methodNamed B.named B.method).1, by decide, hns⟩
  subst hsz
  have hD := hD0.self (sz := s.heap.size)
  generalize hAe : va_A [(h0, (.inr (5, [.null, .null, .null, .int 0]) : va_E))] s.heap.size = A at hD ⊢
  have hA : ∀ q : Nat, s.heap.size ≤ q → A q := fun q h => by rw [← hAe]; exact Or.inr h
  have hS : va_S A s.heap s.heap [] := va_S.rf
  have hl := lv_entry ([.ref h0]) (n := 1) (Nat.le_of_ble_eq_true rfl)
  rw [lg_entry_eq]
  generalize (lg_sl ([.ref h0]) ++ List.replicate (1 - (lg_sl ([.ref h0])).length) Slot.unset).toArray = ls at hl ⊢
  have hl : lv_has ls 1 [(0, .ref h0)] := hl
  refine lv_aload_n X.1 X.2.1 diX5_0 rfl (lv_at hl 0 rfl) ?_
  refine ct_obj (d := 224) X (by decide) hl.1 ⟨Nat.le_of_ble_eq_true rfl, Nat.le_of_ble_eq_true rfl⟩ diX5_1 ?_
  refine lv_aload_n X.1 X.2.1 diX5_4 rfl (lv_at hl 0 rfl) ?_
  refine lv_bipush (v := Int32.ofInt 100) X.1 X.2.1 diX5_5 bp_bipush_100 ?_
  refine ct_arr (ty := .int) (cA := cI) (t0 := 0) (N := 100) (a0 := (100, .inl fun _ => Int32.ofInt 0)) (d := 225) (k := 0) X (List.mem_of_getElem? (i := 49) rfl) (Nat.le_of_ble_eq_true rfl) rfl rfl rfl rfl (by simp) rfl (at_in arI rfl) a0I sz_100.1 sz_100.2 cbI_100 (by show _ ≤ (3 : Nat); omega) (by show _ ≤ (300 : Nat); omega) hA diX5_7 diX5_9 (Nat.le_of_ble_eq_true rfl) hP hD hS (fun a0 H locs hP hD hS => ?_)
  have hP : va_P D cls9 ((h0, .inr (5, [.ref a0, .null, .null, .int 0])) :: [(a0, .inl (cI, (100, .inl fun _ => Int32.ofInt 0)))]) H := hP
  have hD : va_D A ((h0, .inr (5, [.ref a0, .null, .null, .int 0])) :: [(a0, .inl (cI, (100, .inl fun _ => Int32.ofInt 0)))]) := hD
  refine lv_aload_n X.1 X.2.1 diX5_12 rfl (lv_at hl 0 rfl) ?_
  refine lv_bipush (v := Int32.ofInt 100) X.1 X.2.1 diX5_13 bp_bipush_100 ?_
  refine ct_arr (ty := .int) (cA := cI) (t0 := 0) (N := 100) (a0 := (100, .inl fun _ => Int32.ofInt 0)) (d := 226) (k := 1) X (List.mem_of_getElem? (i := 46) rfl) (Nat.le_of_ble_eq_true rfl) rfl rfl rfl rfl (by simp) rfl (at_in arI rfl) a0I sz_100.1 sz_100.2 cbI_100 (by show _ ≤ (3 : Nat); omega) (by show _ ≤ (300 : Nat); omega) hA diX5_15 diX5_17 (Nat.le_of_ble_eq_true rfl) hP hD hS (fun a1 H locs hP hD hS => ?_)
  have hP : va_P D cls9 ((h0, .inr (5, [.ref a0, .ref a1, .null, .int 0])) :: [(a0, .inl (cI, (100, .inl fun _ => Int32.ofInt 0))), (a1, .inl (cI, (100, .inl fun _ => Int32.ofInt 0)))]) H := hP
  have hD : va_D A ((h0, .inr (5, [.ref a0, .ref a1, .null, .int 0])) :: [(a0, .inl (cI, (100, .inl fun _ => Int32.ofInt 0))), (a1, .inl (cI, (100, .inl fun _ => Int32.ofInt 0)))]) := hD
  refine lv_aload_n X.1 X.2.1 diX5_20 rfl (lv_at hl 0 rfl) ?_
  refine lv_bipush (v := Int32.ofInt 100) X.1 X.2.1 diX5_21 bp_bipush_100 ?_
  refine ct_arr (ty := .int) (cA := cI) (t0 := 0) (N := 100) (a0 := (100, .inl fun _ => Int32.ofInt 0)) (d := 227) (k := 2) X (List.mem_of_getElem? (i := 47) rfl) (Nat.le_of_ble_eq_true rfl) rfl rfl rfl rfl (by simp) rfl (at_in arI rfl) a0I sz_100.1 sz_100.2 cbI_100 (by show _ ≤ (3 : Nat); omega) (by show _ ≤ (300 : Nat); omega) hA diX5_23 diX5_25 (Nat.le_of_ble_eq_true rfl) hP hD hS (fun a2 H locs hP hD hS => ?_)
  have hP : va_P D cls9 ((h0, .inr (5, [.ref a0, .ref a1, .ref a2, .int 0])) :: [(a0, .inl (cI, (100, .inl fun _ => Int32.ofInt 0))), (a1, .inl (cI, (100, .inl fun _ => Int32.ofInt 0))), (a2, .inl (cI, (100, .inl fun _ => Int32.ofInt 0)))]) H := hP
  have hD : va_D A ((h0, .inr (5, [.ref a0, .ref a1, .ref a2, .int 0])) :: [(a0, .inl (cI, (100, .inl fun _ => Int32.ofInt 0))), (a1, .inl (cI, (100, .inl fun _ => Int32.ofInt 0))), (a2, .inl (cI, (100, .inl fun _ => Int32.ofInt 0)))]) := hD
  refine lv_aload_n X.1 X.2.1 diX5_28 rfl (lv_at hl 0 rfl) ?_
  refine lv_iconst (v := Int32.ofInt 0) X.1 X.2.1 diX5_29 bp_iconst_0 ?_
  refine ct_int (d := 228) (k := 3) X (List.mem_of_getElem? (i := 48) rfl) (Nat.le_of_ble_eq_true rfl) rfl (by first | rfl | exact i_zn (Or.inl rfl)) (by first | rfl | decide) diX5_30 (Nat.le_of_ble_eq_true rfl) hP hD hS (fun H locs hP hD hS => ?_)
  have hP : va_P D cls9 ((h0, .inr (5, [.ref a0, .ref a1, .ref a2, .int (Int32.ofInt 0)])) :: [(a0, .inl (cI, (100, .inl fun _ => Int32.ofInt 0))), (a1, .inl (cI, (100, .inl fun _ => Int32.ofInt 0))), (a2, .inl (cI, (100, .inl fun _ => Int32.ofInt 0)))]) H := hP
  have hD : va_D A ((h0, .inr (5, [.ref a0, .ref a1, .ref a2, .int (Int32.ofInt 0)])) :: [(a0, .inl (cI, (100, .inl fun _ => Int32.ofInt 0))), (a1, .inl (cI, (100, .inl fun _ => Int32.ofInt 0))), (a2, .inl (cI, (100, .inl fun _ => Int32.ofInt 0)))]) := hD
  have hP9 : va_P D cls9 (wc5 cI cZ cJ h0 (fun i => nt 0 [a0, a1, a2] i)) H := hP
  have hD9 : va_D A (wc5 cI cZ cJ h0 (fun i => nt 0 [a0, a1, a2] i)) := hD
  refine W.widen (k := 3) (n := 300) (by omega) (by omega) ?_
  exact W.vret X.1 X.2.1 hr (fun t ht _ => ⟨⟨(fun i => nt 0 [a0, a1, a2] i), rfl, trivial, (by rw [← ht] at hP9; exact hP9), (by rw [hAe]; exact hD9)⟩, by rw [hAe]; exact hS.F ht⟩) hS.2.2 diX5_33
def wc3 (cI cZ cJ : ClassId) (h0 : Nat) (u : Nat → Nat) : va_W := (h0, .inr (3, [.ref (u 0), .ref (u 1), .int (Int32.ofInt 0), .int (Int32.ofInt 0), .int (Int32.ofInt 0), .int (Int32.ofInt 0)])) :: [(u 0, .inl (cI, (10, .inl fun _ => Int32.ofInt 0))), (u 1, .inl (cI, (12, .inl fun _ => Int32.ofInt 0)))]
set_option maxHeartbeats 40000000 in
theorem mi3 (l : Launch) (D : va_G) (cI cZ cJ : ClassId) (h0 sz : Nat) : Met l yX3_init (Cond.code yX3_init cX3_init 1 none :: lw_ok) { frames := 1, cells := 2, slots := 22, locals := 12 } (Pci D cI cZ cJ h0 sz (.inr (3, [.null, .null, .int 0, .int 0, .int 0, .int 0]))) (Qci D h0 sz (.inr (3, [.null, .null, .int 0, .int 0, .int 0, .int 0])) (wc3 cI cZ cJ)) 2 22 (va_A [(h0, (.inr (3, [.null, .null, .int 0, .int 0, .int 0, .int 0])))] sz) := by
  refine Met.ofW (cc := cX3_init) (maxL := 1) (ret := none) (by decide) rfl ?_
  intro p e s m args below meth c s₁ B hml hv
  obtain ⟨rfl, hsz, hP, hK, hD0, hns⟩ := hv
  have hr := B.returns
  have hlocks := B.notSynchronized
  have hts := atoms_spec (ws := Cond.code yX3_init cX3_init 1 none :: lw_ok) B.pre
  have X : Cy p s m _ meth c D cI cZ cJ cX3_init 3 := ⟨B.exec, B.bytes, hml, findClass_of_methodNamed B.named, fun w hw => hts w (List.mem_cons_of_mem _ hw), hK, (name_of_methodNamed B.named B.method).1, by decide, hns⟩
  subst hsz
  have hD := hD0.self (sz := s.heap.size)
  generalize hAe : va_A [(h0, (.inr (3, [.null, .null, .int 0, .int 0, .int 0, .int 0]) : va_E))] s.heap.size = A at hD ⊢
  have hA : ∀ q : Nat, s.heap.size ≤ q → A q := fun q h => by rw [← hAe]; exact Or.inr h
  have hS : va_S A s.heap s.heap [] := va_S.rf
  have hl := lv_entry ([.ref h0]) (n := 1) (Nat.le_of_ble_eq_true rfl)
  rw [lg_entry_eq]
  generalize (lg_sl ([.ref h0]) ++ List.replicate (1 - (lg_sl ([.ref h0])).length) Slot.unset).toArray = ls at hl ⊢
  have hl : lv_has ls 1 [(0, .ref h0)] := hl
  refine lv_aload_n X.1 X.2.1 diX3_0 rfl (lv_at hl 0 rfl) ?_
  refine ct_obj (d := 243) X (by decide) hl.1 ⟨Nat.le_of_ble_eq_true rfl, Nat.le_of_ble_eq_true rfl⟩ diX3_1 ?_
  refine lv_aload_n X.1 X.2.1 diX3_4 rfl (lv_at hl 0 rfl) ?_
  refine lv_bipush (v := Int32.ofInt 10) X.1 X.2.1 diX3_5 bp_bipush_10 ?_
  refine ct_arr (ty := .int) (cA := cI) (t0 := 0) (N := 10) (a0 := (10, .inl fun _ => Int32.ofInt 0)) (d := 244) (k := 0) X (List.mem_of_getElem? (i := 42) rfl) (Nat.le_of_ble_eq_true rfl) rfl rfl rfl rfl (by simp) rfl (at_in arI rfl) a0I sz_10.1 sz_10.2 cbI_10 (by show _ ≤ (2 : Nat); omega) (by show _ ≤ (22 : Nat); omega) hA diX3_7 diX3_9 (Nat.le_of_ble_eq_true rfl) hP hD hS (fun a0 H locs hP hD hS => ?_)
  have hP : va_P D cls9 ((h0, .inr (3, [.ref a0, .null, .int 0, .int 0, .int 0, .int 0])) :: [(a0, .inl (cI, (10, .inl fun _ => Int32.ofInt 0)))]) H := hP
  have hD : va_D A ((h0, .inr (3, [.ref a0, .null, .int 0, .int 0, .int 0, .int 0])) :: [(a0, .inl (cI, (10, .inl fun _ => Int32.ofInt 0)))]) := hD
  refine lv_aload_n X.1 X.2.1 diX3_12 rfl (lv_at hl 0 rfl) ?_
  refine lv_bipush (v := Int32.ofInt 12) X.1 X.2.1 diX3_13 bp_bipush_12 ?_
  refine ct_arr (ty := .int) (cA := cI) (t0 := 0) (N := 12) (a0 := (12, .inl fun _ => Int32.ofInt 0)) (d := 247) (k := 1) X (List.mem_of_getElem? (i := 37) rfl) (Nat.le_of_ble_eq_true rfl) rfl rfl rfl rfl (by simp) rfl (at_in arI rfl) a0I sz_12.1 sz_12.2 cbI_12 (by show _ ≤ (2 : Nat); omega) (by show _ ≤ (22 : Nat); omega) hA diX3_15 diX3_17 (Nat.le_of_ble_eq_true rfl) hP hD hS (fun a1 H locs hP hD hS => ?_)
  have hP : va_P D cls9 ((h0, .inr (3, [.ref a0, .ref a1, .int 0, .int 0, .int 0, .int 0])) :: [(a0, .inl (cI, (10, .inl fun _ => Int32.ofInt 0))), (a1, .inl (cI, (12, .inl fun _ => Int32.ofInt 0)))]) H := hP
  have hD : va_D A ((h0, .inr (3, [.ref a0, .ref a1, .int 0, .int 0, .int 0, .int 0])) :: [(a0, .inl (cI, (10, .inl fun _ => Int32.ofInt 0))), (a1, .inl (cI, (12, .inl fun _ => Int32.ofInt 0)))]) := hD
  refine lv_aload_n X.1 X.2.1 diX3_20 rfl (lv_at hl 0 rfl) ?_
  refine lv_iconst (v := Int32.ofInt 0) X.1 X.2.1 diX3_21 bp_iconst_0 ?_
  refine ct_int (d := 249) (k := 2) X (List.mem_of_getElem? (i := 38) rfl) (Nat.le_of_ble_eq_true rfl) rfl (by first | rfl | exact i_zn (Or.inl rfl)) (by first | rfl | decide) diX3_22 (Nat.le_of_ble_eq_true rfl) hP hD hS (fun H locs hP hD hS => ?_)
  have hP : va_P D cls9 ((h0, .inr (3, [.ref a0, .ref a1, .int (Int32.ofInt 0), .int 0, .int 0, .int 0])) :: [(a0, .inl (cI, (10, .inl fun _ => Int32.ofInt 0))), (a1, .inl (cI, (12, .inl fun _ => Int32.ofInt 0)))]) H := hP
  have hD : va_D A ((h0, .inr (3, [.ref a0, .ref a1, .int (Int32.ofInt 0), .int 0, .int 0, .int 0])) :: [(a0, .inl (cI, (10, .inl fun _ => Int32.ofInt 0))), (a1, .inl (cI, (12, .inl fun _ => Int32.ofInt 0)))]) := hD
  refine lv_aload_n X.1 X.2.1 diX3_25 rfl (lv_at hl 0 rfl) ?_
  refine lv_iconst (v := Int32.ofInt 0) X.1 X.2.1 diX3_26 bp_iconst_0 ?_
  refine ct_int (d := 252) (k := 3) X (List.mem_of_getElem? (i := 39) rfl) (Nat.le_of_ble_eq_true rfl) rfl (by first | rfl | exact i_zn (Or.inl rfl)) (by first | rfl | decide) diX3_27 (Nat.le_of_ble_eq_true rfl) hP hD hS (fun H locs hP hD hS => ?_)
  have hP : va_P D cls9 ((h0, .inr (3, [.ref a0, .ref a1, .int (Int32.ofInt 0), .int (Int32.ofInt 0), .int 0, .int 0])) :: [(a0, .inl (cI, (10, .inl fun _ => Int32.ofInt 0))), (a1, .inl (cI, (12, .inl fun _ => Int32.ofInt 0)))]) H := hP
  have hD : va_D A ((h0, .inr (3, [.ref a0, .ref a1, .int (Int32.ofInt 0), .int (Int32.ofInt 0), .int 0, .int 0])) :: [(a0, .inl (cI, (10, .inl fun _ => Int32.ofInt 0))), (a1, .inl (cI, (12, .inl fun _ => Int32.ofInt 0)))]) := hD
  refine lv_aload_n X.1 X.2.1 diX3_30 rfl (lv_at hl 0 rfl) ?_
  refine lv_iconst (v := Int32.ofInt 0) X.1 X.2.1 diX3_31 bp_iconst_0 ?_
  refine ct_int (d := 254) (k := 4) X (List.mem_of_getElem? (i := 40) rfl) (Nat.le_of_ble_eq_true rfl) rfl (by first | rfl | exact i_zn (Or.inl rfl)) (by first | rfl | decide) diX3_32 (Nat.le_of_ble_eq_true rfl) hP hD hS (fun H locs hP hD hS => ?_)
  have hP : va_P D cls9 ((h0, .inr (3, [.ref a0, .ref a1, .int (Int32.ofInt 0), .int (Int32.ofInt 0), .int (Int32.ofInt 0), .int 0])) :: [(a0, .inl (cI, (10, .inl fun _ => Int32.ofInt 0))), (a1, .inl (cI, (12, .inl fun _ => Int32.ofInt 0)))]) H := hP
  have hD : va_D A ((h0, .inr (3, [.ref a0, .ref a1, .int (Int32.ofInt 0), .int (Int32.ofInt 0), .int (Int32.ofInt 0), .int 0])) :: [(a0, .inl (cI, (10, .inl fun _ => Int32.ofInt 0))), (a1, .inl (cI, (12, .inl fun _ => Int32.ofInt 0)))]) := hD
  refine lv_aload_n X.1 X.2.1 diX3_35 rfl (lv_at hl 0 rfl) ?_
  refine lv_iconst (v := Int32.ofInt 0) X.1 X.2.1 diX3_36 bp_iconst_0 ?_
  refine ct_int (d := 256) (k := 5) X (List.mem_of_getElem? (i := 41) rfl) (Nat.le_of_ble_eq_true rfl) rfl (by first | rfl | exact i_zn (Or.inl rfl)) (by first | rfl | decide) diX3_37 (Nat.le_of_ble_eq_true rfl) hP hD hS (fun H locs hP hD hS => ?_)
  have hP : va_P D cls9 ((h0, .inr (3, [.ref a0, .ref a1, .int (Int32.ofInt 0), .int (Int32.ofInt 0), .int (Int32.ofInt 0), .int (Int32.ofInt 0)])) :: [(a0, .inl (cI, (10, .inl fun _ => Int32.ofInt 0))), (a1, .inl (cI, (12, .inl fun _ => Int32.ofInt 0)))]) H := hP
  have hD : va_D A ((h0, .inr (3, [.ref a0, .ref a1, .int (Int32.ofInt 0), .int (Int32.ofInt 0), .int (Int32.ofInt 0), .int (Int32.ofInt 0)])) :: [(a0, .inl (cI, (10, .inl fun _ => Int32.ofInt 0))), (a1, .inl (cI, (12, .inl fun _ => Int32.ofInt 0)))]) := hD
  have hP9 : va_P D cls9 (wc3 cI cZ cJ h0 (fun i => nt 0 [a0, a1] i)) H := hP
  have hD9 : va_D A (wc3 cI cZ cJ h0 (fun i => nt 0 [a0, a1] i)) := hD
  refine W.widen (k := 2) (n := 22) (by omega) (by omega) ?_
  exact W.vret X.1 X.2.1 hr (fun t ht _ => ⟨⟨(fun i => nt 0 [a0, a1] i), rfl, trivial, (by rw [← ht] at hP9; exact hP9), (by rw [hAe]; exact hD9)⟩, by rw [hAe]; exact hS.F ht⟩) hS.2.2 diX3_40
def wc2 (cI cZ cJ : ClassId) (h0 : Nat) (u : Nat → Nat) : va_W := (h0, .inr (2, [.ref (u 0), .ref (u 1), .ref (u 2), .ref (u 3), .ref (u 4), .ref (u 5), .ref (u 6), .ref (u 7), .ref (u 8), .int (Int32.ofInt 0), .int (Int32.ofInt 0), .int (Int32.ofInt 0), .int (Int32.ofInt 0), .int (Int32.ofInt 0), .int (Int32.ofInt (-1)), .int (Int32.ofInt (-1)), .int (Int32.ofInt 0), .int (Int32.ofInt 0)])) :: [(u 0, .inl (cI, (101, .inl fun _ => Int32.ofInt 0))), (u 1, .inl (cI, (10, .inl fun _ => Int32.ofInt 0))), (u 2, .inl (cI, (1010, .inl fun _ => Int32.ofInt 0))), (u 3, .inl (cI, (1200, .inl fun _ => Int32.ofInt 0))), (u 4, .inl (cI, (1010, .inl fun _ => Int32.ofInt 0))), (u 5, .inl (cI, (1010, .inl fun _ => Int32.ofInt 0))), (u 6, .inl (cI, (1010, .inl fun _ => Int32.ofInt 0))), (u 7, .inl (cI, (1010, .inl fun _ => Int32.ofInt 0))), (u 8, .inl (cI, (1200, .inl fun _ => Int32.ofInt 0)))]
set_option maxHeartbeats 40000000 in
theorem mi2 (l : Launch) (D : va_G) (cI cZ cJ : ClassId) (h0 sz : Nat) : Met l yX2_init (Cond.code yX2_init cX2_init 1 none :: lw_ok) { frames := 1, cells := 9, slots := 7561, locals := 12 } (Pci D cI cZ cJ h0 sz (.inr (2, [.null, .null, .null, .null, .null, .null, .null, .null, .null, .int 0, .int 0, .int 0, .int 0, .int 0, .int 0, .int 0, .int 0, .int 0]))) (Qci D h0 sz (.inr (2, [.null, .null, .null, .null, .null, .null, .null, .null, .null, .int 0, .int 0, .int 0, .int 0, .int 0, .int 0, .int 0, .int 0, .int 0])) (wc2 cI cZ cJ)) 9 7561 (va_A [(h0, (.inr (2, [.null, .null, .null, .null, .null, .null, .null, .null, .null, .int 0, .int 0, .int 0, .int 0, .int 0, .int 0, .int 0, .int 0, .int 0])))] sz) := by
  refine Met.ofW (cc := cX2_init) (maxL := 1) (ret := none) (by decide) rfl ?_
  intro p e s m args below meth c s₁ B hml hv
  obtain ⟨rfl, hsz, hP, hK, hD0, hns⟩ := hv
  have hr := B.returns
  have hlocks := B.notSynchronized
  have hts := atoms_spec (ws := Cond.code yX2_init cX2_init 1 none :: lw_ok) B.pre
  have X : Cy p s m _ meth c D cI cZ cJ cX2_init 2 := ⟨B.exec, B.bytes, hml, findClass_of_methodNamed B.named, fun w hw => hts w (List.mem_cons_of_mem _ hw), hK, (name_of_methodNamed B.named B.method).1, by decide, hns⟩
  subst hsz
  have hD := hD0.self (sz := s.heap.size)
  generalize hAe : va_A [(h0, (.inr (2, [.null, .null, .null, .null, .null, .null, .null, .null, .null, .int 0, .int 0, .int 0, .int 0, .int 0, .int 0, .int 0, .int 0, .int 0]) : va_E))] s.heap.size = A at hD ⊢
  have hA : ∀ q : Nat, s.heap.size ≤ q → A q := fun q h => by rw [← hAe]; exact Or.inr h
  have hS : va_S A s.heap s.heap [] := va_S.rf
  have hl := lv_entry ([.ref h0]) (n := 1) (Nat.le_of_ble_eq_true rfl)
  rw [lg_entry_eq]
  generalize (lg_sl ([.ref h0]) ++ List.replicate (1 - (lg_sl ([.ref h0])).length) Slot.unset).toArray = ls at hl ⊢
  have hl : lv_has ls 1 [(0, .ref h0)] := hl
  refine lv_aload_n X.1 X.2.1 diX2_0 rfl (lv_at hl 0 rfl) ?_
  refine ct_obj (d := 294) X (by decide) hl.1 ⟨Nat.le_of_ble_eq_true rfl, Nat.le_of_ble_eq_true rfl⟩ diX2_1 ?_
  refine lv_aload_n X.1 X.2.1 diX2_4 rfl (lv_at hl 0 rfl) ?_
  refine lv_bipush (v := Int32.ofInt 101) X.1 X.2.1 diX2_5 bp_bipush_101 ?_
  refine ct_arr (ty := .int) (cA := cI) (t0 := 0) (N := 101) (a0 := (101, .inl fun _ => Int32.ofInt 0)) (d := 295) (k := 0) X (List.mem_of_getElem? (i := 19) rfl) (Nat.le_of_ble_eq_true rfl) rfl rfl rfl rfl (by simp) rfl (at_in arI rfl) a0I sz_101.1 sz_101.2 cbI_101 (by show _ ≤ (9 : Nat); omega) (by show _ ≤ (7561 : Nat); omega) hA diX2_7 diX2_9 (Nat.le_of_ble_eq_true rfl) hP hD hS (fun a0 H locs hP hD hS => ?_)
  have hP : va_P D cls9 ((h0, .inr (2, [.ref a0, .null, .null, .null, .null, .null, .null, .null, .null, .int 0, .int 0, .int 0, .int 0, .int 0, .int 0, .int 0, .int 0, .int 0])) :: [(a0, .inl (cI, (101, .inl fun _ => Int32.ofInt 0)))]) H := hP
  have hD : va_D A ((h0, .inr (2, [.ref a0, .null, .null, .null, .null, .null, .null, .null, .null, .int 0, .int 0, .int 0, .int 0, .int 0, .int 0, .int 0, .int 0, .int 0])) :: [(a0, .inl (cI, (101, .inl fun _ => Int32.ofInt 0)))]) := hD
  refine lv_aload_n X.1 X.2.1 diX2_12 rfl (lv_at hl 0 rfl) ?_
  refine lv_bipush (v := Int32.ofInt 10) X.1 X.2.1 diX2_13 bp_bipush_10 ?_
  refine ct_arr (ty := .int) (cA := cI) (t0 := 0) (N := 10) (a0 := (10, .inl fun _ => Int32.ofInt 0)) (d := 297) (k := 1) X (List.mem_of_getElem? (i := 20) rfl) (Nat.le_of_ble_eq_true rfl) rfl rfl rfl rfl (by simp) rfl (at_in arI rfl) a0I sz_10.1 sz_10.2 cbI_10 (by show _ ≤ (9 : Nat); omega) (by show _ ≤ (7561 : Nat); omega) hA diX2_15 diX2_17 (Nat.le_of_ble_eq_true rfl) hP hD hS (fun a1 H locs hP hD hS => ?_)
  have hP : va_P D cls9 ((h0, .inr (2, [.ref a0, .ref a1, .null, .null, .null, .null, .null, .null, .null, .int 0, .int 0, .int 0, .int 0, .int 0, .int 0, .int 0, .int 0, .int 0])) :: [(a0, .inl (cI, (101, .inl fun _ => Int32.ofInt 0))), (a1, .inl (cI, (10, .inl fun _ => Int32.ofInt 0)))]) H := hP
  have hD : va_D A ((h0, .inr (2, [.ref a0, .ref a1, .null, .null, .null, .null, .null, .null, .null, .int 0, .int 0, .int 0, .int 0, .int 0, .int 0, .int 0, .int 0, .int 0])) :: [(a0, .inl (cI, (101, .inl fun _ => Int32.ofInt 0))), (a1, .inl (cI, (10, .inl fun _ => Int32.ofInt 0)))]) := hD
  refine lv_aload_n X.1 X.2.1 diX2_20 rfl (lv_at hl 0 rfl) ?_
  refine lv_sipush (v := Int32.ofInt 1010) X.1 X.2.1 diX2_21 bp_sipush_1010 ?_
  refine ct_arr (ty := .int) (cA := cI) (t0 := 0) (N := 1010) (a0 := (1010, .inl fun _ => Int32.ofInt 0)) (d := 298) (k := 2) X (List.mem_of_getElem? (i := 21) rfl) (Nat.le_of_ble_eq_true rfl) rfl rfl rfl rfl (by simp) rfl (at_in arI rfl) a0I sz_1010.1 sz_1010.2 cbI_1010 (by show _ ≤ (9 : Nat); omega) (by show _ ≤ (7561 : Nat); omega) hA diX2_24 diX2_26 (Nat.le_of_ble_eq_true rfl) hP hD hS (fun a2 H locs hP hD hS => ?_)
  have hP : va_P D cls9 ((h0, .inr (2, [.ref a0, .ref a1, .ref a2, .null, .null, .null, .null, .null, .null, .int 0, .int 0, .int 0, .int 0, .int 0, .int 0, .int 0, .int 0, .int 0])) :: [(a0, .inl (cI, (101, .inl fun _ => Int32.ofInt 0))), (a1, .inl (cI, (10, .inl fun _ => Int32.ofInt 0))), (a2, .inl (cI, (1010, .inl fun _ => Int32.ofInt 0)))]) H := hP
  have hD : va_D A ((h0, .inr (2, [.ref a0, .ref a1, .ref a2, .null, .null, .null, .null, .null, .null, .int 0, .int 0, .int 0, .int 0, .int 0, .int 0, .int 0, .int 0, .int 0])) :: [(a0, .inl (cI, (101, .inl fun _ => Int32.ofInt 0))), (a1, .inl (cI, (10, .inl fun _ => Int32.ofInt 0))), (a2, .inl (cI, (1010, .inl fun _ => Int32.ofInt 0)))]) := hD
  refine lv_aload_n X.1 X.2.1 diX2_29 rfl (lv_at hl 0 rfl) ?_
  refine lv_sipush (v := Int32.ofInt 1200) X.1 X.2.1 diX2_30 bp_sipush_1200 ?_
  refine ct_arr (ty := .int) (cA := cI) (t0 := 0) (N := 1200) (a0 := (1200, .inl fun _ => Int32.ofInt 0)) (d := 299) (k := 3) X (List.mem_of_getElem? (i := 22) rfl) (Nat.le_of_ble_eq_true rfl) rfl rfl rfl rfl (by simp) rfl (at_in arI rfl) a0I sz_1200.1 sz_1200.2 cbI_1200 (by show _ ≤ (9 : Nat); omega) (by show _ ≤ (7561 : Nat); omega) hA diX2_33 diX2_35 (Nat.le_of_ble_eq_true rfl) hP hD hS (fun a3 H locs hP hD hS => ?_)
  have hP : va_P D cls9 ((h0, .inr (2, [.ref a0, .ref a1, .ref a2, .ref a3, .null, .null, .null, .null, .null, .int 0, .int 0, .int 0, .int 0, .int 0, .int 0, .int 0, .int 0, .int 0])) :: [(a0, .inl (cI, (101, .inl fun _ => Int32.ofInt 0))), (a1, .inl (cI, (10, .inl fun _ => Int32.ofInt 0))), (a2, .inl (cI, (1010, .inl fun _ => Int32.ofInt 0))), (a3, .inl (cI, (1200, .inl fun _ => Int32.ofInt 0)))]) H := hP
  have hD : va_D A ((h0, .inr (2, [.ref a0, .ref a1, .ref a2, .ref a3, .null, .null, .null, .null, .null, .int 0, .int 0, .int 0, .int 0, .int 0, .int 0, .int 0, .int 0, .int 0])) :: [(a0, .inl (cI, (101, .inl fun _ => Int32.ofInt 0))), (a1, .inl (cI, (10, .inl fun _ => Int32.ofInt 0))), (a2, .inl (cI, (1010, .inl fun _ => Int32.ofInt 0))), (a3, .inl (cI, (1200, .inl fun _ => Int32.ofInt 0)))]) := hD
  refine lv_aload_n X.1 X.2.1 diX2_38 rfl (lv_at hl 0 rfl) ?_
  refine lv_sipush (v := Int32.ofInt 1010) X.1 X.2.1 diX2_39 bp_sipush_1010 ?_
  refine ct_arr (ty := .int) (cA := cI) (t0 := 0) (N := 1010) (a0 := (1010, .inl fun _ => Int32.ofInt 0)) (d := 300) (k := 4) X (List.mem_of_getElem? (i := 23) rfl) (Nat.le_of_ble_eq_true rfl) rfl rfl rfl rfl (by simp) rfl (at_in arI rfl) a0I sz_1010.1 sz_1010.2 cbI_1010 (by show _ ≤ (9 : Nat); omega) (by show _ ≤ (7561 : Nat); omega) hA diX2_42 diX2_44 (Nat.le_of_ble_eq_true rfl) hP hD hS (fun a4 H locs hP hD hS => ?_)
  have hP : va_P D cls9 ((h0, .inr (2, [.ref a0, .ref a1, .ref a2, .ref a3, .ref a4, .null, .null, .null, .null, .int 0, .int 0, .int 0, .int 0, .int 0, .int 0, .int 0, .int 0, .int 0])) :: [(a0, .inl (cI, (101, .inl fun _ => Int32.ofInt 0))), (a1, .inl (cI, (10, .inl fun _ => Int32.ofInt 0))), (a2, .inl (cI, (1010, .inl fun _ => Int32.ofInt 0))), (a3, .inl (cI, (1200, .inl fun _ => Int32.ofInt 0))), (a4, .inl (cI, (1010, .inl fun _ => Int32.ofInt 0)))]) H := hP
  have hD : va_D A ((h0, .inr (2, [.ref a0, .ref a1, .ref a2, .ref a3, .ref a4, .null, .null, .null, .null, .int 0, .int 0, .int 0, .int 0, .int 0, .int 0, .int 0, .int 0, .int 0])) :: [(a0, .inl (cI, (101, .inl fun _ => Int32.ofInt 0))), (a1, .inl (cI, (10, .inl fun _ => Int32.ofInt 0))), (a2, .inl (cI, (1010, .inl fun _ => Int32.ofInt 0))), (a3, .inl (cI, (1200, .inl fun _ => Int32.ofInt 0))), (a4, .inl (cI, (1010, .inl fun _ => Int32.ofInt 0)))]) := hD
  refine lv_aload_n X.1 X.2.1 diX2_47 rfl (lv_at hl 0 rfl) ?_
  refine lv_sipush (v := Int32.ofInt 1010) X.1 X.2.1 diX2_48 bp_sipush_1010 ?_
  refine ct_arr (ty := .int) (cA := cI) (t0 := 0) (N := 1010) (a0 := (1010, .inl fun _ => Int32.ofInt 0)) (d := 301) (k := 5) X (List.mem_of_getElem? (i := 24) rfl) (Nat.le_of_ble_eq_true rfl) rfl rfl rfl rfl (by simp) rfl (at_in arI rfl) a0I sz_1010.1 sz_1010.2 cbI_1010 (by show _ ≤ (9 : Nat); omega) (by show _ ≤ (7561 : Nat); omega) hA diX2_51 diX2_53 (Nat.le_of_ble_eq_true rfl) hP hD hS (fun a5 H locs hP hD hS => ?_)
  have hP : va_P D cls9 ((h0, .inr (2, [.ref a0, .ref a1, .ref a2, .ref a3, .ref a4, .ref a5, .null, .null, .null, .int 0, .int 0, .int 0, .int 0, .int 0, .int 0, .int 0, .int 0, .int 0])) :: [(a0, .inl (cI, (101, .inl fun _ => Int32.ofInt 0))), (a1, .inl (cI, (10, .inl fun _ => Int32.ofInt 0))), (a2, .inl (cI, (1010, .inl fun _ => Int32.ofInt 0))), (a3, .inl (cI, (1200, .inl fun _ => Int32.ofInt 0))), (a4, .inl (cI, (1010, .inl fun _ => Int32.ofInt 0))), (a5, .inl (cI, (1010, .inl fun _ => Int32.ofInt 0)))]) H := hP
  have hD : va_D A ((h0, .inr (2, [.ref a0, .ref a1, .ref a2, .ref a3, .ref a4, .ref a5, .null, .null, .null, .int 0, .int 0, .int 0, .int 0, .int 0, .int 0, .int 0, .int 0, .int 0])) :: [(a0, .inl (cI, (101, .inl fun _ => Int32.ofInt 0))), (a1, .inl (cI, (10, .inl fun _ => Int32.ofInt 0))), (a2, .inl (cI, (1010, .inl fun _ => Int32.ofInt 0))), (a3, .inl (cI, (1200, .inl fun _ => Int32.ofInt 0))), (a4, .inl (cI, (1010, .inl fun _ => Int32.ofInt 0))), (a5, .inl (cI, (1010, .inl fun _ => Int32.ofInt 0)))]) := hD
  refine lv_aload_n X.1 X.2.1 diX2_56 rfl (lv_at hl 0 rfl) ?_
  refine lv_sipush (v := Int32.ofInt 1010) X.1 X.2.1 diX2_57 bp_sipush_1010 ?_
  refine ct_arr (ty := .int) (cA := cI) (t0 := 0) (N := 1010) (a0 := (1010, .inl fun _ => Int32.ofInt 0)) (d := 302) (k := 6) X (List.mem_of_getElem? (i := 25) rfl) (Nat.le_of_ble_eq_true rfl) rfl rfl rfl rfl (by simp) rfl (at_in arI rfl) a0I sz_1010.1 sz_1010.2 cbI_1010 (by show _ ≤ (9 : Nat); omega) (by show _ ≤ (7561 : Nat); omega) hA diX2_60 diX2_62 (Nat.le_of_ble_eq_true rfl) hP hD hS (fun a6 H locs hP hD hS => ?_)
  have hP : va_P D cls9 ((h0, .inr (2, [.ref a0, .ref a1, .ref a2, .ref a3, .ref a4, .ref a5, .ref a6, .null, .null, .int 0, .int 0, .int 0, .int 0, .int 0, .int 0, .int 0, .int 0, .int 0])) :: [(a0, .inl (cI, (101, .inl fun _ => Int32.ofInt 0))), (a1, .inl (cI, (10, .inl fun _ => Int32.ofInt 0))), (a2, .inl (cI, (1010, .inl fun _ => Int32.ofInt 0))), (a3, .inl (cI, (1200, .inl fun _ => Int32.ofInt 0))), (a4, .inl (cI, (1010, .inl fun _ => Int32.ofInt 0))), (a5, .inl (cI, (1010, .inl fun _ => Int32.ofInt 0))), (a6, .inl (cI, (1010, .inl fun _ => Int32.ofInt 0)))]) H := hP
  have hD : va_D A ((h0, .inr (2, [.ref a0, .ref a1, .ref a2, .ref a3, .ref a4, .ref a5, .ref a6, .null, .null, .int 0, .int 0, .int 0, .int 0, .int 0, .int 0, .int 0, .int 0, .int 0])) :: [(a0, .inl (cI, (101, .inl fun _ => Int32.ofInt 0))), (a1, .inl (cI, (10, .inl fun _ => Int32.ofInt 0))), (a2, .inl (cI, (1010, .inl fun _ => Int32.ofInt 0))), (a3, .inl (cI, (1200, .inl fun _ => Int32.ofInt 0))), (a4, .inl (cI, (1010, .inl fun _ => Int32.ofInt 0))), (a5, .inl (cI, (1010, .inl fun _ => Int32.ofInt 0))), (a6, .inl (cI, (1010, .inl fun _ => Int32.ofInt 0)))]) := hD
  refine lv_aload_n X.1 X.2.1 diX2_65 rfl (lv_at hl 0 rfl) ?_
  refine lv_sipush (v := Int32.ofInt 1010) X.1 X.2.1 diX2_66 bp_sipush_1010 ?_
  refine ct_arr (ty := .int) (cA := cI) (t0 := 0) (N := 1010) (a0 := (1010, .inl fun _ => Int32.ofInt 0)) (d := 303) (k := 7) X (List.mem_of_getElem? (i := 26) rfl) (Nat.le_of_ble_eq_true rfl) rfl rfl rfl rfl (by simp) rfl (at_in arI rfl) a0I sz_1010.1 sz_1010.2 cbI_1010 (by show _ ≤ (9 : Nat); omega) (by show _ ≤ (7561 : Nat); omega) hA diX2_69 diX2_71 (Nat.le_of_ble_eq_true rfl) hP hD hS (fun a7 H locs hP hD hS => ?_)
  have hP : va_P D cls9 ((h0, .inr (2, [.ref a0, .ref a1, .ref a2, .ref a3, .ref a4, .ref a5, .ref a6, .ref a7, .null, .int 0, .int 0, .int 0, .int 0, .int 0, .int 0, .int 0, .int 0, .int 0])) :: [(a0, .inl (cI, (101, .inl fun _ => Int32.ofInt 0))), (a1, .inl (cI, (10, .inl fun _ => Int32.ofInt 0))), (a2, .inl (cI, (1010, .inl fun _ => Int32.ofInt 0))), (a3, .inl (cI, (1200, .inl fun _ => Int32.ofInt 0))), (a4, .inl (cI, (1010, .inl fun _ => Int32.ofInt 0))), (a5, .inl (cI, (1010, .inl fun _ => Int32.ofInt 0))), (a6, .inl (cI, (1010, .inl fun _ => Int32.ofInt 0))), (a7, .inl (cI, (1010, .inl fun _ => Int32.ofInt 0)))]) H := hP
  have hD : va_D A ((h0, .inr (2, [.ref a0, .ref a1, .ref a2, .ref a3, .ref a4, .ref a5, .ref a6, .ref a7, .null, .int 0, .int 0, .int 0, .int 0, .int 0, .int 0, .int 0, .int 0, .int 0])) :: [(a0, .inl (cI, (101, .inl fun _ => Int32.ofInt 0))), (a1, .inl (cI, (10, .inl fun _ => Int32.ofInt 0))), (a2, .inl (cI, (1010, .inl fun _ => Int32.ofInt 0))), (a3, .inl (cI, (1200, .inl fun _ => Int32.ofInt 0))), (a4, .inl (cI, (1010, .inl fun _ => Int32.ofInt 0))), (a5, .inl (cI, (1010, .inl fun _ => Int32.ofInt 0))), (a6, .inl (cI, (1010, .inl fun _ => Int32.ofInt 0))), (a7, .inl (cI, (1010, .inl fun _ => Int32.ofInt 0)))]) := hD
  refine lv_aload_n X.1 X.2.1 diX2_74 rfl (lv_at hl 0 rfl) ?_
  refine lv_sipush (v := Int32.ofInt 1200) X.1 X.2.1 diX2_75 bp_sipush_1200 ?_
  refine ct_arr (ty := .int) (cA := cI) (t0 := 0) (N := 1200) (a0 := (1200, .inl fun _ => Int32.ofInt 0)) (d := 304) (k := 8) X (List.mem_of_getElem? (i := 27) rfl) (Nat.le_of_ble_eq_true rfl) rfl rfl rfl rfl (by simp) rfl (at_in arI rfl) a0I sz_1200.1 sz_1200.2 cbI_1200 (by show _ ≤ (9 : Nat); omega) (by show _ ≤ (7561 : Nat); omega) hA diX2_78 diX2_80 (Nat.le_of_ble_eq_true rfl) hP hD hS (fun a8 H locs hP hD hS => ?_)
  have hP : va_P D cls9 ((h0, .inr (2, [.ref a0, .ref a1, .ref a2, .ref a3, .ref a4, .ref a5, .ref a6, .ref a7, .ref a8, .int 0, .int 0, .int 0, .int 0, .int 0, .int 0, .int 0, .int 0, .int 0])) :: [(a0, .inl (cI, (101, .inl fun _ => Int32.ofInt 0))), (a1, .inl (cI, (10, .inl fun _ => Int32.ofInt 0))), (a2, .inl (cI, (1010, .inl fun _ => Int32.ofInt 0))), (a3, .inl (cI, (1200, .inl fun _ => Int32.ofInt 0))), (a4, .inl (cI, (1010, .inl fun _ => Int32.ofInt 0))), (a5, .inl (cI, (1010, .inl fun _ => Int32.ofInt 0))), (a6, .inl (cI, (1010, .inl fun _ => Int32.ofInt 0))), (a7, .inl (cI, (1010, .inl fun _ => Int32.ofInt 0))), (a8, .inl (cI, (1200, .inl fun _ => Int32.ofInt 0)))]) H := hP
  have hD : va_D A ((h0, .inr (2, [.ref a0, .ref a1, .ref a2, .ref a3, .ref a4, .ref a5, .ref a6, .ref a7, .ref a8, .int 0, .int 0, .int 0, .int 0, .int 0, .int 0, .int 0, .int 0, .int 0])) :: [(a0, .inl (cI, (101, .inl fun _ => Int32.ofInt 0))), (a1, .inl (cI, (10, .inl fun _ => Int32.ofInt 0))), (a2, .inl (cI, (1010, .inl fun _ => Int32.ofInt 0))), (a3, .inl (cI, (1200, .inl fun _ => Int32.ofInt 0))), (a4, .inl (cI, (1010, .inl fun _ => Int32.ofInt 0))), (a5, .inl (cI, (1010, .inl fun _ => Int32.ofInt 0))), (a6, .inl (cI, (1010, .inl fun _ => Int32.ofInt 0))), (a7, .inl (cI, (1010, .inl fun _ => Int32.ofInt 0))), (a8, .inl (cI, (1200, .inl fun _ => Int32.ofInt 0)))]) := hD
  refine lv_aload_n X.1 X.2.1 diX2_83 rfl (lv_at hl 0 rfl) ?_
  refine lv_iconst (v := Int32.ofInt 0) X.1 X.2.1 diX2_84 bp_iconst_0 ?_
  refine ct_int (d := 305) (k := 9) X (List.mem_of_getElem? (i := 28) rfl) (Nat.le_of_ble_eq_true rfl) rfl (by first | rfl | exact i_zn (Or.inl rfl)) (by first | rfl | decide) diX2_85 (Nat.le_of_ble_eq_true rfl) hP hD hS (fun H locs hP hD hS => ?_)
  have hP : va_P D cls9 ((h0, .inr (2, [.ref a0, .ref a1, .ref a2, .ref a3, .ref a4, .ref a5, .ref a6, .ref a7, .ref a8, .int (Int32.ofInt 0), .int 0, .int 0, .int 0, .int 0, .int 0, .int 0, .int 0, .int 0])) :: [(a0, .inl (cI, (101, .inl fun _ => Int32.ofInt 0))), (a1, .inl (cI, (10, .inl fun _ => Int32.ofInt 0))), (a2, .inl (cI, (1010, .inl fun _ => Int32.ofInt 0))), (a3, .inl (cI, (1200, .inl fun _ => Int32.ofInt 0))), (a4, .inl (cI, (1010, .inl fun _ => Int32.ofInt 0))), (a5, .inl (cI, (1010, .inl fun _ => Int32.ofInt 0))), (a6, .inl (cI, (1010, .inl fun _ => Int32.ofInt 0))), (a7, .inl (cI, (1010, .inl fun _ => Int32.ofInt 0))), (a8, .inl (cI, (1200, .inl fun _ => Int32.ofInt 0)))]) H := hP
  have hD : va_D A ((h0, .inr (2, [.ref a0, .ref a1, .ref a2, .ref a3, .ref a4, .ref a5, .ref a6, .ref a7, .ref a8, .int (Int32.ofInt 0), .int 0, .int 0, .int 0, .int 0, .int 0, .int 0, .int 0, .int 0])) :: [(a0, .inl (cI, (101, .inl fun _ => Int32.ofInt 0))), (a1, .inl (cI, (10, .inl fun _ => Int32.ofInt 0))), (a2, .inl (cI, (1010, .inl fun _ => Int32.ofInt 0))), (a3, .inl (cI, (1200, .inl fun _ => Int32.ofInt 0))), (a4, .inl (cI, (1010, .inl fun _ => Int32.ofInt 0))), (a5, .inl (cI, (1010, .inl fun _ => Int32.ofInt 0))), (a6, .inl (cI, (1010, .inl fun _ => Int32.ofInt 0))), (a7, .inl (cI, (1010, .inl fun _ => Int32.ofInt 0))), (a8, .inl (cI, (1200, .inl fun _ => Int32.ofInt 0)))]) := hD
  refine lv_aload_n X.1 X.2.1 diX2_88 rfl (lv_at hl 0 rfl) ?_
  refine lv_iconst (v := Int32.ofInt 0) X.1 X.2.1 diX2_89 bp_iconst_0 ?_
  refine ct_int (d := 306) (k := 10) X (List.mem_of_getElem? (i := 29) rfl) (Nat.le_of_ble_eq_true rfl) rfl (by first | rfl | exact i_zn (Or.inl rfl)) (by first | rfl | decide) diX2_90 (Nat.le_of_ble_eq_true rfl) hP hD hS (fun H locs hP hD hS => ?_)
  have hP : va_P D cls9 ((h0, .inr (2, [.ref a0, .ref a1, .ref a2, .ref a3, .ref a4, .ref a5, .ref a6, .ref a7, .ref a8, .int (Int32.ofInt 0), .int (Int32.ofInt 0), .int 0, .int 0, .int 0, .int 0, .int 0, .int 0, .int 0])) :: [(a0, .inl (cI, (101, .inl fun _ => Int32.ofInt 0))), (a1, .inl (cI, (10, .inl fun _ => Int32.ofInt 0))), (a2, .inl (cI, (1010, .inl fun _ => Int32.ofInt 0))), (a3, .inl (cI, (1200, .inl fun _ => Int32.ofInt 0))), (a4, .inl (cI, (1010, .inl fun _ => Int32.ofInt 0))), (a5, .inl (cI, (1010, .inl fun _ => Int32.ofInt 0))), (a6, .inl (cI, (1010, .inl fun _ => Int32.ofInt 0))), (a7, .inl (cI, (1010, .inl fun _ => Int32.ofInt 0))), (a8, .inl (cI, (1200, .inl fun _ => Int32.ofInt 0)))]) H := hP
  have hD : va_D A ((h0, .inr (2, [.ref a0, .ref a1, .ref a2, .ref a3, .ref a4, .ref a5, .ref a6, .ref a7, .ref a8, .int (Int32.ofInt 0), .int (Int32.ofInt 0), .int 0, .int 0, .int 0, .int 0, .int 0, .int 0, .int 0])) :: [(a0, .inl (cI, (101, .inl fun _ => Int32.ofInt 0))), (a1, .inl (cI, (10, .inl fun _ => Int32.ofInt 0))), (a2, .inl (cI, (1010, .inl fun _ => Int32.ofInt 0))), (a3, .inl (cI, (1200, .inl fun _ => Int32.ofInt 0))), (a4, .inl (cI, (1010, .inl fun _ => Int32.ofInt 0))), (a5, .inl (cI, (1010, .inl fun _ => Int32.ofInt 0))), (a6, .inl (cI, (1010, .inl fun _ => Int32.ofInt 0))), (a7, .inl (cI, (1010, .inl fun _ => Int32.ofInt 0))), (a8, .inl (cI, (1200, .inl fun _ => Int32.ofInt 0)))]) := hD
  refine lv_aload_n X.1 X.2.1 diX2_93 rfl (lv_at hl 0 rfl) ?_
  refine lv_iconst (v := Int32.ofInt 0) X.1 X.2.1 diX2_94 bp_iconst_0 ?_
  refine ct_int (d := 307) (k := 11) X (List.mem_of_getElem? (i := 30) rfl) (Nat.le_of_ble_eq_true rfl) rfl (by first | rfl | exact i_zn (Or.inl rfl)) (by first | rfl | decide) diX2_95 (Nat.le_of_ble_eq_true rfl) hP hD hS (fun H locs hP hD hS => ?_)
  have hP : va_P D cls9 ((h0, .inr (2, [.ref a0, .ref a1, .ref a2, .ref a3, .ref a4, .ref a5, .ref a6, .ref a7, .ref a8, .int (Int32.ofInt 0), .int (Int32.ofInt 0), .int (Int32.ofInt 0), .int 0, .int 0, .int 0, .int 0, .int 0, .int 0])) :: [(a0, .inl (cI, (101, .inl fun _ => Int32.ofInt 0))), (a1, .inl (cI, (10, .inl fun _ => Int32.ofInt 0))), (a2, .inl (cI, (1010, .inl fun _ => Int32.ofInt 0))), (a3, .inl (cI, (1200, .inl fun _ => Int32.ofInt 0))), (a4, .inl (cI, (1010, .inl fun _ => Int32.ofInt 0))), (a5, .inl (cI, (1010, .inl fun _ => Int32.ofInt 0))), (a6, .inl (cI, (1010, .inl fun _ => Int32.ofInt 0))), (a7, .inl (cI, (1010, .inl fun _ => Int32.ofInt 0))), (a8, .inl (cI, (1200, .inl fun _ => Int32.ofInt 0)))]) H := hP
  have hD : va_D A ((h0, .inr (2, [.ref a0, .ref a1, .ref a2, .ref a3, .ref a4, .ref a5, .ref a6, .ref a7, .ref a8, .int (Int32.ofInt 0), .int (Int32.ofInt 0), .int (Int32.ofInt 0), .int 0, .int 0, .int 0, .int 0, .int 0, .int 0])) :: [(a0, .inl (cI, (101, .inl fun _ => Int32.ofInt 0))), (a1, .inl (cI, (10, .inl fun _ => Int32.ofInt 0))), (a2, .inl (cI, (1010, .inl fun _ => Int32.ofInt 0))), (a3, .inl (cI, (1200, .inl fun _ => Int32.ofInt 0))), (a4, .inl (cI, (1010, .inl fun _ => Int32.ofInt 0))), (a5, .inl (cI, (1010, .inl fun _ => Int32.ofInt 0))), (a6, .inl (cI, (1010, .inl fun _ => Int32.ofInt 0))), (a7, .inl (cI, (1010, .inl fun _ => Int32.ofInt 0))), (a8, .inl (cI, (1200, .inl fun _ => Int32.ofInt 0)))]) := hD
  refine lv_aload_n X.1 X.2.1 diX2_98 rfl (lv_at hl 0 rfl) ?_
  refine lv_iconst (v := Int32.ofInt 0) X.1 X.2.1 diX2_99 bp_iconst_0 ?_
  refine ct_int (d := 308) (k := 12) X (List.mem_of_getElem? (i := 31) rfl) (Nat.le_of_ble_eq_true rfl) rfl (by first | rfl | exact i_zn (Or.inl rfl)) (by first | rfl | decide) diX2_100 (Nat.le_of_ble_eq_true rfl) hP hD hS (fun H locs hP hD hS => ?_)
  have hP : va_P D cls9 ((h0, .inr (2, [.ref a0, .ref a1, .ref a2, .ref a3, .ref a4, .ref a5, .ref a6, .ref a7, .ref a8, .int (Int32.ofInt 0), .int (Int32.ofInt 0), .int (Int32.ofInt 0), .int (Int32.ofInt 0), .int 0, .int 0, .int 0, .int 0, .int 0])) :: [(a0, .inl (cI, (101, .inl fun _ => Int32.ofInt 0))), (a1, .inl (cI, (10, .inl fun _ => Int32.ofInt 0))), (a2, .inl (cI, (1010, .inl fun _ => Int32.ofInt 0))), (a3, .inl (cI, (1200, .inl fun _ => Int32.ofInt 0))), (a4, .inl (cI, (1010, .inl fun _ => Int32.ofInt 0))), (a5, .inl (cI, (1010, .inl fun _ => Int32.ofInt 0))), (a6, .inl (cI, (1010, .inl fun _ => Int32.ofInt 0))), (a7, .inl (cI, (1010, .inl fun _ => Int32.ofInt 0))), (a8, .inl (cI, (1200, .inl fun _ => Int32.ofInt 0)))]) H := hP
  have hD : va_D A ((h0, .inr (2, [.ref a0, .ref a1, .ref a2, .ref a3, .ref a4, .ref a5, .ref a6, .ref a7, .ref a8, .int (Int32.ofInt 0), .int (Int32.ofInt 0), .int (Int32.ofInt 0), .int (Int32.ofInt 0), .int 0, .int 0, .int 0, .int 0, .int 0])) :: [(a0, .inl (cI, (101, .inl fun _ => Int32.ofInt 0))), (a1, .inl (cI, (10, .inl fun _ => Int32.ofInt 0))), (a2, .inl (cI, (1010, .inl fun _ => Int32.ofInt 0))), (a3, .inl (cI, (1200, .inl fun _ => Int32.ofInt 0))), (a4, .inl (cI, (1010, .inl fun _ => Int32.ofInt 0))), (a5, .inl (cI, (1010, .inl fun _ => Int32.ofInt 0))), (a6, .inl (cI, (1010, .inl fun _ => Int32.ofInt 0))), (a7, .inl (cI, (1010, .inl fun _ => Int32.ofInt 0))), (a8, .inl (cI, (1200, .inl fun _ => Int32.ofInt 0)))]) := hD
  refine lv_aload_n X.1 X.2.1 diX2_103 rfl (lv_at hl 0 rfl) ?_
  refine lv_iconst (v := Int32.ofInt 0) X.1 X.2.1 diX2_104 bp_iconst_0 ?_
  refine ct_int (d := 309) (k := 13) X (List.mem_of_getElem? (i := 32) rfl) (Nat.le_of_ble_eq_true rfl) rfl (by first | rfl | exact i_zn (Or.inl rfl)) (by first | rfl | decide) diX2_105 (Nat.le_of_ble_eq_true rfl) hP hD hS (fun H locs hP hD hS => ?_)
  have hP : va_P D cls9 ((h0, .inr (2, [.ref a0, .ref a1, .ref a2, .ref a3, .ref a4, .ref a5, .ref a6, .ref a7, .ref a8, .int (Int32.ofInt 0), .int (Int32.ofInt 0), .int (Int32.ofInt 0), .int (Int32.ofInt 0), .int (Int32.ofInt 0), .int 0, .int 0, .int 0, .int 0])) :: [(a0, .inl (cI, (101, .inl fun _ => Int32.ofInt 0))), (a1, .inl (cI, (10, .inl fun _ => Int32.ofInt 0))), (a2, .inl (cI, (1010, .inl fun _ => Int32.ofInt 0))), (a3, .inl (cI, (1200, .inl fun _ => Int32.ofInt 0))), (a4, .inl (cI, (1010, .inl fun _ => Int32.ofInt 0))), (a5, .inl (cI, (1010, .inl fun _ => Int32.ofInt 0))), (a6, .inl (cI, (1010, .inl fun _ => Int32.ofInt 0))), (a7, .inl (cI, (1010, .inl fun _ => Int32.ofInt 0))), (a8, .inl (cI, (1200, .inl fun _ => Int32.ofInt 0)))]) H := hP
  have hD : va_D A ((h0, .inr (2, [.ref a0, .ref a1, .ref a2, .ref a3, .ref a4, .ref a5, .ref a6, .ref a7, .ref a8, .int (Int32.ofInt 0), .int (Int32.ofInt 0), .int (Int32.ofInt 0), .int (Int32.ofInt 0), .int (Int32.ofInt 0), .int 0, .int 0, .int 0, .int 0])) :: [(a0, .inl (cI, (101, .inl fun _ => Int32.ofInt 0))), (a1, .inl (cI, (10, .inl fun _ => Int32.ofInt 0))), (a2, .inl (cI, (1010, .inl fun _ => Int32.ofInt 0))), (a3, .inl (cI, (1200, .inl fun _ => Int32.ofInt 0))), (a4, .inl (cI, (1010, .inl fun _ => Int32.ofInt 0))), (a5, .inl (cI, (1010, .inl fun _ => Int32.ofInt 0))), (a6, .inl (cI, (1010, .inl fun _ => Int32.ofInt 0))), (a7, .inl (cI, (1010, .inl fun _ => Int32.ofInt 0))), (a8, .inl (cI, (1200, .inl fun _ => Int32.ofInt 0)))]) := hD
  refine lv_aload_n X.1 X.2.1 diX2_108 rfl (lv_at hl 0 rfl) ?_
  refine lv_iconst (v := Int32.ofInt (-1)) X.1 X.2.1 diX2_109 bp_iconst_m1 ?_
  refine ct_int (d := 310) (k := 14) X (List.mem_of_getElem? (i := 33) rfl) (Nat.le_of_ble_eq_true rfl) rfl (by first | rfl | exact i_zn (Or.inl rfl)) (by first | rfl | decide) diX2_110 (Nat.le_of_ble_eq_true rfl) hP hD hS (fun H locs hP hD hS => ?_)
  have hP : va_P D cls9 ((h0, .inr (2, [.ref a0, .ref a1, .ref a2, .ref a3, .ref a4, .ref a5, .ref a6, .ref a7, .ref a8, .int (Int32.ofInt 0), .int (Int32.ofInt 0), .int (Int32.ofInt 0), .int (Int32.ofInt 0), .int (Int32.ofInt 0), .int (Int32.ofInt (-1)), .int 0, .int 0, .int 0])) :: [(a0, .inl (cI, (101, .inl fun _ => Int32.ofInt 0))), (a1, .inl (cI, (10, .inl fun _ => Int32.ofInt 0))), (a2, .inl (cI, (1010, .inl fun _ => Int32.ofInt 0))), (a3, .inl (cI, (1200, .inl fun _ => Int32.ofInt 0))), (a4, .inl (cI, (1010, .inl fun _ => Int32.ofInt 0))), (a5, .inl (cI, (1010, .inl fun _ => Int32.ofInt 0))), (a6, .inl (cI, (1010, .inl fun _ => Int32.ofInt 0))), (a7, .inl (cI, (1010, .inl fun _ => Int32.ofInt 0))), (a8, .inl (cI, (1200, .inl fun _ => Int32.ofInt 0)))]) H := hP
  have hD : va_D A ((h0, .inr (2, [.ref a0, .ref a1, .ref a2, .ref a3, .ref a4, .ref a5, .ref a6, .ref a7, .ref a8, .int (Int32.ofInt 0), .int (Int32.ofInt 0), .int (Int32.ofInt 0), .int (Int32.ofInt 0), .int (Int32.ofInt 0), .int (Int32.ofInt (-1)), .int 0, .int 0, .int 0])) :: [(a0, .inl (cI, (101, .inl fun _ => Int32.ofInt 0))), (a1, .inl (cI, (10, .inl fun _ => Int32.ofInt 0))), (a2, .inl (cI, (1010, .inl fun _ => Int32.ofInt 0))), (a3, .inl (cI, (1200, .inl fun _ => Int32.ofInt 0))), (a4, .inl (cI, (1010, .inl fun _ => Int32.ofInt 0))), (a5, .inl (cI, (1010, .inl fun _ => Int32.ofInt 0))), (a6, .inl (cI, (1010, .inl fun _ => Int32.ofInt 0))), (a7, .inl (cI, (1010, .inl fun _ => Int32.ofInt 0))), (a8, .inl (cI, (1200, .inl fun _ => Int32.ofInt 0)))]) := hD
  refine lv_aload_n X.1 X.2.1 diX2_113 rfl (lv_at hl 0 rfl) ?_
  refine lv_iconst (v := Int32.ofInt (-1)) X.1 X.2.1 diX2_114 bp_iconst_m1 ?_
  refine ct_int (d := 312) (k := 15) X (List.mem_of_getElem? (i := 34) rfl) (Nat.le_of_ble_eq_true rfl) rfl (by first | rfl | exact i_zn (Or.inl rfl)) (by first | rfl | decide) diX2_115 (Nat.le_of_ble_eq_true rfl) hP hD hS (fun H locs hP hD hS => ?_)
  have hP : va_P D cls9 ((h0, .inr (2, [.ref a0, .ref a1, .ref a2, .ref a3, .ref a4, .ref a5, .ref a6, .ref a7, .ref a8, .int (Int32.ofInt 0), .int (Int32.ofInt 0), .int (Int32.ofInt 0), .int (Int32.ofInt 0), .int (Int32.ofInt 0), .int (Int32.ofInt (-1)), .int (Int32.ofInt (-1)), .int 0, .int 0])) :: [(a0, .inl (cI, (101, .inl fun _ => Int32.ofInt 0))), (a1, .inl (cI, (10, .inl fun _ => Int32.ofInt 0))), (a2, .inl (cI, (1010, .inl fun _ => Int32.ofInt 0))), (a3, .inl (cI, (1200, .inl fun _ => Int32.ofInt 0))), (a4, .inl (cI, (1010, .inl fun _ => Int32.ofInt 0))), (a5, .inl (cI, (1010, .inl fun _ => Int32.ofInt 0))), (a6, .inl (cI, (1010, .inl fun _ => Int32.ofInt 0))), (a7, .inl (cI, (1010, .inl fun _ => Int32.ofInt 0))), (a8, .inl (cI, (1200, .inl fun _ => Int32.ofInt 0)))]) H := hP
  have hD : va_D A ((h0, .inr (2, [.ref a0, .ref a1, .ref a2, .ref a3, .ref a4, .ref a5, .ref a6, .ref a7, .ref a8, .int (Int32.ofInt 0), .int (Int32.ofInt 0), .int (Int32.ofInt 0), .int (Int32.ofInt 0), .int (Int32.ofInt 0), .int (Int32.ofInt (-1)), .int (Int32.ofInt (-1)), .int 0, .int 0])) :: [(a0, .inl (cI, (101, .inl fun _ => Int32.ofInt 0))), (a1, .inl (cI, (10, .inl fun _ => Int32.ofInt 0))), (a2, .inl (cI, (1010, .inl fun _ => Int32.ofInt 0))), (a3, .inl (cI, (1200, .inl fun _ => Int32.ofInt 0))), (a4, .inl (cI, (1010, .inl fun _ => Int32.ofInt 0))), (a5, .inl (cI, (1010, .inl fun _ => Int32.ofInt 0))), (a6, .inl (cI, (1010, .inl fun _ => Int32.ofInt 0))), (a7, .inl (cI, (1010, .inl fun _ => Int32.ofInt 0))), (a8, .inl (cI, (1200, .inl fun _ => Int32.ofInt 0)))]) := hD
  refine lv_aload_n X.1 X.2.1 diX2_118 rfl (lv_at hl 0 rfl) ?_
  refine lv_iconst (v := Int32.ofInt 0) X.1 X.2.1 diX2_119 bp_iconst_0 ?_
  refine ct_int (d := 314) (k := 16) X (List.mem_of_getElem? (i := 35) rfl) (Nat.le_of_ble_eq_true rfl) rfl (by first | rfl | exact i_zn (Or.inl rfl)) (by first | rfl | decide) diX2_120 (Nat.le_of_ble_eq_true rfl) hP hD hS (fun H locs hP hD hS => ?_)
  have hP : va_P D cls9 ((h0, .inr (2, [.ref a0, .ref a1, .ref a2, .ref a3, .ref a4, .ref a5, .ref a6, .ref a7, .ref a8, .int (Int32.ofInt 0), .int (Int32.ofInt 0), .int (Int32.ofInt 0), .int (Int32.ofInt 0), .int (Int32.ofInt 0), .int (Int32.ofInt (-1)), .int (Int32.ofInt (-1)), .int (Int32.ofInt 0), .int 0])) :: [(a0, .inl (cI, (101, .inl fun _ => Int32.ofInt 0))), (a1, .inl (cI, (10, .inl fun _ => Int32.ofInt 0))), (a2, .inl (cI, (1010, .inl fun _ => Int32.ofInt 0))), (a3, .inl (cI, (1200, .inl fun _ => Int32.ofInt 0))), (a4, .inl (cI, (1010, .inl fun _ => Int32.ofInt 0))), (a5, .inl (cI, (1010, .inl fun _ => Int32.ofInt 0))), (a6, .inl (cI, (1010, .inl fun _ => Int32.ofInt 0))), (a7, .inl (cI, (1010, .inl fun _ => Int32.ofInt 0))), (a8, .inl (cI, (1200, .inl fun _ => Int32.ofInt 0)))]) H := hP
  have hD : va_D A ((h0, .inr (2, [.ref a0, .ref a1, .ref a2, .ref a3, .ref a4, .ref a5, .ref a6, .ref a7, .ref a8, .int (Int32.ofInt 0), .int (Int32.ofInt 0), .int (Int32.ofInt 0), .int (Int32.ofInt 0), .int (Int32.ofInt 0), .int (Int32.ofInt (-1)), .int (Int32.ofInt (-1)), .int (Int32.ofInt 0), .int 0])) :: [(a0, .inl (cI, (101, .inl fun _ => Int32.ofInt 0))), (a1, .inl (cI, (10, .inl fun _ => Int32.ofInt 0))), (a2, .inl (cI, (1010, .inl fun _ => Int32.ofInt 0))), (a3, .inl (cI, (1200, .inl fun _ => Int32.ofInt 0))), (a4, .inl (cI, (1010, .inl fun _ => Int32.ofInt 0))), (a5, .inl (cI, (1010, .inl fun _ => Int32.ofInt 0))), (a6, .inl (cI, (1010, .inl fun _ => Int32.ofInt 0))), (a7, .inl (cI, (1010, .inl fun _ => Int32.ofInt 0))), (a8, .inl (cI, (1200, .inl fun _ => Int32.ofInt 0)))]) := hD
  refine lv_aload_n X.1 X.2.1 diX2_123 rfl (lv_at hl 0 rfl) ?_
  refine lv_iconst (v := Int32.ofInt 0) X.1 X.2.1 diX2_124 bp_iconst_0 ?_
  refine ct_int (d := 316) (k := 17) X (List.mem_of_getElem? (i := 36) rfl) (Nat.le_of_ble_eq_true rfl) rfl (by first | rfl | exact i_zn (Or.inl rfl)) (by first | rfl | decide) diX2_125 (Nat.le_of_ble_eq_true rfl) hP hD hS (fun H locs hP hD hS => ?_)
  have hP : va_P D cls9 ((h0, .inr (2, [.ref a0, .ref a1, .ref a2, .ref a3, .ref a4, .ref a5, .ref a6, .ref a7, .ref a8, .int (Int32.ofInt 0), .int (Int32.ofInt 0), .int (Int32.ofInt 0), .int (Int32.ofInt 0), .int (Int32.ofInt 0), .int (Int32.ofInt (-1)), .int (Int32.ofInt (-1)), .int (Int32.ofInt 0), .int (Int32.ofInt 0)])) :: [(a0, .inl (cI, (101, .inl fun _ => Int32.ofInt 0))), (a1, .inl (cI, (10, .inl fun _ => Int32.ofInt 0))), (a2, .inl (cI, (1010, .inl fun _ => Int32.ofInt 0))), (a3, .inl (cI, (1200, .inl fun _ => Int32.ofInt 0))), (a4, .inl (cI, (1010, .inl fun _ => Int32.ofInt 0))), (a5, .inl (cI, (1010, .inl fun _ => Int32.ofInt 0))), (a6, .inl (cI, (1010, .inl fun _ => Int32.ofInt 0))), (a7, .inl (cI, (1010, .inl fun _ => Int32.ofInt 0))), (a8, .inl (cI, (1200, .inl fun _ => Int32.ofInt 0)))]) H := hP
  have hD : va_D A ((h0, .inr (2, [.ref a0, .ref a1, .ref a2, .ref a3, .ref a4, .ref a5, .ref a6, .ref a7, .ref a8, .int (Int32.ofInt 0), .int (Int32.ofInt 0), .int (Int32.ofInt 0), .int (Int32.ofInt 0), .int (Int32.ofInt 0), .int (Int32.ofInt (-1)), .int (Int32.ofInt (-1)), .int (Int32.ofInt 0), .int (Int32.ofInt 0)])) :: [(a0, .inl (cI, (101, .inl fun _ => Int32.ofInt 0))), (a1, .inl (cI, (10, .inl fun _ => Int32.ofInt 0))), (a2, .inl (cI, (1010, .inl fun _ => Int32.ofInt 0))), (a3, .inl (cI, (1200, .inl fun _ => Int32.ofInt 0))), (a4, .inl (cI, (1010, .inl fun _ => Int32.ofInt 0))), (a5, .inl (cI, (1010, .inl fun _ => Int32.ofInt 0))), (a6, .inl (cI, (1010, .inl fun _ => Int32.ofInt 0))), (a7, .inl (cI, (1010, .inl fun _ => Int32.ofInt 0))), (a8, .inl (cI, (1200, .inl fun _ => Int32.ofInt 0)))]) := hD
  have hP9 : va_P D cls9 (wc2 cI cZ cJ h0 (fun i => nt 0 [a0, a1, a2, a3, a4, a5, a6, a7, a8] i)) H := hP
  have hD9 : va_D A (wc2 cI cZ cJ h0 (fun i => nt 0 [a0, a1, a2, a3, a4, a5, a6, a7, a8] i)) := hD
  refine W.widen (k := 9) (n := 7561) (by omega) (by omega) ?_
  exact W.vret X.1 X.2.1 hr (fun t ht _ => ⟨⟨(fun i => nt 0 [a0, a1, a2, a3, a4, a5, a6, a7, a8] i), rfl, trivial, (by rw [← ht] at hP9; exact hP9), (by rw [hAe]; exact hD9)⟩, by rw [hAe]; exact hS.F ht⟩) hS.2.2 diX2_128

def wc4 (cI cZ cJ : ClassId) (h0 : Nat) (u : Nat → Nat) : va_W := (h0, .inr (4, [.ref (u 0), .ref (u 3), .int (Int32.ofInt 0)])) :: ((([] : va_W) ++ (wc3 cI cZ cJ (u 0) (fun i => u (i + 1)))) ++ [(u 3, .inl (cI, (1010, .inl fun _ => Int32.ofInt 0)))])
set_option maxHeartbeats 40000000 in
theorem mi4 (l : Launch) (D : va_G) (cI cZ cJ : ClassId) (h0 sz : Nat) : Met l yX4_init (Cond.code yX4_init cX4_init 1 none :: lw_ok) { frames := 2, cells := 4, slots := 1038, locals := 32 } (Pci D cI cZ cJ h0 sz (.inr (4, [.null, .null, .int 0]))) (Qci D h0 sz (.inr (4, [.null, .null, .int 0])) (wc4 cI cZ cJ)) 4 1038 (va_A [(h0, (.inr (4, [.null, .null, .int 0])))] sz) := by
  refine Met.ofW (cc := cX4_init) (maxL := 1) (ret := none) (by decide) rfl ?_
  intro p e s m args below meth c s₁ B hml hv
  obtain ⟨rfl, hsz, hP, hK, hD0, hns⟩ := hv
  have hr := B.returns
  have hlocks := B.notSynchronized
  have hts := atoms_spec (ws := Cond.code yX4_init cX4_init 1 none :: lw_ok) B.pre
  have X : Cy p s m _ meth c D cI cZ cJ cX4_init 4 := ⟨B.exec, B.bytes, hml, findClass_of_methodNamed B.named, fun w hw => hts w (List.mem_cons_of_mem _ hw), hK, (name_of_methodNamed B.named B.method).1, by decide, hns⟩
  subst hsz
  have hD := hD0.self (sz := s.heap.size)
  generalize hAe : va_A [(h0, (.inr (4, [.null, .null, .int 0]) : va_E))] s.heap.size = A at hD ⊢
  have hA : ∀ q : Nat, s.heap.size ≤ q → A q := fun q h => by rw [← hAe]; exact Or.inr h
  have hS : va_S A s.heap s.heap [] := va_S.rf
  have hl := lv_entry ([.ref h0]) (n := 1) (Nat.le_of_ble_eq_true rfl)
  rw [lg_entry_eq]
  generalize (lg_sl ([.ref h0]) ++ List.replicate (1 - (lg_sl ([.ref h0])).length) Slot.unset).toArray = ls at hl ⊢
  have hl : lv_has ls 1 [(0, .ref h0)] := hl
  refine lv_aload_n X.1 X.2.1 diX4_0 rfl (lv_at hl 0 rfl) ?_
  refine ct_obj (d := 276) X (by decide) hl.1 ⟨Nat.le_of_ble_eq_true rfl, Nat.le_of_ble_eq_true rfl⟩ diX4_1 ?_
  refine lv_aload_n X.1 X.2.1 diX4_4 rfl (lv_at hl 0 rfl) ?_
  refine ct_sub (cj := 3) (k := 0) (d := 279) (N := 6) (fs0 := [.null, .null, .int 0, .int 0, .int 0, .int 0]) X (fun q sz => mi3 l D cI cZ cJ q sz) (by decide) rfl (fun j hj => (by decide : ∀ j, j < 6 → defaultValue (clY 3 j) = vp_V [.null, .null, .int 0, .int 0, .int 0, .int 0] j) j hj) (at_in (i := 277) (by decide +kernel) rfl) (at_in (i := 239) (by decide +kernel) rfl) (by first | exact in_in (z := 33) (by decide)) (at_in cow_iX3 rfl) (at_in (i := 241) (by decide +kernel) rfl) (by decide +kernel) (by decide) (List.mem_of_getElem? (i := 43) rfl) (by decide) rfl rfl rfl ⟨Nat.le_of_ble_eq_true rfl, Nat.le_of_ble_eq_true rfl⟩ (by show _ ≤ (4 : Nat); omega) (by show _ ≤ (1038 : Nat); omega) hA hl.1 diX4_5 diX4_8 diX4_9 diX4_12 (Nat.le_of_ble_eq_true rfl) hP hD hS (fun a0 u5 H locs hP hD hS => ?_)
  refine lv_aload_n X.1 X.2.1 diX4_15 rfl (lv_at hl 0 rfl) ?_
  refine lv_sipush (v := Int32.ofInt 1010) X.1 X.2.1 diX4_16 bp_sipush_1010 ?_
  refine ct_arr (ty := .int) (cA := cI) (t0 := 0) (N := 1010) (a0 := (1010, .inl fun _ => Int32.ofInt 0)) (d := 280) (k := 1) X (List.mem_of_getElem? (i := 44) rfl) (Nat.le_of_ble_eq_true rfl) rfl rfl rfl rfl (by simp) rfl (at_in arI rfl) a0I sz_1010.1 sz_1010.2 cbI_1010 (by show _ ≤ (4 : Nat); omega) (by show _ ≤ (1038 : Nat); omega) hA diX4_19 diX4_21 (Nat.le_of_ble_eq_true rfl) hP hD hS (fun a3 H locs hP hD hS => ?_)
  refine lv_aload_n X.1 X.2.1 diX4_24 rfl (lv_at hl 0 rfl) ?_
  refine lv_iconst (v := Int32.ofInt 0) X.1 X.2.1 diX4_25 bp_iconst_0 ?_
  refine ct_int (d := 281) (k := 2) X (List.mem_of_getElem? (i := 45) rfl) (Nat.le_of_ble_eq_true rfl) rfl (by first | rfl | exact i_zn (Or.inl rfl)) (by first | rfl | decide) diX4_26 (Nat.le_of_ble_eq_true rfl) hP hD hS (fun H locs hP hD hS => ?_)
  have hP9 : va_P D cls9 (wc4 cI cZ cJ h0 (fun i => nt 0 [a0, (u5 0), (u5 1), a3] i)) H := hP
  have hD9 : va_D A (wc4 cI cZ cJ h0 (fun i => nt 0 [a0, (u5 0), (u5 1), a3] i)) := hD
  refine W.widen (k := 4) (n := 1038) (by omega) (by omega) ?_
  exact W.vret X.1 X.2.1 hr (fun t ht _ => ⟨⟨(fun i => nt 0 [a0, (u5 0), (u5 1), a3] i), rfl, trivial, (by rw [← ht] at hP9; exact hP9), (by rw [hAe]; exact hD9)⟩, by rw [hAe]; exact hS.F ht⟩) hS.2.2 diX4_29

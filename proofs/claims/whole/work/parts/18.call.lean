/-! a call: the callee's run as a contract -/
abbrev tys3 (cI cZ cJ : ClassId) : List (ClassId × FieldType) := [(cI, .int), (cZ, .boolean), (cJ, .long)]
def wsZ (z : Nat) : List Cond := Cond.code (nam z) (cod z) (mxl z) (rty z) :: lw_ok
def rmZ (d : Nat) : Room := { frames := d + 1, cells := 0, slots := 0, locals := 34 * d + 40 }
def PcZ (D : va_G) (ad : Nat → Nat) (cI cZ cJ : ClassId) (M : Me) (as : List AV) (sz : Nat) : Array Value → State → Prop := va_Pc (as.map (cvv ad)) (fun U => U.heap.size = sz ∧ va_P D cls9 (wsM ad cI cZ cJ M) U.heap ∧ va_K D cls9 (tys3 cI cZ cJ) U ∧ va_D (fun _ => True) (wsM ad cI cZ cJ M) ∧ va_Nw nsF U ∧ va_Nw nsM U)
def QcI (D : va_G) (ad : Nat → Nat) (cI cZ cJ : ClassId) (S M : Me) (Q : Int → Me → Prop) (sz : Nat) : Array Value → State → Outcome → State → Prop := va_Qi (S := Int × Me) (fun r u => r = Int32.ofInt u.1 ∧ Q u.1 u.2 ∧ (-2147483648 ≤ u.1 ∧ u.1 < 2147483648) ∧ okM S u.2) (fun u t => va_P D cls9 (wsM ad cI cZ cJ u.2) t.heap) (va_A (wsM ad cI cZ cJ M) sz)
def QcV (D : va_G) (ad : Nat → Nat) (cI cZ cJ : ClassId) (S M : Me) (Q : Int → Me → Prop) (sz : Nat) : Array Value → State → Outcome → State → Prop := va_Qv (S := Int × Me) (fun u => Q u.1 u.2 ∧ okM S u.2) (fun u t => va_P D cls9 (wsM ad cI cZ cJ u.2) t.heap) (va_A (wsM ad cI cZ cJ M) sz)
theorem tbZ : ((List.range 133).all fun z => decide ((nam z).cls = clR (ow z) ∧ plainName (nam z).cls = true ∧ (nam z).cls ≠ "java/lang/invoke/MethodHandle" ∧ (nam z).cls ≠ "java/lang/invoke/VarHandle" ∧ nar z ≤ mxl z ∧ mxl z ≤ 15 ∧ (parseMethodDescriptor (nam z).desc).map (fun d => d.parameters.length) = some (if ist z then nar z else nar z - 1) ∧ (z ≠ 0 → bpc z 0 = 0))) = true := by decide +kernel
theorem tbz {z : Nat} (h : z < 133) : (nam z).cls = clR (ow z) ∧ plainName (nam z).cls = true ∧ (nam z).cls ≠ "java/lang/invoke/MethodHandle" ∧ (nam z).cls ≠ "java/lang/invoke/VarHandle" ∧ nar z ≤ mxl z ∧ mxl z ≤ 15 ∧ (parseMethodDescriptor (nam z).desc).map (fun d => d.parameters.length) = some (if ist z then nar z else nar z - 1) ∧ (z ≠ 0 → bpc z 0 = 0) := of_decide_eq_true (List.all_eq_true.mp tbZ z (List.mem_range.mpr h))
/-- the script, where the law runs -/
def Sc (s : State) (H0 : Heap) (A : Nat → Prop) (ad : Nat → Nat) (S : Me) (y : Nat) : Prop := y = 0 → ∃ (L : Nat) (xs : Nat → Int32), va_X (ad 99) L xs s H0 ∧ ad 99 < H0.size ∧ ¬ A (ad 99) ∧ L ≤ 3072 ∧ S 98 0 = L ∧ ∀ j : Nat, j < L → S 99 j = (xs j).toInt
def Kr (p : Program) (l : Launch) (e : Env) (R : Room) (s : State) (m : MethodId) (args : Array Value) (below : List Frame) (meth : Method) (c : Code) (cells slots : Nat) (QQ : State → Prop) (H0 : Heap) (A : Nat → Prop) (D : va_G) (ad : Nat → Nat) (cI cZ cJ : ClassId) (S : Me) (y : Nat) (Q : Int → Me → Prop) : Prop :=
  ∀ (v : Int) (M : Me) (pc : Nat) (ls : Array Slot) (H : Heap) (locs : List Loc), Q v M → (-2147483648 ≤ v ∧ v < 2147483648) → Wd D A H0 ad cI cZ cJ S M H locs →
    (rty y = none → decode (cod y) pc = .ok (.return_, 1) → W p l e R s m args below meth c H locs cells slots QQ (F0 m pc ls [])) ∧
    (∀ ty, rty y = some ty → narrow ty (.int (Int32.ofInt v)) = .int (Int32.ofInt v) → decode (cod y) pc = .ok (.ireturn, 1) → W p l e R s m args below meth c H locs cells slots QQ (F0 m pc ls [.int (Int32.ofInt v)]))
def Snd (l : Launch) (S : Me) (n : Nat) : Prop := ∀ (d : Nat) (ops : List Op) (y : Nat) (lo : Lo) (st : St) (M : Me) (Q : Int → Me → Prop), wpf n d ops y lo st M Q → ∀ (p : Program) (e : Env) (R : Room) (s : State) (m : MethodId) (args : Array Value) (below : List Frame) (meth : Method) (c : Code) (cells slots : Nat) (QQ : State → Prop) (H0 : Heap) (A : Nat → Prop) (D : va_G) (ad : Nat → Nat) (cI cZ cJ : ClassId) (pc : Nat), Cx p R s m args c cells slots D cI cZ cJ y d → okB y ops pc = true → Sc s H0 A ad S y → y < 133 → (∀ q, H0.size ≤ q → A q) → lo.length = mxl y → Kr p l e R s m args below meth c cells slots QQ H0 A D ad cI cZ cJ S y Q → GG p l e R s m args below meth c cells slots QQ H0 A D ad cI cZ cJ S pc lo st M
theorem nlg_cat {ad : Nat → Nat} : ∀ {as : List AV}, nlg as = true → ∀ v ∈ as, (cvv ad v).category = 1
  | [], _, v, h => by simp at h
  | .inl x :: l, h, v, hv => by
    rcases List.mem_cons.mp hv with rfl | h2
    · rfl
    · exact nlg_cat (as := l) h v h2
  | .inr (.inr x) :: l, h, v, hv => by
    rcases List.mem_cons.mp hv with rfl | h2
    · rfl
    · exact nlg_cat (as := l) h v h2
theorem sl_len : ∀ (vs : List Value), (∀ v ∈ vs, v.category = 1) → (lg_sl vs).length = vs.length
  | [], _ => rfl
  | v :: vs, h => by
    have h1 := h v List.mem_cons_self
    have h2 := sl_len vs (fun u hu => h u (List.mem_cons_of_mem _ hu))
    unfold lg_sl at h2 ⊢
    rw [List.flatMap_cons, if_neg (by omega), List.length_append, h2]
    simp; omega
theorem args_mem : ∀ (vs : List Value) (i : Nat), (∀ v ∈ vs, v.category = 1) → ∀ (j : Nat) (v : Value), vs[j]? = some v → (i + j, v) ∈ lv_args i vs
  | [], _, _, _, _, h => by simp at h
  | u :: vs, i, h, 0, v, hv => by
    simp at hv
    subst hv
    exact List.mem_cons_self
  | u :: vs, i, h, j + 1, v, hv => by
    have h1 := h u List.mem_cons_self
    have h2 := args_mem vs (i + 1) (fun w hw => h w (List.mem_cons_of_mem _ hw)) j v (by simpa using hv)
    unfold lv_args
    rw [if_neg (by omega), show i + (j + 1) = i + 1 + j by omega]
    exact List.mem_cons_of_mem _ h2
theorem en_len {z : Nat} {as : List AV} (h : as.length ≤ mxl z) : (en z as).length = mxl z := by
  simp [en]; omega
theorem en_get {z : Nat} {as : List AV} {i : Nat} {v : AV} (h : lg (en z as) i = some v) : as[i]? = some v := by
  rw [lg_iff] at h
  unfold en at h
  rcases Nat.lt_or_ge i as.length with h1 | h1
  · rw [List.getElem?_append_left (by simpa using h1), List.getElem?_map] at h
    cases q : as[i]? with
    | none => rw [q] at h; simp at h
    | some u => rw [q] at h; simp at h; rw [h]
  · rw [List.getElem?_append_right (by simpa using h1), List.getElem?_replicate] at h
    split at h <;> simp at h
section MZ
variable {l : Launch} {S : Me} {n d z : Nat} {as : List AV} {M : Me} {Q : Int → Me → Prop} {D : va_G} {ad : Nat → Nat} {cI cZ cJ : ClassId}
theorem metW (IH : Snd l S n) (h : wpf n d (blk z 0) z (en z as) [] M Q) (hz : z < 133) (hz0 : z ≠ 0) (hok : okB z (blk z 0) (bpc z 0) = true) (hn : as.length = nar z) (hg : nlg as = true) (hs : okS as) (hM : okM S M) {sz : Nat} {Qc : Array Value → State → Outcome → State → Prop}
    (hR : ∀ (p : Program) (e : Env) (s : State) (m : MethodId) (args : Array Value) (below : List Frame) (meth : Method) (c : Code) (s₁ : State), BodyLoose p l (nam z) (headSpec (wsZ z) (rmZ d)) (cod z) (mxl z) (rty z) e s m args below meth c s₁ → s.heap.size = sz → Kr p l e (rmZ d) s m args below meth c 0 0 (MQ below Qc args s 0 0 (va_A (wsM ad cI cZ cJ M) sz)) s.heap (va_A (wsM ad cI cZ cJ M) sz) D ad cI cZ cJ S z Q) :
    Met l (nam z) (wsZ z) (rmZ d) (PcZ D ad cI cZ cJ M as sz) Qc 0 0 (va_A (wsM ad cI cZ cJ M) sz) := by
  obtain ⟨t1, t2, t3, t4, t5, t6, t7, t8⟩ := tbz hz
  refine Met.ofW (cc := cod z) (maxL := mxl z) (ret := rty z) t2 rfl ?_
  intro p e s m args below meth c s₁ B hml hv
  obtain ⟨hav, hsz, hP, hK, hD0, hn1, hn2⟩ := hv
  have hts := atoms_spec (ws := wsZ z) B.pre
  have hown : s.vm.findClass (clR (ow z)) = some m.cls := by rw [← t1]; exact findClass_of_methodNamed B.named
  have hkr := hR p e s m args below meth c s₁ B hsz
  subst hav
  have X : Cx p (rmZ d) s m (as.map (cvv ad)).toArray c 0 0 D cI cZ cJ z d := ⟨B.exec, B.bytes, hml, hown, fun w hw => hts w (List.mem_cons_of_mem _ hw), hK, ⟨Nat.le_refl _, Nat.le_refl _, Nat.le_refl _, Nat.le_refl _⟩, hn1, hn2⟩
  have hA : ∀ q, s.heap.size ≤ q → va_A (wsM ad cI cZ cJ M) sz q := fun q hq => Or.inr (by omega)
  have hc1 : ∀ v ∈ as.map (cvv ad), v.category = 1 := by
    intro v hv
    obtain ⟨u, hu, rfl⟩ := List.mem_map.mp hv
    exact nlg_cat hg u hu
  have hlen := sl_len _ hc1
  have hl := lv_entry (as.map (cvv ad)) (n := mxl z) (by rw [hlen, List.length_map]; omega)
  rw [lg_entry_eq]
  generalize (lg_sl (as.map (cvv ad)) ++ List.replicate (mxl z - (lg_sl (as.map (cvv ad))).length) Slot.unset).toArray = ls at hl ⊢
  have hl2 : lv_has ls (en z as).length (prs ad (en z as)) := by
    rw [en_len (by omega)]
    refine ⟨hl.1, hl.2.1, fun q hq => hl.2.2 q ?_⟩
    obtain ⟨i, u⟩ := q
    obtain ⟨v, hv, rfl⟩ := mem_prs.mp hq
    have h1 := args_mem (as.map (cvv ad)) 0 hc1 i (cvv ad v) (by rw [List.getElem?_map, en_get hv]; rfl)
    rw [Nat.zero_add] at h1
    exact h1
  have h9 := IH d (blk z 0) z (en z as) [] M Q h p e (rmZ d) s m _ below meth c 0 0 _ s.heap _ D ad cI cZ cJ (bpc z 0) X hok (fun q => absurd q hz0) hz hA (en_len (by omega)) hkr ls s.heap [] hl2 okS_nil (fun i v hv => hs v (List.mem_of_getElem? (en_get hv))) ⟨hP, hD0.self, va_S.rf, hM⟩
  rw [t8 hz0] at h9
  exact h9
theorem metI (IH : Snd l S n) (h : wpf n d (blk z 0) z (en z as) [] M Q) (hz : z < 133) (hz0 : z ≠ 0) (hok : okB z (blk z 0) (bpc z 0) = true) (hn : as.length = nar z) (hg : nlg as = true) (hs : okS as) (hM : okM S M) (sz : Nat) {ty : FieldType} (hr : rty z = some ty) :
    Met l (nam z) (wsZ z) (rmZ d) (PcZ D ad cI cZ cJ M as sz) (QcI D ad cI cZ cJ S M Q sz) 0 0 (va_A (wsM ad cI cZ cJ M) sz) := by
  refine metW IH h hz hz0 hok hn hg hs hM ?_
  intro p e s m args below meth c s₁ B hsz v M2 pc ls H locs hq hv hw
  have hlocks := B.notSynchronized
  refine ⟨fun h1 => (by rw [hr] at h1; cases h1), fun ty' h1 hnar hd => ?_⟩
  exact W.zret (ty := ty') B.exec B.bytes (by rw [B.returns]; exact h1) hnar (fun t ht _ => ⟨⟨Int32.ofInt v, (v, M2), rfl, ⟨rfl, hq, hv, hw.2.2.2⟩, (by have h8 := hw.1; rw [← ht] at h8; exact h8)⟩, hw.2.2.1.F ht⟩) hw.2.2.1.2.2 hd hlocks
theorem metV (IH : Snd l S n) (h : wpf n d (blk z 0) z (en z as) [] M Q) (hz : z < 133) (hz0 : z ≠ 0) (hok : okB z (blk z 0) (bpc z 0) = true) (hn : as.length = nar z) (hg : nlg as = true) (hs : okS as) (hM : okM S M) (sz : Nat) (hr : rty z = none) :
    Met l (nam z) (wsZ z) (rmZ d) (PcZ D ad cI cZ cJ M as sz) (QcV D ad cI cZ cJ S M Q sz) 0 0 (va_A (wsM ad cI cZ cJ M) sz) := by
  refine metW IH h hz hz0 hok hn hg hs hM ?_
  intro p e s m args below meth c s₁ B hsz v M2 pc ls H locs hq hv hw
  have hlocks := B.notSynchronized
  refine ⟨fun h1 hd => ?_, fun ty' h1 => (by rw [hr] at h1; cases h1)⟩
  exact W.vret B.exec B.bytes (by rw [B.returns]; exact h1) (fun t ht _ => ⟨⟨(v, M2), rfl, ⟨hq, hw.2.2.2⟩, (by have h8 := hw.1; rw [← ht] at h8; exact h8)⟩, hw.2.2.1.F ht⟩) hw.2.2.1.2.2 hd hlocks
end MZ

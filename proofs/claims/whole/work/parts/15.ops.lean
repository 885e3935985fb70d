def nsF : Cond := .fieldLinkNest "FloodCells" 211 "FloodCells$Flight" "gone" "[I" "FloodCells"
def nsM : Cond := .methodLinkNest "FloodCells$Bodies" 48 (nam 76) "FloodCells"
/-- what stays while a method runs: the machine, its code, the words, the room for calls d deep -/
def Cx (p : Program) (R : Room) (s : State) (m : MethodId) (args : Array Value) (c : Code) (cells slots : Nat) (D : va_G) (cI cZ cJ : ClassId) (y d : Nat) : Prop :=
  p.tables.exec = Jvm.exec ∧ c.code = cod y ∧ c.maxLocals = mxl y ∧ s.vm.findClass (clR (ow y)) = some m.cls ∧ (∀ w ∈ lw_ok, w.before args s = true) ∧ va_K D cls9 [(cI, .int), (cZ, .boolean), (cJ, .long)] s ∧ (d + 1 ≤ R.frames ∧ 34 * d + 40 ≤ R.locals ∧ cells ≤ R.cells ∧ slots ≤ R.slots) ∧ va_Nw nsF s ∧ va_Nw nsM s
def Wd (D : va_G) (A : Nat → Prop) (H0 : Heap) (ad : Nat → Nat) (cI cZ cJ : ClassId) (S M : Me) (H : Heap) (locs : List Loc) : Prop :=
  va_P D cls9 (wsM ad cI cZ cJ M) H ∧ va_D A (wsM ad cI cZ cJ M) ∧ va_S A H0 H locs ∧ okM S M
section GR
variable {p : Program} {l : Launch} {e : Env} {R : Room} {s : State} {m : MethodId} {args : Array Value} {below : List Frame} {meth : Method} {c : Code} {cells slots : Nat} {QQ : State → Prop} {H0 : Heap} {A : Nat → Prop} {D : va_G} {ad : Nat → Nat} {cI cZ cJ : ClassId} {S : Me} {y d pc : Nat} {lo : Lo} {st : St} {M : Me}
def G (p : Program) (l : Launch) (e : Env) (R : Room) (s : State) (m : MethodId) (args : Array Value) (below : List Frame) (meth : Method) (c : Code) (cells slots : Nat) (QQ : State → Prop) (H0 : Heap) (A : Nat → Prop) (D : va_G) (ad : Nat → Nat) (cI cZ cJ : ClassId) (S : Me) (pc : Nat) (lo : Lo) (st : St) (M : Me) : Prop :=
  ∀ (ls : Array Slot) (H : Heap) (locs : List Loc), lv_has ls lo.length (prs ad lo) → okS st → okO lo → Wd D A H0 ad cI cZ cJ S M H locs → W p l e R s m args below meth c H locs cells slots QQ (F0 m pc ls (st.map (cvv ad)))
theorem pr_at {ls : Array Slot} {n i : Nat} {v : AV} (hl : lv_has ls n (prs ad lo)) (h : lg lo i = some v) : ls[i]? = some (.val (cvv ad v)) := hl.2.2 (i, cvv ad v) (mem_prs.mpr ⟨v, h, rfl⟩)
theorem pr_set {ls : Array Slot} {i : Nat} {v : AV} (hp : lp lo i = false) (hl : lv_has ls lo.length ((i, cvv ad v) :: (prs ad lo).filter (fun q => !(q.1 == i) && !(q.1 + 1 == i && q.2.category == 2)))) : lv_has ls (lz lo i v).length (prs ad (lz lo i v)) := by
  rw [lz_len]
  refine ⟨hl.1, hl.2.1, fun q hq => hl.2.2 q ?_⟩
  obtain ⟨j, u⟩ := q
  obtain ⟨w, hw, rfl⟩ := mem_prs.mp hq
  by_cases hj : j = i
  · subst hj
    rw [lz_at lo j v w hw]
    exact List.mem_cons_self
  · rw [lz_get lo i v j hj] at hw
    refine List.mem_cons_of_mem _ (List.mem_filter.mpr ⟨mem_prs.mpr ⟨w, hw, rfl⟩, ?_⟩)
    have h1 : (j == i) = false := by simpa using hj
    have h2 : (j + 1 == i && (cvv ad w).category == 2) = false := by
      by_cases h3 : j + 1 = i
      · subst h3
        have h4 : isL (lg lo j) = false := hp
        rw [hw] at h4
        match w, h4 with
        | .inl x, _ => simp [cvv, Value.category]
        | .inr (.inr x), _ => simp [cvv, Value.category]
        | .inr (.inl x), h4 => simp [isL] at h4
      · simp [h3]
    simp [h1, h2]
theorem pr_setL {ls : Array Slot} {i : Nat} {x : Int} (hp : lp lo i = false) (hl : lv_has ls lo.length ((i, cvv ad (.inr (.inl x))) :: (prs ad lo).filter (fun q => !(q.1 == i) && (!(q.1 == i + 1) && !(q.1 + 1 == i && q.2.category == 2))))) : lv_has ls (ly (lz lo i (.inr (.inl x))) (i + 1)).length (prs ad (ly (lz lo i (.inr (.inl x))) (i + 1))) := by
  rw [ly_len, lz_len]
  refine ⟨hl.1, hl.2.1, fun q hq => hl.2.2 q ?_⟩
  obtain ⟨j, u⟩ := q
  obtain ⟨w, hw, rfl⟩ := mem_prs.mp hq
  have hj1 : j ≠ i + 1 := by
    intro q
    subst q
    rw [ly_at] at hw
    cases hw
  rw [ly_get _ _ _ hj1] at hw
  by_cases hj : j = i
  · subst hj
    rw [lz_at lo j _ w hw]
    exact List.mem_cons_self
  · rw [lz_get lo i _ j hj] at hw
    refine List.mem_cons_of_mem _ (List.mem_filter.mpr ⟨mem_prs.mpr ⟨w, hw, rfl⟩, ?_⟩)
    have h1 : (j == i) = false := by simpa using hj
    have h5 : (j == i + 1) = false := by simpa using hj1
    have h2 : (j + 1 == i && (cvv ad w).category == 2) = false := by
      by_cases h3 : j + 1 = i
      · subst h3
        have h4 : isL (lg lo j) = false := hp
        rw [hw] at h4
        match w, h4 with
        | .inl x, _ => simp [cvv, Value.category]
        | .inr (.inr x), _ => simp [cvv, Value.category]
        | .inr (.inl x), h4 => simp [isL] at h4
      · simp [h3]
    simp [h1, h2, h5]
abbrev GG (p : Program) (l : Launch) (e : Env) (R : Room) (s : State) (m : MethodId) (args : Array Value) (below : List Frame) (meth : Method) (c : Code) (cells slots : Nat) (QQ : State → Prop) (H0 : Heap) (A : Nat → Prop) (D : va_G) (ad : Nat → Nat) (cI cZ cJ : ClassId) (S : Me) : Nat → Lo → St → Me → Prop := G p l e R s m args below meth c cells slots QQ H0 A D ad cI cZ cJ S
variable (X : Cx p R s m args c cells slots D cI cZ cJ y d)
theorem G_iload_n {k : Fin 4} {x : Int} (X : Cx p R s m args c cells slots D cI cZ cJ y d) (hd : decode (cod y) pc = .ok (.iload_n k, 1)) (h : lg lo k.val = some (.inl x)) (kk : GG p l e R s m args below meth c cells slots QQ H0 A D ad cI cZ cJ S (pc + 1) lo (.inl x :: st) M) : GG p l e R s m args below meth c cells slots QQ H0 A D ad cI cZ cJ S pc lo st M := by
  intro ls H locs hl hs ho hw
  exact lv_iload_n X.1 X.2.1 hd rfl (pr_at hl h) (kk ls H locs hl (hs.push (ho _ _ h)) ho hw)
theorem G_iload {k : Nat} {x : Int} (X : Cx p R s m args c cells slots D cI cZ cJ y d) (hd : decode (cod y) pc = .ok (.iload k, 2)) (h : lg lo k = some (.inl x)) (kk : GG p l e R s m args below meth c cells slots QQ H0 A D ad cI cZ cJ S (pc + 2) lo (.inl x :: st) M) : GG p l e R s m args below meth c cells slots QQ H0 A D ad cI cZ cJ S pc lo st M := by
  intro ls H locs hl hs ho hw
  exact lv_iload X.1 X.2.1 hd (pr_at hl h) (kk ls H locs hl (hs.push (ho _ _ h)) ho hw)
theorem G_aload_n {k : Fin 4} {x : Nat} (X : Cx p R s m args c cells slots D cI cZ cJ y d) (hd : decode (cod y) pc = .ok (.aload_n k, 1)) (h : lg lo k.val = some (.inr (.inr x))) (kk : GG p l e R s m args below meth c cells slots QQ H0 A D ad cI cZ cJ S (pc + 1) lo (.inr (.inr x) :: st) M) : GG p l e R s m args below meth c cells slots QQ H0 A D ad cI cZ cJ S pc lo st M := by
  intro ls H locs hl hs ho hw
  exact lv_aload_n X.1 X.2.1 hd rfl (pr_at hl h) (kk ls H locs hl (hs.push trivial) ho hw)
theorem G_aload {k : Nat} {x : Nat} (X : Cx p R s m args c cells slots D cI cZ cJ y d) (hd : decode (cod y) pc = .ok (.aload k, 2)) (h : lg lo k = some (.inr (.inr x))) (kk : GG p l e R s m args below meth c cells slots QQ H0 A D ad cI cZ cJ S (pc + 2) lo (.inr (.inr x) :: st) M) : GG p l e R s m args below meth c cells slots QQ H0 A D ad cI cZ cJ S pc lo st M := by
  intro ls H locs hl hs ho hw
  exact lv_aload X.1 X.2.1 hd (pr_at hl h) (kk ls H locs hl (hs.push trivial) ho hw)
theorem G_lload {k : Nat} {x : Int} (X : Cx p R s m args c cells slots D cI cZ cJ y d) (hd : decode (cod y) pc = .ok (.lload k, 2)) (h : lg lo k = some (.inr (.inl x))) (kk : GG p l e R s m args below meth c cells slots QQ H0 A D ad cI cZ cJ S (pc + 2) lo (.inr (.inl x) :: st) M) : GG p l e R s m args below meth c cells slots QQ H0 A D ad cI cZ cJ S pc lo st M := by
  intro ls H locs hl hs ho hw
  exact lv_lload X.1 X.2.1 hd (pr_at hl h) (kk ls H locs hl (hs.push (ho _ _ h)) ho hw)
theorem G_istore_n {k : Fin 4} {x : Int} (X : Cx p R s m args c cells slots D cI cZ cJ y d) (hd : decode (cod y) pc = .ok (.istore_n k, 1)) (hp : lp lo k.val = false) (hn : k.val < lo.length) (kk : GG p l e R s m args below meth c cells slots QQ H0 A D ad cI cZ cJ S (pc + 1) (lz lo k.val (.inl x)) st M) : GG p l e R s m args below meth c cells slots QQ H0 A D ad cI cZ cJ S pc lo (.inl x :: st) M := by
  intro ls H locs hl hs ho hw
  exact lv_istore_n X.1 X.2.1 hd rfl hl hn rfl (fun ls' hl' => kk ls' H locs (pr_set (v := .inl x) hp hl') hs.tail (ho.set hs.head) hw)
theorem G_istore {k : Nat} {x : Int} (X : Cx p R s m args c cells slots D cI cZ cJ y d) (hd : decode (cod y) pc = .ok (.istore k, 2)) (hp : lp lo k = false) (hn : k < lo.length) (kk : GG p l e R s m args below meth c cells slots QQ H0 A D ad cI cZ cJ S (pc + 2) (lz lo k (.inl x)) st M) : GG p l e R s m args below meth c cells slots QQ H0 A D ad cI cZ cJ S pc lo (.inl x :: st) M := by
  intro ls H locs hl hs ho hw
  exact lv_istore X.1 X.2.1 hd hl hn rfl (fun ls' hl' => kk ls' H locs (pr_set (v := .inl x) hp hl') hs.tail (ho.set hs.head) hw)
theorem G_astore_n {k : Fin 4} {x : Nat} (X : Cx p R s m args c cells slots D cI cZ cJ y d) (hd : decode (cod y) pc = .ok (.astore_n k, 1)) (hp : lp lo k.val = false) (hn : k.val < lo.length) (kk : GG p l e R s m args below meth c cells slots QQ H0 A D ad cI cZ cJ S (pc + 1) (lz lo k.val (.inr (.inr x))) st M) : GG p l e R s m args below meth c cells slots QQ H0 A D ad cI cZ cJ S pc lo (.inr (.inr x) :: st) M := by
  intro ls H locs hl hs ho hw
  exact lv_astore_n X.1 X.2.1 hd rfl hl hn rfl (fun ls' hl' => kk ls' H locs (pr_set (v := .inr (.inr x)) hp hl') hs.tail (ho.set hs.head) hw)
theorem G_lstore {k : Nat} {x : Int} (X : Cx p R s m args c cells slots D cI cZ cJ y d) (hd : decode (cod y) pc = .ok (.lstore k, 2)) (hp : lp lo k = false) (hn : k + 1 < lo.length) (kk : GG p l e R s m args below meth c cells slots QQ H0 A D ad cI cZ cJ S (pc + 2) (ly (lz lo k (.inr (.inl x))) (k + 1)) st M) : GG p l e R s m args below meth c cells slots QQ H0 A D ad cI cZ cJ S pc lo (.inr (.inl x) :: st) M := by
  intro ls H locs hl hs ho hw
  exact lv_lstore X.1 X.2.1 hd hl hn rfl (fun ls' hl' => kk ls' H locs (pr_setL hp hl') hs.tail (ho.set (v := .inr (.inl x)) hs.head).clr hw)
theorem G_iconst {v : Int} (X : Cx p R s m args c cells slots D cI cZ cJ y d) (hd : decode (cod y) pc = .ok (.iconst v, 1)) (hv : -1 ≤ v ∧ v ≤ 5) (kk : GG p l e R s m args below meth c cells slots QQ H0 A D ad cI cZ cJ S (pc + 1) lo (.inl v :: st) M) : GG p l e R s m args below meth c cells slots QQ H0 A D ad cI cZ cJ S pc lo st M := by
  intro ls H locs hl hs ho hw
  exact lv_iconst X.1 X.2.1 hd rfl (kk ls H locs hl (hs.push (v := .inl v) ⟨by omega, by omega⟩) ho hw)
theorem G_bipush {v : Int} (X : Cx p R s m args c cells slots D cI cZ cJ y d) (hd : decode (cod y) pc = .ok (.bipush v, 2)) (hv : -128 ≤ v ∧ v ≤ 127) (kk : GG p l e R s m args below meth c cells slots QQ H0 A D ad cI cZ cJ S (pc + 2) lo (.inl v :: st) M) : GG p l e R s m args below meth c cells slots QQ H0 A D ad cI cZ cJ S pc lo st M := by
  intro ls H locs hl hs ho hw
  refine lv_bipush X.1 X.2.1 hd ?_ (kk ls H locs hl (hs.push (v := .inl v) ⟨by omega, by omega⟩) ho hw)
  apply Int32.toInt_inj.mp
  rw [i_of ⟨by omega, by omega⟩, Int8.toInt_toInt32, Int8.toInt_ofInt_of_le (by omega) (by omega)]
theorem G_sipush {v : Int} (X : Cx p R s m args c cells slots D cI cZ cJ y d) (hd : decode (cod y) pc = .ok (.sipush v, 3)) (hv : -32768 ≤ v ∧ v ≤ 32767) (kk : GG p l e R s m args below meth c cells slots QQ H0 A D ad cI cZ cJ S (pc + 3) lo (.inl v :: st) M) : GG p l e R s m args below meth c cells slots QQ H0 A D ad cI cZ cJ S pc lo st M := by
  intro ls H locs hl hs ho hw
  refine lv_sipush X.1 X.2.1 hd ?_ (kk ls H locs hl (hs.push (v := .inl v) ⟨by omega, by omega⟩) ho hw)
  apply Int32.toInt_inj.mp
  rw [i_of ⟨by omega, by omega⟩, Int16.toInt_toInt32, Int16.toInt_ofInt_of_le (by omega) (by omega)]
theorem csL_in {q : (Nat × Nat × Int) × Nat} (h : q ∈ csL) : Cond.constant (clR q.1.1) q.1.2.1 (Int32.ofInt q.1.2.2) ∈ lw_ok := by
  have := List.all_eq_true.mp csL_ok q h
  exact at_in (of_decide_eq_true this) rfl
theorem clL_in {q : (Nat × Nat × Int) × Nat} (h : q ∈ clL) : Cond.constantLong (clR q.1.1) q.1.2.1 (Int64.ofInt q.1.2.2) ∈ lw_ok := by
  have := List.all_eq_true.mp clL_ok q h
  exact at_in (of_decide_eq_true this) rfl
theorem G_ldc {ix : Nat} {v : Int} (X : Cx p R s m args c cells slots D cI cZ cJ y d) (hd : decode (cod y) pc = .ok (.ldc ix, 2)) (hv : -2147483648 ≤ v ∧ v < 2147483648) (hc : (csL.any fun q => decide (q.1 = (ow y, ix, v))) = true) (kk : GG p l e R s m args below meth c cells slots QQ H0 A D ad cI cZ cJ S (pc + 2) lo (.inl v :: st) M) : GG p l e R s m args below meth c cells slots QQ H0 A D ad cI cZ cJ S pc lo st M := by
  intro ls H locs hl hs ho hw
  obtain ⟨q, hq, e⟩ := List.any_eq_true.mp hc
  have e := of_decide_eq_true e
  have h1 := csL_in hq
  rw [e] at h1
  exact lv_ldc X.1 X.2.1 X.2.2.2.1 (X.2.2.2.2.1 _ h1) hd (kk ls H locs hl (hs.push (v := .inl v) hv) ho hw)
theorem G_ldc2 {ix : Nat} {v : Int} (X : Cx p R s m args c cells slots D cI cZ cJ y d) (hd : decode (cod y) pc = .ok (.ldc2_w ix, 3)) (hv : -2147483648 ≤ v ∧ v < 2147483648) (hc : (clL.any fun q => decide (q.1 = (ow y, ix, v))) = true) (kk : GG p l e R s m args below meth c cells slots QQ H0 A D ad cI cZ cJ S (pc + 3) lo (.inr (.inl v) :: st) M) : GG p l e R s m args below meth c cells slots QQ H0 A D ad cI cZ cJ S pc lo st M := by
  intro ls H locs hl hs ho hw
  obtain ⟨q, hq, e⟩ := List.any_eq_true.mp hc
  have e := of_decide_eq_true e
  have h1 := clL_in hq
  rw [e] at h1
  exact lv_ldc2 X.1 X.2.1 X.2.2.2.1 (X.2.2.2.2.1 _ h1) hd (kk ls H locs hl (hs.push (v := .inr (.inl v)) ⟨by omega, by omega⟩) ho hw)
theorem G_lconst {n : Fin 2} (X : Cx p R s m args c cells slots D cI cZ cJ y d) (hd : decode (cod y) pc = .ok (.lconst n, 1)) (kk : GG p l e R s m args below meth c cells slots QQ H0 A D ad cI cZ cJ S (pc + 1) lo (.inr (.inl (n.val : Int)) :: st) M) : GG p l e R s m args below meth c cells slots QQ H0 A D ad cI cZ cJ S pc lo st M := by
  intro ls H locs hl hs ho hw
  have hn := n.isLt
  exact lv_lconst X.1 X.2.1 hd rfl (kk ls H locs hl (hs.push (v := .inr (.inl (n.val : Int))) ⟨by omega, by omega⟩) ho hw)
theorem G_iinc {k : Nat} {v x : Int} (X : Cx p R s m args c cells slots D cI cZ cJ y d) (hd : decode (cod y) pc = .ok (.iinc k v, 3)) (h : lg lo k = some (.inl x)) (hv : -32768 ≤ v ∧ v ≤ 32767) (hp : lp lo k = false) (hn : k < lo.length) (kk : GG p l e R s m args below meth c cells slots QQ H0 A D ad cI cZ cJ S (pc + 3) (lz lo k (.inl (w32 (x + v)))) st M) : GG p l e R s m args below meth c cells slots QQ H0 A D ad cI cZ cJ S pc lo st M := by
  intro ls H locs hl hs ho hw
  obtain ⟨j, hj⟩ := List.mem_iff_getElem?.mp (mem_prs.mpr ⟨_, h, rfl⟩ : (k, cvv ad (.inl x)) ∈ prs ad lo)
  exact lv_iinc (k := j) (v := Int32.ofInt (w32 (x + v))) X.1 X.2.1 hd hl hj (i_add (ho _ _ h) ⟨by omega, by omega⟩) hn rfl (fun ls' hl' => kk ls' H locs (pr_set (v := .inl (w32 (x + v))) hp hl') hs (ho.set (v := .inl (w32 (x + v))) (w32_rng _)) hw)
end GR

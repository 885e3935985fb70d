section GS
variable {p : Program} {l : Launch} {e : Env} {R : Room} {s : State} {m : MethodId} {args : Array Value} {below : List Frame} {meth : Method} {c : Code} {cells slots : Nat} {QQ : State → Prop} {H0 : Heap} {A : Nat → Prop} {D : va_G} {ad : Nat → Nat} {cI cZ cJ : ClassId} {S : Me} {y d pc : Nat} {lo : Lo} {st : St} {M : Me}
theorem i_addG (x v : Int) : Int32.ofInt x + Int32.ofInt v = Int32.ofInt (w32 (x + v)) := by
  apply Int32.toInt_inj.mp
  rw [i_w, Int32.toInt_add, Int32.toInt_ofInt, Int32.toInt_ofInt]
  show (x.bmod 4294967296 + v.bmod 4294967296).bmod 4294967296 = (x + v).bmod 4294967296
  rw [Int.bmod_add_bmod, Int.add_bmod_bmod]
theorem G_iincG {k : Nat} {v x : Int} (X : Cx p R s m args c cells slots D cI cZ cJ y d) (hd : decode (cod y) pc = .ok (.iinc k v, 3)) (h : lg lo k = some (.inl x)) (hp : lp lo k = false) (hn : k < lo.length) (kk : GG p l e R s m args below meth c cells slots QQ H0 A D ad cI cZ cJ S (pc + 3) (lz lo k (.inl (w32 (x + v)))) (st) M) : GG p l e R s m args below meth c cells slots QQ H0 A D ad cI cZ cJ S (pc) lo (st) M := by
  intro ls H locs hl hs ho hw
  obtain ⟨j, hj⟩ := List.mem_iff_getElem?.mp (mem_prs.mpr ⟨_, h, rfl⟩ : (k, cvv ad (.inl x)) ∈ prs ad lo)
  exact lv_iinc (k := j) (v := Int32.ofInt (w32 (x + v))) X.1 X.2.1 hd hl hj (i_addG x v) hn rfl (fun ls' hl' => kk ls' H locs (pr_set (v := .inl (w32 (x + v))) hp hl') hs (ho.set (v := .inl (w32 (x + v))) (w32_rng _)) hw)
theorem G_iadd {x y' : Int} (X : Cx p R s m args c cells slots D cI cZ cJ y d) (hd : decode (cod y) pc = .ok (.iadd, 1)) (kk : GG p l e R s m args below meth c cells slots QQ H0 A D ad cI cZ cJ S (pc + 1) lo (.inl (w32 (x + y')) :: st) M) : GG p l e R s m args below meth c cells slots QQ H0 A D ad cI cZ cJ S (pc) lo (.inl y' :: .inl x :: st) M := by
  intro ls H locs hl hs ho hw
  have hy := hs.head
  have hx := hs.tail.head
  refine lv_iadd X.1 X.2.1 hd ?_
  have h1 := kk ls H locs hl (hs.tail.tail.push (v := .inl (w32 (x + y'))) (w32_rng _)) ho hw
  rw [i_add hx hy]
  exact h1
theorem G_isub {x y' : Int} (X : Cx p R s m args c cells slots D cI cZ cJ y d) (hd : decode (cod y) pc = .ok (.isub, 1)) (kk : GG p l e R s m args below meth c cells slots QQ H0 A D ad cI cZ cJ S (pc + 1) lo (.inl (w32 (x - y')) :: st) M) : GG p l e R s m args below meth c cells slots QQ H0 A D ad cI cZ cJ S (pc) lo (.inl y' :: .inl x :: st) M := by
  intro ls H locs hl hs ho hw
  have hy := hs.head
  have hx := hs.tail.head
  refine lv_isub X.1 X.2.1 hd ?_
  have h1 := kk ls H locs hl (hs.tail.tail.push (v := .inl (w32 (x - y'))) (w32_rng _)) ho hw
  rw [i_sub hx hy]
  exact h1
theorem G_imul {x y' : Int} (X : Cx p R s m args c cells slots D cI cZ cJ y d) (hd : decode (cod y) pc = .ok (.imul, 1)) (kk : GG p l e R s m args below meth c cells slots QQ H0 A D ad cI cZ cJ S (pc + 1) lo (.inl (w32 (x * y')) :: st) M) : GG p l e R s m args below meth c cells slots QQ H0 A D ad cI cZ cJ S (pc) lo (.inl y' :: .inl x :: st) M := by
  intro ls H locs hl hs ho hw
  have hy := hs.head
  have hx := hs.tail.head
  refine lv_imul X.1 X.2.1 hd ?_
  have h1 := kk ls H locs hl (hs.tail.tail.push (v := .inl (w32 (x * y'))) (w32_rng _)) ho hw
  rw [i_mul hx hy]
  exact h1
theorem G_idiv {x y' : Int} (X : Cx p R s m args c cells slots D cI cZ cJ y d) (hd : decode (cod y) pc = .ok (.idiv, 1)) (hz : y' ≠ 0) (kk : GG p l e R s m args below meth c cells slots QQ H0 A D ad cI cZ cJ S (pc + 1) lo (.inl (w32 (x.tdiv y')) :: st) M) : GG p l e R s m args below meth c cells slots QQ H0 A D ad cI cZ cJ S (pc) lo (.inl y' :: .inl x :: st) M := by
  intro ls H locs hl hs ho hw
  have hy := hs.head
  have hx := hs.tail.head
  refine lv_idiv X.1 X.2.1 hd (fun q => hz ((i_eq hy (by omega : -2147483648 ≤ (0 : Int) ∧ (0 : Int) < 2147483648)).mp q)) ?_
  have h1 := kk ls H locs hl (hs.tail.tail.push (v := .inl (w32 (x.tdiv y'))) (w32_rng _)) ho hw
  rw [i_div hx hy]
  exact h1
theorem G_irem {x y' : Int} (X : Cx p R s m args c cells slots D cI cZ cJ y d) (hd : decode (cod y) pc = .ok (.irem, 1)) (hz : y' ≠ 0) (kk : GG p l e R s m args below meth c cells slots QQ H0 A D ad cI cZ cJ S (pc + 1) lo (.inl (x.tmod y') :: st) M) : GG p l e R s m args below meth c cells slots QQ H0 A D ad cI cZ cJ S (pc) lo (.inl y' :: .inl x :: st) M := by
  intro ls H locs hl hs ho hw
  have hy := hs.head
  have hx := hs.tail.head
  refine lv_irem X.1 X.2.1 hd (fun q => hz ((i_eq hy (by omega : -2147483648 ≤ (0 : Int) ∧ (0 : Int) < 2147483648)).mp q)) ?_
  have h1 := kk ls H locs hl (hs.tail.tail.push (v := .inl (x.tmod y')) (i_tmod hx)) ho hw
  rw [i_rem hx hy]
  exact h1
theorem G_iand {x y' : Int} (X : Cx p R s m args c cells slots D cI cZ cJ y d) (hd : decode (cod y) pc = .ok (.iand, 1)) (kk : GG p l e R s m args below meth c cells slots QQ H0 A D ad cI cZ cJ S (pc + 1) lo (.inl (iand x y') :: st) M) : GG p l e R s m args below meth c cells slots QQ H0 A D ad cI cZ cJ S (pc) lo (.inl y' :: .inl x :: st) M := by
  intro ls H locs hl hs ho hw
  have hy := hs.head
  have hx := hs.tail.head
  refine lv_iand X.1 X.2.1 hd ?_
  have h1 := kk ls H locs hl (hs.tail.tail.push (v := .inl (iand x y')) (i_rng _)) ho hw
  rw [show Int32.ofInt x &&& Int32.ofInt y' = Int32.ofInt (iand x y') from (Int32.ofInt_toInt _).symm]
  exact h1
theorem G_ior {x y' : Int} (X : Cx p R s m args c cells slots D cI cZ cJ y d) (hd : decode (cod y) pc = .ok (.ior, 1)) (kk : GG p l e R s m args below meth c cells slots QQ H0 A D ad cI cZ cJ S (pc + 1) lo (.inl (ior x y') :: st) M) : GG p l e R s m args below meth c cells slots QQ H0 A D ad cI cZ cJ S (pc) lo (.inl y' :: .inl x :: st) M := by
  intro ls H locs hl hs ho hw
  have hy := hs.head
  have hx := hs.tail.head
  refine lv_ior X.1 X.2.1 hd ?_
  have h1 := kk ls H locs hl (hs.tail.tail.push (v := .inl (ior x y')) (i_rng _)) ho hw
  rw [show Int32.ofInt x ||| Int32.ofInt y' = Int32.ofInt (ior x y') from (Int32.ofInt_toInt _).symm]
  exact h1
theorem G_ishl {x y' : Int} (X : Cx p R s m args c cells slots D cI cZ cJ y d) (hd : decode (cod y) pc = .ok (.ishl, 1)) (kk : GG p l e R s m args below meth c cells slots QQ H0 A D ad cI cZ cJ S (pc + 1) lo (.inl (ishl x y') :: st) M) : GG p l e R s m args below meth c cells slots QQ H0 A D ad cI cZ cJ S (pc) lo (.inl y' :: .inl x :: st) M := by
  intro ls H locs hl hs ho hw
  have hy := hs.head
  have hx := hs.tail.head
  refine lv_ishl X.1 X.2.1 hd ?_
  have h1 := kk ls H locs hl (hs.tail.tail.push (v := .inl (ishl x y')) (i_rng _)) ho hw
  rw [show Int32.ofInt x <<< (Int32.ofInt y' &&& 31) = Int32.ofInt (ishl x y') from (Int32.ofInt_toInt _).symm]
  exact h1
theorem G_ishr {x y' : Int} (X : Cx p R s m args c cells slots D cI cZ cJ y d) (hd : decode (cod y) pc = .ok (.ishr, 1)) (kk : GG p l e R s m args below meth c cells slots QQ H0 A D ad cI cZ cJ S (pc + 1) lo (.inl (ishr x y') :: st) M) : GG p l e R s m args below meth c cells slots QQ H0 A D ad cI cZ cJ S (pc) lo (.inl y' :: .inl x :: st) M := by
  intro ls H locs hl hs ho hw
  have hy := hs.head
  have hx := hs.tail.head
  refine lv_ishr X.1 X.2.1 hd ?_
  have h1 := kk ls H locs hl (hs.tail.tail.push (v := .inl (ishr x y')) (i_rng _)) ho hw
  rw [show Int32.ofInt x >>> (Int32.ofInt y' &&& 31) = Int32.ofInt (ishr x y') from (Int32.ofInt_toInt _).symm]
  exact h1
theorem G_ineg {x : Int} (X : Cx p R s m args c cells slots D cI cZ cJ y d) (hd : decode (cod y) pc = .ok (.ineg, 1)) (kk : GG p l e R s m args below meth c cells slots QQ H0 A D ad cI cZ cJ S (pc + 1) lo (.inl (w32 (-x)) :: st) M) : GG p l e R s m args below meth c cells slots QQ H0 A D ad cI cZ cJ S (pc) lo (.inl x :: st) M := by
  intro ls H locs hl hs ho hw
  have hx := hs.head
  refine lv_ineg X.1 X.2.1 hd ?_
  have h1 := kk ls H locs hl (hs.tail.push (v := .inl (w32 (-x))) (w32_rng _)) ho hw
  rw [i_neg hx]
  exact h1
theorem G_i2l {x : Int} (X : Cx p R s m args c cells slots D cI cZ cJ y d) (hd : decode (cod y) pc = .ok (.i2l, 1)) (kk : GG p l e R s m args below meth c cells slots QQ H0 A D ad cI cZ cJ S (pc + 1) lo (.inr (.inl x) :: st) M) : GG p l e R s m args below meth c cells slots QQ H0 A D ad cI cZ cJ S (pc) lo (.inl x :: st) M := by
  intro ls H locs hl hs ho hw
  have hx : -2147483648 ≤ x ∧ x < 2147483648 := hs.head
  exact lv_i2l X.1 X.2.1 hd (i_l hx) (kk ls H locs hl (hs.tail.push (v := .inr (.inl x)) ⟨by omega, by omega⟩) ho hw)
theorem G_l2i {x : Int} (X : Cx p R s m args c cells slots D cI cZ cJ y d) (hd : decode (cod y) pc = .ok (.l2i, 1)) (kk : GG p l e R s m args below meth c cells slots QQ H0 A D ad cI cZ cJ S (pc + 1) lo (.inl (w32 x) :: st) M) : GG p l e R s m args below meth c cells slots QQ H0 A D ad cI cZ cJ S (pc) lo (.inr (.inl x) :: st) M := by
  intro ls H locs hl hs ho hw
  have hx := hs.head
  exact lv_l2i X.1 X.2.1 hd (l_i hx) (kk ls H locs hl (hs.tail.push (v := .inl (w32 x)) (w32_rng _)) ho hw)
theorem G_ladd {x y' : Int} (X : Cx p R s m args c cells slots D cI cZ cJ y d) (hd : decode (cod y) pc = .ok (.ladd, 1)) (kk : GG p l e R s m args below meth c cells slots QQ H0 A D ad cI cZ cJ S (pc + 1) lo (.inr (.inl (w64 (x + y'))) :: st) M) : GG p l e R s m args below meth c cells slots QQ H0 A D ad cI cZ cJ S (pc) lo (.inr (.inl y') :: .inr (.inl x) :: st) M := by
  intro ls H locs hl hs ho hw
  have hy := hs.head
  have hx := hs.tail.head
  refine lv_ladd X.1 X.2.1 hd ?_
  have h1 := kk ls H locs hl (hs.tail.tail.push (v := .inr (.inl (w64 (x + y')))) (w64_rng _)) ho hw
  rw [l_add hx hy]
  exact h1
theorem G_lmul {x y' : Int} (X : Cx p R s m args c cells slots D cI cZ cJ y d) (hd : decode (cod y) pc = .ok (.lmul, 1)) (kk : GG p l e R s m args below meth c cells slots QQ H0 A D ad cI cZ cJ S (pc + 1) lo (.inr (.inl (w64 (x * y'))) :: st) M) : GG p l e R s m args below meth c cells slots QQ H0 A D ad cI cZ cJ S (pc) lo (.inr (.inl y') :: .inr (.inl x) :: st) M := by
  intro ls H locs hl hs ho hw
  have hy := hs.head
  have hx := hs.tail.head
  refine lv_lmul X.1 X.2.1 hd ?_
  have h1 := kk ls H locs hl (hs.tail.tail.push (v := .inr (.inl (w64 (x * y')))) (w64_rng _)) ho hw
  rw [l_mul hx hy]
  exact h1
theorem G_ldiv {x y' : Int} (X : Cx p R s m args c cells slots D cI cZ cJ y d) (hd : decode (cod y) pc = .ok (.ldiv, 1)) (hz : y' ≠ 0) (kk : GG p l e R s m args below meth c cells slots QQ H0 A D ad cI cZ cJ S (pc + 1) lo (.inr (.inl (w64 (x.tdiv y'))) :: st) M) : GG p l e R s m args below meth c cells slots QQ H0 A D ad cI cZ cJ S (pc) lo (.inr (.inl y') :: .inr (.inl x) :: st) M := by
  intro ls H locs hl hs ho hw
  have hy := hs.head
  have hx := hs.tail.head
  refine lv_ldiv X.1 X.2.1 hd (fun q => hz ((l_eq hy (by omega : -9223372036854775808 ≤ (0 : Int) ∧ (0 : Int) < 9223372036854775808)).mp q)) ?_
  have h1 := kk ls H locs hl (hs.tail.tail.push (v := .inr (.inl (w64 (x.tdiv y')))) (w64_rng _)) ho hw
  rw [l_div hx hy]
  exact h1
theorem G_lcmp {x y' : Int} (X : Cx p R s m args c cells slots D cI cZ cJ y d) (hd : decode (cod y) pc = .ok (.lcmp, 1)) (kk : GG p l e R s m args below meth c cells slots QQ H0 A D ad cI cZ cJ S (pc + 1) lo (.inl (if x < y' then -1 else if x = y' then 0 else 1) :: st) M) : GG p l e R s m args below meth c cells slots QQ H0 A D ad cI cZ cJ S (pc) lo (.inr (.inl y') :: .inr (.inl x) :: st) M := by
  intro ls H locs hl hs ho hw
  have hy := hs.head
  have hx := hs.tail.head
  refine W.lcmp X.1 X.2.1 hd ?_
  have h1 := kk ls H locs hl (hs.tail.tail.push (v := .inl (if x < y' then -1 else if x = y' then 0 else 1)) (by show -2147483648 ≤ (if x < y' then (-1 : Int) else if x = y' then 0 else 1) ∧ _; split <;> (try split) <;> omega)) ho hw
  have e1 : lg_cmp (Int64.ofInt x) (Int64.ofInt y') = Int32.ofInt (if x < y' then -1 else if x = y' then 0 else 1) := by
    unfold lg_cmp
    simp only [gt_iff_lt, l_lt hy hx, l_eq hx hy]
    by_cases q1 : y' < x
    · rw [if_pos q1, if_neg (by omega), if_neg (by omega)]; rfl
    · rw [if_neg q1]
      by_cases q2 : x = y'
      · rw [if_pos q2, if_neg (by omega), if_pos q2]; rfl
      · rw [if_neg q2, if_pos (by omega)]; rfl
  rw [e1]
  exact h1
theorem en_1k {k : Nat} (h : kd k = 1) : ent ad cI cZ cJ M k = .inl (cI, (ln k).toNat, .inl (fun j => Int32.ofInt (M k (j : Int)))) := by unfold ent; rw [h]; rfl
theorem en_2k {k : Nat} (h : kd k = 2) : ent ad cI cZ cJ M k = .inl (cZ, (ln k).toNat, .inl (fun j => Int32.ofInt (M k (j : Int)))) := by unfold ent; rw [h]; rfl
theorem en_3k {k : Nat} (h : kd k = 3) : ent ad cI cZ cJ M k = .inl (cJ, (ln k).toNat, .inr (.inl (fun j => Int64.ofInt (M k (j : Int))))) := by unfold ent; rw [h]; rfl
theorem en_0k {k : Nat} (h : kd k = 0) : ent ad cI cZ cJ M k = .inr (oc k, fvs ad M k) := by unfold ent; rw [h]; rfl
theorem G_iaload {x : Int} {a : Nat} (X : Cx p R s m args c cells slots D cI cZ cJ y d) (hd : decode (cod y) pc = .ok (.iaload, 1)) (hk : kd a = 1) (h0 : 0 ≤ x) (h1 : x < ln a) (kk : GG p l e R s m args below meth c cells slots QQ H0 A D ad cI cZ cJ S (pc + 1) lo (.inl (M a x) :: st) M) : GG p l e R s m args below meth c cells slots QQ H0 A D ad cI cZ cJ S (pc) lo (.inl x :: .inr (.inr a) :: st) M := by
  intro ls H locs hl hs ho hw
  have ha := kd_lt hk (by decide)
  have hr := ln_rng a ha
  have hq := wsM_get (ad := ad) (cI := cI) (cZ := cZ) (cJ := cJ) (M := M) ha
  rw [en_1k hk] at hq
  refine va_iald (D := D) (cl := cls9) (tys := [(cI, .int), (cZ, .boolean), (cJ, .long)]) X.1 X.2.1 X.2.2.2.2.2.1 hw.1 a 0 hq rfl (i_in h0 (by omega) (by omega)) hd ?_
  have h2 := kk ls H locs hl (hs.tail.tail.push (v := .inl (M a x)) (hw.2.2.2.get (by omega) x)) ho hw
  rw [i_cl h0 (by omega), Int.toNat_of_nonneg h0]
  exact h2
theorem G_baload {x : Int} {a : Nat} (X : Cx p R s m args c cells slots D cI cZ cJ y d) (hd : decode (cod y) pc = .ok (.baload, 1)) (hk : kd a = 2) (h0 : 0 ≤ x) (h1 : x < ln a) (kk : GG p l e R s m args below meth c cells slots QQ H0 A D ad cI cZ cJ S (pc + 1) lo (.inl (M a x) :: st) M) : GG p l e R s m args below meth c cells slots QQ H0 A D ad cI cZ cJ S (pc) lo (.inl x :: .inr (.inr a) :: st) M := by
  intro ls H locs hl hs ho hw
  have ha := kd_lt hk (by decide)
  have hr := ln_rng a ha
  have hq := wsM_get (ad := ad) (cI := cI) (cZ := cZ) (cJ := cJ) (M := M) ha
  rw [en_2k hk] at hq
  refine va_zald (D := D) (cl := cls9) (tys := [(cI, .int), (cZ, .boolean), (cJ, .long)]) X.1 X.2.1 X.2.2.2.2.2.1 hw.1 a 1 hq rfl (i_in h0 (by omega) (by omega)) hd ?_
  have h2 := kk ls H locs hl (hs.tail.tail.push (v := .inl (M a x)) (hw.2.2.2.get (by omega) x)) ho hw
  rw [i_cl h0 (by omega), Int.toNat_of_nonneg h0]
  exact h2
theorem G_laload {x : Int} {a : Nat} (X : Cx p R s m args c cells slots D cI cZ cJ y d) (hd : decode (cod y) pc = .ok (.laload, 1)) (hk : kd a = 3) (h0 : 0 ≤ x) (h1 : x < ln a) (kk : GG p l e R s m args below meth c cells slots QQ H0 A D ad cI cZ cJ S (pc + 1) lo (.inr (.inl (M a x)) :: st) M) : GG p l e R s m args below meth c cells slots QQ H0 A D ad cI cZ cJ S (pc) lo (.inl x :: .inr (.inr a) :: st) M := by
  intro ls H locs hl hs ho hw
  have ha := kd_lt hk (by decide)
  have hr := ln_rng a ha
  have hq := wsM_get (ad := ad) (cI := cI) (cZ := cZ) (cJ := cJ) (M := M) ha
  rw [en_3k hk] at hq
  refine va_lald (D := D) (cl := cls9) (tys := [(cI, .int), (cZ, .boolean), (cJ, .long)]) X.1 X.2.1 X.2.2.2.2.2.1 hw.1 a 2 hq rfl (i_in h0 (by omega) (by omega)) hd ?_
  have h2 := kk ls H locs hl (hs.tail.tail.push (v := .inr (.inl (M a x))) (hw.2.2.2.getL hk x)) ho hw
  rw [i_cl h0 (by omega), Int.toNat_of_nonneg h0]
  exact h2
theorem up_me {k : Nat} {x v : Int} (h0 : 0 ≤ x) : upd (fun j => Int32.ofInt (M k (j : Int))) x.toNat (Int32.ofInt v) = fun j : Nat => Int32.ofInt (me_put M k x v k (j : Int)) := by
  funext j
  rw [me_eq]
  unfold upd
  by_cases h : j = x.toNat
  · rw [if_pos h, if_pos (by omega)]
  · rw [if_neg h, if_neg (by omega)]
theorem up_meL {k : Nat} {x v : Int} (h0 : 0 ≤ x) : vp_updL (fun j => Int64.ofInt (M k (j : Int))) x.toNat (Int64.ofInt v) = fun j : Nat => Int64.ofInt (me_put M k x v k (j : Int)) := by
  funext j
  rw [me_eq]
  unfold vp_updL
  by_cases h : j = x.toNat
  · rw [if_pos h, if_pos (by omega)]
  · rw [if_neg h, if_neg (by omega)]
theorem Wd.put {H H1 : Heap} {locs locs1 : List Loc} {k : Nat} {x v : Int} {E : va_E} (hw : Wd D A H0 ad cI cZ cJ S M H locs) (hk : k < 86) (hE : E = ent ad cI cZ cJ (me_put M k x v) k) (hv : rg k v) (hP : va_P D cls9 ((wsM ad cI cZ cJ M).set k (ad k, E)) H1) (hS : va_S A H0 H1 locs1) : Wd D A H0 ad cI cZ cJ S (me_put M k x v) H1 locs1 := by
  rw [wsM_set hk hE (fun j hj i => me_ne _ _ _ _ hj)] at hP
  exact ⟨hP, wsM_D hw.2.1, hS, hw.2.2.2.put hk hv⟩
theorem G_iastore {x v : Int} {a : Nat} (X : Cx p R s m args c cells slots D cI cZ cJ y d) (hd : decode (cod y) pc = .ok (.iastore, 1)) (hk : kd a = 1) (h0 : 0 ≤ x) (h1 : x < ln a) (kk : GG p l e R s m args below meth c cells slots QQ H0 A D ad cI cZ cJ S (pc + 1) lo (st) (me_put M a x v)) : GG p l e R s m args below meth c cells slots QQ H0 A D ad cI cZ cJ S (pc) lo (.inl v :: .inl x :: .inr (.inr a) :: st) M := by
  intro ls H locs hl hs ho hw
  have ha := kd_lt hk (by decide)
  have hr := ln_rng a ha
  have hv := hs.head
  have hq := wsM_get (ad := ad) (cI := cI) (cZ := cZ) (cJ := cJ) (M := M) ha
  rw [en_1k hk] at hq
  refine va_iast (D := D) (cl := cls9) (tys := [(cI, .int), (cZ, .boolean), (cJ, .long)]) X.1 X.2.1 X.2.2.2.2.2.1 hw.1 hw.2.1 hw.2.2.1 a 0 hq rfl (i_in h0 (by omega) (by omega)) hd (fun H1 locs1 hP _ hS => ?_)
  refine kk ls H1 locs1 hl hs.tail.tail.tail ho (hw.put ha ?_ (by unfold rg; rw [if_neg (by omega)]; exact hv) hP hS)
  rw [en_1k hk, i_cl h0 (by omega), up_me h0]
theorem G_bastore {x v : Int} {a : Nat} (X : Cx p R s m args c cells slots D cI cZ cJ y d) (hd : decode (cod y) pc = .ok (.bastore, 1)) (hk : kd a = 2) (hz : v = 0 ∨ v = 1) (h0 : 0 ≤ x) (h1 : x < ln a) (kk : GG p l e R s m args below meth c cells slots QQ H0 A D ad cI cZ cJ S (pc + 1) lo (st) (me_put M a x v)) : GG p l e R s m args below meth c cells slots QQ H0 A D ad cI cZ cJ S (pc) lo (.inl v :: .inl x :: .inr (.inr a) :: st) M := by
  intro ls H locs hl hs ho hw
  have ha := kd_lt hk (by decide)
  have hr := ln_rng a ha
  have hv := hs.head
  have hq := wsM_get (ad := ad) (cI := cI) (cZ := cZ) (cJ := cJ) (M := M) ha
  rw [en_2k hk] at hq
  refine va_zast (D := D) (cl := cls9) (tys := [(cI, .int), (cZ, .boolean), (cJ, .long)]) X.1 X.2.1 X.2.2.2.2.2.1 hw.1 hw.2.1 hw.2.2.1 a 1 hq rfl (i_in h0 (by omega) (by omega)) hd (fun H1 locs1 hP _ hS => ?_)
  refine kk ls H1 locs1 hl hs.tail.tail.tail ho (hw.put ha ?_ (by unfold rg; rw [if_neg (by omega)]; exact hv) hP hS)
  rw [en_2k hk, i_cl h0 (by omega), show vp_nar .boolean (Int32.ofInt v) = Int32.ofInt v by rcases hz with rfl | rfl <;> rfl, up_me h0]
theorem G_lastore {x v : Int} {a : Nat} (X : Cx p R s m args c cells slots D cI cZ cJ y d) (hd : decode (cod y) pc = .ok (.lastore, 1)) (hk : kd a = 3) (h0 : 0 ≤ x) (h1 : x < ln a) (kk : GG p l e R s m args below meth c cells slots QQ H0 A D ad cI cZ cJ S (pc + 1) lo (st) (me_put M a x v)) : GG p l e R s m args below meth c cells slots QQ H0 A D ad cI cZ cJ S (pc) lo (.inr (.inl v) :: .inl x :: .inr (.inr a) :: st) M := by
  intro ls H locs hl hs ho hw
  have ha := kd_lt hk (by decide)
  have hr := ln_rng a ha
  have hv := hs.head
  have hq := wsM_get (ad := ad) (cI := cI) (cZ := cZ) (cJ := cJ) (M := M) ha
  rw [en_3k hk] at hq
  refine va_last (D := D) (cl := cls9) (tys := [(cI, .int), (cZ, .boolean), (cJ, .long)]) X.1 X.2.1 X.2.2.2.2.2.1 hw.1 hw.2.1 hw.2.2.1 a 2 hq rfl (i_in h0 (by omega) (by omega)) hd (fun H1 locs1 hP _ hS => ?_)
  refine kk ls H1 locs1 hl hs.tail.tail.tail ho (hw.put ha ?_ (by unfold rg; rw [if_pos hk]; exact hv) hP hS)
  rw [en_3k hk, i_cl h0 (by omega), up_meL h0]
theorem G_alen {a : Nat} (X : Cx p R s m args c cells slots D cI cZ cJ y d) (hd : decode (cod y) pc = .ok (.arraylength, 1)) (hk : kd a = 1) (kk : GG p l e R s m args below meth c cells slots QQ H0 A D ad cI cZ cJ S (pc + 1) lo (.inl (ln a) :: st) M) : GG p l e R s m args below meth c cells slots QQ H0 A D ad cI cZ cJ S (pc) lo (.inr (.inr a) :: st) M := by
  intro ls H locs hl hs ho hw
  have ha := kd_lt hk (by decide)
  have hr := ln_rng a ha
  have hq := wsM_get (ad := ad) (cI := cI) (cZ := cZ) (cJ := cJ) (M := M) ha
  rw [en_1k hk] at hq
  refine va_alen (D := D) (cl := cls9) (tys := [(cI, .int), (cZ, .boolean), (cJ, .long)]) (v := Int32.ofInt (ln a)) X.1 X.2.1 X.2.2.2.2.2.1 hw.1 a 0 hq rfl ?_ hd (kk ls H locs hl (hs.tail.push (v := .inl (ln a)) ⟨by omega, by omega⟩) ho hw)
  show Int32.ofNat (ln a).toNat = Int32.ofInt (ln a)
  rw [← Int32.ofInt_eq_ofNat, Int.toNat_of_nonneg hr.1]
theorem G_if_eq {x : Int} {off : Int} {tgt : Nat} (X : Cx p R s m args c cells slots D cI cZ cJ y d) (hd : decode (cod y) pc = .ok (.ifCond .eq off, 3)) (ht : (pc : Int) + off = (tgt : Int)) (kt : x = 0 → GG p l e R s m args below meth c cells slots QQ H0 A D ad cI cZ cJ S (tgt) lo (st) M) (kf : ¬ x = 0 → GG p l e R s m args below meth c cells slots QQ H0 A D ad cI cZ cJ S (pc + 3) lo (st) M) : GG p l e R s m args below meth c cells slots QQ H0 A D ad cI cZ cJ S (pc) lo (.inl x :: st) M := by
  intro ls H locs hl hs ho hw
  have hz0 : -2147483648 ≤ (0 : Int) ∧ (0 : Int) < 2147483648 := by omega
  have hx := hs.head
  exact lv_if_eq X.1 X.2.1 hd ht (fun q => kt ((i_eq hx hz0).mp q) ls H locs hl hs.tail ho hw) (fun q => kf (fun q2 => q ((i_eq hx hz0).mpr q2)) ls H locs hl hs.tail ho hw)
theorem G_if_ne {x : Int} {off : Int} {tgt : Nat} (X : Cx p R s m args c cells slots D cI cZ cJ y d) (hd : decode (cod y) pc = .ok (.ifCond .ne off, 3)) (ht : (pc : Int) + off = (tgt : Int)) (kt : x ≠ 0 → GG p l e R s m args below meth c cells slots QQ H0 A D ad cI cZ cJ S (tgt) lo (st) M) (kf : ¬ x ≠ 0 → GG p l e R s m args below meth c cells slots QQ H0 A D ad cI cZ cJ S (pc + 3) lo (st) M) : GG p l e R s m args below meth c cells slots QQ H0 A D ad cI cZ cJ S (pc) lo (.inl x :: st) M := by
  intro ls H locs hl hs ho hw
  have hz0 : -2147483648 ≤ (0 : Int) ∧ (0 : Int) < 2147483648 := by omega
  have hx := hs.head
  exact lv_if_ne X.1 X.2.1 hd ht (fun q => kt (fun q2 => q ((i_eq hx hz0).mpr q2)) ls H locs hl hs.tail ho hw) (fun q => kf (fun q2 => q2 ((i_eq hx hz0).mp q)) ls H locs hl hs.tail ho hw)
theorem G_if_lt {x : Int} {off : Int} {tgt : Nat} (X : Cx p R s m args c cells slots D cI cZ cJ y d) (hd : decode (cod y) pc = .ok (.ifCond .lt off, 3)) (ht : (pc : Int) + off = (tgt : Int)) (kt : x < 0 → GG p l e R s m args below meth c cells slots QQ H0 A D ad cI cZ cJ S (tgt) lo (st) M) (kf : ¬ x < 0 → GG p l e R s m args below meth c cells slots QQ H0 A D ad cI cZ cJ S (pc + 3) lo (st) M) : GG p l e R s m args below meth c cells slots QQ H0 A D ad cI cZ cJ S (pc) lo (.inl x :: st) M := by
  intro ls H locs hl hs ho hw
  have hz0 : -2147483648 ≤ (0 : Int) ∧ (0 : Int) < 2147483648 := by omega
  have hx := hs.head
  exact lv_if_lt X.1 X.2.1 hd ht (fun q => kt ((i_lt hx hz0).mp q) ls H locs hl hs.tail ho hw) (fun q => kf (fun q2 => q ((i_lt hx hz0).mpr q2)) ls H locs hl hs.tail ho hw)
theorem G_if_ge {x : Int} {off : Int} {tgt : Nat} (X : Cx p R s m args c cells slots D cI cZ cJ y d) (hd : decode (cod y) pc = .ok (.ifCond .ge off, 3)) (ht : (pc : Int) + off = (tgt : Int)) (kt : x ≥ 0 → GG p l e R s m args below meth c cells slots QQ H0 A D ad cI cZ cJ S (tgt) lo (st) M) (kf : ¬ x ≥ 0 → GG p l e R s m args below meth c cells slots QQ H0 A D ad cI cZ cJ S (pc + 3) lo (st) M) : GG p l e R s m args below meth c cells slots QQ H0 A D ad cI cZ cJ S (pc) lo (.inl x :: st) M := by
  intro ls H locs hl hs ho hw
  have hz0 : -2147483648 ≤ (0 : Int) ∧ (0 : Int) < 2147483648 := by omega
  have hx := hs.head
  exact lv_if_ge X.1 X.2.1 hd ht (fun q => kt ((i_le hz0 hx).mp q) ls H locs hl hs.tail ho hw) (fun q => kf (fun q2 => q ((i_le hz0 hx).mpr q2)) ls H locs hl hs.tail ho hw)
theorem G_if_gt {x : Int} {off : Int} {tgt : Nat} (X : Cx p R s m args c cells slots D cI cZ cJ y d) (hd : decode (cod y) pc = .ok (.ifCond .gt off, 3)) (ht : (pc : Int) + off = (tgt : Int)) (kt : x > 0 → GG p l e R s m args below meth c cells slots QQ H0 A D ad cI cZ cJ S (tgt) lo (st) M) (kf : ¬ x > 0 → GG p l e R s m args below meth c cells slots QQ H0 A D ad cI cZ cJ S (pc + 3) lo (st) M) : GG p l e R s m args below meth c cells slots QQ H0 A D ad cI cZ cJ S (pc) lo (.inl x :: st) M := by
  intro ls H locs hl hs ho hw
  have hz0 : -2147483648 ≤ (0 : Int) ∧ (0 : Int) < 2147483648 := by omega
  have hx := hs.head
  exact lv_if_gt X.1 X.2.1 hd ht (fun q => kt ((i_lt hz0 hx).mp q) ls H locs hl hs.tail ho hw) (fun q => kf (fun q2 => q ((i_lt hz0 hx).mpr q2)) ls H locs hl hs.tail ho hw)
theorem G_if_le {x : Int} {off : Int} {tgt : Nat} (X : Cx p R s m args c cells slots D cI cZ cJ y d) (hd : decode (cod y) pc = .ok (.ifCond .le off, 3)) (ht : (pc : Int) + off = (tgt : Int)) (kt : x ≤ 0 → GG p l e R s m args below meth c cells slots QQ H0 A D ad cI cZ cJ S (tgt) lo (st) M) (kf : ¬ x ≤ 0 → GG p l e R s m args below meth c cells slots QQ H0 A D ad cI cZ cJ S (pc + 3) lo (st) M) : GG p l e R s m args below meth c cells slots QQ H0 A D ad cI cZ cJ S (pc) lo (.inl x :: st) M := by
  intro ls H locs hl hs ho hw
  have hz0 : -2147483648 ≤ (0 : Int) ∧ (0 : Int) < 2147483648 := by omega
  have hx := hs.head
  exact lv_if_le X.1 X.2.1 hd ht (fun q => kt ((i_le hx hz0).mp q) ls H locs hl hs.tail ho hw) (fun q => kf (fun q2 => q ((i_le hx hz0).mpr q2)) ls H locs hl hs.tail ho hw)
theorem G_icmp_eq {x y' : Int} {off : Int} {tgt : Nat} (X : Cx p R s m args c cells slots D cI cZ cJ y d) (hd : decode (cod y) pc = .ok (.if_icmp .eq off, 3)) (ht : (pc : Int) + off = (tgt : Int)) (kt : x = y' → GG p l e R s m args below meth c cells slots QQ H0 A D ad cI cZ cJ S (tgt) lo (st) M) (kf : ¬ x = y' → GG p l e R s m args below meth c cells slots QQ H0 A D ad cI cZ cJ S (pc + 3) lo (st) M) : GG p l e R s m args below meth c cells slots QQ H0 A D ad cI cZ cJ S (pc) lo (.inl y' :: .inl x :: st) M := by
  intro ls H locs hl hs ho hw
  have hy := hs.head
  have hx := hs.tail.head
  exact lv_icmp_eq X.1 X.2.1 hd ht (fun q => kt ((i_eq hx hy).mp q) ls H locs hl hs.tail.tail ho hw) (fun q => kf (fun q2 => q ((i_eq hx hy).mpr q2)) ls H locs hl hs.tail.tail ho hw)
theorem G_icmp_ne {x y' : Int} {off : Int} {tgt : Nat} (X : Cx p R s m args c cells slots D cI cZ cJ y d) (hd : decode (cod y) pc = .ok (.if_icmp .ne off, 3)) (ht : (pc : Int) + off = (tgt : Int)) (kt : x ≠ y' → GG p l e R s m args below meth c cells slots QQ H0 A D ad cI cZ cJ S (tgt) lo (st) M) (kf : ¬ x ≠ y' → GG p l e R s m args below meth c cells slots QQ H0 A D ad cI cZ cJ S (pc + 3) lo (st) M) : GG p l e R s m args below meth c cells slots QQ H0 A D ad cI cZ cJ S (pc) lo (.inl y' :: .inl x :: st) M := by
  intro ls H locs hl hs ho hw
  have hy := hs.head
  have hx := hs.tail.head
  exact lv_icmp_ne X.1 X.2.1 hd ht (fun q => kt (fun q2 => q ((i_eq hx hy).mpr q2)) ls H locs hl hs.tail.tail ho hw) (fun q => kf (fun q2 => q2 ((i_eq hx hy).mp q)) ls H locs hl hs.tail.tail ho hw)
theorem G_icmp_lt {x y' : Int} {off : Int} {tgt : Nat} (X : Cx p R s m args c cells slots D cI cZ cJ y d) (hd : decode (cod y) pc = .ok (.if_icmp .lt off, 3)) (ht : (pc : Int) + off = (tgt : Int)) (kt : x < y' → GG p l e R s m args below meth c cells slots QQ H0 A D ad cI cZ cJ S (tgt) lo (st) M) (kf : ¬ x < y' → GG p l e R s m args below meth c cells slots QQ H0 A D ad cI cZ cJ S (pc + 3) lo (st) M) : GG p l e R s m args below meth c cells slots QQ H0 A D ad cI cZ cJ S (pc) lo (.inl y' :: .inl x :: st) M := by
  intro ls H locs hl hs ho hw
  have hy := hs.head
  have hx := hs.tail.head
  exact lv_icmp_lt X.1 X.2.1 hd ht (fun q => kt ((i_lt hx hy).mp q) ls H locs hl hs.tail.tail ho hw) (fun q => kf (fun q2 => q ((i_lt hx hy).mpr q2)) ls H locs hl hs.tail.tail ho hw)
theorem G_icmp_ge {x y' : Int} {off : Int} {tgt : Nat} (X : Cx p R s m args c cells slots D cI cZ cJ y d) (hd : decode (cod y) pc = .ok (.if_icmp .ge off, 3)) (ht : (pc : Int) + off = (tgt : Int)) (kt : x ≥ y' → GG p l e R s m args below meth c cells slots QQ H0 A D ad cI cZ cJ S (tgt) lo (st) M) (kf : ¬ x ≥ y' → GG p l e R s m args below meth c cells slots QQ H0 A D ad cI cZ cJ S (pc + 3) lo (st) M) : GG p l e R s m args below meth c cells slots QQ H0 A D ad cI cZ cJ S (pc) lo (.inl y' :: .inl x :: st) M := by
  intro ls H locs hl hs ho hw
  have hy := hs.head
  have hx := hs.tail.head
  exact lv_icmp_ge X.1 X.2.1 hd ht (fun q => kt ((i_le hy hx).mp q) ls H locs hl hs.tail.tail ho hw) (fun q => kf (fun q2 => q ((i_le hy hx).mpr q2)) ls H locs hl hs.tail.tail ho hw)
theorem G_icmp_gt {x y' : Int} {off : Int} {tgt : Nat} (X : Cx p R s m args c cells slots D cI cZ cJ y d) (hd : decode (cod y) pc = .ok (.if_icmp .gt off, 3)) (ht : (pc : Int) + off = (tgt : Int)) (kt : x > y' → GG p l e R s m args below meth c cells slots QQ H0 A D ad cI cZ cJ S (tgt) lo (st) M) (kf : ¬ x > y' → GG p l e R s m args below meth c cells slots QQ H0 A D ad cI cZ cJ S (pc + 3) lo (st) M) : GG p l e R s m args below meth c cells slots QQ H0 A D ad cI cZ cJ S (pc) lo (.inl y' :: .inl x :: st) M := by
  intro ls H locs hl hs ho hw
  have hy := hs.head
  have hx := hs.tail.head
  exact lv_icmp_gt X.1 X.2.1 hd ht (fun q => kt ((i_lt hy hx).mp q) ls H locs hl hs.tail.tail ho hw) (fun q => kf (fun q2 => q ((i_lt hy hx).mpr q2)) ls H locs hl hs.tail.tail ho hw)
theorem G_icmp_le {x y' : Int} {off : Int} {tgt : Nat} (X : Cx p R s m args c cells slots D cI cZ cJ y d) (hd : decode (cod y) pc = .ok (.if_icmp .le off, 3)) (ht : (pc : Int) + off = (tgt : Int)) (kt : x ≤ y' → GG p l e R s m args below meth c cells slots QQ H0 A D ad cI cZ cJ S (tgt) lo (st) M) (kf : ¬ x ≤ y' → GG p l e R s m args below meth c cells slots QQ H0 A D ad cI cZ cJ S (pc + 3) lo (st) M) : GG p l e R s m args below meth c cells slots QQ H0 A D ad cI cZ cJ S (pc) lo (.inl y' :: .inl x :: st) M := by
  intro ls H locs hl hs ho hw
  have hy := hs.head
  have hx := hs.tail.head
  exact lv_icmp_le X.1 X.2.1 hd ht (fun q => kt ((i_le hx hy).mp q) ls H locs hl hs.tail.tail ho hw) (fun q => kf (fun q2 => q ((i_le hx hy).mpr q2)) ls H locs hl hs.tail.tail ho hw)
theorem G_goto {off : Int} {tgt : Nat} (X : Cx p R s m args c cells slots D cI cZ cJ y d) (hd : decode (cod y) pc = .ok (.goto off, 3)) (ht : (pc : Int) + off = (tgt : Int)) (kk : GG p l e R s m args below meth c cells slots QQ H0 A D ad cI cZ cJ S (tgt) lo (st) M) : GG p l e R s m args below meth c cells slots QQ H0 A D ad cI cZ cJ S (pc) lo (st) M := by
  intro ls H locs hl hs ho hw
  exact lv_goto X.1 X.2.1 hd ht (kk ls H locs hl hs ho hw)
theorem G_dup {v : AV} (X : Cx p R s m args c cells slots D cI cZ cJ y d) (hd : decode (cod y) pc = .ok (.dup, 1)) (hv : (cvv ad v).category = 1) (kk : GG p l e R s m args below meth c cells slots QQ H0 A D ad cI cZ cJ S (pc + 1) lo (v :: v :: st) M) : GG p l e R s m args below meth c cells slots QQ H0 A D ad cI cZ cJ S (pc) lo (v :: st) M := by
  intro ls H locs hl hs ho hw
  exact lv_dup X.1 X.2.1 hd hv (kk ls H locs hl (hs.push hs.head) ho hw)
theorem G_dup2 {v u : AV} (X : Cx p R s m args c cells slots D cI cZ cJ y d) (hd : decode (cod y) pc = .ok (.dup2, 1)) (hv : (cvv ad v).category = 1) (hu : (cvv ad u).category = 1) (kk : GG p l e R s m args below meth c cells slots QQ H0 A D ad cI cZ cJ S (pc + 1) lo (v :: u :: v :: u :: st) M) : GG p l e R s m args below meth c cells slots QQ H0 A D ad cI cZ cJ S (pc) lo (v :: u :: st) M := by
  intro ls H locs hl hs ho hw
  exact lv_dup2_11 X.1 X.2.1 hd hv hu (kk ls H locs hl ((hs.push hs.tail.head).push hs.head) ho hw)
theorem G_pop {v : AV} (X : Cx p R s m args c cells slots D cI cZ cJ y d) (hd : decode (cod y) pc = .ok (.pop, 1)) (hv : (cvv ad v).category = 1) (kk : GG p l e R s m args below meth c cells slots QQ H0 A D ad cI cZ cJ S (pc + 1) lo (st) M) : GG p l e R s m args below meth c cells slots QQ H0 A D ad cI cZ cJ S (pc) lo (v :: st) M := by
  intro ls H locs hl hs ho hw
  exact lv_pop X.1 X.2.1 hd hv (kk ls H locs hl hs.tail ho hw)
theorem G_switch {df lo' hi : Int} {offs : Array Int} {len : Nat} {x : Int} {id : Nat} (X : Cx p R s m args c cells slots D cI cZ cJ y d) (hd : decode (cod y) pc = .ok (.tableswitch df lo' hi offs, len)) (h1 : (sw id).1 = lo') (h2 : hi = lo' + ((sw id).2.1.length : Int) - 1) (h3 : (pc : Int) + df = (bpc y (sw id).2.2 : Int)) (h4 : ∀ j, j < (sw id).2.1.length → offs[j]? = some ((bpc y (nt (sw id).2.2 (sw id).2.1 j) : Int) - pc)) (kk : GG p l e R s m args below meth c cells slots QQ H0 A D ad cI cZ cJ S (bpc y (swj (sw id) x)) lo (st) M) : GG p l e R s m args below meth c cells slots QQ H0 A D ad cI cZ cJ S (pc) lo (.inl x :: st) M := by
  intro ls H locs hl hs ho hw
  have hx := hs.head
  have h5 := kk ls H locs hl hs.tail ho hw
  unfold swj at h5
  rw [h1] at h5
  by_cases q1 : x < lo'
  · rw [if_pos q1] at h5
    exact lv_tableOut X.1 X.2.1 hd (Or.inl (by rw [i_of hx]; exact q1)) h3 h5
  · rw [if_neg q1] at h5
    by_cases q2 : hi < x
    · rw [nt_get, List.getElem?_eq_none (by omega), Option.getD_none] at h5
      exact lv_tableOut X.1 X.2.1 hd (Or.inr (by rw [i_of hx]; exact q2)) h3 h5
    · exact lv_tableIn X.1 X.2.1 hd (by rw [i_of hx]; exact q1) (by rw [i_of hx]; exact q2) (by rw [i_of hx]; exact h4 _ (by omega)) (by omega) h5
end GS

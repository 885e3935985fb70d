theorem maW : (lw_tbl[542]? = some (Cond.static Lib.Math.max.name)) ∧ (lw_tbl[546]? = some (Cond.static Lib.MathLoose.min_long.x)) ∧ (lw_tbl[675]? = some (Cond.static Lib.Math.min.name)) ∧ (lw_tbl[583]? = some (Cond.static arraycopyName)) ∧ (lw_tbl[584]? = some (Cond.native arraycopyName)) ∧ (lw_tbl[59]? = some (Cond.initialized "java/lang/Math")) ∧ (lw_tbl[60]? = some (Cond.initialized "java/lang/System")) := by decide +kernel
set_option maxRecDepth 100000 in
theorem maC1 : lw_tbl[543]? = some (Cond.code Lib.Math.max.name Lib.Math.max.code 2 (some .int)) := rfl
set_option maxRecDepth 100000 in
theorem maC2 : lw_tbl[547]? = some (Cond.code Lib.MathLoose.min_long.x Lib.MathLoose.min_long.code 4 (some .long)) := rfl
set_option maxRecDepth 100000 in
theorem maC3 : lw_tbl[676]? = some (Cond.code Lib.Math.min.name Lib.Math.min.code 2 (some .int)) := rfl
theorem nfw : nativeFrameWords "java/lang/System" "arraycopy" 5 ≤ 29 := by decide
section GM
variable {p : Program} {l : Launch} {e : Env} {R : Room} {s : State} {m : MethodId} {args : Array Value} {below : List Frame} {meth : Method} {c : Code} {cells slots : Nat} {QQ : State → Prop} {H0 : Heap} {A : Nat → Prop} {D : va_G} {ad : Nat → Nat} {cI cZ cJ : ClassId} {S : Me} {y d pc : Nat} {lo : Lo} {st : St} {M : Me} {n z ix : Nat} {as : List AV} {Q : Int → Me → Prop}
theorem G_mmax {x y' : Int} (X : Cx p R s m args c cells slots D cI cZ cJ y d) (hd : decode (cod y) pc = .ok (.invokestatic ix, 3)) (hml : ow y = 3 ∧ ix = 110) (h4 : st.length ≤ 4) (hlo : lo.length = mxl y) (kk : GG p l e R s m args below meth c cells slots QQ H0 A D ad cI cZ cJ S (pc + 3) lo (.inl (if x < y' then y' else x) :: st) M) : GG p l e R s m args below meth c cells slots QQ H0 A D ad cI cZ cJ S (pc) lo (.inl y' :: .inl x :: st) M := by
  intro ls H locs hl hs ho hw
  have hy := hs.head
  have hx := hs.tail.head
  have hcs := cat_sum ad st
  have hRm := X.2.2.2.2.2.2.1
  obtain ⟨h1, rfl⟩ := hml
  refine va_mmax X.1 X.2.1 (by rw [X.2.2.1, hl.1, hlo]) (own := clR 3) (by rw [← h1]; exact X.2.2.2.1) (X.2.2.2.2.1 _ (at_in maL_ok.1 rfl)) (X.2.2.2.2.1 _ (at_in maW.1 rfl)) (X.2.2.2.2.1 _ (at_in maW.2.2.2.2.2.1 rfl)) (X.2.2.2.2.1 _ (at_in maC1 rfl)) (by omega) (by omega) (by omega) (by omega) hd ?_
  have h5 := kk ls H locs hl (hs.tail.tail.push (v := .inl (if x < y' then y' else x)) (by show _ ≤ (if x < y' then y' else x : Int) ∧ _; split <;> assumption)) ho hw
  rw [show (if Int32.ofInt x < Int32.ofInt y' then Int32.ofInt y' else Int32.ofInt x) = Int32.ofInt (if x < y' then y' else x) by simp only [i_lt hx hy]; split <;> rfl]
  exact h5
theorem G_mmin {x y' : Int} (X : Cx p R s m args c cells slots D cI cZ cJ y d) (hd : decode (cod y) pc = .ok (.invokestatic ix, 3)) (hml : ow y = 2 ∧ ix = 153) (h4 : st.length ≤ 4) (hlo : lo.length = mxl y) (kk : GG p l e R s m args below meth c cells slots QQ H0 A D ad cI cZ cJ S (pc + 3) lo (.inl (if y' < x then y' else x) :: st) M) : GG p l e R s m args below meth c cells slots QQ H0 A D ad cI cZ cJ S (pc) lo (.inl y' :: .inl x :: st) M := by
  intro ls H locs hl hs ho hw
  have hy := hs.head
  have hx := hs.tail.head
  have hcs := cat_sum ad st
  have hRm := X.2.2.2.2.2.2.1
  obtain ⟨h1, rfl⟩ := hml
  refine va_mmin X.1 X.2.1 (by rw [X.2.2.1, hl.1, hlo]) (own := clR 2) (by rw [← h1]; exact X.2.2.2.1) (X.2.2.2.2.1 _ (at_in maL_ok.2.1 rfl)) (X.2.2.2.2.1 _ (at_in maW.2.2.1 rfl)) (X.2.2.2.2.1 _ (at_in maW.2.2.2.2.2.1 rfl)) (X.2.2.2.2.1 _ (at_in maC3 rfl)) (by omega) (by omega) (by omega) (by omega) hd ?_
  have h5 := kk ls H locs hl (hs.tail.tail.push (v := .inl (if y' < x then y' else x)) (by show _ ≤ (if y' < x then y' else x : Int) ∧ _; split <;> assumption)) ho hw
  rw [show (if Int32.ofInt y' < Int32.ofInt x then Int32.ofInt y' else Int32.ofInt x) = Int32.ofInt (if y' < x then y' else x) by simp only [i_lt hy hx]; split <;> rfl]
  exact h5
theorem G_lmin {x y' : Int} (X : Cx p R s m args c cells slots D cI cZ cJ y d) (hd : decode (cod y) pc = .ok (.invokestatic ix, 3)) (hml : ow y = 3 ∧ ix = 121) (h4 : st.length ≤ 4) (hlo : lo.length = mxl y) (kk : GG p l e R s m args below meth c cells slots QQ H0 A D ad cI cZ cJ S (pc + 3) lo (.inr (.inl (if y' < x then y' else x)) :: st) M) : GG p l e R s m args below meth c cells slots QQ H0 A D ad cI cZ cJ S (pc) lo (.inr (.inl y') :: .inr (.inl x) :: st) M := by
  intro ls H locs hl hs ho hw
  have hy := hs.head
  have hx := hs.tail.head
  have hcs := cat_sum ad st
  have hRm := X.2.2.2.2.2.2.1
  obtain ⟨h1, rfl⟩ := hml
  refine va_mmin_long X.1 X.2.1 (by rw [X.2.2.1, hl.1, hlo]) (own := clR 3) (by rw [← h1]; exact X.2.2.2.1) (X.2.2.2.2.1 _ (at_in maL_ok.2.2.1 rfl)) (X.2.2.2.2.1 _ (at_in maW.2.1 rfl)) (X.2.2.2.2.1 _ (at_in maW.2.2.2.2.2.1 rfl)) (X.2.2.2.2.1 _ (at_in maC2 rfl)) (by omega) (by omega) (by omega) (by omega) hd ?_
  have h5 := kk ls H locs hl (hs.tail.tail.push (v := .inr (.inl (if y' < x then y' else x))) (by show _ ≤ (if y' < x then y' else x : Int) ∧ _; split <;> assumption)) ho hw
  rw [show (if Int64.ofInt y' < Int64.ofInt x then Int64.ofInt y' else Int64.ofInt x) = Int64.ofInt (if y' < x then y' else x) by simp only [l_lt hy hx]; split <;> rfl]
  exact h5
theorem G_copy {n dp sp : Int} {dk sk : Nat} (X : Cx p R s m args c cells slots D cI cZ cJ y d) (hd : decode (cod y) pc = .ok (.invokestatic ix, 3)) (hml : (ow y = 3 ∧ ix = 31) ∨ (ow y = 4 ∧ ix = 35) ∨ (ow y = 2 ∧ ix = 79)) (hlo : lo.length = mxl y) (h : kd dk = 1 ∧ kd sk = 1 ∧ 0 ≤ n ∧ 0 ≤ dp ∧ 0 ≤ sp ∧ dp + n ≤ ln dk ∧ sp + n ≤ ln sk) (kk : GG p l e R s m args below meth c cells slots QQ H0 A D ad cI cZ cJ S (pc + 3) lo ([]) (me_cpy M sk sp dk dp n)) : GG p l e R s m args below meth c cells slots QQ H0 A D ad cI cZ cJ S (pc) lo ([.inl n, .inl dp, .inr (.inr dk), .inl sp, .inr (.inr sk)]) M := by
  intro ls H locs hl hs ho hw
  obtain ⟨hk1, hk2, hn0, hd0, hs0, hdn, hsn⟩ := h
  have ha1 := kd_lt hk1 (by decide)
  have ha2 := kd_lt hk2 (by decide)
  have hr1 := ln_rng dk ha1
  have hr2 := ln_rng sk ha2
  have hq1 := wsM_get (ad := ad) (cI := cI) (cZ := cZ) (cJ := cJ) (M := M) ha1
  have hq2 := wsM_get (ad := ad) (cI := cI) (cZ := cZ) (cJ := cJ) (M := M) ha2
  rw [en_1k hk1] at hq1
  rw [en_1k hk2] at hq2
  have hRm := X.2.2.2.2.2.2.1
  have hlink : (Cond.methodLink (clR (ow y)) ix arraycopyName).before args s = true := by
    rcases hml with ⟨h1, rfl⟩ | ⟨h1, rfl⟩ | ⟨h1, rfl⟩
    · rw [h1]; exact X.2.2.2.2.1 _ (at_in maL_ok.2.2.2.1 rfl)
    · rw [h1]; exact X.2.2.2.2.1 _ (at_in maL_ok.2.2.2.2.1 rfl)
    · rw [h1]; exact X.2.2.2.2.1 _ (at_in maL_ok.2.2.2.2.2 rfl)
  have nneg : ∀ z : Int, 0 ≤ z → z < 2147483648 → ¬ Int32.ofInt z < 0 := by
    intro z hz hz2 q
    rw [show (0 : Int32) = Int32.ofInt 0 from rfl, i_lt ⟨by omega, by omega⟩ ⟨by omega, by omega⟩] at q
    omega
  refine va_copyi (D := D) (cl := cls9) (tys := [(cI, .int), (cZ, .boolean), (cJ, .long)]) (ty := .int) X.1 X.2.1 (by rw [X.2.2.1, hl.1, hlo]) X.2.2.2.1 hlink (X.2.2.2.2.1 _ (at_in maW.2.2.2.2.1 rfl)) (X.2.2.2.2.1 _ (at_in maW.2.2.2.1 rfl)) (X.2.2.2.2.1 _ (at_in maW.2.2.2.2.2.2 rfl)) X.2.2.2.2.2.1 hw.1 hw.2.1 hw.2.2.1 sk dk 0 0 hq2 hq1 rfl rfl rfl (nneg sp hs0 (by omega)) (nneg dp hd0 (by omega)) (nneg n hn0 (by omega)) (by rw [i_cl hs0 (by omega), i_cl hn0 (by omega)]; omega) (by rw [i_cl hd0 (by omega), i_cl hn0 (by omega)]; omega) (fun _ _ => rfl) (by omega) (by show 0 + (nativeFrameWords "java/lang/System" "arraycopy" 5 + 11) ≤ R.locals; have := nfw; omega) hd (fun H1 locs1 hP _ hS => ?_)
  refine kk ls H1 locs1 hl okS_nil ho ?_
  rw [wsM_set (M' := me_cpy M sk sp dk dp n) ha1 ?_ (fun k hk j => by unfold me_cpy; rw [if_neg (fun q => hk q.1)])] at hP
  · refine ⟨hP, wsM_D hw.2.1, hS, fun k j => ?_, fun j => ?_⟩
    · unfold me_cpy
      split
      · rename_i q
        have h1 := hw.2.2.2.1 sk (sp + (j - dp))
        unfold rg at h1 ⊢
        rw [q.1, if_neg (by omega)]
        rwa [if_neg (by omega)] at h1
      · exact hw.2.2.2.1 k j
    · unfold me_cpy
      rw [if_neg (by omega), if_neg (by omega)]
      exact hw.2.2.2.2 j
  · rw [en_1k hk1, i_cl hs0 (by omega), i_cl hd0 (by omega), i_cl hn0 (by omega)]
    congr 4
    funext j
    unfold va_cpy me_cpy
    by_cases hj : dp.toNat ≤ j ∧ j < dp.toNat + n.toNat
    · rw [if_pos hj, if_pos ⟨rfl, by omega, by omega⟩]
      show Int32.ofInt (M sk ((sp.toNat + (j - dp.toNat) : Nat) : Int)) = _
      rw [show ((sp.toNat + (j - dp.toNat) : Nat) : Int) = sp + ((j : Int) - dp) by omega]
    · rw [if_neg hj, if_neg (by omega)]
theorem G_sld {x : Int} (X : Cx p R s m args c cells slots D cI cZ cJ y d) (hd : decode (cod y) pc = .ok (.iaload, 1)) (hy : y = 0) (hsc : Sc s H0 A ad S y) (h0 : 0 ≤ x) (h1 : x < M 98 0) (kk : GG p l e R s m args below meth c cells slots QQ H0 A D ad cI cZ cJ S (pc + 1) lo (.inl (M 99 x) :: st) M) : GG p l e R s m args below meth c cells slots QQ H0 A D ad cI cZ cJ S (pc) lo (.inl x :: .inr (.inr 99) :: st) M := by
  intro ls H locs hl hs ho hw
  obtain ⟨L, xs, hX, hb, hbA, hL, e1, e2⟩ := hsc hy
  have e3 := hw.2.2.2.2 0
  have hxL : x.toNat < L := by omega
  refine va_sld X.1 X.2.1 hX hb hbA hw.2.2.1 (i_in h0 (by omega) (by omega)) hd ?_
  have e4 := hw.2.2.2.2 x
  have e5 := e2 x.toNat hxL
  rw [Int.toNat_of_nonneg h0] at e5
  have h6 := kk ls H locs hl (hs.tail.tail.push (v := .inl (M 99 x)) (by rw [e4.2, e5]; exact i_rng _)) ho hw
  rw [i_cl h0 (by omega)]
  have e7 : Int32.ofInt (M 99 x) = xs x.toNat := by rw [e4.2, e5, Int32.ofInt_toInt]
  rw [← e7]
  exact h6
theorem G_slen (X : Cx p R s m args c cells slots D cI cZ cJ y d) (hd : decode (cod y) pc = .ok (.arraylength, 1)) (hy : y = 0) (hsc : Sc s H0 A ad S y) (kk : GG p l e R s m args below meth c cells slots QQ H0 A D ad cI cZ cJ S (pc + 1) lo (.inl (M 98 0) :: st) M) : GG p l e R s m args below meth c cells slots QQ H0 A D ad cI cZ cJ S (pc) lo (.inr (.inr 99) :: st) M := by
  intro ls H locs hl hs ho hw
  obtain ⟨L, xs, hX, hb, hbA, hL, e1, e2⟩ := hsc hy
  have e3 := hw.2.2.2.2 0
  refine va_slen X.1 X.2.1 hX hb hbA hw.2.2.1 hd ?_
  have h6 := kk ls H locs hl (hs.tail.push (v := .inl (M 98 0)) ⟨by omega, by omega⟩) ho hw
  have e7 : Int32.ofInt (M 98 0) = Int32.ofNat L := by rw [e3.1, e1, Int32.ofInt_eq_ofNat]
  rw [← e7]
  exact h6
end GM
theorem okA : ∀ y, y < 133 → ∀ t, blk y t ≠ [] → okB y (blk y t) (bpc y t) = true := by
  intro y hy
  match y, hy with
  | 0, _ =>
    intro t ht
    match t, ht with
    | 0, _ => exact okb0_0
    | 1, _ => exact okb0_1
    | 2, _ => exact okb0_2
    | 3, _ => exact okb0_3
    | 4, _ => exact okb0_4
    | 5, _ => exact okb0_5
    | 6, _ => exact okb0_6
    | 7, _ => exact okb0_7
    | 8, _ => exact okb0_8
    | 9, _ => exact okb0_9
    | 10, _ => exact okb0_10
    | 11, _ => exact okb0_11
    | 12, _ => exact okb0_12
    | 13, _ => exact okb0_13
    | 14, _ => exact okb0_14
    | 15, _ => exact okb0_15
    | 16, _ => exact okb0_16
    | 17, _ => exact okb0_17
    | 18, _ => exact okb0_18
    | 19, _ => exact okb0_19
    | 20, _ => exact okb0_20
    | 21, _ => exact okb0_21
    | 22, _ => exact okb0_22
    | 23, _ => exact okb0_23
    | 24, _ => exact okb0_24
    | 25, _ => exact okb0_25
    | 26, _ => exact okb0_26
    | 27, _ => exact okb0_27
    | n + 28, h => exact absurd rfl h
  | 1, _ =>
    intro t ht
    match t, ht with
    | 0, _ => exact okb1_0
    | 1, _ => exact okb1_1
    | 2, _ => exact okb1_2
    | n + 3, h => exact absurd rfl h
  | 2, _ =>
    intro t ht
    match t, ht with
    | 0, _ => exact okb2_0
    | 1, _ => exact okb2_1
    | 2, _ => exact okb2_2
    | n + 3, h => exact absurd rfl h
  | 3, _ =>
    intro t ht
    match t, ht with
    | 0, _ => exact okb3_0
    | 1, _ => exact okb3_1
    | 2, _ => exact okb3_2
    | n + 3, h => exact absurd rfl h
  | 4, _ =>
    intro t ht
    match t, ht with
    | 0, _ => exact okb4_0
    | n + 1, h => exact absurd rfl h
  | 5, _ =>
    intro t ht
    match t, ht with
    | 0, _ => exact okb5_0
    | n + 1, h => exact absurd rfl h
  | 6, _ =>
    intro t ht
    match t, ht with
    | 0, _ => exact okb6_0
    | n + 1, h => exact absurd rfl h
  | 7, _ =>
    intro t ht
    match t, ht with
    | 0, _ => exact okb7_0
    | 1, _ => exact okb7_1
    | 2, _ => exact okb7_2
    | n + 3, h => exact absurd rfl h
  | 8, _ =>
    intro t ht
    match t, ht with
    | 0, _ => exact okb8_0
    | n + 1, h => exact absurd rfl h
  | 9, _ =>
    intro t ht
    match t, ht with
    | 0, _ => exact okb9_0
    | 1, _ => exact okb9_1
    | 2, _ => exact okb9_2
    | n + 3, h => exact absurd rfl h
  | 10, _ =>
    intro t ht
    match t, ht with
    | 0, _ => exact okb10_0
    | 1, _ => exact okb10_1
    | n + 2, h => exact absurd rfl h
  | 11, _ =>
    intro t ht
    match t, ht with
    | 0, _ => exact okb11_0
    | 1, _ => exact okb11_1
    | 2, _ => exact okb11_2
    | n + 3, h => exact absurd rfl h
  | 12, _ =>
    intro t ht
    match t, ht with
    | 0, _ => exact okb12_0
    | n + 1, h => exact absurd rfl h
  | 13, _ =>
    intro t ht
    match t, ht with
    | 0, _ => exact okb13_0
    | 1, _ => exact okb13_1
    | 2, _ => exact okb13_2
    | 3, _ => exact okb13_3
    | 4, _ => exact okb13_4
    | 5, _ => exact okb13_5
    | 6, _ => exact okb13_6
    | n + 7, h => exact absurd rfl h
  | 14, _ =>
    intro t ht
    match t, ht with
    | 0, _ => exact okb14_0
    | 1, _ => exact okb14_1
    | 2, _ => exact okb14_2
    | 3, _ => exact okb14_3
    | 4, _ => exact okb14_4
    | 5, _ => exact okb14_5
    | n + 6, h => exact absurd rfl h
  | 15, _ =>
    intro t ht
    match t, ht with
    | 0, _ => exact okb15_0
    | 1, _ => exact okb15_1
    | 2, _ => exact okb15_2
    | 3, _ => exact okb15_3
    | 4, _ => exact okb15_4
    | n + 5, h => exact absurd rfl h
  | 16, _ =>
    intro t ht
    match t, ht with
    | 0, _ => exact okb16_0
    | 1, _ => exact okb16_1
    | 2, _ => exact okb16_2
    | 3, _ => exact okb16_3
    | 4, _ => exact okb16_4
    | n + 5, h => exact absurd rfl h
  | 17, _ =>
    intro t ht
    match t, ht with
    | 0, _ => exact okb17_0
    | 1, _ => exact okb17_1
    | 2, _ => exact okb17_2
    | 3, _ => exact okb17_3
    | 4, _ => exact okb17_4
    | 5, _ => exact okb17_5
    | n + 6, h => exact absurd rfl h
  | 18, _ =>
    intro t ht
    match t, ht with
    | 0, _ => exact okb18_0
    | n + 1, h => exact absurd rfl h
  | 19, _ =>
    intro t ht
    match t, ht with
    | 0, _ => exact okb19_0
    | 1, _ => exact okb19_1
    | 2, _ => exact okb19_2
    | 3, _ => exact okb19_3
    | 4, _ => exact okb19_4
    | n + 5, h => exact absurd rfl h
  | 20, _ =>
    intro t ht
    match t, ht with
    | 0, _ => exact okb20_0
    | 1, _ => exact okb20_1
    | 2, _ => exact okb20_2
    | 3, _ => exact okb20_3
    | 4, _ => exact okb20_4
    | 5, _ => exact okb20_5
    | 6, _ => exact okb20_6
    | 7, _ => exact okb20_7
    | 8, _ => exact okb20_8
    | n + 9, h => exact absurd rfl h
  | 21, _ =>
    intro t ht
    match t, ht with
    | 0, _ => exact okb21_0
    | n + 1, h => exact absurd rfl h
  | 22, _ =>
    intro t ht
    match t, ht with
    | 0, _ => exact okb22_0
    | 1, _ => exact okb22_1
    | 2, _ => exact okb22_2
    | n + 3, h => exact absurd rfl h
  | 23, _ =>
    intro t ht
    match t, ht with
    | 0, _ => exact okb23_0
    | 1, _ => exact okb23_1
    | 2, _ => exact okb23_2
    | n + 3, h => exact absurd rfl h
  | 24, _ =>
    intro t ht
    match t, ht with
    | 0, _ => exact okb24_0
    | 1, _ => exact okb24_1
    | 2, _ => exact okb24_2
    | 3, _ => exact okb24_3
    | 4, _ => exact okb24_4
    | 5, _ => exact okb24_5
    | n + 6, h => exact absurd rfl h
  | 25, _ =>
    intro t ht
    match t, ht with
    | 0, _ => exact okb25_0
    | 1, _ => exact okb25_1
    | 2, _ => exact okb25_2
    | 3, _ => exact okb25_3
    | n + 4, h => exact absurd rfl h
  | 26, _ =>
    intro t ht
    match t, ht with
    | 0, _ => exact okb26_0
    | 1, _ => exact okb26_1
    | 2, _ => exact okb26_2
    | 3, _ => exact okb26_3
    | 4, _ => exact okb26_4
    | n + 5, h => exact absurd rfl h
  | 27, _ =>
    intro t ht
    match t, ht with
    | 0, _ => exact okb27_0
    | 1, _ => exact okb27_1
    | 2, _ => exact okb27_2
    | 3, _ => exact okb27_3
    | 4, _ => exact okb27_4
    | 5, _ => exact okb27_5
    | n + 6, h => exact absurd rfl h
  | 28, _ =>
    intro t ht
    match t, ht with
    | 0, _ => exact okb28_0
    | 1, _ => exact okb28_1
    | 2, _ => exact okb28_2
    | 3, _ => exact okb28_3
    | 4, _ => exact okb28_4
    | 5, _ => exact okb28_5
    | 6, _ => exact okb28_6
    | 7, _ => exact okb28_7
    | 8, _ => exact okb28_8
    | 9, _ => exact okb28_9
    | 10, _ => exact okb28_10
    | n + 11, h => exact absurd rfl h
  | 29, _ =>
    intro t ht
    match t, ht with
    | 0, _ => exact okb29_0
    | 1, _ => exact okb29_1
    | 2, _ => exact okb29_2
    | 3, _ => exact okb29_3
    | 4, _ => exact okb29_4
    | 5, _ => exact okb29_5
    | n + 6, h => exact absurd rfl h
  | 30, _ =>
    intro t ht
    match t, ht with
    | 0, _ => exact okb30_0
    | 1, _ => exact okb30_1
    | 2, _ => exact okb30_2
    | 3, _ => exact okb30_3
    | 4, _ => exact okb30_4
    | n + 5, h => exact absurd rfl h
  | 31, _ =>
    intro t ht
    match t, ht with
    | 0, _ => exact okb31_0
    | n + 1, h => exact absurd rfl h
  | 32, _ =>
    intro t ht
    match t, ht with
    | 0, _ => exact okb32_0
    | n + 1, h => exact absurd rfl h
  | 33, _ =>
    intro t ht
    match t, ht with
    | 0, _ => exact okb33_0
    | n + 1, h => exact absurd rfl h
  | 34, _ =>
    intro t ht
    match t, ht with
    | 0, _ => exact okb34_0
    | 1, _ => exact okb34_1
    | 2, _ => exact okb34_2
    | n + 3, h => exact absurd rfl h
  | 35, _ =>
    intro t ht
    match t, ht with
    | 0, _ => exact okb35_0
    | 1, _ => exact okb35_1
    | 2, _ => exact okb35_2
    | n + 3, h => exact absurd rfl h
  | 36, _ =>
    intro t ht
    match t, ht with
    | 0, _ => exact okb36_0
    | 1, _ => exact okb36_1
    | 2, _ => exact okb36_2
    | n + 3, h => exact absurd rfl h
  | 37, _ =>
    intro t ht
    match t, ht with
    | 0, _ => exact okb37_0
    | 1, _ => exact okb37_1
    | 2, _ => exact okb37_2
    | n + 3, h => exact absurd rfl h
  | 38, _ =>
    intro t ht
    match t, ht with
    | 0, _ => exact okb38_0
    | 1, _ => exact okb38_1
    | 2, _ => exact okb38_2
    | 3, _ => exact okb38_3
    | 4, _ => exact okb38_4
    | 5, _ => exact okb38_5
    | n + 6, h => exact absurd rfl h
  | 39, _ =>
    intro t ht
    match t, ht with
    | 0, _ => exact okb39_0
    | 1, _ => exact okb39_1
    | n + 2, h => exact absurd rfl h
  | 40, _ =>
    intro t ht
    match t, ht with
    | 0, _ => exact okb40_0
    | 1, _ => exact okb40_1
    | 2, _ => exact okb40_2
    | 3, _ => exact okb40_3
    | 4, _ => exact okb40_4
    | n + 5, h => exact absurd rfl h
  | 41, _ =>
    intro t ht
    match t, ht with
    | 0, _ => exact okb41_0
    | 1, _ => exact okb41_1
    | n + 2, h => exact absurd rfl h
  | 42, _ =>
    intro t ht
    match t, ht with
    | 0, _ => exact okb42_0
    | 1, _ => exact okb42_1
    | 2, _ => exact okb42_2
    | n + 3, h => exact absurd rfl h
  | 43, _ =>
    intro t ht
    match t, ht with
    | 0, _ => exact okb43_0
    | n + 1, h => exact absurd rfl h
  | 44, _ =>
    intro t ht
    match t, ht with
    | 0, _ => exact okb44_0
    | 1, _ => exact okb44_1
    | 2, _ => exact okb44_2
    | 3, _ => exact okb44_3
    | n + 4, h => exact absurd rfl h
  | 45, _ =>
    intro t ht
    match t, ht with
    | 0, _ => exact okb45_0
    | n + 1, h => exact absurd rfl h
  | 46, _ =>
    intro t ht
    match t, ht with
    | 0, _ => exact okb46_0
    | 1, _ => exact okb46_1
    | 2, _ => exact okb46_2
    | n + 3, h => exact absurd rfl h
  | 47, _ =>
    intro t ht
    match t, ht with
    | 0, _ => exact okb47_0
    | 1, _ => exact okb47_1
    | 2, _ => exact okb47_2
    | 3, _ => exact okb47_3
    | n + 4, h => exact absurd rfl h
  | 48, _ =>
    intro t ht
    match t, ht with
    | 0, _ => exact okb48_0
    | 1, _ => exact okb48_1
    | 2, _ => exact okb48_2
    | 3, _ => exact okb48_3
    | 4, _ => exact okb48_4
    | 5, _ => exact okb48_5
    | 6, _ => exact okb48_6
    | 7, _ => exact okb48_7
    | n + 8, h => exact absurd rfl h
  | 49, _ =>
    intro t ht
    match t, ht with
    | 0, _ => exact okb49_0
    | 1, _ => exact okb49_1
    | n + 2, h => exact absurd rfl h
  | 50, _ =>
    intro t ht
    match t, ht with
    | 0, _ => exact okb50_0
    | 1, _ => exact okb50_1
    | 2, _ => exact okb50_2
    | 3, _ => exact okb50_3
    | n + 4, h => exact absurd rfl h
  | 51, _ =>
    intro t ht
    match t, ht with
    | 0, _ => exact okb51_0
    | 1, _ => exact okb51_1
    | n + 2, h => exact absurd rfl h
  | 52, _ =>
    intro t ht
    match t, ht with
    | 0, _ => exact okb52_0
    | 1, _ => exact okb52_1
    | 2, _ => exact okb52_2
    | n + 3, h => exact absurd rfl h
  | 53, _ =>
    intro t ht
    match t, ht with
    | 0, _ => exact okb53_0
    | 1, _ => exact okb53_1
    | 2, _ => exact okb53_2
    | n + 3, h => exact absurd rfl h
  | 54, _ =>
    intro t ht
    match t, ht with
    | 0, _ => exact okb54_0
    | 1, _ => exact okb54_1
    | 2, _ => exact okb54_2
    | 3, _ => exact okb54_3
    | 4, _ => exact okb54_4
    | n + 5, h => exact absurd rfl h
  | 55, _ =>
    intro t ht
    match t, ht with
    | 0, _ => exact okb55_0
    | 1, _ => exact okb55_1
    | 2, _ => exact okb55_2
    | 3, _ => exact okb55_3
    | n + 4, h => exact absurd rfl h
  | 56, _ =>
    intro t ht
    match t, ht with
    | 0, _ => exact okb56_0
    | 1, _ => exact okb56_1
    | 2, _ => exact okb56_2
    | n + 3, h => exact absurd rfl h
  | 57, _ =>
    intro t ht
    match t, ht with
    | 0, _ => exact okb57_0
    | 1, _ => exact okb57_1
    | 2, _ => exact okb57_2
    | n + 3, h => exact absurd rfl h
  | 58, _ =>
    intro t ht
    match t, ht with
    | 0, _ => exact okb58_0
    | 1, _ => exact okb58_1
    | n + 2, h => exact absurd rfl h
  | 59, _ =>
    intro t ht
    match t, ht with
    | 0, _ => exact okb59_0
    | 1, _ => exact okb59_1
    | 2, _ => exact okb59_2
    | n + 3, h => exact absurd rfl h
  | 60, _ =>
    intro t ht
    match t, ht with
    | 0, _ => exact okb60_0
    | 1, _ => exact okb60_1
    | 2, _ => exact okb60_2
    | n + 3, h => exact absurd rfl h
  | 61, _ =>
    intro t ht
    match t, ht with
    | 0, _ => exact okb61_0
    | 1, _ => exact okb61_1
    | 2, _ => exact okb61_2
    | 3, _ => exact okb61_3
    | n + 4, h => exact absurd rfl h
  | 62, _ =>
    intro t ht
    match t, ht with
    | 0, _ => exact okb62_0
    | 1, _ => exact okb62_1
    | 2, _ => exact okb62_2
    | 3, _ => exact okb62_3
    | 4, _ => exact okb62_4
    | n + 5, h => exact absurd rfl h
  | 63, _ =>
    intro t ht
    match t, ht with
    | 0, _ => exact okb63_0
    | 1, _ => exact okb63_1
    | 2, _ => exact okb63_2
    | 3, _ => exact okb63_3
    | n + 4, h => exact absurd rfl h
  | 64, _ =>
    intro t ht
    match t, ht with
    | 0, _ => exact okb64_0
    | 1, _ => exact okb64_1
    | 2, _ => exact okb64_2
    | n + 3, h => exact absurd rfl h
  | 65, _ =>
    intro t ht
    match t, ht with
    | 0, _ => exact okb65_0
    | 1, _ => exact okb65_1
    | 2, _ => exact okb65_2
    | 3, _ => exact okb65_3
    | 4, _ => exact okb65_4
    | 5, _ => exact okb65_5
    | 6, _ => exact okb65_6
    | 7, _ => exact okb65_7
    | 8, _ => exact okb65_8
    | 9, _ => exact okb65_9
    | 10, _ => exact okb65_10
    | 11, _ => exact okb65_11
    | 12, _ => exact okb65_12
    | 13, _ => exact okb65_13
    | 14, _ => exact okb65_14
    | 15, _ => exact okb65_15
    | 16, _ => exact okb65_16
    | 17, _ => exact okb65_17
    | 18, _ => exact okb65_18
    | n + 19, h => exact absurd rfl h
  | 66, _ =>
    intro t ht
    match t, ht with
    | 0, _ => exact okb66_0
    | 1, _ => exact okb66_1
    | 2, _ => exact okb66_2
    | 3, _ => exact okb66_3
    | 4, _ => exact okb66_4
    | 5, _ => exact okb66_5
    | 6, _ => exact okb66_6
    | 7, _ => exact okb66_7
    | 8, _ => exact okb66_8
    | n + 9, h => exact absurd rfl h
  | 67, _ =>
    intro t ht
    match t, ht with
    | 0, _ => exact okb67_0
    | 1, _ => exact okb67_1
    | n + 2, h => exact absurd rfl h
  | 68, _ =>
    intro t ht
    match t, ht with
    | 0, _ => exact okb68_0
    | 1, _ => exact okb68_1
    | 2, _ => exact okb68_2
    | n + 3, h => exact absurd rfl h
  | 69, _ =>
    intro t ht
    match t, ht with
    | 0, _ => exact okb69_0
    | n + 1, h => exact absurd rfl h
  | 70, _ =>
    intro t ht
    match t, ht with
    | 0, _ => exact okb70_0
    | 1, _ => exact okb70_1
    | 2, _ => exact okb70_2
    | 3, _ => exact okb70_3
    | 4, _ => exact okb70_4
    | n + 5, h => exact absurd rfl h
  | 71, _ =>
    intro t ht
    match t, ht with
    | 0, _ => exact okb71_0
    | 1, _ => exact okb71_1
    | n + 2, h => exact absurd rfl h
  | 72, _ =>
    intro t ht
    match t, ht with
    | 0, _ => exact okb72_0
    | n + 1, h => exact absurd rfl h
  | 73, _ =>
    intro t ht
    match t, ht with
    | 0, _ => exact okb73_0
    | 1, _ => exact okb73_1
    | n + 2, h => exact absurd rfl h
  | 74, _ =>
    intro t ht
    match t, ht with
    | 0, _ => exact okb74_0
    | 1, _ => exact okb74_1
    | 2, _ => exact okb74_2
    | 3, _ => exact okb74_3
    | 4, _ => exact okb74_4
    | 5, _ => exact okb74_5
    | 6, _ => exact okb74_6
    | n + 7, h => exact absurd rfl h
  | 75, _ =>
    intro t ht
    match t, ht with
    | 0, _ => exact okb75_0
    | 1, _ => exact okb75_1
    | 2, _ => exact okb75_2
    | 3, _ => exact okb75_3
    | 4, _ => exact okb75_4
    | 5, _ => exact okb75_5
    | 6, _ => exact okb75_6
    | 7, _ => exact okb75_7
    | 8, _ => exact okb75_8
    | 9, _ => exact okb75_9
    | 10, _ => exact okb75_10
    | 11, _ => exact okb75_11
    | n + 12, h => exact absurd rfl h
  | 76, _ =>
    intro t ht
    match t, ht with
    | 0, _ => exact okb76_0
    | 1, _ => exact okb76_1
    | 2, _ => exact okb76_2
    | n + 3, h => exact absurd rfl h
  | 77, _ =>
    intro t ht
    match t, ht with
    | 0, _ => exact okb77_0
    | 1, _ => exact okb77_1
    | 2, _ => exact okb77_2
    | n + 3, h => exact absurd rfl h
  | 78, _ =>
    intro t ht
    match t, ht with
    | 0, _ => exact okb78_0
    | n + 1, h => exact absurd rfl h
  | 79, _ =>
    intro t ht
    match t, ht with
    | 0, _ => exact okb79_0
    | 1, _ => exact okb79_1
    | 2, _ => exact okb79_2
    | n + 3, h => exact absurd rfl h
  | 80, _ =>
    intro t ht
    match t, ht with
    | 0, _ => exact okb80_0
    | 1, _ => exact okb80_1
    | 2, _ => exact okb80_2
    | n + 3, h => exact absurd rfl h
  | 81, _ =>
    intro t ht
    match t, ht with
    | 0, _ => exact okb81_0
    | n + 1, h => exact absurd rfl h
  | 82, _ =>
    intro t ht
    match t, ht with
    | 0, _ => exact okb82_0
    | n + 1, h => exact absurd rfl h
  | 83, _ =>
    intro t ht
    match t, ht with
    | 0, _ => exact okb83_0
    | 1, _ => exact okb83_1
    | n + 2, h => exact absurd rfl h
  | 84, _ =>
    intro t ht
    match t, ht with
    | 0, _ => exact okb84_0
    | 1, _ => exact okb84_1
    | 2, _ => exact okb84_2
    | n + 3, h => exact absurd rfl h
  | 85, _ =>
    intro t ht
    match t, ht with
    | 0, _ => exact okb85_0
    | 1, _ => exact okb85_1
    | 2, _ => exact okb85_2
    | n + 3, h => exact absurd rfl h
  | 86, _ =>
    intro t ht
    match t, ht with
    | 0, _ => exact okb86_0
    | n + 1, h => exact absurd rfl h
  | 87, _ =>
    intro t ht
    match t, ht with
    | 0, _ => exact okb87_0
    | 1, _ => exact okb87_1
    | 2, _ => exact okb87_2
    | n + 3, h => exact absurd rfl h
  | 88, _ =>
    intro t ht
    match t, ht with
    | 0, _ => exact okb88_0
    | n + 1, h => exact absurd rfl h
  | 89, _ =>
    intro t ht
    match t, ht with
    | 0, _ => exact okb89_0
    | n + 1, h => exact absurd rfl h
  | 90, _ =>
    intro t ht
    match t, ht with
    | 0, _ => exact okb90_0
    | 1, _ => exact okb90_1
    | 2, _ => exact okb90_2
    | n + 3, h => exact absurd rfl h
  | 91, _ =>
    intro t ht
    match t, ht with
    | 0, _ => exact okb91_0
    | 1, _ => exact okb91_1
    | 2, _ => exact okb91_2
    | n + 3, h => exact absurd rfl h
  | 92, _ =>
    intro t ht
    match t, ht with
    | 0, _ => exact okb92_0
    | 1, _ => exact okb92_1
    | 2, _ => exact okb92_2
    | n + 3, h => exact absurd rfl h
  | 93, _ =>
    intro t ht
    match t, ht with
    | 0, _ => exact okb93_0
    | 1, _ => exact okb93_1
    | 2, _ => exact okb93_2
    | n + 3, h => exact absurd rfl h
  | 94, _ =>
    intro t ht
    match t, ht with
    | 0, _ => exact okb94_0
    | 1, _ => exact okb94_1
    | 2, _ => exact okb94_2
    | n + 3, h => exact absurd rfl h
  | 95, _ =>
    intro t ht
    match t, ht with
    | 0, _ => exact okb95_0
    | 1, _ => exact okb95_1
    | 2, _ => exact okb95_2
    | n + 3, h => exact absurd rfl h
  | 96, _ =>
    intro t ht
    match t, ht with
    | 0, _ => exact okb96_0
    | 1, _ => exact okb96_1
    | 2, _ => exact okb96_2
    | n + 3, h => exact absurd rfl h
  | 97, _ =>
    intro t ht
    match t, ht with
    | 0, _ => exact okb97_0
    | 1, _ => exact okb97_1
    | 2, _ => exact okb97_2
    | n + 3, h => exact absurd rfl h
  | 98, _ =>
    intro t ht
    match t, ht with
    | 0, _ => exact okb98_0
    | 1, _ => exact okb98_1
    | n + 2, h => exact absurd rfl h
  | 99, _ =>
    intro t ht
    match t, ht with
    | 0, _ => exact okb99_0
    | 1, _ => exact okb99_1
    | 2, _ => exact okb99_2
    | n + 3, h => exact absurd rfl h
  | 100, _ =>
    intro t ht
    match t, ht with
    | 0, _ => exact okb100_0
    | 1, _ => exact okb100_1
    | 2, _ => exact okb100_2
    | 3, _ => exact okb100_3
    | n + 4, h => exact absurd rfl h
  | 101, _ =>
    intro t ht
    match t, ht with
    | 0, _ => exact okb101_0
    | 1, _ => exact okb101_1
    | 2, _ => exact okb101_2
    | 3, _ => exact okb101_3
    | 4, _ => exact okb101_4
    | n + 5, h => exact absurd rfl h
  | 102, _ =>
    intro t ht
    match t, ht with
    | 0, _ => exact okb102_0
    | 1, _ => exact okb102_1
    | 2, _ => exact okb102_2
    | 3, _ => exact okb102_3
    | n + 4, h => exact absurd rfl h
  | 103, _ =>
    intro t ht
    match t, ht with
    | 0, _ => exact okb103_0
    | n + 1, h => exact absurd rfl h
  | 104, _ =>
    intro t ht
    match t, ht with
    | 0, _ => exact okb104_0
    | 1, _ => exact okb104_1
    | 2, _ => exact okb104_2
    | n + 3, h => exact absurd rfl h
  | 105, _ =>
    intro t ht
    match t, ht with
    | 0, _ => exact okb105_0
    | 1, _ => exact okb105_1
    | 2, _ => exact okb105_2
    | 3, _ => exact okb105_3
    | 4, _ => exact okb105_4
    | 5, _ => exact okb105_5
    | 6, _ => exact okb105_6
    | 7, _ => exact okb105_7
    | 8, _ => exact okb105_8
    | 9, _ => exact okb105_9
    | 10, _ => exact okb105_10
    | 11, _ => exact okb105_11
    | 12, _ => exact okb105_12
    | 13, _ => exact okb105_13
    | 14, _ => exact okb105_14
    | 15, _ => exact okb105_15
    | n + 16, h => exact absurd rfl h
  | 106, _ =>
    intro t ht
    match t, ht with
    | 0, _ => exact okb106_0
    | 1, _ => exact okb106_1
    | 2, _ => exact okb106_2
    | 3, _ => exact okb106_3
    | 4, _ => exact okb106_4
    | 5, _ => exact okb106_5
    | 6, _ => exact okb106_6
    | 7, _ => exact okb106_7
    | 8, _ => exact okb106_8
    | 9, _ => exact okb106_9
    | n + 10, h => exact absurd rfl h
  | 107, _ =>
    intro t ht
    match t, ht with
    | 0, _ => exact okb107_0
    | 1, _ => exact okb107_1
    | 2, _ => exact okb107_2
    | 3, _ => exact okb107_3
    | 4, _ => exact okb107_4
    | 5, _ => exact okb107_5
    | n + 6, h => exact absurd rfl h
  | 108, _ =>
    intro t ht
    match t, ht with
    | 0, _ => exact okb108_0
    | 1, _ => exact okb108_1
    | 2, _ => exact okb108_2
    | 3, _ => exact okb108_3
    | 4, _ => exact okb108_4
    | 5, _ => exact okb108_5
    | 6, _ => exact okb108_6
    | 7, _ => exact okb108_7
    | 8, _ => exact okb108_8
    | 9, _ => exact okb108_9
    | n + 10, h => exact absurd rfl h
  | 109, _ =>
    intro t ht
    match t, ht with
    | 0, _ => exact okb109_0
    | 1, _ => exact okb109_1
    | 2, _ => exact okb109_2
    | n + 3, h => exact absurd rfl h
  | 110, _ =>
    intro t ht
    match t, ht with
    | 0, _ => exact okb110_0
    | 1, _ => exact okb110_1
    | 2, _ => exact okb110_2
    | n + 3, h => exact absurd rfl h
  | 111, _ =>
    intro t ht
    match t, ht with
    | 0, _ => exact okb111_0
    | 1, _ => exact okb111_1
    | 2, _ => exact okb111_2
    | 3, _ => exact okb111_3
    | 4, _ => exact okb111_4
    | 5, _ => exact okb111_5
    | 6, _ => exact okb111_6
    | 7, _ => exact okb111_7
    | 8, _ => exact okb111_8
    | 9, _ => exact okb111_9
    | 10, _ => exact okb111_10
    | 11, _ => exact okb111_11
    | 12, _ => exact okb111_12
    | 13, _ => exact okb111_13
    | 14, _ => exact okb111_14
    | 15, _ => exact okb111_15
    | 16, _ => exact okb111_16
    | 17, _ => exact okb111_17
    | 18, _ => exact okb111_18
    | n + 19, h => exact absurd rfl h
  | 112, _ =>
    intro t ht
    match t, ht with
    | 0, _ => exact okb112_0
    | 1, _ => exact okb112_1
    | 2, _ => exact okb112_2
    | n + 3, h => exact absurd rfl h
  | 113, _ =>
    intro t ht
    match t, ht with
    | 0, _ => exact okb113_0
    | 1, _ => exact okb113_1
    | 2, _ => exact okb113_2
    | 3, _ => exact okb113_3
    | 4, _ => exact okb113_4
    | 5, _ => exact okb113_5
    | 6, _ => exact okb113_6
    | 7, _ => exact okb113_7
    | 8, _ => exact okb113_8
    | n + 9, h => exact absurd rfl h
  | 114, _ =>
    intro t ht
    match t, ht with
    | 0, _ => exact okb114_0
    | 1, _ => exact okb114_1
    | 2, _ => exact okb114_2
    | 3, _ => exact okb114_3
    | 4, _ => exact okb114_4
    | n + 5, h => exact absurd rfl h
  | 115, _ =>
    intro t ht
    match t, ht with
    | 0, _ => exact okb115_0
    | 1, _ => exact okb115_1
    | 2, _ => exact okb115_2
    | n + 3, h => exact absurd rfl h
  | 116, _ =>
    intro t ht
    match t, ht with
    | 0, _ => exact okb116_0
    | 1, _ => exact okb116_1
    | 2, _ => exact okb116_2
    | 3, _ => exact okb116_3
    | 4, _ => exact okb116_4
    | 5, _ => exact okb116_5
    | 6, _ => exact okb116_6
    | 7, _ => exact okb116_7
    | 8, _ => exact okb116_8
    | 9, _ => exact okb116_9
    | n + 10, h => exact absurd rfl h
  | 117, _ =>
    intro t ht
    match t, ht with
    | 0, _ => exact okb117_0
    | 1, _ => exact okb117_1
    | 2, _ => exact okb117_2
    | 3, _ => exact okb117_3
    | 4, _ => exact okb117_4
    | 5, _ => exact okb117_5
    | n + 6, h => exact absurd rfl h
  | 118, _ =>
    intro t ht
    match t, ht with
    | 0, _ => exact okb118_0
    | 1, _ => exact okb118_1
    | 2, _ => exact okb118_2
    | n + 3, h => exact absurd rfl h
  | 119, _ =>
    intro t ht
    match t, ht with
    | 0, _ => exact okb119_0
    | 1, _ => exact okb119_1
    | n + 2, h => exact absurd rfl h
  | 120, _ =>
    intro t ht
    match t, ht with
    | 0, _ => exact okb120_0
    | 1, _ => exact okb120_1
    | 2, _ => exact okb120_2
    | 3, _ => exact okb120_3
    | 4, _ => exact okb120_4
    | 5, _ => exact okb120_5
    | 6, _ => exact okb120_6
    | 7, _ => exact okb120_7
    | 8, _ => exact okb120_8
    | 9, _ => exact okb120_9
    | n + 10, h => exact absurd rfl h
  | 121, _ =>
    intro t ht
    match t, ht with
    | 0, _ => exact okb121_0
    | 1, _ => exact okb121_1
    | 2, _ => exact okb121_2
    | 3, _ => exact okb121_3
    | 4, _ => exact okb121_4
    | 5, _ => exact okb121_5
    | 6, _ => exact okb121_6
    | 7, _ => exact okb121_7
    | n + 8, h => exact absurd rfl h
  | 122, _ =>
    intro t ht
    match t, ht with
    | 0, _ => exact okb122_0
    | 1, _ => exact okb122_1
    | 2, _ => exact okb122_2
    | 3, _ => exact okb122_3
    | 4, _ => exact okb122_4
    | n + 5, h => exact absurd rfl h
  | 123, _ =>
    intro t ht
    match t, ht with
    | 0, _ => exact okb123_0
    | 1, _ => exact okb123_1
    | 2, _ => exact okb123_2
    | 3, _ => exact okb123_3
    | 4, _ => exact okb123_4
    | 5, _ => exact okb123_5
    | n + 6, h => exact absurd rfl h
  | 124, _ =>
    intro t ht
    match t, ht with
    | 0, _ => exact okb124_0
    | 1, _ => exact okb124_1
    | 2, _ => exact okb124_2
    | 3, _ => exact okb124_3
    | 4, _ => exact okb124_4
    | 5, _ => exact okb124_5
    | 6, _ => exact okb124_6
    | n + 7, h => exact absurd rfl h
  | 125, _ =>
    intro t ht
    match t, ht with
    | 0, _ => exact okb125_0
    | 1, _ => exact okb125_1
    | 2, _ => exact okb125_2
    | 3, _ => exact okb125_3
    | 4, _ => exact okb125_4
    | 5, _ => exact okb125_5
    | 6, _ => exact okb125_6
    | 7, _ => exact okb125_7
    | 8, _ => exact okb125_8
    | 9, _ => exact okb125_9
    | 10, _ => exact okb125_10
    | 11, _ => exact okb125_11
    | 12, _ => exact okb125_12
    | 13, _ => exact okb125_13
    | 14, _ => exact okb125_14
    | 15, _ => exact okb125_15
    | 16, _ => exact okb125_16
    | 17, _ => exact okb125_17
    | 18, _ => exact okb125_18
    | 19, _ => exact okb125_19
    | 20, _ => exact okb125_20
    | n + 21, h => exact absurd rfl h
  | 126, _ =>
    intro t ht
    match t, ht with
    | 0, _ => exact okb126_0
    | 1, _ => exact okb126_1
    | 2, _ => exact okb126_2
    | n + 3, h => exact absurd rfl h
  | 127, _ =>
    intro t ht
    match t, ht with
    | 0, _ => exact okb127_0
    | 1, _ => exact okb127_1
    | 2, _ => exact okb127_2
    | 3, _ => exact okb127_3
    | 4, _ => exact okb127_4
    | 5, _ => exact okb127_5
    | n + 6, h => exact absurd rfl h
  | 128, _ =>
    intro t ht
    match t, ht with
    | 0, _ => exact okb128_0
    | 1, _ => exact okb128_1
    | 2, _ => exact okb128_2
    | 3, _ => exact okb128_3
    | 4, _ => exact okb128_4
    | 5, _ => exact okb128_5
    | n + 6, h => exact absurd rfl h
  | 129, _ =>
    intro t ht
    match t, ht with
    | 0, _ => exact okb129_0
    | 1, _ => exact okb129_1
    | 2, _ => exact okb129_2
    | 3, _ => exact okb129_3
    | 4, _ => exact okb129_4
    | 5, _ => exact okb129_5
    | 6, _ => exact okb129_6
    | 7, _ => exact okb129_7
    | n + 8, h => exact absurd rfl h
  | 130, _ =>
    intro t ht
    match t, ht with
    | 0, _ => exact okb130_0
    | 1, _ => exact okb130_1
    | 2, _ => exact okb130_2
    | 3, _ => exact okb130_3
    | 4, _ => exact okb130_4
    | 5, _ => exact okb130_5
    | 6, _ => exact okb130_6
    | 7, _ => exact okb130_7
    | 8, _ => exact okb130_8
    | 9, _ => exact okb130_9
    | 10, _ => exact okb130_10
    | 11, _ => exact okb130_11
    | n + 12, h => exact absurd rfl h
  | 131, _ =>
    intro t ht
    match t, ht with
    | 0, _ => exact okb131_0
    | 1, _ => exact okb131_1
    | 2, _ => exact okb131_2
    | 3, _ => exact okb131_3
    | 4, _ => exact okb131_4
    | 5, _ => exact okb131_5
    | 6, _ => exact okb131_6
    | 7, _ => exact okb131_7
    | 8, _ => exact okb131_8
    | 9, _ => exact okb131_9
    | 10, _ => exact okb131_10
    | 11, _ => exact okb131_11
    | 12, _ => exact okb131_12
    | 13, _ => exact okb131_13
    | 14, _ => exact okb131_14
    | 15, _ => exact okb131_15
    | n + 16, h => exact absurd rfl h
  | 132, _ =>
    intro t ht
    match t, ht with
    | 0, _ => exact okb132_0
    | 1, _ => exact okb132_1
    | 2, _ => exact okb132_2
    | n + 3, h => exact absurd rfl h
  | n + 133, h => omega

theorem cowA : ∀ z, z < 133 → z ≠ 0 → ∃ i : Nat, lw_tbl[i]? = some (Cond.code (nam z) (cod z) (mxl z) (rty z)) := by
  intro z hz hz0
  match z, hz, hz0 with
  | 0, _, h => exact absurd rfl h
  | 1, _, _ => exact ⟨428, cow_1⟩
  | 2, _, _ => exact ⟨501, cow_2⟩
  | 3, _, _ => exact ⟨387, cow_3⟩
  | 4, _, _ => exact ⟨395, cow_4⟩
  | 5, _, _ => exact ⟨420, cow_5⟩
  | 6, _, _ => exact ⟨399, cow_6⟩
  | 7, _, _ => exact ⟨440, cow_7⟩
  | 8, _, _ => exact ⟨432, cow_8⟩
  | 9, _, _ => exact ⟨452, cow_9⟩
  | 10, _, _ => exact ⟨473, cow_10⟩
  | 11, _, _ => exact ⟨569, cow_11⟩
  | 12, _, _ => exact ⟨411, cow_12⟩
  | 13, _, _ => exact ⟨632, cow_13⟩
  | 14, _, _ => exact ⟨641, cow_14⟩
  | 15, _, _ => exact ⟨696, cow_15⟩
  | 16, _, _ => exact ⟨645, cow_16⟩
  | 17, _, _ => exact ⟨649, cow_17⟩
  | 18, _, _ => exact ⟨653, cow_18⟩
  | 19, _, _ => exact ⟨657, cow_19⟩
  | 20, _, _ => exact ⟨661, cow_20⟩
  | 21, _, _ => exact ⟨665, cow_21⟩
  | 22, _, _ => exact ⟨669, cow_22⟩
  | 23, _, _ => exact ⟨684, cow_23⟩
  | 24, _, _ => exact ⟨680, cow_24⟩
  | 25, _, _ => exact ⟨673, cow_25⟩
  | 26, _, _ => exact ⟨688, cow_26⟩
  | 27, _, _ => exact ⟨708, cow_27⟩
  | 28, _, _ => exact ⟨712, cow_28⟩
  | 29, _, _ => exact ⟨716, cow_29⟩
  | 30, _, _ => exact ⟨720, cow_30⟩
  | 31, _, _ => exact ⟨728, cow_31⟩
  | 32, _, _ => exact ⟨732, cow_32⟩
  | 33, _, _ => exact ⟨581, cow_33⟩
  | 34, _, _ => exact ⟨536, cow_34⟩
  | 35, _, _ => exact ⟨560, cow_35⟩
  | 36, _, _ => exact ⟨540, cow_36⟩
  | 37, _, _ => exact ⟨744, cow_37⟩
  | 38, _, _ => exact ⟨514, cow_38⟩
  | 39, _, _ => exact ⟨518, cow_39⟩
  | 40, _, _ => exact ⟨522, cow_40⟩
  | 41, _, _ => exact ⟨527, cow_41⟩
  | 42, _, _ => exact ⟨532, cow_42⟩
  | 43, _, _ => exact ⟨407, cow_43⟩
  | 44, _, _ => exact ⟨577, cow_44⟩
  | 45, _, _ => exact ⟨598, cow_45⟩
  | 46, _, _ => exact ⟨594, cow_46⟩
  | 47, _, _ => exact ⟨590, cow_47⟩
  | 48, _, _ => exact ⟨611, cow_48⟩
  | 49, _, _ => exact ⟨481, cow_49⟩
  | 50, _, _ => exact ⟨489, cow_50⟩
  | 51, _, _ => exact ⟨506, cow_51⟩
  | 52, _, _ => exact ⟨383, cow_52⟩
  | 53, _, _ => exact ⟨415, cow_53⟩
  | 54, _, _ => exact ⟨424, cow_54⟩
  | 55, _, _ => exact ⟨436, cow_55⟩
  | 56, _, _ => exact ⟨456, cow_56⟩
  | 57, _, _ => exact ⟨460, cow_57⟩
  | 58, _, _ => exact ⟨465, cow_58⟩
  | 59, _, _ => exact ⟨477, cow_59⟩
  | 60, _, _ => exact ⟨485, cow_60⟩
  | 61, _, _ => exact ⟨493, cow_61⟩
  | 62, _, _ => exact ⟨497, cow_62⟩
  | 63, _, _ => exact ⟨510, cow_63⟩
  | 64, _, _ => exact ⟨551, cow_64⟩
  | 65, _, _ => exact ⟨555, cow_65⟩
  | 66, _, _ => exact ⟨564, cow_66⟩
  | 67, _, _ => exact ⟨573, cow_67⟩
  | 68, _, _ => exact ⟨602, cow_68⟩
  | 69, _, _ => exact ⟨607, cow_69⟩
  | 70, _, _ => exact ⟨616, cow_70⟩
  | 71, _, _ => exact ⟨624, cow_71⟩
  | 72, _, _ => exact ⟨692, cow_72⟩
  | 73, _, _ => exact ⟨700, cow_73⟩
  | 74, _, _ => exact ⟨724, cow_74⟩
  | 75, _, _ => exact ⟨736, cow_75⟩
  | 76, _, _ => exact ⟨390, cow_76⟩
  | 77, _, _ => exact ⟨444, cow_77⟩
  | 78, _, _ => exact ⟨448, cow_78⟩
  | 79, _, _ => exact ⟨469, cow_79⟩
  | 80, _, _ => exact ⟨740, cow_80⟩
  | 81, _, _ => exact ⟨620, cow_81⟩
  | 82, _, _ => exact ⟨403, cow_82⟩
  | 83, _, _ => exact ⟨628, cow_83⟩
  | 84, _, _ => exact ⟨704, cow_84⟩
  | 85, _, _ => exact ⟨891, cow_85⟩
  | 86, _, _ => exact ⟨908, cow_86⟩
  | 87, _, _ => exact ⟨958, cow_87⟩
  | 88, _, _ => exact ⟨916, cow_88⟩
  | 89, _, _ => exact ⟨895, cow_89⟩
  | 90, _, _ => exact ⟨888, cow_90⟩
  | 91, _, _ => exact ⟨899, cow_91⟩
  | 92, _, _ => exact ⟨904, cow_92⟩
  | 93, _, _ => exact ⟨920, cow_93⟩
  | 94, _, _ => exact ⟨912, cow_94⟩
  | 95, _, _ => exact ⟨924, cow_95⟩
  | 96, _, _ => exact ⟨928, cow_96⟩
  | 97, _, _ => exact ⟨937, cow_97⟩
  | 98, _, _ => exact ⟨933, cow_98⟩
  | 99, _, _ => exact ⟨941, cow_99⟩
  | 100, _, _ => exact ⟨945, cow_100⟩
  | 101, _, _ => exact ⟨949, cow_101⟩
  | 102, _, _ => exact ⟨954, cow_102⟩
  | 103, _, _ => exact ⟨975, cow_103⟩
  | 104, _, _ => exact ⟨979, cow_104⟩
  | 105, _, _ => exact ⟨966, cow_105⟩
  | 106, _, _ => exact ⟨971, cow_106⟩
  | 107, _, _ => exact ⟨962, cow_107⟩
  | 108, _, _ => exact ⟨1004, cow_108⟩
  | 109, _, _ => exact ⟨1008, cow_109⟩
  | 110, _, _ => exact ⟨984, cow_110⟩
  | 111, _, _ => exact ⟨988, cow_111⟩
  | 112, _, _ => exact ⟨996, cow_112⟩
  | 113, _, _ => exact ⟨992, cow_113⟩
  | 114, _, _ => exact ⟨1000, cow_114⟩
  | 115, _, _ => exact ⟨1012, cow_115⟩
  | 116, _, _ => exact ⟨1016, cow_116⟩
  | 117, _, _ => exact ⟨1020, cow_117⟩
  | 118, _, _ => exact ⟨1037, cow_118⟩
  | 119, _, _ => exact ⟨1041, cow_119⟩
  | 120, _, _ => exact ⟨1033, cow_120⟩
  | 121, _, _ => exact ⟨1045, cow_121⟩
  | 122, _, _ => exact ⟨1054, cow_122⟩
  | 123, _, _ => exact ⟨1049, cow_123⟩
  | 124, _, _ => exact ⟨1058, cow_124⟩
  | 125, _, _ => exact ⟨1029, cow_125⟩
  | 126, _, _ => exact ⟨1025, cow_126⟩
  | 127, _, _ => exact ⟨1062, cow_127⟩
  | 128, _, _ => exact ⟨1070, cow_128⟩
  | 129, _, _ => exact ⟨1066, cow_129⟩
  | 130, _, _ => exact ⟨1074, cow_130⟩
  | 131, _, _ => exact ⟨1078, cow_131⟩
  | 132, _, _ => exact ⟨635, cow_132⟩
  | n + 133, h, _ => omega
theorem viA : ((List.range 133).all fun z => decide (z = 0) || ist z || viL.any (fun q => decide (q.1 = z))) = true := by decide +kernel
theorem stA : ((List.range 133).all fun z => decide (z = 0) || !(ist z) || stL.any (fun q => decide (q.1 = z))) = true := by decide +kernel
theorem inA : ((List.range 133).all fun z => inL.any (fun q => decide (q.1 = ow z))) = true := by decide +kernel
theorem code_in {z : Nat} (h : z < 133) (h0 : z ≠ 0) : Cond.code (nam z) (cod z) (mxl z) (rty z) ∈ lw_ok := by
  obtain ⟨i, hi⟩ := cowA z h h0
  exact at_in hi rfl
theorem vi_in {z : Nat} (h : z < 133) (h0 : z ≠ 0) (hs : ist z = false) : Cond.instanceMethod (nam z) ∈ lw_ok ∧ Cond.selects (clR (ow z)) (nam z) (nam z) ∈ lw_ok := by
  have h1 := List.all_eq_true.mp viA z (List.mem_range.mpr h)
  rw [hs, Bool.or_false, Bool.or_eq_true] at h1
  rcases h1 with h1 | h1
  · exact absurd (of_decide_eq_true h1) h0
  · obtain ⟨q, hq, e⟩ := List.any_eq_true.mp h1
    have e := of_decide_eq_true e
    have h2 := List.all_eq_true.mp viL_ok q hq
    rw [Bool.and_eq_true, e] at h2
    exact ⟨at_in (of_decide_eq_true h2.1) rfl, at_in (of_decide_eq_true h2.2) rfl⟩
theorem st_in {z : Nat} (h : z < 133) (h0 : z ≠ 0) (hs : ist z = true) : Cond.static (nam z) ∈ lw_ok := by
  have h1 := List.all_eq_true.mp stA z (List.mem_range.mpr h)
  rw [hs, Bool.not_true, Bool.or_false, Bool.or_eq_true] at h1
  rcases h1 with h1 | h1
  · exact absurd (of_decide_eq_true h1) h0
  · obtain ⟨q, hq, e⟩ := List.any_eq_true.mp h1
    have e := of_decide_eq_true e
    have h2 := List.all_eq_true.mp stL_ok q hq
    rw [e] at h2
    exact at_in (of_decide_eq_true h2) rfl
theorem in_in {z : Nat} (h : z < 133) : Cond.initialized (clR (ow z)) ∈ lw_ok := by
  have h1 := List.all_eq_true.mp inA z (List.mem_range.mpr h)
  obtain ⟨q, hq, e⟩ := List.any_eq_true.mp h1
  have e := of_decide_eq_true e
  have h2 := List.all_eq_true.mp inL_ok q hq
  rw [e] at h2
  exact at_in (of_decide_eq_true h2) rfl
theorem ml_in {y ix z : Nat} (h : (mlL.any fun q => decide (q.1 = (ow y, ix, z))) = true) : Cond.methodLink (clR (ow y)) ix (nam z) ∈ lw_ok := by
  obtain ⟨q, hq, e⟩ := List.any_eq_true.mp h
  have e := of_decide_eq_true e
  have h2 := List.all_eq_true.mp mlL_ok q hq
  rw [e] at h2
  exact at_in (of_decide_eq_true h2) rfl
theorem wsZ_in {z : Nat} (h : z < 133) (h0 : z ≠ 0) : ∀ w ∈ wsZ z, w ∈ lw_ok := by
  intro w hw
  rcases List.mem_cons.mp hw with rfl | h2
  · exact code_in h h0
  · exact h2
theorem cat_sum (ad : Nat → Nat) : ∀ st : St, ((st.map (cvv ad)).map fun v => v.category).sum ≤ 2 * st.length
  | [] => by simp
  | v :: st => by
    have h1 := cat_sum ad st
    have h2 : (cvv ad v).category ≤ 2 := by
      match v with
      | .inl x => simp [cvv, Value.category]
      | .inr (.inl x) => simp [cvv, Value.category]
      | .inr (.inr x) => simp [cvv, Value.category]
    simp only [List.map_cons, List.sum_cons, List.length_cons]
    omega
section GC
variable {p : Program} {l : Launch} {e : Env} {R : Room} {s : State} {m : MethodId} {args : Array Value} {below : List Frame} {meth : Method} {c : Code} {cells slots : Nat} {QQ : State → Prop} {H0 : Heap} {A : Nat → Prop} {D : va_G} {ad : Nat → Nat} {cI cZ cJ : ClassId} {S : Me} {y d pc : Nat} {lo : Lo} {st : St} {M : Me} {n z ix : Nat} {as : List AV} {Q : Int → Me → Prop}
theorem A_of {H : Heap} {locs : List Loc} (hA : ∀ q, H0.size ≤ q → A q) (hw : Wd D A H0 ad cI cZ cJ S M H locs) : ∀ q, va_A (wsM ad cI cZ cJ M) H.size q → A q := by
  intro q h
  rcases h with ⟨k, e, h⟩ | h
  · exact hw.2.1.2 k _ h
  · exact hA q (Nat.le_trans hw.2.2.1.1 h)
theorem PcZ_bl {sz : Nat} : FrameBlind (PcZ D ad cI cZ cJ M as sz) := by
  intro a U g mk h
  obtain ⟨h1, h2, h3, h4, h5, h6, h7⟩ := h
  exact ⟨h1, h2, h3, va_K.moved (u := U) (U := U.calling g mk a) (Vm.Alike.refl U.vm) h4, h5, va_Nw.same (u := U) rfl rfl h6, va_Nw.same (u := U) rfl rfl h7⟩
theorem PcZ_at {H : Heap} {locs : List Loc} (X : Cx p R s m args c cells slots D cI cZ cJ y d) (hw : Wd D A H0 ad cI cZ cJ S M H locs) {U : State} (hU : U.heap = H) (hW : s.WarmedH U.vm) : PcZ D ad cI cZ cJ M as H.size (as.map (cvv ad)).toArray U := by
  refine ⟨rfl, by rw [hU], by rw [hU]; exact hw.1, va_K.moved hW.alike X.2.2.2.2.2.1, hw.2.1.weaken (fun _ _ _ _ => trivial), va_Nw.warmF hW X.2.2.2.2.2.2.2.1, va_Nw.warmM hW X.2.2.2.2.2.2.2.2⟩
theorem G_callVI {o : Nat} (IH : Snd l S n) (X : Cx p R s m args c cells slots D cI cZ cJ y (d + 1)) (h : wpf n d (blk z 0) z (en z (.inr (.inr o) :: as)) [] M Q) (hz : z < 133) (hz0 : z ≠ 0) (hok : okB z (blk z 0) (bpc z 0) = true) (hn : (.inr (.inr o) :: as).length = nar z) (hg : nlg (.inr (.inr o) :: as) = true) (h4 : st.length ≤ 4) (hA : ∀ q, H0.size ≤ q → A q) (hlo : lo.length = mxl y) {ty : FieldType} (hr : rty z = some ty) (hd : decode (cod y) pc = .ok (.invokevirtual ix, 3)) (hi : ist z = false) (hoc : oc o = ow z) (hml : (mlL.any fun q => decide (q.1 = (ow y, ix, z))) = true) (kk : ∀ v M2, Q v M2 → GG p l e R s m args below meth c cells slots QQ H0 A D ad cI cZ cJ S (pc + 3) lo (.inl v :: st) M2) : GG p l e R s m args below meth c cells slots QQ H0 A D ad cI cZ cJ S (pc) lo ((.inr (.inr o) :: as).reverse ++ st) M := by
  intro ls H locs hl hs ho hw
  obtain ⟨t1, t2, t3, t4, t5, t6, t7, t8⟩ := tbz hz
  have hsa : okS (.inr (.inr o) :: as) := fun v hv => hs v (List.mem_append_left _ (List.mem_reverse.mpr hv))
  have hst : okS st := fun v hv => hs v (List.mem_append_right _ hv)
  have hM := metI (D := D) (ad := ad) (cI := cI) (cZ := cZ) (cJ := cJ) IH h hz hz0 hok hn hg hsa hw.2.2.2 H.size hr
  have hvi := vi_in hz hz0 hi
  have hG : GoodIn lw_ok (wsV (clR (ow y)) ix (clR (ow z)) (nam z) (wsZ z)) := good_in (fun w hw' => by
    rcases List.mem_append.mp hw' with h1 | h1
    · simp only [List.mem_cons, List.not_mem_nil, or_false] at h1
      rcases h1 with rfl | rfl | rfl | rfl
      · exact ml_in hml
      · exact hvi.1
      · exact hvi.2
      · exact in_in hz
    · exact wsZ_in hz hz0 w h1)
  have hoc9 : oc o ≠ 99 := by
    intro q
    rw [hoc] at q
    revert q hi hz hz0
    have key : ((List.range 133).all fun z => decide (z = 0) || ist z || decide (ow z < 9)) = true := by decide +kernel
    intro hz hz0 hi q
    have k1 := List.all_eq_true.mp key z (List.mem_range.mpr hz)
    rw [hi, Bool.or_false, Bool.or_eq_true] at k1
    rcases k1 with k1 | k1
    · exact hz0 (of_decide_eq_true k1)
    · have := of_decide_eq_true k1
      omega
  have ho8 := oc_lt (k := o) rfl hoc9
  have hoc8 : oc o < 9 := (by decide +kernel : ∀ o, o < 86 → oc o ≠ 99 → oc o < 9) o ho8 hoc9
  have hk0 := oc_kd o ho8 hoc8
  have hgt := wsM_get (ad := ad) (cI := cI) (cZ := cZ) (cJ := cJ) (M := M) ho8
  rw [en_0k hk0, hoc] at hgt
  rw [hoc] at hoc8
  have hstk : (((.inr (.inr o) :: as).reverse ++ st).map (cvv ad)) = (as.map (cvv ad)).reverse ++ .ref (ad o) :: st.map (cvv ad) := by simp [cvv]
  have hcs := cat_sum ad st
  have hRm := X.2.2.2.2.2.2.1
  rw [hstk]
  refine va_calli (va_runV (As := as.map (cvv ad)) (rest := st.map (cvv ad)) (g := F0 m pc ls ((as.map (cvv ad)).reverse ++ .ref (ad o) :: st.map (cvv ad))) (b := ad o) ⟨X.1, X.2.1, X.2.2.1, X.2.2.2.1, X.2.2.2.2.1⟩ hM (cwV (nar z - 1) X.2.2.2.2.1 hG rfl rfl rfl ⟨t1, t3, t4, by rw [t7, hi]; rfl⟩ ⟨by show d + 1 + 1 ≤ R.frames; omega, by show 8 + (mxl z + 11) + (34 * d + 40) ≤ R.locals; omega⟩) ⟨PcZ_bl, va_recv X.2.2.2.2.2.1 hw.1 (clC _ hoc8) hgt, fun U hU hW => PcZ_at X hw hU hW⟩ rfl (by rw [List.length_map]; simp at hn; omega) (by show ls.size = mxl y; rw [hl.1, hlo]) rfl (by show 2 * 0 + _ ≤ 8; omega) hd ⟨by omega, by omega⟩) hw.2.2.1 (fun q _ h1 => A_of hA hw q h1) (A_of hA hw) (fun r u t H1 locs1 ht hvm hpost hB hsz1 hkeep hS1 => ?_)
  obtain ⟨e1, hq, hrg, hok2⟩ := hpost
  rw [ht] at hB
  have h5 := kk u.1 u.2 hq ls H1 locs1 hl (hst.push (v := .inl u.1) hrg) ho ⟨hB, wsM_D hw.2.1, hS1, hok2⟩
  rw [e1]
  exact h5
theorem G_callSI (IH : Snd l S n) (X : Cx p R s m args c cells slots D cI cZ cJ y (d + 1)) (h : wpf n d (blk z 0) z (en z (as)) [] M Q) (hz : z < 133) (hz0 : z ≠ 0) (hok : okB z (blk z 0) (bpc z 0) = true) (hn : (as).length = nar z) (hg : nlg (as) = true) (h4 : st.length ≤ 4) (hA : ∀ q, H0.size ≤ q → A q) (hlo : lo.length = mxl y) {ty : FieldType} (hr : rty z = some ty) (hd : decode (cod y) pc = .ok (.invokestatic ix, 3)) (hi : ist z = true) (hml : (mlL.any fun q => decide (q.1 = (ow y, ix, z))) = true) (kk : ∀ v M2, Q v M2 → GG p l e R s m args below meth c cells slots QQ H0 A D ad cI cZ cJ S (pc + 3) lo (.inl v :: st) M2) : GG p l e R s m args below meth c cells slots QQ H0 A D ad cI cZ cJ S (pc) lo (as.reverse ++ st) M := by
  intro ls H locs hl hs ho hw
  obtain ⟨t1, t2, t3, t4, t5, t6, t7, t8⟩ := tbz hz
  have hsa : okS as := fun v hv => hs v (List.mem_append_left _ (List.mem_reverse.mpr hv))
  have hst : okS st := fun v hv => hs v (List.mem_append_right _ hv)
  have hM := metI (D := D) (ad := ad) (cI := cI) (cZ := cZ) (cJ := cJ) IH h hz hz0 hok hn hg hsa hw.2.2.2 H.size hr
  have hG : GoodIn lw_ok (va_wsS (clR (ow y)) ix (nam z) (wsZ z)) := good_in (fun w hw' => by
    rcases List.mem_append.mp hw' with h1 | h1
    · simp only [List.mem_cons, List.not_mem_nil, or_false] at h1
      rcases h1 with rfl | rfl | rfl
      · exact ml_in hml
      · exact st_in hz hz0 hi
      · rw [t1]; exact in_in hz
    · exact wsZ_in hz hz0 w h1)
  have hstk : ((as.reverse ++ st).map (cvv ad)) = (as.map (cvv ad)).reverse ++ st.map (cvv ad) := by simp
  have hcs := cat_sum ad st
  have hRm := X.2.2.2.2.2.2.1
  rw [hstk]
  refine va_calli (va_runS (As := as.map (cvv ad)) (rest := st.map (cvv ad)) (g := F0 m pc ls ((as.map (cvv ad)).reverse ++ st.map (cvv ad))) ⟨X.1, X.2.1, X.2.2.1, X.2.2.2.1, X.2.2.2.2.1⟩ hM (va_cwS (nar z) X.2.2.2.2.1 hG rfl rfl rfl ⟨t3, t4, by rw [t7, hi]; rfl⟩ ⟨by show d + 1 + 1 ≤ R.frames; omega, by show 8 + (mxl z + 11) + (34 * d + 40) ≤ R.locals; omega⟩) ⟨PcZ_bl, fun U hU hW => PcZ_at X hw hU hW⟩ rfl (by rw [List.length_map]; exact hn) (by show ls.size = mxl y; rw [hl.1, hlo]) rfl (by show 2 * 0 + _ ≤ 8; omega) hd ⟨by omega, by omega⟩) hw.2.2.1 (fun q _ h1 => A_of hA hw q h1) (A_of hA hw) (fun r u t H1 locs1 ht hvm hpost hB hsz1 hkeep hS1 => ?_)
  obtain ⟨e1, hq, hrg, hok2⟩ := hpost
  rw [ht] at hB
  have h5 := kk u.1 u.2 hq ls H1 locs1 hl (hst.push (v := .inl u.1) hrg) ho ⟨hB, wsM_D hw.2.1, hS1, hok2⟩
  rw [e1]
  exact h5
theorem G_callSNI (IH : Snd l S n) (X : Cx p R s m args c cells slots D cI cZ cJ y (d + 1)) (h : wpf n d (blk z 0) z (en z (as)) [] M Q) (hz : z < 133) (hz0 : z ≠ 0) (hok : okB z (blk z 0) (bpc z 0) = true) (hn : (as).length = nar z) (hg : nlg (as) = true) (h4 : st.length ≤ 4) (hA : ∀ q, H0.size ≤ q → A q) (hlo : lo.length = mxl y) {ty : FieldType} (hr : rty z = some ty) (hd : decode (cod y) pc = .ok (.invokestatic ix, 3)) (hi : ist z = true) (hy0 : ow y = 0) (hix : ix = 48) (hz76 : z = 76) (kk : ∀ v M2, Q v M2 → GG p l e R s m args below meth c cells slots QQ H0 A D ad cI cZ cJ S (pc + 3) lo (.inl v :: st) M2) : GG p l e R s m args below meth c cells slots QQ H0 A D ad cI cZ cJ S (pc) lo (as.reverse ++ st) M := by
  intro ls H locs hl hs ho hw
  obtain ⟨t1, t2, t3, t4, t5, t6, t7, t8⟩ := tbz hz
  have hsa : okS as := fun v hv => hs v (List.mem_append_left _ (List.mem_reverse.mpr hv))
  have hst : okS st := fun v hv => hs v (List.mem_append_right _ hv)
  have hM := metI (D := D) (ad := ad) (cI := cI) (cZ := cZ) (cJ := cJ) IH h hz hz0 hok hn hg hsa hw.2.2.2 H.size hr
  have hG : GoodIn lw_ok (wsZ z) := good_in (fun w hw' => wsZ_in hz hz0 w hw')
  have hnw : va_Nw (.methodLinkNest (clR (ow y)) ix (nam z) "FloodCells") s := by rw [hy0, hix, hz76]; exact X.2.2.2.2.2.2.2.2
  have hstk : ((as.reverse ++ st).map (cvv ad)) = (as.map (cvv ad)).reverse ++ st.map (cvv ad) := by simp
  have hcs := cat_sum ad st
  have hRm := X.2.2.2.2.2.2.1
  rw [hstk]
  refine va_calli (va_runSN (As := as.map (cvv ad)) (rest := st.map (cvv ad)) (g := F0 m pc ls ((as.map (cvv ad)).reverse ++ st.map (cvv ad))) ⟨X.1, X.2.1, X.2.2.1, X.2.2.2.1, X.2.2.2.2.1⟩ hM ⟨va_cnB (nar z) X.2.2.2.2.1 hG rfl rfl rfl hnw (X.2.2.2.2.1 _ (by rw [t1]; exact in_in hz)) ⟨t3, t4, by rw [t7, hi]; rfl⟩ ⟨by show d + 1 + 1 ≤ R.frames; omega, by show 8 + (mxl z + 11) + (34 * d + 40) ≤ R.locals; omega⟩, X.2.2.2.2.1 _ (st_in hz hz0 hi), trivial⟩ ⟨PcZ_bl, fun U hU hW => PcZ_at X hw hU hW⟩ rfl (by rw [List.length_map]; exact hn) (by show ls.size = mxl y; rw [hl.1, hlo]) rfl (by show 2 * 0 + _ ≤ 8; omega) hd ⟨by omega, by omega⟩) hw.2.2.1 (fun q _ h1 => A_of hA hw q h1) (A_of hA hw) (fun r u t H1 locs1 ht hvm hpost hB hsz1 hkeep hS1 => ?_)
  obtain ⟨e1, hq, hrg, hok2⟩ := hpost
  rw [ht] at hB
  have h5 := kk u.1 u.2 hq ls H1 locs1 hl (hst.push (v := .inl u.1) hrg) ho ⟨hB, wsM_D hw.2.1, hS1, hok2⟩
  rw [e1]
  exact h5
theorem G_callVV {o : Nat} (IH : Snd l S n) (X : Cx p R s m args c cells slots D cI cZ cJ y (d + 1)) (h : wpf n d (blk z 0) z (en z (.inr (.inr o) :: as)) [] M Q) (hz : z < 133) (hz0 : z ≠ 0) (hok : okB z (blk z 0) (bpc z 0) = true) (hn : (.inr (.inr o) :: as).length = nar z) (hg : nlg (.inr (.inr o) :: as) = true) (h4 : st.length ≤ 4) (hA : ∀ q, H0.size ≤ q → A q) (hlo : lo.length = mxl y) (hr : rty z = none) (hd : decode (cod y) pc = .ok (.invokevirtual ix, 3)) (hi : ist z = false) (hoc : oc o = ow z) (hml : (mlL.any fun q => decide (q.1 = (ow y, ix, z))) = true) (kk : ∀ v M2, Q v M2 → GG p l e R s m args below meth c cells slots QQ H0 A D ad cI cZ cJ S (pc + 3) lo (st) M2) : GG p l e R s m args below meth c cells slots QQ H0 A D ad cI cZ cJ S (pc) lo ((.inr (.inr o) :: as).reverse ++ st) M := by
  intro ls H locs hl hs ho hw
  obtain ⟨t1, t2, t3, t4, t5, t6, t7, t8⟩ := tbz hz
  have hsa : okS (.inr (.inr o) :: as) := fun v hv => hs v (List.mem_append_left _ (List.mem_reverse.mpr hv))
  have hst : okS st := fun v hv => hs v (List.mem_append_right _ hv)
  have hM := metV (D := D) (ad := ad) (cI := cI) (cZ := cZ) (cJ := cJ) IH h hz hz0 hok hn hg hsa hw.2.2.2 H.size hr
  have hvi := vi_in hz hz0 hi
  have hG : GoodIn lw_ok (wsV (clR (ow y)) ix (clR (ow z)) (nam z) (wsZ z)) := good_in (fun w hw' => by
    rcases List.mem_append.mp hw' with h1 | h1
    · simp only [List.mem_cons, List.not_mem_nil, or_false] at h1
      rcases h1 with rfl | rfl | rfl | rfl
      · exact ml_in hml
      · exact hvi.1
      · exact hvi.2
      · exact in_in hz
    · exact wsZ_in hz hz0 w h1)
  have hoc9 : oc o ≠ 99 := by
    intro q
    rw [hoc] at q
    revert q hi hz hz0
    have key : ((List.range 133).all fun z => decide (z = 0) || ist z || decide (ow z < 9)) = true := by decide +kernel
    intro hz hz0 hi q
    have k1 := List.all_eq_true.mp key z (List.mem_range.mpr hz)
    rw [hi, Bool.or_false, Bool.or_eq_true] at k1
    rcases k1 with k1 | k1
    · exact hz0 (of_decide_eq_true k1)
    · have := of_decide_eq_true k1
      omega
  have ho8 := oc_lt (k := o) rfl hoc9
  have hoc8 : oc o < 9 := (by decide +kernel : ∀ o, o < 86 → oc o ≠ 99 → oc o < 9) o ho8 hoc9
  have hk0 := oc_kd o ho8 hoc8
  have hgt := wsM_get (ad := ad) (cI := cI) (cZ := cZ) (cJ := cJ) (M := M) ho8
  rw [en_0k hk0, hoc] at hgt
  rw [hoc] at hoc8
  have hstk : (((.inr (.inr o) :: as).reverse ++ st).map (cvv ad)) = (as.map (cvv ad)).reverse ++ .ref (ad o) :: st.map (cvv ad) := by simp [cvv]
  have hcs := cat_sum ad st
  have hRm := X.2.2.2.2.2.2.1
  rw [hstk]
  refine va_callv (va_runV (As := as.map (cvv ad)) (rest := st.map (cvv ad)) (g := F0 m pc ls ((as.map (cvv ad)).reverse ++ .ref (ad o) :: st.map (cvv ad))) (b := ad o) ⟨X.1, X.2.1, X.2.2.1, X.2.2.2.1, X.2.2.2.2.1⟩ hM (cwV (nar z - 1) X.2.2.2.2.1 hG rfl rfl rfl ⟨t1, t3, t4, by rw [t7, hi]; rfl⟩ ⟨by show d + 1 + 1 ≤ R.frames; omega, by show 8 + (mxl z + 11) + (34 * d + 40) ≤ R.locals; omega⟩) ⟨PcZ_bl, va_recv X.2.2.2.2.2.1 hw.1 (clC _ hoc8) hgt, fun U hU hW => PcZ_at X hw hU hW⟩ rfl (by rw [List.length_map]; simp at hn; omega) (by show ls.size = mxl y; rw [hl.1, hlo]) rfl (by show 2 * 0 + _ ≤ 8; omega) hd ⟨by omega, by omega⟩) hw.2.2.1 (fun q _ h1 => A_of hA hw q h1) (A_of hA hw) (fun u t H1 locs1 ht hvm hpost hB hsz1 hkeep hS1 => ?_)
  obtain ⟨hq, hok2⟩ := hpost
  rw [ht] at hB
  exact kk u.1 u.2 hq ls H1 locs1 hl hst ho ⟨hB, wsM_D hw.2.1, hS1, hok2⟩
theorem G_callSV (IH : Snd l S n) (X : Cx p R s m args c cells slots D cI cZ cJ y (d + 1)) (h : wpf n d (blk z 0) z (en z (as)) [] M Q) (hz : z < 133) (hz0 : z ≠ 0) (hok : okB z (blk z 0) (bpc z 0) = true) (hn : (as).length = nar z) (hg : nlg (as) = true) (h4 : st.length ≤ 4) (hA : ∀ q, H0.size ≤ q → A q) (hlo : lo.length = mxl y) (hr : rty z = none) (hd : decode (cod y) pc = .ok (.invokestatic ix, 3)) (hi : ist z = true) (hml : (mlL.any fun q => decide (q.1 = (ow y, ix, z))) = true) (kk : ∀ v M2, Q v M2 → GG p l e R s m args below meth c cells slots QQ H0 A D ad cI cZ cJ S (pc + 3) lo (st) M2) : GG p l e R s m args below meth c cells slots QQ H0 A D ad cI cZ cJ S (pc) lo (as.reverse ++ st) M := by
  intro ls H locs hl hs ho hw
  obtain ⟨t1, t2, t3, t4, t5, t6, t7, t8⟩ := tbz hz
  have hsa : okS as := fun v hv => hs v (List.mem_append_left _ (List.mem_reverse.mpr hv))
  have hst : okS st := fun v hv => hs v (List.mem_append_right _ hv)
  have hM := metV (D := D) (ad := ad) (cI := cI) (cZ := cZ) (cJ := cJ) IH h hz hz0 hok hn hg hsa hw.2.2.2 H.size hr
  have hG : GoodIn lw_ok (va_wsS (clR (ow y)) ix (nam z) (wsZ z)) := good_in (fun w hw' => by
    rcases List.mem_append.mp hw' with h1 | h1
    · simp only [List.mem_cons, List.not_mem_nil, or_false] at h1
      rcases h1 with rfl | rfl | rfl
      · exact ml_in hml
      · exact st_in hz hz0 hi
      · rw [t1]; exact in_in hz
    · exact wsZ_in hz hz0 w h1)
  have hstk : ((as.reverse ++ st).map (cvv ad)) = (as.map (cvv ad)).reverse ++ st.map (cvv ad) := by simp
  have hcs := cat_sum ad st
  have hRm := X.2.2.2.2.2.2.1
  rw [hstk]
  refine va_callv (va_runS (As := as.map (cvv ad)) (rest := st.map (cvv ad)) (g := F0 m pc ls ((as.map (cvv ad)).reverse ++ st.map (cvv ad))) ⟨X.1, X.2.1, X.2.2.1, X.2.2.2.1, X.2.2.2.2.1⟩ hM (va_cwS (nar z) X.2.2.2.2.1 hG rfl rfl rfl ⟨t3, t4, by rw [t7, hi]; rfl⟩ ⟨by show d + 1 + 1 ≤ R.frames; omega, by show 8 + (mxl z + 11) + (34 * d + 40) ≤ R.locals; omega⟩) ⟨PcZ_bl, fun U hU hW => PcZ_at X hw hU hW⟩ rfl (by rw [List.length_map]; exact hn) (by show ls.size = mxl y; rw [hl.1, hlo]) rfl (by show 2 * 0 + _ ≤ 8; omega) hd ⟨by omega, by omega⟩) hw.2.2.1 (fun q _ h1 => A_of hA hw q h1) (A_of hA hw) (fun u t H1 locs1 ht hvm hpost hB hsz1 hkeep hS1 => ?_)
  obtain ⟨hq, hok2⟩ := hpost
  rw [ht] at hB
  exact kk u.1 u.2 hq ls H1 locs1 hl hst ho ⟨hB, wsM_D hw.2.1, hS1, hok2⟩
theorem G_callSNV (IH : Snd l S n) (X : Cx p R s m args c cells slots D cI cZ cJ y (d + 1)) (h : wpf n d (blk z 0) z (en z (as)) [] M Q) (hz : z < 133) (hz0 : z ≠ 0) (hok : okB z (blk z 0) (bpc z 0) = true) (hn : (as).length = nar z) (hg : nlg (as) = true) (h4 : st.length ≤ 4) (hA : ∀ q, H0.size ≤ q → A q) (hlo : lo.length = mxl y) (hr : rty z = none) (hd : decode (cod y) pc = .ok (.invokestatic ix, 3)) (hi : ist z = true) (hy0 : ow y = 0) (hix : ix = 48) (hz76 : z = 76) (kk : ∀ v M2, Q v M2 → GG p l e R s m args below meth c cells slots QQ H0 A D ad cI cZ cJ S (pc + 3) lo (st) M2) : GG p l e R s m args below meth c cells slots QQ H0 A D ad cI cZ cJ S (pc) lo (as.reverse ++ st) M := by
  intro ls H locs hl hs ho hw
  obtain ⟨t1, t2, t3, t4, t5, t6, t7, t8⟩ := tbz hz
  have hsa : okS as := fun v hv => hs v (List.mem_append_left _ (List.mem_reverse.mpr hv))
  have hst : okS st := fun v hv => hs v (List.mem_append_right _ hv)
  have hM := metV (D := D) (ad := ad) (cI := cI) (cZ := cZ) (cJ := cJ) IH h hz hz0 hok hn hg hsa hw.2.2.2 H.size hr
  have hG : GoodIn lw_ok (wsZ z) := good_in (fun w hw' => wsZ_in hz hz0 w hw')
  have hnw : va_Nw (.methodLinkNest (clR (ow y)) ix (nam z) "FloodCells") s := by rw [hy0, hix, hz76]; exact X.2.2.2.2.2.2.2.2
  have hstk : ((as.reverse ++ st).map (cvv ad)) = (as.map (cvv ad)).reverse ++ st.map (cvv ad) := by simp
  have hcs := cat_sum ad st
  have hRm := X.2.2.2.2.2.2.1
  rw [hstk]
  refine va_callv (va_runSN (As := as.map (cvv ad)) (rest := st.map (cvv ad)) (g := F0 m pc ls ((as.map (cvv ad)).reverse ++ st.map (cvv ad))) ⟨X.1, X.2.1, X.2.2.1, X.2.2.2.1, X.2.2.2.2.1⟩ hM ⟨va_cnB (nar z) X.2.2.2.2.1 hG rfl rfl rfl hnw (X.2.2.2.2.1 _ (by rw [t1]; exact in_in hz)) ⟨t3, t4, by rw [t7, hi]; rfl⟩ ⟨by show d + 1 + 1 ≤ R.frames; omega, by show 8 + (mxl z + 11) + (34 * d + 40) ≤ R.locals; omega⟩, X.2.2.2.2.1 _ (st_in hz hz0 hi), trivial⟩ ⟨PcZ_bl, fun U hU hW => PcZ_at X hw hU hW⟩ rfl (by rw [List.length_map]; exact hn) (by show ls.size = mxl y; rw [hl.1, hlo]) rfl (by show 2 * 0 + _ ≤ 8; omega) hd ⟨by omega, by omega⟩) hw.2.2.1 (fun q _ h1 => A_of hA hw q h1) (A_of hA hw) (fun u t H1 locs1 ht hvm hpost hB hsz1 hkeep hS1 => ?_)
  obtain ⟨hq, hok2⟩ := hpost
  rw [ht] at hB
  exact kk u.1 u.2 hq ls H1 locs1 hl hst ho ⟨hB, wsM_D hw.2.1, hS1, hok2⟩
end GC

theorem oc_n3 {y ix k o : Nat} (h : flq y ix (22, k, (oc o : Int)) = true ∨ (ow y = 7 ∧ ix = 211 ∧ (k = 0 ∧ (oc o : Int) = 2))) : kd o ≠ 3 := by
  have h9 : oc o < 9 := by
    rcases h with hf | h
    · obtain ⟨q, hq, e1⟩ := List.any_eq_true.mp hf
      obtain ⟨e2, e3, e4, e5⟩ := of_decide_eq_true e1
      have hr := of_decide_eq_true (List.all_eq_true.mp flR_ok q hq)
      have : (q.1.2.2.1 : Int) = (oc o : Int) := e4
      omega
    · omega
  rw [oc_kd o (oc_lt (k := o) rfl (by omega)) h9]
  decide
theorem step_call {n z : Nat} {f : Int} {lo : Lo} {st : St} {M : Me} (h1 : 1 ≤ n) (h6 : n ≤ 6) : stepF (50 + n, z, f) lo st M = none ∨ ∃ as st', st = as.reverse ++ st' ∧ as.length = n ∧ st'.length ≤ 4 ∧ stepF (50 + n, z, f) lo st M = some (2, z, lo, st', M, as, f) := by
  match n, h1, h6 with
  | 1, _, _ =>
    rcases st with _ | ⟨a0, st'⟩
    · exact Or.inl rfl
    · by_cases h : st'.length ≤ 4
      · exact Or.inr ⟨[a0], st', rfl, rfl, h, by simp only [stepF, if_pos h]⟩
      · exact Or.inl (by simp only [stepF, if_neg h])
  | 2, _, _ =>
    rcases st with _ | ⟨a1, _ | ⟨a0, st'⟩⟩
    · exact Or.inl rfl
    · exact Or.inl rfl
    · by_cases h : st'.length ≤ 4
      · exact Or.inr ⟨[a0, a1], st', rfl, rfl, h, by simp only [stepF, if_pos h]⟩
      · exact Or.inl (by simp only [stepF, if_neg h])
  | 3, _, _ =>
    rcases st with _ | ⟨a2, _ | ⟨a1, _ | ⟨a0, st'⟩⟩⟩
    · exact Or.inl rfl
    · exact Or.inl rfl
    · exact Or.inl rfl
    · by_cases h : st'.length ≤ 4
      · exact Or.inr ⟨[a0, a1, a2], st', rfl, rfl, h, by simp only [stepF, if_pos h]⟩
      · exact Or.inl (by simp only [stepF, if_neg h])
  | 4, _, _ =>
    rcases st with _ | ⟨a3, _ | ⟨a2, _ | ⟨a1, _ | ⟨a0, st'⟩⟩⟩⟩
    · exact Or.inl rfl
    · exact Or.inl rfl
    · exact Or.inl rfl
    · exact Or.inl rfl
    · by_cases h : st'.length ≤ 4
      · exact Or.inr ⟨[a0, a1, a2, a3], st', rfl, rfl, h, by simp only [stepF, if_pos h]⟩
      · exact Or.inl (by simp only [stepF, if_neg h])
  | 5, _, _ =>
    rcases st with _ | ⟨a4, _ | ⟨a3, _ | ⟨a2, _ | ⟨a1, _ | ⟨a0, st'⟩⟩⟩⟩⟩
    · exact Or.inl rfl
    · exact Or.inl rfl
    · exact Or.inl rfl
    · exact Or.inl rfl
    · exact Or.inl rfl
    · by_cases h : st'.length ≤ 4
      · exact Or.inr ⟨[a0, a1, a2, a3, a4], st', rfl, rfl, h, by simp only [stepF, if_pos h]⟩
      · exact Or.inl (by simp only [stepF, if_neg h])
  | 6, _, _ =>
    rcases st with _ | ⟨a5, _ | ⟨a4, _ | ⟨a3, _ | ⟨a2, _ | ⟨a1, _ | ⟨a0, st'⟩⟩⟩⟩⟩⟩
    · exact Or.inl rfl
    · exact Or.inl rfl
    · exact Or.inl rfl
    · exact Or.inl rfl
    · exact Or.inl rfl
    · exact Or.inl rfl
    · by_cases h : st'.length ≤ 4
      · exact Or.inr ⟨[a0, a1, a2, a3, a4, a5], st', rfl, rfl, h, by simp only [stepF, if_pos h]⟩
      · exact Or.inl (by simp only [stepF, if_neg h])
theorem nar6 : ((List.range 133).all fun z => decide (nar z ≤ 6)) = true := by decide +kernel
set_option maxHeartbeats 8000000 in
/-- a run of the small machine is a run of the machine -/
theorem sound (l : Launch) (S : Me) : ∀ n : Nat, Snd l S n := by
  intro n
  induction n with
  | zero => intro d ops y lo st M Q h; exact h.elim
  | succ n IH =>
    intro d ops y lo st M Q h p e R s m args below meth c cells slots QQ H0 A D ad cI cZ cJ pc X hok hsc hy hA hlo hkr
    cases ops with
    | nil => exact h.elim
    | cons op os =>
      have next : ∀ (pc' : Nat) (lo' : Lo) (st' : St) (M' : Me), okB y os pc' = true → lo'.length = mxl y → wpf n d os y lo' st' M' Q → GG p l e R s m args below meth c cells slots QQ H0 A D ad cI cZ cJ S pc' lo' st' M' := fun pc' lo' st' M' h1 h2 h3 => IH d os y lo' st' M' Q h3 p e R s m args below meth c cells slots QQ H0 A D ad cI cZ cJ pc' X h1 hsc hy hA h2 hkr
      have jump : ∀ (t : Nat) (st' : St), wpf n d (blk y t) y lo st' M Q → GG p l e R s m args below meth c cells slots QQ H0 A D ad cI cZ cJ S (bpc y t) lo st' M := fun t st' h3 => IH d (blk y t) y lo st' M Q h3 p e R s m args below meth c cells slots QQ H0 A D ad cI cZ cJ (bpc y t) X (okA y hy t (fun q => by rw [q] at h3; cases n <;> exact h3.elim)) hsc hy hA hlo hkr
      unfold okB at hok
      by_cases h32 : op.1 = 32
      · rw [if_pos h32] at hok
        have e1 := of_decide_eq_true hok
        obtain ⟨o1, o2, o3⟩ := op
        simp only at h32
        subst h32
        simp only [wpf, stepF] at h
        rw [e1]
        exact jump _ _ h
      · rw [if_neg h32] at hok
        cases hdc : decode (cod y) pc with
        | error q => rw [hdc] at hok; cases hok
        | ok il =>
          obtain ⟨i, len⟩ := il
          rw [hdc] at hok
          simp only [Bool.and_eq_true, Bool.or_eq_true] at hok
          obtain ⟨hI, hE⟩ := hok
          have hE2 : okE op = false → okB y os (pc + len) = true := fun q => by
            rcases hE with h1 | h1
            · rw [q] at h1; cases h1
            · exact h1
          cases i with
          | iload_n k =>
            obtain ⟨rfl, rfl⟩ := of_decide_eq_true hI
            simp only [wpf, stepF] at h
            match hv : lg lo k.val, h with
            | some (.inl x), h => exact G_iload_n X hdc hv (next _ _ _ _ (hE2 rfl) hlo h)
            | some (.inr (.inl x)), h => exact False.elim h
            | some (.inr (.inr x)), h => exact False.elim h
            | none, h => exact False.elim h
          | iload k =>
            obtain ⟨rfl, rfl⟩ := of_decide_eq_true hI
            simp only [wpf, stepF] at h
            match hv : lg lo k, h with
            | some (.inl x), h => exact G_iload X hdc hv (next _ _ _ _ (hE2 rfl) hlo h)
            | some (.inr (.inl x)), h => exact False.elim h
            | some (.inr (.inr x)), h => exact False.elim h
            | none, h => exact False.elim h
          | aload_n k =>
            obtain ⟨rfl, rfl⟩ := of_decide_eq_true hI
            simp only [wpf, stepF] at h
            match hv : lg lo k.val, h with
            | some (.inl x), h => exact False.elim h
            | some (.inr (.inl x)), h => exact False.elim h
            | some (.inr (.inr x)), h => exact G_aload_n X hdc hv (next _ _ _ _ (hE2 rfl) hlo h)
            | none, h => exact False.elim h
          | aload k =>
            obtain ⟨rfl, rfl⟩ := of_decide_eq_true hI
            simp only [wpf, stepF] at h
            match hv : lg lo k, h with
            | some (.inl x), h => exact False.elim h
            | some (.inr (.inl x)), h => exact False.elim h
            | some (.inr (.inr x)), h => exact G_aload X hdc hv (next _ _ _ _ (hE2 rfl) hlo h)
            | none, h => exact False.elim h
          | lload k =>
            obtain ⟨rfl, rfl⟩ := of_decide_eq_true hI
            simp only [wpf, stepF] at h
            match hv : lg lo k, h with
            | some (.inl x), h => exact False.elim h
            | some (.inr (.inl x)), h => exact G_lload X hdc hv (next _ _ _ _ (hE2 rfl) hlo h)
            | some (.inr (.inr x)), h => exact False.elim h
            | none, h => exact False.elim h
          | istore_n k =>
            obtain ⟨rfl, rfl⟩ := of_decide_eq_true hI
            rcases st with _ | ⟨x | x | x, st'⟩
            · exact False.elim h
            · by_cases hc : (lp lo k.val || decide (lo.length ≤ k.val)) = true
              · simp only [wpf, stepF, if_pos hc] at h
              · simp only [wpf, stepF, if_neg hc] at h
                simp only [Bool.or_eq_true, decide_eq_true_eq, not_or] at hc
                exact G_istore_n X hdc (by simpa using hc.1) (by omega) (next _ _ _ _ (hE2 rfl) (by rw [lz_len]; exact hlo) h)
            · exact False.elim h
            · exact False.elim h
          | istore k =>
            obtain ⟨rfl, rfl⟩ := of_decide_eq_true hI
            rcases st with _ | ⟨x | x | x, st'⟩
            · exact False.elim h
            · by_cases hc : (lp lo k || decide (lo.length ≤ k)) = true
              · simp only [wpf, stepF, if_pos hc] at h
              · simp only [wpf, stepF, if_neg hc] at h
                simp only [Bool.or_eq_true, decide_eq_true_eq, not_or] at hc
                exact G_istore X hdc (by simpa using hc.1) (by omega) (next _ _ _ _ (hE2 rfl) (by rw [lz_len]; exact hlo) h)
            · exact False.elim h
            · exact False.elim h
          | astore_n k =>
            obtain ⟨rfl, rfl⟩ := of_decide_eq_true hI
            rcases st with _ | ⟨x | x | x, st'⟩
            · exact False.elim h
            · exact False.elim h
            · exact False.elim h
            · by_cases hc : (lp lo k.val || decide (lo.length ≤ k.val)) = true
              · simp only [wpf, stepF, if_pos hc] at h
              · simp only [wpf, stepF, if_neg hc] at h
                simp only [Bool.or_eq_true, decide_eq_true_eq, not_or] at hc
                exact G_astore_n X hdc (by simpa using hc.1) (by omega) (next _ _ _ _ (hE2 rfl) (by rw [lz_len]; exact hlo) h)
          | lstore k =>
            obtain ⟨rfl, rfl⟩ := of_decide_eq_true hI
            rcases st with _ | ⟨x | x | x, st'⟩
            · exact False.elim h
            · exact False.elim h
            · by_cases hc : (lp lo k || decide (lo.length ≤ k + 1)) = true
              · simp only [wpf, stepF, if_pos hc] at h
              · simp only [wpf, stepF, if_neg hc] at h
                simp only [Bool.or_eq_true, decide_eq_true_eq, not_or] at hc
                exact G_lstore X hdc (by simpa using hc.1) (by omega) (next _ _ _ _ (hE2 rfl) (by rw [ly_len, lz_len]; exact hlo) h)
            · exact False.elim h
          | iconst v =>
            obtain ⟨rfl, rfl, h1, h2⟩ := of_decide_eq_true hI
            simp only [wpf, stepF] at h
            exact G_iconst X hdc ⟨h1, h2⟩ (next _ _ _ _ (hE2 rfl) hlo h)
          | bipush v =>
            obtain ⟨rfl, rfl, h1, h2⟩ := of_decide_eq_true hI
            simp only [wpf, stepF] at h
            exact G_bipush X hdc ⟨h1, h2⟩ (next _ _ _ _ (hE2 rfl) hlo h)
          | sipush v =>
            obtain ⟨rfl, rfl, h1, h2⟩ := of_decide_eq_true hI
            simp only [wpf, stepF] at h
            exact G_sipush X hdc ⟨h1, h2⟩ (next _ _ _ _ (hE2 rfl) hlo h)
          | ldc ix =>
            obtain ⟨o1, o2, o3⟩ := op
            obtain ⟨hI1, hI2⟩ := Bool.and_eq_true_iff.mp hI
            obtain ⟨rfl, h0, h1, h2⟩ := of_decide_eq_true hI1
            simp only [Prod.mk.injEq] at h0
            obtain ⟨rfl, rfl, -⟩ := h0
            simp only [wpf, stepF] at h
            exact G_ldc X hdc ⟨h1, h2⟩ hI2 (next _ _ _ _ (hE2 rfl) hlo h)
          | ldc2_w ix =>
            obtain ⟨o1, o2, o3⟩ := op
            obtain ⟨hI1, hI2⟩ := Bool.and_eq_true_iff.mp hI
            obtain ⟨rfl, h0, h1, h2⟩ := of_decide_eq_true hI1
            simp only [Prod.mk.injEq] at h0
            obtain ⟨rfl, rfl, -⟩ := h0
            simp only [wpf, stepF] at h
            exact G_ldc2 X hdc ⟨h1, h2⟩ hI2 (next _ _ _ _ (hE2 rfl) hlo h)
          | lconst n =>
            obtain ⟨rfl, rfl⟩ := of_decide_eq_true hI
            simp only [wpf, stepF] at h
            exact G_lconst X hdc (next _ _ _ _ (hE2 rfl) hlo h)
          | iinc k v =>
            obtain ⟨rfl, rfl⟩ := of_decide_eq_true hI
            match hv : lg lo k, h with
            | none, h => simp only [wpf, stepF, hv] at h
            | some (.inr x), h => simp only [wpf, stepF, hv] at h
            | some (.inl x), h =>
              by_cases hc : (lp lo k || decide (lo.length ≤ k)) = true
              · simp only [wpf, stepF, hv, if_pos hc] at h
              · simp only [wpf, stepF, hv, if_neg hc] at h
                simp only [Bool.or_eq_true, decide_eq_true_eq, not_or] at hc
                exact G_iincG X hdc hv (by simpa using hc.1) (by omega) (next _ _ _ _ (hE2 rfl) (by rw [lz_len]; exact hlo) h)
          | iadd =>
            obtain ⟨rfl, rfl⟩ := of_decide_eq_true hI
            rcases st with _ | ⟨y' | y', _ | ⟨x | x, st'⟩⟩ <;> first | exact False.elim h | exact G_iadd X hdc (next _ _ _ _ (hE2 rfl) hlo h)
          | isub =>
            obtain ⟨rfl, rfl⟩ := of_decide_eq_true hI
            rcases st with _ | ⟨y' | y', _ | ⟨x | x, st'⟩⟩ <;> first | exact False.elim h | exact G_isub X hdc (next _ _ _ _ (hE2 rfl) hlo h)
          | imul =>
            obtain ⟨rfl, rfl⟩ := of_decide_eq_true hI
            rcases st with _ | ⟨y' | y', _ | ⟨x | x, st'⟩⟩ <;> first | exact False.elim h | exact G_imul X hdc (next _ _ _ _ (hE2 rfl) hlo h)
          | iand =>
            obtain ⟨rfl, rfl⟩ := of_decide_eq_true hI
            rcases st with _ | ⟨y' | y', _ | ⟨x | x, st'⟩⟩ <;> first | exact False.elim h | exact G_iand X hdc (next _ _ _ _ (hE2 rfl) hlo h)
          | ior =>
            obtain ⟨rfl, rfl⟩ := of_decide_eq_true hI
            rcases st with _ | ⟨y' | y', _ | ⟨x | x, st'⟩⟩ <;> first | exact False.elim h | exact G_ior X hdc (next _ _ _ _ (hE2 rfl) hlo h)
          | ishl =>
            obtain ⟨rfl, rfl⟩ := of_decide_eq_true hI
            rcases st with _ | ⟨y' | y', _ | ⟨x | x, st'⟩⟩ <;> first | exact False.elim h | exact G_ishl X hdc (next _ _ _ _ (hE2 rfl) hlo h)
          | ishr =>
            obtain ⟨rfl, rfl⟩ := of_decide_eq_true hI
            rcases st with _ | ⟨y' | y', _ | ⟨x | x, st'⟩⟩ <;> first | exact False.elim h | exact G_ishr X hdc (next _ _ _ _ (hE2 rfl) hlo h)
          | idiv =>
            obtain ⟨rfl, rfl⟩ := of_decide_eq_true hI
            rcases st with _ | ⟨y' | y', _ | ⟨x | x, st'⟩⟩
            · exact False.elim h
            · exact False.elim h
            · by_cases hc : y' = 0
              · simp only [wpf, stepF, if_pos hc] at h
              · simp only [wpf, stepF, if_neg hc] at h
                exact G_idiv X hdc hc (next _ _ _ _ (hE2 rfl) hlo h)
            · exact False.elim h
            · exact False.elim h
            · exact False.elim h
            · exact False.elim h
          | irem =>
            obtain ⟨rfl, rfl⟩ := of_decide_eq_true hI
            rcases st with _ | ⟨y' | y', _ | ⟨x | x, st'⟩⟩
            · exact False.elim h
            · exact False.elim h
            · by_cases hc : y' = 0
              · simp only [wpf, stepF, if_pos hc] at h
              · simp only [wpf, stepF, if_neg hc] at h
                exact G_irem X hdc hc (next _ _ _ _ (hE2 rfl) hlo h)
            · exact False.elim h
            · exact False.elim h
            · exact False.elim h
            · exact False.elim h
          | ineg =>
            obtain ⟨rfl, rfl⟩ := of_decide_eq_true hI
            rcases st with _ | ⟨x | x, st'⟩ <;> first | exact False.elim h | exact G_ineg X hdc (next _ _ _ _ (hE2 rfl) hlo h)
          | i2l =>
            obtain ⟨rfl, rfl⟩ := of_decide_eq_true hI
            rcases st with _ | ⟨x | x, st'⟩ <;> first | exact False.elim h | exact G_i2l X hdc (next _ _ _ _ (hE2 rfl) hlo h)
          | l2i =>
            obtain ⟨rfl, rfl⟩ := of_decide_eq_true hI
            rcases st with _ | ⟨x | x | x, st'⟩ <;> first | exact False.elim h | exact G_l2i X hdc (next _ _ _ _ (hE2 rfl) hlo h)
          | ladd =>
            obtain ⟨rfl, rfl⟩ := of_decide_eq_true hI
            rcases st with _ | ⟨y' | y' | y', _ | ⟨x | x | x, st'⟩⟩ <;> first | exact False.elim h | exact G_ladd X hdc (next _ _ _ _ (hE2 rfl) hlo h)
          | lmul =>
            obtain ⟨rfl, rfl⟩ := of_decide_eq_true hI
            rcases st with _ | ⟨y' | y' | y', _ | ⟨x | x | x, st'⟩⟩ <;> first | exact False.elim h | exact G_lmul X hdc (next _ _ _ _ (hE2 rfl) hlo h)
          | lcmp =>
            obtain ⟨rfl, rfl⟩ := of_decide_eq_true hI
            rcases st with _ | ⟨y' | y' | y', _ | ⟨x | x | x, st'⟩⟩ <;> first | exact False.elim h | exact G_lcmp X hdc (next _ _ _ _ (hE2 rfl) hlo h)
          | ldiv =>
            obtain ⟨rfl, rfl⟩ := of_decide_eq_true hI
            rcases st with _ | ⟨y' | y' | y', _ | ⟨x | x | x, st'⟩⟩ <;> first | exact False.elim h | skip
            by_cases hc : y' = 0
            · simp only [wpf, stepF, if_pos hc] at h
            · simp only [wpf, stepF, if_neg hc] at h
              exact G_ldiv X hdc hc (next _ _ _ _ (hE2 rfl) hlo h)
          | getfield ix =>
            obtain ⟨o1, k, ci⟩ := op
            obtain ⟨hI1, hI2⟩ := Bool.and_eq_true_iff.mp hI
            obtain ⟨rfl, h0⟩ := of_decide_eq_true hI1
            simp only at h0
            subst h0
            rcases st with _ | ⟨o | o | o, st'⟩ <;> first | exact False.elim h | skip
            by_cases hc : (oc o : Int) = ci
            · subst hc
              have hf : flq y ix (22, k, (oc o : Int)) = true ∨ (ow y = 7 ∧ ix = 211 ∧ (k = 0 ∧ (oc o : Int) = 2)) := by
                rcases Bool.or_eq_true_iff.mp hI2 with h1 | h1
                · exact Or.inl h1
                · obtain ⟨h2, h3, h4⟩ := of_decide_eq_true h1
                  simp only [Prod.mk.injEq, true_and] at h4
                  exact Or.inr ⟨h2, h3, h4⟩
              match hk : fk o k, h with
              | 0, h =>
                simp only [wpf, stepF, if_true, hk] at h
                exact G_get (v := .inl (M o k)) X hdc hf (by rw [fvl_I (Or.inl hk)]; rfl) (fun hm => hm.get (k := o) (oc_n3 hf) _) (next _ _ _ _ (hE2 rfl) hlo h)
              | 1, h =>
                simp only [wpf, stepF, if_true, hk] at h
                exact G_get (v := .inl (M o k)) X hdc hf (by rw [fvl_I (Or.inr hk)]; rfl) (fun hm => hm.get (k := o) (oc_n3 hf) _) (next _ _ _ _ (hE2 rfl) hlo h)
              | r + 2, h =>
                simp only [wpf, stepF, if_true, hk] at h
                exact G_get (v := .inr (.inr r)) X hdc hf (by rw [fvl_R hk]; rfl) (fun _ => trivial) (next _ _ _ _ (hE2 rfl) hlo h)
            · simp only [wpf, stepF, if_neg hc] at h
          | putfield ix =>
            obtain ⟨o1, k, ci⟩ := op
            obtain ⟨hI1, hI2⟩ := Bool.and_eq_true_iff.mp hI
            obtain ⟨rfl, h0⟩ := of_decide_eq_true hI1
            simp only at h0
            subst h0
            rcases st with _ | ⟨v | v | v, _ | ⟨o | o | o, st'⟩⟩ <;> first | exact False.elim h | skip
            by_cases hc : (oc o : Int) = ci
            · subst hc
              match hk : fk o k, h with
              | 0, h =>
                simp only [wpf, stepF, if_true, hk] at h
                exact G_put X hdc hI2 (Or.inl hk) (next _ _ _ _ (hE2 rfl) hlo h)
              | 1, h =>
                by_cases hv : v = 0 ∨ v = 1
                · simp only [wpf, stepF, if_true, hk, if_pos hv] at h
                  exact G_put X hdc hI2 (Or.inr ⟨hk, hv⟩) (next _ _ _ _ (hE2 rfl) hlo h)
                · simp only [wpf, stepF, if_true, hk, if_neg hv] at h
              | r + 2, h => simp only [wpf, stepF, if_true, hk] at h
            · simp only [wpf, stepF, if_neg hc] at h
          | iaload =>
            obtain ⟨rfl, h0⟩ := of_decide_eq_true hI
            rcases h0 with rfl | ⟨h0, rfl⟩
            · rcases st with _ | ⟨x | x | x, _ | ⟨a | a | a, st'⟩⟩ <;> first | exact False.elim h | skip
              by_cases hc : kd a = 1 ∧ 0 ≤ x ∧ x < ln a
              · simp only [wpf, stepF, if_pos hc] at h
                exact G_iaload X hdc hc.1 hc.2.1 hc.2.2 (next _ _ _ _ (hE2 rfl) hlo h)
              · simp only [wpf, stepF, if_neg hc] at h
            · rcases st with _ | ⟨x | x | x, _ | ⟨a | a | a, st'⟩⟩ <;> first | exact False.elim h | skip
              by_cases hc : a = 99 ∧ 0 ≤ x ∧ x < M 98 0
              · simp only [wpf, stepF, if_pos hc] at h
                obtain ⟨rfl, h1, h2⟩ := hc
                exact G_sld X hdc h0 hsc h1 h2 (next _ _ _ _ (hE2 rfl) hlo h)
              · simp only [wpf, stepF, if_neg hc] at h
          | baload =>
            obtain ⟨rfl, rfl⟩ := of_decide_eq_true hI
            rcases st with _ | ⟨x | x | x, _ | ⟨a | a | a, st'⟩⟩ <;> first | exact False.elim h | skip
            by_cases hc : kd a = 2 ∧ 0 ≤ x ∧ x < ln a
            · simp only [wpf, stepF, if_pos hc] at h
              exact G_baload X hdc hc.1 hc.2.1 hc.2.2 (next _ _ _ _ (hE2 rfl) hlo h)
            · simp only [wpf, stepF, if_neg hc] at h
          | laload =>
            obtain ⟨rfl, rfl⟩ := of_decide_eq_true hI
            rcases st with _ | ⟨x | x | x, _ | ⟨a | a | a, st'⟩⟩ <;> first | exact False.elim h | skip
            by_cases hc : kd a = 3 ∧ 0 ≤ x ∧ x < ln a
            · simp only [wpf, stepF, if_pos hc] at h
              exact G_laload X hdc hc.1 hc.2.1 hc.2.2 (next _ _ _ _ (hE2 rfl) hlo h)
            · simp only [wpf, stepF, if_neg hc] at h
          | iastore =>
            obtain ⟨rfl, rfl⟩ := of_decide_eq_true hI
            rcases st with _ | ⟨v | v | v, _ | ⟨x | x | x, _ | ⟨a | a | a, st'⟩⟩⟩ <;> first | exact False.elim h | skip
            by_cases hc : kd a = 1 ∧ 0 ≤ x ∧ x < ln a
            · simp only [wpf, stepF, if_pos hc] at h
              exact G_iastore X hdc hc.1 hc.2.1 hc.2.2 (next _ _ _ _ (hE2 rfl) hlo h)
            · simp only [wpf, stepF, if_neg hc] at h
          | bastore =>
            obtain ⟨rfl, rfl⟩ := of_decide_eq_true hI
            rcases st with _ | ⟨v | v | v, _ | ⟨x | x | x, _ | ⟨a | a | a, st'⟩⟩⟩ <;> first | exact False.elim h | skip
            by_cases hc : kd a = 2 ∧ (v = 0 ∨ v = 1) ∧ 0 ≤ x ∧ x < ln a
            · simp only [wpf, stepF, if_pos hc] at h
              exact G_bastore X hdc hc.1 hc.2.1 hc.2.2.1 hc.2.2.2 (next _ _ _ _ (hE2 rfl) hlo h)
            · simp only [wpf, stepF, if_neg hc] at h
          | lastore =>
            obtain ⟨rfl, rfl⟩ := of_decide_eq_true hI
            rcases st with _ | ⟨v | v | v, _ | ⟨x | x | x, _ | ⟨a | a | a, st'⟩⟩⟩ <;> first | exact False.elim h | skip
            by_cases hc : kd a = 3 ∧ 0 ≤ x ∧ x < ln a
            · simp only [wpf, stepF, if_pos hc] at h
              exact G_lastore X hdc hc.1 hc.2.1 hc.2.2 (next _ _ _ _ (hE2 rfl) hlo h)
            · simp only [wpf, stepF, if_neg hc] at h
          | ifCond cc off =>
            obtain ⟨o1, t, o3⟩ := op
            obtain ⟨rfl, h0, ht⟩ := of_decide_eq_true hI
            simp only [Prod.mk.injEq, true_and] at h0
            obtain ⟨rfl, rfl⟩ := h0
            simp only at ht
            rcases st with _ | ⟨x | x, st'⟩ <;> first | exact False.elim h | skip
            cases cc with
            | eq =>
              refine G_if_eq X hdc ht (fun q => jump t _ ?_) (fun q => next _ _ _ _ (hE2 rfl) hlo ?_)
              · have hb : cnb 0 x 0 = true := by simp [cnb]; first | exact q | omega
                have hst : stepF (29, t, cnc ClassFile.Cond.eq) lo (.inl x :: st') M = jp t lo st' M := if_pos hb
                simp only [wpf, hst] at h; exact h
              · have hb : ¬ cnb 0 x 0 = true := by simp [cnb]; first | exact q | omega
                have hst : stepF (29, t, cnc ClassFile.Cond.eq) lo (.inl x :: st') M = nx lo st' M := if_neg hb
                simp only [wpf, hst] at h; exact h
            | ne =>
              refine G_if_ne X hdc ht (fun q => jump t _ ?_) (fun q => next _ _ _ _ (hE2 rfl) hlo ?_)
              · have hb : cnb 1 x 0 = true := by simp [cnb]; first | exact q | omega
                have hst : stepF (29, t, cnc ClassFile.Cond.ne) lo (.inl x :: st') M = jp t lo st' M := if_pos hb
                simp only [wpf, hst] at h; exact h
              · have hb : ¬ cnb 1 x 0 = true := by simp [cnb]; first | exact q | omega
                have hst : stepF (29, t, cnc ClassFile.Cond.ne) lo (.inl x :: st') M = nx lo st' M := if_neg hb
                simp only [wpf, hst] at h; exact h
            | lt =>
              refine G_if_lt X hdc ht (fun q => jump t _ ?_) (fun q => next _ _ _ _ (hE2 rfl) hlo ?_)
              · have hb : cnb 2 x 0 = true := by simp [cnb]; first | exact q | omega
                have hst : stepF (29, t, cnc ClassFile.Cond.lt) lo (.inl x :: st') M = jp t lo st' M := if_pos hb
                simp only [wpf, hst] at h; exact h
              · have hb : ¬ cnb 2 x 0 = true := by simp [cnb]; first | exact q | omega
                have hst : stepF (29, t, cnc ClassFile.Cond.lt) lo (.inl x :: st') M = nx lo st' M := if_neg hb
                simp only [wpf, hst] at h; exact h
            | ge =>
              refine G_if_ge X hdc ht (fun q => jump t _ ?_) (fun q => next _ _ _ _ (hE2 rfl) hlo ?_)
              · have hb : cnb 3 x 0 = true := by simp [cnb]; first | exact q | omega
                have hst : stepF (29, t, cnc ClassFile.Cond.ge) lo (.inl x :: st') M = jp t lo st' M := if_pos hb
                simp only [wpf, hst] at h; exact h
              · have hb : ¬ cnb 3 x 0 = true := by simp [cnb]; first | exact q | omega
                have hst : stepF (29, t, cnc ClassFile.Cond.ge) lo (.inl x :: st') M = nx lo st' M := if_neg hb
                simp only [wpf, hst] at h; exact h
            | gt =>
              refine G_if_gt X hdc ht (fun q => jump t _ ?_) (fun q => next _ _ _ _ (hE2 rfl) hlo ?_)
              · have hb : cnb 4 x 0 = true := by simp [cnb]; first | exact q | omega
                have hst : stepF (29, t, cnc ClassFile.Cond.gt) lo (.inl x :: st') M = jp t lo st' M := if_pos hb
                simp only [wpf, hst] at h; exact h
              · have hb : ¬ cnb 4 x 0 = true := by simp [cnb]; first | exact q | omega
                have hst : stepF (29, t, cnc ClassFile.Cond.gt) lo (.inl x :: st') M = nx lo st' M := if_neg hb
                simp only [wpf, hst] at h; exact h
            | le =>
              refine G_if_le X hdc ht (fun q => jump t _ ?_) (fun q => next _ _ _ _ (hE2 rfl) hlo ?_)
              · have hb : cnb 5 x 0 = true := by simp [cnb]; first | exact q | omega
                have hst : stepF (29, t, cnc ClassFile.Cond.le) lo (.inl x :: st') M = jp t lo st' M := if_pos hb
                simp only [wpf, hst] at h; exact h
              · have hb : ¬ cnb 5 x 0 = true := by simp [cnb]; first | exact q | omega
                have hst : stepF (29, t, cnc ClassFile.Cond.le) lo (.inl x :: st') M = nx lo st' M := if_neg hb
                simp only [wpf, hst] at h; exact h
          | if_icmp cc off =>
            obtain ⟨o1, t, o3⟩ := op
            obtain ⟨rfl, h0, ht⟩ := of_decide_eq_true hI
            simp only [Prod.mk.injEq, true_and] at h0
            obtain ⟨rfl, rfl⟩ := h0
            simp only at ht
            rcases st with _ | ⟨y' | y', _ | ⟨x | x, st'⟩⟩ <;> first | exact False.elim h | skip
            cases cc with
            | eq =>
              refine G_icmp_eq X hdc ht (fun q => jump t _ ?_) (fun q => next _ _ _ _ (hE2 rfl) hlo ?_)
              · have hb : cnb 0 x y' = true := by simp [cnb]; first | exact q | omega
                have hst : stepF (30, t, cnc ClassFile.Cond.eq) lo (.inl y' :: .inl x :: st') M = jp t lo st' M := if_pos hb
                simp only [wpf, hst] at h; exact h
              · have hb : ¬ cnb 0 x y' = true := by simp [cnb]; first | exact q | omega
                have hst : stepF (30, t, cnc ClassFile.Cond.eq) lo (.inl y' :: .inl x :: st') M = nx lo st' M := if_neg hb
                simp only [wpf, hst] at h; exact h
            | ne =>
              refine G_icmp_ne X hdc ht (fun q => jump t _ ?_) (fun q => next _ _ _ _ (hE2 rfl) hlo ?_)
              · have hb : cnb 1 x y' = true := by simp [cnb]; first | exact q | omega
                have hst : stepF (30, t, cnc ClassFile.Cond.ne) lo (.inl y' :: .inl x :: st') M = jp t lo st' M := if_pos hb
                simp only [wpf, hst] at h; exact h
              · have hb : ¬ cnb 1 x y' = true := by simp [cnb]; first | exact q | omega
                have hst : stepF (30, t, cnc ClassFile.Cond.ne) lo (.inl y' :: .inl x :: st') M = nx lo st' M := if_neg hb
                simp only [wpf, hst] at h; exact h
            | lt =>
              refine G_icmp_lt X hdc ht (fun q => jump t _ ?_) (fun q => next _ _ _ _ (hE2 rfl) hlo ?_)
              · have hb : cnb 2 x y' = true := by simp [cnb]; first | exact q | omega
                have hst : stepF (30, t, cnc ClassFile.Cond.lt) lo (.inl y' :: .inl x :: st') M = jp t lo st' M := if_pos hb
                simp only [wpf, hst] at h; exact h
              · have hb : ¬ cnb 2 x y' = true := by simp [cnb]; first | exact q | omega
                have hst : stepF (30, t, cnc ClassFile.Cond.lt) lo (.inl y' :: .inl x :: st') M = nx lo st' M := if_neg hb
                simp only [wpf, hst] at h; exact h
            | ge =>
              refine G_icmp_ge X hdc ht (fun q => jump t _ ?_) (fun q => next _ _ _ _ (hE2 rfl) hlo ?_)
              · have hb : cnb 3 x y' = true := by simp [cnb]; first | exact q | omega
                have hst : stepF (30, t, cnc ClassFile.Cond.ge) lo (.inl y' :: .inl x :: st') M = jp t lo st' M := if_pos hb
                simp only [wpf, hst] at h; exact h
              · have hb : ¬ cnb 3 x y' = true := by simp [cnb]; first | exact q | omega
                have hst : stepF (30, t, cnc ClassFile.Cond.ge) lo (.inl y' :: .inl x :: st') M = nx lo st' M := if_neg hb
                simp only [wpf, hst] at h; exact h
            | gt =>
              refine G_icmp_gt X hdc ht (fun q => jump t _ ?_) (fun q => next _ _ _ _ (hE2 rfl) hlo ?_)
              · have hb : cnb 4 x y' = true := by simp [cnb]; first | exact q | omega
                have hst : stepF (30, t, cnc ClassFile.Cond.gt) lo (.inl y' :: .inl x :: st') M = jp t lo st' M := if_pos hb
                simp only [wpf, hst] at h; exact h
              · have hb : ¬ cnb 4 x y' = true := by simp [cnb]; first | exact q | omega
                have hst : stepF (30, t, cnc ClassFile.Cond.gt) lo (.inl y' :: .inl x :: st') M = nx lo st' M := if_neg hb
                simp only [wpf, hst] at h; exact h
            | le =>
              refine G_icmp_le X hdc ht (fun q => jump t _ ?_) (fun q => next _ _ _ _ (hE2 rfl) hlo ?_)
              · have hb : cnb 5 x y' = true := by simp [cnb]; first | exact q | omega
                have hst : stepF (30, t, cnc ClassFile.Cond.le) lo (.inl y' :: .inl x :: st') M = jp t lo st' M := if_pos hb
                simp only [wpf, hst] at h; exact h
              · have hb : ¬ cnb 5 x y' = true := by simp [cnb]; first | exact q | omega
                have hst : stepF (30, t, cnc ClassFile.Cond.le) lo (.inl y' :: .inl x :: st') M = nx lo st' M := if_neg hb
                simp only [wpf, hst] at h; exact h
          | goto off =>
            obtain ⟨o1, t, o3⟩ := op
            obtain ⟨rfl, h0, ht⟩ := of_decide_eq_true hI
            simp only [Prod.mk.injEq, true_and] at h0
            obtain ⟨rfl, rfl⟩ := h0
            simp only [wpf, stepF] at h
            exact G_goto X hdc ht (jump t _ h)
          | dup =>
            obtain ⟨rfl, rfl⟩ := of_decide_eq_true hI
            rcases st with _ | ⟨x | x | x, st'⟩ <;> first | exact False.elim h | exact G_dup X hdc rfl (next _ _ _ _ (hE2 rfl) hlo h)
          | dup2 =>
            obtain ⟨rfl, rfl⟩ := of_decide_eq_true hI
            rcases st with _ | ⟨x | x | x, _ | ⟨a | a | a, st'⟩⟩ <;> first | exact False.elim h | exact G_dup2 X hdc rfl rfl (next _ _ _ _ (hE2 rfl) hlo h)
          | pop =>
            obtain ⟨rfl, rfl⟩ := of_decide_eq_true hI
            rcases st with _ | ⟨x | x | x, st'⟩ <;> first | exact False.elim h | exact G_pop X hdc rfl (next _ _ _ _ (hE2 rfl) hlo h)
          | tableswitch df l2 hi offs =>
            obtain ⟨o1, id, o3⟩ := op
            obtain ⟨hI1, hI2⟩ := Bool.and_eq_true_iff.mp hI
            obtain ⟨h0, h1, h2, h3⟩ := of_decide_eq_true hI1
            simp only [Prod.mk.injEq, true_and] at h0
            obtain ⟨rfl, rfl⟩ := h0
            rcases st with _ | ⟨x | x, st'⟩ <;> first | exact False.elim h | skip
            exact G_switch X hdc h1 h2 h3 (fun j hj => of_decide_eq_true (List.all_eq_true.mp hI2 j (List.mem_range.mpr hj))) (jump _ _ h)
          | ireturn =>
            obtain ⟨rfl, h0⟩ := of_decide_eq_true hI
            rcases h0 with ⟨rfl, h0⟩ | ⟨rfl, h0⟩
            · rcases st with _ | ⟨v | v, _ | ⟨b, st'⟩⟩ <;> first | exact False.elim h | skip
              simp only [wpf, stepF] at h
              intro ls H locs hl hs ho hw
              exact (hkr v M pc ls H locs h hs.head hw).2 .int h0 rfl hdc
            · rcases st with _ | ⟨v | v, _ | ⟨b, st'⟩⟩ <;> first | exact False.elim h | skip
              by_cases hc : v = 0 ∨ v = 1
              · simp only [wpf, stepF] at h
                rw [if_neg (fun q => q.2 hc)] at h
                intro ls H locs hl hs ho hw
                exact (hkr v M pc ls H locs h hs.head hw).2 .boolean h0 (i_zn hc) hdc
              · simp only [wpf, stepF] at h
                rw [if_pos ⟨trivial, hc⟩] at h
                exact False.elim h
          | return_ =>
            obtain ⟨rfl, rfl, h0⟩ := of_decide_eq_true hI
            rcases st with _ | ⟨b, st'⟩ <;> first | exact False.elim h | skip
            simp only [wpf, stepF] at h
            intro ls H locs hl hs ho hw
            exact (hkr 0 M pc ls H locs h ⟨by omega, by omega⟩ hw).1 h0 hdc
          | arraylength =>
            obtain ⟨rfl, h0⟩ := of_decide_eq_true hI
            rcases h0 with rfl | ⟨h0, rfl⟩
            · rcases st with _ | ⟨a | a | a, st'⟩ <;> first | exact False.elim h | skip
              by_cases hc : kd a = 1
              · simp only [wpf, stepF, if_pos hc] at h
                exact G_alen X hdc hc (next _ _ _ _ (hE2 rfl) hlo h)
              · simp only [wpf, stepF, if_neg hc] at h
            · rcases st with _ | ⟨a | a | a, st'⟩ <;> first | exact False.elim h | skip
              by_cases hc : a = 99
              · simp only [wpf, stepF, if_pos hc] at h
                subst hc
                exact G_slen X hdc h0 hsc (next _ _ _ _ (hE2 rfl) hlo h)
              · simp only [wpf, stepF, if_neg hc] at h
          | invokevirtual ix =>
            obtain ⟨o1, z, f⟩ := op
            obtain ⟨hI1, hI2⟩ := Bool.and_eq_true_iff.mp hI
            obtain ⟨rfl, h0, hi, hn1, hz0, hz, hfl⟩ := of_decide_eq_true hI1
            simp only at h0 hi hn1 hz0 hz hfl
            subst h0
            have hn6 := of_decide_eq_true (List.all_eq_true.mp nar6 z (List.mem_range.mpr hz))
            have hnE : okE (50 + nar z, z, f) = false := by simp only [okE, decide_eq_false_iff_not]; omega
            rcases step_call (z := z) (f := f) (lo := lo) (st := st) (M := M) hn1 hn6 with h1 | ⟨as, st', rfl, hla, h4, h1⟩
            · simp only [wpf, h1] at h
            · simp only [wpf, h1] at h
              cases d with
              | zero => exact False.elim h
              | succ d' =>
                obtain ⟨hrc, h⟩ := h
                obtain ⟨hg, hrc⟩ := Bool.and_eq_true_iff.mp hrc
                simp only [rcvb, hi, Bool.false_or] at hrc
                match as, hla, hg, hrc, h with
                | .inr (.inr o) :: as', hla, hg, hrc, h =>
                  have hoc : oc o = ow z := by simpa using hrc
                  have hne : blk z 0 ≠ [] := fun q => by rw [q] at h; cases n <;> exact h.elim
                  rcases hfl with ⟨rfl, hr⟩ | ⟨rfl, hr⟩
                  · exact G_callVV IH X h hz hz0 (okA z hz 0 hne) hla hg h4 hA hlo hr hdc hi hoc hI2 (fun v M2 hq => next _ _ _ _ (hE2 hnE) hlo hq)
                  · rcases hr with hr | hr <;> exact G_callVI IH X h hz hz0 (okA z hz 0 hne) hla hg h4 hA hlo hr hdc hi hoc hI2 (fun v M2 hq => next _ _ _ _ (hE2 hnE) hlo hq)
          | invokestatic ix =>
            obtain ⟨o1, z, f⟩ := op
            obtain ⟨hl3, hI0⟩ := Bool.and_eq_true_iff.mp hI
            have hl3 := of_decide_eq_true hl3
            subst hl3
            rcases Bool.or_eq_true_iff.mp hI0 with hI3 | hI3
            · obtain ⟨hI1, hI2⟩ := Bool.and_eq_true_iff.mp hI3
              obtain ⟨h0, hi, hn1, hz0, hz, hfl⟩ := of_decide_eq_true hI1
              simp only at h0 hi hn1 hz0 hz hfl
              subst h0
              have hn6 := of_decide_eq_true (List.all_eq_true.mp nar6 z (List.mem_range.mpr hz))
              have hnE : okE (50 + nar z, z, f) = false := by simp only [okE, decide_eq_false_iff_not]; omega
              rcases step_call (z := z) (f := f) (lo := lo) (st := st) (M := M) hn1 hn6 with h1 | ⟨as, st', rfl, hla, h4, h1⟩
              · simp only [wpf, h1] at h
              · simp only [wpf, h1] at h
                cases d with
                | zero => exact False.elim h
                | succ d' =>
                  obtain ⟨hrc, h⟩ := h
                  obtain ⟨hg, hrc⟩ := Bool.and_eq_true_iff.mp hrc
                  have hne : blk z 0 ≠ [] := fun q => by rw [q] at h; cases n <;> exact h.elim
                  rcases Bool.or_eq_true_iff.mp hI2 with hml | hml
                  · rcases hfl with ⟨rfl, hr⟩ | ⟨rfl, hr⟩
                    · exact G_callSV IH X h hz hz0 (okA z hz 0 hne) hla hg h4 hA hlo hr hdc hi hml (fun v M2 hq => next _ _ _ _ (hE2 hnE) hlo hq)
                    · rcases hr with hr | hr <;> exact G_callSI IH X h hz hz0 (okA z hz 0 hne) hla hg h4 hA hlo hr hdc hi hml (fun v M2 hq => next _ _ _ _ (hE2 hnE) hlo hq)
                  · obtain ⟨hm1, hm2, hm3⟩ := of_decide_eq_true hml
                    rcases hfl with ⟨rfl, hr⟩ | ⟨rfl, hr⟩
                    · exact G_callSNV IH X h hz hz0 (okA z hz 0 hne) hla hg h4 hA hlo hr hdc hi hm1 hm2 hm3 (fun v M2 hq => next _ _ _ _ (hE2 hnE) hlo hq)
                    · rcases hr with hr | hr <;> exact G_callSNI IH X h hz hz0 (okA z hz 0 hne) hla hg h4 hA hlo hr hdc hi hm1 hm2 hm3 (fun v M2 hq => next _ _ _ _ (hE2 hnE) hlo hq)
            · obtain ⟨hI1, hI2⟩ := Bool.and_eq_true_iff.mp hI3
              obtain ⟨h0, h39, h42⟩ := of_decide_eq_true hI1
              simp only [Prod.mk.injEq, true_and] at h0 h39 h42
              obtain ⟨rfl, rfl⟩ := h0
              have hE3 : okE (o1, 0, 0) = false := by simp only [okE, decide_eq_false_iff_not]; omega
              have hml : (o1 = 39 ∧ ow y = 3 ∧ ix = 110) ∨ (o1 = 40 ∧ ow y = 2 ∧ ix = 153) ∨ (o1 = 41 ∧ ow y = 3 ∧ ix = 121) ∨ (o1 = 42 ∧ ((ow y = 3 ∧ ix = 31) ∨ (ow y = 4 ∧ ix = 35) ∨ (ow y = 2 ∧ ix = 79))) := by
                simp only [maL, List.any_cons, List.any_nil, Bool.or_false, Bool.or_eq_true, decide_eq_true_eq, Prod.mk.injEq] at hI2
                omega
              rcases hml with ⟨rfl, hml⟩ | ⟨rfl, hml⟩ | ⟨rfl, hml⟩ | ⟨rfl, hml⟩
              · rcases st with _ | ⟨y' | y', _ | ⟨x | x, st'⟩⟩ <;> first | exact False.elim h | skip
                by_cases hc : st'.length ≤ 4
                · simp only [wpf, stepF, if_pos hc] at h
                  exact G_mmax X hdc hml hc hlo (next _ _ _ _ (hE2 hE3) hlo h)
                · simp only [wpf, stepF, if_neg hc] at h
              · rcases st with _ | ⟨y' | y', _ | ⟨x | x, st'⟩⟩ <;> first | exact False.elim h | skip
                by_cases hc : st'.length ≤ 4
                · simp only [wpf, stepF, if_pos hc] at h
                  exact G_mmin X hdc hml hc hlo (next _ _ _ _ (hE2 hE3) hlo h)
                · simp only [wpf, stepF, if_neg hc] at h
              · rcases st with _ | ⟨y' | y' | y', _ | ⟨x | x | x, st'⟩⟩ <;> first | exact False.elim h | skip
                by_cases hc : st'.length ≤ 4
                · simp only [wpf, stepF, if_pos hc] at h
                  exact G_lmin X hdc hml hc hlo (next _ _ _ _ (hE2 hE3) hlo h)
                · simp only [wpf, stepF, if_neg hc] at h
              · rcases st with _ | ⟨nn | nn, _ | ⟨dp | dp, _ | ⟨dk | dk | dk, _ | ⟨sp | sp, _ | ⟨sk | sk | sk, _ | ⟨b, st'⟩⟩⟩⟩⟩⟩ <;> first | exact False.elim h | skip
                by_cases hc : kd dk = 1 ∧ kd sk = 1 ∧ 0 ≤ nn ∧ 0 ≤ dp ∧ 0 ≤ sp ∧ dp + nn ≤ ln dk ∧ sp + nn ≤ ln sk
                · simp only [wpf, stepF, if_pos hc] at h
                  exact G_copy X hdc hml hlo hc (next _ _ _ _ (hE2 hE3) hlo h)
                · simp only [wpf, stepF, if_neg hc] at h
          | _ => exact absurd hI (by simp [okI])

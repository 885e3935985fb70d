/-! no call writes the script -/
def okW (ops : List Op) : Bool := ops.all (fun op => !(op.1 == 23 && op.2.2 == 99))
theorem nt_in {α : Type} {d : α} (P : α → Prop) (hd : P d) : ∀ (l : List α) (n : Nat), (∀ a ∈ l, P a) → P (nt d l n) := by
  intro l
  induction l with
  | nil => intro n _; exact hd
  | cons a l ih =>
    intro n h
    cases n with
    | zero => exact h a List.mem_cons_self
    | succ n => exact ih n (fun b hb => h b (List.mem_cons_of_mem _ hb))
theorem okW_tab : bkl.all (fun l => l.all okW) = true := by decide +kernel
theorem okW_blk (z t : Nat) : okW (blk z t) = true := by
  unfold blk
  have h := okW_tab
  rw [List.all_eq_true] at h
  have h2 : ∀ a ∈ nt [] bkl z, okW a = true := by
    refine nt_in (fun l : List (List Op) => ∀ a ∈ l, okW a = true) (fun a ha => by cases ha) bkl z (fun l hl => ?_)
    have := h l hl
    rw [List.all_eq_true] at this
    exact this
  exact nt_in (fun a => okW a = true) rfl _ t h2
def kp (M M' : Me) : Prop := M' 98 = M 98 ∧ M' 99 = M 99
theorem kp_put {M : Me} {k : Nat} {i v : Int} (h1 : k ≠ 98) (h2 : k ≠ 99) : kp M (me_put M k i v) := ⟨me_f _ (Ne.symm h1), me_f _ (Ne.symm h2)⟩
theorem kp_kd {M : Me} {k n : Nat} {i v : Int} (h : kd k = n) (hn : n ≠ 9) : kp M (me_put M k i v) :=
  kp_put (fun e => by subst e; exact hn h.symm) (fun e => by subst e; exact hn h.symm)
theorem kp_cpy {M : Me} {sk k : Nat} {sp dp n : Int} (h : kd k = 1) : kp M (me_cpy M sk sp k dp n) := by
  have h1 : ¬ (98 = k) := fun e => by subst e; exact absurd h (by decide)
  have h2 : ¬ (99 = k) := fun e => by subst e; exact absurd h (by decide)
  constructor
  · funext b; unfold me_cpy; rw [if_neg (fun z => h1 z.1)]
  · funext b; unfold me_cpy; rw [if_neg (fun z => h2 z.1)]
theorem kp_oc {M : Me} {o : Nat} {i v c : Int} (h : (oc o : Int) = c) (hc : c ≠ 99) : kp M (me_put M o i v) :=
  kp_put (fun e => by subst e; exact hc h.symm) (fun e => by subst e; exact hc h.symm)
theorem step_kp {op : Op} {lo lo' : Lo} {st st' : St} {M M' : Me} {k a : Nat} {as : List AV} {f : Int} (ho : ¬ (op.1 = 23 ∧ op.2.2 = 99)) (h : stepF op lo st M = some (k, a, lo', st', M', as, f)) : kp M M' := by
  unfold stepF at h
  split at h
  all_goals (repeat' split at h)
  all_goals first
    | (cases h; done)
    | (cases h; exact ⟨rfl, rfl⟩)
    | (cases h; exact kp_oc (by assumption) (fun e => ho ⟨by assumption, e⟩))
    | (rename_i hh; cases h; exact kp_kd hh.1 (by decide))
    | (rename_i hh; cases h; exact kp_cpy hh.1)
    | skip
theorem okW_t {op : Op} {os : List Op} (h : okW (op :: os) = true) : ¬ (op.1 = 23 ∧ op.2.2 = 99) ∧ okW os = true := by
  unfold okW at *
  rw [List.all_cons, Bool.and_eq_true] at h
  refine ⟨fun z => ?_, h.2⟩
  have := h.1
  simp [z.1, z.2] at this
theorem kp_tr {M M1 M2 : Me} (a : kp M M1) (b : kp M1 M2) : kp M M2 := ⟨by rw [b.1, a.1], by rw [b.2, a.2]⟩
theorem wpf_kp : ∀ (n d : Nat) (ops : List Op) (y : Nat) (lo : Lo) (st : St) (M : Me) (Q : Int → Me → Prop), okW ops = true → wpf n d ops y lo st M Q → wpf n d ops y lo st M (fun v M' => Q v M' ∧ kp M M') := by
  intro n
  induction n with
  | zero => intro d ops y lo st M Q _ h; exact h.elim
  | succ n ih =>
    intro d ops y lo st M Q ho h
    cases ops with
    | nil => exact h.elim
    | cons op os =>
      obtain ⟨h1, h2⟩ := okW_t ho
      simp only [wpf] at h ⊢
      generalize e : stepF op lo st M = r at h ⊢
      match r with
      | none => exact h
      | some (0, _, lo', st', M', _, _) =>
        have k := step_kp h1 e
        exact wpf_mono _ _ _ _ _ _ _ _ _ _ (Nat.le_refl n) (fun v M2 q => ⟨q.1, kp_tr k q.2⟩) (ih _ _ _ _ _ _ _ h2 h)
      | some (1, t, lo', st', M', _, _) =>
        have k := step_kp h1 e
        exact wpf_mono _ _ _ _ _ _ _ _ _ _ (Nat.le_refl n) (fun v M2 q => ⟨q.1, kp_tr k q.2⟩) (ih _ _ _ _ _ _ _ (okW_blk y t) h)
      | some (2, z, lo', st', M', as, f) =>
        have k := step_kp h1 e
        cases d with
        | zero => exact h.elim
        | succ d' =>
          refine ⟨h.1, wpf_mono _ _ _ _ _ _ _ _ _ _ (Nat.le_refl n) (fun v M2 q => ?_) (ih _ _ _ _ _ _ _ (okW_blk z 0) h.2)⟩
          exact wpf_mono _ _ _ _ _ _ _ _ _ _ (Nat.le_refl n) (fun v' M3 q' => ⟨q'.1, kp_tr (kp_tr k q.2) q'.2⟩) (ih _ _ _ _ _ _ _ h2 q.1)
      | some (3, _, _, _, M', _, v) => exact ⟨h, step_kp h1 e⟩
      | some (k + 4, _, _, _, _, _, _) => exact h
/-- a call leaves the script -/
theorem Cl_kp {d z : Nat} {as : List AV} {M : Me} {Q : Int → Me → Prop} (h : Cl d z as M Q) : Cl d z as M (fun v M' => Q v M' ∧ kp M M') := by
  obtain ⟨n, h⟩ := h
  exact ⟨n, wpf_kp _ _ _ _ _ _ _ _ (okW_blk z 0) h⟩

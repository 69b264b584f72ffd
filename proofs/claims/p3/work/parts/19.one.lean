/-! one step and what it does to the sizes; calls and ends by inversion -/
section GpOne
def gp_le (h h' : gH) : Prop := h.1 ≤ h'.1 ∧ h.2.1 ≤ h'.2.1
theorem gp_le_rf (h : gH) : gp_le h h := ⟨Nat.le_refl _, Nat.le_refl _⟩
def gp_rm (h : gH) (x : gRes) : Prop := match x with
  | some (.inl f) => gp_le h f.2.2.2
  | _ => True
theorem gp_rm_cond {h : gH} {b : Bool} {A B : gRes} (h1 : gp_rm h A) (h2 : gp_rm h B) : gp_rm h (cond b A B) := by cases b <;> assumption
theorem gp_rm_ite {h : gH} {C : Prop} [Decidable C] {A B : gRes} (h1 : gp_rm h A) (h2 : gp_rm h B) : gp_rm h (if C then A else B) := by split <;> assumption
theorem gp_rm_jmp {pc : Nat} {off : Int} {ls st : List gV} {h : gH} : gp_rm h (gp_jmp pc off ls st h) := gp_rm_cond (gp_le_rf h) trivial
theorem gp_rm_mna (h : gH) (n k pc : Nat) (ls st : List gV) : gp_rm h (gp_next pc ls st (gp_mna h n k)) := ⟨Nat.le_add_right _ _, Nat.le_add_right _ _⟩
theorem gp_rm_new (h : gH) (n k pc : Nat) (ls st : List gV) : gp_rm h (gp_next pc ls st (gp_new h n k)) := ⟨Nat.le_add_right _ _, Nat.le_add_right _ _⟩
theorem gp_rm_call (y n m c : Nat) (ls st : List gV) (h : gH) : gp_rm h (gp_call y n m c ls st h) := by
  unfold gp_call
  refine gp_rm_ite ?_ trivial
  split
  · exact trivial
  · split
    · exact gp_rm_ite trivial trivial
    · exact trivial
set_option maxHeartbeats 1000000 in
theorem gp_exec_mono (c : Nat) (z : Bool) (ins : Instr) (len pc : Nat) (ls st : List gV) (h : gH) : gp_rm h (gp_exec c z ins len pc ls st h) := by
  unfold gp_exec
  split
  all_goals (try unfold gp_loadI)
  all_goals (try unfold gp_loadL)
  all_goals (try unfold gp_loadA)
  all_goals (try unfold gp_storeI)
  all_goals (try unfold gp_storeL)
  all_goals (try unfold gp_storeA)
  all_goals (try unfold gp_bin)
  all_goals (try unfold gp_binL)
  all_goals (try unfold gp_shf)
  all_goals (try unfold gp_un)
  all_goals (try unfold gp_getf)
  all_goals (try unfold gp_putf)
  all_goals (try unfold gp_br)
  all_goals (try unfold gp_acp)
  all_goals (try unfold gp_mth)
  all_goals (repeat' (first | exact trivial | exact gp_le_rf _ | exact gp_rm_jmp | exact gp_rm_mna _ _ _ _ _ _ | exact gp_rm_new _ _ _ _ _ _ | exact gp_rm_call _ _ _ _ _ _ _ | apply gp_rm_cond | apply gp_rm_ite | split))
theorem gp_run_mono : ∀ (n d y pc : Nat) (ls st : List gV) (h : gH) (r : Option gV) (h' : gH), gp_run n d y pc ls st h = some (r, h') → gp_le h h' := by
  intro n
  induction n with
  | zero => intro d y pc ls st h r h' e; simp [gp_run] at e
  | succ n ih =>
    intro d y pc ls st h r h' e
    rw [gp_run] at e
    have hm : gp_rm h (gp_step y pc ls st h) := by
      unfold gp_step
      split
      · exact gp_exec_mono _ _ _ _ _ _ _ _
      · exact trivial
    revert e hm
    cases gp_step y pc ls st h with
    | none => intro e; cases e
    | some q =>
      rcases q with ⟨pc2, ls2, st2, h2⟩ | ⟨y', l0, st'⟩ | r2
      · intro e hm
        have := ih _ _ _ _ _ _ _ _ e
        exact ⟨Nat.le_trans hm.1 this.1, Nat.le_trans hm.2 this.2⟩
      · cases d with
        | zero => intro e; cases e
        | succ d =>
          simp only
          intro e hm
          cases e1 : gp_run n d y' 0 l0 [] h with
          | none => rw [e1] at e; cases e
          | some w =>
            obtain ⟨r1, h1⟩ := w
            rw [e1] at e
            have a := ih _ _ _ _ _ _ _ _ e1
            have b := ih _ _ _ _ _ _ _ _ e
            exact ⟨Nat.le_trans a.1 b.1, Nat.le_trans a.2 b.2⟩
      · intro e hm
        cases e
        exact gp_le_rf _
/-- no call, no end -/
def gp_nx (x : gRes) : Prop := match x with
  | some (.inr _) => False
  | _ => True
theorem gp_nx_cond {b : Bool} {A B : gRes} (h1 : gp_nx A) (h2 : gp_nx B) : gp_nx (cond b A B) := by cases b <;> assumption
theorem gp_nx_ite {C : Prop} [Decidable C] {A B : gRes} (h1 : gp_nx A) (h2 : gp_nx B) : gp_nx (if C then A else B) := by split <;> assumption
theorem gp_nx_jmp {pc : Nat} {off : Int} {ls st : List gV} {h : gH} : gp_nx (gp_jmp pc off ls st h) := gp_nx_cond trivial trivial
def gp_isc (ins : Instr) : Bool := match ins with
  | .invokevirtual _ => true
  | .invokestatic _ => true
  | .invokespecial _ => true
  | .ireturn => true
  | .lreturn => true
  | .areturn => true
  | .return_ => true
  | _ => false
set_option maxHeartbeats 1000000 in
theorem gp_exec_nx (c : Nat) (z : Bool) (ins : Instr) (len pc : Nat) (ls st : List gV) (h : gH) (hi : gp_isc ins = false) : gp_nx (gp_exec c z ins len pc ls st h) := by
  unfold gp_exec
  split
  all_goals (try (cases hi; done))
  all_goals (try unfold gp_loadI)
  all_goals (try unfold gp_loadL)
  all_goals (try unfold gp_loadA)
  all_goals (try unfold gp_storeI)
  all_goals (try unfold gp_storeL)
  all_goals (try unfold gp_storeA)
  all_goals (try unfold gp_bin)
  all_goals (try unfold gp_binL)
  all_goals (try unfold gp_shf)
  all_goals (try unfold gp_un)
  all_goals (try unfold gp_getf)
  all_goals (try unfold gp_putf)
  all_goals (try unfold gp_br)
  all_goals (repeat' (first | exact trivial | exact gp_nx_jmp | apply gp_nx_cond | apply gp_nx_ite | split))
/-- a call does not end the method -/
def gp_nr (x : gRes) : Prop := match x with
  | some (.inr (.inr _)) => False
  | _ => True
theorem gp_nr_cond {b : Bool} {A B : gRes} (h1 : gp_nr A) (h2 : gp_nr B) : gp_nr (cond b A B) := by cases b <;> assumption
theorem gp_nr_ite {C : Prop} [Decidable C] {A B : gRes} (h1 : gp_nr A) (h2 : gp_nr B) : gp_nr (if C then A else B) := by split <;> assumption
theorem gp_nr_call (y n m c : Nat) (ls st : List gV) (h : gH) : gp_nr (gp_call y n m c ls st h) := by
  unfold gp_call
  refine gp_nr_ite ?_ trivial
  split
  · exact trivial
  · split
    · exact gp_nr_ite trivial trivial
    · exact trivial
def gp_isv (ins : Instr) : Bool := match ins with
  | .invokevirtual _ => true
  | .invokestatic _ => true
  | .invokespecial _ => true
  | _ => false
theorem gp_exec_nr (c : Nat) (z : Bool) (ins : Instr) (len pc : Nat) (ls st : List gV) (h : gH) (hi : gp_isv ins = true) : gp_nr (gp_exec c z ins len pc ls st h) := by
  unfold gp_isv at hi
  split at hi
  · simp only [gp_exec]
    split
    · exact gp_nr_call _ _ _ _ _ _ _
    · exact trivial
  · simp only [gp_exec]
    split
    · split
      · unfold gp_acp
        split
        · exact gp_nr_ite trivial trivial
        · exact trivial
      · unfold gp_mth
        split
        · exact gp_nr_ite trivial trivial
        · exact trivial
      · unfold gp_mth
        split
        · exact gp_nr_ite trivial trivial
        · exact trivial
      · split
        · exact gp_nr_ite trivial trivial
        · exact trivial
      · exact gp_nr_call _ _ _ _ _ _ _
      · exact trivial
    · exact trivial
  · simp only [gp_exec]
    split
    · split
      · split
        · exact gp_nr_ite trivial trivial
        · exact trivial
      · split
        · exact gp_nr_call _ _ _ _ _ _ _
        · exact trivial
      · exact trivial
    · exact trivial
  · cases hi
theorem gp_call_inv {y n m c : Nat} {ls st : List gV} {h : gH} {x : gFr ⊕ ((Nat × List gV × List gV) ⊕ Option gV)} (q : gp_call y n m c ls st h = some x) : x = .inr (.inl (y, gp_loc m (st.take n).reverse, st.drop n)) ∧ n ≤ st.length ∧ (gp_lay (st.take n).reverse).length ≤ m ∧ gp_cat (st.drop n) ≤ 8 ∧
    (c ≠ 0 → ∃ o r, (st.take n).reverse = gp_r (some o) :: r ∧ (gp_sh h o).1 = c - 1) := by
  unfold gp_call at q
  obtain ⟨⟨h1, h2, h3⟩, q⟩ := gp_if_none q
  split at q
  · cases q; exact ⟨rfl, h1, h2, h3, fun z => absurd rfl z⟩
  · split at q
    · rename_i o r e
      obtain ⟨h4, q⟩ := gp_if_none q
      cases q
      exact ⟨rfl, h1, h2, h3, fun _ => ⟨o, r, e, h4⟩⟩
    · cases q
theorem gp_len {y : Nat} {ins : Instr} {len k : Nat} (h : gp_oki y (ins, len) = true) (hk : gp_il ins = k) (h0 : k ≠ 0) : len = k := by
  unfold gp_oki at h
  rw [Bool.and_eq_true, Bool.or_eq_true] at h
  subst hk
  rcases h.1 with z | z
  · exact absurd (Nat.eq_of_beq_eq_true z) h0
  · exact Nat.eq_of_beq_eq_true z
end GpOne

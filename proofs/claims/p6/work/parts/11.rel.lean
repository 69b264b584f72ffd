/-! THE SMALL MACHINE AGAINST THE REAL ONE: how values, locals, stacks and heaps stand for each other -/
section GpRel
/-- the real address of a cell: the script is cell 0 -/
def gp_ad (b b0 a : Nat) : Nat := match a with
  | 0 => b
  | a + 1 => b0 + a
def gp_vr (b b0 : Nat) (v : Value) (w : gV) : Prop := match w with
  | .inl x => ∃ y : Int32, v = .int y ∧ y.toInt = x
  | .inr (.inl x) => ∃ y : Int64, v = .long y ∧ y.toBitVec = x
  | .inr (.inr (some none)) => v = .null
  | .inr (.inr (some (some a))) => v = .ref (gp_ad b b0 a)
  | .inr (.inr none) => False
def gp_sr (b b0 : Nat) : List Value → List gV → Prop
  | [], [] => True
  | v :: vs, w :: ws => gp_vr b b0 v w ∧ gp_sr b b0 vs ws
  | _, _ => False
def gp_lr (b b0 nL : Nat) (lsR : Array Slot) (ls : List gV) : Prop := ls.length = nL ∧ lsR.size = nL ∧ lv_wf lsR ∧ ∀ (i : Nat) (w : gV), ls[i]? = some w → w ≠ gp_n → ∃ v, lsR[i]? = some (.val v) ∧ gp_vr b b0 v w
theorem gp_ad_inj {b b0 : Nat} (hb : b < b0) {a a' : Nat} (h : gp_ad b b0 a = gp_ad b b0 a') : a = a' := by
  unfold gp_ad at h
  split at h <;> split at h <;> omega
theorem gp_vr_cat {b b0 : Nat} {v : Value} {w : gV} (h : gp_vr b b0 v w) : v.category = if gp_isl w then 2 else 1 := by
  rcases w with x | x | _ | _ | a
  · obtain ⟨y, rfl, -⟩ := h; rfl
  · obtain ⟨y, rfl, -⟩ := h; rfl
  · exact h.elim
  · cases h; rfl
  · cases h; rfl
theorem gp_sr_cat {b b0 : Nat} : ∀ {vs : List Value} {ws : List gV}, gp_sr b b0 vs ws → (vs.map fun v => v.category).sum = gp_cat ws
  | [], [], _ => rfl
  | v :: vs, w :: ws, h => by
    rw [List.map_cons, List.sum_cons, gp_sr_cat h.2, gp_cat, gp_vr_cat h.1]
    cases gp_isl w <;> rfl
  | [], _ :: _, h => h.elim
  | _ :: _, [], h => h.elim
theorem gp_sr_len {b b0 : Nat} : ∀ {vs : List Value} {ws : List gV}, gp_sr b b0 vs ws → vs.length = ws.length
  | [], [], _ => rfl
  | v :: vs, w :: ws, h => by rw [List.length_cons, List.length_cons, gp_sr_len h.2]
  | [], _ :: _, h => h.elim
  | _ :: _, [], h => h.elim
theorem gp_sr_app {b b0 : Nat} : ∀ {vs vs' : List Value} {ws ws' : List gV}, gp_sr b b0 vs ws → gp_sr b b0 vs' ws' → gp_sr b b0 (vs ++ vs') (ws ++ ws')
  | [], _, [], _, _, h => h
  | _ :: _, _, _ :: _, _, h, h' => ⟨h.1, gp_sr_app h.2 h'⟩
  | [], _, _ :: _, _, h, _ => h.elim
  | _ :: _, _, [], _, h, _ => h.elim
theorem gp_sr_rev {b b0 : Nat} : ∀ {vs : List Value} {ws : List gV}, gp_sr b b0 vs ws → gp_sr b b0 vs.reverse ws.reverse
  | [], [], h => h
  | v :: vs, w :: ws, h => by
    rw [List.reverse_cons, List.reverse_cons]
    exact gp_sr_app (gp_sr_rev h.2) ⟨h.1, trivial⟩
  | [], _ :: _, h => h.elim
  | _ :: _, [], h => h.elim
theorem gp_sr_split {b b0 : Nat} : ∀ (n : Nat) {vs : List Value} {ws : List gV}, gp_sr b b0 vs ws → gp_sr b b0 (vs.take n) (ws.take n) ∧ gp_sr b b0 (vs.drop n) (ws.drop n)
  | 0, _, _, h => by simpa [gp_sr] using h
  | n + 1, [], [], h => by simpa [gp_sr] using h
  | n + 1, v :: vs, w :: ws, h => by
    obtain ⟨h1, h2⟩ := gp_sr_split n h.2
    exact ⟨⟨h.1, h1⟩, h2⟩
  | n + 1, [], _ :: _, h => h.elim
  | n + 1, _ :: _, [], h => h.elim
/-- all that the locals hold, by their places -/
def gp_lv (lsR : Array Slot) : List (Nat × Value) := (List.range lsR.size).filterMap fun i => match (lsR[i]? : Option Slot) with
  | some (Slot.val v) => some (i, v)
  | _ => none
theorem gp_lv_mem {lsR : Array Slot} {i : Nat} {v : Value} : (i, v) ∈ gp_lv lsR ↔ lsR[i]? = some (.val v) := by
  unfold gp_lv
  rw [List.mem_filterMap]
  constructor
  · rintro ⟨j, -, h⟩
    split at h
    · cases h; assumption
    · cases h
  · intro h
    exact ⟨i, List.mem_range.mpr (Array.getElem?_eq_some_iff.mp h).1, by rw [h]⟩
theorem gp_lv_has {lsR : Array Slot} (hw : lv_wf lsR) : lv_has lsR lsR.size (gp_lv lsR) := ⟨rfl, hw, fun q hq => gp_lv_mem.mp hq⟩
theorem gp_lr_load {b b0 nL : Nat} {lsR : Array Slot} {ls : List gV} (h : gp_lr b b0 nL lsR ls) {i : Nat} {w : gV} (hw : ls.getD i gp_n = w) (hn : w ≠ gp_n) : ∃ v, lsR[i]? = some (.val v) ∧ gp_vr b b0 v w := by
  refine h.2.2.2 i w ?_ hn
  rw [List.getD_eq_getElem?_getD] at hw
  cases e : ls[i]? with
  | none => rw [e] at hw; exact absurd hw.symm hn
  | some z => rw [e] at hw; exact congrArg some hw
theorem gp_oks_spec {ls : List gV} {i : Nat} (h : gp_oks ls i = true) : i < ls.length ∧ ∀ j w, j + 1 = i → ls[j]? = some w → gp_isl w = false := by
  unfold gp_oks at h
  rw [Bool.and_eq_true] at h
  refine ⟨Nat.blt_eq.mp h.1, fun j w hj hw => ?_⟩
  subst hj
  have h2 := h.2
  simp only [List.getD_eq_getElem?_getD, hw, Option.getD_some, Bool.not_eq_true'] at h2
  exact h2
/-- behind a store of one slot -/
theorem gp_lr_set1 {b b0 nL : Nat} {lsR lsR' : Array Slot} {ls : List gV} (h : gp_lr b b0 nL lsR ls) {i : Nat} (ho : gp_oks ls i = true) {v : Value} {w : gV} (hv : gp_vr b b0 v w)
    (h' : lv_has lsR' lsR.size ((i, v) :: (gp_lv lsR).filter (fun q => !(q.1 == i) && !(q.1 + 1 == i && q.2.category == 2)))) : gp_lr b b0 nL lsR' (ls.set i w) := by
  obtain ⟨e1, e2, e3, e4⟩ := h
  obtain ⟨f1, f2, f3⟩ := h'
  obtain ⟨o1, o2⟩ := gp_oks_spec ho
  refine ⟨by rw [List.length_set]; exact e1, f1.trans e2, f2, fun j z hj hz => ?_⟩
  by_cases hij : i = j
  · subst hij
    rw [List.getElem?_set_self o1] at hj
    cases hj
    exact ⟨v, f3 _ List.mem_cons_self, hv⟩
  · rw [List.getElem?_set_ne hij] at hj
    obtain ⟨u, hu, hr⟩ := e4 j z hj hz
    refine ⟨u, f3 (j, u) (List.mem_cons_of_mem _ (List.mem_filter.mpr ⟨gp_lv_mem.mpr hu, ?_⟩)), hr⟩
    have hc := gp_vr_cat hr
    by_cases hji : j + 1 = i
    · rw [o2 j z hji hj] at hc
      simp [hc, Ne.symm hij]
    · simp [hji, Ne.symm hij]
theorem gp_lr_set2 {b b0 nL : Nat} {lsR lsR' : Array Slot} {ls : List gV} (h : gp_lr b b0 nL lsR ls) {i : Nat} (ho : gp_oks ls i = true) {v : Value} {w : gV} (hv : gp_vr b b0 v w)
    (h' : lv_has lsR' lsR.size ((i, v) :: (gp_lv lsR).filter (fun q => !(q.1 == i) && (!(q.1 == i + 1) && !(q.1 + 1 == i && q.2.category == 2))))) : gp_lr b b0 nL lsR' ((ls.set i w).set (i + 1) gp_n) := by
  obtain ⟨e1, e2, e3, e4⟩ := h
  obtain ⟨f1, f2, f3⟩ := h'
  obtain ⟨o1, o2⟩ := gp_oks_spec ho
  refine ⟨by rw [List.length_set, List.length_set]; exact e1, f1.trans e2, f2, fun j z hj hz => ?_⟩
  by_cases hk : i + 1 = j
  · subst hk
    by_cases hl : i + 1 < (ls.set i w).length
    · rw [List.getElem?_set_self hl] at hj
      cases hj
      exact absurd rfl hz
    · rw [List.getElem?_eq_none (by rw [List.length_set]; omega)] at hj
      cases hj
  rw [List.getElem?_set_ne hk] at hj
  by_cases hij : i = j
  · subst hij
    rw [List.getElem?_set_self o1] at hj
    cases hj
    exact ⟨v, f3 _ List.mem_cons_self, hv⟩
  · rw [List.getElem?_set_ne hij] at hj
    obtain ⟨u, hu, hr⟩ := e4 j z hj hz
    refine ⟨u, f3 (j, u) (List.mem_cons_of_mem _ (List.mem_filter.mpr ⟨gp_lv_mem.mpr hu, ?_⟩)), hr⟩
    have hc := gp_vr_cat hr
    by_cases hji : j + 1 = i
    · rw [o2 j z hji hj] at hc
      simp [hc, Ne.symm hij, show ¬ j = i + 1 by omega]
    · simp [hji, Ne.symm hij, Ne.symm hk]
/-- the locals of a method that begins -/
theorem gp_lr_entry {b b0 : Nat} {vs : List Value} {ws : List gV} (h : gp_sr b b0 vs ws) {n : Nat} (hn : (gp_lay ws).length ≤ n) : gp_lr b b0 n ((lg_sl vs ++ List.replicate (n - (lg_sl vs).length) Slot.unset).toArray) (gp_loc n ws) := by
  have key : ∀ {vs : List Value} {ws : List gV}, gp_sr b b0 vs ws → (lg_sl vs).length = (gp_lay ws).length ∧ ∀ (i : Nat) (w : gV), (gp_lay ws)[i]? = some w → w ≠ gp_n → ∃ v, (lg_sl vs)[i]? = some (.val v) ∧ gp_vr b b0 v w := by
    intro vs
    induction vs with
    | nil =>
      intro ws h
      cases ws with
      | nil => exact ⟨rfl, fun i w hw => by simp [gp_lay] at hw⟩
      | cons w ws => exact h.elim
    | cons v vs ih =>
      intro ws h
      cases ws with
      | nil => exact h.elim
      | cons w ws =>
        obtain ⟨h1, h2⟩ := h
        obtain ⟨g1, g2⟩ := ih h2
        have hc := gp_vr_cat h1
        rw [show lg_sl (v :: vs) = (if v.category = 2 then [.val v, .second] else [.val v]) ++ lg_sl vs from by simp [lg_sl]]
        rw [gp_lay]
        cases hl : gp_isl w
        · rw [hl] at hc
          rw [hc]
          refine ⟨by simp [g1], fun i z hz hzn => ?_⟩
          cases i with
          | zero => simp at hz; subst hz; exact ⟨v, by simp, h1⟩
          | succ i => simpa using g2 i z (by simpa using hz) hzn
        · rw [hl] at hc
          rw [hc]
          refine ⟨by simp [g1], fun i z hz hzn => ?_⟩
          match i, hz with
          | 0, hz => simp at hz; subst hz; exact ⟨v, by simp, h1⟩
          | 1, hz => simp at hz; exact absurd hz.symm hzn
          | i + 2, hz => simpa using g2 i z (by simpa using hz) hzn
  obtain ⟨k1, k2⟩ := key h
  have he := lv_entry vs (n := n) (by rw [k1]; exact hn)
  refine ⟨by unfold gp_loc; simp; omega, he.1, he.2.1, fun i w hw hwn => ?_⟩
  unfold gp_loc at hw
  by_cases hi : i < (gp_lay ws).length
  · rw [List.getElem?_append_left hi] at hw
    obtain ⟨v, hv, hr⟩ := k2 i w hw hwn
    refine ⟨v, ?_, hr⟩
    rw [List.getElem?_toArray, List.getElem?_append_left (by omega)]
    exact hv
  · rw [List.getElem?_append_right (by omega)] at hw
    obtain ⟨q1, q2⟩ := List.getElem?_eq_some_iff.mp hw
    rw [List.getElem_replicate] at q2
    exact absurd q2.symm hwn
end GpRel

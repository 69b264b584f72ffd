section GpSix
/-- WHATEVER THE SMALL MACHINE RUNS, THE REAL ONE DOES -/
theorem gp_sound (l : Launch) (D : va_G) {b b0 : Nat} (hb0 : b < b0) : ∀ (n d y pc : Nat) (ls st : List gV) (h : gH) (r : Option gV) (h' : gH), gp_run n d y pc ls st h = some (r, h') → ∀ (p : Program) (e : Env) (R : Room) (s : State) (m : MethodId) (args : Array Value) (below : List Frame) (meth : Method) (c : Code) (h0 : gH), gp_Cx p R s m args meth c D y → meth.sig.returnType = gp_rt y → meth.locks = false → d + 1 ≤ R.frames → (d + 1) * 100 ≤ R.locals → gp_sz h' ≤ R.cells + gp_sz h0 → gp_us h' ≤ R.slots + gp_us h0 →
    gp_WW p l e R s m args below meth c (MQ below (gp_Post D b b0 r h') args s (gp_sz h' - gp_sz h0) (gp_us h' - gp_us h0) (fun q => b0 ≤ q)) D b b0 (gp_ml y) h0 pc ls st h := by
  intro n
  induction n with
  | zero => intro d y pc ls st h r h' e; simp [gp_run] at e
  | succ n ih =>
    intro d y pc ls st h r h' e p en R s m args below meth c h0 Cx hrt hlk hfr hlo hR1 hR2
    rw [gp_run] at e
    unfold gp_step at e
    cases hc : gp_code y pc with
    | none => rw [hc] at e; cases e
    | some il =>
      obtain ⟨ins, len⟩ := il
      have hP := gp_okCode hc
      rw [hc] at e
      simp only at e
      cases hq : gp_exec (y / 256) (gp_z y) ins len pc ls st h with
      | none => rw [hq] at e; cases e
      | some q =>
        rw [hq] at e
        rcases q with ⟨pc2, ls2, st2, h2⟩ | ⟨y', l0, st'⟩ | r2
        · have hm := gp_run_mono _ _ _ _ _ _ _ _ _ e
          have m1 : gp_sz h2 ≤ gp_sz h' := hm.1
          have m2 : gp_us h2 ≤ gp_us h' := hm.2
          exact gp_one hb0 Cx hP hq ⟨by omega, by omega⟩ (ih _ _ _ _ _ _ _ _ e p en R s m args below meth c h0 Cx hrt hlk hfr hlo hR1 hR2)
        · cases d with
          | zero => cases e
          | succ d =>
            simp only at e
            cases e1 : gp_run n d y' 0 l0 [] h with
            | none => rw [e1] at e; cases e
            | some z =>
              obtain ⟨r1, h1⟩ := z
              rw [e1] at e
              have hm := gp_run_mono _ _ _ _ _ _ _ _ _ e
              have m1 : gp_sz h1 ≤ gp_sz h' := hm.1
              have m2 : gp_us h1 ≤ gp_us h' := hm.2
              refine gp_sCall hb0 Cx hP hq (d := d) hfr hlo (gp_run_mono _ _ _ _ _ _ _ _ _ e1) ⟨by omega, by omega⟩ (fun ws hws hlay hyc hpl => ?_) (ih _ _ _ _ _ _ _ _ e p en R s m args below meth c h0 Cx hrt hlk hfr hlo hR1 hR2)
              refine gp_met l hb0 (n := n) hlay hyc hpl (fun p2 e2 R2 s2 mm2 args2 below2 meth2 c2 Cx2 hrt2 hlk2 f1 f2 f3 f4 => ?_)
              rw [← hws]
              exact ih d y' 0 l0 [] h r1 h1 e1 p2 e2 R2 s2 mm2 args2 below2 meth2 c2 h Cx2 hrt2 hlk2 f1 f2 f3 f4
        · cases e
          exact gp_sRet Cx hrt hlk hP hq
/-- the heap at the start: the script alone -/
def gp_start (L : Nat) (xs : Nat → Int32) : gH := (1, 0, (fun a => cond (Nat.beq a 0) (105, L) (999, 0)), (fun a i => cond (Nat.beq a 0) (xs i).toInt 0), (fun _ _ => 0#64), (fun _ _ => none))
end GpSix

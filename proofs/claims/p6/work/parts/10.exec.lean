def gp_to (pc : Nat) (off : Int) : Nat := ((pc : Int) + off).toNat
def gp_jmp (pc : Nat) (off : Int) (ls st : List gV) (h : gH) : gRes := cond (decide (0 ≤ (pc : Int) + off)) (gp_next (gp_to pc off) ls st h) none
def gp_br (pc : Nat) (off : Int) (b : Bool) (ls st : List gV) (h : gH) : gRes := cond (decide (0 ≤ (pc : Int) + off)) (cond b (gp_next (gp_to pc off) ls st h) (gp_next (pc + 3) ls st h)) none
def gp_loadI (i n pc : Nat) (ls st : List gV) (h : gH) : gRes := match ls.getD i gp_n with
  | .inl v => gp_next (pc + n) ls (gp_i v :: st) h
  | _ => none
def gp_loadL (i n pc : Nat) (ls st : List gV) (h : gH) : gRes := match ls.getD i gp_n with
  | .inr (.inl v) => gp_next (pc + n) ls (gp_l v :: st) h
  | _ => none
def gp_loadA (i n pc : Nat) (ls st : List gV) (h : gH) : gRes := match ls.getD i gp_n with
  | .inr (.inr (some v)) => gp_next (pc + n) ls (gp_r v :: st) h
  | _ => none
def gp_storeI (i n pc : Nat) (ls st : List gV) (h : gH) : gRes := match st with
  | .inl v :: r => cond (gp_oks ls i) (gp_next (pc + n) (ls.set i (gp_i v)) r h) none
  | _ => none
def gp_storeL (i n pc : Nat) (ls st : List gV) (h : gH) : gRes := match st with
  | .inr (.inl v) :: r => cond (gp_oks ls i && Nat.blt (i + 1) ls.length) (gp_next (pc + n) ((ls.set i (gp_l v)).set (i + 1) gp_n) r h) none
  | _ => none
def gp_storeA (i n pc : Nat) (ls st : List gV) (h : gH) : gRes := match st with
  | .inr (.inr (some v)) :: r => cond (gp_oks ls i) (gp_next (pc + n) (ls.set i (gp_r v)) r h) none
  | _ => none
def gp_bin (f : Int → Int → Int) (pc : Nat) (ls st : List gV) (h : gH) : gRes := match st with
  | .inl y :: .inl x :: r => gp_next (pc + 1) ls (gp_i (f x y) :: r) h
  | _ => none
def gp_binL (f : BitVec 64 → BitVec 64 → BitVec 64) (pc : Nat) (ls st : List gV) (h : gH) : gRes := match st with
  | .inr (.inl y) :: .inr (.inl x) :: r => gp_next (pc + 1) ls (gp_l (f x y) :: r) h
  | _ => none
def gp_shf (f : BitVec 64 → Nat → BitVec 64) (pc : Nat) (ls st : List gV) (h : gH) : gRes := match st with
  | .inl y :: .inr (.inl x) :: r => gp_next (pc + 1) ls (gp_l (f x (y % 64).toNat) :: r) h
  | _ => none
def gp_un (f : Int → Int) (pc : Nat) (ls st : List gV) (h : gH) : gRes := match st with
  | .inl x :: r => gp_next (pc + 1) ls (gp_i (f x) :: r) h
  | _ => none
/-- a place of a row -/
abbrev gp_in (h : gH) (k o : Nat) (i : Int) : Prop := (gp_sh h o).1 = k ∧ 0 ≤ i ∧ i < ((gp_sh h o).2 : Int)
def gp_getf (k c f pc : Nat) (ls st : List gV) (h : gH) : gRes := match st with
  | .inr (.inr (some (some o))) :: r => if (gp_sh h o).1 = c then (match k with
      | 0 => gp_next (pc + 3) ls (gp_i (gp_I h o f) :: r) h
      | 1 => gp_next (pc + 3) ls (gp_l (gp_L h o f) :: r) h
      | 2 => gp_next (pc + 3) ls (gp_r (gp_R h o f) :: r) h
      | _ => gp_next (pc + 3) ls (gp_i (gp_I h o f) :: r) h) else none
  | _ => none
def gp_putf (k c f pc : Nat) (ls st : List gV) (h : gH) : gRes := match st with
  | .inl v :: .inr (.inr (some (some o))) :: r => if (gp_sh h o).1 = c ∧ (k = 0 ∨ k = 3 ∧ (v = 0 ∨ v = 1)) then gp_next (pc + 3) ls r (gp_wI h o f v) else none
  | .inr (.inl v) :: .inr (.inr (some (some o))) :: r => if (gp_sh h o).1 = c ∧ k = 1 then gp_next (pc + 3) ls r (gp_wL h o f v) else none
  | .inr (.inr (some v)) :: .inr (.inr (some (some o))) :: r => if (gp_sh h o).1 = c ∧ k = 2 then gp_next (pc + 3) ls r (gp_wR h o f v) else none
  | _ => none
/-- a call: y its number, n how many values, m its locals, c the class of 'this' (0: none is asked; else the class' number + 1) -/
def gp_call (y n m c : Nat) (ls st : List gV) (h : gH) : gRes :=
  if n ≤ st.length ∧ (gp_lay (st.take n).reverse).length ≤ m ∧ gp_cat (st.drop n) ≤ 8 then (match c with
    | 0 => some (.inr (.inl (y, gp_loc m (st.take n).reverse, st.drop n)))
    | c + 1 => (match (st.take n).reverse with
      | .inr (.inr (some (some o))) :: _ => if (gp_sh h o).1 = c then some (.inr (.inl (y, gp_loc m (st.take n).reverse, st.drop n))) else none
      | _ => none)) else none
def gp_acp (pc : Nat) (ls st : List gV) (h : gH) : gRes := match st with
  | .inl n :: .inl q :: .inr (.inr (some (some b))) :: .inl p :: .inr (.inr (some (some a))) :: r =>
    if gp_cat r ≤ 8 ∧ (gp_sh h a).1 = 100 ∧ (gp_sh h b).1 = 100 ∧ 0 ≤ n ∧ 0 ≤ p ∧ 0 ≤ q ∧ p + n ≤ ((gp_sh h a).2 : Int) ∧ q + n ≤ ((gp_sh h b).2 : Int) then
      gp_next (pc + 3) ls r (h.1, h.2.1, h.2.2.1, gp_ur h.2.2.2.1 b (gp_cp h.2.2.2.1 a p.toNat b q.toNat n.toNat), h.2.2.2.2.1, h.2.2.2.2.2) else none
  | _ => none
def gp_mx (x y : Int) : Int := if x < y then y else x
def gp_mi (x y : Int) : Int := if y < x then y else x
def gp_ab (x : Int) : Int := if 0 ≤ x then x else gp_wr (-x)
def gp_mth (f : Int → Int → Int) (pc : Nat) (ls st : List gV) (h : gH) : gRes := match st with
  | .inl y :: .inl x :: r => if gp_cat r ≤ 8 then gp_next (pc + 3) ls (gp_i (f x y) :: r) h else none
  | _ => none
/-- new int[n][k] -/
def gp_mna (h : gH) (n k : Nat) : gH := (h.1 + (1 + n), h.2.1 + (n + n * k), (fun a => cond (Nat.beq a h.1) (104, n) (cond (Nat.blt h.1 a && Nat.ble a (h.1 + n)) (100, k) (h.2.2.1 a))),
  (fun a i => cond (Nat.ble h.1 a && Nat.ble a (h.1 + n)) 0 (h.2.2.2.1 a i)), (fun a i => cond (Nat.ble h.1 a && Nat.ble a (h.1 + n)) 0#64 (h.2.2.2.2.1 a i)),
  (fun a i => cond (Nat.beq a h.1) (cond (Nat.blt i n) (some (h.1 + 1 + i)) none) (cond (Nat.blt h.1 a && Nat.ble a (h.1 + n)) none (h.2.2.2.2.2 a i))))
def gp_exec (c : Nat) (z : Bool) (ins : Instr) (len pc : Nat) (ls st : List gV) (h : gH) : gRes := match ins with
  | .aload_n n => gp_loadA n.val len pc ls st h
  | .iload_n n => gp_loadI n.val len pc ls st h
  | .lload_n n => gp_loadL n.val len pc ls st h
  | .aload n => gp_loadA n len pc ls st h
  | .iload n => gp_loadI n len pc ls st h
  | .lload n => gp_loadL n len pc ls st h
  | .astore_n n => gp_storeA n.val len pc ls st h
  | .istore_n n => gp_storeI n.val len pc ls st h
  | .lstore_n n => gp_storeL n.val len pc ls st h
  | .astore n => gp_storeA n len pc ls st h
  | .istore n => gp_storeI n len pc ls st h
  | .lstore n => gp_storeL n len pc ls st h
  | .iinc i k => (match ls.getD i gp_n with
    | .inl v => cond (gp_oks ls i) (gp_next (pc + len) (ls.set i (gp_i (gp_wr (v + k)))) st h) none
    | _ => none)
  | .iconst k => cond (decide (-32768 ≤ k) && decide (k < 32768)) (gp_next (pc + 1) ls (gp_i k :: st) h) none
  | .bipush k => cond (decide (-128 ≤ k) && decide (k < 128)) (gp_next (pc + 2) ls (gp_i k :: st) h) none
  | .sipush k => cond (decide (-32768 ≤ k) && decide (k < 32768)) (gp_next (pc + 3) ls (gp_i k :: st) h) none
  | .lconst k => gp_next (pc + 1) ls (gp_l (BitVec.ofNat 64 k.val) :: st) h
  | .aconst_null => gp_next (pc + 1) ls (gp_r none :: st) h
  | .ldc i => (match gp_lkK c i with
    | some v => gp_next (pc + 2) ls (gp_i v :: st) h
    | none => none)
  | .ldc_w i => (match gp_lkK c i with
    | some v => gp_next (pc + 3) ls (gp_i v :: st) h
    | none => none)
  | .ldc2_w i => (match gp_lkJ c i with
    | some v => gp_next (pc + 3) ls (gp_l (BitVec.ofInt 64 v) :: st) h
    | none => none)
  | .iadd => gp_bin (fun x y => gp_wr (x + y)) pc ls st h
  | .isub => gp_bin (fun x y => gp_wr (x - y)) pc ls st h
  | .imul => gp_bin (fun x y => gp_wr (x * y)) pc ls st h
  | .iand => gp_bin gp_and pc ls st h
  | .ior => gp_bin gp_or pc ls st h
  | .ixor => gp_bin gp_xor pc ls st h
  | .ishl => gp_bin gp_shl pc ls st h
  | .ishr => gp_bin gp_shr pc ls st h
  | .iushr => gp_bin gp_ushr pc ls st h
  | .idiv => (match st with
    | .inl y :: .inl x :: r => if y ≠ 0 then gp_next (pc + 1) ls (gp_i (gp_wr (x.tdiv y)) :: r) h else none
    | _ => none)
  | .irem => (match st with
    | .inl y :: .inl x :: r => if y ≠ 0 then gp_next (pc + 1) ls (gp_i (x.tmod y) :: r) h else none
    | _ => none)
  | .ineg => gp_un (fun x => gp_wr (-x)) pc ls st h
  | .i2b => gp_un gp_b pc ls st h
  | .i2s => gp_un gp_s pc ls st h
  | .i2l => (match st with
    | .inl x :: r => gp_next (pc + 1) ls (gp_l (BitVec.ofInt 64 x) :: r) h
    | _ => none)
  | .l2i => (match st with
    | .inr (.inl x) :: r => gp_next (pc + 1) ls (gp_i (gp_wr x.toInt) :: r) h
    | _ => none)
  | .ladd => gp_binL (fun x y => x + y) pc ls st h
  | .lsub => gp_binL (fun x y => x - y) pc ls st h
  | .land => gp_binL (fun x y => x &&& y) pc ls st h
  | .lor => gp_binL (fun x y => x ||| y) pc ls st h
  | .lxor => gp_binL (fun x y => x ^^^ y) pc ls st h
  | .lneg => (match st with
    | .inr (.inl x) :: r => gp_next (pc + 1) ls (gp_l (-x) :: r) h
    | _ => none)
  | .lshl => gp_shf (fun x n => x <<< n) pc ls st h
  | .lshr => gp_shf (fun x n => x.sshiftRight n) pc ls st h
  | .lushr => gp_shf (fun x n => x >>> n) pc ls st h
  | .lcmp => (match st with
    | .inr (.inl y) :: .inr (.inl x) :: r => gp_next (pc + 1) ls (gp_i (gp_cmp x y) :: r) h
    | _ => none)
  | .dup => (match st with
    | .inl x :: r => gp_next (pc + 1) ls (gp_i x :: gp_i x :: r) h
    | .inr (.inr (some x)) :: r => gp_next (pc + 1) ls (gp_r x :: gp_r x :: r) h
    | _ => none)
  | .dup2 => (match st with
    | .inl x :: .inr (.inr (some y)) :: r => gp_next (pc + 1) ls (gp_i x :: gp_r y :: gp_i x :: gp_r y :: r) h
    | .inr (.inl x) :: r => gp_next (pc + 1) ls (gp_l x :: gp_l x :: r) h
    | _ => none)
  | .pop => (match st with
    | .inl _ :: r => gp_next (pc + 1) ls r h
    | .inr (.inr (some _)) :: r => gp_next (pc + 1) ls r h
    | _ => none)
  | .goto off => gp_jmp pc off ls st h
  | .ifCond k off => (match st with
    | .inl x :: r => gp_br pc off (gp_ic k x 0) ls r h
    | _ => none)
  | .if_icmp k off => (match st with
    | .inl y :: .inl x :: r => gp_br pc off (gp_ic k x y) ls r h
    | _ => none)
  | .if_acmp k off => (match st with
    | .inr (.inr (some y)) :: .inr (.inr (some x)) :: r => (match k with
      | .eq => gp_br pc off (decide (x = y)) ls r h
      | .ne => gp_br pc off (!decide (x = y)) ls r h)
    | _ => none)
  | .ifnonnull off => (match st with
    | .inr (.inr (some x)) :: r => (match x with
      | none => gp_next (pc + 3) ls r h
      | some _ => gp_jmp pc off ls r h)
    | _ => none)
  | .tableswitch d lo hi offs => (match st with
    | .inl x :: r => if x < lo ∨ hi < x then gp_jmp pc d ls r h else (match offs[(x - lo).toNat]? with
      | some o => gp_jmp pc o ls r h
      | none => none)
    | _ => none)
  | .arraylength => (match st with
    | .inr (.inr (some (some o))) :: r => if (100 ≤ (gp_sh h o).1 ∧ (gp_sh h o).1 ≤ 105) ∧ ((gp_sh h o).2 : Int) < 2147483648 then gp_next (pc + 1) ls (gp_i ((gp_sh h o).2 : Int) :: r) h else none
    | _ => none)
  | .iaload => (match st with
    | .inl i :: .inr (.inr (some (some o))) :: r => if (gp_in h 100 o i ∨ gp_in h 105 o i) then gp_next (pc + 1) ls (gp_i (gp_I h o i.toNat) :: r) h else none
    | _ => none)
  | .baload => (match st with
    | .inl i :: .inr (.inr (some (some o))) :: r => if gp_in h 102 o i then gp_next (pc + 1) ls (gp_i (gp_I h o i.toNat) :: r) h else none
    | _ => none)
  | .laload => (match st with
    | .inl i :: .inr (.inr (some (some o))) :: r => if gp_in h 101 o i then gp_next (pc + 1) ls (gp_l (gp_L h o i.toNat) :: r) h else none
    | _ => none)
  | .aaload => (match st with
    | .inl i :: .inr (.inr (some (some o))) :: r => if (gp_in h 103 o i ∨ gp_in h 104 o i) then gp_next (pc + 1) ls (gp_r (gp_R h o i.toNat) :: r) h else none
    | _ => none)
  | .iastore => (match st with
    | .inl v :: .inl i :: .inr (.inr (some (some o))) :: r => if gp_in h 100 o i then gp_next (pc + 1) ls r (gp_wI h o i.toNat v) else none
    | _ => none)
  | .bastore => (match st with
    | .inl v :: .inl i :: .inr (.inr (some (some o))) :: r => if gp_in h 102 o i then gp_next (pc + 1) ls r (gp_wI h o i.toNat (gp_b v)) else none
    | _ => none)
  | .lastore => (match st with
    | .inr (.inl v) :: .inl i :: .inr (.inr (some (some o))) :: r => if gp_in h 101 o i then gp_next (pc + 1) ls r (gp_wL h o i.toNat v) else none
    | _ => none)
  | .aastore => (match st with
    | .inr (.inr (some (some v))) :: .inl i :: .inr (.inr (some (some o))) :: r => if gp_in h 103 o i ∧ (gp_sh h v).1 = 9 then gp_next (pc + 1) ls r (gp_wR h o i.toNat (some v)) else none
    | _ => none)
  | .getfield i => (match gp_lkF c i with
    | some (k, q, f) => gp_getf k q f pc ls st h
    | none => none)
  | .putfield i => (match gp_lkF c i with
    | some (k, q, f) => gp_putf k q f pc ls st h
    | none => none)
  | .new i => (match gp_lkC c i with
    | some (q, n) => gp_next (pc + 3) ls (gp_r (some h.1) :: st) (gp_new h q n)
    | none => none)
  | .newarray t => (match st with
    | .inl n :: r => if 0 ≤ n ∧ n ≤ 1000000 then (match t with
        | .int => gp_next (pc + 2) ls (gp_r (some h.1) :: r) (gp_new h 100 n.toNat)
        | .long => gp_next (pc + 2) ls (gp_r (some h.1) :: r) (gp_new h 101 n.toNat)
        | .byte => gp_next (pc + 2) ls (gp_r (some h.1) :: r) (gp_new h 102 n.toNat)
        | _ => none) else none
    | _ => none)
  | .anewarray i => (match gp_lkC c i with
    | some (q, _) => (match st with
      | .inl n :: r => if 0 ≤ n ∧ n ≤ 1000000 ∧ q = 9 then gp_next (pc + 3) ls (gp_r (some h.1) :: r) (gp_new h 103 n.toNat) else none
      | _ => none)
    | none => none)
  | .multianewarray _ 2 => (match st with
    | .inl k :: .inl n :: r => if 0 ≤ n ∧ n ≤ 1000 ∧ 0 ≤ k ∧ k ≤ 1000 then gp_next (pc + 4) ls (gp_r (some h.1) :: r) (gp_mna h n.toNat k.toNat) else none
    | _ => none)
  | .invokevirtual i => (match gp_lkM c i with
    | some (y, n, m, q) => gp_call y n m q ls st h
    | none => none)
  | .invokestatic i => (match gp_lkM c i with
    | some (y, n, m, q) => (match q with
      | 99 => gp_acp pc ls st h
      | 95 => gp_mth gp_mx pc ls st h
      | 96 => gp_mth gp_mi pc ls st h
      | 97 => (match st with
        | .inl x :: r => if gp_cat r ≤ 8 then gp_next (pc + 3) ls (gp_i (gp_ab x) :: r) h else none
        | _ => none)
      | 0 => gp_call y n m 0 ls st h
      | _ => none)
    | none => none)
  | .invokespecial i => (match gp_lkM c i with
    | some (y, n, m, q) => (match q with
      | 98 => (match st with
        | .inr (.inr (some (some _))) :: r => if gp_cat r ≤ 8 then gp_next (pc + 3) ls r h else none
        | _ => none)
      | 0 => (match (st.take n).reverse with
        | .inr (.inr (some (some _))) :: _ => gp_call y n m 0 ls st h
        | _ => none)
      | _ => none)
    | none => none)
  | .ireturn => (match st with
    | [.inl v] => cond z (if v = 0 ∨ v = 1 then some (.inr (.inr (some (gp_i v)))) else none) (some (.inr (.inr (some (gp_i v)))))
    | _ => none)
  | .lreturn => (match st with
    | [.inr (.inl v)] => some (.inr (.inr (some (gp_l v))))
    | _ => none)
  | .areturn => (match st with
    | [.inr (.inr (some v))] => some (.inr (.inr (some (gp_r v))))
    | _ => none)
  | .return_ => (match st with
    | [] => some (.inr (.inr none))
    | _ => none)
  | _ => none
def gp_step (y pc : Nat) (ls st : List gV) (h : gH) : gRes := match gp_code y pc with
  | some (ins, len) => gp_exec (y / 256) (gp_z y) ins len pc ls st h
  | none => none
def gp_run : Nat → Nat → Nat → Nat → List gV → List gV → gH → Option (Option gV × gH)
  | 0, _, _, _, _, _, _ => none
  | n + 1, d, y, pc, ls, st, h => match gp_step y pc ls st h with
    | none => none
    | some (.inl (pc', ls', st', h')) => gp_run n d y pc' ls' st' h'
    | some (.inr (.inr r)) => some (r, h)
    | some (.inr (.inl (y', l0, st'))) => (match d with
      | 0 => none
      | d' + 1 => (match gp_run n d' y' 0 l0 [] h with
        | none => none
        | some (r, h') => gp_run n (d' + 1) y (pc + 3) ls (r.toList ++ st') h'))
section
theorem gp_mono : ∀ (n d y pc : Nat) (ls st : List gV) (h : gH) (x : Option gV × gH), gp_run n d y pc ls st h = some x → gp_run (n + 1) d y pc ls st h = some x := by
  intro n
  induction n with
  | zero => intro d y pc ls st h x e; simp [gp_run] at e
  | succ n ih =>
    intro d y pc ls st h x e
    rw [gp_run] at e ⊢
    revert e
    cases gp_step y pc ls st h with
    | none => intro e; exact e
    | some q =>
      rcases q with ⟨pc', ls', st', h'⟩ | ⟨y', l0, st'⟩ | r
      · intro e; exact ih _ _ _ _ _ _ _ e
      · cases d with
        | zero => intro e; exact e
        | succ d =>
          simp only
          intro e
          cases e1 : gp_run n d y' 0 l0 [] h with
          | none => rw [e1] at e; cases e
          | some z =>
            obtain ⟨r, h'⟩ := z
            rw [e1] at e
            rw [ih _ _ _ _ _ _ _ e1]
            exact ih _ _ _ _ _ _ _ e
      · intro e; exact e
theorem gp_mono_le {n m d y pc : Nat} {ls st : List gV} {h : gH} {x : Option gV × gH} (hm : n ≤ m) (e : gp_run n d y pc ls st h = some x) : gp_run m d y pc ls st h = some x := by
  obtain ⟨k, rfl⟩ := Nat.le.dest hm
  clear hm
  induction k with
  | zero => exact e
  | succ k ih => exact gp_mono _ _ _ _ _ _ _ _ ih
/-- from here the method ends, with Q of its answer and of the heap -/
def gp_E (d y pc : Nat) (ls st : List gV) (h : gH) (Q : Option gV → gH → Prop) : Prop := ∃ (n : Nat) (r : Option gV) (h' : gH), gp_run n d y pc ls st h = some (r, h') ∧ Q r h'
theorem gp_E.mono {d y pc : Nat} {ls st : List gV} {h : gH} {Q Q' : Option gV → gH → Prop} (k : gp_E d y pc ls st h Q) (hq : ∀ r h', Q r h' → Q' r h') : gp_E d y pc ls st h Q' := by
  obtain ⟨n, r, h', e, q⟩ := k
  exact ⟨n, r, h', e, hq r h' q⟩
theorem gp_E.next {d y pc : Nat} {ls st : List gV} {h : gH} {Q : Option gV → gH → Prop} {pc' : Nat} {ls' st' : List gV} {h' : gH} (hs : gp_step y pc ls st h = gp_next pc' ls' st' h') (k : gp_E d y pc' ls' st' h' Q) : gp_E d y pc ls st h Q := by
  obtain ⟨n, r, h2, e, q⟩ := k
  exact ⟨n + 1, r, h2, by rw [gp_run, hs]; exact e, q⟩
theorem gp_E.ret {d y pc : Nat} {ls st : List gV} {h : gH} {Q : Option gV → gH → Prop} {r : Option gV} (hs : gp_step y pc ls st h = some (.inr (.inr r))) (k : Q r h) : gp_E d y pc ls st h Q :=
  ⟨1, r, h, by rw [gp_run, hs], k⟩
theorem gp_E.call {d y pc : Nat} {ls st : List gV} {h : gH} {Q : Option gV → gH → Prop} {y' : Nat} {l0 st' : List gV} (hs : gp_step y pc ls st h = some (.inr (.inl (y', l0, st'))))
    (k : gp_E d y' 0 l0 [] h (fun r h' => gp_E (d + 1) y (pc + 3) ls (r.toList ++ st') h' Q)) : gp_E (d + 1) y pc ls st h Q := by
  obtain ⟨n, r, h2, e, n2, r2, h3, e2, q⟩ := k
  refine ⟨n + n2 + 1, r2, h3, ?_, q⟩
  rw [gp_run, hs]
  simp only
  rw [gp_mono_le (Nat.le_add_right n n2) e]
  exact gp_mono_le (Nat.le_add_left n2 n) e2
/-- n steps within the method -/
def gp_stp : Nat → Nat → Nat → List gV → List gV → gH → Option gFr
  | 0, _, pc, ls, st, h => some (pc, ls, st, h)
  | n + 1, y, pc, ls, st, h => match gp_step y pc ls st h with
    | some (.inl (pc', ls', st', h')) => gp_stp n y pc' ls' st' h'
    | _ => none
theorem gp_E.stp {d y : Nat} {Q : Option gV → gH → Prop} : ∀ (n : Nat) {pc : Nat} {ls st : List gV} {h : gH} {pc' : Nat} {ls' st' : List gV} {h' : gH} (_ : gp_stp n y pc ls st h = some (pc', ls', st', h')) (_ : gp_E d y pc' ls' st' h' Q), gp_E d y pc ls st h Q
  | 0, pc, ls, st, h, pc', ls', st', h', hs, k => by cases hs; exact k
  | n + 1, pc, ls, st, h, pc', ls', st', h', hs, k => by
    rw [gp_stp] at hs
    revert hs
    cases e : gp_step y pc ls st h with
    | none => intro hs; cases hs
    | some q =>
      rcases q with ⟨pc2, ls2, st2, h2⟩ | q
      · intro hs; exact gp_E.next e (gp_E.stp n hs k)
      · intro hs; cases hs
theorem gp_E.br {d y pc : Nat} {ls st : List gV} {h : gH} {Q : Option gV → gH → Prop} {b : Bool} {p1 p2 : Nat} {l1 l2 s1 s2 : List gV} {h1 h2 : gH} (hs : gp_step y pc ls st h = cond b (gp_next p1 l1 s1 h1) (gp_next p2 l2 s2 h2))
    (k1 : b = true → gp_E d y p1 l1 s1 h1 Q) (k2 : b = false → gp_E d y p2 l2 s2 h2 Q) : gp_E d y pc ls st h Q := by
  cases b with
  | true => exact gp_E.next hs (k1 rfl)
  | false => exact gp_E.next hs (k2 rfl)
theorem gp_E.ck {d y pc : Nat} {ls st : List gV} {h : gH} {Q : Option gV → gH → Prop} {C : Prop} [Decidable C] {pc' : Nat} {ls' st' : List gV} {h' : gH} (hs : gp_step y pc ls st h = if C then gp_next pc' ls' st' h' else none) (hc : C) (k : gp_E d y pc' ls' st' h' Q) : gp_E d y pc ls st h Q :=
  gp_E.next (hs.trans (if_pos hc)) k
end

/-! an instruction of the pure machine, and its runs -/
def pm_g (pc : Nat) (off : Int) (ls : List (Option Value)) (st : List Value) (h : pm_H) : Option pm_Q := if 0 ≤ (pc : Int) + off then pm_n (pm_j pc off) ls st h else none
def pm_ld (ls : List (Option Value)) (k pc : Nat) (st : List Value) (h : pm_H) : Option pm_Q := match ls[k]? with
  | some (some (.int x)) => pm_n pc ls (.int x :: st) h
  | _ => none
def pm_ldL (ls : List (Option Value)) (k pc : Nat) (st : List Value) (h : pm_H) : Option pm_Q := match ls[k]? with
  | some (some (.long x)) => pm_n pc ls (.long x :: st) h
  | _ => none
def pm_ldA (ls : List (Option Value)) (k pc : Nat) (st : List Value) (h : pm_H) : Option pm_Q := match ls[k]? with
  | some (some (.ref x)) => pm_n pc ls (.ref x :: st) h
  | _ => none
def pm_st (ls : List (Option Value)) (k pc : Nat) (st : List Value) (h : pm_H) : Option pm_Q := match st with
  | .int x :: r => if k < ls.length then pm_n pc (pm_sto ls k (.int x)) r h else none
  | _ => none
def pm_stA (ls : List (Option Value)) (k pc : Nat) (st : List Value) (h : pm_H) : Option pm_Q := match st with
  | .ref x :: r => if k < ls.length then pm_n pc (pm_sto ls k (.ref x)) r h else none
  | _ => none
def pm_stJ (ls : List (Option Value)) (k pc : Nat) (st : List Value) (h : pm_H) : Option pm_Q := match st with
  | .long x :: r => if k + 1 < ls.length then pm_n pc (pm_stoL ls k (.long x)) r h else none
  | _ => none
def pm_i1 (f : Int32 → Value) (pc : Nat) (ls : List (Option Value)) (st : List Value) (h : pm_H) : Option pm_Q := match st with
  | .int x :: r => pm_n (pc + 1) ls (f x :: r) h
  | _ => none
def pm_i2 (f : Int32 → Int32 → Int32) (pc : Nat) (ls : List (Option Value)) (st : List Value) (h : pm_H) : Option pm_Q := match st with
  | .int y :: .int x :: r => pm_n (pc + 1) ls (.int (f x y) :: r) h
  | _ => none
def pm_d2 (f : Int32 → Int32 → Int32) (pc : Nat) (ls : List (Option Value)) (st : List Value) (h : pm_H) : Option pm_Q := match st with
  | .int y :: .int x :: r => if y = 0 then none else pm_n (pc + 1) ls (.int (f x y) :: r) h
  | _ => none
def pm_l2 (f : Int64 → Int64 → Value) (pc : Nat) (ls : List (Option Value)) (st : List Value) (h : pm_H) : Option pm_Q := match st with
  | .long y :: .long x :: r => pm_n (pc + 1) ls (f x y :: r) h
  | _ => none
def pm_e2 (f : Int64 → Int64 → Int64) (pc : Nat) (ls : List (Option Value)) (st : List Value) (h : pm_H) : Option pm_Q := match st with
  | .long y :: .long x :: r => if y = 0 then none else pm_n (pc + 1) ls (.long (f x y) :: r) h
  | _ => none
def pm_cz (c : ClassFile.Cond) (off : Int) (pc : Nat) (ls : List (Option Value)) (st : List Value) (h : pm_H) : Option pm_Q := match st with
  | .int x :: r => if 0 ≤ (pc : Int) + off then (match c with
    | .eq => if x = 0 then pm_n (pm_j pc off) ls r h else pm_n (pc + 3) ls r h
    | .ne => if ¬ x = 0 then pm_n (pm_j pc off) ls r h else pm_n (pc + 3) ls r h
    | .lt => if x < 0 then pm_n (pm_j pc off) ls r h else pm_n (pc + 3) ls r h
    | .ge => if 0 ≤ x then pm_n (pm_j pc off) ls r h else pm_n (pc + 3) ls r h
    | .gt => if 0 < x then pm_n (pm_j pc off) ls r h else pm_n (pc + 3) ls r h
    | .le => if x ≤ 0 then pm_n (pm_j pc off) ls r h else pm_n (pc + 3) ls r h) else none
  | _ => none
def pm_cm (c : ClassFile.Cond) (off : Int) (pc : Nat) (ls : List (Option Value)) (st : List Value) (h : pm_H) : Option pm_Q := match st with
  | .int y :: .int x :: r => if 0 ≤ (pc : Int) + off then (match c with
    | .eq => if x = y then pm_n (pm_j pc off) ls r h else pm_n (pc + 3) ls r h
    | .ne => if ¬ x = y then pm_n (pm_j pc off) ls r h else pm_n (pc + 3) ls r h
    | .lt => if x < y then pm_n (pm_j pc off) ls r h else pm_n (pc + 3) ls r h
    | .ge => if y ≤ x then pm_n (pm_j pc off) ls r h else pm_n (pc + 3) ls r h
    | .gt => if y < x then pm_n (pm_j pc off) ls r h else pm_n (pc + 3) ls r h
    | .le => if x ≤ y then pm_n (pm_j pc off) ls r h else pm_n (pc + 3) ls r h) else none
  | _ => none
def pm_ts (d lo hi : Int) (offs : Array Int) (pc : Nat) (ls : List (Option Value)) (st : List Value) (h : pm_H) : Option pm_Q := match st with
  | .int x :: r => if x.toInt < lo ∨ hi < x.toInt then pm_g pc d ls r h else match offs[(x.toInt - lo).toNat]? with
    | some o => pm_g pc o ls r h
    | none => none
  | _ => none
def pm_lk (d : Int) (ps : Array (Int × Int)) (pc : Nat) (ls : List (Option Value)) (st : List Value) (h : pm_H) : Option pm_Q := match st with
  | .int x :: r => pm_g pc (Op.lookupswitch.offset ps.toList d x.toInt) ls r h
  | _ => none
def pm_gf (ci k pc : Nat) (ls : List (Option Value)) (st : List Value) (h : pm_H) : Option pm_Q := match st with
  | .ref a :: r => if ci = 20 then (match pm_txt a with
      | some _ => pm_n (pc + 3) ls ((if k = 0 then Value.ref (a + 20) else .int 0) :: r) h
      | none => none)
    else if pm_ft ci k = 2 then (match pm_rg h.1 a ci k with
      | some v => pm_n (pc + 3) ls (v :: r) h
      | none => none)
    else if pm_isO h.1 a ci = true then pm_n (pc + 3) ls (.int (h.2.1 a k) :: r) h else none
  | _ => none
def pm_pf (ci k pc : Nat) (ls : List (Option Value)) (st : List Value) (h : pm_H) : Option pm_Q := match st with
  | .int x :: .ref a :: r => if pm_isO h.1 a ci = true ∧ (pm_ft ci k = 0 ∨ (pm_ft ci k = 1 ∧ (x = 0 ∨ x = 1))) then pm_n (pc + 3) ls r (h.1, pm_w h.2.1 a k x, h.2.2) else none
  | .ref b :: .ref a :: r => if pm_isO h.1 a ci = true ∧ pm_ft ci k = 2 then (match h.1[a]? with
      | some (t, c, rs) => if k < rs.length then pm_n (pc + 3) ls r (h.1.set a (t, c, rs.set k (some b)), h.2) else none
      | none => none) else none
  | _ => none
def pm_nw (t n : Nat) (rs : List (Option Nat)) (pc : Nat) (ls : List (Option Value)) (st : List Value) (h : pm_H) : Option pm_Q :=
  if (pm_wfs h.1.length ls st && pm_wfh h.1.length h.1 && h.1.length < 1000000) = true then pm_n pc ls (.ref h.1.length :: st) (h.1 ++ [(t, n, rs)], pm_up h.2.1 h.1.length (fun _ => 0), pm_upJ h.2.2 h.1.length (fun _ => 0)) else none
def pm_at4 (t : ArrayType) : Option Nat := match t with
  | .int => some 1
  | .byte => some 2
  | .boolean => some 3
  | .long => some 4
  | _ => none
def pm_na (t : ArrayType) (pc : Nat) (ls : List (Option Value)) (st : List Value) (h : pm_H) : Option pm_Q := match st with
  | .int n :: r => match pm_at4 t with
    | some k => if n < 0 ∨ 10000 < n.toNatClampNeg then none else pm_nw k n.toNatClampNeg [] (pc + 2) ls r h
    | none => none
  | _ => none
def pm_nq (k pc : Nat) (ls : List (Option Value)) (st : List Value) (h : pm_H) : Option pm_Q := match st with
  | .int n :: r => if n < 0 ∨ 10000 < n.toNatClampNeg then none else pm_nw k n.toNatClampNeg (List.replicate n.toNatClampNeg none) (pc + 3) ls r h
  | _ => none
def pm_smc (st : List Value) : Nat := (st.map fun v => v.category).sum
def pm_inv (mj k pc : Nat) (st : List Value) : Option pm_Q := if k ≤ st.length ∧ pm_smc (st.drop k) ≤ 8 ∧ (pm_args (st.take k).reverse).length ≤ pm_ml mj then some (.inr (.inr (mj, (st.take k).reverse, st.drop k))) else none
def pm_rcv (S : List pm_S) (ci : Nat) (v : Option Value) : Bool := match v with
  | some (.ref b) => if ci = 20 then (pm_txt b).isSome else pm_isO S b ci
  | _ => false
def pm_iv (r : Nat × Nat × Nat) (pc : Nat) (d : Nat) (ls : List (Option Value)) (st : List Value) (h : pm_H) : Option pm_Q := match r.1 with
  | 0 => if pm_rcv h.1 (pm_ci r.2.1) st[pm_na0 r.2.1]? = true then pm_inv r.2.1 (pm_na0 r.2.1 + 1) pc st else none
  | _ => none
def pm_cp (pc d : Nat) (ls : List (Option Value)) (st : List Value) (h : pm_H) : Option pm_Q := match st with
  | .int n :: .int dp :: .ref b :: .int sp :: .ref a :: rest => if 2 ≤ d ∧ pm_smc rest ≤ 8 then (
      if pm_cpo h.1 1 a sp b dp n = true then pm_n (pc + 3) ls rest (h.1, pm_up h.2.1 b (va_cpy (h.2.1 a) (h.2.1 b) sp.toNatClampNeg dp.toNatClampNeg n.toNatClampNeg), h.2.2)
      else if pm_cpo h.1 4 a sp b dp n = true then pm_n (pc + 3) ls rest (h.1, h.2.1, pm_upJ h.2.2 b (va_cpy (h.2.2 a) (h.2.2 b) sp.toNatClampNeg dp.toNatClampNeg n.toNatClampNeg)) else none) else none
  | _ => none
def pm_is (r : Nat × Nat × Nat) (pc : Nat) (d : Nat) (ls : List (Option Value)) (st : List Value) (h : pm_H) : Option pm_Q := match r.1 with
  | 0 => pm_inv r.2.1 (pm_na0 r.2.1) pc st
  | 4 => match st with
    | .int y :: .int x :: rest => if 2 ≤ d ∧ pm_smc rest ≤ 8 then pm_n (pc + 3) ls (.int (if x < y then y else x) :: rest) h else none
    | _ => none
  | 5 => match st with
    | .int y :: .int x :: rest => if 2 ≤ d ∧ pm_smc rest ≤ 8 then pm_n (pc + 3) ls (.int (if y < x then y else x) :: rest) h else none
    | _ => none
  | 6 => match st with
    | .int x :: rest => if 2 ≤ d ∧ pm_smc rest ≤ 8 then pm_n (pc + 3) ls (.int (if 0 ≤ x then x else 0 - x) :: rest) h else none
    | _ => none
  | 7 => pm_cp pc d ls st h
  | _ => none
def pm_ip (r : Nat × Nat × Nat) (pc : Nat) (d : Nat) (ls : List (Option Value)) (st : List Value) (h : pm_H) : Option pm_Q := match r.1 with
  | 0 => match st[pm_na0 r.2.1]? with
    | some (.ref _) => pm_inv r.2.1 (pm_na0 r.2.1 + 1) pc st
    | _ => none
  | 8 => match st with
    | [.ref _] => if 2 ≤ d then pm_n (pc + 3) ls [] h else none
    | _ => none
  | _ => none
def pm_ret (m : Nat) (st : List Value) (h : pm_H) : Option pm_Q := match st with
  | [.int v] => if pm_rk m = 1 ∨ (pm_rk m = 2 ∧ (v = 0 ∨ v = 1)) ∨ (pm_rk m = 5 ∧ v = (v.toUInt32 % 65536).toInt32) then some (.inr (.inl (some (.int v), h))) else none
  | _ => none
def pm_retL (m : Nat) (st : List Value) (h : pm_H) : Option pm_Q := match st with
  | [.long v] => if pm_rk m = 3 then some (.inr (.inl (some (.long v), h))) else none
  | _ => none
def pm_retA (m : Nat) (st : List Value) (h : pm_H) : Option pm_Q := match st with
  | [.ref v] => if pm_rk m = 4 then some (.inr (.inl (some (.ref v), h))) else none
  | _ => none
def pm_retV (m : Nat) (st : List Value) (h : pm_H) : Option pm_Q := match st with
  | [] => if pm_rk m = 0 then some (.inr (.inl (none, h))) else none
  | _ => none
def pm_do (X : pm_X) (d m : Nat) (i : Instr) (r : Nat × Nat × Nat) (pc : Nat) (ls : List (Option Value)) (st : List Value) (h : pm_H) : Option pm_Q :=
  match i with
  | .iconst n => pm_n (pc + 1) ls (.int (Int32.ofInt n) :: st) h
  | .bipush n => pm_n (pc + 2) ls (.int (Int8.ofInt n).toInt32 :: st) h
  | .sipush n => pm_n (pc + 3) ls (.int (Int16.ofInt n).toInt32 :: st) h
  | .lconst n => pm_n (pc + 1) ls (.long (Int64.ofNat (n : Nat)) :: st) h
  | .ldc _ => if r.1 = 0 then pm_n (pc + 2) ls (.int (Int32.ofNat r.2.1) :: st) h else pm_n (pc + 2) ls (.ref (1000010 + r.2.1) :: st) h
  | .ldc_w _ => pm_n (pc + 3) ls (.int (Int32.ofNat r.2.1) :: st) h
  | .ldc2_w _ => pm_n (pc + 3) ls (.long (Int64.ofNat r.2.1) :: st) h
  | .iload k => pm_ld ls k (pc + 2) st h
  | .iload_n k => pm_ld ls k (pc + 1) st h
  | .lload k => pm_ldL ls k (pc + 2) st h
  | .lload_n k => pm_ldL ls k (pc + 1) st h
  | .aload k => pm_ldA ls k (pc + 2) st h
  | .aload_n k => pm_ldA ls k (pc + 1) st h
  | .istore k => pm_st ls k (pc + 2) st h
  | .istore_n k => pm_st ls k (pc + 1) st h
  | .lstore k => pm_stJ ls k (pc + 2) st h
  | .lstore_n k => pm_stJ ls k (pc + 1) st h
  | .astore k => pm_stA ls k (pc + 2) st h
  | .astore_n k => pm_stA ls k (pc + 1) st h
  | .iinc k n => match ls[k]? with
    | some (some (.int x)) => pm_n (pc + 3) (pm_sto ls k (.int (x + Int32.ofInt n))) st h
    | _ => none
  | .iadd => pm_i2 (fun x y => x + y) pc ls st h
  | .isub => pm_i2 (fun x y => x - y) pc ls st h
  | .imul => pm_i2 (fun x y => x * y) pc ls st h
  | .iand => pm_i2 (fun x y => x &&& y) pc ls st h
  | .ior => pm_i2 (fun x y => x ||| y) pc ls st h
  | .ixor => pm_i2 (fun x y => x ^^^ y) pc ls st h
  | .ishl => pm_i2 (fun x y => x <<< (y &&& 31)) pc ls st h
  | .ishr => pm_i2 (fun x y => x >>> (y &&& 31)) pc ls st h
  | .iushr => pm_i2 (fun x y => (x.toUInt32 >>> (y.toUInt32 &&& Int32.toUInt32 31)).toInt32) pc ls st h
  | .idiv => pm_d2 (fun x y => x / y) pc ls st h
  | .irem => pm_d2 (fun x y => x - x / y * y) pc ls st h
  | .ineg => pm_i1 (fun x => .int (-x)) pc ls st h
  | .i2l => pm_i1 (fun x => .long x.toInt64) pc ls st h
  | .i2b => pm_i1 (fun x => .int x.toInt8.toInt32) pc ls st h
  | .i2s => pm_i1 (fun x => .int x.toInt16.toInt32) pc ls st h
  | .i2c => pm_i1 (fun x => .int (x.toUInt32 % 65536).toInt32) pc ls st h
  | .l2i => match st with
    | .long x :: r => pm_n (pc + 1) ls (.int x.toInt32 :: r) h
    | _ => none
  | .ladd => pm_l2 (fun x y => .long (x + y)) pc ls st h
  | .lmul => pm_l2 (fun x y => .long (x * y)) pc ls st h
  | .land => pm_l2 (fun x y => .long (x &&& y)) pc ls st h
  | .lor => pm_l2 (fun x y => .long (x ||| y)) pc ls st h
  | .lcmp => pm_l2 (fun x y => .int (lg_cmp x y)) pc ls st h
  | .ldiv => pm_e2 (fun x y => x / y) pc ls st h
  | .lrem => pm_e2 (fun x y => x - x / y * y) pc ls st h
  | .lshl => match st with
    | .int y :: .long x :: r => pm_n (pc + 1) ls (.long (x <<< (y.toInt64 &&& 63)) :: r) h
    | _ => none
  | .dup => match st with
    | v :: r => if v.category = 1 then pm_n (pc + 1) ls (v :: v :: r) h else none
    | _ => none
  | .dup2 => match st with
    | v :: w :: r => if v.category = 1 ∧ w.category = 1 then pm_n (pc + 1) ls (v :: w :: v :: w :: r) h else none
    | _ => none
  | .pop => match st with
    | v :: r => if v.category = 1 then pm_n (pc + 1) ls r h else none
    | _ => none
  | .goto o => pm_g pc o ls st h
  | .ifCond c o => pm_cz c o pc ls st h
  | .if_icmp c o => pm_cm c o pc ls st h
  | .tableswitch dd lo hi offs => pm_ts dd lo hi offs pc ls st h
  | .lookupswitch dd ps => pm_lk dd ps pc ls st h
  | .getfield _ => pm_gf r.1 r.2.1 pc ls st h
  | .putfield _ => pm_pf r.1 r.2.1 pc ls st h
  | .getstatic _ => pm_n (pc + 3) ls (pm_gs X r.1 :: st) h
  | .new _ => pm_nw 0 r.1 (List.replicate (pm_nf r.1) none) (pc + 3) ls st h
  | .newarray t => pm_na t pc ls st h
  | .anewarray _ => pm_nq r.1 pc ls st h
  | .arraylength => match st with
    | .ref a :: rest => match pm_len X h.1 a with
      | some v => pm_n (pc + 1) ls (.int v :: rest) h
      | none => none
    | _ => none
  | .iaload => match st with
    | .int i :: .ref a :: rest => match pm_ia X h.1 h.2.1 a i with
      | some v => pm_n (pc + 1) ls (.int v :: rest) h
      | none => none
    | _ => none
  | .baload => match st with
    | .int i :: .ref a :: rest => match pm_ba h.1 h.2.1 a i with
      | some v => pm_n (pc + 1) ls (.int v :: rest) h
      | none => none
    | _ => none
  | .laload => match st with
    | .int i :: .ref a :: rest => match pm_la h.1 h.2.2 a i with
      | some v => pm_n (pc + 1) ls (.long v :: rest) h
      | none => none
    | _ => none
  | .aaload => match st with
    | .int i :: .ref a :: rest => match pm_aa h.1 a i with
      | some v => pm_n (pc + 1) ls (v :: rest) h
      | none => none
    | _ => none
  | .iastore => match st with
    | .int x :: .int i :: .ref a :: rest => if pm_okw h.1 1 a i = true then pm_n (pc + 1) ls rest (h.1, pm_w h.2.1 a i.toNatClampNeg x, h.2.2) else none
    | _ => none
  | .bastore => match st with
    | .int x :: .int i :: .ref a :: rest => if pm_okw h.1 2 a i = true then pm_n (pc + 1) ls rest (h.1, pm_w h.2.1 a i.toNatClampNeg (vp_nar .byte x), h.2.2)
      else if pm_okw h.1 3 a i = true then pm_n (pc + 1) ls rest (h.1, pm_w h.2.1 a i.toNatClampNeg (vp_nar .boolean x), h.2.2) else none
    | _ => none
  | .lastore => match st with
    | .long x :: .int i :: .ref a :: rest => if pm_okw h.1 4 a i = true then pm_n (pc + 1) ls rest (h.1, h.2.1, pm_wJ h.2.2 a i.toNatClampNeg x) else none
    | _ => none
  | .aastore => match st with
    | .ref b :: .int i :: .ref a :: rest => match h.1[a]? with
      | some (t, n, rs) => if (t == 5 && pm_isO h.1 b 4 || t == 6 && pm_isO h.1 b 3) && !pm_bad i n && i.toNatClampNeg < rs.length then pm_n (pc + 1) ls rest (h.1.set a (t, n, rs.set i.toNatClampNeg (some b)), h.2) else none
      | none => none
    | _ => none
  | .invokevirtual _ => pm_iv r pc d ls st h
  | .invokestatic _ => pm_is r pc d ls st h
  | .invokespecial _ => pm_ip r pc d ls st h
  | .ireturn => pm_ret m st h
  | .lreturn => pm_retL m st h
  | .areturn => pm_retA m st h
  | .return_ => pm_retV m st h
  | _ => none
def pm_step (X : pm_X) (d m : Nat) (s : pm_St) : Option pm_Q := match pm_at m s.1 with
  | some (i, r) => pm_do X d m i r s.1 s.2.1 s.2.2.1 s.2.2.2
  | none => none
def pm_exec (X : pm_X) : Nat → Nat → Nat → pm_St → Option pm_O
  | 0, _, _, _ => none
  | n + 1, d, m, s => match pm_step X d m s with
    | none => none
    | some (.inl s') => pm_exec X n d m s'
    | some (.inr (.inl o)) => some o
    | some (.inr (.inr (mj, args, rest))) => match d with
      | 0 => none
      | d' + 1 => match pm_exec X n d' mj (0, pm_ent (pm_ml mj) args, [], s.2.2.2) with
        | none => none
        | some o => if (pm_okr o.1 && (o.2.1.length == s.2.2.2.1.length || pm_wfs s.2.2.2.1.length s.2.1 rest)) = true then pm_exec X n (d' + 1) m (s.1 + 3, s.2.1, o.1.toList ++ rest, o.2) else none
theorem pm_mono (X : pm_X) : ∀ (n d m : Nat) (s : pm_St) (o : pm_O), pm_exec X n d m s = some o → pm_exec X (n + 1) d m s = some o := by
  intro n
  induction n with
  | zero => intro d m s o h; simp [pm_exec] at h
  | succ n ih =>
    intro d m s o h
    rw [pm_exec] at h ⊢
    cases hs : pm_step X d m s with
    | none => rw [hs] at h; simp at h
    | some q =>
      rw [hs] at h
      rcases q with s' | o' | ⟨mj, args, rest⟩
      · exact ih _ _ _ _ h
      · exact h
      · cases d with
        | zero => exact h
        | succ d =>
          dsimp only at h ⊢
          cases hc : pm_exec X n d mj (0, pm_ent (pm_ml mj) args, [], s.2.2.2) with
          | none => rw [hc] at h; simp at h
          | some o2 =>
            rw [hc] at h
            rw [ih _ _ _ _ hc]
            dsimp only at h ⊢
            split at h
            · rename_i hw
              rw [if_pos hw]
              exact ih _ _ _ _ h
            · simp at h
theorem pm_mono' (X : pm_X) (n k d m : Nat) (s : pm_St) (o : pm_O) (h : pm_exec X n d m s = some o) : pm_exec X (n + k) d m s = some o := by
  induction k with
  | zero => exact h
  | succ k ih => exact pm_mono X (n + k) d m s o ih
theorem pm_det (X : pm_X) (n k d m : Nat) (s : pm_St) (o o' : pm_O) (h : pm_exec X n d m s = some o) (h' : pm_exec X k d m s = some o') : o = o' := by
  have a := pm_mono' X n k d m s o h
  have b := pm_mono' X k n d m s o' h'
  rw [Nat.add_comm] at b
  exact Option.some.inj (a.symm.trans b)
/-- from here on the method comes to an end with Q -/
def pm_V (X : pm_X) (d m pc : Nat) (ls : List (Option Value)) (st : List Value) (h : pm_H) (Q : pm_O → Prop) : Prop := ∃ n o, pm_exec X n d m (pc, ls, st, h) = some o ∧ Q o
/-- a call, made at depth d -/
def pm_cl (X : pm_X) (d mj : Nat) (args : List Value) (h : pm_H) (P : pm_O → Prop) : Prop := ∃ d', d = d' + 1 ∧ pm_V X d' mj 0 (pm_ent (pm_ml mj) args) [] h P
theorem pm_V_step {X : pm_X} {d m pc : Nat} {ls : List (Option Value)} {st : List Value} {h : pm_H} {Q : pm_O → Prop} {s' : pm_St} (hs : pm_step X d m (pc, ls, st, h) = some (.inl s')) : pm_V X d m pc ls st h Q ↔ pm_V X d m s'.1 s'.2.1 s'.2.2.1 s'.2.2.2 Q := by
  constructor
  · rintro ⟨n, o, h1, h2⟩
    cases n with
    | zero => simp [pm_exec] at h1
    | succ n =>
      rw [pm_exec, hs] at h1
      exact ⟨n, o, h1, h2⟩
  · rintro ⟨n, o, h1, h2⟩
    exact ⟨n + 1, o, by rw [pm_exec, hs]; exact h1, h2⟩
theorem pm_V_ret {X : pm_X} {d m pc : Nat} {ls : List (Option Value)} {st : List Value} {h : pm_H} {Q : pm_O → Prop} {o : pm_O} (hs : pm_step X d m (pc, ls, st, h) = some (.inr (.inl o))) : pm_V X d m pc ls st h Q ↔ Q o := by
  constructor
  · rintro ⟨n, o', h1, h2⟩
    cases n with
    | zero => simp [pm_exec] at h1
    | succ n =>
      rw [pm_exec, hs] at h1
      cases h1
      exact h2
  · intro h2
    exact ⟨1, o, by rw [pm_exec, hs], h2⟩
theorem pm_V_none {X : pm_X} {d m pc : Nat} {ls : List (Option Value)} {st : List Value} {h : pm_H} {Q : pm_O → Prop} (hs : pm_step X d m (pc, ls, st, h) = none) : pm_V X d m pc ls st h Q ↔ False := by
  constructor
  · rintro ⟨n, o', h1, h2⟩
    cases n with
    | zero => simp [pm_exec] at h1
    | succ n =>
      rw [pm_exec, hs] at h1
      cases h1
  · exact False.elim
theorem pm_V_call {X : pm_X} {d m pc : Nat} {ls : List (Option Value)} {st : List Value} {h : pm_H} {Q : pm_O → Prop} {mj : Nat} {args rest : List Value} (hs : pm_step X d m (pc, ls, st, h) = some (.inr (.inr (mj, args, rest)))) : pm_V X d m pc ls st h Q ↔ pm_cl X d mj args h (fun o => (pm_okr o.1 && (o.2.1.length == h.1.length || pm_wfs h.1.length ls rest)) = true ∧ pm_V X d m (pc + 3) ls (o.1.toList ++ rest) o.2 Q) := by
  constructor
  · rintro ⟨n, o', h1, h2⟩
    cases n with
    | zero => simp [pm_exec] at h1
    | succ n =>
      rw [pm_exec, hs] at h1
      cases d with
      | zero => simp at h1
      | succ d =>
        dsimp only at h1
        cases hc : pm_exec X n d mj (0, pm_ent (pm_ml mj) args, [], h) with
        | none => rw [hc] at h1; simp at h1
        | some o2 =>
          rw [hc] at h1
          dsimp only at h1
          split at h1
          · rename_i hw
            exact ⟨d, rfl, n, o2, hc, hw, n, o', h1, h2⟩
          · simp at h1
  · rintro ⟨d', rfl, n, o2, hc, hw, k, o', h1, h2⟩
    refine ⟨n + k + 1, o', ?_, h2⟩
    rw [pm_exec, hs]
    dsimp only
    rw [pm_mono' X n k _ _ _ _ hc]
    dsimp only
    rw [if_pos hw, Nat.add_comm n k]
    exact pm_mono' X k n _ _ _ _ h1
/-- a contract: from an answer that is one, the rule that rewrites calls -/
theorem pm_cl_of {X : pm_X} {d k mj : Nat} {args : List Value} {h : pm_H} {o : pm_O} (hd : k + 1 ≤ d) (hV : ∀ d', pm_V X (d' + k) mj 0 (pm_ent (pm_ml mj) args) [] h (fun q => q = o)) (P : pm_O → Prop) : pm_cl X d mj args h P ↔ P o := by
  obtain ⟨e, rfl⟩ : ∃ e, d = e + k + 1 := ⟨d - (k + 1), by omega⟩
  obtain ⟨n, o1, h1, rfl⟩ := hV e
  constructor
  · rintro ⟨d', h3, n', o', h2, hP⟩
    obtain rfl : d' = e + k := by omega
    rw [pm_det X n n' _ _ _ _ _ h1 h2]
    exact hP
  · intro hP
    exact ⟨e + k, rfl, n, o1, h1, hP⟩
theorem pm_V_mono {X : pm_X} {d m pc : Nat} {ls : List (Option Value)} {st : List Value} {h : pm_H} {Q Q' : pm_O → Prop} (hv : pm_V X d m pc ls st h Q) (hq : ∀ o, Q o → Q' o) : pm_V X d m pc ls st h Q' := by
  obtain ⟨n, o, h1, h2⟩ := hv
  exact ⟨n, o, h1, hq o h2⟩

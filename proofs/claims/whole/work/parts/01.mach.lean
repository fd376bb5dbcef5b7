/-! THE PURE MACHINE. A cell's shape is (kind, class or length, references): kind 0 an object, 1 ints, 2 bytes, 3 booleans, 4 longs, 5 a row of tapes, 6 a row of winters. What is no reference stands in I (by address and place), longs of rows in J. -/
abbrev pm_S : Type := Nat × Nat × List (Option Nat)
abbrev pm_H : Type := List pm_S × (Nat → Nat → Int32) × (Nat → Nat → Int64)
abbrev pm_St : Type := Nat × List (Option Value) × List Value × pm_H
abbrev pm_O : Type := Option Value × pm_H
/-- the script's length and ints, and whether String's formatter of messages is null -/
abbrev pm_X : Type := Nat × (Nat → Int32) × Bool
def pm_up (I : Nat → Nat → Int32) (a : Nat) (f : Nat → Int32) : Nat → Nat → Int32 := fun b => if b = a then f else I b
def pm_upJ (J : Nat → Nat → Int64) (a : Nat) (f : Nat → Int64) : Nat → Nat → Int64 := fun b => if b = a then f else J b
def pm_w (I : Nat → Nat → Int32) (a k : Nat) (v : Int32) : Nat → Nat → Int32 := pm_up I a (upd (I a) k v)
def pm_wJ (J : Nat → Nat → Int64) (a k : Nat) (v : Int64) : Nat → Nat → Int64 := pm_upJ J a (vp_updL (J a) k v)
def pm_fK : Nat → Int32 := fun j => ([-1, 0, 0, 0, 0, 2, 3] : List Int32).getD j 0
def pm_fB : Nat → Int32 := fun j => ([10, 11, 12, 0, 20, 0, 30, 0, 0, 50, 51, 0, 0, 0, 40, 0, 0, 60, 71, 70, 0] : List Int32).getD j 0
/-- outer rows: 1000000 the script, 1000001 KIND_ABOVE, 1000002 BODIES; from 1000010 on: texts -/
def pm_out (X : pm_X) (a : Nat) : Option (Nat × (Nat → Int32)) :=
  if a = 1000000 then some (X.1, X.2.1)
  else if a = 1000001 then some (7, pm_fK)
  else if a = 1000002 then some (21, pm_fB)
  else none
def pm_txt (a : Nat) : Option (List Nat) :=
  if a = 1000010 then some [102, 114, 111, 115, 116]
  else if a = 1000011 then some [116, 104, 97, 119]
  else if a = 1000012 then some [115, 110, 111, 119]
  else if a = 1000013 then some [98, 101, 97, 114, 115]
  else if a = 1000014 then some [48, 49, 50, 51, 52, 53, 54, 55, 56, 57]
  else if a = 1000015 then some [104, 100, 119]
  else if a = 1000016 then some [60, 61, 62]
  else none
/-- the bytes of a text, twenty places on -/
def pm_byt (a : Nat) : Option (List Nat) := if 1000030 ≤ a then pm_txt (a - 20) else none
/-- what a static field holds: KIND_ABOVE, BODIES, COMPACT_STRINGS, the formatter -/
def pm_gs (X : pm_X) (j : Nat) : Value := match j with
  | 0 => .ref 1000001
  | 1 => .ref 1000002
  | 2 => .int 1
  | _ => if X.2.2 = true then .null else .ref 1000060
def pm_idx (t : List Nat) (c : Int32) : Int32 := if t.findIdx (fun x => Int32.ofNat x == c) < t.length then Int32.ofNat (t.findIdx (fun x => Int32.ofNat x == c)) else -1
def pm_wfv (n : Nat) (v : Value) : Bool := match v with
  | .ref a => a < n || 1000000 ≤ a
  | _ => true
def pm_wfo (n : Nat) (v : Option Value) : Bool := match v with
  | some v => pm_wfv n v
  | none => true
def pm_wfr (n : Nat) (v : Option Nat) : Bool := match v with
  | some a => a < n || 1000000 ≤ a
  | none => true
def pm_wfs (n : Nat) (ls : List (Option Value)) (st : List Value) : Bool := ls.all (pm_wfo n) && st.all (pm_wfv n)
def pm_wfh (n : Nat) (S : List pm_S) : Bool := S.all (fun c => c.2.2.all (pm_wfr n))
/-- a local's store: a long that began one place before is gone -/
def pm_clr (ls : List (Option Value)) (i : Nat) : List (Option Value) := match i with
  | 0 => ls
  | j + 1 => match ls[j]? with
    | some (some (.long _)) => ls.set j none
    | some (some (.double _)) => ls.set j none
    | _ => ls
def pm_sto (ls : List (Option Value)) (i : Nat) (v : Value) : List (Option Value) := (pm_clr ls i).set i (some v)
def pm_stoL (ls : List (Option Value)) (i : Nat) (v : Value) : List (Option Value) := ((pm_clr ls i).set i (some v)).set (i + 1) none
def pm_args : List Value → List (Option Value)
  | [] => []
  | .long x :: r => some (.long x) :: none :: pm_args r
  | .double x :: r => some (.double x) :: none :: pm_args r
  | v :: r => some v :: pm_args r
def pm_ent (nL : Nat) (args : List Value) : List (Option Value) := pm_args args ++ List.replicate (nL - (pm_args args).length) none
/-- what a method may answer -/
def pm_okr (r : Option Value) : Bool := match r with
  | none => true
  | some (.int _) => true
  | some (.long _) => true
  | some (.ref _) => true
  | _ => false
abbrev pm_Q : Type := pm_St ⊕ (pm_O ⊕ (Nat × List Value × List Value))
def pm_n (pc : Nat) (ls : List (Option Value)) (st : List Value) (h : pm_H) : Option pm_Q := some (.inl (pc, ls, st, h))
def pm_rf (r : Option Nat) : Value := match r with
  | some b => .ref b
  | none => .null
def pm_j (pc : Nat) (off : Int) : Nat := ((pc : Int) + off).toNat
def pm_bad (i : Int32) (n : Nat) : Bool := decide (i < 0 ∨ n ≤ i.toNatClampNeg)
/-- an array's read -/
def pm_ia (X : pm_X) (S : List pm_S) (I : Nat → Nat → Int32) (a : Nat) (i : Int32) : Option Int32 := match S[a]? with
  | some (1, n, _) => if pm_bad i n then none else some (I a i.toNatClampNeg)
  | some _ => none
  | none => match pm_out X a with
    | some (n, f) => if pm_bad i n then none else some (f i.toNatClampNeg)
    | none => none
def pm_ba (S : List pm_S) (I : Nat → Nat → Int32) (a : Nat) (i : Int32) : Option Int32 := match S[a]? with
  | some (2, n, _) => if pm_bad i n then none else some (I a i.toNatClampNeg)
  | some (3, n, _) => if pm_bad i n then none else some (I a i.toNatClampNeg)
  | some _ => none
  | none => match pm_byt a with
    | some t => if pm_bad i t.length then none else some (Int32.ofNat (t.getD i.toNatClampNeg 0))
    | none => none
def pm_la (S : List pm_S) (J : Nat → Nat → Int64) (a : Nat) (i : Int32) : Option Int64 := match S[a]? with
  | some (4, n, _) => if pm_bad i n then none else some (J a i.toNatClampNeg)
  | _ => none
def pm_aa (S : List pm_S) (a : Nat) (i : Int32) : Option Value := match S[a]? with
  | some (5, n, r) => if pm_bad i n then none else some (pm_rf (r.getD i.toNatClampNeg none))
  | some (6, n, r) => if pm_bad i n then none else some (pm_rf (r.getD i.toNatClampNeg none))
  | _ => none
def pm_len (X : pm_X) (S : List pm_S) (a : Nat) : Option Int32 := match S[a]? with
  | some (0, _, _) => none
  | some (_, n, _) => some (Int32.ofNat n)
  | none => match pm_out X a with
    | some (n, _) => some (Int32.ofNat n)
    | none => match pm_byt a with
      | some t => some (Int32.ofNat t.length)
      | none => none
/-- may an element of this kind of row be written there -/
def pm_okw (S : List pm_S) (t a : Nat) (i : Int32) : Bool := match S[a]? with
  | some (t', n, _) => t' == t && !pm_bad i n
  | none => false
/-- the object at a is of class ci, and k is a field of its -/
def pm_isO (S : List pm_S) (a ci : Nat) : Bool := match S[a]? with
  | some (0, c, _) => c == ci
  | _ => false
def pm_rg (S : List pm_S) (a ci k : Nat) : Option Value := match S[a]? with
  | some (0, c, r) => if c = ci then some (pm_rf (r.getD k none)) else none
  | _ => none
/-- arraycopy's conditions: both rows of kind t -/
def pm_cpo (S : List pm_S) (t a : Nat) (sp : Int32) (b : Nat) (dp n : Int32) : Bool := match S[a]?, S[b]? with
  | some (t1, n1, _), some (t2, n2, _) => t1 == t && t2 == t && !(decide (sp < 0) || decide (dp < 0) || decide (n < 0)) && decide (sp.toNatClampNeg + n.toNatClampNeg ≤ n1) && decide (dp.toNatClampNeg + n.toNatClampNeg ≤ n2)
  | _, _ => false

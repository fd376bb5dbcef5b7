/-! loops as folds; frames; numbers -/
def fld {α : Type} (f : Nat → α → α) : Nat → Nat → α → α
  | _, 0, a => a
  | k, n + 1, a => fld f (k + 1) n (f k a)
def allF (p : Nat → Bool) : Nat → Nat → Bool
  | _, 0 => true
  | k, n + 1 => p k && allF p (k + 1) n
theorem fld_congr {α : Type} {f g : Nat → α → α} : ∀ (n k : Nat) (a : α), (∀ i b, k ≤ i → i < k + n → f i b = g i b) → fld f k n a = fld g k n a := by
  intro n
  induction n with
  | zero => intro k a _; rfl
  | succ n ih =>
    intro k a h
    rw [fld, fld, h k a (Nat.le_refl _) (by omega), ih (k + 1) _ (fun i b h1 h2 => h i b (by omega) (by omega))]
theorem fld_s {α : Type} {f : Nat → α → α} : ∀ (n k : Nat) (a : α), fld f k (n + 1) a = f (k + n) (fld f k n a) := by
  intro n
  induction n with
  | zero => intro k a; rfl
  | succ n ih =>
    intro k a
    rw [fld, ih (k + 1) (f k a), show k + 1 + n = k + (n + 1) by omega]
    rfl
theorem fld_inv {α : Type} {f : Nat → α → α} (P : Nat → α → Prop) : ∀ (n k : Nat) (a : α), (∀ i b, k ≤ i → i < k + n → P i b → P (i + 1) (f i b)) → P k a → P (k + n) (fld f k n a) := by
  intro n
  induction n with
  | zero => intro k a _ h; exact h
  | succ n ih =>
    intro k a h h0
    have := ih (k + 1) (f k a) (fun i b h1 h2 => h i b (by omega) (by omega)) (h k a (Nat.le_refl _) (by omega) h0)
    rw [show k + 1 + n = k + (n + 1) by omega] at this
    exact this
theorem fld_congrI {α : Type} {f g : Nat → α → α} (P : Nat → α → Prop) : ∀ (n k : Nat) (a : α), (∀ i b, k ≤ i → i < k + n → P i b → f i b = g i b ∧ P (i + 1) (f i b)) → P k a → fld f k n a = fld g k n a := by
  intro n
  induction n with
  | zero => intro k a _ _; rfl
  | succ n ih =>
    intro k a h h0
    have h1 := h k a (Nat.le_refl _) (by omega) h0
    rw [fld, fld, ← h1.1, ih (k + 1) _ (fun i b h1 h2 => h i b (by omega) (by omega)) h1.2]
theorem pm_lp {α : Type} (run : Nat → α → Prop) (f : Nat → α → α) (N : Nat) (hs : ∀ k a, k < N → run k a = run (k + 1) (f k a)) : ∀ (n k : Nat) (a : α), k + n = N → run k a = run N (fld f k n a) := by
  intro n
  induction n with
  | zero => intro k a h; subst h; rfl
  | succ n ih =>
    intro k a h
    rw [hs k a (by omega), ih (k + 1) _ (by omega)]
    rfl
/-- with something that holds on the way -/
theorem pm_lpI {α : Type} (run : Nat → α → Prop) (f : Nat → α → α) (P : Nat → α → Prop) (N : Nat) (hs : ∀ k a, k < N → P k a → run k a = run (k + 1) (f k a)) (hi : ∀ k a, k < N → P k a → P (k + 1) (f k a)) : ∀ (n k : Nat) (a : α), k + n = N → P k a → run k a = run N (fld f k n a) := by
  intro n
  induction n with
  | zero => intro k a h _; subst h; rfl
  | succ n ih =>
    intro k a h h0
    rw [hs k a (by omega) h0, ih (k + 1) _ (by omega) (hi k a (by omega) h0)]
    rfl
/-- by a relation -/
theorem pm_lpR {α : Type} (run : Nat → α → Prop) (R : Nat → α → Prop) (N : Nat) (hs : ∀ k a, k < N → R k a → ∃ a', R (k + 1) a' ∧ run k a = run (k + 1) a') : ∀ (n k : Nat) (a : α), k + n = N → R k a → ∃ a', R N a' ∧ run k a = run N a' := by
  intro n
  induction n with
  | zero => intro k a h h0; subst h; exact ⟨a, h0, rfl⟩
  | succ n ih =>
    intro k a h h0
    obtain ⟨a', h1, h2⟩ := hs k a (by omega) h0
    obtain ⟨a'', h3, h4⟩ := ih (k + 1) a' (by omega) h1
    exact ⟨a'', h3, h2.trans h4⟩
theorem pm_all (run : Nat → Prop) (p : Nat → Bool) (F : Prop) (N : Nat) (hs : ∀ k, k < N → run k = if p k = true then run (k + 1) else F) : ∀ (n k : Nat), k + n = N → run k = if allF p k n = true then run N else F := by
  intro n
  induction n with
  | zero => intro k h; subst h; simp [allF]
  | succ n ih =>
    intro k h
    rw [hs k (by omega), ih (k + 1) (by omega), allF]
    cases p k <;> simp
theorem allF_iff {p : Nat → Bool} : ∀ (n k : Nat), allF p k n = true ↔ ∀ i, k ≤ i → i < k + n → p i = true := by
  intro n
  induction n with
  | zero => intro k; simp only [allF, true_iff]; intro i h1 h2; omega
  | succ n ih =>
    intro k
    rw [allF, Bool.and_eq_true, ih]
    constructor
    · intro h i h1 h2
      by_cases e : i = k
      · subst e; exact h.1
      · exact h.2 i (by omega) (by omega)
    · intro h
      exact ⟨h k (Nat.le_refl _) (by omega), fun i h1 h2 => h i (by omega) (by omega)⟩
theorem allF_congr {p q : Nat → Bool} (n k : Nat) (h : ∀ i, k ≤ i → i < k + n → p i = q i) : allF p k n = allF q k n := by
  rw [Bool.eq_iff_iff, allF_iff, allF_iff]
  constructor
  · intro z i h1 h2; rw [← h i h1 h2]; exact z i h1 h2
  · intro z i h1 h2; rw [h i h1 h2]; exact z i h1 h2
/-- the first of some that is so -/
def srF {α : Type} (p : Nat → α → Bool) (f : Nat → α → α) : Nat → Nat → α → Option (Nat × α)
  | _, 0, _ => none
  | k, n + 1, a => if p k a = true then some (k, a) else srF p f (k + 1) n (f k a)
theorem sumR_fld {f : Nat → Int32} : ∀ (n k : Nat) (x : Int32), fld (fun i a => a + f i) k n x = x + sumR f k n := by
  intro n
  induction n with
  | zero => intro k x; simp [fld, sumR]
  | succ n ih => intro k x; rw [fld, ih, sumR, Int32.add_assoc]
theorem sumR_0 {f : Nat → Int32} (n : Nat) : fld (fun i a => a + f i) 0 n 0 = sumR f 0 n := by rw [sumR_fld, Int32.zero_add]
theorem sumR_add {f g : Nat → Int32} : ∀ (n k : Nat), sumR (fun i => f i + g i) k n = sumR f k n + sumR g k n := by
  intro n
  induction n with
  | zero => intro k; rfl
  | succ n ih =>
    intro k
    rw [sumR, sumR, sumR, ih]
    simp only [Int32.add_assoc]
    congr 1
    rw [← Int32.add_assoc, ← Int32.add_assoc, Int32.add_comm (g k)]
theorem sumR_z {f : Nat → Int32} : ∀ (n k : Nat), (∀ i, k ≤ i → i < k + n → f i = 0) → sumR f k n = 0 := by
  intro n
  induction n with
  | zero => intro k _; rfl
  | succ n ih => intro k h; rw [sumR, h k (Nat.le_refl _) (by omega), ih (k + 1) (fun i h1 h2 => h i (by omega) (by omega))]; rfl
theorem sumR_one {c : Nat} {x : Int32} : ∀ (n k : Nat), k ≤ c → c < k + n → sumR (fun i => if i = c then x else 0) k n = x := by
  intro n
  induction n with
  | zero => intro k h1 h2; omega
  | succ n ih =>
    intro k h1 h2
    rw [sumR]
    by_cases e : k = c
    · subst e
      rw [if_pos rfl, sumR_z n (k + 1) (fun i h3 h4 => if_neg (by omega))]
      simp
    · rw [if_neg e, ih (k + 1) (by omega) (by omega)]
      simp
/-- two heaps that are the same but at some cells -/
def pm_fr (L : List Nat) (I I' : Nat → Nat → Int32) : Prop := ∀ a, L.contains a = false → I' a = I a
theorem pm_fr_rf {L : List Nat} {I : Nat → Nat → Int32} : pm_fr L I I := fun _ _ => rfl
theorem pm_fr_tr {L : List Nat} {I I' I'' : Nat → Nat → Int32} (h : pm_fr L I I') (h' : pm_fr L I' I'') : pm_fr L I I'' := fun a z => (h' a z).trans (h a z)
theorem pw_ne {I : Nat → Nat → Int32} {a k b : Nat} {v : Int32} (h : ¬ b = a) : pm_w I a k v b = I b := by
  unfold pm_w pm_up
  rw [if_neg h]
theorem pw_eq {I : Nat → Nat → Int32} {a k : Nat} {v : Int32} : pm_w I a k v a = upd (I a) k v := by
  unfold pm_w pm_up
  rw [if_pos rfl]
theorem pu_ne {I : Nat → Nat → Int32} {a b : Nat} {f : Nat → Int32} (h : ¬ b = a) : pm_up I a f b = I b := by
  unfold pm_up
  rw [if_neg h]
theorem pu_eq {I : Nat → Nat → Int32} {a : Nat} {f : Nat → Int32} : pm_up I a f a = f := by
  unfold pm_up
  rw [if_pos rfl]
theorem pwJ_ne {J : Nat → Nat → Int64} {a k b : Nat} {v : Int64} (h : ¬ b = a) : pm_wJ J a k v b = J b := by
  unfold pm_wJ pm_upJ
  rw [if_neg h]
theorem pwJ_eq {J : Nat → Nat → Int64} {a k : Nat} {v : Int64} : pm_wJ J a k v a = vp_updL (J a) k v := by
  unfold pm_wJ pm_upJ
  rw [if_pos rfl]
theorem pm_fr_w {L : List Nat} {I : Nat → Nat → Int32} {a k : Nat} {v : Int32} (h : L.contains a = true) : pm_fr L I (pm_w I a k v) := by
  intro b hb
  refine pw_ne (fun e => ?_)
  subst e
  rw [h] at hb
  cases hb
theorem pm_fr_up {L : List Nat} {I : Nat → Nat → Int32} {a : Nat} {f : Nat → Int32} (h : L.contains a = true) : pm_fr L I (pm_up I a f) := by
  intro b hb
  refine pu_ne (fun e => ?_)
  subst e
  rw [h] at hb
  cases hb
theorem upd_app {f : Nat → Int32} {k : Nat} {v : Int32} {i : Nat} : upd f k v i = if i = k then v else f i := rfl
/-- numbers as those of Int -/
theorem i_le {x y : Int32} : x ≤ y ↔ x.toInt ≤ y.toInt := Int32.le_iff_toInt_le
theorem i_lt {x y : Int32} : x < y ↔ x.toInt < y.toInt := Int32.lt_iff_toInt_lt
theorem i_eq {x y : Int32} : x = y ↔ x.toInt = y.toInt := Int32.toInt_inj.symm
theorem i_lo (x : Int32) : -2147483648 ≤ x.toInt := Int32.le_toInt x
theorem i_hi (x : Int32) : x.toInt < 2147483648 := Int32.toInt_lt x
theorem i_bm {z : Int} (h1 : -2147483648 ≤ z) (h2 : z < 2147483648) : z.bmod 4294967296 = z := by
  rw [Int.bmod_def]
  split <;> omega
theorem i_add {x y : Int32} (h1 : -2147483648 ≤ x.toInt + y.toInt) (h2 : x.toInt + y.toInt < 2147483648) : (x + y).toInt = x.toInt + y.toInt := by
  rw [Int32.toInt_add]
  exact i_bm h1 h2
theorem i_sub {x y : Int32} (h1 : -2147483648 ≤ x.toInt - y.toInt) (h2 : x.toInt - y.toInt < 2147483648) : (x - y).toInt = x.toInt - y.toInt := by
  rw [Int32.toInt_sub]
  exact i_bm h1 h2
theorem i_mul {x y : Int32} (h1 : -2147483648 ≤ x.toInt * y.toInt) (h2 : x.toInt * y.toInt < 2147483648) : (x * y).toInt = x.toInt * y.toInt := by
  rw [Int32.toInt_mul]
  exact i_bm h1 h2
theorem i_neg {x : Int32} (h : -2147483648 < x.toInt) : (-x).toInt = -x.toInt := by
  have := i_hi x
  rw [Int32.toInt_neg]
  exact i_bm (by omega) (by omega)
theorem i_div {x y : Int32} (h1 : 0 ≤ x.toInt) (h2 : 0 < y.toInt) : (x / y).toInt = x.toInt / y.toInt := by
  have a1 := i_hi x
  have a2 : 0 ≤ x.toInt / y.toInt := Int.ediv_nonneg h1 (by omega)
  have a3 : x.toInt / y.toInt ≤ x.toInt := Int.ediv_le_self _ h1
  rw [Int32.toInt_div, Int.tdiv_eq_ediv_of_nonneg h1]
  exact i_bm (by omega) (by omega)
theorem minI_comm (x y : Int32) : minI x y = minI y x := by
  unfold minI
  rw [i_eq]
  by_cases h : y < x
  · have h' : ¬ x < y := by rw [i_lt] at h ⊢; omega
    rw [if_pos h, if_neg h']
  · by_cases h' : x < y
    · rw [if_neg h, if_pos h']
    · rw [if_neg h, if_neg h']
      rw [i_lt] at h h'
      omega
theorem minI_toInt (x y : Int32) : (minI x y).toInt = min x.toInt y.toInt := by
  unfold minI
  by_cases h : y < x
  · rw [if_pos h]
    rw [i_lt] at h
    omega
  · rw [if_neg h]
    rw [i_lt] at h
    omega
theorem maxI_toInt (x y : Int32) : (maxI x y).toInt = max x.toInt y.toInt := by
  unfold maxI
  by_cases h : x < y
  · rw [if_pos h]
    rw [i_lt] at h
    omega
  · rw [if_neg h]
    rw [i_lt] at h
    omega

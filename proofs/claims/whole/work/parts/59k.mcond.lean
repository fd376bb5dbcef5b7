/-! the parser: the reference reads what the class reads -/
section P80
variable {X : pm_X} {d : Nat} {P Q : pm_O → Prop} {g : List pm_S} {I I' : Nat → Nat → Int32} {J : Nat → Nat → Int64} {a i n p sg s m v cc B : Nat} {b c x dg : Int32} {t : List Nat} {A S T : Nat → Int32}
theorem encl_app (l m : List Int32) : encl (l ++ m) = encl l ++ encl m := List.map_append
theorem encl_len (l : List Int32) : (encl l).length = l.length := List.length_map ..
theorem en_1 : encl [-1] = [-33] := by decide
theorem en_2 : encl [-2] = [-38] := by decide
theorem en_3 : encl [-3] = [-124] := by decide
theorem no_k {k' : Nat} {f : Nat → Int32} (h : ∀ i, i < k' → False) : k' = 0 := by
  cases k' with
  | zero => rfl
  | succ k => exact (h 0 (Nat.succ_pos _)).elim
theorem M_sim (h : RM I n) (hcc : cc < 50) (hB : B ≤ 400) : ∀ (F md k p a j : Nat) (dg : Int32) (sg : Nat) (A S T : Nat → Int32), md < 5 → muP n md p ≤ F → k ≤ 4 → p ≤ n → a + j ≤ p → sg + (a + j) ≤ B + p →
    (md = 0 → j ≤ k → (∀ b, a = b + 1 → ¬ A b = 33) → (∀ i, i < j → A (a + i) = 33) → RSs X J g I n cc 1 (fun _ => False) a [] (emS A a j) p dg sg (a + j) k (k - j) A S T (pP (I 90) n F 0 k p)) ∧
    (md = 4 → j = 0 → (∀ b, a = b + 1 → ¬ A b = 33 ∧ ¬ A b = 38) → RSs X J g I n cc 1 (fun x => x = 38) a [] [] p dg sg a k k A S T (pP (I 90) n F 4 k p)) ∧
    (md = 3 → j = 0 → (∀ b, a = b + 1 → ¬ A b = 33 ∧ ¬ A b = 38 ∧ ¬ A b = 124) → RSs X J g I n cc 1 (fun x => popc 124 x) a [] [] p dg sg a k k A S T (pP (I 90) n F 3 k p)) ∧
    (md = 1 → (∀ b, a = b + 1 → ¬ A b = 38) → (∀ i, i < j → A (a + i) = 38) → RSs X J g I n cc 0 (fun x => x = 38) a (emS A a j) [] p dg sg (a + j) k k A S T (pP (I 90) n F 1 k p)) ∧
    (md = 2 → (∀ b, a = b + 1 → ¬ popc 124 (A b)) → (∀ i, i < j → popc 124 (A (a + i))) → RSs X J g I n cc 0 (fun x => popc 124 x) a (emS A a j) [] p dg sg (a + j) k k A S T (pP (I 90) n F 2 k p)) := by
  have hn := h.2
  intro F
  induction F with
  | zero =>
    intro md k p a j dg sg A S T hm hF
    have : 1 ≤ muP n md p := by
      unfold muP
      split
      · omega
      · split
        · omega
        · omega
    omega
  | succ F ih =>
    intro md k p a j dg sg A S T hm hF hk hp ha hs
    match md, hm with
    | 0, _ =>
      refine ⟨fun _ hj h0 hA => ?_, fun z => by omega, fun z => by omega, fun z => by omega, fun z => by omega⟩
      have hm' : 4 * (n - p) + 1 ≤ F + 1 := hF
      rw [pP_0]
      by_cases q1 : k < 4 ∧ nxT (I 90) n p = 33
      · have hlt := nx_c q1.2 (by decide)
        rw [if_pos q1]
        have u1 : ∀ i, i < a + j → upd A (a + j) 33 i = A i := fun i hi => by rw [upd_app, if_neg (by omega)]
        have u2 : upd A (a + j) 33 (a + j) = 33 := by rw [upd_app, if_pos rfl]
        have R1 := (ih 0 (k + 1) (p + 1) a (j + 1) dg sg (upd A (a + j) 33) S T (by decide) (by show 4 * (n - (p + 1)) + 1 ≤ F; omega) (by omega) (by omega) (by omega) (by omega)).1 rfl (by omega) (fun b hb => by rw [u1 b (by omega)]; exact h0 b hb) (fun i hi => by
          by_cases e : i = j
          · rw [e, u2]
          · rw [u1 _ (by omega)]
            exact hA i (by omega))
        have st := fun (d : Nat) (Q : pm_O → Prop) => M_push (X := X) (d := d) (Q := Q) (g := g) (J := J) (cc := cc) (dg := dg) (sg := sg) (wt := a + j) (A := A) (S := S) (T := T) h (Or.inl rfl) q1.2 hlt q1.1 (by omega)
        rw [show k + 1 - (j + 1) = k - j by omega] at R1
        have e1 : emS (upd A (a + j) 33) a (j + 1) = [-33] ++ emS A a j := by
          rw [emS, u2, emS_c (A' := A) j (fun i hi => u1 _ (by omega))]
          rfl
        refine RS_step (E0 := []) (fun d Q => st d Q) (fun i hi => u1 i (by omega)) (fun _ _ => rfl) R1 ?_ ?_ (fun er => ?_)
        · generalize pP (I 90) n F 0 (k + 1) (p + 1) = r
          cases er : r.1 with
          | true => rw [pBd_t er]
          | false => rw [pBd_f er, er]
        · generalize pP (I 90) n F 0 (k + 1) (p + 1) = r
          cases er : r.1 with
          | true => rw [pBd_t er]
          | false => rw [pBd_f er]
        · rw [pBd_t er, e1]
          show [] ++ encl (_ ++ [-1]) ++ _ = _
          rw [encl_app, en_1, List.nil_append, List.nil_append, List.nil_append, List.append_assoc]
      · rw [if_neg q1]
        by_cases q2 : k < 4 ∧ nxT (I 90) n p = 40
        · have hlt := nx_c q2.2 (by decide)
          rw [if_pos q2]
          have u1 : ∀ i, i < a + j → upd A (a + j) 40 i = A i := fun i hi => by rw [upd_app, if_neg (by omega)]
          have u2 : upd A (a + j) 40 (a + j) = 40 := by rw [upd_app, if_pos rfl]
          have R1 := (ih 3 (k + 1) (p + 1) (a + j + 1) 0 dg sg (upd A (a + j) 40) S T (by decide) (by show 4 * (n - (p + 1)) + 4 ≤ F; omega) (by omega) (by omega) (by omega) (by omega)).2.2.1 rfl rfl (fun b hb => by
            obtain rfl : b = a + j := by omega
            rw [u2]
            decide)
          have st := fun (d : Nat) (Q : pm_O → Prop) => M_push (X := X) (d := d) (Q := Q) (g := g) (J := J) (cc := cc) (dg := dg) (sg := sg) (wt := a + j) (A := A) (S := S) (T := T) h (Or.inr rfl) q2.2 hlt q2.1 (by omega)
          have ex := pP_ex (T := I 90) (n := n) F 3 (k + 1) (p + 1) (by decide)
          have le := pP_le (T := I 90) (n := n) F 3 (k + 1) (p + 1) (by decide) (by omega)
          generalize pP (I 90) n F 3 (k + 1) (p + 1) = r at R1 ex le ⊢
          obtain ⟨le1, le2, le3⟩ := le
          cases er : r.1 with
          | false =>
            rw [pBd_f er]
            refine ⟨fun z => (by rw [er] at z; cases z), fun _ => ?_⟩
            exact FL_step (E0 := []) (fun d Q => st d Q) (fun _ _ => rfl) (R1.2 er)
          | true =>
            rw [pBd_t er]
            obtain ⟨dg1, A1, T1, k1, E1, a1, a2, a3, a4, a5⟩ := R1.1 er
            have ex38 := (ex er).2.2.1 rfl
            have ex124 := (ex er).2.2.2 (Or.inr rfl)
            have le4 := le3 er
            rw [List.nil_append, List.append_nil] at a4
            have el := congrArg List.length a4
            rw [encl_len, List.length_append, emS_len] at el
            have s1 : ∀ (d : Nat) (Q : pm_O → Prop), STe X J g I n cc d 1 p dg sg (a + j) k A S T Q = STe X J g I n cc d 0 r.2.1 dg1 (sg + E1.length) (a + j + 1 + k1) (k + 1) A1 (apL S sg E1) T1 Q := fun d Q => (st d Q).trans (a5 d Q)
            have x40 : A1 (a + j) = 40 := (a1 (a + j) (by omega)).trans u2
            have xA : ∀ i, i < a + j → A1 i = A i := fun i hi => (a1 i (by omega)).trans (u1 i hi)
            have x33 : ∀ i, i < j → A1 (a + i) = 33 := fun i hi => (xA _ (by omega)).trans (hA i hi)
            have xh0 : ∀ b, a = b + 1 → ¬ A1 b = 33 := fun b hb => by rw [xA b (by omega)]; exact h0 b hb
            by_cases q3 : nxT (I 90) n r.2.1 = 41
            · have hl3 := nx_c q3 (by decide)
              rw [if_pos q3]
              refine ⟨fun _ => ?_, fun z => by cases z⟩
              have cl := fun (d : Nat) (Q : pm_O → Prop) => M_close1 (X := X) (d := d) (Q := Q) (g := g) (J := J) (dg := dg1) (sg := sg + E1.length) (k := k) (S := apL S sg E1) (T := T1) h hcc q3 hl3 xh0 x33 x40 a3 hj (by omega) (by omega) (by omega)
              refine ⟨dg1, A1, upd T1 cc (nI (sg + E1.length + k1)), 0, E1 ++ emS A1 (a + j + 1) k1 ++ emS A1 a j, fun i hi => xA i (by omega), fun i hi => by rw [upd_app, if_neg hi]; exact a2 i hi, fun i hi => by omega, ?_, fun d Q => ?_⟩
              · show [] ++ encl r.2.2 ++ emS A a j = E1 ++ emS A1 (a + j + 1) k1 ++ emS A1 a j ++ []
                rw [List.nil_append, List.append_nil, a4, emS_c (A := A) (A' := A1) j (fun i hi => (xA _ (by omega)).symm)]
              · rw [s1, cl, List.length_append, List.length_append, emS_len, emS_len, apL_app, apL_app, List.length_append, emS_len, Nat.add_zero]
                simp only [Nat.add_assoc, Nat.add_zero]
            · rw [if_neg q3]
              refine ⟨fun z => (by cases z), fun _ => ?_⟩
              have cl := fun (d : Nat) (Q : pm_O → Prop) => M_close0 (X := X) (d := d) (Q := Q) (g := g) (I := I) (J := J) (p := r.2.1) (n := n) (dg := dg1) (sg := sg + E1.length) (k := k + 1) (S := apL S sg E1) (T := T1) hcc ex38 ex124 q3 x40 a3 (by omega) (by omega)
              refine ⟨dg1, sg + E1.length + k1, a + j + 1, k + 1, A1, apL (apL S sg E1) (sg + E1.length) (emS A1 (a + j + 1) k1), upd T1 cc (nI (sg + E1.length + k1)), fun i hi => ?_, fun i hi => by rw [upd_app, if_neg hi]; exact a2 i hi, fun d Q => (s1 d Q).trans (cl d Q)⟩
              rw [apL_lt _ _ _ _ (by omega), apL_lt _ _ _ _ hi]
        · rw [if_neg q2]
          by_cases q3 : nxT (I 90) n p = 33 ∨ nxT (I 90) n p = 40
          · have hk4 : k = 4 := by
              by_cases e : k < 4
              · rcases q3 with q3 | q3
                · exact absurd ⟨e, q3⟩ q1
                · exact absurd ⟨e, q3⟩ q2
              · omega
            rw [ts_33 q3 rfl, hk4]
            refine ⟨fun z => (by cases z), fun _ => ?_⟩
            exact ⟨dg, sg, a + j, 4, A, S, T, fun _ _ => rfl, fun _ _ => rfl, fun d Q => M_full q3 rfl⟩
          · have n33 : ¬ nxT (I 90) n p = 33 := fun z => q3 (Or.inl z)
            have n40 : ¬ nxT (I 90) n p = 40 := fun z => q3 (Or.inr z)
            cases er : (tsP (I 90) n p).1 with
            | true =>
              obtain ⟨o1, o2, mm, o3, o4⟩ := ts_ok er
              obtain ⟨dg1, t1⟩ := M_test1 (X := X) (g := g) (J := J) (cc := cc) (dg := dg) (sg := sg) (S := S) (T := T) h n33 n40 hp er h0 hA hj (by omega) (by omega) (by omega)
              refine ⟨fun _ => ?_, fun z => (by rw [er] at z; cases z)⟩
              refine ⟨dg1, A, T, 0, encl (tsP (I 90) n p).2.2 ++ emS A a j, fun _ _ => rfl, fun _ _ => rfl, fun i hi => by omega, ?_, fun d Q => ?_⟩
              · rw [List.nil_append]
                exact (List.append_nil _).symm
              · rw [t1, List.length_append, encl_len, emS_len, o4, List.length_singleton, Nat.add_assoc]
                rfl
            | false =>
              refine ⟨fun z => (by rw [er] at z; cases z), fun _ => ?_⟩
              exact ⟨dg, sg, a + j, k, A, S, T, fun _ _ => rfl, fun _ _ => rfl, fun d Q => M_test0 h n33 n40 hp er⟩
    | 1, _ =>
      refine ⟨fun z => by omega, fun z => by omega, fun z => by omega, fun _ h0 hA => ?_, fun z => by omega⟩
      have hm' : 4 * (n - p) + 1 ≤ F + 1 := hF
      rw [pP_1]
      by_cases q1 : nxT (I 90) n p = 38
      · have hlt := nx_c q1 (by decide)
        rw [if_pos q1]
        have u1 : ∀ i, i < a → upd A a 38 i = A i := fun i hi => by rw [upd_app, if_neg (by omega)]
        have u2 : upd A a 38 a = 38 := by rw [upd_app, if_pos rfl]
        have st : ∀ (d : Nat) (Q : pm_O → Prop), STe X J g I n cc d 0 p dg sg (a + j) k A S T Q = STe X J g I n cc d 1 (p + 1) dg (sg + (emS A a j).length) (a + 1) k (upd A a 38) (apL S sg (emS A a j)) T Q := fun d Q => by
          rw [emS_len]
          exact M_oper h (Or.inl rfl) q1 hlt (fun b hb z => by
            rcases z with z | z
            · exact h0 b hb z
            · exact z.2 rfl) (fun i hi => Or.inl (hA i hi)) (by omega) (by omega)
        have R1 := (ih 0 k (p + 1) (a + 1) 0 dg (sg + (emS A a j).length) (upd A a 38) (apL S sg (emS A a j)) T (by decide) (by show 4 * (n - (p + 1)) + 1 ≤ F; omega) hk (by omega) (by omega) (by rw [emS_len]; omega)).1 rfl (Nat.zero_le _) (fun b hb => by
          obtain rfl : b = a := by omega
          rw [u2]
          decide) (fun i hi => by omega)
        have le := pP_le (T := I 90) (n := n) F 0 k (p + 1) (by decide) (by omega)
        generalize pP (I 90) n F 0 k (p + 1) = r at R1 le ⊢
        obtain ⟨le1, le2, le3⟩ := le
        cases er : r.1 with
        | false =>
          rw [pBd_f er]
          exact ⟨fun z => (by rw [er] at z; cases z), fun _ => FL_step st (fun _ _ => rfl) (R1.2 er)⟩
        | true =>
          rw [pBd_t er]
          obtain ⟨dg1, A1, T1, k1, E1, a1, a2, a3, a4, a5⟩ := R1.1 er
          obtain rfl : k1 = 0 := no_k (f := A1) a3
          have le4 := le3 er
          have a4' : encl r.2.2 = E1 := by
            rw [List.nil_append] at a4
            exact List.append_cancel_right (bs := []) a4
          have el := congrArg List.length a4'
          rw [encl_len] at el
          have st2 : ∀ (d : Nat) (Q : pm_O → Prop), STe X J g I n cc d 0 p dg sg (a + j) k A S T Q = STe X J g I n cc d 0 r.2.1 dg1 (sg + (emS A a j ++ E1).length) (a + 1) k A1 (apL S sg (emS A a j ++ E1)) T1 Q := fun d Q => by
            rw [List.length_append, apL_app, ← Nat.add_assoc]
            exact (st d Q).trans (a5 d Q)
          have x38 : A1 a = 38 := (a1 a (by omega)).trans u2
          have xA : ∀ i, i < a → A1 i = A i := fun i hi => (a1 i (by omega)).trans (u1 i hi)
          have R2 := (ih 1 k r.2.1 a 1 dg1 (sg + (emS A a j ++ E1).length) A1 (apL S sg (emS A a j ++ E1)) T1 (by decide) (by show 4 * (n - r.2.1) + 1 ≤ F; omega) hk le2 (by omega) (by rw [List.length_append, emS_len]; omega)).2.2.2.1 rfl (fun b hb => by rw [xA b (by omega)]; exact h0 b hb) (fun i hi => by
            obtain rfl : i = 0 := by omega
            exact x38)
          refine RS_step st2 xA a2 R2 rfl rfl (fun _ => ?_)
          show emS A a j ++ encl (r.2.2 ++ [-2] ++ _) ++ [] = _
          have e1 : emS A1 a 1 = [-38] := by
            show [-(A1 (a + 0))] = _
            rw [Nat.add_zero, x38]
          rw [e1, encl_app, encl_app, en_2, a4', List.append_nil, List.append_nil]
          simp only [List.append_assoc]
      · rw [if_neg q1]
        refine ⟨fun _ => ⟨dg, A, T, j, [], fun _ _ => rfl, fun _ _ => rfl, hA, ?_, fun d Q => rfl⟩, fun z => by cases z⟩
        show emS A a j ++ [] ++ [] = [] ++ emS A a j
        rw [List.append_nil, List.append_nil, List.nil_append]
    | 2, _ =>
      refine ⟨fun z => by omega, fun z => by omega, fun z => by omega, fun z => by omega, fun _ h0 hA => ?_⟩
      have hm' : 4 * (n - p) + 1 ≤ F + 1 := hF
      rw [pP_2]
      by_cases q1 : nxT (I 90) n p = 124
      · have hlt := nx_c q1 (by decide)
        rw [if_pos q1]
        have u1 : ∀ i, i < a → upd A a 124 i = A i := fun i hi => by rw [upd_app, if_neg (by omega)]
        have u2 : upd A a 124 a = 124 := by rw [upd_app, if_pos rfl]
        have st : ∀ (d : Nat) (Q : pm_O → Prop), STe X J g I n cc d 0 p dg sg (a + j) k A S T Q = STe X J g I n cc d 1 (p + 1) dg (sg + (emS A a j).length) (a + 1) k (upd A a 124) (apL S sg (emS A a j)) T Q := fun d Q => by
          rw [emS_len]
          exact M_oper h (Or.inr rfl) q1 hlt h0 hA (by omega) (by omega)
        have R1 := (ih 4 k (p + 1) (a + 1) 0 dg (sg + (emS A a j).length) (upd A a 124) (apL S sg (emS A a j)) T (by decide) (by show 4 * (n - (p + 1)) + 3 ≤ F; omega) hk (by omega) (by omega) (by rw [emS_len]; omega)).2.1 rfl rfl (fun b hb => by
          obtain rfl : b = a := by omega
          rw [u2]
          decide)
        have le := pP_le (T := I 90) (n := n) F 4 k (p + 1) (by decide) (by omega)
        generalize pP (I 90) n F 4 k (p + 1) = r at R1 le ⊢
        obtain ⟨le1, le2, le3⟩ := le
        cases er : r.1 with
        | false =>
          rw [pBd_f er]
          exact ⟨fun z => (by rw [er] at z; cases z), fun _ => FL_step st (fun _ _ => rfl) (R1.2 er)⟩
        | true =>
          rw [pBd_t er]
          obtain ⟨dg1, A1, T1, k1, E1, a1, a2, a3, a4, a5⟩ := R1.1 er
          have le4 := le3 er
          have a4' : encl r.2.2 = E1 ++ emS A1 (a + 1) k1 := by
            rw [List.nil_append, List.append_nil] at a4
            exact a4
          have el := congrArg List.length a4'
          rw [encl_len, List.length_append, emS_len] at el
          have st2 : ∀ (d : Nat) (Q : pm_O → Prop), STe X J g I n cc d 0 p dg sg (a + j) k A S T Q = STe X J g I n cc d 0 r.2.1 dg1 (sg + (emS A a j ++ E1).length) (a + (k1 + 1)) k A1 (apL S sg (emS A a j ++ E1)) T1 Q := fun d Q => by
            rw [List.length_append, apL_app, ← Nat.add_assoc, show a + (k1 + 1) = a + 1 + k1 by omega]
            exact (st d Q).trans (a5 d Q)
          have x124 : A1 a = 124 := (a1 a (by omega)).trans u2
          have xA : ∀ i, i < a → A1 i = A i := fun i hi => (a1 i (by omega)).trans (u1 i hi)
          have R2 := (ih 2 k r.2.1 a (k1 + 1) dg1 (sg + (emS A a j ++ E1).length) A1 (apL S sg (emS A a j ++ E1)) T1 (by decide) (by show 4 * (n - r.2.1) + 1 ≤ F; omega) hk le2 (by omega) (by rw [List.length_append, emS_len]; omega)).2.2.2.2 rfl (fun b hb => by rw [xA b (by omega)]; exact h0 b hb) (fun i hi => by
            cases i with
            | zero => exact Or.inr ⟨x124, by decide⟩
            | succ i =>
              have := a3 i (by omega)
              rw [show a + (i + 1) = a + 1 + i by omega]
              exact Or.inl this)
          refine RS_step st2 xA a2 R2 rfl rfl (fun _ => ?_)
          show emS A a j ++ encl (r.2.2 ++ [-3] ++ _) ++ [] = _
          have e1 : emS A1 a (k1 + 1) = emS A1 (a + 1) k1 ++ [-124] := by
            rw [emS_sh, x124]
          rw [e1, encl_app, encl_app, en_3, a4', List.append_nil, List.append_nil]
          simp only [List.append_assoc]
      · rw [if_neg q1]
        refine ⟨fun _ => ⟨dg, A, T, j, [], fun _ _ => rfl, fun _ _ => rfl, hA, ?_, fun d Q => rfl⟩, fun z => by cases z⟩
        show emS A a j ++ [] ++ [] = [] ++ emS A a j
        rw [List.append_nil, List.append_nil, List.nil_append]
    | 3, _ =>
      refine ⟨fun z => by omega, fun z => by omega, fun _ hj h0 => ?_, fun z => by omega, fun z => by omega⟩
      have hm' : 4 * (n - p) + 4 ≤ F + 1 := hF
      subst hj
      rw [pP_3]
      have R1 := (ih 4 k p a 0 dg sg A S T (by decide) (by show 4 * (n - p) + 3 ≤ F; omega) hk hp ha hs).2.1 rfl rfl (fun b hb => ⟨(h0 b hb).1, (h0 b hb).2.1⟩)
      have le := pP_le (T := I 90) (n := n) F 4 k p (by decide) hp
      generalize pP (I 90) n F 4 k p = r at R1 le ⊢
      obtain ⟨le1, le2, le3⟩ := le
      cases er : r.1 with
      | false =>
        rw [pBd_f er]
        exact ⟨fun z => (by rw [er] at z; cases z), fun _ => R1.2 er⟩
      | true =>
        rw [pBd_t er]
        obtain ⟨dg1, A1, T1, k1, E1, a1, a2, a3, a4, a5⟩ := R1.1 er
        have le4 := le3 er
        have a4' : encl r.2.2 = E1 ++ emS A1 a k1 := by
          rw [List.nil_append, List.append_nil] at a4
          exact a4
        have el := congrArg List.length a4'
        rw [encl_len, List.length_append, emS_len] at el
        have R2 := (ih 2 k r.2.1 a k1 dg1 (sg + E1.length) A1 (apL S sg E1) T1 (by decide) (by show 4 * (n - r.2.1) + 1 ≤ F; omega) hk le2 (by omega) (by omega)).2.2.2.2 rfl (fun b hb z => by
          rw [a1 b (by omega)] at z
          rcases z with z | z
          · exact (h0 b hb).2.1 z
          · exact (h0 b hb).2.2 z.1) (fun i hi => Or.inl (a3 i hi))
        refine RS_step a5 a1 a2 R2 rfl rfl (fun _ => ?_)
        show [] ++ encl (r.2.2 ++ _) ++ [] = _
        rw [encl_app, a4', List.nil_append, List.append_nil, List.append_nil, List.append_assoc]
    | 4, _ =>
      refine ⟨fun z => by omega, fun _ hj h0 => ?_, fun z => by omega, fun z => by omega, fun z => by omega⟩
      have hm' : 4 * (n - p) + 3 ≤ F + 1 := hF
      subst hj
      rw [pP_4]
      have R1 := (ih 0 k p a 0 dg sg A S T (by decide) (by show 4 * (n - p) + 1 ≤ F; omega) hk hp ha hs).1 rfl (Nat.zero_le _) (fun b hb => (h0 b hb).1) (fun i hi => by omega)
      have le := pP_le (T := I 90) (n := n) F 0 k p (by decide) hp
      generalize pP (I 90) n F 0 k p = r at R1 le ⊢
      obtain ⟨le1, le2, le3⟩ := le
      cases er : r.1 with
      | false =>
        rw [pBd_f er]
        exact ⟨fun z => (by rw [er] at z; cases z), fun _ => R1.2 er⟩
      | true =>
        rw [pBd_t er]
        obtain ⟨dg1, A1, T1, k1, E1, a1, a2, a3, a4, a5⟩ := R1.1 er
        obtain rfl : k1 = 0 := no_k (f := A1) a3
        have le4 := le3 er
        have a4' : encl r.2.2 = E1 := by
          rw [List.nil_append] at a4
          exact List.append_cancel_right (bs := []) a4
        have el := congrArg List.length a4'
        rw [encl_len] at el
        have R2 := (ih 1 k r.2.1 a 0 dg1 (sg + E1.length) A1 (apL S sg E1) T1 (by decide) (by show 4 * (n - r.2.1) + 1 ≤ F; omega) hk le2 (by omega) (by omega)).2.2.2.1 rfl (fun b hb z => (h0 b hb).2 ((a1 b (by omega)).symm.trans z)) (fun i hi => by omega)
        refine RS_step a5 a1 a2 R2 rfl rfl (fun _ => ?_)
        show [] ++ encl (r.2.2 ++ _) ++ [] = _
        rw [encl_app, a4', List.nil_append, List.append_nil, List.append_nil]
        rfl
end P80

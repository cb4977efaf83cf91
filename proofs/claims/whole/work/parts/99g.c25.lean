theorem tk_34 {d lt sg : Nat} {ss : List Nat} {x : Int32} (h : isDg x = false) : tk (3, d, lt, sg, ss) x = tk (4, d, lt, sg, ss) x := by
  unfold tk
  simp [h]
theorem tk_32 {A : qAt} (h : ¬ A.1 = 3) : tk A 32 = some A := tk_bl h
set_option maxRecDepth 100000 in
set_option maxHeartbeats 4000000 in
theorem zX9_take {C M : qC} {r : Nat × Nat × Nat} {A : qAt} {x : Int32} (hA : rdA C A) (hw : wfA A) (hl : A.2.2.2.2.length < 100) : CT mX9_take 2 0 0 [.ref 121, .int x] (wd C M r) (tkP C M r A x) := by
  obtain ⟨st, d, lt, sg, ss⟩ := A
  simp only at hl
  refine eX9_take (AW_gen (fun Q hQ => ?_))
  have at30 : ∀ (C1 : qC) (st' : Nat), ¬ st' = 3 → rdF C C1 → rdA C1 (st', d, lt, sg, ss) → wfA (st', d, lt, sg, ss) → tk (st, d, lt, sg, ss) x = tk (st', d, lt, sg, ss) x → AW (mX9_take, 2, 0, 0, none, Q) 30 [some (.ref 121), some (.int x)] [] (wd C1 M r) 0 0 := by
    intro C1 st' h3 hF hA1 hw1 he
    have fin : ∀ (r' : Option Value) (w' : qW), tkP C1 M r (st', d, lt, sg, ss) x r' w' → Q r' w' := by
      rintro r' w' ⟨C2, rfl, hF2, hc⟩
      refine hQ _ _ ⟨C2, rfl, rdF_tr hF hF2, ?_⟩
      rw [he]
      exact hc
    have h4 : xI C1 121 4 = nI st' := hA1.2.1
    have hs4 : st' ≤ 4 := hw1.1
    by_cases h32 : x = 32
    · subst h32
      refine oX9_take_30 _ _ _ _ _ _ ?_
      simp only [bX9_take_30, qsem, qopt_s, qopt2_s, qev, qxs, Nat.reduceEqDiff, reduceIte, and_true, true_and, and_false, false_and, and_self, or_true, true_or, qb_or, reduceCtorEq, qbr_True, qbr_False, q10, q01, qwC]
      exact fin _ _ ⟨C1, rfl, rdF_rf C1, Or.inl ⟨_, tk_32 (A := (st', d, lt, sg, ss)) h3, rfl, hA1⟩⟩
    · rcases (show st' = 0 ∨ st' = 1 ∨ st' = 2 ∨ st' = 4 by omega) with rfl | rfl | rfl | rfl
      · have hsub := zX9_takeUnit (M := M) (r := r) hA1 hw1 hl h32
        have at68 : AW (mX9_take, 2, 0, 0, none, Q) 68 [some (.ref 121), some (.int x)] [] (wd C1 M r) 0 0 := by
          refine oX9_take_68 _ _ _ _ _ _ ?_
          simp only [bX9_take_68, qsem, qopt_s, qopt2_s, qev, qxs, Nat.reduceEqDiff, reduceIte, and_true, true_and, and_false, false_and, and_self, or_true, true_or, qb_or, reduceCtorEq, qbr_True, qbr_False, q10, q01, qwC]
          refine kX9_take_70 (hsub) (rfl) (Nat.le_of_ble_eq_true rfl) (Nat.le_of_ble_eq_true rfl) ⟨Nat.le_of_ble_eq_true rfl, Nat.le_of_ble_eq_true rfl⟩ ?_
          rintro _ _ ⟨C2, rfl, hF2, ⟨B, e1, rfl, hB⟩ | ⟨e1, rfl⟩⟩
          all_goals refine oX9_take_73 _ _ _ _ _ _ ?_
          all_goals simp only [bX9_take_73, qsem, qev, Option.toList_some, List.cons_append, List.nil_append, true_or, or_true, true_and]
          · exact fin _ _ ⟨C2, rfl, hF2, Or.inl ⟨B, e1, rfl, hB⟩⟩
          · exact fin _ _ ⟨C2, rfl, hF2, Or.inr ⟨e1, rfl⟩⟩
        refine oX9_take_30 _ _ _ _ _ _ ?_
        simp only [bX9_take_30, qsem, qopt_s, qopt2_s, qev, qxs, Nat.reduceEqDiff, reduceIte, and_true, true_and, and_false, false_and, and_self, or_true, true_or, qb_or, reduceCtorEq, qbr_True, qbr_False, q10, q01, qwC]
        refine qbr_f (h32) ?_
        refine oX9_take_38 _ _ _ _ _ _ ?_
        simp only [bX9_take_38, qsem, qopt_s, qopt2_s, qev, qxs, Nat.reduceEqDiff, reduceIte, and_true, true_and, and_false, false_and, and_self, or_true, true_or, qb_or, reduceCtorEq, qbr_True, qbr_False, q10, q01, qwC, h4]
        exact uX9_take_42 (fun _ => at68) (fun q => absurd q (by decide)) (fun q => absurd q (by decide)) (fun q => absurd rfl q)
      · have hsub := zX9_takeSign (M := M) (r := r) hA1 h32
        have at68 : AW (mX9_take, 2, 0, 0, none, Q) 74 [some (.ref 121), some (.int x)] [] (wd C1 M r) 0 0 := by
          refine oX9_take_74 _ _ _ _ _ _ ?_
          simp only [bX9_take_74, qsem, qopt_s, qopt2_s, qev, qxs, Nat.reduceEqDiff, reduceIte, and_true, true_and, and_false, false_and, and_self, or_true, true_or, qb_or, reduceCtorEq, qbr_True, qbr_False, q10, q01, qwC]
          refine kX9_take_76 (hsub) (rfl) (Nat.le_of_ble_eq_true rfl) (Nat.le_of_ble_eq_true rfl) ⟨Nat.le_of_ble_eq_true rfl, Nat.le_of_ble_eq_true rfl⟩ ?_
          rintro _ _ ⟨C2, rfl, hF2, ⟨B, e1, rfl, hB⟩ | ⟨e1, rfl⟩⟩
          all_goals refine oX9_take_79 _ _ _ _ _ _ ?_
          all_goals simp only [bX9_take_79, qsem, qev, Option.toList_some, List.cons_append, List.nil_append, true_or, or_true, true_and]
          · exact fin _ _ ⟨C2, rfl, hF2, Or.inl ⟨B, e1, rfl, hB⟩⟩
          · exact fin _ _ ⟨C2, rfl, hF2, Or.inr ⟨e1, rfl⟩⟩
        refine oX9_take_30 _ _ _ _ _ _ ?_
        simp only [bX9_take_30, qsem, qopt_s, qopt2_s, qev, qxs, Nat.reduceEqDiff, reduceIte, and_true, true_and, and_false, false_and, and_self, or_true, true_or, qb_or, reduceCtorEq, qbr_True, qbr_False, q10, q01, qwC]
        refine qbr_f (h32) ?_
        refine oX9_take_38 _ _ _ _ _ _ ?_
        simp only [bX9_take_38, qsem, qopt_s, qopt2_s, qev, qxs, Nat.reduceEqDiff, reduceIte, and_true, true_and, and_false, false_and, and_self, or_true, true_or, qb_or, reduceCtorEq, qbr_True, qbr_False, q10, q01, qwC, h4]
        exact uX9_take_42 (fun q => absurd q (by decide)) (fun _ => at68) (fun q => absurd q (by decide)) (fun _ q => absurd rfl q)
      · have hsub := zX9_takeDigit (M := M) (r := r) hA1 hw1 hl h32
        have at68 : AW (mX9_take, 2, 0, 0, none, Q) 80 [some (.ref 121), some (.int x)] [] (wd C1 M r) 0 0 := by
          refine oX9_take_80 _ _ _ _ _ _ ?_
          simp only [bX9_take_80, qsem, qopt_s, qopt2_s, qev, qxs, Nat.reduceEqDiff, reduceIte, and_true, true_and, and_false, false_and, and_self, or_true, true_or, qb_or, reduceCtorEq, qbr_True, qbr_False, q10, q01, qwC]
          refine kX9_take_82 (hsub) (rfl) (Nat.le_of_ble_eq_true rfl) (Nat.le_of_ble_eq_true rfl) ⟨Nat.le_of_ble_eq_true rfl, Nat.le_of_ble_eq_true rfl⟩ ?_
          rintro _ _ ⟨C2, rfl, hF2, ⟨B, e1, rfl, hB⟩ | ⟨e1, rfl⟩⟩
          all_goals refine oX9_take_85 _ _ _ _ _ _ ?_
          all_goals simp only [bX9_take_85, qsem, qev, Option.toList_some, List.cons_append, List.nil_append, true_or, or_true, true_and]
          · exact fin _ _ ⟨C2, rfl, hF2, Or.inl ⟨B, e1, rfl, hB⟩⟩
          · exact fin _ _ ⟨C2, rfl, hF2, Or.inr ⟨e1, rfl⟩⟩
        refine oX9_take_30 _ _ _ _ _ _ ?_
        simp only [bX9_take_30, qsem, qopt_s, qopt2_s, qev, qxs, Nat.reduceEqDiff, reduceIte, and_true, true_and, and_false, false_and, and_self, or_true, true_or, qb_or, reduceCtorEq, qbr_True, qbr_False, q10, q01, qwC]
        refine qbr_f (h32) ?_
        refine oX9_take_38 _ _ _ _ _ _ ?_
        simp only [bX9_take_38, qsem, qopt_s, qopt2_s, qev, qxs, Nat.reduceEqDiff, reduceIte, and_true, true_and, and_false, false_and, and_self, or_true, true_or, qb_or, reduceCtorEq, qbr_True, qbr_False, q10, q01, qwC, h4]
        exact uX9_take_42 (fun q => absurd q (by decide)) (fun q => absurd q (by decide)) (fun _ => at68) (fun _ _ q => absurd rfl q)
      · have hsub := zX9_takeJoin (M := M) (r := r) hA1 hw1 hl h32
        have at68 : AW (mX9_take, 2, 0, 0, none, Q) 86 [some (.ref 121), some (.int x)] [] (wd C1 M r) 0 0 := by
          refine oX9_take_86 _ _ _ _ _ _ ?_
          simp only [bX9_take_86, qsem, qopt_s, qopt2_s, qev, qxs, Nat.reduceEqDiff, reduceIte, and_true, true_and, and_false, false_and, and_self, or_true, true_or, qb_or, reduceCtorEq, qbr_True, qbr_False, q10, q01, qwC]
          refine kX9_take_88 (hsub) (rfl) (Nat.le_of_ble_eq_true rfl) (Nat.le_of_ble_eq_true rfl) ⟨Nat.le_of_ble_eq_true rfl, Nat.le_of_ble_eq_true rfl⟩ ?_
          rintro _ _ ⟨C2, rfl, hF2, ⟨B, e1, rfl, hB⟩ | ⟨e1, rfl⟩⟩
          all_goals refine oX9_take_91 _ _ _ _ _ _ ?_
          all_goals simp only [bX9_take_91, qsem, qev, Option.toList_some, List.cons_append, List.nil_append, true_or, or_true, true_and]
          · exact fin _ _ ⟨C2, rfl, hF2, Or.inl ⟨B, e1, rfl, hB⟩⟩
          · exact fin _ _ ⟨C2, rfl, hF2, Or.inr ⟨e1, rfl⟩⟩
        refine oX9_take_30 _ _ _ _ _ _ ?_
        simp only [bX9_take_30, qsem, qopt_s, qopt2_s, qev, qxs, Nat.reduceEqDiff, reduceIte, and_true, true_and, and_false, false_and, and_self, or_true, true_or, qb_or, reduceCtorEq, qbr_True, qbr_False, q10, q01, qwC]
        refine qbr_f (h32) ?_
        refine oX9_take_38 _ _ _ _ _ _ ?_
        simp only [bX9_take_38, qsem, qopt_s, qopt2_s, qev, qxs, Nat.reduceEqDiff, reduceIte, and_true, true_and, and_false, false_and, and_self, or_true, true_or, qb_or, reduceCtorEq, qbr_True, qbr_False, q10, q01, qwC, h4]
        exact uX9_take_42 (fun q => absurd q (by decide)) (fun q => absurd q (by decide)) (fun q => absurd q (by decide)) (fun _ _ _ => at68)
  have h4 : xI C 121 4 = nI st := hA.2.1
  have hs4 : st ≤ 4 := hw.1
  by_cases h3 : st = 3
  · subst h3
    have hA4 : rdA (yI C 121 4 4) (4, d, lt, sg, ss) := ⟨hA.1, rfl, hA.2.2.1, fun q => by simp at q, fun q => by simp at q, hA.2.2.2.2.2⟩
    by_cases hd : isDg x = true
    · obtain ⟨y, t, et, hy, hy2⟩ := hw.2.2.2.2.2 rfl
      simp only at et
      subst et
      obtain ⟨ex, hd10⟩ := dg_of hd
      have ev : x - 48 = nI (dgN x) := by rw [show x - 48 = nI (48 + dgN x) - 48 by rw [← ex], show (48 : Int32) = nI 48 from rfl, pk_sub (by omega)]; congr 1; omega
      have hlt : t.length < 100 := by simp at hl; omega
      have hlen := zX9_lengthenNumber (C := yI C 121 4 4) (M := M) (r := r) (k := t.length) (y := y) (g := dgN x) hA.1 hlt (by have := hA.2.2.2.2.2 t.length (by simp); simp only [stA, if_true] at this; exact this) (by omega) hd10
      have etk := tk3_d (d := d) (lt := lt) (sg := sg) (y := y) (ss := t) hd
      refine oX9_take_0 _ _ _ _ _ _ ?_
      simp only [bX9_take_0, qsem, qopt_s, qopt2_s, qev, qxs, Nat.reduceEqDiff, reduceIte, and_true, true_and, and_false, false_and, and_self, or_true, true_or, qb_or, reduceCtorEq, qbr_True, qbr_False, q10, q01, qwC, h4]
      refine qbr_t (rfl) ?_
      refine kX9_take_14 (zX9_isDigit) (Nat.le_of_ble_eq_true rfl) (Nat.le_of_ble_eq_true rfl) ⟨Nat.le_of_ble_eq_true rfl, Nat.le_of_ble_eq_true rfl⟩ ?_
      rintro _ _ ⟨rfl, rfl⟩
      refine oX9_take_17 _ _ _ _ _ _ ?_
      simp only [bX9_take_17, qsem, qopt_s, qopt2_s, qev, qxs, Nat.reduceEqDiff, reduceIte, and_true, true_and, and_false, false_and, and_self, or_true, true_or, qb_or, reduceCtorEq, qbr_True, qbr_False, q10, q01, qwC, h4, hd, qb_t, ev]
      refine kX9_take_25 (hlen) (rfl) (Nat.le_of_ble_eq_true rfl) (Nat.le_of_ble_eq_true rfl) ⟨Nat.le_of_ble_eq_true rfl, Nat.le_of_ble_eq_true rfl⟩ ?_
      rintro _ _ ⟨rfl, rfl⟩
      refine oX9_take_28 _ _ _ _ _ _ ?_
      simp only [bX9_take_28, qsem, qopt_s, qopt2_s, qev, qxs, Nat.reduceEqDiff, reduceIte, and_true, true_and, and_false, false_and, and_self, or_true, true_or, qb_or, reduceCtorEq, qbr_True, qbr_False, q10, q01, qwC, h4]
      refine hQ _ _ ⟨_, rfl, rdF_tr (rdF_I (j := 4) (by omega)) rdF_A, Or.inl ⟨_, etk, rfl, hA.1, rfl, hA.2.2.1, fun q => by simp at q, fun q => by simp at q, fun i hi => ?_⟩⟩
      show upd (xA C 123) t.length (nI (y + 9 * (y % 100) + dgN x)) i = nI (if i = t.length then _ else stA t i)
      simp only [List.length_cons] at hi
      by_cases e : i = t.length
      · rw [e, pk_us, if_pos rfl]
      · rw [pk_un e, if_neg e]; have := hA.2.2.2.2.2 i (by simp; omega); simp only [stA, if_neg e] at this; exact this
    · have hd : isDg x = false := (Bool.not_eq_true _).mp hd
      refine oX9_take_0 _ _ _ _ _ _ ?_
      simp only [bX9_take_0, qsem, qopt_s, qopt2_s, qev, qxs, Nat.reduceEqDiff, reduceIte, and_true, true_and, and_false, false_and, and_self, or_true, true_or, qb_or, reduceCtorEq, qbr_True, qbr_False, q10, q01, qwC, h4]
      refine qbr_t (rfl) ?_
      refine kX9_take_14 (zX9_isDigit) (Nat.le_of_ble_eq_true rfl) (Nat.le_of_ble_eq_true rfl) ⟨Nat.le_of_ble_eq_true rfl, Nat.le_of_ble_eq_true rfl⟩ ?_
      rintro _ _ ⟨rfl, rfl⟩
      refine oX9_take_17 _ _ _ _ _ _ ?_
      simp only [bX9_take_17, qsem, qopt_s, qopt2_s, qev, qxs, Nat.reduceEqDiff, reduceIte, and_true, true_and, and_false, false_and, and_self, or_true, true_or, qb_or, reduceCtorEq, qbr_True, qbr_False, q10, q01, qwC, h4, hd, qb_f]
      exact at30 _ 4 (by omega) (rdF_I (j := 4) (by omega)) hA4 ⟨by simp, hw.2.1, fun q => by simp at q, fun q => by simp at q, hw.2.2.2.2.1, fun q => by simp at q⟩ (tk_34 hd)
  · have hne : ¬ nI st = (3 : Int32) := fun q => h3 (i_ninj (b := 3) (by omega) (by omega) q)
    refine oX9_take_0 _ _ _ _ _ _ ?_
    simp only [bX9_take_0, qsem, qopt_s, qopt2_s, qev, qxs, Nat.reduceEqDiff, reduceIte, and_true, true_and, and_false, false_and, and_self, or_true, true_or, qb_or, reduceCtorEq, qbr_True, qbr_False, q10, q01, qwC, h4]
    refine qbr_f (hne) ?_
    exact at30 C st h3 (rdF_rf C) hA hw rfl
/-! reading all of it -/
theorem rn_sp (T : Nat → Int32) : ∀ (j k p : Nat) (A C : qAt), rn T (j + k) p A = some C → ∃ B, rn T j p A = some B ∧ rn T k (p + j) B = some C
  | 0, k, p, A, C, h => ⟨A, rfl, by rw [Nat.zero_add] at h; exact h⟩
  | j + 1, k, p, A, C, h => by
    rw [show j + 1 + k = (j + k) + 1 by omega] at h
    unfold rn at h
    cases ht : tk A (T p) with
    | none => rw [ht] at h; cases h
    | some A1 =>
      rw [ht] at h
      obtain ⟨B, b1, b2⟩ := rn_sp T j k (p + 1) A1 C h
      exact ⟨B, by unfold rn; rw [ht]; exact b1, by rw [show p + (j + 1) = p + 1 + j by omega]; exact b2⟩
theorem RN_det {T : Nat → Int32} {A B B' : qAt} {p q : Nat} (h : RN T A p B q) (h' : RN T A p B' q) : B = B' := by
  obtain ⟨k, e, r⟩ := h
  obtain ⟨k', e', r'⟩ := h'
  have : k = k' := by omega
  subst this
  rw [r] at r'
  exact Option.some.inj r'
theorem RN_stop {T : Nat → Int32} {A B C : qAt} {p e q : Nat} (h : RN T A p B e) (hn : tk B (T e) = none) (h' : RN T A p C q) : q ≤ e := by
  obtain ⟨k, e1, r⟩ := h
  obtain ⟨k', e2, r'⟩ := h'
  refine Nat.le_of_not_lt (fun hlt => ?_)
  obtain ⟨j, hj⟩ : ∃ j, k' = k + (j + 1) := ⟨k' - k - 1, by omega⟩
  rw [hj] at r'
  obtain ⟨B', b1, b2⟩ := rn_sp T k (j + 1) p A C r'
  rw [r] at b1
  cases b1
  unfold rn at b2
  rw [← e1, hn] at b2
  cases b2
theorem flt_one {S : qS} {A : qAt} {p e e' : Nat} (h : flt S A p e) (h' : flt S A p e') : e = e' := by
  obtain ⟨B, r, c⟩ := h
  obtain ⟨B', r', c'⟩ := h'
  rcases c with ⟨a, b⟩ | ⟨a, b⟩
  · have h1 := RN_stop r b r'
    rcases c' with ⟨a', b'⟩ | ⟨a', b'⟩
    · have h2 := RN_stop r' b' r
      omega
    · omega
  · rcases c' with ⟨a', b'⟩ | ⟨a', b'⟩
    · have h2 := RN_stop r' b' r
      omega
    · omega
theorem flt_not {S : qS} {A B : qAt} {p e : Nat} (h : flt S A p e) (h' : RN (S.2.1 160) A p B (cT S)) (he : endd B) : False := by
  obtain ⟨C, r, c⟩ := h
  rcases c with ⟨a, b⟩ | ⟨a, b⟩
  · have := RN_stop r b h'
    omega
  · rw [a] at r
    rw [RN_det r h'] at b
    exact b he
set_option maxRecDepth 100000 in
set_option maxHeartbeats 4000000 in
theorem zX9_firstFault {C M : qC} {r : Nat × Nat × Nat} {S : qS} (h1 : W1 S) (hI : iA C S) : CT mX9_firstFault 3 0 0 [.ref 121] (wd C M r) (fun r' w' => ∃ C', w' = wd C' M r ∧ rdF C C' ∧ ((r' = some (.int (-1)) ∧ ∃ B, RN (S.2.1 160) (0, 0, 0, 0, []) 0 B (cT S) ∧ endd B ∧ rdA C' B ∧ wfA B ∧ lnI B (cT S)) ∨ ∃ e, e ≤ cT S ∧ r' = some (.int (nI e)) ∧ flt S (0, 0, 0, 0, []) 0 e)) := by
  have hT1 := h1.2.2.2.2.2.2.2
  refine eX9_firstFault (AW_gen (fun Q hQ => ?_))
  have loop : ∀ (d p : Nat) (C1 : qC) (A : qAt), p + d = cT S → rdF C C1 → RN (S.2.1 160) (0, 0, 0, 0, []) 0 A p → rdA C1 A → wfA A → lnI A p → AW (mX9_firstFault, 3, 0, 0, none, Q) 17 [some (.ref 121), some (.int (nI p))] [] (wd C1 M r) 0 0 := by
    intro d
    induction d with
    | zero =>
      intro p C1 A hp hF hR hA hw hl
      obtain rfl : p = cT S := by omega
      have e1 : xI C1 121 1 = nI (cT S) := by rw [hF.1 121 1 (by omega)]; exact hI.1
      have e4 : xI C1 121 4 = nI A.1 := hA.2.1
      have e5 : xI C1 121 5 = nI A.2.1 := hA.2.2.1
      have b4 : A.1 ≤ 4 := hw.1
      have b5 : A.2.1 ≤ 8 := hw.2.1
      have f0 : (nI A.2.1 = (0 : Int32)) = (A.2.1 = 0) := nI0l (by omega)
      have f3 : (nI A.1 = (3 : Int32)) = (A.1 = 3) := nIeq (b := 3) (by omega) (by omega)
      have f4 : (nI A.1 = (4 : Int32)) = (A.1 = 4) := nIeq (b := 4) (by omega) (by omega)
      by_cases he : endd A
      · have good : AW (mX9_firstFault, 3, 0, 0, none, Q) 74 [some (.ref 121), some (.int (nI (cT S)))] [.int 1] (wd C1 M r) 0 0 := by
          refine oX9_firstFault_74 _ _ _ _ _ _ ?_
          simp only [bX9_firstFault_74, qsem, qopt_s, qopt2_s, qev, qxs, Nat.reduceEqDiff, reduceIte, and_true, true_and, and_false, false_and, and_self, or_true, true_or, qb_or, reduceCtorEq, qbr_True, qbr_False, q10, q01, qwC]
          refine oX9_firstFault_87 _ _ _ _ _ _ ?_
          simp only [bX9_firstFault_87, qsem, qopt_s, qopt2_s, qev, qxs, Nat.reduceEqDiff, reduceIte, and_true, true_and, and_false, false_and, and_self, or_true, true_or, qb_or, reduceCtorEq, qbr_True, qbr_False, q10, q01, qwC]
          exact hQ _ _ ⟨C1, rfl, hF, Or.inl ⟨rfl, A, hR, he, hA, hw, hl⟩⟩
        refine oX9_firstFault_17 _ _ _ _ _ _ ?_
        simp only [bX9_firstFault_17, qsem, qopt_s, qopt2_s, qev, qxs, Nat.reduceEqDiff, reduceIte, and_true, true_and, and_false, false_and, and_self, or_true, true_or, qb_or, reduceCtorEq, qbr_True, qbr_False, q10, q01, qwC, e1, e4, e5, f0, f3, f4]
        refine qbr_t ((Int32.le_refl _)) ?_
        refine oX9_firstFault_46 _ _ _ _ _ _ ?_
        simp only [bX9_firstFault_46, qsem, qopt_s, qopt2_s, qev, qxs, Nat.reduceEqDiff, reduceIte, and_true, true_and, and_false, false_and, and_self, or_true, true_or, qb_or, reduceCtorEq, qbr_True, qbr_False, q10, q01, qwC, e1, e4, e5, f0, f3, f4]
        refine qbr_i (fun c1 => ?_) (fun c1 => ?_)
        · refine qbr_i (fun c2 => ?_) (fun c2 => ?_)
          · refine oX9_firstFault_69 _ _ _ _ _ _ ?_
            simp only [bX9_firstFault_69, qsem, qopt_s, qopt2_s, qev, qxs, Nat.reduceEqDiff, reduceIte, and_true, true_and, and_false, false_and, and_self, or_true, true_or, qb_or, reduceCtorEq, qbr_True, qbr_False, q10, q01, qwC, e1, e4, e5, f0, f3, f4]
            first | exact good | (exfalso; have := he.1; have := he.2; omega)
          · refine qbr_i (fun c3 => ?_) (fun c3 => ?_)
            · refine oX9_firstFault_69 _ _ _ _ _ _ ?_
              simp only [bX9_firstFault_69, qsem, qopt_s, qopt2_s, qev, qxs, Nat.reduceEqDiff, reduceIte, and_true, true_and, and_false, false_and, and_self, or_true, true_or, qb_or, reduceCtorEq, qbr_True, qbr_False, q10, q01, qwC, e1, e4, e5, f0, f3, f4]
              first | exact good | (exfalso; have := he.1; have := he.2; omega)
            · refine oX9_firstFault_73 _ _ _ _ _ _ ?_
              simp only [bX9_firstFault_73, qsem, qopt_s, qopt2_s, qev, qxs, Nat.reduceEqDiff, reduceIte, and_true, true_and, and_false, false_and, and_self, or_true, true_or, qb_or, reduceCtorEq, qbr_True, qbr_False, q10, q01, qwC, e1, e4, e5, f0, f3, f4]
              first | exact good | (exfalso; have := he.1; have := he.2; omega)
        · refine oX9_firstFault_73 _ _ _ _ _ _ ?_
          simp only [bX9_firstFault_73, qsem, qopt_s, qopt2_s, qev, qxs, Nat.reduceEqDiff, reduceIte, and_true, true_and, and_false, false_and, and_self, or_true, true_or, qb_or, reduceCtorEq, qbr_True, qbr_False, q10, q01, qwC, e1, e4, e5, f0, f3, f4]
          first | exact good | (exfalso; have := he.1; have := he.2; omega)
      · have bad : AW (mX9_firstFault, 3, 0, 0, none, Q) 74 [some (.ref 121), some (.int (nI (cT S)))] [.int 0] (wd C1 M r) 0 0 := by
          refine oX9_firstFault_74 _ _ _ _ _ _ ?_
          simp only [bX9_firstFault_74, qsem, qopt_s, qopt2_s, qev, qxs, Nat.reduceEqDiff, reduceIte, and_true, true_and, and_false, false_and, and_self, or_true, true_or, qb_or, reduceCtorEq, qbr_True, qbr_False, q10, q01, qwC, e1]
          refine oX9_firstFault_83 _ _ _ _ _ _ ?_
          simp only [bX9_firstFault_83, qsem, qopt_s, qopt2_s, qev, qxs, Nat.reduceEqDiff, reduceIte, and_true, true_and, and_false, false_and, and_self, or_true, true_or, qb_or, reduceCtorEq, qbr_True, qbr_False, q10, q01, qwC, e1]
          refine oX9_firstFault_87 _ _ _ _ _ _ ?_
          simp only [bX9_firstFault_87, qsem, qopt_s, qopt2_s, qev, qxs, Nat.reduceEqDiff, reduceIte, and_true, true_and, and_false, false_and, and_self, or_true, true_or, qb_or, reduceCtorEq, qbr_True, qbr_False, q10, q01, qwC, e1]
          exact hQ _ _ ⟨C1, rfl, hF, Or.inr ⟨cT S, Nat.le_refl _, rfl, A, hR, Or.inr ⟨rfl, he⟩⟩⟩
        refine oX9_firstFault_17 _ _ _ _ _ _ ?_
        simp only [bX9_firstFault_17, qsem, qopt_s, qopt2_s, qev, qxs, Nat.reduceEqDiff, reduceIte, and_true, true_and, and_false, false_and, and_self, or_true, true_or, qb_or, reduceCtorEq, qbr_True, qbr_False, q10, q01, qwC, e1, e4, e5, f0, f3, f4]
        refine qbr_t ((Int32.le_refl _)) ?_
        refine oX9_firstFault_46 _ _ _ _ _ _ ?_
        simp only [bX9_firstFault_46, qsem, qopt_s, qopt2_s, qev, qxs, Nat.reduceEqDiff, reduceIte, and_true, true_and, and_false, false_and, and_self, or_true, true_or, qb_or, reduceCtorEq, qbr_True, qbr_False, q10, q01, qwC, e1, e4, e5, f0, f3, f4]
        refine qbr_i (fun c1 => ?_) (fun c1 => ?_)
        · refine qbr_i (fun c2 => ?_) (fun c2 => ?_)
          · refine oX9_firstFault_69 _ _ _ _ _ _ ?_
            simp only [bX9_firstFault_69, qsem, qopt_s, qopt2_s, qev, qxs, Nat.reduceEqDiff, reduceIte, and_true, true_and, and_false, false_and, and_self, or_true, true_or, qb_or, reduceCtorEq, qbr_True, qbr_False, q10, q01, qwC, e1, e4, e5, f0, f3, f4]
            first | exact bad | (exfalso; apply he; unfold endd; omega)
          · refine qbr_i (fun c3 => ?_) (fun c3 => ?_)
            · refine oX9_firstFault_69 _ _ _ _ _ _ ?_
              simp only [bX9_firstFault_69, qsem, qopt_s, qopt2_s, qev, qxs, Nat.reduceEqDiff, reduceIte, and_true, true_and, and_false, false_and, and_self, or_true, true_or, qb_or, reduceCtorEq, qbr_True, qbr_False, q10, q01, qwC, e1, e4, e5, f0, f3, f4]
              first | exact bad | (exfalso; apply he; unfold endd; omega)
            · refine oX9_firstFault_73 _ _ _ _ _ _ ?_
              simp only [bX9_firstFault_73, qsem, qopt_s, qopt2_s, qev, qxs, Nat.reduceEqDiff, reduceIte, and_true, true_and, and_false, false_and, and_self, or_true, true_or, qb_or, reduceCtorEq, qbr_True, qbr_False, q10, q01, qwC, e1, e4, e5, f0, f3, f4]
              first | exact bad | (exfalso; apply he; unfold endd; omega)
        · refine oX9_firstFault_73 _ _ _ _ _ _ ?_
          simp only [bX9_firstFault_73, qsem, qopt_s, qopt2_s, qev, qxs, Nat.reduceEqDiff, reduceIte, and_true, true_and, and_false, false_and, and_self, or_true, true_or, qb_or, reduceCtorEq, qbr_True, qbr_False, q10, q01, qwC, e1, e4, e5, f0, f3, f4]
          first | exact bad | (exfalso; apply he; unfold endd; omega)
    | succ d ih =>
      intro p C1 A hp hF hR hA hw hl
      have hpT : p < cT S := by omega
      have e1 : xI C1 121 1 = nI (cT S) := by rw [hF.1 121 1 (by omega)]; exact hI.1
      have e2 : xA C1 122 p = S.2.1 160 p := by rw [hF.2.1 122 (by omega)]; exact hI.2 p hpT
      have hlen : A.2.2.2.2.length < 100 := by unfold lnI at hl; omega
      refine oX9_firstFault_17 _ _ _ _ _ _ ?_
      simp only [bX9_firstFault_17, qsem, qopt_s, qopt2_s, qev, qxs, Nat.reduceEqDiff, reduceIte, and_true, true_and, and_false, false_and, and_self, or_true, true_or, qb_or, reduceCtorEq, qbr_True, qbr_False, q10, q01, qwC, e1, nIcl (show p < 1000 by omega), e2]
      refine qbr_f (nI_ge hpT (by omega)) ?_
      refine ⟨nI_vp (by omega) (by omega), ?_⟩
      refine kX9_firstFault_32 (zX9_take hA hw hlen) (rfl) (Nat.le_of_ble_eq_true rfl) (Nat.le_of_ble_eq_true rfl) ⟨Nat.le_of_ble_eq_true rfl, Nat.le_of_ble_eq_true rfl⟩ ?_
      rintro _ _ ⟨C2, rfl, hF2, ⟨B, eB, rfl, hB⟩ | ⟨eB, rfl⟩⟩
      skip
      · obtain ⟨hwB, hlB⟩ := wf_tk hw hl eB
        refine oX9_firstFault_35 _ _ _ _ _ _ ?_
        simp only [bX9_firstFault_35, qsem, qopt_s, qopt2_s, qev, qxs, Nat.reduceEqDiff, reduceIte, and_true, true_and, and_false, false_and, and_self, or_true, true_or, qb_or, reduceCtorEq, qbr_True, qbr_False, q10, q01, qwC, nI_1]
        refine oX9_firstFault_40 _ _ _ _ _ _ ?_
        simp only [bX9_firstFault_40, qsem, qopt_s, qopt2_s, qev, qxs, Nat.reduceEqDiff, reduceIte, and_true, true_and, and_false, false_and, and_self, or_true, true_or, qb_or, reduceCtorEq, qbr_True, qbr_False, q10, q01, qwC, nI_1]
        exact ih (p + 1) C2 B (by omega) (rdF_tr hF hF2) (RN_tr hR (RN_1 eB)) hB hwB hlB
      · refine oX9_firstFault_35 _ _ _ _ _ _ ?_
        simp only [bX9_firstFault_35, qsem, qopt_s, qopt2_s, qev, qxs, Nat.reduceEqDiff, reduceIte, and_true, true_and, and_false, false_and, and_self, or_true, true_or, qb_or, reduceCtorEq, qbr_True, qbr_False, q10, q01, qwC]
        exact hQ _ _ ⟨C2, rfl, rdF_tr hF hF2, Or.inr ⟨p, by omega, rfl, A, hR, Or.inl ⟨hpT, eB⟩⟩⟩
  refine oX9_firstFault_0 _ _ _ _ _ _ ?_
  simp only [bX9_firstFault_0, qsem, qopt_s, qopt2_s, qev, qxs, Nat.reduceEqDiff, reduceIte, and_true, true_and, and_false, false_and, and_self, or_true, true_or, qb_or, reduceCtorEq, qbr_True, qbr_False, q10, q01, qwC]
  exact loop (cT S) 0 _ (0, 0, 0, 0, []) (by omega) (rdF_tr (rdF_tr (rdF_I (j := 3) (by omega)) (rdF_I (j := 4) (by omega))) (rdF_I (j := 5) (by omega))) (RN_rf _ _ _) ⟨rfl, rfl, rfl, fun q => by simp at q, fun q => by simp at q, fun i hi => by simp at hi⟩ ⟨by simp, by simp, fun q => by simp at q, fun q => by simp at q, fun x hx => by simp at hx, fun q => by simp at q⟩ (by unfold lnI; simp)
theorem Inv_rd {C C' : qC} {S : qS} {r : Nat × Nat × Nat} {H : Nat → Nat → Nat → Bool} (hr : wR r) (hW : WS S H) (h : Inv C S r H) (hp : rdF C C') : Inv C' S r H := by
  obtain ⟨kN, kS, kF, kR, kO, kB, kT, kC, kM, kA, kQ, kK, kU⟩ := h
  obtain ⟨e1, e2, e3, e4⟩ := hp
  exact ⟨iN_cg (e1 1 3 (by omega)) (e2 2 (by omega)) kN, iS_cg (e1 3 3 (by omega)) (e2 4 (by omega)) kS, iF_cg (e1 5 7 (by omega)) (by rw [e3]) kF, iR_cg hW.1 (fun i hi => by rw [e4]) kR, iO_cg (e2 8 (by omega)) kO, iB_cg (e2 9 (by omega)) kB, iT_cg (e2 10 (by omega)) (e2 11 (by omega)) kT, iC_cg (by rw [e4]) kC, iM_cg (e1 117 3 (by omega)) (e2 118 (by omega)) (e2 119 (by omega)) (by rw [e4]) kM, iA_cg (e1 121 1 (by omega)) (e2 122 (by omega)) kA, iQ_cg (e1 124 1 (by omega)) (e2 125 (by omega)) kQ, iK_cg (e2 127 (by omega)) (e2 128 (by omega)) (e2 129 (by omega)) (e2 130 (by omega)) kK, iU_cg (e1 0 10 (by omega)) (e2 _ (rp hr (by omega))) (funext (fun j => e1 131 j (by omega))) kU⟩
set_option maxRecDepth 100000 in
set_option maxHeartbeats 4000000 in
theorem zX10_fault {C M : qC} {r : Nat × Nat × Nat} {S : qS} {H : Nat → Nat → Nat → Bool} (hr : wR r) (hW : WS S H) (h : Inv C S r H) : CT mX10_fault 4 0 0 [.ref 0] (wd C M r) (fun r' w' => ∃ C', w' = wd C' M r ∧ Inv C' S r H ∧ ((r' = some (.int (-1)) ∧ ∃ B, RN (S.2.1 160) (0, 0, 0, 0, []) 0 B (cT S) ∧ endd B) ∨ ∃ e, e ≤ cT S ∧ r' = some (.int (nI e)) ∧ flt S (0, 0, 0, 0, []) 0 e)) := by
  refine eX10_fault (AW_gen (fun Q hQ => ?_))
  refine oX10_fault_0 _ _ _ _ _ _ ?_
  simp only [bX10_fault_0, qsem, qopt_s, qopt2_s, qev, qxs, Nat.reduceEqDiff, reduceIte, and_true, true_and, and_false, false_and, and_self, or_true, true_or, qb_or, reduceCtorEq, qbr_True, qbr_False, q10, q01, qwC]
  refine kX10_fault_4 (zX9_firstFault hW.1 h.2.2.2.2.2.2.2.2.2.1) (rfl) (Nat.le_of_ble_eq_true rfl) (Nat.le_of_ble_eq_true rfl) ⟨Nat.le_of_ble_eq_true rfl, Nat.le_of_ble_eq_true rfl⟩ ?_
  rintro _ _ ⟨C', rfl, hF, ⟨rfl, B, hR, he, -, -, -⟩ | ⟨e, he, rfl, hf⟩⟩
  all_goals refine oX10_fault_7 _ _ _ _ _ _ ?_
  all_goals simp only [bX10_fault_7, qsem, qev, Option.toList_some, List.cons_append, List.nil_append]
  · exact hQ _ _ ⟨C', rfl, Inv_rd hr hW h hF, Or.inl ⟨rfl, B, hR, he⟩⟩
  · exact hQ _ _ ⟨C', rfl, Inv_rd hr hW h hF, Or.inr ⟨e, he, rfl, hf⟩⟩


/-! the shelf -/
set_option maxRecDepth 100000 in
set_option maxHeartbeats 4000000 in
theorem zX7_has {C M : qC} {r : Nat × Nat × Nat} {S : qS} {a : Int32} (h1 : W1 S) (hI : iF C S) : CT mX7_has 0 0 0 [.ref 5, .int a] (wd C M r) (fun r' w' => w' = wd C M r ∧ r' = some (.int (qb (isF S a)))) := by
  have e : S.1 1 = nI (cF S) := h1.1.2.1
  refine eX7_has (AW_gen (fun Q hQ => ?_))
  refine oX7_has_0 _ _ _ _ _ _ ?_
  simp only [bX7_has_0, qsem, qopt_s, qopt2_s, qev, qxs, Nat.reduceEqDiff, reduceIte, and_true, true_and, and_false, false_and, and_self, or_true, true_or, qb_or, reduceCtorEq, qbr_True, qbr_False, q10, q01, qwC, hI.1]
  refine qbr_i (fun c1 => ?_) (fun c1 => ?_)
  · refine oX7_has_16 _ _ _ _ _ _ ?_
    simp only [bX7_has_16, qsem, qopt_s, qopt2_s, qev, qxs, Nat.reduceEqDiff, reduceIte, and_true, true_and, and_false, false_and, and_self, or_true, true_or, qb_or, reduceCtorEq, qbr_True, qbr_False, q10, q01, qwC, hI.1]
    refine oX7_has_17 _ _ _ _ _ _ ?_
    simp only [bX7_has_17, qsem, qopt_s, qopt2_s, qev, qxs, Nat.reduceEqDiff, reduceIte, and_true, true_and, and_false, false_and, and_self, or_true, true_or, qb_or, reduceCtorEq, qbr_True, qbr_False, q10, q01, qwC, hI.1]
    first | exact hQ _ _ ⟨rfl, ri (qb_1of (decide_eq_true ⟨Int32.not_lt.mp c1, by rw [e]; exact Int32.not_le.mp c2⟩))⟩ | exact hQ _ _ ⟨rfl, ri (qb_0of (decide_eq_false (fun q => absurd c1 (Int32.not_lt.mpr q.1))))⟩ | exact hQ _ _ ⟨rfl, ri (qb_0of (decide_eq_false (fun q => absurd (by rw [e] at q; exact q.2) (Int32.not_lt.mpr c2))))⟩
  · refine qbr_i (fun c2 => ?_) (fun c2 => ?_)
    · refine oX7_has_16 _ _ _ _ _ _ ?_
      simp only [bX7_has_16, qsem, qopt_s, qopt2_s, qev, qxs, Nat.reduceEqDiff, reduceIte, and_true, true_and, and_false, false_and, and_self, or_true, true_or, qb_or, reduceCtorEq, qbr_True, qbr_False, q10, q01, qwC, hI.1]
      refine oX7_has_17 _ _ _ _ _ _ ?_
      simp only [bX7_has_17, qsem, qopt_s, qopt2_s, qev, qxs, Nat.reduceEqDiff, reduceIte, and_true, true_and, and_false, false_and, and_self, or_true, true_or, qb_or, reduceCtorEq, qbr_True, qbr_False, q10, q01, qwC, hI.1]
      first | exact hQ _ _ ⟨rfl, ri (qb_1of (decide_eq_true ⟨Int32.not_lt.mp c1, by rw [e]; exact Int32.not_le.mp c2⟩))⟩ | exact hQ _ _ ⟨rfl, ri (qb_0of (decide_eq_false (fun q => absurd c1 (Int32.not_lt.mpr q.1))))⟩ | exact hQ _ _ ⟨rfl, ri (qb_0of (decide_eq_false (fun q => absurd (by rw [e] at q; exact q.2) (Int32.not_lt.mpr c2))))⟩
    · refine oX7_has_17 _ _ _ _ _ _ ?_
      simp only [bX7_has_17, qsem, qopt_s, qopt2_s, qev, qxs, Nat.reduceEqDiff, reduceIte, and_true, true_and, and_false, false_and, and_self, or_true, true_or, qb_or, reduceCtorEq, qbr_True, qbr_False, q10, q01, qwC, hI.1]
      first | exact hQ _ _ ⟨rfl, ri (qb_1of (decide_eq_true ⟨Int32.not_lt.mp c1, by rw [e]; exact Int32.not_le.mp c2⟩))⟩ | exact hQ _ _ ⟨rfl, ri (qb_0of (decide_eq_false (fun q => absurd c1 (Int32.not_lt.mpr q.1))))⟩ | exact hQ _ _ ⟨rfl, ri (qb_0of (decide_eq_false (fun q => absurd (by rw [e] at q; exact q.2) (Int32.not_lt.mpr c2))))⟩
set_option maxRecDepth 100000 in
set_option maxHeartbeats 4000000 in
theorem zX7_size {C M : qC} {r : Nat × Nat × Nat} {S : qS} (hI : iF C S) : CT mX7_size 0 0 0 [.ref 5] (wd C M r) (fun r' w' => w' = wd C M r ∧ r' = some (.int (nI (cF S)))) := by
  refine eX7_size (AW_gen (fun Q hQ => ?_))
  refine oX7_size_0 _ _ _ _ _ _ ?_
  simp only [bX7_size_0, qsem, qopt_s, qopt2_s, qev, qxs, Nat.reduceEqDiff, reduceIte, and_true, true_and, and_false, false_and, and_self, or_true, true_or, qb_or, reduceCtorEq, qbr_True, qbr_False, q10, q01, qwC, hI.1]
  exact hQ _ _ ⟨rfl, rfl⟩
set_option maxRecDepth 100000 in
set_option maxHeartbeats 4000000 in
theorem zX7_hashOf {C M : qC} {r : Nat × Nat × Nat} {S : qS} {a : Int32} (h1 : W1 S) (hI : iF C S) : CT mX7_hashOf 1 0 0 [.ref 5, .int a] (wd C M r) (fun r' w' => w' = wd C M r ∧ r' = some (.long (if isF S a then S.2.2 a.toNatClampNeg else 0))) := by
  have hF := h1.2.2.1
  refine eX7_hashOf (AW_gen (fun Q hQ => ?_))
  by_cases ha : isF S a = true
  · obtain ⟨j, hj, rfl⟩ := isF_of h1 ha
    have hc := nIcl (show j < 1000 by omega)
    rw [ha, if_pos rfl, hc] at hQ
    refine oX7_hashOf_0 _ _ _ _ _ _ ?_
    simp only [bX7_hashOf_0, qsem, qopt_s, qopt2_s, qev, qxs, Nat.reduceEqDiff, reduceIte, and_true, true_and, and_false, false_and, and_self, or_true, true_or, qb_or, reduceCtorEq, qbr_True, qbr_False, q10, q01, qwC, ha, qb_t, hc, hI.2 j hj]
    refine kX7_hashOf_2 (zX7_has h1 hI) (rfl) (Nat.le_of_ble_eq_true rfl) (Nat.le_of_ble_eq_true rfl) ⟨Nat.le_of_ble_eq_true rfl, Nat.le_of_ble_eq_true rfl⟩ ?_
    rintro _ _ ⟨rfl, rfl⟩
    refine oX7_hashOf_5 _ _ _ _ _ _ ?_
    simp only [bX7_hashOf_5, qsem, qopt_s, qopt2_s, qev, qxs, Nat.reduceEqDiff, reduceIte, and_true, true_and, and_false, false_and, and_self, or_true, true_or, qb_or, reduceCtorEq, qbr_True, qbr_False, q10, q01, qwC, ha, qb_t, hc, hI.2 j hj]
    refine ⟨nI_vp (by omega) (by omega), ?_⟩
    refine oX7_hashOf_18 _ _ _ _ _ _ ?_
    simp only [bX7_hashOf_18, qsem, qopt_s, qopt2_s, qev, qxs, Nat.reduceEqDiff, reduceIte, and_true, true_and, and_false, false_and, and_self, or_true, true_or, qb_or, reduceCtorEq, qbr_True, qbr_False, q10, q01, qwC, ha, qb_t, hc, hI.2 j hj]
    exact hQ _ _ ⟨rfl, rfl⟩
  · have ha2 : isF S a = false := (Bool.not_eq_true _).mp ha
    refine oX7_hashOf_0 _ _ _ _ _ _ ?_
    simp only [bX7_hashOf_0, qsem, qopt_s, qopt2_s, qev, qxs, Nat.reduceEqDiff, reduceIte, and_true, true_and, and_false, false_and, and_self, or_true, true_or, qb_or, reduceCtorEq, qbr_True, qbr_False, q10, q01, qwC, ha2, qb_f]
    refine kX7_hashOf_2 (zX7_has h1 hI) (rfl) (Nat.le_of_ble_eq_true rfl) (Nat.le_of_ble_eq_true rfl) ⟨Nat.le_of_ble_eq_true rfl, Nat.le_of_ble_eq_true rfl⟩ ?_
    rintro _ _ ⟨rfl, rfl⟩
    refine oX7_hashOf_5 _ _ _ _ _ _ ?_
    simp only [bX7_hashOf_5, qsem, qopt_s, qopt2_s, qev, qxs, Nat.reduceEqDiff, reduceIte, and_true, true_and, and_false, false_and, and_self, or_true, true_or, qb_or, reduceCtorEq, qbr_True, qbr_False, q10, q01, qwC, ha2, qb_f]
    refine oX7_hashOf_17 _ _ _ _ _ _ ?_
    simp only [bX7_hashOf_17, qsem, qopt_s, qopt2_s, qev, qxs, Nat.reduceEqDiff, reduceIte, and_true, true_and, and_false, false_and, and_self, or_true, true_or, qb_or, reduceCtorEq, qbr_True, qbr_False, q10, q01, qwC, ha2, qb_f]
    refine oX7_hashOf_18 _ _ _ _ _ _ ?_
    simp only [bX7_hashOf_18, qsem, qopt_s, qopt2_s, qev, qxs, Nat.reduceEqDiff, reduceIte, and_true, true_and, and_false, false_and, and_self, or_true, true_or, qb_or, reduceCtorEq, qbr_True, qbr_False, q10, q01, qwC, ha2, qb_f]
    exact hQ _ _ ⟨rfl, rl (by rw [ha2]; rfl)⟩
set_option maxRecDepth 100000 in
set_option maxHeartbeats 4000000 in
theorem zX7_numberOf {C M : qC} {r : Nat × Nat × Nat} {S : qS} {a : Int64} (h1 : W1 S) (hI : iF C S) : CT mX7_numberOf 0 0 0 [.ref 5, .long a] (wd C M r) (fun r' w' => w' = wd C M r ∧ r' = some (.int (fd S a))) := by
  have hF := h1.2.2.1
  refine eX7_numberOf (AW_gen (fun Q hQ => ?_))
  refine oX7_numberOf_0 _ _ _ _ _ _ ?_
  simp only [bX7_numberOf_0, qsem, qopt_s, qopt2_s, qev, qxs, Nat.reduceEqDiff, reduceIte, and_true, true_and, and_false, false_and, and_self, or_true, true_or, qb_or, reduceCtorEq, qbr_True, qbr_False, q10, q01, qwC]
  have loop : ∀ k i : Nat, cF S = i + k → fnd S a k = fd S a → AW (mX7_numberOf, 0, 0, 0, none, Q) 2 [some (.ref 5), some (.long a), none, some (.int (nI i))] [] (wd C M r) 0 0 := by
    intro k
    induction k with
    | zero =>
      intro i hi hf
      refine oX7_numberOf_2 _ _ _ _ _ _ ?_
      simp only [bX7_numberOf_2, qsem, qopt_s, qopt2_s, qev, qxs, Nat.reduceEqDiff, reduceIte, and_true, true_and, and_false, false_and, and_self, or_true, true_or, qb_or, reduceCtorEq, qbr_True, qbr_False, q10, q01, qwC, hI.1]
      refine qbr_t (nI_le (show cF S ≤ i by omega) (by omega)) ?_
      refine oX7_numberOf_29 _ _ _ _ _ _ ?_
      simp only [bX7_numberOf_29, qsem, qopt_s, qopt2_s, qev, qxs, Nat.reduceEqDiff, reduceIte, and_true, true_and, and_false, false_and, and_self, or_true, true_or, qb_or, reduceCtorEq, qbr_True, qbr_False, q10, q01, qwC, hI.1]
      exact hQ _ _ ⟨rfl, ri hf⟩
    | succ k ih =>
      intro i hi hf
      have hij : cF S - (k + 1) = i := by omega
      have hf2 : fd S a = if S.2.2 i = a then nI i else fnd S a k := by rw [← hf]; simp only [fnd, hij]
      refine oX7_numberOf_2 _ _ _ _ _ _ ?_
      simp only [bX7_numberOf_2, qsem, qopt_s, qopt2_s, qev, qxs, Nat.reduceEqDiff, reduceIte, and_true, true_and, and_false, false_and, and_self, or_true, true_or, qb_or, reduceCtorEq, qbr_True, qbr_False, q10, q01, qwC, hI.1, lg0, nIcl (show i < 1000 by omega), hI.2 i (by omega), nI_1]
      refine qbr_f (nI_ge (by omega) (by omega)) ?_
      refine ⟨nI_vp (by omega) (by omega), ?_⟩
      refine qbr_i (fun c1 => ?_) (fun c1 => ?_)
      · exact hQ _ _ ⟨rfl, ri (by rw [hf2, if_pos c1])⟩
      · refine oX7_numberOf_23 _ _ _ _ _ _ ?_
        simp only [bX7_numberOf_23, qsem, qopt_s, qopt2_s, qev, qxs, Nat.reduceEqDiff, reduceIte, and_true, true_and, and_false, false_and, and_self, or_true, true_or, qb_or, reduceCtorEq, qbr_True, qbr_False, q10, q01, qwC, hI.1, lg0, nIcl (show i < 1000 by omega), hI.2 i (by omega), nI_1]
        exact ih (i + 1) (by omega) (by rw [hf2, if_neg c1])
  exact loop (cF S) 0 (by omega) rfl
/-- a file more on the shelf -/
def nwC (C : qC) (S : qS) (x : Int64) (C' : qC) : Prop := fsU (yM (yI C 5 7 (nI (cF S + 1))) 6 (vp_updL (xM C 6) (cF S) x)) (13 + cF S) (fun j => fB C (13 + cF S) j || decide (j = cF S)) C'
set_option maxRecDepth 100000 in
set_option maxHeartbeats 4000000 in
theorem zX7_numberOrNew {C M : qC} {r : Nat × Nat × Nat} {S : qS} {x : Int64} (h1 : W1 S) (hI : iF C S) : CT mX7_numberOrNew 1 0 0 [.ref 5, .long x] (wd C M r) (fun r' w' => r' = some (.int (ffN S x)) ∧ ∃ C', w' = wd C' M r ∧ ((¬ (fd S x = -1 ∧ ¬ cF S = 100) ∧ C' = C) ∨ ((fd S x = -1 ∧ ¬ cF S = 100) ∧ nwC C S x C'))) := by
  have hF := h1.2.2.1
  have e : (nI (cF S) < (100 : Int32)) = (cF S < 100) := nIlt (b := 100) (by omega) (by omega)
  refine eX7_numberOrNew (AW_gen (fun Q hQ => ?_))
  have old : (¬ fd S x = -1 ∨ cF S = 100) → Q (some (.int (fd S x))) (wd C M r) := fun h => hQ _ _ ⟨ri (ff_no h).1.symm, C, rfl, Or.inl ⟨fun q => h.elim (fun z => z q.1) (fun z => q.2 z), rfl⟩⟩
  by_cases h100 : cF S = 100
  · refine oX7_numberOrNew_0 _ _ _ _ _ _ ?_
    simp only [bX7_numberOrNew_0, qsem, qopt_s, qopt2_s, qev, qxs, Nat.reduceEqDiff, reduceIte, and_true, true_and, and_false, false_and, and_self, or_true, true_or, qb_or, reduceCtorEq, qbr_True, qbr_False, q10, q01, qwC, hI.1, e]
    refine kX7_numberOrNew_2 (zX7_numberOf h1 hI) (rfl) (Nat.le_of_ble_eq_true rfl) (Nat.le_of_ble_eq_true rfl) ⟨Nat.le_of_ble_eq_true rfl, Nat.le_of_ble_eq_true rfl⟩ ?_
    rintro _ _ ⟨rfl, rfl⟩
    refine oX7_numberOrNew_5 _ _ _ _ _ _ ?_
    simp only [bX7_numberOrNew_5, qsem, qopt_s, qopt2_s, qev, qxs, Nat.reduceEqDiff, reduceIte, and_true, true_and, and_false, false_and, and_self, or_true, true_or, qb_or, reduceCtorEq, qbr_True, qbr_False, q10, q01, qwC, hI.1, e]
    refine qbr_i (fun c1 => ?_) (fun c1 => ?_)
    · refine qbr_f ((by omega)) ?_
      refine oX7_numberOrNew_20 _ _ _ _ _ _ ?_
      simp only [bX7_numberOrNew_20, qsem, qopt_s, qopt2_s, qev, qxs, Nat.reduceEqDiff, reduceIte, and_true, true_and, and_false, false_and, and_self, or_true, true_or, qb_or, reduceCtorEq, qbr_True, qbr_False, q10, q01, qwC, hI.1, e]
      exact old (Or.inr h100)
    · refine oX7_numberOrNew_20 _ _ _ _ _ _ ?_
      simp only [bX7_numberOrNew_20, qsem, qopt_s, qopt2_s, qev, qxs, Nat.reduceEqDiff, reduceIte, and_true, true_and, and_false, false_and, and_self, or_true, true_or, qb_or, reduceCtorEq, qbr_True, qbr_False, q10, q01, qwC, hI.1, e]
      exact old (Or.inr h100)
  · have hlt : cF S < 100 := by omega
    refine oX7_numberOrNew_0 _ _ _ _ _ _ ?_
    simp only [bX7_numberOrNew_0, qsem, qopt_s, qopt2_s, qev, qxs, Nat.reduceEqDiff, reduceIte, and_true, true_and, and_false, false_and, and_self, or_true, true_or, qb_or, reduceCtorEq, qbr_True, qbr_False, q10, q01, qwC, hI.1, e, nIcl (show cF S < 1000 by omega), nI_1, qwC_34]
    refine kX7_numberOrNew_2 (zX7_numberOf h1 hI) (rfl) (Nat.le_of_ble_eq_true rfl) (Nat.le_of_ble_eq_true rfl) ⟨Nat.le_of_ble_eq_true rfl, Nat.le_of_ble_eq_true rfl⟩ ?_
    rintro _ _ ⟨rfl, rfl⟩
    refine oX7_numberOrNew_5 _ _ _ _ _ _ ?_
    simp only [bX7_numberOrNew_5, qsem, qopt_s, qopt2_s, qev, qxs, Nat.reduceEqDiff, reduceIte, and_true, true_and, and_false, false_and, and_self, or_true, true_or, qb_or, reduceCtorEq, qbr_True, qbr_False, q10, q01, qwC, hI.1, e, nIcl (show cF S < 1000 by omega), nI_1, qwC_34]
    refine qbr_i (fun c1 => ?_) (fun c1 => ?_)
    · refine qbr_t (hlt) ?_
      refine oX7_numberOrNew_22 _ _ _ _ _ _ ?_
      simp only [bX7_numberOrNew_22, qsem, qopt_s, qopt2_s, qev, qxs, Nat.reduceEqDiff, reduceIte, and_true, true_and, and_false, false_and, and_self, or_true, true_or, qb_or, reduceCtorEq, qbr_True, qbr_False, q10, q01, qwC, hI.1, e, nIcl (show cF S < 1000 by omega), nI_1, qwC_34]
      refine ⟨nI_vp hlt (by omega), ?_⟩
      refine ⟨nI_vp hlt (by omega), ?_⟩
      refine kX7_numberOrNew_55 (zX0_add (fsP_r hlt) hlt) (fs_c (fsP_r hlt) _ _ _) (Nat.le_of_ble_eq_true rfl) (Nat.le_of_ble_eq_true rfl) ⟨Nat.le_of_ble_eq_true rfl, Nat.le_of_ble_eq_true rfl⟩ ?_
      rintro _ _ ⟨C', rfl, rfl, hU⟩
      refine oX7_numberOrNew_58 _ _ _ _ _ _ ?_
      simp only [bX7_numberOrNew_58, qsem, qopt_s, qopt2_s, qev, qxs, Nat.reduceEqDiff, reduceIte, and_true, true_and, and_false, false_and, and_self, or_true, true_or, qb_or, reduceCtorEq, qbr_True, qbr_False, q10, q01, qwC, hI.1, e, nIcl (show cF S < 1000 by omega), nI_1, qwC_34]
      first | exact old (Or.inl c1) | exact hQ _ _ ⟨ri (ff_yes c1 h100).1.symm, C', rfl, Or.inr ⟨⟨c1, h100⟩, hU⟩⟩
    · refine oX7_numberOrNew_20 _ _ _ _ _ _ ?_
      simp only [bX7_numberOrNew_20, qsem, qopt_s, qopt2_s, qev, qxs, Nat.reduceEqDiff, reduceIte, and_true, true_and, and_false, false_and, and_self, or_true, true_or, qb_or, reduceCtorEq, qbr_True, qbr_False, q10, q01, qwC, hI.1, e, nIcl (show cF S < 1000 by omega), nI_1, qwC_34]
      first | exact old (Or.inl c1) | exact hQ _ _ ⟨ri (ff_yes c1 h100).1.symm, C', rfl, Or.inr ⟨⟨c1, h100⟩, hU⟩⟩
/-- the hands of a file in a row of bits -/
theorem sh_nI' {h : Nat} (hh : h < 12) : (1 : Int32) <<< (nI h &&& 31) = nI (2 ^ h) := sh_nI h hh
set_option maxRecDepth 100000 in
set_option maxHeartbeats 4000000 in
theorem zX7_setHand {C M : qC} {r : Nat × Nat × Nat} {S : qS} {p f h : Nat} {g : Nat → Bool} {b : Int32} (hg : ∀ (C M : qC) (r : Nat × Nat × Nat), qgI (wd C M r) p 0 = some (100, xA C p)) (hs : ∀ (C M : qC) (r : Nat × Nat × Nat) (f : Nat → Int32), qsI (wd C M r) p f = wd (yA C p f) M r) (h1 : W1 S) (hI : iF C S) (hf : f < cF S) (hh : h < 12) (hx : xA C p f = nI (bT g 12)) : CT mX7_setHand 1 0 0 [.ref 5, .ref p, .int (nI f), .int (nI h), .int b] (wd C M r) (fun r' w' => r' = none ∧ w' = wd (yA C p (upd (xA C p) f (nI (bT (fun j => if j = h then decide (¬ b = 0) else g j) 12)))) M r) := by
  have hF := h1.2.2.1
  have hc := nIcl (show f < 1000 by omega)
  have hih : isH (nI h) = true := decide_eq_true ⟨nI_pos' (by omega), nI_lt (b := 12) hh (by omega)⟩
  have hor : nI (bT g 12) ||| nI (2 ^ h) = nI (bT (fun j => if j = h then true else g j) 12) := by
    rw [or_nI, bT_or1 g hh]
    congr 1
    refine bT_cg (fun i hi => ?_)
    by_cases e : i = h
    · rw [if_pos e, decide_eq_true e, Bool.or_true]
    · rw [if_neg e, decide_eq_false e, Bool.or_false]
  have han : nI (bT g 12) &&& (nI (2 ^ h) ^^^ -1) = nI (bT (fun j => if j = h then false else g j) 12) := by
    rw [and_not (bT_12 g)]
    congr 1
    refine bT_cg (fun i hi => ?_)
    rw [bT_tb, decide_eq_true hi, Bool.true_and, Nat.testBit_two_pow]
    by_cases e : i = h
    · rw [if_pos e, decide_eq_true e.symm, Bool.not_true, Bool.and_false]
    · rw [if_neg e, decide_eq_false (Ne.symm e), Bool.not_false, Bool.and_true]
  refine eX7_setHand (AW_gen (fun Q hQ => ?_))
  refine oX7_setHand_0 _ _ _ _ _ _ ?_
  simp only [bX7_setHand_0, qsem, qopt_s, qopt2_s, qev, qxs, Nat.reduceEqDiff, reduceIte, and_true, true_and, and_false, false_and, and_self, or_true, true_or, qb_or, reduceCtorEq, qbr_True, qbr_False, q10, q01, qwC, hg, hs, isF_nI h1 hf, qb_t, hih, hc, hx, sh_nI' hh, hor, han]
  refine kX7_setHand_2 (zX7_has h1 hI) (rfl) (Nat.le_of_ble_eq_true rfl) (Nat.le_of_ble_eq_true rfl) ⟨Nat.le_of_ble_eq_true rfl, Nat.le_of_ble_eq_true rfl⟩ ?_
  rintro _ _ ⟨rfl, rfl⟩
  refine oX7_setHand_5 _ _ _ _ _ _ ?_
  simp only [bX7_setHand_5, qsem, qopt_s, qopt2_s, qev, qxs, Nat.reduceEqDiff, reduceIte, and_true, true_and, and_false, false_and, and_self, or_true, true_or, qb_or, reduceCtorEq, qbr_True, qbr_False, q10, q01, qwC, hg, hs, isF_nI h1 hf, qb_t, hih, hc, hx, sh_nI' hh, hor, han]
  refine kX7_setHand_9 (zX10_isHand) (Nat.le_of_ble_eq_true rfl) (Nat.le_of_ble_eq_true rfl) ⟨Nat.le_of_ble_eq_true rfl, Nat.le_of_ble_eq_true rfl⟩ ?_
  rintro _ _ ⟨rfl, rfl⟩
  refine oX7_setHand_12 _ _ _ _ _ _ ?_
  simp only [bX7_setHand_12, qsem, qopt_s, qopt2_s, qev, qxs, Nat.reduceEqDiff, reduceIte, and_true, true_and, and_false, false_and, and_self, or_true, true_or, qb_or, reduceCtorEq, qbr_True, qbr_False, q10, q01, qwC, hg, hs, isF_nI h1 hf, qb_t, hih, hc, hx, sh_nI' hh, hor, han]
  refine qbr_i (fun c1 => ?_) (fun c1 => ?_)
  · refine oX7_setHand_32 _ _ _ _ _ _ ?_
    simp only [bX7_setHand_32, qsem, qopt_s, qopt2_s, qev, qxs, Nat.reduceEqDiff, reduceIte, and_true, true_and, and_false, false_and, and_self, or_true, true_or, qb_or, reduceCtorEq, qbr_True, qbr_False, q10, q01, qwC, hg, hs, isF_nI h1 hf, qb_t, hih, hc, hx, sh_nI' hh, hor, han]
    refine ⟨nI_vp (by omega) (by omega), ?_⟩
    refine oX7_setHand_41 _ _ _ _ _ _ ?_
    simp only [bX7_setHand_41, qsem, qopt_s, qopt2_s, qev, qxs, Nat.reduceEqDiff, reduceIte, and_true, true_and, and_false, false_and, and_self, or_true, true_or, qb_or, reduceCtorEq, qbr_True, qbr_False, q10, q01, qwC, hg, hs, isF_nI h1 hf, qb_t, hih, hc, hx, sh_nI' hh, hor, han]
    refine ⟨nI_vp (by omega) (by omega), ?_⟩
    refine oX7_setHand_42 _ _ _ _ _ _ ?_
    simp only [bX7_setHand_42, qsem, qopt_s, qopt2_s, qev, qxs, Nat.reduceEqDiff, reduceIte, and_true, true_and, and_false, false_and, and_self, or_true, true_or, qb_or, reduceCtorEq, qbr_True, qbr_False, q10, q01, qwC, hg, hs, isF_nI h1 hf, qb_t, hih, hc, hx, sh_nI' hh, hor, han]
    first | (rw [decide_eq_false (fun q => q c1)] at hQ; exact hQ _ _ ⟨rfl, rfl⟩) | (rw [decide_eq_true c1] at hQ; exact hQ _ _ ⟨rfl, rfl⟩)
  · refine ⟨nI_vp (by omega) (by omega), ?_⟩
    refine oX7_setHand_41 _ _ _ _ _ _ ?_
    simp only [bX7_setHand_41, qsem, qopt_s, qopt2_s, qev, qxs, Nat.reduceEqDiff, reduceIte, and_true, true_and, and_false, false_and, and_self, or_true, true_or, qb_or, reduceCtorEq, qbr_True, qbr_False, q10, q01, qwC, hg, hs, isF_nI h1 hf, qb_t, hih, hc, hx, sh_nI' hh, hor, han]
    refine ⟨nI_vp (by omega) (by omega), ?_⟩
    refine oX7_setHand_42 _ _ _ _ _ _ ?_
    simp only [bX7_setHand_42, qsem, qopt_s, qopt2_s, qev, qxs, Nat.reduceEqDiff, reduceIte, and_true, true_and, and_false, false_and, and_self, or_true, true_or, qb_or, reduceCtorEq, qbr_True, qbr_False, q10, q01, qwC, hg, hs, isF_nI h1 hf, qb_t, hih, hc, hx, sh_nI' hh, hor, han]
    first | (rw [decide_eq_false (fun q => q c1)] at hQ; exact hQ _ _ ⟨rfl, rfl⟩) | (rw [decide_eq_true c1] at hQ; exact hQ _ _ ⟨rfl, rfl⟩)
set_option maxRecDepth 100000 in
set_option maxHeartbeats 4000000 in
theorem zX7_addMaker {C M : qC} {r : Nat × Nat × Nat} {S : qS} {f h : Nat} {g : Nat → Bool}  (h1 : W1 S) (hI : iF C S) (hf : f < cF S) (hh : h < 12) (hx : xA C 8 f = nI (bT g 12)) : CT mX7_addMaker 2 0 0 [.ref 5, .int (nI f), .int (nI h)] (wd C M r) (fun r' w' => r' = none ∧ w' = wd (yA C 8 (upd (xA C 8) f (nI (bT (fun j => if j = h then true else g j) 12)))) M r) := by
  refine eX7_addMaker (AW_gen (fun Q hQ => ?_))
  refine oX7_addMaker_0 _ _ _ _ _ _ ?_
  simp only [bX7_addMaker_0, qsem, qopt_s, qopt2_s, qev, qxs, Nat.reduceEqDiff, reduceIte, and_true, true_and, and_false, false_and, and_self, or_true, true_or, qb_or, reduceCtorEq, qbr_True, qbr_False, q10, q01, qwC]
  refine kX7_addMaker_8 (zX7_setHand (p := 8) qwC_35 qwC_97 h1 hI hf hh hx) (rfl) (Nat.le_of_ble_eq_true rfl) (Nat.le_of_ble_eq_true rfl) ⟨Nat.le_of_ble_eq_true rfl, Nat.le_of_ble_eq_true rfl⟩ ?_
  rintro _ _ ⟨rfl, rfl⟩
  refine oX7_addMaker_11 _ _ _ _ _ _ ?_
  simp only [bX7_addMaker_11, qsem, qopt_s, qopt2_s, qev, qxs, Nat.reduceEqDiff, reduceIte, and_true, true_and, and_false, false_and, and_self, or_true, true_or, qb_or, reduceCtorEq, qbr_True, qbr_False, q10, q01, qwC]
  exact hQ _ _ ⟨rfl, rfl⟩
set_option maxRecDepth 100000 in
set_option maxHeartbeats 4000000 in
theorem zX7_addBuilder {C M : qC} {r : Nat × Nat × Nat} {S : qS} {f h : Nat} {g : Nat → Bool}  (h1 : W1 S) (hI : iF C S) (hf : f < cF S) (hh : h < 12) (hx : xA C 9 f = nI (bT g 12)) : CT mX7_addBuilder 2 0 0 [.ref 5, .int (nI f), .int (nI h)] (wd C M r) (fun r' w' => r' = none ∧ w' = wd (yA C 9 (upd (xA C 9) f (nI (bT (fun j => if j = h then true else g j) 12)))) M r) := by
  refine eX7_addBuilder (AW_gen (fun Q hQ => ?_))
  refine oX7_addBuilder_0 _ _ _ _ _ _ ?_
  simp only [bX7_addBuilder_0, qsem, qopt_s, qopt2_s, qev, qxs, Nat.reduceEqDiff, reduceIte, and_true, true_and, and_false, false_and, and_self, or_true, true_or, qb_or, reduceCtorEq, qbr_True, qbr_False, q10, q01, qwC]
  refine kX7_addBuilder_8 (zX7_setHand (p := 9) qwC_36 qwC_98 h1 hI hf hh hx) (rfl) (Nat.le_of_ble_eq_true rfl) (Nat.le_of_ble_eq_true rfl) ⟨Nat.le_of_ble_eq_true rfl, Nat.le_of_ble_eq_true rfl⟩ ?_
  rintro _ _ ⟨rfl, rfl⟩
  refine oX7_addBuilder_11 _ _ _ _ _ _ ?_
  simp only [bX7_addBuilder_11, qsem, qopt_s, qopt2_s, qev, qxs, Nat.reduceEqDiff, reduceIte, and_true, true_and, and_false, false_and, and_self, or_true, true_or, qb_or, reduceCtorEq, qbr_True, qbr_False, q10, q01, qwC]
  exact hQ _ _ ⟨rfl, rfl⟩
set_option maxRecDepth 100000 in
set_option maxHeartbeats 4000000 in
theorem zX7_setTry {C M : qC} {r : Nat × Nat × Nat} {S : qS} {f h : Nat} {g : Nat → Bool} {b : Int32} (h1 : W1 S) (hI : iF C S) (hf : f < cF S) (hh : h < 12) (hx : xA C 10 f = nI (bT g 12)) : CT mX7_setTry 2 0 0 [.ref 5, .int (nI f), .int (nI h), .int b] (wd C M r) (fun r' w' => r' = none ∧ w' = wd (yA C 10 (upd (xA C 10) f (nI (bT (fun j => if j = h then decide (¬ b = 0) else g j) 12)))) M r) := by
  refine eX7_setTry (AW_gen (fun Q hQ => ?_))
  refine oX7_setTry_0 _ _ _ _ _ _ ?_
  simp only [bX7_setTry_0, qsem, qopt_s, qopt2_s, qev, qxs, Nat.reduceEqDiff, reduceIte, and_true, true_and, and_false, false_and, and_self, or_true, true_or, qb_or, reduceCtorEq, qbr_True, qbr_False, q10, q01, qwC]
  refine kX7_setTry_8 (zX7_setHand (p := 10) qwC_37 qwC_99 h1 hI hf hh hx) (rfl) (Nat.le_of_ble_eq_true rfl) (Nat.le_of_ble_eq_true rfl) ⟨Nat.le_of_ble_eq_true rfl, Nat.le_of_ble_eq_true rfl⟩ ?_
  rintro _ _ ⟨rfl, rfl⟩
  refine oX7_setTry_11 _ _ _ _ _ _ ?_
  simp only [bX7_setTry_11, qsem, qopt_s, qopt2_s, qev, qxs, Nat.reduceEqDiff, reduceIte, and_true, true_and, and_false, false_and, and_self, or_true, true_or, qb_or, reduceCtorEq, qbr_True, qbr_False, q10, q01, qwC]
  exact hQ _ _ ⟨rfl, rfl⟩
set_option maxRecDepth 100000 in
set_option maxHeartbeats 4000000 in
theorem zX7_setReview {C M : qC} {r : Nat × Nat × Nat} {S : qS} {f h : Nat} {g : Nat → Bool} {b : Int32} (h1 : W1 S) (hI : iF C S) (hf : f < cF S) (hh : h < 12) (hx : xA C 11 f = nI (bT g 12)) : CT mX7_setReview 2 0 0 [.ref 5, .int (nI f), .int (nI h), .int b] (wd C M r) (fun r' w' => r' = none ∧ w' = wd (yA C 11 (upd (xA C 11) f (nI (bT (fun j => if j = h then decide (¬ b = 0) else g j) 12)))) M r) := by
  refine eX7_setReview (AW_gen (fun Q hQ => ?_))
  refine oX7_setReview_0 _ _ _ _ _ _ ?_
  simp only [bX7_setReview_0, qsem, qopt_s, qopt2_s, qev, qxs, Nat.reduceEqDiff, reduceIte, and_true, true_and, and_false, false_and, and_self, or_true, true_or, qb_or, reduceCtorEq, qbr_True, qbr_False, q10, q01, qwC]
  refine kX7_setReview_8 (zX7_setHand (p := 11) qwC_38 qwC_100 h1 hI hf hh hx) (rfl) (Nat.le_of_ble_eq_true rfl) (Nat.le_of_ble_eq_true rfl) ⟨Nat.le_of_ble_eq_true rfl, Nat.le_of_ble_eq_true rfl⟩ ?_
  rintro _ _ ⟨rfl, rfl⟩
  refine oX7_setReview_11 _ _ _ _ _ _ ?_
  simp only [bX7_setReview_11, qsem, qopt_s, qopt2_s, qev, qxs, Nat.reduceEqDiff, reduceIte, and_true, true_and, and_false, false_and, and_self, or_true, true_or, qb_or, reduceCtorEq, qbr_True, qbr_False, q10, q01, qwC]
  exact hQ _ _ ⟨rfl, rfl⟩
/-- the rows grow by an input's row -/
def rwC (C : qC) (S : qS) (f i : Nat) (C' : qC) : Prop := xI C' = xI C ∧ xA C' = xA C ∧ xM C' = xM C ∧ (∀ q, ¬ (13 ≤ q ∧ q < 13 + cF S) → xL C' q = xL C q) ∧ ∀ k, k < cF S → ∀ j, j < 128 → fB C' (13 + k) j = (fB C (13 + k) j || (fB C (13 + k) f && fB C (13 + i) j))
set_option maxRecDepth 100000 in
set_option maxHeartbeats 4000000 in
theorem zX7_addInput {C M : qC} {r : Nat × Nat × Nat} {S : qS} {f : Nat} {a : Int32} (h1 : W1 S) (hI : iF C S) (hf : f < cF S) : CT mX7_addInput 1 0 0 [.ref 5, .int (nI f), .int a] (wd C M r) (fun r' w' => ∃ C', r' = none ∧ w' = wd C' M r ∧ ((isF S a = false ∧ C' = C) ∨ ∃ i, i < cF S ∧ a = nI i ∧ rwC C S f i C')) := by
  have hF := h1.2.2.1
  refine eX7_addInput (AW_gen (fun Q hQ => ?_))
  by_cases ha : isF S a = true
  · obtain ⟨i, hi, rfl⟩ := isF_of h1 ha
    have hci := nIcl (show i < 1000 by omega)
    have loop : ∀ (d k : Nat) (C' : qC), k + d = cF S → xI C' = xI C → xA C' = xA C → xM C' = xM C → (∀ q, ¬ (13 ≤ q ∧ q < 13 + cF S) → xL C' q = xL C q) → (∀ j, j < 128 → fB C' (13 + i) j = fB C (13 + i) j) → (∀ m, m < k → ∀ j, j < 128 → fB C' (13 + m) j = (fB C (13 + m) j || (fB C (13 + m) f && fB C (13 + i) j))) → (∀ m, k ≤ m → m < cF S → ∀ j, j < 128 → fB C' (13 + m) j = fB C (13 + m) j) → AW (mX7_addInput, 1, 0, 0, none, Q) 11 [some (.ref 5), some (.int (nI f)), some (.int (nI i)), some (.int (nI k))] [] (wd C' M r) 0 0 := by
      intro d
      induction d with
      | zero =>
        intro k C' hk e1 e2 e3 e4 e5 e6 e7
        obtain rfl : k = cF S := by omega
        have e0 : xI C' 5 7 = nI (cF S) := by rw [e1]; exact hI.1
        refine oX7_addInput_11 _ _ _ _ _ _ ?_
        simp only [bX7_addInput_11, qsem, qopt_s, qopt2_s, qev, qxs, Nat.reduceEqDiff, reduceIte, and_true, true_and, and_false, false_and, and_self, or_true, true_or, qb_or, reduceCtorEq, qbr_True, qbr_False, q10, q01, qwC, e0]
        refine qbr_t ((Int32.le_refl _)) ?_
        refine oX7_addInput_53 _ _ _ _ _ _ ?_
        simp only [bX7_addInput_53, qsem, qopt_s, qopt2_s, qev, qxs, Nat.reduceEqDiff, reduceIte, and_true, true_and, and_false, false_and, and_self, or_true, true_or, qb_or, reduceCtorEq, qbr_True, qbr_False, q10, q01, qwC, e0]
        exact hQ _ _ ⟨C', rfl, rfl, Or.inr ⟨i, hi, rfl, e1, e2, e3, e4, e6⟩⟩
      | succ d ih =>
        intro k C' hk e1 e2 e3 e4 e5 e6 e7
        have hkF : k < cF S := by omega
        have e0 : xI C' 5 7 = nI (cF S) := by rw [e1]; exact hI.1
        have hck := nIcl (show k < 1000 by omega)
        have hcf := nIcl (show f < 1000 by omega)
        have hp := fsP_r (show k < 100 by omega)
        have hq := fsP_r (show i < 100 by omega)
        have hh := zX0_has (C := C') (M := M) (r := r) (p := 13 + k) (a := nI f) hp
        rw [inNi (show f < 100 by omega) (by omega), Bool.true_and, hcf, e7 k (Nat.le_refl _) hkF f (by omega)] at hh
        by_cases hb : fB C (13 + k) f = true
        · rw [hb] at hh
          refine oX7_addInput_11 _ _ _ _ _ _ ?_
          simp only [bX7_addInput_11, qsem, qopt_s, qopt2_s, qev, qxs, Nat.reduceEqDiff, reduceIte, and_true, true_and, and_false, false_and, and_self, or_true, true_or, qb_or, reduceCtorEq, qbr_True, qbr_False, q10, q01, qwC, e0, hck, hci, qwC_34, qb_t, nI_1]
          refine qbr_f (nI_ge (by omega) (by omega)) ?_
          refine ⟨nI_vp (by omega) (by omega), ?_⟩
          refine kX7_addInput_26 (hh) (fs_c hp _ _ _) (Nat.le_of_ble_eq_true rfl) (Nat.le_of_ble_eq_true rfl) ⟨Nat.le_of_ble_eq_true rfl, Nat.le_of_ble_eq_true rfl⟩ ?_
          rintro _ _ ⟨rfl, rfl⟩
          refine oX7_addInput_29 _ _ _ _ _ _ ?_
          simp only [bX7_addInput_29, qsem, qopt_s, qopt2_s, qev, qxs, Nat.reduceEqDiff, reduceIte, and_true, true_and, and_false, false_and, and_self, or_true, true_or, qb_or, reduceCtorEq, qbr_True, qbr_False, q10, q01, qwC, e0, hck, hci, qwC_34, qb_t, nI_1]
          refine ⟨nI_vp (by omega) (by omega), ?_⟩
          refine ⟨nI_vp (by omega) (by omega), ?_⟩
          refine kX7_addInput_44 (zX0_addAll hp hq) (fs_c hp _ _ _) (Nat.le_of_ble_eq_true rfl) (Nat.le_of_ble_eq_true rfl) ⟨Nat.le_of_ble_eq_true rfl, Nat.le_of_ble_eq_true rfl⟩ ?_
          rintro _ _ ⟨C2, rfl, rfl, u1, u2, u3, u4, u5⟩
          refine oX7_addInput_47 _ _ _ _ _ _ ?_
          simp only [bX7_addInput_47, qsem, qopt_s, qopt2_s, qev, qxs, Nat.reduceEqDiff, reduceIte, and_true, true_and, and_false, false_and, and_self, or_true, true_or, qb_or, reduceCtorEq, qbr_True, qbr_False, q10, q01, qwC, e0, hck, hci, qwC_34, qb_t, nI_1]
          refine ih (k + 1) C2 (by omega) (u1.trans e1) (u2.trans e2) (u3.trans e3) (fun q hq => (u4 q (by omega)).trans (e4 q hq)) (fun j hj => ?_) (fun m hm j hj => ?_) (fun m hm hm2 j hj => ?_)
          · by_cases e : i = k; (subst e; exact (u5 j hj).trans (by show (fB C' (13 + i) j || fB C' (13 + i) j) = _; rw [e5 j hj, Bool.or_self])); (unfold fB; rw [u4 (13 + i) (by omega)]; exact e5 j hj)
          · by_cases e : m = k; (subst e; exact (u5 j hj).trans (by show (fB C' (13 + m) j || fB C' (13 + i) j) = _; rw [e7 m (Nat.le_refl _) hkF j hj, e5 j hj, hb, Bool.true_and])); (unfold fB; rw [u4 (13 + m) (by omega)]; exact e6 m (by omega) j hj)
          · unfold fB; rw [u4 (13 + m) (by omega)]; exact e7 m (by omega) hm2 j hj
        · have hb : fB C (13 + k) f = false := (Bool.not_eq_true _).mp hb
          rw [hb] at hh
          refine oX7_addInput_11 _ _ _ _ _ _ ?_
          simp only [bX7_addInput_11, qsem, qopt_s, qopt2_s, qev, qxs, Nat.reduceEqDiff, reduceIte, and_true, true_and, and_false, false_and, and_self, or_true, true_or, qb_or, reduceCtorEq, qbr_True, qbr_False, q10, q01, qwC, e0, hck, hci, qwC_34, qb_f, nI_1]
          refine qbr_f (nI_ge (by omega) (by omega)) ?_
          refine ⟨nI_vp (by omega) (by omega), ?_⟩
          refine kX7_addInput_26 (hh) (fs_c hp _ _ _) (Nat.le_of_ble_eq_true rfl) (Nat.le_of_ble_eq_true rfl) ⟨Nat.le_of_ble_eq_true rfl, Nat.le_of_ble_eq_true rfl⟩ ?_
          rintro _ _ ⟨rfl, rfl⟩
          refine oX7_addInput_29 _ _ _ _ _ _ ?_
          simp only [bX7_addInput_29, qsem, qopt_s, qopt2_s, qev, qxs, Nat.reduceEqDiff, reduceIte, and_true, true_and, and_false, false_and, and_self, or_true, true_or, qb_or, reduceCtorEq, qbr_True, qbr_False, q10, q01, qwC, e0, hck, hci, qwC_34, qb_f, nI_1]
          refine oX7_addInput_47 _ _ _ _ _ _ ?_
          simp only [bX7_addInput_47, qsem, qopt_s, qopt2_s, qev, qxs, Nat.reduceEqDiff, reduceIte, and_true, true_and, and_false, false_and, and_self, or_true, true_or, qb_or, reduceCtorEq, qbr_True, qbr_False, q10, q01, qwC, e0, hck, hci, qwC_34, qb_f, nI_1]
          refine ih (k + 1) C' (by omega) e1 e2 e3 e4 e5 (fun m hm j hj => ?_) (fun m hm hm2 j hj => e7 m (by omega) hm2 j hj)
          by_cases e : m = k
          · subst e; rw [e7 m (Nat.le_refl _) hkF j hj, hb, Bool.false_and, Bool.or_false]
          · exact e6 m (by omega) j hj
    refine oX7_addInput_0 _ _ _ _ _ _ ?_
    simp only [bX7_addInput_0, qsem, qopt_s, qopt2_s, qev, qxs, Nat.reduceEqDiff, reduceIte, and_true, true_and, and_false, false_and, and_self, or_true, true_or, qb_or, reduceCtorEq, qbr_True, qbr_False, q10, q01, qwC, ha, qb_t]
    refine kX7_addInput_2 (zX7_has h1 hI) (rfl) (Nat.le_of_ble_eq_true rfl) (Nat.le_of_ble_eq_true rfl) ⟨Nat.le_of_ble_eq_true rfl, Nat.le_of_ble_eq_true rfl⟩ ?_
    rintro _ _ ⟨rfl, rfl⟩
    refine oX7_addInput_5 _ _ _ _ _ _ ?_
    simp only [bX7_addInput_5, qsem, qopt_s, qopt2_s, qev, qxs, Nat.reduceEqDiff, reduceIte, and_true, true_and, and_false, false_and, and_self, or_true, true_or, qb_or, reduceCtorEq, qbr_True, qbr_False, q10, q01, qwC, ha, qb_t]
    refine oX7_addInput_9 _ _ _ _ _ _ ?_
    simp only [bX7_addInput_9, qsem, qopt_s, qopt2_s, qev, qxs, Nat.reduceEqDiff, reduceIte, and_true, true_and, and_false, false_and, and_self, or_true, true_or, qb_or, reduceCtorEq, qbr_True, qbr_False, q10, q01, qwC, ha, qb_t]
    exact loop (cF S) 0 C (by omega) rfl rfl rfl (fun _ _ => rfl) (fun _ _ => rfl) (fun m hm => by omega) (fun _ _ _ _ _ => rfl)
  · have ha2 : isF S a = false := (Bool.not_eq_true _).mp ha
    refine oX7_addInput_0 _ _ _ _ _ _ ?_
    simp only [bX7_addInput_0, qsem, qopt_s, qopt2_s, qev, qxs, Nat.reduceEqDiff, reduceIte, and_true, true_and, and_false, false_and, and_self, or_true, true_or, qb_or, reduceCtorEq, qbr_True, qbr_False, q10, q01, qwC, ha2, qb_f]
    refine kX7_addInput_2 (zX7_has h1 hI) (rfl) (Nat.le_of_ble_eq_true rfl) (Nat.le_of_ble_eq_true rfl) ⟨Nat.le_of_ble_eq_true rfl, Nat.le_of_ble_eq_true rfl⟩ ?_
    rintro _ _ ⟨rfl, rfl⟩
    refine oX7_addInput_5 _ _ _ _ _ _ ?_
    simp only [bX7_addInput_5, qsem, qopt_s, qopt2_s, qev, qxs, Nat.reduceEqDiff, reduceIte, and_true, true_and, and_false, false_and, and_self, or_true, true_or, qb_or, reduceCtorEq, qbr_True, qbr_False, q10, q01, qwC, ha2, qb_f]
    exact hQ _ _ ⟨C, rfl, rfl, Or.inl ⟨ha2, rfl⟩⟩
set_option maxRecDepth 100000 in
set_option maxHeartbeats 4000000 in
theorem zX7_rowHas {C M : qC} {r : Nat × Nat × Nat} {S : qS} {a : Int32} {o : Nat} (h1 : W1 S) (hI : iF C S) (hR : iR C S) (ho : o < 100) : CT mX7_rowHas 1 0 0 [.ref 5, .int a, .int (nI o)] (wd C M r) (fun r' w' => w' = wd C M r ∧ r' = some (.int (qb (dc (∃ i, i < cF S ∧ a = nI i ∧ reach S i o))))) := by
  have hF := h1.2.2.1
  refine eX7_rowHas (AW_gen (fun Q hQ => ?_))
  by_cases ha : isF S a = true
  · obtain ⟨i, hi, rfl⟩ := isF_of h1 ha
    have hci := nIcl (show i < 1000 by omega)
    have hco := nIcl (show o < 1000 by omega)
    have hp := fsP_r (show i < 100 by omega)
    have hh := zX0_has (C := C) (M := M) (r := r) (p := 13 + i) (a := nI o) hp
    rw [inNi ho (by omega), Bool.true_and, hco] at hh
    have hr := hR.1 i hi o (by omega)
    refine oX7_rowHas_0 _ _ _ _ _ _ ?_
    simp only [bX7_rowHas_0, qsem, qopt_s, qopt2_s, qev, qxs, Nat.reduceEqDiff, reduceIte, and_true, true_and, and_false, false_and, and_self, or_true, true_or, qb_or, reduceCtorEq, qbr_True, qbr_False, q10, q01, qwC, ha, qb_t, hci, qwC_34, qb_0]
    refine kX7_rowHas_2 (zX7_has h1 hI) (rfl) (Nat.le_of_ble_eq_true rfl) (Nat.le_of_ble_eq_true rfl) ⟨Nat.le_of_ble_eq_true rfl, Nat.le_of_ble_eq_true rfl⟩ ?_
    rintro _ _ ⟨rfl, rfl⟩
    refine oX7_rowHas_5 _ _ _ _ _ _ ?_
    simp only [bX7_rowHas_5, qsem, qopt_s, qopt2_s, qev, qxs, Nat.reduceEqDiff, reduceIte, and_true, true_and, and_false, false_and, and_self, or_true, true_or, qb_or, reduceCtorEq, qbr_True, qbr_False, q10, q01, qwC, ha, qb_t, hci, qwC_34, qb_0]
    refine ⟨nI_vp (by omega) (by omega), ?_⟩
    refine kX7_rowHas_15 (hh) (fs_c hp _ _ _) (Nat.le_of_ble_eq_true rfl) (Nat.le_of_ble_eq_true rfl) ⟨Nat.le_of_ble_eq_true rfl, Nat.le_of_ble_eq_true rfl⟩ ?_
    rintro _ _ ⟨rfl, rfl⟩
    refine oX7_rowHas_18 _ _ _ _ _ _ ?_
    simp only [bX7_rowHas_18, qsem, qopt_s, qopt2_s, qev, qxs, Nat.reduceEqDiff, reduceIte, and_true, true_and, and_false, false_and, and_self, or_true, true_or, qb_or, reduceCtorEq, qbr_True, qbr_False, q10, q01, qwC, ha, qb_t, hci, qwC_34, qb_0]
    refine qbr_i (fun c1 => ?_) (fun c1 => ?_)
    · refine oX7_rowHas_25 _ _ _ _ _ _ ?_
      simp only [bX7_rowHas_25, qsem, qopt_s, qopt2_s, qev, qxs, Nat.reduceEqDiff, reduceIte, and_true, true_and, and_false, false_and, and_self, or_true, true_or, qb_or, reduceCtorEq, qbr_True, qbr_False, q10, q01, qwC, ha, qb_t, hci, qwC_34, qb_0]
      refine oX7_rowHas_26 _ _ _ _ _ _ ?_
      simp only [bX7_rowHas_26, qsem, qopt_s, qopt2_s, qev, qxs, Nat.reduceEqDiff, reduceIte, and_true, true_and, and_false, false_and, and_self, or_true, true_or, qb_or, reduceCtorEq, qbr_True, qbr_False, q10, q01, qwC, ha, qb_t, hci, qwC_34, qb_0]
      first | exact hQ _ _ ⟨rfl, ri (qb_0of (dcf (fun ⟨k, hk, e, q⟩ => by rw [← i_ninj (by omega) (by omega) e] at q; rw [hr.mpr q] at c1; exact Bool.noConfusion c1)))⟩ | exact hQ _ _ ⟨rfl, ri (qb_1of (dc_iff.mpr ⟨i, hi, rfl, hr.mp ((Bool.not_eq_false _).mp c1)⟩))⟩
    · refine oX7_rowHas_26 _ _ _ _ _ _ ?_
      simp only [bX7_rowHas_26, qsem, qopt_s, qopt2_s, qev, qxs, Nat.reduceEqDiff, reduceIte, and_true, true_and, and_false, false_and, and_self, or_true, true_or, qb_or, reduceCtorEq, qbr_True, qbr_False, q10, q01, qwC, ha, qb_t, hci, qwC_34, qb_0]
      first | exact hQ _ _ ⟨rfl, ri (qb_0of (dcf (fun ⟨k, hk, e, q⟩ => by rw [← i_ninj (by omega) (by omega) e] at q; rw [hr.mpr q] at c1; exact Bool.noConfusion c1)))⟩ | exact hQ _ _ ⟨rfl, ri (qb_1of (dc_iff.mpr ⟨i, hi, rfl, hr.mp ((Bool.not_eq_false _).mp c1)⟩))⟩
  · have ha2 : isF S a = false := (Bool.not_eq_true _).mp ha
    refine oX7_rowHas_0 _ _ _ _ _ _ ?_
    simp only [bX7_rowHas_0, qsem, qopt_s, qopt2_s, qev, qxs, Nat.reduceEqDiff, reduceIte, and_true, true_and, and_false, false_and, and_self, or_true, true_or, qb_or, reduceCtorEq, qbr_True, qbr_False, q10, q01, qwC, ha2, qb_f]
    refine kX7_rowHas_2 (zX7_has h1 hI) (rfl) (Nat.le_of_ble_eq_true rfl) (Nat.le_of_ble_eq_true rfl) ⟨Nat.le_of_ble_eq_true rfl, Nat.le_of_ble_eq_true rfl⟩ ?_
    rintro _ _ ⟨rfl, rfl⟩
    refine oX7_rowHas_5 _ _ _ _ _ _ ?_
    simp only [bX7_rowHas_5, qsem, qopt_s, qopt2_s, qev, qxs, Nat.reduceEqDiff, reduceIte, and_true, true_and, and_false, false_and, and_self, or_true, true_or, qb_or, reduceCtorEq, qbr_True, qbr_False, q10, q01, qwC, ha2, qb_f]
    refine oX7_rowHas_25 _ _ _ _ _ _ ?_
    simp only [bX7_rowHas_25, qsem, qopt_s, qopt2_s, qev, qxs, Nat.reduceEqDiff, reduceIte, and_true, true_and, and_false, false_and, and_self, or_true, true_or, qb_or, reduceCtorEq, qbr_True, qbr_False, q10, q01, qwC, ha2, qb_f]
    refine oX7_rowHas_26 _ _ _ _ _ _ ?_
    simp only [bX7_rowHas_26, qsem, qopt_s, qopt2_s, qev, qxs, Nat.reduceEqDiff, reduceIte, and_true, true_and, and_false, false_and, and_self, or_true, true_or, qb_or, reduceCtorEq, qbr_True, qbr_False, q10, q01, qwC, ha2, qb_f]
    exact hQ _ _ ⟨rfl, ri (qb_0of (dcf (fun ⟨k, hk, e, q⟩ => ha (by rw [e]; exact isF_nI h1 hk))))⟩
set_option maxRecDepth 100000 in
set_option maxHeartbeats 4000000 in
theorem zX7_rowMeets {C M : qC} {r : Nat × Nat × Nat} {S : qS} {i : Nat} (h1 : W1 S) (hI : iF C S) (hi : i < cF S) : CT mX7_rowMeets 1 0 0 [.ref 5, .int (nI i), .ref 120] (wd C M r) (fun r' w' => w' = wd C M r ∧ ∃ b : Bool, r' = some (.int (qb b)) ∧ (b = true ↔ ∃ j, j < 128 ∧ fB C (13 + i) j = true ∧ fB C 120 j = true)) := by
  have hF := h1.2.2.1
  have hci := nIcl (show i < 1000 by omega)
  have hp := fsP_r (show i < 100 by omega)
  refine eX7_rowMeets (AW_gen (fun Q hQ => ?_))
  refine oX7_rowMeets_0 _ _ _ _ _ _ ?_
  simp only [bX7_rowMeets_0, qsem, qopt_s, qopt2_s, qev, qxs, Nat.reduceEqDiff, reduceIte, and_true, true_and, and_false, false_and, and_self, or_true, true_or, qb_or, reduceCtorEq, qbr_True, qbr_False, q10, q01, qwC, isF_nI h1 hi, qb_t, hci, qwC_34, qb_0]
  refine kX7_rowMeets_2 (zX7_has h1 hI) (rfl) (Nat.le_of_ble_eq_true rfl) (Nat.le_of_ble_eq_true rfl) ⟨Nat.le_of_ble_eq_true rfl, Nat.le_of_ble_eq_true rfl⟩ ?_
  rintro _ _ ⟨rfl, rfl⟩
  refine oX7_rowMeets_5 _ _ _ _ _ _ ?_
  simp only [bX7_rowMeets_5, qsem, qopt_s, qopt2_s, qev, qxs, Nat.reduceEqDiff, reduceIte, and_true, true_and, and_false, false_and, and_self, or_true, true_or, qb_or, reduceCtorEq, qbr_True, qbr_False, q10, q01, qwC, isF_nI h1 hi, qb_t, hci, qwC_34, qb_0]
  refine ⟨nI_vp (by omega) (by omega), ?_⟩
  refine kX7_rowMeets_15 (zX0_meets hp (Or.inr (Or.inr (Or.inr rfl)))) (fs_c hp _ _ _) (Nat.le_of_ble_eq_true rfl) (Nat.le_of_ble_eq_true rfl) ⟨Nat.le_of_ble_eq_true rfl, Nat.le_of_ble_eq_true rfl⟩ ?_
  rintro _ _ ⟨rfl, b, rfl, hb⟩
  refine oX7_rowMeets_18 _ _ _ _ _ _ ?_
  simp only [bX7_rowMeets_18, qsem, qopt_s, qopt2_s, qev, qxs, Nat.reduceEqDiff, reduceIte, and_true, true_and, and_false, false_and, and_self, or_true, true_or, qb_or, reduceCtorEq, qbr_True, qbr_False, q10, q01, qwC, isF_nI h1 hi, qb_t, hci, qwC_34, qb_0]
  refine qbr_i (fun c1 => ?_) (fun c1 => ?_)
  · refine oX7_rowMeets_25 _ _ _ _ _ _ ?_
    simp only [bX7_rowMeets_25, qsem, qopt_s, qopt2_s, qev, qxs, Nat.reduceEqDiff, reduceIte, and_true, true_and, and_false, false_and, and_self, or_true, true_or, qb_or, reduceCtorEq, qbr_True, qbr_False, q10, q01, qwC, isF_nI h1 hi, qb_t, hci, qwC_34, qb_0]
    refine oX7_rowMeets_26 _ _ _ _ _ _ ?_
    simp only [bX7_rowMeets_26, qsem, qopt_s, qopt2_s, qev, qxs, Nat.reduceEqDiff, reduceIte, and_true, true_and, and_false, false_and, and_self, or_true, true_or, qb_or, reduceCtorEq, qbr_True, qbr_False, q10, q01, qwC, isF_nI h1 hi, qb_t, hci, qwC_34, qb_0]
    first | exact hQ _ _ ⟨rfl, false, rfl, by rw [← hb, c1]⟩ | exact hQ _ _ ⟨rfl, true, rfl, by rw [← hb, (Bool.not_eq_false _).mp c1]⟩
  · refine oX7_rowMeets_26 _ _ _ _ _ _ ?_
    simp only [bX7_rowMeets_26, qsem, qopt_s, qopt2_s, qev, qxs, Nat.reduceEqDiff, reduceIte, and_true, true_and, and_false, false_and, and_self, or_true, true_or, qb_or, reduceCtorEq, qbr_True, qbr_False, q10, q01, qwC, isF_nI h1 hi, qb_t, hci, qwC_34, qb_0]
    first | exact hQ _ _ ⟨rfl, false, rfl, by rw [← hb, c1]⟩ | exact hQ _ _ ⟨rfl, true, rfl, by rw [← hb, (Bool.not_eq_false _).mp c1]⟩
theorem ct_top {p : Nat → Bool} {n m : Nat} (h : n ≤ m) (hz : ∀ k, n ≤ k → k < m → p k = false) : fb_ct p m = fb_ct p n := by
  obtain ⟨d, rfl⟩ : ∃ d, m = n + d := ⟨m - n, by omega⟩
  rw [fb_ct_split, fb_ct_zero.mpr (fun k hk => hz (n + k) (by omega) (by omega)), Nat.add_zero]
set_option maxRecDepth 100000 in
set_option maxHeartbeats 4000000 in
theorem zX7_rowSize {C M : qC} {r : Nat × Nat × Nat} {S : qS} {i : Nat} (h1 : W1 S) (hI : iF C S) (hR : iR C S) (hi : i < cF S) : CT mX7_rowSize 2 0 0 [.ref 5, .int (nI i)] (wd C M r) (fun r' w' => w' = wd C M r ∧ r' = some (.int (nI (fb_ct (fun g => dc (reach S i g)) (cF S))))) := by
  have hF := h1.2.2.1
  have hci := nIcl (show i < 1000 by omega)
  have hp := fsP_r (show i < 100 by omega)
  have e : fb_ct (fB C (13 + i)) 128 = fb_ct (fun g => dc (reach S i g)) (cF S) := by
    rw [ct_top (show cF S ≤ 128 by omega) (fun k hk hk2 => (Bool.not_eq_true _).mp (fun q => by have := reach_lt hi ((hR.1 i hi k hk2).mp q); omega))]
    exact ct_dc (fun k hk => hR.1 i hi k (by omega))
  refine eX7_rowSize (AW_gen (fun Q hQ => ?_))
  refine oX7_rowSize_0 _ _ _ _ _ _ ?_
  simp only [bX7_rowSize_0, qsem, qopt_s, qopt2_s, qev, qxs, Nat.reduceEqDiff, reduceIte, and_true, true_and, and_false, false_and, and_self, or_true, true_or, qb_or, reduceCtorEq, qbr_True, qbr_False, q10, q01, qwC, isF_nI h1 hi, qb_t, hci, qwC_34]
  refine kX7_rowSize_2 (zX7_has h1 hI) (rfl) (Nat.le_of_ble_eq_true rfl) (Nat.le_of_ble_eq_true rfl) ⟨Nat.le_of_ble_eq_true rfl, Nat.le_of_ble_eq_true rfl⟩ ?_
  rintro _ _ ⟨rfl, rfl⟩
  refine oX7_rowSize_5 _ _ _ _ _ _ ?_
  simp only [bX7_rowSize_5, qsem, qopt_s, qopt2_s, qev, qxs, Nat.reduceEqDiff, reduceIte, and_true, true_and, and_false, false_and, and_self, or_true, true_or, qb_or, reduceCtorEq, qbr_True, qbr_False, q10, q01, qwC, isF_nI h1 hi, qb_t, hci, qwC_34]
  refine ⟨nI_vp (by omega) (by omega), ?_⟩
  refine kX7_rowSize_14 (zX0_size hp) (fs_c hp _ _ _) (Nat.le_of_ble_eq_true rfl) (Nat.le_of_ble_eq_true rfl) ⟨Nat.le_of_ble_eq_true rfl, Nat.le_of_ble_eq_true rfl⟩ ?_
  rintro _ _ ⟨rfl, rfl⟩
  refine oX7_rowSize_17 _ _ _ _ _ _ ?_
  simp only [bX7_rowSize_17, qsem, qopt_s, qopt2_s, qev, qxs, Nat.reduceEqDiff, reduceIte, and_true, true_and, and_false, false_and, and_self, or_true, true_or, qb_or, reduceCtorEq, qbr_True, qbr_False, q10, q01, qwC, isF_nI h1 hi, qb_t, hci, qwC_34]
  refine oX7_rowSize_21 _ _ _ _ _ _ ?_
  simp only [bX7_rowSize_21, qsem, qopt_s, qopt2_s, qev, qxs, Nat.reduceEqDiff, reduceIte, and_true, true_and, and_false, false_and, and_self, or_true, true_or, qb_or, reduceCtorEq, qbr_True, qbr_False, q10, q01, qwC, isF_nI h1 hi, qb_t, hci, qwC_34]
  exact hQ _ _ ⟨rfl, ri (by rw [e])⟩


/-! the plain questions -/
theorem sel8_in {what : Int32} {v : Nat → Int32} {K : Nat} (hK : K ≤ 9) (h : ∀ k, K ≤ k → k < 9 → v k = -1) : sel8 what v = if inN what K then v what.toNatClampNeg else -1 := by
  by_cases hw : inN what K = true
  · obtain ⟨k, hk, rfl⟩ := inN_of (by omega) hw
    rw [hw, if_pos rfl, nIcl (show k < 1000 by omega)]
    rcases (show k = 0 ∨ k = 1 ∨ k = 2 ∨ k = 3 ∨ k = 4 ∨ k = 5 ∨ k = 6 ∨ k = 7 ∨ k = 8 by omega) with rfl | rfl | rfl | rfl | rfl | rfl | rfl | rfl | rfl <;> rfl
  · have hw : inN what K = false := (Bool.not_eq_true _).mp hw
    rw [hw, if_neg Bool.false_ne_true]
    refine sel8_d (fun k hk => ?_)
    by_cases hkK : K ≤ k
    · exact Or.inl (h k hkK hk)
    · refine Or.inr (fun e => ?_)
      rw [e, inNi (by omega) (by omega)] at hw
      exact Bool.noConfusion hw
set_option maxRecDepth 100000 in
set_option maxHeartbeats 4000000 in
theorem zX10_note {C M : qC} {r : Nat × Nat × Nat} {S : qS} {a what : Int32} (h1 : W1 S) (hI : iN C S) : CT mX10_note 2 0 0 [.ref 0, .int a, .int what] (wd C M r) (fun r' w' => w' = wd C M r ∧ r' = some (.int (if inN a (cN S) then sel8 what (ntV S a.toNatClampNeg) else -1))) := by
  have hN := h1.2.1
  have e : (if (inN a (cN S) && inN what 8) = true then xA C 2 (a.toNatClampNeg * 8 + what.toNatClampNeg) else -1) = (if inN a (cN S) then sel8 what (ntV S a.toNatClampNeg) else -1) := by
    by_cases ha : inN a (cN S) = true
    · obtain ⟨n, hn, rfl⟩ := inN_of (by omega) ha
      rw [ha, if_pos rfl, Bool.true_and, sel8_in (K := 8) (by omega) (fun k h1 h2 => by rw [show k = 8 by omega]; rfl), nIcl (show n < 1000 by omega)]
      by_cases hw : inN what 8 = true
      · obtain ⟨k, hk, rfl⟩ := inN_of (by omega) hw
        rw [hw, if_pos rfl, if_pos rfl, nIcl (show k < 1000 by omega)]
        exact hI.2.1 n hn k hk
      · rw [if_neg hw, if_neg hw]
    · have ha : inN a (cN S) = false := (Bool.not_eq_true _).mp ha
      rw [ha, Bool.false_and, if_neg Bool.false_ne_true, if_neg Bool.false_ne_true]
  have hc := zX8_cell_1 (C := C) (M := M) (r := r) (a := a) (b := what) hI.1 hN
  rw [e] at hc
  refine eX10_note (AW_gen (fun Q hQ => ?_))
  refine oX10_note_0 _ _ _ _ _ _ ?_
  simp only [bX10_note_0, qsem, qopt_s, qopt2_s, qev, qxs, Nat.reduceEqDiff, reduceIte, and_true, true_and, and_false, false_and, and_self, or_true, true_or, qb_or, reduceCtorEq, qbr_True, qbr_False, q10, q01, qwC]
  refine kX10_note_6 (hc) (rfl) (Nat.le_of_ble_eq_true rfl) (Nat.le_of_ble_eq_true rfl) ⟨Nat.le_of_ble_eq_true rfl, Nat.le_of_ble_eq_true rfl⟩ ?_
  rintro _ _ ⟨rfl, rfl⟩
  refine oX10_note_9 _ _ _ _ _ _ ?_
  simp only [bX10_note_9, qsem, qopt_s, qopt2_s, qev, qxs, Nat.reduceEqDiff, reduceIte, and_true, true_and, and_false, false_and, and_self, or_true, true_or, qb_or, reduceCtorEq, qbr_True, qbr_False, q10, q01, qwC]
  exact hQ _ _ ⟨rfl, rfl⟩
set_option maxRecDepth 100000 in
set_option maxHeartbeats 4000000 in
theorem zX10_key {C M : qC} {r : Nat × Nat × Nat} {S : qS} {a what : Int32} (hI : iK C S) (h6 : W6 S) : CT mX10_key 2 0 0 [.ref 0, .int a, .int what] (wd C M r) (fun r' w' => w' = wd C M r ∧ r' = some (.int (if isKy a then sel8 what (kyV S a.toNatClampNeg) else -1))) := by
  refine eX10_key (AW_gen (fun Q hQ => ?_))
  refine oX10_key_0 _ _ _ _ _ _ ?_
  simp only [bX10_key_0, qsem, qopt_s, qopt2_s, qev, qxs, Nat.reduceEqDiff, reduceIte, and_true, true_and, and_false, false_and, and_self, or_true, true_or, qb_or, reduceCtorEq, qbr_True, qbr_False, q10, q01, qwC]
  refine kX10_key_6 (zX2_tell hI h6) (rfl) (Nat.le_of_ble_eq_true rfl) (Nat.le_of_ble_eq_true rfl) ⟨Nat.le_of_ble_eq_true rfl, Nat.le_of_ble_eq_true rfl⟩ ?_
  rintro _ _ ⟨rfl, rfl⟩
  refine oX10_key_9 _ _ _ _ _ _ ?_
  simp only [bX10_key_9, qsem, qopt_s, qopt2_s, qev, qxs, Nat.reduceEqDiff, reduceIte, and_true, true_and, and_false, false_and, and_self, or_true, true_or, qb_or, reduceCtorEq, qbr_True, qbr_False, q10, q01, qwC]
  exact hQ _ _ ⟨rfl, rfl⟩
set_option maxRecDepth 100000 in
set_option maxHeartbeats 4000000 in
theorem zX10_hash {C M : qC} {r : Nat × Nat × Nat} {S : qS} {a : Int32} (h1 : W1 S) (hI : iF C S) : CT mX10_hash 2 0 0 [.ref 0, .int a] (wd C M r) (fun r' w' => w' = wd C M r ∧ r' = some (.long (if isF S a then S.2.2 a.toNatClampNeg else 0))) := by
  refine eX10_hash (AW_gen (fun Q hQ => ?_))
  refine oX10_hash_0 _ _ _ _ _ _ ?_
  simp only [bX10_hash_0, qsem, qopt_s, qopt2_s, qev, qxs, Nat.reduceEqDiff, reduceIte, and_true, true_and, and_false, false_and, and_self, or_true, true_or, qb_or, reduceCtorEq, qbr_True, qbr_False, q10, q01, qwC]
  refine kX10_hash_5 (zX7_hashOf h1 hI) (rfl) (Nat.le_of_ble_eq_true rfl) (Nat.le_of_ble_eq_true rfl) ⟨Nat.le_of_ble_eq_true rfl, Nat.le_of_ble_eq_true rfl⟩ ?_
  rintro _ _ ⟨rfl, rfl⟩
  refine oX10_hash_8 _ _ _ _ _ _ ?_
  simp only [bX10_hash_8, qsem, qopt_s, qopt2_s, qev, qxs, Nat.reduceEqDiff, reduceIte, and_true, true_and, and_false, false_and, and_self, or_true, true_or, qb_or, reduceCtorEq, qbr_True, qbr_False, q10, q01, qwC]
  exact hQ _ _ ⟨rfl, rfl⟩
set_option maxRecDepth 100000 in
set_option maxHeartbeats 4000000 in
theorem zX10_find {C M : qC} {r : Nat × Nat × Nat} {S : qS} {a : Int64} (h1 : W1 S) (hI : iF C S) : CT mX10_find 1 0 0 [.ref 0, .long a] (wd C M r) (fun r' w' => w' = wd C M r ∧ r' = some (.int (fd S a))) := by
  refine eX10_find (AW_gen (fun Q hQ => ?_))
  refine oX10_find_0 _ _ _ _ _ _ ?_
  simp only [bX10_find_0, qsem, qopt_s, qopt2_s, qev, qxs, Nat.reduceEqDiff, reduceIte, and_true, true_and, and_false, false_and, and_self, or_true, true_or, qb_or, reduceCtorEq, qbr_True, qbr_False, q10, q01, qwC]
  refine kX10_find_5 (zX7_numberOf h1 hI) (rfl) (Nat.le_of_ble_eq_true rfl) (Nat.le_of_ble_eq_true rfl) ⟨Nat.le_of_ble_eq_true rfl, Nat.le_of_ble_eq_true rfl⟩ ?_
  rintro _ _ ⟨rfl, rfl⟩
  refine oX10_find_8 _ _ _ _ _ _ ?_
  simp only [bX10_find_8, qsem, qopt_s, qopt2_s, qev, qxs, Nat.reduceEqDiff, reduceIte, and_true, true_and, and_false, false_and, and_self, or_true, true_or, qb_or, reduceCtorEq, qbr_True, qbr_False, q10, q01, qwC]
  exact hQ _ _ ⟨rfl, rfl⟩
set_option maxRecDepth 100000 in
set_option maxHeartbeats 4000000 in
theorem zX10_manyCalledBack {C M : qC} {r : Nat × Nat × Nat} {S : qS} (h1 : W1 S) (h2 : W2 S) (h5 : W5 S) (hI : iF C S) (hR : iR C S) (hM : iM C S) : CT mX10_manyCalledBack 3 0 0 [.ref 0] (wd C M r) (fun r' w' => w' = wd C M r ∧ r' = some (.int (nI (fb_ct (fun f => dc (cal S f)) (cF S))))) := by
  have hF := h1.2.2.1
  refine eX10_manyCalledBack (AW_gen (fun Q hQ => ?_))
  refine oX10_manyCalledBack_0 _ _ _ _ _ _ ?_
  simp only [bX10_manyCalledBack_0, qsem, qopt_s, qopt2_s, qev, qxs, Nat.reduceEqDiff, reduceIte, and_true, true_and, and_false, false_and, and_self, or_true, true_or, qb_or, reduceCtorEq, qbr_True, qbr_False, q10, q01, qwC]
  have loop : ∀ (d k : Nat), k + d = cF S → AW (mX10_manyCalledBack, 3, 0, 0, none, Q) 4 [some (.ref 0), some (.int (nI (fb_ct (fun f => dc (cal S f)) k))), some (.int (nI k))] [] (wd C M r) 0 0 := by
    intro d
    induction d with
    | zero =>
      intro k hk
      obtain rfl : k = cF S := by omega
      refine oX10_manyCalledBack_4 _ _ _ _ _ _ ?_
      simp only [bX10_manyCalledBack_4, qsem, qopt_s, qopt2_s, qev, qxs, Nat.reduceEqDiff, reduceIte, and_true, true_and, and_false, false_and, and_self, or_true, true_or, qb_or, reduceCtorEq, qbr_True, qbr_False, q10, q01, qwC]
      refine kX10_manyCalledBack_9 (zX7_size hI) (rfl) (Nat.le_of_ble_eq_true rfl) (Nat.le_of_ble_eq_true rfl) ⟨Nat.le_of_ble_eq_true rfl, Nat.le_of_ble_eq_true rfl⟩ ?_
      rintro _ _ ⟨rfl, rfl⟩
      refine oX10_manyCalledBack_12 _ _ _ _ _ _ ?_
      simp only [bX10_manyCalledBack_12, qsem, qopt_s, qopt2_s, qev, qxs, Nat.reduceEqDiff, reduceIte, and_true, true_and, and_false, false_and, and_self, or_true, true_or, qb_or, reduceCtorEq, qbr_True, qbr_False, q10, q01, qwC]
      refine qbr_t ((Int32.le_refl _)) ?_
      refine oX10_manyCalledBack_32 _ _ _ _ _ _ ?_
      simp only [bX10_manyCalledBack_32, qsem, qopt_s, qopt2_s, qev, qxs, Nat.reduceEqDiff, reduceIte, and_true, true_and, and_false, false_and, and_self, or_true, true_or, qb_or, reduceCtorEq, qbr_True, qbr_False, q10, q01, qwC]
      exact hQ _ _ ⟨rfl, rfl⟩
    | succ d ih =>
      intro k hk
      have hn := ih (k + 1) (by omega)
      rw [fb_ct_succ] at hn
      have e : ∀ (c : Nat) (b : Bool), nI c + qb b = nI (c + if b = true then 1 else 0) := fun c b => by cases b <;> simp [qb, nI_1]
      refine oX10_manyCalledBack_4 _ _ _ _ _ _ ?_
      simp only [bX10_manyCalledBack_4, qsem, qopt_s, qopt2_s, qev, qxs, Nat.reduceEqDiff, reduceIte, and_true, true_and, and_false, false_and, and_self, or_true, true_or, qb_or, reduceCtorEq, qbr_True, qbr_False, q10, q01, qwC, e, nI_1]
      refine kX10_manyCalledBack_9 (zX7_size hI) (rfl) (Nat.le_of_ble_eq_true rfl) (Nat.le_of_ble_eq_true rfl) ⟨Nat.le_of_ble_eq_true rfl, Nat.le_of_ble_eq_true rfl⟩ ?_
      rintro _ _ ⟨rfl, rfl⟩
      refine oX10_manyCalledBack_12 _ _ _ _ _ _ ?_
      simp only [bX10_manyCalledBack_12, qsem, qopt_s, qopt2_s, qev, qxs, Nat.reduceEqDiff, reduceIte, and_true, true_and, and_false, false_and, and_self, or_true, true_or, qb_or, reduceCtorEq, qbr_True, qbr_False, q10, q01, qwC, e, nI_1]
      refine qbr_f (nI_ge (by omega) (by omega)) ?_
      refine kX10_manyCalledBack_18 (zX10_isCalledBack h1 h2 h5 hI hR hM (show k < cF S by omega)) (rfl) (Nat.le_of_ble_eq_true rfl) (Nat.le_of_ble_eq_true rfl) ⟨Nat.le_of_ble_eq_true rfl, Nat.le_of_ble_eq_true rfl⟩ ?_
      rintro _ _ ⟨rfl, rfl⟩
      simp only [Option.toList_some, List.cons_append, List.nil_append]
      refine kX10_manyCalledBack_21 (zX10_bit) (Nat.le_of_ble_eq_true rfl) (Nat.le_of_ble_eq_true rfl) ⟨Nat.le_of_ble_eq_true rfl, Nat.le_of_ble_eq_true rfl⟩ ?_
      rintro _ _ ⟨rfl, rfl⟩
      refine oX10_manyCalledBack_24 _ _ _ _ _ _ ?_
      simp only [bX10_manyCalledBack_24, qsem, qopt_s, qopt2_s, qev, qxs, Nat.reduceEqDiff, reduceIte, and_true, true_and, and_false, false_and, and_self, or_true, true_or, qb_or, reduceCtorEq, qbr_True, qbr_False, q10, q01, qwC, e, nI_1]
      exact hn
  exact loop (cF S) 0 (by omega)
/-- the i-th -/
theorem nth_l {β : Nat → Bool} {F iN : Nat} : ∀ k, nthF β F (nI iN) k (nI iN) = nthF β F (nI iN) k (nI iN) := fun _ => rfl
set_option maxRecDepth 100000 in
set_option maxHeartbeats 4000000 in
theorem zX10_called {C M : qC} {r : Nat × Nat × Nat} {S : qS} {i : Int32} (h1 : W1 S) (h2 : W2 S) (h5 : W5 S) (hI : iF C S) (hR : iR C S) (hM : iM C S) : CT mX10_called 3 0 0 [.ref 0, .int i] (wd C M r) (fun r' w' => w' = wd C M r ∧ r' = some (.int (if i < 0 then -1 else nthF (fun f => dc (cal S f)) (cF S) i (cF S) 0))) := by
  have hF := h1.2.2.1
  refine eX10_called (AW_gen (fun Q hQ => ?_))
  by_cases hi : i < 0
  · refine oX10_called_0 _ _ _ _ _ _ ?_
    simp only [bX10_called_0, qsem, qopt_s, qopt2_s, qev, qxs, Nat.reduceEqDiff, reduceIte, and_true, true_and, and_false, false_and, and_self, or_true, true_or, qb_or, reduceCtorEq, qbr_True, qbr_False, q10, q01, qwC]
    skip
    by_cases h0 : cF S = 0
    · refine oX10_called_4 _ _ _ _ _ _ ?_
      simp only [bX10_called_4, qsem, qopt_s, qopt2_s, qev, qxs, Nat.reduceEqDiff, reduceIte, and_true, true_and, and_false, false_and, and_self, or_true, true_or, qb_or, reduceCtorEq, qbr_True, qbr_False, q10, q01, qwC, h0]
      refine kX10_called_9 (zX7_size hI) (rfl) (Nat.le_of_ble_eq_true rfl) (Nat.le_of_ble_eq_true rfl) ⟨Nat.le_of_ble_eq_true rfl, Nat.le_of_ble_eq_true rfl⟩ ?_
      rintro _ _ ⟨rfl, rfl⟩
      refine oX10_called_12 _ _ _ _ _ _ ?_
      simp only [bX10_called_12, qsem, qopt_s, qopt2_s, qev, qxs, Nat.reduceEqDiff, reduceIte, and_true, true_and, and_false, false_and, and_self, or_true, true_or, qb_or, reduceCtorEq, qbr_True, qbr_False, q10, q01, qwC, h0]
      refine qbr_t ((by decide)) ?_
      refine oX10_called_42 _ _ _ _ _ _ ?_
      simp only [bX10_called_42, qsem, qopt_s, qopt2_s, qev, qxs, Nat.reduceEqDiff, reduceIte, and_true, true_and, and_false, false_and, and_self, or_true, true_or, qb_or, reduceCtorEq, qbr_True, qbr_False, q10, q01, qwC, h0]
      exact hQ _ _ ⟨rfl, ri (by rw [if_pos hi])⟩
    · refine oX10_called_4 _ _ _ _ _ _ ?_
      simp only [bX10_called_4, qsem, qopt_s, qopt2_s, qev, qxs, Nat.reduceEqDiff, reduceIte, and_true, true_and, and_false, false_and, and_self, or_true, true_or, qb_or, reduceCtorEq, qbr_True, qbr_False, q10, q01, qwC]
      refine kX10_called_9 (zX7_size hI) (rfl) (Nat.le_of_ble_eq_true rfl) (Nat.le_of_ble_eq_true rfl) ⟨Nat.le_of_ble_eq_true rfl, Nat.le_of_ble_eq_true rfl⟩ ?_
      rintro _ _ ⟨rfl, rfl⟩
      refine oX10_called_12 _ _ _ _ _ _ ?_
      simp only [bX10_called_12, qsem, qopt_s, qopt2_s, qev, qxs, Nat.reduceEqDiff, reduceIte, and_true, true_and, and_false, false_and, and_self, or_true, true_or, qb_or, reduceCtorEq, qbr_True, qbr_False, q10, q01, qwC]
      refine qbr_f (nI_ge (a := 0) (by omega) (by omega)) ?_
      refine qbr_t (hi) ?_
      refine oX10_called_42 _ _ _ _ _ _ ?_
      simp only [bX10_called_42, qsem, qopt_s, qopt2_s, qev, qxs, Nat.reduceEqDiff, reduceIte, and_true, true_and, and_false, false_and, and_self, or_true, true_or, qb_or, reduceCtorEq, qbr_True, qbr_False, q10, q01, qwC]
      exact hQ _ _ ⟨rfl, ri (by rw [if_pos hi])⟩
  · obtain ⟨n, hn, rfl⟩ := i_of (Int32.not_lt.mp hi)
    rw [if_neg hi] at hQ
    generalize hres : nthF (fun f => dc (cal S f)) (cF S) (nI n) (cF S) 0 = R at hQ
    have loop : ∀ (d k s : Nat), k + d = cF S → s ≤ n → s ≤ k → nthF (fun f => dc (cal S f)) (cF S) (nI n) d (nI s) = R → AW (mX10_called, 3, 0, 0, none, Q) 4 [some (.ref 0), some (.int (nI n)), some (.int (nI (n - s))), some (.int (nI k))] [] (wd C M r) 0 0 := by
      intro d
      induction d with
      | zero =>
        intro k s hk hs hsk he
        obtain rfl : k = cF S := by omega
        refine oX10_called_4 _ _ _ _ _ _ ?_
        simp only [bX10_called_4, qsem, qopt_s, qopt2_s, qev, qxs, Nat.reduceEqDiff, reduceIte, and_true, true_and, and_false, false_and, and_self, or_true, true_or, qb_or, reduceCtorEq, qbr_True, qbr_False, q10, q01, qwC]
        refine kX10_called_9 (zX7_size hI) (rfl) (Nat.le_of_ble_eq_true rfl) (Nat.le_of_ble_eq_true rfl) ⟨Nat.le_of_ble_eq_true rfl, Nat.le_of_ble_eq_true rfl⟩ ?_
        rintro _ _ ⟨rfl, rfl⟩
        refine oX10_called_12 _ _ _ _ _ _ ?_
        simp only [bX10_called_12, qsem, qopt_s, qopt2_s, qev, qxs, Nat.reduceEqDiff, reduceIte, and_true, true_and, and_false, false_and, and_self, or_true, true_or, qb_or, reduceCtorEq, qbr_True, qbr_False, q10, q01, qwC]
        refine qbr_t ((Int32.le_refl _)) ?_
        refine oX10_called_42 _ _ _ _ _ _ ?_
        simp only [bX10_called_42, qsem, qopt_s, qopt2_s, qev, qxs, Nat.reduceEqDiff, reduceIte, and_true, true_and, and_false, false_and, and_self, or_true, true_or, qb_or, reduceCtorEq, qbr_True, qbr_False, q10, q01, qwC]
        exact hQ _ _ ⟨rfl, ri he⟩
      | succ d ih =>
        intro k s hk hs hsk he
        have hij : cF S - (d + 1) = k := by omega
        unfold nthF at he
        rw [hij] at he
        have hneg : ¬ nI (n - s) < 0 := Int32.not_lt.mpr (nI_pos' (by omega))
        have hcb := zX10_isCalledBack (C := C) (M := M) (r := r) h1 h2 h5 hI hR hM (show k < cF S by omega)
        have e0 : (nI (n - s) = 0) = (n - s = 0) := propext (nI_eq (b := 0) (by omega) (by omega))
        by_cases hc : cal S k
        · rw [dc_iff.mpr hc] at hcb
          simp only [dc_iff.mpr hc, if_true] at he
          by_cases hz : n - s = 0
          · have : s = n := by omega
            rw [if_pos (by rw [this])] at he
            refine oX10_called_4 _ _ _ _ _ _ ?_
            simp only [bX10_called_4, qsem, qopt_s, qopt2_s, qev, qxs, Nat.reduceEqDiff, reduceIte, and_true, true_and, and_false, false_and, and_self, or_true, true_or, qb_or, reduceCtorEq, qbr_True, qbr_False, q10, q01, qwC, qb_t, e0]
            refine kX10_called_9 (zX7_size hI) (rfl) (Nat.le_of_ble_eq_true rfl) (Nat.le_of_ble_eq_true rfl) ⟨Nat.le_of_ble_eq_true rfl, Nat.le_of_ble_eq_true rfl⟩ ?_
            rintro _ _ ⟨rfl, rfl⟩
            refine oX10_called_12 _ _ _ _ _ _ ?_
            simp only [bX10_called_12, qsem, qopt_s, qopt2_s, qev, qxs, Nat.reduceEqDiff, reduceIte, and_true, true_and, and_false, false_and, and_self, or_true, true_or, qb_or, reduceCtorEq, qbr_True, qbr_False, q10, q01, qwC, qb_t, e0]
            refine qbr_f (nI_ge (by omega) (by omega)) ?_
            refine qbr_f (hneg) ?_
            refine kX10_called_21 (hcb) (rfl) (Nat.le_of_ble_eq_true rfl) (Nat.le_of_ble_eq_true rfl) ⟨Nat.le_of_ble_eq_true rfl, Nat.le_of_ble_eq_true rfl⟩ ?_
            rintro _ _ ⟨rfl, rfl⟩
            refine oX10_called_24 _ _ _ _ _ _ ?_
            simp only [bX10_called_24, qsem, qopt_s, qopt2_s, qev, qxs, Nat.reduceEqDiff, reduceIte, and_true, true_and, and_false, false_and, and_self, or_true, true_or, qb_or, reduceCtorEq, qbr_True, qbr_False, q10, q01, qwC, qb_t, e0]
            refine qbr_t (hz) ?_
            exact hQ _ _ ⟨rfl, ri he⟩
          · rw [if_neg (fun q => hz (by have := i_ninj (by omega) (by omega) q; omega)), nI_1] at he
            have em : nI (n - s) + -1 = nI (n - (s + 1)) := by rw [nIpm (by omega)]; rfl
            refine oX10_called_4 _ _ _ _ _ _ ?_
            simp only [bX10_called_4, qsem, qopt_s, qopt2_s, qev, qxs, Nat.reduceEqDiff, reduceIte, and_true, true_and, and_false, false_and, and_self, or_true, true_or, qb_or, reduceCtorEq, qbr_True, qbr_False, q10, q01, qwC, qb_t, e0, em, nI_1]
            refine kX10_called_9 (zX7_size hI) (rfl) (Nat.le_of_ble_eq_true rfl) (Nat.le_of_ble_eq_true rfl) ⟨Nat.le_of_ble_eq_true rfl, Nat.le_of_ble_eq_true rfl⟩ ?_
            rintro _ _ ⟨rfl, rfl⟩
            refine oX10_called_12 _ _ _ _ _ _ ?_
            simp only [bX10_called_12, qsem, qopt_s, qopt2_s, qev, qxs, Nat.reduceEqDiff, reduceIte, and_true, true_and, and_false, false_and, and_self, or_true, true_or, qb_or, reduceCtorEq, qbr_True, qbr_False, q10, q01, qwC, qb_t, e0, em, nI_1]
            refine qbr_f (nI_ge (by omega) (by omega)) ?_
            refine qbr_f (hneg) ?_
            refine kX10_called_21 (hcb) (rfl) (Nat.le_of_ble_eq_true rfl) (Nat.le_of_ble_eq_true rfl) ⟨Nat.le_of_ble_eq_true rfl, Nat.le_of_ble_eq_true rfl⟩ ?_
            rintro _ _ ⟨rfl, rfl⟩
            refine oX10_called_24 _ _ _ _ _ _ ?_
            simp only [bX10_called_24, qsem, qopt_s, qopt2_s, qev, qxs, Nat.reduceEqDiff, reduceIte, and_true, true_and, and_false, false_and, and_self, or_true, true_or, qb_or, reduceCtorEq, qbr_True, qbr_False, q10, q01, qwC, qb_t, e0, em, nI_1]
            refine qbr_f (hz) ?_
            refine oX10_called_33 _ _ _ _ _ _ ?_
            simp only [bX10_called_33, qsem, qopt_s, qopt2_s, qev, qxs, Nat.reduceEqDiff, reduceIte, and_true, true_and, and_false, false_and, and_self, or_true, true_or, qb_or, reduceCtorEq, qbr_True, qbr_False, q10, q01, qwC, qb_t, e0, em, nI_1]
            refine oX10_called_36 _ _ _ _ _ _ ?_
            simp only [bX10_called_36, qsem, qopt_s, qopt2_s, qev, qxs, Nat.reduceEqDiff, reduceIte, and_true, true_and, and_false, false_and, and_self, or_true, true_or, qb_or, reduceCtorEq, qbr_True, qbr_False, q10, q01, qwC, qb_t, e0, em, nI_1]
            exact ih (k + 1) (s + 1) (by omega) (by omega) (by omega) he
        · rw [dcf hc] at hcb
          simp only [dcf hc, Bool.false_eq_true, if_false] at he
          refine oX10_called_4 _ _ _ _ _ _ ?_
          simp only [bX10_called_4, qsem, qopt_s, qopt2_s, qev, qxs, Nat.reduceEqDiff, reduceIte, and_true, true_and, and_false, false_and, and_self, or_true, true_or, qb_or, reduceCtorEq, qbr_True, qbr_False, q10, q01, qwC, qb_f, nI_1]
          refine kX10_called_9 (zX7_size hI) (rfl) (Nat.le_of_ble_eq_true rfl) (Nat.le_of_ble_eq_true rfl) ⟨Nat.le_of_ble_eq_true rfl, Nat.le_of_ble_eq_true rfl⟩ ?_
          rintro _ _ ⟨rfl, rfl⟩
          refine oX10_called_12 _ _ _ _ _ _ ?_
          simp only [bX10_called_12, qsem, qopt_s, qopt2_s, qev, qxs, Nat.reduceEqDiff, reduceIte, and_true, true_and, and_false, false_and, and_self, or_true, true_or, qb_or, reduceCtorEq, qbr_True, qbr_False, q10, q01, qwC, qb_f, nI_1]
          refine qbr_f (nI_ge (by omega) (by omega)) ?_
          refine qbr_f (hneg) ?_
          refine kX10_called_21 (hcb) (rfl) (Nat.le_of_ble_eq_true rfl) (Nat.le_of_ble_eq_true rfl) ⟨Nat.le_of_ble_eq_true rfl, Nat.le_of_ble_eq_true rfl⟩ ?_
          rintro _ _ ⟨rfl, rfl⟩
          refine oX10_called_24 _ _ _ _ _ _ ?_
          simp only [bX10_called_24, qsem, qopt_s, qopt2_s, qev, qxs, Nat.reduceEqDiff, reduceIte, and_true, true_and, and_false, false_and, and_self, or_true, true_or, qb_or, reduceCtorEq, qbr_True, qbr_False, q10, q01, qwC, qb_f, nI_1]
          refine oX10_called_36 _ _ _ _ _ _ ?_
          simp only [bX10_called_36, qsem, qopt_s, qopt2_s, qev, qxs, Nat.reduceEqDiff, reduceIte, and_true, true_and, and_false, false_and, and_self, or_true, true_or, qb_or, reduceCtorEq, qbr_True, qbr_False, q10, q01, qwC, qb_f, nI_1]
          exact ih (k + 1) s (by omega) hs (by omega) he
    refine oX10_called_0 _ _ _ _ _ _ ?_
    simp only [bX10_called_0, qsem, qopt_s, qopt2_s, qev, qxs, Nat.reduceEqDiff, reduceIte, and_true, true_and, and_false, false_and, and_self, or_true, true_or, qb_or, reduceCtorEq, qbr_True, qbr_False, q10, q01, qwC]
    exact loop (cF S) 0 0 (by omega) (by omega) (by omega) hres
set_option maxRecDepth 100000 in
set_option maxHeartbeats 4000000 in
theorem zX10_stands {C M : qC} {r : Nat × Nat × Nat} {S : qS} {s : Nat} (h1 : W1 S) (h2 : W2 S) (h4 : W4 S) (h5 : W5 S) (hS : iS C S) (hI : iF C S) (hR : iR C S) (hM : iM C S) (hK : iK C S) (hs : s < cS S) : CT mX10_stands 3 0 0 [.ref 0, .int (nI s)] (wd C M r) (fun r' w' => w' = wd C M r ∧ r' = some (.int (qb (dc (std S s))))) := by
  obtain ⟨⟨el, ll⟩, k, hk, ek⟩ := h4 s hs
  obtain ⟨-, ⟨eo, lo⟩, -, -⟩ := h2 _ ll
  have c0 := zX8_cS (C := C) (M := M) (r := r) 0 h1 hS hs (by omega)
  have c1' := zX8_cS (C := C) (M := M) (r := r) 1 h1 hS hs (by omega)
  have c2' := zX8_cS (C := C) (M := M) (r := r) 2 h1 hS hs (by omega)
  rw [show slV S false s 0 = nI (ofN S (sln S s)) from eo] at c0
  rw [show slV S false s 1 = nI k from ek] at c1'
  rw [show slV S false s 2 = nI (sln S s) from rfl] at c2'
  have hstd : std S s ↔ (S.2.1 153 k = -1 ∨ nI (sln S s) < S.2.1 153 k) ∧ ¬ cal S (ofN S (sln S s)) := by
    unfold std
    rw [ek, ky_c hk]
  have hcb := zX10_isCalledBack (C := C) (M := M) (r := r) h1 h2 h5 hI hR hM lo
  refine eX10_stands (AW_gen (fun Q hQ => ?_))
  have at40 : ∀ l : Bool, (l = false ↔ (S.2.1 153 k = -1 ∨ nI (sln S s) < S.2.1 153 k)) → ∀ o2 : Option Value, q_nb (some o2) = true → AW (mX10_stands, 3, 0, 0, none, Q) 40 [some (.ref 0), some (.int (nI s)), o2, none] [.int (qb l)] (wd C M r) 0 0 := by
    intro l hl o2 q2
    cases l with
    | true =>
      refine oX10_stands_40 _ _ _ _ _ _ ?_
      simp only [bX10_stands_40, qsem, qopt_s, qopt2_s, qev, qxs, Nat.reduceEqDiff, reduceIte, and_true, true_and, and_false, false_and, and_self, or_true, true_or, qb_or, reduceCtorEq, qbr_True, qbr_False, q10, q01, qwC, qb_t, q2]
      refine oX10_stands_65 _ _ _ _ _ _ ?_
      simp only [bX10_stands_65, qsem, qopt_s, qopt2_s, qev, qxs, Nat.reduceEqDiff, reduceIte, and_true, true_and, and_false, false_and, and_self, or_true, true_or, qb_or, reduceCtorEq, qbr_True, qbr_False, q10, q01, qwC, qb_t, q2]
      refine oX10_stands_66 _ _ _ _ _ _ ?_
      simp only [bX10_stands_66, qsem, qopt_s, qopt2_s, qev, qxs, Nat.reduceEqDiff, reduceIte, and_true, true_and, and_false, false_and, and_self, or_true, true_or, qb_or, reduceCtorEq, qbr_True, qbr_False, q10, q01, qwC, qb_t, q2]
      exact hQ _ _ ⟨rfl, ri (qb_0of (dcf (fun q => Bool.noConfusion (hl.mpr (hstd.mp q).1))))⟩
    | false =>
      refine oX10_stands_40 _ _ _ _ _ _ ?_
      simp only [bX10_stands_40, qsem, qopt_s, qopt2_s, qev, qxs, Nat.reduceEqDiff, reduceIte, and_true, true_and, and_false, false_and, and_self, or_true, true_or, qb_or, reduceCtorEq, qbr_True, qbr_False, q10, q01, qwC, qb_f, q2, qb_0]
      refine kX10_stands_52 (c0) (rfl) (Nat.le_of_ble_eq_true rfl) (Nat.le_of_ble_eq_true rfl) ⟨Nat.le_of_ble_eq_true rfl, Nat.le_of_ble_eq_true rfl⟩ ?_
      rintro _ _ ⟨rfl, rfl⟩
      refine kX10_stands_55 (hcb) (rfl) (Nat.le_of_ble_eq_true rfl) (Nat.le_of_ble_eq_true rfl) ⟨Nat.le_of_ble_eq_true rfl, Nat.le_of_ble_eq_true rfl⟩ ?_
      rintro _ _ ⟨rfl, rfl⟩
      refine oX10_stands_58 _ _ _ _ _ _ ?_
      simp only [bX10_stands_58, qsem, qopt_s, qopt2_s, qev, qxs, Nat.reduceEqDiff, reduceIte, and_true, true_and, and_false, false_and, and_self, or_true, true_or, qb_or, reduceCtorEq, qbr_True, qbr_False, q10, q01, qwC, qb_f, q2, qb_0]
      refine qbr_i (fun c1 => ?_) (fun c1 => ?_)
      · refine oX10_stands_66 _ _ _ _ _ _ ?_
        simp only [bX10_stands_66, qsem, qopt_s, qopt2_s, qev, qxs, Nat.reduceEqDiff, reduceIte, and_true, true_and, and_false, false_and, and_self, or_true, true_or, qb_or, reduceCtorEq, qbr_True, qbr_False, q10, q01, qwC, qb_f, q2, qb_0]
        first | exact hQ _ _ ⟨rfl, ri (qb_1of (dc_iff.mpr (hstd.mpr ⟨hl.mp rfl, fun q => Bool.false_ne_true (c1.symm.trans (dc_iff.mpr q))⟩)))⟩ | exact hQ _ _ ⟨rfl, ri (qb_0of (dcf (fun q => (hstd.mp q).2 (dc_iff.mp ((Bool.not_eq_false _).mp c1)))))⟩
      · refine oX10_stands_65 _ _ _ _ _ _ ?_
        simp only [bX10_stands_65, qsem, qopt_s, qopt2_s, qev, qxs, Nat.reduceEqDiff, reduceIte, and_true, true_and, and_false, false_and, and_self, or_true, true_or, qb_or, reduceCtorEq, qbr_True, qbr_False, q10, q01, qwC, qb_f, q2, qb_0]
        refine oX10_stands_66 _ _ _ _ _ _ ?_
        simp only [bX10_stands_66, qsem, qopt_s, qopt2_s, qev, qxs, Nat.reduceEqDiff, reduceIte, and_true, true_and, and_false, false_and, and_self, or_true, true_or, qb_or, reduceCtorEq, qbr_True, qbr_False, q10, q01, qwC, qb_f, q2, qb_0]
        first | exact hQ _ _ ⟨rfl, ri (qb_1of (dc_iff.mpr (hstd.mpr ⟨hl.mp rfl, fun q => Bool.false_ne_true (c1.symm.trans (dc_iff.mpr q))⟩)))⟩ | exact hQ _ _ ⟨rfl, ri (qb_0of (dcf (fun q => (hstd.mp q).2 (dc_iff.mp ((Bool.not_eq_false _).mp c1)))))⟩
  refine oX10_stands_0 _ _ _ _ _ _ ?_
  simp only [bX10_stands_0, qsem, qopt_s, qopt2_s, qev, qxs, Nat.reduceEqDiff, reduceIte, and_true, true_and, and_false, false_and, and_self, or_true, true_or, qb_or, reduceCtorEq, qbr_True, qbr_False, q10, q01, qwC]
  refine kX10_stands_10 (c1') (rfl) (Nat.le_of_ble_eq_true rfl) (Nat.le_of_ble_eq_true rfl) ⟨Nat.le_of_ble_eq_true rfl, Nat.le_of_ble_eq_true rfl⟩ ?_
  rintro _ _ ⟨rfl, rfl⟩
  refine kX10_stands_13 (zX2_lostSince hK hk) (rfl) (Nat.le_of_ble_eq_true rfl) (Nat.le_of_ble_eq_true rfl) ⟨Nat.le_of_ble_eq_true rfl, Nat.le_of_ble_eq_true rfl⟩ ?_
  rintro _ _ ⟨rfl, rfl⟩
  refine oX10_stands_16 _ _ _ _ _ _ ?_
  simp only [bX10_stands_16, qsem, qopt_s, qopt2_s, qev, qxs, Nat.reduceEqDiff, reduceIte, and_true, true_and, and_false, false_and, and_self, or_true, true_or, qb_or, reduceCtorEq, qbr_True, qbr_False, q10, q01, qwC]
  refine qbr_i (fun c1 => ?_) (fun c1 => ?_)
  · refine oX10_stands_39 _ _ _ _ _ _ ?_
    simp only [bX10_stands_39, qsem, qopt_s, qopt2_s, qev, qxs, Nat.reduceEqDiff, reduceIte, and_true, true_and, and_false, false_and, and_self, or_true, true_or, qb_or, reduceCtorEq, qbr_True, qbr_False, q10, q01, qwC]
    first | exact at40 false ⟨fun _ => Or.inl c1, fun _ => rfl⟩ _ rfl | exact at40 false ⟨fun _ => Or.inr c2, fun _ => rfl⟩ _ rfl | exact at40 true ⟨fun q => Bool.noConfusion q, fun q => absurd q (fun z => z.elim c1 c2)⟩ _ rfl
  · refine kX10_stands_28 (c2') (rfl) (Nat.le_of_ble_eq_true rfl) (Nat.le_of_ble_eq_true rfl) ⟨Nat.le_of_ble_eq_true rfl, Nat.le_of_ble_eq_true rfl⟩ ?_
    rintro _ _ ⟨rfl, rfl⟩
    refine oX10_stands_31 _ _ _ _ _ _ ?_
    simp only [bX10_stands_31, qsem, qopt_s, qopt2_s, qev, qxs, Nat.reduceEqDiff, reduceIte, and_true, true_and, and_false, false_and, and_self, or_true, true_or, qb_or, reduceCtorEq, qbr_True, qbr_False, q10, q01, qwC]
    refine qbr_i (fun c2 => ?_) (fun c2 => ?_)
    · refine oX10_stands_39 _ _ _ _ _ _ ?_
      simp only [bX10_stands_39, qsem, qopt_s, qopt2_s, qev, qxs, Nat.reduceEqDiff, reduceIte, and_true, true_and, and_false, false_and, and_self, or_true, true_or, qb_or, reduceCtorEq, qbr_True, qbr_False, q10, q01, qwC]
      first | exact at40 false ⟨fun _ => Or.inl c1, fun _ => rfl⟩ _ rfl | exact at40 false ⟨fun _ => Or.inr c2, fun _ => rfl⟩ _ rfl | exact at40 true ⟨fun q => Bool.noConfusion q, fun q => absurd q (fun z => z.elim c1 c2)⟩ _ rfl
    · first | exact at40 false ⟨fun _ => Or.inl c1, fun _ => rfl⟩ _ rfl | exact at40 false ⟨fun _ => Or.inr c2, fun _ => rfl⟩ _ rfl | exact at40 true ⟨fun q => Bool.noConfusion q, fun q => absurd q (fun z => z.elim c1 c2)⟩ _ rfl
set_option maxRecDepth 100000 in
set_option maxHeartbeats 4000000 in
theorem zX10_manyStanding {C M : qC} {r : Nat × Nat × Nat} {S : qS} {a : Int32} (h1 : W1 S) (h2 : W2 S) (h4 : W4 S) (h5 : W5 S) (hS : iS C S) (hI : iF C S) (hR : iR C S) (hM : iM C S) (hK : iK C S) : CT mX10_manyStanding 4 0 0 [.ref 0, .int a] (wd C M r) (fun r' w' => w' = wd C M r ∧ r' = some (.int (nI (fb_ct (fun s => dc ((a = -1 ∨ S.2.1 139 (sln S s) = a) ∧ std S s)) (cS S))))) := by
  have hN := h1.2.1
  have hcs := h1.2.2.2.2.2.2.1
  refine eX10_manyStanding (AW_gen (fun Q hQ => ?_))
  refine oX10_manyStanding_0 _ _ _ _ _ _ ?_
  simp only [bX10_manyStanding_0, qsem, qopt_s, qopt2_s, qev, qxs, Nat.reduceEqDiff, reduceIte, and_true, true_and, and_false, false_and, and_self, or_true, true_or, qb_or, reduceCtorEq, qbr_True, qbr_False, q10, q01, qwC]
  have loop : ∀ (d s : Nat), s + d = cS S → AW (mX10_manyStanding, 4, 0, 0, none, Q) 4 [some (.ref 0), some (.int a), some (.int (nI (fb_ct (fun s => dc ((a = -1 ∨ S.2.1 139 (sln S s) = a) ∧ std S s)) s))), some (.int (nI s))] [] (wd C M r) 0 0 := by
    intro d
    induction d with
    | zero =>
      intro s hs
      obtain rfl : s = cS S := by omega
      refine oX10_manyStanding_4 _ _ _ _ _ _ ?_
      simp only [bX10_manyStanding_4, qsem, qopt_s, qopt2_s, qev, qxs, Nat.reduceEqDiff, reduceIte, and_true, true_and, and_false, false_and, and_self, or_true, true_or, qb_or, reduceCtorEq, qbr_True, qbr_False, q10, q01, qwC, hS.1]
      refine kX10_manyStanding_9 (zX8_size_3) (rfl) (Nat.le_of_ble_eq_true rfl) (Nat.le_of_ble_eq_true rfl) ⟨Nat.le_of_ble_eq_true rfl, Nat.le_of_ble_eq_true rfl⟩ ?_
      rintro _ _ ⟨rfl, rfl⟩
      refine oX10_manyStanding_12 _ _ _ _ _ _ ?_
      simp only [bX10_manyStanding_12, qsem, qopt_s, qopt2_s, qev, qxs, Nat.reduceEqDiff, reduceIte, and_true, true_and, and_false, false_and, and_self, or_true, true_or, qb_or, reduceCtorEq, qbr_True, qbr_False, q10, q01, qwC, hS.1]
      refine qbr_t ((Int32.le_refl _)) ?_
      refine oX10_manyStanding_50 _ _ _ _ _ _ ?_
      simp only [bX10_manyStanding_50, qsem, qopt_s, qopt2_s, qev, qxs, Nat.reduceEqDiff, reduceIte, and_true, true_and, and_false, false_and, and_self, or_true, true_or, qb_or, reduceCtorEq, qbr_True, qbr_False, q10, q01, qwC, hS.1]
      exact hQ _ _ ⟨rfl, rfl⟩
    | succ d ih =>
      intro s hs
      have hsS : s < cS S := by omega
      have hn := ih (s + 1) (by omega)
      rw [fb_ct_succ] at hn
      have c0 := zX8_cS (C := C) (M := M) (r := r) 0 h1 hS hsS (by omega)
      rw [show slV S false s 0 = S.2.1 139 (sln S s) from rfl] at c0
      generalize fb_ct (fun s => dc ((a = -1 ∨ S.2.1 139 (sln S s) = a) ∧ std S s)) s = c at hn ⊢
      have no : ¬ ((a = -1 ∨ S.2.1 139 (sln S s) = a) ∧ std S s) → AW (mX10_manyStanding, 4, 0, 0, none, Q) 44 [some (.ref 0), some (.int a), some (.int (nI c)), some (.int (nI s))] [] (wd C M r) 0 0 := by
        intro hno
        rw [dcf hno] at hn
        refine oX10_manyStanding_44 _ _ _ _ _ _ ?_
        simp only [bX10_manyStanding_44, qsem, qopt_s, qopt2_s, qev, qxs, Nat.reduceEqDiff, reduceIte, and_true, true_and, and_false, false_and, and_self, or_true, true_or, qb_or, reduceCtorEq, qbr_True, qbr_False, q10, q01, qwC, nI_1]
        exact hn
      have at33 : (a = -1 ∨ S.2.1 139 (sln S s) = a) → AW (mX10_manyStanding, 4, 0, 0, none, Q) 33 [some (.ref 0), some (.int a), some (.int (nI c)), some (.int (nI s))] [] (wd C M r) 0 0 := by
        intro ha
        have hst := zX10_stands (C := C) (M := M) (r := r) h1 h2 h4 h5 hS hI hR hM hK hsS
        by_cases hc : std S s
        · rw [dc_iff.mpr hc] at hst
          rw [dc_iff.mpr ⟨ha, hc⟩] at hn
          refine oX10_manyStanding_33 _ _ _ _ _ _ ?_
          simp only [bX10_manyStanding_33, qsem, qopt_s, qopt2_s, qev, qxs, Nat.reduceEqDiff, reduceIte, and_true, true_and, and_false, false_and, and_self, or_true, true_or, qb_or, reduceCtorEq, qbr_True, qbr_False, q10, q01, qwC, qb_t, nI_1]
          refine kX10_manyStanding_35 (hst) (rfl) (Nat.le_of_ble_eq_true rfl) (Nat.le_of_ble_eq_true rfl) ⟨Nat.le_of_ble_eq_true rfl, Nat.le_of_ble_eq_true rfl⟩ ?_
          rintro _ _ ⟨rfl, rfl⟩
          refine oX10_manyStanding_38 _ _ _ _ _ _ ?_
          simp only [bX10_manyStanding_38, qsem, qopt_s, qopt2_s, qev, qxs, Nat.reduceEqDiff, reduceIte, and_true, true_and, and_false, false_and, and_self, or_true, true_or, qb_or, reduceCtorEq, qbr_True, qbr_False, q10, q01, qwC, qb_t, nI_1]
          refine oX10_manyStanding_44 _ _ _ _ _ _ ?_
          simp only [bX10_manyStanding_44, qsem, qopt_s, qopt2_s, qev, qxs, Nat.reduceEqDiff, reduceIte, and_true, true_and, and_false, false_and, and_self, or_true, true_or, qb_or, reduceCtorEq, qbr_True, qbr_False, q10, q01, qwC, qb_t, nI_1]
          exact hn
        · rw [dcf hc] at hst
          refine oX10_manyStanding_33 _ _ _ _ _ _ ?_
          simp only [bX10_manyStanding_33, qsem, qopt_s, qopt2_s, qev, qxs, Nat.reduceEqDiff, reduceIte, and_true, true_and, and_false, false_and, and_self, or_true, true_or, qb_or, reduceCtorEq, qbr_True, qbr_False, q10, q01, qwC, qb_f]
          refine kX10_manyStanding_35 (hst) (rfl) (Nat.le_of_ble_eq_true rfl) (Nat.le_of_ble_eq_true rfl) ⟨Nat.le_of_ble_eq_true rfl, Nat.le_of_ble_eq_true rfl⟩ ?_
          rintro _ _ ⟨rfl, rfl⟩
          refine oX10_manyStanding_38 _ _ _ _ _ _ ?_
          simp only [bX10_manyStanding_38, qsem, qopt_s, qopt2_s, qev, qxs, Nat.reduceEqDiff, reduceIte, and_true, true_and, and_false, false_and, and_self, or_true, true_or, qb_or, reduceCtorEq, qbr_True, qbr_False, q10, q01, qwC, qb_f]
          exact no (fun q => hc q.2)
      refine oX10_manyStanding_4 _ _ _ _ _ _ ?_
      simp only [bX10_manyStanding_4, qsem, qopt_s, qopt2_s, qev, qxs, Nat.reduceEqDiff, reduceIte, and_true, true_and, and_false, false_and, and_self, or_true, true_or, qb_or, reduceCtorEq, qbr_True, qbr_False, q10, q01, qwC, hS.1]
      refine kX10_manyStanding_9 (zX8_size_3) (rfl) (Nat.le_of_ble_eq_true rfl) (Nat.le_of_ble_eq_true rfl) ⟨Nat.le_of_ble_eq_true rfl, Nat.le_of_ble_eq_true rfl⟩ ?_
      rintro _ _ ⟨rfl, rfl⟩
      refine oX10_manyStanding_12 _ _ _ _ _ _ ?_
      simp only [bX10_manyStanding_12, qsem, qopt_s, qopt2_s, qev, qxs, Nat.reduceEqDiff, reduceIte, and_true, true_and, and_false, false_and, and_self, or_true, true_or, qb_or, reduceCtorEq, qbr_True, qbr_False, q10, q01, qwC, hS.1]
      refine qbr_f (nI_ge (by omega) (by omega)) ?_
      refine qbr_i (fun c1 => ?_) (fun c1 => ?_)
      · first | exact at33 (Or.inl c1) | exact at33 (Or.inr c2)
      · refine kX10_manyStanding_26 (c0) (rfl) (Nat.le_of_ble_eq_true rfl) (Nat.le_of_ble_eq_true rfl) ⟨Nat.le_of_ble_eq_true rfl, Nat.le_of_ble_eq_true rfl⟩ ?_
        rintro _ _ ⟨rfl, rfl⟩
        refine oX10_manyStanding_29 _ _ _ _ _ _ ?_
        simp only [bX10_manyStanding_29, qsem, qopt_s, qopt2_s, qev, qxs, Nat.reduceEqDiff, reduceIte, and_true, true_and, and_false, false_and, and_self, or_true, true_or, qb_or, reduceCtorEq, qbr_True, qbr_False, q10, q01, qwC, hS.1]
        refine qbr_i (fun c2 => ?_) (fun c2 => ?_)
        · first | exact at33 (Or.inl c1) | exact at33 (Or.inr c2)
        · exact no (fun q => q.1.elim c1 c2)
  exact loop (cS S) 0 (by omega)


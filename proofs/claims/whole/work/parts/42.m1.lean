set_option maxRecDepth 100000 in
set_option maxHeartbeats 4000000 in
theorem zX11_in {w : qW} {a b c : Int32} : CT mX11_in 0 0 0 [.int a, .int b, .int c] w (fun r w' => w' = w ∧ r = some (.int (qb (decide (b ≤ a ∧ a ≤ c))))) := by
  refine eX11_in ?_
  refine oX11_in_0 _ _ _ _ _ _ ?_
  simp only [bX11_in_0, qsem, qopt_s, qopt2_s, qev, qxs, Nat.reduceEqDiff, reduceIte, and_true, true_and, and_false, false_and, and_self, or_true, true_or, qb_or, reduceCtorEq, qbr_True, qbr_False, q10, q01, qwM]
  refine qbr_i (fun c1 => ?_) (fun c1 => ?_)
  · refine oX11_in_14 _ _ _ _ _ _ ?_
    simp only [bX11_in_14, qsem, qopt_s, qopt2_s, qev, qxs, Nat.reduceEqDiff, reduceIte, and_true, true_and, and_false, false_and, and_self, or_true, true_or, qb_or, reduceCtorEq, qbr_True, qbr_False, q10, q01, qwM]
    refine oX11_in_15 _ _ _ _ _ _ ?_
    simp only [bX11_in_15, qsem, qopt_s, qopt2_s, qev, qxs, Nat.reduceEqDiff, reduceIte, and_true, true_and, and_false, false_and, and_self, or_true, true_or, qb_or, reduceCtorEq, qbr_True, qbr_False, q10, q01, qwM]
    refine ri ?_
    simp only [i_le, i_lt] at *
    (first | rw [qb_dt (by omega)] | rw [qb_df (by omega)])
  · refine qbr_i (fun c2 => ?_) (fun c2 => ?_)
    · refine oX11_in_14 _ _ _ _ _ _ ?_
      simp only [bX11_in_14, qsem, qopt_s, qopt2_s, qev, qxs, Nat.reduceEqDiff, reduceIte, and_true, true_and, and_false, false_and, and_self, or_true, true_or, qb_or, reduceCtorEq, qbr_True, qbr_False, q10, q01, qwM]
      refine oX11_in_15 _ _ _ _ _ _ ?_
      simp only [bX11_in_15, qsem, qopt_s, qopt2_s, qev, qxs, Nat.reduceEqDiff, reduceIte, and_true, true_and, and_false, false_and, and_self, or_true, true_or, qb_or, reduceCtorEq, qbr_True, qbr_False, q10, q01, qwM]
      refine ri ?_
      simp only [i_le, i_lt] at *
      (first | rw [qb_dt (by omega)] | rw [qb_df (by omega)])
    · refine oX11_in_15 _ _ _ _ _ _ ?_
      simp only [bX11_in_15, qsem, qopt_s, qopt2_s, qev, qxs, Nat.reduceEqDiff, reduceIte, and_true, true_and, and_false, false_and, and_self, or_true, true_or, qb_or, reduceCtorEq, qbr_True, qbr_False, q10, q01, qwM]
      refine ri ?_
      simp only [i_le, i_lt] at *
      (first | rw [qb_dt (by omega)] | rw [qb_df (by omega)])
set_option maxRecDepth 100000 in
set_option maxHeartbeats 4000000 in
theorem zX11_isFile {C M : qC} {r : Nat × Nat × Nat} {S : qS} {a : Int32} (hS : pj M = S) (h1 : W1 S) : CT mX11_isFile 1 0 0 [.ref 136, .int a] (wd C M r) (fun r' w' => w' = wd C M r ∧ r' = some (.int (qb (isF S a)))) := by
  have hF := h1.2.2.1
  refine eX11_isFile ?_
  refine oX11_isFile_0 _ _ _ _ _ _ ?_
  simp only [bX11_isFile_0, qsem, qopt_s, qopt2_s, qev, qxs, Nat.reduceEqDiff, reduceIte, and_true, true_and, and_false, false_and, and_self, or_true, true_or, qb_or, reduceCtorEq, qbr_True, qbr_False, q10, q01, qwM, pjx hS]
  refine kX11_isFile_8 (zX11_in) (Nat.le_of_ble_eq_true rfl) (Nat.le_of_ble_eq_true rfl) ⟨Nat.le_of_ble_eq_true rfl, Nat.le_of_ble_eq_true rfl⟩ ?_
  rintro _ _ ⟨rfl, rfl⟩
  refine oX11_isFile_11 _ _ _ _ _ _ ?_
  simp only [bX11_isFile_11, qsem, qopt_s, qopt2_s, qev, qxs, Nat.reduceEqDiff, reduceIte, and_true, true_and, and_false, false_and, and_self, or_true, true_or, qb_or, reduceCtorEq, qbr_True, qbr_False, q10, q01, qwM, pjx hS]
  refine ri (qb_c ?_)
  refine decide_eq_decide.mpr ?_
  rw [h1.1.2.1, i_le, i_le, i_lt, i_sub1 (by omega), i_n (by omega), i_0]
  omega
set_option maxRecDepth 100000 in
set_option maxHeartbeats 4000000 in
theorem zX11_isHand {w : qW} {a : Int32} : CT mX11_isHand 1 0 0 [.int a] w (fun r w' => w' = w ∧ r = some (.int (qb (isH a)))) := by
  refine eX11_isHand ?_
  refine oX11_isHand_0 _ _ _ _ _ _ ?_
  simp only [bX11_isHand_0, qsem, qopt_s, qopt2_s, qev, qxs, Nat.reduceEqDiff, reduceIte, and_true, true_and, and_false, false_and, and_self, or_true, true_or, qb_or, reduceCtorEq, qbr_True, qbr_False, q10, q01, qwM]
  refine kX11_isHand_4 (zX11_in) (Nat.le_of_ble_eq_true rfl) (Nat.le_of_ble_eq_true rfl) ⟨Nat.le_of_ble_eq_true rfl, Nat.le_of_ble_eq_true rfl⟩ ?_
  rintro _ _ ⟨rfl, rfl⟩
  refine oX11_isHand_7 _ _ _ _ _ _ ?_
  simp only [bX11_isHand_7, qsem, qopt_s, qopt2_s, qev, qxs, Nat.reduceEqDiff, reduceIte, and_true, true_and, and_false, false_and, and_self, or_true, true_or, qb_or, reduceCtorEq, qbr_True, qbr_False, q10, q01, qwM]
  refine ri (qb_c ?_)
  refine decide_eq_decide.mpr ?_
  rw [i_le, i_le, i_lt]
  simp only [Int32.reduceToInt]
  omega
set_option maxRecDepth 100000 in
set_option maxHeartbeats 4000000 in
theorem zX11_isKey {w : qW} {a : Int32} : CT mX11_isKey 1 0 0 [.int a] w (fun r w' => w' = w ∧ r = some (.int (qb (isKy a)))) := by
  refine eX11_isKey ?_
  refine oX11_isKey_0 _ _ _ _ _ _ ?_
  simp only [bX11_isKey_0, qsem, qopt_s, qopt2_s, qev, qxs, Nat.reduceEqDiff, reduceIte, and_true, true_and, and_false, false_and, and_self, or_true, true_or, qb_or, reduceCtorEq, qbr_True, qbr_False, q10, q01, qwM]
  refine kX11_isKey_3 (zX11_in) (Nat.le_of_ble_eq_true rfl) (Nat.le_of_ble_eq_true rfl) ⟨Nat.le_of_ble_eq_true rfl, Nat.le_of_ble_eq_true rfl⟩ ?_
  rintro _ _ ⟨rfl, rfl⟩
  refine oX11_isKey_6 _ _ _ _ _ _ ?_
  simp only [bX11_isKey_6, qsem, qopt_s, qopt2_s, qev, qxs, Nat.reduceEqDiff, reduceIte, and_true, true_and, and_false, false_and, and_self, or_true, true_or, qb_or, reduceCtorEq, qbr_True, qbr_False, q10, q01, qwM]
  refine ri (qb_c ?_)
  refine decide_eq_decide.mpr ?_
  rw [i_le, i_le, i_lt]
  simp only [Int32.reduceToInt]
  omega
/-- the file with a hash -/
def fnd (S : qS) (h : Int64) : Nat → Int32
  | 0 => -1
  | k + 1 => let j := cF S - (k + 1); if S.2.2 j = h then nI j else fnd S h k
def fd (S : qS) (h : Int64) : Int32 := fnd S h (cF S)
set_option maxRecDepth 100000 in
set_option maxHeartbeats 4000000 in
theorem zX11_find {C M : qC} {r : Nat × Nat × Nat} {S : qS} {a : Int64} (hS : pj M = S) (h1 : W1 S) : CT mX11_find 0 0 0 [.ref 136, .long a] (wd C M r) (fun r' w' => w' = wd C M r ∧ r' = some (.int (fd S a))) := by
  have hF := h1.2.2.1
  refine eX11_find ?_
  refine oX11_find_0 _ _ _ _ _ _ ?_
  simp only [bX11_find_0, qsem, qopt_s, qopt2_s, qev, qxs, Nat.reduceEqDiff, reduceIte, and_true, true_and, and_false, false_and, and_self, or_true, true_or, qb_or, reduceCtorEq, qbr_True, qbr_False, q10, q01, qwM]
  have loop : ∀ k i : Nat, cF S = i + k → fnd S a k = fd S a → AW (mX11_find, 0, 0, 0, none, fun r' w' => w' = wd C M r ∧ r' = some (.int (fd S a))) 2 [some (.ref 136), some (.long a), none, some (.int (nI i))] [] (wd C M r) 0 0 := by
    intro k
    induction k with
    | zero =>
      intro i hi hf
      refine oX11_find_2 _ _ _ _ _ _ ?_
      simp only [bX11_find_2, qsem, qopt_s, qopt2_s, qev, qxs, Nat.reduceEqDiff, reduceIte, and_true, true_and, and_false, false_and, and_self, or_true, true_or, qb_or, reduceCtorEq, qbr_True, qbr_False, q10, q01, qwM, pjx hS, h1.1.2.1, lg0, nI_clamp (show i < 2 ^ 31 by omega)]
      refine qbr_t (nI_le (show cF S ≤ i by omega) (by omega)) ?_
      refine oX11_find_29 _ _ _ _ _ _ ?_
      simp only [bX11_find_29, qsem, qopt_s, qopt2_s, qev, qxs, Nat.reduceEqDiff, reduceIte, and_true, true_and, and_false, false_and, and_self, or_true, true_or, qb_or, reduceCtorEq, qbr_True, qbr_False, q10, q01, qwM, pjx hS, h1.1.2.1, lg0, nI_clamp (show i < 2 ^ 31 by omega)]
      exact ri hf
    | succ k ih =>
      intro i hi hf
      have hij : cF S - (k + 1) = i := by omega
      have hf2 : fd S a = if S.2.2 i = a then nI i else fnd S a k := by rw [← hf]; simp only [fnd, hij]
      refine oX11_find_2 _ _ _ _ _ _ ?_
      simp only [bX11_find_2, qsem, qopt_s, qopt2_s, qev, qxs, Nat.reduceEqDiff, reduceIte, and_true, true_and, and_false, false_and, and_self, or_true, true_or, qb_or, reduceCtorEq, qbr_True, qbr_False, q10, q01, qwM, pjx hS, h1.1.2.1, lg0, nI_clamp (show i < 2 ^ 31 by omega)]
      refine qbr_f (nI_ge (by omega) (by omega)) ?_
      refine ⟨nI_vp (by omega) (by omega), ?_⟩
      refine qbr_i (fun c1 => ?_) (fun c1 => ?_)
      · exact ri (by rw [hf2, if_pos c1])
      · refine oX11_find_23 _ _ _ _ _ _ ?_
        simp only [bX11_find_23, qsem, qopt_s, qopt2_s, qev, qxs, Nat.reduceEqDiff, reduceIte, and_true, true_and, and_false, false_and, and_self, or_true, true_or, qb_or, reduceCtorEq, qbr_True, qbr_False, q10, q01, qwM, pjx hS, h1.1.2.1, lg0, nI_clamp (show i < 2 ^ 31 by omega)]
        rw [nI_1]
        exact ih (i + 1) (by omega) (by rw [hf2, if_neg c1])
  exact loop (cF S) 0 (by omega) rfl


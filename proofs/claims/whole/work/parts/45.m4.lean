def fk (a b c : Int32) (k : Nat) : Int32 := if k = 0 then a else if k = 1 then b else c
def stir (S : qS) (x : Int64) (f : Int32) : Int64 := if f = -1 then x else (x ^^^ S.2.2 f.toNatClampNeg) * 6364136223846793005 + 1442695040888963407
def mxL (S : qS) (t a b c : Int32) : Nat → Int64
  | 0 => t.toInt64 + 1
  | k + 1 => stir S (mxL S t a b c k) (fk a b c k)
def mx (S : qS) (t a b c : Int32) : Int64 := mxL S t a b c 3
theorem areF_k {S : qS} {a b c : Int32} (h : areF S a b c = true) (k : Nat) : fk a b c k = -1 ∨ isF S (fk a b c k) = true := by
  unfold areF at h
  simp only [Bool.and_eq_true, Bool.or_eq_true, beq_iff_eq] at h
  unfold fk
  split
  · exact Or.inr h.1.1
  · split
    · exact h.1.2
    · exact h.2.imp id (fun q => q.2)
set_option maxRecDepth 100000 in
set_option maxHeartbeats 4000000 in
theorem zX11_mixOf {C M : qC} {r : Nat × Nat × Nat} {S : qS} {t a b c : Int32} (hS : pj M = S) (h1 : W1 S) (hf : areF S a b c = true) : CT mX11_mixOf 0 0 0 [.ref 136, .int t, .int a, .int b, .int c] (wd C M r) (fun r' w' => w' = wd C M r ∧ r' = some (.long (mx S t a b c))) := by
  have hF := h1.2.2.1
  refine eX11_mixOf (AW_gen (fun Q hQ => ?_))
  refine oX11_mixOf_0 _ _ _ _ _ _ ?_
  simp only [bX11_mixOf_0, qsem, qopt_s, qopt2_s, qev, qxs, Nat.reduceEqDiff, reduceIte, and_true, true_and, and_false, false_and, and_self, or_true, true_or, qb_or, reduceCtorEq, qbr_True, qbr_False, q10, q01, qwM]
  have loop : ∀ (j k : Nat) (o : Option Value), k + j = 3 → q_nb (some o) = true → AW (mX11_mixOf, 0, 0, 0, none, Q) 9 [some (.ref 136), some (.int t), some (.int a), some (.int b), some (.int c), some (.long (mxL S t a b c k)), none, some (.int (nI k)), o] [] (wd C M r) 0 0 := by
    intro j
    induction j with
    | zero =>
      intro k o hk ho
      obtain rfl : k = 3 := by omega
      refine oX11_mixOf_9 _ _ _ _ _ _ ?_
      simp only [bX11_mixOf_9, qsem, qopt_s, qopt2_s, qev, qxs, Nat.reduceEqDiff, reduceIte, and_true, true_and, and_false, false_and, and_self, or_true, true_or, qb_or, reduceCtorEq, qbr_True, qbr_False, q10, q01, qwM]
      refine qbr_t ((by decide)) ?_
      refine oX11_mixOf_70 _ _ _ _ _ _ ?_
      simp only [bX11_mixOf_70, qsem, qopt_s, qopt2_s, qev, qxs, Nat.reduceEqDiff, reduceIte, and_true, true_and, and_false, false_and, and_self, or_true, true_or, qb_or, reduceCtorEq, qbr_True, qbr_False, q10, q01, qwM]
      exact hQ _ _ ⟨rfl, rfl⟩
    | succ j ih =>
      intro k o hk ho
      have e3 : ¬ (3 : Int32) ≤ nI k := nI_ge (b := 3) (by omega) (by omega)
      have e0 : (nI k = 0) = (k = 0) := propext (nI_eq (b := 0) (by omega) (by omega))
      have e1 : (nI k = 1) = (k = 1) := propext (nI_eq (b := 1) (by omega) (by omega))
      have tail : AW (mX11_mixOf, 0, 0, 0, none, Q) 36 [some (.ref 136), some (.int t), some (.int a), some (.int b), some (.int c), some (.long (mxL S t a b c k)), none, some (.int (nI k)), o] [.int (fk a b c k)] (wd C M r) 0 0 := by
        have hk2 := areF_k hf k
        generalize hy : fk a b c k = y at hk2 ⊢
        have hm : mxL S t a b c (k + 1) = stir S (mxL S t a b c k) y := by rw [← hy]; rfl
        refine oX11_mixOf_36 _ _ _ _ _ _ ?_
        simp only [bX11_mixOf_36, qsem, qopt_s, qopt2_s, qev, qxs, Nat.reduceEqDiff, reduceIte, and_true, true_and, and_false, false_and, and_self, or_true, true_or, qb_or, reduceCtorEq, qbr_True, qbr_False, q10, q01, qwM, pjx hS]
        refine qbr_i (fun c1 => ?_) (fun c1 => ?_)
        · refine oX11_mixOf_64 _ _ _ _ _ _ ?_
          simp only [bX11_mixOf_64, qsem, qopt_s, qopt2_s, qev, qxs, Nat.reduceEqDiff, reduceIte, and_true, true_and, and_false, false_and, and_self, or_true, true_or, qb_or, reduceCtorEq, qbr_True, qbr_False, q10, q01, qwM, pjx hS]
          rw [nI_1]
          have ht := ih (k + 1) (some (.int y)) (by omega) rfl
          rw [hm] at ht
          unfold stir at ht
          first | rw [if_pos c1] at ht | rw [if_neg c1] at ht
          exact ht
        · refine ⟨by rcases hk2 with q | q; exact absurd q c1; obtain ⟨i, hi, rfl⟩ := isF_of h1 q; exact nI_vp (by omega) (by omega), ?_⟩
          refine oX11_mixOf_64 _ _ _ _ _ _ ?_
          simp only [bX11_mixOf_64, qsem, qopt_s, qopt2_s, qev, qxs, Nat.reduceEqDiff, reduceIte, and_true, true_and, and_false, false_and, and_self, or_true, true_or, qb_or, reduceCtorEq, qbr_True, qbr_False, q10, q01, qwM, pjx hS]
          rw [nI_1]
          have ht := ih (k + 1) (some (.int y)) (by omega) rfl
          rw [hm] at ht
          unfold stir at ht
          first | rw [if_pos c1] at ht | rw [if_neg c1] at ht
          exact ht
      refine oX11_mixOf_9 _ _ _ _ _ _ ?_
      simp only [bX11_mixOf_9, qsem, qopt_s, qopt2_s, qev, qxs, Nat.reduceEqDiff, reduceIte, and_true, true_and, and_false, false_and, and_self, or_true, true_or, qb_or, reduceCtorEq, qbr_True, qbr_False, q10, q01, qwM, e0, e1]
      refine qbr_f (e3) ?_
      refine qbr_i (fun c1 => ?_) (fun c1 => ?_)
      · unfold fk at tail
        first | (rw [if_pos c1] at tail; exact tail) | (rw [if_neg c1, if_pos c2] at tail; exact tail) | (rw [if_neg c1, if_neg c2] at tail; exact tail)
      · refine oX11_mixOf_24 _ _ _ _ _ _ ?_
        simp only [bX11_mixOf_24, qsem, qopt_s, qopt2_s, qev, qxs, Nat.reduceEqDiff, reduceIte, and_true, true_and, and_false, false_and, and_self, or_true, true_or, qb_or, reduceCtorEq, qbr_True, qbr_False, q10, q01, qwM, e0, e1]
        refine qbr_i (fun c2 => ?_) (fun c2 => ?_)
        · unfold fk at tail
          first | (rw [if_pos c1] at tail; exact tail) | (rw [if_neg c1, if_pos c2] at tail; exact tail) | (rw [if_neg c1, if_neg c2] at tail; exact tail)
        · refine oX11_mixOf_34 _ _ _ _ _ _ ?_
          simp only [bX11_mixOf_34, qsem, qopt_s, qopt2_s, qev, qxs, Nat.reduceEqDiff, reduceIte, and_true, true_and, and_false, false_and, and_self, or_true, true_or, qb_or, reduceCtorEq, qbr_True, qbr_False, q10, q01, qwM, e0, e1]
          unfold fk at tail
          first | (rw [if_pos c1] at tail; exact tail) | (rw [if_neg c1, if_pos c2] at tail; exact tail) | (rw [if_neg c1, if_neg c2] at tail; exact tail)
  exact loop 3 0 none rfl rfl
set_option maxRecDepth 100000 in
set_option maxHeartbeats 4000000 in
theorem zX11_mix {C M : qC} {r : Nat × Nat × Nat} {S : qS} {t a b c : Int32} (hS : pj M = S) (h1 : W1 S) : CT mX11_mix 3 0 0 [.ref 136, .int t, .int a, .int b, .int c] (wd C M r) (fun r' w' => w' = wd C M r ∧ r' = some (.long (if isT t = true ∧ areF S a b c = true then mx S t a b c else 0))) := by
  have eT : decide (0 ≤ t ∧ t ≤ 5) = isT t := by
    unfold isT
    refine decide_eq_decide.mpr ?_
    rw [i_le, i_le, i_lt]
    simp only [Int32.reduceToInt]
    omega
  refine eX11_mix (AW_gen (fun Q hQ => ?_))
  refine oX11_mix_0 _ _ _ _ _ _ ?_
  simp only [bX11_mix_0, qsem, qopt_s, qopt2_s, qev, qxs, Nat.reduceEqDiff, reduceIte, and_true, true_and, and_false, false_and, and_self, or_true, true_or, qb_or, reduceCtorEq, qbr_True, qbr_False, q10, q01, qwM, qb_0, eT]
  refine kX11_mix_3 (zX11_in) (Nat.le_of_ble_eq_true rfl) (Nat.le_of_ble_eq_true rfl) ⟨Nat.le_of_ble_eq_true rfl, Nat.le_of_ble_eq_true rfl⟩ ?_
  rintro _ _ ⟨rfl, rfl⟩
  refine oX11_mix_6 _ _ _ _ _ _ ?_
  simp only [bX11_mix_6, qsem, qopt_s, qopt2_s, qev, qxs, Nat.reduceEqDiff, reduceIte, and_true, true_and, and_false, false_and, and_self, or_true, true_or, qb_or, reduceCtorEq, qbr_True, qbr_False, q10, q01, qwM, qb_0, eT]
  refine qbr_i (fun c1 => ?_) (fun c1 => ?_)
  · refine oX11_mix_32 _ _ _ _ _ _ ?_
    simp only [bX11_mix_32, qsem, qopt_s, qopt2_s, qev, qxs, Nat.reduceEqDiff, reduceIte, and_true, true_and, and_false, false_and, and_self, or_true, true_or, qb_or, reduceCtorEq, qbr_True, qbr_False, q10, q01, qwM, qb_0, eT]
    refine oX11_mix_33 _ _ _ _ _ _ ?_
    simp only [bX11_mix_33, qsem, qopt_s, qopt2_s, qev, qxs, Nat.reduceEqDiff, reduceIte, and_true, true_and, and_false, false_and, and_self, or_true, true_or, qb_or, reduceCtorEq, qbr_True, qbr_False, q10, q01, qwM, qb_0, eT]
    (first | (exact hQ _ _ ⟨rfl, rl (by simp_all)⟩; done))
  · refine kX11_mix_14 (zX11_areFiles hS h1) rfl (Nat.le_of_ble_eq_true rfl) (Nat.le_of_ble_eq_true rfl) ⟨Nat.le_of_ble_eq_true rfl, Nat.le_of_ble_eq_true rfl⟩ ?_
    rintro _ _ ⟨rfl, rfl⟩
    refine oX11_mix_17 _ _ _ _ _ _ ?_
    simp only [bX11_mix_17, qsem, qopt_s, qopt2_s, qev, qxs, Nat.reduceEqDiff, reduceIte, and_true, true_and, and_false, false_and, and_self, or_true, true_or, qb_or, reduceCtorEq, qbr_True, qbr_False, q10, q01, qwM, qb_0, eT]
    refine qbr_i (fun c2 => ?_) (fun c2 => ?_)
    · refine oX11_mix_32 _ _ _ _ _ _ ?_
      simp only [bX11_mix_32, qsem, qopt_s, qopt2_s, qev, qxs, Nat.reduceEqDiff, reduceIte, and_true, true_and, and_false, false_and, and_self, or_true, true_or, qb_or, reduceCtorEq, qbr_True, qbr_False, q10, q01, qwM, qb_0, eT]
      refine oX11_mix_33 _ _ _ _ _ _ ?_
      simp only [bX11_mix_33, qsem, qopt_s, qopt2_s, qev, qxs, Nat.reduceEqDiff, reduceIte, and_true, true_and, and_false, false_and, and_self, or_true, true_or, qb_or, reduceCtorEq, qbr_True, qbr_False, q10, q01, qwM, qb_0, eT]
      (first | (exact hQ _ _ ⟨rfl, rl (by simp_all)⟩; done))
    · refine kX11_mix_26 (zX11_mixOf hS h1 (by simpa using c2)) rfl (Nat.le_of_ble_eq_true rfl) (Nat.le_of_ble_eq_true rfl) ⟨Nat.le_of_ble_eq_true rfl, Nat.le_of_ble_eq_true rfl⟩ ?_
      rintro _ _ ⟨rfl, rfl⟩
      refine oX11_mix_29 _ _ _ _ _ _ ?_
      simp only [bX11_mix_29, qsem, qopt_s, qopt2_s, qev, qxs, Nat.reduceEqDiff, reduceIte, and_true, true_and, and_false, false_and, and_self, or_true, true_or, qb_or, reduceCtorEq, qbr_True, qbr_False, q10, q01, qwM, qb_0, eT]
      refine oX11_mix_33 _ _ _ _ _ _ ?_
      simp only [bX11_mix_33, qsem, qopt_s, qopt2_s, qev, qxs, Nat.reduceEqDiff, reduceIte, and_true, true_and, and_false, false_and, and_self, or_true, true_or, qb_or, reduceCtorEq, qbr_True, qbr_False, q10, q01, qwM, qb_0, eT]
      (first | (exact hQ _ _ ⟨rfl, rl (by simp_all)⟩; done))


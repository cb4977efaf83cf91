set_option maxRecDepth 100000 in
set_option maxHeartbeats 4000000 in
theorem zX10_areInputs {C M : qC} {r : Nat × Nat × Nat} {S : qS} {a b c : Int32} (h1 : W1 S) (hI : iF C S) : CT mX10_areInputs 1 0 0 [.ref 0, .int a, .int b, .int c] (wd C M r) (fun r' w' => w' = wd C M r ∧ r' = some (.int (qb (areF S a b c)))) := by
  refine eX10_areInputs (AW_gen (fun Q hQ => ?_))
  refine oX10_areInputs_0 _ _ _ _ _ _ ?_
  simp only [bX10_areInputs_0, qsem, qopt_s, qopt2_s, qev, qxs, Nat.reduceEqDiff, reduceIte, and_true, true_and, and_false, false_and, and_self, or_true, true_or, qb_or, reduceCtorEq, qbr_True, qbr_False, q10, q01, qwC, qb_0]
  refine kX10_areInputs_5 (zX7_has h1 hI) (rfl) (Nat.le_of_ble_eq_true rfl) (Nat.le_of_ble_eq_true rfl) ⟨Nat.le_of_ble_eq_true rfl, Nat.le_of_ble_eq_true rfl⟩ ?_
  rintro _ _ ⟨rfl, rfl⟩
  refine oX10_areInputs_8 _ _ _ _ _ _ ?_
  simp only [bX10_areInputs_8, qsem, qopt_s, qopt2_s, qev, qxs, Nat.reduceEqDiff, reduceIte, and_true, true_and, and_false, false_and, and_self, or_true, true_or, qb_or, reduceCtorEq, qbr_True, qbr_False, q10, q01, qwC, qb_0]
  refine qbr_i (fun c1 => ?_) (fun c1 => ?_)
  · refine hQ _ _ ⟨rfl, ri ?_⟩
    unfold areF
    (first | (simp_all [qb]; done) | skip)
  · refine oX10_areInputs_13 _ _ _ _ _ _ ?_
    simp only [bX10_areInputs_13, qsem, qopt_s, qopt2_s, qev, qxs, Nat.reduceEqDiff, reduceIte, and_true, true_and, and_false, false_and, and_self, or_true, true_or, qb_or, reduceCtorEq, qbr_True, qbr_False, q10, q01, qwC, qb_0]
    refine qbr_i (fun c2 => ?_) (fun c2 => ?_)
    · refine qbr_i (fun c3 => ?_) (fun c3 => ?_)
      · refine oX10_areInputs_28 _ _ _ _ _ _ ?_
        simp only [bX10_areInputs_28, qsem, qopt_s, qopt2_s, qev, qxs, Nat.reduceEqDiff, reduceIte, and_true, true_and, and_false, false_and, and_self, or_true, true_or, qb_or, reduceCtorEq, qbr_True, qbr_False, q10, q01, qwC, qb_0]
        refine hQ _ _ ⟨rfl, ri ?_⟩
        unfold areF
        (first | (simp_all [qb]; done) | skip)
      · refine oX10_areInputs_27 _ _ _ _ _ _ ?_
        simp only [bX10_areInputs_27, qsem, qopt_s, qopt2_s, qev, qxs, Nat.reduceEqDiff, reduceIte, and_true, true_and, and_false, false_and, and_self, or_true, true_or, qb_or, reduceCtorEq, qbr_True, qbr_False, q10, q01, qwC, qb_0]
        refine oX10_areInputs_28 _ _ _ _ _ _ ?_
        simp only [bX10_areInputs_28, qsem, qopt_s, qopt2_s, qev, qxs, Nat.reduceEqDiff, reduceIte, and_true, true_and, and_false, false_and, and_self, or_true, true_or, qb_or, reduceCtorEq, qbr_True, qbr_False, q10, q01, qwC, qb_0]
        refine hQ _ _ ⟨rfl, ri ?_⟩
        unfold areF
        (first | (simp_all [qb]; done) | skip)
    · refine oX10_areInputs_29 _ _ _ _ _ _ ?_
      simp only [bX10_areInputs_29, qsem, qopt_s, qopt2_s, qev, qxs, Nat.reduceEqDiff, reduceIte, and_true, true_and, and_false, false_and, and_self, or_true, true_or, qb_or, reduceCtorEq, qbr_True, qbr_False, q10, q01, qwC, qb_0]
      refine kX10_areInputs_34 (zX7_has h1 hI) (rfl) (Nat.le_of_ble_eq_true rfl) (Nat.le_of_ble_eq_true rfl) ⟨Nat.le_of_ble_eq_true rfl, Nat.le_of_ble_eq_true rfl⟩ ?_
      rintro _ _ ⟨rfl, rfl⟩
      refine oX10_areInputs_37 _ _ _ _ _ _ ?_
      simp only [bX10_areInputs_37, qsem, qopt_s, qopt2_s, qev, qxs, Nat.reduceEqDiff, reduceIte, and_true, true_and, and_false, false_and, and_self, or_true, true_or, qb_or, reduceCtorEq, qbr_True, qbr_False, q10, q01, qwC, qb_0]
      refine qbr_i (fun c3 => ?_) (fun c3 => ?_)
      · refine oX10_areInputs_60 _ _ _ _ _ _ ?_
        simp only [bX10_areInputs_60, qsem, qopt_s, qopt2_s, qev, qxs, Nat.reduceEqDiff, reduceIte, and_true, true_and, and_false, false_and, and_self, or_true, true_or, qb_or, reduceCtorEq, qbr_True, qbr_False, q10, q01, qwC, qb_0]
        refine oX10_areInputs_61 _ _ _ _ _ _ ?_
        simp only [bX10_areInputs_61, qsem, qopt_s, qopt2_s, qev, qxs, Nat.reduceEqDiff, reduceIte, and_true, true_and, and_false, false_and, and_self, or_true, true_or, qb_or, reduceCtorEq, qbr_True, qbr_False, q10, q01, qwC, qb_0]
        refine hQ _ _ ⟨rfl, ri ?_⟩
        unfold areF
        (first | (simp_all [qb]; done) | skip)
      · refine qbr_i (fun c4 => ?_) (fun c4 => ?_)
        · refine oX10_areInputs_56 _ _ _ _ _ _ ?_
          simp only [bX10_areInputs_56, qsem, qopt_s, qopt2_s, qev, qxs, Nat.reduceEqDiff, reduceIte, and_true, true_and, and_false, false_and, and_self, or_true, true_or, qb_or, reduceCtorEq, qbr_True, qbr_False, q10, q01, qwC, qb_0]
          refine oX10_areInputs_61 _ _ _ _ _ _ ?_
          simp only [bX10_areInputs_61, qsem, qopt_s, qopt2_s, qev, qxs, Nat.reduceEqDiff, reduceIte, and_true, true_and, and_false, false_and, and_self, or_true, true_or, qb_or, reduceCtorEq, qbr_True, qbr_False, q10, q01, qwC, qb_0]
          refine hQ _ _ ⟨rfl, ri ?_⟩
          unfold areF
          (first | (simp_all [qb]; done) | skip)
        · refine kX10_areInputs_50 (zX7_has h1 hI) (rfl) (Nat.le_of_ble_eq_true rfl) (Nat.le_of_ble_eq_true rfl) ⟨Nat.le_of_ble_eq_true rfl, Nat.le_of_ble_eq_true rfl⟩ ?_
          rintro _ _ ⟨rfl, rfl⟩
          refine oX10_areInputs_53 _ _ _ _ _ _ ?_
          simp only [bX10_areInputs_53, qsem, qopt_s, qopt2_s, qev, qxs, Nat.reduceEqDiff, reduceIte, and_true, true_and, and_false, false_and, and_self, or_true, true_or, qb_or, reduceCtorEq, qbr_True, qbr_False, q10, q01, qwC, qb_0]
          refine qbr_i (fun c5 => ?_) (fun c5 => ?_)
          · refine oX10_areInputs_60 _ _ _ _ _ _ ?_
            simp only [bX10_areInputs_60, qsem, qopt_s, qopt2_s, qev, qxs, Nat.reduceEqDiff, reduceIte, and_true, true_and, and_false, false_and, and_self, or_true, true_or, qb_or, reduceCtorEq, qbr_True, qbr_False, q10, q01, qwC, qb_0]
            refine oX10_areInputs_61 _ _ _ _ _ _ ?_
            simp only [bX10_areInputs_61, qsem, qopt_s, qopt2_s, qev, qxs, Nat.reduceEqDiff, reduceIte, and_true, true_and, and_false, false_and, and_self, or_true, true_or, qb_or, reduceCtorEq, qbr_True, qbr_False, q10, q01, qwC, qb_0]
            refine hQ _ _ ⟨rfl, ri ?_⟩
            unfold areF
            (first | (simp_all [qb]; done) | skip)
          · refine oX10_areInputs_56 _ _ _ _ _ _ ?_
            simp only [bX10_areInputs_56, qsem, qopt_s, qopt2_s, qev, qxs, Nat.reduceEqDiff, reduceIte, and_true, true_and, and_false, false_and, and_self, or_true, true_or, qb_or, reduceCtorEq, qbr_True, qbr_False, q10, q01, qwC, qb_0]
            refine oX10_areInputs_61 _ _ _ _ _ _ ?_
            simp only [bX10_areInputs_61, qsem, qopt_s, qopt2_s, qev, qxs, Nat.reduceEqDiff, reduceIte, and_true, true_and, and_false, false_and, and_self, or_true, true_or, qb_or, reduceCtorEq, qbr_True, qbr_False, q10, q01, qwC, qb_0]
            refine hQ _ _ ⟨rfl, ri ?_⟩
            unfold areF
            (first | (simp_all [qb]; done) | skip)
set_option maxRecDepth 100000 in
set_option maxHeartbeats 4000000 in
theorem zX10_stirred {C M : qC} {r : Nat × Nat × Nat} {S : qS} {x : Int64} {f : Int32} (h1 : W1 S) (hI : iF C S) (hf : isF S f = true) : CT mX10_stirred 2 0 0 [.ref 0, .long x, .int f] (wd C M r) (fun r' w' => w' = wd C M r ∧ r' = some (.long (stir S x f))) := by
  have hF := h1.2.2.1
  have e : stir S x f = (x ^^^ S.2.2 f.toNatClampNeg) * 6364136223846793005 + 1442695040888963407 := by
    obtain ⟨j, hj, rfl⟩ := isF_of h1 hf
    exact if_neg (i_nm1 (by omega))
  have hh := zX7_hashOf (C := C) (M := M) (r := r) (a := f) h1 hI
  rw [hf, if_pos rfl] at hh
  refine eX10_stirred (AW_gen (fun Q hQ => ?_))
  refine oX10_stirred_0 _ _ _ _ _ _ ?_
  simp only [bX10_stirred_0, qsem, qopt_s, qopt2_s, qev, qxs, Nat.reduceEqDiff, reduceIte, and_true, true_and, and_false, false_and, and_self, or_true, true_or, qb_or, reduceCtorEq, qbr_True, qbr_False, q10, q01, qwC]
  refine kX10_stirred_6 (hh) (rfl) (Nat.le_of_ble_eq_true rfl) (Nat.le_of_ble_eq_true rfl) ⟨Nat.le_of_ble_eq_true rfl, Nat.le_of_ble_eq_true rfl⟩ ?_
  rintro _ _ ⟨rfl, rfl⟩
  refine oX10_stirred_9 _ _ _ _ _ _ ?_
  simp only [bX10_stirred_9, qsem, qopt_s, qopt2_s, qev, qxs, Nat.reduceEqDiff, reduceIte, and_true, true_and, and_false, false_and, and_self, or_true, true_or, qb_or, reduceCtorEq, qbr_True, qbr_False, q10, q01, qwC]
  exact hQ _ _ ⟨rfl, rl e.symm⟩
theorem areF_a {S : qS} {a b c : Int32} (h : areF S a b c = true) : isF S a = true := by
  unfold areF at h
  simp only [Bool.and_eq_true] at h
  exact h.1.1
set_option maxRecDepth 100000 in
set_option maxHeartbeats 4000000 in
theorem zX10_mixed {C M : qC} {r : Nat × Nat × Nat} {S : qS} {t a b c : Int32} (h1 : W1 S) (hI : iF C S) (hf : areF S a b c = true) : CT mX10_mixed 3 0 0 [.ref 0, .int t, .int a, .int b, .int c] (wd C M r) (fun r' w' => w' = wd C M r ∧ r' = some (.long (mx S t a b c))) := by
  have ka := areF_a hf
  have kb := areF_k hf 1
  have kc := areF_k hf 2
  have e : mx S t a b c = stir S (stir S (stir S (t.toInt64 + 1) a) b) c := rfl
  have sn : ∀ x, stir S x (-1) = x := fun x => if_pos rfl
  refine eX10_mixed (AW_gen (fun Q hQ => ?_))
  rcases kb with hb | hb
  · have hb : b = -1 := hb
    subst hb
    rcases kc with hc | hc
    · have hc : c = -1 := hc
      subst hc
      refine oX10_mixed_0 _ _ _ _ _ _ ?_
      simp only [bX10_mixed_0, qsem, qopt_s, qopt2_s, qev, qxs, Nat.reduceEqDiff, reduceIte, and_true, true_and, and_false, false_and, and_self, or_true, true_or, qb_or, reduceCtorEq, qbr_True, qbr_False, q10, q01, qwC]
      refine kX10_mixed_6 (zX10_stirred h1 hI ka) (rfl) (Nat.le_of_ble_eq_true rfl) (Nat.le_of_ble_eq_true rfl) ⟨Nat.le_of_ble_eq_true rfl, Nat.le_of_ble_eq_true rfl⟩ ?_
      rintro _ _ ⟨rfl, rfl⟩
      refine oX10_mixed_9 _ _ _ _ _ _ ?_
      simp only [bX10_mixed_9, qsem, qopt_s, qopt2_s, qev, qxs, Nat.reduceEqDiff, reduceIte, and_true, true_and, and_false, false_and, and_self, or_true, true_or, qb_or, reduceCtorEq, qbr_True, qbr_False, q10, q01, qwC]
      refine oX10_mixed_25 _ _ _ _ _ _ ?_
      simp only [bX10_mixed_25, qsem, qopt_s, qopt2_s, qev, qxs, Nat.reduceEqDiff, reduceIte, and_true, true_and, and_false, false_and, and_self, or_true, true_or, qb_or, reduceCtorEq, qbr_True, qbr_False, q10, q01, qwC]
      refine oX10_mixed_41 _ _ _ _ _ _ ?_
      simp only [bX10_mixed_41, qsem, qopt_s, qopt2_s, qev, qxs, Nat.reduceEqDiff, reduceIte, and_true, true_and, and_false, false_and, and_self, or_true, true_or, qb_or, reduceCtorEq, qbr_True, qbr_False, q10, q01, qwC]
      exact hQ _ _ ⟨rfl, rl (by rw [e, sn, sn])⟩
    · have hc2 : ¬ c = -1 := fun q => by rw [show fk a (-1) c 2 = c from rfl, q] at hc; revert hc; unfold isF; simp
      refine oX10_mixed_0 _ _ _ _ _ _ ?_
      simp only [bX10_mixed_0, qsem, qopt_s, qopt2_s, qev, qxs, Nat.reduceEqDiff, reduceIte, and_true, true_and, and_false, false_and, and_self, or_true, true_or, qb_or, reduceCtorEq, qbr_True, qbr_False, q10, q01, qwC]
      refine kX10_mixed_6 (zX10_stirred h1 hI ka) (rfl) (Nat.le_of_ble_eq_true rfl) (Nat.le_of_ble_eq_true rfl) ⟨Nat.le_of_ble_eq_true rfl, Nat.le_of_ble_eq_true rfl⟩ ?_
      rintro _ _ ⟨rfl, rfl⟩
      refine oX10_mixed_9 _ _ _ _ _ _ ?_
      simp only [bX10_mixed_9, qsem, qopt_s, qopt2_s, qev, qxs, Nat.reduceEqDiff, reduceIte, and_true, true_and, and_false, false_and, and_self, or_true, true_or, qb_or, reduceCtorEq, qbr_True, qbr_False, q10, q01, qwC]
      refine oX10_mixed_25 _ _ _ _ _ _ ?_
      simp only [bX10_mixed_25, qsem, qopt_s, qopt2_s, qev, qxs, Nat.reduceEqDiff, reduceIte, and_true, true_and, and_false, false_and, and_self, or_true, true_or, qb_or, reduceCtorEq, qbr_True, qbr_False, q10, q01, qwC]
      refine qbr_f (hc2) ?_
      refine kX10_mixed_36 (zX10_stirred h1 hI hc) (rfl) (Nat.le_of_ble_eq_true rfl) (Nat.le_of_ble_eq_true rfl) ⟨Nat.le_of_ble_eq_true rfl, Nat.le_of_ble_eq_true rfl⟩ ?_
      rintro _ _ ⟨rfl, rfl⟩
      refine oX10_mixed_39 _ _ _ _ _ _ ?_
      simp only [bX10_mixed_39, qsem, qopt_s, qopt2_s, qev, qxs, Nat.reduceEqDiff, reduceIte, and_true, true_and, and_false, false_and, and_self, or_true, true_or, qb_or, reduceCtorEq, qbr_True, qbr_False, q10, q01, qwC]
      refine oX10_mixed_41 _ _ _ _ _ _ ?_
      simp only [bX10_mixed_41, qsem, qopt_s, qopt2_s, qev, qxs, Nat.reduceEqDiff, reduceIte, and_true, true_and, and_false, false_and, and_self, or_true, true_or, qb_or, reduceCtorEq, qbr_True, qbr_False, q10, q01, qwC]
      exact hQ _ _ ⟨rfl, rl (by rw [e, sn])⟩
  · have hb2 : ¬ b = -1 := fun q => by rw [show fk a b c 1 = b from rfl, q] at hb; revert hb; unfold isF; simp
    rcases kc with hc | hc
    · have hc : c = -1 := hc
      subst hc
      refine oX10_mixed_0 _ _ _ _ _ _ ?_
      simp only [bX10_mixed_0, qsem, qopt_s, qopt2_s, qev, qxs, Nat.reduceEqDiff, reduceIte, and_true, true_and, and_false, false_and, and_self, or_true, true_or, qb_or, reduceCtorEq, qbr_True, qbr_False, q10, q01, qwC]
      refine kX10_mixed_6 (zX10_stirred h1 hI ka) (rfl) (Nat.le_of_ble_eq_true rfl) (Nat.le_of_ble_eq_true rfl) ⟨Nat.le_of_ble_eq_true rfl, Nat.le_of_ble_eq_true rfl⟩ ?_
      rintro _ _ ⟨rfl, rfl⟩
      refine oX10_mixed_9 _ _ _ _ _ _ ?_
      simp only [bX10_mixed_9, qsem, qopt_s, qopt2_s, qev, qxs, Nat.reduceEqDiff, reduceIte, and_true, true_and, and_false, false_and, and_self, or_true, true_or, qb_or, reduceCtorEq, qbr_True, qbr_False, q10, q01, qwC]
      refine qbr_f (hb2) ?_
      refine kX10_mixed_20 (zX10_stirred h1 hI hb) (rfl) (Nat.le_of_ble_eq_true rfl) (Nat.le_of_ble_eq_true rfl) ⟨Nat.le_of_ble_eq_true rfl, Nat.le_of_ble_eq_true rfl⟩ ?_
      rintro _ _ ⟨rfl, rfl⟩
      refine oX10_mixed_23 _ _ _ _ _ _ ?_
      simp only [bX10_mixed_23, qsem, qopt_s, qopt2_s, qev, qxs, Nat.reduceEqDiff, reduceIte, and_true, true_and, and_false, false_and, and_self, or_true, true_or, qb_or, reduceCtorEq, qbr_True, qbr_False, q10, q01, qwC]
      refine oX10_mixed_25 _ _ _ _ _ _ ?_
      simp only [bX10_mixed_25, qsem, qopt_s, qopt2_s, qev, qxs, Nat.reduceEqDiff, reduceIte, and_true, true_and, and_false, false_and, and_self, or_true, true_or, qb_or, reduceCtorEq, qbr_True, qbr_False, q10, q01, qwC]
      refine oX10_mixed_41 _ _ _ _ _ _ ?_
      simp only [bX10_mixed_41, qsem, qopt_s, qopt2_s, qev, qxs, Nat.reduceEqDiff, reduceIte, and_true, true_and, and_false, false_and, and_self, or_true, true_or, qb_or, reduceCtorEq, qbr_True, qbr_False, q10, q01, qwC]
      exact hQ _ _ ⟨rfl, rl (by rw [e, sn])⟩
    · have hc2 : ¬ c = -1 := fun q => by rw [show fk a b c 2 = c from rfl, q] at hc; revert hc; unfold isF; simp
      refine oX10_mixed_0 _ _ _ _ _ _ ?_
      simp only [bX10_mixed_0, qsem, qopt_s, qopt2_s, qev, qxs, Nat.reduceEqDiff, reduceIte, and_true, true_and, and_false, false_and, and_self, or_true, true_or, qb_or, reduceCtorEq, qbr_True, qbr_False, q10, q01, qwC]
      refine kX10_mixed_6 (zX10_stirred h1 hI ka) (rfl) (Nat.le_of_ble_eq_true rfl) (Nat.le_of_ble_eq_true rfl) ⟨Nat.le_of_ble_eq_true rfl, Nat.le_of_ble_eq_true rfl⟩ ?_
      rintro _ _ ⟨rfl, rfl⟩
      refine oX10_mixed_9 _ _ _ _ _ _ ?_
      simp only [bX10_mixed_9, qsem, qopt_s, qopt2_s, qev, qxs, Nat.reduceEqDiff, reduceIte, and_true, true_and, and_false, false_and, and_self, or_true, true_or, qb_or, reduceCtorEq, qbr_True, qbr_False, q10, q01, qwC]
      refine qbr_f (hb2) ?_
      refine kX10_mixed_20 (zX10_stirred h1 hI hb) (rfl) (Nat.le_of_ble_eq_true rfl) (Nat.le_of_ble_eq_true rfl) ⟨Nat.le_of_ble_eq_true rfl, Nat.le_of_ble_eq_true rfl⟩ ?_
      rintro _ _ ⟨rfl, rfl⟩
      refine oX10_mixed_23 _ _ _ _ _ _ ?_
      simp only [bX10_mixed_23, qsem, qopt_s, qopt2_s, qev, qxs, Nat.reduceEqDiff, reduceIte, and_true, true_and, and_false, false_and, and_self, or_true, true_or, qb_or, reduceCtorEq, qbr_True, qbr_False, q10, q01, qwC]
      refine oX10_mixed_25 _ _ _ _ _ _ ?_
      simp only [bX10_mixed_25, qsem, qopt_s, qopt2_s, qev, qxs, Nat.reduceEqDiff, reduceIte, and_true, true_and, and_false, false_and, and_self, or_true, true_or, qb_or, reduceCtorEq, qbr_True, qbr_False, q10, q01, qwC]
      refine qbr_f (hc2) ?_
      refine kX10_mixed_36 (zX10_stirred h1 hI hc) (rfl) (Nat.le_of_ble_eq_true rfl) (Nat.le_of_ble_eq_true rfl) ⟨Nat.le_of_ble_eq_true rfl, Nat.le_of_ble_eq_true rfl⟩ ?_
      rintro _ _ ⟨rfl, rfl⟩
      refine oX10_mixed_39 _ _ _ _ _ _ ?_
      simp only [bX10_mixed_39, qsem, qopt_s, qopt2_s, qev, qxs, Nat.reduceEqDiff, reduceIte, and_true, true_and, and_false, false_and, and_self, or_true, true_or, qb_or, reduceCtorEq, qbr_True, qbr_False, q10, q01, qwC]
      refine oX10_mixed_41 _ _ _ _ _ _ ?_
      simp only [bX10_mixed_41, qsem, qopt_s, qopt2_s, qev, qxs, Nat.reduceEqDiff, reduceIte, and_true, true_and, and_false, false_and, and_self, or_true, true_or, qb_or, reduceCtorEq, qbr_True, qbr_False, q10, q01, qwC]
      exact hQ _ _ ⟨rfl, rl (by rw [e])⟩
set_option maxRecDepth 100000 in
set_option maxHeartbeats 4000000 in
theorem zX10_mix {C M : qC} {r : Nat × Nat × Nat} {S : qS} {t a b c : Int32} (h1 : W1 S) (hI : iF C S) : CT mX10_mix 4 0 0 [.ref 0, .int t, .int a, .int b, .int c] (wd C M r) (fun r' w' => w' = wd C M r ∧ r' = some (.long (if isT t = true ∧ areF S a b c = true then mx S t a b c else 0))) := by
  refine eX10_mix (AW_gen (fun Q hQ => ?_))
  refine oX10_mix_0 _ _ _ _ _ _ ?_
  simp only [bX10_mix_0, qsem, qopt_s, qopt2_s, qev, qxs, Nat.reduceEqDiff, reduceIte, and_true, true_and, and_false, false_and, and_self, or_true, true_or, qb_or, reduceCtorEq, qbr_True, qbr_False, q10, q01, qwC, qb_0]
  refine kX10_mix_1 (zX10_isTool) (Nat.le_of_ble_eq_true rfl) (Nat.le_of_ble_eq_true rfl) ⟨Nat.le_of_ble_eq_true rfl, Nat.le_of_ble_eq_true rfl⟩ ?_
  rintro _ _ ⟨rfl, rfl⟩
  refine oX10_mix_4 _ _ _ _ _ _ ?_
  simp only [bX10_mix_4, qsem, qopt_s, qopt2_s, qev, qxs, Nat.reduceEqDiff, reduceIte, and_true, true_and, and_false, false_and, and_self, or_true, true_or, qb_or, reduceCtorEq, qbr_True, qbr_False, q10, q01, qwC, qb_0]
  refine qbr_i (fun c1 => ?_) (fun c1 => ?_)
  · refine oX10_mix_30 _ _ _ _ _ _ ?_
    simp only [bX10_mix_30, qsem, qopt_s, qopt2_s, qev, qxs, Nat.reduceEqDiff, reduceIte, and_true, true_and, and_false, false_and, and_self, or_true, true_or, qb_or, reduceCtorEq, qbr_True, qbr_False, q10, q01, qwC, qb_0]
    refine oX10_mix_31 _ _ _ _ _ _ ?_
    simp only [bX10_mix_31, qsem, qopt_s, qopt2_s, qev, qxs, Nat.reduceEqDiff, reduceIte, and_true, true_and, and_false, false_and, and_self, or_true, true_or, qb_or, reduceCtorEq, qbr_True, qbr_False, q10, q01, qwC, qb_0]
    first | exact hQ _ _ ⟨rfl, rl (if_pos ⟨(Bool.not_eq_false _).mp c1, (Bool.not_eq_false _).mp c2⟩).symm⟩ | exact hQ _ _ ⟨rfl, rl (if_neg (fun q => Bool.false_ne_true (c1.symm.trans q.1))).symm⟩ | exact hQ _ _ ⟨rfl, rl (if_neg (fun q => Bool.false_ne_true (c2.symm.trans q.2))).symm⟩
  · refine kX10_mix_12 (zX10_areInputs h1 hI) (rfl) (Nat.le_of_ble_eq_true rfl) (Nat.le_of_ble_eq_true rfl) ⟨Nat.le_of_ble_eq_true rfl, Nat.le_of_ble_eq_true rfl⟩ ?_
    rintro _ _ ⟨rfl, rfl⟩
    refine oX10_mix_15 _ _ _ _ _ _ ?_
    simp only [bX10_mix_15, qsem, qopt_s, qopt2_s, qev, qxs, Nat.reduceEqDiff, reduceIte, and_true, true_and, and_false, false_and, and_self, or_true, true_or, qb_or, reduceCtorEq, qbr_True, qbr_False, q10, q01, qwC, qb_0]
    refine qbr_i (fun c2 => ?_) (fun c2 => ?_)
    · refine oX10_mix_30 _ _ _ _ _ _ ?_
      simp only [bX10_mix_30, qsem, qopt_s, qopt2_s, qev, qxs, Nat.reduceEqDiff, reduceIte, and_true, true_and, and_false, false_and, and_self, or_true, true_or, qb_or, reduceCtorEq, qbr_True, qbr_False, q10, q01, qwC, qb_0]
      refine oX10_mix_31 _ _ _ _ _ _ ?_
      simp only [bX10_mix_31, qsem, qopt_s, qopt2_s, qev, qxs, Nat.reduceEqDiff, reduceIte, and_true, true_and, and_false, false_and, and_self, or_true, true_or, qb_or, reduceCtorEq, qbr_True, qbr_False, q10, q01, qwC, qb_0]
      first | exact hQ _ _ ⟨rfl, rl (if_pos ⟨(Bool.not_eq_false _).mp c1, (Bool.not_eq_false _).mp c2⟩).symm⟩ | exact hQ _ _ ⟨rfl, rl (if_neg (fun q => Bool.false_ne_true (c1.symm.trans q.1))).symm⟩ | exact hQ _ _ ⟨rfl, rl (if_neg (fun q => Bool.false_ne_true (c2.symm.trans q.2))).symm⟩
    · refine kX10_mix_24 (zX10_mixed h1 hI ((Bool.not_eq_false _).mp c2)) (rfl) (Nat.le_of_ble_eq_true rfl) (Nat.le_of_ble_eq_true rfl) ⟨Nat.le_of_ble_eq_true rfl, Nat.le_of_ble_eq_true rfl⟩ ?_
      rintro _ _ ⟨rfl, rfl⟩
      refine oX10_mix_27 _ _ _ _ _ _ ?_
      simp only [bX10_mix_27, qsem, qopt_s, qopt2_s, qev, qxs, Nat.reduceEqDiff, reduceIte, and_true, true_and, and_false, false_and, and_self, or_true, true_or, qb_or, reduceCtorEq, qbr_True, qbr_False, q10, q01, qwC, qb_0]
      refine oX10_mix_31 _ _ _ _ _ _ ?_
      simp only [bX10_mix_31, qsem, qopt_s, qopt2_s, qev, qxs, Nat.reduceEqDiff, reduceIte, and_true, true_and, and_false, false_and, and_self, or_true, true_or, qb_or, reduceCtorEq, qbr_True, qbr_False, q10, q01, qwC, qb_0]
      first | exact hQ _ _ ⟨rfl, rl (if_pos ⟨(Bool.not_eq_false _).mp c1, (Bool.not_eq_false _).mp c2⟩).symm⟩ | exact hQ _ _ ⟨rfl, rl (if_neg (fun q => Bool.false_ne_true (c1.symm.trans q.1))).symm⟩ | exact hQ _ _ ⟨rfl, rl (if_neg (fun q => Bool.false_ne_true (c2.symm.trans q.2))).symm⟩
set_option maxRecDepth 100000 in
set_option maxHeartbeats 4000000 in
theorem zX10_isInRowOfOne {C M : qC} {r : Nat × Nat × Nat} {S : qS} {a b c : Int32} {o : Nat} (h1 : W1 S) (hI : iF C S) (hR : iR C S) (ho : o < 100) : CT mX10_isInRowOfOne 2 0 0 [.ref 0, .int (nI o), .int a, .int b, .int c] (wd C M r) (fun r' w' => w' = wd C M r ∧ r' = some (.int (qb (dc (inR S a b c o))))) := by
  have hi : inR S a b c o ↔ (∃ i, i < cF S ∧ a = nI i ∧ reach S i o) ∨ (∃ i, i < cF S ∧ b = nI i ∧ reach S i o) ∨ ∃ i, i < cF S ∧ c = nI i ∧ reach S i o := by
    constructor
    · rintro ⟨k, hk, h⟩
      rcases (show k = 0 ∨ k = 1 ∨ k = 2 by omega) with rfl | rfl | rfl
      · exact Or.inl h
      · exact Or.inr (Or.inl h)
      · exact Or.inr (Or.inr h)
    · rintro (h | h | h)
      · exact ⟨0, by omega, h⟩
      · exact ⟨1, by omega, h⟩
      · exact ⟨2, by omega, h⟩
  rw [dc_c hi]
  refine eX10_isInRowOfOne (AW_gen (fun Q hQ => ?_))
  refine oX10_isInRowOfOne_0 _ _ _ _ _ _ ?_
  simp only [bX10_isInRowOfOne_0, qsem, qopt_s, qopt2_s, qev, qxs, Nat.reduceEqDiff, reduceIte, and_true, true_and, and_false, false_and, and_self, or_true, true_or, qb_or, reduceCtorEq, qbr_True, qbr_False, q10, q01, qwC, qb_0]
  refine kX10_isInRowOfOne_6 (zX7_rowHas h1 hI hR ho) (rfl) (Nat.le_of_ble_eq_true rfl) (Nat.le_of_ble_eq_true rfl) ⟨Nat.le_of_ble_eq_true rfl, Nat.le_of_ble_eq_true rfl⟩ ?_
  rintro _ _ ⟨rfl, rfl⟩
  refine oX10_isInRowOfOne_9 _ _ _ _ _ _ ?_
  simp only [bX10_isInRowOfOne_9, qsem, qopt_s, qopt2_s, qev, qxs, Nat.reduceEqDiff, reduceIte, and_true, true_and, and_false, false_and, and_self, or_true, true_or, qb_or, reduceCtorEq, qbr_True, qbr_False, q10, q01, qwC, qb_0]
  refine qbr_i (fun c1 => ?_) (fun c1 => ?_)
  · refine kX10_isInRowOfOne_18 (zX7_rowHas h1 hI hR ho) (rfl) (Nat.le_of_ble_eq_true rfl) (Nat.le_of_ble_eq_true rfl) ⟨Nat.le_of_ble_eq_true rfl, Nat.le_of_ble_eq_true rfl⟩ ?_
    rintro _ _ ⟨rfl, rfl⟩
    refine oX10_isInRowOfOne_21 _ _ _ _ _ _ ?_
    simp only [bX10_isInRowOfOne_21, qsem, qopt_s, qopt2_s, qev, qxs, Nat.reduceEqDiff, reduceIte, and_true, true_and, and_false, false_and, and_self, or_true, true_or, qb_or, reduceCtorEq, qbr_True, qbr_False, q10, q01, qwC, qb_0]
    refine qbr_i (fun c2 => ?_) (fun c2 => ?_)
    · refine kX10_isInRowOfOne_31 (zX7_rowHas h1 hI hR ho) (rfl) (Nat.le_of_ble_eq_true rfl) (Nat.le_of_ble_eq_true rfl) ⟨Nat.le_of_ble_eq_true rfl, Nat.le_of_ble_eq_true rfl⟩ ?_
      rintro _ _ ⟨rfl, rfl⟩
      refine oX10_isInRowOfOne_34 _ _ _ _ _ _ ?_
      simp only [bX10_isInRowOfOne_34, qsem, qopt_s, qopt2_s, qev, qxs, Nat.reduceEqDiff, reduceIte, and_true, true_and, and_false, false_and, and_self, or_true, true_or, qb_or, reduceCtorEq, qbr_True, qbr_False, q10, q01, qwC, qb_0]
      refine qbr_i (fun c3 => ?_) (fun c3 => ?_)
      · refine oX10_isInRowOfOne_41 _ _ _ _ _ _ ?_
        simp only [bX10_isInRowOfOne_41, qsem, qopt_s, qopt2_s, qev, qxs, Nat.reduceEqDiff, reduceIte, and_true, true_and, and_false, false_and, and_self, or_true, true_or, qb_or, reduceCtorEq, qbr_True, qbr_False, q10, q01, qwC, qb_0]
        refine oX10_isInRowOfOne_42 _ _ _ _ _ _ ?_
        simp only [bX10_isInRowOfOne_42, qsem, qopt_s, qopt2_s, qev, qxs, Nat.reduceEqDiff, reduceIte, and_true, true_and, and_false, false_and, and_self, or_true, true_or, qb_or, reduceCtorEq, qbr_True, qbr_False, q10, q01, qwC, qb_0]
        first | exact hQ _ _ ⟨rfl, ri (qb_1of (dc_iff.mpr (Or.inl (dc_iff.mp ((Bool.not_eq_false _).mp c1)))))⟩ | exact hQ _ _ ⟨rfl, ri (qb_1of (dc_iff.mpr (Or.inr (Or.inl (dc_iff.mp ((Bool.not_eq_false _).mp c2))))))⟩ | exact hQ _ _ ⟨rfl, ri (qb_1of (dc_iff.mpr (Or.inr (Or.inr (dc_iff.mp ((Bool.not_eq_false _).mp c3))))))⟩ | exact hQ _ _ ⟨rfl, ri (qb_0of (dcf (fun q => q.elim (fun z => by rw [dc_iff.mpr z] at c1; exact Bool.noConfusion c1) (fun z => z.elim (fun y => by rw [dc_iff.mpr y] at c2; exact Bool.noConfusion c2) (fun y => by rw [dc_iff.mpr y] at c3; exact Bool.noConfusion c3)))))⟩
      · refine oX10_isInRowOfOne_37 _ _ _ _ _ _ ?_
        simp only [bX10_isInRowOfOne_37, qsem, qopt_s, qopt2_s, qev, qxs, Nat.reduceEqDiff, reduceIte, and_true, true_and, and_false, false_and, and_self, or_true, true_or, qb_or, reduceCtorEq, qbr_True, qbr_False, q10, q01, qwC, qb_0]
        refine oX10_isInRowOfOne_42 _ _ _ _ _ _ ?_
        simp only [bX10_isInRowOfOne_42, qsem, qopt_s, qopt2_s, qev, qxs, Nat.reduceEqDiff, reduceIte, and_true, true_and, and_false, false_and, and_self, or_true, true_or, qb_or, reduceCtorEq, qbr_True, qbr_False, q10, q01, qwC, qb_0]
        first | exact hQ _ _ ⟨rfl, ri (qb_1of (dc_iff.mpr (Or.inl (dc_iff.mp ((Bool.not_eq_false _).mp c1)))))⟩ | exact hQ _ _ ⟨rfl, ri (qb_1of (dc_iff.mpr (Or.inr (Or.inl (dc_iff.mp ((Bool.not_eq_false _).mp c2))))))⟩ | exact hQ _ _ ⟨rfl, ri (qb_1of (dc_iff.mpr (Or.inr (Or.inr (dc_iff.mp ((Bool.not_eq_false _).mp c3))))))⟩ | exact hQ _ _ ⟨rfl, ri (qb_0of (dcf (fun q => q.elim (fun z => by rw [dc_iff.mpr z] at c1; exact Bool.noConfusion c1) (fun z => z.elim (fun y => by rw [dc_iff.mpr y] at c2; exact Bool.noConfusion c2) (fun y => by rw [dc_iff.mpr y] at c3; exact Bool.noConfusion c3)))))⟩
    · refine oX10_isInRowOfOne_37 _ _ _ _ _ _ ?_
      simp only [bX10_isInRowOfOne_37, qsem, qopt_s, qopt2_s, qev, qxs, Nat.reduceEqDiff, reduceIte, and_true, true_and, and_false, false_and, and_self, or_true, true_or, qb_or, reduceCtorEq, qbr_True, qbr_False, q10, q01, qwC, qb_0]
      refine oX10_isInRowOfOne_42 _ _ _ _ _ _ ?_
      simp only [bX10_isInRowOfOne_42, qsem, qopt_s, qopt2_s, qev, qxs, Nat.reduceEqDiff, reduceIte, and_true, true_and, and_false, false_and, and_self, or_true, true_or, qb_or, reduceCtorEq, qbr_True, qbr_False, q10, q01, qwC, qb_0]
      first | exact hQ _ _ ⟨rfl, ri (qb_1of (dc_iff.mpr (Or.inl (dc_iff.mp ((Bool.not_eq_false _).mp c1)))))⟩ | exact hQ _ _ ⟨rfl, ri (qb_1of (dc_iff.mpr (Or.inr (Or.inl (dc_iff.mp ((Bool.not_eq_false _).mp c2))))))⟩ | exact hQ _ _ ⟨rfl, ri (qb_1of (dc_iff.mpr (Or.inr (Or.inr (dc_iff.mp ((Bool.not_eq_false _).mp c3))))))⟩ | exact hQ _ _ ⟨rfl, ri (qb_0of (dcf (fun q => q.elim (fun z => by rw [dc_iff.mpr z] at c1; exact Bool.noConfusion c1) (fun z => z.elim (fun y => by rw [dc_iff.mpr y] at c2; exact Bool.noConfusion c2) (fun y => by rw [dc_iff.mpr y] at c3; exact Bool.noConfusion c3)))))⟩
  · refine oX10_isInRowOfOne_37 _ _ _ _ _ _ ?_
    simp only [bX10_isInRowOfOne_37, qsem, qopt_s, qopt2_s, qev, qxs, Nat.reduceEqDiff, reduceIte, and_true, true_and, and_false, false_and, and_self, or_true, true_or, qb_or, reduceCtorEq, qbr_True, qbr_False, q10, q01, qwC, qb_0]
    refine oX10_isInRowOfOne_42 _ _ _ _ _ _ ?_
    simp only [bX10_isInRowOfOne_42, qsem, qopt_s, qopt2_s, qev, qxs, Nat.reduceEqDiff, reduceIte, and_true, true_and, and_false, false_and, and_self, or_true, true_or, qb_or, reduceCtorEq, qbr_True, qbr_False, q10, q01, qwC, qb_0]
    first | exact hQ _ _ ⟨rfl, ri (qb_1of (dc_iff.mpr (Or.inl (dc_iff.mp ((Bool.not_eq_false _).mp c1)))))⟩ | exact hQ _ _ ⟨rfl, ri (qb_1of (dc_iff.mpr (Or.inr (Or.inl (dc_iff.mp ((Bool.not_eq_false _).mp c2))))))⟩ | exact hQ _ _ ⟨rfl, ri (qb_1of (dc_iff.mpr (Or.inr (Or.inr (dc_iff.mp ((Bool.not_eq_false _).mp c3))))))⟩ | exact hQ _ _ ⟨rfl, ri (qb_0of (dcf (fun q => q.elim (fun z => by rw [dc_iff.mpr z] at c1; exact Bool.noConfusion c1) (fun z => z.elim (fun y => by rw [dc_iff.mpr y] at c2; exact Bool.noConfusion c2) (fun y => by rw [dc_iff.mpr y] at c3; exact Bool.noConfusion c3)))))⟩
theorem zX8_set_nC {C M : qC} {r : Nat × Nat × Nat} {S : qS} (hn : cN S < 400) (u : Nat → Int32) (k : Nat) (x : Int32) (hk : k < 8) : CT mX8_set 1 0 0 [.ref 1, .int (nI (cN S)), .int (nI k), .int x] (wd (nC C S u) M r) (fun r' w' => r' = none ∧ w' = wd (nC C S (upd u k x)) M r) := by
  have := zX8_set_1 (C := nC C S u) (M := M) (r := r) (N := cN S + 1) (n := cN S) (k := k) (v := x) rfl (by omega) (by omega) hk
  rw [nC_up C S u k x hk] at this
  exact this
/-! rows by edges -/
def eA (F : Nat) (E : Nat → Nat → Prop) (f : Nat) (a : Int32) : Nat → Nat → Prop := fun x y => E x y ∨ (x = f ∧ a = nI y ∧ y < F)
def rwO (C : qC) (F : Nat) (E : Nat → Nat → Prop) : Prop := ∀ i, i < F → ∀ j, j < 128 → (fB C (13 + i) j = true ↔ rch E i j)
def roF (C C' : qC) (F : Nat) : Prop := xI C' = xI C ∧ xA C' = xA C ∧ xM C' = xM C ∧ ∀ q, ¬ (13 ≤ q ∧ q < 13 + F) → xL C' q = xL C q
theorem roF_tr {C C1 C2 : qC} {F : Nat} (h : roF C C1 F) (h2 : roF C1 C2 F) : roF C C2 F := ⟨h2.1.trans h.1, h2.2.1.trans h.2.1, h2.2.2.1.trans h.2.2.1, fun q hq => (h2.2.2.2 q hq).trans (h.2.2.2 q hq)⟩
theorem zX7_aI {C M : qC} {r : Nat × Nat × Nat} {S : qS} {f : Nat} {a : Int32} {E : Nat → Nat → Prop} (h1 : W1 S) (hI : iF C S) (hf : f < cF S) (hE : rwO C (cF S) E) : CT mX7_addInput 1 0 0 [.ref 5, .int (nI f), .int a] (wd C M r) (fun r' w' => ∃ C', r' = none ∧ w' = wd C' M r ∧ roF C C' (cF S) ∧ rwO C' (cF S) (eA (cF S) E f a)) := by
  have hF := h1.2.2.1
  refine CT_mono (zX7_addInput h1 hI hf) ?_
  rintro r' w' ⟨C', e1, e2, ⟨hn, rfl⟩ | ⟨i, hi, rfl, k1, k2, k3, k4, k5⟩⟩
  · refine ⟨C', e1, e2, ⟨rfl, rfl, rfl, fun _ _ => rfl⟩, fun i hi j hj => (hE i hi j hj).trans (rch_cg (fun x y => ⟨Or.inl, fun q => q.elim id (fun z => ?_)⟩) i j)⟩
    rw [z.2.1, isF_nI h1 z.2.2] at hn
    exact Bool.noConfusion hn
  · refine ⟨C', e1, e2, ⟨k1, k2, k3, k4⟩, fun m hm j hj => ?_⟩
    rw [k5 m hm j hj, Bool.or_eq_true, Bool.and_eq_true, hE m hm j hj, hE m hm f (by omega), hE i hi j hj, ← rch_add]
    refine rch_cg (fun x y => or_congr Iff.rfl (and_congr Iff.rfl ?_)) m j
    exact ⟨fun q => by rw [q]; exact ⟨rfl, hi⟩, fun q => (i_ninj (by omega) (by omega) q.1).symm⟩
theorem areF_ff {S : qS} {x : Int64} {a b c : Int32} (h1 : W1 S) (h : areF S a b c = true) : areF (ffS S x) a b c = true := by
  have hm : ∀ y, isF S y = true → isF (ffS S x) y = true := fun y hy => by
    unfold ffS
    split
    · rename_i q
      obtain ⟨j, hj, rfl⟩ := isF_of h1 hy
      exact isF_nI (W1_aF h1 q.2) (by rw [cF_aF h1 q.2]; omega)
    · exact hy
  unfold areF at h ⊢
  simp only [Bool.and_eq_true, Bool.or_eq_true] at h ⊢
  exact ⟨⟨hm a h.1.1, h.1.2.imp id (hm b)⟩, h.2.imp id (fun q => ⟨q.1, hm c q.2⟩)⟩
theorem mx_ff {S : qS} {x : Int64} {t a b c : Int32} (h1 : W1 S) (h : areF S a b c = true) : mx (ffS S x) t a b c = mx S t a b c := by
  have hF := h1.2.2.1
  have hs : ∀ y z, (z = -1 ∨ isF S z = true) → stir (ffS S x) y z = stir S y z := fun y z hz => by
    unfold stir
    rcases hz with rfl | hz
    · rw [if_pos rfl, if_pos rfl]
    · by_cases hq : fd S x = -1 ∧ ¬ cF S = 100
      · rw [show ffS S x = aF S x from if_pos hq]
        obtain ⟨j, hj, rfl⟩ := isF_of h1 hz
        rw [if_neg (i_nm1 (by omega)), if_neg (i_nm1 (by omega)), nIcl (show j < 1000 by omega)]
        show (y ^^^ vp_updL S.2.2 (cF S) x j) * _ + _ = _
        rw [pk_uLn (by omega)]
      · rw [show ffS S x = S from if_neg hq]
  show stir (ffS S x) (stir (ffS S x) (stir (ffS S x) (t.toInt64 + 1) a) b) c = stir S (stir S (stir S (t.toInt64 + 1) a) b) c
  rw [hs _ a (areF_k h 0), hs _ b (areF_k h 1), hs _ c (areF_k h 2)]
theorem fk_v {S : qS} {h t a b c : Int32} {x : Int64} (k : Nat) : fk (vB S h t a b c x 143) (vB S h t a b c x 144) (vB S h t a b c x 145) k = fk a b c k := rfl
def uB (f h t a b c m : Int32) : Nat → Int32 := upd (upd (upd (upd (upd (u3 1 f h) 3 t) 4 a) 5 b) 6 c) 7 m
set_option maxRecDepth 100000 in
set_option maxHeartbeats 4000000 in
theorem zX10_build {C M : qC} {r : Nat × Nat × Nat} {S : qS} {H : Nat → Nat → Nat → Bool} {h t a b c : Int32} {x : Int64} (hr : wR r) (hW : WS S H) (hI : Inv C S r H) : CT mX10_build 6 0 0 [.ref 0, .int h, .int t, .int a, .int b, .int c, .long x] (wd C M r) (fun r' w' => ∃ C', w' = wd C' M r ∧ ((¬ bldOk S h t a b c x ∧ r' = some (.int (-1)) ∧ Inv C' S r H) ∨ (bldOk S h t a b c x ∧ r' = some (.int (ffN S x)) ∧ Inv C' (nA (ffS S x) (vB S h t a b c x)) r H ∧ WS (nA (ffS S x) (vB S h t a b c x)) H))) := by
  have hN := hW.1.2.1
  have hF0 := hW.1.2.2.1
  refine eX10_build (AW_gen (fun Q hQ => ?_))
  have bad : ¬ bldOk S h t a b c x → ∀ C1, Inv C1 S r H → Q (some (.int (-1))) (wd C1 M r) := fun hno C1 h1 => hQ _ _ ⟨C1, rfl, Or.inl ⟨hno, rfl, h1⟩⟩
  have good : isH h = true → isT t = true → areF S a b c = true → ¬ cN S = 400 → (∀ o, o < cF S → fd S x = nI o → ¬ inR S a b c o) → ∀ o8 : Option Value, q_nb (some o8) = true → AW (mX10_build, 6, 0, 0, none, Q) 71 [some (.ref 0), some (.int h), some (.int t), some (.int a), some (.int b), some (.int c), some (.long x), none, o8, none, none, none] [] (wd C M r) 0 0 := by
    intro k1 k2 k3 k4 k6 o8 q8
    have hnon := zX7_nON (M := M) (x := x) hr hW hI
    by_cases hx : fd S x = -1 ∧ cF S = 100
    · rw [ffN_m1 hx, show ffS S x = S from if_neg (fun q => q.2 hx.2)] at hnon
      refine oX10_build_71 _ _ _ _ _ _ ?_
      simp only [bX10_build_71, qsem, qopt_s, qopt2_s, qev, qxs, Nat.reduceEqDiff, reduceIte, and_true, true_and, and_false, false_and, and_self, or_true, true_or, qb_or, reduceCtorEq, qbr_True, qbr_False, q10, q01, qwC, q8]
      refine kX10_build_77 (hnon) (rfl) (Nat.le_of_ble_eq_true rfl) (Nat.le_of_ble_eq_true rfl) ⟨Nat.le_of_ble_eq_true rfl, Nat.le_of_ble_eq_true rfl⟩ ?_
      rintro _ _ ⟨rfl, C1, rfl, hI1⟩
      refine oX10_build_80 _ _ _ _ _ _ ?_
      simp only [bX10_build_80, qsem, qopt_s, qopt2_s, qev, qxs, Nat.reduceEqDiff, reduceIte, and_true, true_and, and_false, false_and, and_self, or_true, true_or, qb_or, reduceCtorEq, qbr_True, qbr_False, q10, q01, qwC, q8]
      exact bad (fun q => q.2.2.2.2.1 hx) C1 hI1
    · obtain ⟨f, hf, ef⟩ := ffN_c hW.1 hx
      obtain ⟨hu, hu2, rfl⟩ := isH_of k1
      obtain ⟨tu, htu, rfl⟩ := isT_of k2
      have hok : bldOk S (nI hu) (nI tu) a b c x := ⟨k1, k2, k3, k4, hx, k6⟩
      rw [ef] at hnon
      have hW1 := WS_ff (x := x) hW
      have eN : cN (ffS S x) = cN S := ff_N
      have hmx := mx_ff (x := x) (t := nI tu) hW.1 k3
      have k3' := areF_ff (x := x) hW.1 k3
      generalize hv : vB S (nI hu) (nI tu) a b c x = v at *
      have v138 : v 138 = 1 := by rw [← hv]; rfl
      have v139 : v 139 = nI f := by rw [← hv]; exact ef
      have v140 : v 140 = nI hu := by rw [← hv]; rfl
      have v142 : v 142 = nI tu := by rw [← hv]; rfl
      have v143 : v 143 = a := by rw [← hv]; rfl
      have v144 : v 144 = b := by rw [← hv]; rfl
      have v145 : v 145 = c := by rw [← hv]; rfl
      have v146 : v 146 = if mx S (nI tu) a b c = x then 1 else 0 := by rw [← hv]; rfl
      clear hv
      generalize hS1 : ffS S x = S1 at *
      have hF1 := hW1.1.2.2.1
      have hk : nwK S1 v 1 f hu := ⟨⟨v138, by omega⟩, ⟨v139, hf⟩, ⟨v140, hu2⟩, fun k hk => by
        rw [v143, v144, v145]
        exact (areF_k k3' k).imp id (fun q => by obtain ⟨j, hj, e⟩ := isF_of hW1.1 q; exact ⟨j, hj, e⟩)⟩
      have hW2 : WS (nA S1 v) H := WS_nA hW1 (by omega) hk (fun q => absurd rfl q) ⟨fun _ => ⟨tu, htu, v142⟩, fun q => absurd q (by omega)⟩
      have eN2 := nA_N v hW1.1
      have rest : ∀ (C1 : qC) (mt : Bool), mt = decide (mx S (nI tu) a b c = x) → Inv C1 S1 r H → AW (mX10_build, 6, 0, 0, none, Q) 111 [some (.ref 0), some (.int (nI hu)), some (.int (nI tu)), some (.int a), some (.int b), some (.int c), some (.long x), none, o8, some (.int (nI f)), none, none] [.int (qb mt)] (wd C1 M r) 0 0 := by
        intro C1 mt hmt h1
        have v146' : v 146 = qb mt := by rw [v146, hmt]; by_cases e : mx S (nI tu) a b c = x <;> simp [e, qb]
        obtain ⟨kN, kS, kF, kR, kO, kB, kT, kC, kM, kA, kQ, kK, kU⟩ := h1
        generalize hu0 : uB (nI f) (nI hu) (nI tu) a b c (qb mt) = u0
        have nN : iN (nC C1 S1 u0) (nA S1 v) := nC_N hW1.1 (by omega) kN (by rw [← hu0, v138, v139, v140, v142, v143, v144, v145, v146']; exact ⟨rfl, rfl, rfl, rfl, rfl, rfl, rfl, rfl⟩)
        have hmk := zX7_addMaker (C := nC C1 S1 u0) (M := M) (r := r) (S := S1) (g := fun j => dc (mkr S1 f j)) hW1.1 kF hf hu2 (kO f (by omega))
        generalize hC2 : yA (nC C1 S1 u0) 8 (upd (xA (nC C1 S1 u0) 8) f (nI (bT (fun j => if j = hu then true else dc (mkr S1 f j)) 12))) = C2 at hmk
        have w1 : ∀ q j, ¬ (q = 1 ∧ j = 3) → xI C2 q j = xI C1 q j := fun q j hq => by rw [← hC2]; unfold nC; simp only [qxs]; rw [if_neg hq]
        have w2 : ∀ q, q ≠ 2 → q ≠ 8 → xA C2 q = xA C1 q := fun q a b => by rw [← hC2]; unfold nC; simp only [qxs]; rw [if_neg b, if_neg a]
        have w3 : xM C2 = xM C1 := by rw [← hC2]; rfl
        have w4 : xL C2 = xL C1 := by rw [← hC2]; rfl
        have w8 : xA C2 8 = upd (xA C1 8) f (nI (bT (fun j => if j = hu then true else dc (mkr S1 f j)) 12)) := by rw [← hC2]; rfl
        have nN2 : iN C2 (nA S1 v) := by rw [← hC2]; exact nN
        have hbl := bdb_lt hW1.2.1 f (cN S1) (Nat.le_refl _)
        -- from the inputs on
        have tail : ∀ (C3 : qC) (o10 : Option Value), (∀ q j, xI C3 q j = xI C2 q j) → (∀ q, q ≠ 9 → xA C3 q = xA C2 q) → xM C3 = xM C2 → xL C3 = xL C2 → (∀ i, i < 100 → xA C3 9 i = nI (bdb (nA S1 v) i (cN (nA S1 v)))) → AW (mX10_build, 6, 0, 0, none, Q) 211 [some (.ref 0), some (.int (nI hu)), some (.int (nI tu)), some (.int a), some (.int b), some (.int c), some (.long x), none, o8, some (.int (nI f)), o10, some (.int (nI (cN S1)))] [] (wd C3 M r) 0 0 := by
          intro C3 o10 t1 t2 t3 t4 t9
          have t1' : xI C3 = xI C2 := funext (fun q => funext (fun j => t1 q j))
          have kF3 : iF C3 S1 := iF_cg (by rw [t1', w1 5 7 (by omega)]) (by rw [t3, w3]) kF
          have hE0 : rwO C3 (cF S1) (edge S1) := fun i hi j hj => by rw [fB_cg (show xL C3 (13 + i) = xL C1 (13 + i) by rw [t4, w4])]; exact kR.1 i hi j hj
          have fF : ∀ {C4 : qC}, roF C3 C4 (cF S1) → iF C4 S1 := fun h => iF_cg (by rw [h.1]) (by rw [h.2.2.1]) kF3
          have fin : ∀ (C6 : qC), roF C3 C6 (cF S1) → rwO C6 (cF S1) (eA (cF S1) (eA (cF S1) (eA (cF S1) (edge S1) f a) f b) f c) → AW (mX10_build, 6, 0, 0, none, Q) 243 [some (.ref 0), some (.int (nI hu)), some (.int (nI tu)), some (.int a), some (.int b), some (.int c), some (.long x), none, o8, some (.int (nI f)), o10, some (.int (nI (cN S1)))] [] (wd C6 M r) 0 0 := by
            intro C6 ho hE
            have y1 : ∀ q j, ¬ (q = 1 ∧ j = 3) → xI C6 q j = xI C1 q j := fun q j hq => by rw [ho.1, t1, w1 q j hq]
            have y2 : ∀ q, q ≠ 2 → q ≠ 8 → q ≠ 9 → xA C6 q = xA C1 q := fun q a b c => by rw [ho.2.1, t2 q c, w2 q a b]
            have y4 : ∀ q, ¬ (13 ≤ q ∧ q < 13 + cF S1) → xL C6 q = xL C1 q := fun q hq => by rw [ho.2.2.2 q hq, t4, w4]
            have nN6 : iN C6 (nA S1 v) := iN_cg (by rw [ho.1, t1']) (by rw [ho.2.1, t2 2 (by omega)]) nN2
            have kF6 : iF C6 (nA S1 v) := fF ho
            have kC6 : iC C6 S1 := iC_cg (y4 12 (by omega)) kC
            have c2 := c2_nw v hW1.1 hW1.2.1 kC6
            have hset := zX10_settle (M := M) (r := r) (n := cN S1) hW2.1 hW2.2.1 hW2.2.2.2.2.2.2.2.2.2.2 nN6 kF6 (by rw [eN2]; omega) c2.1 c2.2 (by rw [y2 118 (by omega) (by omega) (by omega)]; exact kM.2.1) (by rw [y2 119 (by omega) (by omega) (by omega)]; exact kM.2.2.1)
            rw [nw_of hW1.1 hk, nw_srt hk] at hset
            refine oX10_build_243 _ _ _ _ _ _ ?_
            simp only [bX10_build_243, qsem, qopt_s, qopt2_s, qev, qxs, Nat.reduceEqDiff, reduceIte, and_true, true_and, and_false, false_and, and_self, or_true, true_or, qb_or, reduceCtorEq, qbr_True, qbr_False, q10, q01, qwC]
            refine kX10_build_246 (hset) (rfl) (Nat.le_of_ble_eq_true rfl) (Nat.le_of_ble_eq_true rfl) ⟨Nat.le_of_ble_eq_true rfl, Nat.le_of_ble_eq_true rfl⟩ ?_
            rintro _ _ ⟨C7, rfl, rfl, s1, s2, s3, s4, s5, s6⟩
            refine oX10_build_249 _ _ _ _ _ _ ?_
            simp only [bX10_build_249, qsem, qopt_s, qopt2_s, qev, qxs, Nat.reduceEqDiff, reduceIte, and_true, true_and, and_false, false_and, and_self, or_true, true_or, qb_or, reduceCtorEq, qbr_True, qbr_False, q10, q01, qwC]
            skip
            have z1 : ∀ q j, ¬ (q = 1 ∧ j = 3) → xI C7 q j = xI C1 q j := fun q j hq => by rw [s1]; exact y1 q j hq
            have z2 : ∀ q, q ≠ 2 → q ≠ 8 → q ≠ 9 → xA C7 q = xA C1 q := fun q a b c => by rw [s2]; exact y2 q a b c
            have zB : iB C7 (nA S1 v) := fun i hi => by rw [s2, ho.2.1]; exact t9 i hi
            have zR : iR C7 (nA S1 v) := by
              refine ⟨fun i hi j hj => ?_, fun i hi hi2 j hj => ?_⟩
              · have hi : i < cF S1 := hi
                rw [fB_cg (s4 (13 + i) (by omega) (by omega)), hE i hi j hj, reach_rch]
                refine rch_cg (fun p q => ?_) i j
                rw [edge_nA hW1.1 hk, v143, v144, v145]
                constructor
                · rintro (((e | ⟨e1, e2, e3⟩) | ⟨e1, e2, e3⟩) | ⟨e1, e2, e3⟩)
                  · exact Or.inl e
                  · exact Or.inr ⟨rfl, e1.symm, 0, by omega, e2, e3⟩
                  · exact Or.inr ⟨rfl, e1.symm, 1, by omega, e2, e3⟩
                  · exact Or.inr ⟨rfl, e1.symm, 2, by omega, e2, e3⟩
                · rintro (e | ⟨-, e1, k, hk', e2, e3⟩)
                  · exact Or.inl (Or.inl (Or.inl e))
                  · rcases (show k = 0 ∨ k = 1 ∨ k = 2 by omega) with rfl | rfl | rfl
                    · exact Or.inl (Or.inl (Or.inr ⟨e1.symm, e2, e3⟩))
                    · exact Or.inl (Or.inr ⟨e1.symm, e2, e3⟩)
                    · exact Or.inr ⟨e1.symm, e2, e3⟩
              · have hi : cF S1 ≤ i := hi
                rw [fB_cg (s4 (13 + i) (by omega) (by omega)), fB_cg (y4 (13 + i) (by omega))]
                exact kR.2 i hi hi2 j hj
            refine hQ _ _ ⟨C7, rfl, Or.inr ⟨hok, ri ef.symm, ?_, hW2⟩⟩
            exact ⟨iN_cg (by rw [s1]) (by rw [s2]) nN6, S_nA hW1.1 hW1.2.2.2.1 (iS_cg (z1 3 3 (by omega)) (z2 4 (by omega) (by omega) (by omega)) kS), iF_cg (by rw [s1]) (by rw [s3]) kF6, zR, (fun i hi => O_nA hW1.1 hk (by omega) kO (by rw [s2, ho.2.1, t2 8 (by omega), w8]) i hi), zB, T_nA hW1.1 hk ⟨by omega, by omega⟩ (iT_cg (z2 10 (by omega) (by omega) (by omega)) (z2 11 (by omega) (by omega) (by omega)) kT), s5, M_fin hW1.1 hk kM (z1 117 3 (by omega)) (z2 118 (by omega) (by omega) (by omega)) (z2 119 (by omega) (by omega) (by omega)) (fun j hj => by rw [s6 j hj, fB_cg (C := C1) (C' := C6) (p := 120) (y4 120 (by omega))]), iA_cg (S := S1) (z1 121 1 (by omega)) (z2 122 (by omega) (by omega) (by omega)) kA, iQ_cg (S := S1) (z1 124 1 (by omega)) (z2 125 (by omega) (by omega) (by omega)) kQ, K_nA (C' := C7) hW1.1 hW1.2.2.2.1 (iK_cg (z2 127 (by omega) (by omega) (by omega)) (z2 128 (by omega) (by omega) (by omega)) (z2 129 (by omega) (by omega) (by omega)) (z2 130 (by omega) (by omega) (by omega)) kK), iU_cg (S := S1) (z1 0 10 (by omega)) (z2 _ (rp hr (by omega)) (rp hr (by omega)) (rp hr (by omega))) (funext (fun j => z1 131 j (by omega))) kU⟩
          refine oX10_build_211 _ _ _ _ _ _ ?_
          simp only [bX10_build_211, qsem, qopt_s, qopt2_s, qev, qxs, Nat.reduceEqDiff, reduceIte, and_true, true_and, and_false, false_and, and_self, or_true, true_or, qb_or, reduceCtorEq, qbr_True, qbr_False, q10, q01, qwC]
          refine kX10_build_218 (zX7_aI hW1.1 kF3 hf hE0) (rfl) (Nat.le_of_ble_eq_true rfl) (Nat.le_of_ble_eq_true rfl) ⟨Nat.le_of_ble_eq_true rfl, Nat.le_of_ble_eq_true rfl⟩ ?_
          rintro _ _ ⟨C4, rfl, rfl, o4, e4⟩
          refine oX10_build_221 _ _ _ _ _ _ ?_
          simp only [bX10_build_221, qsem, qopt_s, qopt2_s, qev, qxs, Nat.reduceEqDiff, reduceIte, and_true, true_and, and_false, false_and, and_self, or_true, true_or, qb_or, reduceCtorEq, qbr_True, qbr_False, q10, q01, qwC]
          refine kX10_build_229 (zX7_aI hW1.1 (fF o4) hf e4) (rfl) (Nat.le_of_ble_eq_true rfl) (Nat.le_of_ble_eq_true rfl) ⟨Nat.le_of_ble_eq_true rfl, Nat.le_of_ble_eq_true rfl⟩ ?_
          rintro _ _ ⟨C5, rfl, rfl, o5, e5⟩
          refine oX10_build_232 _ _ _ _ _ _ ?_
          simp only [bX10_build_232, qsem, qopt_s, qopt2_s, qev, qxs, Nat.reduceEqDiff, reduceIte, and_true, true_and, and_false, false_and, and_self, or_true, true_or, qb_or, reduceCtorEq, qbr_True, qbr_False, q10, q01, qwC]
          refine kX10_build_240 (zX7_aI hW1.1 (fF (roF_tr o4 o5)) hf e5) (rfl) (Nat.le_of_ble_eq_true rfl) (Nat.le_of_ble_eq_true rfl) ⟨Nat.le_of_ble_eq_true rfl, Nat.le_of_ble_eq_true rfl⟩ ?_
          rintro _ _ ⟨C6, rfl, rfl, o6, e6⟩
          exact fin C6 (roF_tr (roF_tr o4 o5) o6) e6
        have st := fun (u : Nat → Int32) (k : Nat) (y : Int32) (hk' : k < 8) => zX8_set_nC (C := C1) (M := M) (r := r) (S := S1) (by omega) u k y hk'
        have bnw := bdb_nw hW1.1 hk
        cases mt with
        | true =>
          have hx9 : xA C2 9 f = nI (bT (fun j => (bdb S1 f (cN S1)).testBit j) 12) := by rw [w2 9 (by omega) (by omega), kB f (by omega), ← bT_of hbl]
          have hab := zX7_addBuilder (C := C2) (M := M) (r := r) (S := S1) hW1.1 (iF_cg (w1 5 7 (by omega)) (by rw [w3]) kF) hf hu2 hx9
          refine oX10_build_111 _ _ _ _ _ _ ?_
          simp only [bX10_build_111, qsem, qopt_s, qopt2_s, qev, qxs, Nat.reduceEqDiff, reduceIte, and_true, true_and, and_false, false_and, and_self, or_true, true_or, qb_or, reduceCtorEq, qbr_True, qbr_False, q10, q01, qwC, qb_t, q8]
          refine kX10_build_118 (zX10_addNote hW1.1 (by omega) kN) (rfl) (Nat.le_of_ble_eq_true rfl) (Nat.le_of_ble_eq_true rfl) ⟨Nat.le_of_ble_eq_true rfl, Nat.le_of_ble_eq_true rfl⟩ ?_
          rintro _ _ ⟨rfl, rfl⟩
          refine oX10_build_121 _ _ _ _ _ _ ?_
          simp only [bX10_build_121, qsem, qopt_s, qopt2_s, qev, qxs, Nat.reduceEqDiff, reduceIte, and_true, true_and, and_false, false_and, and_self, or_true, true_or, qb_or, reduceCtorEq, qbr_True, qbr_False, q10, q01, qwC, qb_t, q8]
          refine kX10_build_131 (st _ 3 (nI tu) (by omega)) (rfl) (Nat.le_of_ble_eq_true rfl) (Nat.le_of_ble_eq_true rfl) ⟨Nat.le_of_ble_eq_true rfl, Nat.le_of_ble_eq_true rfl⟩ ?_
          rintro _ _ ⟨rfl, rfl⟩
          refine oX10_build_134 _ _ _ _ _ _ ?_
          simp only [bX10_build_134, qsem, qopt_s, qopt2_s, qev, qxs, Nat.reduceEqDiff, reduceIte, and_true, true_and, and_false, false_and, and_self, or_true, true_or, qb_or, reduceCtorEq, qbr_True, qbr_False, q10, q01, qwC, qb_t, q8]
          refine kX10_build_142 (st _ 4 a (by omega)) (rfl) (Nat.le_of_ble_eq_true rfl) (Nat.le_of_ble_eq_true rfl) ⟨Nat.le_of_ble_eq_true rfl, Nat.le_of_ble_eq_true rfl⟩ ?_
          rintro _ _ ⟨rfl, rfl⟩
          refine oX10_build_145 _ _ _ _ _ _ ?_
          simp only [bX10_build_145, qsem, qopt_s, qopt2_s, qev, qxs, Nat.reduceEqDiff, reduceIte, and_true, true_and, and_false, false_and, and_self, or_true, true_or, qb_or, reduceCtorEq, qbr_True, qbr_False, q10, q01, qwC, qb_t, q8]
          refine kX10_build_154 (st _ 5 b (by omega)) (rfl) (Nat.le_of_ble_eq_true rfl) (Nat.le_of_ble_eq_true rfl) ⟨Nat.le_of_ble_eq_true rfl, Nat.le_of_ble_eq_true rfl⟩ ?_
          rintro _ _ ⟨rfl, rfl⟩
          refine oX10_build_157 _ _ _ _ _ _ ?_
          simp only [bX10_build_157, qsem, qopt_s, qopt2_s, qev, qxs, Nat.reduceEqDiff, reduceIte, and_true, true_and, and_false, false_and, and_self, or_true, true_or, qb_or, reduceCtorEq, qbr_True, qbr_False, q10, q01, qwC, qb_t, q8]
          refine kX10_build_167 (st _ 6 c (by omega)) (rfl) (Nat.le_of_ble_eq_true rfl) (Nat.le_of_ble_eq_true rfl) ⟨Nat.le_of_ble_eq_true rfl, Nat.le_of_ble_eq_true rfl⟩ ?_
          rintro _ _ ⟨rfl, rfl⟩
          refine oX10_build_170 _ _ _ _ _ _ ?_
          simp only [bX10_build_170, qsem, qopt_s, qopt2_s, qev, qxs, Nat.reduceEqDiff, reduceIte, and_true, true_and, and_false, false_and, and_self, or_true, true_or, qb_or, reduceCtorEq, qbr_True, qbr_False, q10, q01, qwC, qb_t, q8]
          refine kX10_build_180 (zX10_bit (b := true)) (Nat.le_of_ble_eq_true rfl) (Nat.le_of_ble_eq_true rfl) ⟨Nat.le_of_ble_eq_true rfl, Nat.le_of_ble_eq_true rfl⟩ ?_
          rintro _ _ ⟨rfl, rfl⟩
          refine kX10_build_183 (st _ 7 (qb true) (by omega)) (rfl) (Nat.le_of_ble_eq_true rfl) (Nat.le_of_ble_eq_true rfl) ⟨Nat.le_of_ble_eq_true rfl, Nat.le_of_ble_eq_true rfl⟩ ?_
          rintro _ _ ⟨rfl, rfl⟩
          rw [show upd (upd (upd (upd (upd (u3 1 (nI f) (nI hu)) 3 (nI tu)) 4 a) 5 b) 6 c) 7 (qb true) = u0 from hu0]
          refine oX10_build_186 _ _ _ _ _ _ ?_
          simp only [bX10_build_186, qsem, qopt_s, qopt2_s, qev, qxs, Nat.reduceEqDiff, reduceIte, and_true, true_and, and_false, false_and, and_self, or_true, true_or, qb_or, reduceCtorEq, qbr_True, qbr_False, q10, q01, qwC, qb_t, q8]
          refine kX10_build_193 (hmk) (rfl) (Nat.le_of_ble_eq_true rfl) (Nat.le_of_ble_eq_true rfl) ⟨Nat.le_of_ble_eq_true rfl, Nat.le_of_ble_eq_true rfl⟩ ?_
          rintro _ _ ⟨rfl, rfl⟩
          refine oX10_build_196 _ _ _ _ _ _ ?_
          simp only [bX10_build_196, qsem, qopt_s, qopt2_s, qev, qxs, Nat.reduceEqDiff, reduceIte, and_true, true_and, and_false, false_and, and_self, or_true, true_or, qb_or, reduceCtorEq, qbr_True, qbr_False, q10, q01, qwC, qb_t, q8, qb_t]
          refine kX10_build_208 (hab) (rfl) (Nat.le_of_ble_eq_true rfl) (Nat.le_of_ble_eq_true rfl) ⟨Nat.le_of_ble_eq_true rfl, Nat.le_of_ble_eq_true rfl⟩ ?_
          rintro _ _ ⟨rfl, rfl⟩
          skip
          refine tail _ _ (fun q j => rfl) (fun q hq => by simp only [qxs]; rw [if_neg hq]) rfl rfl (fun i hi => ?_)
          show upd (xA C2 9) f _ i = _
          rw [bnw, v146']
          by_cases e : i = f
          · rw [e, pk_us, if_pos ⟨rfl, rfl, rfl⟩]
            congr 1
            rw [bT_of (or_lt hbl hu2)]
            refine bT_cg (fun j hj => ?_)
            rw [Nat.testBit_or, Nat.testBit_two_pow]
            by_cases ej : j = hu
            · rw [if_pos ej, decide_eq_true ej.symm, Bool.or_true]
            · rw [if_neg ej, decide_eq_false (Ne.symm ej), Bool.or_false]
          · rw [pk_un e, if_neg (fun q => e q.2.1.symm), w2 9 (by omega) (by omega)]
            exact kB i hi
        | false =>
          refine oX10_build_111 _ _ _ _ _ _ ?_
          simp only [bX10_build_111, qsem, qopt_s, qopt2_s, qev, qxs, Nat.reduceEqDiff, reduceIte, and_true, true_and, and_false, false_and, and_self, or_true, true_or, qb_or, reduceCtorEq, qbr_True, qbr_False, q10, q01, qwC, qb_f, q8]
          refine kX10_build_118 (zX10_addNote hW1.1 (by omega) kN) (rfl) (Nat.le_of_ble_eq_true rfl) (Nat.le_of_ble_eq_true rfl) ⟨Nat.le_of_ble_eq_true rfl, Nat.le_of_ble_eq_true rfl⟩ ?_
          rintro _ _ ⟨rfl, rfl⟩
          refine oX10_build_121 _ _ _ _ _ _ ?_
          simp only [bX10_build_121, qsem, qopt_s, qopt2_s, qev, qxs, Nat.reduceEqDiff, reduceIte, and_true, true_and, and_false, false_and, and_self, or_true, true_or, qb_or, reduceCtorEq, qbr_True, qbr_False, q10, q01, qwC, qb_f, q8]
          refine kX10_build_131 (st _ 3 (nI tu) (by omega)) (rfl) (Nat.le_of_ble_eq_true rfl) (Nat.le_of_ble_eq_true rfl) ⟨Nat.le_of_ble_eq_true rfl, Nat.le_of_ble_eq_true rfl⟩ ?_
          rintro _ _ ⟨rfl, rfl⟩
          refine oX10_build_134 _ _ _ _ _ _ ?_
          simp only [bX10_build_134, qsem, qopt_s, qopt2_s, qev, qxs, Nat.reduceEqDiff, reduceIte, and_true, true_and, and_false, false_and, and_self, or_true, true_or, qb_or, reduceCtorEq, qbr_True, qbr_False, q10, q01, qwC, qb_f, q8]
          refine kX10_build_142 (st _ 4 a (by omega)) (rfl) (Nat.le_of_ble_eq_true rfl) (Nat.le_of_ble_eq_true rfl) ⟨Nat.le_of_ble_eq_true rfl, Nat.le_of_ble_eq_true rfl⟩ ?_
          rintro _ _ ⟨rfl, rfl⟩
          refine oX10_build_145 _ _ _ _ _ _ ?_
          simp only [bX10_build_145, qsem, qopt_s, qopt2_s, qev, qxs, Nat.reduceEqDiff, reduceIte, and_true, true_and, and_false, false_and, and_self, or_true, true_or, qb_or, reduceCtorEq, qbr_True, qbr_False, q10, q01, qwC, qb_f, q8]
          refine kX10_build_154 (st _ 5 b (by omega)) (rfl) (Nat.le_of_ble_eq_true rfl) (Nat.le_of_ble_eq_true rfl) ⟨Nat.le_of_ble_eq_true rfl, Nat.le_of_ble_eq_true rfl⟩ ?_
          rintro _ _ ⟨rfl, rfl⟩
          refine oX10_build_157 _ _ _ _ _ _ ?_
          simp only [bX10_build_157, qsem, qopt_s, qopt2_s, qev, qxs, Nat.reduceEqDiff, reduceIte, and_true, true_and, and_false, false_and, and_self, or_true, true_or, qb_or, reduceCtorEq, qbr_True, qbr_False, q10, q01, qwC, qb_f, q8]
          refine kX10_build_167 (st _ 6 c (by omega)) (rfl) (Nat.le_of_ble_eq_true rfl) (Nat.le_of_ble_eq_true rfl) ⟨Nat.le_of_ble_eq_true rfl, Nat.le_of_ble_eq_true rfl⟩ ?_
          rintro _ _ ⟨rfl, rfl⟩
          refine oX10_build_170 _ _ _ _ _ _ ?_
          simp only [bX10_build_170, qsem, qopt_s, qopt2_s, qev, qxs, Nat.reduceEqDiff, reduceIte, and_true, true_and, and_false, false_and, and_self, or_true, true_or, qb_or, reduceCtorEq, qbr_True, qbr_False, q10, q01, qwC, qb_f, q8]
          refine kX10_build_180 (zX10_bit (b := false)) (Nat.le_of_ble_eq_true rfl) (Nat.le_of_ble_eq_true rfl) ⟨Nat.le_of_ble_eq_true rfl, Nat.le_of_ble_eq_true rfl⟩ ?_
          rintro _ _ ⟨rfl, rfl⟩
          refine kX10_build_183 (st _ 7 (qb false) (by omega)) (rfl) (Nat.le_of_ble_eq_true rfl) (Nat.le_of_ble_eq_true rfl) ⟨Nat.le_of_ble_eq_true rfl, Nat.le_of_ble_eq_true rfl⟩ ?_
          rintro _ _ ⟨rfl, rfl⟩
          rw [show upd (upd (upd (upd (upd (u3 1 (nI f) (nI hu)) 3 (nI tu)) 4 a) 5 b) 6 c) 7 (qb false) = u0 from hu0]
          refine oX10_build_186 _ _ _ _ _ _ ?_
          simp only [bX10_build_186, qsem, qopt_s, qopt2_s, qev, qxs, Nat.reduceEqDiff, reduceIte, and_true, true_and, and_false, false_and, and_self, or_true, true_or, qb_or, reduceCtorEq, qbr_True, qbr_False, q10, q01, qwC, qb_f, q8]
          refine kX10_build_193 (hmk) (rfl) (Nat.le_of_ble_eq_true rfl) (Nat.le_of_ble_eq_true rfl) ⟨Nat.le_of_ble_eq_true rfl, Nat.le_of_ble_eq_true rfl⟩ ?_
          rintro _ _ ⟨rfl, rfl⟩
          refine oX10_build_196 _ _ _ _ _ _ ?_
          simp only [bX10_build_196, qsem, qopt_s, qopt2_s, qev, qxs, Nat.reduceEqDiff, reduceIte, and_true, true_and, and_false, false_and, and_self, or_true, true_or, qb_or, reduceCtorEq, qbr_True, qbr_False, q10, q01, qwC, qb_f, q8, qb_f]
          skip
          refine tail _ _ (fun q j => rfl) (fun q hq => rfl) rfl rfl (fun i hi => ?_)
          rw [bnw, v146', if_neg (fun q => absurd q.2.2 (by decide)), w2 9 (by omega) (by omega)]
          exact kB i hi
      refine oX10_build_71 _ _ _ _ _ _ ?_
      simp only [bX10_build_71, qsem, qopt_s, qopt2_s, qev, qxs, Nat.reduceEqDiff, reduceIte, and_true, true_and, and_false, false_and, and_self, or_true, true_or, qb_or, reduceCtorEq, qbr_True, qbr_False, q10, q01, qwC, q8, lg0]
      refine kX10_build_77 (hnon) (rfl) (Nat.le_of_ble_eq_true rfl) (Nat.le_of_ble_eq_true rfl) ⟨Nat.le_of_ble_eq_true rfl, Nat.le_of_ble_eq_true rfl⟩ ?_
      rintro _ _ ⟨rfl, C1, rfl, hI1⟩
      refine oX10_build_80 _ _ _ _ _ _ ?_
      simp only [bX10_build_80, qsem, qopt_s, qopt2_s, qev, qxs, Nat.reduceEqDiff, reduceIte, and_true, true_and, and_false, false_and, and_self, or_true, true_or, qb_or, reduceCtorEq, qbr_True, qbr_False, q10, q01, qwC, q8, lg0]
      refine qbr_f ((i_nm1 (by omega))) ?_
      refine oX10_build_90 _ _ _ _ _ _ ?_
      simp only [bX10_build_90, qsem, qopt_s, qopt2_s, qev, qxs, Nat.reduceEqDiff, reduceIte, and_true, true_and, and_false, false_and, and_self, or_true, true_or, qb_or, reduceCtorEq, qbr_True, qbr_False, q10, q01, qwC, q8, lg0]
      refine kX10_build_99 (zX10_mixed hW1.1 hI1.2.2.1 k3') (rfl) (Nat.le_of_ble_eq_true rfl) (Nat.le_of_ble_eq_true rfl) ⟨Nat.le_of_ble_eq_true rfl, Nat.le_of_ble_eq_true rfl⟩ ?_
      rintro _ _ ⟨rfl, rfl⟩
      rw [hmx]
      refine oX10_build_102 _ _ _ _ _ _ ?_
      simp only [bX10_build_102, qsem, qopt_s, qopt2_s, qev, qxs, Nat.reduceEqDiff, reduceIte, and_true, true_and, and_false, false_and, and_self, or_true, true_or, qb_or, reduceCtorEq, qbr_True, qbr_False, q10, q01, qwC, q8, lg0]
      refine qbr_i (fun c1 => ?_) (fun c1 => ?_)
      · first | exact rest C1 true (decide_eq_true c1.symm).symm hI1 | exact rest C1 false (decide_eq_false (fun q => c1 q.symm)).symm hI1
      · refine oX10_build_110 _ _ _ _ _ _ ?_
        simp only [bX10_build_110, qsem, qopt_s, qopt2_s, qev, qxs, Nat.reduceEqDiff, reduceIte, and_true, true_and, and_false, false_and, and_self, or_true, true_or, qb_or, reduceCtorEq, qbr_True, qbr_False, q10, q01, qwC, q8, lg0]
        first | exact rest C1 true (decide_eq_true c1.symm).symm hI1 | exact rest C1 false (decide_eq_false (fun q => c1 q.symm)).symm hI1
  have hful := zX8_isFull_1 (C := C) (M := M) (r := r) hI.1.1 hN
  have from38 : isH h = true → isT t = true → areF S a b c = true → ¬ cN S = 400 → AW (mX10_build, 6, 0, 0, none, Q) 38 [some (.ref 0), some (.int h), some (.int t), some (.int a), some (.int b), some (.int c), some (.long x), none, none, none, none, none] [] (wd C M r) 0 0 := by
    intro d1 d2 d3 d4
    rcases fd_c (S := S) x with hfd | ⟨o, ho, hfd⟩
    · refine oX10_build_38 _ _ _ _ _ _ ?_
      simp only [bX10_build_38, qsem, qopt_s, qopt2_s, qev, qxs, Nat.reduceEqDiff, reduceIte, and_true, true_and, and_false, false_and, and_self, or_true, true_or, qb_or, reduceCtorEq, qbr_True, qbr_False, q10, q01, qwC, hfd]
      refine kX10_build_44 (zX7_numberOf hW.1 hI.2.2.1) (rfl) (Nat.le_of_ble_eq_true rfl) (Nat.le_of_ble_eq_true rfl) ⟨Nat.le_of_ble_eq_true rfl, Nat.le_of_ble_eq_true rfl⟩ ?_
      rintro _ _ ⟨rfl, rfl⟩
      refine oX10_build_47 _ _ _ _ _ _ ?_
      simp only [bX10_build_47, qsem, qopt_s, qopt2_s, qev, qxs, Nat.reduceEqDiff, reduceIte, and_true, true_and, and_false, false_and, and_self, or_true, true_or, qb_or, reduceCtorEq, qbr_True, qbr_False, q10, q01, qwC, hfd]
      exact good d1 d2 d3 d4 (fun o ho q => absurd (q.symm.trans hfd) (i_nm1 (by omega))) _ rfl
    · refine oX10_build_38 _ _ _ _ _ _ ?_
      simp only [bX10_build_38, qsem, qopt_s, qopt2_s, qev, qxs, Nat.reduceEqDiff, reduceIte, and_true, true_and, and_false, false_and, and_self, or_true, true_or, qb_or, reduceCtorEq, qbr_True, qbr_False, q10, q01, qwC, hfd, qb_0]
      refine kX10_build_44 (zX7_numberOf hW.1 hI.2.2.1) (rfl) (Nat.le_of_ble_eq_true rfl) (Nat.le_of_ble_eq_true rfl) ⟨Nat.le_of_ble_eq_true rfl, Nat.le_of_ble_eq_true rfl⟩ ?_
      rintro _ _ ⟨rfl, rfl⟩
      refine oX10_build_47 _ _ _ _ _ _ ?_
      simp only [bX10_build_47, qsem, qopt_s, qopt2_s, qev, qxs, Nat.reduceEqDiff, reduceIte, and_true, true_and, and_false, false_and, and_self, or_true, true_or, qb_or, reduceCtorEq, qbr_True, qbr_False, q10, q01, qwC, hfd, qb_0]
      refine qbr_f (i_nm1 (by omega)) ?_
      refine kX10_build_63 (zX10_isInRowOfOne hW.1 hI.2.2.1 hI.2.2.2.1 (show o < 100 by omega)) (rfl) (Nat.le_of_ble_eq_true rfl) (Nat.le_of_ble_eq_true rfl) ⟨Nat.le_of_ble_eq_true rfl, Nat.le_of_ble_eq_true rfl⟩ ?_
      rintro _ _ ⟨rfl, rfl⟩
      refine oX10_build_66 _ _ _ _ _ _ ?_
      simp only [bX10_build_66, qsem, qopt_s, qopt2_s, qev, qxs, Nat.reduceEqDiff, reduceIte, and_true, true_and, and_false, false_and, and_self, or_true, true_or, qb_or, reduceCtorEq, qbr_True, qbr_False, q10, q01, qwC, hfd, qb_0]
      refine qbr_i (fun c1 => ?_) (fun c1 => ?_)
      · exact good d1 d2 d3 d4 (fun o' ho' q => by rw [i_ninj (by omega) (by omega) (q.symm.trans hfd)]; exact fun z => by rw [dc_iff.mpr z] at c1; exact Bool.noConfusion c1) _ rfl
      · exact bad (fun q => q.2.2.2.2.2 o ho hfd (dc_iff.mp ((Bool.not_eq_false _).mp c1))) C hI
  refine oX10_build_0 _ _ _ _ _ _ ?_
  simp only [bX10_build_0, qsem, qopt_s, qopt2_s, qev, qxs, Nat.reduceEqDiff, reduceIte, and_true, true_and, and_false, false_and, and_self, or_true, true_or, qb_or, reduceCtorEq, qbr_True, qbr_False, q10, q01, qwC, qb_0]
  refine kX10_build_1 (zX10_isHand) (Nat.le_of_ble_eq_true rfl) (Nat.le_of_ble_eq_true rfl) ⟨Nat.le_of_ble_eq_true rfl, Nat.le_of_ble_eq_true rfl⟩ ?_
  rintro _ _ ⟨rfl, rfl⟩
  refine oX10_build_4 _ _ _ _ _ _ ?_
  simp only [bX10_build_4, qsem, qopt_s, qopt2_s, qev, qxs, Nat.reduceEqDiff, reduceIte, and_true, true_and, and_false, false_and, and_self, or_true, true_or, qb_or, reduceCtorEq, qbr_True, qbr_False, q10, q01, qwC, qb_0]
  refine qbr_i (fun c1 => ?_) (fun c1 => ?_)
  · refine oX10_build_36 _ _ _ _ _ _ ?_
    simp only [bX10_build_36, qsem, qopt_s, qopt2_s, qev, qxs, Nat.reduceEqDiff, reduceIte, and_true, true_and, and_false, false_and, and_self, or_true, true_or, qb_or, reduceCtorEq, qbr_True, qbr_False, q10, q01, qwC, qb_0]
    first | exact bad (fun q => by rw [q.1] at c1; exact Bool.noConfusion c1) C hI | exact bad (fun q => by rw [q.2.1] at c2; exact Bool.noConfusion c2) C hI | exact bad (fun q => by rw [q.2.2.1] at c3; exact Bool.noConfusion c3) C hI | exact bad (fun q => q.2.2.2.1 (of_decide_eq_true ((Bool.not_eq_false _).mp c4))) C hI
  · refine kX10_build_8 (zX10_isTool) (Nat.le_of_ble_eq_true rfl) (Nat.le_of_ble_eq_true rfl) ⟨Nat.le_of_ble_eq_true rfl, Nat.le_of_ble_eq_true rfl⟩ ?_
    rintro _ _ ⟨rfl, rfl⟩
    refine oX10_build_11 _ _ _ _ _ _ ?_
    simp only [bX10_build_11, qsem, qopt_s, qopt2_s, qev, qxs, Nat.reduceEqDiff, reduceIte, and_true, true_and, and_false, false_and, and_self, or_true, true_or, qb_or, reduceCtorEq, qbr_True, qbr_False, q10, q01, qwC, qb_0]
    refine qbr_i (fun c2 => ?_) (fun c2 => ?_)
    · refine oX10_build_36 _ _ _ _ _ _ ?_
      simp only [bX10_build_36, qsem, qopt_s, qopt2_s, qev, qxs, Nat.reduceEqDiff, reduceIte, and_true, true_and, and_false, false_and, and_self, or_true, true_or, qb_or, reduceCtorEq, qbr_True, qbr_False, q10, q01, qwC, qb_0]
      first | exact bad (fun q => by rw [q.1] at c1; exact Bool.noConfusion c1) C hI | exact bad (fun q => by rw [q.2.1] at c2; exact Bool.noConfusion c2) C hI | exact bad (fun q => by rw [q.2.2.1] at c3; exact Bool.noConfusion c3) C hI | exact bad (fun q => q.2.2.2.1 (of_decide_eq_true ((Bool.not_eq_false _).mp c4))) C hI
    · refine kX10_build_20 (zX10_areInputs hW.1 hI.2.2.1) (rfl) (Nat.le_of_ble_eq_true rfl) (Nat.le_of_ble_eq_true rfl) ⟨Nat.le_of_ble_eq_true rfl, Nat.le_of_ble_eq_true rfl⟩ ?_
      rintro _ _ ⟨rfl, rfl⟩
      refine oX10_build_23 _ _ _ _ _ _ ?_
      simp only [bX10_build_23, qsem, qopt_s, qopt2_s, qev, qxs, Nat.reduceEqDiff, reduceIte, and_true, true_and, and_false, false_and, and_self, or_true, true_or, qb_or, reduceCtorEq, qbr_True, qbr_False, q10, q01, qwC, qb_0]
      refine qbr_i (fun c3 => ?_) (fun c3 => ?_)
      · refine oX10_build_36 _ _ _ _ _ _ ?_
        simp only [bX10_build_36, qsem, qopt_s, qopt2_s, qev, qxs, Nat.reduceEqDiff, reduceIte, and_true, true_and, and_false, false_and, and_self, or_true, true_or, qb_or, reduceCtorEq, qbr_True, qbr_False, q10, q01, qwC, qb_0]
        first | exact bad (fun q => by rw [q.1] at c1; exact Bool.noConfusion c1) C hI | exact bad (fun q => by rw [q.2.1] at c2; exact Bool.noConfusion c2) C hI | exact bad (fun q => by rw [q.2.2.1] at c3; exact Bool.noConfusion c3) C hI | exact bad (fun q => q.2.2.2.1 (of_decide_eq_true ((Bool.not_eq_false _).mp c4))) C hI
      · refine kX10_build_30 (hful) (rfl) (Nat.le_of_ble_eq_true rfl) (Nat.le_of_ble_eq_true rfl) ⟨Nat.le_of_ble_eq_true rfl, Nat.le_of_ble_eq_true rfl⟩ ?_
        rintro _ _ ⟨rfl, rfl⟩
        refine oX10_build_33 _ _ _ _ _ _ ?_
        simp only [bX10_build_33, qsem, qopt_s, qopt2_s, qev, qxs, Nat.reduceEqDiff, reduceIte, and_true, true_and, and_false, false_and, and_self, or_true, true_or, qb_or, reduceCtorEq, qbr_True, qbr_False, q10, q01, qwC, qb_0]
        refine qbr_i (fun c4 => ?_) (fun c4 => ?_)
        · exact from38 ((Bool.not_eq_false _).mp c1) ((Bool.not_eq_false _).mp c2) ((Bool.not_eq_false _).mp c3) (of_decide_eq_false c4)
        · refine oX10_build_36 _ _ _ _ _ _ ?_
          simp only [bX10_build_36, qsem, qopt_s, qopt2_s, qev, qxs, Nat.reduceEqDiff, reduceIte, and_true, true_and, and_false, false_and, and_self, or_true, true_or, qb_or, reduceCtorEq, qbr_True, qbr_False, q10, q01, qwC, qb_0]
          first | exact bad (fun q => by rw [q.1] at c1; exact Bool.noConfusion c1) C hI | exact bad (fun q => by rw [q.2.1] at c2; exact Bool.noConfusion c2) C hI | exact bad (fun q => by rw [q.2.2.1] at c3; exact Bool.noConfusion c3) C hI | exact bad (fun q => q.2.2.2.1 (of_decide_eq_true ((Bool.not_eq_false _).mp c4))) C hI


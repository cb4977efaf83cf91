theorem cF_aF {S : qS} {x : Int64} (h1 : W1 S) (h : ¬ cF S = 100) : cF (aF S x) = cF S + 1 := by
  have := h1.2.2.1
  show (S.1 1 + 1).toNatClampNeg = _
  rw [h1.1.2.1, nI_1, nI_clamp (by omega)]
theorem aF_1 {S : qS} {x : Int64} {k : Nat} (h : k ≠ 1) : (aF S x).1 k = S.1 k := if_neg h
theorem aF_c {S : qS} {x : Int64} (h1 : W1 S) : (aF S x).1 1 = nI (cF S + 1) := by
  show S.1 1 + 1 = _
  rw [h1.1.2.1, nI_1]
theorem W1_aF {S : qS} {x : Int64} (h1 : W1 S) (h : ¬ cF S = 100) : W1 (aF S x) := by
  have e := cF_aF (x := x) h1 h
  obtain ⟨⟨a0, a1, a2, a3, a4, a5, a6⟩, b1, b2, b3, b4, b5, b6, b7⟩ := h1
  refine ⟨⟨a0, ?_, a2, a3, a4, a5, a6⟩, b1, ?_, b3, b4, b5, b6, b7⟩
  · rw [aF_c ⟨⟨a0, a1, a2, a3, a4, a5, a6⟩, b1, b2, b3, b4, b5, b6, b7⟩, e]
  · rw [e]; omega
theorem W1_ff {S : qS} {x : Int64} (h1 : W1 S) : W1 (ffS S x) := by
  unfold ffS
  split
  · rename_i h; exact W1_aF h1 h.2
  · exact h1
theorem ff_N {S : qS} {x : Int64} : cN (ffS S x) = cN S := by
  unfold ffS
  split <;> rfl
/-- source: its answer, and the state behind it -/
def srcOk (S : qS) (h : Int32) (x : Int64) : Prop := isH h = true ∧ ¬ cN S = 400 ∧ ¬ (fd S x = -1 ∧ cF S = 100)
set_option maxRecDepth 100000 in
set_option maxHeartbeats 4000000 in
theorem zX11_source {C M : qC} {r : Nat × Nat × Nat} {S : qS} {h : Int32} {x : Int64} (hS : pj M = S) (h1 : W1 S) : CT mX11_source 3 0 0 [.ref 136, .int h, .long x] (wd C M r) (fun r' w' => ∃ M', w' = wd C M' r ∧ ((¬ srcOk S h x ∧ r' = some (.int (-1)) ∧ pj M' = S) ∨ (srcOk S h x ∧ r' = some (.int (ffN S x)) ∧ pj M' = nA (ffS S x) (vN 0 (ffN S x) h)))) := by
  have hN := h1.2.1
  refine eX11_source (AW_gen (fun Q hQ => ?_))
  refine oX11_source_0 _ _ _ _ _ _ ?_
  simp only [bX11_source_0, qsem, qopt_s, qopt2_s, qev, qxs, Nat.reduceEqDiff, reduceIte, and_true, true_and, and_false, false_and, and_self, or_true, true_or, qb_or, reduceCtorEq, qbr_True, qbr_False, q10, q01, qwM, pjx hS, h1.1.1, h1.1.2.1, cF100 h1, cN400 h1, qb_0]
  refine kX11_source_1 (zX11_isHand) (Nat.le_of_ble_eq_true rfl) (Nat.le_of_ble_eq_true rfl) ⟨Nat.le_of_ble_eq_true rfl, Nat.le_of_ble_eq_true rfl⟩ ?_
  rintro _ _ ⟨rfl, rfl⟩
  refine oX11_source_4 _ _ _ _ _ _ ?_
  simp only [bX11_source_4, qsem, qopt_s, qopt2_s, qev, qxs, Nat.reduceEqDiff, reduceIte, and_true, true_and, and_false, false_and, and_self, or_true, true_or, qb_or, reduceCtorEq, qbr_True, qbr_False, q10, q01, qwM, pjx hS, h1.1.1, h1.1.2.1, cF100 h1, cN400 h1, qb_0]
  refine qbr_i (fun c1 => ?_) (fun c1 => ?_)
  · refine oX11_source_35 _ _ _ _ _ _ ?_
    simp only [bX11_source_35, qsem, qopt_s, qopt2_s, qev, qxs, Nat.reduceEqDiff, reduceIte, and_true, true_and, and_false, false_and, and_self, or_true, true_or, qb_or, reduceCtorEq, qbr_True, qbr_False, q10, q01, qwM, pjx hS, h1.1.1, h1.1.2.1, cF100 h1, cN400 h1, qb_0]
    (first | (exact hQ _ _ ⟨M2, rfl, Or.inr ⟨⟨by simpa using c1, c2, by intro q; first | exact c3 q.1 | exact c4 q.2⟩, rfl, hS2⟩⟩; done) | (exact hQ _ _ ⟨M, rfl, Or.inl ⟨by intro q; first | exact absurd q.1 (by rw [c1]; decide) | exact q.2.1 c2 | exact q.2.2 ⟨c3, c4⟩, rfl, hS⟩⟩; done))
  · refine qbr_i (fun c2 => ?_) (fun c2 => ?_)
    · refine oX11_source_35 _ _ _ _ _ _ ?_
      simp only [bX11_source_35, qsem, qopt_s, qopt2_s, qev, qxs, Nat.reduceEqDiff, reduceIte, and_true, true_and, and_false, false_and, and_self, or_true, true_or, qb_or, reduceCtorEq, qbr_True, qbr_False, q10, q01, qwM, pjx hS, h1.1.1, h1.1.2.1, cF100 h1, cN400 h1, qb_0]
      (first | (exact hQ _ _ ⟨M2, rfl, Or.inr ⟨⟨by simpa using c1, c2, by intro q; first | exact c3 q.1 | exact c4 q.2⟩, rfl, hS2⟩⟩; done) | (exact hQ _ _ ⟨M, rfl, Or.inl ⟨by intro q; first | exact absurd q.1 (by rw [c1]; decide) | exact q.2.1 c2 | exact q.2.2 ⟨c3, c4⟩, rfl, hS⟩⟩; done))
    · refine kX11_source_19 (zX11_find hS h1) rfl (Nat.le_of_ble_eq_true rfl) (Nat.le_of_ble_eq_true rfl) ⟨Nat.le_of_ble_eq_true rfl, Nat.le_of_ble_eq_true rfl⟩ ?_
      rintro _ _ ⟨rfl, rfl⟩
      refine oX11_source_22 _ _ _ _ _ _ ?_
      simp only [bX11_source_22, qsem, qopt_s, qopt2_s, qev, qxs, Nat.reduceEqDiff, reduceIte, and_true, true_and, and_false, false_and, and_self, or_true, true_or, qb_or, reduceCtorEq, qbr_True, qbr_False, q10, q01, qwM, pjx hS, h1.1.1, h1.1.2.1, cF100 h1, cN400 h1, qb_0]
      refine qbr_i (fun c3 => ?_) (fun c3 => ?_)
      · refine qbr_i (fun c4 => ?_) (fun c4 => ?_)
        · refine oX11_source_35 _ _ _ _ _ _ ?_
          simp only [bX11_source_35, qsem, qopt_s, qopt2_s, qev, qxs, Nat.reduceEqDiff, reduceIte, and_true, true_and, and_false, false_and, and_self, or_true, true_or, qb_or, reduceCtorEq, qbr_True, qbr_False, q10, q01, qwM, pjx hS, h1.1.1, h1.1.2.1, cF100 h1, cN400 h1, qb_0]
          (first | (exact hQ _ _ ⟨M2, rfl, Or.inr ⟨⟨by simpa using c1, c2, by intro q; first | exact c3 q.1 | exact c4 q.2⟩, rfl, hS2⟩⟩; done) | (exact hQ _ _ ⟨M, rfl, Or.inl ⟨by intro q; first | exact absurd q.1 (by rw [c1]; decide) | exact q.2.1 c2 | exact q.2.2 ⟨c3, c4⟩, rfl, hS⟩⟩; done))
        · refine oX11_source_37 _ _ _ _ _ _ ?_
          simp only [bX11_source_37, qsem, qopt_s, qopt2_s, qev, qxs, Nat.reduceEqDiff, reduceIte, and_true, true_and, and_false, false_and, and_self, or_true, true_or, qb_or, reduceCtorEq, qbr_True, qbr_False, q10, q01, qwM, pjx hS, h1.1.1, h1.1.2.1, cF100 h1, cN400 h1, qb_0]
          refine kX11_source_39 (zX11_fileFor hS h1) rfl (Nat.le_of_ble_eq_true rfl) (Nat.le_of_ble_eq_true rfl) ⟨Nat.le_of_ble_eq_true rfl, Nat.le_of_ble_eq_true rfl⟩ ?_
          rintro _ _ ⟨M1, rfl, rfl, hS1⟩
          refine oX11_source_42 _ _ _ _ _ _ ?_
          simp only [bX11_source_42, qsem, qopt_s, qopt2_s, qev, qxs, Nat.reduceEqDiff, reduceIte, and_true, true_and, and_false, false_and, and_self, or_true, true_or, qb_or, reduceCtorEq, qbr_True, qbr_False, q10, q01, qwM, pjx hS, h1.1.1, h1.1.2.1, cF100 h1, cN400 h1, qb_0]
          refine kX11_source_49 (zX11_addNote hS1 (W1_ff h1) (by rw [ff_N]; omega)) rfl (Nat.le_of_ble_eq_true rfl) (Nat.le_of_ble_eq_true rfl) ⟨Nat.le_of_ble_eq_true rfl, Nat.le_of_ble_eq_true rfl⟩ ?_
          rintro _ _ ⟨M2, rfl, rfl, hS2⟩
          refine oX11_source_52 _ _ _ _ _ _ ?_
          simp only [bX11_source_52, qsem, qopt_s, qopt2_s, qev, qxs, Nat.reduceEqDiff, reduceIte, and_true, true_and, and_false, false_and, and_self, or_true, true_or, qb_or, reduceCtorEq, qbr_True, qbr_False, q10, q01, qwM, pjx hS, h1.1.1, h1.1.2.1, cF100 h1, cN400 h1, qb_0]
          (first | (exact hQ _ _ ⟨M2, rfl, Or.inr ⟨⟨by simpa using c1, c2, by intro q; first | exact c3 q.1 | exact c4 q.2⟩, rfl, hS2⟩⟩; done) | (exact hQ _ _ ⟨M, rfl, Or.inl ⟨by intro q; first | exact absurd q.1 (by rw [c1]; decide) | exact q.2.1 c2 | exact q.2.2 ⟨c3, c4⟩, rfl, hS⟩⟩; done))
      · refine oX11_source_37 _ _ _ _ _ _ ?_
        simp only [bX11_source_37, qsem, qopt_s, qopt2_s, qev, qxs, Nat.reduceEqDiff, reduceIte, and_true, true_and, and_false, false_and, and_self, or_true, true_or, qb_or, reduceCtorEq, qbr_True, qbr_False, q10, q01, qwM, pjx hS, h1.1.1, h1.1.2.1, cF100 h1, cN400 h1, qb_0]
        refine kX11_source_39 (zX11_fileFor hS h1) rfl (Nat.le_of_ble_eq_true rfl) (Nat.le_of_ble_eq_true rfl) ⟨Nat.le_of_ble_eq_true rfl, Nat.le_of_ble_eq_true rfl⟩ ?_
        rintro _ _ ⟨M1, rfl, rfl, hS1⟩
        refine oX11_source_42 _ _ _ _ _ _ ?_
        simp only [bX11_source_42, qsem, qopt_s, qopt2_s, qev, qxs, Nat.reduceEqDiff, reduceIte, and_true, true_and, and_false, false_and, and_self, or_true, true_or, qb_or, reduceCtorEq, qbr_True, qbr_False, q10, q01, qwM, pjx hS, h1.1.1, h1.1.2.1, cF100 h1, cN400 h1, qb_0]
        refine kX11_source_49 (zX11_addNote hS1 (W1_ff h1) (by rw [ff_N]; omega)) rfl (Nat.le_of_ble_eq_true rfl) (Nat.le_of_ble_eq_true rfl) ⟨Nat.le_of_ble_eq_true rfl, Nat.le_of_ble_eq_true rfl⟩ ?_
        rintro _ _ ⟨M2, rfl, rfl, hS2⟩
        refine oX11_source_52 _ _ _ _ _ _ ?_
        simp only [bX11_source_52, qsem, qopt_s, qopt2_s, qev, qxs, Nat.reduceEqDiff, reduceIte, and_true, true_and, and_false, false_and, and_self, or_true, true_or, qb_or, reduceCtorEq, qbr_True, qbr_False, q10, q01, qwM, pjx hS, h1.1.1, h1.1.2.1, cF100 h1, cN400 h1, qb_0]
        (first | (exact hQ _ _ ⟨M2, rfl, Or.inr ⟨⟨by simpa using c1, c2, by intro q; first | exact c3 q.1 | exact c4 q.2⟩, rfl, hS2⟩⟩; done) | (exact hQ _ _ ⟨M, rfl, Or.inl ⟨by intro q; first | exact absurd q.1 (by rw [c1]; decide) | exact q.2.1 c2 | exact q.2.2 ⟨c3, c4⟩, rfl, hS⟩⟩; done))
set_option maxRecDepth 100000 in
set_option maxHeartbeats 4000000 in
theorem zX11_went {C M : qC} {r : Nat × Nat × Nat} {S : qS} {n k : Nat} (hS : pj M = S) (hn : n < 400) (hk : k < 3) : CT mX11_went 0 0 0 [.ref 136, .int (nI n), .int (nI k)] (wd C M r) (fun r' w' => w' = wd C M r ∧ r' = some (.int (wnt S n k))) := by
  have e0 : (nI k = 0) = (k = 0) := propext (nI_eq (b := 0) (by omega) (by omega))
  have e1 : (nI k = 1) = (k = 1) := propext (nI_eq (b := 1) (by omega) (by omega))
  have en : (nI n).toNatClampNeg = n := nI_clamp (by omega)
  refine eX11_went (AW_gen (fun Q hQ => ?_))
  refine oX11_went_0 _ _ _ _ _ _ ?_
  simp only [bX11_went_0, qsem, qopt_s, qopt2_s, qev, qxs, Nat.reduceEqDiff, reduceIte, and_true, true_and, and_false, false_and, and_self, or_true, true_or, qb_or, reduceCtorEq, qbr_True, qbr_False, q10, q01, qwM, pjx hS, e0, e1, en]
  refine qbr_i (fun c1 => ?_) (fun c1 => ?_)
  · refine ⟨nI_vp (by omega) (by omega), ?_⟩
    refine oX11_went_33 _ _ _ _ _ _ ?_
    simp only [bX11_went_33, qsem, qopt_s, qopt2_s, qev, qxs, Nat.reduceEqDiff, reduceIte, and_true, true_and, and_false, false_and, and_self, or_true, true_or, qb_or, reduceCtorEq, qbr_True, qbr_False, q10, q01, qwM, pjx hS, e0, e1, en]
    refine hQ _ _ ⟨rfl, ri ?_⟩
    unfold wnt
    (first | (rw [if_pos c1]; done) | (rw [if_neg c1, if_pos c2]; done) | (rw [if_neg c1, if_neg c2]; done))
  · refine oX11_went_13 _ _ _ _ _ _ ?_
    simp only [bX11_went_13, qsem, qopt_s, qopt2_s, qev, qxs, Nat.reduceEqDiff, reduceIte, and_true, true_and, and_false, false_and, and_self, or_true, true_or, qb_or, reduceCtorEq, qbr_True, qbr_False, q10, q01, qwM, pjx hS, e0, e1, en]
    refine qbr_i (fun c2 => ?_) (fun c2 => ?_)
    · refine ⟨nI_vp (by omega) (by omega), ?_⟩
      refine oX11_went_33 _ _ _ _ _ _ ?_
      simp only [bX11_went_33, qsem, qopt_s, qopt2_s, qev, qxs, Nat.reduceEqDiff, reduceIte, and_true, true_and, and_false, false_and, and_self, or_true, true_or, qb_or, reduceCtorEq, qbr_True, qbr_False, q10, q01, qwM, pjx hS, e0, e1, en]
      refine hQ _ _ ⟨rfl, ri ?_⟩
      unfold wnt
      (first | (rw [if_pos c1]; done) | (rw [if_neg c1, if_pos c2]; done) | (rw [if_neg c1, if_neg c2]; done))
    · refine oX11_went_27 _ _ _ _ _ _ ?_
      simp only [bX11_went_27, qsem, qopt_s, qopt2_s, qev, qxs, Nat.reduceEqDiff, reduceIte, and_true, true_and, and_false, false_and, and_self, or_true, true_or, qb_or, reduceCtorEq, qbr_True, qbr_False, q10, q01, qwM, pjx hS, e0, e1, en]
      refine ⟨nI_vp (by omega) (by omega), ?_⟩
      refine oX11_went_33 _ _ _ _ _ _ ?_
      simp only [bX11_went_33, qsem, qopt_s, qopt2_s, qev, qxs, Nat.reduceEqDiff, reduceIte, and_true, true_and, and_false, false_and, and_self, or_true, true_or, qb_or, reduceCtorEq, qbr_True, qbr_False, q10, q01, qwM, pjx hS, e0, e1, en]
      refine hQ _ _ ⟨rfl, ri ?_⟩
      unfold wnt
      (first | (rw [if_pos c1]; done) | (rw [if_neg c1, if_pos c2]; done) | (rw [if_neg c1, if_neg c2]; done))
def areF (S : qS) (a b c : Int32) : Bool := isF S a && (b == -1 || isF S b) && (c == -1 || (b != -1 && isF S c))
set_option maxRecDepth 100000 in
set_option maxHeartbeats 4000000 in
theorem zX11_areFiles {C M : qC} {r : Nat × Nat × Nat} {S : qS} {a b c : Int32} (hS : pj M = S) (h1 : W1 S) : CT mX11_areFiles 2 0 0 [.ref 136, .int a, .int b, .int c] (wd C M r) (fun r' w' => w' = wd C M r ∧ r' = some (.int (qb (areF S a b c)))) := by
  refine eX11_areFiles (AW_gen (fun Q hQ => ?_))
  refine oX11_areFiles_0 _ _ _ _ _ _ ?_
  simp only [bX11_areFiles_0, qsem, qopt_s, qopt2_s, qev, qxs, Nat.reduceEqDiff, reduceIte, and_true, true_and, and_false, false_and, and_self, or_true, true_or, qb_or, reduceCtorEq, qbr_True, qbr_False, q10, q01, qwM, qb_0]
  refine kX11_areFiles_2 (zX11_isFile hS h1) rfl (Nat.le_of_ble_eq_true rfl) (Nat.le_of_ble_eq_true rfl) ⟨Nat.le_of_ble_eq_true rfl, Nat.le_of_ble_eq_true rfl⟩ ?_
  rintro _ _ ⟨rfl, rfl⟩
  refine oX11_areFiles_5 _ _ _ _ _ _ ?_
  simp only [bX11_areFiles_5, qsem, qopt_s, qopt2_s, qev, qxs, Nat.reduceEqDiff, reduceIte, and_true, true_and, and_false, false_and, and_self, or_true, true_or, qb_or, reduceCtorEq, qbr_True, qbr_False, q10, q01, qwM, qb_0]
  refine qbr_i (fun c1 => ?_) (fun c1 => ?_)
  · refine oX11_areFiles_43 _ _ _ _ _ _ ?_
    simp only [bX11_areFiles_43, qsem, qopt_s, qopt2_s, qev, qxs, Nat.reduceEqDiff, reduceIte, and_true, true_and, and_false, false_and, and_self, or_true, true_or, qb_or, reduceCtorEq, qbr_True, qbr_False, q10, q01, qwM, qb_0]
    refine oX11_areFiles_44 _ _ _ _ _ _ ?_
    simp only [bX11_areFiles_44, qsem, qopt_s, qopt2_s, qev, qxs, Nat.reduceEqDiff, reduceIte, and_true, true_and, and_false, false_and, and_self, or_true, true_or, qb_or, reduceCtorEq, qbr_True, qbr_False, q10, q01, qwM, qb_0]
    refine hQ _ _ ⟨rfl, ri ?_⟩
    unfold areF
    (first | (simp_all [qb]; done))
  · refine qbr_i (fun c2 => ?_) (fun c2 => ?_)
    · refine oX11_areFiles_21 _ _ _ _ _ _ ?_
      simp only [bX11_areFiles_21, qsem, qopt_s, qopt2_s, qev, qxs, Nat.reduceEqDiff, reduceIte, and_true, true_and, and_false, false_and, and_self, or_true, true_or, qb_or, reduceCtorEq, qbr_True, qbr_False, q10, q01, qwM, qb_0]
      refine qbr_i (fun c3 => ?_) (fun c3 => ?_)
      · refine oX11_areFiles_39 _ _ _ _ _ _ ?_
        simp only [bX11_areFiles_39, qsem, qopt_s, qopt2_s, qev, qxs, Nat.reduceEqDiff, reduceIte, and_true, true_and, and_false, false_and, and_self, or_true, true_or, qb_or, reduceCtorEq, qbr_True, qbr_False, q10, q01, qwM, qb_0]
        refine oX11_areFiles_44 _ _ _ _ _ _ ?_
        simp only [bX11_areFiles_44, qsem, qopt_s, qopt2_s, qev, qxs, Nat.reduceEqDiff, reduceIte, and_true, true_and, and_false, false_and, and_self, or_true, true_or, qb_or, reduceCtorEq, qbr_True, qbr_False, q10, q01, qwM, qb_0]
        refine hQ _ _ ⟨rfl, ri ?_⟩
        unfold areF
        (first | (simp_all [qb]; done))
      · refine qbr_i (fun c4 => ?_) (fun c4 => ?_)
        · refine oX11_areFiles_43 _ _ _ _ _ _ ?_
          simp only [bX11_areFiles_43, qsem, qopt_s, qopt2_s, qev, qxs, Nat.reduceEqDiff, reduceIte, and_true, true_and, and_false, false_and, and_self, or_true, true_or, qb_or, reduceCtorEq, qbr_True, qbr_False, q10, q01, qwM, qb_0]
          refine oX11_areFiles_44 _ _ _ _ _ _ ?_
          simp only [bX11_areFiles_44, qsem, qopt_s, qopt2_s, qev, qxs, Nat.reduceEqDiff, reduceIte, and_true, true_and, and_false, false_and, and_self, or_true, true_or, qb_or, reduceCtorEq, qbr_True, qbr_False, q10, q01, qwM, qb_0]
          refine hQ _ _ ⟨rfl, ri ?_⟩
          unfold areF
          (first | (simp_all [qb]; done))
        · refine kX11_areFiles_33 (zX11_isFile hS h1) rfl (Nat.le_of_ble_eq_true rfl) (Nat.le_of_ble_eq_true rfl) ⟨Nat.le_of_ble_eq_true rfl, Nat.le_of_ble_eq_true rfl⟩ ?_
          rintro _ _ ⟨rfl, rfl⟩
          refine oX11_areFiles_36 _ _ _ _ _ _ ?_
          simp only [bX11_areFiles_36, qsem, qopt_s, qopt2_s, qev, qxs, Nat.reduceEqDiff, reduceIte, and_true, true_and, and_false, false_and, and_self, or_true, true_or, qb_or, reduceCtorEq, qbr_True, qbr_False, q10, q01, qwM, qb_0]
          refine qbr_i (fun c5 => ?_) (fun c5 => ?_)
          · refine oX11_areFiles_43 _ _ _ _ _ _ ?_
            simp only [bX11_areFiles_43, qsem, qopt_s, qopt2_s, qev, qxs, Nat.reduceEqDiff, reduceIte, and_true, true_and, and_false, false_and, and_self, or_true, true_or, qb_or, reduceCtorEq, qbr_True, qbr_False, q10, q01, qwM, qb_0]
            refine oX11_areFiles_44 _ _ _ _ _ _ ?_
            simp only [bX11_areFiles_44, qsem, qopt_s, qopt2_s, qev, qxs, Nat.reduceEqDiff, reduceIte, and_true, true_and, and_false, false_and, and_self, or_true, true_or, qb_or, reduceCtorEq, qbr_True, qbr_False, q10, q01, qwM, qb_0]
            refine hQ _ _ ⟨rfl, ri ?_⟩
            unfold areF
            (first | (simp_all [qb]; done))
          · refine oX11_areFiles_39 _ _ _ _ _ _ ?_
            simp only [bX11_areFiles_39, qsem, qopt_s, qopt2_s, qev, qxs, Nat.reduceEqDiff, reduceIte, and_true, true_and, and_false, false_and, and_self, or_true, true_or, qb_or, reduceCtorEq, qbr_True, qbr_False, q10, q01, qwM, qb_0]
            refine oX11_areFiles_44 _ _ _ _ _ _ ?_
            simp only [bX11_areFiles_44, qsem, qopt_s, qopt2_s, qev, qxs, Nat.reduceEqDiff, reduceIte, and_true, true_and, and_false, false_and, and_self, or_true, true_or, qb_or, reduceCtorEq, qbr_True, qbr_False, q10, q01, qwM, qb_0]
            refine hQ _ _ ⟨rfl, ri ?_⟩
            unfold areF
            (first | (simp_all [qb]; done))
    · refine kX11_areFiles_15 (zX11_isFile hS h1) rfl (Nat.le_of_ble_eq_true rfl) (Nat.le_of_ble_eq_true rfl) ⟨Nat.le_of_ble_eq_true rfl, Nat.le_of_ble_eq_true rfl⟩ ?_
      rintro _ _ ⟨rfl, rfl⟩
      refine oX11_areFiles_18 _ _ _ _ _ _ ?_
      simp only [bX11_areFiles_18, qsem, qopt_s, qopt2_s, qev, qxs, Nat.reduceEqDiff, reduceIte, and_true, true_and, and_false, false_and, and_self, or_true, true_or, qb_or, reduceCtorEq, qbr_True, qbr_False, q10, q01, qwM, qb_0]
      refine qbr_i (fun c3 => ?_) (fun c3 => ?_)
      · refine oX11_areFiles_43 _ _ _ _ _ _ ?_
        simp only [bX11_areFiles_43, qsem, qopt_s, qopt2_s, qev, qxs, Nat.reduceEqDiff, reduceIte, and_true, true_and, and_false, false_and, and_self, or_true, true_or, qb_or, reduceCtorEq, qbr_True, qbr_False, q10, q01, qwM, qb_0]
        refine oX11_areFiles_44 _ _ _ _ _ _ ?_
        simp only [bX11_areFiles_44, qsem, qopt_s, qopt2_s, qev, qxs, Nat.reduceEqDiff, reduceIte, and_true, true_and, and_false, false_and, and_self, or_true, true_or, qb_or, reduceCtorEq, qbr_True, qbr_False, q10, q01, qwM, qb_0]
        refine hQ _ _ ⟨rfl, ri ?_⟩
        unfold areF
        (first | (simp_all [qb]; done))
      · refine oX11_areFiles_21 _ _ _ _ _ _ ?_
        simp only [bX11_areFiles_21, qsem, qopt_s, qopt2_s, qev, qxs, Nat.reduceEqDiff, reduceIte, and_true, true_and, and_false, false_and, and_self, or_true, true_or, qb_or, reduceCtorEq, qbr_True, qbr_False, q10, q01, qwM, qb_0]
        refine qbr_i (fun c4 => ?_) (fun c4 => ?_)
        · refine oX11_areFiles_39 _ _ _ _ _ _ ?_
          simp only [bX11_areFiles_39, qsem, qopt_s, qopt2_s, qev, qxs, Nat.reduceEqDiff, reduceIte, and_true, true_and, and_false, false_and, and_self, or_true, true_or, qb_or, reduceCtorEq, qbr_True, qbr_False, q10, q01, qwM, qb_0]
          refine oX11_areFiles_44 _ _ _ _ _ _ ?_
          simp only [bX11_areFiles_44, qsem, qopt_s, qopt2_s, qev, qxs, Nat.reduceEqDiff, reduceIte, and_true, true_and, and_false, false_and, and_self, or_true, true_or, qb_or, reduceCtorEq, qbr_True, qbr_False, q10, q01, qwM, qb_0]
          refine hQ _ _ ⟨rfl, ri ?_⟩
          unfold areF
          (first | (simp_all [qb]; done))
        · refine qbr_i (fun c5 => ?_) (fun c5 => ?_)
          · refine oX11_areFiles_43 _ _ _ _ _ _ ?_
            simp only [bX11_areFiles_43, qsem, qopt_s, qopt2_s, qev, qxs, Nat.reduceEqDiff, reduceIte, and_true, true_and, and_false, false_and, and_self, or_true, true_or, qb_or, reduceCtorEq, qbr_True, qbr_False, q10, q01, qwM, qb_0]
            refine oX11_areFiles_44 _ _ _ _ _ _ ?_
            simp only [bX11_areFiles_44, qsem, qopt_s, qopt2_s, qev, qxs, Nat.reduceEqDiff, reduceIte, and_true, true_and, and_false, false_and, and_self, or_true, true_or, qb_or, reduceCtorEq, qbr_True, qbr_False, q10, q01, qwM, qb_0]
            refine hQ _ _ ⟨rfl, ri ?_⟩
            unfold areF
            (first | (simp_all [qb]; done))
          · refine kX11_areFiles_33 (zX11_isFile hS h1) rfl (Nat.le_of_ble_eq_true rfl) (Nat.le_of_ble_eq_true rfl) ⟨Nat.le_of_ble_eq_true rfl, Nat.le_of_ble_eq_true rfl⟩ ?_
            rintro _ _ ⟨rfl, rfl⟩
            refine oX11_areFiles_36 _ _ _ _ _ _ ?_
            simp only [bX11_areFiles_36, qsem, qopt_s, qopt2_s, qev, qxs, Nat.reduceEqDiff, reduceIte, and_true, true_and, and_false, false_and, and_self, or_true, true_or, qb_or, reduceCtorEq, qbr_True, qbr_False, q10, q01, qwM, qb_0]
            refine qbr_i (fun c6 => ?_) (fun c6 => ?_)
            · refine oX11_areFiles_43 _ _ _ _ _ _ ?_
              simp only [bX11_areFiles_43, qsem, qopt_s, qopt2_s, qev, qxs, Nat.reduceEqDiff, reduceIte, and_true, true_and, and_false, false_and, and_self, or_true, true_or, qb_or, reduceCtorEq, qbr_True, qbr_False, q10, q01, qwM, qb_0]
              refine oX11_areFiles_44 _ _ _ _ _ _ ?_
              simp only [bX11_areFiles_44, qsem, qopt_s, qopt2_s, qev, qxs, Nat.reduceEqDiff, reduceIte, and_true, true_and, and_false, false_and, and_self, or_true, true_or, qb_or, reduceCtorEq, qbr_True, qbr_False, q10, q01, qwM, qb_0]
              refine hQ _ _ ⟨rfl, ri ?_⟩
              unfold areF
              (first | (simp_all [qb]; done))
            · refine oX11_areFiles_39 _ _ _ _ _ _ ?_
              simp only [bX11_areFiles_39, qsem, qopt_s, qopt2_s, qev, qxs, Nat.reduceEqDiff, reduceIte, and_true, true_and, and_false, false_and, and_self, or_true, true_or, qb_or, reduceCtorEq, qbr_True, qbr_False, q10, q01, qwM, qb_0]
              refine oX11_areFiles_44 _ _ _ _ _ _ ?_
              simp only [bX11_areFiles_44, qsem, qopt_s, qopt2_s, qev, qxs, Nat.reduceEqDiff, reduceIte, and_true, true_and, and_false, false_and, and_self, or_true, true_or, qb_or, reduceCtorEq, qbr_True, qbr_False, q10, q01, qwM, qb_0]
              refine hQ _ _ ⟨rfl, ri ?_⟩
              unfold areF
              (first | (simp_all [qb]; done))
set_option maxRecDepth 100000 in
set_option maxHeartbeats 4000000 in
theorem zX11_says {C M : qC} {r : Nat × Nat × Nat} {S : qS} {s h f g : Int32} (hS : pj M = S) (h1 : W1 S) : CT mX11_says 2 0 0 [.ref 136, .int s, .int h, .int f, .int g] (wd C M r) (fun r' w' => ∃ M', w' = wd C M' r ∧ ((¬ (isH h = true ∧ isF S f = true ∧ ¬ cN S = 400) ∧ r' = some (.int (-1)) ∧ pj M' = S) ∨ ((isH h = true ∧ isF S f = true ∧ ¬ cN S = 400) ∧ r' = some (.int (nI (cN S))) ∧ pj M' = nA S (fun p => if p = 146 then (if g = 0 then 0 else 1) else vN s f h p)))) := by
  have hN := h1.2.1
  refine eX11_says (AW_gen (fun Q hQ => ?_))
  refine oX11_says_0 _ _ _ _ _ _ ?_
  simp only [bX11_says_0, qsem, qopt_s, qopt2_s, qev, qxs, Nat.reduceEqDiff, reduceIte, and_true, true_and, and_false, false_and, and_self, or_true, true_or, qb_or, reduceCtorEq, qbr_True, qbr_False, q10, q01, qwM, pjx hS, h1.1.1, cN400 h1, qb_0]
  refine kX11_says_1 (zX11_isHand) (Nat.le_of_ble_eq_true rfl) (Nat.le_of_ble_eq_true rfl) ⟨Nat.le_of_ble_eq_true rfl, Nat.le_of_ble_eq_true rfl⟩ ?_
  rintro _ _ ⟨rfl, rfl⟩
  refine oX11_says_4 _ _ _ _ _ _ ?_
  simp only [bX11_says_4, qsem, qopt_s, qopt2_s, qev, qxs, Nat.reduceEqDiff, reduceIte, and_true, true_and, and_false, false_and, and_self, or_true, true_or, qb_or, reduceCtorEq, qbr_True, qbr_False, q10, q01, qwM, pjx hS, h1.1.1, cN400 h1, qb_0]
  refine qbr_i (fun c1 => ?_) (fun c1 => ?_)
  · refine oX11_says_25 _ _ _ _ _ _ ?_
    simp only [bX11_says_25, qsem, qopt_s, qopt2_s, qev, qxs, Nat.reduceEqDiff, reduceIte, and_true, true_and, and_false, false_and, and_self, or_true, true_or, qb_or, reduceCtorEq, qbr_True, qbr_False, q10, q01, qwM, pjx hS, h1.1.1, cN400 h1, qb_0]
    (first | (exact hQ _ _ ⟨M, rfl, Or.inl ⟨by simp_all, rfl, hS⟩⟩; done) | (exact hQ _ _ ⟨_, rfl, Or.inr ⟨⟨by simp_all, by simp_all, by assumption⟩, rfl, by simp only [cNcl h1, pjx hS2]; rw [pj_wA rfl, hS2, nA_put (by omega)]; first | rw [if_pos c4] | rw [if_neg c4]⟩⟩; done))
  · refine kX11_says_9 (zX11_isFile hS h1) rfl (Nat.le_of_ble_eq_true rfl) (Nat.le_of_ble_eq_true rfl) ⟨Nat.le_of_ble_eq_true rfl, Nat.le_of_ble_eq_true rfl⟩ ?_
    rintro _ _ ⟨rfl, rfl⟩
    refine oX11_says_12 _ _ _ _ _ _ ?_
    simp only [bX11_says_12, qsem, qopt_s, qopt2_s, qev, qxs, Nat.reduceEqDiff, reduceIte, and_true, true_and, and_false, false_and, and_self, or_true, true_or, qb_or, reduceCtorEq, qbr_True, qbr_False, q10, q01, qwM, pjx hS, h1.1.1, cN400 h1, qb_0]
    refine qbr_i (fun c2 => ?_) (fun c2 => ?_)
    · refine oX11_says_25 _ _ _ _ _ _ ?_
      simp only [bX11_says_25, qsem, qopt_s, qopt2_s, qev, qxs, Nat.reduceEqDiff, reduceIte, and_true, true_and, and_false, false_and, and_self, or_true, true_or, qb_or, reduceCtorEq, qbr_True, qbr_False, q10, q01, qwM, pjx hS, h1.1.1, cN400 h1, qb_0]
      (first | (exact hQ _ _ ⟨M, rfl, Or.inl ⟨by simp_all, rfl, hS⟩⟩; done) | (exact hQ _ _ ⟨_, rfl, Or.inr ⟨⟨by simp_all, by simp_all, by assumption⟩, rfl, by simp only [cNcl h1, pjx hS2]; rw [pj_wA rfl, hS2, nA_put (by omega)]; first | rw [if_pos c4] | rw [if_neg c4]⟩⟩; done))
    · refine qbr_i (fun c3 => ?_) (fun c3 => ?_)
      · refine oX11_says_25 _ _ _ _ _ _ ?_
        simp only [bX11_says_25, qsem, qopt_s, qopt2_s, qev, qxs, Nat.reduceEqDiff, reduceIte, and_true, true_and, and_false, false_and, and_self, or_true, true_or, qb_or, reduceCtorEq, qbr_True, qbr_False, q10, q01, qwM, pjx hS, h1.1.1, cN400 h1, qb_0]
        (first | (exact hQ _ _ ⟨M, rfl, Or.inl ⟨by simp_all, rfl, hS⟩⟩; done) | (exact hQ _ _ ⟨_, rfl, Or.inr ⟨⟨by simp_all, by simp_all, by assumption⟩, rfl, by simp only [cNcl h1, pjx hS2]; rw [pj_wA rfl, hS2, nA_put (by omega)]; first | rw [if_pos c4] | rw [if_neg c4]⟩⟩; done))
      · refine oX11_says_27 _ _ _ _ _ _ ?_
        simp only [bX11_says_27, qsem, qopt_s, qopt2_s, qev, qxs, Nat.reduceEqDiff, reduceIte, and_true, true_and, and_false, false_and, and_self, or_true, true_or, qb_or, reduceCtorEq, qbr_True, qbr_False, q10, q01, qwM, pjx hS, h1.1.1, cN400 h1, qb_0]
        refine kX11_says_31 (zX11_addNote hS h1 (by omega)) rfl (Nat.le_of_ble_eq_true rfl) (Nat.le_of_ble_eq_true rfl) ⟨Nat.le_of_ble_eq_true rfl, Nat.le_of_ble_eq_true rfl⟩ ?_
        rintro _ _ ⟨M2, rfl, rfl, hS2⟩
        refine oX11_says_34 _ _ _ _ _ _ ?_
        simp only [bX11_says_34, qsem, qopt_s, qopt2_s, qev, qxs, Nat.reduceEqDiff, reduceIte, and_true, true_and, and_false, false_and, and_self, or_true, true_or, qb_or, reduceCtorEq, qbr_True, qbr_False, q10, q01, qwM, pjx hS, h1.1.1, cN400 h1, qb_0]
        refine qbr_i (fun c4 => ?_) (fun c4 => ?_)
        · refine oX11_says_51 _ _ _ _ _ _ ?_
          simp only [bX11_says_51, qsem, qopt_s, qopt2_s, qev, qxs, Nat.reduceEqDiff, reduceIte, and_true, true_and, and_false, false_and, and_self, or_true, true_or, qb_or, reduceCtorEq, qbr_True, qbr_False, q10, q01, qwM, pjx hS, h1.1.1, cN400 h1, qb_0]
          refine oX11_says_52 _ _ _ _ _ _ ?_
          simp only [bX11_says_52, qsem, qopt_s, qopt2_s, qev, qxs, Nat.reduceEqDiff, reduceIte, and_true, true_and, and_false, false_and, and_self, or_true, true_or, qb_or, reduceCtorEq, qbr_True, qbr_False, q10, q01, qwM, pjx hS, h1.1.1, cN400 h1, qb_0]
          refine ⟨nI_vp (by omega) (by omega), ?_⟩
          (first | (exact hQ _ _ ⟨M, rfl, Or.inl ⟨by simp_all, rfl, hS⟩⟩; done) | (exact hQ _ _ ⟨_, rfl, Or.inr ⟨⟨by simp_all, by simp_all, by assumption⟩, rfl, by simp only [cNcl h1, pjx hS2]; rw [pj_wA rfl, hS2, nA_put (by omega)]; first | rw [if_pos c4] | rw [if_neg c4]⟩⟩; done))
        · refine oX11_says_52 _ _ _ _ _ _ ?_
          simp only [bX11_says_52, qsem, qopt_s, qopt2_s, qev, qxs, Nat.reduceEqDiff, reduceIte, and_true, true_and, and_false, false_and, and_self, or_true, true_or, qb_or, reduceCtorEq, qbr_True, qbr_False, q10, q01, qwM, pjx hS, h1.1.1, cN400 h1, qb_0]
          refine ⟨nI_vp (by omega) (by omega), ?_⟩
          (first | (exact hQ _ _ ⟨M, rfl, Or.inl ⟨by simp_all, rfl, hS⟩⟩; done) | (exact hQ _ _ ⟨_, rfl, Or.inr ⟨⟨by simp_all, by simp_all, by assumption⟩, rfl, by simp only [cNcl h1, pjx hS2]; rw [pj_wA rfl, hS2, nA_put (by omega)]; first | rw [if_pos c4] | rw [if_neg c4]⟩⟩; done))


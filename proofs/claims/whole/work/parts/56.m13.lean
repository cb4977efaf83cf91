def inN (x : Int32) (n : Nat) : Bool := decide (0 ≤ x ∧ x < nI n)
theorem inN_e {x : Int32} {n : Nat} (hn : n < 1000) : decide (0 ≤ x ∧ x ≤ nI n - 1) = inN x n := by
  refine decide_eq_decide.mpr ?_
  rw [i_le, i_le, i_lt, i_sub1 (by omega), i_n (by omega), i_0]
  omega
theorem inN_of {x : Int32} {n : Nat} (hn : n < 1000) (h : inN x n = true) : ∃ j, j < n ∧ x = nI j := by
  have h2 := of_decide_eq_true h
  exact i_bd h2.1 h2.2 (by omega)
def sel8 (what : Int32) (v : Nat → Int32) : Int32 := if what = 0 then v 0 else if what = 1 then v 1 else if what = 2 then v 2 else if what = 3 then v 3 else if what = 4 then v 4 else if what = 5 then v 5 else if what = 6 then v 6 else if what = 7 then v 7 else if what = 8 then v 8 else -1
theorem sel8_d {what : Int32} {v : Nat → Int32} (h : ∀ k : Nat, k < 9 → v k = -1 ∨ ¬ what = nI k) : sel8 what v = -1 := by
  unfold sel8
  split; · rename_i e; exact (h 0 (by omega)).elim id (fun q => absurd e q)
  split; · rename_i e; exact (h 1 (by omega)).elim id (fun q => absurd e q)
  split; · rename_i e; exact (h 2 (by omega)).elim id (fun q => absurd e q)
  split; · rename_i e; exact (h 3 (by omega)).elim id (fun q => absurd e q)
  split; · rename_i e; exact (h 4 (by omega)).elim id (fun q => absurd e q)
  split; · rename_i e; exact (h 5 (by omega)).elim id (fun q => absurd e q)
  split; · rename_i e; exact (h 6 (by omega)).elim id (fun q => absurd e q)
  split; · rename_i e; exact (h 7 (by omega)).elim id (fun q => absurd e q)
  split; · rename_i e; exact (h 8 (by omega)).elim id (fun q => absurd e q)
  rfl
def ntV (S : qS) (n k : Nat) : Int32 := if k = 0 then S.2.1 138 n else if k = 1 then S.2.1 139 n else if k = 2 then S.2.1 140 n else if k = 3 then S.2.1 142 n else if k = 4 then S.2.1 143 n else if k = 5 then S.2.1 144 n else if k = 6 then S.2.1 145 n else if k = 7 then S.2.1 146 n else -1
set_option maxRecDepth 100000 in
set_option maxHeartbeats 4000000 in
theorem zX11_note {C M : qC} {r : Nat × Nat × Nat} {S : qS} {a what : Int32} (hS : pj M = S) (h1 : W1 S) : CT mX11_note 1 0 0 [.ref 136, .int a, .int what] (wd C M r) (fun r' w' => w' = wd C M r ∧ r' = some (.int (if inN a (cN S) then sel8 what (ntV S a.toNatClampNeg) else -1))) := by
  have hN := h1.2.1
  refine eX11_note (AW_gen (fun Q hQ => ?_))
  refine oX11_note_0 _ _ _ _ _ _ ?_
  simp only [bX11_note_0, qsem, qopt_s, qopt2_s, qev, qxs, Nat.reduceEqDiff, reduceIte, and_true, true_and, and_false, false_and, and_self, or_true, true_or, qb_or, reduceCtorEq, qbr_True, qbr_False, q10, q01, qwM, pjx hS, h1.1.1, inN_e (show cN S < 1000 by omega), qb_0]
  refine kX11_note_8 (zX11_in) (Nat.le_of_ble_eq_true rfl) (Nat.le_of_ble_eq_true rfl) ⟨Nat.le_of_ble_eq_true rfl, Nat.le_of_ble_eq_true rfl⟩ ?_
  rintro _ _ ⟨rfl, rfl⟩
  refine oX11_note_11 _ _ _ _ _ _ ?_
  simp only [bX11_note_11, qsem, qopt_s, qopt2_s, qev, qxs, Nat.reduceEqDiff, reduceIte, and_true, true_and, and_false, false_and, and_self, or_true, true_or, qb_or, reduceCtorEq, qbr_True, qbr_False, q10, q01, qwM, pjx hS, h1.1.1, inN_e (show cN S < 1000 by omega), qb_0]
  refine qbr_i (fun c1 => ?_) (fun c1 => ?_)
  · (first | (exact hQ _ _ ⟨rfl, ri (by rw [c1]; rfl)⟩; done) | (exact hQ _ _ ⟨rfl, ri (by rw [show inN a (cN S) = true by simpa using c1, sw]; rfl)⟩; done) | (exact hQ _ _ ⟨rfl, ri (by rw [show inN a (cN S) = true by simpa using c1]; unfold sel8; simp only [sw0, sw1, sw2, sw3, sw4, sw5, sw6, sw7, if_false, if_true]; split <;> rfl)⟩; done))
  · refine oX11_note_16 _ _ _ _ _ _ ?_
    simp only [bX11_note_16, qsem, qopt_s, qopt2_s, qev, qxs, Nat.reduceEqDiff, reduceIte, and_true, true_and, and_false, false_and, and_self, or_true, true_or, qb_or, reduceCtorEq, qbr_True, qbr_False, q10, q01, qwM, pjx hS, h1.1.1, inN_e (show cN S < 1000 by omega), qb_0]
    refine uX11_note_17 (fun sw => ?_) (fun sw => ?_) (fun sw => ?_) (fun sw => ?_) (fun sw => ?_) (fun sw => ?_) (fun sw => ?_) (fun sw => ?_) (fun sw0 sw1 sw2 sw3 sw4 sw5 sw6 sw7 => ?_)
    · refine oX11_note_64 _ _ _ _ _ _ ?_
      simp only [bX11_note_64, qsem, qopt_s, qopt2_s, qev, qxs, Nat.reduceEqDiff, reduceIte, and_true, true_and, and_false, false_and, and_self, or_true, true_or, qb_or, reduceCtorEq, qbr_True, qbr_False, q10, q01, qwM, pjx hS, h1.1.1, inN_e (show cN S < 1000 by omega), qb_0]
      refine ⟨by obtain ⟨j, hj, rfl⟩ := inN_of (by omega) (show inN a (cN S) = true by simpa using c1); exact nI_vp (by omega) (by omega), ?_⟩
      (first | (exact hQ _ _ ⟨rfl, ri (by rw [c1]; rfl)⟩; done) | (exact hQ _ _ ⟨rfl, ri (by rw [show inN a (cN S) = true by simpa using c1, sw]; rfl)⟩; done) | (exact hQ _ _ ⟨rfl, ri (by rw [show inN a (cN S) = true by simpa using c1]; unfold sel8; simp only [sw0, sw1, sw2, sw3, sw4, sw5, sw6, sw7, if_false, if_true]; split <;> rfl)⟩; done))
    · refine oX11_note_71 _ _ _ _ _ _ ?_
      simp only [bX11_note_71, qsem, qopt_s, qopt2_s, qev, qxs, Nat.reduceEqDiff, reduceIte, and_true, true_and, and_false, false_and, and_self, or_true, true_or, qb_or, reduceCtorEq, qbr_True, qbr_False, q10, q01, qwM, pjx hS, h1.1.1, inN_e (show cN S < 1000 by omega), qb_0]
      refine ⟨by obtain ⟨j, hj, rfl⟩ := inN_of (by omega) (show inN a (cN S) = true by simpa using c1); exact nI_vp (by omega) (by omega), ?_⟩
      (first | (exact hQ _ _ ⟨rfl, ri (by rw [c1]; rfl)⟩; done) | (exact hQ _ _ ⟨rfl, ri (by rw [show inN a (cN S) = true by simpa using c1, sw]; rfl)⟩; done) | (exact hQ _ _ ⟨rfl, ri (by rw [show inN a (cN S) = true by simpa using c1]; unfold sel8; simp only [sw0, sw1, sw2, sw3, sw4, sw5, sw6, sw7, if_false, if_true]; split <;> rfl)⟩; done))
    · refine oX11_note_78 _ _ _ _ _ _ ?_
      simp only [bX11_note_78, qsem, qopt_s, qopt2_s, qev, qxs, Nat.reduceEqDiff, reduceIte, and_true, true_and, and_false, false_and, and_self, or_true, true_or, qb_or, reduceCtorEq, qbr_True, qbr_False, q10, q01, qwM, pjx hS, h1.1.1, inN_e (show cN S < 1000 by omega), qb_0]
      refine ⟨by obtain ⟨j, hj, rfl⟩ := inN_of (by omega) (show inN a (cN S) = true by simpa using c1); exact nI_vp (by omega) (by omega), ?_⟩
      (first | (exact hQ _ _ ⟨rfl, ri (by rw [c1]; rfl)⟩; done) | (exact hQ _ _ ⟨rfl, ri (by rw [show inN a (cN S) = true by simpa using c1, sw]; rfl)⟩; done) | (exact hQ _ _ ⟨rfl, ri (by rw [show inN a (cN S) = true by simpa using c1]; unfold sel8; simp only [sw0, sw1, sw2, sw3, sw4, sw5, sw6, sw7, if_false, if_true]; split <;> rfl)⟩; done))
    · refine oX11_note_85 _ _ _ _ _ _ ?_
      simp only [bX11_note_85, qsem, qopt_s, qopt2_s, qev, qxs, Nat.reduceEqDiff, reduceIte, and_true, true_and, and_false, false_and, and_self, or_true, true_or, qb_or, reduceCtorEq, qbr_True, qbr_False, q10, q01, qwM, pjx hS, h1.1.1, inN_e (show cN S < 1000 by omega), qb_0]
      refine ⟨by obtain ⟨j, hj, rfl⟩ := inN_of (by omega) (show inN a (cN S) = true by simpa using c1); exact nI_vp (by omega) (by omega), ?_⟩
      (first | (exact hQ _ _ ⟨rfl, ri (by rw [c1]; rfl)⟩; done) | (exact hQ _ _ ⟨rfl, ri (by rw [show inN a (cN S) = true by simpa using c1, sw]; rfl)⟩; done) | (exact hQ _ _ ⟨rfl, ri (by rw [show inN a (cN S) = true by simpa using c1]; unfold sel8; simp only [sw0, sw1, sw2, sw3, sw4, sw5, sw6, sw7, if_false, if_true]; split <;> rfl)⟩; done))
    · refine oX11_note_92 _ _ _ _ _ _ ?_
      simp only [bX11_note_92, qsem, qopt_s, qopt2_s, qev, qxs, Nat.reduceEqDiff, reduceIte, and_true, true_and, and_false, false_and, and_self, or_true, true_or, qb_or, reduceCtorEq, qbr_True, qbr_False, q10, q01, qwM, pjx hS, h1.1.1, inN_e (show cN S < 1000 by omega), qb_0]
      refine ⟨by obtain ⟨j, hj, rfl⟩ := inN_of (by omega) (show inN a (cN S) = true by simpa using c1); exact nI_vp (by omega) (by omega), ?_⟩
      (first | (exact hQ _ _ ⟨rfl, ri (by rw [c1]; rfl)⟩; done) | (exact hQ _ _ ⟨rfl, ri (by rw [show inN a (cN S) = true by simpa using c1, sw]; rfl)⟩; done) | (exact hQ _ _ ⟨rfl, ri (by rw [show inN a (cN S) = true by simpa using c1]; unfold sel8; simp only [sw0, sw1, sw2, sw3, sw4, sw5, sw6, sw7, if_false, if_true]; split <;> rfl)⟩; done))
    · refine oX11_note_99 _ _ _ _ _ _ ?_
      simp only [bX11_note_99, qsem, qopt_s, qopt2_s, qev, qxs, Nat.reduceEqDiff, reduceIte, and_true, true_and, and_false, false_and, and_self, or_true, true_or, qb_or, reduceCtorEq, qbr_True, qbr_False, q10, q01, qwM, pjx hS, h1.1.1, inN_e (show cN S < 1000 by omega), qb_0]
      refine ⟨by obtain ⟨j, hj, rfl⟩ := inN_of (by omega) (show inN a (cN S) = true by simpa using c1); exact nI_vp (by omega) (by omega), ?_⟩
      (first | (exact hQ _ _ ⟨rfl, ri (by rw [c1]; rfl)⟩; done) | (exact hQ _ _ ⟨rfl, ri (by rw [show inN a (cN S) = true by simpa using c1, sw]; rfl)⟩; done) | (exact hQ _ _ ⟨rfl, ri (by rw [show inN a (cN S) = true by simpa using c1]; unfold sel8; simp only [sw0, sw1, sw2, sw3, sw4, sw5, sw6, sw7, if_false, if_true]; split <;> rfl)⟩; done))
    · refine oX11_note_106 _ _ _ _ _ _ ?_
      simp only [bX11_note_106, qsem, qopt_s, qopt2_s, qev, qxs, Nat.reduceEqDiff, reduceIte, and_true, true_and, and_false, false_and, and_self, or_true, true_or, qb_or, reduceCtorEq, qbr_True, qbr_False, q10, q01, qwM, pjx hS, h1.1.1, inN_e (show cN S < 1000 by omega), qb_0]
      refine ⟨by obtain ⟨j, hj, rfl⟩ := inN_of (by omega) (show inN a (cN S) = true by simpa using c1); exact nI_vp (by omega) (by omega), ?_⟩
      (first | (exact hQ _ _ ⟨rfl, ri (by rw [c1]; rfl)⟩; done) | (exact hQ _ _ ⟨rfl, ri (by rw [show inN a (cN S) = true by simpa using c1, sw]; rfl)⟩; done) | (exact hQ _ _ ⟨rfl, ri (by rw [show inN a (cN S) = true by simpa using c1]; unfold sel8; simp only [sw0, sw1, sw2, sw3, sw4, sw5, sw6, sw7, if_false, if_true]; split <;> rfl)⟩; done))
    · refine oX11_note_113 _ _ _ _ _ _ ?_
      simp only [bX11_note_113, qsem, qopt_s, qopt2_s, qev, qxs, Nat.reduceEqDiff, reduceIte, and_true, true_and, and_false, false_and, and_self, or_true, true_or, qb_or, reduceCtorEq, qbr_True, qbr_False, q10, q01, qwM, pjx hS, h1.1.1, inN_e (show cN S < 1000 by omega), qb_0]
      refine ⟨by obtain ⟨j, hj, rfl⟩ := inN_of (by omega) (show inN a (cN S) = true by simpa using c1); exact nI_vp (by omega) (by omega), ?_⟩
      (first | (exact hQ _ _ ⟨rfl, ri (by rw [c1]; rfl)⟩; done) | (exact hQ _ _ ⟨rfl, ri (by rw [show inN a (cN S) = true by simpa using c1, sw]; rfl)⟩; done) | (exact hQ _ _ ⟨rfl, ri (by rw [show inN a (cN S) = true by simpa using c1]; unfold sel8; simp only [sw0, sw1, sw2, sw3, sw4, sw5, sw6, sw7, if_false, if_true]; split <;> rfl)⟩; done))
    · refine oX11_note_120 _ _ _ _ _ _ ?_
      simp only [bX11_note_120, qsem, qopt_s, qopt2_s, qev, qxs, Nat.reduceEqDiff, reduceIte, and_true, true_and, and_false, false_and, and_self, or_true, true_or, qb_or, reduceCtorEq, qbr_True, qbr_False, q10, q01, qwM, pjx hS, h1.1.1, inN_e (show cN S < 1000 by omega), qb_0]
      (first | (exact hQ _ _ ⟨rfl, ri (by rw [c1]; rfl)⟩; done) | (exact hQ _ _ ⟨rfl, ri (by rw [show inN a (cN S) = true by simpa using c1, sw]; rfl)⟩; done) | (exact hQ _ _ ⟨rfl, ri (by rw [show inN a (cN S) = true by simpa using c1]; unfold sel8; simp only [sw0, sw1, sw2, sw3, sw4, sw5, sw6, sw7, if_false, if_true]; split <;> rfl)⟩; done))
def slV (S : qS) (b : Bool) (s k : Nat) : Int32 := if k = 0 then S.2.1 139 (sln S s) else if k = 1 then S.2.1 147 (sln S s) else if k = 2 then nI (sln S s) else if k = 3 then S.2.1 140 (sln S s) else if k = 4 then S.2.1 141 (sln S s) else if k = 5 then S.2.1 148 (sln S s) else if k = 6 then qb b else -1
set_option maxRecDepth 100000 in
set_option maxHeartbeats 4000000 in
theorem zX11_sealed {C M : qC} {r : Nat × Nat × Nat} {S : qS} {a what : Int32} (hS : pj M = S) (h1 : W1 S) (h2 : W2 S) (h4 : W4 S) (h5 : W5 S) : CT mX11_sealed 5 0 0 [.ref 136, .int a, .int what] (wd C M r) (fun r' w' => ∃ M' b, w' = wd C M' r ∧ pj M' = S ∧ (what = 6 → inN a (cS S) = true → (b = true ↔ std S a.toNatClampNeg)) ∧ r' = some (.int (if inN a (cS S) then sel8 what (slV S b a.toNatClampNeg) else -1))) := by
  have hN := h1.2.1
  have hcs := h1.2.2.2.2.2.2.1
  refine eX11_sealed (AW_gen (fun Q hQ => ?_))
  by_cases hin : inN a (cS S) = true
  · obtain ⟨s, hs, rfl⟩ := inN_of (by omega) hin
    obtain ⟨⟨e1, l1⟩, -⟩ := h4 s hs
    have ecl := nIcl (show s < 1000 by omega)
    refine oX11_sealed_0 _ _ _ _ _ _ ?_
    simp only [bX11_sealed_0, qsem, qopt_s, qopt2_s, qev, qxs, Nat.reduceEqDiff, reduceIte, and_true, true_and, and_false, false_and, and_self, or_true, true_or, qb_or, reduceCtorEq, qbr_True, qbr_False, q10, q01, qwM, pjx hS, h1.1.2.2.2.2.2.1, inN_e (show cS S < 1000 by omega), hin, qb_t, qb_0, ecl, e1, nIcl (show sln S s < 1000 by omega)]
    refine kX11_sealed_8 (zX11_in) (Nat.le_of_ble_eq_true rfl) (Nat.le_of_ble_eq_true rfl) ⟨Nat.le_of_ble_eq_true rfl, Nat.le_of_ble_eq_true rfl⟩ ?_
    rintro _ _ ⟨rfl, rfl⟩
    refine oX11_sealed_11 _ _ _ _ _ _ ?_
    simp only [bX11_sealed_11, qsem, qopt_s, qopt2_s, qev, qxs, Nat.reduceEqDiff, reduceIte, and_true, true_and, and_false, false_and, and_self, or_true, true_or, qb_or, reduceCtorEq, qbr_True, qbr_False, q10, q01, qwM, pjx hS, h1.1.2.2.2.2.2.1, inN_e (show cS S < 1000 by omega), hin, qb_t, qb_0, ecl, e1, nIcl (show sln S s < 1000 by omega)]
    refine oX11_sealed_16 _ _ _ _ _ _ ?_
    simp only [bX11_sealed_16, qsem, qopt_s, qopt2_s, qev, qxs, Nat.reduceEqDiff, reduceIte, and_true, true_and, and_false, false_and, and_self, or_true, true_or, qb_or, reduceCtorEq, qbr_True, qbr_False, q10, q01, qwM, pjx hS, h1.1.2.2.2.2.2.1, inN_e (show cS S < 1000 by omega), hin, qb_t, qb_0, ecl, e1, nIcl (show sln S s < 1000 by omega)]
    refine ⟨nI_vp (by omega) (by omega), ?_⟩
    refine uX11_sealed_24 (fun sw => ?_) (fun sw => ?_) (fun sw => ?_) (fun sw => ?_) (fun sw => ?_) (fun sw => ?_) (fun sw => ?_) (fun sw0 sw1 sw2 sw3 sw4 sw5 sw6 => ?_)
    · refine oX11_sealed_68 _ _ _ _ _ _ ?_
      simp only [bX11_sealed_68, qsem, qopt_s, qopt2_s, qev, qxs, Nat.reduceEqDiff, reduceIte, and_true, true_and, and_false, false_and, and_self, or_true, true_or, qb_or, reduceCtorEq, qbr_True, qbr_False, q10, q01, qwM, pjx hS, h1.1.2.2.2.2.2.1, inN_e (show cS S < 1000 by omega), hin, qb_t, qb_0, ecl, e1, nIcl (show sln S s < 1000 by omega)]
      refine ⟨nI_vp (by omega) (by omega), ?_⟩
      (first | (exact hQ _ _ ⟨M1, b1, rfl, hS1, fun _ _ => by rw [ecl]; exact hb1, ri (by rw [if_pos hin, ecl, sw]; first | (rw [c1]; rfl) | (rw [show b1 = true by simpa using c1]; rfl))⟩; done) | (exact hQ _ _ ⟨M, false, rfl, hS, fun q => absurd (sw.symm.trans q) (by decide), ri (by rw [if_pos hin, ecl, sw]; rfl)⟩; done) | (exact hQ _ _ ⟨M, false, rfl, hS, fun q => absurd q sw6, ri (by rw [if_pos hin]; unfold sel8; simp only [sw0, sw1, sw2, sw3, sw4, sw5, sw6, if_false]; repeat (first | rfl | split))⟩; done))
    · refine oX11_sealed_75 _ _ _ _ _ _ ?_
      simp only [bX11_sealed_75, qsem, qopt_s, qopt2_s, qev, qxs, Nat.reduceEqDiff, reduceIte, and_true, true_and, and_false, false_and, and_self, or_true, true_or, qb_or, reduceCtorEq, qbr_True, qbr_False, q10, q01, qwM, pjx hS, h1.1.2.2.2.2.2.1, inN_e (show cS S < 1000 by omega), hin, qb_t, qb_0, ecl, e1, nIcl (show sln S s < 1000 by omega)]
      refine ⟨nI_vp (by omega) (by omega), ?_⟩
      (first | (exact hQ _ _ ⟨M1, b1, rfl, hS1, fun _ _ => by rw [ecl]; exact hb1, ri (by rw [if_pos hin, ecl, sw]; first | (rw [c1]; rfl) | (rw [show b1 = true by simpa using c1]; rfl))⟩; done) | (exact hQ _ _ ⟨M, false, rfl, hS, fun q => absurd (sw.symm.trans q) (by decide), ri (by rw [if_pos hin, ecl, sw]; rfl)⟩; done) | (exact hQ _ _ ⟨M, false, rfl, hS, fun q => absurd q sw6, ri (by rw [if_pos hin]; unfold sel8; simp only [sw0, sw1, sw2, sw3, sw4, sw5, sw6, if_false]; repeat (first | rfl | split))⟩; done))
    · refine oX11_sealed_82 _ _ _ _ _ _ ?_
      simp only [bX11_sealed_82, qsem, qopt_s, qopt2_s, qev, qxs, Nat.reduceEqDiff, reduceIte, and_true, true_and, and_false, false_and, and_self, or_true, true_or, qb_or, reduceCtorEq, qbr_True, qbr_False, q10, q01, qwM, pjx hS, h1.1.2.2.2.2.2.1, inN_e (show cS S < 1000 by omega), hin, qb_t, qb_0, ecl, e1, nIcl (show sln S s < 1000 by omega)]
      (first | (exact hQ _ _ ⟨M1, b1, rfl, hS1, fun _ _ => by rw [ecl]; exact hb1, ri (by rw [if_pos hin, ecl, sw]; first | (rw [c1]; rfl) | (rw [show b1 = true by simpa using c1]; rfl))⟩; done) | (exact hQ _ _ ⟨M, false, rfl, hS, fun q => absurd (sw.symm.trans q) (by decide), ri (by rw [if_pos hin, ecl, sw]; rfl)⟩; done) | (exact hQ _ _ ⟨M, false, rfl, hS, fun q => absurd q sw6, ri (by rw [if_pos hin]; unfold sel8; simp only [sw0, sw1, sw2, sw3, sw4, sw5, sw6, if_false]; repeat (first | rfl | split))⟩; done))
    · refine oX11_sealed_84 _ _ _ _ _ _ ?_
      simp only [bX11_sealed_84, qsem, qopt_s, qopt2_s, qev, qxs, Nat.reduceEqDiff, reduceIte, and_true, true_and, and_false, false_and, and_self, or_true, true_or, qb_or, reduceCtorEq, qbr_True, qbr_False, q10, q01, qwM, pjx hS, h1.1.2.2.2.2.2.1, inN_e (show cS S < 1000 by omega), hin, qb_t, qb_0, ecl, e1, nIcl (show sln S s < 1000 by omega)]
      refine ⟨nI_vp (by omega) (by omega), ?_⟩
      (first | (exact hQ _ _ ⟨M1, b1, rfl, hS1, fun _ _ => by rw [ecl]; exact hb1, ri (by rw [if_pos hin, ecl, sw]; first | (rw [c1]; rfl) | (rw [show b1 = true by simpa using c1]; rfl))⟩; done) | (exact hQ _ _ ⟨M, false, rfl, hS, fun q => absurd (sw.symm.trans q) (by decide), ri (by rw [if_pos hin, ecl, sw]; rfl)⟩; done) | (exact hQ _ _ ⟨M, false, rfl, hS, fun q => absurd q sw6, ri (by rw [if_pos hin]; unfold sel8; simp only [sw0, sw1, sw2, sw3, sw4, sw5, sw6, if_false]; repeat (first | rfl | split))⟩; done))
    · refine oX11_sealed_91 _ _ _ _ _ _ ?_
      simp only [bX11_sealed_91, qsem, qopt_s, qopt2_s, qev, qxs, Nat.reduceEqDiff, reduceIte, and_true, true_and, and_false, false_and, and_self, or_true, true_or, qb_or, reduceCtorEq, qbr_True, qbr_False, q10, q01, qwM, pjx hS, h1.1.2.2.2.2.2.1, inN_e (show cS S < 1000 by omega), hin, qb_t, qb_0, ecl, e1, nIcl (show sln S s < 1000 by omega)]
      refine ⟨nI_vp (by omega) (by omega), ?_⟩
      (first | (exact hQ _ _ ⟨M1, b1, rfl, hS1, fun _ _ => by rw [ecl]; exact hb1, ri (by rw [if_pos hin, ecl, sw]; first | (rw [c1]; rfl) | (rw [show b1 = true by simpa using c1]; rfl))⟩; done) | (exact hQ _ _ ⟨M, false, rfl, hS, fun q => absurd (sw.symm.trans q) (by decide), ri (by rw [if_pos hin, ecl, sw]; rfl)⟩; done) | (exact hQ _ _ ⟨M, false, rfl, hS, fun q => absurd q sw6, ri (by rw [if_pos hin]; unfold sel8; simp only [sw0, sw1, sw2, sw3, sw4, sw5, sw6, if_false]; repeat (first | rfl | split))⟩; done))
    · refine oX11_sealed_98 _ _ _ _ _ _ ?_
      simp only [bX11_sealed_98, qsem, qopt_s, qopt2_s, qev, qxs, Nat.reduceEqDiff, reduceIte, and_true, true_and, and_false, false_and, and_self, or_true, true_or, qb_or, reduceCtorEq, qbr_True, qbr_False, q10, q01, qwM, pjx hS, h1.1.2.2.2.2.2.1, inN_e (show cS S < 1000 by omega), hin, qb_t, qb_0, ecl, e1, nIcl (show sln S s < 1000 by omega)]
      refine ⟨nI_vp (by omega) (by omega), ?_⟩
      (first | (exact hQ _ _ ⟨M1, b1, rfl, hS1, fun _ _ => by rw [ecl]; exact hb1, ri (by rw [if_pos hin, ecl, sw]; first | (rw [c1]; rfl) | (rw [show b1 = true by simpa using c1]; rfl))⟩; done) | (exact hQ _ _ ⟨M, false, rfl, hS, fun q => absurd (sw.symm.trans q) (by decide), ri (by rw [if_pos hin, ecl, sw]; rfl)⟩; done) | (exact hQ _ _ ⟨M, false, rfl, hS, fun q => absurd q sw6, ri (by rw [if_pos hin]; unfold sel8; simp only [sw0, sw1, sw2, sw3, sw4, sw5, sw6, if_false]; repeat (first | rfl | split))⟩; done))
    · refine oX11_sealed_105 _ _ _ _ _ _ ?_
      simp only [bX11_sealed_105, qsem, qopt_s, qopt2_s, qev, qxs, Nat.reduceEqDiff, reduceIte, and_true, true_and, and_false, false_and, and_self, or_true, true_or, qb_or, reduceCtorEq, qbr_True, qbr_False, q10, q01, qwM, pjx hS, h1.1.2.2.2.2.2.1, inN_e (show cS S < 1000 by omega), hin, qb_t, qb_0, ecl, e1, nIcl (show sln S s < 1000 by omega)]
      refine kX11_sealed_107 (zX11_stands hS h1 h2 h4 h5 hs) rfl (Nat.le_of_ble_eq_true rfl) (Nat.le_of_ble_eq_true rfl) ⟨Nat.le_of_ble_eq_true rfl, Nat.le_of_ble_eq_true rfl⟩ ?_
      rintro _ _ ⟨M1, b1, rfl, hS1, rfl, hb1⟩
      refine oX11_sealed_110 _ _ _ _ _ _ ?_
      simp only [bX11_sealed_110, qsem, qopt_s, qopt2_s, qev, qxs, Nat.reduceEqDiff, reduceIte, and_true, true_and, and_false, false_and, and_self, or_true, true_or, qb_or, reduceCtorEq, qbr_True, qbr_False, q10, q01, qwM, pjx hS, h1.1.2.2.2.2.2.1, inN_e (show cS S < 1000 by omega), hin, qb_t, qb_0, ecl, e1, nIcl (show sln S s < 1000 by omega)]
      refine qbr_i (fun c1 => ?_) (fun c1 => ?_)
      · refine oX11_sealed_117 _ _ _ _ _ _ ?_
        simp only [bX11_sealed_117, qsem, qopt_s, qopt2_s, qev, qxs, Nat.reduceEqDiff, reduceIte, and_true, true_and, and_false, false_and, and_self, or_true, true_or, qb_or, reduceCtorEq, qbr_True, qbr_False, q10, q01, qwM, pjx hS, h1.1.2.2.2.2.2.1, inN_e (show cS S < 1000 by omega), hin, qb_t, qb_0, ecl, e1, nIcl (show sln S s < 1000 by omega)]
        refine oX11_sealed_118 _ _ _ _ _ _ ?_
        simp only [bX11_sealed_118, qsem, qopt_s, qopt2_s, qev, qxs, Nat.reduceEqDiff, reduceIte, and_true, true_and, and_false, false_and, and_self, or_true, true_or, qb_or, reduceCtorEq, qbr_True, qbr_False, q10, q01, qwM, pjx hS, h1.1.2.2.2.2.2.1, inN_e (show cS S < 1000 by omega), hin, qb_t, qb_0, ecl, e1, nIcl (show sln S s < 1000 by omega)]
        (first | (exact hQ _ _ ⟨M1, b1, rfl, hS1, fun _ _ => by rw [ecl]; exact hb1, ri (by rw [if_pos hin, ecl, sw]; first | (rw [c1]; rfl) | (rw [show b1 = true by simpa using c1]; rfl))⟩; done) | (exact hQ _ _ ⟨M, false, rfl, hS, fun q => absurd (sw.symm.trans q) (by decide), ri (by rw [if_pos hin, ecl, sw]; rfl)⟩; done) | (exact hQ _ _ ⟨M, false, rfl, hS, fun q => absurd q sw6, ri (by rw [if_pos hin]; unfold sel8; simp only [sw0, sw1, sw2, sw3, sw4, sw5, sw6, if_false]; repeat (first | rfl | split))⟩; done))
      · refine oX11_sealed_118 _ _ _ _ _ _ ?_
        simp only [bX11_sealed_118, qsem, qopt_s, qopt2_s, qev, qxs, Nat.reduceEqDiff, reduceIte, and_true, true_and, and_false, false_and, and_self, or_true, true_or, qb_or, reduceCtorEq, qbr_True, qbr_False, q10, q01, qwM, pjx hS, h1.1.2.2.2.2.2.1, inN_e (show cS S < 1000 by omega), hin, qb_t, qb_0, ecl, e1, nIcl (show sln S s < 1000 by omega)]
        (first | (exact hQ _ _ ⟨M1, b1, rfl, hS1, fun _ _ => by rw [ecl]; exact hb1, ri (by rw [if_pos hin, ecl, sw]; first | (rw [c1]; rfl) | (rw [show b1 = true by simpa using c1]; rfl))⟩; done) | (exact hQ _ _ ⟨M, false, rfl, hS, fun q => absurd (sw.symm.trans q) (by decide), ri (by rw [if_pos hin, ecl, sw]; rfl)⟩; done) | (exact hQ _ _ ⟨M, false, rfl, hS, fun q => absurd q sw6, ri (by rw [if_pos hin]; unfold sel8; simp only [sw0, sw1, sw2, sw3, sw4, sw5, sw6, if_false]; repeat (first | rfl | split))⟩; done))
    · refine oX11_sealed_119 _ _ _ _ _ _ ?_
      simp only [bX11_sealed_119, qsem, qopt_s, qopt2_s, qev, qxs, Nat.reduceEqDiff, reduceIte, and_true, true_and, and_false, false_and, and_self, or_true, true_or, qb_or, reduceCtorEq, qbr_True, qbr_False, q10, q01, qwM, pjx hS, h1.1.2.2.2.2.2.1, inN_e (show cS S < 1000 by omega), hin, qb_t, qb_0, ecl, e1, nIcl (show sln S s < 1000 by omega)]
      (first | (exact hQ _ _ ⟨M1, b1, rfl, hS1, fun _ _ => by rw [ecl]; exact hb1, ri (by rw [if_pos hin, ecl, sw]; first | (rw [c1]; rfl) | (rw [show b1 = true by simpa using c1]; rfl))⟩; done) | (exact hQ _ _ ⟨M, false, rfl, hS, fun q => absurd (sw.symm.trans q) (by decide), ri (by rw [if_pos hin, ecl, sw]; rfl)⟩; done) | (exact hQ _ _ ⟨M, false, rfl, hS, fun q => absurd q sw6, ri (by rw [if_pos hin]; unfold sel8; simp only [sw0, sw1, sw2, sw3, sw4, sw5, sw6, if_false]; repeat (first | rfl | split))⟩; done))
  · have hin : inN a (cS S) = false := by simpa using hin
    refine oX11_sealed_0 _ _ _ _ _ _ ?_
    simp only [bX11_sealed_0, qsem, qopt_s, qopt2_s, qev, qxs, Nat.reduceEqDiff, reduceIte, and_true, true_and, and_false, false_and, and_self, or_true, true_or, qb_or, reduceCtorEq, qbr_True, qbr_False, q10, q01, qwM, pjx hS, h1.1.2.2.2.2.2.1, inN_e (show cS S < 1000 by omega), hin, qb_f]
    refine kX11_sealed_8 (zX11_in) (Nat.le_of_ble_eq_true rfl) (Nat.le_of_ble_eq_true rfl) ⟨Nat.le_of_ble_eq_true rfl, Nat.le_of_ble_eq_true rfl⟩ ?_
    rintro _ _ ⟨rfl, rfl⟩
    refine oX11_sealed_11 _ _ _ _ _ _ ?_
    simp only [bX11_sealed_11, qsem, qopt_s, qopt2_s, qev, qxs, Nat.reduceEqDiff, reduceIte, and_true, true_and, and_false, false_and, and_self, or_true, true_or, qb_or, reduceCtorEq, qbr_True, qbr_False, q10, q01, qwM, pjx hS, h1.1.2.2.2.2.2.1, inN_e (show cS S < 1000 by omega), hin, qb_f]
    exact hQ _ _ ⟨M, false, rfl, hS, fun _ q => absurd q (by simp [hin]), ri (by simp [hin])⟩
/-- how many seals a key has, from a tick on -/
def sct (S : qS) (k since : Int32) : Nat := fb_ct (fun s => S.2.1 147 (sln S s) == k && decide (since ≤ nI (sln S s))) (cS S)
def losOk (S : qS) (k since : Int32) : Prop := isKy k = true ∧ (0 ≤ since ∧ since ≤ nI (cN S)) ∧ S.2.1 153 k.toNatClampNeg = -1
def losS (S : qS) (k since : Int32) : qS := sA S 153 (upd (S.2.1 153) k.toNatClampNeg since)
set_option maxRecDepth 100000 in
set_option maxHeartbeats 4000000 in
theorem zX11_lose {C M : qC} {r : Nat × Nat × Nat} {S : qS} {k since : Int32} (hS : pj M = S) (h1 : W1 S) (h4 : W4 S) : CT mX11_lose 2 0 0 [.ref 136, .int k, .int since] (wd C M r) (fun r' w' => ∃ M', w' = wd C M' r ∧ ((¬ losOk S k since ∧ r' = some (.int (-1)) ∧ pj M' = S) ∨ (losOk S k since ∧ r' = some (.int (nI (sct S k since))) ∧ pj M' = losS S k since))) := by
  have hN := h1.2.1
  have hcs := h1.2.2.2.2.2.2.1
  refine eX11_lose (AW_gen (fun Q hQ => ?_))
  have loop : losOk S k since → ∀ (j s : Nat) (M : qC), s + j = cS S → pj M = losS S k since → AW (mX11_lose, 2, 0, 0, none, Q) 43 [some (.ref 136), some (.int k), some (.int since), some (.int (nI (fb_ct (fun s => S.2.1 147 (sln S s) == k && decide (since ≤ nI (sln S s))) s))), some (.int (nI s))] [] (wd C M r) 0 0 := by
    intro hok j
    induction j with
    | zero =>
      intro s M hs hM
      obtain rfl : s = cS S := by omega
      have e5 : xI M 136 5 = nI (cS S) := by rw [(pjx hM).2.2.2.2.2.1]; exact h1.1.2.2.2.2.2.1
      refine oX11_lose_43 _ _ _ _ _ _ ?_
      simp only [bX11_lose_43, qsem, qopt_s, qopt2_s, qev, qxs, Nat.reduceEqDiff, reduceIte, and_true, true_and, and_false, false_and, and_self, or_true, true_or, qb_or, reduceCtorEq, qbr_True, qbr_False, q10, q01, qwM, e5]
      refine qbr_t ((Int32.le_refl _)) ?_
      refine oX11_lose_93 _ _ _ _ _ _ ?_
      simp only [bX11_lose_93, qsem, qopt_s, qopt2_s, qev, qxs, Nat.reduceEqDiff, reduceIte, and_true, true_and, and_false, false_and, and_self, or_true, true_or, qb_or, reduceCtorEq, qbr_True, qbr_False, q10, q01, qwM, e5]
      exact hQ _ _ ⟨M, rfl, Or.inr ⟨hok, rfl, hM⟩⟩
    | succ j ih =>
      intro s M hs hM
      have e5 : xI M 136 5 = nI (cS S) := by rw [(pjx hM).2.2.2.2.2.1]; exact h1.1.2.2.2.2.2.1
      have e47 : xA M 147 = S.2.1 147 := by rw [(pjx hM).2.2.2.2.2.2.2.2.2.2.2.2.2.2.2.2.2.1]; rfl
      have e49 : xA M 149 = S.2.1 149 := by rw [(pjx hM).2.2.2.2.2.2.2.2.2.2.2.2.2.2.2.2.2.2.2.1]; rfl
      obtain ⟨⟨e1, l1⟩, -⟩ := h4 s (by omega)
      have hh := ih (s + 1) M (by omega) hM
      rw [fb_ct_succ] at hh
      refine oX11_lose_43 _ _ _ _ _ _ ?_
      simp only [bX11_lose_43, qsem, qopt_s, qopt2_s, qev, qxs, Nat.reduceEqDiff, reduceIte, and_true, true_and, and_false, false_and, and_self, or_true, true_or, qb_or, reduceCtorEq, qbr_True, qbr_False, q10, q01, qwM, e5, e47, e49, nIcl (show s < 1000 by omega), e1, nIcl (show sln S s < 1000 by omega), nI_1]
      refine qbr_f (nI_ge (by omega) (by omega)) ?_
      refine ⟨nI_vp (by omega) (by omega), ?_⟩
      refine ⟨nI_vp (by omega) (by omega), ?_⟩
      refine qbr_i (fun c1 => ?_) (fun c1 => ?_)
      · refine ⟨nI_vp (by omega) (by omega), ?_⟩
        refine qbr_i (fun c2 => ?_) (fun c2 => ?_)
        · refine oX11_lose_84 _ _ _ _ _ _ ?_
          simp only [bX11_lose_84, qsem, qopt_s, qopt2_s, qev, qxs, Nat.reduceEqDiff, reduceIte, and_true, true_and, and_false, false_and, and_self, or_true, true_or, qb_or, reduceCtorEq, qbr_True, qbr_False, q10, q01, qwM, e5, e47, e49, nIcl (show s < 1000 by omega), e1, nIcl (show sln S s < 1000 by omega), nI_1]
          refine oX11_lose_85 _ _ _ _ _ _ ?_
          simp only [bX11_lose_85, qsem, qopt_s, qopt2_s, qev, qxs, Nat.reduceEqDiff, reduceIte, and_true, true_and, and_false, false_and, and_self, or_true, true_or, qb_or, reduceCtorEq, qbr_True, qbr_False, q10, q01, qwM, e5, e47, e49, nIcl (show s < 1000 by omega), e1, nIcl (show sln S s < 1000 by omega), nI_1]
          first | (rw [show (S.2.1 147 (sln S s) == k && decide (since ≤ nI (sln S s))) = false from Bool.and_eq_false_iff.mpr (Or.inl (beq_eq_false_iff_ne.mpr c1))] at hh; simpa using hh) | (rw [show (S.2.1 147 (sln S s) == k && decide (since ≤ nI (sln S s))) = false from Bool.and_eq_false_iff.mpr (Or.inr (decide_eq_false (Int32.not_le.mpr c2)))] at hh; simpa using hh) | (rw [show (S.2.1 147 (sln S s) == k && decide (since ≤ nI (sln S s))) = true from Bool.and_eq_true_iff.mpr ⟨beq_iff_eq.mpr c1, decide_eq_true (Int32.not_lt.mp c2)⟩] at hh; exact hh)
        · refine oX11_lose_85 _ _ _ _ _ _ ?_
          simp only [bX11_lose_85, qsem, qopt_s, qopt2_s, qev, qxs, Nat.reduceEqDiff, reduceIte, and_true, true_and, and_false, false_and, and_self, or_true, true_or, qb_or, reduceCtorEq, qbr_True, qbr_False, q10, q01, qwM, e5, e47, e49, nIcl (show s < 1000 by omega), e1, nIcl (show sln S s < 1000 by omega), nI_1]
          first | (rw [show (S.2.1 147 (sln S s) == k && decide (since ≤ nI (sln S s))) = false from Bool.and_eq_false_iff.mpr (Or.inl (beq_eq_false_iff_ne.mpr c1))] at hh; simpa using hh) | (rw [show (S.2.1 147 (sln S s) == k && decide (since ≤ nI (sln S s))) = false from Bool.and_eq_false_iff.mpr (Or.inr (decide_eq_false (Int32.not_le.mpr c2)))] at hh; simpa using hh) | (rw [show (S.2.1 147 (sln S s) == k && decide (since ≤ nI (sln S s))) = true from Bool.and_eq_true_iff.mpr ⟨beq_iff_eq.mpr c1, decide_eq_true (Int32.not_lt.mp c2)⟩] at hh; exact hh)
      · refine oX11_lose_84 _ _ _ _ _ _ ?_
        simp only [bX11_lose_84, qsem, qopt_s, qopt2_s, qev, qxs, Nat.reduceEqDiff, reduceIte, and_true, true_and, and_false, false_and, and_self, or_true, true_or, qb_or, reduceCtorEq, qbr_True, qbr_False, q10, q01, qwM, e5, e47, e49, nIcl (show s < 1000 by omega), e1, nIcl (show sln S s < 1000 by omega), nI_1]
        refine oX11_lose_85 _ _ _ _ _ _ ?_
        simp only [bX11_lose_85, qsem, qopt_s, qopt2_s, qev, qxs, Nat.reduceEqDiff, reduceIte, and_true, true_and, and_false, false_and, and_self, or_true, true_or, qb_or, reduceCtorEq, qbr_True, qbr_False, q10, q01, qwM, e5, e47, e49, nIcl (show s < 1000 by omega), e1, nIcl (show sln S s < 1000 by omega), nI_1]
        first | (rw [show (S.2.1 147 (sln S s) == k && decide (since ≤ nI (sln S s))) = false from Bool.and_eq_false_iff.mpr (Or.inl (beq_eq_false_iff_ne.mpr c1))] at hh; simpa using hh) | (rw [show (S.2.1 147 (sln S s) == k && decide (since ≤ nI (sln S s))) = false from Bool.and_eq_false_iff.mpr (Or.inr (decide_eq_false (Int32.not_le.mpr c2)))] at hh; simpa using hh) | (rw [show (S.2.1 147 (sln S s) == k && decide (since ≤ nI (sln S s))) = true from Bool.and_eq_true_iff.mpr ⟨beq_iff_eq.mpr c1, decide_eq_true (Int32.not_lt.mp c2)⟩] at hh; exact hh)
  refine oX11_lose_0 _ _ _ _ _ _ ?_
  simp only [bX11_lose_0, qsem, qopt_s, qopt2_s, qev, qxs, Nat.reduceEqDiff, reduceIte, and_true, true_and, and_false, false_and, and_self, or_true, true_or, qb_or, reduceCtorEq, qbr_True, qbr_False, q10, q01, qwM, pjx hS, h1.1.1, qb_0, decide_eq_false_iff_not]
  refine kX11_lose_1 (zX11_isKey) (Nat.le_of_ble_eq_true rfl) (Nat.le_of_ble_eq_true rfl) ⟨Nat.le_of_ble_eq_true rfl, Nat.le_of_ble_eq_true rfl⟩ ?_
  rintro _ _ ⟨rfl, rfl⟩
  refine oX11_lose_4 _ _ _ _ _ _ ?_
  simp only [bX11_lose_4, qsem, qopt_s, qopt2_s, qev, qxs, Nat.reduceEqDiff, reduceIte, and_true, true_and, and_false, false_and, and_self, or_true, true_or, qb_or, reduceCtorEq, qbr_True, qbr_False, q10, q01, qwM, pjx hS, h1.1.1, qb_0, decide_eq_false_iff_not]
  refine qbr_i (fun c1 => ?_) (fun c1 => ?_)
  · refine oX11_lose_29 _ _ _ _ _ _ ?_
    simp only [bX11_lose_29, qsem, qopt_s, qopt2_s, qev, qxs, Nat.reduceEqDiff, reduceIte, and_true, true_and, and_false, false_and, and_self, or_true, true_or, qb_or, reduceCtorEq, qbr_True, qbr_False, q10, q01, qwM, pjx hS, h1.1.1, qb_0, decide_eq_false_iff_not]
    exact hQ _ _ ⟨M, rfl, Or.inl ⟨fun q => by obtain ⟨q1, q2, q3⟩ := q; first | (rw [c1] at q1; cases q1) | exact c2 q2 | exact c3 q3, rfl, hS⟩⟩
  · refine kX11_lose_13 (zX11_in) (Nat.le_of_ble_eq_true rfl) (Nat.le_of_ble_eq_true rfl) ⟨Nat.le_of_ble_eq_true rfl, Nat.le_of_ble_eq_true rfl⟩ ?_
    rintro _ _ ⟨rfl, rfl⟩
    refine oX11_lose_16 _ _ _ _ _ _ ?_
    simp only [bX11_lose_16, qsem, qopt_s, qopt2_s, qev, qxs, Nat.reduceEqDiff, reduceIte, and_true, true_and, and_false, false_and, and_self, or_true, true_or, qb_or, reduceCtorEq, qbr_True, qbr_False, q10, q01, qwM, pjx hS, h1.1.1, qb_0, decide_eq_false_iff_not]
    refine qbr_i (fun c2 => ?_) (fun c2 => ?_)
    · refine oX11_lose_29 _ _ _ _ _ _ ?_
      simp only [bX11_lose_29, qsem, qopt_s, qopt2_s, qev, qxs, Nat.reduceEqDiff, reduceIte, and_true, true_and, and_false, false_and, and_self, or_true, true_or, qb_or, reduceCtorEq, qbr_True, qbr_False, q10, q01, qwM, pjx hS, h1.1.1, qb_0, decide_eq_false_iff_not]
      exact hQ _ _ ⟨M, rfl, Or.inl ⟨fun q => by obtain ⟨q1, q2, q3⟩ := q; first | (rw [c1] at q1; cases q1) | exact c2 q2 | exact c3 q3, rfl, hS⟩⟩
    · refine ⟨by obtain ⟨j, hj, rfl⟩ := isKy_of (show isKy k = true by simpa using c1); exact nI_vp (by omega) (by omega), ?_⟩
      refine qbr_i (fun c3 => ?_) (fun c3 => ?_)
      · refine oX11_lose_31 _ _ _ _ _ _ ?_
        simp only [bX11_lose_31, qsem, qopt_s, qopt2_s, qev, qxs, Nat.reduceEqDiff, reduceIte, and_true, true_and, and_false, false_and, and_self, or_true, true_or, qb_or, reduceCtorEq, qbr_True, qbr_False, q10, q01, qwM, pjx hS, h1.1.1, qb_0, decide_eq_false_iff_not]
        refine ⟨by obtain ⟨j, hj, rfl⟩ := isKy_of (show isKy k = true by simpa using c1); exact nI_vp (by omega) (by omega), ?_⟩
        exact loop ⟨by simpa using c1, Classical.not_not.mp c2, c3⟩ (cS S) 0 _ (by omega) (by rw [pj_wA rfl, hS]; rfl)
      · refine oX11_lose_29 _ _ _ _ _ _ ?_
        simp only [bX11_lose_29, qsem, qopt_s, qopt2_s, qev, qxs, Nat.reduceEqDiff, reduceIte, and_true, true_and, and_false, false_and, and_self, or_true, true_or, qb_or, reduceCtorEq, qbr_True, qbr_False, q10, q01, qwM, pjx hS, h1.1.1, qb_0, decide_eq_false_iff_not]
        exact hQ _ _ ⟨M, rfl, Or.inl ⟨fun q => by obtain ⟨q1, q2, q3⟩ := q; first | (rw [c1] at q1; cases q1) | exact c2 q2 | exact c3 q3, rfl, hS⟩⟩
def kyV (S : qS) (k j : Nat) : Int32 := if j = 0 then S.2.1 151 k else if j = 1 then S.2.1 152 k else if j = 2 then S.2.1 153 k else if j = 3 then nI (fb_ct (fun s => S.2.1 147 (sln S s) == nI k) (cS S)) else -1
set_option maxRecDepth 100000 in
set_option maxHeartbeats 4000000 in
theorem zX11_key {C M : qC} {r : Nat × Nat × Nat} {S : qS} {a what : Int32} (hS : pj M = S) (h1 : W1 S) (h4 : W4 S) (h6 : W6 S) : CT mX11_key 2 0 0 [.ref 136, .int a, .int what] (wd C M r) (fun r' w' => w' = wd C M r ∧ r' = some (.int (if isKy a then sel8 what (kyV S a.toNatClampNeg) else -1))) := by
  have hN := h1.2.1
  have hcs := h1.2.2.2.2.2.2.1
  refine eX11_key (AW_gen (fun Q hQ => ?_))
  by_cases hk : isKy a = true
  · obtain ⟨k, hk4, rfl⟩ := isKy_of hk
    have ecl := nIcl (show k < 1000 by omega)
    have loop : ∀ (j s : Nat), s + j = cS S → AW (mX11_key, 2, 0, 0, none, Q) 14 [some (.ref 136), some (.int (nI k)), some (.int what), some (.int (nI (fb_ct (fun s => S.2.1 147 (sln S s) == nI k) s))), some (.int (nI s))] [] (wd C M r) 0 0 := by
      intro j
      induction j with
      | zero =>
        intro s hs
        obtain rfl : s = cS S := by omega
        have h61 := h6 k hk4
        refine oX11_key_14 _ _ _ _ _ _ ?_
        simp only [bX11_key_14, qsem, qopt_s, qopt2_s, qev, qxs, Nat.reduceEqDiff, reduceIte, and_true, true_and, and_false, false_and, and_self, or_true, true_or, qb_or, reduceCtorEq, qbr_True, qbr_False, q10, q01, qwM, pjx hS, h1.1.2.2.2.2.2.1, ecl]
        refine qbr_t ((Int32.le_refl _)) ?_
        refine oX11_key_53 _ _ _ _ _ _ ?_
        simp only [bX11_key_53, qsem, qopt_s, qopt2_s, qev, qxs, Nat.reduceEqDiff, reduceIte, and_true, true_and, and_false, false_and, and_self, or_true, true_or, qb_or, reduceCtorEq, qbr_True, qbr_False, q10, q01, qwM, pjx hS, h1.1.2.2.2.2.2.1, ecl]
        refine qbr_i (fun c1 => ?_) (fun c1 => ?_)
        · refine ⟨nI_vp (by omega) (by omega), ?_⟩
          refine oX11_key_112 _ _ _ _ _ _ ?_
          simp only [bX11_key_112, qsem, qopt_s, qopt2_s, qev, qxs, Nat.reduceEqDiff, reduceIte, and_true, true_and, and_false, false_and, and_self, or_true, true_or, qb_or, reduceCtorEq, qbr_True, qbr_False, q10, q01, qwM, pjx hS, h1.1.2.2.2.2.2.1, ecl]
          refine hQ _ _ ⟨rfl, ri ?_⟩
          rw [if_pos hk, ecl]
          (first | (rw [c1]; rfl) | (rw [c2]; first | (refine Eq.trans ?_ (show S.2.1 152 k = _ from rfl); exact c3.symm) | (refine Eq.trans ?_ (show S.2.1 152 k = _ from rfl); exact (h61.elim (fun q => absurd q c3) id).symm)) | (rw [c3]; rfl) | (rw [c4]; rfl) | (unfold sel8; simp only [c1, c2, c3, c4, if_false]; repeat (first | rfl | split)))
        · refine oX11_key_66 _ _ _ _ _ _ ?_
          simp only [bX11_key_66, qsem, qopt_s, qopt2_s, qev, qxs, Nat.reduceEqDiff, reduceIte, and_true, true_and, and_false, false_and, and_self, or_true, true_or, qb_or, reduceCtorEq, qbr_True, qbr_False, q10, q01, qwM, pjx hS, h1.1.2.2.2.2.2.1, ecl]
          refine qbr_i (fun c2 => ?_) (fun c2 => ?_)
          · refine ⟨nI_vp (by omega) (by omega), ?_⟩
            refine qbr_i (fun c3 => ?_) (fun c3 => ?_)
            · refine oX11_key_84 _ _ _ _ _ _ ?_
              simp only [bX11_key_84, qsem, qopt_s, qopt2_s, qev, qxs, Nat.reduceEqDiff, reduceIte, and_true, true_and, and_false, false_and, and_self, or_true, true_or, qb_or, reduceCtorEq, qbr_True, qbr_False, q10, q01, qwM, pjx hS, h1.1.2.2.2.2.2.1, ecl]
              refine oX11_key_112 _ _ _ _ _ _ ?_
              simp only [bX11_key_112, qsem, qopt_s, qopt2_s, qev, qxs, Nat.reduceEqDiff, reduceIte, and_true, true_and, and_false, false_and, and_self, or_true, true_or, qb_or, reduceCtorEq, qbr_True, qbr_False, q10, q01, qwM, pjx hS, h1.1.2.2.2.2.2.1, ecl]
              refine hQ _ _ ⟨rfl, ri ?_⟩
              rw [if_pos hk, ecl]
              (first | (rw [c1]; rfl) | (rw [c2]; first | (refine Eq.trans ?_ (show S.2.1 152 k = _ from rfl); exact c3.symm) | (refine Eq.trans ?_ (show S.2.1 152 k = _ from rfl); exact (h61.elim (fun q => absurd q c3) id).symm)) | (rw [c3]; rfl) | (rw [c4]; rfl) | (unfold sel8; simp only [c1, c2, c3, c4, if_false]; repeat (first | rfl | split)))
            · refine oX11_key_112 _ _ _ _ _ _ ?_
              simp only [bX11_key_112, qsem, qopt_s, qopt2_s, qev, qxs, Nat.reduceEqDiff, reduceIte, and_true, true_and, and_false, false_and, and_self, or_true, true_or, qb_or, reduceCtorEq, qbr_True, qbr_False, q10, q01, qwM, pjx hS, h1.1.2.2.2.2.2.1, ecl]
              refine hQ _ _ ⟨rfl, ri ?_⟩
              rw [if_pos hk, ecl]
              (first | (rw [c1]; rfl) | (rw [c2]; first | (refine Eq.trans ?_ (show S.2.1 152 k = _ from rfl); exact c3.symm) | (refine Eq.trans ?_ (show S.2.1 152 k = _ from rfl); exact (h61.elim (fun q => absurd q c3) id).symm)) | (rw [c3]; rfl) | (rw [c4]; rfl) | (unfold sel8; simp only [c1, c2, c3, c4, if_false]; repeat (first | rfl | split)))
          · refine oX11_key_88 _ _ _ _ _ _ ?_
            simp only [bX11_key_88, qsem, qopt_s, qopt2_s, qev, qxs, Nat.reduceEqDiff, reduceIte, and_true, true_and, and_false, false_and, and_self, or_true, true_or, qb_or, reduceCtorEq, qbr_True, qbr_False, q10, q01, qwM, pjx hS, h1.1.2.2.2.2.2.1, ecl]
            refine qbr_i (fun c3 => ?_) (fun c3 => ?_)
            · refine ⟨nI_vp (by omega) (by omega), ?_⟩
              refine oX11_key_112 _ _ _ _ _ _ ?_
              simp only [bX11_key_112, qsem, qopt_s, qopt2_s, qev, qxs, Nat.reduceEqDiff, reduceIte, and_true, true_and, and_false, false_and, and_self, or_true, true_or, qb_or, reduceCtorEq, qbr_True, qbr_False, q10, q01, qwM, pjx hS, h1.1.2.2.2.2.2.1, ecl]
              refine hQ _ _ ⟨rfl, ri ?_⟩
              rw [if_pos hk, ecl]
              (first | (rw [c1]; rfl) | (rw [c2]; first | (refine Eq.trans ?_ (show S.2.1 152 k = _ from rfl); exact c3.symm) | (refine Eq.trans ?_ (show S.2.1 152 k = _ from rfl); exact (h61.elim (fun q => absurd q c3) id).symm)) | (rw [c3]; rfl) | (rw [c4]; rfl) | (unfold sel8; simp only [c1, c2, c3, c4, if_false]; repeat (first | rfl | split)))
            · refine oX11_key_102 _ _ _ _ _ _ ?_
              simp only [bX11_key_102, qsem, qopt_s, qopt2_s, qev, qxs, Nat.reduceEqDiff, reduceIte, and_true, true_and, and_false, false_and, and_self, or_true, true_or, qb_or, reduceCtorEq, qbr_True, qbr_False, q10, q01, qwM, pjx hS, h1.1.2.2.2.2.2.1, ecl]
              refine qbr_i (fun c4 => ?_) (fun c4 => ?_)
              · refine oX11_key_112 _ _ _ _ _ _ ?_
                simp only [bX11_key_112, qsem, qopt_s, qopt2_s, qev, qxs, Nat.reduceEqDiff, reduceIte, and_true, true_and, and_false, false_and, and_self, or_true, true_or, qb_or, reduceCtorEq, qbr_True, qbr_False, q10, q01, qwM, pjx hS, h1.1.2.2.2.2.2.1, ecl]
                refine hQ _ _ ⟨rfl, ri ?_⟩
                rw [if_pos hk, ecl]
                (first | (rw [c1]; rfl) | (rw [c2]; first | (refine Eq.trans ?_ (show S.2.1 152 k = _ from rfl); exact c3.symm) | (refine Eq.trans ?_ (show S.2.1 152 k = _ from rfl); exact (h61.elim (fun q => absurd q c3) id).symm)) | (rw [c3]; rfl) | (rw [c4]; rfl) | (unfold sel8; simp only [c1, c2, c3, c4, if_false]; repeat (first | rfl | split)))
              · refine oX11_key_111 _ _ _ _ _ _ ?_
                simp only [bX11_key_111, qsem, qopt_s, qopt2_s, qev, qxs, Nat.reduceEqDiff, reduceIte, and_true, true_and, and_false, false_and, and_self, or_true, true_or, qb_or, reduceCtorEq, qbr_True, qbr_False, q10, q01, qwM, pjx hS, h1.1.2.2.2.2.2.1, ecl]
                refine oX11_key_112 _ _ _ _ _ _ ?_
                simp only [bX11_key_112, qsem, qopt_s, qopt2_s, qev, qxs, Nat.reduceEqDiff, reduceIte, and_true, true_and, and_false, false_and, and_self, or_true, true_or, qb_or, reduceCtorEq, qbr_True, qbr_False, q10, q01, qwM, pjx hS, h1.1.2.2.2.2.2.1, ecl]
                refine hQ _ _ ⟨rfl, ri ?_⟩
                rw [if_pos hk, ecl]
                (first | (rw [c1]; rfl) | (rw [c2]; first | (refine Eq.trans ?_ (show S.2.1 152 k = _ from rfl); exact c3.symm) | (refine Eq.trans ?_ (show S.2.1 152 k = _ from rfl); exact (h61.elim (fun q => absurd q c3) id).symm)) | (rw [c3]; rfl) | (rw [c4]; rfl) | (unfold sel8; simp only [c1, c2, c3, c4, if_false]; repeat (first | rfl | split)))
      | succ j ih =>
        intro s hs
        obtain ⟨⟨e1, l1⟩, -⟩ := h4 s (by omega)
        have hh := ih (s + 1) (by omega)
        rw [fb_ct_succ] at hh
        refine oX11_key_14 _ _ _ _ _ _ ?_
        simp only [bX11_key_14, qsem, qopt_s, qopt2_s, qev, qxs, Nat.reduceEqDiff, reduceIte, and_true, true_and, and_false, false_and, and_self, or_true, true_or, qb_or, reduceCtorEq, qbr_True, qbr_False, q10, q01, qwM, pjx hS, h1.1.2.2.2.2.2.1, nIcl (show s < 1000 by omega), e1, nIcl (show sln S s < 1000 by omega), nI_1]
        refine qbr_f (nI_ge (by omega) (by omega)) ?_
        refine ⟨nI_vp (by omega) (by omega), ?_⟩
        refine ⟨nI_vp (by omega) (by omega), ?_⟩
        refine qbr_i (fun c1 => ?_) (fun c1 => ?_)
        · refine oX11_key_45 _ _ _ _ _ _ ?_
          simp only [bX11_key_45, qsem, qopt_s, qopt2_s, qev, qxs, Nat.reduceEqDiff, reduceIte, and_true, true_and, and_false, false_and, and_self, or_true, true_or, qb_or, reduceCtorEq, qbr_True, qbr_False, q10, q01, qwM, pjx hS, h1.1.2.2.2.2.2.1, nIcl (show s < 1000 by omega), e1, nIcl (show sln S s < 1000 by omega), nI_1]
          first | (rw [show (S.2.1 147 (sln S s) == nI k) = false by simp [c1]] at hh; simpa using hh) | (rw [show (S.2.1 147 (sln S s) == nI k) = true by simp [c1]] at hh; exact hh)
        · refine oX11_key_44 _ _ _ _ _ _ ?_
          simp only [bX11_key_44, qsem, qopt_s, qopt2_s, qev, qxs, Nat.reduceEqDiff, reduceIte, and_true, true_and, and_false, false_and, and_self, or_true, true_or, qb_or, reduceCtorEq, qbr_True, qbr_False, q10, q01, qwM, pjx hS, h1.1.2.2.2.2.2.1, nIcl (show s < 1000 by omega), e1, nIcl (show sln S s < 1000 by omega), nI_1]
          refine oX11_key_45 _ _ _ _ _ _ ?_
          simp only [bX11_key_45, qsem, qopt_s, qopt2_s, qev, qxs, Nat.reduceEqDiff, reduceIte, and_true, true_and, and_false, false_and, and_self, or_true, true_or, qb_or, reduceCtorEq, qbr_True, qbr_False, q10, q01, qwM, pjx hS, h1.1.2.2.2.2.2.1, nIcl (show s < 1000 by omega), e1, nIcl (show sln S s < 1000 by omega), nI_1]
          first | (rw [show (S.2.1 147 (sln S s) == nI k) = false by simp [c1]] at hh; simpa using hh) | (rw [show (S.2.1 147 (sln S s) == nI k) = true by simp [c1]] at hh; exact hh)
    refine oX11_key_0 _ _ _ _ _ _ ?_
    simp only [bX11_key_0, qsem, qopt_s, qopt2_s, qev, qxs, Nat.reduceEqDiff, reduceIte, and_true, true_and, and_false, false_and, and_self, or_true, true_or, qb_or, reduceCtorEq, qbr_True, qbr_False, q10, q01, qwM, hk, qb_t]
    refine kX11_key_1 (zX11_isKey) (Nat.le_of_ble_eq_true rfl) (Nat.le_of_ble_eq_true rfl) ⟨Nat.le_of_ble_eq_true rfl, Nat.le_of_ble_eq_true rfl⟩ ?_
    rintro _ _ ⟨rfl, rfl⟩
    refine oX11_key_4 _ _ _ _ _ _ ?_
    simp only [bX11_key_4, qsem, qopt_s, qopt2_s, qev, qxs, Nat.reduceEqDiff, reduceIte, and_true, true_and, and_false, false_and, and_self, or_true, true_or, qb_or, reduceCtorEq, qbr_True, qbr_False, q10, q01, qwM, hk, qb_t]
    refine oX11_key_9 _ _ _ _ _ _ ?_
    simp only [bX11_key_9, qsem, qopt_s, qopt2_s, qev, qxs, Nat.reduceEqDiff, reduceIte, and_true, true_and, and_false, false_and, and_self, or_true, true_or, qb_or, reduceCtorEq, qbr_True, qbr_False, q10, q01, qwM, hk, qb_t]
    exact loop (cS S) 0 (by omega)
  · have hk : isKy a = false := by simpa using hk
    refine oX11_key_0 _ _ _ _ _ _ ?_
    simp only [bX11_key_0, qsem, qopt_s, qopt2_s, qev, qxs, Nat.reduceEqDiff, reduceIte, and_true, true_and, and_false, false_and, and_self, or_true, true_or, qb_or, reduceCtorEq, qbr_True, qbr_False, q10, q01, qwM, hk, qb_f]
    refine kX11_key_1 (zX11_isKey) (Nat.le_of_ble_eq_true rfl) (Nat.le_of_ble_eq_true rfl) ⟨Nat.le_of_ble_eq_true rfl, Nat.le_of_ble_eq_true rfl⟩ ?_
    rintro _ _ ⟨rfl, rfl⟩
    refine oX11_key_4 _ _ _ _ _ _ ?_
    simp only [bX11_key_4, qsem, qopt_s, qopt2_s, qev, qxs, Nat.reduceEqDiff, reduceIte, and_true, true_and, and_false, false_and, and_self, or_true, true_or, qb_or, reduceCtorEq, qbr_True, qbr_False, q10, q01, qwM, hk, qb_f]
    exact hQ _ _ ⟨rfl, ri (by simp [hk])⟩


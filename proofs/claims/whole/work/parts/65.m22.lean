theorem why0 {S : qS} {H : Nat → Nat → Nat → Bool} {one two key : Int32} (h : whyV S H one two key = 0) : ¬ cQ S = 0 ∧ (isH one = true ∧ isH two = true ∧ ¬ one = two) ∧ ((mkN S (qat S 0)).testBit one.toNatClampNeg || (mkN S (qat S 0)).testBit two.toNatClampNeg) = false ∧ kyOk S key ∧ cln S (qat S 0) ∧ ¬ cal S (qat S 0) ∧ ¬ cN S = 400 := by
  unfold whyV at h
  split at h
  · exact absurd h (by decide)
  rename_i a1
  split at h
  · exact absurd h (by decide)
  rename_i a2
  split at h
  · exact absurd h (by decide)
  rename_i a3
  split at h
  · exact absurd h (by decide)
  rename_i a4
  split at h
  · exact absurd h (by decide)
  rename_i a5
  split at h
  · exact absurd h (by decide)
  split at h
  · exact absurd h (by decide)
  rename_i a7
  split at h
  · exact absurd h (by decide)
  rename_i a8
  exact ⟨a1, dc_iff.mp ((Bool.not_eq_false _).mp a2), (Bool.not_eq_true _).mp a3, dc_iff.mp ((Bool.not_eq_false _).mp a4), dc_iff.mp ((Bool.not_eq_false _).mp a5), fun q => a7 (dc_iff.mpr q), a8⟩
theorem skp_W {S : qS} (h1 : W1 S) : W1 (skpS S) ∧ cN (skpS S) = cN S ∧ cQ (skpS S) = cQ S - 1 ∧ cS (skpS S) = cS S := by
  have hq := h1.2.2.2.2.2.1
  have e : cQ (skpS S) = cQ S - 1 := nIcl (by omega)
  refine ⟨?_, rfl, e, rfl⟩
  obtain ⟨⟨a0, a1, a2, a3, a4, a5, a6⟩, b1, b2, b3, b4, b5, b6, b7⟩ := h1
  exact ⟨⟨a0, a1, a2, a3, by rw [e]; rfl, a5, a6⟩, b1, b2, b3, b4, by rw [e]; omega, b6, b7⟩
def vL (S : qS) (f one two key : Int32) (p : Nat) : Int32 := if p = 148 then S.1 2 - 1 else if p = 147 then key else if p = 141 then two else vN 4 f one p
def sealS (S : qS) (one two key : Int32) : qS := sI (sA (sA (nA (skpS S) (vL S (S.2.1 150 0) one two key)) 151 (upd (S.2.1 151) key.toNatClampNeg (S.2.1 151 key.toNatClampNeg - 1))) 149 (upd (S.2.1 149) (cS S) (nI (cN S)))) 5 (S.1 5 + 1)
set_option maxRecDepth 100000 in
set_option maxHeartbeats 4000000 in
theorem zX11_seal {C M : qC} {r : Nat × Nat × Nat} {S : qS} {H : Nat → Nat → Nat → Bool} {one two key : Int32} (hS : pj M = S) (h1 : W1 S) (h2 : W2 S) (h3 : W3 S) (h5 : W5 S) (h7 : W7 S H) : CT mX11_seal 5 0 0 [.ref 136, .int one, .int two, .int key] (wd C M r) (fun r' w' => ∃ M', w' = wd C M' r ∧ ((¬ whyV S H one two key = 0 ∧ r' = some (.int (-1)) ∧ pj M' = S) ∨ (whyV S H one two key = 0 ∧ r' = some (.int (nI (cS S))) ∧ pj M' = sealS S one two key))) := by
  have hN := h1.2.1
  have hcs := h1.2.2.2.2.2.2.1
  refine eX11_seal (AW_gen (fun Q hQ => ?_))
  by_cases hw : whyV S H one two key = 0
  · obtain ⟨w1, -, -, hk, -, -, w8⟩ := why0 hw
    obtain ⟨sW, sN, sQ, sS⟩ := skp_W h1
    obtain ⟨k, hk4, rfl⟩ := isKy_of hk.1
    have ecl := nIcl (show k < 1000 by omega)
    have tail : ∀ (M2 : qC), pj M2 = nA (skpS S) (vN 4 (S.2.1 150 0) one) → AW (mX11_seal, 5, 0, 0, none, Q) 26 [some (.ref 136), some (.int one), some (.int two), some (.int (nI k)), some (.int (S.2.1 150 0)), none] [.int (nI (cN S))] (wd C M2 r) 0 0 := by
      intro M2 hS2
      have g2 : xI M2 136 2 = S.1 2 := by rw [(pjx hS2).2.2.1]; rfl
      have g5 : xI M2 136 5 = nI (cS S) := by rw [(pjx hS2).2.2.2.2.2.1]; exact h1.1.2.2.2.2.2.1
      have g151 : xA M2 151 = S.2.1 151 := by rw [(pjx hS2).2.2.2.2.2.2.2.2.2.2.2.2.2.2.2.2.2.2.2.2.2.1]; rfl
      have g149 : xA M2 149 = S.2.1 149 := by rw [(pjx hS2).2.2.2.2.2.2.2.2.2.2.2.2.2.2.2.2.2.2.2.1]; rfl
      have g141 : xA M2 141 = (nA (skpS S) (vN 4 (S.2.1 150 0) one)).2.1 141 := (pjx hS2).2.2.2.2.2.2.2.2.2.2.2.1
      have g147 : xA M2 147 = (nA (skpS S) (vN 4 (S.2.1 150 0) one)).2.1 147 := (pjx hS2).2.2.2.2.2.2.2.2.2.2.2.2.2.2.2.2.2.1
      have g148 : xA M2 148 = (nA (skpS S) (vN 4 (S.2.1 150 0) one)).2.1 148 := (pjx hS2).2.2.2.2.2.2.2.2.2.2.2.2.2.2.2.2.2.2.1
      refine oX11_seal_26 _ _ _ _ _ _ ?_
      simp only [bX11_seal_26, qsem, qopt_s, qopt2_s, qev, qxs, Nat.reduceEqDiff, reduceIte, and_true, true_and, and_false, false_and, and_self, or_true, true_or, qb_or, reduceCtorEq, qbr_True, qbr_False, q10, q01, qwM, ecl, nIcl (show cN S < 1000 by omega), nIcl (show cS S < 1000 by omega), g2, g5, g151, g149, g141, g147, g148, nI_1]
      refine ⟨nI_vp (by omega) (by omega), ?_⟩
      refine ⟨nI_vp (by omega) (by omega), ?_⟩
      refine ⟨nI_vp (by omega) (by omega), ?_⟩
      refine ⟨nI_vp (by omega) (by omega), ?_⟩
      refine ⟨nI_vp (by omega) (by omega), ?_⟩
      refine ⟨nI_vp (by omega) (by omega), ?_⟩
      refine hQ _ _ ⟨_, rfl, Or.inr ⟨hw, ri (pk_sub (b := 1) (by omega)), ?_⟩⟩
      rw [pj_wI rfl, pj_wA rfl, pj_wA rfl, pj_wA rfl, pj_wA rfl, pj_wA rfl, hS2, ← sN, nA_put (by omega)]
      rw [show (nA (skpS S) (vN 4 (S.2.1 150 0) one)).2.1 147 = (nA (skpS S) (fun q => if q = 141 then two else vN 4 (S.2.1 150 0) one q)).2.1 147 from rfl, nA_put (by omega)]
      rw [show (nA (skpS S) (vN 4 (S.2.1 150 0) one)).2.1 148 = (nA (skpS S) (fun q => if q = 147 then nI k else if q = 141 then two else vN 4 (S.2.1 150 0) one q)).2.1 148 from rfl, nA_put (by omega)]
      unfold sealS
      rw [ecl, h1.1.2.2.2.2.2.1, nI_1, sN]
      rfl
    refine oX11_seal_0 _ _ _ _ _ _ ?_
    simp only [bX11_seal_0, qsem, qopt_s, qopt2_s, qev, qxs, Nat.reduceEqDiff, reduceIte, and_true, true_and, and_false, false_and, and_self, or_true, true_or, qb_or, reduceCtorEq, qbr_True, qbr_False, q10, q01, qwM, hw]
    refine kX11_seal_4 (zX11_why hS h1 h2 h3 h5 h7) rfl (Nat.le_of_ble_eq_true rfl) (Nat.le_of_ble_eq_true rfl) ⟨Nat.le_of_ble_eq_true rfl, Nat.le_of_ble_eq_true rfl⟩ ?_
    rintro _ _ ⟨M0, rfl, hS0, rfl⟩
    refine oX11_seal_7 _ _ _ _ _ _ ?_
    simp only [bX11_seal_7, qsem, qopt_s, qopt2_s, qev, qxs, Nat.reduceEqDiff, reduceIte, and_true, true_and, and_false, false_and, and_self, or_true, true_or, qb_or, reduceCtorEq, qbr_True, qbr_False, q10, q01, qwM, hw]
    refine oX11_seal_12 _ _ _ _ _ _ ?_
    simp only [bX11_seal_12, qsem, qopt_s, qopt2_s, qev, qxs, Nat.reduceEqDiff, reduceIte, and_true, true_and, and_false, false_and, and_self, or_true, true_or, qb_or, reduceCtorEq, qbr_True, qbr_False, q10, q01, qwM, hw]
    refine kX11_seal_13 (zX11_skip hS0 h1) rfl (Nat.le_of_ble_eq_true rfl) (Nat.le_of_ble_eq_true rfl) ⟨Nat.le_of_ble_eq_true rfl, Nat.le_of_ble_eq_true rfl⟩ ?_
    rintro _ _ ⟨M1, rfl, ⟨q0, -, -⟩ | ⟨-, rfl, hS1⟩⟩
    exact absurd q0 w1
    refine oX11_seal_16 _ _ _ _ _ _ ?_
    simp only [bX11_seal_16, qsem, qopt_s, qopt2_s, qev, qxs, Nat.reduceEqDiff, reduceIte, and_true, true_and, and_false, false_and, and_self, or_true, true_or, qb_or, reduceCtorEq, qbr_True, qbr_False, q10, q01, qwM, hw]
    refine kX11_seal_23 (zX11_addNote hS1 sW (by rw [sN]; omega)) rfl (Nat.le_of_ble_eq_true rfl) (Nat.le_of_ble_eq_true rfl) ⟨Nat.le_of_ble_eq_true rfl, Nat.le_of_ble_eq_true rfl⟩ ?_
    rintro _ _ ⟨M2, rfl, rfl, hS2⟩
    rw [sN]
    exact tail M2 hS2
  · refine oX11_seal_0 _ _ _ _ _ _ ?_
    simp only [bX11_seal_0, qsem, qopt_s, qopt2_s, qev, qxs, Nat.reduceEqDiff, reduceIte, and_true, true_and, and_false, false_and, and_self, or_true, true_or, qb_or, reduceCtorEq, qbr_True, qbr_False, q10, q01, qwM]
    refine kX11_seal_4 (zX11_why hS h1 h2 h3 h5 h7) rfl (Nat.le_of_ble_eq_true rfl) (Nat.le_of_ble_eq_true rfl) ⟨Nat.le_of_ble_eq_true rfl, Nat.le_of_ble_eq_true rfl⟩ ?_
    rintro _ _ ⟨M0, rfl, hS0, rfl⟩
    refine oX11_seal_7 _ _ _ _ _ _ ?_
    simp only [bX11_seal_7, qsem, qopt_s, qopt2_s, qev, qxs, Nat.reduceEqDiff, reduceIte, and_true, true_and, and_false, false_and, and_self, or_true, true_or, qb_or, reduceCtorEq, qbr_True, qbr_False, q10, q01, qwM]
    refine qbr_f (hw) ?_
    exact hQ _ _ ⟨M0, rfl, Or.inl ⟨hw, rfl, hS0⟩⟩


def p120 : fsP 120 := Or.inr (Or.inr (Or.inr rfl))
def W11 (S : qS) : Prop := ∀ n, n < cN S → (srt S n = 1 → ∃ t, t < 6 ∧ S.2.1 142 n = nI t) ∧ (srt S n = 0 → S.2.1 142 n = -1)
set_option maxRecDepth 100000 in
set_option maxHeartbeats 4000000 in
theorem zX5_sinceOf_118 {C M : qC} {r : Nat × Nat × Nat} {a : Int32} : CT mX5_sinceOf 0 0 0 [.ref 118, .int a] (wd C M r) (fun r' w' => w' = wd C M r ∧ r' = some (.int (if inN a 6 then xA C 118 a.toNatClampNeg else 401))) := by
  refine eX5_sinceOf (AW_gen (fun Q hQ => ?_))
  by_cases ha : inN a 6 = true
  · obtain ⟨k, hk, rfl⟩ := inN_of (by omega) ha
    rw [ha, if_pos rfl] at hQ
    refine oX5_sinceOf_0 _ _ _ _ _ _ ?_
    simp only [bX5_sinceOf_0, qsem, qopt_s, qopt2_s, qev, qxs, Nat.reduceEqDiff, reduceIte, and_true, true_and, and_false, false_and, and_self, or_true, true_or, qb_or, reduceCtorEq, qbr_True, qbr_False, q10, q01, qwC]
    refine qbr_f (Int32.not_lt.mpr (nI_pos' (by omega))) ?_
    refine qbr_f (nI_ge (b := 6) hk (by omega)) ?_
    refine ⟨nI_vp (by omega) (by omega), ?_⟩
    refine oX5_sinceOf_19 _ _ _ _ _ _ ?_
    simp only [bX5_sinceOf_19, qsem, qopt_s, qopt2_s, qev, qxs, Nat.reduceEqDiff, reduceIte, and_true, true_and, and_false, false_and, and_self, or_true, true_or, qb_or, reduceCtorEq, qbr_True, qbr_False, q10, q01, qwC]
    exact hQ _ _ ⟨rfl, rfl⟩
  · have ha2 : inN a 6 = false := (Bool.not_eq_true _).mp ha
    rw [ha2, if_neg Bool.false_ne_true] at hQ
    have hn := of_decide_eq_false ha2
    by_cases h0 : a < 0
    · refine oX5_sinceOf_0 _ _ _ _ _ _ ?_
      simp only [bX5_sinceOf_0, qsem, qopt_s, qopt2_s, qev, qxs, Nat.reduceEqDiff, reduceIte, and_true, true_and, and_false, false_and, and_self, or_true, true_or, qb_or, reduceCtorEq, qbr_True, qbr_False, q10, q01, qwC]
      refine qbr_t (h0) ?_
      refine oX5_sinceOf_16 _ _ _ _ _ _ ?_
      simp only [bX5_sinceOf_16, qsem, qopt_s, qopt2_s, qev, qxs, Nat.reduceEqDiff, reduceIte, and_true, true_and, and_false, false_and, and_self, or_true, true_or, qb_or, reduceCtorEq, qbr_True, qbr_False, q10, q01, qwC]
      refine oX5_sinceOf_19 _ _ _ _ _ _ ?_
      simp only [bX5_sinceOf_19, qsem, qopt_s, qopt2_s, qev, qxs, Nat.reduceEqDiff, reduceIte, and_true, true_and, and_false, false_and, and_self, or_true, true_or, qb_or, reduceCtorEq, qbr_True, qbr_False, q10, q01, qwC]
      exact hQ _ _ ⟨rfl, rfl⟩
    · refine oX5_sinceOf_0 _ _ _ _ _ _ ?_
      simp only [bX5_sinceOf_0, qsem, qopt_s, qopt2_s, qev, qxs, Nat.reduceEqDiff, reduceIte, and_true, true_and, and_false, false_and, and_self, or_true, true_or, qb_or, reduceCtorEq, qbr_True, qbr_False, q10, q01, qwC]
      refine qbr_f (h0) ?_
      refine qbr_t (Int32.not_lt.mp (fun q => hn ⟨Int32.not_lt.mp h0, q⟩)) ?_
      refine oX5_sinceOf_16 _ _ _ _ _ _ ?_
      simp only [bX5_sinceOf_16, qsem, qopt_s, qopt2_s, qev, qxs, Nat.reduceEqDiff, reduceIte, and_true, true_and, and_false, false_and, and_self, or_true, true_or, qb_or, reduceCtorEq, qbr_True, qbr_False, q10, q01, qwC]
      refine oX5_sinceOf_19 _ _ _ _ _ _ ?_
      simp only [bX5_sinceOf_19, qsem, qopt_s, qopt2_s, qev, qxs, Nat.reduceEqDiff, reduceIte, and_true, true_and, and_false, false_and, and_self, or_true, true_or, qb_or, reduceCtorEq, qbr_True, qbr_False, q10, q01, qwC]
      exact hQ _ _ ⟨rfl, rfl⟩
set_option maxRecDepth 100000 in
set_option maxHeartbeats 4000000 in
theorem zX5_sinceOf_119 {C M : qC} {r : Nat × Nat × Nat} {h : Nat} (hh : h < 12) : CT mX5_sinceOf 0 0 0 [.ref 119, .int (nI h)] (wd C M r) (fun r' w' => w' = wd C M r ∧ r' = some (.int (xA C 119 h))) := by
  refine eX5_sinceOf (AW_gen (fun Q hQ => ?_))
  refine oX5_sinceOf_0 _ _ _ _ _ _ ?_
  simp only [bX5_sinceOf_0, qsem, qopt_s, qopt2_s, qev, qxs, Nat.reduceEqDiff, reduceIte, and_true, true_and, and_false, false_and, and_self, or_true, true_or, qb_or, reduceCtorEq, qbr_True, qbr_False, q10, q01, qwC, nIcl (show h < 1000 by omega)]
  refine qbr_f (Int32.not_lt.mpr (nI_pos' (by omega))) ?_
  refine qbr_f (nI_ge (b := 12) hh (by omega)) ?_
  refine ⟨nI_vp (by omega) (by omega), ?_⟩
  refine oX5_sinceOf_19 _ _ _ _ _ _ ?_
  simp only [bX5_sinceOf_19, qsem, qopt_s, qopt2_s, qev, qxs, Nat.reduceEqDiff, reduceIte, and_true, true_and, and_false, false_and, and_self, or_true, true_or, qb_or, reduceCtorEq, qbr_True, qbr_False, q10, q01, qwC, nIcl (show h < 1000 by omega)]
  exact hQ _ _ ⟨rfl, rfl⟩
/-- what the rows of ticks say of a note -/
theorem cn_iff {C : qC} {S : qS} {n : Nat} (h1 : W1 S) (h2 : W2 S) (h11 : W11 S) (hn : n < cN S) (hs : srt S n < 2) (hT : ∀ t, t < 6 → snP S 1 t (xA C 118 t)) (hH : ∀ h, h < 12 → snP S 2 h (xA C 119 h)) : cnN S n ↔ (xA C 119 (hnd S n) ≤ nI n ∨ (if inN (S.2.1 142 n) 6 then xA C 118 (S.2.1 142 n).toNatClampNeg else 401) ≤ nI n) := by
  have hN := h1.2.1
  obtain ⟨-, -, ⟨eh, lh⟩, -⟩ := h2 n hn
  rw [(hH _ lh) n (by omega)]
  constructor
  · rintro ⟨c, hc, ⟨⟨a, b, d⟩ | ⟨a, b, d⟩, e⟩⟩
    · obtain ⟨t, ht, et⟩ := (h11 n hn).1 b
      refine Or.inr ?_
      rw [et, inNi ht (by omega), if_pos rfl, nIcl (show t < 1000 by omega), (hT t ht) n (by omega)]
      exact ⟨c, hc, a, by rw [← d, et], e⟩
    · exact Or.inl ⟨c, hc, a, by rw [← d, eh], e⟩
  · rintro (⟨c, hc, a, b, d⟩ | q)
    · exact ⟨c, hc, Or.inr ⟨a, hs, by rw [b, eh]⟩, d⟩
    · rcases (show srt S n = 0 ∨ srt S n = 1 by omega) with h0 | h0
      · rw [(h11 n hn).2 h0, show inN (-1) 6 = false from rfl, if_neg Bool.false_ne_true] at q
        have := (nI_leI (a := 401) (b := n) (by omega) (by omega)).mp q
        omega
      · obtain ⟨t, ht, et⟩ := (h11 n hn).1 h0
        rw [et, inNi ht (by omega), if_pos rfl, nIcl (show t < 1000 by omega), (hT t ht) n (by omega)] at q
        obtain ⟨c, hc, a, b, d⟩ := q
        exact ⟨c, hc, Or.inl ⟨a, h0, by rw [et, b]⟩, d⟩
set_option maxRecDepth 100000 in
set_option maxHeartbeats 4000000 in
theorem zX5_look {C M : qC} {r : Nat × Nat × Nat} {S : qS} {n : Nat} (h1 : W1 S) (h2 : W2 S) (h11 : W11 S) (hI : iN C S) (hn : n < cN S) (hT : ∀ t, t < 6 → snP S 1 t (xA C 118 t)) (hH : ∀ h, h < 12 → snP S 2 h (xA C 119 h)) : CT mX5_look 2 0 0 [.ref 117, .ref 1, .int (nI n)] (wd C M r) (fun r' w' => ∃ C', r' = none ∧ w' = wd C' M r ∧ onL 120 C C' ∧ ∀ j, j < 128 → fB C' 120 j = (fB C 120 j || (decide (j = ofN S n) && dc (srt S n < 2 ∧ cnN S n)))) := by
  have hN := h1.2.1
  have hF := h1.2.2.1
  obtain ⟨⟨es, ls⟩, ⟨eo, lo⟩, ⟨eh, lh⟩, -⟩ := h2 n hn
  have c0 := zX8_cN (C := C) (M := M) (r := r) 0 h1 hI hn (by omega)
  have c1' := zX8_cN (C := C) (M := M) (r := r) 1 h1 hI hn (by omega)
  have c2' := zX8_cN (C := C) (M := M) (r := r) 2 h1 hI hn (by omega)
  have c3' := zX8_cN (C := C) (M := M) (r := r) 3 h1 hI hn (by omega)
  rw [show ntV S n 0 = nI (srt S n) from es] at c0
  rw [show ntV S n 1 = nI (ofN S n) from eo] at c1'
  rw [show ntV S n 2 = nI (hnd S n) from eh] at c2'
  rw [show ntV S n 3 = S.2.1 142 n from rfl] at c3'
  refine eX5_look (AW_gen (fun Q hQ => ?_))
  have no : ¬ (srt S n < 2 ∧ cnN S n) → Q none (wd C M r) := fun h => hQ _ _ ⟨C, rfl, rfl, onL_rf _ _, fun j hj => by rw [dcf h, Bool.and_false, Bool.or_false]⟩
  by_cases hs : srt S n < 2
  · have hci := cn_iff h1 h2 h11 hn hs hT hH
    have mark : cnN S n → AW (mX5_look, 2, 0, 0, none, Q) 51 [some (.ref 117), some (.ref 1), some (.int (nI n)), some (.int (nI (srt S n)))] [] (wd C M r) 0 0 := by
      intro hc
      refine oX5_look_51 _ _ _ _ _ _ ?_
      simp only [bX5_look_51, qsem, qopt_s, qopt2_s, qev, qxs, Nat.reduceEqDiff, reduceIte, and_true, true_and, and_false, false_and, and_self, or_true, true_or, qb_or, reduceCtorEq, qbr_True, qbr_False, q10, q01, qwC]
      refine kX5_look_58 (c1') (rfl) (Nat.le_of_ble_eq_true rfl) (Nat.le_of_ble_eq_true rfl) ⟨Nat.le_of_ble_eq_true rfl, Nat.le_of_ble_eq_true rfl⟩ ?_
      rintro _ _ ⟨rfl, rfl⟩
      refine kX5_look_61 (zX0_add p120 (show ofN S n < 100 by omega)) (rfl) (Nat.le_of_ble_eq_true rfl) (Nat.le_of_ble_eq_true rfl) ⟨Nat.le_of_ble_eq_true rfl, Nat.le_of_ble_eq_true rfl⟩ ?_
      rintro _ _ ⟨C', rfl, rfl, hU⟩
      refine oX5_look_64 _ _ _ _ _ _ ?_
      simp only [bX5_look_64, qsem, qopt_s, qopt2_s, qev, qxs, Nat.reduceEqDiff, reduceIte, and_true, true_and, and_false, false_and, and_self, or_true, true_or, qb_or, reduceCtorEq, qbr_True, qbr_False, q10, q01, qwC]
      exact hQ _ _ ⟨C', rfl, rfl, onL_U hU, fun j hj => by rw [dc_iff.mpr ⟨hs, hc⟩, Bool.and_true]; exact hU.2.2.2.2 j hj⟩
    have at17 : AW (mX5_look, 2, 0, 0, none, Q) 17 [some (.ref 117), some (.ref 1), some (.int (nI n)), some (.int (nI (srt S n)))] [] (wd C M r) 0 0 := by
      refine oX5_look_17 _ _ _ _ _ _ ?_
      simp only [bX5_look_17, qsem, qopt_s, qopt2_s, qev, qxs, Nat.reduceEqDiff, reduceIte, and_true, true_and, and_false, false_and, and_self, or_true, true_or, qb_or, reduceCtorEq, qbr_True, qbr_False, q10, q01, qwC]
      refine kX5_look_25 (c2') (rfl) (Nat.le_of_ble_eq_true rfl) (Nat.le_of_ble_eq_true rfl) ⟨Nat.le_of_ble_eq_true rfl, Nat.le_of_ble_eq_true rfl⟩ ?_
      rintro _ _ ⟨rfl, rfl⟩
      refine kX5_look_28 (zX5_sinceOf_119 lh) (Nat.le_of_ble_eq_true rfl) (Nat.le_of_ble_eq_true rfl) ⟨Nat.le_of_ble_eq_true rfl, Nat.le_of_ble_eq_true rfl⟩ ?_
      rintro _ _ ⟨rfl, rfl⟩
      refine oX5_look_31 _ _ _ _ _ _ ?_
      simp only [bX5_look_31, qsem, qopt_s, qopt2_s, qev, qxs, Nat.reduceEqDiff, reduceIte, and_true, true_and, and_false, false_and, and_self, or_true, true_or, qb_or, reduceCtorEq, qbr_True, qbr_False, q10, q01, qwC]
      refine qbr_i (fun c1 => ?_) (fun c1 => ?_)
      · first | exact mark (hci.mpr (Or.inl c1)) | exact mark (hci.mpr (Or.inr (Int32.not_lt.mp c2)))
      · refine kX5_look_42 (c3') (rfl) (Nat.le_of_ble_eq_true rfl) (Nat.le_of_ble_eq_true rfl) ⟨Nat.le_of_ble_eq_true rfl, Nat.le_of_ble_eq_true rfl⟩ ?_
        rintro _ _ ⟨rfl, rfl⟩
        refine kX5_look_45 (zX5_sinceOf_118) (Nat.le_of_ble_eq_true rfl) (Nat.le_of_ble_eq_true rfl) ⟨Nat.le_of_ble_eq_true rfl, Nat.le_of_ble_eq_true rfl⟩ ?_
        rintro _ _ ⟨rfl, rfl⟩
        refine oX5_look_48 _ _ _ _ _ _ ?_
        simp only [bX5_look_48, qsem, qopt_s, qopt2_s, qev, qxs, Nat.reduceEqDiff, reduceIte, and_true, true_and, and_false, false_and, and_self, or_true, true_or, qb_or, reduceCtorEq, qbr_True, qbr_False, q10, q01, qwC]
        refine qbr_i (fun c2 => ?_) (fun c2 => ?_)
        · refine oX5_look_64 _ _ _ _ _ _ ?_
          simp only [bX5_look_64, qsem, qopt_s, qopt2_s, qev, qxs, Nat.reduceEqDiff, reduceIte, and_true, true_and, and_false, false_and, and_self, or_true, true_or, qb_or, reduceCtorEq, qbr_True, qbr_False, q10, q01, qwC]
          exact no (fun q => (hci.mp q.2).elim c1 (fun z => absurd c2 (Int32.not_lt.mpr z)))
        · first | exact mark (hci.mpr (Or.inl c1)) | exact mark (hci.mpr (Or.inr (Int32.not_lt.mp c2)))
    refine oX5_look_0 _ _ _ _ _ _ ?_
    simp only [bX5_look_0, qsem, qopt_s, qopt2_s, qev, qxs, Nat.reduceEqDiff, reduceIte, and_true, true_and, and_false, false_and, and_self, or_true, true_or, qb_or, reduceCtorEq, qbr_True, qbr_False, q10, q01, qwC, nI0l (show srt S n < 1000 by omega), nI1l (show srt S n < 1000 by omega)]
    refine kX5_look_3 (c0) (rfl) (Nat.le_of_ble_eq_true rfl) (Nat.le_of_ble_eq_true rfl) ⟨Nat.le_of_ble_eq_true rfl, Nat.le_of_ble_eq_true rfl⟩ ?_
    rintro _ _ ⟨rfl, rfl⟩
    refine oX5_look_6 _ _ _ _ _ _ ?_
    simp only [bX5_look_6, qsem, qopt_s, qopt2_s, qev, qxs, Nat.reduceEqDiff, reduceIte, and_true, true_and, and_false, false_and, and_self, or_true, true_or, qb_or, reduceCtorEq, qbr_True, qbr_False, q10, q01, qwC, nI0l (show srt S n < 1000 by omega), nI1l (show srt S n < 1000 by omega)]
    refine qbr_i (fun c1 => ?_) (fun c1 => ?_)
    · exact at17
    · refine qbr_i (fun c2 => ?_) (fun c2 => ?_)
      · exact at17
      · exact absurd hs (by omega)
  · refine oX5_look_0 _ _ _ _ _ _ ?_
    simp only [bX5_look_0, qsem, qopt_s, qopt2_s, qev, qxs, Nat.reduceEqDiff, reduceIte, and_true, true_and, and_false, false_and, and_self, or_true, true_or, qb_or, reduceCtorEq, qbr_True, qbr_False, q10, q01, qwC, nI0l (show srt S n < 1000 by omega), nI1l (show srt S n < 1000 by omega)]
    refine kX5_look_3 (c0) (rfl) (Nat.le_of_ble_eq_true rfl) (Nat.le_of_ble_eq_true rfl) ⟨Nat.le_of_ble_eq_true rfl, Nat.le_of_ble_eq_true rfl⟩ ?_
    rintro _ _ ⟨rfl, rfl⟩
    refine oX5_look_6 _ _ _ _ _ _ ?_
    simp only [bX5_look_6, qsem, qopt_s, qopt2_s, qev, qxs, Nat.reduceEqDiff, reduceIte, and_true, true_and, and_false, false_and, and_self, or_true, true_or, qb_or, reduceCtorEq, qbr_True, qbr_False, q10, q01, qwC, nI0l (show srt S n < 1000 by omega), nI1l (show srt S n < 1000 by omega)]
    refine qbr_i (fun c1 => ?_) (fun c1 => ?_)
    · exact absurd hs (by omega)
    · refine qbr_i (fun c2 => ?_) (fun c2 => ?_)
      · exact absurd hs (by omega)
      · exact no (fun q => hs q.1)
set_option maxRecDepth 100000 in
set_option maxHeartbeats 4000000 in
theorem zX5_marked {C M : qC} {r : Nat × Nat × Nat} : CT mX5_marked 0 0 0 [.ref 117] (wd C M r) (fun r' w' => w' = wd C M r ∧ r' = some (.ref 120)) := by
  refine eX5_marked (AW_gen (fun Q hQ => ?_))
  refine oX5_marked_0 _ _ _ _ _ _ ?_
  simp only [bX5_marked_0, qsem, qopt_s, qopt2_s, qev, qxs, Nat.reduceEqDiff, reduceIte, and_true, true_and, and_false, false_and, and_self, or_true, true_or, qb_or, reduceCtorEq, qbr_True, qbr_False, q10, q01, qwC]
  exact hQ _ _ ⟨rfl, rfl⟩
set_option maxRecDepth 100000 in
set_option maxHeartbeats 4000000 in
theorem zX5_addFile {C M : qC} {r : Nat × Nat × Nat} {S : qS} {f : Nat} (h1 : W1 S) (hI : iM C S) (hf : f < cF S) : CT mX5_addFile 1 0 0 [.ref 117, .int (nI f)] (wd C M r) (fun r' w' => (cK S = 50 ∧ w' = wd C M r ∧ r' = some (.int 0)) ∨ (¬ cK S = 50 ∧ r' = some (.int 1) ∧ ∃ C', w' = wd C' M r ∧ fsU (yI C 117 3 (nI (cK S + 1))) 120 (fun j => fB C 120 j || decide (j = f)) C')) := by
  have hF := h1.2.2.1
  have hK := h1.2.2.2.2.1
  refine eX5_addFile (AW_gen (fun Q hQ => ?_))
  by_cases h50 : cK S = 50
  · refine oX5_addFile_0 _ _ _ _ _ _ ?_
    simp only [bX5_addFile_0, qsem, qopt_s, qopt2_s, qev, qxs, Nat.reduceEqDiff, reduceIte, and_true, true_and, and_false, false_and, and_self, or_true, true_or, qb_or, reduceCtorEq, qbr_True, qbr_False, q10, q01, qwC, hI.1]
    refine qbr_f (nI_nlt (b := 50) (by omega) (by omega)) ?_
    exact hQ _ _ (Or.inl ⟨h50, rfl, rfl⟩)
  · refine oX5_addFile_0 _ _ _ _ _ _ ?_
    simp only [bX5_addFile_0, qsem, qopt_s, qopt2_s, qev, qxs, Nat.reduceEqDiff, reduceIte, and_true, true_and, and_false, false_and, and_self, or_true, true_or, qb_or, reduceCtorEq, qbr_True, qbr_False, q10, q01, qwC, hI.1, nI_1]
    refine qbr_t (nI_lt (b := 50) (by omega) (by omega)) ?_
    refine oX5_addFile_11 _ _ _ _ _ _ ?_
    simp only [bX5_addFile_11, qsem, qopt_s, qopt2_s, qev, qxs, Nat.reduceEqDiff, reduceIte, and_true, true_and, and_false, false_and, and_self, or_true, true_or, qb_or, reduceCtorEq, qbr_True, qbr_False, q10, q01, qwC, hI.1, nI_1]
    refine kX5_addFile_26 (zX0_add p120 (show f < 100 by omega)) (rfl) (Nat.le_of_ble_eq_true rfl) (Nat.le_of_ble_eq_true rfl) ⟨Nat.le_of_ble_eq_true rfl, Nat.le_of_ble_eq_true rfl⟩ ?_
    rintro _ _ ⟨C', rfl, rfl, hU⟩
    refine oX5_addFile_29 _ _ _ _ _ _ ?_
    simp only [bX5_addFile_29, qsem, qopt_s, qopt2_s, qev, qxs, Nat.reduceEqDiff, reduceIte, and_true, true_and, and_false, false_and, and_self, or_true, true_or, qb_or, reduceCtorEq, qbr_True, qbr_False, q10, q01, qwC, hI.1, nI_1]
    exact hQ _ _ (Or.inr ⟨h50, rfl, C', rfl, hU⟩)
/-! a call back more -/
theorem rc_at {S : qS} {s whose since : Int32} {c : Nat} : (rcS S s whose since).2.1 154 c = (if c = cK S then s else S.2.1 154 c) ∧ (rcS S s whose since).2.1 155 c = (if c = cK S then whose else S.2.1 155 c) ∧ (rcS S s whose since).2.1 156 c = (if c = cK S then since else S.2.1 156 c) := ⟨rfl, rfl, rfl⟩
theorem snP_rc {S : qS} {s whose since s' : Int32} {x : Nat} {v : Int32} (h1 : W1 S) (h : snP S s' x v) (v' : Int32) (hv : ∀ n, n ≤ 400 → (v' ≤ nI n ↔ v ≤ nI n ∨ (s = s' ∧ whose = nI x ∧ since ≤ nI n))) : snP (rcS S s whose since) s' x v' := by
  intro n hn
  rw [hv n hn, h n hn, rc_K h1]
  constructor
  · rintro (⟨c, hc, a, b, d⟩ | ⟨a, b, d⟩)
    · exact ⟨c, by omega, by rw [rc_at.1, if_neg (by omega)]; exact a, by rw [rc_at.2.1, if_neg (by omega)]; exact b, by rw [rc_at.2.2, if_neg (by omega)]; exact d⟩
    · exact ⟨cK S, by omega, by rw [rc_at.1, if_pos rfl]; exact a, by rw [rc_at.2.1, if_pos rfl]; exact b, by rw [rc_at.2.2, if_pos rfl]; exact d⟩
  · rintro ⟨c, hc, a, b, d⟩
    rw [rc_at.1] at a
    rw [rc_at.2.1] at b
    rw [rc_at.2.2] at d
    by_cases e : c = cK S
    · rw [if_pos e] at a b d
      exact Or.inr ⟨a, b, d⟩
    · rw [if_neg e] at a b d
      exact Or.inl ⟨c, by omega, a, b, d⟩
theorem cnN_rc {S : qS} {s whose since : Int32} (h1 : W1 S) (n : Nat) : cnN (rcS S s whose since) n ↔ cnN S n ∨ (((s = 1 ∧ srt S n = 1 ∧ S.2.1 142 n = whose) ∨ (s = 2 ∧ srt S n < 2 ∧ S.2.1 140 n = whose)) ∧ since ≤ nI n) := by
  unfold cnN cnP
  rw [rc_K h1]
  constructor
  · rintro ⟨c, hc, hp⟩
    rw [rc_at.1, rc_at.2.1, rc_at.2.2] at hp
    by_cases e : c = cK S
    · rw [if_pos e, if_pos e, if_pos e] at hp
      exact Or.inr hp
    · rw [if_neg e, if_neg e, if_neg e] at hp
      exact Or.inl ⟨c, by omega, hp⟩
  · rintro (⟨c, hc, hp⟩ | hp)
    · exact ⟨c, by omega, by rw [rc_at.1, rc_at.2.1, rc_at.2.2, if_neg (by omega), if_neg (by omega), if_neg (by omega)]; exact hp⟩
    · exact ⟨cK S, by omega, by rw [rc_at.1, rc_at.2.1, rc_at.2.2, if_pos rfl, if_pos rfl, if_pos rfl]; exact hp⟩
theorem mkd_rc0 {S : qS} {whose since : Int32} (h1 : W1 S) (f : Nat) : mkd (rcS S 0 whose since) f ↔ mkd S f ∨ whose = nI f := by
  have hc : ∀ n, cnN (rcS S 0 whose since) n ↔ cnN S n := fun n => (cnN_rc h1 n).trans ⟨fun q => q.elim id (fun z => by rcases z.1 with y | y <;> exact absurd y.1 (by decide)), Or.inl⟩
  unfold mkd
  rw [rc_K h1]
  constructor
  · rintro (⟨c, hc', a, b⟩ | ⟨n, a, b, c, d⟩)
    · rw [rc_at.1] at a
      rw [rc_at.2.1] at b
      by_cases e : c = cK S
      · rw [if_pos e] at b; exact Or.inr b
      · rw [if_neg e] at a b; exact Or.inl (Or.inl ⟨c, by omega, a, b⟩)
    · exact Or.inl (Or.inr ⟨n, a, b, c, (hc n).mp d⟩)
  · rintro ((⟨c, hc', a, b⟩ | ⟨n, a, b, c, d⟩) | e)
    · exact Or.inl ⟨c, by omega, by rw [rc_at.1, if_neg (by omega)]; exact a, by rw [rc_at.2.1, if_neg (by omega)]; exact b⟩
    · exact Or.inr ⟨n, a, b, c, (hc n).mpr d⟩
    · exact Or.inl ⟨cK S, by omega, by rw [rc_at.1, if_pos rfl], by rw [rc_at.2.1, if_pos rfl]; exact e⟩
theorem mkd_rc1 {S : qS} {s whose since : Int32} (h1 : W1 S) (hs : ¬ s = 0) (f : Nat) : mkd (rcS S s whose since) f ↔ (∃ c, c < cK S ∧ S.2.1 154 c = 0 ∧ S.2.1 155 c = nI f) ∨ ∃ n, n < cN S ∧ srt S n < 2 ∧ ofN S n = f ∧ cnN (rcS S s whose since) n := by
  unfold mkd
  rw [rc_K h1]
  refine or_congr ?_ Iff.rfl
  constructor
  · rintro ⟨c, hc', a, b⟩
    rw [rc_at.1] at a
    rw [rc_at.2.1] at b
    by_cases e : c = cK S
    · rw [if_pos e] at a; exact absurd a hs
    · rw [if_neg e] at a b; exact ⟨c, by omega, a, b⟩
  · rintro ⟨c, hc', a, b⟩
    exact ⟨c, by omega, by rw [rc_at.1, if_neg (by omega)]; exact a, by rw [rc_at.2.1, if_neg (by omega)]; exact b⟩


/-- the i-th of those that are so -/
def nthF (β : Nat → Bool) (F : Nat) (i : Int32) : Nat → Int32 → Int32
  | 0, _ => -1
  | k + 1, s => if β (F - (k + 1)) then (if s = i then nI (F - (k + 1)) else nthF β F i k (s + 1)) else nthF β F i k s
set_option maxRecDepth 100000 in
set_option maxHeartbeats 4000000 in
theorem zX11_calledMany {C M : qC} {r : Nat × Nat × Nat} {S : qS} (hS : pj M = S) (h1 : W1 S) (h2 : W2 S) (h5 : W5 S) : CT mX11_calledMany 4 0 0 [.ref 136] (wd C M r) (fun r' w' => ∃ M' β, w' = wd C M' r ∧ pj M' = S ∧ (∀ f, f < cF S → (β f = true ↔ cal S f)) ∧ r' = some (.int (nI (fb_ct β (cF S))))) := by
  have hF := h1.2.2.1
  refine eX11_calledMany (AW_gen (fun Q hQ => ?_))
  refine oX11_calledMany_0 _ _ _ _ _ _ ?_
  simp only [bX11_calledMany_0, qsem, qopt_s, qopt2_s, qev, qxs, Nat.reduceEqDiff, reduceIte, and_true, true_and, and_false, false_and, and_self, or_true, true_or, qb_or, reduceCtorEq, qbr_True, qbr_False, q10, q01, qwM]
  have loop : ∀ (j f : Nat) (M : qC) (β : Nat → Bool), f + j = cF S → pj M = S → (∀ f', f' < f → (β f' = true ↔ cal S f')) → AW (mX11_calledMany, 4, 0, 0, none, Q) 4 [some (.ref 136), some (.int (nI (fb_ct β f))), some (.int (nI f))] [] (wd C M r) 0 0 := by
    intro j
    induction j with
    | zero =>
      intro f M β hf hS hβ
      obtain rfl : f = cF S := by omega
      refine oX11_calledMany_4 _ _ _ _ _ _ ?_
      simp only [bX11_calledMany_4, qsem, qopt_s, qopt2_s, qev, qxs, Nat.reduceEqDiff, reduceIte, and_true, true_and, and_false, false_and, and_self, or_true, true_or, qb_or, reduceCtorEq, qbr_True, qbr_False, q10, q01, qwM, pjx hS, h1.1.2.1]
      refine qbr_t ((Int32.le_refl _)) ?_
      refine oX11_calledMany_34 _ _ _ _ _ _ ?_
      simp only [bX11_calledMany_34, qsem, qopt_s, qopt2_s, qev, qxs, Nat.reduceEqDiff, reduceIte, and_true, true_and, and_false, false_and, and_self, or_true, true_or, qb_or, reduceCtorEq, qbr_True, qbr_False, q10, q01, qwM, pjx hS, h1.1.2.1]
      exact hQ _ _ ⟨M, β, rfl, hS, hβ, rfl⟩
    | succ j ih =>
      intro f M β hf hS hβ
      have stp : ∀ (M : qC) (b : Bool), pj M = S → (b = true ↔ cal S f) → AW (mX11_calledMany, 4, 0, 0, none, Q) 26 [some (.ref 136), some (.int (nI (fb_ct β f))), some (.int (nI f))] [.int (qb b), .int (nI (fb_ct β f))] (wd C M r) 0 0 := by
        intro M b hS hb
        have hh := ih (f + 1) M (fun k => if k = f then b else β k) (by omega) hS (fun f' hf' => by
          by_cases e : f' = f
          · rw [if_pos e, e]; exact hb
          · rw [if_neg e]; exact hβ f' (by omega))
        rw [fb_ct_succ, fb_ct_out β b (Nat.le_refl f), if_pos rfl] at hh
        have e : nI (fb_ct β f) + qb b = nI (fb_ct β f + if b = true then 1 else 0) := by cases b <;> simp [qb, nI_1]
        refine oX11_calledMany_26 _ _ _ _ _ _ ?_
        simp only [bX11_calledMany_26, qsem, qopt_s, qopt2_s, qev, qxs, Nat.reduceEqDiff, reduceIte, and_true, true_and, and_false, false_and, and_self, or_true, true_or, qb_or, reduceCtorEq, qbr_True, qbr_False, q10, q01, qwM, e, nI_1]
        exact hh
      refine oX11_calledMany_4 _ _ _ _ _ _ ?_
      simp only [bX11_calledMany_4, qsem, qopt_s, qopt2_s, qev, qxs, Nat.reduceEqDiff, reduceIte, and_true, true_and, and_false, false_and, and_self, or_true, true_or, qb_or, reduceCtorEq, qbr_True, qbr_False, q10, q01, qwM, pjx hS, h1.1.2.1, qb_0]
      refine qbr_f (nI_ge (by omega) (by omega)) ?_
      refine kX11_calledMany_15 (zX11_isCalled hS h1 h2 h5 (show f < cF S by omega)) rfl (Nat.le_of_ble_eq_true rfl) (Nat.le_of_ble_eq_true rfl) ⟨Nat.le_of_ble_eq_true rfl, Nat.le_of_ble_eq_true rfl⟩ ?_
      rintro _ _ ⟨M1, b1, rfl, hS1, rfl, hb1⟩
      refine oX11_calledMany_18 _ _ _ _ _ _ ?_
      simp only [bX11_calledMany_18, qsem, qopt_s, qopt2_s, qev, qxs, Nat.reduceEqDiff, reduceIte, and_true, true_and, and_false, false_and, and_self, or_true, true_or, qb_or, reduceCtorEq, qbr_True, qbr_False, q10, q01, qwM, pjx hS, h1.1.2.1, qb_0]
      refine qbr_i (fun c1 => ?_) (fun c1 => ?_)
      · refine oX11_calledMany_25 _ _ _ _ _ _ ?_
        simp only [bX11_calledMany_25, qsem, qopt_s, qopt2_s, qev, qxs, Nat.reduceEqDiff, reduceIte, and_true, true_and, and_false, false_and, and_self, or_true, true_or, qb_or, reduceCtorEq, qbr_True, qbr_False, q10, q01, qwM, pjx hS, h1.1.2.1, qb_0]
        first | (exact stp M1 false hS1 (by rw [← hb1, c1])) | (exact stp M1 true hS1 (by rw [← hb1, show b1 = true by simpa using c1]))
      · first | (exact stp M1 false hS1 (by rw [← hb1, c1])) | (exact stp M1 true hS1 (by rw [← hb1, show b1 = true by simpa using c1]))
  exact loop (cF S) 0 M (fun _ => false) (by omega) hS (fun f' h => by omega)
set_option maxRecDepth 100000 in
set_option maxHeartbeats 4000000 in
theorem zX11_called {C M : qC} {r : Nat × Nat × Nat} {S : qS} {i : Int32} (hS : pj M = S) (h1 : W1 S) (h2 : W2 S) (h5 : W5 S) : CT mX11_called 4 0 0 [.ref 136, .int i] (wd C M r) (fun r' w' => ∃ M' β, w' = wd C M' r ∧ pj M' = S ∧ (∀ f, f < cF S → (β f = true ↔ cal S f)) ∧ r' = some (.int (if i < 0 then -1 else nthF β (cF S) i (cF S) 0))) := by
  have hF := h1.2.2.1
  -- what is called back, chosen once
  obtain ⟨β, hβ⟩ : ∃ β : Nat → Bool, ∀ f, β f = true ↔ cal S f := ⟨fun f => @decide (cal S f) (Classical.propDecidable _), fun f => by simp⟩
  refine eX11_called (AW_gen (fun Q hQ => ?_))
  refine oX11_called_0 _ _ _ _ _ _ ?_
  simp only [bX11_called_0, qsem, qopt_s, qopt2_s, qev, qxs, Nat.reduceEqDiff, reduceIte, and_true, true_and, and_false, false_and, and_self, or_true, true_or, qb_or, reduceCtorEq, qbr_True, qbr_False, q10, q01, qwM]
  have loop : ∀ (k f : Nat) (M : qC) (s : Int32), cF S = f + k → pj M = S → (¬ i < 0 → nthF β (cF S) i k s = nthF β (cF S) i (cF S) 0) → AW (mX11_called, 4, 0, 0, none, Q) 4 [some (.ref 136), some (.int i), some (.int s), some (.int (nI f))] [] (wd C M r) 0 0 := by
    intro k
    induction k with
    | zero =>
      intro f M s hf hS hn
      obtain rfl : f = cF S := by omega
      refine oX11_called_4 _ _ _ _ _ _ ?_
      simp only [bX11_called_4, qsem, qopt_s, qopt2_s, qev, qxs, Nat.reduceEqDiff, reduceIte, and_true, true_and, and_false, false_and, and_self, or_true, true_or, qb_or, reduceCtorEq, qbr_True, qbr_False, q10, q01, qwM, pjx hS, h1.1.2.1]
      refine qbr_t ((Int32.le_refl _)) ?_
      refine oX11_called_40 _ _ _ _ _ _ ?_
      simp only [bX11_called_40, qsem, qopt_s, qopt2_s, qev, qxs, Nat.reduceEqDiff, reduceIte, and_true, true_and, and_false, false_and, and_self, or_true, true_or, qb_or, reduceCtorEq, qbr_True, qbr_False, q10, q01, qwM, pjx hS, h1.1.2.1]
      refine hQ _ _ ⟨M, β, rfl, hS, fun f _ => hβ f, ri ?_⟩
      by_cases h : i < 0
      · rw [if_pos h]
      · rw [if_neg h, ← hn h]; rfl
    | succ k ih =>
      intro f M s hf hS hn
      have hij : cF S - (k + 1) = f := by omega
      have hn2 : ¬ i < 0 → nthF β (cF S) i (cF S) 0 = if β f then (if s = i then nI f else nthF β (cF S) i k (s + 1)) else nthF β (cF S) i k s := fun h => by rw [← hn h]; simp only [nthF, hij]
      refine oX11_called_4 _ _ _ _ _ _ ?_
      simp only [bX11_called_4, qsem, qopt_s, qopt2_s, qev, qxs, Nat.reduceEqDiff, reduceIte, and_true, true_and, and_false, false_and, and_self, or_true, true_or, qb_or, reduceCtorEq, qbr_True, qbr_False, q10, q01, qwM, pjx hS, h1.1.2.1, qb_0, nI_1]
      refine qbr_f (nI_ge (by omega) (by omega)) ?_
      refine qbr_i (fun c1 => ?_) (fun c1 => ?_)
      · refine oX11_called_40 _ _ _ _ _ _ ?_
        simp only [bX11_called_40, qsem, qopt_s, qopt2_s, qev, qxs, Nat.reduceEqDiff, reduceIte, and_true, true_and, and_false, false_and, and_self, or_true, true_or, qb_or, reduceCtorEq, qbr_True, qbr_False, q10, q01, qwM, pjx hS, h1.1.2.1, qb_0, nI_1]
        (first | (exact hQ _ _ ⟨M, β, rfl, hS, fun f _ => hβ f, ri (by rw [if_pos c1])⟩; done) | (exact hQ _ _ ⟨M1, β, rfl, hS1, fun f _ => hβ f, ri (by rw [if_neg c1, hn2 c1, ← hbb, if_pos (by simpa using c2), if_pos c3])⟩; done))
      · refine kX11_called_18 (zX11_isCalled hS h1 h2 h5 (show f < cF S by omega)) rfl (Nat.le_of_ble_eq_true rfl) (Nat.le_of_ble_eq_true rfl) ⟨Nat.le_of_ble_eq_true rfl, Nat.le_of_ble_eq_true rfl⟩ ?_
        rintro _ _ ⟨M1, b1, rfl, hS1, rfl, hb1⟩
        have hbb : b1 = β f := Bool.eq_iff_iff.mpr (hb1.trans (hβ f).symm)
        refine oX11_called_21 _ _ _ _ _ _ ?_
        simp only [bX11_called_21, qsem, qopt_s, qopt2_s, qev, qxs, Nat.reduceEqDiff, reduceIte, and_true, true_and, and_false, false_and, and_self, or_true, true_or, qb_or, reduceCtorEq, qbr_True, qbr_False, q10, q01, qwM, pjx hS, h1.1.2.1, qb_0, nI_1]
        refine qbr_i (fun c2 => ?_) (fun c2 => ?_)
        · refine oX11_called_34 _ _ _ _ _ _ ?_
          simp only [bX11_called_34, qsem, qopt_s, qopt2_s, qev, qxs, Nat.reduceEqDiff, reduceIte, and_true, true_and, and_false, false_and, and_self, or_true, true_or, qb_or, reduceCtorEq, qbr_True, qbr_False, q10, q01, qwM, pjx hS, h1.1.2.1, qb_0, nI_1]
          first | (exact ih (f + 1) M1 s (by omega) hS1 (fun h => by rw [hn2 h, ← hbb, c2]; rfl)) | (exact ih (f + 1) M1 (s + 1) (by omega) hS1 (fun h => by rw [hn2 h, ← hbb, if_pos (by simpa using c2), if_neg c3]))
        · refine qbr_i (fun c3 => ?_) (fun c3 => ?_)
          · (first | (exact hQ _ _ ⟨M, β, rfl, hS, fun f _ => hβ f, ri (by rw [if_pos c1])⟩; done) | (exact hQ _ _ ⟨M1, β, rfl, hS1, fun f _ => hβ f, ri (by rw [if_neg c1, hn2 c1, ← hbb, if_pos (by simpa using c2), if_pos c3])⟩; done))
          · refine oX11_called_31 _ _ _ _ _ _ ?_
            simp only [bX11_called_31, qsem, qopt_s, qopt2_s, qev, qxs, Nat.reduceEqDiff, reduceIte, and_true, true_and, and_false, false_and, and_self, or_true, true_or, qb_or, reduceCtorEq, qbr_True, qbr_False, q10, q01, qwM, pjx hS, h1.1.2.1, qb_0, nI_1]
            refine oX11_called_34 _ _ _ _ _ _ ?_
            simp only [bX11_called_34, qsem, qopt_s, qopt2_s, qev, qxs, Nat.reduceEqDiff, reduceIte, and_true, true_and, and_false, false_and, and_self, or_true, true_or, qb_or, reduceCtorEq, qbr_True, qbr_False, q10, q01, qwM, pjx hS, h1.1.2.1, qb_0, nI_1]
            first | (exact ih (f + 1) M1 s (by omega) hS1 (fun h => by rw [hn2 h, ← hbb, c2]; rfl)) | (exact ih (f + 1) M1 (s + 1) (by omega) hS1 (fun h => by rw [hn2 h, ← hbb, if_pos (by simpa using c2), if_neg c3]))
  exact loop (cF S) 0 M 0 (by omega) hS (fun _ => rfl)
set_option maxRecDepth 100000 in
set_option maxHeartbeats 4000000 in
theorem zX11_hash {C M : qC} {r : Nat × Nat × Nat} {S : qS} {a : Int32} (hS : pj M = S) (h1 : W1 S) : CT mX11_hash 2 0 0 [.ref 136, .int a] (wd C M r) (fun r' w' => w' = wd C M r ∧ r' = some (.long (if isF S a then S.2.2 a.toNatClampNeg else 0))) := by
  have hF := h1.2.2.1
  refine eX11_hash (AW_gen (fun Q hQ => ?_))
  refine oX11_hash_0 _ _ _ _ _ _ ?_
  simp only [bX11_hash_0, qsem, qopt_s, qopt2_s, qev, qxs, Nat.reduceEqDiff, reduceIte, and_true, true_and, and_false, false_and, and_self, or_true, true_or, qb_or, reduceCtorEq, qbr_True, qbr_False, q10, q01, qwM, pjx hS, qb_0]
  refine kX11_hash_2 (zX11_isFile hS h1) rfl (Nat.le_of_ble_eq_true rfl) (Nat.le_of_ble_eq_true rfl) ⟨Nat.le_of_ble_eq_true rfl, Nat.le_of_ble_eq_true rfl⟩ ?_
  rintro _ _ ⟨rfl, rfl⟩
  refine oX11_hash_5 _ _ _ _ _ _ ?_
  simp only [bX11_hash_5, qsem, qopt_s, qopt2_s, qev, qxs, Nat.reduceEqDiff, reduceIte, and_true, true_and, and_false, false_and, and_self, or_true, true_or, qb_or, reduceCtorEq, qbr_True, qbr_False, q10, q01, qwM, pjx hS, qb_0]
  refine qbr_i (fun c1 => ?_) (fun c1 => ?_)
  · refine oX11_hash_17 _ _ _ _ _ _ ?_
    simp only [bX11_hash_17, qsem, qopt_s, qopt2_s, qev, qxs, Nat.reduceEqDiff, reduceIte, and_true, true_and, and_false, false_and, and_self, or_true, true_or, qb_or, reduceCtorEq, qbr_True, qbr_False, q10, q01, qwM, pjx hS, qb_0]
    refine oX11_hash_18 _ _ _ _ _ _ ?_
    simp only [bX11_hash_18, qsem, qopt_s, qopt2_s, qev, qxs, Nat.reduceEqDiff, reduceIte, and_true, true_and, and_false, false_and, and_self, or_true, true_or, qb_or, reduceCtorEq, qbr_True, qbr_False, q10, q01, qwM, pjx hS, qb_0]
    exact hQ _ _ ⟨rfl, rl (by simp_all)⟩
  · refine ⟨by obtain ⟨j, hj, rfl⟩ := isF_of h1 (show isF S a = true by simpa using c1); exact nI_vp (by omega) (by omega), ?_⟩
    refine oX11_hash_18 _ _ _ _ _ _ ?_
    simp only [bX11_hash_18, qsem, qopt_s, qopt2_s, qev, qxs, Nat.reduceEqDiff, reduceIte, and_true, true_and, and_false, false_and, and_self, or_true, true_or, qb_or, reduceCtorEq, qbr_True, qbr_False, q10, q01, qwM, pjx hS, qb_0]
    exact hQ _ _ ⟨rfl, rl (by simp_all)⟩
/-- the keys' rows -/
def W6 (S : qS) : Prop := ∀ k, k < 4 → (S.2.1 152 k = 0 ∨ S.2.1 152 k = 1)
def useOk (S : qS) (k many : Int32) : Prop := isKy k = true ∧ (1 ≤ many ∧ many ≤ 1000) ∧ S.2.1 152 k.toNatClampNeg = 0 ∧ S.2.1 153 k.toNatClampNeg = -1 ∧ S.2.1 151 k.toNatClampNeg + many ≤ 1000000
def useS (S : qS) (k many : Int32) : qS := sA S 151 (upd (S.2.1 151) k.toNatClampNeg (S.2.1 151 k.toNatClampNeg + many))
set_option maxRecDepth 100000 in
set_option maxHeartbeats 4000000 in
theorem zX11_uses {C M : qC} {r : Nat × Nat × Nat} {S : qS} {k many : Int32} (hS : pj M = S) : CT mX11_uses 2 0 0 [.ref 136, .int k, .int many] (wd C M r) (fun r' w' => ∃ M', w' = wd C M' r ∧ ((¬ useOk S k many ∧ r' = some (.int (-1)) ∧ pj M' = S) ∨ (useOk S k many ∧ r' = some (.int (S.2.1 151 k.toNatClampNeg + many)) ∧ pj M' = useS S k many))) := by
  refine eX11_uses (AW_gen (fun Q hQ => ?_))
  refine oX11_uses_0 _ _ _ _ _ _ ?_
  simp only [bX11_uses_0, qsem, qopt_s, qopt2_s, qev, qxs, Nat.reduceEqDiff, reduceIte, and_true, true_and, and_false, false_and, and_self, or_true, true_or, qb_or, reduceCtorEq, qbr_True, qbr_False, q10, q01, qwM, pjx hS, qb_0, decide_eq_false_iff_not]
  refine kX11_uses_1 (zX11_isKey) (Nat.le_of_ble_eq_true rfl) (Nat.le_of_ble_eq_true rfl) ⟨Nat.le_of_ble_eq_true rfl, Nat.le_of_ble_eq_true rfl⟩ ?_
  rintro _ _ ⟨rfl, rfl⟩
  refine oX11_uses_4 _ _ _ _ _ _ ?_
  simp only [bX11_uses_4, qsem, qopt_s, qopt2_s, qev, qxs, Nat.reduceEqDiff, reduceIte, and_true, true_and, and_false, false_and, and_self, or_true, true_or, qb_or, reduceCtorEq, qbr_True, qbr_False, q10, q01, qwM, pjx hS, qb_0, decide_eq_false_iff_not]
  refine qbr_i (fun c1 => ?_) (fun c1 => ?_)
  · refine oX11_uses_50 _ _ _ _ _ _ ?_
    simp only [bX11_uses_50, qsem, qopt_s, qopt2_s, qev, qxs, Nat.reduceEqDiff, reduceIte, and_true, true_and, and_false, false_and, and_self, or_true, true_or, qb_or, reduceCtorEq, qbr_True, qbr_False, q10, q01, qwM, pjx hS, qb_0, decide_eq_false_iff_not]
    (first | (exact hQ _ _ ⟨M, rfl, Or.inl ⟨fun q => by obtain ⟨q1, q2, q3, q4, q5⟩ := q; first | (rw [c1] at q1; cases q1) | exact c2 q2 | exact c3 q3 | exact c4 q4 | exact c5 q5, rfl, hS⟩⟩; done) | (exact hQ _ _ ⟨_, rfl, Or.inr ⟨⟨by simpa using c1, Classical.not_not.mp c2, c3, c4, c5⟩, ri (by simp [upd]), by rw [pj_wA rfl, hS]; rfl⟩⟩; done))
  · refine kX11_uses_12 (zX11_in) (Nat.le_of_ble_eq_true rfl) (Nat.le_of_ble_eq_true rfl) ⟨Nat.le_of_ble_eq_true rfl, Nat.le_of_ble_eq_true rfl⟩ ?_
    rintro _ _ ⟨rfl, rfl⟩
    refine oX11_uses_15 _ _ _ _ _ _ ?_
    simp only [bX11_uses_15, qsem, qopt_s, qopt2_s, qev, qxs, Nat.reduceEqDiff, reduceIte, and_true, true_and, and_false, false_and, and_self, or_true, true_or, qb_or, reduceCtorEq, qbr_True, qbr_False, q10, q01, qwM, pjx hS, qb_0, decide_eq_false_iff_not]
    refine qbr_i (fun c2 => ?_) (fun c2 => ?_)
    · refine oX11_uses_50 _ _ _ _ _ _ ?_
      simp only [bX11_uses_50, qsem, qopt_s, qopt2_s, qev, qxs, Nat.reduceEqDiff, reduceIte, and_true, true_and, and_false, false_and, and_self, or_true, true_or, qb_or, reduceCtorEq, qbr_True, qbr_False, q10, q01, qwM, pjx hS, qb_0, decide_eq_false_iff_not]
      (first | (exact hQ _ _ ⟨M, rfl, Or.inl ⟨fun q => by obtain ⟨q1, q2, q3, q4, q5⟩ := q; first | (rw [c1] at q1; cases q1) | exact c2 q2 | exact c3 q3 | exact c4 q4 | exact c5 q5, rfl, hS⟩⟩; done) | (exact hQ _ _ ⟨_, rfl, Or.inr ⟨⟨by simpa using c1, Classical.not_not.mp c2, c3, c4, c5⟩, ri (by simp [upd]), by rw [pj_wA rfl, hS]; rfl⟩⟩; done))
    · refine ⟨by obtain ⟨j, hj, rfl⟩ := isKy_of (show isKy k = true by simpa using c1); exact nI_vp (by omega) (by omega), ?_⟩
      refine qbr_i (fun c3 => ?_) (fun c3 => ?_)
      · refine ⟨by obtain ⟨j, hj, rfl⟩ := isKy_of (show isKy k = true by simpa using c1); exact nI_vp (by omega) (by omega), ?_⟩
        refine qbr_i (fun c4 => ?_) (fun c4 => ?_)
        · refine ⟨by obtain ⟨j, hj, rfl⟩ := isKy_of (show isKy k = true by simpa using c1); exact nI_vp (by omega) (by omega), ?_⟩
          refine qbr_i (fun c5 => ?_) (fun c5 => ?_)
          · refine oX11_uses_52 _ _ _ _ _ _ ?_
            simp only [bX11_uses_52, qsem, qopt_s, qopt2_s, qev, qxs, Nat.reduceEqDiff, reduceIte, and_true, true_and, and_false, false_and, and_self, or_true, true_or, qb_or, reduceCtorEq, qbr_True, qbr_False, q10, q01, qwM, pjx hS, qb_0, decide_eq_false_iff_not]
            refine ⟨by obtain ⟨j, hj, rfl⟩ := isKy_of (show isKy k = true by simpa using c1); exact nI_vp (by omega) (by omega), ?_⟩
            refine ⟨by obtain ⟨j, hj, rfl⟩ := isKy_of (show isKy k = true by simpa using c1); exact nI_vp (by omega) (by omega), ?_⟩
            refine ⟨by obtain ⟨j, hj, rfl⟩ := isKy_of (show isKy k = true by simpa using c1); exact nI_vp (by omega) (by omega), ?_⟩
            (first | (exact hQ _ _ ⟨M, rfl, Or.inl ⟨fun q => by obtain ⟨q1, q2, q3, q4, q5⟩ := q; first | (rw [c1] at q1; cases q1) | exact c2 q2 | exact c3 q3 | exact c4 q4 | exact c5 q5, rfl, hS⟩⟩; done) | (exact hQ _ _ ⟨_, rfl, Or.inr ⟨⟨by simpa using c1, Classical.not_not.mp c2, c3, c4, c5⟩, ri (by simp [upd]), by rw [pj_wA rfl, hS]; rfl⟩⟩; done))
          · refine oX11_uses_50 _ _ _ _ _ _ ?_
            simp only [bX11_uses_50, qsem, qopt_s, qopt2_s, qev, qxs, Nat.reduceEqDiff, reduceIte, and_true, true_and, and_false, false_and, and_self, or_true, true_or, qb_or, reduceCtorEq, qbr_True, qbr_False, q10, q01, qwM, pjx hS, qb_0, decide_eq_false_iff_not]
            (first | (exact hQ _ _ ⟨M, rfl, Or.inl ⟨fun q => by obtain ⟨q1, q2, q3, q4, q5⟩ := q; first | (rw [c1] at q1; cases q1) | exact c2 q2 | exact c3 q3 | exact c4 q4 | exact c5 q5, rfl, hS⟩⟩; done) | (exact hQ _ _ ⟨_, rfl, Or.inr ⟨⟨by simpa using c1, Classical.not_not.mp c2, c3, c4, c5⟩, ri (by simp [upd]), by rw [pj_wA rfl, hS]; rfl⟩⟩; done))
        · refine oX11_uses_50 _ _ _ _ _ _ ?_
          simp only [bX11_uses_50, qsem, qopt_s, qopt2_s, qev, qxs, Nat.reduceEqDiff, reduceIte, and_true, true_and, and_false, false_and, and_self, or_true, true_or, qb_or, reduceCtorEq, qbr_True, qbr_False, q10, q01, qwM, pjx hS, qb_0, decide_eq_false_iff_not]
          (first | (exact hQ _ _ ⟨M, rfl, Or.inl ⟨fun q => by obtain ⟨q1, q2, q3, q4, q5⟩ := q; first | (rw [c1] at q1; cases q1) | exact c2 q2 | exact c3 q3 | exact c4 q4 | exact c5 q5, rfl, hS⟩⟩; done) | (exact hQ _ _ ⟨_, rfl, Or.inr ⟨⟨by simpa using c1, Classical.not_not.mp c2, c3, c4, c5⟩, ri (by simp [upd]), by rw [pj_wA rfl, hS]; rfl⟩⟩; done))
      · refine oX11_uses_50 _ _ _ _ _ _ ?_
        simp only [bX11_uses_50, qsem, qopt_s, qopt2_s, qev, qxs, Nat.reduceEqDiff, reduceIte, and_true, true_and, and_false, false_and, and_self, or_true, true_or, qb_or, reduceCtorEq, qbr_True, qbr_False, q10, q01, qwM, pjx hS, qb_0, decide_eq_false_iff_not]
        (first | (exact hQ _ _ ⟨M, rfl, Or.inl ⟨fun q => by obtain ⟨q1, q2, q3, q4, q5⟩ := q; first | (rw [c1] at q1; cases q1) | exact c2 q2 | exact c3 q3 | exact c4 q4 | exact c5 q5, rfl, hS⟩⟩; done) | (exact hQ _ _ ⟨_, rfl, Or.inr ⟨⟨by simpa using c1, Classical.not_not.mp c2, c3, c4, c5⟩, ri (by simp [upd]), by rw [pj_wA rfl, hS]; rfl⟩⟩; done))
def finOk (S : qS) (k : Int32) : Prop := isKy k = true ∧ S.2.1 152 k.toNatClampNeg = 0 ∧ S.2.1 153 k.toNatClampNeg = -1
def finS (S : qS) (k : Int32) : qS := sA S 152 (upd (S.2.1 152) k.toNatClampNeg 1)
set_option maxRecDepth 100000 in
set_option maxHeartbeats 4000000 in
theorem zX11_finish {C M : qC} {r : Nat × Nat × Nat} {S : qS} {k : Int32} (hS : pj M = S) : CT mX11_finish 2 0 0 [.ref 136, .int k] (wd C M r) (fun r' w' => ∃ M', w' = wd C M' r ∧ ((¬ finOk S k ∧ r' = some (.int 0) ∧ pj M' = S) ∨ (finOk S k ∧ r' = some (.int 1) ∧ pj M' = finS S k))) := by
  refine eX11_finish (AW_gen (fun Q hQ => ?_))
  refine oX11_finish_0 _ _ _ _ _ _ ?_
  simp only [bX11_finish_0, qsem, qopt_s, qopt2_s, qev, qxs, Nat.reduceEqDiff, reduceIte, and_true, true_and, and_false, false_and, and_self, or_true, true_or, qb_or, reduceCtorEq, qbr_True, qbr_False, q10, q01, qwM, pjx hS, qb_0]
  refine kX11_finish_1 (zX11_isKey) (Nat.le_of_ble_eq_true rfl) (Nat.le_of_ble_eq_true rfl) ⟨Nat.le_of_ble_eq_true rfl, Nat.le_of_ble_eq_true rfl⟩ ?_
  rintro _ _ ⟨rfl, rfl⟩
  refine oX11_finish_4 _ _ _ _ _ _ ?_
  simp only [bX11_finish_4, qsem, qopt_s, qopt2_s, qev, qxs, Nat.reduceEqDiff, reduceIte, and_true, true_and, and_false, false_and, and_self, or_true, true_or, qb_or, reduceCtorEq, qbr_True, qbr_False, q10, q01, qwM, pjx hS, qb_0]
  refine qbr_i (fun c1 => ?_) (fun c1 => ?_)
  · refine oX11_finish_26 _ _ _ _ _ _ ?_
    simp only [bX11_finish_26, qsem, qopt_s, qopt2_s, qev, qxs, Nat.reduceEqDiff, reduceIte, and_true, true_and, and_false, false_and, and_self, or_true, true_or, qb_or, reduceCtorEq, qbr_True, qbr_False, q10, q01, qwM, pjx hS, qb_0]
    (first | (exact hQ _ _ ⟨M, rfl, Or.inl ⟨fun q => by obtain ⟨q1, q2, q3⟩ := q; first | (rw [c1] at q1; cases q1) | exact c2 q2 | exact c3 q3, rfl, hS⟩⟩; done) | (exact hQ _ _ ⟨_, rfl, Or.inr ⟨⟨by simpa using c1, c2, c3⟩, rfl, by rw [pj_wA rfl, hS]; rfl⟩⟩; done))
  · refine ⟨by obtain ⟨j, hj, rfl⟩ := isKy_of (show isKy k = true by simpa using c1); exact nI_vp (by omega) (by omega), ?_⟩
    refine qbr_i (fun c2 => ?_) (fun c2 => ?_)
    · refine ⟨by obtain ⟨j, hj, rfl⟩ := isKy_of (show isKy k = true by simpa using c1); exact nI_vp (by omega) (by omega), ?_⟩
      refine qbr_i (fun c3 => ?_) (fun c3 => ?_)
      · refine oX11_finish_28 _ _ _ _ _ _ ?_
        simp only [bX11_finish_28, qsem, qopt_s, qopt2_s, qev, qxs, Nat.reduceEqDiff, reduceIte, and_true, true_and, and_false, false_and, and_self, or_true, true_or, qb_or, reduceCtorEq, qbr_True, qbr_False, q10, q01, qwM, pjx hS, qb_0]
        refine ⟨by obtain ⟨j, hj, rfl⟩ := isKy_of (show isKy k = true by simpa using c1); exact nI_vp (by omega) (by omega), ?_⟩
        (first | (exact hQ _ _ ⟨M, rfl, Or.inl ⟨fun q => by obtain ⟨q1, q2, q3⟩ := q; first | (rw [c1] at q1; cases q1) | exact c2 q2 | exact c3 q3, rfl, hS⟩⟩; done) | (exact hQ _ _ ⟨_, rfl, Or.inr ⟨⟨by simpa using c1, c2, c3⟩, rfl, by rw [pj_wA rfl, hS]; rfl⟩⟩; done))
      · refine oX11_finish_26 _ _ _ _ _ _ ?_
        simp only [bX11_finish_26, qsem, qopt_s, qopt2_s, qev, qxs, Nat.reduceEqDiff, reduceIte, and_true, true_and, and_false, false_and, and_self, or_true, true_or, qb_or, reduceCtorEq, qbr_True, qbr_False, q10, q01, qwM, pjx hS, qb_0]
        (first | (exact hQ _ _ ⟨M, rfl, Or.inl ⟨fun q => by obtain ⟨q1, q2, q3⟩ := q; first | (rw [c1] at q1; cases q1) | exact c2 q2 | exact c3 q3, rfl, hS⟩⟩; done) | (exact hQ _ _ ⟨_, rfl, Or.inr ⟨⟨by simpa using c1, c2, c3⟩, rfl, by rw [pj_wA rfl, hS]; rfl⟩⟩; done))
    · refine oX11_finish_26 _ _ _ _ _ _ ?_
      simp only [bX11_finish_26, qsem, qopt_s, qopt2_s, qev, qxs, Nat.reduceEqDiff, reduceIte, and_true, true_and, and_false, false_and, and_self, or_true, true_or, qb_or, reduceCtorEq, qbr_True, qbr_False, q10, q01, qwM, pjx hS, qb_0]
      (first | (exact hQ _ _ ⟨M, rfl, Or.inl ⟨fun q => by obtain ⟨q1, q2, q3⟩ := q; first | (rw [c1] at q1; cases q1) | exact c2 q2 | exact c3 q3, rfl, hS⟩⟩; done) | (exact hQ _ _ ⟨_, rfl, Or.inr ⟨⟨by simpa using c1, c2, c3⟩, rfl, by rw [pj_wA rfl, hS]; rfl⟩⟩; done))


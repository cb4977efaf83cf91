/-- the first place that has it -/
def ffi (p : Nat → Bool) (F : Nat) : Nat → Int32
  | 0 => -1
  | k + 1 => if p (F - (k + 1)) then nI (F - (k + 1)) else ffi p F k
def plc (S : qS) (x : Int32) : Int32 := ffi (fun k => S.2.1 150 k == x) (cQ S) (cQ S)
set_option maxRecDepth 100000 in
set_option maxHeartbeats 4000000 in
theorem zX11_placeOf {C M : qC} {r : Nat × Nat × Nat} {S : qS} {a : Int32} (hS : pj M = S) (h1 : W1 S) : CT mX11_placeOf 0 0 0 [.ref 136, .int a] (wd C M r) (fun r' w' => w' = wd C M r ∧ r' = some (.int (plc S a))) := by
  have hq := h1.2.2.2.2.2.1
  refine eX11_placeOf (AW_gen (fun Q hQ => ?_))
  refine oX11_placeOf_0 _ _ _ _ _ _ ?_
  simp only [bX11_placeOf_0, qsem, qopt_s, qopt2_s, qev, qxs, Nat.reduceEqDiff, reduceIte, and_true, true_and, and_false, false_and, and_self, or_true, true_or, qb_or, reduceCtorEq, qbr_True, qbr_False, q10, q01, qwM]
  have loop : ∀ k i : Nat, cQ S = i + k → ffi (fun k => S.2.1 150 k == a) (cQ S) k = plc S a → AW (mX11_placeOf, 0, 0, 0, none, Q) 2 [some (.ref 136), some (.int a), some (.int (nI i))] [] (wd C M r) 0 0 := by
    intro k
    induction k with
    | zero =>
      intro i hi hf
      refine oX11_placeOf_2 _ _ _ _ _ _ ?_
      simp only [bX11_placeOf_2, qsem, qopt_s, qopt2_s, qev, qxs, Nat.reduceEqDiff, reduceIte, and_true, true_and, and_false, false_and, and_self, or_true, true_or, qb_or, reduceCtorEq, qbr_True, qbr_False, q10, q01, qwM, pjx hS, h1.1.2.2.2.2.1]
      refine qbr_t (nI_le (show cQ S ≤ i by omega) (by omega)) ?_
      refine oX11_placeOf_28 _ _ _ _ _ _ ?_
      simp only [bX11_placeOf_28, qsem, qopt_s, qopt2_s, qev, qxs, Nat.reduceEqDiff, reduceIte, and_true, true_and, and_false, false_and, and_self, or_true, true_or, qb_or, reduceCtorEq, qbr_True, qbr_False, q10, q01, qwM, pjx hS, h1.1.2.2.2.2.1]
      exact hQ _ _ ⟨rfl, ri hf⟩
    | succ k ih =>
      intro i hi hf
      have hij : cQ S - (k + 1) = i := by omega
      have hf2 : plc S a = if S.2.1 150 i = a then nI i else ffi (fun k => S.2.1 150 k == a) (cQ S) k := by rw [← hf]; simp only [ffi, hij, beq_iff_eq]
      refine oX11_placeOf_2 _ _ _ _ _ _ ?_
      simp only [bX11_placeOf_2, qsem, qopt_s, qopt2_s, qev, qxs, Nat.reduceEqDiff, reduceIte, and_true, true_and, and_false, false_and, and_self, or_true, true_or, qb_or, reduceCtorEq, qbr_True, qbr_False, q10, q01, qwM, pjx hS, h1.1.2.2.2.2.1, nIcl (show i < 1000 by omega)]
      refine qbr_f (nI_ge (by omega) (by omega)) ?_
      refine ⟨nI_vp (by omega) (by omega), ?_⟩
      refine qbr_i (fun c1 => ?_) (fun c1 => ?_)
      · exact hQ _ _ ⟨rfl, ri (by rw [hf2, if_pos c1])⟩
      · refine oX11_placeOf_22 _ _ _ _ _ _ ?_
        simp only [bX11_placeOf_22, qsem, qopt_s, qopt2_s, qev, qxs, Nat.reduceEqDiff, reduceIte, and_true, true_and, and_false, false_and, and_self, or_true, true_or, qb_or, reduceCtorEq, qbr_True, qbr_False, q10, q01, qwM, pjx hS, h1.1.2.2.2.2.1, nIcl (show i < 1000 by omega)]
        rw [nI_1]
        exact ih (i + 1) (by omega) (by rw [hf2, if_neg c1])
  exact loop (cQ S) 0 (by omega) rfl
def askS (S : qS) (a : Int32) : qS := sI (sA S 150 (upd (S.2.1 150) (cQ S) a)) 4 (S.1 4 + 1)
set_option maxRecDepth 100000 in
set_option maxHeartbeats 4000000 in
theorem zX11_ask {C M : qC} {r : Nat × Nat × Nat} {S : qS} {a : Int32} (hS : pj M = S) (h1 : W1 S) (hq : isF S a = true → plc S a = -1 → cQ S < 100) : CT mX11_ask 2 0 0 [.ref 136, .int a] (wd C M r) (fun r' w' => ∃ M', w' = wd C M' r ∧ ((¬ (isF S a = true ∧ plc S a = -1) ∧ r' = some (.int (-1)) ∧ pj M' = S) ∨ ((isF S a = true ∧ plc S a = -1) ∧ r' = some (.int (nI (cQ S))) ∧ pj M' = askS S a))) := by
  refine eX11_ask (AW_gen (fun Q hQ => ?_))
  refine oX11_ask_0 _ _ _ _ _ _ ?_
  simp only [bX11_ask_0, qsem, qopt_s, qopt2_s, qev, qxs, Nat.reduceEqDiff, reduceIte, and_true, true_and, and_false, false_and, and_self, or_true, true_or, qb_or, reduceCtorEq, qbr_True, qbr_False, q10, q01, qwM, pjx hS, h1.1.2.2.2.2.1, qb_0]
  refine kX11_ask_2 (zX11_isFile hS h1) rfl (Nat.le_of_ble_eq_true rfl) (Nat.le_of_ble_eq_true rfl) ⟨Nat.le_of_ble_eq_true rfl, Nat.le_of_ble_eq_true rfl⟩ ?_
  rintro _ _ ⟨rfl, rfl⟩
  refine oX11_ask_5 _ _ _ _ _ _ ?_
  simp only [bX11_ask_5, qsem, qopt_s, qopt2_s, qev, qxs, Nat.reduceEqDiff, reduceIte, and_true, true_and, and_false, false_and, and_self, or_true, true_or, qb_or, reduceCtorEq, qbr_True, qbr_False, q10, q01, qwM, pjx hS, h1.1.2.2.2.2.1, qb_0]
  refine qbr_i (fun c1 => ?_) (fun c1 => ?_)
  · refine oX11_ask_17 _ _ _ _ _ _ ?_
    simp only [bX11_ask_17, qsem, qopt_s, qopt2_s, qev, qxs, Nat.reduceEqDiff, reduceIte, and_true, true_and, and_false, false_and, and_self, or_true, true_or, qb_or, reduceCtorEq, qbr_True, qbr_False, q10, q01, qwM, pjx hS, h1.1.2.2.2.2.1, qb_0]
    (first | (exact hQ _ _ ⟨M, rfl, Or.inl ⟨by simp_all, rfl, hS⟩⟩; done) | (have hlt := hq (by simpa using c1) c2; exact hQ _ _ ⟨_, rfl, Or.inr ⟨⟨by simpa using c1, c2⟩, ri (by rw [nI_1]; exact pk_sub (b := 1) (by omega)), by rw [pj_wI rfl, pj_wA rfl, hS, nIcl (show cQ S < 1000 by omega)]; unfold askS; rw [h1.1.2.2.2.2.1]⟩⟩; done))
  · refine kX11_ask_10 (zX11_placeOf hS h1) rfl (Nat.le_of_ble_eq_true rfl) (Nat.le_of_ble_eq_true rfl) ⟨Nat.le_of_ble_eq_true rfl, Nat.le_of_ble_eq_true rfl⟩ ?_
    rintro _ _ ⟨rfl, rfl⟩
    refine oX11_ask_13 _ _ _ _ _ _ ?_
    simp only [bX11_ask_13, qsem, qopt_s, qopt2_s, qev, qxs, Nat.reduceEqDiff, reduceIte, and_true, true_and, and_false, false_and, and_self, or_true, true_or, qb_or, reduceCtorEq, qbr_True, qbr_False, q10, q01, qwM, pjx hS, h1.1.2.2.2.2.1, qb_0]
    refine qbr_i (fun c2 => ?_) (fun c2 => ?_)
    · refine oX11_ask_19 _ _ _ _ _ _ ?_
      simp only [bX11_ask_19, qsem, qopt_s, qopt2_s, qev, qxs, Nat.reduceEqDiff, reduceIte, and_true, true_and, and_false, false_and, and_self, or_true, true_or, qb_or, reduceCtorEq, qbr_True, qbr_False, q10, q01, qwM, pjx hS, h1.1.2.2.2.2.1, qb_0]
      refine ⟨nI_vp (hq (by simpa using c1) c2) (by omega), ?_⟩
      (first | (exact hQ _ _ ⟨M, rfl, Or.inl ⟨by simp_all, rfl, hS⟩⟩; done) | (have hlt := hq (by simpa using c1) c2; exact hQ _ _ ⟨_, rfl, Or.inr ⟨⟨by simpa using c1, c2⟩, ri (by rw [nI_1]; exact pk_sub (b := 1) (by omega)), by rw [pj_wI rfl, pj_wA rfl, hS, nIcl (show cQ S < 1000 by omega)]; unfold askS; rw [h1.1.2.2.2.2.1]⟩⟩; done))
    · refine oX11_ask_17 _ _ _ _ _ _ ?_
      simp only [bX11_ask_17, qsem, qopt_s, qopt2_s, qev, qxs, Nat.reduceEqDiff, reduceIte, and_true, true_and, and_false, false_and, and_self, or_true, true_or, qb_or, reduceCtorEq, qbr_True, qbr_False, q10, q01, qwM, pjx hS, h1.1.2.2.2.2.1, qb_0]
      (first | (exact hQ _ _ ⟨M, rfl, Or.inl ⟨by simp_all, rfl, hS⟩⟩; done) | (have hlt := hq (by simpa using c1) c2; exact hQ _ _ ⟨_, rfl, Or.inr ⟨⟨by simpa using c1, c2⟩, ri (by rw [nI_1]; exact pk_sub (b := 1) (by omega)), by rw [pj_wI rfl, pj_wA rfl, hS, nIcl (show cQ S < 1000 by omega)]; unfold askS; rw [h1.1.2.2.2.2.1]⟩⟩; done))
def shf (q : Nat → Int32) (n : Nat) : Nat → Int32 := fun k => if k < n then q (k + 1) else q k
def skpS (S : qS) : qS := sI (sA S 150 (shf (S.2.1 150) (cQ S - 1))) 4 (nI (cQ S - 1))
set_option maxRecDepth 100000 in
set_option maxHeartbeats 4000000 in
theorem zX11_skip {C M : qC} {r : Nat × Nat × Nat} {S : qS} (hS : pj M = S) (h1 : W1 S) : CT mX11_skip 0 0 0 [.ref 136] (wd C M r) (fun r' w' => ∃ M', w' = wd C M' r ∧ ((cQ S = 0 ∧ r' = some (.int (-1)) ∧ pj M' = S) ∨ (¬ cQ S = 0 ∧ r' = some (.int (S.2.1 150 0)) ∧ pj M' = skpS S))) := by
  have hq := h1.2.2.2.2.2.1
  refine eX11_skip (AW_gen (fun Q hQ => ?_))
  by_cases h0 : cQ S = 0
  · refine oX11_skip_0 _ _ _ _ _ _ ?_
    simp only [bX11_skip_0, qsem, qopt_s, qopt2_s, qev, qxs, Nat.reduceEqDiff, reduceIte, and_true, true_and, and_false, false_and, and_self, or_true, true_or, qb_or, reduceCtorEq, qbr_True, qbr_False, q10, q01, qwM, pjx hS, h1.1.2.2.2.2.1, h0]
    refine qbr_t (rfl) ?_
    exact hQ _ _ ⟨M, rfl, Or.inl ⟨h0, rfl, hS⟩⟩
  · have loop : ∀ (j i : Nat) (M : qC), i + j = cQ S - 1 → pj M = sI (sA S 150 (shf (S.2.1 150) i)) 4 (nI (cQ S - 1)) → AW (mX11_skip, 0, 0, 0, none, Q) 28 [some (.ref 136), some (.int (S.2.1 150 0)), some (.int (nI i))] [] (wd C M r) 0 0 := by
      intro j
      induction j with
      | zero =>
        intro i M hi hM
        obtain rfl : i = cQ S - 1 := by omega
        have e4 : xI M 136 4 = nI (cQ S - 1) := by rw [(pjx hM).2.2.2.2.1]; rfl
        refine oX11_skip_28 _ _ _ _ _ _ ?_
        simp only [bX11_skip_28, qsem, qopt_s, qopt2_s, qev, qxs, Nat.reduceEqDiff, reduceIte, and_true, true_and, and_false, false_and, and_self, or_true, true_or, qb_or, reduceCtorEq, qbr_True, qbr_False, q10, q01, qwM, e4]
        refine qbr_t ((Int32.le_refl _)) ?_
        refine oX11_skip_56 _ _ _ _ _ _ ?_
        simp only [bX11_skip_56, qsem, qopt_s, qopt2_s, qev, qxs, Nat.reduceEqDiff, reduceIte, and_true, true_and, and_false, false_and, and_self, or_true, true_or, qb_or, reduceCtorEq, qbr_True, qbr_False, q10, q01, qwM, e4]
        exact hQ _ _ ⟨M, rfl, Or.inr ⟨h0, rfl, hM⟩⟩
      | succ j ih =>
        intro i M hi hM
        have e4 : xI M 136 4 = nI (cQ S - 1) := by rw [(pjx hM).2.2.2.2.1]; rfl
        have e5 : xA M 150 = shf (S.2.1 150) i := by
          have := pjx hM
          rw [this.2.2.2.2.2.2.2.2.2.2.2.2.2.2.2.2.2.2.2.2.1]; rfl
        have e6 : upd (shf (S.2.1 150) i) i (shf (S.2.1 150) i (i + 1)) = shf (S.2.1 150) (i + 1) := by
          funext k
          unfold upd shf
          by_cases hk : k = i
          · subst hk; rw [if_pos rfl, if_neg (by omega), if_pos (by omega)]
          · rw [if_neg hk]
            by_cases hk2 : k < i
            · rw [if_pos hk2, if_pos (by omega)]
            · rw [if_neg hk2, if_neg (by omega)]
        refine oX11_skip_28 _ _ _ _ _ _ ?_
        simp only [bX11_skip_28, qsem, qopt_s, qopt2_s, qev, qxs, Nat.reduceEqDiff, reduceIte, and_true, true_and, and_false, false_and, and_self, or_true, true_or, qb_or, reduceCtorEq, qbr_True, qbr_False, q10, q01, qwM, e4, e5, nI_1, nIcl (show i < 1000 by omega), nIcl (show i + 1 < 1000 by omega), e6]
        refine qbr_f (nI_ge (by omega) (by omega)) ?_
        refine ⟨nI_vp (by omega) (by omega), ?_⟩
        refine ⟨nI_vp (by omega) (by omega), ?_⟩
        refine ih (i + 1) _ (by omega) ?_
        rw [pj_wA rfl, hM]
        refine Prod.ext rfl (Prod.ext ?_ rfl)
        funext q
        by_cases hq : q = 150
        · subst hq; rfl
        · simp only [ss, if_neg hq]
    have es : nI (cQ S) - 1 = nI (cQ S - 1) := pk_sub (b := 1) (by omega)
    have e00 : shf (S.2.1 150) 0 = S.2.1 150 := by funext k; simp [shf]
    refine oX11_skip_0 _ _ _ _ _ _ ?_
    simp only [bX11_skip_0, qsem, qopt_s, qopt2_s, qev, qxs, Nat.reduceEqDiff, reduceIte, and_true, true_and, and_false, false_and, and_self, or_true, true_or, qb_or, reduceCtorEq, qbr_True, qbr_False, q10, q01, qwM, pjx hS, h1.1.2.2.2.2.1, es, cl0]
    refine qbr_f (nI_ne0 (by omega) (by omega)) ?_
    refine oX11_skip_9 _ _ _ _ _ _ ?_
    simp only [bX11_skip_9, qsem, qopt_s, qopt2_s, qev, qxs, Nat.reduceEqDiff, reduceIte, and_true, true_and, and_false, false_and, and_self, or_true, true_or, qb_or, reduceCtorEq, qbr_True, qbr_False, q10, q01, qwM, pjx hS, h1.1.2.2.2.2.1, es, cl0]
    refine ⟨nI_vp (i := 0) (by omega) (by omega), ?_⟩
    refine loop (cQ S - 1) 0 _ (by omega) ?_
    rw [pj_wI rfl, hS, e00]
    refine Prod.ext rfl (Prod.ext ?_ rfl)
    funext q
    by_cases hq : q = 150
    · subst hq; rfl
    · simp only [ss, if_neg hq]
/-- the seals -/
def W4 (S : qS) : Prop := ∀ s, s < cS S → (S.2.1 149 s = nI (sln S s) ∧ sln S s < cN S) ∧ ∃ k, k < 4 ∧ S.2.1 147 (sln S s) = nI k
def std (S : qS) (s : Nat) : Prop := (S.2.1 153 (S.2.1 147 (sln S s)).toNatClampNeg = -1 ∨ nI (sln S s) < S.2.1 153 (S.2.1 147 (sln S s)).toNatClampNeg) ∧ ¬ cal S (ofN S (sln S s))
set_option maxRecDepth 100000 in
set_option maxHeartbeats 4000000 in
theorem zX11_stands {C M : qC} {r : Nat × Nat × Nat} {S : qS} {s : Nat} (hS : pj M = S) (h1 : W1 S) (h2 : W2 S) (h4 : W4 S) (h5 : W5 S) (hs : s < cS S) : CT mX11_stands 4 0 0 [.ref 136, .int (nI s)] (wd C M r) (fun r' w' => ∃ M' b, w' = wd C M' r ∧ pj M' = S ∧ r' = some (.int (qb b)) ∧ (b = true ↔ std S s)) := by
  have hN := h1.2.1
  have hcs := h1.2.2.2.2.2.2.1
  obtain ⟨⟨e1, l1⟩, k, hk, ek⟩ := h4 s hs
  obtain ⟨-, ⟨eo, lo⟩, -, -⟩ := h2 _ l1
  have ecl : (S.2.1 147 (sln S s)).toNatClampNeg = k := by rw [ek, nIcl (by omega)]
  have hstd : std S s ↔ (S.2.1 153 k = -1 ∨ nI (sln S s) < S.2.1 153 k) ∧ ¬ cal S (ofN S (sln S s)) := by unfold std; rw [ecl]
  refine eX11_stands (AW_gen (fun Q hQ => ?_))
  refine oX11_stands_0 _ _ _ _ _ _ ?_
  simp only [bX11_stands_0, qsem, qopt_s, qopt2_s, qev, qxs, Nat.reduceEqDiff, reduceIte, and_true, true_and, and_false, false_and, and_self, or_true, true_or, qb_or, reduceCtorEq, qbr_True, qbr_False, q10, q01, qwM, pjx hS, nIcl (show s < 1000 by omega), e1, nIcl (show sln S s < 1000 by omega), ek, nIcl (show k < 1000 by omega), eo, qb_0]
  refine ⟨nI_vp (by omega) (by omega), ?_⟩
  refine ⟨nI_vp (by omega) (by omega), ?_⟩
  refine ⟨nI_vp (by omega) (by omega), ?_⟩
  refine qbr_i (fun c1 => ?_) (fun c1 => ?_)
  · refine oX11_stands_29 _ _ _ _ _ _ ?_
    simp only [bX11_stands_29, qsem, qopt_s, qopt2_s, qev, qxs, Nat.reduceEqDiff, reduceIte, and_true, true_and, and_false, false_and, and_self, or_true, true_or, qb_or, reduceCtorEq, qbr_True, qbr_False, q10, q01, qwM, pjx hS, nIcl (show s < 1000 by omega), e1, nIcl (show sln S s < 1000 by omega), ek, nIcl (show k < 1000 by omega), eo, qb_0]
    refine ⟨nI_vp (by omega) (by omega), ?_⟩
    refine kX11_stands_36 (zX11_isCalled hS h1 h2 h5 lo) rfl (Nat.le_of_ble_eq_true rfl) (Nat.le_of_ble_eq_true rfl) ⟨Nat.le_of_ble_eq_true rfl, Nat.le_of_ble_eq_true rfl⟩ ?_
    rintro _ _ ⟨M1, b1, rfl, hS1, rfl, hb1⟩
    refine oX11_stands_39 _ _ _ _ _ _ ?_
    simp only [bX11_stands_39, qsem, qopt_s, qopt2_s, qev, qxs, Nat.reduceEqDiff, reduceIte, and_true, true_and, and_false, false_and, and_self, or_true, true_or, qb_or, reduceCtorEq, qbr_True, qbr_False, q10, q01, qwM, pjx hS, nIcl (show s < 1000 by omega), e1, nIcl (show sln S s < 1000 by omega), ek, nIcl (show k < 1000 by omega), eo, qb_0]
    refine qbr_i (fun c2 => ?_) (fun c2 => ?_)
    · refine oX11_stands_47 _ _ _ _ _ _ ?_
      simp only [bX11_stands_47, qsem, qopt_s, qopt2_s, qev, qxs, Nat.reduceEqDiff, reduceIte, and_true, true_and, and_false, false_and, and_self, or_true, true_or, qb_or, reduceCtorEq, qbr_True, qbr_False, q10, q01, qwM, pjx hS, nIcl (show s < 1000 by omega), e1, nIcl (show sln S s < 1000 by omega), ek, nIcl (show k < 1000 by omega), eo, qb_0]
      (first | (exact hQ _ _ ⟨M1, true, rfl, hS1, rfl, ⟨fun _ => hstd.mpr ⟨Or.inl c1, fun q => by have := hb1.mpr q; simp_all⟩, fun _ => rfl⟩⟩; done) | (exact hQ _ _ ⟨M1, true, rfl, hS1, rfl, ⟨fun _ => hstd.mpr ⟨Or.inr (Int32.not_le.mp c2), fun q => by have := hb1.mpr q; simp_all⟩, fun _ => rfl⟩⟩; done) | (exact hQ _ _ ⟨M1, false, rfl, hS1, rfl, ⟨fun h => absurd h (by simp), fun q => absurd (hb1.mp (by simp_all)) (hstd.mp q).2⟩⟩; done) | (exact hQ _ _ ⟨M, false, rfl, hS, rfl, ⟨fun h => absurd h (by simp), fun q => by rcases (hstd.mp q).1 with e | e; exact absurd e c1; exact absurd c2 (Int32.not_le.mpr e)⟩⟩; done))
    · refine oX11_stands_46 _ _ _ _ _ _ ?_
      simp only [bX11_stands_46, qsem, qopt_s, qopt2_s, qev, qxs, Nat.reduceEqDiff, reduceIte, and_true, true_and, and_false, false_and, and_self, or_true, true_or, qb_or, reduceCtorEq, qbr_True, qbr_False, q10, q01, qwM, pjx hS, nIcl (show s < 1000 by omega), e1, nIcl (show sln S s < 1000 by omega), ek, nIcl (show k < 1000 by omega), eo, qb_0]
      refine oX11_stands_47 _ _ _ _ _ _ ?_
      simp only [bX11_stands_47, qsem, qopt_s, qopt2_s, qev, qxs, Nat.reduceEqDiff, reduceIte, and_true, true_and, and_false, false_and, and_self, or_true, true_or, qb_or, reduceCtorEq, qbr_True, qbr_False, q10, q01, qwM, pjx hS, nIcl (show s < 1000 by omega), e1, nIcl (show sln S s < 1000 by omega), ek, nIcl (show k < 1000 by omega), eo, qb_0]
      (first | (exact hQ _ _ ⟨M1, true, rfl, hS1, rfl, ⟨fun _ => hstd.mpr ⟨Or.inl c1, fun q => by have := hb1.mpr q; simp_all⟩, fun _ => rfl⟩⟩; done) | (exact hQ _ _ ⟨M1, true, rfl, hS1, rfl, ⟨fun _ => hstd.mpr ⟨Or.inr (Int32.not_le.mp c2), fun q => by have := hb1.mpr q; simp_all⟩, fun _ => rfl⟩⟩; done) | (exact hQ _ _ ⟨M1, false, rfl, hS1, rfl, ⟨fun h => absurd h (by simp), fun q => absurd (hb1.mp (by simp_all)) (hstd.mp q).2⟩⟩; done) | (exact hQ _ _ ⟨M, false, rfl, hS, rfl, ⟨fun h => absurd h (by simp), fun q => by rcases (hstd.mp q).1 with e | e; exact absurd e c1; exact absurd c2 (Int32.not_le.mpr e)⟩⟩; done))
  · refine qbr_i (fun c2 => ?_) (fun c2 => ?_)
    · refine oX11_stands_46 _ _ _ _ _ _ ?_
      simp only [bX11_stands_46, qsem, qopt_s, qopt2_s, qev, qxs, Nat.reduceEqDiff, reduceIte, and_true, true_and, and_false, false_and, and_self, or_true, true_or, qb_or, reduceCtorEq, qbr_True, qbr_False, q10, q01, qwM, pjx hS, nIcl (show s < 1000 by omega), e1, nIcl (show sln S s < 1000 by omega), ek, nIcl (show k < 1000 by omega), eo, qb_0]
      refine oX11_stands_47 _ _ _ _ _ _ ?_
      simp only [bX11_stands_47, qsem, qopt_s, qopt2_s, qev, qxs, Nat.reduceEqDiff, reduceIte, and_true, true_and, and_false, false_and, and_self, or_true, true_or, qb_or, reduceCtorEq, qbr_True, qbr_False, q10, q01, qwM, pjx hS, nIcl (show s < 1000 by omega), e1, nIcl (show sln S s < 1000 by omega), ek, nIcl (show k < 1000 by omega), eo, qb_0]
      (first | (exact hQ _ _ ⟨M1, true, rfl, hS1, rfl, ⟨fun _ => hstd.mpr ⟨Or.inl c1, fun q => by have := hb1.mpr q; simp_all⟩, fun _ => rfl⟩⟩; done) | (exact hQ _ _ ⟨M1, true, rfl, hS1, rfl, ⟨fun _ => hstd.mpr ⟨Or.inr (Int32.not_le.mp c2), fun q => by have := hb1.mpr q; simp_all⟩, fun _ => rfl⟩⟩; done) | (exact hQ _ _ ⟨M1, false, rfl, hS1, rfl, ⟨fun h => absurd h (by simp), fun q => absurd (hb1.mp (by simp_all)) (hstd.mp q).2⟩⟩; done) | (exact hQ _ _ ⟨M, false, rfl, hS, rfl, ⟨fun h => absurd h (by simp), fun q => by rcases (hstd.mp q).1 with e | e; exact absurd e c1; exact absurd c2 (Int32.not_le.mpr e)⟩⟩; done))
    · refine oX11_stands_29 _ _ _ _ _ _ ?_
      simp only [bX11_stands_29, qsem, qopt_s, qopt2_s, qev, qxs, Nat.reduceEqDiff, reduceIte, and_true, true_and, and_false, false_and, and_self, or_true, true_or, qb_or, reduceCtorEq, qbr_True, qbr_False, q10, q01, qwM, pjx hS, nIcl (show s < 1000 by omega), e1, nIcl (show sln S s < 1000 by omega), ek, nIcl (show k < 1000 by omega), eo, qb_0]
      refine ⟨nI_vp (by omega) (by omega), ?_⟩
      refine kX11_stands_36 (zX11_isCalled hS h1 h2 h5 lo) rfl (Nat.le_of_ble_eq_true rfl) (Nat.le_of_ble_eq_true rfl) ⟨Nat.le_of_ble_eq_true rfl, Nat.le_of_ble_eq_true rfl⟩ ?_
      rintro _ _ ⟨M1, b1, rfl, hS1, rfl, hb1⟩
      refine oX11_stands_39 _ _ _ _ _ _ ?_
      simp only [bX11_stands_39, qsem, qopt_s, qopt2_s, qev, qxs, Nat.reduceEqDiff, reduceIte, and_true, true_and, and_false, false_and, and_self, or_true, true_or, qb_or, reduceCtorEq, qbr_True, qbr_False, q10, q01, qwM, pjx hS, nIcl (show s < 1000 by omega), e1, nIcl (show sln S s < 1000 by omega), ek, nIcl (show k < 1000 by omega), eo, qb_0]
      refine qbr_i (fun c3 => ?_) (fun c3 => ?_)
      · refine oX11_stands_47 _ _ _ _ _ _ ?_
        simp only [bX11_stands_47, qsem, qopt_s, qopt2_s, qev, qxs, Nat.reduceEqDiff, reduceIte, and_true, true_and, and_false, false_and, and_self, or_true, true_or, qb_or, reduceCtorEq, qbr_True, qbr_False, q10, q01, qwM, pjx hS, nIcl (show s < 1000 by omega), e1, nIcl (show sln S s < 1000 by omega), ek, nIcl (show k < 1000 by omega), eo, qb_0]
        (first | (exact hQ _ _ ⟨M1, true, rfl, hS1, rfl, ⟨fun _ => hstd.mpr ⟨Or.inl c1, fun q => by have := hb1.mpr q; simp_all⟩, fun _ => rfl⟩⟩; done) | (exact hQ _ _ ⟨M1, true, rfl, hS1, rfl, ⟨fun _ => hstd.mpr ⟨Or.inr (Int32.not_le.mp c2), fun q => by have := hb1.mpr q; simp_all⟩, fun _ => rfl⟩⟩; done) | (exact hQ _ _ ⟨M1, false, rfl, hS1, rfl, ⟨fun h => absurd h (by simp), fun q => absurd (hb1.mp (by simp_all)) (hstd.mp q).2⟩⟩; done) | (exact hQ _ _ ⟨M, false, rfl, hS, rfl, ⟨fun h => absurd h (by simp), fun q => by rcases (hstd.mp q).1 with e | e; exact absurd e c1; exact absurd c2 (Int32.not_le.mpr e)⟩⟩; done))
      · refine oX11_stands_46 _ _ _ _ _ _ ?_
        simp only [bX11_stands_46, qsem, qopt_s, qopt2_s, qev, qxs, Nat.reduceEqDiff, reduceIte, and_true, true_and, and_false, false_and, and_self, or_true, true_or, qb_or, reduceCtorEq, qbr_True, qbr_False, q10, q01, qwM, pjx hS, nIcl (show s < 1000 by omega), e1, nIcl (show sln S s < 1000 by omega), ek, nIcl (show k < 1000 by omega), eo, qb_0]
        refine oX11_stands_47 _ _ _ _ _ _ ?_
        simp only [bX11_stands_47, qsem, qopt_s, qopt2_s, qev, qxs, Nat.reduceEqDiff, reduceIte, and_true, true_and, and_false, false_and, and_self, or_true, true_or, qb_or, reduceCtorEq, qbr_True, qbr_False, q10, q01, qwM, pjx hS, nIcl (show s < 1000 by omega), e1, nIcl (show sln S s < 1000 by omega), ek, nIcl (show k < 1000 by omega), eo, qb_0]
        (first | (exact hQ _ _ ⟨M1, true, rfl, hS1, rfl, ⟨fun _ => hstd.mpr ⟨Or.inl c1, fun q => by have := hb1.mpr q; simp_all⟩, fun _ => rfl⟩⟩; done) | (exact hQ _ _ ⟨M1, true, rfl, hS1, rfl, ⟨fun _ => hstd.mpr ⟨Or.inr (Int32.not_le.mp c2), fun q => by have := hb1.mpr q; simp_all⟩, fun _ => rfl⟩⟩; done) | (exact hQ _ _ ⟨M1, false, rfl, hS1, rfl, ⟨fun h => absurd h (by simp), fun q => absurd (hb1.mp (by simp_all)) (hstd.mp q).2⟩⟩; done) | (exact hQ _ _ ⟨M, false, rfl, hS, rfl, ⟨fun h => absurd h (by simp), fun q => by rcases (hstd.mp q).1 with e | e; exact absurd e c1; exact absurd c2 (Int32.not_le.mpr e)⟩⟩; done))


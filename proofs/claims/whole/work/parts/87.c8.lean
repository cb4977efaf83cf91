def fB12 (C : qC) (i : Nat) : Prop := fB C 12 i = true
set_option maxRecDepth 100000 in
set_option maxHeartbeats 4000000 in
theorem zX7_addClean {C M : qC} {r : Nat × Nat × Nat} {S : qS} {n : Nat} (h1 : W1 S) (h2 : W2 S) (hI : iN C S) (hF : iF C S) (hn : n < cN S) : CT mX7_addClean 3 0 0 [.ref 5, .ref 1, .int (nI n)] (wd C M r) (fun r' w' => ∃ C' b, r' = some (.int (qb b)) ∧ w' = wd C' M r ∧ ((b = false ∧ C' = C ∧ (grd S (fB12 C) n → fB12 C (ofN S n))) ∨ (b = true ∧ fB C 12 (ofN S n) = false ∧ grd S (fB12 C) n ∧ fsU C 12 (fun j => fB C 12 j || decide (j = ofN S n)) C'))) := by
  have hF1 := h1.2.2.1
  have hN := h1.2.1
  obtain ⟨-, ⟨eo, lo⟩, -, -⟩ := h2 n hn
  have c1' := zX8_cN (C := C) (M := M) (r := r) 1 h1 hI hn (by omega)
  rw [show ntV S n 1 = nI (ofN S n) from eo] at c1'
  have cc := zX7_isClean (C := C) (M := M) (r := r) (a := nI (ofN S n))
  rw [inNi (show ofN S n < 100 by omega) (by omega), Bool.true_and, nIcl (show ofN S n < 1000 by omega)] at cc
  have hg := zX7_isGround (M := M) (r := r) h1 h2 hI hn
  refine eX7_addClean (AW_gen (fun Q hQ => ?_))
  by_cases hc : fB C 12 (ofN S n) = true
  · rw [hc] at cc
    refine oX7_addClean_0 _ _ _ _ _ _ ?_
    simp only [bX7_addClean_0, qsem, qopt_s, qopt2_s, qev, qxs, Nat.reduceEqDiff, reduceIte, and_true, true_and, and_false, false_and, and_self, or_true, true_or, qb_or, reduceCtorEq, qbr_True, qbr_False, q10, q01, qwC, isF_nI h1 lo, qb_t]
    refine kX7_addClean_3 (c1') (rfl) (Nat.le_of_ble_eq_true rfl) (Nat.le_of_ble_eq_true rfl) ⟨Nat.le_of_ble_eq_true rfl, Nat.le_of_ble_eq_true rfl⟩ ?_
    rintro _ _ ⟨rfl, rfl⟩
    refine oX7_addClean_6 _ _ _ _ _ _ ?_
    simp only [bX7_addClean_6, qsem, qopt_s, qopt2_s, qev, qxs, Nat.reduceEqDiff, reduceIte, and_true, true_and, and_false, false_and, and_self, or_true, true_or, qb_or, reduceCtorEq, qbr_True, qbr_False, q10, q01, qwC, isF_nI h1 lo, qb_t]
    refine kX7_addClean_9 (zX7_has h1 hF) (rfl) (Nat.le_of_ble_eq_true rfl) (Nat.le_of_ble_eq_true rfl) ⟨Nat.le_of_ble_eq_true rfl, Nat.le_of_ble_eq_true rfl⟩ ?_
    rintro _ _ ⟨rfl, rfl⟩
    refine oX7_addClean_12 _ _ _ _ _ _ ?_
    simp only [bX7_addClean_12, qsem, qopt_s, qopt2_s, qev, qxs, Nat.reduceEqDiff, reduceIte, and_true, true_and, and_false, false_and, and_self, or_true, true_or, qb_or, reduceCtorEq, qbr_True, qbr_False, q10, q01, qwC, isF_nI h1 lo, qb_t]
    refine kX7_addClean_17 (cc) (rfl) (Nat.le_of_ble_eq_true rfl) (Nat.le_of_ble_eq_true rfl) ⟨Nat.le_of_ble_eq_true rfl, Nat.le_of_ble_eq_true rfl⟩ ?_
    rintro _ _ ⟨rfl, rfl⟩
    refine oX7_addClean_20 _ _ _ _ _ _ ?_
    simp only [bX7_addClean_20, qsem, qopt_s, qopt2_s, qev, qxs, Nat.reduceEqDiff, reduceIte, and_true, true_and, and_false, false_and, and_self, or_true, true_or, qb_or, reduceCtorEq, qbr_True, qbr_False, q10, q01, qwC, isF_nI h1 lo, qb_t]
    refine oX7_addClean_32 _ _ _ _ _ _ ?_
    simp only [bX7_addClean_32, qsem, qopt_s, qopt2_s, qev, qxs, Nat.reduceEqDiff, reduceIte, and_true, true_and, and_false, false_and, and_self, or_true, true_or, qb_or, reduceCtorEq, qbr_True, qbr_False, q10, q01, qwC, isF_nI h1 lo, qb_t]
    exact hQ _ _ ⟨C, false, rfl, rfl, Or.inl ⟨rfl, rfl, fun _ => hc⟩⟩
  · have hc : fB C 12 (ofN S n) = false := (Bool.not_eq_true _).mp hc
    rw [hc] at cc
    by_cases hgr : grd S (fun i => fB C 12 i = true) n
    · rw [dc_iff.mpr hgr] at hg
      refine oX7_addClean_0 _ _ _ _ _ _ ?_
      simp only [bX7_addClean_0, qsem, qopt_s, qopt2_s, qev, qxs, Nat.reduceEqDiff, reduceIte, and_true, true_and, and_false, false_and, and_self, or_true, true_or, qb_or, reduceCtorEq, qbr_True, qbr_False, q10, q01, qwC, isF_nI h1 lo, qb_t, qb_f]
      refine kX7_addClean_3 (c1') (rfl) (Nat.le_of_ble_eq_true rfl) (Nat.le_of_ble_eq_true rfl) ⟨Nat.le_of_ble_eq_true rfl, Nat.le_of_ble_eq_true rfl⟩ ?_
      rintro _ _ ⟨rfl, rfl⟩
      refine oX7_addClean_6 _ _ _ _ _ _ ?_
      simp only [bX7_addClean_6, qsem, qopt_s, qopt2_s, qev, qxs, Nat.reduceEqDiff, reduceIte, and_true, true_and, and_false, false_and, and_self, or_true, true_or, qb_or, reduceCtorEq, qbr_True, qbr_False, q10, q01, qwC, isF_nI h1 lo, qb_t, qb_f]
      refine kX7_addClean_9 (zX7_has h1 hF) (rfl) (Nat.le_of_ble_eq_true rfl) (Nat.le_of_ble_eq_true rfl) ⟨Nat.le_of_ble_eq_true rfl, Nat.le_of_ble_eq_true rfl⟩ ?_
      rintro _ _ ⟨rfl, rfl⟩
      refine oX7_addClean_12 _ _ _ _ _ _ ?_
      simp only [bX7_addClean_12, qsem, qopt_s, qopt2_s, qev, qxs, Nat.reduceEqDiff, reduceIte, and_true, true_and, and_false, false_and, and_self, or_true, true_or, qb_or, reduceCtorEq, qbr_True, qbr_False, q10, q01, qwC, isF_nI h1 lo, qb_t, qb_f]
      refine kX7_addClean_17 (cc) (rfl) (Nat.le_of_ble_eq_true rfl) (Nat.le_of_ble_eq_true rfl) ⟨Nat.le_of_ble_eq_true rfl, Nat.le_of_ble_eq_true rfl⟩ ?_
      rintro _ _ ⟨rfl, rfl⟩
      refine oX7_addClean_20 _ _ _ _ _ _ ?_
      simp only [bX7_addClean_20, qsem, qopt_s, qopt2_s, qev, qxs, Nat.reduceEqDiff, reduceIte, and_true, true_and, and_false, false_and, and_self, or_true, true_or, qb_or, reduceCtorEq, qbr_True, qbr_False, q10, q01, qwC, isF_nI h1 lo, qb_t, qb_f]
      refine kX7_addClean_26 (hg) (rfl) (Nat.le_of_ble_eq_true rfl) (Nat.le_of_ble_eq_true rfl) ⟨Nat.le_of_ble_eq_true rfl, Nat.le_of_ble_eq_true rfl⟩ ?_
      rintro _ _ ⟨rfl, rfl⟩
      refine oX7_addClean_29 _ _ _ _ _ _ ?_
      simp only [bX7_addClean_29, qsem, qopt_s, qopt2_s, qev, qxs, Nat.reduceEqDiff, reduceIte, and_true, true_and, and_false, false_and, and_self, or_true, true_or, qb_or, reduceCtorEq, qbr_True, qbr_False, q10, q01, qwC, isF_nI h1 lo, qb_t, qb_f]
      refine oX7_addClean_34 _ _ _ _ _ _ ?_
      simp only [bX7_addClean_34, qsem, qopt_s, qopt2_s, qev, qxs, Nat.reduceEqDiff, reduceIte, and_true, true_and, and_false, false_and, and_self, or_true, true_or, qb_or, reduceCtorEq, qbr_True, qbr_False, q10, q01, qwC, isF_nI h1 lo, qb_t, qb_f]
      refine kX7_addClean_39 (zX0_add p12 (show ofN S n < 100 by omega)) (rfl) (Nat.le_of_ble_eq_true rfl) (Nat.le_of_ble_eq_true rfl) ⟨Nat.le_of_ble_eq_true rfl, Nat.le_of_ble_eq_true rfl⟩ ?_
      rintro _ _ ⟨C', rfl, rfl, hU⟩
      refine oX7_addClean_42 _ _ _ _ _ _ ?_
      simp only [bX7_addClean_42, qsem, qopt_s, qopt2_s, qev, qxs, Nat.reduceEqDiff, reduceIte, and_true, true_and, and_false, false_and, and_self, or_true, true_or, qb_or, reduceCtorEq, qbr_True, qbr_False, q10, q01, qwC, isF_nI h1 lo, qb_t, qb_f]
      exact hQ _ _ ⟨C', true, rfl, rfl, Or.inr ⟨rfl, hc, hgr, hU⟩⟩
    · rw [dcf hgr] at hg
      refine oX7_addClean_0 _ _ _ _ _ _ ?_
      simp only [bX7_addClean_0, qsem, qopt_s, qopt2_s, qev, qxs, Nat.reduceEqDiff, reduceIte, and_true, true_and, and_false, false_and, and_self, or_true, true_or, qb_or, reduceCtorEq, qbr_True, qbr_False, q10, q01, qwC, isF_nI h1 lo, qb_t, qb_f]
      refine kX7_addClean_3 (c1') (rfl) (Nat.le_of_ble_eq_true rfl) (Nat.le_of_ble_eq_true rfl) ⟨Nat.le_of_ble_eq_true rfl, Nat.le_of_ble_eq_true rfl⟩ ?_
      rintro _ _ ⟨rfl, rfl⟩
      refine oX7_addClean_6 _ _ _ _ _ _ ?_
      simp only [bX7_addClean_6, qsem, qopt_s, qopt2_s, qev, qxs, Nat.reduceEqDiff, reduceIte, and_true, true_and, and_false, false_and, and_self, or_true, true_or, qb_or, reduceCtorEq, qbr_True, qbr_False, q10, q01, qwC, isF_nI h1 lo, qb_t, qb_f]
      refine kX7_addClean_9 (zX7_has h1 hF) (rfl) (Nat.le_of_ble_eq_true rfl) (Nat.le_of_ble_eq_true rfl) ⟨Nat.le_of_ble_eq_true rfl, Nat.le_of_ble_eq_true rfl⟩ ?_
      rintro _ _ ⟨rfl, rfl⟩
      refine oX7_addClean_12 _ _ _ _ _ _ ?_
      simp only [bX7_addClean_12, qsem, qopt_s, qopt2_s, qev, qxs, Nat.reduceEqDiff, reduceIte, and_true, true_and, and_false, false_and, and_self, or_true, true_or, qb_or, reduceCtorEq, qbr_True, qbr_False, q10, q01, qwC, isF_nI h1 lo, qb_t, qb_f]
      refine kX7_addClean_17 (cc) (rfl) (Nat.le_of_ble_eq_true rfl) (Nat.le_of_ble_eq_true rfl) ⟨Nat.le_of_ble_eq_true rfl, Nat.le_of_ble_eq_true rfl⟩ ?_
      rintro _ _ ⟨rfl, rfl⟩
      refine oX7_addClean_20 _ _ _ _ _ _ ?_
      simp only [bX7_addClean_20, qsem, qopt_s, qopt2_s, qev, qxs, Nat.reduceEqDiff, reduceIte, and_true, true_and, and_false, false_and, and_self, or_true, true_or, qb_or, reduceCtorEq, qbr_True, qbr_False, q10, q01, qwC, isF_nI h1 lo, qb_t, qb_f]
      refine kX7_addClean_26 (hg) (rfl) (Nat.le_of_ble_eq_true rfl) (Nat.le_of_ble_eq_true rfl) ⟨Nat.le_of_ble_eq_true rfl, Nat.le_of_ble_eq_true rfl⟩ ?_
      rintro _ _ ⟨rfl, rfl⟩
      refine oX7_addClean_29 _ _ _ _ _ _ ?_
      simp only [bX7_addClean_29, qsem, qopt_s, qopt2_s, qev, qxs, Nat.reduceEqDiff, reduceIte, and_true, true_and, and_false, false_and, and_self, or_true, true_or, qb_or, reduceCtorEq, qbr_True, qbr_False, q10, q01, qwC, isF_nI h1 lo, qb_t, qb_f]
      refine oX7_addClean_32 _ _ _ _ _ _ ?_
      simp only [bX7_addClean_32, qsem, qopt_s, qopt2_s, qev, qxs, Nat.reduceEqDiff, reduceIte, and_true, true_and, and_false, false_and, and_self, or_true, true_or, qb_or, reduceCtorEq, qbr_True, qbr_False, q10, q01, qwC, isF_nI h1 lo, qb_t, qb_f]
      exact hQ _ _ ⟨C, false, rfl, rfl, Or.inl ⟨rfl, rfl, fun q => absurd q hgr⟩⟩
def onL (p : Nat) (C C' : qC) : Prop := xI C' = xI C ∧ xA C' = xA C ∧ xM C' = xM C ∧ ∀ q, q ≠ p → xL C' q = xL C q
theorem onL_rf (p : Nat) (C : qC) : onL p C C := ⟨rfl, rfl, rfl, fun _ _ => rfl⟩
theorem onL_tr {p : Nat} {C C1 C2 : qC} (h : onL p C C1) (h2 : onL p C1 C2) : onL p C C2 := ⟨h2.1.trans h.1, h2.2.1.trans h.2.1, h2.2.2.1.trans h.2.2.1, fun q hq => (h2.2.2.2 q hq).trans (h.2.2.2 q hq)⟩
theorem onL_U {p : Nat} {C C' : qC} {f : Nat → Bool} (h : fsU C p f C') : onL p C C' := ⟨h.1, h.2.1, h.2.2.1, h.2.2.2.1⟩
theorem onL_N {p : Nat} {C C' : qC} {S : qS} (h : onL p C C') (hI : iN C S) : iN C' S := by unfold iN; rw [h.1, h.2.1]; exact hI
theorem onL_F {p : Nat} {C C' : qC} {S : qS} (h : onL p C C') (hI : iF C S) : iF C' S := by unfold iF; rw [h.1, h.2.2.1]; exact hI
def cI2 (S : qS) (C : qC) : Prop := ∀ j, j < 128 → fB C 12 j = true → cln S j
def cD2 (S : qS) (C : qC) (n : Nat) : Prop := ∀ n', n' < n → n' < cN S → grd S (fB12 C) n' → fB12 C (ofN S n')
theorem c2_end {S : qS} {C : qC} (hI : cI2 S C) (hD : cD2 S C (cN S)) : iC C S := fun j hj => ⟨hI j hj, fun h => h (fB12 C) (fun n hn g => hD n hn hn g)⟩
theorem c2_ct {S : qS} {C : qC} (h1 : W1 S) (h2 : W2 S) (hI : cI2 S C) : fb_ct (fB C 12) 128 ≤ 100 := by
  have hF1 := h1.2.2.1
  rw [ct_top (show cF S ≤ 128 by omega) (fun k hk hk2 => (Bool.not_eq_true _).mp (fun q => by have := cln_lt h2 (hI k hk2 q); omega))]
  exact Nat.le_trans (fb_ct_le _ _) hF1
theorem c2_I {S : qS} {C C' : qC} {n : Nat} (h1 : W1 S) (h2 : W2 S) (hn : n < cN S) (hI : cI2 S C) (hg : grd S (fB12 C) n) (hU : fsU C 12 (fun j => fB C 12 j || decide (j = ofN S n)) C') : cI2 S C' := by
  have hF1 := h1.2.2.1
  intro j hj hb
  rw [hU.2.2.2.2 j hj, Bool.or_eq_true, decide_eq_true_eq] at hb
  rcases hb with hb | rfl
  · exact hI j hj hb
  · refine cln_of hn ?_
    rcases hg with q | ⟨a, b, c⟩
    · exact Or.inl q
    · exact Or.inr ⟨a, b, fun k hk i hi hw => hI i (by omega) (c k hk i hi hw)⟩
theorem c2_up {C C' : qC} {o : Nat} (ho : o < 128) (h0 : fB C 12 o = false) (hU : fsU C 12 (fun j => fB C 12 j || decide (j = o)) C') : fb_ct (fB C' 12) 128 = fb_ct (fB C 12) 128 + 1 := by
  rw [← ct_bs ho h0]
  refine fb_ct_cong (fun k hk => ?_)
  rw [hU.2.2.2.2 k hk]
  show (fB C 12 k || decide (k = o)) = _
  unfold bs
  by_cases e : k = o
  · rw [if_pos e, decide_eq_true e, Bool.or_true]
  · rw [if_neg e, decide_eq_false e, Bool.or_false]
set_option maxRecDepth 100000 in
set_option maxHeartbeats 4000000 in
theorem zX7_cleanBy {C M : qC} {r : Nat × Nat × Nat} {S : qS} {n : Nat} (h1 : W1 S) (h2 : W2 S) (hI : iN C S) (hF : iF C S) (hn : n < cN S) (hcI : cI2 S C) (hcD : ∀ n', n' < cN S → n' ≠ n → grd S (fB12 C) n' → fB12 C (ofN S n')) : CT mX7_cleanBy 4 0 0 [.ref 5, .ref 1, .int (nI n)] (wd C M r) (fun r' w' => ∃ C', r' = none ∧ w' = wd C' M r ∧ onL 12 C C' ∧ iC C' S) := by
  have hF1 := h1.2.2.1
  have hN := h1.2.1
  refine eX7_cleanBy (AW_gen (fun Q hQ => ?_))
  have outer : ∀ (d k : Nat) (C1 : qC) (b : Bool) (o5 : Option Value), k + d = 100 → q_nb (some o5) = true → onL 12 C C1 → cI2 S C1 → (b = false → cD2 S C1 (cN S)) → (b = true → k + 1 ≤ fb_ct (fB C1 12) 128) → AW (mX7_cleanBy, 4, 0, 0, none, Q) 10 [some (.ref 5), some (.ref 1), some (.int (nI n)), some (.int (qb b)), some (.int (nI k)), o5] [] (wd C1 M r) 0 0 := by
    intro d
    induction d with
    | zero =>
      intro k C1 b o5 hk q5 hon hI1 hD hct
      obtain rfl : k = 100 := by omega
      have hb : b = false := by
        cases b with
        | false => rfl
        | true =>
          have := hct rfl
          have := c2_ct h1 h2 hI1
          omega
      refine oX7_cleanBy_10 _ _ _ _ _ _ ?_
      simp only [bX7_cleanBy_10, qsem, qopt_s, qopt2_s, qev, qxs, Nat.reduceEqDiff, reduceIte, and_true, true_and, and_false, false_and, and_self, or_true, true_or, qb_or, reduceCtorEq, qbr_True, qbr_False, q10, q01, qwC]
      refine qbr_t ((by decide)) ?_
      refine oX7_cleanBy_59 _ _ _ _ _ _ ?_
      simp only [bX7_cleanBy_59, qsem, qopt_s, qopt2_s, qev, qxs, Nat.reduceEqDiff, reduceIte, and_true, true_and, and_false, false_and, and_self, or_true, true_or, qb_or, reduceCtorEq, qbr_True, qbr_False, q10, q01, qwC]
      exact hQ _ _ ⟨C1, rfl, rfl, hon, c2_end hI1 (hD hb)⟩
    | succ d ih =>
      intro k C1 b o5 hk q5 hon hI1 hD hct
      cases b with
      | false =>
        refine oX7_cleanBy_10 _ _ _ _ _ _ ?_
        simp only [bX7_cleanBy_10, qsem, qopt_s, qopt2_s, qev, qxs, Nat.reduceEqDiff, reduceIte, and_true, true_and, and_false, false_and, and_self, or_true, true_or, qb_or, reduceCtorEq, qbr_True, qbr_False, q10, q01, qwC, qb_f]
        refine qbr_f (nI_ge (b := 100) (by omega) (by omega)) ?_
        refine oX7_cleanBy_59 _ _ _ _ _ _ ?_
        simp only [bX7_cleanBy_59, qsem, qopt_s, qopt2_s, qev, qxs, Nat.reduceEqDiff, reduceIte, and_true, true_and, and_false, false_and, and_self, or_true, true_or, qb_or, reduceCtorEq, qbr_True, qbr_False, q10, q01, qwC, qb_f]
        exact hQ _ _ ⟨C1, rfl, rfl, hon, c2_end hI1 (hD rfl)⟩
      | true =>
        have hct := hct rfl
        have inner : ∀ (e i : Nat) (C2 : qC) (b : Bool), i + e = cN S → onL 12 C C2 → cI2 S C2 → (b = false → cD2 S C2 i) → k + 1 + (if b then 1 else 0) ≤ fb_ct (fB C2 12) 128 → AW (mX7_cleanBy, 4, 0, 0, none, Q) 26 [some (.ref 5), some (.ref 1), some (.int (nI n)), some (.int (qb b)), some (.int (nI k)), some (.int (nI i))] [] (wd C2 M r) 0 0 := by
          intro e
          induction e with
          | zero =>
            intro i C2 b hi hon2 hI2 hD2 hct2
            obtain rfl : i = cN S := by omega
            have e0 := (onL_N hon2 hI).1
            have hct3 : b = true → k + 1 + 1 ≤ fb_ct (fB C2 12) 128 := fun h => by rw [h] at hct2; exact hct2
            refine oX7_cleanBy_26 _ _ _ _ _ _ ?_
            simp only [bX7_cleanBy_26, qsem, qopt_s, qopt2_s, qev, qxs, Nat.reduceEqDiff, reduceIte, and_true, true_and, and_false, false_and, and_self, or_true, true_or, qb_or, reduceCtorEq, qbr_True, qbr_False, q10, q01, qwC, e0, nI_1]
            refine kX7_cleanBy_29 (zX8_size_1) (rfl) (Nat.le_of_ble_eq_true rfl) (Nat.le_of_ble_eq_true rfl) ⟨Nat.le_of_ble_eq_true rfl, Nat.le_of_ble_eq_true rfl⟩ ?_
            rintro _ _ ⟨rfl, rfl⟩
            refine oX7_cleanBy_32 _ _ _ _ _ _ ?_
            simp only [bX7_cleanBy_32, qsem, qopt_s, qopt2_s, qev, qxs, Nat.reduceEqDiff, reduceIte, and_true, true_and, and_false, false_and, and_self, or_true, true_or, qb_or, reduceCtorEq, qbr_True, qbr_False, q10, q01, qwC, e0, nI_1]
            refine qbr_t ((Int32.le_refl _)) ?_
            refine oX7_cleanBy_53 _ _ _ _ _ _ ?_
            simp only [bX7_cleanBy_53, qsem, qopt_s, qopt2_s, qev, qxs, Nat.reduceEqDiff, reduceIte, and_true, true_and, and_false, false_and, and_self, or_true, true_or, qb_or, reduceCtorEq, qbr_True, qbr_False, q10, q01, qwC, e0, nI_1]
            exact ih (k + 1) C2 b _ (by omega) rfl hon2 hI2 hD2 hct3
          | succ e ihe =>
            intro i C2 b hi hon2 hI2 hD2 hct2
            have hiN : i < cN S := by omega
            have e0 := (onL_N hon2 hI).1
            have e1 := onL_N hon2 hI
            have e2 := onL_F hon2 hF
            have lo := (h2 i hiN).2.1.2
            refine oX7_cleanBy_26 _ _ _ _ _ _ ?_
            simp only [bX7_cleanBy_26, qsem, qopt_s, qopt2_s, qev, qxs, Nat.reduceEqDiff, reduceIte, and_true, true_and, and_false, false_and, and_self, or_true, true_or, qb_or, reduceCtorEq, qbr_True, qbr_False, q10, q01, qwC, e0]
            refine kX7_cleanBy_29 (zX8_size_1) (rfl) (Nat.le_of_ble_eq_true rfl) (Nat.le_of_ble_eq_true rfl) ⟨Nat.le_of_ble_eq_true rfl, Nat.le_of_ble_eq_true rfl⟩ ?_
            rintro _ _ ⟨rfl, rfl⟩
            refine oX7_cleanBy_32 _ _ _ _ _ _ ?_
            simp only [bX7_cleanBy_32, qsem, qopt_s, qopt2_s, qev, qxs, Nat.reduceEqDiff, reduceIte, and_true, true_and, and_false, false_and, and_self, or_true, true_or, qb_or, reduceCtorEq, qbr_True, qbr_False, q10, q01, qwC, e0]
            refine qbr_f (nI_ge (by omega) (by omega)) ?_
            refine kX7_cleanBy_39 (zX7_addClean h1 h2 e1 e2 hiN) (rfl) (Nat.le_of_ble_eq_true rfl) (Nat.le_of_ble_eq_true rfl) ⟨Nat.le_of_ble_eq_true rfl, Nat.le_of_ble_eq_true rfl⟩ ?_
            rintro _ _ ⟨C3, b3, rfl, rfl, hcase⟩
            skip
            rcases hcase with ⟨rfl, rfl, hcl⟩ | ⟨rfl, h0, hgr, hU⟩
            · refine oX7_cleanBy_42 _ _ _ _ _ _ ?_
              simp only [bX7_cleanBy_42, qsem, qopt_s, qopt2_s, qev, qxs, Nat.reduceEqDiff, reduceIte, and_true, true_and, and_false, false_and, and_self, or_true, true_or, qb_or, reduceCtorEq, qbr_True, qbr_False, q10, q01, qwC, qb_f, nI_1]
              refine oX7_cleanBy_47 _ _ _ _ _ _ ?_
              simp only [bX7_cleanBy_47, qsem, qopt_s, qopt2_s, qev, qxs, Nat.reduceEqDiff, reduceIte, and_true, true_and, and_false, false_and, and_self, or_true, true_or, qb_or, reduceCtorEq, qbr_True, qbr_False, q10, q01, qwC, qb_f, nI_1]
              refine ihe (i + 1) C3 b (by omega) hon2 hI2 (fun hb n' hn' hn2 g => ?_) hct2
              by_cases ei : n' = i
              · rw [ei] at g ⊢; exact hcl g
              · exact hD2 hb n' (by omega) hn2 g
            · have hup := c2_up (by omega) h0 hU
              have hct4 : k + 1 + 1 ≤ fb_ct (fB C3 12) 128 := by omega
              refine oX7_cleanBy_42 _ _ _ _ _ _ ?_
              simp only [bX7_cleanBy_42, qsem, qopt_s, qopt2_s, qev, qxs, Nat.reduceEqDiff, reduceIte, and_true, true_and, and_false, false_and, and_self, or_true, true_or, qb_or, reduceCtorEq, qbr_True, qbr_False, q10, q01, qwC, qb_t, nI_1]
              refine oX7_cleanBy_47 _ _ _ _ _ _ ?_
              simp only [bX7_cleanBy_47, qsem, qopt_s, qopt2_s, qev, qxs, Nat.reduceEqDiff, reduceIte, and_true, true_and, and_false, false_and, and_self, or_true, true_or, qb_or, reduceCtorEq, qbr_True, qbr_False, q10, q01, qwC, qb_t, nI_1]
              exact ihe (i + 1) C3 true (by omega) (onL_tr hon2 (onL_U hU)) (c2_I h1 h2 hiN hI2 hgr hU) (fun h => Bool.noConfusion h) hct4
        refine oX7_cleanBy_10 _ _ _ _ _ _ ?_
        simp only [bX7_cleanBy_10, qsem, qopt_s, qopt2_s, qev, qxs, Nat.reduceEqDiff, reduceIte, and_true, true_and, and_false, false_and, and_self, or_true, true_or, qb_or, reduceCtorEq, qbr_True, qbr_False, q10, q01, qwC, qb_t, q5]
        refine qbr_f (nI_ge (b := 100) (by omega) (by omega)) ?_
        exact inner (cN S) 0 C1 false (by omega) hon hI1 (fun _ n' h => by omega) (by simpa using hct)
  refine oX7_cleanBy_0 _ _ _ _ _ _ ?_
  simp only [bX7_cleanBy_0, qsem, qopt_s, qopt2_s, qev, qxs, Nat.reduceEqDiff, reduceIte, and_true, true_and, and_false, false_and, and_self, or_true, true_or, qb_or, reduceCtorEq, qbr_True, qbr_False, q10, q01, qwC]
  refine kX7_cleanBy_3 (zX7_addClean h1 h2 hI hF hn) (rfl) (Nat.le_of_ble_eq_true rfl) (Nat.le_of_ble_eq_true rfl) ⟨Nat.le_of_ble_eq_true rfl, Nat.le_of_ble_eq_true rfl⟩ ?_
  rintro _ _ ⟨C1, b1, rfl, rfl, hcase⟩
  skip
  rcases hcase with ⟨rfl, rfl, hcl⟩ | ⟨rfl, h0, hgr, hU⟩
  · refine oX7_cleanBy_6 _ _ _ _ _ _ ?_
    simp only [bX7_cleanBy_6, qsem, qopt_s, qopt2_s, qev, qxs, Nat.reduceEqDiff, reduceIte, and_true, true_and, and_false, false_and, and_self, or_true, true_or, qb_or, reduceCtorEq, qbr_True, qbr_False, q10, q01, qwC]
    refine outer 100 0 C1 false none rfl rfl (onL_rf _ _) hcI (fun _ n' _ hn2 g => ?_) (fun h => Bool.noConfusion h)
    by_cases e : n' = n
    · rw [e] at g ⊢; exact hcl g
    · exact hcD n' hn2 e g
  · have lo := (h2 n hn).2.1.2
    have hup := c2_up (by omega) h0 hU
    refine oX7_cleanBy_6 _ _ _ _ _ _ ?_
    simp only [bX7_cleanBy_6, qsem, qopt_s, qopt2_s, qev, qxs, Nat.reduceEqDiff, reduceIte, and_true, true_and, and_false, false_and, and_self, or_true, true_or, qb_or, reduceCtorEq, qbr_True, qbr_False, q10, q01, qwC]
    exact outer 100 0 C1 true none rfl rfl (onL_U hU) (c2_I h1 h2 hn hcI hgr hU) (fun h => Bool.noConfusion h) (fun _ => by omega)


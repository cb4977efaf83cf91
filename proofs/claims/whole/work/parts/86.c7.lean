theorem mk_or {a b : Nat} (ha : a < 4096) (hb : b < 4096) : a ||| b < 4096 := Nat.or_lt_two_pow (n := 12) ha hb
/-- the makers of a file, from the rows and the files' own makers -/
theorem mkN_f {S : qS} (h2 : W2 S) {f : Nat} (g : Nat → Nat → Bool) (hg : ∀ i h, i < cF S → h < 12 → (g i h = true ↔ mkr S i h)) {m : Nat} (hm : m < 4096) (hb : ∀ h, h < 12 → (m.testBit h = true ↔ ∃ i, i < cF S ∧ reach S f i ∧ g i h = true)) : m = mkN S f := by
  refine mkP_eq h2 ⟨hm, fun h hh => ?_⟩
  rw [hb h hh]
  constructor
  · rintro ⟨i, hi, hr, hgi⟩
    obtain ⟨n, a, b, c, d⟩ := (hg i h hi hh).mp hgi
    exact ⟨n, a, b, d, by rw [c]; exact hr⟩
  · rintro ⟨n, a, b, c, d⟩
    have hlt := (h2 n a).2.1.2
    exact ⟨ofN S n, hlt, d, (hg _ h hlt hh).mpr ⟨n, a, b, rfl, c⟩⟩
theorem tb_b (g : Nat → Bool) {h : Nat} (hh : h < 12) : (bT g 12).testBit h = g h := by rw [bT_tb, decide_eq_true hh, Bool.true_and]
set_option maxRecDepth 100000 in
set_option maxHeartbeats 4000000 in
theorem zX7_makersOf {C M : qC} {r : Nat × Nat × Nat} {S : qS} {f : Nat} (h1 : W1 S) (h2 : W2 S) (hI : iF C S) (hR : iR C S) (hO : iO C S) (hf : f < cF S) : CT mX7_makersOf 2 0 0 [.ref 5, .int (nI f)] (wd C M r) (fun r' w' => w' = wd C M r ∧ r' = some (.int (nI (mkN S f)))) := by
  have hF := h1.2.2.1
  refine eX7_makersOf (AW_gen (fun Q hQ => ?_))
  refine oX7_makersOf_0 _ _ _ _ _ _ ?_
  simp only [bX7_makersOf_0, qsem, qopt_s, qopt2_s, qev, qxs, Nat.reduceEqDiff, reduceIte, and_true, true_and, and_false, false_and, and_self, or_true, true_or, qb_or, reduceCtorEq, qbr_True, qbr_False, q10, q01, qwC]
  have loop : ∀ (d k m : Nat), k + d = cF S → m < 4096 → (∀ h, h < 12 → (m.testBit h = true ↔ ∃ i, i < k ∧ reach S f i ∧ dc (mkr S i h) = true)) → AW (mX7_makersOf, 2, 0, 0, none, Q) 4 [some (.ref 5), some (.int (nI f)), some (.int (nI m)), some (.int (nI k))] [] (wd C M r) 0 0 := by
    intro d
    induction d with
    | zero =>
      intro k m hk hm hb
      obtain rfl : k = cF S := by omega
      have e := mkN_f h2 (f := f) (fun i h => dc (mkr S i h)) (fun i h _ _ => dc_iff) hm hb
      refine oX7_makersOf_4 _ _ _ _ _ _ ?_
      simp only [bX7_makersOf_4, qsem, qopt_s, qopt2_s, qev, qxs, Nat.reduceEqDiff, reduceIte, and_true, true_and, and_false, false_and, and_self, or_true, true_or, qb_or, reduceCtorEq, qbr_True, qbr_False, q10, q01, qwC, hI.1]
      refine qbr_t ((Int32.le_refl _)) ?_
      refine oX7_makersOf_36 _ _ _ _ _ _ ?_
      simp only [bX7_makersOf_36, qsem, qopt_s, qopt2_s, qev, qxs, Nat.reduceEqDiff, reduceIte, and_true, true_and, and_false, false_and, and_self, or_true, true_or, qb_or, reduceCtorEq, qbr_True, qbr_False, q10, q01, qwC, hI.1]
      exact hQ _ _ ⟨rfl, ri (by rw [e])⟩
    | succ d ih =>
      intro k m hk hm hb
      have hkF : k < cF S := by omega
      have hck := nIcl (show k < 1000 by omega)
      have hx := hO k (by omega)
      have hrow := zX7_rowHas (C := C) (M := M) (r := r) (a := nI f) (o := k) h1 hI hR (by omega)
      rw [dc_c (show (∃ i, i < cF S ∧ nI f = nI i ∧ reach S i k) ↔ reach S f k from ⟨fun ⟨i, hi, e, q⟩ => by rw [i_ninj (by omega) (by omega) e]; exact q, fun q => ⟨f, hf, rfl, q⟩⟩)] at hrow
      by_cases hr : reach S f k
      · rw [dc_iff.mpr hr] at hrow
        refine oX7_makersOf_4 _ _ _ _ _ _ ?_
        simp only [bX7_makersOf_4, qsem, qopt_s, qopt2_s, qev, qxs, Nat.reduceEqDiff, reduceIte, and_true, true_and, and_false, false_and, and_self, or_true, true_or, qb_or, reduceCtorEq, qbr_True, qbr_False, q10, q01, qwC, hI.1, hck, hx, qb_t, or_nI, nI_1]
        refine qbr_f (nI_ge (by omega) (by omega)) ?_
        refine kX7_makersOf_15 (hrow) (rfl) (Nat.le_of_ble_eq_true rfl) (Nat.le_of_ble_eq_true rfl) ⟨Nat.le_of_ble_eq_true rfl, Nat.le_of_ble_eq_true rfl⟩ ?_
        rintro _ _ ⟨rfl, rfl⟩
        refine oX7_makersOf_18 _ _ _ _ _ _ ?_
        simp only [bX7_makersOf_18, qsem, qopt_s, qopt2_s, qev, qxs, Nat.reduceEqDiff, reduceIte, and_true, true_and, and_false, false_and, and_self, or_true, true_or, qb_or, reduceCtorEq, qbr_True, qbr_False, q10, q01, qwC, hI.1, hck, hx, qb_t, or_nI, nI_1]
        refine ⟨nI_vp (by omega) (by omega), ?_⟩
        refine oX7_makersOf_30 _ _ _ _ _ _ ?_
        simp only [bX7_makersOf_30, qsem, qopt_s, qopt2_s, qev, qxs, Nat.reduceEqDiff, reduceIte, and_true, true_and, and_false, false_and, and_self, or_true, true_or, qb_or, reduceCtorEq, qbr_True, qbr_False, q10, q01, qwC, hI.1, hck, hx, qb_t, or_nI, nI_1]
        refine ih (k + 1) _ (by omega) (mk_or hm (bT_12 _)) (fun h hh => ?_)
        rw [Nat.testBit_or, tb_b _ hh, Bool.or_eq_true, hb h hh]
        constructor
        · rintro (⟨i, a, b, c⟩ | c); exact ⟨i, by omega, b, c⟩; exact ⟨k, by omega, hr, c⟩
        · rintro ⟨i, a, b, c⟩; by_cases e : i = k; (subst e; exact Or.inr c); exact Or.inl ⟨i, by omega, b, c⟩
      · rw [dcf hr] at hrow
        refine oX7_makersOf_4 _ _ _ _ _ _ ?_
        simp only [bX7_makersOf_4, qsem, qopt_s, qopt2_s, qev, qxs, Nat.reduceEqDiff, reduceIte, and_true, true_and, and_false, false_and, and_self, or_true, true_or, qb_or, reduceCtorEq, qbr_True, qbr_False, q10, q01, qwC, hI.1, hck, qb_f, nI_1]
        refine qbr_f (nI_ge (by omega) (by omega)) ?_
        refine kX7_makersOf_15 (hrow) (rfl) (Nat.le_of_ble_eq_true rfl) (Nat.le_of_ble_eq_true rfl) ⟨Nat.le_of_ble_eq_true rfl, Nat.le_of_ble_eq_true rfl⟩ ?_
        rintro _ _ ⟨rfl, rfl⟩
        refine oX7_makersOf_18 _ _ _ _ _ _ ?_
        simp only [bX7_makersOf_18, qsem, qopt_s, qopt2_s, qev, qxs, Nat.reduceEqDiff, reduceIte, and_true, true_and, and_false, false_and, and_self, or_true, true_or, qb_or, reduceCtorEq, qbr_True, qbr_False, q10, q01, qwC, hI.1, hck, qb_f, nI_1]
        refine oX7_makersOf_30 _ _ _ _ _ _ ?_
        simp only [bX7_makersOf_30, qsem, qopt_s, qopt2_s, qev, qxs, Nat.reduceEqDiff, reduceIte, and_true, true_and, and_false, false_and, and_self, or_true, true_or, qb_or, reduceCtorEq, qbr_True, qbr_False, q10, q01, qwC, hI.1, hck, qb_f, nI_1]
        refine ih (k + 1) m (by omega) hm (fun h hh => ?_)
        rw [hb h hh]
        constructor
        · rintro ⟨i, a, b, c⟩; exact ⟨i, by omega, b, c⟩
        · rintro ⟨i, a, b, c⟩; by_cases e : i = k; (subst e; exact absurd b hr); exact ⟨i, by omega, b, c⟩
  exact loop (cF S) 0 0 (by omega) (by omega) (fun h hh => by simp)
theorem mkN_lt {S : qS} (h2 : W2 S) (f : Nat) : mkN S f < 4096 := (mkN_ok h2 f).1
set_option maxRecDepth 100000 in
set_option maxHeartbeats 4000000 in
theorem zX7_goodTries {C M : qC} {r : Nat × Nat × Nat} {S : qS} {f : Nat} (h1 : W1 S) (hI : iF C S) (hT : iT C S) (hf : f < cF S) : CT mX7_goodTries 1 0 0 [.ref 5, .int (nI f)] (wd C M r) (fun r' w' => w' = wd C M r ∧ r' = some (.int (nI (hwt S 2 f 0)))) := by
  have hF := h1.2.2.1
  have hc := nIcl (show f < 1000 by omega)
  have e : bcI (nI (bT (fun h => glt S 2 f h) 12)) = nI (hwt S 2 f 0) := by
    rw [bcI_ok ⟨_, bT_12 _⟩, pc12_b]
    congr 1
    exact fb_ct_cong (fun h hh => by simp)
  refine eX7_goodTries (AW_gen (fun Q hQ => ?_))
  refine oX7_goodTries_0 _ _ _ _ _ _ ?_
  simp only [bX7_goodTries_0, qsem, qopt_s, qopt2_s, qev, qxs, Nat.reduceEqDiff, reduceIte, and_true, true_and, and_false, false_and, and_self, or_true, true_or, qb_or, reduceCtorEq, qbr_True, qbr_False, q10, q01, qwC, isF_nI h1 hf, qb_t, hc, (hT f (by omega)).1]
  refine kX7_goodTries_2 (zX7_has h1 hI) (rfl) (Nat.le_of_ble_eq_true rfl) (Nat.le_of_ble_eq_true rfl) ⟨Nat.le_of_ble_eq_true rfl, Nat.le_of_ble_eq_true rfl⟩ ?_
  rintro _ _ ⟨rfl, rfl⟩
  refine oX7_goodTries_5 _ _ _ _ _ _ ?_
  simp only [bX7_goodTries_5, qsem, qopt_s, qopt2_s, qev, qxs, Nat.reduceEqDiff, reduceIte, and_true, true_and, and_false, false_and, and_self, or_true, true_or, qb_or, reduceCtorEq, qbr_True, qbr_False, q10, q01, qwC, isF_nI h1 hf, qb_t, hc, (hT f (by omega)).1]
  refine ⟨nI_vp (by omega) (by omega), ?_⟩
  refine kX7_goodTries_14 (zJ6_bitCount_0f7a4) (Nat.le_of_ble_eq_true rfl) (Nat.le_of_ble_eq_true rfl) ⟨Nat.le_of_ble_eq_true rfl, Nat.le_of_ble_eq_true rfl⟩ ?_
  rintro _ _ ⟨rfl, rfl⟩
  refine oX7_goodTries_17 _ _ _ _ _ _ ?_
  simp only [bX7_goodTries_17, qsem, qopt_s, qopt2_s, qev, qxs, Nat.reduceEqDiff, reduceIte, and_true, true_and, and_false, false_and, and_self, or_true, true_or, qb_or, reduceCtorEq, qbr_True, qbr_False, q10, q01, qwC, isF_nI h1 hf, qb_t, hc, (hT f (by omega)).1]
  refine oX7_goodTries_21 _ _ _ _ _ _ ?_
  simp only [bX7_goodTries_21, qsem, qopt_s, qopt2_s, qev, qxs, Nat.reduceEqDiff, reduceIte, and_true, true_and, and_false, false_and, and_self, or_true, true_or, qb_or, reduceCtorEq, qbr_True, qbr_False, q10, q01, qwC, isF_nI h1 hf, qb_t, hc, (hT f (by omega)).1]
  exact hQ _ _ ⟨rfl, ri e⟩
set_option maxRecDepth 100000 in
set_option maxHeartbeats 4000000 in
theorem zX7_goodReviews {C M : qC} {r : Nat × Nat × Nat} {S : qS} {f : Nat} (h1 : W1 S) (h2 : W2 S) (hI : iF C S) (hR : iR C S) (hO : iO C S) (hT : iT C S) (hf : f < cF S) : CT mX7_goodReviews 3 0 0 [.ref 5, .int (nI f)] (wd C M r) (fun r' w' => w' = wd C M r ∧ r' = some (.int (nI (hwt S 3 f (mkN S f))))) := by
  have hF := h1.2.2.1
  have hc := nIcl (show f < 1000 by omega)
  have e : bcI (nI (bT (fun h => glt S 3 f h) 12) &&& (nI (mkN S f) ^^^ -1)) = nI (hwt S 3 f (mkN S f)) := by
    rw [and_not (bT_12 _), bcI_ok ⟨_, bT_12 _⟩, pc12_b]
    congr 1
    exact fb_ct_cong (fun h hh => by rw [tb_b _ hh])
  refine eX7_goodReviews (AW_gen (fun Q hQ => ?_))
  refine oX7_goodReviews_0 _ _ _ _ _ _ ?_
  simp only [bX7_goodReviews_0, qsem, qopt_s, qopt2_s, qev, qxs, Nat.reduceEqDiff, reduceIte, and_true, true_and, and_false, false_and, and_self, or_true, true_or, qb_or, reduceCtorEq, qbr_True, qbr_False, q10, q01, qwC, isF_nI h1 hf, qb_t, hc, (hT f (by omega)).2]
  refine kX7_goodReviews_2 (zX7_has h1 hI) (rfl) (Nat.le_of_ble_eq_true rfl) (Nat.le_of_ble_eq_true rfl) ⟨Nat.le_of_ble_eq_true rfl, Nat.le_of_ble_eq_true rfl⟩ ?_
  rintro _ _ ⟨rfl, rfl⟩
  refine oX7_goodReviews_5 _ _ _ _ _ _ ?_
  simp only [bX7_goodReviews_5, qsem, qopt_s, qopt2_s, qev, qxs, Nat.reduceEqDiff, reduceIte, and_true, true_and, and_false, false_and, and_self, or_true, true_or, qb_or, reduceCtorEq, qbr_True, qbr_False, q10, q01, qwC, isF_nI h1 hf, qb_t, hc, (hT f (by omega)).2]
  refine ⟨nI_vp (by omega) (by omega), ?_⟩
  refine kX7_goodReviews_16 (zX7_makersOf h1 h2 hI hR hO hf) (rfl) (Nat.le_of_ble_eq_true rfl) (Nat.le_of_ble_eq_true rfl) ⟨Nat.le_of_ble_eq_true rfl, Nat.le_of_ble_eq_true rfl⟩ ?_
  rintro _ _ ⟨rfl, rfl⟩
  refine oX7_goodReviews_19 _ _ _ _ _ _ ?_
  simp only [bX7_goodReviews_19, qsem, qopt_s, qopt2_s, qev, qxs, Nat.reduceEqDiff, reduceIte, and_true, true_and, and_false, false_and, and_self, or_true, true_or, qb_or, reduceCtorEq, qbr_True, qbr_False, q10, q01, qwC, isF_nI h1 hf, qb_t, hc, (hT f (by omega)).2]
  refine kX7_goodReviews_22 (zJ6_bitCount_0f7a4) (Nat.le_of_ble_eq_true rfl) (Nat.le_of_ble_eq_true rfl) ⟨Nat.le_of_ble_eq_true rfl, Nat.le_of_ble_eq_true rfl⟩ ?_
  rintro _ _ ⟨rfl, rfl⟩
  refine oX7_goodReviews_25 _ _ _ _ _ _ ?_
  simp only [bX7_goodReviews_25, qsem, qopt_s, qopt2_s, qev, qxs, Nat.reduceEqDiff, reduceIte, and_true, true_and, and_false, false_and, and_self, or_true, true_or, qb_or, reduceCtorEq, qbr_True, qbr_False, q10, q01, qwC, isF_nI h1 hf, qb_t, hc, (hT f (by omega)).2]
  refine oX7_goodReviews_29 _ _ _ _ _ _ ?_
  simp only [bX7_goodReviews_29, qsem, qopt_s, qopt2_s, qev, qxs, Nat.reduceEqDiff, reduceIte, and_true, true_and, and_false, false_and, and_self, or_true, true_or, qb_or, reduceCtorEq, qbr_True, qbr_False, q10, q01, qwC, isF_nI h1 hf, qb_t, hc, (hT f (by omega)).2]
  exact hQ _ _ ⟨rfl, ri e⟩
set_option maxRecDepth 100000 in
set_option maxHeartbeats 4000000 in
theorem zX7_goodBuilders {C M : qC} {r : Nat × Nat × Nat} {S : qS} {f : Nat} (h1 : W1 S) (h2 : W2 S) (hI : iF C S) (hB : iB C S) (hf : f < cF S) : CT mX7_goodBuilders 1 0 0 [.ref 5, .int (nI f)] (wd C M r) (fun r' w' => w' = wd C M r ∧ r' = some (.int (nI (pc12 (bdb S f (cN S)))))) := by
  have hF := h1.2.2.1
  have hc := nIcl (show f < 1000 by omega)
  have hlt := bdb_lt h2 f (cN S) (Nat.le_refl _)
  refine eX7_goodBuilders (AW_gen (fun Q hQ => ?_))
  refine oX7_goodBuilders_0 _ _ _ _ _ _ ?_
  simp only [bX7_goodBuilders_0, qsem, qopt_s, qopt2_s, qev, qxs, Nat.reduceEqDiff, reduceIte, and_true, true_and, and_false, false_and, and_self, or_true, true_or, qb_or, reduceCtorEq, qbr_True, qbr_False, q10, q01, qwC, isF_nI h1 hf, qb_t, hc, hB f (by omega)]
  refine kX7_goodBuilders_2 (zX7_has h1 hI) (rfl) (Nat.le_of_ble_eq_true rfl) (Nat.le_of_ble_eq_true rfl) ⟨Nat.le_of_ble_eq_true rfl, Nat.le_of_ble_eq_true rfl⟩ ?_
  rintro _ _ ⟨rfl, rfl⟩
  refine oX7_goodBuilders_5 _ _ _ _ _ _ ?_
  simp only [bX7_goodBuilders_5, qsem, qopt_s, qopt2_s, qev, qxs, Nat.reduceEqDiff, reduceIte, and_true, true_and, and_false, false_and, and_self, or_true, true_or, qb_or, reduceCtorEq, qbr_True, qbr_False, q10, q01, qwC, isF_nI h1 hf, qb_t, hc, hB f (by omega)]
  refine ⟨nI_vp (by omega) (by omega), ?_⟩
  refine kX7_goodBuilders_14 (zJ6_bitCount_0f7a4) (Nat.le_of_ble_eq_true rfl) (Nat.le_of_ble_eq_true rfl) ⟨Nat.le_of_ble_eq_true rfl, Nat.le_of_ble_eq_true rfl⟩ ?_
  rintro _ _ ⟨rfl, rfl⟩
  refine oX7_goodBuilders_17 _ _ _ _ _ _ ?_
  simp only [bX7_goodBuilders_17, qsem, qopt_s, qopt2_s, qev, qxs, Nat.reduceEqDiff, reduceIte, and_true, true_and, and_false, false_and, and_self, or_true, true_or, qb_or, reduceCtorEq, qbr_True, qbr_False, q10, q01, qwC, isF_nI h1 hf, qb_t, hc, hB f (by omega)]
  refine oX7_goodBuilders_21 _ _ _ _ _ _ ?_
  simp only [bX7_goodBuilders_21, qsem, qopt_s, qopt2_s, qev, qxs, Nat.reduceEqDiff, reduceIte, and_true, true_and, and_false, false_and, and_self, or_true, true_or, qb_or, reduceCtorEq, qbr_True, qbr_False, q10, q01, qwC, isF_nI h1 hf, qb_t, hc, hB f (by omega)]
  exact hQ _ _ ⟨rfl, ri (bcI_ok ⟨_, hlt⟩)⟩
/-! what is clean -/
def p12 : fsP 12 := Or.inl rfl
set_option maxRecDepth 100000 in
set_option maxHeartbeats 4000000 in
theorem zX7_isClean {C M : qC} {r : Nat × Nat × Nat} {a : Int32} : CT mX7_isClean 1 0 0 [.ref 5, .int a] (wd C M r) (fun r' w' => w' = wd C M r ∧ r' = some (.int (qb (inN a 100 && fB C 12 a.toNatClampNeg)))) := by
  refine eX7_isClean (AW_gen (fun Q hQ => ?_))
  refine oX7_isClean_0 _ _ _ _ _ _ ?_
  simp only [bX7_isClean_0, qsem, qopt_s, qopt2_s, qev, qxs, Nat.reduceEqDiff, reduceIte, and_true, true_and, and_false, false_and, and_self, or_true, true_or, qb_or, reduceCtorEq, qbr_True, qbr_False, q10, q01, qwC]
  refine kX7_isClean_5 (zX0_has p12) (rfl) (Nat.le_of_ble_eq_true rfl) (Nat.le_of_ble_eq_true rfl) ⟨Nat.le_of_ble_eq_true rfl, Nat.le_of_ble_eq_true rfl⟩ ?_
  rintro _ _ ⟨rfl, rfl⟩
  refine oX7_isClean_8 _ _ _ _ _ _ ?_
  simp only [bX7_isClean_8, qsem, qopt_s, qopt2_s, qev, qxs, Nat.reduceEqDiff, reduceIte, and_true, true_and, and_false, false_and, and_self, or_true, true_or, qb_or, reduceCtorEq, qbr_True, qbr_False, q10, q01, qwC]
  exact hQ _ _ ⟨rfl, rfl⟩
set_option maxRecDepth 100000 in
set_option maxHeartbeats 4000000 in
theorem zX7_isCleanInput {C M : qC} {r : Nat × Nat × Nat} {a : Int32} : CT mX7_isCleanInput 1 0 0 [.ref 5, .int a] (wd C M r) (fun r' w' => w' = wd C M r ∧ r' = some (.int (qb (decide (a = -1) || (inN a 100 && fB C 12 a.toNatClampNeg))))) := by
  refine eX7_isCleanInput (AW_gen (fun Q hQ => ?_))
  refine oX7_isCleanInput_0 _ _ _ _ _ _ ?_
  simp only [bX7_isCleanInput_0, qsem, qopt_s, qopt2_s, qev, qxs, Nat.reduceEqDiff, reduceIte, and_true, true_and, and_false, false_and, and_self, or_true, true_or, qb_or, reduceCtorEq, qbr_True, qbr_False, q10, q01, qwC, qb_0]
  refine qbr_i (fun c1 => ?_) (fun c1 => ?_)
  · refine oX7_isCleanInput_16 _ _ _ _ _ _ ?_
    simp only [bX7_isCleanInput_16, qsem, qopt_s, qopt2_s, qev, qxs, Nat.reduceEqDiff, reduceIte, and_true, true_and, and_false, false_and, and_self, or_true, true_or, qb_or, reduceCtorEq, qbr_True, qbr_False, q10, q01, qwC, qb_0]
    refine oX7_isCleanInput_21 _ _ _ _ _ _ ?_
    simp only [bX7_isCleanInput_21, qsem, qopt_s, qopt2_s, qev, qxs, Nat.reduceEqDiff, reduceIte, and_true, true_and, and_false, false_and, and_self, or_true, true_or, qb_or, reduceCtorEq, qbr_True, qbr_False, q10, q01, qwC, qb_0]
    first | exact hQ _ _ ⟨rfl, ri (by rw [decide_eq_true c1]; rfl)⟩ | exact hQ _ _ ⟨rfl, ri (by rw [decide_eq_false c1, c2]; rfl)⟩ | exact hQ _ _ ⟨rfl, ri (by rw [decide_eq_false c1, (Bool.not_eq_false _).mp c2]; rfl)⟩
  · refine kX7_isCleanInput_10 (zX0_has p12) (rfl) (Nat.le_of_ble_eq_true rfl) (Nat.le_of_ble_eq_true rfl) ⟨Nat.le_of_ble_eq_true rfl, Nat.le_of_ble_eq_true rfl⟩ ?_
    rintro _ _ ⟨rfl, rfl⟩
    refine oX7_isCleanInput_13 _ _ _ _ _ _ ?_
    simp only [bX7_isCleanInput_13, qsem, qopt_s, qopt2_s, qev, qxs, Nat.reduceEqDiff, reduceIte, and_true, true_and, and_false, false_and, and_self, or_true, true_or, qb_or, reduceCtorEq, qbr_True, qbr_False, q10, q01, qwC, qb_0]
    refine qbr_i (fun c2 => ?_) (fun c2 => ?_)
    · refine oX7_isCleanInput_20 _ _ _ _ _ _ ?_
      simp only [bX7_isCleanInput_20, qsem, qopt_s, qopt2_s, qev, qxs, Nat.reduceEqDiff, reduceIte, and_true, true_and, and_false, false_and, and_self, or_true, true_or, qb_or, reduceCtorEq, qbr_True, qbr_False, q10, q01, qwC, qb_0]
      refine oX7_isCleanInput_21 _ _ _ _ _ _ ?_
      simp only [bX7_isCleanInput_21, qsem, qopt_s, qopt2_s, qev, qxs, Nat.reduceEqDiff, reduceIte, and_true, true_and, and_false, false_and, and_self, or_true, true_or, qb_or, reduceCtorEq, qbr_True, qbr_False, q10, q01, qwC, qb_0]
      first | exact hQ _ _ ⟨rfl, ri (by rw [decide_eq_true c1]; rfl)⟩ | exact hQ _ _ ⟨rfl, ri (by rw [decide_eq_false c1, c2]; rfl)⟩ | exact hQ _ _ ⟨rfl, ri (by rw [decide_eq_false c1, (Bool.not_eq_false _).mp c2]; rfl)⟩
    · refine oX7_isCleanInput_16 _ _ _ _ _ _ ?_
      simp only [bX7_isCleanInput_16, qsem, qopt_s, qopt2_s, qev, qxs, Nat.reduceEqDiff, reduceIte, and_true, true_and, and_false, false_and, and_self, or_true, true_or, qb_or, reduceCtorEq, qbr_True, qbr_False, q10, q01, qwC, qb_0]
      refine oX7_isCleanInput_21 _ _ _ _ _ _ ?_
      simp only [bX7_isCleanInput_21, qsem, qopt_s, qopt2_s, qev, qxs, Nat.reduceEqDiff, reduceIte, and_true, true_and, and_false, false_and, and_self, or_true, true_or, qb_or, reduceCtorEq, qbr_True, qbr_False, q10, q01, qwC, qb_0]
      first | exact hQ _ _ ⟨rfl, ri (by rw [decide_eq_true c1]; rfl)⟩ | exact hQ _ _ ⟨rfl, ri (by rw [decide_eq_false c1, c2]; rfl)⟩ | exact hQ _ _ ⟨rfl, ri (by rw [decide_eq_false c1, (Bool.not_eq_false _).mp c2]; rfl)⟩
theorem cIn {C : qC} {S : qS} (h1 : W1 S) (h2 : W2 S) {n k : Nat} (hn : n < cN S) (hk : k < 3) : (decide (wnt S n k = -1) || (inN (wnt S n k) 100 && fB C 12 (wnt S n k).toNatClampNeg)) = true ↔ ∀ i, i < cF S → wnt S n k = nI i → fB C 12 i = true := by
  have hF := h1.2.2.1
  rcases W2_k h2 hn hk with hw | ⟨j, hj, hw⟩
  · rw [hw]
    exact ⟨fun _ i hi e => absurd e.symm (i_nm1 (by omega)), fun _ => rfl⟩
  · rw [hw, decide_eq_false (i_nm1 (by omega)), Bool.false_or, inNi (show j < 100 by omega) (by omega), Bool.true_and, nIcl (show j < 1000 by omega)]
    exact ⟨fun q i hi e => by rw [← i_ninj (by omega) (by omega) e]; exact q, fun q => q j hj rfl⟩
set_option maxRecDepth 100000 in
set_option maxHeartbeats 4000000 in
theorem zX7_isGround {C M : qC} {r : Nat × Nat × Nat} {S : qS} {n : Nat} (h1 : W1 S) (h2 : W2 S) (hI : iN C S) (hn : n < cN S) : CT mX7_isGround 2 0 0 [.ref 5, .ref 1, .int (nI n)] (wd C M r) (fun r' w' => w' = wd C M r ∧ r' = some (.int (qb (dc (grd S (fun i => fB C 12 i = true) n))))) := by
  have hN := h1.2.1
  obtain ⟨⟨es, ls⟩, -, -, -⟩ := h2 n hn
  have i0 := cIn (C := C) h1 h2 hn (show 0 < 3 by omega)
  have i1 := cIn (C := C) h1 h2 hn (show 1 < 3 by omega)
  have i2 := cIn (C := C) h1 h2 hn (show 2 < 3 by omega)
  have v4 : ntV S n 4 = wnt S n 0 := rfl
  have v5 : ntV S n 5 = wnt S n 1 := rfl
  have v6 : ntV S n 6 = wnt S n 2 := rfl
  have v0 : ntV S n 0 = nI (srt S n) := es
  have v7 : ntV S n 7 = S.2.1 146 n := rfl
  have c0 := zX8_cN (C := C) (M := M) (r := r) 0 h1 hI hn (by omega)
  have c7 := zX8_cN (C := C) (M := M) (r := r) 7 h1 hI hn (by omega)
  have c4 := zX8_cN (C := C) (M := M) (r := r) 4 h1 hI hn (by omega)
  have c5 := zX8_cN (C := C) (M := M) (r := r) 5 h1 hI hn (by omega)
  have c6 := zX8_cN (C := C) (M := M) (r := r) 6 h1 hI hn (by omega)
  rw [v0] at c0
  rw [v7] at c7
  rw [v4] at c4
  rw [v5] at c5
  rw [v6] at c6
  refine eX7_isGround (AW_gen (fun Q hQ => ?_))
  have all : ∀ (a b c : Bool), a = (decide (wnt S n 0 = -1) || (inN (wnt S n 0) 100 && fB C 12 (wnt S n 0).toNatClampNeg)) → b = (decide (wnt S n 1 = -1) || (inN (wnt S n 1) 100 && fB C 12 (wnt S n 1).toNatClampNeg)) → c = (decide (wnt S n 2 = -1) || (inN (wnt S n 2) 100 && fB C 12 (wnt S n 2).toNatClampNeg)) → ((a = true ∧ b = true ∧ c = true) ↔ ∀ k, k < 3 → ∀ i, i < cF S → wnt S n k = nI i → fB C 12 i = true) := by
    intro a b c ha hb hc
    rw [ha, hb, hc, i0, i1, i2]
    constructor
    · rintro ⟨x, y, z⟩ k hk
      rcases (show k = 0 ∨ k = 1 ∨ k = 2 by omega) with rfl | rfl | rfl
      · exact x
      · exact y
      · exact z
    · intro h
      exact ⟨h 0 (by omega), h 1 (by omega), h 2 (by omega)⟩
  have yes : grd S (fun i => fB C 12 i = true) n → Q (some (.int 1)) (wd C M r) := fun h => hQ _ _ ⟨rfl, ri (qb_1of (dc_iff.mpr h))⟩
  have no : ¬ grd S (fun i => fB C 12 i = true) n → Q (some (.int 0)) (wd C M r) := fun h => hQ _ _ ⟨rfl, ri (qb_0of (dcf h))⟩
  by_cases hs1 : srt S n = 1
  · generalize ha : (decide (wnt S n 0 = -1) || (inN (wnt S n 0) 100 && fB C 12 (wnt S n 0).toNatClampNeg)) = a
    generalize hb : (decide (wnt S n 1 = -1) || (inN (wnt S n 1) 100 && fB C 12 (wnt S n 1).toNatClampNeg)) = b
    generalize hc : (decide (wnt S n 2 = -1) || (inN (wnt S n 2) 100 && fB C 12 (wnt S n 2).toNatClampNeg)) = c
    have hall := all a b c ha.symm hb.symm hc.symm
    have no3 : ¬ (a = true ∧ b = true ∧ c = true) → Q (some (.int 0)) (wd C M r) := fun h => no (fun q => q.elim (fun z => by omega) (fun z => h (hall.mpr z.2.2)))
    have ka := zX7_isCleanInput (C := C) (M := M) (r := r) (a := wnt S n 0)
    have kb := zX7_isCleanInput (C := C) (M := M) (r := r) (a := wnt S n 1)
    have kc := zX7_isCleanInput (C := C) (M := M) (r := r) (a := wnt S n 2)
    rw [ha] at ka
    rw [hb] at kb
    rw [hc] at kc
    rw [hs1] at c0
    refine oX7_isGround_0 _ _ _ _ _ _ ?_
    simp only [bX7_isGround_0, qsem, qopt_s, qopt2_s, qev, qxs, Nat.reduceEqDiff, reduceIte, and_true, true_and, and_false, false_and, and_self, or_true, true_or, qb_or, reduceCtorEq, qbr_True, qbr_False, q10, q01, qwC, qb_0]
    refine kX7_isGround_3 (c0) (rfl) (Nat.le_of_ble_eq_true rfl) (Nat.le_of_ble_eq_true rfl) ⟨Nat.le_of_ble_eq_true rfl, Nat.le_of_ble_eq_true rfl⟩ ?_
    rintro _ _ ⟨rfl, rfl⟩
    refine oX7_isGround_6 _ _ _ _ _ _ ?_
    simp only [bX7_isGround_6, qsem, qopt_s, qopt2_s, qev, qxs, Nat.reduceEqDiff, reduceIte, and_true, true_and, and_false, false_and, and_self, or_true, true_or, qb_or, reduceCtorEq, qbr_True, qbr_False, q10, q01, qwC, qb_0]
    refine qbr_t (rfl) ?_
    refine oX7_isGround_22 _ _ _ _ _ _ ?_
    simp only [bX7_isGround_22, qsem, qopt_s, qopt2_s, qev, qxs, Nat.reduceEqDiff, reduceIte, and_true, true_and, and_false, false_and, and_self, or_true, true_or, qb_or, reduceCtorEq, qbr_True, qbr_False, q10, q01, qwC, qb_0]
    refine kX7_isGround_26 (c7) (rfl) (Nat.le_of_ble_eq_true rfl) (Nat.le_of_ble_eq_true rfl) ⟨Nat.le_of_ble_eq_true rfl, Nat.le_of_ble_eq_true rfl⟩ ?_
    rintro _ _ ⟨rfl, rfl⟩
    refine oX7_isGround_29 _ _ _ _ _ _ ?_
    simp only [bX7_isGround_29, qsem, qopt_s, qopt2_s, qev, qxs, Nat.reduceEqDiff, reduceIte, and_true, true_and, and_false, false_and, and_self, or_true, true_or, qb_or, reduceCtorEq, qbr_True, qbr_False, q10, q01, qwC, qb_0]
    refine qbr_i (fun c1 => ?_) (fun c1 => ?_)
    · refine kX7_isGround_37 (c4) (rfl) (Nat.le_of_ble_eq_true rfl) (Nat.le_of_ble_eq_true rfl) ⟨Nat.le_of_ble_eq_true rfl, Nat.le_of_ble_eq_true rfl⟩ ?_
      rintro _ _ ⟨rfl, rfl⟩
      refine kX7_isGround_40 (ka) (rfl) (Nat.le_of_ble_eq_true rfl) (Nat.le_of_ble_eq_true rfl) ⟨Nat.le_of_ble_eq_true rfl, Nat.le_of_ble_eq_true rfl⟩ ?_
      rintro _ _ ⟨rfl, rfl⟩
      refine oX7_isGround_43 _ _ _ _ _ _ ?_
      simp only [bX7_isGround_43, qsem, qopt_s, qopt2_s, qev, qxs, Nat.reduceEqDiff, reduceIte, and_true, true_and, and_false, false_and, and_self, or_true, true_or, qb_or, reduceCtorEq, qbr_True, qbr_False, q10, q01, qwC, qb_0]
      refine qbr_i (fun c2 => ?_) (fun c2 => ?_)
      · refine oX7_isGround_77 _ _ _ _ _ _ ?_
        simp only [bX7_isGround_77, qsem, qopt_s, qopt2_s, qev, qxs, Nat.reduceEqDiff, reduceIte, and_true, true_and, and_false, false_and, and_self, or_true, true_or, qb_or, reduceCtorEq, qbr_True, qbr_False, q10, q01, qwC, qb_0]
        refine oX7_isGround_78 _ _ _ _ _ _ ?_
        simp only [bX7_isGround_78, qsem, qopt_s, qopt2_s, qev, qxs, Nat.reduceEqDiff, reduceIte, and_true, true_and, and_false, false_and, and_self, or_true, true_or, qb_or, reduceCtorEq, qbr_True, qbr_False, q10, q01, qwC, qb_0]
        first | exact no (fun q => q.elim (fun z => by omega) (fun z => c1 z.2.1)) | exact no3 (fun q => by rw [q.1] at c2; exact Bool.noConfusion c2) | exact no3 (fun q => by rw [q.2.1] at c3; exact Bool.noConfusion c3) | exact no3 (fun q => by rw [q.2.2] at c4; exact Bool.noConfusion c4) | exact yes (Or.inr ⟨hs1, c1, hall.mp ⟨(Bool.not_eq_false _).mp c2, (Bool.not_eq_false _).mp c3, (Bool.not_eq_false _).mp c4⟩⟩)
      · refine kX7_isGround_50 (c5) (rfl) (Nat.le_of_ble_eq_true rfl) (Nat.le_of_ble_eq_true rfl) ⟨Nat.le_of_ble_eq_true rfl, Nat.le_of_ble_eq_true rfl⟩ ?_
        rintro _ _ ⟨rfl, rfl⟩
        refine kX7_isGround_53 (kb) (rfl) (Nat.le_of_ble_eq_true rfl) (Nat.le_of_ble_eq_true rfl) ⟨Nat.le_of_ble_eq_true rfl, Nat.le_of_ble_eq_true rfl⟩ ?_
        rintro _ _ ⟨rfl, rfl⟩
        refine oX7_isGround_56 _ _ _ _ _ _ ?_
        simp only [bX7_isGround_56, qsem, qopt_s, qopt2_s, qev, qxs, Nat.reduceEqDiff, reduceIte, and_true, true_and, and_false, false_and, and_self, or_true, true_or, qb_or, reduceCtorEq, qbr_True, qbr_False, q10, q01, qwC, qb_0]
        refine qbr_i (fun c3 => ?_) (fun c3 => ?_)
        · refine oX7_isGround_77 _ _ _ _ _ _ ?_
          simp only [bX7_isGround_77, qsem, qopt_s, qopt2_s, qev, qxs, Nat.reduceEqDiff, reduceIte, and_true, true_and, and_false, false_and, and_self, or_true, true_or, qb_or, reduceCtorEq, qbr_True, qbr_False, q10, q01, qwC, qb_0]
          refine oX7_isGround_78 _ _ _ _ _ _ ?_
          simp only [bX7_isGround_78, qsem, qopt_s, qopt2_s, qev, qxs, Nat.reduceEqDiff, reduceIte, and_true, true_and, and_false, false_and, and_self, or_true, true_or, qb_or, reduceCtorEq, qbr_True, qbr_False, q10, q01, qwC, qb_0]
          first | exact no (fun q => q.elim (fun z => by omega) (fun z => c1 z.2.1)) | exact no3 (fun q => by rw [q.1] at c2; exact Bool.noConfusion c2) | exact no3 (fun q => by rw [q.2.1] at c3; exact Bool.noConfusion c3) | exact no3 (fun q => by rw [q.2.2] at c4; exact Bool.noConfusion c4) | exact yes (Or.inr ⟨hs1, c1, hall.mp ⟨(Bool.not_eq_false _).mp c2, (Bool.not_eq_false _).mp c3, (Bool.not_eq_false _).mp c4⟩⟩)
        · refine kX7_isGround_64 (c6) (rfl) (Nat.le_of_ble_eq_true rfl) (Nat.le_of_ble_eq_true rfl) ⟨Nat.le_of_ble_eq_true rfl, Nat.le_of_ble_eq_true rfl⟩ ?_
          rintro _ _ ⟨rfl, rfl⟩
          refine kX7_isGround_67 (kc) (rfl) (Nat.le_of_ble_eq_true rfl) (Nat.le_of_ble_eq_true rfl) ⟨Nat.le_of_ble_eq_true rfl, Nat.le_of_ble_eq_true rfl⟩ ?_
          rintro _ _ ⟨rfl, rfl⟩
          refine oX7_isGround_70 _ _ _ _ _ _ ?_
          simp only [bX7_isGround_70, qsem, qopt_s, qopt2_s, qev, qxs, Nat.reduceEqDiff, reduceIte, and_true, true_and, and_false, false_and, and_self, or_true, true_or, qb_or, reduceCtorEq, qbr_True, qbr_False, q10, q01, qwC, qb_0]
          refine qbr_i (fun c4 => ?_) (fun c4 => ?_)
          · refine oX7_isGround_77 _ _ _ _ _ _ ?_
            simp only [bX7_isGround_77, qsem, qopt_s, qopt2_s, qev, qxs, Nat.reduceEqDiff, reduceIte, and_true, true_and, and_false, false_and, and_self, or_true, true_or, qb_or, reduceCtorEq, qbr_True, qbr_False, q10, q01, qwC, qb_0]
            refine oX7_isGround_78 _ _ _ _ _ _ ?_
            simp only [bX7_isGround_78, qsem, qopt_s, qopt2_s, qev, qxs, Nat.reduceEqDiff, reduceIte, and_true, true_and, and_false, false_and, and_self, or_true, true_or, qb_or, reduceCtorEq, qbr_True, qbr_False, q10, q01, qwC, qb_0]
            first | exact no (fun q => q.elim (fun z => by omega) (fun z => c1 z.2.1)) | exact no3 (fun q => by rw [q.1] at c2; exact Bool.noConfusion c2) | exact no3 (fun q => by rw [q.2.1] at c3; exact Bool.noConfusion c3) | exact no3 (fun q => by rw [q.2.2] at c4; exact Bool.noConfusion c4) | exact yes (Or.inr ⟨hs1, c1, hall.mp ⟨(Bool.not_eq_false _).mp c2, (Bool.not_eq_false _).mp c3, (Bool.not_eq_false _).mp c4⟩⟩)
          · refine oX7_isGround_78 _ _ _ _ _ _ ?_
            simp only [bX7_isGround_78, qsem, qopt_s, qopt2_s, qev, qxs, Nat.reduceEqDiff, reduceIte, and_true, true_and, and_false, false_and, and_self, or_true, true_or, qb_or, reduceCtorEq, qbr_True, qbr_False, q10, q01, qwC, qb_0]
            first | exact no (fun q => q.elim (fun z => by omega) (fun z => c1 z.2.1)) | exact no3 (fun q => by rw [q.1] at c2; exact Bool.noConfusion c2) | exact no3 (fun q => by rw [q.2.1] at c3; exact Bool.noConfusion c3) | exact no3 (fun q => by rw [q.2.2] at c4; exact Bool.noConfusion c4) | exact yes (Or.inr ⟨hs1, c1, hall.mp ⟨(Bool.not_eq_false _).mp c2, (Bool.not_eq_false _).mp c3, (Bool.not_eq_false _).mp c4⟩⟩)
    · refine oX7_isGround_77 _ _ _ _ _ _ ?_
      simp only [bX7_isGround_77, qsem, qopt_s, qopt2_s, qev, qxs, Nat.reduceEqDiff, reduceIte, and_true, true_and, and_false, false_and, and_self, or_true, true_or, qb_or, reduceCtorEq, qbr_True, qbr_False, q10, q01, qwC, qb_0]
      refine oX7_isGround_78 _ _ _ _ _ _ ?_
      simp only [bX7_isGround_78, qsem, qopt_s, qopt2_s, qev, qxs, Nat.reduceEqDiff, reduceIte, and_true, true_and, and_false, false_and, and_self, or_true, true_or, qb_or, reduceCtorEq, qbr_True, qbr_False, q10, q01, qwC, qb_0]
      first | exact no (fun q => q.elim (fun z => by omega) (fun z => c1 z.2.1)) | exact no3 (fun q => by rw [q.1] at c2; exact Bool.noConfusion c2) | exact no3 (fun q => by rw [q.2.1] at c3; exact Bool.noConfusion c3) | exact no3 (fun q => by rw [q.2.2] at c4; exact Bool.noConfusion c4) | exact yes (Or.inr ⟨hs1, c1, hall.mp ⟨(Bool.not_eq_false _).mp c2, (Bool.not_eq_false _).mp c3, (Bool.not_eq_false _).mp c4⟩⟩)
  · refine oX7_isGround_0 _ _ _ _ _ _ ?_
    simp only [bX7_isGround_0, qsem, qopt_s, qopt2_s, qev, qxs, Nat.reduceEqDiff, reduceIte, and_true, true_and, and_false, false_and, and_self, or_true, true_or, qb_or, reduceCtorEq, qbr_True, qbr_False, q10, q01, qwC, nI1l (show srt S n < 1000 by omega), nI0l (show srt S n < 1000 by omega)]
    refine kX7_isGround_3 (c0) (rfl) (Nat.le_of_ble_eq_true rfl) (Nat.le_of_ble_eq_true rfl) ⟨Nat.le_of_ble_eq_true rfl, Nat.le_of_ble_eq_true rfl⟩ ?_
    rintro _ _ ⟨rfl, rfl⟩
    refine oX7_isGround_6 _ _ _ _ _ _ ?_
    simp only [bX7_isGround_6, qsem, qopt_s, qopt2_s, qev, qxs, Nat.reduceEqDiff, reduceIte, and_true, true_and, and_false, false_and, and_self, or_true, true_or, qb_or, reduceCtorEq, qbr_True, qbr_False, q10, q01, qwC, nI1l (show srt S n < 1000 by omega), nI0l (show srt S n < 1000 by omega)]
    refine qbr_f (hs1) ?_
    refine qbr_i (fun c1 => ?_) (fun c1 => ?_)
    · refine oX7_isGround_21 _ _ _ _ _ _ ?_
      simp only [bX7_isGround_21, qsem, qopt_s, qopt2_s, qev, qxs, Nat.reduceEqDiff, reduceIte, and_true, true_and, and_false, false_and, and_self, or_true, true_or, qb_or, reduceCtorEq, qbr_True, qbr_False, q10, q01, qwC, nI1l (show srt S n < 1000 by omega), nI0l (show srt S n < 1000 by omega)]
      first | exact yes (Or.inl c1) | exact no (fun q => q.elim c1 (fun z => hs1 z.1))
    · refine oX7_isGround_20 _ _ _ _ _ _ ?_
      simp only [bX7_isGround_20, qsem, qopt_s, qopt2_s, qev, qxs, Nat.reduceEqDiff, reduceIte, and_true, true_and, and_false, false_and, and_self, or_true, true_or, qb_or, reduceCtorEq, qbr_True, qbr_False, q10, q01, qwC, nI1l (show srt S n < 1000 by omega), nI0l (show srt S n < 1000 by omega)]
      refine oX7_isGround_21 _ _ _ _ _ _ ?_
      simp only [bX7_isGround_21, qsem, qopt_s, qopt2_s, qev, qxs, Nat.reduceEqDiff, reduceIte, and_true, true_and, and_false, false_and, and_self, or_true, true_or, qb_or, reduceCtorEq, qbr_True, qbr_False, q10, q01, qwC, nI1l (show srt S n < 1000 by omega), nI0l (show srt S n < 1000 by omega)]
      first | exact yes (Or.inl c1) | exact no (fun q => q.elim c1 (fun z => hs1 z.1))


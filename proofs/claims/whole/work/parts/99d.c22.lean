/-! Arrays.fill -/
theorem qI_get {w : qW} {p n : Nat} {f g : Nat → Int32} (h : qgI w p 0 = some (n, f)) : qgI (qsI w p g) p 0 = some (n, g) := by
  have hw := qgI_s h
  unfold qgI qsI
  simp only [if_true, hw]
theorem qI_len {w : qW} {p n : Nat} {f g : Nat → Int32} (h : qgI w p 0 = some (n, f)) : qlen (qsI w p g) p = some (0, n) := by
  have hw := qgI_s h
  unfold qlen qsI
  simp only [if_true, hw]
  rfl
theorem qI_set {w : qW} {p n : Nat} {f g g' : Nat → Int32} (h : qgI w p 0 = some (n, f)) : qsI (qsI w p g) p g' = qsI w p g' := by
  have hw := qgI_s h
  refine Prod.ext rfl (funext fun q => ?_)
  unfold qsI
  by_cases e : q = p
  · simp only [e, if_true, hw]
  · simp only [e, if_false]
theorem qI_id {w : qW} {p n : Nat} {f : Nat → Int32} (h : qgI w p 0 = some (n, f)) : qsI w p f = w := by
  have hw := qgI_s h
  refine Prod.ext rfl (funext fun q => ?_)
  unfold qsI
  by_cases e : q = p
  · simp only [e, if_true, hw]
  · simp only [e, if_false]
def flF (f : Nat → Int32) (k : Nat) (v : Int32) : Nat → Int32 := fun j => if j < k then v else f j
theorem flF_up (f : Nat → Int32) (k : Nat) (v : Int32) : upd (flF f k v) k v = flF f (k + 1) v := by
  funext j
  unfold upd flF
  by_cases e : j = k
  · rw [if_pos e, if_pos (by omega)]
  · rw [if_neg e]
    by_cases h : j < k
    · rw [if_pos h, if_pos (by omega)]
    · rw [if_neg h, if_neg (by omega)]
theorem flF_0 (f : Nat → Int32) (v : Int32) : flF f 0 v = f := funext (fun j => if_neg (by omega))
set_option maxRecDepth 100000 in
set_option maxHeartbeats 4000000 in
theorem zJ7_fill_53178 {w : qW} {p n : Nat} {f : Nat → Int32} {v : Int32} (hg : qgI w p 0 = some (n, f)) (hn : n < 2 ^ 31) : CT mJ7_fill_53178 0 0 0 [.ref p, .int v] w (fun r' w' => r' = none ∧ w' = qsI w p (flF f n v)) := by
  have hl : qlen w p = some (0, n) := by have := qI_len (g := f) hg; rw [qI_id hg] at this; exact this
  refine eJ7_fill_53178 (AW_gen (fun Q hQ => ?_))
  have loop : ∀ (d k : Nat), k + d = n → AW (mJ7_fill_53178, 0, 0, 0, none, Q) 5 [some (.ref p), some (.int v), some (.int (nI k)), some (.int (nI n))] [] (qsI w p (flF f k v)) 0 0 := by
    intro d
    induction d with
    | zero =>
      intro k hk
      obtain rfl : k = n := by omega
      refine oJ7_fill_53178_5 _ _ _ _ _ _ ?_
      simp only [bJ7_fill_53178_5, qsem, qopt_s, qopt2_s, qev, qxs, Nat.reduceEqDiff, reduceIte, and_true, true_and, and_false, false_and, and_self, or_true, true_or, qb_or, reduceCtorEq, qbr_True, qbr_False, q10, q01, qwC]
      refine qbr_t ((Int32.le_refl _)) ?_
      refine oJ7_fill_53178_20 _ _ _ _ _ _ ?_
      simp only [bJ7_fill_53178_20, qsem, qopt_s, qopt2_s, qev, qxs, Nat.reduceEqDiff, reduceIte, and_true, true_and, and_false, false_and, and_self, or_true, true_or, qb_or, reduceCtorEq, qbr_True, qbr_False, q10, q01, qwC]
      exact hQ _ _ ⟨rfl, rfl⟩
    | succ d ih =>
      intro k hk
      refine oJ7_fill_53178_5 _ _ _ _ _ _ ?_
      simp only [bJ7_fill_53178_5, qsem, qopt_s, qopt2_s, qev, qxs, Nat.reduceEqDiff, reduceIte, and_true, true_and, and_false, false_and, and_self, or_true, true_or, qb_or, reduceCtorEq, qbr_True, qbr_False, q10, q01, qwC, qI_get hg, nI_clamp (show k < 2 ^ 31 by omega), qI_set hg, flF_up, nI_1]
      refine qbr_f (nI_ge (by omega) (by omega)) ?_
      refine ⟨nI_vp (by omega) (by omega), ?_⟩
      exact ih (k + 1) (by omega)
  have h0 := loop n 0 (by omega)
  rw [flF_0, qI_id hg] at h0
  refine oJ7_fill_53178_0 _ _ _ _ _ _ ?_
  simp only [bJ7_fill_53178_0, qsem, qopt_s, qopt2_s, qev, qxs, Nat.reduceEqDiff, reduceIte, and_true, true_and, and_false, false_and, and_self, or_true, true_or, qb_or, reduceCtorEq, qbr_True, qbr_False, q10, q01, qwC, hl]
  exact h0
/-! the proof of a file -/
def fsP1 (p : Nat → Bool) (n : Nat) (z : Int32) : Prop := (z = -1 ∧ ∀ m, m < n → p m = false) ∨ ∃ m, m < n ∧ z = nI m ∧ p m = true ∧ ∀ m', m' < m → p m' = false
theorem ffi_fst {p : Nat → Bool} {F : Nat} : ∀ k, k ≤ F → (∀ m, m < F - k → p m = false) → fsP1 p F (ffi p F k)
  | 0, _, h => Or.inl ⟨rfl, fun m hm => h m (by omega)⟩
  | k + 1, hk, h => by
    unfold ffi
    by_cases hp : p (F - (k + 1)) = true
    · rw [if_pos hp]
      exact Or.inr ⟨F - (k + 1), by omega, rfl, hp, fun m hm => h m hm⟩
    · rw [if_neg hp]
      refine ffi_fst k (by omega) (fun m hm => ?_)
      by_cases e : m = F - (k + 1)
      · rw [e]; exact (Bool.not_eq_true _).mp hp
      · exact h m (by omega)
theorem fsP1_one {p : Nat → Bool} {n : Nat} {y z : Int32} (hy : fsP1 p n y) (hz : fsP1 p n z) : y = z := by
  rcases hy with ⟨ey, ny⟩ | ⟨m, hm, ey, pm, lm⟩
  · rcases hz with ⟨ez, nz⟩ | ⟨m', hm', ez, pm', lm'⟩
    · rw [ey, ez]
    · rw [ny m' hm'] at pm'; exact Bool.noConfusion pm'
  · rcases hz with ⟨ez, nz⟩ | ⟨m', hm', ez, pm', lm'⟩
    · rw [nz m hm] at pm; exact Bool.noConfusion pm
    · have : m = m' := by
        rcases Nat.lt_trichotomy m m' with h | h | h
        · rw [lm' m h] at pm; exact Bool.noConfusion pm
        · exact h
        · rw [lm m' h] at pm'; exact Bool.noConfusion pm'
      rw [ey, ez, this]
theorem grd_cl {C : qC} {S : qS} (h1 : W1 S) (hC : iC C S) (n : Nat) : grd S (fun i => fB C 12 i = true) n ↔ grd S (cln S) n := by
  have hF := h1.2.2.1
  unfold grd
  refine or_congr Iff.rfl (and_congr Iff.rfl (and_congr Iff.rfl ?_))
  exact ⟨fun q k hk i hi hw => (hC i (by omega)).mp (q k hk i hi hw), fun q k hk i hi hw => (hC i (by omega)).mpr (q k hk i hi hw)⟩
set_option maxRecDepth 100000 in
set_option maxHeartbeats 4000000 in
theorem zX3_findGrounds {C M : qC} {r : Nat × Nat × Nat} {S : qS} (h1 : W1 S) (h2 : W2 S) (hI : iN C S) (hF : iF C S) (hC : iC C S) : CT mX3_findGrounds 3 0 0 [.ref 113, .ref 1, .ref 5] (wd C M r) (fun r' w' => ∃ g, r' = none ∧ w' = wd (yA C 114 g) M r ∧ ∀ f, f < cF S → g f = fo S f) := by
  have hN := h1.2.1
  have hF1 := h1.2.2.1
  refine eX3_findGrounds (AW_gen (fun Q hQ => ?_))
  have loop : ∀ (d n : Nat) (g : Nat → Int32) (o4 : Option Value), n + d = cN S → q_nb (some o4) = true → (∀ f, f < cF S → fsP1 (foB S f) n (g f)) → AW (mX3_findGrounds, 3, 0, 0, none, Q) 10 [some (.ref 113), some (.ref 1), some (.ref 5), some (.int (nI n)), o4] [] (wd (yA C 114 g) M r) 0 0 := by
    intro d
    induction d with
    | zero =>
      intro n g o4 hn q4 hg
      obtain rfl : n = cN S := by omega
      have e0 : xI (yA C 114 g) 1 3 = nI (cN S) := hI.1
      refine oX3_findGrounds_10 _ _ _ _ _ _ ?_
      simp only [bX3_findGrounds_10, qsem, qopt_s, qopt2_s, qev, qxs, Nat.reduceEqDiff, reduceIte, and_true, true_and, and_false, false_and, and_self, or_true, true_or, qb_or, reduceCtorEq, qbr_True, qbr_False, q10, q01, qwC, e0]
      refine kX3_findGrounds_12 (zX8_size_1) (rfl) (Nat.le_of_ble_eq_true rfl) (Nat.le_of_ble_eq_true rfl) ⟨Nat.le_of_ble_eq_true rfl, Nat.le_of_ble_eq_true rfl⟩ ?_
      rintro _ _ ⟨rfl, rfl⟩
      refine oX3_findGrounds_15 _ _ _ _ _ _ ?_
      simp only [bX3_findGrounds_15, qsem, qopt_s, qopt2_s, qev, qxs, Nat.reduceEqDiff, reduceIte, and_true, true_and, and_false, false_and, and_self, or_true, true_or, qb_or, reduceCtorEq, qbr_True, qbr_False, q10, q01, qwC, e0]
      refine qbr_t ((Int32.le_refl _)) ?_
      refine oX3_findGrounds_69 _ _ _ _ _ _ ?_
      simp only [bX3_findGrounds_69, qsem, qopt_s, qopt2_s, qev, qxs, Nat.reduceEqDiff, reduceIte, and_true, true_and, and_false, false_and, and_self, or_true, true_or, qb_or, reduceCtorEq, qbr_True, qbr_False, q10, q01, qwC, e0]
      exact hQ _ _ ⟨g, rfl, rfl, fun f hf => fsP1_one (hg f hf) (ffi_fst (cN S) (Nat.le_refl _) (fun m hm => by omega))⟩
    | succ d ih =>
      intro n g o4 hn q4 hg
      have hnN : n < cN S := by omega
      obtain ⟨-, ⟨eo, lo⟩, -, -⟩ := h2 n hnN
      have hI2 : iN (yA C 114 g) S := hI
      have hF2 : iF (yA C 114 g) S := hF
      have c1' := zX8_cN (C := yA C 114 g) (M := M) (r := r) 1 h1 hI2 hnN (by omega)
      rw [show ntV S n 1 = nI (ofN S n) from eo] at c1'
      have hgr := zX7_isGround (C := yA C 114 g) (M := M) (r := r) h1 h2 hI2 hnN
      rw [dc_c (grd_cl (C := yA C 114 g) h1 hC n)] at hgr
      have hco := nIcl (show ofN S n < 1000 by omega)
      have e0 : xI (yA C 114 g) 1 3 = nI (cN S) := hI.1
      have same : (∀ f, f < cF S → f = ofN S n → g f = -1 → ¬ grd S (cln S) n) → ∀ f, f < cF S → fsP1 (foB S f) (n + 1) (g f) := by
        intro hno f hf
        rcases hg f hf with ⟨e, a⟩ | ⟨m, hm, e, a, b⟩
        · refine Or.inl ⟨e, fun m hm => ?_⟩
          by_cases em : m = n
          · rw [em]; exact dcf (fun q => hno f hf q.1.symm e q.2)
          · exact a m (by omega)
        · exact Or.inr ⟨m, by omega, e, a, b⟩
      by_cases hz : g (ofN S n) = -1
      · by_cases hc : grd S (cln S) n
        · rw [dc_iff.mpr hc] at hgr
          have put : ∀ f, f < cF S → fsP1 (foB S f) (n + 1) (upd g (ofN S n) (nI n) f) := by
            intro f hf
            by_cases ef : f = ofN S n
            · rw [ef, pk_us]
              rcases hg (ofN S n) lo with ⟨-, a⟩ | ⟨m, hm, e, -, -⟩
              · exact Or.inr ⟨n, by omega, rfl, dc_iff.mpr ⟨rfl, hc⟩, a⟩
              · exact absurd (e.symm.trans hz) (i_nm1 (by omega))
            · rw [pk_un ef]
              rcases hg f hf with ⟨e, a⟩ | ⟨m, hm, e, a, b⟩
              · refine Or.inl ⟨e, fun m hm => ?_⟩
                by_cases em : m = n
                · rw [em]; exact dcf (fun q => ef q.1.symm)
                · exact a m (by omega)
              · exact Or.inr ⟨m, by omega, e, a, b⟩
          refine oX3_findGrounds_10 _ _ _ _ _ _ ?_
          simp only [bX3_findGrounds_10, qsem, qopt_s, qopt2_s, qev, qxs, Nat.reduceEqDiff, reduceIte, and_true, true_and, and_false, false_and, and_self, or_true, true_or, qb_or, reduceCtorEq, qbr_True, qbr_False, q10, q01, qwC, e0, hco, qb_t, nI_1, hz, nIcl (show n < 1000 by omega), yA_yA, if_true]
          refine kX3_findGrounds_12 (zX8_size_1) (rfl) (Nat.le_of_ble_eq_true rfl) (Nat.le_of_ble_eq_true rfl) ⟨Nat.le_of_ble_eq_true rfl, Nat.le_of_ble_eq_true rfl⟩ ?_
          rintro _ _ ⟨rfl, rfl⟩
          refine oX3_findGrounds_15 _ _ _ _ _ _ ?_
          simp only [bX3_findGrounds_15, qsem, qopt_s, qopt2_s, qev, qxs, Nat.reduceEqDiff, reduceIte, and_true, true_and, and_false, false_and, and_self, or_true, true_or, qb_or, reduceCtorEq, qbr_True, qbr_False, q10, q01, qwC, e0, hco, qb_t, nI_1, hz, nIcl (show n < 1000 by omega), yA_yA, if_true]
          refine qbr_f (nI_ge (by omega) (by omega)) ?_
          refine kX3_findGrounds_21 (c1') (rfl) (Nat.le_of_ble_eq_true rfl) (Nat.le_of_ble_eq_true rfl) ⟨Nat.le_of_ble_eq_true rfl, Nat.le_of_ble_eq_true rfl⟩ ?_
          rintro _ _ ⟨rfl, rfl⟩
          refine oX3_findGrounds_24 _ _ _ _ _ _ ?_
          simp only [bX3_findGrounds_24, qsem, qopt_s, qopt2_s, qev, qxs, Nat.reduceEqDiff, reduceIte, and_true, true_and, and_false, false_and, and_self, or_true, true_or, qb_or, reduceCtorEq, qbr_True, qbr_False, q10, q01, qwC, e0, hco, qb_t, nI_1, hz, nIcl (show n < 1000 by omega), yA_yA, if_true]
          refine kX3_findGrounds_29 ((show _ from (isF_nI h1 lo) ▸ zX7_has h1 hF2)) (rfl) (Nat.le_of_ble_eq_true rfl) (Nat.le_of_ble_eq_true rfl) ⟨Nat.le_of_ble_eq_true rfl, Nat.le_of_ble_eq_true rfl⟩ ?_
          rintro _ _ ⟨rfl, rfl⟩
          refine oX3_findGrounds_32 _ _ _ _ _ _ ?_
          simp only [bX3_findGrounds_32, qsem, qopt_s, qopt2_s, qev, qxs, Nat.reduceEqDiff, reduceIte, and_true, true_and, and_false, false_and, and_self, or_true, true_or, qb_or, reduceCtorEq, qbr_True, qbr_False, q10, q01, qwC, e0, hco, qb_t, nI_1, hz, nIcl (show n < 1000 by omega), yA_yA, if_true]
          refine ⟨nI_vp (by omega) (by omega), ?_⟩
          refine kX3_findGrounds_49 (hgr) (rfl) (Nat.le_of_ble_eq_true rfl) (Nat.le_of_ble_eq_true rfl) ⟨Nat.le_of_ble_eq_true rfl, Nat.le_of_ble_eq_true rfl⟩ ?_
          rintro _ _ ⟨rfl, rfl⟩
          refine oX3_findGrounds_52 _ _ _ _ _ _ ?_
          simp only [bX3_findGrounds_52, qsem, qopt_s, qopt2_s, qev, qxs, Nat.reduceEqDiff, reduceIte, and_true, true_and, and_false, false_and, and_self, or_true, true_or, qb_or, reduceCtorEq, qbr_True, qbr_False, q10, q01, qwC, e0, hco, qb_t, nI_1, hz, nIcl (show n < 1000 by omega), yA_yA, if_true]
          refine ⟨nI_vp (by omega) (by omega), ?_⟩
          refine oX3_findGrounds_63 _ _ _ _ _ _ ?_
          simp only [bX3_findGrounds_63, qsem, qopt_s, qopt2_s, qev, qxs, Nat.reduceEqDiff, reduceIte, and_true, true_and, and_false, false_and, and_self, or_true, true_or, qb_or, reduceCtorEq, qbr_True, qbr_False, q10, q01, qwC, e0, hco, qb_t, nI_1, hz, nIcl (show n < 1000 by omega), yA_yA, if_true]
          exact ih (n + 1) _ _ (by omega) rfl put
        · rw [dcf hc] at hgr
          refine oX3_findGrounds_10 _ _ _ _ _ _ ?_
          simp only [bX3_findGrounds_10, qsem, qopt_s, qopt2_s, qev, qxs, Nat.reduceEqDiff, reduceIte, and_true, true_and, and_false, false_and, and_self, or_true, true_or, qb_or, reduceCtorEq, qbr_True, qbr_False, q10, q01, qwC, e0, hco, qb_t, qb_f, nI_1, hz, if_true]
          refine kX3_findGrounds_12 (zX8_size_1) (rfl) (Nat.le_of_ble_eq_true rfl) (Nat.le_of_ble_eq_true rfl) ⟨Nat.le_of_ble_eq_true rfl, Nat.le_of_ble_eq_true rfl⟩ ?_
          rintro _ _ ⟨rfl, rfl⟩
          refine oX3_findGrounds_15 _ _ _ _ _ _ ?_
          simp only [bX3_findGrounds_15, qsem, qopt_s, qopt2_s, qev, qxs, Nat.reduceEqDiff, reduceIte, and_true, true_and, and_false, false_and, and_self, or_true, true_or, qb_or, reduceCtorEq, qbr_True, qbr_False, q10, q01, qwC, e0, hco, qb_t, qb_f, nI_1, hz, if_true]
          refine qbr_f (nI_ge (by omega) (by omega)) ?_
          refine kX3_findGrounds_21 (c1') (rfl) (Nat.le_of_ble_eq_true rfl) (Nat.le_of_ble_eq_true rfl) ⟨Nat.le_of_ble_eq_true rfl, Nat.le_of_ble_eq_true rfl⟩ ?_
          rintro _ _ ⟨rfl, rfl⟩
          refine oX3_findGrounds_24 _ _ _ _ _ _ ?_
          simp only [bX3_findGrounds_24, qsem, qopt_s, qopt2_s, qev, qxs, Nat.reduceEqDiff, reduceIte, and_true, true_and, and_false, false_and, and_self, or_true, true_or, qb_or, reduceCtorEq, qbr_True, qbr_False, q10, q01, qwC, e0, hco, qb_t, qb_f, nI_1, hz, if_true]
          refine kX3_findGrounds_29 ((show _ from (isF_nI h1 lo) ▸ zX7_has h1 hF2)) (rfl) (Nat.le_of_ble_eq_true rfl) (Nat.le_of_ble_eq_true rfl) ⟨Nat.le_of_ble_eq_true rfl, Nat.le_of_ble_eq_true rfl⟩ ?_
          rintro _ _ ⟨rfl, rfl⟩
          refine oX3_findGrounds_32 _ _ _ _ _ _ ?_
          simp only [bX3_findGrounds_32, qsem, qopt_s, qopt2_s, qev, qxs, Nat.reduceEqDiff, reduceIte, and_true, true_and, and_false, false_and, and_self, or_true, true_or, qb_or, reduceCtorEq, qbr_True, qbr_False, q10, q01, qwC, e0, hco, qb_t, qb_f, nI_1, hz, if_true]
          refine ⟨nI_vp (by omega) (by omega), ?_⟩
          refine kX3_findGrounds_49 (hgr) (rfl) (Nat.le_of_ble_eq_true rfl) (Nat.le_of_ble_eq_true rfl) ⟨Nat.le_of_ble_eq_true rfl, Nat.le_of_ble_eq_true rfl⟩ ?_
          rintro _ _ ⟨rfl, rfl⟩
          refine oX3_findGrounds_52 _ _ _ _ _ _ ?_
          simp only [bX3_findGrounds_52, qsem, qopt_s, qopt2_s, qev, qxs, Nat.reduceEqDiff, reduceIte, and_true, true_and, and_false, false_and, and_self, or_true, true_or, qb_or, reduceCtorEq, qbr_True, qbr_False, q10, q01, qwC, e0, hco, qb_t, qb_f, nI_1, hz, if_true]
          refine oX3_findGrounds_63 _ _ _ _ _ _ ?_
          simp only [bX3_findGrounds_63, qsem, qopt_s, qopt2_s, qev, qxs, Nat.reduceEqDiff, reduceIte, and_true, true_and, and_false, false_and, and_self, or_true, true_or, qb_or, reduceCtorEq, qbr_True, qbr_False, q10, q01, qwC, e0, hco, qb_t, qb_f, nI_1, hz, if_true]
          exact ih (n + 1) g _ (by omega) rfl (same (fun _ _ _ _ => hc))
      · refine oX3_findGrounds_10 _ _ _ _ _ _ ?_
        simp only [bX3_findGrounds_10, qsem, qopt_s, qopt2_s, qev, qxs, Nat.reduceEqDiff, reduceIte, and_true, true_and, and_false, false_and, and_self, or_true, true_or, qb_or, reduceCtorEq, qbr_True, qbr_False, q10, q01, qwC, e0, hco, qb_t, nI_1, if_true]
        refine kX3_findGrounds_12 (zX8_size_1) (rfl) (Nat.le_of_ble_eq_true rfl) (Nat.le_of_ble_eq_true rfl) ⟨Nat.le_of_ble_eq_true rfl, Nat.le_of_ble_eq_true rfl⟩ ?_
        rintro _ _ ⟨rfl, rfl⟩
        refine oX3_findGrounds_15 _ _ _ _ _ _ ?_
        simp only [bX3_findGrounds_15, qsem, qopt_s, qopt2_s, qev, qxs, Nat.reduceEqDiff, reduceIte, and_true, true_and, and_false, false_and, and_self, or_true, true_or, qb_or, reduceCtorEq, qbr_True, qbr_False, q10, q01, qwC, e0, hco, qb_t, nI_1, if_true]
        refine qbr_f (nI_ge (by omega) (by omega)) ?_
        refine kX3_findGrounds_21 (c1') (rfl) (Nat.le_of_ble_eq_true rfl) (Nat.le_of_ble_eq_true rfl) ⟨Nat.le_of_ble_eq_true rfl, Nat.le_of_ble_eq_true rfl⟩ ?_
        rintro _ _ ⟨rfl, rfl⟩
        refine oX3_findGrounds_24 _ _ _ _ _ _ ?_
        simp only [bX3_findGrounds_24, qsem, qopt_s, qopt2_s, qev, qxs, Nat.reduceEqDiff, reduceIte, and_true, true_and, and_false, false_and, and_self, or_true, true_or, qb_or, reduceCtorEq, qbr_True, qbr_False, q10, q01, qwC, e0, hco, qb_t, nI_1, if_true]
        refine kX3_findGrounds_29 ((show _ from (isF_nI h1 lo) ▸ zX7_has h1 hF2)) (rfl) (Nat.le_of_ble_eq_true rfl) (Nat.le_of_ble_eq_true rfl) ⟨Nat.le_of_ble_eq_true rfl, Nat.le_of_ble_eq_true rfl⟩ ?_
        rintro _ _ ⟨rfl, rfl⟩
        refine oX3_findGrounds_32 _ _ _ _ _ _ ?_
        simp only [bX3_findGrounds_32, qsem, qopt_s, qopt2_s, qev, qxs, Nat.reduceEqDiff, reduceIte, and_true, true_and, and_false, false_and, and_self, or_true, true_or, qb_or, reduceCtorEq, qbr_True, qbr_False, q10, q01, qwC, e0, hco, qb_t, nI_1, if_true]
        refine ⟨nI_vp (by omega) (by omega), ?_⟩
        refine qbr_f (hz) ?_
        refine oX3_findGrounds_63 _ _ _ _ _ _ ?_
        simp only [bX3_findGrounds_63, qsem, qopt_s, qopt2_s, qev, qxs, Nat.reduceEqDiff, reduceIte, and_true, true_and, and_false, false_and, and_self, or_true, true_or, qb_or, reduceCtorEq, qbr_True, qbr_False, q10, q01, qwC, e0, hco, qb_t, nI_1, if_true]
        exact ih (n + 1) g _ (by omega) rfl (same (fun f _ e z => absurd (by rw [← e]; exact z) hz))
  have hfl := zJ7_fill_53178 (w := wd C M r) (p := 114) (n := 100) (f := xA C 114) (v := -1) rfl (by omega)
  rw [qwC_104] at hfl
  refine oX3_findGrounds_0 _ _ _ _ _ _ ?_
  simp only [bX3_findGrounds_0, qsem, qopt_s, qopt2_s, qev, qxs, Nat.reduceEqDiff, reduceIte, and_true, true_and, and_false, false_and, and_self, or_true, true_or, qb_or, reduceCtorEq, qbr_True, qbr_False, q10, q01, qwC]
  refine kX3_findGrounds_5 (hfl) (Nat.le_of_ble_eq_true rfl) (Nat.le_of_ble_eq_true rfl) ⟨Nat.le_of_ble_eq_true rfl, Nat.le_of_ble_eq_true rfl⟩ ?_
  rintro _ _ ⟨rfl, rfl⟩
  refine oX3_findGrounds_8 _ _ _ _ _ _ ?_
  simp only [bX3_findGrounds_8, qsem, qopt_s, qopt2_s, qev, qxs, Nat.reduceEqDiff, reduceIte, and_true, true_and, and_false, false_and, and_self, or_true, true_or, qb_or, reduceCtorEq, qbr_True, qbr_False, q10, q01, qwC]
  exact loop (cN S) 0 _ none (by omega) rfl (fun f hf => Or.inl ⟨if_pos (by omega), fun m hm => by omega⟩)


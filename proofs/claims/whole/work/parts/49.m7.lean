set_option maxRecDepth 100000 in
set_option maxHeartbeats 4000000 in
theorem zX11_rowOf {C M : qC} {r : Nat × Nat × Nat} {S : qS} {f : Nat} (hS : pj M = S) (h1 : W1 S) (h2 : W2 S) (hf : f < cF S) : CT mX11_rowOf 2 0 0 [.ref 136, .int (nI f)] (wd C M r) (fun r' w' => ∃ M' ρ', r' = none ∧ w' = wd C M' r ∧ pj M' = S ∧ rB M' 157 ρ' ∧ ∀ i, ρ' i = true ↔ reach S f i) := by
  refine eX11_rowOf (AW_gen (fun Q hQ => ?_))
  refine oX11_rowOf_0 _ _ _ _ _ _ ?_
  simp only [bX11_rowOf_0, qsem, qopt_s, qopt2_s, qev, qxs, Nat.reduceEqDiff, reduceIte, and_true, true_and, and_false, false_and, and_self, or_true, true_or, qb_or, reduceCtorEq, qbr_True, qbr_False, q10, q01, qwM]
  have loop : ∀ (j k : Nat) (M : qC), k + j = 100 → pj M = S → (∀ i, i < k → xA M 157 i = 0) → AW (mX11_rowOf, 2, 0, 0, none, Q) 2 [some (.ref 136), some (.int (nI f)), some (.int (nI k))] [] (wd C M r) 0 0 := by
    intro j
    induction j with
    | zero =>
      intro k M hk hS hz
      obtain rfl : k = 100 := by omega
      refine oX11_rowOf_2 _ _ _ _ _ _ ?_
      simp only [bX11_rowOf_2, qsem, qopt_s, qopt2_s, qev, qxs, Nat.reduceEqDiff, reduceIte, and_true, true_and, and_false, false_and, and_self, or_true, true_or, qb_or, reduceCtorEq, qbr_True, qbr_False, q10, q01, qwM]
      refine qbr_t ((by decide)) ?_
      refine oX11_rowOf_21 _ _ _ _ _ _ ?_
      simp only [bX11_rowOf_21, qsem, qopt_s, qopt2_s, qev, qxs, Nat.reduceEqDiff, reduceIte, and_true, true_and, and_false, false_and, and_self, or_true, true_or, qb_or, reduceCtorEq, qbr_True, qbr_False, q10, q01, qwM]
      refine kX11_rowOf_23 (zX11_addRow (ρ := fun _ => false) hS h1 h2 hf (fun i hi => hz i hi) (fun x y h => absurd h (by simp)) (fun i h => absurd h (by simp))) rfl (Nat.le_of_ble_eq_true rfl) (Nat.le_of_ble_eq_true rfl) ⟨Nat.le_of_ble_eq_true rfl, Nat.le_of_ble_eq_true rfl⟩ ?_
      rintro _ _ ⟨M1, ρ1, rfl, rfl, hS1, hr1, hi1⟩
      refine oX11_rowOf_26 _ _ _ _ _ _ ?_
      simp only [bX11_rowOf_26, qsem, qopt_s, qopt2_s, qev, qxs, Nat.reduceEqDiff, reduceIte, and_true, true_and, and_false, false_and, and_self, or_true, true_or, qb_or, reduceCtorEq, qbr_True, qbr_False, q10, q01, qwM]
      exact hQ _ _ ⟨M1, ρ1, rfl, rfl, hS1, hr1, fun i => by rw [hi1]; simp⟩
    | succ j ih =>
      intro k M hk hS hz
      refine oX11_rowOf_2 _ _ _ _ _ _ ?_
      simp only [bX11_rowOf_2, qsem, qopt_s, qopt2_s, qev, qxs, Nat.reduceEqDiff, reduceIte, and_true, true_and, and_false, false_and, and_self, or_true, true_or, qb_or, reduceCtorEq, qbr_True, qbr_False, q10, q01, qwM, nIcl (show k < 1000 by omega), nI_1]
      refine qbr_f (nI_ge (b := 100) (by omega) (by omega)) ?_
      refine ⟨nI_vp (by omega) (by omega), ?_⟩
      refine ih (k + 1) _ (by omega) (by simp only [pjs]; exact hS) (fun i hi => ?_)
      simp only [qxs, Nat.reduceEqDiff, reduceIte, upd]
      split
      · rfl
      · exact hz i (by omega)
  exact loop 100 0 M rfl hS (fun i hi => by omega)
/-! clean -/
def grd (S : qS) (P : Nat → Prop) (n : Nat) : Prop := srt S n = 0 ∨ (srt S n = 1 ∧ S.2.1 146 n = 1 ∧ ∀ k, k < 3 → ∀ i, i < cF S → wnt S n k = nI i → P i)
def cln (S : qS) (g : Nat) : Prop := ∀ P : Nat → Prop, (∀ n, n < cN S → grd S P n → P (ofN S n)) → P g
theorem grd_mono {S : qS} {P P' : Nat → Prop} {n : Nat} (h : ∀ i, P i → P' i) (g : grd S P n) : grd S P' n := g.imp id (fun q => ⟨q.1, q.2.1, fun k hk i hi hw => h i (q.2.2 k hk i hi hw)⟩)
theorem cln_of {S : qS} {n : Nat} (hn : n < cN S) (h : grd S (cln S) n) : cln S (ofN S n) := fun P hP => hP n hn (grd_mono (fun i q => q P hP) h)
theorem cln_lt {S : qS} (h2 : W2 S) {g : Nat} (h : cln S g) : g < cF S := h (fun x => x < cF S) (fun n hn _ => (h2 n hn).2.1.2)
def alC (S : qS) (cur : Nat → Bool) (n : Nat) : Prop := ∀ k, k < 3 → ∀ i, i < cF S → wnt S n k = nI i → cur i = true
set_option maxRecDepth 100000 in
set_option maxHeartbeats 4000000 in
theorem zX11_allClean {C M : qC} {r : Nat × Nat × Nat} {S : qS} {cur : Nat → Bool} {n : Nat} (hS : pj M = S) (h1 : W1 S) (h2 : W2 S) (hn : n < cN S) (hc : rB M 159 cur) : CT mX11_allClean 1 0 0 [.ref 136, .int (nI n)] (wd C M r) (fun r' w' => w' = wd C M r ∧ ∃ b : Bool, r' = some (.int (qb b)) ∧ (b = true ↔ alC S cur n)) := by
  have hF := h1.2.2.1
  have hN := h1.2.1
  refine eX11_allClean (AW_gen (fun Q hQ => ?_))
  refine oX11_allClean_0 _ _ _ _ _ _ ?_
  simp only [bX11_allClean_0, qsem, qopt_s, qopt2_s, qev, qxs, Nat.reduceEqDiff, reduceIte, and_true, true_and, and_false, false_and, and_self, or_true, true_or, qb_or, reduceCtorEq, qbr_True, qbr_False, q10, q01, qwM]
  have loop : ∀ (j k : Nat) (o : Option Value), q_nb (some o) = true → k + j = 3 → (∀ k', k' < k → ∀ i, i < cF S → wnt S n k' = nI i → cur i = true) → AW (mX11_allClean, 1, 0, 0, none, Q) 2 [some (.ref 136), some (.int (nI n)), some (.int (nI k)), o] [] (wd C M r) 0 0 := by
    intro j
    induction j with
    | zero =>
      intro k o ho hk hz
      obtain rfl : k = 3 := by omega
      refine oX11_allClean_2 _ _ _ _ _ _ ?_
      simp only [bX11_allClean_2, qsem, qopt_s, qopt2_s, qev, qxs, Nat.reduceEqDiff, reduceIte, and_true, true_and, and_false, false_and, and_self, or_true, true_or, qb_or, reduceCtorEq, qbr_True, qbr_False, q10, q01, qwM]
      refine qbr_t ((by decide)) ?_
      refine oX11_allClean_36 _ _ _ _ _ _ ?_
      simp only [bX11_allClean_36, qsem, qopt_s, qopt2_s, qev, qxs, Nat.reduceEqDiff, reduceIte, and_true, true_and, and_false, false_and, and_self, or_true, true_or, qb_or, reduceCtorEq, qbr_True, qbr_False, q10, q01, qwM]
      exact hQ _ _ ⟨rfl, true, rfl, by simp; exact hz⟩
    | succ j ih =>
      intro k o ho hk hz
      have nxt : (∀ i, i < cF S → wnt S n k = nI i → cur i = true) → ∀ k', k' < k + 1 → ∀ i, i < cF S → wnt S n k' = nI i → cur i = true := fun h k' hk' i hi hw => by
        by_cases e : k' = k
        · rw [e] at hw; exact h i hi hw
        · exact hz k' (by omega) i hi hw
      rcases W2_k h2 hn (show k < 3 by omega) with hw | ⟨i, hi, hw⟩
      · refine oX11_allClean_2 _ _ _ _ _ _ ?_
        simp only [bX11_allClean_2, qsem, qopt_s, qopt2_s, qev, qxs, Nat.reduceEqDiff, reduceIte, and_true, true_and, and_false, false_and, and_self, or_true, true_or, qb_or, reduceCtorEq, qbr_True, qbr_False, q10, q01, qwM, hw, nI_1]
        refine qbr_f (nI_ge (b := 3) (by omega) (by omega)) ?_
        refine kX11_allClean_10 (zX11_went hS (show n < 400 by omega) (show k < 3 by omega)) rfl (Nat.le_of_ble_eq_true rfl) (Nat.le_of_ble_eq_true rfl) ⟨Nat.le_of_ble_eq_true rfl, Nat.le_of_ble_eq_true rfl⟩ ?_
        rintro _ _ ⟨rfl, rfl⟩
        refine oX11_allClean_13 _ _ _ _ _ _ ?_
        simp only [bX11_allClean_13, qsem, qopt_s, qopt2_s, qev, qxs, Nat.reduceEqDiff, reduceIte, and_true, true_and, and_false, false_and, and_self, or_true, true_or, qb_or, reduceCtorEq, qbr_True, qbr_False, q10, q01, qwM, hw, nI_1]
        refine oX11_allClean_30 _ _ _ _ _ _ ?_
        simp only [bX11_allClean_30, qsem, qopt_s, qopt2_s, qev, qxs, Nat.reduceEqDiff, reduceIte, and_true, true_and, and_false, false_and, and_self, or_true, true_or, qb_or, reduceCtorEq, qbr_True, qbr_False, q10, q01, qwM, hw, nI_1]
        exact ih (k + 1) _ rfl (by omega) (nxt (fun i hi h => absurd (h.symm.trans hw) (i_nm1 (by omega))))
      · by_cases hci : cur i = true
        · refine oX11_allClean_2 _ _ _ _ _ _ ?_
          simp only [bX11_allClean_2, qsem, qopt_s, qopt2_s, qev, qxs, Nat.reduceEqDiff, reduceIte, and_true, true_and, and_false, false_and, and_self, or_true, true_or, qb_or, reduceCtorEq, qbr_True, qbr_False, q10, q01, qwM, hw, nI_1, nIcl (show i < 1000 by omega), rB_at hc (show i < 100 by omega), hci, qb_t]
          refine qbr_f (nI_ge (b := 3) (by omega) (by omega)) ?_
          refine kX11_allClean_10 (zX11_went hS (show n < 400 by omega) (show k < 3 by omega)) rfl (Nat.le_of_ble_eq_true rfl) (Nat.le_of_ble_eq_true rfl) ⟨Nat.le_of_ble_eq_true rfl, Nat.le_of_ble_eq_true rfl⟩ ?_
          rintro _ _ ⟨rfl, rfl⟩
          refine oX11_allClean_13 _ _ _ _ _ _ ?_
          simp only [bX11_allClean_13, qsem, qopt_s, qopt2_s, qev, qxs, Nat.reduceEqDiff, reduceIte, and_true, true_and, and_false, false_and, and_self, or_true, true_or, qb_or, reduceCtorEq, qbr_True, qbr_False, q10, q01, qwM, hw, nI_1, nIcl (show i < 1000 by omega), rB_at hc (show i < 100 by omega), hci, qb_t]
          refine qbr_f (i_nm1 (by omega)) ?_
          refine ⟨nI_vp (by omega) (by omega), ?_⟩
          refine oX11_allClean_30 _ _ _ _ _ _ ?_
          simp only [bX11_allClean_30, qsem, qopt_s, qopt2_s, qev, qxs, Nat.reduceEqDiff, reduceIte, and_true, true_and, and_false, false_and, and_self, or_true, true_or, qb_or, reduceCtorEq, qbr_True, qbr_False, q10, q01, qwM, hw, nI_1, nIcl (show i < 1000 by omega), rB_at hc (show i < 100 by omega), hci, qb_t]
          exact ih (k + 1) _ rfl (by omega) (nxt (fun i' hi' h => by rw [i_ninj (by omega) (by omega) (h.symm.trans hw)]; exact hci))
        · refine oX11_allClean_2 _ _ _ _ _ _ ?_
          simp only [bX11_allClean_2, qsem, qopt_s, qopt2_s, qev, qxs, Nat.reduceEqDiff, reduceIte, and_true, true_and, and_false, false_and, and_self, or_true, true_or, qb_or, reduceCtorEq, qbr_True, qbr_False, q10, q01, qwM, hw, nI_1, nIcl (show i < 1000 by omega), rB_at hc (show i < 100 by omega), (show cur i = false by simpa using hci), qb_f]
          refine qbr_f (nI_ge (b := 3) (by omega) (by omega)) ?_
          refine kX11_allClean_10 (zX11_went hS (show n < 400 by omega) (show k < 3 by omega)) rfl (Nat.le_of_ble_eq_true rfl) (Nat.le_of_ble_eq_true rfl) ⟨Nat.le_of_ble_eq_true rfl, Nat.le_of_ble_eq_true rfl⟩ ?_
          rintro _ _ ⟨rfl, rfl⟩
          refine oX11_allClean_13 _ _ _ _ _ _ ?_
          simp only [bX11_allClean_13, qsem, qopt_s, qopt2_s, qev, qxs, Nat.reduceEqDiff, reduceIte, and_true, true_and, and_false, false_and, and_self, or_true, true_or, qb_or, reduceCtorEq, qbr_True, qbr_False, q10, q01, qwM, hw, nI_1, nIcl (show i < 1000 by omega), rB_at hc (show i < 100 by omega), (show cur i = false by simpa using hci), qb_f]
          refine qbr_f (i_nm1 (by omega)) ?_
          refine ⟨nI_vp (by omega) (by omega), ?_⟩
          exact hQ _ _ ⟨rfl, false, rfl, by simp; exact fun h => hci (h k (by omega) i hi hw)⟩
  exact loop 3 0 none rfl rfl (fun k' hk' => by omega)
def clI (S : qS) (cur : Nat → Bool) : Prop := ∀ i, cur i = true → cln S i
def clD (S : qS) (cur : Nat → Bool) (n : Nat) : Prop := ∀ n', n' < n → n' < cN S → grd S (fun i => cur i = true) n' → cur (ofN S n') = true
theorem cl_end {S : qS} {cur : Nat → Bool} (hI : clI S cur) (hD : clD S cur (cN S)) (i : Nat) : cur i = true ↔ cln S i := ⟨hI i, fun h => h (fun i => cur i = true) (fun n hn g => hD n hn hn g)⟩
set_option maxRecDepth 100000 in
set_option maxHeartbeats 4000000 in
theorem zX11_findClean {C M : qC} {r : Nat × Nat × Nat} {S : qS} (hS : pj M = S) (h1 : W1 S) (h2 : W2 S) : CT mX11_findClean 2 0 0 [.ref 136] (wd C M r) (fun r' w' => ∃ M' ρ', r' = none ∧ w' = wd C M' r ∧ pj M' = S ∧ rB M' 159 ρ' ∧ ∀ i, ρ' i = true ↔ cln S i) := by
  have hF := h1.2.2.1
  have hN := h1.2.1
  refine eX11_findClean (AW_gen (fun Q hQ => ?_))
  refine oX11_findClean_0 _ _ _ _ _ _ ?_
  simp only [bX11_findClean_0, qsem, qopt_s, qopt2_s, qev, qxs, Nat.reduceEqDiff, reduceIte, and_true, true_and, and_false, false_and, and_self, or_true, true_or, qb_or, reduceCtorEq, qbr_True, qbr_False, q10, q01, qwM]
  have outer : ∀ (μ : Nat) (M : qC) (cur : Nat → Bool) (b : Bool) (o2 o3 : Option Value), q_nb (some o2) = true → q_nb (some o3) = true → pj M = S → rB M 159 cur → clI S cur → (b = false → clD S cur (cN S)) → 100 - fb_ct cur 100 < μ → AW (mX11_findClean, 2, 0, 0, none, Q) 23 [some (.ref 136), some (.int (qb b)), o2, o3] [] (wd C M r) 0 0 := by
    intro μ
    induction μ with
    | zero => intro M cur b o2 o3 _ _ _ _ _ _ hμ; omega
    | succ μ ih =>
      intro M cur b o2 o3 q2 q3 hS hr hI hb hμ
      cases b with
      | false =>
        refine oX11_findClean_23 _ _ _ _ _ _ ?_
        simp only [bX11_findClean_23, qsem, qopt_s, qopt2_s, qev, qxs, Nat.reduceEqDiff, reduceIte, and_true, true_and, and_false, false_and, and_self, or_true, true_or, qb_or, reduceCtorEq, qbr_True, qbr_False, q10, q01, qwM, qb_f]
        refine oX11_findClean_123 _ _ _ _ _ _ ?_
        simp only [bX11_findClean_123, qsem, qopt_s, qopt2_s, qev, qxs, Nat.reduceEqDiff, reduceIte, and_true, true_and, and_false, false_and, and_self, or_true, true_or, qb_or, reduceCtorEq, qbr_True, qbr_False, q10, q01, qwM, qb_f]
        exact hQ _ _ ⟨M, cur, rfl, rfl, hS, hr, cl_end hI (hb rfl)⟩
      | true =>
        have hct0 := fb_ct_le cur 100
        have mid : ∀ (j n : Nat) (M : qC) (cur : Nat → Bool) (b : Bool) (o3 : Option Value), q_nb (some o3) = true → n + j = cN S → pj M = S → rB M 159 cur → clI S cur → (b = false → clD S cur n) → 100 - fb_ct cur 100 + (if b then 1 else 0) < μ + 1 → AW (mX11_findClean, 2, 0, 0, none, Q) 31 [some (.ref 136), some (.int (qb b)), some (.int (nI n)), o3] [] (wd C M r) 0 0 := by
          intro j
          induction j with
          | zero =>
            intro n M cur b o3 q3 hn hS hr hI hb hμ
            obtain rfl : n = cN S := by omega
            have hcl' : ¬ b = false → 100 - fb_ct cur 100 < μ := fun h => by cases b <;> simp_all
            cases b with
            | true =>
              refine oX11_findClean_31 _ _ _ _ _ _ ?_
              simp only [bX11_findClean_31, qsem, qopt_s, qopt2_s, qev, qxs, Nat.reduceEqDiff, reduceIte, and_true, true_and, and_false, false_and, and_self, or_true, true_or, qb_or, reduceCtorEq, qbr_True, qbr_False, q10, q01, qwM, pjx hS, h1.1.1]
              refine qbr_t ((Int32.le_refl _)) ?_
              refine oX11_findClean_120 _ _ _ _ _ _ ?_
              simp only [bX11_findClean_120, qsem, qopt_s, qopt2_s, qev, qxs, Nat.reduceEqDiff, reduceIte, and_true, true_and, and_false, false_and, and_self, or_true, true_or, qb_or, reduceCtorEq, qbr_True, qbr_False, q10, q01, qwM, pjx hS, h1.1.1]
              exact ih M cur true _ o3 rfl q3 hS hr hI (fun h => absurd h (by simp)) (hcl' (by simp))
            | false =>
              refine oX11_findClean_31 _ _ _ _ _ _ ?_
              simp only [bX11_findClean_31, qsem, qopt_s, qopt2_s, qev, qxs, Nat.reduceEqDiff, reduceIte, and_true, true_and, and_false, false_and, and_self, or_true, true_or, qb_or, reduceCtorEq, qbr_True, qbr_False, q10, q01, qwM, pjx hS, h1.1.1]
              refine qbr_t ((Int32.le_refl _)) ?_
              refine oX11_findClean_120 _ _ _ _ _ _ ?_
              simp only [bX11_findClean_120, qsem, qopt_s, qopt2_s, qev, qxs, Nat.reduceEqDiff, reduceIte, and_true, true_and, and_false, false_and, and_self, or_true, true_or, qb_or, reduceCtorEq, qbr_True, qbr_False, q10, q01, qwM, pjx hS, h1.1.1]
              refine oX11_findClean_23 _ _ _ _ _ _ ?_
              simp only [bX11_findClean_23, qsem, qopt_s, qev, qb_f, qbr_True]
              refine oX11_findClean_123 _ _ _ _ _ _ ?_
              simp only [bX11_findClean_123, qsem, qopt_s, qev]
              exact hQ _ _ ⟨M, cur, rfl, rfl, hS, hr, cl_end hI (hb rfl)⟩
          | succ j ihj =>
            intro n M cur b o3 q3 hn hS hr hI hb hμ
            have hnN : n < cN S := by omega
            obtain ⟨⟨es, ls⟩, ⟨eo, lo⟩, -, -⟩ := h2 n hnN
            have hct := fb_ct_le cur 100
            have skip : (grd S (fun i => cur i = true) n → cur (ofN S n) = true) → ∀ o3 : Option Value, q_nb (some o3) = true → AW (mX11_findClean, 2, 0, 0, none, Q) 114 [some (.ref 136), some (.int (qb b)), some (.int (nI n)), o3] [] (wd C M r) 0 0 := by
              intro hg o3 q3
              refine oX11_findClean_114 _ _ _ _ _ _ ?_
              simp only [bX11_findClean_114, qsem, qopt_s, qopt2_s, qev, qxs, Nat.reduceEqDiff, reduceIte, and_true, true_and, and_false, false_and, and_self, or_true, true_or, qb_or, reduceCtorEq, qbr_True, qbr_False, q10, q01, qwM, nI_1]
              exact ihj (n + 1) M cur b o3 q3 (by omega) hS hr hI (fun h n' h1' h2' g => by
                by_cases e : n' = n
                · rw [e] at g ⊢; exact hg g
                · exact hb h n' (by omega) h2' g) hμ
            have made : ∀ (b2 : Bool), (b2 = true ↔ grd S (fun i => cur i = true) n) → AW (mX11_findClean, 2, 0, 0, none, Q) 81 [some (.ref 136), some (.int (qb b)), some (.int (nI n)), o3] [.int (qb b2)] (wd C M r) 0 0 := by
              intro b2 hb2
              cases b2 with
              | false =>
                refine oX11_findClean_81 _ _ _ _ _ _ ?_
                simp only [bX11_findClean_81, qsem, qopt_s, qopt2_s, qev, qxs, Nat.reduceEqDiff, reduceIte, and_true, true_and, and_false, false_and, and_self, or_true, true_or, qb_or, reduceCtorEq, qbr_True, qbr_False, q10, q01, qwM, qb_f]
                exact skip (fun g => absurd (hb2.mpr g) (by simp)) _ rfl
              | true =>
                have hg := hb2.mp rfl
                by_cases hco : cur (ofN S n) = true
                · refine oX11_findClean_81 _ _ _ _ _ _ ?_
                  simp only [bX11_findClean_81, qsem, qopt_s, qopt2_s, qev, qxs, Nat.reduceEqDiff, reduceIte, and_true, true_and, and_false, false_and, and_self, or_true, true_or, qb_or, reduceCtorEq, qbr_True, qbr_False, q10, q01, qwM, qb_t, pjx hS, nIcl (show n < 1000 by omega), eo, nIcl (show ofN S n < 1000 by omega), rB_at hr (show ofN S n < 100 by omega), hco]
                  refine ⟨nI_vp (by omega) (by omega), ?_⟩
                  refine ⟨nI_vp (by omega) (by omega), ?_⟩
                  exact skip (fun _ => hco) _ rfl
                · have hco : cur (ofN S n) = false := by simpa using hco
                  have hbs := ct_bs (show ofN S n < 100 by omega) hco
                  have hlt := ct_lt (show ofN S n < 100 by omega) hco
                  refine oX11_findClean_81 _ _ _ _ _ _ ?_
                  simp only [bX11_findClean_81, qsem, qopt_s, qopt2_s, qev, qxs, Nat.reduceEqDiff, reduceIte, and_true, true_and, and_false, false_and, and_self, or_true, true_or, qb_or, reduceCtorEq, qbr_True, qbr_False, q10, q01, qwM, qb_t, qb_f, pjx hS, nIcl (show n < 1000 by omega), eo, nIcl (show ofN S n < 1000 by omega), rB_at hr (show ofN S n < 100 by omega), hco, nI_1]
                  refine ⟨nI_vp (by omega) (by omega), ?_⟩
                  refine ⟨nI_vp (by omega) (by omega), ?_⟩
                  refine ⟨nI_vp (by omega) (by omega), ?_⟩
                  refine ⟨nI_vp (by omega) (by omega), ?_⟩
                  refine oX11_findClean_114 _ _ _ _ _ _ ?_
                  simp only [bX11_findClean_114, qsem, qopt_s, qopt2_s, qev, qxs, Nat.reduceEqDiff, reduceIte, and_true, true_and, and_false, false_and, and_self, or_true, true_or, qb_or, reduceCtorEq, qbr_True, qbr_False, q10, q01, qwM, qb_t, qb_f, pjx hS, nIcl (show n < 1000 by omega), eo, nIcl (show ofN S n < 1000 by omega), rB_at hr (show ofN S n < 100 by omega), hco, nI_1]
                  refine ihj (n + 1) _ (bs cur (ofN S n)) true _ rfl (by omega) (by simp only [pjs]; exact hS) ?_ ?_ (fun h => absurd h (by simp)) ?_
                  · intro j hj; simp only [qxs, Nat.reduceEqDiff, reduceIte]; exact rB_u hr j hj
                  · intro i hi; rcases bs_i hi with e | e; rw [e]; exact cln_of hnN (grd_mono hI hg); exact hI i e
                  · cases b <;> simp_all <;> omega
            rcases (show srt S n = 0 ∨ srt S n = 1 ∨ 2 ≤ srt S n by omega) with hs | hs | hs
            · refine oX11_findClean_31 _ _ _ _ _ _ ?_
              simp only [bX11_findClean_31, qsem, qopt_s, qopt2_s, qev, qxs, Nat.reduceEqDiff, reduceIte, and_true, true_and, and_false, false_and, and_self, or_true, true_or, qb_or, reduceCtorEq, qbr_True, qbr_False, q10, q01, qwM, pjx hS, h1.1.1, nIcl (show n < 1000 by omega), es, hs]
              refine qbr_f (nI_ge (by omega) (by omega)) ?_
              refine ⟨nI_vp (by omega) (by omega), ?_⟩
              refine qbr_t (rfl) ?_
              refine oX11_findClean_76 _ _ _ _ _ _ ?_
              simp only [bX11_findClean_76, qsem, qopt_s, qopt2_s, qev, qxs, Nat.reduceEqDiff, reduceIte, and_true, true_and, and_false, false_and, and_self, or_true, true_or, qb_or, reduceCtorEq, qbr_True, qbr_False, q10, q01, qwM, pjx hS, h1.1.1, nIcl (show n < 1000 by omega), es, hs]
              exact made true ⟨fun _ => Or.inl hs, fun _ => rfl⟩
            · by_cases hg : S.2.1 146 n = 1
              · refine oX11_findClean_31 _ _ _ _ _ _ ?_
                simp only [bX11_findClean_31, qsem, qopt_s, qopt2_s, qev, qxs, Nat.reduceEqDiff, reduceIte, and_true, true_and, and_false, false_and, and_self, or_true, true_or, qb_or, reduceCtorEq, qbr_True, qbr_False, q10, q01, qwM, pjx hS, h1.1.1, nIcl (show n < 1000 by omega), es, hs, hg, qb_0]
                refine qbr_f (nI_ge (by omega) (by omega)) ?_
                refine ⟨nI_vp (by omega) (by omega), ?_⟩
                refine qbr_f ((by decide)) ?_
                refine ⟨nI_vp (by omega) (by omega), ?_⟩
                refine qbr_t (rfl) ?_
                refine ⟨nI_vp (by omega) (by omega), ?_⟩
                refine kX11_findClean_70 (zX11_allClean hS h1 h2 hnN hr) rfl (Nat.le_of_ble_eq_true rfl) (Nat.le_of_ble_eq_true rfl) ⟨Nat.le_of_ble_eq_true rfl, Nat.le_of_ble_eq_true rfl⟩ ?_
                rintro _ _ ⟨rfl, b3, rfl, hb3⟩
                refine oX11_findClean_73 _ _ _ _ _ _ ?_
                simp only [bX11_findClean_73, qsem, qopt_s, qopt2_s, qev, qxs, Nat.reduceEqDiff, reduceIte, and_true, true_and, and_false, false_and, and_self, or_true, true_or, qb_or, reduceCtorEq, qbr_True, qbr_False, q10, q01, qwM, pjx hS, h1.1.1, nIcl (show n < 1000 by omega), es, hs, hg, qb_0]
                refine qbr_i (fun c1 => ?_) (fun c1 => ?_)
                · refine oX11_findClean_80 _ _ _ _ _ _ ?_
                  simp only [bX11_findClean_80, qsem, qopt_s, qopt2_s, qev, qxs, Nat.reduceEqDiff, reduceIte, and_true, true_and, and_false, false_and, and_self, or_true, true_or, qb_or, reduceCtorEq, qbr_True, qbr_False, q10, q01, qwM, pjx hS, h1.1.1, nIcl (show n < 1000 by omega), es, hs, hg, qb_0]
                  first | exact made true ⟨fun _ => Or.inr ⟨hs, hg, hb3.mp (by simpa using c1)⟩, fun _ => rfl⟩ | exact made false ⟨fun h => absurd h (by simp), fun g => g.elim (fun q => by omega) (fun q => absurd (hb3.mpr q.2.2) (by rw [c1]; simp))⟩
                · refine oX11_findClean_76 _ _ _ _ _ _ ?_
                  simp only [bX11_findClean_76, qsem, qopt_s, qopt2_s, qev, qxs, Nat.reduceEqDiff, reduceIte, and_true, true_and, and_false, false_and, and_self, or_true, true_or, qb_or, reduceCtorEq, qbr_True, qbr_False, q10, q01, qwM, pjx hS, h1.1.1, nIcl (show n < 1000 by omega), es, hs, hg, qb_0]
                  first | exact made true ⟨fun _ => Or.inr ⟨hs, hg, hb3.mp (by simpa using c1)⟩, fun _ => rfl⟩ | exact made false ⟨fun h => absurd h (by simp), fun g => g.elim (fun q => by omega) (fun q => absurd (hb3.mpr q.2.2) (by rw [c1]; simp))⟩
              · refine oX11_findClean_31 _ _ _ _ _ _ ?_
                simp only [bX11_findClean_31, qsem, qopt_s, qopt2_s, qev, qxs, Nat.reduceEqDiff, reduceIte, and_true, true_and, and_false, false_and, and_self, or_true, true_or, qb_or, reduceCtorEq, qbr_True, qbr_False, q10, q01, qwM, pjx hS, h1.1.1, nIcl (show n < 1000 by omega), es, hs]
                refine qbr_f (nI_ge (by omega) (by omega)) ?_
                refine ⟨nI_vp (by omega) (by omega), ?_⟩
                refine qbr_f ((by decide)) ?_
                refine ⟨nI_vp (by omega) (by omega), ?_⟩
                refine qbr_t (rfl) ?_
                refine ⟨nI_vp (by omega) (by omega), ?_⟩
                refine qbr_f (hg) ?_
                refine oX11_findClean_80 _ _ _ _ _ _ ?_
                simp only [bX11_findClean_80, qsem, qopt_s, qopt2_s, qev, qxs, Nat.reduceEqDiff, reduceIte, and_true, true_and, and_false, false_and, and_self, or_true, true_or, qb_or, reduceCtorEq, qbr_True, qbr_False, q10, q01, qwM, pjx hS, h1.1.1, nIcl (show n < 1000 by omega), es, hs]
                exact made false ⟨fun h => absurd h (by simp), fun g => g.elim (fun q => by omega) (fun q => absurd q.2.1 hg)⟩
            · refine oX11_findClean_31 _ _ _ _ _ _ ?_
              simp only [bX11_findClean_31, qsem, qopt_s, qopt2_s, qev, qxs, Nat.reduceEqDiff, reduceIte, and_true, true_and, and_false, false_and, and_self, or_true, true_or, qb_or, reduceCtorEq, qbr_True, qbr_False, q10, q01, qwM, pjx hS, h1.1.1, nIcl (show n < 1000 by omega), es, nI0l (show srt S n < 1000 by omega), nI1l (show srt S n < 1000 by omega)]
              refine qbr_f (nI_ge (by omega) (by omega)) ?_
              refine ⟨nI_vp (by omega) (by omega), ?_⟩
              refine qbr_f ((by omega)) ?_
              refine ⟨nI_vp (by omega) (by omega), ?_⟩
              refine qbr_f ((by omega)) ?_
              refine oX11_findClean_80 _ _ _ _ _ _ ?_
              simp only [bX11_findClean_80, qsem, qopt_s, qopt2_s, qev, qxs, Nat.reduceEqDiff, reduceIte, and_true, true_and, and_false, false_and, and_self, or_true, true_or, qb_or, reduceCtorEq, qbr_True, qbr_False, q10, q01, qwM, pjx hS, h1.1.1, nIcl (show n < 1000 by omega), es, nI0l (show srt S n < 1000 by omega), nI1l (show srt S n < 1000 by omega)]
              exact made false ⟨fun h => absurd h (by simp), fun g => g.elim (fun q => by omega) (fun q => by omega)⟩
        refine oX11_findClean_23 _ _ _ _ _ _ ?_
        simp only [bX11_findClean_23, qsem, qopt_s, qopt2_s, qev, qxs, Nat.reduceEqDiff, reduceIte, and_true, true_and, and_false, false_and, and_self, or_true, true_or, qb_or, reduceCtorEq, qbr_True, qbr_False, q10, q01, qwM, qb_t]
        exact mid (cN S) 0 M cur false o3 q3 (by omega) hS hr hI (fun _ n' h => by omega) (by simpa using hμ)
  have fill : ∀ (j k : Nat) (M : qC), k + j = 100 → pj M = S → (∀ i, i < k → xA M 159 i = 0) → AW (mX11_findClean, 2, 0, 0, none, Q) 2 [some (.ref 136), some (.int (nI k)), none, none] [] (wd C M r) 0 0 := by
    intro j
    induction j with
    | zero =>
      intro k M hk hS hz
      obtain rfl : k = 100 := by omega
      refine oX11_findClean_2 _ _ _ _ _ _ ?_
      simp only [bX11_findClean_2, qsem, qopt_s, qopt2_s, qev, qxs, Nat.reduceEqDiff, reduceIte, and_true, true_and, and_false, false_and, and_self, or_true, true_or, qb_or, reduceCtorEq, qbr_True, qbr_False, q10, q01, qwM]
      refine qbr_t ((by decide)) ?_
      refine oX11_findClean_21 _ _ _ _ _ _ ?_
      simp only [bX11_findClean_21, qsem, qopt_s, qopt2_s, qev, qxs, Nat.reduceEqDiff, reduceIte, and_true, true_and, and_false, false_and, and_self, or_true, true_or, qb_or, reduceCtorEq, qbr_True, qbr_False, q10, q01, qwM]
      exact outer _ M (fun _ => false) true none none rfl rfl hS (fun i hi => hz i hi) (fun i h => absurd h (by simp)) (fun h => absurd h (by simp)) (Nat.lt_succ_self _)
    | succ j ih =>
      intro k M hk hS hz
      refine oX11_findClean_2 _ _ _ _ _ _ ?_
      simp only [bX11_findClean_2, qsem, qopt_s, qopt2_s, qev, qxs, Nat.reduceEqDiff, reduceIte, and_true, true_and, and_false, false_and, and_self, or_true, true_or, qb_or, reduceCtorEq, qbr_True, qbr_False, q10, q01, qwM, nIcl (show k < 1000 by omega), nI_1]
      refine qbr_f (nI_ge (b := 100) (by omega) (by omega)) ?_
      refine ⟨nI_vp (by omega) (by omega), ?_⟩
      refine ih (k + 1) _ (by omega) (by simp only [pjs]; exact hS) (fun i hi => ?_)
      simp only [qxs, Nat.reduceEqDiff, reduceIte, upd]
      split
      · rfl
      · exact hz i (by omega)
  exact fill 100 0 M rfl hS (fun i hi => by omega)


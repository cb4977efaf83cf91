def sayOk (S : qS) (h f : Int32) : Prop := isH h = true ∧ isF S f = true ∧ ¬ cN S = 400
def vS (s f h g : Int32) (p : Nat) : Int32 := if p = 146 then (if g = 0 then 0 else 1) else vN s f h p
set_option maxRecDepth 100000 in
set_option maxHeartbeats 4000000 in
theorem zX11_tries {C M : qC} {r : Nat × Nat × Nat} {S : qS} {h f g : Int32} (hS : pj M = S) (h1 : W1 S) : CT mX11_tries 3 0 0 [.ref 136, .int h, .int f, .int g] (wd C M r) (fun r' w' => ∃ M', w' = wd C M' r ∧ ((¬ sayOk S h f ∧ r' = some (.int (-1)) ∧ pj M' = S) ∨ (sayOk S h f ∧ r' = some (.int (nI (cN S))) ∧ pj M' = nA S (vS 2 f h g)))) := by
  refine eX11_tries (AW_gen (fun Q hQ => ?_))
  refine oX11_tries_0 _ _ _ _ _ _ ?_
  simp only [bX11_tries_0, qsem, qopt_s, qopt2_s, qev, qxs, Nat.reduceEqDiff, reduceIte, and_true, true_and, and_false, false_and, and_self, or_true, true_or, qb_or, reduceCtorEq, qbr_True, qbr_False, q10, q01, qwM]
  refine kX11_tries_5 (zX11_says hS h1) rfl (Nat.le_of_ble_eq_true rfl) (Nat.le_of_ble_eq_true rfl) ⟨Nat.le_of_ble_eq_true rfl, Nat.le_of_ble_eq_true rfl⟩ ?_
  rintro _ _ ⟨M1, rfl, ⟨q1, rfl, q2⟩ | ⟨q1, rfl, q2⟩⟩
  all_goals refine oX11_tries_8 _ _ _ _ _ _ ?_
  all_goals simp only [bX11_tries_8, qsem, qev, true_and, and_self]
  · exact hQ _ _ ⟨M1, rfl, Or.inl ⟨q1, rfl, q2⟩⟩
  · exact hQ _ _ ⟨M1, rfl, Or.inr ⟨q1, rfl, q2⟩⟩
set_option maxRecDepth 100000 in
set_option maxHeartbeats 4000000 in
theorem zX11_review {C M : qC} {r : Nat × Nat × Nat} {S : qS} {h f g : Int32} (hS : pj M = S) (h1 : W1 S) : CT mX11_review 3 0 0 [.ref 136, .int h, .int f, .int g] (wd C M r) (fun r' w' => ∃ M', w' = wd C M' r ∧ ((¬ sayOk S h f ∧ r' = some (.int (-1)) ∧ pj M' = S) ∨ (sayOk S h f ∧ r' = some (.int (nI (cN S))) ∧ pj M' = nA S (vS 3 f h g)))) := by
  refine eX11_review (AW_gen (fun Q hQ => ?_))
  refine oX11_review_0 _ _ _ _ _ _ ?_
  simp only [bX11_review_0, qsem, qopt_s, qopt2_s, qev, qxs, Nat.reduceEqDiff, reduceIte, and_true, true_and, and_false, false_and, and_self, or_true, true_or, qb_or, reduceCtorEq, qbr_True, qbr_False, q10, q01, qwM]
  refine kX11_review_5 (zX11_says hS h1) rfl (Nat.le_of_ble_eq_true rfl) (Nat.le_of_ble_eq_true rfl) ⟨Nat.le_of_ble_eq_true rfl, Nat.le_of_ble_eq_true rfl⟩ ?_
  rintro _ _ ⟨M1, rfl, ⟨q1, rfl, q2⟩ | ⟨q1, rfl, q2⟩⟩
  all_goals refine oX11_review_8 _ _ _ _ _ _ ?_
  all_goals simp only [bX11_review_8, qsem, qev, true_and, and_self]
  · exact hQ _ _ ⟨M1, rfl, Or.inl ⟨q1, rfl, q2⟩⟩
  · exact hQ _ _ ⟨M1, rfl, Or.inr ⟨q1, rfl, q2⟩⟩
set_option maxRecDepth 100000 in
set_option maxHeartbeats 4000000 in
theorem zX11_end {C M : qC} {r : Nat × Nat × Nat} {S : qS} {n : Int32} (hS : pj M = S) : CT mX11_end 0 0 0 [.ref 136, .int n] (wd C M r) (fun r' w' => ∃ M', w' = wd C M' r ∧ ((¬ (0 ≤ n ∧ n ≤ S.1 32) ∧ r' = some (.int 0) ∧ pj M' = S) ∨ ((0 ≤ n ∧ n ≤ S.1 32) ∧ r' = some (.int 1) ∧ pj M' = sI S 32 n))) := by
  refine eX11_end (AW_gen (fun Q hQ => ?_))
  refine oX11_end_0 _ _ _ _ _ _ ?_
  simp only [bX11_end_0, qsem, qopt_s, qopt2_s, qev, qxs, Nat.reduceEqDiff, reduceIte, and_true, true_and, and_false, false_and, and_self, or_true, true_or, qb_or, reduceCtorEq, qbr_True, qbr_False, q10, q01, qwM, pjx hS]
  refine qbr_i (fun c1 => ?_) (fun c1 => ?_)
  · refine oX11_end_12 _ _ _ _ _ _ ?_
    simp only [bX11_end_12, qsem, qopt_s, qopt2_s, qev, qxs, Nat.reduceEqDiff, reduceIte, and_true, true_and, and_false, false_and, and_self, or_true, true_or, qb_or, reduceCtorEq, qbr_True, qbr_False, q10, q01, qwM, pjx hS]
    first | exact hQ _ _ ⟨M, rfl, Or.inl ⟨fun q => absurd c1 (Int32.not_lt.mpr q.1), rfl, hS⟩⟩ | exact hQ _ _ ⟨M, rfl, Or.inl ⟨fun q => c2 q.2, rfl, hS⟩⟩ | exact hQ _ _ ⟨_, rfl, Or.inr ⟨⟨Int32.not_lt.mp c1, c2⟩, rfl, by rw [pj_wI rfl, hS]⟩⟩
  · refine qbr_i (fun c2 => ?_) (fun c2 => ?_)
    · refine oX11_end_14 _ _ _ _ _ _ ?_
      simp only [bX11_end_14, qsem, qopt_s, qopt2_s, qev, qxs, Nat.reduceEqDiff, reduceIte, and_true, true_and, and_false, false_and, and_self, or_true, true_or, qb_or, reduceCtorEq, qbr_True, qbr_False, q10, q01, qwM, pjx hS]
      first | exact hQ _ _ ⟨M, rfl, Or.inl ⟨fun q => absurd c1 (Int32.not_lt.mpr q.1), rfl, hS⟩⟩ | exact hQ _ _ ⟨M, rfl, Or.inl ⟨fun q => c2 q.2, rfl, hS⟩⟩ | exact hQ _ _ ⟨_, rfl, Or.inr ⟨⟨Int32.not_lt.mp c1, c2⟩, rfl, by rw [pj_wI rfl, hS]⟩⟩
    · refine oX11_end_12 _ _ _ _ _ _ ?_
      simp only [bX11_end_12, qsem, qopt_s, qopt2_s, qev, qxs, Nat.reduceEqDiff, reduceIte, and_true, true_and, and_false, false_and, and_self, or_true, true_or, qb_or, reduceCtorEq, qbr_True, qbr_False, q10, q01, qwM, pjx hS]
      first | exact hQ _ _ ⟨M, rfl, Or.inl ⟨fun q => absurd c1 (Int32.not_lt.mpr q.1), rfl, hS⟩⟩ | exact hQ _ _ ⟨M, rfl, Or.inl ⟨fun q => c2 q.2, rfl, hS⟩⟩ | exact hQ _ _ ⟨_, rfl, Or.inr ⟨⟨Int32.not_lt.mp c1, c2⟩, rfl, by rw [pj_wI rfl, hS]⟩⟩
/-- the first ground of a file -/
noncomputable def foB (S : qS) (f n : Nat) : Bool := dc (ofN S n = f ∧ grd S (cln S) n)
noncomputable def fo (S : qS) (f : Nat) : Int32 := ffi (foB S f) (cN S) (cN S)
theorem grd_al {S : qS} {cur : Nat → Bool} {n : Nat} (hc : ∀ i, cur i = true ↔ cln S i) : grd S (cln S) n ↔ srt S n = 0 ∨ (srt S n = 1 ∧ S.2.1 146 n = 1 ∧ alC S cur n) := by
  unfold grd alC
  refine or_congr Iff.rfl (and_congr Iff.rfl (and_congr Iff.rfl ?_))
  exact ⟨fun q k hk i hi hw => (hc i).mpr (q k hk i hi hw), fun q k hk i hi hw => (hc i).mp (q k hk i hi hw)⟩
set_option maxRecDepth 100000 in
set_option maxHeartbeats 4000000 in
theorem zX11_firstOf {C M : qC} {r : Nat × Nat × Nat} {S : qS} {cur : Nat → Bool} {f : Nat} (hS : pj M = S) (h1 : W1 S) (h2 : W2 S) (hc : rB M 159 cur) (hcur : ∀ i, cur i = true ↔ cln S i) (hf : f < cF S) : CT mX11_firstOf 2 0 0 [.ref 136, .int (nI f)] (wd C M r) (fun r' w' => w' = wd C M r ∧ r' = some (.int (fo S f))) := by
  have hF := h1.2.2.1
  have hN := h1.2.1
  refine eX11_firstOf (AW_gen (fun Q hQ => ?_))
  refine oX11_firstOf_0 _ _ _ _ _ _ ?_
  simp only [bX11_firstOf_0, qsem, qopt_s, qopt2_s, qev, qxs, Nat.reduceEqDiff, reduceIte, and_true, true_and, and_false, false_and, and_self, or_true, true_or, qb_or, reduceCtorEq, qbr_True, qbr_False, q10, q01, qwM]
  have loop : ∀ k n : Nat, cN S = n + k → ffi (foB S f) (cN S) k = fo S f → AW (mX11_firstOf, 2, 0, 0, none, Q) 2 [some (.ref 136), some (.int (nI f)), some (.int (nI n))] [] (wd C M r) 0 0 := by
    intro k
    induction k with
    | zero =>
      intro n hn hfo
      refine oX11_firstOf_2 _ _ _ _ _ _ ?_
      simp only [bX11_firstOf_2, qsem, qopt_s, qopt2_s, qev, qxs, Nat.reduceEqDiff, reduceIte, and_true, true_and, and_false, false_and, and_self, or_true, true_or, qb_or, reduceCtorEq, qbr_True, qbr_False, q10, q01, qwM, pjx hS, h1.1.1]
      refine qbr_t (nI_le (show cN S ≤ n by omega) (by omega)) ?_
      refine oX11_firstOf_65 _ _ _ _ _ _ ?_
      simp only [bX11_firstOf_65, qsem, qopt_s, qopt2_s, qev, qxs, Nat.reduceEqDiff, reduceIte, and_true, true_and, and_false, false_and, and_self, or_true, true_or, qb_or, reduceCtorEq, qbr_True, qbr_False, q10, q01, qwM, pjx hS, h1.1.1]
      exact hQ _ _ ⟨rfl, ri hfo⟩
    | succ k ih =>
      intro n hn hfo
      have hnN : n < cN S := by omega
      have hij : cN S - (k + 1) = n := by omega
      have hf2 : fo S f = if foB S f n then nI n else ffi (foB S f) (cN S) k := by rw [← hfo]; simp only [ffi, hij]
      obtain ⟨⟨es, ls⟩, ⟨eo, lo⟩, -, -⟩ := h2 n hnN
      have no : ¬ (ofN S n = f ∧ grd S (cln S) n) → AW (mX11_firstOf, 2, 0, 0, none, Q) 59 [some (.ref 136), some (.int (nI f)), some (.int (nI n))] [] (wd C M r) 0 0 := by
        intro hno
        refine oX11_firstOf_59 _ _ _ _ _ _ ?_
        simp only [bX11_firstOf_59, qsem, qopt_s, qopt2_s, qev, qxs, Nat.reduceEqDiff, reduceIte, and_true, true_and, and_false, false_and, and_self, or_true, true_or, qb_or, reduceCtorEq, qbr_True, qbr_False, q10, q01, qwM, nI_1]
        exact ih (n + 1) (by omega) (by rw [hf2, if_neg (show ¬ foB S f n = true from fun q => hno (dc_iff.mp q))])
      have yes : (ofN S n = f ∧ grd S (cln S) n) → AW (mX11_firstOf, 2, 0, 0, none, Q) 57 [some (.ref 136), some (.int (nI f)), some (.int (nI n))] [] (wd C M r) 0 0 := by
        intro hy
        refine oX11_firstOf_57 _ _ _ _ _ _ ?_
        simp only [bX11_firstOf_57, qsem, qopt_s, qopt2_s, qev, qxs, Nat.reduceEqDiff, reduceIte, and_true, true_and, and_false, false_and, and_self, or_true, true_or, qb_or, reduceCtorEq, qbr_True, qbr_False, q10, q01, qwM]
        exact hQ _ _ ⟨rfl, ri (by rw [hf2, if_pos (show foB S f n = true from dc_iff.mpr hy)])⟩
      have hg := grd_al (n := n) hcur
      refine oX11_firstOf_2 _ _ _ _ _ _ ?_
      simp only [bX11_firstOf_2, qsem, qopt_s, qopt2_s, qev, qxs, Nat.reduceEqDiff, reduceIte, and_true, true_and, and_false, false_and, and_self, or_true, true_or, qb_or, reduceCtorEq, qbr_True, qbr_False, q10, q01, qwM, pjx hS, h1.1.1, nIcl (show n < 1000 by omega), es, eo, nIeq (show ofN S n < 1000 by omega) (show f < 1000 by omega), nI0l (show srt S n < 1000 by omega), nI1l (show srt S n < 1000 by omega), qb_0]
      refine qbr_f (nI_ge (by omega) (by omega)) ?_
      refine ⟨nI_vp (by omega) (by omega), ?_⟩
      refine qbr_i (fun c1 => ?_) (fun c1 => ?_)
      · refine ⟨nI_vp (by omega) (by omega), ?_⟩
        refine qbr_i (fun c2 => ?_) (fun c2 => ?_)
        · first | exact yes ⟨c1, hg.mpr (Or.inl c2)⟩ | exact yes ⟨c1, hg.mpr (Or.inr ⟨c3, c4, hb3.mp ((Bool.not_eq_false _).mp c5)⟩)⟩
        · refine ⟨nI_vp (by omega) (by omega), ?_⟩
          refine qbr_i (fun c3 => ?_) (fun c3 => ?_)
          · refine ⟨nI_vp (by omega) (by omega), ?_⟩
            refine qbr_i (fun c4 => ?_) (fun c4 => ?_)
            · refine kX11_firstOf_51 (zX11_allClean hS h1 h2 hnN hc) rfl (Nat.le_of_ble_eq_true rfl) (Nat.le_of_ble_eq_true rfl) ⟨Nat.le_of_ble_eq_true rfl, Nat.le_of_ble_eq_true rfl⟩ ?_
              rintro _ _ ⟨rfl, b3, rfl, hb3⟩
              refine oX11_firstOf_54 _ _ _ _ _ _ ?_
              simp only [bX11_firstOf_54, qsem, qopt_s, qopt2_s, qev, qxs, Nat.reduceEqDiff, reduceIte, and_true, true_and, and_false, false_and, and_self, or_true, true_or, qb_or, reduceCtorEq, qbr_True, qbr_False, q10, q01, qwM, pjx hS, h1.1.1, nIcl (show n < 1000 by omega), es, eo, nIeq (show ofN S n < 1000 by omega) (show f < 1000 by omega), nI0l (show srt S n < 1000 by omega), nI1l (show srt S n < 1000 by omega), qb_0]
              refine qbr_i (fun c5 => ?_) (fun c5 => ?_)
              · first | exact no (fun q => c1 q.1) | exact no (fun q => (hg.mp q.2).elim c2 (fun z => c3 z.1)) | exact no (fun q => (hg.mp q.2).elim c2 (fun z => c4 z.2.1)) | exact no (fun q => (hg.mp q.2).elim c2 (fun z => absurd (c5.symm.trans (hb3.mpr z.2.2)) Bool.false_ne_true))
              · first | exact yes ⟨c1, hg.mpr (Or.inl c2)⟩ | exact yes ⟨c1, hg.mpr (Or.inr ⟨c3, c4, hb3.mp ((Bool.not_eq_false _).mp c5)⟩)⟩
            · first | exact no (fun q => c1 q.1) | exact no (fun q => (hg.mp q.2).elim c2 (fun z => c3 z.1)) | exact no (fun q => (hg.mp q.2).elim c2 (fun z => c4 z.2.1)) | exact no (fun q => (hg.mp q.2).elim c2 (fun z => absurd (c5.symm.trans (hb3.mpr z.2.2)) Bool.false_ne_true))
          · first | exact no (fun q => c1 q.1) | exact no (fun q => (hg.mp q.2).elim c2 (fun z => c3 z.1)) | exact no (fun q => (hg.mp q.2).elim c2 (fun z => c4 z.2.1)) | exact no (fun q => (hg.mp q.2).elim c2 (fun z => absurd (c5.symm.trans (hb3.mpr z.2.2)) Bool.false_ne_true))
      · first | exact no (fun q => c1 q.1) | exact no (fun q => (hg.mp q.2).elim c2 (fun z => c3 z.1)) | exact no (fun q => (hg.mp q.2).elim c2 (fun z => c4 z.2.1)) | exact no (fun q => (hg.mp q.2).elim c2 (fun z => absurd (c5.symm.trans (hb3.mpr z.2.2)) Bool.false_ne_true))
  exact loop (cN S) 0 (by omega) rfl


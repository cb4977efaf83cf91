/-- the calls back: what each is -/
def W5 (S : qS) : Prop := ∀ c, c < cK S → (S.2.1 154 c = 0 ∨ S.2.1 154 c = 1 ∨ S.2.1 154 c = 2) ∧ (S.2.1 154 c = 0 → ∃ j, j < cF S ∧ S.2.1 155 c = nI j)
def cnP (S : qS) (c n : Nat) : Prop := ((S.2.1 154 c = 1 ∧ srt S n = 1 ∧ S.2.1 142 n = S.2.1 155 c) ∨ (S.2.1 154 c = 2 ∧ srt S n < 2 ∧ S.2.1 140 n = S.2.1 155 c)) ∧ S.2.1 156 c ≤ nI n
def cnN (S : qS) (n : Nat) : Prop := ∃ c, c < cK S ∧ cnP S c n
theorem q12 : ((1 : Int32) = 2) = False := by decide
theorem q21 : ((2 : Int32) = 1) = False := by decide
theorem q02 : ((0 : Int32) = 2) = False := by decide
theorem q20 : ((2 : Int32) = 0) = False := by decide
theorem nI2le {a : Nat} (ha : a < 1000) : ((2 : Int32) ≤ nI a) = (2 ≤ a) := nIle (a := 2) (by omega) ha
set_option maxRecDepth 100000 in
set_option maxHeartbeats 4000000 in
theorem zX11_isCalledNote {C M : qC} {r : Nat × Nat × Nat} {S : qS} {n : Nat} (hS : pj M = S) (h1 : W1 S) (h2 : W2 S) (h5 : W5 S) (hn : n < cN S) : CT mX11_isCalledNote 0 0 0 [.ref 136, .int (nI n)] (wd C M r) (fun r' w' => w' = wd C M r ∧ ∃ b : Bool, r' = some (.int (qb b)) ∧ (b = true ↔ cnN S n)) := by
  have hN := h1.2.1
  have hK := h1.2.2.2.2.1
  obtain ⟨⟨es, ls⟩, -, -, -⟩ := h2 n hn
  refine eX11_isCalledNote (AW_gen (fun Q hQ => ?_))
  refine oX11_isCalledNote_0 _ _ _ _ _ _ ?_
  simp only [bX11_isCalledNote_0, qsem, qopt_s, qopt2_s, qev, qxs, Nat.reduceEqDiff, reduceIte, and_true, true_and, and_false, false_and, and_self, or_true, true_or, qb_or, reduceCtorEq, qbr_True, qbr_False, q10, q01, qwM]
  have loop : ∀ (j c : Nat) (o : Option Value), q_nb (some o) = true → c + j = cK S → (∀ c', c' < c → ¬ cnP S c' n) → AW (mX11_isCalledNote, 0, 0, 0, none, Q) 2 [some (.ref 136), some (.int (nI n)), some (.int (nI c)), o] [] (wd C M r) 0 0 := by
    intro j
    induction j with
    | zero =>
      intro c o qo hc hz
      obtain rfl : c = cK S := by omega
      refine oX11_isCalledNote_2 _ _ _ _ _ _ ?_
      simp only [bX11_isCalledNote_2, qsem, qopt_s, qopt2_s, qev, qxs, Nat.reduceEqDiff, reduceIte, and_true, true_and, and_false, false_and, and_self, or_true, true_or, qb_or, reduceCtorEq, qbr_True, qbr_False, q10, q01, qwM, pjx hS, h1.1.2.2.2.1]
      refine qbr_t ((Int32.le_refl _)) ?_
      refine oX11_isCalledNote_116 _ _ _ _ _ _ ?_
      simp only [bX11_isCalledNote_116, qsem, qopt_s, qopt2_s, qev, qxs, Nat.reduceEqDiff, reduceIte, and_true, true_and, and_false, false_and, and_self, or_true, true_or, qb_or, reduceCtorEq, qbr_True, qbr_False, q10, q01, qwM, pjx hS, h1.1.2.2.2.1]
      exact hQ _ _ ⟨rfl, false, rfl, ⟨fun h => absurd h (by simp), fun ⟨c, hc, h⟩ => absurd h (hz c hc)⟩⟩
    | succ j ih =>
      intro c o qo hc hz
      have hcK : c < cK S := by omega
      have his : ∀ b : Bool, (b = true ↔ ((S.2.1 154 c = 1 ∧ srt S n = 1 ∧ S.2.1 142 n = S.2.1 155 c) ∨ (S.2.1 154 c = 2 ∧ srt S n < 2 ∧ S.2.1 140 n = S.2.1 155 c))) → AW (mX11_isCalledNote, 0, 0, 0, none, Q) 93 [some (.ref 136), some (.int (nI n)), some (.int (nI c)), o] [.int (qb b)] (wd C M r) 0 0 := by
        intro b hb
        have nxt : ¬ cnP S c n → ∀ c', c' < c + 1 → ¬ cnP S c' n := fun h c' hc' => by
          by_cases e : c' = c
          · rw [e]; exact h
          · exact hz c' (by omega)
        cases b with
        | false =>
          refine oX11_isCalledNote_93 _ _ _ _ _ _ ?_
          simp only [bX11_isCalledNote_93, qsem, qopt_s, qopt2_s, qev, qxs, Nat.reduceEqDiff, reduceIte, and_true, true_and, and_false, false_and, and_self, or_true, true_or, qb_or, reduceCtorEq, qbr_True, qbr_False, q10, q01, qwM, qb_f, nI_1]
          refine oX11_isCalledNote_110 _ _ _ _ _ _ ?_
          simp only [bX11_isCalledNote_110, qsem, qopt_s, qopt2_s, qev, qxs, Nat.reduceEqDiff, reduceIte, and_true, true_and, and_false, false_and, and_self, or_true, true_or, qb_or, reduceCtorEq, qbr_True, qbr_False, q10, q01, qwM, qb_f, nI_1]
          exact ih (c + 1) _ rfl (by omega) (nxt (fun q => absurd (hb.mpr q.1) (by simp)))
        | true =>
          refine oX11_isCalledNote_93 _ _ _ _ _ _ ?_
          simp only [bX11_isCalledNote_93, qsem, qopt_s, qopt2_s, qev, qxs, Nat.reduceEqDiff, reduceIte, and_true, true_and, and_false, false_and, and_self, or_true, true_or, qb_or, reduceCtorEq, qbr_True, qbr_False, q10, q01, qwM, qb_t, nI_1, pjx hS, nIcl (show c < 1000 by omega)]
          refine ⟨nI_vp (by omega) (by omega), ?_⟩
          refine qbr_i (fun c1 => ?_) (fun c1 => ?_)
          · refine oX11_isCalledNote_110 _ _ _ _ _ _ ?_
            simp only [bX11_isCalledNote_110, qsem, qopt_s, qopt2_s, qev, qxs, Nat.reduceEqDiff, reduceIte, and_true, true_and, and_false, false_and, and_self, or_true, true_or, qb_or, reduceCtorEq, qbr_True, qbr_False, q10, q01, qwM, qb_t, nI_1, pjx hS, nIcl (show c < 1000 by omega)]
            exact ih (c + 1) _ rfl (by omega) (nxt (fun q => absurd (Int32.not_lt.mpr q.2) (fun h => h c1)))
          · exact hQ _ _ ⟨rfl, true, rfl, ⟨fun _ => ⟨c, hcK, hb.mp rfl, Int32.not_lt.mp c1⟩, fun _ => rfl⟩⟩
      obtain ⟨hsrt, -⟩ := h5 c hcK
      rcases hsrt with h | h | h
      · refine oX11_isCalledNote_2 _ _ _ _ _ _ ?_
        simp only [bX11_isCalledNote_2, qsem, qopt_s, qopt2_s, qev, qxs, Nat.reduceEqDiff, reduceIte, and_true, true_and, and_false, false_and, and_self, or_true, true_or, qb_or, reduceCtorEq, qbr_True, qbr_False, q10, q01, qwM, pjx hS, h1.1.2.2.2.1, nIcl (show c < 1000 by omega), nIcl (show n < 1000 by omega), es, nI1l (show srt S n < 1000 by omega), nI2le (show srt S n < 1000 by omega)]
        refine qbr_f (nI_ge (by omega) (by omega)) ?_
        refine ⟨nI_vp (by omega) (by omega), ?_⟩
        refine qbr_f ((by rw [h]; decide)) ?_
        refine oX11_isCalledNote_53 _ _ _ _ _ _ ?_
        simp only [bX11_isCalledNote_53, qsem, qopt_s, qopt2_s, qev, qxs, Nat.reduceEqDiff, reduceIte, and_true, true_and, and_false, false_and, and_self, or_true, true_or, qb_or, reduceCtorEq, qbr_True, qbr_False, q10, q01, qwM, pjx hS, h1.1.2.2.2.1, nIcl (show c < 1000 by omega), nIcl (show n < 1000 by omega), es, nI1l (show srt S n < 1000 by omega), nI2le (show srt S n < 1000 by omega)]
        refine ⟨nI_vp (by omega) (by omega), ?_⟩
        refine qbr_f ((by rw [h]; decide)) ?_
        refine oX11_isCalledNote_92 _ _ _ _ _ _ ?_
        simp only [bX11_isCalledNote_92, qsem, qopt_s, qopt2_s, qev, qxs, Nat.reduceEqDiff, reduceIte, and_true, true_and, and_false, false_and, and_self, or_true, true_or, qb_or, reduceCtorEq, qbr_True, qbr_False, q10, q01, qwM, pjx hS, h1.1.2.2.2.1, nIcl (show c < 1000 by omega), nIcl (show n < 1000 by omega), es, nI1l (show srt S n < 1000 by omega), nI2le (show srt S n < 1000 by omega)]
        exact his false ⟨fun q => absurd q (by simp), fun q => by rw [h] at q; simp only [q01, q02, false_and, or_self] at q⟩
      · refine oX11_isCalledNote_2 _ _ _ _ _ _ ?_
        simp only [bX11_isCalledNote_2, qsem, qopt_s, qopt2_s, qev, qxs, Nat.reduceEqDiff, reduceIte, and_true, true_and, and_false, false_and, and_self, or_true, true_or, qb_or, reduceCtorEq, qbr_True, qbr_False, q10, q01, qwM, pjx hS, h1.1.2.2.2.1, nIcl (show c < 1000 by omega), nIcl (show n < 1000 by omega), es, nI1l (show srt S n < 1000 by omega), nI2le (show srt S n < 1000 by omega)]
        refine qbr_f (nI_ge (by omega) (by omega)) ?_
        refine ⟨nI_vp (by omega) (by omega), ?_⟩
        refine qbr_t (h) ?_
        refine ⟨nI_vp (by omega) (by omega), ?_⟩
        refine qbr_i (fun c1 => ?_) (fun c1 => ?_)
        · refine ⟨nI_vp (by omega) (by omega), ?_⟩
          refine ⟨nI_vp (by omega) (by omega), ?_⟩
          refine qbr_i (fun c2 => ?_) (fun c2 => ?_)
          · first | exact his true ⟨fun _ => Or.inl ⟨h, c1, c2⟩, fun _ => rfl⟩ | exact his false ⟨fun q => absurd q (by simp), fun q => by rw [h] at q; simp only [q12, false_and, or_false] at q; first | exact absurd q.2.1 c1 | exact absurd q.2.2 c2⟩
          · refine oX11_isCalledNote_49 _ _ _ _ _ _ ?_
            simp only [bX11_isCalledNote_49, qsem, qopt_s, qopt2_s, qev, qxs, Nat.reduceEqDiff, reduceIte, and_true, true_and, and_false, false_and, and_self, or_true, true_or, qb_or, reduceCtorEq, qbr_True, qbr_False, q10, q01, qwM, pjx hS, h1.1.2.2.2.1, nIcl (show c < 1000 by omega), nIcl (show n < 1000 by omega), es, nI1l (show srt S n < 1000 by omega), nI2le (show srt S n < 1000 by omega)]
            first | exact his true ⟨fun _ => Or.inl ⟨h, c1, c2⟩, fun _ => rfl⟩ | exact his false ⟨fun q => absurd q (by simp), fun q => by rw [h] at q; simp only [q12, false_and, or_false] at q; first | exact absurd q.2.1 c1 | exact absurd q.2.2 c2⟩
        · refine oX11_isCalledNote_49 _ _ _ _ _ _ ?_
          simp only [bX11_isCalledNote_49, qsem, qopt_s, qopt2_s, qev, qxs, Nat.reduceEqDiff, reduceIte, and_true, true_and, and_false, false_and, and_self, or_true, true_or, qb_or, reduceCtorEq, qbr_True, qbr_False, q10, q01, qwM, pjx hS, h1.1.2.2.2.1, nIcl (show c < 1000 by omega), nIcl (show n < 1000 by omega), es, nI1l (show srt S n < 1000 by omega), nI2le (show srt S n < 1000 by omega)]
          first | exact his true ⟨fun _ => Or.inl ⟨h, c1, c2⟩, fun _ => rfl⟩ | exact his false ⟨fun q => absurd q (by simp), fun q => by rw [h] at q; simp only [q12, false_and, or_false] at q; first | exact absurd q.2.1 c1 | exact absurd q.2.2 c2⟩
      · refine oX11_isCalledNote_2 _ _ _ _ _ _ ?_
        simp only [bX11_isCalledNote_2, qsem, qopt_s, qopt2_s, qev, qxs, Nat.reduceEqDiff, reduceIte, and_true, true_and, and_false, false_and, and_self, or_true, true_or, qb_or, reduceCtorEq, qbr_True, qbr_False, q10, q01, qwM, pjx hS, h1.1.2.2.2.1, nIcl (show c < 1000 by omega), nIcl (show n < 1000 by omega), es, nI1l (show srt S n < 1000 by omega), nI2le (show srt S n < 1000 by omega)]
        refine qbr_f (nI_ge (by omega) (by omega)) ?_
        refine ⟨nI_vp (by omega) (by omega), ?_⟩
        refine qbr_f ((by rw [h]; decide)) ?_
        refine oX11_isCalledNote_53 _ _ _ _ _ _ ?_
        simp only [bX11_isCalledNote_53, qsem, qopt_s, qopt2_s, qev, qxs, Nat.reduceEqDiff, reduceIte, and_true, true_and, and_false, false_and, and_self, or_true, true_or, qb_or, reduceCtorEq, qbr_True, qbr_False, q10, q01, qwM, pjx hS, h1.1.2.2.2.1, nIcl (show c < 1000 by omega), nIcl (show n < 1000 by omega), es, nI1l (show srt S n < 1000 by omega), nI2le (show srt S n < 1000 by omega)]
        refine ⟨nI_vp (by omega) (by omega), ?_⟩
        refine qbr_t (h) ?_
        refine ⟨nI_vp (by omega) (by omega), ?_⟩
        refine qbr_i (fun c1 => ?_) (fun c1 => ?_)
        · refine oX11_isCalledNote_92 _ _ _ _ _ _ ?_
          simp only [bX11_isCalledNote_92, qsem, qopt_s, qopt2_s, qev, qxs, Nat.reduceEqDiff, reduceIte, and_true, true_and, and_false, false_and, and_self, or_true, true_or, qb_or, reduceCtorEq, qbr_True, qbr_False, q10, q01, qwM, pjx hS, h1.1.2.2.2.1, nIcl (show c < 1000 by omega), nIcl (show n < 1000 by omega), es, nI1l (show srt S n < 1000 by omega), nI2le (show srt S n < 1000 by omega)]
          first | exact his true ⟨fun _ => Or.inr ⟨h, by omega, c2⟩, fun _ => rfl⟩ | exact his false ⟨fun q => absurd q (by simp), fun q => by rw [h] at q; simp only [q21, false_and, false_or] at q; first | (have := q.2.1; omega) | exact absurd q.2.2 c2⟩
        · refine ⟨nI_vp (by omega) (by omega), ?_⟩
          refine ⟨nI_vp (by omega) (by omega), ?_⟩
          refine qbr_i (fun c2 => ?_) (fun c2 => ?_)
          · first | exact his true ⟨fun _ => Or.inr ⟨h, by omega, c2⟩, fun _ => rfl⟩ | exact his false ⟨fun q => absurd q (by simp), fun q => by rw [h] at q; simp only [q21, false_and, false_or] at q; first | (have := q.2.1; omega) | exact absurd q.2.2 c2⟩
          · refine oX11_isCalledNote_92 _ _ _ _ _ _ ?_
            simp only [bX11_isCalledNote_92, qsem, qopt_s, qopt2_s, qev, qxs, Nat.reduceEqDiff, reduceIte, and_true, true_and, and_false, false_and, and_self, or_true, true_or, qb_or, reduceCtorEq, qbr_True, qbr_False, q10, q01, qwM, pjx hS, h1.1.2.2.2.1, nIcl (show c < 1000 by omega), nIcl (show n < 1000 by omega), es, nI1l (show srt S n < 1000 by omega), nI2le (show srt S n < 1000 by omega)]
            first | exact his true ⟨fun _ => Or.inr ⟨h, by omega, c2⟩, fun _ => rfl⟩ | exact his false ⟨fun q => absurd q (by simp), fun q => by rw [h] at q; simp only [q21, false_and, false_or] at q; first | (have := q.2.1; omega) | exact absurd q.2.2 c2⟩
  exact loop (cK S) 0 none rfl (by omega) (fun c' h => by omega)
/-- called back -/
def cal (S : qS) (f : Nat) : Prop := (∃ c, c < cK S ∧ S.2.1 154 c = 0 ∧ ∃ j, j < cF S ∧ S.2.1 155 c = nI j ∧ reach S f j) ∨ ∃ n, n < cN S ∧ srt S n < 2 ∧ reach S f (ofN S n) ∧ cnN S n
set_option maxRecDepth 100000 in
set_option maxHeartbeats 4000000 in
theorem zX11_isCalled {C M : qC} {r : Nat × Nat × Nat} {S : qS} {f : Nat} (hS : pj M = S) (h1 : W1 S) (h2 : W2 S) (h5 : W5 S) (hf : f < cF S) : CT mX11_isCalled 3 0 0 [.ref 136, .int (nI f)] (wd C M r) (fun r' w' => ∃ M' b, w' = wd C M' r ∧ pj M' = S ∧ r' = some (.int (qb b)) ∧ (b = true ↔ cal S f)) := by
  have hF := h1.2.2.1
  have hN := h1.2.1
  have hK := h1.2.2.2.2.1
  refine eX11_isCalled (AW_gen (fun Q hQ => ?_))
  have main : ∀ (M : qC) (ρ : Nat → Bool), pj M = S → rB M 157 ρ → (∀ i, ρ i = true ↔ reach S f i) → AW (mX11_isCalled, 3, 0, 0, none, Q) 7 [some (.ref 136), some (.int (nI f)), some (.int 0)] [] (wd C M r) 0 0 := by
    intro M ρ hS hr hρ
    have loop2 : (∀ c, c < cK S → ¬ (S.2.1 154 c = 0 ∧ ∃ j, j < cF S ∧ S.2.1 155 c = nI j ∧ reach S f j)) → ∀ (j n : Nat), n + j = cN S → (∀ n', n' < n → ¬ (srt S n' < 2 ∧ reach S f (ofN S n') ∧ cnN S n')) → AW (mX11_isCalled, 3, 0, 0, none, Q) 48 [some (.ref 136), some (.int (nI f)), some (.int (nI n))] [] (wd C M r) 0 0 := by
      intro hno j
      induction j with
      | zero =>
        intro n hn hz
        obtain rfl : n = cN S := by omega
        refine oX11_isCalled_48 _ _ _ _ _ _ ?_
        simp only [bX11_isCalled_48, qsem, qopt_s, qopt2_s, qev, qxs, Nat.reduceEqDiff, reduceIte, and_true, true_and, and_false, false_and, and_self, or_true, true_or, qb_or, reduceCtorEq, qbr_True, qbr_False, q10, q01, qwM, pjx hS, h1.1.1]
        refine qbr_t ((Int32.le_refl _)) ?_
        refine oX11_isCalled_96 _ _ _ _ _ _ ?_
        simp only [bX11_isCalled_96, qsem, qopt_s, qopt2_s, qev, qxs, Nat.reduceEqDiff, reduceIte, and_true, true_and, and_false, false_and, and_self, or_true, true_or, qb_or, reduceCtorEq, qbr_True, qbr_False, q10, q01, qwM, pjx hS, h1.1.1]
        exact hQ _ _ ⟨M, false, rfl, hS, rfl, ⟨fun h => absurd h (by simp), fun h => h.elim (fun ⟨c, hc, q⟩ => absurd q (hno c hc)) (fun ⟨n, hn, q⟩ => absurd q (hz n hn))⟩⟩
      | succ j ih =>
        intro n hn hz
        have hnN : n < cN S := by omega
        obtain ⟨⟨es, ls⟩, ⟨eo, lo⟩, -, -⟩ := h2 n hnN
        have nxt : ¬ (srt S n < 2 ∧ reach S f (ofN S n) ∧ cnN S n) → ∀ n', n' < n + 1 → ¬ (srt S n' < 2 ∧ reach S f (ofN S n') ∧ cnN S n') := fun h n' hn' => by
          by_cases e : n' = n
          · rw [e]; exact h
          · exact hz n' (by omega)
        refine oX11_isCalled_48 _ _ _ _ _ _ ?_
        simp only [bX11_isCalled_48, qsem, qopt_s, qopt2_s, qev, qxs, Nat.reduceEqDiff, reduceIte, and_true, true_and, and_false, false_and, and_self, or_true, true_or, qb_or, reduceCtorEq, qbr_True, qbr_False, q10, q01, qwM, pjx hS, h1.1.1, nIcl (show n < 1000 by omega), es, eo, nIcl (show ofN S n < 1000 by omega), rB_at hr (show ofN S n < 100 by omega), qb_0, nI2le (show srt S n < 1000 by omega), nI_1]
        refine qbr_f (nI_ge (by omega) (by omega)) ?_
        refine ⟨nI_vp (by omega) (by omega), ?_⟩
        refine qbr_i (fun c1 => ?_) (fun c1 => ?_)
        · refine oX11_isCalled_90 _ _ _ _ _ _ ?_
          simp only [bX11_isCalled_90, qsem, qopt_s, qopt2_s, qev, qxs, Nat.reduceEqDiff, reduceIte, and_true, true_and, and_false, false_and, and_self, or_true, true_or, qb_or, reduceCtorEq, qbr_True, qbr_False, q10, q01, qwM, pjx hS, h1.1.1, nIcl (show n < 1000 by omega), es, eo, nIcl (show ofN S n < 1000 by omega), rB_at hr (show ofN S n < 100 by omega), qb_0, nI2le (show srt S n < 1000 by omega), nI_1]
          first | exact ih (n + 1) (by omega) (nxt (fun q => by have := q.1; omega)) | exact ih (n + 1) (by omega) (nxt (fun q => by have := (hρ _).mpr q.2.1; rw [c2] at this; cases this)) | exact ih (n + 1) (by omega) (nxt (fun q => by have := hb3.mpr q.2.2; rw [c3] at this; cases this))
        · refine ⟨nI_vp (by omega) (by omega), ?_⟩
          refine ⟨nI_vp (by omega) (by omega), ?_⟩
          refine qbr_i (fun c2 => ?_) (fun c2 => ?_)
          · refine oX11_isCalled_90 _ _ _ _ _ _ ?_
            simp only [bX11_isCalled_90, qsem, qopt_s, qopt2_s, qev, qxs, Nat.reduceEqDiff, reduceIte, and_true, true_and, and_false, false_and, and_self, or_true, true_or, qb_or, reduceCtorEq, qbr_True, qbr_False, q10, q01, qwM, pjx hS, h1.1.1, nIcl (show n < 1000 by omega), es, eo, nIcl (show ofN S n < 1000 by omega), rB_at hr (show ofN S n < 100 by omega), qb_0, nI2le (show srt S n < 1000 by omega), nI_1]
            first | exact ih (n + 1) (by omega) (nxt (fun q => by have := q.1; omega)) | exact ih (n + 1) (by omega) (nxt (fun q => by have := (hρ _).mpr q.2.1; rw [c2] at this; cases this)) | exact ih (n + 1) (by omega) (nxt (fun q => by have := hb3.mpr q.2.2; rw [c3] at this; cases this))
          · refine kX11_isCalled_82 (zX11_isCalledNote hS h1 h2 h5 hnN) rfl (Nat.le_of_ble_eq_true rfl) (Nat.le_of_ble_eq_true rfl) ⟨Nat.le_of_ble_eq_true rfl, Nat.le_of_ble_eq_true rfl⟩ ?_
            rintro _ _ ⟨rfl, b3, rfl, hb3⟩
            refine oX11_isCalled_85 _ _ _ _ _ _ ?_
            simp only [bX11_isCalled_85, qsem, qopt_s, qopt2_s, qev, qxs, Nat.reduceEqDiff, reduceIte, and_true, true_and, and_false, false_and, and_self, or_true, true_or, qb_or, reduceCtorEq, qbr_True, qbr_False, q10, q01, qwM, pjx hS, h1.1.1, nIcl (show n < 1000 by omega), es, eo, nIcl (show ofN S n < 1000 by omega), rB_at hr (show ofN S n < 100 by omega), qb_0, nI2le (show srt S n < 1000 by omega), nI_1]
            refine qbr_i (fun c3 => ?_) (fun c3 => ?_)
            · refine oX11_isCalled_90 _ _ _ _ _ _ ?_
              simp only [bX11_isCalled_90, qsem, qopt_s, qopt2_s, qev, qxs, Nat.reduceEqDiff, reduceIte, and_true, true_and, and_false, false_and, and_self, or_true, true_or, qb_or, reduceCtorEq, qbr_True, qbr_False, q10, q01, qwM, pjx hS, h1.1.1, nIcl (show n < 1000 by omega), es, eo, nIcl (show ofN S n < 1000 by omega), rB_at hr (show ofN S n < 100 by omega), qb_0, nI2le (show srt S n < 1000 by omega), nI_1]
              first | exact ih (n + 1) (by omega) (nxt (fun q => by have := q.1; omega)) | exact ih (n + 1) (by omega) (nxt (fun q => by have := (hρ _).mpr q.2.1; rw [c2] at this; cases this)) | exact ih (n + 1) (by omega) (nxt (fun q => by have := hb3.mpr q.2.2; rw [c3] at this; cases this))
            · exact hQ _ _ ⟨M, true, rfl, hS, rfl, ⟨fun _ => Or.inr ⟨n, hnN, by omega, (hρ _).mp (by simpa using c2), hb3.mp (by simpa using c3)⟩, fun _ => rfl⟩⟩
    have loop1 : ∀ (j c : Nat), c + j = cK S → (∀ c', c' < c → ¬ (S.2.1 154 c' = 0 ∧ ∃ j, j < cF S ∧ S.2.1 155 c' = nI j ∧ reach S f j)) → AW (mX11_isCalled, 3, 0, 0, none, Q) 7 [some (.ref 136), some (.int (nI f)), some (.int (nI c))] [] (wd C M r) 0 0 := by
      intro j
      induction j with
      | zero =>
        intro c hc hz
        obtain rfl : c = cK S := by omega
        refine oX11_isCalled_7 _ _ _ _ _ _ ?_
        simp only [bX11_isCalled_7, qsem, qopt_s, qopt2_s, qev, qxs, Nat.reduceEqDiff, reduceIte, and_true, true_and, and_false, false_and, and_self, or_true, true_or, qb_or, reduceCtorEq, qbr_True, qbr_False, q10, q01, qwM, pjx hS, h1.1.2.2.2.1]
        refine qbr_t ((Int32.le_refl _)) ?_
        refine oX11_isCalled_46 _ _ _ _ _ _ ?_
        simp only [bX11_isCalled_46, qsem, qopt_s, qopt2_s, qev, qxs, Nat.reduceEqDiff, reduceIte, and_true, true_and, and_false, false_and, and_self, or_true, true_or, qb_or, reduceCtorEq, qbr_True, qbr_False, q10, q01, qwM, pjx hS, h1.1.2.2.2.1]
        exact loop2 hz (cN S) 0 (by omega) (fun n' h => by omega)
      | succ j ih =>
        intro c hc hz
        have hcK : c < cK S := by omega
        have nxt : ¬ (S.2.1 154 c = 0 ∧ ∃ j, j < cF S ∧ S.2.1 155 c = nI j ∧ reach S f j) → ∀ c', c' < c + 1 → ¬ (S.2.1 154 c' = 0 ∧ ∃ j, j < cF S ∧ S.2.1 155 c' = nI j ∧ reach S f j) := fun h c' hc' => by
          by_cases e : c' = c
          · rw [e]; exact h
          · exact hz c' (by omega)
        by_cases h0 : S.2.1 154 c = 0
        · obtain ⟨i, hi, hw⟩ := (h5 c hcK).2 h0
          refine oX11_isCalled_7 _ _ _ _ _ _ ?_
          simp only [bX11_isCalled_7, qsem, qopt_s, qopt2_s, qev, qxs, Nat.reduceEqDiff, reduceIte, and_true, true_and, and_false, false_and, and_self, or_true, true_or, qb_or, reduceCtorEq, qbr_True, qbr_False, q10, q01, qwM, pjx hS, h1.1.2.2.2.1, nIcl (show c < 1000 by omega), h0, hw, nIcl (show i < 1000 by omega), rB_at hr (show i < 100 by omega), qb_0, nI_1]
          refine qbr_f (nI_ge (by omega) (by omega)) ?_
          refine ⟨nI_vp (by omega) (by omega), ?_⟩
          refine ⟨nI_vp (by omega) (by omega), ?_⟩
          refine ⟨nI_vp (by omega) (by omega), ?_⟩
          refine qbr_i (fun c1 => ?_) (fun c1 => ?_)
          · refine oX11_isCalled_40 _ _ _ _ _ _ ?_
            simp only [bX11_isCalled_40, qsem, qopt_s, qopt2_s, qev, qxs, Nat.reduceEqDiff, reduceIte, and_true, true_and, and_false, false_and, and_self, or_true, true_or, qb_or, reduceCtorEq, qbr_True, qbr_False, q10, q01, qwM, pjx hS, h1.1.2.2.2.1, nIcl (show c < 1000 by omega), h0, hw, nIcl (show i < 1000 by omega), rB_at hr (show i < 100 by omega), qb_0, nI_1]
            exact ih (c + 1) (by omega) (nxt (fun q => by obtain ⟨-, i', hi', hw', hr'⟩ := q; rw [i_ninj (by omega) (by omega) (hw'.symm.trans hw)] at hr'; have := (hρ _).mpr hr'; rw [c1] at this; cases this))
          · exact hQ _ _ ⟨M, true, rfl, hS, rfl, ⟨fun _ => Or.inl ⟨c, hcK, h0, i, hi, hw, (hρ _).mp (by simpa using c1)⟩, fun _ => rfl⟩⟩
        · refine oX11_isCalled_7 _ _ _ _ _ _ ?_
          simp only [bX11_isCalled_7, qsem, qopt_s, qopt2_s, qev, qxs, Nat.reduceEqDiff, reduceIte, and_true, true_and, and_false, false_and, and_self, or_true, true_or, qb_or, reduceCtorEq, qbr_True, qbr_False, q10, q01, qwM, pjx hS, h1.1.2.2.2.1, nIcl (show c < 1000 by omega), nI_1]
          refine qbr_f (nI_ge (by omega) (by omega)) ?_
          refine ⟨nI_vp (by omega) (by omega), ?_⟩
          refine qbr_f (h0) ?_
          refine oX11_isCalled_40 _ _ _ _ _ _ ?_
          simp only [bX11_isCalled_40, qsem, qopt_s, qopt2_s, qev, qxs, Nat.reduceEqDiff, reduceIte, and_true, true_and, and_false, false_and, and_self, or_true, true_or, qb_or, reduceCtorEq, qbr_True, qbr_False, q10, q01, qwM, pjx hS, h1.1.2.2.2.1, nIcl (show c < 1000 by omega), nI_1]
          exact ih (c + 1) (by omega) (nxt (fun q => h0 q.1))
    exact loop1 (cK S) 0 (by omega) (fun c' h => by omega)
  refine oX11_isCalled_0 _ _ _ _ _ _ ?_
  simp only [bX11_isCalled_0, qsem, qopt_s, qopt2_s, qev, qxs, Nat.reduceEqDiff, reduceIte, and_true, true_and, and_false, false_and, and_self, or_true, true_or, qb_or, reduceCtorEq, qbr_True, qbr_False, q10, q01, qwM]
  refine kX11_isCalled_2 (zX11_rowOf hS h1 h2 hf) rfl (Nat.le_of_ble_eq_true rfl) (Nat.le_of_ble_eq_true rfl) ⟨Nat.le_of_ble_eq_true rfl, Nat.le_of_ble_eq_true rfl⟩ ?_
  rintro _ _ ⟨M1, ρ1, rfl, rfl, hS1, hr1, hi1⟩
  refine oX11_isCalled_5 _ _ _ _ _ _ ?_
  simp only [bX11_isCalled_5, qsem, qopt_s, qopt2_s, qev, qxs, Nat.reduceEqDiff, reduceIte, and_true, true_and, and_false, false_and, and_self, or_true, true_or, qb_or, reduceCtorEq, qbr_True, qbr_False, q10, q01, qwM]
  exact main M1 ρ1 hS1 hr1 hi1


/-- a rule's code, run: f the codes, from k on, the pile ps of n -/
def tst (f : Nat → Int32) (t r b : Int32) (k : Nat) : Bool :=
  let v := if f (k + 1) = 116 then t else if f (k + 1) = 114 then r else b
  if f (k + 2) = 61 then decide (v = f (k + 3)) else if f (k + 2) = 60 then decide (v < f (k + 3)) else decide (f (k + 3) < v)
def bst (ps : Nat → Bool) (i : Nat) (v : Bool) : Nat → Bool := fun j => if j = i then v else ps j
def evc (f : Nat → Int32) (t r b : Int32) (lim : Nat) : Nat → Nat → (Nat → Bool) → Nat → Option Bool
  | 0, _, _, _ => none
  | fu + 1, k, ps, n => if lim < k + 4 ∨ 200 ≤ n then none else if f k = 3 then (if n = 0 then none else some (ps 0)) else if f k = 0 then evc f t r b lim fu (k + 4) (bst ps n (tst f t r b k)) (n + 1) else if n < 2 then none else evc f t r b lim fu (k + 1) (bst ps (n - 2) (if f k = 1 then ps (n - 2) && ps (n - 1) else ps (n - 2) || ps (n - 1))) (n - 1)
theorem ncl {n : Nat} (h : n < 10000) : (nI n).toNatClampNeg = n := nI_clamp (by omega)
theorem nadd (a b : Nat) : nI a + nI b = nI (a + b) := nI_add a b
set_option maxRecDepth 100000 in
set_option maxHeartbeats 4000000 in
theorem zX11_holds {C M : qC} {r : Nat × Nat × Nat} {S : qS} {t u b : Int32} {v : Bool} (hS : pj M = S) (h1 : W1 S) (hv : cR S = 0 ∧ v = true ∨ ¬ cR S = 0 ∧ ∃ fu, evc (S.2.1 161) t u b (220 * cR S) fu (220 * (cR S - 1)) (fun _ => false) 0 = some v) : CT mX11_holds 0 0 0 [.ref 136, .int t, .int u, .int b] (wd C M r) (fun r' w' => ∃ M', w' = wd C M' r ∧ pj M' = S ∧ r' = some (.int (qb v))) := by
  have hR := h1.2.2.2.1
  refine eX11_holds (AW_gen (fun Q hQ => ?_))
  rcases hv with ⟨h0, rfl⟩ | ⟨h0, fu, hev⟩
  · refine oX11_holds_0 _ _ _ _ _ _ ?_
    simp only [bX11_holds_0, qsem, qopt_s, qopt2_s, qev, qxs, Nat.reduceEqDiff, reduceIte, and_true, true_and, and_false, false_and, and_self, or_true, true_or, qb_or, reduceCtorEq, qbr_True, qbr_False, q10, q01, qwM, pjx hS, h1.1.2.2.1, h0]
    refine qbr_t (rfl) ?_
    exact hQ _ _ ⟨M, rfl, hS, rfl⟩
  · have loop : ∀ (fu k n : Nat) (M : qC) (ps : Nat → Bool) (o6 o7 : Option Value), q_nb (some o6) = true → q_nb (some o7) = true → pj M = S → (∀ j, j < n → xA M 163 j = qb (ps j)) → evc (S.2.1 161) t u b (220 * cR S) fu k ps n = some v → AW (mX11_holds, 0, 0, 0, none, Q) 24 [some (.ref 136), some (.int t), some (.int u), some (.int b), some (.int (nI k)), some (.int (nI n)), o6, o7] [] (wd C M r) 0 0 := by
      intro fu
      induction fu with
      | zero => intro k n M ps o6 o7 _ _ _ _ h; cases h
      | succ fu ih =>
        intro k n M ps o6 o7 q6 q7 hS hp he
        unfold evc at he
        by_cases hg : 220 * cR S < k + 4 ∨ 200 ≤ n
        · rw [if_pos hg] at he; cases he
        rw [if_neg hg] at he
        have hk : k + 4 ≤ 4400 := by omega
        have hn : n < 200 := by omega
        have e1 : nI k + 1 = nI (k + 1) := nI_1 k
        have e2 : nI k + 2 = nI (k + 2) := nadd k 2
        have e3 : nI k + 3 = nI (k + 3) := nadd k 3
        have e4 : nI k + 4 = nI (k + 4) := nadd k 4
        by_cases h3 : S.2.1 161 k = 3
        · rw [if_pos h3] at he
          by_cases hz : n = 0
          · rw [if_pos hz] at he; cases he
          rw [if_neg hz] at he
          cases he
          refine oX11_holds_24 _ _ _ _ _ _ ?_
          simp only [bX11_holds_24, qsem, qopt_s, qopt2_s, qev, qxs, Nat.reduceEqDiff, reduceIte, and_true, true_and, and_false, false_and, and_self, or_true, true_or, qb_or, reduceCtorEq, qbr_True, qbr_False, q10, q01, qwM, pjx hS, ncl (show k < 10000 by omega), cl0, hp 0 (by omega)]
          refine ⟨by first | exact nI_vp (by omega) (by omega) | exact nI_vp (i := 0) (by omega) (by omega), ?_⟩
          refine qbr_t (h3) ?_
          refine oX11_holds_267 _ _ _ _ _ _ ?_
          simp only [bX11_holds_267, qsem, qopt_s, qopt2_s, qev, qxs, Nat.reduceEqDiff, reduceIte, and_true, true_and, and_false, false_and, and_self, or_true, true_or, qb_or, reduceCtorEq, qbr_True, qbr_False, q10, q01, qwM, pjx hS, ncl (show k < 10000 by omega), cl0, hp 0 (by omega)]
          refine ⟨by first | exact nI_vp (by omega) (by omega) | exact nI_vp (i := 0) (by omega) (by omega), ?_⟩
          exact hQ _ _ ⟨M, rfl, hS, rfl⟩
        rw [if_neg h3] at he
        by_cases hz : S.2.1 161 k = 0
        · rw [if_pos hz] at he
          have hk4 := ih (k + 4) (n + 1)
          have at171 : ∀ (z : Bool) (o6 o7 : Option Value), q_nb (some o6) = true → q_nb (some o7) = true → z = tst (S.2.1 161) t u b k → AW (mX11_holds, 0, 0, 0, none, Q) 171 [some (.ref 136), some (.int t), some (.int u), some (.int b), some (.int (nI k)), some (.int (nI n)), o6, o7] [.int (qb z), .int (nI n), .ref 163] (wd C M r) 0 0 := by
            intro z o6 o7 q6 q7 hzz
            refine oX11_holds_171 _ _ _ _ _ _ ?_
            simp only [bX11_holds_171, qsem, qopt_s, qopt2_s, qev, qxs, Nat.reduceEqDiff, reduceIte, and_true, true_and, and_false, false_and, and_self, or_true, true_or, qb_or, reduceCtorEq, qbr_True, qbr_False, q10, q01, qwM, ncl (show n < 10000 by omega), nI_1, e4]
            refine ⟨nI_vp (by omega) (by omega), ?_⟩
            refine hk4 _ _ o6 o7 q6 q7 (by simp only [pjs]; exact hS) (fun j hj => ?_) he
            simp only [qxs, if_true, upd, bst]
            split
            · rw [hzz]
            · exact hp j (by omega)
          have at82 : ∀ y : Int32, y = (if S.2.1 161 (k + 1) = 116 then t else if S.2.1 161 (k + 1) = 114 then u else b) → AW (mX11_holds, 0, 0, 0, none, Q) 82 [some (.ref 136), some (.int t), some (.int u), some (.int b), some (.int (nI k)), some (.int (nI n)), o6, o7] [.int y] (wd C M r) 0 0 := by
            intro y hy
            have htst : tst (S.2.1 161) t u b k = if S.2.1 161 (k + 2) = 61 then decide (y = S.2.1 161 (k + 3)) else if S.2.1 161 (k + 2) = 60 then decide (y < S.2.1 161 (k + 3)) else decide (S.2.1 161 (k + 3) < y) := by rw [hy]; rfl
            refine oX11_holds_82 _ _ _ _ _ _ ?_
            simp only [bX11_holds_82, qsem, qopt_s, qopt2_s, qev, qxs, Nat.reduceEqDiff, reduceIte, and_true, true_and, and_false, false_and, and_self, or_true, true_or, qb_or, reduceCtorEq, qbr_True, qbr_False, q10, q01, qwM, pjx hS, e1, e2, e3, ncl (show k + 2 < 10000 by omega), ncl (show k + 3 < 10000 by omega)]
            refine ⟨nI_vp (by omega) (by omega), ?_⟩
            refine ⟨nI_vp (by omega) (by omega), ?_⟩
            refine qbr_i (fun c1 => ?_) (fun c1 => ?_)
            · refine qbr_i (fun c2 => ?_) (fun c2 => ?_)
              · first | exact at171 true _ _ rfl rfl (by rw [htst, if_pos c1, decide_eq_true c2]) | exact at171 false _ _ rfl rfl (by rw [htst, if_pos c1, decide_eq_false c2]) | exact at171 false _ _ rfl rfl (by rw [htst, if_neg c1, if_pos c2, decide_eq_false (Int32.not_lt.mpr c3)]) | exact at171 true _ _ rfl rfl (by rw [htst, if_neg c1, if_pos c2, decide_eq_true (Int32.not_le.mp c3)]) | exact at171 false _ _ rfl rfl (by rw [htst, if_neg c1, if_neg c2, decide_eq_false (Int32.not_lt.mpr c3)]) | exact at171 true _ _ rfl rfl (by rw [htst, if_neg c1, if_neg c2, decide_eq_true (Int32.not_le.mp c3)])
              · refine oX11_holds_126 _ _ _ _ _ _ ?_
                simp only [bX11_holds_126, qsem, qopt_s, qopt2_s, qev, qxs, Nat.reduceEqDiff, reduceIte, and_true, true_and, and_false, false_and, and_self, or_true, true_or, qb_or, reduceCtorEq, qbr_True, qbr_False, q10, q01, qwM, pjx hS, e1, e2, e3, ncl (show k + 2 < 10000 by omega), ncl (show k + 3 < 10000 by omega)]
                first | exact at171 true _ _ rfl rfl (by rw [htst, if_pos c1, decide_eq_true c2]) | exact at171 false _ _ rfl rfl (by rw [htst, if_pos c1, decide_eq_false c2]) | exact at171 false _ _ rfl rfl (by rw [htst, if_neg c1, if_pos c2, decide_eq_false (Int32.not_lt.mpr c3)]) | exact at171 true _ _ rfl rfl (by rw [htst, if_neg c1, if_pos c2, decide_eq_true (Int32.not_le.mp c3)]) | exact at171 false _ _ rfl rfl (by rw [htst, if_neg c1, if_neg c2, decide_eq_false (Int32.not_lt.mpr c3)]) | exact at171 true _ _ rfl rfl (by rw [htst, if_neg c1, if_neg c2, decide_eq_true (Int32.not_le.mp c3)])
            · refine oX11_holds_130 _ _ _ _ _ _ ?_
              simp only [bX11_holds_130, qsem, qopt_s, qopt2_s, qev, qxs, Nat.reduceEqDiff, reduceIte, and_true, true_and, and_false, false_and, and_self, or_true, true_or, qb_or, reduceCtorEq, qbr_True, qbr_False, q10, q01, qwM, pjx hS, e1, e2, e3, ncl (show k + 2 < 10000 by omega), ncl (show k + 3 < 10000 by omega)]
              refine ⟨nI_vp (by omega) (by omega), ?_⟩
              refine qbr_i (fun c2 => ?_) (fun c2 => ?_)
              · refine qbr_i (fun c3 => ?_) (fun c3 => ?_)
                · refine oX11_holds_155 _ _ _ _ _ _ ?_
                  simp only [bX11_holds_155, qsem, qopt_s, qopt2_s, qev, qxs, Nat.reduceEqDiff, reduceIte, and_true, true_and, and_false, false_and, and_self, or_true, true_or, qb_or, reduceCtorEq, qbr_True, qbr_False, q10, q01, qwM, pjx hS, e1, e2, e3, ncl (show k + 2 < 10000 by omega), ncl (show k + 3 < 10000 by omega)]
                  first | exact at171 true _ _ rfl rfl (by rw [htst, if_pos c1, decide_eq_true c2]) | exact at171 false _ _ rfl rfl (by rw [htst, if_pos c1, decide_eq_false c2]) | exact at171 false _ _ rfl rfl (by rw [htst, if_neg c1, if_pos c2, decide_eq_false (Int32.not_lt.mpr c3)]) | exact at171 true _ _ rfl rfl (by rw [htst, if_neg c1, if_pos c2, decide_eq_true (Int32.not_le.mp c3)]) | exact at171 false _ _ rfl rfl (by rw [htst, if_neg c1, if_neg c2, decide_eq_false (Int32.not_lt.mpr c3)]) | exact at171 true _ _ rfl rfl (by rw [htst, if_neg c1, if_neg c2, decide_eq_true (Int32.not_le.mp c3)])
                · first | exact at171 true _ _ rfl rfl (by rw [htst, if_pos c1, decide_eq_true c2]) | exact at171 false _ _ rfl rfl (by rw [htst, if_pos c1, decide_eq_false c2]) | exact at171 false _ _ rfl rfl (by rw [htst, if_neg c1, if_pos c2, decide_eq_false (Int32.not_lt.mpr c3)]) | exact at171 true _ _ rfl rfl (by rw [htst, if_neg c1, if_pos c2, decide_eq_true (Int32.not_le.mp c3)]) | exact at171 false _ _ rfl rfl (by rw [htst, if_neg c1, if_neg c2, decide_eq_false (Int32.not_lt.mpr c3)]) | exact at171 true _ _ rfl rfl (by rw [htst, if_neg c1, if_neg c2, decide_eq_true (Int32.not_le.mp c3)])
              · refine oX11_holds_159 _ _ _ _ _ _ ?_
                simp only [bX11_holds_159, qsem, qopt_s, qopt2_s, qev, qxs, Nat.reduceEqDiff, reduceIte, and_true, true_and, and_false, false_and, and_self, or_true, true_or, qb_or, reduceCtorEq, qbr_True, qbr_False, q10, q01, qwM, pjx hS, e1, e2, e3, ncl (show k + 2 < 10000 by omega), ncl (show k + 3 < 10000 by omega)]
                refine qbr_i (fun c3 => ?_) (fun c3 => ?_)
                · refine oX11_holds_170 _ _ _ _ _ _ ?_
                  simp only [bX11_holds_170, qsem, qopt_s, qopt2_s, qev, qxs, Nat.reduceEqDiff, reduceIte, and_true, true_and, and_false, false_and, and_self, or_true, true_or, qb_or, reduceCtorEq, qbr_True, qbr_False, q10, q01, qwM, pjx hS, e1, e2, e3, ncl (show k + 2 < 10000 by omega), ncl (show k + 3 < 10000 by omega)]
                  first | exact at171 true _ _ rfl rfl (by rw [htst, if_pos c1, decide_eq_true c2]) | exact at171 false _ _ rfl rfl (by rw [htst, if_pos c1, decide_eq_false c2]) | exact at171 false _ _ rfl rfl (by rw [htst, if_neg c1, if_pos c2, decide_eq_false (Int32.not_lt.mpr c3)]) | exact at171 true _ _ rfl rfl (by rw [htst, if_neg c1, if_pos c2, decide_eq_true (Int32.not_le.mp c3)]) | exact at171 false _ _ rfl rfl (by rw [htst, if_neg c1, if_neg c2, decide_eq_false (Int32.not_lt.mpr c3)]) | exact at171 true _ _ rfl rfl (by rw [htst, if_neg c1, if_neg c2, decide_eq_true (Int32.not_le.mp c3)])
                · first | exact at171 true _ _ rfl rfl (by rw [htst, if_pos c1, decide_eq_true c2]) | exact at171 false _ _ rfl rfl (by rw [htst, if_pos c1, decide_eq_false c2]) | exact at171 false _ _ rfl rfl (by rw [htst, if_neg c1, if_pos c2, decide_eq_false (Int32.not_lt.mpr c3)]) | exact at171 true _ _ rfl rfl (by rw [htst, if_neg c1, if_pos c2, decide_eq_true (Int32.not_le.mp c3)]) | exact at171 false _ _ rfl rfl (by rw [htst, if_neg c1, if_neg c2, decide_eq_false (Int32.not_lt.mpr c3)]) | exact at171 true _ _ rfl rfl (by rw [htst, if_neg c1, if_neg c2, decide_eq_true (Int32.not_le.mp c3)])
          refine oX11_holds_24 _ _ _ _ _ _ ?_
          simp only [bX11_holds_24, qsem, qopt_s, qopt2_s, qev, qxs, Nat.reduceEqDiff, reduceIte, and_true, true_and, and_false, false_and, and_self, or_true, true_or, qb_or, reduceCtorEq, qbr_True, qbr_False, q10, q01, qwM, pjx hS, ncl (show k < 10000 by omega), e1, ncl (show k + 1 < 10000 by omega)]
          refine ⟨nI_vp (by omega) (by omega), ?_⟩
          refine qbr_f (h3) ?_
          refine ⟨nI_vp (by omega) (by omega), ?_⟩
          refine qbr_t (hz) ?_
          refine ⟨nI_vp (by omega) (by omega), ?_⟩
          refine qbr_i (fun c1 => ?_) (fun c1 => ?_)
          · first | exact at82 _ (by rw [if_pos c1]) | exact at82 _ (by rw [if_neg c1, if_pos c2]) | exact at82 _ (by rw [if_neg c1, if_neg c2])
          · refine oX11_holds_63 _ _ _ _ _ _ ?_
            simp only [bX11_holds_63, qsem, qopt_s, qopt2_s, qev, qxs, Nat.reduceEqDiff, reduceIte, and_true, true_and, and_false, false_and, and_self, or_true, true_or, qb_or, reduceCtorEq, qbr_True, qbr_False, q10, q01, qwM, pjx hS, ncl (show k < 10000 by omega), e1, ncl (show k + 1 < 10000 by omega)]
            refine ⟨nI_vp (by omega) (by omega), ?_⟩
            refine qbr_i (fun c2 => ?_) (fun c2 => ?_)
            · first | exact at82 _ (by rw [if_pos c1]) | exact at82 _ (by rw [if_neg c1, if_pos c2]) | exact at82 _ (by rw [if_neg c1, if_neg c2])
            · refine oX11_holds_81 _ _ _ _ _ _ ?_
              simp only [bX11_holds_81, qsem, qopt_s, qopt2_s, qev, qxs, Nat.reduceEqDiff, reduceIte, and_true, true_and, and_false, false_and, and_self, or_true, true_or, qb_or, reduceCtorEq, qbr_True, qbr_False, q10, q01, qwM, pjx hS, ncl (show k < 10000 by omega), e1, ncl (show k + 1 < 10000 by omega)]
              first | exact at82 _ (by rw [if_pos c1]) | exact at82 _ (by rw [if_neg c1, if_pos c2]) | exact at82 _ (by rw [if_neg c1, if_neg c2])
        · rw [if_neg hz] at he
          by_cases hn2 : n < 2
          · rw [if_pos hn2] at he; cases he
          rw [if_neg hn2] at he
          have em1 : nI n + -1 = nI (n - 1) := nIpm (by omega)
          have em2 : nI (n - 1) - 1 = nI (n - 2) := by rw [show (1 : Int32) = nI 1 from rfl, pk_sub (by omega)]; congr 1
          have at260 : ∀ z : Bool, z = (if S.2.1 161 k = 1 then ps (n - 2) && ps (n - 1) else ps (n - 2) || ps (n - 1)) → AW (mX11_holds, 0, 0, 0, none, Q) 260 [some (.ref 136), some (.int t), some (.int u), some (.int b), some (.int (nI k)), some (.int (nI (n - 1))), o6, o7] [.int (qb z), .int (nI (n - 2)), .ref 163] (wd C M r) 0 0 := by
            intro z hzz
            refine oX11_holds_260 _ _ _ _ _ _ ?_
            simp only [bX11_holds_260, qsem, qopt_s, qopt2_s, qev, qxs, Nat.reduceEqDiff, reduceIte, and_true, true_and, and_false, false_and, and_self, or_true, true_or, qb_or, reduceCtorEq, qbr_True, qbr_False, q10, q01, qwM, ncl (show n - 2 < 10000 by omega), nI_1]
            refine ⟨nI_vp (by omega) (by omega), ?_⟩
            refine ih (k + 1) (n - 1) _ _ o6 o7 q6 q7 (by simp only [pjs]; exact hS) (fun j hj => ?_) he
            simp only [qxs, if_true, upd, bst]
            split
            · rw [hzz]
            · exact hp j (by omega)
          refine oX11_holds_24 _ _ _ _ _ _ ?_
          simp only [bX11_holds_24, qsem, qopt_s, qopt2_s, qev, qxs, Nat.reduceEqDiff, reduceIte, and_true, true_and, and_false, false_and, and_self, or_true, true_or, qb_or, reduceCtorEq, qbr_True, qbr_False, q10, q01, qwM, pjx hS, ncl (show k < 10000 by omega), em1, em2, ncl (show n - 2 < 10000 by omega), ncl (show n - 1 < 10000 by omega), hp (n - 2) (by omega), hp (n - 1) (by omega), qb_0]
          refine ⟨nI_vp (by omega) (by omega), ?_⟩
          refine qbr_f (h3) ?_
          refine ⟨nI_vp (by omega) (by omega), ?_⟩
          refine qbr_f (hz) ?_
          refine oX11_holds_181 _ _ _ _ _ _ ?_
          simp only [bX11_holds_181, qsem, qopt_s, qopt2_s, qev, qxs, Nat.reduceEqDiff, reduceIte, and_true, true_and, and_false, false_and, and_self, or_true, true_or, qb_or, reduceCtorEq, qbr_True, qbr_False, q10, q01, qwM, pjx hS, ncl (show k < 10000 by omega), em1, em2, ncl (show n - 2 < 10000 by omega), ncl (show n - 1 < 10000 by omega), hp (n - 2) (by omega), hp (n - 1) (by omega), qb_0]
          refine ⟨nI_vp (by omega) (by omega), ?_⟩
          refine qbr_i (fun c1 => ?_) (fun c1 => ?_)
          · refine ⟨nI_vp (by omega) (by omega), ?_⟩
            refine qbr_i (fun c2 => ?_) (fun c2 => ?_)
            · refine oX11_holds_229 _ _ _ _ _ _ ?_
              simp only [bX11_holds_229, qsem, qopt_s, qopt2_s, qev, qxs, Nat.reduceEqDiff, reduceIte, and_true, true_and, and_false, false_and, and_self, or_true, true_or, qb_or, reduceCtorEq, qbr_True, qbr_False, q10, q01, qwM, pjx hS, ncl (show k < 10000 by omega), em1, em2, ncl (show n - 2 < 10000 by omega), ncl (show n - 1 < 10000 by omega), hp (n - 2) (by omega), hp (n - 1) (by omega), qb_0]
              first | exact at260 false (by rw [if_pos c1, c2]; rfl) | exact at260 false (by rw [if_pos c1, c3, Bool.and_false]) | exact at260 true (by rw [if_pos c1, (Bool.not_eq_false _).mp c2, (Bool.not_eq_false _).mp c3]; rfl) | exact at260 false (by rw [if_neg c1, c2, c3]; rfl) | exact at260 true (by rw [if_neg c1, (Bool.not_eq_false _).mp c3, Bool.or_true]) | exact at260 true (by rw [if_neg c1, (Bool.not_eq_false _).mp c2]; rfl)
            · refine ⟨nI_vp (by omega) (by omega), ?_⟩
              refine qbr_i (fun c3 => ?_) (fun c3 => ?_)
              · refine oX11_holds_229 _ _ _ _ _ _ ?_
                simp only [bX11_holds_229, qsem, qopt_s, qopt2_s, qev, qxs, Nat.reduceEqDiff, reduceIte, and_true, true_and, and_false, false_and, and_self, or_true, true_or, qb_or, reduceCtorEq, qbr_True, qbr_False, q10, q01, qwM, pjx hS, ncl (show k < 10000 by omega), em1, em2, ncl (show n - 2 < 10000 by omega), ncl (show n - 1 < 10000 by omega), hp (n - 2) (by omega), hp (n - 1) (by omega), qb_0]
                first | exact at260 false (by rw [if_pos c1, c2]; rfl) | exact at260 false (by rw [if_pos c1, c3, Bool.and_false]) | exact at260 true (by rw [if_pos c1, (Bool.not_eq_false _).mp c2, (Bool.not_eq_false _).mp c3]; rfl) | exact at260 false (by rw [if_neg c1, c2, c3]; rfl) | exact at260 true (by rw [if_neg c1, (Bool.not_eq_false _).mp c3, Bool.or_true]) | exact at260 true (by rw [if_neg c1, (Bool.not_eq_false _).mp c2]; rfl)
              · first | exact at260 false (by rw [if_pos c1, c2]; rfl) | exact at260 false (by rw [if_pos c1, c3, Bool.and_false]) | exact at260 true (by rw [if_pos c1, (Bool.not_eq_false _).mp c2, (Bool.not_eq_false _).mp c3]; rfl) | exact at260 false (by rw [if_neg c1, c2, c3]; rfl) | exact at260 true (by rw [if_neg c1, (Bool.not_eq_false _).mp c3, Bool.or_true]) | exact at260 true (by rw [if_neg c1, (Bool.not_eq_false _).mp c2]; rfl)
          · refine oX11_holds_233 _ _ _ _ _ _ ?_
            simp only [bX11_holds_233, qsem, qopt_s, qopt2_s, qev, qxs, Nat.reduceEqDiff, reduceIte, and_true, true_and, and_false, false_and, and_self, or_true, true_or, qb_or, reduceCtorEq, qbr_True, qbr_False, q10, q01, qwM, pjx hS, ncl (show k < 10000 by omega), em1, em2, ncl (show n - 2 < 10000 by omega), ncl (show n - 1 < 10000 by omega), hp (n - 2) (by omega), hp (n - 1) (by omega), qb_0]
            refine ⟨nI_vp (by omega) (by omega), ?_⟩
            refine qbr_i (fun c2 => ?_) (fun c2 => ?_)
            · refine ⟨nI_vp (by omega) (by omega), ?_⟩
              refine qbr_i (fun c3 => ?_) (fun c3 => ?_)
              · refine oX11_holds_259 _ _ _ _ _ _ ?_
                simp only [bX11_holds_259, qsem, qopt_s, qopt2_s, qev, qxs, Nat.reduceEqDiff, reduceIte, and_true, true_and, and_false, false_and, and_self, or_true, true_or, qb_or, reduceCtorEq, qbr_True, qbr_False, q10, q01, qwM, pjx hS, ncl (show k < 10000 by omega), em1, em2, ncl (show n - 2 < 10000 by omega), ncl (show n - 1 < 10000 by omega), hp (n - 2) (by omega), hp (n - 1) (by omega), qb_0]
                first | exact at260 false (by rw [if_pos c1, c2]; rfl) | exact at260 false (by rw [if_pos c1, c3, Bool.and_false]) | exact at260 true (by rw [if_pos c1, (Bool.not_eq_false _).mp c2, (Bool.not_eq_false _).mp c3]; rfl) | exact at260 false (by rw [if_neg c1, c2, c3]; rfl) | exact at260 true (by rw [if_neg c1, (Bool.not_eq_false _).mp c3, Bool.or_true]) | exact at260 true (by rw [if_neg c1, (Bool.not_eq_false _).mp c2]; rfl)
              · refine oX11_holds_255 _ _ _ _ _ _ ?_
                simp only [bX11_holds_255, qsem, qopt_s, qopt2_s, qev, qxs, Nat.reduceEqDiff, reduceIte, and_true, true_and, and_false, false_and, and_self, or_true, true_or, qb_or, reduceCtorEq, qbr_True, qbr_False, q10, q01, qwM, pjx hS, ncl (show k < 10000 by omega), em1, em2, ncl (show n - 2 < 10000 by omega), ncl (show n - 1 < 10000 by omega), hp (n - 2) (by omega), hp (n - 1) (by omega), qb_0]
                first | exact at260 false (by rw [if_pos c1, c2]; rfl) | exact at260 false (by rw [if_pos c1, c3, Bool.and_false]) | exact at260 true (by rw [if_pos c1, (Bool.not_eq_false _).mp c2, (Bool.not_eq_false _).mp c3]; rfl) | exact at260 false (by rw [if_neg c1, c2, c3]; rfl) | exact at260 true (by rw [if_neg c1, (Bool.not_eq_false _).mp c3, Bool.or_true]) | exact at260 true (by rw [if_neg c1, (Bool.not_eq_false _).mp c2]; rfl)
            · refine oX11_holds_255 _ _ _ _ _ _ ?_
              simp only [bX11_holds_255, qsem, qopt_s, qopt2_s, qev, qxs, Nat.reduceEqDiff, reduceIte, and_true, true_and, and_false, false_and, and_self, or_true, true_or, qb_or, reduceCtorEq, qbr_True, qbr_False, q10, q01, qwM, pjx hS, ncl (show k < 10000 by omega), em1, em2, ncl (show n - 2 < 10000 by omega), ncl (show n - 1 < 10000 by omega), hp (n - 2) (by omega), hp (n - 1) (by omega), qb_0]
              first | exact at260 false (by rw [if_pos c1, c2]; rfl) | exact at260 false (by rw [if_pos c1, c3, Bool.and_false]) | exact at260 true (by rw [if_pos c1, (Bool.not_eq_false _).mp c2, (Bool.not_eq_false _).mp c3]; rfl) | exact at260 false (by rw [if_neg c1, c2, c3]; rfl) | exact at260 true (by rw [if_neg c1, (Bool.not_eq_false _).mp c3, Bool.or_true]) | exact at260 true (by rw [if_neg c1, (Bool.not_eq_false _).mp c2]; rfl)
    have eb : 220 * (nI (cR S) - 1) = nI (220 * (cR S - 1)) := by
      rw [show (1 : Int32) = nI 1 from rfl, pk_sub (by omega), show (220 : Int32) = nI 220 from rfl, pk_mul]
    refine oX11_holds_0 _ _ _ _ _ _ ?_
    simp only [bX11_holds_0, qsem, qopt_s, qopt2_s, qev, qxs, Nat.reduceEqDiff, reduceIte, and_true, true_and, and_false, false_and, and_self, or_true, true_or, qb_or, reduceCtorEq, qbr_True, qbr_False, q10, q01, qwM, pjx hS, h1.1.2.2.1, eb]
    refine qbr_f (nI_ne0 (by omega) (by omega)) ?_
    refine oX11_holds_9 _ _ _ _ _ _ ?_
    simp only [bX11_holds_9, qsem, qopt_s, qopt2_s, qev, qxs, Nat.reduceEqDiff, reduceIte, and_true, true_and, and_false, false_and, and_self, or_true, true_or, qb_or, reduceCtorEq, qbr_True, qbr_False, q10, q01, qwM, pjx hS, h1.1.2.2.1, eb]
    exact loop fu (220 * (cR S - 1)) 0 M (fun _ => false) none none rfl rfl hS (fun j hj => by omega) hev


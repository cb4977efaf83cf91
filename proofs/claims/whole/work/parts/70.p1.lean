/-- the reader's own fields: at, wrong, deep, said, and the row 'saying' -/
def pS (M : qC) (p : Nat) (w : Int32) (d s : Nat) (cs : Nat → Int32) : Prop := xI M 136 33 = nI p ∧ xI M 136 34 = w ∧ xI M 136 35 = nI d ∧ xI M 136 36 = nI s ∧ xA M 162 = cs
/-- behind blanks -/
def skb (S : qS) : Nat → Nat → Nat
  | 0, p => p
  | k + 1, p => if p < cT S ∧ S.2.1 160 p = 32 then skb S k (p + 1) else p
def skn (S : qS) (p : Nat) : Nat := skb S (cT S - p) p
def byA (S : qS) (p : Nat) : Int32 := if p < cT S then S.2.1 160 p else -1
set_option maxRecDepth 100000 in
set_option maxHeartbeats 4000000 in
theorem zX11_look {C M : qC} {r : Nat × Nat × Nat} {S : qS} {p d s : Nat} {w : Int32} {cs : Nat → Int32} (hS : pj M = S) (h1 : W1 S) (hp : pS M p w d s cs) (hpb : p < 500) : CT mX11_look 0 0 0 [.ref 136] (wd C M r) (fun r' w' => ∃ M', w' = wd C M' r ∧ pj M' = S ∧ pS M' (skn S p) w d s cs ∧ r' = some (.int (byA S (skn S p)))) := by
  have hT := h1.2.2.2.2.2.2.2
  have h32 := h1.1.2.2.2.2.2.2
  refine eX11_look (AW_gen (fun Q hQ => ?_))
  have loop : ∀ (k q : Nat) (M : qC), cT S - q = k → q < 500 → skb S k q = skn S p → pj M = S → pS M q w d s cs → AW (mX11_look, 0, 0, 0, none, Q) 0 [some (.ref 136)] [] (wd C M r) 0 0 := by
    intro k
    induction k with
    | zero =>
      intro q M hk hq he hS hp
      have hqe : skn S p = q := he.symm
      refine oX11_look_0 _ _ _ _ _ _ ?_
      simp only [bX11_look_0, qsem, qopt_s, qopt2_s, qev, qxs, Nat.reduceEqDiff, reduceIte, and_true, true_and, and_false, false_and, and_self, or_true, true_or, qb_or, reduceCtorEq, qbr_True, qbr_False, q10, q01, qwM, hp.1, pjx hS, h32]
      refine qbr_t (nI_le (by omega) (by omega)) ?_
      refine oX11_look_38 _ _ _ _ _ _ ?_
      simp only [bX11_look_38, qsem, qopt_s, qopt2_s, qev, qxs, Nat.reduceEqDiff, reduceIte, and_true, true_and, and_false, false_and, and_self, or_true, true_or, qb_or, reduceCtorEq, qbr_True, qbr_False, q10, q01, qwM, hp.1, pjx hS, h32]
      refine qbr_t (nI_le (by omega) (by omega)) ?_
      refine oX11_look_61 _ _ _ _ _ _ ?_
      simp only [bX11_look_61, qsem, qopt_s, qopt2_s, qev, qxs, Nat.reduceEqDiff, reduceIte, and_true, true_and, and_false, false_and, and_self, or_true, true_or, qb_or, reduceCtorEq, qbr_True, qbr_False, q10, q01, qwM, hp.1, pjx hS, h32]
      refine oX11_look_62 _ _ _ _ _ _ ?_
      simp only [bX11_look_62, qsem, qopt_s, qopt2_s, qev, qxs, Nat.reduceEqDiff, reduceIte, and_true, true_and, and_false, false_and, and_self, or_true, true_or, qb_or, reduceCtorEq, qbr_True, qbr_False, q10, q01, qwM, hp.1, pjx hS, h32]
      exact hQ _ _ ⟨M, rfl, hS, by rw [hqe]; exact hp, ri (by rw [hqe]; unfold byA; rw [if_neg (by omega)])⟩
    | succ k ih =>
      intro q M hk hq he hS hp
      unfold skb at he
      by_cases hb : S.2.1 160 q = 32
      · rw [if_pos ⟨by omega, hb⟩] at he
        refine oX11_look_0 _ _ _ _ _ _ ?_
        simp only [bX11_look_0, qsem, qopt_s, qopt2_s, qev, qxs, Nat.reduceEqDiff, reduceIte, and_true, true_and, and_false, false_and, and_self, or_true, true_or, qb_or, reduceCtorEq, qbr_True, qbr_False, q10, q01, qwM, hp.1, pjx hS, h32, nIcl (show q < 1000 by omega), nI_1]
        refine qbr_f (nI_ge (by omega) (by omega)) ?_
        refine ⟨nI_vp (by omega) (by omega), ?_⟩
        refine qbr_t (hb) ?_
        refine ih (q + 1) _ (by omega) (by omega) he (by simp only [pjs]; exact hS) ?_
        unfold pS at hp ⊢
        simp only [qxs, Nat.reduceEqDiff, reduceIte, and_true, true_and, and_self, and_false]
        exact ⟨hp.2.1, hp.2.2.1, hp.2.2.2.1, hp.2.2.2.2⟩
      · rw [if_neg (fun q => hb q.2)] at he
        have hqe : skn S p = q := he.symm
        refine oX11_look_0 _ _ _ _ _ _ ?_
        simp only [bX11_look_0, qsem, qopt_s, qopt2_s, qev, qxs, Nat.reduceEqDiff, reduceIte, and_true, true_and, and_false, false_and, and_self, or_true, true_or, qb_or, reduceCtorEq, qbr_True, qbr_False, q10, q01, qwM, hp.1, pjx hS, h32, nIcl (show q < 1000 by omega)]
        refine qbr_f (nI_ge (by omega) (by omega)) ?_
        refine ⟨nI_vp (by omega) (by omega), ?_⟩
        refine qbr_f (hb) ?_
        refine oX11_look_38 _ _ _ _ _ _ ?_
        simp only [bX11_look_38, qsem, qopt_s, qopt2_s, qev, qxs, Nat.reduceEqDiff, reduceIte, and_true, true_and, and_false, false_and, and_self, or_true, true_or, qb_or, reduceCtorEq, qbr_True, qbr_False, q10, q01, qwM, hp.1, pjx hS, h32, nIcl (show q < 1000 by omega)]
        refine qbr_f (nI_ge (by omega) (by omega)) ?_
        refine ⟨nI_vp (by omega) (by omega), ?_⟩
        refine oX11_look_62 _ _ _ _ _ _ ?_
        simp only [bX11_look_62, qsem, qopt_s, qopt2_s, qev, qxs, Nat.reduceEqDiff, reduceIte, and_true, true_and, and_false, false_and, and_self, or_true, true_or, qb_or, reduceCtorEq, qbr_True, qbr_False, q10, q01, qwM, hp.1, pjx hS, h32, nIcl (show q < 1000 by omega)]
        exact hQ _ _ ⟨M, rfl, hS, by rw [hqe]; exact hp, ri (by rw [hqe]; unfold byA; rw [if_pos (by omega)])⟩
  exact loop _ p M rfl hpb rfl hS hp
set_option maxRecDepth 100000 in
set_option maxHeartbeats 4000000 in
theorem zX11_say {C M : qC} {r : Nat × Nat × Nat} {S : qS} {p d s : Nat} {w x : Int32} {cs : Nat → Int32} (hS : pj M = S) (hp : pS M p w d s cs) (hs : s < 220) : CT mX11_say 0 0 0 [.ref 136, .int x] (wd C M r) (fun r' w' => ∃ M', r' = none ∧ w' = wd C M' r ∧ pj M' = S ∧ pS M' p w d (s + 1) (upd cs s x)) := by
  refine eX11_say (AW_gen (fun Q hQ => ?_))
  refine oX11_say_0 _ _ _ _ _ _ ?_
  simp only [bX11_say_0, qsem, qopt_s, qopt2_s, qev, qxs, Nat.reduceEqDiff, reduceIte, and_true, true_and, and_false, false_and, and_self, or_true, true_or, qb_or, reduceCtorEq, qbr_True, qbr_False, q10, q01, qwM, hp.2.2.2.1, hp.2.2.2.2, nIcl (show s < 1000 by omega), nI_1]
  refine ⟨nI_vp (by omega) (by omega), ?_⟩
  refine hQ _ _ ⟨_, rfl, rfl, by simp only [pjs]; exact hS, ?_⟩
  unfold pS at hp ⊢
  simp only [qxs, Nat.reduceEqDiff, reduceIte, and_true, true_and, and_self, and_false]
  exact ⟨hp.1, hp.2.1, hp.2.2.1⟩
set_option maxRecDepth 100000 in
set_option maxHeartbeats 4000000 in
theorem zX11_fail {C M : qC} {r : Nat × Nat × Nat} {S : qS} {p d s : Nat} {w : Int32} {cs : Nat → Int32} (hS : pj M = S) (hp : pS M p w d s cs) : CT mX11_fail 0 0 0 [.ref 136] (wd C M r) (fun r' w' => ∃ M', r' = none ∧ w' = wd C M' r ∧ pj M' = S ∧ pS M' p (if w = -1 then nI p else w) d s cs) := by
  refine eX11_fail (AW_gen (fun Q hQ => ?_))
  refine oX11_fail_0 _ _ _ _ _ _ ?_
  simp only [bX11_fail_0, qsem, qopt_s, qopt2_s, qev, qxs, Nat.reduceEqDiff, reduceIte, and_true, true_and, and_false, false_and, and_self, or_true, true_or, qb_or, reduceCtorEq, qbr_True, qbr_False, q10, q01, qwM, hp.1, hp.2.1]
  refine qbr_i (fun c1 => ?_) (fun c1 => ?_)
  · refine oX11_fail_20 _ _ _ _ _ _ ?_
    simp only [bX11_fail_20, qsem, qopt_s, qopt2_s, qev, qxs, Nat.reduceEqDiff, reduceIte, and_true, true_and, and_false, false_and, and_self, or_true, true_or, qb_or, reduceCtorEq, qbr_True, qbr_False, q10, q01, qwM, hp.1, hp.2.1]
    refine hQ _ _ ⟨_, rfl, rfl, by simp only [pjs]; exact hS, ?_⟩
    unfold pS at hp ⊢
    simp only [qxs, Nat.reduceEqDiff, reduceIte, and_true, true_and, and_self, and_false]
    (first | (rw [if_pos c1]; exact ⟨hp.1, rfl, hp.2.2.1, hp.2.2.2.1, hp.2.2.2.2⟩) | (rw [if_neg c1]; exact ⟨hp.1, rfl, hp.2.2.1, hp.2.2.2.1, hp.2.2.2.2⟩))
  · refine oX11_fail_16 _ _ _ _ _ _ ?_
    simp only [bX11_fail_16, qsem, qopt_s, qopt2_s, qev, qxs, Nat.reduceEqDiff, reduceIte, and_true, true_and, and_false, false_and, and_self, or_true, true_or, qb_or, reduceCtorEq, qbr_True, qbr_False, q10, q01, qwM, hp.1, hp.2.1]
    refine oX11_fail_20 _ _ _ _ _ _ ?_
    simp only [bX11_fail_20, qsem, qopt_s, qopt2_s, qev, qxs, Nat.reduceEqDiff, reduceIte, and_true, true_and, and_false, false_and, and_self, or_true, true_or, qb_or, reduceCtorEq, qbr_True, qbr_False, q10, q01, qwM, hp.1, hp.2.1]
    refine hQ _ _ ⟨_, rfl, rfl, by simp only [pjs]; exact hS, ?_⟩
    unfold pS at hp ⊢
    simp only [qxs, Nat.reduceEqDiff, reduceIte, and_true, true_and, and_self, and_false]
    (first | (rw [if_pos c1]; exact ⟨hp.1, rfl, hp.2.2.1, hp.2.2.2.1, hp.2.2.2.2⟩) | (rw [if_neg c1]; exact ⟨hp.1, rfl, hp.2.2.1, hp.2.2.2.1, hp.2.2.2.2⟩))


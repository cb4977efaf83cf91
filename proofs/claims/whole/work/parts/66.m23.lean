/-- a byte of a word -/
def byt (x : Int32) (k : Nat) : Int32 := (x >>> (nI (8 * k) &&& 31)) &&& 255
def byB (x : Int32) (k : Nat) : Bool := decide (¬ byt x k = 0)
def psh (S : qS) (v : Int32) : qS := sI (sA S 160 (upd (S.2.1 160) (cT S) v)) 32 (S.1 32 + 1)
def fdS (S : qS) (x : Int32) : Nat → qS
  | 0 => S
  | j + 1 => if byB x (3 - j) then psh (fdS S x j) (byt x (3 - j)) else fdS S x j
theorem psh_T {S : qS} {v : Int32} (h : S.1 32 = nI (cT S)) (hb : cT S < 200) : (psh S v).1 32 = nI (cT (psh S v)) ∧ cT (psh S v) = cT S + 1 := by
  have e : (psh S v).1 32 = nI (cT S + 1) := by
    show S.1 32 + 1 = _
    rw [h, nI_1]
  have e2 : cT (psh S v) = cT S + 1 := by
    show ((psh S v).1 32).toNatClampNeg = _
    rw [e, nIcl (by omega)]
  exact ⟨by rw [e, e2], e2⟩
theorem fdS_T {S : qS} {x : Int32} (h : S.1 32 = nI (cT S)) (hb : cT S ≤ 100) : ∀ j, j ≤ 4 → (fdS S x j).1 32 = nI (cT (fdS S x j)) ∧ cT (fdS S x j) = cT S + fb_ct (fun i => byB x (3 - i)) j
  | 0, _ => ⟨h, rfl⟩
  | j + 1, hj => by
    obtain ⟨a, b⟩ := fdS_T (x := x) h hb j (by omega)
    have hle := fb_ct_le (fun i => byB x (3 - i)) j
    unfold fdS
    rw [fb_ct_succ]
    by_cases hy : byB x (3 - j) = true
    · rw [if_pos hy, if_pos hy]
      have := psh_T (v := byt x (3 - j)) a (by omega)
      exact ⟨this.1, by rw [this.2, b]; omega⟩
    · rw [if_neg hy, if_neg hy]
      exact ⟨a, b⟩
theorem byt_ct (x : Int32) : fb_ct (fun i => byB x (3 - i)) 4 = fb_ct (fun k => byB x k) 4 := by
  simp only [fb_ct, Nat.reduceSub, Nat.sub_zero, Nat.sub_self]
  omega
set_option maxRecDepth 100000 in
set_option maxHeartbeats 4000000 in
theorem zX11_feed {C M : qC} {r : Nat × Nat × Nat} {S : qS} {x : Int32} (hS : pj M = S) (h1 : W1 S) : CT mX11_feed 0 0 0 [.ref 136, .int x] (wd C M r) (fun r' w' => ∃ M', w' = wd C M' r ∧ ((100 < cT S + fb_ct (fun k => byB x k) 4 ∧ r' = some (.int (-1)) ∧ pj M' = S) ∨ (cT S + fb_ct (fun k => byB x k) 4 ≤ 100 ∧ r' = some (.int (nI (cT S + fb_ct (fun k => byB x k) 4))) ∧ pj M' = fdS S x 4))) := by
  have hT := h1.2.2.2.2.2.2.2
  have h32 := h1.1.2.2.2.2.2.2
  have e8 : ∀ k, 8 * nI k = nI (8 * k) := fun k => pk_mul 8 k
  have eb : ∀ (c : Nat) (b : Bool), nI c + qb b = nI (c + if b = true then 1 else 0) := fun c b => by cases b <;> simp [qb, nI_1]
  refine eX11_feed (AW_gen (fun Q hQ => ?_))
  refine oX11_feed_0 _ _ _ _ _ _ ?_
  simp only [bX11_feed_0, qsem, qopt_s, qopt2_s, qev, qxs, Nat.reduceEqDiff, reduceIte, and_true, true_and, and_false, false_and, and_self, or_true, true_or, qb_or, reduceCtorEq, qbr_True, qbr_False, q10, q01, qwM]
  have l2 : cT S + fb_ct (fun k => byB x k) 4 ≤ 100 → ∀ (j : Nat) (M : qC) (o4 : Option Value) (m : Int32), q_nb (some o4) = true → j ≤ 4 → pj M = fdS S x (4 - j) → AW (mX11_feed, 0, 0, 0, none, Q) 51 [some (.ref 136), some (.int x), some (.int m), some (.int (nI j - 1)), o4] [] (wd C M r) 0 0 := by
    intro hle j
    induction j with
    | zero =>
      intro M o4 m q4 hj hM
      have hf := fdS_T (x := x) h32 hT 4 (by omega)
      refine oX11_feed_51 _ _ _ _ _ _ ?_
      simp only [bX11_feed_51, qsem, qopt_s, qopt2_s, qev, qxs, Nat.reduceEqDiff, reduceIte, and_true, true_and, and_false, false_and, and_self, or_true, true_or, qb_or, reduceCtorEq, qbr_True, qbr_False, q10, q01, qwM, pjx hM]
      refine qbr_t ((by decide)) ?_
      refine oX11_feed_99 _ _ _ _ _ _ ?_
      simp only [bX11_feed_99, qsem, qopt_s, qopt2_s, qev, qxs, Nat.reduceEqDiff, reduceIte, and_true, true_and, and_false, false_and, and_self, or_true, true_or, qb_or, reduceCtorEq, qbr_True, qbr_False, q10, q01, qwM, pjx hM]
      exact hQ _ _ ⟨M, rfl, Or.inr ⟨hle, ri (by rw [show (4 - 0) = 4 from rfl, hf.1, hf.2, byt_ct]), hM⟩⟩
    | succ j ih =>
      intro M o4 m q4 hj hM
      have ej : nI (j + 1) - 1 = nI j := nI_pred j
      have ejm : nI j + -1 = nI j - 1 := by rw [Int32.sub_eq_add_neg]
      have hf := fdS_T (x := x) h32 hT (4 - (j + 1)) (by omega)
      have hmono := fb_ct_mono (fun i => byB x (3 - i)) (show 4 - (j + 1) ≤ 4 by omega)
      rw [byt_ct] at hmono
      have estep : fdS S x (4 - j) = if byB x j then psh (fdS S x (4 - (j + 1))) (byt x j) else fdS S x (4 - (j + 1)) := by
        rw [show 4 - j = (4 - (j + 1)) + 1 by omega]
        show (if byB x (3 - (4 - (j + 1))) then _ else _) = _
        rw [show 3 - (4 - (j + 1)) = j by omega]
      by_cases hb : byt x j = 0
      · have hbb : byB x j = false := decide_eq_false (fun q => q hb)
        rw [hbb] at estep
        refine oX11_feed_51 _ _ _ _ _ _ ?_
        simp only [bX11_feed_51, qsem, qopt_s, qopt2_s, qev, qxs, Nat.reduceEqDiff, reduceIte, and_true, true_and, and_false, false_and, and_self, or_true, true_or, qb_or, reduceCtorEq, qbr_True, qbr_False, q10, q01, qwM, ej, e8, show (x >>> (nI (8 * j) &&& 31)) &&& 255 = byt x j from rfl, ejm]
        refine qbr_f (nI_pos (by omega)) ?_
        refine qbr_t (hb) ?_
        refine oX11_feed_93 _ _ _ _ _ _ ?_
        simp only [bX11_feed_93, qsem, qopt_s, qopt2_s, qev, qxs, Nat.reduceEqDiff, reduceIte, and_true, true_and, and_false, false_and, and_self, or_true, true_or, qb_or, reduceCtorEq, qbr_True, qbr_False, q10, q01, qwM, ej, e8, show (x >>> (nI (8 * j) &&& 31)) &&& 255 = byt x j from rfl, ejm]
        exact ih M _ m rfl (by omega) (hM.trans estep.symm)
      · have hbb : byB x j = true := decide_eq_true hb
        rw [hbb] at estep
        have hct : fb_ct (fun i => byB x (3 - i)) (4 - (j + 1)) + 1 ≤ fb_ct (fun k => byB x k) 4 := by
          have h2 := fb_ct_mono (fun i => byB x (3 - i)) (show (4 - (j + 1)) + 1 ≤ 4 by omega)
          rw [byt_ct, fb_ct_succ, show 3 - (4 - (j + 1)) = j by omega, hbb] at h2
          exact h2
        refine oX11_feed_51 _ _ _ _ _ _ ?_
        simp only [bX11_feed_51, qsem, qopt_s, qopt2_s, qev, qxs, Nat.reduceEqDiff, reduceIte, and_true, true_and, and_false, false_and, and_self, or_true, true_or, qb_or, reduceCtorEq, qbr_True, qbr_False, q10, q01, qwM, ej, e8, show (x >>> (nI (8 * j) &&& 31)) &&& 255 = byt x j from rfl, ejm, pjx hM, hf.1, nIcl (show cT (fdS S x (4 - (j + 1))) < 1000 by omega)]
        refine qbr_f (nI_pos (by omega)) ?_
        refine qbr_f (hb) ?_
        refine ⟨nI_vp (by omega) (by omega), ?_⟩
        refine oX11_feed_93 _ _ _ _ _ _ ?_
        simp only [bX11_feed_93, qsem, qopt_s, qopt2_s, qev, qxs, Nat.reduceEqDiff, reduceIte, and_true, true_and, and_false, false_and, and_self, or_true, true_or, qb_or, reduceCtorEq, qbr_True, qbr_False, q10, q01, qwM, ej, e8, show (x >>> (nI (8 * j) &&& 31)) &&& 255 = byt x j from rfl, ejm, pjx hM, hf.1, nIcl (show cT (fdS S x (4 - (j + 1))) < 1000 by omega)]
        refine ih _ _ m rfl (by omega) ?_
        rw [pj_wI rfl, pj_wA rfl, hM, estep]
        unfold psh
        rw [hf.1]
        rfl
  have l1 : ∀ (j k : Nat), k + j = 4 → AW (mX11_feed, 0, 0, 0, none, Q) 4 [some (.ref 136), some (.int x), some (.int (nI (fb_ct (fun k => byB x k) k))), some (.int (nI k)), none] [] (wd C M r) 0 0 := by
    intro j
    induction j with
    | zero =>
      intro k hk
      obtain rfl : k = 4 := by omega
      have hle := fb_ct_le (fun k => byB x k) 4
      have ele : (nI (cT S + fb_ct (fun k => byB x k) 4) ≤ 100) = (cT S + fb_ct (fun k => byB x k) 4 ≤ 100) := nIle (b := 100) (by omega) (by omega)
      refine oX11_feed_4 _ _ _ _ _ _ ?_
      simp only [bX11_feed_4, qsem, qopt_s, qopt2_s, qev, qxs, Nat.reduceEqDiff, reduceIte, and_true, true_and, and_false, false_and, and_self, or_true, true_or, qb_or, reduceCtorEq, qbr_True, qbr_False, q10, q01, qwM, pjx hS, h32, nadd, ele]
      refine qbr_t ((by decide)) ?_
      refine oX11_feed_36 _ _ _ _ _ _ ?_
      simp only [bX11_feed_36, qsem, qopt_s, qopt2_s, qev, qxs, Nat.reduceEqDiff, reduceIte, and_true, true_and, and_false, false_and, and_self, or_true, true_or, qb_or, reduceCtorEq, qbr_True, qbr_False, q10, q01, qwM, pjx hS, h32, nadd, ele]
      refine qbr_i (fun c1 => ?_) (fun c1 => ?_)
      · refine oX11_feed_49 _ _ _ _ _ _ ?_
        simp only [bX11_feed_49, qsem, qopt_s, qopt2_s, qev, qxs, Nat.reduceEqDiff, reduceIte, and_true, true_and, and_false, false_and, and_self, or_true, true_or, qb_or, reduceCtorEq, qbr_True, qbr_False, q10, q01, qwM, pjx hS, h32, nadd, ele]
        exact l2 c1 4 M _ _ rfl (by omega) hS
      · exact hQ _ _ ⟨M, rfl, Or.inl ⟨Nat.lt_of_not_le c1, rfl, hS⟩⟩
    | succ j ih =>
      intro k hk
      have hh := ih (k + 1) (by omega)
      rw [fb_ct_succ] at hh
      have stp : AW (mX11_feed, 0, 0, 0, none, Q) 28 [some (.ref 136), some (.int x), some (.int (nI (fb_ct (fun k => byB x k) k))), some (.int (nI k)), none] [.int (qb (byB x k)), .int (nI (fb_ct (fun k => byB x k) k))] (wd C M r) 0 0 := by
        refine oX11_feed_28 _ _ _ _ _ _ ?_
        simp only [bX11_feed_28, qsem, qopt_s, qopt2_s, qev, qxs, Nat.reduceEqDiff, reduceIte, and_true, true_and, and_false, false_and, and_self, or_true, true_or, qb_or, reduceCtorEq, qbr_True, qbr_False, q10, q01, qwM, eb, nI_1]
        exact hh
      refine oX11_feed_4 _ _ _ _ _ _ ?_
      simp only [bX11_feed_4, qsem, qopt_s, qopt2_s, qev, qxs, Nat.reduceEqDiff, reduceIte, and_true, true_and, and_false, false_and, and_self, or_true, true_or, qb_or, reduceCtorEq, qbr_True, qbr_False, q10, q01, qwM, e8, show (x >>> (nI (8 * k) &&& 31)) &&& 255 = byt x k from rfl]
      refine qbr_f (nI_ge (b := 4) (by omega) (by omega)) ?_
      refine qbr_i (fun c1 => ?_) (fun c1 => ?_)
      · refine oX11_feed_27 _ _ _ _ _ _ ?_
        simp only [bX11_feed_27, qsem, qopt_s, qopt2_s, qev, qxs, Nat.reduceEqDiff, reduceIte, and_true, true_and, and_false, false_and, and_self, or_true, true_or, qb_or, reduceCtorEq, qbr_True, qbr_False, q10, q01, qwM, e8, show (x >>> (nI (8 * k) &&& 31)) &&& 255 = byt x k from rfl]
        first | (rw [show byB x k = false from decide_eq_false (fun q => q c1)] at stp; exact stp) | (rw [show byB x k = true from decide_eq_true c1] at stp; exact stp)
      · first | (rw [show byB x k = false from decide_eq_false (fun q => q c1)] at stp; exact stp) | (rw [show byB x k = true from decide_eq_true c1] at stp; exact stp)
  exact l1 4 0 rfl


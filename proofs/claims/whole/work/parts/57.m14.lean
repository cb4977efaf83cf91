def rcOk (S : qS) (s whose since : Int32) : Prop := ((s = 0 ∧ isF S whose = true) ∨ (s = 1 ∧ isT whose = true) ∨ (s = 2 ∧ isH whose = true)) ∧ (s = 0 ∨ (0 ≤ since ∧ since ≤ 400)) ∧ ¬ cK S = 50
def rcS (S : qS) (s whose since : Int32) : qS := sI (sA (sA (sA S 154 (upd (S.2.1 154) (cK S) s)) 155 (upd (S.2.1 155) (cK S) whose)) 156 (upd (S.2.1 156) (cK S) since)) 3 (S.1 3 + 1)
theorem rc_K {S : qS} {s whose since : Int32} (h1 : W1 S) : cK (rcS S s whose since) = cK S + 1 := by
  have := h1.2.2.2.2.1
  show (S.1 3 + 1).toNatClampNeg = _
  rw [h1.1.2.2.2.1, nI_1, nI_clamp (by omega)]
theorem rc_W {S : qS} {s whose since : Int32} (h1 : W1 S) (h2 : W2 S) (h5 : W5 S) (hok : rcOk S s whose since) : W1 (rcS S s whose since) ∧ W2 (rcS S s whose since) ∧ W5 (rcS S s whose since) := by
  have eK := rc_K (s := s) (whose := whose) (since := since) h1
  have h50 := h1.2.2.2.2.1
  have hok50 := hok.2.2
  refine ⟨?_, h2, ?_⟩
  · obtain ⟨⟨a0, a1, a2, a3, a4, a5, a6⟩, b1, b2, b3, b4, b5, b6, b7⟩ := h1
    refine ⟨⟨a0, a1, a2, ?_, a4, a5, a6⟩, b1, b2, b3, by rw [eK]; omega, b5, b6, b7⟩
    rw [eK]
    show S.1 3 + 1 = _
    rw [a3, nI_1]
  · intro c hc
    rw [eK] at hc
    have e4 : (rcS S s whose since).2.1 154 c = if c = cK S then s else S.2.1 154 c := rfl
    have e5 : (rcS S s whose since).2.1 155 c = if c = cK S then whose else S.2.1 155 c := rfl
    rw [e4, e5]
    by_cases e : c = cK S
    · rw [if_pos e, if_pos e]
      refine ⟨hok.1.imp (fun q => q.1) (fun q => q.imp (fun q => q.1) (fun q => q.1)), fun h0 => ?_⟩
      rcases hok.1 with q | q | q
      · exact isF_of h1 q.2
      · rw [q.1] at h0; exact absurd h0 (by decide)
      · rw [q.1] at h0; exact absurd h0 (by decide)
    · rw [if_neg e, if_neg e]
      exact h5 c (by omega)
set_option maxRecDepth 100000 in
set_option maxHeartbeats 4000000 in
theorem zX11_recall {C M : qC} {r : Nat × Nat × Nat} {S : qS} {s whose since : Int32} (hS : pj M = S) (h1 : W1 S) (h2 : W2 S) (h5 : W5 S) : CT mX11_recall 5 0 0 [.ref 136, .int s, .int whose, .int since] (wd C M r) (fun r' w' => ∃ M', w' = wd C M' r ∧ ((¬ rcOk S s whose since ∧ r' = some (.int (-1)) ∧ pj M' = S) ∨ (rcOk S s whose since ∧ pj M' = rcS S s whose since ∧ ∃ β, (∀ f, f < cF S → (β f = true ↔ cal (rcS S s whose since) f)) ∧ r' = some (.int (nI (fb_ct β (cF S))))))) := by
  have hK := h1.2.2.2.2.1
  have e50 : (nI (cK S) = 50) = (cK S = 50) := nIeq (b := 50) (by omega) (by omega)
  have eT : decide (0 ≤ whose ∧ whose ≤ 5) = isT whose := by
    unfold isT
    refine decide_eq_decide.mpr ?_
    rw [i_le, i_le, i_lt]
    simp only [Int32.reduceToInt]
    omega
  refine eX11_recall (AW_gen (fun Q hQ => ?_))
  -- behind 'right'
  have fin : ∀ b : Bool, (b = true ↔ ((s = 0 ∧ isF S whose = true) ∨ (s = 1 ∧ isT whose = true) ∨ (s = 2 ∧ isH whose = true))) → AW (mX11_recall, 5, 0, 0, none, Q) 43 [some (.ref 136), some (.int s), some (.int whose), some (.int since), none] [.int (qb b)] (wd C M r) 0 0 := by
    intro b hb
    have ok : rcOk S s whose since → AW (mX11_recall, 5, 0, 0, none, Q) 76 [some (.ref 136), some (.int s), some (.int whose), some (.int since), some (.int (qb b))] [] (wd C M r) 0 0 := by
      intro hok
      have hw := rc_W h1 h2 h5 hok
      have hok50 := hok.2.2
      refine oX11_recall_76 _ _ _ _ _ _ ?_
      simp only [bX11_recall_76, qsem, qopt_s, qopt2_s, qev, qxs, Nat.reduceEqDiff, reduceIte, and_true, true_and, and_false, false_and, and_self, or_true, true_or, qb_or, reduceCtorEq, qbr_True, qbr_False, q10, q01, qwM, pjx hS, h1.1.2.2.2.1, nIcl (show cK S < 1000 by omega)]
      refine ⟨nI_vp (by omega) (by omega), ?_⟩
      refine ⟨nI_vp (by omega) (by omega), ?_⟩
      refine ⟨nI_vp (by omega) (by omega), ?_⟩
      refine kX11_recall_117 (zX11_calledMany (S := rcS S s whose since) (by rw [pj_wI rfl, pj_wA rfl, pj_wA rfl, pj_wA rfl, hS]; unfold rcS; rw [h1.1.2.2.2.1]) hw.1 hw.2.1 hw.2.2) rfl (Nat.le_of_ble_eq_true rfl) (Nat.le_of_ble_eq_true rfl) ⟨Nat.le_of_ble_eq_true rfl, Nat.le_of_ble_eq_true rfl⟩ ?_
      rintro _ _ ⟨M1, β, rfl, hS1, hβ, rfl⟩
      refine oX11_recall_120 _ _ _ _ _ _ ?_
      simp only [bX11_recall_120, qsem, qopt_s, qopt2_s, qev, qxs, Nat.reduceEqDiff, reduceIte, and_true, true_and, and_false, false_and, and_self, or_true, true_or, qb_or, reduceCtorEq, qbr_True, qbr_False, q10, q01, qwM, pjx hS, h1.1.2.2.2.1, nIcl (show cK S < 1000 by omega)]
      exact hQ _ _ ⟨M1, rfl, Or.inr ⟨hok, hS1, β, hβ, rfl⟩⟩
    refine oX11_recall_43 _ _ _ _ _ _ ?_
    simp only [bX11_recall_43, qsem, qopt_s, qopt2_s, qev, qxs, Nat.reduceEqDiff, reduceIte, and_true, true_and, and_false, false_and, and_self, or_true, true_or, qb_or, reduceCtorEq, qbr_True, qbr_False, q10, q01, qwM, pjx hS, h1.1.2.2.2.1, e50, qb_0, decide_eq_false_iff_not]
    refine qbr_i (fun c1 => ?_) (fun c1 => ?_)
    · refine oX11_recall_74 _ _ _ _ _ _ ?_
      simp only [bX11_recall_74, qsem, qopt_s, qopt2_s, qev, qxs, Nat.reduceEqDiff, reduceIte, and_true, true_and, and_false, false_and, and_self, or_true, true_or, qb_or, reduceCtorEq, qbr_True, qbr_False, q10, q01, qwM, pjx hS, h1.1.2.2.2.1, e50, qb_0, decide_eq_false_iff_not]
      (first | (exact hQ _ _ ⟨M, rfl, Or.inl ⟨fun q => absurd (hb.mpr q.1) (by rw [c1]; exact Bool.false_ne_true), rfl, hS⟩⟩; done) | (exact hQ _ _ ⟨M, rfl, Or.inl ⟨fun q => q.2.2 c3, rfl, hS⟩⟩; done) | (exact hQ _ _ ⟨M, rfl, Or.inl ⟨fun q => q.2.2 c4, rfl, hS⟩⟩; done) | (exact hQ _ _ ⟨M, rfl, Or.inl ⟨fun q => q.2.1.elim c2 c3, rfl, hS⟩⟩; done))
    · refine qbr_i (fun c2 => ?_) (fun c2 => ?_)
      · refine oX11_recall_65 _ _ _ _ _ _ ?_
        simp only [bX11_recall_65, qsem, qopt_s, qopt2_s, qev, qxs, Nat.reduceEqDiff, reduceIte, and_true, true_and, and_false, false_and, and_self, or_true, true_or, qb_or, reduceCtorEq, qbr_True, qbr_False, q10, q01, qwM, pjx hS, h1.1.2.2.2.1, e50, qb_0, decide_eq_false_iff_not]
        refine qbr_i (fun c3 => ?_) (fun c3 => ?_)
        · refine oX11_recall_74 _ _ _ _ _ _ ?_
          simp only [bX11_recall_74, qsem, qopt_s, qopt2_s, qev, qxs, Nat.reduceEqDiff, reduceIte, and_true, true_and, and_false, false_and, and_self, or_true, true_or, qb_or, reduceCtorEq, qbr_True, qbr_False, q10, q01, qwM, pjx hS, h1.1.2.2.2.1, e50, qb_0, decide_eq_false_iff_not]
          (first | (exact hQ _ _ ⟨M, rfl, Or.inl ⟨fun q => absurd (hb.mpr q.1) (by rw [c1]; exact Bool.false_ne_true), rfl, hS⟩⟩; done) | (exact hQ _ _ ⟨M, rfl, Or.inl ⟨fun q => q.2.2 c3, rfl, hS⟩⟩; done) | (exact hQ _ _ ⟨M, rfl, Or.inl ⟨fun q => q.2.2 c4, rfl, hS⟩⟩; done) | (exact hQ _ _ ⟨M, rfl, Or.inl ⟨fun q => q.2.1.elim c2 c3, rfl, hS⟩⟩; done))
        · first | exact ok ⟨hb.mp (by simpa using c1), Or.inl c2, c3⟩ | exact ok ⟨hb.mp (by simpa using c1), Or.inr (Classical.not_not.mp c3), c4⟩
      · refine kX11_recall_59 (zX11_in) (Nat.le_of_ble_eq_true rfl) (Nat.le_of_ble_eq_true rfl) ⟨Nat.le_of_ble_eq_true rfl, Nat.le_of_ble_eq_true rfl⟩ ?_
        rintro _ _ ⟨rfl, rfl⟩
        refine oX11_recall_62 _ _ _ _ _ _ ?_
        simp only [bX11_recall_62, qsem, qopt_s, qopt2_s, qev, qxs, Nat.reduceEqDiff, reduceIte, and_true, true_and, and_false, false_and, and_self, or_true, true_or, qb_or, reduceCtorEq, qbr_True, qbr_False, q10, q01, qwM, pjx hS, h1.1.2.2.2.1, e50, qb_0, decide_eq_false_iff_not]
        refine qbr_i (fun c3 => ?_) (fun c3 => ?_)
        · refine oX11_recall_74 _ _ _ _ _ _ ?_
          simp only [bX11_recall_74, qsem, qopt_s, qopt2_s, qev, qxs, Nat.reduceEqDiff, reduceIte, and_true, true_and, and_false, false_and, and_self, or_true, true_or, qb_or, reduceCtorEq, qbr_True, qbr_False, q10, q01, qwM, pjx hS, h1.1.2.2.2.1, e50, qb_0, decide_eq_false_iff_not]
          (first | (exact hQ _ _ ⟨M, rfl, Or.inl ⟨fun q => absurd (hb.mpr q.1) (by rw [c1]; exact Bool.false_ne_true), rfl, hS⟩⟩; done) | (exact hQ _ _ ⟨M, rfl, Or.inl ⟨fun q => q.2.2 c3, rfl, hS⟩⟩; done) | (exact hQ _ _ ⟨M, rfl, Or.inl ⟨fun q => q.2.2 c4, rfl, hS⟩⟩; done) | (exact hQ _ _ ⟨M, rfl, Or.inl ⟨fun q => q.2.1.elim c2 c3, rfl, hS⟩⟩; done))
        · refine oX11_recall_65 _ _ _ _ _ _ ?_
          simp only [bX11_recall_65, qsem, qopt_s, qopt2_s, qev, qxs, Nat.reduceEqDiff, reduceIte, and_true, true_and, and_false, false_and, and_self, or_true, true_or, qb_or, reduceCtorEq, qbr_True, qbr_False, q10, q01, qwM, pjx hS, h1.1.2.2.2.1, e50, qb_0, decide_eq_false_iff_not]
          refine qbr_i (fun c4 => ?_) (fun c4 => ?_)
          · refine oX11_recall_74 _ _ _ _ _ _ ?_
            simp only [bX11_recall_74, qsem, qopt_s, qopt2_s, qev, qxs, Nat.reduceEqDiff, reduceIte, and_true, true_and, and_false, false_and, and_self, or_true, true_or, qb_or, reduceCtorEq, qbr_True, qbr_False, q10, q01, qwM, pjx hS, h1.1.2.2.2.1, e50, qb_0, decide_eq_false_iff_not]
            (first | (exact hQ _ _ ⟨M, rfl, Or.inl ⟨fun q => absurd (hb.mpr q.1) (by rw [c1]; exact Bool.false_ne_true), rfl, hS⟩⟩; done) | (exact hQ _ _ ⟨M, rfl, Or.inl ⟨fun q => q.2.2 c3, rfl, hS⟩⟩; done) | (exact hQ _ _ ⟨M, rfl, Or.inl ⟨fun q => q.2.2 c4, rfl, hS⟩⟩; done) | (exact hQ _ _ ⟨M, rfl, Or.inl ⟨fun q => q.2.1.elim c2 c3, rfl, hS⟩⟩; done))
          · first | exact ok ⟨hb.mp (by simpa using c1), Or.inl c2, c3⟩ | exact ok ⟨hb.mp (by simpa using c1), Or.inr (Classical.not_not.mp c3), c4⟩
  refine oX11_recall_0 _ _ _ _ _ _ ?_
  simp only [bX11_recall_0, qsem, qopt_s, qopt2_s, qev, qxs, Nat.reduceEqDiff, reduceIte, and_true, true_and, and_false, false_and, and_self, or_true, true_or, qb_or, reduceCtorEq, qbr_True, qbr_False, q10, q01, qwM, qb_0, eT]
  refine qbr_i (fun c1 => ?_) (fun c1 => ?_)
  · refine kX11_recall_6 (zX11_isFile hS h1) rfl (Nat.le_of_ble_eq_true rfl) (Nat.le_of_ble_eq_true rfl) ⟨Nat.le_of_ble_eq_true rfl, Nat.le_of_ble_eq_true rfl⟩ ?_
    rintro _ _ ⟨rfl, rfl⟩
    refine oX11_recall_9 _ _ _ _ _ _ ?_
    simp only [bX11_recall_9, qsem, qopt_s, qopt2_s, qev, qxs, Nat.reduceEqDiff, reduceIte, and_true, true_and, and_false, false_and, and_self, or_true, true_or, qb_or, reduceCtorEq, qbr_True, qbr_False, q10, q01, qwM, qb_0, eT]
    (first | exact fin (isF S whose) ⟨fun h => Or.inl ⟨c1, h⟩, fun h => h.elim (fun q => q.2) (fun h => h.elim (fun q => absurd (c1.symm.trans q.1) (by decide)) (fun q => absurd (c1.symm.trans q.1) (by decide)))⟩ | exact fin (isT whose) ⟨fun h => Or.inr (Or.inl ⟨c2, h⟩), fun h => h.elim (fun q => absurd q.1 c1) (fun h => h.elim (fun q => q.2) (fun q => absurd (c2.symm.trans q.1) (by decide)))⟩ | exact fin false ⟨fun h => absurd h Bool.false_ne_true, fun h => h.elim (fun q => absurd q.1 c1) (fun h => h.elim (fun q => absurd q.1 c2) (fun q => absurd q.1 c3))⟩ | exact fin false ⟨fun h => absurd h Bool.false_ne_true, fun h => h.elim (fun q => absurd q.1 c1) (fun h => h.elim (fun q => absurd q.1 c2) (fun q => absurd (c4.symm.trans q.2) Bool.false_ne_true))⟩ | exact fin true ⟨fun _ => Or.inr (Or.inr ⟨c3, by cases hh : isH whose; exact absurd hh c4; rfl⟩), fun _ => rfl⟩)
  · refine oX11_recall_12 _ _ _ _ _ _ ?_
    simp only [bX11_recall_12, qsem, qopt_s, qopt2_s, qev, qxs, Nat.reduceEqDiff, reduceIte, and_true, true_and, and_false, false_and, and_self, or_true, true_or, qb_or, reduceCtorEq, qbr_True, qbr_False, q10, q01, qwM, qb_0, eT]
    refine qbr_i (fun c2 => ?_) (fun c2 => ?_)
    · refine kX11_recall_20 (zX11_in) (Nat.le_of_ble_eq_true rfl) (Nat.le_of_ble_eq_true rfl) ⟨Nat.le_of_ble_eq_true rfl, Nat.le_of_ble_eq_true rfl⟩ ?_
      rintro _ _ ⟨rfl, rfl⟩
      refine oX11_recall_23 _ _ _ _ _ _ ?_
      simp only [bX11_recall_23, qsem, qopt_s, qopt2_s, qev, qxs, Nat.reduceEqDiff, reduceIte, and_true, true_and, and_false, false_and, and_self, or_true, true_or, qb_or, reduceCtorEq, qbr_True, qbr_False, q10, q01, qwM, qb_0, eT]
      (first | exact fin (isF S whose) ⟨fun h => Or.inl ⟨c1, h⟩, fun h => h.elim (fun q => q.2) (fun h => h.elim (fun q => absurd (c1.symm.trans q.1) (by decide)) (fun q => absurd (c1.symm.trans q.1) (by decide)))⟩ | exact fin (isT whose) ⟨fun h => Or.inr (Or.inl ⟨c2, h⟩), fun h => h.elim (fun q => absurd q.1 c1) (fun h => h.elim (fun q => q.2) (fun q => absurd (c2.symm.trans q.1) (by decide)))⟩ | exact fin false ⟨fun h => absurd h Bool.false_ne_true, fun h => h.elim (fun q => absurd q.1 c1) (fun h => h.elim (fun q => absurd q.1 c2) (fun q => absurd q.1 c3))⟩ | exact fin false ⟨fun h => absurd h Bool.false_ne_true, fun h => h.elim (fun q => absurd q.1 c1) (fun h => h.elim (fun q => absurd q.1 c2) (fun q => absurd (c4.symm.trans q.2) Bool.false_ne_true))⟩ | exact fin true ⟨fun _ => Or.inr (Or.inr ⟨c3, by cases hh : isH whose; exact absurd hh c4; rfl⟩), fun _ => rfl⟩)
    · refine oX11_recall_26 _ _ _ _ _ _ ?_
      simp only [bX11_recall_26, qsem, qopt_s, qopt2_s, qev, qxs, Nat.reduceEqDiff, reduceIte, and_true, true_and, and_false, false_and, and_self, or_true, true_or, qb_or, reduceCtorEq, qbr_True, qbr_False, q10, q01, qwM, qb_0, eT]
      refine qbr_i (fun c3 => ?_) (fun c3 => ?_)
      · refine kX11_recall_32 (zX11_isHand) (Nat.le_of_ble_eq_true rfl) (Nat.le_of_ble_eq_true rfl) ⟨Nat.le_of_ble_eq_true rfl, Nat.le_of_ble_eq_true rfl⟩ ?_
        rintro _ _ ⟨rfl, rfl⟩
        refine oX11_recall_35 _ _ _ _ _ _ ?_
        simp only [bX11_recall_35, qsem, qopt_s, qopt2_s, qev, qxs, Nat.reduceEqDiff, reduceIte, and_true, true_and, and_false, false_and, and_self, or_true, true_or, qb_or, reduceCtorEq, qbr_True, qbr_False, q10, q01, qwM, qb_0, eT]
        refine qbr_i (fun c4 => ?_) (fun c4 => ?_)
        · refine oX11_recall_42 _ _ _ _ _ _ ?_
          simp only [bX11_recall_42, qsem, qopt_s, qopt2_s, qev, qxs, Nat.reduceEqDiff, reduceIte, and_true, true_and, and_false, false_and, and_self, or_true, true_or, qb_or, reduceCtorEq, qbr_True, qbr_False, q10, q01, qwM, qb_0, eT]
          (first | exact fin (isF S whose) ⟨fun h => Or.inl ⟨c1, h⟩, fun h => h.elim (fun q => q.2) (fun h => h.elim (fun q => absurd (c1.symm.trans q.1) (by decide)) (fun q => absurd (c1.symm.trans q.1) (by decide)))⟩ | exact fin (isT whose) ⟨fun h => Or.inr (Or.inl ⟨c2, h⟩), fun h => h.elim (fun q => absurd q.1 c1) (fun h => h.elim (fun q => q.2) (fun q => absurd (c2.symm.trans q.1) (by decide)))⟩ | exact fin false ⟨fun h => absurd h Bool.false_ne_true, fun h => h.elim (fun q => absurd q.1 c1) (fun h => h.elim (fun q => absurd q.1 c2) (fun q => absurd q.1 c3))⟩ | exact fin false ⟨fun h => absurd h Bool.false_ne_true, fun h => h.elim (fun q => absurd q.1 c1) (fun h => h.elim (fun q => absurd q.1 c2) (fun q => absurd (c4.symm.trans q.2) Bool.false_ne_true))⟩ | exact fin true ⟨fun _ => Or.inr (Or.inr ⟨c3, by cases hh : isH whose; exact absurd hh c4; rfl⟩), fun _ => rfl⟩)
        · (first | exact fin (isF S whose) ⟨fun h => Or.inl ⟨c1, h⟩, fun h => h.elim (fun q => q.2) (fun h => h.elim (fun q => absurd (c1.symm.trans q.1) (by decide)) (fun q => absurd (c1.symm.trans q.1) (by decide)))⟩ | exact fin (isT whose) ⟨fun h => Or.inr (Or.inl ⟨c2, h⟩), fun h => h.elim (fun q => absurd q.1 c1) (fun h => h.elim (fun q => q.2) (fun q => absurd (c2.symm.trans q.1) (by decide)))⟩ | exact fin false ⟨fun h => absurd h Bool.false_ne_true, fun h => h.elim (fun q => absurd q.1 c1) (fun h => h.elim (fun q => absurd q.1 c2) (fun q => absurd q.1 c3))⟩ | exact fin false ⟨fun h => absurd h Bool.false_ne_true, fun h => h.elim (fun q => absurd q.1 c1) (fun h => h.elim (fun q => absurd q.1 c2) (fun q => absurd (c4.symm.trans q.2) Bool.false_ne_true))⟩ | exact fin true ⟨fun _ => Or.inr (Or.inr ⟨c3, by cases hh : isH whose; exact absurd hh c4; rfl⟩), fun _ => rfl⟩)
      · refine oX11_recall_42 _ _ _ _ _ _ ?_
        simp only [bX11_recall_42, qsem, qopt_s, qopt2_s, qev, qxs, Nat.reduceEqDiff, reduceIte, and_true, true_and, and_false, false_and, and_self, or_true, true_or, qb_or, reduceCtorEq, qbr_True, qbr_False, q10, q01, qwM, qb_0, eT]
        (first | exact fin (isF S whose) ⟨fun h => Or.inl ⟨c1, h⟩, fun h => h.elim (fun q => q.2) (fun h => h.elim (fun q => absurd (c1.symm.trans q.1) (by decide)) (fun q => absurd (c1.symm.trans q.1) (by decide)))⟩ | exact fin (isT whose) ⟨fun h => Or.inr (Or.inl ⟨c2, h⟩), fun h => h.elim (fun q => absurd q.1 c1) (fun h => h.elim (fun q => q.2) (fun q => absurd (c2.symm.trans q.1) (by decide)))⟩ | exact fin false ⟨fun h => absurd h Bool.false_ne_true, fun h => h.elim (fun q => absurd q.1 c1) (fun h => h.elim (fun q => absurd q.1 c2) (fun q => absurd q.1 c3))⟩ | exact fin false ⟨fun h => absurd h Bool.false_ne_true, fun h => h.elim (fun q => absurd q.1 c1) (fun h => h.elim (fun q => absurd q.1 c2) (fun q => absurd (c4.symm.trans q.2) Bool.false_ne_true))⟩ | exact fin true ⟨fun _ => Or.inr (Or.inr ⟨c3, by cases hh : isH whose; exact absurd hh c4; rfl⟩), fun _ => rfl⟩)


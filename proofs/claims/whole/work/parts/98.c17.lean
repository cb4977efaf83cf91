theorem mk_two {m a b : Nat} (hm : m < 4096) (ha : a < 12) (hb : b < 12) : (nI (m &&& (2 ^ a ||| 2 ^ b)) = 0) = ((m.testBit a || m.testBit b) = false) := by
  have hle : m &&& (2 ^ a ||| 2 ^ b) ≤ m := Nat.and_le_left
  rw [show (0 : Int32) = nI 0 from rfl]
  refine propext ((nI_eq (by omega) (by omega)).trans ⟨fun h => ?_, fun h => ?_⟩)
  · have e : ∀ i, (m.testBit i && (decide (a = i) || decide (b = i))) = false := fun i => by
      have := congrArg (fun x => x.testBit i) h
      simp only [Nat.testBit_and, Nat.testBit_or, Nat.testBit_two_pow, Nat.zero_testBit] at this
      exact this
    have e1 := e a
    have e2 := e b
    rw [decide_eq_true rfl, Bool.true_or, Bool.and_true] at e1
    rw [show decide (b = b) = true from decide_eq_true rfl, Bool.or_true, Bool.and_true] at e2
    rw [e1, e2]; rfl
  · rw [Bool.or_eq_false_iff] at h
    apply Nat.eq_of_testBit_eq
    intro i
    rw [Nat.testBit_and, Nat.testBit_or, Nat.testBit_two_pow, Nat.testBit_two_pow, Nat.zero_testBit]
    by_cases e1 : a = i
    · rw [← e1, h.1, Bool.false_and]
    · by_cases e2 : b = i
      · rw [← e2, h.2, Bool.false_and]
      · rw [decide_eq_false e1, decide_eq_false e2, Bool.or_false, Bool.and_false]
set_option maxRecDepth 100000 in
set_option maxHeartbeats 4000000 in
theorem zX10_refusal {C M : qC} {S : qS} {r : Nat × Nat × Nat} {H : Nat → Nat → Nat → Bool} {one two key : Int32} (hr : wR r) (hW : WS S H) (h : Inv C S r H) : CT mX10_refusal 5 0 0 [.ref 0, .int one, .int two, .int key] (wd C M r) (fun r' w' => ∃ C', w' = wd C' M r ∧ Inv C' S r H ∧ r' = some (.int (whyV S H one two key))) := by
  have h1 := hW.1
  have hF := h1.2.2.1
  have hN := h1.2.1
  obtain ⟨kN, kS, kF, kR, kO, kB, kT, kC, kM, kA, kQ, kK, kU⟩ := h
  have hI : Inv C S r H := ⟨kN, kS, kF, kR, kO, kB, kT, kC, kM, kA, kQ, kK, kU⟩
  have hfst := zX4_first (C := C) (M := M) (r := r) h1 kQ
  refine eX10_refusal (AW_gen (fun Q hQ => ?_))
  by_cases hq : cQ S = 0
  · rw [if_pos hq] at hfst
    refine oX10_refusal_0 _ _ _ _ _ _ ?_
    simp only [bX10_refusal_0, qsem, qopt_s, qopt2_s, qev, qxs, Nat.reduceEqDiff, reduceIte, and_true, true_and, and_false, false_and, and_self, or_true, true_or, qb_or, reduceCtorEq, qbr_True, qbr_False, q10, q01, qwC]
    refine kX10_refusal_4 (hfst) (rfl) (Nat.le_of_ble_eq_true rfl) (Nat.le_of_ble_eq_true rfl) ⟨Nat.le_of_ble_eq_true rfl, Nat.le_of_ble_eq_true rfl⟩ ?_
    rintro _ _ ⟨rfl, rfl⟩
    refine oX10_refusal_7 _ _ _ _ _ _ ?_
    simp only [bX10_refusal_7, qsem, qopt_s, qopt2_s, qev, qxs, Nat.reduceEqDiff, reduceIte, and_true, true_and, and_false, false_and, and_self, or_true, true_or, qb_or, reduceCtorEq, qbr_True, qbr_False, q10, q01, qwC]
    exact hQ _ _ ⟨C, rfl, hI, ri (by unfold whyV; rw [if_pos hq])⟩
  · obtain ⟨ef, lf⟩ := hW.2.2.1.1 0 (by omega)
    rw [if_neg hq, ef] at hfst
    generalize hf0 : qat S 0 = f at ef lf hfst
    have w0 : whyV S H one two key = if dc (isH one = true ∧ isH two = true ∧ ¬ one = two) = false then 2 else if ((mkN S f).testBit one.toNatClampNeg || (mkN S f).testBit two.toNatClampNeg) = true then 3 else if dc (kyOk S key) = false then 4 else if dc (cln S f) = false then 5 else if H (hwt S 2 f 0) (hwt S 3 f (mkN S f)) (pc12 (bdb S f (cN S))) = false then 6 else if dc (cal S f) = true then 7 else if cN S = 400 then 8 else 0 := by
      unfold whyV
      rw [if_neg hq, hf0]
    rw [w0] at hQ
    clear w0
    by_cases hh : isH one = true ∧ isH two = true ∧ ¬ one = two
    · rw [dc_iff.mpr hh, if_neg (by decide)] at hQ
      obtain ⟨a, ha, rfl⟩ := isH_of hh.1
      obtain ⟨b, hb, rfl⟩ := isH_of hh.2.1
      rw [nIcl (show a < 1000 by omega), nIcl (show b < 1000 by omega)] at hQ
      have hm := mk_two (mkN_lt hW.2.1 f) ha hb
      have hcl := zX7_isClean (C := C) (M := M) (r := r) (a := nI f)
      rw [inNi (show f < 100 by omega) (by omega), Bool.true_and, nIcl (show f < 1000 by omega), show fB C 12 f = dc (cln S f) from dc_of (kC f (by omega))] at hcl
      have hful := fun (C1 : qC) (e : iN C1 S) => zX8_isFull_1 (C := C1) (M := M) (r := r) e.1 hN
      have end99 : ∀ C1 : qC, Inv C1 S r H → (∀ (rr : Option Value) (w : qW), (∃ C', w = wd C' M r ∧ Inv C' S r H ∧ rr = some (.int (if dc (cal S f) = true then 7 else if cN S = 400 then 8 else 0))) → Q rr w) → AW (mX10_refusal, 5, 0, 0, none, Q) 99 [some (.ref 0), some (.int (nI a)), some (.int (nI b)), some (.int key), some (.int (nI f))] [] (wd C1 M r) 0 0 := by
        intro C1 hI1 hQ
        refine oX10_refusal_99 _ _ _ _ _ _ ?_
        simp only [bX10_refusal_99, qsem, qopt_s, qopt2_s, qev, qxs, Nat.reduceEqDiff, reduceIte, and_true, true_and, and_false, false_and, and_self, or_true, true_or, qb_or, reduceCtorEq, qbr_True, qbr_False, q10, q01, qwC, qb_0]
        refine kX10_refusal_102 (zX10_isCalledBack h1 hW.2.1 hW.2.2.2.2.1 hI1.2.2.1 hI1.2.2.2.1 hI1.2.2.2.2.2.2.2.2.1 lf) (rfl) (Nat.le_of_ble_eq_true rfl) (Nat.le_of_ble_eq_true rfl) ⟨Nat.le_of_ble_eq_true rfl, Nat.le_of_ble_eq_true rfl⟩ ?_
        rintro _ _ ⟨rfl, rfl⟩
        refine oX10_refusal_105 _ _ _ _ _ _ ?_
        simp only [bX10_refusal_105, qsem, qopt_s, qopt2_s, qev, qxs, Nat.reduceEqDiff, reduceIte, and_true, true_and, and_false, false_and, and_self, or_true, true_or, qb_or, reduceCtorEq, qbr_True, qbr_False, q10, q01, qwC, qb_0]
        refine qbr_i (fun c1 => ?_) (fun c1 => ?_)
        · refine oX10_refusal_111 _ _ _ _ _ _ ?_
          simp only [bX10_refusal_111, qsem, qopt_s, qopt2_s, qev, qxs, Nat.reduceEqDiff, reduceIte, and_true, true_and, and_false, false_and, and_self, or_true, true_or, qb_or, reduceCtorEq, qbr_True, qbr_False, q10, q01, qwC, qb_0]
          refine kX10_refusal_115 (hful C1 hI1.1) (rfl) (Nat.le_of_ble_eq_true rfl) (Nat.le_of_ble_eq_true rfl) ⟨Nat.le_of_ble_eq_true rfl, Nat.le_of_ble_eq_true rfl⟩ ?_
          rintro _ _ ⟨rfl, rfl⟩
          refine oX10_refusal_118 _ _ _ _ _ _ ?_
          simp only [bX10_refusal_118, qsem, qopt_s, qopt2_s, qev, qxs, Nat.reduceEqDiff, reduceIte, and_true, true_and, and_false, false_and, and_self, or_true, true_or, qb_or, reduceCtorEq, qbr_True, qbr_False, q10, q01, qwC, qb_0]
          refine qbr_i (fun c2 => ?_) (fun c2 => ?_)
          · refine oX10_refusal_126 _ _ _ _ _ _ ?_
            simp only [bX10_refusal_126, qsem, qopt_s, qopt2_s, qev, qxs, Nat.reduceEqDiff, reduceIte, and_true, true_and, and_false, false_and, and_self, or_true, true_or, qb_or, reduceCtorEq, qbr_True, qbr_False, q10, q01, qwC, qb_0]
            refine oX10_refusal_127 _ _ _ _ _ _ ?_
            simp only [bX10_refusal_127, qsem, qopt_s, qopt2_s, qev, qxs, Nat.reduceEqDiff, reduceIte, and_true, true_and, and_false, false_and, and_self, or_true, true_or, qb_or, reduceCtorEq, qbr_True, qbr_False, q10, q01, qwC, qb_0]
            first | exact hQ _ _ ⟨C1, rfl, hI1, ri (by rw [if_pos ((Bool.not_eq_false _).mp c1)])⟩ | exact hQ _ _ ⟨C1, rfl, hI1, ri (by rw [c1, if_neg Bool.false_ne_true, if_neg (of_decide_eq_false c2)])⟩ | exact hQ _ _ ⟨C1, rfl, hI1, ri (by rw [c1, if_neg Bool.false_ne_true, if_pos (of_decide_eq_true ((Bool.not_eq_false _).mp c2))])⟩
          · refine oX10_refusal_127 _ _ _ _ _ _ ?_
            simp only [bX10_refusal_127, qsem, qopt_s, qopt2_s, qev, qxs, Nat.reduceEqDiff, reduceIte, and_true, true_and, and_false, false_and, and_self, or_true, true_or, qb_or, reduceCtorEq, qbr_True, qbr_False, q10, q01, qwC, qb_0]
            first | exact hQ _ _ ⟨C1, rfl, hI1, ri (by rw [if_pos ((Bool.not_eq_false _).mp c1)])⟩ | exact hQ _ _ ⟨C1, rfl, hI1, ri (by rw [c1, if_neg Bool.false_ne_true, if_neg (of_decide_eq_false c2)])⟩ | exact hQ _ _ ⟨C1, rfl, hI1, ri (by rw [c1, if_neg Bool.false_ne_true, if_pos (of_decide_eq_true ((Bool.not_eq_false _).mp c2))])⟩
        · first | exact hQ _ _ ⟨C1, rfl, hI1, ri (by rw [if_pos ((Bool.not_eq_false _).mp c1)])⟩ | exact hQ _ _ ⟨C1, rfl, hI1, ri (by rw [c1, if_neg Bool.false_ne_true, if_neg (of_decide_eq_false c2)])⟩ | exact hQ _ _ ⟨C1, rfl, hI1, ri (by rw [c1, if_neg Bool.false_ne_true, if_pos (of_decide_eq_true ((Bool.not_eq_false _).mp c2))])⟩
      by_cases c3 : ((mkN S f).testBit a || (mkN S f).testBit b) = true
      · rw [if_pos c3] at hQ
        refine oX10_refusal_0 _ _ _ _ _ _ ?_
        simp only [bX10_refusal_0, qsem, qopt_s, qopt2_s, qev, qxs, Nat.reduceEqDiff, reduceIte, and_true, true_and, and_false, false_and, and_self, or_true, true_or, qb_or, reduceCtorEq, qbr_True, qbr_False, q10, q01, qwC, hh.1, hh.2.1, qb_t, sh_nI' ha, sh_nI' hb, or_nI, and_nI, hm]
        refine kX10_refusal_4 (hfst) (rfl) (Nat.le_of_ble_eq_true rfl) (Nat.le_of_ble_eq_true rfl) ⟨Nat.le_of_ble_eq_true rfl, Nat.le_of_ble_eq_true rfl⟩ ?_
        rintro _ _ ⟨rfl, rfl⟩
        refine oX10_refusal_7 _ _ _ _ _ _ ?_
        simp only [bX10_refusal_7, qsem, qopt_s, qopt2_s, qev, qxs, Nat.reduceEqDiff, reduceIte, and_true, true_and, and_false, false_and, and_self, or_true, true_or, qb_or, reduceCtorEq, qbr_True, qbr_False, q10, q01, qwC, hh.1, hh.2.1, qb_t, sh_nI' ha, sh_nI' hb, or_nI, and_nI, hm]
        refine qbr_f (i_nm1 (by omega)) ?_
        refine oX10_refusal_17 _ _ _ _ _ _ ?_
        simp only [bX10_refusal_17, qsem, qopt_s, qopt2_s, qev, qxs, Nat.reduceEqDiff, reduceIte, and_true, true_and, and_false, false_and, and_self, or_true, true_or, qb_or, reduceCtorEq, qbr_True, qbr_False, q10, q01, qwC, hh.1, hh.2.1, qb_t, sh_nI' ha, sh_nI' hb, or_nI, and_nI, hm]
        refine kX10_refusal_18 (zX10_isHand) (Nat.le_of_ble_eq_true rfl) (Nat.le_of_ble_eq_true rfl) ⟨Nat.le_of_ble_eq_true rfl, Nat.le_of_ble_eq_true rfl⟩ ?_
        rintro _ _ ⟨rfl, rfl⟩
        refine oX10_refusal_21 _ _ _ _ _ _ ?_
        simp only [bX10_refusal_21, qsem, qopt_s, qopt2_s, qev, qxs, Nat.reduceEqDiff, reduceIte, and_true, true_and, and_false, false_and, and_self, or_true, true_or, qb_or, reduceCtorEq, qbr_True, qbr_False, q10, q01, qwC, hh.1, hh.2.1, qb_t, sh_nI' ha, sh_nI' hb, or_nI, and_nI, hm]
        refine kX10_refusal_25 (zX10_isHand) (Nat.le_of_ble_eq_true rfl) (Nat.le_of_ble_eq_true rfl) ⟨Nat.le_of_ble_eq_true rfl, Nat.le_of_ble_eq_true rfl⟩ ?_
        rintro _ _ ⟨rfl, rfl⟩
        refine oX10_refusal_28 _ _ _ _ _ _ ?_
        simp only [bX10_refusal_28, qsem, qopt_s, qopt2_s, qev, qxs, Nat.reduceEqDiff, reduceIte, and_true, true_and, and_false, false_and, and_self, or_true, true_or, qb_or, reduceCtorEq, qbr_True, qbr_False, q10, q01, qwC, hh.1, hh.2.1, qb_t, sh_nI' ha, sh_nI' hb, or_nI, and_nI, hm]
        refine qbr_f (hh.2.2) ?_
        refine oX10_refusal_38 _ _ _ _ _ _ ?_
        simp only [bX10_refusal_38, qsem, qopt_s, qopt2_s, qev, qxs, Nat.reduceEqDiff, reduceIte, and_true, true_and, and_false, false_and, and_self, or_true, true_or, qb_or, reduceCtorEq, qbr_True, qbr_False, q10, q01, qwC, hh.1, hh.2.1, qb_t, sh_nI' ha, sh_nI' hb, or_nI, and_nI, hm]
        refine kX10_refusal_44 (zX7_makersOf h1 hW.2.1 kF kR kO lf) (rfl) (Nat.le_of_ble_eq_true rfl) (Nat.le_of_ble_eq_true rfl) ⟨Nat.le_of_ble_eq_true rfl, Nat.le_of_ble_eq_true rfl⟩ ?_
        rintro _ _ ⟨rfl, rfl⟩
        refine oX10_refusal_47 _ _ _ _ _ _ ?_
        simp only [bX10_refusal_47, qsem, qopt_s, qopt2_s, qev, qxs, Nat.reduceEqDiff, reduceIte, and_true, true_and, and_false, false_and, and_self, or_true, true_or, qb_or, reduceCtorEq, qbr_True, qbr_False, q10, q01, qwC, hh.1, hh.2.1, qb_t, sh_nI' ha, sh_nI' hb, or_nI, and_nI, hm]
        refine qbr_f ((by rw [c3]; exact Bool.noConfusion)) ?_
        exact hQ _ _ ⟨C, rfl, hI, rfl⟩
      · rw [if_neg c3] at hQ
        by_cases c4 : kyOk S key
        · rw [dc_iff.mpr c4, if_neg (by decide)] at hQ
          by_cases c5 : cln S f
          · rw [dc_iff.mpr c5] at hcl
            rw [dc_iff.mpr c5, if_neg (by decide)] at hQ
            by_cases c6 : H (hwt S 2 f 0) (hwt S 3 f (mkN S f)) (pc12 (bdb S f (cN S))) = true
            · rw [c6, if_neg (by decide)] at hQ
              have hrh := zX10_ruleHolds (M := M) hr hW hI lf
              rw [c6] at hrh
              refine oX10_refusal_0 _ _ _ _ _ _ ?_
              simp only [bX10_refusal_0, qsem, qopt_s, qopt2_s, qev, qxs, Nat.reduceEqDiff, reduceIte, and_true, true_and, and_false, false_and, and_self, or_true, true_or, qb_or, reduceCtorEq, qbr_True, qbr_False, q10, q01, qwC, hh.1, hh.2.1, qb_t, sh_nI' ha, sh_nI' hb, or_nI, and_nI, hm]
              refine kX10_refusal_4 (hfst) (rfl) (Nat.le_of_ble_eq_true rfl) (Nat.le_of_ble_eq_true rfl) ⟨Nat.le_of_ble_eq_true rfl, Nat.le_of_ble_eq_true rfl⟩ ?_
              rintro _ _ ⟨rfl, rfl⟩
              refine oX10_refusal_7 _ _ _ _ _ _ ?_
              simp only [bX10_refusal_7, qsem, qopt_s, qopt2_s, qev, qxs, Nat.reduceEqDiff, reduceIte, and_true, true_and, and_false, false_and, and_self, or_true, true_or, qb_or, reduceCtorEq, qbr_True, qbr_False, q10, q01, qwC, hh.1, hh.2.1, qb_t, sh_nI' ha, sh_nI' hb, or_nI, and_nI, hm]
              refine qbr_f (i_nm1 (by omega)) ?_
              refine oX10_refusal_17 _ _ _ _ _ _ ?_
              simp only [bX10_refusal_17, qsem, qopt_s, qopt2_s, qev, qxs, Nat.reduceEqDiff, reduceIte, and_true, true_and, and_false, false_and, and_self, or_true, true_or, qb_or, reduceCtorEq, qbr_True, qbr_False, q10, q01, qwC, hh.1, hh.2.1, qb_t, sh_nI' ha, sh_nI' hb, or_nI, and_nI, hm]
              refine kX10_refusal_18 (zX10_isHand) (Nat.le_of_ble_eq_true rfl) (Nat.le_of_ble_eq_true rfl) ⟨Nat.le_of_ble_eq_true rfl, Nat.le_of_ble_eq_true rfl⟩ ?_
              rintro _ _ ⟨rfl, rfl⟩
              refine oX10_refusal_21 _ _ _ _ _ _ ?_
              simp only [bX10_refusal_21, qsem, qopt_s, qopt2_s, qev, qxs, Nat.reduceEqDiff, reduceIte, and_true, true_and, and_false, false_and, and_self, or_true, true_or, qb_or, reduceCtorEq, qbr_True, qbr_False, q10, q01, qwC, hh.1, hh.2.1, qb_t, sh_nI' ha, sh_nI' hb, or_nI, and_nI, hm]
              refine kX10_refusal_25 (zX10_isHand) (Nat.le_of_ble_eq_true rfl) (Nat.le_of_ble_eq_true rfl) ⟨Nat.le_of_ble_eq_true rfl, Nat.le_of_ble_eq_true rfl⟩ ?_
              rintro _ _ ⟨rfl, rfl⟩
              refine oX10_refusal_28 _ _ _ _ _ _ ?_
              simp only [bX10_refusal_28, qsem, qopt_s, qopt2_s, qev, qxs, Nat.reduceEqDiff, reduceIte, and_true, true_and, and_false, false_and, and_self, or_true, true_or, qb_or, reduceCtorEq, qbr_True, qbr_False, q10, q01, qwC, hh.1, hh.2.1, qb_t, sh_nI' ha, sh_nI' hb, or_nI, and_nI, hm]
              refine qbr_f (hh.2.2) ?_
              refine oX10_refusal_38 _ _ _ _ _ _ ?_
              simp only [bX10_refusal_38, qsem, qopt_s, qopt2_s, qev, qxs, Nat.reduceEqDiff, reduceIte, and_true, true_and, and_false, false_and, and_self, or_true, true_or, qb_or, reduceCtorEq, qbr_True, qbr_False, q10, q01, qwC, hh.1, hh.2.1, qb_t, sh_nI' ha, sh_nI' hb, or_nI, and_nI, hm]
              refine kX10_refusal_44 (zX7_makersOf h1 hW.2.1 kF kR kO lf) (rfl) (Nat.le_of_ble_eq_true rfl) (Nat.le_of_ble_eq_true rfl) ⟨Nat.le_of_ble_eq_true rfl, Nat.le_of_ble_eq_true rfl⟩ ?_
              rintro _ _ ⟨rfl, rfl⟩
              refine oX10_refusal_47 _ _ _ _ _ _ ?_
              simp only [bX10_refusal_47, qsem, qopt_s, qopt2_s, qev, qxs, Nat.reduceEqDiff, reduceIte, and_true, true_and, and_false, false_and, and_self, or_true, true_or, qb_or, reduceCtorEq, qbr_True, qbr_False, q10, q01, qwC, hh.1, hh.2.1, qb_t, sh_nI' ha, sh_nI' hb, or_nI, and_nI, hm]
              refine qbr_t ((Bool.not_eq_true _).mp c3) ?_
              refine oX10_refusal_60 _ _ _ _ _ _ ?_
              simp only [bX10_refusal_60, qsem, qopt_s, qopt2_s, qev, qxs, Nat.reduceEqDiff, reduceIte, and_true, true_and, and_false, false_and, and_self, or_true, true_or, qb_or, reduceCtorEq, qbr_True, qbr_False, q10, q01, qwC, hh.1, hh.2.1, qb_t, sh_nI' ha, sh_nI' hb, or_nI, and_nI, hm]
              refine kX10_refusal_65 ((show _ from (dc_iff.mpr c4) ▸ zX2_canSeal kK hW.2.2.2.2.2.2.2.2.2.1)) (rfl) (Nat.le_of_ble_eq_true rfl) (Nat.le_of_ble_eq_true rfl) ⟨Nat.le_of_ble_eq_true rfl, Nat.le_of_ble_eq_true rfl⟩ ?_
              rintro _ _ ⟨rfl, rfl⟩
              refine oX10_refusal_68 _ _ _ _ _ _ ?_
              simp only [bX10_refusal_68, qsem, qopt_s, qopt2_s, qev, qxs, Nat.reduceEqDiff, reduceIte, and_true, true_and, and_false, false_and, and_self, or_true, true_or, qb_or, reduceCtorEq, qbr_True, qbr_False, q10, q01, qwC, hh.1, hh.2.1, qb_t, sh_nI' ha, sh_nI' hb, or_nI, and_nI, hm]
              refine oX10_refusal_73 _ _ _ _ _ _ ?_
              simp only [bX10_refusal_73, qsem, qopt_s, qopt2_s, qev, qxs, Nat.reduceEqDiff, reduceIte, and_true, true_and, and_false, false_and, and_self, or_true, true_or, qb_or, reduceCtorEq, qbr_True, qbr_False, q10, q01, qwC, hh.1, hh.2.1, qb_t, sh_nI' ha, sh_nI' hb, or_nI, and_nI, hm]
              refine kX10_refusal_79 (hcl) (rfl) (Nat.le_of_ble_eq_true rfl) (Nat.le_of_ble_eq_true rfl) ⟨Nat.le_of_ble_eq_true rfl, Nat.le_of_ble_eq_true rfl⟩ ?_
              rintro _ _ ⟨rfl, rfl⟩
              refine oX10_refusal_82 _ _ _ _ _ _ ?_
              simp only [bX10_refusal_82, qsem, qopt_s, qopt2_s, qev, qxs, Nat.reduceEqDiff, reduceIte, and_true, true_and, and_false, false_and, and_self, or_true, true_or, qb_or, reduceCtorEq, qbr_True, qbr_False, q10, q01, qwC, hh.1, hh.2.1, qb_t, sh_nI' ha, sh_nI' hb, or_nI, and_nI, hm]
              refine oX10_refusal_87 _ _ _ _ _ _ ?_
              simp only [bX10_refusal_87, qsem, qopt_s, qopt2_s, qev, qxs, Nat.reduceEqDiff, reduceIte, and_true, true_and, and_false, false_and, and_self, or_true, true_or, qb_or, reduceCtorEq, qbr_True, qbr_False, q10, q01, qwC, hh.1, hh.2.1, qb_t, sh_nI' ha, sh_nI' hb, or_nI, and_nI, hm]
              refine kX10_refusal_90 (hrh) (rfl) (Nat.le_of_ble_eq_true rfl) (Nat.le_of_ble_eq_true rfl) ⟨Nat.le_of_ble_eq_true rfl, Nat.le_of_ble_eq_true rfl⟩ ?_
              rintro _ _ ⟨C1, rfl, hI1, rfl⟩
              refine oX10_refusal_93 _ _ _ _ _ _ ?_
              simp only [bX10_refusal_93, qsem, qopt_s, qopt2_s, qev, qxs, Nat.reduceEqDiff, reduceIte, and_true, true_and, and_false, false_and, and_self, or_true, true_or, qb_or, reduceCtorEq, qbr_True, qbr_False, q10, q01, qwC, hh.1, hh.2.1, qb_t, sh_nI' ha, sh_nI' hb, or_nI, and_nI, hm]
              exact end99 C1 hI1 hQ
            · have c6 : H (hwt S 2 f 0) (hwt S 3 f (mkN S f)) (pc12 (bdb S f (cN S))) = false := (Bool.not_eq_true _).mp c6
              rw [if_pos c6] at hQ
              have hrh := zX10_ruleHolds (M := M) hr hW hI lf
              rw [c6] at hrh
              refine oX10_refusal_0 _ _ _ _ _ _ ?_
              simp only [bX10_refusal_0, qsem, qopt_s, qopt2_s, qev, qxs, Nat.reduceEqDiff, reduceIte, and_true, true_and, and_false, false_and, and_self, or_true, true_or, qb_or, reduceCtorEq, qbr_True, qbr_False, q10, q01, qwC, hh.1, hh.2.1, qb_t, qb_f, sh_nI' ha, sh_nI' hb, or_nI, and_nI, hm]
              refine kX10_refusal_4 (hfst) (rfl) (Nat.le_of_ble_eq_true rfl) (Nat.le_of_ble_eq_true rfl) ⟨Nat.le_of_ble_eq_true rfl, Nat.le_of_ble_eq_true rfl⟩ ?_
              rintro _ _ ⟨rfl, rfl⟩
              refine oX10_refusal_7 _ _ _ _ _ _ ?_
              simp only [bX10_refusal_7, qsem, qopt_s, qopt2_s, qev, qxs, Nat.reduceEqDiff, reduceIte, and_true, true_and, and_false, false_and, and_self, or_true, true_or, qb_or, reduceCtorEq, qbr_True, qbr_False, q10, q01, qwC, hh.1, hh.2.1, qb_t, qb_f, sh_nI' ha, sh_nI' hb, or_nI, and_nI, hm]
              refine qbr_f (i_nm1 (by omega)) ?_
              refine oX10_refusal_17 _ _ _ _ _ _ ?_
              simp only [bX10_refusal_17, qsem, qopt_s, qopt2_s, qev, qxs, Nat.reduceEqDiff, reduceIte, and_true, true_and, and_false, false_and, and_self, or_true, true_or, qb_or, reduceCtorEq, qbr_True, qbr_False, q10, q01, qwC, hh.1, hh.2.1, qb_t, qb_f, sh_nI' ha, sh_nI' hb, or_nI, and_nI, hm]
              refine kX10_refusal_18 (zX10_isHand) (Nat.le_of_ble_eq_true rfl) (Nat.le_of_ble_eq_true rfl) ⟨Nat.le_of_ble_eq_true rfl, Nat.le_of_ble_eq_true rfl⟩ ?_
              rintro _ _ ⟨rfl, rfl⟩
              refine oX10_refusal_21 _ _ _ _ _ _ ?_
              simp only [bX10_refusal_21, qsem, qopt_s, qopt2_s, qev, qxs, Nat.reduceEqDiff, reduceIte, and_true, true_and, and_false, false_and, and_self, or_true, true_or, qb_or, reduceCtorEq, qbr_True, qbr_False, q10, q01, qwC, hh.1, hh.2.1, qb_t, qb_f, sh_nI' ha, sh_nI' hb, or_nI, and_nI, hm]
              refine kX10_refusal_25 (zX10_isHand) (Nat.le_of_ble_eq_true rfl) (Nat.le_of_ble_eq_true rfl) ⟨Nat.le_of_ble_eq_true rfl, Nat.le_of_ble_eq_true rfl⟩ ?_
              rintro _ _ ⟨rfl, rfl⟩
              refine oX10_refusal_28 _ _ _ _ _ _ ?_
              simp only [bX10_refusal_28, qsem, qopt_s, qopt2_s, qev, qxs, Nat.reduceEqDiff, reduceIte, and_true, true_and, and_false, false_and, and_self, or_true, true_or, qb_or, reduceCtorEq, qbr_True, qbr_False, q10, q01, qwC, hh.1, hh.2.1, qb_t, qb_f, sh_nI' ha, sh_nI' hb, or_nI, and_nI, hm]
              refine qbr_f (hh.2.2) ?_
              refine oX10_refusal_38 _ _ _ _ _ _ ?_
              simp only [bX10_refusal_38, qsem, qopt_s, qopt2_s, qev, qxs, Nat.reduceEqDiff, reduceIte, and_true, true_and, and_false, false_and, and_self, or_true, true_or, qb_or, reduceCtorEq, qbr_True, qbr_False, q10, q01, qwC, hh.1, hh.2.1, qb_t, qb_f, sh_nI' ha, sh_nI' hb, or_nI, and_nI, hm]
              refine kX10_refusal_44 (zX7_makersOf h1 hW.2.1 kF kR kO lf) (rfl) (Nat.le_of_ble_eq_true rfl) (Nat.le_of_ble_eq_true rfl) ⟨Nat.le_of_ble_eq_true rfl, Nat.le_of_ble_eq_true rfl⟩ ?_
              rintro _ _ ⟨rfl, rfl⟩
              refine oX10_refusal_47 _ _ _ _ _ _ ?_
              simp only [bX10_refusal_47, qsem, qopt_s, qopt2_s, qev, qxs, Nat.reduceEqDiff, reduceIte, and_true, true_and, and_false, false_and, and_self, or_true, true_or, qb_or, reduceCtorEq, qbr_True, qbr_False, q10, q01, qwC, hh.1, hh.2.1, qb_t, qb_f, sh_nI' ha, sh_nI' hb, or_nI, and_nI, hm]
              refine qbr_t ((Bool.not_eq_true _).mp c3) ?_
              refine oX10_refusal_60 _ _ _ _ _ _ ?_
              simp only [bX10_refusal_60, qsem, qopt_s, qopt2_s, qev, qxs, Nat.reduceEqDiff, reduceIte, and_true, true_and, and_false, false_and, and_self, or_true, true_or, qb_or, reduceCtorEq, qbr_True, qbr_False, q10, q01, qwC, hh.1, hh.2.1, qb_t, qb_f, sh_nI' ha, sh_nI' hb, or_nI, and_nI, hm]
              refine kX10_refusal_65 ((show _ from (dc_iff.mpr c4) ▸ zX2_canSeal kK hW.2.2.2.2.2.2.2.2.2.1)) (rfl) (Nat.le_of_ble_eq_true rfl) (Nat.le_of_ble_eq_true rfl) ⟨Nat.le_of_ble_eq_true rfl, Nat.le_of_ble_eq_true rfl⟩ ?_
              rintro _ _ ⟨rfl, rfl⟩
              refine oX10_refusal_68 _ _ _ _ _ _ ?_
              simp only [bX10_refusal_68, qsem, qopt_s, qopt2_s, qev, qxs, Nat.reduceEqDiff, reduceIte, and_true, true_and, and_false, false_and, and_self, or_true, true_or, qb_or, reduceCtorEq, qbr_True, qbr_False, q10, q01, qwC, hh.1, hh.2.1, qb_t, qb_f, sh_nI' ha, sh_nI' hb, or_nI, and_nI, hm]
              refine oX10_refusal_73 _ _ _ _ _ _ ?_
              simp only [bX10_refusal_73, qsem, qopt_s, qopt2_s, qev, qxs, Nat.reduceEqDiff, reduceIte, and_true, true_and, and_false, false_and, and_self, or_true, true_or, qb_or, reduceCtorEq, qbr_True, qbr_False, q10, q01, qwC, hh.1, hh.2.1, qb_t, qb_f, sh_nI' ha, sh_nI' hb, or_nI, and_nI, hm]
              refine kX10_refusal_79 (hcl) (rfl) (Nat.le_of_ble_eq_true rfl) (Nat.le_of_ble_eq_true rfl) ⟨Nat.le_of_ble_eq_true rfl, Nat.le_of_ble_eq_true rfl⟩ ?_
              rintro _ _ ⟨rfl, rfl⟩
              refine oX10_refusal_82 _ _ _ _ _ _ ?_
              simp only [bX10_refusal_82, qsem, qopt_s, qopt2_s, qev, qxs, Nat.reduceEqDiff, reduceIte, and_true, true_and, and_false, false_and, and_self, or_true, true_or, qb_or, reduceCtorEq, qbr_True, qbr_False, q10, q01, qwC, hh.1, hh.2.1, qb_t, qb_f, sh_nI' ha, sh_nI' hb, or_nI, and_nI, hm]
              refine oX10_refusal_87 _ _ _ _ _ _ ?_
              simp only [bX10_refusal_87, qsem, qopt_s, qopt2_s, qev, qxs, Nat.reduceEqDiff, reduceIte, and_true, true_and, and_false, false_and, and_self, or_true, true_or, qb_or, reduceCtorEq, qbr_True, qbr_False, q10, q01, qwC, hh.1, hh.2.1, qb_t, qb_f, sh_nI' ha, sh_nI' hb, or_nI, and_nI, hm]
              refine kX10_refusal_90 (hrh) (rfl) (Nat.le_of_ble_eq_true rfl) (Nat.le_of_ble_eq_true rfl) ⟨Nat.le_of_ble_eq_true rfl, Nat.le_of_ble_eq_true rfl⟩ ?_
              rintro _ _ ⟨C1, rfl, hI1, rfl⟩
              refine oX10_refusal_93 _ _ _ _ _ _ ?_
              simp only [bX10_refusal_93, qsem, qopt_s, qopt2_s, qev, qxs, Nat.reduceEqDiff, reduceIte, and_true, true_and, and_false, false_and, and_self, or_true, true_or, qb_or, reduceCtorEq, qbr_True, qbr_False, q10, q01, qwC, hh.1, hh.2.1, qb_t, qb_f, sh_nI' ha, sh_nI' hb, or_nI, and_nI, hm]
              exact hQ _ _ ⟨C1, rfl, hI1, rfl⟩
          · rw [dcf c5] at hcl
            rw [dcf c5, if_pos rfl] at hQ
            refine oX10_refusal_0 _ _ _ _ _ _ ?_
            simp only [bX10_refusal_0, qsem, qopt_s, qopt2_s, qev, qxs, Nat.reduceEqDiff, reduceIte, and_true, true_and, and_false, false_and, and_self, or_true, true_or, qb_or, reduceCtorEq, qbr_True, qbr_False, q10, q01, qwC, hh.1, hh.2.1, qb_t, qb_f, sh_nI' ha, sh_nI' hb, or_nI, and_nI, hm]
            refine kX10_refusal_4 (hfst) (rfl) (Nat.le_of_ble_eq_true rfl) (Nat.le_of_ble_eq_true rfl) ⟨Nat.le_of_ble_eq_true rfl, Nat.le_of_ble_eq_true rfl⟩ ?_
            rintro _ _ ⟨rfl, rfl⟩
            refine oX10_refusal_7 _ _ _ _ _ _ ?_
            simp only [bX10_refusal_7, qsem, qopt_s, qopt2_s, qev, qxs, Nat.reduceEqDiff, reduceIte, and_true, true_and, and_false, false_and, and_self, or_true, true_or, qb_or, reduceCtorEq, qbr_True, qbr_False, q10, q01, qwC, hh.1, hh.2.1, qb_t, qb_f, sh_nI' ha, sh_nI' hb, or_nI, and_nI, hm]
            refine qbr_f (i_nm1 (by omega)) ?_
            refine oX10_refusal_17 _ _ _ _ _ _ ?_
            simp only [bX10_refusal_17, qsem, qopt_s, qopt2_s, qev, qxs, Nat.reduceEqDiff, reduceIte, and_true, true_and, and_false, false_and, and_self, or_true, true_or, qb_or, reduceCtorEq, qbr_True, qbr_False, q10, q01, qwC, hh.1, hh.2.1, qb_t, qb_f, sh_nI' ha, sh_nI' hb, or_nI, and_nI, hm]
            refine kX10_refusal_18 (zX10_isHand) (Nat.le_of_ble_eq_true rfl) (Nat.le_of_ble_eq_true rfl) ⟨Nat.le_of_ble_eq_true rfl, Nat.le_of_ble_eq_true rfl⟩ ?_
            rintro _ _ ⟨rfl, rfl⟩
            refine oX10_refusal_21 _ _ _ _ _ _ ?_
            simp only [bX10_refusal_21, qsem, qopt_s, qopt2_s, qev, qxs, Nat.reduceEqDiff, reduceIte, and_true, true_and, and_false, false_and, and_self, or_true, true_or, qb_or, reduceCtorEq, qbr_True, qbr_False, q10, q01, qwC, hh.1, hh.2.1, qb_t, qb_f, sh_nI' ha, sh_nI' hb, or_nI, and_nI, hm]
            refine kX10_refusal_25 (zX10_isHand) (Nat.le_of_ble_eq_true rfl) (Nat.le_of_ble_eq_true rfl) ⟨Nat.le_of_ble_eq_true rfl, Nat.le_of_ble_eq_true rfl⟩ ?_
            rintro _ _ ⟨rfl, rfl⟩
            refine oX10_refusal_28 _ _ _ _ _ _ ?_
            simp only [bX10_refusal_28, qsem, qopt_s, qopt2_s, qev, qxs, Nat.reduceEqDiff, reduceIte, and_true, true_and, and_false, false_and, and_self, or_true, true_or, qb_or, reduceCtorEq, qbr_True, qbr_False, q10, q01, qwC, hh.1, hh.2.1, qb_t, qb_f, sh_nI' ha, sh_nI' hb, or_nI, and_nI, hm]
            refine qbr_f (hh.2.2) ?_
            refine oX10_refusal_38 _ _ _ _ _ _ ?_
            simp only [bX10_refusal_38, qsem, qopt_s, qopt2_s, qev, qxs, Nat.reduceEqDiff, reduceIte, and_true, true_and, and_false, false_and, and_self, or_true, true_or, qb_or, reduceCtorEq, qbr_True, qbr_False, q10, q01, qwC, hh.1, hh.2.1, qb_t, qb_f, sh_nI' ha, sh_nI' hb, or_nI, and_nI, hm]
            refine kX10_refusal_44 (zX7_makersOf h1 hW.2.1 kF kR kO lf) (rfl) (Nat.le_of_ble_eq_true rfl) (Nat.le_of_ble_eq_true rfl) ⟨Nat.le_of_ble_eq_true rfl, Nat.le_of_ble_eq_true rfl⟩ ?_
            rintro _ _ ⟨rfl, rfl⟩
            refine oX10_refusal_47 _ _ _ _ _ _ ?_
            simp only [bX10_refusal_47, qsem, qopt_s, qopt2_s, qev, qxs, Nat.reduceEqDiff, reduceIte, and_true, true_and, and_false, false_and, and_self, or_true, true_or, qb_or, reduceCtorEq, qbr_True, qbr_False, q10, q01, qwC, hh.1, hh.2.1, qb_t, qb_f, sh_nI' ha, sh_nI' hb, or_nI, and_nI, hm]
            refine qbr_t ((Bool.not_eq_true _).mp c3) ?_
            refine oX10_refusal_60 _ _ _ _ _ _ ?_
            simp only [bX10_refusal_60, qsem, qopt_s, qopt2_s, qev, qxs, Nat.reduceEqDiff, reduceIte, and_true, true_and, and_false, false_and, and_self, or_true, true_or, qb_or, reduceCtorEq, qbr_True, qbr_False, q10, q01, qwC, hh.1, hh.2.1, qb_t, qb_f, sh_nI' ha, sh_nI' hb, or_nI, and_nI, hm]
            refine kX10_refusal_65 ((show _ from (dc_iff.mpr c4) ▸ zX2_canSeal kK hW.2.2.2.2.2.2.2.2.2.1)) (rfl) (Nat.le_of_ble_eq_true rfl) (Nat.le_of_ble_eq_true rfl) ⟨Nat.le_of_ble_eq_true rfl, Nat.le_of_ble_eq_true rfl⟩ ?_
            rintro _ _ ⟨rfl, rfl⟩
            refine oX10_refusal_68 _ _ _ _ _ _ ?_
            simp only [bX10_refusal_68, qsem, qopt_s, qopt2_s, qev, qxs, Nat.reduceEqDiff, reduceIte, and_true, true_and, and_false, false_and, and_self, or_true, true_or, qb_or, reduceCtorEq, qbr_True, qbr_False, q10, q01, qwC, hh.1, hh.2.1, qb_t, qb_f, sh_nI' ha, sh_nI' hb, or_nI, and_nI, hm]
            refine oX10_refusal_73 _ _ _ _ _ _ ?_
            simp only [bX10_refusal_73, qsem, qopt_s, qopt2_s, qev, qxs, Nat.reduceEqDiff, reduceIte, and_true, true_and, and_false, false_and, and_self, or_true, true_or, qb_or, reduceCtorEq, qbr_True, qbr_False, q10, q01, qwC, hh.1, hh.2.1, qb_t, qb_f, sh_nI' ha, sh_nI' hb, or_nI, and_nI, hm]
            refine kX10_refusal_79 (hcl) (rfl) (Nat.le_of_ble_eq_true rfl) (Nat.le_of_ble_eq_true rfl) ⟨Nat.le_of_ble_eq_true rfl, Nat.le_of_ble_eq_true rfl⟩ ?_
            rintro _ _ ⟨rfl, rfl⟩
            refine oX10_refusal_82 _ _ _ _ _ _ ?_
            simp only [bX10_refusal_82, qsem, qopt_s, qopt2_s, qev, qxs, Nat.reduceEqDiff, reduceIte, and_true, true_and, and_false, false_and, and_self, or_true, true_or, qb_or, reduceCtorEq, qbr_True, qbr_False, q10, q01, qwC, hh.1, hh.2.1, qb_t, qb_f, sh_nI' ha, sh_nI' hb, or_nI, and_nI, hm]
            exact hQ _ _ ⟨C, rfl, hI, rfl⟩
        · rw [dcf c4, if_pos rfl] at hQ
          refine oX10_refusal_0 _ _ _ _ _ _ ?_
          simp only [bX10_refusal_0, qsem, qopt_s, qopt2_s, qev, qxs, Nat.reduceEqDiff, reduceIte, and_true, true_and, and_false, false_and, and_self, or_true, true_or, qb_or, reduceCtorEq, qbr_True, qbr_False, q10, q01, qwC, hh.1, hh.2.1, qb_t, qb_f, sh_nI' ha, sh_nI' hb, or_nI, and_nI, hm]
          refine kX10_refusal_4 (hfst) (rfl) (Nat.le_of_ble_eq_true rfl) (Nat.le_of_ble_eq_true rfl) ⟨Nat.le_of_ble_eq_true rfl, Nat.le_of_ble_eq_true rfl⟩ ?_
          rintro _ _ ⟨rfl, rfl⟩
          refine oX10_refusal_7 _ _ _ _ _ _ ?_
          simp only [bX10_refusal_7, qsem, qopt_s, qopt2_s, qev, qxs, Nat.reduceEqDiff, reduceIte, and_true, true_and, and_false, false_and, and_self, or_true, true_or, qb_or, reduceCtorEq, qbr_True, qbr_False, q10, q01, qwC, hh.1, hh.2.1, qb_t, qb_f, sh_nI' ha, sh_nI' hb, or_nI, and_nI, hm]
          refine qbr_f (i_nm1 (by omega)) ?_
          refine oX10_refusal_17 _ _ _ _ _ _ ?_
          simp only [bX10_refusal_17, qsem, qopt_s, qopt2_s, qev, qxs, Nat.reduceEqDiff, reduceIte, and_true, true_and, and_false, false_and, and_self, or_true, true_or, qb_or, reduceCtorEq, qbr_True, qbr_False, q10, q01, qwC, hh.1, hh.2.1, qb_t, qb_f, sh_nI' ha, sh_nI' hb, or_nI, and_nI, hm]
          refine kX10_refusal_18 (zX10_isHand) (Nat.le_of_ble_eq_true rfl) (Nat.le_of_ble_eq_true rfl) ⟨Nat.le_of_ble_eq_true rfl, Nat.le_of_ble_eq_true rfl⟩ ?_
          rintro _ _ ⟨rfl, rfl⟩
          refine oX10_refusal_21 _ _ _ _ _ _ ?_
          simp only [bX10_refusal_21, qsem, qopt_s, qopt2_s, qev, qxs, Nat.reduceEqDiff, reduceIte, and_true, true_and, and_false, false_and, and_self, or_true, true_or, qb_or, reduceCtorEq, qbr_True, qbr_False, q10, q01, qwC, hh.1, hh.2.1, qb_t, qb_f, sh_nI' ha, sh_nI' hb, or_nI, and_nI, hm]
          refine kX10_refusal_25 (zX10_isHand) (Nat.le_of_ble_eq_true rfl) (Nat.le_of_ble_eq_true rfl) ⟨Nat.le_of_ble_eq_true rfl, Nat.le_of_ble_eq_true rfl⟩ ?_
          rintro _ _ ⟨rfl, rfl⟩
          refine oX10_refusal_28 _ _ _ _ _ _ ?_
          simp only [bX10_refusal_28, qsem, qopt_s, qopt2_s, qev, qxs, Nat.reduceEqDiff, reduceIte, and_true, true_and, and_false, false_and, and_self, or_true, true_or, qb_or, reduceCtorEq, qbr_True, qbr_False, q10, q01, qwC, hh.1, hh.2.1, qb_t, qb_f, sh_nI' ha, sh_nI' hb, or_nI, and_nI, hm]
          refine qbr_f (hh.2.2) ?_
          refine oX10_refusal_38 _ _ _ _ _ _ ?_
          simp only [bX10_refusal_38, qsem, qopt_s, qopt2_s, qev, qxs, Nat.reduceEqDiff, reduceIte, and_true, true_and, and_false, false_and, and_self, or_true, true_or, qb_or, reduceCtorEq, qbr_True, qbr_False, q10, q01, qwC, hh.1, hh.2.1, qb_t, qb_f, sh_nI' ha, sh_nI' hb, or_nI, and_nI, hm]
          refine kX10_refusal_44 (zX7_makersOf h1 hW.2.1 kF kR kO lf) (rfl) (Nat.le_of_ble_eq_true rfl) (Nat.le_of_ble_eq_true rfl) ⟨Nat.le_of_ble_eq_true rfl, Nat.le_of_ble_eq_true rfl⟩ ?_
          rintro _ _ ⟨rfl, rfl⟩
          refine oX10_refusal_47 _ _ _ _ _ _ ?_
          simp only [bX10_refusal_47, qsem, qopt_s, qopt2_s, qev, qxs, Nat.reduceEqDiff, reduceIte, and_true, true_and, and_false, false_and, and_self, or_true, true_or, qb_or, reduceCtorEq, qbr_True, qbr_False, q10, q01, qwC, hh.1, hh.2.1, qb_t, qb_f, sh_nI' ha, sh_nI' hb, or_nI, and_nI, hm]
          refine qbr_t ((Bool.not_eq_true _).mp c3) ?_
          refine oX10_refusal_60 _ _ _ _ _ _ ?_
          simp only [bX10_refusal_60, qsem, qopt_s, qopt2_s, qev, qxs, Nat.reduceEqDiff, reduceIte, and_true, true_and, and_false, false_and, and_self, or_true, true_or, qb_or, reduceCtorEq, qbr_True, qbr_False, q10, q01, qwC, hh.1, hh.2.1, qb_t, qb_f, sh_nI' ha, sh_nI' hb, or_nI, and_nI, hm]
          refine kX10_refusal_65 ((show _ from (dcf c4) ▸ zX2_canSeal kK hW.2.2.2.2.2.2.2.2.2.1)) (rfl) (Nat.le_of_ble_eq_true rfl) (Nat.le_of_ble_eq_true rfl) ⟨Nat.le_of_ble_eq_true rfl, Nat.le_of_ble_eq_true rfl⟩ ?_
          rintro _ _ ⟨rfl, rfl⟩
          refine oX10_refusal_68 _ _ _ _ _ _ ?_
          simp only [bX10_refusal_68, qsem, qopt_s, qopt2_s, qev, qxs, Nat.reduceEqDiff, reduceIte, and_true, true_and, and_false, false_and, and_self, or_true, true_or, qb_or, reduceCtorEq, qbr_True, qbr_False, q10, q01, qwC, hh.1, hh.2.1, qb_t, qb_f, sh_nI' ha, sh_nI' hb, or_nI, and_nI, hm]
          exact hQ _ _ ⟨C, rfl, hI, rfl⟩
    · rw [dcf hh, if_pos rfl] at hQ
      refine oX10_refusal_0 _ _ _ _ _ _ ?_
      simp only [bX10_refusal_0, qsem, qopt_s, qopt2_s, qev, qxs, Nat.reduceEqDiff, reduceIte, and_true, true_and, and_false, false_and, and_self, or_true, true_or, qb_or, reduceCtorEq, qbr_True, qbr_False, q10, q01, qwC, qb_0]
      refine kX10_refusal_4 (hfst) (rfl) (Nat.le_of_ble_eq_true rfl) (Nat.le_of_ble_eq_true rfl) ⟨Nat.le_of_ble_eq_true rfl, Nat.le_of_ble_eq_true rfl⟩ ?_
      rintro _ _ ⟨rfl, rfl⟩
      refine oX10_refusal_7 _ _ _ _ _ _ ?_
      simp only [bX10_refusal_7, qsem, qopt_s, qopt2_s, qev, qxs, Nat.reduceEqDiff, reduceIte, and_true, true_and, and_false, false_and, and_self, or_true, true_or, qb_or, reduceCtorEq, qbr_True, qbr_False, q10, q01, qwC, qb_0]
      refine qbr_f (i_nm1 (by omega)) ?_
      refine oX10_refusal_17 _ _ _ _ _ _ ?_
      simp only [bX10_refusal_17, qsem, qopt_s, qopt2_s, qev, qxs, Nat.reduceEqDiff, reduceIte, and_true, true_and, and_false, false_and, and_self, or_true, true_or, qb_or, reduceCtorEq, qbr_True, qbr_False, q10, q01, qwC, qb_0]
      refine kX10_refusal_18 (zX10_isHand) (Nat.le_of_ble_eq_true rfl) (Nat.le_of_ble_eq_true rfl) ⟨Nat.le_of_ble_eq_true rfl, Nat.le_of_ble_eq_true rfl⟩ ?_
      rintro _ _ ⟨rfl, rfl⟩
      refine oX10_refusal_21 _ _ _ _ _ _ ?_
      simp only [bX10_refusal_21, qsem, qopt_s, qopt2_s, qev, qxs, Nat.reduceEqDiff, reduceIte, and_true, true_and, and_false, false_and, and_self, or_true, true_or, qb_or, reduceCtorEq, qbr_True, qbr_False, q10, q01, qwC, qb_0]
      refine qbr_i (fun c1 => ?_) (fun c1 => ?_)
      · refine oX10_refusal_36 _ _ _ _ _ _ ?_
        simp only [bX10_refusal_36, qsem, qopt_s, qopt2_s, qev, qxs, Nat.reduceEqDiff, reduceIte, and_true, true_and, and_false, false_and, and_self, or_true, true_or, qb_or, reduceCtorEq, qbr_True, qbr_False, q10, q01, qwC, qb_0]
        exact hQ _ _ ⟨C, rfl, hI, rfl⟩
      · refine kX10_refusal_25 (zX10_isHand) (Nat.le_of_ble_eq_true rfl) (Nat.le_of_ble_eq_true rfl) ⟨Nat.le_of_ble_eq_true rfl, Nat.le_of_ble_eq_true rfl⟩ ?_
        rintro _ _ ⟨rfl, rfl⟩
        refine oX10_refusal_28 _ _ _ _ _ _ ?_
        simp only [bX10_refusal_28, qsem, qopt_s, qopt2_s, qev, qxs, Nat.reduceEqDiff, reduceIte, and_true, true_and, and_false, false_and, and_self, or_true, true_or, qb_or, reduceCtorEq, qbr_True, qbr_False, q10, q01, qwC, qb_0]
        refine qbr_i (fun c2 => ?_) (fun c2 => ?_)
        · refine oX10_refusal_36 _ _ _ _ _ _ ?_
          simp only [bX10_refusal_36, qsem, qopt_s, qopt2_s, qev, qxs, Nat.reduceEqDiff, reduceIte, and_true, true_and, and_false, false_and, and_self, or_true, true_or, qb_or, reduceCtorEq, qbr_True, qbr_False, q10, q01, qwC, qb_0]
          exact hQ _ _ ⟨C, rfl, hI, rfl⟩
        · refine qbr_i (fun c3 => ?_) (fun c3 => ?_)
          · refine oX10_refusal_36 _ _ _ _ _ _ ?_
            simp only [bX10_refusal_36, qsem, qopt_s, qopt2_s, qev, qxs, Nat.reduceEqDiff, reduceIte, and_true, true_and, and_false, false_and, and_self, or_true, true_or, qb_or, reduceCtorEq, qbr_True, qbr_False, q10, q01, qwC, qb_0]
            exact hQ _ _ ⟨C, rfl, hI, rfl⟩
          · exact absurd ⟨(Bool.not_eq_false _).mp c1, (Bool.not_eq_false _).mp c2, c3⟩ hh
set_option maxRecDepth 100000 in
set_option maxHeartbeats 4000000 in
theorem zX10_why {C M : qC} {S : qS} {r : Nat × Nat × Nat} {H : Nat → Nat → Nat → Bool} {one two key : Int32} (hr : wR r) (hW : WS S H) (h : Inv C S r H) : CT mX10_why 6 0 0 [.ref 0, .int one, .int two, .int key] (wd C M r) (fun r' w' => ∃ C', w' = wd C' M r ∧ Inv C' S r H ∧ r' = some (.int (whyV S H one two key))) := by
  refine eX10_why (AW_gen (fun Q hQ => ?_))
  refine oX10_why_0 _ _ _ _ _ _ ?_
  simp only [bX10_why_0, qsem, qopt_s, qopt2_s, qev, qxs, Nat.reduceEqDiff, reduceIte, and_true, true_and, and_false, false_and, and_self, or_true, true_or, qb_or, reduceCtorEq, qbr_True, qbr_False, q10, q01, qwC]
  refine kX10_why_4 (zX10_refusal hr hW h) (rfl) (Nat.le_of_ble_eq_true rfl) (Nat.le_of_ble_eq_true rfl) ⟨Nat.le_of_ble_eq_true rfl, Nat.le_of_ble_eq_true rfl⟩ ?_
  rintro _ _ ⟨C1, rfl, hI1, rfl⟩
  refine oX10_why_7 _ _ _ _ _ _ ?_
  simp only [bX10_why_7, qsem, qopt_s, qopt2_s, qev, qxs, Nat.reduceEqDiff, reduceIte, and_true, true_and, and_false, false_and, and_self, or_true, true_or, qb_or, reduceCtorEq, qbr_True, qbr_False, q10, q01, qwC]
  exact hQ _ _ ⟨C1, rfl, hI1, rfl⟩
/-! the queue's first leaves -/
theorem skp_at {S : qS} {k : Nat} (hk : k < cQ S - 1) : (skpS S).2.1 150 k = S.2.1 150 (k + 1) := by
  show shf (S.2.1 150) (cQ S - 1) k = _
  unfold shf
  rw [if_pos hk]
theorem WS_skp {S : qS} {H : Nat → Nat → Nat → Bool} (h : WS S H) : WS (skpS S) H := by
  obtain ⟨h1, h2, h3, h4, h5, h6, h7, h8, h9, h10, h11⟩ := h
  have e := (skp_W h1).2.2.1
  have hq : ∀ k, k < cQ S - 1 → qat (skpS S) k = qat S (k + 1) := fun k hk => by unfold qat; rw [skp_at hk]
  refine ⟨(skp_W h1).1, h2, ⟨fun k hk => ?_, fun i j hij hj => ?_⟩, h4, h5, h6, h7, h8, h9, h10, h11⟩
  · rw [e] at hk
    rw [hq k hk, skp_at hk]
    exact h3.1 (k + 1) (by omega)
  · rw [e] at hj
    rw [hq i (by omega), hq j hj]
    exact h3.2 (i + 1) (j + 1) (by omega) (by omega)
theorem Inv_skp {C : qC} {S : qS} {r : Nat × Nat × Nat} {H : Nat → Nat → Nat → Bool} (hr : wR r) (hW : WS S H) (h : Inv C S r H) : Inv (yA (yI C 124 1 (nI (cQ S - 1))) 125 (va_cpy (xA C 125) (xA C 125) 1 0 (cQ S - 1))) (skpS S) r H := by
  have e := (skp_W hW.1).2.2.1
  obtain ⟨kN, kS, kF, kR, kO, kB, kT, kC, kM, kA, kQ, kK, kU⟩ := h
  refine ⟨kN, kS, kF, kR, kO, iB_S (S := S) rfl rfl rfl rfl rfl kB, iT_S (S := S) rfl rfl rfl rfl rfl kT, kC, kM, kA, ⟨by rw [e]; rfl, fun k hk => ?_⟩, kK, iU_cg (C := C) (S := S) rfl (by simp only [qxs]; rw [if_neg (rp hr (by omega))]) rfl kU⟩
  · rw [e] at hk
    show va_cpy (xA C 125) (xA C 125) 1 0 (cQ S - 1) k = _
    rw [pk_cpy_in (by omega) (by omega), skp_at hk, show 1 + (k - 0) = k + 1 by omega]
    exact kQ.2 (k + 1) (by omega)


/-! calls back -/
theorem rc_W1 {S : qS} {s whose since : Int32} (h1 : W1 S) (h50 : ¬ cK S = 50) : W1 (rcS S s whose since) := by
  have e := rc_K (s := s) (whose := whose) (since := since) h1
  obtain ⟨⟨a0, a1, a2, a3, a4, a5, a6⟩, b1, b2, b3, b4, b5, b6, b7⟩ := h1
  refine ⟨⟨a0, a1, a2, ?_, a4, a5, a6⟩, b1, b2, b3, ?_, b5, b6, b7⟩
  · rw [e]; show S.1 3 + 1 = _; rw [a3, nI_1]
  · rw [e]; omega
theorem WS_rc {S : qS} {H : Nat → Nat → Nat → Bool} {s whose since : Int32} (hW : WS S H) (hok : rcOk S s whose since) : WS (rcS S s whose since) H := by
  obtain ⟨w1, w2, w3, w4, w5, w6, w7, w8, w9, w10, w11⟩ := hW
  obtain ⟨m1, m2, m5⟩ := rc_W w1 w2 w5 hok
  exact ⟨m1, m2, w3, w4, m5, w6, w7, w8, w9, w10, w11⟩
theorem Inv_rc {C C' : qC} {S : qS} {r : Nat × Nat × Nat} {H : Nat → Nat → Nat → Bool} {s whose since : Int32} (hr : wR r) (hW : WS S H) (h : Inv C S r H) (hf : rcF C C') (hM : iM C' (rcS S s whose since)) : Inv C' (rcS S s whose since) r H := by
  obtain ⟨kN, kS, kF, kR, kO, kB, kT, kC, kM, kA, kQ, kK, kU⟩ := h
  obtain ⟨e1, e2, e3, e4⟩ := hf
  have fN : iN C' S := iN_cg (e1 1 3 (by omega)) (e2 2 (by omega) (by omega)) kN
  have fS : iS C' S := iS_cg (e1 3 3 (by omega)) (e2 4 (by omega) (by omega)) kS
  have fF : iF C' S := iF_cg (e1 5 7 (by omega)) (by rw [e3]) kF
  have fR : iR C' S := iR_cg hW.1 (fun i hi => e4 (13 + i) (by omega)) kR
  have fO : iO C' S := iO_cg (e2 8 (by omega) (by omega)) kO
  have fB : iB C' S := iB_cg (e2 9 (by omega) (by omega)) kB
  have fT : iT C' S := iT_cg (e2 10 (by omega) (by omega)) (e2 11 (by omega) (by omega)) kT
  have fC : iC C' S := iC_cg (e4 12 (by omega)) kC
  have fA : iA C' S := iA_cg (e1 121 1 (by omega)) (e2 122 (by omega) (by omega)) kA
  have fQ : iQ C' S := iQ_cg (e1 124 1 (by omega)) (e2 125 (by omega) (by omega)) kQ
  have fK : iK C' S := iK_cg (e2 127 (by omega) (by omega)) (e2 128 (by omega) (by omega)) (e2 129 (by omega) (by omega)) (e2 130 (by omega) (by omega)) kK
  have fU : iU C' S r H := iU_cg (e1 0 10 (by omega)) (e2 _ (rp hr (by omega)) (rp hr (by omega))) (funext (fun j => e1 131 j (by omega))) kU
  exact ⟨fN, fS, fF, fR, fO, iB_S (S := S) rfl rfl rfl rfl rfl fB, iT_S (S := S) rfl rfl rfl rfl rfl fT, fC, hM, fA, fQ, fK, fU⟩
set_option maxRecDepth 100000 in
set_option maxHeartbeats 4000000 in
theorem zX10_recall {C M : qC} {r : Nat × Nat × Nat} {S : qS} {H : Nat → Nat → Nat → Bool} {s whose since : Int32} (hr : wR r) (hW : WS S H) (h : Inv C S r H) : CT mX10_recall 4 0 0 [.ref 0, .int s, .int whose, .int since] (wd C M r) (fun r' w' => ∃ C', w' = wd C' M r ∧ ((¬ rcOk S s whose since ∧ r' = some (.int (-1)) ∧ Inv C' S r H) ∨ (rcOk S s whose since ∧ r' = some (.int (nI (fb_ct (fun f => dc (cal (rcS S s whose since) f)) (cF S)))) ∧ Inv C' (rcS S s whose since) r H ∧ WS (rcS S s whose since) H))) := by
  have h1 := hW.1
  have hF := h1.2.2.1
  obtain ⟨kN, kS, kF, kR, kO, kB, kT, kC, kM, kA, kQ, kK, kU⟩ := h
  have hI : Inv C S r H := ⟨kN, kS, kF, kR, kO, kB, kT, kC, kM, kA, kQ, kK, kU⟩
  refine eX10_recall (AW_gen (fun Q hQ => ?_))
  have bad : ¬ rcOk S s whose since → AW (mX10_recall, 4, 0, 0, none, Q) 48 [some (.ref 0), some (.int s), some (.int whose), some (.int since), none] [.int 0] (wd C M r) 0 0 := by
    intro hno
    refine oX10_recall_48 _ _ _ _ _ _ ?_
    simp only [bX10_recall_48, qsem, qopt_s, qopt2_s, qev, qxs, Nat.reduceEqDiff, reduceIte, and_true, true_and, and_false, false_and, and_self, or_true, true_or, qb_or, reduceCtorEq, qbr_True, qbr_False, q10, q01, qwC]
    refine oX10_recall_62 _ _ _ _ _ _ ?_
    simp only [bX10_recall_62, qsem, qopt_s, qopt2_s, qev, qxs, Nat.reduceEqDiff, reduceIte, and_true, true_and, and_false, false_and, and_self, or_true, true_or, qb_or, reduceCtorEq, qbr_True, qbr_False, q10, q01, qwC]
    refine oX10_recall_63 _ _ _ _ _ _ ?_
    simp only [bX10_recall_63, qsem, qopt_s, qopt2_s, qev, qxs, Nat.reduceEqDiff, reduceIte, and_true, true_and, and_false, false_and, and_self, or_true, true_or, qb_or, reduceCtorEq, qbr_True, qbr_False, q10, q01, qwC]
    exact hQ _ _ ⟨C, rfl, Or.inl ⟨hno, rfl, hI⟩⟩
  have good : rcOk S s whose since → ∀ C' : qC, Inv C' (rcS S s whose since) r H → AW (mX10_recall, 4, 0, 0, none, Q) 48 [some (.ref 0), some (.int s), some (.int whose), some (.int since), none] [.int 1] (wd C' M r) 0 0 := by
    intro hok C' hI'
    have hW' := WS_rc hW hok
    refine oX10_recall_48 _ _ _ _ _ _ ?_
    simp only [bX10_recall_48, qsem, qopt_s, qopt2_s, qev, qxs, Nat.reduceEqDiff, reduceIte, and_true, true_and, and_false, false_and, and_self, or_true, true_or, qb_or, reduceCtorEq, qbr_True, qbr_False, q10, q01, qwC]
    refine kX10_recall_56 (zX10_manyCalledBack hW'.1 hW'.2.1 hW'.2.2.2.2.1 hI'.2.2.1 hI'.2.2.2.1 hI'.2.2.2.2.2.2.2.2.1) (rfl) (Nat.le_of_ble_eq_true rfl) (Nat.le_of_ble_eq_true rfl) ⟨Nat.le_of_ble_eq_true rfl, Nat.le_of_ble_eq_true rfl⟩ ?_
    rintro _ _ ⟨rfl, rfl⟩
    refine oX10_recall_59 _ _ _ _ _ _ ?_
    simp only [bX10_recall_59, qsem, qopt_s, qopt2_s, qev, qxs, Nat.reduceEqDiff, reduceIte, and_true, true_and, and_false, false_and, and_self, or_true, true_or, qb_or, reduceCtorEq, qbr_True, qbr_False, q10, q01, qwC]
    refine oX10_recall_63 _ _ _ _ _ _ ?_
    simp only [bX10_recall_63, qsem, qopt_s, qopt2_s, qev, qxs, Nat.reduceEqDiff, reduceIte, and_true, true_and, and_false, false_and, and_self, or_true, true_or, qb_or, reduceCtorEq, qbr_True, qbr_False, q10, q01, qwC]
    exact hQ _ _ ⟨C', rfl, Or.inr ⟨hok, rfl, hI', hW'⟩⟩
  by_cases hs : s = 0
  · subst hs
    by_cases hw : isF S whose = true
    · obtain ⟨f, hf, rfl⟩ := isF_of h1 hw
      refine oX10_recall_0 _ _ _ _ _ _ ?_
      simp only [bX10_recall_0, qsem, qopt_s, qopt2_s, qev, qxs, Nat.reduceEqDiff, reduceIte, and_true, true_and, and_false, false_and, and_self, or_true, true_or, qb_or, reduceCtorEq, qbr_True, qbr_False, q10, q01, qwC, hw, qb_t]
      refine kX10_recall_9 (zX7_has h1 kF) (rfl) (Nat.le_of_ble_eq_true rfl) (Nat.le_of_ble_eq_true rfl) ⟨Nat.le_of_ble_eq_true rfl, Nat.le_of_ble_eq_true rfl⟩ ?_
      rintro _ _ ⟨rfl, rfl⟩
      refine oX10_recall_12 _ _ _ _ _ _ ?_
      simp only [bX10_recall_12, qsem, qopt_s, qopt2_s, qev, qxs, Nat.reduceEqDiff, reduceIte, and_true, true_and, and_false, false_and, and_self, or_true, true_or, qb_or, reduceCtorEq, qbr_True, qbr_False, q10, q01, qwC, hw, qb_t]
      refine kX10_recall_20 (zX5_addFile h1 kM hf) (rfl) (Nat.le_of_ble_eq_true rfl) (Nat.le_of_ble_eq_true rfl) ⟨Nat.le_of_ble_eq_true rfl, Nat.le_of_ble_eq_true rfl⟩ ?_
      rintro _ _ (⟨h50, rfl, rfl⟩ | ⟨h50, rfl, C', rfl, hU⟩)
      skip
      · refine oX10_recall_23 _ _ _ _ _ _ ?_
        simp only [bX10_recall_23, qsem, qopt_s, qopt2_s, qev, qxs, Nat.reduceEqDiff, reduceIte, and_true, true_and, and_false, false_and, and_self, or_true, true_or, qb_or, reduceCtorEq, qbr_True, qbr_False, q10, q01, qwC]
        refine oX10_recall_30 _ _ _ _ _ _ ?_
        simp only [bX10_recall_30, qsem, qopt_s, qopt2_s, qev, qxs, Nat.reduceEqDiff, reduceIte, and_true, true_and, and_false, false_and, and_self, or_true, true_or, qb_or, reduceCtorEq, qbr_True, qbr_False, q10, q01, qwC]
        exact bad (fun q => q.2.2 h50)
      · have hok : rcOk S 0 (nI f) since := ⟨Or.inl ⟨rfl, hw⟩, Or.inl rfl, h50⟩
        obtain ⟨u1, u2, u3, u4, u5⟩ := hU
        have hM' : iM C' (rcS S 0 (nI f) since) := by
          refine ⟨by rw [u1, rc_K h1]; rfl, fun t ht => ?_, fun t ht => ?_, fun j hj => ?_⟩
          · rw [u2]; exact snP_rc h1 (kM.2.1 t ht) _ (fun n _ => ⟨Or.inl, fun q => q.elim id (fun z => absurd z.1 (by decide))⟩)
          · rw [u2]; exact snP_rc h1 (kM.2.2.1 t ht) _ (fun n _ => ⟨Or.inl, fun q => q.elim id (fun z => absurd z.1 (by decide))⟩)
          · rw [u5 j hj, mkd_rc0 h1]
            show (fB C 120 j || decide (j = f)) = true ↔ _
            rw [Bool.or_eq_true, kM.2.2.2 j hj, decide_eq_true_eq]
            exact or_congr Iff.rfl ⟨fun q => by rw [q], fun q => (i_ninj (by omega) (by omega) q).symm⟩
        have hI' := Inv_rc (s := 0) (whose := nI f) (since := since) hr hW hI ⟨fun q j hq => by rw [u1]; simp only [qxs]; rw [if_neg hq], fun q _ _ => by rw [u2]; simp only [qxs], by rw [u3]; simp only [qxs], fun q hq => by rw [u4 q hq]; simp only [qxs]⟩ hM'
        refine oX10_recall_23 _ _ _ _ _ _ ?_
        simp only [bX10_recall_23, qsem, qopt_s, qopt2_s, qev, qxs, Nat.reduceEqDiff, reduceIte, and_true, true_and, and_false, false_and, and_self, or_true, true_or, qb_or, reduceCtorEq, qbr_True, qbr_False, q10, q01, qwC]
        exact good hok C' hI'
    · have hw2 : isF S whose = false := (Bool.not_eq_true _).mp hw
      refine oX10_recall_0 _ _ _ _ _ _ ?_
      simp only [bX10_recall_0, qsem, qopt_s, qopt2_s, qev, qxs, Nat.reduceEqDiff, reduceIte, and_true, true_and, and_false, false_and, and_self, or_true, true_or, qb_or, reduceCtorEq, qbr_True, qbr_False, q10, q01, qwC, hw2, qb_f]
      refine kX10_recall_9 (zX7_has h1 kF) (rfl) (Nat.le_of_ble_eq_true rfl) (Nat.le_of_ble_eq_true rfl) ⟨Nat.le_of_ble_eq_true rfl, Nat.le_of_ble_eq_true rfl⟩ ?_
      rintro _ _ ⟨rfl, rfl⟩
      refine oX10_recall_12 _ _ _ _ _ _ ?_
      simp only [bX10_recall_12, qsem, qopt_s, qopt2_s, qev, qxs, Nat.reduceEqDiff, reduceIte, and_true, true_and, and_false, false_and, and_self, or_true, true_or, qb_or, reduceCtorEq, qbr_True, qbr_False, q10, q01, qwC, hw2, qb_f]
      refine oX10_recall_30 _ _ _ _ _ _ ?_
      simp only [bX10_recall_30, qsem, qopt_s, qopt2_s, qev, qxs, Nat.reduceEqDiff, reduceIte, and_true, true_and, and_false, false_and, and_self, or_true, true_or, qb_or, reduceCtorEq, qbr_True, qbr_False, q10, q01, qwC, hw2, qb_f]
      exact bad (fun q => q.1.elim (fun z => hw z.2) (fun z => z.elim (fun y => absurd y.1 (by decide)) (fun y => absurd y.1 (by decide))))
  · refine oX10_recall_0 _ _ _ _ _ _ ?_
    simp only [bX10_recall_0, qsem, qopt_s, qopt2_s, qev, qxs, Nat.reduceEqDiff, reduceIte, and_true, true_and, and_false, false_and, and_self, or_true, true_or, qb_or, reduceCtorEq, qbr_True, qbr_False, q10, q01, qwC]
    refine qbr_f (hs) ?_
    refine oX10_recall_34 _ _ _ _ _ _ ?_
    simp only [bX10_recall_34, qsem, qopt_s, qopt2_s, qev, qxs, Nat.reduceEqDiff, reduceIte, and_true, true_and, and_false, false_and, and_self, or_true, true_or, qb_or, reduceCtorEq, qbr_True, qbr_False, q10, q01, qwC]
    refine kX10_recall_45 (zX5_addSince h1 hW.2.1 hW.2.2.2.2.2.2.2.2.2.2 kN kM hs) (rfl) (Nat.le_of_ble_eq_true rfl) (Nat.le_of_ble_eq_true rfl) ⟨Nat.le_of_ble_eq_true rfl, Nat.le_of_ble_eq_true rfl⟩ ?_
    rintro _ _ (⟨hno, rfl, rfl⟩ | ⟨hok, rfl, C', rfl, hf, hM'⟩)
    skip
    · exact bad hno
    · exact good hok C' (Inv_rc hr hW hI hf hM')
/-! file, sealed, count -/
set_option maxRecDepth 100000 in
set_option maxHeartbeats 4000000 in
theorem zX10_file {C M : qC} {r : Nat × Nat × Nat} {S : qS} {H : Nat → Nat → Nat → Bool} {a what : Int32} (hW : WS S H) (h : Inv C S r H) : CT mX10_file 5 0 0 [.ref 0, .int a, .int what] (wd C M r) (fun r' w' => w' = wd C M r ∧ r' = some (.int (if isF S a then sel8 what (fiV S a.toNatClampNeg) else -1))) := by
  have h1 := hW.1
  have hF := h1.2.2.1
  obtain ⟨kN, kS, kF, kR, kO, kB, kT, kC, kM, kA, kQ, kK, kU⟩ := h
  refine eX10_file (AW_gen (fun Q hQ => ?_))
  by_cases ha : isF S a = true
  · obtain ⟨f, hf, rfl⟩ := isF_of h1 ha
    have hc := nIcl (show f < 1000 by omega)
    rw [ha, if_pos rfl, hc] at hQ
    have hcl := zX7_isClean (C := C) (M := M) (r := r) (a := nI f)
    rw [inNi (show f < 100 by omega) (by omega), Bool.true_and, hc, show fB C 12 f = dc (cln S f) from dc_of (kC f (by omega))] at hcl
    have hms := zX10_manyStanding (C := C) (M := M) (r := r) (a := nI f) h1 hW.2.1 hW.2.2.2.1 hW.2.2.2.2.1 kS kF kR kM kK
    have e8 : fb_ct (fun s => dc ((nI f = -1 ∨ S.2.1 139 (sln S s) = nI f) ∧ std S s)) (cS S) = fb_ct (fun s => decide (ofN S (sln S s) = f) && dc (std S s)) (cS S) := fb_ct_cong (fun s hs => by
      obtain ⟨⟨-, ll⟩, -⟩ := hW.2.2.2.1 s hs
      obtain ⟨-, ⟨eo, lo⟩, -, -⟩ := hW.2.1 _ ll
      refine Bool.eq_iff_iff.mpr ?_
      rw [dc_iff, Bool.and_eq_true, decide_eq_true_eq, dc_iff]
      refine and_congr ⟨fun q => q.elim (fun z => absurd z (i_nm1 (by omega))) (fun z => i_ninj (by omega) (by omega) (eo.symm.trans z)), fun q => Or.inr (by rw [eo, q])⟩ Iff.rfl)
    rw [e8] at hms
    refine oX10_file_0 _ _ _ _ _ _ ?_
    simp only [bX10_file_0, qsem, qopt_s, qopt2_s, qev, qxs, Nat.reduceEqDiff, reduceIte, and_true, true_and, and_false, false_and, and_self, or_true, true_or, qb_or, reduceCtorEq, qbr_True, qbr_False, q10, q01, qwC, ha, qb_t]
    refine kX10_file_5 (zX7_has h1 kF) (rfl) (Nat.le_of_ble_eq_true rfl) (Nat.le_of_ble_eq_true rfl) ⟨Nat.le_of_ble_eq_true rfl, Nat.le_of_ble_eq_true rfl⟩ ?_
    rintro _ _ ⟨rfl, rfl⟩
    refine oX10_file_8 _ _ _ _ _ _ ?_
    simp only [bX10_file_8, qsem, qopt_s, qopt2_s, qev, qxs, Nat.reduceEqDiff, reduceIte, and_true, true_and, and_false, false_and, and_self, or_true, true_or, qb_or, reduceCtorEq, qbr_True, qbr_False, q10, q01, qwC, ha, qb_t]
    refine oX10_file_13 _ _ _ _ _ _ ?_
    simp only [bX10_file_13, qsem, qopt_s, qopt2_s, qev, qxs, Nat.reduceEqDiff, reduceIte, and_true, true_and, and_false, false_and, and_self, or_true, true_or, qb_or, reduceCtorEq, qbr_True, qbr_False, q10, q01, qwC, ha, qb_t]
    refine uX10_file_14 (fun sw => ?_) (fun sw => ?_) (fun sw => ?_) (fun sw => ?_) (fun sw => ?_) (fun sw => ?_) (fun sw => ?_) (fun sw => ?_) (fun sw => ?_) (fun sw0 sw1 sw2 sw3 sw4 sw5 sw6 sw7 sw8 => ?_)
    · refine oX10_file_64 _ _ _ _ _ _ ?_
      simp only [bX10_file_64, qsem, qopt_s, qopt2_s, qev, qxs, Nat.reduceEqDiff, reduceIte, and_true, true_and, and_false, false_and, and_self, or_true, true_or, qb_or, reduceCtorEq, qbr_True, qbr_False, q10, q01, qwC, ha, qb_t]
      refine kX10_file_69 (hcl) (rfl) (Nat.le_of_ble_eq_true rfl) (Nat.le_of_ble_eq_true rfl) ⟨Nat.le_of_ble_eq_true rfl, Nat.le_of_ble_eq_true rfl⟩ ?_
      rintro _ _ ⟨rfl, rfl⟩
      simp only [Option.toList_some, List.cons_append, List.nil_append]
      refine kX10_file_72 (zX10_bit) (Nat.le_of_ble_eq_true rfl) (Nat.le_of_ble_eq_true rfl) ⟨Nat.le_of_ble_eq_true rfl, Nat.le_of_ble_eq_true rfl⟩ ?_
      rintro _ _ ⟨rfl, rfl⟩
      refine oX10_file_75 _ _ _ _ _ _ ?_
      simp only [bX10_file_75, qsem, qopt_s, qopt2_s, qev, qxs, Nat.reduceEqDiff, reduceIte, and_true, true_and, and_false, false_and, and_self, or_true, true_or, qb_or, reduceCtorEq, qbr_True, qbr_False, q10, q01, qwC, ha, qb_t]
      first | exact hQ _ _ ⟨rfl, ri (by rw [sw]; rfl)⟩ | exact hQ _ _ ⟨rfl, ri (by unfold sel8; simp only [sw0, sw1, sw2, sw3, sw4, sw5, sw6, sw7, sw8, if_false])⟩
    · refine oX10_file_76 _ _ _ _ _ _ ?_
      simp only [bX10_file_76, qsem, qopt_s, qopt2_s, qev, qxs, Nat.reduceEqDiff, reduceIte, and_true, true_and, and_false, false_and, and_self, or_true, true_or, qb_or, reduceCtorEq, qbr_True, qbr_False, q10, q01, qwC, ha, qb_t]
      refine kX10_file_78 (zX10_isCalledBack h1 hW.2.1 hW.2.2.2.2.1 kF kR kM hf) (rfl) (Nat.le_of_ble_eq_true rfl) (Nat.le_of_ble_eq_true rfl) ⟨Nat.le_of_ble_eq_true rfl, Nat.le_of_ble_eq_true rfl⟩ ?_
      rintro _ _ ⟨rfl, rfl⟩
      simp only [Option.toList_some, List.cons_append, List.nil_append]
      refine kX10_file_81 (zX10_bit) (Nat.le_of_ble_eq_true rfl) (Nat.le_of_ble_eq_true rfl) ⟨Nat.le_of_ble_eq_true rfl, Nat.le_of_ble_eq_true rfl⟩ ?_
      rintro _ _ ⟨rfl, rfl⟩
      refine oX10_file_84 _ _ _ _ _ _ ?_
      simp only [bX10_file_84, qsem, qopt_s, qopt2_s, qev, qxs, Nat.reduceEqDiff, reduceIte, and_true, true_and, and_false, false_and, and_self, or_true, true_or, qb_or, reduceCtorEq, qbr_True, qbr_False, q10, q01, qwC, ha, qb_t]
      first | exact hQ _ _ ⟨rfl, ri (by rw [sw]; rfl)⟩ | exact hQ _ _ ⟨rfl, ri (by unfold sel8; simp only [sw0, sw1, sw2, sw3, sw4, sw5, sw6, sw7, sw8, if_false])⟩
    · refine oX10_file_85 _ _ _ _ _ _ ?_
      simp only [bX10_file_85, qsem, qopt_s, qopt2_s, qev, qxs, Nat.reduceEqDiff, reduceIte, and_true, true_and, and_false, false_and, and_self, or_true, true_or, qb_or, reduceCtorEq, qbr_True, qbr_False, q10, q01, qwC, ha, qb_t]
      refine kX10_file_90 (zX7_goodTries h1 kF kT hf) (rfl) (Nat.le_of_ble_eq_true rfl) (Nat.le_of_ble_eq_true rfl) ⟨Nat.le_of_ble_eq_true rfl, Nat.le_of_ble_eq_true rfl⟩ ?_
      rintro _ _ ⟨rfl, rfl⟩
      refine oX10_file_93 _ _ _ _ _ _ ?_
      simp only [bX10_file_93, qsem, qopt_s, qopt2_s, qev, qxs, Nat.reduceEqDiff, reduceIte, and_true, true_and, and_false, false_and, and_self, or_true, true_or, qb_or, reduceCtorEq, qbr_True, qbr_False, q10, q01, qwC, ha, qb_t]
      first | exact hQ _ _ ⟨rfl, ri (by rw [sw]; rfl)⟩ | exact hQ _ _ ⟨rfl, ri (by unfold sel8; simp only [sw0, sw1, sw2, sw3, sw4, sw5, sw6, sw7, sw8, if_false])⟩
    · refine oX10_file_94 _ _ _ _ _ _ ?_
      simp only [bX10_file_94, qsem, qopt_s, qopt2_s, qev, qxs, Nat.reduceEqDiff, reduceIte, and_true, true_and, and_false, false_and, and_self, or_true, true_or, qb_or, reduceCtorEq, qbr_True, qbr_False, q10, q01, qwC, ha, qb_t]
      refine kX10_file_99 (zX7_goodReviews h1 hW.2.1 kF kR kO kT hf) (rfl) (Nat.le_of_ble_eq_true rfl) (Nat.le_of_ble_eq_true rfl) ⟨Nat.le_of_ble_eq_true rfl, Nat.le_of_ble_eq_true rfl⟩ ?_
      rintro _ _ ⟨rfl, rfl⟩
      refine oX10_file_102 _ _ _ _ _ _ ?_
      simp only [bX10_file_102, qsem, qopt_s, qopt2_s, qev, qxs, Nat.reduceEqDiff, reduceIte, and_true, true_and, and_false, false_and, and_self, or_true, true_or, qb_or, reduceCtorEq, qbr_True, qbr_False, q10, q01, qwC, ha, qb_t]
      first | exact hQ _ _ ⟨rfl, ri (by rw [sw]; rfl)⟩ | exact hQ _ _ ⟨rfl, ri (by unfold sel8; simp only [sw0, sw1, sw2, sw3, sw4, sw5, sw6, sw7, sw8, if_false])⟩
    · refine oX10_file_103 _ _ _ _ _ _ ?_
      simp only [bX10_file_103, qsem, qopt_s, qopt2_s, qev, qxs, Nat.reduceEqDiff, reduceIte, and_true, true_and, and_false, false_and, and_self, or_true, true_or, qb_or, reduceCtorEq, qbr_True, qbr_False, q10, q01, qwC, ha, qb_t]
      refine kX10_file_108 (zX7_goodBuilders h1 hW.2.1 kF kB hf) (rfl) (Nat.le_of_ble_eq_true rfl) (Nat.le_of_ble_eq_true rfl) ⟨Nat.le_of_ble_eq_true rfl, Nat.le_of_ble_eq_true rfl⟩ ?_
      rintro _ _ ⟨rfl, rfl⟩
      refine oX10_file_111 _ _ _ _ _ _ ?_
      simp only [bX10_file_111, qsem, qopt_s, qopt2_s, qev, qxs, Nat.reduceEqDiff, reduceIte, and_true, true_and, and_false, false_and, and_self, or_true, true_or, qb_or, reduceCtorEq, qbr_True, qbr_False, q10, q01, qwC, ha, qb_t]
      first | exact hQ _ _ ⟨rfl, ri (by rw [sw]; rfl)⟩ | exact hQ _ _ ⟨rfl, ri (by unfold sel8; simp only [sw0, sw1, sw2, sw3, sw4, sw5, sw6, sw7, sw8, if_false])⟩
    · refine oX10_file_112 _ _ _ _ _ _ ?_
      simp only [bX10_file_112, qsem, qopt_s, qopt2_s, qev, qxs, Nat.reduceEqDiff, reduceIte, and_true, true_and, and_false, false_and, and_self, or_true, true_or, qb_or, reduceCtorEq, qbr_True, qbr_False, q10, q01, qwC, ha, qb_t]
      refine kX10_file_117 (zX7_rowSize h1 kF kR hf) (rfl) (Nat.le_of_ble_eq_true rfl) (Nat.le_of_ble_eq_true rfl) ⟨Nat.le_of_ble_eq_true rfl, Nat.le_of_ble_eq_true rfl⟩ ?_
      rintro _ _ ⟨rfl, rfl⟩
      refine oX10_file_120 _ _ _ _ _ _ ?_
      simp only [bX10_file_120, qsem, qopt_s, qopt2_s, qev, qxs, Nat.reduceEqDiff, reduceIte, and_true, true_and, and_false, false_and, and_self, or_true, true_or, qb_or, reduceCtorEq, qbr_True, qbr_False, q10, q01, qwC, ha, qb_t]
      first | exact hQ _ _ ⟨rfl, ri (by rw [sw]; rfl)⟩ | exact hQ _ _ ⟨rfl, ri (by unfold sel8; simp only [sw0, sw1, sw2, sw3, sw4, sw5, sw6, sw7, sw8, if_false])⟩
    · refine oX10_file_121 _ _ _ _ _ _ ?_
      simp only [bX10_file_121, qsem, qopt_s, qopt2_s, qev, qxs, Nat.reduceEqDiff, reduceIte, and_true, true_and, and_false, false_and, and_self, or_true, true_or, qb_or, reduceCtorEq, qbr_True, qbr_False, q10, q01, qwC, ha, qb_t]
      refine kX10_file_126 (zX7_makersOf h1 hW.2.1 kF kR kO hf) (rfl) (Nat.le_of_ble_eq_true rfl) (Nat.le_of_ble_eq_true rfl) ⟨Nat.le_of_ble_eq_true rfl, Nat.le_of_ble_eq_true rfl⟩ ?_
      rintro _ _ ⟨rfl, rfl⟩
      refine oX10_file_129 _ _ _ _ _ _ ?_
      simp only [bX10_file_129, qsem, qopt_s, qopt2_s, qev, qxs, Nat.reduceEqDiff, reduceIte, and_true, true_and, and_false, false_and, and_self, or_true, true_or, qb_or, reduceCtorEq, qbr_True, qbr_False, q10, q01, qwC, ha, qb_t]
      first | exact hQ _ _ ⟨rfl, ri (by rw [sw]; rfl)⟩ | exact hQ _ _ ⟨rfl, ri (by unfold sel8; simp only [sw0, sw1, sw2, sw3, sw4, sw5, sw6, sw7, sw8, if_false])⟩
    · refine oX10_file_130 _ _ _ _ _ _ ?_
      simp only [bX10_file_130, qsem, qopt_s, qopt2_s, qev, qxs, Nat.reduceEqDiff, reduceIte, and_true, true_and, and_false, false_and, and_self, or_true, true_or, qb_or, reduceCtorEq, qbr_True, qbr_False, q10, q01, qwC, ha, qb_t]
      refine kX10_file_135 (zX4_placeOf h1 kQ) (rfl) (Nat.le_of_ble_eq_true rfl) (Nat.le_of_ble_eq_true rfl) ⟨Nat.le_of_ble_eq_true rfl, Nat.le_of_ble_eq_true rfl⟩ ?_
      rintro _ _ ⟨rfl, rfl⟩
      refine oX10_file_138 _ _ _ _ _ _ ?_
      simp only [bX10_file_138, qsem, qopt_s, qopt2_s, qev, qxs, Nat.reduceEqDiff, reduceIte, and_true, true_and, and_false, false_and, and_self, or_true, true_or, qb_or, reduceCtorEq, qbr_True, qbr_False, q10, q01, qwC, ha, qb_t]
      first | exact hQ _ _ ⟨rfl, ri (by rw [sw]; rfl)⟩ | exact hQ _ _ ⟨rfl, ri (by unfold sel8; simp only [sw0, sw1, sw2, sw3, sw4, sw5, sw6, sw7, sw8, if_false])⟩
    · refine oX10_file_139 _ _ _ _ _ _ ?_
      simp only [bX10_file_139, qsem, qopt_s, qopt2_s, qev, qxs, Nat.reduceEqDiff, reduceIte, and_true, true_and, and_false, false_and, and_self, or_true, true_or, qb_or, reduceCtorEq, qbr_True, qbr_False, q10, q01, qwC, ha, qb_t]
      refine kX10_file_141 (hms) (rfl) (Nat.le_of_ble_eq_true rfl) (Nat.le_of_ble_eq_true rfl) ⟨Nat.le_of_ble_eq_true rfl, Nat.le_of_ble_eq_true rfl⟩ ?_
      rintro _ _ ⟨rfl, rfl⟩
      refine oX10_file_144 _ _ _ _ _ _ ?_
      simp only [bX10_file_144, qsem, qopt_s, qopt2_s, qev, qxs, Nat.reduceEqDiff, reduceIte, and_true, true_and, and_false, false_and, and_self, or_true, true_or, qb_or, reduceCtorEq, qbr_True, qbr_False, q10, q01, qwC, ha, qb_t]
      first | exact hQ _ _ ⟨rfl, ri (by rw [sw]; rfl)⟩ | exact hQ _ _ ⟨rfl, ri (by unfold sel8; simp only [sw0, sw1, sw2, sw3, sw4, sw5, sw6, sw7, sw8, if_false])⟩
    · refine oX10_file_145 _ _ _ _ _ _ ?_
      simp only [bX10_file_145, qsem, qopt_s, qopt2_s, qev, qxs, Nat.reduceEqDiff, reduceIte, and_true, true_and, and_false, false_and, and_self, or_true, true_or, qb_or, reduceCtorEq, qbr_True, qbr_False, q10, q01, qwC, ha, qb_t]
      first | exact hQ _ _ ⟨rfl, ri (by rw [sw]; rfl)⟩ | exact hQ _ _ ⟨rfl, ri (by unfold sel8; simp only [sw0, sw1, sw2, sw3, sw4, sw5, sw6, sw7, sw8, if_false])⟩
  · have ha2 : isF S a = false := (Bool.not_eq_true _).mp ha
    refine oX10_file_0 _ _ _ _ _ _ ?_
    simp only [bX10_file_0, qsem, qopt_s, qopt2_s, qev, qxs, Nat.reduceEqDiff, reduceIte, and_true, true_and, and_false, false_and, and_self, or_true, true_or, qb_or, reduceCtorEq, qbr_True, qbr_False, q10, q01, qwC, ha2, qb_f]
    refine kX10_file_5 (zX7_has h1 kF) (rfl) (Nat.le_of_ble_eq_true rfl) (Nat.le_of_ble_eq_true rfl) ⟨Nat.le_of_ble_eq_true rfl, Nat.le_of_ble_eq_true rfl⟩ ?_
    rintro _ _ ⟨rfl, rfl⟩
    refine oX10_file_8 _ _ _ _ _ _ ?_
    simp only [bX10_file_8, qsem, qopt_s, qopt2_s, qev, qxs, Nat.reduceEqDiff, reduceIte, and_true, true_and, and_false, false_and, and_self, or_true, true_or, qb_or, reduceCtorEq, qbr_True, qbr_False, q10, q01, qwC, ha2, qb_f]
    exact hQ _ _ ⟨rfl, ri (by rw [ha2]; rfl)⟩
set_option maxRecDepth 100000 in
set_option maxHeartbeats 4000000 in
theorem zX10_sealed {C M : qC} {r : Nat × Nat × Nat} {S : qS} {H : Nat → Nat → Nat → Bool} {a what : Int32} {b : Bool} (hW : WS S H) (h : Inv C S r H) (hb : what = 6 → inN a (cS S) = true → (b = true ↔ std S a.toNatClampNeg)) : CT mX10_sealed 4 0 0 [.ref 0, .int a, .int what] (wd C M r) (fun r' w' => w' = wd C M r ∧ r' = some (.int (if inN a (cS S) then sel8 what (slV S b a.toNatClampNeg) else -1))) := by
  have h1 := hW.1
  have hN := h1.2.1
  have hcs := h1.2.2.2.2.2.2.1
  obtain ⟨kN, kS, kF, kR, kO, kB, kT, kC, kM, kA, kQ, kK, kU⟩ := h
  have hce := zX8_cell_3 (C := C) (M := M) (r := r) (a := a) (b := what) kS.1 (by omega)
  refine eX10_sealed (AW_gen (fun Q hQ => ?_))
  by_cases hw : what = 6
  · by_cases ha : inN a (cS S) = true
    · obtain ⟨s, hs, rfl⟩ := inN_of (by omega) ha
      have hc := nIcl (show s < 1000 by omega)
      have hb2 := hb hw ha
      rw [hc] at hb2
      rw [ha, if_pos rfl, hc, hw] at hQ
      subst hw
      have hst := zX10_stands (C := C) (M := M) (r := r) h1 hW.2.1 hW.2.2.2.1 hW.2.2.2.2.1 kS kF kR kM kK hs
      rw [← dc_of hb2] at hst
      refine oX10_sealed_0 _ _ _ _ _ _ ?_
      simp only [bX10_sealed_0, qsem, qopt_s, qopt2_s, qev, qxs, Nat.reduceEqDiff, reduceIte, and_true, true_and, and_false, false_and, and_self, or_true, true_or, qb_or, reduceCtorEq, qbr_True, qbr_False, q10, q01, qwC]
      refine qbr_f (Int32.not_lt.mpr (nI_pos' (by omega))) ?_
      refine kX10_sealed_15 (zX8_size_3) (rfl) (Nat.le_of_ble_eq_true rfl) (Nat.le_of_ble_eq_true rfl) ⟨Nat.le_of_ble_eq_true rfl, Nat.le_of_ble_eq_true rfl⟩ ?_
      rintro _ _ ⟨rfl, rfl⟩
      refine oX10_sealed_18 _ _ _ _ _ _ ?_
      simp only [bX10_sealed_18, qsem, qopt_s, qopt2_s, qev, qxs, Nat.reduceEqDiff, reduceIte, and_true, true_and, and_false, false_and, and_self, or_true, true_or, qb_or, reduceCtorEq, qbr_True, qbr_False, q10, q01, qwC, kS.1]
      refine qbr_f (nI_ge hs (by omega)) ?_
      refine kX10_sealed_23 (hst) (rfl) (Nat.le_of_ble_eq_true rfl) (Nat.le_of_ble_eq_true rfl) ⟨Nat.le_of_ble_eq_true rfl, Nat.le_of_ble_eq_true rfl⟩ ?_
      rintro _ _ ⟨rfl, rfl⟩
      simp only [Option.toList_some, List.cons_append, List.nil_append]
      refine kX10_sealed_26 (zX10_bit) (Nat.le_of_ble_eq_true rfl) (Nat.le_of_ble_eq_true rfl) ⟨Nat.le_of_ble_eq_true rfl, Nat.le_of_ble_eq_true rfl⟩ ?_
      rintro _ _ ⟨rfl, rfl⟩
      refine oX10_sealed_29 _ _ _ _ _ _ ?_
      simp only [bX10_sealed_29, qsem, qopt_s, qopt2_s, qev, qxs, Nat.reduceEqDiff, reduceIte, and_true, true_and, and_false, false_and, and_self, or_true, true_or, qb_or, reduceCtorEq, qbr_True, qbr_False, q10, q01, qwC]
      exact hQ _ _ ⟨rfl, rfl⟩
    · have ha2 : inN a (cS S) = false := (Bool.not_eq_true _).mp ha
      rw [ha2, Bool.false_and, if_neg Bool.false_ne_true] at hce
      rw [ha2, if_neg Bool.false_ne_true] at hQ
      have hn := of_decide_eq_false ha2
      have at30 : AW (mX10_sealed, 4, 0, 0, none, Q) 30 [some (.ref 0), some (.int a), some (.int what)] [] (wd C M r) 0 0 := by
        refine oX10_sealed_30 _ _ _ _ _ _ ?_
        simp only [bX10_sealed_30, qsem, qopt_s, qopt2_s, qev, qxs, Nat.reduceEqDiff, reduceIte, and_true, true_and, and_false, false_and, and_self, or_true, true_or, qb_or, reduceCtorEq, qbr_True, qbr_False, q10, q01, qwC]
        refine kX10_sealed_36 (hce) (rfl) (Nat.le_of_ble_eq_true rfl) (Nat.le_of_ble_eq_true rfl) ⟨Nat.le_of_ble_eq_true rfl, Nat.le_of_ble_eq_true rfl⟩ ?_
        rintro _ _ ⟨rfl, rfl⟩
        refine oX10_sealed_39 _ _ _ _ _ _ ?_
        simp only [bX10_sealed_39, qsem, qopt_s, qopt2_s, qev, qxs, Nat.reduceEqDiff, reduceIte, and_true, true_and, and_false, false_and, and_self, or_true, true_or, qb_or, reduceCtorEq, qbr_True, qbr_False, q10, q01, qwC]
        exact hQ _ _ ⟨rfl, rfl⟩
      subst hw
      by_cases hneg : a < 0
      · refine oX10_sealed_0 _ _ _ _ _ _ ?_
        simp only [bX10_sealed_0, qsem, qopt_s, qopt2_s, qev, qxs, Nat.reduceEqDiff, reduceIte, and_true, true_and, and_false, false_and, and_self, or_true, true_or, qb_or, reduceCtorEq, qbr_True, qbr_False, q10, q01, qwC]
        refine qbr_t (hneg) ?_
        exact at30
      · refine oX10_sealed_0 _ _ _ _ _ _ ?_
        simp only [bX10_sealed_0, qsem, qopt_s, qopt2_s, qev, qxs, Nat.reduceEqDiff, reduceIte, and_true, true_and, and_false, false_and, and_self, or_true, true_or, qb_or, reduceCtorEq, qbr_True, qbr_False, q10, q01, qwC]
        refine qbr_f (hneg) ?_
        refine kX10_sealed_15 (zX8_size_3) (rfl) (Nat.le_of_ble_eq_true rfl) (Nat.le_of_ble_eq_true rfl) ⟨Nat.le_of_ble_eq_true rfl, Nat.le_of_ble_eq_true rfl⟩ ?_
        rintro _ _ ⟨rfl, rfl⟩
        refine oX10_sealed_18 _ _ _ _ _ _ ?_
        simp only [bX10_sealed_18, qsem, qopt_s, qopt2_s, qev, qxs, Nat.reduceEqDiff, reduceIte, and_true, true_and, and_false, false_and, and_self, or_true, true_or, qb_or, reduceCtorEq, qbr_True, qbr_False, q10, q01, qwC, kS.1]
        refine qbr_t (Int32.not_lt.mp (fun q => hn ⟨Int32.not_lt.mp hneg, q⟩)) ?_
        exact at30
  · have e : (if (inN a (cS S) && inN what 6) = true then xA C 4 (a.toNatClampNeg * 6 + what.toNatClampNeg) else -1) = (if inN a (cS S) then sel8 what (slV S b a.toNatClampNeg) else -1) := by
      by_cases ha : inN a (cS S) = true
      · obtain ⟨n, hn, rfl⟩ := inN_of (by omega) ha
        rw [ha, if_pos rfl, Bool.true_and, nIcl (show n < 1000 by omega)]
        have e7 : sel8 what (slV S b n) = if inN what 7 then slV S b n what.toNatClampNeg else -1 := sel8_in (by omega) (fun k k1 k2 => by rcases (show k = 7 ∨ k = 8 by omega) with rfl | rfl <;> rfl)
        rw [e7]
        by_cases hw6 : inN what 6 = true
        · obtain ⟨k, hk, rfl⟩ := inN_of (by omega) hw6
          rw [hw6, if_pos rfl, inNi (show k < 7 by omega) (by omega), if_pos rfl, nIcl (show k < 1000 by omega), kS.2 n hn k hk]
          unfold slV
          rw [if_neg (show ¬ k = 6 by omega), if_neg (show ¬ k = 6 by omega)]
        · have hw6' : inN what 6 = false := (Bool.not_eq_true _).mp hw6
          have hw7 : inN what 7 = false := (Bool.not_eq_true _).mp (fun q => by
            obtain ⟨k, hk, rfl⟩ := inN_of (by omega) q
            by_cases e6 : k = 6
            · exact hw (by rw [e6]; rfl)
            · exact hw6 (inNi (by omega) (by omega)))
          rw [hw6', hw7, if_neg Bool.false_ne_true, if_neg Bool.false_ne_true]
      · have ha : inN a (cS S) = false := (Bool.not_eq_true _).mp ha
        rw [ha, Bool.false_and, if_neg Bool.false_ne_true, if_neg Bool.false_ne_true]
    rw [e] at hce
    refine oX10_sealed_0 _ _ _ _ _ _ ?_
    simp only [bX10_sealed_0, qsem, qopt_s, qopt2_s, qev, qxs, Nat.reduceEqDiff, reduceIte, and_true, true_and, and_false, false_and, and_self, or_true, true_or, qb_or, reduceCtorEq, qbr_True, qbr_False, q10, q01, qwC]
    refine qbr_f (hw) ?_
    refine oX10_sealed_30 _ _ _ _ _ _ ?_
    simp only [bX10_sealed_30, qsem, qopt_s, qopt2_s, qev, qxs, Nat.reduceEqDiff, reduceIte, and_true, true_and, and_false, false_and, and_self, or_true, true_or, qb_or, reduceCtorEq, qbr_True, qbr_False, q10, q01, qwC]
    refine kX10_sealed_36 (hce) (rfl) (Nat.le_of_ble_eq_true rfl) (Nat.le_of_ble_eq_true rfl) ⟨Nat.le_of_ble_eq_true rfl, Nat.le_of_ble_eq_true rfl⟩ ?_
    rintro _ _ ⟨rfl, rfl⟩
    refine oX10_sealed_39 _ _ _ _ _ _ ?_
    simp only [bX10_sealed_39, qsem, qopt_s, qopt2_s, qev, qxs, Nat.reduceEqDiff, reduceIte, and_true, true_and, and_false, false_and, and_self, or_true, true_or, qb_or, reduceCtorEq, qbr_True, qbr_False, q10, q01, qwC]
    exact hQ _ _ ⟨rfl, rfl⟩
set_option maxRecDepth 100000 in
set_option maxHeartbeats 4000000 in
theorem zX10_count {C M : qC} {r : Nat × Nat × Nat} {S : qS} {H : Nat → Nat → Nat → Bool} {what : Int32} (hW : WS S H) (h : Inv C S r H) : CT mX10_count 5 0 0 [.ref 0, .int what] (wd C M r) (fun r' w' => w' = wd C M r ∧ r' = some (.int (sel8 what (ctV S)))) := by
  have h1 := hW.1
  obtain ⟨kN, kS, kF, kR, kO, kB, kT, kC, kM, kA, kQ, kK, kU⟩ := h
  have hms := zX10_manyStanding (C := C) (M := M) (r := r) (a := -1) h1 hW.2.1 hW.2.2.2.1 hW.2.2.2.2.1 kS kF kR kM kK
  have e8 : fb_ct (fun s => dc (((-1 : Int32) = -1 ∨ S.2.1 139 (sln S s) = -1) ∧ std S s)) (cS S) = fb_ct (fun s => dc (std S s)) (cS S) := fb_ct_cong (fun s hs => dc_c ⟨fun q => q.2, fun q => ⟨Or.inl rfl, q⟩⟩)
  rw [e8] at hms
  obtain ⟨a0, a1, a2, a3, a4, a5, a6⟩ := h1.1
  refine eX10_count (AW_gen (fun Q hQ => ?_))
  refine oX10_count_0 _ _ _ _ _ _ ?_
  simp only [bX10_count_0, qsem, qopt_s, qopt2_s, qev, qxs, Nat.reduceEqDiff, reduceIte, and_true, true_and, and_false, false_and, and_self, or_true, true_or, qb_or, reduceCtorEq, qbr_True, qbr_False, q10, q01, qwC, kN.1, kU.1, kS.1]
  refine uX10_count_1 (fun sw => ?_) (fun sw => ?_) (fun sw => ?_) (fun sw => ?_) (fun sw => ?_) (fun sw => ?_) (fun sw => ?_) (fun sw => ?_) (fun sw => ?_) (fun sw0 sw1 sw2 sw3 sw4 sw5 sw6 sw7 sw8 => ?_)
  · refine oX10_count_52 _ _ _ _ _ _ ?_
    simp only [bX10_count_52, qsem, qopt_s, qopt2_s, qev, qxs, Nat.reduceEqDiff, reduceIte, and_true, true_and, and_false, false_and, and_self, or_true, true_or, qb_or, reduceCtorEq, qbr_True, qbr_False, q10, q01, qwC, kN.1, kU.1, kS.1]
    refine kX10_count_56 (zX8_size_1) (rfl) (Nat.le_of_ble_eq_true rfl) (Nat.le_of_ble_eq_true rfl) ⟨Nat.le_of_ble_eq_true rfl, Nat.le_of_ble_eq_true rfl⟩ ?_
    rintro _ _ ⟨rfl, rfl⟩
    refine oX10_count_59 _ _ _ _ _ _ ?_
    simp only [bX10_count_59, qsem, qopt_s, qopt2_s, qev, qxs, Nat.reduceEqDiff, reduceIte, and_true, true_and, and_false, false_and, and_self, or_true, true_or, qb_or, reduceCtorEq, qbr_True, qbr_False, q10, q01, qwC, kN.1, kU.1, kS.1]
    first | exact hQ _ _ ⟨rfl, ri (by rw [sw]; rfl)⟩ | exact hQ _ _ ⟨rfl, ri (by rw [sw]; exact a0.symm)⟩ | exact hQ _ _ ⟨rfl, ri (by rw [sw]; exact a1.symm)⟩ | exact hQ _ _ ⟨rfl, ri (by rw [sw]; exact a2.symm)⟩ | exact hQ _ _ ⟨rfl, ri (by rw [sw]; exact a4.symm)⟩ | exact hQ _ _ ⟨rfl, ri (by rw [sw]; exact a5.symm)⟩ | exact hQ _ _ ⟨rfl, ri (by rw [sw]; exact a6.symm)⟩ | exact hQ _ _ ⟨rfl, ri (by unfold sel8; simp only [sw0, sw1, sw2, sw3, sw4, sw5, sw6, sw7, sw8, if_false])⟩
  · refine oX10_count_60 _ _ _ _ _ _ ?_
    simp only [bX10_count_60, qsem, qopt_s, qopt2_s, qev, qxs, Nat.reduceEqDiff, reduceIte, and_true, true_and, and_false, false_and, and_self, or_true, true_or, qb_or, reduceCtorEq, qbr_True, qbr_False, q10, q01, qwC, kN.1, kU.1, kS.1]
    refine kX10_count_64 (zX7_size kF) (rfl) (Nat.le_of_ble_eq_true rfl) (Nat.le_of_ble_eq_true rfl) ⟨Nat.le_of_ble_eq_true rfl, Nat.le_of_ble_eq_true rfl⟩ ?_
    rintro _ _ ⟨rfl, rfl⟩
    refine oX10_count_67 _ _ _ _ _ _ ?_
    simp only [bX10_count_67, qsem, qopt_s, qopt2_s, qev, qxs, Nat.reduceEqDiff, reduceIte, and_true, true_and, and_false, false_and, and_self, or_true, true_or, qb_or, reduceCtorEq, qbr_True, qbr_False, q10, q01, qwC, kN.1, kU.1, kS.1]
    first | exact hQ _ _ ⟨rfl, ri (by rw [sw]; rfl)⟩ | exact hQ _ _ ⟨rfl, ri (by rw [sw]; exact a0.symm)⟩ | exact hQ _ _ ⟨rfl, ri (by rw [sw]; exact a1.symm)⟩ | exact hQ _ _ ⟨rfl, ri (by rw [sw]; exact a2.symm)⟩ | exact hQ _ _ ⟨rfl, ri (by rw [sw]; exact a4.symm)⟩ | exact hQ _ _ ⟨rfl, ri (by rw [sw]; exact a5.symm)⟩ | exact hQ _ _ ⟨rfl, ri (by rw [sw]; exact a6.symm)⟩ | exact hQ _ _ ⟨rfl, ri (by unfold sel8; simp only [sw0, sw1, sw2, sw3, sw4, sw5, sw6, sw7, sw8, if_false])⟩
  · refine oX10_count_68 _ _ _ _ _ _ ?_
    simp only [bX10_count_68, qsem, qopt_s, qopt2_s, qev, qxs, Nat.reduceEqDiff, reduceIte, and_true, true_and, and_false, false_and, and_self, or_true, true_or, qb_or, reduceCtorEq, qbr_True, qbr_False, q10, q01, qwC, kN.1, kU.1, kS.1]
    first | exact hQ _ _ ⟨rfl, ri (by rw [sw]; rfl)⟩ | exact hQ _ _ ⟨rfl, ri (by rw [sw]; exact a0.symm)⟩ | exact hQ _ _ ⟨rfl, ri (by rw [sw]; exact a1.symm)⟩ | exact hQ _ _ ⟨rfl, ri (by rw [sw]; exact a2.symm)⟩ | exact hQ _ _ ⟨rfl, ri (by rw [sw]; exact a4.symm)⟩ | exact hQ _ _ ⟨rfl, ri (by rw [sw]; exact a5.symm)⟩ | exact hQ _ _ ⟨rfl, ri (by rw [sw]; exact a6.symm)⟩ | exact hQ _ _ ⟨rfl, ri (by unfold sel8; simp only [sw0, sw1, sw2, sw3, sw4, sw5, sw6, sw7, sw8, if_false])⟩
  · refine oX10_count_73 _ _ _ _ _ _ ?_
    simp only [bX10_count_73, qsem, qopt_s, qopt2_s, qev, qxs, Nat.reduceEqDiff, reduceIte, and_true, true_and, and_false, false_and, and_self, or_true, true_or, qb_or, reduceCtorEq, qbr_True, qbr_False, q10, q01, qwC, kN.1, kU.1, kS.1]
    refine kX10_count_77 (zX8_size_3) (rfl) (Nat.le_of_ble_eq_true rfl) (Nat.le_of_ble_eq_true rfl) ⟨Nat.le_of_ble_eq_true rfl, Nat.le_of_ble_eq_true rfl⟩ ?_
    rintro _ _ ⟨rfl, rfl⟩
    refine oX10_count_80 _ _ _ _ _ _ ?_
    simp only [bX10_count_80, qsem, qopt_s, qopt2_s, qev, qxs, Nat.reduceEqDiff, reduceIte, and_true, true_and, and_false, false_and, and_self, or_true, true_or, qb_or, reduceCtorEq, qbr_True, qbr_False, q10, q01, qwC, kN.1, kU.1, kS.1]
    first | exact hQ _ _ ⟨rfl, ri (by rw [sw]; rfl)⟩ | exact hQ _ _ ⟨rfl, ri (by rw [sw]; exact a0.symm)⟩ | exact hQ _ _ ⟨rfl, ri (by rw [sw]; exact a1.symm)⟩ | exact hQ _ _ ⟨rfl, ri (by rw [sw]; exact a2.symm)⟩ | exact hQ _ _ ⟨rfl, ri (by rw [sw]; exact a4.symm)⟩ | exact hQ _ _ ⟨rfl, ri (by rw [sw]; exact a5.symm)⟩ | exact hQ _ _ ⟨rfl, ri (by rw [sw]; exact a6.symm)⟩ | exact hQ _ _ ⟨rfl, ri (by unfold sel8; simp only [sw0, sw1, sw2, sw3, sw4, sw5, sw6, sw7, sw8, if_false])⟩
  · refine oX10_count_81 _ _ _ _ _ _ ?_
    simp only [bX10_count_81, qsem, qopt_s, qopt2_s, qev, qxs, Nat.reduceEqDiff, reduceIte, and_true, true_and, and_false, false_and, and_self, or_true, true_or, qb_or, reduceCtorEq, qbr_True, qbr_False, q10, q01, qwC, kN.1, kU.1, kS.1]
    refine kX10_count_85 (zX4_size kQ) (rfl) (Nat.le_of_ble_eq_true rfl) (Nat.le_of_ble_eq_true rfl) ⟨Nat.le_of_ble_eq_true rfl, Nat.le_of_ble_eq_true rfl⟩ ?_
    rintro _ _ ⟨rfl, rfl⟩
    refine oX10_count_88 _ _ _ _ _ _ ?_
    simp only [bX10_count_88, qsem, qopt_s, qopt2_s, qev, qxs, Nat.reduceEqDiff, reduceIte, and_true, true_and, and_false, false_and, and_self, or_true, true_or, qb_or, reduceCtorEq, qbr_True, qbr_False, q10, q01, qwC, kN.1, kU.1, kS.1]
    first | exact hQ _ _ ⟨rfl, ri (by rw [sw]; rfl)⟩ | exact hQ _ _ ⟨rfl, ri (by rw [sw]; exact a0.symm)⟩ | exact hQ _ _ ⟨rfl, ri (by rw [sw]; exact a1.symm)⟩ | exact hQ _ _ ⟨rfl, ri (by rw [sw]; exact a2.symm)⟩ | exact hQ _ _ ⟨rfl, ri (by rw [sw]; exact a4.symm)⟩ | exact hQ _ _ ⟨rfl, ri (by rw [sw]; exact a5.symm)⟩ | exact hQ _ _ ⟨rfl, ri (by rw [sw]; exact a6.symm)⟩ | exact hQ _ _ ⟨rfl, ri (by unfold sel8; simp only [sw0, sw1, sw2, sw3, sw4, sw5, sw6, sw7, sw8, if_false])⟩
  · refine oX10_count_89 _ _ _ _ _ _ ?_
    simp only [bX10_count_89, qsem, qopt_s, qopt2_s, qev, qxs, Nat.reduceEqDiff, reduceIte, and_true, true_and, and_false, false_and, and_self, or_true, true_or, qb_or, reduceCtorEq, qbr_True, qbr_False, q10, q01, qwC, kN.1, kU.1, kS.1]
    refine kX10_count_93 (zX9_size kA) (rfl) (Nat.le_of_ble_eq_true rfl) (Nat.le_of_ble_eq_true rfl) ⟨Nat.le_of_ble_eq_true rfl, Nat.le_of_ble_eq_true rfl⟩ ?_
    rintro _ _ ⟨rfl, rfl⟩
    refine oX10_count_96 _ _ _ _ _ _ ?_
    simp only [bX10_count_96, qsem, qopt_s, qopt2_s, qev, qxs, Nat.reduceEqDiff, reduceIte, and_true, true_and, and_false, false_and, and_self, or_true, true_or, qb_or, reduceCtorEq, qbr_True, qbr_False, q10, q01, qwC, kN.1, kU.1, kS.1]
    first | exact hQ _ _ ⟨rfl, ri (by rw [sw]; rfl)⟩ | exact hQ _ _ ⟨rfl, ri (by rw [sw]; exact a0.symm)⟩ | exact hQ _ _ ⟨rfl, ri (by rw [sw]; exact a1.symm)⟩ | exact hQ _ _ ⟨rfl, ri (by rw [sw]; exact a2.symm)⟩ | exact hQ _ _ ⟨rfl, ri (by rw [sw]; exact a4.symm)⟩ | exact hQ _ _ ⟨rfl, ri (by rw [sw]; exact a5.symm)⟩ | exact hQ _ _ ⟨rfl, ri (by rw [sw]; exact a6.symm)⟩ | exact hQ _ _ ⟨rfl, ri (by unfold sel8; simp only [sw0, sw1, sw2, sw3, sw4, sw5, sw6, sw7, sw8, if_false])⟩
  · refine oX10_count_97 _ _ _ _ _ _ ?_
    simp only [bX10_count_97, qsem, qopt_s, qopt2_s, qev, qxs, Nat.reduceEqDiff, reduceIte, and_true, true_and, and_false, false_and, and_self, or_true, true_or, qb_or, reduceCtorEq, qbr_True, qbr_False, q10, q01, qwC, kN.1, kU.1, kS.1]
    refine kX10_count_99 (hms) (rfl) (Nat.le_of_ble_eq_true rfl) (Nat.le_of_ble_eq_true rfl) ⟨Nat.le_of_ble_eq_true rfl, Nat.le_of_ble_eq_true rfl⟩ ?_
    rintro _ _ ⟨rfl, rfl⟩
    refine oX10_count_102 _ _ _ _ _ _ ?_
    simp only [bX10_count_102, qsem, qopt_s, qopt2_s, qev, qxs, Nat.reduceEqDiff, reduceIte, and_true, true_and, and_false, false_and, and_self, or_true, true_or, qb_or, reduceCtorEq, qbr_True, qbr_False, q10, q01, qwC, kN.1, kU.1, kS.1]
    first | exact hQ _ _ ⟨rfl, ri (by rw [sw]; rfl)⟩ | exact hQ _ _ ⟨rfl, ri (by rw [sw]; exact a0.symm)⟩ | exact hQ _ _ ⟨rfl, ri (by rw [sw]; exact a1.symm)⟩ | exact hQ _ _ ⟨rfl, ri (by rw [sw]; exact a2.symm)⟩ | exact hQ _ _ ⟨rfl, ri (by rw [sw]; exact a4.symm)⟩ | exact hQ _ _ ⟨rfl, ri (by rw [sw]; exact a5.symm)⟩ | exact hQ _ _ ⟨rfl, ri (by rw [sw]; exact a6.symm)⟩ | exact hQ _ _ ⟨rfl, ri (by unfold sel8; simp only [sw0, sw1, sw2, sw3, sw4, sw5, sw6, sw7, sw8, if_false])⟩
  · refine oX10_count_103 _ _ _ _ _ _ ?_
    simp only [bX10_count_103, qsem, qopt_s, qopt2_s, qev, qxs, Nat.reduceEqDiff, reduceIte, and_true, true_and, and_false, false_and, and_self, or_true, true_or, qb_or, reduceCtorEq, qbr_True, qbr_False, q10, q01, qwC, kN.1, kU.1, kS.1]
    refine kX10_count_104 (zX10_manyCalledBack h1 hW.2.1 hW.2.2.2.2.1 kF kR kM) (rfl) (Nat.le_of_ble_eq_true rfl) (Nat.le_of_ble_eq_true rfl) ⟨Nat.le_of_ble_eq_true rfl, Nat.le_of_ble_eq_true rfl⟩ ?_
    rintro _ _ ⟨rfl, rfl⟩
    refine oX10_count_107 _ _ _ _ _ _ ?_
    simp only [bX10_count_107, qsem, qopt_s, qopt2_s, qev, qxs, Nat.reduceEqDiff, reduceIte, and_true, true_and, and_false, false_and, and_self, or_true, true_or, qb_or, reduceCtorEq, qbr_True, qbr_False, q10, q01, qwC, kN.1, kU.1, kS.1]
    first | exact hQ _ _ ⟨rfl, ri (by rw [sw]; rfl)⟩ | exact hQ _ _ ⟨rfl, ri (by rw [sw]; exact a0.symm)⟩ | exact hQ _ _ ⟨rfl, ri (by rw [sw]; exact a1.symm)⟩ | exact hQ _ _ ⟨rfl, ri (by rw [sw]; exact a2.symm)⟩ | exact hQ _ _ ⟨rfl, ri (by rw [sw]; exact a4.symm)⟩ | exact hQ _ _ ⟨rfl, ri (by rw [sw]; exact a5.symm)⟩ | exact hQ _ _ ⟨rfl, ri (by rw [sw]; exact a6.symm)⟩ | exact hQ _ _ ⟨rfl, ri (by unfold sel8; simp only [sw0, sw1, sw2, sw3, sw4, sw5, sw6, sw7, sw8, if_false])⟩
  · refine oX10_count_108 _ _ _ _ _ _ ?_
    simp only [bX10_count_108, qsem, qopt_s, qopt2_s, qev, qxs, Nat.reduceEqDiff, reduceIte, and_true, true_and, and_false, false_and, and_self, or_true, true_or, qb_or, reduceCtorEq, qbr_True, qbr_False, q10, q01, qwC, kN.1, kU.1, kS.1]
    refine kX10_count_112 (zX4_first h1 kQ) (rfl) (Nat.le_of_ble_eq_true rfl) (Nat.le_of_ble_eq_true rfl) ⟨Nat.le_of_ble_eq_true rfl, Nat.le_of_ble_eq_true rfl⟩ ?_
    rintro _ _ ⟨rfl, rfl⟩
    refine oX10_count_115 _ _ _ _ _ _ ?_
    simp only [bX10_count_115, qsem, qopt_s, qopt2_s, qev, qxs, Nat.reduceEqDiff, reduceIte, and_true, true_and, and_false, false_and, and_self, or_true, true_or, qb_or, reduceCtorEq, qbr_True, qbr_False, q10, q01, qwC, kN.1, kU.1, kS.1]
    first | exact hQ _ _ ⟨rfl, ri (by rw [sw]; rfl)⟩ | exact hQ _ _ ⟨rfl, ri (by rw [sw]; exact a0.symm)⟩ | exact hQ _ _ ⟨rfl, ri (by rw [sw]; exact a1.symm)⟩ | exact hQ _ _ ⟨rfl, ri (by rw [sw]; exact a2.symm)⟩ | exact hQ _ _ ⟨rfl, ri (by rw [sw]; exact a4.symm)⟩ | exact hQ _ _ ⟨rfl, ri (by rw [sw]; exact a5.symm)⟩ | exact hQ _ _ ⟨rfl, ri (by rw [sw]; exact a6.symm)⟩ | exact hQ _ _ ⟨rfl, ri (by unfold sel8; simp only [sw0, sw1, sw2, sw3, sw4, sw5, sw6, sw7, sw8, if_false])⟩
  · refine oX10_count_116 _ _ _ _ _ _ ?_
    simp only [bX10_count_116, qsem, qopt_s, qopt2_s, qev, qxs, Nat.reduceEqDiff, reduceIte, and_true, true_and, and_false, false_and, and_self, or_true, true_or, qb_or, reduceCtorEq, qbr_True, qbr_False, q10, q01, qwC, kN.1, kU.1, kS.1]
    first | exact hQ _ _ ⟨rfl, ri (by rw [sw]; rfl)⟩ | exact hQ _ _ ⟨rfl, ri (by rw [sw]; exact a0.symm)⟩ | exact hQ _ _ ⟨rfl, ri (by rw [sw]; exact a1.symm)⟩ | exact hQ _ _ ⟨rfl, ri (by rw [sw]; exact a2.symm)⟩ | exact hQ _ _ ⟨rfl, ri (by rw [sw]; exact a4.symm)⟩ | exact hQ _ _ ⟨rfl, ri (by rw [sw]; exact a5.symm)⟩ | exact hQ _ _ ⟨rfl, ri (by rw [sw]; exact a6.symm)⟩ | exact hQ _ _ ⟨rfl, ri (by unfold sel8; simp only [sw0, sw1, sw2, sw3, sw4, sw5, sw6, sw7, sw8, if_false])⟩
/-! feed, end -/
theorem tt_tt (S : qS) (f g : Nat → Int32) (v v' : Int32) : sI (sA (sI (sA S 160 f) 32 v) 160 g) 32 v' = sI (sA S 160 g) 32 v' := by
  refine Prod.ext ?_ (Prod.ext ?_ rfl)
  · funext k
    show (if k = 32 then v' else if k = 32 then v else S.1 k) = if k = 32 then v' else S.1 k
    split <;> rfl
  · funext p
    show (if p = 160 then g else if p = 160 then f else S.2.1 p) = if p = 160 then g else S.2.1 p
    split <;> rfl
theorem fdS_f (S : qS) (x : Int32) : ∀ j, ∃ f v, fdS S x j = sI (sA S 160 f) 32 v
  | 0 => ⟨S.2.1 160, S.1 32, by
      refine Prod.ext ?_ (Prod.ext ?_ rfl)
      · funext k
        show S.1 k = if k = 32 then S.1 32 else S.1 k
        split
        · rename_i h; rw [h]
        · rfl
      · funext p
        show S.2.1 p = if p = 160 then S.2.1 160 else S.2.1 p
        split
        · rename_i h; rw [h]
        · rfl⟩
  | j + 1 => by
    obtain ⟨f, v, e⟩ := fdS_f S x j
    show ∃ f v, (if byB x (3 - j) then psh (fdS S x j) (byt x (3 - j)) else fdS S x j) = _
    by_cases hb : byB x (3 - j) = true
    · rw [if_pos hb, e]
      exact ⟨_, _, tt_tt S f _ v _⟩
    · rw [if_neg hb]
      exact ⟨f, v, e⟩
theorem Inv_tape {C : qC} {S : qS} {r : Nat × Nat × Nat} {H : Nat → Nat → Nat → Bool} {f g : Nat → Int32} {v u : Int32} (hr : wR r) (h : Inv C S r H) (hA : iA (tpC C f v) (sI (sA S 160 g) 32 u)) : Inv (tpC C f v) (sI (sA S 160 g) 32 u) r H := by
  obtain ⟨kN, kS, kF, kR, kO, kB, kT, kC, kM, kA, kQ, kK, kU⟩ := h
  exact ⟨kN, kS, kF, kR, kO, iB_S (S := S) rfl rfl rfl rfl rfl kB, iT_S (S := S) rfl rfl rfl rfl rfl kT, kC, kM, hA, kQ, kK, iU_cg (C := C) (S := S) rfl (by unfold tpC; simp only [qxs]; rw [if_neg (rp hr (by omega))]) rfl kU⟩
theorem byt_m1 (x : Int32) (k : Nat) : ¬ byt x k = -1 := by
  unfold byt
  obtain ⟨j, hj, e⟩ := pk_andE (x >>> (nI (8 * k) &&& 31)) (m := 255) 8 (by decide)
  rw [e]
  exact i_nm1 (by omega)
theorem W9_fd {S : qS} {x : Int32} (h1 : W1 S) (h9 : W9 S) : ∀ j, j ≤ 4 → W9 (fdS S x j)
  | 0, _ => h9
  | j + 1, hj => by
    have ih := W9_fd (x := x) h1 h9 j (by omega)
    have hT1 := h1.2.2.2.2.2.2.2
    obtain ⟨t1, t2⟩ := fdS_T (S := S) (x := x) h1.1.2.2.2.2.2.2 hT1 j (by omega)
    have hle := fb_ct_le (fun i => byB x (3 - i)) j
    show W9 (if byB x (3 - j) then psh (fdS S x j) (byt x (3 - j)) else fdS S x j)
    by_cases hb : byB x (3 - j) = true
    · rw [if_pos hb]
      intro i hi
      rw [(psh_T t1 (by omega)).2] at hi
      show ¬ upd ((fdS S x j).2.1 160) (cT (fdS S x j)) (byt x (3 - j)) i = -1
      by_cases e : i = cT (fdS S x j)
      · rw [e, pk_us]; exact byt_m1 x _
      · rw [pk_un e]; exact ih i (by omega)
    · rw [if_neg hb]; exact ih
theorem WS_fd {S : qS} {H : Nat → Nat → Nat → Bool} {x : Int32} (hW : WS S H) (hle : cT S + fb_ct (fun k => byB x k) 4 ≤ 100) : WS (fdS S x 4) H := by
  obtain ⟨w1, w2, w3, w4, w5, w6, w7, w8, w9, w10, w11⟩ := hW
  have m9 := W9_fd (x := x) w1 w9 4 (by omega)
  obtain ⟨t1, t2⟩ := fdS_T (S := S) (x := x) w1.1.2.2.2.2.2.2 w1.2.2.2.2.2.2.2 4 (by omega)
  rw [byt_ct] at t2
  obtain ⟨f, v, e⟩ := fdS_f S x 4
  rw [e] at m9 t1 t2 ⊢
  obtain ⟨⟨a0, a1, a2, a3, a4, a5, a6⟩, b1, b2, b3, b4, b5, b6, b7⟩ := w1
  exact ⟨⟨⟨a0, a1, a2, a3, a4, a5, t1⟩, b1, b2, b3, b4, b5, b6, by rw [t2]; exact hle⟩, w2, w3, w4, w5, w6, w7, w8, m9, w10, w11⟩
set_option maxRecDepth 100000 in
set_option maxHeartbeats 4000000 in
theorem zX10_feed {C M : qC} {r : Nat × Nat × Nat} {S : qS} {H : Nat → Nat → Nat → Bool} {x : Int32} (hr : wR r) (hW : WS S H) (h : Inv C S r H) : CT mX10_feed 2 0 0 [.ref 0, .int x] (wd C M r) (fun r' w' => ∃ C', w' = wd C' M r ∧ ((100 < cT S + fb_ct (fun k => byB x k) 4 ∧ r' = some (.int (-1)) ∧ Inv C' S r H) ∨ (cT S + fb_ct (fun k => byB x k) 4 ≤ 100 ∧ r' = some (.int (nI (cT S + fb_ct (fun k => byB x k) 4))) ∧ Inv C' (fdS S x 4) r H ∧ WS (fdS S x 4) H))) := by
  refine eX10_feed (AW_gen (fun Q hQ => ?_))
  refine oX10_feed_0 _ _ _ _ _ _ ?_
  simp only [bX10_feed_0, qsem, qopt_s, qopt2_s, qev, qxs, Nat.reduceEqDiff, reduceIte, and_true, true_and, and_false, false_and, and_self, or_true, true_or, qb_or, reduceCtorEq, qbr_True, qbr_False, q10, q01, qwC]
  refine kX10_feed_5 (zX9_add hW.1 h.2.2.2.2.2.2.2.2.2.1) (rfl) (Nat.le_of_ble_eq_true rfl) (Nat.le_of_ble_eq_true rfl) ⟨Nat.le_of_ble_eq_true rfl, Nat.le_of_ble_eq_true rfl⟩ ?_
  rintro _ _ (⟨hno, rfl, rfl⟩ | ⟨hok, rfl, f, v, rfl, hA⟩)
  all_goals refine oX10_feed_8 _ _ _ _ _ _ ?_
  all_goals simp only [bX10_feed_8, qsem, qev, Option.toList_some, List.cons_append, List.nil_append]
  · exact hQ _ _ ⟨C, rfl, Or.inl ⟨hno, rfl, h⟩⟩
  · obtain ⟨g, u, e⟩ := fdS_f S x 4
    refine hQ _ _ ⟨_, rfl, Or.inr ⟨hok, rfl, ?_, WS_fd hW hok⟩⟩
    rw [e] at hA ⊢
    exact Inv_tape hr h hA
set_option maxRecDepth 100000 in
set_option maxHeartbeats 4000000 in
theorem zX10_end {C M : qC} {r : Nat × Nat × Nat} {S : qS} {H : Nat → Nat → Nat → Bool} {n : Int32} (hr : wR r) (hW : WS S H) (h : Inv C S r H) : CT mX10_end 1 0 0 [.ref 0, .int n] (wd C M r) (fun r' w' => ∃ C', w' = wd C' M r ∧ ((¬ (0 ≤ n ∧ n ≤ S.1 32) ∧ r' = some (.int 0) ∧ Inv C' S r H) ∨ ((0 ≤ n ∧ n ≤ S.1 32) ∧ r' = some (.int 1) ∧ Inv C' (sI S 32 n) r H ∧ WS (sI S 32 n) H))) := by
  have hT1 := hW.1.2.2.2.2.2.2.2
  have h32 := hW.1.1.2.2.2.2.2.2
  refine eX10_end (AW_gen (fun Q hQ => ?_))
  refine oX10_end_0 _ _ _ _ _ _ ?_
  simp only [bX10_end_0, qsem, qopt_s, qopt2_s, qev, qxs, Nat.reduceEqDiff, reduceIte, and_true, true_and, and_false, false_and, and_self, or_true, true_or, qb_or, reduceCtorEq, qbr_True, qbr_False, q10, q01, qwC]
  refine kX10_end_5 (zX9_cut hW.1 h.2.2.2.2.2.2.2.2.2.1) (rfl) (Nat.le_of_ble_eq_true rfl) (Nat.le_of_ble_eq_true rfl) ⟨Nat.le_of_ble_eq_true rfl, Nat.le_of_ble_eq_true rfl⟩ ?_
  rintro _ _ (⟨hno, rfl, rfl⟩ | ⟨hok, rfl, rfl⟩)
  all_goals refine oX10_end_8 _ _ _ _ _ _ ?_
  all_goals simp only [bX10_end_8, qsem, qev, Option.toList_some, List.cons_append, List.nil_append, true_or, or_true, true_and]
  · exact hQ _ _ ⟨C, rfl, Or.inl ⟨hno, rfl, h⟩⟩
  · obtain ⟨m, hm, rfl⟩ := i_of hok.1
    have hle : m ≤ cT S := by have := hok.2; rw [h32] at this; exact (nI_leI hm (by omega)).mp this
    have ecT : cT (sI S 32 (nI m)) = m := by show (nI m).toNatClampNeg = m; exact nI_clamp hm
    obtain ⟨kN, kS, kF, kR, kO, kB, kT, kC, kM, kA, kQ, kK, kU⟩ := h
    refine hQ _ _ ⟨_, rfl, Or.inr ⟨hok, rfl, ⟨kN, kS, kF, kR, kO, iB_S (S := S) rfl rfl rfl rfl rfl kB, iT_S (S := S) rfl rfl rfl rfl rfl kT, kC, kM, ⟨by rw [ecT]; rfl, fun i hi => by rw [ecT] at hi; exact kA.2 i (by omega)⟩, kQ, kK, kU⟩, ?_⟩⟩
    obtain ⟨w1, w2, w3, w4, w5, w6, w7, w8, w9, w10, w11⟩ := hW
    obtain ⟨⟨a0, a1, a2, a3, a4, a5, a6⟩, b1, b2, b3, b4, b5, b6, b7⟩ := w1
    exact ⟨⟨⟨a0, a1, a2, a3, a4, a5, by rw [ecT]; rfl⟩, b1, b2, b3, b4, b5, b6, by rw [ecT]; omega⟩, w2, w3, w4, w5, w6, w7, w8, fun i hi => by rw [ecT] at hi; exact w9 i (by omega), w10, w11⟩


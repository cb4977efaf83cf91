set_option maxRecDepth 100000 in
set_option maxHeartbeats 4000000 in
theorem zX11_part_of {C : qC} {r : Nat × Nat × Nat} {S : qS} {d : Nat} (h1 : W1 S) (hd : d ≤ 8) (hU : uC C r S mX11_unit (SU d) (fun _ => True) (1 + 3 * (8 - d)) d) : uC C r S mX11_part (SU d) (yP S) (2 + 3 * (8 - d)) d := by
  intro M p s cs lt sg ss hS hp hpL hs
  have hT1 := h1.2.2.2.2.2.2.2
  refine eX11_part (AW_gen (fun Q hQ => ?_))
  have bad : ∀ (M1 : qC) (p1 s1 e : Nat) (cs1 : Nat → Int32), pj M1 = S → pS M1 p1 (nI e) d s1 cs1 → p1 ≤ cT S + (8 - d) → s1 + 2 * p ≤ 2 * p1 + s → (∀ i, i < s → cs1 i = cs i) → s ≤ s1 → flt S (0, d, lt, sg, ss) p e → AW (mX11_part, 2 + 3 * (8 - d), 0, 0, none, Q) 4 [some (.ref 136)] [] (wd C M1 r) 0 0 := by
    intro M1 p1 s1 e cs1 hS1 hp1 hb1 hs1 hc1 hss hf
    have he := flt_le hf
    refine oX11_part_4 _ _ _ _ _ _ ?_
    simp only [bX11_part_4, qsem, qopt_s, qopt2_s, qev, qxs, Nat.reduceEqDiff, reduceIte, and_true, true_and, and_false, false_and, and_self, or_true, true_or, qb_or, reduceCtorEq, qbr_True, qbr_False, q10, q01, qwM, hp1.2.1]
    refine qbr_f ((i_nm1 (by omega))) ?_
    refine oX11_part_43 _ _ _ _ _ _ ?_
    simp only [bX11_part_43, qsem, qopt_s, qopt2_s, qev, qxs, Nat.reduceEqDiff, reduceIte, and_true, true_and, and_false, false_and, and_self, or_true, true_or, qb_or, reduceCtorEq, qbr_True, qbr_False, q10, q01, qwM, hp1.2.1]
    exact hQ _ _ ⟨M1, rfl, rfl, hS1, p1, nI e, s1, cs1, hp1, hb1, hs1, hc1, Or.inr ⟨hss, e, rfl, hf⟩⟩
  have loop : ∀ (k : Nat) (M1 : qC) (p1 s1 : Nat) (cs1 : Nat → Int32), cT S - p1 < k → pj M1 = S → pS M1 p1 (-1) d s1 cs1 → p1 ≤ cT S → s1 + 2 * p ≤ 2 * p1 + s → (∀ i, i < s → cs1 i = cs i) → (∃ st' lt' sg' ss' φ, RN (S.2.1 160) (0, d, lt, sg, ss) p (st', d, lt', sg', ss' ++ ss) p1 ∧ aft S p1 st' ∧ CD cs1 s s1 φ ∧ SU d ss' φ) → AW (mX11_part, 2 + 3 * (8 - d), 0, 0, none, Q) 4 [some (.ref 136)] [] (wd C M1 r) 0 0 := by
    intro k
    induction k with
    | zero => intro M1 p1 s1 cs1 hk; omega
    | succ k ih =>
      intro M1 p1 s1 cs1 hk hS1 hp1 hp1L hs1 hc1 hg
      obtain ⟨st', lt', sg', ss', φ, hrn, haf, hcd, hsu⟩ := hg
      have h4 := hcd.1
      have hq2 := skn_top hp1L
      have hq3 := skn_le S p1
      have hno := skn_no S p1
      obtain ⟨st2, haf2, hrn2⟩ := aft_skip (d := d) (lt := lt') (sg := sg') (ss := ss' ++ ss) haf
      have hr2 := RN_tr hrn hrn2
      have more : ∀ M2 : qC, pj M2 = S → pS M2 (skn S p1) (-1) d s1 cs1 → byA S (skn S p1) = 38 → AW (mX11_part, 2 + 3 * (8 - d), 0, 0, none, Q) 32 [some (.ref 136)] [.ref 136] (wd C (yI M2 136 33 (nI (skn S p1 + 1))) r) 0 0 := by
        intro M2 hS2 hp2 hx
        have hlt : skn S p1 < cT S := byA_lt hx (by decide)
        have hr3 : RN (S.2.1 160) (0, d, lt, sg, ss) p (0, d, lt', sg', 38 :: (ss' ++ ss)) (skn S p1 + 1) := RN_tr hr2 (RN_1 (by rw [← byA_in hlt, aft_tk haf2 rfl hno, hx, if_neg (fun q => absurd q.1 (by decide)), if_pos rfl]))
        refine kX11_part_32 (hU _ (skn S p1 + 1) s1 cs1 lt' sg' (38 :: (ss' ++ ss)) (by simp only [pjs]; exact hS2) (pS_at hp2) (by omega) (by omega)) rfl (Nat.le_of_ble_eq_true rfl) (show 1 + 3 * (8 - d) + 1 ≤ 2 + 3 * (8 - d) by omega) ⟨Nat.le_of_ble_eq_true rfl, Nat.le_of_ble_eq_true rfl⟩ ?_
        rintro _ _ ⟨M3, rfl, rfl, hS3, p3, w3, s3, cs3, hp3, hb3, hs3, hc3, hcase⟩
        have hcs : ∀ i, i < s1 → upd cs3 s3 1 i = cs1 i ∨ s3 < s1 := fun i hi => by
          by_cases e : s3 < s1
          · exact Or.inr e
          · refine Or.inl ?_
            unfold upd
            rw [if_neg (by omega)]
            exact hc3 i hi
        rcases hcase with ⟨rfl, hpt, -, st3, lt3, sg3, ss3, ψ, hrn3, haf3, hcd3, hsu3⟩ | ⟨hss, e, rfl, hf⟩
        · have h43 := hcd3.1
          have hle := RN_le hrn3
          have hcs1 : ∀ i, i < s1 → upd cs3 s3 1 i = cs1 i := fun i hi => (hcs i hi).elim id (fun q => by omega)
          refine oX11_part_35 _ _ _ _ _ _ ?_
          simp only [bX11_part_35, qsem, qopt_s, qopt2_s, qev, qxs, Nat.reduceEqDiff, reduceIte, and_true, true_and, and_false, false_and, and_self, or_true, true_or, qb_or, reduceCtorEq, qbr_True, qbr_False, q10, q01, qwM]
          refine kX11_part_37 (zX11_say hS3 hp3 (by omega)) (rfl) (Nat.le_of_ble_eq_true rfl) (show 0 + 1 ≤ 2 + 3 * (8 - d) by omega) ⟨Nat.le_of_ble_eq_true rfl, Nat.le_of_ble_eq_true rfl⟩ ?_
          rintro _ _ ⟨M4, rfl, rfl, hS4, hp4⟩
          refine oX11_part_40 _ _ _ _ _ _ ?_
          simp only [bX11_part_40, qsem, qopt_s, qopt2_s, qev, qxs, Nat.reduceEqDiff, reduceIte, and_true, true_and, and_false, false_and, and_self, or_true, true_or, qb_or, reduceCtorEq, qbr_True, qbr_False, q10, q01, qwM]
          refine ih M4 p3 (s3 + 1) _ (by omega) hS4 hp4 hpt (by omega) (fun i hi => by rw [hcs1 i (by omega)]; exact hc1 i hi) ⟨st3, lt3, sg3, ss3 ++ 38 :: ss', _, ?_, haf3, ?_, SU_and hsu hsu3⟩
          · rw [show (ss3 ++ 38 :: ss') ++ ss = ss3 ++ 38 :: (ss' ++ ss) by simp]; exact RN_tr hr3 hrn3
          · exact CD_join (c := true) (CD_cg hcd (fun i _ h2 => hcs1 i h2)) (CD_cg hcd3 (fun i _ h2 => by unfold upd; rw [if_neg (by omega)])) (by unfold upd; rw [if_pos rfl]; rfl)
        · have hcs1 : ∀ i, i < s1 → upd cs3 s3 1 i = cs1 i := fun i hi => (hcs i hi).elim id (fun q => by omega)
          refine oX11_part_35 _ _ _ _ _ _ ?_
          simp only [bX11_part_35, qsem, qopt_s, qopt2_s, qev, qxs, Nat.reduceEqDiff, reduceIte, and_true, true_and, and_false, false_and, and_self, or_true, true_or, qb_or, reduceCtorEq, qbr_True, qbr_False, q10, q01, qwM]
          refine kX11_part_37 (zX11_say hS3 hp3 (by omega)) (rfl) (Nat.le_of_ble_eq_true rfl) (show 0 + 1 ≤ 2 + 3 * (8 - d) by omega) ⟨Nat.le_of_ble_eq_true rfl, Nat.le_of_ble_eq_true rfl⟩ ?_
          rintro _ _ ⟨M4, rfl, rfl, hS4, hp4⟩
          refine oX11_part_40 _ _ _ _ _ _ ?_
          simp only [bX11_part_40, qsem, qopt_s, qopt2_s, qev, qxs, Nat.reduceEqDiff, reduceIte, and_true, true_and, and_false, false_and, and_self, or_true, true_or, qb_or, reduceCtorEq, qbr_True, qbr_False, q10, q01, qwM]
          exact bad M4 p3 (s3 + 1) e _ hS4 hp4 hb3 (by omega) (fun i hi => by rw [hcs1 i (by omega)]; exact hc1 i hi) (by omega) (flt_tr hr3 hf)
      refine oX11_part_4 _ _ _ _ _ _ ?_
      simp only [bX11_part_4, qsem, qopt_s, qopt2_s, qev, qxs, Nat.reduceEqDiff, reduceIte, and_true, true_and, and_false, false_and, and_self, or_true, true_or, qb_or, reduceCtorEq, qbr_True, qbr_False, q10, q01, qwM, hp1.2.1]
      refine kX11_part_13 (zX11_look hS1 h1 hp1 (by omega)) (rfl) (Nat.le_of_ble_eq_true rfl) (show 0 + 1 ≤ 2 + 3 * (8 - d) by omega) ⟨Nat.le_of_ble_eq_true rfl, Nat.le_of_ble_eq_true rfl⟩ ?_
      rintro _ _ ⟨M2, rfl, hS2, hp2, rfl⟩
      refine oX11_part_16 _ _ _ _ _ _ ?_
      simp only [bX11_part_16, qsem, qopt_s, qopt2_s, qev, qxs, Nat.reduceEqDiff, reduceIte, and_true, true_and, and_false, false_and, and_self, or_true, true_or, qb_or, reduceCtorEq, qbr_True, qbr_False, q10, q01, qwM, hp1.2.1, hp2.1, nI_1]
      refine qbr_i (fun c1 => ?_) (fun c1 => ?_)
      · exact more M2 hS2 hp2 c1
      · refine oX11_part_43 _ _ _ _ _ _ ?_
        simp only [bX11_part_43, qsem, qopt_s, qopt2_s, qev, qxs, Nat.reduceEqDiff, reduceIte, and_true, true_and, and_false, false_and, and_self, or_true, true_or, qb_or, reduceCtorEq, qbr_True, qbr_False, q10, q01, qwM, hp1.2.1]
        exact hQ _ _ ⟨M2, rfl, rfl, hS2, skn S p1, -1, s1, cs1, hp2, by omega, by omega, hc1, Or.inl ⟨rfl, hq2, ⟨hno, c1⟩, st2, lt', sg', ss', φ, hr2, haf2, hcd, hsu⟩⟩
  refine oX11_part_0 _ _ _ _ _ _ ?_
  simp only [bX11_part_0, qsem, qopt_s, qopt2_s, qev, qxs, Nat.reduceEqDiff, reduceIte, and_true, true_and, and_false, false_and, and_self, or_true, true_or, qb_or, reduceCtorEq, qbr_True, qbr_False, q10, q01, qwM]
  refine kX11_part_1 (hU M p s cs lt sg ss hS hp hpL hs) (rfl) (Nat.le_of_ble_eq_true rfl) (show 1 + 3 * (8 - d) + 1 ≤ 2 + 3 * (8 - d) by omega) ⟨Nat.le_of_ble_eq_true rfl, Nat.le_of_ble_eq_true rfl⟩ ?_
  rintro _ _ ⟨M1, rfl, rfl, hS1, p1, w1, s1, cs1, hp1, hb1, hs1, hc1, hcase⟩
  rcases hcase with ⟨rfl, hpt, -, hg⟩ | ⟨hss, e, rfl, hf⟩
  · exact loop _ M1 p1 s1 cs1 (Nat.lt_succ_self _) hS1 hp1 hpt hs1 hc1 hg
  · exact bad M1 p1 s1 e cs1 hS1 hp1 hb1 hs1 hc1 hss hf
set_option maxRecDepth 100000 in
set_option maxHeartbeats 4000000 in
theorem zX11_tests_of {C : qC} {r : Nat × Nat × Nat} {S : qS} {d : Nat} (h1 : W1 S) (hd : d ≤ 8) (hU : uC C r S mX11_part (SU d) (yP S) (2 + 3 * (8 - d)) d) : uC C r S mX11_tests (ST d) (yT S) (3 + 3 * (8 - d)) d := by
  intro M p s cs lt sg ss hS hp hpL hs
  have hT1 := h1.2.2.2.2.2.2.2
  refine eX11_tests (AW_gen (fun Q hQ => ?_))
  have bad : ∀ (M1 : qC) (p1 s1 e : Nat) (cs1 : Nat → Int32), pj M1 = S → pS M1 p1 (nI e) d s1 cs1 → p1 ≤ cT S + (8 - d) → s1 + 2 * p ≤ 2 * p1 + s → (∀ i, i < s → cs1 i = cs i) → s ≤ s1 → flt S (0, d, lt, sg, ss) p e → AW (mX11_tests, 3 + 3 * (8 - d), 0, 0, none, Q) 4 [some (.ref 136)] [] (wd C M1 r) 0 0 := by
    intro M1 p1 s1 e cs1 hS1 hp1 hb1 hs1 hc1 hss hf
    have he := flt_le hf
    refine oX11_tests_4 _ _ _ _ _ _ ?_
    simp only [bX11_tests_4, qsem, qopt_s, qopt2_s, qev, qxs, Nat.reduceEqDiff, reduceIte, and_true, true_and, and_false, false_and, and_self, or_true, true_or, qb_or, reduceCtorEq, qbr_True, qbr_False, q10, q01, qwM, hp1.2.1]
    refine qbr_f ((i_nm1 (by omega))) ?_
    refine oX11_tests_43 _ _ _ _ _ _ ?_
    simp only [bX11_tests_43, qsem, qopt_s, qopt2_s, qev, qxs, Nat.reduceEqDiff, reduceIte, and_true, true_and, and_false, false_and, and_self, or_true, true_or, qb_or, reduceCtorEq, qbr_True, qbr_False, q10, q01, qwM, hp1.2.1]
    exact hQ _ _ ⟨M1, rfl, rfl, hS1, p1, nI e, s1, cs1, hp1, hb1, hs1, hc1, Or.inr ⟨hss, e, rfl, hf⟩⟩
  have loop : ∀ (k : Nat) (M1 : qC) (p1 s1 : Nat) (cs1 : Nat → Int32), cT S - p1 < k → pj M1 = S → pS M1 p1 (-1) d s1 cs1 → p1 ≤ cT S → s1 + 2 * p ≤ 2 * p1 + s → (∀ i, i < s → cs1 i = cs i) → yP S p1 → (∃ st' lt' sg' ss' φ, RN (S.2.1 160) (0, d, lt, sg, ss) p (st', d, lt', sg', ss' ++ ss) p1 ∧ aft S p1 st' ∧ CD cs1 s s1 φ ∧ ST d ss' φ) → AW (mX11_tests, 3 + 3 * (8 - d), 0, 0, none, Q) 4 [some (.ref 136)] [] (wd C M1 r) 0 0 := by
    intro k
    induction k with
    | zero => intro M1 p1 s1 cs1 hk; omega
    | succ k ih =>
      intro M1 p1 s1 cs1 hk hS1 hp1 hp1L hs1 hc1 hY hg
      obtain ⟨st', lt', sg', ss', φ, hrn, haf, hcd, hsu⟩ := hg
      have h4 := hcd.1
      have hid := skn_id hY.1
      have more : ∀ M2 : qC, pj M2 = S → pS M2 p1 (-1) d s1 cs1 → byA S p1 = 124 → AW (mX11_tests, 3 + 3 * (8 - d), 0, 0, none, Q) 32 [some (.ref 136)] [.ref 136] (wd C (yI M2 136 33 (nI (p1 + 1))) r) 0 0 := by
        intro M2 hS2 hp2 hx
        have hlt : p1 < cT S := byA_lt hx (by decide)
        have hr3 : RN (S.2.1 160) (0, d, lt, sg, ss) p (0, d, lt', sg', 124 :: (ss' ++ ss)) (p1 + 1) := RN_tr hrn (RN_1 (by rw [← byA_in hlt, aft_tk haf rfl hY.1, hx, if_neg (fun q => absurd q.1 (by decide)), if_neg (by decide), if_pos rfl]))
        refine kX11_tests_32 (hU _ (p1 + 1) s1 cs1 lt' sg' (124 :: (ss' ++ ss)) (by simp only [pjs]; exact hS2) (pS_at hp2) (by omega) (by omega)) rfl (Nat.le_of_ble_eq_true rfl) (show 2 + 3 * (8 - d) + 1 ≤ 3 + 3 * (8 - d) by omega) ⟨Nat.le_of_ble_eq_true rfl, Nat.le_of_ble_eq_true rfl⟩ ?_
        rintro _ _ ⟨M3, rfl, rfl, hS3, p3, w3, s3, cs3, hp3, hb3, hs3, hc3, hcase⟩
        have hcs : ∀ i, i < s1 → upd cs3 s3 2 i = cs1 i ∨ s3 < s1 := fun i hi => by
          by_cases e : s3 < s1
          · exact Or.inr e
          · refine Or.inl ?_
            unfold upd
            rw [if_neg (by omega)]
            exact hc3 i hi
        rcases hcase with ⟨rfl, hpt, hY3, st3, lt3, sg3, ss3, ψ, hrn3, haf3, hcd3, hsu3⟩ | ⟨hss, e, rfl, hf⟩
        · have h43 := hcd3.1
          have hle := RN_le hrn3
          have hcs1 : ∀ i, i < s1 → upd cs3 s3 2 i = cs1 i := fun i hi => (hcs i hi).elim id (fun q => by omega)
          refine oX11_tests_35 _ _ _ _ _ _ ?_
          simp only [bX11_tests_35, qsem, qopt_s, qopt2_s, qev, qxs, Nat.reduceEqDiff, reduceIte, and_true, true_and, and_false, false_and, and_self, or_true, true_or, qb_or, reduceCtorEq, qbr_True, qbr_False, q10, q01, qwM]
          refine kX11_tests_37 (zX11_say hS3 hp3 (by omega)) (rfl) (Nat.le_of_ble_eq_true rfl) (show 0 + 1 ≤ 3 + 3 * (8 - d) by omega) ⟨Nat.le_of_ble_eq_true rfl, Nat.le_of_ble_eq_true rfl⟩ ?_
          rintro _ _ ⟨M4, rfl, rfl, hS4, hp4⟩
          refine oX11_tests_40 _ _ _ _ _ _ ?_
          simp only [bX11_tests_40, qsem, qopt_s, qopt2_s, qev, qxs, Nat.reduceEqDiff, reduceIte, and_true, true_and, and_false, false_and, and_self, or_true, true_or, qb_or, reduceCtorEq, qbr_True, qbr_False, q10, q01, qwM]
          refine ih M4 p3 (s3 + 1) _ (by omega) hS4 hp4 hpt (by omega) (fun i hi => by rw [hcs1 i (by omega)]; exact hc1 i hi) hY3 ⟨st3, lt3, sg3, ss3 ++ 124 :: ss', _, ?_, haf3, ?_, ST_or hsu hsu3⟩
          · rw [show (ss3 ++ 124 :: ss') ++ ss = ss3 ++ 124 :: (ss' ++ ss) by simp]; exact RN_tr hr3 hrn3
          · exact CD_join (c := false) (CD_cg hcd (fun i _ h2 => hcs1 i h2)) (CD_cg hcd3 (fun i _ h2 => by unfold upd; rw [if_neg (by omega)])) (by unfold upd; rw [if_pos rfl]; rfl)
        · have hcs1 : ∀ i, i < s1 → upd cs3 s3 2 i = cs1 i := fun i hi => (hcs i hi).elim id (fun q => by omega)
          refine oX11_tests_35 _ _ _ _ _ _ ?_
          simp only [bX11_tests_35, qsem, qopt_s, qopt2_s, qev, qxs, Nat.reduceEqDiff, reduceIte, and_true, true_and, and_false, false_and, and_self, or_true, true_or, qb_or, reduceCtorEq, qbr_True, qbr_False, q10, q01, qwM]
          refine kX11_tests_37 (zX11_say hS3 hp3 (by omega)) (rfl) (Nat.le_of_ble_eq_true rfl) (show 0 + 1 ≤ 3 + 3 * (8 - d) by omega) ⟨Nat.le_of_ble_eq_true rfl, Nat.le_of_ble_eq_true rfl⟩ ?_
          rintro _ _ ⟨M4, rfl, rfl, hS4, hp4⟩
          refine oX11_tests_40 _ _ _ _ _ _ ?_
          simp only [bX11_tests_40, qsem, qopt_s, qopt2_s, qev, qxs, Nat.reduceEqDiff, reduceIte, and_true, true_and, and_false, false_and, and_self, or_true, true_or, qb_or, reduceCtorEq, qbr_True, qbr_False, q10, q01, qwM]
          exact bad M4 p3 (s3 + 1) e _ hS4 hp4 hb3 (by omega) (fun i hi => by rw [hcs1 i (by omega)]; exact hc1 i hi) (by omega) (flt_tr hr3 hf)
      refine oX11_tests_4 _ _ _ _ _ _ ?_
      simp only [bX11_tests_4, qsem, qopt_s, qopt2_s, qev, qxs, Nat.reduceEqDiff, reduceIte, and_true, true_and, and_false, false_and, and_self, or_true, true_or, qb_or, reduceCtorEq, qbr_True, qbr_False, q10, q01, qwM, hp1.2.1]
      refine kX11_tests_13 (zX11_look hS1 h1 hp1 (by omega)) (rfl) (Nat.le_of_ble_eq_true rfl) (show 0 + 1 ≤ 3 + 3 * (8 - d) by omega) ⟨Nat.le_of_ble_eq_true rfl, Nat.le_of_ble_eq_true rfl⟩ ?_
      rintro _ _ ⟨M2, rfl, hS2, hp2, rfl⟩
      rw [hid] at hp2 ⊢
      refine oX11_tests_16 _ _ _ _ _ _ ?_
      simp only [bX11_tests_16, qsem, qopt_s, qopt2_s, qev, qxs, Nat.reduceEqDiff, reduceIte, and_true, true_and, and_false, false_and, and_self, or_true, true_or, qb_or, reduceCtorEq, qbr_True, qbr_False, q10, q01, qwM, hp1.2.1, hp2.1, nI_1]
      refine qbr_i (fun c1 => ?_) (fun c1 => ?_)
      · exact more M2 hS2 hp2 c1
      · refine oX11_tests_43 _ _ _ _ _ _ ?_
        simp only [bX11_tests_43, qsem, qopt_s, qopt2_s, qev, qxs, Nat.reduceEqDiff, reduceIte, and_true, true_and, and_false, false_and, and_self, or_true, true_or, qb_or, reduceCtorEq, qbr_True, qbr_False, q10, q01, qwM, hp1.2.1]
        exact hQ _ _ ⟨M2, rfl, rfl, hS2, p1, -1, s1, cs1, hp2, by omega, by omega, hc1, Or.inl ⟨rfl, hp1L, ⟨hY.1, hY.2, c1⟩, st', lt', sg', ss', φ, hrn, haf, hcd, hsu⟩⟩
  refine oX11_tests_0 _ _ _ _ _ _ ?_
  simp only [bX11_tests_0, qsem, qopt_s, qopt2_s, qev, qxs, Nat.reduceEqDiff, reduceIte, and_true, true_and, and_false, false_and, and_self, or_true, true_or, qb_or, reduceCtorEq, qbr_True, qbr_False, q10, q01, qwM]
  refine kX11_tests_1 (hU M p s cs lt sg ss hS hp hpL hs) (rfl) (Nat.le_of_ble_eq_true rfl) (show 2 + 3 * (8 - d) + 1 ≤ 3 + 3 * (8 - d) by omega) ⟨Nat.le_of_ble_eq_true rfl, Nat.le_of_ble_eq_true rfl⟩ ?_
  rintro _ _ ⟨M1, rfl, rfl, hS1, p1, w1, s1, cs1, hp1, hb1, hs1, hc1, hcase⟩
  rcases hcase with ⟨rfl, hpt, hY, st', lt', sg', ss', φ, hrn, haf, hcd, hsu⟩ | ⟨hss, e, rfl, hf⟩
  · exact loop _ M1 p1 s1 cs1 (Nat.lt_succ_self _) hS1 hp1 hpt hs1 hc1 hY ⟨st', lt', sg', ss', φ, hrn, haf, hcd, ST_of hsu⟩
  · exact bad M1 p1 s1 e cs1 hS1 hp1 hb1 hs1 hc1 hss hf
theorem zX11_tests_d {C : qC} {r : Nat × Nat × Nat} {S : qS} (h1 : W1 S) : ∀ (k d : Nat), d + k = 8 → uC C r S mX11_tests (ST d) (yT S) (3 + 3 * (8 - d)) d
  | 0, d, h => zX11_tests_of h1 (by omega) (zX11_part_of h1 (by omega) (zX11_unit_of h1 (by omega) (fun q => by omega)))
  | k + 1, d, h => zX11_tests_of h1 (by omega) (zX11_part_of h1 (by omega) (zX11_unit_of h1 (by omega) (fun q => by
      have := zX11_tests_d (C := C) (r := r) h1 k (d + 1) (by omega)
      rw [show 3 * (8 - d) = 3 + 3 * (8 - (d + 1)) by omega]
      exact this)))
/-- the bytes of the tape -/
def W9 (S : qS) : Prop := ∀ i, i < cT S → ¬ S.2.1 160 i = -1
/-- the tape is a rule: what it means, and its steps -/
def ruG (S : qS) (ss : List Nat) (φ : Nat → Nat → Nat → Bool) : Prop := ∃ st lt sg, RN (S.2.1 160) (0, 0, 0, 0, []) 0 (st, 0, lt, sg, ss) (cT S) ∧ (st = 3 ∨ st = 4) ∧ ST 0 ss φ
set_option maxRecDepth 100000 in
set_option maxHeartbeats 4000000 in
theorem zX11_fault {C M : qC} {r : Nat × Nat × Nat} {S : qS} (hS : pj M = S) (h1 : W1 S) (h9 : W9 S) : CT mX11_fault 28 0 0 [.ref 136] (wd C M r) (fun r' w' => ∃ M', w' = wd C M' r ∧ pj M' = S ∧ ((r' = some (.int (-1)) ∧ ∃ p' s' cs' ss φ, pS M' p' (-1) 0 s' cs' ∧ s' ≤ 200 ∧ CD cs' 0 s' φ ∧ ruG S ss φ) ∨ ∃ e, e ≤ cT S ∧ r' = some (.int (nI e)) ∧ flt S (0, 0, 0, 0, []) 0 e)) := by
  have hT1 := h1.2.2.2.2.2.2.2
  refine eX11_fault (AW_gen (fun Q hQ => ?_))
  refine oX11_fault_0 _ _ _ _ _ _ ?_
  simp only [bX11_fault_0, qsem, qopt_s, qopt2_s, qev, qxs, Nat.reduceEqDiff, reduceIte, and_true, true_and, and_false, false_and, and_self, or_true, true_or, qb_or, reduceCtorEq, qbr_True, qbr_False, q10, q01, qwM]
  refine kX11_fault_21 (zX11_tests_d h1 8 0 rfl (yI (yI (yI (yI M 136 33 0) 136 34 (-1)) 136 35 0) 136 36 0) 0 0 (xA M 162) 0 0 [] (by simp only [pjs]; exact hS) (by unfold pS; simp only [qxs, Nat.reduceEqDiff, reduceIte, and_true, true_and, and_self, and_false]; exact rfl) (by omega) (by omega)) (rfl) (Nat.le_of_ble_eq_true rfl) (Nat.le_of_ble_eq_true rfl) ⟨Nat.le_of_ble_eq_true rfl, Nat.le_of_ble_eq_true rfl⟩ ?_
  rintro _ _ ⟨M1, rfl, rfl, hS1, p1, w1, s1, cs1, hp1, hb1, hs1, hc1, hcase⟩
  skip
  rcases hcase with ⟨rfl, hpt, hY, st', lt', sg', ss', φ, hrn, haf, hcd, hsu⟩ | ⟨hss, e, rfl, hf⟩
  · have hid := skn_id hY.1
    have hrn2 : RN (S.2.1 160) (0, 0, 0, 0, []) 0 (st', 0, lt', sg', ss') p1 := by rw [List.append_nil] at hrn; exact hrn
    by_cases hx : byA S p1 = -1
    · have hpe : p1 = cT S := by
        by_cases q : p1 < cT S
        · rw [byA_in q] at hx; exact absurd hx (h9 p1 q)
        · omega
      refine oX11_fault_24 _ _ _ _ _ _ ?_
      simp only [bX11_fault_24, qsem, qopt_s, qopt2_s, qev, qxs, Nat.reduceEqDiff, reduceIte, and_true, true_and, and_false, false_and, and_self, or_true, true_or, qb_or, reduceCtorEq, qbr_True, qbr_False, q10, q01, qwM, hp1.2.1]
      refine kX11_fault_33 (zX11_look hS1 h1 hp1 (by omega)) (rfl) (Nat.le_of_ble_eq_true rfl) (Nat.le_of_ble_eq_true rfl) ⟨Nat.le_of_ble_eq_true rfl, Nat.le_of_ble_eq_true rfl⟩ ?_
      rintro _ _ ⟨M2, rfl, hS2, hp2, rfl⟩
      rw [hid] at hp2 ⊢
      rw [hx]
      refine oX11_fault_36 _ _ _ _ _ _ ?_
      simp only [bX11_fault_36, qsem, qopt_s, qopt2_s, qev, qxs, Nat.reduceEqDiff, reduceIte, and_true, true_and, and_false, false_and, and_self, or_true, true_or, qb_or, reduceCtorEq, qbr_True, qbr_False, q10, q01, qwM, hp1.2.1]
      refine oX11_fault_44 _ _ _ _ _ _ ?_
      simp only [bX11_fault_44, qsem, qopt_s, qopt2_s, qev, qxs, Nat.reduceEqDiff, reduceIte, and_true, true_and, and_false, false_and, and_self, or_true, true_or, qb_or, reduceCtorEq, qbr_True, qbr_False, q10, q01, qwM, hp1.2.1, hp2.2.1]
      exact hQ _ _ ⟨M2, rfl, hS2, Or.inl ⟨rfl, p1, s1, cs1, ss', φ, hp2, by omega, hcd, st', lt', sg', by rw [← hpe]; exact hrn2, haf.elim Or.inr (fun q => Or.inl q.1), hsu⟩⟩
    · have hlt : p1 < cT S := by
        by_cases q : p1 < cT S
        · exact q
        · exact absurd (byA_out q) hx
      have hf : flt S (0, 0, 0, 0, []) 0 p1 := flt_tr hrn2 (aft_flt hpt haf hY.1 (fun q => by omega) hY.2.1 hY.2.2 (fun q => by omega))
      refine oX11_fault_24 _ _ _ _ _ _ ?_
      simp only [bX11_fault_24, qsem, qopt_s, qopt2_s, qev, qxs, Nat.reduceEqDiff, reduceIte, and_true, true_and, and_false, false_and, and_self, or_true, true_or, qb_or, reduceCtorEq, qbr_True, qbr_False, q10, q01, qwM, hp1.2.1]
      refine kX11_fault_33 (zX11_look hS1 h1 hp1 (by omega)) (rfl) (Nat.le_of_ble_eq_true rfl) (Nat.le_of_ble_eq_true rfl) ⟨Nat.le_of_ble_eq_true rfl, Nat.le_of_ble_eq_true rfl⟩ ?_
      rintro _ _ ⟨M2, rfl, hS2, hp2, rfl⟩
      rw [hid] at hp2 ⊢
      refine oX11_fault_36 _ _ _ _ _ _ ?_
      simp only [bX11_fault_36, qsem, qopt_s, qopt2_s, qev, qxs, Nat.reduceEqDiff, reduceIte, and_true, true_and, and_false, false_and, and_self, or_true, true_or, qb_or, reduceCtorEq, qbr_True, qbr_False, q10, q01, qwM, hp1.2.1]
      refine qbr_f (hx) ?_
      refine kX11_fault_41 (zX11_fail hS2 hp2) (rfl) (Nat.le_of_ble_eq_true rfl) (Nat.le_of_ble_eq_true rfl) ⟨Nat.le_of_ble_eq_true rfl, Nat.le_of_ble_eq_true rfl⟩ ?_
      rintro _ _ ⟨M3, rfl, rfl, hS3, hp3⟩
      rw [if_pos rfl] at hp3
      refine oX11_fault_44 _ _ _ _ _ _ ?_
      simp only [bX11_fault_44, qsem, qopt_s, qopt2_s, qev, qxs, Nat.reduceEqDiff, reduceIte, and_true, true_and, and_false, false_and, and_self, or_true, true_or, qb_or, reduceCtorEq, qbr_True, qbr_False, q10, q01, qwM, hp1.2.1, hp3.2.1]
      exact hQ _ _ ⟨M3, rfl, hS3, Or.inr ⟨p1, hpt, rfl, hf⟩⟩
  · have he := flt_le hf
    refine oX11_fault_24 _ _ _ _ _ _ ?_
    simp only [bX11_fault_24, qsem, qopt_s, qopt2_s, qev, qxs, Nat.reduceEqDiff, reduceIte, and_true, true_and, and_false, false_and, and_self, or_true, true_or, qb_or, reduceCtorEq, qbr_True, qbr_False, q10, q01, qwM, hp1.2.1]
    refine qbr_f ((i_nm1 (by omega))) ?_
    refine oX11_fault_44 _ _ _ _ _ _ ?_
    simp only [bX11_fault_44, qsem, qopt_s, qopt2_s, qev, qxs, Nat.reduceEqDiff, reduceIte, and_true, true_and, and_false, false_and, and_self, or_true, true_or, qb_or, reduceCtorEq, qbr_True, qbr_False, q10, q01, qwM, hp1.2.1]
    exact hQ _ _ ⟨M1, rfl, hS1, Or.inr ⟨e, he, rfl, hf⟩⟩
def ruS (S : qS) (f : Nat → Int32) : qS := sI (sI (sA S 161 f) 2 (nI (cR S + 1))) 32 0
theorem cR20 {S : qS} (h1 : W1 S) : (nI (cR S) = 20) = (cR S = 20) := propext (nI_eq (b := 20) (by have := h1.2.2.2.1; omega) (by omega))
theorem ru_R {S : qS} {f : Nat → Int32} (h1 : W1 S) : cR (ruS S f) = cR S + 1 := by
  have := h1.2.2.2.1
  show (nI (cR S + 1)).toNatClampNeg = _
  rw [nI_clamp (by omega)]
theorem ru_7 {S : qS} {f cs : Nat → Int32} {s : Nat} {φ : Nat → Nat → Nat → Bool} (h1 : W1 S) (hs : s ≤ 200) (hcd : CD cs 0 s φ) (hf : ∀ i, i < s → f (220 * cR S + i) = cs i) (h3 : f (220 * cR S + s) = 3) : W7 (ruS S f) φ := by
  intro t u b ht hu hb
  have e := ru_R (f := f) h1
  have h4 := hcd.1
  refine Or.inr ⟨by omega, ?_⟩
  rw [e, show cR S + 1 - 1 = cR S by omega]
  show ∃ fu, evc f (nI t) (nI u) (nI b) (220 * (cR S + 1)) fu (220 * cR S) (fun _ => false) 0 = some (φ t u b)
  obtain ⟨ps', -, h0, hc⟩ := hcd.2 f (220 * cR S) (220 * (cR S + 1)) t u b (fun _ => false) 0 ht hu hb (fun i _ h => hf i h) (by omega) (by omega)
  obtain ⟨fu, hfu⟩ := hc 1 (φ t u b) (by
    unfold evc
    rw [if_neg (by omega), h3, if_pos rfl, if_neg (by omega), h0])
  exact ⟨fu, hfu⟩
set_option maxRecDepth 100000 in
set_option maxHeartbeats 4000000 in
theorem zX11_rule {C M : qC} {r : Nat × Nat × Nat} {S : qS} (hS : pj M = S) (h1 : W1 S) (h9 : W9 S) : CT mX11_rule 29 0 0 [.ref 136] (wd C M r) (fun r' w' => ∃ M', w' = wd C M' r ∧ (((cR S = 20 ∨ ∃ e, e ≤ cT S ∧ flt S (0, 0, 0, 0, []) 0 e) ∧ r' = some (.int (-1)) ∧ pj M' = S) ∨ (¬ cR S = 20 ∧ ∃ f ss φ, ruG S ss φ ∧ r' = some (.int (nI (cR S))) ∧ pj M' = ruS S f ∧ W7 (ruS S f) φ))) := by
  have hR := h1.2.2.2.1
  have hT1 := h1.2.2.2.2.2.2.2
  refine eX11_rule (AW_gen (fun Q hQ => ?_))
  by_cases h20 : cR S = 20
  · refine oX11_rule_0 _ _ _ _ _ _ ?_
    simp only [bX11_rule_0, qsem, qopt_s, qopt2_s, qev, qxs, Nat.reduceEqDiff, reduceIte, and_true, true_and, and_false, false_and, and_self, or_true, true_or, qb_or, reduceCtorEq, qbr_True, qbr_False, q10, q01, qwM, pjx hS, h1.1.2.2.1, cR20 h1]
    refine qbr_t (h20) ?_
    refine oX11_rule_17 _ _ _ _ _ _ ?_
    simp only [bX11_rule_17, qsem, qopt_s, qopt2_s, qev, qxs, Nat.reduceEqDiff, reduceIte, and_true, true_and, and_false, false_and, and_self, or_true, true_or, qb_or, reduceCtorEq, qbr_True, qbr_False, q10, q01, qwM, pjx hS, h1.1.2.2.1, cR20 h1]
    exact hQ _ _ ⟨M, rfl, Or.inl ⟨Or.inl h20, rfl, hS⟩⟩
  · refine oX11_rule_0 _ _ _ _ _ _ ?_
    simp only [bX11_rule_0, qsem, qopt_s, qopt2_s, qev, qxs, Nat.reduceEqDiff, reduceIte, and_true, true_and, and_false, false_and, and_self, or_true, true_or, qb_or, reduceCtorEq, qbr_True, qbr_False, q10, q01, qwM, pjx hS, h1.1.2.2.1, cR20 h1]
    refine qbr_f (h20) ?_
    refine kX11_rule_10 (zX11_fault hS h1 h9) (rfl) (Nat.le_of_ble_eq_true rfl) (Nat.le_of_ble_eq_true rfl) ⟨Nat.le_of_ble_eq_true rfl, Nat.le_of_ble_eq_true rfl⟩ ?_
    rintro _ _ ⟨M1, rfl, hS1, hcase⟩
    skip
    rcases hcase with ⟨rfl, p', s', cs', sl, φ, hp1, hs1, hcd, hru⟩ | ⟨e, he, rfl, hf⟩
    · have h4 := hcd.1
      have loop : ∀ (j k : Nat) (M2 : qC), k + j = s' + 1 → pS M2 p' (-1) 0 (s' + 1) (upd cs' s' 3) → pj M2 = sA S 161 (xA M2 161) → (∀ i, i < k → xA M2 161 (220 * cR S + i) = upd cs' s' 3 i) → AW (mX11_rule, 29, 0, 0, none, Q) 26 [some (.ref 136), some (.int (nI k))] [] (wd C M2 r) 0 0 := by
        intro j
        induction j with
        | zero =>
          intro k M2 hk hp2 hS2 hz
          obtain rfl : k = s' + 1 := by omega
          have hx2 : xI M2 136 2 = nI (cR S) := (pjx hS2).2.2.1.trans h1.1.2.2.1
          refine oX11_rule_26 _ _ _ _ _ _ ?_
          simp only [bX11_rule_26, qsem, qopt_s, qopt2_s, qev, qxs, Nat.reduceEqDiff, reduceIte, and_true, true_and, and_false, false_and, and_self, or_true, true_or, qb_or, reduceCtorEq, qbr_True, qbr_False, q10, q01, qwM, hp2.2.2.2.1, hx2, nI_1, nIs1]
          refine qbr_t ((Int32.le_refl _)) ?_
          refine oX11_rule_61 _ _ _ _ _ _ ?_
          simp only [bX11_rule_61, qsem, qopt_s, qopt2_s, qev, qxs, Nat.reduceEqDiff, reduceIte, and_true, true_and, and_false, false_and, and_self, or_true, true_or, qb_or, reduceCtorEq, qbr_True, qbr_False, q10, q01, qwM, hp2.2.2.2.1, hx2, nI_1, nIs1]
          refine hQ _ _ ⟨_, rfl, Or.inr ⟨h20, xA M2 161, sl, φ, hru, rfl, by rw [pj_wI rfl, pj_wI rfl, hS2]; rfl, ru_7 h1 hs1 hcd (fun i hi => ?_) ?_⟩⟩
          · rw [hz i (by omega)]; unfold upd; rw [if_neg (by omega)]
          · rw [hz s' (by omega)]; unfold upd; rw [if_pos rfl]
        | succ j ih =>
          intro k M2 hk hp2 hS2 hz
          have hx2 : xI M2 136 2 = nI (cR S) := (pjx hS2).2.2.1.trans h1.1.2.2.1
          have ei : (220 : Int32) * nI (cR S) + nI k = nI (220 * cR S + k) := by rw [show (220 : Int32) = nI 220 from rfl, pk_mul, nadd]
          refine oX11_rule_26 _ _ _ _ _ _ ?_
          simp only [bX11_rule_26, qsem, qopt_s, qopt2_s, qev, qxs, Nat.reduceEqDiff, reduceIte, and_true, true_and, and_false, false_and, and_self, or_true, true_or, qb_or, reduceCtorEq, qbr_True, qbr_False, q10, q01, qwM, hp2.2.2.2.1, hp2.2.2.2.2, hx2, ei, nIcl (show k < 1000 by omega), ncl (show 220 * cR S + k < 10000 by omega), nI_1]
          refine qbr_f (nI_ge (by omega) (by omega)) ?_
          refine ⟨nI_vp (by omega) (by omega), ?_⟩
          refine ⟨nI_vp (by omega) (by omega), ?_⟩
          refine ih (k + 1) _ (by omega) ?_ ?_ (fun i hi => ?_)
          · unfold pS at hp2 ⊢; simp only [qxs, Nat.reduceEqDiff, reduceIte]; exact hp2
          · rw [pj_wA rfl, hS2]; simp only [qxs, Nat.reduceEqDiff, reduceIte]; refine Prod.ext rfl (Prod.ext ?_ rfl); funext q; simp only [ss]; split <;> rfl
          · simp only [qxs, Nat.reduceEqDiff, reduceIte]; by_cases e : i = k; (rw [e]; exact if_pos rfl); (unfold upd; rw [if_neg (by omega)]; exact hz i (by omega))
      refine oX11_rule_13 _ _ _ _ _ _ ?_
      simp only [bX11_rule_13, qsem, qopt_s, qopt2_s, qev, qxs, Nat.reduceEqDiff, reduceIte, and_true, true_and, and_false, false_and, and_self, or_true, true_or, qb_or, reduceCtorEq, qbr_True, qbr_False, q10, q01, qwM]
      refine oX11_rule_19 _ _ _ _ _ _ ?_
      simp only [bX11_rule_19, qsem, qopt_s, qopt2_s, qev, qxs, Nat.reduceEqDiff, reduceIte, and_true, true_and, and_false, false_and, and_self, or_true, true_or, qb_or, reduceCtorEq, qbr_True, qbr_False, q10, q01, qwM]
      refine kX11_rule_21 (zX11_say hS1 hp1 (by omega)) (rfl) (Nat.le_of_ble_eq_true rfl) (Nat.le_of_ble_eq_true rfl) ⟨Nat.le_of_ble_eq_true rfl, Nat.le_of_ble_eq_true rfl⟩ ?_
      rintro _ _ ⟨M2, rfl, rfl, hS2, hp2⟩
      refine oX11_rule_24 _ _ _ _ _ _ ?_
      simp only [bX11_rule_24, qsem, qopt_s, qopt2_s, qev, qxs, Nat.reduceEqDiff, reduceIte, and_true, true_and, and_false, false_and, and_self, or_true, true_or, qb_or, reduceCtorEq, qbr_True, qbr_False, q10, q01, qwM]
      refine loop (s' + 1) 0 M2 (by omega) hp2 ?_ (fun i hi => by omega)
      rw [hS2, (pjx hS2).2.2.2.2.2.2.2.2.2.2.2.2.2.2.2.2.2.2.2.2.2.2.2.2.2.2.2.2]
      refine Prod.ext rfl (Prod.ext ?_ rfl)
      funext q
      show S.2.1 q = if q = 161 then S.2.1 161 else S.2.1 q
      split
      · rename_i e; rw [e]
      · rfl
    · refine oX11_rule_13 _ _ _ _ _ _ ?_
      simp only [bX11_rule_13, qsem, qopt_s, qopt2_s, qev, qxs, Nat.reduceEqDiff, reduceIte, and_true, true_and, and_false, false_and, and_self, or_true, true_or, qb_or, reduceCtorEq, qbr_True, qbr_False, q10, q01, qwM]
      refine qbr_f ((i_nm1 (by omega))) ?_
      refine oX11_rule_17 _ _ _ _ _ _ ?_
      simp only [bX11_rule_17, qsem, qopt_s, qopt2_s, qev, qxs, Nat.reduceEqDiff, reduceIte, and_true, true_and, and_false, false_and, and_self, or_true, true_or, qb_or, reduceCtorEq, qbr_True, qbr_False, q10, q01, qwM]
      exact hQ _ _ ⟨M1, rfl, Or.inl ⟨Or.inr ⟨e, he, hf⟩, rfl, hS1⟩⟩


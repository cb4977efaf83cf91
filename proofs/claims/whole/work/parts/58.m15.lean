/-- a truth, chosen -/
noncomputable def dc (P : Prop) : Bool := @decide P (Classical.propDecidable P)
theorem dc_iff {P : Prop} : dc P = true ↔ P := by unfold dc; simp
theorem dc_of {b : Bool} {P : Prop} (h : b = true ↔ P) : b = dc P := Bool.eq_iff_iff.mpr (h.trans dc_iff.symm)
theorem dc_c {P P' : Prop} (h : P ↔ P') : dc P = dc P' := Bool.eq_iff_iff.mpr (dc_iff.trans (h.trans dc_iff.symm))
noncomputable def ctV (S : qS) (k : Nat) : Int32 := if k = 0 then S.1 0 else if k = 1 then S.1 1 else if k = 2 then S.1 2 else if k = 3 then S.1 5 else if k = 4 then S.1 4 else if k = 5 then S.1 32 else if k = 6 then nI (fb_ct (fun s => dc (std S s)) (cS S)) else if k = 7 then nI (fb_ct (fun f => dc (cal S f)) (cF S)) else if cQ S = 0 then -1 else S.2.1 150 0
theorem ct_dc {β : Nat → Bool} {P : Nat → Prop} {n : Nat} (h : ∀ k, k < n → (β k = true ↔ P k)) : fb_ct β n = fb_ct (fun k => dc (P k)) n := fb_ct_cong (fun k hk => dc_of (h k hk))
theorem q6n {x : Int32} (h : ¬ x = 6) : (x = 6) = False := eq_false h
set_option maxRecDepth 100000 in
set_option maxHeartbeats 4000000 in
theorem zX11_count {C M : qC} {r : Nat × Nat × Nat} {S : qS} {what : Int32} (hS : pj M = S) (h1 : W1 S) (h2 : W2 S) (h4 : W4 S) (h5 : W5 S) : CT mX11_count 5 0 0 [.ref 136, .int what] (wd C M r) (fun r' w' => ∃ M', w' = wd C M' r ∧ pj M' = S ∧ r' = some (.int (sel8 what (ctV S)))) := by
  have hN := h1.2.1
  have hcs := h1.2.2.2.2.2.2.1
  have hq := h1.2.2.2.2.2.1
  have e0 : (nI (cQ S) = 0) = (cQ S = 0) := nI0l (by omega)
  refine eX11_count (AW_gen (fun Q hQ => ?_))
  refine oX11_count_0 _ _ _ _ _ _ ?_
  simp only [bX11_count_0, qsem, qopt_s, qopt2_s, qev, qxs, Nat.reduceEqDiff, reduceIte, and_true, true_and, and_false, false_and, and_self, or_true, true_or, qb_or, reduceCtorEq, qbr_True, qbr_False, q10, q01, qwM]
  have sw41 : ∀ (M : qC) (s : Nat) (c : Int32), pj M = S → (what = 6 → c = nI (fb_ct (fun s => dc (std S s)) (cS S))) → AW (mX11_count, 5, 0, 0, none, Q) 40 [some (.ref 136), some (.int what), some (.int c), some (.int (nI s))] [] (wd C M r) 0 0 := by
    intro M s c hS hc
    refine oX11_count_40 _ _ _ _ _ _ ?_
    simp only [bX11_count_40, qsem, qopt_s, qopt2_s, qev, qxs, Nat.reduceEqDiff, reduceIte, and_true, true_and, and_false, false_and, and_self, or_true, true_or, qb_or, reduceCtorEq, qbr_True, qbr_False, q10, q01, qwM, pjx hS, h1.1.2.2.2.2.1, e0, cl0]
    refine uX11_count_41 (fun sw => ?_) (fun sw => ?_) (fun sw => ?_) (fun sw => ?_) (fun sw => ?_) (fun sw => ?_) (fun sw => ?_) (fun sw => ?_) (fun sw => ?_) (fun sw0 sw1 sw2 sw3 sw4 sw5 sw6 sw7 sw8 => ?_)
    · refine oX11_count_92 _ _ _ _ _ _ ?_
      simp only [bX11_count_92, qsem, qopt_s, qopt2_s, qev, qxs, Nat.reduceEqDiff, reduceIte, and_true, true_and, and_false, false_and, and_self, or_true, true_or, qb_or, reduceCtorEq, qbr_True, qbr_False, q10, q01, qwM, pjx hS, h1.1.2.2.2.2.1, e0, cl0]
      (first | (exact hQ _ _ ⟨M1, rfl, hS1, ri (by rw [sw, ct_dc hβ]; rfl)⟩; done) | (exact hQ _ _ ⟨M, rfl, hS, ri (by rw [sw, hc sw]; rfl)⟩; done) | (exact hQ _ _ ⟨M, rfl, hS, ri (by rw [sw]; first | rfl | exact h1.1.2.2.2.2.1.symm | exact (if_pos c1).symm | exact (if_neg c1).symm)⟩; done) | (exact hQ _ _ ⟨M, rfl, hS, ri (by unfold sel8; simp only [sw0, sw1, sw2, sw3, sw4, sw5, sw6, sw7, sw8, if_false])⟩; done))
    · refine oX11_count_97 _ _ _ _ _ _ ?_
      simp only [bX11_count_97, qsem, qopt_s, qopt2_s, qev, qxs, Nat.reduceEqDiff, reduceIte, and_true, true_and, and_false, false_and, and_self, or_true, true_or, qb_or, reduceCtorEq, qbr_True, qbr_False, q10, q01, qwM, pjx hS, h1.1.2.2.2.2.1, e0, cl0]
      (first | (exact hQ _ _ ⟨M1, rfl, hS1, ri (by rw [sw, ct_dc hβ]; rfl)⟩; done) | (exact hQ _ _ ⟨M, rfl, hS, ri (by rw [sw, hc sw]; rfl)⟩; done) | (exact hQ _ _ ⟨M, rfl, hS, ri (by rw [sw]; first | rfl | exact h1.1.2.2.2.2.1.symm | exact (if_pos c1).symm | exact (if_neg c1).symm)⟩; done) | (exact hQ _ _ ⟨M, rfl, hS, ri (by unfold sel8; simp only [sw0, sw1, sw2, sw3, sw4, sw5, sw6, sw7, sw8, if_false])⟩; done))
    · refine oX11_count_102 _ _ _ _ _ _ ?_
      simp only [bX11_count_102, qsem, qopt_s, qopt2_s, qev, qxs, Nat.reduceEqDiff, reduceIte, and_true, true_and, and_false, false_and, and_self, or_true, true_or, qb_or, reduceCtorEq, qbr_True, qbr_False, q10, q01, qwM, pjx hS, h1.1.2.2.2.2.1, e0, cl0]
      (first | (exact hQ _ _ ⟨M1, rfl, hS1, ri (by rw [sw, ct_dc hβ]; rfl)⟩; done) | (exact hQ _ _ ⟨M, rfl, hS, ri (by rw [sw, hc sw]; rfl)⟩; done) | (exact hQ _ _ ⟨M, rfl, hS, ri (by rw [sw]; first | rfl | exact h1.1.2.2.2.2.1.symm | exact (if_pos c1).symm | exact (if_neg c1).symm)⟩; done) | (exact hQ _ _ ⟨M, rfl, hS, ri (by unfold sel8; simp only [sw0, sw1, sw2, sw3, sw4, sw5, sw6, sw7, sw8, if_false])⟩; done))
    · refine oX11_count_107 _ _ _ _ _ _ ?_
      simp only [bX11_count_107, qsem, qopt_s, qopt2_s, qev, qxs, Nat.reduceEqDiff, reduceIte, and_true, true_and, and_false, false_and, and_self, or_true, true_or, qb_or, reduceCtorEq, qbr_True, qbr_False, q10, q01, qwM, pjx hS, h1.1.2.2.2.2.1, e0, cl0]
      (first | (exact hQ _ _ ⟨M1, rfl, hS1, ri (by rw [sw, ct_dc hβ]; rfl)⟩; done) | (exact hQ _ _ ⟨M, rfl, hS, ri (by rw [sw, hc sw]; rfl)⟩; done) | (exact hQ _ _ ⟨M, rfl, hS, ri (by rw [sw]; first | rfl | exact h1.1.2.2.2.2.1.symm | exact (if_pos c1).symm | exact (if_neg c1).symm)⟩; done) | (exact hQ _ _ ⟨M, rfl, hS, ri (by unfold sel8; simp only [sw0, sw1, sw2, sw3, sw4, sw5, sw6, sw7, sw8, if_false])⟩; done))
    · refine oX11_count_112 _ _ _ _ _ _ ?_
      simp only [bX11_count_112, qsem, qopt_s, qopt2_s, qev, qxs, Nat.reduceEqDiff, reduceIte, and_true, true_and, and_false, false_and, and_self, or_true, true_or, qb_or, reduceCtorEq, qbr_True, qbr_False, q10, q01, qwM, pjx hS, h1.1.2.2.2.2.1, e0, cl0]
      (first | (exact hQ _ _ ⟨M1, rfl, hS1, ri (by rw [sw, ct_dc hβ]; rfl)⟩; done) | (exact hQ _ _ ⟨M, rfl, hS, ri (by rw [sw, hc sw]; rfl)⟩; done) | (exact hQ _ _ ⟨M, rfl, hS, ri (by rw [sw]; first | rfl | exact h1.1.2.2.2.2.1.symm | exact (if_pos c1).symm | exact (if_neg c1).symm)⟩; done) | (exact hQ _ _ ⟨M, rfl, hS, ri (by unfold sel8; simp only [sw0, sw1, sw2, sw3, sw4, sw5, sw6, sw7, sw8, if_false])⟩; done))
    · refine oX11_count_117 _ _ _ _ _ _ ?_
      simp only [bX11_count_117, qsem, qopt_s, qopt2_s, qev, qxs, Nat.reduceEqDiff, reduceIte, and_true, true_and, and_false, false_and, and_self, or_true, true_or, qb_or, reduceCtorEq, qbr_True, qbr_False, q10, q01, qwM, pjx hS, h1.1.2.2.2.2.1, e0, cl0]
      (first | (exact hQ _ _ ⟨M1, rfl, hS1, ri (by rw [sw, ct_dc hβ]; rfl)⟩; done) | (exact hQ _ _ ⟨M, rfl, hS, ri (by rw [sw, hc sw]; rfl)⟩; done) | (exact hQ _ _ ⟨M, rfl, hS, ri (by rw [sw]; first | rfl | exact h1.1.2.2.2.2.1.symm | exact (if_pos c1).symm | exact (if_neg c1).symm)⟩; done) | (exact hQ _ _ ⟨M, rfl, hS, ri (by unfold sel8; simp only [sw0, sw1, sw2, sw3, sw4, sw5, sw6, sw7, sw8, if_false])⟩; done))
    · refine oX11_count_122 _ _ _ _ _ _ ?_
      simp only [bX11_count_122, qsem, qopt_s, qopt2_s, qev, qxs, Nat.reduceEqDiff, reduceIte, and_true, true_and, and_false, false_and, and_self, or_true, true_or, qb_or, reduceCtorEq, qbr_True, qbr_False, q10, q01, qwM, pjx hS, h1.1.2.2.2.2.1, e0, cl0]
      (first | (exact hQ _ _ ⟨M1, rfl, hS1, ri (by rw [sw, ct_dc hβ]; rfl)⟩; done) | (exact hQ _ _ ⟨M, rfl, hS, ri (by rw [sw, hc sw]; rfl)⟩; done) | (exact hQ _ _ ⟨M, rfl, hS, ri (by rw [sw]; first | rfl | exact h1.1.2.2.2.2.1.symm | exact (if_pos c1).symm | exact (if_neg c1).symm)⟩; done) | (exact hQ _ _ ⟨M, rfl, hS, ri (by unfold sel8; simp only [sw0, sw1, sw2, sw3, sw4, sw5, sw6, sw7, sw8, if_false])⟩; done))
    · refine oX11_count_124 _ _ _ _ _ _ ?_
      simp only [bX11_count_124, qsem, qopt_s, qopt2_s, qev, qxs, Nat.reduceEqDiff, reduceIte, and_true, true_and, and_false, false_and, and_self, or_true, true_or, qb_or, reduceCtorEq, qbr_True, qbr_False, q10, q01, qwM, pjx hS, h1.1.2.2.2.2.1, e0, cl0]
      refine kX11_count_125 (zX11_calledMany hS h1 h2 h5) rfl (Nat.le_of_ble_eq_true rfl) (Nat.le_of_ble_eq_true rfl) ⟨Nat.le_of_ble_eq_true rfl, Nat.le_of_ble_eq_true rfl⟩ ?_
      rintro _ _ ⟨M1, β, rfl, hS1, hβ, rfl⟩
      refine oX11_count_128 _ _ _ _ _ _ ?_
      simp only [bX11_count_128, qsem, qopt_s, qopt2_s, qev, qxs, Nat.reduceEqDiff, reduceIte, and_true, true_and, and_false, false_and, and_self, or_true, true_or, qb_or, reduceCtorEq, qbr_True, qbr_False, q10, q01, qwM, pjx hS, h1.1.2.2.2.2.1, e0, cl0]
      (first | (exact hQ _ _ ⟨M1, rfl, hS1, ri (by rw [sw, ct_dc hβ]; rfl)⟩; done) | (exact hQ _ _ ⟨M, rfl, hS, ri (by rw [sw, hc sw]; rfl)⟩; done) | (exact hQ _ _ ⟨M, rfl, hS, ri (by rw [sw]; first | rfl | exact h1.1.2.2.2.2.1.symm | exact (if_pos c1).symm | exact (if_neg c1).symm)⟩; done) | (exact hQ _ _ ⟨M, rfl, hS, ri (by unfold sel8; simp only [sw0, sw1, sw2, sw3, sw4, sw5, sw6, sw7, sw8, if_false])⟩; done))
    · refine oX11_count_129 _ _ _ _ _ _ ?_
      simp only [bX11_count_129, qsem, qopt_s, qopt2_s, qev, qxs, Nat.reduceEqDiff, reduceIte, and_true, true_and, and_false, false_and, and_self, or_true, true_or, qb_or, reduceCtorEq, qbr_True, qbr_False, q10, q01, qwM, pjx hS, h1.1.2.2.2.2.1, e0, cl0]
      refine qbr_i (fun c1 => ?_) (fun c1 => ?_)
      · refine oX11_count_146 _ _ _ _ _ _ ?_
        simp only [bX11_count_146, qsem, qopt_s, qopt2_s, qev, qxs, Nat.reduceEqDiff, reduceIte, and_true, true_and, and_false, false_and, and_self, or_true, true_or, qb_or, reduceCtorEq, qbr_True, qbr_False, q10, q01, qwM, pjx hS, h1.1.2.2.2.2.1, e0, cl0]
        (first | (exact hQ _ _ ⟨M1, rfl, hS1, ri (by rw [sw, ct_dc hβ]; rfl)⟩; done) | (exact hQ _ _ ⟨M, rfl, hS, ri (by rw [sw, hc sw]; rfl)⟩; done) | (exact hQ _ _ ⟨M, rfl, hS, ri (by rw [sw]; first | rfl | exact h1.1.2.2.2.2.1.symm | exact (if_pos c1).symm | exact (if_neg c1).symm)⟩; done) | (exact hQ _ _ ⟨M, rfl, hS, ri (by unfold sel8; simp only [sw0, sw1, sw2, sw3, sw4, sw5, sw6, sw7, sw8, if_false])⟩; done))
      · refine oX11_count_140 _ _ _ _ _ _ ?_
        simp only [bX11_count_140, qsem, qopt_s, qopt2_s, qev, qxs, Nat.reduceEqDiff, reduceIte, and_true, true_and, and_false, false_and, and_self, or_true, true_or, qb_or, reduceCtorEq, qbr_True, qbr_False, q10, q01, qwM, pjx hS, h1.1.2.2.2.2.1, e0, cl0]
        refine ⟨nI_vp (i := 0) (by omega) (by omega), ?_⟩
        refine oX11_count_146 _ _ _ _ _ _ ?_
        simp only [bX11_count_146, qsem, qopt_s, qopt2_s, qev, qxs, Nat.reduceEqDiff, reduceIte, and_true, true_and, and_false, false_and, and_self, or_true, true_or, qb_or, reduceCtorEq, qbr_True, qbr_False, q10, q01, qwM, pjx hS, h1.1.2.2.2.2.1, e0, cl0]
        (first | (exact hQ _ _ ⟨M1, rfl, hS1, ri (by rw [sw, ct_dc hβ]; rfl)⟩; done) | (exact hQ _ _ ⟨M, rfl, hS, ri (by rw [sw, hc sw]; rfl)⟩; done) | (exact hQ _ _ ⟨M, rfl, hS, ri (by rw [sw]; first | rfl | exact h1.1.2.2.2.2.1.symm | exact (if_pos c1).symm | exact (if_neg c1).symm)⟩; done) | (exact hQ _ _ ⟨M, rfl, hS, ri (by unfold sel8; simp only [sw0, sw1, sw2, sw3, sw4, sw5, sw6, sw7, sw8, if_false])⟩; done))
    · refine oX11_count_147 _ _ _ _ _ _ ?_
      simp only [bX11_count_147, qsem, qopt_s, qopt2_s, qev, qxs, Nat.reduceEqDiff, reduceIte, and_true, true_and, and_false, false_and, and_self, or_true, true_or, qb_or, reduceCtorEq, qbr_True, qbr_False, q10, q01, qwM, pjx hS, h1.1.2.2.2.2.1, e0, cl0]
      (first | (exact hQ _ _ ⟨M1, rfl, hS1, ri (by rw [sw, ct_dc hβ]; rfl)⟩; done) | (exact hQ _ _ ⟨M, rfl, hS, ri (by rw [sw, hc sw]; rfl)⟩; done) | (exact hQ _ _ ⟨M, rfl, hS, ri (by rw [sw]; first | rfl | exact h1.1.2.2.2.2.1.symm | exact (if_pos c1).symm | exact (if_neg c1).symm)⟩; done) | (exact hQ _ _ ⟨M, rfl, hS, ri (by unfold sel8; simp only [sw0, sw1, sw2, sw3, sw4, sw5, sw6, sw7, sw8, if_false])⟩; done))
  by_cases h6 : what = 6
  · have loop : ∀ (j s : Nat) (M : qC), s + j = cS S → pj M = S → AW (mX11_count, 5, 0, 0, none, Q) 4 [some (.ref 136), some (.int what), some (.int (nI (fb_ct (fun s => dc (std S s)) s))), some (.int (nI s))] [] (wd C M r) 0 0 := by
      intro j
      induction j with
      | zero =>
        intro s M hs hS
        obtain rfl : s = cS S := by omega
        refine oX11_count_4 _ _ _ _ _ _ ?_
        simp only [bX11_count_4, qsem, qopt_s, qopt2_s, qev, qxs, Nat.reduceEqDiff, reduceIte, and_true, true_and, and_false, false_and, and_self, or_true, true_or, qb_or, reduceCtorEq, qbr_True, qbr_False, q10, q01, qwM, pjx hS, h1.1.2.2.2.2.2.1]
        refine qbr_t ((Int32.le_refl _)) ?_
        exact sw41 M _ _ hS (fun _ => rfl)
      | succ j ih =>
        intro s M hs hS
        have stp : ∀ (M : qC) (b : Bool), pj M = S → (b = true ↔ std S s) → AW (mX11_count, 5, 0, 0, none, Q) 32 [some (.ref 136), some (.int what), some (.int (nI (fb_ct (fun s => dc (std S s)) s))), some (.int (nI s))] [.int (qb b), .int (nI (fb_ct (fun s => dc (std S s)) s))] (wd C M r) 0 0 := by
          intro M b hS hb
          have hh := ih (s + 1) M (by omega) hS
          rw [fb_ct_succ, ← dc_of hb] at hh
          have e : nI (fb_ct (fun s => dc (std S s)) s) + qb b = nI (fb_ct (fun s => dc (std S s)) s + if b = true then 1 else 0) := by cases b <;> simp [qb, nI_1]
          refine oX11_count_32 _ _ _ _ _ _ ?_
          simp only [bX11_count_32, qsem, qopt_s, qopt2_s, qev, qxs, Nat.reduceEqDiff, reduceIte, and_true, true_and, and_false, false_and, and_self, or_true, true_or, qb_or, reduceCtorEq, qbr_True, qbr_False, q10, q01, qwM, e, nI_1]
          exact hh
        refine oX11_count_4 _ _ _ _ _ _ ?_
        simp only [bX11_count_4, qsem, qopt_s, qopt2_s, qev, qxs, Nat.reduceEqDiff, reduceIte, and_true, true_and, and_false, false_and, and_self, or_true, true_or, qb_or, reduceCtorEq, qbr_True, qbr_False, q10, q01, qwM, pjx hS, h1.1.2.2.2.2.2.1, qb_0]
        refine qbr_f (nI_ge (by omega) (by omega)) ?_
        refine qbr_t (h6) ?_
        refine kX11_count_21 (zX11_stands hS h1 h2 h4 h5 (show s < cS S by omega)) rfl (Nat.le_of_ble_eq_true rfl) (Nat.le_of_ble_eq_true rfl) ⟨Nat.le_of_ble_eq_true rfl, Nat.le_of_ble_eq_true rfl⟩ ?_
        rintro _ _ ⟨M1, b1, rfl, hS1, rfl, hb1⟩
        refine oX11_count_24 _ _ _ _ _ _ ?_
        simp only [bX11_count_24, qsem, qopt_s, qopt2_s, qev, qxs, Nat.reduceEqDiff, reduceIte, and_true, true_and, and_false, false_and, and_self, or_true, true_or, qb_or, reduceCtorEq, qbr_True, qbr_False, q10, q01, qwM, pjx hS, h1.1.2.2.2.2.2.1, qb_0]
        refine qbr_i (fun c1 => ?_) (fun c1 => ?_)
        · refine oX11_count_31 _ _ _ _ _ _ ?_
          simp only [bX11_count_31, qsem, qopt_s, qopt2_s, qev, qxs, Nat.reduceEqDiff, reduceIte, and_true, true_and, and_false, false_and, and_self, or_true, true_or, qb_or, reduceCtorEq, qbr_True, qbr_False, q10, q01, qwM, pjx hS, h1.1.2.2.2.2.2.1, qb_0]
          first | (exact stp M1 false hS1 (by rw [← hb1, c1])) | (exact stp M1 true hS1 (by rw [← hb1, show b1 = true by simpa using c1]))
        · first | (exact stp M1 false hS1 (by rw [← hb1, c1])) | (exact stp M1 true hS1 (by rw [← hb1, show b1 = true by simpa using c1]))
    exact loop (cS S) 0 M (by omega) hS
  · by_cases hz : cS S = 0
    · refine oX11_count_4 _ _ _ _ _ _ ?_
      simp only [bX11_count_4, qsem, qopt_s, qopt2_s, qev, qxs, Nat.reduceEqDiff, reduceIte, and_true, true_and, and_false, false_and, and_self, or_true, true_or, qb_or, reduceCtorEq, qbr_True, qbr_False, q10, q01, qwM, pjx hS, h1.1.2.2.2.2.2.1, hz]
      refine qbr_t ((by decide)) ?_
      exact sw41 M 0 _ hS (fun q => absurd q h6)
    · refine oX11_count_4 _ _ _ _ _ _ ?_
      simp only [bX11_count_4, qsem, qopt_s, qopt2_s, qev, qxs, Nat.reduceEqDiff, reduceIte, and_true, true_and, and_false, false_and, and_self, or_true, true_or, qb_or, reduceCtorEq, qbr_True, qbr_False, q10, q01, qwM, pjx hS, h1.1.2.2.2.2.2.1]
      refine qbr_f (nI_ge (a := 0) (by omega) (by omega)) ?_
      refine qbr_f (h6) ?_
      exact sw41 M 0 _ hS (fun q => absurd q h6)


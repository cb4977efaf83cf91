/-- the makers as a number -/
noncomputable def mkL (S : qS) (f : Nat) : Nat → Nat
  | 0 => 0
  | n + 1 => if dc (srt S n < 2 ∧ reach S f (ofN S n)) then mkL S f n ||| 2 ^ hnd S n else mkL S f n
noncomputable def mkN (S : qS) (f : Nat) : Nat := mkL S f (cN S)
theorem mkN_ok {S : qS} (h2 : W2 S) (f : Nat) : mkP S f (mkN S f) := by
  have key : ∀ n, n ≤ cN S → mkL S f n < 4096 ∧ ∀ h, h < 12 → ((mkL S f n).testBit h = true ↔ ∃ n', n' < n ∧ srt S n' < 2 ∧ hnd S n' = h ∧ reach S f (ofN S n')) := by
    intro n
    induction n with
    | zero => intro _; exact ⟨by simp [mkL], fun h _ => by simp [mkL]⟩
    | succ n ih =>
      intro hn
      obtain ⟨a, b⟩ := ih (by omega)
      have lh := (h2 n (by omega)).2.2.1.2
      unfold mkL
      by_cases hd : srt S n < 2 ∧ reach S f (ofN S n)
      · rw [if_pos (dc_iff.mpr hd)]
        refine ⟨or_lt a lh, fun h hh => ?_⟩
        rw [tb_or, b h hh]
        constructor
        · rintro (⟨n', q1, q2, q3, q4⟩ | e)
          · exact ⟨n', by omega, q2, q3, q4⟩
          · exact ⟨n, by omega, hd.1, e.symm, hd.2⟩
        · rintro ⟨n', q1, q2, q3, q4⟩
          by_cases e : n' = n
          · subst e; exact Or.inr q3.symm
          · exact Or.inl ⟨n', by omega, q2, q3, q4⟩
      · rw [if_neg (fun q => hd (dc_iff.mp q))]
        refine ⟨a, fun h hh => ?_⟩
        rw [b h hh]
        constructor
        · rintro ⟨n', q1, q2, q3, q4⟩; exact ⟨n', by omega, q2, q3, q4⟩
        · rintro ⟨n', q1, q2, q3, q4⟩
          by_cases e : n' = n
          · subst e; exact absurd ⟨q2, q4⟩ hd
          · exact ⟨n', by omega, q2, q3, q4⟩
  exact key (cN S) (Nat.le_refl _)
theorem mkP_eq {S : qS} (h2 : W2 S) {f m : Nat} (h : mkP S f m) : m = mkN S f := mkP_one h (mkN_ok h2 f)
noncomputable def fiV (S : qS) (f k : Nat) : Int32 := if k = 0 then qb (dc (cln S f)) else if k = 1 then qb (dc (cal S f)) else if k = 2 then nI (hwt S 2 f 0) else if k = 3 then nI (hwt S 3 f (mkN S f)) else if k = 4 then nI (pc12 (bdb S f (cN S))) else if k = 5 then nI (fb_ct (fun g => dc (reach S f g)) (cF S)) else if k = 6 then nI (mkN S f) else if k = 7 then plc S (nI f) else nI (fb_ct (fun s => decide (ofN S (sln S s) = f) && dc (std S s)) (cS S))
set_option maxRecDepth 100000 in
set_option maxHeartbeats 4000000 in
theorem zX11_file {C M : qC} {r : Nat × Nat × Nat} {S : qS} {a what : Int32} (hS : pj M = S) (h1 : W1 S) (h2 : W2 S) (h4 : W4 S) (h5 : W5 S) : CT mX11_file 5 0 0 [.ref 136, .int a, .int what] (wd C M r) (fun r' w' => ∃ M', w' = wd C M' r ∧ pj M' = S ∧ r' = some (.int (if isF S a then sel8 what (fiV S a.toNatClampNeg) else -1))) := by
  have hN := h1.2.1
  have hF := h1.2.2.1
  have hcs := h1.2.2.2.2.2.2.1
  refine eX11_file (AW_gen (fun Q hQ => ?_))
  by_cases hk : isF S a = true
  · obtain ⟨f, hf, rfl⟩ := isF_of h1 hk
    have ecl := nIcl (show f < 1000 by omega)
    have eb : ∀ (c : Nat) (b : Bool), nI c + qb b = nI (c + if b = true then 1 else 0) := fun c b => by cases b <;> simp [qb, nI_1]
    have loop5 : ∀ (M : qC) (ρ : Nat → Bool), pj M = S → rB M 157 ρ → (∀ i, ρ i = true ↔ reach S f i) → what = 5 → ∀ (j k : Nat), k + j = cF S → AW (mX11_file, 5, 0, 0, none, Q) 126 [some (.ref 136), some (.int (nI f)), some (.int what), some (.int (nI (fb_ct (fun g => dc (reach S f g)) k))), some (.int (nI k))] [] (wd C M r) 0 0 := by
      intro M ρ hS hr hρ sw j
      induction j with
      | zero =>
        intro k hk2
        obtain rfl : k = cF S := by omega
        refine oX11_file_126 _ _ _ _ _ _ ?_
        simp only [bX11_file_126, qsem, qopt_s, qopt2_s, qev, qxs, Nat.reduceEqDiff, reduceIte, and_true, true_and, and_false, false_and, and_self, or_true, true_or, qb_or, reduceCtorEq, qbr_True, qbr_False, q10, q01, qwM, pjx hS, h1.1.2.1]
        refine qbr_t ((Int32.le_refl _)) ?_
        refine oX11_file_159 _ _ _ _ _ _ ?_
        simp only [bX11_file_159, qsem, qopt_s, qopt2_s, qev, qxs, Nat.reduceEqDiff, reduceIte, and_true, true_and, and_false, false_and, and_self, or_true, true_or, qb_or, reduceCtorEq, qbr_True, qbr_False, q10, q01, qwM, pjx hS, h1.1.2.1]
        exact hQ _ _ ⟨M, rfl, hS, ri (by rw [if_pos hk, ecl, sw]; rfl)⟩
      | succ j ih =>
        intro k hk2
        have hh := ih (k + 1) (by omega)
        rw [fb_ct_succ, ← dc_of (hρ k)] at hh
        have stp : AW (mX11_file, 5, 0, 0, none, Q) 151 [some (.ref 136), some (.int (nI f)), some (.int what), some (.int (nI (fb_ct (fun g => dc (reach S f g)) k))), some (.int (nI k))] [.int (qb (ρ k)), .int (nI (fb_ct (fun g => dc (reach S f g)) k))] (wd C M r) 0 0 := by
          refine oX11_file_151 _ _ _ _ _ _ ?_
          simp only [bX11_file_151, qsem, qopt_s, qopt2_s, qev, qxs, Nat.reduceEqDiff, reduceIte, and_true, true_and, and_false, false_and, and_self, or_true, true_or, qb_or, reduceCtorEq, qbr_True, qbr_False, q10, q01, qwM, eb, nI_1]
          exact hh
        refine oX11_file_126 _ _ _ _ _ _ ?_
        simp only [bX11_file_126, qsem, qopt_s, qopt2_s, qev, qxs, Nat.reduceEqDiff, reduceIte, and_true, true_and, and_false, false_and, and_self, or_true, true_or, qb_or, reduceCtorEq, qbr_True, qbr_False, q10, q01, qwM, pjx hS, h1.1.2.1, nIcl (show k < 1000 by omega), rB_at hr (show k < 100 by omega), qb_0]
        refine qbr_f (nI_ge (by omega) (by omega)) ?_
        refine ⟨nI_vp (by omega) (by omega), ?_⟩
        refine qbr_i (fun c1 => ?_) (fun c1 => ?_)
        · refine oX11_file_150 _ _ _ _ _ _ ?_
          simp only [bX11_file_150, qsem, qopt_s, qopt2_s, qev, qxs, Nat.reduceEqDiff, reduceIte, and_true, true_and, and_false, false_and, and_self, or_true, true_or, qb_or, reduceCtorEq, qbr_True, qbr_False, q10, q01, qwM, pjx hS, h1.1.2.1, nIcl (show k < 1000 by omega), rB_at hr (show k < 100 by omega), qb_0]
          first | (rw [c1] at stp; exact stp) | (rw [show ρ k = true from (Bool.not_eq_false _).mp c1] at stp; exact stp)
        · first | (rw [c1] at stp; exact stp) | (rw [show ρ k = true from (Bool.not_eq_false _).mp c1] at stp; exact stp)
    have loop8 : what = 8 → ∀ (j s : Nat) (M : qC), s + j = cS S → pj M = S → AW (mX11_file, 5, 0, 0, none, Q) 176 [some (.ref 136), some (.int (nI f)), some (.int what), some (.int (nI (fb_ct (fun s => decide (ofN S (sln S s) = f) && dc (std S s)) s))), some (.int (nI s))] [] (wd C M r) 0 0 := by
      intro sw j
      induction j with
      | zero =>
        intro s M hs hS
        obtain rfl : s = cS S := by omega
        refine oX11_file_176 _ _ _ _ _ _ ?_
        simp only [bX11_file_176, qsem, qopt_s, qopt2_s, qev, qxs, Nat.reduceEqDiff, reduceIte, and_true, true_and, and_false, false_and, and_self, or_true, true_or, qb_or, reduceCtorEq, qbr_True, qbr_False, q10, q01, qwM, pjx hS, h1.1.2.2.2.2.2.1]
        refine qbr_t ((Int32.le_refl _)) ?_
        refine oX11_file_224 _ _ _ _ _ _ ?_
        simp only [bX11_file_224, qsem, qopt_s, qopt2_s, qev, qxs, Nat.reduceEqDiff, reduceIte, and_true, true_and, and_false, false_and, and_self, or_true, true_or, qb_or, reduceCtorEq, qbr_True, qbr_False, q10, q01, qwM, pjx hS, h1.1.2.2.2.2.2.1]
        exact hQ _ _ ⟨M, rfl, hS, ri (by rw [if_pos hk, ecl, sw]; rfl)⟩
      | succ j ih =>
        intro s M hs hS
        obtain ⟨⟨e1, l1⟩, -⟩ := h4 s (by omega)
        obtain ⟨-, ⟨eo, lo⟩, -, -⟩ := h2 _ l1
        have stp : ∀ (M : qC) (b : Bool), pj M = S → b = (decide (ofN S (sln S s) = f) && dc (std S s)) → AW (mX11_file, 5, 0, 0, none, Q) 216 [some (.ref 136), some (.int (nI f)), some (.int what), some (.int (nI (fb_ct (fun s => decide (ofN S (sln S s) = f) && dc (std S s)) s))), some (.int (nI s))] [.int (qb b), .int (nI (fb_ct (fun s => decide (ofN S (sln S s) = f) && dc (std S s)) s))] (wd C M r) 0 0 := by
          intro M b hS hb
          have hh := ih (s + 1) M (by omega) hS
          rw [fb_ct_succ, ← hb] at hh
          refine oX11_file_216 _ _ _ _ _ _ ?_
          simp only [bX11_file_216, qsem, qopt_s, qopt2_s, qev, qxs, Nat.reduceEqDiff, reduceIte, and_true, true_and, and_false, false_and, and_self, or_true, true_or, qb_or, reduceCtorEq, qbr_True, qbr_False, q10, q01, qwM, eb, nI_1]
          exact hh
        refine oX11_file_176 _ _ _ _ _ _ ?_
        simp only [bX11_file_176, qsem, qopt_s, qopt2_s, qev, qxs, Nat.reduceEqDiff, reduceIte, and_true, true_and, and_false, false_and, and_self, or_true, true_or, qb_or, reduceCtorEq, qbr_True, qbr_False, q10, q01, qwM, pjx hS, h1.1.2.2.2.2.2.1, nIcl (show s < 1000 by omega), e1, nIcl (show sln S s < 1000 by omega), eo, nIeq (show ofN S (sln S s) < 1000 by omega) (show f < 1000 by omega), qb_0]
        refine qbr_f (nI_ge (by omega) (by omega)) ?_
        refine ⟨nI_vp (by omega) (by omega), ?_⟩
        refine ⟨nI_vp (by omega) (by omega), ?_⟩
        refine qbr_i (fun c1 => ?_) (fun c1 => ?_)
        · refine kX11_file_205 (zX11_stands hS h1 h2 h4 h5 (show s < cS S by omega)) rfl (Nat.le_of_ble_eq_true rfl) (Nat.le_of_ble_eq_true rfl) ⟨Nat.le_of_ble_eq_true rfl, Nat.le_of_ble_eq_true rfl⟩ ?_
          rintro _ _ ⟨M1, b1, rfl, hS1, rfl, hb1⟩
          refine oX11_file_208 _ _ _ _ _ _ ?_
          simp only [bX11_file_208, qsem, qopt_s, qopt2_s, qev, qxs, Nat.reduceEqDiff, reduceIte, and_true, true_and, and_false, false_and, and_self, or_true, true_or, qb_or, reduceCtorEq, qbr_True, qbr_False, q10, q01, qwM, pjx hS, h1.1.2.2.2.2.2.1, nIcl (show s < 1000 by omega), e1, nIcl (show sln S s < 1000 by omega), eo, nIeq (show ofN S (sln S s) < 1000 by omega) (show f < 1000 by omega), qb_0]
          refine qbr_i (fun c2 => ?_) (fun c2 => ?_)
          · refine oX11_file_215 _ _ _ _ _ _ ?_
            simp only [bX11_file_215, qsem, qopt_s, qopt2_s, qev, qxs, Nat.reduceEqDiff, reduceIte, and_true, true_and, and_false, false_and, and_self, or_true, true_or, qb_or, reduceCtorEq, qbr_True, qbr_False, q10, q01, qwM, pjx hS, h1.1.2.2.2.2.2.1, nIcl (show s < 1000 by omega), e1, nIcl (show sln S s < 1000 by omega), eo, nIeq (show ofN S (sln S s) < 1000 by omega) (show f < 1000 by omega), qb_0]
            first | exact stp M false hS (by rw [decide_eq_false c1]; rfl) | exact stp M1 false hS1 (by rw [← dc_of hb1, c2, Bool.and_false]) | exact stp M1 true hS1 (by rw [← dc_of hb1, (Bool.not_eq_false _).mp c2, decide_eq_true c1]; rfl)
          · first | exact stp M false hS (by rw [decide_eq_false c1]; rfl) | exact stp M1 false hS1 (by rw [← dc_of hb1, c2, Bool.and_false]) | exact stp M1 true hS1 (by rw [← dc_of hb1, (Bool.not_eq_false _).mp c2, decide_eq_true c1]; rfl)
        · refine oX11_file_215 _ _ _ _ _ _ ?_
          simp only [bX11_file_215, qsem, qopt_s, qopt2_s, qev, qxs, Nat.reduceEqDiff, reduceIte, and_true, true_and, and_false, false_and, and_self, or_true, true_or, qb_or, reduceCtorEq, qbr_True, qbr_False, q10, q01, qwM, pjx hS, h1.1.2.2.2.2.2.1, nIcl (show s < 1000 by omega), e1, nIcl (show sln S s < 1000 by omega), eo, nIeq (show ofN S (sln S s) < 1000 by omega) (show f < 1000 by omega), qb_0]
          first | exact stp M false hS (by rw [decide_eq_false c1]; rfl) | exact stp M1 false hS1 (by rw [← dc_of hb1, c2, Bool.and_false]) | exact stp M1 true hS1 (by rw [← dc_of hb1, (Bool.not_eq_false _).mp c2, decide_eq_true c1]; rfl)
    refine oX11_file_0 _ _ _ _ _ _ ?_
    simp only [bX11_file_0, qsem, qopt_s, qopt2_s, qev, qxs, Nat.reduceEqDiff, reduceIte, and_true, true_and, and_false, false_and, and_self, or_true, true_or, qb_or, reduceCtorEq, qbr_True, qbr_False, q10, q01, qwM, hk, qb_t, qb_0]
    refine kX11_file_2 (zX11_isFile hS h1) rfl (Nat.le_of_ble_eq_true rfl) (Nat.le_of_ble_eq_true rfl) ⟨Nat.le_of_ble_eq_true rfl, Nat.le_of_ble_eq_true rfl⟩ ?_
    rintro _ _ ⟨rfl, rfl⟩
    refine oX11_file_5 _ _ _ _ _ _ ?_
    simp only [bX11_file_5, qsem, qopt_s, qopt2_s, qev, qxs, Nat.reduceEqDiff, reduceIte, and_true, true_and, and_false, false_and, and_self, or_true, true_or, qb_or, reduceCtorEq, qbr_True, qbr_False, q10, q01, qwM, hk, qb_t, qb_0]
    refine oX11_file_10 _ _ _ _ _ _ ?_
    simp only [bX11_file_10, qsem, qopt_s, qopt2_s, qev, qxs, Nat.reduceEqDiff, reduceIte, and_true, true_and, and_false, false_and, and_self, or_true, true_or, qb_or, reduceCtorEq, qbr_True, qbr_False, q10, q01, qwM, hk, qb_t, qb_0]
    refine uX11_file_13 (fun sw => ?_) (fun sw => ?_) (fun sw => ?_) (fun sw => ?_) (fun sw => ?_) (fun sw => ?_) (fun sw => ?_) (fun sw => ?_) (fun sw => ?_) (fun sw0 sw1 sw2 sw3 sw4 sw5 sw6 sw7 sw8 => ?_)
    · refine oX11_file_64 _ _ _ _ _ _ ?_
      simp only [bX11_file_64, qsem, qopt_s, qopt2_s, qev, qxs, Nat.reduceEqDiff, reduceIte, and_true, true_and, and_false, false_and, and_self, or_true, true_or, qb_or, reduceCtorEq, qbr_True, qbr_False, q10, q01, qwM, hk, qb_t, qb_0]
      refine kX11_file_66 (zX11_isClean hS h1 h2 hf) rfl (Nat.le_of_ble_eq_true rfl) (Nat.le_of_ble_eq_true rfl) ⟨Nat.le_of_ble_eq_true rfl, Nat.le_of_ble_eq_true rfl⟩ ?_
      rintro _ _ ⟨M1, ρ1, rfl, hS1, hr1, hi1, rfl⟩
      refine oX11_file_69 _ _ _ _ _ _ ?_
      simp only [bX11_file_69, qsem, qopt_s, qopt2_s, qev, qxs, Nat.reduceEqDiff, reduceIte, and_true, true_and, and_false, false_and, and_self, or_true, true_or, qb_or, reduceCtorEq, qbr_True, qbr_False, q10, q01, qwM, hk, qb_t, qb_0]
      refine qbr_i (fun c1 => ?_) (fun c1 => ?_)
      · refine oX11_file_76 _ _ _ _ _ _ ?_
        simp only [bX11_file_76, qsem, qopt_s, qopt2_s, qev, qxs, Nat.reduceEqDiff, reduceIte, and_true, true_and, and_false, false_and, and_self, or_true, true_or, qb_or, reduceCtorEq, qbr_True, qbr_False, q10, q01, qwM, hk, qb_t, qb_0]
        refine oX11_file_77 _ _ _ _ _ _ ?_
        simp only [bX11_file_77, qsem, qopt_s, qopt2_s, qev, qxs, Nat.reduceEqDiff, reduceIte, and_true, true_and, and_false, false_and, and_self, or_true, true_or, qb_or, reduceCtorEq, qbr_True, qbr_False, q10, q01, qwM, hk, qb_t, qb_0]
        (first | (exact hQ _ _ ⟨M, rfl, hS, ri (by rw [if_pos hk, ecl, sw]; rfl)⟩; done) | (exact hQ _ _ ⟨M1, rfl, hS1, ri (by rw [if_pos hk, ecl, sw, mkP_eq h2 hm1]; rfl)⟩; done) | (exact hQ _ _ ⟨M1, rfl, hS1, ri (by rw [if_pos hk, ecl, sw]; refine Eq.trans ?_ (show qb (dc (cln S f)) = _ from rfl); rw [← dc_of (hi1 f)]; first | (rw [c1]; rfl) | (rw [(Bool.not_eq_false _).mp c1]; rfl))⟩; done) | (exact hQ _ _ ⟨M1, rfl, hS1, ri (by rw [if_pos hk, ecl, sw]; refine Eq.trans ?_ (show qb (dc (cal S f)) = _ from rfl); rw [← dc_of hb1]; first | (rw [c1]; rfl) | (rw [(Bool.not_eq_false _).mp c1]; rfl))⟩; done) | (exact hQ _ _ ⟨M, rfl, hS, ri (by rw [if_pos hk]; unfold sel8; simp only [sw0, sw1, sw2, sw3, sw4, sw5, sw6, sw7, sw8, if_false])⟩; done))
      · refine oX11_file_77 _ _ _ _ _ _ ?_
        simp only [bX11_file_77, qsem, qopt_s, qopt2_s, qev, qxs, Nat.reduceEqDiff, reduceIte, and_true, true_and, and_false, false_and, and_self, or_true, true_or, qb_or, reduceCtorEq, qbr_True, qbr_False, q10, q01, qwM, hk, qb_t, qb_0]
        (first | (exact hQ _ _ ⟨M, rfl, hS, ri (by rw [if_pos hk, ecl, sw]; rfl)⟩; done) | (exact hQ _ _ ⟨M1, rfl, hS1, ri (by rw [if_pos hk, ecl, sw, mkP_eq h2 hm1]; rfl)⟩; done) | (exact hQ _ _ ⟨M1, rfl, hS1, ri (by rw [if_pos hk, ecl, sw]; refine Eq.trans ?_ (show qb (dc (cln S f)) = _ from rfl); rw [← dc_of (hi1 f)]; first | (rw [c1]; rfl) | (rw [(Bool.not_eq_false _).mp c1]; rfl))⟩; done) | (exact hQ _ _ ⟨M1, rfl, hS1, ri (by rw [if_pos hk, ecl, sw]; refine Eq.trans ?_ (show qb (dc (cal S f)) = _ from rfl); rw [← dc_of hb1]; first | (rw [c1]; rfl) | (rw [(Bool.not_eq_false _).mp c1]; rfl))⟩; done) | (exact hQ _ _ ⟨M, rfl, hS, ri (by rw [if_pos hk]; unfold sel8; simp only [sw0, sw1, sw2, sw3, sw4, sw5, sw6, sw7, sw8, if_false])⟩; done))
    · refine oX11_file_78 _ _ _ _ _ _ ?_
      simp only [bX11_file_78, qsem, qopt_s, qopt2_s, qev, qxs, Nat.reduceEqDiff, reduceIte, and_true, true_and, and_false, false_and, and_self, or_true, true_or, qb_or, reduceCtorEq, qbr_True, qbr_False, q10, q01, qwM, hk, qb_t, qb_0]
      refine kX11_file_80 (zX11_isCalled hS h1 h2 h5 hf) rfl (Nat.le_of_ble_eq_true rfl) (Nat.le_of_ble_eq_true rfl) ⟨Nat.le_of_ble_eq_true rfl, Nat.le_of_ble_eq_true rfl⟩ ?_
      rintro _ _ ⟨M1, b1, rfl, hS1, rfl, hb1⟩
      refine oX11_file_83 _ _ _ _ _ _ ?_
      simp only [bX11_file_83, qsem, qopt_s, qopt2_s, qev, qxs, Nat.reduceEqDiff, reduceIte, and_true, true_and, and_false, false_and, and_self, or_true, true_or, qb_or, reduceCtorEq, qbr_True, qbr_False, q10, q01, qwM, hk, qb_t, qb_0]
      refine qbr_i (fun c1 => ?_) (fun c1 => ?_)
      · refine oX11_file_90 _ _ _ _ _ _ ?_
        simp only [bX11_file_90, qsem, qopt_s, qopt2_s, qev, qxs, Nat.reduceEqDiff, reduceIte, and_true, true_and, and_false, false_and, and_self, or_true, true_or, qb_or, reduceCtorEq, qbr_True, qbr_False, q10, q01, qwM, hk, qb_t, qb_0]
        refine oX11_file_91 _ _ _ _ _ _ ?_
        simp only [bX11_file_91, qsem, qopt_s, qopt2_s, qev, qxs, Nat.reduceEqDiff, reduceIte, and_true, true_and, and_false, false_and, and_self, or_true, true_or, qb_or, reduceCtorEq, qbr_True, qbr_False, q10, q01, qwM, hk, qb_t, qb_0]
        (first | (exact hQ _ _ ⟨M, rfl, hS, ri (by rw [if_pos hk, ecl, sw]; rfl)⟩; done) | (exact hQ _ _ ⟨M1, rfl, hS1, ri (by rw [if_pos hk, ecl, sw, mkP_eq h2 hm1]; rfl)⟩; done) | (exact hQ _ _ ⟨M1, rfl, hS1, ri (by rw [if_pos hk, ecl, sw]; refine Eq.trans ?_ (show qb (dc (cln S f)) = _ from rfl); rw [← dc_of (hi1 f)]; first | (rw [c1]; rfl) | (rw [(Bool.not_eq_false _).mp c1]; rfl))⟩; done) | (exact hQ _ _ ⟨M1, rfl, hS1, ri (by rw [if_pos hk, ecl, sw]; refine Eq.trans ?_ (show qb (dc (cal S f)) = _ from rfl); rw [← dc_of hb1]; first | (rw [c1]; rfl) | (rw [(Bool.not_eq_false _).mp c1]; rfl))⟩; done) | (exact hQ _ _ ⟨M, rfl, hS, ri (by rw [if_pos hk]; unfold sel8; simp only [sw0, sw1, sw2, sw3, sw4, sw5, sw6, sw7, sw8, if_false])⟩; done))
      · refine oX11_file_91 _ _ _ _ _ _ ?_
        simp only [bX11_file_91, qsem, qopt_s, qopt2_s, qev, qxs, Nat.reduceEqDiff, reduceIte, and_true, true_and, and_false, false_and, and_self, or_true, true_or, qb_or, reduceCtorEq, qbr_True, qbr_False, q10, q01, qwM, hk, qb_t, qb_0]
        (first | (exact hQ _ _ ⟨M, rfl, hS, ri (by rw [if_pos hk, ecl, sw]; rfl)⟩; done) | (exact hQ _ _ ⟨M1, rfl, hS1, ri (by rw [if_pos hk, ecl, sw, mkP_eq h2 hm1]; rfl)⟩; done) | (exact hQ _ _ ⟨M1, rfl, hS1, ri (by rw [if_pos hk, ecl, sw]; refine Eq.trans ?_ (show qb (dc (cln S f)) = _ from rfl); rw [← dc_of (hi1 f)]; first | (rw [c1]; rfl) | (rw [(Bool.not_eq_false _).mp c1]; rfl))⟩; done) | (exact hQ _ _ ⟨M1, rfl, hS1, ri (by rw [if_pos hk, ecl, sw]; refine Eq.trans ?_ (show qb (dc (cal S f)) = _ from rfl); rw [← dc_of hb1]; first | (rw [c1]; rfl) | (rw [(Bool.not_eq_false _).mp c1]; rfl))⟩; done) | (exact hQ _ _ ⟨M, rfl, hS, ri (by rw [if_pos hk]; unfold sel8; simp only [sw0, sw1, sw2, sw3, sw4, sw5, sw6, sw7, sw8, if_false])⟩; done))
    · refine oX11_file_92 _ _ _ _ _ _ ?_
      simp only [bX11_file_92, qsem, qopt_s, qopt2_s, qev, qxs, Nat.reduceEqDiff, reduceIte, and_true, true_and, and_false, false_and, and_self, or_true, true_or, qb_or, reduceCtorEq, qbr_True, qbr_False, q10, q01, qwM, hk, qb_t, qb_0]
      refine kX11_file_96 (zX11_handsWith (s := 2) (wo := 0) hS h1 h2 (by omega) hf (by omega)) rfl (Nat.le_of_ble_eq_true rfl) (Nat.le_of_ble_eq_true rfl) ⟨Nat.le_of_ble_eq_true rfl, Nat.le_of_ble_eq_true rfl⟩ ?_
      rintro _ _ ⟨rfl, rfl⟩
      refine oX11_file_99 _ _ _ _ _ _ ?_
      simp only [bX11_file_99, qsem, qopt_s, qopt2_s, qev, qxs, Nat.reduceEqDiff, reduceIte, and_true, true_and, and_false, false_and, and_self, or_true, true_or, qb_or, reduceCtorEq, qbr_True, qbr_False, q10, q01, qwM, hk, qb_t, qb_0]
      (first | (exact hQ _ _ ⟨M, rfl, hS, ri (by rw [if_pos hk, ecl, sw]; rfl)⟩; done) | (exact hQ _ _ ⟨M1, rfl, hS1, ri (by rw [if_pos hk, ecl, sw, mkP_eq h2 hm1]; rfl)⟩; done) | (exact hQ _ _ ⟨M1, rfl, hS1, ri (by rw [if_pos hk, ecl, sw]; refine Eq.trans ?_ (show qb (dc (cln S f)) = _ from rfl); rw [← dc_of (hi1 f)]; first | (rw [c1]; rfl) | (rw [(Bool.not_eq_false _).mp c1]; rfl))⟩; done) | (exact hQ _ _ ⟨M1, rfl, hS1, ri (by rw [if_pos hk, ecl, sw]; refine Eq.trans ?_ (show qb (dc (cal S f)) = _ from rfl); rw [← dc_of hb1]; first | (rw [c1]; rfl) | (rw [(Bool.not_eq_false _).mp c1]; rfl))⟩; done) | (exact hQ _ _ ⟨M, rfl, hS, ri (by rw [if_pos hk]; unfold sel8; simp only [sw0, sw1, sw2, sw3, sw4, sw5, sw6, sw7, sw8, if_false])⟩; done))
    · refine oX11_file_100 _ _ _ _ _ _ ?_
      simp only [bX11_file_100, qsem, qopt_s, qopt2_s, qev, qxs, Nat.reduceEqDiff, reduceIte, and_true, true_and, and_false, false_and, and_self, or_true, true_or, qb_or, reduceCtorEq, qbr_True, qbr_False, q10, q01, qwM, hk, qb_t, qb_0]
      refine kX11_file_105 (zX11_makersOf hS h1 h2 hf) rfl (Nat.le_of_ble_eq_true rfl) (Nat.le_of_ble_eq_true rfl) ⟨Nat.le_of_ble_eq_true rfl, Nat.le_of_ble_eq_true rfl⟩ ?_
      rintro _ _ ⟨M1, m1, rfl, hS1, hm1, rfl⟩
      refine kX11_file_108 (zX11_handsWith (s := 3) hS1 h1 h2 (by omega) hf hm1.1) rfl (Nat.le_of_ble_eq_true rfl) (Nat.le_of_ble_eq_true rfl) ⟨Nat.le_of_ble_eq_true rfl, Nat.le_of_ble_eq_true rfl⟩ ?_
      rintro _ _ ⟨rfl, rfl⟩
      refine oX11_file_111 _ _ _ _ _ _ ?_
      simp only [bX11_file_111, qsem, qopt_s, qopt2_s, qev, qxs, Nat.reduceEqDiff, reduceIte, and_true, true_and, and_false, false_and, and_self, or_true, true_or, qb_or, reduceCtorEq, qbr_True, qbr_False, q10, q01, qwM, hk, qb_t, qb_0]
      (first | (exact hQ _ _ ⟨M, rfl, hS, ri (by rw [if_pos hk, ecl, sw]; rfl)⟩; done) | (exact hQ _ _ ⟨M1, rfl, hS1, ri (by rw [if_pos hk, ecl, sw, mkP_eq h2 hm1]; rfl)⟩; done) | (exact hQ _ _ ⟨M1, rfl, hS1, ri (by rw [if_pos hk, ecl, sw]; refine Eq.trans ?_ (show qb (dc (cln S f)) = _ from rfl); rw [← dc_of (hi1 f)]; first | (rw [c1]; rfl) | (rw [(Bool.not_eq_false _).mp c1]; rfl))⟩; done) | (exact hQ _ _ ⟨M1, rfl, hS1, ri (by rw [if_pos hk, ecl, sw]; refine Eq.trans ?_ (show qb (dc (cal S f)) = _ from rfl); rw [← dc_of hb1]; first | (rw [c1]; rfl) | (rw [(Bool.not_eq_false _).mp c1]; rfl))⟩; done) | (exact hQ _ _ ⟨M, rfl, hS, ri (by rw [if_pos hk]; unfold sel8; simp only [sw0, sw1, sw2, sw3, sw4, sw5, sw6, sw7, sw8, if_false])⟩; done))
    · refine oX11_file_112 _ _ _ _ _ _ ?_
      simp only [bX11_file_112, qsem, qopt_s, qopt2_s, qev, qxs, Nat.reduceEqDiff, reduceIte, and_true, true_and, and_false, false_and, and_self, or_true, true_or, qb_or, reduceCtorEq, qbr_True, qbr_False, q10, q01, qwM, hk, qb_t, qb_0]
      refine kX11_file_114 (zX11_builders hS h1 h2 hf) rfl (Nat.le_of_ble_eq_true rfl) (Nat.le_of_ble_eq_true rfl) ⟨Nat.le_of_ble_eq_true rfl, Nat.le_of_ble_eq_true rfl⟩ ?_
      rintro _ _ ⟨rfl, rfl⟩
      refine oX11_file_117 _ _ _ _ _ _ ?_
      simp only [bX11_file_117, qsem, qopt_s, qopt2_s, qev, qxs, Nat.reduceEqDiff, reduceIte, and_true, true_and, and_false, false_and, and_self, or_true, true_or, qb_or, reduceCtorEq, qbr_True, qbr_False, q10, q01, qwM, hk, qb_t, qb_0]
      (first | (exact hQ _ _ ⟨M, rfl, hS, ri (by rw [if_pos hk, ecl, sw]; rfl)⟩; done) | (exact hQ _ _ ⟨M1, rfl, hS1, ri (by rw [if_pos hk, ecl, sw, mkP_eq h2 hm1]; rfl)⟩; done) | (exact hQ _ _ ⟨M1, rfl, hS1, ri (by rw [if_pos hk, ecl, sw]; refine Eq.trans ?_ (show qb (dc (cln S f)) = _ from rfl); rw [← dc_of (hi1 f)]; first | (rw [c1]; rfl) | (rw [(Bool.not_eq_false _).mp c1]; rfl))⟩; done) | (exact hQ _ _ ⟨M1, rfl, hS1, ri (by rw [if_pos hk, ecl, sw]; refine Eq.trans ?_ (show qb (dc (cal S f)) = _ from rfl); rw [← dc_of hb1]; first | (rw [c1]; rfl) | (rw [(Bool.not_eq_false _).mp c1]; rfl))⟩; done) | (exact hQ _ _ ⟨M, rfl, hS, ri (by rw [if_pos hk]; unfold sel8; simp only [sw0, sw1, sw2, sw3, sw4, sw5, sw6, sw7, sw8, if_false])⟩; done))
    · refine oX11_file_118 _ _ _ _ _ _ ?_
      simp only [bX11_file_118, qsem, qopt_s, qopt2_s, qev, qxs, Nat.reduceEqDiff, reduceIte, and_true, true_and, and_false, false_and, and_self, or_true, true_or, qb_or, reduceCtorEq, qbr_True, qbr_False, q10, q01, qwM, hk, qb_t, qb_0]
      refine kX11_file_120 (zX11_rowOf hS h1 h2 hf) rfl (Nat.le_of_ble_eq_true rfl) (Nat.le_of_ble_eq_true rfl) ⟨Nat.le_of_ble_eq_true rfl, Nat.le_of_ble_eq_true rfl⟩ ?_
      rintro _ _ ⟨M1, ρ1, rfl, rfl, hS1, hr1, hi1⟩
      refine oX11_file_123 _ _ _ _ _ _ ?_
      simp only [bX11_file_123, qsem, qopt_s, qopt2_s, qev, qxs, Nat.reduceEqDiff, reduceIte, and_true, true_and, and_false, false_and, and_self, or_true, true_or, qb_or, reduceCtorEq, qbr_True, qbr_False, q10, q01, qwM, hk, qb_t, qb_0]
      exact loop5 M1 ρ1 hS1 hr1 hi1 sw (cF S) 0 (by omega)
    · refine oX11_file_161 _ _ _ _ _ _ ?_
      simp only [bX11_file_161, qsem, qopt_s, qopt2_s, qev, qxs, Nat.reduceEqDiff, reduceIte, and_true, true_and, and_false, false_and, and_self, or_true, true_or, qb_or, reduceCtorEq, qbr_True, qbr_False, q10, q01, qwM, hk, qb_t, qb_0]
      refine kX11_file_163 (zX11_makersOf hS h1 h2 hf) rfl (Nat.le_of_ble_eq_true rfl) (Nat.le_of_ble_eq_true rfl) ⟨Nat.le_of_ble_eq_true rfl, Nat.le_of_ble_eq_true rfl⟩ ?_
      rintro _ _ ⟨M1, m1, rfl, hS1, hm1, rfl⟩
      refine oX11_file_166 _ _ _ _ _ _ ?_
      simp only [bX11_file_166, qsem, qopt_s, qopt2_s, qev, qxs, Nat.reduceEqDiff, reduceIte, and_true, true_and, and_false, false_and, and_self, or_true, true_or, qb_or, reduceCtorEq, qbr_True, qbr_False, q10, q01, qwM, hk, qb_t, qb_0]
      (first | (exact hQ _ _ ⟨M, rfl, hS, ri (by rw [if_pos hk, ecl, sw]; rfl)⟩; done) | (exact hQ _ _ ⟨M1, rfl, hS1, ri (by rw [if_pos hk, ecl, sw, mkP_eq h2 hm1]; rfl)⟩; done) | (exact hQ _ _ ⟨M1, rfl, hS1, ri (by rw [if_pos hk, ecl, sw]; refine Eq.trans ?_ (show qb (dc (cln S f)) = _ from rfl); rw [← dc_of (hi1 f)]; first | (rw [c1]; rfl) | (rw [(Bool.not_eq_false _).mp c1]; rfl))⟩; done) | (exact hQ _ _ ⟨M1, rfl, hS1, ri (by rw [if_pos hk, ecl, sw]; refine Eq.trans ?_ (show qb (dc (cal S f)) = _ from rfl); rw [← dc_of hb1]; first | (rw [c1]; rfl) | (rw [(Bool.not_eq_false _).mp c1]; rfl))⟩; done) | (exact hQ _ _ ⟨M, rfl, hS, ri (by rw [if_pos hk]; unfold sel8; simp only [sw0, sw1, sw2, sw3, sw4, sw5, sw6, sw7, sw8, if_false])⟩; done))
    · refine oX11_file_167 _ _ _ _ _ _ ?_
      simp only [bX11_file_167, qsem, qopt_s, qopt2_s, qev, qxs, Nat.reduceEqDiff, reduceIte, and_true, true_and, and_false, false_and, and_self, or_true, true_or, qb_or, reduceCtorEq, qbr_True, qbr_False, q10, q01, qwM, hk, qb_t, qb_0]
      refine kX11_file_169 (zX11_placeOf hS h1) rfl (Nat.le_of_ble_eq_true rfl) (Nat.le_of_ble_eq_true rfl) ⟨Nat.le_of_ble_eq_true rfl, Nat.le_of_ble_eq_true rfl⟩ ?_
      rintro _ _ ⟨rfl, rfl⟩
      refine oX11_file_172 _ _ _ _ _ _ ?_
      simp only [bX11_file_172, qsem, qopt_s, qopt2_s, qev, qxs, Nat.reduceEqDiff, reduceIte, and_true, true_and, and_false, false_and, and_self, or_true, true_or, qb_or, reduceCtorEq, qbr_True, qbr_False, q10, q01, qwM, hk, qb_t, qb_0]
      (first | (exact hQ _ _ ⟨M, rfl, hS, ri (by rw [if_pos hk, ecl, sw]; rfl)⟩; done) | (exact hQ _ _ ⟨M1, rfl, hS1, ri (by rw [if_pos hk, ecl, sw, mkP_eq h2 hm1]; rfl)⟩; done) | (exact hQ _ _ ⟨M1, rfl, hS1, ri (by rw [if_pos hk, ecl, sw]; refine Eq.trans ?_ (show qb (dc (cln S f)) = _ from rfl); rw [← dc_of (hi1 f)]; first | (rw [c1]; rfl) | (rw [(Bool.not_eq_false _).mp c1]; rfl))⟩; done) | (exact hQ _ _ ⟨M1, rfl, hS1, ri (by rw [if_pos hk, ecl, sw]; refine Eq.trans ?_ (show qb (dc (cal S f)) = _ from rfl); rw [← dc_of hb1]; first | (rw [c1]; rfl) | (rw [(Bool.not_eq_false _).mp c1]; rfl))⟩; done) | (exact hQ _ _ ⟨M, rfl, hS, ri (by rw [if_pos hk]; unfold sel8; simp only [sw0, sw1, sw2, sw3, sw4, sw5, sw6, sw7, sw8, if_false])⟩; done))
    · refine oX11_file_173 _ _ _ _ _ _ ?_
      simp only [bX11_file_173, qsem, qopt_s, qopt2_s, qev, qxs, Nat.reduceEqDiff, reduceIte, and_true, true_and, and_false, false_and, and_self, or_true, true_or, qb_or, reduceCtorEq, qbr_True, qbr_False, q10, q01, qwM, hk, qb_t, qb_0]
      exact loop8 sw (cS S) 0 M (by omega) hS
    · refine oX11_file_226 _ _ _ _ _ _ ?_
      simp only [bX11_file_226, qsem, qopt_s, qopt2_s, qev, qxs, Nat.reduceEqDiff, reduceIte, and_true, true_and, and_false, false_and, and_self, or_true, true_or, qb_or, reduceCtorEq, qbr_True, qbr_False, q10, q01, qwM, hk, qb_t, qb_0]
      (first | (exact hQ _ _ ⟨M, rfl, hS, ri (by rw [if_pos hk, ecl, sw]; rfl)⟩; done) | (exact hQ _ _ ⟨M1, rfl, hS1, ri (by rw [if_pos hk, ecl, sw, mkP_eq h2 hm1]; rfl)⟩; done) | (exact hQ _ _ ⟨M1, rfl, hS1, ri (by rw [if_pos hk, ecl, sw]; refine Eq.trans ?_ (show qb (dc (cln S f)) = _ from rfl); rw [← dc_of (hi1 f)]; first | (rw [c1]; rfl) | (rw [(Bool.not_eq_false _).mp c1]; rfl))⟩; done) | (exact hQ _ _ ⟨M1, rfl, hS1, ri (by rw [if_pos hk, ecl, sw]; refine Eq.trans ?_ (show qb (dc (cal S f)) = _ from rfl); rw [← dc_of hb1]; first | (rw [c1]; rfl) | (rw [(Bool.not_eq_false _).mp c1]; rfl))⟩; done) | (exact hQ _ _ ⟨M, rfl, hS, ri (by rw [if_pos hk]; unfold sel8; simp only [sw0, sw1, sw2, sw3, sw4, sw5, sw6, sw7, sw8, if_false])⟩; done))
  · have hk : isF S a = false := (Bool.not_eq_true _).mp hk
    refine oX11_file_0 _ _ _ _ _ _ ?_
    simp only [bX11_file_0, qsem, qopt_s, qopt2_s, qev, qxs, Nat.reduceEqDiff, reduceIte, and_true, true_and, and_false, false_and, and_self, or_true, true_or, qb_or, reduceCtorEq, qbr_True, qbr_False, q10, q01, qwM, hk, qb_f]
    refine kX11_file_2 (zX11_isFile hS h1) rfl (Nat.le_of_ble_eq_true rfl) (Nat.le_of_ble_eq_true rfl) ⟨Nat.le_of_ble_eq_true rfl, Nat.le_of_ble_eq_true rfl⟩ ?_
    rintro _ _ ⟨rfl, rfl⟩
    refine oX11_file_5 _ _ _ _ _ _ ?_
    simp only [bX11_file_5, qsem, qopt_s, qopt2_s, qev, qxs, Nat.reduceEqDiff, reduceIte, and_true, true_and, and_false, false_and, and_self, or_true, true_or, qb_or, reduceCtorEq, qbr_True, qbr_False, q10, q01, qwM, hk, qb_f]
    exact hQ _ _ ⟨M, rfl, hS, ri (by rw [hk]; rfl)⟩


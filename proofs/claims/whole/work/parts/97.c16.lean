set_option maxRecDepth 100000 in
set_option maxHeartbeats 4000000 in
theorem zX1_judge {C M : qC} {S : qS} {r : Nat × Nat × Nat} {H : Nat → Nat → Nat → Bool} (hr : wR r) (hU : iU C S r H) : CT mX1_judge 4 0 0 [.ref 131, .ref r.1] (wd C M r) (fun r' w' => ∃ C', r' = none ∧ w' = wd C' M r ∧ p131 C C' r ∧ xI C' 131 2 = 1 ∧ jdN H true (xI C' 131 0) ∧ jdN H false (xI C' 131 1)) := by
  refine eX1_judge (AW_gen (fun Q hQ => ?_))
  rcases hU.2.2 with h0 | ⟨h1, hj1, hj2⟩
  · have hs : iUs C r H := hU.2.1
    have l1 : ∀ (d b : Nat) (C1 : qC) (o3 : Option Value), b + d = 13 → q_nb (some o3) = true → p131 C C1 r → xI C1 131 2 = 1 → jIn H (fun u' b' => u' ≤ 12 ∧ b' < b) (xI C1 131 0) (xI C1 131 1) → AW (mX1_judge, 4, 0, 0, none, Q) 25 [some (.ref 131), some (.ref r.1), some (.int (nI b)), o3] [] (wd C1 M r) 0 0 := by
      intro d
      induction d with
      | zero =>
        intro b C1 o3 hb q3 hp hk hj
        obtain rfl : b = 13 := by omega
        have he := jIn_end (fun u b hu hb => ⟨hu, by omega⟩) hj
        refine oX1_judge_25 _ _ _ _ _ _ ?_
        simp only [bX1_judge_25, qsem, qopt_s, qopt2_s, qev, qxs, Nat.reduceEqDiff, reduceIte, and_true, true_and, and_false, false_and, and_self, or_true, true_or, qb_or, reduceCtorEq, qbr_True, qbr_False, q10, q01, qwC]
        refine qbr_t ((by decide)) ?_
        refine oX1_judge_58 _ _ _ _ _ _ ?_
        simp only [bX1_judge_58, qsem, qopt_s, qopt2_s, qev, qxs, Nat.reduceEqDiff, reduceIte, and_true, true_and, and_false, false_and, and_self, or_true, true_or, qb_or, reduceCtorEq, qbr_True, qbr_False, q10, q01, qwC]
        exact hQ _ _ ⟨C1, rfl, rfl, hp, hk, he⟩
      | succ d ih =>
        intro b C1 o3 hb q3 hp hk hj
        have l2 : ∀ (e u : Nat) (C2 : qC), u + e = 13 → p131 C C2 r → xI C2 131 2 = 1 → jIn H (fun u' b' => u' ≤ 12 ∧ (b' < b ∨ (b' = b ∧ u' < u))) (xI C2 131 0) (xI C2 131 1) → AW (mX1_judge, 4, 0, 0, none, Q) 33 [some (.ref 131), some (.ref r.1), some (.int (nI b)), some (.int (nI u))] [] (wd C2 M r) 0 0 := by
          intro e
          induction e with
          | zero =>
            intro u C2 hu hp2 hk2 hj2
            obtain rfl : u = 13 := by omega
            have hj3 : jIn H (fun u' b' => u' ≤ 12 ∧ b' < b + 1) (xI C2 131 0) (xI C2 131 1) := by
              have hw : ∀ u' b', (u' ≤ 12 ∧ b' < b + 1) → (u' ≤ 12 ∧ (b' < b ∨ (b' = b ∧ u' < 13))) := fun u' b' q => ⟨q.1, by omega⟩
              rcases hj2 with ⟨a, b', c⟩ | ⟨n, x, a, b', c, d', e', f⟩
              · exact Or.inl ⟨a, b', fun u v n x q => c u v n x (hw u v q)⟩
              · exact Or.inr ⟨n, x, a, b', c, d', e', fun u v n' x' q => f u v n' x' (hw u v q)⟩
            refine oX1_judge_33 _ _ _ _ _ _ ?_
            simp only [bX1_judge_33, qsem, qopt_s, qopt2_s, qev, qxs, Nat.reduceEqDiff, reduceIte, and_true, true_and, and_false, false_and, and_self, or_true, true_or, qb_or, reduceCtorEq, qbr_True, qbr_False, q10, q01, qwC, nI_1]
            refine qbr_t ((by decide)) ?_
            refine oX1_judge_52 _ _ _ _ _ _ ?_
            simp only [bX1_judge_52, qsem, qopt_s, qopt2_s, qev, qxs, Nat.reduceEqDiff, reduceIte, and_true, true_and, and_false, false_and, and_self, or_true, true_or, qb_or, reduceCtorEq, qbr_True, qbr_False, q10, q01, qwC, nI_1]
            exact ih (b + 1) C2 _ (by omega) rfl hp2 hk2 hj3
          | succ e ihe =>
            intro u C2 hu hp2 hk2 hj2
            have hs2 : iUs C2 r H := iUs_cg (hp2.2.2.2 _ (by omega) (by omega)) hs
            refine oX1_judge_33 _ _ _ _ _ _ ?_
            simp only [bX1_judge_33, qsem, qopt_s, qopt2_s, qev, qxs, Nat.reduceEqDiff, reduceIte, and_true, true_and, and_false, false_and, and_self, or_true, true_or, qb_or, reduceCtorEq, qbr_True, qbr_False, q10, q01, qwC, nI_1]
            refine qbr_f (nI_nlt (b := u) (a := 12) (by omega) (by omega)) ?_
            refine kX1_judge_43 (zX1_weigh hr hs2 (show u ≤ 12 by omega) (show b ≤ 12 by omega) hj2) (rfl) (Nat.le_of_ble_eq_true rfl) (Nat.le_of_ble_eq_true rfl) ⟨Nat.le_of_ble_eq_true rfl, Nat.le_of_ble_eq_true rfl⟩ ?_
            rintro _ _ ⟨C3, rfl, rfl, hp3, hk3, hj3⟩
            refine oX1_judge_46 _ _ _ _ _ _ ?_
            simp only [bX1_judge_46, qsem, qopt_s, qopt2_s, qev, qxs, Nat.reduceEqDiff, reduceIte, and_true, true_and, and_false, false_and, and_self, or_true, true_or, qb_or, reduceCtorEq, qbr_True, qbr_False, q10, q01, qwC, nI_1]
            refine ihe (u + 1) C3 (by omega) (p131_tr hp2 hp3) (hk3.trans hk2) ?_
            have hw : ∀ u' b', (u' ≤ 12 ∧ (b' < b ∨ (b' = b ∧ u' < u + 1))) → ((u' ≤ 12 ∧ (b' < b ∨ (b' = b ∧ u' < u))) ∨ (u' = u ∧ b' = b)) := fun u' b' q => by omega
            rcases hj3 with ⟨a, b', c⟩ | ⟨n, x, a, b', c, d', e', f⟩
            · exact Or.inl ⟨a, b', fun u v n x q => c u v n x (hw u v q)⟩
            · exact Or.inr ⟨n, x, a, b', c, d', e', fun u v n' x' q => f u v n' x' (hw u v q)⟩
        refine oX1_judge_25 _ _ _ _ _ _ ?_
        simp only [bX1_judge_25, qsem, qopt_s, qopt2_s, qev, qxs, Nat.reduceEqDiff, reduceIte, and_true, true_and, and_false, false_and, and_self, or_true, true_or, qb_or, reduceCtorEq, qbr_True, qbr_False, q10, q01, qwC, q3]
        refine qbr_f (nI_nlt (b := b) (a := 12) (by omega) (by omega)) ?_
        refine l2 13 0 C1 rfl hp hk ?_
        have hw : ∀ u' b', (u' ≤ 12 ∧ (b' < b ∨ (b' = b ∧ u' < 0))) → (u' ≤ 12 ∧ b' < b) := fun u' b' q => by omega
        rcases hj with ⟨a, b', c⟩ | ⟨n, x, a, b', c, d', e', f⟩
        · exact Or.inl ⟨a, b', fun u v n x q => c u v n x (hw u v q)⟩
        · exact Or.inr ⟨n, x, a, b', c, d', e', fun u v n' x' q => f u v n' x' (hw u v q)⟩
    refine oX1_judge_0 _ _ _ _ _ _ ?_
    simp only [bX1_judge_0, qsem, qopt_s, qopt2_s, qev, qxs, Nat.reduceEqDiff, reduceIte, and_true, true_and, and_false, false_and, and_self, or_true, true_or, qb_or, reduceCtorEq, qbr_True, qbr_False, q10, q01, qwC, h0]
    refine oX1_judge_8 _ _ _ _ _ _ ?_
    simp only [bX1_judge_8, qsem, qopt_s, qopt2_s, qev, qxs, Nat.reduceEqDiff, reduceIte, and_true, true_and, and_false, false_and, and_self, or_true, true_or, qb_or, reduceCtorEq, qbr_True, qbr_False, q10, q01, qwC, h0]
    refine l1 13 0 _ none rfl rfl ⟨fun q j hq => ?_, rfl, rfl, fun _ _ _ => rfl⟩ ?_ (Or.inl ⟨?_, ?_, fun u b n x q => absurd q.2 (by omega)⟩)
    · simp only [qxs]; rw [if_neg (fun z => hq z.1), if_neg (fun z => hq z.1), if_neg (fun z => hq z.1)]
    · simp [qxs]
    · simp [qxs]
    · simp [qxs]
  · refine oX1_judge_0 _ _ _ _ _ _ ?_
    simp only [bX1_judge_0, qsem, qopt_s, qopt2_s, qev, qxs, Nat.reduceEqDiff, reduceIte, and_true, true_and, and_false, false_and, and_self, or_true, true_or, qb_or, reduceCtorEq, qbr_True, qbr_False, q10, q01, qwC, h1]
    exact hQ _ _ ⟨C, rfl, rfl, ⟨fun _ _ _ => rfl, rfl, rfl, fun _ _ _ => rfl⟩, h1, hj1, hj2⟩
theorem Inv_131 {C C' : qC} {S : qS} {r : Nat × Nat × Nat} {H : Nat → Nat → Nat → Bool} (hr : wR r) (hW : WS S H) (h : Inv C S r H) (hp : p131 C C' r) (hj : xI C' 131 2 = 0 ∨ (xI C' 131 2 = 1 ∧ jdN H true (xI C' 131 0) ∧ jdN H false (xI C' 131 1))) : Inv C' S r H := by
  obtain ⟨kN, kS, kF, kR, kO, kB, kT, kC, kM, kA, kQ, kK, kU⟩ := h
  have n2 : ∀ {p : Nat}, p < 134 → p ≠ r.1 + 2 := fun h => by rcases hr with q | q <;> omega
  have n3 : ∀ {p : Nat}, p < 134 → p ≠ r.1 + 3 := fun h => by rcases hr with q | q <;> omega
  have z1 : ∀ q j, q < 131 → xI C' q j = xI C q j := fun q j h => hp.1 q j (by omega)
  have z2 : ∀ q, q < 134 → xA C' q = xA C q := fun q h => hp.2.2.2 q (n2 h) (n3 h)
  refine ⟨iN_cg (z1 1 3 (by omega)) (z2 2 (by omega)) kN, iS_cg (z1 3 3 (by omega)) (z2 4 (by omega)) kS, iF_cg (z1 5 7 (by omega)) (by rw [hp.2.2.1]) kF, iR_cg hW.1 (fun i hi => by rw [hp.2.1]) kR, iO_cg (z2 8 (by omega)) kO, iB_cg (z2 9 (by omega)) kB, iT_cg (z2 10 (by omega)) (z2 11 (by omega)) kT, iC_cg (by rw [hp.2.1]) kC, iM_cg (z1 117 3 (by omega)) (z2 118 (by omega)) (z2 119 (by omega)) (by rw [hp.2.1]) kM, iA_cg (z1 121 1 (by omega)) (z2 122 (by omega)) kA, iQ_cg (z1 124 1 (by omega)) (z2 125 (by omega)) kQ, iK_cg (z2 127 (by omega)) (z2 128 (by omega)) (z2 129 (by omega)) (z2 130 (by omega)) kK, ⟨(z1 0 10 (by omega)).trans kU.1, iUs_cg (hp.2.2.2 _ (by omega) (by omega)) kU.2.1, hj⟩⟩
set_option maxRecDepth 100000 in
set_option maxHeartbeats 4000000 in
theorem zX10_least {C M : qC} {S : qS} {r : Nat × Nat × Nat} {H : Nat → Nat → Nat → Bool} (hr : wR r) (hW : WS S H) (h : Inv C S r H) : CT mX10_least 6 0 0 [.ref 0] (wd C M r) (fun r' w' => ∃ C' z, w' = wd C' M r ∧ Inv C' S r H ∧ r' = some (.int z) ∧ jdN H true z) := by
  have hf : CT mX1_fewestHands 5 0 0 [.ref 131, .ref r.1] (wd C M r) (fun r' w' => ∃ C' z, w' = wd C' M r ∧ Inv C' S r H ∧ r' = some (.int z) ∧ jdN H true z) := by
    refine eX1_fewestHands (AW_gen (fun Q hQ => ?_))
    refine oX1_fewestHands_0 _ _ _ _ _ _ ?_
    simp only [bX1_fewestHands_0, qsem, qopt_s, qopt2_s, qev, qxs, Nat.reduceEqDiff, reduceIte, and_true, true_and, and_false, false_and, and_self, or_true, true_or, qb_or, reduceCtorEq, qbr_True, qbr_False, q10, q01, qwC]
    refine kX1_fewestHands_2 (zX1_judge hr h.2.2.2.2.2.2.2.2.2.2.2.2) (rfl) (Nat.le_of_ble_eq_true rfl) (Nat.le_of_ble_eq_true rfl) ⟨Nat.le_of_ble_eq_true rfl, Nat.le_of_ble_eq_true rfl⟩ ?_
    rintro _ _ ⟨C', rfl, rfl, hp, hk, hj⟩
    refine oX1_fewestHands_5 _ _ _ _ _ _ ?_
    simp only [bX1_fewestHands_5, qsem, qopt_s, qopt2_s, qev, qxs, Nat.reduceEqDiff, reduceIte, and_true, true_and, and_false, false_and, and_self, or_true, true_or, qb_or, reduceCtorEq, qbr_True, qbr_False, q10, q01, qwC]
    exact hQ _ _ ⟨C', _, rfl, Inv_131 hr hW h hp (Or.inr ⟨hk, hj⟩), rfl, hj.1⟩
  refine eX10_least (AW_gen (fun Q hQ => ?_))
  refine oX10_least_0 _ _ _ _ _ _ ?_
  simp only [bX10_least_0, qsem, qopt_s, qopt2_s, qev, qxs, Nat.reduceEqDiff, reduceIte, and_true, true_and, and_false, false_and, and_self, or_true, true_or, qb_or, reduceCtorEq, qbr_True, qbr_False, q10, q01, qwC]
  refine kX10_least_8 (hf) (rfl) (Nat.le_of_ble_eq_true rfl) (Nat.le_of_ble_eq_true rfl) ⟨Nat.le_of_ble_eq_true rfl, Nat.le_of_ble_eq_true rfl⟩ ?_
  rintro _ _ ⟨C', z, rfl, hI, rfl, hj⟩
  refine oX10_least_11 _ _ _ _ _ _ ?_
  simp only [bX10_least_11, qsem, qopt_s, qopt2_s, qev, qxs, Nat.reduceEqDiff, reduceIte, and_true, true_and, and_false, false_and, and_self, or_true, true_or, qb_or, reduceCtorEq, qbr_True, qbr_False, q10, q01, qwC]
  exact hQ _ _ ⟨C', z, rfl, hI, rfl, hj⟩
set_option maxRecDepth 100000 in
set_option maxHeartbeats 4000000 in
theorem zX10_makers {C M : qC} {S : qS} {r : Nat × Nat × Nat} {H : Nat → Nat → Nat → Bool} (hr : wR r) (hW : WS S H) (h : Inv C S r H) : CT mX10_makers 6 0 0 [.ref 0] (wd C M r) (fun r' w' => ∃ C' z, w' = wd C' M r ∧ Inv C' S r H ∧ r' = some (.int z) ∧ jdN H false z) := by
  have hf : CT mX1_fewestMakers 5 0 0 [.ref 131, .ref r.1] (wd C M r) (fun r' w' => ∃ C' z, w' = wd C' M r ∧ Inv C' S r H ∧ r' = some (.int z) ∧ jdN H false z) := by
    refine eX1_fewestMakers (AW_gen (fun Q hQ => ?_))
    refine oX1_fewestMakers_0 _ _ _ _ _ _ ?_
    simp only [bX1_fewestMakers_0, qsem, qopt_s, qopt2_s, qev, qxs, Nat.reduceEqDiff, reduceIte, and_true, true_and, and_false, false_and, and_self, or_true, true_or, qb_or, reduceCtorEq, qbr_True, qbr_False, q10, q01, qwC]
    refine kX1_fewestMakers_2 (zX1_judge hr h.2.2.2.2.2.2.2.2.2.2.2.2) (rfl) (Nat.le_of_ble_eq_true rfl) (Nat.le_of_ble_eq_true rfl) ⟨Nat.le_of_ble_eq_true rfl, Nat.le_of_ble_eq_true rfl⟩ ?_
    rintro _ _ ⟨C', rfl, rfl, hp, hk, hj⟩
    refine oX1_fewestMakers_5 _ _ _ _ _ _ ?_
    simp only [bX1_fewestMakers_5, qsem, qopt_s, qopt2_s, qev, qxs, Nat.reduceEqDiff, reduceIte, and_true, true_and, and_false, false_and, and_self, or_true, true_or, qb_or, reduceCtorEq, qbr_True, qbr_False, q10, q01, qwC]
    exact hQ _ _ ⟨C', _, rfl, Inv_131 hr hW h hp (Or.inr ⟨hk, hj⟩), rfl, hj.2⟩
  refine eX10_makers (AW_gen (fun Q hQ => ?_))
  refine oX10_makers_0 _ _ _ _ _ _ ?_
  simp only [bX10_makers_0, qsem, qopt_s, qopt2_s, qev, qxs, Nat.reduceEqDiff, reduceIte, and_true, true_and, and_false, false_and, and_self, or_true, true_or, qb_or, reduceCtorEq, qbr_True, qbr_False, q10, q01, qwC]
  refine kX10_makers_8 (hf) (rfl) (Nat.le_of_ble_eq_true rfl) (Nat.le_of_ble_eq_true rfl) ⟨Nat.le_of_ble_eq_true rfl, Nat.le_of_ble_eq_true rfl⟩ ?_
  rintro _ _ ⟨C', z, rfl, hI, rfl, hj⟩
  refine oX10_makers_11 _ _ _ _ _ _ ?_
  simp only [bX10_makers_11, qsem, qopt_s, qopt2_s, qev, qxs, Nat.reduceEqDiff, reduceIte, and_true, true_and, and_false, false_and, and_self, or_true, true_or, qb_or, reduceCtorEq, qbr_True, qbr_False, q10, q01, qwC]
  exact hQ _ _ ⟨C', z, rfl, hI, rfl, hj⟩
theorem jdN_one {H : Nat → Nat → Nat → Bool} {p : Bool} {y z : Int32} (hy : jdN H p y) (hz : jdN H p z) : y = z := by
  rcases hy with ⟨ey, ny⟩ | ⟨n, x, a1, a2, a3, a4, a5, a6, a7, ey⟩
  · rcases hz with ⟨ez, nz⟩ | ⟨n', x', b1, b2, b3, b4, b5, b6, b7, ez⟩
    · rw [ey, ez]
    · exact absurd b5 (ny n' x' b1 b2 b3 b4)
  · rcases hz with ⟨ez, nz⟩ | ⟨n', x', b1, b2, b3, b4, b5, b6, b7, ez⟩
    · exact absurd a5 (nz n x a1 a2 a3 a4)
    · have hn : n = n' := by
        rcases Nat.lt_trichotomy n n' with h | h | h
        · exact absurd a5 (b6 n x a1 h a3 a4)
        · exact h
        · exact absurd b5 (a6 n' x' b1 h b3 b4)
      subst hn
      have hx : x = x' := by
        rcases Nat.lt_trichotomy x x' with h | h | h
        · exact absurd a5 (b7 x a3 h)
        · exact h
        · exact absurd b5 (a7 x' b3 h)
      rw [ey, ez, hx]
/-! why -/
theorem us_t : ∀ t, t < 13 → (((nI t).toUInt32 &&& Int32.toUInt32 31).toBitVec % 32).toNat = t := by decide
theorem ub_0 {m t : Nat} (hm : m < 8192) (ht : t < 13) : (((nI m).toUInt32 >>> ((nI t).toUInt32 &&& Int32.toUInt32 31)).toInt32 &&& 1 = 0) = (m.testBit t = false) := by
  have hd : m / 2 ^ t ≤ m := Nat.div_le_self m _
  rw [pk_ushrN (by omega) _ t (us_t t ht), pk_andN (m := 1) (by omega) 1 (by decide), show (0 : Int32) = nI 0 from rfl, nIeq (by omega) (by omega), Nat.testBit_eq_decide_div_mod_eq]
  simp only [Nat.pow_one, decide_eq_false_iff_not]
  exact propext (by omega)
set_option maxRecDepth 100000 in
set_option maxHeartbeats 4000000 in
theorem zX10_ruleHolds {C M : qC} {S : qS} {r : Nat × Nat × Nat} {H : Nat → Nat → Nat → Bool} {f : Nat} (hr : wR r) (hW : WS S H) (h : Inv C S r H) (hf : f < cF S) : CT mX10_ruleHolds 4 0 0 [.ref 0, .int (nI f)] (wd C M r) (fun r' w' => ∃ C', w' = wd C' M r ∧ Inv C' S r H ∧ r' = some (.int (qb (H (hwt S 2 f 0) (hwt S 3 f (mkN S f)) (pc12 (bdb S f (cN S))))))) := by
  have b1 : hwt S 2 f 0 ≤ 12 := fb_ct_le _ _
  have b2 : hwt S 3 f (mkN S f) ≤ 12 := fb_ct_le _ _
  have b3 : pc12 (bdb S f (cN S)) ≤ 12 := fb_ct_le _ _
  obtain ⟨kN, kS, kF, kR, kO, kB, kT, kC, kM, kA, kQ, kK, kU⟩ := h
  have hI : Inv C S r H := ⟨kN, kS, kF, kR, kO, kB, kT, kC, kM, kA, kQ, kK, kU⟩
  have hT1 := kU.2.1
  have hlt := bT_lt (fun t => H t (hwt S 3 f (mkN S f)) (pc12 (bdb S f (cN S)))) 13
  have hu := ub_0 (m := bT (fun t => H t (hwt S 3 f (mkN S f)) (pc12 (bdb S f (cN S)))) 13) (t := hwt S 2 f 0) hlt (by omega)
  rw [bT_tb, decide_eq_true (by omega), Bool.true_and] at hu
  refine eX10_ruleHolds (AW_gen (fun Q hQ => ?_))
  refine oX10_ruleHolds_0 _ _ _ _ _ _ ?_
  simp only [bX10_ruleHolds_0, qsem, qopt_s, qopt2_s, qev, qxs, Nat.reduceEqDiff, reduceIte, and_true, true_and, and_false, false_and, and_self, or_true, true_or, qb_or, reduceCtorEq, qbr_True, qbr_False, q10, q01, qwC]
  refine kX10_ruleHolds_9 (zX7_goodReviews hW.1 hW.2.1 kF kR kO kT hf) (rfl) (Nat.le_of_ble_eq_true rfl) (Nat.le_of_ble_eq_true rfl) ⟨Nat.le_of_ble_eq_true rfl, Nat.le_of_ble_eq_true rfl⟩ ?_
  rintro _ _ ⟨rfl, rfl⟩
  refine oX10_ruleHolds_12 _ _ _ _ _ _ ?_
  simp only [bX10_ruleHolds_12, qsem, qopt_s, qopt2_s, qev, qxs, Nat.reduceEqDiff, reduceIte, and_true, true_and, and_false, false_and, and_self, or_true, true_or, qb_or, reduceCtorEq, qbr_True, qbr_False, q10, q01, qwC]
  refine kX10_ruleHolds_17 (zX7_goodBuilders hW.1 hW.2.1 kF kB hf) (rfl) (Nat.le_of_ble_eq_true rfl) (Nat.le_of_ble_eq_true rfl) ⟨Nat.le_of_ble_eq_true rfl, Nat.le_of_ble_eq_true rfl⟩ ?_
  rintro _ _ ⟨rfl, rfl⟩
  refine kX10_ruleHolds_20 (zX6_holdingTries hr hT1 b2 b3) (ru_c hr _ _) (Nat.le_of_ble_eq_true rfl) (Nat.le_of_ble_eq_true rfl) ⟨Nat.le_of_ble_eq_true rfl, Nat.le_of_ble_eq_true rfl⟩ ?_
  rintro _ _ ⟨C1, rfl, ⟨sp, eu, hC1⟩, rfl⟩
  have hI1 := Inv_131 hr hW hI (p131_rh hC1) (by rw [hC1.1]; exact kU.2.2)
  refine oX10_ruleHolds_23 _ _ _ _ _ _ ?_
  simp only [bX10_ruleHolds_23, qsem, qopt_s, qopt2_s, qev, qxs, Nat.reduceEqDiff, reduceIte, and_true, true_and, and_false, false_and, and_self, or_true, true_or, qb_or, reduceCtorEq, qbr_True, qbr_False, q10, q01, qwC]
  refine kX10_ruleHolds_30 (zX7_goodTries hW.1 hI1.2.2.1 hI1.2.2.2.2.2.2.1 hf) (rfl) (Nat.le_of_ble_eq_true rfl) (Nat.le_of_ble_eq_true rfl) ⟨Nat.le_of_ble_eq_true rfl, Nat.le_of_ble_eq_true rfl⟩ ?_
  rintro _ _ ⟨rfl, rfl⟩
  refine oX10_ruleHolds_33 _ _ _ _ _ _ ?_
  simp only [bX10_ruleHolds_33, qsem, qopt_s, qopt2_s, qev, qxs, Nat.reduceEqDiff, reduceIte, and_true, true_and, and_false, false_and, and_self, or_true, true_or, qb_or, reduceCtorEq, qbr_True, qbr_False, q10, q01, qwC, hu]
  refine qbr_i (fun c1 => ?_) (fun c1 => ?_)
  · refine oX10_ruleHolds_43 _ _ _ _ _ _ ?_
    simp only [bX10_ruleHolds_43, qsem, qopt_s, qopt2_s, qev, qxs, Nat.reduceEqDiff, reduceIte, and_true, true_and, and_false, false_and, and_self, or_true, true_or, qb_or, reduceCtorEq, qbr_True, qbr_False, q10, q01, qwC]
    refine oX10_ruleHolds_44 _ _ _ _ _ _ ?_
    simp only [bX10_ruleHolds_44, qsem, qopt_s, qopt2_s, qev, qxs, Nat.reduceEqDiff, reduceIte, and_true, true_and, and_false, false_and, and_self, or_true, true_or, qb_or, reduceCtorEq, qbr_True, qbr_False, q10, q01, qwC]
    first | exact hQ _ _ ⟨C1, rfl, hI1, ri (qb_0of c1)⟩ | exact hQ _ _ ⟨C1, rfl, hI1, ri (qb_1of ((Bool.not_eq_false _).mp c1))⟩
  · refine oX10_ruleHolds_44 _ _ _ _ _ _ ?_
    simp only [bX10_ruleHolds_44, qsem, qopt_s, qopt2_s, qev, qxs, Nat.reduceEqDiff, reduceIte, and_true, true_and, and_false, false_and, and_self, or_true, true_or, qb_or, reduceCtorEq, qbr_True, qbr_False, q10, q01, qwC]
    first | exact hQ _ _ ⟨C1, rfl, hI1, ri (qb_0of c1)⟩ | exact hQ _ _ ⟨C1, rfl, hI1, ri (qb_1of ((Bool.not_eq_false _).mp c1))⟩


set_option maxRecDepth 100000 in
set_option maxHeartbeats 4000000 in
theorem zX2_tell {C M : qC} {r : Nat × Nat × Nat} {S : qS} {a what : Int32} (hI : iK C S) (h6 : W6 S) : CT mX2_tell 1 0 0 [.ref 126, .int a, .int what] (wd C M r) (fun r' w' => w' = wd C M r ∧ r' = some (.int (if isKy a then sel8 what (kyV S a.toNatClampNeg) else -1))) := by
  refine eX2_tell (AW_gen (fun Q hQ => ?_))
  by_cases ha : isKy a = true
  · obtain ⟨k, hk, rfl⟩ := isKy_of ha
    have hc := ky_c hk
    obtain ⟨b, eb⟩ : ∃ b, S.2.1 152 k = qb b := (h6 k hk).elim (fun q => ⟨false, q⟩) (fun q => ⟨true, q⟩)
    rw [ha, if_pos rfl, hc] at hQ
    refine oX2_tell_0 _ _ _ _ _ _ ?_
    simp only [bX2_tell_0, qsem, qopt_s, qopt2_s, qev, qxs, Nat.reduceEqDiff, reduceIte, and_true, true_and, and_false, false_and, and_self, or_true, true_or, qb_or, reduceCtorEq, qbr_True, qbr_False, q10, q01, qwC, ha, qb_t, hc, (hI k hk).1, (hI k hk).2.1, (hI k hk).2.2.1, (hI k hk).2.2.2, eb]
    refine kX2_tell_1 (zX2_isKey) (Nat.le_of_ble_eq_true rfl) (Nat.le_of_ble_eq_true rfl) ⟨Nat.le_of_ble_eq_true rfl, Nat.le_of_ble_eq_true rfl⟩ ?_
    rintro _ _ ⟨rfl, rfl⟩
    refine oX2_tell_4 _ _ _ _ _ _ ?_
    simp only [bX2_tell_4, qsem, qopt_s, qopt2_s, qev, qxs, Nat.reduceEqDiff, reduceIte, and_true, true_and, and_false, false_and, and_self, or_true, true_or, qb_or, reduceCtorEq, qbr_True, qbr_False, q10, q01, qwC, ha, qb_t, hc, (hI k hk).1, (hI k hk).2.1, (hI k hk).2.2.1, (hI k hk).2.2.2, eb]
    refine oX2_tell_9 _ _ _ _ _ _ ?_
    simp only [bX2_tell_9, qsem, qopt_s, qopt2_s, qev, qxs, Nat.reduceEqDiff, reduceIte, and_true, true_and, and_false, false_and, and_self, or_true, true_or, qb_or, reduceCtorEq, qbr_True, qbr_False, q10, q01, qwC, ha, qb_t, hc, (hI k hk).1, (hI k hk).2.1, (hI k hk).2.2.1, (hI k hk).2.2.2, eb]
    refine uX2_tell_10 (fun sw => ?_) (fun sw => ?_) (fun sw => ?_) (fun sw => ?_) (fun sw0 sw1 sw2 sw3 => ?_)
    · refine oX2_tell_40 _ _ _ _ _ _ ?_
      simp only [bX2_tell_40, qsem, qopt_s, qopt2_s, qev, qxs, Nat.reduceEqDiff, reduceIte, and_true, true_and, and_false, false_and, and_self, or_true, true_or, qb_or, reduceCtorEq, qbr_True, qbr_False, q10, q01, qwC, ha, qb_t, hc, (hI k hk).1, (hI k hk).2.1, (hI k hk).2.2.1, (hI k hk).2.2.2, eb]
      refine ⟨nI_vp (by omega) (by omega), ?_⟩
      first | exact hQ _ _ ⟨rfl, ri (by rw [sw]; rfl)⟩ | exact hQ _ _ ⟨rfl, ri (by rw [sw]; exact eb.symm)⟩ | exact hQ _ _ ⟨rfl, ri (by unfold sel8 kyV; simp only [sw0, sw1, sw2, sw3, if_false, Nat.reduceEqDiff]; split; rfl; split; rfl; split; rfl; split; rfl; split <;> rfl)⟩
    · refine oX2_tell_47 _ _ _ _ _ _ ?_
      simp only [bX2_tell_47, qsem, qopt_s, qopt2_s, qev, qxs, Nat.reduceEqDiff, reduceIte, and_true, true_and, and_false, false_and, and_self, or_true, true_or, qb_or, reduceCtorEq, qbr_True, qbr_False, q10, q01, qwC, ha, qb_t, hc, (hI k hk).1, (hI k hk).2.1, (hI k hk).2.2.1, (hI k hk).2.2.2, eb]
      refine ⟨nI_vp (by omega) (by omega), ?_⟩
      refine kX2_tell_53 (zX10_bit) (Nat.le_of_ble_eq_true rfl) (Nat.le_of_ble_eq_true rfl) ⟨Nat.le_of_ble_eq_true rfl, Nat.le_of_ble_eq_true rfl⟩ ?_
      rintro _ _ ⟨rfl, rfl⟩
      refine oX2_tell_56 _ _ _ _ _ _ ?_
      simp only [bX2_tell_56, qsem, qopt_s, qopt2_s, qev, qxs, Nat.reduceEqDiff, reduceIte, and_true, true_and, and_false, false_and, and_self, or_true, true_or, qb_or, reduceCtorEq, qbr_True, qbr_False, q10, q01, qwC, ha, qb_t, hc, (hI k hk).1, (hI k hk).2.1, (hI k hk).2.2.1, (hI k hk).2.2.2, eb]
      first | exact hQ _ _ ⟨rfl, ri (by rw [sw]; rfl)⟩ | exact hQ _ _ ⟨rfl, ri (by rw [sw]; exact eb.symm)⟩ | exact hQ _ _ ⟨rfl, ri (by unfold sel8 kyV; simp only [sw0, sw1, sw2, sw3, if_false, Nat.reduceEqDiff]; split; rfl; split; rfl; split; rfl; split; rfl; split <;> rfl)⟩
    · refine oX2_tell_57 _ _ _ _ _ _ ?_
      simp only [bX2_tell_57, qsem, qopt_s, qopt2_s, qev, qxs, Nat.reduceEqDiff, reduceIte, and_true, true_and, and_false, false_and, and_self, or_true, true_or, qb_or, reduceCtorEq, qbr_True, qbr_False, q10, q01, qwC, ha, qb_t, hc, (hI k hk).1, (hI k hk).2.1, (hI k hk).2.2.1, (hI k hk).2.2.2, eb]
      refine ⟨nI_vp (by omega) (by omega), ?_⟩
      first | exact hQ _ _ ⟨rfl, ri (by rw [sw]; rfl)⟩ | exact hQ _ _ ⟨rfl, ri (by rw [sw]; exact eb.symm)⟩ | exact hQ _ _ ⟨rfl, ri (by unfold sel8 kyV; simp only [sw0, sw1, sw2, sw3, if_false, Nat.reduceEqDiff]; split; rfl; split; rfl; split; rfl; split; rfl; split <;> rfl)⟩
    · refine oX2_tell_64 _ _ _ _ _ _ ?_
      simp only [bX2_tell_64, qsem, qopt_s, qopt2_s, qev, qxs, Nat.reduceEqDiff, reduceIte, and_true, true_and, and_false, false_and, and_self, or_true, true_or, qb_or, reduceCtorEq, qbr_True, qbr_False, q10, q01, qwC, ha, qb_t, hc, (hI k hk).1, (hI k hk).2.1, (hI k hk).2.2.1, (hI k hk).2.2.2, eb]
      refine ⟨nI_vp (by omega) (by omega), ?_⟩
      first | exact hQ _ _ ⟨rfl, ri (by rw [sw]; rfl)⟩ | exact hQ _ _ ⟨rfl, ri (by rw [sw]; exact eb.symm)⟩ | exact hQ _ _ ⟨rfl, ri (by unfold sel8 kyV; simp only [sw0, sw1, sw2, sw3, if_false, Nat.reduceEqDiff]; split; rfl; split; rfl; split; rfl; split; rfl; split <;> rfl)⟩
    · refine oX2_tell_71 _ _ _ _ _ _ ?_
      simp only [bX2_tell_71, qsem, qopt_s, qopt2_s, qev, qxs, Nat.reduceEqDiff, reduceIte, and_true, true_and, and_false, false_and, and_self, or_true, true_or, qb_or, reduceCtorEq, qbr_True, qbr_False, q10, q01, qwC, ha, qb_t, hc, (hI k hk).1, (hI k hk).2.1, (hI k hk).2.2.1, (hI k hk).2.2.2, eb]
      first | exact hQ _ _ ⟨rfl, ri (by rw [sw]; rfl)⟩ | exact hQ _ _ ⟨rfl, ri (by rw [sw]; exact eb.symm)⟩ | exact hQ _ _ ⟨rfl, ri (by unfold sel8 kyV; simp only [sw0, sw1, sw2, sw3, if_false, Nat.reduceEqDiff]; split; rfl; split; rfl; split; rfl; split; rfl; split <;> rfl)⟩
  · have ha2 : isKy a = false := (Bool.not_eq_true _).mp ha
    refine oX2_tell_0 _ _ _ _ _ _ ?_
    simp only [bX2_tell_0, qsem, qopt_s, qopt2_s, qev, qxs, Nat.reduceEqDiff, reduceIte, and_true, true_and, and_false, false_and, and_self, or_true, true_or, qb_or, reduceCtorEq, qbr_True, qbr_False, q10, q01, qwC, ha2, qb_f]
    refine kX2_tell_1 (zX2_isKey) (Nat.le_of_ble_eq_true rfl) (Nat.le_of_ble_eq_true rfl) ⟨Nat.le_of_ble_eq_true rfl, Nat.le_of_ble_eq_true rfl⟩ ?_
    rintro _ _ ⟨rfl, rfl⟩
    refine oX2_tell_4 _ _ _ _ _ _ ?_
    simp only [bX2_tell_4, qsem, qopt_s, qopt2_s, qev, qxs, Nat.reduceEqDiff, reduceIte, and_true, true_and, and_false, false_and, and_self, or_true, true_or, qb_or, reduceCtorEq, qbr_True, qbr_False, q10, q01, qwC, ha2, qb_f]
    exact hQ _ _ ⟨rfl, ri (by rw [ha2]; rfl)⟩
/-! the tape -/
set_option maxRecDepth 100000 in
set_option maxHeartbeats 4000000 in
theorem zX9_size {C M : qC} {r : Nat × Nat × Nat} {S : qS} (hI : iA C S) : CT mX9_size 0 0 0 [.ref 121] (wd C M r) (fun r' w' => w' = wd C M r ∧ r' = some (.int (nI (cT S)))) := by
  refine eX9_size (AW_gen (fun Q hQ => ?_))
  refine oX9_size_0 _ _ _ _ _ _ ?_
  simp only [bX9_size_0, qsem, qopt_s, qopt2_s, qev, qxs, Nat.reduceEqDiff, reduceIte, and_true, true_and, and_false, false_and, and_self, or_true, true_or, qb_or, reduceCtorEq, qbr_True, qbr_False, q10, q01, qwC, hI.1]
  exact hQ _ _ ⟨rfl, rfl⟩
set_option maxRecDepth 100000 in
set_option maxHeartbeats 4000000 in
theorem zX9_cut {C M : qC} {r : Nat × Nat × Nat} {S : qS} {n : Int32} (h1 : W1 S) (hI : iA C S) : CT mX9_cut 0 0 0 [.ref 121, .int n] (wd C M r) (fun r' w' => (¬ (0 ≤ n ∧ n ≤ S.1 32) ∧ w' = wd C M r ∧ r' = some (.int 0)) ∨ ((0 ≤ n ∧ n ≤ S.1 32) ∧ w' = wd (yI C 121 1 n) M r ∧ r' = some (.int 1))) := by
  have h32 := h1.1.2.2.2.2.2.2
  rw [h32]
  refine eX9_cut (AW_gen (fun Q hQ => ?_))
  refine oX9_cut_0 _ _ _ _ _ _ ?_
  simp only [bX9_cut_0, qsem, qopt_s, qopt2_s, qev, qxs, Nat.reduceEqDiff, reduceIte, and_true, true_and, and_false, false_and, and_self, or_true, true_or, qb_or, reduceCtorEq, qbr_True, qbr_False, q10, q01, qwC, hI.1]
  refine qbr_i (fun c1 => ?_) (fun c1 => ?_)
  · refine oX9_cut_12 _ _ _ _ _ _ ?_
    simp only [bX9_cut_12, qsem, qopt_s, qopt2_s, qev, qxs, Nat.reduceEqDiff, reduceIte, and_true, true_and, and_false, false_and, and_self, or_true, true_or, qb_or, reduceCtorEq, qbr_True, qbr_False, q10, q01, qwC, hI.1]
    first | exact hQ _ _ (Or.inl ⟨fun q => absurd c1 (Int32.not_lt.mpr q.1), rfl, rfl⟩) | exact hQ _ _ (Or.inl ⟨fun q => c2 q.2, rfl, rfl⟩) | exact hQ _ _ (Or.inr ⟨⟨Int32.not_lt.mp c1, c2⟩, rfl, rfl⟩)
  · refine qbr_i (fun c2 => ?_) (fun c2 => ?_)
    · refine oX9_cut_14 _ _ _ _ _ _ ?_
      simp only [bX9_cut_14, qsem, qopt_s, qopt2_s, qev, qxs, Nat.reduceEqDiff, reduceIte, and_true, true_and, and_false, false_and, and_self, or_true, true_or, qb_or, reduceCtorEq, qbr_True, qbr_False, q10, q01, qwC, hI.1]
      first | exact hQ _ _ (Or.inl ⟨fun q => absurd c1 (Int32.not_lt.mpr q.1), rfl, rfl⟩) | exact hQ _ _ (Or.inl ⟨fun q => c2 q.2, rfl, rfl⟩) | exact hQ _ _ (Or.inr ⟨⟨Int32.not_lt.mp c1, c2⟩, rfl, rfl⟩)
    · refine oX9_cut_12 _ _ _ _ _ _ ?_
      simp only [bX9_cut_12, qsem, qopt_s, qopt2_s, qev, qxs, Nat.reduceEqDiff, reduceIte, and_true, true_and, and_false, false_and, and_self, or_true, true_or, qb_or, reduceCtorEq, qbr_True, qbr_False, q10, q01, qwC, hI.1]
      first | exact hQ _ _ (Or.inl ⟨fun q => absurd c1 (Int32.not_lt.mpr q.1), rfl, rfl⟩) | exact hQ _ _ (Or.inl ⟨fun q => c2 q.2, rfl, rfl⟩) | exact hQ _ _ (Or.inr ⟨⟨Int32.not_lt.mp c1, c2⟩, rfl, rfl⟩)
def tpC (C : qC) (f : Nat → Int32) (v : Int32) : qC := yI (yA C 122 f) 121 1 v
theorem tp_tp (C : qC) (f g : Nat → Int32) (v v' : Int32) : yI (yA (tpC C f v) 122 g) 121 1 v' = tpC C g v' := by
  refine Prod.ext ?_ (Prod.ext rfl (Prod.ext ?_ rfl))
  · funext q j
    show (if q = 121 ∧ j = 1 then v' else if q = 121 ∧ j = 1 then v else C.1 q j) = if q = 121 ∧ j = 1 then v' else C.1 q j
    split <;> rfl
  · funext q
    show (if q = 122 then g else if q = 122 then f else C.2.2.1 q) = if q = 122 then g else C.2.2.1 q
    split <;> rfl
theorem tp_id (C : qC) : C = tpC C (xA C 122) (xI C 121 1) := by
  refine Prod.ext ?_ (Prod.ext rfl (Prod.ext ?_ rfl))
  · funext q j
    show C.1 q j = if q = 121 ∧ j = 1 then C.1 121 1 else C.1 q j
    split
    · rename_i h; rw [h.1, h.2]
    · rfl
  · funext q
    show C.2.2.1 q = if q = 122 then C.2.2.1 122 else C.2.2.1 q
    split
    · rename_i h; rw [h]
    · rfl
theorem us32 : ∀ k, k < 4 → (nI (8 * k)).toUInt32 &&& Int32.toUInt32 31 = UInt32.ofNat (8 * k) := by decide
theorem ss32 : ∀ k, k < 4 → ((nI (8 * k) &&& 31).toBitVec.smod 32).toNat = 8 * k := by decide
theorem byU (x : Int32) {k : Nat} (h : k < 4) : (x.toUInt32 >>> ((nI (8 * k)).toUInt32 &&& Int32.toUInt32 31)).toInt32 &&& 255 = byt x k := by
  unfold byt
  apply Int32.toBitVec_inj.1
  rw [i_and, i_and, us32 k h]
  have e1 : (x.toUInt32 >>> UInt32.ofNat (8 * k)).toInt32.toBitVec = x.toBitVec >>> (8 * k) := by
    show (x.toUInt32 >>> UInt32.ofNat (8 * k)).toBitVec = _
    rw [UInt32.toBitVec_shiftRight]
    show x.toBitVec >>> (BitVec.ofNat 32 (8 * k) % 32#32) = _
    rw [BitVec.ushiftRight_eq']
    congr 1
    rw [BitVec.toNat_umod, BitVec.toNat_ofNat]
    show 8 * k % 2 ^ 32 % 32 = 8 * k
    omega
  have e2 : (x >>> (nI (8 * k) &&& 31)).toBitVec = x.toBitVec.sshiftRight (8 * k) := by
    rw [Int32.toBitVec_shiftRight]
    show x.toBitVec.sshiftRight' _ = _
    rw [BitVec.sshiftRight_eq', ss32 k h]
  rw [e1, e2]
  apply BitVec.eq_of_getLsbD_eq
  intro i hi
  rw [BitVec.getLsbD_and, BitVec.getLsbD_and]
  by_cases h8 : i < 8
  · congr 1
    rw [BitVec.getLsbD_ushiftRight, BitVec.getLsbD_sshiftRight]
    have h32 : 8 * k + i < 32 := by omega
    simp [h32]
    omega
  · have : (255 : Int32).toBitVec.getLsbD i = false := by
      show (255#32).getLsbD i = false
      rw [BitVec.getLsbD_ofNat]
      have : (255).testBit i = false := Nat.testBit_lt_two_pow (Nat.lt_of_lt_of_le (by decide : 255 < 2 ^ 8) (Nat.pow_le_pow_right (by omega) (by omega)))
      rw [this, Bool.and_false]
    rw [this, Bool.and_false, Bool.and_false]
def shj (j : Nat) : Int32 := if j < 4 then nI (8 * (3 - j)) else -8
theorem shj_s {j : Nat} (h : j < 4) : nI (8 * (3 - j)) + -8 = shj (j + 1) := by
  rcases (show j = 0 ∨ j = 1 ∨ j = 2 ∨ j = 3 by omega) with rfl | rfl | rfl | rfl <;> rfl
set_option maxRecDepth 100000 in
set_option maxHeartbeats 4000000 in
theorem zX9_add {C M : qC} {r : Nat × Nat × Nat} {S : qS} {x : Int32} (h1 : W1 S) (hI : iA C S) : CT mX9_add 1 0 0 [.ref 121, .int x] (wd C M r) (fun r' w' => (100 < cT S + fb_ct (fun k => byB x k) 4 ∧ r' = some (.int (-1)) ∧ w' = wd C M r) ∨ (cT S + fb_ct (fun k => byB x k) 4 ≤ 100 ∧ r' = some (.int (nI (cT S + fb_ct (fun k => byB x k) 4))) ∧ ∃ f v, w' = wd (tpC C f v) M r ∧ iA (tpC C f v) (fdS S x 4))) := by
  have hT1 := h1.2.2.2.2.2.2.2
  have h32 := h1.1.2.2.2.2.2.2
  have hc4 := fb_ct_le (fun k => byB x k) 4
  rw [← byt_ct] at hc4 ⊢
  generalize hn : fb_ct (fun i => byB x (3 - i)) 4 = n at hc4 ⊢
  refine eX9_add (AW_gen (fun Q hQ => ?_))
  refine oX9_add_0 _ _ _ _ _ _ ?_
  simp only [bX9_add_0, qsem, qopt_s, qopt2_s, qev, qxs, Nat.reduceEqDiff, reduceIte, and_true, true_and, and_false, false_and, and_self, or_true, true_or, qb_or, reduceCtorEq, qbr_True, qbr_False, q10, q01, qwC]
  have fin : cT S + n ≤ 100 → ∀ (i j : Nat) (f : Nat → Int32) (v : Int32) (o : Option Value), j + i = 4 → q_nb (some o) = true → iA (tpC C f v) (fdS S x j) → AW (mX9_add, 1, 0, 0, none, Q) 52 [some (.ref 121), some (.int x), some (.int (nI n)), some (.int (shj j)), o] [] (wd (tpC C f v) M r) 0 0 := by
    intro hle i
    induction i with
    | zero =>
      intro j f v o hj qo hA
      obtain rfl : j = 4 := by omega
      have hT4 := (fdS_T (S := S) (x := x) h32 hT1 4 (by omega)).2
      refine oX9_add_52 _ _ _ _ _ _ ?_
      simp only [bX9_add_52, qsem, qopt_s, qopt2_s, qev, qxs, Nat.reduceEqDiff, reduceIte, and_true, true_and, and_false, false_and, and_self, or_true, true_or, qb_or, reduceCtorEq, qbr_True, qbr_False, q10, q01, qwC, hA.1, hT4, hn]
      refine qbr_t ((by decide)) ?_
      refine oX9_add_106 _ _ _ _ _ _ ?_
      simp only [bX9_add_106, qsem, qopt_s, qopt2_s, qev, qxs, Nat.reduceEqDiff, reduceIte, and_true, true_and, and_false, false_and, and_self, or_true, true_or, qb_or, reduceCtorEq, qbr_True, qbr_False, q10, q01, qwC, hA.1, hT4, hn]
      exact hQ _ _ (Or.inr ⟨hle, rfl, f, v, rfl, hA⟩)
    | succ i ih =>
      intro j f v o hj qo hA
      have hj4 : j < 4 := by omega
      have es : shj j = nI (8 * (3 - j)) := if_pos hj4
      obtain ⟨hTj, hTe⟩ := fdS_T (S := S) (x := x) h32 hT1 j (by omega)
      have hm := fb_ct_mono (fun i => byB x (3 - i)) (show j + 1 ≤ 4 by omega)
      rw [hn, fb_ct_succ] at hm
      rw [es]
      by_cases hb : byt x (3 - j) = 0
      · have e : fdS S x (j + 1) = fdS S x j := by show (if byB x (3 - j) then _ else _) = _; rw [if_neg (by unfold byB; simp [hb])]
        refine oX9_add_52 _ _ _ _ _ _ ?_
        simp only [bX9_add_52, qsem, qopt_s, qopt2_s, qev, qxs, Nat.reduceEqDiff, reduceIte, and_true, true_and, and_false, false_and, and_self, or_true, true_or, qb_or, reduceCtorEq, qbr_True, qbr_False, q10, q01, qwC, byU x (show 3 - j < 4 by omega), shj_s hj4, qo]
        refine qbr_f (Int32.not_lt.mpr (nI_pos' (by omega))) ?_
        refine qbr_t (hb) ?_
        refine oX9_add_100 _ _ _ _ _ _ ?_
        simp only [bX9_add_100, qsem, qopt_s, qopt2_s, qev, qxs, Nat.reduceEqDiff, reduceIte, and_true, true_and, and_false, false_and, and_self, or_true, true_or, qb_or, reduceCtorEq, qbr_True, qbr_False, q10, q01, qwC, byU x (show 3 - j < 4 by omega), shj_s hj4, qo]
        exact ih (j + 1) f v _ (by omega) rfl (by rw [e]; exact hA)
      · have hbb : byB x (3 - j) = true := by unfold byB; simp [hb]
        have e : fdS S x (j + 1) = psh (fdS S x j) (byt x (3 - j)) := by show (if byB x (3 - j) then _ else _) = _; rw [if_pos hbb]
        rw [if_pos hbb] at hm
        have hlt : cT (fdS S x j) < 100 := by omega
        obtain ⟨hp1, hp2⟩ := psh_T (v := byt x (3 - j)) hTj (by omega)
        refine oX9_add_52 _ _ _ _ _ _ ?_
        simp only [bX9_add_52, qsem, qopt_s, qopt2_s, qev, qxs, Nat.reduceEqDiff, reduceIte, and_true, true_and, and_false, false_and, and_self, or_true, true_or, qb_or, reduceCtorEq, qbr_True, qbr_False, q10, q01, qwC, byU x (show 3 - j < 4 by omega), shj_s hj4, qo, hA.1, nIcl (show cT (fdS S x j) < 1000 by omega), nI_1, tp_tp]
        refine qbr_f (Int32.not_lt.mpr (nI_pos' (by omega))) ?_
        refine qbr_f (hb) ?_
        refine qbr_f (nI_ge (b := 100) hlt (by omega)) ?_
        refine ⟨nI_vp hlt (by omega), ?_⟩
        refine oX9_add_100 _ _ _ _ _ _ ?_
        simp only [bX9_add_100, qsem, qopt_s, qopt2_s, qev, qxs, Nat.reduceEqDiff, reduceIte, and_true, true_and, and_false, false_and, and_self, or_true, true_or, qb_or, reduceCtorEq, qbr_True, qbr_False, q10, q01, qwC, byU x (show 3 - j < 4 by omega), shj_s hj4, qo, hA.1, nIcl (show cT (fdS S x j) < 1000 by omega), nI_1, tp_tp]
        refine ih (j + 1) _ _ _ (by omega) rfl ?_
        rw [e]
        refine ⟨by rw [hp2]; rfl, fun q hq => ?_⟩
        rw [hp2] at hq
        show upd (xA (tpC C f v) 122) (cT (fdS S x j)) (byt x (3 - j)) q = upd ((fdS S x j).2.1 160) (cT (fdS S x j)) (byt x (3 - j)) q
        by_cases eq : q = cT (fdS S x j)
        · rw [eq, pk_us, pk_us]
        · rw [pk_un eq, pk_un eq]; exact hA.2 q (by omega)
  have cnt : ∀ (i j : Nat), j + i = 4 → AW (mX9_add, 1, 0, 0, none, Q) 5 [some (.ref 121), some (.int x), some (.int (nI (fb_ct (fun i => byB x (3 - i)) j))), some (.int (shj j)), none] [] (wd C M r) 0 0 := by
    intro i
    induction i with
    | zero =>
      intro j hj
      obtain rfl : j = 4 := by omega
      rw [hn]
      by_cases hle : cT S + n ≤ 100
      · have hs := fin hle 4 0 (xA C 122) (xI C 121 1) none rfl rfl (by rw [← tp_id]; exact hI)
        rw [← tp_id] at hs
        refine oX9_add_5 _ _ _ _ _ _ ?_
        simp only [bX9_add_5, qsem, qopt_s, qopt2_s, qev, qxs, Nat.reduceEqDiff, reduceIte, and_true, true_and, and_false, false_and, and_self, or_true, true_or, qb_or, reduceCtorEq, qbr_True, qbr_False, q10, q01, qwC, hI.1, nadd]
        refine qbr_t ((by decide)) ?_
        refine oX9_add_36 _ _ _ _ _ _ ?_
        simp only [bX9_add_36, qsem, qopt_s, qopt2_s, qev, qxs, Nat.reduceEqDiff, reduceIte, and_true, true_and, and_false, false_and, and_self, or_true, true_or, qb_or, reduceCtorEq, qbr_True, qbr_False, q10, q01, qwC, hI.1, nadd]
        refine qbr_t (nI_le (b := 100) hle (by omega)) ?_
        refine oX9_add_49 _ _ _ _ _ _ ?_
        simp only [bX9_add_49, qsem, qopt_s, qopt2_s, qev, qxs, Nat.reduceEqDiff, reduceIte, and_true, true_and, and_false, false_and, and_self, or_true, true_or, qb_or, reduceCtorEq, qbr_True, qbr_False, q10, q01, qwC, hI.1, nadd]
        exact hs
      · refine oX9_add_5 _ _ _ _ _ _ ?_
        simp only [bX9_add_5, qsem, qopt_s, qopt2_s, qev, qxs, Nat.reduceEqDiff, reduceIte, and_true, true_and, and_false, false_and, and_self, or_true, true_or, qb_or, reduceCtorEq, qbr_True, qbr_False, q10, q01, qwC, hI.1, nadd]
        refine qbr_t ((by decide)) ?_
        refine oX9_add_36 _ _ _ _ _ _ ?_
        simp only [bX9_add_36, qsem, qopt_s, qopt2_s, qev, qxs, Nat.reduceEqDiff, reduceIte, and_true, true_and, and_false, false_and, and_self, or_true, true_or, qb_or, reduceCtorEq, qbr_True, qbr_False, q10, q01, qwC, hI.1, nadd]
        refine qbr_f ((fun q => hle ((nI_leI (b := 100) (by omega) (by omega)).mp q))) ?_
        exact hQ _ _ (Or.inl ⟨by omega, rfl, rfl⟩)
    | succ i ih =>
      intro j hj
      have hj4 : j < 4 := by omega
      have es : shj j = nI (8 * (3 - j)) := if_pos hj4
      have hnx := ih (j + 1) (by omega)
      rw [fb_ct_succ] at hnx
      rw [es]
      have st : ∀ b : Bool, b = byB x (3 - j) → AW (mX9_add, 1, 0, 0, none, Q) 25 [some (.ref 121), some (.int x), some (.int (nI (fb_ct (fun i => byB x (3 - i)) j))), some (.int (nI (8 * (3 - j)))), none] [.int (qb b), .int (nI (fb_ct (fun i => byB x (3 - i)) j))] (wd C M r) 0 0 := by
        intro b hb
        rw [← hb] at hnx
        have e : ∀ c, nI c + qb b = nI (c + if b = true then 1 else 0) := fun c => by cases b <;> simp [qb, nI_1]
        refine kX9_add_25 (zX10_bit) (Nat.le_of_ble_eq_true rfl) (Nat.le_of_ble_eq_true rfl) ⟨Nat.le_of_ble_eq_true rfl, Nat.le_of_ble_eq_true rfl⟩ ?_
        rintro _ _ ⟨rfl, rfl⟩
        refine oX9_add_28 _ _ _ _ _ _ ?_
        simp only [bX9_add_28, qsem, qopt_s, qopt2_s, qev, qxs, Nat.reduceEqDiff, reduceIte, and_true, true_and, and_false, false_and, and_self, or_true, true_or, qb_or, reduceCtorEq, qbr_True, qbr_False, q10, q01, qwC, e, shj_s hj4]
        exact hnx
      refine oX9_add_5 _ _ _ _ _ _ ?_
      simp only [bX9_add_5, qsem, qopt_s, qopt2_s, qev, qxs, Nat.reduceEqDiff, reduceIte, and_true, true_and, and_false, false_and, and_self, or_true, true_or, qb_or, reduceCtorEq, qbr_True, qbr_False, q10, q01, qwC, byU x (show 3 - j < 4 by omega)]
      refine qbr_f (Int32.not_lt.mpr (nI_pos' (by omega))) ?_
      refine qbr_i (fun c1 => ?_) (fun c1 => ?_)
      · refine oX9_add_24 _ _ _ _ _ _ ?_
        simp only [bX9_add_24, qsem, qopt_s, qopt2_s, qev, qxs, Nat.reduceEqDiff, reduceIte, and_true, true_and, and_false, false_and, and_self, or_true, true_or, qb_or, reduceCtorEq, qbr_True, qbr_False, q10, q01, qwC, byU x (show 3 - j < 4 by omega)]
        first | exact st false (by unfold byB; simp [c1]) | exact st true (by unfold byB; simp [c1])
      · first | exact st false (by unfold byB; simp [c1]) | exact st true (by unfold byB; simp [c1])
  exact cnt 4 0 rfl


set_option maxRecDepth 100000 in
set_option maxHeartbeats 4000000 in
theorem zX11_isClean {C M : qC} {r : Nat × Nat × Nat} {S : qS} {f : Nat} (hS : pj M = S) (h1 : W1 S) (h2 : W2 S) (hf : f < cF S) : CT mX11_isClean 3 0 0 [.ref 136, .int (nI f)] (wd C M r) (fun r' w' => ∃ M' ρ', w' = wd C M' r ∧ pj M' = S ∧ rB M' 159 ρ' ∧ (∀ i, ρ' i = true ↔ cln S i) ∧ r' = some (.int (qb (ρ' f)))) := by
  have hF := h1.2.2.1
  refine eX11_isClean (AW_gen (fun Q hQ => ?_))
  refine oX11_isClean_0 _ _ _ _ _ _ ?_
  simp only [bX11_isClean_0, qsem, qopt_s, qopt2_s, qev, qxs, Nat.reduceEqDiff, reduceIte, and_true, true_and, and_false, false_and, and_self, or_true, true_or, qb_or, reduceCtorEq, qbr_True, qbr_False, q10, q01, qwM]
  refine kX11_isClean_1 (zX11_findClean hS h1 h2) rfl (Nat.le_of_ble_eq_true rfl) (Nat.le_of_ble_eq_true rfl) ⟨Nat.le_of_ble_eq_true rfl, Nat.le_of_ble_eq_true rfl⟩ ?_
  rintro _ _ ⟨M1, ρ1, rfl, rfl, hS1, hr1, hi1⟩
  have hv := nIcl (show f < 1000 by omega)
  have hv2 := rB_at hr1 (show f < 100 by omega)
  refine oX11_isClean_4 _ _ _ _ _ _ ?_
  simp only [bX11_isClean_4, qsem, qopt_s, qopt2_s, qev, qxs, Nat.reduceEqDiff, reduceIte, and_true, true_and, and_false, false_and, and_self, or_true, true_or, qb_or, reduceCtorEq, qbr_True, qbr_False, q10, q01, qwM, hv, hv2]
  refine ⟨nI_vp (by omega) (by omega), ?_⟩
  exact hQ _ _ ⟨M1, ρ1, rfl, hS1, hr1, hi1, rfl⟩
theorem or_nI (a b : Nat) : nI a ||| nI b = nI (a ||| b) := by
  apply Int32.toBitVec_inj.1
  show BitVec.ofNat 32 a ||| BitVec.ofNat 32 b = BitVec.ofNat 32 (a ||| b)
  apply BitVec.eq_of_getLsbD_eq
  intro i hi
  simp [hi]
theorem sh_nI : ∀ h, h < 12 → (1 : Int32) <<< (nI h &&& 31) = nI (2 ^ h) := by decide
/-- the makers of a file as bits -/
def mkP (S : qS) (f m : Nat) : Prop := m < 4096 ∧ ∀ h, h < 12 → (m.testBit h = true ↔ ∃ n, n < cN S ∧ srt S n < 2 ∧ hnd S n = h ∧ reach S f (ofN S n))
theorem bits_eq {a b : Nat} (ha : a < 4096) (hb : b < 4096) (h : ∀ i, i < 12 → (a.testBit i = true ↔ b.testBit i = true)) : a = b := by
  apply Nat.eq_of_testBit_eq
  intro i
  by_cases hi : i < 12
  · have := h i hi
    cases h1 : a.testBit i <;> cases h2 : b.testBit i <;> simp_all
  · have e : 4096 ≤ 2 ^ i := by
      have : 2 ^ 12 ≤ 2 ^ i := Nat.pow_le_pow_right (by omega) (by omega)
      simpa using this
    rw [Nat.testBit_lt_two_pow (by omega), Nat.testBit_lt_two_pow (by omega)]
theorem mkP_one {S : qS} {f m m' : Nat} (h : mkP S f m) (h' : mkP S f m') : m = m' := bits_eq h.1 h'.1 (fun i hi => (h.2 i hi).trans (h'.2 i hi).symm)
theorem or_lt {m h : Nat} (hm : m < 4096) (hh : h < 12) : m ||| 2 ^ h < 4096 := by
  have : 2 ^ h < 2 ^ 12 := Nat.pow_lt_pow_right (by omega) hh
  exact Nat.or_lt_two_pow (n := 12) hm this
theorem tb_or (m h i : Nat) : (m ||| 2 ^ h).testBit i = true ↔ m.testBit i = true ∨ i = h := by
  rw [Nat.testBit_or, Nat.testBit_two_pow, Bool.or_eq_true, decide_eq_true_eq]
  exact or_congr Iff.rfl eq_comm
set_option maxRecDepth 100000 in
set_option maxHeartbeats 4000000 in
theorem zX11_makersOf {C M : qC} {r : Nat × Nat × Nat} {S : qS} {f : Nat} (hS : pj M = S) (h1 : W1 S) (h2 : W2 S) (hf : f < cF S) : CT mX11_makersOf 3 0 0 [.ref 136, .int (nI f)] (wd C M r) (fun r' w' => ∃ M' m, w' = wd C M' r ∧ pj M' = S ∧ mkP S f m ∧ r' = some (.int (nI m))) := by
  have hF := h1.2.2.1
  have hN := h1.2.1
  refine eX11_makersOf (AW_gen (fun Q hQ => ?_))
  have loop : ∀ (M : qC) (ρ : Nat → Bool), pj M = S → rB M 157 ρ → (∀ i, ρ i = true ↔ reach S f i) → ∀ (j n m : Nat), n + j = cN S → m < 4096 → (∀ h, h < 12 → (m.testBit h = true ↔ ∃ n', n' < n ∧ srt S n' < 2 ∧ hnd S n' = h ∧ reach S f (ofN S n'))) → AW (mX11_makersOf, 3, 0, 0, none, Q) 9 [some (.ref 136), some (.int (nI f)), some (.int (nI m)), some (.int (nI n))] [] (wd C M r) 0 0 := by
    intro M ρ hS hr hρ j
    induction j with
    | zero =>
      intro n m hn hm hb
      obtain rfl : n = cN S := by omega
      refine oX11_makersOf_9 _ _ _ _ _ _ ?_
      simp only [bX11_makersOf_9, qsem, qopt_s, qopt2_s, qev, qxs, Nat.reduceEqDiff, reduceIte, and_true, true_and, and_false, false_and, and_self, or_true, true_or, qb_or, reduceCtorEq, qbr_True, qbr_False, q10, q01, qwM, pjx hS, h1.1.1]
      refine qbr_t ((Int32.le_refl _)) ?_
      refine oX11_makersOf_58 _ _ _ _ _ _ ?_
      simp only [bX11_makersOf_58, qsem, qopt_s, qopt2_s, qev, qxs, Nat.reduceEqDiff, reduceIte, and_true, true_and, and_false, false_and, and_self, or_true, true_or, qb_or, reduceCtorEq, qbr_True, qbr_False, q10, q01, qwM, pjx hS, h1.1.1]
      exact hQ _ _ ⟨M, m, rfl, hS, ⟨hm, hb⟩, rfl⟩
    | succ j ih =>
      intro n m hn hm hb
      have hnN : n < cN S := by omega
      obtain ⟨⟨es, ls⟩, ⟨eo, lo⟩, ⟨eh, lh⟩, -⟩ := h2 n hnN
      have no : ¬ (srt S n < 2 ∧ reach S f (ofN S n)) → ∀ h, h < 12 → (m.testBit h = true ↔ ∃ n', n' < n + 1 ∧ srt S n' < 2 ∧ hnd S n' = h ∧ reach S f (ofN S n')) := by
        intro hno h hh
        rw [hb h hh]
        constructor
        · rintro ⟨n', a, b, c, d⟩; exact ⟨n', by omega, b, c, d⟩
        · rintro ⟨n', a, b, c, d⟩
          by_cases e : n' = n
          · subst e; exact absurd ⟨b, d⟩ hno
          · exact ⟨n', by omega, b, c, d⟩
      have yes : srt S n < 2 → reach S f (ofN S n) → ∀ h, h < 12 → ((m ||| 2 ^ hnd S n).testBit h = true ↔ ∃ n', n' < n + 1 ∧ srt S n' < 2 ∧ hnd S n' = h ∧ reach S f (ofN S n')) := by
        intro hy1 hy2 h hh
        rw [tb_or, hb h hh]
        constructor
        · rintro (⟨n', a, b, c, d⟩ | e)
          · exact ⟨n', by omega, b, c, d⟩
          · exact ⟨n, by omega, hy1, e.symm, hy2⟩
        · rintro ⟨n', a, b, c, d⟩
          by_cases e : n' = n
          · subst e; exact Or.inr c.symm
          · exact Or.inl ⟨n', by omega, b, c, d⟩
      refine oX11_makersOf_9 _ _ _ _ _ _ ?_
      simp only [bX11_makersOf_9, qsem, qopt_s, qopt2_s, qev, qxs, Nat.reduceEqDiff, reduceIte, and_true, true_and, and_false, false_and, and_self, or_true, true_or, qb_or, reduceCtorEq, qbr_True, qbr_False, q10, q01, qwM, pjx hS, h1.1.1, nIcl (show n < 1000 by omega), es, eo, eh, nIcl (show ofN S n < 1000 by omega), rB_at hr (show ofN S n < 100 by omega), qb_0, nIle (a := 2) (b := srt S n) (by omega) (by omega), sh_nI _ lh, or_nI, nI_1]
      refine qbr_f (nI_ge (by omega) (by omega)) ?_
      refine ⟨nI_vp (by omega) (by omega), ?_⟩
      refine qbr_i (fun c1 => ?_) (fun c1 => ?_)
      · refine oX11_makersOf_52 _ _ _ _ _ _ ?_
        simp only [bX11_makersOf_52, qsem, qopt_s, qopt2_s, qev, qxs, Nat.reduceEqDiff, reduceIte, and_true, true_and, and_false, false_and, and_self, or_true, true_or, qb_or, reduceCtorEq, qbr_True, qbr_False, q10, q01, qwM, pjx hS, h1.1.1, nIcl (show n < 1000 by omega), es, eo, eh, nIcl (show ofN S n < 1000 by omega), rB_at hr (show ofN S n < 100 by omega), qb_0, nIle (a := 2) (b := srt S n) (by omega) (by omega), sh_nI _ lh, or_nI, nI_1]
        first | exact ih (n + 1) m (by omega) hm (no (fun q => by have := (nI_leI (a := 2) (b := srt S n) (by omega) (by omega)).mp c1; omega)) | exact ih (n + 1) m (by omega) hm (no (fun q => by have := (hρ _).mpr q.2; rw [c2] at this; cases this)) | exact ih (n + 1) _ (by omega) (or_lt hm lh) (yes (Nat.lt_of_not_le (fun q => c1 ((nI_leI (a := 2) (b := srt S n) (by omega) (by omega)).mpr q))) ((hρ _).mp (by simpa using c2)))
      · refine ⟨nI_vp (by omega) (by omega), ?_⟩
        refine ⟨nI_vp (by omega) (by omega), ?_⟩
        refine qbr_i (fun c2 => ?_) (fun c2 => ?_)
        · refine oX11_makersOf_52 _ _ _ _ _ _ ?_
          simp only [bX11_makersOf_52, qsem, qopt_s, qopt2_s, qev, qxs, Nat.reduceEqDiff, reduceIte, and_true, true_and, and_false, false_and, and_self, or_true, true_or, qb_or, reduceCtorEq, qbr_True, qbr_False, q10, q01, qwM, pjx hS, h1.1.1, nIcl (show n < 1000 by omega), es, eo, eh, nIcl (show ofN S n < 1000 by omega), rB_at hr (show ofN S n < 100 by omega), qb_0, nIle (a := 2) (b := srt S n) (by omega) (by omega), sh_nI _ lh, or_nI, nI_1]
          first | exact ih (n + 1) m (by omega) hm (no (fun q => by have := (nI_leI (a := 2) (b := srt S n) (by omega) (by omega)).mp c1; omega)) | exact ih (n + 1) m (by omega) hm (no (fun q => by have := (hρ _).mpr q.2; rw [c2] at this; cases this)) | exact ih (n + 1) _ (by omega) (or_lt hm lh) (yes (Nat.lt_of_not_le (fun q => c1 ((nI_leI (a := 2) (b := srt S n) (by omega) (by omega)).mpr q))) ((hρ _).mp (by simpa using c2)))
        · refine ⟨nI_vp (by omega) (by omega), ?_⟩
          refine oX11_makersOf_52 _ _ _ _ _ _ ?_
          simp only [bX11_makersOf_52, qsem, qopt_s, qopt2_s, qev, qxs, Nat.reduceEqDiff, reduceIte, and_true, true_and, and_false, false_and, and_self, or_true, true_or, qb_or, reduceCtorEq, qbr_True, qbr_False, q10, q01, qwM, pjx hS, h1.1.1, nIcl (show n < 1000 by omega), es, eo, eh, nIcl (show ofN S n < 1000 by omega), rB_at hr (show ofN S n < 100 by omega), qb_0, nIle (a := 2) (b := srt S n) (by omega) (by omega), sh_nI _ lh, or_nI, nI_1]
          first | exact ih (n + 1) m (by omega) hm (no (fun q => by have := (nI_leI (a := 2) (b := srt S n) (by omega) (by omega)).mp c1; omega)) | exact ih (n + 1) m (by omega) hm (no (fun q => by have := (hρ _).mpr q.2; rw [c2] at this; cases this)) | exact ih (n + 1) _ (by omega) (or_lt hm lh) (yes (Nat.lt_of_not_le (fun q => c1 ((nI_leI (a := 2) (b := srt S n) (by omega) (by omega)).mpr q))) ((hρ _).mp (by simpa using c2)))
  refine oX11_makersOf_0 _ _ _ _ _ _ ?_
  simp only [bX11_makersOf_0, qsem, qopt_s, qopt2_s, qev, qxs, Nat.reduceEqDiff, reduceIte, and_true, true_and, and_false, false_and, and_self, or_true, true_or, qb_or, reduceCtorEq, qbr_True, qbr_False, q10, q01, qwM]
  refine kX11_makersOf_2 (zX11_rowOf hS h1 h2 hf) rfl (Nat.le_of_ble_eq_true rfl) (Nat.le_of_ble_eq_true rfl) ⟨Nat.le_of_ble_eq_true rfl, Nat.le_of_ble_eq_true rfl⟩ ?_
  rintro _ _ ⟨M1, ρ1, rfl, rfl, hS1, hr1, hi1⟩
  refine oX11_makersOf_5 _ _ _ _ _ _ ?_
  simp only [bX11_makersOf_5, qsem, qopt_s, qopt2_s, qev, qxs, Nat.reduceEqDiff, reduceIte, and_true, true_and, and_false, false_and, and_self, or_true, true_or, qb_or, reduceCtorEq, qbr_True, qbr_False, q10, q01, qwM]
  exact loop M1 ρ1 hS1 hr1 hi1 (cN S) 0 0 (by omega) (by omega) (fun h hh => by simp)


/-! what holds between the class's content C and the model's lasting state S -/
def iN (C : qC) (S : qS) : Prop := xI C 1 3 = nI (cN S) ∧ (∀ n, n < cN S → ∀ k, k < 8 → xA C 2 (n * 8 + k) = ntV S n k) ∧ ∀ j, cN S * 8 ≤ j → j < 3200 → xA C 2 j = -1
def iS (C : qC) (S : qS) : Prop := xI C 3 3 = nI (cS S) ∧ ∀ s, s < cS S → ∀ k, k < 6 → xA C 4 (s * 6 + k) = slV S false s k
def iF (C : qC) (S : qS) : Prop := xI C 5 7 = nI (cF S) ∧ ∀ i, i < cF S → xM C 6 i = S.2.2 i
def iR (C : qC) (S : qS) : Prop := (∀ i, i < cF S → ∀ j, j < 128 → (fB C (13 + i) j = true ↔ reach S i j)) ∧ ∀ i, cF S ≤ i → i < 100 → ∀ j, j < 128 → fB C (13 + i) j = false
def mkr (S : qS) (i h : Nat) : Prop := ∃ n, n < cN S ∧ srt S n < 2 ∧ ofN S n = i ∧ hnd S n = h
def iO (C : qC) (S : qS) : Prop := ∀ i, i < 100 → xA C 8 i = nI (bT (fun h => dc (mkr S i h)) 12)
def iB (C : qC) (S : qS) : Prop := ∀ i, i < 100 → xA C 9 i = nI (bdb S i (cN S))
def iT (C : qC) (S : qS) : Prop := ∀ i, i < 100 → xA C 10 i = nI (bT (fun h => glt S 2 i h) 12) ∧ xA C 11 i = nI (bT (fun h => glt S 3 i h) 12)
def iC (C : qC) (S : qS) : Prop := ∀ j, j < 128 → (fB C 12 j = true ↔ cln S j)
def mkd (S : qS) (f : Nat) : Prop := (∃ c, c < cK S ∧ S.2.1 154 c = 0 ∧ S.2.1 155 c = nI f) ∨ ∃ n, n < cN S ∧ srt S n < 2 ∧ ofN S n = f ∧ cnN S n
def snP (S : qS) (s : Int32) (x : Nat) (v : Int32) : Prop := ∀ n, n ≤ 400 → (v ≤ nI n ↔ ∃ c, c < cK S ∧ S.2.1 154 c = s ∧ S.2.1 155 c = nI x ∧ S.2.1 156 c ≤ nI n)
def iM (C : qC) (S : qS) : Prop := xI C 117 3 = nI (cK S) ∧ (∀ t, t < 6 → snP S 1 t (xA C 118 t)) ∧ (∀ h, h < 12 → snP S 2 h (xA C 119 h)) ∧ ∀ j, j < 128 → (fB C 120 j = true ↔ mkd S j)
def iA (C : qC) (S : qS) : Prop := xI C 121 1 = nI (cT S) ∧ ∀ i, i < cT S → xA C 122 i = S.2.1 160 i
def iQ (C : qC) (S : qS) : Prop := xI C 124 1 = nI (cQ S) ∧ ∀ k, k < cQ S → xA C 125 k = S.2.1 150 k
def iK (C : qC) (S : qS) : Prop := ∀ k, k < 4 → xA C 127 k = S.2.1 151 k ∧ xA C 128 k = S.2.1 152 k ∧ xA C 129 k = S.2.1 153 k ∧ xA C 130 k = nI (fb_ct (fun s => S.2.1 147 (sln S s) == nI k) (cS S))
def stA : List Nat → Nat → Nat
  | [], _ => 0
  | y :: t, i => if i = t.length then y else stA t i
def iU (C : qC) (S : qS) (r : Nat × Nat × Nat) (H : Nat → Nat → Nat → Bool) : Prop := xI C 0 10 = nI (cR S) ∧ (∃ sl : List Nat, r.2.2 = sl.length ∧ sl.length ≤ 100 ∧ (∀ i, i < sl.length → xA C (r.1 + 1) i = nI (stA sl i)) ∧ (∀ x, x ∈ sl → x < 2000) ∧ ST 0 sl H) ∧ (xI C 131 2 = 0 ∨ (xI C 131 2 = 1 ∧ jdN H true (xI C 131 0) ∧ jdN H false (xI C 131 1)))
def W10 (S : qS) : Prop := ∀ k, k < 4 → ∃ u : Nat, u ≤ 1000000 ∧ S.2.1 151 k = nI u
theorem yA_yA (X : qC) (p : Nat) (f g : Nat → Int32) : yA (yA X p f) p g = yA X p g := by
  refine Prod.ext rfl (Prod.ext rfl (Prod.ext ?_ rfl))
  funext q
  show (if q = p then g else if q = p then f else X.2.2.1 q) = if q = p then g else X.2.2.1 q
  split <;> rfl
/-! tables -/
set_option maxRecDepth 100000 in
set_option maxHeartbeats 4000000 in
theorem zX8_size_1 {C M : qC} {r : Nat × Nat × Nat} : CT mX8_size 0 0 0 [.ref 1] (wd C M r) (fun r' w' => w' = wd C M r ∧ r' = some (.int (xI C 1 3))) := by
  refine eX8_size (AW_gen (fun Q hQ => ?_))
  refine oX8_size_0 _ _ _ _ _ _ ?_
  simp only [bX8_size_0, qsem, qopt_s, qopt2_s, qev, qxs, Nat.reduceEqDiff, reduceIte, and_true, true_and, and_false, false_and, and_self, or_true, true_or, qb_or, reduceCtorEq, qbr_True, qbr_False, q10, q01, qwC]
  exact hQ _ _ ⟨rfl, rfl⟩
set_option maxRecDepth 100000 in
set_option maxHeartbeats 4000000 in
theorem zX8_isFull_1 {C M : qC} {r : Nat × Nat × Nat} {N : Nat} (hN : xI C 1 3 = nI N) (hb : N ≤ 400) : CT mX8_isFull 0 0 0 [.ref 1] (wd C M r) (fun r' w' => w' = wd C M r ∧ r' = some (.int (qb (decide (N = 400))))) := by
  have e : (nI N < (400 : Int32)) = (N < 400) := nIlt (b := 400) (by omega) (by omega)
  refine eX8_isFull (AW_gen (fun Q hQ => ?_))
  refine oX8_isFull_0 _ _ _ _ _ _ ?_
  simp only [bX8_isFull_0, qsem, qopt_s, qopt2_s, qev, qxs, Nat.reduceEqDiff, reduceIte, and_true, true_and, and_false, false_and, and_self, or_true, true_or, qb_or, reduceCtorEq, qbr_True, qbr_False, q10, q01, qwC, hN, e]
  refine qbr_i (fun c1 => ?_) (fun c1 => ?_)
  · refine oX8_isFull_15 _ _ _ _ _ _ ?_
    simp only [bX8_isFull_15, qsem, qopt_s, qopt2_s, qev, qxs, Nat.reduceEqDiff, reduceIte, and_true, true_and, and_false, false_and, and_self, or_true, true_or, qb_or, reduceCtorEq, qbr_True, qbr_False, q10, q01, qwC, hN, e]
    refine oX8_isFull_16 _ _ _ _ _ _ ?_
    simp only [bX8_isFull_16, qsem, qopt_s, qopt2_s, qev, qxs, Nat.reduceEqDiff, reduceIte, and_true, true_and, and_false, false_and, and_self, or_true, true_or, qb_or, reduceCtorEq, qbr_True, qbr_False, q10, q01, qwC, hN, e]
    first | exact hQ _ _ ⟨rfl, ri (qb_0of (decide_eq_false (by omega)))⟩ | exact hQ _ _ ⟨rfl, ri (qb_1of (decide_eq_true (by omega)))⟩
  · refine oX8_isFull_16 _ _ _ _ _ _ ?_
    simp only [bX8_isFull_16, qsem, qopt_s, qopt2_s, qev, qxs, Nat.reduceEqDiff, reduceIte, and_true, true_and, and_false, false_and, and_self, or_true, true_or, qb_or, reduceCtorEq, qbr_True, qbr_False, q10, q01, qwC, hN, e]
    first | exact hQ _ _ ⟨rfl, ri (qb_0of (decide_eq_false (by omega)))⟩ | exact hQ _ _ ⟨rfl, ri (qb_1of (decide_eq_true (by omega)))⟩
set_option maxRecDepth 100000 in
set_option maxHeartbeats 4000000 in
theorem zX8_addRow_1 {C M : qC} {r : Nat × Nat × Nat} {N : Nat} (hN : xI C 1 3 = nI N) (hb : N < 400) : CT mX8_addRow 1 0 0 [.ref 1] (wd C M r) (fun r' w' => w' = wd (yI C 1 3 (nI (N + 1))) M r ∧ r' = some (.int (nI N))) := by
  refine eX8_addRow (AW_gen (fun Q hQ => ?_))
  refine oX8_addRow_0 _ _ _ _ _ _ ?_
  simp only [bX8_addRow_0, qsem, qopt_s, qopt2_s, qev, qxs, Nat.reduceEqDiff, reduceIte, and_true, true_and, and_false, false_and, and_self, or_true, true_or, qb_or, reduceCtorEq, qbr_True, qbr_False, q10, q01, qwC, hN, qb_0, decide_eq_false (show ¬ N = 400 by omega), nI_1, nIs1]
  refine kX8_addRow_1 (zX8_isFull_1 hN (by omega)) (rfl) (Nat.le_of_ble_eq_true rfl) (Nat.le_of_ble_eq_true rfl) ⟨Nat.le_of_ble_eq_true rfl, Nat.le_of_ble_eq_true rfl⟩ ?_
  rintro _ _ ⟨rfl, rfl⟩
  refine oX8_addRow_4 _ _ _ _ _ _ ?_
  simp only [bX8_addRow_4, qsem, qopt_s, qopt2_s, qev, qxs, Nat.reduceEqDiff, reduceIte, and_true, true_and, and_false, false_and, and_self, or_true, true_or, qb_or, reduceCtorEq, qbr_True, qbr_False, q10, q01, qwC, hN, qb_0, decide_eq_false (show ¬ N = 400 by omega), nI_1, nIs1]
  refine oX8_addRow_9 _ _ _ _ _ _ ?_
  simp only [bX8_addRow_9, qsem, qopt_s, qopt2_s, qev, qxs, Nat.reduceEqDiff, reduceIte, and_true, true_and, and_false, false_and, and_self, or_true, true_or, qb_or, reduceCtorEq, qbr_True, qbr_False, q10, q01, qwC, hN, qb_0, decide_eq_false (show ¬ N = 400 by omega), nI_1, nIs1]
  exact hQ _ _ ⟨rfl, rfl⟩
set_option maxRecDepth 100000 in
set_option maxHeartbeats 4000000 in
theorem zX8_isCell_1 {C M : qC} {r : Nat × Nat × Nat} {N : Nat} {a b : Int32} (hN : xI C 1 3 = nI N) : CT mX8_isCell 0 0 0 [.ref 1, .int a, .int b] (wd C M r) (fun r' w' => w' = wd C M r ∧ r' = some (.int (qb (inN a N && inN b 8)))) := by
  refine eX8_isCell (AW_gen (fun Q hQ => ?_))
  refine oX8_isCell_0 _ _ _ _ _ _ ?_
  simp only [bX8_isCell_0, qsem, qopt_s, qopt2_s, qev, qxs, Nat.reduceEqDiff, reduceIte, and_true, true_and, and_false, false_and, and_self, or_true, true_or, qb_or, reduceCtorEq, qbr_True, qbr_False, q10, q01, qwC, hN]
  refine qbr_i (fun c1 => ?_) (fun c1 => ?_)
  · refine oX8_isCell_28 _ _ _ _ _ _ ?_
    simp only [bX8_isCell_28, qsem, qopt_s, qopt2_s, qev, qxs, Nat.reduceEqDiff, reduceIte, and_true, true_and, and_false, false_and, and_self, or_true, true_or, qb_or, reduceCtorEq, qbr_True, qbr_False, q10, q01, qwC, hN]
    refine oX8_isCell_29 _ _ _ _ _ _ ?_
    simp only [bX8_isCell_29, qsem, qopt_s, qopt2_s, qev, qxs, Nat.reduceEqDiff, reduceIte, and_true, true_and, and_false, false_and, and_self, or_true, true_or, qb_or, reduceCtorEq, qbr_True, qbr_False, q10, q01, qwC, hN]
    first | exact hQ _ _ ⟨rfl, ri (qb_1of (Bool.and_eq_true_iff.mpr ⟨decide_eq_true ⟨Int32.not_lt.mp c1, Int32.not_le.mp c2⟩, decide_eq_true ⟨Int32.not_lt.mp c3, Int32.not_le.mp c4⟩⟩))⟩ | exact hQ _ _ ⟨rfl, ri (qb_0of (Bool.and_eq_false_iff.mpr (Or.inl (decide_eq_false (fun q => absurd c1 (Int32.not_lt.mpr q.1))))))⟩ | exact hQ _ _ ⟨rfl, ri (qb_0of (Bool.and_eq_false_iff.mpr (Or.inl (decide_eq_false (fun q => absurd q.2 (Int32.not_lt.mpr c2))))))⟩ | exact hQ _ _ ⟨rfl, ri (qb_0of (Bool.and_eq_false_iff.mpr (Or.inr (decide_eq_false (fun q => absurd c3 (Int32.not_lt.mpr q.1))))))⟩ | exact hQ _ _ ⟨rfl, ri (qb_0of (Bool.and_eq_false_iff.mpr (Or.inr (decide_eq_false (fun q => absurd q.2 (Int32.not_lt.mpr c4))))))⟩
  · refine qbr_i (fun c2 => ?_) (fun c2 => ?_)
    · refine oX8_isCell_28 _ _ _ _ _ _ ?_
      simp only [bX8_isCell_28, qsem, qopt_s, qopt2_s, qev, qxs, Nat.reduceEqDiff, reduceIte, and_true, true_and, and_false, false_and, and_self, or_true, true_or, qb_or, reduceCtorEq, qbr_True, qbr_False, q10, q01, qwC, hN]
      refine oX8_isCell_29 _ _ _ _ _ _ ?_
      simp only [bX8_isCell_29, qsem, qopt_s, qopt2_s, qev, qxs, Nat.reduceEqDiff, reduceIte, and_true, true_and, and_false, false_and, and_self, or_true, true_or, qb_or, reduceCtorEq, qbr_True, qbr_False, q10, q01, qwC, hN]
      first | exact hQ _ _ ⟨rfl, ri (qb_1of (Bool.and_eq_true_iff.mpr ⟨decide_eq_true ⟨Int32.not_lt.mp c1, Int32.not_le.mp c2⟩, decide_eq_true ⟨Int32.not_lt.mp c3, Int32.not_le.mp c4⟩⟩))⟩ | exact hQ _ _ ⟨rfl, ri (qb_0of (Bool.and_eq_false_iff.mpr (Or.inl (decide_eq_false (fun q => absurd c1 (Int32.not_lt.mpr q.1))))))⟩ | exact hQ _ _ ⟨rfl, ri (qb_0of (Bool.and_eq_false_iff.mpr (Or.inl (decide_eq_false (fun q => absurd q.2 (Int32.not_lt.mpr c2))))))⟩ | exact hQ _ _ ⟨rfl, ri (qb_0of (Bool.and_eq_false_iff.mpr (Or.inr (decide_eq_false (fun q => absurd c3 (Int32.not_lt.mpr q.1))))))⟩ | exact hQ _ _ ⟨rfl, ri (qb_0of (Bool.and_eq_false_iff.mpr (Or.inr (decide_eq_false (fun q => absurd q.2 (Int32.not_lt.mpr c4))))))⟩
    · refine qbr_i (fun c3 => ?_) (fun c3 => ?_)
      · refine oX8_isCell_28 _ _ _ _ _ _ ?_
        simp only [bX8_isCell_28, qsem, qopt_s, qopt2_s, qev, qxs, Nat.reduceEqDiff, reduceIte, and_true, true_and, and_false, false_and, and_self, or_true, true_or, qb_or, reduceCtorEq, qbr_True, qbr_False, q10, q01, qwC, hN]
        refine oX8_isCell_29 _ _ _ _ _ _ ?_
        simp only [bX8_isCell_29, qsem, qopt_s, qopt2_s, qev, qxs, Nat.reduceEqDiff, reduceIte, and_true, true_and, and_false, false_and, and_self, or_true, true_or, qb_or, reduceCtorEq, qbr_True, qbr_False, q10, q01, qwC, hN]
        first | exact hQ _ _ ⟨rfl, ri (qb_1of (Bool.and_eq_true_iff.mpr ⟨decide_eq_true ⟨Int32.not_lt.mp c1, Int32.not_le.mp c2⟩, decide_eq_true ⟨Int32.not_lt.mp c3, Int32.not_le.mp c4⟩⟩))⟩ | exact hQ _ _ ⟨rfl, ri (qb_0of (Bool.and_eq_false_iff.mpr (Or.inl (decide_eq_false (fun q => absurd c1 (Int32.not_lt.mpr q.1))))))⟩ | exact hQ _ _ ⟨rfl, ri (qb_0of (Bool.and_eq_false_iff.mpr (Or.inl (decide_eq_false (fun q => absurd q.2 (Int32.not_lt.mpr c2))))))⟩ | exact hQ _ _ ⟨rfl, ri (qb_0of (Bool.and_eq_false_iff.mpr (Or.inr (decide_eq_false (fun q => absurd c3 (Int32.not_lt.mpr q.1))))))⟩ | exact hQ _ _ ⟨rfl, ri (qb_0of (Bool.and_eq_false_iff.mpr (Or.inr (decide_eq_false (fun q => absurd q.2 (Int32.not_lt.mpr c4))))))⟩
      · refine qbr_i (fun c4 => ?_) (fun c4 => ?_)
        · refine oX8_isCell_28 _ _ _ _ _ _ ?_
          simp only [bX8_isCell_28, qsem, qopt_s, qopt2_s, qev, qxs, Nat.reduceEqDiff, reduceIte, and_true, true_and, and_false, false_and, and_self, or_true, true_or, qb_or, reduceCtorEq, qbr_True, qbr_False, q10, q01, qwC, hN]
          refine oX8_isCell_29 _ _ _ _ _ _ ?_
          simp only [bX8_isCell_29, qsem, qopt_s, qopt2_s, qev, qxs, Nat.reduceEqDiff, reduceIte, and_true, true_and, and_false, false_and, and_self, or_true, true_or, qb_or, reduceCtorEq, qbr_True, qbr_False, q10, q01, qwC, hN]
          first | exact hQ _ _ ⟨rfl, ri (qb_1of (Bool.and_eq_true_iff.mpr ⟨decide_eq_true ⟨Int32.not_lt.mp c1, Int32.not_le.mp c2⟩, decide_eq_true ⟨Int32.not_lt.mp c3, Int32.not_le.mp c4⟩⟩))⟩ | exact hQ _ _ ⟨rfl, ri (qb_0of (Bool.and_eq_false_iff.mpr (Or.inl (decide_eq_false (fun q => absurd c1 (Int32.not_lt.mpr q.1))))))⟩ | exact hQ _ _ ⟨rfl, ri (qb_0of (Bool.and_eq_false_iff.mpr (Or.inl (decide_eq_false (fun q => absurd q.2 (Int32.not_lt.mpr c2))))))⟩ | exact hQ _ _ ⟨rfl, ri (qb_0of (Bool.and_eq_false_iff.mpr (Or.inr (decide_eq_false (fun q => absurd c3 (Int32.not_lt.mpr q.1))))))⟩ | exact hQ _ _ ⟨rfl, ri (qb_0of (Bool.and_eq_false_iff.mpr (Or.inr (decide_eq_false (fun q => absurd q.2 (Int32.not_lt.mpr c4))))))⟩
        · refine oX8_isCell_29 _ _ _ _ _ _ ?_
          simp only [bX8_isCell_29, qsem, qopt_s, qopt2_s, qev, qxs, Nat.reduceEqDiff, reduceIte, and_true, true_and, and_false, false_and, and_self, or_true, true_or, qb_or, reduceCtorEq, qbr_True, qbr_False, q10, q01, qwC, hN]
          first | exact hQ _ _ ⟨rfl, ri (qb_1of (Bool.and_eq_true_iff.mpr ⟨decide_eq_true ⟨Int32.not_lt.mp c1, Int32.not_le.mp c2⟩, decide_eq_true ⟨Int32.not_lt.mp c3, Int32.not_le.mp c4⟩⟩))⟩ | exact hQ _ _ ⟨rfl, ri (qb_0of (Bool.and_eq_false_iff.mpr (Or.inl (decide_eq_false (fun q => absurd c1 (Int32.not_lt.mpr q.1))))))⟩ | exact hQ _ _ ⟨rfl, ri (qb_0of (Bool.and_eq_false_iff.mpr (Or.inl (decide_eq_false (fun q => absurd q.2 (Int32.not_lt.mpr c2))))))⟩ | exact hQ _ _ ⟨rfl, ri (qb_0of (Bool.and_eq_false_iff.mpr (Or.inr (decide_eq_false (fun q => absurd c3 (Int32.not_lt.mpr q.1))))))⟩ | exact hQ _ _ ⟨rfl, ri (qb_0of (Bool.and_eq_false_iff.mpr (Or.inr (decide_eq_false (fun q => absurd q.2 (Int32.not_lt.mpr c4))))))⟩
set_option maxRecDepth 100000 in
set_option maxHeartbeats 4000000 in
theorem zX8_cell_1 {C M : qC} {r : Nat × Nat × Nat} {N : Nat} {a b : Int32} (hN : xI C 1 3 = nI N) (hb : N ≤ 400) : CT mX8_cell 1 0 0 [.ref 1, .int a, .int b] (wd C M r) (fun r' w' => w' = wd C M r ∧ r' = some (.int (if inN a N && inN b 8 then xA C 2 (a.toNatClampNeg * 8 + b.toNatClampNeg) else -1))) := by
  refine eX8_cell (AW_gen (fun Q hQ => ?_))
  by_cases h : (inN a N && inN b 8) = true
  · obtain ⟨ha, hb2⟩ := Bool.and_eq_true_iff.mp h
    obtain ⟨n, hn, rfl⟩ := inN_of (by omega) ha
    obtain ⟨k, hk, rfl⟩ := inN_of (by omega) hb2
    have ei : nI n * 8 + nI k = nI (n * 8 + k) := by rw [show (8 : Int32) = nI 8 from rfl, pk_mul, nadd]
    rw [h, if_pos rfl, nIcl (show n < 1000 by omega), nIcl (show k < 1000 by omega)] at hQ
    refine oX8_cell_0 _ _ _ _ _ _ ?_
    simp only [bX8_cell_0, qsem, qopt_s, qopt2_s, qev, qxs, Nat.reduceEqDiff, reduceIte, and_true, true_and, and_false, false_and, and_self, or_true, true_or, qb_or, reduceCtorEq, qbr_True, qbr_False, q10, q01, qwC, h, qb_t, ei, ncl (show n * 8 + k < 10000 by omega)]
    refine kX8_cell_3 (zX8_isCell_1 hN) (rfl) (Nat.le_of_ble_eq_true rfl) (Nat.le_of_ble_eq_true rfl) ⟨Nat.le_of_ble_eq_true rfl, Nat.le_of_ble_eq_true rfl⟩ ?_
    rintro _ _ ⟨rfl, rfl⟩
    refine oX8_cell_6 _ _ _ _ _ _ ?_
    simp only [bX8_cell_6, qsem, qopt_s, qopt2_s, qev, qxs, Nat.reduceEqDiff, reduceIte, and_true, true_and, and_false, false_and, and_self, or_true, true_or, qb_or, reduceCtorEq, qbr_True, qbr_False, q10, q01, qwC, h, qb_t, ei, ncl (show n * 8 + k < 10000 by omega)]
    refine ⟨nI_vp (by omega) (by omega), ?_⟩
    refine oX8_cell_26 _ _ _ _ _ _ ?_
    simp only [bX8_cell_26, qsem, qopt_s, qopt2_s, qev, qxs, Nat.reduceEqDiff, reduceIte, and_true, true_and, and_false, false_and, and_self, or_true, true_or, qb_or, reduceCtorEq, qbr_True, qbr_False, q10, q01, qwC, h, qb_t, ei, ncl (show n * 8 + k < 10000 by omega)]
    exact hQ _ _ ⟨rfl, rfl⟩
  · have h : (inN a N && inN b 8) = false := (Bool.not_eq_true _).mp h
    rw [h, if_neg Bool.false_ne_true] at hQ
    refine oX8_cell_0 _ _ _ _ _ _ ?_
    simp only [bX8_cell_0, qsem, qopt_s, qopt2_s, qev, qxs, Nat.reduceEqDiff, reduceIte, and_true, true_and, and_false, false_and, and_self, or_true, true_or, qb_or, reduceCtorEq, qbr_True, qbr_False, q10, q01, qwC, h, qb_f]
    refine kX8_cell_3 (zX8_isCell_1 hN) (rfl) (Nat.le_of_ble_eq_true rfl) (Nat.le_of_ble_eq_true rfl) ⟨Nat.le_of_ble_eq_true rfl, Nat.le_of_ble_eq_true rfl⟩ ?_
    rintro _ _ ⟨rfl, rfl⟩
    refine oX8_cell_6 _ _ _ _ _ _ ?_
    simp only [bX8_cell_6, qsem, qopt_s, qopt2_s, qev, qxs, Nat.reduceEqDiff, reduceIte, and_true, true_and, and_false, false_and, and_self, or_true, true_or, qb_or, reduceCtorEq, qbr_True, qbr_False, q10, q01, qwC, h, qb_f]
    refine oX8_cell_25 _ _ _ _ _ _ ?_
    simp only [bX8_cell_25, qsem, qopt_s, qopt2_s, qev, qxs, Nat.reduceEqDiff, reduceIte, and_true, true_and, and_false, false_and, and_self, or_true, true_or, qb_or, reduceCtorEq, qbr_True, qbr_False, q10, q01, qwC, h, qb_f]
    refine oX8_cell_26 _ _ _ _ _ _ ?_
    simp only [bX8_cell_26, qsem, qopt_s, qopt2_s, qev, qxs, Nat.reduceEqDiff, reduceIte, and_true, true_and, and_false, false_and, and_self, or_true, true_or, qb_or, reduceCtorEq, qbr_True, qbr_False, q10, q01, qwC, h, qb_f]
    exact hQ _ _ ⟨rfl, rfl⟩
set_option maxRecDepth 100000 in
set_option maxHeartbeats 4000000 in
theorem zX8_set_1 {C M : qC} {r : Nat × Nat × Nat} {N n k : Nat} {v : Int32} (hN : xI C 1 3 = nI N) (hb : N ≤ 400) (hn : n < N) (hk : k < 8) : CT mX8_set 1 0 0 [.ref 1, .int (nI n), .int (nI k), .int v] (wd C M r) (fun r' w' => r' = none ∧ w' = wd (yA C 2 (upd (xA C 2) (n * 8 + k) v)) M r) := by
  have ei : nI n * 8 + nI k = nI (n * 8 + k) := by rw [show (8 : Int32) = nI 8 from rfl, pk_mul, nadd]
  have h : (inN (nI n) N && inN (nI k) 8) = true := Bool.and_eq_true_iff.mpr ⟨decide_eq_true ⟨nI_pos' (by omega), nI_lt hn (by omega)⟩, decide_eq_true ⟨nI_pos' (by omega), nI_lt hk (by omega)⟩⟩
  refine eX8_set (AW_gen (fun Q hQ => ?_))
  refine oX8_set_0 _ _ _ _ _ _ ?_
  simp only [bX8_set_0, qsem, qopt_s, qopt2_s, qev, qxs, Nat.reduceEqDiff, reduceIte, and_true, true_and, and_false, false_and, and_self, or_true, true_or, qb_or, reduceCtorEq, qbr_True, qbr_False, q10, q01, qwC, h, qb_t, ei, ncl (show n * 8 + k < 10000 by omega)]
  refine kX8_set_3 (zX8_isCell_1 hN) (rfl) (Nat.le_of_ble_eq_true rfl) (Nat.le_of_ble_eq_true rfl) ⟨Nat.le_of_ble_eq_true rfl, Nat.le_of_ble_eq_true rfl⟩ ?_
  rintro _ _ ⟨rfl, rfl⟩
  refine oX8_set_6 _ _ _ _ _ _ ?_
  simp only [bX8_set_6, qsem, qopt_s, qopt2_s, qev, qxs, Nat.reduceEqDiff, reduceIte, and_true, true_and, and_false, false_and, and_self, or_true, true_or, qb_or, reduceCtorEq, qbr_True, qbr_False, q10, q01, qwC, h, qb_t, ei, ncl (show n * 8 + k < 10000 by omega)]
  refine ⟨nI_vp (by omega) (by omega), ?_⟩
  refine oX8_set_23 _ _ _ _ _ _ ?_
  simp only [bX8_set_23, qsem, qopt_s, qopt2_s, qev, qxs, Nat.reduceEqDiff, reduceIte, and_true, true_and, and_false, false_and, and_self, or_true, true_or, qb_or, reduceCtorEq, qbr_True, qbr_False, q10, q01, qwC, h, qb_t, ei, ncl (show n * 8 + k < 10000 by omega)]
  exact hQ _ _ ⟨rfl, rfl⟩
set_option maxRecDepth 100000 in
set_option maxHeartbeats 4000000 in
theorem zX8_size_3 {C M : qC} {r : Nat × Nat × Nat} : CT mX8_size 0 0 0 [.ref 3] (wd C M r) (fun r' w' => w' = wd C M r ∧ r' = some (.int (xI C 3 3))) := by
  refine eX8_size (AW_gen (fun Q hQ => ?_))
  refine oX8_size_0 _ _ _ _ _ _ ?_
  simp only [bX8_size_0, qsem, qopt_s, qopt2_s, qev, qxs, Nat.reduceEqDiff, reduceIte, and_true, true_and, and_false, false_and, and_self, or_true, true_or, qb_or, reduceCtorEq, qbr_True, qbr_False, q10, q01, qwC]
  exact hQ _ _ ⟨rfl, rfl⟩
set_option maxRecDepth 100000 in
set_option maxHeartbeats 4000000 in
theorem zX8_isFull_3 {C M : qC} {r : Nat × Nat × Nat} {N : Nat} (hN : xI C 3 3 = nI N) (hb : N ≤ 400) : CT mX8_isFull 0 0 0 [.ref 3] (wd C M r) (fun r' w' => w' = wd C M r ∧ r' = some (.int (qb (decide (N = 400))))) := by
  have e : (nI N < (400 : Int32)) = (N < 400) := nIlt (b := 400) (by omega) (by omega)
  refine eX8_isFull (AW_gen (fun Q hQ => ?_))
  refine oX8_isFull_0 _ _ _ _ _ _ ?_
  simp only [bX8_isFull_0, qsem, qopt_s, qopt2_s, qev, qxs, Nat.reduceEqDiff, reduceIte, and_true, true_and, and_false, false_and, and_self, or_true, true_or, qb_or, reduceCtorEq, qbr_True, qbr_False, q10, q01, qwC, hN, e]
  refine qbr_i (fun c1 => ?_) (fun c1 => ?_)
  · refine oX8_isFull_15 _ _ _ _ _ _ ?_
    simp only [bX8_isFull_15, qsem, qopt_s, qopt2_s, qev, qxs, Nat.reduceEqDiff, reduceIte, and_true, true_and, and_false, false_and, and_self, or_true, true_or, qb_or, reduceCtorEq, qbr_True, qbr_False, q10, q01, qwC, hN, e]
    refine oX8_isFull_16 _ _ _ _ _ _ ?_
    simp only [bX8_isFull_16, qsem, qopt_s, qopt2_s, qev, qxs, Nat.reduceEqDiff, reduceIte, and_true, true_and, and_false, false_and, and_self, or_true, true_or, qb_or, reduceCtorEq, qbr_True, qbr_False, q10, q01, qwC, hN, e]
    first | exact hQ _ _ ⟨rfl, ri (qb_0of (decide_eq_false (by omega)))⟩ | exact hQ _ _ ⟨rfl, ri (qb_1of (decide_eq_true (by omega)))⟩
  · refine oX8_isFull_16 _ _ _ _ _ _ ?_
    simp only [bX8_isFull_16, qsem, qopt_s, qopt2_s, qev, qxs, Nat.reduceEqDiff, reduceIte, and_true, true_and, and_false, false_and, and_self, or_true, true_or, qb_or, reduceCtorEq, qbr_True, qbr_False, q10, q01, qwC, hN, e]
    first | exact hQ _ _ ⟨rfl, ri (qb_0of (decide_eq_false (by omega)))⟩ | exact hQ _ _ ⟨rfl, ri (qb_1of (decide_eq_true (by omega)))⟩
set_option maxRecDepth 100000 in
set_option maxHeartbeats 4000000 in
theorem zX8_addRow_3 {C M : qC} {r : Nat × Nat × Nat} {N : Nat} (hN : xI C 3 3 = nI N) (hb : N < 400) : CT mX8_addRow 1 0 0 [.ref 3] (wd C M r) (fun r' w' => w' = wd (yI C 3 3 (nI (N + 1))) M r ∧ r' = some (.int (nI N))) := by
  refine eX8_addRow (AW_gen (fun Q hQ => ?_))
  refine oX8_addRow_0 _ _ _ _ _ _ ?_
  simp only [bX8_addRow_0, qsem, qopt_s, qopt2_s, qev, qxs, Nat.reduceEqDiff, reduceIte, and_true, true_and, and_false, false_and, and_self, or_true, true_or, qb_or, reduceCtorEq, qbr_True, qbr_False, q10, q01, qwC, hN, qb_0, decide_eq_false (show ¬ N = 400 by omega), nI_1, nIs1]
  refine kX8_addRow_1 (zX8_isFull_3 hN (by omega)) (rfl) (Nat.le_of_ble_eq_true rfl) (Nat.le_of_ble_eq_true rfl) ⟨Nat.le_of_ble_eq_true rfl, Nat.le_of_ble_eq_true rfl⟩ ?_
  rintro _ _ ⟨rfl, rfl⟩
  refine oX8_addRow_4 _ _ _ _ _ _ ?_
  simp only [bX8_addRow_4, qsem, qopt_s, qopt2_s, qev, qxs, Nat.reduceEqDiff, reduceIte, and_true, true_and, and_false, false_and, and_self, or_true, true_or, qb_or, reduceCtorEq, qbr_True, qbr_False, q10, q01, qwC, hN, qb_0, decide_eq_false (show ¬ N = 400 by omega), nI_1, nIs1]
  refine oX8_addRow_9 _ _ _ _ _ _ ?_
  simp only [bX8_addRow_9, qsem, qopt_s, qopt2_s, qev, qxs, Nat.reduceEqDiff, reduceIte, and_true, true_and, and_false, false_and, and_self, or_true, true_or, qb_or, reduceCtorEq, qbr_True, qbr_False, q10, q01, qwC, hN, qb_0, decide_eq_false (show ¬ N = 400 by omega), nI_1, nIs1]
  exact hQ _ _ ⟨rfl, rfl⟩
set_option maxRecDepth 100000 in
set_option maxHeartbeats 4000000 in
theorem zX8_isCell_3 {C M : qC} {r : Nat × Nat × Nat} {N : Nat} {a b : Int32} (hN : xI C 3 3 = nI N) : CT mX8_isCell 0 0 0 [.ref 3, .int a, .int b] (wd C M r) (fun r' w' => w' = wd C M r ∧ r' = some (.int (qb (inN a N && inN b 6)))) := by
  refine eX8_isCell (AW_gen (fun Q hQ => ?_))
  refine oX8_isCell_0 _ _ _ _ _ _ ?_
  simp only [bX8_isCell_0, qsem, qopt_s, qopt2_s, qev, qxs, Nat.reduceEqDiff, reduceIte, and_true, true_and, and_false, false_and, and_self, or_true, true_or, qb_or, reduceCtorEq, qbr_True, qbr_False, q10, q01, qwC, hN]
  refine qbr_i (fun c1 => ?_) (fun c1 => ?_)
  · refine oX8_isCell_28 _ _ _ _ _ _ ?_
    simp only [bX8_isCell_28, qsem, qopt_s, qopt2_s, qev, qxs, Nat.reduceEqDiff, reduceIte, and_true, true_and, and_false, false_and, and_self, or_true, true_or, qb_or, reduceCtorEq, qbr_True, qbr_False, q10, q01, qwC, hN]
    refine oX8_isCell_29 _ _ _ _ _ _ ?_
    simp only [bX8_isCell_29, qsem, qopt_s, qopt2_s, qev, qxs, Nat.reduceEqDiff, reduceIte, and_true, true_and, and_false, false_and, and_self, or_true, true_or, qb_or, reduceCtorEq, qbr_True, qbr_False, q10, q01, qwC, hN]
    first | exact hQ _ _ ⟨rfl, ri (qb_1of (Bool.and_eq_true_iff.mpr ⟨decide_eq_true ⟨Int32.not_lt.mp c1, Int32.not_le.mp c2⟩, decide_eq_true ⟨Int32.not_lt.mp c3, Int32.not_le.mp c4⟩⟩))⟩ | exact hQ _ _ ⟨rfl, ri (qb_0of (Bool.and_eq_false_iff.mpr (Or.inl (decide_eq_false (fun q => absurd c1 (Int32.not_lt.mpr q.1))))))⟩ | exact hQ _ _ ⟨rfl, ri (qb_0of (Bool.and_eq_false_iff.mpr (Or.inl (decide_eq_false (fun q => absurd q.2 (Int32.not_lt.mpr c2))))))⟩ | exact hQ _ _ ⟨rfl, ri (qb_0of (Bool.and_eq_false_iff.mpr (Or.inr (decide_eq_false (fun q => absurd c3 (Int32.not_lt.mpr q.1))))))⟩ | exact hQ _ _ ⟨rfl, ri (qb_0of (Bool.and_eq_false_iff.mpr (Or.inr (decide_eq_false (fun q => absurd q.2 (Int32.not_lt.mpr c4))))))⟩
  · refine qbr_i (fun c2 => ?_) (fun c2 => ?_)
    · refine oX8_isCell_28 _ _ _ _ _ _ ?_
      simp only [bX8_isCell_28, qsem, qopt_s, qopt2_s, qev, qxs, Nat.reduceEqDiff, reduceIte, and_true, true_and, and_false, false_and, and_self, or_true, true_or, qb_or, reduceCtorEq, qbr_True, qbr_False, q10, q01, qwC, hN]
      refine oX8_isCell_29 _ _ _ _ _ _ ?_
      simp only [bX8_isCell_29, qsem, qopt_s, qopt2_s, qev, qxs, Nat.reduceEqDiff, reduceIte, and_true, true_and, and_false, false_and, and_self, or_true, true_or, qb_or, reduceCtorEq, qbr_True, qbr_False, q10, q01, qwC, hN]
      first | exact hQ _ _ ⟨rfl, ri (qb_1of (Bool.and_eq_true_iff.mpr ⟨decide_eq_true ⟨Int32.not_lt.mp c1, Int32.not_le.mp c2⟩, decide_eq_true ⟨Int32.not_lt.mp c3, Int32.not_le.mp c4⟩⟩))⟩ | exact hQ _ _ ⟨rfl, ri (qb_0of (Bool.and_eq_false_iff.mpr (Or.inl (decide_eq_false (fun q => absurd c1 (Int32.not_lt.mpr q.1))))))⟩ | exact hQ _ _ ⟨rfl, ri (qb_0of (Bool.and_eq_false_iff.mpr (Or.inl (decide_eq_false (fun q => absurd q.2 (Int32.not_lt.mpr c2))))))⟩ | exact hQ _ _ ⟨rfl, ri (qb_0of (Bool.and_eq_false_iff.mpr (Or.inr (decide_eq_false (fun q => absurd c3 (Int32.not_lt.mpr q.1))))))⟩ | exact hQ _ _ ⟨rfl, ri (qb_0of (Bool.and_eq_false_iff.mpr (Or.inr (decide_eq_false (fun q => absurd q.2 (Int32.not_lt.mpr c4))))))⟩
    · refine qbr_i (fun c3 => ?_) (fun c3 => ?_)
      · refine oX8_isCell_28 _ _ _ _ _ _ ?_
        simp only [bX8_isCell_28, qsem, qopt_s, qopt2_s, qev, qxs, Nat.reduceEqDiff, reduceIte, and_true, true_and, and_false, false_and, and_self, or_true, true_or, qb_or, reduceCtorEq, qbr_True, qbr_False, q10, q01, qwC, hN]
        refine oX8_isCell_29 _ _ _ _ _ _ ?_
        simp only [bX8_isCell_29, qsem, qopt_s, qopt2_s, qev, qxs, Nat.reduceEqDiff, reduceIte, and_true, true_and, and_false, false_and, and_self, or_true, true_or, qb_or, reduceCtorEq, qbr_True, qbr_False, q10, q01, qwC, hN]
        first | exact hQ _ _ ⟨rfl, ri (qb_1of (Bool.and_eq_true_iff.mpr ⟨decide_eq_true ⟨Int32.not_lt.mp c1, Int32.not_le.mp c2⟩, decide_eq_true ⟨Int32.not_lt.mp c3, Int32.not_le.mp c4⟩⟩))⟩ | exact hQ _ _ ⟨rfl, ri (qb_0of (Bool.and_eq_false_iff.mpr (Or.inl (decide_eq_false (fun q => absurd c1 (Int32.not_lt.mpr q.1))))))⟩ | exact hQ _ _ ⟨rfl, ri (qb_0of (Bool.and_eq_false_iff.mpr (Or.inl (decide_eq_false (fun q => absurd q.2 (Int32.not_lt.mpr c2))))))⟩ | exact hQ _ _ ⟨rfl, ri (qb_0of (Bool.and_eq_false_iff.mpr (Or.inr (decide_eq_false (fun q => absurd c3 (Int32.not_lt.mpr q.1))))))⟩ | exact hQ _ _ ⟨rfl, ri (qb_0of (Bool.and_eq_false_iff.mpr (Or.inr (decide_eq_false (fun q => absurd q.2 (Int32.not_lt.mpr c4))))))⟩
      · refine qbr_i (fun c4 => ?_) (fun c4 => ?_)
        · refine oX8_isCell_28 _ _ _ _ _ _ ?_
          simp only [bX8_isCell_28, qsem, qopt_s, qopt2_s, qev, qxs, Nat.reduceEqDiff, reduceIte, and_true, true_and, and_false, false_and, and_self, or_true, true_or, qb_or, reduceCtorEq, qbr_True, qbr_False, q10, q01, qwC, hN]
          refine oX8_isCell_29 _ _ _ _ _ _ ?_
          simp only [bX8_isCell_29, qsem, qopt_s, qopt2_s, qev, qxs, Nat.reduceEqDiff, reduceIte, and_true, true_and, and_false, false_and, and_self, or_true, true_or, qb_or, reduceCtorEq, qbr_True, qbr_False, q10, q01, qwC, hN]
          first | exact hQ _ _ ⟨rfl, ri (qb_1of (Bool.and_eq_true_iff.mpr ⟨decide_eq_true ⟨Int32.not_lt.mp c1, Int32.not_le.mp c2⟩, decide_eq_true ⟨Int32.not_lt.mp c3, Int32.not_le.mp c4⟩⟩))⟩ | exact hQ _ _ ⟨rfl, ri (qb_0of (Bool.and_eq_false_iff.mpr (Or.inl (decide_eq_false (fun q => absurd c1 (Int32.not_lt.mpr q.1))))))⟩ | exact hQ _ _ ⟨rfl, ri (qb_0of (Bool.and_eq_false_iff.mpr (Or.inl (decide_eq_false (fun q => absurd q.2 (Int32.not_lt.mpr c2))))))⟩ | exact hQ _ _ ⟨rfl, ri (qb_0of (Bool.and_eq_false_iff.mpr (Or.inr (decide_eq_false (fun q => absurd c3 (Int32.not_lt.mpr q.1))))))⟩ | exact hQ _ _ ⟨rfl, ri (qb_0of (Bool.and_eq_false_iff.mpr (Or.inr (decide_eq_false (fun q => absurd q.2 (Int32.not_lt.mpr c4))))))⟩
        · refine oX8_isCell_29 _ _ _ _ _ _ ?_
          simp only [bX8_isCell_29, qsem, qopt_s, qopt2_s, qev, qxs, Nat.reduceEqDiff, reduceIte, and_true, true_and, and_false, false_and, and_self, or_true, true_or, qb_or, reduceCtorEq, qbr_True, qbr_False, q10, q01, qwC, hN]
          first | exact hQ _ _ ⟨rfl, ri (qb_1of (Bool.and_eq_true_iff.mpr ⟨decide_eq_true ⟨Int32.not_lt.mp c1, Int32.not_le.mp c2⟩, decide_eq_true ⟨Int32.not_lt.mp c3, Int32.not_le.mp c4⟩⟩))⟩ | exact hQ _ _ ⟨rfl, ri (qb_0of (Bool.and_eq_false_iff.mpr (Or.inl (decide_eq_false (fun q => absurd c1 (Int32.not_lt.mpr q.1))))))⟩ | exact hQ _ _ ⟨rfl, ri (qb_0of (Bool.and_eq_false_iff.mpr (Or.inl (decide_eq_false (fun q => absurd q.2 (Int32.not_lt.mpr c2))))))⟩ | exact hQ _ _ ⟨rfl, ri (qb_0of (Bool.and_eq_false_iff.mpr (Or.inr (decide_eq_false (fun q => absurd c3 (Int32.not_lt.mpr q.1))))))⟩ | exact hQ _ _ ⟨rfl, ri (qb_0of (Bool.and_eq_false_iff.mpr (Or.inr (decide_eq_false (fun q => absurd q.2 (Int32.not_lt.mpr c4))))))⟩
set_option maxRecDepth 100000 in
set_option maxHeartbeats 4000000 in
theorem zX8_cell_3 {C M : qC} {r : Nat × Nat × Nat} {N : Nat} {a b : Int32} (hN : xI C 3 3 = nI N) (hb : N ≤ 400) : CT mX8_cell 1 0 0 [.ref 3, .int a, .int b] (wd C M r) (fun r' w' => w' = wd C M r ∧ r' = some (.int (if inN a N && inN b 6 then xA C 4 (a.toNatClampNeg * 6 + b.toNatClampNeg) else -1))) := by
  refine eX8_cell (AW_gen (fun Q hQ => ?_))
  by_cases h : (inN a N && inN b 6) = true
  · obtain ⟨ha, hb2⟩ := Bool.and_eq_true_iff.mp h
    obtain ⟨n, hn, rfl⟩ := inN_of (by omega) ha
    obtain ⟨k, hk, rfl⟩ := inN_of (by omega) hb2
    have ei : nI n * 6 + nI k = nI (n * 6 + k) := by rw [show (6 : Int32) = nI 6 from rfl, pk_mul, nadd]
    rw [h, if_pos rfl, nIcl (show n < 1000 by omega), nIcl (show k < 1000 by omega)] at hQ
    refine oX8_cell_0 _ _ _ _ _ _ ?_
    simp only [bX8_cell_0, qsem, qopt_s, qopt2_s, qev, qxs, Nat.reduceEqDiff, reduceIte, and_true, true_and, and_false, false_and, and_self, or_true, true_or, qb_or, reduceCtorEq, qbr_True, qbr_False, q10, q01, qwC, h, qb_t, ei, ncl (show n * 6 + k < 10000 by omega)]
    refine kX8_cell_3 (zX8_isCell_3 hN) (rfl) (Nat.le_of_ble_eq_true rfl) (Nat.le_of_ble_eq_true rfl) ⟨Nat.le_of_ble_eq_true rfl, Nat.le_of_ble_eq_true rfl⟩ ?_
    rintro _ _ ⟨rfl, rfl⟩
    refine oX8_cell_6 _ _ _ _ _ _ ?_
    simp only [bX8_cell_6, qsem, qopt_s, qopt2_s, qev, qxs, Nat.reduceEqDiff, reduceIte, and_true, true_and, and_false, false_and, and_self, or_true, true_or, qb_or, reduceCtorEq, qbr_True, qbr_False, q10, q01, qwC, h, qb_t, ei, ncl (show n * 6 + k < 10000 by omega)]
    refine ⟨nI_vp (by omega) (by omega), ?_⟩
    refine oX8_cell_26 _ _ _ _ _ _ ?_
    simp only [bX8_cell_26, qsem, qopt_s, qopt2_s, qev, qxs, Nat.reduceEqDiff, reduceIte, and_true, true_and, and_false, false_and, and_self, or_true, true_or, qb_or, reduceCtorEq, qbr_True, qbr_False, q10, q01, qwC, h, qb_t, ei, ncl (show n * 6 + k < 10000 by omega)]
    exact hQ _ _ ⟨rfl, rfl⟩
  · have h : (inN a N && inN b 6) = false := (Bool.not_eq_true _).mp h
    rw [h, if_neg Bool.false_ne_true] at hQ
    refine oX8_cell_0 _ _ _ _ _ _ ?_
    simp only [bX8_cell_0, qsem, qopt_s, qopt2_s, qev, qxs, Nat.reduceEqDiff, reduceIte, and_true, true_and, and_false, false_and, and_self, or_true, true_or, qb_or, reduceCtorEq, qbr_True, qbr_False, q10, q01, qwC, h, qb_f]
    refine kX8_cell_3 (zX8_isCell_3 hN) (rfl) (Nat.le_of_ble_eq_true rfl) (Nat.le_of_ble_eq_true rfl) ⟨Nat.le_of_ble_eq_true rfl, Nat.le_of_ble_eq_true rfl⟩ ?_
    rintro _ _ ⟨rfl, rfl⟩
    refine oX8_cell_6 _ _ _ _ _ _ ?_
    simp only [bX8_cell_6, qsem, qopt_s, qopt2_s, qev, qxs, Nat.reduceEqDiff, reduceIte, and_true, true_and, and_false, false_and, and_self, or_true, true_or, qb_or, reduceCtorEq, qbr_True, qbr_False, q10, q01, qwC, h, qb_f]
    refine oX8_cell_25 _ _ _ _ _ _ ?_
    simp only [bX8_cell_25, qsem, qopt_s, qopt2_s, qev, qxs, Nat.reduceEqDiff, reduceIte, and_true, true_and, and_false, false_and, and_self, or_true, true_or, qb_or, reduceCtorEq, qbr_True, qbr_False, q10, q01, qwC, h, qb_f]
    refine oX8_cell_26 _ _ _ _ _ _ ?_
    simp only [bX8_cell_26, qsem, qopt_s, qopt2_s, qev, qxs, Nat.reduceEqDiff, reduceIte, and_true, true_and, and_false, false_and, and_self, or_true, true_or, qb_or, reduceCtorEq, qbr_True, qbr_False, q10, q01, qwC, h, qb_f]
    exact hQ _ _ ⟨rfl, rfl⟩
set_option maxRecDepth 100000 in
set_option maxHeartbeats 4000000 in
theorem zX8_set_3 {C M : qC} {r : Nat × Nat × Nat} {N n k : Nat} {v : Int32} (hN : xI C 3 3 = nI N) (hb : N ≤ 400) (hn : n < N) (hk : k < 6) : CT mX8_set 1 0 0 [.ref 3, .int (nI n), .int (nI k), .int v] (wd C M r) (fun r' w' => r' = none ∧ w' = wd (yA C 4 (upd (xA C 4) (n * 6 + k) v)) M r) := by
  have ei : nI n * 6 + nI k = nI (n * 6 + k) := by rw [show (6 : Int32) = nI 6 from rfl, pk_mul, nadd]
  have h : (inN (nI n) N && inN (nI k) 6) = true := Bool.and_eq_true_iff.mpr ⟨decide_eq_true ⟨nI_pos' (by omega), nI_lt hn (by omega)⟩, decide_eq_true ⟨nI_pos' (by omega), nI_lt hk (by omega)⟩⟩
  refine eX8_set (AW_gen (fun Q hQ => ?_))
  refine oX8_set_0 _ _ _ _ _ _ ?_
  simp only [bX8_set_0, qsem, qopt_s, qopt2_s, qev, qxs, Nat.reduceEqDiff, reduceIte, and_true, true_and, and_false, false_and, and_self, or_true, true_or, qb_or, reduceCtorEq, qbr_True, qbr_False, q10, q01, qwC, h, qb_t, ei, ncl (show n * 6 + k < 10000 by omega)]
  refine kX8_set_3 (zX8_isCell_3 hN) (rfl) (Nat.le_of_ble_eq_true rfl) (Nat.le_of_ble_eq_true rfl) ⟨Nat.le_of_ble_eq_true rfl, Nat.le_of_ble_eq_true rfl⟩ ?_
  rintro _ _ ⟨rfl, rfl⟩
  refine oX8_set_6 _ _ _ _ _ _ ?_
  simp only [bX8_set_6, qsem, qopt_s, qopt2_s, qev, qxs, Nat.reduceEqDiff, reduceIte, and_true, true_and, and_false, false_and, and_self, or_true, true_or, qb_or, reduceCtorEq, qbr_True, qbr_False, q10, q01, qwC, h, qb_t, ei, ncl (show n * 6 + k < 10000 by omega)]
  refine ⟨nI_vp (by omega) (by omega), ?_⟩
  refine oX8_set_23 _ _ _ _ _ _ ?_
  simp only [bX8_set_23, qsem, qopt_s, qopt2_s, qev, qxs, Nat.reduceEqDiff, reduceIte, and_true, true_and, and_false, false_and, and_self, or_true, true_or, qb_or, reduceCtorEq, qbr_True, qbr_False, q10, q01, qwC, h, qb_t, ei, ncl (show n * 6 + k < 10000 by omega)]
  exact hQ _ _ ⟨rfl, rfl⟩
theorem inNi {n N : Nat} (h : n < N) (hN : N < 2 ^ 31) : inN (nI n) N = true := decide_eq_true ⟨nI_pos' (by omega), nI_lt h hN⟩
theorem zX8_cN {C M : qC} {r : Nat × Nat × Nat} {S : qS} {n : Nat} (k : Nat) (h1 : W1 S) (hI : iN C S) (hn : n < cN S) (hk : k < 8) : CT mX8_cell 1 0 0 [.ref 1, .int (nI n), .int (nI k)] (wd C M r) (fun r' w' => w' = wd C M r ∧ r' = some (.int (ntV S n k))) := by
  have hN := h1.2.1
  have := zX8_cell_1 (C := C) (M := M) (r := r) (a := nI n) (b := nI k) hI.1 hN
  rw [inNi hn (by omega), inNi (N := 8) hk (by omega), Bool.and_true, if_pos rfl, nIcl (show n < 1000 by omega), nIcl (show k < 1000 by omega), hI.2.1 n hn k hk] at this
  exact this
theorem zX8_cS {C M : qC} {r : Nat × Nat × Nat} {S : qS} {n : Nat} (k : Nat) (h1 : W1 S) (hI : iS C S) (hn : n < cS S) (hk : k < 6) : CT mX8_cell 1 0 0 [.ref 3, .int (nI n), .int (nI k)] (wd C M r) (fun r' w' => w' = wd C M r ∧ r' = some (.int (slV S false n k))) := by
  have hN := h1.2.1
  have hS := h1.2.2.2.2.2.2.1
  have := zX8_cell_3 (C := C) (M := M) (r := r) (a := nI n) (b := nI k) hI.1 (by omega)
  rw [inNi hn (by omega), inNi (N := 6) hk (by omega), Bool.and_true, if_pos rfl, nIcl (show n < 1000 by omega), nIcl (show k < 1000 by omega), hI.2 n hn k hk] at this
  exact this
/-! small ones -/
set_option maxRecDepth 100000 in
set_option maxHeartbeats 4000000 in
theorem zX10_bit {w : qW} {b : Bool} : CT mX10_bit 0 0 0 [.int (qb b)] w (fun r w' => w' = w ∧ r = some (.int (qb b))) := by
  refine eX10_bit (AW_gen (fun Q hQ => ?_))
  refine oX10_bit_0 _ _ _ _ _ _ ?_
  simp only [bX10_bit_0, qsem, qopt_s, qopt2_s, qev, qxs, Nat.reduceEqDiff, reduceIte, and_true, true_and, and_false, false_and, and_self, or_true, true_or, qb_or, reduceCtorEq, qbr_True, qbr_False, q10, q01, qwC, qb_0]
  refine qbr_i (fun c1 => ?_) (fun c1 => ?_)
  · refine oX10_bit_8 _ _ _ _ _ _ ?_
    simp only [bX10_bit_8, qsem, qopt_s, qopt2_s, qev, qxs, Nat.reduceEqDiff, reduceIte, and_true, true_and, and_false, false_and, and_self, or_true, true_or, qb_or, reduceCtorEq, qbr_True, qbr_False, q10, q01, qwC, qb_0]
    refine oX10_bit_9 _ _ _ _ _ _ ?_
    simp only [bX10_bit_9, qsem, qopt_s, qopt2_s, qev, qxs, Nat.reduceEqDiff, reduceIte, and_true, true_and, and_false, false_and, and_self, or_true, true_or, qb_or, reduceCtorEq, qbr_True, qbr_False, q10, q01, qwC, qb_0]
    first | exact hQ _ _ ⟨rfl, ri (qb_0of c1)⟩ | exact hQ _ _ ⟨rfl, ri (qb_1of ((Bool.not_eq_false _).mp c1))⟩
  · refine oX10_bit_9 _ _ _ _ _ _ ?_
    simp only [bX10_bit_9, qsem, qopt_s, qopt2_s, qev, qxs, Nat.reduceEqDiff, reduceIte, and_true, true_and, and_false, false_and, and_self, or_true, true_or, qb_or, reduceCtorEq, qbr_True, qbr_False, q10, q01, qwC, qb_0]
    first | exact hQ _ _ ⟨rfl, ri (qb_0of c1)⟩ | exact hQ _ _ ⟨rfl, ri (qb_1of ((Bool.not_eq_false _).mp c1))⟩
set_option maxRecDepth 100000 in
set_option maxHeartbeats 4000000 in
theorem zX10_isHand {w : qW} {a : Int32} : CT mX10_isHand 0 0 0 [.int a] w (fun r w' => w' = w ∧ r = some (.int (qb (isH a)))) := by
  refine eX10_isHand (AW_gen (fun Q hQ => ?_))
  refine oX10_isHand_0 _ _ _ _ _ _ ?_
  simp only [bX10_isHand_0, qsem, qopt_s, qopt2_s, qev, qxs, Nat.reduceEqDiff, reduceIte, and_true, true_and, and_false, false_and, and_self, or_true, true_or, qb_or, reduceCtorEq, qbr_True, qbr_False, q10, q01, qwC]
  refine qbr_i (fun c1 => ?_) (fun c1 => ?_)
  · refine oX10_isHand_14 _ _ _ _ _ _ ?_
    simp only [bX10_isHand_14, qsem, qopt_s, qopt2_s, qev, qxs, Nat.reduceEqDiff, reduceIte, and_true, true_and, and_false, false_and, and_self, or_true, true_or, qb_or, reduceCtorEq, qbr_True, qbr_False, q10, q01, qwC]
    refine oX10_isHand_15 _ _ _ _ _ _ ?_
    simp only [bX10_isHand_15, qsem, qopt_s, qopt2_s, qev, qxs, Nat.reduceEqDiff, reduceIte, and_true, true_and, and_false, false_and, and_self, or_true, true_or, qb_or, reduceCtorEq, qbr_True, qbr_False, q10, q01, qwC]
    first | exact hQ _ _ ⟨rfl, ri (qb_1of (decide_eq_true ⟨Int32.not_lt.mp c1, Int32.not_le.mp c2⟩))⟩ | exact hQ _ _ ⟨rfl, ri (qb_0of (decide_eq_false (fun q => absurd c1 (Int32.not_lt.mpr q.1))))⟩ | exact hQ _ _ ⟨rfl, ri (qb_0of (decide_eq_false (fun q => absurd q.2 (Int32.not_lt.mpr c2))))⟩
  · refine qbr_i (fun c2 => ?_) (fun c2 => ?_)
    · refine oX10_isHand_14 _ _ _ _ _ _ ?_
      simp only [bX10_isHand_14, qsem, qopt_s, qopt2_s, qev, qxs, Nat.reduceEqDiff, reduceIte, and_true, true_and, and_false, false_and, and_self, or_true, true_or, qb_or, reduceCtorEq, qbr_True, qbr_False, q10, q01, qwC]
      refine oX10_isHand_15 _ _ _ _ _ _ ?_
      simp only [bX10_isHand_15, qsem, qopt_s, qopt2_s, qev, qxs, Nat.reduceEqDiff, reduceIte, and_true, true_and, and_false, false_and, and_self, or_true, true_or, qb_or, reduceCtorEq, qbr_True, qbr_False, q10, q01, qwC]
      first | exact hQ _ _ ⟨rfl, ri (qb_1of (decide_eq_true ⟨Int32.not_lt.mp c1, Int32.not_le.mp c2⟩))⟩ | exact hQ _ _ ⟨rfl, ri (qb_0of (decide_eq_false (fun q => absurd c1 (Int32.not_lt.mpr q.1))))⟩ | exact hQ _ _ ⟨rfl, ri (qb_0of (decide_eq_false (fun q => absurd q.2 (Int32.not_lt.mpr c2))))⟩
    · refine oX10_isHand_15 _ _ _ _ _ _ ?_
      simp only [bX10_isHand_15, qsem, qopt_s, qopt2_s, qev, qxs, Nat.reduceEqDiff, reduceIte, and_true, true_and, and_false, false_and, and_self, or_true, true_or, qb_or, reduceCtorEq, qbr_True, qbr_False, q10, q01, qwC]
      first | exact hQ _ _ ⟨rfl, ri (qb_1of (decide_eq_true ⟨Int32.not_lt.mp c1, Int32.not_le.mp c2⟩))⟩ | exact hQ _ _ ⟨rfl, ri (qb_0of (decide_eq_false (fun q => absurd c1 (Int32.not_lt.mpr q.1))))⟩ | exact hQ _ _ ⟨rfl, ri (qb_0of (decide_eq_false (fun q => absurd q.2 (Int32.not_lt.mpr c2))))⟩
set_option maxRecDepth 100000 in
set_option maxHeartbeats 4000000 in
theorem zX10_isTool {w : qW} {a : Int32} : CT mX10_isTool 0 0 0 [.int a] w (fun r w' => w' = w ∧ r = some (.int (qb (isT a)))) := by
  refine eX10_isTool (AW_gen (fun Q hQ => ?_))
  refine oX10_isTool_0 _ _ _ _ _ _ ?_
  simp only [bX10_isTool_0, qsem, qopt_s, qopt2_s, qev, qxs, Nat.reduceEqDiff, reduceIte, and_true, true_and, and_false, false_and, and_self, or_true, true_or, qb_or, reduceCtorEq, qbr_True, qbr_False, q10, q01, qwC]
  refine qbr_i (fun c1 => ?_) (fun c1 => ?_)
  · refine oX10_isTool_14 _ _ _ _ _ _ ?_
    simp only [bX10_isTool_14, qsem, qopt_s, qopt2_s, qev, qxs, Nat.reduceEqDiff, reduceIte, and_true, true_and, and_false, false_and, and_self, or_true, true_or, qb_or, reduceCtorEq, qbr_True, qbr_False, q10, q01, qwC]
    refine oX10_isTool_15 _ _ _ _ _ _ ?_
    simp only [bX10_isTool_15, qsem, qopt_s, qopt2_s, qev, qxs, Nat.reduceEqDiff, reduceIte, and_true, true_and, and_false, false_and, and_self, or_true, true_or, qb_or, reduceCtorEq, qbr_True, qbr_False, q10, q01, qwC]
    first | exact hQ _ _ ⟨rfl, ri (qb_1of (decide_eq_true ⟨Int32.not_lt.mp c1, Int32.not_le.mp c2⟩))⟩ | exact hQ _ _ ⟨rfl, ri (qb_0of (decide_eq_false (fun q => absurd c1 (Int32.not_lt.mpr q.1))))⟩ | exact hQ _ _ ⟨rfl, ri (qb_0of (decide_eq_false (fun q => absurd q.2 (Int32.not_lt.mpr c2))))⟩
  · refine qbr_i (fun c2 => ?_) (fun c2 => ?_)
    · refine oX10_isTool_14 _ _ _ _ _ _ ?_
      simp only [bX10_isTool_14, qsem, qopt_s, qopt2_s, qev, qxs, Nat.reduceEqDiff, reduceIte, and_true, true_and, and_false, false_and, and_self, or_true, true_or, qb_or, reduceCtorEq, qbr_True, qbr_False, q10, q01, qwC]
      refine oX10_isTool_15 _ _ _ _ _ _ ?_
      simp only [bX10_isTool_15, qsem, qopt_s, qopt2_s, qev, qxs, Nat.reduceEqDiff, reduceIte, and_true, true_and, and_false, false_and, and_self, or_true, true_or, qb_or, reduceCtorEq, qbr_True, qbr_False, q10, q01, qwC]
      first | exact hQ _ _ ⟨rfl, ri (qb_1of (decide_eq_true ⟨Int32.not_lt.mp c1, Int32.not_le.mp c2⟩))⟩ | exact hQ _ _ ⟨rfl, ri (qb_0of (decide_eq_false (fun q => absurd c1 (Int32.not_lt.mpr q.1))))⟩ | exact hQ _ _ ⟨rfl, ri (qb_0of (decide_eq_false (fun q => absurd q.2 (Int32.not_lt.mpr c2))))⟩
    · refine oX10_isTool_15 _ _ _ _ _ _ ?_
      simp only [bX10_isTool_15, qsem, qopt_s, qopt2_s, qev, qxs, Nat.reduceEqDiff, reduceIte, and_true, true_and, and_false, false_and, and_self, or_true, true_or, qb_or, reduceCtorEq, qbr_True, qbr_False, q10, q01, qwC]
      first | exact hQ _ _ ⟨rfl, ri (qb_1of (decide_eq_true ⟨Int32.not_lt.mp c1, Int32.not_le.mp c2⟩))⟩ | exact hQ _ _ ⟨rfl, ri (qb_0of (decide_eq_false (fun q => absurd c1 (Int32.not_lt.mpr q.1))))⟩ | exact hQ _ _ ⟨rfl, ri (qb_0of (decide_eq_false (fun q => absurd q.2 (Int32.not_lt.mpr c2))))⟩
set_option maxRecDepth 100000 in
set_option maxHeartbeats 4000000 in
theorem zX2_isKey {w : qW} {a : Int32} : CT mX2_isKey 0 0 0 [.int a] w (fun r w' => w' = w ∧ r = some (.int (qb (isKy a)))) := by
  refine eX2_isKey (AW_gen (fun Q hQ => ?_))
  refine oX2_isKey_0 _ _ _ _ _ _ ?_
  simp only [bX2_isKey_0, qsem, qopt_s, qopt2_s, qev, qxs, Nat.reduceEqDiff, reduceIte, and_true, true_and, and_false, false_and, and_self, or_true, true_or, qb_or, reduceCtorEq, qbr_True, qbr_False, q10, q01, qwC]
  refine qbr_i (fun c1 => ?_) (fun c1 => ?_)
  · refine oX2_isKey_13 _ _ _ _ _ _ ?_
    simp only [bX2_isKey_13, qsem, qopt_s, qopt2_s, qev, qxs, Nat.reduceEqDiff, reduceIte, and_true, true_and, and_false, false_and, and_self, or_true, true_or, qb_or, reduceCtorEq, qbr_True, qbr_False, q10, q01, qwC]
    refine oX2_isKey_14 _ _ _ _ _ _ ?_
    simp only [bX2_isKey_14, qsem, qopt_s, qopt2_s, qev, qxs, Nat.reduceEqDiff, reduceIte, and_true, true_and, and_false, false_and, and_self, or_true, true_or, qb_or, reduceCtorEq, qbr_True, qbr_False, q10, q01, qwC]
    first | exact hQ _ _ ⟨rfl, ri (qb_1of (decide_eq_true ⟨Int32.not_lt.mp c1, Int32.not_le.mp c2⟩))⟩ | exact hQ _ _ ⟨rfl, ri (qb_0of (decide_eq_false (fun q => absurd c1 (Int32.not_lt.mpr q.1))))⟩ | exact hQ _ _ ⟨rfl, ri (qb_0of (decide_eq_false (fun q => absurd q.2 (Int32.not_lt.mpr c2))))⟩
  · refine qbr_i (fun c2 => ?_) (fun c2 => ?_)
    · refine oX2_isKey_13 _ _ _ _ _ _ ?_
      simp only [bX2_isKey_13, qsem, qopt_s, qopt2_s, qev, qxs, Nat.reduceEqDiff, reduceIte, and_true, true_and, and_false, false_and, and_self, or_true, true_or, qb_or, reduceCtorEq, qbr_True, qbr_False, q10, q01, qwC]
      refine oX2_isKey_14 _ _ _ _ _ _ ?_
      simp only [bX2_isKey_14, qsem, qopt_s, qopt2_s, qev, qxs, Nat.reduceEqDiff, reduceIte, and_true, true_and, and_false, false_and, and_self, or_true, true_or, qb_or, reduceCtorEq, qbr_True, qbr_False, q10, q01, qwC]
      first | exact hQ _ _ ⟨rfl, ri (qb_1of (decide_eq_true ⟨Int32.not_lt.mp c1, Int32.not_le.mp c2⟩))⟩ | exact hQ _ _ ⟨rfl, ri (qb_0of (decide_eq_false (fun q => absurd c1 (Int32.not_lt.mpr q.1))))⟩ | exact hQ _ _ ⟨rfl, ri (qb_0of (decide_eq_false (fun q => absurd q.2 (Int32.not_lt.mpr c2))))⟩
    · refine oX2_isKey_14 _ _ _ _ _ _ ?_
      simp only [bX2_isKey_14, qsem, qopt_s, qopt2_s, qev, qxs, Nat.reduceEqDiff, reduceIte, and_true, true_and, and_false, false_and, and_self, or_true, true_or, qb_or, reduceCtorEq, qbr_True, qbr_False, q10, q01, qwC]
      first | exact hQ _ _ ⟨rfl, ri (qb_1of (decide_eq_true ⟨Int32.not_lt.mp c1, Int32.not_le.mp c2⟩))⟩ | exact hQ _ _ ⟨rfl, ri (qb_0of (decide_eq_false (fun q => absurd c1 (Int32.not_lt.mpr q.1))))⟩ | exact hQ _ _ ⟨rfl, ri (qb_0of (decide_eq_false (fun q => absurd q.2 (Int32.not_lt.mpr c2))))⟩
/-! the queue -/
set_option maxRecDepth 100000 in
set_option maxHeartbeats 4000000 in
theorem zX4_size {C M : qC} {r : Nat × Nat × Nat} {S : qS} (hI : iQ C S) : CT mX4_size 0 0 0 [.ref 124] (wd C M r) (fun r' w' => w' = wd C M r ∧ r' = some (.int (nI (cQ S)))) := by
  refine eX4_size (AW_gen (fun Q hQ => ?_))
  refine oX4_size_0 _ _ _ _ _ _ ?_
  simp only [bX4_size_0, qsem, qopt_s, qopt2_s, qev, qxs, Nat.reduceEqDiff, reduceIte, and_true, true_and, and_false, false_and, and_self, or_true, true_or, qb_or, reduceCtorEq, qbr_True, qbr_False, q10, q01, qwC, hI.1]
  exact hQ _ _ ⟨rfl, rfl⟩
set_option maxRecDepth 100000 in
set_option maxHeartbeats 4000000 in
theorem zX4_first {C M : qC} {r : Nat × Nat × Nat} {S : qS} (h1 : W1 S) (hI : iQ C S) : CT mX4_first 0 0 0 [.ref 124] (wd C M r) (fun r' w' => w' = wd C M r ∧ r' = some (.int (if cQ S = 0 then -1 else S.2.1 150 0))) := by
  have hQ1 := h1.2.2.2.2.2.1
  refine eX4_first (AW_gen (fun Q hQ => ?_))
  by_cases h : cQ S = 0
  · rw [if_pos h] at hQ
    refine oX4_first_0 _ _ _ _ _ _ ?_
    simp only [bX4_first_0, qsem, qopt_s, qopt2_s, qev, qxs, Nat.reduceEqDiff, reduceIte, and_true, true_and, and_false, false_and, and_self, or_true, true_or, qb_or, reduceCtorEq, qbr_True, qbr_False, q10, q01, qwC, hI.1, h]
    refine qbr_t ((by decide)) ?_
    refine oX4_first_16 _ _ _ _ _ _ ?_
    simp only [bX4_first_16, qsem, qopt_s, qopt2_s, qev, qxs, Nat.reduceEqDiff, reduceIte, and_true, true_and, and_false, false_and, and_self, or_true, true_or, qb_or, reduceCtorEq, qbr_True, qbr_False, q10, q01, qwC, hI.1, h]
    refine oX4_first_17 _ _ _ _ _ _ ?_
    simp only [bX4_first_17, qsem, qopt_s, qopt2_s, qev, qxs, Nat.reduceEqDiff, reduceIte, and_true, true_and, and_false, false_and, and_self, or_true, true_or, qb_or, reduceCtorEq, qbr_True, qbr_False, q10, q01, qwC, hI.1, h]
    exact hQ _ _ ⟨rfl, rfl⟩
  · rw [if_neg h] at hQ
    refine oX4_first_0 _ _ _ _ _ _ ?_
    simp only [bX4_first_0, qsem, qopt_s, qopt2_s, qev, qxs, Nat.reduceEqDiff, reduceIte, and_true, true_and, and_false, false_and, and_self, or_true, true_or, qb_or, reduceCtorEq, qbr_True, qbr_False, q10, q01, qwC, hI.1, cl0, hI.2 0 (by omega)]
    refine qbr_f (nI_nle (by omega) (by omega)) ?_
    refine ⟨nI_vp (i := 0) (by omega) (by omega), ?_⟩
    refine oX4_first_17 _ _ _ _ _ _ ?_
    simp only [bX4_first_17, qsem, qopt_s, qopt2_s, qev, qxs, Nat.reduceEqDiff, reduceIte, and_true, true_and, and_false, false_and, and_self, or_true, true_or, qb_or, reduceCtorEq, qbr_True, qbr_False, q10, q01, qwC, hI.1, cl0, hI.2 0 (by omega)]
    exact hQ _ _ ⟨rfl, rfl⟩
set_option maxRecDepth 100000 in
set_option maxHeartbeats 4000000 in
theorem zX4_placeOf {C M : qC} {r : Nat × Nat × Nat} {S : qS} {a : Int32} (h1 : W1 S) (hI : iQ C S) : CT mX4_placeOf 0 0 0 [.ref 124, .int a] (wd C M r) (fun r' w' => w' = wd C M r ∧ r' = some (.int (plc S a))) := by
  have hQ1 := h1.2.2.2.2.2.1
  refine eX4_placeOf (AW_gen (fun Q hQ => ?_))
  refine oX4_placeOf_0 _ _ _ _ _ _ ?_
  simp only [bX4_placeOf_0, qsem, qopt_s, qopt2_s, qev, qxs, Nat.reduceEqDiff, reduceIte, and_true, true_and, and_false, false_and, and_self, or_true, true_or, qb_or, reduceCtorEq, qbr_True, qbr_False, q10, q01, qwC]
  have loop : ∀ k i : Nat, cQ S = i + k → ffi (fun k => S.2.1 150 k == a) (cQ S) k = plc S a → AW (mX4_placeOf, 0, 0, 0, none, Q) 2 [some (.ref 124), some (.int a), some (.int (nI i))] [] (wd C M r) 0 0 := by
    intro k
    induction k with
    | zero =>
      intro i hi hf
      refine oX4_placeOf_2 _ _ _ _ _ _ ?_
      simp only [bX4_placeOf_2, qsem, qopt_s, qopt2_s, qev, qxs, Nat.reduceEqDiff, reduceIte, and_true, true_and, and_false, false_and, and_self, or_true, true_or, qb_or, reduceCtorEq, qbr_True, qbr_False, q10, q01, qwC, hI.1]
      refine qbr_t (nI_le (show cQ S ≤ i by omega) (by omega)) ?_
      refine oX4_placeOf_28 _ _ _ _ _ _ ?_
      simp only [bX4_placeOf_28, qsem, qopt_s, qopt2_s, qev, qxs, Nat.reduceEqDiff, reduceIte, and_true, true_and, and_false, false_and, and_self, or_true, true_or, qb_or, reduceCtorEq, qbr_True, qbr_False, q10, q01, qwC, hI.1]
      exact hQ _ _ ⟨rfl, ri hf⟩
    | succ k ih =>
      intro i hi hf
      have hij : cQ S - (k + 1) = i := by omega
      have hf2 : plc S a = if (S.2.1 150 i == a) then nI i else ffi (fun k => S.2.1 150 k == a) (cQ S) k := by rw [← hf]; simp only [ffi, hij]
      refine oX4_placeOf_2 _ _ _ _ _ _ ?_
      simp only [bX4_placeOf_2, qsem, qopt_s, qopt2_s, qev, qxs, Nat.reduceEqDiff, reduceIte, and_true, true_and, and_false, false_and, and_self, or_true, true_or, qb_or, reduceCtorEq, qbr_True, qbr_False, q10, q01, qwC, hI.1, nIcl (show i < 1000 by omega), hI.2 i (by omega), nI_1]
      refine qbr_f (nI_ge (by omega) (by omega)) ?_
      refine ⟨nI_vp (by omega) (by omega), ?_⟩
      refine qbr_i (fun c1 => ?_) (fun c1 => ?_)
      · exact hQ _ _ ⟨rfl, ri (by rw [hf2, if_pos (by rw [c1]; exact beq_self_eq_true _)])⟩
      · refine oX4_placeOf_22 _ _ _ _ _ _ ?_
        simp only [bX4_placeOf_22, qsem, qopt_s, qopt2_s, qev, qxs, Nat.reduceEqDiff, reduceIte, and_true, true_and, and_false, false_and, and_self, or_true, true_or, qb_or, reduceCtorEq, qbr_True, qbr_False, q10, q01, qwC, hI.1, nIcl (show i < 1000 by omega), hI.2 i (by omega), nI_1]
        exact ih (i + 1) (by omega) (by rw [hf2, if_neg (fun q => c1 (eq_of_beq q))])
  exact loop (cQ S) 0 (by omega) rfl
set_option maxRecDepth 100000 in
set_option maxHeartbeats 4000000 in
theorem zX4_add {C M : qC} {r : Nat × Nat × Nat} {S : qS} {a : Int32} (h1 : W1 S) (hI : iQ C S) : CT mX4_add 1 0 0 [.ref 124, .int a] (wd C M r) (fun r' w' => (¬ (cQ S < 100 ∧ plc S a = -1) ∧ w' = wd C M r ∧ r' = some (.int (-1))) ∨ ((cQ S < 100 ∧ plc S a = -1) ∧ w' = wd (yI (yA C 125 (upd (xA C 125) (cQ S) a)) 124 1 (nI (cQ S + 1))) M r ∧ r' = some (.int (nI (cQ S))))) := by
  have hQ1 := h1.2.2.2.2.2.1
  have e : ((100 : Int32) ≤ nI (cQ S)) = (100 ≤ cQ S) := nIle (a := 100) (by omega) (by omega)
  refine eX4_add (AW_gen (fun Q hQ => ?_))
  refine oX4_add_0 _ _ _ _ _ _ ?_
  simp only [bX4_add_0, qsem, qopt_s, qopt2_s, qev, qxs, Nat.reduceEqDiff, reduceIte, and_true, true_and, and_false, false_and, and_self, or_true, true_or, qb_or, reduceCtorEq, qbr_True, qbr_False, q10, q01, qwC, hI.1, e, nIcl (show cQ S < 1000 by omega), nI_1, nIs1]
  refine qbr_i (fun c1 => ?_) (fun c1 => ?_)
  · refine oX4_add_18 _ _ _ _ _ _ ?_
    simp only [bX4_add_18, qsem, qopt_s, qopt2_s, qev, qxs, Nat.reduceEqDiff, reduceIte, and_true, true_and, and_false, false_and, and_self, or_true, true_or, qb_or, reduceCtorEq, qbr_True, qbr_False, q10, q01, qwC, hI.1, e, nIcl (show cQ S < 1000 by omega), nI_1, nIs1]
    first | exact hQ _ _ (Or.inl ⟨fun q => by omega, rfl, rfl⟩) | exact hQ _ _ (Or.inl ⟨fun q => c2 q.2, rfl, rfl⟩) | exact hQ _ _ (Or.inr ⟨⟨by omega, c2⟩, rfl, rfl⟩)
  · refine kX4_add_11 (zX4_placeOf h1 hI) (rfl) (Nat.le_of_ble_eq_true rfl) (Nat.le_of_ble_eq_true rfl) ⟨Nat.le_of_ble_eq_true rfl, Nat.le_of_ble_eq_true rfl⟩ ?_
    rintro _ _ ⟨rfl, rfl⟩
    refine oX4_add_14 _ _ _ _ _ _ ?_
    simp only [bX4_add_14, qsem, qopt_s, qopt2_s, qev, qxs, Nat.reduceEqDiff, reduceIte, and_true, true_and, and_false, false_and, and_self, or_true, true_or, qb_or, reduceCtorEq, qbr_True, qbr_False, q10, q01, qwC, hI.1, e, nIcl (show cQ S < 1000 by omega), nI_1, nIs1]
    refine qbr_i (fun c2 => ?_) (fun c2 => ?_)
    · refine oX4_add_20 _ _ _ _ _ _ ?_
      simp only [bX4_add_20, qsem, qopt_s, qopt2_s, qev, qxs, Nat.reduceEqDiff, reduceIte, and_true, true_and, and_false, false_and, and_self, or_true, true_or, qb_or, reduceCtorEq, qbr_True, qbr_False, q10, q01, qwC, hI.1, e, nIcl (show cQ S < 1000 by omega), nI_1, nIs1]
      refine ⟨nI_vp (by omega) (by omega), ?_⟩
      first | exact hQ _ _ (Or.inl ⟨fun q => by omega, rfl, rfl⟩) | exact hQ _ _ (Or.inl ⟨fun q => c2 q.2, rfl, rfl⟩) | exact hQ _ _ (Or.inr ⟨⟨by omega, c2⟩, rfl, rfl⟩)
    · refine oX4_add_18 _ _ _ _ _ _ ?_
      simp only [bX4_add_18, qsem, qopt_s, qopt2_s, qev, qxs, Nat.reduceEqDiff, reduceIte, and_true, true_and, and_false, false_and, and_self, or_true, true_or, qb_or, reduceCtorEq, qbr_True, qbr_False, q10, q01, qwC, hI.1, e, nIcl (show cQ S < 1000 by omega), nI_1, nIs1]
      first | exact hQ _ _ (Or.inl ⟨fun q => by omega, rfl, rfl⟩) | exact hQ _ _ (Or.inl ⟨fun q => c2 q.2, rfl, rfl⟩) | exact hQ _ _ (Or.inr ⟨⟨by omega, c2⟩, rfl, rfl⟩)
set_option maxRecDepth 100000 in
set_option maxHeartbeats 4000000 in
theorem zX4_removeFirst {C M : qC} {r : Nat × Nat × Nat} {S : qS} (h1 : W1 S) (hI : iQ C S) : CT mX4_removeFirst 1 0 0 [.ref 124] (wd C M r) (fun r' w' => (cQ S = 0 ∧ w' = wd C M r ∧ r' = some (.int (-1))) ∨ (¬ cQ S = 0 ∧ w' = wd (yA (yI C 124 1 (nI (cQ S - 1))) 125 (va_cpy (xA C 125) (xA C 125) 1 0 (cQ S - 1))) M r ∧ r' = some (.int (S.2.1 150 0)))) := by
  have hQ1 := h1.2.2.2.2.2.1
  have hf := zX4_first (C := C) (M := M) (r := r) h1 hI
  refine eX4_removeFirst (AW_gen (fun Q hQ => ?_))
  by_cases h : cQ S = 0
  · rw [if_pos h] at hf
    refine oX4_removeFirst_0 _ _ _ _ _ _ ?_
    simp only [bX4_removeFirst_0, qsem, qopt_s, qopt2_s, qev, qxs, Nat.reduceEqDiff, reduceIte, and_true, true_and, and_false, false_and, and_self, or_true, true_or, qb_or, reduceCtorEq, qbr_True, qbr_False, q10, q01, qwC, hI.1, h]
    refine kX4_removeFirst_1 (hf) (rfl) (Nat.le_of_ble_eq_true rfl) (Nat.le_of_ble_eq_true rfl) ⟨Nat.le_of_ble_eq_true rfl, Nat.le_of_ble_eq_true rfl⟩ ?_
    rintro _ _ ⟨rfl, rfl⟩
    refine oX4_removeFirst_4 _ _ _ _ _ _ ?_
    simp only [bX4_removeFirst_4, qsem, qopt_s, qopt2_s, qev, qxs, Nat.reduceEqDiff, reduceIte, and_true, true_and, and_false, false_and, and_self, or_true, true_or, qb_or, reduceCtorEq, qbr_True, qbr_False, q10, q01, qwC, hI.1, h]
    refine qbr_t ((by decide)) ?_
    refine oX4_removeFirst_39 _ _ _ _ _ _ ?_
    simp only [bX4_removeFirst_39, qsem, qopt_s, qopt2_s, qev, qxs, Nat.reduceEqDiff, reduceIte, and_true, true_and, and_false, false_and, and_self, or_true, true_or, qb_or, reduceCtorEq, qbr_True, qbr_False, q10, q01, qwC, hI.1, h]
    exact hQ _ _ (Or.inl ⟨h, rfl, rfl⟩)
  · rw [if_neg h] at hf
    have em : nI (cQ S) - 1 = nI (cQ S - 1) := pk_sub (b := 1) (by omega)
    refine oX4_removeFirst_0 _ _ _ _ _ _ ?_
    simp only [bX4_removeFirst_0, qsem, qopt_s, qopt2_s, qev, qxs, Nat.reduceEqDiff, reduceIte, and_true, true_and, and_false, false_and, and_self, or_true, true_or, qb_or, reduceCtorEq, qbr_True, qbr_False, q10, q01, qwC, hI.1, em]
    refine kX4_removeFirst_1 (hf) (rfl) (Nat.le_of_ble_eq_true rfl) (Nat.le_of_ble_eq_true rfl) ⟨Nat.le_of_ble_eq_true rfl, Nat.le_of_ble_eq_true rfl⟩ ?_
    rintro _ _ ⟨rfl, rfl⟩
    refine oX4_removeFirst_4 _ _ _ _ _ _ ?_
    simp only [bX4_removeFirst_4, qsem, qopt_s, qopt2_s, qev, qxs, Nat.reduceEqDiff, reduceIte, and_true, true_and, and_false, false_and, and_self, or_true, true_or, qb_or, reduceCtorEq, qbr_True, qbr_False, q10, q01, qwC, hI.1, em]
    refine qbr_f (nI_nle (by omega) (by omega)) ?_
    refine kX4_removeFirst_36 (n0 := 100) (n1 := 100) (f0 := xA C 125) (f1 := xA C 125) rfl rfl (by decide) (by decide) (Int32.not_lt.mpr (nI_pos' (by omega))) (by rw [nIcl (show cQ S - 1 < 1000 by omega)]; show 1 + _ ≤ 100; omega) (by rw [nIcl (show cQ S - 1 < 1000 by omega)]; show 0 + _ ≤ 100; omega) (Nat.le_of_ble_eq_true rfl) (Nat.le_of_ble_eq_true rfl) ?_
    refine oX4_removeFirst_39 _ _ _ _ _ _ ?_
    simp only [bX4_removeFirst_39, qsem, qopt_s, qopt2_s, qev, qxs, Nat.reduceEqDiff, reduceIte, and_true, true_and, and_false, false_and, and_self, or_true, true_or, qb_or, reduceCtorEq, qbr_True, qbr_False, q10, q01, qwC, hI.1, em, nIcl (show cQ S - 1 < 1000 by omega), cl0, show (1 : Int32).toNatClampNeg = 1 from rfl]
    exact hQ _ _ (Or.inr ⟨h, rfl, rfl⟩)
/-! the keys -/
theorem ky_c {k : Nat} (h : k < 4) : (nI k).toNatClampNeg = k := nIcl (by omega)
def lvP (S : qS) (k : Int32) : Prop := isKy k = true ∧ S.2.1 152 k.toNatClampNeg = 0 ∧ S.2.1 153 k.toNatClampNeg = -1
set_option maxRecDepth 100000 in
set_option maxHeartbeats 4000000 in
theorem zX2_isLive {C M : qC} {r : Nat × Nat × Nat} {S : qS} {a : Int32} (hI : iK C S) : CT mX2_isLive 1 0 0 [.ref 126, .int a] (wd C M r) (fun r' w' => w' = wd C M r ∧ r' = some (.int (qb (dc (lvP S a))))) := by
  refine eX2_isLive (AW_gen (fun Q hQ => ?_))
  by_cases ha : isKy a = true
  · obtain ⟨k, hk, rfl⟩ := isKy_of ha
    have hc := ky_c hk
    refine oX2_isLive_0 _ _ _ _ _ _ ?_
    simp only [bX2_isLive_0, qsem, qopt_s, qopt2_s, qev, qxs, Nat.reduceEqDiff, reduceIte, and_true, true_and, and_false, false_and, and_self, or_true, true_or, qb_or, reduceCtorEq, qbr_True, qbr_False, q10, q01, qwC, ha, qb_t, hc, (hI k hk).2.1, (hI k hk).2.2.1]
    refine kX2_isLive_1 (zX2_isKey) (Nat.le_of_ble_eq_true rfl) (Nat.le_of_ble_eq_true rfl) ⟨Nat.le_of_ble_eq_true rfl, Nat.le_of_ble_eq_true rfl⟩ ?_
    rintro _ _ ⟨rfl, rfl⟩
    refine oX2_isLive_4 _ _ _ _ _ _ ?_
    simp only [bX2_isLive_4, qsem, qopt_s, qopt2_s, qev, qxs, Nat.reduceEqDiff, reduceIte, and_true, true_and, and_false, false_and, and_self, or_true, true_or, qb_or, reduceCtorEq, qbr_True, qbr_False, q10, q01, qwC, ha, qb_t, hc, (hI k hk).2.1, (hI k hk).2.2.1]
    refine ⟨nI_vp (by omega) (by omega), ?_⟩
    refine qbr_i (fun c1 => ?_) (fun c1 => ?_)
    · refine ⟨nI_vp (by omega) (by omega), ?_⟩
      refine qbr_i (fun c2 => ?_) (fun c2 => ?_)
      · refine oX2_isLive_31 _ _ _ _ _ _ ?_
        simp only [bX2_isLive_31, qsem, qopt_s, qopt2_s, qev, qxs, Nat.reduceEqDiff, reduceIte, and_true, true_and, and_false, false_and, and_self, or_true, true_or, qb_or, reduceCtorEq, qbr_True, qbr_False, q10, q01, qwC, ha, qb_t, hc, (hI k hk).2.1, (hI k hk).2.2.1]
        first | exact hQ _ _ ⟨rfl, ri (qb_1of (dc_iff.mpr ⟨ha, by rw [hc]; exact c1, by rw [hc]; exact c2⟩))⟩ | exact hQ _ _ ⟨rfl, ri (qb_0of (dcf (fun q => c1 (by have := q.2.1; rw [hc] at this; exact this))))⟩ | exact hQ _ _ ⟨rfl, ri (qb_0of (dcf (fun q => c2 (by have := q.2.2; rw [hc] at this; exact this))))⟩
      · refine oX2_isLive_30 _ _ _ _ _ _ ?_
        simp only [bX2_isLive_30, qsem, qopt_s, qopt2_s, qev, qxs, Nat.reduceEqDiff, reduceIte, and_true, true_and, and_false, false_and, and_self, or_true, true_or, qb_or, reduceCtorEq, qbr_True, qbr_False, q10, q01, qwC, ha, qb_t, hc, (hI k hk).2.1, (hI k hk).2.2.1]
        refine oX2_isLive_31 _ _ _ _ _ _ ?_
        simp only [bX2_isLive_31, qsem, qopt_s, qopt2_s, qev, qxs, Nat.reduceEqDiff, reduceIte, and_true, true_and, and_false, false_and, and_self, or_true, true_or, qb_or, reduceCtorEq, qbr_True, qbr_False, q10, q01, qwC, ha, qb_t, hc, (hI k hk).2.1, (hI k hk).2.2.1]
        first | exact hQ _ _ ⟨rfl, ri (qb_1of (dc_iff.mpr ⟨ha, by rw [hc]; exact c1, by rw [hc]; exact c2⟩))⟩ | exact hQ _ _ ⟨rfl, ri (qb_0of (dcf (fun q => c1 (by have := q.2.1; rw [hc] at this; exact this))))⟩ | exact hQ _ _ ⟨rfl, ri (qb_0of (dcf (fun q => c2 (by have := q.2.2; rw [hc] at this; exact this))))⟩
    · refine oX2_isLive_30 _ _ _ _ _ _ ?_
      simp only [bX2_isLive_30, qsem, qopt_s, qopt2_s, qev, qxs, Nat.reduceEqDiff, reduceIte, and_true, true_and, and_false, false_and, and_self, or_true, true_or, qb_or, reduceCtorEq, qbr_True, qbr_False, q10, q01, qwC, ha, qb_t, hc, (hI k hk).2.1, (hI k hk).2.2.1]
      refine oX2_isLive_31 _ _ _ _ _ _ ?_
      simp only [bX2_isLive_31, qsem, qopt_s, qopt2_s, qev, qxs, Nat.reduceEqDiff, reduceIte, and_true, true_and, and_false, false_and, and_self, or_true, true_or, qb_or, reduceCtorEq, qbr_True, qbr_False, q10, q01, qwC, ha, qb_t, hc, (hI k hk).2.1, (hI k hk).2.2.1]
      first | exact hQ _ _ ⟨rfl, ri (qb_1of (dc_iff.mpr ⟨ha, by rw [hc]; exact c1, by rw [hc]; exact c2⟩))⟩ | exact hQ _ _ ⟨rfl, ri (qb_0of (dcf (fun q => c1 (by have := q.2.1; rw [hc] at this; exact this))))⟩ | exact hQ _ _ ⟨rfl, ri (qb_0of (dcf (fun q => c2 (by have := q.2.2; rw [hc] at this; exact this))))⟩
  · have ha2 : isKy a = false := (Bool.not_eq_true _).mp ha
    refine oX2_isLive_0 _ _ _ _ _ _ ?_
    simp only [bX2_isLive_0, qsem, qopt_s, qopt2_s, qev, qxs, Nat.reduceEqDiff, reduceIte, and_true, true_and, and_false, false_and, and_self, or_true, true_or, qb_or, reduceCtorEq, qbr_True, qbr_False, q10, q01, qwC, ha2, qb_f]
    refine kX2_isLive_1 (zX2_isKey) (Nat.le_of_ble_eq_true rfl) (Nat.le_of_ble_eq_true rfl) ⟨Nat.le_of_ble_eq_true rfl, Nat.le_of_ble_eq_true rfl⟩ ?_
    rintro _ _ ⟨rfl, rfl⟩
    refine oX2_isLive_4 _ _ _ _ _ _ ?_
    simp only [bX2_isLive_4, qsem, qopt_s, qopt2_s, qev, qxs, Nat.reduceEqDiff, reduceIte, and_true, true_and, and_false, false_and, and_self, or_true, true_or, qb_or, reduceCtorEq, qbr_True, qbr_False, q10, q01, qwC, ha2, qb_f]
    refine oX2_isLive_30 _ _ _ _ _ _ ?_
    simp only [bX2_isLive_30, qsem, qopt_s, qopt2_s, qev, qxs, Nat.reduceEqDiff, reduceIte, and_true, true_and, and_false, false_and, and_self, or_true, true_or, qb_or, reduceCtorEq, qbr_True, qbr_False, q10, q01, qwC, ha2, qb_f]
    refine oX2_isLive_31 _ _ _ _ _ _ ?_
    simp only [bX2_isLive_31, qsem, qopt_s, qopt2_s, qev, qxs, Nat.reduceEqDiff, reduceIte, and_true, true_and, and_false, false_and, and_self, or_true, true_or, qb_or, reduceCtorEq, qbr_True, qbr_False, q10, q01, qwC, ha2, qb_f]
    exact hQ _ _ ⟨rfl, ri (qb_0of (dcf (fun q => ha q.1)))⟩
set_option maxRecDepth 100000 in
set_option maxHeartbeats 4000000 in
theorem zX2_canSeal {C M : qC} {r : Nat × Nat × Nat} {S : qS} {a : Int32} (hI : iK C S) (h10 : W10 S) : CT mX2_canSeal 2 0 0 [.ref 126, .int a] (wd C M r) (fun r' w' => w' = wd C M r ∧ r' = some (.int (qb (dc (kyOk S a))))) := by
  refine eX2_canSeal (AW_gen (fun Q hQ => ?_))
  by_cases ha : lvP S a
  · obtain ⟨k, hk, rfl⟩ := isKy_of ha.1
    have hc := ky_c hk
    obtain ⟨u, hu, eu⟩ := h10 k hk
    have e0 : (nI u ≤ 0) = (u = 0) := propext ⟨fun q => by have := (nI_leI (b := 0) (by omega) (by omega)).mp q; omega, fun q => by rw [q]; decide⟩
    refine oX2_canSeal_0 _ _ _ _ _ _ ?_
    simp only [bX2_canSeal_0, qsem, qopt_s, qopt2_s, qev, qxs, Nat.reduceEqDiff, reduceIte, and_true, true_and, and_false, false_and, and_self, or_true, true_or, qb_or, reduceCtorEq, qbr_True, qbr_False, q10, q01, qwC, dc_iff.mpr ha, qb_t, hc, (hI k hk).1, eu, e0]
    refine kX2_canSeal_2 (zX2_isLive hI) (rfl) (Nat.le_of_ble_eq_true rfl) (Nat.le_of_ble_eq_true rfl) ⟨Nat.le_of_ble_eq_true rfl, Nat.le_of_ble_eq_true rfl⟩ ?_
    rintro _ _ ⟨rfl, rfl⟩
    refine oX2_canSeal_5 _ _ _ _ _ _ ?_
    simp only [bX2_canSeal_5, qsem, qopt_s, qopt2_s, qev, qxs, Nat.reduceEqDiff, reduceIte, and_true, true_and, and_false, false_and, and_self, or_true, true_or, qb_or, reduceCtorEq, qbr_True, qbr_False, q10, q01, qwC, dc_iff.mpr ha, qb_t, hc, (hI k hk).1, eu, e0]
    refine ⟨nI_vp (by omega) (by omega), ?_⟩
    refine qbr_i (fun c1 => ?_) (fun c1 => ?_)
    · refine oX2_canSeal_21 _ _ _ _ _ _ ?_
      simp only [bX2_canSeal_21, qsem, qopt_s, qopt2_s, qev, qxs, Nat.reduceEqDiff, reduceIte, and_true, true_and, and_false, false_and, and_self, or_true, true_or, qb_or, reduceCtorEq, qbr_True, qbr_False, q10, q01, qwC, dc_iff.mpr ha, qb_t, hc, (hI k hk).1, eu, e0]
      refine oX2_canSeal_22 _ _ _ _ _ _ ?_
      simp only [bX2_canSeal_22, qsem, qopt_s, qopt2_s, qev, qxs, Nat.reduceEqDiff, reduceIte, and_true, true_and, and_false, false_and, and_self, or_true, true_or, qb_or, reduceCtorEq, qbr_True, qbr_False, q10, q01, qwC, dc_iff.mpr ha, qb_t, hc, (hI k hk).1, eu, e0]
      first | exact hQ _ _ ⟨rfl, ri (qb_1of (dc_iff.mpr ⟨ha.1, by rw [hc, eu]; exact fun q => c1 (i_ninj (b := 0) (by omega) (by omega) q), ha.2.1, ha.2.2⟩))⟩ | exact hQ _ _ ⟨rfl, ri (qb_0of (dcf (fun q => q.2.1 (by rw [hc, eu, c1]; rfl))))⟩
    · refine oX2_canSeal_22 _ _ _ _ _ _ ?_
      simp only [bX2_canSeal_22, qsem, qopt_s, qopt2_s, qev, qxs, Nat.reduceEqDiff, reduceIte, and_true, true_and, and_false, false_and, and_self, or_true, true_or, qb_or, reduceCtorEq, qbr_True, qbr_False, q10, q01, qwC, dc_iff.mpr ha, qb_t, hc, (hI k hk).1, eu, e0]
      first | exact hQ _ _ ⟨rfl, ri (qb_1of (dc_iff.mpr ⟨ha.1, by rw [hc, eu]; exact fun q => c1 (i_ninj (b := 0) (by omega) (by omega) q), ha.2.1, ha.2.2⟩))⟩ | exact hQ _ _ ⟨rfl, ri (qb_0of (dcf (fun q => q.2.1 (by rw [hc, eu, c1]; rfl))))⟩
  · refine oX2_canSeal_0 _ _ _ _ _ _ ?_
    simp only [bX2_canSeal_0, qsem, qopt_s, qopt2_s, qev, qxs, Nat.reduceEqDiff, reduceIte, and_true, true_and, and_false, false_and, and_self, or_true, true_or, qb_or, reduceCtorEq, qbr_True, qbr_False, q10, q01, qwC, dcf ha, qb_f]
    refine kX2_canSeal_2 (zX2_isLive hI) (rfl) (Nat.le_of_ble_eq_true rfl) (Nat.le_of_ble_eq_true rfl) ⟨Nat.le_of_ble_eq_true rfl, Nat.le_of_ble_eq_true rfl⟩ ?_
    rintro _ _ ⟨rfl, rfl⟩
    refine oX2_canSeal_5 _ _ _ _ _ _ ?_
    simp only [bX2_canSeal_5, qsem, qopt_s, qopt2_s, qev, qxs, Nat.reduceEqDiff, reduceIte, and_true, true_and, and_false, false_and, and_self, or_true, true_or, qb_or, reduceCtorEq, qbr_True, qbr_False, q10, q01, qwC, dcf ha, qb_f]
    refine oX2_canSeal_21 _ _ _ _ _ _ ?_
    simp only [bX2_canSeal_21, qsem, qopt_s, qopt2_s, qev, qxs, Nat.reduceEqDiff, reduceIte, and_true, true_and, and_false, false_and, and_self, or_true, true_or, qb_or, reduceCtorEq, qbr_True, qbr_False, q10, q01, qwC, dcf ha, qb_f]
    refine oX2_canSeal_22 _ _ _ _ _ _ ?_
    simp only [bX2_canSeal_22, qsem, qopt_s, qopt2_s, qev, qxs, Nat.reduceEqDiff, reduceIte, and_true, true_and, and_false, false_and, and_self, or_true, true_or, qb_or, reduceCtorEq, qbr_True, qbr_False, q10, q01, qwC, dcf ha, qb_f]
    exact hQ _ _ ⟨rfl, ri (qb_0of (dcf (fun q => ha ⟨q.1, q.2.2.1, q.2.2.2⟩)))⟩
set_option maxRecDepth 100000 in
set_option maxHeartbeats 4000000 in
theorem zX2_useOnce {C M : qC} {r : Nat × Nat × Nat} {S : qS} {k : Nat} (hI : iK C S) (h10 : W10 S) (hk : k < 4) (ho : kyOk S (nI k)) : CT mX2_useOnce 3 0 0 [.ref 126, .int (nI k)] (wd C M r) (fun r' w' => r' = none ∧ w' = wd (yA (yA C 127 (upd (xA C 127) k (xA C 127 k - 1))) 130 (upd (xA C 130) k (xA C 130 k + 1))) M r) := by
  have hc := ky_c hk
  refine eX2_useOnce (AW_gen (fun Q hQ => ?_))
  refine oX2_useOnce_0 _ _ _ _ _ _ ?_
  simp only [bX2_useOnce_0, qsem, qopt_s, qopt2_s, qev, qxs, Nat.reduceEqDiff, reduceIte, and_true, true_and, and_false, false_and, and_self, or_true, true_or, qb_or, reduceCtorEq, qbr_True, qbr_False, q10, q01, qwC, dc_iff.mpr ho, qb_t, hc]
  refine kX2_useOnce_2 (zX2_canSeal hI h10) (rfl) (Nat.le_of_ble_eq_true rfl) (Nat.le_of_ble_eq_true rfl) ⟨Nat.le_of_ble_eq_true rfl, Nat.le_of_ble_eq_true rfl⟩ ?_
  rintro _ _ ⟨rfl, rfl⟩
  refine oX2_useOnce_5 _ _ _ _ _ _ ?_
  simp only [bX2_useOnce_5, qsem, qopt_s, qopt2_s, qev, qxs, Nat.reduceEqDiff, reduceIte, and_true, true_and, and_false, false_and, and_self, or_true, true_or, qb_or, reduceCtorEq, qbr_True, qbr_False, q10, q01, qwC, dc_iff.mpr ho, qb_t, hc]
  refine ⟨nI_vp (by omega) (by omega), ?_⟩
  refine ⟨nI_vp (by omega) (by omega), ?_⟩
  refine ⟨nI_vp (by omega) (by omega), ?_⟩
  refine ⟨nI_vp (by omega) (by omega), ?_⟩
  refine oX2_useOnce_28 _ _ _ _ _ _ ?_
  simp only [bX2_useOnce_28, qsem, qopt_s, qopt2_s, qev, qxs, Nat.reduceEqDiff, reduceIte, and_true, true_and, and_false, false_and, and_self, or_true, true_or, qb_or, reduceCtorEq, qbr_True, qbr_False, q10, q01, qwC, dc_iff.mpr ho, qb_t, hc]
  exact hQ _ _ ⟨rfl, rfl⟩
set_option maxRecDepth 100000 in
set_option maxHeartbeats 4000000 in
theorem zX2_addUses {C M : qC} {r : Nat × Nat × Nat} {S : qS} {a m : Int32} (hI : iK C S) : CT mX2_addUses 2 0 0 [.ref 126, .int a, .int m] (wd C M r) (fun r' w' => (¬ useOk S a m ∧ w' = wd C M r ∧ r' = some (.int (-1))) ∨ (useOk S a m ∧ w' = wd (yA C 127 (upd (xA C 127) a.toNatClampNeg (xA C 127 a.toNatClampNeg + m))) M r ∧ r' = some (.int (S.2.1 151 a.toNatClampNeg + m)))) := by
  refine eX2_addUses (AW_gen (fun Q hQ => ?_))
  by_cases ha : lvP S a
  · obtain ⟨k, hk, rfl⟩ := isKy_of ha.1
    have hc := ky_c hk
    refine oX2_addUses_0 _ _ _ _ _ _ ?_
    simp only [bX2_addUses_0, qsem, qopt_s, qopt2_s, qev, qxs, Nat.reduceEqDiff, reduceIte, and_true, true_and, and_false, false_and, and_self, or_true, true_or, qb_or, reduceCtorEq, qbr_True, qbr_False, q10, q01, qwC, dc_iff.mpr ha, qb_t, hc, (hI k hk).1, pk_us]
    refine kX2_addUses_2 (zX2_isLive hI) (rfl) (Nat.le_of_ble_eq_true rfl) (Nat.le_of_ble_eq_true rfl) ⟨Nat.le_of_ble_eq_true rfl, Nat.le_of_ble_eq_true rfl⟩ ?_
    rintro _ _ ⟨rfl, rfl⟩
    refine oX2_addUses_5 _ _ _ _ _ _ ?_
    simp only [bX2_addUses_5, qsem, qopt_s, qopt2_s, qev, qxs, Nat.reduceEqDiff, reduceIte, and_true, true_and, and_false, false_and, and_self, or_true, true_or, qb_or, reduceCtorEq, qbr_True, qbr_False, q10, q01, qwC, dc_iff.mpr ha, qb_t, hc, (hI k hk).1, pk_us]
    refine qbr_i (fun c1 => ?_) (fun c1 => ?_)
    · refine oX2_addUses_33 _ _ _ _ _ _ ?_
      simp only [bX2_addUses_33, qsem, qopt_s, qopt2_s, qev, qxs, Nat.reduceEqDiff, reduceIte, and_true, true_and, and_false, false_and, and_self, or_true, true_or, qb_or, reduceCtorEq, qbr_True, qbr_False, q10, q01, qwC, dc_iff.mpr ha, qb_t, hc, (hI k hk).1, pk_us]
      first | exact hQ _ _ (Or.inl ⟨fun q => absurd c1 (Int32.not_lt.mpr q.2.1.1), rfl, rfl⟩) | exact hQ _ _ (Or.inl ⟨fun q => absurd c2 (Int32.not_lt.mpr q.2.1.2), rfl, rfl⟩) | exact hQ _ _ (Or.inl ⟨fun q => c3 (by have := q.2.2.2.2; rw [hc] at this; exact this), rfl, rfl⟩) | exact hQ _ _ (Or.inr ⟨⟨ha.1, ⟨Int32.not_lt.mp c1, Int32.not_lt.mp c2⟩, ha.2.1, ha.2.2, by rw [hc]; exact c3⟩, by rw [hc, (hI k hk).1], by rw [hc]⟩)
    · refine qbr_i (fun c2 => ?_) (fun c2 => ?_)
      · refine oX2_addUses_33 _ _ _ _ _ _ ?_
        simp only [bX2_addUses_33, qsem, qopt_s, qopt2_s, qev, qxs, Nat.reduceEqDiff, reduceIte, and_true, true_and, and_false, false_and, and_self, or_true, true_or, qb_or, reduceCtorEq, qbr_True, qbr_False, q10, q01, qwC, dc_iff.mpr ha, qb_t, hc, (hI k hk).1, pk_us]
        first | exact hQ _ _ (Or.inl ⟨fun q => absurd c1 (Int32.not_lt.mpr q.2.1.1), rfl, rfl⟩) | exact hQ _ _ (Or.inl ⟨fun q => absurd c2 (Int32.not_lt.mpr q.2.1.2), rfl, rfl⟩) | exact hQ _ _ (Or.inl ⟨fun q => c3 (by have := q.2.2.2.2; rw [hc] at this; exact this), rfl, rfl⟩) | exact hQ _ _ (Or.inr ⟨⟨ha.1, ⟨Int32.not_lt.mp c1, Int32.not_lt.mp c2⟩, ha.2.1, ha.2.2, by rw [hc]; exact c3⟩, by rw [hc, (hI k hk).1], by rw [hc]⟩)
      · refine ⟨nI_vp (by omega) (by omega), ?_⟩
        refine qbr_i (fun c3 => ?_) (fun c3 => ?_)
        · refine oX2_addUses_35 _ _ _ _ _ _ ?_
          simp only [bX2_addUses_35, qsem, qopt_s, qopt2_s, qev, qxs, Nat.reduceEqDiff, reduceIte, and_true, true_and, and_false, false_and, and_self, or_true, true_or, qb_or, reduceCtorEq, qbr_True, qbr_False, q10, q01, qwC, dc_iff.mpr ha, qb_t, hc, (hI k hk).1, pk_us]
          refine ⟨nI_vp (by omega) (by omega), ?_⟩
          refine ⟨nI_vp (by omega) (by omega), ?_⟩
          refine ⟨nI_vp (by omega) (by omega), ?_⟩
          first | exact hQ _ _ (Or.inl ⟨fun q => absurd c1 (Int32.not_lt.mpr q.2.1.1), rfl, rfl⟩) | exact hQ _ _ (Or.inl ⟨fun q => absurd c2 (Int32.not_lt.mpr q.2.1.2), rfl, rfl⟩) | exact hQ _ _ (Or.inl ⟨fun q => c3 (by have := q.2.2.2.2; rw [hc] at this; exact this), rfl, rfl⟩) | exact hQ _ _ (Or.inr ⟨⟨ha.1, ⟨Int32.not_lt.mp c1, Int32.not_lt.mp c2⟩, ha.2.1, ha.2.2, by rw [hc]; exact c3⟩, by rw [hc, (hI k hk).1], by rw [hc]⟩)
        · refine oX2_addUses_33 _ _ _ _ _ _ ?_
          simp only [bX2_addUses_33, qsem, qopt_s, qopt2_s, qev, qxs, Nat.reduceEqDiff, reduceIte, and_true, true_and, and_false, false_and, and_self, or_true, true_or, qb_or, reduceCtorEq, qbr_True, qbr_False, q10, q01, qwC, dc_iff.mpr ha, qb_t, hc, (hI k hk).1, pk_us]
          first | exact hQ _ _ (Or.inl ⟨fun q => absurd c1 (Int32.not_lt.mpr q.2.1.1), rfl, rfl⟩) | exact hQ _ _ (Or.inl ⟨fun q => absurd c2 (Int32.not_lt.mpr q.2.1.2), rfl, rfl⟩) | exact hQ _ _ (Or.inl ⟨fun q => c3 (by have := q.2.2.2.2; rw [hc] at this; exact this), rfl, rfl⟩) | exact hQ _ _ (Or.inr ⟨⟨ha.1, ⟨Int32.not_lt.mp c1, Int32.not_lt.mp c2⟩, ha.2.1, ha.2.2, by rw [hc]; exact c3⟩, by rw [hc, (hI k hk).1], by rw [hc]⟩)
  · refine oX2_addUses_0 _ _ _ _ _ _ ?_
    simp only [bX2_addUses_0, qsem, qopt_s, qopt2_s, qev, qxs, Nat.reduceEqDiff, reduceIte, and_true, true_and, and_false, false_and, and_self, or_true, true_or, qb_or, reduceCtorEq, qbr_True, qbr_False, q10, q01, qwC, dcf ha, qb_f]
    refine kX2_addUses_2 (zX2_isLive hI) (rfl) (Nat.le_of_ble_eq_true rfl) (Nat.le_of_ble_eq_true rfl) ⟨Nat.le_of_ble_eq_true rfl, Nat.le_of_ble_eq_true rfl⟩ ?_
    rintro _ _ ⟨rfl, rfl⟩
    refine oX2_addUses_5 _ _ _ _ _ _ ?_
    simp only [bX2_addUses_5, qsem, qopt_s, qopt2_s, qev, qxs, Nat.reduceEqDiff, reduceIte, and_true, true_and, and_false, false_and, and_self, or_true, true_or, qb_or, reduceCtorEq, qbr_True, qbr_False, q10, q01, qwC, dcf ha, qb_f]
    refine oX2_addUses_33 _ _ _ _ _ _ ?_
    simp only [bX2_addUses_33, qsem, qopt_s, qopt2_s, qev, qxs, Nat.reduceEqDiff, reduceIte, and_true, true_and, and_false, false_and, and_self, or_true, true_or, qb_or, reduceCtorEq, qbr_True, qbr_False, q10, q01, qwC, dcf ha, qb_f]
    exact hQ _ _ (Or.inl ⟨fun q => ha ⟨q.1, q.2.2.1, q.2.2.2.1⟩, rfl, rfl⟩)
set_option maxRecDepth 100000 in
set_option maxHeartbeats 4000000 in
theorem zX2_endOne {C M : qC} {r : Nat × Nat × Nat} {S : qS} {a : Int32} (hI : iK C S) : CT mX2_endOne 2 0 0 [.ref 126, .int a] (wd C M r) (fun r' w' => (¬ finOk S a ∧ w' = wd C M r ∧ r' = some (.int 0)) ∨ (finOk S a ∧ w' = wd (yA C 128 (upd (xA C 128) a.toNatClampNeg 1)) M r ∧ r' = some (.int 1))) := by
  refine eX2_endOne (AW_gen (fun Q hQ => ?_))
  by_cases ha : lvP S a
  · obtain ⟨k, hk, rfl⟩ := isKy_of ha.1
    have hc := ky_c hk
    refine oX2_endOne_0 _ _ _ _ _ _ ?_
    simp only [bX2_endOne_0, qsem, qopt_s, qopt2_s, qev, qxs, Nat.reduceEqDiff, reduceIte, and_true, true_and, and_false, false_and, and_self, or_true, true_or, qb_or, reduceCtorEq, qbr_True, qbr_False, q10, q01, qwC, dc_iff.mpr ha, qb_t, hc]
    refine kX2_endOne_2 (zX2_isLive hI) (rfl) (Nat.le_of_ble_eq_true rfl) (Nat.le_of_ble_eq_true rfl) ⟨Nat.le_of_ble_eq_true rfl, Nat.le_of_ble_eq_true rfl⟩ ?_
    rintro _ _ ⟨rfl, rfl⟩
    refine oX2_endOne_5 _ _ _ _ _ _ ?_
    simp only [bX2_endOne_5, qsem, qopt_s, qopt2_s, qev, qxs, Nat.reduceEqDiff, reduceIte, and_true, true_and, and_false, false_and, and_self, or_true, true_or, qb_or, reduceCtorEq, qbr_True, qbr_False, q10, q01, qwC, dc_iff.mpr ha, qb_t, hc]
    refine oX2_endOne_10 _ _ _ _ _ _ ?_
    simp only [bX2_endOne_10, qsem, qopt_s, qopt2_s, qev, qxs, Nat.reduceEqDiff, reduceIte, and_true, true_and, and_false, false_and, and_self, or_true, true_or, qb_or, reduceCtorEq, qbr_True, qbr_False, q10, q01, qwC, dc_iff.mpr ha, qb_t, hc]
    refine ⟨nI_vp (by omega) (by omega), ?_⟩
    exact hQ _ _ (Or.inr ⟨ha, by rw [hc], rfl⟩)
  · refine oX2_endOne_0 _ _ _ _ _ _ ?_
    simp only [bX2_endOne_0, qsem, qopt_s, qopt2_s, qev, qxs, Nat.reduceEqDiff, reduceIte, and_true, true_and, and_false, false_and, and_self, or_true, true_or, qb_or, reduceCtorEq, qbr_True, qbr_False, q10, q01, qwC, dcf ha, qb_f]
    refine kX2_endOne_2 (zX2_isLive hI) (rfl) (Nat.le_of_ble_eq_true rfl) (Nat.le_of_ble_eq_true rfl) ⟨Nat.le_of_ble_eq_true rfl, Nat.le_of_ble_eq_true rfl⟩ ?_
    rintro _ _ ⟨rfl, rfl⟩
    refine oX2_endOne_5 _ _ _ _ _ _ ?_
    simp only [bX2_endOne_5, qsem, qopt_s, qopt2_s, qev, qxs, Nat.reduceEqDiff, reduceIte, and_true, true_and, and_false, false_and, and_self, or_true, true_or, qb_or, reduceCtorEq, qbr_True, qbr_False, q10, q01, qwC, dcf ha, qb_f]
    exact hQ _ _ (Or.inl ⟨ha, rfl, rfl⟩)
set_option maxRecDepth 100000 in
set_option maxHeartbeats 4000000 in
theorem zX2_loseOne {C M : qC} {r : Nat × Nat × Nat} {S : qS} {a b : Int32} (hI : iK C S) : CT mX2_loseOne 1 0 0 [.ref 126, .int a, .int b] (wd C M r) (fun r' w' => (¬ (isKy a = true ∧ S.2.1 153 a.toNatClampNeg = -1) ∧ w' = wd C M r ∧ r' = some (.int 0)) ∨ ((isKy a = true ∧ S.2.1 153 a.toNatClampNeg = -1) ∧ w' = wd (yA C 129 (upd (xA C 129) a.toNatClampNeg b)) M r ∧ r' = some (.int 1))) := by
  refine eX2_loseOne (AW_gen (fun Q hQ => ?_))
  by_cases ha : isKy a = true
  · obtain ⟨k, hk, rfl⟩ := isKy_of ha
    have hc := ky_c hk
    refine oX2_loseOne_0 _ _ _ _ _ _ ?_
    simp only [bX2_loseOne_0, qsem, qopt_s, qopt2_s, qev, qxs, Nat.reduceEqDiff, reduceIte, and_true, true_and, and_false, false_and, and_self, or_true, true_or, qb_or, reduceCtorEq, qbr_True, qbr_False, q10, q01, qwC, ha, qb_t, hc, (hI k hk).2.2.1]
    refine kX2_loseOne_1 (zX2_isKey) (Nat.le_of_ble_eq_true rfl) (Nat.le_of_ble_eq_true rfl) ⟨Nat.le_of_ble_eq_true rfl, Nat.le_of_ble_eq_true rfl⟩ ?_
    rintro _ _ ⟨rfl, rfl⟩
    refine oX2_loseOne_4 _ _ _ _ _ _ ?_
    simp only [bX2_loseOne_4, qsem, qopt_s, qopt2_s, qev, qxs, Nat.reduceEqDiff, reduceIte, and_true, true_and, and_false, false_and, and_self, or_true, true_or, qb_or, reduceCtorEq, qbr_True, qbr_False, q10, q01, qwC, ha, qb_t, hc, (hI k hk).2.2.1]
    refine ⟨nI_vp (by omega) (by omega), ?_⟩
    refine qbr_i (fun c1 => ?_) (fun c1 => ?_)
    · refine oX2_loseOne_19 _ _ _ _ _ _ ?_
      simp only [bX2_loseOne_19, qsem, qopt_s, qopt2_s, qev, qxs, Nat.reduceEqDiff, reduceIte, and_true, true_and, and_false, false_and, and_self, or_true, true_or, qb_or, reduceCtorEq, qbr_True, qbr_False, q10, q01, qwC, ha, qb_t, hc, (hI k hk).2.2.1]
      refine ⟨nI_vp (by omega) (by omega), ?_⟩
      first | exact hQ _ _ (Or.inl ⟨fun q => c1 (by have := q.2; rw [hc] at this; exact this), rfl, rfl⟩) | exact hQ _ _ (Or.inr ⟨⟨ha, by rw [hc]; exact c1⟩, by rw [hc], rfl⟩)
    · refine oX2_loseOne_17 _ _ _ _ _ _ ?_
      simp only [bX2_loseOne_17, qsem, qopt_s, qopt2_s, qev, qxs, Nat.reduceEqDiff, reduceIte, and_true, true_and, and_false, false_and, and_self, or_true, true_or, qb_or, reduceCtorEq, qbr_True, qbr_False, q10, q01, qwC, ha, qb_t, hc, (hI k hk).2.2.1]
      first | exact hQ _ _ (Or.inl ⟨fun q => c1 (by have := q.2; rw [hc] at this; exact this), rfl, rfl⟩) | exact hQ _ _ (Or.inr ⟨⟨ha, by rw [hc]; exact c1⟩, by rw [hc], rfl⟩)
  · have ha2 : isKy a = false := (Bool.not_eq_true _).mp ha
    refine oX2_loseOne_0 _ _ _ _ _ _ ?_
    simp only [bX2_loseOne_0, qsem, qopt_s, qopt2_s, qev, qxs, Nat.reduceEqDiff, reduceIte, and_true, true_and, and_false, false_and, and_self, or_true, true_or, qb_or, reduceCtorEq, qbr_True, qbr_False, q10, q01, qwC, ha2, qb_f]
    refine kX2_loseOne_1 (zX2_isKey) (Nat.le_of_ble_eq_true rfl) (Nat.le_of_ble_eq_true rfl) ⟨Nat.le_of_ble_eq_true rfl, Nat.le_of_ble_eq_true rfl⟩ ?_
    rintro _ _ ⟨rfl, rfl⟩
    refine oX2_loseOne_4 _ _ _ _ _ _ ?_
    simp only [bX2_loseOne_4, qsem, qopt_s, qopt2_s, qev, qxs, Nat.reduceEqDiff, reduceIte, and_true, true_and, and_false, false_and, and_self, or_true, true_or, qb_or, reduceCtorEq, qbr_True, qbr_False, q10, q01, qwC, ha2, qb_f]
    refine oX2_loseOne_17 _ _ _ _ _ _ ?_
    simp only [bX2_loseOne_17, qsem, qopt_s, qopt2_s, qev, qxs, Nat.reduceEqDiff, reduceIte, and_true, true_and, and_false, false_and, and_self, or_true, true_or, qb_or, reduceCtorEq, qbr_True, qbr_False, q10, q01, qwC, ha2, qb_f]
    exact hQ _ _ (Or.inl ⟨fun q => ha q.1, rfl, rfl⟩)
set_option maxRecDepth 100000 in
set_option maxHeartbeats 4000000 in
theorem zX2_lostSince {C M : qC} {r : Nat × Nat × Nat} {S : qS} {k : Nat} (hI : iK C S) (hk : k < 4) : CT mX2_lostSince 1 0 0 [.ref 126, .int (nI k)] (wd C M r) (fun r' w' => w' = wd C M r ∧ r' = some (.int (S.2.1 153 k))) := by
  have hc := ky_c hk
  have ha : isKy (nI k) = true := decide_eq_true ⟨nI_pos' (by omega), nI_lt (b := 4) hk (by omega)⟩
  refine eX2_lostSince (AW_gen (fun Q hQ => ?_))
  refine oX2_lostSince_0 _ _ _ _ _ _ ?_
  simp only [bX2_lostSince_0, qsem, qopt_s, qopt2_s, qev, qxs, Nat.reduceEqDiff, reduceIte, and_true, true_and, and_false, false_and, and_self, or_true, true_or, qb_or, reduceCtorEq, qbr_True, qbr_False, q10, q01, qwC, ha, qb_t, hc, (hI k hk).2.2.1]
  refine kX2_lostSince_1 (zX2_isKey) (Nat.le_of_ble_eq_true rfl) (Nat.le_of_ble_eq_true rfl) ⟨Nat.le_of_ble_eq_true rfl, Nat.le_of_ble_eq_true rfl⟩ ?_
  rintro _ _ ⟨rfl, rfl⟩
  refine oX2_lostSince_4 _ _ _ _ _ _ ?_
  simp only [bX2_lostSince_4, qsem, qopt_s, qopt2_s, qev, qxs, Nat.reduceEqDiff, reduceIte, and_true, true_and, and_false, false_and, and_self, or_true, true_or, qb_or, reduceCtorEq, qbr_True, qbr_False, q10, q01, qwC, ha, qb_t, hc, (hI k hk).2.2.1]
  refine ⟨nI_vp (by omega) (by omega), ?_⟩
  refine oX2_lostSince_17 _ _ _ _ _ _ ?_
  simp only [bX2_lostSince_17, qsem, qopt_s, qopt2_s, qev, qxs, Nat.reduceEqDiff, reduceIte, and_true, true_and, and_false, false_and, and_self, or_true, true_or, qb_or, reduceCtorEq, qbr_True, qbr_False, q10, q01, qwC, ha, qb_t, hc, (hI k hk).2.2.1]
  exact hQ _ _ ⟨rfl, rfl⟩


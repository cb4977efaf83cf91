/-! the rule in force: at r.1 -/
theorem rs_0 {r : Nat × Nat × Nat} (h : wR r) : shp r r.1 = some (.inr (.inl (6, [(2, r.1 + 1), (2, r.1 + 2), (2, r.1 + 3)]))) := by
  unfold shp
  rcases h with h | h
  · rw [if_neg (by omega), if_neg (by omega), if_neg (by omega), if_neg (by omega), if_pos rfl]
  · rw [if_neg (by omega), if_neg (by omega), if_neg (by omega), if_neg (by omega), if_pos rfl]
theorem rs_1 {r : Nat × Nat × Nat} (h : wR r) : shp r (r.1 + 1) = some (.inl (0, r.2.2)) := by
  unfold shp
  rcases h with h | h
  · rw [if_neg (by omega), if_neg (by omega), if_neg (by omega), if_neg (by omega), if_neg (by omega), if_pos rfl]
  · rw [if_neg (by omega), if_neg (by omega), if_neg (by omega), if_neg (by omega), if_neg (by omega), if_pos rfl]
theorem rs_2 {r : Nat × Nat × Nat} (h : wR r) : shp r (r.1 + 2) = some (.inl (0, 9)) := by
  unfold shp
  rcases h with h | h
  · rw [if_neg (by omega), if_neg (by omega), if_neg (by omega), if_neg (by omega), if_neg (by omega), if_neg (by omega), if_pos rfl]
  · rw [if_neg (by omega), if_neg (by omega), if_neg (by omega), if_neg (by omega), if_neg (by omega), if_neg (by omega), if_pos rfl]
theorem rs_3 {r : Nat × Nat × Nat} (h : wR r) : shp r (r.1 + 3) = some (.inl (0, 9)) := by
  unfold shp
  rcases h with h | h
  · rw [if_neg (by omega), if_neg (by omega), if_neg (by omega), if_neg (by omega), if_neg (by omega), if_neg (by omega), if_neg (by omega), if_pos rfl]
  · rw [if_neg (by omega), if_neg (by omega), if_neg (by omega), if_neg (by omega), if_neg (by omega), if_neg (by omega), if_neg (by omega), if_pos rfl]
theorem rs_n {r : Nat × Nat × Nat} (h : wR r) {k : Nat} (hk : k < 4) : ¬ (136 ≤ r.1 + k ∧ r.1 + k < 165) := by rcases h with h | h <;> omega
theorem ru_c {r : Nat × Nat × Nat} (h : wR r) : ∀ (C M : qC), qci (wd C M r) r.1 = some 6 := fun _ _ => gc_at (rs_0 h)
theorem ru_g0 {r : Nat × Nat × Nat} (h : wR r) : ∀ (C M : qC), qgF (wd C M r) r.1 6 0 = some (.ref (r.1 + 1)) := fun _ _ => (gF_at (rs_0 h)).trans rfl
theorem ru_g1 {r : Nat × Nat × Nat} (h : wR r) : ∀ (C M : qC), qgF (wd C M r) r.1 6 1 = some (.ref (r.1 + 2)) := fun _ _ => (gF_at (rs_0 h)).trans rfl
theorem ru_g2 {r : Nat × Nat × Nat} (h : wR r) : ∀ (C M : qC), qgF (wd C M r) r.1 6 2 = some (.ref (r.1 + 3)) := fun _ _ => (gF_at (rs_0 h)).trans rfl
theorem ru_a1 {r : Nat × Nat × Nat} (h : wR r) : ∀ (C M : qC), qgI (wd C M r) (r.1 + 1) 0 = some (r.2.2, xA C (r.1 + 1)) := fun C M => by rw [gI_at (rs_1 h) (by decide), if_neg (rs_n h (k := 1) (by omega))]
theorem ru_a2 {r : Nat × Nat × Nat} (h : wR r) : ∀ (C M : qC), qgI (wd C M r) (r.1 + 2) 0 = some (9, xA C (r.1 + 2)) := fun C M => by rw [gI_at (rs_2 h) (by decide), if_neg (rs_n h (k := 2) (by omega))]
theorem ru_a3 {r : Nat × Nat × Nat} (h : wR r) : ∀ (C M : qC), qgI (wd C M r) (r.1 + 3) 0 = some (9, xA C (r.1 + 3)) := fun C M => by rw [gI_at (rs_3 h) (by decide), if_neg (rs_n h (k := 3) (by omega))]
theorem ru_s2 {r : Nat × Nat × Nat} (h : wR r) : ∀ (C M : qC) (f : Nat → Int32), qsI (wd C M r) (r.1 + 2) f = wd (yA C (r.1 + 2) f) M r := fun _ _ _ => sI_C (rs_2 h) (by decide) (rs_n h (k := 2) (by omega))
theorem ru_s3 {r : Nat × Nat × Nat} (h : wR r) : ∀ (C M : qC) (f : Nat → Int32), qsI (wd C M r) (r.1 + 3) f = wd (yA C (r.1 + 3) f) M r := fun _ _ _ => sI_C (rs_3 h) (by decide) (rs_n h (k := 3) (by omega))
theorem ru_l {r : Nat × Nat × Nat} (h : wR r) : ∀ (C M : qC), qlen (wd C M r) (r.1 + 1) = some (0, r.2.2) := fun C M => by
  have := wd_at (C := C) (M := M) (rs_1 h)
  unfold qlen
  rw [this]
  rfl
theorem r23 (r : Nat × Nat × Nat) : (r.1 + 2 = r.1 + 3) = False := eq_false (by omega)
theorem r32 (r : Nat × Nat × Nat) : (r.1 + 3 = r.1 + 2) = False := eq_false (by omega)
theorem r12 (r : Nat × Nat × Nat) : (r.1 + 1 = r.1 + 2) = False := eq_false (by omega)
theorem r13 (r : Nat × Nat × Nat) : (r.1 + 1 = r.1 + 3) = False := eq_false (by omega)
/-- the scratch rows of the rule hold sp, eu; nothing else has changed -/
def rhC (C C' : qC) (r : Nat × Nat × Nat) (sp eu : Nat → Nat) : Prop := xI C' = xI C ∧ xL C' = xL C ∧ xM C' = xM C ∧ (∀ q, q ≠ r.1 + 2 → q ≠ r.1 + 3 → xA C' q = xA C q) ∧ (∀ j, xA C' (r.1 + 2) j = nI (sp j)) ∧ ∀ j, xA C' (r.1 + 3) j = nI (eu j)
theorem rh_2 {C C' : qC} {r : Nat × Nat × Nat} {sp eu : Nat → Nat} (h : rhC C C' r sp eu) (i v : Nat) : rhC C (yA C' (r.1 + 2) (upd (xA C' (r.1 + 2)) i (nI v))) r (nup sp i v) eu := by
  obtain ⟨a, b, c, d, e, f⟩ := h
  refine ⟨a, b, c, fun q h1 h2 => ?_, fun j => ?_, fun j => ?_⟩
  · simp only [qxs]; rw [if_neg h1]; exact d q h1 h2
  · simp only [qxs, if_true]
    unfold upd nup
    by_cases ej : j = i
    · rw [if_pos ej, if_pos ej]
    · rw [if_neg ej, if_neg ej]; exact e j
  · simp only [qxs, r32, if_false]; exact f j
theorem rh_3 {C C' : qC} {r : Nat × Nat × Nat} {sp eu : Nat → Nat} (h : rhC C C' r sp eu) (i v : Nat) : rhC C (yA C' (r.1 + 3) (upd (xA C' (r.1 + 3)) i (nI v))) r sp (nup eu i v) := by
  obtain ⟨a, b, c, d, e, f⟩ := h
  refine ⟨a, b, c, fun q h1 h2 => ?_, fun j => ?_, fun j => ?_⟩
  · simp only [qxs]; rw [if_neg h2]; exact d q h1 h2
  · simp only [qxs, r23, if_false]; exact e j
  · simp only [qxs, if_true]
    unfold upd nup
    by_cases ej : j = i
    · rw [if_pos ej, if_pos ej]
    · rw [if_neg ej, if_neg ej]; exact f j
set_option maxRecDepth 100000 in
set_option maxHeartbeats 4000000 in
theorem zX6_begin {C C' M : qC} {r : Nat × Nat × Nat} {sp eu : Nat → Nat} {d : Nat} (hr : wR r) (hd : d ≤ 8) (h : rhC C C' r sp eu) : CT mX6_begin 0 0 0 [.ref r.1, .int (nI d)] (wd C' M r) (fun r' w' => ∃ C2, r' = none ∧ w' = wd C2 M r ∧ rhC C C2 r (nup sp d 0) (nup eu d 8191)) := by
  have hc := nIcl (show d < 1000 by omega)
  refine eX6_begin (AW_gen (fun Q hQ => ?_))
  refine oX6_begin_0 _ _ _ _ _ _ ?_
  simp only [bX6_begin_0, qsem, qopt_s, qopt2_s, qev, qxs, Nat.reduceEqDiff, reduceIte, and_true, true_and, and_false, false_and, and_self, or_true, true_or, qb_or, reduceCtorEq, qbr_True, qbr_False, q10, q01, qwC, ru_g1 hr, ru_g2 hr, ru_a2 hr, ru_a3 hr, ru_s2 hr, ru_s3 hr, hc, r32]
  refine qbr_f (Int32.not_lt.mpr (nI_pos' (by omega))) ?_
  refine qbr_f (nI_nlt (b := d) (a := 8) (by omega) (by omega)) ?_
  refine ⟨nI_vp (by omega) (by omega), ?_⟩
  refine ⟨nI_vp (by omega) (by omega), ?_⟩
  refine oX6_begin_26 _ _ _ _ _ _ ?_
  simp only [bX6_begin_26, qsem, qopt_s, qopt2_s, qev, qxs, Nat.reduceEqDiff, reduceIte, and_true, true_and, and_false, false_and, and_self, or_true, true_or, qb_or, reduceCtorEq, qbr_True, qbr_False, q10, q01, qwC, ru_g1 hr, ru_g2 hr, ru_a2 hr, ru_a3 hr, ru_s2 hr, ru_s3 hr, hc, r32]
  refine hQ _ _ ⟨_, rfl, rfl, ?_⟩
  have := rh_3 (rh_2 h d 0) d 8191
  simp only [qxs, r32, if_false] at this
  exact this
theorem q3n : ((3 : Int32) = 0) = False := by decide
theorem q300 : ((300 : Int32) = 0) = False := by decide
theorem q100 : ((100 : Int32) = 0) = False := by decide
def tbN (n : Nat) : Nat := if 12 < n then 8191 else 2 ^ n - 1
set_option maxRecDepth 100000 in
theorem tb_s : ∀ n : Fin 13, ((1 : Int32) <<< (nI n.val &&& 31)) - 1 = nI (2 ^ n.val - 1) := by decide +kernel
set_option maxRecDepth 100000 in
set_option maxHeartbeats 4000000 in
theorem zX6_triesBelow {w : qW} {n : Nat} (hn : n ≤ 100) : CT mX6_triesBelow 0 0 0 [.int (nI n)] w (fun r w' => w' = w ∧ r = some (.int (nI (tbN n)))) := by
  refine eX6_triesBelow (AW_gen (fun Q hQ => ?_))
  by_cases h : 12 < n
  · refine oX6_triesBelow_0 _ _ _ _ _ _ ?_
    simp only [bX6_triesBelow_0, qsem, qopt_s, qopt2_s, qev, qxs, Nat.reduceEqDiff, reduceIte, and_true, true_and, and_false, false_and, and_self, or_true, true_or, qb_or, reduceCtorEq, qbr_True, qbr_False, q10, q01, qwC]
    refine qbr_f ((fun q => by have := (nI_leI (b := 12) (by omega) (by omega)).mp q; omega)) ?_
    refine oX6_triesBelow_17 _ _ _ _ _ _ ?_
    simp only [bX6_triesBelow_17, qsem, qopt_s, qopt2_s, qev, qxs, Nat.reduceEqDiff, reduceIte, and_true, true_and, and_false, false_and, and_self, or_true, true_or, qb_or, reduceCtorEq, qbr_True, qbr_False, q10, q01, qwC]
    exact hQ _ _ ⟨rfl, ri (by unfold tbN; rw [if_pos h]; rfl)⟩
  · refine oX6_triesBelow_0 _ _ _ _ _ _ ?_
    simp only [bX6_triesBelow_0, qsem, qopt_s, qopt2_s, qev, qxs, Nat.reduceEqDiff, reduceIte, and_true, true_and, and_false, false_and, and_self, or_true, true_or, qb_or, reduceCtorEq, qbr_True, qbr_False, q10, q01, qwC, tb_s ⟨n, by omega⟩]
    refine qbr_t (nI_le (b := 12) (by omega) (by omega)) ?_
    refine oX6_triesBelow_12 _ _ _ _ _ _ ?_
    simp only [bX6_triesBelow_12, qsem, qopt_s, qopt2_s, qev, qxs, Nat.reduceEqDiff, reduceIte, and_true, true_and, and_false, false_and, and_self, or_true, true_or, qb_or, reduceCtorEq, qbr_True, qbr_False, q10, q01, qwC, tb_s ⟨n, by omega⟩]
    refine oX6_triesBelow_17 _ _ _ _ _ _ ?_
    simp only [bX6_triesBelow_17, qsem, qopt_s, qopt2_s, qev, qxs, Nat.reduceEqDiff, reduceIte, and_true, true_and, and_false, false_and, and_self, or_true, true_or, qb_or, reduceCtorEq, qbr_True, qbr_False, q10, q01, qwC, tb_s ⟨n, by omega⟩]
    exact hQ _ _ ⟨rfl, ri (by unfold tbN; rw [if_neg h])⟩
set_option maxRecDepth 100000 in
theorem tb_e : ∀ n : Fin 100, nI (tbN (n.val + 1)) &&& (nI (tbN n.val) ^^^ -1) = nI (bT (fun t => decide (t = n.val)) 13) := by decide +kernel
set_option maxRecDepth 100000 in
theorem tb_l : ∀ n : Fin 100, nI (tbN n.val) = nI (bT (fun t => decide (t < n.val)) 13) := by decide +kernel
set_option maxRecDepth 100000 in
theorem tb_g : ∀ n : Fin 100, (8191 : Int32) &&& (nI (tbN (n.val + 1)) ^^^ -1) = nI (bT (fun t => decide (n.val < t)) 13) := by decide +kernel
theorem bT_c (b : Bool) : nI (bT (fun _ => b) 13) = if b then 8191 else 0 := by cases b <;> rfl
set_option maxRecDepth 100000 in
set_option maxHeartbeats 4000000 in
theorem zX6_triesOfTest {w : qW} {x u b : Nat} (hx : x < 1000) (hu : u < 1000) (hb : b < 1000) : CT mX6_triesOfTest 1 0 0 [.int (nI x), .int (nI u), .int (nI b)] w (fun r w' => w' = w ∧ r = some (.int (nI (toT x u b)))) := by
  have e1 : nI x / 300 = nI (x / 300) := pk_div (d := 300) (by omega) (by omega) (by omega)
  have e2 : nI x / 100 = nI (x / 100) := pk_div (d := 100) (by omega) (by omega) (by omega)
  have e3 : nI (x / 100) - nI (x / 100) / 3 * 3 = nI (x / 100 % 3) := pk_rem (d := 3) (by omega) (by omega) (by omega)
  have e4 : nI x - nI (x / 100) * 100 = nI (x % 100) := by rw [← e2]; exact pk_rem (d := 100) (by omega) (by omega) (by omega)
  have et : toT x u b = bT (fun t => tsP (x / 300) (x / 100 % 3) (x % 100) t u b) 13 := rfl
  have hsg : x / 100 % 3 < 3 := by omega
  have hn : x % 100 < 100 := by omega
  have hl : x / 300 < 4 := by omega
  rw [et]
  clear et
  generalize x / 300 = l at *
  generalize x / 100 % 3 = g at *
  generalize x % 100 = n at *
  refine eX6_triesOfTest (AW_gen (fun Q hQ => ?_))
  by_cases hl0 : l = 0
  · have hE : ∀ t, tsP l g n t u b = if g = 0 then decide (t = n) else if g = 1 then decide (t < n) else decide (n < t) := fun t => by unfold tsP; simp only [hl0, if_true]
    simp only [hE] at hQ
    refine oX6_triesOfTest_0 _ _ _ _ _ _ ?_
    simp only [bX6_triesOfTest_0, qsem, qopt_s, qopt2_s, qev, qxs, Nat.reduceEqDiff, reduceIte, and_true, true_and, and_false, false_and, and_self, or_true, true_or, qb_or, reduceCtorEq, qbr_True, qbr_False, q10, q01, qwC, e1, e2, e3, e4, nI0l (show l < 1000 by omega), nI0l (show g < 1000 by omega), nI1l (show g < 1000 by omega), nI1l (show l < 1000 by omega), nI_1, q3n, q300, q100]
    refine ⟨by decide, ?_⟩
    refine ⟨by decide, ?_⟩
    refine ⟨by decide, ?_⟩
    refine ⟨by decide, ?_⟩
    refine qbr_t (hl0) ?_
    refine kX6_triesOfTest_26 (zX6_triesBelow (by omega)) (Nat.le_of_ble_eq_true rfl) (Nat.le_of_ble_eq_true rfl) ⟨Nat.le_of_ble_eq_true rfl, Nat.le_of_ble_eq_true rfl⟩ ?_
    rintro _ _ ⟨rfl, rfl⟩
    refine oX6_triesOfTest_29 _ _ _ _ _ _ ?_
    simp only [bX6_triesOfTest_29, qsem, qopt_s, qopt2_s, qev, qxs, Nat.reduceEqDiff, reduceIte, and_true, true_and, and_false, false_and, and_self, or_true, true_or, qb_or, reduceCtorEq, qbr_True, qbr_False, q10, q01, qwC, e1, e2, e3, e4, nI0l (show l < 1000 by omega), nI0l (show g < 1000 by omega), nI1l (show g < 1000 by omega), nI1l (show l < 1000 by omega), nI_1, q3n, q300, q100]
    refine kX6_triesOfTest_35 (zX6_triesBelow (n := n + 1) (by omega)) (Nat.le_of_ble_eq_true rfl) (Nat.le_of_ble_eq_true rfl) ⟨Nat.le_of_ble_eq_true rfl, Nat.le_of_ble_eq_true rfl⟩ ?_
    rintro _ _ ⟨rfl, rfl⟩
    refine oX6_triesOfTest_38 _ _ _ _ _ _ ?_
    simp only [bX6_triesOfTest_38, qsem, qopt_s, qopt2_s, qev, qxs, Nat.reduceEqDiff, reduceIte, and_true, true_and, and_false, false_and, and_self, or_true, true_or, qb_or, reduceCtorEq, qbr_True, qbr_False, q10, q01, qwC, e1, e2, e3, e4, nI0l (show l < 1000 by omega), nI0l (show g < 1000 by omega), nI1l (show g < 1000 by omega), nI1l (show l < 1000 by omega), nI_1, q3n, q300, q100]
    refine qbr_i (fun c1 => ?_) (fun c1 => ?_)
    · refine oX6_triesOfTest_74 _ _ _ _ _ _ ?_
      simp only [bX6_triesOfTest_74, qsem, qopt_s, qopt2_s, qev, qxs, Nat.reduceEqDiff, reduceIte, and_true, true_and, and_false, false_and, and_self, or_true, true_or, qb_or, reduceCtorEq, qbr_True, qbr_False, q10, q01, qwC, e1, e2, e3, e4, nI0l (show l < 1000 by omega), nI0l (show g < 1000 by omega), nI1l (show g < 1000 by omega), nI1l (show l < 1000 by omega), nI_1, q3n, q300, q100]
      first | exact hQ _ _ ⟨rfl, ri (by simp only [c1, if_true]; exact tb_e ⟨n, hn⟩)⟩ | exact hQ _ _ ⟨rfl, ri (by simp only [c2, if_true, Nat.reduceEqDiff, if_false]; exact tb_l ⟨n, hn⟩)⟩ | exact hQ _ _ ⟨rfl, ri (by simp only [c1, c2, if_false]; exact tb_g ⟨n, hn⟩)⟩
    · refine oX6_triesOfTest_55 _ _ _ _ _ _ ?_
      simp only [bX6_triesOfTest_55, qsem, qopt_s, qopt2_s, qev, qxs, Nat.reduceEqDiff, reduceIte, and_true, true_and, and_false, false_and, and_self, or_true, true_or, qb_or, reduceCtorEq, qbr_True, qbr_False, q10, q01, qwC, e1, e2, e3, e4, nI0l (show l < 1000 by omega), nI0l (show g < 1000 by omega), nI1l (show g < 1000 by omega), nI1l (show l < 1000 by omega), nI_1, q3n, q300, q100]
      refine qbr_i (fun c2 => ?_) (fun c2 => ?_)
      · refine oX6_triesOfTest_74 _ _ _ _ _ _ ?_
        simp only [bX6_triesOfTest_74, qsem, qopt_s, qopt2_s, qev, qxs, Nat.reduceEqDiff, reduceIte, and_true, true_and, and_false, false_and, and_self, or_true, true_or, qb_or, reduceCtorEq, qbr_True, qbr_False, q10, q01, qwC, e1, e2, e3, e4, nI0l (show l < 1000 by omega), nI0l (show g < 1000 by omega), nI1l (show g < 1000 by omega), nI1l (show l < 1000 by omega), nI_1, q3n, q300, q100]
        first | exact hQ _ _ ⟨rfl, ri (by simp only [c1, if_true]; exact tb_e ⟨n, hn⟩)⟩ | exact hQ _ _ ⟨rfl, ri (by simp only [c2, if_true, Nat.reduceEqDiff, if_false]; exact tb_l ⟨n, hn⟩)⟩ | exact hQ _ _ ⟨rfl, ri (by simp only [c1, c2, if_false]; exact tb_g ⟨n, hn⟩)⟩
      · refine oX6_triesOfTest_66 _ _ _ _ _ _ ?_
        simp only [bX6_triesOfTest_66, qsem, qopt_s, qopt2_s, qev, qxs, Nat.reduceEqDiff, reduceIte, and_true, true_and, and_false, false_and, and_self, or_true, true_or, qb_or, reduceCtorEq, qbr_True, qbr_False, q10, q01, qwC, e1, e2, e3, e4, nI0l (show l < 1000 by omega), nI0l (show g < 1000 by omega), nI1l (show g < 1000 by omega), nI1l (show l < 1000 by omega), nI_1, q3n, q300, q100]
        refine oX6_triesOfTest_74 _ _ _ _ _ _ ?_
        simp only [bX6_triesOfTest_74, qsem, qopt_s, qopt2_s, qev, qxs, Nat.reduceEqDiff, reduceIte, and_true, true_and, and_false, false_and, and_self, or_true, true_or, qb_or, reduceCtorEq, qbr_True, qbr_False, q10, q01, qwC, e1, e2, e3, e4, nI0l (show l < 1000 by omega), nI0l (show g < 1000 by omega), nI1l (show g < 1000 by omega), nI1l (show l < 1000 by omega), nI_1, q3n, q300, q100]
        first | exact hQ _ _ ⟨rfl, ri (by simp only [c1, if_true]; exact tb_e ⟨n, hn⟩)⟩ | exact hQ _ _ ⟨rfl, ri (by simp only [c2, if_true, Nat.reduceEqDiff, if_false]; exact tb_l ⟨n, hn⟩)⟩ | exact hQ _ _ ⟨rfl, ri (by simp only [c1, c2, if_false]; exact tb_g ⟨n, hn⟩)⟩
  · have at85 : ∀ y : Nat, y < 1000 → y = (if l = 1 then u else b) → ∀ (o6 : Option Value), q_nb (some o6) = true → AW (mX6_triesOfTest, 1, 0, 0, none, Q) 85 [some (.int (nI x)), some (.int (nI u)), some (.int (nI b)), some (.int (nI l)), some (.int (nI g)), some (.int (nI n)), o6, none] [.int (nI y)] w 0 0 := by
      intro y hy ey o6 q6
      have hE : ∀ t, tsP l g n t u b = if g = 0 then decide (y = n) else if g = 1 then decide (y < n) else decide (n < y) := fun t => by unfold tsP; simp only [hl0, if_false, ← ey]
      have fin : ∀ hb : Bool, hb = (if g = 0 then decide (y = n) else if g = 1 then decide (y < n) else decide (n < y)) → AW (mX6_triesOfTest, 1, 0, 0, none, Q) 140 [some (.int (nI x)), some (.int (nI u)), some (.int (nI b)), some (.int (nI l)), some (.int (nI g)), some (.int (nI n)), some (.int (nI y)), none] [.int (qb hb)] w 0 0 := by
        intro hb e
        have hres : nI (bT (fun t => tsP l g n t u b) 13) = if hb then 8191 else 0 := by simp only [hE]; rw [← e]; exact bT_c hb
        rw [hres] at hQ
        cases hb with
        | true =>
          refine oX6_triesOfTest_140 _ _ _ _ _ _ ?_
          simp only [bX6_triesOfTest_140, qsem, qopt_s, qopt2_s, qev, qxs, Nat.reduceEqDiff, reduceIte, and_true, true_and, and_false, false_and, and_self, or_true, true_or, qb_or, reduceCtorEq, qbr_True, qbr_False, q10, q01, qwC, qb_t]
          refine oX6_triesOfTest_154 _ _ _ _ _ _ ?_
          simp only [bX6_triesOfTest_154, qsem, qopt_s, qopt2_s, qev, qxs, Nat.reduceEqDiff, reduceIte, and_true, true_and, and_false, false_and, and_self, or_true, true_or, qb_or, reduceCtorEq, qbr_True, qbr_False, q10, q01, qwC, qb_t]
          exact hQ _ _ ⟨rfl, rfl⟩
        | false =>
          refine oX6_triesOfTest_140 _ _ _ _ _ _ ?_
          simp only [bX6_triesOfTest_140, qsem, qopt_s, qopt2_s, qev, qxs, Nat.reduceEqDiff, reduceIte, and_true, true_and, and_false, false_and, and_self, or_true, true_or, qb_or, reduceCtorEq, qbr_True, qbr_False, q10, q01, qwC, qb_f]
          refine oX6_triesOfTest_153 _ _ _ _ _ _ ?_
          simp only [bX6_triesOfTest_153, qsem, qopt_s, qopt2_s, qev, qxs, Nat.reduceEqDiff, reduceIte, and_true, true_and, and_false, false_and, and_self, or_true, true_or, qb_or, reduceCtorEq, qbr_True, qbr_False, q10, q01, qwC, qb_f]
          refine oX6_triesOfTest_154 _ _ _ _ _ _ ?_
          simp only [bX6_triesOfTest_154, qsem, qopt_s, qopt2_s, qev, qxs, Nat.reduceEqDiff, reduceIte, and_true, true_and, and_false, false_and, and_self, or_true, true_or, qb_or, reduceCtorEq, qbr_True, qbr_False, q10, q01, qwC, qb_f]
          exact hQ _ _ ⟨rfl, rfl⟩
      refine oX6_triesOfTest_85 _ _ _ _ _ _ ?_
      simp only [bX6_triesOfTest_85, qsem, qopt_s, qopt2_s, qev, qxs, Nat.reduceEqDiff, reduceIte, and_true, true_and, and_false, false_and, and_self, or_true, true_or, qb_or, reduceCtorEq, qbr_True, qbr_False, q10, q01, qwC, nI0l (show g < 1000 by omega), nI1l (show g < 1000 by omega), nIeq hy (show n < 1000 by omega), nIle (show n < 1000 by omega) hy, nIle hy (show n < 1000 by omega)]
      refine qbr_i (fun c1 => ?_) (fun c1 => ?_)
      · refine qbr_i (fun c2 => ?_) (fun c2 => ?_)
        · first | exact fin true (by rw [if_pos c1, decide_eq_true c2]) | exact fin false (by rw [if_pos c1, decide_eq_false c2]) | exact fin false (by rw [if_neg c1, if_pos c2, decide_eq_false (by omega)]) | exact fin true (by rw [if_neg c1, if_pos c2, decide_eq_true (by omega)]) | exact fin false (by rw [if_neg c1, if_neg c2, decide_eq_false (by omega)]) | exact fin true (by rw [if_neg c1, if_neg c2, decide_eq_true (by omega)])
        · refine oX6_triesOfTest_103 _ _ _ _ _ _ ?_
          simp only [bX6_triesOfTest_103, qsem, qopt_s, qopt2_s, qev, qxs, Nat.reduceEqDiff, reduceIte, and_true, true_and, and_false, false_and, and_self, or_true, true_or, qb_or, reduceCtorEq, qbr_True, qbr_False, q10, q01, qwC, nI0l (show g < 1000 by omega), nI1l (show g < 1000 by omega), nIeq hy (show n < 1000 by omega), nIle (show n < 1000 by omega) hy, nIle hy (show n < 1000 by omega)]
          first | exact fin true (by rw [if_pos c1, decide_eq_true c2]) | exact fin false (by rw [if_pos c1, decide_eq_false c2]) | exact fin false (by rw [if_neg c1, if_pos c2, decide_eq_false (by omega)]) | exact fin true (by rw [if_neg c1, if_pos c2, decide_eq_true (by omega)]) | exact fin false (by rw [if_neg c1, if_neg c2, decide_eq_false (by omega)]) | exact fin true (by rw [if_neg c1, if_neg c2, decide_eq_true (by omega)])
      · refine oX6_triesOfTest_107 _ _ _ _ _ _ ?_
        simp only [bX6_triesOfTest_107, qsem, qopt_s, qopt2_s, qev, qxs, Nat.reduceEqDiff, reduceIte, and_true, true_and, and_false, false_and, and_self, or_true, true_or, qb_or, reduceCtorEq, qbr_True, qbr_False, q10, q01, qwC, nI0l (show g < 1000 by omega), nI1l (show g < 1000 by omega), nIeq hy (show n < 1000 by omega), nIle (show n < 1000 by omega) hy, nIle hy (show n < 1000 by omega)]
        refine qbr_i (fun c2 => ?_) (fun c2 => ?_)
        · refine qbr_i (fun c3 => ?_) (fun c3 => ?_)
          · refine oX6_triesOfTest_124 _ _ _ _ _ _ ?_
            simp only [bX6_triesOfTest_124, qsem, qopt_s, qopt2_s, qev, qxs, Nat.reduceEqDiff, reduceIte, and_true, true_and, and_false, false_and, and_self, or_true, true_or, qb_or, reduceCtorEq, qbr_True, qbr_False, q10, q01, qwC, nI0l (show g < 1000 by omega), nI1l (show g < 1000 by omega), nIeq hy (show n < 1000 by omega), nIle (show n < 1000 by omega) hy, nIle hy (show n < 1000 by omega)]
            first | exact fin true (by rw [if_pos c1, decide_eq_true c2]) | exact fin false (by rw [if_pos c1, decide_eq_false c2]) | exact fin false (by rw [if_neg c1, if_pos c2, decide_eq_false (by omega)]) | exact fin true (by rw [if_neg c1, if_pos c2, decide_eq_true (by omega)]) | exact fin false (by rw [if_neg c1, if_neg c2, decide_eq_false (by omega)]) | exact fin true (by rw [if_neg c1, if_neg c2, decide_eq_true (by omega)])
          · first | exact fin true (by rw [if_pos c1, decide_eq_true c2]) | exact fin false (by rw [if_pos c1, decide_eq_false c2]) | exact fin false (by rw [if_neg c1, if_pos c2, decide_eq_false (by omega)]) | exact fin true (by rw [if_neg c1, if_pos c2, decide_eq_true (by omega)]) | exact fin false (by rw [if_neg c1, if_neg c2, decide_eq_false (by omega)]) | exact fin true (by rw [if_neg c1, if_neg c2, decide_eq_true (by omega)])
        · refine oX6_triesOfTest_128 _ _ _ _ _ _ ?_
          simp only [bX6_triesOfTest_128, qsem, qopt_s, qopt2_s, qev, qxs, Nat.reduceEqDiff, reduceIte, and_true, true_and, and_false, false_and, and_self, or_true, true_or, qb_or, reduceCtorEq, qbr_True, qbr_False, q10, q01, qwC, nI0l (show g < 1000 by omega), nI1l (show g < 1000 by omega), nIeq hy (show n < 1000 by omega), nIle (show n < 1000 by omega) hy, nIle hy (show n < 1000 by omega)]
          refine qbr_i (fun c3 => ?_) (fun c3 => ?_)
          · refine oX6_triesOfTest_139 _ _ _ _ _ _ ?_
            simp only [bX6_triesOfTest_139, qsem, qopt_s, qopt2_s, qev, qxs, Nat.reduceEqDiff, reduceIte, and_true, true_and, and_false, false_and, and_self, or_true, true_or, qb_or, reduceCtorEq, qbr_True, qbr_False, q10, q01, qwC, nI0l (show g < 1000 by omega), nI1l (show g < 1000 by omega), nIeq hy (show n < 1000 by omega), nIle (show n < 1000 by omega) hy, nIle hy (show n < 1000 by omega)]
            first | exact fin true (by rw [if_pos c1, decide_eq_true c2]) | exact fin false (by rw [if_pos c1, decide_eq_false c2]) | exact fin false (by rw [if_neg c1, if_pos c2, decide_eq_false (by omega)]) | exact fin true (by rw [if_neg c1, if_pos c2, decide_eq_true (by omega)]) | exact fin false (by rw [if_neg c1, if_neg c2, decide_eq_false (by omega)]) | exact fin true (by rw [if_neg c1, if_neg c2, decide_eq_true (by omega)])
          · first | exact fin true (by rw [if_pos c1, decide_eq_true c2]) | exact fin false (by rw [if_pos c1, decide_eq_false c2]) | exact fin false (by rw [if_neg c1, if_pos c2, decide_eq_false (by omega)]) | exact fin true (by rw [if_neg c1, if_pos c2, decide_eq_true (by omega)]) | exact fin false (by rw [if_neg c1, if_neg c2, decide_eq_false (by omega)]) | exact fin true (by rw [if_neg c1, if_neg c2, decide_eq_true (by omega)])
    refine oX6_triesOfTest_0 _ _ _ _ _ _ ?_
    simp only [bX6_triesOfTest_0, qsem, qopt_s, qopt2_s, qev, qxs, Nat.reduceEqDiff, reduceIte, and_true, true_and, and_false, false_and, and_self, or_true, true_or, qb_or, reduceCtorEq, qbr_True, qbr_False, q10, q01, qwC, e1, e2, e3, e4, nI0l (show l < 1000 by omega), nI0l (show g < 1000 by omega), nI1l (show g < 1000 by omega), nI1l (show l < 1000 by omega), nI_1, q3n, q300, q100]
    refine ⟨by decide, ?_⟩
    refine ⟨by decide, ?_⟩
    refine ⟨by decide, ?_⟩
    refine ⟨by decide, ?_⟩
    refine qbr_f (hl0) ?_
    refine oX6_triesOfTest_75 _ _ _ _ _ _ ?_
    simp only [bX6_triesOfTest_75, qsem, qopt_s, qopt2_s, qev, qxs, Nat.reduceEqDiff, reduceIte, and_true, true_and, and_false, false_and, and_self, or_true, true_or, qb_or, reduceCtorEq, qbr_True, qbr_False, q10, q01, qwC, e1, e2, e3, e4, nI0l (show l < 1000 by omega), nI0l (show g < 1000 by omega), nI1l (show g < 1000 by omega), nI1l (show l < 1000 by omega), nI_1, q3n, q300, q100]
    refine qbr_i (fun c1 => ?_) (fun c1 => ?_)
    · first | exact at85 u hu (by rw [if_pos c1]) none rfl | exact at85 b hb (by rw [if_neg c1]) none rfl
    · refine oX6_triesOfTest_84 _ _ _ _ _ _ ?_
      simp only [bX6_triesOfTest_84, qsem, qopt_s, qopt2_s, qev, qxs, Nat.reduceEqDiff, reduceIte, and_true, true_and, and_false, false_and, and_self, or_true, true_or, qb_or, reduceCtorEq, qbr_True, qbr_False, q10, q01, qwC, e1, e2, e3, e4, nI0l (show l < 1000 by omega), nI0l (show g < 1000 by omega), nI1l (show g < 1000 by omega), nI1l (show l < 1000 by omega), nI_1, q3n, q300, q100]
      first | exact at85 u hu (by rw [if_pos c1]) none rfl | exact at85 b hb (by rw [if_neg c1]) none rfl
/-! the steps, one by one -/
def pfS (r b : Nat) (st : Nat → Nat) (σ : qHs) : Nat → qHs
  | 0 => σ
  | i + 1 => hst r b (st i) (pfS r b st σ i)
theorem pfS_cg (r b : Nat) {st st' : Nat → Nat} (σ : qHs) : ∀ n, (∀ i, i < n → st i = st' i) → pfS r b st σ n = pfS r b st' σ n
  | 0, _ => rfl
  | n + 1, h => by
    show hst r b (st n) _ = hst r b (st' n) _
    rw [h n (by omega), pfS_cg r b σ n (fun i hi => h i (by omega))]
theorem pfS_l (r b : Nat) (σ : qHs) : ∀ sl : List Nat, pfS r b (stA sl) σ sl.length = hru r b sl σ
  | [] => rfl
  | y :: t => by
    show hst r b (stA (y :: t) t.length) (pfS r b (stA (y :: t)) σ t.length) = hst r b y (hru r b t σ)
    rw [pfS_cg r b (st := stA (y :: t)) (st' := stA t) σ t.length (fun i hi => if_neg (by omega)), pfS_l r b σ t]
    show hst r b (if t.length = t.length then y else _) _ = _
    rw [if_pos rfl]
theorem hst_d (r b x : Nat) (σ : qHs) (h : σ.1 ≤ 8) : (hst r b x σ).1 ≤ 8 := by
  unfold hst
  split
  · exact h
  · split
    · rename_i q; exact q.2
    · split
      · show σ.1 - 1 ≤ 8; omega
      · split <;> exact h
theorem pfS_d (r b : Nat) (st : Nat → Nat) (σ : qHs) (h : σ.1 ≤ 8) : ∀ n, (pfS r b st σ n).1 ≤ 8
  | 0 => h
  | n + 1 => hst_d r b _ _ (pfS_d r b st σ h n)
theorem stA_in : ∀ (sl : List Nat) (i : Nat), i < sl.length → stA sl i ∈ sl
  | [], i, h => by simp at h
  | y :: t, i, h => by
    unfold stA
    by_cases e : i = t.length
    · rw [if_pos e]; exact List.mem_cons_self
    · rw [if_neg e]; exact List.mem_cons_of_mem _ (stA_in t i (by simp at h; omega))
def i_un (x : Int32) : Nat := x.toBitVec.toNat
theorem i_nn (x : Int32) : x = nI (i_un x) := by
  apply Int32.toBitVec_inj.1
  show x.toBitVec = BitVec.ofNat 32 x.toBitVec.toNat
  rw [BitVec.ofNat_toNat, BitVec.setWidth_eq]
theorem i1000 {a : Nat} (ha : a < 10000) (c : Nat) (hc : c < 10000) : (nI a < nI c) = (a < c) := propext (nI_ltI (by omega) (by omega))
theorem ieqn {a : Nat} (ha : a < 10000) (c : Nat) (hc : c < 10000) : (nI a = nI c) = (a = c) := propext (nI_eq (by omega) (by omega))
/-- the steps of the rule in force -/
def iUs (C : qC) (r : Nat × Nat × Nat) (H : Nat → Nat → Nat → Bool) : Prop := ∃ sl : List Nat, r.2.2 = sl.length ∧ sl.length ≤ 100 ∧ (∀ i, i < sl.length → xA C (r.1 + 1) i = nI (stA sl i)) ∧ (∀ x, x ∈ sl → x < 2000) ∧ ST 0 sl H
set_option maxRecDepth 100000 in
set_option maxHeartbeats 4000000 in
theorem zX6_holdingTries {C M : qC} {r : Nat × Nat × Nat} {H : Nat → Nat → Nat → Bool} {u b : Nat} (hr : wR r) (hU : iUs C r H) (hu : u ≤ 12) (hb : b ≤ 12) : CT mX6_holdingTries 2 0 0 [.ref r.1, .int (nI u), .int (nI b)] (wd C M r) (fun r' w' => ∃ C', w' = wd C' M r ∧ (∃ sp eu, rhC C C' r sp eu) ∧ r' = some (.int (nI (bT (fun t => H t u b) 13)))) := by
  obtain ⟨sl, hlen, hle, hst', hbd, hST⟩ := hU
  refine eX6_holdingTries (AW_gen (fun Q hQ => ?_))
  have loop : ∀ (sp0 eu0 : Nat → Nat), (∀ (j : Nat), (pfS u b (stA sl) (0, nup sp0 0 0, nup eu0 0 8191) sl.length).2.1 0 ||| (pfS u b (stA sl) (0, nup sp0 0 0, nup eu0 0 8191) sl.length).2.2 0 = bT (fun t => H t u b) 13) → ∀ (k i : Nat) (C2 : qC) (o5 : Option Value), i + k = sl.length → q_nb (some o5) = true → rhC C C2 r (pfS u b (stA sl) (0, nup sp0 0 0, nup eu0 0 8191) i).2.1 (pfS u b (stA sl) (0, nup sp0 0 0, nup eu0 0 8191) i).2.2 → AW (mX6_holdingTries, 2, 0, 0, none, Q) 10 [some (.ref r.1), some (.int (nI u)), some (.int (nI b)), some (.int (nI (pfS u b (stA sl) (0, nup sp0 0 0, nup eu0 0 8191) i).1)), some (.int (nI i)), o5] [] (wd C2 M r) 0 0 := by
    intro sp0 eu0 hfin k
    induction k with
    | zero =>
      intro i C2 o5 hi q5 hC
      obtain rfl : i = sl.length := by omega
      refine oX6_holdingTries_10 _ _ _ _ _ _ ?_
      simp only [bX6_holdingTries_10, qsem, qopt_s, qopt2_s, qev, qxs, Nat.reduceEqDiff, reduceIte, and_true, true_and, and_false, false_and, and_self, or_true, true_or, qb_or, reduceCtorEq, qbr_True, qbr_False, q10, q01, qwC, ru_g0 hr, ru_g1 hr, ru_g2 hr, ru_l hr, ru_a1 hr, ru_a2 hr, ru_a3 hr, hlen, cl0, hC.2.2.2.2.1, hC.2.2.2.2.2, or_nI]
      refine qbr_t ((Int32.le_refl _)) ?_
      refine oX6_holdingTries_164 _ _ _ _ _ _ ?_
      simp only [bX6_holdingTries_164, qsem, qopt_s, qopt2_s, qev, qxs, Nat.reduceEqDiff, reduceIte, and_true, true_and, and_false, false_and, and_self, or_true, true_or, qb_or, reduceCtorEq, qbr_True, qbr_False, q10, q01, qwC, ru_g0 hr, ru_g1 hr, ru_g2 hr, ru_l hr, ru_a1 hr, ru_a2 hr, ru_a3 hr, hlen, cl0, hC.2.2.2.2.1, hC.2.2.2.2.2, or_nI]
      refine ⟨nI_vp (i := 0) (by omega) (by omega), ?_⟩
      refine ⟨nI_vp (i := 0) (by omega) (by omega), ?_⟩
      exact hQ _ _ ⟨C2, rfl, ⟨_, _, hC⟩, ri (by rw [hfin 0])⟩
    | succ k ih =>
      intro i C2 o5 hi q5 hC
      have hil : i < sl.length := by omega
      have hx1 : xA C2 (r.1 + 1) i = nI (stA sl i) := by rw [hC.2.2.2.1 _ (by omega) (by omega)]; exact hst' i hil
      have hx2 : stA sl i < 2000 := hbd _ (stA_in sl i hil)
      have hd := pfS_d u b (stA sl) (0, nup sp0 0 0, nup eu0 0 8191) (by show 0 ≤ 8; omega) i
      have hnx : ∀ C3 : qC, rhC C C3 r (hst u b (stA sl i) (pfS u b (stA sl) (0, nup sp0 0 0, nup eu0 0 8191) i)).2.1 (hst u b (stA sl i) (pfS u b (stA sl) (0, nup sp0 0 0, nup eu0 0 8191) i)).2.2 → AW (mX6_holdingTries, 2, 0, 0, none, Q) 158 [some (.ref r.1), some (.int (nI u)), some (.int (nI b)), some (.int (nI (hst u b (stA sl i) (pfS u b (stA sl) (0, nup sp0 0 0, nup eu0 0 8191) i)).1)), some (.int (nI i)), some (.int (nI (stA sl i)))] [] (wd C3 M r) 0 0 := by
        intro C3 h3
        refine oX6_holdingTries_158 _ _ _ _ _ _ ?_
        simp only [bX6_holdingTries_158, qsem, qopt_s, qopt2_s, qev, qxs, Nat.reduceEqDiff, reduceIte, and_true, true_and, and_false, false_and, and_self, or_true, true_or, qb_or, reduceCtorEq, qbr_True, qbr_False, q10, q01, qwC, nI_1]
        exact ih (i + 1) C3 _ (by omega) rfl h3
      generalize pfS u b (stA sl) (0, nup sp0 0 0, nup eu0 0 8191) i = σ at hC hd hnx ⊢
      obtain ⟨d, sp, eu⟩ := σ
      generalize stA sl i = x at hx1 hx2 hnx
      simp only at hd hC hnx ⊢
      have hcd := nIcl (show d < 1000 by omega)
      have hci := ncl (show i < 10000 by omega)
      have a1000 : (nI x < (1000 : Int32)) = (x < 1000) := i1000 (by omega) 1000 (by omega)
      have a40 : (nI x = (40 : Int32)) = (x = 40) := ieqn (by omega) 40 (by omega)
      have a41 : (nI x = (41 : Int32)) = (x = 41) := ieqn (by omega) 41 (by omega)
      have a124 : (nI x = (124 : Int32)) = (x = 124) := ieqn (by omega) 124 (by omega)
      have d8 : ((8 : Int32) ≤ nI d) = (8 ≤ d) := nIle (a := 8) (by omega) (by omega)
      have d0 : (nI d ≤ (0 : Int32)) = (d ≤ 0) := nIle (b := 0) (by omega) (by omega)
      have h10 : ¬ nI r.2.2 ≤ nI i := by rw [hlen]; exact nI_ge hil (by omega)
      have e1000 : 1000 ≤ x → nI x - 1000 = nI (x - 1000) := fun h => pk_sub (b := 1000) h
      have st : (1000 ≤ x ∧ hst u b x (d, sp, eu) = (d, sp, nup eu d (eu d &&& toT (x - 1000) u b))) ∨ (x < 1000 ∧ x = 40 ∧ d < 8 ∧ hst u b x (d, sp, eu) = (d + 1, nup sp (d + 1) 0, nup eu (d + 1) 8191)) ∨ (x < 1000 ∧ ¬ (x = 40 ∧ d < 8) ∧ x = 41 ∧ 0 < d ∧ hst u b x (d, sp, eu) = (d - 1, sp, nup eu (d - 1) (eu (d - 1) &&& (sp d ||| eu d)))) ∨ (x < 1000 ∧ ¬ (x = 40 ∧ d < 8) ∧ ¬ (x = 41 ∧ 0 < d) ∧ x = 124 ∧ hst u b x (d, sp, eu) = (d, nup sp d (sp d ||| eu d), nup eu d 8191)) ∨ (x < 1000 ∧ ¬ (x = 40 ∧ d < 8) ∧ ¬ (x = 41 ∧ 0 < d) ∧ ¬ x = 124 ∧ hst u b x (d, sp, eu) = (d, sp, eu)) := by
        unfold hst
        by_cases k0 : 1000 ≤ x
        · exact Or.inl ⟨k0, if_pos k0⟩
        · rw [if_neg k0]
          by_cases k1 : x = 40 ∧ d < 8
          · exact Or.inr (Or.inl ⟨by omega, k1.1, k1.2, if_pos k1⟩)
          · rw [if_neg k1]
            by_cases k2 : x = 41 ∧ 0 < d
            · exact Or.inr (Or.inr (Or.inl ⟨by omega, k1, k2.1, k2.2, if_pos k2⟩))
            · rw [if_neg k2]
              by_cases k3 : x = 124
              · exact Or.inr (Or.inr (Or.inr (Or.inl ⟨by omega, k1, k2, k3, if_pos k3⟩)))
              · exact Or.inr (Or.inr (Or.inr (Or.inr ⟨by omega, k1, k2, k3, if_neg k3⟩)))
      rcases st with ⟨k0, e⟩ | ⟨k0, k1, k2, e⟩ | ⟨k0, k1, k2, k3, e⟩ | ⟨k0, k1, k2, k3, e⟩ | ⟨k0, k1, k2, k3, e⟩
      · rw [e] at hnx
        have htt : CT mX6_triesOfTest 1 0 0 [.int (nI x - 1000), .int (nI u), .int (nI b)] (wd C2 M r) (fun r' w' => w' = wd C2 M r ∧ r' = some (.int (nI (toT (x - 1000) u b)))) := by rw [e1000 k0]; exact zX6_triesOfTest (by omega) (by omega) (by omega)
        refine oX6_holdingTries_10 _ _ _ _ _ _ ?_
        simp only [bX6_holdingTries_10, qsem, qopt_s, qopt2_s, qev, qxs, Nat.reduceEqDiff, reduceIte, and_true, true_and, and_false, false_and, and_self, or_true, true_or, qb_or, reduceCtorEq, qbr_True, qbr_False, q10, q01, qwC, ru_g0 hr, ru_g1 hr, ru_g2 hr, ru_l hr, ru_a1 hr, ru_a2 hr, ru_a3 hr, ru_s2 hr, ru_s3 hr, hci, hx1, a1000, a40, a41, a124, d8, d0, hcd, q5, hC.2.2.2.2.1, hC.2.2.2.2.2, or_nI, and_nI, nI_1, r32, r23]
        refine qbr_f (h10) ?_
        refine ⟨nI_vp (by omega) (by omega), ?_⟩
        refine qbr_f ((by omega)) ?_
        refine ⟨nI_vp (by omega) (by omega), ?_⟩
        refine kX6_holdingTries_52 (htt) (Nat.le_of_ble_eq_true rfl) (Nat.le_of_ble_eq_true rfl) ⟨Nat.le_of_ble_eq_true rfl, Nat.le_of_ble_eq_true rfl⟩ ?_
        rintro _ _ ⟨rfl, rfl⟩
        refine oX6_holdingTries_55 _ _ _ _ _ _ ?_
        simp only [bX6_holdingTries_55, qsem, qopt_s, qopt2_s, qev, qxs, Nat.reduceEqDiff, reduceIte, and_true, true_and, and_false, false_and, and_self, or_true, true_or, qb_or, reduceCtorEq, qbr_True, qbr_False, q10, q01, qwC, ru_g0 hr, ru_g1 hr, ru_g2 hr, ru_l hr, ru_a1 hr, ru_a2 hr, ru_a3 hr, ru_s2 hr, ru_s3 hr, hci, hx1, a1000, a40, a41, a124, d8, d0, hcd, q5, hC.2.2.2.2.1, hC.2.2.2.2.2, or_nI, and_nI, nI_1, r32, r23]
        refine ⟨nI_vp (by omega) (by omega), ?_⟩
        exact hnx _ (rh_3 hC d _)
      · rw [e] at hnx
        subst k1
        refine oX6_holdingTries_10 _ _ _ _ _ _ ?_
        simp only [bX6_holdingTries_10, qsem, qopt_s, qopt2_s, qev, qxs, Nat.reduceEqDiff, reduceIte, and_true, true_and, and_false, false_and, and_self, or_true, true_or, qb_or, reduceCtorEq, qbr_True, qbr_False, q10, q01, qwC, ru_g0 hr, ru_g1 hr, ru_g2 hr, ru_l hr, ru_a1 hr, ru_a2 hr, ru_a3 hr, ru_s2 hr, ru_s3 hr, hci, hx1, a1000, a40, a41, a124, d8, d0, hcd, q5, hC.2.2.2.2.1, hC.2.2.2.2.2, or_nI, and_nI, nI_1, r32, r23]
        refine qbr_f (h10) ?_
        refine ⟨nI_vp (by omega) (by omega), ?_⟩
        refine qbr_t (k0) ?_
        refine oX6_holdingTries_60 _ _ _ _ _ _ ?_
        simp only [bX6_holdingTries_60, qsem, qopt_s, qopt2_s, qev, qxs, Nat.reduceEqDiff, reduceIte, and_true, true_and, and_false, false_and, and_self, or_true, true_or, qb_or, reduceCtorEq, qbr_True, qbr_False, q10, q01, qwC, ru_g0 hr, ru_g1 hr, ru_g2 hr, ru_l hr, ru_a1 hr, ru_a2 hr, ru_a3 hr, ru_s2 hr, ru_s3 hr, hci, hx1, a1000, a40, a41, a124, d8, d0, hcd, q5, hC.2.2.2.2.1, hC.2.2.2.2.2, or_nI, and_nI, nI_1, r32, r23]
        refine qbr_f ((by omega)) ?_
        refine kX6_holdingTries_78 (zX6_begin hr (show d + 1 ≤ 8 by omega) hC) (ru_c hr _ _) (Nat.le_of_ble_eq_true rfl) (Nat.le_of_ble_eq_true rfl) ⟨Nat.le_of_ble_eq_true rfl, Nat.le_of_ble_eq_true rfl⟩ ?_
        rintro _ _ ⟨C3, rfl, rfl, h3⟩
        refine oX6_holdingTries_81 _ _ _ _ _ _ ?_
        simp only [bX6_holdingTries_81, qsem, qopt_s, qopt2_s, qev, qxs, Nat.reduceEqDiff, reduceIte, and_true, true_and, and_false, false_and, and_self, or_true, true_or, qb_or, reduceCtorEq, qbr_True, qbr_False, q10, q01, qwC, ru_g0 hr, ru_g1 hr, ru_g2 hr, ru_l hr, ru_a1 hr, ru_a2 hr, ru_a3 hr, ru_s2 hr, ru_s3 hr, hci, hx1, a1000, a40, a41, a124, d8, d0, hcd, q5, hC.2.2.2.2.1, hC.2.2.2.2.2, or_nI, and_nI, nI_1, r32, r23]
        exact hnx _ h3
      · rw [e] at hnx
        subst k2
        have em : nI d + -1 = nI (d - 1) := nIpm (by omega)
        have ed : d - 1 + 1 = d := by omega
        have hcd1 := nIcl (show d - 1 < 1000 by omega)
        refine oX6_holdingTries_10 _ _ _ _ _ _ ?_
        simp only [bX6_holdingTries_10, qsem, qopt_s, qopt2_s, qev, qxs, Nat.reduceEqDiff, reduceIte, and_true, true_and, and_false, false_and, and_self, or_true, true_or, qb_or, reduceCtorEq, qbr_True, qbr_False, q10, q01, qwC, ru_g0 hr, ru_g1 hr, ru_g2 hr, ru_l hr, ru_a1 hr, ru_a2 hr, ru_a3 hr, ru_s2 hr, ru_s3 hr, hci, hx1, a1000, a40, a41, a124, d8, d0, hcd, q5, hC.2.2.2.2.1, hC.2.2.2.2.2, or_nI, and_nI, nI_1, r32, r23]
        refine qbr_f (h10) ?_
        refine ⟨nI_vp (by omega) (by omega), ?_⟩
        refine qbr_t (k0) ?_
        refine oX6_holdingTries_60 _ _ _ _ _ _ ?_
        simp only [bX6_holdingTries_60, qsem, qopt_s, qopt2_s, qev, qxs, Nat.reduceEqDiff, reduceIte, and_true, true_and, and_false, false_and, and_self, or_true, true_or, qb_or, reduceCtorEq, qbr_True, qbr_False, q10, q01, qwC, ru_g0 hr, ru_g1 hr, ru_g2 hr, ru_l hr, ru_a1 hr, ru_a2 hr, ru_a3 hr, ru_s2 hr, ru_s3 hr, hci, hx1, a1000, a40, a41, a124, d8, d0, hcd, q5, hC.2.2.2.2.1, hC.2.2.2.2.2, or_nI, and_nI, nI_1, r32, r23]
        refine oX6_holdingTries_84 _ _ _ _ _ _ ?_
        simp only [bX6_holdingTries_84, qsem, qopt_s, qopt2_s, qev, qxs, Nat.reduceEqDiff, reduceIte, and_true, true_and, and_false, false_and, and_self, or_true, true_or, qb_or, reduceCtorEq, qbr_True, qbr_False, q10, q01, qwC, ru_g0 hr, ru_g1 hr, ru_g2 hr, ru_l hr, ru_a1 hr, ru_a2 hr, ru_a3 hr, ru_s2 hr, ru_s3 hr, hci, hx1, a1000, a40, a41, a124, d8, d0, hcd, q5, hC.2.2.2.2.1, hC.2.2.2.2.2, or_nI, and_nI, nI_1, r32, r23, em, ed, hcd1]
        refine qbr_f ((by omega)) ?_
        refine ⟨nI_vp (by omega) (by omega), ?_⟩
        refine ⟨nI_vp (by omega) (by omega), ?_⟩
        refine ⟨nI_vp (by omega) (by omega), ?_⟩
        refine ⟨nI_vp (by omega) (by omega), ?_⟩
        exact hnx _ (rh_3 hC (d - 1) _)
      · rw [e] at hnx
        subst k3
        refine oX6_holdingTries_10 _ _ _ _ _ _ ?_
        simp only [bX6_holdingTries_10, qsem, qopt_s, qopt2_s, qev, qxs, Nat.reduceEqDiff, reduceIte, and_true, true_and, and_false, false_and, and_self, or_true, true_or, qb_or, reduceCtorEq, qbr_True, qbr_False, q10, q01, qwC, ru_g0 hr, ru_g1 hr, ru_g2 hr, ru_l hr, ru_a1 hr, ru_a2 hr, ru_a3 hr, ru_s2 hr, ru_s3 hr, hci, hx1, a1000, a40, a41, a124, d8, d0, hcd, q5, hC.2.2.2.2.1, hC.2.2.2.2.2, or_nI, and_nI, nI_1, r32, r23]
        refine qbr_f (h10) ?_
        refine ⟨nI_vp (by omega) (by omega), ?_⟩
        refine qbr_t (k0) ?_
        refine oX6_holdingTries_60 _ _ _ _ _ _ ?_
        simp only [bX6_holdingTries_60, qsem, qopt_s, qopt2_s, qev, qxs, Nat.reduceEqDiff, reduceIte, and_true, true_and, and_false, false_and, and_self, or_true, true_or, qb_or, reduceCtorEq, qbr_True, qbr_False, q10, q01, qwC, ru_g0 hr, ru_g1 hr, ru_g2 hr, ru_l hr, ru_a1 hr, ru_a2 hr, ru_a3 hr, ru_s2 hr, ru_s3 hr, hci, hx1, a1000, a40, a41, a124, d8, d0, hcd, q5, hC.2.2.2.2.1, hC.2.2.2.2.2, or_nI, and_nI, nI_1, r32, r23]
        refine oX6_holdingTries_84 _ _ _ _ _ _ ?_
        simp only [bX6_holdingTries_84, qsem, qopt_s, qopt2_s, qev, qxs, Nat.reduceEqDiff, reduceIte, and_true, true_and, and_false, false_and, and_self, or_true, true_or, qb_or, reduceCtorEq, qbr_True, qbr_False, q10, q01, qwC, ru_g0 hr, ru_g1 hr, ru_g2 hr, ru_l hr, ru_a1 hr, ru_a2 hr, ru_a3 hr, ru_s2 hr, ru_s3 hr, hci, hx1, a1000, a40, a41, a124, d8, d0, hcd, q5, hC.2.2.2.2.1, hC.2.2.2.2.2, or_nI, and_nI, nI_1, r32, r23]
        refine oX6_holdingTries_127 _ _ _ _ _ _ ?_
        simp only [bX6_holdingTries_127, qsem, qopt_s, qopt2_s, qev, qxs, Nat.reduceEqDiff, reduceIte, and_true, true_and, and_false, false_and, and_self, or_true, true_or, qb_or, reduceCtorEq, qbr_True, qbr_False, q10, q01, qwC, ru_g0 hr, ru_g1 hr, ru_g2 hr, ru_l hr, ru_a1 hr, ru_a2 hr, ru_a3 hr, ru_s2 hr, ru_s3 hr, hci, hx1, a1000, a40, a41, a124, d8, d0, hcd, q5, hC.2.2.2.2.1, hC.2.2.2.2.2, or_nI, and_nI, nI_1, r32, r23]
        refine ⟨nI_vp (by omega) (by omega), ?_⟩
        refine ⟨nI_vp (by omega) (by omega), ?_⟩
        refine ⟨nI_vp (by omega) (by omega), ?_⟩
        refine ⟨nI_vp (by omega) (by omega), ?_⟩
        refine hnx _ ?_
        have := rh_3 (rh_2 hC d (sp d ||| eu d)) d 8191
        simp only [qxs, r32, if_false] at this
        exact this
      · rw [e] at hnx
        have go84 : AW (mX6_holdingTries, 2, 0, 0, none, Q) 84 [some (.ref r.1), some (.int (nI u)), some (.int (nI b)), some (.int (nI d)), some (.int (nI i)), some (.int (nI x))] [] (wd C2 M r) 0 0 := by
          by_cases k41 : x = 41
          · refine oX6_holdingTries_84 _ _ _ _ _ _ ?_
            simp only [bX6_holdingTries_84, qsem, qopt_s, qopt2_s, qev, qxs, Nat.reduceEqDiff, reduceIte, and_true, true_and, and_false, false_and, and_self, or_true, true_or, qb_or, reduceCtorEq, qbr_True, qbr_False, q10, q01, qwC, ru_g0 hr, ru_g1 hr, ru_g2 hr, ru_l hr, ru_a1 hr, ru_a2 hr, ru_a3 hr, ru_s2 hr, ru_s3 hr, hci, hx1, a1000, a40, a41, a124, d8, d0, hcd, q5, hC.2.2.2.2.1, hC.2.2.2.2.2, or_nI, and_nI, nI_1, r32, r23]
            refine qbr_t (k41) ?_
            refine qbr_t ((by omega)) ?_
            refine oX6_holdingTries_127 _ _ _ _ _ _ ?_
            simp only [bX6_holdingTries_127, qsem, qopt_s, qopt2_s, qev, qxs, Nat.reduceEqDiff, reduceIte, and_true, true_and, and_false, false_and, and_self, or_true, true_or, qb_or, reduceCtorEq, qbr_True, qbr_False, q10, q01, qwC, ru_g0 hr, ru_g1 hr, ru_g2 hr, ru_l hr, ru_a1 hr, ru_a2 hr, ru_a3 hr, ru_s2 hr, ru_s3 hr, hci, hx1, a1000, a40, a41, a124, d8, d0, hcd, q5, hC.2.2.2.2.1, hC.2.2.2.2.2, or_nI, and_nI, nI_1, r32, r23]
            refine qbr_f (k3) ?_
            exact hnx C2 hC
          · refine oX6_holdingTries_84 _ _ _ _ _ _ ?_
            simp only [bX6_holdingTries_84, qsem, qopt_s, qopt2_s, qev, qxs, Nat.reduceEqDiff, reduceIte, and_true, true_and, and_false, false_and, and_self, or_true, true_or, qb_or, reduceCtorEq, qbr_True, qbr_False, q10, q01, qwC, ru_g0 hr, ru_g1 hr, ru_g2 hr, ru_l hr, ru_a1 hr, ru_a2 hr, ru_a3 hr, ru_s2 hr, ru_s3 hr, hci, hx1, a1000, a40, a41, a124, d8, d0, hcd, q5, hC.2.2.2.2.1, hC.2.2.2.2.2, or_nI, and_nI, nI_1, r32, r23]
            refine qbr_f (k41) ?_
            refine oX6_holdingTries_127 _ _ _ _ _ _ ?_
            simp only [bX6_holdingTries_127, qsem, qopt_s, qopt2_s, qev, qxs, Nat.reduceEqDiff, reduceIte, and_true, true_and, and_false, false_and, and_self, or_true, true_or, qb_or, reduceCtorEq, qbr_True, qbr_False, q10, q01, qwC, ru_g0 hr, ru_g1 hr, ru_g2 hr, ru_l hr, ru_a1 hr, ru_a2 hr, ru_a3 hr, ru_s2 hr, ru_s3 hr, hci, hx1, a1000, a40, a41, a124, d8, d0, hcd, q5, hC.2.2.2.2.1, hC.2.2.2.2.2, or_nI, and_nI, nI_1, r32, r23]
            refine qbr_f (k3) ?_
            exact hnx C2 hC
        by_cases k40 : x = 40
        · refine oX6_holdingTries_10 _ _ _ _ _ _ ?_
          simp only [bX6_holdingTries_10, qsem, qopt_s, qopt2_s, qev, qxs, Nat.reduceEqDiff, reduceIte, and_true, true_and, and_false, false_and, and_self, or_true, true_or, qb_or, reduceCtorEq, qbr_True, qbr_False, q10, q01, qwC, ru_g0 hr, ru_g1 hr, ru_g2 hr, ru_l hr, ru_a1 hr, ru_a2 hr, ru_a3 hr, ru_s2 hr, ru_s3 hr, hci, hx1, a1000, a40, a41, a124, d8, d0, hcd, q5, hC.2.2.2.2.1, hC.2.2.2.2.2, or_nI, and_nI, nI_1, r32, r23]
          refine qbr_f (h10) ?_
          refine ⟨nI_vp (by omega) (by omega), ?_⟩
          refine qbr_t (k0) ?_
          refine oX6_holdingTries_60 _ _ _ _ _ _ ?_
          simp only [bX6_holdingTries_60, qsem, qopt_s, qopt2_s, qev, qxs, Nat.reduceEqDiff, reduceIte, and_true, true_and, and_false, false_and, and_self, or_true, true_or, qb_or, reduceCtorEq, qbr_True, qbr_False, q10, q01, qwC, ru_g0 hr, ru_g1 hr, ru_g2 hr, ru_l hr, ru_a1 hr, ru_a2 hr, ru_a3 hr, ru_s2 hr, ru_s3 hr, hci, hx1, a1000, a40, a41, a124, d8, d0, hcd, q5, hC.2.2.2.2.1, hC.2.2.2.2.2, or_nI, and_nI, nI_1, r32, r23]
          refine qbr_t (k40) ?_
          refine qbr_t ((by omega)) ?_
          exact go84
        · refine oX6_holdingTries_10 _ _ _ _ _ _ ?_
          simp only [bX6_holdingTries_10, qsem, qopt_s, qopt2_s, qev, qxs, Nat.reduceEqDiff, reduceIte, and_true, true_and, and_false, false_and, and_self, or_true, true_or, qb_or, reduceCtorEq, qbr_True, qbr_False, q10, q01, qwC, ru_g0 hr, ru_g1 hr, ru_g2 hr, ru_l hr, ru_a1 hr, ru_a2 hr, ru_a3 hr, ru_s2 hr, ru_s3 hr, hci, hx1, a1000, a40, a41, a124, d8, d0, hcd, q5, hC.2.2.2.2.1, hC.2.2.2.2.2, or_nI, and_nI, nI_1, r32, r23]
          refine qbr_f (h10) ?_
          refine ⟨nI_vp (by omega) (by omega), ?_⟩
          refine qbr_t (k0) ?_
          refine oX6_holdingTries_60 _ _ _ _ _ _ ?_
          simp only [bX6_holdingTries_60, qsem, qopt_s, qopt2_s, qev, qxs, Nat.reduceEqDiff, reduceIte, and_true, true_and, and_false, false_and, and_self, or_true, true_or, qb_or, reduceCtorEq, qbr_True, qbr_False, q10, q01, qwC, ru_g0 hr, ru_g1 hr, ru_g2 hr, ru_l hr, ru_a1 hr, ru_a2 hr, ru_a3 hr, ru_s2 hr, ru_s3 hr, hci, hx1, a1000, a40, a41, a124, d8, d0, hcd, q5, hC.2.2.2.2.1, hC.2.2.2.2.2, or_nI, and_nI, nI_1, r32, r23]
          refine qbr_f (k40) ?_
          exact go84
  have h0 : rhC C C r (fun j => i_un (xA C (r.1 + 2) j)) (fun j => i_un (xA C (r.1 + 3) j)) := ⟨rfl, rfl, rfl, fun _ _ _ => rfl, fun j => i_nn _, fun j => i_nn _⟩
  obtain ⟨sp', eu', e1, -, -, e4⟩ := hST u b (nup (fun j => i_un (xA C (r.1 + 2) j)) 0 0) (nup (fun j => i_un (xA C (r.1 + 3) j)) 0 8191) rfl
  refine oX6_holdingTries_0 _ _ _ _ _ _ ?_
  simp only [bX6_holdingTries_0, qsem, qopt_s, qopt2_s, qev, qxs, Nat.reduceEqDiff, reduceIte, and_true, true_and, and_false, false_and, and_self, or_true, true_or, qb_or, reduceCtorEq, qbr_True, qbr_False, q10, q01, qwC]
  refine kX6_holdingTries_4 (zX6_begin (d := 0) hr (by omega) h0) (ru_c hr _ _) (Nat.le_of_ble_eq_true rfl) (Nat.le_of_ble_eq_true rfl) ⟨Nat.le_of_ble_eq_true rfl, Nat.le_of_ble_eq_true rfl⟩ ?_
  rintro _ _ ⟨C3, rfl, rfl, h3⟩
  refine oX6_holdingTries_7 _ _ _ _ _ _ ?_
  simp only [bX6_holdingTries_7, qsem, qopt_s, qopt2_s, qev, qxs, Nat.reduceEqDiff, reduceIte, and_true, true_and, and_false, false_and, and_self, or_true, true_or, qb_or, reduceCtorEq, qbr_True, qbr_False, q10, q01, qwC]
  refine loop _ _ (fun _ => ?_) sl.length 0 C3 none (by omega) rfl h3
  rw [pfS_l, e1]
  show sp' 0 ||| eu' 0 = _
  rw [e4]
  show (if 0 = 0 then 0 else _) ||| _ = _
  rw [if_pos rfl, Nat.zero_or]


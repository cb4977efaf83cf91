/-! the tape, read -/
def rdA (C : qC) (A : qAt) : Prop := xI C 121 3 = nI A.2.2.2.2.length ∧ xI C 121 4 = nI A.1 ∧ xI C 121 5 = nI A.2.1 ∧ ((A.1 = 1 ∨ A.1 = 2) → xI C 121 6 = nI A.2.2.1) ∧ (A.1 = 2 → xI C 121 7 = nI A.2.2.2.1) ∧ ∀ i, i < A.2.2.2.2.length → xA C 123 i = nI (stA A.2.2.2.2 i)
def rdF (C C' : qC) : Prop := (∀ q j, ¬ (q = 121 ∧ 3 ≤ j) → xI C' q j = xI C q j) ∧ (∀ q, q ≠ 123 → xA C' q = xA C q) ∧ xM C' = xM C ∧ xL C' = xL C
theorem rdF_rf (C : qC) : rdF C C := ⟨fun _ _ _ => rfl, fun _ _ => rfl, rfl, rfl⟩
theorem rdF_tr {C C1 C2 : qC} (h : rdF C C1) (h2 : rdF C1 C2) : rdF C C2 := ⟨fun q j a => (h2.1 q j a).trans (h.1 q j a), fun q a => (h2.2.1 q a).trans (h.2.1 q a), h2.2.2.1.trans h.2.2.1, h2.2.2.2.trans h.2.2.2⟩
theorem rdF_I {C : qC} {j : Nat} {v : Int32} (hj : 3 ≤ j) : rdF C (yI C 121 j v) := ⟨fun q i h => by simp only [qxs]; rw [if_neg (fun z => h ⟨z.1, by rw [z.2]; exact hj⟩)], fun _ _ => rfl, rfl, rfl⟩
theorem rdF_A {C : qC} {f : Nat → Int32} : rdF C (yA C 123 f) := ⟨fun _ _ _ => rfl, fun q h => by simp only [qxs]; rw [if_neg h], rfl, rfl⟩
def wfA (A : qAt) : Prop := A.1 ≤ 4 ∧ A.2.1 ≤ 8 ∧ ((A.1 = 1 ∨ A.1 = 2) → A.2.2.1 < 3) ∧ (A.1 = 2 → A.2.2.2.1 < 3) ∧ (∀ x, x ∈ A.2.2.2.2 → x < 2000) ∧ (A.1 = 3 → ∃ y t, A.2.2.2.2 = y :: t ∧ y < 1900 ∧ y % 100 < 10)
def lnI (A : qAt) (p : Nat) : Prop := A.2.2.2.2.length + (if A.1 = 0 then 0 else if A.1 = 1 then 1 else 2) ≤ p
theorem wf_tk {A B : qAt} {x : Int32} {p : Nat} (hw : wfA A) (hl : lnI A p) (h : tk A x = some B) : wfA B ∧ lnI B (p + 1) := by
  obtain ⟨st, d, lt, sg, ss⟩ := A
  obtain ⟨w1, w2, w3, w4, w5, w6⟩ := hw
  simp only at w1 w2 w3 w4 w5 w6
  unfold lnI at hl
  simp only at hl
  unfold tk at h
  simp only at h
  by_cases c0 : st = 3 ∧ isDg x = true
  · rw [if_pos c0] at h
    cases h
    obtain ⟨y, t, e, hy, hy2⟩ := w6 c0.1
    have hdg := (dg_of c0.2).2
    subst e
    refine ⟨⟨by simp, w2, fun q => by simp at q, fun q => by simp at q, fun z hz => ?_, fun q => by simp at q⟩, ?_⟩
    · simp only [lng, List.mem_cons] at hz
      rcases hz with rfl | hz
      · omega
      · exact w5 z (List.mem_cons_of_mem _ hz)
    · unfold lnI
      rw [c0.1] at hl
      simp [lng] at hl ⊢
      omega
  · rw [if_neg c0] at h
    by_cases c1 : x = 32
    · rw [if_pos c1] at h
      cases h
      by_cases c2 : st = 3
      · rw [if_pos c2]
        refine ⟨⟨by simp, w2, fun q => by simp at q, fun q => by simp at q, w5, fun q => by simp at q⟩, ?_⟩
        unfold lnI
        rw [c2] at hl
        simp at hl ⊢
        omega
      · rw [if_neg c2]
        refine ⟨⟨w1, w2, w3, w4, w5, fun q => absurd q c2⟩, ?_⟩
        unfold lnI
        simp only
        omega
    · rw [if_neg c1] at h
      by_cases s0 : st = 0
      · rw [if_pos s0] at h
        rw [s0] at hl
        simp at hl
        by_cases k0 : x = 40 ∧ d < 8
        · rw [if_pos k0] at h
          cases h
          refine ⟨⟨by simp, k0.2, fun q => by simp at q, fun q => by simp at q, fun z hz => ?_, fun q => by simp at q⟩, ?_⟩
          · rcases List.mem_cons.mp hz with rfl | hz
            · omega
            · exact w5 z hz
          · unfold lnI; simp; omega
        · rw [if_neg k0] at h
          have lt1 : ∀ l, l < 3 → wfA (1, d, l, sg, ss) ∧ lnI (1, d, l, sg, ss) (p + 1) := fun l hl2 => ⟨⟨by simp, w2, fun _ => hl2, fun q => by simp at q, w5, fun q => by simp at q⟩, by unfold lnI; simp; omega⟩
          by_cases k1 : x = 116
          · rw [if_pos k1] at h; cases h; exact lt1 0 (by omega)
          · rw [if_neg k1] at h
            by_cases k2 : x = 114
            · rw [if_pos k2] at h; cases h; exact lt1 1 (by omega)
            · rw [if_neg k2] at h
              by_cases k3 : x = 98
              · rw [if_pos k3] at h; cases h; exact lt1 2 (by omega)
              · rw [if_neg k3] at h; cases h
      · rw [if_neg s0] at h
        by_cases s1 : st = 1
        · rw [if_pos s1] at h
          rw [s1] at hl
          simp at hl
          have lt1 : ∀ g, g < 3 → wfA (2, d, lt, g, ss) ∧ lnI (2, d, lt, g, ss) (p + 1) := fun g hg2 => ⟨⟨by simp, w2, fun _ => w3 (Or.inl s1), fun _ => hg2, w5, fun q => by simp at q⟩, by unfold lnI; simp; omega⟩
          by_cases k1 : x = 61
          · rw [if_pos k1] at h; cases h; exact lt1 0 (by omega)
          · rw [if_neg k1] at h
            by_cases k2 : x = 60
            · rw [if_pos k2] at h; cases h; exact lt1 1 (by omega)
            · rw [if_neg k2] at h
              by_cases k3 : x = 62
              · rw [if_pos k3] at h; cases h; exact lt1 2 (by omega)
              · rw [if_neg k3] at h; cases h
        · rw [if_neg s1] at h
          by_cases s2 : st = 2
          · rw [if_pos s2] at h
            rw [s2] at hl
            simp at hl
            by_cases k1 : isDg x = true
            · rw [if_pos k1] at h
              cases h
              have hdg := (dg_of k1).2
              have l3 := w3 (Or.inr s2)
              have g3 := w4 s2
              refine ⟨⟨by simp, w2, fun q => by simp at q, fun q => by simp at q, fun z hz => ?_, fun _ => ⟨_, _, rfl, by omega, by omega⟩⟩, ?_⟩
              · rcases List.mem_cons.mp hz with rfl | hz
                · omega
                · exact w5 z hz
              · unfold lnI; simp; omega
            · rw [if_neg k1] at h; cases h
          · rw [if_neg s2] at h
            have hl2 : ss.length + 2 ≤ p := by rw [if_neg s0, if_neg s1] at hl; exact hl
            by_cases k0 : x = 41 ∧ 0 < d
            · rw [if_pos k0] at h
              cases h
              refine ⟨⟨by simp, by show d - 1 ≤ 8; omega, fun q => by simp at q, fun q => by simp at q, fun z hz => ?_, fun q => by simp at q⟩, ?_⟩
              · rcases List.mem_cons.mp hz with rfl | hz
                · omega
                · exact w5 z hz
              · unfold lnI; simp; omega
            · rw [if_neg k0] at h
              have jn : ∀ c, c < 2000 → wfA (0, d, lt, sg, c :: ss) ∧ lnI (0, d, lt, sg, c :: ss) (p + 1) := fun c hc => ⟨⟨by simp, w2, fun q => by simp at q, fun q => by simp at q, fun z hz => by
                rcases List.mem_cons.mp hz with rfl | hz
                · exact hc
                · exact w5 z hz, fun q => by simp at q⟩, by unfold lnI; simp; omega⟩
              by_cases k1 : x = 38
              · rw [if_pos k1] at h; cases h; exact jn 38 (by omega)
              · rw [if_neg k1] at h
                by_cases k2 : x = 124
                · rw [if_pos k2] at h; cases h; exact jn 124 (by omega)
                · rw [if_neg k2] at h; cases h
set_option maxRecDepth 100000 in
set_option maxHeartbeats 4000000 in
theorem zX9_isDigit {w : qW} {x : Int32} : CT mX9_isDigit 0 0 0 [.int x] w (fun r w' => w' = w ∧ r = some (.int (qb (isDg x)))) := by
  refine eX9_isDigit (AW_gen (fun Q hQ => ?_))
  refine oX9_isDigit_0 _ _ _ _ _ _ ?_
  simp only [bX9_isDigit_0, qsem, qopt_s, qopt2_s, qev, qxs, Nat.reduceEqDiff, reduceIte, and_true, true_and, and_false, false_and, and_self, or_true, true_or, qb_or, reduceCtorEq, qbr_True, qbr_False, q10, q01, qwC]
  refine qbr_i (fun c1 => ?_) (fun c1 => ?_)
  · refine oX9_isDigit_16 _ _ _ _ _ _ ?_
    simp only [bX9_isDigit_16, qsem, qopt_s, qopt2_s, qev, qxs, Nat.reduceEqDiff, reduceIte, and_true, true_and, and_false, false_and, and_self, or_true, true_or, qb_or, reduceCtorEq, qbr_True, qbr_False, q10, q01, qwC]
    refine oX9_isDigit_17 _ _ _ _ _ _ ?_
    simp only [bX9_isDigit_17, qsem, qopt_s, qopt2_s, qev, qxs, Nat.reduceEqDiff, reduceIte, and_true, true_and, and_false, false_and, and_self, or_true, true_or, qb_or, reduceCtorEq, qbr_True, qbr_False, q10, q01, qwC]
    first | exact hQ _ _ ⟨rfl, ri (qb_1of (decide_eq_true ⟨Int32.not_lt.mp c1, Int32.not_lt.mp c2⟩))⟩ | exact hQ _ _ ⟨rfl, ri (qb_0of (decide_eq_false (fun q => absurd c1 (Int32.not_lt.mpr q.1))))⟩ | exact hQ _ _ ⟨rfl, ri (qb_0of (decide_eq_false (fun q => absurd c2 (Int32.not_lt.mpr q.2))))⟩
  · refine qbr_i (fun c2 => ?_) (fun c2 => ?_)
    · refine oX9_isDigit_16 _ _ _ _ _ _ ?_
      simp only [bX9_isDigit_16, qsem, qopt_s, qopt2_s, qev, qxs, Nat.reduceEqDiff, reduceIte, and_true, true_and, and_false, false_and, and_self, or_true, true_or, qb_or, reduceCtorEq, qbr_True, qbr_False, q10, q01, qwC]
      refine oX9_isDigit_17 _ _ _ _ _ _ ?_
      simp only [bX9_isDigit_17, qsem, qopt_s, qopt2_s, qev, qxs, Nat.reduceEqDiff, reduceIte, and_true, true_and, and_false, false_and, and_self, or_true, true_or, qb_or, reduceCtorEq, qbr_True, qbr_False, q10, q01, qwC]
      first | exact hQ _ _ ⟨rfl, ri (qb_1of (decide_eq_true ⟨Int32.not_lt.mp c1, Int32.not_lt.mp c2⟩))⟩ | exact hQ _ _ ⟨rfl, ri (qb_0of (decide_eq_false (fun q => absurd c1 (Int32.not_lt.mpr q.1))))⟩ | exact hQ _ _ ⟨rfl, ri (qb_0of (decide_eq_false (fun q => absurd c2 (Int32.not_lt.mpr q.2))))⟩
    · refine oX9_isDigit_17 _ _ _ _ _ _ ?_
      simp only [bX9_isDigit_17, qsem, qopt_s, qopt2_s, qev, qxs, Nat.reduceEqDiff, reduceIte, and_true, true_and, and_false, false_and, and_self, or_true, true_or, qb_or, reduceCtorEq, qbr_True, qbr_False, q10, q01, qwC]
      first | exact hQ _ _ ⟨rfl, ri (qb_1of (decide_eq_true ⟨Int32.not_lt.mp c1, Int32.not_lt.mp c2⟩))⟩ | exact hQ _ _ ⟨rfl, ri (qb_0of (decide_eq_false (fun q => absurd c1 (Int32.not_lt.mpr q.1))))⟩ | exact hQ _ _ ⟨rfl, ri (qb_0of (decide_eq_false (fun q => absurd c2 (Int32.not_lt.mpr q.2))))⟩
set_option maxRecDepth 100000 in
set_option maxHeartbeats 4000000 in
theorem zX9_addStep {C M : qC} {r : Nat × Nat × Nat} {k : Nat} {v : Int32} (hk : xI C 121 3 = nI k) (h : k < 100) : CT mX9_addStep 0 0 0 [.ref 121, .int v] (wd C M r) (fun r' w' => r' = none ∧ w' = wd (yI (yA C 123 (upd (xA C 123) k v)) 121 3 (nI (k + 1))) M r) := by
  refine eX9_addStep (AW_gen (fun Q hQ => ?_))
  refine oX9_addStep_0 _ _ _ _ _ _ ?_
  simp only [bX9_addStep_0, qsem, qopt_s, qopt2_s, qev, qxs, Nat.reduceEqDiff, reduceIte, and_true, true_and, and_false, false_and, and_self, or_true, true_or, qb_or, reduceCtorEq, qbr_True, qbr_False, q10, q01, qwC, hk, nIcl (show k < 1000 by omega), nI_1]
  refine qbr_f (nI_ge (b := 100) h (by omega)) ?_
  refine ⟨nI_vp h (by omega), ?_⟩
  refine oX9_addStep_29 _ _ _ _ _ _ ?_
  simp only [bX9_addStep_29, qsem, qopt_s, qopt2_s, qev, qxs, Nat.reduceEqDiff, reduceIte, and_true, true_and, and_false, false_and, and_self, or_true, true_or, qb_or, reduceCtorEq, qbr_True, qbr_False, q10, q01, qwC, hk, nIcl (show k < 1000 by omega), nI_1]
  exact hQ _ _ ⟨rfl, rfl⟩
set_option maxRecDepth 100000 in
set_option maxHeartbeats 4000000 in
theorem zX9_lengthenNumber {C M : qC} {r : Nat × Nat × Nat} {k y g : Nat} (hk : xI C 121 3 = nI (k + 1)) (h : k < 100) (hy : xA C 123 k = nI y) (hy2 : y < 2000) (hg : g < 10) : CT mX9_lengthenNumber 0 0 0 [.ref 121, .int (nI g)] (wd C M r) (fun r' w' => r' = none ∧ w' = wd (yA C 123 (upd (xA C 123) k (nI (y + 9 * (y % 100) + g)))) M r) := by
  have e1 : nI y - nI y / 100 * 100 = nI (y % 100) := pk_rem (d := 100) (by omega) (by omega) (by omega)
  have e2 : (9 : Int32) * nI (y % 100) = nI (9 * (y % 100)) := pk_mul 9 _
  have e3 : y + (9 * (y % 100) + g) = y + 9 * (y % 100) + g := by omega
  refine eX9_lengthenNumber (AW_gen (fun Q hQ => ?_))
  refine oX9_lengthenNumber_0 _ _ _ _ _ _ ?_
  simp only [bX9_lengthenNumber_0, qsem, qopt_s, qopt2_s, qev, qxs, Nat.reduceEqDiff, reduceIte, and_true, true_and, and_false, false_and, and_self, or_true, true_or, qb_or, reduceCtorEq, qbr_True, qbr_False, q10, q01, qwC, hk, nIs1, nIcl (show k < 1000 by omega), hy, e1, e2, nadd, e3, q100]
  refine qbr_f (nI_nle (by omega) (by omega)) ?_
  refine qbr_f (nI_nlt (b := k + 1) (a := 100) (by omega) (by omega)) ?_
  refine ⟨nI_vp (by omega) (by omega), ?_⟩
  refine ⟨by decide, ?_⟩
  refine ⟨nI_vp (by omega) (by omega), ?_⟩
  refine ⟨nI_vp (by omega) (by omega), ?_⟩
  refine oX9_lengthenNumber_51 _ _ _ _ _ _ ?_
  simp only [bX9_lengthenNumber_51, qsem, qopt_s, qopt2_s, qev, qxs, Nat.reduceEqDiff, reduceIte, and_true, true_and, and_false, false_and, and_self, or_true, true_or, qb_or, reduceCtorEq, qbr_True, qbr_False, q10, q01, qwC, hk, nIs1, nIcl (show k < 1000 by omega), hy, e1, e2, nadd, e3, q100]
  exact hQ _ _ ⟨rfl, rfl⟩
set_option maxRecDepth 100000 in
set_option maxHeartbeats 4000000 in
theorem zX6_test {w : qW} {l g n : Int32} : CT mX6_test 0 0 0 [.int l, .int g, .int n] w (fun r w' => w' = w ∧ r = some (.int (1000 + l * 300 + g * 100 + n))) := by
  refine eX6_test (AW_gen (fun Q hQ => ?_))
  refine oX6_test_0 _ _ _ _ _ _ ?_
  simp only [bX6_test_0, qsem, qopt_s, qopt2_s, qev, qxs, Nat.reduceEqDiff, reduceIte, and_true, true_and, and_false, false_and, and_self, or_true, true_or, qb_or, reduceCtorEq, qbr_True, qbr_False, q10, q01, qwC]
  exact hQ _ _ ⟨rfl, rfl⟩
/-- a step more -/
theorem rdA_add {C : qC} {A : qAt} {st d lt sg : Nat} {ss : List Nat} {c : Nat} (h3 : xI C 121 3 = nI ss.length) (h4 : xI C 121 4 = nI st) (h5 : xI C 121 5 = nI d) (h6 : (st = 1 ∨ st = 2) → xI C 121 6 = nI lt) (h7 : st = 2 → xI C 121 7 = nI sg) (hA : ∀ i, i < ss.length → xA C 123 i = nI (stA ss i)) : rdA (yI (yA C 123 (upd (xA C 123) ss.length (nI c))) 121 3 (nI (ss.length + 1))) (st, d, lt, sg, c :: ss) := by
  refine ⟨rfl, h4, h5, h6, h7, fun i hi => ?_⟩
  show upd (xA C 123) ss.length (nI c) i = nI (if i = ss.length then c else stA ss i)
  simp only [List.length_cons] at hi
  by_cases e : i = ss.length
  · rw [e, pk_us, if_pos rfl]
  · rw [pk_un e, if_neg e]; exact hA i (by omega)
def tkP (C M : qC) (r : Nat × Nat × Nat) (A : qAt) (x : Int32) (r' : Option Value) (w' : qW) : Prop := ∃ C', w' = wd C' M r ∧ rdF C C' ∧ ((∃ B, tk A x = some B ∧ r' = some (.int 1) ∧ rdA C' B) ∨ (tk A x = none ∧ r' = some (.int 0)))
set_option maxRecDepth 100000 in
set_option maxHeartbeats 4000000 in
theorem zX9_takeUnit {C M : qC} {r : Nat × Nat × Nat} {d lt sg : Nat} {ss : List Nat} {x : Int32} (hA : rdA C (0, d, lt, sg, ss)) (hw : wfA (0, d, lt, sg, ss)) (hl : ss.length < 100) (hx : ¬ x = 32) : CT mX9_takeUnit 1 0 0 [.ref 121, .int x] (wd C M r) (tkP C M r (0, d, lt, sg, ss) x) := by
  obtain ⟨a3, a4, a5, -, -, a8⟩ := hA
  simp only at a3 a4 a5 a8
  have d8 : d ≤ 8 := hw.2.1
  have e8 : ((8 : Int32) ≤ nI d) = (8 ≤ d) := nIle (a := 8) (by omega) (by omega)
  refine eX9_takeUnit (AW_gen (fun Q hQ => ?_))
  have lett : ∀ l : Nat, l < 3 → tk (0, d, lt, sg, ss) x = some (1, d, l, sg, ss) → AW (mX9_takeUnit, 1, 0, 0, none, Q) 64 [some (.ref 121), some (.int x)] [.int (nI l), .ref 121] (wd C M r) 0 0 := by
    intro l hl2 e
    refine oX9_takeUnit_64 _ _ _ _ _ _ ?_
    simp only [bX9_takeUnit_64, qsem, qopt_s, qopt2_s, qev, qxs, Nat.reduceEqDiff, reduceIte, and_true, true_and, and_false, false_and, and_self, or_true, true_or, qb_or, reduceCtorEq, qbr_True, qbr_False, q10, q01, qwC]
    refine qbr_f (i_nm1 (by omega)) ?_
    refine oX9_takeUnit_85 _ _ _ _ _ _ ?_
    simp only [bX9_takeUnit_85, qsem, qopt_s, qopt2_s, qev, qxs, Nat.reduceEqDiff, reduceIte, and_true, true_and, and_false, false_and, and_self, or_true, true_or, qb_or, reduceCtorEq, qbr_True, qbr_False, q10, q01, qwC]
    exact hQ _ _ ⟨_, rfl, rdF_tr (rdF_I (j := 6) (by omega)) (rdF_I (j := 4) (by omega)), Or.inl ⟨_, e, rfl, a3, rfl, a5, fun _ => rfl, fun q => by simp at q, a8⟩⟩
  have at32 : ¬ (x = 40 ∧ d < 8) → AW (mX9_takeUnit, 1, 0, 0, none, Q) 32 [some (.ref 121), some (.int x)] [] (wd C M r) 0 0 := by
    intro hn
    by_cases k1 : x = 116
    · subst k1
      refine oX9_takeUnit_32 _ _ _ _ _ _ ?_
      simp only [bX9_takeUnit_32, qsem, qopt_s, qopt2_s, qev, qxs, Nat.reduceEqDiff, reduceIte, and_true, true_and, and_false, false_and, and_self, or_true, true_or, qb_or, reduceCtorEq, qbr_True, qbr_False, q10, q01, qwC]
      exact lett 0 (by omega) (tk0_l (l := 0))
    · by_cases k2 : x = 114
      · subst k2
        refine oX9_takeUnit_32 _ _ _ _ _ _ ?_
        simp only [bX9_takeUnit_32, qsem, qopt_s, qopt2_s, qev, qxs, Nat.reduceEqDiff, reduceIte, and_true, true_and, and_false, false_and, and_self, or_true, true_or, qb_or, reduceCtorEq, qbr_True, qbr_False, q10, q01, qwC]
        refine qbr_f ((by decide)) ?_
        refine oX9_takeUnit_43 _ _ _ _ _ _ ?_
        simp only [bX9_takeUnit_43, qsem, qopt_s, qopt2_s, qev, qxs, Nat.reduceEqDiff, reduceIte, and_true, true_and, and_false, false_and, and_self, or_true, true_or, qb_or, reduceCtorEq, qbr_True, qbr_False, q10, q01, qwC]
        exact lett 1 (by omega) (tk0_l (l := 1))
      · by_cases k3 : x = 98
        · subst k3
          refine oX9_takeUnit_32 _ _ _ _ _ _ ?_
          simp only [bX9_takeUnit_32, qsem, qopt_s, qopt2_s, qev, qxs, Nat.reduceEqDiff, reduceIte, and_true, true_and, and_false, false_and, and_self, or_true, true_or, qb_or, reduceCtorEq, qbr_True, qbr_False, q10, q01, qwC]
          refine qbr_f ((by decide)) ?_
          refine oX9_takeUnit_43 _ _ _ _ _ _ ?_
          simp only [bX9_takeUnit_43, qsem, qopt_s, qopt2_s, qev, qxs, Nat.reduceEqDiff, reduceIte, and_true, true_and, and_false, false_and, and_self, or_true, true_or, qb_or, reduceCtorEq, qbr_True, qbr_False, q10, q01, qwC]
          refine qbr_f ((by decide)) ?_
          refine oX9_takeUnit_53 _ _ _ _ _ _ ?_
          simp only [bX9_takeUnit_53, qsem, qopt_s, qopt2_s, qev, qxs, Nat.reduceEqDiff, reduceIte, and_true, true_and, and_false, false_and, and_self, or_true, true_or, qb_or, reduceCtorEq, qbr_True, qbr_False, q10, q01, qwC]
          exact lett 2 (by omega) (tk0_l (l := 2))
        · refine oX9_takeUnit_32 _ _ _ _ _ _ ?_
          simp only [bX9_takeUnit_32, qsem, qopt_s, qopt2_s, qev, qxs, Nat.reduceEqDiff, reduceIte, and_true, true_and, and_false, false_and, and_self, or_true, true_or, qb_or, reduceCtorEq, qbr_True, qbr_False, q10, q01, qwC]
          refine qbr_f (k1) ?_
          refine oX9_takeUnit_43 _ _ _ _ _ _ ?_
          simp only [bX9_takeUnit_43, qsem, qopt_s, qopt2_s, qev, qxs, Nat.reduceEqDiff, reduceIte, and_true, true_and, and_false, false_and, and_self, or_true, true_or, qb_or, reduceCtorEq, qbr_True, qbr_False, q10, q01, qwC]
          refine qbr_f (k2) ?_
          refine oX9_takeUnit_53 _ _ _ _ _ _ ?_
          simp only [bX9_takeUnit_53, qsem, qopt_s, qopt2_s, qev, qxs, Nat.reduceEqDiff, reduceIte, and_true, true_and, and_false, false_and, and_self, or_true, true_or, qb_or, reduceCtorEq, qbr_True, qbr_False, q10, q01, qwC]
          refine qbr_f (k3) ?_
          refine oX9_takeUnit_63 _ _ _ _ _ _ ?_
          simp only [bX9_takeUnit_63, qsem, qopt_s, qopt2_s, qev, qxs, Nat.reduceEqDiff, reduceIte, and_true, true_and, and_false, false_and, and_self, or_true, true_or, qb_or, reduceCtorEq, qbr_True, qbr_False, q10, q01, qwC]
          refine oX9_takeUnit_64 _ _ _ _ _ _ ?_
          simp only [bX9_takeUnit_64, qsem, qopt_s, qopt2_s, qev, qxs, Nat.reduceEqDiff, reduceIte, and_true, true_and, and_false, false_and, and_self, or_true, true_or, qb_or, reduceCtorEq, qbr_True, qbr_False, q10, q01, qwC]
          refine oX9_takeUnit_84 _ _ _ _ _ _ ?_
          simp only [bX9_takeUnit_84, qsem, qopt_s, qopt2_s, qev, qxs, Nat.reduceEqDiff, reduceIte, and_true, true_and, and_false, false_and, and_self, or_true, true_or, qb_or, reduceCtorEq, qbr_True, qbr_False, q10, q01, qwC]
          refine oX9_takeUnit_85 _ _ _ _ _ _ ?_
          simp only [bX9_takeUnit_85, qsem, qopt_s, qopt2_s, qev, qxs, Nat.reduceEqDiff, reduceIte, and_true, true_and, and_false, false_and, and_self, or_true, true_or, qb_or, reduceCtorEq, qbr_True, qbr_False, q10, q01, qwC]
          exact hQ _ _ ⟨_, rfl, rdF_tr (rdF_I (j := 6) (by omega)) (rdF_I (j := 4) (by omega)), Or.inr ⟨tk0_no hx hn k1 k2 k3, rfl⟩⟩
  by_cases h40 : x = 40
  · subst h40
    by_cases hd : d < 8
    · have e : tk (0, d, lt, sg, ss) 40 = some (0, d + 1, lt, sg, 40 :: ss) := by unfold tk; simp [hd, show isDg 40 = false from by decide]
      have hadd := zX9_addStep (C := yI C 121 5 (nI (d + 1))) (M := M) (r := r) (v := 40) a3 hl
      refine oX9_takeUnit_0 _ _ _ _ _ _ ?_
      simp only [bX9_takeUnit_0, qsem, qopt_s, qopt2_s, qev, qxs, Nat.reduceEqDiff, reduceIte, and_true, true_and, and_false, false_and, and_self, or_true, true_or, qb_or, reduceCtorEq, qbr_True, qbr_False, q10, q01, qwC, a5, e8, nI_1]
      refine qbr_f ((by omega)) ?_
      refine kX9_takeUnit_27 (hadd) (rfl) (Nat.le_of_ble_eq_true rfl) (Nat.le_of_ble_eq_true rfl) ⟨Nat.le_of_ble_eq_true rfl, Nat.le_of_ble_eq_true rfl⟩ ?_
      rintro _ _ ⟨rfl, rfl⟩
      refine oX9_takeUnit_30 _ _ _ _ _ _ ?_
      simp only [bX9_takeUnit_30, qsem, qopt_s, qopt2_s, qev, qxs, Nat.reduceEqDiff, reduceIte, and_true, true_and, and_false, false_and, and_self, or_true, true_or, qb_or, reduceCtorEq, qbr_True, qbr_False, q10, q01, qwC, a5, e8, nI_1]
      exact hQ _ _ ⟨_, rfl, rdF_tr (rdF_I (j := 5) (by omega)) (rdF_tr rdF_A (rdF_I (j := 3) (by omega))), Or.inl ⟨_, e, rfl, rdA_add (A := (0, d, lt, sg, ss)) (c := 40) a3 a4 rfl (fun q => by simp at q) (fun q => by simp at q) a8⟩⟩
    · refine oX9_takeUnit_0 _ _ _ _ _ _ ?_
      simp only [bX9_takeUnit_0, qsem, qopt_s, qopt2_s, qev, qxs, Nat.reduceEqDiff, reduceIte, and_true, true_and, and_false, false_and, and_self, or_true, true_or, qb_or, reduceCtorEq, qbr_True, qbr_False, q10, q01, qwC, a5, e8]
      refine qbr_t ((by omega)) ?_
      exact at32 (fun q => hd q.2)
  · refine oX9_takeUnit_0 _ _ _ _ _ _ ?_
    simp only [bX9_takeUnit_0, qsem, qopt_s, qopt2_s, qev, qxs, Nat.reduceEqDiff, reduceIte, and_true, true_and, and_false, false_and, and_self, or_true, true_or, qb_or, reduceCtorEq, qbr_True, qbr_False, q10, q01, qwC]
    refine qbr_f (h40) ?_
    exact at32 (fun q => h40 q.1)
set_option maxRecDepth 100000 in
set_option maxHeartbeats 4000000 in
theorem zX9_takeSign {C M : qC} {r : Nat × Nat × Nat} {d lt sg : Nat} {ss : List Nat} {x : Int32} (hA : rdA C (1, d, lt, sg, ss)) (hx : ¬ x = 32) : CT mX9_takeSign 1 0 0 [.ref 121, .int x] (wd C M r) (tkP C M r (1, d, lt, sg, ss) x) := by
  obtain ⟨a3, a4, a5, a6, -, a8⟩ := hA
  simp only at a3 a4 a5 a8
  refine eX9_takeSign (AW_gen (fun Q hQ => ?_))
  have sgn : ∀ l : Nat, l < 3 → tk (1, d, lt, sg, ss) x = some (2, d, lt, l, ss) → AW (mX9_takeSign, 1, 0, 0, none, Q) 32 [some (.ref 121), some (.int x)] [.int (nI l), .ref 121] (wd C M r) 0 0 := by
    intro l hl2 e
    refine oX9_takeSign_32 _ _ _ _ _ _ ?_
    simp only [bX9_takeSign_32, qsem, qopt_s, qopt2_s, qev, qxs, Nat.reduceEqDiff, reduceIte, and_true, true_and, and_false, false_and, and_self, or_true, true_or, qb_or, reduceCtorEq, qbr_True, qbr_False, q10, q01, qwC]
    refine qbr_f (i_nm1 (by omega)) ?_
    refine oX9_takeSign_53 _ _ _ _ _ _ ?_
    simp only [bX9_takeSign_53, qsem, qopt_s, qopt2_s, qev, qxs, Nat.reduceEqDiff, reduceIte, and_true, true_and, and_false, false_and, and_self, or_true, true_or, qb_or, reduceCtorEq, qbr_True, qbr_False, q10, q01, qwC]
    exact hQ _ _ ⟨_, rfl, rdF_tr (rdF_I (j := 7) (by omega)) (rdF_I (j := 4) (by omega)), Or.inl ⟨_, e, rfl, a3, rfl, a5, fun _ => a6 (Or.inl rfl), fun _ => rfl, a8⟩⟩
  by_cases k1 : x = 61
  · subst k1
    refine oX9_takeSign_0 _ _ _ _ _ _ ?_
    simp only [bX9_takeSign_0, qsem, qopt_s, qopt2_s, qev, qxs, Nat.reduceEqDiff, reduceIte, and_true, true_and, and_false, false_and, and_self, or_true, true_or, qb_or, reduceCtorEq, qbr_True, qbr_False, q10, q01, qwC]
    exact sgn 0 (by omega) (tk1_s (g := 0))
  · by_cases k2 : x = 60
    · subst k2
      refine oX9_takeSign_0 _ _ _ _ _ _ ?_
      simp only [bX9_takeSign_0, qsem, qopt_s, qopt2_s, qev, qxs, Nat.reduceEqDiff, reduceIte, and_true, true_and, and_false, false_and, and_self, or_true, true_or, qb_or, reduceCtorEq, qbr_True, qbr_False, q10, q01, qwC]
      refine qbr_f ((by decide)) ?_
      refine oX9_takeSign_11 _ _ _ _ _ _ ?_
      simp only [bX9_takeSign_11, qsem, qopt_s, qopt2_s, qev, qxs, Nat.reduceEqDiff, reduceIte, and_true, true_and, and_false, false_and, and_self, or_true, true_or, qb_or, reduceCtorEq, qbr_True, qbr_False, q10, q01, qwC]
      exact sgn 1 (by omega) (tk1_s (g := 1))
    · by_cases k3 : x = 62
      · subst k3
        refine oX9_takeSign_0 _ _ _ _ _ _ ?_
        simp only [bX9_takeSign_0, qsem, qopt_s, qopt2_s, qev, qxs, Nat.reduceEqDiff, reduceIte, and_true, true_and, and_false, false_and, and_self, or_true, true_or, qb_or, reduceCtorEq, qbr_True, qbr_False, q10, q01, qwC]
        refine qbr_f ((by decide)) ?_
        refine oX9_takeSign_11 _ _ _ _ _ _ ?_
        simp only [bX9_takeSign_11, qsem, qopt_s, qopt2_s, qev, qxs, Nat.reduceEqDiff, reduceIte, and_true, true_and, and_false, false_and, and_self, or_true, true_or, qb_or, reduceCtorEq, qbr_True, qbr_False, q10, q01, qwC]
        refine qbr_f ((by decide)) ?_
        refine oX9_takeSign_21 _ _ _ _ _ _ ?_
        simp only [bX9_takeSign_21, qsem, qopt_s, qopt2_s, qev, qxs, Nat.reduceEqDiff, reduceIte, and_true, true_and, and_false, false_and, and_self, or_true, true_or, qb_or, reduceCtorEq, qbr_True, qbr_False, q10, q01, qwC]
        exact sgn 2 (by omega) (tk1_s (g := 2))
      · refine oX9_takeSign_0 _ _ _ _ _ _ ?_
        simp only [bX9_takeSign_0, qsem, qopt_s, qopt2_s, qev, qxs, Nat.reduceEqDiff, reduceIte, and_true, true_and, and_false, false_and, and_self, or_true, true_or, qb_or, reduceCtorEq, qbr_True, qbr_False, q10, q01, qwC]
        refine qbr_f (k1) ?_
        refine oX9_takeSign_11 _ _ _ _ _ _ ?_
        simp only [bX9_takeSign_11, qsem, qopt_s, qopt2_s, qev, qxs, Nat.reduceEqDiff, reduceIte, and_true, true_and, and_false, false_and, and_self, or_true, true_or, qb_or, reduceCtorEq, qbr_True, qbr_False, q10, q01, qwC]
        refine qbr_f (k2) ?_
        refine oX9_takeSign_21 _ _ _ _ _ _ ?_
        simp only [bX9_takeSign_21, qsem, qopt_s, qopt2_s, qev, qxs, Nat.reduceEqDiff, reduceIte, and_true, true_and, and_false, false_and, and_self, or_true, true_or, qb_or, reduceCtorEq, qbr_True, qbr_False, q10, q01, qwC]
        refine qbr_f (k3) ?_
        refine oX9_takeSign_31 _ _ _ _ _ _ ?_
        simp only [bX9_takeSign_31, qsem, qopt_s, qopt2_s, qev, qxs, Nat.reduceEqDiff, reduceIte, and_true, true_and, and_false, false_and, and_self, or_true, true_or, qb_or, reduceCtorEq, qbr_True, qbr_False, q10, q01, qwC]
        refine oX9_takeSign_32 _ _ _ _ _ _ ?_
        simp only [bX9_takeSign_32, qsem, qopt_s, qopt2_s, qev, qxs, Nat.reduceEqDiff, reduceIte, and_true, true_and, and_false, false_and, and_self, or_true, true_or, qb_or, reduceCtorEq, qbr_True, qbr_False, q10, q01, qwC]
        refine oX9_takeSign_52 _ _ _ _ _ _ ?_
        simp only [bX9_takeSign_52, qsem, qopt_s, qopt2_s, qev, qxs, Nat.reduceEqDiff, reduceIte, and_true, true_and, and_false, false_and, and_self, or_true, true_or, qb_or, reduceCtorEq, qbr_True, qbr_False, q10, q01, qwC]
        refine oX9_takeSign_53 _ _ _ _ _ _ ?_
        simp only [bX9_takeSign_53, qsem, qopt_s, qopt2_s, qev, qxs, Nat.reduceEqDiff, reduceIte, and_true, true_and, and_false, false_and, and_self, or_true, true_or, qb_or, reduceCtorEq, qbr_True, qbr_False, q10, q01, qwC]
        exact hQ _ _ ⟨_, rfl, rdF_tr (rdF_I (j := 7) (by omega)) (rdF_I (j := 4) (by omega)), Or.inr ⟨tk1_no hx k1 k2 k3, rfl⟩⟩
set_option maxRecDepth 100000 in
set_option maxHeartbeats 4000000 in
theorem zX9_takeDigit {C M : qC} {r : Nat × Nat × Nat} {d lt sg : Nat} {ss : List Nat} {x : Int32} (hA : rdA C (2, d, lt, sg, ss)) (hw : wfA (2, d, lt, sg, ss)) (hl : ss.length < 100) (hx : ¬ x = 32) : CT mX9_takeDigit 1 0 0 [.ref 121, .int x] (wd C M r) (tkP C M r (2, d, lt, sg, ss) x) := by
  obtain ⟨a3, a4, a5, a6, a7, a8⟩ := hA
  simp only at a3 a4 a5 a8
  have b6 := a6 (Or.inr rfl)
  have b7 := a7 rfl
  refine eX9_takeDigit (AW_gen (fun Q hQ => ?_))
  by_cases hd : isDg x = true
  · obtain ⟨ex, hd10⟩ := dg_of hd
    have e := tk2_d (d := d) (lt := lt) (sg := sg) (ss := ss) hd
    have ev : (1000 : Int32) + nI lt * 300 + nI sg * 100 + (x - 48) = nI (1000 + 300 * lt + 100 * sg + dgN x) := by
      rw [show x - 48 = nI (dgN x) by rw [show x - 48 = nI (48 + dgN x) - 48 by rw [← ex], show (48 : Int32) = nI 48 from rfl, pk_sub (by omega)]; congr 1; omega, show (300 : Int32) = nI 300 from rfl, show (100 : Int32) = nI 100 from rfl, show (1000 : Int32) = nI 1000 from rfl, pk_mul, pk_mul, nadd, nadd, nadd]
      congr 1
      omega
    have hadd := zX9_addStep (C := C) (M := M) (r := r) (v := nI (1000 + 300 * lt + 100 * sg + dgN x)) a3 hl
    refine oX9_takeDigit_0 _ _ _ _ _ _ ?_
    simp only [bX9_takeDigit_0, qsem, qopt_s, qopt2_s, qev, qxs, Nat.reduceEqDiff, reduceIte, and_true, true_and, and_false, false_and, and_self, or_true, true_or, qb_or, reduceCtorEq, qbr_True, qbr_False, q10, q01, qwC, hd, qb_t, b6, b7]
    refine kX9_takeDigit_1 (zX9_isDigit) (Nat.le_of_ble_eq_true rfl) (Nat.le_of_ble_eq_true rfl) ⟨Nat.le_of_ble_eq_true rfl, Nat.le_of_ble_eq_true rfl⟩ ?_
    rintro _ _ ⟨rfl, rfl⟩
    refine oX9_takeDigit_4 _ _ _ _ _ _ ?_
    simp only [bX9_takeDigit_4, qsem, qopt_s, qopt2_s, qev, qxs, Nat.reduceEqDiff, reduceIte, and_true, true_and, and_false, false_and, and_self, or_true, true_or, qb_or, reduceCtorEq, qbr_True, qbr_False, q10, q01, qwC, hd, qb_t, b6, b7]
    refine oX9_takeDigit_9 _ _ _ _ _ _ ?_
    simp only [bX9_takeDigit_9, qsem, qopt_s, qopt2_s, qev, qxs, Nat.reduceEqDiff, reduceIte, and_true, true_and, and_false, false_and, and_self, or_true, true_or, qb_or, reduceCtorEq, qbr_True, qbr_False, q10, q01, qwC, hd, qb_t, b6, b7]
    refine kX9_takeDigit_22 (zX6_test) (Nat.le_of_ble_eq_true rfl) (Nat.le_of_ble_eq_true rfl) ⟨Nat.le_of_ble_eq_true rfl, Nat.le_of_ble_eq_true rfl⟩ ?_
    rintro _ _ ⟨rfl, rfl⟩
    rw [ev]
    simp only [Option.toList_some, List.cons_append, List.nil_append]
    refine kX9_takeDigit_25 (hadd) (rfl) (Nat.le_of_ble_eq_true rfl) (Nat.le_of_ble_eq_true rfl) ⟨Nat.le_of_ble_eq_true rfl, Nat.le_of_ble_eq_true rfl⟩ ?_
    rintro _ _ ⟨rfl, rfl⟩
    refine oX9_takeDigit_28 _ _ _ _ _ _ ?_
    simp only [bX9_takeDigit_28, qsem, qopt_s, qopt2_s, qev, qxs, Nat.reduceEqDiff, reduceIte, and_true, true_and, and_false, false_and, and_self, or_true, true_or, qb_or, reduceCtorEq, qbr_True, qbr_False, q10, q01, qwC, hd, qb_t, b6, b7]
    refine hQ _ _ ⟨_, rfl, rdF_tr (rdF_tr rdF_A (rdF_I (j := 3) (by omega))) (rdF_I (j := 4) (by omega)), Or.inl ⟨_, e, rfl, ?_⟩⟩
    have := rdA_add (A := (2, d, lt, sg, ss)) (c := 1000 + 300 * lt + 100 * sg + dgN x) a3 a4 a5 (fun q => a6 q) (fun q => a7 q) a8
    exact ⟨this.1, rfl, this.2.2.1, fun q => by simp at q, fun q => by simp at q, this.2.2.2.2.2⟩
  · have hd : isDg x = false := (Bool.not_eq_true _).mp hd
    refine oX9_takeDigit_0 _ _ _ _ _ _ ?_
    simp only [bX9_takeDigit_0, qsem, qopt_s, qopt2_s, qev, qxs, Nat.reduceEqDiff, reduceIte, and_true, true_and, and_false, false_and, and_self, or_true, true_or, qb_or, reduceCtorEq, qbr_True, qbr_False, q10, q01, qwC, hd, qb_f]
    refine kX9_takeDigit_1 (zX9_isDigit) (Nat.le_of_ble_eq_true rfl) (Nat.le_of_ble_eq_true rfl) ⟨Nat.le_of_ble_eq_true rfl, Nat.le_of_ble_eq_true rfl⟩ ?_
    rintro _ _ ⟨rfl, rfl⟩
    refine oX9_takeDigit_4 _ _ _ _ _ _ ?_
    simp only [bX9_takeDigit_4, qsem, qopt_s, qopt2_s, qev, qxs, Nat.reduceEqDiff, reduceIte, and_true, true_and, and_false, false_and, and_self, or_true, true_or, qb_or, reduceCtorEq, qbr_True, qbr_False, q10, q01, qwC, hd, qb_f]
    exact hQ _ _ ⟨C, rfl, rdF_rf C, Or.inr ⟨tk2_no hx hd, rfl⟩⟩
set_option maxRecDepth 100000 in
set_option maxHeartbeats 4000000 in
theorem zX9_takeJoin {C M : qC} {r : Nat × Nat × Nat} {d lt sg : Nat} {ss : List Nat} {x : Int32} (hA : rdA C (4, d, lt, sg, ss)) (hw : wfA (4, d, lt, sg, ss)) (hl : ss.length < 100) (hx : ¬ x = 32) : CT mX9_takeJoin 1 0 0 [.ref 121, .int x] (wd C M r) (tkP C M r (4, d, lt, sg, ss) x) := by
  obtain ⟨a3, a4, a5, -, -, a8⟩ := hA
  simp only at a3 a4 a5 a8
  have d8 : d ≤ 8 := hw.2.1
  have e0 : (nI d ≤ (0 : Int32)) = (d ≤ 0) := nIle (b := 0) (by omega) (by omega)
  have etk : tk (4, d, lt, sg, ss) x = if x = 41 ∧ 0 < d then some (4, d - 1, lt, sg, 41 :: ss) else if x = 38 then some (0, d, lt, sg, 38 :: ss) else if x = 124 then some (0, d, lt, sg, 124 :: ss) else none := by unfold tk; simp [hx]
  unfold tkP
  rw [etk]
  refine eX9_takeJoin (AW_gen (fun Q hQ => ?_))
  have at26 : ¬ (x = 41 ∧ 0 < d) → AW (mX9_takeJoin, 1, 0, 0, none, Q) 26 [some (.ref 121), some (.int x)] [] (wd C M r) 0 0 := by
    intro hn
    rw [if_neg hn] at hQ
    by_cases k1 : x = 38
    · subst k1
      have hadd := zX9_addStep (C := yI C 121 4 0) (M := M) (r := r) (v := 38) a3 hl
      refine oX9_takeJoin_26 _ _ _ _ _ _ ?_
      simp only [bX9_takeJoin_26, qsem, qopt_s, qopt2_s, qev, qxs, Nat.reduceEqDiff, reduceIte, and_true, true_and, and_false, false_and, and_self, or_true, true_or, qb_or, reduceCtorEq, qbr_True, qbr_False, q10, q01, qwC]
      refine oX9_takeJoin_38 _ _ _ _ _ _ ?_
      simp only [bX9_takeJoin_38, qsem, qopt_s, qopt2_s, qev, qxs, Nat.reduceEqDiff, reduceIte, and_true, true_and, and_false, false_and, and_self, or_true, true_or, qb_or, reduceCtorEq, qbr_True, qbr_False, q10, q01, qwC]
      refine oX9_takeJoin_48 _ _ _ _ _ _ ?_
      simp only [bX9_takeJoin_48, qsem, qopt_s, qopt2_s, qev, qxs, Nat.reduceEqDiff, reduceIte, and_true, true_and, and_false, false_and, and_self, or_true, true_or, qb_or, reduceCtorEq, qbr_True, qbr_False, q10, q01, qwC]
      refine kX9_takeJoin_50 (hadd) (rfl) (Nat.le_of_ble_eq_true rfl) (Nat.le_of_ble_eq_true rfl) ⟨Nat.le_of_ble_eq_true rfl, Nat.le_of_ble_eq_true rfl⟩ ?_
      rintro _ _ ⟨rfl, rfl⟩
      refine oX9_takeJoin_53 _ _ _ _ _ _ ?_
      simp only [bX9_takeJoin_53, qsem, qopt_s, qopt2_s, qev, qxs, Nat.reduceEqDiff, reduceIte, and_true, true_and, and_false, false_and, and_self, or_true, true_or, qb_or, reduceCtorEq, qbr_True, qbr_False, q10, q01, qwC]
      exact hQ _ _ ⟨_, rfl, rdF_tr (rdF_I (j := 4) (by omega)) (rdF_tr rdF_A (rdF_I (j := 3) (by omega))), Or.inl ⟨_, rfl, rfl, rdA_add (A := (0, d, lt, sg, ss)) (c := 38) a3 rfl a5 (fun q => by simp at q) (fun q => by simp at q) a8⟩⟩
    · rw [if_neg k1] at hQ
      by_cases k2 : x = 124
      · subst k2
        have hadd := zX9_addStep (C := yI C 121 4 0) (M := M) (r := r) (v := 124) a3 hl
        refine oX9_takeJoin_26 _ _ _ _ _ _ ?_
        simp only [bX9_takeJoin_26, qsem, qopt_s, qopt2_s, qev, qxs, Nat.reduceEqDiff, reduceIte, and_true, true_and, and_false, false_and, and_self, or_true, true_or, qb_or, reduceCtorEq, qbr_True, qbr_False, q10, q01, qwC]
        refine qbr_f ((by decide)) ?_
        refine oX9_takeJoin_38 _ _ _ _ _ _ ?_
        simp only [bX9_takeJoin_38, qsem, qopt_s, qopt2_s, qev, qxs, Nat.reduceEqDiff, reduceIte, and_true, true_and, and_false, false_and, and_self, or_true, true_or, qb_or, reduceCtorEq, qbr_True, qbr_False, q10, q01, qwC]
        refine oX9_takeJoin_48 _ _ _ _ _ _ ?_
        simp only [bX9_takeJoin_48, qsem, qopt_s, qopt2_s, qev, qxs, Nat.reduceEqDiff, reduceIte, and_true, true_and, and_false, false_and, and_self, or_true, true_or, qb_or, reduceCtorEq, qbr_True, qbr_False, q10, q01, qwC]
        refine kX9_takeJoin_50 (hadd) (rfl) (Nat.le_of_ble_eq_true rfl) (Nat.le_of_ble_eq_true rfl) ⟨Nat.le_of_ble_eq_true rfl, Nat.le_of_ble_eq_true rfl⟩ ?_
        rintro _ _ ⟨rfl, rfl⟩
        refine oX9_takeJoin_53 _ _ _ _ _ _ ?_
        simp only [bX9_takeJoin_53, qsem, qopt_s, qopt2_s, qev, qxs, Nat.reduceEqDiff, reduceIte, and_true, true_and, and_false, false_and, and_self, or_true, true_or, qb_or, reduceCtorEq, qbr_True, qbr_False, q10, q01, qwC]
        exact hQ _ _ ⟨_, rfl, rdF_tr (rdF_I (j := 4) (by omega)) (rdF_tr rdF_A (rdF_I (j := 3) (by omega))), Or.inl ⟨_, rfl, rfl, rdA_add (A := (0, d, lt, sg, ss)) (c := 124) a3 rfl a5 (fun q => by simp at q) (fun q => by simp at q) a8⟩⟩
      · rw [if_neg k2] at hQ
        refine oX9_takeJoin_26 _ _ _ _ _ _ ?_
        simp only [bX9_takeJoin_26, qsem, qopt_s, qopt2_s, qev, qxs, Nat.reduceEqDiff, reduceIte, and_true, true_and, and_false, false_and, and_self, or_true, true_or, qb_or, reduceCtorEq, qbr_True, qbr_False, q10, q01, qwC]
        refine qbr_f (k1) ?_
        refine qbr_f (k2) ?_
        refine oX9_takeJoin_46 _ _ _ _ _ _ ?_
        simp only [bX9_takeJoin_46, qsem, qopt_s, qopt2_s, qev, qxs, Nat.reduceEqDiff, reduceIte, and_true, true_and, and_false, false_and, and_self, or_true, true_or, qb_or, reduceCtorEq, qbr_True, qbr_False, q10, q01, qwC]
        exact hQ _ _ ⟨C, rfl, rdF_rf C, Or.inr ⟨rfl, rfl⟩⟩
  by_cases k0 : x = 41
  · subst k0
    by_cases hd : 0 < d
    · rw [if_pos ⟨rfl, hd⟩] at hQ
      have em : nI d - 1 = nI (d - 1) := pk_sub (b := 1) (by omega)
      have hadd := zX9_addStep (C := yI C 121 5 (nI (d - 1))) (M := M) (r := r) (v := 41) a3 hl
      refine oX9_takeJoin_0 _ _ _ _ _ _ ?_
      simp only [bX9_takeJoin_0, qsem, qopt_s, qopt2_s, qev, qxs, Nat.reduceEqDiff, reduceIte, and_true, true_and, and_false, false_and, and_self, or_true, true_or, qb_or, reduceCtorEq, qbr_True, qbr_False, q10, q01, qwC, a5, e0, em]
      refine qbr_f ((by omega)) ?_
      refine oX9_takeJoin_48 _ _ _ _ _ _ ?_
      simp only [bX9_takeJoin_48, qsem, qopt_s, qopt2_s, qev, qxs, Nat.reduceEqDiff, reduceIte, and_true, true_and, and_false, false_and, and_self, or_true, true_or, qb_or, reduceCtorEq, qbr_True, qbr_False, q10, q01, qwC, a5, e0, em]
      refine kX9_takeJoin_50 (hadd) (rfl) (Nat.le_of_ble_eq_true rfl) (Nat.le_of_ble_eq_true rfl) ⟨Nat.le_of_ble_eq_true rfl, Nat.le_of_ble_eq_true rfl⟩ ?_
      rintro _ _ ⟨rfl, rfl⟩
      refine oX9_takeJoin_53 _ _ _ _ _ _ ?_
      simp only [bX9_takeJoin_53, qsem, qopt_s, qopt2_s, qev, qxs, Nat.reduceEqDiff, reduceIte, and_true, true_and, and_false, false_and, and_self, or_true, true_or, qb_or, reduceCtorEq, qbr_True, qbr_False, q10, q01, qwC, a5, e0, em]
      exact hQ _ _ ⟨_, rfl, rdF_tr (rdF_I (j := 5) (by omega)) (rdF_tr rdF_A (rdF_I (j := 3) (by omega))), Or.inl ⟨_, rfl, rfl, rdA_add (A := (4, d, lt, sg, ss)) (c := 41) a3 a4 rfl (fun q => by simp at q) (fun q => by simp at q) a8⟩⟩
    · refine oX9_takeJoin_0 _ _ _ _ _ _ ?_
      simp only [bX9_takeJoin_0, qsem, qopt_s, qopt2_s, qev, qxs, Nat.reduceEqDiff, reduceIte, and_true, true_and, and_false, false_and, and_self, or_true, true_or, qb_or, reduceCtorEq, qbr_True, qbr_False, q10, q01, qwC, a5, e0]
      refine qbr_t ((by omega)) ?_
      exact at26 (fun q => hd q.2)
  · refine oX9_takeJoin_0 _ _ _ _ _ _ ?_
    simp only [bX9_takeJoin_0, qsem, qopt_s, qopt2_s, qev, qxs, Nat.reduceEqDiff, reduceIte, and_true, true_and, and_false, false_and, and_self, or_true, true_or, qb_or, reduceCtorEq, qbr_True, qbr_False, q10, q01, qwC]
    refine qbr_f (k0) ?_
    exact at26 (fun q => k0 q.1)


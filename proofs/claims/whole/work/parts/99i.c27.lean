def wZ (r : Nat × Nat × Nat) : Prop := wR r ∧ 165 ≤ r.2.1 ∧ r.1 + 4 ≤ r.2.1
set_option maxRecDepth 100000 in
set_option maxHeartbeats 4000000 in
theorem zX9_readSteps {w : qW} {k : Nat} {f : Nat → Int32} {a b c d e : Value} (h121 : w.2 121 = some (.inr (9, [.ref 122, a, .ref 123, .int (nI k), b, c, d, e]))) (h123 : w.2 123 = some (.inl (0, 100, .inl f))) (hl : 123 < w.1) (hk : k < 100) : CT mX9_readSteps 2 1 1000 [.ref 121] w (fun r' w' => r' = some (.ref w.1) ∧ w' = qpu w (.inl (0, k, .inl (va_cpy f (fun _ => 0) 0 0 k)))) := by
  have g2 : qgF w 121 9 2 = some (.ref 123) := gF_of h121
  have g3 : qgF w 121 9 3 = some (.int (nI k)) := gF_of h121
  refine eX9_readSteps (AW_gen (fun Q hQ => ?_))
  refine oX9_readSteps_0 _ _ _ _ _ _ ?_
  simp only [bX9_readSteps_0, qsem, qopt_s, qopt2_s, qev, qxs, Nat.reduceEqDiff, reduceIte, and_true, true_and, and_false, false_and, and_self, or_true, true_or, qb_or, reduceCtorEq, qbr_True, qbr_False, q10, q01, qwC, g2, g3]
  refine kX9_readSteps_8 (zJ7_copyOf_59c91 h123 hl hk (by omega)) (Nat.le_of_ble_eq_true rfl) (Nat.le_of_ble_eq_true rfl) ⟨Nat.le_of_ble_eq_true rfl, Nat.le_of_ble_eq_true rfl⟩ ?_
  rintro _ _ ⟨rfl, rfl⟩
  refine oX9_readSteps_11 _ _ _ _ _ _ ?_
  simp only [bX9_readSteps_11, qsem, qopt_s, qopt2_s, qev, qxs, Nat.reduceEqDiff, reduceIte, and_true, true_and, and_false, false_and, and_self, or_true, true_or, qb_or, reduceCtorEq, qbr_True, qbr_False, q10, q01, qwC, g2, g3]
  exact hQ _ _ ⟨rfl, rfl⟩
set_option maxRecDepth 100000 in
set_option maxHeartbeats 4000000 in
theorem zX1_forget {C M : qC} {r : Nat × Nat × Nat} : CT mX1_forget 0 0 0 [.ref 131] (wd C M r) (fun r' w' => r' = none ∧ w' = wd (yI C 131 2 0) M r) := by
  refine eX1_forget (AW_gen (fun Q hQ => ?_))
  refine oX1_forget_0 _ _ _ _ _ _ ?_
  simp only [bX1_forget_0, qsem, qopt_s, qopt2_s, qev, qxs, Nat.reduceEqDiff, reduceIte, and_true, true_and, and_false, false_and, and_self, or_true, true_or, qb_or, reduceCtorEq, qbr_True, qbr_False, q10, q01, qwC]
  exact hQ _ _ ⟨rfl, rfl⟩
/-- the shape does not hang on the rule but at 0 and at its own places -/
theorem shp_r {r r' : Nat × Nat × Nat} {p : Nat} (h0 : p ≠ 0) (hp : p < 132 ∨ (136 ≤ p ∧ p < 165)) : shp r' p = shp r p := by
  unfold shp
  by_cases h13 : p < 13
  · rw [if_pos h13, if_pos h13]
    obtain ⟨k, rfl⟩ : ∃ k, p = k + 1 := ⟨p - 1, by omega⟩
    rfl
  · rw [if_neg h13, if_neg h13]
    by_cases h113 : p < 113
    · rw [if_pos h113, if_pos h113]
    · rw [if_neg h113, if_neg h113]
      by_cases h132 : p < 132
      · rw [if_pos h132, if_pos h132]
      · rw [if_neg h132, if_neg h132, if_pos (by omega), if_pos (by omega)]
theorem qcell_cg {s : qSh} {X X' : qC} {p : Nat} (h1 : xI X' p = xI X p) (h2 : xL X' p = xL X p) (h3 : xA X' p = xA X p) (h4 : xM X' p = xM X p) : qcell s X' p = qcell s X p := by
  have hs : ∀ (sl : List (Nat × Nat)) (k : Nat), qslots X' p k sl = qslots X p k sl := by
    intro sl
    induction sl with
    | nil => intro k; rfl
    | cons a t ih =>
      intro k
      obtain ⟨a, b⟩ := a
      simp only [qslots, ih, h1, h2]
  rcases s with ⟨t, n⟩ | ⟨ci, sl⟩ | ⟨n, f⟩
  · simp only [qcell, h3, h4]
  · simp only [qcell, hs]
  · rfl
/-- the world with a new rule in force -/
def ruC (C : qC) (n : Nat) (f : Nat → Int32) : qC := yA (yA (yA C (n + 1) f) (n + 2) (fun _ => 0)) (n + 3) (fun _ => 0)
theorem ru_sub {C M : qC} {r : Nat × Nat × Nat} {k : Nat} {f : Nat → Int32} {w : qW} (hz : wZ r) (hw0 : w.2 0 = some (qcell (.inr (.inl (10, [(2, 1), (2, 3), (2, 5), (2, 113), (2, 117), (2, 121), (2, 124), (2, 126), (2, 131), (2, r.2.1), (0, 0)]))) C 0)) (hn0 : w.2 r.2.1 = some (.inr (6, [.ref (r.2.1 + 1), .ref (r.2.1 + 2), .ref (r.2.1 + 3)]))) (hn1 : w.2 (r.2.1 + 1) = some (.inl (0, k, .inl f))) (hn2 : w.2 (r.2.1 + 2) = some a9) (hn3 : w.2 (r.2.1 + 3) = some a9) (ho : ∀ p, p < r.2.1 → p ≠ 0 → w.2 p = (wd C M r).2 p) : ∀ p c, (wd (ruC C r.2.1 f) M (r.2.1, r.2.1 + 4, k)).2 p = some c → w.2 p = some c := by
  obtain ⟨hr, hz1, hz2⟩ := hz
  have hr' : wR (r.2.1, r.2.1 + 4, k) := Or.inr hz1
  have x1 : ∀ p, p < r.2.1 → xA (ruC C r.2.1 f) p = xA C p := fun p hp => by
    unfold ruC
    simp only [qxs]
    rw [if_neg (by omega), if_neg (by omega), if_neg (by omega)]
  intro p c hc
  by_cases p0 : p = 0
  · subst p0
    have h00 := wd_at (C := ruC C r.2.1 f) (M := M) (r := (r.2.1, r.2.1 + 4, k)) (p := 0) (s := .inr (.inl (10, [(2, 1), (2, 3), (2, 5), (2, 113), (2, 117), (2, 121), (2, 124), (2, 126), (2, 131), (2, r.2.1), (0, 0)]))) rfl
    rw [h00, if_neg (by omega), qcell_cg (X := C) (X' := ruC C r.2.1 f) rfl rfl (x1 0 (by omega)) rfl] at hc
    rw [hw0]
    exact hc
  by_cases pl : p < 132 ∨ (136 ≤ p ∧ p < 165)
  · rw [ho p (by omega) p0, ← hc]
    show (shp r p).map _ = (shp (r.2.1, r.2.1 + 4, k) p).map _
    rw [shp_r (r := r) (r' := (r.2.1, r.2.1 + 4, k)) p0 pl]
    refine congrArg (fun F => (shp r p).map F) (funext fun s => ?_)
    by_cases hm : 136 ≤ p ∧ p < 165
    · rw [if_pos hm, if_pos hm]
    · rw [if_neg hm, if_neg hm, qcell_cg (X := C) (X' := ruC C r.2.1 f) rfl rfl (x1 p (by omega)) rfl]
  by_cases q0 : p = r.2.1
  · subst q0
    have := wd_at (C := ruC C r.2.1 f) (M := M) (rs_0 hr')
    rw [this] at hc
    rw [hn0, ← hc]
    rfl
  by_cases q1 : p = r.2.1 + 1
  · subst q1
    have := wd_at (C := ruC C r.2.1 f) (M := M) (rs_1 hr')
    rw [this, if_neg (rs_n hr' (k := 1) (by omega))] at hc
    rw [hn1, ← hc]
    show _ = some (Sum.inl (0, k, Sum.inl (xA (ruC C r.2.1 f) (r.2.1 + 1))))
    unfold ruC
    simp only [qxs]
    rw [if_neg (by omega), if_neg (by omega), if_pos trivial]
  by_cases q2 : p = r.2.1 + 2
  · subst q2
    have := wd_at (C := ruC C r.2.1 f) (M := M) (rs_2 hr')
    rw [this, if_neg (rs_n hr' (k := 2) (by omega))] at hc
    rw [hn2, ← hc]
    show _ = some (Sum.inl (0, 9, Sum.inl (xA (ruC C r.2.1 f) (r.2.1 + 2))))
    unfold ruC a9
    simp only [qxs]
    rw [if_neg (by omega), if_pos trivial]
  by_cases q3 : p = r.2.1 + 3
  · subst q3
    have := wd_at (C := ruC C r.2.1 f) (M := M) (rs_3 hr')
    rw [this, if_neg (rs_n hr' (k := 3) (by omega))] at hc
    rw [hn3, ← hc]
    show _ = some (Sum.inl (0, 9, Sum.inl (xA (ruC C r.2.1 f) (r.2.1 + 3))))
    unfold ruC a9
    simp only [qxs]
    rw [if_pos trivial]
  · exfalso
    have hs : shp (r.2.1, r.2.1 + 4, k) p = none := by
      unfold shp
      rw [if_neg (by omega), if_neg (by omega), if_neg (by omega), if_neg (by omega), if_neg q0, if_neg q1, if_neg q2, if_neg q3]
    have : (wd (ruC C r.2.1 f) M (r.2.1, r.2.1 + 4, k)).2 p = none := by
      show (shp (r.2.1, r.2.1 + 4, k) p).map _ = none
      rw [hs]; rfl
    rw [this] at hc
    cases hc
theorem WS_ru {S : qS} {H φ : Nat → Nat → Nat → Bool} {f : Nat → Int32} (hW : WS S H) (h20 : ¬ cR S = 20) (h7 : W7 (ruS S f) φ) : WS (ruS S f) φ := by
  obtain ⟨w1, w2, w3, w4, w5, w6, w7, w8, w9, w10, w11⟩ := hW
  have eR := ru_R (f := f) w1
  obtain ⟨⟨a0, a1, a2, a3, a4, a5, a6⟩, b1, b2, b3, b4, b5, b6, b7⟩ := w1
  have eT : cT (ruS S f) = 0 := rfl
  exact ⟨⟨⟨a0, a1, by rw [eR]; rfl, a3, a4, a5, rfl⟩, b1, b2, by rw [eR]; omega, b4, b5, b6, by rw [eT]; omega⟩, w2, w3, w4, w5, w6, h7, w8, fun i hi => by rw [eT] at hi; omega, w10, w11⟩
theorem Inv_ru {C C' : qC} {S : qS} {r : Nat × Nat × Nat} {H φ : Nat → Nat → Nat → Bool} {f g : Nat → Int32} {B : qAt} (hz : wZ r) (hW : WS S H) (h : Inv C S r H) (hB : rdA C B) (hw : wfA B) (hl : B.2.2.2.2.length < 100) (hφ : ST 0 B.2.2.2.2 φ) (hg : g = va_cpy (xA C 123) (fun _ => 0) 0 0 B.2.2.2.2.length) (hC' : C' = yI (yI (yI (ruC C r.2.1 g) 131 2 0) 121 1 0) 0 10 (nI (cR S + 1))) : Inv C' (ruS S f) (r.2.1, r.2.1 + 4, B.2.2.2.2.length) φ := by
  obtain ⟨hr, hz1, hz2⟩ := hz
  obtain ⟨kN, kS, kF, kR, kO, kB, kT, kC, kM, kA, kQ, kK, kU⟩ := h
  have eR := ru_R (f := f) hW.1
  have e2 : ∀ q, q < 165 → xA C' q = xA C q := fun q hq => by
    rw [hC']; unfold ruC; simp only [qxs]
    rw [if_neg (by omega), if_neg (by omega), if_neg (by omega)]
  have e1 : ∀ q j, ¬ (q = 131 ∧ j = 2) → ¬ (q = 121 ∧ j = 1) → ¬ (q = 0 ∧ j = 10) → xI C' q j = xI C q j := fun q j a b c => by
    rw [hC']; unfold ruC; simp only [qxs]
    rw [if_neg c, if_neg b, if_neg a]
  have e3 : xM C' = xM C := by rw [hC']; rfl
  have e4 : xL C' = xL C := by rw [hC']; rfl
  have fN : iN C' S := iN_cg (e1 1 3 (by omega) (by omega) (by omega)) (e2 2 (by omega)) kN
  have fS : iS C' S := iS_cg (e1 3 3 (by omega) (by omega) (by omega)) (e2 4 (by omega)) kS
  have fF : iF C' S := iF_cg (e1 5 7 (by omega) (by omega) (by omega)) (by rw [e3]) kF
  have fR : iR C' S := iR_cg hW.1 (fun i hi => by rw [e4]) kR
  have fO : iO C' S := iO_cg (e2 8 (by omega)) kO
  have fB : iB C' S := iB_cg (e2 9 (by omega)) kB
  have fT : iT C' S := iT_cg (e2 10 (by omega)) (e2 11 (by omega)) kT
  have fC : iC C' S := iC_cg (by rw [e4]) kC
  have fM : iM C' S := iM_cg (e1 117 3 (by omega) (by omega) (by omega)) (e2 118 (by omega)) (e2 119 (by omega)) (by rw [e4]) kM
  have fQ : iQ C' S := iQ_cg (e1 124 1 (by omega) (by omega) (by omega)) (e2 125 (by omega)) kQ
  have fK : iK C' S := iK_cg (e2 127 (by omega)) (e2 128 (by omega)) (e2 129 (by omega)) (e2 130 (by omega)) kK
  have eg : xA C' (r.2.1 + 1) = g := by
    rw [hC']; unfold ruC; simp only [qxs]
    rw [if_neg (by omega), if_neg (by omega), if_pos trivial]
  refine ⟨fN, fS, fF, fR, fO, iB_S (S := S) rfl rfl rfl rfl rfl fB, iT_S (S := S) rfl rfl rfl rfl rfl fT, fC, fM, ⟨?_, fun i hi => ?_⟩, fQ, fK, ⟨?_, ⟨B.2.2.2.2, rfl, by omega, fun i hi => ?_, hw.2.2.2.2.1, hφ⟩, Or.inl ?_⟩⟩
  · rw [hC']; rfl
  · exact absurd hi (Nat.not_lt_zero i)
  · rw [eR, hC']; rfl
  · rw [eg, hg, pk_cpy_in (by omega) (by omega), show 0 + (i - 0) = i by omega]
    exact hB.2.2.2.2.2 i hi
  · rw [hC']; rfl
set_option maxRecDepth 100000 in
set_option maxHeartbeats 4000000 in
theorem zX10_rule {C M : qC} {r : Nat × Nat × Nat} {S : qS} {H : Nat → Nat → Nat → Bool} (hz : wZ r) (hW : WS S H) (h : Inv C S r H) : CT mX10_rule 4 4 1021 [.ref 0] (wd C M r) (fun r' w' => (∃ C', w' = wd C' M r ∧ Inv C' S r H ∧ r' = some (.int (-1)) ∧ (cR S = 20 ∨ ∃ e, e ≤ cT S ∧ flt S (0, 0, 0, 0, []) 0 e)) ∨ (¬ cR S = 20 ∧ ∃ B, RN (S.2.1 160) (0, 0, 0, 0, []) 0 B (cT S) ∧ endd B ∧ ∃ C' k, w' = wd C' M (r.2.1, r.2.1 + 4, k) ∧ r' = some (.int (nI (cR S))) ∧ ∀ f φ, ST 0 B.2.2.2.2 φ → Inv C' (ruS S f) (r.2.1, r.2.1 + 4, k) φ)) := by
  have hr := hz.1
  have h1 := hW.1
  have hR20 := h1.2.2.2.1
  have hT1 := h1.2.2.2.2.2.2.2
  have e20 : ((20 : Int32) ≤ nI (cR S)) = (20 ≤ cR S) := nIle (a := 20) (by omega) (by omega)
  have hrul := h.2.2.2.2.2.2.2.2.2.2.2.2.1
  refine eX10_rule (AW_gen (fun Q hQ => ?_))
  by_cases h20 : cR S = 20
  · refine oX10_rule_0 _ _ _ _ _ _ ?_
    simp only [bX10_rule_0, qsem, qopt_s, qopt2_s, qev, qxs, Nat.reduceEqDiff, reduceIte, and_true, true_and, and_false, false_and, and_self, or_true, true_or, qb_or, reduceCtorEq, qbr_True, qbr_False, q10, q01, qwC, hrul, e20]
    refine qbr_t ((by omega)) ?_
    refine oX10_rule_20 _ _ _ _ _ _ ?_
    simp only [bX10_rule_20, qsem, qopt_s, qopt2_s, qev, qxs, Nat.reduceEqDiff, reduceIte, and_true, true_and, and_false, false_and, and_self, or_true, true_or, qb_or, reduceCtorEq, qbr_True, qbr_False, q10, q01, qwC, hrul, e20]
    exact hQ _ _ (Or.inl ⟨C, rfl, h, rfl, Or.inl h20⟩)
  · refine oX10_rule_0 _ _ _ _ _ _ ?_
    simp only [bX10_rule_0, qsem, qopt_s, qopt2_s, qev, qxs, Nat.reduceEqDiff, reduceIte, and_true, true_and, and_false, false_and, and_self, or_true, true_or, qb_or, reduceCtorEq, qbr_True, qbr_False, q10, q01, qwC, hrul, e20]
    refine qbr_f ((by omega)) ?_
    refine kX10_rule_13 (zX9_firstFault h1 h.2.2.2.2.2.2.2.2.2.1) (rfl) (Nat.le_of_ble_eq_true rfl) (Nat.le_of_ble_eq_true rfl) ⟨Nat.le_of_ble_eq_true rfl, Nat.le_of_ble_eq_true rfl⟩ ?_
    rintro _ _ ⟨C1, rfl, hF, ⟨rfl, B, hRN, he, hB, hw, hl⟩ | ⟨e, he, rfl, hf⟩⟩
    skip
    · have hI1 := Inv_rd hr hW h hF
      have hlen : B.2.2.2.2.length < 100 := by
        unfold lnI at hl
        rcases he.2 with q | q <;> (rw [q] at hl; simp at hl; omega)
      have n0 : r.2.1 ≥ 165 := hz.2.1
      have c121 : (wd C1 M r).2 121 = some (.inr (9, [.ref 122, .int (xI C1 121 1), .ref 123, .int (nI B.2.2.2.2.length), .int (xI C1 121 4), .int (xI C1 121 5), .int (xI C1 121 6), .int (xI C1 121 7)])) := by
        rw [← hB.1]; rfl
      have c123 : (wd C1 M r).2 123 = some (.inl (0, 100, .inl (xA C1 123))) := rfl
      have c0 : (wd C1 M r).2 0 = some (.inr (10, [.ref 1, .ref 3, .ref 5, .ref 113, .ref 117, .ref 121, .ref 124, .ref 126, .ref 131, .ref r.1, .int (xI C1 0 10)])) := rfl
      have sz : (wd C1 M r).1 = r.2.1 := rfl
      have hrs := zX9_readSteps (w := qpu (wd C1 M r) (.inr (6, [.null, .null, .null]))) (k := B.2.2.2.2.length) (f := xA C1 123) ((pu_o (w := wd C1 M r) (p := 121) (by rw [sz]; omega)).trans c121) ((pu_o (w := wd C1 M r) (p := 123) (by rw [sz]; omega)).trans c123) (by show 123 < r.2.1 + 1; omega) hlen
      generalize hg : va_cpy (xA C1 123) (fun _ => 0) 0 0 B.2.2.2.2.length = g at hrs
      have gf5 : qgF (qpu (wd C1 M r) (.inr (6, [.null, .null, .null]))) 0 10 5 = some (.ref 121) := gF_of ((pu_o (w := wd C1 M r) (p := 0) (by rw [sz]; omega)).trans c0)
      have q6 : (qpu (qpu (wd C1 M r) (.inr (6, [.null, .null, .null]))) (.inl (0, B.2.2.2.2.length, .inl g))).2 r.2.1 = some (.inr (6, [.null, .null, .null])) := by
        rw [pu_o (by show r.2.1 ≠ r.2.1 + 1; omega)]
        exact pu_n
      have hin := zX6_init (w := qpu (qpu (wd C1 M r) (.inr (6, [.null, .null, .null]))) (.inl (0, B.2.2.2.2.length, .inl g))) (q := r.2.1) (x := r.2.1 + 1) q6 (by show r.2.1 < r.2.1 + 1 + 1; omega)
      have tail : ∀ w4 : qW, w4.1 = r.2.1 + 4 → (∀ p c, (wd (ruC C1 r.2.1 g) M (r.2.1, r.2.1 + 4, B.2.2.2.2.length)).2 p = some c → w4.2 p = some c) → AW (mX10_rule, 4, 4, 1021, none, Q) 44 [some (.ref 0)] [.ref 131] w4 4 1021 := by
        intro w4 e4 hs4
        refine AW_sub (w' := wd (ruC C1 r.2.1 g) M (r.2.1, r.2.1 + 4, B.2.2.2.2.length)) ?_ e4.symm hs4
        have eR : xI (yI (yI (ruC C1 r.2.1 g) 131 2 0) 121 1 0) 0 10 = nI (cR S) := by
          show xI C1 0 10 = _
          exact hI1.2.2.2.2.2.2.2.2.2.2.2.2.1
        have hA2 : iA (yI (ruC C1 r.2.1 g) 131 2 0) S := by
          refine iA_cg (C := C1) rfl ?_ hI1.2.2.2.2.2.2.2.2.2.1
          unfold ruC
          simp only [qxs]
          rw [if_neg (by omega), if_neg (by omega), if_neg (by omega)]
        have hcut := zX9_cut (C := yI (ruC C1 r.2.1 g) 131 2 0) (M := M) (r := (r.2.1, r.2.1 + 4, B.2.2.2.2.length)) (n := 0) h1 hA2
        refine kX10_rule_44 zX1_forget rfl (Nat.le_of_ble_eq_true rfl) (Nat.le_of_ble_eq_true rfl) ⟨Nat.le_of_ble_eq_true rfl, Nat.le_of_ble_eq_true rfl⟩ ?_
        rintro _ _ ⟨rfl, rfl⟩
        refine oX10_rule_47 _ _ _ _ _ _ ?_
        simp only [bX10_rule_47, qsem, qopt_s, qopt2_s, qev, qxs, Nat.reduceEqDiff, reduceIte, and_true, true_and, and_false, false_and, and_self, or_true, true_or, qb_or, reduceCtorEq, qbr_True, qbr_False, q10, q01, qwC]
        refine kX10_rule_52 (hcut) (rfl) (Nat.le_of_ble_eq_true rfl) (Nat.le_of_ble_eq_true rfl) ⟨Nat.le_of_ble_eq_true rfl, Nat.le_of_ble_eq_true rfl⟩ ?_
        rintro _ _ (⟨hno, -, -⟩ | ⟨-, rfl, rfl⟩)
        skip
        · exact absurd ⟨Int32.le_refl _, by rw [h1.1.2.2.2.2.2.2]; exact nI_pos' (by omega)⟩ hno
        · refine oX10_rule_55 _ _ _ _ _ _ ?_
          simp only [bX10_rule_55, qsem, qopt_s, qopt2_s, qev, qxs, Nat.reduceEqDiff, reduceIte, and_true, true_and, and_false, false_and, and_self, or_true, true_or, qb_or, reduceCtorEq, qbr_True, qbr_False, q10, q01, qwC, eR, nI_1, nIs1]
          exact hQ _ _ (Or.inr ⟨h20, B, hRN, he, _, _, rfl, rfl, fun f φ hφ => Inv_ru hz hW hI1 hB hw hlen hφ hg.symm rfl⟩)
      refine oX10_rule_16 _ _ _ _ _ _ ?_
      simp only [bX10_rule_16, qsem, qopt_s, qopt2_s, qev, qxs, Nat.reduceEqDiff, reduceIte, and_true, true_and, and_false, false_and, and_self, or_true, true_or, qb_or, reduceCtorEq, qbr_True, qbr_False, q10, q01, qwC, gf5, sz]
      refine oX10_rule_22 _ _ _ _ _ _ ?_
      simp only [bX10_rule_22, qsem, qopt_s, qopt2_s, qev, qxs, Nat.reduceEqDiff, reduceIte, and_true, true_and, and_false, false_and, and_self, or_true, true_or, qb_or, reduceCtorEq, qbr_True, qbr_False, q10, q01, qwC, gf5, sz]
      refine ⟨(by decide), ?_⟩
      refine kX10_rule_31 (hrs) (ci_of ((pu_o (w := wd C1 M r) (p := 121) (by rw [sz]; omega)).trans c121)) (Nat.le_of_ble_eq_true rfl) (Nat.le_of_ble_eq_true rfl) ⟨Nat.le_of_ble_eq_true rfl, Nat.le_of_ble_eq_true rfl⟩ ?_
      rintro _ _ ⟨rfl, rfl⟩
      refine kX10_rule_34 (hin) (Nat.le_of_ble_eq_true rfl) (Nat.le_of_ble_eq_true rfl) ⟨Nat.le_of_ble_eq_true rfl, Nat.le_of_ble_eq_true rfl⟩ ?_
      rintro _ w3 ⟨rfl, z1, z2, z3, z4, z5⟩
      skip
      have k0 : w3.2 0 = some (.inr (10, [.ref 1, .ref 3, .ref 5, .ref 113, .ref 117, .ref 121, .ref 124, .ref 126, .ref 131, .ref r.1, .int (xI C1 0 10)])) := by
        rw [z5 0 (by show 0 < r.2.1 + 1 + 1; omega) (by omega), pu_o (by show 0 ≠ r.2.1 + 1; omega), pu_o (by rw [sz]; omega)]
        exact c0
      have g9 : qgF w3 0 10 9 = some (.ref r.1) := gF_of k0
      have k9 := sF_s (k := 9) (v := .ref r.2.1) k0
      have g8 : qgF (qsF w3 0 9 (.ref r.2.1)) 0 10 8 = some (.ref 131) := gF_of k9
      refine oX10_rule_37 _ _ _ _ _ _ ?_
      simp only [bX10_rule_37, qsem, qopt_s, qopt2_s, qev, Option.toList_none, List.nil_append, List.cons_append, g9, g8]
      refine tail _ z1 (ru_sub hz ?_ ?_ ?_ ?_ ?_ (fun p hp hp0 => ?_))
      · rw [k9]; rfl
      · rw [sF_o (by omega)]; exact z2
      · rw [sF_o (by omega), z5 (r.2.1 + 1) (by show r.2.1 + 1 < r.2.1 + 1 + 1; omega) (by omega)]
        exact pu_n
      · rw [sF_o (by omega)]; exact z3
      · rw [sF_o (by omega)]; exact z4
      · rw [sF_o hp0, z5 p (by show p < r.2.1 + 1 + 1; omega) (by omega), pu_o (by show p ≠ r.2.1 + 1; omega), pu_o (by rw [sz]; omega)]
    · have hI1 := Inv_rd hr hW h hF
      refine oX10_rule_16 _ _ _ _ _ _ ?_
      simp only [bX10_rule_16, qsem, qopt_s, qopt2_s, qev, qxs, Nat.reduceEqDiff, reduceIte, and_true, true_and, and_false, false_and, and_self, or_true, true_or, qb_or, reduceCtorEq, qbr_True, qbr_False, q10, q01, qwC]
      refine qbr_f (i_nm1 (by omega)) ?_
      refine oX10_rule_20 _ _ _ _ _ _ ?_
      simp only [bX10_rule_20, qsem, qopt_s, qopt2_s, qev, qxs, Nat.reduceEqDiff, reduceIte, and_true, true_and, and_false, false_and, and_self, or_true, true_or, qb_or, reduceCtorEq, qbr_True, qbr_False, q10, q01, qwC]
      refine ⟨by decide, ?_⟩
      exact hQ _ _ (Or.inl ⟨C1, rfl, hI1, rfl, Or.inr ⟨e, he, hf⟩⟩)


def chL (l : Nat) : Int32 := if l = 0 then 116 else if l = 1 then 114 else 98
def chS (g : Nat) : Int32 := if g = 0 then 61 else if g = 1 then 60 else 62
theorem pS_at {M : qC} {p q d s : Nat} {w : Int32} {cs : Nat → Int32} (h : pS M p w d s cs) : pS (yI M 136 33 (nI q)) q w d s cs := by
  unfold pS at h ⊢
  simp only [qxs, Nat.reduceEqDiff, reduceIte, and_true, true_and, and_self, and_false]
  exact ⟨h.2.1, h.2.2.1, h.2.2.2.1, h.2.2.2.2⟩
theorem pS_d {M : qC} {p d d' s : Nat} {w : Int32} {cs : Nat → Int32} (h : pS M p w d s cs) : pS (yI M 136 35 (nI d')) p w d' s cs := by
  unfold pS at h ⊢
  simp only [qxs, Nat.reduceEqDiff, reduceIte, and_true, true_and, and_self, and_false]
  exact ⟨h.1, h.2.1, h.2.2.2.1, h.2.2.2.2⟩
theorem tk0_l {d lt sg l : Nat} {ss : List Nat} : tk (0, d, lt, sg, ss) (chL l) = some (1, d, (if l = 0 then 0 else if l = 1 then 1 else 2), sg, ss) := by
  unfold tk chL
  by_cases h0 : l = 0
  · simp [h0]
  · by_cases h1 : l = 1
    · simp [h1]
    · simp [h0, h1]
theorem l3 {l : Nat} (h : l < 3) : (if l = 0 then 0 else if l = 1 then 1 else 2) = l := by
  rcases (show l = 0 ∨ l = 1 ∨ l = 2 by omega) with rfl | rfl | rfl <;> rfl
theorem tk1_s {d lt sg g : Nat} {ss : List Nat} : tk (1, d, lt, sg, ss) (chS g) = some (2, d, lt, (if g = 0 then 0 else if g = 1 then 1 else 2), ss) := by
  unfold tk chS
  by_cases h0 : g = 0
  · simp [h0]
  · by_cases h1 : g = 1
    · simp [h1]
    · simp [h0, h1]
theorem tk0_no {d lt sg : Nat} {ss : List Nat} {x : Int32} (h : ¬ x = 32) (h0 : ¬ (x = 40 ∧ d < 8)) (h1 : ¬ x = 116) (h2 : ¬ x = 114) (h3 : ¬ x = 98) : tk (0, d, lt, sg, ss) x = none := by
  unfold tk
  simp [h, h0, h1, h2, h3]
theorem tk1_no {d lt sg : Nat} {ss : List Nat} {x : Int32} (h : ¬ x = 32) (h1 : ¬ x = 61) (h2 : ¬ x = 60) (h3 : ¬ x = 62) : tk (1, d, lt, sg, ss) x = none := by
  unfold tk
  simp [h, h1, h2, h3]
theorem tk2_no {d lt sg : Nat} {ss : List Nat} {x : Int32} (h : ¬ x = 32) (h1 : isDg x = false) : tk (2, d, lt, sg, ss) x = none := by
  unfold tk
  simp [h, h1]
theorem dg_32 {x : Int32} (h : isDg x = true) : ¬ x = 32 := fun e => by rw [e, dg32] at h; exact Bool.false_ne_true h
theorem tk2_d {d lt sg : Nat} {ss : List Nat} {x : Int32} (h1 : isDg x = true) : tk (2, d, lt, sg, ss) x = some (3, d, lt, sg, (1000 + 300 * lt + 100 * sg + dgN x) :: ss) := by
  unfold tk
  simp [h1, dg_32 h1]
theorem tk3_d {d lt sg y : Nat} {ss : List Nat} {x : Int32} (h1 : isDg x = true) : tk (3, d, lt, sg, y :: ss) x = some (4, d, lt, sg, (y + 9 * (y % 100) + dgN x) :: ss) := by
  unfold tk
  simp [h1, lng]
theorem dg_of {x : Int32} (h : isDg x = true) : x = nI (48 + dgN x) ∧ dgN x < 10 := by
  have h2 := of_decide_eq_true h
  obtain ⟨n, hn, rfl⟩ := i_of (x := x) (Int32.le_trans (by decide) h2.1)
  have a : 48 ≤ n := (nI_leI (a := 48) (b := n) (by omega) hn).mp h2.1
  have b : n ≤ 57 := (nI_leI (a := n) (b := 57) hn (by omega)).mp h2.2
  have e : dgN (nI n) = n - 48 := by
    unfold dgN
    rw [show (48 : Int32) = nI 48 from rfl, pk_sub a, nI_clamp (by omega)]
  rw [e]
  exact ⟨by rw [show 48 + (n - 48) = n by omega], by omega⟩
theorem dg_v {x : Int32} {v : Nat} (h : isDg x = true) : 10 * nI v + x - 48 = nI (10 * v + dgN x) := by
  obtain ⟨e, -⟩ := dg_of h
  generalize dgN x = k at e ⊢
  rw [e, show (10 : Int32) = nI 10 from rfl, pk_mul, nadd, show (48 : Int32) = nI 48 from rfl, pk_sub (by omega)]
  congr 1
  omega
theorem flt_at {S : qS} {st d lt sg p q : Nat} {A : qAt} {ss : List Nat} (hr : RN (S.2.1 160) A p (st, d, lt, sg, ss) q) (hq : q ≤ cT S) (hst : st < 3) (h : tk (st, d, lt, sg, ss) (byA S q) = none) : flt S A p q := by
  refine ⟨_, hr, ?_⟩
  by_cases hl : q < cT S
  · rw [byA_in hl] at h
    exact Or.inl ⟨hl, h⟩
  · refine Or.inr ⟨by omega, fun e => ?_⟩
    have := e.2
    simp only at this
    omega
def uC (C : qC) (r : Nat × Nat × Nat) (S : qS) (K : qM) (X : List Nat → (Nat → Nat → Nat → Bool) → Prop) (Y : Nat → Prop) (dep d : Nat) : Prop := ∀ (M : qC) (p s : Nat) (cs : Nat → Int32) (lt sg : Nat) (ss : List Nat), pj M = S → pS M p (-1) d s cs → p ≤ cT S → s ≤ 2 * p → CT K dep 0 0 [.ref 136] (wd C M r) (fun r' w' => ∃ M', r' = none ∧ w' = wd C M' r ∧ pj M' = S ∧ rdP S X Y d lt sg ss p s cs M')
def yP (S : qS) (p : Nat) : Prop := ¬ byA S p = 32 ∧ ¬ byA S p = 38
def yT (S : qS) (p : Nat) : Prop := ¬ byA S p = 32 ∧ ¬ byA S p = 38 ∧ ¬ byA S p = 124
theorem nIs1 (d : Nat) : nI (d + 1) - 1 = nI d := by rw [show (1 : Int32) = nI 1 from rfl, pk_sub (by omega)]; rfl
set_option maxRecDepth 100000 in
set_option maxHeartbeats 4000000 in
theorem zX11_unit_of {C : qC} {r : Nat × Nat × Nat} {S : qS} {d : Nat} (h1 : W1 S) (hd : d ≤ 8) (hT : d < 8 → uC C r S mX11_tests (ST (d + 1)) (yT S) (3 * (8 - d)) (d + 1)) : uC C r S mX11_unit (SU d) (fun _ => True) (1 + 3 * (8 - d)) d := by
  intro M p s cs lt sg ss hS hp hpL hs
  have hT1 := h1.2.2.2.2.2.2.2
  have h32 := h1.1.2.2.2.2.2.2
  refine eX11_unit (AW_gen (fun Q hQ => ?_))
  have bad : ∀ (M' : qC) (p' : Nat), pj M' = S → pS M' p' (nI p') d s cs → p ≤ p' → p' ≤ cT S → flt S (0, d, lt, sg, ss) p p' → Q none (wd C M' r) := fun M' p' hS' hp' hpp hpt hf => hQ _ _ ⟨M', rfl, rfl, hS', p', _, s, cs, hp', by omega, by omega, fun _ _ => rfl, Or.inr ⟨Nat.le_refl _, p', rfl, hf⟩⟩
  have at271 : ∀ (M1 : qC) (p' v l g st : Nat) (o3 o5 : Option Value), v < 100 → l < 3 → g < 3 → pj M1 = S → pS M1 p' (-1) d s cs → p + 3 ≤ p' → p' ≤ cT S → RN (S.2.1 160) (0, d, lt, sg, ss) p (st, d, l, g, (1000 + 300 * l + 100 * g + v) :: ss) p' → aft S p' st → AW (mX11_unit, 1 + 3 * (8 - d), 0, 0, none, Q) 271 [some (.ref 136), some (.int (chL l)), some (.int (chS g)), o3, some (.int (nI v)), o5] [] (wd C M1 r) 0 0 := by
    intro M1 p' v l g st o3 o5 hv hl hg hS1 hp1 hpp hpt hr ha
    refine oX11_unit_271 _ _ _ _ _ _ ?_
    simp only [bX11_unit_271, qsem, qopt_s, qopt2_s, qev, qxs, Nat.reduceEqDiff, reduceIte, and_true, true_and, and_false, false_and, and_self, or_true, true_or, qb_or, reduceCtorEq, qbr_True, qbr_False, q10, q01, qwM]
    refine kX11_unit_273 (zX11_say hS1 hp1 (by omega)) (rfl) (Nat.le_of_ble_eq_true rfl) (show 0 + 1 ≤ 1 + 3 * (8 - d) by omega) ⟨Nat.le_of_ble_eq_true rfl, Nat.le_of_ble_eq_true rfl⟩ ?_
    rintro _ _ ⟨M2, rfl, rfl, hS2, hp2⟩
    refine oX11_unit_276 _ _ _ _ _ _ ?_
    simp only [bX11_unit_276, qsem, qopt_s, qopt2_s, qev, qxs, Nat.reduceEqDiff, reduceIte, and_true, true_and, and_false, false_and, and_self, or_true, true_or, qb_or, reduceCtorEq, qbr_True, qbr_False, q10, q01, qwM]
    refine kX11_unit_278 (zX11_say hS2 hp2 (by omega)) (rfl) (Nat.le_of_ble_eq_true rfl) (show 0 + 1 ≤ 1 + 3 * (8 - d) by omega) ⟨Nat.le_of_ble_eq_true rfl, Nat.le_of_ble_eq_true rfl⟩ ?_
    rintro _ _ ⟨M3, rfl, rfl, hS3, hp3⟩
    refine oX11_unit_281 _ _ _ _ _ _ ?_
    simp only [bX11_unit_281, qsem, qopt_s, qopt2_s, qev, qxs, Nat.reduceEqDiff, reduceIte, and_true, true_and, and_false, false_and, and_self, or_true, true_or, qb_or, reduceCtorEq, qbr_True, qbr_False, q10, q01, qwM]
    refine kX11_unit_283 (zX11_say hS3 hp3 (by omega)) (rfl) (Nat.le_of_ble_eq_true rfl) (show 0 + 1 ≤ 1 + 3 * (8 - d) by omega) ⟨Nat.le_of_ble_eq_true rfl, Nat.le_of_ble_eq_true rfl⟩ ?_
    rintro _ _ ⟨M4, rfl, rfl, hS4, hp4⟩
    refine oX11_unit_286 _ _ _ _ _ _ ?_
    simp only [bX11_unit_286, qsem, qopt_s, qopt2_s, qev, qxs, Nat.reduceEqDiff, reduceIte, and_true, true_and, and_false, false_and, and_self, or_true, true_or, qb_or, reduceCtorEq, qbr_True, qbr_False, q10, q01, qwM]
    refine kX11_unit_289 (zX11_say hS4 hp4 (by omega)) (rfl) (Nat.le_of_ble_eq_true rfl) (show 0 + 1 ≤ 1 + 3 * (8 - d) by omega) ⟨Nat.le_of_ble_eq_true rfl, Nat.le_of_ble_eq_true rfl⟩ ?_
    rintro _ _ ⟨M5, rfl, rfl, hS5, hp5⟩
    refine oX11_unit_292 _ _ _ _ _ _ ?_
    simp only [bX11_unit_292, qsem, qopt_s, qopt2_s, qev, qxs, Nat.reduceEqDiff, reduceIte, and_true, true_and, and_false, false_and, and_self, or_true, true_or, qb_or, reduceCtorEq, qbr_True, qbr_False, q10, q01, qwM]
    refine hQ _ _ ⟨M5, rfl, rfl, hS5, p', _, _, _, hp5, by omega, by omega, fun i hi => by simp only [upd]; rw [if_neg (by omega), if_neg (by omega), if_neg (by omega), if_neg (by omega)], Or.inl ⟨rfl, hpt, trivial, st, l, g, [1000 + 300 * l + 100 * g + v], tsP l g v, hr, ha, ?_, SU_test hl hg hv⟩⟩
    refine CD_test ?_ ?_ ?_ ?_ hv
    · simp only [upd]; rw [if_neg (by omega), if_neg (by omega), if_neg (by omega), if_pos trivial]
    · simp [upd, chL]
    · simp [upd, chS]
    · simp [upd]
  have at185b : ∀ (M1 : qC) (p' v l g : Nat) (o3 : Option Value), q_nb (some o3) = true → v < 100 → l < 3 → g < 3 → pj M1 = S → pS M1 p' (-1) d s cs → p + 3 ≤ p' → p' ≤ cT S → RN (S.2.1 160) (0, d, lt, sg, ss) p (4, d, l, g, (1000 + 300 * l + 100 * g + v) :: ss) p' → AW (mX11_unit, 1 + 3 * (8 - d), 0, 0, none, Q) 185 [some (.ref 136), some (.int (chL l)), some (.int (chS g)), o3, some (.int (nI v)), some (.int 2)] [] (wd C M1 r) 0 0 := by
    intro M1 p' v l g o3 q3 hv hl hg hS1 hp1 hpp hpt hr
    by_cases hlt : p' < cT S
    · by_cases hx : isDg (S.2.1 160 p') = true
      · have hx2 := of_decide_eq_true hx
        have hf : flt S (0, d, lt, sg, ss) p p' := ⟨_, hr, Or.inl ⟨hlt, by
          have e := aft_tk (S := S) (p := p') (st := 4) (d := d) (lt := l) (sg := g) (ss := (1000 + 300 * l + 100 * g + v) :: ss) (Or.inl rfl) (byA_in hlt) (dg_32 hx)
          rw [e, if_neg (fun q => by rw [q.1] at hx; revert hx; decide), if_neg (fun q => by rw [q] at hx; revert hx; decide), if_neg (fun q => by rw [q] at hx; revert hx; decide)]⟩⟩
        refine oX11_unit_185 _ _ _ _ _ _ ?_
        simp only [bX11_unit_185, qsem, qopt_s, qopt2_s, qev, qxs, Nat.reduceEqDiff, reduceIte, and_true, true_and, and_false, false_and, and_self, or_true, true_or, qb_or, reduceCtorEq, qbr_True, qbr_False, q10, q01, qwM, hp1.1, pjx hS1, h32, nIcl (show p' < 1000 by omega)]
        refine qbr_f (nI_ge hlt (by omega)) ?_
        refine ⟨nI_vp (by omega) (by omega), ?_⟩
        refine qbr_f (Int32.not_lt.mpr hx2.1) ?_
        refine ⟨nI_vp (by omega) (by omega), ?_⟩
        refine qbr_f (Int32.not_lt.mpr hx2.2) ?_
        refine kX11_unit_231 (zX11_fail hS1 hp1) (rfl) (Nat.le_of_ble_eq_true rfl) (show 0 + 1 ≤ 1 + 3 * (8 - d) by omega) ⟨Nat.le_of_ble_eq_true rfl, Nat.le_of_ble_eq_true rfl⟩ ?_
        rintro _ _ ⟨M2, rfl, rfl, hS2, hp2⟩
        refine oX11_unit_234 _ _ _ _ _ _ ?_
        simp only [bX11_unit_234, qsem, qopt_s, qopt2_s, qev, qxs, Nat.reduceEqDiff, reduceIte, and_true, true_and, and_false, false_and, and_self, or_true, true_or, qb_or, reduceCtorEq, qbr_True, qbr_False, q10, q01, qwM, hp1.1, pjx hS1, h32, nIcl (show p' < 1000 by omega)]
        rw [if_pos rfl] at hp2
        exact bad M2 p' hS2 hp2 (by omega) hpt hf
      · have hx : isDg (S.2.1 160 p') = false := (Bool.not_eq_true _).mp hx
        have hg271 := at271 M1 p' v l g 4 o3 (some (.int 2)) hv hl hg hS1 hp1 hpp hpt hr (Or.inl rfl)
        by_cases ha : S.2.1 160 p' < 48
        · refine oX11_unit_185 _ _ _ _ _ _ ?_
          simp only [bX11_unit_185, qsem, qopt_s, qopt2_s, qev, qxs, Nat.reduceEqDiff, reduceIte, and_true, true_and, and_false, false_and, and_self, or_true, true_or, qb_or, reduceCtorEq, qbr_True, qbr_False, q10, q01, qwM, hp1.1, pjx hS1, h32, nIcl (show p' < 1000 by omega)]
          refine qbr_f (nI_ge hlt (by omega)) ?_
          refine ⟨nI_vp (by omega) (by omega), ?_⟩
          refine qbr_t (ha) ?_
          exact hg271
        · have hb : (57 : Int32) < S.2.1 160 p' := Int32.not_le.mp (fun q => Bool.false_ne_true (hx.symm.trans (show isDg (S.2.1 160 p') = true from decide_eq_true ⟨Int32.not_lt.mp ha, q⟩)))
          refine oX11_unit_185 _ _ _ _ _ _ ?_
          simp only [bX11_unit_185, qsem, qopt_s, qopt2_s, qev, qxs, Nat.reduceEqDiff, reduceIte, and_true, true_and, and_false, false_and, and_self, or_true, true_or, qb_or, reduceCtorEq, qbr_True, qbr_False, q10, q01, qwM, hp1.1, pjx hS1, h32, nIcl (show p' < 1000 by omega)]
          refine qbr_f (nI_ge hlt (by omega)) ?_
          refine ⟨nI_vp (by omega) (by omega), ?_⟩
          refine qbr_f (ha) ?_
          refine ⟨nI_vp (by omega) (by omega), ?_⟩
          refine qbr_t (hb) ?_
          exact hg271
    · have hg271 := at271 M1 p' v l g 4 o3 (some (.int 2)) hv hl hg hS1 hp1 hpp hpt hr (Or.inl rfl)
      refine oX11_unit_185 _ _ _ _ _ _ ?_
      simp only [bX11_unit_185, qsem, qopt_s, qopt2_s, qev, qxs, Nat.reduceEqDiff, reduceIte, and_true, true_and, and_false, false_and, and_self, or_true, true_or, qb_or, reduceCtorEq, qbr_True, qbr_False, q10, q01, qwM, hp1.1, pjx hS1, h32]
      refine qbr_t (nI_le (by omega) (by omega)) ?_
      exact hg271
  have at185a : ∀ (M1 : qC) (p' v l g : Nat) (o3 : Option Value), q_nb (some o3) = true → v < 10 → l < 3 → g < 3 → pj M1 = S → pS M1 p' (-1) d s cs → p + 3 ≤ p' → p' ≤ cT S → RN (S.2.1 160) (0, d, lt, sg, ss) p (3, d, l, g, (1000 + 300 * l + 100 * g + v) :: ss) p' → AW (mX11_unit, 1 + 3 * (8 - d), 0, 0, none, Q) 185 [some (.ref 136), some (.int (chL l)), some (.int (chS g)), o3, some (.int (nI v)), some (.int 1)] [] (wd C M1 r) 0 0 := by
    intro M1 p' v l g o3 q3 hv hl hg hS1 hp1 hpp hpt hr
    by_cases hlt : p' < cT S
    · by_cases hx : isDg (S.2.1 160 p') = true
      · have hx2 := of_decide_eq_true hx
        have hdg := (dg_of hx).2
        have hr2 : RN (S.2.1 160) (0, d, lt, sg, ss) p (4, d, l, g, (1000 + 300 * l + 100 * g + (10 * v + dgN (S.2.1 160 p'))) :: ss) (p' + 1) := by
          refine RN_tr hr (RN_1 ?_)
          rw [tk3_d hx, show (1000 + 300 * l + 100 * g + v) % 100 = v by omega, show 1000 + 300 * l + 100 * g + v + 9 * v + dgN (S.2.1 160 p') = 1000 + 300 * l + 100 * g + (10 * v + dgN (S.2.1 160 p')) by omega]
        refine oX11_unit_185 _ _ _ _ _ _ ?_
        simp only [bX11_unit_185, qsem, qopt_s, qopt2_s, qev, qxs, Nat.reduceEqDiff, reduceIte, and_true, true_and, and_false, false_and, and_self, or_true, true_or, qb_or, reduceCtorEq, qbr_True, qbr_False, q10, q01, qwM, hp1.1, pjx hS1, h32, nIcl (show p' < 1000 by omega), dg_v hx, nI_1, q3, show (1 : Int32) + 1 = 2 from rfl]
        refine qbr_f (nI_ge hlt (by omega)) ?_
        refine ⟨nI_vp (by omega) (by omega), ?_⟩
        refine qbr_f (Int32.not_lt.mpr hx2.1) ?_
        refine ⟨nI_vp (by omega) (by omega), ?_⟩
        refine qbr_f (Int32.not_lt.mpr hx2.2) ?_
        refine qbr_f ((by decide)) ?_
        refine oX11_unit_235 _ _ _ _ _ _ ?_
        simp only [bX11_unit_235, qsem, qopt_s, qopt2_s, qev, qxs, Nat.reduceEqDiff, reduceIte, and_true, true_and, and_false, false_and, and_self, or_true, true_or, qb_or, reduceCtorEq, qbr_True, qbr_False, q10, q01, qwM, hp1.1, pjx hS1, h32, nIcl (show p' < 1000 by omega), dg_v hx, nI_1, q3, show (1 : Int32) + 1 = 2 from rfl]
        refine ⟨nI_vp (by omega) (by omega), ?_⟩
        exact at185b _ (p' + 1) _ l g o3 q3 (by omega) hl hg (by simp only [pjs]; exact hS1) (pS_at hp1) (by omega) (by omega) hr2
      · have hx : isDg (S.2.1 160 p') = false := (Bool.not_eq_true _).mp hx
        have hg271 := at271 M1 p' v l g 3 o3 (some (.int 1)) (by omega) hl hg hS1 hp1 hpp hpt hr (Or.inr ⟨rfl, by rw [byA_in hlt]; exact hx⟩)
        by_cases ha : S.2.1 160 p' < 48
        · refine oX11_unit_185 _ _ _ _ _ _ ?_
          simp only [bX11_unit_185, qsem, qopt_s, qopt2_s, qev, qxs, Nat.reduceEqDiff, reduceIte, and_true, true_and, and_false, false_and, and_self, or_true, true_or, qb_or, reduceCtorEq, qbr_True, qbr_False, q10, q01, qwM, hp1.1, pjx hS1, h32, nIcl (show p' < 1000 by omega)]
          refine qbr_f (nI_ge hlt (by omega)) ?_
          refine ⟨nI_vp (by omega) (by omega), ?_⟩
          refine qbr_t (ha) ?_
          exact hg271
        · have hb : (57 : Int32) < S.2.1 160 p' := Int32.not_le.mp (fun q => Bool.false_ne_true (hx.symm.trans (show isDg (S.2.1 160 p') = true from decide_eq_true ⟨Int32.not_lt.mp ha, q⟩)))
          refine oX11_unit_185 _ _ _ _ _ _ ?_
          simp only [bX11_unit_185, qsem, qopt_s, qopt2_s, qev, qxs, Nat.reduceEqDiff, reduceIte, and_true, true_and, and_false, false_and, and_self, or_true, true_or, qb_or, reduceCtorEq, qbr_True, qbr_False, q10, q01, qwM, hp1.1, pjx hS1, h32, nIcl (show p' < 1000 by omega)]
          refine qbr_f (nI_ge hlt (by omega)) ?_
          refine ⟨nI_vp (by omega) (by omega), ?_⟩
          refine qbr_f (ha) ?_
          refine ⟨nI_vp (by omega) (by omega), ?_⟩
          refine qbr_t (hb) ?_
          exact hg271
    · have hg271 := at271 M1 p' v l g 3 o3 (some (.int 1)) (by omega) hl hg hS1 hp1 hpp hpt hr (Or.inr ⟨rfl, by rw [byA_out hlt]; exact dgm1⟩)
      refine oX11_unit_185 _ _ _ _ _ _ ?_
      simp only [bX11_unit_185, qsem, qopt_s, qopt2_s, qev, qxs, Nat.reduceEqDiff, reduceIte, and_true, true_and, and_false, false_and, and_self, or_true, true_or, qb_or, reduceCtorEq, qbr_True, qbr_False, q10, q01, qwM, hp1.1, pjx hS1, h32]
      refine qbr_t (nI_le (by omega) (by omega)) ?_
      exact hg271
  have at147 : ∀ (M1 : qC) (q l g : Nat), l < 3 → g < 3 → pj M1 = S → pS M1 q (-1) d s cs → p + 1 ≤ q → q < cT S → RN (S.2.1 160) (0, d, lt, sg, ss) p (2, d, l, g, ss) (q + 1) → AW (mX11_unit, 1 + 3 * (8 - d), 0, 0, none, Q) 147 [some (.ref 136), some (.int (chL l)), some (.int (chS g)), none, none, none] [] (wd C M1 r) 0 0 := by
    intro M1 q l g hl hg hS1 hp1 hpq hqt hr
    have hq2 := skn_top (S := S) (p := q + 1) (by omega)
    have hq3 := skn_le S (q + 1)
    have hr2 := RN_tr hr (skn_run (S := S) (A := (2, d, l, g, ss)) (by simp) (q + 1))
    have hno := skn_no S (q + 1)
    have dig : ∀ (M2 : qC), pj M2 = S → pS M2 (skn S (q + 1)) (-1) d s cs → isDg (byA S (skn S (q + 1))) = true → AW (mX11_unit, 1 + 3 * (8 - d), 0, 0, none, Q) 185 [some (.ref 136), some (.int (chL l)), some (.int (chS g)), some (.int (byA S (skn S (q + 1)))), some (.int 0), some (.int 0)] [] (wd C M2 r) 0 0 := by
      intro M2 hS2 hp2 hx
      have hlt : skn S (q + 1) < cT S := byA_lt rfl (fun e => by rw [e, dgm1] at hx; exact Bool.false_ne_true hx)
      generalize skn S (q + 1) = u at *
      rw [byA_in hlt] at hx ⊢
      have hx2 := of_decide_eq_true hx
      have e0 : (10 : Int32) * 0 + S.2.1 160 u - 48 = nI (dgN (S.2.1 160 u)) := by have := dg_v (v := 0) hx; rw [Nat.mul_zero, Nat.zero_add] at this; exact this
      refine oX11_unit_185 _ _ _ _ _ _ ?_
      simp only [bX11_unit_185, qsem, qopt_s, qopt2_s, qev, qxs, Nat.reduceEqDiff, reduceIte, and_true, true_and, and_false, false_and, and_self, or_true, true_or, qb_or, reduceCtorEq, qbr_True, qbr_False, q10, q01, qwM, hp2.1, pjx hS2, h32, nIcl (show u < 1000 by omega), e0, nI_1]
      refine qbr_f (nI_ge hlt (by omega)) ?_
      refine ⟨nI_vp (by omega) (by omega), ?_⟩
      refine qbr_f (Int32.not_lt.mpr hx2.1) ?_
      refine ⟨nI_vp (by omega) (by omega), ?_⟩
      refine qbr_f (Int32.not_lt.mpr hx2.2) ?_
      refine qbr_f ((by decide)) ?_
      refine oX11_unit_235 _ _ _ _ _ _ ?_
      simp only [bX11_unit_235, qsem, qopt_s, qopt2_s, qev, qxs, Nat.reduceEqDiff, reduceIte, and_true, true_and, and_false, false_and, and_self, or_true, true_or, qb_or, reduceCtorEq, qbr_True, qbr_False, q10, q01, qwM, hp2.1, pjx hS2, h32, nIcl (show u < 1000 by omega), e0, nI_1]
      refine ⟨nI_vp (by omega) (by omega), ?_⟩
      exact at185a _ (u + 1) _ l g _ rfl (dg_of hx).2 hl hg (by simp only [pjs]; exact hS2) (pS_at hp2) (by omega) (by omega) (RN_tr hr2 (RN_1 (tk2_d hx)))
    have nod : isDg (byA S (skn S (q + 1))) = false → flt S (0, d, lt, sg, ss) p (skn S (q + 1)) := fun hx => flt_at hr2 hq2 (by omega) (tk2_no hno hx)
    refine oX11_unit_147 _ _ _ _ _ _ ?_
    simp only [bX11_unit_147, qsem, qopt_s, qopt2_s, qev, qxs, Nat.reduceEqDiff, reduceIte, and_true, true_and, and_false, false_and, and_self, or_true, true_or, qb_or, reduceCtorEq, qbr_True, qbr_False, q10, q01, qwM, hp1.1, nI_1]
    refine kX11_unit_158 (zX11_look (M := yI M1 136 33 (nI (q + 1))) (by simp only [pjs]; exact hS1) h1 (pS_at hp1) (by omega)) (rfl) (Nat.le_of_ble_eq_true rfl) (show 0 + 1 ≤ 1 + 3 * (8 - d) by omega) ⟨Nat.le_of_ble_eq_true rfl, Nat.le_of_ble_eq_true rfl⟩ ?_
    rintro _ _ ⟨M2, rfl, hS2, hp2, rfl⟩
    refine oX11_unit_161 _ _ _ _ _ _ ?_
    simp only [bX11_unit_161, qsem, qopt_s, qopt2_s, qev, qxs, Nat.reduceEqDiff, reduceIte, and_true, true_and, and_false, false_and, and_self, or_true, true_or, qb_or, reduceCtorEq, qbr_True, qbr_False, q10, q01, qwM, hp1.1, nI_1]
    refine qbr_i (fun c1 => ?_) (fun c1 => ?_)
    · refine oX11_unit_180 _ _ _ _ _ _ ?_
      simp only [bX11_unit_180, qsem, qopt_s, qopt2_s, qev, qxs, Nat.reduceEqDiff, reduceIte, and_true, true_and, and_false, false_and, and_self, or_true, true_or, qb_or, reduceCtorEq, qbr_True, qbr_False, q10, q01, qwM, hp1.1, nI_1]
      refine kX11_unit_181 (zX11_fail hS2 hp2) (rfl) (Nat.le_of_ble_eq_true rfl) (show 0 + 1 ≤ 1 + 3 * (8 - d) by omega) ⟨Nat.le_of_ble_eq_true rfl, Nat.le_of_ble_eq_true rfl⟩ ?_
      rintro _ _ ⟨M3, rfl, rfl, hS3, hp3⟩
      refine oX11_unit_184 _ _ _ _ _ _ ?_
      simp only [bX11_unit_184, qsem, qopt_s, qopt2_s, qev, qxs, Nat.reduceEqDiff, reduceIte, and_true, true_and, and_false, false_and, and_self, or_true, true_or, qb_or, reduceCtorEq, qbr_True, qbr_False, q10, q01, qwM, hp1.1, nI_1]
      rw [if_pos rfl] at hp3
      first | exact bad M3 _ hS3 hp3 (by omega) hq2 (nod (decide_eq_false (fun q => absurd q.1 (Int32.not_le.mpr c1)))) | exact bad M3 _ hS3 hp3 (by omega) hq2 (nod (decide_eq_false (fun q => c2 q.2)))
    · refine qbr_i (fun c2 => ?_) (fun c2 => ?_)
      · exact dig M2 hS2 hp2 (decide_eq_true ⟨Int32.not_lt.mp c1, c2⟩)
      · refine oX11_unit_180 _ _ _ _ _ _ ?_
        simp only [bX11_unit_180, qsem, qopt_s, qopt2_s, qev, qxs, Nat.reduceEqDiff, reduceIte, and_true, true_and, and_false, false_and, and_self, or_true, true_or, qb_or, reduceCtorEq, qbr_True, qbr_False, q10, q01, qwM, hp1.1, nI_1]
        refine kX11_unit_181 (zX11_fail hS2 hp2) (rfl) (Nat.le_of_ble_eq_true rfl) (show 0 + 1 ≤ 1 + 3 * (8 - d) by omega) ⟨Nat.le_of_ble_eq_true rfl, Nat.le_of_ble_eq_true rfl⟩ ?_
        rintro _ _ ⟨M3, rfl, rfl, hS3, hp3⟩
        refine oX11_unit_184 _ _ _ _ _ _ ?_
        simp only [bX11_unit_184, qsem, qopt_s, qopt2_s, qev, qxs, Nat.reduceEqDiff, reduceIte, and_true, true_and, and_false, false_and, and_self, or_true, true_or, qb_or, reduceCtorEq, qbr_True, qbr_False, q10, q01, qwM, hp1.1, nI_1]
        rw [if_pos rfl] at hp3
        first | exact bad M3 _ hS3 hp3 (by omega) hq2 (nod (decide_eq_false (fun q => absurd q.1 (Int32.not_le.mpr c1)))) | exact bad M3 _ hS3 hp3 (by omega) hq2 (nod (decide_eq_false (fun q => c2 q.2)))
  have at109 : ∀ (M1 : qC) (q l : Nat), l < 3 → pj M1 = S → pS M1 q (-1) d s cs → p ≤ q → q < cT S → RN (S.2.1 160) (0, d, lt, sg, ss) p (1, d, l, sg, ss) (q + 1) → AW (mX11_unit, 1 + 3 * (8 - d), 0, 0, none, Q) 109 [some (.ref 136), some (.int (chL l)), none, none, none, none] [] (wd C M1 r) 0 0 := by
    intro M1 q l hl hS1 hp1 hpq hqt hr
    have hq2 := skn_top (S := S) (p := q + 1) (by omega)
    have hq3 := skn_le S (q + 1)
    have hr2 := RN_tr hr (skn_run (S := S) (A := (1, d, l, sg, ss)) (by simp) (q + 1))
    have hno := skn_no S (q + 1)
    have sgn : ∀ (M2 : qC) (g : Nat), g < 3 → pj M2 = S → pS M2 (skn S (q + 1)) (-1) d s cs → byA S (skn S (q + 1)) = chS g → AW (mX11_unit, 1 + 3 * (8 - d), 0, 0, none, Q) 147 [some (.ref 136), some (.int (chL l)), some (.int (byA S (skn S (q + 1)))), none, none, none] [] (wd C M2 r) 0 0 := by
      intro M2 g hg hS2 hp2 hx
      have hlt : skn S (q + 1) < cT S := byA_lt hx (by unfold chS; split; decide; split <;> decide)
      have e := RN_1 (T := S.2.1 160) (p := skn S (q + 1)) (A := (1, d, l, sg, ss)) (by rw [← byA_in hlt, hx]; exact tk1_s)
      rw [l3 hg] at e
      rw [hx]
      exact at147 M2 _ l g hl hg hS2 hp2 (by omega) hlt (RN_tr hr2 e)
    refine oX11_unit_109 _ _ _ _ _ _ ?_
    simp only [bX11_unit_109, qsem, qopt_s, qopt2_s, qev, qxs, Nat.reduceEqDiff, reduceIte, and_true, true_and, and_false, false_and, and_self, or_true, true_or, qb_or, reduceCtorEq, qbr_True, qbr_False, q10, q01, qwM, hp1.1, nI_1]
    refine kX11_unit_120 (zX11_look (M := yI M1 136 33 (nI (q + 1))) (by simp only [pjs]; exact hS1) h1 (pS_at hp1) (by omega)) (rfl) (Nat.le_of_ble_eq_true rfl) (show 0 + 1 ≤ 1 + 3 * (8 - d) by omega) ⟨Nat.le_of_ble_eq_true rfl, Nat.le_of_ble_eq_true rfl⟩ ?_
    rintro _ _ ⟨M2, rfl, hS2, hp2, rfl⟩
    refine oX11_unit_123 _ _ _ _ _ _ ?_
    simp only [bX11_unit_123, qsem, qopt_s, qopt2_s, qev, qxs, Nat.reduceEqDiff, reduceIte, and_true, true_and, and_false, false_and, and_self, or_true, true_or, qb_or, reduceCtorEq, qbr_True, qbr_False, q10, q01, qwM, hp1.1, nI_1]
    refine qbr_i (fun c1 => ?_) (fun c1 => ?_)
    · first | exact sgn M2 0 (by omega) hS2 hp2 c1 | exact sgn M2 1 (by omega) hS2 hp2 c2 | exact sgn M2 2 (by omega) hS2 hp2 c3
    · refine qbr_i (fun c2 => ?_) (fun c2 => ?_)
      · first | exact sgn M2 0 (by omega) hS2 hp2 c1 | exact sgn M2 1 (by omega) hS2 hp2 c2 | exact sgn M2 2 (by omega) hS2 hp2 c3
      · refine qbr_i (fun c3 => ?_) (fun c3 => ?_)
        · first | exact sgn M2 0 (by omega) hS2 hp2 c1 | exact sgn M2 1 (by omega) hS2 hp2 c2 | exact sgn M2 2 (by omega) hS2 hp2 c3
        · refine kX11_unit_143 (zX11_fail hS2 hp2) (rfl) (Nat.le_of_ble_eq_true rfl) (show 0 + 1 ≤ 1 + 3 * (8 - d) by omega) ⟨Nat.le_of_ble_eq_true rfl, Nat.le_of_ble_eq_true rfl⟩ ?_
          rintro _ _ ⟨M3, rfl, rfl, hS3, hp3⟩
          refine oX11_unit_146 _ _ _ _ _ _ ?_
          simp only [bX11_unit_146, qsem, qopt_s, qopt2_s, qev, qxs, Nat.reduceEqDiff, reduceIte, and_true, true_and, and_false, false_and, and_self, or_true, true_or, qb_or, reduceCtorEq, qbr_True, qbr_False, q10, q01, qwM, hp1.1, nI_1]
          rw [if_pos rfl] at hp3
          exact bad M3 _ hS3 hp3 (by omega) hq2 (flt_at hr2 hq2 (by omega) (tk1_no hno c1 c2 c3))
  have hq2 := skn_top hpL
  have hq3 := skn_le S p
  have hr2 := skn_run (S := S) (A := (0, d, lt, sg, ss)) (by simp) p
  have hno := skn_no S p
  have at86 : ∀ (M1 : qC), pj M1 = S → pS M1 (skn S p) (-1) d s cs → ¬ (byA S (skn S p) = 40 ∧ d < 8) → AW (mX11_unit, 1 + 3 * (8 - d), 0, 0, none, Q) 86 [some (.ref 136), some (.int (byA S (skn S p))), none, none, none, none] [] (wd C M1 r) 0 0 := by
    intro M1 hS1 hp1 h40
    have let1 : ∀ (l : Nat), l < 3 → byA S (skn S p) = chL l → AW (mX11_unit, 1 + 3 * (8 - d), 0, 0, none, Q) 109 [some (.ref 136), some (.int (byA S (skn S p))), none, none, none, none] [] (wd C M1 r) 0 0 := by
      intro l hl hx
      have hlt : skn S p < cT S := byA_lt hx (by unfold chL; split; decide; split <;> decide)
      have e := RN_1 (T := S.2.1 160) (p := skn S p) (A := (0, d, lt, sg, ss)) (by rw [← byA_in hlt, hx]; exact tk0_l)
      rw [l3 hl] at e
      rw [hx]
      exact at109 M1 _ l hl hS1 hp1 hq3 hlt (RN_tr hr2 e)
    refine oX11_unit_86 _ _ _ _ _ _ ?_
    simp only [bX11_unit_86, qsem, qopt_s, qopt2_s, qev, qxs, Nat.reduceEqDiff, reduceIte, and_true, true_and, and_false, false_and, and_self, or_true, true_or, qb_or, reduceCtorEq, qbr_True, qbr_False, q10, q01, qwM]
    refine qbr_i (fun c1 => ?_) (fun c1 => ?_)
    · first | exact let1 0 (by omega) c1 | exact let1 1 (by omega) c2 | exact let1 2 (by omega) c3
    · refine qbr_i (fun c2 => ?_) (fun c2 => ?_)
      · first | exact let1 0 (by omega) c1 | exact let1 1 (by omega) c2 | exact let1 2 (by omega) c3
      · refine qbr_i (fun c3 => ?_) (fun c3 => ?_)
        · first | exact let1 0 (by omega) c1 | exact let1 1 (by omega) c2 | exact let1 2 (by omega) c3
        · refine kX11_unit_105 (zX11_fail hS1 hp1) (rfl) (Nat.le_of_ble_eq_true rfl) (show 0 + 1 ≤ 1 + 3 * (8 - d) by omega) ⟨Nat.le_of_ble_eq_true rfl, Nat.le_of_ble_eq_true rfl⟩ ?_
          rintro _ _ ⟨M3, rfl, rfl, hS3, hp3⟩
          refine oX11_unit_108 _ _ _ _ _ _ ?_
          simp only [bX11_unit_108, qsem, qopt_s, qopt2_s, qev, qxs, Nat.reduceEqDiff, reduceIte, and_true, true_and, and_false, false_and, and_self, or_true, true_or, qb_or, reduceCtorEq, qbr_True, qbr_False, q10, q01, qwM]
          rw [if_pos rfl] at hp3
          exact bad M3 _ hS3 hp3 hq3 hq2 (flt_at hr2 hq2 (by omega) (tk0_no hno h40 c1 c2 c3))
  have at41 : ∀ (M1 : qC), d < 8 → pj M1 = S → pS M1 (skn S p) (-1) d s cs → byA S (skn S p) = 40 → AW (mX11_unit, 1 + 3 * (8 - d), 0, 0, none, Q) 41 [some (.ref 136), some (.int 40), none, none, none, none] [.ref 136] (wd C (yI (yI M1 136 35 (nI (d + 1))) 136 33 (nI (skn S p + 1))) r) 0 0 := by
    intro M1 hd8 hS1 hp1 hx
    have hlt : skn S p < cT S := byA_lt hx (by decide)
    have e := RN_1 (T := S.2.1 160) (p := skn S p) (A := (0, d, lt, sg, ss)) (B := (0, d + 1, lt, sg, 40 :: ss)) (by rw [← byA_in hlt, hx]; unfold tk; simp [hd8, show isDg 40 = false from by decide])
    have hr3 := RN_tr hr2 e
    refine kX11_unit_41 (hT hd8 _ (skn S p + 1) s cs lt sg (40 :: ss) (by simp only [pjs]; exact hS1) (pS_at (pS_d hp1)) (by omega) (by omega)) rfl (Nat.le_of_ble_eq_true rfl) (show 3 * (8 - d) + 1 ≤ 1 + 3 * (8 - d) by omega) ⟨Nat.le_of_ble_eq_true rfl, Nat.le_of_ble_eq_true rfl⟩ ?_
    rintro _ _ ⟨M2, rfl, rfl, hS2, p2, w2, s2, cs2, hp2, hb2, hs2, hc2, hcase⟩
    have badE : ∀ (M3 : qC) (e : Nat), pj M3 = S → pS M3 p2 (nI e) (d + 1) s2 cs2 → s ≤ s2 → flt S (0, d, lt, sg, ss) p e → Q none (wd C (yI (yI M3 136 33 (nI (p2 + 1))) 136 35 (nI d)) r) := fun M3 e hS3 hp3 hss hf => hQ _ _ ⟨_, rfl, rfl, by simp only [pjs]; exact hS3, p2 + 1, nI e, s2, cs2, pS_d (pS_at hp3), by omega, by omega, hc2, Or.inr ⟨hss, e, rfl, hf⟩⟩
    rcases hcase with ⟨rfl, hpt, hY, st', lt', sg', ss', φ, hrn, haf, hcd, hst⟩ | ⟨hss, e, rfl, hf⟩
    · have hid := skn_id hY.1
      have h4s := hcd.1
      by_cases h41 : byA S p2 = 41
      · have hl2 : p2 < cT S := byA_lt h41 (by decide)
        have hr4 : RN (S.2.1 160) (0, d, lt, sg, ss) p (4, d, lt', sg', (41 :: ss' ++ [40]) ++ ss) (p2 + 1) := by
          refine RN_tr hr3 (RN_tr hrn ?_)
          have := RN_1 (T := S.2.1 160) (p := p2) (A := (st', d + 1, lt', sg', ss' ++ 40 :: ss)) (B := (4, d, lt', sg', 41 :: (ss' ++ 40 :: ss))) (by rw [← byA_in hl2, aft_tk haf rfl hY.1, h41, if_pos ⟨rfl, by omega⟩]; rfl)
          rw [show (41 :: ss' ++ [40]) ++ ss = 41 :: (ss' ++ 40 :: ss) by simp]
          exact this
        refine oX11_unit_44 _ _ _ _ _ _ ?_
        simp only [bX11_unit_44, qsem, qopt_s, qopt2_s, qev, qxs, Nat.reduceEqDiff, reduceIte, and_true, true_and, and_false, false_and, and_self, or_true, true_or, qb_or, reduceCtorEq, qbr_True, qbr_False, q10, q01, qwM, hp2.2.1]
        refine kX11_unit_53 (zX11_look hS2 h1 hp2 (by omega)) (rfl) (Nat.le_of_ble_eq_true rfl) (show 0 + 1 ≤ 1 + 3 * (8 - d) by omega) ⟨Nat.le_of_ble_eq_true rfl, Nat.le_of_ble_eq_true rfl⟩ ?_
        rintro _ _ ⟨M3, rfl, hS3, hp3, rfl⟩
        rw [hid] at hp3 ⊢
        rw [h41]
        refine oX11_unit_56 _ _ _ _ _ _ ?_
        simp only [bX11_unit_56, qsem, qopt_s, qopt2_s, qev, qxs, Nat.reduceEqDiff, reduceIte, and_true, true_and, and_false, false_and, and_self, or_true, true_or, qb_or, reduceCtorEq, qbr_True, qbr_False, q10, q01, qwM, hp2.2.1]
        refine oX11_unit_65 _ _ _ _ _ _ ?_
        simp only [bX11_unit_65, qsem, qopt_s, qopt2_s, qev, qxs, Nat.reduceEqDiff, reduceIte, and_true, true_and, and_false, false_and, and_self, or_true, true_or, qb_or, reduceCtorEq, qbr_True, qbr_False, q10, q01, qwM, hp2.2.1, hp3.1, hp3.2.2.1, nI_1, nIs1]
        exact hQ _ _ ⟨_, rfl, rfl, by simp only [pjs]; exact hS3, p2 + 1, -1, s2, cs2, pS_d (pS_at hp3), by omega, by omega, hc2, Or.inl ⟨rfl, by omega, trivial, 4, lt', sg', 41 :: ss' ++ [40], φ, hr4, Or.inl rfl, hcd, SU_par hd8 hst⟩⟩
      · have hf : flt S (0, d, lt, sg, ss) p p2 := flt_tr (RN_tr hr3 hrn) (aft_flt hpt haf hY.1 (fun q => h41 q.1) hY.2.1 hY.2.2 (fun _ => by omega))
        refine oX11_unit_44 _ _ _ _ _ _ ?_
        simp only [bX11_unit_44, qsem, qopt_s, qopt2_s, qev, qxs, Nat.reduceEqDiff, reduceIte, and_true, true_and, and_false, false_and, and_self, or_true, true_or, qb_or, reduceCtorEq, qbr_True, qbr_False, q10, q01, qwM, hp2.2.1]
        refine kX11_unit_53 (zX11_look hS2 h1 hp2 (by omega)) (rfl) (Nat.le_of_ble_eq_true rfl) (show 0 + 1 ≤ 1 + 3 * (8 - d) by omega) ⟨Nat.le_of_ble_eq_true rfl, Nat.le_of_ble_eq_true rfl⟩ ?_
        rintro _ _ ⟨M3, rfl, hS3, hp3, rfl⟩
        rw [hid] at hp3 ⊢
        refine oX11_unit_56 _ _ _ _ _ _ ?_
        simp only [bX11_unit_56, qsem, qopt_s, qopt2_s, qev, qxs, Nat.reduceEqDiff, reduceIte, and_true, true_and, and_false, false_and, and_self, or_true, true_or, qb_or, reduceCtorEq, qbr_True, qbr_False, q10, q01, qwM, hp2.2.1]
        refine qbr_f (h41) ?_
        refine kX11_unit_62 (zX11_fail hS3 hp3) (rfl) (Nat.le_of_ble_eq_true rfl) (show 0 + 1 ≤ 1 + 3 * (8 - d) by omega) ⟨Nat.le_of_ble_eq_true rfl, Nat.le_of_ble_eq_true rfl⟩ ?_
        rintro _ _ ⟨M4, rfl, rfl, hS4, hp4⟩
        rw [if_pos rfl] at hp4
        refine oX11_unit_65 _ _ _ _ _ _ ?_
        simp only [bX11_unit_65, qsem, qopt_s, qopt2_s, qev, qxs, Nat.reduceEqDiff, reduceIte, and_true, true_and, and_false, false_and, and_self, or_true, true_or, qb_or, reduceCtorEq, qbr_True, qbr_False, q10, q01, qwM, hp2.2.1, hp4.1, hp4.2.2.1, nI_1, nIs1]
        exact badE M4 p2 hS4 hp4 (by omega) hf
    · have he := flt_le hf
      refine oX11_unit_44 _ _ _ _ _ _ ?_
      simp only [bX11_unit_44, qsem, qopt_s, qopt2_s, qev, qxs, Nat.reduceEqDiff, reduceIte, and_true, true_and, and_false, false_and, and_self, or_true, true_or, qb_or, reduceCtorEq, qbr_True, qbr_False, q10, q01, qwM, hp2.2.1]
      refine qbr_f ((i_nm1 (by omega))) ?_
      refine oX11_unit_65 _ _ _ _ _ _ ?_
      simp only [bX11_unit_65, qsem, qopt_s, qopt2_s, qev, qxs, Nat.reduceEqDiff, reduceIte, and_true, true_and, and_false, false_and, and_self, or_true, true_or, qb_or, reduceCtorEq, qbr_True, qbr_False, q10, q01, qwM, hp2.2.1, hp2.1, hp2.2.2.1, nI_1, nIs1]
      exact badE M2 e hS2 hp2 hss (flt_tr hr3 hf)
  refine oX11_unit_0 _ _ _ _ _ _ ?_
  simp only [bX11_unit_0, qsem, qopt_s, qopt2_s, qev, qxs, Nat.reduceEqDiff, reduceIte, and_true, true_and, and_false, false_and, and_self, or_true, true_or, qb_or, reduceCtorEq, qbr_True, qbr_False, q10, q01, qwM]
  refine kX11_unit_1 (zX11_look hS h1 hp (by omega)) (rfl) (Nat.le_of_ble_eq_true rfl) (show 0 + 1 ≤ 1 + 3 * (8 - d) by omega) ⟨Nat.le_of_ble_eq_true rfl, Nat.le_of_ble_eq_true rfl⟩ ?_
  rintro _ _ ⟨M1, rfl, hS1, hp1, rfl⟩
  by_cases h40 : byA S (skn S p) = 40 ∧ d < 8
  · refine oX11_unit_4 _ _ _ _ _ _ ?_; simp only [bX11_unit_4, qsem, qopt_s, qopt2_s, qev, qxs, Nat.reduceEqDiff, reduceIte, and_true, true_and, and_false, false_and, and_self, or_true, true_or, reduceCtorEq, qbr_True, qbr_False, qwM, hp1.1, hp1.2.2.1, nI_1, h40.1, not_true_eq_false]; refine qbr_f (nI_ge (b := 8) h40.2 (by omega)) ?_; exact at41 M1 h40.2 hS1 hp1 h40.1
  · refine oX11_unit_4 _ _ _ _ _ _ ?_; simp only [bX11_unit_4, qsem, qopt_s, qopt2_s, qev, qxs, Nat.reduceEqDiff, reduceIte, and_true, true_and, and_false, false_and, and_self, or_true, true_or, reduceCtorEq, qbr_True, qbr_False, qwM, hp1.1, hp1.2.2.1, nI_1]; by_cases hx : byA S (skn S p) = 40; (refine qbr_t hx ?_; refine qbr_t (nI_le (a := 8) (Nat.le_of_not_lt (fun q => h40 ⟨hx, q⟩)) (by omega)) ?_; exact at86 M1 hS1 hp1 h40); (refine qbr_f hx ?_; exact at86 M1 hS1 hp1 h40)


/-- what a call back may change -/
def rcF (C C' : qC) : Prop := (∀ q j, ¬ (q = 117 ∧ j = 3) → xI C' q j = xI C q j) ∧ (∀ q, q ≠ 118 → q ≠ 119 → xA C' q = xA C q) ∧ xM C' = xM C ∧ ∀ q, q ≠ 120 → xL C' q = xL C q
theorem min_le {x y : Int32} {z : Int32} : (if y < x then y else x) ≤ z ↔ x ≤ z ∨ y ≤ z := by
  by_cases h : y < x
  · rw [if_pos h]
    exact ⟨Or.inr, fun q => q.elim (fun a => Int32.le_trans (Int32.le_of_lt h) a) id⟩
  · rw [if_neg h]
    exact ⟨Or.inl, fun q => q.elim id (fun a => Int32.le_trans (Int32.not_lt.mp h) a)⟩
theorem nI_inj {a b : Nat} (ha : a < 1000) (hb : b < 1000) (h : nI a = nI b) : a = b := i_ninj (by omega) (by omega) h

set_option maxRecDepth 100000 in
set_option maxHeartbeats 4000000 in
theorem zX5_loop_118 {C M : qC} {r : Nat × Nat × Nat} {S : qS} {Q : Option Value → qW → Prop} {u s0 : Nat} {since : Int32} (h1 : W1 S) (h2 : W2 S) (h11 : W11 S) (hI : iN C S) (hM : iM C S) (hu : u < 6) (he : since = nI s0) (h400 : s0 ≤ 400) (h50 : ¬ cK S = 50) (hQ : ∀ C', rcF C C' → iM C' (rcS S 1 (nI u) since) → Q (some (.int 1)) (wd C' M r)) : AW (mX5_addSince, 3, 0, 0, none, Q) 101 [some (.ref 117), some (.int 1), some (.int (nI u)), some (.int since), some (.ref 1), some (.int 1), some (.ref 118), some (.int since)] [] (wd (yA (yI C 117 3 (nI (cK S + 1))) 118 (upd (xA C 118) u (if since < xA C 118 u then since else xA C 118 u))) M r) 0 0 := by
  have hN := h1.2.1
  have hF := h1.2.2.1
  have hK := h1.2.2.2.2.1
  have hok : rcOk S 1 (nI u) since := ⟨Or.inr (Or.inl ⟨rfl, decide_eq_true ⟨nI_pos' (by omega), nI_lt (b := 6) hu (by omega)⟩⟩), Or.inr ⟨by rw [he]; exact nI_pos' (by omega), by rw [he]; exact nI_le (b := 400) h400 (by omega)⟩, h50⟩
  have W1' : W1 (rcS S 1 (nI u) since) := by
    have e := rc_K (s := 1) (whose := nI u) (since := since) h1
    obtain ⟨⟨a0, a1, a2, a3, a4, a5, a6⟩, b1, b2, b3, b4, b5, b6, b7⟩ := h1
    refine ⟨⟨a0, a1, a2, ?_, a4, a5, a6⟩, b1, b2, b3, ?_, b5, b6, b7⟩
    · rw [e]; show S.1 3 + 1 = _; rw [a3, nI_1]
    · rw [e]; omega
  have W2' : W2 (rcS S 1 (nI u) since) := h2
  have W11' : W11 (rcS S 1 (nI u) since) := h11
  generalize hC0 : yA (yI C 117 3 (nI (cK S + 1))) 118 (upd (xA C 118) u (if since < xA C 118 u then since else xA C 118 u)) = C0
  have k1 : ∀ q j, ¬ (q = 117 ∧ j = 3) → xI C0 q j = xI C q j := fun q j h => by rw [← hC0]; simp only [qxs]; rw [if_neg h]
  have k2 : ∀ q, q ≠ 118 → xA C0 q = xA C q := fun q h => by rw [← hC0]; simp only [qxs]; rw [if_neg h]
  have k3 : xM C0 = xM C := by rw [← hC0]; simp only [qxs]
  have k4 : xL C0 = xL C := by rw [← hC0]; simp only [qxs]
  have k5 : xI C0 117 3 = nI (cK S + 1) := by rw [← hC0]; rfl
  have hI0 : iN C0 (rcS S 1 (nI u) since) := by
    show iN C0 S
    unfold iN
    rw [k1 1 3 (by omega), k2 2 (by omega)]
    exact hI
  have hT : ∀ t, t < 6 → snP (rcS S 1 (nI u) since) 1 t (xA C0 118 t) := by
    rw [← hC0]
    exact fun t ht => by
        by_cases e : t = u
        · subst e
          refine snP_rc h1 (hM.2.1 t ht) _ (fun n hn => ?_)
          show upd (xA C 118) t (if since < xA C 118 t then since else xA C 118 t) t ≤ nI n ↔ _
          rw [pk_us, min_le]
          exact or_congr Iff.rfl ⟨fun q => ⟨rfl, rfl, q⟩, fun q => q.2.2⟩
        · refine snP_rc h1 (hM.2.1 t ht) _ (fun n hn => ?_)
          show upd (xA C 118) u (if since < xA C 118 u then since else xA C 118 u) t ≤ nI n ↔ _
          rw [pk_un e]
          exact ⟨Or.inl, fun q => q.elim id (fun z => absurd (nI_inj (by omega) (by omega) z.2.1).symm e)⟩
  have hH : ∀ t, t < 12 → snP (rcS S 1 (nI u) since) 2 t (xA C0 119 t) := by
    rw [← hC0]
    exact fun t ht => snP_rc h1 (hM.2.2.1 t ht) _ (fun n hn => ⟨Or.inl, fun q => q.elim id (fun z => absurd z.1 (by decide))⟩)
  have loop : ∀ (d n : Nat) (C2 : qC), cN S ≤ n + d → s0 ≤ n → n ≤ 400 → onL 120 C0 C2 → (∀ j, j < 128 → (fB C2 120 j = true ↔ mkd S j ∨ ∃ n', n' < n ∧ n' < cN S ∧ s0 ≤ n' ∧ srt S n' < 2 ∧ ofN S n' = j ∧ cnN (rcS S 1 (nI u) since) n')) → AW (mX5_addSince, 3, 0, 0, none, Q) 101 [some (.ref 117), some (.int 1), some (.int (nI u)), some (.int since), some (.ref 1), some (.int 1), some (.ref 118), some (.int (nI n))] [] (wd C2 M r) 0 0 := by
    intro d
    induction d with
    | zero =>
      intro n C2 hd hs hn hon hB
      have e0 : xI C2 1 3 = nI (cN S) := by rw [hon.1, k1 1 3 (by omega)]; exact hI.1
      have hM' : iM C2 (rcS S 1 (nI u) since) := by
        refine ⟨by rw [hon.1, k5, rc_K h1], by rw [hon.2.1]; exact hT, by rw [hon.2.1]; exact hH, fun j hj => ?_⟩
        rw [hB j hj, mkd_rc1 h1 (by decide)]
        constructor
        · rintro ((q | ⟨n', a, b, c, e⟩) | ⟨n', -, a, -, b, c, e⟩)
          · exact Or.inl q
          · exact Or.inr ⟨n', a, b, c, (cnN_rc h1 n').mpr (Or.inl e)⟩
          · exact Or.inr ⟨n', a, b, c, e⟩
        · rintro (q | ⟨n', a, b, c, e⟩)
          · exact Or.inl (Or.inl q)
          · by_cases hs' : s0 ≤ n'
            · exact Or.inr ⟨n', by omega, a, hs', b, c, e⟩
            · rcases (cnN_rc h1 n').mp e with z | z
              · exact Or.inl (Or.inr ⟨n', a, b, c, z⟩)
              · have := z.2
                rw [he] at this
                exact absurd ((nI_leI (by omega) (by omega)).mp this) hs'
      refine oX5_addSince_101 _ _ _ _ _ _ ?_
      simp only [bX5_addSince_101, qsem, qopt_s, qopt2_s, qev, qxs, Nat.reduceEqDiff, reduceIte, and_true, true_and, and_false, false_and, and_self, or_true, true_or, qb_or, reduceCtorEq, qbr_True, qbr_False, q10, q01, qwC, e0]
      refine kX5_addSince_105 (zX8_size_1) (rfl) (Nat.le_of_ble_eq_true rfl) (Nat.le_of_ble_eq_true rfl) ⟨Nat.le_of_ble_eq_true rfl, Nat.le_of_ble_eq_true rfl⟩ ?_
      rintro _ _ ⟨rfl, rfl⟩
      refine oX5_addSince_108 _ _ _ _ _ _ ?_
      simp only [bX5_addSince_108, qsem, qopt_s, qopt2_s, qev, qxs, Nat.reduceEqDiff, reduceIte, and_true, true_and, and_false, false_and, and_self, or_true, true_or, qb_or, reduceCtorEq, qbr_True, qbr_False, q10, q01, qwC, e0]
      refine qbr_t (nI_le (show cN S ≤ n by omega) (by omega)) ?_
      refine oX5_addSince_125 _ _ _ _ _ _ ?_
      simp only [bX5_addSince_125, qsem, qopt_s, qopt2_s, qev, qxs, Nat.reduceEqDiff, reduceIte, and_true, true_and, and_false, false_and, and_self, or_true, true_or, qb_or, reduceCtorEq, qbr_True, qbr_False, q10, q01, qwC, e0]
      exact hQ C2 ⟨fun q j h => by rw [hon.1]; exact k1 q j h, fun q h h' => by rw [hon.2.1]; exact k2 q (by assumption), by rw [hon.2.2.1]; exact k3, fun q h => by rw [hon.2.2.2 q h, k4]⟩ hM'
    | succ d ih =>
      intro n C2 hd hs hn hon hB
      by_cases hnN : n < cN S
      · have e0 : xI C2 1 3 = nI (cN S) := by rw [hon.1, k1 1 3 (by omega)]; exact hI.1
        refine oX5_addSince_101 _ _ _ _ _ _ ?_
        simp only [bX5_addSince_101, qsem, qopt_s, qopt2_s, qev, qxs, Nat.reduceEqDiff, reduceIte, and_true, true_and, and_false, false_and, and_self, or_true, true_or, qb_or, reduceCtorEq, qbr_True, qbr_False, q10, q01, qwC, e0, nI_1]
        refine kX5_addSince_105 (zX8_size_1) (rfl) (Nat.le_of_ble_eq_true rfl) (Nat.le_of_ble_eq_true rfl) ⟨Nat.le_of_ble_eq_true rfl, Nat.le_of_ble_eq_true rfl⟩ ?_
        rintro _ _ ⟨rfl, rfl⟩
        refine oX5_addSince_108 _ _ _ _ _ _ ?_
        simp only [bX5_addSince_108, qsem, qopt_s, qopt2_s, qev, qxs, Nat.reduceEqDiff, reduceIte, and_true, true_and, and_false, false_and, and_self, or_true, true_or, qb_or, reduceCtorEq, qbr_True, qbr_False, q10, q01, qwC, e0, nI_1]
        refine qbr_f (nI_ge hnN (by omega)) ?_
        refine kX5_addSince_116 (zX5_look W1' W2' W11' (onL_N hon hI0) (show n < cN (rcS S 1 (nI u) since) from hnN) (by rw [hon.2.1]; exact hT) (by rw [hon.2.1]; exact hH)) (rfl) (Nat.le_of_ble_eq_true rfl) (Nat.le_of_ble_eq_true rfl) ⟨Nat.le_of_ble_eq_true rfl, Nat.le_of_ble_eq_true rfl⟩ ?_
        rintro _ _ ⟨C3, rfl, rfl, hon3, hB3⟩
        refine oX5_addSince_119 _ _ _ _ _ _ ?_
        simp only [bX5_addSince_119, qsem, qopt_s, qopt2_s, qev, qxs, Nat.reduceEqDiff, reduceIte, and_true, true_and, and_false, false_and, and_self, or_true, true_or, qb_or, reduceCtorEq, qbr_True, qbr_False, q10, q01, qwC, e0, nI_1]
        refine ih (n + 1) C3 (by omega) (by omega) (by omega) (onL_tr hon hon3) (fun j hj => ?_)
        rw [hB3 j hj, Bool.or_eq_true, hB j hj, Bool.and_eq_true, decide_eq_true_eq, dc_iff]
        constructor
        · rintro ((q | ⟨n', a, b, c⟩) | ⟨a, b, c⟩); exact Or.inl q; exact Or.inr ⟨n', by omega, b, c⟩; exact Or.inr ⟨n, by omega, hnN, hs, b, a.symm, c⟩
        · rintro (q | ⟨n', a, b, c, e, f, g⟩); exact Or.inl (Or.inl q); by_cases en : n' = n; (subst en; exact Or.inr ⟨f.symm, e, g⟩); exact Or.inl (Or.inr ⟨n', by omega, b, c, e, f, g⟩)
      · have := ih n C2 (by omega) hs hn hon hB
        exact this
  rw [he] at hC0 ⊢
  rw [he] at loop hI0
  exact loop (cN S) s0 C0 (by omega) (Nat.le_refl _) h400 (onL_rf _ _) (fun j hj => by
    have e : fB C0 120 j = fB C 120 j := by unfold fB; rw [k4]
    rw [e, hM.2.2.2 j hj]
    exact ⟨Or.inl, fun q => q.elim id (fun ⟨n', a, _, c, _⟩ => by omega)⟩)
set_option maxRecDepth 100000 in
set_option maxHeartbeats 4000000 in
theorem zX5_loop_119 {C M : qC} {r : Nat × Nat × Nat} {S : qS} {Q : Option Value → qW → Prop} {u s0 : Nat} {since : Int32} (h1 : W1 S) (h2 : W2 S) (h11 : W11 S) (hI : iN C S) (hM : iM C S) (hu : u < 12) (he : since = nI s0) (h400 : s0 ≤ 400) (h50 : ¬ cK S = 50) (hQ : ∀ C', rcF C C' → iM C' (rcS S 2 (nI u) since) → Q (some (.int 1)) (wd C' M r)) : AW (mX5_addSince, 3, 0, 0, none, Q) 101 [some (.ref 117), some (.int 2), some (.int (nI u)), some (.int since), some (.ref 1), some (.int 1), some (.ref 119), some (.int since)] [] (wd (yA (yI C 117 3 (nI (cK S + 1))) 119 (upd (xA C 119) u (if since < xA C 119 u then since else xA C 119 u))) M r) 0 0 := by
  have hN := h1.2.1
  have hF := h1.2.2.1
  have hK := h1.2.2.2.2.1
  have hok : rcOk S 2 (nI u) since := ⟨Or.inr (Or.inr ⟨rfl, decide_eq_true ⟨nI_pos' (by omega), nI_lt (b := 12) hu (by omega)⟩⟩), Or.inr ⟨by rw [he]; exact nI_pos' (by omega), by rw [he]; exact nI_le (b := 400) h400 (by omega)⟩, h50⟩
  have W1' : W1 (rcS S 2 (nI u) since) := by
    have e := rc_K (s := 2) (whose := nI u) (since := since) h1
    obtain ⟨⟨a0, a1, a2, a3, a4, a5, a6⟩, b1, b2, b3, b4, b5, b6, b7⟩ := h1
    refine ⟨⟨a0, a1, a2, ?_, a4, a5, a6⟩, b1, b2, b3, ?_, b5, b6, b7⟩
    · rw [e]; show S.1 3 + 1 = _; rw [a3, nI_1]
    · rw [e]; omega
  have W2' : W2 (rcS S 2 (nI u) since) := h2
  have W11' : W11 (rcS S 2 (nI u) since) := h11
  generalize hC0 : yA (yI C 117 3 (nI (cK S + 1))) 119 (upd (xA C 119) u (if since < xA C 119 u then since else xA C 119 u)) = C0
  have k1 : ∀ q j, ¬ (q = 117 ∧ j = 3) → xI C0 q j = xI C q j := fun q j h => by rw [← hC0]; simp only [qxs]; rw [if_neg h]
  have k2 : ∀ q, q ≠ 119 → xA C0 q = xA C q := fun q h => by rw [← hC0]; simp only [qxs]; rw [if_neg h]
  have k3 : xM C0 = xM C := by rw [← hC0]; simp only [qxs]
  have k4 : xL C0 = xL C := by rw [← hC0]; simp only [qxs]
  have k5 : xI C0 117 3 = nI (cK S + 1) := by rw [← hC0]; rfl
  have hI0 : iN C0 (rcS S 2 (nI u) since) := by
    show iN C0 S
    unfold iN
    rw [k1 1 3 (by omega), k2 2 (by omega)]
    exact hI
  have hT : ∀ t, t < 6 → snP (rcS S 2 (nI u) since) 1 t (xA C0 118 t) := by
    rw [← hC0]
    exact fun t ht => snP_rc h1 (hM.2.1 t ht) _ (fun n hn => ⟨Or.inl, fun q => q.elim id (fun z => absurd z.1 (by decide))⟩)
  have hH : ∀ t, t < 12 → snP (rcS S 2 (nI u) since) 2 t (xA C0 119 t) := by
    rw [← hC0]
    exact fun t ht => by
        by_cases e : t = u
        · subst e
          refine snP_rc h1 (hM.2.2.1 t ht) _ (fun n hn => ?_)
          show upd (xA C 119) t (if since < xA C 119 t then since else xA C 119 t) t ≤ nI n ↔ _
          rw [pk_us, min_le]
          exact or_congr Iff.rfl ⟨fun q => ⟨rfl, rfl, q⟩, fun q => q.2.2⟩
        · refine snP_rc h1 (hM.2.2.1 t ht) _ (fun n hn => ?_)
          show upd (xA C 119) u (if since < xA C 119 u then since else xA C 119 u) t ≤ nI n ↔ _
          rw [pk_un e]
          exact ⟨Or.inl, fun q => q.elim id (fun z => absurd (nI_inj (by omega) (by omega) z.2.1).symm e)⟩
  have loop : ∀ (d n : Nat) (C2 : qC), cN S ≤ n + d → s0 ≤ n → n ≤ 400 → onL 120 C0 C2 → (∀ j, j < 128 → (fB C2 120 j = true ↔ mkd S j ∨ ∃ n', n' < n ∧ n' < cN S ∧ s0 ≤ n' ∧ srt S n' < 2 ∧ ofN S n' = j ∧ cnN (rcS S 2 (nI u) since) n')) → AW (mX5_addSince, 3, 0, 0, none, Q) 101 [some (.ref 117), some (.int 2), some (.int (nI u)), some (.int since), some (.ref 1), some (.int 1), some (.ref 119), some (.int (nI n))] [] (wd C2 M r) 0 0 := by
    intro d
    induction d with
    | zero =>
      intro n C2 hd hs hn hon hB
      have e0 : xI C2 1 3 = nI (cN S) := by rw [hon.1, k1 1 3 (by omega)]; exact hI.1
      have hM' : iM C2 (rcS S 2 (nI u) since) := by
        refine ⟨by rw [hon.1, k5, rc_K h1], by rw [hon.2.1]; exact hT, by rw [hon.2.1]; exact hH, fun j hj => ?_⟩
        rw [hB j hj, mkd_rc1 h1 (by decide)]
        constructor
        · rintro ((q | ⟨n', a, b, c, e⟩) | ⟨n', -, a, -, b, c, e⟩)
          · exact Or.inl q
          · exact Or.inr ⟨n', a, b, c, (cnN_rc h1 n').mpr (Or.inl e)⟩
          · exact Or.inr ⟨n', a, b, c, e⟩
        · rintro (q | ⟨n', a, b, c, e⟩)
          · exact Or.inl (Or.inl q)
          · by_cases hs' : s0 ≤ n'
            · exact Or.inr ⟨n', by omega, a, hs', b, c, e⟩
            · rcases (cnN_rc h1 n').mp e with z | z
              · exact Or.inl (Or.inr ⟨n', a, b, c, z⟩)
              · have := z.2
                rw [he] at this
                exact absurd ((nI_leI (by omega) (by omega)).mp this) hs'
      refine oX5_addSince_101 _ _ _ _ _ _ ?_
      simp only [bX5_addSince_101, qsem, qopt_s, qopt2_s, qev, qxs, Nat.reduceEqDiff, reduceIte, and_true, true_and, and_false, false_and, and_self, or_true, true_or, qb_or, reduceCtorEq, qbr_True, qbr_False, q10, q01, qwC, e0]
      refine kX5_addSince_105 (zX8_size_1) (rfl) (Nat.le_of_ble_eq_true rfl) (Nat.le_of_ble_eq_true rfl) ⟨Nat.le_of_ble_eq_true rfl, Nat.le_of_ble_eq_true rfl⟩ ?_
      rintro _ _ ⟨rfl, rfl⟩
      refine oX5_addSince_108 _ _ _ _ _ _ ?_
      simp only [bX5_addSince_108, qsem, qopt_s, qopt2_s, qev, qxs, Nat.reduceEqDiff, reduceIte, and_true, true_and, and_false, false_and, and_self, or_true, true_or, qb_or, reduceCtorEq, qbr_True, qbr_False, q10, q01, qwC, e0]
      refine qbr_t (nI_le (show cN S ≤ n by omega) (by omega)) ?_
      refine oX5_addSince_125 _ _ _ _ _ _ ?_
      simp only [bX5_addSince_125, qsem, qopt_s, qopt2_s, qev, qxs, Nat.reduceEqDiff, reduceIte, and_true, true_and, and_false, false_and, and_self, or_true, true_or, qb_or, reduceCtorEq, qbr_True, qbr_False, q10, q01, qwC, e0]
      exact hQ C2 ⟨fun q j h => by rw [hon.1]; exact k1 q j h, fun q h h' => by rw [hon.2.1]; exact k2 q (by assumption), by rw [hon.2.2.1]; exact k3, fun q h => by rw [hon.2.2.2 q h, k4]⟩ hM'
    | succ d ih =>
      intro n C2 hd hs hn hon hB
      by_cases hnN : n < cN S
      · have e0 : xI C2 1 3 = nI (cN S) := by rw [hon.1, k1 1 3 (by omega)]; exact hI.1
        refine oX5_addSince_101 _ _ _ _ _ _ ?_
        simp only [bX5_addSince_101, qsem, qopt_s, qopt2_s, qev, qxs, Nat.reduceEqDiff, reduceIte, and_true, true_and, and_false, false_and, and_self, or_true, true_or, qb_or, reduceCtorEq, qbr_True, qbr_False, q10, q01, qwC, e0, nI_1]
        refine kX5_addSince_105 (zX8_size_1) (rfl) (Nat.le_of_ble_eq_true rfl) (Nat.le_of_ble_eq_true rfl) ⟨Nat.le_of_ble_eq_true rfl, Nat.le_of_ble_eq_true rfl⟩ ?_
        rintro _ _ ⟨rfl, rfl⟩
        refine oX5_addSince_108 _ _ _ _ _ _ ?_
        simp only [bX5_addSince_108, qsem, qopt_s, qopt2_s, qev, qxs, Nat.reduceEqDiff, reduceIte, and_true, true_and, and_false, false_and, and_self, or_true, true_or, qb_or, reduceCtorEq, qbr_True, qbr_False, q10, q01, qwC, e0, nI_1]
        refine qbr_f (nI_ge hnN (by omega)) ?_
        refine kX5_addSince_116 (zX5_look W1' W2' W11' (onL_N hon hI0) (show n < cN (rcS S 2 (nI u) since) from hnN) (by rw [hon.2.1]; exact hT) (by rw [hon.2.1]; exact hH)) (rfl) (Nat.le_of_ble_eq_true rfl) (Nat.le_of_ble_eq_true rfl) ⟨Nat.le_of_ble_eq_true rfl, Nat.le_of_ble_eq_true rfl⟩ ?_
        rintro _ _ ⟨C3, rfl, rfl, hon3, hB3⟩
        refine oX5_addSince_119 _ _ _ _ _ _ ?_
        simp only [bX5_addSince_119, qsem, qopt_s, qopt2_s, qev, qxs, Nat.reduceEqDiff, reduceIte, and_true, true_and, and_false, false_and, and_self, or_true, true_or, qb_or, reduceCtorEq, qbr_True, qbr_False, q10, q01, qwC, e0, nI_1]
        refine ih (n + 1) C3 (by omega) (by omega) (by omega) (onL_tr hon hon3) (fun j hj => ?_)
        rw [hB3 j hj, Bool.or_eq_true, hB j hj, Bool.and_eq_true, decide_eq_true_eq, dc_iff]
        constructor
        · rintro ((q | ⟨n', a, b, c⟩) | ⟨a, b, c⟩); exact Or.inl q; exact Or.inr ⟨n', by omega, b, c⟩; exact Or.inr ⟨n, by omega, hnN, hs, b, a.symm, c⟩
        · rintro (q | ⟨n', a, b, c, e, f, g⟩); exact Or.inl (Or.inl q); by_cases en : n' = n; (subst en; exact Or.inr ⟨f.symm, e, g⟩); exact Or.inl (Or.inr ⟨n', by omega, b, c, e, f, g⟩)
      · have := ih n C2 (by omega) hs hn hon hB
        exact this
  rw [he] at hC0 ⊢
  rw [he] at loop hI0
  exact loop (cN S) s0 C0 (by omega) (Nat.le_refl _) h400 (onL_rf _ _) (fun j hj => by
    have e : fB C0 120 j = fB C 120 j := by unfold fB; rw [k4]
    rw [e, hM.2.2.2 j hj]
    exact ⟨Or.inl, fun q => q.elim id (fun ⟨n', a, _, c, _⟩ => by omega)⟩)
set_option maxRecDepth 100000 in
set_option maxHeartbeats 4000000 in
theorem zX5_addSince {C M : qC} {r : Nat × Nat × Nat} {S : qS} {s whose since : Int32} (h1 : W1 S) (h2 : W2 S) (h11 : W11 S) (hI : iN C S) (hM : iM C S) (hs0 : ¬ s = 0) : CT mX5_addSince 3 0 0 [.ref 117, .int s, .int whose, .int since, .ref 1] (wd C M r) (fun r' w' => (¬ rcOk S s whose since ∧ w' = wd C M r ∧ r' = some (.int 0)) ∨ (rcOk S s whose since ∧ r' = some (.int 1) ∧ ∃ C', w' = wd C' M r ∧ rcF C C' ∧ iM C' (rcS S s whose since))) := by
  have hK := h1.2.2.2.2.1
  have e50 : (nI (cK S) < (50 : Int32)) = (cK S < 50) := nIlt (b := 50) (by omega) (by omega)
  refine eX5_addSince (AW_gen (fun Q hQ => ?_))
  have no : ¬ rcOk S s whose since → Q (some (.int 0)) (wd C M r) := fun h => hQ _ _ (Or.inl ⟨h, rfl, rfl⟩)
  have bad : ¬ ((s = 1 ∧ isT whose = true) ∨ (s = 2 ∧ isH whose = true)) → AW (mX5_addSince, 3, 0, 0, none, Q) 29 [some (.ref 117), some (.int s), some (.int whose), some (.int since), some (.ref 1), none, none, none] [.int 0] (wd C M r) 0 0 := by
    intro hk
    refine oX5_addSince_29 _ _ _ _ _ _ ?_
    simp only [bX5_addSince_29, qsem, qopt_s, qopt2_s, qev, qxs, Nat.reduceEqDiff, reduceIte, and_true, true_and, and_false, false_and, and_self, or_true, true_or, qb_or, reduceCtorEq, qbr_True, qbr_False, q10, q01, qwC]
    refine oX5_addSince_56 _ _ _ _ _ _ ?_
    simp only [bX5_addSince_56, qsem, qopt_s, qopt2_s, qev, qxs, Nat.reduceEqDiff, reduceIte, and_true, true_and, and_false, false_and, and_self, or_true, true_or, qb_or, reduceCtorEq, qbr_True, qbr_False, q10, q01, qwC]
    exact no (fun q => hk (q.1.elim (fun z => absurd z.1 hs0) id))
  have good : ((s = 1 ∧ isT whose = true) ∨ (s = 2 ∧ isH whose = true)) → AW (mX5_addSince, 3, 0, 0, none, Q) 29 [some (.ref 117), some (.int s), some (.int whose), some (.int since), some (.ref 1), none, none, none] [.int 1] (wd C M r) 0 0 := by
    intro hk
    have fin : ¬ since < 0 → ¬ (400 : Int32) < since → cK S < 50 → AW (mX5_addSince, 3, 0, 0, none, Q) 58 [some (.ref 117), some (.int s), some (.int whose), some (.int since), some (.ref 1), some (.int 1), none, none] [] (wd C M r) 0 0 := by
      intro a b c
      obtain ⟨s0, hs1, he⟩ := i_bd (x := since) (n := 401) (Int32.not_lt.mp a) (by rw [i_lt]; have := Int32.not_lt.mp b; rw [i_le] at this; simp only [Int32.reduceToInt] at this; rw [i_n (by omega)]; omega) (by omega)
      have hok : rcOk S s whose since := ⟨hk.elim (fun q => Or.inr (Or.inl q)) (fun q => Or.inr (Or.inr q)), Or.inr ⟨Int32.not_lt.mp a, Int32.not_lt.mp b⟩, by omega⟩
      rcases hk with ⟨rfl, ht⟩ | ⟨rfl, ht⟩
      · obtain ⟨u, hu, rfl⟩ := isT_of ht
        have hcu := nIcl (show u < 1000 by omega)
        have hl := zX5_loop_118 (C := C) (M := M) (r := r) (Q := Q) h1 h2 h11 hI hM hu he (by omega) (by omega) (fun C' a b => hQ _ _ (Or.inr ⟨hok, rfl, C', rfl, a, b⟩))
        refine oX5_addSince_58 _ _ _ _ _ _ ?_
        simp only [bX5_addSince_58, qsem, qopt_s, qopt2_s, qev, qxs, Nat.reduceEqDiff, reduceIte, and_true, true_and, and_false, false_and, and_self, or_true, true_or, qb_or, reduceCtorEq, qbr_True, qbr_False, q10, q01, qwC, hM.1, nI_1, hcu]
        refine oX5_addSince_84 _ _ _ _ _ _ ?_
        simp only [bX5_addSince_84, qsem, qopt_s, qopt2_s, qev, qxs, Nat.reduceEqDiff, reduceIte, and_true, true_and, and_false, false_and, and_self, or_true, true_or, qb_or, reduceCtorEq, qbr_True, qbr_False, q10, q01, qwC, hM.1, nI_1, hcu]
        refine ⟨nI_vp (by omega) (by omega), ?_⟩
        refine kX5_addSince_94 (Nat.le_of_ble_eq_true rfl) (Nat.le_of_ble_eq_true rfl) (Nat.le_of_ble_eq_true rfl) (Nat.le_of_ble_eq_true rfl) ?_
        refine oX5_addSince_97 _ _ _ _ _ _ ?_
        simp only [bX5_addSince_97, qsem, qopt_s, qopt2_s, qev, qxs, Nat.reduceEqDiff, reduceIte, and_true, true_and, and_false, false_and, and_self, or_true, true_or, qb_or, reduceCtorEq, qbr_True, qbr_False, q10, q01, qwC, hM.1, nI_1, hcu]
        refine ⟨nI_vp (by omega) (by omega), ?_⟩
        exact hl
      · obtain ⟨u, hu, rfl⟩ := isH_of ht
        have hcu := nIcl (show u < 1000 by omega)
        have hl := zX5_loop_119 (C := C) (M := M) (r := r) (Q := Q) h1 h2 h11 hI hM hu he (by omega) (by omega) (fun C' a b => hQ _ _ (Or.inr ⟨hok, rfl, C', rfl, a, b⟩))
        refine oX5_addSince_58 _ _ _ _ _ _ ?_
        simp only [bX5_addSince_58, qsem, qopt_s, qopt2_s, qev, qxs, Nat.reduceEqDiff, reduceIte, and_true, true_and, and_false, false_and, and_self, or_true, true_or, qb_or, reduceCtorEq, qbr_True, qbr_False, q10, q01, qwC, hM.1, nI_1, hcu]
        refine qbr_f ((by decide)) ?_
        refine oX5_addSince_80 _ _ _ _ _ _ ?_
        simp only [bX5_addSince_80, qsem, qopt_s, qopt2_s, qev, qxs, Nat.reduceEqDiff, reduceIte, and_true, true_and, and_false, false_and, and_self, or_true, true_or, qb_or, reduceCtorEq, qbr_True, qbr_False, q10, q01, qwC, hM.1, nI_1, hcu]
        refine oX5_addSince_84 _ _ _ _ _ _ ?_
        simp only [bX5_addSince_84, qsem, qopt_s, qopt2_s, qev, qxs, Nat.reduceEqDiff, reduceIte, and_true, true_and, and_false, false_and, and_self, or_true, true_or, qb_or, reduceCtorEq, qbr_True, qbr_False, q10, q01, qwC, hM.1, nI_1, hcu]
        refine ⟨nI_vp (by omega) (by omega), ?_⟩
        refine kX5_addSince_94 (Nat.le_of_ble_eq_true rfl) (Nat.le_of_ble_eq_true rfl) (Nat.le_of_ble_eq_true rfl) (Nat.le_of_ble_eq_true rfl) ?_
        refine oX5_addSince_97 _ _ _ _ _ _ ?_
        simp only [bX5_addSince_97, qsem, qopt_s, qopt2_s, qev, qxs, Nat.reduceEqDiff, reduceIte, and_true, true_and, and_false, false_and, and_self, or_true, true_or, qb_or, reduceCtorEq, qbr_True, qbr_False, q10, q01, qwC, hM.1, nI_1, hcu]
        refine ⟨nI_vp (by omega) (by omega), ?_⟩
        exact hl
    refine oX5_addSince_29 _ _ _ _ _ _ ?_
    simp only [bX5_addSince_29, qsem, qopt_s, qopt2_s, qev, qxs, Nat.reduceEqDiff, reduceIte, and_true, true_and, and_false, false_and, and_self, or_true, true_or, qb_or, reduceCtorEq, qbr_True, qbr_False, q10, q01, qwC, hM.1, e50]
    refine qbr_i (fun c1 => ?_) (fun c1 => ?_)
    · refine oX5_addSince_56 _ _ _ _ _ _ ?_
      simp only [bX5_addSince_56, qsem, qopt_s, qopt2_s, qev, qxs, Nat.reduceEqDiff, reduceIte, and_true, true_and, and_false, false_and, and_self, or_true, true_or, qb_or, reduceCtorEq, qbr_True, qbr_False, q10, q01, qwC, hM.1, e50]
      first | exact no (fun q => q.2.1.elim hs0 (fun z => absurd c1 (Int32.not_lt.mpr z.1))) | exact no (fun q => q.2.1.elim hs0 (fun z => absurd c2 (Int32.not_lt.mpr z.2))) | exact no (fun q => q.2.2 (by omega))
    · refine qbr_i (fun c2 => ?_) (fun c2 => ?_)
      · refine oX5_addSince_56 _ _ _ _ _ _ ?_
        simp only [bX5_addSince_56, qsem, qopt_s, qopt2_s, qev, qxs, Nat.reduceEqDiff, reduceIte, and_true, true_and, and_false, false_and, and_self, or_true, true_or, qb_or, reduceCtorEq, qbr_True, qbr_False, q10, q01, qwC, hM.1, e50]
        first | exact no (fun q => q.2.1.elim hs0 (fun z => absurd c1 (Int32.not_lt.mpr z.1))) | exact no (fun q => q.2.1.elim hs0 (fun z => absurd c2 (Int32.not_lt.mpr z.2))) | exact no (fun q => q.2.2 (by omega))
      · refine qbr_i (fun c3 => ?_) (fun c3 => ?_)
        · exact fin c1 c2 c3
        · refine oX5_addSince_56 _ _ _ _ _ _ ?_
          simp only [bX5_addSince_56, qsem, qopt_s, qopt2_s, qev, qxs, Nat.reduceEqDiff, reduceIte, and_true, true_and, and_false, false_and, and_self, or_true, true_or, qb_or, reduceCtorEq, qbr_True, qbr_False, q10, q01, qwC, hM.1, e50]
          first | exact no (fun q => q.2.1.elim hs0 (fun z => absurd c1 (Int32.not_lt.mpr z.1))) | exact no (fun q => q.2.1.elim hs0 (fun z => absurd c2 (Int32.not_lt.mpr z.2))) | exact no (fun q => q.2.2 (by omega))
  refine oX5_addSince_0 _ _ _ _ _ _ ?_
  simp only [bX5_addSince_0, qsem, qopt_s, qopt2_s, qev, qxs, Nat.reduceEqDiff, reduceIte, and_true, true_and, and_false, false_and, and_self, or_true, true_or, qb_or, reduceCtorEq, qbr_True, qbr_False, q10, q01, qwC, qb_0]
  refine qbr_i (fun c1 => ?_) (fun c1 => ?_)
  · refine kX5_addSince_6 (zX10_isTool) (Nat.le_of_ble_eq_true rfl) (Nat.le_of_ble_eq_true rfl) ⟨Nat.le_of_ble_eq_true rfl, Nat.le_of_ble_eq_true rfl⟩ ?_
    rintro _ _ ⟨rfl, rfl⟩
    refine oX5_addSince_9 _ _ _ _ _ _ ?_
    simp only [bX5_addSince_9, qsem, qopt_s, qopt2_s, qev, qxs, Nat.reduceEqDiff, reduceIte, and_true, true_and, and_false, false_and, and_self, or_true, true_or, qb_or, reduceCtorEq, qbr_True, qbr_False, q10, q01, qwC, qb_0]
    refine qbr_i (fun c2 => ?_) (fun c2 => ?_)
    · refine oX5_addSince_12 _ _ _ _ _ _ ?_
      simp only [bX5_addSince_12, qsem, qopt_s, qopt2_s, qev, qxs, Nat.reduceEqDiff, reduceIte, and_true, true_and, and_false, false_and, and_self, or_true, true_or, qb_or, reduceCtorEq, qbr_True, qbr_False, q10, q01, qwC, qb_0]
      refine qbr_i (fun c3 => ?_) (fun c3 => ?_)
      · refine kX5_addSince_18 (zX10_isHand) (Nat.le_of_ble_eq_true rfl) (Nat.le_of_ble_eq_true rfl) ⟨Nat.le_of_ble_eq_true rfl, Nat.le_of_ble_eq_true rfl⟩ ?_
        rintro _ _ ⟨rfl, rfl⟩
        refine oX5_addSince_21 _ _ _ _ _ _ ?_
        simp only [bX5_addSince_21, qsem, qopt_s, qopt2_s, qev, qxs, Nat.reduceEqDiff, reduceIte, and_true, true_and, and_false, false_and, and_self, or_true, true_or, qb_or, reduceCtorEq, qbr_True, qbr_False, q10, q01, qwC, qb_0]
        refine qbr_i (fun c4 => ?_) (fun c4 => ?_)
        · refine oX5_addSince_28 _ _ _ _ _ _ ?_
          simp only [bX5_addSince_28, qsem, qopt_s, qopt2_s, qev, qxs, Nat.reduceEqDiff, reduceIte, and_true, true_and, and_false, false_and, and_self, or_true, true_or, qb_or, reduceCtorEq, qbr_True, qbr_False, q10, q01, qwC, qb_0]
          first | exact good (Or.inl ⟨c1, (Bool.not_eq_false _).mp c2⟩) | exact good (Or.inr ⟨c3, (Bool.not_eq_false _).mp c4⟩) | exact good (Or.inr ⟨c2, (Bool.not_eq_false _).mp c3⟩) | exact bad (fun q => q.elim (fun z => by rw [z.2] at c2; exact Bool.noConfusion c2) (fun z => by rw [z.2] at c4; exact Bool.noConfusion c4)) | exact bad (fun q => q.elim (fun z => by rw [z.2] at c2; exact Bool.noConfusion c2) (fun z => c3 z.1)) | exact bad (fun q => q.elim (fun z => c1 z.1) (fun z => by rw [z.2] at c3; exact Bool.noConfusion c3)) | exact bad (fun q => q.elim (fun z => c1 z.1) (fun z => c2 z.1))
        · refine oX5_addSince_24 _ _ _ _ _ _ ?_
          simp only [bX5_addSince_24, qsem, qopt_s, qopt2_s, qev, qxs, Nat.reduceEqDiff, reduceIte, and_true, true_and, and_false, false_and, and_self, or_true, true_or, qb_or, reduceCtorEq, qbr_True, qbr_False, q10, q01, qwC, qb_0]
          first | exact good (Or.inl ⟨c1, (Bool.not_eq_false _).mp c2⟩) | exact good (Or.inr ⟨c3, (Bool.not_eq_false _).mp c4⟩) | exact good (Or.inr ⟨c2, (Bool.not_eq_false _).mp c3⟩) | exact bad (fun q => q.elim (fun z => by rw [z.2] at c2; exact Bool.noConfusion c2) (fun z => by rw [z.2] at c4; exact Bool.noConfusion c4)) | exact bad (fun q => q.elim (fun z => by rw [z.2] at c2; exact Bool.noConfusion c2) (fun z => c3 z.1)) | exact bad (fun q => q.elim (fun z => c1 z.1) (fun z => by rw [z.2] at c3; exact Bool.noConfusion c3)) | exact bad (fun q => q.elim (fun z => c1 z.1) (fun z => c2 z.1))
      · refine oX5_addSince_28 _ _ _ _ _ _ ?_
        simp only [bX5_addSince_28, qsem, qopt_s, qopt2_s, qev, qxs, Nat.reduceEqDiff, reduceIte, and_true, true_and, and_false, false_and, and_self, or_true, true_or, qb_or, reduceCtorEq, qbr_True, qbr_False, q10, q01, qwC, qb_0]
        first | exact good (Or.inl ⟨c1, (Bool.not_eq_false _).mp c2⟩) | exact good (Or.inr ⟨c3, (Bool.not_eq_false _).mp c4⟩) | exact good (Or.inr ⟨c2, (Bool.not_eq_false _).mp c3⟩) | exact bad (fun q => q.elim (fun z => by rw [z.2] at c2; exact Bool.noConfusion c2) (fun z => by rw [z.2] at c4; exact Bool.noConfusion c4)) | exact bad (fun q => q.elim (fun z => by rw [z.2] at c2; exact Bool.noConfusion c2) (fun z => c3 z.1)) | exact bad (fun q => q.elim (fun z => c1 z.1) (fun z => by rw [z.2] at c3; exact Bool.noConfusion c3)) | exact bad (fun q => q.elim (fun z => c1 z.1) (fun z => c2 z.1))
    · refine oX5_addSince_24 _ _ _ _ _ _ ?_
      simp only [bX5_addSince_24, qsem, qopt_s, qopt2_s, qev, qxs, Nat.reduceEqDiff, reduceIte, and_true, true_and, and_false, false_and, and_self, or_true, true_or, qb_or, reduceCtorEq, qbr_True, qbr_False, q10, q01, qwC, qb_0]
      first | exact good (Or.inl ⟨c1, (Bool.not_eq_false _).mp c2⟩) | exact good (Or.inr ⟨c3, (Bool.not_eq_false _).mp c4⟩) | exact good (Or.inr ⟨c2, (Bool.not_eq_false _).mp c3⟩) | exact bad (fun q => q.elim (fun z => by rw [z.2] at c2; exact Bool.noConfusion c2) (fun z => by rw [z.2] at c4; exact Bool.noConfusion c4)) | exact bad (fun q => q.elim (fun z => by rw [z.2] at c2; exact Bool.noConfusion c2) (fun z => c3 z.1)) | exact bad (fun q => q.elim (fun z => c1 z.1) (fun z => by rw [z.2] at c3; exact Bool.noConfusion c3)) | exact bad (fun q => q.elim (fun z => c1 z.1) (fun z => c2 z.1))
  · refine oX5_addSince_12 _ _ _ _ _ _ ?_
    simp only [bX5_addSince_12, qsem, qopt_s, qopt2_s, qev, qxs, Nat.reduceEqDiff, reduceIte, and_true, true_and, and_false, false_and, and_self, or_true, true_or, qb_or, reduceCtorEq, qbr_True, qbr_False, q10, q01, qwC, qb_0]
    refine qbr_i (fun c2 => ?_) (fun c2 => ?_)
    · refine kX5_addSince_18 (zX10_isHand) (Nat.le_of_ble_eq_true rfl) (Nat.le_of_ble_eq_true rfl) ⟨Nat.le_of_ble_eq_true rfl, Nat.le_of_ble_eq_true rfl⟩ ?_
      rintro _ _ ⟨rfl, rfl⟩
      refine oX5_addSince_21 _ _ _ _ _ _ ?_
      simp only [bX5_addSince_21, qsem, qopt_s, qopt2_s, qev, qxs, Nat.reduceEqDiff, reduceIte, and_true, true_and, and_false, false_and, and_self, or_true, true_or, qb_or, reduceCtorEq, qbr_True, qbr_False, q10, q01, qwC, qb_0]
      refine qbr_i (fun c3 => ?_) (fun c3 => ?_)
      · refine oX5_addSince_28 _ _ _ _ _ _ ?_
        simp only [bX5_addSince_28, qsem, qopt_s, qopt2_s, qev, qxs, Nat.reduceEqDiff, reduceIte, and_true, true_and, and_false, false_and, and_self, or_true, true_or, qb_or, reduceCtorEq, qbr_True, qbr_False, q10, q01, qwC, qb_0]
        first | exact good (Or.inl ⟨c1, (Bool.not_eq_false _).mp c2⟩) | exact good (Or.inr ⟨c3, (Bool.not_eq_false _).mp c4⟩) | exact good (Or.inr ⟨c2, (Bool.not_eq_false _).mp c3⟩) | exact bad (fun q => q.elim (fun z => by rw [z.2] at c2; exact Bool.noConfusion c2) (fun z => by rw [z.2] at c4; exact Bool.noConfusion c4)) | exact bad (fun q => q.elim (fun z => by rw [z.2] at c2; exact Bool.noConfusion c2) (fun z => c3 z.1)) | exact bad (fun q => q.elim (fun z => c1 z.1) (fun z => by rw [z.2] at c3; exact Bool.noConfusion c3)) | exact bad (fun q => q.elim (fun z => c1 z.1) (fun z => c2 z.1))
      · refine oX5_addSince_24 _ _ _ _ _ _ ?_
        simp only [bX5_addSince_24, qsem, qopt_s, qopt2_s, qev, qxs, Nat.reduceEqDiff, reduceIte, and_true, true_and, and_false, false_and, and_self, or_true, true_or, qb_or, reduceCtorEq, qbr_True, qbr_False, q10, q01, qwC, qb_0]
        first | exact good (Or.inl ⟨c1, (Bool.not_eq_false _).mp c2⟩) | exact good (Or.inr ⟨c3, (Bool.not_eq_false _).mp c4⟩) | exact good (Or.inr ⟨c2, (Bool.not_eq_false _).mp c3⟩) | exact bad (fun q => q.elim (fun z => by rw [z.2] at c2; exact Bool.noConfusion c2) (fun z => by rw [z.2] at c4; exact Bool.noConfusion c4)) | exact bad (fun q => q.elim (fun z => by rw [z.2] at c2; exact Bool.noConfusion c2) (fun z => c3 z.1)) | exact bad (fun q => q.elim (fun z => c1 z.1) (fun z => by rw [z.2] at c3; exact Bool.noConfusion c3)) | exact bad (fun q => q.elim (fun z => c1 z.1) (fun z => c2 z.1))
    · refine oX5_addSince_28 _ _ _ _ _ _ ?_
      simp only [bX5_addSince_28, qsem, qopt_s, qopt2_s, qev, qxs, Nat.reduceEqDiff, reduceIte, and_true, true_and, and_false, false_and, and_self, or_true, true_or, qb_or, reduceCtorEq, qbr_True, qbr_False, q10, q01, qwC, qb_0]
      first | exact good (Or.inl ⟨c1, (Bool.not_eq_false _).mp c2⟩) | exact good (Or.inr ⟨c3, (Bool.not_eq_false _).mp c4⟩) | exact good (Or.inr ⟨c2, (Bool.not_eq_false _).mp c3⟩) | exact bad (fun q => q.elim (fun z => by rw [z.2] at c2; exact Bool.noConfusion c2) (fun z => by rw [z.2] at c4; exact Bool.noConfusion c4)) | exact bad (fun q => q.elim (fun z => by rw [z.2] at c2; exact Bool.noConfusion c2) (fun z => c3 z.1)) | exact bad (fun q => q.elim (fun z => c1 z.1) (fun z => by rw [z.2] at c3; exact Bool.noConfusion c3)) | exact bad (fun q => q.elim (fun z => c1 z.1) (fun z => c2 z.1))


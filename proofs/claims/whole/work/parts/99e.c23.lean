def p116 : fsP 116 := Or.inr (Or.inr (Or.inl rfl))
def prC (C C' : qC) : Prop := (∀ q j, ¬ (q = 113 ∧ j = 3) → xI C' q j = xI C q j) ∧ (∀ q, q ≠ 114 → q ≠ 115 → xA C' q = xA C q) ∧ xM C' = xM C ∧ ∀ q, q ≠ 116 → xL C' q = xL C q
theorem prC_rf (C : qC) : prC C C := ⟨fun _ _ _ => rfl, fun _ _ _ => rfl, rfl, fun _ _ => rfl⟩
theorem prC_tr {C C1 C2 : qC} (h : prC C C1) (h2 : prC C1 C2) : prC C C2 := ⟨fun q j a => (h2.1 q j a).trans (h.1 q j a), fun q a b => (h2.2.1 q a b).trans (h.2.1 q a b), h2.2.2.1.trans h.2.2.1, fun q a => (h2.2.2.2 q a).trans (h.2.2.2 q a)⟩
def gI (S : qS) (f : Nat) (C : qC) (m : Nat) : Prop := xI C 113 3 = nI m ∧ m = fb_ct (fB C 116) 128 ∧ (∀ j, j < 128 → fB C 116 j = true → j < cF S ∧ pR S f j) ∧ (∀ j, j < m → ∃ x, x < cF S ∧ xA C 115 j = nI x ∧ fB C 116 x = true) ∧ ∀ x, x < 128 → fB C 116 x = true → ∃ j, j < m ∧ xA C 115 j = nI x
theorem gI_le {S : qS} {f m : Nat} {C : qC} (h1 : W1 S) (h : gI S f C m) : m ≤ 100 := by
  have hF := h1.2.2.1
  rw [h.2.1, ct_top (show cF S ≤ 128 by omega) (fun k hk hk2 => (Bool.not_eq_true _).mp (fun q => by have := (h.2.2.1 k hk2 q).1; omega))]
  exact Nat.le_trans (fb_ct_le _ _) hF
theorem gI_lt {S : qS} {f m y : Nat} {C : qC} (h1 : W1 S) (h : gI S f C m) (hy : y < cF S) (hn : fB C 116 y = false) : m < 100 := by
  have hF := h1.2.2.1
  rw [h.2.1, ct_top (show cF S ≤ 128 by omega) (fun k hk hk2 => (Bool.not_eq_true _).mp (fun q => by have := (h.2.2.1 k hk2 q).1; omega))]
  exact Nat.lt_of_lt_of_le (ct_lt hy hn) hF
set_option maxRecDepth 100000 in
set_option maxHeartbeats 4000000 in
theorem zX3_want {C M : qC} {r : Nat × Nat × Nat} {S : qS} {f m : Nat} {a : Int32} (h1 : W1 S) (h : gI S f C m) (ha : a = -1 ∨ ∃ y, y < cF S ∧ a = nI y ∧ pR S f y) : CT mX3_want 1 0 0 [.ref 113, .int a] (wd C M r) (fun r' w' => ∃ C' m', r' = none ∧ w' = wd C' M r ∧ prC C C' ∧ xA C' 114 = xA C 114 ∧ gI S f C' m' ∧ m ≤ m' ∧ (∀ j, j < m → xA C' 115 j = xA C 115 j) ∧ (∀ j, j < 128 → fB C 116 j = true → fB C' 116 j = true) ∧ ∀ y, y < cF S → a = nI y → fB C' 116 y = true) := by
  have hF := h1.2.2.1
  refine eX3_want (AW_gen (fun Q hQ => ?_))
  rcases ha with rfl | ⟨y, hy, rfl, hr⟩
  · refine oX3_want_0 _ _ _ _ _ _ ?_
    simp only [bX3_want_0, qsem, qopt_s, qopt2_s, qev, qxs, Nat.reduceEqDiff, reduceIte, and_true, true_and, and_false, false_and, and_self, or_true, true_or, qb_or, reduceCtorEq, qbr_True, qbr_False, q10, q01, qwC]
    refine qbr_t ((by decide)) ?_
    refine oX3_want_58 _ _ _ _ _ _ ?_
    simp only [bX3_want_58, qsem, qopt_s, qopt2_s, qev, qxs, Nat.reduceEqDiff, reduceIte, and_true, true_and, and_false, false_and, and_self, or_true, true_or, qb_or, reduceCtorEq, qbr_True, qbr_False, q10, q01, qwC]
    exact hQ _ _ ⟨C, m, rfl, rfl, prC_rf C, rfl, h, Nat.le_refl _, fun _ _ => rfl, fun _ _ q => q, fun y hy e => absurd e.symm (i_nm1 (by omega))⟩
  · have hm := gI_le h1 h
    have hh := zX0_has (C := C) (M := M) (r := r) (p := 116) (a := nI y) p116
    rw [inNi (show y < 100 by omega) (by omega), Bool.true_and, nIcl (show y < 1000 by omega)] at hh
    by_cases hb : fB C 116 y = true
    · rw [hb] at hh
      have old : Q none (wd C M r) := hQ _ _ ⟨C, m, rfl, rfl, prC_rf C, rfl, h, Nat.le_refl _, fun _ _ => rfl, fun _ _ q => q, fun y' hy' e => by rw [← i_ninj (by omega) (by omega) e]; exact hb⟩
      by_cases hm2 : m = 100
      · refine oX3_want_0 _ _ _ _ _ _ ?_
        simp only [bX3_want_0, qsem, qopt_s, qopt2_s, qev, qxs, Nat.reduceEqDiff, reduceIte, and_true, true_and, and_false, false_and, and_self, or_true, true_or, qb_or, reduceCtorEq, qbr_True, qbr_False, q10, q01, qwC, h.1]
        refine qbr_f (Int32.not_lt.mpr (nI_pos' (by omega))) ?_
        refine qbr_f (nI_ge (b := 100) (by omega) (by omega)) ?_
        refine qbr_t (nI_le (a := 100) (by omega) (by omega)) ?_
        refine oX3_want_58 _ _ _ _ _ _ ?_
        simp only [bX3_want_58, qsem, qopt_s, qopt2_s, qev, qxs, Nat.reduceEqDiff, reduceIte, and_true, true_and, and_false, false_and, and_self, or_true, true_or, qb_or, reduceCtorEq, qbr_True, qbr_False, q10, q01, qwC, h.1]
        exact old
      · refine oX3_want_0 _ _ _ _ _ _ ?_
        simp only [bX3_want_0, qsem, qopt_s, qopt2_s, qev, qxs, Nat.reduceEqDiff, reduceIte, and_true, true_and, and_false, false_and, and_self, or_true, true_or, qb_or, reduceCtorEq, qbr_True, qbr_False, q10, q01, qwC, h.1, qb_t]
        refine qbr_f (Int32.not_lt.mpr (nI_pos' (by omega))) ?_
        refine qbr_f (nI_ge (b := 100) (by omega) (by omega)) ?_
        refine qbr_f (nI_ge (b := 100) (by omega) (by omega)) ?_
        refine kX3_want_24 (hh) (rfl) (Nat.le_of_ble_eq_true rfl) (Nat.le_of_ble_eq_true rfl) ⟨Nat.le_of_ble_eq_true rfl, Nat.le_of_ble_eq_true rfl⟩ ?_
        rintro _ _ ⟨rfl, rfl⟩
        refine oX3_want_27 _ _ _ _ _ _ ?_
        simp only [bX3_want_27, qsem, qopt_s, qopt2_s, qev, qxs, Nat.reduceEqDiff, reduceIte, and_true, true_and, and_false, false_and, and_self, or_true, true_or, qb_or, reduceCtorEq, qbr_True, qbr_False, q10, q01, qwC, h.1, qb_t]
        refine oX3_want_58 _ _ _ _ _ _ ?_
        simp only [bX3_want_58, qsem, qopt_s, qopt2_s, qev, qxs, Nat.reduceEqDiff, reduceIte, and_true, true_and, and_false, false_and, and_self, or_true, true_or, qb_or, reduceCtorEq, qbr_True, qbr_False, q10, q01, qwC, h.1, qb_t]
        exact old
    · have hb : fB C 116 y = false := (Bool.not_eq_true _).mp hb
      rw [hb] at hh
      have hm2 := gI_lt h1 h hy hb
      refine oX3_want_0 _ _ _ _ _ _ ?_
      simp only [bX3_want_0, qsem, qopt_s, qopt2_s, qev, qxs, Nat.reduceEqDiff, reduceIte, and_true, true_and, and_false, false_and, and_self, or_true, true_or, qb_or, reduceCtorEq, qbr_True, qbr_False, q10, q01, qwC, h.1, qb_f]
      refine qbr_f (Int32.not_lt.mpr (nI_pos' (by omega))) ?_
      refine qbr_f (nI_ge (b := 100) (by omega) (by omega)) ?_
      refine qbr_f (nI_ge (b := 100) (by omega) (by omega)) ?_
      refine kX3_want_24 (hh) (rfl) (Nat.le_of_ble_eq_true rfl) (Nat.le_of_ble_eq_true rfl) ⟨Nat.le_of_ble_eq_true rfl, Nat.le_of_ble_eq_true rfl⟩ ?_
      rintro _ _ ⟨rfl, rfl⟩
      refine oX3_want_27 _ _ _ _ _ _ ?_
      simp only [bX3_want_27, qsem, qopt_s, qopt2_s, qev, qxs, Nat.reduceEqDiff, reduceIte, and_true, true_and, and_false, false_and, and_self, or_true, true_or, qb_or, reduceCtorEq, qbr_True, qbr_False, q10, q01, qwC, h.1, qb_f]
      refine kX3_want_35 (zX0_add p116 (show y < 100 by omega)) (rfl) (Nat.le_of_ble_eq_true rfl) (Nat.le_of_ble_eq_true rfl) ⟨Nat.le_of_ble_eq_true rfl, Nat.le_of_ble_eq_true rfl⟩ ?_
      rintro _ _ ⟨C1, rfl, rfl, u1, u2, u3, u4, u5⟩
      skip
      have e3 : xI C1 113 3 = nI m := by rw [u1]; exact h.1
      refine oX3_want_38 _ _ _ _ _ _ ?_
      simp only [bX3_want_38, qsem, qopt_s, qopt2_s, qev, qxs, Nat.reduceEqDiff, reduceIte, and_true, true_and, and_false, false_and, and_self, or_true, true_or, qb_or, reduceCtorEq, qbr_True, qbr_False, q10, q01, qwC, e3, nIcl (show m < 1000 by omega), nI_1]
      refine ⟨nI_vp hm2 (by omega), ?_⟩
      refine oX3_want_58 _ _ _ _ _ _ ?_
      simp only [bX3_want_58, qsem, qopt_s, qopt2_s, qev, qxs, Nat.reduceEqDiff, reduceIte, and_true, true_and, and_false, false_and, and_self, or_true, true_or, qb_or, reduceCtorEq, qbr_True, qbr_False, q10, q01, qwC, e3, nIcl (show m < 1000 by omega), nI_1]
      skip
      generalize hC2 : yI (yA C1 115 (upd (xA C1 115) m (nI y))) 113 3 (nI (m + 1)) = C2
      have z115 : xA C2 115 = upd (xA C 115) m (nI y) := by rw [← hC2, ← u2]; rfl
      have z116 : ∀ j, fB C2 116 j = fB C1 116 j := fun j => fB_cg (by rw [← hC2]; rfl) j
      have hset : ∀ j, j < 128 → fB C2 116 j = bs (fB C 116) y j := fun j hj => by
        rw [z116 j, u5 j hj]
        show (fB C 116 j || decide (j = y)) = _
        unfold bs
        by_cases e : j = y
        · rw [if_pos e, decide_eq_true e, Bool.or_true]
        · rw [if_neg e, decide_eq_false e, Bool.or_false]
      refine hQ _ _ ⟨C2, m + 1, rfl, rfl, ⟨fun q j hq => ?_, fun q a b => ?_, ?_, fun q hq => ?_⟩, ?_, ⟨?_, ?_, fun j hj hjb => ?_, fun j hj => ?_, fun x hx hxb => ?_⟩, by omega, fun j hj => ?_, fun j hj hjb => ?_, fun y' hy' e => ?_⟩
      · rw [← hC2]; simp only [qxs]; rw [if_neg hq, u1]
      · rw [← hC2]; simp only [qxs]; rw [if_neg b, u2]
      · rw [← hC2, ← u3]; rfl
      · rw [← hC2]; simp only [qxs]; exact u4 q hq
      · rw [← hC2, ← u2]; rfl
      · rw [← hC2]; rfl
      · rw [fb_ct_cong hset, ct_bs (show y < 128 by omega) hb, ← h.2.1]
      · rw [hset j hj] at hjb
        rcases bs_i hjb with e | e
        · rw [e]; exact ⟨hy, hr⟩
        · exact h.2.2.1 j hj e
      · rw [z115]
        rcases n_cases hj with hj | rfl
        · obtain ⟨x, hx, ex, bx⟩ := h.2.2.2.1 j hj
          exact ⟨x, hx, by rw [pk_un (by omega)]; exact ex, by rw [hset x (by omega)]; exact bs_m bx⟩
        · exact ⟨y, hy, by rw [pk_us], by rw [hset y (by omega)]; exact bs_s _ _⟩
      · rw [hset x hx] at hxb
        rw [z115]
        rcases bs_i hxb with e | e
        · exact ⟨m, by omega, by rw [pk_us, e]⟩
        · obtain ⟨j, hj, ej⟩ := h.2.2.2.2 x hx e
          exact ⟨j, by omega, by rw [pk_un (by omega)]; exact ej⟩
      · rw [z115, pk_un (by omega)]
      · rw [hset j hj]; exact bs_m hjb
      · rw [hset y' (by omega), ← i_ninj (by omega) (by omega) e]; exact bs_s _ _
def gX (S : qS) (C : qC) (i : Nat) : Prop := ∀ j, j < i → ∀ x, xA C 115 j = nI x → x < cF S → ∀ n k y, n < cN S → fo S x = nI n → k < 3 → wnt S n k = nI y → y < cF S → fB C 116 y = true
theorem g_end {S : qS} {f m i : Nat} {C : qC} (h : gI S f C m) (hX : gX S C i) (hmi : m ≤ i) (hff : fB C 116 f = true) (hf : f < cF S) (hF : cF S ≤ 100) : ∀ j, j < 128 → (fB C 116 j = true ↔ pR S f j) := by
  intro j hj
  refine ⟨fun q => (h.2.2.1 j hj q).2, fun q => ?_⟩
  refine (q (fun y => y < cF S ∧ fB C 116 y = true) ⟨hf, hff⟩ (fun x y hx e => ?_)).2
  obtain ⟨n, hn, efo, k, hk, hw, hy⟩ := e
  obtain ⟨j', hj', ej⟩ := h.2.2.2.2 x (by omega) hx.2
  exact ⟨hy, hX j' (by omega) x ej hx.1 n k y hn efo hk hw hy⟩
set_option maxRecDepth 100000 in
set_option maxHeartbeats 4000000 in
theorem zX3_gather {C M : qC} {r : Nat × Nat × Nat} {S : qS} {f : Nat} (h1 : W1 S) (h2 : W2 S) (h8 : W8 S) (hI : iN C S) (hg : ∀ f, f < cF S → xA C 114 f = fo S f) (hf : f < cF S) (hcl : cln S f) : CT mX3_gather 2 0 0 [.ref 113, .ref 1, .int (nI f)] (wd C M r) (fun r' w' => ∃ C', r' = none ∧ w' = wd C' M r ∧ prC C C' ∧ xA C' 114 = xA C 114 ∧ ∀ j, j < 128 → (fB C' 116 j = true ↔ pR S f j)) := by
  have hF := h1.2.2.1
  have hN := h1.2.1
  refine eX3_gather (AW_gen (fun Q hQ => ?_))
  have loop : ∀ (d i : Nat) (C1 : qC) (m : Nat) (o4 : Option Value), i + d = 100 → q_nb (some o4) = true → prC C C1 → xA C1 114 = xA C 114 → gI S f C1 m → fB C1 116 f = true → gX S C1 i → AW (mX3_gather, 2, 0, 0, none, Q) 19 [some (.ref 113), some (.ref 1), some (.int (nI f)), some (.int (nI i)), o4] [] (wd C1 M r) 0 0 := by
    intro d
    induction d with
    | zero =>
      intro i C1 m o4 hi q4 hp h114 hG hff hX
      obtain rfl : i = 100 := by omega
      have hm := gI_le h1 hG
      refine oX3_gather_19 _ _ _ _ _ _ ?_
      simp only [bX3_gather_19, qsem, qopt_s, qopt2_s, qev, qxs, Nat.reduceEqDiff, reduceIte, and_true, true_and, and_false, false_and, and_self, or_true, true_or, qb_or, reduceCtorEq, qbr_True, qbr_False, q10, q01, qwC]
      refine qbr_t ((by decide)) ?_
      refine oX3_gather_86 _ _ _ _ _ _ ?_
      simp only [bX3_gather_86, qsem, qopt_s, qopt2_s, qev, qxs, Nat.reduceEqDiff, reduceIte, and_true, true_and, and_false, false_and, and_self, or_true, true_or, qb_or, reduceCtorEq, qbr_True, qbr_False, q10, q01, qwC]
      exact hQ _ _ ⟨C1, rfl, rfl, hp, h114, g_end hG hX hm hff hf hF⟩
    | succ d ih =>
      intro i C1 m o4 hi q4 hp h114 hG hff hX
      have hm := gI_le h1 hG
      by_cases him : i < m
      · obtain ⟨x, hx, ex, bx⟩ := hG.2.2.2.1 i him
        have hpx := (hG.2.2.1 x (by omega) bx).2
        obtain ⟨n, hn, efo, hof, hgr⟩ := fo_c (pR_cln h1 h8 hcl hpx)
        have hgx : xA C1 114 x = nI n := by rw [h114, hg x hx]; exact efo
        have iNo : ∀ {C' : qC}, prC C C' → iN C' S := fun h => iN_cg (h.1 1 3 (by omega)) (h.2.1 2 (by omega) (by omega)) hI
        have c4' := zX8_cN (C := C1) (M := M) (r := r) 4 h1 (iNo hp) hn (by omega)
        rw [show ntV S n 4 = wnt S n 0 from rfl] at c4'
        have suc : ∀ k, k < 3 → wnt S n k = -1 ∨ ∃ y, y < cF S ∧ wnt S n k = nI y ∧ pR S f y := fun k hk => (W2_k h2 hn hk).imp id (fun ⟨y, hy, e⟩ => ⟨y, hy, e, pR_st hpx ⟨n, hn, efo, k, hk, e, hy⟩⟩)
        refine oX3_gather_19 _ _ _ _ _ _ ?_
        simp only [bX3_gather_19, qsem, qopt_s, qopt2_s, qev, qxs, Nat.reduceEqDiff, reduceIte, and_true, true_and, and_false, false_and, and_self, or_true, true_or, qb_or, reduceCtorEq, qbr_True, qbr_False, q10, q01, qwC, hG.1, nIcl (show i < 1000 by omega), ex, nIcl (show x < 1000 by omega), hgx, q4]
        refine qbr_f (nI_ge (b := 100) (by omega) (by omega)) ?_
        refine qbr_f (nI_ge him (by omega)) ?_
        refine ⟨nI_vp (by omega) (by omega), ?_⟩
        refine ⟨nI_vp (by omega) (by omega), ?_⟩
        refine kX3_gather_51 (c4') (rfl) (Nat.le_of_ble_eq_true rfl) (Nat.le_of_ble_eq_true rfl) ⟨Nat.le_of_ble_eq_true rfl, Nat.le_of_ble_eq_true rfl⟩ ?_
        rintro _ _ ⟨rfl, rfl⟩
        refine kX3_gather_54 (zX3_want h1 hG (suc 0 (by omega))) (rfl) (Nat.le_of_ble_eq_true rfl) (Nat.le_of_ble_eq_true rfl) ⟨Nat.le_of_ble_eq_true rfl, Nat.le_of_ble_eq_true rfl⟩ ?_
        rintro _ _ ⟨C2, m2, rfl, rfl, p2, q2, G2, l2, w2, s2, y2⟩
        skip
        have c5' := zX8_cN (C := C2) (M := M) (r := r) 5 h1 (iNo (prC_tr hp p2)) hn (by omega)
        rw [show ntV S n 5 = wnt S n 1 from rfl] at c5'
        refine oX3_gather_57 _ _ _ _ _ _ ?_
        simp only [bX3_gather_57, qsem, qopt_s, qopt2_s, qev, qxs, Nat.reduceEqDiff, reduceIte, and_true, true_and, and_false, false_and, and_self, or_true, true_or, qb_or, reduceCtorEq, qbr_True, qbr_False, q10, q01, qwC]
        refine kX3_gather_62 (c5') (rfl) (Nat.le_of_ble_eq_true rfl) (Nat.le_of_ble_eq_true rfl) ⟨Nat.le_of_ble_eq_true rfl, Nat.le_of_ble_eq_true rfl⟩ ?_
        rintro _ _ ⟨rfl, rfl⟩
        refine kX3_gather_65 (zX3_want h1 G2 (suc 1 (by omega))) (rfl) (Nat.le_of_ble_eq_true rfl) (Nat.le_of_ble_eq_true rfl) ⟨Nat.le_of_ble_eq_true rfl, Nat.le_of_ble_eq_true rfl⟩ ?_
        rintro _ _ ⟨C3, m3, rfl, rfl, p3, q3, G3, l3, w3, s3, y3⟩
        skip
        have c6' := zX8_cN (C := C3) (M := M) (r := r) 6 h1 (iNo (prC_tr (prC_tr hp p2) p3)) hn (by omega)
        rw [show ntV S n 6 = wnt S n 2 from rfl] at c6'
        refine oX3_gather_68 _ _ _ _ _ _ ?_
        simp only [bX3_gather_68, qsem, qopt_s, qopt2_s, qev, qxs, Nat.reduceEqDiff, reduceIte, and_true, true_and, and_false, false_and, and_self, or_true, true_or, qb_or, reduceCtorEq, qbr_True, qbr_False, q10, q01, qwC, nI_1]
        refine kX3_gather_74 (c6') (rfl) (Nat.le_of_ble_eq_true rfl) (Nat.le_of_ble_eq_true rfl) ⟨Nat.le_of_ble_eq_true rfl, Nat.le_of_ble_eq_true rfl⟩ ?_
        rintro _ _ ⟨rfl, rfl⟩
        refine kX3_gather_77 (zX3_want h1 G3 (suc 2 (by omega))) (rfl) (Nat.le_of_ble_eq_true rfl) (Nat.le_of_ble_eq_true rfl) ⟨Nat.le_of_ble_eq_true rfl, Nat.le_of_ble_eq_true rfl⟩ ?_
        rintro _ _ ⟨C4, m4, rfl, rfl, p4, q5, G4, l4, w4, s4, y4⟩
        refine oX3_gather_80 _ _ _ _ _ _ ?_
        simp only [bX3_gather_80, qsem, qopt_s, qopt2_s, qev, qxs, Nat.reduceEqDiff, reduceIte, and_true, true_and, and_false, false_and, and_self, or_true, true_or, qb_or, reduceCtorEq, qbr_True, qbr_False, q10, q01, qwC, nI_1]
        skip
        have grow : ∀ y, y < 128 → fB C1 116 y = true → fB C4 116 y = true := fun y hy h => s4 y hy (s3 y hy (s2 y hy h))
        have keep : ∀ j, j < m → xA C4 115 j = xA C1 115 j := fun j hj => (w4 j (by omega)).trans ((w3 j (by omega)).trans (w2 j hj))
        refine ih (i + 1) C4 m4 _ (by omega) rfl (prC_tr (prC_tr (prC_tr hp p2) p3) p4) (q5.trans (q3.trans (q2.trans h114))) G4 (grow f (by omega) hff) (fun j hj x' ex' hx' n' k y hn' efo' hk hw hy => ?_)
        by_cases ej : j = i
        · rw [ej, keep i him, ex] at ex'
          have exx := i_ninj (by omega) (by omega) ex'
          rw [← exx, efo] at efo'
          have enn := i_ninj (by omega) (by omega) efo'
          rw [← enn] at hw
          rcases (show k = 0 ∨ k = 1 ∨ k = 2 by omega) with rfl | rfl | rfl
          · exact s4 y (by omega) (s3 y (by omega) (y2 y hy hw))
          · exact s4 y (by omega) (y3 y hy hw)
          · exact y4 y hy hw
        · rw [keep j (by omega)] at ex'
          exact grow y (by omega) (hX j (by omega) x' ex' hx' n' k y hn' efo' hk hw hy)
      · refine oX3_gather_19 _ _ _ _ _ _ ?_
        simp only [bX3_gather_19, qsem, qopt_s, qopt2_s, qev, qxs, Nat.reduceEqDiff, reduceIte, and_true, true_and, and_false, false_and, and_self, or_true, true_or, qb_or, reduceCtorEq, qbr_True, qbr_False, q10, q01, qwC, hG.1]
        refine qbr_f (nI_ge (b := 100) (by omega) (by omega)) ?_
        refine qbr_t (nI_le (by omega) (by omega)) ?_
        refine oX3_gather_86 _ _ _ _ _ _ ?_
        simp only [bX3_gather_86, qsem, qopt_s, qopt2_s, qev, qxs, Nat.reduceEqDiff, reduceIte, and_true, true_and, and_false, false_and, and_self, or_true, true_or, qb_or, reduceCtorEq, qbr_True, qbr_False, q10, q01, qwC, hG.1]
        exact hQ _ _ ⟨C1, rfl, rfl, hp, h114, g_end hG hX (by omega) hff hf hF⟩
  refine oX3_gather_0 _ _ _ _ _ _ ?_
  simp only [bX3_gather_0, qsem, qopt_s, qopt2_s, qev, qxs, Nat.reduceEqDiff, reduceIte, and_true, true_and, and_false, false_and, and_self, or_true, true_or, qb_or, reduceCtorEq, qbr_True, qbr_False, q10, q01, qwC]
  refine kX3_gather_4 (zX0_empty p116) (rfl) (Nat.le_of_ble_eq_true rfl) (Nat.le_of_ble_eq_true rfl) ⟨Nat.le_of_ble_eq_true rfl, Nat.le_of_ble_eq_true rfl⟩ ?_
  rintro _ _ ⟨C1, rfl, rfl, u1, u2, u3, u4, u5⟩
  skip
  have hG0 : gI S f (yI C1 113 3 0) 0 := by
    have hz : ∀ j, j < 128 → fB (yI C1 113 3 0) 116 j = false := fun j hj => u5 j hj
    refine ⟨rfl, ?_, fun j hj q => ?_, fun j hj => by omega, fun x hx q => ?_⟩
    · exact (fb_ct_zero.mpr hz).symm
    · rw [hz j hj] at q; exact Bool.noConfusion q
    · rw [hz x hx] at q; exact Bool.noConfusion q
  have hp0 : prC C (yI C1 113 3 0) := ⟨fun q j hq => by simp only [qxs]; rw [if_neg hq, u1], fun q _ _ => by simp only [qxs]; rw [u2], u3, fun q hq => by simp only [qxs]; exact u4 q hq⟩
  refine oX3_gather_7 _ _ _ _ _ _ ?_
  simp only [bX3_gather_7, qsem, qopt_s, qopt2_s, qev, qxs, Nat.reduceEqDiff, reduceIte, and_true, true_and, and_false, false_and, and_self, or_true, true_or, qb_or, reduceCtorEq, qbr_True, qbr_False, q10, q01, qwC]
  refine kX3_gather_14 (zX3_want h1 hG0 (Or.inr ⟨f, hf, rfl, pR_rf S f⟩)) (rfl) (Nat.le_of_ble_eq_true rfl) (Nat.le_of_ble_eq_true rfl) ⟨Nat.le_of_ble_eq_true rfl, Nat.le_of_ble_eq_true rfl⟩ ?_
  rintro _ _ ⟨C2, m2, rfl, rfl, p2, q2, G2, l2, w2, s2, y2⟩
  refine oX3_gather_17 _ _ _ _ _ _ ?_
  simp only [bX3_gather_17, qsem, qopt_s, qopt2_s, qev, qxs, Nat.reduceEqDiff, reduceIte, and_true, true_and, and_false, false_and, and_self, or_true, true_or, qb_or, reduceCtorEq, qbr_True, qbr_False, q10, q01, qwC]
  exact loop 100 0 C2 m2 none rfl rfl (prC_tr hp0 p2) (q2.trans (by show xA C1 114 = _; rw [u2])) G2 (y2 f hf rfl) (fun j hj => by omega)
theorem prf_iff {S : qS} {f n : Nat} (h1 : W1 S) (h2 : W2 S) (h8 : W8 S) (hcl : cln S f) (hn : n < cN S) : prf S f n ↔ pR S f (ofN S n) ∧ fo S (ofN S n) = nI n := by
  have hN := h1.2.1
  constructor
  · rintro ⟨g, hg, e⟩
    obtain ⟨m, hm, em, hof, -⟩ := fo_c (pR_cln h1 h8 hcl hg)
    have : n = m := i_ninj (by omega) (by omega) (e.symm.trans em)
    rw [this, hof]
    exact ⟨hg, em⟩
  · rintro ⟨a, b⟩
    exact ⟨_, a, b⟩
set_option maxRecDepth 100000 in
set_option maxHeartbeats 4000000 in
theorem zX3_isPart {C M : qC} {r : Nat × Nat × Nat} {S : qS} {f n : Nat} (h1 : W1 S) (h2 : W2 S) (h8 : W8 S) (hI : iN C S) (hg : ∀ f, f < cF S → xA C 114 f = fo S f) (hw : ∀ j, j < 128 → (fB C 116 j = true ↔ pR S f j)) (hcl : cln S f) (hn : n < cN S) : CT mX3_isPart 2 0 0 [.ref 113, .ref 1, .int (nI n)] (wd C M r) (fun r' w' => w' = wd C M r ∧ r' = some (.int (qb (dc (prf S f n))))) := by
  have hF := h1.2.2.1
  have hN := h1.2.1
  obtain ⟨-, ⟨eo, lo⟩, -, -⟩ := h2 n hn
  have hpi := prf_iff h1 h2 h8 hcl hn
  have c1' := zX8_cN (C := C) (M := M) (r := r) 1 h1 hI hn (by omega)
  rw [show ntV S n 1 = nI (ofN S n) from eo] at c1'
  have hh := zX0_has (C := C) (M := M) (r := r) (p := 116) (a := nI (ofN S n)) p116
  rw [inNi (show ofN S n < 100 by omega) (by omega), Bool.true_and, nIcl (show ofN S n < 1000 by omega)] at hh
  have hgo := hg _ lo
  refine eX3_isPart (AW_gen (fun Q hQ => ?_))
  refine oX3_isPart_0 _ _ _ _ _ _ ?_
  simp only [bX3_isPart_0, qsem, qopt_s, qopt2_s, qev, qxs, Nat.reduceEqDiff, reduceIte, and_true, true_and, and_false, false_and, and_self, or_true, true_or, qb_or, reduceCtorEq, qbr_True, qbr_False, q10, q01, qwC, qb_0, nIcl (show ofN S n < 1000 by omega), hgo]
  refine kX3_isPart_3 (c1') (rfl) (Nat.le_of_ble_eq_true rfl) (Nat.le_of_ble_eq_true rfl) ⟨Nat.le_of_ble_eq_true rfl, Nat.le_of_ble_eq_true rfl⟩ ?_
  rintro _ _ ⟨rfl, rfl⟩
  refine oX3_isPart_6 _ _ _ _ _ _ ?_
  simp only [bX3_isPart_6, qsem, qopt_s, qopt2_s, qev, qxs, Nat.reduceEqDiff, reduceIte, and_true, true_and, and_false, false_and, and_self, or_true, true_or, qb_or, reduceCtorEq, qbr_True, qbr_False, q10, q01, qwC, qb_0, nIcl (show ofN S n < 1000 by omega), hgo]
  refine kX3_isPart_12 (hh) (rfl) (Nat.le_of_ble_eq_true rfl) (Nat.le_of_ble_eq_true rfl) ⟨Nat.le_of_ble_eq_true rfl, Nat.le_of_ble_eq_true rfl⟩ ?_
  rintro _ _ ⟨rfl, rfl⟩
  refine oX3_isPart_15 _ _ _ _ _ _ ?_
  simp only [bX3_isPart_15, qsem, qopt_s, qopt2_s, qev, qxs, Nat.reduceEqDiff, reduceIte, and_true, true_and, and_false, false_and, and_self, or_true, true_or, qb_or, reduceCtorEq, qbr_True, qbr_False, q10, q01, qwC, qb_0, nIcl (show ofN S n < 1000 by omega), hgo]
  refine qbr_i (fun c1 => ?_) (fun c1 => ?_)
  · refine oX3_isPart_32 _ _ _ _ _ _ ?_
    simp only [bX3_isPart_32, qsem, qopt_s, qopt2_s, qev, qxs, Nat.reduceEqDiff, reduceIte, and_true, true_and, and_false, false_and, and_self, or_true, true_or, qb_or, reduceCtorEq, qbr_True, qbr_False, q10, q01, qwC, qb_0, nIcl (show ofN S n < 1000 by omega), hgo]
    refine oX3_isPart_33 _ _ _ _ _ _ ?_
    simp only [bX3_isPart_33, qsem, qopt_s, qopt2_s, qev, qxs, Nat.reduceEqDiff, reduceIte, and_true, true_and, and_false, false_and, and_self, or_true, true_or, qb_or, reduceCtorEq, qbr_True, qbr_False, q10, q01, qwC, qb_0, nIcl (show ofN S n < 1000 by omega), hgo]
    first | exact hQ _ _ ⟨rfl, ri (qb_0of (dcf (fun q => Bool.false_ne_true (c1.symm.trans ((hw _ (by omega)).mpr (hpi.mp q).1)))))⟩ | exact hQ _ _ ⟨rfl, ri (qb_0of (dcf (fun q => c2 (hpi.mp q).2)))⟩ | exact hQ _ _ ⟨rfl, ri (qb_1of (dc_iff.mpr (hpi.mpr ⟨(hw _ (by omega)).mp ((Bool.not_eq_false _).mp c1), c2⟩)))⟩
  · refine ⟨nI_vp (by omega) (by omega), ?_⟩
    refine qbr_i (fun c2 => ?_) (fun c2 => ?_)
    · refine oX3_isPart_33 _ _ _ _ _ _ ?_
      simp only [bX3_isPart_33, qsem, qopt_s, qopt2_s, qev, qxs, Nat.reduceEqDiff, reduceIte, and_true, true_and, and_false, false_and, and_self, or_true, true_or, qb_or, reduceCtorEq, qbr_True, qbr_False, q10, q01, qwC, qb_0, nIcl (show ofN S n < 1000 by omega), hgo]
      first | exact hQ _ _ ⟨rfl, ri (qb_0of (dcf (fun q => Bool.false_ne_true (c1.symm.trans ((hw _ (by omega)).mpr (hpi.mp q).1)))))⟩ | exact hQ _ _ ⟨rfl, ri (qb_0of (dcf (fun q => c2 (hpi.mp q).2)))⟩ | exact hQ _ _ ⟨rfl, ri (qb_1of (dc_iff.mpr (hpi.mpr ⟨(hw _ (by omega)).mp ((Bool.not_eq_false _).mp c1), c2⟩)))⟩
    · refine oX3_isPart_32 _ _ _ _ _ _ ?_
      simp only [bX3_isPart_32, qsem, qopt_s, qopt2_s, qev, qxs, Nat.reduceEqDiff, reduceIte, and_true, true_and, and_false, false_and, and_self, or_true, true_or, qb_or, reduceCtorEq, qbr_True, qbr_False, q10, q01, qwC, qb_0, nIcl (show ofN S n < 1000 by omega), hgo]
      refine oX3_isPart_33 _ _ _ _ _ _ ?_
      simp only [bX3_isPart_33, qsem, qopt_s, qopt2_s, qev, qxs, Nat.reduceEqDiff, reduceIte, and_true, true_and, and_false, false_and, and_self, or_true, true_or, qb_or, reduceCtorEq, qbr_True, qbr_False, q10, q01, qwC, qb_0, nIcl (show ofN S n < 1000 by omega), hgo]
      first | exact hQ _ _ ⟨rfl, ri (qb_0of (dcf (fun q => Bool.false_ne_true (c1.symm.trans ((hw _ (by omega)).mpr (hpi.mp q).1)))))⟩ | exact hQ _ _ ⟨rfl, ri (qb_0of (dcf (fun q => c2 (hpi.mp q).2)))⟩ | exact hQ _ _ ⟨rfl, ri (qb_1of (dc_iff.mpr (hpi.mpr ⟨(hw _ (by omega)).mp ((Bool.not_eq_false _).mp c1), c2⟩)))⟩
set_option maxRecDepth 100000 in
set_option maxHeartbeats 4000000 in
theorem zX3_noteAt {C M : qC} {r : Nat × Nat × Nat} {S : qS} {f : Nat} {i : Int32} (h1 : W1 S) (h2 : W2 S) (h8 : W8 S) (hI : iN C S) (hFi : iF C S) (hCc : iC C S) (hf : f < cF S) (hcl : cln S f) : CT mX3_noteAt 4 0 0 [.ref 113, .ref 1, .ref 5, .int (nI f), .int i] (wd C M r) (fun r' w' => ∃ C', w' = wd C' M r ∧ prC C C' ∧ r' = some (.int (if i < 0 then -1 else nthF (fun n => dc (prf S f n)) (cN S) i (cN S) 0))) := by
  have hN := h1.2.1
  refine eX3_noteAt (AW_gen (fun Q hQ => ?_))
  have main : ∀ C1 : qC, prC C C1 → (∀ f, f < cF S → xA C1 114 f = fo S f) → (∀ j, j < 128 → (fB C1 116 j = true ↔ pR S f j)) → AW (mX3_noteAt, 4, 0, 0, none, Q) 19 [some (.ref 113), some (.ref 1), some (.ref 5), some (.int (nI f)), some (.int i), some (.int i), some (.int 0)] [] (wd C1 M r) 0 0 := by
    intro C1 hp hg hw
    have hI1 : iN C1 S := iN_cg (hp.1 1 3 (by omega)) (hp.2.1 2 (by omega) (by omega)) hI
    by_cases hi : i < 0
    · rw [if_pos hi] at hQ
      by_cases h0 : cN S = 0
      · refine oX3_noteAt_19 _ _ _ _ _ _ ?_
        simp only [bX3_noteAt_19, qsem, qopt_s, qopt2_s, qev, qxs, Nat.reduceEqDiff, reduceIte, and_true, true_and, and_false, false_and, and_self, or_true, true_or, qb_or, reduceCtorEq, qbr_True, qbr_False, q10, q01, qwC, hI1.1, h0]
        refine kX3_noteAt_22 (zX8_size_1) (rfl) (Nat.le_of_ble_eq_true rfl) (Nat.le_of_ble_eq_true rfl) ⟨Nat.le_of_ble_eq_true rfl, Nat.le_of_ble_eq_true rfl⟩ ?_
        rintro _ _ ⟨rfl, rfl⟩
        refine oX3_noteAt_25 _ _ _ _ _ _ ?_
        simp only [bX3_noteAt_25, qsem, qopt_s, qopt2_s, qev, qxs, Nat.reduceEqDiff, reduceIte, and_true, true_and, and_false, false_and, and_self, or_true, true_or, qb_or, reduceCtorEq, qbr_True, qbr_False, q10, q01, qwC, hI1.1, h0]
        refine qbr_t ((by decide)) ?_
        refine oX3_noteAt_60 _ _ _ _ _ _ ?_
        simp only [bX3_noteAt_60, qsem, qopt_s, qopt2_s, qev, qxs, Nat.reduceEqDiff, reduceIte, and_true, true_and, and_false, false_and, and_self, or_true, true_or, qb_or, reduceCtorEq, qbr_True, qbr_False, q10, q01, qwC, hI1.1, h0]
        exact hQ _ _ ⟨C1, rfl, hp, rfl⟩
      · refine oX3_noteAt_19 _ _ _ _ _ _ ?_
        simp only [bX3_noteAt_19, qsem, qopt_s, qopt2_s, qev, qxs, Nat.reduceEqDiff, reduceIte, and_true, true_and, and_false, false_and, and_self, or_true, true_or, qb_or, reduceCtorEq, qbr_True, qbr_False, q10, q01, qwC, hI1.1]
        refine kX3_noteAt_22 (zX8_size_1) (rfl) (Nat.le_of_ble_eq_true rfl) (Nat.le_of_ble_eq_true rfl) ⟨Nat.le_of_ble_eq_true rfl, Nat.le_of_ble_eq_true rfl⟩ ?_
        rintro _ _ ⟨rfl, rfl⟩
        refine oX3_noteAt_25 _ _ _ _ _ _ ?_
        simp only [bX3_noteAt_25, qsem, qopt_s, qopt2_s, qev, qxs, Nat.reduceEqDiff, reduceIte, and_true, true_and, and_false, false_and, and_self, or_true, true_or, qb_or, reduceCtorEq, qbr_True, qbr_False, q10, q01, qwC, hI1.1]
        refine qbr_f (nI_ge (a := 0) (by omega) (by omega)) ?_
        refine qbr_t (hi) ?_
        refine oX3_noteAt_60 _ _ _ _ _ _ ?_
        simp only [bX3_noteAt_60, qsem, qopt_s, qopt2_s, qev, qxs, Nat.reduceEqDiff, reduceIte, and_true, true_and, and_false, false_and, and_self, or_true, true_or, qb_or, reduceCtorEq, qbr_True, qbr_False, q10, q01, qwC, hI1.1]
        exact hQ _ _ ⟨C1, rfl, hp, rfl⟩
    · obtain ⟨m, hm, rfl⟩ := i_of (Int32.not_lt.mp hi)
      rw [if_neg hi] at hQ
      generalize hres : nthF (fun n => dc (prf S f n)) (cN S) (nI m) (cN S) 0 = R at hQ
      have loop : ∀ (d k s : Nat), k + d = cN S → s ≤ m → s ≤ k → nthF (fun n => dc (prf S f n)) (cN S) (nI m) d (nI s) = R → AW (mX3_noteAt, 4, 0, 0, none, Q) 19 [some (.ref 113), some (.ref 1), some (.ref 5), some (.int (nI f)), some (.int (nI m)), some (.int (nI (m - s))), some (.int (nI k))] [] (wd C1 M r) 0 0 := by
        intro d
        induction d with
        | zero =>
          intro k s hk hs hsk he
          obtain rfl : k = cN S := by omega
          refine oX3_noteAt_19 _ _ _ _ _ _ ?_
          simp only [bX3_noteAt_19, qsem, qopt_s, qopt2_s, qev, qxs, Nat.reduceEqDiff, reduceIte, and_true, true_and, and_false, false_and, and_self, or_true, true_or, qb_or, reduceCtorEq, qbr_True, qbr_False, q10, q01, qwC, hI1.1]
          refine kX3_noteAt_22 (zX8_size_1) (rfl) (Nat.le_of_ble_eq_true rfl) (Nat.le_of_ble_eq_true rfl) ⟨Nat.le_of_ble_eq_true rfl, Nat.le_of_ble_eq_true rfl⟩ ?_
          rintro _ _ ⟨rfl, rfl⟩
          refine oX3_noteAt_25 _ _ _ _ _ _ ?_
          simp only [bX3_noteAt_25, qsem, qopt_s, qopt2_s, qev, qxs, Nat.reduceEqDiff, reduceIte, and_true, true_and, and_false, false_and, and_self, or_true, true_or, qb_or, reduceCtorEq, qbr_True, qbr_False, q10, q01, qwC, hI1.1]
          refine qbr_t ((Int32.le_refl _)) ?_
          refine oX3_noteAt_60 _ _ _ _ _ _ ?_
          simp only [bX3_noteAt_60, qsem, qopt_s, qopt2_s, qev, qxs, Nat.reduceEqDiff, reduceIte, and_true, true_and, and_false, false_and, and_self, or_true, true_or, qb_or, reduceCtorEq, qbr_True, qbr_False, q10, q01, qwC, hI1.1]
          exact hQ _ _ ⟨C1, rfl, hp, ri he⟩
        | succ d ih =>
          intro k s hk hs hsk he
          have hij : cN S - (d + 1) = k := by omega
          unfold nthF at he
          rw [hij] at he
          have hneg : ¬ nI (m - s) < 0 := Int32.not_lt.mpr (nI_pos' (by omega))
          have hcb := zX3_isPart (C := C1) (M := M) (r := r) h1 h2 h8 hI1 hg hw hcl (show k < cN S by omega)
          have e0 : (nI (m - s) = 0) = (m - s = 0) := propext (nI_eq (b := 0) (by omega) (by omega))
          by_cases hc : prf S f k
          · rw [dc_iff.mpr hc] at hcb
            simp only [dc_iff.mpr hc, if_true] at he
            by_cases hz : m - s = 0
            · have : s = m := by omega
              rw [if_pos (by rw [this])] at he
              refine oX3_noteAt_19 _ _ _ _ _ _ ?_
              simp only [bX3_noteAt_19, qsem, qopt_s, qopt2_s, qev, qxs, Nat.reduceEqDiff, reduceIte, and_true, true_and, and_false, false_and, and_self, or_true, true_or, qb_or, reduceCtorEq, qbr_True, qbr_False, q10, q01, qwC, hI1.1, qb_t, e0]
              refine kX3_noteAt_22 (zX8_size_1) (rfl) (Nat.le_of_ble_eq_true rfl) (Nat.le_of_ble_eq_true rfl) ⟨Nat.le_of_ble_eq_true rfl, Nat.le_of_ble_eq_true rfl⟩ ?_
              rintro _ _ ⟨rfl, rfl⟩
              refine oX3_noteAt_25 _ _ _ _ _ _ ?_
              simp only [bX3_noteAt_25, qsem, qopt_s, qopt2_s, qev, qxs, Nat.reduceEqDiff, reduceIte, and_true, true_and, and_false, false_and, and_self, or_true, true_or, qb_or, reduceCtorEq, qbr_True, qbr_False, q10, q01, qwC, hI1.1, qb_t, e0]
              refine qbr_f (nI_ge (by omega) (by omega)) ?_
              refine qbr_f (hneg) ?_
              refine kX3_noteAt_37 (hcb) (rfl) (Nat.le_of_ble_eq_true rfl) (Nat.le_of_ble_eq_true rfl) ⟨Nat.le_of_ble_eq_true rfl, Nat.le_of_ble_eq_true rfl⟩ ?_
              rintro _ _ ⟨rfl, rfl⟩
              refine oX3_noteAt_40 _ _ _ _ _ _ ?_
              simp only [bX3_noteAt_40, qsem, qopt_s, qopt2_s, qev, qxs, Nat.reduceEqDiff, reduceIte, and_true, true_and, and_false, false_and, and_self, or_true, true_or, qb_or, reduceCtorEq, qbr_True, qbr_False, q10, q01, qwC, hI1.1, qb_t, e0]
              refine qbr_t (hz) ?_
              exact hQ _ _ ⟨C1, rfl, hp, ri he⟩
            · rw [if_neg (fun q => hz (by have := i_ninj (by omega) (by omega) q; omega)), nI_1] at he
              have em : nI (m - s) + -1 = nI (m - (s + 1)) := by rw [nIpm (by omega)]; rfl
              refine oX3_noteAt_19 _ _ _ _ _ _ ?_
              simp only [bX3_noteAt_19, qsem, qopt_s, qopt2_s, qev, qxs, Nat.reduceEqDiff, reduceIte, and_true, true_and, and_false, false_and, and_self, or_true, true_or, qb_or, reduceCtorEq, qbr_True, qbr_False, q10, q01, qwC, hI1.1, qb_t, e0, em, nI_1]
              refine kX3_noteAt_22 (zX8_size_1) (rfl) (Nat.le_of_ble_eq_true rfl) (Nat.le_of_ble_eq_true rfl) ⟨Nat.le_of_ble_eq_true rfl, Nat.le_of_ble_eq_true rfl⟩ ?_
              rintro _ _ ⟨rfl, rfl⟩
              refine oX3_noteAt_25 _ _ _ _ _ _ ?_
              simp only [bX3_noteAt_25, qsem, qopt_s, qopt2_s, qev, qxs, Nat.reduceEqDiff, reduceIte, and_true, true_and, and_false, false_and, and_self, or_true, true_or, qb_or, reduceCtorEq, qbr_True, qbr_False, q10, q01, qwC, hI1.1, qb_t, e0, em, nI_1]
              refine qbr_f (nI_ge (by omega) (by omega)) ?_
              refine qbr_f (hneg) ?_
              refine kX3_noteAt_37 (hcb) (rfl) (Nat.le_of_ble_eq_true rfl) (Nat.le_of_ble_eq_true rfl) ⟨Nat.le_of_ble_eq_true rfl, Nat.le_of_ble_eq_true rfl⟩ ?_
              rintro _ _ ⟨rfl, rfl⟩
              refine oX3_noteAt_40 _ _ _ _ _ _ ?_
              simp only [bX3_noteAt_40, qsem, qopt_s, qopt2_s, qev, qxs, Nat.reduceEqDiff, reduceIte, and_true, true_and, and_false, false_and, and_self, or_true, true_or, qb_or, reduceCtorEq, qbr_True, qbr_False, q10, q01, qwC, hI1.1, qb_t, e0, em, nI_1]
              refine qbr_f (hz) ?_
              refine oX3_noteAt_51 _ _ _ _ _ _ ?_
              simp only [bX3_noteAt_51, qsem, qopt_s, qopt2_s, qev, qxs, Nat.reduceEqDiff, reduceIte, and_true, true_and, and_false, false_and, and_self, or_true, true_or, qb_or, reduceCtorEq, qbr_True, qbr_False, q10, q01, qwC, hI1.1, qb_t, e0, em, nI_1]
              refine oX3_noteAt_54 _ _ _ _ _ _ ?_
              simp only [bX3_noteAt_54, qsem, qopt_s, qopt2_s, qev, qxs, Nat.reduceEqDiff, reduceIte, and_true, true_and, and_false, false_and, and_self, or_true, true_or, qb_or, reduceCtorEq, qbr_True, qbr_False, q10, q01, qwC, hI1.1, qb_t, e0, em, nI_1]
              exact ih (k + 1) (s + 1) (by omega) (by omega) (by omega) he
          · rw [dcf hc] at hcb
            simp only [dcf hc, Bool.false_eq_true, if_false] at he
            refine oX3_noteAt_19 _ _ _ _ _ _ ?_
            simp only [bX3_noteAt_19, qsem, qopt_s, qopt2_s, qev, qxs, Nat.reduceEqDiff, reduceIte, and_true, true_and, and_false, false_and, and_self, or_true, true_or, qb_or, reduceCtorEq, qbr_True, qbr_False, q10, q01, qwC, hI1.1, qb_f, nI_1]
            refine kX3_noteAt_22 (zX8_size_1) (rfl) (Nat.le_of_ble_eq_true rfl) (Nat.le_of_ble_eq_true rfl) ⟨Nat.le_of_ble_eq_true rfl, Nat.le_of_ble_eq_true rfl⟩ ?_
            rintro _ _ ⟨rfl, rfl⟩
            refine oX3_noteAt_25 _ _ _ _ _ _ ?_
            simp only [bX3_noteAt_25, qsem, qopt_s, qopt2_s, qev, qxs, Nat.reduceEqDiff, reduceIte, and_true, true_and, and_false, false_and, and_self, or_true, true_or, qb_or, reduceCtorEq, qbr_True, qbr_False, q10, q01, qwC, hI1.1, qb_f, nI_1]
            refine qbr_f (nI_ge (by omega) (by omega)) ?_
            refine qbr_f (hneg) ?_
            refine kX3_noteAt_37 (hcb) (rfl) (Nat.le_of_ble_eq_true rfl) (Nat.le_of_ble_eq_true rfl) ⟨Nat.le_of_ble_eq_true rfl, Nat.le_of_ble_eq_true rfl⟩ ?_
            rintro _ _ ⟨rfl, rfl⟩
            refine oX3_noteAt_40 _ _ _ _ _ _ ?_
            simp only [bX3_noteAt_40, qsem, qopt_s, qopt2_s, qev, qxs, Nat.reduceEqDiff, reduceIte, and_true, true_and, and_false, false_and, and_self, or_true, true_or, qb_or, reduceCtorEq, qbr_True, qbr_False, q10, q01, qwC, hI1.1, qb_f, nI_1]
            refine oX3_noteAt_54 _ _ _ _ _ _ ?_
            simp only [bX3_noteAt_54, qsem, qopt_s, qopt2_s, qev, qxs, Nat.reduceEqDiff, reduceIte, and_true, true_and, and_false, false_and, and_self, or_true, true_or, qb_or, reduceCtorEq, qbr_True, qbr_False, q10, q01, qwC, hI1.1, qb_f, nI_1]
            exact ih (k + 1) s (by omega) hs (by omega) he
      exact loop (cN S) 0 0 (by omega) (by omega) (by omega) hres
  refine oX3_noteAt_0 _ _ _ _ _ _ ?_
  simp only [bX3_noteAt_0, qsem, qopt_s, qopt2_s, qev, qxs, Nat.reduceEqDiff, reduceIte, and_true, true_and, and_false, false_and, and_self, or_true, true_or, qb_or, reduceCtorEq, qbr_True, qbr_False, q10, q01, qwC]
  refine kX3_noteAt_3 (zX3_findGrounds h1 h2 hI hFi hCc) (rfl) (Nat.le_of_ble_eq_true rfl) (Nat.le_of_ble_eq_true rfl) ⟨Nat.le_of_ble_eq_true rfl, Nat.le_of_ble_eq_true rfl⟩ ?_
  rintro _ _ ⟨g, rfl, rfl, hg⟩
  skip
  have hp1 : prC C (yA C 114 g) := ⟨fun _ _ _ => rfl, fun q a _ => by simp only [qxs]; rw [if_neg a], rfl, fun _ _ => rfl⟩
  have hgg : ∀ f, f < cF S → xA (yA C 114 g) 114 f = fo S f := hg
  refine oX3_noteAt_6 _ _ _ _ _ _ ?_
  simp only [bX3_noteAt_6, qsem, qopt_s, qopt2_s, qev, qxs, Nat.reduceEqDiff, reduceIte, and_true, true_and, and_false, false_and, and_self, or_true, true_or, qb_or, reduceCtorEq, qbr_True, qbr_False, q10, q01, qwC]
  refine kX3_noteAt_9 (zX3_gather (C := yA C 114 g) h1 h2 h8 hI hgg hf hcl) (rfl) (Nat.le_of_ble_eq_true rfl) (Nat.le_of_ble_eq_true rfl) ⟨Nat.le_of_ble_eq_true rfl, Nat.le_of_ble_eq_true rfl⟩ ?_
  rintro _ _ ⟨C2, rfl, rfl, p2, e2, hw⟩
  refine oX3_noteAt_12 _ _ _ _ _ _ ?_
  simp only [bX3_noteAt_12, qsem, qopt_s, qopt2_s, qev, qxs, Nat.reduceEqDiff, reduceIte, and_true, true_and, and_false, false_and, and_self, or_true, true_or, qb_or, reduceCtorEq, qbr_True, qbr_False, q10, q01, qwC]
  exact main C2 (prC_tr hp1 p2) (fun f hf => by rw [e2]; exact hgg f hf) hw
theorem Inv_pr {C C' : qC} {S : qS} {r : Nat × Nat × Nat} {H : Nat → Nat → Nat → Bool} (hr : wR r) (hW : WS S H) (h : Inv C S r H) (hp : prC C C') : Inv C' S r H := by
  obtain ⟨kN, kS, kF, kR, kO, kB, kT, kC, kM, kA, kQ, kK, kU⟩ := h
  obtain ⟨e1, e2, e3, e4⟩ := hp
  exact ⟨iN_cg (e1 1 3 (by omega)) (e2 2 (by omega) (by omega)) kN, iS_cg (e1 3 3 (by omega)) (e2 4 (by omega) (by omega)) kS, iF_cg (e1 5 7 (by omega)) (by rw [e3]) kF, iR_cg hW.1 (fun i hi => e4 (13 + i) (by omega)) kR, iO_cg (e2 8 (by omega) (by omega)) kO, iB_cg (e2 9 (by omega) (by omega)) kB, iT_cg (e2 10 (by omega) (by omega)) (e2 11 (by omega) (by omega)) kT, iC_cg (e4 12 (by omega)) kC, iM_cg (e1 117 3 (by omega)) (e2 118 (by omega) (by omega)) (e2 119 (by omega) (by omega)) (e4 120 (by omega)) kM, iA_cg (e1 121 1 (by omega)) (e2 122 (by omega) (by omega)) kA, iQ_cg (e1 124 1 (by omega)) (e2 125 (by omega) (by omega)) kQ, iK_cg (e2 127 (by omega) (by omega)) (e2 128 (by omega) (by omega)) (e2 129 (by omega) (by omega)) (e2 130 (by omega) (by omega)) kK, iU_cg (e1 0 10 (by omega)) (e2 _ (rp hr (by omega)) (rp hr (by omega))) (funext (fun j => e1 131 j (by omega))) kU⟩
set_option maxRecDepth 100000 in
set_option maxHeartbeats 4000000 in
theorem zX10_proof {C M : qC} {r : Nat × Nat × Nat} {S : qS} {H : Nat → Nat → Nat → Bool} {a i : Int32} (hr : wR r) (hW : WS S H) (h : Inv C S r H) : CT mX10_proof 5 0 0 [.ref 0, .int a, .int i] (wd C M r) (fun r' w' => ∃ C', w' = wd C' M r ∧ Inv C' S r H ∧ r' = some (.int (prV S a i))) := by
  have h1 := hW.1
  have hF := h1.2.2.1
  have kC := h.2.2.2.2.2.2.2.1
  have hcl := zX7_isClean (C := C) (M := M) (r := r) (a := a)
  refine eX10_proof (AW_gen (fun Q hQ => ?_))
  by_cases hc : (inN a 100 && fB C 12 a.toNatClampNeg) = true
  · obtain ⟨ha, hb⟩ := Bool.and_eq_true_iff.mp hc
    obtain ⟨f, hf, rfl⟩ := inN_of (by omega) ha
    rw [nIcl (show f < 1000 by omega)] at hb
    have hcf := (kC f (by omega)).mp hb
    have hfF := cln_lt hW.2.1 hcf
    rw [hc] at hcl
    have ev : (if i < 0 then -1 else nthF (fun n => dc (prf S f n)) (cN S) i (cN S) 0) = prV S (nI f) i := by
      unfold prV
      rw [nIcl (show f < 1000 by omega)]
      by_cases hi : i < 0
      · rw [if_pos hi, dcf (fun q => q.2.1 hi)]; rfl
      · rw [if_neg hi, if_pos (show dc (isF S (nI f) = true ∧ ¬ i < 0 ∧ cln S f) = true from dc_iff.mpr ⟨isF_nI h1 hfF, hi, hcf⟩)]
    refine oX10_proof_0 _ _ _ _ _ _ ?_
    simp only [bX10_proof_0, qsem, qopt_s, qopt2_s, qev, qxs, Nat.reduceEqDiff, reduceIte, and_true, true_and, and_false, false_and, and_self, or_true, true_or, qb_or, reduceCtorEq, qbr_True, qbr_False, q10, q01, qwC, qb_t]
    refine kX10_proof_5 (hcl) (rfl) (Nat.le_of_ble_eq_true rfl) (Nat.le_of_ble_eq_true rfl) ⟨Nat.le_of_ble_eq_true rfl, Nat.le_of_ble_eq_true rfl⟩ ?_
    rintro _ _ ⟨rfl, rfl⟩
    refine oX10_proof_8 _ _ _ _ _ _ ?_
    simp only [bX10_proof_8, qsem, qopt_s, qopt2_s, qev, qxs, Nat.reduceEqDiff, reduceIte, and_true, true_and, and_false, false_and, and_self, or_true, true_or, qb_or, reduceCtorEq, qbr_True, qbr_False, q10, q01, qwC, qb_t]
    refine kX10_proof_25 (zX3_noteAt h1 hW.2.1 hW.2.2.2.2.2.2.2.1 h.1 h.2.2.1 kC hfF hcf) (rfl) (Nat.le_of_ble_eq_true rfl) (Nat.le_of_ble_eq_true rfl) ⟨Nat.le_of_ble_eq_true rfl, Nat.le_of_ble_eq_true rfl⟩ ?_
    rintro _ _ ⟨C', rfl, hp, rfl⟩
    refine oX10_proof_28 _ _ _ _ _ _ ?_
    simp only [bX10_proof_28, qsem, qopt_s, qopt2_s, qev, qxs, Nat.reduceEqDiff, reduceIte, and_true, true_and, and_false, false_and, and_self, or_true, true_or, qb_or, reduceCtorEq, qbr_True, qbr_False, q10, q01, qwC, qb_t]
    refine oX10_proof_32 _ _ _ _ _ _ ?_
    simp only [bX10_proof_32, qsem, qopt_s, qopt2_s, qev, qxs, Nat.reduceEqDiff, reduceIte, and_true, true_and, and_false, false_and, and_self, or_true, true_or, qb_or, reduceCtorEq, qbr_True, qbr_False, q10, q01, qwC, qb_t]
    exact hQ _ _ ⟨C', rfl, Inv_pr hr hW h hp, ri ev⟩
  · have hc2 := (Bool.not_eq_true _).mp hc
    rw [hc2] at hcl
    have ev : prV S a i = -1 := by
      unfold prV
      rw [dcf (fun q => hc (by
        obtain ⟨f, hf, rfl⟩ := isF_of h1 q.1
        have hq := q.2.2
        rw [nIcl (show f < 1000 by omega)] at hq ⊢
        rw [inNi (show f < 100 by omega) (by omega), (kC f (by omega)).mpr hq]; rfl))]
      rfl
    refine oX10_proof_0 _ _ _ _ _ _ ?_
    simp only [bX10_proof_0, qsem, qopt_s, qopt2_s, qev, qxs, Nat.reduceEqDiff, reduceIte, and_true, true_and, and_false, false_and, and_self, or_true, true_or, qb_or, reduceCtorEq, qbr_True, qbr_False, q10, q01, qwC, qb_f]
    refine kX10_proof_5 (hcl) (rfl) (Nat.le_of_ble_eq_true rfl) (Nat.le_of_ble_eq_true rfl) ⟨Nat.le_of_ble_eq_true rfl, Nat.le_of_ble_eq_true rfl⟩ ?_
    rintro _ _ ⟨rfl, rfl⟩
    refine oX10_proof_8 _ _ _ _ _ _ ?_
    simp only [bX10_proof_8, qsem, qopt_s, qopt2_s, qev, qxs, Nat.reduceEqDiff, reduceIte, and_true, true_and, and_false, false_and, and_self, or_true, true_or, qb_or, reduceCtorEq, qbr_True, qbr_False, q10, q01, qwC, qb_f]
    refine oX10_proof_31 _ _ _ _ _ _ ?_
    simp only [bX10_proof_31, qsem, qopt_s, qopt2_s, qev, qxs, Nat.reduceEqDiff, reduceIte, and_true, true_and, and_false, false_and, and_self, or_true, true_or, qb_or, reduceCtorEq, qbr_True, qbr_False, q10, q01, qwC, qb_f]
    refine oX10_proof_32 _ _ _ _ _ _ ?_
    simp only [bX10_proof_32, qsem, qopt_s, qopt2_s, qev, qxs, Nat.reduceEqDiff, reduceIte, and_true, true_and, and_false, false_and, and_self, or_true, true_or, qb_or, reduceCtorEq, qbr_True, qbr_False, q10, q01, qwC, qb_f]
    exact hQ _ _ ⟨C, rfl, h, ri ev.symm⟩


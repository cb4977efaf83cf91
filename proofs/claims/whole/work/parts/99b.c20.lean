/-- all but the keys -/
theorem Inv_keys {C C' : qC} {S S' : qS} {r : Nat × Nat × Nat} {H : Nat → Nat → Nat → Bool} (hr : wR r) (hW : WS S H) (h : Inv C S r H) (e1 : xI C' = xI C) (e2 : ∀ q, q ≠ 127 → q ≠ 128 → q ≠ 129 → q ≠ 130 → xA C' q = xA C q) (e3 : xM C' = xM C) (e4 : xL C' = xL C) (s1 : S'.1 = S.1) (s2 : ∀ p, p ≠ 151 → p ≠ 152 → p ≠ 153 → S'.2.1 p = S.2.1 p) (s3 : S'.2.2 = S.2.2) (hK : iK C' S') : Inv C' S' r H := by
  have hS : S' = sA (sA (sA S 151 (S'.2.1 151)) 152 (S'.2.1 152)) 153 (S'.2.1 153) := by
    refine Prod.ext s1 (Prod.ext ?_ s3)
    funext p
    show S'.2.1 p = if p = 153 then S'.2.1 153 else if p = 152 then S'.2.1 152 else if p = 151 then S'.2.1 151 else S.2.1 p
    by_cases a : p = 153
    · rw [if_pos a, a]
    · rw [if_neg a]
      by_cases b : p = 152
      · rw [if_pos b, b]
      · rw [if_neg b]
        by_cases c : p = 151
        · rw [if_pos c, c]
        · rw [if_neg c]; exact s2 p c b a
  obtain ⟨kN, kS, kF, kR, kO, kB, kT, kC, kM, kA, kQ, kK, kU⟩ := h
  have fN : iN C' S := iN_cg (by rw [e1]) (e2 2 (by omega) (by omega) (by omega) (by omega)) kN
  have fS : iS C' S := iS_cg (by rw [e1]) (e2 4 (by omega) (by omega) (by omega) (by omega)) kS
  have fF : iF C' S := iF_cg (by rw [e1]) (by rw [e3]) kF
  have fR : iR C' S := iR_cg hW.1 (fun i hi => by rw [e4]) kR
  have fO : iO C' S := iO_cg (e2 8 (by omega) (by omega) (by omega) (by omega)) kO
  have fB : iB C' S := iB_cg (e2 9 (by omega) (by omega) (by omega) (by omega)) kB
  have fT : iT C' S := iT_cg (e2 10 (by omega) (by omega) (by omega) (by omega)) (e2 11 (by omega) (by omega) (by omega) (by omega)) kT
  have fC : iC C' S := iC_cg (by rw [e4]) kC
  have fM : iM C' S := iM_cg (by rw [e1]) (e2 118 (by omega) (by omega) (by omega) (by omega)) (e2 119 (by omega) (by omega) (by omega) (by omega)) (by rw [e4]) kM
  have fA : iA C' S := iA_cg (by rw [e1]) (e2 122 (by omega) (by omega) (by omega) (by omega)) kA
  have fQ : iQ C' S := iQ_cg (by rw [e1]) (e2 125 (by omega) (by omega) (by omega) (by omega)) kQ
  have fU : iU C' S r H := iU_cg (by rw [e1]) (e2 _ (rp hr (by omega)) (rp hr (by omega)) (rp hr (by omega)) (rp hr (by omega))) (by rw [e1]) kU
  rw [hS] at hK ⊢
  exact ⟨fN, fS, fF, fR, fO, iB_S (S := S) rfl rfl rfl rfl rfl fB, iT_S (S := S) rfl rfl rfl rfl rfl fT, fC, fM, fA, fQ, hK, fU⟩
set_option maxRecDepth 100000 in
set_option maxHeartbeats 4000000 in
theorem zX10_uses {C M : qC} {r : Nat × Nat × Nat} {S : qS} {H : Nat → Nat → Nat → Bool} {a m : Int32} (hr : wR r) (hW : WS S H) (h : Inv C S r H) : CT mX10_uses 3 0 0 [.ref 0, .int a, .int m] (wd C M r) (fun r' w' => ∃ C', w' = wd C' M r ∧ ((¬ useOk S a m ∧ r' = some (.int (-1)) ∧ Inv C' S r H) ∨ (useOk S a m ∧ r' = some (.int (S.2.1 151 a.toNatClampNeg + m)) ∧ Inv C' (useS S a m) r H ∧ WS (useS S a m) H))) := by
  have hK := h.2.2.2.2.2.2.2.2.2.2.2.1
  refine eX10_uses (AW_gen (fun Q hQ => ?_))
  refine oX10_uses_0 _ _ _ _ _ _ ?_
  simp only [bX10_uses_0, qsem, qopt_s, qopt2_s, qev, qxs, Nat.reduceEqDiff, reduceIte, and_true, true_and, and_false, false_and, and_self, or_true, true_or, qb_or, reduceCtorEq, qbr_True, qbr_False, q10, q01, qwC]
  refine kX10_uses_6 (zX2_addUses hK) (rfl) (Nat.le_of_ble_eq_true rfl) (Nat.le_of_ble_eq_true rfl) ⟨Nat.le_of_ble_eq_true rfl, Nat.le_of_ble_eq_true rfl⟩ ?_
  rintro _ _ (⟨hno, rfl, rfl⟩ | ⟨hok, rfl, rfl⟩)
  all_goals refine oX10_uses_9 _ _ _ _ _ _ ?_
  all_goals simp only [bX10_uses_9, qsem, qev, Option.toList_some, List.cons_append, List.nil_append]
  · exact hQ _ _ ⟨C, rfl, Or.inl ⟨hno, rfl, h⟩⟩
  · obtain ⟨k, hk, rfl⟩ := isKy_of hok.1
    have hc := ky_c hk
    obtain ⟨u, hu, eu⟩ := hW.2.2.2.2.2.2.2.2.2.1 k hk
    have hok' := hok
    obtain ⟨-, ⟨m1, m2⟩, -, -, m3⟩ := hok'
    obtain ⟨mm, hmm, rfl⟩ := i_bd (x := m) (n := 1001) (Int32.le_trans (by decide) m1) (by rw [i_lt]; rw [i_le] at m2; simp only [Int32.reduceToInt] at m2; rw [i_n (by omega)]; omega) (by omega)
    rw [hc, eu, nadd] at m3
    have hle : u + mm ≤ 1000000 := (nI_leI (b := 1000000) (by omega) (by omega)).mp m3
    refine hQ _ _ ⟨_, rfl, Or.inr ⟨hok, rfl, Inv_keys hr hW h rfl (fun q a _ _ _ => by simp only [qxs]; rw [if_neg a]) rfl rfl rfl (fun p a _ _ => by show (if p = 151 then _ else S.2.1 p) = _; rw [if_neg a]) rfl ?_, ?_⟩⟩
    · intro k' hk'
      obtain ⟨g1, g2, g3, g4⟩ := hK k' hk'
      refine ⟨?_, g2, g3, g4⟩
      show upd (xA C 127) (nI k).toNatClampNeg (xA C 127 (nI k).toNatClampNeg + nI mm) k' = upd (S.2.1 151) (nI k).toNatClampNeg (S.2.1 151 (nI k).toNatClampNeg + nI mm) k'
      rw [hc]
      by_cases e : k' = k
      · rw [e, pk_us, pk_us, (hK k hk).1]
      · rw [pk_un e, pk_un e, g1]
    · obtain ⟨h1, h2, h3, h4, h5, h6, h7, h8, h9, h10, h11⟩ := hW
      refine ⟨h1, h2, h3, h4, h5, h6, h7, h8, h9, fun k' hk' => ?_, h11⟩
      show ∃ v, v ≤ 1000000 ∧ upd (S.2.1 151) (nI k).toNatClampNeg (S.2.1 151 (nI k).toNatClampNeg + nI mm) k' = nI v
      rw [hc]
      by_cases e : k' = k
      · rw [e, pk_us, eu, nadd]; exact ⟨u + mm, hle, rfl⟩
      · rw [pk_un e]; exact h10 k' hk'
set_option maxRecDepth 100000 in
set_option maxHeartbeats 4000000 in
theorem zX10_finish {C M : qC} {r : Nat × Nat × Nat} {S : qS} {H : Nat → Nat → Nat → Bool} {a : Int32} (hr : wR r) (hW : WS S H) (h : Inv C S r H) : CT mX10_finish 3 0 0 [.ref 0, .int a] (wd C M r) (fun r' w' => ∃ C', w' = wd C' M r ∧ ((¬ finOk S a ∧ r' = some (.int 0) ∧ Inv C' S r H) ∨ (finOk S a ∧ r' = some (.int 1) ∧ Inv C' (finS S a) r H ∧ WS (finS S a) H))) := by
  have hK := h.2.2.2.2.2.2.2.2.2.2.2.1
  refine eX10_finish (AW_gen (fun Q hQ => ?_))
  refine oX10_finish_0 _ _ _ _ _ _ ?_
  simp only [bX10_finish_0, qsem, qopt_s, qopt2_s, qev, qxs, Nat.reduceEqDiff, reduceIte, and_true, true_and, and_false, false_and, and_self, or_true, true_or, qb_or, reduceCtorEq, qbr_True, qbr_False, q10, q01, qwC]
  refine kX10_finish_5 (zX2_endOne hK) (rfl) (Nat.le_of_ble_eq_true rfl) (Nat.le_of_ble_eq_true rfl) ⟨Nat.le_of_ble_eq_true rfl, Nat.le_of_ble_eq_true rfl⟩ ?_
  rintro _ _ (⟨hno, rfl, rfl⟩ | ⟨hok, rfl, rfl⟩)
  all_goals refine oX10_finish_8 _ _ _ _ _ _ ?_
  all_goals simp only [bX10_finish_8, qsem, qev, Option.toList_some, List.cons_append, List.nil_append, true_or, or_true, true_and]
  · exact hQ _ _ ⟨C, rfl, Or.inl ⟨hno, rfl, h⟩⟩
  · obtain ⟨k, hk, rfl⟩ := isKy_of hok.1
    have hc := ky_c hk
    refine hQ _ _ ⟨_, rfl, Or.inr ⟨hok, rfl, Inv_keys hr hW h rfl (fun q _ a _ _ => by simp only [qxs]; rw [if_neg a]) rfl rfl rfl (fun p _ a _ => by show (if p = 152 then _ else S.2.1 p) = _; rw [if_neg a]) rfl ?_, ?_⟩⟩
    · intro k' hk'
      obtain ⟨g1, g2, g3, g4⟩ := hK k' hk'
      refine ⟨g1, ?_, g3, g4⟩
      show upd (xA C 128) (nI k).toNatClampNeg 1 k' = upd (S.2.1 152) (nI k).toNatClampNeg 1 k'
      rw [hc]
      by_cases e : k' = k
      · rw [e, pk_us, pk_us]
      · rw [pk_un e, pk_un e, g2]
    · obtain ⟨h1, h2, h3, h4, h5, h6, h7, h8, h9, h10, h11⟩ := hW
      refine ⟨h1, h2, h3, h4, h5, fun k' hk' => ?_, h7, h8, h9, h10, h11⟩
      show upd (S.2.1 152) (nI k).toNatClampNeg 1 k' = 0 ∨ upd (S.2.1 152) (nI k).toNatClampNeg 1 k' = 1
      rw [hc]
      by_cases e : k' = k
      · rw [e, pk_us]; exact Or.inr rfl
      · rw [pk_un e]; exact h6 k' hk'
set_option maxRecDepth 100000 in
set_option maxHeartbeats 4000000 in
theorem zX10_lose {C M : qC} {r : Nat × Nat × Nat} {S : qS} {H : Nat → Nat → Nat → Bool} {a since : Int32} (hr : wR r) (hW : WS S H) (h : Inv C S r H) : CT mX10_lose 2 0 0 [.ref 0, .int a, .int since] (wd C M r) (fun r' w' => ∃ C', w' = wd C' M r ∧ ((¬ losOk S a since ∧ r' = some (.int (-1)) ∧ Inv C' S r H) ∨ (losOk S a since ∧ r' = some (.int (nI (sct S a since))) ∧ Inv C' (losS S a since) r H ∧ WS (losS S a since) H))) := by
  have hK := h.2.2.2.2.2.2.2.2.2.2.2.1
  have h1 := hW.1
  have hN := h1.2.1
  have hcs := h1.2.2.2.2.2.2.1
  refine eX10_lose (AW_gen (fun Q hQ => ?_))
  have bad : ¬ losOk S a since → Q (some (.int (-1))) (wd C M r) := fun hno => hQ _ _ ⟨C, rfl, Or.inl ⟨hno, rfl, h⟩⟩
  have good : ∀ k, k < 4 → a = nI k → losOk S a since → AW (mX10_lose, 2, 0, 0, none, Q) 29 [some (.ref 0), some (.int a), some (.int since), none, none] [] (wd (yA C 129 (upd (xA C 129) a.toNatClampNeg since)) M r) 0 0 := by
    intro k hk ea hok
    subst ea
    have hc := ky_c hk
    have fin : Q (some (.int (nI (sct S (nI k) since)))) (wd (yA C 129 (upd (xA C 129) (nI k).toNatClampNeg since)) M r) := by
      refine hQ _ _ ⟨_, rfl, Or.inr ⟨hok, rfl, Inv_keys hr hW h rfl (fun q _ _ a _ => by simp only [qxs]; rw [if_neg a]) rfl rfl rfl (fun p _ _ a => by show (if p = 153 then _ else S.2.1 p) = _; rw [if_neg a]) rfl ?_, ?_⟩⟩
      · intro k' hk'
        obtain ⟨g1, g2, g3, g4⟩ := hK k' hk'
        refine ⟨g1, g2, ?_, g4⟩
        show upd (xA C 129) (nI k).toNatClampNeg since k' = upd (S.2.1 153) (nI k).toNatClampNeg since k'
        rw [hc]
        by_cases e : k' = k
        · rw [e, pk_us, pk_us]
        · rw [pk_un e, pk_un e, g3]
      · obtain ⟨h1, h2, h3, h4, h5, h6, h7, h8, h9, h10, h11⟩ := hW
        exact ⟨h1, h2, h3, h4, h5, h6, h7, h8, h9, h10, h11⟩
    have hS2 : iS (yA C 129 (upd (xA C 129) (nI k).toNatClampNeg since)) S := h.2.1
    generalize yA C 129 (upd (xA C 129) (nI k).toNatClampNeg since) = C2 at fin hS2 ⊢
    have loop : ∀ (d s : Nat), s + d = cS S → AW (mX10_lose, 2, 0, 0, none, Q) 34 [some (.ref 0), some (.int (nI k)), some (.int since), some (.int (nI (fb_ct (fun s => S.2.1 147 (sln S s) == nI k && decide (since ≤ nI (sln S s))) s))), some (.int (nI s))] [] (wd C2 M r) 0 0 := by
      intro d
      induction d with
      | zero =>
        intro s hs
        obtain rfl : s = cS S := by omega
        refine oX10_lose_34 _ _ _ _ _ _ ?_
        simp only [bX10_lose_34, qsem, qopt_s, qopt2_s, qev, qxs, Nat.reduceEqDiff, reduceIte, and_true, true_and, and_false, false_and, and_self, or_true, true_or, qb_or, reduceCtorEq, qbr_True, qbr_False, q10, q01, qwC, hS2.1]
        refine kX10_lose_40 (zX8_size_3) (rfl) (Nat.le_of_ble_eq_true rfl) (Nat.le_of_ble_eq_true rfl) ⟨Nat.le_of_ble_eq_true rfl, Nat.le_of_ble_eq_true rfl⟩ ?_
        rintro _ _ ⟨rfl, rfl⟩
        refine oX10_lose_43 _ _ _ _ _ _ ?_
        simp only [bX10_lose_43, qsem, qopt_s, qopt2_s, qev, qxs, Nat.reduceEqDiff, reduceIte, and_true, true_and, and_false, false_and, and_self, or_true, true_or, qb_or, reduceCtorEq, qbr_True, qbr_False, q10, q01, qwC, hS2.1]
        refine qbr_t ((Int32.le_refl _)) ?_
        refine oX10_lose_83 _ _ _ _ _ _ ?_
        simp only [bX10_lose_83, qsem, qopt_s, qopt2_s, qev, qxs, Nat.reduceEqDiff, reduceIte, and_true, true_and, and_false, false_and, and_self, or_true, true_or, qb_or, reduceCtorEq, qbr_True, qbr_False, q10, q01, qwC, hS2.1]
        exact fin
      | succ d ih =>
        intro s hs
        have hsS : s < cS S := by omega
        have hn := ih (s + 1) (by omega)
        rw [fb_ct_succ] at hn
        have c1' := zX8_cS (C := C2) (M := M) (r := r) 1 h1 hS2 hsS (by omega)
        have c2' := zX8_cS (C := C2) (M := M) (r := r) 2 h1 hS2 hsS (by omega)
        rw [show slV S false s 1 = S.2.1 147 (sln S s) from rfl] at c1'
        rw [show slV S false s 2 = nI (sln S s) from rfl] at c2'
        generalize fb_ct (fun s => S.2.1 147 (sln S s) == nI k && decide (since ≤ nI (sln S s))) s = c at hn ⊢
        refine oX10_lose_34 _ _ _ _ _ _ ?_
        simp only [bX10_lose_34, qsem, qopt_s, qopt2_s, qev, qxs, Nat.reduceEqDiff, reduceIte, and_true, true_and, and_false, false_and, and_self, or_true, true_or, qb_or, reduceCtorEq, qbr_True, qbr_False, q10, q01, qwC, hS2.1, nI_1]
        refine kX10_lose_40 (zX8_size_3) (rfl) (Nat.le_of_ble_eq_true rfl) (Nat.le_of_ble_eq_true rfl) ⟨Nat.le_of_ble_eq_true rfl, Nat.le_of_ble_eq_true rfl⟩ ?_
        rintro _ _ ⟨rfl, rfl⟩
        refine oX10_lose_43 _ _ _ _ _ _ ?_
        simp only [bX10_lose_43, qsem, qopt_s, qopt2_s, qev, qxs, Nat.reduceEqDiff, reduceIte, and_true, true_and, and_false, false_and, and_self, or_true, true_or, qb_or, reduceCtorEq, qbr_True, qbr_False, q10, q01, qwC, hS2.1, nI_1]
        refine qbr_f (nI_ge (by omega) (by omega)) ?_
        refine kX10_lose_53 (c1') (rfl) (Nat.le_of_ble_eq_true rfl) (Nat.le_of_ble_eq_true rfl) ⟨Nat.le_of_ble_eq_true rfl, Nat.le_of_ble_eq_true rfl⟩ ?_
        rintro _ _ ⟨rfl, rfl⟩
        refine oX10_lose_56 _ _ _ _ _ _ ?_
        simp only [bX10_lose_56, qsem, qopt_s, qopt2_s, qev, qxs, Nat.reduceEqDiff, reduceIte, and_true, true_and, and_false, false_and, and_self, or_true, true_or, qb_or, reduceCtorEq, qbr_True, qbr_False, q10, q01, qwC, hS2.1, nI_1]
        refine qbr_i (fun c1 => ?_) (fun c1 => ?_)
        · refine kX10_lose_67 (c2') (rfl) (Nat.le_of_ble_eq_true rfl) (Nat.le_of_ble_eq_true rfl) ⟨Nat.le_of_ble_eq_true rfl, Nat.le_of_ble_eq_true rfl⟩ ?_
          rintro _ _ ⟨rfl, rfl⟩
          refine oX10_lose_70 _ _ _ _ _ _ ?_
          simp only [bX10_lose_70, qsem, qopt_s, qopt2_s, qev, qxs, Nat.reduceEqDiff, reduceIte, and_true, true_and, and_false, false_and, and_self, or_true, true_or, qb_or, reduceCtorEq, qbr_True, qbr_False, q10, q01, qwC, hS2.1, nI_1]
          refine qbr_i (fun c2 => ?_) (fun c2 => ?_)
          · refine oX10_lose_77 _ _ _ _ _ _ ?_
            simp only [bX10_lose_77, qsem, qopt_s, qopt2_s, qev, qxs, Nat.reduceEqDiff, reduceIte, and_true, true_and, and_false, false_and, and_self, or_true, true_or, qb_or, reduceCtorEq, qbr_True, qbr_False, q10, q01, qwC, hS2.1, nI_1]
            first | (rw [if_neg (fun q => c1 (eq_of_beq (Bool.and_eq_true_iff.mp q).1))] at hn; exact hn) | (rw [if_neg (fun q => absurd c2 (Int32.not_lt.mpr (of_decide_eq_true (Bool.and_eq_true_iff.mp q).2)))] at hn; exact hn) | (rw [if_pos (Bool.and_eq_true_iff.mpr ⟨beq_iff_eq.mpr c1, decide_eq_true (Int32.not_lt.mp c2)⟩)] at hn; exact hn)
          · refine oX10_lose_77 _ _ _ _ _ _ ?_
            simp only [bX10_lose_77, qsem, qopt_s, qopt2_s, qev, qxs, Nat.reduceEqDiff, reduceIte, and_true, true_and, and_false, false_and, and_self, or_true, true_or, qb_or, reduceCtorEq, qbr_True, qbr_False, q10, q01, qwC, hS2.1, nI_1]
            first | (rw [if_neg (fun q => c1 (eq_of_beq (Bool.and_eq_true_iff.mp q).1))] at hn; exact hn) | (rw [if_neg (fun q => absurd c2 (Int32.not_lt.mpr (of_decide_eq_true (Bool.and_eq_true_iff.mp q).2)))] at hn; exact hn) | (rw [if_pos (Bool.and_eq_true_iff.mpr ⟨beq_iff_eq.mpr c1, decide_eq_true (Int32.not_lt.mp c2)⟩)] at hn; exact hn)
        · refine oX10_lose_77 _ _ _ _ _ _ ?_
          simp only [bX10_lose_77, qsem, qopt_s, qopt2_s, qev, qxs, Nat.reduceEqDiff, reduceIte, and_true, true_and, and_false, false_and, and_self, or_true, true_or, qb_or, reduceCtorEq, qbr_True, qbr_False, q10, q01, qwC, hS2.1, nI_1]
          first | (rw [if_neg (fun q => c1 (eq_of_beq (Bool.and_eq_true_iff.mp q).1))] at hn; exact hn) | (rw [if_neg (fun q => absurd c2 (Int32.not_lt.mpr (of_decide_eq_true (Bool.and_eq_true_iff.mp q).2)))] at hn; exact hn) | (rw [if_pos (Bool.and_eq_true_iff.mpr ⟨beq_iff_eq.mpr c1, decide_eq_true (Int32.not_lt.mp c2)⟩)] at hn; exact hn)
    refine oX10_lose_29 _ _ _ _ _ _ ?_
    simp only [bX10_lose_29, qsem, qopt_s, qopt2_s, qev, qxs, Nat.reduceEqDiff, reduceIte, and_true, true_and, and_false, false_and, and_self, or_true, true_or, qb_or, reduceCtorEq, qbr_True, qbr_False, q10, q01, qwC]
    exact loop (cS S) 0 (by omega)
  refine oX10_lose_0 _ _ _ _ _ _ ?_
  simp only [bX10_lose_0, qsem, qopt_s, qopt2_s, qev, qxs, Nat.reduceEqDiff, reduceIte, and_true, true_and, and_false, false_and, and_self, or_true, true_or, qb_or, reduceCtorEq, qbr_True, qbr_False, q10, q01, qwC, h.1.1]
  refine qbr_i (fun c1 => ?_) (fun c1 => ?_)
  · refine oX10_lose_27 _ _ _ _ _ _ ?_
    simp only [bX10_lose_27, qsem, qopt_s, qopt2_s, qev, qxs, Nat.reduceEqDiff, reduceIte, and_true, true_and, and_false, false_and, and_self, or_true, true_or, qb_or, reduceCtorEq, qbr_True, qbr_False, q10, q01, qwC, h.1.1]
    first | exact bad (fun q => absurd c1 (Int32.not_lt.mpr q.2.1.1)) | exact bad (fun q => absurd c2 (Int32.not_lt.mpr q.2.1.2))
  · refine kX10_lose_9 (zX8_size_1) (rfl) (Nat.le_of_ble_eq_true rfl) (Nat.le_of_ble_eq_true rfl) ⟨Nat.le_of_ble_eq_true rfl, Nat.le_of_ble_eq_true rfl⟩ ?_
    rintro _ _ ⟨rfl, rfl⟩
    refine oX10_lose_12 _ _ _ _ _ _ ?_
    simp only [bX10_lose_12, qsem, qopt_s, qopt2_s, qev, qxs, Nat.reduceEqDiff, reduceIte, and_true, true_and, and_false, false_and, and_self, or_true, true_or, qb_or, reduceCtorEq, qbr_True, qbr_False, q10, q01, qwC, h.1.1]
    refine qbr_i (fun c2 => ?_) (fun c2 => ?_)
    · refine oX10_lose_27 _ _ _ _ _ _ ?_
      simp only [bX10_lose_27, qsem, qopt_s, qopt2_s, qev, qxs, Nat.reduceEqDiff, reduceIte, and_true, true_and, and_false, false_and, and_self, or_true, true_or, qb_or, reduceCtorEq, qbr_True, qbr_False, q10, q01, qwC, h.1.1]
      first | exact bad (fun q => absurd c1 (Int32.not_lt.mpr q.2.1.1)) | exact bad (fun q => absurd c2 (Int32.not_lt.mpr q.2.1.2))
    · refine kX10_lose_21 (zX2_loseOne hK) (rfl) (Nat.le_of_ble_eq_true rfl) (Nat.le_of_ble_eq_true rfl) ⟨Nat.le_of_ble_eq_true rfl, Nat.le_of_ble_eq_true rfl⟩ ?_
      rintro _ _ hcase
      exact (hcase.elim (fun ⟨hno, e1, e2⟩ => by subst e1; subst e2; exact (by refine oX10_lose_24 _ _ _ _ _ _ ?_; simp only [bX10_lose_24, qsem, qev, Option.toList_some, List.cons_append, List.nil_append, qbr_True]; refine oX10_lose_27 _ _ _ _ _ _ ?_; simp only [bX10_lose_27, qsem, qev]; exact bad (fun q => hno ⟨q.1, q.2.2⟩))) (fun ⟨hok, e1, e2⟩ => by subst e1; subst e2; exact (by refine oX10_lose_24 _ _ _ _ _ _ ?_; simp only [bX10_lose_24, qsem, qev, Option.toList_some, List.cons_append, List.nil_append, q10, qbr_False]; obtain ⟨k, hk, ek⟩ := isKy_of hok.1; exact good k hk ek ⟨hok.1, ⟨Int32.not_lt.mp c1, Int32.not_lt.mp c2⟩, hok.2⟩)))
/-! the queue -/
theorem pig {f : Nat → Nat} {F : Nat} : ∀ n, (∀ k, k < n → f k < F) → (∀ i j, i < j → j < n → f i ≠ f j) → n ≤ fb_ct (fun v => dc (∃ k, k < n ∧ f k = v)) F
  | 0, _, _ => Nat.zero_le _
  | n + 1, h1, h2 => by
    have ih := pig n (fun k hk => h1 k (by omega)) (fun i j a b => h2 i j a (by omega))
    have h0 : (fun v => dc (∃ k, k < n ∧ f k = v)) (f n) = false := dcf (fun ⟨k, hk, e⟩ => h2 k n hk (by omega) e)
    have e := ct_bs (ρ := fun v => dc (∃ k, k < n ∧ f k = v)) (n := F) (h1 n (by omega)) h0
    have e2 : fb_ct (fun v => dc (∃ k, k < n + 1 ∧ f k = v)) F = fb_ct (bs (fun v => dc (∃ k, k < n ∧ f k = v)) (f n)) F := fb_ct_cong (fun v _ => by
      unfold bs
      by_cases ev : v = f n
      · rw [if_pos ev]; exact dc_iff.mpr ⟨n, by omega, ev.symm⟩
      · rw [if_neg ev]
        exact dc_c ⟨fun ⟨k, hk, q⟩ => ⟨k, by have : k ≠ n := fun z => ev (by rw [← q, z]); omega, q⟩, fun ⟨k, hk, q⟩ => ⟨k, by omega, q⟩⟩)
    omega
theorem ffi_no {p : Nat → Bool} {F : Nat} : ∀ k, k ≤ F → F < 2 ^ 31 → ffi p F k = -1 → ∀ i, F - k ≤ i → i < F → p i = false
  | 0, _, _, _, i, a, b => by omega
  | k + 1, hk, hF, h, i, a, b => by
    unfold ffi at h
    by_cases hp : p (F - (k + 1)) = true
    · rw [if_pos hp] at h
      exact absurd h (i_nm1 (by omega))
    · rw [if_neg hp] at h
      by_cases e : i = F - (k + 1)
      · rw [e]; exact (Bool.not_eq_true _).mp hp
      · exact ffi_no k (by omega) hF h i (by omega) b
theorem ask_q {S : qS} (h1 : W1 S) (h3 : W3 S) {a : Int32} (ha : isF S a = true) (hp : plc S a = -1) : cQ S < 100 := by
  have hF := h1.2.2.1
  have hq := h1.2.2.2.2.2.1
  obtain ⟨j, hj, rfl⟩ := isF_of h1 ha
  have hno := ffi_no (cQ S) (Nat.le_refl _) (by omega) hp
  have hp2 := pig (f := qat S) (F := cF S) (cQ S) (fun k hk => (h3.1 k hk).2) h3.2
  have hlt : fb_ct (fun v => dc (∃ k, k < cQ S ∧ qat S k = v)) (cF S) < cF S := ct_lt hj (dcf (fun ⟨k, hk, e⟩ => by
    have := hno k (by omega) hk
    simp only [beq_eq_false_iff_ne] at this
    exact this (by rw [(h3.1 k hk).1, e])))
  omega
theorem ask_d {S : qS} (h1 : W1 S) (h3 : W3 S) {j : Nat} (hj : j < cF S) (hp : plc S (nI j) = -1) : ∀ k, k < cQ S → qat S k ≠ j := by
  have hq := h1.2.2.2.2.2.1
  intro k hk e
  have := ffi_no (cQ S) (Nat.le_refl _) (by omega) hp k (by omega) hk
  simp only [beq_eq_false_iff_ne] at this
  exact this (by rw [(h3.1 k hk).1, e])
set_option maxRecDepth 100000 in
set_option maxHeartbeats 4000000 in
theorem zX10_ask {C M : qC} {r : Nat × Nat × Nat} {S : qS} {H : Nat → Nat → Nat → Bool} {a : Int32} (hr : wR r) (hW : WS S H) (h : Inv C S r H) : CT mX10_ask 2 0 0 [.ref 0, .int a] (wd C M r) (fun r' w' => ∃ C', w' = wd C' M r ∧ ((¬ (isF S a = true ∧ plc S a = -1) ∧ r' = some (.int (-1)) ∧ Inv C' S r H) ∨ ((isF S a = true ∧ plc S a = -1) ∧ r' = some (.int (nI (cQ S))) ∧ Inv C' (askS S a) r H ∧ WS (askS S a) H))) := by
  have h1 := hW.1
  have hF := h1.2.2.1
  have kQ := h.2.2.2.2.2.2.2.2.2.2.1
  have hadd := zX4_add (C := C) (M := M) (r := r) (a := a) h1 kQ
  refine eX10_ask (AW_gen (fun Q hQ => ?_))
  by_cases hf : isF S a = true
  · by_cases hp : plc S a = -1
    · have hq := ask_q h1 hW.2.2.1 hf hp
      have e4 : (askS S a).1 4 = nI (cQ S + 1) := by show S.1 4 + 1 = _; rw [h1.1.2.2.2.2.1, nI_1]
      have ecQ : cQ (askS S a) = cQ S + 1 := by show ((askS S a).1 4).toNatClampNeg = _; rw [e4, nI_clamp (by omega)]
      obtain ⟨j, hj, rfl⟩ := isF_of h1 hf
      refine oX10_ask_0 _ _ _ _ _ _ ?_
      simp only [bX10_ask_0, qsem, qopt_s, qopt2_s, qev, qxs, Nat.reduceEqDiff, reduceIte, and_true, true_and, and_false, false_and, and_self, or_true, true_or, qb_or, reduceCtorEq, qbr_True, qbr_False, q10, q01, qwC, hf, qb_t]
      refine kX10_ask_5 (zX7_has h1 h.2.2.1) (rfl) (Nat.le_of_ble_eq_true rfl) (Nat.le_of_ble_eq_true rfl) ⟨Nat.le_of_ble_eq_true rfl, Nat.le_of_ble_eq_true rfl⟩ ?_
      rintro _ _ ⟨rfl, rfl⟩
      refine oX10_ask_8 _ _ _ _ _ _ ?_
      simp only [bX10_ask_8, qsem, qopt_s, qopt2_s, qev, qxs, Nat.reduceEqDiff, reduceIte, and_true, true_and, and_false, false_and, and_self, or_true, true_or, qb_or, reduceCtorEq, qbr_True, qbr_False, q10, q01, qwC, hf, qb_t]
      refine kX10_ask_16 (hadd) (rfl) (Nat.le_of_ble_eq_true rfl) (Nat.le_of_ble_eq_true rfl) ⟨Nat.le_of_ble_eq_true rfl, Nat.le_of_ble_eq_true rfl⟩ ?_
      rintro _ _ (⟨hno, -, -⟩ | ⟨-, rfl, rfl⟩)
      skip
      · exact absurd ⟨hq, hp⟩ hno
      · refine oX10_ask_19 _ _ _ _ _ _ ?_
        simp only [bX10_ask_19, qsem, qopt_s, qopt2_s, qev, qxs, Nat.reduceEqDiff, reduceIte, and_true, true_and, and_false, false_and, and_self, or_true, true_or, qb_or, reduceCtorEq, qbr_True, qbr_False, q10, q01, qwC]
        skip
        refine oX10_ask_23 _ _ _ _ _ _ ?_
        simp only [bX10_ask_23, qsem, qopt_s, qopt2_s, qev, qxs, Nat.reduceEqDiff, reduceIte, and_true, true_and, and_false, false_and, and_self, or_true, true_or, qb_or, reduceCtorEq, qbr_True, qbr_False, q10, q01, qwC]
        skip
        obtain ⟨kN, kS, kF, kR, kO, kB, kT, kC, kM, kA, kQ, kK, kU⟩ := h
        refine hQ _ _ ⟨_, rfl, Or.inr ⟨⟨hf, hp⟩, rfl, ⟨kN, kS, kF, kR, kO, iB_S (S := S) rfl rfl rfl rfl rfl kB, iT_S (S := S) rfl rfl rfl rfl rfl kT, kC, kM, kA, ⟨by rw [ecQ]; rfl, fun k hk => ?_⟩, kK, iU_cg (C := C) (S := S) rfl (by simp only [qxs]; rw [if_neg (rp hr (by omega))]) rfl kU⟩, ?_⟩⟩
        · rw [ecQ] at hk
          show upd (xA C 125) (cQ S) (nI j) k = upd (S.2.1 150) (cQ S) (nI j) k
          by_cases e : k = cQ S
          · rw [e, pk_us, pk_us]
          · rw [pk_un e, pk_un e]; exact kQ.2 k (by omega)
        · obtain ⟨w1, w2, w3, w4, w5, w6, w7, w8, w9, w10, w11⟩ := hW
          have q0 : ∀ k, k < cQ S → qat (askS S (nI j)) k = qat S k := fun k hk => by
            show (upd (S.2.1 150) (cQ S) (nI j) k).toNatClampNeg = _
            rw [pk_un (by omega)]; rfl
          have q1 : qat (askS S (nI j)) (cQ S) = j := by
            show (upd (S.2.1 150) (cQ S) (nI j) (cQ S)).toNatClampNeg = _
            rw [pk_us, nIcl (show j < 1000 by omega)]
          refine ⟨?_, w2, ⟨fun k hk => ?_, fun i k hik hk => ?_⟩, w4, w5, w6, w7, w8, w9, w10, w11⟩
          · obtain ⟨⟨a0, a1, a2, a3, a4, a5, a6⟩, b1, b2, b3, b4, b5, b6, b7⟩ := w1
            exact ⟨⟨a0, a1, a2, a3, by rw [e4, ecQ], a5, a6⟩, b1, b2, b3, b4, by rw [ecQ]; omega, b6, b7⟩
          · rw [ecQ] at hk
            rcases n_cases hk with hk | rfl
            · rw [q0 k hk]
              show upd (S.2.1 150) (cQ S) (nI j) k = _ ∧ _
              rw [pk_un (by omega)]
              exact w3.1 k hk
            · rw [q1]
              show upd (S.2.1 150) (cQ S) (nI j) (cQ S) = _ ∧ _
              rw [pk_us]
              exact ⟨rfl, hj⟩
          · rw [ecQ] at hk
            rcases n_cases hk with hk | rfl
            · rw [q0 i (by omega), q0 k hk]; exact w3.2 i k hik hk
            · rw [q0 i hik, q1]; exact ask_d w1 w3 hj hp i hik
    · refine oX10_ask_0 _ _ _ _ _ _ ?_
      simp only [bX10_ask_0, qsem, qopt_s, qopt2_s, qev, qxs, Nat.reduceEqDiff, reduceIte, and_true, true_and, and_false, false_and, and_self, or_true, true_or, qb_or, reduceCtorEq, qbr_True, qbr_False, q10, q01, qwC, hf, qb_t]
      refine kX10_ask_5 (zX7_has h1 h.2.2.1) (rfl) (Nat.le_of_ble_eq_true rfl) (Nat.le_of_ble_eq_true rfl) ⟨Nat.le_of_ble_eq_true rfl, Nat.le_of_ble_eq_true rfl⟩ ?_
      rintro _ _ ⟨rfl, rfl⟩
      refine oX10_ask_8 _ _ _ _ _ _ ?_
      simp only [bX10_ask_8, qsem, qopt_s, qopt2_s, qev, qxs, Nat.reduceEqDiff, reduceIte, and_true, true_and, and_false, false_and, and_self, or_true, true_or, qb_or, reduceCtorEq, qbr_True, qbr_False, q10, q01, qwC, hf, qb_t]
      refine kX10_ask_16 (hadd) (rfl) (Nat.le_of_ble_eq_true rfl) (Nat.le_of_ble_eq_true rfl) ⟨Nat.le_of_ble_eq_true rfl, Nat.le_of_ble_eq_true rfl⟩ ?_
      rintro _ _ (⟨-, rfl, rfl⟩ | ⟨hok, -, -⟩)
      skip
      · refine oX10_ask_19 _ _ _ _ _ _ ?_
        simp only [bX10_ask_19, qsem, qopt_s, qopt2_s, qev, qxs, Nat.reduceEqDiff, reduceIte, and_true, true_and, and_false, false_and, and_self, or_true, true_or, qb_or, reduceCtorEq, qbr_True, qbr_False, q10, q01, qwC]
        skip
        refine oX10_ask_23 _ _ _ _ _ _ ?_
        simp only [bX10_ask_23, qsem, qopt_s, qopt2_s, qev, qxs, Nat.reduceEqDiff, reduceIte, and_true, true_and, and_false, false_and, and_self, or_true, true_or, qb_or, reduceCtorEq, qbr_True, qbr_False, q10, q01, qwC]
        exact hQ _ _ ⟨C, rfl, Or.inl ⟨fun q => hp q.2, rfl, h⟩⟩
      · exact absurd hok.2 hp
  · have hf2 : isF S a = false := (Bool.not_eq_true _).mp hf
    refine oX10_ask_0 _ _ _ _ _ _ ?_
    simp only [bX10_ask_0, qsem, qopt_s, qopt2_s, qev, qxs, Nat.reduceEqDiff, reduceIte, and_true, true_and, and_false, false_and, and_self, or_true, true_or, qb_or, reduceCtorEq, qbr_True, qbr_False, q10, q01, qwC, hf2, qb_f]
    refine kX10_ask_5 (zX7_has h1 h.2.2.1) (rfl) (Nat.le_of_ble_eq_true rfl) (Nat.le_of_ble_eq_true rfl) ⟨Nat.le_of_ble_eq_true rfl, Nat.le_of_ble_eq_true rfl⟩ ?_
    rintro _ _ ⟨rfl, rfl⟩
    refine oX10_ask_8 _ _ _ _ _ _ ?_
    simp only [bX10_ask_8, qsem, qopt_s, qopt2_s, qev, qxs, Nat.reduceEqDiff, reduceIte, and_true, true_and, and_false, false_and, and_self, or_true, true_or, qb_or, reduceCtorEq, qbr_True, qbr_False, q10, q01, qwC, hf2, qb_f]
    refine oX10_ask_22 _ _ _ _ _ _ ?_
    simp only [bX10_ask_22, qsem, qopt_s, qopt2_s, qev, qxs, Nat.reduceEqDiff, reduceIte, and_true, true_and, and_false, false_and, and_self, or_true, true_or, qb_or, reduceCtorEq, qbr_True, qbr_False, q10, q01, qwC, hf2, qb_f]
    refine oX10_ask_23 _ _ _ _ _ _ ?_
    simp only [bX10_ask_23, qsem, qopt_s, qopt2_s, qev, qxs, Nat.reduceEqDiff, reduceIte, and_true, true_and, and_false, false_and, and_self, or_true, true_or, qb_or, reduceCtorEq, qbr_True, qbr_False, q10, q01, qwC, hf2, qb_f]
    exact hQ _ _ ⟨C, rfl, Or.inl ⟨fun q => hf q.1, rfl, h⟩⟩
set_option maxRecDepth 100000 in
set_option maxHeartbeats 4000000 in
theorem zX10_skip {C M : qC} {r : Nat × Nat × Nat} {S : qS} {H : Nat → Nat → Nat → Bool} (hr : wR r) (hW : WS S H) (h : Inv C S r H) : CT mX10_skip 2 0 0 [.ref 0] (wd C M r) (fun r' w' => ∃ C', w' = wd C' M r ∧ ((cQ S = 0 ∧ r' = some (.int (-1)) ∧ Inv C' S r H) ∨ (¬ cQ S = 0 ∧ r' = some (.int (S.2.1 150 0)) ∧ Inv C' (skpS S) r H ∧ WS (skpS S) H))) := by
  refine eX10_skip (AW_gen (fun Q hQ => ?_))
  refine oX10_skip_0 _ _ _ _ _ _ ?_
  simp only [bX10_skip_0, qsem, qopt_s, qopt2_s, qev, qxs, Nat.reduceEqDiff, reduceIte, and_true, true_and, and_false, false_and, and_self, or_true, true_or, qb_or, reduceCtorEq, qbr_True, qbr_False, q10, q01, qwC]
  refine kX10_skip_4 (zX4_removeFirst hW.1 h.2.2.2.2.2.2.2.2.2.2.1) (rfl) (Nat.le_of_ble_eq_true rfl) (Nat.le_of_ble_eq_true rfl) ⟨Nat.le_of_ble_eq_true rfl, Nat.le_of_ble_eq_true rfl⟩ ?_
  rintro _ _ (⟨h0, rfl, rfl⟩ | ⟨h0, rfl, rfl⟩)
  all_goals refine oX10_skip_7 _ _ _ _ _ _ ?_
  all_goals simp only [bX10_skip_7, qsem, qev, Option.toList_some, List.cons_append, List.nil_append]
  · exact hQ _ _ ⟨C, rfl, Or.inl ⟨h0, rfl, h⟩⟩
  · exact hQ _ _ ⟨_, rfl, Or.inr ⟨h0, rfl, Inv_skp hr hW h, WS_skp hW⟩⟩


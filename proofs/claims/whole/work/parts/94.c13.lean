/-- a note that is no source and no build -/
theorem Inv_s2 {C C' : qC} {S : qS} {r : Nat × Nat × Nat} {H : Nat → Nat → Nat → Bool} {v u : Nat → Int32} {s f h : Nat} (hr : wR r) (hW : WS S H) (hI : Inv C S r H) (hn : cN S < 400) (hk : nwK S v s f h) (hs : 2 ≤ s) (hu : u 0 = v 138 ∧ u 1 = v 139 ∧ u 2 = v 140 ∧ u 3 = v 142 ∧ u 4 = v 143 ∧ u 5 = v 144 ∧ u 6 = v 145 ∧ u 7 = v 146) (e1 : xI C' = xI (nC C S u)) (e2 : ∀ q, q ≠ 10 → q ≠ 11 → xA C' q = xA (nC C S u) q) (e3 : xM C' = xM C) (e4 : xL C' = xL C) (hT : iT C' (nA S v)) : Inv C' (nA S v) r H := by
  obtain ⟨kN, kS, kF, kR, kO, kB, kT, kC, kM, kA, kQ, kK, kU⟩ := hI
  have h1 := hW.1
  have z1 : ∀ q j, ¬ (q = 1 ∧ j = 3) → xI C' q j = xI C q j := fun q j hq => by rw [e1]; unfold nC; simp only [qxs]; rw [if_neg hq]
  have z2 : ∀ q, q ≠ 2 → q ≠ 10 → q ≠ 11 → xA C' q = xA C q := fun q a b c => by rw [e2 q b c]; unfold nC; simp only [qxs]; rw [if_neg a]
  have nN : iN C' (nA S v) := iN_cg (by rw [e1]) (e2 2 (by omega) (by omega)) (nC_N h1 hn kN hu)
  have zR : iR C' (nA S v) := by
    have := iR_cg h1 (fun i hi => by rw [e4]) kR
    exact ⟨fun i hi j hj => (this.1 i hi j hj).trans (reach_nA h1 hk (by omega) i j).symm, this.2⟩
  have zO : iO C' (nA S v) := fun i hi => by
    rw [z2 8 (by omega) (by omega) (by omega), kO i hi]
    congr 1
    exact bT_cg (fun j hj => dc_c ((mkr_nw h1 hk i j).trans ⟨fun q => q.elim id (fun z => absurd z.1 (by omega)), Or.inl⟩).symm)
  have zB : iB C' (nA S v) := fun i hi => by
    rw [z2 9 (by omega) (by omega) (by omega), bdb_nw h1 hk, if_neg (fun q => absurd q.1 (by omega))]
    exact kB i hi
  have zC : iC C' (nA S v) := fun j hj => by
    rw [fB_cg (C := C) (C' := C') (p := 12) (by rw [e4]), cln_nw h1 hk hs]
    exact kC j hj
  have zM : iM C' (nA S v) := M_fin h1 hk kM (z1 117 3 (by omega)) (z2 118 (by omega) (by omega) (by omega)) (z2 119 (by omega) (by omega) (by omega)) (fun j hj => by rw [fB_cg (C := C) (C' := C') (p := 120) (by rw [e4]), dcf (fun q => absurd q.1 (by omega)), Bool.and_false, Bool.or_false])
  exact ⟨nN, S_nA h1 hW.2.2.2.1 (iS_cg (z1 3 3 (by omega)) (z2 4 (by omega) (by omega) (by omega)) kS), iF_cg (S := S) (z1 5 7 (by omega)) (by rw [e3]) kF, zR, zO, zB, hT, zC, zM, iA_cg (S := S) (z1 121 1 (by omega)) (z2 122 (by omega) (by omega) (by omega)) kA, iQ_cg (S := S) (z1 124 1 (by omega)) (z2 125 (by omega) (by omega) (by omega)) kQ, K_nA (C' := C') h1 hW.2.2.2.1 (iK_cg (z2 127 (by omega) (by omega) (by omega)) (z2 128 (by omega) (by omega) (by omega)) (z2 129 (by omega) (by omega) (by omega)) (z2 130 (by omega) (by omega) (by omega)) kK), iU_cg (S := S) (z1 0 10 (by omega)) (z2 _ (rp hr (by omega)) (rp hr (by omega)) (rp hr (by omega))) (funext (fun j => z1 131 j (by omega))) kU⟩
set_option maxRecDepth 100000 in
set_option maxHeartbeats 4000000 in
theorem zX10_addSaying {C M : qC} {r : Nat × Nat × Nat} {S : qS} {s h f : Int32} {g : Bool} (h1 : W1 S) (hN : iN C S) (hF : iF C S) : CT mX10_addSaying 3 0 0 [.ref 0, .int s, .int h, .int f, .int (qb g)] (wd C M r) (fun r' w' => (¬ sayOk S h f ∧ w' = wd C M r ∧ r' = some (.int (-1))) ∨ (sayOk S h f ∧ w' = wd (nC C S (upd (u3 s f h) 7 (qb g))) M r ∧ r' = some (.int (nI (cN S))))) := by
  have hN4 := h1.2.1
  have hful := zX8_isFull_1 (C := C) (M := M) (r := r) hN.1 hN4
  refine eX10_addSaying (AW_gen (fun Q hQ => ?_))
  have good : sayOk S h f → AW (mX10_addSaying, 3, 0, 0, none, Q) 30 [some (.ref 0), some (.int s), some (.int h), some (.int f), some (.int (qb g)), none] [] (wd C M r) 0 0 := by
    intro hok
    have hlt : cN S < 400 := by have := hok.2.2; omega
    refine oX10_addSaying_30 _ _ _ _ _ _ ?_
    simp only [bX10_addSaying_30, qsem, qopt_s, qopt2_s, qev, qxs, Nat.reduceEqDiff, reduceIte, and_true, true_and, and_false, false_and, and_self, or_true, true_or, qb_or, reduceCtorEq, qbr_True, qbr_False, q10, q01, qwC]
    refine kX10_addSaying_34 (zX10_addNote h1 hlt hN) (rfl) (Nat.le_of_ble_eq_true rfl) (Nat.le_of_ble_eq_true rfl) ⟨Nat.le_of_ble_eq_true rfl, Nat.le_of_ble_eq_true rfl⟩ ?_
    rintro _ _ ⟨rfl, rfl⟩
    refine oX10_addSaying_37 _ _ _ _ _ _ ?_
    simp only [bX10_addSaying_37, qsem, qopt_s, qopt2_s, qev, qxs, Nat.reduceEqDiff, reduceIte, and_true, true_and, and_false, false_and, and_self, or_true, true_or, qb_or, reduceCtorEq, qbr_True, qbr_False, q10, q01, qwC]
    refine kX10_addSaying_49 (zX10_bit) (Nat.le_of_ble_eq_true rfl) (Nat.le_of_ble_eq_true rfl) ⟨Nat.le_of_ble_eq_true rfl, Nat.le_of_ble_eq_true rfl⟩ ?_
    rintro _ _ ⟨rfl, rfl⟩
    refine kX10_addSaying_52 (zX8_set_nC hlt _ 7 (qb g) (by omega)) (rfl) (Nat.le_of_ble_eq_true rfl) (Nat.le_of_ble_eq_true rfl) ⟨Nat.le_of_ble_eq_true rfl, Nat.le_of_ble_eq_true rfl⟩ ?_
    rintro _ _ ⟨rfl, rfl⟩
    refine oX10_addSaying_55 _ _ _ _ _ _ ?_
    simp only [bX10_addSaying_55, qsem, qopt_s, qopt2_s, qev, qxs, Nat.reduceEqDiff, reduceIte, and_true, true_and, and_false, false_and, and_self, or_true, true_or, qb_or, reduceCtorEq, qbr_True, qbr_False, q10, q01, qwC]
    exact hQ _ _ (Or.inr ⟨hok, rfl, rfl⟩)
  refine oX10_addSaying_0 _ _ _ _ _ _ ?_
  simp only [bX10_addSaying_0, qsem, qopt_s, qopt2_s, qev, qxs, Nat.reduceEqDiff, reduceIte, and_true, true_and, and_false, false_and, and_self, or_true, true_or, qb_or, reduceCtorEq, qbr_True, qbr_False, q10, q01, qwC, qb_0]
  refine kX10_addSaying_1 (zX10_isHand) (Nat.le_of_ble_eq_true rfl) (Nat.le_of_ble_eq_true rfl) ⟨Nat.le_of_ble_eq_true rfl, Nat.le_of_ble_eq_true rfl⟩ ?_
  rintro _ _ ⟨rfl, rfl⟩
  refine oX10_addSaying_4 _ _ _ _ _ _ ?_
  simp only [bX10_addSaying_4, qsem, qopt_s, qopt2_s, qev, qxs, Nat.reduceEqDiff, reduceIte, and_true, true_and, and_false, false_and, and_self, or_true, true_or, qb_or, reduceCtorEq, qbr_True, qbr_False, q10, q01, qwC, qb_0]
  refine qbr_i (fun c1 => ?_) (fun c1 => ?_)
  · refine oX10_addSaying_28 _ _ _ _ _ _ ?_
    simp only [bX10_addSaying_28, qsem, qopt_s, qopt2_s, qev, qxs, Nat.reduceEqDiff, reduceIte, and_true, true_and, and_false, false_and, and_self, or_true, true_or, qb_or, reduceCtorEq, qbr_True, qbr_False, q10, q01, qwC, qb_0]
    first | exact hQ _ _ (Or.inl ⟨fun q => Bool.false_ne_true (c1.symm.trans q.1), rfl, rfl⟩) | exact hQ _ _ (Or.inl ⟨fun q => Bool.false_ne_true (c2.symm.trans q.2.1), rfl, rfl⟩) | exact hQ _ _ (Or.inl ⟨fun q => q.2.2 (of_decide_eq_true ((Bool.not_eq_false _).mp c3)), rfl, rfl⟩)
  · refine kX10_addSaying_12 (zX7_has h1 hF) (rfl) (Nat.le_of_ble_eq_true rfl) (Nat.le_of_ble_eq_true rfl) ⟨Nat.le_of_ble_eq_true rfl, Nat.le_of_ble_eq_true rfl⟩ ?_
    rintro _ _ ⟨rfl, rfl⟩
    refine oX10_addSaying_15 _ _ _ _ _ _ ?_
    simp only [bX10_addSaying_15, qsem, qopt_s, qopt2_s, qev, qxs, Nat.reduceEqDiff, reduceIte, and_true, true_and, and_false, false_and, and_self, or_true, true_or, qb_or, reduceCtorEq, qbr_True, qbr_False, q10, q01, qwC, qb_0]
    refine qbr_i (fun c2 => ?_) (fun c2 => ?_)
    · refine oX10_addSaying_28 _ _ _ _ _ _ ?_
      simp only [bX10_addSaying_28, qsem, qopt_s, qopt2_s, qev, qxs, Nat.reduceEqDiff, reduceIte, and_true, true_and, and_false, false_and, and_self, or_true, true_or, qb_or, reduceCtorEq, qbr_True, qbr_False, q10, q01, qwC, qb_0]
      first | exact hQ _ _ (Or.inl ⟨fun q => Bool.false_ne_true (c1.symm.trans q.1), rfl, rfl⟩) | exact hQ _ _ (Or.inl ⟨fun q => Bool.false_ne_true (c2.symm.trans q.2.1), rfl, rfl⟩) | exact hQ _ _ (Or.inl ⟨fun q => q.2.2 (of_decide_eq_true ((Bool.not_eq_false _).mp c3)), rfl, rfl⟩)
    · refine kX10_addSaying_22 (hful) (rfl) (Nat.le_of_ble_eq_true rfl) (Nat.le_of_ble_eq_true rfl) ⟨Nat.le_of_ble_eq_true rfl, Nat.le_of_ble_eq_true rfl⟩ ?_
      rintro _ _ ⟨rfl, rfl⟩
      refine oX10_addSaying_25 _ _ _ _ _ _ ?_
      simp only [bX10_addSaying_25, qsem, qopt_s, qopt2_s, qev, qxs, Nat.reduceEqDiff, reduceIte, and_true, true_and, and_false, false_and, and_self, or_true, true_or, qb_or, reduceCtorEq, qbr_True, qbr_False, q10, q01, qwC, qb_0]
      refine qbr_i (fun c3 => ?_) (fun c3 => ?_)
      · exact good ⟨(Bool.not_eq_false _).mp c1, (Bool.not_eq_false _).mp c2, of_decide_eq_false c3⟩
      · refine oX10_addSaying_28 _ _ _ _ _ _ ?_
        simp only [bX10_addSaying_28, qsem, qopt_s, qopt2_s, qev, qxs, Nat.reduceEqDiff, reduceIte, and_true, true_and, and_false, false_and, and_self, or_true, true_or, qb_or, reduceCtorEq, qbr_True, qbr_False, q10, q01, qwC, qb_0]
        first | exact hQ _ _ (Or.inl ⟨fun q => Bool.false_ne_true (c1.symm.trans q.1), rfl, rfl⟩) | exact hQ _ _ (Or.inl ⟨fun q => Bool.false_ne_true (c2.symm.trans q.2.1), rfl, rfl⟩) | exact hQ _ _ (Or.inl ⟨fun q => q.2.2 (of_decide_eq_true ((Bool.not_eq_false _).mp c3)), rfl, rfl⟩)
theorem vS_146 {s f h : Int32} {g : Bool} : vS s f h (qb g) 146 = qb g := by cases g <;> rfl
theorem say_K {S : qS} {s f h : Nat} {g : Bool} (hf : f < cF S) (hh : h < 12) (hs : s ≤ 4) : nwK S (vS (nI s) (nI f) (nI h) (qb g)) s f h := ⟨⟨rfl, hs⟩, ⟨rfl, hf⟩, ⟨rfl, hh⟩, fun k hk => Or.inl (by unfold fk; split; rfl; split <;> rfl)⟩
set_option maxRecDepth 100000 in
set_option maxHeartbeats 4000000 in
theorem zX10_tries {C M : qC} {r : Nat × Nat × Nat} {S : qS} {H : Nat → Nat → Nat → Bool} {h f : Int32} {g : Bool} (hr : wR r) (hW : WS S H) (hI : Inv C S r H) : CT mX10_tries 4 0 0 [.ref 0, .int h, .int f, .int (qb g)] (wd C M r) (fun r' w' => ∃ C', w' = wd C' M r ∧ ((¬ sayOk S h f ∧ r' = some (.int (-1)) ∧ Inv C' S r H) ∨ (sayOk S h f ∧ r' = some (.int (nI (cN S))) ∧ Inv C' (nA S (vS 2 f h (qb g))) r H ∧ WS (nA S (vS 2 f h (qb g))) H))) := by
  have h1 := hW.1
  have hN := h1.2.1
  have hF := h1.2.2.1
  refine eX10_tries (AW_gen (fun Q hQ => ?_))
  refine oX10_tries_0 _ _ _ _ _ _ ?_
  simp only [bX10_tries_0, qsem, qopt_s, qopt2_s, qev, qxs, Nat.reduceEqDiff, reduceIte, and_true, true_and, and_false, false_and, and_self, or_true, true_or, qb_or, reduceCtorEq, qbr_True, qbr_False, q10, q01, qwC]
  refine kX10_tries_5 (zX10_addSaying h1 hI.1 hI.2.2.1) (rfl) (Nat.le_of_ble_eq_true rfl) (Nat.le_of_ble_eq_true rfl) ⟨Nat.le_of_ble_eq_true rfl, Nat.le_of_ble_eq_true rfl⟩ ?_
  rintro _ _ hcase
  skip
  rcases hcase with ⟨hno, rfl, rfl⟩ | ⟨hok, rfl, rfl⟩
  · refine oX10_tries_8 _ _ _ _ _ _ ?_
    simp only [bX10_tries_8, qsem, qopt_s, qopt2_s, qev, qxs, Nat.reduceEqDiff, reduceIte, and_true, true_and, and_false, false_and, and_self, or_true, true_or, qb_or, reduceCtorEq, qbr_True, qbr_False, q10, q01, qwC]
    refine oX10_tries_26 _ _ _ _ _ _ ?_
    simp only [bX10_tries_26, qsem, qopt_s, qopt2_s, qev, qxs, Nat.reduceEqDiff, reduceIte, and_true, true_and, and_false, false_and, and_self, or_true, true_or, qb_or, reduceCtorEq, qbr_True, qbr_False, q10, q01, qwC]
    exact hQ _ _ ⟨C, rfl, Or.inl ⟨hno, rfl, hI⟩⟩
  · obtain ⟨hu, hu2, rfl⟩ := isH_of hok.1
    obtain ⟨fi, hfi, rfl⟩ := isF_of h1 hok.2.1
    have hlt : cN S < 400 := by have := hok.2.2; omega
    have hk : nwK S (vS 2 (nI fi) (nI hu) (qb g)) 2 fi hu := say_K (s := 2) hfi hu2 (by decide)
    have hset := zX7_setTry (C := nC C S (upd (u3 2 (nI fi) (nI hu)) 7 (qb g))) (M := M) (r := r) (b := qb g) (g := fun j => glt S 2 fi j) h1 hI.2.2.1 hfi hu2 (hI.2.2.2.2.2.2.1 fi (by omega)).1
    refine oX10_tries_8 _ _ _ _ _ _ ?_
    simp only [bX10_tries_8, qsem, qopt_s, qopt2_s, qev, qxs, Nat.reduceEqDiff, reduceIte, and_true, true_and, and_false, false_and, and_self, or_true, true_or, qb_or, reduceCtorEq, qbr_True, qbr_False, q10, q01, qwC]
    refine qbr_f (i_nm1 (by omega)) ?_
    refine kX10_tries_23 (hset) (rfl) (Nat.le_of_ble_eq_true rfl) (Nat.le_of_ble_eq_true rfl) ⟨Nat.le_of_ble_eq_true rfl, Nat.le_of_ble_eq_true rfl⟩ ?_
    rintro _ _ ⟨rfl, rfl⟩
    refine oX10_tries_26 _ _ _ _ _ _ ?_
    simp only [bX10_tries_26, qsem, qopt_s, qopt2_s, qev, qxs, Nat.reduceEqDiff, reduceIte, and_true, true_and, and_false, false_and, and_self, or_true, true_or, qb_or, reduceCtorEq, qbr_True, qbr_False, q10, q01, qwC]
    skip
    have hT : ∀ i, i < 100 → upd (xA C 10) fi (nI (bT (fun j => if j = hu then decide (¬ qb g = 0) else glt S 2 fi j) 12)) i = nI (bT (fun j => glt (nA S (vS 2 (nI fi) (nI hu) (qb g))) 2 i j) 12) := by
      intro i hi
      by_cases e : i = fi
      · rw [e, pk_us]
        congr 1
        refine bT_cg (fun j hj => ?_)
        rw [glt_nw h1 hk]
        by_cases ej : j = hu
        · rw [if_pos ej, if_pos ⟨rfl, rfl, ej.symm⟩, vS_146]
          cases g <;> rfl
        · rw [if_neg ej, if_neg (fun q => ej q.2.2.symm)]
      · rw [pk_un e, (hI.2.2.2.2.2.2.1 i hi).1]
        congr 1
        refine bT_cg (fun j hj => ?_)
        rw [glt_nw h1 hk, if_neg (fun q => e q.2.1.symm)]
    have hT2 : ∀ i, i < 100 → xA C 11 i = nI (bT (fun j => glt (nA S (vS 2 (nI fi) (nI hu) (qb g))) 3 i j) 12) := by
      intro i hi
      rw [(hI.2.2.2.2.2.2.1 i hi).2]
      congr 1
      refine bT_cg (fun j hj => ?_)
      rw [glt_nw h1 hk, if_neg (fun q => absurd q.1 (by omega))]
    have hW2 : WS (nA S (vS 2 (nI fi) (nI hu) (qb g))) H := WS_nA hW hlt hk (fun _ k _ => by unfold fk; split; rfl; split <;> rfl) ⟨fun q => absurd q (by omega), fun q => absurd q (by omega)⟩
    exact hQ _ _ ⟨_, rfl, Or.inr ⟨hok, rfl, Inv_s2 (u := upd (u3 2 (nI fi) (nI hu)) 7 (qb g)) hr hW hI hlt hk (by omega) ⟨rfl, rfl, rfl, rfl, rfl, rfl, rfl, by rw [vS_146]; rfl⟩ rfl (fun q a b => by simp only [qxs]; rw [if_neg (by assumption)]) rfl rfl (fun i hi => ⟨hT i hi, hT2 i hi⟩), hW2⟩⟩
set_option maxRecDepth 100000 in
set_option maxHeartbeats 4000000 in
theorem zX10_review {C M : qC} {r : Nat × Nat × Nat} {S : qS} {H : Nat → Nat → Nat → Bool} {h f : Int32} {g : Bool} (hr : wR r) (hW : WS S H) (hI : Inv C S r H) : CT mX10_review 4 0 0 [.ref 0, .int h, .int f, .int (qb g)] (wd C M r) (fun r' w' => ∃ C', w' = wd C' M r ∧ ((¬ sayOk S h f ∧ r' = some (.int (-1)) ∧ Inv C' S r H) ∨ (sayOk S h f ∧ r' = some (.int (nI (cN S))) ∧ Inv C' (nA S (vS 3 f h (qb g))) r H ∧ WS (nA S (vS 3 f h (qb g))) H))) := by
  have h1 := hW.1
  have hN := h1.2.1
  have hF := h1.2.2.1
  refine eX10_review (AW_gen (fun Q hQ => ?_))
  refine oX10_review_0 _ _ _ _ _ _ ?_
  simp only [bX10_review_0, qsem, qopt_s, qopt2_s, qev, qxs, Nat.reduceEqDiff, reduceIte, and_true, true_and, and_false, false_and, and_self, or_true, true_or, qb_or, reduceCtorEq, qbr_True, qbr_False, q10, q01, qwC]
  refine kX10_review_5 (zX10_addSaying h1 hI.1 hI.2.2.1) (rfl) (Nat.le_of_ble_eq_true rfl) (Nat.le_of_ble_eq_true rfl) ⟨Nat.le_of_ble_eq_true rfl, Nat.le_of_ble_eq_true rfl⟩ ?_
  rintro _ _ hcase
  skip
  rcases hcase with ⟨hno, rfl, rfl⟩ | ⟨hok, rfl, rfl⟩
  · refine oX10_review_8 _ _ _ _ _ _ ?_
    simp only [bX10_review_8, qsem, qopt_s, qopt2_s, qev, qxs, Nat.reduceEqDiff, reduceIte, and_true, true_and, and_false, false_and, and_self, or_true, true_or, qb_or, reduceCtorEq, qbr_True, qbr_False, q10, q01, qwC]
    refine oX10_review_26 _ _ _ _ _ _ ?_
    simp only [bX10_review_26, qsem, qopt_s, qopt2_s, qev, qxs, Nat.reduceEqDiff, reduceIte, and_true, true_and, and_false, false_and, and_self, or_true, true_or, qb_or, reduceCtorEq, qbr_True, qbr_False, q10, q01, qwC]
    exact hQ _ _ ⟨C, rfl, Or.inl ⟨hno, rfl, hI⟩⟩
  · obtain ⟨hu, hu2, rfl⟩ := isH_of hok.1
    obtain ⟨fi, hfi, rfl⟩ := isF_of h1 hok.2.1
    have hlt : cN S < 400 := by have := hok.2.2; omega
    have hk : nwK S (vS 3 (nI fi) (nI hu) (qb g)) 3 fi hu := say_K (s := 3) hfi hu2 (by decide)
    have hset := zX7_setReview (C := nC C S (upd (u3 3 (nI fi) (nI hu)) 7 (qb g))) (M := M) (r := r) (b := qb g) (g := fun j => glt S 3 fi j) h1 hI.2.2.1 hfi hu2 (hI.2.2.2.2.2.2.1 fi (by omega)).2
    refine oX10_review_8 _ _ _ _ _ _ ?_
    simp only [bX10_review_8, qsem, qopt_s, qopt2_s, qev, qxs, Nat.reduceEqDiff, reduceIte, and_true, true_and, and_false, false_and, and_self, or_true, true_or, qb_or, reduceCtorEq, qbr_True, qbr_False, q10, q01, qwC]
    refine qbr_f (i_nm1 (by omega)) ?_
    refine kX10_review_23 (hset) (rfl) (Nat.le_of_ble_eq_true rfl) (Nat.le_of_ble_eq_true rfl) ⟨Nat.le_of_ble_eq_true rfl, Nat.le_of_ble_eq_true rfl⟩ ?_
    rintro _ _ ⟨rfl, rfl⟩
    refine oX10_review_26 _ _ _ _ _ _ ?_
    simp only [bX10_review_26, qsem, qopt_s, qopt2_s, qev, qxs, Nat.reduceEqDiff, reduceIte, and_true, true_and, and_false, false_and, and_self, or_true, true_or, qb_or, reduceCtorEq, qbr_True, qbr_False, q10, q01, qwC]
    skip
    have hT : ∀ i, i < 100 → upd (xA C 11) fi (nI (bT (fun j => if j = hu then decide (¬ qb g = 0) else glt S 3 fi j) 12)) i = nI (bT (fun j => glt (nA S (vS 3 (nI fi) (nI hu) (qb g))) 3 i j) 12) := by
      intro i hi
      by_cases e : i = fi
      · rw [e, pk_us]
        congr 1
        refine bT_cg (fun j hj => ?_)
        rw [glt_nw h1 hk]
        by_cases ej : j = hu
        · rw [if_pos ej, if_pos ⟨rfl, rfl, ej.symm⟩, vS_146]
          cases g <;> rfl
        · rw [if_neg ej, if_neg (fun q => ej q.2.2.symm)]
      · rw [pk_un e, (hI.2.2.2.2.2.2.1 i hi).2]
        congr 1
        refine bT_cg (fun j hj => ?_)
        rw [glt_nw h1 hk, if_neg (fun q => e q.2.1.symm)]
    have hT2 : ∀ i, i < 100 → xA C 10 i = nI (bT (fun j => glt (nA S (vS 3 (nI fi) (nI hu) (qb g))) 2 i j) 12) := by
      intro i hi
      rw [(hI.2.2.2.2.2.2.1 i hi).1]
      congr 1
      refine bT_cg (fun j hj => ?_)
      rw [glt_nw h1 hk, if_neg (fun q => absurd q.1 (by omega))]
    have hW2 : WS (nA S (vS 3 (nI fi) (nI hu) (qb g))) H := WS_nA hW hlt hk (fun _ k _ => by unfold fk; split; rfl; split <;> rfl) ⟨fun q => absurd q (by omega), fun q => absurd q (by omega)⟩
    exact hQ _ _ ⟨_, rfl, Or.inr ⟨hok, rfl, Inv_s2 (u := upd (u3 3 (nI fi) (nI hu)) 7 (qb g)) hr hW hI hlt hk (by omega) ⟨rfl, rfl, rfl, rfl, rfl, rfl, rfl, by rw [vS_146]; rfl⟩ rfl (fun q a b => by simp only [qxs]; rw [if_neg (by assumption)]) rfl rfl (fun i hi => ⟨hT2 i hi, hT i hi⟩), hW2⟩⟩
/-! called back -/
theorem cal_iff {C : qC} {S : qS} {f : Nat} (h1 : W1 S) (h2 : W2 S) (h5 : W5 S) (hR : iR C S) (hM : iM C S) (hf : f < cF S) : (∃ j, j < 128 ∧ fB C (13 + f) j = true ∧ fB C 120 j = true) ↔ cal S f := by
  have hF := h1.2.2.1
  constructor
  · rintro ⟨j, hj, a, b⟩
    have hr := (hR.1 f hf j hj).mp a
    rcases (hM.2.2.2 j hj).mp b with ⟨c, hc, e, e2⟩ | ⟨n, hn, e, e2, e3⟩
    · exact Or.inl ⟨c, hc, e, j, reach_lt hf hr, e2, hr⟩
    · exact Or.inr ⟨n, hn, e, by rw [e2]; exact hr, e3⟩
  · rintro (⟨c, hc, e, j, hj, e2, hr⟩ | ⟨n, hn, e, hr, e3⟩)
    · exact ⟨j, by omega, (hR.1 f hf j (by omega)).mpr hr, (hM.2.2.2 j (by omega)).mpr (Or.inl ⟨c, hc, e, e2⟩)⟩
    · have lo := (h2 n hn).2.1.2
      exact ⟨ofN S n, by omega, (hR.1 f hf _ (by omega)).mpr hr, (hM.2.2.2 _ (by omega)).mpr (Or.inr ⟨n, hn, e, rfl, e3⟩)⟩
set_option maxRecDepth 100000 in
set_option maxHeartbeats 4000000 in
theorem zX10_isCalledBack {C M : qC} {r : Nat × Nat × Nat} {S : qS} {f : Nat} (h1 : W1 S) (h2 : W2 S) (h5 : W5 S) (hI : iF C S) (hR : iR C S) (hM : iM C S) (hf : f < cF S) : CT mX10_isCalledBack 2 0 0 [.ref 0, .int (nI f)] (wd C M r) (fun r' w' => w' = wd C M r ∧ r' = some (.int (qb (dc (cal S f))))) := by
  refine eX10_isCalledBack (AW_gen (fun Q hQ => ?_))
  refine oX10_isCalledBack_0 _ _ _ _ _ _ ?_
  simp only [bX10_isCalledBack_0, qsem, qopt_s, qopt2_s, qev, qxs, Nat.reduceEqDiff, reduceIte, and_true, true_and, and_false, false_and, and_self, or_true, true_or, qb_or, reduceCtorEq, qbr_True, qbr_False, q10, q01, qwC]
  refine kX10_isCalledBack_9 (zX5_marked) (rfl) (Nat.le_of_ble_eq_true rfl) (Nat.le_of_ble_eq_true rfl) ⟨Nat.le_of_ble_eq_true rfl, Nat.le_of_ble_eq_true rfl⟩ ?_
  rintro _ _ ⟨rfl, rfl⟩
  refine kX10_isCalledBack_12 (zX7_rowMeets h1 hI hf) (rfl) (Nat.le_of_ble_eq_true rfl) (Nat.le_of_ble_eq_true rfl) ⟨Nat.le_of_ble_eq_true rfl, Nat.le_of_ble_eq_true rfl⟩ ?_
  rintro _ _ ⟨rfl, b, rfl, hb⟩
  refine oX10_isCalledBack_15 _ _ _ _ _ _ ?_
  simp only [bX10_isCalledBack_15, qsem, qopt_s, qopt2_s, qev, qxs, Nat.reduceEqDiff, reduceIte, and_true, true_and, and_false, false_and, and_self, or_true, true_or, qb_or, reduceCtorEq, qbr_True, qbr_False, q10, q01, qwC]
  exact hQ _ _ ⟨rfl, ri (by rw [dc_of (hb.trans (cal_iff h1 h2 h5 hR hM hf))])⟩


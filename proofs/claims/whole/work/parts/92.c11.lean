set_option maxRecDepth 100000 in
set_option maxHeartbeats 4000000 in
theorem zX10_settle {C M : qC} {r : Nat × Nat × Nat} {S : qS} {n : Nat} (h1 : W1 S) (h2 : W2 S) (h11 : W11 S) (hI : iN C S) (hF : iF C S) (hn : n < cN S) (hcI : cI2 S C) (hcD : ∀ n', n' < cN S → n' ≠ n → grd S (fB12 C) n' → fB12 C (ofN S n')) (hT : ∀ t, t < 6 → snP S 1 t (xA C 118 t)) (hH : ∀ h, h < 12 → snP S 2 h (xA C 119 h)) : CT mX10_settle 5 0 0 [.ref 0, .int (nI n)] (wd C M r) (fun r' w' => ∃ C', r' = none ∧ w' = wd C' M r ∧ xI C' = xI C ∧ xA C' = xA C ∧ xM C' = xM C ∧ (∀ q, q ≠ 12 → q ≠ 120 → xL C' q = xL C q) ∧ iC C' S ∧ ∀ j, j < 128 → fB C' 120 j = (fB C 120 j || (decide (j = ofN S n) && dc (srt S n < 2 ∧ cnN S n)))) := by
  refine eX10_settle (AW_gen (fun Q hQ => ?_))
  refine oX10_settle_0 _ _ _ _ _ _ ?_
  simp only [bX10_settle_0, qsem, qopt_s, qopt2_s, qev, qxs, Nat.reduceEqDiff, reduceIte, and_true, true_and, and_false, false_and, and_self, or_true, true_or, qb_or, reduceCtorEq, qbr_True, qbr_False, q10, q01, qwC]
  refine kX10_settle_9 (zX7_cleanBy h1 h2 hI hF hn hcI hcD) (rfl) (Nat.le_of_ble_eq_true rfl) (Nat.le_of_ble_eq_true rfl) ⟨Nat.le_of_ble_eq_true rfl, Nat.le_of_ble_eq_true rfl⟩ ?_
  rintro _ _ ⟨C1, rfl, rfl, o1, hc1⟩
  refine oX10_settle_12 _ _ _ _ _ _ ?_
  simp only [bX10_settle_12, qsem, qopt_s, qopt2_s, qev, qxs, Nat.reduceEqDiff, reduceIte, and_true, true_and, and_false, false_and, and_self, or_true, true_or, qb_or, reduceCtorEq, qbr_True, qbr_False, q10, q01, qwC]
  refine kX10_settle_21 (zX5_look h1 h2 h11 (onL_N o1 hI) hn (by rw [o1.2.1]; exact hT) (by rw [o1.2.1]; exact hH)) (rfl) (Nat.le_of_ble_eq_true rfl) (Nat.le_of_ble_eq_true rfl) ⟨Nat.le_of_ble_eq_true rfl, Nat.le_of_ble_eq_true rfl⟩ ?_
  rintro _ _ ⟨C2, rfl, rfl, o2, hB⟩
  refine oX10_settle_24 _ _ _ _ _ _ ?_
  simp only [bX10_settle_24, qsem, qopt_s, qopt2_s, qev, qxs, Nat.reduceEqDiff, reduceIte, and_true, true_and, and_false, false_and, and_self, or_true, true_or, qb_or, reduceCtorEq, qbr_True, qbr_False, q10, q01, qwC]
  refine hQ _ _ ⟨C2, rfl, rfl, o2.1.trans o1.1, o2.2.1.trans o1.2.1, o2.2.2.1.trans o1.2.2.1, fun q a b => (o2.2.2.2 q b).trans (o1.2.2.2 q a), iC_cg (o2.2.2.2 12 (by omega)) hc1, fun j hj => ?_⟩
  rw [hB j hj, fB_cg (o1.2.2.2 120 (by omega))]
theorem iN_of {C : qC} {S : qS} {v : Nat → Int32} (h1 : W1 S) : cK (nA S v) = cK S := rfl
theorem snP_nA {S : qS} {v : Nat → Int32} {s : Int32} {x : Nat} {y : Int32} (h : snP S s x y) : snP (nA S v) s x y := h
/-- the rest, at a note more of any sort -/
theorem K_nA {C C' : qC} {S : qS} {v : Nat → Int32} (h1 : W1 S) (h4 : W4 S) (h : iK C S) : iK C (nA S v) := fun k hk => by
  obtain ⟨a, b, c, d⟩ := h k hk
  refine ⟨a, b, c, ?_⟩
  rw [d]
  show nI (fb_ct _ (cS S)) = nI (fb_ct _ (cS S))
  congr 1
  refine fb_ct_cong (fun s hs => ?_)
  show (S.2.1 147 (sln S s) == nI k) = ((nA S v).2.1 147 (sln S s) == nI k)
  rw [nA_at v (by omega) (h4 s hs).1.2]
theorem S_nA {C : qC} {S : qS} {v : Nat → Int32} (h1 : W1 S) (h4 : W4 S) (h : iS C S) : iS C (nA S v) := ⟨h.1, fun s hs k hk => by
  have hs : s < cS S := hs
  have hl := (h4 s hs).1.2
  rw [h.2 s hs k hk]
  unfold slV
  show _ = (if k = 0 then (nA S v).2.1 139 (sln S s) else if k = 1 then (nA S v).2.1 147 (sln S s) else if k = 2 then nI (sln S s) else if k = 3 then (nA S v).2.1 140 (sln S s) else if k = 4 then (nA S v).2.1 141 (sln S s) else if k = 5 then (nA S v).2.1 148 (sln S s) else if k = 6 then qb false else -1)
  rw [nA_at v (by omega) hl, nA_at v (by omega) hl, nA_at v (by omega) hl, nA_at v (by omega) hl, nA_at v (by omega) hl]⟩
theorem WS_nA {S : qS} {H : Nat → Nat → Nat → Bool} {v : Nat → Int32} {s f h : Nat} (hW : WS S H) (hn : cN S < 400) (hk : nwK S v s f h) (h8 : ¬ s = 1 → ∀ k, k < 3 → fk (v 143) (v 144) (v 145) k = -1) (h11 : (s = 1 → ∃ t, t < 6 ∧ v 142 = nI t) ∧ (s = 0 → v 142 = -1)) : WS (nA S v) H := by
  obtain ⟨a1, a2, a3, a4, a5, a6, a7, a8, a9, a10, a11⟩ := hW
  have e := nA_N v a1
  refine ⟨W1_nA v a1 hn, W2_nA a1 a2 hk, a3, fun s hs => ?_, a5, a6, a7, fun n hn' hs k hk' => ?_, a9, a10, fun n hn' => ?_⟩
  · have hs : s < cS S := hs
    obtain ⟨⟨x, y⟩, k, z, t⟩ := a4 s hs
    refine ⟨⟨x, by rw [e]; exact Nat.lt_succ_of_lt y⟩, k, z, ?_⟩
    show (nA S v).2.1 147 (sln S s) = nI k
    rw [nA_at v (by omega) y]
    exact t
  · rw [e] at hn'
    rcases n_cases hn' with q | rfl
    · rw [nA_srt v q] at hs
      rw [nA_wnt v q]
      exact a8 n q hs k hk'
    · rw [nw_srt hk] at hs
      rw [nw_wnt]
      exact h8 hs k hk'
  · rw [e] at hn'
    rcases n_cases hn' with q | rfl
    · rw [nA_srt v q, nA_at v (by omega) q]
      exact a11 n q
    · rw [nw_srt hk, nA_nw v (by omega)]
      exact h11
theorem dc_or {P P' : Prop} : dc (P ∨ P') = (dc P || dc P') := Bool.eq_iff_iff.mpr (by rw [Bool.or_eq_true, dc_iff, dc_iff, dc_iff])
/-- own makers with a maker more -/
theorem O_nA {C : qC} {S : qS} {v : Nat → Int32} {s f h : Nat} (h1 : W1 S) (hk : nwK S v s f h) (hs : s < 2) (hO : iO C S) {g : Nat → Int32} (hg : g = upd (xA C 8) f (nI (bT (fun j => if j = h then true else dc (mkr S f j)) 12))) : ∀ i, i < 100 → g i = nI (bT (fun h => dc (mkr (nA S v) i h)) 12) := by
  intro i hi
  rw [hg]
  by_cases e : i = f
  · rw [e, pk_us]
    congr 1
    refine bT_cg (fun j hj => ?_)
    rw [dc_c (mkr_nw h1 hk f j), dc_or]
    by_cases ej : j = h
    · rw [if_pos ej, show dc (s < 2 ∧ f = f ∧ h = j) = true from dc_iff.mpr ⟨hs, rfl, ej.symm⟩, Bool.or_true]
    · rw [if_neg ej, show dc (s < 2 ∧ f = f ∧ h = j) = false from dcf (fun q => ej q.2.2.symm), Bool.or_false]
  · rw [pk_un e, hO i hi]
    congr 1
    refine bT_cg (fun j hj => ?_)
    exact dc_c ((mkr_nw h1 hk i j).trans ⟨fun q => q.elim id (fun z => absurd z.2.1.symm e), Or.inl⟩).symm
theorem T_nA {C : qC} {S : qS} {v : Nat → Int32} {s f h : Nat} (h1 : W1 S) (hk : nwK S v s f h) (hs : ¬ s = 2 ∧ ¬ s = 3) (hT : iT C S) : iT C (nA S v) := fun i hi => by
  have e2 : ∀ j, glt (nA S v) 2 i j = glt S 2 i j := fun j => by rw [glt_nw h1 hk, if_neg (fun q => hs.1 q.1)]
  have e3 : ∀ j, glt (nA S v) 3 i j = glt S 3 i j := fun j => by rw [glt_nw h1 hk, if_neg (fun q => hs.2 q.1)]
  simp only [e2, e3]
  exact hT i hi
theorem M_fin {C C' : qC} {S : qS} {v : Nat → Int32} {s f h : Nat} (h1 : W1 S) (hk : nwK S v s f h) (hM : iM C S) (e1 : xI C' 117 3 = xI C 117 3) (e2 : xA C' 118 = xA C 118) (e3 : xA C' 119 = xA C 119) (hB : ∀ j, j < 128 → fB C' 120 j = (fB C 120 j || (decide (j = f) && dc (s < 2 ∧ cnN (nA S v) (cN S))))) : iM C' (nA S v) := by
  refine ⟨by rw [e1]; exact hM.1, by rw [e2]; exact hM.2.1, by rw [e3]; exact hM.2.2.1, fun j hj => ?_⟩
  rw [hB j hj, mkd_nw h1 hk, Bool.or_eq_true, hM.2.2.2 j hj, Bool.and_eq_true, decide_eq_true_eq, dc_iff]
  exact or_congr Iff.rfl ⟨fun q => ⟨q.2.1, q.1.symm, q.2.2⟩, fun q => ⟨q.2.1.symm, q.1, q.2.2⟩⟩
def vSrc (f h : Int32) : Nat → Int32 := vN 0 f h
theorem ffN_c {S : qS} (h1 : W1 S) {x : Int64} (h : ¬ (fd S x = -1 ∧ cF S = 100)) : ∃ f, f < cF (ffS S x) ∧ ffN S x = nI f := by
  by_cases hn : fd S x = -1 ∧ ¬ cF S = 100
  · rw [(ff_yes hn.1 hn.2).1, (ff_yes hn.1 hn.2).2, cF_aF h1 hn.2]
    exact ⟨cF S, by omega, rfl⟩
  · rw [show ffN S x = fd S x from if_neg hn, show ffS S x = S from if_neg hn]
    rcases fd_c (S := S) x with q | ⟨j, hj, q⟩
    · exact absurd ⟨q, Classical.byContradiction (fun z => hn ⟨q, z⟩)⟩ h
    · exact ⟨j, hj, q⟩
theorem ffN_m1 {S : qS} {x : Int64} (h : fd S x = -1 ∧ cF S = 100) : ffN S x = -1 := by
  rw [show ffN S x = fd S x from if_neg (fun q => q.2 h.2)]
  exact h.1
set_option maxRecDepth 100000 in
set_option maxHeartbeats 4000000 in
theorem zX10_source {C M : qC} {r : Nat × Nat × Nat} {S : qS} {H : Nat → Nat → Nat → Bool} {h : Int32} {x : Int64} (hr : wR r) (hW : WS S H) (hI : Inv C S r H) : CT mX10_source 6 0 0 [.ref 0, .int h, .long x] (wd C M r) (fun r' w' => ∃ C', w' = wd C' M r ∧ ((¬ srcOk S h x ∧ r' = some (.int (-1)) ∧ Inv C' S r H) ∨ (srcOk S h x ∧ r' = some (.int (ffN S x)) ∧ Inv C' (nA (ffS S x) (vN 0 (ffN S x) h)) r H ∧ WS (nA (ffS S x) (vN 0 (ffN S x) h)) H))) := by
  have hN := hW.1.2.1
  refine eX10_source (AW_gen (fun Q hQ => ?_))
  by_cases ho : isH h = true ∧ ¬ cN S = 400
  · obtain ⟨hu, hu2, rfl⟩ := isH_of ho.1
    have hN4 : cN S < 400 := by have := ho.2; omega
    have hful := zX8_isFull_1 (C := C) (M := M) (r := r) hI.1.1 hN
    rw [decide_eq_false ho.2] at hful
    have hnon := zX7_nON (M := M) (x := x) hr hW hI
    by_cases hx : fd S x = -1 ∧ cF S = 100
    · rw [ffN_m1 hx, show ffS S x = S from if_neg (fun q => q.2 hx.2)] at hnon
      refine oX10_source_0 _ _ _ _ _ _ ?_
      simp only [bX10_source_0, qsem, qopt_s, qopt2_s, qev, qxs, Nat.reduceEqDiff, reduceIte, and_true, true_and, and_false, false_and, and_self, or_true, true_or, qb_or, reduceCtorEq, qbr_True, qbr_False, q10, q01, qwC, ho.1, qb_t, qb_f]
      refine kX10_source_1 (zX10_isHand) (Nat.le_of_ble_eq_true rfl) (Nat.le_of_ble_eq_true rfl) ⟨Nat.le_of_ble_eq_true rfl, Nat.le_of_ble_eq_true rfl⟩ ?_
      rintro _ _ ⟨rfl, rfl⟩
      refine oX10_source_4 _ _ _ _ _ _ ?_
      simp only [bX10_source_4, qsem, qopt_s, qopt2_s, qev, qxs, Nat.reduceEqDiff, reduceIte, and_true, true_and, and_false, false_and, and_self, or_true, true_or, qb_or, reduceCtorEq, qbr_True, qbr_False, q10, q01, qwC, ho.1, qb_t, qb_f]
      refine kX10_source_11 (hful) (rfl) (Nat.le_of_ble_eq_true rfl) (Nat.le_of_ble_eq_true rfl) ⟨Nat.le_of_ble_eq_true rfl, Nat.le_of_ble_eq_true rfl⟩ ?_
      rintro _ _ ⟨rfl, rfl⟩
      refine oX10_source_14 _ _ _ _ _ _ ?_
      simp only [bX10_source_14, qsem, qopt_s, qopt2_s, qev, qxs, Nat.reduceEqDiff, reduceIte, and_true, true_and, and_false, false_and, and_self, or_true, true_or, qb_or, reduceCtorEq, qbr_True, qbr_False, q10, q01, qwC, ho.1, qb_t, qb_f]
      refine oX10_source_19 _ _ _ _ _ _ ?_
      simp only [bX10_source_19, qsem, qopt_s, qopt2_s, qev, qxs, Nat.reduceEqDiff, reduceIte, and_true, true_and, and_false, false_and, and_self, or_true, true_or, qb_or, reduceCtorEq, qbr_True, qbr_False, q10, q01, qwC, ho.1, qb_t, qb_f]
      refine kX10_source_24 (hnon) (rfl) (Nat.le_of_ble_eq_true rfl) (Nat.le_of_ble_eq_true rfl) ⟨Nat.le_of_ble_eq_true rfl, Nat.le_of_ble_eq_true rfl⟩ ?_
      rintro _ _ ⟨rfl, C1, rfl, hI1⟩
      refine oX10_source_27 _ _ _ _ _ _ ?_
      simp only [bX10_source_27, qsem, qopt_s, qopt2_s, qev, qxs, Nat.reduceEqDiff, reduceIte, and_true, true_and, and_false, false_and, and_self, or_true, true_or, qb_or, reduceCtorEq, qbr_True, qbr_False, q10, q01, qwC, ho.1, qb_t, qb_f]
      exact hQ _ _ ⟨C1, rfl, Or.inl ⟨fun q => q.2.2 hx, rfl, hI1⟩⟩
    · obtain ⟨f, hf, ef⟩ := ffN_c hW.1 hx
      have hok : srcOk S (nI hu) x := ⟨ho.1, ho.2, hx⟩
      rw [ef] at hnon
      have hW1 := WS_ff (x := x) hW
      have eN : cN (ffS S x) = cN S := ff_N
      generalize hS1 : ffS S x = S1 at *
      have hF1 := hW1.1.2.2.1
      have hk : nwK S1 (vN 0 (nI f) (nI hu)) 0 f hu := ⟨⟨rfl, by omega⟩, ⟨rfl, hf⟩, ⟨rfl, hu2⟩, fun k hk => Or.inl (by unfold fk; split; rfl; split <;> rfl)⟩
      have hW2 : WS (nA S1 (vN 0 (nI f) (nI hu))) H := WS_nA hW1 (by omega) hk (fun _ k _ => by unfold fk; split; rfl; split <;> rfl) ⟨fun q => absurd q (by omega), fun _ => rfl⟩
      have eN2 := nA_N (vN 0 (nI f) (nI hu)) hW1.1
      have rest : ∀ C1 : qC, Inv C1 S1 r H → AW (mX10_source, 6, 0, 0, none, Q) 37 [some (.ref 0), some (.int (nI hu)), some (.long x), none, some (.int (nI f)), none] [] (wd C1 M r) 0 0 := by
        intro C1 h1
        obtain ⟨kN, kS, kF, kR, kO, kB, kT, kC, kM, kA, kQ, kK, kU⟩ := h1
        have nN : iN (nC C1 S1 (u3 0 (nI f) (nI hu))) (nA S1 (vN 0 (nI f) (nI hu))) := nC_N hW1.1 (by omega) kN ⟨rfl, rfl, rfl, rfl, rfl, rfl, rfl, rfl⟩
        have hmk := zX7_addMaker (C := nC C1 S1 (u3 0 (nI f) (nI hu))) (M := M) (r := r) (S := S1) (g := fun j => dc (mkr S1 f j)) hW1.1 kF hf hu2 (kO f (by omega))
        generalize hC2 : yA (nC C1 S1 (u3 0 (nI f) (nI hu))) 8 (upd (xA (nC C1 S1 (u3 0 (nI f) (nI hu))) 8) f (nI (bT (fun j => if j = hu then true else dc (mkr S1 f j)) 12))) = C2 at hmk
        have w1 : ∀ q j, ¬ (q = 1 ∧ j = 3) → xI C2 q j = xI C1 q j := fun q j hq => by rw [← hC2]; unfold nC; simp only [qxs]; rw [if_neg hq]
        have w2 : ∀ q, q ≠ 2 → q ≠ 8 → xA C2 q = xA C1 q := fun q a b => by rw [← hC2]; unfold nC; simp only [qxs]; rw [if_neg b, if_neg a]
        have w3 : xM C2 = xM C1 := by rw [← hC2]; rfl
        have w4 : xL C2 = xL C1 := by rw [← hC2]; rfl
        have w8 : xA C2 8 = upd (xA C1 8) f (nI (bT (fun j => if j = hu then true else dc (mkr S1 f j)) 12)) := by rw [← hC2]; rfl
        have nN2 : iN C2 (nA S1 (vN 0 (nI f) (nI hu))) := by rw [← hC2]; exact nN
        have kF2 : iF C2 (nA S1 (vN 0 (nI f) (nI hu))) := iF_cg (S := S1) (w1 5 7 (by omega)) (by rw [w3]) kF
        have kC2 : iC C2 S1 := iC_cg (by rw [w4]) kC
        have c2 := c2_nw (vN 0 (nI f) (nI hu)) hW1.1 hW1.2.1 kC2
        have hset := zX10_settle (M := M) (r := r) (n := cN S1) hW2.1 hW2.2.1 hW2.2.2.2.2.2.2.2.2.2.2 nN2 kF2 (by rw [eN2]; omega) c2.1 c2.2 (by rw [w2 118 (by omega) (by omega)]; exact kM.2.1) (by rw [w2 119 (by omega) (by omega)]; exact kM.2.2.1)
        rw [nw_of hW1.1 hk, nw_srt hk] at hset
        refine oX10_source_37 _ _ _ _ _ _ ?_
        simp only [bX10_source_37, qsem, qopt_s, qopt2_s, qev, qxs, Nat.reduceEqDiff, reduceIte, and_true, true_and, and_false, false_and, and_self, or_true, true_or, qb_or, reduceCtorEq, qbr_True, qbr_False, q10, q01, qwC]
        refine kX10_source_42 (zX10_addNote hW1.1 (by omega) kN) (rfl) (Nat.le_of_ble_eq_true rfl) (Nat.le_of_ble_eq_true rfl) ⟨Nat.le_of_ble_eq_true rfl, Nat.le_of_ble_eq_true rfl⟩ ?_
        rintro _ _ ⟨rfl, rfl⟩
        refine oX10_source_45 _ _ _ _ _ _ ?_
        simp only [bX10_source_45, qsem, qopt_s, qopt2_s, qev, qxs, Nat.reduceEqDiff, reduceIte, and_true, true_and, and_false, false_and, and_self, or_true, true_or, qb_or, reduceCtorEq, qbr_True, qbr_False, q10, q01, qwC]
        refine kX10_source_54 (hmk) (rfl) (Nat.le_of_ble_eq_true rfl) (Nat.le_of_ble_eq_true rfl) ⟨Nat.le_of_ble_eq_true rfl, Nat.le_of_ble_eq_true rfl⟩ ?_
        rintro _ _ ⟨rfl, rfl⟩
        refine oX10_source_57 _ _ _ _ _ _ ?_
        simp only [bX10_source_57, qsem, qopt_s, qopt2_s, qev, qxs, Nat.reduceEqDiff, reduceIte, and_true, true_and, and_false, false_and, and_self, or_true, true_or, qb_or, reduceCtorEq, qbr_True, qbr_False, q10, q01, qwC]
        refine kX10_source_60 (hset) (rfl) (Nat.le_of_ble_eq_true rfl) (Nat.le_of_ble_eq_true rfl) ⟨Nat.le_of_ble_eq_true rfl, Nat.le_of_ble_eq_true rfl⟩ ?_
        rintro _ _ ⟨C3, rfl, rfl, s1, s2, s3, s4, s5, s6⟩
        refine oX10_source_63 _ _ _ _ _ _ ?_
        simp only [bX10_source_63, qsem, qopt_s, qopt2_s, qev, qxs, Nat.reduceEqDiff, reduceIte, and_true, true_and, and_false, false_and, and_self, or_true, true_or, qb_or, reduceCtorEq, qbr_True, qbr_False, q10, q01, qwC]
        skip
        have z1 : ∀ q j, ¬ (q = 1 ∧ j = 3) → xI C3 q j = xI C1 q j := fun q j hq => by rw [s1]; exact w1 q j hq
        have z2 : ∀ q, q ≠ 2 → q ≠ 8 → xA C3 q = xA C1 q := fun q a b => by rw [s2]; exact w2 q a b
        have z4 : ∀ q, q ≠ 12 → q ≠ 120 → xL C3 q = xL C1 q := fun q a b => by rw [s4 q a b, w4]
        have zB : iB C3 (nA S1 (vN 0 (nI f) (nI hu))) := fun i hi => by
          rw [z2 9 (by omega) (by omega), bdb_nw hW1.1 hk, if_neg (fun q => absurd q.1 (by omega))]
          exact kB i hi
        have zR : iR C3 (nA S1 (vN 0 (nI f) (nI hu))) := by
          have := iR_cg hW1.1 (fun i hi => z4 (13 + i) (by omega) (by omega)) kR
          exact ⟨fun i hi j hj => (this.1 i hi j hj).trans (reach_nA hW1.1 hk (by omega) i j).symm, this.2⟩
        refine hQ _ _ ⟨C3, rfl, Or.inr ⟨hok, ri ef.symm, ?_, by rw [ef]; exact hW2⟩⟩
        rw [ef]
        exact ⟨iN_cg (by rw [s1]) (by rw [s2]) nN2, S_nA hW1.1 hW1.2.2.2.1 (iS_cg (z1 3 3 (by omega)) (z2 4 (by omega) (by omega)) kS), iF_cg (by rw [s1]) (by rw [s3]) kF2, zR, (fun i hi => O_nA hW1.1 hk (by omega) kO (by rw [s2, w8]) i hi), zB, T_nA hW1.1 hk ⟨by omega, by omega⟩ (iT_cg (z2 10 (by omega) (by omega)) (z2 11 (by omega) (by omega)) kT), s5, M_fin hW1.1 hk kM (z1 117 3 (by omega)) (z2 118 (by omega) (by omega)) (z2 119 (by omega) (by omega)) (fun j hj => by rw [s6 j hj, fB_cg (C := C1) (C' := C2) (p := 120) (by rw [w4])]), iA_cg (S := S1) (z1 121 1 (by omega)) (z2 122 (by omega) (by omega)) kA, iQ_cg (S := S1) (z1 124 1 (by omega)) (z2 125 (by omega) (by omega)) kQ, K_nA (C' := C3) hW1.1 hW1.2.2.2.1 (iK_cg (z2 127 (by omega) (by omega)) (z2 128 (by omega) (by omega)) (z2 129 (by omega) (by omega)) (z2 130 (by omega) (by omega)) kK), iU_cg (S := S1) (z1 0 10 (by omega)) (z2 _ (rp hr (by omega)) (rp hr (by omega))) (funext (fun j => z1 131 j (by omega))) kU⟩
      refine oX10_source_0 _ _ _ _ _ _ ?_
      simp only [bX10_source_0, qsem, qopt_s, qopt2_s, qev, qxs, Nat.reduceEqDiff, reduceIte, and_true, true_and, and_false, false_and, and_self, or_true, true_or, qb_or, reduceCtorEq, qbr_True, qbr_False, q10, q01, qwC, ho.1, qb_t, qb_f]
      refine kX10_source_1 (zX10_isHand) (Nat.le_of_ble_eq_true rfl) (Nat.le_of_ble_eq_true rfl) ⟨Nat.le_of_ble_eq_true rfl, Nat.le_of_ble_eq_true rfl⟩ ?_
      rintro _ _ ⟨rfl, rfl⟩
      refine oX10_source_4 _ _ _ _ _ _ ?_
      simp only [bX10_source_4, qsem, qopt_s, qopt2_s, qev, qxs, Nat.reduceEqDiff, reduceIte, and_true, true_and, and_false, false_and, and_self, or_true, true_or, qb_or, reduceCtorEq, qbr_True, qbr_False, q10, q01, qwC, ho.1, qb_t, qb_f]
      refine kX10_source_11 (hful) (rfl) (Nat.le_of_ble_eq_true rfl) (Nat.le_of_ble_eq_true rfl) ⟨Nat.le_of_ble_eq_true rfl, Nat.le_of_ble_eq_true rfl⟩ ?_
      rintro _ _ ⟨rfl, rfl⟩
      refine oX10_source_14 _ _ _ _ _ _ ?_
      simp only [bX10_source_14, qsem, qopt_s, qopt2_s, qev, qxs, Nat.reduceEqDiff, reduceIte, and_true, true_and, and_false, false_and, and_self, or_true, true_or, qb_or, reduceCtorEq, qbr_True, qbr_False, q10, q01, qwC, ho.1, qb_t, qb_f]
      refine oX10_source_19 _ _ _ _ _ _ ?_
      simp only [bX10_source_19, qsem, qopt_s, qopt2_s, qev, qxs, Nat.reduceEqDiff, reduceIte, and_true, true_and, and_false, false_and, and_self, or_true, true_or, qb_or, reduceCtorEq, qbr_True, qbr_False, q10, q01, qwC, ho.1, qb_t, qb_f]
      refine kX10_source_24 (hnon) (rfl) (Nat.le_of_ble_eq_true rfl) (Nat.le_of_ble_eq_true rfl) ⟨Nat.le_of_ble_eq_true rfl, Nat.le_of_ble_eq_true rfl⟩ ?_
      rintro _ _ ⟨rfl, C1, rfl, hI1⟩
      refine oX10_source_27 _ _ _ _ _ _ ?_
      simp only [bX10_source_27, qsem, qopt_s, qopt2_s, qev, qxs, Nat.reduceEqDiff, reduceIte, and_true, true_and, and_false, false_and, and_self, or_true, true_or, qb_or, reduceCtorEq, qbr_True, qbr_False, q10, q01, qwC, ho.1, qb_t, qb_f]
      refine qbr_f ((i_nm1 (by omega))) ?_
      exact rest C1 hI1
  · have bad : Q (some (.int (-1))) (wd C M r) := hQ _ _ ⟨C, rfl, Or.inl ⟨fun q => ho ⟨q.1, q.2.1⟩, rfl, hI⟩⟩
    by_cases h1 : isH h = true
    · have h400 : cN S = 400 := Classical.byContradiction (fun q => ho ⟨h1, q⟩)
      have hful := zX8_isFull_1 (C := C) (M := M) (r := r) hI.1.1 hN
      rw [decide_eq_true h400] at hful
      refine oX10_source_0 _ _ _ _ _ _ ?_
      simp only [bX10_source_0, qsem, qopt_s, qopt2_s, qev, qxs, Nat.reduceEqDiff, reduceIte, and_true, true_and, and_false, false_and, and_self, or_true, true_or, qb_or, reduceCtorEq, qbr_True, qbr_False, q10, q01, qwC, h1, qb_t]
      refine kX10_source_1 (zX10_isHand) (Nat.le_of_ble_eq_true rfl) (Nat.le_of_ble_eq_true rfl) ⟨Nat.le_of_ble_eq_true rfl, Nat.le_of_ble_eq_true rfl⟩ ?_
      rintro _ _ ⟨rfl, rfl⟩
      refine oX10_source_4 _ _ _ _ _ _ ?_
      simp only [bX10_source_4, qsem, qopt_s, qopt2_s, qev, qxs, Nat.reduceEqDiff, reduceIte, and_true, true_and, and_false, false_and, and_self, or_true, true_or, qb_or, reduceCtorEq, qbr_True, qbr_False, q10, q01, qwC, h1, qb_t]
      refine kX10_source_11 (hful) (rfl) (Nat.le_of_ble_eq_true rfl) (Nat.le_of_ble_eq_true rfl) ⟨Nat.le_of_ble_eq_true rfl, Nat.le_of_ble_eq_true rfl⟩ ?_
      rintro _ _ ⟨rfl, rfl⟩
      refine oX10_source_14 _ _ _ _ _ _ ?_
      simp only [bX10_source_14, qsem, qopt_s, qopt2_s, qev, qxs, Nat.reduceEqDiff, reduceIte, and_true, true_and, and_false, false_and, and_self, or_true, true_or, qb_or, reduceCtorEq, qbr_True, qbr_False, q10, q01, qwC, h1, qb_t]
      refine oX10_source_17 _ _ _ _ _ _ ?_
      simp only [bX10_source_17, qsem, qopt_s, qopt2_s, qev, qxs, Nat.reduceEqDiff, reduceIte, and_true, true_and, and_false, false_and, and_self, or_true, true_or, qb_or, reduceCtorEq, qbr_True, qbr_False, q10, q01, qwC, h1, qb_t]
      exact bad
    · have h1 : isH h = false := (Bool.not_eq_true _).mp h1
      refine oX10_source_0 _ _ _ _ _ _ ?_
      simp only [bX10_source_0, qsem, qopt_s, qopt2_s, qev, qxs, Nat.reduceEqDiff, reduceIte, and_true, true_and, and_false, false_and, and_self, or_true, true_or, qb_or, reduceCtorEq, qbr_True, qbr_False, q10, q01, qwC, h1, qb_f]
      refine kX10_source_1 (zX10_isHand) (Nat.le_of_ble_eq_true rfl) (Nat.le_of_ble_eq_true rfl) ⟨Nat.le_of_ble_eq_true rfl, Nat.le_of_ble_eq_true rfl⟩ ?_
      rintro _ _ ⟨rfl, rfl⟩
      refine oX10_source_4 _ _ _ _ _ _ ?_
      simp only [bX10_source_4, qsem, qopt_s, qopt2_s, qev, qxs, Nat.reduceEqDiff, reduceIte, and_true, true_and, and_false, false_and, and_self, or_true, true_or, qb_or, reduceCtorEq, qbr_True, qbr_False, q10, q01, qwC, h1, qb_f]
      refine oX10_source_17 _ _ _ _ _ _ ?_
      simp only [bX10_source_17, qsem, qopt_s, qopt2_s, qev, qxs, Nat.reduceEqDiff, reduceIte, and_true, true_and, and_false, false_and, and_self, or_true, true_or, qb_or, reduceCtorEq, qbr_True, qbr_False, q10, q01, qwC, h1, qb_f]
      exact bad


/-! the row of a new seal -/
def tS (f : Nat → Int32) (n : Nat) (u : Nat → Int32) : Nat → Int32 := fun j => if n * 6 ≤ j ∧ j < n * 6 + 6 then u (j - n * 6) else f j
theorem tS_up (f : Nat → Int32) (n k : Nat) (u : Nat → Int32) (x : Int32) (hk : k < 6) : upd (tS f n u) (n * 6 + k) x = tS f n (upd u k x) := by
  funext j
  show (if j = n * 6 + k then x else if n * 6 ≤ j ∧ j < n * 6 + 6 then u (j - n * 6) else f j) = if n * 6 ≤ j ∧ j < n * 6 + 6 then (if j - n * 6 = k then x else u (j - n * 6)) else f j
  by_cases e : j = n * 6 + k
  · rw [if_pos e, if_pos (by omega), if_pos (by omega)]
  · rw [if_neg e]
    by_cases h : n * 6 ≤ j ∧ j < n * 6 + 6
    · rw [if_pos h, if_pos h, if_neg (by omega)]
    · rw [if_neg h, if_neg h]
def sC (C : qC) (n : Nat) (u : Nat → Int32) : qC := yA (yI C 3 3 (nI (n + 1))) 4 (tS (xA C 4) n u)
theorem sC_r (C : qC) (n : Nat) (u : Nat → Int32) : xI (sC C n u) 0 10 = xI C 0 10 := by
  unfold sC
  simp only [qxs]
  rw [if_neg (by omega)]
theorem sC_id (C : qC) (n : Nat) : yI C 3 3 (nI (n + 1)) = sC C n (fun k => xA C 4 (n * 6 + k)) := by
  refine Prod.ext rfl (Prod.ext rfl (Prod.ext ?_ rfl))
  funext q
  show C.2.2.1 q = if q = 4 then tS (C.2.2.1 4) n (fun k => C.2.2.1 4 (n * 6 + k)) else C.2.2.1 q
  by_cases e : q = 4
  · rw [if_pos e, e]
    funext j
    unfold tS
    by_cases h : n * 6 ≤ j ∧ j < n * 6 + 6
    · rw [if_pos h]
      show _ = C.2.2.1 4 (n * 6 + (j - n * 6))
      rw [show n * 6 + (j - n * 6) = j by omega]
    · rw [if_neg h]
  · rw [if_neg e]
theorem zX8_set_sC {C M : qC} {r : Nat × Nat × Nat} {n : Nat} (hn : n < 400) (u : Nat → Int32) (k : Nat) (x : Int32) (hk : k < 6) : CT mX8_set 1 0 0 [.ref 3, .int (nI n), .int (nI k), .int x] (wd (sC C n u) M r) (fun r' w' => r' = none ∧ w' = wd (sC C n (upd u k x)) M r) := by
  have := zX8_set_3 (C := sC C n u) (M := M) (r := r) (N := n + 1) (n := n) (k := k) (v := x) rfl (by omega) (by omega) hk
  have e : yA (sC C n u) 4 (upd (xA (sC C n u) 4) (n * 6 + k) x) = sC C n (upd u k x) := by
    unfold sC
    rw [yA_yA]
    congr 1
    exact tS_up _ _ _ _ _ hk
  rw [e] at this
  exact this
/-- a seal more, on the class's side -/
theorem Inv_seal {C C' : qC} {S S1 : qS} {r : Nat × Nat × Nat} {H : Nat → Nat → Nat → Bool} {one two : Int32} {k : Nat} {u : Nat → Int32} (hr : wR r) (hW : WS S H) (hk : k < 4) (hok : kyOk S (nI k)) (hn : cN S < 400) (hS1 : S1 = nA (skpS S) (vL S (S.2.1 150 0) one two (nI k))) (hW1 : WS S1 H) (hI : Inv C S1 r H) (hu : u 0 = S.2.1 150 0 ∧ u 1 = nI k ∧ u 2 = nI (cN S) ∧ u 3 = one ∧ u 4 = two ∧ u 5 = S.1 2 - 1) (hC' : C' = yA (yA (sC C (cS S) u) 127 (upd (xA C 127) k (xA C 127 k - 1))) 130 (upd (xA C 130) k (xA C 130 k + 1))) : Inv C' (sealS S one two (nI k)) r H ∧ WS (sealS S one two (nI k)) H := by
  have hc := ky_c hk
  have h1 := hW.1
  have e0 : sealS S one two (nI k) = sI (sA (sA S1 151 (upd (S.2.1 151) k (S.2.1 151 k - 1))) 149 (upd (S.2.1 149) (cS S) (nI (cN S)))) 5 (S.1 5 + 1) := by rw [hS1]; unfold sealS; rw [hc]
  have cS1 : cS S1 = cS S := by rw [hS1]; rfl
  have a151 : S1.2.1 151 = S.2.1 151 := by rw [hS1]; rfl
  have a149 : S1.2.1 149 = S.2.1 149 := by rw [hS1]; rfl
  have a5 : S1.1 5 = S.1 5 := by rw [hS1]; rfl
  have cNk : cN (skpS S) = cN S := rfl
  have cN1 : cN S1 = cN S + 1 := by rw [hS1, nA_N _ (skp_W h1).1]; rfl
  have hv : ∀ p, 138 ≤ p ∧ p ≤ 148 → S1.2.1 p (cN S) = vL S (S.2.1 150 0) one two (nI k) p := fun p hp => by rw [hS1, ← cNk]; exact nA_nw _ hp
  have hS5 := h1.1.2.2.2.2.2.1
  have hsn := h1.2.2.2.2.2.2.1
  have sl0 : ∀ s, s < cS S → sln (sealS S one two (nI k)) s = sln S1 s := fun s hs => by
    rw [e0]
    show (upd (S.2.1 149) (cS S) (nI (cN S)) s).toNatClampNeg = (S1.2.1 149 s).toNatClampNeg
    rw [pk_un (by omega), a149]
  have sl1 : sln (sealS S one two (nI k)) (cS S) = cN S := by
    rw [e0]
    show (upd (S.2.1 149) (cS S) (nI (cN S)) (cS S)).toNatClampNeg = cN S
    rw [pk_us, nI_clamp (by omega)]
  have cS2 : cS (sealS S one two (nI k)) = cS S + 1 := by
    rw [e0]
    show (S.1 5 + 1).toNatClampNeg = _
    rw [hS5, nI_1, nI_clamp (by omega)]
  have aA : ∀ p, p ≠ 149 → p ≠ 151 → (sealS S one two (nI k)).2.1 p = S1.2.1 p := fun p a b => by
    rw [e0]
    show (if p = 149 then _ else if p = 151 then _ else S1.2.1 p) = _
    rw [if_neg a, if_neg b]
  have b151 : (sealS S one two (nI k)).2.1 151 = upd (S.2.1 151) k (S.2.1 151 k - 1) := by rw [e0]; rfl
  have b149 : (sealS S one two (nI k)).2.1 149 = upd (S.2.1 149) (cS S) (nI (cN S)) := by rw [e0]; rfl
  obtain ⟨kN, kS, kF, kR, kO, kB, kT, kC, kM, kA, kQ, kK, kU⟩ := hI
  obtain ⟨w1, w2, w3, w4, w5, w6, w7, w8, w9, w10, w11⟩ := hW1
  have z2 : ∀ q, q ≠ 4 → q ≠ 127 → q ≠ 130 → xA C' q = xA C q := fun q a b c => by
    rw [hC']
    unfold sC
    simp only [qxs]
    rw [if_neg c, if_neg b, if_neg a]
  have z1 : ∀ q j, ¬ (q = 3 ∧ j = 3) → xI C' q j = xI C q j := fun q j a => by
    rw [hC']
    unfold sC
    simp only [qxs]
    rw [if_neg a]
  have z3 : xM C' = xM C := by rw [hC']; rfl
  have z4 : xL C' = xL C := by rw [hC']; rfl
  have xc : xA C' 4 = tS (xA C 4) (cS S) u := by rw [hC']; rfl
  have nS : iS C' (sealS S one two (nI k)) := by
    refine ⟨by rw [cS2, hC']; rfl, fun s hs j hj => ?_⟩
    rw [cS2] at hs
    rw [xc]
    unfold tS
    rcases n_cases hs with hs | rfl
    · rw [if_neg (by omega), kS.2 s (by rw [cS1]; exact hs) j hj]
      unfold slV
      rw [sl0 s hs, aA 139 (by omega) (by omega), aA 147 (by omega) (by omega), aA 140 (by omega) (by omega), aA 141 (by omega) (by omega), aA 148 (by omega) (by omega)]
    · rw [if_pos (by omega), show cS S * 6 + j - cS S * 6 = j by omega]
      unfold slV
      rw [sl1, aA 139 (by omega) (by omega), aA 147 (by omega) (by omega), aA 140 (by omega) (by omega), aA 141 (by omega) (by omega), aA 148 (by omega) (by omega), hv 139 (by omega), hv 147 (by omega), hv 140 (by omega), hv 141 (by omega), hv 148 (by omega)]
      obtain ⟨u0, u1, u2, u3', u4, u5⟩ := hu
      rcases (show j = 0 ∨ j = 1 ∨ j = 2 ∨ j = 3 ∨ j = 4 ∨ j = 5 by omega) with rfl | rfl | rfl | rfl | rfl | rfl
      · exact u0
      · exact u1
      · exact u2
      · exact u3'
      · exact u4
      · exact u5
  have nK : iK C' (sealS S one two (nI k)) := by
    intro k' hk'
    obtain ⟨g1, g2, g3, g4⟩ := kK k' hk'
    refine ⟨?_, ?_, ?_, ?_⟩
    · rw [b151, hC']
      show upd (xA C 127) k (xA C 127 k - 1) k' = _
      by_cases e : k' = k
      · rw [e, pk_us, pk_us, (kK k hk).1, a151]
      · rw [pk_un e, pk_un e, g1, a151]
    · rw [z2 128 (by omega) (by omega) (by omega), aA 152 (by omega) (by omega)]; exact g2
    · rw [z2 129 (by omega) (by omega) (by omega), aA 153 (by omega) (by omega)]; exact g3
    · rw [cS2, fb_ct_succ, sl1, aA 147 (by omega) (by omega), hv 147 (by omega)]
      have ec : fb_ct (fun s => S1.2.1 147 (sln (sealS S one two (nI k)) s) == nI k') (cS S) = fb_ct (fun s => S1.2.1 147 (sln S1 s) == nI k') (cS S1) := by
        rw [cS1]
        exact fb_ct_cong (fun s hs => by rw [sl0 s hs])
      rw [ec, hC']
      show upd (xA C 130) k (xA C 130 k + 1) k' = _
      by_cases e : k' = k
      · rw [e, pk_us, (kK k hk).2.2.2, nI_1]
        rw [if_pos (show (vL S (S.2.1 150 0) one two (nI k) 147 == nI k) = true from beq_self_eq_true _)]
      · rw [pk_un e, g4, if_neg (show ¬ (vL S (S.2.1 150 0) one two (nI k) 147 == nI k') = true from fun q => e (i_ninj (by omega) (by omega) (eq_of_beq q)).symm), Nat.add_zero]
  have WSn : WS (sealS S one two (nI k)) H := by
    have c0 : ∀ j, j ≠ 5 → (sealS S one two (nI k)).1 j = S1.1 j := fun j hj => by rw [e0]; show (if j = 5 then _ else S1.1 j) = _; rw [if_neg hj]
    have c5 : (sealS S one two (nI k)).1 5 = nI (cS S + 1) := by rw [e0]; show S.1 5 + 1 = _; rw [hS5, nI_1]
    have m1 : W1 (sealS S one two (nI k)) := by
      obtain ⟨⟨b0, b1, b2, b3, b4, b5, b6⟩, d1, d2, d3, d4, d5, d6, d7⟩ := w1
      refine ⟨⟨?_, ?_, ?_, ?_, ?_, by rw [c5, cS2], ?_⟩, ?_, ?_, ?_, ?_, ?_, ?_, ?_⟩
      · unfold cN; rw [c0 0 (by omega)]; exact b0
      · unfold cF; rw [c0 1 (by omega)]; exact b1
      · unfold cR; rw [c0 2 (by omega)]; exact b2
      · unfold cK; rw [c0 3 (by omega)]; exact b3
      · unfold cQ; rw [c0 4 (by omega)]; exact b4
      · unfold cT; rw [c0 32 (by omega)]; exact b6
      · unfold cN; rw [c0 0 (by omega)]; exact d1
      · unfold cF; rw [c0 1 (by omega)]; exact d2
      · unfold cR; rw [c0 2 (by omega)]; exact d3
      · unfold cK; rw [c0 3 (by omega)]; exact d4
      · unfold cQ; rw [c0 4 (by omega)]; exact d5
      · rw [cS2]; unfold cN; rw [c0 0 (by omega)]; show _ ≤ cN S1; rw [cN1]; omega
      · unfold cT; rw [c0 32 (by omega)]; exact d7
    have m4 : W4 (sealS S one two (nI k)) := by
      intro s hs
      rw [cS2] at hs
      have ecN : cN (sealS S one two (nI k)) = cN S1 := by unfold cN; rw [c0 0 (by omega)]
      rw [aA 147 (by omega) (by omega), ecN]
      rcases n_cases hs with hs | rfl
      · obtain ⟨⟨x, y⟩, k', z, t⟩ := w4 s (by rw [cS1]; exact hs)
        rw [sl0 s hs, b149, pk_un (by omega)]
        rw [a149] at x
        exact ⟨⟨x, y⟩, k', z, t⟩
      · rw [sl1, b149, pk_us, hv 147 (by omega)]
        exact ⟨⟨rfl, by omega⟩, k, hk, rfl⟩
    have m10 : W10 (sealS S one two (nI k)) := by
      intro k' hk'
      rw [b151]
      by_cases e : k' = k
      · rw [e, pk_us]
        obtain ⟨x, hx, ex⟩ := hW.2.2.2.2.2.2.2.2.2.1 k hk
        have hne : ¬ x = 0 := fun q => hok.2.1 (by rw [hc, ex, q]; rfl)
        exact ⟨x - 1, by omega, by rw [ex]; exact pk_sub (b := 1) (by omega)⟩
      · rw [pk_un e]
        exact hW.2.2.2.2.2.2.2.2.2.1 k' hk'
    rw [e0] at m1 m4 m10 ⊢
    exact ⟨m1, w2, w3, m4, w5, w6, w7, w8, w9, m10, w11⟩
  refine ⟨?_, WSn⟩
  have fN : iN C' S1 := iN_cg (z1 1 3 (by omega)) (z2 2 (by omega) (by omega) (by omega)) kN
  have fF : iF C' S1 := iF_cg (z1 5 7 (by omega)) (by rw [z3]) kF
  have fR : iR C' S1 := iR_cg w1 (fun i hi => by rw [z4]) kR
  have fO : iO C' S1 := iO_cg (z2 8 (by omega) (by omega) (by omega)) kO
  have fB : iB C' S1 := iB_cg (z2 9 (by omega) (by omega) (by omega)) kB
  have fT : iT C' S1 := iT_cg (z2 10 (by omega) (by omega) (by omega)) (z2 11 (by omega) (by omega) (by omega)) kT
  have fC : iC C' S1 := iC_cg (by rw [z4]) kC
  have fM : iM C' S1 := iM_cg (z1 117 3 (by omega)) (z2 118 (by omega) (by omega) (by omega)) (z2 119 (by omega) (by omega) (by omega)) (by rw [z4]) kM
  have fA : iA C' S1 := iA_cg (z1 121 1 (by omega)) (z2 122 (by omega) (by omega) (by omega)) kA
  have fQ : iQ C' S1 := iQ_cg (z1 124 1 (by omega)) (z2 125 (by omega) (by omega) (by omega)) kQ
  have fU : iU C' S1 r H := iU_cg (z1 0 10 (by omega)) (z2 _ (rp hr (by omega)) (rp hr (by omega)) (rp hr (by omega))) (funext (fun j => z1 131 j (by omega))) kU
  rw [e0] at nS nK ⊢
  exact ⟨fN, nS, fF, fR, fO, iB_S (S := S1) rfl rfl rfl rfl rfl fB, iT_S (S := S1) rfl rfl rfl rfl rfl fT, fC, fM, fA, fQ, nK, fU⟩
theorem seal_I3 {C2 : qC} {S : qS} {r : Nat × Nat × Nat} {H : Nat → Nat → Nat → Bool} {a : Nat} {two key : Int32} (hr : wR r) (hW : WS S H) (hI2 : Inv C2 (skpS S) r H) (hN : cN S < 400) (hvk : nwK (skpS S) (vL S (S.2.1 150 0) (nI a) two key) 4 (qat S 0) a) : Inv (nC C2 (skpS S) (u3 4 (S.2.1 150 0) (nI a))) (nA (skpS S) (vL S (S.2.1 150 0) (nI a) two key)) r H := Inv_s2 (u := u3 4 (S.2.1 150 0) (nI a)) hr (WS_skp hW) hI2 hN hvk (by omega) ⟨rfl, rfl, rfl, rfl, rfl, rfl, rfl, rfl⟩ rfl (fun q _ _ => rfl) rfl rfl (T_nA (skp_W hW.1).1 hvk ⟨by omega, by omega⟩ (iT_cg rfl rfl hI2.2.2.2.2.2.2.1))
theorem kyOk_n {S : qS} {v : Nat → Int32} {k : Int32} (h : kyOk S k) : kyOk (nA (skpS S) v) k := h
set_option maxRecDepth 100000 in
set_option maxHeartbeats 4000000 in
theorem seal_fin {C3 M : qC} {S S1 : qS} {r : Nat × Nat × Nat} {H : Nat → Nat → Nat → Bool} {a b k : Nat} {u : Nat → Int32} {Q : Option Value → qW → Prop} (hr : wR r) (hW : WS S H) (hk : k < 4) (q4 : kyOk S (nI k)) (q4' : kyOk S1 (nI k)) (hN : cN S < 400) (hS1 : S1 = nA (skpS S) (vL S (S.2.1 150 0) (nI a) (nI b) (nI k))) (hW1 : WS S1 H) (hI3 : Inv C3 S1 r H) (hu : u 0 = S.2.1 150 0 ∧ u 1 = nI k ∧ u 2 = nI (cN S) ∧ u 3 = nI a ∧ u 4 = nI b ∧ u 5 = S.1 2 - 1) (hQ : ∀ C', Inv C' (sealS S (nI a) (nI b) (nI k)) r H ∧ WS (sealS S (nI a) (nI b) (nI k)) H → Q (some (.int (nI (cS S)))) (wd C' M r)) : AW (mX10_seal, 6, 0, 0, none, Q) 113 [some (.ref 0), some (.int (nI a)), some (.int (nI b)), some (.int (nI k)), some (.int (S.2.1 150 0)), some (.int (nI (cN S))), some (.int (nI (cS S)))] [] (wd (sC C3 (cS S) u) M r) 0 0 := by
  have hk4 : iK (sC C3 (cS S) u) S1 := iK_cg rfl rfl rfl rfl hI3.2.2.2.2.2.2.2.2.2.2.2.1
  have huse := zX2_useOnce (M := M) (r := r) hk4 hW1.2.2.2.2.2.2.2.2.2.1 hk q4'
  have hfin := Inv_seal (u := u) hr hW hk q4 hN hS1 hW1 hI3 hu rfl
  refine oX10_seal_113 _ _ _ _ _ _ ?_
  simp only [bX10_seal_113, qsem, qopt_s, qopt2_s, qev, qxs, Nat.reduceEqDiff, reduceIte, and_true, true_and, and_false, false_and, and_self, or_true, true_or, qb_or, reduceCtorEq, qbr_True, qbr_False, q10, q01, qwC]
  refine kX10_seal_118 (huse) (rfl) (Nat.le_of_ble_eq_true rfl) (Nat.le_of_ble_eq_true rfl) ⟨Nat.le_of_ble_eq_true rfl, Nat.le_of_ble_eq_true rfl⟩ ?_
  rintro _ _ ⟨rfl, rfl⟩
  refine oX10_seal_121 _ _ _ _ _ _ ?_
  simp only [bX10_seal_121, qsem, qopt_s, qopt2_s, qev, qxs, Nat.reduceEqDiff, reduceIte, and_true, true_and, and_false, false_and, and_self, or_true, true_or, qb_or, reduceCtorEq, qbr_True, qbr_False, q10, q01, qwC]
  exact hQ _ hfin
set_option maxRecDepth 100000 in
set_option maxHeartbeats 4000000 in
theorem zX10_seal {C M : qC} {S : qS} {r : Nat × Nat × Nat} {H : Nat → Nat → Nat → Bool} {one two key : Int32} (hr : wR r) (hW : WS S H) (h : Inv C S r H) : CT mX10_seal 6 0 0 [.ref 0, .int one, .int two, .int key] (wd C M r) (fun r' w' => ∃ C', w' = wd C' M r ∧ ((¬ whyV S H one two key = 0 ∧ r' = some (.int (-1)) ∧ Inv C' S r H) ∨ (whyV S H one two key = 0 ∧ r' = some (.int (nI (cS S))) ∧ Inv C' (sealS S one two key) r H ∧ WS (sealS S one two key) H))) := by
  refine eX10_seal (AW_gen (fun Q hQ => ?_))
  by_cases hy : whyV S H one two key = 0
  · obtain ⟨q0, ⟨o1, o2, o3⟩, q3, q4, q5, q6, q7⟩ := why0 hy
    obtain ⟨a, ha, rfl⟩ := isH_of o1
    obtain ⟨b, hb, rfl⟩ := isH_of o2
    obtain ⟨k, hk, rfl⟩ := isKy_of q4.1
    have h1 := hW.1
    have hN : cN S < 400 := by have := h1.2.1; omega
    have hF := h1.2.2.1
    have hsn := h1.2.2.2.2.2.2.1
    obtain ⟨ef, lf⟩ := hW.2.2.1.1 0 (by omega)
    have hWk := WS_skp hW
    have hvk : nwK (skpS S) (vL S (S.2.1 150 0) (nI a) (nI b) (nI k)) 4 (qat S 0) a := ⟨⟨rfl, by omega⟩, ⟨ef, lf⟩, ⟨rfl, ha⟩, fun j hj => Or.inl (by unfold fk; split; rfl; split <;> rfl)⟩
    have hW1 : WS (nA (skpS S) (vL S (S.2.1 150 0) (nI a) (nI b) (nI k))) H := WS_nA hWk hN hvk (fun _ k _ => by unfold fk; split; rfl; split <;> rfl) ⟨fun q => absurd q (by omega), fun q => absurd q (by omega)⟩
    have rest : ∀ C1 : qC, Inv C1 S r H → AW (mX10_seal, 6, 0, 0, none, Q) 12 [some (.ref 0), some (.int (nI a)), some (.int (nI b)), some (.int (nI k)), none, none, none] [] (wd C1 M r) 0 0 := by
      intro C1 hI1
      have hI2 := Inv_skp hr hW hI1
      have hrf := zX4_removeFirst (M := M) (r := r) h1 hI1.2.2.2.2.2.2.2.2.2.2.1
      generalize hC2 : yA (yI C1 124 1 (nI (cQ S - 1))) 125 (va_cpy (xA C1 125) (xA C1 125) 1 0 (cQ S - 1)) = C2 at hI2 hrf
      have hI3 : Inv (nC C2 (skpS S) (u3 4 (S.2.1 150 0) (nI a))) (nA (skpS S) (vL S (S.2.1 150 0) (nI a) (nI b) (nI k))) r H := seal_I3 hr hW hI2 hN hvk
      have hrul : xI C1 0 10 = nI (cR S) := hI1.2.2.2.2.2.2.2.2.2.2.2.2.1
      have hrul2 : xI C2 0 10 = S.1 2 := by rw [← hC2, h1.1.2.2.1, ← hrul]; rfl
      generalize hC3 : nC C2 (skpS S) (u3 4 (S.2.1 150 0) (nI a)) = C3 at hI3
      have hrul3 : xI C3 0 10 = S.1 2 := by rw [← hC3]; exact hrul2
      have e3 : xI C3 3 3 = nI (cS S) := hI3.2.1.1
      have hal : cS S < 400 := by omega
      have st := fun (u : Nat → Int32) (j : Nat) (y : Int32) (hj : j < 6) => zX8_set_sC (C := C3) (M := M) (r := r) hal u j y hj
      refine oX10_seal_12 _ _ _ _ _ _ ?_
      simp only [bX10_seal_12, qsem, qopt_s, qopt2_s, qev, qxs, Nat.reduceEqDiff, reduceIte, and_true, true_and, and_false, false_and, and_self, or_true, true_or, qb_or, reduceCtorEq, qbr_True, qbr_False, q10, q01, qwC]
      refine kX10_seal_16 (hrf) (rfl) (Nat.le_of_ble_eq_true rfl) (Nat.le_of_ble_eq_true rfl) ⟨Nat.le_of_ble_eq_true rfl, Nat.le_of_ble_eq_true rfl⟩ ?_
      rintro _ _ (⟨hz, -, -⟩ | ⟨-, rfl, rfl⟩)
      skip
      · exact absurd hz q0
      · refine oX10_seal_19 _ _ _ _ _ _ ?_
        simp only [bX10_seal_19, qsem, qopt_s, qopt2_s, qev, qxs, Nat.reduceEqDiff, reduceIte, and_true, true_and, and_false, false_and, and_self, or_true, true_or, qb_or, reduceCtorEq, qbr_True, qbr_False, q10, q01, qwC]
        refine kX10_seal_26 (zX10_addNote (S := skpS S) (skp_W h1).1 hN hI2.1) (rfl) (Nat.le_of_ble_eq_true rfl) (Nat.le_of_ble_eq_true rfl) ⟨Nat.le_of_ble_eq_true rfl, Nat.le_of_ble_eq_true rfl⟩ ?_
        rintro _ _ ⟨rfl, rfl⟩
        rw [hC3, show cN (skpS S) = cN S from rfl]
        refine oX10_seal_29 _ _ _ _ _ _ ?_
        simp only [bX10_seal_29, qsem, qopt_s, qopt2_s, qev, qxs, Nat.reduceEqDiff, reduceIte, and_true, true_and, and_false, false_and, and_self, or_true, true_or, qb_or, reduceCtorEq, qbr_True, qbr_False, q10, q01, qwC]
        refine kX10_seal_35 (zX8_addRow_3 e3 hal) (rfl) (Nat.le_of_ble_eq_true rfl) (Nat.le_of_ble_eq_true rfl) ⟨Nat.le_of_ble_eq_true rfl, Nat.le_of_ble_eq_true rfl⟩ ?_
        rintro _ _ ⟨rfl, rfl⟩
        rw [sC_id]
        refine oX10_seal_38 _ _ _ _ _ _ ?_
        simp only [bX10_seal_38, qsem, qopt_s, qopt2_s, qev, qxs, Nat.reduceEqDiff, reduceIte, and_true, true_and, and_false, false_and, and_self, or_true, true_or, qb_or, reduceCtorEq, qbr_True, qbr_False, q10, q01, qwC]
        refine kX10_seal_49 (st _ 0 (S.2.1 150 0) (by omega)) (rfl) (Nat.le_of_ble_eq_true rfl) (Nat.le_of_ble_eq_true rfl) ⟨Nat.le_of_ble_eq_true rfl, Nat.le_of_ble_eq_true rfl⟩ ?_
        rintro _ _ ⟨rfl, rfl⟩
        refine oX10_seal_52 _ _ _ _ _ _ ?_
        simp only [bX10_seal_52, qsem, qopt_s, qopt2_s, qev, qxs, Nat.reduceEqDiff, reduceIte, and_true, true_and, and_false, false_and, and_self, or_true, true_or, qb_or, reduceCtorEq, qbr_True, qbr_False, q10, q01, qwC]
        refine kX10_seal_60 (st _ 1 (nI k) (by omega)) (rfl) (Nat.le_of_ble_eq_true rfl) (Nat.le_of_ble_eq_true rfl) ⟨Nat.le_of_ble_eq_true rfl, Nat.le_of_ble_eq_true rfl⟩ ?_
        rintro _ _ ⟨rfl, rfl⟩
        refine oX10_seal_63 _ _ _ _ _ _ ?_
        simp only [bX10_seal_63, qsem, qopt_s, qopt2_s, qev, qxs, Nat.reduceEqDiff, reduceIte, and_true, true_and, and_false, false_and, and_self, or_true, true_or, qb_or, reduceCtorEq, qbr_True, qbr_False, q10, q01, qwC]
        refine kX10_seal_72 (st _ 2 (nI (cN S)) (by omega)) (rfl) (Nat.le_of_ble_eq_true rfl) (Nat.le_of_ble_eq_true rfl) ⟨Nat.le_of_ble_eq_true rfl, Nat.le_of_ble_eq_true rfl⟩ ?_
        rintro _ _ ⟨rfl, rfl⟩
        refine oX10_seal_75 _ _ _ _ _ _ ?_
        simp only [bX10_seal_75, qsem, qopt_s, qopt2_s, qev, qxs, Nat.reduceEqDiff, reduceIte, and_true, true_and, and_false, false_and, and_self, or_true, true_or, qb_or, reduceCtorEq, qbr_True, qbr_False, q10, q01, qwC]
        refine kX10_seal_83 (st _ 3 (nI a) (by omega)) (rfl) (Nat.le_of_ble_eq_true rfl) (Nat.le_of_ble_eq_true rfl) ⟨Nat.le_of_ble_eq_true rfl, Nat.le_of_ble_eq_true rfl⟩ ?_
        rintro _ _ ⟨rfl, rfl⟩
        refine oX10_seal_86 _ _ _ _ _ _ ?_
        simp only [bX10_seal_86, qsem, qopt_s, qopt2_s, qev, qxs, Nat.reduceEqDiff, reduceIte, and_true, true_and, and_false, false_and, and_self, or_true, true_or, qb_or, reduceCtorEq, qbr_True, qbr_False, q10, q01, qwC]
        refine kX10_seal_94 (st _ 4 (nI b) (by omega)) (rfl) (Nat.le_of_ble_eq_true rfl) (Nat.le_of_ble_eq_true rfl) ⟨Nat.le_of_ble_eq_true rfl, Nat.le_of_ble_eq_true rfl⟩ ?_
        rintro _ _ ⟨rfl, rfl⟩
        refine oX10_seal_97 _ _ _ _ _ _ ?_
        simp only [bX10_seal_97, qsem, qopt_s, qopt2_s, qev, qxs, Nat.reduceEqDiff, reduceIte, and_true, true_and, and_false, false_and, and_self, or_true, true_or, qb_or, reduceCtorEq, qbr_True, qbr_False, q10, q01, qwC, sC_r, hrul3]
        refine kX10_seal_110 (st _ 5 (S.1 2 - 1) (by omega)) (rfl) (Nat.le_of_ble_eq_true rfl) (Nat.le_of_ble_eq_true rfl) ⟨Nat.le_of_ble_eq_true rfl, Nat.le_of_ble_eq_true rfl⟩ ?_
        rintro _ _ ⟨rfl, rfl⟩
        exact seal_fin hr hW hk q4 (kyOk_n q4) hN rfl hW1 hI3 ⟨rfl, rfl, rfl, rfl, rfl, rfl⟩ (fun C' h => hQ _ _ ⟨C', rfl, Or.inr ⟨hy, rfl, h.1, h.2⟩⟩)
    have href := zX10_refusal (M := M) (one := nI a) (two := nI b) (key := nI k) hr hW h
    rw [hy] at href
    refine oX10_seal_0 _ _ _ _ _ _ ?_
    simp only [bX10_seal_0, qsem, qopt_s, qopt2_s, qev, qxs, Nat.reduceEqDiff, reduceIte, and_true, true_and, and_false, false_and, and_self, or_true, true_or, qb_or, reduceCtorEq, qbr_True, qbr_False, q10, q01, qwC]
    refine kX10_seal_4 (href) (rfl) (Nat.le_of_ble_eq_true rfl) (Nat.le_of_ble_eq_true rfl) ⟨Nat.le_of_ble_eq_true rfl, Nat.le_of_ble_eq_true rfl⟩ ?_
    rintro _ _ ⟨C1, rfl, hI1, rfl⟩
    refine oX10_seal_7 _ _ _ _ _ _ ?_
    simp only [bX10_seal_7, qsem, qopt_s, qopt2_s, qev, qxs, Nat.reduceEqDiff, reduceIte, and_true, true_and, and_false, false_and, and_self, or_true, true_or, qb_or, reduceCtorEq, qbr_True, qbr_False, q10, q01, qwC]
    exact rest C1 hI1
  · refine oX10_seal_0 _ _ _ _ _ _ ?_
    simp only [bX10_seal_0, qsem, qopt_s, qopt2_s, qev, qxs, Nat.reduceEqDiff, reduceIte, and_true, true_and, and_false, false_and, and_self, or_true, true_or, qb_or, reduceCtorEq, qbr_True, qbr_False, q10, q01, qwC]
    refine kX10_seal_4 (zX10_refusal hr hW h) (rfl) (Nat.le_of_ble_eq_true rfl) (Nat.le_of_ble_eq_true rfl) ⟨Nat.le_of_ble_eq_true rfl, Nat.le_of_ble_eq_true rfl⟩ ?_
    rintro _ _ ⟨C1, rfl, hI1, rfl⟩
    refine oX10_seal_7 _ _ _ _ _ _ ?_
    simp only [bX10_seal_7, qsem, qopt_s, qopt2_s, qev, qxs, Nat.reduceEqDiff, reduceIte, and_true, true_and, and_false, false_and, and_self, or_true, true_or, qb_or, reduceCtorEq, qbr_True, qbr_False, q10, q01, qwC]
    refine qbr_f (hy) ?_
    exact hQ _ _ ⟨C1, rfl, Or.inl ⟨hy, rfl, hI1⟩⟩


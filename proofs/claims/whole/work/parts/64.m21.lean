def jdN (H : Nat → Nat → Nat → Bool) (p : Bool) (z : Int32) : Prop := (z = -1 ∧ ∀ n x, 3 ≤ n → n ≤ 12 → 1 ≤ x → x ≤ n - 2 → ¬ cH H n x) ∨ ∃ n x, 3 ≤ n ∧ n ≤ 12 ∧ 1 ≤ x ∧ x ≤ n - 2 ∧ cH H n x ∧ (∀ n' x', 3 ≤ n' → n' < n → 1 ≤ x' → x' ≤ n' - 2 → ¬ cH H n' x') ∧ (∀ x', 1 ≤ x' → x' < x → ¬ cH H n x') ∧ z = nI (if p then n else x)
theorem q16 : ((16 : Int32) = 0) = False := by decide
set_option maxRecDepth 100000 in
set_option maxHeartbeats 4000000 in
theorem zX11_least {C M : qC} {r : Nat × Nat × Nat} {S : qS} {H : Nat → Nat → Nat → Bool} (hS : pj M = S) (h1 : W1 S) (h7 : W7 S H) : CT mX11_least 3 0 0 [.ref 136] (wd C M r) (fun r' w' => ∃ M' z, w' = wd C M' r ∧ pj M' = S ∧ r' = some (.int z) ∧ jdN H true z) := by
  refine eX11_least (AW_gen (fun Q hQ => ?_))
  refine oX11_least_0 _ _ _ _ _ _ ?_
  simp only [bX11_least_0, qsem, qopt_s, qopt2_s, qev, qxs, Nat.reduceEqDiff, reduceIte, and_true, true_and, and_false, false_and, and_self, or_true, true_or, qb_or, reduceCtorEq, qbr_True, qbr_False, q10, q01, qwM]
  refine kX11_least_1 (zX11_judged hS h1 h7) rfl (Nat.le_of_ble_eq_true rfl) (Nat.le_of_ble_eq_true rfl) ⟨Nat.le_of_ble_eq_true rfl, Nat.le_of_ble_eq_true rfl⟩ ?_
  rintro _ _ ⟨M1, z, rfl, hS1, rfl, hz⟩
  refine oX11_least_4 _ _ _ _ _ _ ?_
  simp only [bX11_least_4, qsem, qopt_s, qopt2_s, qev, qxs, Nat.reduceEqDiff, reduceIte, and_true, true_and, and_false, false_and, and_self, or_true, true_or, qb_or, reduceCtorEq, qbr_True, qbr_False, q10, q01, qwM]
  refine qbr_i (fun c1 => ?_) (fun c1 => ?_)
  · refine oX11_least_18 _ _ _ _ _ _ ?_
    simp only [bX11_least_18, qsem, qopt_s, qopt2_s, qev, qxs, Nat.reduceEqDiff, reduceIte, and_true, true_and, and_false, false_and, and_self, or_true, true_or, qb_or, reduceCtorEq, qbr_True, qbr_False, q10, q01, qwM]
    first | exact hQ _ _ ⟨M1, -1, rfl, hS1, rfl, Or.inl ⟨rfl, hz.elim (fun q => q.2) (fun ⟨n, x, a1, a2, a3, a4, a5, a6, a7, a8⟩ => absurd (a8.symm.trans c1) (i_nm1 (by omega)))⟩⟩ | (rcases hz with q | ⟨n, x, a1, a2, a3, a4, a5, a6, a7, rfl⟩; exact absurd q.1 c1; exact hQ _ _ ⟨M1, _, rfl, hS1, rfl, Or.inr ⟨n, x, a1, a2, a3, a4, a5, a6, a7, by rw [show (16 : Int32) = nI 16 from rfl, pk_div (by omega) (by omega) (by omega)]; congr 1; rw [if_pos rfl]; omega⟩⟩)
  · refine oX11_least_14 _ _ _ _ _ _ ?_
    simp only [bX11_least_14, qsem, qopt_s, qopt2_s, qev, qxs, Nat.reduceEqDiff, reduceIte, and_true, true_and, and_false, false_and, and_self, or_true, true_or, qb_or, reduceCtorEq, qbr_True, qbr_False, q10, q01, qwM]
    refine ⟨by decide, ?_⟩
    refine oX11_least_18 _ _ _ _ _ _ ?_
    simp only [bX11_least_18, qsem, qopt_s, qopt2_s, qev, qxs, Nat.reduceEqDiff, reduceIte, and_true, true_and, and_false, false_and, and_self, or_true, true_or, qb_or, reduceCtorEq, qbr_True, qbr_False, q10, q01, qwM]
    first | exact hQ _ _ ⟨M1, -1, rfl, hS1, rfl, Or.inl ⟨rfl, hz.elim (fun q => q.2) (fun ⟨n, x, a1, a2, a3, a4, a5, a6, a7, a8⟩ => absurd (a8.symm.trans c1) (i_nm1 (by omega)))⟩⟩ | (rcases hz with q | ⟨n, x, a1, a2, a3, a4, a5, a6, a7, rfl⟩; exact absurd q.1 c1; exact hQ _ _ ⟨M1, _, rfl, hS1, rfl, Or.inr ⟨n, x, a1, a2, a3, a4, a5, a6, a7, by rw [show (16 : Int32) = nI 16 from rfl, pk_div (by omega) (by omega) (by omega)]; congr 1; rw [if_pos rfl]; omega⟩⟩)
set_option maxRecDepth 100000 in
set_option maxHeartbeats 4000000 in
theorem zX11_makers {C M : qC} {r : Nat × Nat × Nat} {S : qS} {H : Nat → Nat → Nat → Bool} (hS : pj M = S) (h1 : W1 S) (h7 : W7 S H) : CT mX11_makers 3 0 0 [.ref 136] (wd C M r) (fun r' w' => ∃ M' z, w' = wd C M' r ∧ pj M' = S ∧ r' = some (.int z) ∧ jdN H false z) := by
  refine eX11_makers (AW_gen (fun Q hQ => ?_))
  refine oX11_makers_0 _ _ _ _ _ _ ?_
  simp only [bX11_makers_0, qsem, qopt_s, qopt2_s, qev, qxs, Nat.reduceEqDiff, reduceIte, and_true, true_and, and_false, false_and, and_self, or_true, true_or, qb_or, reduceCtorEq, qbr_True, qbr_False, q10, q01, qwM]
  refine kX11_makers_1 (zX11_judged hS h1 h7) rfl (Nat.le_of_ble_eq_true rfl) (Nat.le_of_ble_eq_true rfl) ⟨Nat.le_of_ble_eq_true rfl, Nat.le_of_ble_eq_true rfl⟩ ?_
  rintro _ _ ⟨M1, z, rfl, hS1, rfl, hz⟩
  refine oX11_makers_4 _ _ _ _ _ _ ?_
  simp only [bX11_makers_4, qsem, qopt_s, qopt2_s, qev, qxs, Nat.reduceEqDiff, reduceIte, and_true, true_and, and_false, false_and, and_self, or_true, true_or, qb_or, reduceCtorEq, qbr_True, qbr_False, q10, q01, qwM]
  refine qbr_i (fun c1 => ?_) (fun c1 => ?_)
  · refine oX11_makers_18 _ _ _ _ _ _ ?_
    simp only [bX11_makers_18, qsem, qopt_s, qopt2_s, qev, qxs, Nat.reduceEqDiff, reduceIte, and_true, true_and, and_false, false_and, and_self, or_true, true_or, qb_or, reduceCtorEq, qbr_True, qbr_False, q10, q01, qwM]
    first | exact hQ _ _ ⟨M1, -1, rfl, hS1, rfl, Or.inl ⟨rfl, hz.elim (fun q => q.2) (fun ⟨n, x, a1, a2, a3, a4, a5, a6, a7, a8⟩ => absurd (a8.symm.trans c1) (i_nm1 (by omega)))⟩⟩ | (rcases hz with q | ⟨n, x, a1, a2, a3, a4, a5, a6, a7, rfl⟩; exact absurd q.1 c1; exact hQ _ _ ⟨M1, _, rfl, hS1, rfl, Or.inr ⟨n, x, a1, a2, a3, a4, a5, a6, a7, by rw [show (16 : Int32) = nI 16 from rfl, pk_rem (by omega) (by omega) (by omega)]; congr 1; rw [if_neg (by decide)]; omega⟩⟩)
  · refine oX11_makers_14 _ _ _ _ _ _ ?_
    simp only [bX11_makers_14, qsem, qopt_s, qopt2_s, qev, qxs, Nat.reduceEqDiff, reduceIte, and_true, true_and, and_false, false_and, and_self, or_true, true_or, qb_or, reduceCtorEq, qbr_True, qbr_False, q10, q01, qwM]
    refine ⟨by decide, ?_⟩
    refine oX11_makers_18 _ _ _ _ _ _ ?_
    simp only [bX11_makers_18, qsem, qopt_s, qopt2_s, qev, qxs, Nat.reduceEqDiff, reduceIte, and_true, true_and, and_false, false_and, and_self, or_true, true_or, qb_or, reduceCtorEq, qbr_True, qbr_False, q10, q01, qwM]
    first | exact hQ _ _ ⟨M1, -1, rfl, hS1, rfl, Or.inl ⟨rfl, hz.elim (fun q => q.2) (fun ⟨n, x, a1, a2, a3, a4, a5, a6, a7, a8⟩ => absurd (a8.symm.trans c1) (i_nm1 (by omega)))⟩⟩ | (rcases hz with q | ⟨n, x, a1, a2, a3, a4, a5, a6, a7, rfl⟩; exact absurd q.1 c1; exact hQ _ _ ⟨M1, _, rfl, hS1, rfl, Or.inr ⟨n, x, a1, a2, a3, a4, a5, a6, a7, by rw [show (16 : Int32) = nI 16 from rfl, pk_rem (by omega) (by omega) (by omega)]; congr 1; rw [if_neg (by decide)]; omega⟩⟩)
theorem bit_1 {m h : Nat} (hm : m < 4096) (hh : h < 12) : ((nI m >>> (nI h &&& 31)) &&& 1 = 1) = (m.testBit h = true) := by
  have hd : m / 2 ^ h ≤ m := Nat.div_le_self m _
  rw [pk_shrN (by omega) _ h (sl_31 h (by omega)), pk_andN (m := 1) (by omega) 1 (by decide), show (1 : Int32) = nI 1 from rfl, nIeq (by omega) (by omega), Nat.testBit_eq_decide_div_mod_eq]
  simp only [Nat.pow_one, decide_eq_true_eq]
/-- the queue -/
def W3 (S : qS) : Prop := (∀ k, k < cQ S → S.2.1 150 k = nI (qat S k) ∧ qat S k < cF S) ∧ ∀ i j, i < j → j < cQ S → qat S i ≠ qat S j
def kyOk (S : qS) (k : Int32) : Prop := isKy k = true ∧ ¬ S.2.1 151 k.toNatClampNeg = 0 ∧ S.2.1 152 k.toNatClampNeg = 0 ∧ S.2.1 153 k.toNatClampNeg = -1
noncomputable def whyV (S : qS) (H : Nat → Nat → Nat → Bool) (one two key : Int32) : Int32 :=
  if cQ S = 0 then 1 else if dc (isH one = true ∧ isH two = true ∧ ¬ one = two) = false then 2
  else if ((mkN S (qat S 0)).testBit one.toNatClampNeg || (mkN S (qat S 0)).testBit two.toNatClampNeg) = true then 3 else if dc (kyOk S key) = false then 4 else if dc (cln S (qat S 0)) = false then 5
  else if H (hwt S 2 (qat S 0) 0) (hwt S 3 (qat S 0) (mkN S (qat S 0))) (pc12 (bdb S (qat S 0) (cN S))) = false then 6 else if dc (cal S (qat S 0)) = true then 7 else if cN S = 400 then 8 else 0
theorem dcf {P : Prop} (h : ¬ P) : dc P = false := by cases hh : dc P; rfl; exact absurd (dc_iff.mp hh) h
set_option maxRecDepth 100000 in
set_option maxHeartbeats 4000000 in
theorem zX11_why {C M : qC} {r : Nat × Nat × Nat} {S : qS} {H : Nat → Nat → Nat → Bool} {one two key : Int32} (hS : pj M = S) (h1 : W1 S) (h2 : W2 S) (h3 : W3 S) (h5 : W5 S) (h7 : W7 S H) : CT mX11_why 4 0 0 [.ref 136, .int one, .int two, .int key] (wd C M r) (fun r' w' => ∃ M', w' = wd C M' r ∧ pj M' = S ∧ r' = some (.int (whyV S H one two key))) := by
  have hq := h1.2.2.2.2.2.1
  have hN := h1.2.1
  have hF := h1.2.2.1
  have e0 : (nI (cQ S) = 0) = (cQ S = 0) := nI0l (by omega)
  refine eX11_why (AW_gen (fun Q hQ => ?_))
  by_cases hz : cQ S = 0
  · refine oX11_why_0 _ _ _ _ _ _ ?_
    simp only [bX11_why_0, qsem, qopt_s, qopt2_s, qev, qxs, Nat.reduceEqDiff, reduceIte, and_true, true_and, and_false, false_and, and_self, or_true, true_or, qb_or, reduceCtorEq, qbr_True, qbr_False, q10, q01, qwM, pjx hS, h1.1.2.2.2.2.1, e0, hz]
    refine qbr_t (rfl) ?_
    exact hQ _ _ ⟨M, rfl, hS, ri (by unfold whyV; rw [if_pos hz])⟩
  have w0 : whyV S H one two key = if dc (isH one = true ∧ isH two = true ∧ ¬ one = two) = false then 2 else if ((mkN S (qat S 0)).testBit one.toNatClampNeg || (mkN S (qat S 0)).testBit two.toNatClampNeg) = true then 3 else if dc (kyOk S key) = false then 4 else if dc (cln S (qat S 0)) = false then 5 else if H (hwt S 2 (qat S 0) 0) (hwt S 3 (qat S 0) (mkN S (qat S 0))) (pc12 (bdb S (qat S 0) (cN S))) = false then 6 else if dc (cal S (qat S 0)) = true then 7 else if cN S = 400 then 8 else 0 := by unfold whyV; rw [if_neg hz]
  obtain ⟨eq0, lq0⟩ := h3.1 0 (by omega)
  generalize hf : qat S 0 = f at *
  by_cases hh : isH one = true ∧ isH two = true ∧ ¬ one = two
  · rw [if_neg (by rw [dc_iff.mpr hh]; exact Bool.noConfusion)] at w0
    obtain ⟨ho, ht, hne⟩ := hh
    obtain ⟨j1, l1, rfl⟩ := isH_of ho
    obtain ⟨j2, l2, rfl⟩ := isH_of ht
    have hmk := mkN_ok h2 f
    have b1 := bit_1 hmk.1 l1
    have b2 := bit_1 hmk.1 l2
    rw [nIcl (show j1 < 1000 by omega), nIcl (show j2 < 1000 by omega)] at w0
    have at105 : kyOk S key → ∀ (M : qC), pj M = S → ¬ ((mkN S f).testBit j1 || (mkN S f).testBit j2) = true → AW (mX11_why, 4, 0, 0, none, Q) 105 [some (.ref 136), some (.int (nI j1)), some (.int (nI j2)), some (.int key), some (.int (nI f)), some (.int (nI (mkN S f)))] [] (wd C M r) 0 0 := by
      intro hk M hS hb
      rw [if_neg hb, if_neg (by rw [dc_iff.mpr hk]; exact Bool.noConfusion)] at w0
      have x1 : hwt S 2 f 0 ≤ 12 := fb_ct_le _ _
      have x2 : hwt S 3 f (mkN S f) ≤ 12 := fb_ct_le _ _
      have x3 : pc12 (bdb S f (cN S)) ≤ 12 := fb_ct_le _ _
      refine oX11_why_105 _ _ _ _ _ _ ?_
      simp only [bX11_why_105, qsem, qopt_s, qopt2_s, qev, qxs, Nat.reduceEqDiff, reduceIte, and_true, true_and, and_false, false_and, and_self, or_true, true_or, qb_or, reduceCtorEq, qbr_True, qbr_False, q10, q01, qwM, qb_0]
      refine kX11_why_108 (zX11_isClean hS h1 h2 lq0) rfl (Nat.le_of_ble_eq_true rfl) (Nat.le_of_ble_eq_true rfl) ⟨Nat.le_of_ble_eq_true rfl, Nat.le_of_ble_eq_true rfl⟩ ?_
      rintro _ _ ⟨M1, ρ1, rfl, hS1, hr1, hi1, rfl⟩
      rw [dc_of (hi1 f)]
      refine oX11_why_111 _ _ _ _ _ _ ?_
      simp only [bX11_why_111, qsem, qopt_s, qopt2_s, qev, qxs, Nat.reduceEqDiff, reduceIte, and_true, true_and, and_false, false_and, and_self, or_true, true_or, qb_or, reduceCtorEq, qbr_True, qbr_False, q10, q01, qwM, qb_0]
      refine qbr_i (fun c1 => ?_) (fun c1 => ?_)
      · first | exact hQ _ _ ⟨M1, rfl, hS1, ri (by rw [w0, if_pos c1])⟩ | exact hQ _ _ ⟨M2, rfl, hS2, ri (by rw [w0, if_neg c1, if_pos c2])⟩ | exact hQ _ _ ⟨M3, rfl, hS3, ri (by rw [w0, if_neg c1, if_neg c2, if_pos ((Bool.not_eq_false _).mp c3)])⟩ | exact hQ _ _ ⟨M3, rfl, hS3, ri (by rw [w0, if_neg c1, if_neg c2, if_neg (by rw [c3]; exact Bool.noConfusion), if_pos c4])⟩ | exact hQ _ _ ⟨M3, rfl, hS3, ri (by rw [w0, if_neg c1, if_neg c2, if_neg (by rw [c3]; exact Bool.noConfusion), if_neg c4])⟩
      · refine oX11_why_116 _ _ _ _ _ _ ?_
        simp only [bX11_why_116, qsem, qopt_s, qopt2_s, qev, qxs, Nat.reduceEqDiff, reduceIte, and_true, true_and, and_false, false_and, and_self, or_true, true_or, qb_or, reduceCtorEq, qbr_True, qbr_False, q10, q01, qwM, qb_0]
        refine kX11_why_122 (zX11_handsWith (s := 2) (wo := 0) hS1 h1 h2 (by omega) lq0 (by omega)) rfl (Nat.le_of_ble_eq_true rfl) (Nat.le_of_ble_eq_true rfl) ⟨Nat.le_of_ble_eq_true rfl, Nat.le_of_ble_eq_true rfl⟩ ?_
        rintro _ _ ⟨rfl, rfl⟩
        refine oX11_why_125 _ _ _ _ _ _ ?_
        simp only [bX11_why_125, qsem, qopt_s, qopt2_s, qev, qxs, Nat.reduceEqDiff, reduceIte, and_true, true_and, and_false, false_and, and_self, or_true, true_or, qb_or, reduceCtorEq, qbr_True, qbr_False, q10, q01, qwM, qb_0]
        refine kX11_why_131 (zX11_handsWith (s := 3) hS1 h1 h2 (by omega) lq0 hmk.1) rfl (Nat.le_of_ble_eq_true rfl) (Nat.le_of_ble_eq_true rfl) ⟨Nat.le_of_ble_eq_true rfl, Nat.le_of_ble_eq_true rfl⟩ ?_
        rintro _ _ ⟨rfl, rfl⟩
        refine oX11_why_134 _ _ _ _ _ _ ?_
        simp only [bX11_why_134, qsem, qopt_s, qopt2_s, qev, qxs, Nat.reduceEqDiff, reduceIte, and_true, true_and, and_false, false_and, and_self, or_true, true_or, qb_or, reduceCtorEq, qbr_True, qbr_False, q10, q01, qwM, qb_0]
        refine kX11_why_137 (zX11_builders hS1 h1 h2 lq0) rfl (Nat.le_of_ble_eq_true rfl) (Nat.le_of_ble_eq_true rfl) ⟨Nat.le_of_ble_eq_true rfl, Nat.le_of_ble_eq_true rfl⟩ ?_
        rintro _ _ ⟨rfl, rfl⟩
        refine kX11_why_140 (zX11_holds hS1 h1 (h7 _ _ _ x1 x2 x3)) rfl (Nat.le_of_ble_eq_true rfl) (Nat.le_of_ble_eq_true rfl) ⟨Nat.le_of_ble_eq_true rfl, Nat.le_of_ble_eq_true rfl⟩ ?_
        rintro _ _ ⟨M2, rfl, hS2, rfl⟩
        refine oX11_why_143 _ _ _ _ _ _ ?_
        simp only [bX11_why_143, qsem, qopt_s, qopt2_s, qev, qxs, Nat.reduceEqDiff, reduceIte, and_true, true_and, and_false, false_and, and_self, or_true, true_or, qb_or, reduceCtorEq, qbr_True, qbr_False, q10, q01, qwM, qb_0]
        refine qbr_i (fun c2 => ?_) (fun c2 => ?_)
        · first | exact hQ _ _ ⟨M1, rfl, hS1, ri (by rw [w0, if_pos c1])⟩ | exact hQ _ _ ⟨M2, rfl, hS2, ri (by rw [w0, if_neg c1, if_pos c2])⟩ | exact hQ _ _ ⟨M3, rfl, hS3, ri (by rw [w0, if_neg c1, if_neg c2, if_pos ((Bool.not_eq_false _).mp c3)])⟩ | exact hQ _ _ ⟨M3, rfl, hS3, ri (by rw [w0, if_neg c1, if_neg c2, if_neg (by rw [c3]; exact Bool.noConfusion), if_pos c4])⟩ | exact hQ _ _ ⟨M3, rfl, hS3, ri (by rw [w0, if_neg c1, if_neg c2, if_neg (by rw [c3]; exact Bool.noConfusion), if_neg c4])⟩
        · refine oX11_why_149 _ _ _ _ _ _ ?_
          simp only [bX11_why_149, qsem, qopt_s, qopt2_s, qev, qxs, Nat.reduceEqDiff, reduceIte, and_true, true_and, and_false, false_and, and_self, or_true, true_or, qb_or, reduceCtorEq, qbr_True, qbr_False, q10, q01, qwM, qb_0]
          refine kX11_why_152 (zX11_isCalled hS2 h1 h2 h5 lq0) rfl (Nat.le_of_ble_eq_true rfl) (Nat.le_of_ble_eq_true rfl) ⟨Nat.le_of_ble_eq_true rfl, Nat.le_of_ble_eq_true rfl⟩ ?_
          rintro _ _ ⟨M3, b3, rfl, hS3, rfl, hb3⟩
          rw [dc_of hb3]
          refine oX11_why_155 _ _ _ _ _ _ ?_
          simp only [bX11_why_155, qsem, qopt_s, qopt2_s, qev, qxs, Nat.reduceEqDiff, reduceIte, and_true, true_and, and_false, false_and, and_self, or_true, true_or, qb_or, reduceCtorEq, qbr_True, qbr_False, q10, q01, qwM, qb_0]
          refine qbr_i (fun c3 => ?_) (fun c3 => ?_)
          · refine oX11_why_161 _ _ _ _ _ _ ?_
            simp only [bX11_why_161, qsem, qopt_s, qopt2_s, qev, qxs, Nat.reduceEqDiff, reduceIte, and_true, true_and, and_false, false_and, and_self, or_true, true_or, qb_or, reduceCtorEq, qbr_True, qbr_False, q10, q01, qwM, qb_0, pjx hS3, h1.1.1, cN400 h1]
            refine qbr_i (fun c4 => ?_) (fun c4 => ?_)
            · refine oX11_why_177 _ _ _ _ _ _ ?_
              simp only [bX11_why_177, qsem, qopt_s, qopt2_s, qev, qxs, Nat.reduceEqDiff, reduceIte, and_true, true_and, and_false, false_and, and_self, or_true, true_or, qb_or, reduceCtorEq, qbr_True, qbr_False, q10, q01, qwM, qb_0]
              first | exact hQ _ _ ⟨M1, rfl, hS1, ri (by rw [w0, if_pos c1])⟩ | exact hQ _ _ ⟨M2, rfl, hS2, ri (by rw [w0, if_neg c1, if_pos c2])⟩ | exact hQ _ _ ⟨M3, rfl, hS3, ri (by rw [w0, if_neg c1, if_neg c2, if_pos ((Bool.not_eq_false _).mp c3)])⟩ | exact hQ _ _ ⟨M3, rfl, hS3, ri (by rw [w0, if_neg c1, if_neg c2, if_neg (by rw [c3]; exact Bool.noConfusion), if_pos c4])⟩ | exact hQ _ _ ⟨M3, rfl, hS3, ri (by rw [w0, if_neg c1, if_neg c2, if_neg (by rw [c3]; exact Bool.noConfusion), if_neg c4])⟩
            · refine oX11_why_176 _ _ _ _ _ _ ?_
              simp only [bX11_why_176, qsem, qopt_s, qopt2_s, qev, qxs, Nat.reduceEqDiff, reduceIte, and_true, true_and, and_false, false_and, and_self, or_true, true_or, qb_or, reduceCtorEq, qbr_True, qbr_False, q10, q01, qwM, qb_0]
              refine oX11_why_177 _ _ _ _ _ _ ?_
              simp only [bX11_why_177, qsem, qopt_s, qopt2_s, qev, qxs, Nat.reduceEqDiff, reduceIte, and_true, true_and, and_false, false_and, and_self, or_true, true_or, qb_or, reduceCtorEq, qbr_True, qbr_False, q10, q01, qwM, qb_0]
              first | exact hQ _ _ ⟨M1, rfl, hS1, ri (by rw [w0, if_pos c1])⟩ | exact hQ _ _ ⟨M2, rfl, hS2, ri (by rw [w0, if_neg c1, if_pos c2])⟩ | exact hQ _ _ ⟨M3, rfl, hS3, ri (by rw [w0, if_neg c1, if_neg c2, if_pos ((Bool.not_eq_false _).mp c3)])⟩ | exact hQ _ _ ⟨M3, rfl, hS3, ri (by rw [w0, if_neg c1, if_neg c2, if_neg (by rw [c3]; exact Bool.noConfusion), if_pos c4])⟩ | exact hQ _ _ ⟨M3, rfl, hS3, ri (by rw [w0, if_neg c1, if_neg c2, if_neg (by rw [c3]; exact Bool.noConfusion), if_neg c4])⟩
          · first | exact hQ _ _ ⟨M1, rfl, hS1, ri (by rw [w0, if_pos c1])⟩ | exact hQ _ _ ⟨M2, rfl, hS2, ri (by rw [w0, if_neg c1, if_pos c2])⟩ | exact hQ _ _ ⟨M3, rfl, hS3, ri (by rw [w0, if_neg c1, if_neg c2, if_pos ((Bool.not_eq_false _).mp c3)])⟩ | exact hQ _ _ ⟨M3, rfl, hS3, ri (by rw [w0, if_neg c1, if_neg c2, if_neg (by rw [c3]; exact Bool.noConfusion), if_pos c4])⟩ | exact hQ _ _ ⟨M3, rfl, hS3, ri (by rw [w0, if_neg c1, if_neg c2, if_neg (by rw [c3]; exact Bool.noConfusion), if_neg c4])⟩
    have at68 : ∀ (M : qC), pj M = S → ¬ ((mkN S f).testBit j1 || (mkN S f).testBit j2) = true → AW (mX11_why, 4, 0, 0, none, Q) 68 [some (.ref 136), some (.int (nI j1)), some (.int (nI j2)), some (.int key), some (.int (nI f)), some (.int (nI (mkN S f)))] [] (wd C M r) 0 0 := by
      intro M hS hb
      have w1 := w0
      rw [if_neg hb] at w1
      have no : ¬ kyOk S key → Q (some (.int 4)) (wd C M r) := fun hk => hQ _ _ ⟨M, rfl, hS, ri (by rw [w1, if_pos (dcf hk)])⟩
      refine oX11_why_68 _ _ _ _ _ _ ?_
      simp only [bX11_why_68, qsem, qopt_s, qopt2_s, qev, qxs, Nat.reduceEqDiff, reduceIte, and_true, true_and, and_false, false_and, and_self, or_true, true_or, qb_or, reduceCtorEq, qbr_True, qbr_False, q10, q01, qwM, pjx hS, qb_0]
      refine kX11_why_69 (zX11_isKey) (Nat.le_of_ble_eq_true rfl) (Nat.le_of_ble_eq_true rfl) ⟨Nat.le_of_ble_eq_true rfl, Nat.le_of_ble_eq_true rfl⟩ ?_
      rintro _ _ ⟨rfl, rfl⟩
      refine oX11_why_72 _ _ _ _ _ _ ?_
      simp only [bX11_why_72, qsem, qopt_s, qopt2_s, qev, qxs, Nat.reduceEqDiff, reduceIte, and_true, true_and, and_false, false_and, and_self, or_true, true_or, qb_or, reduceCtorEq, qbr_True, qbr_False, q10, q01, qwM, pjx hS, qb_0]
      refine qbr_i (fun c1 => ?_) (fun c1 => ?_)
      · refine oX11_why_103 _ _ _ _ _ _ ?_
        simp only [bX11_why_103, qsem, qopt_s, qopt2_s, qev, qxs, Nat.reduceEqDiff, reduceIte, and_true, true_and, and_false, false_and, and_self, or_true, true_or, qb_or, reduceCtorEq, qbr_True, qbr_False, q10, q01, qwM, pjx hS, qb_0]
        exact no (fun q => by obtain ⟨q1, q2, q3, q4⟩ := q; first | exact absurd (c1.symm.trans q1) Bool.false_ne_true | exact q2 c2 | exact c3 q3 | exact c4 q4)
      · refine ⟨by obtain ⟨j, hj, rfl⟩ := isKy_of ((Bool.not_eq_false _).mp c1); exact nI_vp (by omega) (by omega), ?_⟩
        refine qbr_i (fun c2 => ?_) (fun c2 => ?_)
        · refine oX11_why_103 _ _ _ _ _ _ ?_
          simp only [bX11_why_103, qsem, qopt_s, qopt2_s, qev, qxs, Nat.reduceEqDiff, reduceIte, and_true, true_and, and_false, false_and, and_self, or_true, true_or, qb_or, reduceCtorEq, qbr_True, qbr_False, q10, q01, qwM, pjx hS, qb_0]
          exact no (fun q => by obtain ⟨q1, q2, q3, q4⟩ := q; first | exact absurd (c1.symm.trans q1) Bool.false_ne_true | exact q2 c2 | exact c3 q3 | exact c4 q4)
        · refine ⟨by obtain ⟨j, hj, rfl⟩ := isKy_of ((Bool.not_eq_false _).mp c1); exact nI_vp (by omega) (by omega), ?_⟩
          refine qbr_i (fun c3 => ?_) (fun c3 => ?_)
          · refine ⟨by obtain ⟨j, hj, rfl⟩ := isKy_of ((Bool.not_eq_false _).mp c1); exact nI_vp (by omega) (by omega), ?_⟩
            refine qbr_i (fun c4 => ?_) (fun c4 => ?_)
            · exact at105 ⟨(Bool.not_eq_false _).mp c1, c2, c3, c4⟩ M hS hb
            · refine oX11_why_103 _ _ _ _ _ _ ?_
              simp only [bX11_why_103, qsem, qopt_s, qopt2_s, qev, qxs, Nat.reduceEqDiff, reduceIte, and_true, true_and, and_false, false_and, and_self, or_true, true_or, qb_or, reduceCtorEq, qbr_True, qbr_False, q10, q01, qwM, pjx hS, qb_0]
              exact no (fun q => by obtain ⟨q1, q2, q3, q4⟩ := q; first | exact absurd (c1.symm.trans q1) Bool.false_ne_true | exact q2 c2 | exact c3 q3 | exact c4 q4)
          · refine oX11_why_103 _ _ _ _ _ _ ?_
            simp only [bX11_why_103, qsem, qopt_s, qopt2_s, qev, qxs, Nat.reduceEqDiff, reduceIte, and_true, true_and, and_false, false_and, and_self, or_true, true_or, qb_or, reduceCtorEq, qbr_True, qbr_False, q10, q01, qwM, pjx hS, qb_0]
            exact no (fun q => by obtain ⟨q1, q2, q3, q4⟩ := q; first | exact absurd (c1.symm.trans q1) Bool.false_ne_true | exact q2 c2 | exact c3 q3 | exact c4 q4)
    refine oX11_why_0 _ _ _ _ _ _ ?_
    simp only [bX11_why_0, qsem, qopt_s, qopt2_s, qev, qxs, Nat.reduceEqDiff, reduceIte, and_true, true_and, and_false, false_and, and_self, or_true, true_or, qb_or, reduceCtorEq, qbr_True, qbr_False, q10, q01, qwM, pjx hS, h1.1.2.2.2.2.1, e0, ho, ht, qb_t, eq0, cl0]
    refine qbr_f (hz) ?_
    refine oX11_why_9 _ _ _ _ _ _ ?_
    simp only [bX11_why_9, qsem, qopt_s, qopt2_s, qev, qxs, Nat.reduceEqDiff, reduceIte, and_true, true_and, and_false, false_and, and_self, or_true, true_or, qb_or, reduceCtorEq, qbr_True, qbr_False, q10, q01, qwM, pjx hS, h1.1.2.2.2.2.1, e0, ho, ht, qb_t, eq0, cl0]
    refine kX11_why_10 (zX11_isHand) (Nat.le_of_ble_eq_true rfl) (Nat.le_of_ble_eq_true rfl) ⟨Nat.le_of_ble_eq_true rfl, Nat.le_of_ble_eq_true rfl⟩ ?_
    rintro _ _ ⟨rfl, rfl⟩
    refine oX11_why_13 _ _ _ _ _ _ ?_
    simp only [bX11_why_13, qsem, qopt_s, qopt2_s, qev, qxs, Nat.reduceEqDiff, reduceIte, and_true, true_and, and_false, false_and, and_self, or_true, true_or, qb_or, reduceCtorEq, qbr_True, qbr_False, q10, q01, qwM, pjx hS, h1.1.2.2.2.2.1, e0, ho, ht, qb_t, eq0, cl0]
    refine kX11_why_17 (zX11_isHand) (Nat.le_of_ble_eq_true rfl) (Nat.le_of_ble_eq_true rfl) ⟨Nat.le_of_ble_eq_true rfl, Nat.le_of_ble_eq_true rfl⟩ ?_
    rintro _ _ ⟨rfl, rfl⟩
    refine oX11_why_20 _ _ _ _ _ _ ?_
    simp only [bX11_why_20, qsem, qopt_s, qopt2_s, qev, qxs, Nat.reduceEqDiff, reduceIte, and_true, true_and, and_false, false_and, and_self, or_true, true_or, qb_or, reduceCtorEq, qbr_True, qbr_False, q10, q01, qwM, pjx hS, h1.1.2.2.2.2.1, e0, ho, ht, qb_t, eq0, cl0]
    refine qbr_f (hne) ?_
    refine oX11_why_30 _ _ _ _ _ _ ?_
    simp only [bX11_why_30, qsem, qopt_s, qopt2_s, qev, qxs, Nat.reduceEqDiff, reduceIte, and_true, true_and, and_false, false_and, and_self, or_true, true_or, qb_or, reduceCtorEq, qbr_True, qbr_False, q10, q01, qwM, pjx hS, h1.1.2.2.2.2.1, e0, ho, ht, qb_t, eq0, cl0]
    refine ⟨nI_vp (i := 0) (by omega) (by omega), ?_⟩
    refine kX11_why_41 (zX11_makersOf hS h1 h2 lq0) rfl (Nat.le_of_ble_eq_true rfl) (Nat.le_of_ble_eq_true rfl) ⟨Nat.le_of_ble_eq_true rfl, Nat.le_of_ble_eq_true rfl⟩ ?_
    rintro _ _ ⟨M1, m1, rfl, hS1, hm1, rfl⟩
    rw [mkP_eq h2 hm1]
    refine oX11_why_44 _ _ _ _ _ _ ?_
    simp only [bX11_why_44, qsem, qopt_s, qopt2_s, qev, qxs, Nat.reduceEqDiff, reduceIte, and_true, true_and, and_false, false_and, and_self, or_true, true_or, qb_or, reduceCtorEq, qbr_True, qbr_False, q10, q01, qwM, pjx hS, h1.1.2.2.2.2.1, e0, ho, ht, qb_t, eq0, cl0, b1, b2]
    refine qbr_i (fun c1 => ?_) (fun c1 => ?_)
    · refine oX11_why_66 _ _ _ _ _ _ ?_
      simp only [bX11_why_66, qsem, qopt_s, qopt2_s, qev, qxs, Nat.reduceEqDiff, reduceIte, and_true, true_and, and_false, false_and, and_self, or_true, true_or, qb_or, reduceCtorEq, qbr_True, qbr_False, q10, q01, qwM, pjx hS, h1.1.2.2.2.2.1, e0, ho, ht, qb_t, eq0, cl0]
      first | exact hQ _ _ ⟨M1, rfl, hS1, ri (by rw [w0, if_pos (by rw [c1]; rfl)])⟩ | exact hQ _ _ ⟨M1, rfl, hS1, ri (by rw [w0, if_pos (by rw [c2, Bool.or_true])])⟩
    · refine qbr_i (fun c2 => ?_) (fun c2 => ?_)
      · refine oX11_why_66 _ _ _ _ _ _ ?_
        simp only [bX11_why_66, qsem, qopt_s, qopt2_s, qev, qxs, Nat.reduceEqDiff, reduceIte, and_true, true_and, and_false, false_and, and_self, or_true, true_or, qb_or, reduceCtorEq, qbr_True, qbr_False, q10, q01, qwM, pjx hS, h1.1.2.2.2.2.1, e0, ho, ht, qb_t, eq0, cl0]
        first | exact hQ _ _ ⟨M1, rfl, hS1, ri (by rw [w0, if_pos (by rw [c1]; rfl)])⟩ | exact hQ _ _ ⟨M1, rfl, hS1, ri (by rw [w0, if_pos (by rw [c2, Bool.or_true])])⟩
      · exact at68 M1 hS1 (by rw [(Bool.not_eq_true _).mp c1, (Bool.not_eq_true _).mp c2]; exact Bool.noConfusion)
  · rw [if_pos (dcf hh)] at w0
    refine oX11_why_0 _ _ _ _ _ _ ?_
    simp only [bX11_why_0, qsem, qopt_s, qopt2_s, qev, qxs, Nat.reduceEqDiff, reduceIte, and_true, true_and, and_false, false_and, and_self, or_true, true_or, qb_or, reduceCtorEq, qbr_True, qbr_False, q10, q01, qwM, pjx hS, h1.1.2.2.2.2.1, e0, qb_0]
    refine qbr_f (hz) ?_
    refine oX11_why_9 _ _ _ _ _ _ ?_
    simp only [bX11_why_9, qsem, qopt_s, qopt2_s, qev, qxs, Nat.reduceEqDiff, reduceIte, and_true, true_and, and_false, false_and, and_self, or_true, true_or, qb_or, reduceCtorEq, qbr_True, qbr_False, q10, q01, qwM, pjx hS, h1.1.2.2.2.2.1, e0, qb_0]
    refine kX11_why_10 (zX11_isHand) (Nat.le_of_ble_eq_true rfl) (Nat.le_of_ble_eq_true rfl) ⟨Nat.le_of_ble_eq_true rfl, Nat.le_of_ble_eq_true rfl⟩ ?_
    rintro _ _ ⟨rfl, rfl⟩
    refine oX11_why_13 _ _ _ _ _ _ ?_
    simp only [bX11_why_13, qsem, qopt_s, qopt2_s, qev, qxs, Nat.reduceEqDiff, reduceIte, and_true, true_and, and_false, false_and, and_self, or_true, true_or, qb_or, reduceCtorEq, qbr_True, qbr_False, q10, q01, qwM, pjx hS, h1.1.2.2.2.2.1, e0, qb_0]
    refine qbr_i (fun c1 => ?_) (fun c1 => ?_)
    · refine oX11_why_28 _ _ _ _ _ _ ?_
      simp only [bX11_why_28, qsem, qopt_s, qopt2_s, qev, qxs, Nat.reduceEqDiff, reduceIte, and_true, true_and, and_false, false_and, and_self, or_true, true_or, qb_or, reduceCtorEq, qbr_True, qbr_False, q10, q01, qwM, pjx hS, h1.1.2.2.2.2.1, e0, qb_0]
      exact hQ _ _ ⟨M, rfl, hS, ri w0.symm⟩
    · refine kX11_why_17 (zX11_isHand) (Nat.le_of_ble_eq_true rfl) (Nat.le_of_ble_eq_true rfl) ⟨Nat.le_of_ble_eq_true rfl, Nat.le_of_ble_eq_true rfl⟩ ?_
      rintro _ _ ⟨rfl, rfl⟩
      refine oX11_why_20 _ _ _ _ _ _ ?_
      simp only [bX11_why_20, qsem, qopt_s, qopt2_s, qev, qxs, Nat.reduceEqDiff, reduceIte, and_true, true_and, and_false, false_and, and_self, or_true, true_or, qb_or, reduceCtorEq, qbr_True, qbr_False, q10, q01, qwM, pjx hS, h1.1.2.2.2.2.1, e0, qb_0]
      refine qbr_i (fun c2 => ?_) (fun c2 => ?_)
      · refine oX11_why_28 _ _ _ _ _ _ ?_
        simp only [bX11_why_28, qsem, qopt_s, qopt2_s, qev, qxs, Nat.reduceEqDiff, reduceIte, and_true, true_and, and_false, false_and, and_self, or_true, true_or, qb_or, reduceCtorEq, qbr_True, qbr_False, q10, q01, qwM, pjx hS, h1.1.2.2.2.2.1, e0, qb_0]
        exact hQ _ _ ⟨M, rfl, hS, ri w0.symm⟩
      · refine qbr_i (fun c3 => ?_) (fun c3 => ?_)
        · refine oX11_why_28 _ _ _ _ _ _ ?_
          simp only [bX11_why_28, qsem, qopt_s, qopt2_s, qev, qxs, Nat.reduceEqDiff, reduceIte, and_true, true_and, and_false, false_and, and_self, or_true, true_or, qb_or, reduceCtorEq, qbr_True, qbr_False, q10, q01, qwM, pjx hS, h1.1.2.2.2.2.1, e0, qb_0]
          exact hQ _ _ ⟨M, rfl, hS, ri w0.symm⟩
        · exact absurd ⟨(Bool.not_eq_false _).mp c1, (Bool.not_eq_false _).mp c2, c3⟩ hh


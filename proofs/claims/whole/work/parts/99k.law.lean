theorem nth_cg {β γ : Nat → Bool} {F : Nat} {i : Int32} (h : ∀ f, f < F → β f = γ f) : ∀ k s, k ≤ F → nthF β F i k s = nthF γ F i k s
  | 0, _, _ => rfl
  | k + 1, s, hk => by
    unfold nthF
    rw [h (F - (k + 1)) (by omega), nth_cg h k (s + 1) (by omega), nth_cg h k s (by omega)]
theorem sl_b {S : qS} {b b' : Bool} {s : Nat} {what : Int32} (h : ¬ what = 6) : sel8 what (slV S b s) = sel8 what (slV S b' s) := by
  unfold sel8
  simp only [h, if_false]
  rfl
/-- what holds at the law's loop -/
def lwI (C M : qC) (S : qS) (r : Nat × Nat × Nat) (H : Nat → Nat → Nat → Bool) : Prop := Inv C S r H ∧ WS S H ∧ pj M = S ∧ wZ r
theorem ruG_e {S : qS} {ss : List Nat} {φ : Nat → Nat → Nat → Bool} (h : ruG S ss φ) : ∃ B, RN (S.2.1 160) (0, 0, 0, 0, []) 0 B (cT S) ∧ endd B ∧ B.2.2.2.2 = ss ∧ ST 0 ss φ := by
  obtain ⟨st, lt, sg, hr, hs, ht⟩ := h
  exact ⟨_, hr, ⟨rfl, hs⟩, rfl, ht⟩
set_option maxRecDepth 100000 in
set_option maxHeartbeats 4000000 in
theorem lw_source {C M : qC} {S : qS} {r : Nat × Nat × Nat} {H : Nat → Nat → Nat → Bool} {Len i kc ks : Nat} {xs : Nat → Int32} (hI : lwI C M S r H) (hi : i + 8 ≤ Len) (hL : Len ≤ 4096) (hkc : kc ≤ 300 + i) (hks : ks ≤ 60000 + 128 * i) (nx : ∀ (C' M' : qC) (S' : qS) (r' : Nat × Nat × Nat) (H' : Nat → Nat → Nat → Bool) (kc' ks' : Nat), lwI C' M' S' r' H' → kc' ≤ kc + 4 → ks' ≤ ks + 1021 → AW (mL_law, 40, 600000, 7302250, some (Len, xs), fun r _ => r = some (.int 1)) 1142 [some (.retAddr 0), some (.ref 0), some (.ref 136), some (.int (nI i))] [] (wd C' M' r') kc' ks') : AW (mL_law, 40, 600000, 7302250, some (Len, xs), fun r _ => r = some (.int 1)) 160 [some (.retAddr 0), some (.ref 0), some (.ref 136), some (.int (nI i))] [] (wd C M r) kc ks := by
  obtain ⟨hIn, hW, hS, hz⟩ := hI
  obtain ⟨h1, h2, h3, h4, h5, h6, h7, h8, h9, h10, h11⟩ := id hW
  have hr := hz.1
  have e1 : nI i + 1 = nI (i + 1) := nadd i 1
  have e2 : nI i + 2 = nI (i + 2) := nadd i 2
  have e3 : nI i + 3 = nI (i + 3) := nadd i 3
  have e4 : nI i + 4 = nI (i + 4) := nadd i 4
  have e5 : nI i + 5 = nI (i + 5) := nadd i 5
  have e6 : nI i + 6 = nI (i + 6) := nadd i 6
  have e7 : nI i + 7 = nI (i + 7) := nadd i 7
  have hcl : ∀ k, k < 8 → (nI (i + k)).toNatClampNeg = i + k := fun k hk => nI_clamp (by omega)
  refine oL_law_160 _ _ _ _ _ _ ?_
  simp only [bL_law_160, qsem, qopt_s, qopt2_s, qev, qxs, Nat.reduceEqDiff, reduceIte, and_true, true_and, and_false, false_and, and_self, or_true, true_or, qb_or, reduceCtorEq, qbr_True, qbr_False, q10, q01, e1, e2, e3, e4, e5, e6, e7, hcl 1 (by omega), hcl 2 (by omega), hcl 3 (by omega), hcl 4 (by omega), hcl 5 (by omega), hcl 6 (by omega), hcl 7 (by omega)]
  refine ⟨nI_vp (by omega) (by omega), ?_⟩
  refine ⟨nI_vp (by omega) (by omega), ?_⟩
  refine ⟨nI_vp (by omega) (by omega), ?_⟩
  refine kL_law_186 (zX10_source hr hW hIn) (rfl) (Nat.le_of_ble_eq_true rfl) (Nat.le_of_ble_eq_true rfl) (⟨by show kc + 0 ≤ 600000; omega, by show ks + 0 ≤ 7302250; omega⟩) ?_
  rintro _ _ ⟨C1, rfl, ⟨hno, rfl, hI1⟩ | ⟨hok, rfl, hI1, hW1⟩⟩
  skip
  · refine oL_law_189 _ _ _ _ _ _ ?_
    simp only [bL_law_189, qsem, qopt_s, qopt2_s, qev, qxs, Nat.reduceEqDiff, reduceIte, and_true, true_and, and_false, false_and, and_self, or_true, true_or, qb_or, reduceCtorEq, qbr_True, qbr_False, q10, q01, e1, e2, e3, e4, e5, e6, e7, hcl 1 (by omega), hcl 2 (by omega), hcl 3 (by omega), hcl 4 (by omega), hcl 5 (by omega), hcl 6 (by omega), hcl 7 (by omega)]
    refine ⟨nI_vp (by omega) (by omega), ?_⟩
    refine ⟨nI_vp (by omega) (by omega), ?_⟩
    refine ⟨nI_vp (by omega) (by omega), ?_⟩
    refine kL_law_215 (zX11_source hS h1) (rfl) (Nat.le_of_ble_eq_true rfl) (Nat.le_of_ble_eq_true rfl) (⟨by show kc + 0 + 0 ≤ 600000; omega, by show ks + 0 + 0 ≤ 7302250; omega⟩) ?_
    rintro _ _ ⟨M1, rfl, ⟨hno2, rfl, hS1⟩ | ⟨hok2, rfl, hS1⟩⟩
    skip
    · refine oL_law_218 _ _ _ _ _ _ ?_
      simp only [bL_law_218, qsem, qopt_s, qopt2_s, qev, qxs, Nat.reduceEqDiff, reduceIte, and_true, true_and, and_false, false_and, and_self, or_true, true_or, qb_or, reduceCtorEq, qbr_True, qbr_False, q10, q01, Option.toList_some, List.cons_append, List.nil_append]
      exact nx C1 M1 _ r H _ _ ⟨hI1, hW, hS1, hz⟩ (by omega) (by omega)
    · exact absurd hok2 hno
  · refine oL_law_189 _ _ _ _ _ _ ?_
    simp only [bL_law_189, qsem, qopt_s, qopt2_s, qev, qxs, Nat.reduceEqDiff, reduceIte, and_true, true_and, and_false, false_and, and_self, or_true, true_or, qb_or, reduceCtorEq, qbr_True, qbr_False, q10, q01, e1, e2, e3, e4, e5, e6, e7, hcl 1 (by omega), hcl 2 (by omega), hcl 3 (by omega), hcl 4 (by omega), hcl 5 (by omega), hcl 6 (by omega), hcl 7 (by omega)]
    refine ⟨nI_vp (by omega) (by omega), ?_⟩
    refine ⟨nI_vp (by omega) (by omega), ?_⟩
    refine ⟨nI_vp (by omega) (by omega), ?_⟩
    refine kL_law_215 (zX11_source hS h1) (rfl) (Nat.le_of_ble_eq_true rfl) (Nat.le_of_ble_eq_true rfl) (⟨by show kc + 0 + 0 ≤ 600000; omega, by show ks + 0 + 0 ≤ 7302250; omega⟩) ?_
    rintro _ _ ⟨M1, rfl, ⟨hno2, rfl, hS1⟩ | ⟨hok2, rfl, hS1⟩⟩
    skip
    · exact absurd hok hno2
    · refine oL_law_218 _ _ _ _ _ _ ?_
      simp only [bL_law_218, qsem, qopt_s, qopt2_s, qev, qxs, Nat.reduceEqDiff, reduceIte, and_true, true_and, and_false, false_and, and_self, or_true, true_or, qb_or, reduceCtorEq, qbr_True, qbr_False, q10, q01, Option.toList_some, List.cons_append, List.nil_append]
      exact nx C1 M1 _ r H _ _ ⟨hI1, hW1, hS1, hz⟩ (by omega) (by omega)
set_option maxRecDepth 100000 in
set_option maxHeartbeats 4000000 in
theorem lw_build {C M : qC} {S : qS} {r : Nat × Nat × Nat} {H : Nat → Nat → Nat → Bool} {Len i kc ks : Nat} {xs : Nat → Int32} (hI : lwI C M S r H) (hi : i + 8 ≤ Len) (hL : Len ≤ 4096) (hkc : kc ≤ 300 + i) (hks : ks ≤ 60000 + 128 * i) (nx : ∀ (C' M' : qC) (S' : qS) (r' : Nat × Nat × Nat) (H' : Nat → Nat → Nat → Bool) (kc' ks' : Nat), lwI C' M' S' r' H' → kc' ≤ kc + 4 → ks' ≤ ks + 1021 → AW (mL_law, 40, 600000, 7302250, some (Len, xs), fun r _ => r = some (.int 1)) 1142 [some (.retAddr 0), some (.ref 0), some (.ref 136), some (.int (nI i))] [] (wd C' M' r') kc' ks') : AW (mL_law, 40, 600000, 7302250, some (Len, xs), fun r _ => r = some (.int 1)) 223 [some (.retAddr 0), some (.ref 0), some (.ref 136), some (.int (nI i))] [] (wd C M r) kc ks := by
  obtain ⟨hIn, hW, hS, hz⟩ := hI
  obtain ⟨h1, h2, h3, h4, h5, h6, h7, h8, h9, h10, h11⟩ := id hW
  have hr := hz.1
  have e1 : nI i + 1 = nI (i + 1) := nadd i 1
  have e2 : nI i + 2 = nI (i + 2) := nadd i 2
  have e3 : nI i + 3 = nI (i + 3) := nadd i 3
  have e4 : nI i + 4 = nI (i + 4) := nadd i 4
  have e5 : nI i + 5 = nI (i + 5) := nadd i 5
  have e6 : nI i + 6 = nI (i + 6) := nadd i 6
  have e7 : nI i + 7 = nI (i + 7) := nadd i 7
  have hcl : ∀ k, k < 8 → (nI (i + k)).toNatClampNeg = i + k := fun k hk => nI_clamp (by omega)
  refine oL_law_223 _ _ _ _ _ _ ?_
  simp only [bL_law_223, qsem, qopt_s, qopt2_s, qev, qxs, Nat.reduceEqDiff, reduceIte, and_true, true_and, and_false, false_and, and_self, or_true, true_or, qb_or, reduceCtorEq, qbr_True, qbr_False, q10, q01, e1, e2, e3, e4, e5, e6, e7, hcl 1 (by omega), hcl 2 (by omega), hcl 3 (by omega), hcl 4 (by omega), hcl 5 (by omega), hcl 6 (by omega), hcl 7 (by omega)]
  refine ⟨nI_vp (by omega) (by omega), ?_⟩
  refine ⟨nI_vp (by omega) (by omega), ?_⟩
  refine ⟨nI_vp (by omega) (by omega), ?_⟩
  refine ⟨nI_vp (by omega) (by omega), ?_⟩
  refine ⟨nI_vp (by omega) (by omega), ?_⟩
  refine ⟨nI_vp (by omega) (by omega), ?_⟩
  refine ⟨nI_vp (by omega) (by omega), ?_⟩
  refine kL_law_271 (zX10_build hr hW hIn) (rfl) (Nat.le_of_ble_eq_true rfl) (Nat.le_of_ble_eq_true rfl) (⟨by show kc + 0 ≤ 600000; omega, by show ks + 0 ≤ 7302250; omega⟩) ?_
  rintro _ _ ⟨C1, rfl, ⟨hno, rfl, hI1⟩ | ⟨hok, rfl, hI1, hW1⟩⟩
  skip
  · refine oL_law_274 _ _ _ _ _ _ ?_
    simp only [bL_law_274, qsem, qopt_s, qopt2_s, qev, qxs, Nat.reduceEqDiff, reduceIte, and_true, true_and, and_false, false_and, and_self, or_true, true_or, qb_or, reduceCtorEq, qbr_True, qbr_False, q10, q01, e1, e2, e3, e4, e5, e6, e7, hcl 1 (by omega), hcl 2 (by omega), hcl 3 (by omega), hcl 4 (by omega), hcl 5 (by omega), hcl 6 (by omega), hcl 7 (by omega)]
    refine ⟨nI_vp (by omega) (by omega), ?_⟩
    refine ⟨nI_vp (by omega) (by omega), ?_⟩
    refine ⟨nI_vp (by omega) (by omega), ?_⟩
    refine ⟨nI_vp (by omega) (by omega), ?_⟩
    refine ⟨nI_vp (by omega) (by omega), ?_⟩
    refine ⟨nI_vp (by omega) (by omega), ?_⟩
    refine ⟨nI_vp (by omega) (by omega), ?_⟩
    refine kL_law_322 (zX11_build hS h1 h2) (rfl) (Nat.le_of_ble_eq_true rfl) (Nat.le_of_ble_eq_true rfl) (⟨by show kc + 0 + 0 ≤ 600000; omega, by show ks + 0 + 0 ≤ 7302250; omega⟩) ?_
    rintro _ _ ⟨M1, rfl, ⟨hno2, rfl, hS1⟩ | ⟨hok2, rfl, hS1⟩⟩
    skip
    · refine oL_law_325 _ _ _ _ _ _ ?_
      simp only [bL_law_325, qsem, qopt_s, qopt2_s, qev, qxs, Nat.reduceEqDiff, reduceIte, and_true, true_and, and_false, false_and, and_self, or_true, true_or, qb_or, reduceCtorEq, qbr_True, qbr_False, q10, q01, Option.toList_some, List.cons_append, List.nil_append]
      exact nx C1 M1 _ r H _ _ ⟨hI1, hW, hS1, hz⟩ (by omega) (by omega)
    · exact absurd hok2 hno
  · refine oL_law_274 _ _ _ _ _ _ ?_
    simp only [bL_law_274, qsem, qopt_s, qopt2_s, qev, qxs, Nat.reduceEqDiff, reduceIte, and_true, true_and, and_false, false_and, and_self, or_true, true_or, qb_or, reduceCtorEq, qbr_True, qbr_False, q10, q01, e1, e2, e3, e4, e5, e6, e7, hcl 1 (by omega), hcl 2 (by omega), hcl 3 (by omega), hcl 4 (by omega), hcl 5 (by omega), hcl 6 (by omega), hcl 7 (by omega)]
    refine ⟨nI_vp (by omega) (by omega), ?_⟩
    refine ⟨nI_vp (by omega) (by omega), ?_⟩
    refine ⟨nI_vp (by omega) (by omega), ?_⟩
    refine ⟨nI_vp (by omega) (by omega), ?_⟩
    refine ⟨nI_vp (by omega) (by omega), ?_⟩
    refine ⟨nI_vp (by omega) (by omega), ?_⟩
    refine ⟨nI_vp (by omega) (by omega), ?_⟩
    refine kL_law_322 (zX11_build hS h1 h2) (rfl) (Nat.le_of_ble_eq_true rfl) (Nat.le_of_ble_eq_true rfl) (⟨by show kc + 0 + 0 ≤ 600000; omega, by show ks + 0 + 0 ≤ 7302250; omega⟩) ?_
    rintro _ _ ⟨M1, rfl, ⟨hno2, rfl, hS1⟩ | ⟨hok2, rfl, hS1⟩⟩
    skip
    · exact absurd hok hno2
    · refine oL_law_325 _ _ _ _ _ _ ?_
      simp only [bL_law_325, qsem, qopt_s, qopt2_s, qev, qxs, Nat.reduceEqDiff, reduceIte, and_true, true_and, and_false, false_and, and_self, or_true, true_or, qb_or, reduceCtorEq, qbr_True, qbr_False, q10, q01, Option.toList_some, List.cons_append, List.nil_append]
      exact nx C1 M1 _ r H _ _ ⟨hI1, hW1, hS1, hz⟩ (by omega) (by omega)
set_option maxRecDepth 100000 in
set_option maxHeartbeats 4000000 in
theorem lw_feed {C M : qC} {S : qS} {r : Nat × Nat × Nat} {H : Nat → Nat → Nat → Bool} {Len i kc ks : Nat} {xs : Nat → Int32} (hI : lwI C M S r H) (hi : i + 8 ≤ Len) (hL : Len ≤ 4096) (hkc : kc ≤ 300 + i) (hks : ks ≤ 60000 + 128 * i) (nx : ∀ (C' M' : qC) (S' : qS) (r' : Nat × Nat × Nat) (H' : Nat → Nat → Nat → Bool) (kc' ks' : Nat), lwI C' M' S' r' H' → kc' ≤ kc + 4 → ks' ≤ ks + 1021 → AW (mL_law, 40, 600000, 7302250, some (Len, xs), fun r _ => r = some (.int 1)) 1142 [some (.retAddr 0), some (.ref 0), some (.ref 136), some (.int (nI i))] [] (wd C' M' r') kc' ks') : AW (mL_law, 40, 600000, 7302250, some (Len, xs), fun r _ => r = some (.int 1)) 502 [some (.retAddr 0), some (.ref 0), some (.ref 136), some (.int (nI i))] [] (wd C M r) kc ks := by
  obtain ⟨hIn, hW, hS, hz⟩ := hI
  obtain ⟨h1, h2, h3, h4, h5, h6, h7, h8, h9, h10, h11⟩ := id hW
  have hr := hz.1
  have e1 : nI i + 1 = nI (i + 1) := nadd i 1
  have e2 : nI i + 2 = nI (i + 2) := nadd i 2
  have e3 : nI i + 3 = nI (i + 3) := nadd i 3
  have e4 : nI i + 4 = nI (i + 4) := nadd i 4
  have e5 : nI i + 5 = nI (i + 5) := nadd i 5
  have e6 : nI i + 6 = nI (i + 6) := nadd i 6
  have e7 : nI i + 7 = nI (i + 7) := nadd i 7
  have hcl : ∀ k, k < 8 → (nI (i + k)).toNatClampNeg = i + k := fun k hk => nI_clamp (by omega)
  refine oL_law_502 _ _ _ _ _ _ ?_
  simp only [bL_law_502, qsem, qopt_s, qopt2_s, qev, qxs, Nat.reduceEqDiff, reduceIte, and_true, true_and, and_false, false_and, and_self, or_true, true_or, qb_or, reduceCtorEq, qbr_True, qbr_False, q10, q01, e1, e2, e3, e4, e5, e6, e7, hcl 1 (by omega), hcl 2 (by omega), hcl 3 (by omega), hcl 4 (by omega), hcl 5 (by omega), hcl 6 (by omega), hcl 7 (by omega)]
  refine ⟨nI_vp (by omega) (by omega), ?_⟩
  refine kL_law_508 (zX10_feed hr hW hIn) (rfl) (Nat.le_of_ble_eq_true rfl) (Nat.le_of_ble_eq_true rfl) (⟨by show kc + 0 ≤ 600000; omega, by show ks + 0 ≤ 7302250; omega⟩) ?_
  rintro _ _ ⟨C1, rfl, ⟨hno, rfl, hI1⟩ | ⟨hok, rfl, hI1, hW1⟩⟩
  skip
  · refine oL_law_511 _ _ _ _ _ _ ?_
    simp only [bL_law_511, qsem, qopt_s, qopt2_s, qev, qxs, Nat.reduceEqDiff, reduceIte, and_true, true_and, and_false, false_and, and_self, or_true, true_or, qb_or, reduceCtorEq, qbr_True, qbr_False, q10, q01, e1, e2, e3, e4, e5, e6, e7, hcl 1 (by omega), hcl 2 (by omega), hcl 3 (by omega), hcl 4 (by omega), hcl 5 (by omega), hcl 6 (by omega), hcl 7 (by omega)]
    refine ⟨nI_vp (by omega) (by omega), ?_⟩
    refine kL_law_517 (zX11_feed hS h1) (rfl) (Nat.le_of_ble_eq_true rfl) (Nat.le_of_ble_eq_true rfl) (⟨by show kc + 0 + 0 ≤ 600000; omega, by show ks + 0 + 0 ≤ 7302250; omega⟩) ?_
    rintro _ _ ⟨M1, rfl, ⟨hno2, rfl, hS1⟩ | ⟨hok2, rfl, hS1⟩⟩
    skip
    · refine oL_law_520 _ _ _ _ _ _ ?_
      simp only [bL_law_520, qsem, qopt_s, qopt2_s, qev, qxs, Nat.reduceEqDiff, reduceIte, and_true, true_and, and_false, false_and, and_self, or_true, true_or, qb_or, reduceCtorEq, qbr_True, qbr_False, q10, q01, Option.toList_some, List.cons_append, List.nil_append]
      exact nx C1 M1 _ r H _ _ ⟨hI1, hW, hS1, hz⟩ (by omega) (by omega)
    · exact absurd hok2 (by omega)
  · refine oL_law_511 _ _ _ _ _ _ ?_
    simp only [bL_law_511, qsem, qopt_s, qopt2_s, qev, qxs, Nat.reduceEqDiff, reduceIte, and_true, true_and, and_false, false_and, and_self, or_true, true_or, qb_or, reduceCtorEq, qbr_True, qbr_False, q10, q01, e1, e2, e3, e4, e5, e6, e7, hcl 1 (by omega), hcl 2 (by omega), hcl 3 (by omega), hcl 4 (by omega), hcl 5 (by omega), hcl 6 (by omega), hcl 7 (by omega)]
    refine ⟨nI_vp (by omega) (by omega), ?_⟩
    refine kL_law_517 (zX11_feed hS h1) (rfl) (Nat.le_of_ble_eq_true rfl) (Nat.le_of_ble_eq_true rfl) (⟨by show kc + 0 + 0 ≤ 600000; omega, by show ks + 0 + 0 ≤ 7302250; omega⟩) ?_
    rintro _ _ ⟨M1, rfl, ⟨hno2, rfl, hS1⟩ | ⟨hok2, rfl, hS1⟩⟩
    skip
    · exact absurd hno2 (by omega)
    · refine oL_law_520 _ _ _ _ _ _ ?_
      simp only [bL_law_520, qsem, qopt_s, qopt2_s, qev, qxs, Nat.reduceEqDiff, reduceIte, and_true, true_and, and_false, false_and, and_self, or_true, true_or, qb_or, reduceCtorEq, qbr_True, qbr_False, q10, q01, Option.toList_some, List.cons_append, List.nil_append]
      exact nx C1 M1 _ r H _ _ ⟨hI1, hW1, hS1, hz⟩ (by omega) (by omega)
set_option maxRecDepth 100000 in
set_option maxHeartbeats 4000000 in
theorem lw_end {C M : qC} {S : qS} {r : Nat × Nat × Nat} {H : Nat → Nat → Nat → Bool} {Len i kc ks : Nat} {xs : Nat → Int32} (hI : lwI C M S r H) (hi : i + 8 ≤ Len) (hL : Len ≤ 4096) (hkc : kc ≤ 300 + i) (hks : ks ≤ 60000 + 128 * i) (nx : ∀ (C' M' : qC) (S' : qS) (r' : Nat × Nat × Nat) (H' : Nat → Nat → Nat → Bool) (kc' ks' : Nat), lwI C' M' S' r' H' → kc' ≤ kc + 4 → ks' ≤ ks + 1021 → AW (mL_law, 40, 600000, 7302250, some (Len, xs), fun r _ => r = some (.int 1)) 1142 [some (.retAddr 0), some (.ref 0), some (.ref 136), some (.int (nI i))] [] (wd C' M' r') kc' ks') : AW (mL_law, 40, 600000, 7302250, some (Len, xs), fun r _ => r = some (.int 1)) 525 [some (.retAddr 0), some (.ref 0), some (.ref 136), some (.int (nI i))] [] (wd C M r) kc ks := by
  obtain ⟨hIn, hW, hS, hz⟩ := hI
  obtain ⟨h1, h2, h3, h4, h5, h6, h7, h8, h9, h10, h11⟩ := id hW
  have hr := hz.1
  have e1 : nI i + 1 = nI (i + 1) := nadd i 1
  have e2 : nI i + 2 = nI (i + 2) := nadd i 2
  have e3 : nI i + 3 = nI (i + 3) := nadd i 3
  have e4 : nI i + 4 = nI (i + 4) := nadd i 4
  have e5 : nI i + 5 = nI (i + 5) := nadd i 5
  have e6 : nI i + 6 = nI (i + 6) := nadd i 6
  have e7 : nI i + 7 = nI (i + 7) := nadd i 7
  have hcl : ∀ k, k < 8 → (nI (i + k)).toNatClampNeg = i + k := fun k hk => nI_clamp (by omega)
  refine oL_law_525 _ _ _ _ _ _ ?_
  simp only [bL_law_525, qsem, qopt_s, qopt2_s, qev, qxs, Nat.reduceEqDiff, reduceIte, and_true, true_and, and_false, false_and, and_self, or_true, true_or, qb_or, reduceCtorEq, qbr_True, qbr_False, q10, q01, e1, e2, e3, e4, e5, e6, e7, hcl 1 (by omega), hcl 2 (by omega), hcl 3 (by omega), hcl 4 (by omega), hcl 5 (by omega), hcl 6 (by omega), hcl 7 (by omega)]
  refine ⟨nI_vp (by omega) (by omega), ?_⟩
  refine kL_law_531 (zX10_end hr hW hIn) (rfl) (Nat.le_of_ble_eq_true rfl) (Nat.le_of_ble_eq_true rfl) (⟨by show kc + 0 ≤ 600000; omega, by show ks + 0 ≤ 7302250; omega⟩) ?_
  rintro _ _ ⟨C1, rfl, ⟨hno, rfl, hI1⟩ | ⟨hok, rfl, hI1, hW1⟩⟩
  skip
  · refine oL_law_534 _ _ _ _ _ _ ?_
    simp only [bL_law_534, qsem, qopt_s, qopt2_s, qev, qxs, Nat.reduceEqDiff, reduceIte, and_true, true_and, and_false, false_and, and_self, or_true, true_or, qb_or, reduceCtorEq, qbr_True, qbr_False, q10, q01, e1, e2, e3, e4, e5, e6, e7, hcl 1 (by omega), hcl 2 (by omega), hcl 3 (by omega), hcl 4 (by omega), hcl 5 (by omega), hcl 6 (by omega), hcl 7 (by omega)]
    refine ⟨nI_vp (by omega) (by omega), ?_⟩
    refine kL_law_540 (zX11_end hS) (rfl) (Nat.le_of_ble_eq_true rfl) (Nat.le_of_ble_eq_true rfl) (⟨by show kc + 0 + 0 ≤ 600000; omega, by show ks + 0 + 0 ≤ 7302250; omega⟩) ?_
    rintro _ _ ⟨M1, rfl, ⟨hno2, rfl, hS1⟩ | ⟨hok2, rfl, hS1⟩⟩
    skip
    · refine oL_law_543 _ _ _ _ _ _ ?_
      simp only [bL_law_543, qsem, qopt_s, qopt2_s, qev, qxs, Nat.reduceEqDiff, reduceIte, and_true, true_and, and_false, false_and, and_self, or_true, true_or, qb_or, reduceCtorEq, qbr_True, qbr_False, q10, q01, Option.toList_some, List.cons_append, List.nil_append]
      exact nx C1 M1 _ r H _ _ ⟨hI1, hW, hS1, hz⟩ (by omega) (by omega)
    · exact absurd hok2 hno
  · refine oL_law_534 _ _ _ _ _ _ ?_
    simp only [bL_law_534, qsem, qopt_s, qopt2_s, qev, qxs, Nat.reduceEqDiff, reduceIte, and_true, true_and, and_false, false_and, and_self, or_true, true_or, qb_or, reduceCtorEq, qbr_True, qbr_False, q10, q01, e1, e2, e3, e4, e5, e6, e7, hcl 1 (by omega), hcl 2 (by omega), hcl 3 (by omega), hcl 4 (by omega), hcl 5 (by omega), hcl 6 (by omega), hcl 7 (by omega)]
    refine ⟨nI_vp (by omega) (by omega), ?_⟩
    refine kL_law_540 (zX11_end hS) (rfl) (Nat.le_of_ble_eq_true rfl) (Nat.le_of_ble_eq_true rfl) (⟨by show kc + 0 + 0 ≤ 600000; omega, by show ks + 0 + 0 ≤ 7302250; omega⟩) ?_
    rintro _ _ ⟨M1, rfl, ⟨hno2, rfl, hS1⟩ | ⟨hok2, rfl, hS1⟩⟩
    skip
    · exact absurd hok hno2
    · refine oL_law_543 _ _ _ _ _ _ ?_
      simp only [bL_law_543, qsem, qopt_s, qopt2_s, qev, qxs, Nat.reduceEqDiff, reduceIte, and_true, true_and, and_false, false_and, and_self, or_true, true_or, qb_or, reduceCtorEq, qbr_True, qbr_False, q10, q01, Option.toList_some, List.cons_append, List.nil_append]
      exact nx C1 M1 _ r H _ _ ⟨hI1, hW1, hS1, hz⟩ (by omega) (by omega)
set_option maxRecDepth 100000 in
set_option maxHeartbeats 4000000 in
theorem lw_ask {C M : qC} {S : qS} {r : Nat × Nat × Nat} {H : Nat → Nat → Nat → Bool} {Len i kc ks : Nat} {xs : Nat → Int32} (hI : lwI C M S r H) (hi : i + 8 ≤ Len) (hL : Len ≤ 4096) (hkc : kc ≤ 300 + i) (hks : ks ≤ 60000 + 128 * i) (nx : ∀ (C' M' : qC) (S' : qS) (r' : Nat × Nat × Nat) (H' : Nat → Nat → Nat → Bool) (kc' ks' : Nat), lwI C' M' S' r' H' → kc' ≤ kc + 4 → ks' ≤ ks + 1021 → AW (mL_law, 40, 600000, 7302250, some (Len, xs), fun r _ => r = some (.int 1)) 1142 [some (.retAddr 0), some (.ref 0), some (.ref 136), some (.int (nI i))] [] (wd C' M' r') kc' ks') : AW (mL_law, 40, 600000, 7302250, some (Len, xs), fun r _ => r = some (.int 1)) 574 [some (.retAddr 0), some (.ref 0), some (.ref 136), some (.int (nI i))] [] (wd C M r) kc ks := by
  obtain ⟨hIn, hW, hS, hz⟩ := hI
  obtain ⟨h1, h2, h3, h4, h5, h6, h7, h8, h9, h10, h11⟩ := id hW
  have hr := hz.1
  have e1 : nI i + 1 = nI (i + 1) := nadd i 1
  have e2 : nI i + 2 = nI (i + 2) := nadd i 2
  have e3 : nI i + 3 = nI (i + 3) := nadd i 3
  have e4 : nI i + 4 = nI (i + 4) := nadd i 4
  have e5 : nI i + 5 = nI (i + 5) := nadd i 5
  have e6 : nI i + 6 = nI (i + 6) := nadd i 6
  have e7 : nI i + 7 = nI (i + 7) := nadd i 7
  have hcl : ∀ k, k < 8 → (nI (i + k)).toNatClampNeg = i + k := fun k hk => nI_clamp (by omega)
  refine oL_law_574 _ _ _ _ _ _ ?_
  simp only [bL_law_574, qsem, qopt_s, qopt2_s, qev, qxs, Nat.reduceEqDiff, reduceIte, and_true, true_and, and_false, false_and, and_self, or_true, true_or, qb_or, reduceCtorEq, qbr_True, qbr_False, q10, q01, e1, e2, e3, e4, e5, e6, e7, hcl 1 (by omega), hcl 2 (by omega), hcl 3 (by omega), hcl 4 (by omega), hcl 5 (by omega), hcl 6 (by omega), hcl 7 (by omega)]
  refine ⟨nI_vp (by omega) (by omega), ?_⟩
  refine kL_law_580 (zX10_ask hr hW hIn) (rfl) (Nat.le_of_ble_eq_true rfl) (Nat.le_of_ble_eq_true rfl) (⟨by show kc + 0 ≤ 600000; omega, by show ks + 0 ≤ 7302250; omega⟩) ?_
  rintro _ _ ⟨C1, rfl, ⟨hno, rfl, hI1⟩ | ⟨hok, rfl, hI1, hW1⟩⟩
  skip
  · refine oL_law_583 _ _ _ _ _ _ ?_
    simp only [bL_law_583, qsem, qopt_s, qopt2_s, qev, qxs, Nat.reduceEqDiff, reduceIte, and_true, true_and, and_false, false_and, and_self, or_true, true_or, qb_or, reduceCtorEq, qbr_True, qbr_False, q10, q01, e1, e2, e3, e4, e5, e6, e7, hcl 1 (by omega), hcl 2 (by omega), hcl 3 (by omega), hcl 4 (by omega), hcl 5 (by omega), hcl 6 (by omega), hcl 7 (by omega)]
    refine ⟨nI_vp (by omega) (by omega), ?_⟩
    refine kL_law_589 (zX11_ask hS h1 (fun a b => ask_q h1 h3 a b)) (rfl) (Nat.le_of_ble_eq_true rfl) (Nat.le_of_ble_eq_true rfl) (⟨by show kc + 0 + 0 ≤ 600000; omega, by show ks + 0 + 0 ≤ 7302250; omega⟩) ?_
    rintro _ _ ⟨M1, rfl, ⟨hno2, rfl, hS1⟩ | ⟨hok2, rfl, hS1⟩⟩
    skip
    · refine oL_law_592 _ _ _ _ _ _ ?_
      simp only [bL_law_592, qsem, qopt_s, qopt2_s, qev, qxs, Nat.reduceEqDiff, reduceIte, and_true, true_and, and_false, false_and, and_self, or_true, true_or, qb_or, reduceCtorEq, qbr_True, qbr_False, q10, q01, Option.toList_some, List.cons_append, List.nil_append]
      exact nx C1 M1 _ r H _ _ ⟨hI1, hW, hS1, hz⟩ (by omega) (by omega)
    · exact absurd hok2 hno
  · refine oL_law_583 _ _ _ _ _ _ ?_
    simp only [bL_law_583, qsem, qopt_s, qopt2_s, qev, qxs, Nat.reduceEqDiff, reduceIte, and_true, true_and, and_false, false_and, and_self, or_true, true_or, qb_or, reduceCtorEq, qbr_True, qbr_False, q10, q01, e1, e2, e3, e4, e5, e6, e7, hcl 1 (by omega), hcl 2 (by omega), hcl 3 (by omega), hcl 4 (by omega), hcl 5 (by omega), hcl 6 (by omega), hcl 7 (by omega)]
    refine ⟨nI_vp (by omega) (by omega), ?_⟩
    refine kL_law_589 (zX11_ask hS h1 (fun a b => ask_q h1 h3 a b)) (rfl) (Nat.le_of_ble_eq_true rfl) (Nat.le_of_ble_eq_true rfl) (⟨by show kc + 0 + 0 ≤ 600000; omega, by show ks + 0 + 0 ≤ 7302250; omega⟩) ?_
    rintro _ _ ⟨M1, rfl, ⟨hno2, rfl, hS1⟩ | ⟨hok2, rfl, hS1⟩⟩
    skip
    · exact absurd hok hno2
    · refine oL_law_592 _ _ _ _ _ _ ?_
      simp only [bL_law_592, qsem, qopt_s, qopt2_s, qev, qxs, Nat.reduceEqDiff, reduceIte, and_true, true_and, and_false, false_and, and_self, or_true, true_or, qb_or, reduceCtorEq, qbr_True, qbr_False, q10, q01, Option.toList_some, List.cons_append, List.nil_append]
      exact nx C1 M1 _ r H _ _ ⟨hI1, hW1, hS1, hz⟩ (by omega) (by omega)
set_option maxRecDepth 100000 in
set_option maxHeartbeats 4000000 in
theorem lw_skip {C M : qC} {S : qS} {r : Nat × Nat × Nat} {H : Nat → Nat → Nat → Bool} {Len i kc ks : Nat} {xs : Nat → Int32} (hI : lwI C M S r H) (hi : i + 8 ≤ Len) (hL : Len ≤ 4096) (hkc : kc ≤ 300 + i) (hks : ks ≤ 60000 + 128 * i) (nx : ∀ (C' M' : qC) (S' : qS) (r' : Nat × Nat × Nat) (H' : Nat → Nat → Nat → Bool) (kc' ks' : Nat), lwI C' M' S' r' H' → kc' ≤ kc + 4 → ks' ≤ ks + 1021 → AW (mL_law, 40, 600000, 7302250, some (Len, xs), fun r _ => r = some (.int 1)) 1142 [some (.retAddr 0), some (.ref 0), some (.ref 136), some (.int (nI i))] [] (wd C' M' r') kc' ks') : AW (mL_law, 40, 600000, 7302250, some (Len, xs), fun r _ => r = some (.int 1)) 597 [some (.retAddr 0), some (.ref 0), some (.ref 136), some (.int (nI i))] [] (wd C M r) kc ks := by
  obtain ⟨hIn, hW, hS, hz⟩ := hI
  obtain ⟨h1, h2, h3, h4, h5, h6, h7, h8, h9, h10, h11⟩ := id hW
  have hr := hz.1
  have e1 : nI i + 1 = nI (i + 1) := nadd i 1
  have e2 : nI i + 2 = nI (i + 2) := nadd i 2
  have e3 : nI i + 3 = nI (i + 3) := nadd i 3
  have e4 : nI i + 4 = nI (i + 4) := nadd i 4
  have e5 : nI i + 5 = nI (i + 5) := nadd i 5
  have e6 : nI i + 6 = nI (i + 6) := nadd i 6
  have e7 : nI i + 7 = nI (i + 7) := nadd i 7
  have hcl : ∀ k, k < 8 → (nI (i + k)).toNatClampNeg = i + k := fun k hk => nI_clamp (by omega)
  refine oL_law_597 _ _ _ _ _ _ ?_
  simp only [bL_law_597, qsem, qopt_s, qopt2_s, qev, qxs, Nat.reduceEqDiff, reduceIte, and_true, true_and, and_false, false_and, and_self, or_true, true_or, qb_or, reduceCtorEq, qbr_True, qbr_False, q10, q01, e1, e2, e3, e4, e5, e6, e7, hcl 1 (by omega), hcl 2 (by omega), hcl 3 (by omega), hcl 4 (by omega), hcl 5 (by omega), hcl 6 (by omega), hcl 7 (by omega)]
  refine kL_law_598 (zX10_skip hr hW hIn) (rfl) (Nat.le_of_ble_eq_true rfl) (Nat.le_of_ble_eq_true rfl) (⟨by show kc + 0 ≤ 600000; omega, by show ks + 0 ≤ 7302250; omega⟩) ?_
  rintro _ _ ⟨C1, rfl, ⟨hno, rfl, hI1⟩ | ⟨hok, rfl, hI1, hW1⟩⟩
  skip
  · refine oL_law_601 _ _ _ _ _ _ ?_
    simp only [bL_law_601, qsem, qopt_s, qopt2_s, qev, qxs, Nat.reduceEqDiff, reduceIte, and_true, true_and, and_false, false_and, and_self, or_true, true_or, qb_or, reduceCtorEq, qbr_True, qbr_False, q10, q01, e1, e2, e3, e4, e5, e6, e7, hcl 1 (by omega), hcl 2 (by omega), hcl 3 (by omega), hcl 4 (by omega), hcl 5 (by omega), hcl 6 (by omega), hcl 7 (by omega)]
    refine kL_law_602 (zX11_skip hS h1) (rfl) (Nat.le_of_ble_eq_true rfl) (Nat.le_of_ble_eq_true rfl) (⟨by show kc + 0 + 0 ≤ 600000; omega, by show ks + 0 + 0 ≤ 7302250; omega⟩) ?_
    rintro _ _ ⟨M1, rfl, ⟨hno2, rfl, hS1⟩ | ⟨hok2, rfl, hS1⟩⟩
    skip
    · refine oL_law_605 _ _ _ _ _ _ ?_
      simp only [bL_law_605, qsem, qopt_s, qopt2_s, qev, qxs, Nat.reduceEqDiff, reduceIte, and_true, true_and, and_false, false_and, and_self, or_true, true_or, qb_or, reduceCtorEq, qbr_True, qbr_False, q10, q01, Option.toList_some, List.cons_append, List.nil_append]
      exact nx C1 M1 _ r H _ _ ⟨hI1, hW, hS1, hz⟩ (by omega) (by omega)
    · exact absurd hno hok2
  · refine oL_law_601 _ _ _ _ _ _ ?_
    simp only [bL_law_601, qsem, qopt_s, qopt2_s, qev, qxs, Nat.reduceEqDiff, reduceIte, and_true, true_and, and_false, false_and, and_self, or_true, true_or, qb_or, reduceCtorEq, qbr_True, qbr_False, q10, q01, e1, e2, e3, e4, e5, e6, e7, hcl 1 (by omega), hcl 2 (by omega), hcl 3 (by omega), hcl 4 (by omega), hcl 5 (by omega), hcl 6 (by omega), hcl 7 (by omega)]
    refine kL_law_602 (zX11_skip hS h1) (rfl) (Nat.le_of_ble_eq_true rfl) (Nat.le_of_ble_eq_true rfl) (⟨by show kc + 0 + 0 ≤ 600000; omega, by show ks + 0 + 0 ≤ 7302250; omega⟩) ?_
    rintro _ _ ⟨M1, rfl, ⟨hno2, rfl, hS1⟩ | ⟨hok2, rfl, hS1⟩⟩
    skip
    · exact absurd hno2 hok
    · refine oL_law_605 _ _ _ _ _ _ ?_
      simp only [bL_law_605, qsem, qopt_s, qopt2_s, qev, qxs, Nat.reduceEqDiff, reduceIte, and_true, true_and, and_false, false_and, and_self, or_true, true_or, qb_or, reduceCtorEq, qbr_True, qbr_False, q10, q01, Option.toList_some, List.cons_append, List.nil_append]
      exact nx C1 M1 _ r H _ _ ⟨hI1, hW1, hS1, hz⟩ (by omega) (by omega)
set_option maxRecDepth 100000 in
set_option maxHeartbeats 4000000 in
theorem lw_seal {C M : qC} {S : qS} {r : Nat × Nat × Nat} {H : Nat → Nat → Nat → Bool} {Len i kc ks : Nat} {xs : Nat → Int32} (hI : lwI C M S r H) (hi : i + 8 ≤ Len) (hL : Len ≤ 4096) (hkc : kc ≤ 300 + i) (hks : ks ≤ 60000 + 128 * i) (nx : ∀ (C' M' : qC) (S' : qS) (r' : Nat × Nat × Nat) (H' : Nat → Nat → Nat → Bool) (kc' ks' : Nat), lwI C' M' S' r' H' → kc' ≤ kc + 4 → ks' ≤ ks + 1021 → AW (mL_law, 40, 600000, 7302250, some (Len, xs), fun r _ => r = some (.int 1)) 1142 [some (.retAddr 0), some (.ref 0), some (.ref 136), some (.int (nI i))] [] (wd C' M' r') kc' ks') : AW (mL_law, 40, 600000, 7302250, some (Len, xs), fun r _ => r = some (.int 1)) 610 [some (.retAddr 0), some (.ref 0), some (.ref 136), some (.int (nI i))] [] (wd C M r) kc ks := by
  obtain ⟨hIn, hW, hS, hz⟩ := hI
  obtain ⟨h1, h2, h3, h4, h5, h6, h7, h8, h9, h10, h11⟩ := id hW
  have hr := hz.1
  have e1 : nI i + 1 = nI (i + 1) := nadd i 1
  have e2 : nI i + 2 = nI (i + 2) := nadd i 2
  have e3 : nI i + 3 = nI (i + 3) := nadd i 3
  have e4 : nI i + 4 = nI (i + 4) := nadd i 4
  have e5 : nI i + 5 = nI (i + 5) := nadd i 5
  have e6 : nI i + 6 = nI (i + 6) := nadd i 6
  have e7 : nI i + 7 = nI (i + 7) := nadd i 7
  have hcl : ∀ k, k < 8 → (nI (i + k)).toNatClampNeg = i + k := fun k hk => nI_clamp (by omega)
  refine oL_law_610 _ _ _ _ _ _ ?_
  simp only [bL_law_610, qsem, qopt_s, qopt2_s, qev, qxs, Nat.reduceEqDiff, reduceIte, and_true, true_and, and_false, false_and, and_self, or_true, true_or, qb_or, reduceCtorEq, qbr_True, qbr_False, q10, q01, e1, e2, e3, e4, e5, e6, e7, hcl 1 (by omega), hcl 2 (by omega), hcl 3 (by omega), hcl 4 (by omega), hcl 5 (by omega), hcl 6 (by omega), hcl 7 (by omega)]
  refine ⟨nI_vp (by omega) (by omega), ?_⟩
  refine ⟨nI_vp (by omega) (by omega), ?_⟩
  refine ⟨nI_vp (by omega) (by omega), ?_⟩
  refine kL_law_626 (zX10_seal hr hW hIn) (rfl) (Nat.le_of_ble_eq_true rfl) (Nat.le_of_ble_eq_true rfl) (⟨by show kc + 0 ≤ 600000; omega, by show ks + 0 ≤ 7302250; omega⟩) ?_
  rintro _ _ ⟨C1, rfl, ⟨hno, rfl, hI1⟩ | ⟨hok, rfl, hI1, hW1⟩⟩
  skip
  · refine oL_law_629 _ _ _ _ _ _ ?_
    simp only [bL_law_629, qsem, qopt_s, qopt2_s, qev, qxs, Nat.reduceEqDiff, reduceIte, and_true, true_and, and_false, false_and, and_self, or_true, true_or, qb_or, reduceCtorEq, qbr_True, qbr_False, q10, q01, e1, e2, e3, e4, e5, e6, e7, hcl 1 (by omega), hcl 2 (by omega), hcl 3 (by omega), hcl 4 (by omega), hcl 5 (by omega), hcl 6 (by omega), hcl 7 (by omega)]
    refine ⟨nI_vp (by omega) (by omega), ?_⟩
    refine ⟨nI_vp (by omega) (by omega), ?_⟩
    refine ⟨nI_vp (by omega) (by omega), ?_⟩
    refine kL_law_645 (zX11_seal hS h1 h2 h3 h5 h7) (rfl) (Nat.le_of_ble_eq_true rfl) (Nat.le_of_ble_eq_true rfl) (⟨by show kc + 0 + 0 ≤ 600000; omega, by show ks + 0 + 0 ≤ 7302250; omega⟩) ?_
    rintro _ _ ⟨M1, rfl, ⟨hno2, rfl, hS1⟩ | ⟨hok2, rfl, hS1⟩⟩
    skip
    · refine oL_law_648 _ _ _ _ _ _ ?_
      simp only [bL_law_648, qsem, qopt_s, qopt2_s, qev, qxs, Nat.reduceEqDiff, reduceIte, and_true, true_and, and_false, false_and, and_self, or_true, true_or, qb_or, reduceCtorEq, qbr_True, qbr_False, q10, q01, Option.toList_some, List.cons_append, List.nil_append]
      exact nx C1 M1 _ r H _ _ ⟨hI1, hW, hS1, hz⟩ (by omega) (by omega)
    · exact absurd hok2 hno
  · refine oL_law_629 _ _ _ _ _ _ ?_
    simp only [bL_law_629, qsem, qopt_s, qopt2_s, qev, qxs, Nat.reduceEqDiff, reduceIte, and_true, true_and, and_false, false_and, and_self, or_true, true_or, qb_or, reduceCtorEq, qbr_True, qbr_False, q10, q01, e1, e2, e3, e4, e5, e6, e7, hcl 1 (by omega), hcl 2 (by omega), hcl 3 (by omega), hcl 4 (by omega), hcl 5 (by omega), hcl 6 (by omega), hcl 7 (by omega)]
    refine ⟨nI_vp (by omega) (by omega), ?_⟩
    refine ⟨nI_vp (by omega) (by omega), ?_⟩
    refine ⟨nI_vp (by omega) (by omega), ?_⟩
    refine kL_law_645 (zX11_seal hS h1 h2 h3 h5 h7) (rfl) (Nat.le_of_ble_eq_true rfl) (Nat.le_of_ble_eq_true rfl) (⟨by show kc + 0 + 0 ≤ 600000; omega, by show ks + 0 + 0 ≤ 7302250; omega⟩) ?_
    rintro _ _ ⟨M1, rfl, ⟨hno2, rfl, hS1⟩ | ⟨hok2, rfl, hS1⟩⟩
    skip
    · exact absurd hok hno2
    · refine oL_law_648 _ _ _ _ _ _ ?_
      simp only [bL_law_648, qsem, qopt_s, qopt2_s, qev, qxs, Nat.reduceEqDiff, reduceIte, and_true, true_and, and_false, false_and, and_self, or_true, true_or, qb_or, reduceCtorEq, qbr_True, qbr_False, q10, q01, Option.toList_some, List.cons_append, List.nil_append]
      exact nx C1 M1 _ r H _ _ ⟨hI1, hW1, hS1, hz⟩ (by omega) (by omega)
set_option maxRecDepth 100000 in
set_option maxHeartbeats 4000000 in
theorem lw_uses {C M : qC} {S : qS} {r : Nat × Nat × Nat} {H : Nat → Nat → Nat → Bool} {Len i kc ks : Nat} {xs : Nat → Int32} (hI : lwI C M S r H) (hi : i + 8 ≤ Len) (hL : Len ≤ 4096) (hkc : kc ≤ 300 + i) (hks : ks ≤ 60000 + 128 * i) (nx : ∀ (C' M' : qC) (S' : qS) (r' : Nat × Nat × Nat) (H' : Nat → Nat → Nat → Bool) (kc' ks' : Nat), lwI C' M' S' r' H' → kc' ≤ kc + 4 → ks' ≤ ks + 1021 → AW (mL_law, 40, 600000, 7302250, some (Len, xs), fun r _ => r = some (.int 1)) 1142 [some (.retAddr 0), some (.ref 0), some (.ref 136), some (.int (nI i))] [] (wd C' M' r') kc' ks') : AW (mL_law, 40, 600000, 7302250, some (Len, xs), fun r _ => r = some (.int 1)) 696 [some (.retAddr 0), some (.ref 0), some (.ref 136), some (.int (nI i))] [] (wd C M r) kc ks := by
  obtain ⟨hIn, hW, hS, hz⟩ := hI
  obtain ⟨h1, h2, h3, h4, h5, h6, h7, h8, h9, h10, h11⟩ := id hW
  have hr := hz.1
  have e1 : nI i + 1 = nI (i + 1) := nadd i 1
  have e2 : nI i + 2 = nI (i + 2) := nadd i 2
  have e3 : nI i + 3 = nI (i + 3) := nadd i 3
  have e4 : nI i + 4 = nI (i + 4) := nadd i 4
  have e5 : nI i + 5 = nI (i + 5) := nadd i 5
  have e6 : nI i + 6 = nI (i + 6) := nadd i 6
  have e7 : nI i + 7 = nI (i + 7) := nadd i 7
  have hcl : ∀ k, k < 8 → (nI (i + k)).toNatClampNeg = i + k := fun k hk => nI_clamp (by omega)
  refine oL_law_696 _ _ _ _ _ _ ?_
  simp only [bL_law_696, qsem, qopt_s, qopt2_s, qev, qxs, Nat.reduceEqDiff, reduceIte, and_true, true_and, and_false, false_and, and_self, or_true, true_or, qb_or, reduceCtorEq, qbr_True, qbr_False, q10, q01, e1, e2, e3, e4, e5, e6, e7, hcl 1 (by omega), hcl 2 (by omega), hcl 3 (by omega), hcl 4 (by omega), hcl 5 (by omega), hcl 6 (by omega), hcl 7 (by omega)]
  refine ⟨nI_vp (by omega) (by omega), ?_⟩
  refine ⟨nI_vp (by omega) (by omega), ?_⟩
  refine kL_law_707 (zX10_uses hr hW hIn) (rfl) (Nat.le_of_ble_eq_true rfl) (Nat.le_of_ble_eq_true rfl) (⟨by show kc + 0 ≤ 600000; omega, by show ks + 0 ≤ 7302250; omega⟩) ?_
  rintro _ _ ⟨C1, rfl, ⟨hno, rfl, hI1⟩ | ⟨hok, rfl, hI1, hW1⟩⟩
  skip
  · refine oL_law_710 _ _ _ _ _ _ ?_
    simp only [bL_law_710, qsem, qopt_s, qopt2_s, qev, qxs, Nat.reduceEqDiff, reduceIte, and_true, true_and, and_false, false_and, and_self, or_true, true_or, qb_or, reduceCtorEq, qbr_True, qbr_False, q10, q01, e1, e2, e3, e4, e5, e6, e7, hcl 1 (by omega), hcl 2 (by omega), hcl 3 (by omega), hcl 4 (by omega), hcl 5 (by omega), hcl 6 (by omega), hcl 7 (by omega)]
    refine ⟨nI_vp (by omega) (by omega), ?_⟩
    refine ⟨nI_vp (by omega) (by omega), ?_⟩
    refine kL_law_721 (zX11_uses hS) (rfl) (Nat.le_of_ble_eq_true rfl) (Nat.le_of_ble_eq_true rfl) (⟨by show kc + 0 + 0 ≤ 600000; omega, by show ks + 0 + 0 ≤ 7302250; omega⟩) ?_
    rintro _ _ ⟨M1, rfl, ⟨hno2, rfl, hS1⟩ | ⟨hok2, rfl, hS1⟩⟩
    skip
    · refine oL_law_724 _ _ _ _ _ _ ?_
      simp only [bL_law_724, qsem, qopt_s, qopt2_s, qev, qxs, Nat.reduceEqDiff, reduceIte, and_true, true_and, and_false, false_and, and_self, or_true, true_or, qb_or, reduceCtorEq, qbr_True, qbr_False, q10, q01, Option.toList_some, List.cons_append, List.nil_append]
      exact nx C1 M1 _ r H _ _ ⟨hI1, hW, hS1, hz⟩ (by omega) (by omega)
    · exact absurd hok2 hno
  · refine oL_law_710 _ _ _ _ _ _ ?_
    simp only [bL_law_710, qsem, qopt_s, qopt2_s, qev, qxs, Nat.reduceEqDiff, reduceIte, and_true, true_and, and_false, false_and, and_self, or_true, true_or, qb_or, reduceCtorEq, qbr_True, qbr_False, q10, q01, e1, e2, e3, e4, e5, e6, e7, hcl 1 (by omega), hcl 2 (by omega), hcl 3 (by omega), hcl 4 (by omega), hcl 5 (by omega), hcl 6 (by omega), hcl 7 (by omega)]
    refine ⟨nI_vp (by omega) (by omega), ?_⟩
    refine ⟨nI_vp (by omega) (by omega), ?_⟩
    refine kL_law_721 (zX11_uses hS) (rfl) (Nat.le_of_ble_eq_true rfl) (Nat.le_of_ble_eq_true rfl) (⟨by show kc + 0 + 0 ≤ 600000; omega, by show ks + 0 + 0 ≤ 7302250; omega⟩) ?_
    rintro _ _ ⟨M1, rfl, ⟨hno2, rfl, hS1⟩ | ⟨hok2, rfl, hS1⟩⟩
    skip
    · exact absurd hok hno2
    · refine oL_law_724 _ _ _ _ _ _ ?_
      simp only [bL_law_724, qsem, qopt_s, qopt2_s, qev, qxs, Nat.reduceEqDiff, reduceIte, and_true, true_and, and_false, false_and, and_self, or_true, true_or, qb_or, reduceCtorEq, qbr_True, qbr_False, q10, q01, Option.toList_some, List.cons_append, List.nil_append]
      exact nx C1 M1 _ r H _ _ ⟨hI1, hW1, hS1, hz⟩ (by omega) (by omega)
set_option maxRecDepth 100000 in
set_option maxHeartbeats 4000000 in
theorem lw_finish {C M : qC} {S : qS} {r : Nat × Nat × Nat} {H : Nat → Nat → Nat → Bool} {Len i kc ks : Nat} {xs : Nat → Int32} (hI : lwI C M S r H) (hi : i + 8 ≤ Len) (hL : Len ≤ 4096) (hkc : kc ≤ 300 + i) (hks : ks ≤ 60000 + 128 * i) (nx : ∀ (C' M' : qC) (S' : qS) (r' : Nat × Nat × Nat) (H' : Nat → Nat → Nat → Bool) (kc' ks' : Nat), lwI C' M' S' r' H' → kc' ≤ kc + 4 → ks' ≤ ks + 1021 → AW (mL_law, 40, 600000, 7302250, some (Len, xs), fun r _ => r = some (.int 1)) 1142 [some (.retAddr 0), some (.ref 0), some (.ref 136), some (.int (nI i))] [] (wd C' M' r') kc' ks') : AW (mL_law, 40, 600000, 7302250, some (Len, xs), fun r _ => r = some (.int 1)) 729 [some (.retAddr 0), some (.ref 0), some (.ref 136), some (.int (nI i))] [] (wd C M r) kc ks := by
  obtain ⟨hIn, hW, hS, hz⟩ := hI
  obtain ⟨h1, h2, h3, h4, h5, h6, h7, h8, h9, h10, h11⟩ := id hW
  have hr := hz.1
  have e1 : nI i + 1 = nI (i + 1) := nadd i 1
  have e2 : nI i + 2 = nI (i + 2) := nadd i 2
  have e3 : nI i + 3 = nI (i + 3) := nadd i 3
  have e4 : nI i + 4 = nI (i + 4) := nadd i 4
  have e5 : nI i + 5 = nI (i + 5) := nadd i 5
  have e6 : nI i + 6 = nI (i + 6) := nadd i 6
  have e7 : nI i + 7 = nI (i + 7) := nadd i 7
  have hcl : ∀ k, k < 8 → (nI (i + k)).toNatClampNeg = i + k := fun k hk => nI_clamp (by omega)
  refine oL_law_729 _ _ _ _ _ _ ?_
  simp only [bL_law_729, qsem, qopt_s, qopt2_s, qev, qxs, Nat.reduceEqDiff, reduceIte, and_true, true_and, and_false, false_and, and_self, or_true, true_or, qb_or, reduceCtorEq, qbr_True, qbr_False, q10, q01, e1, e2, e3, e4, e5, e6, e7, hcl 1 (by omega), hcl 2 (by omega), hcl 3 (by omega), hcl 4 (by omega), hcl 5 (by omega), hcl 6 (by omega), hcl 7 (by omega)]
  refine ⟨nI_vp (by omega) (by omega), ?_⟩
  refine kL_law_735 (zX10_finish hr hW hIn) (rfl) (Nat.le_of_ble_eq_true rfl) (Nat.le_of_ble_eq_true rfl) (⟨by show kc + 0 ≤ 600000; omega, by show ks + 0 ≤ 7302250; omega⟩) ?_
  rintro _ _ ⟨C1, rfl, ⟨hno, rfl, hI1⟩ | ⟨hok, rfl, hI1, hW1⟩⟩
  skip
  · refine oL_law_738 _ _ _ _ _ _ ?_
    simp only [bL_law_738, qsem, qopt_s, qopt2_s, qev, qxs, Nat.reduceEqDiff, reduceIte, and_true, true_and, and_false, false_and, and_self, or_true, true_or, qb_or, reduceCtorEq, qbr_True, qbr_False, q10, q01, e1, e2, e3, e4, e5, e6, e7, hcl 1 (by omega), hcl 2 (by omega), hcl 3 (by omega), hcl 4 (by omega), hcl 5 (by omega), hcl 6 (by omega), hcl 7 (by omega)]
    refine ⟨nI_vp (by omega) (by omega), ?_⟩
    refine kL_law_744 (zX11_finish hS) (rfl) (Nat.le_of_ble_eq_true rfl) (Nat.le_of_ble_eq_true rfl) (⟨by show kc + 0 + 0 ≤ 600000; omega, by show ks + 0 + 0 ≤ 7302250; omega⟩) ?_
    rintro _ _ ⟨M1, rfl, ⟨hno2, rfl, hS1⟩ | ⟨hok2, rfl, hS1⟩⟩
    skip
    · refine oL_law_747 _ _ _ _ _ _ ?_
      simp only [bL_law_747, qsem, qopt_s, qopt2_s, qev, qxs, Nat.reduceEqDiff, reduceIte, and_true, true_and, and_false, false_and, and_self, or_true, true_or, qb_or, reduceCtorEq, qbr_True, qbr_False, q10, q01, Option.toList_some, List.cons_append, List.nil_append]
      exact nx C1 M1 _ r H _ _ ⟨hI1, hW, hS1, hz⟩ (by omega) (by omega)
    · exact absurd hok2 hno
  · refine oL_law_738 _ _ _ _ _ _ ?_
    simp only [bL_law_738, qsem, qopt_s, qopt2_s, qev, qxs, Nat.reduceEqDiff, reduceIte, and_true, true_and, and_false, false_and, and_self, or_true, true_or, qb_or, reduceCtorEq, qbr_True, qbr_False, q10, q01, e1, e2, e3, e4, e5, e6, e7, hcl 1 (by omega), hcl 2 (by omega), hcl 3 (by omega), hcl 4 (by omega), hcl 5 (by omega), hcl 6 (by omega), hcl 7 (by omega)]
    refine ⟨nI_vp (by omega) (by omega), ?_⟩
    refine kL_law_744 (zX11_finish hS) (rfl) (Nat.le_of_ble_eq_true rfl) (Nat.le_of_ble_eq_true rfl) (⟨by show kc + 0 + 0 ≤ 600000; omega, by show ks + 0 + 0 ≤ 7302250; omega⟩) ?_
    rintro _ _ ⟨M1, rfl, ⟨hno2, rfl, hS1⟩ | ⟨hok2, rfl, hS1⟩⟩
    skip
    · exact absurd hok hno2
    · refine oL_law_747 _ _ _ _ _ _ ?_
      simp only [bL_law_747, qsem, qopt_s, qopt2_s, qev, qxs, Nat.reduceEqDiff, reduceIte, and_true, true_and, and_false, false_and, and_self, or_true, true_or, qb_or, reduceCtorEq, qbr_True, qbr_False, q10, q01, Option.toList_some, List.cons_append, List.nil_append]
      exact nx C1 M1 _ r H _ _ ⟨hI1, hW1, hS1, hz⟩ (by omega) (by omega)
set_option maxRecDepth 100000 in
set_option maxHeartbeats 4000000 in
theorem lw_lose {C M : qC} {S : qS} {r : Nat × Nat × Nat} {H : Nat → Nat → Nat → Bool} {Len i kc ks : Nat} {xs : Nat → Int32} (hI : lwI C M S r H) (hi : i + 8 ≤ Len) (hL : Len ≤ 4096) (hkc : kc ≤ 300 + i) (hks : ks ≤ 60000 + 128 * i) (nx : ∀ (C' M' : qC) (S' : qS) (r' : Nat × Nat × Nat) (H' : Nat → Nat → Nat → Bool) (kc' ks' : Nat), lwI C' M' S' r' H' → kc' ≤ kc + 4 → ks' ≤ ks + 1021 → AW (mL_law, 40, 600000, 7302250, some (Len, xs), fun r _ => r = some (.int 1)) 1142 [some (.retAddr 0), some (.ref 0), some (.ref 136), some (.int (nI i))] [] (wd C' M' r') kc' ks') : AW (mL_law, 40, 600000, 7302250, some (Len, xs), fun r _ => r = some (.int 1)) 752 [some (.retAddr 0), some (.ref 0), some (.ref 136), some (.int (nI i))] [] (wd C M r) kc ks := by
  obtain ⟨hIn, hW, hS, hz⟩ := hI
  obtain ⟨h1, h2, h3, h4, h5, h6, h7, h8, h9, h10, h11⟩ := id hW
  have hr := hz.1
  have e1 : nI i + 1 = nI (i + 1) := nadd i 1
  have e2 : nI i + 2 = nI (i + 2) := nadd i 2
  have e3 : nI i + 3 = nI (i + 3) := nadd i 3
  have e4 : nI i + 4 = nI (i + 4) := nadd i 4
  have e5 : nI i + 5 = nI (i + 5) := nadd i 5
  have e6 : nI i + 6 = nI (i + 6) := nadd i 6
  have e7 : nI i + 7 = nI (i + 7) := nadd i 7
  have hcl : ∀ k, k < 8 → (nI (i + k)).toNatClampNeg = i + k := fun k hk => nI_clamp (by omega)
  refine oL_law_752 _ _ _ _ _ _ ?_
  simp only [bL_law_752, qsem, qopt_s, qopt2_s, qev, qxs, Nat.reduceEqDiff, reduceIte, and_true, true_and, and_false, false_and, and_self, or_true, true_or, qb_or, reduceCtorEq, qbr_True, qbr_False, q10, q01, e1, e2, e3, e4, e5, e6, e7, hcl 1 (by omega), hcl 2 (by omega), hcl 3 (by omega), hcl 4 (by omega), hcl 5 (by omega), hcl 6 (by omega), hcl 7 (by omega)]
  refine ⟨nI_vp (by omega) (by omega), ?_⟩
  refine ⟨nI_vp (by omega) (by omega), ?_⟩
  refine kL_law_763 (zX10_lose hr hW hIn) (rfl) (Nat.le_of_ble_eq_true rfl) (Nat.le_of_ble_eq_true rfl) (⟨by show kc + 0 ≤ 600000; omega, by show ks + 0 ≤ 7302250; omega⟩) ?_
  rintro _ _ ⟨C1, rfl, ⟨hno, rfl, hI1⟩ | ⟨hok, rfl, hI1, hW1⟩⟩
  skip
  · refine oL_law_766 _ _ _ _ _ _ ?_
    simp only [bL_law_766, qsem, qopt_s, qopt2_s, qev, qxs, Nat.reduceEqDiff, reduceIte, and_true, true_and, and_false, false_and, and_self, or_true, true_or, qb_or, reduceCtorEq, qbr_True, qbr_False, q10, q01, e1, e2, e3, e4, e5, e6, e7, hcl 1 (by omega), hcl 2 (by omega), hcl 3 (by omega), hcl 4 (by omega), hcl 5 (by omega), hcl 6 (by omega), hcl 7 (by omega)]
    refine ⟨nI_vp (by omega) (by omega), ?_⟩
    refine ⟨nI_vp (by omega) (by omega), ?_⟩
    refine kL_law_777 (zX11_lose hS h1 h4) (rfl) (Nat.le_of_ble_eq_true rfl) (Nat.le_of_ble_eq_true rfl) (⟨by show kc + 0 + 0 ≤ 600000; omega, by show ks + 0 + 0 ≤ 7302250; omega⟩) ?_
    rintro _ _ ⟨M1, rfl, ⟨hno2, rfl, hS1⟩ | ⟨hok2, rfl, hS1⟩⟩
    skip
    · refine oL_law_780 _ _ _ _ _ _ ?_
      simp only [bL_law_780, qsem, qopt_s, qopt2_s, qev, qxs, Nat.reduceEqDiff, reduceIte, and_true, true_and, and_false, false_and, and_self, or_true, true_or, qb_or, reduceCtorEq, qbr_True, qbr_False, q10, q01, Option.toList_some, List.cons_append, List.nil_append]
      exact nx C1 M1 _ r H _ _ ⟨hI1, hW, hS1, hz⟩ (by omega) (by omega)
    · exact absurd hok2 hno
  · refine oL_law_766 _ _ _ _ _ _ ?_
    simp only [bL_law_766, qsem, qopt_s, qopt2_s, qev, qxs, Nat.reduceEqDiff, reduceIte, and_true, true_and, and_false, false_and, and_self, or_true, true_or, qb_or, reduceCtorEq, qbr_True, qbr_False, q10, q01, e1, e2, e3, e4, e5, e6, e7, hcl 1 (by omega), hcl 2 (by omega), hcl 3 (by omega), hcl 4 (by omega), hcl 5 (by omega), hcl 6 (by omega), hcl 7 (by omega)]
    refine ⟨nI_vp (by omega) (by omega), ?_⟩
    refine ⟨nI_vp (by omega) (by omega), ?_⟩
    refine kL_law_777 (zX11_lose hS h1 h4) (rfl) (Nat.le_of_ble_eq_true rfl) (Nat.le_of_ble_eq_true rfl) (⟨by show kc + 0 + 0 ≤ 600000; omega, by show ks + 0 + 0 ≤ 7302250; omega⟩) ?_
    rintro _ _ ⟨M1, rfl, ⟨hno2, rfl, hS1⟩ | ⟨hok2, rfl, hS1⟩⟩
    skip
    · exact absurd hok hno2
    · refine oL_law_780 _ _ _ _ _ _ ?_
      simp only [bL_law_780, qsem, qopt_s, qopt2_s, qev, qxs, Nat.reduceEqDiff, reduceIte, and_true, true_and, and_false, false_and, and_self, or_true, true_or, qb_or, reduceCtorEq, qbr_True, qbr_False, q10, q01, Option.toList_some, List.cons_append, List.nil_append]
      exact nx C1 M1 _ r H _ _ ⟨hI1, hW1, hS1, hz⟩ (by omega) (by omega)
set_option maxRecDepth 100000 in
set_option maxHeartbeats 4000000 in
theorem lw_mix {C M : qC} {S : qS} {r : Nat × Nat × Nat} {H : Nat → Nat → Nat → Bool} {Len i kc ks : Nat} {xs : Nat → Int32} (hI : lwI C M S r H) (hi : i + 8 ≤ Len) (hL : Len ≤ 4096) (hkc : kc ≤ 300 + i) (hks : ks ≤ 60000 + 128 * i) (nx : ∀ (C' M' : qC) (S' : qS) (r' : Nat × Nat × Nat) (H' : Nat → Nat → Nat → Bool) (kc' ks' : Nat), lwI C' M' S' r' H' → kc' ≤ kc + 4 → ks' ≤ ks + 1021 → AW (mL_law, 40, 600000, 7302250, some (Len, xs), fun r _ => r = some (.int 1)) 1142 [some (.retAddr 0), some (.ref 0), some (.ref 136), some (.int (nI i))] [] (wd C' M' r') kc' ks') : AW (mL_law, 40, 600000, 7302250, some (Len, xs), fun r _ => r = some (.int 1)) 330 [some (.retAddr 0), some (.ref 0), some (.ref 136), some (.int (nI i))] [] (wd C M r) kc ks := by
  obtain ⟨hIn, hW, hS, hz⟩ := hI
  obtain ⟨h1, h2, h3, h4, h5, h6, h7, h8, h9, h10, h11⟩ := id hW
  have hr := hz.1
  have e1 : nI i + 1 = nI (i + 1) := nadd i 1
  have e2 : nI i + 2 = nI (i + 2) := nadd i 2
  have e3 : nI i + 3 = nI (i + 3) := nadd i 3
  have e4 : nI i + 4 = nI (i + 4) := nadd i 4
  have e5 : nI i + 5 = nI (i + 5) := nadd i 5
  have e6 : nI i + 6 = nI (i + 6) := nadd i 6
  have e7 : nI i + 7 = nI (i + 7) := nadd i 7
  have hcl : ∀ k, k < 8 → (nI (i + k)).toNatClampNeg = i + k := fun k hk => nI_clamp (by omega)
  refine oL_law_330 _ _ _ _ _ _ ?_
  simp only [bL_law_330, qsem, qopt_s, qopt2_s, qev, qxs, Nat.reduceEqDiff, reduceIte, and_true, true_and, and_false, false_and, and_self, or_true, true_or, qb_or, reduceCtorEq, qbr_True, qbr_False, q10, q01, e1, e2, e3, e4, e5, e6, e7, hcl 1 (by omega), hcl 2 (by omega), hcl 3 (by omega), hcl 4 (by omega), hcl 5 (by omega), hcl 6 (by omega), hcl 7 (by omega)]
  refine ⟨nI_vp (by omega) (by omega), ?_⟩
  refine ⟨nI_vp (by omega) (by omega), ?_⟩
  refine ⟨nI_vp (by omega) (by omega), ?_⟩
  refine ⟨nI_vp (by omega) (by omega), ?_⟩
  refine kL_law_351 (zX10_mix h1 hIn.2.2.1) (rfl) (Nat.le_of_ble_eq_true rfl) (Nat.le_of_ble_eq_true rfl) (⟨by show kc + 0 ≤ 600000; omega, by show ks + 0 ≤ 7302250; omega⟩) ?_
  rintro _ _ ⟨rfl, rfl⟩
  refine oL_law_354 _ _ _ _ _ _ ?_
  simp only [bL_law_354, qsem, qopt_s, qopt2_s, qev, qxs, Nat.reduceEqDiff, reduceIte, and_true, true_and, and_false, false_and, and_self, or_true, true_or, qb_or, reduceCtorEq, qbr_True, qbr_False, q10, q01, e1, e2, e3, e4, e5, e6, e7, hcl 1 (by omega), hcl 2 (by omega), hcl 3 (by omega), hcl 4 (by omega), hcl 5 (by omega), hcl 6 (by omega), hcl 7 (by omega)]
  refine ⟨nI_vp (by omega) (by omega), ?_⟩
  refine ⟨nI_vp (by omega) (by omega), ?_⟩
  refine ⟨nI_vp (by omega) (by omega), ?_⟩
  refine ⟨nI_vp (by omega) (by omega), ?_⟩
  refine kL_law_375 (zX11_mix hS h1) (rfl) (Nat.le_of_ble_eq_true rfl) (Nat.le_of_ble_eq_true rfl) (⟨by show kc + 0 + 0 ≤ 600000; omega, by show ks + 0 + 0 ≤ 7302250; omega⟩) ?_
  rintro _ _ ⟨rfl, rfl⟩
  refine oL_law_378 _ _ _ _ _ _ ?_
  simp only [bL_law_378, qsem, qopt_s, qopt2_s, qev, qxs, Nat.reduceEqDiff, reduceIte, and_true, true_and, and_false, false_and, and_self, or_true, true_or, qb_or, reduceCtorEq, qbr_True, qbr_False, q10, q01, e1, e2, e3, e4, e5, e6, e7, hcl 1 (by omega), hcl 2 (by omega), hcl 3 (by omega), hcl 4 (by omega), hcl 5 (by omega), hcl 6 (by omega), hcl 7 (by omega), Option.toList_some, List.cons_append, List.nil_append, lg0]
  exact nx C M S r H _ _ ⟨hIn, hW, hS, hz⟩ (by omega) (by omega)
set_option maxRecDepth 100000 in
set_option maxHeartbeats 4000000 in
theorem lw_hash {C M : qC} {S : qS} {r : Nat × Nat × Nat} {H : Nat → Nat → Nat → Bool} {Len i kc ks : Nat} {xs : Nat → Int32} (hI : lwI C M S r H) (hi : i + 8 ≤ Len) (hL : Len ≤ 4096) (hkc : kc ≤ 300 + i) (hks : ks ≤ 60000 + 128 * i) (nx : ∀ (C' M' : qC) (S' : qS) (r' : Nat × Nat × Nat) (H' : Nat → Nat → Nat → Bool) (kc' ks' : Nat), lwI C' M' S' r' H' → kc' ≤ kc + 4 → ks' ≤ ks + 1021 → AW (mL_law, 40, 600000, 7302250, some (Len, xs), fun r _ => r = some (.int 1)) 1142 [some (.retAddr 0), some (.ref 0), some (.ref 136), some (.int (nI i))] [] (wd C' M' r') kc' ks') : AW (mL_law, 40, 600000, 7302250, some (Len, xs), fun r _ => r = some (.int 1)) 861 [some (.retAddr 0), some (.ref 0), some (.ref 136), some (.int (nI i))] [] (wd C M r) kc ks := by
  obtain ⟨hIn, hW, hS, hz⟩ := hI
  obtain ⟨h1, h2, h3, h4, h5, h6, h7, h8, h9, h10, h11⟩ := id hW
  have hr := hz.1
  have e1 : nI i + 1 = nI (i + 1) := nadd i 1
  have e2 : nI i + 2 = nI (i + 2) := nadd i 2
  have e3 : nI i + 3 = nI (i + 3) := nadd i 3
  have e4 : nI i + 4 = nI (i + 4) := nadd i 4
  have e5 : nI i + 5 = nI (i + 5) := nadd i 5
  have e6 : nI i + 6 = nI (i + 6) := nadd i 6
  have e7 : nI i + 7 = nI (i + 7) := nadd i 7
  have hcl : ∀ k, k < 8 → (nI (i + k)).toNatClampNeg = i + k := fun k hk => nI_clamp (by omega)
  refine oL_law_861 _ _ _ _ _ _ ?_
  simp only [bL_law_861, qsem, qopt_s, qopt2_s, qev, qxs, Nat.reduceEqDiff, reduceIte, and_true, true_and, and_false, false_and, and_self, or_true, true_or, qb_or, reduceCtorEq, qbr_True, qbr_False, q10, q01, e1, e2, e3, e4, e5, e6, e7, hcl 1 (by omega), hcl 2 (by omega), hcl 3 (by omega), hcl 4 (by omega), hcl 5 (by omega), hcl 6 (by omega), hcl 7 (by omega)]
  refine ⟨nI_vp (by omega) (by omega), ?_⟩
  refine kL_law_867 (zX10_hash h1 hIn.2.2.1) (rfl) (Nat.le_of_ble_eq_true rfl) (Nat.le_of_ble_eq_true rfl) (⟨by show kc + 0 ≤ 600000; omega, by show ks + 0 ≤ 7302250; omega⟩) ?_
  rintro _ _ ⟨rfl, rfl⟩
  refine oL_law_870 _ _ _ _ _ _ ?_
  simp only [bL_law_870, qsem, qopt_s, qopt2_s, qev, qxs, Nat.reduceEqDiff, reduceIte, and_true, true_and, and_false, false_and, and_self, or_true, true_or, qb_or, reduceCtorEq, qbr_True, qbr_False, q10, q01, e1, e2, e3, e4, e5, e6, e7, hcl 1 (by omega), hcl 2 (by omega), hcl 3 (by omega), hcl 4 (by omega), hcl 5 (by omega), hcl 6 (by omega), hcl 7 (by omega)]
  refine ⟨nI_vp (by omega) (by omega), ?_⟩
  refine kL_law_876 (zX11_hash hS h1) (rfl) (Nat.le_of_ble_eq_true rfl) (Nat.le_of_ble_eq_true rfl) (⟨by show kc + 0 + 0 ≤ 600000; omega, by show ks + 0 + 0 ≤ 7302250; omega⟩) ?_
  rintro _ _ ⟨rfl, rfl⟩
  refine oL_law_879 _ _ _ _ _ _ ?_
  simp only [bL_law_879, qsem, qopt_s, qopt2_s, qev, qxs, Nat.reduceEqDiff, reduceIte, and_true, true_and, and_false, false_and, and_self, or_true, true_or, qb_or, reduceCtorEq, qbr_True, qbr_False, q10, q01, e1, e2, e3, e4, e5, e6, e7, hcl 1 (by omega), hcl 2 (by omega), hcl 3 (by omega), hcl 4 (by omega), hcl 5 (by omega), hcl 6 (by omega), hcl 7 (by omega), Option.toList_some, List.cons_append, List.nil_append, lg0]
  exact nx C M S r H _ _ ⟨hIn, hW, hS, hz⟩ (by omega) (by omega)
set_option maxRecDepth 100000 in
set_option maxHeartbeats 4000000 in
theorem lw_find {C M : qC} {S : qS} {r : Nat × Nat × Nat} {H : Nat → Nat → Nat → Bool} {Len i kc ks : Nat} {xs : Nat → Int32} (hI : lwI C M S r H) (hi : i + 8 ≤ Len) (hL : Len ≤ 4096) (hkc : kc ≤ 300 + i) (hks : ks ≤ 60000 + 128 * i) (nx : ∀ (C' M' : qC) (S' : qS) (r' : Nat × Nat × Nat) (H' : Nat → Nat → Nat → Bool) (kc' ks' : Nat), lwI C' M' S' r' H' → kc' ≤ kc + 4 → ks' ≤ ks + 1021 → AW (mL_law, 40, 600000, 7302250, some (Len, xs), fun r _ => r = some (.int 1)) 1142 [some (.retAddr 0), some (.ref 0), some (.ref 136), some (.int (nI i))] [] (wd C' M' r') kc' ks') : AW (mL_law, 40, 600000, 7302250, some (Len, xs), fun r _ => r = some (.int 1)) 885 [some (.retAddr 0), some (.ref 0), some (.ref 136), some (.int (nI i))] [] (wd C M r) kc ks := by
  obtain ⟨hIn, hW, hS, hz⟩ := hI
  obtain ⟨h1, h2, h3, h4, h5, h6, h7, h8, h9, h10, h11⟩ := id hW
  have hr := hz.1
  have e1 : nI i + 1 = nI (i + 1) := nadd i 1
  have e2 : nI i + 2 = nI (i + 2) := nadd i 2
  have e3 : nI i + 3 = nI (i + 3) := nadd i 3
  have e4 : nI i + 4 = nI (i + 4) := nadd i 4
  have e5 : nI i + 5 = nI (i + 5) := nadd i 5
  have e6 : nI i + 6 = nI (i + 6) := nadd i 6
  have e7 : nI i + 7 = nI (i + 7) := nadd i 7
  have hcl : ∀ k, k < 8 → (nI (i + k)).toNatClampNeg = i + k := fun k hk => nI_clamp (by omega)
  refine oL_law_885 _ _ _ _ _ _ ?_
  simp only [bL_law_885, qsem, qopt_s, qopt2_s, qev, qxs, Nat.reduceEqDiff, reduceIte, and_true, true_and, and_false, false_and, and_self, or_true, true_or, qb_or, reduceCtorEq, qbr_True, qbr_False, q10, q01, e1, e2, e3, e4, e5, e6, e7, hcl 1 (by omega), hcl 2 (by omega), hcl 3 (by omega), hcl 4 (by omega), hcl 5 (by omega), hcl 6 (by omega), hcl 7 (by omega)]
  refine ⟨nI_vp (by omega) (by omega), ?_⟩
  refine ⟨nI_vp (by omega) (by omega), ?_⟩
  refine kL_law_906 (zX10_find h1 hIn.2.2.1) (rfl) (Nat.le_of_ble_eq_true rfl) (Nat.le_of_ble_eq_true rfl) (⟨by show kc + 0 ≤ 600000; omega, by show ks + 0 ≤ 7302250; omega⟩) ?_
  rintro _ _ ⟨rfl, rfl⟩
  refine oL_law_909 _ _ _ _ _ _ ?_
  simp only [bL_law_909, qsem, qopt_s, qopt2_s, qev, qxs, Nat.reduceEqDiff, reduceIte, and_true, true_and, and_false, false_and, and_self, or_true, true_or, qb_or, reduceCtorEq, qbr_True, qbr_False, q10, q01, e1, e2, e3, e4, e5, e6, e7, hcl 1 (by omega), hcl 2 (by omega), hcl 3 (by omega), hcl 4 (by omega), hcl 5 (by omega), hcl 6 (by omega), hcl 7 (by omega)]
  refine ⟨nI_vp (by omega) (by omega), ?_⟩
  refine ⟨nI_vp (by omega) (by omega), ?_⟩
  refine kL_law_930 (zX11_find hS h1) (rfl) (Nat.le_of_ble_eq_true rfl) (Nat.le_of_ble_eq_true rfl) (⟨by show kc + 0 + 0 ≤ 600000; omega, by show ks + 0 + 0 ≤ 7302250; omega⟩) ?_
  rintro _ _ ⟨rfl, rfl⟩
  refine oL_law_933 _ _ _ _ _ _ ?_
  simp only [bL_law_933, qsem, qopt_s, qopt2_s, qev, qxs, Nat.reduceEqDiff, reduceIte, and_true, true_and, and_false, false_and, and_self, or_true, true_or, qb_or, reduceCtorEq, qbr_True, qbr_False, q10, q01, e1, e2, e3, e4, e5, e6, e7, hcl 1 (by omega), hcl 2 (by omega), hcl 3 (by omega), hcl 4 (by omega), hcl 5 (by omega), hcl 6 (by omega), hcl 7 (by omega), Option.toList_some, List.cons_append, List.nil_append]
  exact nx C M S r H _ _ ⟨hIn, hW, hS, hz⟩ (by omega) (by omega)
set_option maxRecDepth 100000 in
set_option maxHeartbeats 4000000 in
theorem lw_note {C M : qC} {S : qS} {r : Nat × Nat × Nat} {H : Nat → Nat → Nat → Bool} {Len i kc ks : Nat} {xs : Nat → Int32} (hI : lwI C M S r H) (hi : i + 8 ≤ Len) (hL : Len ≤ 4096) (hkc : kc ≤ 300 + i) (hks : ks ≤ 60000 + 128 * i) (nx : ∀ (C' M' : qC) (S' : qS) (r' : Nat × Nat × Nat) (H' : Nat → Nat → Nat → Bool) (kc' ks' : Nat), lwI C' M' S' r' H' → kc' ≤ kc + 4 → ks' ≤ ks + 1021 → AW (mL_law, 40, 600000, 7302250, some (Len, xs), fun r _ => r = some (.int 1)) 1142 [some (.retAddr 0), some (.ref 0), some (.ref 136), some (.int (nI i))] [] (wd C' M' r') kc' ks') : AW (mL_law, 40, 600000, 7302250, some (Len, xs), fun r _ => r = some (.int 1)) 971 [some (.retAddr 0), some (.ref 0), some (.ref 136), some (.int (nI i))] [] (wd C M r) kc ks := by
  obtain ⟨hIn, hW, hS, hz⟩ := hI
  obtain ⟨h1, h2, h3, h4, h5, h6, h7, h8, h9, h10, h11⟩ := id hW
  have hr := hz.1
  have e1 : nI i + 1 = nI (i + 1) := nadd i 1
  have e2 : nI i + 2 = nI (i + 2) := nadd i 2
  have e3 : nI i + 3 = nI (i + 3) := nadd i 3
  have e4 : nI i + 4 = nI (i + 4) := nadd i 4
  have e5 : nI i + 5 = nI (i + 5) := nadd i 5
  have e6 : nI i + 6 = nI (i + 6) := nadd i 6
  have e7 : nI i + 7 = nI (i + 7) := nadd i 7
  have hcl : ∀ k, k < 8 → (nI (i + k)).toNatClampNeg = i + k := fun k hk => nI_clamp (by omega)
  refine oL_law_971 _ _ _ _ _ _ ?_
  simp only [bL_law_971, qsem, qopt_s, qopt2_s, qev, qxs, Nat.reduceEqDiff, reduceIte, and_true, true_and, and_false, false_and, and_self, or_true, true_or, qb_or, reduceCtorEq, qbr_True, qbr_False, q10, q01, e1, e2, e3, e4, e5, e6, e7, hcl 1 (by omega), hcl 2 (by omega), hcl 3 (by omega), hcl 4 (by omega), hcl 5 (by omega), hcl 6 (by omega), hcl 7 (by omega)]
  refine ⟨nI_vp (by omega) (by omega), ?_⟩
  refine ⟨nI_vp (by omega) (by omega), ?_⟩
  refine kL_law_982 (zX10_note h1 hIn.1) (rfl) (Nat.le_of_ble_eq_true rfl) (Nat.le_of_ble_eq_true rfl) (⟨by show kc + 0 ≤ 600000; omega, by show ks + 0 ≤ 7302250; omega⟩) ?_
  rintro _ _ ⟨rfl, rfl⟩
  refine oL_law_985 _ _ _ _ _ _ ?_
  simp only [bL_law_985, qsem, qopt_s, qopt2_s, qev, qxs, Nat.reduceEqDiff, reduceIte, and_true, true_and, and_false, false_and, and_self, or_true, true_or, qb_or, reduceCtorEq, qbr_True, qbr_False, q10, q01, e1, e2, e3, e4, e5, e6, e7, hcl 1 (by omega), hcl 2 (by omega), hcl 3 (by omega), hcl 4 (by omega), hcl 5 (by omega), hcl 6 (by omega), hcl 7 (by omega)]
  refine ⟨nI_vp (by omega) (by omega), ?_⟩
  refine ⟨nI_vp (by omega) (by omega), ?_⟩
  refine kL_law_996 (zX11_note hS h1) (rfl) (Nat.le_of_ble_eq_true rfl) (Nat.le_of_ble_eq_true rfl) (⟨by show kc + 0 + 0 ≤ 600000; omega, by show ks + 0 + 0 ≤ 7302250; omega⟩) ?_
  rintro _ _ ⟨rfl, rfl⟩
  refine oL_law_999 _ _ _ _ _ _ ?_
  simp only [bL_law_999, qsem, qopt_s, qopt2_s, qev, qxs, Nat.reduceEqDiff, reduceIte, and_true, true_and, and_false, false_and, and_self, or_true, true_or, qb_or, reduceCtorEq, qbr_True, qbr_False, q10, q01, e1, e2, e3, e4, e5, e6, e7, hcl 1 (by omega), hcl 2 (by omega), hcl 3 (by omega), hcl 4 (by omega), hcl 5 (by omega), hcl 6 (by omega), hcl 7 (by omega), Option.toList_some, List.cons_append, List.nil_append]
  exact nx C M S r H _ _ ⟨hIn, hW, hS, hz⟩ (by omega) (by omega)
set_option maxRecDepth 100000 in
set_option maxHeartbeats 4000000 in
theorem lw_key {C M : qC} {S : qS} {r : Nat × Nat × Nat} {H : Nat → Nat → Nat → Bool} {Len i kc ks : Nat} {xs : Nat → Int32} (hI : lwI C M S r H) (hi : i + 8 ≤ Len) (hL : Len ≤ 4096) (hkc : kc ≤ 300 + i) (hks : ks ≤ 60000 + 128 * i) (nx : ∀ (C' M' : qC) (S' : qS) (r' : Nat × Nat × Nat) (H' : Nat → Nat → Nat → Bool) (kc' ks' : Nat), lwI C' M' S' r' H' → kc' ≤ kc + 4 → ks' ≤ ks + 1021 → AW (mL_law, 40, 600000, 7302250, some (Len, xs), fun r _ => r = some (.int 1)) 1142 [some (.retAddr 0), some (.ref 0), some (.ref 136), some (.int (nI i))] [] (wd C' M' r') kc' ks') : AW (mL_law, 40, 600000, 7302250, some (Len, xs), fun r _ => r = some (.int 1)) 1109 [some (.retAddr 0), some (.ref 0), some (.ref 136), some (.int (nI i))] [] (wd C M r) kc ks := by
  obtain ⟨hIn, hW, hS, hz⟩ := hI
  obtain ⟨h1, h2, h3, h4, h5, h6, h7, h8, h9, h10, h11⟩ := id hW
  have hr := hz.1
  have e1 : nI i + 1 = nI (i + 1) := nadd i 1
  have e2 : nI i + 2 = nI (i + 2) := nadd i 2
  have e3 : nI i + 3 = nI (i + 3) := nadd i 3
  have e4 : nI i + 4 = nI (i + 4) := nadd i 4
  have e5 : nI i + 5 = nI (i + 5) := nadd i 5
  have e6 : nI i + 6 = nI (i + 6) := nadd i 6
  have e7 : nI i + 7 = nI (i + 7) := nadd i 7
  have hcl : ∀ k, k < 8 → (nI (i + k)).toNatClampNeg = i + k := fun k hk => nI_clamp (by omega)
  refine oL_law_1109 _ _ _ _ _ _ ?_
  simp only [bL_law_1109, qsem, qopt_s, qopt2_s, qev, qxs, Nat.reduceEqDiff, reduceIte, and_true, true_and, and_false, false_and, and_self, or_true, true_or, qb_or, reduceCtorEq, qbr_True, qbr_False, q10, q01, e1, e2, e3, e4, e5, e6, e7, hcl 1 (by omega), hcl 2 (by omega), hcl 3 (by omega), hcl 4 (by omega), hcl 5 (by omega), hcl 6 (by omega), hcl 7 (by omega)]
  refine ⟨nI_vp (by omega) (by omega), ?_⟩
  refine ⟨nI_vp (by omega) (by omega), ?_⟩
  refine kL_law_1120 (zX10_key hIn.2.2.2.2.2.2.2.2.2.2.2.1 h6) (rfl) (Nat.le_of_ble_eq_true rfl) (Nat.le_of_ble_eq_true rfl) (⟨by show kc + 0 ≤ 600000; omega, by show ks + 0 ≤ 7302250; omega⟩) ?_
  rintro _ _ ⟨rfl, rfl⟩
  refine oL_law_1123 _ _ _ _ _ _ ?_
  simp only [bL_law_1123, qsem, qopt_s, qopt2_s, qev, qxs, Nat.reduceEqDiff, reduceIte, and_true, true_and, and_false, false_and, and_self, or_true, true_or, qb_or, reduceCtorEq, qbr_True, qbr_False, q10, q01, e1, e2, e3, e4, e5, e6, e7, hcl 1 (by omega), hcl 2 (by omega), hcl 3 (by omega), hcl 4 (by omega), hcl 5 (by omega), hcl 6 (by omega), hcl 7 (by omega)]
  refine ⟨nI_vp (by omega) (by omega), ?_⟩
  refine ⟨nI_vp (by omega) (by omega), ?_⟩
  refine kL_law_1134 (zX11_key hS h1 h4 h6) (rfl) (Nat.le_of_ble_eq_true rfl) (Nat.le_of_ble_eq_true rfl) (⟨by show kc + 0 + 0 ≤ 600000; omega, by show ks + 0 + 0 ≤ 7302250; omega⟩) ?_
  rintro _ _ ⟨rfl, rfl⟩
  refine oL_law_1137 _ _ _ _ _ _ ?_
  simp only [bL_law_1137, qsem, qopt_s, qopt2_s, qev, qxs, Nat.reduceEqDiff, reduceIte, and_true, true_and, and_false, false_and, and_self, or_true, true_or, qb_or, reduceCtorEq, qbr_True, qbr_False, q10, q01, e1, e2, e3, e4, e5, e6, e7, hcl 1 (by omega), hcl 2 (by omega), hcl 3 (by omega), hcl 4 (by omega), hcl 5 (by omega), hcl 6 (by omega), hcl 7 (by omega), Option.toList_some, List.cons_append, List.nil_append]
  exact nx C M S r H _ _ ⟨hIn, hW, hS, hz⟩ (by omega) (by omega)
set_option maxRecDepth 100000 in
set_option maxHeartbeats 4000000 in
theorem lw_file {C M : qC} {S : qS} {r : Nat × Nat × Nat} {H : Nat → Nat → Nat → Bool} {Len i kc ks : Nat} {xs : Nat → Int32} (hI : lwI C M S r H) (hi : i + 8 ≤ Len) (hL : Len ≤ 4096) (hkc : kc ≤ 300 + i) (hks : ks ≤ 60000 + 128 * i) (nx : ∀ (C' M' : qC) (S' : qS) (r' : Nat × Nat × Nat) (H' : Nat → Nat → Nat → Bool) (kc' ks' : Nat), lwI C' M' S' r' H' → kc' ≤ kc + 4 → ks' ≤ ks + 1021 → AW (mL_law, 40, 600000, 7302250, some (Len, xs), fun r _ => r = some (.int 1)) 1142 [some (.retAddr 0), some (.ref 0), some (.ref 136), some (.int (nI i))] [] (wd C' M' r') kc' ks') : AW (mL_law, 40, 600000, 7302250, some (Len, xs), fun r _ => r = some (.int 1)) 828 [some (.retAddr 0), some (.ref 0), some (.ref 136), some (.int (nI i))] [] (wd C M r) kc ks := by
  obtain ⟨hIn, hW, hS, hz⟩ := hI
  obtain ⟨h1, h2, h3, h4, h5, h6, h7, h8, h9, h10, h11⟩ := id hW
  have hr := hz.1
  have e1 : nI i + 1 = nI (i + 1) := nadd i 1
  have e2 : nI i + 2 = nI (i + 2) := nadd i 2
  have e3 : nI i + 3 = nI (i + 3) := nadd i 3
  have e4 : nI i + 4 = nI (i + 4) := nadd i 4
  have e5 : nI i + 5 = nI (i + 5) := nadd i 5
  have e6 : nI i + 6 = nI (i + 6) := nadd i 6
  have e7 : nI i + 7 = nI (i + 7) := nadd i 7
  have hcl : ∀ k, k < 8 → (nI (i + k)).toNatClampNeg = i + k := fun k hk => nI_clamp (by omega)
  refine oL_law_828 _ _ _ _ _ _ ?_
  simp only [bL_law_828, qsem, qopt_s, qopt2_s, qev, qxs, Nat.reduceEqDiff, reduceIte, and_true, true_and, and_false, false_and, and_self, or_true, true_or, qb_or, reduceCtorEq, qbr_True, qbr_False, q10, q01, e1, e2, e3, e4, e5, e6, e7, hcl 1 (by omega), hcl 2 (by omega), hcl 3 (by omega), hcl 4 (by omega), hcl 5 (by omega), hcl 6 (by omega), hcl 7 (by omega)]
  refine ⟨nI_vp (by omega) (by omega), ?_⟩
  refine ⟨nI_vp (by omega) (by omega), ?_⟩
  refine kL_law_839 (zX10_file hW hIn) (rfl) (Nat.le_of_ble_eq_true rfl) (Nat.le_of_ble_eq_true rfl) (⟨by show kc + 0 ≤ 600000; omega, by show ks + 0 ≤ 7302250; omega⟩) ?_
  rintro _ _ ⟨rfl, rfl⟩
  refine oL_law_842 _ _ _ _ _ _ ?_
  simp only [bL_law_842, qsem, qopt_s, qopt2_s, qev, qxs, Nat.reduceEqDiff, reduceIte, and_true, true_and, and_false, false_and, and_self, or_true, true_or, qb_or, reduceCtorEq, qbr_True, qbr_False, q10, q01, e1, e2, e3, e4, e5, e6, e7, hcl 1 (by omega), hcl 2 (by omega), hcl 3 (by omega), hcl 4 (by omega), hcl 5 (by omega), hcl 6 (by omega), hcl 7 (by omega)]
  refine ⟨nI_vp (by omega) (by omega), ?_⟩
  refine ⟨nI_vp (by omega) (by omega), ?_⟩
  refine kL_law_853 (zX11_file hS h1 h2 h4 h5) (rfl) (Nat.le_of_ble_eq_true rfl) (Nat.le_of_ble_eq_true rfl) (⟨by show kc + 0 + 0 ≤ 600000; omega, by show ks + 0 + 0 ≤ 7302250; omega⟩) ?_
  rintro _ _ ⟨M1, rfl, hS1, rfl⟩
  refine oL_law_856 _ _ _ _ _ _ ?_
  simp only [bL_law_856, qsem, qopt_s, qopt2_s, qev, qxs, Nat.reduceEqDiff, reduceIte, and_true, true_and, and_false, false_and, and_self, or_true, true_or, qb_or, reduceCtorEq, qbr_True, qbr_False, q10, q01, e1, e2, e3, e4, e5, e6, e7, hcl 1 (by omega), hcl 2 (by omega), hcl 3 (by omega), hcl 4 (by omega), hcl 5 (by omega), hcl 6 (by omega), hcl 7 (by omega), Option.toList_some, List.cons_append, List.nil_append]
  exact nx C M1 S r H _ _ ⟨hIn, hW, hS1, hz⟩ (by omega) (by omega)
set_option maxRecDepth 100000 in
set_option maxHeartbeats 4000000 in
theorem lw_count {C M : qC} {S : qS} {r : Nat × Nat × Nat} {H : Nat → Nat → Nat → Bool} {Len i kc ks : Nat} {xs : Nat → Int32} (hI : lwI C M S r H) (hi : i + 8 ≤ Len) (hL : Len ≤ 4096) (hkc : kc ≤ 300 + i) (hks : ks ≤ 60000 + 128 * i) (nx : ∀ (C' M' : qC) (S' : qS) (r' : Nat × Nat × Nat) (H' : Nat → Nat → Nat → Bool) (kc' ks' : Nat), lwI C' M' S' r' H' → kc' ≤ kc + 4 → ks' ≤ ks + 1021 → AW (mL_law, 40, 600000, 7302250, some (Len, xs), fun r _ => r = some (.int 1)) 1142 [some (.retAddr 0), some (.ref 0), some (.ref 136), some (.int (nI i))] [] (wd C' M' r') kc' ks') : AW (mL_law, 40, 600000, 7302250, some (Len, xs), fun r _ => r = some (.int 1)) 1086 [some (.retAddr 0), some (.ref 0), some (.ref 136), some (.int (nI i))] [] (wd C M r) kc ks := by
  obtain ⟨hIn, hW, hS, hz⟩ := hI
  obtain ⟨h1, h2, h3, h4, h5, h6, h7, h8, h9, h10, h11⟩ := id hW
  have hr := hz.1
  have e1 : nI i + 1 = nI (i + 1) := nadd i 1
  have e2 : nI i + 2 = nI (i + 2) := nadd i 2
  have e3 : nI i + 3 = nI (i + 3) := nadd i 3
  have e4 : nI i + 4 = nI (i + 4) := nadd i 4
  have e5 : nI i + 5 = nI (i + 5) := nadd i 5
  have e6 : nI i + 6 = nI (i + 6) := nadd i 6
  have e7 : nI i + 7 = nI (i + 7) := nadd i 7
  have hcl : ∀ k, k < 8 → (nI (i + k)).toNatClampNeg = i + k := fun k hk => nI_clamp (by omega)
  refine oL_law_1086 _ _ _ _ _ _ ?_
  simp only [bL_law_1086, qsem, qopt_s, qopt2_s, qev, qxs, Nat.reduceEqDiff, reduceIte, and_true, true_and, and_false, false_and, and_self, or_true, true_or, qb_or, reduceCtorEq, qbr_True, qbr_False, q10, q01, e1, e2, e3, e4, e5, e6, e7, hcl 1 (by omega), hcl 2 (by omega), hcl 3 (by omega), hcl 4 (by omega), hcl 5 (by omega), hcl 6 (by omega), hcl 7 (by omega)]
  refine ⟨nI_vp (by omega) (by omega), ?_⟩
  refine kL_law_1092 (zX10_count hW hIn) (rfl) (Nat.le_of_ble_eq_true rfl) (Nat.le_of_ble_eq_true rfl) (⟨by show kc + 0 ≤ 600000; omega, by show ks + 0 ≤ 7302250; omega⟩) ?_
  rintro _ _ ⟨rfl, rfl⟩
  refine oL_law_1095 _ _ _ _ _ _ ?_
  simp only [bL_law_1095, qsem, qopt_s, qopt2_s, qev, qxs, Nat.reduceEqDiff, reduceIte, and_true, true_and, and_false, false_and, and_self, or_true, true_or, qb_or, reduceCtorEq, qbr_True, qbr_False, q10, q01, e1, e2, e3, e4, e5, e6, e7, hcl 1 (by omega), hcl 2 (by omega), hcl 3 (by omega), hcl 4 (by omega), hcl 5 (by omega), hcl 6 (by omega), hcl 7 (by omega)]
  refine ⟨nI_vp (by omega) (by omega), ?_⟩
  refine kL_law_1101 (zX11_count hS h1 h2 h4 h5) (rfl) (Nat.le_of_ble_eq_true rfl) (Nat.le_of_ble_eq_true rfl) (⟨by show kc + 0 + 0 ≤ 600000; omega, by show ks + 0 + 0 ≤ 7302250; omega⟩) ?_
  rintro _ _ ⟨M1, rfl, hS1, rfl⟩
  refine oL_law_1104 _ _ _ _ _ _ ?_
  simp only [bL_law_1104, qsem, qopt_s, qopt2_s, qev, qxs, Nat.reduceEqDiff, reduceIte, and_true, true_and, and_false, false_and, and_self, or_true, true_or, qb_or, reduceCtorEq, qbr_True, qbr_False, q10, q01, e1, e2, e3, e4, e5, e6, e7, hcl 1 (by omega), hcl 2 (by omega), hcl 3 (by omega), hcl 4 (by omega), hcl 5 (by omega), hcl 6 (by omega), hcl 7 (by omega), Option.toList_some, List.cons_append, List.nil_append]
  exact nx C M1 S r H _ _ ⟨hIn, hW, hS1, hz⟩ (by omega) (by omega)
set_option maxRecDepth 100000 in
set_option maxHeartbeats 4000000 in
theorem lw_why {C M : qC} {S : qS} {r : Nat × Nat × Nat} {H : Nat → Nat → Nat → Bool} {Len i kc ks : Nat} {xs : Nat → Int32} (hI : lwI C M S r H) (hi : i + 8 ≤ Len) (hL : Len ≤ 4096) (hkc : kc ≤ 300 + i) (hks : ks ≤ 60000 + 128 * i) (nx : ∀ (C' M' : qC) (S' : qS) (r' : Nat × Nat × Nat) (H' : Nat → Nat → Nat → Bool) (kc' ks' : Nat), lwI C' M' S' r' H' → kc' ≤ kc + 4 → ks' ≤ ks + 1021 → AW (mL_law, 40, 600000, 7302250, some (Len, xs), fun r _ => r = some (.int 1)) 1142 [some (.retAddr 0), some (.ref 0), some (.ref 136), some (.int (nI i))] [] (wd C' M' r') kc' ks') : AW (mL_law, 40, 600000, 7302250, some (Len, xs), fun r _ => r = some (.int 1)) 653 [some (.retAddr 0), some (.ref 0), some (.ref 136), some (.int (nI i))] [] (wd C M r) kc ks := by
  obtain ⟨hIn, hW, hS, hz⟩ := hI
  obtain ⟨h1, h2, h3, h4, h5, h6, h7, h8, h9, h10, h11⟩ := id hW
  have hr := hz.1
  have e1 : nI i + 1 = nI (i + 1) := nadd i 1
  have e2 : nI i + 2 = nI (i + 2) := nadd i 2
  have e3 : nI i + 3 = nI (i + 3) := nadd i 3
  have e4 : nI i + 4 = nI (i + 4) := nadd i 4
  have e5 : nI i + 5 = nI (i + 5) := nadd i 5
  have e6 : nI i + 6 = nI (i + 6) := nadd i 6
  have e7 : nI i + 7 = nI (i + 7) := nadd i 7
  have hcl : ∀ k, k < 8 → (nI (i + k)).toNatClampNeg = i + k := fun k hk => nI_clamp (by omega)
  refine oL_law_653 _ _ _ _ _ _ ?_
  simp only [bL_law_653, qsem, qopt_s, qopt2_s, qev, qxs, Nat.reduceEqDiff, reduceIte, and_true, true_and, and_false, false_and, and_self, or_true, true_or, qb_or, reduceCtorEq, qbr_True, qbr_False, q10, q01, e1, e2, e3, e4, e5, e6, e7, hcl 1 (by omega), hcl 2 (by omega), hcl 3 (by omega), hcl 4 (by omega), hcl 5 (by omega), hcl 6 (by omega), hcl 7 (by omega)]
  refine ⟨nI_vp (by omega) (by omega), ?_⟩
  refine ⟨nI_vp (by omega) (by omega), ?_⟩
  refine ⟨nI_vp (by omega) (by omega), ?_⟩
  refine kL_law_669 (zX10_why hr hW hIn) (rfl) (Nat.le_of_ble_eq_true rfl) (Nat.le_of_ble_eq_true rfl) (⟨by show kc + 0 ≤ 600000; omega, by show ks + 0 ≤ 7302250; omega⟩) ?_
  rintro _ _ ⟨C1, rfl, hI1, rfl⟩
  refine oL_law_672 _ _ _ _ _ _ ?_
  simp only [bL_law_672, qsem, qopt_s, qopt2_s, qev, qxs, Nat.reduceEqDiff, reduceIte, and_true, true_and, and_false, false_and, and_self, or_true, true_or, qb_or, reduceCtorEq, qbr_True, qbr_False, q10, q01, e1, e2, e3, e4, e5, e6, e7, hcl 1 (by omega), hcl 2 (by omega), hcl 3 (by omega), hcl 4 (by omega), hcl 5 (by omega), hcl 6 (by omega), hcl 7 (by omega)]
  refine ⟨nI_vp (by omega) (by omega), ?_⟩
  refine ⟨nI_vp (by omega) (by omega), ?_⟩
  refine ⟨nI_vp (by omega) (by omega), ?_⟩
  refine kL_law_688 (zX11_why hS h1 h2 h3 h5 h7) (rfl) (Nat.le_of_ble_eq_true rfl) (Nat.le_of_ble_eq_true rfl) (⟨by show kc + 0 + 0 ≤ 600000; omega, by show ks + 0 + 0 ≤ 7302250; omega⟩) ?_
  rintro _ _ ⟨M1, rfl, hS1, rfl⟩
  refine oL_law_691 _ _ _ _ _ _ ?_
  simp only [bL_law_691, qsem, qopt_s, qopt2_s, qev, qxs, Nat.reduceEqDiff, reduceIte, and_true, true_and, and_false, false_and, and_self, or_true, true_or, qb_or, reduceCtorEq, qbr_True, qbr_False, q10, q01, e1, e2, e3, e4, e5, e6, e7, hcl 1 (by omega), hcl 2 (by omega), hcl 3 (by omega), hcl 4 (by omega), hcl 5 (by omega), hcl 6 (by omega), hcl 7 (by omega), Option.toList_some, List.cons_append, List.nil_append]
  exact nx C1 M1 S r H _ _ ⟨hI1, hW, hS1, hz⟩ (by omega) (by omega)
set_option maxRecDepth 100000 in
set_option maxHeartbeats 4000000 in
theorem lw_proof {C M : qC} {S : qS} {r : Nat × Nat × Nat} {H : Nat → Nat → Nat → Bool} {Len i kc ks : Nat} {xs : Nat → Int32} (hI : lwI C M S r H) (hi : i + 8 ≤ Len) (hL : Len ≤ 4096) (hkc : kc ≤ 300 + i) (hks : ks ≤ 60000 + 128 * i) (nx : ∀ (C' M' : qC) (S' : qS) (r' : Nat × Nat × Nat) (H' : Nat → Nat → Nat → Bool) (kc' ks' : Nat), lwI C' M' S' r' H' → kc' ≤ kc + 4 → ks' ≤ ks + 1021 → AW (mL_law, 40, 600000, 7302250, some (Len, xs), fun r _ => r = some (.int 1)) 1142 [some (.retAddr 0), some (.ref 0), some (.ref 136), some (.int (nI i))] [] (wd C' M' r') kc' ks') : AW (mL_law, 40, 600000, 7302250, some (Len, xs), fun r _ => r = some (.int 1)) 1030 [some (.retAddr 0), some (.ref 0), some (.ref 136), some (.int (nI i))] [] (wd C M r) kc ks := by
  obtain ⟨hIn, hW, hS, hz⟩ := hI
  obtain ⟨h1, h2, h3, h4, h5, h6, h7, h8, h9, h10, h11⟩ := id hW
  have hr := hz.1
  have e1 : nI i + 1 = nI (i + 1) := nadd i 1
  have e2 : nI i + 2 = nI (i + 2) := nadd i 2
  have e3 : nI i + 3 = nI (i + 3) := nadd i 3
  have e4 : nI i + 4 = nI (i + 4) := nadd i 4
  have e5 : nI i + 5 = nI (i + 5) := nadd i 5
  have e6 : nI i + 6 = nI (i + 6) := nadd i 6
  have e7 : nI i + 7 = nI (i + 7) := nadd i 7
  have hcl : ∀ k, k < 8 → (nI (i + k)).toNatClampNeg = i + k := fun k hk => nI_clamp (by omega)
  refine oL_law_1030 _ _ _ _ _ _ ?_
  simp only [bL_law_1030, qsem, qopt_s, qopt2_s, qev, qxs, Nat.reduceEqDiff, reduceIte, and_true, true_and, and_false, false_and, and_self, or_true, true_or, qb_or, reduceCtorEq, qbr_True, qbr_False, q10, q01, e1, e2, e3, e4, e5, e6, e7, hcl 1 (by omega), hcl 2 (by omega), hcl 3 (by omega), hcl 4 (by omega), hcl 5 (by omega), hcl 6 (by omega), hcl 7 (by omega)]
  refine ⟨nI_vp (by omega) (by omega), ?_⟩
  refine ⟨nI_vp (by omega) (by omega), ?_⟩
  refine kL_law_1041 (zX10_proof hr hW hIn) (rfl) (Nat.le_of_ble_eq_true rfl) (Nat.le_of_ble_eq_true rfl) (⟨by show kc + 0 ≤ 600000; omega, by show ks + 0 ≤ 7302250; omega⟩) ?_
  rintro _ _ ⟨C1, rfl, hI1, rfl⟩
  refine oL_law_1044 _ _ _ _ _ _ ?_
  simp only [bL_law_1044, qsem, qopt_s, qopt2_s, qev, qxs, Nat.reduceEqDiff, reduceIte, and_true, true_and, and_false, false_and, and_self, or_true, true_or, qb_or, reduceCtorEq, qbr_True, qbr_False, q10, q01, e1, e2, e3, e4, e5, e6, e7, hcl 1 (by omega), hcl 2 (by omega), hcl 3 (by omega), hcl 4 (by omega), hcl 5 (by omega), hcl 6 (by omega), hcl 7 (by omega)]
  refine ⟨nI_vp (by omega) (by omega), ?_⟩
  refine ⟨nI_vp (by omega) (by omega), ?_⟩
  refine kL_law_1055 (zX11_proof hS h1 h2 h8) (rfl) (Nat.le_of_ble_eq_true rfl) (Nat.le_of_ble_eq_true rfl) (⟨by show kc + 0 + 0 ≤ 600000; omega, by show ks + 0 + 0 ≤ 7302250; omega⟩) ?_
  rintro _ _ ⟨M1, rfl, hS1, rfl⟩
  refine oL_law_1058 _ _ _ _ _ _ ?_
  simp only [bL_law_1058, qsem, qopt_s, qopt2_s, qev, qxs, Nat.reduceEqDiff, reduceIte, and_true, true_and, and_false, false_and, and_self, or_true, true_or, qb_or, reduceCtorEq, qbr_True, qbr_False, q10, q01, e1, e2, e3, e4, e5, e6, e7, hcl 1 (by omega), hcl 2 (by omega), hcl 3 (by omega), hcl 4 (by omega), hcl 5 (by omega), hcl 6 (by omega), hcl 7 (by omega), Option.toList_some, List.cons_append, List.nil_append]
  exact nx C1 M1 S r H _ _ ⟨hI1, hW, hS1, hz⟩ (by omega) (by omega)
set_option maxRecDepth 100000 in
set_option maxHeartbeats 4000000 in
theorem lw_least {C M : qC} {S : qS} {r : Nat × Nat × Nat} {H : Nat → Nat → Nat → Bool} {Len i kc ks : Nat} {xs : Nat → Int32} (hI : lwI C M S r H) (hi : i + 8 ≤ Len) (hL : Len ≤ 4096) (hkc : kc ≤ 300 + i) (hks : ks ≤ 60000 + 128 * i) (nx : ∀ (C' M' : qC) (S' : qS) (r' : Nat × Nat × Nat) (H' : Nat → Nat → Nat → Bool) (kc' ks' : Nat), lwI C' M' S' r' H' → kc' ≤ kc + 4 → ks' ≤ ks + 1021 → AW (mL_law, 40, 600000, 7302250, some (Len, xs), fun r _ => r = some (.int 1)) 1142 [some (.retAddr 0), some (.ref 0), some (.ref 136), some (.int (nI i))] [] (wd C' M' r') kc' ks') : AW (mL_law, 40, 600000, 7302250, some (Len, xs), fun r _ => r = some (.int 1)) 1004 [some (.retAddr 0), some (.ref 0), some (.ref 136), some (.int (nI i))] [] (wd C M r) kc ks := by
  obtain ⟨hIn, hW, hS, hz⟩ := hI
  obtain ⟨h1, h2, h3, h4, h5, h6, h7, h8, h9, h10, h11⟩ := id hW
  have hr := hz.1
  have e1 : nI i + 1 = nI (i + 1) := nadd i 1
  have e2 : nI i + 2 = nI (i + 2) := nadd i 2
  have e3 : nI i + 3 = nI (i + 3) := nadd i 3
  have e4 : nI i + 4 = nI (i + 4) := nadd i 4
  have e5 : nI i + 5 = nI (i + 5) := nadd i 5
  have e6 : nI i + 6 = nI (i + 6) := nadd i 6
  have e7 : nI i + 7 = nI (i + 7) := nadd i 7
  have hcl : ∀ k, k < 8 → (nI (i + k)).toNatClampNeg = i + k := fun k hk => nI_clamp (by omega)
  refine oL_law_1004 _ _ _ _ _ _ ?_
  simp only [bL_law_1004, qsem, qopt_s, qopt2_s, qev, qxs, Nat.reduceEqDiff, reduceIte, and_true, true_and, and_false, false_and, and_self, or_true, true_or, qb_or, reduceCtorEq, qbr_True, qbr_False, q10, q01, e1, e2, e3, e4, e5, e6, e7, hcl 1 (by omega), hcl 2 (by omega), hcl 3 (by omega), hcl 4 (by omega), hcl 5 (by omega), hcl 6 (by omega), hcl 7 (by omega)]
  refine kL_law_1005 (zX10_least hr hW hIn) (rfl) (Nat.le_of_ble_eq_true rfl) (Nat.le_of_ble_eq_true rfl) (⟨by show kc + 0 ≤ 600000; omega, by show ks + 0 ≤ 7302250; omega⟩) ?_
  rintro _ _ ⟨C1, z1, rfl, hI1, rfl, hj1⟩
  refine oL_law_1008 _ _ _ _ _ _ ?_
  simp only [bL_law_1008, qsem, qopt_s, qopt2_s, qev, qxs, Nat.reduceEqDiff, reduceIte, and_true, true_and, and_false, false_and, and_self, or_true, true_or, qb_or, reduceCtorEq, qbr_True, qbr_False, q10, q01, e1, e2, e3, e4, e5, e6, e7, hcl 1 (by omega), hcl 2 (by omega), hcl 3 (by omega), hcl 4 (by omega), hcl 5 (by omega), hcl 6 (by omega), hcl 7 (by omega)]
  refine kL_law_1009 (zX11_least hS h1 h7) (rfl) (Nat.le_of_ble_eq_true rfl) (Nat.le_of_ble_eq_true rfl) (⟨by show kc + 0 + 0 ≤ 600000; omega, by show ks + 0 + 0 ≤ 7302250; omega⟩) ?_
  rintro _ _ ⟨M1, z2, rfl, hS1, rfl, hj2⟩
  rw [← jdN_one hj1 hj2]
  refine oL_law_1012 _ _ _ _ _ _ ?_
  simp only [bL_law_1012, qsem, qopt_s, qopt2_s, qev, qxs, Nat.reduceEqDiff, reduceIte, and_true, true_and, and_false, false_and, and_self, or_true, true_or, qb_or, reduceCtorEq, qbr_True, qbr_False, q10, q01, e1, e2, e3, e4, e5, e6, e7, hcl 1 (by omega), hcl 2 (by omega), hcl 3 (by omega), hcl 4 (by omega), hcl 5 (by omega), hcl 6 (by omega), hcl 7 (by omega), Option.toList_some, List.cons_append, List.nil_append]
  exact nx C1 M1 S r H _ _ ⟨hI1, hW, hS1, hz⟩ (by omega) (by omega)
set_option maxRecDepth 100000 in
set_option maxHeartbeats 4000000 in
theorem lw_makers {C M : qC} {S : qS} {r : Nat × Nat × Nat} {H : Nat → Nat → Nat → Bool} {Len i kc ks : Nat} {xs : Nat → Int32} (hI : lwI C M S r H) (hi : i + 8 ≤ Len) (hL : Len ≤ 4096) (hkc : kc ≤ 300 + i) (hks : ks ≤ 60000 + 128 * i) (nx : ∀ (C' M' : qC) (S' : qS) (r' : Nat × Nat × Nat) (H' : Nat → Nat → Nat → Bool) (kc' ks' : Nat), lwI C' M' S' r' H' → kc' ≤ kc + 4 → ks' ≤ ks + 1021 → AW (mL_law, 40, 600000, 7302250, some (Len, xs), fun r _ => r = some (.int 1)) 1142 [some (.retAddr 0), some (.ref 0), some (.ref 136), some (.int (nI i))] [] (wd C' M' r') kc' ks') : AW (mL_law, 40, 600000, 7302250, some (Len, xs), fun r _ => r = some (.int 1)) 1017 [some (.retAddr 0), some (.ref 0), some (.ref 136), some (.int (nI i))] [] (wd C M r) kc ks := by
  obtain ⟨hIn, hW, hS, hz⟩ := hI
  obtain ⟨h1, h2, h3, h4, h5, h6, h7, h8, h9, h10, h11⟩ := id hW
  have hr := hz.1
  have e1 : nI i + 1 = nI (i + 1) := nadd i 1
  have e2 : nI i + 2 = nI (i + 2) := nadd i 2
  have e3 : nI i + 3 = nI (i + 3) := nadd i 3
  have e4 : nI i + 4 = nI (i + 4) := nadd i 4
  have e5 : nI i + 5 = nI (i + 5) := nadd i 5
  have e6 : nI i + 6 = nI (i + 6) := nadd i 6
  have e7 : nI i + 7 = nI (i + 7) := nadd i 7
  have hcl : ∀ k, k < 8 → (nI (i + k)).toNatClampNeg = i + k := fun k hk => nI_clamp (by omega)
  refine oL_law_1017 _ _ _ _ _ _ ?_
  simp only [bL_law_1017, qsem, qopt_s, qopt2_s, qev, qxs, Nat.reduceEqDiff, reduceIte, and_true, true_and, and_false, false_and, and_self, or_true, true_or, qb_or, reduceCtorEq, qbr_True, qbr_False, q10, q01, e1, e2, e3, e4, e5, e6, e7, hcl 1 (by omega), hcl 2 (by omega), hcl 3 (by omega), hcl 4 (by omega), hcl 5 (by omega), hcl 6 (by omega), hcl 7 (by omega)]
  refine kL_law_1018 (zX10_makers hr hW hIn) (rfl) (Nat.le_of_ble_eq_true rfl) (Nat.le_of_ble_eq_true rfl) (⟨by show kc + 0 ≤ 600000; omega, by show ks + 0 ≤ 7302250; omega⟩) ?_
  rintro _ _ ⟨C1, z1, rfl, hI1, rfl, hj1⟩
  refine oL_law_1021 _ _ _ _ _ _ ?_
  simp only [bL_law_1021, qsem, qopt_s, qopt2_s, qev, qxs, Nat.reduceEqDiff, reduceIte, and_true, true_and, and_false, false_and, and_self, or_true, true_or, qb_or, reduceCtorEq, qbr_True, qbr_False, q10, q01, e1, e2, e3, e4, e5, e6, e7, hcl 1 (by omega), hcl 2 (by omega), hcl 3 (by omega), hcl 4 (by omega), hcl 5 (by omega), hcl 6 (by omega), hcl 7 (by omega)]
  refine kL_law_1022 (zX11_makers hS h1 h7) (rfl) (Nat.le_of_ble_eq_true rfl) (Nat.le_of_ble_eq_true rfl) (⟨by show kc + 0 + 0 ≤ 600000; omega, by show ks + 0 + 0 ≤ 7302250; omega⟩) ?_
  rintro _ _ ⟨M1, z2, rfl, hS1, rfl, hj2⟩
  rw [← jdN_one hj1 hj2]
  refine oL_law_1025 _ _ _ _ _ _ ?_
  simp only [bL_law_1025, qsem, qopt_s, qopt2_s, qev, qxs, Nat.reduceEqDiff, reduceIte, and_true, true_and, and_false, false_and, and_self, or_true, true_or, qb_or, reduceCtorEq, qbr_True, qbr_False, q10, q01, e1, e2, e3, e4, e5, e6, e7, hcl 1 (by omega), hcl 2 (by omega), hcl 3 (by omega), hcl 4 (by omega), hcl 5 (by omega), hcl 6 (by omega), hcl 7 (by omega), Option.toList_some, List.cons_append, List.nil_append]
  exact nx C1 M1 S r H _ _ ⟨hI1, hW, hS1, hz⟩ (by omega) (by omega)
set_option maxRecDepth 100000 in
set_option maxHeartbeats 4000000 in
theorem lw_called {C M : qC} {S : qS} {r : Nat × Nat × Nat} {H : Nat → Nat → Nat → Bool} {Len i kc ks : Nat} {xs : Nat → Int32} (hI : lwI C M S r H) (hi : i + 8 ≤ Len) (hL : Len ≤ 4096) (hkc : kc ≤ 300 + i) (hks : ks ≤ 60000 + 128 * i) (nx : ∀ (C' M' : qC) (S' : qS) (r' : Nat × Nat × Nat) (H' : Nat → Nat → Nat → Bool) (kc' ks' : Nat), lwI C' M' S' r' H' → kc' ≤ kc + 4 → ks' ≤ ks + 1021 → AW (mL_law, 40, 600000, 7302250, some (Len, xs), fun r _ => r = some (.int 1)) 1142 [some (.retAddr 0), some (.ref 0), some (.ref 136), some (.int (nI i))] [] (wd C' M' r') kc' ks') : AW (mL_law, 40, 600000, 7302250, some (Len, xs), fun r _ => r = some (.int 1)) 1063 [some (.retAddr 0), some (.ref 0), some (.ref 136), some (.int (nI i))] [] (wd C M r) kc ks := by
  obtain ⟨hIn, hW, hS, hz⟩ := hI
  obtain ⟨h1, h2, h3, h4, h5, h6, h7, h8, h9, h10, h11⟩ := id hW
  have hr := hz.1
  have e1 : nI i + 1 = nI (i + 1) := nadd i 1
  have e2 : nI i + 2 = nI (i + 2) := nadd i 2
  have e3 : nI i + 3 = nI (i + 3) := nadd i 3
  have e4 : nI i + 4 = nI (i + 4) := nadd i 4
  have e5 : nI i + 5 = nI (i + 5) := nadd i 5
  have e6 : nI i + 6 = nI (i + 6) := nadd i 6
  have e7 : nI i + 7 = nI (i + 7) := nadd i 7
  have hcl : ∀ k, k < 8 → (nI (i + k)).toNatClampNeg = i + k := fun k hk => nI_clamp (by omega)
  refine oL_law_1063 _ _ _ _ _ _ ?_
  simp only [bL_law_1063, qsem, qopt_s, qopt2_s, qev, qxs, Nat.reduceEqDiff, reduceIte, and_true, true_and, and_false, false_and, and_self, or_true, true_or, qb_or, reduceCtorEq, qbr_True, qbr_False, q10, q01, e1, e2, e3, e4, e5, e6, e7, hcl 1 (by omega), hcl 2 (by omega), hcl 3 (by omega), hcl 4 (by omega), hcl 5 (by omega), hcl 6 (by omega), hcl 7 (by omega)]
  refine ⟨nI_vp (by omega) (by omega), ?_⟩
  refine kL_law_1069 (zX10_called h1 h2 h5 hIn.2.2.1 hIn.2.2.2.1 hIn.2.2.2.2.2.2.2.2.1) (rfl) (Nat.le_of_ble_eq_true rfl) (Nat.le_of_ble_eq_true rfl) (⟨by show kc + 0 ≤ 600000; omega, by show ks + 0 ≤ 7302250; omega⟩) ?_
  rintro _ _ ⟨rfl, rfl⟩
  refine oL_law_1072 _ _ _ _ _ _ ?_
  simp only [bL_law_1072, qsem, qopt_s, qopt2_s, qev, qxs, Nat.reduceEqDiff, reduceIte, and_true, true_and, and_false, false_and, and_self, or_true, true_or, qb_or, reduceCtorEq, qbr_True, qbr_False, q10, q01, e1, e2, e3, e4, e5, e6, e7, hcl 1 (by omega), hcl 2 (by omega), hcl 3 (by omega), hcl 4 (by omega), hcl 5 (by omega), hcl 6 (by omega), hcl 7 (by omega)]
  refine ⟨nI_vp (by omega) (by omega), ?_⟩
  refine kL_law_1078 (zX11_called hS h1 h2 h5) (rfl) (Nat.le_of_ble_eq_true rfl) (Nat.le_of_ble_eq_true rfl) (⟨by show kc + 0 + 0 ≤ 600000; omega, by show ks + 0 + 0 ≤ 7302250; omega⟩) ?_
  rintro _ _ ⟨M1, β, rfl, hS1, hβ, rfl⟩
  rw [nth_cg (γ := fun f => dc (cal S f)) (fun f hf => dc_of (hβ f hf)) (cF S) 0 (Nat.le_refl _)]
  refine oL_law_1081 _ _ _ _ _ _ ?_
  simp only [bL_law_1081, qsem, qopt_s, qopt2_s, qev, qxs, Nat.reduceEqDiff, reduceIte, and_true, true_and, and_false, false_and, and_self, or_true, true_or, qb_or, reduceCtorEq, qbr_True, qbr_False, q10, q01, e1, e2, e3, e4, e5, e6, e7, hcl 1 (by omega), hcl 2 (by omega), hcl 3 (by omega), hcl 4 (by omega), hcl 5 (by omega), hcl 6 (by omega), hcl 7 (by omega), Option.toList_some, List.cons_append, List.nil_append]
  exact nx C M1 S r H _ _ ⟨hIn, hW, hS1, hz⟩ (by omega) (by omega)
set_option maxRecDepth 100000 in
set_option maxHeartbeats 4000000 in
theorem lw_sealed {C M : qC} {S : qS} {r : Nat × Nat × Nat} {H : Nat → Nat → Nat → Bool} {Len i kc ks : Nat} {xs : Nat → Int32} (hI : lwI C M S r H) (hi : i + 8 ≤ Len) (hL : Len ≤ 4096) (hkc : kc ≤ 300 + i) (hks : ks ≤ 60000 + 128 * i) (nx : ∀ (C' M' : qC) (S' : qS) (r' : Nat × Nat × Nat) (H' : Nat → Nat → Nat → Bool) (kc' ks' : Nat), lwI C' M' S' r' H' → kc' ≤ kc + 4 → ks' ≤ ks + 1021 → AW (mL_law, 40, 600000, 7302250, some (Len, xs), fun r _ => r = some (.int 1)) 1142 [some (.retAddr 0), some (.ref 0), some (.ref 136), some (.int (nI i))] [] (wd C' M' r') kc' ks') : AW (mL_law, 40, 600000, 7302250, some (Len, xs), fun r _ => r = some (.int 1)) 938 [some (.retAddr 0), some (.ref 0), some (.ref 136), some (.int (nI i))] [] (wd C M r) kc ks := by
  obtain ⟨hIn, hW, hS, hz⟩ := hI
  obtain ⟨h1, h2, h3, h4, h5, h6, h7, h8, h9, h10, h11⟩ := id hW
  have hr := hz.1
  have e1 : nI i + 1 = nI (i + 1) := nadd i 1
  have e2 : nI i + 2 = nI (i + 2) := nadd i 2
  have e3 : nI i + 3 = nI (i + 3) := nadd i 3
  have e4 : nI i + 4 = nI (i + 4) := nadd i 4
  have e5 : nI i + 5 = nI (i + 5) := nadd i 5
  have e6 : nI i + 6 = nI (i + 6) := nadd i 6
  have e7 : nI i + 7 = nI (i + 7) := nadd i 7
  have hcl : ∀ k, k < 8 → (nI (i + k)).toNatClampNeg = i + k := fun k hk => nI_clamp (by omega)
  refine oL_law_938 _ _ _ _ _ _ ?_
  simp only [bL_law_938, qsem, qopt_s, qopt2_s, qev, qxs, Nat.reduceEqDiff, reduceIte, and_true, true_and, and_false, false_and, and_self, or_true, true_or, qb_or, reduceCtorEq, qbr_True, qbr_False, q10, q01, e1, e2, e3, e4, e5, e6, e7, hcl 1 (by omega), hcl 2 (by omega), hcl 3 (by omega), hcl 4 (by omega), hcl 5 (by omega), hcl 6 (by omega), hcl 7 (by omega)]
  refine ⟨nI_vp (by omega) (by omega), ?_⟩
  refine ⟨nI_vp (by omega) (by omega), ?_⟩
  refine kL_law_949 (zX10_sealed (b := dc (std S (xs (i + 1)).toNatClampNeg)) hW hIn (fun _ _ => dc_iff)) (rfl) (Nat.le_of_ble_eq_true rfl) (Nat.le_of_ble_eq_true rfl) (⟨by show kc + 0 ≤ 600000; omega, by show ks + 0 ≤ 7302250; omega⟩) ?_
  rintro _ _ ⟨rfl, rfl⟩
  refine oL_law_952 _ _ _ _ _ _ ?_
  simp only [bL_law_952, qsem, qopt_s, qopt2_s, qev, qxs, Nat.reduceEqDiff, reduceIte, and_true, true_and, and_false, false_and, and_self, or_true, true_or, qb_or, reduceCtorEq, qbr_True, qbr_False, q10, q01, e1, e2, e3, e4, e5, e6, e7, hcl 1 (by omega), hcl 2 (by omega), hcl 3 (by omega), hcl 4 (by omega), hcl 5 (by omega), hcl 6 (by omega), hcl 7 (by omega)]
  refine ⟨nI_vp (by omega) (by omega), ?_⟩
  refine ⟨nI_vp (by omega) (by omega), ?_⟩
  refine kL_law_963 (zX11_sealed hS h1 h2 h4 h5) (rfl) (Nat.le_of_ble_eq_true rfl) (Nat.le_of_ble_eq_true rfl) (⟨by show kc + 0 + 0 ≤ 600000; omega, by show ks + 0 + 0 ≤ 7302250; omega⟩) ?_
  rintro _ _ ⟨M1, b1, rfl, hS1, hb1, rfl⟩
  skip
  have ev : (if inN (xs (i + 1)) (cS S) then sel8 (xs (i + 2)) (slV S (dc (std S (xs (i + 1)).toNatClampNeg)) (xs (i + 1)).toNatClampNeg) else -1) = (if inN (xs (i + 1)) (cS S) then sel8 (xs (i + 2)) (slV S b1 (xs (i + 1)).toNatClampNeg) else -1) := by
    by_cases hw : xs (i + 2) = 6
    · by_cases ha : inN (xs (i + 1)) (cS S) = true
      · rw [dc_of (hb1 hw ha)]
      · rw [if_neg ha, if_neg ha]
    · rw [sl_b (b' := b1) hw]
  refine oL_law_966 _ _ _ _ _ _ ?_
  simp only [bL_law_966, qsem, qopt_s, qopt2_s, qev, qxs, Nat.reduceEqDiff, reduceIte, and_true, true_and, and_false, false_and, and_self, or_true, true_or, qb_or, reduceCtorEq, qbr_True, qbr_False, q10, q01, Option.toList_some, List.cons_append, List.nil_append, ev]
  exact nx C M1 S r H _ _ ⟨hIn, hW, hS1, hz⟩ (by omega) (by omega)
set_option maxRecDepth 100000 in
set_option maxHeartbeats 4000000 in
theorem lw_tries {C M : qC} {S : qS} {r : Nat × Nat × Nat} {H : Nat → Nat → Nat → Bool} {Len i kc ks : Nat} {xs : Nat → Int32} (hI : lwI C M S r H) (hi : i + 8 ≤ Len) (hL : Len ≤ 4096) (hkc : kc ≤ 300 + i) (hks : ks ≤ 60000 + 128 * i) (nx : ∀ (C' M' : qC) (S' : qS) (r' : Nat × Nat × Nat) (H' : Nat → Nat → Nat → Bool) (kc' ks' : Nat), lwI C' M' S' r' H' → kc' ≤ kc + 4 → ks' ≤ ks + 1021 → AW (mL_law, 40, 600000, 7302250, some (Len, xs), fun r _ => r = some (.int 1)) 1142 [some (.retAddr 0), some (.ref 0), some (.ref 136), some (.int (nI i))] [] (wd C' M' r') kc' ks') : AW (mL_law, 40, 600000, 7302250, some (Len, xs), fun r _ => r = some (.int 1)) 384 [some (.retAddr 0), some (.ref 0), some (.ref 136), some (.int (nI i))] [] (wd C M r) kc ks := by
  obtain ⟨hIn, hW, hS, hz⟩ := hI
  obtain ⟨h1, h2, h3, h4, h5, h6, h7, h8, h9, h10, h11⟩ := id hW
  have hr := hz.1
  have e1 : nI i + 1 = nI (i + 1) := nadd i 1
  have e2 : nI i + 2 = nI (i + 2) := nadd i 2
  have e3 : nI i + 3 = nI (i + 3) := nadd i 3
  have e4 : nI i + 4 = nI (i + 4) := nadd i 4
  have e5 : nI i + 5 = nI (i + 5) := nadd i 5
  have e6 : nI i + 6 = nI (i + 6) := nadd i 6
  have e7 : nI i + 7 = nI (i + 7) := nadd i 7
  have hcl : ∀ k, k < 8 → (nI (i + k)).toNatClampNeg = i + k := fun k hk => nI_clamp (by omega)
  generalize hg : decide (¬ xs (i + 3) = 0) = g
  have hgt : ¬ xs (i + 3) = 0 → g = true := fun q => by rw [← hg]; exact decide_eq_true q
  have hgf : xs (i + 3) = 0 → g = false := fun q => by rw [← hg]; exact decide_eq_false (fun z => z q)
  have at2 : ∀ (C1 : qC) (v : Int32), (∀ M1 S1, pj M1 = S1 → ((¬ sayOk S (xs (i + 1)) (xs (i + 2)) ∧ v = -1 ∧ S1 = S) ∨ (sayOk S (xs (i + 1)) (xs (i + 2)) ∧ v = nI (cN S) ∧ S1 = nA S (vS 2 (xs (i + 2)) (xs (i + 1)) (qb g)))) → lwI C1 M1 S1 r H) → (v = -1 ∧ ¬ sayOk S (xs (i + 1)) (xs (i + 2)) ∨ v = nI (cN S) ∧ sayOk S (xs (i + 1)) (xs (i + 2))) → AW (mL_law, 40, 600000, 7302250, some (Len, xs), fun r _ => r = some (.int 1)) 435 [some (.retAddr 0), some (.ref 0), some (.ref 136), some (.int (nI i))] [.int (qb g), .int (xs (i + 2)), .int (xs (i + 1)), .ref 136, .int v] (wd C1 M r) (kc + 0) (ks + 0) := by
    intro C1 v hC1 hv
    refine kL_law_435 (zX11_tries hS h1) rfl (Nat.le_of_ble_eq_true rfl) (Nat.le_of_ble_eq_true rfl) ⟨by show kc + 0 + 0 ≤ 600000; omega, by show ks + 0 + 0 ≤ 7302250; omega⟩ ?_
    rintro _ _ ⟨M1, rfl, ⟨hno2, rfl, hS1⟩ | ⟨hok2, rfl, hS1⟩⟩
    · rcases hv with ⟨rfl, -⟩ | ⟨-, hok⟩
      · refine oL_law_438 _ _ _ _ _ _ ?_
        simp only [bL_law_438, qsem, qopt_s, qopt2_s, qev, qxs, Nat.reduceEqDiff, reduceIte, and_true, true_and, and_false, false_and, and_self, or_true, true_or, qb_or, reduceCtorEq, qbr_True, qbr_False, q10, q01, Option.toList_some, List.cons_append, List.nil_append]
        exact nx C1 M1 _ r H _ _ (hC1 M1 S hS1 (Or.inl ⟨hno2, rfl, rfl⟩)) (by omega) (by omega)
      · exact absurd hok hno2
    · rcases hv with ⟨-, hno⟩ | ⟨rfl, -⟩
      · exact absurd hok2 hno
      · refine oL_law_438 _ _ _ _ _ _ ?_
        simp only [bL_law_438, qsem, qopt_s, qopt2_s, qev, qxs, Nat.reduceEqDiff, reduceIte, and_true, true_and, and_false, false_and, and_self, or_true, true_or, qb_or, reduceCtorEq, qbr_True, qbr_False, q10, q01, Option.toList_some, List.cons_append, List.nil_append]
        exact nx C1 M1 _ r H _ _ (hC1 M1 _ hS1 (Or.inr ⟨hok2, rfl, rfl⟩)) (by omega) (by omega)
  have at1 : AW (mL_law, 40, 600000, 7302250, some (Len, xs), fun r _ => r = some (.int 1)) 408 [some (.retAddr 0), some (.ref 0), some (.ref 136), some (.int (nI i))] [.int (qb g), .int (xs (i + 2)), .int (xs (i + 1)), .ref 0] (wd C M r) kc ks := by
    refine kL_law_408 (zX10_tries hr hW hIn) rfl (Nat.le_of_ble_eq_true rfl) (Nat.le_of_ble_eq_true rfl) ⟨by show kc + 0 ≤ 600000; omega, by show ks + 0 ≤ 7302250; omega⟩ ?_
    rintro _ _ ⟨C1, rfl, ⟨hno, rfl, hI1⟩ | ⟨hok, rfl, hI1, hW1⟩⟩
    · have a2 := at2 C1 (-1) (fun M1 S1 e q => by rcases q with ⟨-, -, rfl⟩ | ⟨q, -, -⟩; exact ⟨hI1, hW, e, hz⟩; exact absurd q hno) (Or.inl ⟨rfl, hno⟩)
      refine oL_law_411 _ _ _ _ _ _ ?_
      simp only [bL_law_411, qsem, qopt_s, qopt2_s, qev, qxs, Nat.reduceEqDiff, reduceIte, and_true, true_and, and_false, false_and, and_self, or_true, true_or, qb_or, reduceCtorEq, qbr_True, qbr_False, q10, q01, Option.toList_some, List.cons_append, List.nil_append, e1, e2, e3, e4, e5, e6, e7, hcl 1 (by omega), hcl 2 (by omega), hcl 3 (by omega), hcl 4 (by omega), hcl 5 (by omega), hcl 6 (by omega), hcl 7 (by omega)]
      refine ⟨nI_vp (by omega) (by omega), ?_⟩
      refine ⟨nI_vp (by omega) (by omega), ?_⟩
      refine ⟨nI_vp (by omega) (by omega), ?_⟩
      refine qbr_i (fun c1 => ?_) (fun c1 => ?_)
      · refine oL_law_434 _ _ _ _ _ _ ?_
        simp only [bL_law_434, qsem, qopt_s, qopt2_s, qev, qxs, Nat.reduceEqDiff, reduceIte, and_true, true_and, and_false, false_and, and_self, or_true, true_or, qb_or, reduceCtorEq, qbr_True, qbr_False, q10, q01, Option.toList_some, List.cons_append, List.nil_append, e1, e2, e3, e4, e5, e6, e7, hcl 1 (by omega), hcl 2 (by omega), hcl 3 (by omega), hcl 4 (by omega), hcl 5 (by omega), hcl 6 (by omega), hcl 7 (by omega)]
        first | (rw [hgf c1] at a2; exact a2) | (rw [hgt c1] at a2; exact a2)
      · first | (rw [hgf c1] at a2; exact a2) | (rw [hgt c1] at a2; exact a2)
    · have a2 := at2 C1 (nI (cN S)) (fun M1 S1 e q => by rcases q with ⟨q, -, -⟩ | ⟨-, -, rfl⟩; exact absurd hok q; exact ⟨hI1, hW1, e, hz⟩) (Or.inr ⟨rfl, hok⟩)
      refine oL_law_411 _ _ _ _ _ _ ?_
      simp only [bL_law_411, qsem, qopt_s, qopt2_s, qev, qxs, Nat.reduceEqDiff, reduceIte, and_true, true_and, and_false, false_and, and_self, or_true, true_or, qb_or, reduceCtorEq, qbr_True, qbr_False, q10, q01, Option.toList_some, List.cons_append, List.nil_append, e1, e2, e3, e4, e5, e6, e7, hcl 1 (by omega), hcl 2 (by omega), hcl 3 (by omega), hcl 4 (by omega), hcl 5 (by omega), hcl 6 (by omega), hcl 7 (by omega)]
      refine ⟨nI_vp (by omega) (by omega), ?_⟩
      refine ⟨nI_vp (by omega) (by omega), ?_⟩
      refine ⟨nI_vp (by omega) (by omega), ?_⟩
      refine qbr_i (fun c1 => ?_) (fun c1 => ?_)
      · refine oL_law_434 _ _ _ _ _ _ ?_
        simp only [bL_law_434, qsem, qopt_s, qopt2_s, qev, qxs, Nat.reduceEqDiff, reduceIte, and_true, true_and, and_false, false_and, and_self, or_true, true_or, qb_or, reduceCtorEq, qbr_True, qbr_False, q10, q01, Option.toList_some, List.cons_append, List.nil_append, e1, e2, e3, e4, e5, e6, e7, hcl 1 (by omega), hcl 2 (by omega), hcl 3 (by omega), hcl 4 (by omega), hcl 5 (by omega), hcl 6 (by omega), hcl 7 (by omega)]
        first | (rw [hgf c1] at a2; exact a2) | (rw [hgt c1] at a2; exact a2)
      · first | (rw [hgf c1] at a2; exact a2) | (rw [hgt c1] at a2; exact a2)
  refine oL_law_384 _ _ _ _ _ _ ?_
  simp only [bL_law_384, qsem, qopt_s, qopt2_s, qev, qxs, Nat.reduceEqDiff, reduceIte, and_true, true_and, and_false, false_and, and_self, or_true, true_or, qb_or, reduceCtorEq, qbr_True, qbr_False, q10, q01, e1, e2, e3, e4, e5, e6, e7, hcl 1 (by omega), hcl 2 (by omega), hcl 3 (by omega), hcl 4 (by omega), hcl 5 (by omega), hcl 6 (by omega), hcl 7 (by omega)]
  refine ⟨nI_vp (by omega) (by omega), ?_⟩
  refine ⟨nI_vp (by omega) (by omega), ?_⟩
  refine ⟨nI_vp (by omega) (by omega), ?_⟩
  refine qbr_i (fun c1 => ?_) (fun c1 => ?_)
  · refine oL_law_407 _ _ _ _ _ _ ?_
    simp only [bL_law_407, qsem, qopt_s, qopt2_s, qev, qxs, Nat.reduceEqDiff, reduceIte, and_true, true_and, and_false, false_and, and_self, or_true, true_or, qb_or, reduceCtorEq, qbr_True, qbr_False, q10, q01, e1, e2, e3, e4, e5, e6, e7, hcl 1 (by omega), hcl 2 (by omega), hcl 3 (by omega), hcl 4 (by omega), hcl 5 (by omega), hcl 6 (by omega), hcl 7 (by omega)]
    first | (rw [hgf c1] at at1; exact at1) | (rw [hgt c1] at at1; exact at1)
  · first | (rw [hgf c1] at at1; exact at1) | (rw [hgt c1] at at1; exact at1)
set_option maxRecDepth 100000 in
set_option maxHeartbeats 4000000 in
theorem lw_review {C M : qC} {S : qS} {r : Nat × Nat × Nat} {H : Nat → Nat → Nat → Bool} {Len i kc ks : Nat} {xs : Nat → Int32} (hI : lwI C M S r H) (hi : i + 8 ≤ Len) (hL : Len ≤ 4096) (hkc : kc ≤ 300 + i) (hks : ks ≤ 60000 + 128 * i) (nx : ∀ (C' M' : qC) (S' : qS) (r' : Nat × Nat × Nat) (H' : Nat → Nat → Nat → Bool) (kc' ks' : Nat), lwI C' M' S' r' H' → kc' ≤ kc + 4 → ks' ≤ ks + 1021 → AW (mL_law, 40, 600000, 7302250, some (Len, xs), fun r _ => r = some (.int 1)) 1142 [some (.retAddr 0), some (.ref 0), some (.ref 136), some (.int (nI i))] [] (wd C' M' r') kc' ks') : AW (mL_law, 40, 600000, 7302250, some (Len, xs), fun r _ => r = some (.int 1)) 443 [some (.retAddr 0), some (.ref 0), some (.ref 136), some (.int (nI i))] [] (wd C M r) kc ks := by
  obtain ⟨hIn, hW, hS, hz⟩ := hI
  obtain ⟨h1, h2, h3, h4, h5, h6, h7, h8, h9, h10, h11⟩ := id hW
  have hr := hz.1
  have e1 : nI i + 1 = nI (i + 1) := nadd i 1
  have e2 : nI i + 2 = nI (i + 2) := nadd i 2
  have e3 : nI i + 3 = nI (i + 3) := nadd i 3
  have e4 : nI i + 4 = nI (i + 4) := nadd i 4
  have e5 : nI i + 5 = nI (i + 5) := nadd i 5
  have e6 : nI i + 6 = nI (i + 6) := nadd i 6
  have e7 : nI i + 7 = nI (i + 7) := nadd i 7
  have hcl : ∀ k, k < 8 → (nI (i + k)).toNatClampNeg = i + k := fun k hk => nI_clamp (by omega)
  generalize hg : decide (¬ xs (i + 3) = 0) = g
  have hgt : ¬ xs (i + 3) = 0 → g = true := fun q => by rw [← hg]; exact decide_eq_true q
  have hgf : xs (i + 3) = 0 → g = false := fun q => by rw [← hg]; exact decide_eq_false (fun z => z q)
  have at2 : ∀ (C1 : qC) (v : Int32), (∀ M1 S1, pj M1 = S1 → ((¬ sayOk S (xs (i + 1)) (xs (i + 2)) ∧ v = -1 ∧ S1 = S) ∨ (sayOk S (xs (i + 1)) (xs (i + 2)) ∧ v = nI (cN S) ∧ S1 = nA S (vS 3 (xs (i + 2)) (xs (i + 1)) (qb g)))) → lwI C1 M1 S1 r H) → (v = -1 ∧ ¬ sayOk S (xs (i + 1)) (xs (i + 2)) ∨ v = nI (cN S) ∧ sayOk S (xs (i + 1)) (xs (i + 2))) → AW (mL_law, 40, 600000, 7302250, some (Len, xs), fun r _ => r = some (.int 1)) 494 [some (.retAddr 0), some (.ref 0), some (.ref 136), some (.int (nI i))] [.int (qb g), .int (xs (i + 2)), .int (xs (i + 1)), .ref 136, .int v] (wd C1 M r) (kc + 0) (ks + 0) := by
    intro C1 v hC1 hv
    refine kL_law_494 (zX11_review hS h1) rfl (Nat.le_of_ble_eq_true rfl) (Nat.le_of_ble_eq_true rfl) ⟨by show kc + 0 + 0 ≤ 600000; omega, by show ks + 0 + 0 ≤ 7302250; omega⟩ ?_
    rintro _ _ ⟨M1, rfl, ⟨hno2, rfl, hS1⟩ | ⟨hok2, rfl, hS1⟩⟩
    · rcases hv with ⟨rfl, -⟩ | ⟨-, hok⟩
      · refine oL_law_497 _ _ _ _ _ _ ?_
        simp only [bL_law_497, qsem, qopt_s, qopt2_s, qev, qxs, Nat.reduceEqDiff, reduceIte, and_true, true_and, and_false, false_and, and_self, or_true, true_or, qb_or, reduceCtorEq, qbr_True, qbr_False, q10, q01, Option.toList_some, List.cons_append, List.nil_append]
        exact nx C1 M1 _ r H _ _ (hC1 M1 S hS1 (Or.inl ⟨hno2, rfl, rfl⟩)) (by omega) (by omega)
      · exact absurd hok hno2
    · rcases hv with ⟨-, hno⟩ | ⟨rfl, -⟩
      · exact absurd hok2 hno
      · refine oL_law_497 _ _ _ _ _ _ ?_
        simp only [bL_law_497, qsem, qopt_s, qopt2_s, qev, qxs, Nat.reduceEqDiff, reduceIte, and_true, true_and, and_false, false_and, and_self, or_true, true_or, qb_or, reduceCtorEq, qbr_True, qbr_False, q10, q01, Option.toList_some, List.cons_append, List.nil_append]
        exact nx C1 M1 _ r H _ _ (hC1 M1 _ hS1 (Or.inr ⟨hok2, rfl, rfl⟩)) (by omega) (by omega)
  have at1 : AW (mL_law, 40, 600000, 7302250, some (Len, xs), fun r _ => r = some (.int 1)) 467 [some (.retAddr 0), some (.ref 0), some (.ref 136), some (.int (nI i))] [.int (qb g), .int (xs (i + 2)), .int (xs (i + 1)), .ref 0] (wd C M r) kc ks := by
    refine kL_law_467 (zX10_review hr hW hIn) rfl (Nat.le_of_ble_eq_true rfl) (Nat.le_of_ble_eq_true rfl) ⟨by show kc + 0 ≤ 600000; omega, by show ks + 0 ≤ 7302250; omega⟩ ?_
    rintro _ _ ⟨C1, rfl, ⟨hno, rfl, hI1⟩ | ⟨hok, rfl, hI1, hW1⟩⟩
    · have a2 := at2 C1 (-1) (fun M1 S1 e q => by rcases q with ⟨-, -, rfl⟩ | ⟨q, -, -⟩; exact ⟨hI1, hW, e, hz⟩; exact absurd q hno) (Or.inl ⟨rfl, hno⟩)
      refine oL_law_470 _ _ _ _ _ _ ?_
      simp only [bL_law_470, qsem, qopt_s, qopt2_s, qev, qxs, Nat.reduceEqDiff, reduceIte, and_true, true_and, and_false, false_and, and_self, or_true, true_or, qb_or, reduceCtorEq, qbr_True, qbr_False, q10, q01, Option.toList_some, List.cons_append, List.nil_append, e1, e2, e3, e4, e5, e6, e7, hcl 1 (by omega), hcl 2 (by omega), hcl 3 (by omega), hcl 4 (by omega), hcl 5 (by omega), hcl 6 (by omega), hcl 7 (by omega)]
      refine ⟨nI_vp (by omega) (by omega), ?_⟩
      refine ⟨nI_vp (by omega) (by omega), ?_⟩
      refine ⟨nI_vp (by omega) (by omega), ?_⟩
      refine qbr_i (fun c1 => ?_) (fun c1 => ?_)
      · refine oL_law_493 _ _ _ _ _ _ ?_
        simp only [bL_law_493, qsem, qopt_s, qopt2_s, qev, qxs, Nat.reduceEqDiff, reduceIte, and_true, true_and, and_false, false_and, and_self, or_true, true_or, qb_or, reduceCtorEq, qbr_True, qbr_False, q10, q01, Option.toList_some, List.cons_append, List.nil_append, e1, e2, e3, e4, e5, e6, e7, hcl 1 (by omega), hcl 2 (by omega), hcl 3 (by omega), hcl 4 (by omega), hcl 5 (by omega), hcl 6 (by omega), hcl 7 (by omega)]
        first | (rw [hgf c1] at a2; exact a2) | (rw [hgt c1] at a2; exact a2)
      · first | (rw [hgf c1] at a2; exact a2) | (rw [hgt c1] at a2; exact a2)
    · have a2 := at2 C1 (nI (cN S)) (fun M1 S1 e q => by rcases q with ⟨q, -, -⟩ | ⟨-, -, rfl⟩; exact absurd hok q; exact ⟨hI1, hW1, e, hz⟩) (Or.inr ⟨rfl, hok⟩)
      refine oL_law_470 _ _ _ _ _ _ ?_
      simp only [bL_law_470, qsem, qopt_s, qopt2_s, qev, qxs, Nat.reduceEqDiff, reduceIte, and_true, true_and, and_false, false_and, and_self, or_true, true_or, qb_or, reduceCtorEq, qbr_True, qbr_False, q10, q01, Option.toList_some, List.cons_append, List.nil_append, e1, e2, e3, e4, e5, e6, e7, hcl 1 (by omega), hcl 2 (by omega), hcl 3 (by omega), hcl 4 (by omega), hcl 5 (by omega), hcl 6 (by omega), hcl 7 (by omega)]
      refine ⟨nI_vp (by omega) (by omega), ?_⟩
      refine ⟨nI_vp (by omega) (by omega), ?_⟩
      refine ⟨nI_vp (by omega) (by omega), ?_⟩
      refine qbr_i (fun c1 => ?_) (fun c1 => ?_)
      · refine oL_law_493 _ _ _ _ _ _ ?_
        simp only [bL_law_493, qsem, qopt_s, qopt2_s, qev, qxs, Nat.reduceEqDiff, reduceIte, and_true, true_and, and_false, false_and, and_self, or_true, true_or, qb_or, reduceCtorEq, qbr_True, qbr_False, q10, q01, Option.toList_some, List.cons_append, List.nil_append, e1, e2, e3, e4, e5, e6, e7, hcl 1 (by omega), hcl 2 (by omega), hcl 3 (by omega), hcl 4 (by omega), hcl 5 (by omega), hcl 6 (by omega), hcl 7 (by omega)]
        first | (rw [hgf c1] at a2; exact a2) | (rw [hgt c1] at a2; exact a2)
      · first | (rw [hgf c1] at a2; exact a2) | (rw [hgt c1] at a2; exact a2)
  refine oL_law_443 _ _ _ _ _ _ ?_
  simp only [bL_law_443, qsem, qopt_s, qopt2_s, qev, qxs, Nat.reduceEqDiff, reduceIte, and_true, true_and, and_false, false_and, and_self, or_true, true_or, qb_or, reduceCtorEq, qbr_True, qbr_False, q10, q01, e1, e2, e3, e4, e5, e6, e7, hcl 1 (by omega), hcl 2 (by omega), hcl 3 (by omega), hcl 4 (by omega), hcl 5 (by omega), hcl 6 (by omega), hcl 7 (by omega)]
  refine ⟨nI_vp (by omega) (by omega), ?_⟩
  refine ⟨nI_vp (by omega) (by omega), ?_⟩
  refine ⟨nI_vp (by omega) (by omega), ?_⟩
  refine qbr_i (fun c1 => ?_) (fun c1 => ?_)
  · refine oL_law_466 _ _ _ _ _ _ ?_
    simp only [bL_law_466, qsem, qopt_s, qopt2_s, qev, qxs, Nat.reduceEqDiff, reduceIte, and_true, true_and, and_false, false_and, and_self, or_true, true_or, qb_or, reduceCtorEq, qbr_True, qbr_False, q10, q01, e1, e2, e3, e4, e5, e6, e7, hcl 1 (by omega), hcl 2 (by omega), hcl 3 (by omega), hcl 4 (by omega), hcl 5 (by omega), hcl 6 (by omega), hcl 7 (by omega)]
    first | (rw [hgf c1] at at1; exact at1) | (rw [hgt c1] at at1; exact at1)
  · first | (rw [hgf c1] at at1; exact at1) | (rw [hgt c1] at at1; exact at1)
set_option maxRecDepth 100000 in
set_option maxHeartbeats 4000000 in
theorem lw_recall {C M : qC} {S : qS} {r : Nat × Nat × Nat} {H : Nat → Nat → Nat → Bool} {Len i kc ks : Nat} {xs : Nat → Int32} (hI : lwI C M S r H) (hi : i + 8 ≤ Len) (hL : Len ≤ 4096) (hkc : kc ≤ 300 + i) (hks : ks ≤ 60000 + 128 * i) (nx : ∀ (C' M' : qC) (S' : qS) (r' : Nat × Nat × Nat) (H' : Nat → Nat → Nat → Bool) (kc' ks' : Nat), lwI C' M' S' r' H' → kc' ≤ kc + 4 → ks' ≤ ks + 1021 → AW (mL_law, 40, 600000, 7302250, some (Len, xs), fun r _ => r = some (.int 1)) 1142 [some (.retAddr 0), some (.ref 0), some (.ref 136), some (.int (nI i))] [] (wd C' M' r') kc' ks') : AW (mL_law, 40, 600000, 7302250, some (Len, xs), fun r _ => r = some (.int 1)) 785 [some (.retAddr 0), some (.ref 0), some (.ref 136), some (.int (nI i))] [] (wd C M r) kc ks := by
  obtain ⟨hIn, hW, hS, hz⟩ := hI
  obtain ⟨h1, h2, h3, h4, h5, h6, h7, h8, h9, h10, h11⟩ := id hW
  have hr := hz.1
  have e1 : nI i + 1 = nI (i + 1) := nadd i 1
  have e2 : nI i + 2 = nI (i + 2) := nadd i 2
  have e3 : nI i + 3 = nI (i + 3) := nadd i 3
  have e4 : nI i + 4 = nI (i + 4) := nadd i 4
  have e5 : nI i + 5 = nI (i + 5) := nadd i 5
  have e6 : nI i + 6 = nI (i + 6) := nadd i 6
  have e7 : nI i + 7 = nI (i + 7) := nadd i 7
  have hcl : ∀ k, k < 8 → (nI (i + k)).toNatClampNeg = i + k := fun k hk => nI_clamp (by omega)
  refine oL_law_785 _ _ _ _ _ _ ?_
  simp only [bL_law_785, qsem, qopt_s, qopt2_s, qev, qxs, Nat.reduceEqDiff, reduceIte, and_true, true_and, and_false, false_and, and_self, or_true, true_or, qb_or, reduceCtorEq, qbr_True, qbr_False, q10, q01, e1, e2, e3, e4, e5, e6, e7, hcl 1 (by omega), hcl 2 (by omega), hcl 3 (by omega), hcl 4 (by omega), hcl 5 (by omega), hcl 6 (by omega), hcl 7 (by omega)]
  refine ⟨nI_vp (by omega) (by omega), ?_⟩
  refine ⟨nI_vp (by omega) (by omega), ?_⟩
  refine ⟨nI_vp (by omega) (by omega), ?_⟩
  refine kL_law_801 (zX10_recall hr hW hIn) (rfl) (Nat.le_of_ble_eq_true rfl) (Nat.le_of_ble_eq_true rfl) (⟨by show kc + 0 ≤ 600000; omega, by show ks + 0 ≤ 7302250; omega⟩) ?_
  rintro _ _ ⟨C1, rfl, ⟨hno, rfl, hI1⟩ | ⟨hok, rfl, hI1, hW1⟩⟩
  skip
  · refine oL_law_804 _ _ _ _ _ _ ?_
    simp only [bL_law_804, qsem, qopt_s, qopt2_s, qev, qxs, Nat.reduceEqDiff, reduceIte, and_true, true_and, and_false, false_and, and_self, or_true, true_or, qb_or, reduceCtorEq, qbr_True, qbr_False, q10, q01, e1, e2, e3, e4, e5, e6, e7, hcl 1 (by omega), hcl 2 (by omega), hcl 3 (by omega), hcl 4 (by omega), hcl 5 (by omega), hcl 6 (by omega), hcl 7 (by omega)]
    refine ⟨nI_vp (by omega) (by omega), ?_⟩
    refine ⟨nI_vp (by omega) (by omega), ?_⟩
    refine ⟨nI_vp (by omega) (by omega), ?_⟩
    refine kL_law_820 (zX11_recall hS h1 h2 h5) (rfl) (Nat.le_of_ble_eq_true rfl) (Nat.le_of_ble_eq_true rfl) (⟨by show kc + 0 + 0 ≤ 600000; omega, by show ks + 0 + 0 ≤ 7302250; omega⟩) ?_
    rintro _ _ ⟨M1, rfl, ⟨hno2, rfl, hS1⟩ | ⟨hok2, -⟩⟩
    skip
    · refine oL_law_823 _ _ _ _ _ _ ?_
      simp only [bL_law_823, qsem, qopt_s, qopt2_s, qev, qxs, Nat.reduceEqDiff, reduceIte, and_true, true_and, and_false, false_and, and_self, or_true, true_or, qb_or, reduceCtorEq, qbr_True, qbr_False, q10, q01, Option.toList_some, List.cons_append, List.nil_append]
      exact nx C1 M1 _ r H _ _ ⟨hI1, hW, hS1, hz⟩ (by omega) (by omega)
    · exact absurd hok2 hno
  · refine oL_law_804 _ _ _ _ _ _ ?_
    simp only [bL_law_804, qsem, qopt_s, qopt2_s, qev, qxs, Nat.reduceEqDiff, reduceIte, and_true, true_and, and_false, false_and, and_self, or_true, true_or, qb_or, reduceCtorEq, qbr_True, qbr_False, q10, q01, e1, e2, e3, e4, e5, e6, e7, hcl 1 (by omega), hcl 2 (by omega), hcl 3 (by omega), hcl 4 (by omega), hcl 5 (by omega), hcl 6 (by omega), hcl 7 (by omega)]
    refine ⟨nI_vp (by omega) (by omega), ?_⟩
    refine ⟨nI_vp (by omega) (by omega), ?_⟩
    refine ⟨nI_vp (by omega) (by omega), ?_⟩
    refine kL_law_820 (zX11_recall hS h1 h2 h5) (rfl) (Nat.le_of_ble_eq_true rfl) (Nat.le_of_ble_eq_true rfl) (⟨by show kc + 0 + 0 ≤ 600000; omega, by show ks + 0 + 0 ≤ 7302250; omega⟩) ?_
    rintro _ _ ⟨M1, rfl, ⟨hno2, -⟩ | ⟨hok2, hS1, β, hβ, rfl⟩⟩
    skip
    · exact absurd hok hno2
    · rw [ct_dc hβ]
      refine oL_law_823 _ _ _ _ _ _ ?_
      simp only [bL_law_823, qsem, qopt_s, qopt2_s, qev, qxs, Nat.reduceEqDiff, reduceIte, and_true, true_and, and_false, false_and, and_self, or_true, true_or, qb_or, reduceCtorEq, qbr_True, qbr_False, q10, q01, Option.toList_some, List.cons_append, List.nil_append]
      exact nx C1 M1 _ r H _ _ ⟨hI1, hW1, hS1, hz⟩ (by omega) (by omega)
set_option maxRecDepth 100000 in
set_option maxHeartbeats 4000000 in
theorem lw_fault {C M : qC} {S : qS} {r : Nat × Nat × Nat} {H : Nat → Nat → Nat → Bool} {Len i kc ks : Nat} {xs : Nat → Int32} (hI : lwI C M S r H) (hi : i + 8 ≤ Len) (hL : Len ≤ 4096) (hkc : kc ≤ 300 + i) (hks : ks ≤ 60000 + 128 * i) (nx : ∀ (C' M' : qC) (S' : qS) (r' : Nat × Nat × Nat) (H' : Nat → Nat → Nat → Bool) (kc' ks' : Nat), lwI C' M' S' r' H' → kc' ≤ kc + 4 → ks' ≤ ks + 1021 → AW (mL_law, 40, 600000, 7302250, some (Len, xs), fun r _ => r = some (.int 1)) 1142 [some (.retAddr 0), some (.ref 0), some (.ref 136), some (.int (nI i))] [] (wd C' M' r') kc' ks') : AW (mL_law, 40, 600000, 7302250, some (Len, xs), fun r _ => r = some (.int 1)) 548 [some (.retAddr 0), some (.ref 0), some (.ref 136), some (.int (nI i))] [] (wd C M r) kc ks := by
  obtain ⟨hIn, hW, hS, hz⟩ := hI
  obtain ⟨h1, h2, h3, h4, h5, h6, h7, h8, h9, h10, h11⟩ := id hW
  have hr := hz.1
  have e1 : nI i + 1 = nI (i + 1) := nadd i 1
  have e2 : nI i + 2 = nI (i + 2) := nadd i 2
  have e3 : nI i + 3 = nI (i + 3) := nadd i 3
  have e4 : nI i + 4 = nI (i + 4) := nadd i 4
  have e5 : nI i + 5 = nI (i + 5) := nadd i 5
  have e6 : nI i + 6 = nI (i + 6) := nadd i 6
  have e7 : nI i + 7 = nI (i + 7) := nadd i 7
  have hcl : ∀ k, k < 8 → (nI (i + k)).toNatClampNeg = i + k := fun k hk => nI_clamp (by omega)
  refine oL_law_548 _ _ _ _ _ _ ?_
  simp only [bL_law_548, qsem, qopt_s, qopt2_s, qev, qxs, Nat.reduceEqDiff, reduceIte, and_true, true_and, and_false, false_and, and_self, or_true, true_or, qb_or, reduceCtorEq, qbr_True, qbr_False, q10, q01, e1, e2, e3, e4, e5, e6, e7, hcl 1 (by omega), hcl 2 (by omega), hcl 3 (by omega), hcl 4 (by omega), hcl 5 (by omega), hcl 6 (by omega), hcl 7 (by omega)]
  refine kL_law_549 (zX10_fault hr hW hIn) (rfl) (Nat.le_of_ble_eq_true rfl) (Nat.le_of_ble_eq_true rfl) (⟨by show kc + 0 ≤ 600000; omega, by show ks + 0 ≤ 7302250; omega⟩) ?_
  rintro _ _ ⟨C1, rfl, hI1, ⟨rfl, B, hR, he⟩ | ⟨e, he, rfl, hf⟩⟩
  skip
  · refine oL_law_552 _ _ _ _ _ _ ?_
    simp only [bL_law_552, qsem, qopt_s, qopt2_s, qev, qxs, Nat.reduceEqDiff, reduceIte, and_true, true_and, and_false, false_and, and_self, or_true, true_or, qb_or, reduceCtorEq, qbr_True, qbr_False, q10, q01, e1, e2, e3, e4, e5, e6, e7, hcl 1 (by omega), hcl 2 (by omega), hcl 3 (by omega), hcl 4 (by omega), hcl 5 (by omega), hcl 6 (by omega), hcl 7 (by omega)]
    refine kL_law_553 (zX11_fault hS h1 h9) (rfl) (Nat.le_of_ble_eq_true rfl) (Nat.le_of_ble_eq_true rfl) (⟨by show kc + 0 + 0 ≤ 600000; omega, by show ks + 0 + 0 ≤ 7302250; omega⟩) ?_
    rintro _ _ ⟨M1, rfl, hS1, ⟨rfl, -⟩ | ⟨e2, -, rfl, hf2⟩⟩
    skip
    · refine oL_law_556 _ _ _ _ _ _ ?_
      simp only [bL_law_556, qsem, qopt_s, qopt2_s, qev, qxs, Nat.reduceEqDiff, reduceIte, and_true, true_and, and_false, false_and, and_self, or_true, true_or, qb_or, reduceCtorEq, qbr_True, qbr_False, q10, q01, Option.toList_some, List.cons_append, List.nil_append]
      exact nx C1 M1 _ r H _ _ ⟨hI1, hW, hS1, hz⟩ (by omega) (by omega)
    · exact (flt_not hf2 hR he).elim
  · refine oL_law_552 _ _ _ _ _ _ ?_
    simp only [bL_law_552, qsem, qopt_s, qopt2_s, qev, qxs, Nat.reduceEqDiff, reduceIte, and_true, true_and, and_false, false_and, and_self, or_true, true_or, qb_or, reduceCtorEq, qbr_True, qbr_False, q10, q01, e1, e2, e3, e4, e5, e6, e7, hcl 1 (by omega), hcl 2 (by omega), hcl 3 (by omega), hcl 4 (by omega), hcl 5 (by omega), hcl 6 (by omega), hcl 7 (by omega)]
    refine kL_law_553 (zX11_fault hS h1 h9) (rfl) (Nat.le_of_ble_eq_true rfl) (Nat.le_of_ble_eq_true rfl) (⟨by show kc + 0 + 0 ≤ 600000; omega, by show ks + 0 + 0 ≤ 7302250; omega⟩) ?_
    rintro _ _ ⟨M1, rfl, hS1, ⟨rfl, p2, s2, cs2, ss, φ, -, -, -, hru⟩ | ⟨e2, -, rfl, hf2⟩⟩
    skip
    · obtain ⟨B, hR, hend, -, -⟩ := ruG_e hru
      exact (flt_not hf hR hend).elim
    · rw [flt_one hf2 hf]
      refine oL_law_556 _ _ _ _ _ _ ?_
      simp only [bL_law_556, qsem, qopt_s, qopt2_s, qev, qxs, Nat.reduceEqDiff, reduceIte, and_true, true_and, and_false, false_and, and_self, or_true, true_or, qb_or, reduceCtorEq, qbr_True, qbr_False, q10, q01, Option.toList_some, List.cons_append, List.nil_append]
      exact nx C1 M1 _ r H _ _ ⟨hI1, hW, hS1, hz⟩ (by omega) (by omega)
set_option maxRecDepth 100000 in
set_option maxHeartbeats 4000000 in
theorem lw_rule {C M : qC} {S : qS} {r : Nat × Nat × Nat} {H : Nat → Nat → Nat → Bool} {Len i kc ks : Nat} {xs : Nat → Int32} (hI : lwI C M S r H) (hi : i + 8 ≤ Len) (hL : Len ≤ 4096) (hkc : kc ≤ 300 + i) (hks : ks ≤ 60000 + 128 * i) (nx : ∀ (C' M' : qC) (S' : qS) (r' : Nat × Nat × Nat) (H' : Nat → Nat → Nat → Bool) (kc' ks' : Nat), lwI C' M' S' r' H' → kc' ≤ kc + 4 → ks' ≤ ks + 1021 → AW (mL_law, 40, 600000, 7302250, some (Len, xs), fun r _ => r = some (.int 1)) 1142 [some (.retAddr 0), some (.ref 0), some (.ref 136), some (.int (nI i))] [] (wd C' M' r') kc' ks') : AW (mL_law, 40, 600000, 7302250, some (Len, xs), fun r _ => r = some (.int 1)) 561 [some (.retAddr 0), some (.ref 0), some (.ref 136), some (.int (nI i))] [] (wd C M r) kc ks := by
  obtain ⟨hIn, hW, hS, hz⟩ := hI
  obtain ⟨h1, h2, h3, h4, h5, h6, h7, h8, h9, h10, h11⟩ := id hW
  have hr := hz.1
  have e1 : nI i + 1 = nI (i + 1) := nadd i 1
  have e2 : nI i + 2 = nI (i + 2) := nadd i 2
  have e3 : nI i + 3 = nI (i + 3) := nadd i 3
  have e4 : nI i + 4 = nI (i + 4) := nadd i 4
  have e5 : nI i + 5 = nI (i + 5) := nadd i 5
  have e6 : nI i + 6 = nI (i + 6) := nadd i 6
  have e7 : nI i + 7 = nI (i + 7) := nadd i 7
  have hcl : ∀ k, k < 8 → (nI (i + k)).toNatClampNeg = i + k := fun k hk => nI_clamp (by omega)
  refine oL_law_561 _ _ _ _ _ _ ?_
  simp only [bL_law_561, qsem, qopt_s, qopt2_s, qev, qxs, Nat.reduceEqDiff, reduceIte, and_true, true_and, and_false, false_and, and_self, or_true, true_or, qb_or, reduceCtorEq, qbr_True, qbr_False, q10, q01, e1, e2, e3, e4, e5, e6, e7, hcl 1 (by omega), hcl 2 (by omega), hcl 3 (by omega), hcl 4 (by omega), hcl 5 (by omega), hcl 6 (by omega), hcl 7 (by omega)]
  refine kL_law_562 (zX10_rule hz hW hIn) (rfl) (Nat.le_of_ble_eq_true rfl) (Nat.le_of_ble_eq_true rfl) (⟨by show kc + 4 ≤ 600000; omega, by show ks + 1021 ≤ 7302250; omega⟩) ?_
  rintro _ _ (⟨C1, rfl, hI1, rfl, hwhy⟩ | ⟨h20, B, hR, he, C1, k, rfl, rfl, hall⟩)
  skip
  · refine oL_law_565 _ _ _ _ _ _ ?_
    simp only [bL_law_565, qsem, qopt_s, qopt2_s, qev, qxs, Nat.reduceEqDiff, reduceIte, and_true, true_and, and_false, false_and, and_self, or_true, true_or, qb_or, reduceCtorEq, qbr_True, qbr_False, q10, q01, e1, e2, e3, e4, e5, e6, e7, hcl 1 (by omega), hcl 2 (by omega), hcl 3 (by omega), hcl 4 (by omega), hcl 5 (by omega), hcl 6 (by omega), hcl 7 (by omega)]
    refine kL_law_566 (zX11_rule hS h1 h9) (rfl) (Nat.le_of_ble_eq_true rfl) (Nat.le_of_ble_eq_true rfl) (⟨by show kc + 4 + 0 ≤ 600000; omega, by show ks + 1021 + 0 ≤ 7302250; omega⟩) ?_
    rintro _ _ ⟨M1, rfl, ⟨-, rfl, hS1⟩ | ⟨h20, f, ss, φ, hru, -, -, -⟩⟩
    skip
    · refine oL_law_569 _ _ _ _ _ _ ?_
      simp only [bL_law_569, qsem, qopt_s, qopt2_s, qev, qxs, Nat.reduceEqDiff, reduceIte, and_true, true_and, and_false, false_and, and_self, or_true, true_or, qb_or, reduceCtorEq, qbr_True, qbr_False, q10, q01, Option.toList_some, List.cons_append, List.nil_append]
      exact nx C1 M1 _ r H _ _ ⟨hI1, hW, hS1, hz⟩ (by omega) (by omega)
    · exfalso
      rcases hwhy with q | ⟨e, -, hf⟩
      · exact h20 q
      · obtain ⟨B, hR, hend, -, -⟩ := ruG_e hru
        exact flt_not hf hR hend
  · refine oL_law_565 _ _ _ _ _ _ ?_
    simp only [bL_law_565, qsem, qopt_s, qopt2_s, qev, qxs, Nat.reduceEqDiff, reduceIte, and_true, true_and, and_false, false_and, and_self, or_true, true_or, qb_or, reduceCtorEq, qbr_True, qbr_False, q10, q01, e1, e2, e3, e4, e5, e6, e7, hcl 1 (by omega), hcl 2 (by omega), hcl 3 (by omega), hcl 4 (by omega), hcl 5 (by omega), hcl 6 (by omega), hcl 7 (by omega)]
    refine kL_law_566 (zX11_rule hS h1 h9) (rfl) (Nat.le_of_ble_eq_true rfl) (Nat.le_of_ble_eq_true rfl) (⟨by show kc + 4 + 0 ≤ 600000; omega, by show ks + 1021 + 0 ≤ 7302250; omega⟩) ?_
    rintro _ _ ⟨M1, rfl, ⟨hwhy, -, -⟩ | ⟨-, f, ss, φ, hru, rfl, hS1, h7n⟩⟩
    skip
    · exfalso
      rcases hwhy with q | ⟨e, -, hf⟩
      · exact h20 q
      · exact flt_not hf hR he
    · obtain ⟨B2, hR2, -, e2, hst⟩ := ruG_e hru
      rw [← e2, ← RN_det hR hR2] at hst
      have hzz := hz.2.1
      refine oL_law_569 _ _ _ _ _ _ ?_
      simp only [bL_law_569, qsem, qopt_s, qopt2_s, qev, qxs, Nat.reduceEqDiff, reduceIte, and_true, true_and, and_false, false_and, and_self, or_true, true_or, qb_or, reduceCtorEq, qbr_True, qbr_False, q10, q01, Option.toList_some, List.cons_append, List.nil_append]
      exact nx C1 M1 _ _ φ _ _ ⟨hall f φ hst, WS_ru hW h20 h7n, hS1, ⟨Or.inr hzz, by show 165 ≤ r.2.1 + 4; omega, by show r.2.1 + 4 ≤ r.2.1 + 4; omega⟩⟩ (by omega) (by omega)
set_option maxRecDepth 100000 in
set_option maxHeartbeats 4000000 in
theorem lw_loop {Len : Nat} {xs : Nat → Int32} (hL : Len ≤ 4096) : ∀ (f i : Nat) (C M : qC) (S : qS) (r : Nat × Nat × Nat) (H : Nat → Nat → Nat → Bool) (kc ks : Nat), Len - i < f → i ≤ 4200 → lwI C M S r H → kc ≤ 300 + i → ks ≤ 60000 + 128 * i → AW (mL_law, 40, 600000, 7302250, some (Len, xs), fun r _ => r = some (.int 1)) 18 [some (.retAddr 0), some (.ref 0), some (.ref 136), some (.int (nI i))] [] (wd C M r) kc ks := by
  intro f
  induction f with
  | zero => intro i C M S r H kc ks h; omega
  | succ f ih =>
    intro i C M S r H kc ks hf hi42 hI hkc hks
    have hcmp : (nI Len - 8 < nI i) = (Len < i + 8) := by
      rw [i_lt, show (8 : Int32) = nI 8 from rfl, pk_sub_toInt (by omega) (by omega), i_n (by omega)]
      exact propext (by omega)
    by_cases hi : i + 8 ≤ Len
    · have nx : ∀ (C' M' : qC) (S' : qS) (r' : Nat × Nat × Nat) (H' : Nat → Nat → Nat → Bool) (kc' ks' : Nat), lwI C' M' S' r' H' → kc' ≤ kc + 4 → ks' ≤ ks + 1021 → AW (mL_law, 40, 600000, 7302250, some (Len, xs), fun r _ => r = some (.int 1)) 1142 [some (.retAddr 0), some (.ref 0), some (.ref 136), some (.int (nI i))] [] (wd C' M' r') kc' ks' := by
        intro C' M' S' r' H' kc' ks' hI' hk' hs'
        have e8 : nI i + 8 = nI (i + 8) := nadd i 8
        refine oL_law_1142 _ _ _ _ _ _ ?_
        simp only [bL_law_1142, qsem, qopt_s, qopt2_s, qev, qxs, Nat.reduceEqDiff, reduceIte, and_true, true_and, and_false, false_and, and_self, or_true, true_or, qb_or, reduceCtorEq, qbr_True, qbr_False, q10, q01, e8]
        exact ih (i + 8) C' M' S' r' H' kc' ks' (by omega) (by omega) hI' (by omega) (by omega)
      refine oL_law_18 _ _ _ _ _ _ ?_
      simp only [bL_law_18, qsem, qopt_s, qopt2_s, qev, qxs, Nat.reduceEqDiff, reduceIte, and_true, true_and, and_false, false_and, and_self, or_true, true_or, qb_or, reduceCtorEq, qbr_True, qbr_False, q10, q01, nI_clamp (show i < 2 ^ 31 by omega), hcmp]
      refine qbr_f ((by omega)) ?_
      refine ⟨nI_vp (by omega) (by omega), ?_⟩
      exact uL_law_33 (fun _ => lw_source hI hi hL hkc hks nx) (fun _ => lw_build hI hi hL hkc hks nx) (fun _ => lw_mix hI hi hL hkc hks nx) (fun _ => lw_tries hI hi hL hkc hks nx) (fun _ => lw_review hI hi hL hkc hks nx) (fun _ => lw_feed hI hi hL hkc hks nx) (fun _ => lw_end hI hi hL hkc hks nx) (fun _ => lw_fault hI hi hL hkc hks nx) (fun _ => lw_rule hI hi hL hkc hks nx) (fun _ => lw_ask hI hi hL hkc hks nx) (fun _ => lw_skip hI hi hL hkc hks nx) (fun _ => lw_seal hI hi hL hkc hks nx) (fun _ => lw_why hI hi hL hkc hks nx) (fun _ => lw_uses hI hi hL hkc hks nx) (fun _ => lw_finish hI hi hL hkc hks nx) (fun _ => lw_lose hI hi hL hkc hks nx) (fun _ => lw_recall hI hi hL hkc hks nx) (fun _ => lw_file hI hi hL hkc hks nx) (fun _ => lw_hash hI hi hL hkc hks nx) (fun _ => lw_find hI hi hL hkc hks nx) (fun _ => lw_sealed hI hi hL hkc hks nx) (fun _ => lw_note hI hi hL hkc hks nx) (fun _ => lw_least hI hi hL hkc hks nx) (fun _ => lw_makers hI hi hL hkc hks nx) (fun _ => lw_proof hI hi hL hkc hks nx) (fun _ => lw_called hI hi hL hkc hks nx) (fun _ => lw_count hI hi hL hkc hks nx) (fun _ => lw_key hI hi hL hkc hks nx) (fun _ _ _ _ _ _ _ _ _ _ _ _ _ _ _ _ _ _ _ _ _ _ _ _ _ _ _ _ => nx C M S r H kc ks hI (by omega) (by omega))
    · refine oL_law_18 _ _ _ _ _ _ ?_
      simp only [bL_law_18, qsem, qopt_s, qopt2_s, qev, qxs, Nat.reduceEqDiff, reduceIte, and_true, true_and, and_false, false_and, and_self, or_true, true_or, qb_or, reduceCtorEq, qbr_True, qbr_False, q10, q01, hcmp]
      refine qbr_t ((by omega)) ?_
      refine oL_law_1148 _ _ _ _ _ _ ?_
      simp only [bL_law_1148, qsem, qopt_s, qopt2_s, qev, qxs, Nat.reduceEqDiff, reduceIte, and_true, true_and, and_false, false_and, and_self, or_true, true_or, qb_or, reduceCtorEq, qbr_True, qbr_False, q10, q01, hcmp]
      refine ⟨by show kc ≤ 600000; omega, ?_⟩
      first | exact ⟨by show ks ≤ 7302250; omega, rfl⟩ | (show ks ≤ 7302250; omega)


theorem sl_31 : ∀ n, n < 32 → ((nI n &&& 31).toBitVec.smod 32).toNat = n := by decide
theorem bit_0 {m h : Nat} (hm : m < 4096) (hh : h < 12) : ((nI m >>> (nI h &&& 31)) &&& 1 = 0) = (m.testBit h = false) := by
  have hd : m / 2 ^ h ≤ m := Nat.div_le_self m _
  rw [pk_shrN (by omega) _ h (sl_31 h (by omega)), pk_andN (m := 1) (by omega) 1 (by decide), show (0 : Int32) = nI 0 from rfl, nIeq (by omega) (by omega), Nat.testBit_eq_decide_div_mod_eq]
  simp only [Nat.pow_one, decide_eq_false_iff_not]
  exact propext (by omega)
/-- Integer.bitCount, as it is written -/
def bcI (x0 : Int32) : Int32 :=
  let u (x s : Int32) : Int32 := (x.toUInt32 >>> (s.toUInt32 &&& Int32.toUInt32 31)).toInt32
  let x1 := x0 - (u x0 1 &&& 1431655765)
  let x2 := (x1 &&& 858993459) + (u x1 2 &&& 858993459)
  let x3 := (x2 + u x2 4) &&& 252645135
  let x4 := x3 + u x3 8
  let x5 := x4 + u x4 16
  x5 &&& 63
def pc12 (m : Nat) : Nat := fb_ct (fun h => m.testBit h) 12
set_option maxRecDepth 100000 in
theorem bcI_ok : ∀ m : Fin 4096, bcI (nI m.val) = nI (pc12 m.val) := by decide +kernel
set_option maxRecDepth 100000 in
set_option maxHeartbeats 4000000 in
theorem zJ6_bitCount_0f7a4 {w : qW} {x : Int32} : CT mJ6_bitCount_0f7a4 0 0 0 [.int x] w (fun r w' => w' = w ∧ r = some (.int (bcI x))) := by
  refine eJ6_bitCount_0f7a4 (AW_gen (fun Q hQ => ?_))
  refine oJ6_bitCount_0f7a4_0 _ _ _ _ _ _ ?_
  simp only [bJ6_bitCount_0f7a4_0, qsem, qopt_s, qopt2_s, qev, qxs, Nat.reduceEqDiff, reduceIte, and_true, true_and, and_false, false_and, and_self, or_true, true_or, qb_or, reduceCtorEq, qbr_True, qbr_False, q10, q01, qwM]
  exact hQ _ _ ⟨rfl, rfl⟩
/-- the hands with a build of f that meets, as bits -/
def bdb (S : qS) (f : Nat) : Nat → Nat
  | 0 => 0
  | n + 1 => if srt S n = 1 ∧ ofN S n = f ∧ S.2.1 146 n = 1 then bdb S f n ||| 2 ^ hnd S n else bdb S f n
theorem bdb_lt {S : qS} (h2 : W2 S) (f : Nat) : ∀ n, n ≤ cN S → bdb S f n < 4096
  | 0, _ => by simp [bdb]
  | n + 1, h => by
    have ih := bdb_lt h2 f n (by omega)
    unfold bdb
    split
    · exact or_lt ih (h2 n (by omega)).2.2.1.2
    · exact ih
set_option maxRecDepth 100000 in
set_option maxHeartbeats 4000000 in
theorem zX11_builders {C M : qC} {r : Nat × Nat × Nat} {S : qS} {f : Nat} (hS : pj M = S) (h1 : W1 S) (h2 : W2 S) (hf : f < cF S) : CT mX11_builders 1 0 0 [.ref 136, .int (nI f)] (wd C M r) (fun r' w' => w' = wd C M r ∧ r' = some (.int (nI (pc12 (bdb S f (cN S)))))) := by
  have hF := h1.2.2.1
  have hN := h1.2.1
  refine eX11_builders (AW_gen (fun Q hQ => ?_))
  refine oX11_builders_0 _ _ _ _ _ _ ?_
  simp only [bX11_builders_0, qsem, qopt_s, qopt2_s, qev, qxs, Nat.reduceEqDiff, reduceIte, and_true, true_and, and_false, false_and, and_self, or_true, true_or, qb_or, reduceCtorEq, qbr_True, qbr_False, q10, q01, qwM]
  have loop : ∀ (j n : Nat), n + j = cN S → AW (mX11_builders, 1, 0, 0, none, Q) 4 [some (.ref 136), some (.int (nI f)), some (.int (nI (bdb S f n))), some (.int (nI n))] [] (wd C M r) 0 0 := by
    intro j
    induction j with
    | zero =>
      intro n hn
      obtain rfl : n = cN S := by omega
      have hlt := bdb_lt h2 f (cN S) (Nat.le_refl _)
      refine oX11_builders_4 _ _ _ _ _ _ ?_
      simp only [bX11_builders_4, qsem, qopt_s, qopt2_s, qev, qxs, Nat.reduceEqDiff, reduceIte, and_true, true_and, and_false, false_and, and_self, or_true, true_or, qb_or, reduceCtorEq, qbr_True, qbr_False, q10, q01, qwM, pjx hS, h1.1.1]
      refine qbr_t ((Int32.le_refl _)) ?_
      refine oX11_builders_63 _ _ _ _ _ _ ?_
      simp only [bX11_builders_63, qsem, qopt_s, qopt2_s, qev, qxs, Nat.reduceEqDiff, reduceIte, and_true, true_and, and_false, false_and, and_self, or_true, true_or, qb_or, reduceCtorEq, qbr_True, qbr_False, q10, q01, qwM, pjx hS, h1.1.1]
      refine kX11_builders_64 (zJ6_bitCount_0f7a4) (Nat.le_of_ble_eq_true rfl) (Nat.le_of_ble_eq_true rfl) ⟨Nat.le_of_ble_eq_true rfl, Nat.le_of_ble_eq_true rfl⟩ ?_
      rintro _ _ ⟨rfl, rfl⟩
      refine oX11_builders_67 _ _ _ _ _ _ ?_
      simp only [bX11_builders_67, qsem, qopt_s, qopt2_s, qev, qxs, Nat.reduceEqDiff, reduceIte, and_true, true_and, and_false, false_and, and_self, or_true, true_or, qb_or, reduceCtorEq, qbr_True, qbr_False, q10, q01, qwM, pjx hS, h1.1.1]
      exact hQ _ _ ⟨rfl, ri (bcI_ok ⟨_, hlt⟩)⟩
    | succ j ih =>
      intro n hn
      have hnN : n < cN S := by omega
      obtain ⟨⟨es, ls⟩, ⟨eo, lo⟩, ⟨eh, lh⟩, -⟩ := h2 n hnN
      have no : ¬ (srt S n = 1 ∧ ofN S n = f ∧ S.2.1 146 n = 1) → AW (mX11_builders, 1, 0, 0, none, Q) 55 [some (.ref 136), some (.int (nI f)), some (.int (nI (bdb S f n))), some (.int (nI n))] [.int 0, .int (nI (bdb S f n))] (wd C M r) 0 0 := by
        intro hno
        have hh := ih (n + 1) (by omega)
        unfold bdb at hh
        rw [if_neg hno] at hh
        refine oX11_builders_55 _ _ _ _ _ _ ?_
        simp only [bX11_builders_55, qsem, qopt_s, qopt2_s, qev, qxs, Nat.reduceEqDiff, reduceIte, and_true, true_and, and_false, false_and, and_self, or_true, true_or, qb_or, reduceCtorEq, qbr_True, qbr_False, q10, q01, qwM, nI_1, show nI (bdb S f n) ||| 0 = nI (bdb S f n) from by rw [show (0 : Int32) = nI 0 from rfl, or_nI, Nat.or_zero]]
        exact hh
      have yes : (srt S n = 1 ∧ ofN S n = f ∧ S.2.1 146 n = 1) → AW (mX11_builders, 1, 0, 0, none, Q) 55 [some (.ref 136), some (.int (nI f)), some (.int (nI (bdb S f n))), some (.int (nI n))] [.int (nI (2 ^ hnd S n)), .int (nI (bdb S f n))] (wd C M r) 0 0 := by
        intro hy
        have hh := ih (n + 1) (by omega)
        unfold bdb at hh
        rw [if_pos hy] at hh
        refine oX11_builders_55 _ _ _ _ _ _ ?_
        simp only [bX11_builders_55, qsem, qopt_s, qopt2_s, qev, qxs, Nat.reduceEqDiff, reduceIte, and_true, true_and, and_false, false_and, and_self, or_true, true_or, qb_or, reduceCtorEq, qbr_True, qbr_False, q10, q01, qwM, nI_1, or_nI]
        exact hh
      refine oX11_builders_4 _ _ _ _ _ _ ?_
      simp only [bX11_builders_4, qsem, qopt_s, qopt2_s, qev, qxs, Nat.reduceEqDiff, reduceIte, and_true, true_and, and_false, false_and, and_self, or_true, true_or, qb_or, reduceCtorEq, qbr_True, qbr_False, q10, q01, qwM, pjx hS, h1.1.1, nIcl (show n < 1000 by omega), es, eo, eh, nI1l (show srt S n < 1000 by omega), nIeq (show ofN S n < 1000 by omega) (show f < 1000 by omega), sh_nI _ lh]
      refine qbr_f (nI_ge (by omega) (by omega)) ?_
      refine ⟨nI_vp (by omega) (by omega), ?_⟩
      refine qbr_i (fun c1 => ?_) (fun c1 => ?_)
      · refine ⟨nI_vp (by omega) (by omega), ?_⟩
        refine qbr_i (fun c2 => ?_) (fun c2 => ?_)
        · refine ⟨nI_vp (by omega) (by omega), ?_⟩
          refine qbr_i (fun c3 => ?_) (fun c3 => ?_)
          · refine ⟨nI_vp (by omega) (by omega), ?_⟩
            first | exact no (fun q => c1 q.1) | exact no (fun q => c2 q.2.1) | exact no (fun q => c3 q.2.2) | exact yes ⟨c1, c2, c3⟩
          · refine oX11_builders_54 _ _ _ _ _ _ ?_
            simp only [bX11_builders_54, qsem, qopt_s, qopt2_s, qev, qxs, Nat.reduceEqDiff, reduceIte, and_true, true_and, and_false, false_and, and_self, or_true, true_or, qb_or, reduceCtorEq, qbr_True, qbr_False, q10, q01, qwM, pjx hS, h1.1.1, nIcl (show n < 1000 by omega), es, eo, eh, nI1l (show srt S n < 1000 by omega), nIeq (show ofN S n < 1000 by omega) (show f < 1000 by omega), sh_nI _ lh]
            first | exact no (fun q => c1 q.1) | exact no (fun q => c2 q.2.1) | exact no (fun q => c3 q.2.2) | exact yes ⟨c1, c2, c3⟩
        · refine oX11_builders_54 _ _ _ _ _ _ ?_
          simp only [bX11_builders_54, qsem, qopt_s, qopt2_s, qev, qxs, Nat.reduceEqDiff, reduceIte, and_true, true_and, and_false, false_and, and_self, or_true, true_or, qb_or, reduceCtorEq, qbr_True, qbr_False, q10, q01, qwM, pjx hS, h1.1.1, nIcl (show n < 1000 by omega), es, eo, eh, nI1l (show srt S n < 1000 by omega), nIeq (show ofN S n < 1000 by omega) (show f < 1000 by omega), sh_nI _ lh]
          first | exact no (fun q => c1 q.1) | exact no (fun q => c2 q.2.1) | exact no (fun q => c3 q.2.2) | exact yes ⟨c1, c2, c3⟩
      · refine oX11_builders_54 _ _ _ _ _ _ ?_
        simp only [bX11_builders_54, qsem, qopt_s, qopt2_s, qev, qxs, Nat.reduceEqDiff, reduceIte, and_true, true_and, and_false, false_and, and_self, or_true, true_or, qb_or, reduceCtorEq, qbr_True, qbr_False, q10, q01, qwM, pjx hS, h1.1.1, nIcl (show n < 1000 by omega), es, eo, eh, nI1l (show srt S n < 1000 by omega), nIeq (show ofN S n < 1000 by omega) (show f < 1000 by omega), sh_nI _ lh]
        first | exact no (fun q => c1 q.1) | exact no (fun q => c2 q.2.1) | exact no (fun q => c3 q.2.2) | exact yes ⟨c1, c2, c3⟩
  exact loop (cN S) 0 (by omega)
/-- the latest note of a sort by a hand of a file -/
def lat (S : qS) (s f h : Nat) : Nat → Int32
  | 0 => -1
  | n + 1 => if srt S n = s ∧ ofN S n = f ∧ hnd S n = h then nI n else lat S s f h n
theorem lat_c {S : qS} {s f h : Nat} : ∀ n, lat S s f h n = -1 ∨ ∃ j, j < n ∧ lat S s f h n = nI j
  | 0 => Or.inl rfl
  | n + 1 => by
    unfold lat
    split
    · exact Or.inr ⟨n, by omega, rfl⟩
    · rcases lat_c (S := S) (s := s) (f := f) (h := h) n with q | ⟨j, hj, q⟩
      · exact Or.inl q
      · exact Or.inr ⟨j, by omega, q⟩
def glt (S : qS) (s f h : Nat) : Bool := decide (¬ lat S s f h (cN S) = -1 ∧ S.2.1 146 (lat S s f h (cN S)).toNatClampNeg = 1)
def hwt (S : qS) (s f wo : Nat) : Nat := fb_ct (fun h => glt S s f h && !wo.testBit h) 12
set_option maxRecDepth 100000 in
set_option maxHeartbeats 4000000 in
theorem zX11_handsWith {C M : qC} {r : Nat × Nat × Nat} {S : qS} {s f wo : Nat} (hS : pj M = S) (h1 : W1 S) (h2 : W2 S) (hs : s < 5) (hf : f < cF S) (hw : wo < 4096) : CT mX11_handsWith 0 0 0 [.ref 136, .int (nI s), .int (nI f), .int (nI wo)] (wd C M r) (fun r' w' => w' = wd C M r ∧ r' = some (.int (nI (hwt S s f wo)))) := by
  have hF := h1.2.2.1
  have hN := h1.2.1
  refine eX11_handsWith (AW_gen (fun Q hQ => ?_))
  refine oX11_handsWith_0 _ _ _ _ _ _ ?_
  simp only [bX11_handsWith_0, qsem, qopt_s, qopt2_s, qev, qxs, Nat.reduceEqDiff, reduceIte, and_true, true_and, and_false, false_and, and_self, or_true, true_or, qb_or, reduceCtorEq, qbr_True, qbr_False, q10, q01, qwM]
  have loop : ∀ (j h : Nat) (o6 o7 : Option Value), q_nb (some o6) = true → h + j = 12 → AW (mX11_handsWith, 0, 0, 0, none, Q) 6 [some (.ref 136), some (.int (nI s)), some (.int (nI f)), some (.int (nI wo)), some (.int (nI (fb_ct (fun h => glt S s f h && !wo.testBit h) h))), some (.int (nI h)), o6, o7] [] (wd C M r) 0 0 := by
    intro j
    induction j with
    | zero =>
      intro h o6 o7 q6 hh
      obtain rfl : h = 12 := by omega
      refine oX11_handsWith_6 _ _ _ _ _ _ ?_
      simp only [bX11_handsWith_6, qsem, qopt_s, qopt2_s, qev, qxs, Nat.reduceEqDiff, reduceIte, and_true, true_and, and_false, false_and, and_self, or_true, true_or, qb_or, reduceCtorEq, qbr_True, qbr_False, q10, q01, qwM]
      refine qbr_t ((by decide)) ?_
      refine oX11_handsWith_119 _ _ _ _ _ _ ?_
      simp only [bX11_handsWith_119, qsem, qopt_s, qopt2_s, qev, qxs, Nat.reduceEqDiff, reduceIte, and_true, true_and, and_false, false_and, and_self, or_true, true_or, qb_or, reduceCtorEq, qbr_True, qbr_False, q10, q01, qwM]
      exact hQ _ _ ⟨rfl, rfl⟩
    | succ j ih =>
      intro h o6 o7 q6 hh
      generalize hc : fb_ct (fun h => glt S s f h && !wo.testBit h) h = c
      have fin : AW (mX11_handsWith, 0, 0, 0, none, Q) 77 [some (.ref 136), some (.int (nI s)), some (.int (nI f)), some (.int (nI wo)), some (.int (nI c)), some (.int (nI h)), some (.int (lat S s f h (cN S))), some (.int (nI (cN S)))] [] (wd C M r) 0 0 := by
        have stp : ∀ b : Bool, (b = (glt S s f h && !wo.testBit h)) → AW (mX11_handsWith, 0, 0, 0, none, Q) 110 [some (.ref 136), some (.int (nI s)), some (.int (nI f)), some (.int (nI wo)), some (.int (nI c)), some (.int (nI h)), some (.int (lat S s f h (cN S))), some (.int (nI (cN S)))] [.int (qb b), .int (nI c)] (wd C M r) 0 0 := by
          intro b hb
          have hn := ih (h + 1) (some (.int (lat S s f h (cN S)))) (some (.int (nI (cN S)))) rfl (by omega)
          rw [fb_ct_succ, hc, ← hb] at hn
          have e : nI c + qb b = nI (c + if b = true then 1 else 0) := by cases b <;> simp [qb, nI_1]
          refine oX11_handsWith_110 _ _ _ _ _ _ ?_
          simp only [bX11_handsWith_110, qsem, qopt_s, qopt2_s, qev, qxs, Nat.reduceEqDiff, reduceIte, and_true, true_and, and_false, false_and, and_self, or_true, true_or, qb_or, reduceCtorEq, qbr_True, qbr_False, q10, q01, qwM, e, nI_1]
          exact hn
        rcases lat_c (S := S) (s := s) (f := f) (h := h) (cN S) with hl | ⟨n, hn, hl⟩
        · have hg : glt S s f h = false := decide_eq_false (fun q => q.1 hl)
          refine oX11_handsWith_77 _ _ _ _ _ _ ?_
          simp only [bX11_handsWith_77, qsem, qopt_s, qopt2_s, qev, qxs, Nat.reduceEqDiff, reduceIte, and_true, true_and, and_false, false_and, and_self, or_true, true_or, qb_or, reduceCtorEq, qbr_True, qbr_False, q10, q01, qwM, hl]
          refine oX11_handsWith_109 _ _ _ _ _ _ ?_
          simp only [bX11_handsWith_109, qsem, qopt_s, qopt2_s, qev, qxs, Nat.reduceEqDiff, reduceIte, and_true, true_and, and_false, false_and, and_self, or_true, true_or, qb_or, reduceCtorEq, qbr_True, qbr_False, q10, q01, qwM, hl]
          rw [hl] at stp
          exact stp false (by rw [hg]; rfl)
        · rw [hl] at stp ⊢
          have ecl := nIcl (show n < 1000 by omega)
          have em : ¬ nI n = -1 := i_nm1 (by omega)
          refine oX11_handsWith_77 _ _ _ _ _ _ ?_
          simp only [bX11_handsWith_77, qsem, qopt_s, qopt2_s, qev, qxs, Nat.reduceEqDiff, reduceIte, and_true, true_and, and_false, false_and, and_self, or_true, true_or, qb_or, reduceCtorEq, qbr_True, qbr_False, q10, q01, qwM, ecl, pjx hS, bit_0 hw (show h < 12 by omega)]
          refine qbr_f (em) ?_
          refine ⟨nI_vp (by omega) (by omega), ?_⟩
          refine qbr_i (fun c1 => ?_) (fun c1 => ?_)
          · refine qbr_i (fun c2 => ?_) (fun c2 => ?_)
            · first | (refine stp false ?_; rw [show glt S s f h = false from decide_eq_false (fun q => c1 (by have := q.2; rw [hl, ecl] at this; exact this))]; rfl) | (refine stp true ?_; rw [show glt S s f h = true from decide_eq_true ⟨by rw [hl]; exact em, by rw [hl, ecl]; exact c1⟩, c2]; rfl) | (refine stp false ?_; rw [show glt S s f h = true from decide_eq_true ⟨by rw [hl]; exact em, by rw [hl, ecl]; exact c1⟩, show wo.testBit h = true by simpa using c2]; rfl)
            · refine oX11_handsWith_109 _ _ _ _ _ _ ?_
              simp only [bX11_handsWith_109, qsem, qopt_s, qopt2_s, qev, qxs, Nat.reduceEqDiff, reduceIte, and_true, true_and, and_false, false_and, and_self, or_true, true_or, qb_or, reduceCtorEq, qbr_True, qbr_False, q10, q01, qwM, ecl, pjx hS, bit_0 hw (show h < 12 by omega)]
              first | (refine stp false ?_; rw [show glt S s f h = false from decide_eq_false (fun q => c1 (by have := q.2; rw [hl, ecl] at this; exact this))]; rfl) | (refine stp true ?_; rw [show glt S s f h = true from decide_eq_true ⟨by rw [hl]; exact em, by rw [hl, ecl]; exact c1⟩, c2]; rfl) | (refine stp false ?_; rw [show glt S s f h = true from decide_eq_true ⟨by rw [hl]; exact em, by rw [hl, ecl]; exact c1⟩, show wo.testBit h = true by simpa using c2]; rfl)
          · refine oX11_handsWith_109 _ _ _ _ _ _ ?_
            simp only [bX11_handsWith_109, qsem, qopt_s, qopt2_s, qev, qxs, Nat.reduceEqDiff, reduceIte, and_true, true_and, and_false, false_and, and_self, or_true, true_or, qb_or, reduceCtorEq, qbr_True, qbr_False, q10, q01, qwM, ecl, pjx hS, bit_0 hw (show h < 12 by omega)]
            first | (refine stp false ?_; rw [show glt S s f h = false from decide_eq_false (fun q => c1 (by have := q.2; rw [hl, ecl] at this; exact this))]; rfl) | (refine stp true ?_; rw [show glt S s f h = true from decide_eq_true ⟨by rw [hl]; exact em, by rw [hl, ecl]; exact c1⟩, c2]; rfl) | (refine stp false ?_; rw [show glt S s f h = true from decide_eq_true ⟨by rw [hl]; exact em, by rw [hl, ecl]; exact c1⟩, show wo.testBit h = true by simpa using c2]; rfl)
      have inner : ∀ (j n : Nat), n + j = cN S → AW (mX11_handsWith, 0, 0, 0, none, Q) 19 [some (.ref 136), some (.int (nI s)), some (.int (nI f)), some (.int (nI wo)), some (.int (nI c)), some (.int (nI h)), some (.int (lat S s f h n)), some (.int (nI n))] [] (wd C M r) 0 0 := by
        intro j
        induction j with
        | zero =>
          intro n hn
          obtain rfl : n = cN S := by omega
          refine oX11_handsWith_19 _ _ _ _ _ _ ?_
          simp only [bX11_handsWith_19, qsem, qopt_s, qopt2_s, qev, qxs, Nat.reduceEqDiff, reduceIte, and_true, true_and, and_false, false_and, and_self, or_true, true_or, qb_or, reduceCtorEq, qbr_True, qbr_False, q10, q01, qwM, pjx hS, h1.1.1]
          refine qbr_t ((Int32.le_refl _)) ?_
          exact fin
        | succ j ihn =>
          intro n hn
          have hnN : n < cN S := by omega
          obtain ⟨⟨es, ls⟩, ⟨eo, lo⟩, ⟨eh, lh⟩, -⟩ := h2 n hnN
          have hh := ihn (n + 1) (by omega)
          unfold lat at hh
          refine oX11_handsWith_19 _ _ _ _ _ _ ?_
          simp only [bX11_handsWith_19, qsem, qopt_s, qopt2_s, qev, qxs, Nat.reduceEqDiff, reduceIte, and_true, true_and, and_false, false_and, and_self, or_true, true_or, qb_or, reduceCtorEq, qbr_True, qbr_False, q10, q01, qwM, pjx hS, h1.1.1, nIcl (show n < 1000 by omega), es, eo, eh, nIeq (show srt S n < 1000 by omega) (show s < 1000 by omega), nIeq (show ofN S n < 1000 by omega) (show f < 1000 by omega), nIeq (show hnd S n < 1000 by omega) (show h < 1000 by omega), nI_1]
          refine qbr_f (nI_ge (by omega) (by omega)) ?_
          refine ⟨nI_vp (by omega) (by omega), ?_⟩
          refine qbr_i (fun c1 => ?_) (fun c1 => ?_)
          · refine ⟨nI_vp (by omega) (by omega), ?_⟩
            refine qbr_i (fun c2 => ?_) (fun c2 => ?_)
            · refine ⟨nI_vp (by omega) (by omega), ?_⟩
              refine qbr_i (fun c3 => ?_) (fun c3 => ?_)
              · refine oX11_handsWith_69 _ _ _ _ _ _ ?_
                simp only [bX11_handsWith_69, qsem, qopt_s, qopt2_s, qev, qxs, Nat.reduceEqDiff, reduceIte, and_true, true_and, and_false, false_and, and_self, or_true, true_or, qb_or, reduceCtorEq, qbr_True, qbr_False, q10, q01, qwM, pjx hS, h1.1.1, nIcl (show n < 1000 by omega), es, eo, eh, nIeq (show srt S n < 1000 by omega) (show s < 1000 by omega), nIeq (show ofN S n < 1000 by omega) (show f < 1000 by omega), nIeq (show hnd S n < 1000 by omega) (show h < 1000 by omega), nI_1]
                first | (rw [if_neg (fun q => c1 q.1)] at hh; exact hh) | (rw [if_neg (fun q => c2 q.2.1)] at hh; exact hh) | (rw [if_neg (fun q => c3 q.2.2)] at hh; exact hh) | (rw [if_pos ⟨c1, c2, c3⟩] at hh; exact hh)
              · refine oX11_handsWith_67 _ _ _ _ _ _ ?_
                simp only [bX11_handsWith_67, qsem, qopt_s, qopt2_s, qev, qxs, Nat.reduceEqDiff, reduceIte, and_true, true_and, and_false, false_and, and_self, or_true, true_or, qb_or, reduceCtorEq, qbr_True, qbr_False, q10, q01, qwM, pjx hS, h1.1.1, nIcl (show n < 1000 by omega), es, eo, eh, nIeq (show srt S n < 1000 by omega) (show s < 1000 by omega), nIeq (show ofN S n < 1000 by omega) (show f < 1000 by omega), nIeq (show hnd S n < 1000 by omega) (show h < 1000 by omega), nI_1]
                refine oX11_handsWith_69 _ _ _ _ _ _ ?_
                simp only [bX11_handsWith_69, qsem, qopt_s, qopt2_s, qev, qxs, Nat.reduceEqDiff, reduceIte, and_true, true_and, and_false, false_and, and_self, or_true, true_or, qb_or, reduceCtorEq, qbr_True, qbr_False, q10, q01, qwM, pjx hS, h1.1.1, nIcl (show n < 1000 by omega), es, eo, eh, nIeq (show srt S n < 1000 by omega) (show s < 1000 by omega), nIeq (show ofN S n < 1000 by omega) (show f < 1000 by omega), nIeq (show hnd S n < 1000 by omega) (show h < 1000 by omega), nI_1]
                first | (rw [if_neg (fun q => c1 q.1)] at hh; exact hh) | (rw [if_neg (fun q => c2 q.2.1)] at hh; exact hh) | (rw [if_neg (fun q => c3 q.2.2)] at hh; exact hh) | (rw [if_pos ⟨c1, c2, c3⟩] at hh; exact hh)
            · refine oX11_handsWith_67 _ _ _ _ _ _ ?_
              simp only [bX11_handsWith_67, qsem, qopt_s, qopt2_s, qev, qxs, Nat.reduceEqDiff, reduceIte, and_true, true_and, and_false, false_and, and_self, or_true, true_or, qb_or, reduceCtorEq, qbr_True, qbr_False, q10, q01, qwM, pjx hS, h1.1.1, nIcl (show n < 1000 by omega), es, eo, eh, nIeq (show srt S n < 1000 by omega) (show s < 1000 by omega), nIeq (show ofN S n < 1000 by omega) (show f < 1000 by omega), nIeq (show hnd S n < 1000 by omega) (show h < 1000 by omega), nI_1]
              refine oX11_handsWith_69 _ _ _ _ _ _ ?_
              simp only [bX11_handsWith_69, qsem, qopt_s, qopt2_s, qev, qxs, Nat.reduceEqDiff, reduceIte, and_true, true_and, and_false, false_and, and_self, or_true, true_or, qb_or, reduceCtorEq, qbr_True, qbr_False, q10, q01, qwM, pjx hS, h1.1.1, nIcl (show n < 1000 by omega), es, eo, eh, nIeq (show srt S n < 1000 by omega) (show s < 1000 by omega), nIeq (show ofN S n < 1000 by omega) (show f < 1000 by omega), nIeq (show hnd S n < 1000 by omega) (show h < 1000 by omega), nI_1]
              first | (rw [if_neg (fun q => c1 q.1)] at hh; exact hh) | (rw [if_neg (fun q => c2 q.2.1)] at hh; exact hh) | (rw [if_neg (fun q => c3 q.2.2)] at hh; exact hh) | (rw [if_pos ⟨c1, c2, c3⟩] at hh; exact hh)
          · refine oX11_handsWith_67 _ _ _ _ _ _ ?_
            simp only [bX11_handsWith_67, qsem, qopt_s, qopt2_s, qev, qxs, Nat.reduceEqDiff, reduceIte, and_true, true_and, and_false, false_and, and_self, or_true, true_or, qb_or, reduceCtorEq, qbr_True, qbr_False, q10, q01, qwM, pjx hS, h1.1.1, nIcl (show n < 1000 by omega), es, eo, eh, nIeq (show srt S n < 1000 by omega) (show s < 1000 by omega), nIeq (show ofN S n < 1000 by omega) (show f < 1000 by omega), nIeq (show hnd S n < 1000 by omega) (show h < 1000 by omega), nI_1]
            refine oX11_handsWith_69 _ _ _ _ _ _ ?_
            simp only [bX11_handsWith_69, qsem, qopt_s, qopt2_s, qev, qxs, Nat.reduceEqDiff, reduceIte, and_true, true_and, and_false, false_and, and_self, or_true, true_or, qb_or, reduceCtorEq, qbr_True, qbr_False, q10, q01, qwM, pjx hS, h1.1.1, nIcl (show n < 1000 by omega), es, eo, eh, nIeq (show srt S n < 1000 by omega) (show s < 1000 by omega), nIeq (show ofN S n < 1000 by omega) (show f < 1000 by omega), nIeq (show hnd S n < 1000 by omega) (show h < 1000 by omega), nI_1]
            first | (rw [if_neg (fun q => c1 q.1)] at hh; exact hh) | (rw [if_neg (fun q => c2 q.2.1)] at hh; exact hh) | (rw [if_neg (fun q => c3 q.2.2)] at hh; exact hh) | (rw [if_pos ⟨c1, c2, c3⟩] at hh; exact hh)
      refine oX11_handsWith_6 _ _ _ _ _ _ ?_
      simp only [bX11_handsWith_6, qsem, qopt_s, qopt2_s, qev, qxs, Nat.reduceEqDiff, reduceIte, and_true, true_and, and_false, false_and, and_self, or_true, true_or, qb_or, reduceCtorEq, qbr_True, qbr_False, q10, q01, qwM, q6]
      refine qbr_f (nI_ge (b := 12) (by omega) (by omega)) ?_
      exact inner (cN S) 0 (by omega)
  exact loop 12 0 none none rfl rfl


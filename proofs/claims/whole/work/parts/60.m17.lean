theorem fnd_c {S : qS} {x : Int64} : ∀ k, k ≤ cF S → fnd S x k = -1 ∨ ∃ j, j < cF S ∧ fnd S x k = nI j
  | 0, _ => Or.inl rfl
  | k + 1, h => by
    unfold fnd
    simp only
    split
    · exact Or.inr ⟨cF S - (k + 1), by omega, rfl⟩
    · exact fnd_c k (by omega)
theorem fd_c {S : qS} (x : Int64) : fd S x = -1 ∨ ∃ j, j < cF S ∧ fd S x = nI j := fnd_c _ (Nat.le_refl _)
/-- what comes out is in the row of one that goes in -/
def inR (S : qS) (a b c : Int32) (o : Nat) : Prop := ∃ k, k < 3 ∧ ∃ j, j < cF S ∧ fk a b c k = nI j ∧ reach S j o
def bldOk (S : qS) (h t a b c : Int32) (x : Int64) : Prop := isH h = true ∧ isT t = true ∧ areF S a b c = true ∧ ¬ cN S = 400 ∧ ¬ (fd S x = -1 ∧ cF S = 100) ∧ ∀ o, o < cF S → fd S x = nI o → ¬ inR S a b c o
def vB (S : qS) (h t a b c : Int32) (x : Int64) (p : Nat) : Int32 := if p = 146 then (if mx S t a b c = x then 1 else 0) else if p = 145 then c else if p = 144 then b else if p = 143 then a else if p = 142 then t else vN 1 (ffN S x) h p
set_option maxRecDepth 100000 in
set_option maxHeartbeats 4000000 in
theorem zX11_build {C M : qC} {r : Nat × Nat × Nat} {S : qS} {h t a b c : Int32} {x : Int64} (hS : pj M = S) (h1 : W1 S) (h2 : W2 S) : CT mX11_build 3 0 0 [.ref 136, .int h, .int t, .int a, .int b, .int c, .long x] (wd C M r) (fun r' w' => ∃ M', w' = wd C M' r ∧ ((¬ bldOk S h t a b c x ∧ r' = some (.int (-1)) ∧ pj M' = S) ∨ (bldOk S h t a b c x ∧ r' = some (.int (ffN S x)) ∧ pj M' = nA (ffS S x) (vB S h t a b c x)))) := by
  have hN := h1.2.1
  have hF := h1.2.2.1
  have eT : decide (0 ≤ t ∧ t ≤ 5) = isT t := by
    unfold isT
    refine decide_eq_decide.mpr ?_
    rw [i_le, i_le, i_lt]
    simp only [Int32.reduceToInt]
    omega
  refine eX11_build (AW_gen (fun Q hQ => ?_))
  have tail : bldOk S h t a b c x → ∀ (M : qC) (o8 : Option Value), q_nb (some o8) = true → pj M = S → AW (mX11_build, 3, 0, 0, none, Q) 112 [some (.ref 136), some (.int h), some (.int t), some (.int a), some (.int b), some (.int c), some (.long x), none, o8, none, none, none] [] (wd C M r) 0 0 := by
    intro hok M o8 q8 hS
    have hff := W1_ff (x := x) h1
    have hffN := ff_N (S := S) (x := x)
    have e400 : cN S < 400 := by have := hok.2.2.2.1; omega
    have hv : vp_in (nI (cN (ffS S x))) 400 := nI_vp (by rw [hffN]; exact e400) (by omega)
    have ecl : (nI (cN (ffS S x))).toNatClampNeg = cN (ffS S x) := nIcl (by rw [hffN]; omega)
    have at133 : ∀ mt : Bool, mt = decide (mx S t a b c = x) → AW (mX11_build, 3, 0, 0, none, Q) 133 [some (.ref 136), some (.int h), some (.int t), some (.int a), some (.int b), some (.int c), some (.long x), none, o8, none, none, none] [.int (qb mt)] (wd C M r) 0 0 := by
      intro mt hmt
      have hva : (fun p => if p = 146 then (if mt = false then (0 : Int32) else 1) else if p = 145 then c else if p = 144 then b else if p = 143 then a else if p = 142 then t else vN 1 (ffN S x) h p) = vB S h t a b c x := by
        funext p
        unfold vB
        rw [hmt]
        by_cases hm : mx S t a b c = x
        · rw [decide_eq_true hm, if_pos hm]; rfl
        · rw [decide_eq_false hm, if_neg hm]; rfl
      have fin : ∀ (M2 : qC) (z : Int32), pj M2 = nA (ffS S x) (vN 1 (ffN S x) h) → z = (if mt = false then 0 else 1) → pj (yA (yA (yA (yA (yA M2 142 (upd (xA M2 142) (cN (ffS S x)) t)) 143 (upd (xA M2 143) (cN (ffS S x)) a)) 144 (upd (xA M2 144) (cN (ffS S x)) b)) 145 (upd (xA M2 145) (cN (ffS S x)) c)) 146 (upd (xA M2 146) (cN (ffS S x)) z)) = nA (ffS S x) (vB S h t a b c x) := by
        intro M2 z hS2 hz
        simp only [pjx hS2]
        rw [pj_wA rfl, pj_wA rfl, pj_wA rfl, pj_wA rfl, pj_wA rfl, hS2, nA_put (by omega)]
        rw [show (nA (ffS S x) (vN 1 (ffN S x) h)).2.1 143 = (nA (ffS S x) (fun q => if q = 142 then t else vN 1 (ffN S x) h q)).2.1 143 from rfl, nA_put (by omega)]
        rw [show (nA (ffS S x) (vN 1 (ffN S x) h)).2.1 144 = (nA (ffS S x) (fun q => if q = 143 then a else if q = 142 then t else vN 1 (ffN S x) h q)).2.1 144 from rfl, nA_put (by omega)]
        rw [show (nA (ffS S x) (vN 1 (ffN S x) h)).2.1 145 = (nA (ffS S x) (fun q => if q = 144 then b else if q = 143 then a else if q = 142 then t else vN 1 (ffN S x) h q)).2.1 145 from rfl, nA_put (by omega)]
        rw [show (nA (ffS S x) (vN 1 (ffN S x) h)).2.1 146 = (nA (ffS S x) (fun q => if q = 145 then c else if q = 144 then b else if q = 143 then a else if q = 142 then t else vN 1 (ffN S x) h q)).2.1 146 from rfl, nA_put (by omega)]
        rw [← hva, hz]
      refine oX11_build_133 _ _ _ _ _ _ ?_
      simp only [bX11_build_133, qsem, qopt_s, qopt2_s, qev, qxs, Nat.reduceEqDiff, reduceIte, and_true, true_and, and_false, false_and, and_self, or_true, true_or, qb_or, reduceCtorEq, qbr_True, qbr_False, q10, q01, qwM, q8, ecl, qb_0]
      refine kX11_build_138 (zX11_fileFor hS h1) rfl (Nat.le_of_ble_eq_true rfl) (Nat.le_of_ble_eq_true rfl) ⟨Nat.le_of_ble_eq_true rfl, Nat.le_of_ble_eq_true rfl⟩ ?_
      rintro _ _ ⟨M1, rfl, rfl, hS1⟩
      refine oX11_build_141 _ _ _ _ _ _ ?_
      simp only [bX11_build_141, qsem, qopt_s, qopt2_s, qev, qxs, Nat.reduceEqDiff, reduceIte, and_true, true_and, and_false, false_and, and_self, or_true, true_or, qb_or, reduceCtorEq, qbr_True, qbr_False, q10, q01, qwM, q8, ecl, qb_0]
      refine kX11_build_148 (zX11_addNote hS1 hff (by rw [hffN]; exact e400)) rfl (Nat.le_of_ble_eq_true rfl) (Nat.le_of_ble_eq_true rfl) ⟨Nat.le_of_ble_eq_true rfl, Nat.le_of_ble_eq_true rfl⟩ ?_
      rintro _ _ ⟨M2, rfl, rfl, hS2⟩
      refine oX11_build_151 _ _ _ _ _ _ ?_
      simp only [bX11_build_151, qsem, qopt_s, qopt2_s, qev, qxs, Nat.reduceEqDiff, reduceIte, and_true, true_and, and_false, false_and, and_self, or_true, true_or, qb_or, reduceCtorEq, qbr_True, qbr_False, q10, q01, qwM, q8, ecl, qb_0]
      refine ⟨hv, ?_⟩
      refine ⟨hv, ?_⟩
      refine ⟨hv, ?_⟩
      refine ⟨hv, ?_⟩
      refine qbr_i (fun c1 => ?_) (fun c1 => ?_)
      · refine oX11_build_202 _ _ _ _ _ _ ?_
        simp only [bX11_build_202, qsem, qopt_s, qopt2_s, qev, qxs, Nat.reduceEqDiff, reduceIte, and_true, true_and, and_false, false_and, and_self, or_true, true_or, qb_or, reduceCtorEq, qbr_True, qbr_False, q10, q01, qwM, q8, ecl, qb_0]
        refine oX11_build_203 _ _ _ _ _ _ ?_
        simp only [bX11_build_203, qsem, qopt_s, qopt2_s, qev, qxs, Nat.reduceEqDiff, reduceIte, and_true, true_and, and_false, false_and, and_self, or_true, true_or, qb_or, reduceCtorEq, qbr_True, qbr_False, q10, q01, qwM, q8, ecl, qb_0]
        refine ⟨hv, ?_⟩
        first | exact hQ _ _ ⟨_, rfl, Or.inr ⟨hok, rfl, fin M2 0 hS2 (by rw [if_pos c1])⟩⟩ | exact hQ _ _ ⟨_, rfl, Or.inr ⟨hok, rfl, fin M2 1 hS2 (by rw [if_neg c1])⟩⟩
      · refine oX11_build_203 _ _ _ _ _ _ ?_
        simp only [bX11_build_203, qsem, qopt_s, qopt2_s, qev, qxs, Nat.reduceEqDiff, reduceIte, and_true, true_and, and_false, false_and, and_self, or_true, true_or, qb_or, reduceCtorEq, qbr_True, qbr_False, q10, q01, qwM, q8, ecl, qb_0]
        refine ⟨hv, ?_⟩
        first | exact hQ _ _ ⟨_, rfl, Or.inr ⟨hok, rfl, fin M2 0 hS2 (by rw [if_pos c1])⟩⟩ | exact hQ _ _ ⟨_, rfl, Or.inr ⟨hok, rfl, fin M2 1 hS2 (by rw [if_neg c1])⟩⟩
    refine oX11_build_112 _ _ _ _ _ _ ?_
    simp only [bX11_build_112, qsem, qopt_s, qopt2_s, qev, qxs, Nat.reduceEqDiff, reduceIte, and_true, true_and, and_false, false_and, and_self, or_true, true_or, qb_or, reduceCtorEq, qbr_True, qbr_False, q10, q01, qwM, lg0]
    refine kX11_build_119 (zX11_mixOf hS h1 hok.2.2.1) rfl (Nat.le_of_ble_eq_true rfl) (Nat.le_of_ble_eq_true rfl) ⟨Nat.le_of_ble_eq_true rfl, Nat.le_of_ble_eq_true rfl⟩ ?_
    rintro _ _ ⟨rfl, rfl⟩
    refine oX11_build_122 _ _ _ _ _ _ ?_
    simp only [bX11_build_122, qsem, qopt_s, qopt2_s, qev, qxs, Nat.reduceEqDiff, reduceIte, and_true, true_and, and_false, false_and, and_self, or_true, true_or, qb_or, reduceCtorEq, qbr_True, qbr_False, q10, q01, qwM, lg0]
    refine qbr_i (fun c1 => ?_) (fun c1 => ?_)
    · first | exact at133 true (decide_eq_true c1).symm | exact at133 false (decide_eq_false c1).symm
    · refine oX11_build_132 _ _ _ _ _ _ ?_
      simp only [bX11_build_132, qsem, qopt_s, qopt2_s, qev, qxs, Nat.reduceEqDiff, reduceIte, and_true, true_and, and_false, false_and, and_self, or_true, true_or, qb_or, reduceCtorEq, qbr_True, qbr_False, q10, q01, qwM, lg0]
      first | exact at133 true (decide_eq_true c1).symm | exact at133 false (decide_eq_false c1).symm
  have noOk : ∀ M : qC, pj M = S → ¬ bldOk S h t a b c x → Q (some (.int (-1))) (wd C M r) := fun M hS hno => hQ _ _ ⟨M, rfl, Or.inl ⟨hno, rfl, hS⟩⟩
  have from40 : isH h = true → isT t = true → areF S a b c = true → ¬ cN S = 400 → AW (mX11_build, 3, 0, 0, none, Q) 40 [some (.ref 136), some (.int h), some (.int t), some (.int a), some (.int b), some (.int c), some (.long x), none, none, none, none, none] [] (wd C M r) 0 0 := by
    intro k1 k2 k3 k4
    rcases fd_c (S := S) x with hfd | ⟨o, ho, hfd⟩
    · by_cases h100 : cF S = 100
      · refine oX11_build_40 _ _ _ _ _ _ ?_
        simp only [bX11_build_40, qsem, qopt_s, qopt2_s, qev, qxs, Nat.reduceEqDiff, reduceIte, and_true, true_and, and_false, false_and, and_self, or_true, true_or, qb_or, reduceCtorEq, qbr_True, qbr_False, q10, q01, qwM, hfd, pjx hS, h1.1.2.1, cF100 h1, h100]
        refine kX11_build_43 (zX11_find hS h1) rfl (Nat.le_of_ble_eq_true rfl) (Nat.le_of_ble_eq_true rfl) ⟨Nat.le_of_ble_eq_true rfl, Nat.le_of_ble_eq_true rfl⟩ ?_
        rintro _ _ ⟨rfl, rfl⟩
        refine oX11_build_46 _ _ _ _ _ _ ?_
        simp only [bX11_build_46, qsem, qopt_s, qopt2_s, qev, qxs, Nat.reduceEqDiff, reduceIte, and_true, true_and, and_false, false_and, and_self, or_true, true_or, qb_or, reduceCtorEq, qbr_True, qbr_False, q10, q01, qwM, hfd, pjx hS, h1.1.2.1, cF100 h1, h100]
        refine qbr_t (rfl) ?_
        exact noOk M hS (fun q => q.2.2.2.2.1 ⟨hfd, h100⟩)
      · refine oX11_build_40 _ _ _ _ _ _ ?_
        simp only [bX11_build_40, qsem, qopt_s, qopt2_s, qev, qxs, Nat.reduceEqDiff, reduceIte, and_true, true_and, and_false, false_and, and_self, or_true, true_or, qb_or, reduceCtorEq, qbr_True, qbr_False, q10, q01, qwM, hfd, pjx hS, h1.1.2.1, cF100 h1]
        refine kX11_build_43 (zX11_find hS h1) rfl (Nat.le_of_ble_eq_true rfl) (Nat.le_of_ble_eq_true rfl) ⟨Nat.le_of_ble_eq_true rfl, Nat.le_of_ble_eq_true rfl⟩ ?_
        rintro _ _ ⟨rfl, rfl⟩
        refine oX11_build_46 _ _ _ _ _ _ ?_
        simp only [bX11_build_46, qsem, qopt_s, qopt2_s, qev, qxs, Nat.reduceEqDiff, reduceIte, and_true, true_and, and_false, false_and, and_self, or_true, true_or, qb_or, reduceCtorEq, qbr_True, qbr_False, q10, q01, qwM, hfd, pjx hS, h1.1.2.1, cF100 h1]
        refine qbr_f (h100) ?_
        refine oX11_build_65 _ _ _ _ _ _ ?_
        simp only [bX11_build_65, qsem, qopt_s, qopt2_s, qev, qxs, Nat.reduceEqDiff, reduceIte, and_true, true_and, and_false, false_and, and_self, or_true, true_or, qb_or, reduceCtorEq, qbr_True, qbr_False, q10, q01, qwM, hfd, pjx hS, h1.1.2.1, cF100 h1]
        exact tail ⟨k1, k2, k3, k4, fun q => h100 q.2, fun o ho q => absurd (q.symm.trans hfd) (i_nm1 (by omega))⟩ M _ rfl hS
    · have em1 : ¬ nI o = -1 := i_nm1 (by omega)
      have ka := areF_k k3 0
      have kb := areF_k k3 1
      have kc := areF_k k3 2
      have e0 : fk a b c 0 = a := rfl
      have e1 : fk a b c 1 = b := rfl
      have e2 : fk a b c 2 = c := rfl
      have hka : isF S a = true := by
        have := k3
        unfold areF at this
        simp only [Bool.and_eq_true] at this
        exact this.1.1
      obtain ⟨ja, hja, rfl⟩ := isF_of h1 hka
      -- the end: the row is known
      have fin : ∀ (M : qC) (ρ : Nat → Bool), pj M = S → rB M 157 ρ → (ρ o = true ↔ inR S (nI ja) b c o) → AW (mX11_build, 3, 0, 0, none, Q) 100 [some (.ref 136), some (.int h), some (.int t), some (.int (nI ja)), some (.int b), some (.int c), some (.long x), none, some (.int (nI o)), none, none, none] [] (wd C M r) 0 0 := by
        intro M ρ hS hr hρ
        refine oX11_build_100 _ _ _ _ _ _ ?_
        simp only [bX11_build_100, qsem, qopt_s, qopt2_s, qev, qxs, Nat.reduceEqDiff, reduceIte, and_true, true_and, and_false, false_and, and_self, or_true, true_or, qb_or, reduceCtorEq, qbr_True, qbr_False, q10, q01, qwM, nIcl (show o < 1000 by omega), rB_at hr (show o < 100 by omega), qb_0]
        refine ⟨nI_vp (by omega) (by omega), ?_⟩
        refine qbr_i (fun c1 => ?_) (fun c1 => ?_)
        · exact tail ⟨k1, k2, k3, k4, fun q => absurd (hfd.symm.trans q.1) em1, fun o' ho' q => by rw [i_ninj (by omega) (by omega) (q.symm.trans hfd)]; exact fun z => absurd (hρ.mpr z) (by rw [c1]; exact Bool.false_ne_true)⟩ M _ rfl hS
        · exact noOk M hS (fun q => q.2.2.2.2.2 o ho hfd (hρ.mp ((Bool.not_eq_false _).mp c1)))
      have at88 : ∀ (M : qC) (ρ : Nat → Bool) (P : Nat → Prop), pj M = S → rB M 157 ρ → (∀ i, ρ i = true ↔ P i) → (∀ x y, P x → edge S x y → P y) → (∀ i, P i → i < cF S) → ((P o ∨ (∃ j, j < cF S ∧ c = nI j ∧ reach S j o)) ↔ inR S (nI ja) b c o) → AW (mX11_build, 3, 0, 0, none, Q) 88 [some (.ref 136), some (.int h), some (.int t), some (.int (nI ja)), some (.int b), some (.int c), some (.long x), none, some (.int (nI o)), none, none, none] [] (wd C M r) 0 0 := by
        intro M ρ P hS hr hρ hcl hlt hin
        rcases kc with hc | hc
        · rw [e2] at hc
          refine oX11_build_88 _ _ _ _ _ _ ?_
          simp only [bX11_build_88, qsem, qopt_s, qopt2_s, qev, qxs, Nat.reduceEqDiff, reduceIte, and_true, true_and, and_false, false_and, and_self, or_true, true_or, qb_or, reduceCtorEq, qbr_True, qbr_False, q10, q01, qwM]
          refine qbr_t (hc) ?_
          exact fin M ρ hS hr ((hρ o).trans ⟨fun q => hin.mp (Or.inl q), fun q => (hin.mpr q).elim id (fun ⟨j, hj, e, _⟩ => absurd (e.symm.trans hc) (i_nm1 (by omega)))⟩)
        · rw [e2] at hc
          obtain ⟨jc, hjc, rfl⟩ := isF_of h1 hc
          refine oX11_build_88 _ _ _ _ _ _ ?_
          simp only [bX11_build_88, qsem, qopt_s, qopt2_s, qev, qxs, Nat.reduceEqDiff, reduceIte, and_true, true_and, and_false, false_and, and_self, or_true, true_or, qb_or, reduceCtorEq, qbr_True, qbr_False, q10, q01, qwM]
          refine qbr_f ((i_nm1 (by omega))) ?_
          refine kX11_build_97 (zX11_addRow hS h1 h2 hjc hr (fun u v hu e => (hρ v).mpr (hcl u v ((hρ u).mp hu) e)) (fun i hi => hlt i ((hρ i).mp hi))) rfl (Nat.le_of_ble_eq_true rfl) (Nat.le_of_ble_eq_true rfl) ⟨Nat.le_of_ble_eq_true rfl, Nat.le_of_ble_eq_true rfl⟩ ?_
          rintro _ _ ⟨M1, ρ1, rfl, rfl, hS1, hr1, hi1⟩
          exact fin M1 ρ1 hS1 hr1 (by rw [hi1, hρ, ← hin]; exact or_congr Iff.rfl ⟨fun q => ⟨jc, hjc, rfl, q⟩, fun ⟨j, hj, e, q⟩ => by rw [i_ninj (by omega) (by omega) e]; exact q⟩)
      have hin3 : ∀ A B : Prop, (A ↔ reach S ja o) → (B ↔ ∃ j, j < cF S ∧ b = nI j ∧ reach S j o) → (((A ∨ B) ∨ (∃ j, j < cF S ∧ c = nI j ∧ reach S j o)) ↔ inR S (nI ja) b c o) := by
        intro A B hA hB
        rw [hA, hB]
        constructor
        · rintro ((q | ⟨j, hj, e, q⟩) | ⟨j, hj, e, q⟩)
          · exact ⟨0, by omega, ja, hja, rfl, q⟩
          · exact ⟨1, by omega, j, hj, e, q⟩
          · exact ⟨2, by omega, j, hj, e, q⟩
        · rintro ⟨k, hk, j, hj, e, q⟩
          rcases (show k = 0 ∨ k = 1 ∨ k = 2 by omega) with rfl | rfl | rfl
          · exact Or.inl (Or.inl (by rw [i_ninj (by omega) (by omega) (show nI ja = nI j from e)]; exact q))
          · exact Or.inl (Or.inr ⟨j, hj, e, q⟩)
          · exact Or.inr ⟨j, hj, e, q⟩
      rcases kb with hb | hb
      · rw [e1] at hb
        have hB : (False ↔ ∃ j, j < cF S ∧ b = nI j ∧ reach S j o) := ⟨False.elim, fun ⟨j, hj, e, _⟩ => absurd (e.symm.trans hb) (i_nm1 (by omega))⟩
        refine oX11_build_40 _ _ _ _ _ _ ?_
        simp only [bX11_build_40, qsem, qopt_s, qopt2_s, qev, qxs, Nat.reduceEqDiff, reduceIte, and_true, true_and, and_false, false_and, and_self, or_true, true_or, qb_or, reduceCtorEq, qbr_True, qbr_False, q10, q01, qwM, hfd]
        refine kX11_build_43 (zX11_find hS h1) rfl (Nat.le_of_ble_eq_true rfl) (Nat.le_of_ble_eq_true rfl) ⟨Nat.le_of_ble_eq_true rfl, Nat.le_of_ble_eq_true rfl⟩ ?_
        rintro _ _ ⟨rfl, rfl⟩
        refine oX11_build_46 _ _ _ _ _ _ ?_
        simp only [bX11_build_46, qsem, qopt_s, qopt2_s, qev, qxs, Nat.reduceEqDiff, reduceIte, and_true, true_and, and_false, false_and, and_self, or_true, true_or, qb_or, reduceCtorEq, qbr_True, qbr_False, q10, q01, qwM, hfd]
        refine qbr_f (em1) ?_
        refine oX11_build_65 _ _ _ _ _ _ ?_
        simp only [bX11_build_65, qsem, qopt_s, qopt2_s, qev, qxs, Nat.reduceEqDiff, reduceIte, and_true, true_and, and_false, false_and, and_self, or_true, true_or, qb_or, reduceCtorEq, qbr_True, qbr_False, q10, q01, qwM, hfd]
        refine qbr_f (em1) ?_
        refine kX11_build_73 (zX11_rowOf hS h1 h2 hja) rfl (Nat.le_of_ble_eq_true rfl) (Nat.le_of_ble_eq_true rfl) ⟨Nat.le_of_ble_eq_true rfl, Nat.le_of_ble_eq_true rfl⟩ ?_
        rintro _ _ ⟨M1, ρ1, rfl, rfl, hS1, hr1, hi1⟩
        refine oX11_build_76 _ _ _ _ _ _ ?_
        simp only [bX11_build_76, qsem, qopt_s, qopt2_s, qev, qxs, Nat.reduceEqDiff, reduceIte, and_true, true_and, and_false, false_and, and_self, or_true, true_or, qb_or, reduceCtorEq, qbr_True, qbr_False, q10, q01, qwM, hfd]
        refine qbr_t (hb) ?_
        exact at88 M1 ρ1 (reach S ja) hS1 hr1 hi1 (fun u v q e => reach_st q e) (fun i q => reach_lt hja q) (by have := hin3 (reach S ja o) False Iff.rfl hB; rw [or_false] at this; exact this)
      · rw [e1] at hb
        obtain ⟨jb, hjb, rfl⟩ := isF_of h1 hb
        have hB : (reach S jb o ↔ ∃ j, j < cF S ∧ nI jb = nI j ∧ reach S j o) := ⟨fun q => ⟨jb, hjb, rfl, q⟩, fun ⟨j, hj, e, q⟩ => by rw [i_ninj (by omega) (by omega) e]; exact q⟩
        refine oX11_build_40 _ _ _ _ _ _ ?_
        simp only [bX11_build_40, qsem, qopt_s, qopt2_s, qev, qxs, Nat.reduceEqDiff, reduceIte, and_true, true_and, and_false, false_and, and_self, or_true, true_or, qb_or, reduceCtorEq, qbr_True, qbr_False, q10, q01, qwM, hfd]
        refine kX11_build_43 (zX11_find hS h1) rfl (Nat.le_of_ble_eq_true rfl) (Nat.le_of_ble_eq_true rfl) ⟨Nat.le_of_ble_eq_true rfl, Nat.le_of_ble_eq_true rfl⟩ ?_
        rintro _ _ ⟨rfl, rfl⟩
        refine oX11_build_46 _ _ _ _ _ _ ?_
        simp only [bX11_build_46, qsem, qopt_s, qopt2_s, qev, qxs, Nat.reduceEqDiff, reduceIte, and_true, true_and, and_false, false_and, and_self, or_true, true_or, qb_or, reduceCtorEq, qbr_True, qbr_False, q10, q01, qwM, hfd]
        refine qbr_f (em1) ?_
        refine oX11_build_65 _ _ _ _ _ _ ?_
        simp only [bX11_build_65, qsem, qopt_s, qopt2_s, qev, qxs, Nat.reduceEqDiff, reduceIte, and_true, true_and, and_false, false_and, and_self, or_true, true_or, qb_or, reduceCtorEq, qbr_True, qbr_False, q10, q01, qwM, hfd]
        refine qbr_f (em1) ?_
        refine kX11_build_73 (zX11_rowOf hS h1 h2 hja) rfl (Nat.le_of_ble_eq_true rfl) (Nat.le_of_ble_eq_true rfl) ⟨Nat.le_of_ble_eq_true rfl, Nat.le_of_ble_eq_true rfl⟩ ?_
        rintro _ _ ⟨M1, ρ1, rfl, rfl, hS1, hr1, hi1⟩
        refine oX11_build_76 _ _ _ _ _ _ ?_
        simp only [bX11_build_76, qsem, qopt_s, qopt2_s, qev, qxs, Nat.reduceEqDiff, reduceIte, and_true, true_and, and_false, false_and, and_self, or_true, true_or, qb_or, reduceCtorEq, qbr_True, qbr_False, q10, q01, qwM, hfd]
        refine qbr_f ((i_nm1 (by omega))) ?_
        refine kX11_build_85 (zX11_addRow hS1 h1 h2 hjb hr1 (fun u v hu e => (hi1 v).mpr (reach_st ((hi1 u).mp hu) e)) (fun i hi => reach_lt hja ((hi1 i).mp hi))) rfl (Nat.le_of_ble_eq_true rfl) (Nat.le_of_ble_eq_true rfl) ⟨Nat.le_of_ble_eq_true rfl, Nat.le_of_ble_eq_true rfl⟩ ?_
        rintro _ _ ⟨M2, ρ2, rfl, rfl, hS2, hr2, hi2⟩
        exact at88 M2 ρ2 (fun i => reach S ja i ∨ reach S jb i) hS2 hr2 (fun i => by rw [hi2, hi1]) (fun u v q e => q.imp (fun q => reach_st q e) (fun q => reach_st q e)) (fun i q => q.elim (reach_lt hja) (reach_lt hjb)) (hin3 _ _ Iff.rfl hB)
  refine oX11_build_0 _ _ _ _ _ _ ?_
  simp only [bX11_build_0, qsem, qopt_s, qopt2_s, qev, qxs, Nat.reduceEqDiff, reduceIte, and_true, true_and, and_false, false_and, and_self, or_true, true_or, qb_or, reduceCtorEq, qbr_True, qbr_False, q10, q01, qwM, qb_0, eT, pjx hS, h1.1.1, cN400 h1]
  refine kX11_build_1 (zX11_isHand) (Nat.le_of_ble_eq_true rfl) (Nat.le_of_ble_eq_true rfl) ⟨Nat.le_of_ble_eq_true rfl, Nat.le_of_ble_eq_true rfl⟩ ?_
  rintro _ _ ⟨rfl, rfl⟩
  refine oX11_build_4 _ _ _ _ _ _ ?_
  simp only [bX11_build_4, qsem, qopt_s, qopt2_s, qev, qxs, Nat.reduceEqDiff, reduceIte, and_true, true_and, and_false, false_and, and_self, or_true, true_or, qb_or, reduceCtorEq, qbr_True, qbr_False, q10, q01, qwM, qb_0, eT, pjx hS, h1.1.1, cN400 h1]
  refine qbr_i (fun c1 => ?_) (fun c1 => ?_)
  · refine oX11_build_38 _ _ _ _ _ _ ?_
    simp only [bX11_build_38, qsem, qopt_s, qopt2_s, qev, qxs, Nat.reduceEqDiff, reduceIte, and_true, true_and, and_false, false_and, and_self, or_true, true_or, qb_or, reduceCtorEq, qbr_True, qbr_False, q10, q01, qwM, qb_0, eT, pjx hS, h1.1.1, cN400 h1]
    exact noOk M hS (fun q => by obtain ⟨q1, q2, q3, q4, -⟩ := q; first | exact absurd (c1.symm.trans q1) Bool.false_ne_true | exact absurd (c2.symm.trans q2) Bool.false_ne_true | exact absurd (c3.symm.trans q3) Bool.false_ne_true | exact q4 c4)
  · refine kX11_build_10 (zX11_in) (Nat.le_of_ble_eq_true rfl) (Nat.le_of_ble_eq_true rfl) ⟨Nat.le_of_ble_eq_true rfl, Nat.le_of_ble_eq_true rfl⟩ ?_
    rintro _ _ ⟨rfl, rfl⟩
    refine oX11_build_13 _ _ _ _ _ _ ?_
    simp only [bX11_build_13, qsem, qopt_s, qopt2_s, qev, qxs, Nat.reduceEqDiff, reduceIte, and_true, true_and, and_false, false_and, and_self, or_true, true_or, qb_or, reduceCtorEq, qbr_True, qbr_False, q10, q01, qwM, qb_0, eT, pjx hS, h1.1.1, cN400 h1]
    refine qbr_i (fun c2 => ?_) (fun c2 => ?_)
    · refine oX11_build_38 _ _ _ _ _ _ ?_
      simp only [bX11_build_38, qsem, qopt_s, qopt2_s, qev, qxs, Nat.reduceEqDiff, reduceIte, and_true, true_and, and_false, false_and, and_self, or_true, true_or, qb_or, reduceCtorEq, qbr_True, qbr_False, q10, q01, qwM, qb_0, eT, pjx hS, h1.1.1, cN400 h1]
      exact noOk M hS (fun q => by obtain ⟨q1, q2, q3, q4, -⟩ := q; first | exact absurd (c1.symm.trans q1) Bool.false_ne_true | exact absurd (c2.symm.trans q2) Bool.false_ne_true | exact absurd (c3.symm.trans q3) Bool.false_ne_true | exact q4 c4)
    · refine kX11_build_22 (zX11_areFiles hS h1) rfl (Nat.le_of_ble_eq_true rfl) (Nat.le_of_ble_eq_true rfl) ⟨Nat.le_of_ble_eq_true rfl, Nat.le_of_ble_eq_true rfl⟩ ?_
      rintro _ _ ⟨rfl, rfl⟩
      refine oX11_build_25 _ _ _ _ _ _ ?_
      simp only [bX11_build_25, qsem, qopt_s, qopt2_s, qev, qxs, Nat.reduceEqDiff, reduceIte, and_true, true_and, and_false, false_and, and_self, or_true, true_or, qb_or, reduceCtorEq, qbr_True, qbr_False, q10, q01, qwM, qb_0, eT, pjx hS, h1.1.1, cN400 h1]
      refine qbr_i (fun c3 => ?_) (fun c3 => ?_)
      · refine oX11_build_38 _ _ _ _ _ _ ?_
        simp only [bX11_build_38, qsem, qopt_s, qopt2_s, qev, qxs, Nat.reduceEqDiff, reduceIte, and_true, true_and, and_false, false_and, and_self, or_true, true_or, qb_or, reduceCtorEq, qbr_True, qbr_False, q10, q01, qwM, qb_0, eT, pjx hS, h1.1.1, cN400 h1]
        exact noOk M hS (fun q => by obtain ⟨q1, q2, q3, q4, -⟩ := q; first | exact absurd (c1.symm.trans q1) Bool.false_ne_true | exact absurd (c2.symm.trans q2) Bool.false_ne_true | exact absurd (c3.symm.trans q3) Bool.false_ne_true | exact q4 c4)
      · refine qbr_i (fun c4 => ?_) (fun c4 => ?_)
        · refine oX11_build_38 _ _ _ _ _ _ ?_
          simp only [bX11_build_38, qsem, qopt_s, qopt2_s, qev, qxs, Nat.reduceEqDiff, reduceIte, and_true, true_and, and_false, false_and, and_self, or_true, true_or, qb_or, reduceCtorEq, qbr_True, qbr_False, q10, q01, qwM, qb_0, eT, pjx hS, h1.1.1, cN400 h1]
          exact noOk M hS (fun q => by obtain ⟨q1, q2, q3, q4, -⟩ := q; first | exact absurd (c1.symm.trans q1) Bool.false_ne_true | exact absurd (c2.symm.trans q2) Bool.false_ne_true | exact absurd (c3.symm.trans q3) Bool.false_ne_true | exact q4 c4)
        · exact from40 ((Bool.not_eq_false _).mp c1) ((Bool.not_eq_false _).mp c2) ((Bool.not_eq_false _).mp c3) c4


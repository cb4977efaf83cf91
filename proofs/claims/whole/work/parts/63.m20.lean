/-- the meaning of the rule in force -/
def W7 (S : qS) (H : Nat → Nat → Nat → Bool) : Prop := ∀ t u b, t ≤ 12 → u ≤ 12 → b ≤ 12 → (cR S = 0 ∧ H t u b = true ∨ ¬ cR S = 0 ∧ ∃ fu, evc (S.2.1 161) (nI t) (nI u) (nI b) (220 * cR S) fu (220 * (cR S - 1)) (fun _ => false) 0 = some (H t u b))
def cH (H : Nat → Nat → Nat → Bool) (n x : Nat) : Prop := ∃ t u b, t ≤ n ∧ u ≤ n - x ∧ b ≤ x ∧ H t u b = true
theorem nIgt {a b : Nat} (ha : a < 1000) (hb : b < 1000) : (nI a < nI b) = (a < b) := nIlt ha hb
set_option maxRecDepth 100000 in
set_option maxHeartbeats 4000000 in
theorem zX11_canHold {C M : qC} {r : Nat × Nat × Nat} {S : qS} {H : Nat → Nat → Nat → Bool} {n x : Nat} (hS : pj M = S) (h1 : W1 S) (h7 : W7 S H) (hn : n ≤ 12) (hx : x ≤ n) : CT mX11_canHold 1 0 0 [.ref 136, .int (nI n), .int (nI x)] (wd C M r) (fun r' w' => ∃ M' v, w' = wd C M' r ∧ pj M' = S ∧ r' = some (.int (qb v)) ∧ (v = true ↔ cH H n x)) := by
  have es : nI n - nI x = nI (n - x) := pk_sub hx
  refine eX11_canHold (AW_gen (fun Q hQ => ?_))
  refine oX11_canHold_0 _ _ _ _ _ _ ?_
  simp only [bX11_canHold_0, qsem, qopt_s, qopt2_s, qev, qxs, Nat.reduceEqDiff, reduceIte, and_true, true_and, and_false, false_and, and_self, or_true, true_or, qb_or, reduceCtorEq, qbr_True, qbr_False, q10, q01, qwM]
  have yes : ∀ (M : qC) (t u b : Nat), pj M = S → t ≤ n → u ≤ n - x → b ≤ x → H t u b = true → Q (some (.int 1)) (wd C M r) := fun M t u b hS ht hu hb h => hQ _ _ ⟨M, true, rfl, hS, rfl, ⟨fun _ => ⟨t, u, b, ht, hu, hb, h⟩, fun _ => rfl⟩⟩
  have l1 : ∀ (j t : Nat) (M : qC) (o4 o5 : Option Value), q_nb (some o4) = true → q_nb (some o5) = true → t + j = n + 1 → pj M = S → (∀ t' u b, t' < t → u ≤ n - x → b ≤ x → H t' u b = false) → AW (mX11_canHold, 1, 0, 0, none, Q) 2 [some (.ref 136), some (.int (nI n)), some (.int (nI x)), some (.int (nI t)), o4, o5] [] (wd C M r) 0 0 := by
    intro j
    induction j with
    | zero =>
      intro t M o4 o5 q4 q5 ht hS hz
      refine oX11_canHold_2 _ _ _ _ _ _ ?_
      simp only [bX11_canHold_2, qsem, qopt_s, qopt2_s, qev, qxs, Nat.reduceEqDiff, reduceIte, and_true, true_and, and_false, false_and, and_self, or_true, true_or, qb_or, reduceCtorEq, qbr_True, qbr_False, q10, q01, qwM]
      refine qbr_t (nI_lt (show n < t by omega) (by omega)) ?_
      refine oX11_canHold_59 _ _ _ _ _ _ ?_
      simp only [bX11_canHold_59, qsem, qopt_s, qopt2_s, qev, qxs, Nat.reduceEqDiff, reduceIte, and_true, true_and, and_false, false_and, and_self, or_true, true_or, qb_or, reduceCtorEq, qbr_True, qbr_False, q10, q01, qwM]
      exact hQ _ _ ⟨M, false, rfl, hS, rfl, ⟨fun h => absurd h Bool.false_ne_true, fun ⟨t', u, b, ht', hu, hb, h⟩ => absurd h (by rw [hz t' u b (by omega) hu hb]; exact Bool.false_ne_true)⟩⟩
    | succ j ih =>
      intro t M o4 o5 q4 q5 ht hS hz
      have l2 : ∀ (j u : Nat) (M : qC) (o5 : Option Value), q_nb (some o5) = true → u + j = n - x + 1 → pj M = S → (∀ u' b, u' < u → b ≤ x → H t u' b = false) → AW (mX11_canHold, 1, 0, 0, none, Q) 10 [some (.ref 136), some (.int (nI n)), some (.int (nI x)), some (.int (nI t)), some (.int (nI u)), o5] [] (wd C M r) 0 0 := by
        intro j
        induction j with
        | zero =>
          intro u M o5 q5 hu hS hz2
          refine oX11_canHold_10 _ _ _ _ _ _ ?_
          simp only [bX11_canHold_10, qsem, qopt_s, qopt2_s, qev, qxs, Nat.reduceEqDiff, reduceIte, and_true, true_and, and_false, false_and, and_self, or_true, true_or, qb_or, reduceCtorEq, qbr_True, qbr_False, q10, q01, qwM, es, nI_1, q5]
          refine qbr_t (nI_lt (show n - x < u by omega) (by omega)) ?_
          refine oX11_canHold_53 _ _ _ _ _ _ ?_
          simp only [bX11_canHold_53, qsem, qopt_s, qopt2_s, qev, qxs, Nat.reduceEqDiff, reduceIte, and_true, true_and, and_false, false_and, and_self, or_true, true_or, qb_or, reduceCtorEq, qbr_True, qbr_False, q10, q01, qwM, es, nI_1, q5]
          exact ih (t + 1) M _ o5 rfl q5 (by omega) hS (fun t' u' b' h1' h2' h3' => by
            by_cases e : t' = t
            · rw [e]; exact hz2 u' b' (by omega) h3'
            · exact hz t' u' b' (by omega) h2' h3')
        | succ j ih2 =>
          intro u M o5 q5 hu hS hz2
          have l3 : ∀ (j b : Nat) (M : qC), b + j = x + 1 → pj M = S → (∀ b', b' < b → H t u b' = false) → AW (mX11_canHold, 1, 0, 0, none, Q) 21 [some (.ref 136), some (.int (nI n)), some (.int (nI x)), some (.int (nI t)), some (.int (nI u)), some (.int (nI b))] [] (wd C M r) 0 0 := by
            intro j
            induction j with
            | zero =>
              intro b M hb hS hz3
              refine oX11_canHold_21 _ _ _ _ _ _ ?_
              simp only [bX11_canHold_21, qsem, qopt_s, qopt2_s, qev, qxs, Nat.reduceEqDiff, reduceIte, and_true, true_and, and_false, false_and, and_self, or_true, true_or, qb_or, reduceCtorEq, qbr_True, qbr_False, q10, q01, qwM, nI_1]
              refine qbr_t (nI_lt (show x < b by omega) (by omega)) ?_
              refine oX11_canHold_47 _ _ _ _ _ _ ?_
              simp only [bX11_canHold_47, qsem, qopt_s, qopt2_s, qev, qxs, Nat.reduceEqDiff, reduceIte, and_true, true_and, and_false, false_and, and_self, or_true, true_or, qb_or, reduceCtorEq, qbr_True, qbr_False, q10, q01, qwM, nI_1]
              exact ih2 (u + 1) M _ rfl (by omega) hS (fun u' b' h1' h2' => by
                by_cases e : u' = u
                · rw [e]; exact hz3 b' (by omega)
                · exact hz2 u' b' (by omega) h2')
            | succ j ih3 =>
              intro b M hb hS hz3
              have nx : H t u b = false → ∀ b', b' < b + 1 → H t u b' = false := fun c1 b' h' => by
                by_cases e : b' = b
                · rw [e]; exact c1
                · exact hz3 b' (by omega)
              refine oX11_canHold_21 _ _ _ _ _ _ ?_
              simp only [bX11_canHold_21, qsem, qopt_s, qopt2_s, qev, qxs, Nat.reduceEqDiff, reduceIte, and_true, true_and, and_false, false_and, and_self, or_true, true_or, qb_or, reduceCtorEq, qbr_True, qbr_False, q10, q01, qwM, nI_1, qb_0]
              refine qbr_f (nI_nlt (show b ≤ x by omega) (by omega)) ?_
              refine kX11_canHold_33 (zX11_holds hS h1 (h7 t u b (by omega) (by omega) (by omega))) rfl (Nat.le_of_ble_eq_true rfl) (Nat.le_of_ble_eq_true rfl) ⟨Nat.le_of_ble_eq_true rfl, Nat.le_of_ble_eq_true rfl⟩ ?_
              rintro _ _ ⟨M1, rfl, hS1, rfl⟩
              refine oX11_canHold_36 _ _ _ _ _ _ ?_
              simp only [bX11_canHold_36, qsem, qopt_s, qopt2_s, qev, qxs, Nat.reduceEqDiff, reduceIte, and_true, true_and, and_false, false_and, and_self, or_true, true_or, qb_or, reduceCtorEq, qbr_True, qbr_False, q10, q01, qwM, nI_1, qb_0]
              refine qbr_i (fun c1 => ?_) (fun c1 => ?_)
              · refine oX11_canHold_41 _ _ _ _ _ _ ?_
                simp only [bX11_canHold_41, qsem, qopt_s, qopt2_s, qev, qxs, Nat.reduceEqDiff, reduceIte, and_true, true_and, and_false, false_and, and_self, or_true, true_or, qb_or, reduceCtorEq, qbr_True, qbr_False, q10, q01, qwM, nI_1, qb_0]
                exact ih3 (b + 1) M1 (by omega) hS1 (nx c1)
              · exact yes M1 t u b hS1 (by omega) (by omega) (by omega) ((Bool.not_eq_false _).mp c1)
          refine oX11_canHold_10 _ _ _ _ _ _ ?_
          simp only [bX11_canHold_10, qsem, qopt_s, qopt2_s, qev, qxs, Nat.reduceEqDiff, reduceIte, and_true, true_and, and_false, false_and, and_self, or_true, true_or, qb_or, reduceCtorEq, qbr_True, qbr_False, q10, q01, qwM, es]
          refine qbr_f (nI_nlt (show u ≤ n - x by omega) (by omega)) ?_
          exact l3 (x + 1) 0 M (by omega) hS (fun b' h' => by omega)
      refine oX11_canHold_2 _ _ _ _ _ _ ?_
      simp only [bX11_canHold_2, qsem, qopt_s, qopt2_s, qev, qxs, Nat.reduceEqDiff, reduceIte, and_true, true_and, and_false, false_and, and_self, or_true, true_or, qb_or, reduceCtorEq, qbr_True, qbr_False, q10, q01, qwM, q4, q5]
      refine qbr_f (nI_nlt (show t ≤ n by omega) (by omega)) ?_
      exact l2 (n - x + 1) 0 M o5 q5 (by omega) hS (fun u' b' h' => by omega)
  exact l1 (n + 1) 0 M none none rfl rfl (by omega) hS (fun t' u b h' => by omega)
/-- judging: no set of hands, or the least n and for it the least x -/
def jdP (H : Nat → Nat → Nat → Bool) (z : Int32) : Prop := (z = -1 ∧ ∀ n x, 3 ≤ n → n ≤ 12 → 1 ≤ x → x ≤ n - 2 → ¬ cH H n x) ∨ ∃ n x, 3 ≤ n ∧ n ≤ 12 ∧ 1 ≤ x ∧ x ≤ n - 2 ∧ cH H n x ∧ (∀ n' x', 3 ≤ n' → n' < n → 1 ≤ x' → x' ≤ n' - 2 → ¬ cH H n' x') ∧ (∀ x', 1 ≤ x' → x' < x → ¬ cH H n x') ∧ z = nI (16 * n + x)
set_option maxRecDepth 100000 in
set_option maxHeartbeats 4000000 in
theorem zX11_judged {C M : qC} {r : Nat × Nat × Nat} {S : qS} {H : Nat → Nat → Nat → Bool} (hS : pj M = S) (h1 : W1 S) (h7 : W7 S H) : CT mX11_judged 2 0 0 [.ref 136] (wd C M r) (fun r' w' => ∃ M' z, w' = wd C M' r ∧ pj M' = S ∧ r' = some (.int z) ∧ jdP H z) := by
  refine eX11_judged (AW_gen (fun Q hQ => ?_))
  refine oX11_judged_0 _ _ _ _ _ _ ?_
  simp only [bX11_judged_0, qsem, qopt_s, qopt2_s, qev, qxs, Nat.reduceEqDiff, reduceIte, and_true, true_and, and_false, false_and, and_self, or_true, true_or, qb_or, reduceCtorEq, qbr_True, qbr_False, q10, q01, qwM]
  have l1 : ∀ (j n : Nat) (M : qC) (o2 : Option Value), q_nb (some o2) = true → 3 ≤ n → n + j = 13 → pj M = S → (∀ n' x', 3 ≤ n' → n' < n → 1 ≤ x' → x' ≤ n' - 2 → ¬ cH H n' x') → AW (mX11_judged, 2, 0, 0, none, Q) 2 [some (.ref 136), some (.int (nI n)), o2] [] (wd C M r) 0 0 := by
    intro j
    induction j with
    | zero =>
      intro n M o2 q2 h3 hn hS hz
      obtain rfl : n = 13 := by omega
      refine oX11_judged_2 _ _ _ _ _ _ ?_
      simp only [bX11_judged_2, qsem, qopt_s, qopt2_s, qev, qxs, Nat.reduceEqDiff, reduceIte, and_true, true_and, and_false, false_and, and_self, or_true, true_or, qb_or, reduceCtorEq, qbr_True, qbr_False, q10, q01, qwM]
      refine qbr_t ((by decide)) ?_
      refine oX11_judged_45 _ _ _ _ _ _ ?_
      simp only [bX11_judged_45, qsem, qopt_s, qopt2_s, qev, qxs, Nat.reduceEqDiff, reduceIte, and_true, true_and, and_false, false_and, and_self, or_true, true_or, qb_or, reduceCtorEq, qbr_True, qbr_False, q10, q01, qwM]
      exact hQ _ _ ⟨M, -1, rfl, hS, rfl, Or.inl ⟨rfl, fun n x a b c d => hz n x a (by omega) c d⟩⟩
    | succ j ih =>
      intro n M o2 q2 h3 hn hS hz
      have e2 : nI n - 2 = nI (n - 2) := pk_sub (b := 2) (by omega)
      have em : 16 * nI n = nI (16 * n) := pk_mul 16 n
      have l2 : ∀ (j x : Nat) (M : qC), 1 ≤ x → x + j = n - 1 → pj M = S → (∀ x', 1 ≤ x' → x' < x → ¬ cH H n x') → AW (mX11_judged, 2, 0, 0, none, Q) 10 [some (.ref 136), some (.int (nI n)), some (.int (nI x))] [] (wd C M r) 0 0 := by
        intro j
        induction j with
        | zero =>
          intro x M hx1 hx hS hz2
          refine oX11_judged_10 _ _ _ _ _ _ ?_
          simp only [bX11_judged_10, qsem, qopt_s, qopt2_s, qev, qxs, Nat.reduceEqDiff, reduceIte, and_true, true_and, and_false, false_and, and_self, or_true, true_or, qb_or, reduceCtorEq, qbr_True, qbr_False, q10, q01, qwM, e2, nI_1]
          refine qbr_t (nI_lt (show n - 2 < x by omega) (by omega)) ?_
          refine oX11_judged_39 _ _ _ _ _ _ ?_
          simp only [bX11_judged_39, qsem, qopt_s, qopt2_s, qev, qxs, Nat.reduceEqDiff, reduceIte, and_true, true_and, and_false, false_and, and_self, or_true, true_or, qb_or, reduceCtorEq, qbr_True, qbr_False, q10, q01, qwM, e2, nI_1]
          exact ih (n + 1) M _ rfl (by omega) (by omega) hS (fun n' x' a b c d => by
            by_cases e : n' = n
            · rw [e]; exact hz2 x' c (by omega)
            · exact hz n' x' a (by omega) c d)
        | succ j ih2 =>
          intro x M hx1 hx hS hz2
          have nx : ¬ cH H n x → ∀ x', 1 ≤ x' → x' < x + 1 → ¬ cH H n x' := fun hno x' a b => by
            by_cases e : x' = x
            · rw [e]; exact hno
            · exact hz2 x' a (by omega)
          refine oX11_judged_10 _ _ _ _ _ _ ?_
          simp only [bX11_judged_10, qsem, qopt_s, qopt2_s, qev, qxs, Nat.reduceEqDiff, reduceIte, and_true, true_and, and_false, false_and, and_self, or_true, true_or, qb_or, reduceCtorEq, qbr_True, qbr_False, q10, q01, qwM, e2, nI_1, qb_0, em, nadd]
          refine qbr_f (nI_nlt (show x ≤ n - 2 by omega) (by omega)) ?_
          refine kX11_judged_20 (zX11_canHold hS h1 h7 (show n ≤ 12 by omega) (show x ≤ n by omega)) rfl (Nat.le_of_ble_eq_true rfl) (Nat.le_of_ble_eq_true rfl) ⟨Nat.le_of_ble_eq_true rfl, Nat.le_of_ble_eq_true rfl⟩ ?_
          rintro _ _ ⟨M1, v, rfl, hS1, rfl, hv⟩
          refine oX11_judged_23 _ _ _ _ _ _ ?_
          simp only [bX11_judged_23, qsem, qopt_s, qopt2_s, qev, qxs, Nat.reduceEqDiff, reduceIte, and_true, true_and, and_false, false_and, and_self, or_true, true_or, qb_or, reduceCtorEq, qbr_True, qbr_False, q10, q01, qwM, e2, nI_1, qb_0, em, nadd]
          refine qbr_i (fun c1 => ?_) (fun c1 => ?_)
          · refine oX11_judged_33 _ _ _ _ _ _ ?_
            simp only [bX11_judged_33, qsem, qopt_s, qopt2_s, qev, qxs, Nat.reduceEqDiff, reduceIte, and_true, true_and, and_false, false_and, and_self, or_true, true_or, qb_or, reduceCtorEq, qbr_True, qbr_False, q10, q01, qwM, e2, nI_1, qb_0, em, nadd]
            exact ih2 (x + 1) M1 (by omega) (by omega) hS1 (nx (fun q => absurd (c1.symm.trans (hv.mpr q)) Bool.false_ne_true))
          · exact hQ _ _ ⟨M1, _, rfl, hS1, rfl, Or.inr ⟨n, x, h3, by omega, hx1, by omega, hv.mp ((Bool.not_eq_false _).mp c1), hz, hz2, rfl⟩⟩
      refine oX11_judged_2 _ _ _ _ _ _ ?_
      simp only [bX11_judged_2, qsem, qopt_s, qopt2_s, qev, qxs, Nat.reduceEqDiff, reduceIte, and_true, true_and, and_false, false_and, and_self, or_true, true_or, qb_or, reduceCtorEq, qbr_True, qbr_False, q10, q01, qwM]
      refine qbr_f (nI_nlt (a := 12) (show n ≤ 12 by omega) (by omega)) ?_
      exact l2 (n - 2) 1 M (by omega) (by omega) hS (fun x' a b => by omega)
  exact l1 10 3 M none rfl (by omega) rfl hS (fun n' x' a b => by omega)


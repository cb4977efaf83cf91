/-! worlds that grow -/
theorem pu_n {w : qW} {c : va_E} : (qpu w c).2 w.1 = some c := if_pos rfl
theorem pu_o {w : qW} {c : va_E} {p : Nat} (h : p ≠ w.1) : (qpu w c).2 p = w.2 p := if_neg h
theorem sF_s {w : qW} {p k ci : Nat} {v : Value} {fs : List Value} (h : w.2 p = some (.inr (ci, fs))) : (qsF w p k v).2 p = some (.inr (ci, fs.set k v)) := by
  show (if p = p then _ else _) = _
  rw [if_pos rfl, h]
theorem sF_o {w : qW} {p q k : Nat} {v : Value} (h : q ≠ p) : (qsF w p k v).2 q = w.2 q := if_neg h
theorem sJ_s {w : qW} {p t n : Nat} {f g : Nat → Int32} (h : w.2 p = some (.inl (t, n, .inl g))) : (qsI w p f).2 p = some (.inl (t, n, .inl f)) := by
  show (if p = p then _ else _) = _
  rw [if_pos rfl, h]
theorem sJ_o {w : qW} {p q : Nat} {f : Nat → Int32} (h : q ≠ p) : (qsI w p f).2 q = w.2 q := if_neg h
theorem gF_of {w : qW} {p ci k : Nat} {fs : List Value} (h : w.2 p = some (.inr (ci, fs))) : qgF w p ci k = fs[k]? := by
  unfold qgF
  rw [h]
  exact if_pos rfl
theorem gJ_of {w : qW} {p t n : Nat} {f : Nat → Int32} (h : w.2 p = some (.inl (t, n, .inl f))) : qgI w p t = some (n, f) := by
  unfold qgI
  rw [h]
  exact if_pos rfl
theorem ln_of {w : qW} {p t n : Nat} {x : (Nat → Int32) ⊕ ((Nat → Int64) ⊕ _)} (h : w.2 p = some (.inl (t, n, x))) (ht : t < 4) : qlen w p = some (t, n) := by
  unfold qlen
  rw [h]
  exact if_pos ht
theorem ci_of {w : qW} {p ci : Nat} {fs : List Value} (h : w.2 p = some (.inr (ci, fs))) : qci w p = some ci := by
  unfold qci
  rw [h]
/-- fewer cells: the walk goes on -/
theorem AW_sub {g : qG} {pc : Nat} {L : qL} {st : List Value} {w w' : qW} {kc ks : Nat} (h : AW g pc L st w' kc ks) (h1 : w'.1 = w.1) (h2 : ∀ p c, w'.2 p = some c → w.2 p = some c) : AW g pc L st w kc ks := by
  intro p l e R s m args below meth c D cA z H locs ls hX hH hS hR
  exact h p l e R s m args below meth c D cA z H locs ls hX ⟨by rw [h1]; exact hH.1, fun q c hc => hH.2 q c (h2 q c hc)⟩ hS hR
/-! Arrays.copyOf, when it makes a shorter one -/
set_option maxRecDepth 100000 in
set_option maxHeartbeats 4000000 in
theorem zJ7_copyOf_59c91 {w : qW} {p n : Nat} {f : Nat → Int32} {k : Nat} (hp : w.2 p = some (.inl (0, n, .inl f))) (hpl : p < w.1) (hk : k < n) (hn : n ≤ 1000) : CT mJ7_copyOf_59c91 1 1 1000 [.ref p, .int (nI k)] w (fun r' w' => r' = some (.ref w.1) ∧ w' = qpu w (.inl (0, k, .inl (va_cpy f (fun _ => 0) 0 0 k)))) := by
  have hl := ln_of hp (by omega)
  have hck := nI_clamp (show k < 2 ^ 31 by omega)
  have hne : ¬ nI k = nI n := fun q => by have := i_ninj (by omega) (by omega) q; omega
  have hl2 : qlen (qpu w (.inl (0, k, .inl (fun _ => 0)))) p = some (0, n) := ln_of (by rw [pu_o (by omega)]; exact hp) (by omega)
  have hg1 : qgI (qpu w (.inl (0, k, .inl (fun _ => 0)))) p 0 = some (n, f) := gJ_of (by rw [pu_o (by omega)]; exact hp)
  have hg2 : qgI (qpu w (.inl (0, k, .inl (fun _ => 0)))) w.1 0 = some (k, fun _ => 0) := gJ_of pu_n
  have hs : qsI (qpu w (.inl (0, k, .inl (fun _ => 0)))) w.1 (va_cpy f (fun _ => 0) 0 0 k) = qpu w (.inl (0, k, .inl (va_cpy f (fun _ => 0) 0 0 k))) := by
    refine Prod.ext rfl (funext fun q => ?_)
    by_cases e : q = w.1
    · rw [e, sJ_s pu_n, pu_n]
    · rw [sJ_o e, pu_o e, pu_o e]
  have emin : (if nI k < nI n then nI k else nI n) = nI k := if_pos (nI_lt hk (by omega))
  refine eJ7_copyOf_59c91 (AW_gen (fun Q hQ => ?_))
  refine oJ7_copyOf_59c91_0 _ _ _ _ _ _ ?_
  simp only [bJ7_copyOf_59c91_0, qsem, qopt_s, qopt2_s, qev, qxs, Nat.reduceEqDiff, reduceIte, and_true, true_and, and_false, false_and, and_self, or_true, true_or, qb_or, reduceCtorEq, qbr_True, qbr_False, q10, q01, hl, hl2, hck]
  refine qbr_f (hne) ?_
  refine oJ7_copyOf_59c91_14 _ _ _ _ _ _ ?_
  simp only [bJ7_copyOf_59c91_14, qsem, qopt_s, qopt2_s, qev, qxs, Nat.reduceEqDiff, reduceIte, and_true, true_and, and_false, false_and, and_self, or_true, true_or, qb_or, reduceCtorEq, qbr_True, qbr_False, q10, q01, hl, hl2, hck]
  refine ⟨(by first | (show 0 + k ≤ 1000; omega) | exact ⟨Int32.not_lt.mpr (nI_pos' (by omega)), by omega, by show 0 + k ≤ 1000; omega⟩ | exact ⟨by omega, by show 0 + k ≤ 1000; omega⟩ | exact ⟨Int32.not_lt.mpr (nI_pos' (by omega)), by omega, by show 0 + 1 ≤ 1; omega, by show 0 + k ≤ 1000; omega⟩), ?_⟩
  skip
  refine kJ7_copyOf_59c91_25 (Nat.le_of_ble_eq_true rfl) (Nat.le_of_ble_eq_true rfl) (by show 0 + 1 ≤ 1; omega) (by show 0 + k ≤ 1000; omega) ?_
  rw [emin]
  refine kJ7_copyOf_59c91_28 (n0 := n) (n1 := k) (f0 := f) (f1 := fun _ => 0) hg1 hg2 (by decide) (by decide) (Int32.not_lt.mpr (nI_pos' (by omega))) (by rw [hck]; show 0 + k ≤ n; omega) (by rw [hck]; show 0 + k ≤ k; omega) (Nat.le_of_ble_eq_true rfl) (Nat.le_of_ble_eq_true rfl) ?_
  rw [hck, show (0 : Int32).toNatClampNeg = 0 from rfl, hs]
  refine oJ7_copyOf_59c91_31 _ _ _ _ _ _ ?_
  simp only [bJ7_copyOf_59c91_31, qsem, qopt_s, qopt2_s, qev]
  exact ⟨by show 0 + k ≤ 1000; omega, hQ _ _ ⟨rfl, rfl⟩⟩
def a9 : va_E := .inl (0, 9, .inl (fun _ => 0))
set_option maxRecDepth 100000 in
set_option maxHeartbeats 4000000 in
theorem zX6_init {w : qW} {q x : Nat} (hq : w.2 q = some (.inr (6, [.null, .null, .null]))) (hql : q < w.1) : CT mX6_init 1 2 18 [.ref q, .ref x] w (fun r' w' => r' = none ∧ w'.1 = w.1 + 2 ∧ w'.2 q = some (.inr (6, [.ref x, .ref w.1, .ref (w.1 + 1)])) ∧ w'.2 w.1 = some a9 ∧ w'.2 (w.1 + 1) = some a9 ∧ ∀ p, p < w.1 → p ≠ q → w'.2 p = w.2 p) := by
  have c9 : (9 : Int32).toNatClampNeg = 9 := rfl
  generalize hA : (a9 : va_E) = A
  have hA' : (.inl (0, 9, .inl (fun _ => 0)) : va_E) = A := hA
  have k1 : (qpu w A).2 q = some (.inr (6, [.null, .null, .null])) := by rw [pu_o (by omega)]; exact hq
  have g1 : qgF (qpu w A) q 6 1 = some .null := gF_of k1
  have k2 := sF_s (k := 1) (v := .ref w.1) k1
  have k3 : (qpu (qsF (qpu w A) q 1 (.ref w.1)) A).2 q = some (.inr (6, [.null, .ref w.1, .null])) := by rw [pu_o (by show q ≠ w.1 + 1; omega)]; exact k2
  have g2 : qgF (qpu (qsF (qpu w A) q 1 (.ref w.1)) A) q 6 2 = some .null := gF_of k3
  have k4 := sF_s (k := 2) (v := .ref (w.1 + 1)) k3
  have g3 : qgF (qsF (qpu (qsF (qpu w A) q 1 (.ref w.1)) A) q 2 (.ref (w.1 + 1))) q 6 0 = some .null := gF_of k4
  have k5 := sF_s (k := 0) (v := .ref x) k4
  refine eX6_init (AW_gen (fun Q hQ => ?_))
  refine oX6_init_0 _ _ _ _ _ _ ?_
  simp only [bX6_init_0, qsem, qopt_s, qopt2_s, qev, c9, hA', g1, show (qsF (qpu w A) q 1 (.ref w.1)).1 = w.1 + 1 from rfl, g2, g3]
  refine ⟨Nat.zero_le _, by decide, by decide, hQ _ _ ⟨rfl, rfl, k5, ?_, ?_, fun p hp hpq => ?_⟩⟩
  · rw [sF_o (by omega), sF_o (by omega), pu_o (by show w.1 ≠ w.1 + 1; omega), sF_o (by omega), pu_n]
  · rw [sF_o (by omega), sF_o (by omega)]; exact pu_n
  · rw [sF_o hpq, sF_o hpq, pu_o (by show p ≠ w.1 + 1; omega), sF_o hpq, pu_o (by omega)]


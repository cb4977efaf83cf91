/-! worlds as lists: the object at work stands after l0, what it has made after it -/
def wq (l0 : List va_E) (c : va_E) (t : List va_E) : qW := (l0.length + (t.length + 1), fun p => (l0 ++ c :: t)[p]?)
theorem wq_n {l0 : List va_E} {c : va_E} {t : List va_E} : (wq l0 c t).1 = l0.length + (t.length + 1) := rfl
theorem wq_pu {l0 : List va_E} {c e : va_E} {t : List va_E} : qpu (wq l0 c t) e = wq l0 c (t ++ [e]) := by
  refine Prod.ext (by show l0.length + (t.length + 1) + 1 = l0.length + ((t ++ [e]).length + 1); rw [List.length_append]; rfl) (funext fun p => ?_)
  show (if p = l0.length + (t.length + 1) then some e else (l0 ++ c :: t)[p]?) = (l0 ++ c :: (t ++ [e]))[p]?
  rw [show l0 ++ c :: (t ++ [e]) = (l0 ++ c :: t) ++ [e] by simp]
  have hl : (l0 ++ c :: t).length = l0.length + (t.length + 1) := by simp
  by_cases h : p = l0.length + (t.length + 1)
  · rw [if_pos h, h, ← hl]; simp
  · rw [if_neg h]
    by_cases h2 : p < l0.length + (t.length + 1)
    · rw [List.getElem?_append_left (l₁ := l0 ++ c :: t) (by omega)]
    · rw [List.getElem?_eq_none (by omega), List.getElem?_eq_none (by rw [List.length_append, hl]; show _ + 1 ≤ p; omega)]
theorem wq_q {l0 : List va_E} {c : va_E} {t : List va_E} : (wq l0 c t).2 l0.length = some c := by
  show (l0 ++ c :: t)[l0.length]? = _
  simp
theorem wq_t {l0 : List va_E} {c : va_E} {t : List va_E} {j : Nat} : (wq l0 c t).2 (l0.length + (j + 1)) = t[j]? := by
  show (l0 ++ c :: t)[l0.length + (j + 1)]? = _
  rw [List.getElem?_append_right (by omega), Nat.add_sub_cancel_left, List.getElem?_cons_succ]
theorem wq_gF {l0 : List va_E} {ci k : Nat} {fs : List Value} {t : List va_E} : qgF (wq l0 (.inr (ci, fs)) t) l0.length ci k = fs[k]? := gF_of wq_q
theorem wq_setc {l0 : List va_E} {c c' : va_E} {t : List va_E} : (fun q => if q = l0.length then some c' else (wq l0 c t).2 q) = (wq l0 c' t).2 := by
  funext q
  show (if q = l0.length then some c' else (l0 ++ c :: t)[q]?) = (l0 ++ c' :: t)[q]?
  by_cases h : q = l0.length
  · rw [if_pos h, h]; simp
  · rw [if_neg h]
    by_cases h2 : q < l0.length
    · rw [List.getElem?_append_left h2, List.getElem?_append_left h2]
    · obtain ⟨j, rfl⟩ : ∃ j, q = l0.length + (j + 1) := ⟨q - l0.length - 1, by omega⟩
      rw [List.getElem?_append_right (by omega), List.getElem?_append_right (by omega), Nat.add_sub_cancel_left, List.getElem?_cons_succ, List.getElem?_cons_succ]
theorem wq_sett {l0 : List va_E} {c c' : va_E} {t : List va_E} {j : Nat} (hj : j < t.length) : (fun q => if q = l0.length + (j + 1) then some c' else (wq l0 c t).2 q) = (wq l0 c (t.set j c')).2 := by
  funext q
  show (if q = l0.length + (j + 1) then some c' else (l0 ++ c :: t)[q]?) = (l0 ++ c :: t.set j c')[q]?
  by_cases h : q = l0.length + (j + 1)
  · rw [if_pos h, h, List.getElem?_append_right (by omega), Nat.add_sub_cancel_left, List.getElem?_cons_succ, List.getElem?_set_self hj]
  · rw [if_neg h]
    by_cases h2 : q < l0.length
    · rw [List.getElem?_append_left h2, List.getElem?_append_left h2]
    · rw [List.getElem?_append_right (by omega), List.getElem?_append_right (by omega)]
      rcases Nat.eq_zero_or_pos (q - l0.length) with e | e
      · rw [e]; rfl
      · obtain ⟨i, hi⟩ : ∃ i, q - l0.length = i + 1 := ⟨q - l0.length - 1, by omega⟩
        rw [hi, List.getElem?_cons_succ, List.getElem?_cons_succ, List.getElem?_set_ne (by omega)]
theorem wq_sF {l0 : List va_E} {ci k : Nat} {v : Value} {fs : List Value} {t : List va_E} : qsF (wq l0 (.inr (ci, fs)) t) l0.length k v = wq l0 (.inr (ci, fs.set k v)) t := by
  refine Prod.ext rfl ?_
  rw [← wq_setc (c := .inr (ci, fs))]
  funext q
  by_cases h : q = l0.length
  · rw [h, sF_s wq_q, if_pos rfl]
  · rw [sF_o h, if_neg h]
theorem wq_sI {l0 : List va_E} {c : va_E} {a n j : Nat} {f g : Nat → Int32} {t : List va_E} (h : t[j]? = some (.inl (a, n, .inl g))) : qsI (wq l0 c t) (l0.length + (j + 1)) f = wq l0 c (t.set j (.inl (a, n, .inl f))) := by
  have hj : j < t.length := (List.getElem?_eq_some_iff.mp h).1
  refine Prod.ext (by show _ = l0.length + ((t.set j _).length + 1); rw [List.length_set]; rfl) ?_
  rw [← wq_sett hj]
  funext q
  by_cases e : q = l0.length + (j + 1)
  · rw [e, sJ_s (wq_t.trans h), if_pos rfl]
  · rw [sJ_o e, if_neg e]
theorem wq_sR {l0 : List va_E} {c : va_E} {n j : Nat} {f g : Nat → Option Nat} {t : List va_E} (h : t[j]? = some (.inl (3, n, .inr (.inr (.inr (.inr g)))))) : qsR (wq l0 c t) (l0.length + (j + 1)) f = wq l0 c (t.set j (.inl (3, n, .inr (.inr (.inr (.inr f)))))) := by
  have hj : j < t.length := (List.getElem?_eq_some_iff.mp h).1
  refine Prod.ext (by show _ = l0.length + ((t.set j _).length + 1); rw [List.length_set]; rfl) ?_
  rw [← wq_sett hj]
  funext q
  by_cases e : q = l0.length + (j + 1)
  · show (if q = l0.length + (j + 1) then (match (wq l0 c t).2 (l0.length + (j + 1)) with | some (.inl (t, n, .inr (.inr (.inr (.inr _))))) => some (.inl (t, n, .inr (.inr (.inr (.inr f))))) | x => x) else (wq l0 c t).2 q) = _
    rw [if_pos e, if_pos e, wq_t, h]
  · rw [if_neg e]; exact if_neg e
def ai (n : Nat) : va_E := .inl (0, n, .inl (fun _ => 0))
def fs0 : va_E := .inr (0, [.long 0, .long 0])
set_option maxRecDepth 100000 in
set_option maxHeartbeats 4000000 in
theorem zX0_init {w : qW} {q : Nat} (hq : w.2 q = some fs0) : CT mX0_init 1 0 0 [.ref q] w (fun r' w' => r' = none ∧ w' = w) := by
  have g0 : qgF w q 0 0 = some (.long 0) := gF_of hq
  have same : ∀ k, k < 2 → qsF w q k (.long 0) = w := by
    intro k hk
    refine Prod.ext rfl (funext fun p => ?_)
    by_cases h : p = q
    · rw [h, sF_s hq, hq]
      rcases k with _ | _ | k
      · rfl
      · rfl
      · omega
    · rw [sF_o h]
  have g1 : qgF w q 0 1 = some (.long 0) := gF_of hq
  refine eX0_init (AW_gen (fun Q hQ => ?_))
  refine oX0_init_0 _ _ _ _ _ _ ?_
  simp only [bX0_init_0, qsem, qopt_s, qopt2_s, qev, qxs, Nat.reduceEqDiff, reduceIte, and_true, true_and, and_false, false_and, and_self, or_true, true_or, qb_or, reduceCtorEq, qbr_True, qbr_False, q10, q01, g0, g1, same 0 (by omega), same 1 (by omega)]
  refine ⟨by decide, ?_⟩
  exact hQ _ _ ⟨rfl, rfl⟩
set_option maxRecDepth 100000 in
set_option maxHeartbeats 4000000 in
theorem zX1_init {l0 : List va_E} {q : Nat} (hq : l0.length = q) : CT mX1_init 1 0 0 [.ref q] (wq l0 (.inr (1, [.int 0, .int 0, .int 0])) []) (fun r' w' => r' = none ∧ w' = wq l0 (.inr (1, [.int (-1), .int (-1), .int 0])) []) := by
  subst hq
  refine eX1_init (AW_gen (fun Q hQ => ?_))
  refine oX1_init_0 _ _ _ _ _ _ ?_
  simp only [bX1_init_0, qsem, qopt_s, qopt2_s, qev, qxs, Nat.reduceEqDiff, reduceIte, and_true, true_and, and_false, false_and, and_self, or_true, true_or, qb_or, reduceCtorEq, qbr_True, qbr_False, q10, q01, wq_pu, wq_gF, wq_sF, wq_n, List.length_cons, List.length_nil, List.set_cons_zero, List.set_cons_succ, List.getElem?_cons_zero, List.getElem?_cons_succ]
  exact hQ _ _ ⟨rfl, rfl⟩
set_option maxRecDepth 100000 in
set_option maxHeartbeats 4000000 in
theorem zX4_init {l0 : List va_E} {q : Nat} (hq : l0.length = q) : CT mX4_init 1 1 100 [.ref q] (wq l0 (.inr (4, [.null, .int 0])) []) (fun r' w' => r' = none ∧ w' = wq l0 (.inr (4, [.ref (q + 1), .int 0])) [ai 100]) := by
  subst hq
  refine eX4_init (AW_gen (fun Q hQ => ?_))
  refine oX4_init_0 _ _ _ _ _ _ ?_
  simp only [bX4_init_0, qsem, qopt_s, qopt2_s, qev, qxs, Nat.reduceEqDiff, reduceIte, and_true, true_and, and_false, false_and, and_self, or_true, true_or, qb_or, reduceCtorEq, qbr_True, qbr_False, q10, q01, wq_pu, wq_gF, wq_sF, wq_n, List.length_cons, List.length_nil, List.nil_append, List.cons_append, List.set_cons_zero, List.set_cons_succ, List.getElem?_cons_zero, List.getElem?_cons_succ, Nat.zero_add, Nat.reduceAdd]
  refine ⟨by decide, ?_⟩
  exact ⟨by decide, hQ _ _ ⟨rfl, rfl⟩⟩
set_option maxRecDepth 100000 in
set_option maxHeartbeats 4000000 in
theorem zX9_init {l0 : List va_E} {q : Nat} (hq : l0.length = q) : CT mX9_init 1 2 200 [.ref q] (wq l0 (.inr (9, [.null, .int 0, .null, .int 0, .int 0, .int 0, .int 0, .int 0])) []) (fun r' w' => r' = none ∧ w' = wq l0 (.inr (9, [.ref (q + 1), .int 0, .ref (q + 2), .int 0, .int 0, .int 0, .int 0, .int 0])) [ai 100, ai 100]) := by
  subst hq
  refine eX9_init (AW_gen (fun Q hQ => ?_))
  refine oX9_init_0 _ _ _ _ _ _ ?_
  simp only [bX9_init_0, qsem, qopt_s, qopt2_s, qev, qxs, Nat.reduceEqDiff, reduceIte, and_true, true_and, and_false, false_and, and_self, or_true, true_or, qb_or, reduceCtorEq, qbr_True, qbr_False, q10, q01, wq_pu, wq_gF, wq_sF, wq_n, List.length_cons, List.length_nil, List.nil_append, List.cons_append, List.set_cons_zero, List.set_cons_succ, List.getElem?_cons_zero, List.getElem?_cons_succ, Nat.zero_add, Nat.reduceAdd]
  refine ⟨by decide, ?_⟩
  refine ⟨by decide, ?_⟩
  exact ⟨by decide, hQ _ _ ⟨rfl, rfl⟩⟩
set_option maxRecDepth 100000 in
set_option maxHeartbeats 4000000 in
theorem zX3_init {l0 : List va_E} {q : Nat} (hq : l0.length = q) : CT mX3_init 2 3 202 [.ref q] (wq l0 (.inr (3, [.null, .null, .null, .int 0])) []) (fun r' w' => r' = none ∧ w' = wq l0 (.inr (3, [.ref (q + 1), .ref (q + 2), .ref (q + 3), .int 0])) [ai 100, ai 100, fs0]) := by
  subst hq
  refine eX3_init (AW_gen (fun Q hQ => ?_))
  refine oX3_init_0 _ _ _ _ _ _ ?_
  simp only [bX3_init_0, qsem, qopt_s, qopt2_s, qev, qxs, Nat.reduceEqDiff, reduceIte, and_true, true_and, and_false, false_and, and_self, or_true, true_or, qb_or, reduceCtorEq, qbr_True, qbr_False, q10, q01, wq_pu, wq_gF, wq_sF, wq_n, List.length_cons, List.length_nil, List.nil_append, List.cons_append, List.set_cons_zero, List.set_cons_succ, List.getElem?_cons_zero, List.getElem?_cons_succ, Nat.zero_add, Nat.reduceAdd]
  refine ⟨by decide, ?_⟩
  refine ⟨by decide, ?_⟩
  refine ⟨by decide, ?_⟩
  refine ⟨by decide, ?_⟩
  refine kX3_init_25 (zX0_init (wq_t (j := 2))) (Nat.le_of_ble_eq_true rfl) (Nat.le_of_ble_eq_true rfl) ⟨Nat.le_of_ble_eq_true rfl, Nat.le_of_ble_eq_true rfl⟩ ?_
  rintro _ _ ⟨rfl, rfl⟩
  refine oX3_init_28 _ _ _ _ _ _ ?_
  simp only [bX3_init_28, qsem, qopt_s, qopt2_s, qev, qxs, Nat.reduceEqDiff, reduceIte, and_true, true_and, and_false, false_and, and_self, or_true, true_or, qb_or, reduceCtorEq, qbr_True, qbr_False, q10, q01, wq_pu, wq_gF, wq_sF, wq_n, List.length_cons, List.length_nil, List.nil_append, List.cons_append, List.set_cons_zero, List.set_cons_succ, List.getElem?_cons_zero, List.getElem?_cons_succ, Nat.zero_add, Nat.reduceAdd]
  exact ⟨by decide, hQ _ _ ⟨rfl, rfl⟩⟩
def am (t n : Nat) (v : Int32) : va_E := .inl (t, n, .inl (flF (fun _ => 0) n v))
set_option maxRecDepth 100000 in
set_option maxHeartbeats 4000000 in
theorem zX5_init {l0 : List va_E} {q : Nat} (hq : l0.length = q) : CT mX5_init 2 3 20 [.ref q] (wq l0 (.inr (5, [.null, .null, .null, .int 0])) []) (fun r' w' => r' = none ∧ w' = wq l0 (.inr (5, [.ref (q + 1), .ref (q + 2), .ref (q + 3), .int 0])) [am 0 6 401, am 0 12 401, fs0]) := by
  subst hq
  refine eX5_init (AW_gen (fun Q hQ => ?_))
  refine oX5_init_0 _ _ _ _ _ _ ?_
  simp only [bX5_init_0, qsem, qopt_s, qopt2_s, qev, qxs, Nat.reduceEqDiff, reduceIte, and_true, true_and, and_false, false_and, and_self, or_true, true_or, qb_or, reduceCtorEq, qbr_True, qbr_False, q10, q01, wq_pu, wq_gF, wq_sF, wq_n, List.length_cons, List.length_nil, List.nil_append, List.cons_append, List.set_cons_zero, List.set_cons_succ, List.getElem?_cons_zero, List.getElem?_cons_succ, Nat.zero_add, Nat.reduceAdd]
  refine ⟨by decide, ?_⟩
  refine ⟨by decide, ?_⟩
  refine ⟨by decide, ?_⟩
  refine ⟨by decide, ?_⟩
  refine kX5_init_25 (zX0_init (wq_t (j := 2))) (Nat.le_of_ble_eq_true rfl) (Nat.le_of_ble_eq_true rfl) ⟨Nat.le_of_ble_eq_true rfl, Nat.le_of_ble_eq_true rfl⟩ ?_
  rintro _ _ ⟨rfl, rfl⟩
  refine oX5_init_28 _ _ _ _ _ _ ?_
  simp only [bX5_init_28, qsem, qopt_s, qopt2_s, qev, qxs, Nat.reduceEqDiff, reduceIte, and_true, true_and, and_false, false_and, and_self, or_true, true_or, qb_or, reduceCtorEq, qbr_True, qbr_False, q10, q01, wq_pu, wq_gF, wq_sF, wq_n, List.length_cons, List.length_nil, List.nil_append, List.cons_append, List.set_cons_zero, List.set_cons_succ, List.getElem?_cons_zero, List.getElem?_cons_succ, Nat.zero_add, Nat.reduceAdd]
  refine kX5_init_43 (zJ7_fill_53178 (n := 6) (f := fun _ => 0) (gJ_of (wq_t (j := 0))) (by omega)) (Nat.le_of_ble_eq_true rfl) (Nat.le_of_ble_eq_true rfl) ⟨Nat.le_of_ble_eq_true rfl, Nat.le_of_ble_eq_true rfl⟩ ?_
  rintro _ _ ⟨rfl, rfl⟩
  rw [wq_sI (j := 0) (a := 0) (n := 6) (g := fun _ => 0) rfl]
  refine oX5_init_46 _ _ _ _ _ _ ?_
  simp only [bX5_init_46, qsem, qopt_s, qopt2_s, qev, qxs, Nat.reduceEqDiff, reduceIte, and_true, true_and, and_false, false_and, and_self, or_true, true_or, qb_or, reduceCtorEq, qbr_True, qbr_False, q10, q01, wq_pu, wq_gF, wq_sF, wq_n, List.length_cons, List.length_nil, List.nil_append, List.cons_append, List.set_cons_zero, List.set_cons_succ, List.getElem?_cons_zero, List.getElem?_cons_succ, Nat.zero_add, Nat.reduceAdd]
  refine kX5_init_53 (zJ7_fill_53178 (n := 12) (f := fun _ => 0) (gJ_of (wq_t (j := 1))) (by omega)) (Nat.le_of_ble_eq_true rfl) (Nat.le_of_ble_eq_true rfl) ⟨Nat.le_of_ble_eq_true rfl, Nat.le_of_ble_eq_true rfl⟩ ?_
  rintro _ _ ⟨rfl, rfl⟩
  rw [wq_sI (j := 1) (a := 0) (n := 12) (g := fun _ => 0) rfl]
  refine oX5_init_56 _ _ _ _ _ _ ?_
  simp only [bX5_init_56, qsem, qopt_s, qopt2_s, qev, qxs, Nat.reduceEqDiff, reduceIte, and_true, true_and, and_false, false_and, and_self, or_true, true_or, qb_or, reduceCtorEq, qbr_True, qbr_False, q10, q01, wq_pu, wq_gF, wq_sF, wq_n, List.length_cons, List.length_nil, List.nil_append, List.cons_append, List.set_cons_zero, List.set_cons_succ, List.getElem?_cons_zero, List.getElem?_cons_succ, Nat.zero_add, Nat.reduceAdd]
  exact ⟨by decide, hQ _ _ ⟨rfl, rfl⟩⟩
set_option maxRecDepth 100000 in
set_option maxHeartbeats 4000000 in
theorem zX2_init {l0 : List va_E} {q : Nat} (hq : l0.length = q) : CT mX2_init 1 4 16 [.ref q] (wq l0 (.inr (2, [.null, .null, .null, .null])) []) (fun r' w' => r' = none ∧ w' = wq l0 (.inr (2, [.ref (q + 1), .ref (q + 2), .ref (q + 3), .ref (q + 4)])) [ai 4, .inl (1, 4, .inl (fun _ => 0)), am 0 4 (-1), ai 4]) := by
  subst hq
  refine eX2_init (AW_gen (fun Q hQ => ?_))
  refine oX2_init_0 _ _ _ _ _ _ ?_
  simp only [bX2_init_0, qsem, qopt_s, qopt2_s, qev, qxs, Nat.reduceEqDiff, reduceIte, and_true, true_and, and_false, false_and, and_self, or_true, true_or, qb_or, reduceCtorEq, qbr_True, qbr_False, q10, q01, wq_pu, wq_gF, wq_sF, wq_n, List.length_cons, List.length_nil, List.nil_append, List.cons_append, List.set_cons_zero, List.set_cons_succ, List.getElem?_cons_zero, List.getElem?_cons_succ, Nat.zero_add, Nat.reduceAdd]
  refine ⟨by decide, ?_⟩
  refine ⟨by decide, ?_⟩
  refine ⟨by decide, ?_⟩
  refine ⟨by decide, ?_⟩
  refine kX2_init_37 (zJ7_fill_53178 (n := 4) (f := fun _ => 0) (gJ_of (wq_t (j := 2))) (by omega)) (Nat.le_of_ble_eq_true rfl) (Nat.le_of_ble_eq_true rfl) ⟨Nat.le_of_ble_eq_true rfl, Nat.le_of_ble_eq_true rfl⟩ ?_
  rintro _ _ ⟨rfl, rfl⟩
  rw [wq_sI (j := 2) (a := 0) (n := 4) (g := fun _ => 0) rfl]
  refine oX2_init_40 _ _ _ _ _ _ ?_
  simp only [bX2_init_40, qsem, qopt_s, qopt2_s, qev, qxs, Nat.reduceEqDiff, reduceIte, and_true, true_and, and_false, false_and, and_self, or_true, true_or, qb_or, reduceCtorEq, qbr_True, qbr_False, q10, q01, wq_pu, wq_gF, wq_sF, wq_n, List.length_cons, List.length_nil, List.nil_append, List.cons_append, List.set_cons_zero, List.set_cons_succ, List.getElem?_cons_zero, List.getElem?_cons_succ, Nat.zero_add, Nat.reduceAdd]
  exact ⟨by decide, hQ _ _ ⟨rfl, rfl⟩⟩
set_option maxRecDepth 100000 in
set_option maxHeartbeats 4000000 in
theorem zX8_init {l0 : List va_E} {q : Nat} (hq : l0.length = q) {v : Int32} {n : Nat} (h1 : (0 : Int32) < v) (h2 : (400 * v).toNatClampNeg = n) (h3 : ¬ 400 * v < 0) (hn : n ≤ 3200) : CT mX8_init 1 1 n [.ref q, .int 400, .int v] (wq l0 (.inr (8, [.int 0, .int 0, .null, .int 0])) []) (fun r' w' => r' = none ∧ w' = wq l0 (.inr (8, [.int 400, .int v, .ref (q + 1), .int 0])) [am 0 n (-1)]) := by
  subst hq
  have e4 : (if (0 : Int32) < 400 then (400 : Int32) else 0) = 400 := rfl
  have ev : (if (0 : Int32) < v then v else 0) = v := if_pos h1
  refine eX8_init (AW_gen (fun Q hQ => ?_))
  refine oX8_init_0 _ _ _ _ _ _ ?_
  simp only [bX8_init_0, qsem, qopt_s, qopt2_s, qev, qxs, Nat.reduceEqDiff, reduceIte, and_true, true_and, and_false, false_and, and_self, or_true, true_or, qb_or, reduceCtorEq, qbr_True, qbr_False, q10, q01, wq_pu, wq_gF, wq_sF, wq_n, List.length_cons, List.length_nil, List.nil_append, List.cons_append, List.set_cons_zero, List.set_cons_succ, List.getElem?_cons_zero, List.getElem?_cons_succ, Nat.zero_add, Nat.reduceAdd]
  refine kX8_init_12 (Nat.le_of_ble_eq_true rfl) (Nat.le_of_ble_eq_true rfl) (Nat.le_of_ble_eq_true rfl) (Nat.le_of_ble_eq_true rfl) ?_
  refine oX8_init_15 _ _ _ _ _ _ ?_
  simp only [bX8_init_15, qsem, qopt_s, qopt2_s, qev, qxs, Nat.reduceEqDiff, reduceIte, and_true, true_and, and_false, false_and, and_self, or_true, true_or, qb_or, reduceCtorEq, qbr_True, qbr_False, q10, q01, wq_pu, wq_gF, wq_sF, wq_n, List.length_cons, List.length_nil, List.nil_append, List.cons_append, List.set_cons_zero, List.set_cons_succ, List.getElem?_cons_zero, List.getElem?_cons_succ, Nat.zero_add, Nat.reduceAdd, e4]
  refine kX8_init_21 (Nat.le_of_ble_eq_true rfl) (Nat.le_of_ble_eq_true rfl) (Nat.le_of_ble_eq_true rfl) (Nat.le_of_ble_eq_true rfl) ?_
  refine oX8_init_24 _ _ _ _ _ _ ?_
  simp only [bX8_init_24, qsem, qopt_s, qopt2_s, qev, qxs, Nat.reduceEqDiff, reduceIte, and_true, true_and, and_false, false_and, and_self, or_true, true_or, qb_or, reduceCtorEq, qbr_True, qbr_False, q10, q01, wq_pu, wq_gF, wq_sF, wq_n, List.length_cons, List.length_nil, List.nil_append, List.cons_append, List.set_cons_zero, List.set_cons_succ, List.getElem?_cons_zero, List.getElem?_cons_succ, Nat.zero_add, Nat.reduceAdd, ev, h2]
  refine ⟨⟨h3, by omega⟩, ?_⟩
  refine kX8_init_47 (zJ7_fill_53178 (n := n) (f := fun _ => 0) (gJ_of (wq_t (j := 0))) (by omega)) (Nat.le_of_ble_eq_true rfl) (Nat.le_of_ble_eq_true rfl) (⟨by show 1 + 0 ≤ 1; decide, by show n + 0 ≤ n; omega⟩) ?_
  rintro _ _ ⟨rfl, rfl⟩
  rw [wq_sI (j := 0) (a := 0) (n := n) (g := fun _ => 0) rfl]
  refine oX8_init_50 _ _ _ _ _ _ ?_
  simp only [bX8_init_50, qsem, qopt_s, qopt2_s, qev, qxs, Nat.reduceEqDiff, reduceIte, and_true, true_and, and_false, false_and, and_self, or_true, true_or, qb_or, reduceCtorEq, qbr_True, qbr_False, q10, q01, wq_pu, wq_gF, wq_sF, wq_n, List.length_cons, List.length_nil, List.nil_append, List.cons_append, List.set_cons_zero, List.set_cons_succ, List.getElem?_cons_zero, List.getElem?_cons_succ, Nat.zero_add, Nat.reduceAdd]
  exact ⟨by show n + 0 ≤ n; omega, hQ _ _ ⟨rfl, rfl⟩⟩
theorem am_0 {t n : Nat} : (.inl (t, n, .inl (fun _ => 0)) : va_E) = .inl (t, n, .inl (fun _ => 0)) := rfl
def rfA (b k : Nat) : Nat → Option Nat := fun i => if i < k then some (b + i) else none
theorem rfA_up {b k : Nat} : va_up (rfA b k) k (some (b + k)) = rfA b (k + 1) := by
  funext i
  unfold va_up rfA
  by_cases h : i = k
  · subst h; simp
  · by_cases h2 : i < k
    · simp [h, h2, show i < k + 1 by omega]
    · simp [h, h2, show ¬ i < k + 1 by omega]
def shT (b k : Nat) : List va_E := .inl (2, 100, .inr (.inl (fun _ => 0))) :: .inl (3, 100, .inr (.inr (.inr (.inr (rfA b k))))) :: ai 100 :: ai 100 :: ai 100 :: ai 100 :: fs0 :: List.replicate k fs0
def sh7 (q : Nat) : va_E := .inr (7, [.ref (q + 1), .ref (q + 2), .ref (q + 3), .ref (q + 4), .ref (q + 5), .ref (q + 6), .ref (q + 7), .int 0])
theorem rep_sn {k : Nat} : List.replicate k fs0 ++ [fs0] = List.replicate (k + 1) fs0 := by
  induction k with
  | zero => rfl
  | succ k ih => rw [List.replicate_succ, List.cons_append, ih, ← List.replicate_succ]
theorem shT_sn {b k : Nat} : shT b k ++ [fs0] = .inl (2, 100, .inr (.inl (fun _ => 0))) :: .inl (3, 100, .inr (.inr (.inr (.inr (rfA b k))))) :: ai 100 :: ai 100 :: ai 100 :: ai 100 :: fs0 :: List.replicate (k + 1) fs0 := by
  show _ :: _ :: _ :: _ :: _ :: _ :: _ :: (List.replicate k fs0 ++ [fs0]) = _
  rw [rep_sn]
theorem shT_l {b k : Nat} : (shT b k).length = 7 + k := by
  show (List.replicate k fs0).length + 1 + 1 + 1 + 1 + 1 + 1 + 1 = 7 + k
  rw [List.length_replicate]; omega
set_option maxRecDepth 100000 in
set_option maxHeartbeats 4000000 in
theorem zX7_init {l0 : List va_E} {q : Nat} (hq : l0.length = q) : CT mX7_init 2 107 802 [.ref q] (wq l0 (.inr (7, [.null, .null, .null, .null, .null, .null, .null, .int 0])) []) (fun r' w' => r' = none ∧ w' = wq l0 (sh7 q) (shT (q + 8) 100)) := by
  subst hq
  refine eX7_init (AW_gen (fun Q hQ => ?_))
  have loop : ∀ (d k : Nat), k + d = 100 → AW (mX7_init, 2, 107, 802, none, Q) 71 [some (.ref l0.length), some (.int (nI k))] [] (wq l0 (sh7 l0.length) (shT (l0.length + 8) k)) (7 + k) (602 + 2 * k) := by
    intro d
    induction d with
    | zero =>
      intro k hk
      obtain rfl : k = 100 := by omega
      refine oX7_init_71 _ _ _ _ _ _ ?_
      simp only [bX7_init_71, qsem, qopt_s, qopt2_s, qev, qxs, Nat.reduceEqDiff, reduceIte, and_true, true_and, and_false, false_and, and_self, or_true, true_or, qb_or, reduceCtorEq, qbr_True, qbr_False, q10, q01, nI]
      refine qbr_t (by decide) ?_
      refine oX7_init_96 _ _ _ _ _ _ ?_
      simp only [bX7_init_96, qsem, qopt_s, qopt2_s, qev, qxs, Nat.reduceEqDiff, reduceIte, and_true, true_and, and_false, false_and, and_self, or_true, true_or, qb_or, reduceCtorEq, qbr_True, qbr_False, q10, q01, nI]
      first | exact ⟨by decide, by decide, hQ _ _ ⟨rfl, rfl⟩⟩ | exact ⟨by decide, hQ _ _ ⟨rfl, rfl⟩⟩ | exact hQ _ _ ⟨rfl, rfl⟩
    | succ d ih =>
      intro k hk
      have g7 : qgF (wq l0 (sh7 l0.length) (shT (l0.length + 8) k)) l0.length 7 1 = some (.ref (l0.length + 2)) := gF_of wq_q
      have hnn : (wq l0 (sh7 l0.length) (shT (l0.length + 8) k)).1 = l0.length + (7 + k + 1) := by rw [wq_n, shT_l]
      have hx0 : (wq l0 (sh7 l0.length) (shT (l0.length + 8) k ++ [fs0])).2 (l0.length + (7 + k + 1)) = some fs0 := by
        rw [wq_t, ← shT_l (b := l0.length + 8)]
        simp
      have gR : qgR (wq l0 (sh7 l0.length) (shT (l0.length + 8) k ++ [fs0])) (l0.length + 2) = some (100, rfA (l0.length + 8) k) := by
        unfold qgR
        rw [show (wq l0 (sh7 l0.length) (shT (l0.length + 8) k ++ [fs0])).2 (l0.length + 2) = _ from wq_t (j := 1), shT_sn]
        rfl
      have gX : qgF (wq l0 (sh7 l0.length) (shT (l0.length + 8) k ++ [fs0])) (l0.length + (7 + k + 1)) 0 0 = some (.long 0) := gF_of hx0
      have sR : qsR (wq l0 (sh7 l0.length) (shT (l0.length + 8) k ++ [fs0])) (l0.length + 2) (va_up (rfA (l0.length + 8) k) k (some (l0.length + (7 + k + 1)))) = wq l0 (sh7 l0.length) (shT (l0.length + 8) (k + 1)) := by
        rw [show qsR (wq l0 (sh7 l0.length) (shT (l0.length + 8) k ++ [fs0])) (l0.length + 2) _ = _ from wq_sR (j := 1) (n := 100) (g := rfA (l0.length + 8) k) (by rw [shT_sn]; rfl), shT_sn, show l0.length + (7 + k + 1) = l0.length + 8 + k by omega, rfA_up]
        rfl
      have hfs : (.inr (0, [.long 0, .long 0]) : va_E) = fs0 := rfl
      refine oX7_init_71 _ _ _ _ _ _ ?_
      simp only [bX7_init_71, qsem, qopt_s, qopt2_s, qev, qxs, Nat.reduceEqDiff, reduceIte, and_true, true_and, and_false, false_and, and_self, or_true, true_or, qb_or, reduceCtorEq, qbr_True, qbr_False, q10, q01, g7, hnn, hfs, wq_pu, gR, gX, sR, nI_clamp (show k < 2 ^ 31 by omega), nI_1]
      refine qbr_f ((nI_ge (a := k) (b := 100) (by omega) (by omega))) ?_
      refine ⟨⟨by show 7 + k + 1 ≤ 107; omega, by show 602 + 2 * k + 2 ≤ 802; omega⟩, ?_⟩
      refine kX7_init_86 (zX0_init hx0) (Nat.le_of_ble_eq_true rfl) (Nat.le_of_ble_eq_true rfl) (⟨by show 7 + k + 1 + 0 ≤ 107; omega, by show 602 + 2 * k + 2 + 0 ≤ 802; omega⟩) ?_
      rintro _ _ ⟨rfl, rfl⟩
      refine oX7_init_89 _ _ _ _ _ _ ?_
      simp only [bX7_init_89, qsem, qopt_s, qopt2_s, qev, qxs, Nat.reduceEqDiff, reduceIte, and_true, true_and, and_false, false_and, and_self, or_true, true_or, qb_or, reduceCtorEq, qbr_True, qbr_False, q10, q01, g7, hnn, hfs, wq_pu, gR, gX, sR, nI_clamp (show k < 2 ^ 31 by omega), nI_1]
      exact ⟨nI_vp (by omega) (by omega), ih (k + 1) (by omega)⟩
  refine oX7_init_0 _ _ _ _ _ _ ?_
  simp only [bX7_init_0, qsem, qopt_s, qopt2_s, qev, qxs, Nat.reduceEqDiff, reduceIte, and_true, true_and, and_false, false_and, and_self, or_true, true_or, qb_or, reduceCtorEq, qbr_True, qbr_False, q10, q01, wq_pu, wq_gF, wq_sF, wq_n, List.length_cons, List.length_nil, List.nil_append, List.cons_append, List.set_cons_zero, List.set_cons_succ, List.getElem?_cons_zero, List.getElem?_cons_succ, Nat.zero_add, Nat.reduceAdd]
  refine ⟨by decide, ?_⟩
  refine ⟨by decide, ?_⟩
  refine ⟨by decide, ?_⟩
  refine ⟨by decide, ?_⟩
  refine ⟨by decide, ?_⟩
  refine ⟨by decide, ?_⟩
  refine ⟨by decide, ?_⟩
  refine ⟨by decide, ?_⟩
  refine kX7_init_58 (zX0_init (wq_t (j := 6))) (Nat.le_of_ble_eq_true rfl) (Nat.le_of_ble_eq_true rfl) ⟨Nat.le_of_ble_eq_true rfl, Nat.le_of_ble_eq_true rfl⟩ ?_
  rintro _ _ ⟨rfl, rfl⟩
  refine oX7_init_61 _ _ _ _ _ _ ?_
  simp only [bX7_init_61, qsem, qopt_s, qopt2_s, qev, qxs, Nat.reduceEqDiff, reduceIte, and_true, true_and, and_false, false_and, and_self, or_true, true_or, qb_or, reduceCtorEq, qbr_True, qbr_False, q10, q01, wq_pu, wq_gF, wq_sF, wq_n, List.length_cons, List.length_nil, List.nil_append, List.cons_append, List.set_cons_zero, List.set_cons_succ, List.getElem?_cons_zero, List.getElem?_cons_succ, Nat.zero_add, Nat.reduceAdd]
  exact loop 100 0 rfl
set_option maxRecDepth 100000 in
set_option maxHeartbeats 4000000 in
theorem zX6_ini {l0 : List va_E} {q : Nat} (hq : l0.length = q) {a : va_E} : CT mX6_init 1 2 18 [.ref q, .ref (q + 1)] (wq l0 (.inr (6, [.null, .null, .null])) [a]) (fun r' w' => r' = none ∧ w' = wq l0 (.inr (6, [.ref (q + 1), .ref (q + 2), .ref (q + 3)])) [a, ai 9, ai 9]) := by
  subst hq
  refine eX6_init (AW_gen (fun Q hQ => ?_))
  refine oX6_init_0 _ _ _ _ _ _ ?_
  simp only [bX6_init_0, qsem, qopt_s, qopt2_s, qev, qxs, Nat.reduceEqDiff, reduceIte, and_true, true_and, and_false, false_and, and_self, or_true, true_or, qb_or, reduceCtorEq, qbr_True, qbr_False, q10, q01, wq_pu, wq_gF, wq_sF, wq_n, List.length_cons, List.length_nil, List.nil_append, List.cons_append, List.set_cons_zero, List.set_cons_succ, List.getElem?_cons_zero, List.getElem?_cons_succ, Nat.zero_add, Nat.reduceAdd]
  refine ⟨by decide, ?_⟩
  refine ⟨by decide, ?_⟩
  exact ⟨by decide, hQ _ _ ⟨rfl, rfl⟩⟩
theorem wz_n {c : va_E} {t : List va_E} : (wq [] c t).1 = t.length + 1 := Nat.zero_add _
theorem wz_pu {c e : va_E} {t : List va_E} : qpu (wq [] c t) e = wq (c :: t) e [] := by
  rw [wq_pu]
  refine Prod.ext ?_ rfl
  show 0 + ((t ++ [e]).length + 1) = (t.length + 1) + 1
  rw [List.length_append]
  show 0 + (t.length + 1 + 1) = _
  omega
theorem wz_b {c e : va_E} {t t' : List va_E} : wq (c :: t) e t' = wq [] c (t ++ e :: t') := by
  refine Prod.ext ?_ rfl
  show t.length + 1 + (t'.length + 1) = 0 + ((t ++ e :: t').length + 1)
  rw [List.length_append, List.length_cons]
  omega
theorem wz_b2 {c e a : va_E} {t : List va_E} : wq [] c (t ++ [e] ++ [a]) = wq (c :: t) e [a] := by
  rw [wz_b, List.append_assoc]
  rfl
theorem wz_gF {ci k : Nat} {fs : List Value} {t : List va_E} : qgF (wq [] (.inr (ci, fs)) t) 0 ci k = fs[k]? := wq_gF (l0 := [])
theorem wz_sF {ci k : Nat} {v : Value} {fs : List Value} {t : List va_E} : qsF (wq [] (.inr (ci, fs)) t) 0 k v = wq [] (.inr (ci, fs.set k v)) t := wq_sF (l0 := [])
def tE1 (n : Nat) (v : Int32) (q : Nat) : List va_E := .inr (8, [.int 400, .int v, .ref q, .int 0]) :: [am 0 n (-1)]
def tX10 : List va_E := [] ++ .inr (8, [.int 400, .int 8, .ref (1 + 1), .int 0]) :: [am 0 3200 (-1)] ++ .inr (8, [.int 400, .int 6, .ref (3 + 1), .int 0]) :: [am 0 2400 (-1)] ++ sh7 5 :: shT (5 + 8) 100 ++ .inr (3, [.ref (113 + 1), .ref (113 + 2), .ref (113 + 3), .int 0]) :: [ai 100, ai 100, fs0] ++ .inr (5, [.ref (117 + 1), .ref (117 + 2), .ref (117 + 3), .int 0]) :: [am 0 6 401, am 0 12 401, fs0] ++ .inr (9, [.ref (121 + 1), .int 0, .ref (121 + 2), .int 0, .int 0, .int 0, .int 0, .int 0]) :: [ai 100, ai 100] ++ .inr (4, [.ref (124 + 1), .int 0]) :: [ai 100] ++ .inr (2, [.ref (126 + 1), .ref (126 + 2), .ref (126 + 3), .ref (126 + 4)]) :: [ai 4, .inl (1, 4, .inl (fun _ => 0)), am 0 4 (-1), ai 4] ++ .inr (1, [.int (-1), .int (-1), .int 0]) :: [] ++ .inr (6, [.ref (132 + 1), .ref (132 + 2), .ref (132 + 3)]) :: [ai 0, ai 9, ai 9]
def cX10 : va_E := .inr (10, [.ref 1, .ref 3, .ref 5, .ref 113, .ref 117, .ref 121, .ref 124, .ref 126, .ref 131, .ref 132, .int 0])
set_option maxRecDepth 100000 in
set_option maxHeartbeats 4000000 in
theorem zX10_init : CT mX10_init 3 135 7100 [.ref 0] (wq [] (.inr (10, [.null, .null, .null, .null, .null, .null, .null, .null, .null, .null, .int 0])) []) (fun r' w' => r' = none ∧ w' = wq [] cX10 tX10) := by
  have hl : ∀ {c : va_E} {t : List va_E} {q : Nat}, t.length + 1 = q → (c :: t).length = q := fun h => h
  refine eX10_init (AW_gen (fun Q hQ => ?_))
  refine oX10_init_0 _ _ _ _ _ _ ?_
  simp only [bX10_init_0, qsem, qopt_s, qopt2_s, qev, qxs, Nat.reduceEqDiff, reduceIte, and_true, true_and, and_false, false_and, and_self, or_true, true_or, qb_or, reduceCtorEq, qbr_True, qbr_False, q10, q01, wz_pu, wz_gF, wz_sF, wz_n, List.length_append, List.length_cons, List.length_nil, shT_l, List.set_cons_zero, List.set_cons_succ, List.getElem?_cons_zero, List.getElem?_cons_succ, Nat.zero_add, Nat.reduceAdd]
  refine ⟨by decide, ?_⟩
  refine ⟨by decide, ?_⟩
  refine kX10_init_14 (zX8_init (v := 8) (n := 3200) (hl (by rfl)) (by decide) (by decide) (by decide) (by decide)) (Nat.le_of_ble_eq_true rfl) (Nat.le_of_ble_eq_true rfl) (⟨by exact Nat.le_of_ble_eq_true rfl, by exact Nat.le_of_ble_eq_true rfl⟩) ?_
  rintro _ _ ⟨rfl, rfl⟩
  rw [wz_b]
  refine oX10_init_17 _ _ _ _ _ _ ?_
  simp only [bX10_init_17, qsem, qopt_s, qopt2_s, qev, qxs, Nat.reduceEqDiff, reduceIte, and_true, true_and, and_false, false_and, and_self, or_true, true_or, qb_or, reduceCtorEq, qbr_True, qbr_False, q10, q01, wz_pu, wz_gF, wz_sF, wz_n, List.length_append, List.length_cons, List.length_nil, shT_l, List.set_cons_zero, List.set_cons_succ, List.getElem?_cons_zero, List.getElem?_cons_succ, Nat.zero_add, Nat.reduceAdd]
  refine ⟨by decide, ?_⟩
  refine kX10_init_30 (zX8_init (v := 6) (n := 2400) (hl (by rfl)) (by decide) (by decide) (by decide) (by decide)) (Nat.le_of_ble_eq_true rfl) (Nat.le_of_ble_eq_true rfl) (⟨by exact Nat.le_of_ble_eq_true rfl, by exact Nat.le_of_ble_eq_true rfl⟩) ?_
  rintro _ _ ⟨rfl, rfl⟩
  rw [wz_b]
  refine oX10_init_33 _ _ _ _ _ _ ?_
  simp only [bX10_init_33, qsem, qopt_s, qopt2_s, qev, qxs, Nat.reduceEqDiff, reduceIte, and_true, true_and, and_false, false_and, and_self, or_true, true_or, qb_or, reduceCtorEq, qbr_True, qbr_False, q10, q01, wz_pu, wz_gF, wz_sF, wz_n, List.length_append, List.length_cons, List.length_nil, shT_l, List.set_cons_zero, List.set_cons_succ, List.getElem?_cons_zero, List.getElem?_cons_succ, Nat.zero_add, Nat.reduceAdd]
  refine ⟨by decide, ?_⟩
  refine kX10_init_41 (zX7_init (hl (by rfl))) (Nat.le_of_ble_eq_true rfl) (Nat.le_of_ble_eq_true rfl) (⟨by exact Nat.le_of_ble_eq_true rfl, by exact Nat.le_of_ble_eq_true rfl⟩) ?_
  rintro _ _ ⟨rfl, rfl⟩
  rw [wz_b]
  refine oX10_init_44 _ _ _ _ _ _ ?_
  simp only [bX10_init_44, qsem, qopt_s, qopt2_s, qev, qxs, Nat.reduceEqDiff, reduceIte, and_true, true_and, and_false, false_and, and_self, or_true, true_or, qb_or, reduceCtorEq, qbr_True, qbr_False, q10, q01, wz_pu, wz_gF, wz_sF, wz_n, List.length_append, List.length_cons, List.length_nil, shT_l, List.set_cons_zero, List.set_cons_succ, List.getElem?_cons_zero, List.getElem?_cons_succ, Nat.zero_add, Nat.reduceAdd]
  refine ⟨by decide, ?_⟩
  refine kX10_init_52 (zX3_init (hl (by simp only [List.length_append, List.length_cons, List.length_nil, shT_l]))) (Nat.le_of_ble_eq_true rfl) (Nat.le_of_ble_eq_true rfl) (⟨by exact Nat.le_of_ble_eq_true rfl, by exact Nat.le_of_ble_eq_true rfl⟩) ?_
  rintro _ _ ⟨rfl, rfl⟩
  rw [wz_b]
  refine oX10_init_55 _ _ _ _ _ _ ?_
  simp only [bX10_init_55, qsem, qopt_s, qopt2_s, qev, qxs, Nat.reduceEqDiff, reduceIte, and_true, true_and, and_false, false_and, and_self, or_true, true_or, qb_or, reduceCtorEq, qbr_True, qbr_False, q10, q01, wz_pu, wz_gF, wz_sF, wz_n, List.length_append, List.length_cons, List.length_nil, shT_l, List.set_cons_zero, List.set_cons_succ, List.getElem?_cons_zero, List.getElem?_cons_succ, Nat.zero_add, Nat.reduceAdd]
  refine ⟨by decide, ?_⟩
  refine kX10_init_63 (zX5_init (hl (by simp only [List.length_append, List.length_cons, List.length_nil, shT_l]))) (Nat.le_of_ble_eq_true rfl) (Nat.le_of_ble_eq_true rfl) (⟨by exact Nat.le_of_ble_eq_true rfl, by exact Nat.le_of_ble_eq_true rfl⟩) ?_
  rintro _ _ ⟨rfl, rfl⟩
  rw [wz_b]
  refine oX10_init_66 _ _ _ _ _ _ ?_
  simp only [bX10_init_66, qsem, qopt_s, qopt2_s, qev, qxs, Nat.reduceEqDiff, reduceIte, and_true, true_and, and_false, false_and, and_self, or_true, true_or, qb_or, reduceCtorEq, qbr_True, qbr_False, q10, q01, wz_pu, wz_gF, wz_sF, wz_n, List.length_append, List.length_cons, List.length_nil, shT_l, List.set_cons_zero, List.set_cons_succ, List.getElem?_cons_zero, List.getElem?_cons_succ, Nat.zero_add, Nat.reduceAdd]
  refine ⟨by decide, ?_⟩
  refine kX10_init_74 (zX9_init (hl (by simp only [List.length_append, List.length_cons, List.length_nil, shT_l]))) (Nat.le_of_ble_eq_true rfl) (Nat.le_of_ble_eq_true rfl) (⟨by exact Nat.le_of_ble_eq_true rfl, by exact Nat.le_of_ble_eq_true rfl⟩) ?_
  rintro _ _ ⟨rfl, rfl⟩
  rw [wz_b]
  refine oX10_init_77 _ _ _ _ _ _ ?_
  simp only [bX10_init_77, qsem, qopt_s, qopt2_s, qev, qxs, Nat.reduceEqDiff, reduceIte, and_true, true_and, and_false, false_and, and_self, or_true, true_or, qb_or, reduceCtorEq, qbr_True, qbr_False, q10, q01, wz_pu, wz_gF, wz_sF, wz_n, List.length_append, List.length_cons, List.length_nil, shT_l, List.set_cons_zero, List.set_cons_succ, List.getElem?_cons_zero, List.getElem?_cons_succ, Nat.zero_add, Nat.reduceAdd]
  refine ⟨by decide, ?_⟩
  refine kX10_init_85 (zX4_init (hl (by simp only [List.length_append, List.length_cons, List.length_nil, shT_l]))) (Nat.le_of_ble_eq_true rfl) (Nat.le_of_ble_eq_true rfl) (⟨by exact Nat.le_of_ble_eq_true rfl, by exact Nat.le_of_ble_eq_true rfl⟩) ?_
  rintro _ _ ⟨rfl, rfl⟩
  rw [wz_b]
  refine oX10_init_88 _ _ _ _ _ _ ?_
  simp only [bX10_init_88, qsem, qopt_s, qopt2_s, qev, qxs, Nat.reduceEqDiff, reduceIte, and_true, true_and, and_false, false_and, and_self, or_true, true_or, qb_or, reduceCtorEq, qbr_True, qbr_False, q10, q01, wz_pu, wz_gF, wz_sF, wz_n, List.length_append, List.length_cons, List.length_nil, shT_l, List.set_cons_zero, List.set_cons_succ, List.getElem?_cons_zero, List.getElem?_cons_succ, Nat.zero_add, Nat.reduceAdd]
  refine ⟨by decide, ?_⟩
  refine kX10_init_96 (zX2_init (hl (by simp only [List.length_append, List.length_cons, List.length_nil, shT_l]))) (Nat.le_of_ble_eq_true rfl) (Nat.le_of_ble_eq_true rfl) (⟨by exact Nat.le_of_ble_eq_true rfl, by exact Nat.le_of_ble_eq_true rfl⟩) ?_
  rintro _ _ ⟨rfl, rfl⟩
  rw [wz_b]
  refine oX10_init_99 _ _ _ _ _ _ ?_
  simp only [bX10_init_99, qsem, qopt_s, qopt2_s, qev, qxs, Nat.reduceEqDiff, reduceIte, and_true, true_and, and_false, false_and, and_self, or_true, true_or, qb_or, reduceCtorEq, qbr_True, qbr_False, q10, q01, wz_pu, wz_gF, wz_sF, wz_n, List.length_append, List.length_cons, List.length_nil, shT_l, List.set_cons_zero, List.set_cons_succ, List.getElem?_cons_zero, List.getElem?_cons_succ, Nat.zero_add, Nat.reduceAdd]
  refine ⟨by decide, ?_⟩
  refine kX10_init_107 (zX1_init (hl (by simp only [List.length_append, List.length_cons, List.length_nil, shT_l]))) (Nat.le_of_ble_eq_true rfl) (Nat.le_of_ble_eq_true rfl) (⟨by exact Nat.le_of_ble_eq_true rfl, by exact Nat.le_of_ble_eq_true rfl⟩) ?_
  rintro _ _ ⟨rfl, rfl⟩
  rw [wz_b]
  refine oX10_init_110 _ _ _ _ _ _ ?_
  simp only [bX10_init_110, qsem, qopt_s, qopt2_s, qev, qxs, Nat.reduceEqDiff, reduceIte, and_true, true_and, and_false, false_and, and_self, or_true, true_or, qb_or, reduceCtorEq, qbr_True, qbr_False, q10, q01, wz_pu, wz_gF, wz_sF, wz_n, List.length_append, List.length_cons, List.length_nil, shT_l, List.set_cons_zero, List.set_cons_succ, List.getElem?_cons_zero, List.getElem?_cons_succ, Nat.zero_add, Nat.reduceAdd, wq_pu, wq_n, List.nil_append]
  refine ⟨by decide, ?_⟩
  refine ⟨by decide, ?_⟩
  rw [wz_b2]
  refine kX10_init_121 (zX6_ini (q := 132) (hl (by simp only [List.length_append, List.length_cons, List.length_nil, shT_l]))) (Nat.le_of_ble_eq_true rfl) (Nat.le_of_ble_eq_true rfl) (⟨by exact Nat.le_of_ble_eq_true rfl, by exact Nat.le_of_ble_eq_true rfl⟩) ?_
  rintro _ _ ⟨rfl, rfl⟩
  rw [wz_b]
  refine oX10_init_124 _ _ _ _ _ _ ?_
  simp only [bX10_init_124, qsem, qopt_s, qopt2_s, qev, qxs, Nat.reduceEqDiff, reduceIte, and_true, true_and, and_false, false_and, and_self, or_true, true_or, qb_or, reduceCtorEq, qbr_True, qbr_False, q10, q01, wz_pu, wz_gF, wz_sF, wz_n, List.length_append, List.length_cons, List.length_nil, shT_l, List.set_cons_zero, List.set_cons_succ, List.getElem?_cons_zero, List.getElem?_cons_succ, Nat.zero_add, Nat.reduceAdd]
  exact ⟨by decide, hQ _ _ ⟨rfl, rfl⟩⟩
def tX11 (g : Nat → Int32) : List va_E := [.inl (2, 100, .inr (.inl (fun _ => 0))), ai 400, ai 400, ai 400, ai 400, ai 400, ai 400, ai 400, ai 400, ai 400, ai 400, ai 400, ai 400, ai 100, ai 4, .inl (1, 4, .inl (fun _ => 0)), .inl (0, 4, .inl g), ai 50, ai 50, ai 50, .inl (1, 100, .inl (fun _ => 0)), ai 100, .inl (1, 100, .inl (fun _ => 0)), ai 100, ai 4400, ai 220, .inl (1, 220, .inl (fun _ => 0)), .inl (1, 400, .inl (fun _ => 0))]
def cX11 (q : Nat) : va_E := .inr (11, [.int 0, .int 0, .int 0, .int 0, .int 0, .int 0, .ref (q + 1), .ref (q + 2), .ref (q + 3), .ref (q + 4), .ref (q + 5), .ref (q + 6), .ref (q + 7), .ref (q + 8), .ref (q + 9), .ref (q + 10), .ref (q + 11), .ref (q + 12), .ref (q + 13), .ref (q + 14), .ref (q + 15), .ref (q + 16), .ref (q + 17), .ref (q + 18), .ref (q + 19), .ref (q + 20), .ref (q + 21), .ref (q + 22), .ref (q + 23), .ref (q + 24), .ref (q + 25), .ref (q + 26), .int 0, .int 0, .int 0, .int 0, .int 0, .ref (q + 27), .ref (q + 28)])
set_option maxRecDepth 100000 in
set_option maxHeartbeats 4000000 in
theorem zX11_init {l0 : List va_E} {q : Nat} (hq : l0.length = q) : CT mX11_init 1 28 10900 [.ref q] (wq l0 (.inr (11, [.int 0, .int 0, .int 0, .int 0, .int 0, .int 0, .null, .null, .null, .null, .null, .null, .null, .null, .null, .null, .null, .null, .null, .null, .null, .null, .null, .null, .null, .null, .null, .null, .null, .null, .null, .null, .int 0, .int 0, .int 0, .int 0, .int 0, .null, .null])) []) (fun r' w' => r' = none ∧ ∃ g : Nat → Int32, w' = wq l0 (cX11 q) (tX11 g) ∧ ∀ j, j < 4 → g j = -1) := by
  subst hq
  refine eX11_init (AW_gen (fun Q hQ => ?_))
  have loop : ∀ (d k : Nat) (g : Nat → Int32), k + d = 4 → (∀ j, j < k → g j = -1) → AW (mX11_init, 1, 28, 10900, none, Q) 243 [some (.ref l0.length), some (.int (nI k))] [] (wq l0 (cX11 l0.length) (tX11 g)) 28 10802 := by
    intro d
    induction d with
    | zero =>
      intro k g hk hg
      obtain rfl : k = 4 := by omega
      refine oX11_init_243 _ _ _ _ _ _ ?_
      simp only [bX11_init_243, qsem, qopt_s, qopt2_s, qev, qxs, Nat.reduceEqDiff, reduceIte, and_true, true_and, and_false, false_and, and_self, or_true, true_or, qb_or, reduceCtorEq, qbr_True, qbr_False, q10, q01, nI]
      refine qbr_t (by decide) ?_
      refine oX11_init_261 _ _ _ _ _ _ ?_
      simp only [bX11_init_261, qsem, qopt_s, qopt2_s, qev, qxs, Nat.reduceEqDiff, reduceIte, and_true, true_and, and_false, false_and, and_self, or_true, true_or, qb_or, reduceCtorEq, qbr_True, qbr_False, q10, q01, nI]
      first | exact ⟨by decide, by decide, hQ _ _ ⟨rfl, g, rfl, hg⟩⟩ | exact ⟨by decide, hQ _ _ ⟨rfl, g, rfl, hg⟩⟩ | exact hQ _ _ ⟨rfl, g, rfl, hg⟩
    | succ d ih =>
      intro k g hk hg
      have g7 : qgF (wq l0 (cX11 l0.length) (tX11 g)) l0.length 11 22 = some (.ref (l0.length + 17)) := gF_of wq_q
      have gI : qgI (wq l0 (cX11 l0.length) (tX11 g)) (l0.length + 17) 0 = some (4, g) := gJ_of (wq_t (j := 16))
      have sI : ∀ f, qsI (wq l0 (cX11 l0.length) (tX11 g)) (l0.length + 17) f = wq l0 (cX11 l0.length) (tX11 f) := fun f => wq_sI (j := 16) (a := 0) (n := 4) (g := g) rfl
      refine oX11_init_243 _ _ _ _ _ _ ?_
      simp only [bX11_init_243, qsem, qopt_s, qopt2_s, qev, qxs, Nat.reduceEqDiff, reduceIte, and_true, true_and, and_false, false_and, and_self, or_true, true_or, qb_or, reduceCtorEq, qbr_True, qbr_False, q10, q01, g7, gI, sI, nI_clamp (show k < 2 ^ 31 by omega), nI_1]
      refine qbr_f ((nI_ge (a := k) (b := 4) (by omega) (by omega))) ?_
      refine ⟨nI_vp (by omega) (by omega), ?_⟩
      exact ih (k + 1) _ (by omega) (fun j hj => Decidable.byCases (fun e : j = k => by rw [e, pk_us]) (fun e => by rw [pk_un e]; exact hg j (by omega)))
  refine oX11_init_0 _ _ _ _ _ _ ?_
  simp only [bX11_init_0, qsem, qopt_s, qopt2_s, qev, qxs, Nat.reduceEqDiff, reduceIte, and_true, true_and, and_false, false_and, and_self, or_true, true_or, qb_or, reduceCtorEq, qbr_True, qbr_False, q10, q01, wq_pu, wq_gF, wq_sF, wq_n, List.length_cons, List.length_nil, List.nil_append, List.cons_append, List.set_cons_zero, List.set_cons_succ, List.getElem?_cons_zero, List.getElem?_cons_succ, Nat.zero_add, Nat.reduceAdd]
  refine ⟨by decide, ?_⟩
  refine ⟨by decide, ?_⟩
  refine ⟨by decide, ?_⟩
  refine ⟨by decide, ?_⟩
  refine ⟨by decide, ?_⟩
  refine ⟨by decide, ?_⟩
  refine ⟨by decide, ?_⟩
  refine ⟨by decide, ?_⟩
  refine ⟨by decide, ?_⟩
  refine ⟨by decide, ?_⟩
  refine ⟨by decide, ?_⟩
  refine ⟨by decide, ?_⟩
  refine ⟨by decide, ?_⟩
  refine ⟨by decide, ?_⟩
  refine ⟨by decide, ?_⟩
  refine ⟨by decide, ?_⟩
  refine ⟨by decide, ?_⟩
  refine ⟨by decide, ?_⟩
  refine ⟨by decide, ?_⟩
  refine ⟨by decide, ?_⟩
  refine ⟨by decide, ?_⟩
  refine ⟨by decide, ?_⟩
  refine ⟨by decide, ?_⟩
  refine ⟨by decide, ?_⟩
  refine ⟨by decide, ?_⟩
  refine ⟨by decide, ?_⟩
  refine ⟨by decide, ?_⟩
  refine ⟨by decide, ?_⟩
  exact loop 4 0 (fun _ => 0) rfl (fun j hj => by omega)


theorem AW_gen {M : qM} {d mc ms : Nat} {sc : Option (Nat × (Nat → Int32))} {Q : Option Value → qW → Prop} {pc : Nat} {L : qL} {st : List Value} {w : qW} {kc ks : Nat} (h : ∀ Q' : Option Value → qW → Prop, (∀ r w, Q r w → Q' r w) → AW (M, d, mc, ms, sc, Q') pc L st w kc ks) : AW (M, d, mc, ms, sc, Q) pc L st w kc ks := h Q (fun _ _ h => h)
def sI (S : qS) (k : Nat) (v : Int32) : qS := (fun j => if j = k then v else S.1 j, S.2.1, S.2.2)
def sA (S : qS) (p : Nat) (f : Nat → Int32) : qS := (S.1, fun q => if q = p then f else S.2.1 q, S.2.2)
def sM (S : qS) (f : Nat → Int64) : qS := (S.1, S.2.1, f)
theorem pj_wA {M : qC} {p : Nat} {f : Nat → Int32} (h : scA p = false) : pj (yA M p f) = sA (pj M) p f := by
  refine Prod.ext rfl (Prod.ext ?_ rfl)
  funext q
  show (if scA q then _ else xA (yA M p f) q) = if q = p then f else if scA q then _ else xA M q
  by_cases e : q = p
  · subst e; rw [h]; simp [qxs]
  · simp only [qxs, if_neg e]
theorem pj_wI {M : qC} {k : Nat} {v : Int32} (h : scI k = false) : pj (yI M 136 k v) = sI (pj M) k v := by
  refine Prod.ext ?_ rfl
  funext q
  show (if scI q then _ else xI (yI M 136 k v) 136 q) = if q = k then v else if scI q then _ else xI M 136 q
  by_cases e : q = k
  · subst e; rw [h]; simp [qxs]
  · simp only [qxs, e, and_false, if_false]
theorem pj_wM {M : qC} {f : Nat → Int64} : pj (yM M 137 f) = sM (pj M) f := by
  refine Prod.ext rfl (Prod.ext rfl ?_)
  show xM (yM M 137 f) 137 = f
  simp [qxs]
theorem ss : (∀ S k v j, (sI S k v).1 j = if j = k then v else S.1 j) ∧ (∀ S k v, (sI S k v).2 = S.2) ∧ (∀ S p f, (sA S p f).1 = S.1) ∧ (∀ S p f q, (sA S p f).2.1 q = if q = p then f else S.2.1 q) ∧ (∀ S p f, (sA S p f).2.2 = S.2.2) ∧ (∀ S f, (sM S f).1 = S.1) ∧ (∀ S f, (sM S f).2.1 = S.2.1) ∧ (∀ S f, (sM S f).2.2 = f) := by
  refine ⟨?_, ?_, ?_, ?_, ?_, ?_, ?_, ?_⟩ <;> intros <;> rfl
/-- one note more -/
def nA (S : qS) (v : Nat → Int32) : qS := (fun k => if k = 0 then S.1 0 + 1 else S.1 k, fun p => if 138 ≤ p ∧ p ≤ 148 then upd (S.2.1 p) (cN S) (v p) else S.2.1 p, S.2.2)
def vN (s f h : Int32) (p : Nat) : Int32 := if p = 138 then s else if p = 139 then f else if p = 140 then h else -1
theorem nA_put {S : qS} {v : Nat → Int32} {p : Nat} {x : Int32} (h : 138 ≤ p ∧ p ≤ 148) : sA (nA S v) p (upd ((nA S v).2.1 p) (cN S) x) = nA S (fun q => if q = p then x else v q) := by
  refine Prod.ext rfl (Prod.ext ?_ rfl)
  funext q
  show (if q = p then upd ((nA S v).2.1 p) (cN S) x else (nA S v).2.1 q) = (nA S fun q => if q = p then x else v q).2.1 q
  by_cases e : q = p
  · subst e
    simp only [nA, if_pos rfl, if_pos h]
    funext j
    by_cases ej : j = cN S <;> simp [upd, ej]
  · simp only [nA, if_neg e]
theorem nA_c0 {S : qS} (v : Nat → Int32) (h1 : W1 S) : (nA S v).1 0 = nI (cN S + 1) := by
  show S.1 0 + 1 = _
  rw [h1.1.1, nI_1]
theorem nA_N {S : qS} (v : Nat → Int32) (h1 : W1 S) : cN (nA S v) = cN S + 1 := by
  have := h1.2.1
  show ((nA S v).1 0).toNatClampNeg = _
  rw [nA_c0 v h1, nI_clamp (by omega)]
theorem nA_k {S : qS} (v : Nat → Int32) {k : Nat} (h : k ≠ 0) : (nA S v).1 k = S.1 k := by
  show (if k = 0 then _ else S.1 k) = S.1 k
  rw [if_neg h]
theorem nA_a {S : qS} (v : Nat → Int32) {p : Nat} (h : 138 ≤ p ∧ p ≤ 148) (n : Nat) : (nA S v).2.1 p n = if n = cN S then v p else S.2.1 p n := by
  show (if 138 ≤ p ∧ p ≤ 148 then upd (S.2.1 p) (cN S) (v p) else S.2.1 p) n = _
  rw [if_pos h]; rfl
theorem nA_o {S : qS} (v : Nat → Int32) {p : Nat} (h : ¬ (138 ≤ p ∧ p ≤ 148)) : (nA S v).2.1 p = S.2.1 p := by
  show (if 138 ≤ p ∧ p ≤ 148 then _ else S.2.1 p) = _
  rw [if_neg h]
theorem nA_h {S : qS} (v : Nat → Int32) : (nA S v).2.2 = S.2.2 := rfl
set_option maxRecDepth 100000 in
set_option maxHeartbeats 4000000 in
theorem zX11_addNote {C M : qC} {r : Nat × Nat × Nat} {S : qS} {s f h : Int32} (hS : pj M = S) (h1 : W1 S) (hn : cN S < 400) : CT mX11_addNote 0 0 0 [.ref 136, .int s, .int f, .int h] (wd C M r) (fun r' w' => ∃ M', w' = wd C M' r ∧ r' = some (.int (nI (cN S))) ∧ pj M' = nA S (vN s f h)) := by
  have hv : vp_in (nI (cN S)) 400 := nI_vp hn (by omega)
  refine eX11_addNote (AW_gen (fun Q hQ => ?_))
  refine oX11_addNote_0 _ _ _ _ _ _ ?_
  simp only [bX11_addNote_0, qsem, qopt_s, qopt2_s, qev, qxs, Nat.reduceEqDiff, reduceIte, and_true, true_and, and_false, false_and, and_self, or_true, true_or, qb_or, reduceCtorEq, qbr_True, qbr_False, q10, q01, qwM, pjx hS, h1.1.1, nI_clamp (show cN S < 2 ^ 31 by omega)]
  refine ⟨hv, ?_⟩
  refine ⟨hv, ?_⟩
  refine ⟨hv, ?_⟩
  refine ⟨hv, ?_⟩
  refine ⟨hv, ?_⟩
  refine ⟨hv, ?_⟩
  refine ⟨hv, ?_⟩
  refine ⟨hv, ?_⟩
  refine ⟨hv, ?_⟩
  refine ⟨hv, ?_⟩
  refine ⟨hv, ?_⟩
  refine hQ _ _ ⟨_, rfl, rfl, ?_⟩
  rw [pj_wA rfl, pj_wA rfl, pj_wA rfl, pj_wA rfl, pj_wA rfl, pj_wA rfl, pj_wA rfl, pj_wA rfl, pj_wA rfl, pj_wA rfl, pj_wA rfl, pj_wI rfl, hS]
  refine Prod.ext ?_ (Prod.ext ?_ rfl)
  · funext k; show (if k = 0 then nI (cN S) + 1 else S.1 k) = if k = 0 then S.1 0 + 1 else S.1 k; rw [h1.1.1]
  · funext p; by_cases hp : 138 ≤ p ∧ p ≤ 148
    · obtain ⟨ha, hb⟩ := hp; rcases (show p = 138 ∨ p = 139 ∨ p = 140 ∨ p = 141 ∨ p = 142 ∨ p = 143 ∨ p = 144 ∨ p = 145 ∨ p = 146 ∨ p = 147 ∨ p = 148 by omega) with rfl | rfl | rfl | rfl | rfl | rfl | rfl | rfl | rfl | rfl | rfl <;> rfl
    · rw [nA_o _ hp]; simp only [ss]; rw [if_neg (by omega), if_neg (by omega), if_neg (by omega), if_neg (by omega), if_neg (by omega), if_neg (by omega), if_neg (by omega), if_neg (by omega), if_neg (by omega), if_neg (by omega), if_neg (by omega)]
/-- one file more -/
def aF (S : qS) (h : Int64) : qS := sM (sI S 1 (S.1 1 + 1)) (vp_updL S.2.2 (cF S) h)
def ffN (S : qS) (x : Int64) : Int32 := if fd S x = -1 ∧ ¬ cF S = 100 then nI (cF S) else fd S x
def ffS (S : qS) (x : Int64) : qS := if fd S x = -1 ∧ ¬ cF S = 100 then aF S x else S
theorem ff_no {S : qS} {x : Int64} (h : ¬ fd S x = -1 ∨ cF S = 100) : ffN S x = fd S x ∧ ffS S x = S := by
  have : ¬ (fd S x = -1 ∧ ¬ cF S = 100) := fun q => h.elim (fun h => h q.1) (fun h => q.2 h)
  exact ⟨if_neg this, if_neg this⟩
theorem ff_yes {S : qS} {x : Int64} (h : fd S x = -1) (h2 : ¬ cF S = 100) : ffN S x = nI (cF S) ∧ ffS S x = aF S x := ⟨if_pos ⟨h, h2⟩, if_pos ⟨h, h2⟩⟩
theorem cF100 {S : qS} (h1 : W1 S) : (nI (cF S) = 100) = (cF S = 100) := propext (nI_eq (b := 100) (by have := h1.2.2.1; omega) (by omega))
theorem cN400 {S : qS} (h1 : W1 S) : (nI (cN S) = 400) = (cN S = 400) := propext (nI_eq (b := 400) (by have := h1.2.1; omega) (by omega))
theorem cFcl {S : qS} (h1 : W1 S) : (nI (cF S)).toNatClampNeg = cF S := nI_clamp (by have := h1.2.2.1; omega)
theorem cNcl {S : qS} (h1 : W1 S) : (nI (cN S)).toNatClampNeg = cN S := nI_clamp (by have := h1.2.1; omega)
set_option maxRecDepth 100000 in
set_option maxHeartbeats 4000000 in
theorem zX11_fileFor {C M : qC} {r : Nat × Nat × Nat} {S : qS} {x : Int64} (hS : pj M = S) (h1 : W1 S) : CT mX11_fileFor 1 0 0 [.ref 136, .long x] (wd C M r) (fun r' w' => ∃ M', w' = wd C M' r ∧ r' = some (.int (ffN S x)) ∧ pj M' = ffS S x) := by
  have hF := h1.2.2.1
  refine eX11_fileFor (AW_gen (fun Q hQ => ?_))
  refine oX11_fileFor_0 _ _ _ _ _ _ ?_
  simp only [bX11_fileFor_0, qsem, qopt_s, qopt2_s, qev, qxs, Nat.reduceEqDiff, reduceIte, and_true, true_and, and_false, false_and, and_self, or_true, true_or, qb_or, reduceCtorEq, qbr_True, qbr_False, q10, q01, qwM, pjx hS, h1.1.2.1, cF100 h1, cFcl h1]
  refine kX11_fileFor_2 (zX11_find hS h1) rfl (Nat.le_of_ble_eq_true rfl) (Nat.le_of_ble_eq_true rfl) ⟨Nat.le_of_ble_eq_true rfl, Nat.le_of_ble_eq_true rfl⟩ ?_
  rintro _ _ ⟨rfl, rfl⟩
  refine oX11_fileFor_5 _ _ _ _ _ _ ?_
  simp only [bX11_fileFor_5, qsem, qopt_s, qopt2_s, qev, qxs, Nat.reduceEqDiff, reduceIte, and_true, true_and, and_false, false_and, and_self, or_true, true_or, qb_or, reduceCtorEq, qbr_True, qbr_False, q10, q01, qwM, pjx hS, h1.1.2.1, cF100 h1, cFcl h1]
  refine qbr_i (fun c1 => ?_) (fun c1 => ?_)
  · refine qbr_i (fun c2 => ?_) (fun c2 => ?_)
    · refine oX11_fileFor_20 _ _ _ _ _ _ ?_
      simp only [bX11_fileFor_20, qsem, qopt_s, qopt2_s, qev, qxs, Nat.reduceEqDiff, reduceIte, and_true, true_and, and_false, false_and, and_self, or_true, true_or, qb_or, reduceCtorEq, qbr_True, qbr_False, q10, q01, qwM, pjx hS, h1.1.2.1, cF100 h1, cFcl h1]
      (first | (refine hQ _ _ ⟨M, rfl, ri (ff_no (Or.inl c1)).1.symm, hS.trans (ff_no (Or.inl c1)).2.symm⟩; done) | (refine hQ _ _ ⟨M, rfl, ri (ff_no (Or.inr c2)).1.symm, hS.trans (ff_no (Or.inr c2)).2.symm⟩; done) | (exact hQ _ _ ⟨_, rfl, ri (by rw [(ff_yes c1 c2).1, nI_1]; exact pk_sub (b := 1) (by omega)), by rw [(ff_yes c1 c2).2, pj_wI rfl, pj_wM, hS]; unfold aF; rw [h1.1.2.1]; rfl⟩))
    · refine oX11_fileFor_22 _ _ _ _ _ _ ?_
      simp only [bX11_fileFor_22, qsem, qopt_s, qopt2_s, qev, qxs, Nat.reduceEqDiff, reduceIte, and_true, true_and, and_false, false_and, and_self, or_true, true_or, qb_or, reduceCtorEq, qbr_True, qbr_False, q10, q01, qwM, pjx hS, h1.1.2.1, cF100 h1, cFcl h1]
      refine ⟨nI_vp (by omega) (by omega), ?_⟩
      (first | (refine hQ _ _ ⟨M, rfl, ri (ff_no (Or.inl c1)).1.symm, hS.trans (ff_no (Or.inl c1)).2.symm⟩; done) | (refine hQ _ _ ⟨M, rfl, ri (ff_no (Or.inr c2)).1.symm, hS.trans (ff_no (Or.inr c2)).2.symm⟩; done) | (exact hQ _ _ ⟨_, rfl, ri (by rw [(ff_yes c1 c2).1, nI_1]; exact pk_sub (b := 1) (by omega)), by rw [(ff_yes c1 c2).2, pj_wI rfl, pj_wM, hS]; unfold aF; rw [h1.1.2.1]; rfl⟩))
  · refine oX11_fileFor_20 _ _ _ _ _ _ ?_
    simp only [bX11_fileFor_20, qsem, qopt_s, qopt2_s, qev, qxs, Nat.reduceEqDiff, reduceIte, and_true, true_and, and_false, false_and, and_self, or_true, true_or, qb_or, reduceCtorEq, qbr_True, qbr_False, q10, q01, qwM, pjx hS, h1.1.2.1, cF100 h1, cFcl h1]
    (first | (refine hQ _ _ ⟨M, rfl, ri (ff_no (Or.inl c1)).1.symm, hS.trans (ff_no (Or.inl c1)).2.symm⟩; done) | (refine hQ _ _ ⟨M, rfl, ri (ff_no (Or.inr c2)).1.symm, hS.trans (ff_no (Or.inr c2)).2.symm⟩; done) | (exact hQ _ _ ⟨_, rfl, ri (by rw [(ff_yes c1 c2).1, nI_1]; exact pk_sub (b := 1) (by omega)), by rw [(ff_yes c1 c2).2, pj_wI rfl, pj_wM, hS]; unfold aF; rw [h1.1.2.1]; rfl⟩))


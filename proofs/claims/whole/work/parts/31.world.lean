abbrev qC : Type := (Nat → Nat → Int32) × (Nat → Nat → Int64) × (Nat → Nat → Int32) × (Nat → Nat → Int64)
def xI (X : qC) : Nat → Nat → Int32 := X.1
def xL (X : qC) : Nat → Nat → Int64 := X.2.1
def xA (X : qC) : Nat → Nat → Int32 := X.2.2.1
def xM (X : qC) : Nat → Nat → Int64 := X.2.2.2
def yI (X : qC) (p k : Nat) (v : Int32) : qC := (fun q j => if q = p ∧ j = k then v else X.1 q j, X.2.1, X.2.2.1, X.2.2.2)
def yL (X : qC) (p k : Nat) (v : Int64) : qC := (X.1, fun q j => if q = p ∧ j = k then v else X.2.1 q j, X.2.2.1, X.2.2.2)
def yA (X : qC) (p : Nat) (f : Nat → Int32) : qC := (X.1, X.2.1, fun q => if q = p then f else X.2.2.1 q, X.2.2.2)
def yM (X : qC) (p : Nat) (f : Nat → Int64) : qC := (X.1, X.2.1, X.2.2.1, fun q => if q = p then f else X.2.2.2 q)
theorem qxs : (∀ X p k v q j, xI (yI X p k v) q j = if q = p ∧ j = k then v else xI X q j) ∧ (∀ X p k v, xI (yL X p k v) = xI X) ∧ (∀ X p f, xI (yA X p f) = xI X) ∧ (∀ X p f, xI (yM X p f) = xI X) ∧
    (∀ X p k v q j, xL (yL X p k v) q j = if q = p ∧ j = k then v else xL X q j) ∧ (∀ X p k v, xL (yI X p k v) = xL X) ∧ (∀ X p f, xL (yA X p f) = xL X) ∧ (∀ X p f, xL (yM X p f) = xL X) ∧
    (∀ X p f q, xA (yA X p f) q = if q = p then f else xA X q) ∧ (∀ X p k v, xA (yI X p k v) = xA X) ∧ (∀ X p k v, xA (yL X p k v) = xA X) ∧ (∀ X p f, xA (yM X p f) = xA X) ∧
    (∀ X p f q, xM (yM X p f) q = if q = p then f else xM X q) ∧ (∀ X p k v, xM (yI X p k v) = xM X) ∧ (∀ X p k v, xM (yL X p k v) = xM X) ∧ (∀ X p f, xM (yA X p f) = xM X) := by
  refine ⟨?_, ?_, ?_, ?_, ?_, ?_, ?_, ?_, ?_, ?_, ?_, ?_, ?_, ?_, ?_, ?_⟩ <;> intros <;> rfl
abbrev qSh : Type := (Nat × Nat) ⊕ ((Nat × List (Nat × Nat)) ⊕ (Nat × (Nat → Option Nat)))
def qslots (X : qC) (p : Nat) : Nat → List (Nat × Nat) → List Value
  | _, [] => []
  | k, (a, b) :: t => (match a with | 0 => .int (xI X p k) | 1 => .long (xL X p k) | 2 => .ref b | _ => .int (nI b)) :: qslots X p (k + 1) t
def qcell (s : qSh) (X : qC) (p : Nat) : va_E := match s with
  | .inl (t, n) => if t = 2 then .inl (2, n, .inr (.inl (xM X p))) else .inl (t, n, .inl (xA X p))
  | .inr (.inl (ci, sl)) => .inr (ci, qslots X p 0 sl)
  | .inr (.inr (n, f)) => .inl (3, n, .inr (.inr (.inr (.inr f))))
def qtA (r : Nat × Nat × Nat) : List qSh := [.inr (.inl (10, [(2, 1), (2, 3), (2, 5), (2, 113), (2, 117), (2, 121), (2, 124), (2, 126), (2, 131), (2, r.1), (0, 0)])), .inr (.inl (8, [(3, 400), (3, 8), (2, 2), (0, 0)])), .inl (0, 3200), .inr (.inl (8, [(3, 400), (3, 6), (2, 4), (0, 0)])), .inl (0, 2400), .inr (.inl (7, [(2, 6), (2, 7), (2, 8), (2, 9), (2, 10), (2, 11), (2, 12), (0, 0)])), .inl (2, 100), .inr (.inr (100, fun i => some (13 + i))), .inl (0, 100), .inl (0, 100), .inl (0, 100), .inl (0, 100), .inr (.inl (0, [(1, 0), (1, 0)]))]
def qtB : List qSh := [.inr (.inl (3, [(2, 114), (2, 115), (2, 116), (0, 0)])), .inl (0, 100), .inl (0, 100), .inr (.inl (0, [(1, 0), (1, 0)])), .inr (.inl (5, [(2, 118), (2, 119), (2, 120), (0, 0)])), .inl (0, 6), .inl (0, 12), .inr (.inl (0, [(1, 0), (1, 0)])), .inr (.inl (9, [(2, 122), (0, 0), (2, 123), (0, 0), (0, 0), (0, 0), (0, 0), (0, 0)])), .inl (0, 100), .inl (0, 100), .inr (.inl (4, [(2, 125), (0, 0)])), .inl (0, 100), .inr (.inl (2, [(2, 127), (2, 128), (2, 129), (2, 130)])), .inl (0, 4), .inl (1, 4), .inl (0, 4), .inl (0, 4), .inr (.inl (1, [(0, 0), (0, 0), (0, 0)]))]
def qtM : List qSh := [.inr (.inl (11, [(0, 0), (0, 0), (0, 0), (0, 0), (0, 0), (0, 0), (2, 137), (2, 138), (2, 139), (2, 140), (2, 141), (2, 142), (2, 143), (2, 144), (2, 145), (2, 146), (2, 147), (2, 148), (2, 149), (2, 150), (2, 151), (2, 152), (2, 153), (2, 154), (2, 155), (2, 156), (2, 157), (2, 158), (2, 159), (2, 160), (2, 161), (2, 162), (0, 0), (0, 0), (0, 0), (0, 0), (0, 0), (2, 163), (2, 164)])), .inl (2, 100), .inl (0, 400), .inl (0, 400), .inl (0, 400), .inl (0, 400), .inl (0, 400), .inl (0, 400), .inl (0, 400), .inl (0, 400), .inl (0, 400), .inl (0, 400), .inl (0, 400), .inl (0, 400), .inl (0, 100), .inl (0, 4), .inl (1, 4), .inl (0, 4), .inl (0, 50), .inl (0, 50), .inl (0, 50), .inl (1, 100), .inl (0, 100), .inl (1, 100), .inl (0, 100), .inl (0, 4400), .inl (0, 220), .inl (1, 220), .inl (1, 400)]
/-- the shape of the world: r is the place of the rule in force, the world's size, the number of its steps -/
def shp (r : Nat × Nat × Nat) (p : Nat) : Option qSh :=
  if p < 13 then (qtA r)[p]? else if p < 113 then some (.inr (.inl (0, [(1, 0), (1, 0)]))) else if p < 132 then qtB[p - 113]? else if 136 ≤ p ∧ p < 165 then qtM[p - 136]?
  else if p = r.1 then some (.inr (.inl (6, [(2, r.1 + 1), (2, r.1 + 2), (2, r.1 + 3)]))) else if p = r.1 + 1 then some (.inl (0, r.2.2)) else if p = r.1 + 2 then some (.inl (0, 9)) else if p = r.1 + 3 then some (.inl (0, 9)) else none
def wd (C M : qC) (r : Nat × Nat × Nat) : qW := (r.2.1, fun p => (shp r p).map (fun s => qcell s (if 136 ≤ p ∧ p < 165 then M else C) p))
def wR (r : Nat × Nat × Nat) : Prop := r.1 = 132 ∨ 165 ≤ r.1
theorem wd_at {C M : qC} {r : Nat × Nat × Nat} {p : Nat} {s : qSh} (h : shp r p = some s) : (wd C M r).2 p = some (qcell s (if 136 ≤ p ∧ p < 165 then M else C) p) := by
  show (shp r p).map _ = _
  rw [h]; rfl
theorem wd_cong {C M C' M' : qC} {r : Nat × Nat × Nat} {p : Nat} (h1 : xI (if 136 ≤ p ∧ p < 165 then M else C) p = xI (if 136 ≤ p ∧ p < 165 then M' else C') p) (h2 : xL (if 136 ≤ p ∧ p < 165 then M else C) p = xL (if 136 ≤ p ∧ p < 165 then M' else C') p) (h3 : xA (if 136 ≤ p ∧ p < 165 then M else C) p = xA (if 136 ≤ p ∧ p < 165 then M' else C') p) (h4 : xM (if 136 ≤ p ∧ p < 165 then M else C) p = xM (if 136 ≤ p ∧ p < 165 then M' else C') p) : (wd C M r).2 p = (wd C' M' r).2 p := by
  have hs : ∀ (X X' : qC), xI X p = xI X' p → xL X p = xL X' p → ∀ (sl : List (Nat × Nat)) (k : Nat), qslots X p k sl = qslots X' p k sl := by
    intro X X' e1 e2 sl
    induction sl with
    | nil => intro k; rfl
    | cons a t ih =>
      intro k
      obtain ⟨a, b⟩ := a
      simp only [qslots, ih, e1, e2]
  show (shp r p).map _ = (shp r p).map _
  congr 1
  funext s
  rcases s with ⟨t, n⟩ | ⟨ci, sl⟩ | ⟨n, f⟩
  · simp only [qcell, h3, h4]
  · simp only [qcell]
    rw [hs _ _ h1 h2]
  · rfl
theorem sI_C {C M : qC} {r : Nat × Nat × Nat} {p t n : Nat} {f : Nat → Int32} (hs : shp r p = some (.inl (t, n))) (ht : t ≠ 2) (hp : ¬ (136 ≤ p ∧ p < 165)) : qsI (wd C M r) p f = wd (yA C p f) M r := by
  refine Prod.ext rfl (funext fun q => ?_)
  by_cases e : q = p
  · subst e
    have h1 := wd_at (C := C) (M := M) hs
    have h2 := wd_at (C := yA C q f) (M := M) hs
    rw [if_neg hp] at h1 h2
    simp only [qcell, if_neg ht, qxs, if_true] at h1 h2
    rw [h2]
    exact qsI_at h1
  · rw [qsI_ne e]
    refine wd_cong ?_ ?_ ?_ ?_ <;> by_cases hq : 136 ≤ q ∧ q < 165 <;> simp only [if_pos, if_neg, hq, qxs, e, if_false, not_false_eq_true, and_self, if_true]
theorem sI_M {C M : qC} {r : Nat × Nat × Nat} {p t n : Nat} {f : Nat → Int32} (hs : shp r p = some (.inl (t, n))) (ht : t ≠ 2) (hp : 136 ≤ p ∧ p < 165) : qsI (wd C M r) p f = wd C (yA M p f) r := by
  refine Prod.ext rfl (funext fun q => ?_)
  by_cases e : q = p
  · subst e
    have h1 := wd_at (C := C) (M := M) hs
    have h2 := wd_at (C := C) (M := yA M q f) hs
    rw [if_pos hp] at h1 h2
    simp only [qcell, if_neg ht, qxs, if_true] at h1 h2
    rw [h2]
    exact qsI_at h1
  · rw [qsI_ne e]
    refine wd_cong ?_ ?_ ?_ ?_ <;> by_cases hq : 136 ≤ q ∧ q < 165 <;> simp only [if_pos, if_neg, hq, qxs, e, if_false, not_false_eq_true, and_self, if_true]
theorem sL_C {C M : qC} {r : Nat × Nat × Nat} {p n : Nat} {f : Nat → Int64} (hs : shp r p = some (.inl (2, n))) (hp : ¬ (136 ≤ p ∧ p < 165)) : qsL (wd C M r) p f = wd (yM C p f) M r := by
  refine Prod.ext rfl (funext fun q => ?_)
  by_cases e : q = p
  · subst e
    have h1 := wd_at (C := C) (M := M) hs
    have h2 := wd_at (C := yM C q f) (M := M) hs
    rw [if_neg hp] at h1 h2
    simp only [qcell, if_true, qxs] at h1 h2
    rw [h2]
    exact qsL_at h1
  · rw [qsL_ne e]
    refine wd_cong ?_ ?_ ?_ ?_ <;> by_cases hq : 136 ≤ q ∧ q < 165 <;> simp only [if_pos, if_neg, hq, qxs, e, if_false, not_false_eq_true, and_self, if_true]
theorem sL_M {C M : qC} {r : Nat × Nat × Nat} {p n : Nat} {f : Nat → Int64} (hs : shp r p = some (.inl (2, n))) (hp : 136 ≤ p ∧ p < 165) : qsL (wd C M r) p f = wd C (yM M p f) r := by
  refine Prod.ext rfl (funext fun q => ?_)
  by_cases e : q = p
  · subst e
    have h1 := wd_at (C := C) (M := M) hs
    have h2 := wd_at (C := C) (M := yM M q f) hs
    rw [if_pos hp] at h1 h2
    simp only [qcell, if_true, qxs] at h1 h2
    rw [h2]
    exact qsL_at h1
  · rw [qsL_ne e]
    refine wd_cong ?_ ?_ ?_ ?_ <;> by_cases hq : 136 ≤ q ∧ q < 165 <;> simp only [if_pos, if_neg, hq, qxs, e, if_false, not_false_eq_true, and_self, if_true]
theorem qslots_len (X : qC) (p : Nat) : ∀ (sl : List (Nat × Nat)) (k : Nat), (qslots X p k sl).length = sl.length
  | [], _ => rfl
  | (a, b) :: t, k => by simp only [qslots, List.length_cons, qslots_len X p t (k + 1)]
theorem qslots_at (X : qC) (p : Nat) : ∀ (sl : List (Nat × Nat)) (k j : Nat), (qslots X p k sl)[j]? = sl[j]?.map (fun a => match a.1 with | 0 => .int (xI X p (k + j)) | 1 => .long (xL X p (k + j)) | 2 => .ref a.2 | _ => .int (nI a.2))
  | [], _, _ => by simp [qslots]
  | (a, b) :: t, k, 0 => by simp [qslots]
  | (a, b) :: t, k, j + 1 => by
    simp only [qslots, List.getElem?_cons_succ, qslots_at X p t (k + 1) j]
    rw [show k + 1 + j = k + (j + 1) by omega]
theorem qslots_setI (X : qC) (p j0 : Nat) (v : Int32) (sl : List (Nat × Nat)) (b : Nat) (h : sl[j0]? = some (0, b)) : (qslots X p 0 sl).set j0 (.int v) = qslots (yI X p j0 v) p 0 sl := by
  apply List.ext_getElem?
  intro j
  rw [List.getElem?_set, qslots_at, qslots_at, qslots_len]
  have hl : j0 < sl.length := (List.getElem?_eq_some_iff.mp h).1
  by_cases e : j0 = j
  · subst e
    simp only [if_pos rfl, if_pos hl, h, Option.map_some, Nat.zero_add, qxs, and_self, if_true]
  · rw [if_neg e]
    cases sl[j]? with
    | none => rfl
    | some a => simp only [Option.map_some, Nat.zero_add, qxs, Ne.symm e, and_false, if_false]
theorem qslots_setL (X : qC) (p j0 : Nat) (v : Int64) (sl : List (Nat × Nat)) (b : Nat) (h : sl[j0]? = some (1, b)) : (qslots X p 0 sl).set j0 (.long v) = qslots (yL X p j0 v) p 0 sl := by
  apply List.ext_getElem?
  intro j
  rw [List.getElem?_set, qslots_at, qslots_at, qslots_len]
  have hl : j0 < sl.length := (List.getElem?_eq_some_iff.mp h).1
  by_cases e : j0 = j
  · subst e
    simp only [if_pos rfl, if_pos hl, h, Option.map_some, Nat.zero_add, qxs, and_self, if_true]
  · rw [if_neg e]
    cases sl[j]? with
    | none => rfl
    | some a => simp only [Option.map_some, Nat.zero_add, qxs, Ne.symm e, and_false, if_false]
theorem sF_C {C M : qC} {r : Nat × Nat × Nat} {p ci k b : Nat} {sl : List (Nat × Nat)} {v : Int32} (hs : shp r p = some (.inr (.inl (ci, sl)))) (hk : sl[k]? = some (0, b)) (hp : ¬ (136 ≤ p ∧ p < 165)) : qsF (wd C M r) p k (.int v) = wd (yI C p k v) M r := by
  refine Prod.ext rfl (funext fun q => ?_)
  by_cases e : q = p
  · subst e
    have h1 := wd_at (C := C) (M := M) hs
    have h2 := wd_at (C := yI C q k v) (M := M) hs
    rw [if_neg hp] at h1 h2
    simp only [qcell] at h1 h2
    rw [h2, ← qslots_setI _ _ _ _ _ _ hk]
    exact qsF_at h1
  · rw [qsF_ne e]
    refine wd_cong ?_ ?_ ?_ ?_ <;> by_cases hq : 136 ≤ q ∧ q < 165 <;> simp only [if_pos, if_neg, hq, not_false_eq_true, and_self, if_true, if_false] <;> first | rfl | (funext j; simp only [qxs, e, false_and, if_false])
theorem sF_M {C M : qC} {r : Nat × Nat × Nat} {p ci k b : Nat} {sl : List (Nat × Nat)} {v : Int32} (hs : shp r p = some (.inr (.inl (ci, sl)))) (hk : sl[k]? = some (0, b)) (hp : 136 ≤ p ∧ p < 165) : qsF (wd C M r) p k (.int v) = wd C (yI M p k v) r := by
  refine Prod.ext rfl (funext fun q => ?_)
  by_cases e : q = p
  · subst e
    have h1 := wd_at (C := C) (M := M) hs
    have h2 := wd_at (C := C) (M := yI M q k v) hs
    rw [if_pos hp] at h1 h2
    simp only [qcell] at h1 h2
    rw [h2, ← qslots_setI _ _ _ _ _ _ hk]
    exact qsF_at h1
  · rw [qsF_ne e]
    refine wd_cong ?_ ?_ ?_ ?_ <;> by_cases hq : 136 ≤ q ∧ q < 165 <;> simp only [if_pos, if_neg, hq, not_false_eq_true, and_self, if_true, if_false] <;> first | rfl | (funext j; simp only [qxs, e, false_and, if_false])
theorem sG_C {C M : qC} {r : Nat × Nat × Nat} {p ci k b : Nat} {sl : List (Nat × Nat)} {v : Int64} (hs : shp r p = some (.inr (.inl (ci, sl)))) (hk : sl[k]? = some (1, b)) (hp : ¬ (136 ≤ p ∧ p < 165)) : qsF (wd C M r) p k (.long v) = wd (yL C p k v) M r := by
  refine Prod.ext rfl (funext fun q => ?_)
  by_cases e : q = p
  · subst e
    have h1 := wd_at (C := C) (M := M) hs
    have h2 := wd_at (C := yL C q k v) (M := M) hs
    rw [if_neg hp] at h1 h2
    simp only [qcell] at h1 h2
    rw [h2, ← qslots_setL _ _ _ _ _ _ hk]
    exact qsF_at h1
  · rw [qsF_ne e]
    refine wd_cong ?_ ?_ ?_ ?_ <;> by_cases hq : 136 ≤ q ∧ q < 165 <;> simp only [if_pos, if_neg, hq, not_false_eq_true, and_self, if_true, if_false] <;> first | rfl | (funext j; simp only [qxs, e, false_and, if_false])
theorem gF_at {C M : qC} {r : Nat × Nat × Nat} {p ci k : Nat} {sl : List (Nat × Nat)} (hs : shp r p = some (.inr (.inl (ci, sl)))) : qgF (wd C M r) p ci k = sl[k]?.map (fun a => match a.1 with | 0 => .int (xI (if 136 ≤ p ∧ p < 165 then M else C) p k) | 1 => .long (xL (if 136 ≤ p ∧ p < 165 then M else C) p k) | 2 => .ref a.2 | _ => .int (nI a.2)) := by
  unfold qgF
  rw [wd_at hs]
  simp only [qcell, if_true]
  rw [qslots_at, Nat.zero_add]
theorem gI_at {C M : qC} {r : Nat × Nat × Nat} {p t n : Nat} (hs : shp r p = some (.inl (t, n))) (ht : t ≠ 2) : qgI (wd C M r) p t = some (n, xA (if 136 ≤ p ∧ p < 165 then M else C) p) := by
  unfold qgI
  rw [wd_at hs]
  simp only [qcell, if_neg ht, if_true]
theorem gL_at {C M : qC} {r : Nat × Nat × Nat} {p n : Nat} (hs : shp r p = some (.inl (2, n))) : qgL (wd C M r) p = some (n, xM (if 136 ≤ p ∧ p < 165 then M else C) p) := by
  unfold qgL
  rw [wd_at hs]
  simp only [qcell, if_true]
theorem gc_at {C M : qC} {r : Nat × Nat × Nat} {p ci : Nat} {sl : List (Nat × Nat)} (hs : shp r p = some (.inr (.inl (ci, sl)))) : qci (wd C M r) p = some ci := by
  unfold qci
  rw [wd_at hs]
  rfl
theorem qwC_0 : ∀ (C M : qC) (r : Nat × Nat × Nat), qci (wd C M r) 0 = some 10 := fun _ _ _ => gc_at rfl
theorem qwC_1 : ∀ (C M : qC) (r : Nat × Nat × Nat), qgF (wd C M r) 0 10 0 = some (.ref 1) := fun _ _ _ => (gF_at rfl).trans rfl
theorem qwC_2 : ∀ (C M : qC) (r : Nat × Nat × Nat), qgF (wd C M r) 0 10 1 = some (.ref 3) := fun _ _ _ => (gF_at rfl).trans rfl
theorem qwC_3 : ∀ (C M : qC) (r : Nat × Nat × Nat), qgF (wd C M r) 0 10 2 = some (.ref 5) := fun _ _ _ => (gF_at rfl).trans rfl
theorem qwC_4 : ∀ (C M : qC) (r : Nat × Nat × Nat), qgF (wd C M r) 0 10 3 = some (.ref 113) := fun _ _ _ => (gF_at rfl).trans rfl
theorem qwC_5 : ∀ (C M : qC) (r : Nat × Nat × Nat), qgF (wd C M r) 0 10 4 = some (.ref 117) := fun _ _ _ => (gF_at rfl).trans rfl
theorem qwC_6 : ∀ (C M : qC) (r : Nat × Nat × Nat), qgF (wd C M r) 0 10 5 = some (.ref 121) := fun _ _ _ => (gF_at rfl).trans rfl
theorem qwC_7 : ∀ (C M : qC) (r : Nat × Nat × Nat), qgF (wd C M r) 0 10 6 = some (.ref 124) := fun _ _ _ => (gF_at rfl).trans rfl
theorem qwC_8 : ∀ (C M : qC) (r : Nat × Nat × Nat), qgF (wd C M r) 0 10 7 = some (.ref 126) := fun _ _ _ => (gF_at rfl).trans rfl
theorem qwC_9 : ∀ (C M : qC) (r : Nat × Nat × Nat), qgF (wd C M r) 0 10 8 = some (.ref 131) := fun _ _ _ => (gF_at rfl).trans rfl
theorem qwC_10 : ∀ (C M : qC) (r : Nat × Nat × Nat), qgF (wd C M r) 0 10 9 = some (.ref (r.1)) := fun _ _ _ => (gF_at rfl).trans rfl
theorem qwC_11 : ∀ (C M : qC) (r : Nat × Nat × Nat), qgF (wd C M r) 0 10 10 = some (.int (xI C 0 10)) := fun _ _ _ => (gF_at rfl).trans rfl
theorem qwC_12 : ∀ (C M : qC) (r : Nat × Nat × Nat), qci (wd C M r) 1 = some 8 := fun _ _ _ => gc_at rfl
theorem qwC_13 : ∀ (C M : qC) (r : Nat × Nat × Nat), qgF (wd C M r) 1 8 0 = some (.int 400) := fun _ _ _ => (gF_at rfl).trans rfl
theorem qwC_14 : ∀ (C M : qC) (r : Nat × Nat × Nat), qgF (wd C M r) 1 8 1 = some (.int 8) := fun _ _ _ => (gF_at rfl).trans rfl
theorem qwC_15 : ∀ (C M : qC) (r : Nat × Nat × Nat), qgF (wd C M r) 1 8 2 = some (.ref 2) := fun _ _ _ => (gF_at rfl).trans rfl
theorem qwC_16 : ∀ (C M : qC) (r : Nat × Nat × Nat), qgF (wd C M r) 1 8 3 = some (.int (xI C 1 3)) := fun _ _ _ => (gF_at rfl).trans rfl
theorem qwC_17 : ∀ (C M : qC) (r : Nat × Nat × Nat), qgI (wd C M r) 2 0 = some (3200, xA C 2) := fun _ _ _ => gI_at rfl (by decide)
theorem qwC_18 : ∀ (C M : qC) (r : Nat × Nat × Nat), qci (wd C M r) 3 = some 8 := fun _ _ _ => gc_at rfl
theorem qwC_19 : ∀ (C M : qC) (r : Nat × Nat × Nat), qgF (wd C M r) 3 8 0 = some (.int 400) := fun _ _ _ => (gF_at rfl).trans rfl
theorem qwC_20 : ∀ (C M : qC) (r : Nat × Nat × Nat), qgF (wd C M r) 3 8 1 = some (.int 6) := fun _ _ _ => (gF_at rfl).trans rfl
theorem qwC_21 : ∀ (C M : qC) (r : Nat × Nat × Nat), qgF (wd C M r) 3 8 2 = some (.ref 4) := fun _ _ _ => (gF_at rfl).trans rfl
theorem qwC_22 : ∀ (C M : qC) (r : Nat × Nat × Nat), qgF (wd C M r) 3 8 3 = some (.int (xI C 3 3)) := fun _ _ _ => (gF_at rfl).trans rfl
theorem qwC_23 : ∀ (C M : qC) (r : Nat × Nat × Nat), qgI (wd C M r) 4 0 = some (2400, xA C 4) := fun _ _ _ => gI_at rfl (by decide)
theorem qwC_24 : ∀ (C M : qC) (r : Nat × Nat × Nat), qci (wd C M r) 5 = some 7 := fun _ _ _ => gc_at rfl
theorem qwC_25 : ∀ (C M : qC) (r : Nat × Nat × Nat), qgF (wd C M r) 5 7 0 = some (.ref 6) := fun _ _ _ => (gF_at rfl).trans rfl
theorem qwC_26 : ∀ (C M : qC) (r : Nat × Nat × Nat), qgF (wd C M r) 5 7 1 = some (.ref 7) := fun _ _ _ => (gF_at rfl).trans rfl
theorem qwC_27 : ∀ (C M : qC) (r : Nat × Nat × Nat), qgF (wd C M r) 5 7 2 = some (.ref 8) := fun _ _ _ => (gF_at rfl).trans rfl
theorem qwC_28 : ∀ (C M : qC) (r : Nat × Nat × Nat), qgF (wd C M r) 5 7 3 = some (.ref 9) := fun _ _ _ => (gF_at rfl).trans rfl
theorem qwC_29 : ∀ (C M : qC) (r : Nat × Nat × Nat), qgF (wd C M r) 5 7 4 = some (.ref 10) := fun _ _ _ => (gF_at rfl).trans rfl
theorem qwC_30 : ∀ (C M : qC) (r : Nat × Nat × Nat), qgF (wd C M r) 5 7 5 = some (.ref 11) := fun _ _ _ => (gF_at rfl).trans rfl
theorem qwC_31 : ∀ (C M : qC) (r : Nat × Nat × Nat), qgF (wd C M r) 5 7 6 = some (.ref 12) := fun _ _ _ => (gF_at rfl).trans rfl
theorem qwC_32 : ∀ (C M : qC) (r : Nat × Nat × Nat), qgF (wd C M r) 5 7 7 = some (.int (xI C 5 7)) := fun _ _ _ => (gF_at rfl).trans rfl
theorem qwC_33 : ∀ (C M : qC) (r : Nat × Nat × Nat), qgL (wd C M r) 6 = some (100, xM C 6) := fun _ _ _ => gL_at rfl
theorem qwC_34 : ∀ (C M : qC) (r : Nat × Nat × Nat), qgR (wd C M r) 7 = some (100, fun i => some (13 + i)) := fun _ _ _ => rfl
theorem qwC_35 : ∀ (C M : qC) (r : Nat × Nat × Nat), qgI (wd C M r) 8 0 = some (100, xA C 8) := fun _ _ _ => gI_at rfl (by decide)
theorem qwC_36 : ∀ (C M : qC) (r : Nat × Nat × Nat), qgI (wd C M r) 9 0 = some (100, xA C 9) := fun _ _ _ => gI_at rfl (by decide)
theorem qwC_37 : ∀ (C M : qC) (r : Nat × Nat × Nat), qgI (wd C M r) 10 0 = some (100, xA C 10) := fun _ _ _ => gI_at rfl (by decide)
theorem qwC_38 : ∀ (C M : qC) (r : Nat × Nat × Nat), qgI (wd C M r) 11 0 = some (100, xA C 11) := fun _ _ _ => gI_at rfl (by decide)
theorem qwC_39 : ∀ (C M : qC) (r : Nat × Nat × Nat), qci (wd C M r) 12 = some 0 := fun _ _ _ => gc_at rfl
theorem qwC_40 : ∀ (C M : qC) (r : Nat × Nat × Nat), qgF (wd C M r) 12 0 0 = some (.long (xL C 12 0)) := fun _ _ _ => (gF_at rfl).trans rfl
theorem qwC_41 : ∀ (C M : qC) (r : Nat × Nat × Nat), qgF (wd C M r) 12 0 1 = some (.long (xL C 12 1)) := fun _ _ _ => (gF_at rfl).trans rfl
theorem qwC_42 : ∀ (C M : qC) (r : Nat × Nat × Nat), qci (wd C M r) 113 = some 3 := fun _ _ _ => gc_at rfl
theorem qwC_43 : ∀ (C M : qC) (r : Nat × Nat × Nat), qgF (wd C M r) 113 3 0 = some (.ref 114) := fun _ _ _ => (gF_at rfl).trans rfl
theorem qwC_44 : ∀ (C M : qC) (r : Nat × Nat × Nat), qgF (wd C M r) 113 3 1 = some (.ref 115) := fun _ _ _ => (gF_at rfl).trans rfl
theorem qwC_45 : ∀ (C M : qC) (r : Nat × Nat × Nat), qgF (wd C M r) 113 3 2 = some (.ref 116) := fun _ _ _ => (gF_at rfl).trans rfl
theorem qwC_46 : ∀ (C M : qC) (r : Nat × Nat × Nat), qgF (wd C M r) 113 3 3 = some (.int (xI C 113 3)) := fun _ _ _ => (gF_at rfl).trans rfl
theorem qwC_47 : ∀ (C M : qC) (r : Nat × Nat × Nat), qgI (wd C M r) 114 0 = some (100, xA C 114) := fun _ _ _ => gI_at rfl (by decide)
theorem qwC_48 : ∀ (C M : qC) (r : Nat × Nat × Nat), qgI (wd C M r) 115 0 = some (100, xA C 115) := fun _ _ _ => gI_at rfl (by decide)
theorem qwC_49 : ∀ (C M : qC) (r : Nat × Nat × Nat), qci (wd C M r) 116 = some 0 := fun _ _ _ => gc_at rfl
theorem qwC_50 : ∀ (C M : qC) (r : Nat × Nat × Nat), qgF (wd C M r) 116 0 0 = some (.long (xL C 116 0)) := fun _ _ _ => (gF_at rfl).trans rfl
theorem qwC_51 : ∀ (C M : qC) (r : Nat × Nat × Nat), qgF (wd C M r) 116 0 1 = some (.long (xL C 116 1)) := fun _ _ _ => (gF_at rfl).trans rfl
theorem qwC_52 : ∀ (C M : qC) (r : Nat × Nat × Nat), qci (wd C M r) 117 = some 5 := fun _ _ _ => gc_at rfl
theorem qwC_53 : ∀ (C M : qC) (r : Nat × Nat × Nat), qgF (wd C M r) 117 5 0 = some (.ref 118) := fun _ _ _ => (gF_at rfl).trans rfl
theorem qwC_54 : ∀ (C M : qC) (r : Nat × Nat × Nat), qgF (wd C M r) 117 5 1 = some (.ref 119) := fun _ _ _ => (gF_at rfl).trans rfl
theorem qwC_55 : ∀ (C M : qC) (r : Nat × Nat × Nat), qgF (wd C M r) 117 5 2 = some (.ref 120) := fun _ _ _ => (gF_at rfl).trans rfl
theorem qwC_56 : ∀ (C M : qC) (r : Nat × Nat × Nat), qgF (wd C M r) 117 5 3 = some (.int (xI C 117 3)) := fun _ _ _ => (gF_at rfl).trans rfl
theorem qwC_57 : ∀ (C M : qC) (r : Nat × Nat × Nat), qgI (wd C M r) 118 0 = some (6, xA C 118) := fun _ _ _ => gI_at rfl (by decide)
theorem qwC_58 : ∀ (C M : qC) (r : Nat × Nat × Nat), qgI (wd C M r) 119 0 = some (12, xA C 119) := fun _ _ _ => gI_at rfl (by decide)
theorem qwC_59 : ∀ (C M : qC) (r : Nat × Nat × Nat), qci (wd C M r) 120 = some 0 := fun _ _ _ => gc_at rfl
theorem qwC_60 : ∀ (C M : qC) (r : Nat × Nat × Nat), qgF (wd C M r) 120 0 0 = some (.long (xL C 120 0)) := fun _ _ _ => (gF_at rfl).trans rfl
theorem qwC_61 : ∀ (C M : qC) (r : Nat × Nat × Nat), qgF (wd C M r) 120 0 1 = some (.long (xL C 120 1)) := fun _ _ _ => (gF_at rfl).trans rfl
theorem qwC_62 : ∀ (C M : qC) (r : Nat × Nat × Nat), qci (wd C M r) 121 = some 9 := fun _ _ _ => gc_at rfl
theorem qwC_63 : ∀ (C M : qC) (r : Nat × Nat × Nat), qgF (wd C M r) 121 9 0 = some (.ref 122) := fun _ _ _ => (gF_at rfl).trans rfl
theorem qwC_64 : ∀ (C M : qC) (r : Nat × Nat × Nat), qgF (wd C M r) 121 9 1 = some (.int (xI C 121 1)) := fun _ _ _ => (gF_at rfl).trans rfl
theorem qwC_65 : ∀ (C M : qC) (r : Nat × Nat × Nat), qgF (wd C M r) 121 9 2 = some (.ref 123) := fun _ _ _ => (gF_at rfl).trans rfl
theorem qwC_66 : ∀ (C M : qC) (r : Nat × Nat × Nat), qgF (wd C M r) 121 9 3 = some (.int (xI C 121 3)) := fun _ _ _ => (gF_at rfl).trans rfl
theorem qwC_67 : ∀ (C M : qC) (r : Nat × Nat × Nat), qgF (wd C M r) 121 9 4 = some (.int (xI C 121 4)) := fun _ _ _ => (gF_at rfl).trans rfl
theorem qwC_68 : ∀ (C M : qC) (r : Nat × Nat × Nat), qgF (wd C M r) 121 9 5 = some (.int (xI C 121 5)) := fun _ _ _ => (gF_at rfl).trans rfl
theorem qwC_69 : ∀ (C M : qC) (r : Nat × Nat × Nat), qgF (wd C M r) 121 9 6 = some (.int (xI C 121 6)) := fun _ _ _ => (gF_at rfl).trans rfl
theorem qwC_70 : ∀ (C M : qC) (r : Nat × Nat × Nat), qgF (wd C M r) 121 9 7 = some (.int (xI C 121 7)) := fun _ _ _ => (gF_at rfl).trans rfl
theorem qwC_71 : ∀ (C M : qC) (r : Nat × Nat × Nat), qgI (wd C M r) 122 0 = some (100, xA C 122) := fun _ _ _ => gI_at rfl (by decide)
theorem qwC_72 : ∀ (C M : qC) (r : Nat × Nat × Nat), qgI (wd C M r) 123 0 = some (100, xA C 123) := fun _ _ _ => gI_at rfl (by decide)
theorem qwC_73 : ∀ (C M : qC) (r : Nat × Nat × Nat), qci (wd C M r) 124 = some 4 := fun _ _ _ => gc_at rfl
theorem qwC_74 : ∀ (C M : qC) (r : Nat × Nat × Nat), qgF (wd C M r) 124 4 0 = some (.ref 125) := fun _ _ _ => (gF_at rfl).trans rfl
theorem qwC_75 : ∀ (C M : qC) (r : Nat × Nat × Nat), qgF (wd C M r) 124 4 1 = some (.int (xI C 124 1)) := fun _ _ _ => (gF_at rfl).trans rfl
theorem qwC_76 : ∀ (C M : qC) (r : Nat × Nat × Nat), qgI (wd C M r) 125 0 = some (100, xA C 125) := fun _ _ _ => gI_at rfl (by decide)
theorem qwC_77 : ∀ (C M : qC) (r : Nat × Nat × Nat), qci (wd C M r) 126 = some 2 := fun _ _ _ => gc_at rfl
theorem qwC_78 : ∀ (C M : qC) (r : Nat × Nat × Nat), qgF (wd C M r) 126 2 0 = some (.ref 127) := fun _ _ _ => (gF_at rfl).trans rfl
theorem qwC_79 : ∀ (C M : qC) (r : Nat × Nat × Nat), qgF (wd C M r) 126 2 1 = some (.ref 128) := fun _ _ _ => (gF_at rfl).trans rfl
theorem qwC_80 : ∀ (C M : qC) (r : Nat × Nat × Nat), qgF (wd C M r) 126 2 2 = some (.ref 129) := fun _ _ _ => (gF_at rfl).trans rfl
theorem qwC_81 : ∀ (C M : qC) (r : Nat × Nat × Nat), qgF (wd C M r) 126 2 3 = some (.ref 130) := fun _ _ _ => (gF_at rfl).trans rfl
theorem qwC_82 : ∀ (C M : qC) (r : Nat × Nat × Nat), qgI (wd C M r) 127 0 = some (4, xA C 127) := fun _ _ _ => gI_at rfl (by decide)
theorem qwC_83 : ∀ (C M : qC) (r : Nat × Nat × Nat), qgI (wd C M r) 128 1 = some (4, xA C 128) := fun _ _ _ => gI_at rfl (by decide)
theorem qwC_84 : ∀ (C M : qC) (r : Nat × Nat × Nat), qgI (wd C M r) 129 0 = some (4, xA C 129) := fun _ _ _ => gI_at rfl (by decide)
theorem qwC_85 : ∀ (C M : qC) (r : Nat × Nat × Nat), qgI (wd C M r) 130 0 = some (4, xA C 130) := fun _ _ _ => gI_at rfl (by decide)
theorem qwC_86 : ∀ (C M : qC) (r : Nat × Nat × Nat), qci (wd C M r) 131 = some 1 := fun _ _ _ => gc_at rfl
theorem qwC_87 : ∀ (C M : qC) (r : Nat × Nat × Nat), qgF (wd C M r) 131 1 0 = some (.int (xI C 131 0)) := fun _ _ _ => (gF_at rfl).trans rfl
theorem qwC_88 : ∀ (C M : qC) (r : Nat × Nat × Nat), qgF (wd C M r) 131 1 1 = some (.int (xI C 131 1)) := fun _ _ _ => (gF_at rfl).trans rfl
theorem qwC_89 : ∀ (C M : qC) (r : Nat × Nat × Nat), qgF (wd C M r) 131 1 2 = some (.int (xI C 131 2)) := fun _ _ _ => (gF_at rfl).trans rfl
theorem qwC_90 : ∀ (C M : qC) (r : Nat × Nat × Nat) (v : Int32), qsF (wd C M r) 0 10 (.int v) = wd (yI C 0 10 v) M r := fun _ _ _ _ => sF_C rfl rfl (by decide)
theorem qwC_91 : ∀ (C M : qC) (r : Nat × Nat × Nat) (v : Int32), qsF (wd C M r) 1 3 (.int v) = wd (yI C 1 3 v) M r := fun _ _ _ _ => sF_C rfl rfl (by decide)
theorem qwC_92 : ∀ (C M : qC) (r : Nat × Nat × Nat) (f : Nat → Int32), qsI (wd C M r) 2 f = wd (yA C 2 f) M r := fun _ _ _ _ => sI_C rfl (by decide) (by decide)
theorem qwC_93 : ∀ (C M : qC) (r : Nat × Nat × Nat) (v : Int32), qsF (wd C M r) 3 3 (.int v) = wd (yI C 3 3 v) M r := fun _ _ _ _ => sF_C rfl rfl (by decide)
theorem qwC_94 : ∀ (C M : qC) (r : Nat × Nat × Nat) (f : Nat → Int32), qsI (wd C M r) 4 f = wd (yA C 4 f) M r := fun _ _ _ _ => sI_C rfl (by decide) (by decide)
theorem qwC_95 : ∀ (C M : qC) (r : Nat × Nat × Nat) (v : Int32), qsF (wd C M r) 5 7 (.int v) = wd (yI C 5 7 v) M r := fun _ _ _ _ => sF_C rfl rfl (by decide)
theorem qwC_96 : ∀ (C M : qC) (r : Nat × Nat × Nat) (f : Nat → Int64), qsL (wd C M r) 6 f = wd (yM C 6 f) M r := fun _ _ _ _ => sL_C rfl (by decide)
theorem qwC_97 : ∀ (C M : qC) (r : Nat × Nat × Nat) (f : Nat → Int32), qsI (wd C M r) 8 f = wd (yA C 8 f) M r := fun _ _ _ _ => sI_C rfl (by decide) (by decide)
theorem qwC_98 : ∀ (C M : qC) (r : Nat × Nat × Nat) (f : Nat → Int32), qsI (wd C M r) 9 f = wd (yA C 9 f) M r := fun _ _ _ _ => sI_C rfl (by decide) (by decide)
theorem qwC_99 : ∀ (C M : qC) (r : Nat × Nat × Nat) (f : Nat → Int32), qsI (wd C M r) 10 f = wd (yA C 10 f) M r := fun _ _ _ _ => sI_C rfl (by decide) (by decide)
theorem qwC_100 : ∀ (C M : qC) (r : Nat × Nat × Nat) (f : Nat → Int32), qsI (wd C M r) 11 f = wd (yA C 11 f) M r := fun _ _ _ _ => sI_C rfl (by decide) (by decide)
theorem qwC_101 : ∀ (C M : qC) (r : Nat × Nat × Nat) (v : Int64), qsF (wd C M r) 12 0 (.long v) = wd (yL C 12 0 v) M r := fun _ _ _ _ => sG_C rfl rfl (by decide)
theorem qwC_102 : ∀ (C M : qC) (r : Nat × Nat × Nat) (v : Int64), qsF (wd C M r) 12 1 (.long v) = wd (yL C 12 1 v) M r := fun _ _ _ _ => sG_C rfl rfl (by decide)
theorem qwC_103 : ∀ (C M : qC) (r : Nat × Nat × Nat) (v : Int32), qsF (wd C M r) 113 3 (.int v) = wd (yI C 113 3 v) M r := fun _ _ _ _ => sF_C rfl rfl (by decide)
theorem qwC_104 : ∀ (C M : qC) (r : Nat × Nat × Nat) (f : Nat → Int32), qsI (wd C M r) 114 f = wd (yA C 114 f) M r := fun _ _ _ _ => sI_C rfl (by decide) (by decide)
theorem qwC_105 : ∀ (C M : qC) (r : Nat × Nat × Nat) (f : Nat → Int32), qsI (wd C M r) 115 f = wd (yA C 115 f) M r := fun _ _ _ _ => sI_C rfl (by decide) (by decide)
theorem qwC_106 : ∀ (C M : qC) (r : Nat × Nat × Nat) (v : Int64), qsF (wd C M r) 116 0 (.long v) = wd (yL C 116 0 v) M r := fun _ _ _ _ => sG_C rfl rfl (by decide)
theorem qwC_107 : ∀ (C M : qC) (r : Nat × Nat × Nat) (v : Int64), qsF (wd C M r) 116 1 (.long v) = wd (yL C 116 1 v) M r := fun _ _ _ _ => sG_C rfl rfl (by decide)
theorem qwC_108 : ∀ (C M : qC) (r : Nat × Nat × Nat) (v : Int32), qsF (wd C M r) 117 3 (.int v) = wd (yI C 117 3 v) M r := fun _ _ _ _ => sF_C rfl rfl (by decide)
theorem qwC_109 : ∀ (C M : qC) (r : Nat × Nat × Nat) (f : Nat → Int32), qsI (wd C M r) 118 f = wd (yA C 118 f) M r := fun _ _ _ _ => sI_C rfl (by decide) (by decide)
theorem qwC_110 : ∀ (C M : qC) (r : Nat × Nat × Nat) (f : Nat → Int32), qsI (wd C M r) 119 f = wd (yA C 119 f) M r := fun _ _ _ _ => sI_C rfl (by decide) (by decide)
theorem qwC_111 : ∀ (C M : qC) (r : Nat × Nat × Nat) (v : Int64), qsF (wd C M r) 120 0 (.long v) = wd (yL C 120 0 v) M r := fun _ _ _ _ => sG_C rfl rfl (by decide)
theorem qwC_112 : ∀ (C M : qC) (r : Nat × Nat × Nat) (v : Int64), qsF (wd C M r) 120 1 (.long v) = wd (yL C 120 1 v) M r := fun _ _ _ _ => sG_C rfl rfl (by decide)
theorem qwC_113 : ∀ (C M : qC) (r : Nat × Nat × Nat) (v : Int32), qsF (wd C M r) 121 1 (.int v) = wd (yI C 121 1 v) M r := fun _ _ _ _ => sF_C rfl rfl (by decide)
theorem qwC_114 : ∀ (C M : qC) (r : Nat × Nat × Nat) (v : Int32), qsF (wd C M r) 121 3 (.int v) = wd (yI C 121 3 v) M r := fun _ _ _ _ => sF_C rfl rfl (by decide)
theorem qwC_115 : ∀ (C M : qC) (r : Nat × Nat × Nat) (v : Int32), qsF (wd C M r) 121 4 (.int v) = wd (yI C 121 4 v) M r := fun _ _ _ _ => sF_C rfl rfl (by decide)
theorem qwC_116 : ∀ (C M : qC) (r : Nat × Nat × Nat) (v : Int32), qsF (wd C M r) 121 5 (.int v) = wd (yI C 121 5 v) M r := fun _ _ _ _ => sF_C rfl rfl (by decide)
theorem qwC_117 : ∀ (C M : qC) (r : Nat × Nat × Nat) (v : Int32), qsF (wd C M r) 121 6 (.int v) = wd (yI C 121 6 v) M r := fun _ _ _ _ => sF_C rfl rfl (by decide)
theorem qwC_118 : ∀ (C M : qC) (r : Nat × Nat × Nat) (v : Int32), qsF (wd C M r) 121 7 (.int v) = wd (yI C 121 7 v) M r := fun _ _ _ _ => sF_C rfl rfl (by decide)
theorem qwC_119 : ∀ (C M : qC) (r : Nat × Nat × Nat) (f : Nat → Int32), qsI (wd C M r) 122 f = wd (yA C 122 f) M r := fun _ _ _ _ => sI_C rfl (by decide) (by decide)
theorem qwC_120 : ∀ (C M : qC) (r : Nat × Nat × Nat) (f : Nat → Int32), qsI (wd C M r) 123 f = wd (yA C 123 f) M r := fun _ _ _ _ => sI_C rfl (by decide) (by decide)
theorem qwC_121 : ∀ (C M : qC) (r : Nat × Nat × Nat) (v : Int32), qsF (wd C M r) 124 1 (.int v) = wd (yI C 124 1 v) M r := fun _ _ _ _ => sF_C rfl rfl (by decide)
theorem qwC_122 : ∀ (C M : qC) (r : Nat × Nat × Nat) (f : Nat → Int32), qsI (wd C M r) 125 f = wd (yA C 125 f) M r := fun _ _ _ _ => sI_C rfl (by decide) (by decide)
theorem qwC_123 : ∀ (C M : qC) (r : Nat × Nat × Nat) (f : Nat → Int32), qsI (wd C M r) 127 f = wd (yA C 127 f) M r := fun _ _ _ _ => sI_C rfl (by decide) (by decide)
theorem qwC_124 : ∀ (C M : qC) (r : Nat × Nat × Nat) (f : Nat → Int32), qsI (wd C M r) 128 f = wd (yA C 128 f) M r := fun _ _ _ _ => sI_C rfl (by decide) (by decide)
theorem qwC_125 : ∀ (C M : qC) (r : Nat × Nat × Nat) (f : Nat → Int32), qsI (wd C M r) 129 f = wd (yA C 129 f) M r := fun _ _ _ _ => sI_C rfl (by decide) (by decide)
theorem qwC_126 : ∀ (C M : qC) (r : Nat × Nat × Nat) (f : Nat → Int32), qsI (wd C M r) 130 f = wd (yA C 130 f) M r := fun _ _ _ _ => sI_C rfl (by decide) (by decide)
theorem qwC_127 : ∀ (C M : qC) (r : Nat × Nat × Nat) (v : Int32), qsF (wd C M r) 131 0 (.int v) = wd (yI C 131 0 v) M r := fun _ _ _ _ => sF_C rfl rfl (by decide)
theorem qwC_128 : ∀ (C M : qC) (r : Nat × Nat × Nat) (v : Int32), qsF (wd C M r) 131 1 (.int v) = wd (yI C 131 1 v) M r := fun _ _ _ _ => sF_C rfl rfl (by decide)
theorem qwC_129 : ∀ (C M : qC) (r : Nat × Nat × Nat) (v : Int32), qsF (wd C M r) 131 2 (.int v) = wd (yI C 131 2 v) M r := fun _ _ _ _ => sF_C rfl rfl (by decide)
theorem qwC : (∀ (C M : qC) (r : Nat × Nat × Nat), qci (wd C M r) 0 = some 10) ∧ (∀ (C M : qC) (r : Nat × Nat × Nat), qgF (wd C M r) 0 10 0 = some (.ref 1)) ∧ (∀ (C M : qC) (r : Nat × Nat × Nat), qgF (wd C M r) 0 10 1 = some (.ref 3)) ∧ (∀ (C M : qC) (r : Nat × Nat × Nat), qgF (wd C M r) 0 10 2 = some (.ref 5)) ∧ (∀ (C M : qC) (r : Nat × Nat × Nat), qgF (wd C M r) 0 10 3 = some (.ref 113)) ∧ (∀ (C M : qC) (r : Nat × Nat × Nat), qgF (wd C M r) 0 10 4 = some (.ref 117)) ∧ (∀ (C M : qC) (r : Nat × Nat × Nat), qgF (wd C M r) 0 10 5 = some (.ref 121)) ∧ (∀ (C M : qC) (r : Nat × Nat × Nat), qgF (wd C M r) 0 10 6 = some (.ref 124)) ∧ (∀ (C M : qC) (r : Nat × Nat × Nat), qgF (wd C M r) 0 10 7 = some (.ref 126)) ∧ (∀ (C M : qC) (r : Nat × Nat × Nat), qgF (wd C M r) 0 10 8 = some (.ref 131)) ∧ (∀ (C M : qC) (r : Nat × Nat × Nat), qgF (wd C M r) 0 10 9 = some (.ref (r.1))) ∧ (∀ (C M : qC) (r : Nat × Nat × Nat), qgF (wd C M r) 0 10 10 = some (.int (xI C 0 10))) ∧ (∀ (C M : qC) (r : Nat × Nat × Nat), qci (wd C M r) 1 = some 8) ∧ (∀ (C M : qC) (r : Nat × Nat × Nat), qgF (wd C M r) 1 8 0 = some (.int 400)) ∧ (∀ (C M : qC) (r : Nat × Nat × Nat), qgF (wd C M r) 1 8 1 = some (.int 8)) ∧ (∀ (C M : qC) (r : Nat × Nat × Nat), qgF (wd C M r) 1 8 2 = some (.ref 2)) ∧ (∀ (C M : qC) (r : Nat × Nat × Nat), qgF (wd C M r) 1 8 3 = some (.int (xI C 1 3))) ∧ (∀ (C M : qC) (r : Nat × Nat × Nat), qgI (wd C M r) 2 0 = some (3200, xA C 2)) ∧ (∀ (C M : qC) (r : Nat × Nat × Nat), qci (wd C M r) 3 = some 8) ∧ (∀ (C M : qC) (r : Nat × Nat × Nat), qgF (wd C M r) 3 8 0 = some (.int 400)) ∧ (∀ (C M : qC) (r : Nat × Nat × Nat), qgF (wd C M r) 3 8 1 = some (.int 6)) ∧ (∀ (C M : qC) (r : Nat × Nat × Nat), qgF (wd C M r) 3 8 2 = some (.ref 4)) ∧ (∀ (C M : qC) (r : Nat × Nat × Nat), qgF (wd C M r) 3 8 3 = some (.int (xI C 3 3))) ∧ (∀ (C M : qC) (r : Nat × Nat × Nat), qgI (wd C M r) 4 0 = some (2400, xA C 4)) ∧ (∀ (C M : qC) (r : Nat × Nat × Nat), qci (wd C M r) 5 = some 7) ∧ (∀ (C M : qC) (r : Nat × Nat × Nat), qgF (wd C M r) 5 7 0 = some (.ref 6)) ∧ (∀ (C M : qC) (r : Nat × Nat × Nat), qgF (wd C M r) 5 7 1 = some (.ref 7)) ∧ (∀ (C M : qC) (r : Nat × Nat × Nat), qgF (wd C M r) 5 7 2 = some (.ref 8)) ∧ (∀ (C M : qC) (r : Nat × Nat × Nat), qgF (wd C M r) 5 7 3 = some (.ref 9)) ∧ (∀ (C M : qC) (r : Nat × Nat × Nat), qgF (wd C M r) 5 7 4 = some (.ref 10)) ∧ (∀ (C M : qC) (r : Nat × Nat × Nat), qgF (wd C M r) 5 7 5 = some (.ref 11)) ∧ (∀ (C M : qC) (r : Nat × Nat × Nat), qgF (wd C M r) 5 7 6 = some (.ref 12)) ∧ (∀ (C M : qC) (r : Nat × Nat × Nat), qgF (wd C M r) 5 7 7 = some (.int (xI C 5 7))) ∧ (∀ (C M : qC) (r : Nat × Nat × Nat), qgL (wd C M r) 6 = some (100, xM C 6)) ∧ (∀ (C M : qC) (r : Nat × Nat × Nat), qgR (wd C M r) 7 = some (100, fun i => some (13 + i))) ∧ (∀ (C M : qC) (r : Nat × Nat × Nat), qgI (wd C M r) 8 0 = some (100, xA C 8)) ∧ (∀ (C M : qC) (r : Nat × Nat × Nat), qgI (wd C M r) 9 0 = some (100, xA C 9)) ∧ (∀ (C M : qC) (r : Nat × Nat × Nat), qgI (wd C M r) 10 0 = some (100, xA C 10)) ∧ (∀ (C M : qC) (r : Nat × Nat × Nat), qgI (wd C M r) 11 0 = some (100, xA C 11)) ∧ (∀ (C M : qC) (r : Nat × Nat × Nat), qci (wd C M r) 12 = some 0) ∧ (∀ (C M : qC) (r : Nat × Nat × Nat), qgF (wd C M r) 12 0 0 = some (.long (xL C 12 0))) ∧ (∀ (C M : qC) (r : Nat × Nat × Nat), qgF (wd C M r) 12 0 1 = some (.long (xL C 12 1))) ∧ (∀ (C M : qC) (r : Nat × Nat × Nat), qci (wd C M r) 113 = some 3) ∧ (∀ (C M : qC) (r : Nat × Nat × Nat), qgF (wd C M r) 113 3 0 = some (.ref 114)) ∧ (∀ (C M : qC) (r : Nat × Nat × Nat), qgF (wd C M r) 113 3 1 = some (.ref 115)) ∧ (∀ (C M : qC) (r : Nat × Nat × Nat), qgF (wd C M r) 113 3 2 = some (.ref 116)) ∧ (∀ (C M : qC) (r : Nat × Nat × Nat), qgF (wd C M r) 113 3 3 = some (.int (xI C 113 3))) ∧ (∀ (C M : qC) (r : Nat × Nat × Nat), qgI (wd C M r) 114 0 = some (100, xA C 114)) ∧ (∀ (C M : qC) (r : Nat × Nat × Nat), qgI (wd C M r) 115 0 = some (100, xA C 115)) ∧ (∀ (C M : qC) (r : Nat × Nat × Nat), qci (wd C M r) 116 = some 0) ∧ (∀ (C M : qC) (r : Nat × Nat × Nat), qgF (wd C M r) 116 0 0 = some (.long (xL C 116 0))) ∧ (∀ (C M : qC) (r : Nat × Nat × Nat), qgF (wd C M r) 116 0 1 = some (.long (xL C 116 1))) ∧ (∀ (C M : qC) (r : Nat × Nat × Nat), qci (wd C M r) 117 = some 5) ∧ (∀ (C M : qC) (r : Nat × Nat × Nat), qgF (wd C M r) 117 5 0 = some (.ref 118)) ∧ (∀ (C M : qC) (r : Nat × Nat × Nat), qgF (wd C M r) 117 5 1 = some (.ref 119)) ∧ (∀ (C M : qC) (r : Nat × Nat × Nat), qgF (wd C M r) 117 5 2 = some (.ref 120)) ∧ (∀ (C M : qC) (r : Nat × Nat × Nat), qgF (wd C M r) 117 5 3 = some (.int (xI C 117 3))) ∧ (∀ (C M : qC) (r : Nat × Nat × Nat), qgI (wd C M r) 118 0 = some (6, xA C 118)) ∧ (∀ (C M : qC) (r : Nat × Nat × Nat), qgI (wd C M r) 119 0 = some (12, xA C 119)) ∧ (∀ (C M : qC) (r : Nat × Nat × Nat), qci (wd C M r) 120 = some 0) ∧ (∀ (C M : qC) (r : Nat × Nat × Nat), qgF (wd C M r) 120 0 0 = some (.long (xL C 120 0))) ∧ (∀ (C M : qC) (r : Nat × Nat × Nat), qgF (wd C M r) 120 0 1 = some (.long (xL C 120 1))) ∧ (∀ (C M : qC) (r : Nat × Nat × Nat), qci (wd C M r) 121 = some 9) ∧ (∀ (C M : qC) (r : Nat × Nat × Nat), qgF (wd C M r) 121 9 0 = some (.ref 122)) ∧ (∀ (C M : qC) (r : Nat × Nat × Nat), qgF (wd C M r) 121 9 1 = some (.int (xI C 121 1))) ∧ (∀ (C M : qC) (r : Nat × Nat × Nat), qgF (wd C M r) 121 9 2 = some (.ref 123)) ∧ (∀ (C M : qC) (r : Nat × Nat × Nat), qgF (wd C M r) 121 9 3 = some (.int (xI C 121 3))) ∧ (∀ (C M : qC) (r : Nat × Nat × Nat), qgF (wd C M r) 121 9 4 = some (.int (xI C 121 4))) ∧ (∀ (C M : qC) (r : Nat × Nat × Nat), qgF (wd C M r) 121 9 5 = some (.int (xI C 121 5))) ∧ (∀ (C M : qC) (r : Nat × Nat × Nat), qgF (wd C M r) 121 9 6 = some (.int (xI C 121 6))) ∧ (∀ (C M : qC) (r : Nat × Nat × Nat), qgF (wd C M r) 121 9 7 = some (.int (xI C 121 7))) ∧ (∀ (C M : qC) (r : Nat × Nat × Nat), qgI (wd C M r) 122 0 = some (100, xA C 122)) ∧ (∀ (C M : qC) (r : Nat × Nat × Nat), qgI (wd C M r) 123 0 = some (100, xA C 123)) ∧ (∀ (C M : qC) (r : Nat × Nat × Nat), qci (wd C M r) 124 = some 4) ∧ (∀ (C M : qC) (r : Nat × Nat × Nat), qgF (wd C M r) 124 4 0 = some (.ref 125)) ∧ (∀ (C M : qC) (r : Nat × Nat × Nat), qgF (wd C M r) 124 4 1 = some (.int (xI C 124 1))) ∧ (∀ (C M : qC) (r : Nat × Nat × Nat), qgI (wd C M r) 125 0 = some (100, xA C 125)) ∧ (∀ (C M : qC) (r : Nat × Nat × Nat), qci (wd C M r) 126 = some 2) ∧ (∀ (C M : qC) (r : Nat × Nat × Nat), qgF (wd C M r) 126 2 0 = some (.ref 127)) ∧ (∀ (C M : qC) (r : Nat × Nat × Nat), qgF (wd C M r) 126 2 1 = some (.ref 128)) ∧ (∀ (C M : qC) (r : Nat × Nat × Nat), qgF (wd C M r) 126 2 2 = some (.ref 129)) ∧ (∀ (C M : qC) (r : Nat × Nat × Nat), qgF (wd C M r) 126 2 3 = some (.ref 130)) ∧ (∀ (C M : qC) (r : Nat × Nat × Nat), qgI (wd C M r) 127 0 = some (4, xA C 127)) ∧ (∀ (C M : qC) (r : Nat × Nat × Nat), qgI (wd C M r) 128 1 = some (4, xA C 128)) ∧ (∀ (C M : qC) (r : Nat × Nat × Nat), qgI (wd C M r) 129 0 = some (4, xA C 129)) ∧ (∀ (C M : qC) (r : Nat × Nat × Nat), qgI (wd C M r) 130 0 = some (4, xA C 130)) ∧ (∀ (C M : qC) (r : Nat × Nat × Nat), qci (wd C M r) 131 = some 1) ∧ (∀ (C M : qC) (r : Nat × Nat × Nat), qgF (wd C M r) 131 1 0 = some (.int (xI C 131 0))) ∧ (∀ (C M : qC) (r : Nat × Nat × Nat), qgF (wd C M r) 131 1 1 = some (.int (xI C 131 1))) ∧ (∀ (C M : qC) (r : Nat × Nat × Nat), qgF (wd C M r) 131 1 2 = some (.int (xI C 131 2))) ∧ (∀ (C M : qC) (r : Nat × Nat × Nat) (v : Int32), qsF (wd C M r) 0 10 (.int v) = wd (yI C 0 10 v) M r) ∧ (∀ (C M : qC) (r : Nat × Nat × Nat) (v : Int32), qsF (wd C M r) 1 3 (.int v) = wd (yI C 1 3 v) M r) ∧ (∀ (C M : qC) (r : Nat × Nat × Nat) (f : Nat → Int32), qsI (wd C M r) 2 f = wd (yA C 2 f) M r) ∧ (∀ (C M : qC) (r : Nat × Nat × Nat) (v : Int32), qsF (wd C M r) 3 3 (.int v) = wd (yI C 3 3 v) M r) ∧ (∀ (C M : qC) (r : Nat × Nat × Nat) (f : Nat → Int32), qsI (wd C M r) 4 f = wd (yA C 4 f) M r) ∧ (∀ (C M : qC) (r : Nat × Nat × Nat) (v : Int32), qsF (wd C M r) 5 7 (.int v) = wd (yI C 5 7 v) M r) ∧ (∀ (C M : qC) (r : Nat × Nat × Nat) (f : Nat → Int64), qsL (wd C M r) 6 f = wd (yM C 6 f) M r) ∧ (∀ (C M : qC) (r : Nat × Nat × Nat) (f : Nat → Int32), qsI (wd C M r) 8 f = wd (yA C 8 f) M r) ∧ (∀ (C M : qC) (r : Nat × Nat × Nat) (f : Nat → Int32), qsI (wd C M r) 9 f = wd (yA C 9 f) M r) ∧ (∀ (C M : qC) (r : Nat × Nat × Nat) (f : Nat → Int32), qsI (wd C M r) 10 f = wd (yA C 10 f) M r) ∧ (∀ (C M : qC) (r : Nat × Nat × Nat) (f : Nat → Int32), qsI (wd C M r) 11 f = wd (yA C 11 f) M r) ∧ (∀ (C M : qC) (r : Nat × Nat × Nat) (v : Int64), qsF (wd C M r) 12 0 (.long v) = wd (yL C 12 0 v) M r) ∧ (∀ (C M : qC) (r : Nat × Nat × Nat) (v : Int64), qsF (wd C M r) 12 1 (.long v) = wd (yL C 12 1 v) M r) ∧ (∀ (C M : qC) (r : Nat × Nat × Nat) (v : Int32), qsF (wd C M r) 113 3 (.int v) = wd (yI C 113 3 v) M r) ∧ (∀ (C M : qC) (r : Nat × Nat × Nat) (f : Nat → Int32), qsI (wd C M r) 114 f = wd (yA C 114 f) M r) ∧ (∀ (C M : qC) (r : Nat × Nat × Nat) (f : Nat → Int32), qsI (wd C M r) 115 f = wd (yA C 115 f) M r) ∧ (∀ (C M : qC) (r : Nat × Nat × Nat) (v : Int64), qsF (wd C M r) 116 0 (.long v) = wd (yL C 116 0 v) M r) ∧ (∀ (C M : qC) (r : Nat × Nat × Nat) (v : Int64), qsF (wd C M r) 116 1 (.long v) = wd (yL C 116 1 v) M r) ∧ (∀ (C M : qC) (r : Nat × Nat × Nat) (v : Int32), qsF (wd C M r) 117 3 (.int v) = wd (yI C 117 3 v) M r) ∧ (∀ (C M : qC) (r : Nat × Nat × Nat) (f : Nat → Int32), qsI (wd C M r) 118 f = wd (yA C 118 f) M r) ∧ (∀ (C M : qC) (r : Nat × Nat × Nat) (f : Nat → Int32), qsI (wd C M r) 119 f = wd (yA C 119 f) M r) ∧ (∀ (C M : qC) (r : Nat × Nat × Nat) (v : Int64), qsF (wd C M r) 120 0 (.long v) = wd (yL C 120 0 v) M r) ∧ (∀ (C M : qC) (r : Nat × Nat × Nat) (v : Int64), qsF (wd C M r) 120 1 (.long v) = wd (yL C 120 1 v) M r) ∧ (∀ (C M : qC) (r : Nat × Nat × Nat) (v : Int32), qsF (wd C M r) 121 1 (.int v) = wd (yI C 121 1 v) M r) ∧ (∀ (C M : qC) (r : Nat × Nat × Nat) (v : Int32), qsF (wd C M r) 121 3 (.int v) = wd (yI C 121 3 v) M r) ∧ (∀ (C M : qC) (r : Nat × Nat × Nat) (v : Int32), qsF (wd C M r) 121 4 (.int v) = wd (yI C 121 4 v) M r) ∧ (∀ (C M : qC) (r : Nat × Nat × Nat) (v : Int32), qsF (wd C M r) 121 5 (.int v) = wd (yI C 121 5 v) M r) ∧ (∀ (C M : qC) (r : Nat × Nat × Nat) (v : Int32), qsF (wd C M r) 121 6 (.int v) = wd (yI C 121 6 v) M r) ∧ (∀ (C M : qC) (r : Nat × Nat × Nat) (v : Int32), qsF (wd C M r) 121 7 (.int v) = wd (yI C 121 7 v) M r) ∧ (∀ (C M : qC) (r : Nat × Nat × Nat) (f : Nat → Int32), qsI (wd C M r) 122 f = wd (yA C 122 f) M r) ∧ (∀ (C M : qC) (r : Nat × Nat × Nat) (f : Nat → Int32), qsI (wd C M r) 123 f = wd (yA C 123 f) M r) ∧ (∀ (C M : qC) (r : Nat × Nat × Nat) (v : Int32), qsF (wd C M r) 124 1 (.int v) = wd (yI C 124 1 v) M r) ∧ (∀ (C M : qC) (r : Nat × Nat × Nat) (f : Nat → Int32), qsI (wd C M r) 125 f = wd (yA C 125 f) M r) ∧ (∀ (C M : qC) (r : Nat × Nat × Nat) (f : Nat → Int32), qsI (wd C M r) 127 f = wd (yA C 127 f) M r) ∧ (∀ (C M : qC) (r : Nat × Nat × Nat) (f : Nat → Int32), qsI (wd C M r) 128 f = wd (yA C 128 f) M r) ∧ (∀ (C M : qC) (r : Nat × Nat × Nat) (f : Nat → Int32), qsI (wd C M r) 129 f = wd (yA C 129 f) M r) ∧ (∀ (C M : qC) (r : Nat × Nat × Nat) (f : Nat → Int32), qsI (wd C M r) 130 f = wd (yA C 130 f) M r) ∧ (∀ (C M : qC) (r : Nat × Nat × Nat) (v : Int32), qsF (wd C M r) 131 0 (.int v) = wd (yI C 131 0 v) M r) ∧ (∀ (C M : qC) (r : Nat × Nat × Nat) (v : Int32), qsF (wd C M r) 131 1 (.int v) = wd (yI C 131 1 v) M r) ∧ (∀ (C M : qC) (r : Nat × Nat × Nat) (v : Int32), qsF (wd C M r) 131 2 (.int v) = wd (yI C 131 2 v) M r) := ⟨qwC_0, qwC_1, qwC_2, qwC_3, qwC_4, qwC_5, qwC_6, qwC_7, qwC_8, qwC_9, qwC_10, qwC_11, qwC_12, qwC_13, qwC_14, qwC_15, qwC_16, qwC_17, qwC_18, qwC_19, qwC_20, qwC_21, qwC_22, qwC_23, qwC_24, qwC_25, qwC_26, qwC_27, qwC_28, qwC_29, qwC_30, qwC_31, qwC_32, qwC_33, qwC_34, qwC_35, qwC_36, qwC_37, qwC_38, qwC_39, qwC_40, qwC_41, qwC_42, qwC_43, qwC_44, qwC_45, qwC_46, qwC_47, qwC_48, qwC_49, qwC_50, qwC_51, qwC_52, qwC_53, qwC_54, qwC_55, qwC_56, qwC_57, qwC_58, qwC_59, qwC_60, qwC_61, qwC_62, qwC_63, qwC_64, qwC_65, qwC_66, qwC_67, qwC_68, qwC_69, qwC_70, qwC_71, qwC_72, qwC_73, qwC_74, qwC_75, qwC_76, qwC_77, qwC_78, qwC_79, qwC_80, qwC_81, qwC_82, qwC_83, qwC_84, qwC_85, qwC_86, qwC_87, qwC_88, qwC_89, qwC_90, qwC_91, qwC_92, qwC_93, qwC_94, qwC_95, qwC_96, qwC_97, qwC_98, qwC_99, qwC_100, qwC_101, qwC_102, qwC_103, qwC_104, qwC_105, qwC_106, qwC_107, qwC_108, qwC_109, qwC_110, qwC_111, qwC_112, qwC_113, qwC_114, qwC_115, qwC_116, qwC_117, qwC_118, qwC_119, qwC_120, qwC_121, qwC_122, qwC_123, qwC_124, qwC_125, qwC_126, qwC_127, qwC_128, qwC_129⟩
theorem qwM_0 : ∀ (C M : qC) (r : Nat × Nat × Nat), qci (wd C M r) 136 = some 11 := fun _ _ _ => gc_at rfl
theorem qwM_1 : ∀ (C M : qC) (r : Nat × Nat × Nat), qgF (wd C M r) 136 11 0 = some (.int (xI M 136 0)) := fun _ _ _ => (gF_at rfl).trans rfl
theorem qwM_2 : ∀ (C M : qC) (r : Nat × Nat × Nat), qgF (wd C M r) 136 11 1 = some (.int (xI M 136 1)) := fun _ _ _ => (gF_at rfl).trans rfl
theorem qwM_3 : ∀ (C M : qC) (r : Nat × Nat × Nat), qgF (wd C M r) 136 11 2 = some (.int (xI M 136 2)) := fun _ _ _ => (gF_at rfl).trans rfl
theorem qwM_4 : ∀ (C M : qC) (r : Nat × Nat × Nat), qgF (wd C M r) 136 11 3 = some (.int (xI M 136 3)) := fun _ _ _ => (gF_at rfl).trans rfl
theorem qwM_5 : ∀ (C M : qC) (r : Nat × Nat × Nat), qgF (wd C M r) 136 11 4 = some (.int (xI M 136 4)) := fun _ _ _ => (gF_at rfl).trans rfl
theorem qwM_6 : ∀ (C M : qC) (r : Nat × Nat × Nat), qgF (wd C M r) 136 11 5 = some (.int (xI M 136 5)) := fun _ _ _ => (gF_at rfl).trans rfl
theorem qwM_7 : ∀ (C M : qC) (r : Nat × Nat × Nat), qgF (wd C M r) 136 11 6 = some (.ref 137) := fun _ _ _ => (gF_at rfl).trans rfl
theorem qwM_8 : ∀ (C M : qC) (r : Nat × Nat × Nat), qgF (wd C M r) 136 11 7 = some (.ref 138) := fun _ _ _ => (gF_at rfl).trans rfl
theorem qwM_9 : ∀ (C M : qC) (r : Nat × Nat × Nat), qgF (wd C M r) 136 11 8 = some (.ref 139) := fun _ _ _ => (gF_at rfl).trans rfl
theorem qwM_10 : ∀ (C M : qC) (r : Nat × Nat × Nat), qgF (wd C M r) 136 11 9 = some (.ref 140) := fun _ _ _ => (gF_at rfl).trans rfl
theorem qwM_11 : ∀ (C M : qC) (r : Nat × Nat × Nat), qgF (wd C M r) 136 11 10 = some (.ref 141) := fun _ _ _ => (gF_at rfl).trans rfl
theorem qwM_12 : ∀ (C M : qC) (r : Nat × Nat × Nat), qgF (wd C M r) 136 11 11 = some (.ref 142) := fun _ _ _ => (gF_at rfl).trans rfl
theorem qwM_13 : ∀ (C M : qC) (r : Nat × Nat × Nat), qgF (wd C M r) 136 11 12 = some (.ref 143) := fun _ _ _ => (gF_at rfl).trans rfl
theorem qwM_14 : ∀ (C M : qC) (r : Nat × Nat × Nat), qgF (wd C M r) 136 11 13 = some (.ref 144) := fun _ _ _ => (gF_at rfl).trans rfl
theorem qwM_15 : ∀ (C M : qC) (r : Nat × Nat × Nat), qgF (wd C M r) 136 11 14 = some (.ref 145) := fun _ _ _ => (gF_at rfl).trans rfl
theorem qwM_16 : ∀ (C M : qC) (r : Nat × Nat × Nat), qgF (wd C M r) 136 11 15 = some (.ref 146) := fun _ _ _ => (gF_at rfl).trans rfl
theorem qwM_17 : ∀ (C M : qC) (r : Nat × Nat × Nat), qgF (wd C M r) 136 11 16 = some (.ref 147) := fun _ _ _ => (gF_at rfl).trans rfl
theorem qwM_18 : ∀ (C M : qC) (r : Nat × Nat × Nat), qgF (wd C M r) 136 11 17 = some (.ref 148) := fun _ _ _ => (gF_at rfl).trans rfl
theorem qwM_19 : ∀ (C M : qC) (r : Nat × Nat × Nat), qgF (wd C M r) 136 11 18 = some (.ref 149) := fun _ _ _ => (gF_at rfl).trans rfl
theorem qwM_20 : ∀ (C M : qC) (r : Nat × Nat × Nat), qgF (wd C M r) 136 11 19 = some (.ref 150) := fun _ _ _ => (gF_at rfl).trans rfl
theorem qwM_21 : ∀ (C M : qC) (r : Nat × Nat × Nat), qgF (wd C M r) 136 11 20 = some (.ref 151) := fun _ _ _ => (gF_at rfl).trans rfl
theorem qwM_22 : ∀ (C M : qC) (r : Nat × Nat × Nat), qgF (wd C M r) 136 11 21 = some (.ref 152) := fun _ _ _ => (gF_at rfl).trans rfl
theorem qwM_23 : ∀ (C M : qC) (r : Nat × Nat × Nat), qgF (wd C M r) 136 11 22 = some (.ref 153) := fun _ _ _ => (gF_at rfl).trans rfl
theorem qwM_24 : ∀ (C M : qC) (r : Nat × Nat × Nat), qgF (wd C M r) 136 11 23 = some (.ref 154) := fun _ _ _ => (gF_at rfl).trans rfl
theorem qwM_25 : ∀ (C M : qC) (r : Nat × Nat × Nat), qgF (wd C M r) 136 11 24 = some (.ref 155) := fun _ _ _ => (gF_at rfl).trans rfl
theorem qwM_26 : ∀ (C M : qC) (r : Nat × Nat × Nat), qgF (wd C M r) 136 11 25 = some (.ref 156) := fun _ _ _ => (gF_at rfl).trans rfl
theorem qwM_27 : ∀ (C M : qC) (r : Nat × Nat × Nat), qgF (wd C M r) 136 11 26 = some (.ref 157) := fun _ _ _ => (gF_at rfl).trans rfl
theorem qwM_28 : ∀ (C M : qC) (r : Nat × Nat × Nat), qgF (wd C M r) 136 11 27 = some (.ref 158) := fun _ _ _ => (gF_at rfl).trans rfl
theorem qwM_29 : ∀ (C M : qC) (r : Nat × Nat × Nat), qgF (wd C M r) 136 11 28 = some (.ref 159) := fun _ _ _ => (gF_at rfl).trans rfl
theorem qwM_30 : ∀ (C M : qC) (r : Nat × Nat × Nat), qgF (wd C M r) 136 11 29 = some (.ref 160) := fun _ _ _ => (gF_at rfl).trans rfl
theorem qwM_31 : ∀ (C M : qC) (r : Nat × Nat × Nat), qgF (wd C M r) 136 11 30 = some (.ref 161) := fun _ _ _ => (gF_at rfl).trans rfl
theorem qwM_32 : ∀ (C M : qC) (r : Nat × Nat × Nat), qgF (wd C M r) 136 11 31 = some (.ref 162) := fun _ _ _ => (gF_at rfl).trans rfl
theorem qwM_33 : ∀ (C M : qC) (r : Nat × Nat × Nat), qgF (wd C M r) 136 11 32 = some (.int (xI M 136 32)) := fun _ _ _ => (gF_at rfl).trans rfl
theorem qwM_34 : ∀ (C M : qC) (r : Nat × Nat × Nat), qgF (wd C M r) 136 11 33 = some (.int (xI M 136 33)) := fun _ _ _ => (gF_at rfl).trans rfl
theorem qwM_35 : ∀ (C M : qC) (r : Nat × Nat × Nat), qgF (wd C M r) 136 11 34 = some (.int (xI M 136 34)) := fun _ _ _ => (gF_at rfl).trans rfl
theorem qwM_36 : ∀ (C M : qC) (r : Nat × Nat × Nat), qgF (wd C M r) 136 11 35 = some (.int (xI M 136 35)) := fun _ _ _ => (gF_at rfl).trans rfl
theorem qwM_37 : ∀ (C M : qC) (r : Nat × Nat × Nat), qgF (wd C M r) 136 11 36 = some (.int (xI M 136 36)) := fun _ _ _ => (gF_at rfl).trans rfl
theorem qwM_38 : ∀ (C M : qC) (r : Nat × Nat × Nat), qgF (wd C M r) 136 11 37 = some (.ref 163) := fun _ _ _ => (gF_at rfl).trans rfl
theorem qwM_39 : ∀ (C M : qC) (r : Nat × Nat × Nat), qgF (wd C M r) 136 11 38 = some (.ref 164) := fun _ _ _ => (gF_at rfl).trans rfl
theorem qwM_40 : ∀ (C M : qC) (r : Nat × Nat × Nat), qgL (wd C M r) 137 = some (100, xM M 137) := fun _ _ _ => gL_at rfl
theorem qwM_41 : ∀ (C M : qC) (r : Nat × Nat × Nat), qgI (wd C M r) 138 0 = some (400, xA M 138) := fun _ _ _ => gI_at rfl (by decide)
theorem qwM_42 : ∀ (C M : qC) (r : Nat × Nat × Nat), qgI (wd C M r) 139 0 = some (400, xA M 139) := fun _ _ _ => gI_at rfl (by decide)
theorem qwM_43 : ∀ (C M : qC) (r : Nat × Nat × Nat), qgI (wd C M r) 140 0 = some (400, xA M 140) := fun _ _ _ => gI_at rfl (by decide)
theorem qwM_44 : ∀ (C M : qC) (r : Nat × Nat × Nat), qgI (wd C M r) 141 0 = some (400, xA M 141) := fun _ _ _ => gI_at rfl (by decide)
theorem qwM_45 : ∀ (C M : qC) (r : Nat × Nat × Nat), qgI (wd C M r) 142 0 = some (400, xA M 142) := fun _ _ _ => gI_at rfl (by decide)
theorem qwM_46 : ∀ (C M : qC) (r : Nat × Nat × Nat), qgI (wd C M r) 143 0 = some (400, xA M 143) := fun _ _ _ => gI_at rfl (by decide)
theorem qwM_47 : ∀ (C M : qC) (r : Nat × Nat × Nat), qgI (wd C M r) 144 0 = some (400, xA M 144) := fun _ _ _ => gI_at rfl (by decide)
theorem qwM_48 : ∀ (C M : qC) (r : Nat × Nat × Nat), qgI (wd C M r) 145 0 = some (400, xA M 145) := fun _ _ _ => gI_at rfl (by decide)
theorem qwM_49 : ∀ (C M : qC) (r : Nat × Nat × Nat), qgI (wd C M r) 146 0 = some (400, xA M 146) := fun _ _ _ => gI_at rfl (by decide)
theorem qwM_50 : ∀ (C M : qC) (r : Nat × Nat × Nat), qgI (wd C M r) 147 0 = some (400, xA M 147) := fun _ _ _ => gI_at rfl (by decide)
theorem qwM_51 : ∀ (C M : qC) (r : Nat × Nat × Nat), qgI (wd C M r) 148 0 = some (400, xA M 148) := fun _ _ _ => gI_at rfl (by decide)
theorem qwM_52 : ∀ (C M : qC) (r : Nat × Nat × Nat), qgI (wd C M r) 149 0 = some (400, xA M 149) := fun _ _ _ => gI_at rfl (by decide)
theorem qwM_53 : ∀ (C M : qC) (r : Nat × Nat × Nat), qgI (wd C M r) 150 0 = some (100, xA M 150) := fun _ _ _ => gI_at rfl (by decide)
theorem qwM_54 : ∀ (C M : qC) (r : Nat × Nat × Nat), qgI (wd C M r) 151 0 = some (4, xA M 151) := fun _ _ _ => gI_at rfl (by decide)
theorem qwM_55 : ∀ (C M : qC) (r : Nat × Nat × Nat), qgI (wd C M r) 152 1 = some (4, xA M 152) := fun _ _ _ => gI_at rfl (by decide)
theorem qwM_56 : ∀ (C M : qC) (r : Nat × Nat × Nat), qgI (wd C M r) 153 0 = some (4, xA M 153) := fun _ _ _ => gI_at rfl (by decide)
theorem qwM_57 : ∀ (C M : qC) (r : Nat × Nat × Nat), qgI (wd C M r) 154 0 = some (50, xA M 154) := fun _ _ _ => gI_at rfl (by decide)
theorem qwM_58 : ∀ (C M : qC) (r : Nat × Nat × Nat), qgI (wd C M r) 155 0 = some (50, xA M 155) := fun _ _ _ => gI_at rfl (by decide)
theorem qwM_59 : ∀ (C M : qC) (r : Nat × Nat × Nat), qgI (wd C M r) 156 0 = some (50, xA M 156) := fun _ _ _ => gI_at rfl (by decide)
theorem qwM_60 : ∀ (C M : qC) (r : Nat × Nat × Nat), qgI (wd C M r) 157 1 = some (100, xA M 157) := fun _ _ _ => gI_at rfl (by decide)
theorem qwM_61 : ∀ (C M : qC) (r : Nat × Nat × Nat), qgI (wd C M r) 158 0 = some (100, xA M 158) := fun _ _ _ => gI_at rfl (by decide)
theorem qwM_62 : ∀ (C M : qC) (r : Nat × Nat × Nat), qgI (wd C M r) 159 1 = some (100, xA M 159) := fun _ _ _ => gI_at rfl (by decide)
theorem qwM_63 : ∀ (C M : qC) (r : Nat × Nat × Nat), qgI (wd C M r) 160 0 = some (100, xA M 160) := fun _ _ _ => gI_at rfl (by decide)
theorem qwM_64 : ∀ (C M : qC) (r : Nat × Nat × Nat), qgI (wd C M r) 161 0 = some (4400, xA M 161) := fun _ _ _ => gI_at rfl (by decide)
theorem qwM_65 : ∀ (C M : qC) (r : Nat × Nat × Nat), qgI (wd C M r) 162 0 = some (220, xA M 162) := fun _ _ _ => gI_at rfl (by decide)
theorem qwM_66 : ∀ (C M : qC) (r : Nat × Nat × Nat), qgI (wd C M r) 163 1 = some (220, xA M 163) := fun _ _ _ => gI_at rfl (by decide)
theorem qwM_67 : ∀ (C M : qC) (r : Nat × Nat × Nat), qgI (wd C M r) 164 1 = some (400, xA M 164) := fun _ _ _ => gI_at rfl (by decide)
theorem qwM_68 : ∀ (C M : qC) (r : Nat × Nat × Nat) (v : Int32), qsF (wd C M r) 136 0 (.int v) = wd C (yI M 136 0 v) r := fun _ _ _ _ => sF_M rfl rfl (by decide)
theorem qwM_69 : ∀ (C M : qC) (r : Nat × Nat × Nat) (v : Int32), qsF (wd C M r) 136 1 (.int v) = wd C (yI M 136 1 v) r := fun _ _ _ _ => sF_M rfl rfl (by decide)
theorem qwM_70 : ∀ (C M : qC) (r : Nat × Nat × Nat) (v : Int32), qsF (wd C M r) 136 2 (.int v) = wd C (yI M 136 2 v) r := fun _ _ _ _ => sF_M rfl rfl (by decide)
theorem qwM_71 : ∀ (C M : qC) (r : Nat × Nat × Nat) (v : Int32), qsF (wd C M r) 136 3 (.int v) = wd C (yI M 136 3 v) r := fun _ _ _ _ => sF_M rfl rfl (by decide)
theorem qwM_72 : ∀ (C M : qC) (r : Nat × Nat × Nat) (v : Int32), qsF (wd C M r) 136 4 (.int v) = wd C (yI M 136 4 v) r := fun _ _ _ _ => sF_M rfl rfl (by decide)
theorem qwM_73 : ∀ (C M : qC) (r : Nat × Nat × Nat) (v : Int32), qsF (wd C M r) 136 5 (.int v) = wd C (yI M 136 5 v) r := fun _ _ _ _ => sF_M rfl rfl (by decide)
theorem qwM_74 : ∀ (C M : qC) (r : Nat × Nat × Nat) (v : Int32), qsF (wd C M r) 136 32 (.int v) = wd C (yI M 136 32 v) r := fun _ _ _ _ => sF_M rfl rfl (by decide)
theorem qwM_75 : ∀ (C M : qC) (r : Nat × Nat × Nat) (v : Int32), qsF (wd C M r) 136 33 (.int v) = wd C (yI M 136 33 v) r := fun _ _ _ _ => sF_M rfl rfl (by decide)
theorem qwM_76 : ∀ (C M : qC) (r : Nat × Nat × Nat) (v : Int32), qsF (wd C M r) 136 34 (.int v) = wd C (yI M 136 34 v) r := fun _ _ _ _ => sF_M rfl rfl (by decide)
theorem qwM_77 : ∀ (C M : qC) (r : Nat × Nat × Nat) (v : Int32), qsF (wd C M r) 136 35 (.int v) = wd C (yI M 136 35 v) r := fun _ _ _ _ => sF_M rfl rfl (by decide)
theorem qwM_78 : ∀ (C M : qC) (r : Nat × Nat × Nat) (v : Int32), qsF (wd C M r) 136 36 (.int v) = wd C (yI M 136 36 v) r := fun _ _ _ _ => sF_M rfl rfl (by decide)
theorem qwM_79 : ∀ (C M : qC) (r : Nat × Nat × Nat) (f : Nat → Int64), qsL (wd C M r) 137 f = wd C (yM M 137 f) r := fun _ _ _ _ => sL_M rfl (by decide)
theorem qwM_80 : ∀ (C M : qC) (r : Nat × Nat × Nat) (f : Nat → Int32), qsI (wd C M r) 138 f = wd C (yA M 138 f) r := fun _ _ _ _ => sI_M rfl (by decide) (by decide)
theorem qwM_81 : ∀ (C M : qC) (r : Nat × Nat × Nat) (f : Nat → Int32), qsI (wd C M r) 139 f = wd C (yA M 139 f) r := fun _ _ _ _ => sI_M rfl (by decide) (by decide)
theorem qwM_82 : ∀ (C M : qC) (r : Nat × Nat × Nat) (f : Nat → Int32), qsI (wd C M r) 140 f = wd C (yA M 140 f) r := fun _ _ _ _ => sI_M rfl (by decide) (by decide)
theorem qwM_83 : ∀ (C M : qC) (r : Nat × Nat × Nat) (f : Nat → Int32), qsI (wd C M r) 141 f = wd C (yA M 141 f) r := fun _ _ _ _ => sI_M rfl (by decide) (by decide)
theorem qwM_84 : ∀ (C M : qC) (r : Nat × Nat × Nat) (f : Nat → Int32), qsI (wd C M r) 142 f = wd C (yA M 142 f) r := fun _ _ _ _ => sI_M rfl (by decide) (by decide)
theorem qwM_85 : ∀ (C M : qC) (r : Nat × Nat × Nat) (f : Nat → Int32), qsI (wd C M r) 143 f = wd C (yA M 143 f) r := fun _ _ _ _ => sI_M rfl (by decide) (by decide)
theorem qwM_86 : ∀ (C M : qC) (r : Nat × Nat × Nat) (f : Nat → Int32), qsI (wd C M r) 144 f = wd C (yA M 144 f) r := fun _ _ _ _ => sI_M rfl (by decide) (by decide)
theorem qwM_87 : ∀ (C M : qC) (r : Nat × Nat × Nat) (f : Nat → Int32), qsI (wd C M r) 145 f = wd C (yA M 145 f) r := fun _ _ _ _ => sI_M rfl (by decide) (by decide)
theorem qwM_88 : ∀ (C M : qC) (r : Nat × Nat × Nat) (f : Nat → Int32), qsI (wd C M r) 146 f = wd C (yA M 146 f) r := fun _ _ _ _ => sI_M rfl (by decide) (by decide)
theorem qwM_89 : ∀ (C M : qC) (r : Nat × Nat × Nat) (f : Nat → Int32), qsI (wd C M r) 147 f = wd C (yA M 147 f) r := fun _ _ _ _ => sI_M rfl (by decide) (by decide)
theorem qwM_90 : ∀ (C M : qC) (r : Nat × Nat × Nat) (f : Nat → Int32), qsI (wd C M r) 148 f = wd C (yA M 148 f) r := fun _ _ _ _ => sI_M rfl (by decide) (by decide)
theorem qwM_91 : ∀ (C M : qC) (r : Nat × Nat × Nat) (f : Nat → Int32), qsI (wd C M r) 149 f = wd C (yA M 149 f) r := fun _ _ _ _ => sI_M rfl (by decide) (by decide)
theorem qwM_92 : ∀ (C M : qC) (r : Nat × Nat × Nat) (f : Nat → Int32), qsI (wd C M r) 150 f = wd C (yA M 150 f) r := fun _ _ _ _ => sI_M rfl (by decide) (by decide)
theorem qwM_93 : ∀ (C M : qC) (r : Nat × Nat × Nat) (f : Nat → Int32), qsI (wd C M r) 151 f = wd C (yA M 151 f) r := fun _ _ _ _ => sI_M rfl (by decide) (by decide)
theorem qwM_94 : ∀ (C M : qC) (r : Nat × Nat × Nat) (f : Nat → Int32), qsI (wd C M r) 152 f = wd C (yA M 152 f) r := fun _ _ _ _ => sI_M rfl (by decide) (by decide)
theorem qwM_95 : ∀ (C M : qC) (r : Nat × Nat × Nat) (f : Nat → Int32), qsI (wd C M r) 153 f = wd C (yA M 153 f) r := fun _ _ _ _ => sI_M rfl (by decide) (by decide)
theorem qwM_96 : ∀ (C M : qC) (r : Nat × Nat × Nat) (f : Nat → Int32), qsI (wd C M r) 154 f = wd C (yA M 154 f) r := fun _ _ _ _ => sI_M rfl (by decide) (by decide)
theorem qwM_97 : ∀ (C M : qC) (r : Nat × Nat × Nat) (f : Nat → Int32), qsI (wd C M r) 155 f = wd C (yA M 155 f) r := fun _ _ _ _ => sI_M rfl (by decide) (by decide)
theorem qwM_98 : ∀ (C M : qC) (r : Nat × Nat × Nat) (f : Nat → Int32), qsI (wd C M r) 156 f = wd C (yA M 156 f) r := fun _ _ _ _ => sI_M rfl (by decide) (by decide)
theorem qwM_99 : ∀ (C M : qC) (r : Nat × Nat × Nat) (f : Nat → Int32), qsI (wd C M r) 157 f = wd C (yA M 157 f) r := fun _ _ _ _ => sI_M rfl (by decide) (by decide)
theorem qwM_100 : ∀ (C M : qC) (r : Nat × Nat × Nat) (f : Nat → Int32), qsI (wd C M r) 158 f = wd C (yA M 158 f) r := fun _ _ _ _ => sI_M rfl (by decide) (by decide)
theorem qwM_101 : ∀ (C M : qC) (r : Nat × Nat × Nat) (f : Nat → Int32), qsI (wd C M r) 159 f = wd C (yA M 159 f) r := fun _ _ _ _ => sI_M rfl (by decide) (by decide)
theorem qwM_102 : ∀ (C M : qC) (r : Nat × Nat × Nat) (f : Nat → Int32), qsI (wd C M r) 160 f = wd C (yA M 160 f) r := fun _ _ _ _ => sI_M rfl (by decide) (by decide)
theorem qwM_103 : ∀ (C M : qC) (r : Nat × Nat × Nat) (f : Nat → Int32), qsI (wd C M r) 161 f = wd C (yA M 161 f) r := fun _ _ _ _ => sI_M rfl (by decide) (by decide)
theorem qwM_104 : ∀ (C M : qC) (r : Nat × Nat × Nat) (f : Nat → Int32), qsI (wd C M r) 162 f = wd C (yA M 162 f) r := fun _ _ _ _ => sI_M rfl (by decide) (by decide)
theorem qwM_105 : ∀ (C M : qC) (r : Nat × Nat × Nat) (f : Nat → Int32), qsI (wd C M r) 163 f = wd C (yA M 163 f) r := fun _ _ _ _ => sI_M rfl (by decide) (by decide)
theorem qwM_106 : ∀ (C M : qC) (r : Nat × Nat × Nat) (f : Nat → Int32), qsI (wd C M r) 164 f = wd C (yA M 164 f) r := fun _ _ _ _ => sI_M rfl (by decide) (by decide)
theorem qwM : (∀ (C M : qC) (r : Nat × Nat × Nat), qci (wd C M r) 136 = some 11) ∧ (∀ (C M : qC) (r : Nat × Nat × Nat), qgF (wd C M r) 136 11 0 = some (.int (xI M 136 0))) ∧ (∀ (C M : qC) (r : Nat × Nat × Nat), qgF (wd C M r) 136 11 1 = some (.int (xI M 136 1))) ∧ (∀ (C M : qC) (r : Nat × Nat × Nat), qgF (wd C M r) 136 11 2 = some (.int (xI M 136 2))) ∧ (∀ (C M : qC) (r : Nat × Nat × Nat), qgF (wd C M r) 136 11 3 = some (.int (xI M 136 3))) ∧ (∀ (C M : qC) (r : Nat × Nat × Nat), qgF (wd C M r) 136 11 4 = some (.int (xI M 136 4))) ∧ (∀ (C M : qC) (r : Nat × Nat × Nat), qgF (wd C M r) 136 11 5 = some (.int (xI M 136 5))) ∧ (∀ (C M : qC) (r : Nat × Nat × Nat), qgF (wd C M r) 136 11 6 = some (.ref 137)) ∧ (∀ (C M : qC) (r : Nat × Nat × Nat), qgF (wd C M r) 136 11 7 = some (.ref 138)) ∧ (∀ (C M : qC) (r : Nat × Nat × Nat), qgF (wd C M r) 136 11 8 = some (.ref 139)) ∧ (∀ (C M : qC) (r : Nat × Nat × Nat), qgF (wd C M r) 136 11 9 = some (.ref 140)) ∧ (∀ (C M : qC) (r : Nat × Nat × Nat), qgF (wd C M r) 136 11 10 = some (.ref 141)) ∧ (∀ (C M : qC) (r : Nat × Nat × Nat), qgF (wd C M r) 136 11 11 = some (.ref 142)) ∧ (∀ (C M : qC) (r : Nat × Nat × Nat), qgF (wd C M r) 136 11 12 = some (.ref 143)) ∧ (∀ (C M : qC) (r : Nat × Nat × Nat), qgF (wd C M r) 136 11 13 = some (.ref 144)) ∧ (∀ (C M : qC) (r : Nat × Nat × Nat), qgF (wd C M r) 136 11 14 = some (.ref 145)) ∧ (∀ (C M : qC) (r : Nat × Nat × Nat), qgF (wd C M r) 136 11 15 = some (.ref 146)) ∧ (∀ (C M : qC) (r : Nat × Nat × Nat), qgF (wd C M r) 136 11 16 = some (.ref 147)) ∧ (∀ (C M : qC) (r : Nat × Nat × Nat), qgF (wd C M r) 136 11 17 = some (.ref 148)) ∧ (∀ (C M : qC) (r : Nat × Nat × Nat), qgF (wd C M r) 136 11 18 = some (.ref 149)) ∧ (∀ (C M : qC) (r : Nat × Nat × Nat), qgF (wd C M r) 136 11 19 = some (.ref 150)) ∧ (∀ (C M : qC) (r : Nat × Nat × Nat), qgF (wd C M r) 136 11 20 = some (.ref 151)) ∧ (∀ (C M : qC) (r : Nat × Nat × Nat), qgF (wd C M r) 136 11 21 = some (.ref 152)) ∧ (∀ (C M : qC) (r : Nat × Nat × Nat), qgF (wd C M r) 136 11 22 = some (.ref 153)) ∧ (∀ (C M : qC) (r : Nat × Nat × Nat), qgF (wd C M r) 136 11 23 = some (.ref 154)) ∧ (∀ (C M : qC) (r : Nat × Nat × Nat), qgF (wd C M r) 136 11 24 = some (.ref 155)) ∧ (∀ (C M : qC) (r : Nat × Nat × Nat), qgF (wd C M r) 136 11 25 = some (.ref 156)) ∧ (∀ (C M : qC) (r : Nat × Nat × Nat), qgF (wd C M r) 136 11 26 = some (.ref 157)) ∧ (∀ (C M : qC) (r : Nat × Nat × Nat), qgF (wd C M r) 136 11 27 = some (.ref 158)) ∧ (∀ (C M : qC) (r : Nat × Nat × Nat), qgF (wd C M r) 136 11 28 = some (.ref 159)) ∧ (∀ (C M : qC) (r : Nat × Nat × Nat), qgF (wd C M r) 136 11 29 = some (.ref 160)) ∧ (∀ (C M : qC) (r : Nat × Nat × Nat), qgF (wd C M r) 136 11 30 = some (.ref 161)) ∧ (∀ (C M : qC) (r : Nat × Nat × Nat), qgF (wd C M r) 136 11 31 = some (.ref 162)) ∧ (∀ (C M : qC) (r : Nat × Nat × Nat), qgF (wd C M r) 136 11 32 = some (.int (xI M 136 32))) ∧ (∀ (C M : qC) (r : Nat × Nat × Nat), qgF (wd C M r) 136 11 33 = some (.int (xI M 136 33))) ∧ (∀ (C M : qC) (r : Nat × Nat × Nat), qgF (wd C M r) 136 11 34 = some (.int (xI M 136 34))) ∧ (∀ (C M : qC) (r : Nat × Nat × Nat), qgF (wd C M r) 136 11 35 = some (.int (xI M 136 35))) ∧ (∀ (C M : qC) (r : Nat × Nat × Nat), qgF (wd C M r) 136 11 36 = some (.int (xI M 136 36))) ∧ (∀ (C M : qC) (r : Nat × Nat × Nat), qgF (wd C M r) 136 11 37 = some (.ref 163)) ∧ (∀ (C M : qC) (r : Nat × Nat × Nat), qgF (wd C M r) 136 11 38 = some (.ref 164)) ∧ (∀ (C M : qC) (r : Nat × Nat × Nat), qgL (wd C M r) 137 = some (100, xM M 137)) ∧ (∀ (C M : qC) (r : Nat × Nat × Nat), qgI (wd C M r) 138 0 = some (400, xA M 138)) ∧ (∀ (C M : qC) (r : Nat × Nat × Nat), qgI (wd C M r) 139 0 = some (400, xA M 139)) ∧ (∀ (C M : qC) (r : Nat × Nat × Nat), qgI (wd C M r) 140 0 = some (400, xA M 140)) ∧ (∀ (C M : qC) (r : Nat × Nat × Nat), qgI (wd C M r) 141 0 = some (400, xA M 141)) ∧ (∀ (C M : qC) (r : Nat × Nat × Nat), qgI (wd C M r) 142 0 = some (400, xA M 142)) ∧ (∀ (C M : qC) (r : Nat × Nat × Nat), qgI (wd C M r) 143 0 = some (400, xA M 143)) ∧ (∀ (C M : qC) (r : Nat × Nat × Nat), qgI (wd C M r) 144 0 = some (400, xA M 144)) ∧ (∀ (C M : qC) (r : Nat × Nat × Nat), qgI (wd C M r) 145 0 = some (400, xA M 145)) ∧ (∀ (C M : qC) (r : Nat × Nat × Nat), qgI (wd C M r) 146 0 = some (400, xA M 146)) ∧ (∀ (C M : qC) (r : Nat × Nat × Nat), qgI (wd C M r) 147 0 = some (400, xA M 147)) ∧ (∀ (C M : qC) (r : Nat × Nat × Nat), qgI (wd C M r) 148 0 = some (400, xA M 148)) ∧ (∀ (C M : qC) (r : Nat × Nat × Nat), qgI (wd C M r) 149 0 = some (400, xA M 149)) ∧ (∀ (C M : qC) (r : Nat × Nat × Nat), qgI (wd C M r) 150 0 = some (100, xA M 150)) ∧ (∀ (C M : qC) (r : Nat × Nat × Nat), qgI (wd C M r) 151 0 = some (4, xA M 151)) ∧ (∀ (C M : qC) (r : Nat × Nat × Nat), qgI (wd C M r) 152 1 = some (4, xA M 152)) ∧ (∀ (C M : qC) (r : Nat × Nat × Nat), qgI (wd C M r) 153 0 = some (4, xA M 153)) ∧ (∀ (C M : qC) (r : Nat × Nat × Nat), qgI (wd C M r) 154 0 = some (50, xA M 154)) ∧ (∀ (C M : qC) (r : Nat × Nat × Nat), qgI (wd C M r) 155 0 = some (50, xA M 155)) ∧ (∀ (C M : qC) (r : Nat × Nat × Nat), qgI (wd C M r) 156 0 = some (50, xA M 156)) ∧ (∀ (C M : qC) (r : Nat × Nat × Nat), qgI (wd C M r) 157 1 = some (100, xA M 157)) ∧ (∀ (C M : qC) (r : Nat × Nat × Nat), qgI (wd C M r) 158 0 = some (100, xA M 158)) ∧ (∀ (C M : qC) (r : Nat × Nat × Nat), qgI (wd C M r) 159 1 = some (100, xA M 159)) ∧ (∀ (C M : qC) (r : Nat × Nat × Nat), qgI (wd C M r) 160 0 = some (100, xA M 160)) ∧ (∀ (C M : qC) (r : Nat × Nat × Nat), qgI (wd C M r) 161 0 = some (4400, xA M 161)) ∧ (∀ (C M : qC) (r : Nat × Nat × Nat), qgI (wd C M r) 162 0 = some (220, xA M 162)) ∧ (∀ (C M : qC) (r : Nat × Nat × Nat), qgI (wd C M r) 163 1 = some (220, xA M 163)) ∧ (∀ (C M : qC) (r : Nat × Nat × Nat), qgI (wd C M r) 164 1 = some (400, xA M 164)) ∧ (∀ (C M : qC) (r : Nat × Nat × Nat) (v : Int32), qsF (wd C M r) 136 0 (.int v) = wd C (yI M 136 0 v) r) ∧ (∀ (C M : qC) (r : Nat × Nat × Nat) (v : Int32), qsF (wd C M r) 136 1 (.int v) = wd C (yI M 136 1 v) r) ∧ (∀ (C M : qC) (r : Nat × Nat × Nat) (v : Int32), qsF (wd C M r) 136 2 (.int v) = wd C (yI M 136 2 v) r) ∧ (∀ (C M : qC) (r : Nat × Nat × Nat) (v : Int32), qsF (wd C M r) 136 3 (.int v) = wd C (yI M 136 3 v) r) ∧ (∀ (C M : qC) (r : Nat × Nat × Nat) (v : Int32), qsF (wd C M r) 136 4 (.int v) = wd C (yI M 136 4 v) r) ∧ (∀ (C M : qC) (r : Nat × Nat × Nat) (v : Int32), qsF (wd C M r) 136 5 (.int v) = wd C (yI M 136 5 v) r) ∧ (∀ (C M : qC) (r : Nat × Nat × Nat) (v : Int32), qsF (wd C M r) 136 32 (.int v) = wd C (yI M 136 32 v) r) ∧ (∀ (C M : qC) (r : Nat × Nat × Nat) (v : Int32), qsF (wd C M r) 136 33 (.int v) = wd C (yI M 136 33 v) r) ∧ (∀ (C M : qC) (r : Nat × Nat × Nat) (v : Int32), qsF (wd C M r) 136 34 (.int v) = wd C (yI M 136 34 v) r) ∧ (∀ (C M : qC) (r : Nat × Nat × Nat) (v : Int32), qsF (wd C M r) 136 35 (.int v) = wd C (yI M 136 35 v) r) ∧ (∀ (C M : qC) (r : Nat × Nat × Nat) (v : Int32), qsF (wd C M r) 136 36 (.int v) = wd C (yI M 136 36 v) r) ∧ (∀ (C M : qC) (r : Nat × Nat × Nat) (f : Nat → Int64), qsL (wd C M r) 137 f = wd C (yM M 137 f) r) ∧ (∀ (C M : qC) (r : Nat × Nat × Nat) (f : Nat → Int32), qsI (wd C M r) 138 f = wd C (yA M 138 f) r) ∧ (∀ (C M : qC) (r : Nat × Nat × Nat) (f : Nat → Int32), qsI (wd C M r) 139 f = wd C (yA M 139 f) r) ∧ (∀ (C M : qC) (r : Nat × Nat × Nat) (f : Nat → Int32), qsI (wd C M r) 140 f = wd C (yA M 140 f) r) ∧ (∀ (C M : qC) (r : Nat × Nat × Nat) (f : Nat → Int32), qsI (wd C M r) 141 f = wd C (yA M 141 f) r) ∧ (∀ (C M : qC) (r : Nat × Nat × Nat) (f : Nat → Int32), qsI (wd C M r) 142 f = wd C (yA M 142 f) r) ∧ (∀ (C M : qC) (r : Nat × Nat × Nat) (f : Nat → Int32), qsI (wd C M r) 143 f = wd C (yA M 143 f) r) ∧ (∀ (C M : qC) (r : Nat × Nat × Nat) (f : Nat → Int32), qsI (wd C M r) 144 f = wd C (yA M 144 f) r) ∧ (∀ (C M : qC) (r : Nat × Nat × Nat) (f : Nat → Int32), qsI (wd C M r) 145 f = wd C (yA M 145 f) r) ∧ (∀ (C M : qC) (r : Nat × Nat × Nat) (f : Nat → Int32), qsI (wd C M r) 146 f = wd C (yA M 146 f) r) ∧ (∀ (C M : qC) (r : Nat × Nat × Nat) (f : Nat → Int32), qsI (wd C M r) 147 f = wd C (yA M 147 f) r) ∧ (∀ (C M : qC) (r : Nat × Nat × Nat) (f : Nat → Int32), qsI (wd C M r) 148 f = wd C (yA M 148 f) r) ∧ (∀ (C M : qC) (r : Nat × Nat × Nat) (f : Nat → Int32), qsI (wd C M r) 149 f = wd C (yA M 149 f) r) ∧ (∀ (C M : qC) (r : Nat × Nat × Nat) (f : Nat → Int32), qsI (wd C M r) 150 f = wd C (yA M 150 f) r) ∧ (∀ (C M : qC) (r : Nat × Nat × Nat) (f : Nat → Int32), qsI (wd C M r) 151 f = wd C (yA M 151 f) r) ∧ (∀ (C M : qC) (r : Nat × Nat × Nat) (f : Nat → Int32), qsI (wd C M r) 152 f = wd C (yA M 152 f) r) ∧ (∀ (C M : qC) (r : Nat × Nat × Nat) (f : Nat → Int32), qsI (wd C M r) 153 f = wd C (yA M 153 f) r) ∧ (∀ (C M : qC) (r : Nat × Nat × Nat) (f : Nat → Int32), qsI (wd C M r) 154 f = wd C (yA M 154 f) r) ∧ (∀ (C M : qC) (r : Nat × Nat × Nat) (f : Nat → Int32), qsI (wd C M r) 155 f = wd C (yA M 155 f) r) ∧ (∀ (C M : qC) (r : Nat × Nat × Nat) (f : Nat → Int32), qsI (wd C M r) 156 f = wd C (yA M 156 f) r) ∧ (∀ (C M : qC) (r : Nat × Nat × Nat) (f : Nat → Int32), qsI (wd C M r) 157 f = wd C (yA M 157 f) r) ∧ (∀ (C M : qC) (r : Nat × Nat × Nat) (f : Nat → Int32), qsI (wd C M r) 158 f = wd C (yA M 158 f) r) ∧ (∀ (C M : qC) (r : Nat × Nat × Nat) (f : Nat → Int32), qsI (wd C M r) 159 f = wd C (yA M 159 f) r) ∧ (∀ (C M : qC) (r : Nat × Nat × Nat) (f : Nat → Int32), qsI (wd C M r) 160 f = wd C (yA M 160 f) r) ∧ (∀ (C M : qC) (r : Nat × Nat × Nat) (f : Nat → Int32), qsI (wd C M r) 161 f = wd C (yA M 161 f) r) ∧ (∀ (C M : qC) (r : Nat × Nat × Nat) (f : Nat → Int32), qsI (wd C M r) 162 f = wd C (yA M 162 f) r) ∧ (∀ (C M : qC) (r : Nat × Nat × Nat) (f : Nat → Int32), qsI (wd C M r) 163 f = wd C (yA M 163 f) r) ∧ (∀ (C M : qC) (r : Nat × Nat × Nat) (f : Nat → Int32), qsI (wd C M r) 164 f = wd C (yA M 164 f) r) := ⟨qwM_0, qwM_1, qwM_2, qwM_3, qwM_4, qwM_5, qwM_6, qwM_7, qwM_8, qwM_9, qwM_10, qwM_11, qwM_12, qwM_13, qwM_14, qwM_15, qwM_16, qwM_17, qwM_18, qwM_19, qwM_20, qwM_21, qwM_22, qwM_23, qwM_24, qwM_25, qwM_26, qwM_27, qwM_28, qwM_29, qwM_30, qwM_31, qwM_32, qwM_33, qwM_34, qwM_35, qwM_36, qwM_37, qwM_38, qwM_39, qwM_40, qwM_41, qwM_42, qwM_43, qwM_44, qwM_45, qwM_46, qwM_47, qwM_48, qwM_49, qwM_50, qwM_51, qwM_52, qwM_53, qwM_54, qwM_55, qwM_56, qwM_57, qwM_58, qwM_59, qwM_60, qwM_61, qwM_62, qwM_63, qwM_64, qwM_65, qwM_66, qwM_67, qwM_68, qwM_69, qwM_70, qwM_71, qwM_72, qwM_73, qwM_74, qwM_75, qwM_76, qwM_77, qwM_78, qwM_79, qwM_80, qwM_81, qwM_82, qwM_83, qwM_84, qwM_85, qwM_86, qwM_87, qwM_88, qwM_89, qwM_90, qwM_91, qwM_92, qwM_93, qwM_94, qwM_95, qwM_96, qwM_97, qwM_98, qwM_99, qwM_100, qwM_101, qwM_102, qwM_103, qwM_104, qwM_105, qwM_106⟩
theorem qev : (∀ (a : Option Value) (l : qL), (a :: l)[0]? = some a) ∧ (∀ (a : Option Value) (l : qL) (i : Nat), (a :: l)[i + 1]? = l[i]?) ∧ (∀ (a b : Option Value) (l : qL), (a :: l).set 0 b = b :: l) ∧ (∀ (a b : Option Value) (l : qL) (i : Nat), (a :: l).set (i + 1) b = a :: l.set i b) ∧
    (∀ (p : Prop), (True ∧ p) = p) ∧ (∀ p : Prop, (p ∧ True) = p) ∧ (∀ (v : Value) (l : List Value), (some v).toList ++ l = v :: l) ∧ (∀ l : List Value, (none : Option Value).toList ++ l = l) ∧ (∀ n : Nat, (n ≤ n) = True) ∧ (∀ n : Nat, (0 ≤ n) = True) := by
  refine ⟨?_, ?_, ?_, ?_, ?_, ?_, ?_, ?_, ?_, ?_⟩ <;> intros <;> simp

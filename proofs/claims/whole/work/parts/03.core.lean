abbrev qW : Type := Nat × (Nat → Option va_E)
abbrev qL : Type := List (Option Value)
abbrev qM : Type := MethodName × ByteArray × Nat × Option FieldType
abbrev qZ : Type := Nat × Nat
/-- a place as an address; the script's reference is the one of z -/
def qv (z : qZ) (v : Value) : Value := match v with
  | .ref p => .ref (z.1 + p)
  | .retAddr _ => .ref z.2
  | v => v
def qe (cA : Nat → ClassId) (z : qZ) (e : va_E) : va_E := match e with
  | .inl (t, n, .inr (.inr (.inr (.inr f)))) => .inl (cA t, n, .inr (.inr (.inr (.inr (fun j => (f j).map (z.1 + ·))))))
  | .inl (t, x) => .inl (cA t, x)
  | .inr (ci, fs) => .inr (ci, fs.map (qv z))
def qT (cA : Nat → ClassId) : List (ClassId × FieldType) := [(cA 0, .int), (cA 1, .boolean), (cA 2, .long), (cA 3, .object "SealLine$FileSet")]
/-- the heap holds the world w, and ends with it -/
def qH (D : va_G) (cA : Nat → ClassId) (z : qZ) (w : qW) (H : Heap) : Prop := H.size = z.1 + w.1 ∧ ∀ p c, w.2 p = some c → va_at D vwCl (z.1 + p, qe cA z c) H
def qg : List Cond := lw_tbl.filter goodWord
theorem qg_mem {w : Cond} (h : w ∈ lw_tbl) (hg : goodWord w = true) : w ∈ qg := List.mem_filter.mpr ⟨h, hg⟩
theorem qg_good : GoodIn qg qg := fun w h => ⟨h, good_of_word (List.mem_filter.mp h).2⟩
def qnest : List (String × Nat × MethodName × String) := lw_tbl.filterMap (fun w => match w with | .methodLinkNest a i y h => some (a, i, y, h) | _ => none)
def qNx (U : State) : Prop := (∀ q ∈ qnest, va_Nw (.methodLinkNest q.1 q.2.1 q.2.2.1 q.2.2.2) U) ∧ va_AO "SealLine$FileSet" U
def qSc (sc : Option (Nat × (Nat → Int32))) (z : qZ) (s : State) : Prop := match sc with
  | none => True
  | some (n, xs) => va_X z.2 n xs s s.heap ∧ z.2 < s.heap.size ∧ z.2 < z.1
abbrev qG : Type := qM × Nat × Nat × Nat × Option (Nat × (Nat → Int32)) × (Option Value → qW → Prop)
def qA (z : qZ) : Nat → Prop := fun q => z.1 ≤ q
def qX (g : qG) (p : Program) (R : Room) (s : State) (m : MethodId) (args : Array Value) (meth : Method) (c : Code) (D : va_G) (cA : Nat → ClassId) (z : qZ) : Prop :=
  p.tables.exec = Jvm.exec ∧ c.code = g.1.2.1 ∧ c.maxLocals = g.1.2.2.1 ∧ s.vm.findClass g.1.1.cls = some m.cls ∧ (∀ w ∈ qg, w.before args s = true) ∧ va_K D vwCl (qT cA) s ∧ qNx s ∧ meth.sig.returnType = g.1.2.2.2 ∧ meth.locks = false ∧ meth.name = g.1.1.name ∧ z.1 ≤ s.heap.size ∧ (g.2.1 ≤ R.frames ∧ g.2.2.1 ≤ R.cells ∧ g.2.2.2.1 ≤ R.slots ∧ 50 * g.2.1 ≤ R.locals) ∧ qSc g.2.2.2.2.1 z s
def qQ (D : va_G) (cA : Nat → ClassId) (z : qZ) (Q : Option Value → qW → Prop) : Array Value → State → Outcome → State → Prop := fun _ st oc t => (∃ (r : Option Value) (w : qW), oc = .returned (r.map (qv z)) ∧ Q r w ∧ qH D cA z w t.heap) ∧ va_F (qA z) st t
def qP (z : qZ) (L : qL) : List (Nat × Value) := (List.range L.length).filterMap (fun i => match L[i]? with | some (some v) => some (i, qv z v) | _ => none)
theorem qP_mem {z : qZ} {L : qL} {q : Nat × Value} : q ∈ qP z L ↔ ∃ v, L[q.1]? = some (some v) ∧ q.2 = qv z v := by
  unfold qP
  rw [List.mem_filterMap]
  constructor
  · rintro ⟨i, -, hi⟩
    split at hi
    · rename_i v hv
      cases hi
      exact ⟨v, hv, rfl⟩
    · cases hi
  · rintro ⟨v, hv, e⟩
    have hl : q.1 < L.length := (List.getElem?_eq_some_iff.mp hv).1
    refine ⟨q.1, List.mem_range.mpr hl, ?_⟩
    rw [hv]
    obtain ⟨a, b⟩ := q
    simp only at e
    rw [e]
def qR (z : qZ) (ls : Array Slot) (nL : Nat) (L : qL) : Prop := lv_has ls nL (qP z L)
theorem qR.at {z : qZ} {ls : Array Slot} {nL : Nat} {L : qL} (h : qR z ls nL L) {i : Nat} {v : Value} (hv : L[i]? = some (some v)) : ls[i]? = some (.val (qv z v)) := h.2.2 (i, qv z v) (qP_mem.mpr ⟨v, hv, rfl⟩)
theorem qR.sub {z : qZ} {ls : Array Slot} {nL : Nat} {L : qL} {l : List (Nat × Value)} (h : lv_has ls nL l) (hs : ∀ i v, L[i]? = some (some v) → (i, qv z v) ∈ l) : qR z ls nL L := ⟨h.1, h.2.1, fun q hq => by
  obtain ⟨v, hv, e⟩ := qP_mem.mp hq
  obtain ⟨a, b⟩ := q
  simp only at e hv
  rw [e]
  exact h.2.2 _ (hs a v hv)⟩
abbrev qK : Type := qL → List Value → qW → Nat → Nat → Prop
/-- from here (pc, locals, stack, world; cells and slots made) the method comes to its end with its post -/
def AW (g : qG) (pc : Nat) : qK := fun L st w kc ks =>
  ∀ (p : Program) (l : Launch) (e : Env) (R : Room) (s : State) (m : MethodId) (args : Array Value) (below : List Frame) (meth : Method) (c : Code) (D : va_G) (cA : Nat → ClassId) (z : qZ) (H : Heap) (locs : List Loc) (ls : Array Slot),
    qX g p R s m args meth c D cA z → qH D cA z w H → va_S (qA z) s.heap H locs → qR z ls g.1.2.2.1 L →
    W p l e R s m args below meth c H locs kc ks (MQ below (qQ D cA z g.2.2.2.2.2) args s g.2.2.1 g.2.2.2.1 (qA z)) (F0 m pc ls (st.map (qv z)))
def qImp (K K' : qK) : Prop := ∀ L st w kc ks, K L st w kc ks → K' L st w kc ks
theorem qImp.rf {K : qK} : qImp K K := fun _ _ _ _ _ h => h
def qbr (c A B : Prop) : Prop := (c → A) ∧ (¬ c → B)
theorem qbr_i {c A B : Prop} (a : c → A) (b : ¬ c → B) : qbr c A B := ⟨a, b⟩
theorem qbr_t {c A B : Prop} (h : c) (a : A) : qbr c A B := ⟨fun _ => a, fun n => absurd h n⟩
theorem qbr_f {c A B : Prop} (h : ¬ c) (b : B) : qbr c A B := ⟨fun n => absurd n h, fun _ => b⟩
/-! the world's reads and writes -/
def qgF (w : qW) (p ci k : Nat) : Option Value := match w.2 p with
  | some (.inr (c, fs)) => if c = ci then fs[k]? else none
  | _ => none
def qsF (w : qW) (p k : Nat) (v : Value) : qW := (w.1, fun q => if q = p then (match w.2 p with | some (.inr (c, fs)) => some (.inr (c, fs.set k v)) | x => x) else w.2 q)
def qgI (w : qW) (p t : Nat) : Option (Nat × (Nat → Int32)) := match w.2 p with
  | some (.inl (t', n, .inl f)) => if t' = t then some (n, f) else none
  | _ => none
def qsI (w : qW) (p : Nat) (f : Nat → Int32) : qW := (w.1, fun q => if q = p then (match w.2 p with | some (.inl (t, n, .inl _)) => some (.inl (t, n, .inl f)) | x => x) else w.2 q)
def qgL (w : qW) (p : Nat) : Option (Nat × (Nat → Int64)) := match w.2 p with
  | some (.inl (t', n, .inr (.inl f))) => if t' = 2 then some (n, f) else none
  | _ => none
def qsL (w : qW) (p : Nat) (f : Nat → Int64) : qW := (w.1, fun q => if q = p then (match w.2 p with | some (.inl (t, n, .inr (.inl _))) => some (.inl (t, n, .inr (.inl f))) | x => x) else w.2 q)
def qgR (w : qW) (p : Nat) : Option (Nat × (Nat → Option Nat)) := match w.2 p with
  | some (.inl (t', n, .inr (.inr (.inr (.inr f))))) => if t' = 3 then some (n, f) else none
  | _ => none
def qsR (w : qW) (p : Nat) (f : Nat → Option Nat) : qW := (w.1, fun q => if q = p then (match w.2 p with | some (.inl (t, n, .inr (.inr (.inr (.inr _))))) => some (.inl (t, n, .inr (.inr (.inr (.inr f))))) | x => x) else w.2 q)
def qpu (w : qW) (c : va_E) : qW := (w.1 + 1, fun q => if q = w.1 then some c else w.2 q)
theorem qgF_s {w : qW} {p ci k : Nat} {v : Value} (h : qgF w p ci k = some v) : ∃ fs, w.2 p = some (.inr (ci, fs)) ∧ fs[k]? = some v := by
  unfold qgF at h
  split at h
  · rename_i c fs hw
    by_cases hc : c = ci
    · rw [if_pos hc] at h
      exact ⟨fs, by rw [hw, hc], h⟩
    · rw [if_neg hc] at h
      cases h
  · cases h
theorem qgI_s {w : qW} {p t n : Nat} {f : Nat → Int32} (h : qgI w p t = some (n, f)) : w.2 p = some (.inl (t, n, .inl f)) := by
  unfold qgI at h
  split at h
  · rename_i t' n' f' hw
    by_cases hc : t' = t
    · rw [if_pos hc] at h
      cases h
      rw [hw, hc]
    · rw [if_neg hc] at h
      cases h
  · cases h
theorem qgL_s {w : qW} {p n : Nat} {f : Nat → Int64} (h : qgL w p = some (n, f)) : w.2 p = some (.inl (2, n, .inr (.inl f))) := by
  unfold qgL at h
  split at h
  · rename_i t' n' f' hw
    by_cases hc : t' = 2
    · rw [if_pos hc] at h
      cases h
      rw [hw, hc]
    · rw [if_neg hc] at h
      cases h
  · cases h
theorem qgR_s {w : qW} {p n : Nat} {f : Nat → Option Nat} (h : qgR w p = some (n, f)) : w.2 p = some (.inl (3, n, .inr (.inr (.inr (.inr f))))) := by
  unfold qgR at h
  split at h
  · rename_i t' n' f' hw
    by_cases hc : t' = 3
    · rw [if_pos hc] at h
      cases h
      rw [hw, hc]
    · rw [if_neg hc] at h
      cases h
  · cases h
/-- one cell anew: the heap holds the world with it -/
theorem qH.up {D : va_G} {cA : Nat → ClassId} {z : qZ} {w w' : qW} {H H1 : Heap} {p : Nat} {c' : va_E} (h : qH D cA z w H) (h1 : w'.1 = w.1) (hp : w'.2 p = some c') (hq : ∀ q, q ≠ p → w'.2 q = w.2 q)
    (hz : H1.size = H.size) (ha : va_at D vwCl (z.1 + p, qe cA z c') H1) (ho : ∀ q : Nat, q ≠ z.1 + p → H1[q]? = H[q]?) : qH D cA z w' H1 := by
  refine ⟨by rw [hz, h.1, h1], fun q c hc => ?_⟩
  by_cases e : q = p
  · subst e
    rw [hp] at hc
    cases hc
    exact ha
  · rw [hq q e] at hc
    exact (h.2 q c hc).kept (ho _ (by show z.1 + q ≠ z.1 + p; omega))
theorem qH.push {D : va_G} {cA : Nat → ClassId} {z : qZ} {w : qW} {H H1 : Heap} {c' : va_E} (h : qH D cA z w H) (hz : H1.size = H.size + 1) (ha : va_at D vwCl (z.1 + w.1, qe cA z c') H1) (ho : ∀ q : Nat, q < H.size → H1[q]? = H[q]?) : qH D cA z (qpu w c') H1 := by
  refine ⟨by rw [hz, h.1]; rfl, fun q c hc => ?_⟩
  by_cases e : q = w.1
  · subst e
    simp only [qpu, if_true] at hc
    cases hc
    exact ha
  · simp only [qpu, if_neg e] at hc
    exact (h.2 q c hc).kept (ho _ (h.2 q c hc).lt)
theorem qA_in {z : qZ} (p : Nat) : qA z (z.1 + p) := Nat.le_add_right _ _

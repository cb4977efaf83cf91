def s_iconst (v : Int32) (K : qK) : qK := fun L st w kc ks => K L (.int v :: st) w kc ks
def s_lconst (v : Int64) (K : qK) : qK := fun L st w kc ks => K L (.long v :: st) w kc ks
theorem r_iconst {g : qG} {pc : Nat} {K : qK} {n : Int} {v : Int32} (hd : decode g.1.2.1 pc = .ok (.iconst n, 1)) (hv : Int32.ofInt n = v) (h : qImp K (AW g (pc + 1))) : qImp (s_iconst v K) (AW g pc) := by
  intro L st w kc ks hK p l e R s m args below meth c D cA z H locs ls X hH hS hL
  exact lv_iconst X.1 X.2.1 hd hv (h L _ w kc ks hK p l e R s m args below meth c D cA z H locs ls X hH hS hL)
theorem r_bipush {g : qG} {pc : Nat} {K : qK} {n : Int} {v : Int32} (hd : decode g.1.2.1 pc = .ok (.bipush n, 2)) (hv : (Int8.ofInt n).toInt32 = v) (h : qImp K (AW g (pc + 2))) : qImp (s_iconst v K) (AW g pc) := by
  intro L st w kc ks hK p l e R s m args below meth c D cA z H locs ls X hH hS hL
  exact lv_bipush X.1 X.2.1 hd hv (h L _ w kc ks hK p l e R s m args below meth c D cA z H locs ls X hH hS hL)
theorem r_sipush {g : qG} {pc : Nat} {K : qK} {n : Int} {v : Int32} (hd : decode g.1.2.1 pc = .ok (.sipush n, 3)) (hv : (Int16.ofInt n).toInt32 = v) (h : qImp K (AW g (pc + 3))) : qImp (s_iconst v K) (AW g pc) := by
  intro L st w kc ks hK p l e R s m args below meth c D cA z H locs ls X hH hS hL
  exact lv_sipush X.1 X.2.1 hd hv (h L _ w kc ks hK p l e R s m args below meth c D cA z H locs ls X hH hS hL)
theorem r_lconst {g : qG} {pc : Nat} {K : qK} {n : Fin 2} {v : Int64} (hd : decode g.1.2.1 pc = .ok (.lconst n, 1)) (hv : Int64.ofNat (n : Nat) = v) (h : qImp K (AW g (pc + 1))) : qImp (s_lconst v K) (AW g pc) := by
  intro L st w kc ks hK p l e R s m args below meth c D cA z H locs ls X hH hS hL
  exact lv_lconst X.1 X.2.1 hd hv (h L _ w kc ks hK p l e R s m args below meth c D cA z H locs ls X hH hS hL)
theorem r_ldc {g : qG} {pc : Nat} {K : qK} {i : Nat} {v : Int32} (hd : decode g.1.2.1 pc = .ok (.ldc i, 2)) (hc : Cond.constant g.1.1.cls i v ∈ qg) (h : qImp K (AW g (pc + 2))) : qImp (s_iconst v K) (AW g pc) := by
  intro L st w kc ks hK p l e R s m args below meth c D cA z H locs ls X hH hS hL
  exact lv_ldc X.1 X.2.1 X.2.2.2.1 (X.2.2.2.2.1 _ hc) hd (h L _ w kc ks hK p l e R s m args below meth c D cA z H locs ls X hH hS hL)
theorem r_ldcw {g : qG} {pc : Nat} {K : qK} {i : Nat} {v : Int32} (hd : decode g.1.2.1 pc = .ok (.ldc_w i, 3)) (hc : Cond.constant g.1.1.cls i v ∈ qg) (h : qImp K (AW g (pc + 3))) : qImp (s_iconst v K) (AW g pc) := by
  intro L st w kc ks hK p l e R s m args below meth c D cA z H locs ls X hH hS hL
  exact lv_ldcw X.1 X.2.1 X.2.2.2.1 (X.2.2.2.2.1 _ hc) hd (h L _ w kc ks hK p l e R s m args below meth c D cA z H locs ls X hH hS hL)
theorem r_ldc2 {g : qG} {pc : Nat} {K : qK} {i : Nat} {v : Int64} (hd : decode g.1.2.1 pc = .ok (.ldc2_w i, 3)) (hc : Cond.constantLong g.1.1.cls i v ∈ qg) (h : qImp K (AW g (pc + 3))) : qImp (s_lconst v K) (AW g pc) := by
  intro L st w kc ks hK p l e R s m args below meth c D cA z H locs ls X hH hS hL
  exact lv_ldc2 X.1 X.2.1 X.2.2.2.1 (X.2.2.2.2.1 _ hc) hd (h L _ w kc ks hK p l e R s m args below meth c D cA z H locs ls X hH hS hL)
def s_iload (i : Nat) (K : qK) : qK := fun L st w kc ks => match L[i]? with
  | some (some (.int x)) => K L (.int x :: st) w kc ks
  | _ => False
theorem r_iload {g : qG} {pc : Nat} {K : qK} {i : Nat} (hd : decode g.1.2.1 pc = .ok (.iload i, 2)) (h : qImp K (AW g (pc + 2))) : qImp (s_iload i K) (AW g pc) := by
  intro L st w kc ks hK
  unfold s_iload at hK
  split at hK
  · rename_i x hx
    intro p l e R s m args below meth c D cA z H locs ls X hH hS hL
    exact lv_iload X.1 X.2.1 hd (hL.at hx) (h L _ w kc ks hK p l e R s m args below meth c D cA z H locs ls X hH hS hL)
  · exact hK.elim
theorem r_iload_n {g : qG} {pc : Nat} {K : qK} {k : Fin 4} {i : Nat} (hd : decode g.1.2.1 pc = .ok (.iload_n k, 1)) (hi : (k : Nat) = i) (h : qImp K (AW g (pc + 1))) : qImp (s_iload i K) (AW g pc) := by
  intro L st w kc ks hK
  unfold s_iload at hK
  split at hK
  · rename_i x hx
    intro p l e R s m args below meth c D cA z H locs ls X hH hS hL
    exact lv_iload_n X.1 X.2.1 hd hi (hL.at hx) (h L _ w kc ks hK p l e R s m args below meth c D cA z H locs ls X hH hS hL)
  · exact hK.elim
def s_lload (i : Nat) (K : qK) : qK := fun L st w kc ks => match L[i]? with
  | some (some (.long x)) => K L (.long x :: st) w kc ks
  | _ => False
theorem r_lload {g : qG} {pc : Nat} {K : qK} {i : Nat} (hd : decode g.1.2.1 pc = .ok (.lload i, 2)) (h : qImp K (AW g (pc + 2))) : qImp (s_lload i K) (AW g pc) := by
  intro L st w kc ks hK
  unfold s_lload at hK
  split at hK
  · rename_i x hx
    intro p l e R s m args below meth c D cA z H locs ls X hH hS hL
    exact lv_lload X.1 X.2.1 hd (hL.at hx) (h L _ w kc ks hK p l e R s m args below meth c D cA z H locs ls X hH hS hL)
  · exact hK.elim
theorem r_lload_n {g : qG} {pc : Nat} {K : qK} {k : Fin 4} {i : Nat} (hd : decode g.1.2.1 pc = .ok (.lload_n k, 1)) (hi : (k : Nat) = i) (h : qImp K (AW g (pc + 1))) : qImp (s_lload i K) (AW g pc) := by
  intro L st w kc ks hK
  unfold s_lload at hK
  split at hK
  · rename_i x hx
    intro p l e R s m args below meth c D cA z H locs ls X hH hS hL
    exact lv_lload_n X.1 X.2.1 hd hi (hL.at hx) (h L _ w kc ks hK p l e R s m args below meth c D cA z H locs ls X hH hS hL)
  · exact hK.elim
def s_aload (i : Nat) (K : qK) : qK := fun L st w kc ks => match L[i]? with
  | some (some (.ref x)) => K L (.ref x :: st) w kc ks
  | some (some (.retAddr x)) => K L (.retAddr x :: st) w kc ks
  | _ => False
theorem r_aload {g : qG} {pc : Nat} {K : qK} {i : Nat} (hd : decode g.1.2.1 pc = .ok (.aload i, 2)) (h : qImp K (AW g (pc + 2))) : qImp (s_aload i K) (AW g pc) := by
  intro L st w kc ks hK
  unfold s_aload at hK
  split at hK
  · rename_i x hx
    intro p l e R s m args below meth c D cA z H locs ls X hH hS hL
    exact lv_aload X.1 X.2.1 hd (hL.at hx) (h L _ w kc ks hK p l e R s m args below meth c D cA z H locs ls X hH hS hL)
  · rename_i x hx
    intro p l e R s m args below meth c D cA z H locs ls X hH hS hL
    exact lv_aload X.1 X.2.1 hd (hL.at hx) (h L _ w kc ks hK p l e R s m args below meth c D cA z H locs ls X hH hS hL)
  · exact hK.elim
theorem r_aload_n {g : qG} {pc : Nat} {K : qK} {k : Fin 4} {i : Nat} (hd : decode g.1.2.1 pc = .ok (.aload_n k, 1)) (hi : (k : Nat) = i) (h : qImp K (AW g (pc + 1))) : qImp (s_aload i K) (AW g pc) := by
  intro L st w kc ks hK
  unfold s_aload at hK
  split at hK
  · rename_i x hx
    intro p l e R s m args below meth c D cA z H locs ls X hH hS hL
    exact lv_aload_n X.1 X.2.1 hd hi (hL.at hx) (h L _ w kc ks hK p l e R s m args below meth c D cA z H locs ls X hH hS hL)
  · rename_i x hx
    intro p l e R s m args below meth c D cA z H locs ls X hH hS hL
    exact lv_aload_n X.1 X.2.1 hd hi (hL.at hx) (h L _ w kc ks hK p l e R s m args below meth c D cA z H locs ls X hH hS hL)
  · exact hK.elim
def qnl (L : qL) (i j : Nat) : Prop := ∀ v, j + 1 = i → L[j]? = some (some v) → v.category = 1
def qnb (L : qL) (j : Nat) : Bool := match L[j]? with
  | some (some (.long _)) => false
  | some (some (.double _)) => false
  | _ => true
theorem qv_cat (z : qZ) (v : Value) : (qv z v).category = v.category := by cases v <;> rfl
theorem qnb_s {L : qL} {j : Nat} (h : qnb L j = true) {v : Value} (hv : L[j]? = some (some v)) : v.category = 1 := by
  unfold qnb at h
  rw [hv] at h
  cases v <;> first | rfl | cases h
theorem qR.set1 {z : qZ} {ls' : Array Slot} {nL : Nat} {L : qL} {i j : Nat} {v : Value} (hj : i = 0 ∨ i = j + 1) (hn : qnb L j = true) (h : lv_has ls' nL ((i, qv z v) :: (qP z L).filter (fun q => !(q.1 == i) && !(q.1 + 1 == i && q.2.category == 2)))) : qR z ls' nL (L.set i (some v)) := by
  refine qR.sub h fun a u hu => ?_
  rw [List.getElem?_set] at hu
  by_cases e : i = a
  · subst e
    rw [if_pos rfl] at hu
    split at hu
    · cases hu
      exact List.mem_cons_self
    · cases hu
  · rw [if_neg e] at hu
    refine List.mem_cons_of_mem _ (List.mem_filter.mpr ⟨qP_mem.mpr ⟨u, hu, rfl⟩, ?_⟩)
    have h1 : (a == i) = false := by simpa using fun q => e q.symm
    have h2 : (a + 1 == i && (qv z u).category == 2) = false := by
      by_cases q : a + 1 = i
      · have : a = j := by omega
        subst this
        rw [qv_cat, qnb_s hn hu]
        simp
      · simp [q]
    simp only [h1, h2]
    rfl
theorem qR.set2 {z : qZ} {ls' : Array Slot} {nL : Nat} {L : qL} {i j : Nat} {v : Value} (hj : i = 0 ∨ i = j + 1) (hn : qnb L j = true) (h : lv_has ls' nL ((i, qv z v) :: (qP z L).filter (fun q => !(q.1 == i) && (!(q.1 == i + 1) && !(q.1 + 1 == i && q.2.category == 2))))) : qR z ls' nL ((L.set i (some v)).set (i + 1) none) := by
  refine qR.sub h fun a u hu => ?_
  rw [List.getElem?_set] at hu
  by_cases e1 : i + 1 = a
  · rw [if_pos e1] at hu
    split at hu <;> cases hu
  rw [if_neg e1, List.getElem?_set] at hu
  by_cases e : i = a
  · subst e
    rw [if_pos rfl] at hu
    split at hu
    · cases hu
      exact List.mem_cons_self
    · cases hu
  · rw [if_neg e] at hu
    refine List.mem_cons_of_mem _ (List.mem_filter.mpr ⟨qP_mem.mpr ⟨u, hu, rfl⟩, ?_⟩)
    have h1 : (a == i) = false := by simpa using fun q => e q.symm
    have h3 : (a == i + 1) = false := by simpa using fun q => e1 q.symm
    have h2 : (a + 1 == i && (qv z u).category == 2) = false := by
      by_cases q : a + 1 = i
      · have : a = j := by omega
        subst this
        rw [qv_cat, qnb_s hn hu]
        simp
      · simp [q]
    simp only [h1, h2, h3]
    rfl
def s_istore (i j : Nat) (K : qK) : qK := fun L st w kc ks => match st with
  | .int x :: st => qnb L j = true ∧ K (L.set i (some (.int x))) st w kc ks
  | _ => False
theorem r_istore {g : qG} {pc : Nat} {K : qK} {i j : Nat} (hd : decode g.1.2.1 pc = .ok (.istore i, 2)) (hj : i = 0 ∨ i = j + 1) (hn : i < g.1.2.2.1) (h : qImp K (AW g (pc + 2))) : qImp (s_istore i j K) (AW g pc) := by
  intro L st w kc ks hK
  unfold s_istore at hK
  split at hK
  · rename_i x st
    intro p l e R s m args below meth c D cA z H locs ls X hH hS hL
    exact lv_istore X.1 X.2.1 hd hL hn rfl (fun ls' hl' => h _ _ w kc ks hK.2 p l e R s m args below meth c D cA z H locs ls' X hH hS (qR.set1 hj hK.1 hl'))
  · exact hK.elim
theorem r_istore_n {g : qG} {pc : Nat} {K : qK} {k : Fin 4} {i j : Nat} (hd : decode g.1.2.1 pc = .ok (.istore_n k, 1)) (hi : (k : Nat) = i) (hj : i = 0 ∨ i = j + 1) (hn : i < g.1.2.2.1) (h : qImp K (AW g (pc + 1))) : qImp (s_istore i j K) (AW g pc) := by
  intro L st w kc ks hK
  unfold s_istore at hK
  split at hK
  · rename_i x st
    intro p l e R s m args below meth c D cA z H locs ls X hH hS hL
    exact lv_istore_n X.1 X.2.1 hd hi hL hn rfl (fun ls' hl' => h _ _ w kc ks hK.2 p l e R s m args below meth c D cA z H locs ls' X hH hS (qR.set1 hj hK.1 hl'))
  · exact hK.elim
def s_astore (i j : Nat) (K : qK) : qK := fun L st w kc ks => match st with
  | .ref x :: st => qnb L j = true ∧ K (L.set i (some (.ref x))) st w kc ks
  | _ => False
theorem r_astore {g : qG} {pc : Nat} {K : qK} {i j : Nat} (hd : decode g.1.2.1 pc = .ok (.astore i, 2)) (hj : i = 0 ∨ i = j + 1) (hn : i < g.1.2.2.1) (h : qImp K (AW g (pc + 2))) : qImp (s_astore i j K) (AW g pc) := by
  intro L st w kc ks hK
  unfold s_astore at hK
  split at hK
  · rename_i x st
    intro p l e R s m args below meth c D cA z H locs ls X hH hS hL
    exact lv_astore X.1 X.2.1 hd hL hn rfl (fun ls' hl' => h _ _ w kc ks hK.2 p l e R s m args below meth c D cA z H locs ls' X hH hS (qR.set1 hj hK.1 hl'))
  · exact hK.elim
theorem r_astore_n {g : qG} {pc : Nat} {K : qK} {k : Fin 4} {i j : Nat} (hd : decode g.1.2.1 pc = .ok (.astore_n k, 1)) (hi : (k : Nat) = i) (hj : i = 0 ∨ i = j + 1) (hn : i < g.1.2.2.1) (h : qImp K (AW g (pc + 1))) : qImp (s_astore i j K) (AW g pc) := by
  intro L st w kc ks hK
  unfold s_astore at hK
  split at hK
  · rename_i x st
    intro p l e R s m args below meth c D cA z H locs ls X hH hS hL
    exact lv_astore_n X.1 X.2.1 hd hi hL hn rfl (fun ls' hl' => h _ _ w kc ks hK.2 p l e R s m args below meth c D cA z H locs ls' X hH hS (qR.set1 hj hK.1 hl'))
  · exact hK.elim
def s_lstore (i j : Nat) (K : qK) : qK := fun L st w kc ks => match st with
  | .long x :: st => qnb L j = true ∧ K ((L.set i (some (.long x))).set (i + 1) none) st w kc ks
  | _ => False
theorem r_lstore {g : qG} {pc : Nat} {K : qK} {i j : Nat} (hd : decode g.1.2.1 pc = .ok (.lstore i, 2)) (hj : i = 0 ∨ i = j + 1) (hn : i + 1 < g.1.2.2.1) (h : qImp K (AW g (pc + 2))) : qImp (s_lstore i j K) (AW g pc) := by
  intro L st w kc ks hK
  unfold s_lstore at hK
  split at hK
  · rename_i x st
    intro p l e R s m args below meth c D cA z H locs ls X hH hS hL
    exact lv_lstore X.1 X.2.1 hd hL hn rfl (fun ls' hl' => h _ _ w kc ks hK.2 p l e R s m args below meth c D cA z H locs ls' X hH hS (qR.set2 hj hK.1 hl'))
  · exact hK.elim
theorem r_lstore_n {g : qG} {pc : Nat} {K : qK} {k : Fin 4} {i j : Nat} (hd : decode g.1.2.1 pc = .ok (.lstore_n k, 1)) (hi : (k : Nat) = i) (hj : i = 0 ∨ i = j + 1) (hn : i + 1 < g.1.2.2.1) (h : qImp K (AW g (pc + 1))) : qImp (s_lstore i j K) (AW g pc) := by
  intro L st w kc ks hK
  unfold s_lstore at hK
  split at hK
  · rename_i x st
    intro p l e R s m args below meth c D cA z H locs ls X hH hS hL
    exact lv_lstore_n X.1 X.2.1 hd hi hL hn rfl (fun ls' hl' => h _ _ w kc ks hK.2 p l e R s m args below meth c D cA z H locs ls' X hH hS (qR.set2 hj hK.1 hl'))
  · exact hK.elim
theorem qP_at {z : qZ} {L : qL} {i : Nat} {v : Value} (h : L[i]? = some (some v)) : ∃ k : Nat, (qP z L)[k]? = some (i, qv z v) := List.mem_iff_getElem?.mp (qP_mem.mpr ⟨v, h, rfl⟩)
def s_iinc (i j : Nat) (v : Int32) (K : qK) : qK := fun L st w kc ks => match L[i]? with
  | some (some (.int x)) => qnb L j = true ∧ K (L.set i (some (.int (x + v)))) st w kc ks
  | _ => False
theorem r_iinc {g : qG} {pc : Nat} {K : qK} {i j : Nat} {n : Int} {v : Int32} (hd : decode g.1.2.1 pc = .ok (.iinc i n, 3)) (hv : Int32.ofInt n = v) (hj : i = 0 ∨ i = j + 1) (hn : i < g.1.2.2.1) (h : qImp K (AW g (pc + 3))) : qImp (s_iinc i j v K) (AW g pc) := by
  intro L st w kc ks hK
  unfold s_iinc at hK
  split at hK
  · rename_i x hx
    intro p l e R s m args below meth c D cA z H locs ls X hH hS hL
    obtain ⟨k, hk⟩ := qP_at (z := z) hx
    exact lv_iinc (x := x) (v := x + v) X.1 X.2.1 hd hL hk (by rw [hv]) hn rfl (fun ls' hl' => h _ st w kc ks hK.2 p l e R s m args below meth c D cA z H locs ls' X hH hS (qR.set1 (v := .int (x + v)) hj hK.1 hl'))
  · exact hK.elim
def s_iadd (K : qK) : qK := fun L st w kc ks => match st with
  | .int y :: .int x :: st => K L (.int (x + y) :: st) w kc ks
  | _ => False
theorem r_iadd {g : qG} {pc : Nat} {K : qK}  (hd : decode g.1.2.1 pc = .ok (.iadd, 1)) (h : qImp K (AW g (pc + 1))) : qImp (s_iadd K) (AW g pc) := by
  intro L st w kc ks hK
  unfold s_iadd at hK
  split at hK
  · intro p l e R s m args below meth c D cA z H locs ls X hH hS hL
    exact lv_iadd X.1 X.2.1 hd (h L _ w kc ks hK p l e R s m args below meth c D cA z H locs ls X hH hS hL)
  · exact hK.elim
def s_isub (K : qK) : qK := fun L st w kc ks => match st with
  | .int y :: .int x :: st => K L (.int (x - y) :: st) w kc ks
  | _ => False
theorem r_isub {g : qG} {pc : Nat} {K : qK}  (hd : decode g.1.2.1 pc = .ok (.isub, 1)) (h : qImp K (AW g (pc + 1))) : qImp (s_isub K) (AW g pc) := by
  intro L st w kc ks hK
  unfold s_isub at hK
  split at hK
  · intro p l e R s m args below meth c D cA z H locs ls X hH hS hL
    exact lv_isub X.1 X.2.1 hd (h L _ w kc ks hK p l e R s m args below meth c D cA z H locs ls X hH hS hL)
  · exact hK.elim
def s_imul (K : qK) : qK := fun L st w kc ks => match st with
  | .int y :: .int x :: st => K L (.int (x * y) :: st) w kc ks
  | _ => False
theorem r_imul {g : qG} {pc : Nat} {K : qK}  (hd : decode g.1.2.1 pc = .ok (.imul, 1)) (h : qImp K (AW g (pc + 1))) : qImp (s_imul K) (AW g pc) := by
  intro L st w kc ks hK
  unfold s_imul at hK
  split at hK
  · intro p l e R s m args below meth c D cA z H locs ls X hH hS hL
    exact lv_imul X.1 X.2.1 hd (h L _ w kc ks hK p l e R s m args below meth c D cA z H locs ls X hH hS hL)
  · exact hK.elim
def s_iand (K : qK) : qK := fun L st w kc ks => match st with
  | .int y :: .int x :: st => K L (.int (x &&& y) :: st) w kc ks
  | _ => False
theorem r_iand {g : qG} {pc : Nat} {K : qK}  (hd : decode g.1.2.1 pc = .ok (.iand, 1)) (h : qImp K (AW g (pc + 1))) : qImp (s_iand K) (AW g pc) := by
  intro L st w kc ks hK
  unfold s_iand at hK
  split at hK
  · intro p l e R s m args below meth c D cA z H locs ls X hH hS hL
    exact lv_iand X.1 X.2.1 hd (h L _ w kc ks hK p l e R s m args below meth c D cA z H locs ls X hH hS hL)
  · exact hK.elim
def s_ior (K : qK) : qK := fun L st w kc ks => match st with
  | .int y :: .int x :: st => K L (.int (x ||| y) :: st) w kc ks
  | _ => False
theorem r_ior {g : qG} {pc : Nat} {K : qK}  (hd : decode g.1.2.1 pc = .ok (.ior, 1)) (h : qImp K (AW g (pc + 1))) : qImp (s_ior K) (AW g pc) := by
  intro L st w kc ks hK
  unfold s_ior at hK
  split at hK
  · intro p l e R s m args below meth c D cA z H locs ls X hH hS hL
    exact lv_ior X.1 X.2.1 hd (h L _ w kc ks hK p l e R s m args below meth c D cA z H locs ls X hH hS hL)
  · exact hK.elim
def s_ixor (K : qK) : qK := fun L st w kc ks => match st with
  | .int y :: .int x :: st => K L (.int (x ^^^ y) :: st) w kc ks
  | _ => False
theorem r_ixor {g : qG} {pc : Nat} {K : qK}  (hd : decode g.1.2.1 pc = .ok (.ixor, 1)) (h : qImp K (AW g (pc + 1))) : qImp (s_ixor K) (AW g pc) := by
  intro L st w kc ks hK
  unfold s_ixor at hK
  split at hK
  · intro p l e R s m args below meth c D cA z H locs ls X hH hS hL
    exact lv_ixor X.1 X.2.1 hd (h L _ w kc ks hK p l e R s m args below meth c D cA z H locs ls X hH hS hL)
  · exact hK.elim
def s_ishl (K : qK) : qK := fun L st w kc ks => match st with
  | .int y :: .int x :: st => K L (.int (x <<< (y &&& 31)) :: st) w kc ks
  | _ => False
theorem r_ishl {g : qG} {pc : Nat} {K : qK}  (hd : decode g.1.2.1 pc = .ok (.ishl, 1)) (h : qImp K (AW g (pc + 1))) : qImp (s_ishl K) (AW g pc) := by
  intro L st w kc ks hK
  unfold s_ishl at hK
  split at hK
  · intro p l e R s m args below meth c D cA z H locs ls X hH hS hL
    exact lv_ishl X.1 X.2.1 hd (h L _ w kc ks hK p l e R s m args below meth c D cA z H locs ls X hH hS hL)
  · exact hK.elim
def s_ishr (K : qK) : qK := fun L st w kc ks => match st with
  | .int y :: .int x :: st => K L (.int (x >>> (y &&& 31)) :: st) w kc ks
  | _ => False
theorem r_ishr {g : qG} {pc : Nat} {K : qK}  (hd : decode g.1.2.1 pc = .ok (.ishr, 1)) (h : qImp K (AW g (pc + 1))) : qImp (s_ishr K) (AW g pc) := by
  intro L st w kc ks hK
  unfold s_ishr at hK
  split at hK
  · intro p l e R s m args below meth c D cA z H locs ls X hH hS hL
    exact lv_ishr X.1 X.2.1 hd (h L _ w kc ks hK p l e R s m args below meth c D cA z H locs ls X hH hS hL)
  · exact hK.elim
def s_iushr (K : qK) : qK := fun L st w kc ks => match st with
  | .int y :: .int x :: st => K L (.int ((x.toUInt32 >>> (y.toUInt32 &&& Int32.toUInt32 31)).toInt32) :: st) w kc ks
  | _ => False
theorem r_iushr {g : qG} {pc : Nat} {K : qK}  (hd : decode g.1.2.1 pc = .ok (.iushr, 1)) (h : qImp K (AW g (pc + 1))) : qImp (s_iushr K) (AW g pc) := by
  intro L st w kc ks hK
  unfold s_iushr at hK
  split at hK
  · intro p l e R s m args below meth c D cA z H locs ls X hH hS hL
    exact lv_iushr X.1 X.2.1 hd rfl (h L _ w kc ks hK p l e R s m args below meth c D cA z H locs ls X hH hS hL)
  · exact hK.elim
def s_idiv (K : qK) : qK := fun L st w kc ks => match st with
  | .int y :: .int x :: st => ¬ y = 0 ∧ K L (.int (x / y) :: st) w kc ks
  | _ => False
theorem r_idiv {g : qG} {pc : Nat} {K : qK}  (hd : decode g.1.2.1 pc = .ok (.idiv, 1)) (h : qImp K (AW g (pc + 1))) : qImp (s_idiv K) (AW g pc) := by
  intro L st w kc ks hK
  unfold s_idiv at hK
  split at hK
  · intro p l e R s m args below meth c D cA z H locs ls X hH hS hL
    exact lv_idiv X.1 X.2.1 hd hK.1 (h L _ w kc ks hK.2 p l e R s m args below meth c D cA z H locs ls X hH hS hL)
  · exact hK.elim
def s_irem (K : qK) : qK := fun L st w kc ks => match st with
  | .int y :: .int x :: st => ¬ y = 0 ∧ K L (.int (x - x / y * y) :: st) w kc ks
  | _ => False
theorem r_irem {g : qG} {pc : Nat} {K : qK}  (hd : decode g.1.2.1 pc = .ok (.irem, 1)) (h : qImp K (AW g (pc + 1))) : qImp (s_irem K) (AW g pc) := by
  intro L st w kc ks hK
  unfold s_irem at hK
  split at hK
  · intro p l e R s m args below meth c D cA z H locs ls X hH hS hL
    exact lv_irem X.1 X.2.1 hd hK.1 (h L _ w kc ks hK.2 p l e R s m args below meth c D cA z H locs ls X hH hS hL)
  · exact hK.elim
def s_ladd (K : qK) : qK := fun L st w kc ks => match st with
  | .long y :: .long x :: st => K L (.long (x + y) :: st) w kc ks
  | _ => False
theorem r_ladd {g : qG} {pc : Nat} {K : qK}  (hd : decode g.1.2.1 pc = .ok (.ladd, 1)) (h : qImp K (AW g (pc + 1))) : qImp (s_ladd K) (AW g pc) := by
  intro L st w kc ks hK
  unfold s_ladd at hK
  split at hK
  · intro p l e R s m args below meth c D cA z H locs ls X hH hS hL
    exact lv_ladd X.1 X.2.1 hd (h L _ w kc ks hK p l e R s m args below meth c D cA z H locs ls X hH hS hL)
  · exact hK.elim
def s_lsub (K : qK) : qK := fun L st w kc ks => match st with
  | .long y :: .long x :: st => K L (.long (x - y) :: st) w kc ks
  | _ => False
theorem r_lsub {g : qG} {pc : Nat} {K : qK}  (hd : decode g.1.2.1 pc = .ok (.lsub, 1)) (h : qImp K (AW g (pc + 1))) : qImp (s_lsub K) (AW g pc) := by
  intro L st w kc ks hK
  unfold s_lsub at hK
  split at hK
  · intro p l e R s m args below meth c D cA z H locs ls X hH hS hL
    exact lv_lsub X.1 X.2.1 hd (h L _ w kc ks hK p l e R s m args below meth c D cA z H locs ls X hH hS hL)
  · exact hK.elim
def s_lmul (K : qK) : qK := fun L st w kc ks => match st with
  | .long y :: .long x :: st => K L (.long (x * y) :: st) w kc ks
  | _ => False
theorem r_lmul {g : qG} {pc : Nat} {K : qK}  (hd : decode g.1.2.1 pc = .ok (.lmul, 1)) (h : qImp K (AW g (pc + 1))) : qImp (s_lmul K) (AW g pc) := by
  intro L st w kc ks hK
  unfold s_lmul at hK
  split at hK
  · intro p l e R s m args below meth c D cA z H locs ls X hH hS hL
    exact lv_lmul X.1 X.2.1 hd (h L _ w kc ks hK p l e R s m args below meth c D cA z H locs ls X hH hS hL)
  · exact hK.elim
def s_land (K : qK) : qK := fun L st w kc ks => match st with
  | .long y :: .long x :: st => K L (.long (x &&& y) :: st) w kc ks
  | _ => False
theorem r_land {g : qG} {pc : Nat} {K : qK}  (hd : decode g.1.2.1 pc = .ok (.land, 1)) (h : qImp K (AW g (pc + 1))) : qImp (s_land K) (AW g pc) := by
  intro L st w kc ks hK
  unfold s_land at hK
  split at hK
  · intro p l e R s m args below meth c D cA z H locs ls X hH hS hL
    exact lv_land X.1 X.2.1 hd (h L _ w kc ks hK p l e R s m args below meth c D cA z H locs ls X hH hS hL)
  · exact hK.elim
def s_lor (K : qK) : qK := fun L st w kc ks => match st with
  | .long y :: .long x :: st => K L (.long (x ||| y) :: st) w kc ks
  | _ => False
theorem r_lor {g : qG} {pc : Nat} {K : qK}  (hd : decode g.1.2.1 pc = .ok (.lor, 1)) (h : qImp K (AW g (pc + 1))) : qImp (s_lor K) (AW g pc) := by
  intro L st w kc ks hK
  unfold s_lor at hK
  split at hK
  · intro p l e R s m args below meth c D cA z H locs ls X hH hS hL
    exact lv_lor X.1 X.2.1 hd (h L _ w kc ks hK p l e R s m args below meth c D cA z H locs ls X hH hS hL)
  · exact hK.elim
def s_lxor (K : qK) : qK := fun L st w kc ks => match st with
  | .long y :: .long x :: st => K L (.long (x ^^^ y) :: st) w kc ks
  | _ => False
theorem r_lxor {g : qG} {pc : Nat} {K : qK}  (hd : decode g.1.2.1 pc = .ok (.lxor, 1)) (h : qImp K (AW g (pc + 1))) : qImp (s_lxor K) (AW g pc) := by
  intro L st w kc ks hK
  unfold s_lxor at hK
  split at hK
  · intro p l e R s m args below meth c D cA z H locs ls X hH hS hL
    exact lv_lxor X.1 X.2.1 hd (h L _ w kc ks hK p l e R s m args below meth c D cA z H locs ls X hH hS hL)
  · exact hK.elim
def s_lshl (K : qK) : qK := fun L st w kc ks => match st with
  | .int y :: .long x :: st => K L (.long (x <<< (y.toInt64 &&& 63)) :: st) w kc ks
  | _ => False
theorem r_lshl {g : qG} {pc : Nat} {K : qK}  (hd : decode g.1.2.1 pc = .ok (.lshl, 1)) (h : qImp K (AW g (pc + 1))) : qImp (s_lshl K) (AW g pc) := by
  intro L st w kc ks hK
  unfold s_lshl at hK
  split at hK
  · intro p l e R s m args below meth c D cA z H locs ls X hH hS hL
    exact lv_lshl X.1 X.2.1 hd rfl (h L _ w kc ks hK p l e R s m args below meth c D cA z H locs ls X hH hS hL)
  · exact hK.elim
def s_lushr (K : qK) : qK := fun L st w kc ks => match st with
  | .int y :: .long x :: st => K L (.long ((x.toUInt64 >>> (y.toInt64.toUInt64 &&& Int64.toUInt64 63)).toInt64) :: st) w kc ks
  | _ => False
theorem r_lushr {g : qG} {pc : Nat} {K : qK}  (hd : decode g.1.2.1 pc = .ok (.lushr, 1)) (h : qImp K (AW g (pc + 1))) : qImp (s_lushr K) (AW g pc) := by
  intro L st w kc ks hK
  unfold s_lushr at hK
  split at hK
  · intro p l e R s m args below meth c D cA z H locs ls X hH hS hL
    exact lv_lushr X.1 X.2.1 hd rfl (h L _ w kc ks hK p l e R s m args below meth c D cA z H locs ls X hH hS hL)
  · exact hK.elim
def s_i2l (K : qK) : qK := fun L st w kc ks => match st with
  | .int x :: st => K L (.long x.toInt64 :: st) w kc ks
  | _ => False
theorem r_i2l {g : qG} {pc : Nat} {K : qK}  (hd : decode g.1.2.1 pc = .ok (.i2l, 1)) (h : qImp K (AW g (pc + 1))) : qImp (s_i2l K) (AW g pc) := by
  intro L st w kc ks hK
  unfold s_i2l at hK
  split at hK
  · intro p l e R s m args below meth c D cA z H locs ls X hH hS hL
    exact lv_i2l X.1 X.2.1 hd rfl (h L _ w kc ks hK p l e R s m args below meth c D cA z H locs ls X hH hS hL)
  · exact hK.elim
def s_l2i (K : qK) : qK := fun L st w kc ks => match st with
  | .long x :: st => K L (.int x.toInt32 :: st) w kc ks
  | _ => False
theorem r_l2i {g : qG} {pc : Nat} {K : qK}  (hd : decode g.1.2.1 pc = .ok (.l2i, 1)) (h : qImp K (AW g (pc + 1))) : qImp (s_l2i K) (AW g pc) := by
  intro L st w kc ks hK
  unfold s_l2i at hK
  split at hK
  · intro p l e R s m args below meth c D cA z H locs ls X hH hS hL
    exact lv_l2i X.1 X.2.1 hd rfl (h L _ w kc ks hK p l e R s m args below meth c D cA z H locs ls X hH hS hL)
  · exact hK.elim
def s_lcmp (K : qK) : qK := fun L st w kc ks => match st with
  | .long y :: .long x :: st => K L (.int (lg_cmp x y) :: st) w kc ks
  | _ => False
theorem r_lcmp {g : qG} {pc : Nat} {K : qK}  (hd : decode g.1.2.1 pc = .ok (.lcmp, 1)) (h : qImp K (AW g (pc + 1))) : qImp (s_lcmp K) (AW g pc) := by
  intro L st w kc ks hK
  unfold s_lcmp at hK
  split at hK
  · intro p l e R s m args below meth c D cA z H locs ls X hH hS hL
    exact W.lcmp X.1 X.2.1 hd (h L _ w kc ks hK p l e R s m args below meth c D cA z H locs ls X hH hS hL)
  · exact hK.elim
def s_dup (K : qK) : qK := fun L st w kc ks => match st with
  | .int x :: st => K L (.int x :: .int x :: st) w kc ks
  | .ref x :: st => K L (.ref x :: .ref x :: st) w kc ks
  | _ => False
theorem r_dup {g : qG} {pc : Nat} {K : qK}  (hd : decode g.1.2.1 pc = .ok (.dup, 1)) (h : qImp K (AW g (pc + 1))) : qImp (s_dup K) (AW g pc) := by
  intro L st w kc ks hK
  unfold s_dup at hK
  split at hK
  · intro p l e R s m args below meth c D cA z H locs ls X hH hS hL
    exact lv_dup X.1 X.2.1 hd rfl (h L _ w kc ks hK p l e R s m args below meth c D cA z H locs ls X hH hS hL)
  · intro p l e R s m args below meth c D cA z H locs ls X hH hS hL
    exact lv_dup X.1 X.2.1 hd rfl (h L _ w kc ks hK p l e R s m args below meth c D cA z H locs ls X hH hS hL)
  · exact hK.elim
def s_pop (K : qK) : qK := fun L st w kc ks => match st with
  | .int _ :: st => K L st w kc ks
  | _ => False
theorem r_pop {g : qG} {pc : Nat} {K : qK}  (hd : decode g.1.2.1 pc = .ok (.pop, 1)) (h : qImp K (AW g (pc + 1))) : qImp (s_pop K) (AW g pc) := by
  intro L st w kc ks hK
  unfold s_pop at hK
  split at hK
  · intro p l e R s m args below meth c D cA z H locs ls X hH hS hL
    exact lv_pop X.1 X.2.1 hd rfl (h L _ w kc ks hK p l e R s m args below meth c D cA z H locs ls X hH hS hL)
  · exact hK.elim
def s_dup2 (K : qK) : qK := fun L st w kc ks => match st with
  | .int x :: .ref y :: st => K L (.int x :: .ref y :: .int x :: .ref y :: st) w kc ks
  | _ => False
theorem r_dup2 {g : qG} {pc : Nat} {K : qK}  (hd : decode g.1.2.1 pc = .ok (.dup2, 1)) (h : qImp K (AW g (pc + 1))) : qImp (s_dup2 K) (AW g pc) := by
  intro L st w kc ks hK
  unfold s_dup2 at hK
  split at hK
  · intro p l e R s m args below meth c D cA z H locs ls X hH hS hL
    exact lv_dup2_11 X.1 X.2.1 hd rfl rfl (h L _ w kc ks hK p l e R s m args below meth c D cA z H locs ls X hH hS hL)
  · exact hK.elim
def s_if_eq (J : qK) (K : qK) : qK := fun L st w kc ks => match st with
  | .int x :: st => qbr (x = 0) (J L st w kc ks) (K L st w kc ks)
  | _ => False
theorem r_if_eq {g : qG} {pc tgt : Nat} {off : Int} {J K : qK} (hd : decode g.1.2.1 pc = .ok (.ifCond .eq off, 3)) (ht : (pc : Int) + off = (tgt : Int)) (hJ : qImp J (AW g tgt)) (h : qImp K (AW g (pc + 3))) : qImp (s_if_eq J K) (AW g pc) := by
  intro L st w kc ks hK
  unfold s_if_eq at hK
  split at hK
  · intro p l e R s m args below meth c D cA z H locs ls X hH hS hL
    exact lv_if_eq X.1 X.2.1 hd ht (fun q => hJ _ _ _ _ _ (hK.1 q) p l e R s m args below meth c D cA z H locs ls X hH hS hL) (fun q => h _ _ _ _ _ (hK.2 q) p l e R s m args below meth c D cA z H locs ls X hH hS hL)
  · exact hK.elim
def s_ic_eq (J : qK) (K : qK) : qK := fun L st w kc ks => match st with
  | .int y :: .int x :: st => qbr (x = y) (J L st w kc ks) (K L st w kc ks)
  | _ => False
theorem r_ic_eq {g : qG} {pc tgt : Nat} {off : Int} {J K : qK} (hd : decode g.1.2.1 pc = .ok (.if_icmp .eq off, 3)) (ht : (pc : Int) + off = (tgt : Int)) (hJ : qImp J (AW g tgt)) (h : qImp K (AW g (pc + 3))) : qImp (s_ic_eq J K) (AW g pc) := by
  intro L st w kc ks hK
  unfold s_ic_eq at hK
  split at hK
  · intro p l e R s m args below meth c D cA z H locs ls X hH hS hL
    exact lv_icmp_eq X.1 X.2.1 hd ht (fun q => hJ _ _ _ _ _ (hK.1 q) p l e R s m args below meth c D cA z H locs ls X hH hS hL) (fun q => h _ _ _ _ _ (hK.2 q) p l e R s m args below meth c D cA z H locs ls X hH hS hL)
  · exact hK.elim
def s_if_ne (J : qK) (K : qK) : qK := fun L st w kc ks => match st with
  | .int x :: st => qbr (x = 0) (K L st w kc ks) (J L st w kc ks)
  | _ => False
theorem r_if_ne {g : qG} {pc tgt : Nat} {off : Int} {J K : qK} (hd : decode g.1.2.1 pc = .ok (.ifCond .ne off, 3)) (ht : (pc : Int) + off = (tgt : Int)) (hJ : qImp J (AW g tgt)) (h : qImp K (AW g (pc + 3))) : qImp (s_if_ne J K) (AW g pc) := by
  intro L st w kc ks hK
  unfold s_if_ne at hK
  split at hK
  · intro p l e R s m args below meth c D cA z H locs ls X hH hS hL
    exact lv_if_ne X.1 X.2.1 hd ht (fun q => hJ _ _ _ _ _ (hK.2 q) p l e R s m args below meth c D cA z H locs ls X hH hS hL) (fun q => h _ _ _ _ _ (hK.1 q) p l e R s m args below meth c D cA z H locs ls X hH hS hL)
  · exact hK.elim
def s_ic_ne (J : qK) (K : qK) : qK := fun L st w kc ks => match st with
  | .int y :: .int x :: st => qbr (x = y) (K L st w kc ks) (J L st w kc ks)
  | _ => False
theorem r_ic_ne {g : qG} {pc tgt : Nat} {off : Int} {J K : qK} (hd : decode g.1.2.1 pc = .ok (.if_icmp .ne off, 3)) (ht : (pc : Int) + off = (tgt : Int)) (hJ : qImp J (AW g tgt)) (h : qImp K (AW g (pc + 3))) : qImp (s_ic_ne J K) (AW g pc) := by
  intro L st w kc ks hK
  unfold s_ic_ne at hK
  split at hK
  · intro p l e R s m args below meth c D cA z H locs ls X hH hS hL
    exact lv_icmp_ne X.1 X.2.1 hd ht (fun q => hJ _ _ _ _ _ (hK.2 q) p l e R s m args below meth c D cA z H locs ls X hH hS hL) (fun q => h _ _ _ _ _ (hK.1 q) p l e R s m args below meth c D cA z H locs ls X hH hS hL)
  · exact hK.elim
def s_if_lt (J : qK) (K : qK) : qK := fun L st w kc ks => match st with
  | .int x :: st => qbr (x < 0) (J L st w kc ks) (K L st w kc ks)
  | _ => False
theorem r_if_lt {g : qG} {pc tgt : Nat} {off : Int} {J K : qK} (hd : decode g.1.2.1 pc = .ok (.ifCond .lt off, 3)) (ht : (pc : Int) + off = (tgt : Int)) (hJ : qImp J (AW g tgt)) (h : qImp K (AW g (pc + 3))) : qImp (s_if_lt J K) (AW g pc) := by
  intro L st w kc ks hK
  unfold s_if_lt at hK
  split at hK
  · intro p l e R s m args below meth c D cA z H locs ls X hH hS hL
    exact lv_if_lt X.1 X.2.1 hd ht (fun q => hJ _ _ _ _ _ (hK.1 q) p l e R s m args below meth c D cA z H locs ls X hH hS hL) (fun q => h _ _ _ _ _ (hK.2 q) p l e R s m args below meth c D cA z H locs ls X hH hS hL)
  · exact hK.elim
def s_ic_lt (J : qK) (K : qK) : qK := fun L st w kc ks => match st with
  | .int y :: .int x :: st => qbr (x < y) (J L st w kc ks) (K L st w kc ks)
  | _ => False
theorem r_ic_lt {g : qG} {pc tgt : Nat} {off : Int} {J K : qK} (hd : decode g.1.2.1 pc = .ok (.if_icmp .lt off, 3)) (ht : (pc : Int) + off = (tgt : Int)) (hJ : qImp J (AW g tgt)) (h : qImp K (AW g (pc + 3))) : qImp (s_ic_lt J K) (AW g pc) := by
  intro L st w kc ks hK
  unfold s_ic_lt at hK
  split at hK
  · intro p l e R s m args below meth c D cA z H locs ls X hH hS hL
    exact lv_icmp_lt X.1 X.2.1 hd ht (fun q => hJ _ _ _ _ _ (hK.1 q) p l e R s m args below meth c D cA z H locs ls X hH hS hL) (fun q => h _ _ _ _ _ (hK.2 q) p l e R s m args below meth c D cA z H locs ls X hH hS hL)
  · exact hK.elim
def s_if_ge (J : qK) (K : qK) : qK := fun L st w kc ks => match st with
  | .int x :: st => qbr (0 ≤ x) (J L st w kc ks) (K L st w kc ks)
  | _ => False
theorem r_if_ge {g : qG} {pc tgt : Nat} {off : Int} {J K : qK} (hd : decode g.1.2.1 pc = .ok (.ifCond .ge off, 3)) (ht : (pc : Int) + off = (tgt : Int)) (hJ : qImp J (AW g tgt)) (h : qImp K (AW g (pc + 3))) : qImp (s_if_ge J K) (AW g pc) := by
  intro L st w kc ks hK
  unfold s_if_ge at hK
  split at hK
  · intro p l e R s m args below meth c D cA z H locs ls X hH hS hL
    exact lv_if_ge X.1 X.2.1 hd ht (fun q => hJ _ _ _ _ _ (hK.1 q) p l e R s m args below meth c D cA z H locs ls X hH hS hL) (fun q => h _ _ _ _ _ (hK.2 q) p l e R s m args below meth c D cA z H locs ls X hH hS hL)
  · exact hK.elim
def s_ic_ge (J : qK) (K : qK) : qK := fun L st w kc ks => match st with
  | .int y :: .int x :: st => qbr (y ≤ x) (J L st w kc ks) (K L st w kc ks)
  | _ => False
theorem r_ic_ge {g : qG} {pc tgt : Nat} {off : Int} {J K : qK} (hd : decode g.1.2.1 pc = .ok (.if_icmp .ge off, 3)) (ht : (pc : Int) + off = (tgt : Int)) (hJ : qImp J (AW g tgt)) (h : qImp K (AW g (pc + 3))) : qImp (s_ic_ge J K) (AW g pc) := by
  intro L st w kc ks hK
  unfold s_ic_ge at hK
  split at hK
  · intro p l e R s m args below meth c D cA z H locs ls X hH hS hL
    exact lv_icmp_ge X.1 X.2.1 hd ht (fun q => hJ _ _ _ _ _ (hK.1 q) p l e R s m args below meth c D cA z H locs ls X hH hS hL) (fun q => h _ _ _ _ _ (hK.2 q) p l e R s m args below meth c D cA z H locs ls X hH hS hL)
  · exact hK.elim
def s_if_gt (J : qK) (K : qK) : qK := fun L st w kc ks => match st with
  | .int x :: st => qbr (0 < x) (J L st w kc ks) (K L st w kc ks)
  | _ => False
theorem r_if_gt {g : qG} {pc tgt : Nat} {off : Int} {J K : qK} (hd : decode g.1.2.1 pc = .ok (.ifCond .gt off, 3)) (ht : (pc : Int) + off = (tgt : Int)) (hJ : qImp J (AW g tgt)) (h : qImp K (AW g (pc + 3))) : qImp (s_if_gt J K) (AW g pc) := by
  intro L st w kc ks hK
  unfold s_if_gt at hK
  split at hK
  · intro p l e R s m args below meth c D cA z H locs ls X hH hS hL
    exact lv_if_gt X.1 X.2.1 hd ht (fun q => hJ _ _ _ _ _ (hK.1 q) p l e R s m args below meth c D cA z H locs ls X hH hS hL) (fun q => h _ _ _ _ _ (hK.2 q) p l e R s m args below meth c D cA z H locs ls X hH hS hL)
  · exact hK.elim
def s_ic_gt (J : qK) (K : qK) : qK := fun L st w kc ks => match st with
  | .int y :: .int x :: st => qbr (y < x) (J L st w kc ks) (K L st w kc ks)
  | _ => False
theorem r_ic_gt {g : qG} {pc tgt : Nat} {off : Int} {J K : qK} (hd : decode g.1.2.1 pc = .ok (.if_icmp .gt off, 3)) (ht : (pc : Int) + off = (tgt : Int)) (hJ : qImp J (AW g tgt)) (h : qImp K (AW g (pc + 3))) : qImp (s_ic_gt J K) (AW g pc) := by
  intro L st w kc ks hK
  unfold s_ic_gt at hK
  split at hK
  · intro p l e R s m args below meth c D cA z H locs ls X hH hS hL
    exact lv_icmp_gt X.1 X.2.1 hd ht (fun q => hJ _ _ _ _ _ (hK.1 q) p l e R s m args below meth c D cA z H locs ls X hH hS hL) (fun q => h _ _ _ _ _ (hK.2 q) p l e R s m args below meth c D cA z H locs ls X hH hS hL)
  · exact hK.elim
def s_if_le (J : qK) (K : qK) : qK := fun L st w kc ks => match st with
  | .int x :: st => qbr (x ≤ 0) (J L st w kc ks) (K L st w kc ks)
  | _ => False
theorem r_if_le {g : qG} {pc tgt : Nat} {off : Int} {J K : qK} (hd : decode g.1.2.1 pc = .ok (.ifCond .le off, 3)) (ht : (pc : Int) + off = (tgt : Int)) (hJ : qImp J (AW g tgt)) (h : qImp K (AW g (pc + 3))) : qImp (s_if_le J K) (AW g pc) := by
  intro L st w kc ks hK
  unfold s_if_le at hK
  split at hK
  · intro p l e R s m args below meth c D cA z H locs ls X hH hS hL
    exact lv_if_le X.1 X.2.1 hd ht (fun q => hJ _ _ _ _ _ (hK.1 q) p l e R s m args below meth c D cA z H locs ls X hH hS hL) (fun q => h _ _ _ _ _ (hK.2 q) p l e R s m args below meth c D cA z H locs ls X hH hS hL)
  · exact hK.elim
def s_ic_le (J : qK) (K : qK) : qK := fun L st w kc ks => match st with
  | .int y :: .int x :: st => qbr (x ≤ y) (J L st w kc ks) (K L st w kc ks)
  | _ => False
theorem r_ic_le {g : qG} {pc tgt : Nat} {off : Int} {J K : qK} (hd : decode g.1.2.1 pc = .ok (.if_icmp .le off, 3)) (ht : (pc : Int) + off = (tgt : Int)) (hJ : qImp J (AW g tgt)) (h : qImp K (AW g (pc + 3))) : qImp (s_ic_le J K) (AW g pc) := by
  intro L st w kc ks hK
  unfold s_ic_le at hK
  split at hK
  · intro p l e R s m args below meth c D cA z H locs ls X hH hS hL
    exact lv_icmp_le X.1 X.2.1 hd ht (fun q => hJ _ _ _ _ _ (hK.1 q) p l e R s m args below meth c D cA z H locs ls X hH hS hL) (fun q => h _ _ _ _ _ (hK.2 q) p l e R s m args below meth c D cA z H locs ls X hH hS hL)
  · exact hK.elim
theorem r_goto {g : qG} {pc tgt : Nat} {off : Int} {J : qK} (hd : decode g.1.2.1 pc = .ok (.goto off, 3)) (ht : (pc : Int) + off = (tgt : Int)) (hJ : qImp J (AW g tgt)) : qImp J (AW g pc) := by
  intro L st w kc ks hK p l e R s m args below meth c D cA z H locs ls X hH hS hL
  exact lv_goto X.1 X.2.1 hd ht (hJ _ _ _ _ _ hK p l e R s m args below meth c D cA z H locs ls X hH hS hL)

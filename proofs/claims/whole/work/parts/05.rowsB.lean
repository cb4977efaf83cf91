/-- a field of a class of the world, as an instruction names it -/
def qF (own : String) (idx ci k : Nat) : Prop := ∃ (C : String) (T : u_T) (N : Nat), vwCl[ci]? = some (C, T, N) ∧ k < N ∧ (∀ w ∈ u_ws C T N, w ∈ qg) ∧ Cond.fieldLink own idx (T k).1 (T k).2.1 (T k).2.2.1 ∈ qg
def qFp (own : String) (idx ci k : Nat) (ty : FieldType) : Prop := ∃ (C : String) (T : u_T) (N : Nat) (ty0 : Nat → FieldType), vwCl[ci]? = some (C, T, N) ∧ k < N ∧ (∀ w ∈ u_ws C T N, w ∈ qg) ∧ Cond.fieldLink own idx (T k).1 (T k).2.1 (T k).2.2.1 ∈ qg ∧ (∀ k, k < N → parseFieldDescriptor (T k).2.2.1 = some (ty0 k)) ∧ (∀ a, a < N → ∀ b, b < N → a ≠ b → (T a).2.1 ≠ (T b).2.1) ∧ ty0 k = ty
theorem qH.obj {D : va_G} {cA : Nat → ClassId} {z : qZ} {w : qW} {H : Heap} (h : qH D cA z w H) {p ci : Nat} {fs : List Value} (hp : w.2 p = some (.inr (ci, fs))) : va_P D vwCl [(z.1 + p, .inr (ci, fs.map (qv z)))] H := by
  intro k q hq
  match k, hq with
  | 0, hq => cases hq; exact h.2 p _ hp
  | k + 1, hq => simp at hq
theorem qH.one {D : va_G} {cA : Nat → ClassId} {z : qZ} {w : qW} {H : Heap} (h : qH D cA z w H) {p : Nat} {c : va_E} (hp : w.2 p = some c) : va_P D vwCl [(z.1 + p, qe cA z c)] H := by
  intro k q hq
  match k, hq with
  | 0, hq => cases hq; exact h.2 p _ hp
  | k + 1, hq => simp at hq
def s_getfield (ci k : Nat) (K : qK) : qK := fun L st w kc ks => match st with
  | .ref p :: st => match qgF w p ci k with
    | some v => K L (v :: st) w kc ks
    | none => False
  | _ => False
theorem r_getfield {g : qG} {pc : Nat} {K : qK} {idx ci k : Nat} (hd : decode g.1.2.1 pc = .ok (.getfield idx, 3)) (hF : qF g.1.1.cls idx ci k) (h : qImp K (AW g (pc + 3))) : qImp (s_getfield ci k K) (AW g pc) := by
  intro L st w kc ks hK
  unfold s_getfield at hK
  split at hK
  · split at hK
    · rename_i v hv
      obtain ⟨fs, hw, hfs⟩ := qgF_s hv
      obtain ⟨C, T, N, hc, hk, hin, hlink⟩ := hF
      intro p l e R s m args below meth c D cA z H locs ls X hH hS hL
      exact va_get (D := D) (ci := ci) (v := qv z v) (C := C) (T := T) (N := N) X.1 X.2.1 X.2.2.2.2.1 hin X.2.2.2.1 X.2.2.2.2.2.1 (hH.obj hw) 0 rfl hc k hk (X.2.2.2.2.1 _ hlink) (fun _ h9 => h9) (by rw [List.getElem?_map, hfs]; rfl) hd (h _ _ _ _ _ hK p l e R s m args below meth c D cA z H locs ls X hH hS hL)
    · exact hK.elim
  · exact hK.elim
theorem qe_obj (cA : Nat → ClassId) (z : qZ) (ci : Nat) (fs : List Value) : qe cA z (.inr (ci, fs)) = .inr (ci, fs.map (qv z)) := rfl
theorem qe_ia (cA : Nat → ClassId) (z : qZ) (t n : Nat) (f : Nat → Int32) : qe cA z (.inl (t, n, .inl f)) = .inl (cA t, n, .inl f) := rfl
theorem qe_la (cA : Nat → ClassId) (z : qZ) (t n : Nat) (f : Nat → Int64) : qe cA z (.inl (t, n, .inr (.inl f))) = .inl (cA t, n, .inr (.inl f)) := rfl
theorem qe_ra (cA : Nat → ClassId) (z : qZ) (t n : Nat) (f : Nat → Option Nat) : qe cA z (.inl (t, n, .inr (.inr (.inr (.inr f))))) = .inl (cA t, n, .inr (.inr (.inr (.inr (fun j => (f j).map (z.1 + ·)))))) := rfl
theorem qsF_at {w : qW} {p k ci : Nat} {v : Value} {fs : List Value} (h : w.2 p = some (.inr (ci, fs))) : (qsF w p k v).2 p = some (.inr (ci, fs.set k v)) := by simp only [qsF, if_true, h]
theorem qsF_ne {w : qW} {p k q : Nat} {v : Value} (h : q ≠ p) : (qsF w p k v).2 q = w.2 q := by simp only [qsF, if_neg h]
theorem qsI_at {w : qW} {p t n : Nat} {f f' : Nat → Int32} (h : w.2 p = some (.inl (t, n, .inl f))) : (qsI w p f').2 p = some (.inl (t, n, .inl f')) := by simp only [qsI, if_true, h]
theorem qsI_ne {w : qW} {p q : Nat} {f : Nat → Int32} (h : q ≠ p) : (qsI w p f).2 q = w.2 q := by simp only [qsI, if_neg h]
theorem qsL_at {w : qW} {p t n : Nat} {f f' : Nat → Int64} (h : w.2 p = some (.inl (t, n, .inr (.inl f)))) : (qsL w p f').2 p = some (.inl (t, n, .inr (.inl f'))) := by simp only [qsL, if_true, h]
theorem qsL_ne {w : qW} {p q : Nat} {f : Nat → Int64} (h : q ≠ p) : (qsL w p f).2 q = w.2 q := by simp only [qsL, if_neg h]
theorem qsR_at {w : qW} {p t n : Nat} {f f' : Nat → Option Nat} (h : w.2 p = some (.inl (t, n, .inr (.inr (.inr (.inr f)))))) : (qsR w p f').2 p = some (.inl (t, n, .inr (.inr (.inr (.inr f'))))) := by simp only [qsR, if_true, h]
theorem qsR_ne {w : qW} {p q : Nat} {f : Nat → Option Nat} (h : q ≠ p) : (qsR w p f).2 q = w.2 q := by simp only [qsR, if_neg h]
/-- a field anew, in the heap -/
theorem qH.putF {D : va_G} {cA : Nat → ClassId} {z : qZ} {w : qW} {H H1 : Heap} {s : State} {args : Array Value} {C : String} {T : u_T} {N ci k p : Nat} {ty0 : Nat → FieldType} {fs : List Value} {v : Value} {cell : Cell} (h : qH D cA z w H) (hts : ∀ w ∈ qg, w.before args s = true) (hK : va_K D vwCl (qT cA) s) (hc : vwCl[ci]? = some (C, T, N)) (hk : k < N) (hin : ∀ w ∈ u_ws C T N, w ∈ qg) (hty : ∀ k, k < N → parseFieldDescriptor (T k).2.2.1 = some (ty0 k)) (hnm : ∀ a, a < N → ∀ b, b < N → a ≠ b → (T a).2.1 ≠ (T b).2.1)
    (hw : w.2 p = some (.inr (ci, fs))) (hl : k < fs.length) (q2 : cell.cls = D.1 ci) (q3 : cell.vm = .none) (q4 : ∀ j, j < N → cell.slots[D.2 ci j]? = some (vp_V (fs.map (qv z)) j)) (e1 : H1[z.1 + p]? = some (cell.setSlot (D.2 ci k) (qv z v))) (e2 : H1.size = H.size) (e3 : ∀ q : Nat, q ≠ z.1 + p → H1[q]? = H[q]?) : qH D cA z (qsF w p k v) H1 := by
  have hap := va_apart (own := C) hts hin ty0 hty hnm hK hc
  refine h.up rfl (qsF_at hw) (fun q hq => qsF_ne hq) e2 ?_ e3
  rw [qe_obj]
  refine ⟨_, hc, t_OB.to (V := updV (vp_V (fs.map (qv z))) k (qv z v)) ⟨_, e1, q2, q3, t_set q4 hap hk (qv z v)⟩ (fun j _ => ?_)⟩
  rw [vp_updV_set (by rw [List.length_map]; exact hl) (qv z v) j, List.map_set]
def s_putI (ci k : Nat) (K : qK) : qK := fun L st w kc ks => match st with
  | .int x :: .ref p :: st => match qgF w p ci k with
    | some _ => K L st (qsF w p k (.int x)) kc ks
    | none => False
  | _ => False
theorem r_putI {g : qG} {pc : Nat} {K : qK} {idx ci k : Nat} (hd : decode g.1.2.1 pc = .ok (.putfield idx, 3)) (hF : qFp g.1.1.cls idx ci k .int) (hfin : ∀ q ∈ vwCl[ci]?, (q.2.1 k).2.2.2 = false) (h : qImp K (AW g (pc + 3))) : qImp (s_putI ci k K) (AW g pc) := by
  intro L st w kc ks hK
  unfold s_putI at hK
  split at hK
  · rename_i x pp st
    split at hK
    · rename_i v0 hv
      obtain ⟨fs, hw, hfs⟩ := qgF_s hv
      obtain ⟨C, T, N, ty0, hc, hk, hin, hlink, hty, hnm, hte⟩ := hF
      have hfin := hfin _ hc
      have hl : k < fs.length := (List.getElem?_eq_some_iff.mp hfs).1
      intro p l e R s m args below meth c D cA z H locs ls X hH hS hL
      have hts := X.2.2.2.2.1
      have hKK := X.2.2.2.2.2.1
      obtain ⟨r, hr1, cell, q1, q2, q3, q4⟩ := hH.2 pp _ hw
      have hr : r = (C, T, N) := Option.some.inj (hr1.symm.trans hc)
      subst hr
      obtain ⟨hSl, hfc, kC, hkC, hkind⟩ := hKK.1 ci _ hc
      obtain ⟨cf, kf, fi, f, hi, hsl⟩ := hSl k hk
      have hlay := hts _ (hin _ (u_in_lay hk))
      unfold u_lay at hlay
      rw [if_neg (by rw [hfin]; decide)] at hlay
      have hst := (u_facts hfc hkC (u_lays hts hin hk) hi).1
      have h6 := u_store (v := qv z (.int x)) hfc hkC hkind hlay hi (by rw [hty k hk, hte]) (by rfl) (by rfl)
      refine W.putK X.1 X.2.1 (f := f) ⟨X.2.2.2.1, hts _ hlink, ⟨_, _, _, hi⟩, hst⟩ (by rw [q2]; exact h6) q1 q3 (by rw [hsl]; exact k2_hasslot (q4 k hk)) rfl rfl hd fun H' e1 e2 e3 => ?_
      rw [hsl] at e1 ⊢
      exact h _ _ _ _ _ hK p l e R s m args below meth c D cA z H' _ ls X (hH.putF hts hKK hc hk hin hty hnm hw hl q2 q3 q4 e1 e2 e3) (hS.put e2 e3 (qA_in pp)) hL
    · exact hK.elim
  · exact hK.elim
theorem r_putIF {g : qG} {pc : Nat} {K : qK} {idx ci k : Nat} (hd : decode g.1.2.1 pc = .ok (.putfield idx, 3)) (hF : qFp g.1.1.cls idx ci k .int) (hfin : ∀ q ∈ vwCl[ci]?, (q.2.1 k).2.2.2 = true) (hin2 : g.1.1.name = "<init>") (hdecl : ∀ q ∈ vwCl[ci]?, (q.2.1 k).1 = g.1.1.cls) (h : qImp K (AW g (pc + 3))) : qImp (s_putI ci k K) (AW g pc) := by
  intro L st w kc ks hK
  unfold s_putI at hK
  split at hK
  · rename_i x pp st
    split at hK
    · rename_i v0 hv
      obtain ⟨fs, hw, hfs⟩ := qgF_s hv
      obtain ⟨C, T, N, ty0, hc, hk, hin, hlink, hty, hnm, hte⟩ := hF
      have hfin := hfin _ hc
      have hdecl := hdecl _ hc
      have hl : k < fs.length := (List.getElem?_eq_some_iff.mp hfs).1
      intro p l e R s m args below meth c D cA z H locs ls X hH hS hL
      have hts := X.2.2.2.2.1
      have hKK := X.2.2.2.2.2.1
      obtain ⟨r, hr1, cell, q1, q2, q3, q4⟩ := hH.2 pp _ hw
      have hr : r = (C, T, N) := Option.some.inj (hr1.symm.trans hc)
      subst hr
      obtain ⟨hSl, hfc, kC, hkC, hkind⟩ := hKK.1 ci _ hc
      obtain ⟨cf, kf, fi, f, hi, hsl⟩ := hSl k hk
      have hlay := hts _ (hin _ (u_in_lay hk))
      unfold u_lay at hlay
      rw [if_pos (by rw [hfin])] at hlay
      have hst := (u_facts hfc hkC (u_lays hts hin hk) hi).1
      have hcf : m.cls = cf := by
        obtain ⟨_, _, c', _, _, _, -, -, hf', -, -, -, hown2, -⟩ := Cond.laysFinal_spec hlay
        have e1 : c' = cf := by have := hi.symm.trans hf'; simp at this; exact this.1.symm
        rw [hdecl] at hown2
        rw [← e1]; exact Option.some.inj (X.2.2.2.1.symm.trans hown2)
      have h6 := u_fits (v := qv z (.int x)) hfc hkC hkind (Or.inr hlay) hi (by rw [hty k hk, hte]) (by rfl) (by rfl)
      refine W.putFinK X.1 X.2.1 X.2.2.2.1 (hts _ hlink) hi hst hcf (X.2.2.2.2.2.2.2.2.2.1.trans hin2) (by rw [q2]; exact h6) q1 q3 (by rw [hsl]; exact k2_hasslot (q4 k hk)) rfl rfl hd fun H' e1 e2 e3 => ?_
      rw [hsl] at e1 ⊢
      exact h _ _ _ _ _ hK p l e R s m args below meth c D cA z H' _ ls X (hH.putF hts hKK hc hk hin hty hnm hw hl q2 q3 q4 e1 e2 e3) (hS.put e2 e3 (qA_in pp)) hL
    · exact hK.elim
  · exact hK.elim
def s_putZ (ci k : Nat) (K : qK) : qK := fun L st w kc ks => match st with
  | .int x :: .ref p :: st => match qgF w p ci k with
    | some _ => (x = 0 ∨ x = 1) ∧ K L st (qsF w p k (.int x)) kc ks
    | none => False
  | _ => False
theorem r_putZ {g : qG} {pc : Nat} {K : qK} {idx ci k : Nat} (hd : decode g.1.2.1 pc = .ok (.putfield idx, 3)) (hF : qFp g.1.1.cls idx ci k .boolean) (hfin : ∀ q ∈ vwCl[ci]?, (q.2.1 k).2.2.2 = false) (h : qImp K (AW g (pc + 3))) : qImp (s_putZ ci k K) (AW g pc) := by
  intro L st w kc ks hK
  unfold s_putZ at hK
  split at hK
  · rename_i x pp st
    split at hK
    · rename_i v0 hv
      obtain ⟨fs, hw, hfs⟩ := qgF_s hv
      obtain ⟨C, T, N, ty0, hc, hk, hin, hlink, hty, hnm, hte⟩ := hF
      have hfin := hfin _ hc
      have hl : k < fs.length := (List.getElem?_eq_some_iff.mp hfs).1
      intro p l e R s m args below meth c D cA z H locs ls X hH hS hL
      have hts := X.2.2.2.2.1
      have hKK := X.2.2.2.2.2.1
      obtain ⟨r, hr1, cell, q1, q2, q3, q4⟩ := hH.2 pp _ hw
      have hr : r = (C, T, N) := Option.some.inj (hr1.symm.trans hc)
      subst hr
      obtain ⟨hSl, hfc, kC, hkC, hkind⟩ := hKK.1 ci _ hc
      obtain ⟨cf, kf, fi, f, hi, hsl⟩ := hSl k hk
      have hlay := hts _ (hin _ (u_in_lay hk))
      unfold u_lay at hlay
      rw [if_neg (by rw [hfin]; decide)] at hlay
      have hst := (u_facts hfc hkC (u_lays hts hin hk) hi).1
      have h6 := u_store (v := qv z (.int x)) hfc hkC hkind hlay hi (by rw [hty k hk, hte]) (by rcases hK.1 with e | e <;> rw [e] <;> rfl) (by rcases hK.1 with e | e <;> rw [e] <;> rfl)
      refine W.putK X.1 X.2.1 (f := f) ⟨X.2.2.2.1, hts _ hlink, ⟨_, _, _, hi⟩, hst⟩ (by rw [q2]; exact h6) q1 q3 (by rw [hsl]; exact k2_hasslot (q4 k hk)) rfl rfl hd fun H' e1 e2 e3 => ?_
      rw [hsl] at e1 ⊢
      exact h _ _ _ _ _ hK.2 p l e R s m args below meth c D cA z H' _ ls X (hH.putF hts hKK hc hk hin hty hnm hw hl q2 q3 q4 e1 e2 e3) (hS.put e2 e3 (qA_in pp)) hL
    · exact hK.elim
  · exact hK.elim
theorem r_putZF {g : qG} {pc : Nat} {K : qK} {idx ci k : Nat} (hd : decode g.1.2.1 pc = .ok (.putfield idx, 3)) (hF : qFp g.1.1.cls idx ci k .boolean) (hfin : ∀ q ∈ vwCl[ci]?, (q.2.1 k).2.2.2 = true) (hin2 : g.1.1.name = "<init>") (hdecl : ∀ q ∈ vwCl[ci]?, (q.2.1 k).1 = g.1.1.cls) (h : qImp K (AW g (pc + 3))) : qImp (s_putZ ci k K) (AW g pc) := by
  intro L st w kc ks hK
  unfold s_putZ at hK
  split at hK
  · rename_i x pp st
    split at hK
    · rename_i v0 hv
      obtain ⟨fs, hw, hfs⟩ := qgF_s hv
      obtain ⟨C, T, N, ty0, hc, hk, hin, hlink, hty, hnm, hte⟩ := hF
      have hfin := hfin _ hc
      have hdecl := hdecl _ hc
      have hl : k < fs.length := (List.getElem?_eq_some_iff.mp hfs).1
      intro p l e R s m args below meth c D cA z H locs ls X hH hS hL
      have hts := X.2.2.2.2.1
      have hKK := X.2.2.2.2.2.1
      obtain ⟨r, hr1, cell, q1, q2, q3, q4⟩ := hH.2 pp _ hw
      have hr : r = (C, T, N) := Option.some.inj (hr1.symm.trans hc)
      subst hr
      obtain ⟨hSl, hfc, kC, hkC, hkind⟩ := hKK.1 ci _ hc
      obtain ⟨cf, kf, fi, f, hi, hsl⟩ := hSl k hk
      have hlay := hts _ (hin _ (u_in_lay hk))
      unfold u_lay at hlay
      rw [if_pos (by rw [hfin])] at hlay
      have hst := (u_facts hfc hkC (u_lays hts hin hk) hi).1
      have hcf : m.cls = cf := by
        obtain ⟨_, _, c', _, _, _, -, -, hf', -, -, -, hown2, -⟩ := Cond.laysFinal_spec hlay
        have e1 : c' = cf := by have := hi.symm.trans hf'; simp at this; exact this.1.symm
        rw [hdecl] at hown2
        rw [← e1]; exact Option.some.inj (X.2.2.2.1.symm.trans hown2)
      have h6 := u_fits (v := qv z (.int x)) hfc hkC hkind (Or.inr hlay) hi (by rw [hty k hk, hte]) (by rcases hK.1 with e | e <;> rw [e] <;> rfl) (by rcases hK.1 with e | e <;> rw [e] <;> rfl)
      refine W.putFinK X.1 X.2.1 X.2.2.2.1 (hts _ hlink) hi hst hcf (X.2.2.2.2.2.2.2.2.2.1.trans hin2) (by rw [q2]; exact h6) q1 q3 (by rw [hsl]; exact k2_hasslot (q4 k hk)) rfl rfl hd fun H' e1 e2 e3 => ?_
      rw [hsl] at e1 ⊢
      exact h _ _ _ _ _ hK.2 p l e R s m args below meth c D cA z H' _ ls X (hH.putF hts hKK hc hk hin hty hnm hw hl q2 q3 q4 e1 e2 e3) (hS.put e2 e3 (qA_in pp)) hL
    · exact hK.elim
  · exact hK.elim
def s_putL (ci k : Nat) (K : qK) : qK := fun L st w kc ks => match st with
  | .long x :: .ref p :: st => match qgF w p ci k with
    | some _ => K L st (qsF w p k (.long x)) kc ks
    | none => False
  | _ => False
theorem r_putL {g : qG} {pc : Nat} {K : qK} {idx ci k : Nat} (hd : decode g.1.2.1 pc = .ok (.putfield idx, 3)) (hF : qFp g.1.1.cls idx ci k .long) (hfin : ∀ q ∈ vwCl[ci]?, (q.2.1 k).2.2.2 = false) (h : qImp K (AW g (pc + 3))) : qImp (s_putL ci k K) (AW g pc) := by
  intro L st w kc ks hK
  unfold s_putL at hK
  split at hK
  · rename_i x pp st
    split at hK
    · rename_i v0 hv
      obtain ⟨fs, hw, hfs⟩ := qgF_s hv
      obtain ⟨C, T, N, ty0, hc, hk, hin, hlink, hty, hnm, hte⟩ := hF
      have hfin := hfin _ hc
      have hl : k < fs.length := (List.getElem?_eq_some_iff.mp hfs).1
      intro p l e R s m args below meth c D cA z H locs ls X hH hS hL
      have hts := X.2.2.2.2.1
      have hKK := X.2.2.2.2.2.1
      obtain ⟨r, hr1, cell, q1, q2, q3, q4⟩ := hH.2 pp _ hw
      have hr : r = (C, T, N) := Option.some.inj (hr1.symm.trans hc)
      subst hr
      obtain ⟨hSl, hfc, kC, hkC, hkind⟩ := hKK.1 ci _ hc
      obtain ⟨cf, kf, fi, f, hi, hsl⟩ := hSl k hk
      have hlay := hts _ (hin _ (u_in_lay hk))
      unfold u_lay at hlay
      rw [if_neg (by rw [hfin]; decide)] at hlay
      have hst := (u_facts hfc hkC (u_lays hts hin hk) hi).1
      have h6 := u_store (v := qv z (.long x)) hfc hkC hkind hlay hi (by rw [hty k hk, hte]) (by rfl) (by rfl)
      refine W.putK X.1 X.2.1 (f := f) ⟨X.2.2.2.1, hts _ hlink, ⟨_, _, _, hi⟩, hst⟩ (by rw [q2]; exact h6) q1 q3 (by rw [hsl]; exact k2_hasslot (q4 k hk)) rfl rfl hd fun H' e1 e2 e3 => ?_
      rw [hsl] at e1 ⊢
      exact h _ _ _ _ _ hK p l e R s m args below meth c D cA z H' _ ls X (hH.putF hts hKK hc hk hin hty hnm hw hl q2 q3 q4 e1 e2 e3) (hS.put e2 e3 (qA_in pp)) hL
    · exact hK.elim
  · exact hK.elim
theorem r_putLF {g : qG} {pc : Nat} {K : qK} {idx ci k : Nat} (hd : decode g.1.2.1 pc = .ok (.putfield idx, 3)) (hF : qFp g.1.1.cls idx ci k .long) (hfin : ∀ q ∈ vwCl[ci]?, (q.2.1 k).2.2.2 = true) (hin2 : g.1.1.name = "<init>") (hdecl : ∀ q ∈ vwCl[ci]?, (q.2.1 k).1 = g.1.1.cls) (h : qImp K (AW g (pc + 3))) : qImp (s_putL ci k K) (AW g pc) := by
  intro L st w kc ks hK
  unfold s_putL at hK
  split at hK
  · rename_i x pp st
    split at hK
    · rename_i v0 hv
      obtain ⟨fs, hw, hfs⟩ := qgF_s hv
      obtain ⟨C, T, N, ty0, hc, hk, hin, hlink, hty, hnm, hte⟩ := hF
      have hfin := hfin _ hc
      have hdecl := hdecl _ hc
      have hl : k < fs.length := (List.getElem?_eq_some_iff.mp hfs).1
      intro p l e R s m args below meth c D cA z H locs ls X hH hS hL
      have hts := X.2.2.2.2.1
      have hKK := X.2.2.2.2.2.1
      obtain ⟨r, hr1, cell, q1, q2, q3, q4⟩ := hH.2 pp _ hw
      have hr : r = (C, T, N) := Option.some.inj (hr1.symm.trans hc)
      subst hr
      obtain ⟨hSl, hfc, kC, hkC, hkind⟩ := hKK.1 ci _ hc
      obtain ⟨cf, kf, fi, f, hi, hsl⟩ := hSl k hk
      have hlay := hts _ (hin _ (u_in_lay hk))
      unfold u_lay at hlay
      rw [if_pos (by rw [hfin])] at hlay
      have hst := (u_facts hfc hkC (u_lays hts hin hk) hi).1
      have hcf : m.cls = cf := by
        obtain ⟨_, _, c', _, _, _, -, -, hf', -, -, -, hown2, -⟩ := Cond.laysFinal_spec hlay
        have e1 : c' = cf := by have := hi.symm.trans hf'; simp at this; exact this.1.symm
        rw [hdecl] at hown2
        rw [← e1]; exact Option.some.inj (X.2.2.2.1.symm.trans hown2)
      have h6 := u_fits (v := qv z (.long x)) hfc hkC hkind (Or.inr hlay) hi (by rw [hty k hk, hte]) (by rfl) (by rfl)
      refine W.putFinK X.1 X.2.1 X.2.2.2.1 (hts _ hlink) hi hst hcf (X.2.2.2.2.2.2.2.2.2.1.trans hin2) (by rw [q2]; exact h6) q1 q3 (by rw [hsl]; exact k2_hasslot (q4 k hk)) rfl rfl hd fun H' e1 e2 e3 => ?_
      rw [hsl] at e1 ⊢
      exact h _ _ _ _ _ hK p l e R s m args below meth c D cA z H' _ ls X (hH.putF hts hKK hc hk hin hty hnm hw hl q2 q3 q4 e1 e2 e3) (hS.put e2 e3 (qA_in pp)) hL
    · exact hK.elim
  · exact hK.elim
def s_putR (ci k : Nat) (K : qK) : qK := fun L st w kc ks => match st with
  | .ref x :: .ref p :: st => match qgF w p ci k with
    | some _ => K L st (qsF w p k (.ref x)) kc ks
    | none => False
  | _ => False
theorem r_putR {g : qG} {pc : Nat} {K : qK} {idx ci k : Nat} {ty : FieldType} (hd : decode g.1.2.1 pc = .ok (.putfield idx, 3)) (hF : qFp g.1.1.cls idx ci k ty) (hfin : ∀ q ∈ vwCl[ci]?, (q.2.1 k).2.2.2 = false) (hn : ∀ a : Nat, narrow ty (.ref a) = .ref a) (hf : ∀ a : Nat, fits ty (.ref a) = true) (h : qImp K (AW g (pc + 3))) : qImp (s_putR ci k K) (AW g pc) := by
  intro L st w kc ks hK
  unfold s_putR at hK
  split at hK
  · rename_i x pp st
    split at hK
    · rename_i v0 hv
      obtain ⟨fs, hw, hfs⟩ := qgF_s hv
      obtain ⟨C, T, N, ty0, hc, hk, hin, hlink, hty, hnm, hte⟩ := hF
      have hfin := hfin _ hc
      have hl : k < fs.length := (List.getElem?_eq_some_iff.mp hfs).1
      intro p l e R s m args below meth c D cA z H locs ls X hH hS hL
      have hts := X.2.2.2.2.1
      have hKK := X.2.2.2.2.2.1
      obtain ⟨r, hr1, cell, q1, q2, q3, q4⟩ := hH.2 pp _ hw
      have hr : r = (C, T, N) := Option.some.inj (hr1.symm.trans hc)
      subst hr
      obtain ⟨hSl, hfc, kC, hkC, hkind⟩ := hKK.1 ci _ hc
      obtain ⟨cf, kf, fi, f, hi, hsl⟩ := hSl k hk
      have hlay := hts _ (hin _ (u_in_lay hk))
      unfold u_lay at hlay
      rw [if_neg (by rw [hfin]; decide)] at hlay
      have hst := (u_facts hfc hkC (u_lays hts hin hk) hi).1
      have h6 := u_store (v := qv z (.ref x)) hfc hkC hkind hlay hi (by rw [hty k hk, hte]) (hn _) (hf _)
      refine W.putK X.1 X.2.1 (f := f) ⟨X.2.2.2.1, hts _ hlink, ⟨_, _, _, hi⟩, hst⟩ (by rw [q2]; exact h6) q1 q3 (by rw [hsl]; exact k2_hasslot (q4 k hk)) rfl rfl hd fun H' e1 e2 e3 => ?_
      rw [hsl] at e1 ⊢
      exact h _ _ _ _ _ hK p l e R s m args below meth c D cA z H' _ ls X (hH.putF hts hKK hc hk hin hty hnm hw hl q2 q3 q4 e1 e2 e3) (hS.put e2 e3 (qA_in pp)) hL
    · exact hK.elim
  · exact hK.elim
theorem r_putRF {g : qG} {pc : Nat} {K : qK} {idx ci k : Nat} {ty : FieldType} (hd : decode g.1.2.1 pc = .ok (.putfield idx, 3)) (hF : qFp g.1.1.cls idx ci k ty) (hfin : ∀ q ∈ vwCl[ci]?, (q.2.1 k).2.2.2 = true) (hin2 : g.1.1.name = "<init>") (hdecl : ∀ q ∈ vwCl[ci]?, (q.2.1 k).1 = g.1.1.cls) (hn : ∀ a : Nat, narrow ty (.ref a) = .ref a) (hf : ∀ a : Nat, fits ty (.ref a) = true) (h : qImp K (AW g (pc + 3))) : qImp (s_putR ci k K) (AW g pc) := by
  intro L st w kc ks hK
  unfold s_putR at hK
  split at hK
  · rename_i x pp st
    split at hK
    · rename_i v0 hv
      obtain ⟨fs, hw, hfs⟩ := qgF_s hv
      obtain ⟨C, T, N, ty0, hc, hk, hin, hlink, hty, hnm, hte⟩ := hF
      have hfin := hfin _ hc
      have hdecl := hdecl _ hc
      have hl : k < fs.length := (List.getElem?_eq_some_iff.mp hfs).1
      intro p l e R s m args below meth c D cA z H locs ls X hH hS hL
      have hts := X.2.2.2.2.1
      have hKK := X.2.2.2.2.2.1
      obtain ⟨r, hr1, cell, q1, q2, q3, q4⟩ := hH.2 pp _ hw
      have hr : r = (C, T, N) := Option.some.inj (hr1.symm.trans hc)
      subst hr
      obtain ⟨hSl, hfc, kC, hkC, hkind⟩ := hKK.1 ci _ hc
      obtain ⟨cf, kf, fi, f, hi, hsl⟩ := hSl k hk
      have hlay := hts _ (hin _ (u_in_lay hk))
      unfold u_lay at hlay
      rw [if_pos (by rw [hfin])] at hlay
      have hst := (u_facts hfc hkC (u_lays hts hin hk) hi).1
      have hcf : m.cls = cf := by
        obtain ⟨_, _, c', _, _, _, -, -, hf', -, -, -, hown2, -⟩ := Cond.laysFinal_spec hlay
        have e1 : c' = cf := by have := hi.symm.trans hf'; simp at this; exact this.1.symm
        rw [hdecl] at hown2
        rw [← e1]; exact Option.some.inj (X.2.2.2.1.symm.trans hown2)
      have h6 := u_fits (v := qv z (.ref x)) hfc hkC hkind (Or.inr hlay) hi (by rw [hty k hk, hte]) (hn _) (hf _)
      refine W.putFinK X.1 X.2.1 X.2.2.2.1 (hts _ hlink) hi hst hcf (X.2.2.2.2.2.2.2.2.2.1.trans hin2) (by rw [q2]; exact h6) q1 q3 (by rw [hsl]; exact k2_hasslot (q4 k hk)) rfl rfl hd fun H' e1 e2 e3 => ?_
      rw [hsl] at e1 ⊢
      exact h _ _ _ _ _ hK p l e R s m args below meth c D cA z H' _ ls X (hH.putF hts hKK hc hk hin hty hnm hw hl q2 q3 q4 e1 e2 e3) (hS.put e2 e3 (qA_in pp)) hL
    · exact hK.elim
  · exact hK.elim
def s_iaload (g : qG) (K : qK) : qK := fun L st w kc ks => match st with
  | .int i :: .ref p :: st => match qgI w p 0 with
    | some (n, f) => vp_in i n ∧ K L (.int (f i.toNatClampNeg) :: st) w kc ks
    | none => False
  | .int i :: .retAddr _ :: st => match g.2.2.2.2.1 with
    | some (n, f) => vp_in i n ∧ K L (.int (f i.toNatClampNeg) :: st) w kc ks
    | none => False
  | _ => False
theorem qA_not {z : qZ} {q : Nat} (h : q < z.1) : ¬ qA z q := Nat.not_le.mpr h
theorem r_iaload {g : qG} {pc : Nat} {K : qK} (hd : decode g.1.2.1 pc = .ok (.iaload, 1)) (h : qImp K (AW g (pc + 1))) : qImp (s_iaload g K) (AW g pc) := by
  intro L st w kc ks hK
  unfold s_iaload at hK
  split at hK
  · split at hK
    · rename_i n f hv
      intro p l e R s m args below meth c D cA z H locs ls X hH hS hL
      exact va_iald X.1 X.2.1 X.2.2.2.2.2.1 (hH.one (qgI_s hv)) 0 0 rfl rfl hK.1 hd (h _ _ _ _ _ hK.2 p l e R s m args below meth c D cA z H locs ls X hH hS hL)
    · exact hK.elim
  · split at hK
    · rename_i n f hv
      intro p l e R s m args below meth c D cA z H locs ls X hH hS hL
      have hsc := X.2.2.2.2.2.2.2.2.2.2.2.2
      rw [hv] at hsc
      exact va_sld X.1 X.2.1 hsc.1 hsc.2.1 (qA_not hsc.2.2) hS hK.1 hd (h _ _ _ _ _ hK.2 p l e R s m args below meth c D cA z H locs ls X hH hS hL)
    · exact hK.elim
  · exact hK.elim
def s_baload (K : qK) : qK := fun L st w kc ks => match st with
  | .int i :: .ref p :: st => match qgI w p 1 with
    | some (n, f) => vp_in i n ∧ K L (.int (f i.toNatClampNeg) :: st) w kc ks
    | none => False
  | _ => False
theorem r_baload {g : qG} {pc : Nat} {K : qK} (hd : decode g.1.2.1 pc = .ok (.baload, 1)) (h : qImp K (AW g (pc + 1))) : qImp (s_baload K) (AW g pc) := by
  intro L st w kc ks hK
  unfold s_baload at hK
  split at hK
  · split at hK
    · rename_i n f hv
      intro p l e R s m args below meth c D cA z H locs ls X hH hS hL
      exact va_zald X.1 X.2.1 X.2.2.2.2.2.1 (hH.one (qgI_s hv)) 0 1 rfl rfl hK.1 hd (h _ _ _ _ _ hK.2 p l e R s m args below meth c D cA z H locs ls X hH hS hL)
    · exact hK.elim
  · exact hK.elim
def s_laload (K : qK) : qK := fun L st w kc ks => match st with
  | .int i :: .ref p :: st => match qgL w p with
    | some (n, f) => vp_in i n ∧ K L (.long (f i.toNatClampNeg) :: st) w kc ks
    | none => False
  | _ => False
theorem r_laload {g : qG} {pc : Nat} {K : qK} (hd : decode g.1.2.1 pc = .ok (.laload, 1)) (h : qImp K (AW g (pc + 1))) : qImp (s_laload K) (AW g pc) := by
  intro L st w kc ks hK
  unfold s_laload at hK
  split at hK
  · split at hK
    · rename_i n f hv
      intro p l e R s m args below meth c D cA z H locs ls X hH hS hL
      exact va_lald X.1 X.2.1 X.2.2.2.2.2.1 (hH.one (qgL_s hv)) 0 2 rfl rfl hK.1 hd (h _ _ _ _ _ hK.2 p l e R s m args below meth c D cA z H locs ls X hH hS hL)
    · exact hK.elim
  · exact hK.elim
def s_aaload (K : qK) : qK := fun L st w kc ks => match st with
  | .int i :: .ref p :: st => match qgR w p with
    | some (n, f) => vp_in i n ∧ match f i.toNatClampNeg with
      | some q => K L (.ref q :: st) w kc ks
      | none => False
    | none => False
  | _ => False
theorem r_aaload {g : qG} {pc : Nat} {K : qK} (hd : decode g.1.2.1 pc = .ok (.aaload, 1)) (h : qImp K (AW g (pc + 1))) : qImp (s_aaload K) (AW g pc) := by
  intro L st w kc ks hK
  unfold s_aaload at hK
  split at hK
  · split at hK
    · rename_i n f hv
      obtain ⟨hin, hK⟩ := hK
      split at hK
      · rename_i q hq
        intro p l e R s m args below meth c D cA z H locs ls X hH hS hL
        have hk := h _ _ _ _ _ hK p l e R s m args below meth c D cA z H locs ls X hH hS hL
        refine va_aldq X.1 X.2.1 X.2.2.2.2.2.1 (hH.one (qgR_s hv)) 0 3 rfl rfl hin hd ?_
        rw [hq]
        exact hk
      · exact hK.elim
    · exact hK.elim
  · exact hK.elim
def qlen (w : qW) (p : Nat) : Option (Nat × Nat) := match w.2 p with
  | some (.inl (t, n, _)) => if t < 4 then some (t, n) else none
  | _ => none
theorem qlen_s {w : qW} {p t n : Nat} (h : qlen w p = some (t, n)) : t < 4 ∧ ∃ x, w.2 p = some (.inl (t, n, x)) := by
  unfold qlen at h
  split at h
  · rename_i t' n' x hw
    split at h
    · rename_i ht
      cases h
      exact ⟨ht, x, hw⟩
    · cases h
  · cases h
def s_alen (g : qG) (K : qK) : qK := fun L st w kc ks => match st with
  | .ref p :: st => match qlen w p with
    | some (_, n) => K L (.int (nI n) :: st) w kc ks
    | none => False
  | .retAddr _ :: st => match g.2.2.2.2.1 with
    | some (n, _) => K L (.int (nI n) :: st) w kc ks
    | none => False
  | _ => False
theorem qe_len (cA : Nat → ClassId) (z : qZ) (t n : Nat) (x) : ∃ y, qe cA z (.inl (t, n, x)) = .inl (cA t, n, y) := by
  rcases x with x | x | x | x | x <;> exact ⟨_, rfl⟩
theorem r_alen {g : qG} {pc : Nat} {K : qK} (hd : decode g.1.2.1 pc = .ok (.arraylength, 1)) (h : qImp K (AW g (pc + 1))) : qImp (s_alen g K) (AW g pc) := by
  intro L st w kc ks hK
  unfold s_alen at hK
  split at hK
  · split at hK
    · rename_i t n hv
      obtain ⟨ht, x, hw⟩ := qlen_s hv
      intro p l e R s m args below meth c D cA z H locs ls X hH hS hL
      obtain ⟨y, hy⟩ := qe_len cA z t n x
      have hO := hH.one hw
      rw [hy] at hO
      obtain ⟨ty, hty⟩ : ∃ ty, (qT cA)[t]? = some (cA t, ty) := by
        match t, ht with
        | 0, _ => exact ⟨_, rfl⟩
        | 1, _ => exact ⟨_, rfl⟩
        | 2, _ => exact ⟨_, rfl⟩
        | 3, _ => exact ⟨_, rfl⟩
      exact va_alen X.1 X.2.1 X.2.2.2.2.2.1 hO 0 t rfl hty rfl hd (h _ _ _ _ _ hK p l e R s m args below meth c D cA z H locs ls X hH hS hL)
    · exact hK.elim
  · split at hK
    · rename_i n f hv
      intro p l e R s m args below meth c D cA z H locs ls X hH hS hL
      have hsc := X.2.2.2.2.2.2.2.2.2.2.2.2
      rw [hv] at hsc
      exact va_slen X.1 X.2.1 hsc.1 hsc.2.1 (qA_not hsc.2.2) hS hd (h _ _ _ _ _ hK p l e R s m args below meth c D cA z H locs ls X hH hS hL)
    · exact hK.elim
  · exact hK.elim
def s_iastore (K : qK) : qK := fun L st w kc ks => match st with
  | .int x :: .int i :: .ref p :: st => match qgI w p 0 with
    | some (n, f) => vp_in i n ∧ K L st (qsI w p (upd f i.toNatClampNeg x)) kc ks
    | none => False
  | _ => False
theorem r_iastore {g : qG} {pc : Nat} {K : qK} (hd : decode g.1.2.1 pc = .ok (.iastore, 1)) (h : qImp K (AW g (pc + 1))) : qImp (s_iastore K) (AW g pc) := by
  intro L st w kc ks hK
  unfold s_iastore at hK
  split at hK
  · rename_i x i pp st
    split at hK
    · rename_i n f hv
      have hw := qgI_s hv
      intro p l e R s m args below meth c D cA z H locs ls X hH hS hL
      refine W.iast X.1 X.2.1 (hH.2 pp _ hw) ((X.2.2.2.2.2.1.2 0 _ rfl).1 n (fun j => .int (f j))) (fun q => by cases q) (by show ¬ (i < 0 ∨ (arrV _ _ _).slots.size ≤ _); rw [arrV_size]; exact hK.1) rfl rfl hd fun H1 e1 z1 oq => ?_
      refine h _ _ _ _ _ hK.2 p l e R s m args below meth c D cA z H1 _ ls X (hH.up rfl (qsI_at hw) (fun q hq => qsI_ne hq) z1 ?_ oq) (hS.put z1 oq (qA_in pp)) hL
      show H1[z.1 + pp]? = some (vp_cell _ _)
      rw [e1]
      show some ((arrV (cA 0) n (fun j => .int (f j))).setSlot i.toNatClampNeg (.int x)) = some (arrV (cA 0) n (fun j => .int ((upd f i.toNatClampNeg x) j)))
      rw [arrV_store]
      congr 2
      funext q
      by_cases hq : q = i.toNatClampNeg
      · subst hq
        simp [updV, upd, vp_updL]
      · simp [updV, upd, vp_updL, hq]
    · exact hK.elim
  · exact hK.elim
def s_bastore (K : qK) : qK := fun L st w kc ks => match st with
  | .int x :: .int i :: .ref p :: st => match qgI w p 1 with
    | some (n, f) => vp_in i n ∧ (x = 0 ∨ x = 1) ∧ K L st (qsI w p (upd f i.toNatClampNeg x)) kc ks
    | none => False
  | _ => False
theorem r_bastore {g : qG} {pc : Nat} {K : qK} (hd : decode g.1.2.1 pc = .ok (.bastore, 1)) (h : qImp K (AW g (pc + 1))) : qImp (s_bastore K) (AW g pc) := by
  intro L st w kc ks hK
  unfold s_bastore at hK
  split at hK
  · rename_i x i pp st
    split at hK
    · rename_i n f hv
      have hw := qgI_s hv
      intro p l e R s m args below meth c D cA z H locs ls X hH hS hL
      refine W.zast X.1 X.2.1 (hH.2 pp _ hw) ((X.2.2.2.2.2.1.2 1 _ rfl).1 n (fun j => .int (f j))) (fun q => by cases q) (by show ¬ (i < 0 ∨ (arrV _ _ _).slots.size ≤ _); rw [arrV_size]; exact hK.1) rfl rfl hd fun H1 e1 z1 oq => ?_
      refine h _ _ _ _ _ hK.2.2 p l e R s m args below meth c D cA z H1 _ ls X (hH.up rfl (qsI_at hw) (fun q hq => qsI_ne hq) z1 ?_ oq) (hS.put z1 oq (qA_in pp)) hL
      show H1[z.1 + pp]? = some (vp_cell _ _)
      rw [e1]
      have hx : narrow .boolean (.int x) = .int x := by rcases hK.2.1 with q | q <;> rw [q] <;> rfl
      rw [hx]
      show some ((arrV (cA 1) n (fun j => .int (f j))).setSlot i.toNatClampNeg (.int x)) = some (arrV (cA 1) n (fun j => .int ((upd f i.toNatClampNeg x) j)))
      rw [arrV_store]
      congr 2
      funext q
      by_cases hq : q = i.toNatClampNeg
      · subst hq
        simp [updV, upd, vp_updL]
      · simp [updV, upd, vp_updL, hq]
    · exact hK.elim
  · exact hK.elim
def s_lastore (K : qK) : qK := fun L st w kc ks => match st with
  | .long x :: .int i :: .ref p :: st => match qgL w p with
    | some (n, f) => vp_in i n ∧ K L st (qsL w p (vp_updL f i.toNatClampNeg x)) kc ks
    | none => False
  | _ => False
theorem r_lastore {g : qG} {pc : Nat} {K : qK} (hd : decode g.1.2.1 pc = .ok (.lastore, 1)) (h : qImp K (AW g (pc + 1))) : qImp (s_lastore K) (AW g pc) := by
  intro L st w kc ks hK
  unfold s_lastore at hK
  split at hK
  · rename_i x i pp st
    split at hK
    · rename_i n f hv
      have hw := qgL_s hv
      intro p l e R s m args below meth c D cA z H locs ls X hH hS hL
      refine W.last X.1 X.2.1 (hH.2 pp _ hw) ((X.2.2.2.2.2.1.2 2 _ rfl).1 n (fun j => .long (f j))) (fun q => by cases q) (by show ¬ (i < 0 ∨ (arrV _ _ _).slots.size ≤ _); rw [arrV_size]; exact hK.1) rfl rfl hd fun H1 e1 z1 oq => ?_
      refine h _ _ _ _ _ hK.2 p l e R s m args below meth c D cA z H1 _ ls X (hH.up rfl (qsL_at hw) (fun q hq => qsL_ne hq) z1 ?_ oq) (hS.put z1 oq (qA_in pp)) hL
      show H1[z.1 + pp]? = some (vp_cell _ _)
      rw [e1]
      show some ((arrV (cA 2) n (fun j => .long (f j))).setSlot i.toNatClampNeg (.long x)) = some (arrV (cA 2) n (fun j => .long ((vp_updL f i.toNatClampNeg x) j)))
      rw [arrV_store]
      congr 2
      funext q
      by_cases hq : q = i.toNatClampNeg
      · subst hq
        simp [updV, upd, vp_updL]
      · simp [updV, upd, vp_updL, hq]
    · exact hK.elim
  · exact hK.elim
def s_aastore (K : qK) : qK := fun L st w kc ks => match st with
  | .ref v :: .int i :: .ref p :: st => match qgR w p, qgF w v 0 0 with
    | some (n, f), some _ => vp_in i n ∧ K L st (qsR w p (va_up f i.toNatClampNeg (some v))) kc ks
    | _, _ => False
  | _ => False
theorem r_aastore {g : qG} {pc : Nat} {K : qK} (hd : decode g.1.2.1 pc = .ok (.aastore, 1)) (h : qImp K (AW g (pc + 1))) : qImp (s_aastore K) (AW g pc) := by
  intro L st w kc ks hK
  unfold s_aastore at hK
  split at hK
  · rename_i v i pp st
    split at hK
    · rename_i n f v0 hv hv2
      have hw := qgR_s hv
      obtain ⟨fs, hw2, -⟩ := qgF_s hv2
      obtain ⟨hin, hK⟩ := hK
      intro p l e R s m args below meth c D cA z H locs ls X hH hS hL
      have hlt : i.toNatClampNeg < n := Nat.not_le.mp fun q => hin (Or.inr q)
      have h0 : ¬ i < 0 := fun q => hin (Or.inl q)
      obtain ⟨r', hr', cellV, g1, g2, g3, -⟩ := hH.2 v _ hw2
      have hcls := (X.2.2.2.2.2.1.1 0 _ rfl).2
      obtain ⟨kA, comp, k1, k2, k3, -⟩ := (X.2.2.2.2.2.1.2 3 _ rfl).2
      have hcomp : comp = D.1 0 := Option.some.inj (k3.symm.trans hcls.1)
      subst hcomp
      obtain ⟨kC, hkC, -⟩ := hcls.2
      refine W.aast X.1 X.2.1 (hH.2 pp _ hw) (fun q h => by cases h) (fun h => by cases h) k1 k2 rfl hkC ⟨h0, by show _ < (arrV _ _ _).slots.size; rw [arrV_size]; exact hlt⟩ g1 (fun q h => by rw [g3] at h; cases h) (by rw [g2]; exact hkC) (by rw [g2]; exact va_assign hcls) rfl rfl hd fun H1 e1 z1 oq => ?_
      refine h _ _ _ _ _ hK p l e R s m args below meth c D cA z H1 _ ls X (hH.up rfl (qsR_at hw) (fun q hq => qsR_ne hq) z1 ?_ oq) (hS.put z1 oq (qA_in pp)) hL
      show H1[z.1 + pp]? = some (vp_cell _ _)
      rw [e1]
      show some ((arrV (cA 3) n (fun j => va_rf ((f j).map (z.1 + ·)))).setSlot i.toNatClampNeg (.ref (z.1 + v))) = some (arrV (cA 3) n (fun j => va_rf (((va_up f i.toNatClampNeg (some v)) j).map (z.1 + ·))))
      rw [arrV_store]
      congr 2
      funext q
      by_cases hq : q = i.toNatClampNeg
      · subst hq
        simp [updV, va_up, va_rf]
      · simp [updV, va_up, hq]
    · exact hK.elim
  · exact hK.elim

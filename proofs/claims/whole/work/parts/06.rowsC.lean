/-- a new object -/
def qNw (own : String) (idx ci N : Nat) (fs : List Value) : Prop := ∃ (C : String) (T : u_T) (ty0 : Nat → FieldType), vwCl[ci]? = some (C, T, N) ∧ (∀ w ∈ u_ws C T N, w ∈ qg) ∧ (∀ k, k < N → parseFieldDescriptor (T k).2.2.1 = some (ty0 k)) ∧ Cond.classLink own idx C ∈ qg ∧ Cond.instantiable C N ∈ qg ∧ Cond.initialized C ∈ qg ∧ (∀ j, j < N → defaultValue (ty0 j) = vp_V fs j) ∧ ∀ z, fs.map (qv z) = fs
def s_new (g : qG) (ci N : Nat) (fs : List Value) (K : qK) : qK := fun L st w kc ks => (kc + 1 ≤ g.2.2.1 ∧ ks + N ≤ g.2.2.2.1) ∧ K L (.ref w.1 :: st) (qpu w (.inr (ci, fs))) (kc + 1) (ks + N)
theorem va_S.pushed {A : Nat → Prop} {H0 H H1 : Heap} {locs : List Loc} (h : va_S A H0 H locs) (z1 : H1.size = H.size + 1) (o1 : ∀ q : Nat, q < H.size → H1[q]? = H[q]?) : va_S A H0 H1 locs := ⟨Nat.le_trans h.1 (by omega), fun x h1 h2 => (o1 x (Nat.lt_of_lt_of_le h1 h.1)).trans (h.2.1 x h1 h2), h.2.2⟩
theorem r_new {g : qG} {pc : Nat} {K : qK} {idx ci N : Nat} {fs : List Value} (hd : decode g.1.2.1 pc = .ok (.new idx, 3)) (hN : qNw g.1.1.cls idx ci N fs) (h : qImp K (AW g (pc + 3))) : qImp (s_new g ci N fs K) (AW g pc) := by
  intro L st w kc ks hK p l e R s m args below meth c D cA z H locs ls X hH hS hL
  obtain ⟨C, T, ty0, hc, hin, hty, h1, h2, h3, h4, h5⟩ := hN
  have hts := X.2.2.2.2.1
  have hKn := X.2.2.2.2.2.1.1 ci _ hc
  refine W.newcK X.1 X.2.1 X.2.2.2.1 (hts _ h1) (hts _ h2) (hts _ h3) rfl hd (Nat.le_trans hK.1.1 X.2.2.2.2.2.2.2.2.2.2.2.1.2.1) (Nat.le_trans hK.1.2 X.2.2.2.2.2.2.2.2.2.2.2.1.2.2.1) hKn.2.1 rfl fun H1 kC hkC e1 z1 o1 => ?_
  have e0 : H.size = z.1 + w.1 := hH.1
  have hk := h _ _ _ _ _ hK.2 p l e R s m args below meth c D cA z H1 locs ls X (hH.push z1 (by
    rw [qe_obj, h5]
    rw [← e0]
    exact ⟨_, hc, (u_born ty0 hts hin hKn hkC e1 hty).to h4⟩) o1) (hS.pushed z1 o1) hL
  have e2 : (Value.ref H.size) = qv z (.ref w.1) := by rw [e0]; rfl
  show W p l e R s m args below meth c H1 locs (kc + 1) (ks + N) _ (F0 m (pc + 3) ls (.ref H.size :: st.map (qv z)))
  rw [e2]
  exact hk
def s_newI (g : qG) (t : Nat) (K : qK) : qK := fun L st w kc ks => match st with
  | .int n :: st => (¬ n < 0 ∧ n.toNatClampNeg ≤ 100000 ∧ kc + 1 ≤ g.2.2.1 ∧ ks + n.toNatClampNeg ≤ g.2.2.2.1) ∧ K L (.ref w.1 :: st) (qpu w (.inl (t, n.toNatClampNeg, .inl (fun _ => 0)))) (kc + 1) (ks + n.toNatClampNeg)
  | _ => False
def s_newL (g : qG) (K : qK) : qK := fun L st w kc ks => match st with
  | .int n :: st => (¬ n < 0 ∧ n.toNatClampNeg ≤ 100000 ∧ kc + 1 ≤ g.2.2.1 ∧ ks + n.toNatClampNeg ≤ g.2.2.2.1) ∧ K L (.ref w.1 :: st) (qpu w (.inl (2, n.toNatClampNeg, .inr (.inl (fun _ => 0))))) (kc + 1) (ks + n.toNatClampNeg)
  | _ => False
theorem r_newI0 {g : qG} {pc : Nat} {K : qK} (hd : decode g.1.2.1 pc = .ok (.newarray .int, 2)) (ha : Cond.arrayClass .int ∈ qg) (h : qImp K (AW g (pc + 2))) : qImp (s_newI g 0 K) (AW g pc) := by
  intro L st w kc ks hK
  unfold s_newI at hK
  split at hK
  · rename_i n st
    obtain ⟨⟨hn, hb, hc1, hc2⟩, hK⟩ := hK
    intro p l e R s m args below meth c D cA z H locs ls X hH hS hL
    have e0 : H.size = z.1 + w.1 := hH.1
    refine va_newaK (atype := .int) X.1 X.2.1 (X.2.2.2.2.1 _ ha) rfl hd rfl hn rfl (by show _ * 4 ≤ _; omega) (Nat.le_trans hc1 X.2.2.2.2.2.2.2.2.2.2.2.1.2.1) (Nat.le_trans hc2 X.2.2.2.2.2.2.2.2.2.2.2.1.2.2.1) rfl fun H1 cA' e1 z1 o1 hAr hNm => ?_
    have hcA : cA' = cA 0 := Option.some.inj (hNm.symm.trans (X.2.2.2.2.2.1.2 0 _ rfl).2)
    rw [hcA] at e1
    have hk := h _ _ _ _ _ hK p l e R s m args below meth c D cA z H1 locs ls X (hH.push z1 (by rw [← e0]; exact e1) o1) (hS.pushed z1 o1) hL
    have e2 : (Value.ref H.size) = qv z (.ref w.1) := by rw [e0]; rfl
    show W p l e R s m args below meth c H1 locs _ _ _ (F0 m (pc + 2) ls (.ref H.size :: st.map (qv z)))
    rw [e2]
    exact hk
  · exact hK.elim
theorem r_newI1 {g : qG} {pc : Nat} {K : qK} (hd : decode g.1.2.1 pc = .ok (.newarray .boolean, 2)) (ha : Cond.arrayClass .boolean ∈ qg) (h : qImp K (AW g (pc + 2))) : qImp (s_newI g 1 K) (AW g pc) := by
  intro L st w kc ks hK
  unfold s_newI at hK
  split at hK
  · rename_i n st
    obtain ⟨⟨hn, hb, hc1, hc2⟩, hK⟩ := hK
    intro p l e R s m args below meth c D cA z H locs ls X hH hS hL
    have e0 : H.size = z.1 + w.1 := hH.1
    refine va_newaK (atype := .boolean) X.1 X.2.1 (X.2.2.2.2.1 _ ha) rfl hd rfl hn rfl (by show _ * 1 ≤ _; omega) (Nat.le_trans hc1 X.2.2.2.2.2.2.2.2.2.2.2.1.2.1) (Nat.le_trans hc2 X.2.2.2.2.2.2.2.2.2.2.2.1.2.2.1) rfl fun H1 cA' e1 z1 o1 hAr hNm => ?_
    have hcA : cA' = cA 1 := Option.some.inj (hNm.symm.trans (X.2.2.2.2.2.1.2 1 _ rfl).2)
    rw [hcA] at e1
    have hk := h _ _ _ _ _ hK p l e R s m args below meth c D cA z H1 locs ls X (hH.push z1 (by rw [← e0]; exact e1) o1) (hS.pushed z1 o1) hL
    have e2 : (Value.ref H.size) = qv z (.ref w.1) := by rw [e0]; rfl
    show W p l e R s m args below meth c H1 locs _ _ _ (F0 m (pc + 2) ls (.ref H.size :: st.map (qv z)))
    rw [e2]
    exact hk
  · exact hK.elim
theorem r_newL {g : qG} {pc : Nat} {K : qK} (hd : decode g.1.2.1 pc = .ok (.newarray .long, 2)) (ha : Cond.arrayClass .long ∈ qg) (h : qImp K (AW g (pc + 2))) : qImp (s_newL g K) (AW g pc) := by
  intro L st w kc ks hK
  unfold s_newL at hK
  split at hK
  · rename_i n st
    obtain ⟨⟨hn, hb, hc1, hc2⟩, hK⟩ := hK
    intro p l e R s m args below meth c D cA z H locs ls X hH hS hL
    have e0 : H.size = z.1 + w.1 := hH.1
    refine va_newaK (atype := .long) X.1 X.2.1 (X.2.2.2.2.1 _ ha) rfl hd rfl hn rfl (by show _ * 8 ≤ _; omega) (Nat.le_trans hc1 X.2.2.2.2.2.2.2.2.2.2.2.1.2.1) (Nat.le_trans hc2 X.2.2.2.2.2.2.2.2.2.2.2.1.2.2.1) rfl fun H1 cA' e1 z1 o1 hAr hNm => ?_
    have hcA : cA' = cA 2 := Option.some.inj (hNm.symm.trans (X.2.2.2.2.2.1.2 2 _ rfl).2)
    rw [hcA] at e1
    have hk := h _ _ _ _ _ hK p l e R s m args below meth c D cA z H1 locs ls X (hH.push z1 (by rw [← e0]; exact e1) o1) (hS.pushed z1 o1) hL
    have e2 : (Value.ref H.size) = qv z (.ref w.1) := by rw [e0]; rfl
    show W p l e R s m args below meth c H1 locs _ _ _ (F0 m (pc + 2) ls (.ref H.size :: st.map (qv z)))
    rw [e2]
    exact hk
  · exact hK.elim
def s_newR (g : qG) (K : qK) : qK := fun L st w kc ks => match st with
  | .int n :: st => (¬ n < 0 ∧ n.toNatClampNeg ≤ 100000 ∧ kc + 1 ≤ g.2.2.1 ∧ ks + n.toNatClampNeg ≤ g.2.2.2.1) ∧ K L (.ref w.1 :: st) (qpu w (.inl (3, n.toNatClampNeg, .inr (.inr (.inr (.inr (fun _ => none))))))) (kc + 1) (ks + n.toNatClampNeg)
  | _ => False
theorem r_newR {g : qG} {pc idx : Nat} {K : qK} (hd : decode g.1.2.1 pc = .ok (.anewarray idx, 3)) (ha : Cond.classLink g.1.1.cls idx "SealLine$FileSet" ∈ qg) (h : qImp K (AW g (pc + 3))) : qImp (s_newR g K) (AW g pc) := by
  intro L st w kc ks hK
  unfold s_newR at hK
  split at hK
  · rename_i n st
    obtain ⟨⟨hn, hb, hc1, hc2⟩, hK⟩ := hK
    intro p l e R s m args below meth c D cA z H locs ls X hH hS hL
    have e0 : H.size = z.1 + w.1 := hH.1
    refine W.anew X.1 X.2.1 X.2.2.2.1 (X.2.2.2.2.1 _ ha) (va_AO.use X.2.2.2.2.2.2.1.2) rfl hd rfl hn (by omega) (Nat.le_trans hc1 X.2.2.2.2.2.2.2.2.2.2.2.1.2.1) (Nat.le_trans hc2 X.2.2.2.2.2.2.2.2.2.2.2.1.2.2.1) fun cA' kA comp f1 f2 f3 f4 => ?_
    generalize hH1 : H.push ({ cls := cA', slots := Array.replicate n.toNatClampNeg .null, vm := .none } : Cell) = H1
    have z1 : H1.size = H.size + 1 := by rw [← hH1, Array.size_push]
    have e1 : H1[H.size]? = some (arrV cA' n.toNatClampNeg (fun _ => .null)) := by rw [← hH1, Array.getElem?_push_size, ← arrV_new]
    have o1 : ∀ q : Nat, q < H.size → H1[q]? = H[q]? := fun q hq => by rw [← hH1, Array.getElem?_push, if_neg (Nat.ne_of_lt hq)]
    obtain ⟨_, _, _, _, _, f5⟩ := (X.2.2.2.2.2.1.2 3 _ rfl).2
    have hcA : cA' = cA 3 := Option.some.inj (f1.symm.trans f5)
    rw [hcA] at e1
    have hk := h _ _ _ _ _ hK p l e R s m args below meth c D cA z H1 locs ls X (hH.push z1 (by rw [← e0]; exact e1) o1) (hS.pushed z1 o1) hL
    have e2 : (Value.ref H.size) = qv z (.ref w.1) := by rw [e0]; rfl
    show W p l e R s m args below meth c H1 locs _ _ _ (F0 m (pc + 3) ls (.ref H.size :: st.map (qv z)))
    rw [e2]
    exact hk
  · exact hK.elim
theorem q_sum (z : qZ) : ∀ (st : List Value) (n : Nat), st.length ≤ n → ((st.map (qv z)).map fun v => v.category).sum ≤ 2 * n
  | [], n, _ => Nat.zero_le _
  | v :: st, 0, h => absurd h (by simp)
  | v :: st, n + 1, h => by
    have h1 := q_sum z st n (by simpa using h)
    have h2 : (qv z v).category ≤ 2 := by rcases lv_cat (qv z v) with q | q <;> omega
    simp only [List.map_cons, List.sum_cons]
    omega
/-- Object's constructor -/
def s_oinit (g : qG) (K : qK) : qK := fun L st w kc ks => match st with
  | .ref _ :: st => (st.length ≤ 4 ∧ 1 ≤ g.2.1) ∧ K L st w kc ks
  | _ => False
theorem r_oinit {g : qG} {pc idx : Nat} {K : qK} (hd : decode g.1.2.1 pc = .ok (.invokespecial idx, 3)) (h1 : Cond.methodLink g.1.1.cls idx Lib.objectInit ∈ qg) (h2 : Cond.instanceMethod Lib.objectInit ∈ qg) (h3 : Cond.code Lib.objectInit ⟨#[0xb1]⟩ 1 none ∈ qg) (h : qImp K (AW g (pc + 3))) : qImp (s_oinit g K) (AW g pc) := by
  intro L st w kc ks hK
  unfold s_oinit at hK
  split at hK
  · rename_i a st
    intro p l e R s m args below meth c D cA z H locs ls X hH hS hL
    have hts := X.2.2.2.2.1
    have hR := X.2.2.2.2.2.2.2.2.2.2.2.1
    have hsum := q_sum z st 4 hK.1.1
    refine W.objInit (rest := st.map (qv z)) X.1 X.2.1 X.2.2.2.1 (hts _ h1) (hts _ h2) (hts _ h3) rfl (hL.1.trans X.2.2.1.symm) rfl hd (by have := hK.1.2; omega) (by show 2 * 0 + _ + 12 ≤ _; have := hK.1.2; omega) (h _ _ _ _ _ hK.2 p l e R s m args below meth c D cA z H locs ls X hH hS hL)
  · exact hK.elim
def s_ireturn (g : qG) : qK := fun _ st w kc ks => match st with
  | [.int v] => (kc ≤ g.2.2.1 ∧ ks ≤ g.2.2.2.1) ∧ g.2.2.2.2.2 (some (.int v)) w
  | _ => False
theorem r_ireturn {g : qG} {pc : Nat} (hd : decode g.1.2.1 pc = .ok (.ireturn, 1)) (hr : g.1.2.2.2 = some .int) : qImp (s_ireturn g) (AW g pc) := by
  intro L st w kc ks hK
  unfold s_ireturn at hK
  split at hK
  · rename_i v
    intro p l e R s m args below meth c D cA z H locs ls X hH hS hL
    refine W.widen (k := g.2.2.1) (n := g.2.2.2.1) hK.1.1 hK.1.2 ?_
    exact W.iret (v := v) X.1 X.2.1 (X.2.2.2.2.2.2.2.1.trans hr) (fun t ht hW => ⟨⟨some (.int v), w, rfl, hK.2, by rw [ht]; exact hH⟩, hS.F ht⟩) hS.2.2 hd X.2.2.2.2.2.2.2.2.1
  · exact hK.elim
def s_zreturn (g : qG) : qK := fun _ st w kc ks => match st with
  | [.int v] => (kc ≤ g.2.2.1 ∧ ks ≤ g.2.2.2.1) ∧ (v = 0 ∨ v = 1) ∧ g.2.2.2.2.2 (some (.int v)) w
  | _ => False
theorem r_zreturn {g : qG} {pc : Nat} (hd : decode g.1.2.1 pc = .ok (.ireturn, 1)) (hr : g.1.2.2.2 = some .boolean) : qImp (s_zreturn g) (AW g pc) := by
  intro L st w kc ks hK
  unfold s_zreturn at hK
  split at hK
  · rename_i v
    intro p l e R s m args below meth c D cA z H locs ls X hH hS hL
    refine W.widen (k := g.2.2.1) (n := g.2.2.2.1) hK.1.1 hK.1.2 ?_
    exact W.zret (v := v) X.1 X.2.1 (X.2.2.2.2.2.2.2.1.trans hr) (by rcases hK.2.1 with q | q <;> rw [q] <;> rfl) (fun t ht hW => ⟨⟨some (.int v), w, rfl, hK.2.2, by rw [ht]; exact hH⟩, hS.F ht⟩) hS.2.2 hd X.2.2.2.2.2.2.2.2.1
  · exact hK.elim
def s_lreturn (g : qG) : qK := fun _ st w kc ks => match st with
  | [.long v] => (kc ≤ g.2.2.1 ∧ ks ≤ g.2.2.2.1) ∧ g.2.2.2.2.2 (some (.long v)) w
  | _ => False
theorem r_lreturn {g : qG} {pc : Nat} (hd : decode g.1.2.1 pc = .ok (.lreturn, 1)) (hr : g.1.2.2.2 = some .long) : qImp (s_lreturn g) (AW g pc) := by
  intro L st w kc ks hK
  unfold s_lreturn at hK
  split at hK
  · rename_i v
    intro p l e R s m args below meth c D cA z H locs ls X hH hS hL
    refine W.widen (k := g.2.2.1) (n := g.2.2.2.1) hK.1.1 hK.1.2 ?_
    exact W.lret (v := v) X.1 X.2.1 (X.2.2.2.2.2.2.2.1.trans hr) (fun t ht hW => ⟨⟨some (.long v), w, rfl, hK.2, by rw [ht]; exact hH⟩, hS.F ht⟩) hS.2.2 hd X.2.2.2.2.2.2.2.2.1
  · exact hK.elim
def s_vreturn (g : qG) : qK := fun _ st w kc ks => match st with
  | [] => (kc ≤ g.2.2.1 ∧ ks ≤ g.2.2.2.1) ∧ g.2.2.2.2.2 none w
  | _ => False
theorem r_vreturn {g : qG} {pc : Nat} (hd : decode g.1.2.1 pc = .ok (.return_, 1)) (hr : g.1.2.2.2 = none) : qImp (s_vreturn g) (AW g pc) := by
  intro L st w kc ks hK
  unfold s_vreturn at hK
  split at hK
  · intro p l e R s m args below meth c D cA z H locs ls X hH hS hL
    refine W.widen (k := g.2.2.1) (n := g.2.2.2.1) hK.1.1 hK.1.2 ?_
    exact W.vret X.1 X.2.1 (X.2.2.2.2.2.2.2.1.trans hr) (fun t ht hW => ⟨⟨none, w, rfl, hK.2, by rw [ht]; exact hH⟩, hS.F ht⟩) hS.2.2 hd X.2.2.2.2.2.2.2.2.1
  · exact hK.elim
def s_areturn (g : qG) : qK := fun _ st w kc ks => match st with
  | [.ref v] => (kc ≤ g.2.2.1 ∧ ks ≤ g.2.2.2.1) ∧ g.2.2.2.2.2 (some (.ref v)) w
  | _ => False
theorem r_areturn {g : qG} {pc : Nat} {rt : FieldType} (hd : decode g.1.2.1 pc = .ok (.areturn, 1)) (hr : g.1.2.2.2 = some rt) (hrt : (∃ n, rt = .object n) ∨ ∃ t, rt = .array t) : qImp (s_areturn g) (AW g pc) := by
  intro L st w kc ks hK
  unfold s_areturn at hK
  split at hK
  · rename_i v
    intro p l e R s m args below meth c D cA z H locs ls X hH hS hL
    refine W.widen (k := g.2.2.1) (n := g.2.2.2.1) hK.1.1 hK.1.2 ?_
    exact W.aret (v := .ref (z.1 + v)) X.1 X.2.1 (X.2.2.2.2.2.2.2.1.trans hr) hrt (Or.inr ⟨_, rfl⟩) (fun t ht hW => ⟨⟨some (.ref v), w, rfl, hK.2, by rw [ht]; exact hH⟩, hS.F ht⟩) hS.2.2 hd X.2.2.2.2.2.2.2.2.1
  · exact hK.elim
/-! contracts -/
def qr (d mc ms : Nat) : Room := { frames := d, cells := mc, slots := ms, locals := 50 * d }
def CT (M : qM) (d mc ms : Nat) (av : List Value) (w : qW) (Q : Option Value → qW → Prop) : Prop := ∀ (l : Launch) (D : va_G) (cA : Nat → ClassId) (z : qZ), Met l M.1 (Cond.code M.1 M.2.1 M.2.2.1 M.2.2.2 :: qg) (qr d mc ms) (va_Pc (av.map (qv z)) (fun U => qH D cA z w U.heap ∧ va_K D vwCl (qT cA) U ∧ qNx U)) (qQ D cA z Q) mc ms (qA z)
def qlv : List Value → qL
  | [] => []
  | v :: vs => if v.category = 2 then some v :: none :: qlv vs else some v :: qlv vs
theorem qlv_len (z : qZ) : ∀ av : List Value, (lg_sl (av.map (qv z))).length = (qlv av).length
  | [] => rfl
  | v :: vs => by
    have ih := qlv_len z vs
    unfold lg_sl at ih ⊢
    simp only [List.map_cons, List.flatMap_cons, List.length_append, qv_cat, qlv, ih]
    by_cases h : v.category = 2
    · simp [h]; omega
    · simp [h]; omega
theorem qlv_in (z : qZ) : ∀ (av : List Value) (k i : Nat) (v : Value), (qlv av)[i]? = some (some v) → (k + i, qv z v) ∈ lv_args k (av.map (qv z))
  | [], k, i, v, h => by simp [qlv] at h
  | u :: vs, k, i, v, h => by
    simp only [List.map_cons, lv_args, qv_cat]
    by_cases hu : u.category = 2
    · simp only [qlv, hu, if_true] at h ⊢
      match i, h with
      | 0, h => simp at h; rw [h]; exact List.mem_cons_self
      | 1, h => simp at h
      | i + 2, h =>
        have := qlv_in z vs (k + 2) i v (by simpa using h)
        exact List.mem_cons_of_mem _ (by rw [show k + (i + 2) = k + 2 + i by omega]; exact this)
    · simp only [qlv, hu, if_false] at h ⊢
      match i, h with
      | 0, h => simp at h; rw [h]; exact List.mem_cons_self
      | i + 1, h =>
        have := qlv_in z vs (k + 1) i v (by simpa using h)
        exact List.mem_cons_of_mem _ (by rw [show k + (i + 1) = k + 1 + i by omega]; exact this)
theorem qsc_none (z : qZ) (s : State) : qSc none z s := trivial
theorem CT_of {M : qM} {d mc ms : Nat} {av : List Value} {w : qW} {Q : Option Value → qW → Prop} {L : qL} (hy : plainFor M.1 = true) (hL : qlv av ++ List.replicate (M.2.2.1 - (qlv av).length) none = L) (hlen : (qlv av).length ≤ M.2.2.1) (h : AW (M, d, mc, ms, none, Q) 0 L [] w 0 0) : CT M d mc ms av w Q := by
  intro l D cA z
  refine va_MetF (cc := M.2.1) (maxL := M.2.2.1) (ret := M.2.2.2) hy rfl ?_
  intro p e s m args below meth c s₁ B hml hv
  obtain ⟨rfl, hH, hK, hN⟩ := hv
  have hts := atoms_spec B.pre
  have hown : s.vm.findClass M.1.cls = some m.cls := findClass_of_methodNamed B.named
  rw [lg_entry_eq]
  refine h p l e _ s m _ below meth c D cA z s.heap [] _ ⟨B.exec, B.bytes, hml, hown, fun w hw => hts w (List.mem_cons_of_mem _ hw), hK, hN, B.returns, B.notSynchronized, (name_of_methodNamed B.named B.method).1, by rw [hH.1]; exact Nat.le_add_right _ _, ⟨Nat.le_refl _, Nat.le_refl _, Nat.le_refl _, Nat.le_refl _⟩, trivial⟩ hH va_S.rf ?_
  refine qR.sub (lv_entry (av.map (qv z)) (n := M.2.2.1) (by rw [qlv_len]; exact hlen)) fun i v hi => ?_
  rw [← hL] at hi
  have h2 : (qlv av)[i]? = some (some v) := by
    by_cases q : i < (qlv av).length
    · rwa [List.getElem?_append_left q] at hi
    · rw [List.getElem?_append_right (by omega), List.getElem?_replicate] at hi
      split at hi <;> cases hi
  have := qlv_in z av 0 i v h2
  rwa [Nat.zero_add] at this

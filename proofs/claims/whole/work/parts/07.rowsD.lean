theorem q_run {p : Program} {l : Launch} {e : Env} {R : Room} {s : State} {m : MethodId} {args : Array Value} {below : List Frame} {meth : Method} {c : Code} {H : Heap} {locs : List Loc} {cells slots mc ms : Nat} {Z : State → Prop} {pc : Nat} {ls : Array Slot} {st0 rest : List Value} {D : va_G} {cA : Nat → ClassId} {z : qZ} {Q : Option Value → qW → Prop} {a : Array Value}
    (hr : va_Run p l e R s m args below meth c H locs cells slots mc ms (F0 m pc ls st0) rest (qQ D cA z Q a) (qA z)) (hS : va_S (qA z) s.heap H locs)
    (kk : ∀ (r : Option Value) (w : qW) (H1 : Heap) (locs1 : List Loc), Q r w → qH D cA z w H1 → va_S (qA z) s.heap H1 locs1 → W p l e R s m args below meth c H1 locs1 (cells + mc) (slots + ms) Z (F0 m (pc + 3) ls ((r.map (qv z)).toList ++ rest))) : W p l e R s m args below meth c H locs cells slots Z (F0 m pc ls st0) := by
  intro T hT X
  obtain ⟨v, st₀, t, T', L, h0, X', hL, e1, e2, ⟨⟨r, w, hv, hq, hh⟩, hz, hk⟩, st⟩ := hr T hT X
  cases hv
  rw [h0] at hz hk
  obtain ⟨t2, a1, b1⟩ := kk r w T'.heap (locs ++ L) hq (by rw [e1]; exact hh) ⟨Nat.le_trans hS.1 (by rw [e1]; exact hz), fun q h1 h2 => by rw [e1, hk q (Nat.lt_of_lt_of_le h1 hS.1) h2]; exact hS.2.1 q h1 h2, fun q hq => by
      rcases List.mem_append.mp hq with h | h
      · exact hS.2.2 q h
      · exact hL q h⟩ T' rfl X'
  exact ⟨t2, st t2 a1, b1⟩
theorem qNx.moved {s U : State} (hW : s.WarmedH U.vm) (h : qNx s) : qNx U := ⟨fun q hq => (h.1 q hq).warmM hW, h.2.moved hW.alike⟩
theorem q_blind {D : va_G} {cA : Nat → ClassId} {z : qZ} {w : qW} {av : List Value} : FrameBlind (va_Pc av (fun U => qH D cA z w U.heap ∧ va_K D vwCl (qT cA) U ∧ qNx U)) := fun a U g mk q => ⟨q.1, q.2.1, va_K.moved (u := U) (U := U.calling g mk a) (Vm.Alike.refl U.vm) q.2.2.1, fun x hx => (q.2.2.2.1 x hx).same (u := U) (U := U.calling g mk a) rfl rfl, va_AO.moved (u := U) (U := U.calling g mk a) (Vm.Alike.refl U.vm) q.2.2.2.2⟩
def qci (w : qW) (p : Nat) : Option Nat := match w.2 p with
  | some (.inr (c, _)) => some c
  | _ => none
theorem qci_s {w : qW} {p ci : Nat} (h : qci w p = some ci) : ∃ fs, w.2 p = some (.inr (ci, fs)) := by
  unfold qci at h
  split at h
  · rename_i c fs hw
    cases h
    exact ⟨fs, hw⟩
  · cases h
/-- what a call needs of the tables: the callee's own words, and how many it takes -/
def qMk (M : qM) (n : Nat) : Prop := Cond.code M.1 M.2.1 M.2.2.1 M.2.2.2 ∈ qg ∧ Cond.initialized M.1.cls ∈ qg ∧ (M.1.cls ≠ "java/lang/invoke/MethodHandle" ∧ M.1.cls ≠ "java/lang/invoke/VarHandle" ∧ (parseMethodDescriptor M.1.desc).map (fun d => d.parameters.length) = some n) ∧ M.2.2.1 ≤ 31
def qMv (M : qM) (n : Nat) : Prop := qMk M n ∧ Cond.instanceMethod M.1 ∈ qg ∧ Cond.selects M.1.cls M.1 M.1 ∈ qg
def qMs (M : qM) (n : Nat) : Prop := qMk M n ∧ Cond.static M.1 ∈ qg
def qMi (M : qM) (n : Nat) : Prop := qMk M n ∧ Cond.instanceMethod M.1 ∈ qg ∧ M.1.name = "<init>" ∧ M.2.2.2 = none
def qLk (own : String) (idx : Nat) (M : qM) : Prop := Cond.methodLink own idx M.1 ∈ qg
def qLn (own : String) (idx : Nat) (M : qM) (host : String) : Prop := (own, idx, M.1, host) ∈ qnest
theorem qgc {w : Cond} (h : w ∈ qg) : w ∈ qg ∧ ((w.onTables && w.keeps) = true ∨ ∃ ty, w = .arrayClass ty) := qg_good w h
theorem qg_ws {M : qM} {n : Nat} (h : qMk M n) : GoodIn qg (Cond.code M.1 M.2.1 M.2.2.1 M.2.2.2 :: qg) := fun w hw => by
  rcases List.mem_cons.mp hw with e | e
  · rw [e]; exact qgc h.1
  · exact qgc e
theorem qg_wsV {M : qM} {n idx : Nat} {own : String} (h : qMv M n) (hl : qLk own idx M) : GoodIn qg (wsV own idx M.1.cls M.1 (Cond.code M.1 M.2.1 M.2.2.1 M.2.2.2 :: qg)) := fun w hw => by
  unfold wsV at hw
  rcases List.mem_append.mp hw with e | e
  · simp only [List.mem_cons, List.not_mem_nil, or_false] at e
    rcases e with e | e | e | e <;> rw [e]
    · exact qgc hl
    · exact qgc h.2.1
    · exact qgc h.2.2
    · exact qgc h.1.2.1
  · exact qg_ws h.1 w e
theorem qg_wsS {M : qM} {n idx : Nat} {own : String} (h : qMs M n) (hl : qLk own idx M) : GoodIn qg (va_wsS own idx M.1 (Cond.code M.1 M.2.1 M.2.2.1 M.2.2.2 :: qg)) := fun w hw => by
  unfold va_wsS at hw
  rcases List.mem_append.mp hw with e | e
  · simp only [List.mem_cons, List.not_mem_nil, or_false] at e
    rcases e with e | e | e <;> rw [e]
    · exact qgc hl
    · exact qgc h.2
    · exact qgc h.1.2.1
  · exact qg_ws h.1 w e
theorem qCV_room {g : qG} {R : Room} {M : qM} {n d : Nat} (h : qMk M n) (hd : d + 1 ≤ g.2.1) (hR : g.2.1 ≤ R.frames ∧ g.2.2.1 ≤ R.cells ∧ g.2.2.2.1 ≤ R.slots ∧ 50 * g.2.1 ≤ R.locals) : d + 1 ≤ R.frames ∧ 8 + (M.2.2.1 + 11) + 50 * d ≤ R.locals := by
  have := h.2.2.2
  omega
theorem qrev (z : qZ) (As : List Value) (x : Value) (rest : List Value) : (As.reverse ++ x :: rest).map (qv z) = (As.map (qv z)).reverse ++ qv z x :: rest.map (qv z) := by simp [List.map_reverse]
theorem a_callV {g : qG} {pc idx : Nat} {L : qL} {w : qW} {kc ks : Nat} {M : qM} {d mc ms n : Nat} {Q : Option Value → qW → Prop} {q : Nat} (As rest : List Value) (hd : decode g.1.2.1 pc = .ok (.invokevirtual idx, 3)) (hm : qMv M n) (hl : qLk g.1.1.cls idx M) (hC : CT M d mc ms (.ref q :: As) w Q) {ci : Nat} (hq : qci w q = some ci) (hcl : (vwCl[ci]?).map (fun x => x.1) = some M.1.cls) (hn : As.length = n) (hst : rest.length ≤ 4) (hdp : d + 1 ≤ g.2.1) (hmc : kc + mc ≤ g.2.2.1 ∧ ks + ms ≤ g.2.2.2.1)
    (k : ∀ r w', Q r w' → AW g (pc + 3) L (r.toList ++ rest) w' (kc + mc) (ks + ms)) : AW g pc L (As.reverse ++ .ref q :: rest) w kc ks := by
  intro p l e R s m args below meth c D cA z H locs ls X hH hS hL
  have hts := X.2.2.2.2.1
  have hR := X.2.2.2.2.2.2.2.2.2.2.2.1
  have hK := X.2.2.2.2.2.1
  have hNx := X.2.2.2.2.2.2.1
  have hsum := q_sum z rest 4 hst
  obtain ⟨fs, hw⟩ := qci_s hq
  obtain ⟨r0, hr0, hr1⟩ : ∃ r0, vwCl[ci]? = some r0 ∧ r0.1 = M.1.cls := by
    cases hh : vwCl[ci]? with
    | none => rw [hh] at hcl; cases hcl
    | some r0 => rw [hh] at hcl; exact ⟨r0, rfl, Option.some.inj hcl⟩
  have hrec := va_recv hK (hH.obj hw) hr0 (q0 := 0) rfl
  rw [hr1] at hrec
  have hstk : (As.reverse ++ .ref q :: rest).map (qv z) = (As.map (qv z)).reverse ++ .ref (z.1 + q) :: rest.map (qv z) := by simp [List.map_reverse]; rfl
  rw [hstk]
  have hrun := va_runV (e := e) (g := F0 m pc ls ((As.map (qv z)).reverse ++ .ref (z.1 + q) :: rest.map (qv z))) (cells := kc) (slots := ks) (locs := locs) (H := H) (below := below) (meth := meth) (As := As.map (qv z)) (rest := rest.map (qv z)) ⟨X.1, X.2.1, X.2.2.1, X.2.2.2.1, hts⟩ (hC l D cA z) (cwV n hts (qg_wsV hm hl) rfl rfl rfl ⟨rfl, hm.1.2.2.1⟩ (qCV_room hm.1 hdp hR)) ⟨q_blind, hrec, fun U hU hW => ⟨rfl, by rw [hU]; exact hH, va_K.moved hW.alike hK, hNx.moved hW⟩⟩ rfl (by rw [List.length_map]; exact hn) hL.1 rfl (by show 2 * 0 + _ ≤ 8; omega) hd ⟨Nat.le_trans hmc.1 hR.2.1, Nat.le_trans hmc.2 hR.2.2.1⟩
  refine q_run hrun hS fun r w' H1 locs1 hq' hH1 hS1 => ?_
  have := k r w' hq' p l e R s m args below meth c D cA z H1 locs1 ls X hH1 hS1 hL
  rw [List.map_append] at this
  have e9 : r.toList.map (qv z) = (r.map (qv z)).toList := by cases r <;> rfl
  rw [e9] at this
  exact this
theorem a_callVN {g : qG} {pc idx : Nat} {L : qL} {w : qW} {kc ks : Nat} {M : qM} {d mc ms n : Nat} {Q : Option Value → qW → Prop} {host : String} {q : Nat} (As rest : List Value) (hd : decode g.1.2.1 pc = .ok (.invokevirtual idx, 3)) (hm : qMv M n) (hl : qLn g.1.1.cls idx M host) (hC : CT M d mc ms (.ref q :: As) w Q) {ci : Nat} (hq : qci w q = some ci) (hcl : (vwCl[ci]?).map (fun x => x.1) = some M.1.cls) (hn : As.length = n) (hst : rest.length ≤ 4) (hdp : d + 1 ≤ g.2.1) (hmc : kc + mc ≤ g.2.2.1 ∧ ks + ms ≤ g.2.2.2.1)
    (k : ∀ r w', Q r w' → AW g (pc + 3) L (r.toList ++ rest) w' (kc + mc) (ks + ms)) : AW g pc L (As.reverse ++ .ref q :: rest) w kc ks := by
  intro p l e R s m args below meth c D cA z H locs ls X hH hS hL
  have hts := X.2.2.2.2.1
  have hR := X.2.2.2.2.2.2.2.2.2.2.2.1
  have hK := X.2.2.2.2.2.1
  have hNx := X.2.2.2.2.2.2.1
  have hsum := q_sum z rest 4 hst
  obtain ⟨fs, hw⟩ := qci_s hq
  obtain ⟨r0, hr0, hr1⟩ : ∃ r0, vwCl[ci]? = some r0 ∧ r0.1 = M.1.cls := by
    cases hh : vwCl[ci]? with
    | none => rw [hh] at hcl; cases hcl
    | some r0 => rw [hh] at hcl; exact ⟨r0, rfl, Option.some.inj hcl⟩
  have hrec := va_recv hK (hH.obj hw) hr0 (q0 := 0) rfl
  rw [hr1] at hrec
  have hstk : (As.reverse ++ .ref q :: rest).map (qv z) = (As.map (qv z)).reverse ++ .ref (z.1 + q) :: rest.map (qv z) := by simp [List.map_reverse]; rfl
  rw [hstk]
  have hrun := va_runVN (e := e) (g := F0 m pc ls ((As.map (qv z)).reverse ++ .ref (z.1 + q) :: rest.map (qv z))) (cells := kc) (slots := ks) (locs := locs) (H := H) (below := below) (meth := meth) (As := As.map (qv z)) (rest := rest.map (qv z)) ⟨X.1, X.2.1, X.2.2.1, X.2.2.2.1, hts⟩ (hC l D cA z) ⟨va_cnB n hts (qg_ws hm.1) rfl rfl rfl (hNx.1 _ hl) (hts _ hm.1.2.1) hm.1.2.2.1 (qCV_room hm.1 hdp hR), hts _ hm.2.1, hts _ hm.2.2⟩ ⟨q_blind, hrec, fun U hU hW => ⟨rfl, by rw [hU]; exact hH, va_K.moved hW.alike hK, hNx.moved hW⟩⟩ rfl (by rw [List.length_map]; exact hn) hL.1 rfl (by show 2 * 0 + _ ≤ 8; omega) hd ⟨Nat.le_trans hmc.1 hR.2.1, Nat.le_trans hmc.2 hR.2.2.1⟩
  refine q_run hrun hS fun r w' H1 locs1 hq' hH1 hS1 => ?_
  have := k r w' hq' p l e R s m args below meth c D cA z H1 locs1 ls X hH1 hS1 hL
  rw [List.map_append] at this
  have e9 : r.toList.map (qv z) = (r.map (qv z)).toList := by cases r <;> rfl
  rw [e9] at this
  exact this
theorem a_callS {g : qG} {pc idx : Nat} {L : qL} {w : qW} {kc ks : Nat} {M : qM} {d mc ms n : Nat} {Q : Option Value → qW → Prop} (As rest : List Value) (hd : decode g.1.2.1 pc = .ok (.invokestatic idx, 3)) (hm : qMs M n) (hl : qLk g.1.1.cls idx M) (hC : CT M d mc ms (As) w Q) (hn : As.length = n) (hst : rest.length ≤ 4) (hdp : d + 1 ≤ g.2.1) (hmc : kc + mc ≤ g.2.2.1 ∧ ks + ms ≤ g.2.2.2.1)
    (k : ∀ r w', Q r w' → AW g (pc + 3) L (r.toList ++ rest) w' (kc + mc) (ks + ms)) : AW g pc L (As.reverse ++ rest) w kc ks := by
  intro p l e R s m args below meth c D cA z H locs ls X hH hS hL
  have hts := X.2.2.2.2.1
  have hR := X.2.2.2.2.2.2.2.2.2.2.2.1
  have hK := X.2.2.2.2.2.1
  have hNx := X.2.2.2.2.2.2.1
  have hsum := q_sum z rest 4 hst
  have hstk : (As.reverse ++ rest).map (qv z) = (As.map (qv z)).reverse ++ rest.map (qv z) := by simp [List.map_reverse]
  rw [hstk]
  have hrun := va_runS (e := e) (g := F0 m pc ls ((As.map (qv z)).reverse ++ rest.map (qv z))) (cells := kc) (slots := ks) (locs := locs) (H := H) (below := below) (meth := meth) (As := As.map (qv z)) (rest := rest.map (qv z)) ⟨X.1, X.2.1, X.2.2.1, X.2.2.2.1, hts⟩ (hC l D cA z) (va_cwS n hts (qg_wsS hm hl) rfl rfl rfl hm.1.2.2.1 (qCV_room hm.1 hdp hR)) ⟨q_blind, fun U hU hW => ⟨rfl, by rw [hU]; exact hH, va_K.moved hW.alike hK, hNx.moved hW⟩⟩ rfl (by rw [List.length_map]; exact hn) hL.1 rfl (by show 2 * 0 + _ ≤ 8; omega) hd ⟨Nat.le_trans hmc.1 hR.2.1, Nat.le_trans hmc.2 hR.2.2.1⟩
  refine q_run hrun hS fun r w' H1 locs1 hq' hH1 hS1 => ?_
  have := k r w' hq' p l e R s m args below meth c D cA z H1 locs1 ls X hH1 hS1 hL
  rw [List.map_append] at this
  have e9 : r.toList.map (qv z) = (r.map (qv z)).toList := by cases r <;> rfl
  rw [e9] at this
  exact this
theorem a_callSN {g : qG} {pc idx : Nat} {L : qL} {w : qW} {kc ks : Nat} {M : qM} {d mc ms n : Nat} {Q : Option Value → qW → Prop} {host : String} (As rest : List Value) (hd : decode g.1.2.1 pc = .ok (.invokestatic idx, 3)) (hm : qMs M n) (hl : qLn g.1.1.cls idx M host) (hC : CT M d mc ms (As) w Q) (hn : As.length = n) (hst : rest.length ≤ 4) (hdp : d + 1 ≤ g.2.1) (hmc : kc + mc ≤ g.2.2.1 ∧ ks + ms ≤ g.2.2.2.1)
    (k : ∀ r w', Q r w' → AW g (pc + 3) L (r.toList ++ rest) w' (kc + mc) (ks + ms)) : AW g pc L (As.reverse ++ rest) w kc ks := by
  intro p l e R s m args below meth c D cA z H locs ls X hH hS hL
  have hts := X.2.2.2.2.1
  have hR := X.2.2.2.2.2.2.2.2.2.2.2.1
  have hK := X.2.2.2.2.2.1
  have hNx := X.2.2.2.2.2.2.1
  have hsum := q_sum z rest 4 hst
  have hstk : (As.reverse ++ rest).map (qv z) = (As.map (qv z)).reverse ++ rest.map (qv z) := by simp [List.map_reverse]
  rw [hstk]
  have hrun := va_runSN (e := e) (g := F0 m pc ls ((As.map (qv z)).reverse ++ rest.map (qv z))) (cells := kc) (slots := ks) (locs := locs) (H := H) (below := below) (meth := meth) (As := As.map (qv z)) (rest := rest.map (qv z)) ⟨X.1, X.2.1, X.2.2.1, X.2.2.2.1, hts⟩ (hC l D cA z) ⟨va_cnB n hts (qg_ws hm.1) rfl rfl rfl (hNx.1 _ hl) (hts _ hm.1.2.1) hm.1.2.2.1 (qCV_room hm.1 hdp hR), hts _ hm.2, trivial⟩ ⟨q_blind, fun U hU hW => ⟨rfl, by rw [hU]; exact hH, va_K.moved hW.alike hK, hNx.moved hW⟩⟩ rfl (by rw [List.length_map]; exact hn) hL.1 rfl (by show 2 * 0 + _ ≤ 8; omega) hd ⟨Nat.le_trans hmc.1 hR.2.1, Nat.le_trans hmc.2 hR.2.2.1⟩
  refine q_run hrun hS fun r w' H1 locs1 hq' hH1 hS1 => ?_
  have := k r w' hq' p l e R s m args below meth c D cA z H1 locs1 ls X hH1 hS1 hL
  rw [List.map_append] at this
  have e9 : r.toList.map (qv z) = (r.map (qv z)).toList := by cases r <;> rfl
  rw [e9] at this
  exact this
theorem a_callI {g : qG} {pc idx : Nat} {L : qL} {w : qW} {kc ks : Nat} {M : qM} {d mc ms n : Nat} {Q : Option Value → qW → Prop} {q : Nat} (As rest : List Value) (hd : decode g.1.2.1 pc = .ok (.invokespecial idx, 3)) (hm : qMi M n) (hl : qLk g.1.1.cls idx M) (hC : CT M d mc ms (.ref q :: As) w Q) (hn : As.length = n) (hst : rest.length ≤ 4) (hdp : d + 1 ≤ g.2.1) (hmc : kc + mc ≤ g.2.2.1 ∧ ks + ms ≤ g.2.2.2.1)
    (k : ∀ r w', Q r w' → AW g (pc + 3) L (r.toList ++ rest) w' (kc + mc) (ks + ms)) : AW g pc L (As.reverse ++ .ref q :: rest) w kc ks := by
  intro p l e R s m args below meth c D cA z H locs ls X hH hS hL
  have hts := X.2.2.2.2.1
  have hR := X.2.2.2.2.2.2.2.2.2.2.2.1
  have hK := X.2.2.2.2.2.1
  have hNx := X.2.2.2.2.2.2.1
  have hsum := q_sum z rest 4 hst
  have hnone := hm.2.2.2
  have hstk : (As.reverse ++ .ref q :: rest).map (qv z) = (As.map (qv z)).reverse ++ .ref (z.1 + q) :: rest.map (qv z) := by simp [List.map_reverse]; rfl
  rw [hstk]
  have hrun := va_runI (e := e) (g := F0 m pc ls ((As.map (qv z)).reverse ++ .ref (z.1 + q) :: rest.map (qv z))) (cells := kc) (slots := ks) (locs := locs) (H := H) (below := below) (meth := meth) (As := As.map (qv z)) (rest := rest.map (qv z)) ⟨X.1, X.2.1, X.2.2.1, X.2.2.2.1, hts⟩ (hC l D cA z) (by rw [hnone]; exact cwI n hts (by have := qg_ws hm.1; rw [hnone] at this; exact this) rfl rfl rfl (hts _ hm.1.2.1) (hts _ hl) (hts _ hm.2.1) hm.2.2.1 hm.1.2.2.1 (qCV_room hm.1 hdp hR)) ⟨q_blind, fun U hU hW => ⟨rfl, by rw [hU]; exact hH, va_K.moved hW.alike hK, hNx.moved hW⟩⟩ rfl (by rw [List.length_map]; exact hn) hL.1 rfl (by show 2 * 0 + _ ≤ 8; omega) hd ⟨Nat.le_trans hmc.1 hR.2.1, Nat.le_trans hmc.2 hR.2.2.1⟩
  refine q_run hrun hS fun r w' H1 locs1 hq' hH1 hS1 => ?_
  have := k r w' hq' p l e R s m args below meth c D cA z H1 locs1 ls X hH1 hS1 hL
  rw [List.map_append] at this
  have e9 : r.toList.map (qv z) = (r.map (qv z)).toList := by cases r <;> rfl
  rw [e9] at this
  exact this
theorem a_callIN {g : qG} {pc idx : Nat} {L : qL} {w : qW} {kc ks : Nat} {M : qM} {d mc ms n : Nat} {Q : Option Value → qW → Prop} {host : String} {q : Nat} (As rest : List Value) (hd : decode g.1.2.1 pc = .ok (.invokespecial idx, 3)) (hm : qMi M n) (hl : qLn g.1.1.cls idx M host) (hC : CT M d mc ms (.ref q :: As) w Q) (hn : As.length = n) (hst : rest.length ≤ 4) (hdp : d + 1 ≤ g.2.1) (hmc : kc + mc ≤ g.2.2.1 ∧ ks + ms ≤ g.2.2.2.1)
    (k : ∀ r w', Q r w' → AW g (pc + 3) L (r.toList ++ rest) w' (kc + mc) (ks + ms)) : AW g pc L (As.reverse ++ .ref q :: rest) w kc ks := by
  intro p l e R s m args below meth c D cA z H locs ls X hH hS hL
  have hts := X.2.2.2.2.1
  have hR := X.2.2.2.2.2.2.2.2.2.2.2.1
  have hK := X.2.2.2.2.2.1
  have hNx := X.2.2.2.2.2.2.1
  have hsum := q_sum z rest 4 hst
  have hnone := hm.2.2.2
  have hstk : (As.reverse ++ .ref q :: rest).map (qv z) = (As.map (qv z)).reverse ++ .ref (z.1 + q) :: rest.map (qv z) := by simp [List.map_reverse]; rfl
  rw [hstk]
  have hrun := va_runIN (e := e) (g := F0 m pc ls ((As.map (qv z)).reverse ++ .ref (z.1 + q) :: rest.map (qv z))) (cells := kc) (slots := ks) (locs := locs) (H := H) (below := below) (meth := meth) (As := As.map (qv z)) (rest := rest.map (qv z)) ⟨X.1, X.2.1, X.2.2.1, X.2.2.2.1, hts⟩ (hC l D cA z) (by rw [hnone]; exact ⟨va_cnB n hts (by have := qg_ws hm.1; rw [hnone] at this; exact this) rfl rfl rfl (hNx.1 _ hl) (hts _ hm.1.2.1) hm.1.2.2.1 (qCV_room hm.1 hdp hR), hm.2.2.1, hts _ hm.2.1⟩) ⟨q_blind, fun U hU hW => ⟨rfl, by rw [hU]; exact hH, va_K.moved hW.alike hK, hNx.moved hW⟩⟩ rfl (by rw [List.length_map]; exact hn) hL.1 rfl (by show 2 * 0 + _ ≤ 8; omega) hd ⟨Nat.le_trans hmc.1 hR.2.1, Nat.le_trans hmc.2 hR.2.2.1⟩
  refine q_run hrun hS fun r w' H1 locs1 hq' hH1 hS1 => ?_
  have := k r w' hq' p l e R s m args below meth c D cA z H1 locs1 ls X hH1 hS1 hL
  rw [List.map_append] at this
  have e9 : r.toList.map (qv z) = (r.map (qv z)).toList := by cases r <;> rfl
  rw [e9] at this
  exact this

/-! THE CLAIM OUT OF ONE WALK OF THE LAW'S BODY. Your part is whole_start (and what it stands on); all else here is the same for every law, but numbers. -/
def R_law : String := "SealLineLaw"
def lw_P (b : Addr) (xs : List Int32) (args : Array Value) (s : State) : Prop := args = #[.ref b] ∧ s.IntsAt b xs ∧ xs.length ≤ 4096 ∧ (Jvm.Cond.and given_1 narrow_1).before args s = true
def lw_Q (_ : Array Value) (s : State) (o : Outcome) (t : State) : Prop := o = .returned (some (.int 1)) ∧ Framed s o t [] 600000 7302250
def lw_Z (below : List Frame) (a : Array Value) (s : State) : State → Prop := fun t => ∃ o, t.status = .running ∧ Ended t below o ∧ lw_Q a s o t
/-- what holds at the law's entry: the machine, the code, the tables' words (any of lw_tbl by 'hts w (by decide +kernel)'), the script of L ints xs at the cell b, what the Statement gives of the start (any of its parts by flat_of_before) -/
def lw_At (p : Program) (s : State) (m : MethodId) (meth : Method) (c : Code) (b L : Nat) (xs : Nat → Int32) : Prop :=
  p.tables.exec = Jvm.exec ∧ c.code = code ∧ meth.sig.returnType = ret ∧ c.maxLocals = 4 ∧ s.vm.findClass R_law = some m.cls ∧ (∀ w ∈ lw_tbl, w.before #[Value.ref b] s = true) ∧ va_X b L xs s s.heap ∧ b < s.heap.size ∧ meth.locks = false ∧ (Jvm.Cond.and given_1 narrow_1).before #[Value.ref b] s = true ∧ meth.name = x.name
theorem k_cls {s : State} {args : Array Value} (hts : ∀ w ∈ qg, w.before args s = true) : ∃ D : va_G, ∀ (c : Nat) (q : vw_C), vwCl[c]? = some q → u_Kn s q.1 q.2.1 q.2.2 (D.1 c) (D.2 c) := by
  have one : ∀ c : Nat, ∃ (a : ClassId) (i : Nat → Nat), ∀ q : vw_C, vwCl[c]? = some q → u_Kn s q.1 q.2.1 q.2.2 a i := by
    intro c
    match c with
    | 0 =>
      obtain ⟨a, i, h⟩ := u_known hts jnX0 (hts _ lk122)
      exact ⟨a, i, fun q hq => by cases hq; exact h⟩
    | 1 =>
      obtain ⟨a, i, h⟩ := u_known hts jnX1 (hts _ lk269)
      exact ⟨a, i, fun q hq => by cases hq; exact h⟩
    | 2 =>
      obtain ⟨a, i, h⟩ := u_known hts jnX2 (hts _ lk248)
      exact ⟨a, i, fun q hq => by cases hq; exact h⟩
    | 3 =>
      obtain ⟨a, i, h⟩ := u_known hts jnX3 (hts _ lk161)
      exact ⟨a, i, fun q hq => by cases hq; exact h⟩
    | 4 =>
      obtain ⟨a, i, h⟩ := u_known hts jnX4 (hts _ lk235)
      exact ⟨a, i, fun q hq => by cases hq; exact h⟩
    | 5 =>
      obtain ⟨a, i, h⟩ := u_known hts jnX5 (hts _ lk182)
      exact ⟨a, i, fun q hq => by cases hq; exact h⟩
    | 6 =>
      obtain ⟨a, i, h⟩ := u_known hts jnX6 (hts _ lk285)
      exact ⟨a, i, fun q hq => by cases hq; exact h⟩
    | 7 =>
      obtain ⟨a, i, h⟩ := u_known hts jnX7 (hts _ lk115)
      exact ⟨a, i, fun q hq => by cases hq; exact h⟩
    | 8 =>
      obtain ⟨a, i, h⟩ := u_known hts jnX8 (hts _ lk89)
      exact ⟨a, i, fun q hq => by cases hq; exact h⟩
    | 9 =>
      obtain ⟨a, i, h⟩ := u_known hts jnX9 (hts _ lk204)
      exact ⟨a, i, fun q hq => by cases hq; exact h⟩
    | 10 =>
      obtain ⟨a, i, h⟩ := u_known hts jnX10 (hts _ lk81)
      exact ⟨a, i, fun q hq => by cases hq; exact h⟩
    | 11 =>
      obtain ⟨a, i, h⟩ := u_known hts jnX11 (hts _ lk896)
      exact ⟨a, i, fun q hq => by cases hq; exact h⟩
    | c + 12 => exact ⟨(0 : Nat), fun _ => 0, fun q hq => by cases hq⟩
  exact ⟨(fun c => Classical.choose (one c), fun c => Classical.choose (Classical.choose_spec (one c))), fun c q hq => Classical.choose_spec (Classical.choose_spec (one c)) q hq⟩
theorem k_arr {s : State} {args : Array Value} (hts : ∀ w ∈ qg, w.before args s = true) (ho : (Cond.arrayOver (.object "SealLine$FileSet")).before args s = true) : ∃ cA : Nat → ClassId, ∀ (k : Nat) (q : ClassId × FieldType), (qT cA)[k]? = some q → ArrOfT s q.1 q.2 ∧ va_RA s q.1 q.2 := by
  obtain ⟨a0, k0, c0, e0, f0, g0⟩ := Cond.arrayClass_spec (hts _ lk113)
  obtain ⟨a1, k1, c1, e1, f1, g1⟩ := Cond.arrayClass_spec (hts _ lk267)
  obtain ⟨a2, k2, c2, e2, f2, g2⟩ := Cond.arrayClass_spec (hts _ lk134)
  obtain ⟨c3, a3, k3, e3, -, f3, g3, n3⟩ := Cond.arrayOver_spec ho
  refine ⟨fun t => if t = 0 then a0 else if t = 1 then a1 else if t = 2 then a2 else a3, fun k q hq => ?_⟩
  match k, hq with
  | 0, hq => cases hq; exact ⟨fun n z => ⟨fun k h => (by cases h), k0, f0, c0, g0⟩, e0⟩
  | 1, hq => cases hq; exact ⟨fun n z => ⟨fun k h => (by cases h), k1, f1, c1, g1⟩, e1⟩
  | 2, hq => cases hq; exact ⟨fun n z => ⟨fun k h => (by cases h), k2, f2, c2, g2⟩, e2⟩
  | 3, hq => cases hq; exact ⟨fun n z => ⟨fun k h => (by cases h), k3, f3, c3, g3⟩, k3, c3, f3, g3, e3, n3⟩
  | k + 4, hq => cases hq
theorem k_nx {s : State} {args : Array Value} (hts : ∀ w ∈ lw_tbl, w.before args s = true) (ho : (Cond.arrayOver (.object "SealLine$FileSet")).before args s = true) : qNx s := by
  refine ⟨fun q hq => ?_, va_AO.of ho⟩
  obtain ⟨w, hw, e⟩ := List.mem_filterMap.mp hq
  have hb := hts w hw
  cases w <;> first | (cases e; done) | (cases e; exact va_tabs rfl rfl hb)
set_option maxHeartbeats 4000000 in
/-- from the entry, for every script of at most 4096 ints, the law comes to its end with true -/
theorem whole_start {p : Program} {e : Env} {s : State} {m : MethodId} {below : List Frame} {meth : Method} {c : Code} (l : Launch) {b L : Nat} {xs : Nat → Int32} (hL : L ≤ 4096) (C0 : lw_At p s m meth c b L xs) : W p l e room_1 s m #[Value.ref b] below meth c s.heap [] 0 0 (lw_Z below #[Value.ref b] s) (entryFrame m ([Value.ref b] : List Value).toArray 4) := by
  obtain ⟨hx, hcode, hret, hml, hown, hts, hX, hb, hlocks, hgv, hname⟩ := C0
  have hqg : ∀ w ∈ qg, w.before #[Value.ref b] s = true := fun w hw => hts w (List.mem_filter.mp hw).1
  have ho : (Cond.arrayOver (.object "SealLine$FileSet")).before #[Value.ref b] s = true := hts _ (by decide +kernel)
  obtain ⟨D, hD⟩ := k_cls hqg
  obtain ⟨cA, hA⟩ := k_arr hqg ho
  have hN : qNx s := k_nx hts ho
  have hloc : ∀ (i : Nat) (v : Value), ([some (.retAddr 0), none, none, none] : qL)[i]? = some (some v) → (i, qv (s.heap.size, b) v) ∈ lv_args 0 [Value.ref b] := fun i v hi => match i, hi with
    | 0, hi => by cases hi; exact List.mem_cons_self
    | 1, hi => by cases hi
    | 2, hi => by cases hi
    | 3, hi => by cases hi
    | i + 4, hi => by cases hi
  rw [lg_entry_eq]
  intro T hT X
  obtain ⟨t, a, o, h1, h2, ⟨⟨r, w, hor, hr, hH⟩, hF⟩, Lc, hFE, hfree⟩ := lw_entry (xs := xs) hL p l e room_1 s m #[Value.ref b] below meth c D cA (s.heap.size, b) s.heap [] _ ⟨hx, hcode, hml, hown, hqg, ⟨hD, hA⟩, hN, hret, hlocks, hname, Nat.le_refl _, ⟨by show 40 ≤ 2048; omega, by show 600000 ≤ 600000; omega, by show 7302250 ≤ 7302250; omega, by show 50 * 40 ≤ 84000; omega⟩, ⟨hX, hb, hb⟩⟩ ⟨rfl, fun p c h => by cases h⟩ va_S.rf (qR.sub (lv_entry [Value.ref b] (n := 4) (Nat.le_of_ble_eq_true rfl)) hloc) T hT X
  have hr1 : r = some (.int 1) := hr
  refine ⟨t, a, o, h1, h2, by rw [hor, hr1]; rfl, hFE.1, hFE.2.1, ?_⟩
  obtain ⟨e1, e2, e3, e4, e5, e6⟩ := hFE.2.2
  refine ⟨e1, e2, e3, e4, e5, fun a c hc => ?_⟩
  obtain ⟨c', d1, d2, d3, d4⟩ := e6 a c hc
  refine ⟨c', d1, d2, d3, fun i _ => d4 i (fun hm => ?_)⟩
  have h3 : s.heap.size ≤ a := hfree _ hm
  have h4 : a < s.heap.size := (Array.getElem?_eq_some_iff.mp hc).1
  exact absurd h4 (Nat.not_lt.mpr h3)
set_option maxHeartbeats 4000000 in
theorem lw_walk (l : Launch) (b : Addr) (xs : List Int32) : MetFree l x (headSpec (Jvm.Cond.code x code maxLocals ret :: tables_1) room_1) (lw_P b xs) (fun _ _ _ _ _ => True) lw_Q := by
  refine MetFree.of_bodyS (code := code) (maxLocals := maxLocals) (ret := ret) (by decide) ?_ ?_
  · intro args s m h hn
    obtain ⟨meth, c, h1, h2, h3, h4, h5, h6, -, -⟩ := Cond.code_spec hn (atoms_spec (ws := Jvm.Cond.code x code maxLocals ret :: tables_1) h _ List.mem_cons_self)
    exact ⟨meth, c, h1, h2, h3, h4, h5, h6⟩
  · intro p e s m args below meth c s₁ B hml0 hP _
    obtain ⟨rfl, hx, hbd, hgv⟩ := hP
    obtain ⟨scr, harrAt, hlist, hof, hsmall⟩ := hx
    obtain ⟨hcb, hkn, -, -⟩ := State.arrayAt?_spec harrAt
    have hown : s.vm.findClass R_law = some m.cls := findClass_of_methodNamed B.named
    have hts0 : ∀ c ∈ (Jvm.Cond.code x code maxLocals ret :: tables_1), c.before #[Value.ref b] s = true := atoms_spec (ws := Jvm.Cond.code x code maxLocals ret :: tables_1) B.pre
    have hts : ∀ w ∈ lw_tbl, w.before #[Value.ref b] s = true := k2_hts_sels lw_privs (fun w hw => hts0 w (List.mem_cons_of_mem _ hw)) lw_privs_ok
    have hml : c.maxLocals = 4 := B.maxLocals_eq (hts0 _ List.mem_cons_self)
    have X₀ : Stand p l e room_1 s m #[Value.ref b] below meth c s₁ [] 0 0 := Stand.of_body B
    have hh0 : s₁.heap = s.heap := by rw [B.state]; rfl
    have hsz : scr.slots.size = xs.length := by rw [← Array.length_toList, hlist, List.length_map]
    have hval : ∀ j : Nat, j < xs.length → scr.slots[j]? = some (.int (xs.getD j 0)) := fun j hj => by
      rw [← Array.getElem?_toList, hlist]
      simp [hj]
    have hbl : b < s.heap.size := (Array.getElem?_eq_some_iff.mp hcb).1
    have hX : va_X b xs.length (fun j => xs.getD j 0) s s.heap := ⟨scr, hcb, hof, hkn, hsz, hval⟩
    have K : W p l e room_1 s m #[Value.ref b] below meth c s₁.heap [] 0 0 (lw_Z below #[Value.ref b] s) (entryFrame m ([Value.ref b] : List Value).toArray 4) := by
      rw [hh0]
      exact whole_start l hbd ⟨B.exec, B.bytes, B.returns, hml, hown, hts, hX, hbl, B.notSynchronized, hgv, (name_of_methodNamed B.named B.method).1⟩
    obtain ⟨t, a1, o, b1, b2, b3⟩ := K s₁ rfl X₀
    exact ⟨t, o, a1, b1, b2, b3⟩
theorem lw_pre_spec {args : Array Value} {s : State} (h : (Jvm.Cond.and given_1 narrow_1).before args s = true) (hr : rest_1_c.before args s = true) : ∃ (b : Addr) (xs : List Int32), lw_P b xs args s := by
  have hs := flat_of_before _ h
  have hq := flat_of_before _ hr
  have hc : (Cond.count 1).before args s = true := hs _ (by decide +kernel)
  have harr : (Cond.arrayOf (.arg 0) .int).before args s = true := hs _ (by decide +kernel)
  have hle : (Cond.le (.length (.arg 0)) (.int 4096)).before args s = true := hs _ (by decide +kernel)
  have hlen : (Cond.isInt (.length (.arg 0))).before args s = true := hq _ (by decide +kernel)
  have hall : (Cond.all (.arg 0) (.isInt (.elem (.arg 0) (.index 0)))).before args s = true := hq _ (by decide +kernel)
  obtain ⟨b, xs, hb, hx⟩ := State.ints_of_pre rfl harr hlen hall
  have hsm : xs.length < 2 ^ 31 := hx.choose_spec.2.2.2
  have hev : (Term.length (.arg 0)).eval args s none [] s = some (.int xs.length.toInt32) := hx.length_eval hb
  have hv := Cond.le_ints hev (show (Term.int 4096).eval args s none [] s = some (.int 4096) from rfl)
  have hd : xs.length.toInt32 ≤ 4096 := by
    simpa [Cond.before, Cond.holds, hv] using hle
  have hN : xs.length ≤ 4096 := (Int32.ofNat_le_ofNat hsm (by decide)).mp (show Int32.ofNat xs.length ≤ Int32.ofNat 4096 from hd)
  exact ⟨b, xs, Cond.one_arg hc (show args[0]? = some (.ref b) from hb), hx, hN, h⟩
theorem lw_comes (l : Launch) : Comes l x (Jvm.Cond.code x code maxLocals ret :: tables_1) room_1 (fun tb e args s => Calls_1 tb e args s ∧ rest_1 tb e args s ∧ Pre_1 tb e args s)
    (fun _ _ args s o t => lw_Q args s o t) := by
  intro p e ha hc hk s m args below hf hfit hheap happ hpre
  obtain ⟨b, xs, hP⟩ := lw_pre_spec hpre.2.2 hpre.2.1
  obtain ⟨k, o, h1, h2, h3, hQ⟩ := lw_walk l b xs p e ha hc hk s m args below hf ((Spec.applies_iff_loose hf).mp happ).1 hP trivial
  exact ⟨k, o, h1, h2, h3, hQ⟩
theorem lw_frame {s t : State} {o : Outcome} {args : Array Value} (h : Framed s o t [] 600000 7302250) :
    Framed s o t (fieldLocs frame_1_writes args s ++ arrayLocs frame_1_arrays args s ++ staticLocs frame_1_statics s) 600000 7302250 := h
theorem lw_limb (L : Cond) (hL : ∀ (args : Array Value) (s t : State), L.after args s (.returned (some (.int 1))) t = true) :
    ArmFor flags0 classFile x code maxLocals ret World_1 tables_1 room_1 Calls_1 rest_1 Pre_1
      (fun tb e a s o t => postC L tb e a s o t ∧ Framed s o t (fieldLocs frame_1_writes a s ++ arrayLocs frame_1_arrays a s ++ staticLocs frame_1_statics s) 600000 7302250) := by
  intro l _ _ _ p e ha hc hk s m args below hf hfit hheap happ hpre
  obtain ⟨k, o, h1, h2, h3, rfl, hF⟩ := lw_comes l p e ha hc hk s m args below hf hfit hheap happ hpre
  exact ⟨k, _, h1, h2, h3, hL args s _, lw_frame hF⟩
theorem i_vc : Claimed_1_1 ∧ Claimed_1_2 := ⟨lw_limb limb_1_1 (fun args s t => by simp [limb_1_1, Cond.after, Cond.holds, Cond.value]), lw_limb limb_1_2 (fun args s t => Cond.after_iff.mpr (by
  first | (rw [show limb_1_2 = Cond.eq .result (.int 1) from rfl, Cond.eq_ints (x := 1) (y := 1) rfl rfl]; simp; done) | (simp [limb_1_2, Cond.value, Term.eval]; done)))⟩


theorem a_tsIn {g : qG} {pc : Nat} {L : qL} {st : List Value} {w : qW} {kc ks : Nat} {dflt lo hi : Int} {offs : Array Int} {len : Nat} {x : Int32} {off : Int} {tgt : Nat} (hd : decode g.1.2.1 pc = .ok (.tableswitch dflt lo hi offs, len)) (h1 : ¬ x.toInt < lo) (h2 : ¬ hi < x.toInt) (ho : offs[(x.toInt - lo).toNat]? = some off) (ht : (pc : Int) + off = (tgt : Int)) (k : AW g tgt L st w kc ks) : AW g pc L (.int x :: st) w kc ks := by
  intro p l e R s m args below meth c D cA z H locs ls X hH hS hL
  exact lv_tableIn X.1 X.2.1 hd h1 h2 ho ht (k p l e R s m args below meth c D cA z H locs ls X hH hS hL)
theorem a_tsOut {g : qG} {pc : Nat} {L : qL} {st : List Value} {w : qW} {kc ks : Nat} {dflt lo hi : Int} {offs : Array Int} {len : Nat} {x : Int32} {tgt : Nat} (hd : decode g.1.2.1 pc = .ok (.tableswitch dflt lo hi offs, len)) (h : x.toInt < lo ∨ hi < x.toInt) (ht : (pc : Int) + dflt = (tgt : Int)) (k : AW g tgt L st w kc ks) : AW g pc L (.int x :: st) w kc ks := by
  intro p l e R s m args below meth c D cA z H locs ls X hH hS hL
  exact lv_tableOut X.1 X.2.1 hd h ht (k p l e R s m args below meth c D cA z H locs ls X hH hS hL)
theorem a_mmax {g : qG} {pc idx : Nat} {L : qL} {st : List Value} {w : qW} {kc ks : Nat} {x y : Int32} (hd : decode g.1.2.1 pc = .ok (.invokestatic idx, 3)) (h1 : Cond.methodLink g.1.1.cls idx Lib.Math.max.name ∈ qg) (h2 : Cond.static Lib.Math.max.name ∈ qg) (h3 : Cond.initialized "java/lang/Math" ∈ qg) (h4 : Cond.code Lib.Math.max.name Lib.Math.max.code 2 (some .int) ∈ qg) (hst : st.length ≤ 4) (hdp : 1 ≤ g.2.1) (hc : kc ≤ g.2.2.1) (hs : ks ≤ g.2.2.2.1)
    (k : AW g (pc + 3) L (.int (if x < y then y else x) :: st) w kc ks) : AW g pc L (.int y :: .int x :: st) w kc ks := by
  intro p l e R s m args below meth c D cA z H locs ls X hH hS hL
  have hts := X.2.2.2.2.1
  have hR := X.2.2.2.2.2.2.2.2.2.2.2.1
  have hsum := q_sum z st 4 hst
  exact va_mmax X.1 X.2.1 (X.2.2.1.trans hL.1.symm) X.2.2.2.1 (hts _ h1) (hts _ h2) (hts _ h3) (hts _ h4) (by omega) (by omega) (by omega) (by omega) hd (k p l e R s m args below meth c D cA z H locs ls X hH hS hL)
theorem a_mmin {g : qG} {pc idx : Nat} {L : qL} {st : List Value} {w : qW} {kc ks : Nat} {x y : Int32} (hd : decode g.1.2.1 pc = .ok (.invokestatic idx, 3)) (h1 : Cond.methodLink g.1.1.cls idx Lib.Math.min.name ∈ qg) (h2 : Cond.static Lib.Math.min.name ∈ qg) (h3 : Cond.initialized "java/lang/Math" ∈ qg) (h4 : Cond.code Lib.Math.min.name Lib.Math.min.code 2 (some .int) ∈ qg) (hst : st.length ≤ 4) (hdp : 1 ≤ g.2.1) (hc : kc ≤ g.2.2.1) (hs : ks ≤ g.2.2.2.1)
    (k : AW g (pc + 3) L (.int (if y < x then y else x) :: st) w kc ks) : AW g pc L (.int y :: .int x :: st) w kc ks := by
  intro p l e R s m args below meth c D cA z H locs ls X hH hS hL
  have hts := X.2.2.2.2.1
  have hR := X.2.2.2.2.2.2.2.2.2.2.2.1
  have hsum := q_sum z st 4 hst
  exact va_mmin X.1 X.2.1 (X.2.2.1.trans hL.1.symm) X.2.2.2.1 (hts _ h1) (hts _ h2) (hts _ h3) (hts _ h4) (by omega) (by omega) (by omega) (by omega) hd (k p l e R s m args below meth c D cA z H locs ls X hH hS hL)
theorem q_nn (z : Int32) (hz : ¬ z < 0) : z.toInt = (z.toNatClampNeg : Int) := by
  have hz0 : (0 : Int) ≤ z.toInt := by
    have := Int32.not_lt.mp hz
    simpa using Int32.le_iff_toInt_le.mp this
  show z.toInt = ((z.toInt.toNat : Nat) : Int)
  omega
theorem a_copy {g : qG} {pc idx : Nat} {L : qL} {st : List Value} {w : qW} {kc ks : Nat} {p0 p1 n0 n1 : Nat} {f0 f1 : Nat → Int32} {sp dp n : Int32} (hd : decode g.1.2.1 pc = .ok (.invokestatic idx, 3)) (k1 : Cond.methodLink g.1.1.cls idx arraycopyName ∈ qg) (k2 : Cond.native arraycopyName ∈ qg) (k3 : Cond.static arraycopyName ∈ qg) (k4 : Cond.initialized "java/lang/System" ∈ qg)
    (ha0 : qgI w p0 0 = some (n0, f0)) (ha1 : qgI w p1 0 = some (n1, f1)) (h1 : ¬ sp < 0) (h2 : ¬ dp < 0) (h3 : ¬ n < 0) (h4 : sp.toNatClampNeg + n.toNatClampNeg ≤ n0) (h5 : dp.toNatClampNeg + n.toNatClampNeg ≤ n1) (hst : st.length ≤ 4) (hdp : 1 ≤ g.2.1)
    (k : AW g (pc + 3) L st (qsI w p1 (va_cpy f0 f1 sp.toNatClampNeg dp.toNatClampNeg n.toNatClampNeg)) kc ks) : AW g pc L (.int n :: .int dp :: .ref p1 :: .int sp :: .ref p0 :: st) w kc ks := by
  intro p l e R s m args below meth c D cA z H locs ls X0 hH hS hL T hT X
  have hts := X0.2.2.2.2.1
  have hR := X0.2.2.2.2.2.2.2.2.2.2.2.1
  have hsum := q_sum z st 4 hst
  have hnf : nativeFrameWords "java/lang/System" "arraycopy" 5 ≤ 20 := by decide
  have hw0 := qgI_s ha0
  have hw1 := qgI_s ha1
  have hc0 : H[z.1 + p0]? = some (vp_cell (cA 0) (n0, .inl f0)) := hH.2 p0 _ hw0
  have hc1 : H[z.1 + p1]? = some (vp_cell (cA 0) (n1, .inl f1)) := hH.2 p1 _ hw1
  obtain ⟨-, kk0, hk0, cm0, hkk0⟩ := (X0.2.2.2.2.2.1.2 0 _ rfl).1 n0 (fun j => .int (f0 j))
  obtain ⟨-, kk1, hk1, cm1, hkk1⟩ := (X0.2.2.2.2.2.1.2 0 _ rfl).1 n1 (fun j => .int (f1 j))
  obtain ⟨vm', X', step⟩ := X.arraycopy X0.1 X0.2.2.2.1 (hts _ k1) (hts _ k2) (hts _ k3) (hts _ k4) (src := z.1 + p0) (dst := z.1 + p1) (cs := vp_cell (cA 0) (n0, .inl f0)) (cd := vp_cell (cA 0) (n1, .inl f1)) (srcPos := sp) (destPos := dp) (n := n) (by rw [hT]; exact hc0) (by rw [hT]; exact hc1)
    (fun _ h => by cases h) (fun _ h => by cases h) (fun h => by cases h) (fun h => by cases h) hk0 hk1 hkk0 hkk1 (by simp [refKind]) h1 h2 h3
    (by rw [q_nn sp h1, q_nn n h3]; show ¬ _ > ((arrV (cA 0) n0 (fun j => .int (f0 j))).slots.size : Int); rw [arrV_size]; omega)
    (by rw [q_nn dp h2, q_nn n h3]; show ¬ _ > ((arrV (cA 0) n1 (fun j => .int (f1 j))).slots.size : Int); rw [arrV_size]; omega)
    (fun vm₁ _ i hi => by
      have e : (vp_cell (cA 0) (n0, .inl f0)).slots.getD (sp.toNatClampNeg + i) .null = .int (f0 (sp.toNatClampNeg + i)) := by
        show (arrV (cA 0) n0 (fun j => .int (f0 j))).slots.getD _ _ = _
        rw [Array.getD_eq_getD_getElem?, arrV_read _ _ (by omega)]
        rfl
      refine ⟨?_, ?_⟩
      · rw [e]
        rfl
      · rw [e]
        exact trivial)
    (g := F0 m pc ls (.int n :: .int dp :: .ref (z.1 + p1) :: .int sp :: .ref (z.1 + p0) :: st.map (qv z))) rfl (hL.1.trans X0.2.2.1.symm) (rest := st.map (qv z)) rfl (by rw [X0.2.1]; exact hd) (by omega) (by show 2 * 0 + _ + (nativeFrameWords "java/lang/System" "arraycopy" 5 + 11) ≤ _; omega)
  have e1 : copied (vp_cell (cA 0) (n0, .inl f0)) (vp_cell (cA 0) (n1, .inl f1)) sp dp n = vp_cell (cA 0) (n1, .inl (va_cpy f0 f1 sp.toNatClampNeg dp.toNatClampNeg n.toNatClampNeg)) := va_copied (fun z => .int z) (cA 0) (cA 0) f0 f1 h4
  rw [e1] at X' step
  have hl : z.1 + p1 < H.size := (Array.getElem?_eq_some_iff.mp hc1).1
  have hheap : ((T.setVm vm').setCell (z.1 + p1) (vp_cell (cA 0) (n1, .inl (va_cpy f0 f1 sp.toNatClampNeg dp.toNatClampNeg n.toNatClampNeg)))).heap = H.setIfInBounds (z.1 + p1) (vp_cell (cA 0) (n1, .inl (va_cpy f0 f1 sp.toNatClampNeg dp.toNatClampNeg n.toNatClampNeg))) := by rw [← hT]; rfl
  have oq : ∀ q : Nat, q ≠ z.1 + p1 → (H.setIfInBounds (z.1 + p1) (vp_cell (cA 0) (n1, .inl (va_cpy f0 f1 sp.toNatClampNeg dp.toNatClampNeg n.toNatClampNeg))))[q]? = H[q]? := fun q hq => by simp [Array.getElem?_setIfInBounds, Ne.symm hq]
  obtain ⟨t, a1, b1⟩ := k p l e R s m args below meth c D cA z _ _ ls X0 (hH.up rfl (qsI_at hw1) (fun q hq => qsI_ne hq) (by simp) (show (H.setIfInBounds (z.1 + p1) _)[z.1 + p1]? = some _ by simp [Array.getElem?_setIfInBounds, hl]) oq) ⟨by simp; exact hS.1, fun q g1 g2 => by
      rw [oq q (fun e => g2 (by rw [e]; exact qA_in p1))]
      exact hS.2.1 q g1 g2, fun q hq => by
      rcases List.mem_append.mp hq with h | h
      · exact hS.2.2 q h
      · obtain ⟨x, -, hx⟩ := List.mem_map.mp h
        rw [← hx]
        exact qA_in p1⟩ hL _ hheap X'
  exact ⟨t, step t a1, b1⟩

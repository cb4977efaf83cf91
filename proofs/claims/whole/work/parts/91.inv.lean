def Inv (C : qC) (S : qS) (r : Nat × Nat × Nat) (H : Nat → Nat → Nat → Bool) : Prop := iN C S ∧ iS C S ∧ iF C S ∧ iR C S ∧ iO C S ∧ iB C S ∧ iT C S ∧ iC C S ∧ iM C S ∧ iA C S ∧ iQ C S ∧ iK C S ∧ iU C S r H
def WS (S : qS) (H : Nat → Nat → Nat → Bool) : Prop := W1 S ∧ W2 S ∧ W3 S ∧ W4 S ∧ W5 S ∧ W6 S ∧ W7 S H ∧ W8 S ∧ W9 S ∧ W10 S ∧ W11 S
theorem iN_cg {C C' : qC} {S : qS} (e1 : xI C' 1 3 = xI C 1 3) (e2 : xA C' 2 = xA C 2) (h : iN C S) : iN C' S := by unfold iN; rw [e1, e2]; exact h
theorem iS_cg {C C' : qC} {S : qS} (e1 : xI C' 3 3 = xI C 3 3) (e2 : xA C' 4 = xA C 4) (h : iS C S) : iS C' S := by unfold iS; rw [e1, e2]; exact h
theorem iF_cg {C C' : qC} {S : qS} (e1 : xI C' 5 7 = xI C 5 7) (e2 : xM C' 6 = xM C 6) (h : iF C S) : iF C' S := by unfold iF; rw [e1, e2]; exact h
theorem fB_cg {C C' : qC} {p : Nat} (e : xL C' p = xL C p) (j : Nat) : fB C' p j = fB C p j := by unfold fB; rw [e]
theorem iR_cg {C C' : qC} {S : qS} (h1 : W1 S) (e : ∀ i, i < 100 → xL C' (13 + i) = xL C (13 + i)) (h : iR C S) : iR C' S := by
  have hF := h1.2.2.1
  exact ⟨fun i hi j hj => by rw [fB_cg (e i (by omega))]; exact h.1 i hi j hj, fun i hi hi2 j hj => by rw [fB_cg (e i hi2)]; exact h.2 i hi hi2 j hj⟩
theorem iO_cg {C C' : qC} {S : qS} (e : xA C' 8 = xA C 8) (h : iO C S) : iO C' S := by unfold iO; rw [e]; exact h
theorem iB_cg {C C' : qC} {S : qS} (e : xA C' 9 = xA C 9) (h : iB C S) : iB C' S := by unfold iB; rw [e]; exact h
theorem iT_cg {C C' : qC} {S : qS} (e : xA C' 10 = xA C 10) (e2 : xA C' 11 = xA C 11) (h : iT C S) : iT C' S := by unfold iT; rw [e, e2]; exact h
theorem iC_cg {C C' : qC} {S : qS} (e : xL C' 12 = xL C 12) (h : iC C S) : iC C' S := fun j hj => by rw [fB_cg e]; exact h j hj
theorem iM_cg {C C' : qC} {S : qS} (e1 : xI C' 117 3 = xI C 117 3) (e2 : xA C' 118 = xA C 118) (e3 : xA C' 119 = xA C 119) (e4 : xL C' 120 = xL C 120) (h : iM C S) : iM C' S := ⟨by rw [e1]; exact h.1, by rw [e2]; exact h.2.1, by rw [e3]; exact h.2.2.1, fun j hj => by rw [fB_cg e4]; exact h.2.2.2 j hj⟩
theorem iA_cg {C C' : qC} {S : qS} (e1 : xI C' 121 1 = xI C 121 1) (e2 : xA C' 122 = xA C 122) (h : iA C S) : iA C' S := by unfold iA; rw [e1, e2]; exact h
theorem iQ_cg {C C' : qC} {S : qS} (e1 : xI C' 124 1 = xI C 124 1) (e2 : xA C' 125 = xA C 125) (h : iQ C S) : iQ C' S := by unfold iQ; rw [e1, e2]; exact h
theorem iK_cg {C C' : qC} {S : qS} (e1 : xA C' 127 = xA C 127) (e2 : xA C' 128 = xA C 128) (e3 : xA C' 129 = xA C 129) (e4 : xA C' 130 = xA C 130) (h : iK C S) : iK C' S := by unfold iK; rw [e1, e2, e3, e4]; exact h
theorem iU_cg {C C' : qC} {S : qS} {r : Nat × Nat × Nat} {H : Nat → Nat → Nat → Bool} (e1 : xI C' 0 10 = xI C 0 10) (e2 : xA C' (r.1 + 1) = xA C (r.1 + 1)) (e3 : xI C' 131 = xI C 131) (h : iU C S r H) : iU C' S r H := by unfold iU; rw [e1, e2, e3]; exact h
theorem CT_mono {M : qM} {d mc ms : Nat} {av : List Value} {w : qW} {Q Q' : Option Value → qW → Prop} (h : CT M d mc ms av w Q) (hm : ∀ r w, Q r w → Q' r w) : CT M d mc ms av w Q' := by
  intro l D cA z p e ha hf hc s m args below hfr hS hP hK
  obtain ⟨n, o, a, b, c, ⟨⟨r, w', e1, e2, e3⟩, hF⟩, hL⟩ := h l D cA z p e ha hf hc s m args below hfr hS hP hK
  exact ⟨n, o, a, b, c, ⟨⟨r, w', e1, hm r w' e2, e3⟩, hF⟩, hL⟩
theorem lat_aF {S : qS} (x : Int64) (s f h : Nat) : ∀ n, lat (aF S x) s f h n = lat S s f h n
  | 0 => rfl
  | n + 1 => by
    unfold lat
    rw [lat_aF x s f h n]
    rfl
theorem glt_aF {S : qS} (x : Int64) (s f h : Nat) : glt (aF S x) s f h = glt S s f h := by
  unfold glt
  rw [show cN (aF S x) = cN S from rfl, lat_aF]
  rfl
theorem bdb_S {S S' : qS} (e1 : S'.2.1 138 = S.2.1 138) (e2 : S'.2.1 139 = S.2.1 139) (e3 : S'.2.1 140 = S.2.1 140) (e4 : S'.2.1 146 = S.2.1 146) (i : Nat) : ∀ n, bdb S' i n = bdb S i n
  | 0 => rfl
  | n + 1 => by
    unfold bdb srt ofN hnd
    rw [bdb_S e1 e2 e3 e4 i n, e1, e2, e3, e4]
theorem lat_S {S S' : qS} (e1 : S'.2.1 138 = S.2.1 138) (e2 : S'.2.1 139 = S.2.1 139) (e3 : S'.2.1 140 = S.2.1 140) (s f h : Nat) : ∀ n, lat S' s f h n = lat S s f h n
  | 0 => rfl
  | n + 1 => by
    unfold lat srt ofN hnd
    rw [lat_S e1 e2 e3 s f h n, e1, e2, e3]
theorem iB_S {C : qC} {S S' : qS} (e0 : cN S' = cN S) (e1 : S'.2.1 138 = S.2.1 138) (e2 : S'.2.1 139 = S.2.1 139) (e3 : S'.2.1 140 = S.2.1 140) (e4 : S'.2.1 146 = S.2.1 146) (h : iB C S) : iB C S' := fun i hi => by rw [e0, bdb_S e1 e2 e3 e4]; exact h i hi
theorem iT_S {C : qC} {S S' : qS} (e0 : cN S' = cN S) (e1 : S'.2.1 138 = S.2.1 138) (e2 : S'.2.1 139 = S.2.1 139) (e3 : S'.2.1 140 = S.2.1 140) (e4 : S'.2.1 146 = S.2.1 146) (h : iT C S) : iT C S' := fun i hi => by
  have hg : ∀ s h, glt S' s i h = glt S s i h := fun s h => by unfold glt; rw [e0, lat_S e1 e2 e3, e4]
  simp only [hg]
  exact h i hi
/-! a file more: all of it goes over -/
theorem rp {r : Nat × Nat × Nat} (h : wR r) {p : Nat} (hp : p < 133) : ¬ r.1 + 1 = p := by rcases h with h | h <;> omega
theorem Inv_nw {C C' : qC} {S : qS} {r : Nat × Nat × Nat} {H : Nat → Nat → Nat → Bool} {x : Int64} (hr : wR r) (h1 : W1 S) (h2 : W2 S) (h : Inv C S r H) (h100 : ¬ cF S = 100) (hn : nwC C S x C') : Inv C' (aF S x) r H := by
  have hF := h1.2.2.1
  have e := cF_aF (x := x) h1 h100
  obtain ⟨u1, u2, u3, u4, u5⟩ := hn
  obtain ⟨kN, kS, kF, kR, kO, kB, kT, kC, kM, kA, kQ, kK, kU⟩ := h
  have v1 : ∀ q j, ¬ (q = 5 ∧ j = 7) → xI C' q j = xI C q j := fun q j hq => by rw [u1]; simp only [qxs]; rw [if_neg hq]
  have v2 : xA C' = xA C := by rw [u2]; simp only [qxs]
  have v4 : ∀ q, q ≠ 13 + cF S → xL C' q = xL C q := fun q hq => by rw [u4 q hq]; simp only [qxs]
  have v131 : xI C' 131 = xI C 131 := funext (fun j => v1 131 j (by omega))
  have nN : iN C' (aF S x) := iN_cg (S := S) (v1 1 3 (by omega)) (by rw [v2]) kN
  have nS : iS C' (aF S x) := iS_cg (S := S) (v1 3 3 (by omega)) (by rw [v2]) kS
  have nF : iF C' (aF S x) := by
    refine ⟨by rw [u1, e]; rfl, fun i hi => ?_⟩
    rw [e] at hi
    rw [u3]
    show vp_updL (xM C 6) (cF S) x i = vp_updL S.2.2 (cF S) x i
    by_cases ei : i = cF S
    · rw [ei, pk_uLs, pk_uLs]
    · rw [pk_uLn ei, pk_uLn ei]; exact kF.2 i (by omega)
  have nR : iR C' (aF S x) := by
    refine ⟨fun i hi j hj => ?_, fun i hi hi2 j hj => ?_⟩
    · rw [e] at hi
      rw [reach_aF h1 h2 h100]
      by_cases ei : i = cF S
      · rw [ei, u5 j hj, reach_new h2 (by omega)]
        show (fB C (13 + cF S) j || decide (j = cF S)) = true ↔ j = cF S
        rw [kR.2 (cF S) (Nat.le_refl _) (by omega) j hj]
        simp
      · rw [fB_cg (v4 _ (by omega))]
        exact kR.1 i (by omega) j hj
    · rw [e] at hi
      rw [fB_cg (v4 _ (by omega))]
      exact kR.2 i (by omega) hi2 j hj
  have nT : iT C' (aF S x) := fun i hi => by
    simp only [glt_aF]
    exact iT_cg (S := S) (by rw [v2]) (by rw [v2]) kT i hi
  have nC : iC C' (aF S x) := fun j hj => by
    rw [cln_aF h1 h2 h100, fB_cg (v4 _ (by omega))]
    exact kC j hj
  exact ⟨nN, nS, nF, nR, iO_cg (S := S) (by rw [v2]) kO, iB_S (S := S) rfl rfl rfl rfl rfl (iB_cg (S := S) (by rw [v2]) kB), nT, nC, iM_cg (S := S) (v1 117 3 (by omega)) (by rw [v2]) (by rw [v2]) (v4 _ (by omega)) kM, iA_cg (S := S) (v1 121 1 (by omega)) (by rw [v2]) kA, iQ_cg (S := S) (v1 124 1 (by omega)) (by rw [v2]) kQ, iK_cg (S := S) (by rw [v2]) (by rw [v2]) (by rw [v2]) (by rw [v2]) kK, iU_cg (S := S) (v1 0 10 (by omega)) (by rw [v2]) v131 kU⟩
theorem WS_aF {S : qS} {H : Nat → Nat → Nat → Bool} {x : Int64} (h : WS S H) (h100 : ¬ cF S = 100) : WS (aF S x) H := by
  obtain ⟨h1, h2, h3, h4, h5, h6, h7, h8, h9, h10, h11⟩ := h
  have e := cF_aF (x := x) h1 h100
  refine ⟨W1_aF h1 h100, W2_aF h1 h2 h100, ⟨fun k hk => ⟨(h3.1 k hk).1, by rw [e]; exact Nat.lt_succ_of_lt (h3.1 k hk).2⟩, h3.2⟩, h4, fun c hc => ⟨(h5 c hc).1, fun q => by obtain ⟨j, hj, z⟩ := (h5 c hc).2 q; exact ⟨j, by rw [e]; omega, z⟩⟩, h6, h7, h8, h9, h10, h11⟩
/-- numberOrNew, with all that holds -/
theorem zX7_nON {C M : qC} {r : Nat × Nat × Nat} {S : qS} {H : Nat → Nat → Nat → Bool} {x : Int64} (hr : wR r) (hW : WS S H) (h : Inv C S r H) : CT mX7_numberOrNew 1 0 0 [.ref 5, .long x] (wd C M r) (fun r' w' => r' = some (.int (ffN S x)) ∧ ∃ C', w' = wd C' M r ∧ Inv C' (ffS S x) r H) := by
  refine CT_mono (zX7_numberOrNew hW.1 h.2.2.1) ?_
  rintro r' w' ⟨e, C', ew, ⟨hn, rfl⟩ | ⟨hn, hu⟩⟩
  · refine ⟨e, C', ew, ?_⟩
    rw [show ffS S x = S from if_neg hn]
    exact h
  · refine ⟨e, C', ew, ?_⟩
    rw [show ffS S x = aF S x from if_pos hn]
    exact Inv_nw hr hW.1 hW.2.1 h hn.2 hu
theorem WS_ff {S : qS} {H : Nat → Nat → Nat → Bool} {x : Int64} (h : WS S H) : WS (ffS S x) H := by
  unfold ffS
  split
  · rename_i q; exact WS_aF h q.2
  · exact h
/-! the row of a new note -/
def tN (f : Nat → Int32) (n : Nat) (u : Nat → Int32) : Nat → Int32 := fun j => if n * 8 ≤ j ∧ j < n * 8 + 8 then u (j - n * 8) else f j
theorem tN_up (f : Nat → Int32) (n k : Nat) (u : Nat → Int32) (x : Int32) (hk : k < 8) : upd (tN f n u) (n * 8 + k) x = tN f n (upd u k x) := by
  funext j
  show (if j = n * 8 + k then x else if n * 8 ≤ j ∧ j < n * 8 + 8 then u (j - n * 8) else f j) = if n * 8 ≤ j ∧ j < n * 8 + 8 then (if j - n * 8 = k then x else u (j - n * 8)) else f j
  by_cases e : j = n * 8 + k
  · rw [if_pos e, if_pos (by omega), if_pos (by omega)]
  · rw [if_neg e]
    by_cases h : n * 8 ≤ j ∧ j < n * 8 + 8
    · rw [if_pos h, if_pos h, if_neg (by omega)]
    · rw [if_neg h, if_neg h]
theorem tN_id {f : Nat → Int32} {n : Nat} (h : ∀ j, n * 8 ≤ j → j < n * 8 + 8 → f j = -1) : f = tN f n (fun _ => -1) := by
  funext j
  unfold tN
  by_cases e : n * 8 ≤ j ∧ j < n * 8 + 8
  · rw [if_pos e]; exact h j e.1 e.2
  · rw [if_neg e]
def nC (C : qC) (S : qS) (u : Nat → Int32) : qC := yA (yI C 1 3 (nI (cN S + 1))) 2 (tN (xA C 2) (cN S) u)
theorem nC_up (C : qC) (S : qS) (u : Nat → Int32) (k : Nat) (x : Int32) (hk : k < 8) : yA (nC C S u) 2 (upd (xA (nC C S u) 2) (cN S * 8 + k) x) = nC C S (upd u k x) := by
  unfold nC
  rw [yA_yA]
  congr 1
  exact tN_up _ _ _ _ _ hk
theorem nC_N {C : qC} {S : qS} {u v : Nat → Int32} (h1 : W1 S) (hn : cN S < 400) (hI : iN C S) (hu : u 0 = v 138 ∧ u 1 = v 139 ∧ u 2 = v 140 ∧ u 3 = v 142 ∧ u 4 = v 143 ∧ u 5 = v 144 ∧ u 6 = v 145 ∧ u 7 = v 146) : iN (nC C S u) (nA S v) := by
  have e := nA_N v h1
  refine ⟨by rw [e]; rfl, fun n h k hk => ?_, fun j h h2 => ?_⟩
  · rw [e] at h
    show tN (xA C 2) (cN S) u (n * 8 + k) = _
    unfold tN
    rcases n_cases h with h | rfl
    · rw [if_neg (by omega), hI.2.1 n h k hk]
      unfold ntV
      rw [nA_at v (by omega) h, nA_at v (by omega) h, nA_at v (by omega) h, nA_at v (by omega) h, nA_at v (by omega) h, nA_at v (by omega) h, nA_at v (by omega) h, nA_at v (by omega) h]
    · rw [if_pos (by omega), show cN S * 8 + k - cN S * 8 = k by omega]
      unfold ntV
      rw [nA_nw v (by omega), nA_nw v (by omega), nA_nw v (by omega), nA_nw v (by omega), nA_nw v (by omega), nA_nw v (by omega), nA_nw v (by omega), nA_nw v (by omega)]
      obtain ⟨a0, a1, a2, a3, a4, a5, a6, a7⟩ := hu
      rcases (show k = 0 ∨ k = 1 ∨ k = 2 ∨ k = 3 ∨ k = 4 ∨ k = 5 ∨ k = 6 ∨ k = 7 by omega) with rfl | rfl | rfl | rfl | rfl | rfl | rfl | rfl
      · exact a0
      · exact a1
      · exact a2
      · exact a3
      · exact a4
      · exact a5
      · exact a6
      · exact a7
  · rw [e] at h
    show tN (xA C 2) (cN S) u j = _
    unfold tN
    rw [if_neg (by omega)]
    exact hI.2.2 j (by omega) h2
def u3 (s f h : Int32) : Nat → Int32 := upd (upd (upd (fun _ => -1) 0 s) 1 f) 2 h
set_option maxRecDepth 100000 in
set_option maxHeartbeats 4000000 in
theorem zX10_addNote {C M : qC} {r : Nat × Nat × Nat} {S : qS} {s f h : Int32} (h1 : W1 S) (hn : cN S < 400) (hI : iN C S) : CT mX10_addNote 2 0 0 [.ref 0, .int s, .int f, .int h] (wd C M r) (fun r' w' => w' = wd (nC C S (u3 s f h)) M r ∧ r' = some (.int (nI (cN S)))) := by
  have e0 : yI C 1 3 (nI (cN S + 1)) = nC C S (fun _ => -1) := by
    unfold nC
    rw [← tN_id (fun j a b => hI.2.2 j a (by omega))]
    refine Prod.ext rfl (Prod.ext rfl (Prod.ext ?_ rfl))
    funext q
    show C.2.2.1 q = if q = 2 then C.2.2.1 2 else C.2.2.1 q
    split
    · rename_i hq; rw [hq]
    · rfl
  have st : ∀ (u : Nat → Int32) (k : Nat) (x : Int32), k < 8 → CT mX8_set 1 0 0 [.ref 1, .int (nI (cN S)), .int (nI k), .int x] (wd (nC C S u) M r) (fun r' w' => r' = none ∧ w' = wd (nC C S (upd u k x)) M r) := fun u k x hk => by
    have := zX8_set_1 (C := nC C S u) (M := M) (r := r) (N := cN S + 1) (n := cN S) (k := k) (v := x) rfl (by omega) (by omega) hk
    rw [nC_up C S u k x hk] at this
    exact this
  refine eX10_addNote (AW_gen (fun Q hQ => ?_))
  refine oX10_addNote_0 _ _ _ _ _ _ ?_
  simp only [bX10_addNote_0, qsem, qopt_s, qopt2_s, qev, qxs, Nat.reduceEqDiff, reduceIte, and_true, true_and, and_false, false_and, and_self, or_true, true_or, qb_or, reduceCtorEq, qbr_True, qbr_False, q10, q01, qwC]
  refine kX10_addNote_4 (zX8_addRow_1 hI.1 hn) (rfl) (Nat.le_of_ble_eq_true rfl) (Nat.le_of_ble_eq_true rfl) ⟨Nat.le_of_ble_eq_true rfl, Nat.le_of_ble_eq_true rfl⟩ ?_
  rintro _ _ ⟨rfl, rfl⟩
  rw [e0]
  refine oX10_addNote_7 _ _ _ _ _ _ ?_
  simp only [bX10_addNote_7, qsem, qopt_s, qopt2_s, qev, qxs, Nat.reduceEqDiff, reduceIte, and_true, true_and, and_false, false_and, and_self, or_true, true_or, qb_or, reduceCtorEq, qbr_True, qbr_False, q10, q01, qwC]
  refine kX10_addNote_17 (st _ 0 s (by omega)) (rfl) (Nat.le_of_ble_eq_true rfl) (Nat.le_of_ble_eq_true rfl) ⟨Nat.le_of_ble_eq_true rfl, Nat.le_of_ble_eq_true rfl⟩ ?_
  rintro _ _ ⟨rfl, rfl⟩
  refine oX10_addNote_20 _ _ _ _ _ _ ?_
  simp only [bX10_addNote_20, qsem, qopt_s, qopt2_s, qev, qxs, Nat.reduceEqDiff, reduceIte, and_true, true_and, and_false, false_and, and_self, or_true, true_or, qb_or, reduceCtorEq, qbr_True, qbr_False, q10, q01, qwC]
  refine kX10_addNote_28 (st _ 1 f (by omega)) (rfl) (Nat.le_of_ble_eq_true rfl) (Nat.le_of_ble_eq_true rfl) ⟨Nat.le_of_ble_eq_true rfl, Nat.le_of_ble_eq_true rfl⟩ ?_
  rintro _ _ ⟨rfl, rfl⟩
  refine oX10_addNote_31 _ _ _ _ _ _ ?_
  simp only [bX10_addNote_31, qsem, qopt_s, qopt2_s, qev, qxs, Nat.reduceEqDiff, reduceIte, and_true, true_and, and_false, false_and, and_self, or_true, true_or, qb_or, reduceCtorEq, qbr_True, qbr_False, q10, q01, qwC]
  refine kX10_addNote_39 (st _ 2 h (by omega)) (rfl) (Nat.le_of_ble_eq_true rfl) (Nat.le_of_ble_eq_true rfl) ⟨Nat.le_of_ble_eq_true rfl, Nat.le_of_ble_eq_true rfl⟩ ?_
  rintro _ _ ⟨rfl, rfl⟩
  refine oX10_addNote_42 _ _ _ _ _ _ ?_
  simp only [bX10_addNote_42, qsem, qopt_s, qopt2_s, qev, qxs, Nat.reduceEqDiff, reduceIte, and_true, true_and, and_false, false_and, and_self, or_true, true_or, qb_or, reduceCtorEq, qbr_True, qbr_False, q10, q01, qwC]
  exact hQ _ _ ⟨rfl, rfl⟩


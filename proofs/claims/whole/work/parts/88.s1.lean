/-! reachability over any edges -/
def rch (E : Nat → Nat → Prop) (f g : Nat) : Prop := ∀ P : Nat → Prop, P f → (∀ x y, P x → E x y → P y) → P g
theorem rch_rf (E : Nat → Nat → Prop) (f : Nat) : rch E f f := fun _ h _ => h
theorem rch_st {E : Nat → Nat → Prop} {f x y : Nat} (h : rch E f x) (e : E x y) : rch E f y := fun P h0 hs => hs x y (h P h0 hs) e
theorem rch_tr {E : Nat → Nat → Prop} {f x y : Nat} (h : rch E f x) (h2 : rch E x y) : rch E f y := h2 (fun y => rch E f y) h (fun _ _ a e => rch_st a e)
theorem rch_mono {E E' : Nat → Nat → Prop} (hE : ∀ x y, E x y → E' x y) {f g : Nat} (h : rch E f g) : rch E' f g := h (fun y => rch E' f y) (rch_rf _ _) (fun x y a e => rch_st a (hE x y e))
theorem rch_cg {E E' : Nat → Nat → Prop} (hE : ∀ x y, E x y ↔ E' x y) (f g : Nat) : rch E f g ↔ rch E' f g := ⟨rch_mono (fun x y => (hE x y).mp), rch_mono (fun x y => (hE x y).mpr)⟩
theorem rch_add {E : Nat → Nat → Prop} {f a i j : Nat} : rch (fun x y => E x y ∨ (x = f ∧ y = a)) i j ↔ rch E i j ∨ (rch E i f ∧ rch E a j) := by
  constructor
  · intro h
    refine h (fun j => rch E i j ∨ (rch E i f ∧ rch E a j)) (Or.inl (rch_rf _ _)) (fun x y hx e => ?_)
    rcases e with e | ⟨rfl, rfl⟩
    · exact hx.imp (fun q => rch_st q e) (fun q => ⟨q.1, rch_st q.2 e⟩)
    · exact Or.inr ⟨hx.elim id (fun q => q.1), rch_rf _ _⟩
  · rintro (h | ⟨h1, h2⟩)
    · exact rch_mono (fun _ _ => Or.inl) h
    · exact rch_tr (rch_st (rch_mono (fun _ _ => Or.inl) h1) (Or.inr ⟨rfl, rfl⟩)) (rch_mono (fun _ _ => Or.inl) h2)
theorem reach_rch (S : qS) : reach S = rch (edge S) := rfl
/-! a file more -/
theorem edge_aF {S : qS} {x : Int64} (h1 : W1 S) (h2 : W2 S) (h : ¬ cF S = 100) (g i : Nat) : edge (aF S x) g i ↔ edge S g i := by
  have hF := h1.2.2.1
  have e := cF_aF (x := x) h1 h
  constructor
  · rintro ⟨n, a, b, c, k, hk, hw, hi⟩
    rw [e] at hi
    have hw : wnt S n k = nI i := hw
    have a : n < cN S := a
    refine ⟨n, a, b, c, k, hk, hw, ?_⟩
    rcases W2_k h2 a hk with q | ⟨j, hj, q⟩
    · exact absurd (hw.symm.trans q) (i_nm1 (by omega))
    · rw [i_ninj (by omega) (by omega) (hw.symm.trans q)]; exact hj
  · rintro ⟨n, a, b, c, k, hk, hw, hi⟩
    exact ⟨n, a, b, c, k, hk, hw, by rw [e]; omega⟩
theorem reach_aF {S : qS} {x : Int64} (h1 : W1 S) (h2 : W2 S) (h : ¬ cF S = 100) (f g : Nat) : reach (aF S x) f g ↔ reach S f g := rch_cg (edge_aF h1 h2 h) f g
theorem reach_new {S : qS} (h2 : W2 S) {f j : Nat} (hf : ¬ f < cF S) : reach S f j ↔ j = f := by
  constructor
  · intro h
    refine h (fun y => y = f) rfl (fun x y hx e => ?_)
    obtain ⟨n, a, b, c, -⟩ := e
    exact absurd (by rw [← hx, ← c]; exact (h2 n a).2.1.2) hf
  · rintro rfl
    exact reach_rf S _
theorem grd_aF {S : qS} {x : Int64} (h1 : W1 S) (h2 : W2 S) (h : ¬ cF S = 100) (P : Nat → Prop) {n : Nat} (hn : n < cN S) : grd (aF S x) P n ↔ grd S P n := by
  have hF := h1.2.2.1
  have e := cF_aF (x := x) h1 h
  refine or_congr Iff.rfl (and_congr Iff.rfl (and_congr Iff.rfl ?_))
  constructor
  · intro q k hk i hi hw
    exact q k hk i (by rw [e]; omega) hw
  · intro q k hk i hi hw
    rw [e] at hi
    have hw : wnt S n k = nI i := hw
    refine q k hk i ?_ hw
    rcases W2_k h2 hn hk with z | ⟨j, hj, z⟩
    · exact absurd (hw.symm.trans z) (i_nm1 (by omega))
    · rw [i_ninj (by omega) (by omega) (hw.symm.trans z)]; exact hj
theorem cln_aF {S : qS} {x : Int64} (h1 : W1 S) (h2 : W2 S) (h : ¬ cF S = 100) (g : Nat) : cln (aF S x) g ↔ cln S g :=
  ⟨fun q P hP => q P (fun n hn z => hP n hn ((grd_aF h1 h2 h P hn).mp z)), fun q P hP => q P (fun n hn z => hP n hn ((grd_aF h1 h2 h P hn).mpr z))⟩
theorem W2_aF {S : qS} {x : Int64} (h1 : W1 S) (h2 : W2 S) (h : ¬ cF S = 100) : W2 (aF S x) := by
  have e := cF_aF (x := x) h1 h
  intro n hn
  obtain ⟨a, ⟨b, b'⟩, c, d⟩ := h2 n hn
  refine ⟨a, ⟨b, by rw [e]; exact Nat.lt_succ_of_lt b'⟩, c, fun k hk => (d k hk).imp id (fun ⟨j, hj, q⟩ => ⟨j, by rw [e]; omega, q⟩)⟩
/-! a note more -/
def nwK (S : qS) (v : Nat → Int32) (s f h : Nat) : Prop := (v 138 = nI s ∧ s ≤ 4) ∧ (v 139 = nI f ∧ f < cF S) ∧ (v 140 = nI h ∧ h < 12) ∧ ∀ k, k < 3 → fk (v 143) (v 144) (v 145) k = -1 ∨ ∃ j, j < cF S ∧ fk (v 143) (v 144) (v 145) k = nI j
theorem nA_at {S : qS} (v : Nat → Int32) {p n : Nat} (hp : 138 ≤ p ∧ p ≤ 148) (h : n < cN S) : (nA S v).2.1 p n = S.2.1 p n := by rw [nA_a v hp, if_neg (by omega)]
theorem nA_nw {S : qS} (v : Nat → Int32) {p : Nat} (hp : 138 ≤ p ∧ p ≤ 148) : (nA S v).2.1 p (cN S) = v p := by rw [nA_a v hp, if_pos rfl]
theorem nA_srt {S : qS} (v : Nat → Int32) {n : Nat} (h : n < cN S) : srt (nA S v) n = srt S n := by unfold srt; rw [nA_at v (by omega) h]
theorem nA_of {S : qS} (v : Nat → Int32) {n : Nat} (h : n < cN S) : ofN (nA S v) n = ofN S n := by unfold ofN; rw [nA_at v (by omega) h]
theorem nA_hnd {S : qS} (v : Nat → Int32) {n : Nat} (h : n < cN S) : hnd (nA S v) n = hnd S n := by unfold hnd; rw [nA_at v (by omega) h]
theorem nA_wnt {S : qS} (v : Nat → Int32) {n k : Nat} (h : n < cN S) : wnt (nA S v) n k = wnt S n k := by unfold wnt; rw [nA_at v (by omega) h, nA_at v (by omega) h, nA_at v (by omega) h]
theorem nw_srt {S : qS} {v : Nat → Int32} {s f h : Nat} (hk : nwK S v s f h) : srt (nA S v) (cN S) = s := by unfold srt; rw [nA_nw v (by omega), hk.1.1, nI_clamp (by have := hk.1.2; omega)]
theorem nw_of {S : qS} {v : Nat → Int32} {s f h : Nat} (h1 : W1 S) (hk : nwK S v s f h) : ofN (nA S v) (cN S) = f := by unfold ofN; rw [nA_nw v (by omega), hk.2.1.1, nI_clamp (by have := hk.2.1.2; have := h1.2.2.1; omega)]
theorem nw_hnd {S : qS} {v : Nat → Int32} {s f h : Nat} (hk : nwK S v s f h) : hnd (nA S v) (cN S) = h := by unfold hnd; rw [nA_nw v (by omega), hk.2.2.1.1, nI_clamp (by have := hk.2.2.1.2; omega)]
theorem nw_wnt {S : qS} (v : Nat → Int32) (k : Nat) : wnt (nA S v) (cN S) k = fk (v 143) (v 144) (v 145) k := by unfold wnt fk; rw [nA_nw v (by omega), nA_nw v (by omega), nA_nw v (by omega)]
theorem W1_nA {S : qS} (v : Nat → Int32) (h1 : W1 S) (hn : cN S < 400) : W1 (nA S v) := by
  have e := nA_N v h1
  have e0 := nA_c0 v h1
  obtain ⟨⟨a0, a1, a2, a3, a4, a5, a6⟩, b1, b2, b3, b4, b5, b6, b7⟩ := h1
  refine ⟨⟨by rw [e0, e], a1, a2, a3, a4, a5, a6⟩, by rw [e]; omega, b2, b3, b4, b5, ?_, b7⟩
  rw [e]
  show cS S ≤ cN S + 1
  omega
theorem n_cases {n N : Nat} (h : n < N + 1) : n < N ∨ n = N := by omega
theorem W2_nA {S : qS} {v : Nat → Int32} {s f h : Nat} (h1 : W1 S) (h2 : W2 S) (hk : nwK S v s f h) : W2 (nA S v) := by
  intro n hn
  rw [nA_N v h1] at hn
  rcases n_cases hn with hn | rfl
  · obtain ⟨⟨a, a'⟩, ⟨b, b'⟩, ⟨c, c'⟩, d⟩ := h2 n hn
    rw [nA_srt v hn, nA_of v hn, nA_hnd v hn, nA_at v (by omega) hn, nA_at v (by omega) hn, nA_at v (by omega) hn]
    exact ⟨⟨a, a'⟩, ⟨b, b'⟩, ⟨c, c'⟩, fun k hk' => by rw [nA_wnt v hn]; exact d k hk'⟩
  · rw [nw_srt hk, nw_of h1 hk, nw_hnd hk, nA_nw v (by omega), nA_nw v (by omega), nA_nw v (by omega)]
    exact ⟨hk.1, hk.2.1, hk.2.2.1, fun k hk' => by rw [nw_wnt]; exact hk.2.2.2 k hk'⟩
theorem edge_nA {S : qS} {v : Nat → Int32} {s f h : Nat} (h1 : W1 S) (hk : nwK S v s f h) (g i : Nat) : edge (nA S v) g i ↔ edge S g i ∨ (s = 1 ∧ f = g ∧ ∃ k, k < 3 ∧ fk (v 143) (v 144) (v 145) k = nI i ∧ i < cF S) := by
  constructor
  · rintro ⟨n, a, b, c, k, hk', hw, hi⟩
    rw [nA_N v h1] at a
    rcases n_cases a with a | rfl
    · rw [nA_srt v a] at b
      rw [nA_of v a] at c
      rw [nA_wnt v a] at hw
      exact Or.inl ⟨n, a, b, c, k, hk', hw, hi⟩
    · rw [nw_srt hk] at b
      rw [nw_of h1 hk] at c
      rw [nw_wnt] at hw
      exact Or.inr ⟨b, c, k, hk', hw, hi⟩
  · rintro (⟨n, a, b, c, k, hk', hw, hi⟩ | ⟨b, c, k, hk', hw, hi⟩)
    · exact ⟨n, by rw [nA_N v h1]; omega, by rw [nA_srt v a]; exact b, by rw [nA_of v a]; exact c, k, hk', by rw [nA_wnt v a]; exact hw, hi⟩
    · exact ⟨cN S, by rw [nA_N v h1]; omega, by rw [nw_srt hk]; exact b, by rw [nw_of h1 hk]; exact c, k, hk', by rw [nw_wnt]; exact hw, hi⟩
theorem reach_nA {S : qS} {v : Nat → Int32} {s f h : Nat} (h1 : W1 S) (hk : nwK S v s f h) (hs : ¬ s = 1) (g i : Nat) : reach (nA S v) g i ↔ reach S g i := rch_cg (fun x y => (edge_nA h1 hk x y).trans ⟨fun q => q.elim id (fun z => absurd z.1 hs), Or.inl⟩) g i
theorem bdb_nA {S : qS} (v : Nat → Int32) (i : Nat) : ∀ n, n ≤ cN S → bdb (nA S v) i n = bdb S i n
  | 0, _ => rfl
  | n + 1, hn => by
    unfold bdb
    rw [nA_srt v (by omega), nA_of v (by omega), nA_hnd v (by omega), nA_at v (by omega) (show n < cN S by omega), bdb_nA v i n (by omega)]
theorem bdb_nw {S : qS} {v : Nat → Int32} {s f h : Nat} (h1 : W1 S) (hk : nwK S v s f h) (i : Nat) : bdb (nA S v) i (cN (nA S v)) = if s = 1 ∧ f = i ∧ v 146 = 1 then bdb S i (cN S) ||| 2 ^ h else bdb S i (cN S) := by
  rw [nA_N v h1]
  show (if srt (nA S v) (cN S) = 1 ∧ ofN (nA S v) (cN S) = i ∧ (nA S v).2.1 146 (cN S) = 1 then bdb (nA S v) i (cN S) ||| 2 ^ hnd (nA S v) (cN S) else bdb (nA S v) i (cN S)) = _
  rw [nw_srt hk, nw_of h1 hk, nw_hnd hk, nA_nw v (by omega), bdb_nA v i _ (Nat.le_refl _)]
theorem lat_nA {S : qS} (v : Nat → Int32) (s' f' h' : Nat) : ∀ n, n ≤ cN S → lat (nA S v) s' f' h' n = lat S s' f' h' n
  | 0, _ => rfl
  | n + 1, hn => by
    unfold lat
    rw [nA_srt v (by omega), nA_of v (by omega), nA_hnd v (by omega), lat_nA v s' f' h' n (by omega)]
theorem glt_nw {S : qS} {v : Nat → Int32} {s f h : Nat} (h1 : W1 S) (hk : nwK S v s f h) (s' f' h' : Nat) : glt (nA S v) s' f' h' = if s = s' ∧ f = f' ∧ h = h' then decide (v 146 = 1) else glt S s' f' h' := by
  have hN := h1.2.1
  have e : lat (nA S v) s' f' h' (cN (nA S v)) = if s = s' ∧ f = f' ∧ h = h' then nI (cN S) else lat S s' f' h' (cN S) := by
    rw [nA_N v h1]
    show (if srt (nA S v) (cN S) = s' ∧ ofN (nA S v) (cN S) = f' ∧ hnd (nA S v) (cN S) = h' then nI (cN S) else lat (nA S v) s' f' h' (cN S)) = _
    rw [nw_srt hk, nw_of h1 hk, nw_hnd hk, lat_nA v s' f' h' _ (Nat.le_refl _)]
  unfold glt
  rw [e]
  by_cases hc : s = s' ∧ f = f' ∧ h = h'
  · rw [if_pos hc, if_pos hc, nI_clamp (by omega), nA_nw v (by omega)]
    exact decide_eq_decide.mpr ⟨fun q => q.2, fun q => ⟨i_nm1 (by omega), q⟩⟩
  · rw [if_neg hc, if_neg hc]
    rcases lat_c (S := S) (s := s') (f := f') (h := h') (cN S) with q | ⟨j, hj, q⟩
    · rw [q]
      exact decide_eq_decide.mpr ⟨fun z => absurd rfl z.1, fun z => absurd rfl z.1⟩
    · rw [q, nI_clamp (by omega), nA_at v (by omega) hj]
theorem mkr_nw {S : qS} {v : Nat → Int32} {s f h : Nat} (h1 : W1 S) (hk : nwK S v s f h) (i h' : Nat) : mkr (nA S v) i h' ↔ mkr S i h' ∨ (s < 2 ∧ f = i ∧ h = h') := by
  constructor
  · rintro ⟨n, a, b, c, d⟩
    rw [nA_N v h1] at a
    rcases n_cases a with a | rfl
    · rw [nA_srt v a] at b
      rw [nA_of v a] at c
      rw [nA_hnd v a] at d
      exact Or.inl ⟨n, a, b, c, d⟩
    · rw [nw_srt hk] at b
      rw [nw_of h1 hk] at c
      rw [nw_hnd hk] at d
      exact Or.inr ⟨b, c, d⟩
  · rintro (⟨n, a, b, c, d⟩ | ⟨b, c, d⟩)
    · exact ⟨n, by rw [nA_N v h1]; omega, by rw [nA_srt v a]; exact b, by rw [nA_of v a]; exact c, by rw [nA_hnd v a]; exact d⟩
    · exact ⟨cN S, by rw [nA_N v h1]; omega, by rw [nw_srt hk]; exact b, by rw [nw_of h1 hk]; exact c, by rw [nw_hnd hk]; exact d⟩
theorem cnN_nA {S : qS} (v : Nat → Int32) {n : Nat} (hn : n < cN S) : cnN (nA S v) n ↔ cnN S n := by
  unfold cnN cnP
  rw [nA_srt v hn, nA_at v (p := 142) (by omega) hn, nA_at v (p := 140) (by omega) hn]
  exact Iff.rfl
theorem mkd_nw {S : qS} {v : Nat → Int32} {s f h : Nat} (h1 : W1 S) (hk : nwK S v s f h) (g : Nat) : mkd (nA S v) g ↔ mkd S g ∨ (s < 2 ∧ f = g ∧ cnN (nA S v) (cN S)) := by
  constructor
  · rintro (q | ⟨n, a, b, c, d⟩)
    · exact Or.inl (Or.inl q)
    · rw [nA_N v h1] at a
      rcases n_cases a with a | rfl
      · rw [nA_srt v a] at b
        rw [nA_of v a] at c
        exact Or.inl (Or.inr ⟨n, a, b, c, (cnN_nA v a).mp d⟩)
      · rw [nw_srt hk] at b
        rw [nw_of h1 hk] at c
        exact Or.inr ⟨b, c, d⟩
  · rintro ((q | ⟨n, a, b, c, d⟩) | ⟨b, c, d⟩)
    · exact Or.inl q
    · exact Or.inr ⟨n, by rw [nA_N v h1]; omega, by rw [nA_srt v a]; exact b, by rw [nA_of v a]; exact c, (cnN_nA v a).mpr d⟩
    · exact Or.inr ⟨cN S, by rw [nA_N v h1]; omega, by rw [nw_srt hk]; exact b, by rw [nw_of h1 hk]; exact c, d⟩
theorem grd_nA {S : qS} (v : Nat → Int32) (P : Nat → Prop) {n : Nat} (hn : n < cN S) : grd (nA S v) P n ↔ grd S P n := by
  unfold grd
  rw [nA_srt v hn, nA_at v (p := 146) (by omega) hn]
  refine or_congr Iff.rfl (and_congr Iff.rfl (and_congr Iff.rfl ?_))
  constructor
  · intro q k hk i hi hw
    exact q k hk i hi (by rw [nA_wnt v hn]; exact hw)
  · intro q k hk i hi hw
    rw [nA_wnt v hn] at hw
    exact q k hk i hi hw
theorem cln_up {S : qS} (v : Nat → Int32) (h1 : W1 S) {g : Nat} (h : cln S g) : cln (nA S v) g := fun P hP => h P (fun n hn z => by
  have := hP n (by rw [nA_N v h1]; omega) ((grd_nA v P hn).mpr z)
  rw [nA_of v hn] at this
  exact this)
theorem cln_nw {S : qS} {v : Nat → Int32} {s f h : Nat} (h1 : W1 S) (hk : nwK S v s f h) (hs : 2 ≤ s) (g : Nat) : cln (nA S v) g ↔ cln S g := by
  refine ⟨fun q P hP => q P (fun n hn z => ?_), cln_up v h1⟩
  rw [nA_N v h1] at hn
  rcases n_cases hn with hn | rfl
  · rw [nA_of v hn]
    exact hP n hn ((grd_nA v P hn).mp z)
  · exfalso
    rcases z with z | z
    · rw [nw_srt hk] at z; omega
    · rw [nw_srt hk] at z; have := z.1; omega
/-- before cleanBy: what is clean of the notes before is so still -/
theorem c2_nw {S : qS} {C : qC} (v : Nat → Int32) (h1 : W1 S) (h2 : W2 S) (hC : iC C S) : cI2 (nA S v) C ∧ ∀ n', n' < cN (nA S v) → n' ≠ cN S → grd (nA S v) (fB12 C) n' → fB12 C (ofN (nA S v) n') := by
  have hF := h1.2.2.1
  refine ⟨fun j hj hb => cln_up v h1 ((hC j hj).mp hb), fun n' hn' hne g => ?_⟩
  rw [nA_N v h1] at hn'
  have hn : n' < cN S := by omega
  rw [nA_of v hn]
  have lo := (h2 n' hn).2.1.2
  refine (hC _ (by omega)).mpr (cln_of hn ?_)
  rcases (grd_nA v _ hn).mp g with q | ⟨a, b, c⟩
  · exact Or.inl q
  · exact Or.inr ⟨a, b, fun k hk i hi hw => (hC i (by omega)).mp (c k hk i hi hw)⟩


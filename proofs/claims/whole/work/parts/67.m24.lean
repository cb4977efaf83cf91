theorem ffi_c {p : Nat → Bool} {F : Nat} : ∀ k, k ≤ F → (∃ n, F - k ≤ n ∧ n < F ∧ p n = true) → ∃ n, n < F ∧ ffi p F k = nI n ∧ p n = true
  | 0, _, ⟨n, a, b, _⟩ => by omega
  | k + 1, hk, ⟨n, a, b, c⟩ => by
    unfold ffi
    by_cases h : p (F - (k + 1)) = true
    · rw [if_pos h]; exact ⟨_, by omega, rfl, h⟩
    · rw [if_neg h]
      refine ffi_c k (by omega) ⟨n, ?_, b, c⟩
      rcases Nat.lt_or_ge n (F - k) with q | q
      · have : n = F - (k + 1) := by omega
        rw [this] at c; exact absurd c h
      · exact q
/-- a file that is clean has a ground -/
theorem cln_grd {S : qS} {g : Nat} (h : cln S g) : ∃ n, n < cN S ∧ ofN S n = g ∧ grd S (cln S) n :=
  h (fun g => ∃ n, n < cN S ∧ ofN S n = g ∧ grd S (cln S) n) (fun n hn q => ⟨n, hn, rfl, grd_mono (fun i ⟨n', a, b, c⟩ => by rw [← b]; exact cln_of a c) q⟩)
theorem fo_c {S : qS} {g : Nat} (h : cln S g) : ∃ n, n < cN S ∧ fo S g = nI n ∧ ofN S n = g ∧ grd S (cln S) n := by
  obtain ⟨n, a, b, c⟩ := cln_grd h
  obtain ⟨n', a', e, hp⟩ := ffi_c (p := foB S g) (F := cN S) (cN S) (Nat.le_refl _) ⟨n, by omega, a, dc_iff.mpr ⟨b, c⟩⟩
  have := dc_iff.mp hp
  exact ⟨n', a', e, this.1, this.2⟩
/-- notes that aren't builds have nothing that went in -/
def W8 (S : qS) : Prop := ∀ n, n < cN S → ¬ srt S n = 1 → ∀ k, k < 3 → wnt S n k = -1
def gE (S : qS) (g i : Nat) : Prop := ∃ n, n < cN S ∧ fo S g = nI n ∧ ∃ k, k < 3 ∧ wnt S n k = nI i ∧ i < cF S
def pR (S : qS) (f g : Nat) : Prop := ∀ P : Nat → Prop, P f → (∀ x y, P x → gE S x y → P y) → P g
def prf (S : qS) (f n : Nat) : Prop := ∃ g, pR S f g ∧ fo S g = nI n
theorem pR_rf (S : qS) (f : Nat) : pR S f f := fun _ h _ => h
theorem pR_st {S : qS} {f x y : Nat} (h : pR S f x) (e : gE S x y) : pR S f y := fun P h0 hs => hs x y (h P h0 hs) e
theorem gE_cln {S : qS} (h1 : W1 S) (h8 : W8 S) {g i : Nat} (hg : cln S g) (e : gE S g i) : cln S i := by
  have hN := h1.2.1
  obtain ⟨n, hn, hf, k, hk, hw, hi⟩ := e
  obtain ⟨n', hn', hf', -, hgr⟩ := fo_c hg
  have : n = n' := i_ninj (by omega) (by omega) (hf.symm.trans hf')
  subst this
  rcases hgr with q | ⟨q, -, q3⟩
  · have := h8 n hn (by omega) k hk
    exact absurd (hw.symm.trans this) (i_nm1 (by have := h1.2.2.1; omega))
  · exact q3 k hk i hi hw
theorem pR_cln {S : qS} (h1 : W1 S) (h8 : W8 S) {f g : Nat} (hf : cln S f) (h : pR S f g) : cln S g := h (fun g => cln S g) hf (fun _ _ a e => gE_cln h1 h8 a e)
def pD (S : qS) (cur pv : Nat → Bool) (way : Nat → Int32) (many g k : Nat) : Prop := ∀ x, cur x = true → (∃ j, j < many ∧ way j = nI x) ∨ ∀ n, n < cN S → fo S x = nI n → pv n = true ∧ ∀ k', k' < 3 → (x = g → k' < k) → ∀ i, i < cF S → wnt S n k' = nI i → cur i = true
def pV (S : qS) (cur pv : Nat → Bool) : Prop := ∀ n, n < cN S → pv n = true → ∃ x, cur x = true ∧ fo S x = nI n
theorem pD_end {S : qS} (h1 : W1 S) (h8 : W8 S) {cur pv : Nat → Bool} {way : Nat → Int32} {f g : Nat} (hf : cln S f) (h : pD S cur pv way 0 g 3) (hc : ∀ x, cur x = true → pR S f x) (hcf : cur f = true) (hv : pV S cur pv) (n : Nat) (hn : n < cN S) : pv n = true ↔ prf S f n := by
  have hcl : ∀ x y, cur x = true → gE S x y → cur y = true := by
    intro x y hx ⟨m, hm, hfo, k, hk, hw, hy⟩
    rcases h x hx with ⟨j, hj, _⟩ | q
    · omega
    · exact (q m hm hfo).2 k hk (fun _ => hk) y hy hw
  constructor
  · intro q
    obtain ⟨x, hx, e⟩ := hv n hn q
    exact ⟨x, hc x hx, e⟩
  · rintro ⟨x, hx, e⟩
    have hcx : cur x = true := hx (fun x => cur x = true) hcf hcl
    rcases h x hcx with ⟨j, hj, _⟩ | q
    · omega
    · exact (q n hn e).1


def rB (M : qC) (p : Nat) (ρ : Nat → Bool) : Prop := ∀ i, i < 100 → xA M p i = qb (ρ i)
def bs (ρ : Nat → Bool) (i : Nat) : Nat → Bool := fun j => if j = i then true else ρ j
theorem bs_s (ρ : Nat → Bool) (i : Nat) : bs ρ i i = true := if_pos rfl
theorem bs_m {ρ : Nat → Bool} {i j : Nat} (h : ρ j = true) : bs ρ i j = true := by unfold bs; split <;> simp_all
theorem bs_i {ρ : Nat → Bool} {i j : Nat} (h : bs ρ i j = true) : j = i ∨ ρ j = true := by unfold bs at h; split at h <;> simp_all
theorem rB_u {M : qC} {p i : Nat} {ρ : Nat → Bool} (h : rB M p ρ) : ∀ j, j < 100 → upd (xA M p) i 1 j = qb (bs ρ i j) := by
  intro j hj
  unfold upd bs
  split
  · rfl
  · exact h j hj
theorem ct_bs {ρ : Nat → Bool} {i n : Nat} (hi : i < n) (h : ρ i = false) : fb_ct (bs ρ i) n = fb_ct ρ n + 1 := by
  have := fb_ct_upd ρ true hi
  unfold bs
  rw [h] at this
  simpa using this
theorem ct_lt {ρ : Nat → Bool} {i n : Nat} (hi : i < n) (h : ρ i = false) : fb_ct ρ n < n := by
  have h1 := ct_bs hi h
  have h2 := fb_ct_le (bs ρ i) n
  omega
theorem ct_pos {ρ : Nat → Bool} {i n : Nat} (hi : i < n) (h : ρ i = true) : 0 < fb_ct ρ n := fb_ct_pos.mpr ⟨i, hi, h⟩
/-- what went into a build of g -/
def edge (S : qS) (g i : Nat) : Prop := ∃ n, n < cN S ∧ srt S n = 1 ∧ ofN S n = g ∧ ∃ k, k < 3 ∧ wnt S n k = nI i ∧ i < cF S
def reach (S : qS) (f g : Nat) : Prop := ∀ P : Nat → Prop, P f → (∀ x y, P x → edge S x y → P y) → P g
def clE (S : qS) (ρ : Nat → Bool) : Prop := ∀ x y, ρ x = true → edge S x y → ρ y = true
theorem reach_rf (S : qS) (f : Nat) : reach S f f := fun _ h _ => h
theorem reach_st {S : qS} {f x y : Nat} (h : reach S f x) (e : edge S x y) : reach S f y := fun P h0 hs => hs x y (h P h0 hs) e
theorem reach_lt {S : qS} {f g : Nat} (hf : f < cF S) (h : reach S f g) : g < cF S := h (fun x => x < cF S) hf (fun _ _ _ e => by obtain ⟨n, _, _, _, k, _, _, h⟩ := e; exact h)
def rI (S : qS) (ρ : Nat → Bool) (f : Nat) (cur : Nat → Bool) : Prop := (∀ i, ρ i = true → cur i = true) ∧ cur f = true ∧ ∀ i, cur i = true → ρ i = true ∨ reach S f i
def rD (S : qS) (cur : Nat → Bool) (way : Nat → Int32) (many g n k : Nat) : Prop := ∀ x, cur x = true → (∃ j, j < many ∧ way j = nI x) ∨ ∀ n' k', n' < cN S → srt S n' = 1 → ofN S n' = x → k' < 3 → (x = g → n' < n ∨ (n' = n ∧ k' < k)) → ∀ i, i < cF S → wnt S n' k' = nI i → cur i = true
def rW (S : qS) (cur : Nat → Bool) (way : Nat → Int32) (many : Nat) : Prop := many ≤ fb_ct cur 100 ∧ ∀ j, j < many → ∃ x, x < cF S ∧ way j = nI x ∧ cur x = true
theorem rI_push {S : qS} {ρ cur : Nat → Bool} {f i : Nat} (h : rI S ρ f cur) (hr : ρ i = true ∨ reach S f i) : rI S ρ f (bs cur i) := ⟨fun j hj => bs_m (h.1 j hj), bs_m h.2.1, fun j hj => by
  rcases bs_i hj with e | e
  · rw [e]; exact hr
  · exact h.2.2 j e⟩
theorem rD_push {S : qS} {cur : Nat → Bool} {way : Nat → Int32} {many g n k i : Nat} (h : rD S cur way many g n k) (hi : i < 2 ^ 31) : rD S (bs cur i) (upd way many (nI i)) (many + 1) g n k := by
  intro x hx
  rcases bs_i hx with e | e
  · exact Or.inl ⟨many, by omega, by rw [e]; simp [upd]⟩
  · rcases h x e with ⟨j, hj, hw⟩ | h2
    · exact Or.inl ⟨j, by omega, by unfold upd; rw [if_neg (by omega)]; exact hw⟩
    · exact Or.inr fun n' k' a b c d e' i' hi' hw => bs_m (h2 n' k' a b c d e' i' hi' hw)
theorem rW_push {S : qS} {cur : Nat → Bool} {way : Nat → Int32} {many i : Nat} (h : rW S cur way many) (hi : i < cF S) (hF : cF S ≤ 100) (hc : cur i = false) : rW S (bs cur i) (upd way many (nI i)) (many + 1) := by
  refine ⟨by rw [ct_bs (by omega) hc]; have := h.1; omega, fun j hj => ?_⟩
  by_cases e : j = many
  · exact ⟨i, hi, by rw [e]; simp [upd], bs_s _ _⟩
  · obtain ⟨x, h1, h2, h3⟩ := h.2 j (by omega)
    exact ⟨x, h1, by unfold upd; rw [if_neg e]; exact h2, bs_m h3⟩
/-- one place of a note of g done -/
theorem rD_step {S : qS} {cur : Nat → Bool} {way : Nat → Int32} {many g n k : Nat} (h : rD S cur way many g n k) (hk : ∀ i, i < cF S → wnt S n k = nI i → cur i = true) : rD S cur way many g n (k + 1) := by
  intro x hx
  rcases h x hx with q | q
  · exact Or.inl q
  · refine Or.inr fun n' k' a b c d e i hi hw => ?_
    by_cases hh : n' = n ∧ k' = k
    · rw [hh.1, hh.2] at hw; exact hk i hi hw
    · exact q n' k' a b c d (fun ex => by have := e ex; omega) i hi hw
theorem rD_note {S : qS} {cur : Nat → Bool} {way : Nat → Int32} {many g n : Nat} (h : rD S cur way many g n 3) : rD S cur way many g (n + 1) 0 := by
  intro x hx
  rcases h x hx with q | q
  · exact Or.inl q
  · refine Or.inr fun n' k' a b c d e i hi hw => q n' k' a b c d (fun ex => by have := e ex; omega) i hi hw
theorem rD_skip {S : qS} {cur : Nat → Bool} {way : Nat → Int32} {many g n : Nat} (h : rD S cur way many g n 0) (hn : ¬ (srt S n = 1 ∧ ofN S n = g)) : rD S cur way many g (n + 1) 0 := by
  intro x hx
  rcases h x hx with q | q
  · exact Or.inl q
  · refine Or.inr fun n' k' a b c d e i hi hw => q n' k' a b c d (fun ex => ?_) i hi hw
    have := e ex
    by_cases hh : n' = n
    · subst hh; exact absurd ⟨b, c.trans ex⟩ hn
    · omega
theorem rD_pop {S : qS} {cur : Nat → Bool} {way : Nat → Int32} {many g g0 : Nat} (h : rD S cur way (many + 1) g0 (cN S) 0) (hw : way many = nI g) (hg : g < 2 ^ 31) (hc : ∀ x, cur x = true → x < 2 ^ 31) : rD S cur way many g 0 0 := by
  intro x hx
  by_cases e : x = g
  · exact Or.inr fun n' k' a b c d e' => by have := e' e; omega
  · rcases h x hx with ⟨j, hj, hw2⟩ | q
    · by_cases ej : j = many
      · rw [ej, hw] at hw2
        exact absurd (i_ninj hg (hc x hx) hw2).symm e
      · exact Or.inl ⟨j, by omega, hw2⟩
    · exact Or.inr fun n' k' a b c d _ => q n' k' a b c d (fun _ => Or.inl a)
/-- nothing waits: all is done -/
theorem rD_end {S : qS} {ρ cur : Nat → Bool} {way : Nat → Int32} {f g0 : Nat} (h : rD S cur way 0 g0 (cN S) 0) (hI : rI S ρ f cur) (i : Nat) : cur i = true ↔ ρ i = true ∨ reach S f i := by
  have hcl : ∀ x y, cur x = true → edge S x y → cur y = true := by
    intro x y hx ⟨n, hn, hs, ho, k, hk, hw, hy⟩
    rcases h x hx with ⟨j, hj, _⟩ | q
    · omega
    · exact q n k hn hs ho hk (fun _ => Or.inl hn) y hy hw
  exact ⟨hI.2.2 i, fun q => q.elim (hI.1 i) (fun q => q (fun x => cur x = true) hI.2.1 hcl)⟩


theorem pD_push {S : qS} {cur pv : Nat → Bool} {way : Nat → Int32} {many g k i : Nat} (h : pD S cur pv way many g k) : pD S (bs cur i) pv (upd way many (nI i)) (many + 1) g k := by
  intro x hx
  rcases bs_i hx with e | e
  · exact Or.inl ⟨many, by omega, by rw [e]; simp [upd]⟩
  · rcases h x e with ⟨j, hj, hw⟩ | h2
    · exact Or.inl ⟨j, by omega, by unfold upd; rw [if_neg (by omega)]; exact hw⟩
    · exact Or.inr fun n hn hf => ⟨(h2 n hn hf).1, fun k' a b i' hi' hw => bs_m ((h2 n hn hf).2 k' a b i' hi' hw)⟩
theorem pD_step {S : qS} {cur pv : Nat → Bool} {way : Nat → Int32} {many g k n : Nat} (hN : cN S ≤ 400) (hn : n < cN S) (hfo : fo S g = nI n) (h : pD S cur pv way many g k) (hk : ∀ i, i < cF S → wnt S n k = nI i → cur i = true) : pD S cur pv way many g (k + 1) := by
  intro x hx
  rcases h x hx with q | q
  · exact Or.inl q
  · refine Or.inr fun n' hn' hf' => ⟨(q n' hn' hf').1, fun k' a b i hi hw => ?_⟩
    by_cases e : x = g ∧ k' = k
    · rw [e.1, hfo] at hf'
      rw [← i_ninj (by omega) (by omega) hf', e.2] at hw
      exact hk i hi hw
    · exact (q n' hn' hf').2 k' a (fun ex => by have := b ex; by_cases ek : k' = k; exact absurd ⟨ex, ek⟩ e; omega) i hi hw
theorem pD_pop {S : qS} {cur pv : Nat → Bool} {way : Nat → Int32} {many g g0 n : Nat} (hN : cN S ≤ 400) (hn : n < cN S) (hfo : fo S g = nI n) (h : pD S cur pv way (many + 1) g0 3) (hw : way many = nI g) (hg : g < 2 ^ 31) (hc : ∀ x, cur x = true → x < 2 ^ 31) : pD S cur (bs pv n) way many g 0 := by
  intro x hx
  by_cases e : x = g
  · exact Or.inr fun n' hn' hf' => ⟨by rw [e, hfo] at hf'; rw [← i_ninj (by omega) (by omega) hf']; exact bs_s _ _, fun k' a b => by have := b e; omega⟩
  · rcases h x hx with ⟨j, hj, hw2⟩ | q
    · by_cases ej : j = many
      · rw [ej, hw] at hw2
        exact absurd (i_ninj hg (hc x hx) hw2).symm e
      · exact Or.inl ⟨j, by omega, hw2⟩
    · exact Or.inr fun n' hn' hf' => ⟨bs_m (q n' hn' hf').1, fun k' a _ => (q n' hn' hf').2 k' a (fun _ => a)⟩
noncomputable def prV (S : qS) (a i : Int32) : Int32 := if dc (isF S a = true ∧ ¬ i < 0 ∧ cln S a.toNatClampNeg) then nthF (fun n => dc (prf S a.toNatClampNeg n)) (cN S) i (cN S) 0 else -1
set_option maxRecDepth 100000 in
set_option maxHeartbeats 4000000 in
theorem zX11_proof {C M : qC} {r : Nat × Nat × Nat} {S : qS} {a i : Int32} (hS : pj M = S) (h1 : W1 S) (h2 : W2 S) (h8 : W8 S) : CT mX11_proof 4 0 0 [.ref 136, .int a, .int i] (wd C M r) (fun r' w' => ∃ M', w' = wd C M' r ∧ pj M' = S ∧ r' = some (.int (prV S a i))) := by
  have hF := h1.2.2.1
  have hN := h1.2.1
  refine eX11_proof (AW_gen (fun Q hQ => ?_))
  by_cases hok : isF S a = true ∧ ¬ i < 0 ∧ cln S a.toNatClampNeg
  · have ev : prV S a i = nthF (fun n => dc (prf S a.toNatClampNeg n)) (cN S) i (cN S) 0 := if_pos (dc_iff.mpr hok)
    obtain ⟨hfi, hi0, hcl⟩ := hok
    obtain ⟨f, hf, rfl⟩ := isF_of h1 hfi
    rw [nIcl (show f < 1000 by omega)] at hcl ev
    -- the end: the notes are told
    have tell : ∀ (M : qC) (pv : Nat → Bool), pj M = S → (∀ n, n < 400 → xA M 164 n = qb (pv n)) → (∀ n, n < cN S → (pv n = true ↔ prf S f n)) → ∀ (k n : Nat) (s l3 : Int32) (o6 : Option Value), cN S = n + k → nthF (fun n => dc (prf S f n)) (cN S) i k s = nthF (fun n => dc (prf S f n)) (cN S) i (cN S) 0 → AW (mX11_proof, 4, 0, 0, none, Q) 186 [some (.ref 136), some (.int (nI f)), some (.int i), some (.int l3), some (.int s), some (.int (nI n)), o6] [] (wd C M r) 0 0 := by
      intro M pv hS hp hv k
      induction k with
      | zero =>
        intro n s l3 o6 hn hnt
        obtain rfl : n = cN S := by omega
        refine oX11_proof_186 _ _ _ _ _ _ ?_
        simp only [bX11_proof_186, qsem, qopt_s, qopt2_s, qev, qxs, Nat.reduceEqDiff, reduceIte, and_true, true_and, and_false, false_and, and_self, or_true, true_or, qb_or, reduceCtorEq, qbr_True, qbr_False, q10, q01, qwM, pjx hS, h1.1.1]
        refine qbr_t ((Int32.le_refl _)) ?_
        refine oX11_proof_223 _ _ _ _ _ _ ?_
        simp only [bX11_proof_223, qsem, qopt_s, qopt2_s, qev, qxs, Nat.reduceEqDiff, reduceIte, and_true, true_and, and_false, false_and, and_self, or_true, true_or, qb_or, reduceCtorEq, qbr_True, qbr_False, q10, q01, qwM, pjx hS, h1.1.1]
        exact hQ _ _ ⟨M, rfl, hS, ri (by rw [ev, ← hnt]; rfl)⟩
      | succ k ih =>
        intro n s l3 o6 hn hnt
        have hij : cN S - (k + 1) = n := by omega
        have hb := dc_of (hv n (by omega))
        have hn2 : nthF (fun n => dc (prf S f n)) (cN S) i (cN S) 0 = if pv n then (if s = i then nI n else nthF (fun n => dc (prf S f n)) (cN S) i k (s + 1)) else nthF (fun n => dc (prf S f n)) (cN S) i k s := by rw [← hnt, hb]; simp only [nthF, hij]
        refine oX11_proof_186 _ _ _ _ _ _ ?_
        simp only [bX11_proof_186, qsem, qopt_s, qopt2_s, qev, qxs, Nat.reduceEqDiff, reduceIte, and_true, true_and, and_false, false_and, and_self, or_true, true_or, qb_or, reduceCtorEq, qbr_True, qbr_False, q10, q01, qwM, pjx hS, h1.1.1, nIcl (show n < 1000 by omega), hp n (by omega), qb_0, nI_1]
        refine qbr_f (nI_ge (by omega) (by omega)) ?_
        refine ⟨nI_vp (by omega) (by omega), ?_⟩
        refine qbr_i (fun c1 => ?_) (fun c1 => ?_)
        · refine oX11_proof_217 _ _ _ _ _ _ ?_
          simp only [bX11_proof_217, qsem, qopt_s, qopt2_s, qev, qxs, Nat.reduceEqDiff, reduceIte, and_true, true_and, and_false, false_and, and_self, or_true, true_or, qb_or, reduceCtorEq, qbr_True, qbr_False, q10, q01, qwM, pjx hS, h1.1.1, nIcl (show n < 1000 by omega), hp n (by omega), qb_0, nI_1]
          first | exact ih (n + 1) s l3 o6 (by omega) (by rw [hn2, c1]; rfl) | exact ih (n + 1) (s + 1) l3 o6 (by omega) (by rw [hn2, if_pos ((Bool.not_eq_false _).mp c1), if_neg c2])
        · refine qbr_i (fun c2 => ?_) (fun c2 => ?_)
          · exact hQ _ _ ⟨M, rfl, hS, ri (by rw [ev, hn2, if_pos ((Bool.not_eq_false _).mp c1), if_pos c2])⟩
          · refine oX11_proof_214 _ _ _ _ _ _ ?_
            simp only [bX11_proof_214, qsem, qopt_s, qopt2_s, qev, qxs, Nat.reduceEqDiff, reduceIte, and_true, true_and, and_false, false_and, and_self, or_true, true_or, qb_or, reduceCtorEq, qbr_True, qbr_False, q10, q01, qwM, pjx hS, h1.1.1, nIcl (show n < 1000 by omega), hp n (by omega), qb_0, nI_1]
            refine oX11_proof_217 _ _ _ _ _ _ ?_
            simp only [bX11_proof_217, qsem, qopt_s, qopt2_s, qev, qxs, Nat.reduceEqDiff, reduceIte, and_true, true_and, and_false, false_and, and_self, or_true, true_or, qb_or, reduceCtorEq, qbr_True, qbr_False, q10, q01, qwM, pjx hS, h1.1.1, nIcl (show n < 1000 by omega), hp n (by omega), qb_0, nI_1]
            first | exact ih (n + 1) s l3 o6 (by omega) (by rw [hn2, c1]; rfl) | exact ih (n + 1) (s + 1) l3 o6 (by omega) (by rw [hn2, if_pos ((Bool.not_eq_false _).mp c1), if_neg c2])
    have outer : ∀ (μ : Nat) (M : qC) (ρ cur pv : Nat → Bool) (many g0 : Nat) (o4 o5 o6 : Option Value), q_nb (some o4) = true → q_nb (some o5) = true → q_nb (some o6) = true → pj M = S → rB M 159 ρ → (∀ x, ρ x = true ↔ cln S x) → rB M 157 cur → (∀ n, n < 400 → xA M 164 n = qb (pv n)) → cur f = true → (∀ x, cur x = true → pR S f x) → pV S cur pv → pD S cur pv (xA M 158) many g0 3 → rW S cur (xA M 158) many → 2 * (100 - fb_ct cur 100) + many < μ → AW (mX11_proof, 4, 0, 0, none, Q) 90 [some (.ref 136), some (.int (nI f)), some (.int i), some (.int (nI many)), o4, o5, o6] [] (wd C M r) 0 0 := by
      intro μ
      induction μ with
      | zero => intro M ρ cur pv many g0 o4 o5 o6 _ _ _ _ _ _ _ _ _ _ _ _ _ hμ; omega
      | succ μ ih =>
        intro M ρ cur pv many g0 o4 o5 o6 q4 q5 q6 hS hcn hρ hr hp hcf hcR hV hD hW hμ
        have hct := fb_ct_le cur 100
        have hm := hW.1
        have hcb : ∀ x, cur x = true → x < cF S := fun x hx => cln_lt h2 (pR_cln h1 h8 hcl (hcR x hx))
        by_cases hz : many = 0
        · subst hz
          refine oX11_proof_90 _ _ _ _ _ _ ?_
          simp only [bX11_proof_90, qsem, qopt_s, qopt2_s, qev, qxs, Nat.reduceEqDiff, reduceIte, and_true, true_and, and_false, false_and, and_self, or_true, true_or, qb_or, reduceCtorEq, qbr_True, qbr_False, q10, q01, qwM, q4, q5]
          refine qbr_t ((by decide)) ?_
          refine oX11_proof_180 _ _ _ _ _ _ ?_
          simp only [bX11_proof_180, qsem, qopt_s, qopt2_s, qev, qxs, Nat.reduceEqDiff, reduceIte, and_true, true_and, and_false, false_and, and_self, or_true, true_or, qb_or, reduceCtorEq, qbr_True, qbr_False, q10, q01, qwM, q4, q5]
          exact tell M pv hS hp (pD_end h1 h8 hcl hD hcR hcf hV) (cN S) 0 0 _ o6 (by omega) rfl
        · obtain ⟨m, rfl⟩ : ∃ m, many = m + 1 := ⟨many - 1, by omega⟩
          obtain ⟨g, hg, hwg, hcg⟩ := hW.2 m (by omega)
          obtain ⟨n, hn, hfo, hof, hgr⟩ := fo_c (pR_cln h1 h8 hcl (hcR g hcg))
          have inner : ∀ (j k : Nat) (M : qC) (cur : Nat → Bool) (many : Nat) (o6 : Option Value), q_nb (some o6) = true → k + j = 3 → pj M = S → rB M 159 ρ → rB M 157 cur → (∀ n', n' < 400 → xA M 164 n' = qb (bs pv n n')) → cur f = true → cur g = true → (∀ x, cur x = true → pR S f x) → pV S cur (bs pv n) → pD S cur (bs pv n) (xA M 158) many g k → rW S cur (xA M 158) many → 2 * (100 - fb_ct cur 100) + many < μ → AW (mX11_proof, 4, 0, 0, none, Q) 120 [some (.ref 136), some (.int (nI f)), some (.int i), some (.int (nI many)), some (.int (nI n)), some (.int (nI k)), o6] [] (wd C M r) 0 0 := by
            intro j
            induction j with
            | zero =>
              intro k M cur many o6 q6 hk hS hcn hr hp hcf hcg hcR hV hD hW hμ
              obtain rfl : k = 3 := by omega
              refine oX11_proof_120 _ _ _ _ _ _ ?_
              simp only [bX11_proof_120, qsem, qopt_s, qopt2_s, qev, qxs, Nat.reduceEqDiff, reduceIte, and_true, true_and, and_false, false_and, and_self, or_true, true_or, qb_or, reduceCtorEq, qbr_True, qbr_False, q10, q01, qwM]
              refine qbr_t ((by decide)) ?_
              refine oX11_proof_177 _ _ _ _ _ _ ?_
              simp only [bX11_proof_177, qsem, qopt_s, qopt2_s, qev, qxs, Nat.reduceEqDiff, reduceIte, and_true, true_and, and_false, false_and, and_self, or_true, true_or, qb_or, reduceCtorEq, qbr_True, qbr_False, q10, q01, qwM]
              exact ih M ρ cur (bs pv n) many g _ _ _ rfl rfl q6 hS hcn hρ hr hp hcf hcR hV hD hW hμ
            | succ j ihk =>
              intro k M cur many o6 q6 hk hS hcn hr hp hcf hcg hcR hV hD hW hμ
              have hct := fb_ct_le cur 100
              have hm := hW.1
              rcases W2_k h2 hn (show k < 3 by omega) with hw | ⟨x, hx, hw⟩
              · refine oX11_proof_120 _ _ _ _ _ _ ?_
                simp only [bX11_proof_120, qsem, qopt_s, qopt2_s, qev, qxs, Nat.reduceEqDiff, reduceIte, and_true, true_and, and_false, false_and, and_self, or_true, true_or, qb_or, reduceCtorEq, qbr_True, qbr_False, q10, q01, qwM, hw, nI_1]
                refine qbr_f (nI_ge (b := 3) (by omega) (by omega)) ?_
                refine kX11_proof_131 (zX11_went hS (show n < 400 by omega) (show k < 3 by omega)) rfl (Nat.le_of_ble_eq_true rfl) (Nat.le_of_ble_eq_true rfl) ⟨Nat.le_of_ble_eq_true rfl, Nat.le_of_ble_eq_true rfl⟩ ?_
                rintro _ _ ⟨rfl, rfl⟩
                refine oX11_proof_134 _ _ _ _ _ _ ?_
                simp only [bX11_proof_134, qsem, qopt_s, qopt2_s, qev, qxs, Nat.reduceEqDiff, reduceIte, and_true, true_and, and_false, false_and, and_self, or_true, true_or, qb_or, reduceCtorEq, qbr_True, qbr_False, q10, q01, qwM, hw, nI_1]
                refine oX11_proof_171 _ _ _ _ _ _ ?_
                simp only [bX11_proof_171, qsem, qopt_s, qopt2_s, qev, qxs, Nat.reduceEqDiff, reduceIte, and_true, true_and, and_false, false_and, and_self, or_true, true_or, qb_or, reduceCtorEq, qbr_True, qbr_False, q10, q01, qwM, hw, nI_1]
                exact ihk (k + 1) M cur many _ rfl (by omega) hS hcn hr hp hcf hcg hcR hV (pD_step hN hn hfo hD (fun i' hi' h => absurd (h.symm.trans hw) (i_nm1 (by omega)))) hW hμ
              · have hgx : pR S f x := pR_st (hcR g hcg) ⟨n, hn, hfo, k, by omega, hw, hx⟩
                by_cases hci : cur x = true
                · refine oX11_proof_120 _ _ _ _ _ _ ?_
                  simp only [bX11_proof_120, qsem, qopt_s, qopt2_s, qev, qxs, Nat.reduceEqDiff, reduceIte, and_true, true_and, and_false, false_and, and_self, or_true, true_or, qb_or, reduceCtorEq, qbr_True, qbr_False, q10, q01, qwM, hw, nI_1, nIcl (show x < 1000 by omega), rB_at hr (show x < 100 by omega), hci, qb_t]
                  refine qbr_f (nI_ge (b := 3) (by omega) (by omega)) ?_
                  refine kX11_proof_131 (zX11_went hS (show n < 400 by omega) (show k < 3 by omega)) rfl (Nat.le_of_ble_eq_true rfl) (Nat.le_of_ble_eq_true rfl) ⟨Nat.le_of_ble_eq_true rfl, Nat.le_of_ble_eq_true rfl⟩ ?_
                  rintro _ _ ⟨rfl, rfl⟩
                  refine oX11_proof_134 _ _ _ _ _ _ ?_
                  simp only [bX11_proof_134, qsem, qopt_s, qopt2_s, qev, qxs, Nat.reduceEqDiff, reduceIte, and_true, true_and, and_false, false_and, and_self, or_true, true_or, qb_or, reduceCtorEq, qbr_True, qbr_False, q10, q01, qwM, hw, nI_1, nIcl (show x < 1000 by omega), rB_at hr (show x < 100 by omega), hci, qb_t]
                  refine qbr_f (i_nm1 (by omega)) ?_
                  refine ⟨nI_vp (by omega) (by omega), ?_⟩
                  refine oX11_proof_171 _ _ _ _ _ _ ?_
                  simp only [bX11_proof_171, qsem, qopt_s, qopt2_s, qev, qxs, Nat.reduceEqDiff, reduceIte, and_true, true_and, and_false, false_and, and_self, or_true, true_or, qb_or, reduceCtorEq, qbr_True, qbr_False, q10, q01, qwM, hw, nI_1, nIcl (show x < 1000 by omega), rB_at hr (show x < 100 by omega), hci, qb_t]
                  exact ihk (k + 1) M cur many _ rfl (by omega) hS hcn hr hp hcf hcg hcR hV (pD_step hN hn hfo hD (fun i' hi' h => by rw [i_ninj (by omega) (by omega) (h.symm.trans hw)]; exact hci)) hW hμ
                · have hci : cur x = false := (Bool.not_eq_true _).mp hci
                  have hlt := ct_lt (show x < 100 by omega) hci
                  have hbs := ct_bs (show x < 100 by omega) hci
                  refine oX11_proof_120 _ _ _ _ _ _ ?_
                  simp only [bX11_proof_120, qsem, qopt_s, qopt2_s, qev, qxs, Nat.reduceEqDiff, reduceIte, and_true, true_and, and_false, false_and, and_self, or_true, true_or, qb_or, reduceCtorEq, qbr_True, qbr_False, q10, q01, qwM, hw, nI_1, nIcl (show x < 1000 by omega), nIcl (show many < 1000 by omega), rB_at hr (show x < 100 by omega), hci, qb_f]
                  refine qbr_f (nI_ge (b := 3) (by omega) (by omega)) ?_
                  refine kX11_proof_131 (zX11_went hS (show n < 400 by omega) (show k < 3 by omega)) rfl (Nat.le_of_ble_eq_true rfl) (Nat.le_of_ble_eq_true rfl) ⟨Nat.le_of_ble_eq_true rfl, Nat.le_of_ble_eq_true rfl⟩ ?_
                  rintro _ _ ⟨rfl, rfl⟩
                  refine oX11_proof_134 _ _ _ _ _ _ ?_
                  simp only [bX11_proof_134, qsem, qopt_s, qopt2_s, qev, qxs, Nat.reduceEqDiff, reduceIte, and_true, true_and, and_false, false_and, and_self, or_true, true_or, qb_or, reduceCtorEq, qbr_True, qbr_False, q10, q01, qwM, hw, nI_1, nIcl (show x < 1000 by omega), nIcl (show many < 1000 by omega), rB_at hr (show x < 100 by omega), hci, qb_f]
                  refine qbr_f (i_nm1 (by omega)) ?_
                  refine ⟨nI_vp (by omega) (by omega), ?_⟩
                  refine ⟨nI_vp (by omega) (by omega), ?_⟩
                  refine ⟨nI_vp (by omega) (by omega), ?_⟩
                  refine oX11_proof_171 _ _ _ _ _ _ ?_
                  simp only [bX11_proof_171, qsem, qopt_s, qopt2_s, qev, qxs, Nat.reduceEqDiff, reduceIte, and_true, true_and, and_false, false_and, and_self, or_true, true_or, qb_or, reduceCtorEq, qbr_True, qbr_False, q10, q01, qwM, hw, nI_1, nIcl (show x < 1000 by omega), nIcl (show many < 1000 by omega), rB_at hr (show x < 100 by omega), hci, qb_f]
                  refine ihk (k + 1) _ (bs cur x) (many + 1) _ rfl (by omega) (by simp only [pjs]; exact hS) ?_ ?_ ?_ (bs_m hcf) (bs_m hcg) (fun y hy => (bs_i hy).elim (fun e => by rw [e]; exact hgx) (hcR y)) (fun n' hn' hv => by obtain ⟨y, hy, e⟩ := hV n' hn' hv; exact ⟨y, bs_m hy, e⟩) ?_ ?_ (by omega)
                  · intro j hj; simp only [qxs, Nat.reduceEqDiff, reduceIte]; exact hcn j hj
                  · intro j hj; simp only [qxs, Nat.reduceEqDiff, reduceIte]; exact rB_u hr j hj
                  · intro j hj; simp only [qxs, Nat.reduceEqDiff, reduceIte]; exact hp j hj
                  · simp only [qxs, Nat.reduceEqDiff, reduceIte]; exact pD_step hN hn hfo (pD_push hD) (fun i' hi' h => by rw [i_ninj (by omega) (by omega) (h.symm.trans hw)]; exact bs_s _ _)
                  · simp only [qxs, Nat.reduceEqDiff, reduceIte]; exact rW_push hW hx hF hci
          refine oX11_proof_90 _ _ _ _ _ _ ?_
          simp only [bX11_proof_90, qsem, qopt_s, qopt2_s, qev, qxs, Nat.reduceEqDiff, reduceIte, and_true, true_and, and_false, false_and, and_self, or_true, true_or, qb_or, reduceCtorEq, qbr_True, qbr_False, q10, q01, qwM, pjx hS, nIpm (show 0 < m + 1 by omega), Nat.add_sub_cancel, nIcl (show m < 1000 by omega), hwg, q4, q5, q6, hfo, nIcl (show n < 1000 by omega)]
          refine qbr_f (nI_nle (by omega) (by omega)) ?_
          refine ⟨nI_vp (by omega) (by omega), ?_⟩
          refine kX11_proof_104 (zX11_firstOf hS h1 h2 hcn hρ hg) rfl (Nat.le_of_ble_eq_true rfl) (Nat.le_of_ble_eq_true rfl) ⟨Nat.le_of_ble_eq_true rfl, Nat.le_of_ble_eq_true rfl⟩ ?_
          rintro _ _ ⟨rfl, rfl⟩
          refine oX11_proof_107 _ _ _ _ _ _ ?_
          simp only [bX11_proof_107, qsem, qopt_s, qopt2_s, qev, qxs, Nat.reduceEqDiff, reduceIte, and_true, true_and, and_false, false_and, and_self, or_true, true_or, qb_or, reduceCtorEq, qbr_True, qbr_False, q10, q01, qwM, pjx hS, nIpm (show 0 < m + 1 by omega), Nat.add_sub_cancel, nIcl (show m < 1000 by omega), hwg, q4, q5, q6, hfo, nIcl (show n < 1000 by omega)]
          refine ⟨nI_vp (by omega) (by omega), ?_⟩
          refine inner 3 0 _ cur m _ q6 rfl (by simp only [pjs]; exact hS) ?_ ?_ ?_ hcf hcg hcR ?_ ?_ ?_ (by omega)
          · intro j hj; simp only [qxs, Nat.reduceEqDiff, reduceIte]; exact hcn j hj
          · intro j hj; simp only [qxs, Nat.reduceEqDiff, reduceIte]; exact hr j hj
          · intro j hj; simp only [qxs, Nat.reduceEqDiff, reduceIte, upd, bs]; split; rfl; exact hp j hj
          · intro n' hn' hv; rcases bs_i hv with e | e; rw [e]; exact ⟨g, hcg, hfo⟩; exact hV n' hn' e
          · simp only [qxs, Nat.reduceEqDiff, reduceIte]; exact pD_pop hN hn hfo hD hwg (by omega) (fun x hx => by have := hcb x hx; omega)
          · simp only [qxs, Nat.reduceEqDiff, reduceIte]; exact ⟨by omega, fun j hj => hW.2 j (by omega)⟩
    have row : ∀ (ρ : Nat → Bool), (∀ x, ρ x = true ↔ cln S x) → ∀ (j k : Nat) (M : qC), k + j = 100 → pj M = S → rB M 159 ρ → (∀ n, n < 400 → xA M 164 n = 0) → xA M 158 0 = nI f → (∀ x, x < k → xA M 157 x = qb (decide (x = f))) → AW (mX11_proof, 4, 0, 0, none, Q) 59 [some (.ref 136), some (.int (nI f)), some (.int i), some (.int 1), some (.int (nI k)), none, none] [] (wd C M r) 0 0 := by
      intro ρ hρ j
      induction j with
      | zero =>
        intro k M hk hS hcn hp hwf hr
        obtain rfl : k = 100 := by omega
        have hpos := ct_pos (ρ := fun x => decide (x = f)) (show f < 100 by omega) (by simp)
        refine oX11_proof_59 _ _ _ _ _ _ ?_
        simp only [bX11_proof_59, qsem, qopt_s, qopt2_s, qev, qxs, Nat.reduceEqDiff, reduceIte, and_true, true_and, and_false, false_and, and_self, or_true, true_or, qb_or, reduceCtorEq, qbr_True, qbr_False, q10, q01, qwM]
        refine qbr_t ((by decide)) ?_
        exact outer _ M ρ (fun x => decide (x = f)) (fun _ => false) 1 100 _ _ _ rfl rfl rfl hS hcn hρ (fun x hx => hr x hx) (fun n hn => hp n hn) (by simp) (fun x hx => by rw [of_decide_eq_true hx]; exact pR_rf S f) (fun n _ h => absurd h Bool.false_ne_true) (fun x hx => Or.inl ⟨0, by omega, by rw [hwf, of_decide_eq_true hx]⟩) ⟨hpos, fun j hj => ⟨f, hf, by rw [show j = 0 by omega]; exact hwf, by simp⟩⟩ (Nat.lt_succ_self _)
      | succ j ih =>
        intro k M hk hS hcn hp hwf hr
        have st83 : AW (mX11_proof, 4, 0, 0, none, Q) 83 [some (.ref 136), some (.int (nI f)), some (.int i), some (.int 1), some (.int (nI k)), none, none] [.int (qb (decide (k = f))), .int (nI k), .ref 157] (wd C M r) 0 0 := by
          refine oX11_proof_83 _ _ _ _ _ _ ?_
          simp only [bX11_proof_83, qsem, qopt_s, qopt2_s, qev, qxs, Nat.reduceEqDiff, reduceIte, and_true, true_and, and_false, false_and, and_self, or_true, true_or, qb_or, reduceCtorEq, qbr_True, qbr_False, q10, q01, qwM, nIcl (show k < 1000 by omega), nI_1]
          refine ⟨nI_vp (by omega) (by omega), ?_⟩
          refine ih (k + 1) _ (by omega) (by simp only [pjs]; exact hS) ?_ ?_ ?_ (fun x hx => ?_)
          · intro j hj; simp only [qxs, Nat.reduceEqDiff, reduceIte]; exact hcn j hj
          · intro n hn; simp only [qxs, Nat.reduceEqDiff, reduceIte]; exact hp n hn
          · simp only [qxs, Nat.reduceEqDiff, reduceIte]; exact hwf
          · simp only [qxs, Nat.reduceEqDiff, reduceIte, upd]; split; rename_i e; rw [e]; exact hr x (by omega)
        refine oX11_proof_59 _ _ _ _ _ _ ?_
        simp only [bX11_proof_59, qsem, qopt_s, qopt2_s, qev, qxs, Nat.reduceEqDiff, reduceIte, and_true, true_and, and_false, false_and, and_self, or_true, true_or, qb_or, reduceCtorEq, qbr_True, qbr_False, q10, q01, qwM, nIeq (show k < 1000 by omega) (show f < 1000 by omega)]
        refine qbr_f (nI_ge (b := 100) (by omega) (by omega)) ?_
        refine qbr_i (fun c1 => ?_) (fun c1 => ?_)
        · first | (rw [decide_eq_true c1] at st83; exact st83) | (rw [decide_eq_false c1] at st83; exact st83)
        · refine oX11_proof_82 _ _ _ _ _ _ ?_
          simp only [bX11_proof_82, qsem, qopt_s, qopt2_s, qev, qxs, Nat.reduceEqDiff, reduceIte, and_true, true_and, and_false, false_and, and_self, or_true, true_or, qb_or, reduceCtorEq, qbr_True, qbr_False, q10, q01, qwM, nIeq (show k < 1000 by omega) (show f < 1000 by omega)]
          first | (rw [decide_eq_true c1] at st83; exact st83) | (rw [decide_eq_false c1] at st83; exact st83)
    have fill : ∀ (ρ : Nat → Bool), (∀ x, ρ x = true ↔ cln S x) → ∀ (j k : Nat) (M : qC), k + j = 400 → pj M = S → rB M 159 ρ → (∀ n, n < k → xA M 164 n = 0) → AW (mX11_proof, 4, 0, 0, none, Q) 24 [some (.ref 136), some (.int (nI f)), some (.int i), some (.int (nI k)), none, none, none] [] (wd C M r) 0 0 := by
      intro ρ hρ j
      induction j with
      | zero =>
        intro k M hk hS hcn hp
        obtain rfl : k = 400 := by omega
        refine oX11_proof_24 _ _ _ _ _ _ ?_
        simp only [bX11_proof_24, qsem, qopt_s, qopt2_s, qev, qxs, Nat.reduceEqDiff, reduceIte, and_true, true_and, and_false, false_and, and_self, or_true, true_or, qb_or, reduceCtorEq, qbr_True, qbr_False, q10, q01, qwM, cl0]
        refine qbr_t ((by decide)) ?_
        refine oX11_proof_44 _ _ _ _ _ _ ?_
        simp only [bX11_proof_44, qsem, qopt_s, qopt2_s, qev, qxs, Nat.reduceEqDiff, reduceIte, and_true, true_and, and_false, false_and, and_self, or_true, true_or, qb_or, reduceCtorEq, qbr_True, qbr_False, q10, q01, qwM, cl0]
        refine ⟨nI_vp (i := 0) (by omega) (by omega), ?_⟩
        refine row ρ hρ 100 0 _ rfl (by simp only [pjs]; exact hS) ?_ ?_ ?_ (fun x hx => by omega)
        · intro j hj; simp only [qxs, Nat.reduceEqDiff, reduceIte]; exact hcn j hj
        · intro n hn; simp only [qxs, Nat.reduceEqDiff, reduceIte]; exact hp n hn
        · simp [qxs, upd]
      | succ j ih =>
        intro k M hk hS hcn hp
        refine oX11_proof_24 _ _ _ _ _ _ ?_
        simp only [bX11_proof_24, qsem, qopt_s, qopt2_s, qev, qxs, Nat.reduceEqDiff, reduceIte, and_true, true_and, and_false, false_and, and_self, or_true, true_or, qb_or, reduceCtorEq, qbr_True, qbr_False, q10, q01, qwM, nIcl (show k < 1000 by omega), nI_1]
        refine qbr_f (nI_ge (b := 400) (by omega) (by omega)) ?_
        refine ⟨nI_vp (by omega) (by omega), ?_⟩
        refine ih (k + 1) _ (by omega) (by simp only [pjs]; exact hS) ?_ (fun n hn => ?_)
        · intro j hj; simp only [qxs, Nat.reduceEqDiff, reduceIte]; exact hcn j hj
        · simp only [qxs, Nat.reduceEqDiff, reduceIte, upd]; split; rfl; exact hp n (by omega)
    refine oX11_proof_0 _ _ _ _ _ _ ?_
    simp only [bX11_proof_0, qsem, qopt_s, qopt2_s, qev, qxs, Nat.reduceEqDiff, reduceIte, and_true, true_and, and_false, false_and, and_self, or_true, true_or, qb_or, reduceCtorEq, qbr_True, qbr_False, q10, q01, qwM, hfi, qb_t]
    refine kX11_proof_2 (zX11_isFile hS h1) rfl (Nat.le_of_ble_eq_true rfl) (Nat.le_of_ble_eq_true rfl) ⟨Nat.le_of_ble_eq_true rfl, Nat.le_of_ble_eq_true rfl⟩ ?_
    rintro _ _ ⟨rfl, rfl⟩
    refine oX11_proof_5 _ _ _ _ _ _ ?_
    simp only [bX11_proof_5, qsem, qopt_s, qopt2_s, qev, qxs, Nat.reduceEqDiff, reduceIte, and_true, true_and, and_false, false_and, and_self, or_true, true_or, qb_or, reduceCtorEq, qbr_True, qbr_False, q10, q01, qwM, hfi, qb_t]
    refine qbr_f (hi0) ?_
    refine kX11_proof_14 (zX11_isClean hS h1 h2 hf) rfl (Nat.le_of_ble_eq_true rfl) (Nat.le_of_ble_eq_true rfl) ⟨Nat.le_of_ble_eq_true rfl, Nat.le_of_ble_eq_true rfl⟩ ?_
    rintro _ _ ⟨M1, ρ1, rfl, hS1, hr1, hi1, rfl⟩
    rw [(hi1 f).mpr hcl]
    refine oX11_proof_17 _ _ _ _ _ _ ?_
    simp only [bX11_proof_17, qsem, qopt_s, qopt2_s, qev, qxs, Nat.reduceEqDiff, reduceIte, and_true, true_and, and_false, false_and, and_self, or_true, true_or, qb_or, reduceCtorEq, qbr_True, qbr_False, q10, q01, qwM, hfi, qb_t]
    refine oX11_proof_22 _ _ _ _ _ _ ?_
    simp only [bX11_proof_22, qsem, qopt_s, qopt2_s, qev, qxs, Nat.reduceEqDiff, reduceIte, and_true, true_and, and_false, false_and, and_self, or_true, true_or, qb_or, reduceCtorEq, qbr_True, qbr_False, q10, q01, qwM, hfi, qb_t]
    exact fill ρ1 hi1 400 0 M1 rfl hS1 hr1 (fun n hn => by omega)
  · have ev : prV S a i = -1 := if_neg (by rw [dcf hok]; exact Bool.noConfusion)
    by_cases hfi : isF S a = true
    · obtain ⟨f, hf, rfl⟩ := isF_of h1 hfi
      rw [nIcl (show f < 1000 by omega)] at hok
      by_cases hi0 : i < 0
      · refine oX11_proof_0 _ _ _ _ _ _ ?_
        simp only [bX11_proof_0, qsem, qopt_s, qopt2_s, qev, qxs, Nat.reduceEqDiff, reduceIte, and_true, true_and, and_false, false_and, and_self, or_true, true_or, qb_or, reduceCtorEq, qbr_True, qbr_False, q10, q01, qwM, hfi, qb_t]
        refine kX11_proof_2 (zX11_isFile hS h1) rfl (Nat.le_of_ble_eq_true rfl) (Nat.le_of_ble_eq_true rfl) ⟨Nat.le_of_ble_eq_true rfl, Nat.le_of_ble_eq_true rfl⟩ ?_
        rintro _ _ ⟨rfl, rfl⟩
        refine oX11_proof_5 _ _ _ _ _ _ ?_
        simp only [bX11_proof_5, qsem, qopt_s, qopt2_s, qev, qxs, Nat.reduceEqDiff, reduceIte, and_true, true_and, and_false, false_and, and_self, or_true, true_or, qb_or, reduceCtorEq, qbr_True, qbr_False, q10, q01, qwM, hfi, qb_t]
        refine qbr_t (hi0) ?_
        refine oX11_proof_20 _ _ _ _ _ _ ?_
        simp only [bX11_proof_20, qsem, qopt_s, qopt2_s, qev, qxs, Nat.reduceEqDiff, reduceIte, and_true, true_and, and_false, false_and, and_self, or_true, true_or, qb_or, reduceCtorEq, qbr_True, qbr_False, q10, q01, qwM, hfi, qb_t]
        exact hQ _ _ ⟨M, rfl, hS, ri ev.symm⟩
      · have hno : ¬ cln S f := fun q => hok ⟨hfi, hi0, q⟩
        refine oX11_proof_0 _ _ _ _ _ _ ?_
        simp only [bX11_proof_0, qsem, qopt_s, qopt2_s, qev, qxs, Nat.reduceEqDiff, reduceIte, and_true, true_and, and_false, false_and, and_self, or_true, true_or, qb_or, reduceCtorEq, qbr_True, qbr_False, q10, q01, qwM, hfi, qb_t]
        refine kX11_proof_2 (zX11_isFile hS h1) rfl (Nat.le_of_ble_eq_true rfl) (Nat.le_of_ble_eq_true rfl) ⟨Nat.le_of_ble_eq_true rfl, Nat.le_of_ble_eq_true rfl⟩ ?_
        rintro _ _ ⟨rfl, rfl⟩
        refine oX11_proof_5 _ _ _ _ _ _ ?_
        simp only [bX11_proof_5, qsem, qopt_s, qopt2_s, qev, qxs, Nat.reduceEqDiff, reduceIte, and_true, true_and, and_false, false_and, and_self, or_true, true_or, qb_or, reduceCtorEq, qbr_True, qbr_False, q10, q01, qwM, hfi, qb_t]
        refine qbr_f (hi0) ?_
        refine kX11_proof_14 (zX11_isClean hS h1 h2 hf) rfl (Nat.le_of_ble_eq_true rfl) (Nat.le_of_ble_eq_true rfl) ⟨Nat.le_of_ble_eq_true rfl, Nat.le_of_ble_eq_true rfl⟩ ?_
        rintro _ _ ⟨M1, ρ1, rfl, hS1, hr1, hi1, rfl⟩
        rw [show ρ1 f = false from (Bool.not_eq_true _).mp (fun q => hno ((hi1 f).mp q)), qb_f]
        refine oX11_proof_17 _ _ _ _ _ _ ?_
        simp only [bX11_proof_17, qsem, qopt_s, qopt2_s, qev, qxs, Nat.reduceEqDiff, reduceIte, and_true, true_and, and_false, false_and, and_self, or_true, true_or, qb_or, reduceCtorEq, qbr_True, qbr_False, q10, q01, qwM, hfi, qb_t]
        refine oX11_proof_20 _ _ _ _ _ _ ?_
        simp only [bX11_proof_20, qsem, qopt_s, qopt2_s, qev, qxs, Nat.reduceEqDiff, reduceIte, and_true, true_and, and_false, false_and, and_self, or_true, true_or, qb_or, reduceCtorEq, qbr_True, qbr_False, q10, q01, qwM, hfi, qb_t]
        exact hQ _ _ ⟨M1, rfl, hS1, ri ev.symm⟩
    · have hfi : isF S a = false := (Bool.not_eq_true _).mp hfi
      refine oX11_proof_0 _ _ _ _ _ _ ?_
      simp only [bX11_proof_0, qsem, qopt_s, qopt2_s, qev, qxs, Nat.reduceEqDiff, reduceIte, and_true, true_and, and_false, false_and, and_self, or_true, true_or, qb_or, reduceCtorEq, qbr_True, qbr_False, q10, q01, qwM, hfi, qb_f]
      refine kX11_proof_2 (zX11_isFile hS h1) rfl (Nat.le_of_ble_eq_true rfl) (Nat.le_of_ble_eq_true rfl) ⟨Nat.le_of_ble_eq_true rfl, Nat.le_of_ble_eq_true rfl⟩ ?_
      rintro _ _ ⟨rfl, rfl⟩
      refine oX11_proof_5 _ _ _ _ _ _ ?_
      simp only [bX11_proof_5, qsem, qopt_s, qopt2_s, qev, qxs, Nat.reduceEqDiff, reduceIte, and_true, true_and, and_false, false_and, and_self, or_true, true_or, qb_or, reduceCtorEq, qbr_True, qbr_False, q10, q01, qwM, hfi, qb_f]
      refine oX11_proof_20 _ _ _ _ _ _ ?_
      simp only [bX11_proof_20, qsem, qopt_s, qopt2_s, qev, qxs, Nat.reduceEqDiff, reduceIte, and_true, true_and, and_false, false_and, and_self, or_true, true_or, qb_or, reduceCtorEq, qbr_True, qbr_False, q10, q01, qwM, hfi, qb_f]
      exact hQ _ _ ⟨M, rfl, hS, ri ev.symm⟩


theorem W2_k {S : qS} (h2 : W2 S) {n k : Nat} (hn : n < cN S) (hk : k < 3) : wnt S n k = -1 ∨ ∃ j, j < cF S ∧ wnt S n k = nI j := (h2 n hn).2.2.2 k hk
/-- the sets of marks as the rows hold them -/
theorem rB_at {M : qC} {p i : Nat} {ρ : Nat → Bool} (h : rB M p ρ) (hi : i < 100) : xA M p i = qb (ρ i) := h i hi
theorem nIcl {n : Nat} (h : n < 1000) : (nI n).toNatClampNeg = n := nI_clamp (by omega)
theorem nIm1 {n : Nat} (h : n < 1000) : (nI n = -1) = False := eq_false (i_nm1 (by omega))
theorem nIeq {a b : Nat} (ha : a < 1000) (hb : b < 1000) : (nI a = nI b) = (a = b) := propext (nI_eq (by omega) (by omega))
theorem nIle {a b : Nat} (ha : a < 1000) (hb : b < 1000) : (nI a ≤ nI b) = (a ≤ b) := propext (nI_leI (by omega) (by omega))
theorem nIlt {a b : Nat} (ha : a < 1000) (hb : b < 1000) : (nI a < nI b) = (a < b) := propext (nI_ltI (by omega) (by omega))
theorem nI1l {a : Nat} (ha : a < 1000) : (nI a = 1) = (a = 1) := nIeq (b := 1) ha (by omega)
theorem nI0l {a : Nat} (ha : a < 1000) : (nI a = 0) = (a = 0) := nIeq (b := 0) ha (by omega)
theorem nIpm {a : Nat} (ha : 0 < a) : nI a + -1 = nI (a - 1) := sb_m1 ha
set_option maxRecDepth 100000 in
set_option maxHeartbeats 4000000 in
theorem zX11_addRow {C M : qC} {r : Nat × Nat × Nat} {S : qS} {ρ : Nat → Bool} {f : Nat} (hS : pj M = S) (h1 : W1 S) (h2 : W2 S) (hf : f < cF S) (hr : rB M 157 ρ) (hcl : clE S ρ) (hρ : ∀ i, ρ i = true → i < cF S) : CT mX11_addRow 1 0 0 [.ref 136, .int (nI f)] (wd C M r) (fun r' w' => ∃ M' ρ', r' = none ∧ w' = wd C M' r ∧ pj M' = S ∧ rB M' 157 ρ' ∧ ∀ i, ρ' i = true ↔ ρ i = true ∨ reach S f i) := by
  have hF := h1.2.2.1
  have hN := h1.2.1
  refine eX11_addRow (AW_gen (fun Q hQ => ?_))
  -- the loop over what waits
  have outer : ∀ (μ : Nat) (M : qC) (cur : Nat → Bool) (many g0 : Nat) (o3 o4 o5 o6 : Option Value), q_nb (some o3) = true → q_nb (some o4) = true → q_nb (some o5) = true → q_nb (some o6) = true → pj M = S → rB M 157 cur → rI S ρ f cur → rD S cur (xA M 158) many g0 (cN S) 0 → rW S cur (xA M 158) many → 2 * (100 - fb_ct cur 100) + many < μ → AW (mX11_addRow, 1, 0, 0, none, Q) 28 [some (.ref 136), some (.int (nI f)), some (.int (nI many)), o3, o4, o5, o6] [] (wd C M r) 0 0 := by
    intro μ
    induction μ with
    | zero => intro M cur many g0 o3 o4 o5 o6 _ _ _ _ _ _ _ _ _ hμ; omega
    | succ μ ih =>
      intro M cur many g0 o3 o4 o5 o6 q3 q4 q5 q6 hS hr hI hD hW hμ
      have hct := fb_ct_le cur 100
      have hm := hW.1
      have hcb : ∀ x, cur x = true → x < cF S := fun x hx => (hI.2.2 x hx).elim (hρ x) (reach_lt hf)
      by_cases hz : many = 0
      · subst hz
        refine oX11_addRow_28 _ _ _ _ _ _ ?_
        simp only [bX11_addRow_28, qsem, qopt_s, qopt2_s, qev, qxs, Nat.reduceEqDiff, reduceIte, and_true, true_and, and_false, false_and, and_self, or_true, true_or, qb_or, reduceCtorEq, qbr_True, qbr_False, q10, q01, qwM, pjx hS]
        refine qbr_t ((by decide)) ?_
        refine oX11_addRow_148 _ _ _ _ _ _ ?_
        simp only [bX11_addRow_148, qsem, qopt_s, qopt2_s, qev, qxs, Nat.reduceEqDiff, reduceIte, and_true, true_and, and_false, false_and, and_self, or_true, true_or, qb_or, reduceCtorEq, qbr_True, qbr_False, q10, q01, qwM, pjx hS]
        exact hQ _ _ ⟨M, cur, rfl, rfl, hS, hr, rD_end hD hI⟩
      · obtain ⟨m, rfl⟩ : ∃ m, many = m + 1 := ⟨many - 1, by omega⟩
        obtain ⟨g, hg, hwg, hcg⟩ := hW.2 m (by omega)
        have hgr : ρ g = true ∨ reach S f g := hI.2.2 g hcg
        -- the notes
        have mid : ∀ (j n : Nat) (M : qC) (cur : Nat → Bool) (many : Nat) (o5 o6 : Option Value), q_nb (some o5) = true → q_nb (some o6) = true → n + j = cN S → pj M = S → rB M 157 cur → rI S ρ f cur → rD S cur (xA M 158) many g n 0 → rW S cur (xA M 158) many → 2 * (100 - fb_ct cur 100) + many < μ → AW (mX11_addRow, 1, 0, 0, none, Q) 45 [some (.ref 136), some (.int (nI f)), some (.int (nI many)), some (.int (nI g)), some (.int (nI n)), o5, o6] [] (wd C M r) 0 0 := by
          intro j
          induction j with
          | zero =>
            intro n M cur many o5 o6 q5 q6 hn hS hr hI hD hW hμ
            obtain rfl : n = cN S := by omega
            refine oX11_addRow_45 _ _ _ _ _ _ ?_
            simp only [bX11_addRow_45, qsem, qopt_s, qopt2_s, qev, qxs, Nat.reduceEqDiff, reduceIte, and_true, true_and, and_false, false_and, and_self, or_true, true_or, qb_or, reduceCtorEq, qbr_True, qbr_False, q10, q01, qwM, pjx hS, h1.1.1]
            refine qbr_t ((Int32.le_refl _)) ?_
            refine oX11_addRow_145 _ _ _ _ _ _ ?_
            simp only [bX11_addRow_145, qsem, qopt_s, qopt2_s, qev, qxs, Nat.reduceEqDiff, reduceIte, and_true, true_and, and_false, false_and, and_self, or_true, true_or, qb_or, reduceCtorEq, qbr_True, qbr_False, q10, q01, qwM, pjx hS, h1.1.1]
            exact ih M cur many g _ _ _ _ rfl rfl q5 q6 hS hr hI hD hW hμ
          | succ j ihj =>
            intro n M cur many o5 o6 q5 q6 hn hS hr hI hD hW hμ
            have hnN : n < cN S := by omega
            obtain ⟨⟨es, ls⟩, ⟨eo, lo⟩, -, -⟩ := h2 n hnN
            have next : ∀ (M : qC) (cur : Nat → Bool) (many : Nat) (o5 o6 : Option Value), q_nb (some o5) = true → q_nb (some o6) = true → pj M = S → rB M 157 cur → rI S ρ f cur → rD S cur (xA M 158) many g (n + 1) 0 → rW S cur (xA M 158) many → 2 * (100 - fb_ct cur 100) + many < μ → AW (mX11_addRow, 1, 0, 0, none, Q) 139 [some (.ref 136), some (.int (nI f)), some (.int (nI many)), some (.int (nI g)), some (.int (nI n)), o5, o6] [] (wd C M r) 0 0 := by
              intro M cur many o5 o6 q5 q6 hS hr hI hD hW hμ
              refine oX11_addRow_139 _ _ _ _ _ _ ?_
              simp only [bX11_addRow_139, qsem, qopt_s, qopt2_s, qev, qxs, Nat.reduceEqDiff, reduceIte, and_true, true_and, and_false, false_and, and_self, or_true, true_or, qb_or, reduceCtorEq, qbr_True, qbr_False, q10, q01, qwM, q5, q6]
              rw [nI_1]
              exact ihj (n + 1) M cur many o5 o6 q5 q6 (by omega) hS hr hI hD hW hμ
            -- the three places of a note
            have inner : ∀ (j k : Nat) (M : qC) (cur : Nat → Bool) (many : Nat) (o6 : Option Value), q_nb (some o6) = true → k + j = 3 → srt S n = 1 → ofN S n = g → pj M = S → rB M 157 cur → rI S ρ f cur → rD S cur (xA M 158) many g n k → rW S cur (xA M 158) many → 2 * (100 - fb_ct cur 100) + many < μ → AW (mX11_addRow, 1, 0, 0, none, Q) 82 [some (.ref 136), some (.int (nI f)), some (.int (nI many)), some (.int (nI g)), some (.int (nI n)), some (.int (nI k)), o6] [] (wd C M r) 0 0 := by
              intro j
              induction j with
              | zero =>
                intro k M cur many o6 q6 hk hs ho hS hr hI hD hW hμ
                obtain rfl : k = 3 := by omega
                refine oX11_addRow_82 _ _ _ _ _ _ ?_
                simp only [bX11_addRow_82, qsem, qopt_s, qopt2_s, qev, qxs, Nat.reduceEqDiff, reduceIte, and_true, true_and, and_false, false_and, and_self, or_true, true_or, qb_or, reduceCtorEq, qbr_True, qbr_False, q10, q01, qwM]
                refine qbr_t ((by decide)) ?_
                exact next M cur many _ _ rfl q6 hS hr hI (rD_note hD) hW hμ
              | succ j ihk =>
                intro k M cur many o6 q6 hk hs ho hS hr hI hD hW hμ
                have hct := fb_ct_le cur 100
                have hm := hW.1
                have go : ∀ (M : qC) (cur : Nat → Bool) (many : Nat) (o6 : Option Value), q_nb (some o6) = true → pj M = S → rB M 157 cur → rI S ρ f cur → rD S cur (xA M 158) many g n (k + 1) → rW S cur (xA M 158) many → 2 * (100 - fb_ct cur 100) + many < μ → AW (mX11_addRow, 1, 0, 0, none, Q) 133 [some (.ref 136), some (.int (nI f)), some (.int (nI many)), some (.int (nI g)), some (.int (nI n)), some (.int (nI k)), o6] [] (wd C M r) 0 0 := by
                  intro M cur many o6 q6 hS hr hI hD hW hμ
                  refine oX11_addRow_133 _ _ _ _ _ _ ?_
                  simp only [bX11_addRow_133, qsem, qopt_s, qopt2_s, qev, qxs, Nat.reduceEqDiff, reduceIte, and_true, true_and, and_false, false_and, and_self, or_true, true_or, qb_or, reduceCtorEq, qbr_True, qbr_False, q10, q01, qwM, q6]
                  rw [nI_1]
                  exact ihk (k + 1) M cur many o6 q6 (by omega) hs ho hS hr hI hD hW hμ
                rcases W2_k h2 hnN (show k < 3 by omega) with hw | ⟨i, hi, hw⟩
                · refine oX11_addRow_82 _ _ _ _ _ _ ?_
                  simp only [bX11_addRow_82, qsem, qopt_s, qopt2_s, qev, qxs, Nat.reduceEqDiff, reduceIte, and_true, true_and, and_false, false_and, and_self, or_true, true_or, qb_or, reduceCtorEq, qbr_True, qbr_False, q10, q01, qwM, hw]
                  refine qbr_f (nI_ge (b := 3) (by omega) (by omega)) ?_
                  refine kX11_addRow_93 (zX11_went hS (show n < 400 by omega) (show k < 3 by omega)) rfl (Nat.le_of_ble_eq_true rfl) (Nat.le_of_ble_eq_true rfl) ⟨Nat.le_of_ble_eq_true rfl, Nat.le_of_ble_eq_true rfl⟩ ?_
                  rintro _ _ ⟨rfl, rfl⟩
                  refine oX11_addRow_96 _ _ _ _ _ _ ?_
                  simp only [bX11_addRow_96, qsem, qopt_s, qopt2_s, qev, qxs, Nat.reduceEqDiff, reduceIte, and_true, true_and, and_false, false_and, and_self, or_true, true_or, qb_or, reduceCtorEq, qbr_True, qbr_False, q10, q01, qwM, hw]
                  exact go M cur many _ rfl hS hr hI (rD_step hD (fun i hi h => absurd (h.symm.trans hw) (i_nm1 (by omega)))) hW hμ
                · have hir : rB M 157 cur := hr
                  have hcase : ρ i = true ∨ reach S f i := by
                    have he : edge S g i := ⟨n, hnN, hs, ho, k, by omega, hw, hi⟩
                    exact hgr.imp (fun q => hcl g i q he) (fun q => reach_st q he)
                  by_cases hci : cur i = true
                  · refine oX11_addRow_82 _ _ _ _ _ _ ?_
                    simp only [bX11_addRow_82, qsem, qopt_s, qopt2_s, qev, qxs, Nat.reduceEqDiff, reduceIte, and_true, true_and, and_false, false_and, and_self, or_true, true_or, qb_or, reduceCtorEq, qbr_True, qbr_False, q10, q01, qwM, hw, nIcl (show i < 1000 by omega), rB_at hr (show i < 100 by omega), hci, qb_t]
                    refine qbr_f (nI_ge (b := 3) (by omega) (by omega)) ?_
                    refine kX11_addRow_93 (zX11_went hS (show n < 400 by omega) (show k < 3 by omega)) rfl (Nat.le_of_ble_eq_true rfl) (Nat.le_of_ble_eq_true rfl) ⟨Nat.le_of_ble_eq_true rfl, Nat.le_of_ble_eq_true rfl⟩ ?_
                    rintro _ _ ⟨rfl, rfl⟩
                    refine oX11_addRow_96 _ _ _ _ _ _ ?_
                    simp only [bX11_addRow_96, qsem, qopt_s, qopt2_s, qev, qxs, Nat.reduceEqDiff, reduceIte, and_true, true_and, and_false, false_and, and_self, or_true, true_or, qb_or, reduceCtorEq, qbr_True, qbr_False, q10, q01, qwM, hw, nIcl (show i < 1000 by omega), rB_at hr (show i < 100 by omega), hci, qb_t]
                    refine qbr_f (i_nm1 (by omega)) ?_
                    refine ⟨nI_vp (by omega) (by omega), ?_⟩
                    exact go M cur many _ rfl hS hr hI (rD_step hD (fun i' hi' h => by rw [i_ninj (by omega) (by omega) (h.symm.trans hw)]; exact hci)) hW hμ
                  · have hci : cur i = false := by simpa using hci
                    have hlt := ct_lt (show i < 100 by omega) hci
                    have hbs := ct_bs (show i < 100 by omega) hci
                    refine oX11_addRow_82 _ _ _ _ _ _ ?_
                    simp only [bX11_addRow_82, qsem, qopt_s, qopt2_s, qev, qxs, Nat.reduceEqDiff, reduceIte, and_true, true_and, and_false, false_and, and_self, or_true, true_or, qb_or, reduceCtorEq, qbr_True, qbr_False, q10, q01, qwM, hw, nIcl (show i < 1000 by omega), nIcl (show many < 1000 by omega), rB_at hr (show i < 100 by omega), hci, qb_f, nI_1]
                    refine qbr_f (nI_ge (b := 3) (by omega) (by omega)) ?_
                    refine kX11_addRow_93 (zX11_went hS (show n < 400 by omega) (show k < 3 by omega)) rfl (Nat.le_of_ble_eq_true rfl) (Nat.le_of_ble_eq_true rfl) ⟨Nat.le_of_ble_eq_true rfl, Nat.le_of_ble_eq_true rfl⟩ ?_
                    rintro _ _ ⟨rfl, rfl⟩
                    refine oX11_addRow_96 _ _ _ _ _ _ ?_
                    simp only [bX11_addRow_96, qsem, qopt_s, qopt2_s, qev, qxs, Nat.reduceEqDiff, reduceIte, and_true, true_and, and_false, false_and, and_self, or_true, true_or, qb_or, reduceCtorEq, qbr_True, qbr_False, q10, q01, qwM, hw, nIcl (show i < 1000 by omega), nIcl (show many < 1000 by omega), rB_at hr (show i < 100 by omega), hci, qb_f, nI_1]
                    refine qbr_f (i_nm1 (by omega)) ?_
                    refine ⟨nI_vp (by omega) (by omega), ?_⟩
                    refine ⟨nI_vp (by omega) (by omega), ?_⟩
                    refine ⟨nI_vp (by omega) (by omega), ?_⟩
                    refine go _ (bs cur i) (many + 1) _ rfl ?_ ?_ (rI_push hI hcase) ?_ ?_ ?_
                    · simp only [pjs]; exact hS
                    · intro j hj; simp only [qxs, Nat.reduceEqDiff, reduceIte]; exact rB_u hr j hj
                    · simp only [qxs, Nat.reduceEqDiff, reduceIte]; exact rD_step (rD_push hD (by omega)) (fun i' hi' h => by rw [i_ninj (by omega) (by omega) (h.symm.trans hw)]; exact bs_s _ _)
                    · simp only [qxs, Nat.reduceEqDiff, reduceIte]; exact rW_push hW hi hF hci
                    · omega
            by_cases hsk : srt S n = 1 ∧ ofN S n = g
            · refine oX11_addRow_45 _ _ _ _ _ _ ?_
              simp only [bX11_addRow_45, qsem, qopt_s, qopt2_s, qev, qxs, Nat.reduceEqDiff, reduceIte, and_true, true_and, and_false, false_and, and_self, or_true, true_or, qb_or, reduceCtorEq, qbr_True, qbr_False, q10, q01, qwM, pjx hS, h1.1.1, nIcl (show n < 1000 by omega), es, eo, hsk.1, hsk.2]
              refine qbr_f (nI_ge (by omega) (by omega)) ?_
              refine ⟨nI_vp (by omega) (by omega), ?_⟩
              refine qbr_t (rfl) ?_
              refine ⟨nI_vp (by omega) (by omega), ?_⟩
              refine oX11_addRow_79 _ _ _ _ _ _ ?_
              simp only [bX11_addRow_79, qsem, qopt_s, qopt2_s, qev, qxs, Nat.reduceEqDiff, reduceIte, and_true, true_and, and_false, false_and, and_self, or_true, true_or, qb_or, reduceCtorEq, qbr_True, qbr_False, q10, q01, qwM, pjx hS, h1.1.1, nIcl (show n < 1000 by omega), es, eo, hsk.1, hsk.2]
              exact inner 3 0 M cur many o6 q6 rfl hsk.1 hsk.2 hS hr hI hD hW hμ
            · refine oX11_addRow_45 _ _ _ _ _ _ ?_
              simp only [bX11_addRow_45, qsem, qopt_s, qopt2_s, qev, qxs, Nat.reduceEqDiff, reduceIte, and_true, true_and, and_false, false_and, and_self, or_true, true_or, qb_or, reduceCtorEq, qbr_True, qbr_False, q10, q01, qwM, pjx hS, h1.1.1, nIcl (show n < 1000 by omega), es, eo, nI1l (show srt S n < 1000 by omega), nIeq (show ofN S n < 1000 by omega) (show g < 1000 by omega)]
              refine qbr_f (nI_ge (by omega) (by omega)) ?_
              refine ⟨nI_vp (by omega) (by omega), ?_⟩
              refine qbr_i (fun c1 => ?_) (fun c1 => ?_)
              · refine ⟨nI_vp (by omega) (by omega), ?_⟩
                refine qbr_i (fun c2 => ?_) (fun c2 => ?_)
                · exact absurd ⟨c1, c2⟩ hsk
                · exact next M cur many o5 o6 q5 q6 hS hr hI (rD_skip hD hsk) hW hμ
              · exact next M cur many o5 o6 q5 q6 hS hr hI (rD_skip hD hsk) hW hμ
        refine oX11_addRow_28 _ _ _ _ _ _ ?_
        simp only [bX11_addRow_28, qsem, qopt_s, qopt2_s, qev, qxs, Nat.reduceEqDiff, reduceIte, and_true, true_and, and_false, false_and, and_self, or_true, true_or, qb_or, reduceCtorEq, qbr_True, qbr_False, q10, q01, qwM, pjx hS, nIpm (show 0 < m + 1 by omega), Nat.add_sub_cancel, nIcl (show m < 1000 by omega), hwg, q3, q4, q5]
        refine qbr_f (nI_nle (by omega) (by omega)) ?_
        refine ⟨nI_vp (by omega) (by omega), ?_⟩
        exact mid (cN S) 0 M cur m _ _ q5 q6 (by omega) hS hr hI (rD_pop hD hwg (by omega) (fun x hx => by have := hcb x hx; omega)) ⟨by omega, fun j hj => hW.2 j (by omega)⟩ (by omega)
  have hW0 : ∀ (cur : Nat → Bool) (way : Nat → Int32), rW S cur way 0 := fun cur way => ⟨Nat.zero_le _, fun j hj => by omega⟩
  have hD0 : ∀ (way : Nat → Int32), rD S ρ way 0 100 (cN S) 0 := fun way x hx => Or.inr fun n' k' a b c d _ i hi hw => hcl x i hx ⟨n', a, b, c, k', d, hw, hi⟩
  by_cases hc : ρ f = true
  · refine oX11_addRow_0 _ _ _ _ _ _ ?_
    simp only [bX11_addRow_0, qsem, qopt_s, qopt2_s, qev, qxs, Nat.reduceEqDiff, reduceIte, and_true, true_and, and_false, false_and, and_self, or_true, true_or, qb_or, reduceCtorEq, qbr_True, qbr_False, q10, q01, qwM, nIcl (show f < 1000 by omega), rB_at hr (show f < 100 by omega), hc, qb_t]
    refine ⟨nI_vp (by omega) (by omega), ?_⟩
    exact outer _ M ρ 0 100 _ _ _ _ rfl rfl rfl rfl hS hr ⟨fun i h => h, hc, fun i h => Or.inl h⟩ (hD0 _) (hW0 _ _) (Nat.lt_succ_self _)
  · have hc : ρ f = false := by simpa using hc
    refine oX11_addRow_0 _ _ _ _ _ _ ?_
    simp only [bX11_addRow_0, qsem, qopt_s, qopt2_s, qev, qxs, Nat.reduceEqDiff, reduceIte, and_true, true_and, and_false, false_and, and_self, or_true, true_or, qb_or, reduceCtorEq, qbr_True, qbr_False, q10, q01, qwM, nIcl (show f < 1000 by omega), rB_at hr (show f < 100 by omega), hc, qb_f, cl0]
    refine ⟨by first | exact nI_vp (by omega) (by omega) | exact nI_vp (i := 0) (by omega) (by omega), ?_⟩
    refine ⟨by first | exact nI_vp (by omega) (by omega) | exact nI_vp (i := 0) (by omega) (by omega), ?_⟩
    refine ⟨by first | exact nI_vp (by omega) (by omega) | exact nI_vp (i := 0) (by omega) (by omega), ?_⟩
    refine outer _ _ (bs ρ f) 1 100 _ _ _ _ rfl rfl rfl rfl ?_ ?_ ⟨fun i h => bs_m h, bs_s _ _, fun i h => (bs_i h).elim (fun e => Or.inr (by rw [e]; exact reach_rf S f)) Or.inl⟩ ?_ ?_ (Nat.lt_succ_self _)
    · simp only [pjs]; exact hS
    · intro j hj; simp only [qxs, Nat.reduceEqDiff, reduceIte]; exact rB_u hr j hj
    · simp only [qxs, Nat.reduceEqDiff, reduceIte]; exact rD_push (hD0 _) (by omega)
    · simp only [qxs, Nat.reduceEqDiff, reduceIte]; exact rW_push (hW0 _ _) hf hF hc


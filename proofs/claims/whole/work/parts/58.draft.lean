/-! both sides: the draft of a court -/
def iTd (σ τ : xm_M) (t : Nat) : Prop := τ.1 37 (4 * t) = σ.1 8 t ∧ τ.1 37 (4 * t + 1) = σ.1 9 t ∧ τ.1 37 (4 * t + 2) = σ.1 10 t ∧ τ.1 37 (4 * t + 3) = σ.1 11 t ∧ (∃ a, a < 5 ∧ σ.1 8 t = nI a) ∧ (∃ w, 1 ≤ w ∧ w ≤ 20 ∧ σ.1 9 t = nI w) ∧ (∃ v, v ≤ 40 ∧ σ.1 10 t = nI v) ∧ ∃ f, f < 3 ∧ σ.1 11 t = nI f
def iCd (σ τ : xm_M) : Prop := (∃ n, n ≤ 8 ∧ σ.1 7 5 = nI n ∧ τ.1 36 0 = nI n ∧ ∀ t, t < n → iTd σ τ t) ∧ (∃ w, w ≤ 4 ∧ σ.1 7 6 = nI w ∧ τ.1 36 3 = nI w) ∧ (∃ w, w ≤ 4 ∧ σ.1 7 7 = nI w ∧ τ.1 36 4 = nI w) ∧ (∃ w, w ≤ 24 ∧ σ.1 7 8 = nI w ∧ τ.1 36 5 = nI w) ∧ ∀ f, f < 3 → τ.1 38 f = σ.1 12 f ∧ ∃ b, b ≤ 99 ∧ σ.1 12 f = nI b
/-- the same court in the reference -/
def sCo (τ τ' : xm_M) : Prop := τ'.1 36 0 = τ.1 36 0 ∧ τ'.1 36 3 = τ.1 36 3 ∧ τ'.1 36 4 = τ.1 36 4 ∧ τ'.1 36 5 = τ.1 36 5 ∧ τ'.1 37 = τ.1 37 ∧ τ'.1 38 = τ.1 38
section DRAFT
variable {σ τ σ' τ' : xm_M}
theorem iCd_cg (hx : ∀ c, 7 ≤ c → c ≤ 12 → σ'.1 c = σ.1 c) (hm : sCo τ τ') (h : iCd σ τ) : iCd σ' τ' := by
  obtain ⟨m0, m3, m4, m5, m37, m38⟩ := hm
  unfold iCd iTd at *
  simp only [hx 7 (by decide) (by decide), hx 8 (by decide) (by decide), hx 9 (by decide) (by decide), hx 10 (by decide) (by decide), hx 11 (by decide) (by decide), hx 12 (by decide) (by decide), m0, m3, m4, m5, m37, m38]
  exact h
theorem dl_cg {w : Nat} (hm : sCo τ τ') (h40 : ∀ j, j < 4 → τ'.1 40 (w + j) = τ.1 40 (w + j)) : sCo (dlM τ w) (dlM τ' w) := by
  obtain ⟨m0, m3, m4, m5, m37, m38⟩ := hm
  have en : nM τ' = nM τ := by unfold nM; rw [m0]
  have h0 : τ'.1 40 w = τ.1 40 w := h40 0 (by decide)
  unfold dlM
  rw [h0, h40 1 (by decide), h40 2 (by decide), m0]
  by_cases c5 : τ.1 40 w = 5
  · rw [if_pos c5, if_pos c5]
    unfold plnM
    refine ⟨rfl, rfl, rfl, rfl, m37, ?_⟩
    funext j
    simp [xm_set, m38]
  · rw [if_neg c5, if_neg c5]
    by_cases c6 : τ.1 40 w = 6
    · rw [if_pos c6, if_pos c6]
      refine ⟨m0, m3, m4, m5, m37, ?_⟩
      funext j
      simp [xm_set, m38]
    · rw [if_neg c6, if_neg c6]
      by_cases c7 : τ.1 40 w = 7
      · rw [if_pos c7, if_pos c7]
        exact ⟨m0, rfl, m4, m5, m37, m38⟩
      · rw [if_neg c7, if_neg c7]
        by_cases c8 : τ.1 40 w = 8
        · rw [if_pos c8, if_pos c8]
          exact ⟨m0, m3, rfl, m5, m37, m38⟩
        · rw [if_neg c8, if_neg c8]
          by_cases c9 : τ.1 40 w = 9
          · rw [if_pos c9, if_pos c9]
            exact ⟨m0, m3, m4, rfl, m37, m38⟩
          · rw [if_neg c9, if_neg c9]
            by_cases c10 : τ.1 40 w = 10
            · rw [if_pos c10, if_pos c10]
              exact ⟨rfl, m3, m4, m5, m37, m38⟩
            · rw [if_neg c10, if_neg c10]
              refine ⟨rfl, m3, m4, m5, ?_, m38⟩
              funext j
              rw [xs_ne (by decide), xs_ne (by decide)]
              unfold t4M
              rw [en]
              by_cases c : 4 * nM τ ≤ j ∧ j < 4 * nM τ + 4
              · have := h40 (j - 4 * nM τ) (by omega)
                exact (if_pos ⟨rfl, c⟩).trans (this.trans (if_pos ⟨rfl, c⟩).symm)
              · exact (if_neg (fun q => c q.2)).trans ((congrFun m37 j).trans (if_neg (fun q => c q.2)).symm)
theorem dl_40 {w : Nat} : (dlM τ w).1 40 = τ.1 40 := by
  unfold dlM plnM t4M
  funext j
  repeat' split
  all_goals simp [xm_set]
theorem co_40 : ∀ q, (coM τ q).1 40 = τ.1 40
  | 0 => rfl
  | q + 1 => by rw [coM, dl_40, co_40 q]
theorem co_cg (hm : sCo τ τ') {q : Nat} (h40 : ∀ j, j < 5 * q → τ'.1 40 j = τ.1 40 j) : ∀ i, i ≤ q → sCo (coM τ i) (coM τ' i)
  | 0, _ => hm
  | i + 1, h => by
    rw [coM, coM]
    refine dl_cg (co_cg hm h40 i (by omega)) (fun j hj => ?_)
    rw [co_40, co_40, h40 _ (by omega)]
theorem dlP_cg {w : Nat} (hm : sCo τ τ') (h40 : ∀ j, j < 2 → τ'.1 40 (w + j) = τ.1 40 (w + j)) (h : dlP τ w) : dlP τ' w := by
  have en : nM τ' = nM τ := by unfold nM; rw [hm.1]
  have h0 : τ'.1 40 w = τ.1 40 w := h40 0 (by decide)
  unfold dlP vXm at *
  rw [en, h0, h40 1 (by decide), hm.1]
  exact h
theorem coP_cg (hm : sCo τ τ') {q : Nat} (h40 : ∀ j, j < 5 * q → τ'.1 40 j = τ.1 40 j) (h : ∀ i, i < q → dlP (coM τ i) (5 * i)) : ∀ i, i < q → dlP (coM τ' i) (5 * i) := fun i hi =>
  dlP_cg (co_cg hm h40 i (by omega)) (fun j hj => by rw [co_40, co_40, h40 _ (by omega)]) (h i hi)
def leT (w j : Nat) : Nat := if w ≤ 4 ∧ j = 0 then 1 else 0
def moT (w j : Nat) : Nat := if w = 5 then (if j = 0 then 2 else 99) else if w = 6 then 4 else if w = 7 then 4 else if w = 8 then 24 else if j = 0 then 20 else if j = 1 then 40 else 2
theorem le_mo : ∀ w, w < 11 → ∀ j, j < 3 → leX (nI w) j = nI (leT w j) ∧ moX (nI w) (nI j) = nI (moT w j) ∧ moT w j ≤ 99 := by decide +kernel
set_option maxHeartbeats 4000000 in
/-- a clause done on both sides -/
theorem dc_dl {w p : Nat} (hw : w < 11) (h : iCd σ τ) (h40 : τ.1 40 p = piW (nI w)) (hn : ∀ j, j < nnW (nI w) → ∃ x, leT w j ≤ x ∧ x ≤ moT w j ∧ σ.1 15 j = nI x ∧ τ.1 40 (p + 1 + j) = nI x) (h8 : w ≤ 4 → ¬ 8 ≤ σ.1 7 5) : iCd (dcX σ (nI w)) (dlM τ p) ∧ dlP τ p ∧ (dcX σ (nI w)).1 7 5 = (if w ≤ 4 then σ.1 7 5 + 1 else if w = 9 ∨ w = 10 then 0 else σ.1 7 5) := by
  obtain ⟨⟨n, n8, e5, m0, ht⟩, hW, hC, hN, hB⟩ := h
  have hnm : nM τ = n := by unfold nM; rw [m0, nI_clamp (by omega)]
  have hnd : nD σ = n := by unfold nD; rw [e5, nI_clamp (by omega)]
  have vx : vXm τ := by unfold vXm; rw [hnm]; exact ⟨m0, n8⟩
  by_cases w4 : w ≤ 4
  · have l8 : n < 8 := by
      have := h8 w4
      rw [e5, i_nle] at this
      exact (nI_ltI (b := 8) (by omega) (by decide)).mp this
    have nn : nnW (nI w) = 3 := by
      have : ∀ w, w ≤ 4 → nnW (nI w) = 3 := by decide +kernel
      exact this w w4
    have ep : piW (nI w) = nI w := by
      have : ∀ w, w ≤ 4 → piW (nI w) = nI w := by decide +kernel
      exact this w w4
    have bw : ∀ w, w ≤ 4 → (leT w 0 = 1 ∧ moT w 0 = 20 ∧ moT w 1 = 40 ∧ moT w 2 = 2) := by decide
    obtain ⟨b0, b1, b2, b3⟩ := bw w w4
    rw [nn] at hn
    obtain ⟨x0, x1, x2, x3, x4⟩ := hn 0 (by decide)
    obtain ⟨y0, y1, y2, y3, y4⟩ := hn 1 (by decide)
    obtain ⟨z0, z1, z2, z3, z4⟩ := hn 2 (by decide)
    have ne : ∀ w, w ≤ 4 → (¬ nI w = 5 ∧ ¬ nI w = 6 ∧ ¬ nI w = 7 ∧ ¬ nI w = 8 ∧ ¬ nI w = 9 ∧ ¬ nI w = 10) := by decide
    obtain ⟨k5, k6, k7, k8, k9, k10⟩ := ne w w4
    rw [ep] at h40
    refine ⟨?_, ⟨vx, fun q => absurd (h40.symm.trans q) k6, fun _ _ _ _ _ _ => by rw [hnm]; exact l8⟩, ?_⟩
    · unfold dcX adX dlM
      rw [if_neg k5, if_neg k6, if_neg k7, if_neg k8, if_neg k9, if_neg k10, if_neg (h8 w4), h40, if_neg k5, if_neg k6, if_neg k7, if_neg k8, if_neg k9, if_neg k10, hnd]
      have t37 : ∀ j, (xm_set (t4M τ p 4) 36 0 (τ.1 36 0 + 1)).1 37 j = if 4 * n ≤ j ∧ j < 4 * n + 4 then τ.1 40 (p + (j - 4 * n)) else τ.1 37 j := fun j => by
        rw [xs_ne (by decide)]
        unfold t4M
        rw [hnm]
        by_cases c : 4 * n ≤ j ∧ j < 4 * n + 4
        · rw [if_pos c]; exact if_pos ⟨rfl, c⟩
        · rw [if_neg c]; exact if_neg (fun q => c q.2)
      refine ⟨⟨n + 1, by omega, by rw [xs_eq, e5, nI_1], by rw [xs_eq, m0, nI_1], fun t htn => ?_⟩, hW, hC, hN, hB⟩
      have s8 : ∀ (v1 v2 v3 v4 : Int32), (xm_set (xm_set (xm_set (xm_set (xm_set σ 8 n v1) 9 n v2) 10 n v3) 11 n v4) 7 5 (σ.1 7 5 + 1)).1 8 t = (if t = n then v1 else σ.1 8 t) ∧ (xm_set (xm_set (xm_set (xm_set (xm_set σ 8 n v1) 9 n v2) 10 n v3) 11 n v4) 7 5 (σ.1 7 5 + 1)).1 9 t = (if t = n then v2 else σ.1 9 t) ∧ (xm_set (xm_set (xm_set (xm_set (xm_set σ 8 n v1) 9 n v2) 10 n v3) 11 n v4) 7 5 (σ.1 7 5 + 1)).1 10 t = (if t = n then v3 else σ.1 10 t) ∧ (xm_set (xm_set (xm_set (xm_set (xm_set σ 8 n v1) 9 n v2) 10 n v3) 11 n v4) 7 5 (σ.1 7 5 + 1)).1 11 t = (if t = n then v4 else σ.1 11 t) := by
        intro v1 v2 v3 v4
        refine ⟨?_, ?_, ?_, ?_⟩ <;> simp [xm_set]
      obtain ⟨q1, q2, q3, q4⟩ := s8 (nI w) (σ.1 15 0) (σ.1 15 1) (σ.1 15 2)
      unfold iTd
      rw [q1, q2, q3, q4, t37, t37, t37, t37]
      by_cases e : t = n
      · subst e
        rw [if_pos rfl, if_pos rfl, if_pos rfl, if_pos rfl, if_pos (by omega), if_pos (by omega), if_pos (by omega), if_pos (by omega), show p + (4 * t - 4 * t) = p by omega, show p + (4 * t + 1 - 4 * t) = p + 1 + 0 by omega, show p + (4 * t + 2 - 4 * t) = p + 1 + 1 by omega, show p + (4 * t + 3 - 4 * t) = p + 1 + 2 by omega, h40, x3, x4, y3, y4, z3, z4]
        exact ⟨rfl, rfl, rfl, rfl, ⟨w, by omega, rfl⟩, ⟨x0, by omega, by omega, rfl⟩, ⟨y0, by omega, rfl⟩, ⟨z0, by omega, rfl⟩⟩
      · rw [if_neg e, if_neg e, if_neg e, if_neg e, if_neg (by omega), if_neg (by omega), if_neg (by omega), if_neg (by omega)]
        exact ht t (by omega)
    · rw [if_pos w4]
      unfold dcX adX
      rw [if_neg k5, if_neg k6, if_neg k7, if_neg k8, if_neg k9, if_neg k10, if_neg (h8 w4), xs_eq]
  · rw [if_neg w4]
    have hw5 : w = 5 ∨ w = 6 ∨ w = 7 ∨ w = 8 ∨ w = 9 ∨ w = 10 := by omega
    rcases hw5 with rfl | rfl | rfl | rfl | rfl | rfl
    · obtain ⟨x0, x1, x2, x3, x4⟩ := hn 0 (by decide +kernel)
      obtain ⟨y0, y1, y2, y3, y4⟩ := hn 1 (by decide +kernel)
      have b0 : x0 ≤ 2 := x2
      have b1 : y0 ≤ 99 := y2
      rw [show piW (nI 5) = 6 by decide +kernel] at h40
      have x4' : τ.1 40 (p + 1) = nI x0 := x4
      have y4' : τ.1 40 (p + 2) = nI y0 := y4
      refine ⟨?_, ⟨vx, fun _ => ⟨x0, by omega, x4'⟩, fun _ q => absurd h40 q⟩, ?_⟩
      · unfold dcX sbX dlM
        rw [if_pos (c := nI 5 = 5) rfl, if_neg (c := σ.1 15 0 < 0 ∨ 3 ≤ σ.1 15 0) (by
          rw [x3]
          intro q
          rcases q with q | q
          · exact absurd q (nI_pos (by omega))
          · have := (nI_leI (a := 3) (by decide) (by omega)).mp q
            omega), h40, if_neg (by decide), if_pos rfl, x3, y3, x4', y4', ixN_nI (by omega)]
        refine ⟨⟨n, n8, e5, m0, ht⟩, hW, hC, hN, fun f hf => ?_⟩
        have a1 : (xm_set τ 38 x0 (nI y0)).1 38 f = if f = x0 then nI y0 else τ.1 38 f := by simp [xm_set]
        have a2 : (xm_set σ 12 x0 (nI y0)).1 12 f = if f = x0 then nI y0 else σ.1 12 f := by simp [xm_set]
        rw [a1, a2]
        by_cases e : f = x0
        · rw [if_pos e, if_pos e]
          exact ⟨rfl, y0, b1, rfl⟩
        · rw [if_neg e, if_neg e]
          exact hB f hf
      · rw [if_neg (by decide)]
        unfold dcX sbX
        rw [if_pos (c := nI 5 = 5) rfl]
        split
        · rfl
        · exact xs_ne (by decide)
    · obtain ⟨x0, x1, x2, x3, x4⟩ := hn 0 (by decide +kernel)
      have b0 : x0 ≤ 4 := x2
      rw [show piW (nI 6) = 7 by decide +kernel] at h40
      have x4' : τ.1 40 (p + 1) = nI x0 := x4
      refine ⟨?_, ⟨vx, fun q => absurd (h40.symm.trans q) (by decide), fun _ _ q => absurd h40 q⟩, ?_⟩
      · unfold dcX dlM
        rw [if_neg (c := nI 6 = 5) (by decide), if_pos (c := nI 6 = 6) rfl, h40, if_neg (by decide), if_neg (by decide), if_pos rfl, x3, x4']
        exact ⟨⟨n, n8, e5, m0, ht⟩, ⟨x0, b0, xs_eq, xs_eq⟩, hC, hN, hB⟩
      · rw [if_neg (by decide)]
        unfold dcX
        rw [if_neg (c := nI 6 = 5) (by decide), if_pos (c := nI 6 = 6) rfl]
        exact xs_nk (by decide)
    · obtain ⟨x0, x1, x2, x3, x4⟩ := hn 0 (by decide +kernel)
      have b0 : x0 ≤ 4 := x2
      rw [show piW (nI 7) = 8 by decide +kernel] at h40
      have x4' : τ.1 40 (p + 1) = nI x0 := x4
      refine ⟨?_, ⟨vx, fun q => absurd (h40.symm.trans q) (by decide), fun _ _ _ q => absurd h40 q⟩, ?_⟩
      · unfold dcX dlM
        rw [if_neg (c := nI 7 = 5) (by decide), if_neg (c := nI 7 = 6) (by decide), if_pos (c := nI 7 = 7) rfl, h40, if_neg (by decide), if_neg (by decide), if_neg (by decide), if_pos rfl, x3, x4']
        exact ⟨⟨n, n8, e5, m0, ht⟩, hW, ⟨x0, b0, xs_eq, xs_eq⟩, hN, hB⟩
      · rw [if_neg (by decide)]
        unfold dcX
        rw [if_neg (c := nI 7 = 5) (by decide), if_neg (c := nI 7 = 6) (by decide), if_pos (c := nI 7 = 7) rfl]
        exact xs_nk (by decide)
    · obtain ⟨x0, x1, x2, x3, x4⟩ := hn 0 (by decide +kernel)
      have b0 : x0 ≤ 24 := x2
      rw [show piW (nI 8) = 9 by decide +kernel] at h40
      have x4' : τ.1 40 (p + 1) = nI x0 := x4
      refine ⟨?_, ⟨vx, fun q => absurd (h40.symm.trans q) (by decide), fun _ _ _ _ q => absurd h40 q⟩, ?_⟩
      · unfold dcX dlM
        rw [if_neg (c := nI 8 = 5) (by decide), if_neg (c := nI 8 = 6) (by decide), if_neg (c := nI 8 = 7) (by decide), if_pos (c := nI 8 = 8) rfl, h40, if_neg (by decide), if_neg (by decide), if_neg (by decide), if_neg (by decide), if_pos rfl, x3, x4']
        exact ⟨⟨n, n8, e5, m0, ht⟩, hW, hC, ⟨x0, b0, xs_eq, xs_eq⟩, hB⟩
      · rw [if_neg (by decide)]
        unfold dcX
        rw [if_neg (c := nI 8 = 5) (by decide), if_neg (c := nI 8 = 6) (by decide), if_neg (c := nI 8 = 7) (by decide), if_pos (c := nI 8 = 8) rfl]
        exact xs_nk (by decide)
    · rw [show piW (nI 9) = 5 by decide +kernel] at h40
      refine ⟨?_, ⟨vx, fun q => absurd (h40.symm.trans q) (by decide), fun q => absurd h40 q⟩, ?_⟩
      · unfold dcX dlM
        rw [if_neg (c := nI 9 = 5) (by decide), if_neg (c := nI 9 = 6) (by decide), if_neg (c := nI 9 = 7) (by decide), if_neg (c := nI 9 = 8) (by decide), if_pos (c := nI 9 = 9) rfl, if_pos h40]
        refine ⟨⟨0, by omega, rfl, rfl, fun t ht => by omega⟩, ⟨3, by omega, rfl, rfl⟩, ⟨2, by omega, rfl, rfl⟩, ⟨12, by omega, rfl, rfl⟩, fun f hf => ?_⟩
        have f3 : f = 0 ∨ f = 1 ∨ f = 2 := by omega
        rcases f3 with rfl | rfl | rfl
        · exact ⟨rfl, 99, by omega, rfl⟩
        · exact ⟨rfl, 99, by omega, rfl⟩
        · exact ⟨rfl, 99, by omega, rfl⟩
      · rw [if_pos (by decide)]
        unfold dcX
        rw [if_neg (c := nI 9 = 5) (by decide), if_neg (c := nI 9 = 6) (by decide), if_neg (c := nI 9 = 7) (by decide), if_neg (c := nI 9 = 8) (by decide), if_pos (c := nI 9 = 9) rfl]
        rfl
    · rw [show piW (nI 10) = 10 by decide +kernel] at h40
      refine ⟨?_, ⟨vx, fun q => absurd (h40.symm.trans q) (by decide), fun _ _ _ _ _ q => absurd h40 q⟩, ?_⟩
      · unfold dcX dlM
        rw [if_neg (c := nI 10 = 5) (by decide), if_neg (c := nI 10 = 6) (by decide), if_neg (c := nI 10 = 7) (by decide), if_neg (c := nI 10 = 8) (by decide), if_neg (c := nI 10 = 9) (by decide), if_pos (c := nI 10 = 10) rfl, h40, if_neg (by decide), if_neg (by decide), if_neg (by decide), if_neg (by decide), if_neg (by decide), if_pos rfl]
        exact ⟨⟨0, by omega, rfl, rfl, fun t ht => by omega⟩, hW, hC, hN, hB⟩
      · rw [if_pos (by decide)]
        unfold dcX
        rw [if_neg (c := nI 10 = 5) (by decide), if_neg (c := nI 10 = 6) (by decide), if_neg (c := nI 10 = 7) (by decide), if_neg (c := nI 10 = 8) (by decide), if_neg (c := nI 10 = 9) (by decide), if_pos (c := nI 10 = 10) rfl]
        exact xs_eq
end DRAFT

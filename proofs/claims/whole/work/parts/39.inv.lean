/-! what both sides keep -/
/-- a thing of the court -/
def iTh (σ : xm_M) (t : Nat) : Prop := σ.1 37 (4 * t) = σ.1 2 t ∧ σ.1 37 (4 * t + 1) = σ.1 3 t ∧ σ.1 37 (4 * t + 2) = σ.1 4 t ∧ σ.1 37 (4 * t + 3) = σ.1 5 t ∧ (∃ a, a < 5 ∧ σ.1 2 t = nI a) ∧ (∃ w, 1 ≤ w ∧ w ≤ 20 ∧ σ.1 3 t = nI w) ∧ (∃ v, v ≤ 40 ∧ σ.1 4 t = nI v) ∧ ∃ f, f < 3 ∧ σ.1 5 t = nI f
/-- the court -/
def iCo (σ : xm_M) : Prop := vX σ ∧ vH σ ∧ σ.1 36 0 = σ.1 1 5 ∧ σ.1 36 3 = σ.1 1 6 ∧ σ.1 36 4 = σ.1 1 7 ∧ σ.1 36 5 = σ.1 1 8 ∧ (∃ n, n ≤ 24 ∧ σ.1 1 8 = nI n) ∧ (∀ f, f < 3 → σ.1 38 f = σ.1 6 f ∧ ∃ b, b ≤ 99 ∧ σ.1 6 f = nI b) ∧ ∀ t, t < nX σ → iTh σ t
/-- a day D of a court of n things, and its twelve numbers R -/
def iDy (n : Nat) (D R : Nat → Int32) : Prop := (∃ m b, m ≤ 24 ∧ D 0 = nI m ∧ D 1 = nI b ∧ b < 2 ^ m) ∧ (∃ a b, a < 2 ^ n ∧ b < 2 ^ n ∧ a &&& b = 0 ∧ D 2 = nI a ∧ D 3 = nI b) ∧ (∃ e, e < 2 ^ n ∧ D 4 = nI e) ∧ (∃ e, e < 8 ∧ D 5 = nI e) ∧ R 10 = D 0 ∧ R 11 = D 1 ∧ R 8 = D 4 ∧ R 9 = D 5 ∧ ∀ t, t < n → R t = if hb (D 3) (nI t) = true then 2 else if hb (D 2) (nI t) = true then 1 else 0
/-- the days behind -/
def iPa (σ : xm_M) : Prop := vPa σ ∧ (∀ i j, i < 8 → j < 8 → pdX σ i = pdX σ j → i = j) ∧ σ.1 36 22 = σ.1 0 6 ∧ ∀ i, i < pcX σ → iDy (nX σ) (σ.1 (pdX σ i)) (fun j => σ.1 45 (12 * i + j))
/-- the days kept -/
def iKp (σ : xm_M) : Prop := vKp σ ∧ (∃ b, b < 4 ∧ σ.1 0 8 = nI b) ∧ ∀ k, k < 2 → σ.1 44 k = b2i (hb (σ.1 0 8) (nI k)) ∧ (hb (σ.1 0 8) (nI k) = true → iDy (nX σ) (σ.1 (34 + k)) (fun j => σ.1 43 (12 * k + j)))
/-- the row -/
def iRo (σ : xm_M) : Prop := vR σ ∧ σ.1 36 24 = σ.1 0 10 ∧ ∀ k, k < rcX σ → σ.1 46 k = σ.1 20 k ∧ ∃ t, t < nX σ ∧ σ.1 20 k = nI t
/-- the tasks -/
def iTa (σ : xm_M) : Prop := vTk σ ∧ (∃ b, b < 2 ^ nX σ ∧ σ.1 0 11 = nI b) ∧ bcJ (σ.1 0 11) = σ.1 36 26 ∧ (∀ k, k < tkMm σ → ∃ t, t < nX σ ∧ σ.1 47 k = nI t) ∧ (∀ i j, i < j → j < tkMm σ → ¬ σ.1 47 i = σ.1 47 j) ∧ ∀ t, t < 8 → hb (σ.1 0 11) (nI t) = isK σ (nI t) (tkMm σ)
/-- what was seen -/
def iSe (σ : xm_M) : Prop := vS σ ∧ σ.1 36 28 = σ.1 0 16 ∧ ∀ k, k < scX σ → σ.1 48 (3 * k) = σ.1 23 k ∧ σ.1 48 (3 * k + 1) = σ.1 24 k ∧ σ.1 48 (3 * k + 2) = σ.1 25 k ∧ (∃ m, m < 24 ∧ σ.1 24 k = nI m) ∧ ∃ g, g < 2 ∧ σ.1 25 k = nI g
/-- the text -/
def iTx (σ : xm_M) : Prop := vT σ ∧ σ.1 36 6 = σ.1 13 1 ∧ ∀ j, j < b3 σ → σ.1 39 j = σ.1 14 j ∧ ∃ c, c < 256 ∧ σ.1 14 j = nI c
/-- both sides, all of it -/
def Inv (σ : xm_M) : Prop := iCo σ ∧ iDy (nX σ) (σ.1 16) (σ.1 41) ∧ iPa σ ∧ iKp σ ∧ iRo σ ∧ iTa σ ∧ iSe σ ∧ iTx σ
theorem nM_nX {σ : xm_M} (h : iCo σ) : nM σ = nX σ := by
  obtain ⟨-, -, e, -⟩ := h
  unfold nM nX
  rw [e]
theorem iCo_vXm {σ : xm_M} (h : iCo σ) : vXm σ := by
  have e := nM_nX h
  obtain ⟨v, -, e0, -⟩ := h
  unfold vXm
  rw [e, e0]
  exact v

/-! the reference: the table of plans, its rows -/
def dN (k : Nat) : Nat := if k < 2 then 1 + k else if k < 6 then 8 + k else 14 + k
theorem daI_dN : ∀ k, k < 10 → daI (nI k) = nI (dN k) ∧ dN k < 24 ∧ (3 ≤ dN k → dN k % 10 < 4) := by decide
/-- all but the table -/
def sm4 (B τ : xm_M) : Prop := ∀ c, c ≠ 49 → c ≠ 50 → τ.1 c = B.1 c
theorem cdI_sm {B τ : xm_M} (h : sm4 B τ) {e : Nat} {a b : Int32} : cdI τ e a b = cdI B e a b := by
  unfold cdI thM foM taM hbM tkMm
  simp only [h 36 (by decide) (by decide), h 37 (by decide) (by decide), h 41 (by decide) (by decide), h 47 (by decide) (by decide), h 51 (by decide) (by decide)]
theorem bnI_sm {B τ : xm_M} (h : sm4 B τ) {e : Nat} {m a b g : Int32} : bnI τ e m a b g = bnI B e m a b g := by
  unfold bnI gbI foM taM hbM
  simp only [h 36 (by decide) (by decide), h 37 (by decide) (by decide), h 47 (by decide) (by decide)]
theorem csI_sm {B τ : xm_M} (h : sm4 B τ) {e : Nat} {m a g : Int32} : csI τ e m a g = csI B e m a g := by
  unfold csI cbI gbI foM taM hbM
  simp only [h 36 (by decide) (by decide), h 37 (by decide) (by decide), h 47 (by decide) (by decide), h 51 (by decide) (by decide)]
theorem vTf_sm {B τ : xm_M} (h : sm4 B τ) (hv : vTf B) : vTf τ := by
  unfold vTf vTk tkMm at *
  simp only [h 36 (by decide) (by decide), h 37 (by decide) (by decide), h 47 (by decide) (by decide)]
  exact hv
def alM (B : xm_M) : Int32 := (1 <<< (B.1 36 26 &&& 31)) - 1
def toA (B : xm_M) (m p k : Nat) : Nat := ixN (bnI B (dN k) (nI m) (nI (p / 128)) (nI (p / 8 % 16)) (nI (p % 8)))
def smK (B τ : xm_M) (m p k : Nat) : Int32 := τ.1 49 (toA B m p k) + csI B (dN k) (nI m) (nI (p / 128)) (nI (p % 8))
/-- the best of the first k deeds: what it costs, when the last task is handled -/
def stK (B τ : xm_M) (m p : Nat) : Nat → Int32 × Int32
  | 0 => if nI (p / 8 % 16) = alM B then (0, nI m - 1) else (9999, 9999)
  | k + 1 => if cdI B (dN k) (nI (p / 128)) (nI (p / 8 % 16)) = true ∧ ¬ 9999 ≤ τ.1 49 (toA B m p k) ∧ (smK B τ m p k < (stK B τ m p k).1 ∨ (smK B τ m p k = (stK B τ m p k).1 ∧ ¬ (stK B τ m p k).2 ≤ τ.1 50 (toA B m p k))) then (smK B τ m p k, τ.1 50 (toA B m p k)) else stK B τ m p k
def fnV (B τ : xm_M) (m p : Nat) : Int32 × Int32 := if m < 24 ∧ 0 < p / 128 ∧ nI (p / 8 % 16) < alM B then stK B τ m p 10 else stK B τ m p 0
def rowM (B τ : xm_M) (m q : Nat) : xm_M := (fun c j => if c = 49 ∧ 1280 * m ≤ j ∧ j < 1280 * m + q then (fnV B τ m (j - 1280 * m)).1 else if c = 50 ∧ 1280 * m ≤ j ∧ j < 1280 * m + q then (fnV B τ m (j - 1280 * m)).2 else τ.1 c j, τ.2)
def tabM (B : xm_M) : Nat → xm_M
  | 0 => B
  | n + 1 => rowM B (tabM B n) (24 - n) 1280
theorem rowM_sm {B τ : xm_M} {m q : Nat} (h : sm4 B τ) : sm4 B (rowM B τ m q) := by
  intro c a b
  rw [← h c a b]
  funext j
  simp [rowM, a, b]
theorem tabM_sm {B : xm_M} : ∀ n, sm4 B (tabM B n)
  | 0 => fun _ _ _ => rfl
  | n + 1 => rowM_sm (tabM_sm n)
theorem pdq : ∀ p, p < 1280 → nI p / 128 = nI (p / 128) ∧ nI p / 8 - nI p / 8 / 16 * 16 = nI (p / 8 % 16) ∧ nI p - nI p / 8 * 8 = nI (p % 8) := by decide +kernel
theorem or_h : ∀ h, h < 16 → ∀ k, k < 4 → ∃ x, x < 16 ∧ nI h ||| (1 <<< (nI k &&& 31)) = nI x := by
  have : ∀ h, h < 16 → ∀ k, k < 4 → nI h ||| (1 <<< (nI k &&& 31)) = nI (h ||| 2 ^ k) ∧ h ||| 2 ^ k < 16 := by decide +kernel
  intro h hh k hk
  exact ⟨_, (this h hh k hk).2, (this h hh k hk).1⟩
theorem or_g : ∀ g, g < 8 → ∀ f, f < 3 → ∃ x, x < 8 ∧ nI g ||| (1 <<< (nI f &&& 31)) = nI x := by
  have : ∀ g, g < 8 → ∀ f, f < 3 → nI g ||| (1 <<< (nI f &&& 31)) = nI (g ||| 2 ^ f) ∧ g ||| 2 ^ f < 8 := by decide +kernel
  intro g hg f hf
  exact ⟨_, (this g hg f hf).2, (this g hg f hf).1⟩
theorem plI_nI {m a h g : Nat} (hm : m ≤ 25) (ha : a ≤ 10) (hh : h < 16) (hg : g < 8) : plI (nI m) (nI a) (nI h) (nI g) = nI (1280 * m + (128 * min a 9 + 8 * h + g)) := by
  have e : (if nI a ≤ 9 then nI a else 9) = nI (min a 9) := by
    have : ∀ a, a ≤ 10 → (if nI a ≤ 9 then nI a else 9) = nI (min a 9) := by decide
    exact this a ha
  unfold plI
  rw [e, show (10 : Int32) = nI 10 by decide, show (16 : Int32) = nI 16 by decide, show (8 : Int32) = nI 8 by decide, pk_mul, nI_add, pk_mul, nI_add, pk_mul, nI_add]
  rw [show ((m * 10 + min a 9) * 16 + h) * 8 + g = 1280 * m + (128 * min a 9 + 8 * h + g) by omega]
theorem to_in {B : xm_M} {m p k : Nat} (hv : vTf B) (hm : m < 24) (hp : p < 1280) (hk : k < 10) (hc : cdI B (dN k) (nI (p / 128)) (nI (p / 8 % 16)) = true) : bnI B (dN k) (nI m) (nI (p / 128)) (nI (p / 8 % 16)) (nI (p % 8)) = nI (toA B m p k) ∧ 1280 * (m + 1) + 128 ≤ toA B m p k ∧ toA B m p k < 1280 * (m + 2) := by
  obtain ⟨-, d24, d4⟩ := daI_dN k hk
  have hk4 := hv.1.2
  have key : ∃ a, bnI B (dN k) (nI m) (nI (p / 128)) (nI (p / 8 % 16)) (nI (p % 8)) = nI a ∧ 1280 * (m + 1) + 128 ≤ a ∧ a < 1280 * (m + 2) := by
    have ea : ∃ x, 1 ≤ x ∧ x ≤ 10 ∧ (if dN k = 2 then (1 : Int32) else nI (p / 128) + 1) = nI x := by
      split
      · exact ⟨1, by omega, by omega, rfl⟩
      · exact ⟨p / 128 + 1, by omega, by omega, by rw [nI_succ]⟩
    have eh : ∃ x, x < 16 ∧ (if dN k < 3 then nI (p / 8 % 16) else nI (p / 8 % 16) ||| (1 <<< (nI (dN k % 10) &&& 31))) = nI x := by
      split
      · exact ⟨_, by omega, rfl⟩
      · exact or_h _ (by omega) _ (d4 (by omega))
    have eg : ∃ x, x < 8 ∧ (if dN k < 20 then nI (p % 8) else gbI B (nI m) (nI (p / 128)) (nI (foM B (dN k % 10))) (nI (p % 8))) = nI x := by
      by_cases c : dN k < 20
      · rw [if_pos c]
        exact ⟨_, by omega, rfl⟩
      · rw [if_neg c]
        have hkk : dN k % 10 < tkMm B := by
          unfold cdI at hc
          rw [if_neg (by omega)] at hc
          by_cases q : tkMm B ≤ dN k % 10
          · rw [if_pos (Or.inl q)] at hc
            exact absurd hc (by decide)
          · omega
        obtain ⟨-, -, f3, -⟩ := vTf_at hv hkk
        unfold gbI
        split
        · exact or_g _ (by omega) _ f3
        · exact ⟨_, by omega, rfl⟩
    obtain ⟨xa, a1, a2, a3⟩ := ea
    obtain ⟨xh, h1, h2⟩ := eh
    obtain ⟨xg, g1, g2⟩ := eg
    unfold bnI
    rw [a3, h2, g2, ← nI_succ, plI_nI (by omega) a2 h1 g1]
    exact ⟨_, rfl, by omega, by omega⟩
  obtain ⟨a, ea, l1, l2⟩ := key
  have e : toA B m p k = a := by unfold toA; rw [ea, ixN_nI (by omega)]
  rw [e]
  exact ⟨ea, l1, l2⟩

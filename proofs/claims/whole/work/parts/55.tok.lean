/-! both sides: tokens -/
section TOK1
variable {L L' : Nat → Int32} {n : Nat}
theorem skB_cg (h : ∀ j, j < n → L' j = L j) : ∀ k i, skB L' n k i = skB L n k i
  | 0, _ => rfl
  | k + 1, i => by
    rw [skB, skB]
    by_cases c : i < n
    · rw [h i c, skB_cg h k (i + 1)]
    · rw [if_neg (fun q => c q.1), if_neg (fun q => c q.1)]
theorem rnE_cg {p : Int32 → Bool} (h : ∀ j, j < n → L' j = L j) : ∀ k i, rnE L' n p k i = rnE L n p k i
  | 0, _ => rfl
  | k + 1, i => by
    rw [rnE, rnE]
    by_cases c : i < n
    · rw [h i c, rnE_cg h k (i + 1)]
    · rw [if_neg (fun q => c q.1), if_neg (fun q => c q.1)]
theorem rnE_all {p : Int32 → Bool} : ∀ k s i, s ≤ i → i < rnE L n p k s → p (L i) = true
  | 0, s, i, h1, h2 => by rw [rnE] at h2; omega
  | k + 1, s, i, h1, h2 => by
    rw [rnE] at h2
    by_cases c : s < n ∧ p (L s) = true
    · rw [if_pos c] at h2
      by_cases e : i = s
      · rw [e]; exact c.2
      · exact rnE_all k (s + 1) i (by omega) h2
    · rw [if_neg c] at h2
      omega
theorem wcM_cg {s : Nat} : ∀ k, (∀ i, i < k → L' (s + i) = L (s + i)) → wcM L' s k = wcM L s k
  | 0, _ => rfl
  | k + 1, h => by rw [wcM, wcM, wcM_cg k (fun i hi => h i (by omega)), h k (by omega)]
theorem nuM_cg {s : Nat} : ∀ k, (∀ i, i < k → L' (s + i) = L (s + i)) → nuM L' s k = nuM L s k
  | 0, _ => rfl
  | k + 1, h => by rw [nuM, nuM, nuM_cg k (fun i hi => h i (by omega)), h k (by omega)]
theorem vFO_cg {p q : Nat → Bool} : ∀ k i, (∀ w, i ≤ w → w < i + k → p w = q w) → vFO p k i = vFO q k i
  | 0, _, _ => rfl
  | k + 1, i, h => by rw [vFO, vFO, h i (by omega) (by omega), vFO_cg k (i + 1) (fun w a b => h w (by omega) (by omega))]
theorem vFO_no {p : Nat → Bool} : ∀ k i, (∀ w, i ≤ w → w < i + k → p w = false) → vFO p k i = -1
  | 0, _, _ => rfl
  | k + 1, i, h => by rw [vFO, h i (by omega) (by omega), if_neg (by decide), vFO_no k (i + 1) (fun w a b => h w (by omega) (by omega))]
theorem sm_ex {z : Int32} (h : smL z = true) : ∃ c, 97 ≤ c ∧ c ≤ 122 ∧ z = nI c := by
  unfold smL at h
  rw [Bool.and_eq_true, decide_eq_true_eq, decide_eq_true_eq] at h
  obtain ⟨c, hc, rfl⟩ := le_ex 122 (by decide) (by decide) (Int32.le_trans (by decide : (0 : Int32) ≤ 97) h.1) h.2
  exact ⟨c, (nI_leI (a := 97) (by decide) (by omega)).mp h.1, hc, rfl⟩
theorem dg_ex {z : Int32} (h : dgL z = true) : ∃ c, 48 ≤ c ∧ c ≤ 57 ∧ z = nI c := by
  unfold dgL at h
  rw [Bool.and_eq_true, decide_eq_true_eq, decide_eq_true_eq] at h
  obtain ⟨c, hc, rfl⟩ := le_ex 57 (by decide) (by decide) (Int32.le_trans (by decide : (0 : Int32) ≤ 48) h.1) h.2
  exact ⟨c, (nI_leI (a := 48) (by decide) (by omega)).mp h.1, hc, rfl⟩
theorem sd_no {z : Int32} (h : smL z = true) : dgL z = false := by
  obtain ⟨c, h1, h2, rfl⟩ := sm_ex h
  have : ∀ c, c ≤ 122 → 97 ≤ c → dgL (nI c) = false := by decide
  exact this c h2 h1
theorem like_s {c : Int32} (h : smL c = true) : likeL c = smL := by
  funext z
  unfold likeL
  rw [h, sd_no h]
  cases e : smL z
  · rfl
  · rw [sd_no e]; rfl
theorem like_d {c : Int32} (h : dgL c = true) : likeL c = dgL := by
  funext z
  have h0 : smL c = false := by
    cases e : smL c
    · rfl
    · rw [sd_no e] at h; exact absurd h (by decide)
  unfold likeL
  rw [h, h0]
  cases e : smL z
  · cases dgL z <;> rfl
  · rw [sd_no e]; rfl
theorem tkE_s {s : Nat} (hs : s < n) (h : smL (L s) = true) : tkE L n s = leM L n s ∧ s < leM L n s := by
  have e : leM L n s = rnE L n smL (n - (s + 1)) (s + 1) := by
    unfold leM
    rw [show n - s = n - (s + 1) + 1 by omega, rnE, if_pos ⟨hs, h⟩]
  have := rnE_in (L := L) (n := n) (p := smL) (n - (s + 1)) (s + 1) (by omega)
  refine ⟨?_, by rw [e]; omega⟩
  unfold tkE
  rw [if_pos hs, if_pos (Or.inl h), like_s h, e]
theorem tkE_d {s : Nat} (hs : s < n) (h : dgL (L s) = true) : tkE L n s = deM L n s ∧ s < deM L n s := by
  have e : deM L n s = rnE L n dgL (n - (s + 1)) (s + 1) := by
    unfold deM
    rw [show n - s = n - (s + 1) + 1 by omega, rnE, if_pos ⟨hs, h⟩]
  have := rnE_in (L := L) (n := n) (p := dgL) (n - (s + 1)) (s + 1) (by omega)
  refine ⟨?_, by rw [e]; omega⟩
  unfold tkE
  rw [if_pos hs, if_pos (Or.inr h), like_d h, e]
/-- a word as a number -/
def cN (f : Nat → Nat) : Nat → Nat
  | 0 => 0
  | k + 1 => 27 * cN f k + f k
theorem cN_cg {f g : Nat → Nat} : ∀ k, (∀ i, i < k → f i = g i) → cN f k = cN g k
  | 0, _ => rfl
  | k + 1, h => by rw [cN, cN, cN_cg k (fun i hi => h i (by omega)), h k (by omega)]
theorem cN_inj {f g : Nat → Nat} : ∀ k j, (∀ i, i < k → 1 ≤ f i ∧ f i ≤ 26) → (∀ i, i < j → 1 ≤ g i ∧ g i ≤ 26) → cN f k = cN g j → k = j ∧ ∀ i, i < k → f i = g i
  | 0, 0, _, _, _ => ⟨rfl, fun i hi => by omega⟩
  | 0, j + 1, _, hg, h => by
    rw [cN, cN] at h
    have := hg j (by omega)
    omega
  | k + 1, 0, hf, _, h => by
    rw [cN, cN] at h
    have := hf k (by omega)
    omega
  | k + 1, j + 1, hf, hg, h => by
    rw [cN, cN] at h
    have a := hf k (by omega)
    have b := hg j (by omega)
    obtain ⟨e, he⟩ := cN_inj k j (fun i hi => hf i (by omega)) (fun i hi => hg i (by omega)) (by omega)
    subst e
    refine ⟨rfl, fun i hi => ?_⟩
    by_cases z : i = k
    · subst z; omega
    · exact he i (by omega)
theorem cN_lt {f : Nat → Nat} : ∀ k, (∀ i, i < k → f i ≤ 26) → cN f k < 27 ^ k
  | 0, _ => by rw [cN]; decide
  | k + 1, h => by
    have ih := cN_lt k (fun i hi => h i (by omega))
    have := h k (by omega)
    rw [cN, Nat.pow_succ]
    omega
theorem lN_inj {a b : Nat} (ha : a < 2 ^ 64) (hb : b < 2 ^ 64) (h : lN a = lN b) : a = b := by
  have e : (lN a).toBitVec.toNat = (lN b).toBitVec.toNat := by rw [h]
  have e1 : (lN a).toBitVec.toNat = a := Nat.mod_eq_of_lt ha
  have e2 : (lN b).toBitVec.toNat = b := Nat.mod_eq_of_lt hb
  omega
theorem k9 : ∀ k, k < 9 → ¬ (9 : Int32) ≤ nI k := by decide
theorem wc_cN {s : Nat} : ∀ k, k ≤ 9 → (∀ i, i < k → smL (L (s + i)) = true) → wcM L s k = lN (cN (fun i => ixN (L (s + i)) - 96) k)
  | 0, _, _ => rfl
  | k + 1, hk, h => by
    obtain ⟨c, c1, c2, ec⟩ := sm_ex (h k (by omega))
    rw [wcM, if_neg (k9 k (by omega)), wc_cN k (by omega) (fun i hi => h i (by omega)), ec, nI_l (by omega), cN, ec, ixN_nI (by omega), show (27 : Int64) = lN 27 from rfl, lN_mul, lN_add, show (96 : Int64) = lN 96 from rfl, lN_sub (by omega)]
    congr 1
    omega
def wcn (w : Nat) : Nat := [82408, 405012, 139055, 1168243, 129442, 1162531, 453959, 1758684, 286916, 1905383, 40586].getD w 0
theorem wcn_ok : ∀ w, w < 11 → wcn w = cN (fun i => ixN (wch w i) - 96) (wlen w) ∧ wcn w < 2 ^ 30 := by decide +kernel
/-- a word of ours by its number -/
def piW (x : Int32) : Int32 := if x = 5 then 6 else if x = 6 then 7 else if x = 7 then 8 else if x = 8 then 9 else if x = 9 then 5 else x
theorem kd_11 : ∀ w, w < 11 → kdM (lN (wcn w)) = piW (vFO (fun u => decide (wcn w = wcn u)) 11 0) := by decide +kernel
theorem kd_code {N : Nat} (hN : N < 2 ^ 63) : kdM (lN N) = piW (vFO (fun w => decide (N = wcn w)) 11 0) := by
  by_cases h : ∃ w, w < 11 ∧ N = wcn w
  · obtain ⟨w, hw, rfl⟩ := h
    exact kd_11 w hw
  · rw [vFO_no 11 0 (fun w _ hw => decide_eq_false (fun q => h ⟨w, by omega, q⟩))]
    have hk : ∀ w, w < 11 → ¬ lN N = lN (wcn w) := fun w hw q => h ⟨w, hw, lN_inj (by omega) (by have := (wcn_ok w hw).2; omega) q⟩
    have k0 : ¬ lN N = 82408 := hk 0 (by decide)
    have k1 : ¬ lN N = 405012 := hk 1 (by decide)
    have k2 : ¬ lN N = 139055 := hk 2 (by decide)
    have k3 : ¬ lN N = 1168243 := hk 3 (by decide)
    have k4 : ¬ lN N = 129442 := hk 4 (by decide)
    have k5 : ¬ lN N = 1162531 := hk 5 (by decide)
    have k6 : ¬ lN N = 453959 := hk 6 (by decide)
    have k7 : ¬ lN N = 1758684 := hk 7 (by decide)
    have k8 : ¬ lN N = 286916 := hk 8 (by decide)
    have k9 : ¬ lN N = 1905383 := hk 9 (by decide)
    have k10 : ¬ lN N = 40586 := hk 10 (by decide)
    unfold kdM kaM kbM
    rw [if_neg k0, if_neg k1, if_neg k2, if_neg k3, if_neg k4, if_neg k9, if_neg k5, if_neg k6, if_neg k7, if_neg k8, if_neg k10]
    decide
theorem isTk_code {s e w : Nat} (hw : w < 11) (h : ∀ i, i < e - s → smL (L (s + i)) = true) : isTk L s e w = decide (cN (fun i => ixN (L (s + i)) - 96) (e - s) = wcn w) := by
  have hd : ∀ i, i < e - s → 1 ≤ ixN (L (s + i)) - 96 ∧ ixN (L (s + i)) - 96 ≤ 26 := fun i hi => by
    obtain ⟨c, c1, c2, ec⟩ := sm_ex (h i hi)
    rw [ec, ixN_nI (by omega)]
    omega
  have hwd : ∀ i, i < wlen w → ∃ c, 97 ≤ c ∧ c ≤ 122 ∧ wch w i = nI c := fun i hi => by
    have := wch_ok w hw i hi
    apply sm_ex
    unfold smL
    rw [decide_eq_true this.2.2.2.1, decide_eq_true this.2.2.2.2]; rfl
  unfold isTk
  rw [Bool.eq_iff_iff, Bool.and_eq_true, decide_eq_true_eq, decide_eq_true_eq, allN_true, (wcn_ok w hw).1]
  refine ⟨fun q => ?_, fun q => ?_⟩
  · rw [q.1]
    exact cN_cg _ (fun i hi => by rw [of_decide_eq_true (q.2 i hi)])
  · obtain ⟨a, b⟩ := cN_inj _ _ hd (fun i hi => by
      obtain ⟨c, c1, c2, ec⟩ := hwd i hi
      rw [ec, ixN_nI (by omega)]
      omega) q
    refine ⟨a, fun i hi => decide_eq_true ?_⟩
    have := b i (by omega)
    obtain ⟨c, c1, c2, ec⟩ := hwd i hi
    obtain ⟨g, g1, g2, eg⟩ := sm_ex (h i (by omega))
    rw [eg, ec, ixN_nI (by omega), ixN_nI (by omega)] at this
    rw [eg, ec, show g = c by omega]
theorem isTk_no {s e w : Nat} (hw : w < 11) (h : e - s = 0 ∨ 9 < e - s ∨ smL (L s) = false) : isTk L s e w = false := by
  have l := wlen_le w hw
  unfold isTk
  by_cases c : e - s = wlen w
  · rw [decide_eq_true c, Bool.true_and]
    refine allN_no (i := 0) (by omega) (decide_eq_false (fun q => ?_))
    rcases h with h | h | h
    · omega
    · omega
    · have := wch_ok w hw 0 (by omega)
      rw [Nat.add_zero] at q
      unfold smL at h
      rw [q, decide_eq_true this.2.2.2.1, decide_eq_true this.2.2.2.2] at h
      exact absurd h (by decide)
  · rw [decide_eq_false c]; rfl
theorem nm1 : ∀ c, c ≤ 57 → 48 ≤ c → (0 : Int32) * 10 + nI c - 48 = nI (c - 48) ∧ (10 : Int32) * 0 + nI c - 48 = nI (c - 48) := by decide
theorem nm2 : ∀ b, b ≤ 9 → ∀ c, c ≤ 57 → 48 ≤ c → nI b * 10 + nI c - 48 = nI (10 * b + (c - 48)) ∧ 10 * nI b + nI c - 48 = nI (10 * b + (c - 48)) := by decide +kernel
theorem num_eq {s k : Nat} (hk : k = 1 ∨ k = 2) (h : ∀ i, i < k → dgL (L (s + i)) = true) : ∃ x, x ≤ 99 ∧ nmR L s k = nI x ∧ nuM L s k = nI x := by
  obtain ⟨c, c1, c2, ec⟩ := dg_ex (h 0 (by omega))
  have e1 : nmR L s 1 = nI (c - 48) ∧ nuM L s 1 = nI (c - 48) := by
    rw [nmR, nmR, nuM, nuM, if_neg (by decide), ec]
    exact nm1 c c2 c1
  rcases hk with rfl | rfl
  · exact ⟨c - 48, by omega, e1.1, e1.2⟩
  · obtain ⟨b, b1, b2, eb⟩ := dg_ex (h 1 (by omega))
    have e2 : nmR L s 2 = nI (10 * (c - 48) + (b - 48)) ∧ nuM L s 2 = nI (10 * (c - 48) + (b - 48)) := by
      have q := nm2 (c - 48) (by omega) b b2 b1
      rw [nmR, nuM, if_neg (by decide), e1.1, e1.2, eb]
      exact q
    exact ⟨_, by omega, e2.1, e2.2⟩
end TOK1

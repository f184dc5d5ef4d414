/-! the reference: what would be -/
/-- all but what is tried, its twelve places -/
def smF (σ τ : xm_M) : Prop := (∀ c k, (c = 42 → 12 ≤ k) → τ.1 c k = σ.1 c k) ∧ τ.2 = σ.2
theorem smF_rf {σ : xm_M} : smF σ σ := ⟨fun _ _ _ => rfl, rfl⟩
theorem smF_tr {σ τ ρ : xm_M} (h : smF σ τ) (g : smF τ ρ) : smF σ ρ := ⟨fun c k q => (g.1 c k q).trans (h.1 c k q), g.2.trans h.2⟩
theorem smF_ne {σ τ : xm_M} (h : smF σ τ) {c : Nat} (hc : c ≠ 42) : τ.1 c = σ.1 c := funext fun k => h.1 c k (fun e => absurd e hc)
/-- what is tried, from what is now -/
def tr0 (σ : xm_M) : xm_M := cpM σ 41 0 42 0 12
theorem smF_tr0 {σ τ : xm_M} (h : smF σ τ) : tr0 τ = tr0 σ := by
  apply Prod.ext
  · funext c k
    simp only [tr0, cpM]
    by_cases e : c = 42 ∧ 0 ≤ k ∧ k < 0 + 12
    · rw [if_pos e, if_pos e]; exact h.1 _ _ (fun q => absurd q (by decide))
    · rw [if_neg e, if_neg e]; exact h.1 _ _ (fun q => by omega)
  · exact h.2
theorem tr0_sm {σ : xm_M} : smF σ (tr0 σ) := ⟨fun c k h => if_neg (fun e => by have := h e.1; omega), rfl⟩
theorem set_sm {σ : xm_M} {k : Nat} {v : Int32} (hk : k < 12) : smF σ (xm_set σ 42 k v) := ⟨fun c j h => if_neg (fun e => by have := h e.1; omega), rfl⟩
theorem psM_sm {σ : xm_M} (hv : vXm σ) : smF σ (psM σ 42) := by
  have hn := hv.2
  have q : smF σ (ps1 σ 42) := smF_tr (set_sm (by decide)) (set_sm (by decide))
  unfold psM
  split
  · refine smF_tr q ⟨fun c k h => if_neg (fun e => ?_), rfl⟩
    have := h e.1
    omega
  · exact q
theorem vXm_sm {σ τ : xm_M} (h : smF σ τ) (hv : vXm σ) : vXm τ := vXm_of (h.1 _ _ (fun q => absurd q (by decide))) hv
theorem psM_10 {σ : xm_M} {s : Nat} (hv : vXm σ) : (psM σ s).1 s 10 = σ.1 s 10 + 1 := by
  have hn := hv.2
  have e10 : (ps1 σ s).1 s 10 = σ.1 s 10 + 1 := by rw [ps1, xs_eq]
  unfold psM
  split
  · exact (if_neg (fun q => by omega)).trans e10
  · exact e10
/-- a floor that has more than it bears -/
def loM (σ : xm_M) (s : Nat) : Nat → Int32
  | 0 => -1
  | k + 1 => if hb (σ.1 s 9) (nI (2 - k)) = false ∧ σ.1 38 (2 - k) < ldM σ s (nI (2 - k)) (nM σ) then nI (2 - k) else loM σ s k
def trM (σ : xm_M) : Nat → xm_M
  | 0 => tr0 σ
  | k + 1 => xm_set (trM σ k) 42 (ixN (σ.1 46 k)) 2
def goK (σ : xm_M) (y : Int32) : Nat → Nat → Int32
  | 0, _ => -1
  | n + 1, k => if loM (trM σ (k + 1)) 42 3 = -1 then goK σ y n (k + 1) else if y = 0 then nI k else loM (trM σ (k + 1)) 42 3
def g_goes (σ : xm_M) (y : Int32) : Int32 := if inB y 0 1 = false then -3 else goK σ y (rmM σ) 0
def pnM (σ : xm_M) : Nat → xm_M
  | 0 => tr0 σ
  | k + 1 => psM (pnM σ k) 42
def prN (σ : xm_M) (k : Nat) : Int32 := sumI (nM (pnM σ k)) (prM (pnM σ k) 42)
def miM (σ : xm_M) : Nat := (σ.1 41 10).toNatClampNeg
def vMm (σ : xm_M) : Prop := σ.1 41 10 = nI (miM σ) ∧ miM σ ≤ 24
def g_price (σ : xm_M) (x : Int32) : Int32 := if inB x (σ.1 41 10) 24 = false then -3 else prN σ (ixN x - miM σ)
/-- the best minute, so many from now -/
def seM (σ : xm_M) : Nat → Nat
  | 0 => 0
  | k + 1 => if prN σ (seM σ k) < prN σ k then k else seM σ k
def g_sell (σ : xm_M) (y : Int32) : Int32 := if inB y 0 1 = false then -3 else if y = 0 then nI (miM σ + seM σ (25 - miM σ)) else prN σ (seM σ (25 - miM σ))
theorem seM_le {σ : xm_M} : ∀ k, seM σ (k + 1) ≤ k
  | 0 => by rw [seM, seM]; split <;> omega
  | k + 1 => by
    have := seM_le (σ := σ) k
    rw [seM]
    split <;> omega
def lotM (σ : xm_M) (t : Nat) (f : Int32) : Int32 := if σ.1 37 (4 * t + 3) = f ∨ hb (σ.1 41 8) (nI t) = true ∨ 3 * σ.1 37 (4 * t + 1) - prM σ 41 t < 0 then 0 else 3 * σ.1 37 (4 * t + 1) - prM σ 41 t
theorem trM_sm {σ : xm_M} (hrow : ∀ k, k < rmM σ → ∃ t, t < 8 ∧ σ.1 46 k = nI t) : ∀ k, k ≤ rmM σ → smF σ (trM σ k)
  | 0, _ => tr0_sm
  | k + 1, h => by
    obtain ⟨t, ht, et⟩ := hrow k (by omega)
    refine smF_tr (trM_sm hrow k (by omega)) (set_sm ?_)
    rw [et, ixN_nI (by omega)]
    omega
theorem pnM_sm {σ : xm_M} (hv : vXm σ) : ∀ k, smF σ (pnM σ k)
  | 0 => tr0_sm
  | k + 1 => smF_tr (pnM_sm hv k) (psM_sm (vXm_sm (pnM_sm hv k) hv))
theorem pnM_10 {σ : xm_M} (hv : vXm σ) (hm : vMm σ) : ∀ k, (pnM σ k).1 42 10 = nI (miM σ + k)
  | 0 => by
    show (tr0 σ).1 42 10 = _
    rw [Nat.add_zero, ← hm.1]
    simp [tr0, cpM]
  | k + 1 => by
    show (psM (pnM σ k) 42).1 42 10 = _
    rw [psM_10 (vXm_sm (pnM_sm hv k) hv), pnM_10 hv hm k, ← nI_succ]
    rfl
theorem inB2_ex {x : Int32} (h : inB x 0 2 = true) : ∃ i, i < 3 ∧ x = nI i := by
  simp only [inB, Bool.and_eq_true, decide_eq_true_eq] at h
  obtain ⟨i, hi, e⟩ := le_ex 2 (by decide) (by decide) h.1 h.2
  exact ⟨i, by omega, e⟩
section REF5
variable {d : Nat} {σ : xm_M} {Q : Option Value → xm_M → Prop}
theorem S_X5_tooLoaded {s : Nat} (hs : isN s) (hv : vXm σ) (h : Q (some (.int (loM σ s 3))) σ) : xg_C (d + 3) mX5_tooLoaded [.ref 36, .ref s] σ Q := by
  refine xg_C_of py_X5_tooLoaded (Nat.le_of_ble_eq_true rfl) ?_
  show xg_X none (d + 3) mX5_tooLoaded 0 [(0, .ref 36), (1, .ref s)] [] σ Q
  have loop : ∀ n k, k + n = 3 → xg_X none (d + 3) mX5_tooLoaded 4 [(3, .int (2 - nI k)), (2, .int (loM σ s k)), (0, .ref 36), (1, .ref s)] [] σ Q := by
    intro n
    induction n with
    | zero =>
      intro k hk
      obtain rfl : k = 3 := by omega
      refine X_ildn0 5 dX5_tooLoaded_4 rfl rfl ?_
      refine X_iflt 46 8 dX5_tooLoaded_5 (by decide) rfl (fun c5 => ?_) (fun c5 => ?_)
      · refine X_ildn1 47 dX5_tooLoaded_46 rfl rfl ?_
        refine X_iret dX5_tooLoaded_47 rfl ?_
        exact h
      · exact absurd (by decide) c5
    | succ n ih =>
      intro k hk
      have e : (2 : Int32) - nI k = nI (2 - k) := by rcases (by omega : k = 0 ∨ k = 1 ∨ k = 2) with rfl | rfl | rfl <;> decide
      have e2 : nI (2 - k) + (-1) = (2 : Int32) - nI (k + 1) := by rcases (by omega : k = 0 ∨ k = 1 ∨ k = 2) with rfl | rfl | rfl <;> decide
      have e3 : ¬ nI (2 - k) < 0 := by rcases (by omega : k = 0 ∨ k = 1 ∨ k = 2) with rfl | rfl | rfl <;> decide
      rw [e]
      refine X_ildn0 5 dX5_tooLoaded_4 rfl rfl ?_
      refine X_iflt 46 8 dX5_tooLoaded_5 (by decide) rfl (fun c5 => ?_) (fun c5 => ?_)
      · exact absurd c5 e3
      · refine X_aldn3 9 dX5_tooLoaded_8 rfl rfl ?_
        refine X_bipush 9 11 dX5_tooLoaded_9 (by decide) rfl ?_
        refine X_ialk 9 12 dX5_tooLoaded_11 (ar_N hs) rfl (by decide) (by rw [sn_N hs]; decide) ?_
        refine X_ildn0 13 dX5_tooLoaded_12 rfl rfl ?_
        refine X_callS2 16 dX5_tooLoaded_13 cw_X5_177 zk_X5_has rfl rfl (S_X5_has ?_)
        refine X_pu ?_
        refine X_ifne 38 19 dX5_tooLoaded_16 (by decide) rfl (fun c16 => ?_) (fun c16 => ?_)
        · refine X_ildn1 39 dX5_tooLoaded_38 rfl rfl ?_
          refine X_istn1 40 dX5_tooLoaded_39 rfl rfl rfl rfl ?_
          refine X_inc0 (-1) 43 dX5_tooLoaded_40 (by decide) rfl rfl rfl ?_
          refine X_goto 4 dX5_tooLoaded_43 (by decide) ?_
          refine xg_lv ?_ (ih (k + 1) (by omega))
          rw [e2, loM]
          (try simp only [i_nlt, i_nle] at *)
          grind [b2i]
        · refine X_aldn2 20 dX5_tooLoaded_19 rfl rfl ?_
          refine X_aldn3 21 dX5_tooLoaded_20 rfl rfl ?_
          refine X_ildn0 22 dX5_tooLoaded_21 rfl rfl ?_
          refine X_callV2 5 25 dX5_tooLoaded_22 cw_X5_205 zk_X5_loadOf ⟨rfl, rfl⟩ rfl rfl rfl (S_X5_loadOf hs hv ?_)
          refine X_pu ?_
          refine X_aldn2 26 dX5_tooLoaded_25 rfl rfl ?_
          refine X_getA 38 29 dX5_tooLoaded_26 fl_X5_13 rfl rfl ?_
          refine X_ildn0 30 dX5_tooLoaded_29 rfl rfl ?_
          refine X_ialk (2 - k) 31 dX5_tooLoaded_30 rfl rfl rfl (show 2 - k < 3 by omega) ?_
          refine X_icle 38 34 dX5_tooLoaded_31 (by decide) rfl (fun c31 => ?_) (fun c31 => ?_)
          · refine X_ildn1 39 dX5_tooLoaded_38 rfl rfl ?_
            refine X_istn1 40 dX5_tooLoaded_39 rfl rfl rfl rfl ?_
            refine X_inc0 (-1) 43 dX5_tooLoaded_40 (by decide) rfl rfl rfl ?_
            refine X_goto 4 dX5_tooLoaded_43 (by decide) ?_
            refine xg_lv ?_ (ih (k + 1) (by omega))
            rw [e2, loM]
            (try simp only [i_nlt, i_nle] at *)
            grind [b2i]
          · refine X_ildn0 35 dX5_tooLoaded_34 rfl rfl ?_
            refine X_goto 39 dX5_tooLoaded_35 (by decide) ?_
            refine X_istn1 40 dX5_tooLoaded_39 rfl rfl rfl rfl ?_
            refine X_inc0 (-1) 43 dX5_tooLoaded_40 (by decide) rfl rfl rfl ?_
            refine X_goto 4 dX5_tooLoaded_43 (by decide) ?_
            refine xg_lv ?_ (ih (k + 1) (by omega))
            rw [e2, loM]
            (try simp only [i_nlt, i_nle] at *)
            grind [b2i]
  refine X_iconst (-1) 1 dX5_tooLoaded_0 (by decide) rfl ?_
  refine X_istnN 2 dX5_tooLoaded_1 rfl rfl rfl rfl ?_
  refine X_iconst 2 3 dX5_tooLoaded_2 (by decide) rfl ?_
  refine X_istnN 4 dX5_tooLoaded_3 rfl rfl rfl rfl ?_
  exact loop 3 0 rfl
theorem S_X5_goes {y : Int32} (hv : vXm σ) (hr : vRm σ) (hrow : ∀ k, k < rmM σ → ∃ t, t < 8 ∧ σ.1 46 k = nI t) (h : ∀ τ, smF σ τ → Q (some (.int (g_goes σ y))) τ) : xg_C (d + 4) mX5_goes [.ref 36, .int y] σ Q := by
  refine xg_C_of py_X5_goes (Nat.le_of_ble_eq_true rfl) ?_
  show xg_X none (d + 4) mX5_goes 0 [(0, .ref 36), (1, .int y)] [] σ Q
  obtain ⟨hc, hc8⟩ := hr
  have loop : ∀ n k, k + n = rmM σ → (∀ τ, smF σ τ → Q (some (.int (goK σ y n k))) τ) → ∀ lx, xg_X none (d + 4) mX5_goes 27 (lx ++ [(2, .int (nI k)), (0, .ref 36), (1, .int y)]) [] (trM σ k) Q := by
    intro n
    induction n with
    | zero =>
      intro k hk h lx
      obtain rfl : k = rmM σ := by omega
      have q := trM_sm hrow (rmM σ) (by omega)
      refine xg_sub (lw := [(2, .int (nI (rmM σ))), (0, .ref 36), (1, .int y)]) (fun q hq => List.mem_append_right _ hq) ?_
      refine X_ildn0 28 dX5_goes_27 rfl rfl ?_
      refine X_aldn1 29 dX5_goes_28 rfl rfl ?_
      refine X_getI 32 dX5_goes_29 fl_X5_78 rfl rfl ?_
      rw [smF_ne q (by decide)]
      refine X_icge 77 35 dX5_goes_32 (by decide) rfl (fun c32 => ?_) (fun c32 => ?_)
      · refine X_iconst (-1) 78 dX5_goes_77 (by decide) rfl ?_
        refine X_iret dX5_goes_78 rfl ?_
        exact h _ q
      · exact absurd (by rw [hc]; exact nI_le (Nat.le_refl _) (by omega)) c32
    | succ n ih =>
      intro k hk h lx
      obtain ⟨t, ht, et⟩ := hrow k (by omega)
      have q := trM_sm hrow k (by omega)
      have q1 := trM_sm hrow (k + 1) (by omega)
      have ea : xm_set (trM σ k) 42 t 2 = trM σ (k + 1) := by rw [trM, et, ixN_nI (by omega)]
      refine xg_sub (lw := [(2, .int (nI k)), (0, .ref 36), (1, .int y)]) (fun q hq => List.mem_append_right _ hq) ?_
      refine X_ildn0 28 dX5_goes_27 rfl rfl ?_
      refine X_aldn1 29 dX5_goes_28 rfl rfl ?_
      refine X_getI 32 dX5_goes_29 fl_X5_78 rfl rfl ?_
      rw [smF_ne q (by decide)]
      refine X_icge 77 35 dX5_goes_32 (by decide) rfl (fun c32 => ?_) (fun c32 => ?_)
      · have c32 := leq c32 hc (by omega) (by omega)
        omega
      · refine X_aldn1 36 dX5_goes_35 rfl rfl ?_
        refine X_getA 42 39 dX5_goes_36 fl_X5_35 rfl rfl ?_
        refine X_aldn1 40 dX5_goes_39 rfl rfl ?_
        refine X_getA 46 43 dX5_goes_40 fl_X5_48 rfl rfl ?_
        refine X_ildn0 44 dX5_goes_43 rfl rfl ?_
        refine X_ialk k 45 dX5_goes_44 rfl rfl rfl (show k < 8 by omega) ?_
        refine X_iconst 2 46 dX5_goes_45 (by decide) rfl ?_
        refine X_iask t 47 dX5_goes_46 rfl rfl (by rw [smF_ne q (by decide)]; exact et) (show t < 12 by omega) ?_
        rw [ea]
        refine X_aldn1 48 dX5_goes_47 rfl rfl ?_
        refine X_aldn1 49 dX5_goes_48 rfl rfl ?_
        refine X_getA 42 52 dX5_goes_49 fl_X5_35 rfl rfl ?_
        refine X_callV1 5 55 dX5_goes_52 cw_X5_235 zk_X5_tooLoaded ⟨rfl, rfl⟩ rfl rfl rfl (S_X5_tooLoaded (Or.inr rfl) (vXm_sm q1 hv) ?_)
        refine X_pu ?_
        refine X_istnN 56 dX5_goes_55 rfl rfl rfl rfl ?_
        refine X_ildn0 57 dX5_goes_56 rfl rfl ?_
        refine X_iconst (-1) 58 dX5_goes_57 (by decide) rfl ?_
        refine X_iceq 71 61 dX5_goes_58 (by decide) rfl (fun c58 => ?_) (fun c58 => ?_)
        · refine X_inc1 1 74 dX5_goes_71 (by decide) rfl rfl rfl ?_
          refine X_goto 27 dX5_goes_74 (by decide) ?_
          refine xg_lv (by rw [nI_succ]; rfl) (ih (k + 1) (by omega) (fun τ hτ => Qi (h τ hτ) ?_) [_])
          grind [goK]
        · refine X_ildn3 62 dX5_goes_61 rfl rfl ?_
          refine X_ifne 69 65 dX5_goes_62 (by decide) rfl (fun c62 => ?_) (fun c62 => ?_)
          · refine X_ildn0 70 dX5_goes_69 rfl rfl ?_
            refine X_iret dX5_goes_70 rfl ?_
            refine Qi (h _ q1) ?_
            grind [goK]
          · refine X_ildn1 66 dX5_goes_65 rfl rfl ?_
            refine X_goto 70 dX5_goes_66 (by decide) ?_
            refine X_iret dX5_goes_70 rfl ?_
            refine Qi (h _ q1) ?_
            grind [goK]
  refine X_ildn1 1 dX5_goes_0 rfl rfl ?_
  refine X_iconst 0 2 dX5_goes_1 (by decide) rfl ?_
  refine X_iconst 1 3 dX5_goes_2 (by decide) rfl ?_
  refine X_callS3 6 dX5_goes_3 cw_X5_87 zk_X5_in rfl rfl (S_X5_in ?_)
  refine X_pu ?_
  refine X_ifne 12 9 dX5_goes_6 (by decide) rfl (fun c6 => ?_) (fun c6 => ?_)
  · rw [b2i_n] at c6
    refine X_aldn0 13 dX5_goes_12 rfl rfl ?_
    refine X_getA 41 16 dX5_goes_13 fl_X5_32 rfl rfl ?_
    refine X_iconst 0 17 dX5_goes_16 (by decide) rfl ?_
    refine X_aldn0 18 dX5_goes_17 rfl rfl ?_
    refine X_getA 42 21 dX5_goes_18 fl_X5_35 rfl rfl ?_
    refine X_iconst 0 22 dX5_goes_21 (by decide) rfl ?_
    rw [show (0 : Int32) = nI 0 by decide]
    refine X_callS4 25 dX5_goes_22 cw_X5_218 zk_X5_copy rfl rfl (S_X5_copy (by decide) rfl rfl (by decide) (by decide) ?_)
    refine X_pn ?_
    refine X_iconst 0 26 dX5_goes_25 (by decide) rfl ?_
    refine X_istnN 27 dX5_goes_26 rfl rfl rfl rfl ?_
    refine loop (rmM σ) 0 (by omega) (fun τ hτ => Qi (h τ hτ) ?_) []
    grind [g_goes]
  · rw [b2i_0] at c6
    refine X_bipush (-3) 11 dX5_goes_9 (by decide) rfl ?_
    refine X_iret dX5_goes_11 rfl ?_
    refine Qi (h _ smF_rf) ?_
    grind [g_goes]
theorem S_X5_pricesIn {τ : xm_M} {n : Nat} (hv : vXm σ) (hm : vMm σ) (hτ : smF σ τ) (hn : miM σ + n ≤ 24) (h : ∀ τ, smF σ τ → Q (some (.int (prN σ n))) τ) : xg_C (d + 4) mX5_pricesIn [.ref 36, .int (nI (miM σ + n))] τ Q := by
  refine xg_C_of py_X5_pricesIn (Nat.le_of_ble_eq_true rfl) ?_
  show xg_X none (d + 4) mX5_pricesIn 0 [(0, .ref 36), (1, .int (nI (miM σ + n)))] [] τ Q
  have loop : ∀ j k, k + j = n → xg_X none (d + 4) mX5_pricesIn 13 [(0, .ref 36), (1, .int (nI (miM σ + n)))] [] (pnM σ k) Q := by
    intro j
    induction j with
    | zero =>
      intro k hk
      obtain rfl : k = n := by omega
      refine X_aldn0 14 dX5_pricesIn_13 rfl rfl ?_
      refine X_getA 42 17 dX5_pricesIn_14 fl_X5_35 rfl rfl ?_
      refine X_bipush 10 19 dX5_pricesIn_17 (by decide) rfl ?_
      refine X_ialk 10 20 dX5_pricesIn_19 rfl rfl (by decide) (by decide) ?_
      refine X_ildn1 21 dX5_pricesIn_20 rfl rfl ?_
      rw [pnM_10 hv hm]
      refine X_icge 35 24 dX5_pricesIn_21 (by decide) rfl (fun c21 => ?_) (fun c21 => ?_)
      · refine X_aldn0 36 dX5_pricesIn_35 rfl rfl ?_
        refine X_aldn0 37 dX5_pricesIn_36 rfl rfl ?_
        refine X_getA 42 40 dX5_pricesIn_37 fl_X5_35 rfl rfl ?_
        refine X_callV1 5 43 dX5_pricesIn_40 cw_X5_239 zk_X5_pricesOf ⟨rfl, rfl⟩ rfl rfl rfl (S_X5_pricesOf (Or.inr rfl) (vXm_sm (pnM_sm hv k) hv) ?_)
        refine X_pu ?_
        refine X_iret dX5_pricesIn_43 rfl ?_
        exact h _ (pnM_sm hv k)
      · exact absurd (nI_le (Nat.le_refl _) (by omega)) c21
    | succ j ih =>
      intro k hk
      refine X_aldn0 14 dX5_pricesIn_13 rfl rfl ?_
      refine X_getA 42 17 dX5_pricesIn_14 fl_X5_35 rfl rfl ?_
      refine X_bipush 10 19 dX5_pricesIn_17 (by decide) rfl ?_
      refine X_ialk 10 20 dX5_pricesIn_19 rfl rfl (by decide) (by decide) ?_
      refine X_ildn1 21 dX5_pricesIn_20 rfl rfl ?_
      rw [pnM_10 hv hm]
      refine X_icge 35 24 dX5_pricesIn_21 (by decide) rfl (fun c21 => ?_) (fun c21 => ?_)
      · have c21 := leq c21 (n := miM σ + n) rfl (by omega) (by omega)
        omega
      · refine X_aldn0 25 dX5_pricesIn_24 rfl rfl ?_
        refine X_aldn0 26 dX5_pricesIn_25 rfl rfl ?_
        refine X_getA 42 29 dX5_pricesIn_26 fl_X5_35 rfl rfl ?_
        refine X_callV1 5 32 dX5_pricesIn_29 cw_X5_228 zk_X5_pass ⟨rfl, rfl⟩ rfl rfl rfl (S_X5_pass (Or.inr rfl) (vXm_sm (pnM_sm hv k) hv) ?_)
        refine X_pn ?_
        refine X_goto 13 dX5_pricesIn_32 (by decide) ?_
        exact ih (k + 1) (by omega)
  refine X_aldn0 1 dX5_pricesIn_0 rfl rfl ?_
  refine X_getA 41 4 dX5_pricesIn_1 fl_X5_32 rfl rfl ?_
  refine X_iconst 0 5 dX5_pricesIn_4 (by decide) rfl ?_
  refine X_aldn0 6 dX5_pricesIn_5 rfl rfl ?_
  refine X_getA 42 9 dX5_pricesIn_6 fl_X5_35 rfl rfl ?_
  refine X_iconst 0 10 dX5_pricesIn_9 (by decide) rfl ?_
  rw [show (0 : Int32) = nI 0 by decide]
  refine X_callS4 13 dX5_pricesIn_10 cw_X5_218 zk_X5_copy rfl rfl (S_X5_copy (by decide) rfl rfl (by decide) (by decide) ?_)
  refine X_pn ?_
  exact xg_mm (smF_tr0 hτ).symm (loop n 0 (by omega))
theorem S_X5_price {x : Int32} (hv : vXm σ) (hm : vMm σ) (h : ∀ τ, smF σ τ → Q (some (.int (g_price σ x))) τ) : xg_C (d + 5) mX5_price [.ref 36, .int x] σ Q := by
  refine xg_C_of py_X5_price (Nat.le_of_ble_eq_true rfl) ?_
  show xg_X none (d + 5) mX5_price 0 [(0, .ref 36), (1, .int x)] [] σ Q
  have hm1 := hm.1
  have hm2 := hm.2
  have ex : inB x (σ.1 41 10) 24 = true → ∃ n, miM σ + n ≤ 24 ∧ x = nI (miM σ + n) := by
    intro c
    simp only [inB, Bool.and_eq_true, decide_eq_true_eq] at c
    rw [hm1] at c
    obtain ⟨i, hi, e⟩ := le_ex 24 (by decide) (by decide) (Int32.le_trans (nI_le (a := 0) (Nat.zero_le _) (by omega)) c.1) c.2
    have c1 := c.1
    rw [e] at c1
    have := (nI_leI (by omega) (by omega)).mp c1
    exact ⟨i - miM σ, by omega, by rw [e]; congr 1; omega⟩
  refine X_ildn1 1 dX5_price_0 rfl rfl ?_
  refine X_aldn0 2 dX5_price_1 rfl rfl ?_
  refine X_getA 41 5 dX5_price_2 fl_X5_32 rfl rfl ?_
  refine X_bipush 10 7 dX5_price_5 (by decide) rfl ?_
  refine X_ialk 10 8 dX5_price_7 rfl rfl (by decide) (by decide) ?_
  refine X_bipush 24 10 dX5_price_8 (by decide) rfl ?_
  refine X_callS3 13 dX5_price_10 cw_X5_87 zk_X5_in rfl rfl (S_X5_in ?_)
  refine X_pu ?_
  refine X_ifeq 24 16 dX5_price_13 (by decide) rfl (fun c13 => ?_) (fun c13 => ?_)
  · rw [b2i_0] at c13
    refine X_bipush (-3) 26 dX5_price_24 (by decide) rfl ?_
    refine X_iret dX5_price_26 rfl ?_
    refine Qi (h _ smF_rf) ?_
    grind [g_price]
  · rw [b2i_n] at c13
    obtain ⟨n, hn, rfl⟩ := ex c13
    have e : ixN (nI (miM σ + n)) - miM σ = n := by rw [ixN_nI (by omega)]; omega
    refine X_aldn0 17 dX5_price_16 rfl rfl ?_
    refine X_ildn1 18 dX5_price_17 rfl rfl ?_
    refine X_callV1 5 21 dX5_price_18 cw_X5_272 zk_X5_pricesIn ⟨rfl, rfl⟩ rfl rfl rfl (S_X5_pricesIn hv hm smF_rf hn (fun τ hτ => ?_))
    refine X_pu ?_
    refine X_goto 26 dX5_price_21 (by decide) ?_
    refine X_iret dX5_price_26 rfl ?_
    refine Qi (h _ hτ) ?_
    grind [g_price]
theorem S_X5_sell {y : Int32} (hv : vXm σ) (hm : vMm σ) (h : ∀ τ, smF σ τ → Q (some (.int (g_sell σ y))) τ) : xg_C (d + 5) mX5_sell [.ref 36, .int y] σ Q := by
  refine xg_C_of py_X5_sell (Nat.le_of_ble_eq_true rfl) ?_
  show xg_X none (d + 5) mX5_sell 0 [(0, .ref 36), (1, .int y)] [] σ Q
  have hm1 := hm.1
  have hm2 := hm.2
  have loop : inB y 0 1 = true → ∀ j k, k + j = 25 - miM σ → ∀ τ, smF σ τ → xg_X none (d + 5) mX5_sell 28 [(3, .int (nI (miM σ + k))), (2, .int (nI (miM σ + seM σ k))), (0, .ref 36), (1, .int y)] [] τ Q := by
    intro cy j
    induction j with
    | zero =>
      intro k hk τ hτ
      obtain rfl : k = 25 - miM σ := by omega
      have hl : miM σ + seM σ (25 - miM σ) ≤ 24 := by
        have := seM_le (σ := σ) (24 - miM σ)
        rw [show 24 - miM σ + 1 = 25 - miM σ by omega] at this
        omega
      refine X_ildn0 29 dX5_sell_28 rfl rfl ?_
      refine X_bipush 24 31 dX5_sell_29 (by decide) rfl ?_
      refine X_icgt 59 34 dX5_sell_31 (by decide) rfl (fun c31 => ?_) (fun c31 => ?_)
      · refine X_ildn3 60 dX5_sell_59 rfl rfl ?_
        refine X_ifne 67 63 dX5_sell_60 (by decide) rfl (fun c60 => ?_) (fun c60 => ?_)
        · refine X_aldn2 68 dX5_sell_67 rfl rfl ?_
          refine X_ildn1 69 dX5_sell_68 rfl rfl ?_
          refine X_callV1 5 72 dX5_sell_69 cw_X5_272 zk_X5_pricesIn ⟨rfl, rfl⟩ rfl rfl rfl (S_X5_pricesIn hv hm hτ hl (fun τ hτ => ?_))
          refine X_pu ?_
          refine X_iret dX5_sell_72 rfl ?_
          refine Qi (h _ hτ) ?_
          grind [g_sell]
        · refine X_ildn1 64 dX5_sell_63 rfl rfl ?_
          refine X_goto 72 dX5_sell_64 (by decide) ?_
          refine X_iret dX5_sell_72 rfl ?_
          refine Qi (h _ hτ) ?_
          grind [g_sell]
      · rw [show miM σ + (25 - miM σ) = 25 by omega] at c31
        exact absurd (by decide) c31
    | succ j ih =>
      intro k hk τ hτ
      have hl : miM σ + seM σ k ≤ 24 := by
        cases k with
        | zero => simp only [seM]; omega
        | succ k => have := seM_le (σ := σ) k; omega
      refine X_ildn0 29 dX5_sell_28 rfl rfl ?_
      refine X_bipush 24 31 dX5_sell_29 (by decide) rfl ?_
      refine X_icgt 59 34 dX5_sell_31 (by decide) rfl (fun c31 => ?_) (fun c31 => ?_)
      · exact absurd (nI_le (a := miM σ + k) (b := 24) (by omega) (by decide)) (by rw [i_nle]; exact c31)
      · refine X_aldn2 35 dX5_sell_34 rfl rfl ?_
        refine X_ildn0 36 dX5_sell_35 rfl rfl ?_
        refine X_callV1 5 39 dX5_sell_36 cw_X5_272 zk_X5_pricesIn ⟨rfl, rfl⟩ rfl rfl rfl (S_X5_pricesIn hv hm hτ (by omega) (fun τ hτ => ?_))
        refine X_pu ?_
        refine X_aldn2 40 dX5_sell_39 rfl rfl ?_
        refine X_ildn1 41 dX5_sell_40 rfl rfl ?_
        refine X_callV1 5 44 dX5_sell_41 cw_X5_272 zk_X5_pricesIn ⟨rfl, rfl⟩ rfl rfl rfl (S_X5_pricesIn hv hm hτ hl (fun τ hτ => ?_))
        refine X_pu ?_
        refine X_icle 51 47 dX5_sell_44 (by decide) rfl (fun c44 => ?_) (fun c44 => ?_)
        · refine X_ildn1 52 dX5_sell_51 rfl rfl ?_
          refine X_istn1 53 dX5_sell_52 rfl rfl rfl rfl ?_
          refine X_inc0 1 56 dX5_sell_53 (by decide) rfl rfl rfl ?_
          refine X_goto 28 dX5_sell_56 (by decide) ?_
          refine xg_lv ?_ (ih (k + 1) (by omega) _ hτ)
          rw [← nI_succ, seM, if_neg (by rw [i_nlt]; exact c44)]
          rfl
        · refine X_ildn0 48 dX5_sell_47 rfl rfl ?_
          refine X_goto 52 dX5_sell_48 (by decide) ?_
          refine X_istn1 53 dX5_sell_52 rfl rfl rfl rfl ?_
          refine X_inc0 1 56 dX5_sell_53 (by decide) rfl rfl rfl ?_
          refine X_goto 28 dX5_sell_56 (by decide) ?_
          refine xg_lv ?_ (ih (k + 1) (by omega) _ hτ)
          rw [← nI_succ, seM, if_pos (by rw [i_nle] at c44; exact c44)]
          rfl
  refine X_ildn1 1 dX5_sell_0 rfl rfl ?_
  refine X_iconst 0 2 dX5_sell_1 (by decide) rfl ?_
  refine X_iconst 1 3 dX5_sell_2 (by decide) rfl ?_
  refine X_callS3 6 dX5_sell_3 cw_X5_87 zk_X5_in rfl rfl (S_X5_in ?_)
  refine X_pu ?_
  refine X_ifne 12 9 dX5_sell_6 (by decide) rfl (fun c6 => ?_) (fun c6 => ?_)
  · rw [b2i_n] at c6
    refine X_aldn0 13 dX5_sell_12 rfl rfl ?_
    refine X_getA 41 16 dX5_sell_13 fl_X5_32 rfl rfl ?_
    refine X_bipush 10 18 dX5_sell_16 (by decide) rfl ?_
    refine X_ialk 10 19 dX5_sell_18 rfl rfl (by decide) (by decide) ?_
    refine X_istnN 20 dX5_sell_19 rfl rfl rfl rfl ?_
    refine X_aldn1 21 dX5_sell_20 rfl rfl ?_
    refine X_getA 41 24 dX5_sell_21 fl_X5_32 rfl rfl ?_
    refine X_bipush 10 26 dX5_sell_24 (by decide) rfl ?_
    refine X_ialk 10 27 dX5_sell_26 rfl rfl (by decide) (by decide) ?_
    refine X_istnN 28 dX5_sell_27 rfl rfl rfl rfl ?_
    refine xg_lv ?_ (loop c6 (25 - miM σ) 0 (by omega) σ smF_rf)
    rw [hm1]
    rfl
  · rw [b2i_0] at c6
    refine X_bipush (-3) 11 dX5_sell_9 (by decide) rfl ?_
    refine X_iret dX5_sell_11 rfl ?_
    refine Qi (h _ smF_rf) ?_
    grind [g_sell]
theorem S_X5_lootOf {t : Nat} {f : Int32} (ht : t < 8) (h : Q (some (.int (lotM σ t f))) σ) : xg_C (d + 3) mX5_lootOf [.ref 36, .int (nI t), .int f] σ Q := by
  refine xg_C_of py_X5_lootOf (Nat.le_of_ble_eq_true rfl) ?_
  show xg_X none (d + 3) mX5_lootOf 0 [(0, .ref 36), (1, .int (nI t)), (2, .int f)] [] σ Q
  refine X_iconst 3 1 dX5_lootOf_0 (by decide) rfl ?_
  refine X_aldn0 2 dX5_lootOf_1 rfl rfl ?_
  refine X_getA 37 5 dX5_lootOf_2 fl_X5_7 rfl rfl ?_
  refine X_iconst 4 6 dX5_lootOf_5 (by decide) rfl ?_
  refine X_ildn1 7 dX5_lootOf_6 rfl rfl ?_
  refine X_imul 8 dX5_lootOf_7 rfl ?_
  refine X_iconst 1 9 dX5_lootOf_8 (by decide) rfl ?_
  refine X_iadd 10 dX5_lootOf_9 rfl ?_
  refine X_ialk (4 * t + 1) 11 dX5_lootOf_10 rfl rfl (i41 t) (show 4 * t + 1 < 32 by omega) ?_
  refine X_imul 12 dX5_lootOf_11 rfl ?_
  refine X_aldn0 13 dX5_lootOf_12 rfl rfl ?_
  refine X_aldn0 14 dX5_lootOf_13 rfl rfl ?_
  refine X_getA 41 17 dX5_lootOf_14 fl_X5_32 rfl rfl ?_
  refine X_ildn1 18 dX5_lootOf_17 rfl rfl ?_
  refine X_callV2 5 21 dX5_lootOf_18 cw_X5_193 zk_X5_priceOf ⟨rfl, rfl⟩ rfl rfl rfl (S_X5_priceOf (Or.inl rfl) ht ?_)
  refine X_pu ?_
  refine X_isub 22 dX5_lootOf_21 rfl ?_
  refine X_istnN 23 dX5_lootOf_22 rfl rfl rfl rfl ?_
  refine X_aldn1 24 dX5_lootOf_23 rfl rfl ?_
  refine X_ildn2 25 dX5_lootOf_24 rfl rfl ?_
  refine X_callV1 5 28 dX5_lootOf_25 cw_X5_181 zk_X5_floorOf ⟨rfl, rfl⟩ rfl rfl rfl (S_X5_floorOf ht ?_)
  refine X_pu ?_
  refine X_ildn3 29 dX5_lootOf_28 rfl rfl ?_
  refine X_iceq 50 32 dX5_lootOf_29 (by decide) rfl (fun c29 => ?_) (fun c29 => ?_)
  · refine X_iconst 0 51 dX5_lootOf_50 (by decide) rfl ?_
    refine X_goto 55 dX5_lootOf_51 (by decide) ?_
    refine X_iret dX5_lootOf_55 rfl ?_
    refine Qi h ?_
    (try simp only [i_nlt, i_nle] at *)
    grind [lotM, b2i]
  · refine X_aldn1 33 dX5_lootOf_32 rfl rfl ?_
    refine X_getA 41 36 dX5_lootOf_33 fl_X5_32 rfl rfl ?_
    refine X_bipush 8 38 dX5_lootOf_36 (by decide) rfl ?_
    refine X_ialk 8 39 dX5_lootOf_38 rfl rfl (by decide) (by decide) ?_
    refine X_ildn2 40 dX5_lootOf_39 rfl rfl ?_
    refine X_callS2 43 dX5_lootOf_40 cw_X5_177 zk_X5_has rfl rfl (S_X5_has ?_)
    refine X_pu ?_
    refine X_ifne 50 46 dX5_lootOf_43 (by decide) rfl (fun c43 => ?_) (fun c43 => ?_)
    · refine X_iconst 0 51 dX5_lootOf_50 (by decide) rfl ?_
      refine X_goto 55 dX5_lootOf_51 (by decide) ?_
      refine X_iret dX5_lootOf_55 rfl ?_
      refine Qi h ?_
      (try simp only [i_nlt, i_nle] at *)
      grind [lotM, b2i]
    · refine X_ildn0 47 dX5_lootOf_46 rfl rfl ?_
      refine X_ifge 54 50 dX5_lootOf_47 (by decide) rfl (fun c47 => ?_) (fun c47 => ?_)
      · refine X_ildn0 55 dX5_lootOf_54 rfl rfl ?_
        refine X_iret dX5_lootOf_55 rfl ?_
        refine Qi h ?_
        (try simp only [i_nlt, i_nle] at *)
        grind [lotM, b2i]
      · refine X_iconst 0 51 dX5_lootOf_50 (by decide) rfl ?_
        refine X_goto 55 dX5_lootOf_51 (by decide) ?_
        refine X_iret dX5_lootOf_55 rfl ?_
        refine Qi h ?_
        (try simp only [i_nlt, i_nle] at *)
        grind [lotM, b2i]
end REF5

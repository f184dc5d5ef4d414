/-! deeds -/
def pdX (σ : xm_M) (i : Nat) : Nat := (σ.1 18 i).toNatClampNeg
def pcX (σ : xm_M) : Nat := (σ.1 0 6).toNatClampNeg
def vPa (σ : xm_M) : Prop := (∀ i, i < 8 → σ.1 18 i = nI (pdX σ i) ∧ 26 ≤ pdX σ i ∧ pdX σ i ≤ 33) ∧ σ.1 0 6 = nI (pcX σ) ∧ pcX σ ≤ 8
def vKp (σ : xm_M) : Prop := σ.1 19 0 = nI 34 ∧ σ.1 19 1 = nI 35
theorem vX_of {σ τ : xm_M} (h : τ.1 1 = σ.1 1) (hv : vX σ) : vX τ := by unfold vX nX at *; rw [h]; exact hv
theorem vH_of {σ τ : xm_M} (h : τ.1 1 = σ.1 1) (hv : vH σ) : vH τ := by unfold vH wX cX at *; rw [h]; exact hv
/-- the rows of past, turned by one -/
def rotX (σ : xm_M) (n : Nat) : xm_M := (fun a k => if a = 18 ∧ k + 1 < n then σ.1 18 (k + 1) else σ.1 a k, σ.2)
def rotA (σ : xm_M) : xm_M := if 8 ≤ σ.1 0 6 then xm_set (xm_set (rotX σ 8) 18 7 (σ.1 18 0)) 0 6 7 else σ
def remX (σ : xm_M) : xm_M := xm_set (dcp (rotA σ) (pdX (rotA σ) (pcX (rotA σ))) 16) 0 6 ((rotA σ).1 0 6 + 1)
theorem rotX_ne {σ : xm_M} {n a : Nat} (h : a ≠ 18) : (rotX σ n).1 a = σ.1 a := by funext k; exact if_neg (fun e => h e.1)
theorem rotA_ne {σ : xm_M} {a : Nat} (h : a ≠ 18) (h0 : a ≠ 0) : (rotA σ).1 a = σ.1 a := by
  unfold rotA
  split
  · funext k
    rw [xs_ne h0, xs_ne h, rotX_ne h]
  · rfl
theorem dcp_ne {σ : xm_M} {a b c : Nat} (h : c ≠ a) : (dcp σ a b).1 c = σ.1 c := by funext k; exact if_neg h
theorem rotA_pa {σ : xm_M} (h : vPa σ) : vPa (rotA σ) ∧ pcX (rotA σ) < 8 := by
  obtain ⟨h1, h2, h3⟩ := h
  unfold rotA
  split
  · rename_i c
    have e : ∀ i, i < 8 → (xm_set (xm_set (rotX σ 8) 18 7 (σ.1 18 0)) 0 6 7).1 18 i = σ.1 18 (if i = 7 then 0 else i + 1) := by
      intro i hi
      rw [xs_ne (by decide)]
      by_cases e7 : i = 7
      · subst e7; rw [xs_eq, if_pos rfl]
      · rw [xs_nk e7, if_neg e7]
        exact if_pos ⟨rfl, by omega⟩
    refine ⟨⟨fun i hi => ?_, ?_, ?_⟩, ?_⟩
    · have := h1 (if i = 7 then 0 else i + 1) (by split <;> omega)
      unfold pdX at *
      rw [e i hi]
      exact this
    · unfold pcX; rw [xs_eq]; decide
    · unfold pcX; rw [xs_eq]; decide
    · unfold pcX; rw [xs_eq]; decide
  · rename_i c
    refine ⟨⟨h1, h2, h3⟩, ?_⟩
    rw [h2, i_nle] at c
    exact (nI_ltI (by omega) (by decide)).mp c
theorem remX_ne {σ : xm_M} (h : vPa σ) {a : Nat} (h0 : a ≠ 0) (h18 : a ≠ 18) (hd : ¬ (26 ≤ a ∧ a ≤ 33)) : (remX σ).1 a = σ.1 a := by
  obtain ⟨⟨h1, h2, h3⟩, h4⟩ := rotA_pa h
  have := h1 _ h4
  unfold remX
  funext k
  rw [xs_ne h0, dcp_ne (by omega), rotA_ne h18 h0]
section GT2
variable {d : Nat} {σ : xm_M} {Q : Option Value → xm_M → Prop}
theorem S_X4_remember (hv : vPa σ) (h : Q none (remX σ)) : xg_C (d + 1) mX4_remember [.ref 0] σ Q := by
  refine xg_C_of py_X4_remember (Nat.le_of_ble_eq_true rfl) ?_
  show xg_X none (d + 1) mX4_remember 0 [(0, .ref 0)] [] σ Q
  have hva := rotA_pa hv
  have hv1 := hv.1
  have tail : xg_X none (d + 1) mX4_remember 58 [(0, .ref 0)] [] (rotA σ) Q := by
    obtain ⟨⟨h1, h2, h3⟩, h4⟩ := hva
    have h5 := h1 _ h4
    refine X_aldn0 59 dX4_remember_58 rfl rfl ?_
    refine X_getA 18 62 dX4_remember_59 fl_X4_36 rfl rfl ?_
    refine X_aldn0 63 dX4_remember_62 rfl rfl ?_
    refine X_getI 66 dX4_remember_63 fl_X4_169 rfl rfl ?_
    refine X_aalk (pcX (rotA σ)) (pdX (rotA σ) (pcX (rotA σ))) 67 dX4_remember_66 rfl rfl h2 (show pcX (rotA σ) < 8 from h4) h5.1 (by omega) ?_
    refine X_aldn0 68 dX4_remember_67 rfl rfl ?_
    refine X_getA 16 71 dX4_remember_68 fl_X4_29 rfl rfl ?_
    refine X_callV1 1 74 dX4_remember_71 cw_X4_172 zk_X1_copyFrom ⟨rfl, rfl⟩ (oc_day (Or.inr (Or.inr ⟨h5.2.1, by omega⟩))) rfl rfl (S_X1_copyFrom (Or.inr (Or.inr ⟨h5.2.1, by omega⟩)) (Or.inl rfl) (by omega) ?_)
    refine X_pn ?_
    refine X_aldn0 75 dX4_remember_74 rfl rfl ?_
    refine X_dup 76 dX4_remember_75 rfl rfl ?_
    refine X_getI 79 dX4_remember_76 fl_X4_169 rfl rfl ?_
    refine X_iconst 1 80 dX4_remember_79 (by decide) rfl ?_
    refine X_iadd 81 dX4_remember_80 rfl ?_
    refine X_putI 84 dX4_remember_81 fp_X4_169 rfl rfl ?_
    refine X_vret dX4_remember_84 rfl ?_
    rw [dcp_ne (by omega)]
    exact h
  have big : 8 ≤ σ.1 0 6 → ∀ k i, i + k = 8 → 1 ≤ i → xg_X none (d + 1) mX4_remember 18 [(2, .int (nI i)), (1, .ref (pdX σ 0)), (0, .ref 0)] [] (rotX σ i) Q := by
    intro c8 k
    induction k with
    | zero =>
      intro i hi h1
      obtain rfl : i = 8 := by omega
      have h0 := hv1 0 (by decide)
      refine X_ildn0 19 dX4_remember_18 rfl rfl ?_
      refine X_bipush 8 21 dX4_remember_19 (by decide) rfl ?_
      refine X_icge 44 24 dX4_remember_21 (by decide) rfl (fun c21 => ?_) (fun c21 => ?_)
      · refine X_aldn2 45 dX4_remember_44 rfl rfl ?_
        refine X_getA 18 48 dX4_remember_45 fl_X4_36 rfl rfl ?_
        refine X_bipush 7 50 dX4_remember_48 (by decide) rfl ?_
        refine X_aldn1 51 dX4_remember_50 rfl rfl ?_
        refine X_aask 7 52 dX4_remember_51 rfl ⟨by omega, (isD_cl (Or.inr (Or.inr ⟨h0.2.1, by omega⟩))).2.1⟩ rfl (by decide) (by decide) ?_
        refine X_aldn2 53 dX4_remember_52 rfl rfl ?_
        refine X_bipush 7 55 dX4_remember_53 (by decide) rfl ?_
        refine X_putI 58 dX4_remember_55 fp_X4_169 rfl rfl ?_
        refine X_drop (X_drop (xg_mm ?_ tail))
        rw [rotA, if_pos c8, h0.1]
      · exact absurd (by decide) c21
    | succ k ih =>
      intro i hi h1
      have h0 := hv1 i (by omega)
      refine X_ildn0 19 dX4_remember_18 rfl rfl ?_
      refine X_bipush 8 21 dX4_remember_19 (by decide) rfl ?_
      refine X_icge 44 24 dX4_remember_21 (by decide) rfl (fun c21 => ?_) (fun c21 => ?_)
      · have c21 := leq c21 (n := 8) (by decide) (by decide) (by omega)
        omega
      · refine X_aldn2 25 dX4_remember_24 rfl rfl ?_
        refine X_getA 18 28 dX4_remember_25 fl_X4_36 rfl rfl ?_
        refine X_ildn0 29 dX4_remember_28 rfl rfl ?_
        refine X_iconst 1 30 dX4_remember_29 (by decide) rfl ?_
        refine X_isub 31 dX4_remember_30 rfl ?_
        refine X_aldn2 32 dX4_remember_31 rfl rfl ?_
        refine X_getA 18 35 dX4_remember_32 fl_X4_36 rfl rfl ?_
        refine X_ildn0 36 dX4_remember_35 rfl rfl ?_
        refine X_aalk i (pdX σ i) 37 dX4_remember_36 rfl rfl rfl (show i < 8 by omega) ((if_neg (fun e => by omega)).trans h0.1) (by omega) ?_
        refine X_aask (i - 1) 38 dX4_remember_37 rfl ⟨by omega, (isD_cl (Or.inr (Or.inr ⟨h0.2.1, by omega⟩))).2.1⟩ rfl (by rw [show (1 : Int32) = nI 1 by decide, pk_sub h1]) (show i - 1 < 8 by omega) ?_
        refine X_inc0 1 41 dX4_remember_38 (by decide) rfl rfl rfl ?_
        refine X_goto 18 dX4_remember_41 (by decide) ?_
        refine xg_lv (by simp [nI_succ]) (xg_mm ?_ (ih (i + 1) (by omega) (by omega)))
        apply Prod.ext
        · funext a k
          simp only [rotX, xm_set]
          by_cases e : a = 18 ∧ k = i - 1
          · rw [if_pos e, if_pos ⟨e.1, by omega⟩, e.2, show i - 1 + 1 = i by omega, h0.1]
          · rw [if_neg e]
            by_cases e2 : a = 18 ∧ k + 1 < i
            · rw [if_pos e2, if_pos ⟨e2.1, by omega⟩]
            · rw [if_neg e2, if_neg (fun q => by omega)]
        · rfl
  refine X_aldn0 1 dX4_remember_0 rfl rfl ?_
  refine X_getI 4 dX4_remember_1 fl_X4_169 rfl rfl ?_
  refine X_bipush 8 6 dX4_remember_4 (by decide) rfl ?_
  refine X_iclt 58 9 dX4_remember_6 (by decide) rfl (fun c6 => ?_) (fun c6 => ?_)
  · refine xg_mm ?_ tail
    rw [rotA, if_neg (by rw [i_nle]; exact c6)]
  · have h0 := hv1 0 (by decide)
    refine X_aldn0 10 dX4_remember_9 rfl rfl ?_
    refine X_getA 18 13 dX4_remember_10 fl_X4_36 rfl rfl ?_
    refine X_iconst 0 14 dX4_remember_13 (by decide) rfl ?_
    refine X_aalk 0 (pdX σ 0) 15 dX4_remember_14 rfl rfl (by decide) (by decide) h0.1 (by omega) ?_
    refine X_astnN 16 dX4_remember_15 rfl rfl rfl rfl ?_
    refine X_iconst 1 17 dX4_remember_16 (by decide) rfl ?_
    refine X_istnN 18 dX4_remember_17 rfl rfl rfl rfl ?_
    refine xg_mm ?_ (big (by rw [i_nlt] at c6; exact c6) 7 1 rfl (by omega))
    apply Prod.ext
    · funext a k
      exact if_neg (fun e => by omega)
    · rfl
end GT2

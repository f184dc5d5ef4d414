/-! deeds -/
def pdX (σ : xm_M) (i : Nat) : Nat := (σ.1 18 i).toNatClampNeg
def pcX (σ : xm_M) : Nat := (σ.1 0 6).toNatClampNeg
def vPa (σ : xm_M) : Prop := (∀ i, i < 8 → σ.1 18 i = nI (pdX σ i) ∧ 26 ≤ pdX σ i ∧ pdX σ i ≤ 33) ∧ σ.1 0 6 = nI (pcX σ) ∧ pcX σ ≤ 8
def vKp (σ : xm_M) : Prop := σ.1 19 0 = nI 34 ∧ σ.1 19 1 = nI 35
theorem vX_of {σ τ : xm_M} (h : τ.1 1 = σ.1 1) (hv : vX σ) : vX τ := by unfold vX nX at *; rw [h]; exact hv
theorem vH_of {σ τ : xm_M} (h : τ.1 1 = σ.1 1) (hv : vH σ) : vH τ := by unfold vH wX cX at *; rw [h]; exact hv
/-- the rows of past, turned by one -/
def rotX (σ : xm_M) (n : Nat) : xm_M := (fun a k => if a = 18 ∧ k + 1 < n then σ.1 18 (k + 1) else σ.1 a k, σ.2)
def rotA (σ : xm_M) : xm_M := if 8 ≤ σ.1 0 6 then xm_set (xm_set (rotX σ 8) 18 7 (σ.1 18 0)) 0 6 7 else σ
def remX (σ : xm_M) : xm_M := xm_set (dcp (rotA σ) (pdX (rotA σ) (pcX (rotA σ))) 16) 0 6 ((rotA σ).1 0 6 + 1)
theorem rotX_ne {σ : xm_M} {n a : Nat} (h : a ≠ 18) : (rotX σ n).1 a = σ.1 a := by funext k; exact if_neg (fun e => h e.1)
theorem rotA_ne {σ : xm_M} {a : Nat} (h : a ≠ 18) (h0 : a ≠ 0) : (rotA σ).1 a = σ.1 a := by
  unfold rotA
  split
  · funext k
    rw [xs_ne h0, xs_ne h, rotX_ne h]
  · rfl
theorem dcp_ne {σ : xm_M} {a b c : Nat} (h : c ≠ a) : (dcp σ a b).1 c = σ.1 c := by funext k; exact if_neg h
theorem rotA_pa {σ : xm_M} (h : vPa σ) : vPa (rotA σ) ∧ pcX (rotA σ) < 8 := by
  obtain ⟨h1, h2, h3⟩ := h
  unfold rotA
  split
  · rename_i c
    have e : ∀ i, i < 8 → (xm_set (xm_set (rotX σ 8) 18 7 (σ.1 18 0)) 0 6 7).1 18 i = σ.1 18 (if i = 7 then 0 else i + 1) := by
      intro i hi
      rw [xs_ne (by decide)]
      by_cases e7 : i = 7
      · subst e7; rw [xs_eq, if_pos rfl]
      · rw [xs_nk e7, if_neg e7]
        exact if_pos ⟨rfl, by omega⟩
    refine ⟨⟨fun i hi => ?_, ?_, ?_⟩, ?_⟩
    · have := h1 (if i = 7 then 0 else i + 1) (by split <;> omega)
      unfold pdX at *
      rw [e i hi]
      exact this
    · unfold pcX; rw [xs_eq]; decide
    · unfold pcX; rw [xs_eq]; decide
    · unfold pcX; rw [xs_eq]; decide
  · rename_i c
    refine ⟨⟨h1, h2, h3⟩, ?_⟩
    rw [h2, i_nle] at c
    exact (nI_ltI (by omega) (by decide)).mp c
theorem remX_ne {σ : xm_M} (h : vPa σ) {a : Nat} (h0 : a ≠ 0) (h18 : a ≠ 18) (hd : ¬ (26 ≤ a ∧ a ≤ 33)) : (remX σ).1 a = σ.1 a := by
  obtain ⟨⟨h1, h2, h3⟩, h4⟩ := rotA_pa h
  have := h1 _ h4
  unfold remX
  funext k
  rw [xs_ne h0, dcp_ne (by omega), rotA_ne h18 h0]
section GT2
variable {d : Nat} {σ : xm_M} {Q : Option Value → xm_M → Prop}
theorem S_X4_remember (hv : vPa σ) (h : Q none (remX σ)) : xg_C (d + 1) mX4_remember [.ref 0] σ Q := by
  refine xg_C_of py_X4_remember (Nat.le_of_ble_eq_true rfl) ?_
  show xg_X none (d + 1) mX4_remember 0 [(0, .ref 0)] [] σ Q
  have hva := rotA_pa hv
  have hv1 := hv.1
  have tail : xg_X none (d + 1) mX4_remember 58 [(0, .ref 0)] [] (rotA σ) Q := by
    obtain ⟨⟨h1, h2, h3⟩, h4⟩ := hva
    have h5 := h1 _ h4
    refine X_aldn0 59 dX4_remember_58 rfl rfl ?_
    refine X_getA 18 62 dX4_remember_59 fl_X4_36 rfl rfl ?_
    refine X_aldn0 63 dX4_remember_62 rfl rfl ?_
    refine X_getI 66 dX4_remember_63 fl_X4_169 rfl rfl ?_
    refine X_aalk (pcX (rotA σ)) (pdX (rotA σ) (pcX (rotA σ))) 67 dX4_remember_66 rfl rfl h2 (show pcX (rotA σ) < 8 from h4) h5.1 (by omega) ?_
    refine X_aldn0 68 dX4_remember_67 rfl rfl ?_
    refine X_getA 16 71 dX4_remember_68 fl_X4_29 rfl rfl ?_
    refine X_callV1 1 74 dX4_remember_71 cw_X4_172 zk_X1_copyFrom ⟨rfl, rfl⟩ (oc_day (Or.inr (Or.inr ⟨h5.2.1, by omega⟩))) rfl rfl (S_X1_copyFrom (Or.inr (Or.inr ⟨h5.2.1, by omega⟩)) (Or.inl rfl) (by omega) ?_)
    refine X_pn ?_
    refine X_aldn0 75 dX4_remember_74 rfl rfl ?_
    refine X_dup 76 dX4_remember_75 rfl rfl ?_
    refine X_getI 79 dX4_remember_76 fl_X4_169 rfl rfl ?_
    refine X_iconst 1 80 dX4_remember_79 (by decide) rfl ?_
    refine X_iadd 81 dX4_remember_80 rfl ?_
    refine X_putI 84 dX4_remember_81 fp_X4_169 rfl rfl ?_
    refine X_vret dX4_remember_84 rfl ?_
    rw [dcp_ne (by omega)]
    exact h
  have big : 8 ≤ σ.1 0 6 → ∀ k i, i + k = 8 → 1 ≤ i → xg_X none (d + 1) mX4_remember 18 [(2, .int (nI i)), (1, .ref (pdX σ 0)), (0, .ref 0)] [] (rotX σ i) Q := by
    intro c8 k
    induction k with
    | zero =>
      intro i hi h1
      obtain rfl : i = 8 := by omega
      have h0 := hv1 0 (by decide)
      refine X_ildn0 19 dX4_remember_18 rfl rfl ?_
      refine X_bipush 8 21 dX4_remember_19 (by decide) rfl ?_
      refine X_icge 44 24 dX4_remember_21 (by decide) rfl (fun c21 => ?_) (fun c21 => ?_)
      · refine X_aldn2 45 dX4_remember_44 rfl rfl ?_
        refine X_getA 18 48 dX4_remember_45 fl_X4_36 rfl rfl ?_
        refine X_bipush 7 50 dX4_remember_48 (by decide) rfl ?_
        refine X_aldn1 51 dX4_remember_50 rfl rfl ?_
        refine X_aask 7 52 dX4_remember_51 rfl ⟨by omega, (isD_cl (Or.inr (Or.inr ⟨h0.2.1, by omega⟩))).2.1⟩ rfl (by decide) (by decide) ?_
        refine X_aldn2 53 dX4_remember_52 rfl rfl ?_
        refine X_bipush 7 55 dX4_remember_53 (by decide) rfl ?_
        refine X_putI 58 dX4_remember_55 fp_X4_169 rfl rfl ?_
        refine X_drop (X_drop (xg_mm ?_ tail))
        rw [rotA, if_pos c8, h0.1]
      · exact absurd (by decide) c21
    | succ k ih =>
      intro i hi h1
      have h0 := hv1 i (by omega)
      refine X_ildn0 19 dX4_remember_18 rfl rfl ?_
      refine X_bipush 8 21 dX4_remember_19 (by decide) rfl ?_
      refine X_icge 44 24 dX4_remember_21 (by decide) rfl (fun c21 => ?_) (fun c21 => ?_)
      · have c21 := leq c21 (n := 8) (by decide) (by decide) (by omega)
        omega
      · refine X_aldn2 25 dX4_remember_24 rfl rfl ?_
        refine X_getA 18 28 dX4_remember_25 fl_X4_36 rfl rfl ?_
        refine X_ildn0 29 dX4_remember_28 rfl rfl ?_
        refine X_iconst 1 30 dX4_remember_29 (by decide) rfl ?_
        refine X_isub 31 dX4_remember_30 rfl ?_
        refine X_aldn2 32 dX4_remember_31 rfl rfl ?_
        refine X_getA 18 35 dX4_remember_32 fl_X4_36 rfl rfl ?_
        refine X_ildn0 36 dX4_remember_35 rfl rfl ?_
        refine X_aalk i (pdX σ i) 37 dX4_remember_36 rfl rfl rfl (show i < 8 by omega) ((if_neg (fun e => by omega)).trans h0.1) (by omega) ?_
        refine X_aask (i - 1) 38 dX4_remember_37 rfl ⟨by omega, (isD_cl (Or.inr (Or.inr ⟨h0.2.1, by omega⟩))).2.1⟩ rfl (by rw [show (1 : Int32) = nI 1 by decide, pk_sub h1]) (show i - 1 < 8 by omega) ?_
        refine X_inc0 1 41 dX4_remember_38 (by decide) rfl rfl rfl ?_
        refine X_goto 18 dX4_remember_41 (by decide) ?_
        refine xg_lv (by simp [nI_succ]) (xg_mm ?_ (ih (i + 1) (by omega) (by omega)))
        apply Prod.ext
        · funext a k
          simp only [rotX, xm_set]
          by_cases e : a = 18 ∧ k = i - 1
          · rw [if_pos e, if_pos ⟨e.1, by omega⟩, e.2, show i - 1 + 1 = i by omega, h0.1]
          · rw [if_neg e]
            by_cases e2 : a = 18 ∧ k + 1 < i
            · rw [if_pos e2, if_pos ⟨e2.1, by omega⟩]
            · rw [if_neg e2, if_neg (fun q => by omega)]
        · rfl
  refine X_aldn0 1 dX4_remember_0 rfl rfl ?_
  refine X_getI 4 dX4_remember_1 fl_X4_169 rfl rfl ?_
  refine X_bipush 8 6 dX4_remember_4 (by decide) rfl ?_
  refine X_iclt 58 9 dX4_remember_6 (by decide) rfl (fun c6 => ?_) (fun c6 => ?_)
  · refine xg_mm ?_ tail
    rw [rotA, if_neg (by rw [i_nle]; exact c6)]
  · have h0 := hv1 0 (by decide)
    refine X_aldn0 10 dX4_remember_9 rfl rfl ?_
    refine X_getA 18 13 dX4_remember_10 fl_X4_36 rfl rfl ?_
    refine X_iconst 0 14 dX4_remember_13 (by decide) rfl ?_
    refine X_aalk 0 (pdX σ 0) 15 dX4_remember_14 rfl rfl (by decide) (by decide) h0.1 (by omega) ?_
    refine X_astnN 16 dX4_remember_15 rfl rfl rfl rfl ?_
    refine X_iconst 1 17 dX4_remember_16 (by decide) rfl ?_
    refine X_istnN 18 dX4_remember_17 rfl rfl rfl rfl ?_
    refine xg_mm ?_ (big (by rw [i_nlt] at c6; exact c6) 7 1 rfl (by omega))
    apply Prod.ext
    · funext a k
      exact if_neg (fun e => by omega)
    · rfl
theorem S_X4_startDay (h : Q none (xm_set (xm_set (xm_set (xm_set (xm_set (xm_set (xm_set (xm_set (xm_set (xm_set (xm_set σ 16 0 0) 16 1 0) 16 2 0) 16 3 0) 16 4 0) 16 5 0) 0 6 0) 0 8 0) 0 10 0) 0 11 0) 0 16 0)) : xg_C (d + 1) mX4_startDay [.ref 0] σ Q := by
  refine xg_C_of py_X4_startDay (Nat.le_of_ble_eq_true rfl) ?_
  show xg_X none (d + 1) mX4_startDay 0 [(0, .ref 0)] [] σ Q
  refine X_aldn0 1 dX4_startDay_0 rfl rfl ?_
  refine X_getA 16 4 dX4_startDay_1 fl_X4_29 rfl rfl ?_
  refine X_callV0 1 7 dX4_startDay_4 cw_X4_260 zk_X1_clear ⟨rfl, rfl⟩ rfl rfl rfl (S_X1_clear (Or.inl rfl) ?_)
  refine X_pn ?_
  refine X_aldn0 8 dX4_startDay_7 rfl rfl ?_
  refine X_iconst 0 9 dX4_startDay_8 (by decide) rfl ?_
  refine X_putI 12 dX4_startDay_9 fp_X4_169 rfl rfl ?_
  refine X_aldn0 13 dX4_startDay_12 rfl rfl ?_
  refine X_iconst 0 14 dX4_startDay_13 (by decide) rfl ?_
  refine X_putI 17 dX4_startDay_14 fp_X4_175 rfl rfl ?_
  refine X_aldn0 18 dX4_startDay_17 rfl rfl ?_
  refine X_iconst 0 19 dX4_startDay_18 (by decide) rfl ?_
  refine X_putI 22 dX4_startDay_19 fp_X4_194 rfl rfl ?_
  refine X_aldn0 23 dX4_startDay_22 rfl rfl ?_
  refine X_iconst 0 24 dX4_startDay_23 (by decide) rfl ?_
  refine X_putI 27 dX4_startDay_24 fp_X4_133 rfl rfl ?_
  refine X_aldn0 28 dX4_startDay_27 rfl rfl ?_
  refine X_iconst 0 29 dX4_startDay_28 (by decide) rfl ?_
  refine X_putI 32 dX4_startDay_29 fp_X4_221 rfl rfl ?_
  refine X_vret dX4_startDay_32 rfl ?_
  exact h
/-- a tool that serves -/
def svX (σ : xm_M) (t i : Nat) : Bool := decide (σ.1 2 t = 1) && (decide (σ.1 5 t = σ.1 5 i) && !loX σ 16 t)
theorem S_X4_servesAsTool {t i : Nat} (ht : t < 8) (hi : i < 8) (h : Q (some (.int (b2i (svX σ t i)))) σ) : xg_C (d + 2) mX4_servesAsTool [.ref 0, .int (nI t), .int (nI i)] σ Q := by
  refine xg_C_of py_X4_servesAsTool (Nat.le_of_ble_eq_true rfl) ?_
  show xg_X none (d + 2) mX4_servesAsTool 0 [(0, .ref 0), (1, .int (nI t)), (2, .int (nI i))] [] σ Q
  refine X_aldn0 1 dX4_servesAsTool_0 rfl rfl ?_
  refine X_getA 1 4 dX4_servesAsTool_1 fl_X4_10 rfl rfl ?_
  refine X_getA 2 7 dX4_servesAsTool_4 fl_X4_88 rfl rfl ?_
  refine X_ildn1 8 dX4_servesAsTool_7 rfl rfl ?_
  refine X_ialk t 9 dX4_servesAsTool_8 rfl rfl rfl (show t < 8 by omega) ?_
  refine X_iconst 1 10 dX4_servesAsTool_9 (by decide) rfl ?_
  refine X_icne 53 13 dX4_servesAsTool_10 (by decide) rfl (fun c10 => ?_) (fun c10 => ?_)
  · refine X_iconst 0 54 dX4_servesAsTool_53 (by decide) rfl ?_
    refine X_zret dX4_servesAsTool_54 rfl (by first | exact Or.inl rfl | exact Or.inr rfl) ?_
    refine Qi h ?_
    grind [svX, b2i]
  · refine X_aldn0 14 dX4_servesAsTool_13 rfl rfl ?_
    refine X_getA 1 17 dX4_servesAsTool_14 fl_X4_10 rfl rfl ?_
    refine X_getA 5 20 dX4_servesAsTool_17 fl_X4_97 rfl rfl ?_
    refine X_ildn1 21 dX4_servesAsTool_20 rfl rfl ?_
    refine X_ialk t 22 dX4_servesAsTool_21 rfl rfl rfl (show t < 8 by omega) ?_
    refine X_aldn0 23 dX4_servesAsTool_22 rfl rfl ?_
    refine X_getA 1 26 dX4_servesAsTool_23 fl_X4_10 rfl rfl ?_
    refine X_getA 5 29 dX4_servesAsTool_26 fl_X4_97 rfl rfl ?_
    refine X_ildn2 30 dX4_servesAsTool_29 rfl rfl ?_
    refine X_ialk i 31 dX4_servesAsTool_30 rfl rfl rfl (show i < 8 by omega) ?_
    refine X_icne 53 34 dX4_servesAsTool_31 (by decide) rfl (fun c31 => ?_) (fun c31 => ?_)
    · refine X_iconst 0 54 dX4_servesAsTool_53 (by decide) rfl ?_
      refine X_zret dX4_servesAsTool_54 rfl (by first | exact Or.inl rfl | exact Or.inr rfl) ?_
      refine Qi h ?_
      grind [svX, b2i]
    · refine X_aldn0 35 dX4_servesAsTool_34 rfl rfl ?_
      refine X_getA 16 38 dX4_servesAsTool_35 fl_X4_29 rfl rfl ?_
      refine X_aldn0 39 dX4_servesAsTool_38 rfl rfl ?_
      refine X_getA 1 42 dX4_servesAsTool_39 fl_X4_10 rfl rfl ?_
      refine X_ildn1 43 dX4_servesAsTool_42 rfl rfl ?_
      refine X_callV2 1 46 dX4_servesAsTool_43 cw_X4_146 zk_X1_isLost ⟨rfl, rfl⟩ rfl rfl rfl (S_X1_isLost (Or.inl rfl) ht ?_)
      refine X_pu ?_
      refine X_ifne 53 49 dX4_servesAsTool_46 (by decide) rfl (fun c46 => ?_) (fun c46 => ?_)
      · refine X_iconst 0 54 dX4_servesAsTool_53 (by decide) rfl ?_
        refine X_zret dX4_servesAsTool_54 rfl (by first | exact Or.inl rfl | exact Or.inr rfl) ?_
        refine Qi h ?_
        grind [svX, b2i]
      · refine X_iconst 1 50 dX4_servesAsTool_49 (by decide) rfl ?_
        refine X_goto 54 dX4_servesAsTool_50 (by decide) ?_
        refine X_zret dX4_servesAsTool_54 rfl (by first | exact Or.inl rfl | exact Or.inr rfl) ?_
        refine Qi h ?_
        grind [svX, b2i]
theorem gldX_ne {σ : xm_M} {a c : Nat} {x : Int32} (h : c ≠ a) : (gldX σ a x).1 c = σ.1 c := by
  unfold gldX
  split
  · rfl
  · split
    · funext k; exact xs_ne h
    · funext k; rw [xs_ne h, xs_ne h]
theorem pasX_ne {σ : xm_M} {a c : Nat} (h : c ≠ a) : (pasX σ a).1 c = σ.1 c := by
  unfold pasX
  split
  · funext k; rw [xs_ne h, xs_ne h, xs_ne h]
  · funext k; rw [xs_ne h, xs_ne h]
/-- a touch: the answer, and what is left -/
def tchX (σ : xm_M) (x : Int32) : Int32 × xm_M := (vG ((gldX (remX σ) 16 x).1 16 3) ((gldX (remX σ) 16 x).1 16 2) x, pasX (gldX (remX σ) 16 x) 16)
theorem S_X4_doTouching {x : Int32} (hv : vX σ) (hh : vH σ) (hp : vPa σ) (h : Q (some (.int (tchX σ x).1)) (tchX σ x).2) : xg_C (d + 5) mX4_doTouching [.ref 0, .int x] σ Q := by
  refine xg_C_of py_X4_doTouching (Nat.le_of_ble_eq_true rfl) ?_
  show xg_X none (d + 5) mX4_doTouching 0 [(0, .ref 0), (1, .int x)] [] σ Q
  have e1 : (remX σ).1 1 = σ.1 1 := remX_ne hp (by decide) (by decide) (by decide)
  refine X_aldn0 1 dX4_doTouching_0 rfl rfl ?_
  refine X_callV0 4 4 dX4_doTouching_1 cw_X4_163 zk_X4_remember ⟨rfl, rfl⟩ rfl rfl rfl (S_X4_remember hp ?_)
  refine X_pn ?_
  refine X_aldn0 5 dX4_doTouching_4 rfl rfl ?_
  refine X_getA 16 8 dX4_doTouching_5 fl_X4_29 rfl rfl ?_
  refine X_aldn0 9 dX4_doTouching_8 rfl rfl ?_
  refine X_getA 1 12 dX4_doTouching_9 fl_X4_10 rfl rfl ?_
  refine X_ildn1 13 dX4_doTouching_12 rfl rfl ?_
  refine X_callV2 1 16 dX4_doTouching_13 cw_X4_263 zk_X1_gild ⟨rfl, rfl⟩ rfl rfl rfl (S_X1_gild (Or.inl rfl) (vH_of e1 hh) ?_)
  refine X_pn ?_
  refine X_aldn0 17 dX4_doTouching_16 rfl rfl ?_
  refine X_getA 16 20 dX4_doTouching_17 fl_X4_29 rfl rfl ?_
  refine X_ildn1 21 dX4_doTouching_20 rfl rfl ?_
  refine X_callV1 1 24 dX4_doTouching_21 cw_X4_100 zk_X1_goldOf ⟨rfl, rfl⟩ rfl rfl rfl (S_X1_goldOf (Or.inl rfl) ?_)
  refine X_pu ?_
  refine X_istnN 25 dX4_doTouching_24 rfl rfl rfl rfl ?_
  refine X_aldn1 26 dX4_doTouching_25 rfl rfl ?_
  refine X_getA 16 29 dX4_doTouching_26 fl_X4_29 rfl rfl ?_
  refine X_aldn1 30 dX4_doTouching_29 rfl rfl ?_
  refine X_getA 1 33 dX4_doTouching_30 fl_X4_10 rfl rfl ?_
  refine X_callV1 1 36 dX4_doTouching_33 cw_X4_166 zk_X1_pass ⟨rfl, rfl⟩ rfl rfl rfl (S_X1_pass (Or.inl rfl) (vX_of ((gldX_ne (by decide)).trans e1) hv) ?_)
  refine X_pn ?_
  refine X_ildn0 37 dX4_doTouching_36 rfl rfl ?_
  refine X_iret dX4_doTouching_37 rfl ?_
  refine Qp h ?_
  rw [tchX]
/-- a meal: of the food x, what is touched y -/
def eatA (σ : xm_M) (x y : Int32) : xm_M := gldX (remX σ) 16 y
def eatX (σ : xm_M) (x y : Int32) : Int32 × xm_M :=
  if vG ((eatA σ x y).1 16 3) ((eatA σ x y).1 16 2) x = 0 then (1, pasX (xm_set (eatA σ x y) 16 4 ((eatA σ x y).1 16 4 ||| (1 <<< (x &&& 31)))) 16) else (0, pasX (eatA σ x y) 16)
theorem S_X4_doEating {x y : Int32} (hv : vX σ) (hh : vH σ) (hp : vPa σ) (h : Q (some (.int (eatX σ x y).1)) (eatX σ x y).2) : xg_C (d + 5) mX4_doEating [.ref 0, .int x, .int y] σ Q := by
  refine xg_C_of py_X4_doEating (Nat.le_of_ble_eq_true rfl) ?_
  show xg_X none (d + 5) mX4_doEating 0 [(0, .ref 0), (1, .int x), (2, .int y)] [] σ Q
  have e1 : (remX σ).1 1 = σ.1 1 := remX_ne hp (by decide) (by decide) (by decide)
  have e2 : (gldX (remX σ) 16 y).1 1 = σ.1 1 := (gldX_ne (by decide)).trans e1
  refine X_aldn0 1 dX4_doEating_0 rfl rfl ?_
  refine X_callV0 4 4 dX4_doEating_1 cw_X4_163 zk_X4_remember ⟨rfl, rfl⟩ rfl rfl rfl (S_X4_remember hp ?_)
  refine X_pn ?_
  refine X_aldn0 5 dX4_doEating_4 rfl rfl ?_
  refine X_getA 16 8 dX4_doEating_5 fl_X4_29 rfl rfl ?_
  refine X_aldn0 9 dX4_doEating_8 rfl rfl ?_
  refine X_getA 1 12 dX4_doEating_9 fl_X4_10 rfl rfl ?_
  refine X_ildn2 13 dX4_doEating_12 rfl rfl ?_
  refine X_callV2 1 16 dX4_doEating_13 cw_X4_263 zk_X1_gild ⟨rfl, rfl⟩ rfl rfl rfl (S_X1_gild (Or.inl rfl) (vH_of e1 hh) ?_)
  refine X_pn ?_
  refine X_aldn0 17 dX4_doEating_16 rfl rfl ?_
  refine X_getA 16 20 dX4_doEating_17 fl_X4_29 rfl rfl ?_
  refine X_ildn1 21 dX4_doEating_20 rfl rfl ?_
  refine X_callV1 1 24 dX4_doEating_21 cw_X4_100 zk_X1_goldOf ⟨rfl, rfl⟩ rfl rfl rfl (S_X1_goldOf (Or.inl rfl) ?_)
  refine X_pu ?_
  refine X_ifne 31 27 dX4_doEating_24 (by decide) rfl (fun c24 => ?_) (fun c24 => ?_)
  · refine X_iconst 0 32 dX4_doEating_31 (by decide) rfl ?_
    refine X_istnN 33 dX4_doEating_32 rfl rfl rfl rfl ?_
    refine X_ildn0 34 dX4_doEating_33 rfl rfl ?_
    refine X_ifeq 52 37 dX4_doEating_34 (by decide) rfl (fun c34 => ?_) (fun c34 => ?_)
    · skip
      refine X_aldn1 53 dX4_doEating_52 rfl rfl ?_
      refine X_getA 16 56 dX4_doEating_53 fl_X4_29 rfl rfl ?_
      refine X_aldn1 57 dX4_doEating_56 rfl rfl ?_
      refine X_getA 1 60 dX4_doEating_57 fl_X4_10 rfl rfl ?_
      refine X_callV1 1 63 dX4_doEating_60 cw_X4_166 zk_X1_pass ⟨rfl, rfl⟩ rfl rfl rfl (S_X1_pass (Or.inl rfl) (vX_of e2 hv) ?_)
      refine X_pn ?_
      refine X_ildn0 64 dX4_doEating_63 rfl rfl ?_
      refine X_ifeq 71 67 dX4_doEating_64 (by decide) rfl (fun c64 => ?_) (fun c64 => ?_)
      · skip
        refine X_iconst 0 72 dX4_doEating_71 (by decide) rfl ?_
        refine X_iret dX4_doEating_72 rfl ?_
        refine Qp h ?_
        unfold eatX eatA
        rw [if_neg c24]
      · exact absurd rfl c64
    · exact absurd rfl c34
  · refine X_iconst 1 28 dX4_doEating_27 (by decide) rfl ?_
    refine X_goto 32 dX4_doEating_28 (by decide) ?_
    refine X_istnN 33 dX4_doEating_32 rfl rfl rfl rfl ?_
    refine X_ildn0 34 dX4_doEating_33 rfl rfl ?_
    refine X_ifeq 52 37 dX4_doEating_34 (by decide) rfl (fun c34 => ?_) (fun c34 => ?_)
    · exact absurd c34 (by decide)
    · skip
      refine X_aldn1 38 dX4_doEating_37 rfl rfl ?_
      refine X_getA 16 41 dX4_doEating_38 fl_X4_29 rfl rfl ?_
      refine X_dup 42 dX4_doEating_41 rfl rfl ?_
      refine X_getI 45 dX4_doEating_42 fl_X4_104 rfl rfl ?_
      refine X_iconst 1 46 dX4_doEating_45 (by decide) rfl ?_
      refine X_ildn2 47 dX4_doEating_46 rfl rfl ?_
      refine X_ishl 48 dX4_doEating_47 rfl ?_
      refine X_ior 49 dX4_doEating_48 rfl ?_
      refine X_putI 52 dX4_doEating_49 fp_X4_104 rfl rfl ?_
      refine X_aldn1 53 dX4_doEating_52 rfl rfl ?_
      refine X_getA 16 56 dX4_doEating_53 fl_X4_29 rfl rfl ?_
      refine X_aldn1 57 dX4_doEating_56 rfl rfl ?_
      refine X_getA 1 60 dX4_doEating_57 fl_X4_10 rfl rfl ?_
      refine X_callV1 1 63 dX4_doEating_60 cw_X4_166 zk_X1_pass ⟨rfl, rfl⟩ rfl rfl rfl (S_X1_pass (Or.inl rfl) (vX_set (by decide) (vX_of e2 hv)) ?_)
      refine X_pn ?_
      refine X_ildn0 64 dX4_doEating_63 rfl rfl ?_
      refine X_ifeq 71 67 dX4_doEating_64 (by decide) rfl (fun c64 => ?_) (fun c64 => ?_)
      · exact absurd c64 (by decide)
      · skip
        refine X_iconst 1 68 dX4_doEating_67 (by decide) rfl ?_
        refine X_goto 72 dX4_doEating_68 (by decide) ?_
        refine X_iret dX4_doEating_72 rfl ?_
        refine Qp h ?_
        unfold eatX eatA
        rw [if_pos c24]
def f_touch (σ : xm_M) (x : Int32) : Int32 × xm_M := if isT σ x = false then (-2, σ) else if loX σ 16 (ixN x) then (-4, σ) else if 24 ≤ σ.1 16 0 then (-5, σ) else tchX σ x
def f_by (σ : xm_M) (x y : Int32) : Int32 × xm_M := if isT σ x = false ∨ isT σ y = false ∨ x = y then (-2, σ) else if loX σ 16 (ixN y) = true ∨ svX σ (ixN x) (ixN y) = false then (-4, σ) else if 24 ≤ σ.1 16 0 then (-5, σ) else tchX σ x
def f_eat (σ : xm_M) (x y : Int32) : Int32 × xm_M := if isT σ x = false ∨ (¬ y = -1 ∧ (isT σ y = false ∨ y = x)) then (-2, σ) else if ¬ σ.1 2 (ixN x) = 4 ∨ loX σ 16 (ixN x) = true ∨ (¬ y = -1 ∧ svX σ (ixN y) (ixN x) = false) then (-4, σ) else if 24 ≤ σ.1 16 0 then (-5, σ) else if y = -1 then eatX σ x x else eatX σ x y
theorem S_X4_touch {x : Int32} (hv : vX σ) (hh : vH σ) (hp : vPa σ) (h : Q (some (.int (f_touch σ x).1)) (f_touch σ x).2) : xg_C (d + 6) mX4_touch [.ref 0, .int x] σ Q := by
  refine xg_C_of py_X4_touch (Nat.le_of_ble_eq_true rfl) ?_
  show xg_X none (d + 6) mX4_touch 0 [(0, .ref 0), (1, .int x)] [] σ Q
  have hn8 := hv.2
  refine X_aldn0 1 dX4_touch_0 rfl rfl ?_
  refine X_ildn1 2 dX4_touch_1 rfl rfl ?_
  refine X_callV1 4 5 dX4_touch_2 cw_X4_84 zk_X4_isThing ⟨rfl, rfl⟩ rfl rfl rfl (S_isT ?_)
  refine X_pu ?_
  refine X_ifne 11 8 dX4_touch_5 (by decide) rfl (fun c5 => ?_) (fun c5 => ?_)
  · rw [b2i_n] at c5
    obtain ⟨i, hi, rfl⟩ := isT_of hv c5
    have e := ixN_nI (i := i) (by omega)
    refine X_aldn0 12 dX4_touch_11 rfl rfl ?_
    refine X_getA 16 15 dX4_touch_12 fl_X4_29 rfl rfl ?_
    refine X_aldn0 16 dX4_touch_15 rfl rfl ?_
    refine X_getA 1 19 dX4_touch_16 fl_X4_10 rfl rfl ?_
    refine X_ildn1 20 dX4_touch_19 rfl rfl ?_
    refine X_callV2 1 23 dX4_touch_20 cw_X4_146 zk_X1_isLost ⟨rfl, rfl⟩ rfl rfl rfl (S_X1_isLost (Or.inl rfl) (by omega) ?_)
    refine X_pu ?_
    refine X_ifeq 29 26 dX4_touch_23 (by decide) rfl (fun c23 => ?_) (fun c23 => ?_)
    · refine X_aldn0 30 dX4_touch_29 rfl rfl ?_
      refine X_getA 16 33 dX4_touch_30 fl_X4_29 rfl rfl ?_
      refine X_getI 36 dX4_touch_33 fl_X4_150 rfl rfl ?_
      refine X_bipush 24 38 dX4_touch_36 (by decide) rfl ?_
      refine X_iclt 44 41 dX4_touch_38 (by decide) rfl (fun c38 => ?_) (fun c38 => ?_)
      · refine X_aldn0 45 dX4_touch_44 rfl rfl ?_
        refine X_ildn1 46 dX4_touch_45 rfl rfl ?_
        refine X_callV1 4 49 dX4_touch_46 cw_X4_153 zk_X4_doTouching ⟨rfl, rfl⟩ rfl rfl rfl (S_X4_doTouching hv hh hp ?_)
        refine X_pu ?_
        refine X_iret dX4_touch_49 rfl ?_
        refine Qp h ?_
        (try simp only [i_nlt, i_nle] at *)
        grind [f_touch, b2i]
      · refine X_bipush (-5) 43 dX4_touch_41 (by decide) rfl ?_
        refine X_iret dX4_touch_43 rfl ?_
        refine Qp h ?_
        (try simp only [i_nlt, i_nle] at *)
        grind [f_touch, b2i]
    · refine X_bipush (-4) 28 dX4_touch_26 (by decide) rfl ?_
      refine X_iret dX4_touch_28 rfl ?_
      refine Qp h ?_
      (try simp only [i_nlt, i_nle] at *)
      grind [f_touch, b2i]
  · rw [b2i_0] at c5
    refine X_bipush (-2) 10 dX4_touch_8 (by decide) rfl ?_
    refine X_iret dX4_touch_10 rfl ?_
    refine Qp h ?_
    (try simp only [i_nlt, i_nle] at *)
    grind [f_touch, b2i]
theorem S_X4_by {x y : Int32} (hv : vX σ) (hh : vH σ) (hp : vPa σ) (h : Q (some (.int (f_by σ x y).1)) (f_by σ x y).2) : xg_C (d + 6) mX4_by [.ref 0, .int x, .int y] σ Q := by
  refine xg_C_of py_X4_by (Nat.le_of_ble_eq_true rfl) ?_
  show xg_X none (d + 6) mX4_by 0 [(0, .ref 0), (1, .int x), (2, .int y)] [] σ Q
  have hn8 := hv.2
  refine X_aldn0 1 dX4_by_0 rfl rfl ?_
  refine X_ildn1 2 dX4_by_1 rfl rfl ?_
  refine X_callV1 4 5 dX4_by_2 cw_X4_84 zk_X4_isThing ⟨rfl, rfl⟩ rfl rfl rfl (S_isT ?_)
  refine X_pu ?_
  refine X_ifeq 21 8 dX4_by_5 (by decide) rfl (fun c5 => ?_) (fun c5 => ?_)
  · rw [b2i_0] at c5
    refine X_bipush (-2) 23 dX4_by_21 (by decide) rfl ?_
    refine X_iret dX4_by_23 rfl ?_
    refine Qp h ?_
    (try simp only [i_nlt, i_nle] at *)
    grind [f_by, b2i]
  · rw [b2i_n] at c5
    refine X_aldn0 9 dX4_by_8 rfl rfl ?_
    refine X_ildn2 10 dX4_by_9 rfl rfl ?_
    refine X_callV1 4 13 dX4_by_10 cw_X4_84 zk_X4_isThing ⟨rfl, rfl⟩ rfl rfl rfl (S_isT ?_)
    refine X_pu ?_
    refine X_ifeq 21 16 dX4_by_13 (by decide) rfl (fun c13 => ?_) (fun c13 => ?_)
    · rw [b2i_0] at c13
      refine X_bipush (-2) 23 dX4_by_21 (by decide) rfl ?_
      refine X_iret dX4_by_23 rfl ?_
      refine Qp h ?_
      (try simp only [i_nlt, i_nle] at *)
      grind [f_by, b2i]
    · rw [b2i_n] at c13
      refine X_ildn1 17 dX4_by_16 rfl rfl ?_
      refine X_ildn2 18 dX4_by_17 rfl rfl ?_
      refine X_icne 24 21 dX4_by_18 (by decide) rfl (fun c18 => ?_) (fun c18 => ?_)
      · obtain ⟨i, hi, rfl⟩ := isT_of hv c5
        obtain ⟨j, hj, rfl⟩ := isT_of hv c13
        have e := ixN_nI (i := i) (by omega)
        have e2 := ixN_nI (i := j) (by omega)
        refine X_aldn0 25 dX4_by_24 rfl rfl ?_
        refine X_getA 16 28 dX4_by_25 fl_X4_29 rfl rfl ?_
        refine X_aldn0 29 dX4_by_28 rfl rfl ?_
        refine X_getA 1 32 dX4_by_29 fl_X4_10 rfl rfl ?_
        refine X_ildn2 33 dX4_by_32 rfl rfl ?_
        refine X_callV2 1 36 dX4_by_33 cw_X4_146 zk_X1_isLost ⟨rfl, rfl⟩ rfl rfl rfl (S_X1_isLost (Or.inl rfl) (by omega) ?_)
        refine X_pu ?_
        refine X_ifne 48 39 dX4_by_36 (by decide) rfl (fun c36 => ?_) (fun c36 => ?_)
        · refine X_bipush (-4) 50 dX4_by_48 (by decide) rfl ?_
          refine X_iret dX4_by_50 rfl ?_
          refine Qp h ?_
          (try simp only [i_nlt, i_nle] at *)
          grind [f_by, b2i]
        · refine X_aldn0 40 dX4_by_39 rfl rfl ?_
          refine X_ildn1 41 dX4_by_40 rfl rfl ?_
          refine X_ildn2 42 dX4_by_41 rfl rfl ?_
          refine X_callV2 4 45 dX4_by_42 cw_X4_156 zk_X4_servesAsTool ⟨rfl, rfl⟩ rfl rfl rfl (S_X4_servesAsTool (by omega) (by omega) ?_)
          refine X_pu ?_
          refine X_ifne 51 48 dX4_by_45 (by decide) rfl (fun c45 => ?_) (fun c45 => ?_)
          · refine X_aldn0 52 dX4_by_51 rfl rfl ?_
            refine X_getA 16 55 dX4_by_52 fl_X4_29 rfl rfl ?_
            refine X_getI 58 dX4_by_55 fl_X4_150 rfl rfl ?_
            refine X_bipush 24 60 dX4_by_58 (by decide) rfl ?_
            refine X_iclt 66 63 dX4_by_60 (by decide) rfl (fun c60 => ?_) (fun c60 => ?_)
            · refine X_aldn0 67 dX4_by_66 rfl rfl ?_
              refine X_ildn1 68 dX4_by_67 rfl rfl ?_
              refine X_callV1 4 71 dX4_by_68 cw_X4_153 zk_X4_doTouching ⟨rfl, rfl⟩ rfl rfl rfl (S_X4_doTouching hv hh hp ?_)
              refine X_pu ?_
              refine X_iret dX4_by_71 rfl ?_
              refine Qp h ?_
              (try simp only [i_nlt, i_nle] at *)
              grind [f_by, b2i]
            · refine X_bipush (-5) 65 dX4_by_63 (by decide) rfl ?_
              refine X_iret dX4_by_65 rfl ?_
              refine Qp h ?_
              (try simp only [i_nlt, i_nle] at *)
              grind [f_by, b2i]
          · refine X_bipush (-4) 50 dX4_by_48 (by decide) rfl ?_
            refine X_iret dX4_by_50 rfl ?_
            refine Qp h ?_
            (try simp only [i_nlt, i_nle] at *)
            grind [f_by, b2i]
      · refine X_bipush (-2) 23 dX4_by_21 (by decide) rfl ?_
        refine X_iret dX4_by_23 rfl ?_
        refine Qp h ?_
        (try simp only [i_nlt, i_nle] at *)
        grind [f_by, b2i]
theorem S_X4_eat {x y : Int32} (hv : vX σ) (hh : vH σ) (hp : vPa σ) (h : Q (some (.int (f_eat σ x y).1)) (f_eat σ x y).2) : xg_C (d + 6) mX4_eat [.ref 0, .int x, .int y] σ Q := by
  refine xg_C_of py_X4_eat (Nat.le_of_ble_eq_true rfl) ?_
  show xg_X none (d + 6) mX4_eat 0 [(0, .ref 0), (1, .int x), (2, .int y)] [] σ Q
  have hn8 := hv.2
  have tail : ∀ (i : Nat) (w : Int32), i < nX σ → isT σ (nI i) = true → (y = -1 ∧ w = 1 ∨ ¬ y = -1 ∧ w = 0 ∧ isT σ y = true ∧ ¬ y = nI i) → Q (some (.int (f_eat σ (nI i) y).1)) (f_eat σ (nI i) y).2 → xg_X none (d + 6) mX4_eat 39 [(3, .int w), (0, .ref 0), (1, .int (nI i)), (2, .int y)] [] σ Q := by
    intro i w hi hT hw h
    have e := ixN_nI (i := i) (by omega)
    rcases hw with ⟨rfl, rfl⟩ | ⟨hy, rfl, hyT, hyi⟩
    · skip
      refine X_aldn1 40 dX4_eat_39 rfl rfl ?_
      refine X_getA 1 43 dX4_eat_40 fl_X4_10 rfl rfl ?_
      refine X_getA 2 46 dX4_eat_43 fl_X4_88 rfl rfl ?_
      refine X_ildn2 47 dX4_eat_46 rfl rfl ?_
      refine X_ialk i 48 dX4_eat_47 rfl rfl rfl (show i < 8 by omega) ?_
      refine X_iconst 4 49 dX4_eat_48 (by decide) rfl ?_
      refine X_icne 67 52 dX4_eat_49 (by decide) rfl (fun c49 => ?_) (fun c49 => ?_)
      · refine X_bipush (-4) 69 dX4_eat_67 (by decide) rfl ?_
        refine X_iret dX4_eat_69 rfl ?_
        refine Qp h ?_
        (try simp only [i_nlt, i_nle] at *)
        grind [f_eat, b2i]
      · refine X_aldn1 53 dX4_eat_52 rfl rfl ?_
        refine X_getA 16 56 dX4_eat_53 fl_X4_29 rfl rfl ?_
        refine X_aldn1 57 dX4_eat_56 rfl rfl ?_
        refine X_getA 1 60 dX4_eat_57 fl_X4_10 rfl rfl ?_
        refine X_ildn2 61 dX4_eat_60 rfl rfl ?_
        refine X_callV2 1 64 dX4_eat_61 cw_X4_146 zk_X1_isLost ⟨rfl, rfl⟩ rfl rfl rfl (S_X1_isLost (Or.inl rfl) (by omega) ?_)
        refine X_pu ?_
        refine X_ifeq 70 67 dX4_eat_64 (by decide) rfl (fun c64 => ?_) (fun c64 => ?_)
        · refine X_ildn0 71 dX4_eat_70 rfl rfl ?_
          refine X_ifne 86 74 dX4_eat_71 (by decide) rfl (fun c71 => ?_) (fun c71 => ?_)
          · refine X_aldn1 87 dX4_eat_86 rfl rfl ?_
            refine X_getA 16 90 dX4_eat_87 fl_X4_29 rfl rfl ?_
            refine X_getI 93 dX4_eat_90 fl_X4_150 rfl rfl ?_
            refine X_bipush 24 95 dX4_eat_93 (by decide) rfl ?_
            refine X_iclt 101 98 dX4_eat_95 (by decide) rfl (fun c95 => ?_) (fun c95 => ?_)
            · refine X_aldn1 102 dX4_eat_101 rfl rfl ?_
              refine X_ildn2 103 dX4_eat_102 rfl rfl ?_
              refine X_ildn0 104 dX4_eat_103 rfl rfl ?_
              refine X_ifeq 111 107 dX4_eat_104 (by decide) rfl (fun c104 => ?_) (fun c104 => ?_)
              · exact absurd c104 (by decide)
              · refine X_ildn2 108 dX4_eat_107 rfl rfl ?_
                refine X_goto 112 dX4_eat_108 (by decide) ?_
                refine X_callV2 4 115 dX4_eat_112 cw_X4_159 zk_X4_doEating ⟨rfl, rfl⟩ rfl rfl rfl (S_X4_doEating hv hh hp ?_)
                refine X_pu ?_
                refine X_iret dX4_eat_115 rfl ?_
                refine Qp h ?_
                (try simp only [i_nlt, i_nle] at *)
                grind [f_eat, b2i]
            · refine X_bipush (-5) 100 dX4_eat_98 (by decide) rfl ?_
              refine X_iret dX4_eat_100 rfl ?_
              refine Qp h ?_
              (try simp only [i_nlt, i_nle] at *)
              grind [f_eat, b2i]
          · exact absurd c71 (by decide)
        · refine X_bipush (-4) 69 dX4_eat_67 (by decide) rfl ?_
          refine X_iret dX4_eat_69 rfl ?_
          refine Qp h ?_
          (try simp only [i_nlt, i_nle] at *)
          grind [f_eat, b2i]
    · obtain ⟨j, hj, rfl⟩ := isT_of hv hyT
      have e2 := ixN_nI (i := j) (by omega)
      refine X_aldn1 40 dX4_eat_39 rfl rfl ?_
      refine X_getA 1 43 dX4_eat_40 fl_X4_10 rfl rfl ?_
      refine X_getA 2 46 dX4_eat_43 fl_X4_88 rfl rfl ?_
      refine X_ildn2 47 dX4_eat_46 rfl rfl ?_
      refine X_ialk i 48 dX4_eat_47 rfl rfl rfl (show i < 8 by omega) ?_
      refine X_iconst 4 49 dX4_eat_48 (by decide) rfl ?_
      refine X_icne 67 52 dX4_eat_49 (by decide) rfl (fun c49 => ?_) (fun c49 => ?_)
      · refine X_bipush (-4) 69 dX4_eat_67 (by decide) rfl ?_
        refine X_iret dX4_eat_69 rfl ?_
        refine Qp h ?_
        (try simp only [i_nlt, i_nle] at *)
        grind [f_eat, b2i]
      · refine X_aldn1 53 dX4_eat_52 rfl rfl ?_
        refine X_getA 16 56 dX4_eat_53 fl_X4_29 rfl rfl ?_
        refine X_aldn1 57 dX4_eat_56 rfl rfl ?_
        refine X_getA 1 60 dX4_eat_57 fl_X4_10 rfl rfl ?_
        refine X_ildn2 61 dX4_eat_60 rfl rfl ?_
        refine X_callV2 1 64 dX4_eat_61 cw_X4_146 zk_X1_isLost ⟨rfl, rfl⟩ rfl rfl rfl (S_X1_isLost (Or.inl rfl) (by omega) ?_)
        refine X_pu ?_
        refine X_ifeq 70 67 dX4_eat_64 (by decide) rfl (fun c64 => ?_) (fun c64 => ?_)
        · refine X_ildn0 71 dX4_eat_70 rfl rfl ?_
          refine X_ifne 86 74 dX4_eat_71 (by decide) rfl (fun c71 => ?_) (fun c71 => ?_)
          · exact absurd rfl c71
          · refine X_aldn1 75 dX4_eat_74 rfl rfl ?_
            refine X_ildn3 76 dX4_eat_75 rfl rfl ?_
            refine X_ildn2 77 dX4_eat_76 rfl rfl ?_
            refine X_callV2 4 80 dX4_eat_77 cw_X4_156 zk_X4_servesAsTool ⟨rfl, rfl⟩ rfl rfl rfl (S_X4_servesAsTool (by omega) (by omega) ?_)
            refine X_pu ?_
            refine X_ifne 86 83 dX4_eat_80 (by decide) rfl (fun c80 => ?_) (fun c80 => ?_)
            · refine X_aldn1 87 dX4_eat_86 rfl rfl ?_
              refine X_getA 16 90 dX4_eat_87 fl_X4_29 rfl rfl ?_
              refine X_getI 93 dX4_eat_90 fl_X4_150 rfl rfl ?_
              refine X_bipush 24 95 dX4_eat_93 (by decide) rfl ?_
              refine X_iclt 101 98 dX4_eat_95 (by decide) rfl (fun c95 => ?_) (fun c95 => ?_)
              · refine X_aldn1 102 dX4_eat_101 rfl rfl ?_
                refine X_ildn2 103 dX4_eat_102 rfl rfl ?_
                refine X_ildn0 104 dX4_eat_103 rfl rfl ?_
                refine X_ifeq 111 107 dX4_eat_104 (by decide) rfl (fun c104 => ?_) (fun c104 => ?_)
                · refine X_ildn3 112 dX4_eat_111 rfl rfl ?_
                  refine X_callV2 4 115 dX4_eat_112 cw_X4_159 zk_X4_doEating ⟨rfl, rfl⟩ rfl rfl rfl (S_X4_doEating hv hh hp ?_)
                  refine X_pu ?_
                  refine X_iret dX4_eat_115 rfl ?_
                  refine Qp h ?_
                  (try simp only [i_nlt, i_nle] at *)
                  grind [f_eat, b2i]
                · exact absurd rfl c104
              · refine X_bipush (-5) 100 dX4_eat_98 (by decide) rfl ?_
                refine X_iret dX4_eat_100 rfl ?_
                refine Qp h ?_
                (try simp only [i_nlt, i_nle] at *)
                grind [f_eat, b2i]
            · refine X_bipush (-4) 85 dX4_eat_83 (by decide) rfl ?_
              refine X_iret dX4_eat_85 rfl ?_
              refine Qp h ?_
              (try simp only [i_nlt, i_nle] at *)
              grind [f_eat, b2i]
        · refine X_bipush (-4) 69 dX4_eat_67 (by decide) rfl ?_
          refine X_iret dX4_eat_69 rfl ?_
          refine Qp h ?_
          (try simp only [i_nlt, i_nle] at *)
          grind [f_eat, b2i]
  have hd : ∀ w : Int32, (y = -1 ∧ w = 1 ∨ ¬ y = -1 ∧ w = 0) → xg_X none (d + 6) mX4_eat 11 [(3, .int w), (0, .ref 0), (1, .int x), (2, .int y)] [] σ Q := by
    intro w hw
    refine X_aldn1 12 dX4_eat_11 rfl rfl ?_
    refine X_ildn2 13 dX4_eat_12 rfl rfl ?_
    refine X_callV1 4 16 dX4_eat_13 cw_X4_84 zk_X4_isThing ⟨rfl, rfl⟩ rfl rfl rfl (S_isT ?_)
    refine X_pu ?_
    refine X_ifeq 36 19 dX4_eat_16 (by decide) rfl (fun c16 => ?_) (fun c16 => ?_)
    · rw [b2i_0] at c16
      refine X_bipush (-2) 38 dX4_eat_36 (by decide) rfl ?_
      refine X_iret dX4_eat_38 rfl ?_
      refine Qp h ?_
      grind [f_eat]
    · rw [b2i_n] at c16
      refine X_ildn0 20 dX4_eat_19 rfl rfl ?_
      refine X_ifne 39 23 dX4_eat_20 (by decide) rfl (fun c20 => ?_) (fun c20 => ?_)
      · obtain ⟨i, hi, rfl⟩ := isT_of hv c16
        exact tail i w hi c16 (by grind) h
      · refine X_aldn1 24 dX4_eat_23 rfl rfl ?_
        refine X_ildn3 25 dX4_eat_24 rfl rfl ?_
        refine X_callV1 4 28 dX4_eat_25 cw_X4_84 zk_X4_isThing ⟨rfl, rfl⟩ rfl rfl rfl (S_isT ?_)
        refine X_pu ?_
        refine X_ifeq 36 31 dX4_eat_28 (by decide) rfl (fun c28 => ?_) (fun c28 => ?_)
        · rw [b2i_0] at c28
          refine X_bipush (-2) 38 dX4_eat_36 (by decide) rfl ?_
          refine X_iret dX4_eat_38 rfl ?_
          refine Qp h ?_
          grind [f_eat]
        · rw [b2i_n] at c28
          refine X_ildn3 32 dX4_eat_31 rfl rfl ?_
          refine X_ildn2 33 dX4_eat_32 rfl rfl ?_
          refine X_icne 39 36 dX4_eat_33 (by decide) rfl (fun c33 => ?_) (fun c33 => ?_)
          · obtain ⟨i, hi, rfl⟩ := isT_of hv c16
            exact tail i w hi c16 (by grind) h
          · refine X_bipush (-2) 38 dX4_eat_36 (by decide) rfl ?_
            refine X_iret dX4_eat_38 rfl ?_
            refine Qp h ?_
            grind [f_eat]
  refine X_ildn2 1 dX4_eat_0 rfl rfl ?_
  refine X_iconst (-1) 2 dX4_eat_1 (by decide) rfl ?_
  refine X_icne 9 5 dX4_eat_2 (by decide) rfl (fun c2 => ?_) (fun c2 => ?_)
  · refine X_iconst 0 10 dX4_eat_9 (by decide) rfl ?_
    refine X_istnN 11 dX4_eat_10 rfl rfl rfl rfl (hd _ (by grind))
  · refine X_iconst 1 6 dX4_eat_5 (by decide) rfl ?_
    refine X_goto 10 dX4_eat_6 (by decide) ?_
    refine X_istnN 11 dX4_eat_10 rfl rfl rfl rfl (hd _ (by grind))
end GT2

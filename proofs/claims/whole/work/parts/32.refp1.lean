/-! the reference: places of a plan -/
def plI (m ago h g : Int32) : Int32 := ((m * 10 + (if ago ≤ 9 then ago else 9)) * 16 + h) * 8 + g
def gbI (σ : xm_M) (m ago f g : Int32) : Int32 := if hbM σ ago = 2 ∨ (hbM σ ago = 1 ∧ ¬ m < σ.1 36 5) then g ||| (1 <<< (f &&& 31)) else g
def cbI (σ : xm_M) (f : Nat) (g th : Int32) : Int32 := if hb th (nI f) = true ∧ hb g (nI f) = false then σ.1 37 (4 * ixN (σ.1 51 f) + 1) else 0
def daI (k : Int32) : Int32 := if 2 ≤ k then (if 6 ≤ k then 14 + k else 8 + k) else 1 + k
/-- the tasks are things, and things stand on floors -/
def vTf (σ : xm_M) : Prop := vTk σ ∧ (∀ k, k < tkMm σ → ∃ t, t < 8 ∧ σ.1 47 k = nI t ∧ ∃ f, f < 3 ∧ σ.1 37 (4 * t + 3) = nI f)
def taM (σ : xm_M) (k : Nat) : Nat := ixN (σ.1 47 k)
def foM (σ : xm_M) (k : Nat) : Nat := ixN (σ.1 37 (4 * taM σ k + 3))
theorem vTf_at {σ : xm_M} (h : vTf σ) {k : Nat} (hk : k < tkMm σ) : taM σ k < 8 ∧ σ.1 47 k = nI (taM σ k) ∧ foM σ k < 3 ∧ σ.1 37 (4 * taM σ k + 3) = nI (foM σ k) := by
  obtain ⟨t, ht, et, f, hf, ef⟩ := h.2 k hk
  have e1 : taM σ k = t := by unfold taM; rw [et, ixN_nI (by omega)]
  have e2 : foM σ k = f := by unfold foM; rw [e1, ef, ixN_nI (by omega)]
  rw [e2, e1]
  exact ⟨ht, et, hf, ef⟩
theorem rem10 : ∀ e, e < 24 → nI e - nI e / 10 * 10 = nI (e % 10) := by decide
def cdI (σ : xm_M) (e : Nat) (ago h : Int32) : Bool :=
  if e < 3 then true else if tkMm σ ≤ e % 10 ∨ hb h (nI (e % 10)) = true ∨ thM σ 41 (taM σ (e % 10)) = false then false
  else if e < 20 then decide (hbM σ ago = 0) else decide (¬ σ.1 51 (foM σ (e % 10)) = -1)
def bnI (σ : xm_M) (e : Nat) (m ago h g : Int32) : Int32 :=
  plI (m + 1) (if e = 2 then 1 else ago + 1) (if e < 3 then h else h ||| (1 <<< (nI (e % 10) &&& 31))) (if e < 20 then g else gbI σ m ago (nI (foM σ (e % 10))) g)
def csI (σ : xm_M) (e : Nat) (m ago g : Int32) : Int32 := if e < 20 then 0 else cbI σ (foM σ (e % 10)) g (gbI σ m ago (nI (foM σ (e % 10))) g)
section REFP1
variable {d : Nat} {σ : xm_M} {Q : Option Value → xm_M → Prop}
theorem S_X5_placeOf {m ago h' g : Int32} (h : Q (some (.int (plI m ago h' g))) σ) : xg_C d mX5_placeOf [.int m, .int ago, .int h', .int g] σ Q := by
  refine xg_C_of py_X5_placeOf (Nat.le_of_ble_eq_true rfl) ?_
  show xg_X none d mX5_placeOf 0 [(0, .int m), (1, .int ago), (2, .int h'), (3, .int g)] [] σ Q
  unfold plI at h
  refine X_ildn0 1 dX5_placeOf_0 rfl rfl ?_
  refine X_bipush 10 3 dX5_placeOf_1 (by decide) rfl ?_
  refine X_imul 4 dX5_placeOf_3 rfl ?_
  refine X_ildn1 5 dX5_placeOf_4 rfl rfl ?_
  refine X_bipush 9 7 dX5_placeOf_5 (by decide) rfl ?_
  refine X_icle 15 10 dX5_placeOf_7 (by decide) rfl (fun c7 => ?_) (fun c7 => ?_)
  · refine X_ildn1 16 dX5_placeOf_15 rfl rfl ?_
    refine X_iadd 17 dX5_placeOf_16 rfl ?_
    refine X_bipush 16 19 dX5_placeOf_17 (by decide) rfl ?_
    refine X_imul 20 dX5_placeOf_19 rfl ?_
    refine X_ildn2 21 dX5_placeOf_20 rfl rfl ?_
    refine X_iadd 22 dX5_placeOf_21 rfl ?_
    refine X_bipush 8 24 dX5_placeOf_22 (by decide) rfl ?_
    refine X_imul 25 dX5_placeOf_24 rfl ?_
    refine X_ildn3 26 dX5_placeOf_25 rfl rfl ?_
    refine X_iadd 27 dX5_placeOf_26 rfl ?_
    refine X_iret dX5_placeOf_27 rfl ?_
    rw [if_pos c7] at h
    exact h
  · refine X_bipush 9 12 dX5_placeOf_10 (by decide) rfl ?_
    refine X_goto 16 dX5_placeOf_12 (by decide) ?_
    refine X_iadd 17 dX5_placeOf_16 rfl ?_
    refine X_bipush 16 19 dX5_placeOf_17 (by decide) rfl ?_
    refine X_imul 20 dX5_placeOf_19 rfl ?_
    refine X_ildn2 21 dX5_placeOf_20 rfl rfl ?_
    refine X_iadd 22 dX5_placeOf_21 rfl ?_
    refine X_bipush 8 24 dX5_placeOf_22 (by decide) rfl ?_
    refine X_imul 25 dX5_placeOf_24 rfl ?_
    refine X_ildn3 26 dX5_placeOf_25 rfl rfl ?_
    refine X_iadd 27 dX5_placeOf_26 rfl ?_
    refine X_iret dX5_placeOf_27 rfl ?_
    rw [if_neg c7] at h
    exact h
theorem S_X5_goldBy {m ago f g : Int32} (h : Q (some (.int (gbI σ m ago f g))) σ) : xg_C (d + 1) mX5_goldBy [.ref 36, .int m, .int ago, .int f, .int g] σ Q := by
  refine xg_C_of py_X5_goldBy (Nat.le_of_ble_eq_true rfl) ?_
  show xg_X none (d + 1) mX5_goldBy 0 [(0, .ref 36), (1, .int m), (2, .int ago), (3, .int f), (4, .int g)] [] σ Q
  refine X_aldn0 1 dX5_goldBy_0 rfl rfl ?_
  refine X_ildn2 2 dX5_goldBy_1 rfl rfl ?_
  refine X_callV1 5 5 dX5_goldBy_2 cw_X5_211 zk_X5_handBehind ⟨rfl, rfl⟩ rfl rfl rfl (S_X5_handBehind ?_)
  refine X_pu ?_
  refine X_istN 7 dX5_goldBy_5 rfl rfl rfl ?_
  refine X_ild0 9 dX5_goldBy_7 rfl ?_
  refine X_iconst 2 10 dX5_goldBy_9 (by decide) rfl ?_
  refine X_iceq 27 13 dX5_goldBy_10 (by decide) rfl (fun c10 => ?_) (fun c10 => ?_)
  · refine X_ild5 29 dX5_goldBy_27 rfl ?_
    refine X_iconst 1 30 dX5_goldBy_29 (by decide) rfl ?_
    refine X_ildn4 31 dX5_goldBy_30 rfl rfl ?_
    refine X_ishl 32 dX5_goldBy_31 rfl ?_
    refine X_ior 33 dX5_goldBy_32 rfl ?_
    refine X_goto 38 dX5_goldBy_33 (by decide) ?_
    refine X_iret dX5_goldBy_38 rfl ?_
    refine Qi h ?_
    grind [gbI]
  · refine X_ild0 15 dX5_goldBy_13 rfl ?_
    refine X_iconst 1 16 dX5_goldBy_15 (by decide) rfl ?_
    refine X_icne 36 19 dX5_goldBy_16 (by decide) rfl (fun c16 => ?_) (fun c16 => ?_)
    · refine X_ild5 38 dX5_goldBy_36 rfl ?_
      refine X_iret dX5_goldBy_38 rfl ?_
      refine Qi h ?_
      grind [gbI]
    · refine X_ildn2 20 dX5_goldBy_19 rfl rfl ?_
      refine X_aldn1 21 dX5_goldBy_20 rfl rfl ?_
      refine X_getI 24 dX5_goldBy_21 fl_X5_23 rfl rfl ?_
      refine X_iclt 36 27 dX5_goldBy_24 (by decide) rfl (fun c24 => ?_) (fun c24 => ?_)
      · refine X_ild5 38 dX5_goldBy_36 rfl ?_
        refine X_iret dX5_goldBy_38 rfl ?_
        refine Qi h ?_
        grind [gbI]
      · refine X_ild5 29 dX5_goldBy_27 rfl ?_
        refine X_iconst 1 30 dX5_goldBy_29 (by decide) rfl ?_
        refine X_ildn4 31 dX5_goldBy_30 rfl rfl ?_
        refine X_ishl 32 dX5_goldBy_31 rfl ?_
        refine X_ior 33 dX5_goldBy_32 rfl ?_
        refine X_goto 38 dX5_goldBy_33 (by decide) ?_
        refine X_iret dX5_goldBy_38 rfl ?_
        refine Qi h ?_
        grind [gbI]
theorem S_X5_costBy {f t : Nat} {g th : Int32} (hf : f < 3) (ht : t < 8) (et : σ.1 51 f = nI t) (h : Q (some (.int (cbI σ f g th))) σ) : xg_C (d + 1) mX5_costBy [.ref 36, .int (nI f), .int g, .int th] σ Q := by
  refine xg_C_of py_X5_costBy (Nat.le_of_ble_eq_true rfl) ?_
  show xg_X none (d + 1) mX5_costBy 0 [(0, .ref 36), (1, .int (nI f)), (2, .int g), (3, .int th)] [] σ Q
  have e : ixN (σ.1 51 f) = t := by rw [et, ixN_nI (by omega)]
  refine X_ildn3 1 dX5_costBy_0 rfl rfl ?_
  refine X_ildn1 2 dX5_costBy_1 rfl rfl ?_
  refine X_callS2 5 dX5_costBy_2 cw_X5_177 zk_X5_has rfl rfl (S_X5_has ?_)
  refine X_pu ?_
  refine X_ifeq 34 8 dX5_costBy_5 (by decide) rfl (fun c5 => ?_) (fun c5 => ?_)
  · refine X_iconst 0 35 dX5_costBy_34 (by decide) rfl ?_
    refine X_iret dX5_costBy_35 rfl ?_
    refine Qi h ?_
    grind [cbI, b2i]
  · refine X_ildn2 9 dX5_costBy_8 rfl rfl ?_
    refine X_ildn1 10 dX5_costBy_9 rfl rfl ?_
    refine X_callS2 13 dX5_costBy_10 cw_X5_177 zk_X5_has rfl rfl (S_X5_has ?_)
    refine X_pu ?_
    refine X_ifne 34 16 dX5_costBy_13 (by decide) rfl (fun c13 => ?_) (fun c13 => ?_)
    · refine X_iconst 0 35 dX5_costBy_34 (by decide) rfl ?_
      refine X_iret dX5_costBy_35 rfl ?_
      refine Qi h ?_
      grind [cbI, b2i]
    · refine X_aldn0 17 dX5_costBy_16 rfl rfl ?_
      refine X_getA 37 20 dX5_costBy_17 fl_X5_7 rfl rfl ?_
      refine X_iconst 4 21 dX5_costBy_20 (by decide) rfl ?_
      refine X_aldn0 22 dX5_costBy_21 rfl rfl ?_
      refine X_getA 51 25 dX5_costBy_22 fl_X5_63 rfl rfl ?_
      refine X_ildn1 26 dX5_costBy_25 rfl rfl ?_
      refine X_ialk f 27 dX5_costBy_26 rfl rfl rfl (show f < 3 by omega) ?_
      refine X_imul 28 dX5_costBy_27 rfl ?_
      refine X_iconst 1 29 dX5_costBy_28 (by decide) rfl ?_
      refine X_iadd 30 dX5_costBy_29 rfl ?_
      refine X_ialk (4 * t + 1) 31 dX5_costBy_30 rfl rfl (by rw [et]; exact i41 t) (show 4 * t + 1 < 32 by omega) ?_
      refine X_goto 35 dX5_costBy_31 (by decide) ?_
      refine X_iret dX5_costBy_35 rfl ?_
      refine Qi h ?_
      grind [cbI, b2i]
theorem S_X5_deedAt {k : Int32} (h : Q (some (.int (daI k))) σ) : xg_C d mX5_deedAt [.int k] σ Q := by
  refine xg_C_of py_X5_deedAt (Nat.le_of_ble_eq_true rfl) ?_
  show xg_X none d mX5_deedAt 0 [(0, .int k)] [] σ Q
  refine X_ildn0 1 dX5_deedAt_0 rfl rfl ?_
  refine X_iconst 2 2 dX5_deedAt_1 (by decide) rfl ?_
  refine X_icge 11 5 dX5_deedAt_2 (by decide) rfl (fun c2 => ?_) (fun c2 => ?_)
  · refine X_ildn0 12 dX5_deedAt_11 rfl rfl ?_
    refine X_bipush 6 14 dX5_deedAt_12 (by decide) rfl ?_
    refine X_icge 24 17 dX5_deedAt_14 (by decide) rfl (fun c14 => ?_) (fun c14 => ?_)
    · refine X_bipush 14 26 dX5_deedAt_24 (by decide) rfl ?_
      refine X_ildn0 27 dX5_deedAt_26 rfl rfl ?_
      refine X_iadd 28 dX5_deedAt_27 rfl ?_
      refine X_iret dX5_deedAt_28 rfl ?_
      refine Qi h ?_
      grind [daI]
    · refine X_bipush 8 19 dX5_deedAt_17 (by decide) rfl ?_
      refine X_ildn0 20 dX5_deedAt_19 rfl rfl ?_
      refine X_iadd 21 dX5_deedAt_20 rfl ?_
      refine X_goto 28 dX5_deedAt_21 (by decide) ?_
      refine X_iret dX5_deedAt_28 rfl ?_
      refine Qi h ?_
      grind [daI]
  · refine X_iconst 1 6 dX5_deedAt_5 (by decide) rfl ?_
    refine X_ildn0 7 dX5_deedAt_6 rfl rfl ?_
    refine X_iadd 8 dX5_deedAt_7 rfl ?_
    refine X_goto 28 dX5_deedAt_8 (by decide) ?_
    refine X_iret dX5_deedAt_28 rfl ?_
    refine Qi h ?_
    grind [daI]
theorem S_X5_canDo {e : Nat} {ago h' : Int32} (hv : vTf σ) (he : e < 24) (h : Q (some (.int (b2i (cdI σ e ago h')))) σ) : xg_C (d + 2) mX5_canDo [.ref 36, .int (nI e), .int ago, .int h'] σ Q := by
  refine xg_C_of py_X5_canDo (Nat.le_of_ble_eq_true rfl) ?_
  show xg_X none (d + 2) mX5_canDo 0 [(0, .ref 36), (1, .int (nI e)), (2, .int ago), (3, .int h')] [] σ Q
  have hk := hv.1.1
  have hk4 := hv.1.2
  have er := rem10 e he
  have e3 : (3 : Int32) ≤ nI e ↔ ¬ e < 3 := by
    rw [show (3 : Int32) = nI 3 by decide, nI_leI (by decide) (by omega)]
    omega
  have e20 : (20 : Int32) ≤ nI e ↔ ¬ e < 20 := by
    rw [show (20 : Int32) = nI 20 by decide, nI_leI (by decide) (by omega)]
    omega
  have et : σ.1 36 26 ≤ nI (e % 10) ↔ tkMm σ ≤ e % 10 := by
    rw [hk, nI_leI (by omega) (by omega)]
  refine X_ildn1 1 dX5_canDo_0 rfl rfl ?_
  refine X_iconst 3 2 dX5_canDo_1 (by decide) rfl ?_
  refine X_icge 7 5 dX5_canDo_2 (by decide) rfl (fun c2 => ?_) (fun c2 => ?_)
  · refine X_ildn1 8 dX5_canDo_7 rfl rfl ?_
    refine X_bipush 10 10 dX5_canDo_8 (by decide) rfl ?_
    refine X_irem 11 dX5_canDo_10 rfl (by decide) ?_
    refine X_istN 13 dX5_canDo_11 rfl rfl rfl ?_
    rw [er]
    refine X_ild0 15 dX5_canDo_13 rfl ?_
    refine X_aldn1 16 dX5_canDo_15 rfl rfl ?_
    refine X_getI 19 dX5_canDo_16 fl_X5_81 rfl rfl ?_
    refine X_icge 49 22 dX5_canDo_19 (by decide) rfl (fun c19 => ?_) (fun c19 => ?_)
    · refine X_iconst 0 50 dX5_canDo_49 (by decide) rfl ?_
      refine X_zret dX5_canDo_50 rfl (by first | exact Or.inl rfl | exact Or.inr rfl) ?_
      refine Qi h ?_
      simp only [e3, e20, et] at *
      grind [cdI, b2i]
    · obtain ⟨t8, t47, f3, f37⟩ := vTf_at hv (k := e % 10) (by rw [et] at c19; omega)
      refine X_ildn4 23 dX5_canDo_22 rfl rfl ?_
      refine X_ild0 25 dX5_canDo_23 rfl ?_
      refine X_callS2 28 dX5_canDo_25 cw_X5_177 zk_X5_has rfl rfl (S_X5_has ?_)
      refine X_pu ?_
      refine X_ifne 49 31 dX5_canDo_28 (by decide) rfl (fun c28 => ?_) (fun c28 => ?_)
      · refine X_iconst 0 50 dX5_canDo_49 (by decide) rfl ?_
        refine X_zret dX5_canDo_50 rfl (by first | exact Or.inl rfl | exact Or.inr rfl) ?_
        refine Qi h ?_
        simp only [e3, e20, et] at *
        grind [cdI, b2i]
      · refine X_aldn1 32 dX5_canDo_31 rfl rfl ?_
        refine X_aldn1 33 dX5_canDo_32 rfl rfl ?_
        refine X_getA 41 36 dX5_canDo_33 fl_X5_32 rfl rfl ?_
        refine X_aldn1 37 dX5_canDo_36 rfl rfl ?_
        refine X_getA 47 40 dX5_canDo_37 fl_X5_51 rfl rfl ?_
        refine X_ild0 42 dX5_canDo_40 rfl ?_
        refine X_ialk (e % 10) 43 dX5_canDo_42 rfl rfl rfl (show e % 10 < 4 by rw [et] at c19; omega) ?_
        rw [t47]
        refine X_callV2 5 46 dX5_canDo_43 cw_X5_189 zk_X5_isThere ⟨rfl, rfl⟩ rfl rfl rfl (S_X5_isThere (Or.inl rfl) t8 ?_)
        refine X_pu ?_
        refine X_ifne 51 49 dX5_canDo_46 (by decide) rfl (fun c46 => ?_) (fun c46 => ?_)
        · refine X_ildn2 52 dX5_canDo_51 rfl rfl ?_
          refine X_bipush 20 54 dX5_canDo_52 (by decide) rfl ?_
          refine X_icge 73 57 dX5_canDo_54 (by decide) rfl (fun c54 => ?_) (fun c54 => ?_)
          · refine X_aldn1 74 dX5_canDo_73 rfl rfl ?_
            refine X_getA 51 77 dX5_canDo_74 fl_X5_63 rfl rfl ?_
            refine X_aldn1 78 dX5_canDo_77 rfl rfl ?_
            refine X_aldn1 79 dX5_canDo_78 rfl rfl ?_
            refine X_getA 47 82 dX5_canDo_79 fl_X5_51 rfl rfl ?_
            refine X_ild0 84 dX5_canDo_82 rfl ?_
            refine X_ialk (e % 10) 85 dX5_canDo_84 rfl rfl rfl (show e % 10 < 4 by rw [et] at c19; omega) ?_
            rw [t47]
            refine X_callV1 5 88 dX5_canDo_85 cw_X5_181 zk_X5_floorOf ⟨rfl, rfl⟩ rfl rfl rfl (S_X5_floorOf t8 ?_)
            refine X_pu ?_
            refine X_ialk (foM σ (e % 10)) 89 dX5_canDo_88 rfl rfl f37 (show foM σ (e % 10) < 3 by omega) ?_
            refine X_iconst (-1) 90 dX5_canDo_89 (by decide) rfl ?_
            refine X_iceq 97 93 dX5_canDo_90 (by decide) rfl (fun c90 => ?_) (fun c90 => ?_)
            · refine X_iconst 0 98 dX5_canDo_97 (by decide) rfl ?_
              refine X_zret dX5_canDo_98 rfl (by first | exact Or.inl rfl | exact Or.inr rfl) ?_
              refine Qi h ?_
              simp only [e3, e20, et] at *
              grind [cdI, b2i]
            · refine X_iconst 1 94 dX5_canDo_93 (by decide) rfl ?_
              refine X_goto 98 dX5_canDo_94 (by decide) ?_
              refine X_zret dX5_canDo_98 rfl (by first | exact Or.inl rfl | exact Or.inr rfl) ?_
              refine Qi h ?_
              simp only [e3, e20, et] at *
              grind [cdI, b2i]
          · refine X_aldn1 58 dX5_canDo_57 rfl rfl ?_
            refine X_ildn3 59 dX5_canDo_58 rfl rfl ?_
            refine X_callV1 5 62 dX5_canDo_59 cw_X5_211 zk_X5_handBehind ⟨rfl, rfl⟩ rfl rfl rfl (S_X5_handBehind ?_)
            refine X_pu ?_
            refine X_ifne 69 65 dX5_canDo_62 (by decide) rfl (fun c62 => ?_) (fun c62 => ?_)
            · refine X_iconst 0 70 dX5_canDo_69 (by decide) rfl ?_
              refine X_goto 98 dX5_canDo_70 (by decide) ?_
              refine X_zret dX5_canDo_98 rfl (by first | exact Or.inl rfl | exact Or.inr rfl) ?_
              refine Qi h ?_
              simp only [e3, e20, et] at *
              grind [cdI, b2i]
            · refine X_iconst 1 66 dX5_canDo_65 (by decide) rfl ?_
              refine X_goto 98 dX5_canDo_66 (by decide) ?_
              refine X_zret dX5_canDo_98 rfl (by first | exact Or.inl rfl | exact Or.inr rfl) ?_
              refine Qi h ?_
              simp only [e3, e20, et] at *
              grind [cdI, b2i]
        · refine X_iconst 0 50 dX5_canDo_49 (by decide) rfl ?_
          refine X_zret dX5_canDo_50 rfl (by first | exact Or.inl rfl | exact Or.inr rfl) ?_
          refine Qi h ?_
          simp only [e3, e20, et] at *
          grind [cdI, b2i]
  · refine X_iconst 1 6 dX5_canDo_5 (by decide) rfl ?_
    refine X_zret dX5_canDo_6 rfl (by first | exact Or.inl rfl | exact Or.inr rfl) ?_
    refine Qi h ?_
    simp only [e3, e20, et] at *
    grind [cdI, b2i]
theorem S_X5_behind {e : Nat} {m ago h' g : Int32} (hv : vTf σ) (he : e < 24) (hk : 3 ≤ e → e % 10 < tkMm σ) (h : Q (some (.int (bnI σ e m ago h' g))) σ) : xg_C (d + 2) mX5_behind [.ref 36, .int (nI e), .int m, .int ago, .int h', .int g] σ Q := by
  refine xg_C_of py_X5_behind (Nat.le_of_ble_eq_true rfl) ?_
  show xg_X none (d + 2) mX5_behind 0 [(0, .ref 36), (1, .int (nI e)), (2, .int m), (3, .int ago), (4, .int h'), (5, .int g)] [] σ Q
  have hk4 := hv.1.2
  have er := rem10 e he
  have e2 : nI e = 2 ↔ e = 2 := (by decide : ∀ e, e < 24 → (nI e = 2 ↔ e = 2)) e he
  have e3 : (3 : Int32) ≤ nI e ↔ ¬ e < 3 := by
    rw [show (3 : Int32) = nI 3 by decide, nI_leI (by decide) (by omega)]
    omega
  have e20 : (20 : Int32) ≤ nI e ↔ ¬ e < 20 := by
    rw [show (20 : Int32) = nI 20 by decide, nI_leI (by decide) (by omega)]
    omega
  refine X_ildn1 1 dX5_behind_0 rfl rfl ?_
  refine X_bipush 20 3 dX5_behind_1 (by decide) rfl ?_
  refine X_icge 11 6 dX5_behind_3 (by decide) rfl (fun c3 => ?_) (fun c3 => ?_)
  · obtain ⟨t8, t47, f3, f37⟩ := vTf_at hv (k := e % 10) (hk (by rw [e20] at c3; omega))
    have hk' := hk (by rw [e20] at c3; omega)
    refine X_aldn0 12 dX5_behind_11 rfl rfl ?_
    refine X_ildn2 13 dX5_behind_12 rfl rfl ?_
    refine X_ildn3 14 dX5_behind_13 rfl rfl ?_
    refine X_aldn0 15 dX5_behind_14 rfl rfl ?_
    refine X_aldn0 16 dX5_behind_15 rfl rfl ?_
    refine X_getA 47 19 dX5_behind_16 fl_X5_51 rfl rfl ?_
    refine X_ildn1 20 dX5_behind_19 rfl rfl ?_
    refine X_bipush 10 22 dX5_behind_20 (by decide) rfl ?_
    refine X_irem 23 dX5_behind_22 rfl (by decide) ?_
    refine X_ialk (e % 10) 24 dX5_behind_23 rfl rfl er (show e % 10 < 4 by omega) ?_
    rw [t47]
    refine X_callV1 5 27 dX5_behind_24 cw_X5_181 zk_X5_floorOf ⟨rfl, rfl⟩ rfl rfl rfl (S_X5_floorOf t8 ?_)
    rw [f37]
    refine X_pu ?_
    refine X_ild5 29 dX5_behind_27 rfl ?_
    refine X_callV4 5 32 dX5_behind_29 cw_X5_242 zk_X5_goldBy ⟨rfl, rfl⟩ rfl rfl rfl (S_X5_goldBy ?_)
    refine X_pu ?_
    refine X_istN 34 dX5_behind_32 rfl rfl rfl ?_
    refine X_ildn2 35 dX5_behind_34 rfl rfl ?_
    refine X_iconst 3 36 dX5_behind_35 (by decide) rfl ?_
    refine X_icge 44 39 dX5_behind_36 (by decide) rfl (fun c36 => ?_) (fun c36 => ?_)
    · refine X_ild5 46 dX5_behind_44 rfl ?_
      refine X_iconst 1 47 dX5_behind_46 (by decide) rfl ?_
      refine X_ildn2 48 dX5_behind_47 rfl rfl ?_
      refine X_bipush 10 50 dX5_behind_48 (by decide) rfl ?_
      refine X_irem 51 dX5_behind_50 rfl (by decide) ?_
      refine X_ishl 52 dX5_behind_51 rfl ?_
      refine X_ior 53 dX5_behind_52 rfl ?_
      (try rw [er])
      refine X_istN 55 dX5_behind_53 rfl rfl rfl ?_
      refine X_ildn4 56 dX5_behind_55 rfl rfl ?_
      refine X_iconst 1 57 dX5_behind_56 (by decide) rfl ?_
      refine X_iadd 58 dX5_behind_57 rfl ?_
      refine X_ildn3 59 dX5_behind_58 rfl rfl ?_
      refine X_iconst 2 60 dX5_behind_59 (by decide) rfl ?_
      refine X_icne 67 63 dX5_behind_60 (by decide) rfl (fun c60 => ?_) (fun c60 => ?_)
      · refine X_ildn5 68 dX5_behind_67 rfl rfl ?_
        refine X_iconst 1 69 dX5_behind_68 (by decide) rfl ?_
        refine X_iadd 70 dX5_behind_69 rfl ?_
        refine X_ild0 72 dX5_behind_70 rfl ?_
        refine X_ild1 74 dX5_behind_72 rfl ?_
        refine X_callS4 77 dX5_behind_74 cw_X5_246 zk_X5_placeOf rfl rfl (S_X5_placeOf ?_)
        refine X_pu ?_
        refine X_iret dX5_behind_77 rfl ?_
        refine Qi h ?_
        simp only [e2, e3, e20] at *
        grind [bnI]
      · refine X_iconst 1 64 dX5_behind_63 (by decide) rfl ?_
        refine X_goto 70 dX5_behind_64 (by decide) ?_
        refine X_ild0 72 dX5_behind_70 rfl ?_
        refine X_ild1 74 dX5_behind_72 rfl ?_
        refine X_callS4 77 dX5_behind_74 cw_X5_246 zk_X5_placeOf rfl rfl (S_X5_placeOf ?_)
        refine X_pu ?_
        refine X_iret dX5_behind_77 rfl ?_
        refine Qi h ?_
        simp only [e2, e3, e20] at *
        grind [bnI]
    · refine X_ild5 41 dX5_behind_39 rfl ?_
      refine X_goto 53 dX5_behind_41 (by decide) ?_
      (try rw [er])
      refine X_istN 55 dX5_behind_53 rfl rfl rfl ?_
      refine X_ildn4 56 dX5_behind_55 rfl rfl ?_
      refine X_iconst 1 57 dX5_behind_56 (by decide) rfl ?_
      refine X_iadd 58 dX5_behind_57 rfl ?_
      refine X_ildn3 59 dX5_behind_58 rfl rfl ?_
      refine X_iconst 2 60 dX5_behind_59 (by decide) rfl ?_
      refine X_icne 67 63 dX5_behind_60 (by decide) rfl (fun c60 => ?_) (fun c60 => ?_)
      · refine X_ildn5 68 dX5_behind_67 rfl rfl ?_
        refine X_iconst 1 69 dX5_behind_68 (by decide) rfl ?_
        refine X_iadd 70 dX5_behind_69 rfl ?_
        refine X_ild0 72 dX5_behind_70 rfl ?_
        refine X_ild1 74 dX5_behind_72 rfl ?_
        refine X_callS4 77 dX5_behind_74 cw_X5_246 zk_X5_placeOf rfl rfl (S_X5_placeOf ?_)
        refine X_pu ?_
        refine X_iret dX5_behind_77 rfl ?_
        refine Qi h ?_
        simp only [e2, e3, e20] at *
        grind [bnI]
      · refine X_iconst 1 64 dX5_behind_63 (by decide) rfl ?_
        refine X_goto 70 dX5_behind_64 (by decide) ?_
        refine X_ild0 72 dX5_behind_70 rfl ?_
        refine X_ild1 74 dX5_behind_72 rfl ?_
        refine X_callS4 77 dX5_behind_74 cw_X5_246 zk_X5_placeOf rfl rfl (S_X5_placeOf ?_)
        refine X_pu ?_
        refine X_iret dX5_behind_77 rfl ?_
        refine Qi h ?_
        simp only [e2, e3, e20] at *
        grind [bnI]
  · refine X_ild5 8 dX5_behind_6 rfl ?_
    refine X_goto 32 dX5_behind_8 (by decide) ?_
    refine X_istN 34 dX5_behind_32 rfl rfl rfl ?_
    refine X_ildn2 35 dX5_behind_34 rfl rfl ?_
    refine X_iconst 3 36 dX5_behind_35 (by decide) rfl ?_
    refine X_icge 44 39 dX5_behind_36 (by decide) rfl (fun c36 => ?_) (fun c36 => ?_)
    · refine X_ild5 46 dX5_behind_44 rfl ?_
      refine X_iconst 1 47 dX5_behind_46 (by decide) rfl ?_
      refine X_ildn2 48 dX5_behind_47 rfl rfl ?_
      refine X_bipush 10 50 dX5_behind_48 (by decide) rfl ?_
      refine X_irem 51 dX5_behind_50 rfl (by decide) ?_
      refine X_ishl 52 dX5_behind_51 rfl ?_
      refine X_ior 53 dX5_behind_52 rfl ?_
      (try rw [er])
      refine X_istN 55 dX5_behind_53 rfl rfl rfl ?_
      refine X_ildn4 56 dX5_behind_55 rfl rfl ?_
      refine X_iconst 1 57 dX5_behind_56 (by decide) rfl ?_
      refine X_iadd 58 dX5_behind_57 rfl ?_
      refine X_ildn3 59 dX5_behind_58 rfl rfl ?_
      refine X_iconst 2 60 dX5_behind_59 (by decide) rfl ?_
      refine X_icne 67 63 dX5_behind_60 (by decide) rfl (fun c60 => ?_) (fun c60 => ?_)
      · refine X_ildn5 68 dX5_behind_67 rfl rfl ?_
        refine X_iconst 1 69 dX5_behind_68 (by decide) rfl ?_
        refine X_iadd 70 dX5_behind_69 rfl ?_
        refine X_ild0 72 dX5_behind_70 rfl ?_
        refine X_ild1 74 dX5_behind_72 rfl ?_
        refine X_callS4 77 dX5_behind_74 cw_X5_246 zk_X5_placeOf rfl rfl (S_X5_placeOf ?_)
        refine X_pu ?_
        refine X_iret dX5_behind_77 rfl ?_
        refine Qi h ?_
        simp only [e2, e3, e20] at *
        grind [bnI]
      · refine X_iconst 1 64 dX5_behind_63 (by decide) rfl ?_
        refine X_goto 70 dX5_behind_64 (by decide) ?_
        refine X_ild0 72 dX5_behind_70 rfl ?_
        refine X_ild1 74 dX5_behind_72 rfl ?_
        refine X_callS4 77 dX5_behind_74 cw_X5_246 zk_X5_placeOf rfl rfl (S_X5_placeOf ?_)
        refine X_pu ?_
        refine X_iret dX5_behind_77 rfl ?_
        refine Qi h ?_
        simp only [e2, e3, e20] at *
        grind [bnI]
    · refine X_ild5 41 dX5_behind_39 rfl ?_
      refine X_goto 53 dX5_behind_41 (by decide) ?_
      (try rw [er])
      refine X_istN 55 dX5_behind_53 rfl rfl rfl ?_
      refine X_ildn4 56 dX5_behind_55 rfl rfl ?_
      refine X_iconst 1 57 dX5_behind_56 (by decide) rfl ?_
      refine X_iadd 58 dX5_behind_57 rfl ?_
      refine X_ildn3 59 dX5_behind_58 rfl rfl ?_
      refine X_iconst 2 60 dX5_behind_59 (by decide) rfl ?_
      refine X_icne 67 63 dX5_behind_60 (by decide) rfl (fun c60 => ?_) (fun c60 => ?_)
      · refine X_ildn5 68 dX5_behind_67 rfl rfl ?_
        refine X_iconst 1 69 dX5_behind_68 (by decide) rfl ?_
        refine X_iadd 70 dX5_behind_69 rfl ?_
        refine X_ild0 72 dX5_behind_70 rfl ?_
        refine X_ild1 74 dX5_behind_72 rfl ?_
        refine X_callS4 77 dX5_behind_74 cw_X5_246 zk_X5_placeOf rfl rfl (S_X5_placeOf ?_)
        refine X_pu ?_
        refine X_iret dX5_behind_77 rfl ?_
        refine Qi h ?_
        simp only [e2, e3, e20] at *
        grind [bnI]
      · refine X_iconst 1 64 dX5_behind_63 (by decide) rfl ?_
        refine X_goto 70 dX5_behind_64 (by decide) ?_
        refine X_ild0 72 dX5_behind_70 rfl ?_
        refine X_ild1 74 dX5_behind_72 rfl ?_
        refine X_callS4 77 dX5_behind_74 cw_X5_246 zk_X5_placeOf rfl rfl (S_X5_placeOf ?_)
        refine X_pu ?_
        refine X_iret dX5_behind_77 rfl ?_
        refine Qi h ?_
        simp only [e2, e3, e20] at *
        grind [bnI]
theorem S_X5_costOf {e : Nat} {m ago g : Int32} (hv : vTf σ) (he : e < 24) (hk : 20 ≤ e → e % 10 < tkMm σ ∧ ∃ t, t < 8 ∧ σ.1 51 (foM σ (e % 10)) = nI t) (h : Q (some (.int (csI σ e m ago g))) σ) : xg_C (d + 2) mX5_costOf [.ref 36, .int (nI e), .int m, .int ago, .int g] σ Q := by
  refine xg_C_of py_X5_costOf (Nat.le_of_ble_eq_true rfl) ?_
  show xg_X none (d + 2) mX5_costOf 0 [(0, .ref 36), (1, .int (nI e)), (2, .int m), (3, .int ago), (4, .int g)] [] σ Q
  have hk4 := hv.1.2
  have er := rem10 e he
  have e20 : (20 : Int32) ≤ nI e ↔ ¬ e < 20 := by
    rw [show (20 : Int32) = nI 20 by decide, nI_leI (by decide) (by omega)]
    omega
  refine X_ildn1 1 dX5_costOf_0 rfl rfl ?_
  refine X_bipush 20 3 dX5_costOf_1 (by decide) rfl ?_
  refine X_icge 8 6 dX5_costOf_3 (by decide) rfl (fun c3 => ?_) (fun c3 => ?_)
  · obtain ⟨hk', t, ht, et⟩ := hk (by rw [e20] at c3; omega)
    obtain ⟨t8, t47, f3, f37⟩ := vTf_at hv hk'
    refine X_aldn0 9 dX5_costOf_8 rfl rfl ?_
    refine X_aldn0 10 dX5_costOf_9 rfl rfl ?_
    refine X_getA 47 13 dX5_costOf_10 fl_X5_51 rfl rfl ?_
    refine X_ildn1 14 dX5_costOf_13 rfl rfl ?_
    refine X_bipush 10 16 dX5_costOf_14 (by decide) rfl ?_
    refine X_irem 17 dX5_costOf_16 rfl (by decide) ?_
    refine X_ialk (e % 10) 18 dX5_costOf_17 rfl rfl er (show e % 10 < 4 by omega) ?_
    rw [t47]
    refine X_callV1 5 21 dX5_costOf_18 cw_X5_181 zk_X5_floorOf ⟨rfl, rfl⟩ rfl rfl rfl (S_X5_floorOf t8 ?_)
    rw [f37]
    refine X_pu ?_
    refine X_istN 23 dX5_costOf_21 rfl rfl rfl ?_
    refine X_aldn1 24 dX5_costOf_23 rfl rfl ?_
    refine X_ild0 26 dX5_costOf_24 rfl ?_
    refine X_ild5 28 dX5_costOf_26 rfl ?_
    refine X_aldn1 29 dX5_costOf_28 rfl rfl ?_
    refine X_ildn3 30 dX5_costOf_29 rfl rfl ?_
    refine X_ildn4 31 dX5_costOf_30 rfl rfl ?_
    refine X_ild0 33 dX5_costOf_31 rfl ?_
    refine X_ild5 35 dX5_costOf_33 rfl ?_
    refine X_callV4 5 38 dX5_costOf_35 cw_X5_242 zk_X5_goldBy ⟨rfl, rfl⟩ rfl rfl rfl (S_X5_goldBy ?_)
    refine X_pu ?_
    refine X_callV3 5 41 dX5_costOf_38 cw_X5_249 zk_X5_costBy ⟨rfl, rfl⟩ rfl rfl rfl (S_X5_costBy f3 ht et ?_)
    refine X_pu ?_
    refine X_iret dX5_costOf_41 rfl ?_
    refine Qi h ?_
    simp only [e20] at *
    grind [csI]
  · refine X_iconst 0 7 dX5_costOf_6 (by decide) rfl ?_
    refine X_iret dX5_costOf_7 rfl ?_
    refine Qi h ?_
    simp only [e20] at *
    grind [csI]
end REFP1

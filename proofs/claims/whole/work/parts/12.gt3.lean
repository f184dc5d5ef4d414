/-! the other short methods of GoldTouch -/
def bcU (x y : Int32) : Int32 := (x.toUInt32 >>> (y.toUInt32 &&& Int32.toUInt32 31)).toInt32
def bc1 (x : Int32) : Int32 := x - (bcU x 1 &&& 1431655765)
def bc2 (x : Int32) : Int32 := (x &&& 858993459) + (bcU x 2 &&& 858993459)
def bc3 (x : Int32) : Int32 := (x + bcU x 4) &&& 252645135
/-- Integer.bitCount -/
def bcJ (x : Int32) : Int32 := ((bc3 (bc2 (bc1 x)) + bcU (bc3 (bc2 (bc1 x))) 8) + bcU (bc3 (bc2 (bc1 x)) + bcU (bc3 (bc2 (bc1 x))) 8) 16) &&& 63
def rcX (σ : xm_M) : Nat := (σ.1 0 10).toNatClampNeg
def scX (σ : xm_M) : Nat := (σ.1 0 16).toNatClampNeg
def miX (σ : xm_M) : Nat := (σ.1 16 0).toNatClampNeg
def vR (σ : xm_M) : Prop := σ.1 0 10 = nI (rcX σ) ∧ rcX σ ≤ 8
def vS (σ : xm_M) : Prop := σ.1 0 16 = nI (scX σ) ∧ scX σ ≤ 6
def vM (σ : xm_M) : Prop := σ.1 16 0 = nI (miX σ) ∧ miX σ ≤ 24
def f_bathe (σ : xm_M) : Int32 × xm_M := if 24 ≤ σ.1 16 0 then (-5, σ) else ((pasX (xm_set (remX σ) 16 1 ((remX σ).1 16 1 ||| (1 <<< ((remX σ).1 16 0 &&& 31)))) 16).1 16 0, pasX (xm_set (remX σ) 16 1 ((remX σ).1 16 1 ||| (1 <<< ((remX σ).1 16 0 &&& 31)))) 16)
def f_idle (σ : xm_M) : Int32 × xm_M := if 24 ≤ σ.1 16 0 then (-5, σ) else ((pasX (remX σ) 16).1 16 0, pasX (remX σ) 16)
def f_undo (σ : xm_M) : Int32 × xm_M := if σ.1 0 6 ≤ 0 then (-4, σ) else (σ.1 0 6 - 1, dcp (xm_set σ 0 6 (σ.1 0 6 - 1)) 16 (pdX σ (pcX σ - 1)))
def f_keep (σ : xm_M) (x : Int32) : Int32 × xm_M := if x < 0 ∨ 2 ≤ x then (-2, σ) else (σ.1 16 0, xm_set (dcp σ (34 + ixN x) 16) 0 8 (σ.1 0 8 ||| (1 <<< (x &&& 31))))
def f_back (σ : xm_M) (x : Int32) : Int32 × xm_M := if x < 0 ∨ 2 ≤ x then (-2, σ) else if hb (σ.1 0 8) x = false then (-4, σ) else (σ.1 (34 + ixN x) 0, xm_set (dcp σ 16 (34 + ixN x)) 0 6 0)
def f_put (σ : xm_M) (x : Int32) : Int32 × xm_M := if isT σ x = false then (-2, σ) else if 8 ≤ σ.1 0 10 then (-5, σ) else (σ.1 0 10 + 1, xm_set (xm_set σ 20 (rcX σ) x) 0 10 (σ.1 0 10 + 1))
def f_task (σ : xm_M) (x : Int32) : Int32 × xm_M := if isT σ x = false then (-2, σ) else if hb (σ.1 0 11) x then (-4, σ) else if 4 ≤ bcJ (σ.1 0 11) then (-5, σ) else (bcJ (σ.1 0 11 ||| (1 <<< (x &&& 31))), xm_set σ 0 11 (σ.1 0 11 ||| (1 <<< (x &&& 31))))
def f_look (σ : xm_M) (x y z : Int32) : Int32 × xm_M := if isT σ x = false then (-2, σ) else if y < 0 ∨ σ.1 16 0 ≤ y ∨ z < 0 ∨ 1 < z then (-3, σ) else if 6 ≤ σ.1 0 16 then (-5, σ) else (σ.1 0 16 + 1, xm_set (xm_set (xm_set (xm_set σ 23 (scX σ) x) 24 (scX σ) y) 25 (scX σ) z) 0 16 (σ.1 0 16 + 1))
def f_count (σ : xm_M) (y : Int32) : Int32 := if y = 0 then σ.1 1 5 else if y = 1 then σ.1 1 6 else if y = 2 then σ.1 1 7 else if y = 3 then σ.1 1 8 else if y = 4 then σ.1 16 0 else if y = 5 then σ.1 16 3 ||| σ.1 16 2 else if y = 6 then σ.1 16 4 else if y = 7 then σ.1 16 5 else if y = 8 then σ.1 0 10 else if y = 9 then bcJ (σ.1 0 11) else if y = 10 then σ.1 0 16 else if y = 11 then σ.1 0 6 else if y = 12 then σ.1 13 1 else -3
/-- the day ahead, with this gold for ever -/
def ahd (σ : xm_M) (ev : Int32) : xm_M := xm_set (dcp σ 17 16) 17 3 ev
def evR (σ : xm_M) : Nat → Int32
  | 0 => σ.1 16 3
  | k + 1 => evR σ k ||| (1 <<< (σ.1 20 k &&& 31))
def goR (σ : xm_M) (y : Int32) : Nat → Nat → Int32
  | 0, _ => -1
  | n + 1, k => if vFO (ovX (ahd σ (evR σ (k + 1))) 17) 3 0 = -1 then goR σ y n (k + 1) else if y = 0 then nI k else vFO (ovX (ahd σ (evR σ (k + 1))) 17) 3 0
def f_goes (σ : xm_M) (y : Int32) : Int32 := if y < 0 ∨ 1 < y then -3 else goR σ y (rcX σ) 0
/-- the day ahead, behind k rests -/
def psR (σ : xm_M) : Nat → xm_M
  | 0 => dcp σ 17 16
  | k + 1 => pasX (psR σ k) 17
def prK (σ : xm_M) (k : Nat) : Int32 := sumI (nX (psR σ k)) (prX (psR σ k) 17)
def f_price (σ : xm_M) (x : Int32) : Int32 := if x < σ.1 16 0 ∨ 24 < x then -3 else prK σ (ixN x - miX σ)
def slR (σ : xm_M) : Nat → Int32 × Int32
  | 0 => (-1, -1)
  | k + 1 => if (slR σ k).2 < prK σ k then (nI (miX σ + k), prK σ k) else slR σ k
def f_sell (σ : xm_M) (y : Int32) : Int32 := if y < 0 ∨ 1 < y then -3 else if y = 0 then (slR σ (25 - miX σ)).1 else (slR σ (25 - miX σ)).2
def sm17 (σ τ : xm_M) : Prop := ∀ c, c ≠ 17 → τ.1 c = σ.1 c
theorem psR_sm {σ : xm_M} : ∀ k, sm17 σ (psR σ k)
  | 0 => fun c h => dcp_ne h
  | k + 1 => fun c h => (pasX_ne h).trans (psR_sm k c h)
theorem ahd_sm {σ : xm_M} {ev : Int32} : sm17 σ (ahd σ ev) := fun c h => (funext fun _ => xs_ne h).trans (dcp_ne h)
section GT3
variable {d : Nat} {σ : xm_M} {Q : Option Value → xm_M → Prop}
theorem S_J6_bitCount_0f7a4 {x : Int32} (h : Q (some (.int (bcJ x))) σ) : xg_C d mJ6_bitCount_0f7a4 [.int x] σ Q := by
  refine xg_C_of py_J6_bitCount_0f7a4 (Nat.le_of_ble_eq_true rfl) ?_
  show xg_X none d mJ6_bitCount_0f7a4 0 [(0, .int x)] [] σ Q
  refine X_ildn0 1 dJ6_bitCount_0f7a4_0 rfl rfl ?_
  refine X_ildn0 2 dJ6_bitCount_0f7a4_1 rfl rfl ?_
  refine X_iconst 1 3 dJ6_bitCount_0f7a4_2 (by decide) rfl ?_
  refine X_iushr 4 dJ6_bitCount_0f7a4_3 rfl ?_
  refine X_ldcw 1431655765 7 dJ6_bitCount_0f7a4_4 ci_J6_265 rfl ?_
  refine X_iand 8 dJ6_bitCount_0f7a4_7 rfl ?_
  refine X_isub 9 dJ6_bitCount_0f7a4_8 rfl ?_
  refine X_istn0 10 dJ6_bitCount_0f7a4_9 rfl rfl rfl rfl ?_
  refine X_ildn0 11 dJ6_bitCount_0f7a4_10 rfl rfl ?_
  refine X_ldcw 858993459 14 dJ6_bitCount_0f7a4_11 ci_J6_266 rfl ?_
  refine X_iand 15 dJ6_bitCount_0f7a4_14 rfl ?_
  refine X_ildn0 16 dJ6_bitCount_0f7a4_15 rfl rfl ?_
  refine X_iconst 2 17 dJ6_bitCount_0f7a4_16 (by decide) rfl ?_
  refine X_iushr 18 dJ6_bitCount_0f7a4_17 rfl ?_
  refine X_ldcw 858993459 21 dJ6_bitCount_0f7a4_18 ci_J6_266 rfl ?_
  refine X_iand 22 dJ6_bitCount_0f7a4_21 rfl ?_
  refine X_iadd 23 dJ6_bitCount_0f7a4_22 rfl ?_
  refine X_istn0 24 dJ6_bitCount_0f7a4_23 rfl rfl rfl rfl ?_
  refine X_ildn0 25 dJ6_bitCount_0f7a4_24 rfl rfl ?_
  refine X_ildn0 26 dJ6_bitCount_0f7a4_25 rfl rfl ?_
  refine X_iconst 4 27 dJ6_bitCount_0f7a4_26 (by decide) rfl ?_
  refine X_iushr 28 dJ6_bitCount_0f7a4_27 rfl ?_
  refine X_iadd 29 dJ6_bitCount_0f7a4_28 rfl ?_
  refine X_ldcw 252645135 32 dJ6_bitCount_0f7a4_29 ci_J6_267 rfl ?_
  refine X_iand 33 dJ6_bitCount_0f7a4_32 rfl ?_
  refine X_istn0 34 dJ6_bitCount_0f7a4_33 rfl rfl rfl rfl ?_
  refine X_ildn0 35 dJ6_bitCount_0f7a4_34 rfl rfl ?_
  refine X_ildn0 36 dJ6_bitCount_0f7a4_35 rfl rfl ?_
  refine X_bipush 8 38 dJ6_bitCount_0f7a4_36 (by decide) rfl ?_
  refine X_iushr 39 dJ6_bitCount_0f7a4_38 rfl ?_
  refine X_iadd 40 dJ6_bitCount_0f7a4_39 rfl ?_
  refine X_istn0 41 dJ6_bitCount_0f7a4_40 rfl rfl rfl rfl ?_
  refine X_ildn0 42 dJ6_bitCount_0f7a4_41 rfl rfl ?_
  refine X_ildn0 43 dJ6_bitCount_0f7a4_42 rfl rfl ?_
  refine X_bipush 16 45 dJ6_bitCount_0f7a4_43 (by decide) rfl ?_
  refine X_iushr 46 dJ6_bitCount_0f7a4_45 rfl ?_
  refine X_iadd 47 dJ6_bitCount_0f7a4_46 rfl ?_
  refine X_istn0 48 dJ6_bitCount_0f7a4_47 rfl rfl rfl rfl ?_
  refine X_ildn0 49 dJ6_bitCount_0f7a4_48 rfl rfl ?_
  refine X_bipush 63 51 dJ6_bitCount_0f7a4_49 (by decide) rfl ?_
  refine X_iand 52 dJ6_bitCount_0f7a4_51 rfl ?_
  refine X_iret dJ6_bitCount_0f7a4_52 rfl ?_
  refine Qi h ?_
  simp only [bcJ, bc3, bc2, bc1, bcU]
theorem S_X4_bathe (hv : vX σ) (hp : vPa σ) (h : Q (some (.int (f_bathe σ).1)) (f_bathe σ).2) : xg_C (d + 5) mX4_bathe [.ref 0] σ Q := by
  refine xg_C_of py_X4_bathe (Nat.le_of_ble_eq_true rfl) ?_
  show xg_X none (d + 5) mX4_bathe 0 [(0, .ref 0)] [] σ Q
  have e1 : (remX σ).1 1 = σ.1 1 := remX_ne hp (by decide) (by decide) (by decide)
  refine X_aldn0 1 dX4_bathe_0 rfl rfl ?_
  refine X_getA 16 4 dX4_bathe_1 fl_X4_29 rfl rfl ?_
  refine X_getI 7 dX4_bathe_4 fl_X4_150 rfl rfl ?_
  refine X_bipush 24 9 dX4_bathe_7 (by decide) rfl ?_
  refine X_iclt 15 12 dX4_bathe_9 (by decide) rfl (fun c9 => ?_) (fun c9 => ?_)
  · refine X_aldn0 16 dX4_bathe_15 rfl rfl ?_
    refine X_callV0 4 19 dX4_bathe_16 cw_X4_163 zk_X4_remember ⟨rfl, rfl⟩ rfl rfl rfl (S_X4_remember hp ?_)
    refine X_pn ?_
    refine X_aldn0 20 dX4_bathe_19 rfl rfl ?_
    refine X_getA 16 23 dX4_bathe_20 fl_X4_29 rfl rfl ?_
    refine X_dup 24 dX4_bathe_23 rfl rfl ?_
    refine X_getI 27 dX4_bathe_24 fl_X4_140 rfl rfl ?_
    refine X_iconst 1 28 dX4_bathe_27 (by decide) rfl ?_
    refine X_aldn0 29 dX4_bathe_28 rfl rfl ?_
    refine X_getA 16 32 dX4_bathe_29 fl_X4_29 rfl rfl ?_
    refine X_getI 35 dX4_bathe_32 fl_X4_150 rfl rfl ?_
    refine X_ishl 36 dX4_bathe_35 rfl ?_
    refine X_ior 37 dX4_bathe_36 rfl ?_
    refine X_putI 40 dX4_bathe_37 fp_X4_140 rfl rfl ?_
    refine X_aldn0 41 dX4_bathe_40 rfl rfl ?_
    refine X_getA 16 44 dX4_bathe_41 fl_X4_29 rfl rfl ?_
    refine X_aldn0 45 dX4_bathe_44 rfl rfl ?_
    refine X_getA 1 48 dX4_bathe_45 fl_X4_10 rfl rfl ?_
    refine X_callV1 1 51 dX4_bathe_48 cw_X4_166 zk_X1_pass ⟨rfl, rfl⟩ rfl rfl rfl (S_X1_pass (Or.inl rfl) (vX_set (by decide) (vX_of e1 hv)) ?_)
    refine X_pn ?_
    refine X_aldn0 52 dX4_bathe_51 rfl rfl ?_
    refine X_getA 16 55 dX4_bathe_52 fl_X4_29 rfl rfl ?_
    refine X_getI 58 dX4_bathe_55 fl_X4_150 rfl rfl ?_
    refine X_iret dX4_bathe_58 rfl ?_
    refine Qp h ?_
    rw [f_bathe, if_neg (by rw [i_nle]; exact c9)]
  · refine X_bipush (-5) 14 dX4_bathe_12 (by decide) rfl ?_
    refine X_iret dX4_bathe_14 rfl ?_
    refine Qp h ?_
    rw [f_bathe, if_pos (by rw [i_nlt] at c9; exact c9)]
theorem S_X4_idle (hv : vX σ) (hp : vPa σ) (h : Q (some (.int (f_idle σ).1)) (f_idle σ).2) : xg_C (d + 5) mX4_idle [.ref 0] σ Q := by
  refine xg_C_of py_X4_idle (Nat.le_of_ble_eq_true rfl) ?_
  show xg_X none (d + 5) mX4_idle 0 [(0, .ref 0)] [] σ Q
  have e1 : (remX σ).1 1 = σ.1 1 := remX_ne hp (by decide) (by decide) (by decide)
  refine X_aldn0 1 dX4_idle_0 rfl rfl ?_
  refine X_getA 16 4 dX4_idle_1 fl_X4_29 rfl rfl ?_
  refine X_getI 7 dX4_idle_4 fl_X4_150 rfl rfl ?_
  refine X_bipush 24 9 dX4_idle_7 (by decide) rfl ?_
  refine X_iclt 15 12 dX4_idle_9 (by decide) rfl (fun c9 => ?_) (fun c9 => ?_)
  · refine X_aldn0 16 dX4_idle_15 rfl rfl ?_
    refine X_callV0 4 19 dX4_idle_16 cw_X4_163 zk_X4_remember ⟨rfl, rfl⟩ rfl rfl rfl (S_X4_remember hp ?_)
    refine X_pn ?_
    refine X_aldn0 20 dX4_idle_19 rfl rfl ?_
    refine X_getA 16 23 dX4_idle_20 fl_X4_29 rfl rfl ?_
    refine X_aldn0 24 dX4_idle_23 rfl rfl ?_
    refine X_getA 1 27 dX4_idle_24 fl_X4_10 rfl rfl ?_
    refine X_callV1 1 30 dX4_idle_27 cw_X4_166 zk_X1_pass ⟨rfl, rfl⟩ rfl rfl rfl (S_X1_pass (Or.inl rfl) (vX_of e1 hv) ?_)
    refine X_pn ?_
    refine X_aldn0 31 dX4_idle_30 rfl rfl ?_
    refine X_getA 16 34 dX4_idle_31 fl_X4_29 rfl rfl ?_
    refine X_getI 37 dX4_idle_34 fl_X4_150 rfl rfl ?_
    refine X_iret dX4_idle_37 rfl ?_
    refine Qp h ?_
    rw [f_idle, if_neg (by rw [i_nle]; exact c9)]
  · refine X_bipush (-5) 14 dX4_idle_12 (by decide) rfl ?_
    refine X_iret dX4_idle_14 rfl ?_
    refine Qp h ?_
    rw [f_idle, if_pos (by rw [i_nlt] at c9; exact c9)]
theorem S_X4_undo (hp : vPa σ) (h : Q (some (.int (f_undo σ).1)) (f_undo σ).2) : xg_C (d + 1) mX4_undo [.ref 0] σ Q := by
  refine xg_C_of py_X4_undo (Nat.le_of_ble_eq_true rfl) ?_
  show xg_X none (d + 1) mX4_undo 0 [(0, .ref 0)] [] σ Q
  obtain ⟨h1, h2, h3⟩ := hp
  refine X_aldn0 1 dX4_undo_0 rfl rfl ?_
  refine X_getI 4 dX4_undo_1 fl_X4_169 rfl rfl ?_
  refine X_ifgt 10 7 dX4_undo_4 (by decide) rfl (fun c4 => ?_) (fun c4 => ?_)
  · have p0 : 0 < pcX σ := by
      rw [h2] at c4
      exact (nI_ltI (by decide) (by omega)).mp c4
    have hq := h1 (pcX σ - 1) (by omega)
    refine X_aldn0 11 dX4_undo_10 rfl rfl ?_
    refine X_dup 12 dX4_undo_11 rfl rfl ?_
    refine X_getI 15 dX4_undo_12 fl_X4_169 rfl rfl ?_
    refine X_iconst 1 16 dX4_undo_15 (by decide) rfl ?_
    refine X_isub 17 dX4_undo_16 rfl ?_
    refine X_putI 20 dX4_undo_17 fp_X4_169 rfl rfl ?_
    refine X_aldn0 21 dX4_undo_20 rfl rfl ?_
    refine X_getA 16 24 dX4_undo_21 fl_X4_29 rfl rfl ?_
    refine X_aldn0 25 dX4_undo_24 rfl rfl ?_
    refine X_getA 18 28 dX4_undo_25 fl_X4_36 rfl rfl ?_
    refine X_aldn0 29 dX4_undo_28 rfl rfl ?_
    refine X_getI 32 dX4_undo_29 fl_X4_169 rfl rfl ?_
    refine X_aalk (pcX σ - 1) (pdX σ (pcX σ - 1)) 33 dX4_undo_32 rfl rfl (by rw [xs_eq, h2, show (1 : Int32) = nI 1 by decide, pk_sub p0]) (show pcX σ - 1 < 8 by omega) (by rw [xs_ne (by decide)]; exact hq.1) (by omega) ?_
    refine X_callV1 1 36 dX4_undo_33 cw_X4_172 zk_X1_copyFrom ⟨rfl, rfl⟩ rfl rfl rfl (S_X1_copyFrom (Or.inl rfl) (Or.inr (Or.inr ⟨hq.2.1, by omega⟩)) (by omega) ?_)
    refine X_pn ?_
    refine X_aldn0 37 dX4_undo_36 rfl rfl ?_
    refine X_getI 40 dX4_undo_37 fl_X4_169 rfl rfl ?_
    refine X_iret dX4_undo_40 rfl ?_
    refine Qp h ?_
    rw [f_undo, if_neg (by rw [i_nle]; exact c4), dcp_ne (by decide), xs_eq]
  · refine X_bipush (-4) 9 dX4_undo_7 (by decide) rfl ?_
    refine X_iret dX4_undo_9 rfl ?_
    refine Qp h ?_
    rw [f_undo, if_pos (by rw [i_nlt] at c4; exact c4)]
theorem S_X4_keep {x : Int32} (hk : vKp σ) (h : Q (some (.int (f_keep σ x).1)) (f_keep σ x).2) : xg_C (d + 1) mX4_keep [.ref 0, .int x] σ Q := by
  refine xg_C_of py_X4_keep (Nat.le_of_ble_eq_true rfl) ?_
  show xg_X none (d + 1) mX4_keep 0 [(0, .ref 0), (1, .int x)] [] σ Q
  refine X_ildn1 1 dX4_keep_0 rfl rfl ?_
  refine X_iflt 9 4 dX4_keep_1 (by decide) rfl (fun c1 => ?_) (fun c1 => ?_)
  · refine X_bipush (-2) 11 dX4_keep_9 (by decide) rfl ?_
    refine X_iret dX4_keep_11 rfl ?_
    refine Qp h ?_
    (try simp only [i_nlt, i_nle] at *)
    grind [f_keep]
  · refine X_ildn1 5 dX4_keep_4 rfl rfl ?_
    refine X_iconst 2 6 dX4_keep_5 (by decide) rfl ?_
    refine X_iclt 12 9 dX4_keep_6 (by decide) rfl (fun c6 => ?_) (fun c6 => ?_)
    · obtain ⟨i, hi, rfl⟩ := lt_nI (n := 2) (by decide) (by rw [i_nlt] at c1; exact c1) c6
      have e := ixN_nI (i := i) (by omega)
      have hq : σ.1 19 i = nI (34 + i) := by
        rcases (by omega : i = 0 ∨ i = 1) with rfl | rfl
        · exact hk.1
        · exact hk.2
      refine X_aldn0 13 dX4_keep_12 rfl rfl ?_
      refine X_getA 19 16 dX4_keep_13 fl_X4_40 rfl rfl ?_
      refine X_ildn1 17 dX4_keep_16 rfl rfl ?_
      refine X_aalk i (34 + i) 18 dX4_keep_17 rfl rfl rfl (show i < 2 by omega) hq (by omega) ?_
      refine X_aldn0 19 dX4_keep_18 rfl rfl ?_
      refine X_getA 16 22 dX4_keep_19 fl_X4_29 rfl rfl ?_
      refine X_callV1 1 25 dX4_keep_22 cw_X4_172 zk_X1_copyFrom ⟨rfl, rfl⟩ (oc_day (Or.inr (Or.inr ⟨by omega, by omega⟩))) rfl rfl (S_X1_copyFrom (Or.inr (Or.inr ⟨by omega, by omega⟩)) (Or.inl rfl) (by omega) ?_)
      refine X_pn ?_
      refine X_aldn0 26 dX4_keep_25 rfl rfl ?_
      refine X_dup 27 dX4_keep_26 rfl rfl ?_
      refine X_getI 30 dX4_keep_27 fl_X4_175 rfl rfl ?_
      refine X_iconst 1 31 dX4_keep_30 (by decide) rfl ?_
      refine X_ildn1 32 dX4_keep_31 rfl rfl ?_
      refine X_ishl 33 dX4_keep_32 rfl ?_
      refine X_ior 34 dX4_keep_33 rfl ?_
      refine X_putI 37 dX4_keep_34 fp_X4_175 rfl rfl ?_
      refine X_aldn0 38 dX4_keep_37 rfl rfl ?_
      refine X_getA 16 41 dX4_keep_38 fl_X4_29 rfl rfl ?_
      refine X_getI 44 dX4_keep_41 fl_X4_150 rfl rfl ?_
      refine X_iret dX4_keep_44 rfl ?_
      refine Qp h ?_
      rw [f_keep, if_neg (fun q => q.elim c1 (fun q => absurd c6 (by rw [i_nlt]; exact q))), e, xs_ne (by decide), dcp_ne (by omega), dcp_ne (by omega)]
    · refine X_bipush (-2) 11 dX4_keep_9 (by decide) rfl ?_
      refine X_iret dX4_keep_11 rfl ?_
      refine Qp h ?_
      (try simp only [i_nlt, i_nle] at *)
      grind [f_keep]
theorem S_X4_back {x : Int32} (hk : vKp σ) (h : Q (some (.int (f_back σ x).1)) (f_back σ x).2) : xg_C (d + 1) mX4_back [.ref 0, .int x] σ Q := by
  refine xg_C_of py_X4_back (Nat.le_of_ble_eq_true rfl) ?_
  show xg_X none (d + 1) mX4_back 0 [(0, .ref 0), (1, .int x)] [] σ Q
  refine X_ildn1 1 dX4_back_0 rfl rfl ?_
  refine X_iflt 9 4 dX4_back_1 (by decide) rfl (fun c1 => ?_) (fun c1 => ?_)
  · refine X_bipush (-2) 11 dX4_back_9 (by decide) rfl ?_
    refine X_iret dX4_back_11 rfl ?_
    refine Qp h ?_
    (try simp only [i_nlt, i_nle] at *)
    grind [f_back]
  · refine X_ildn1 5 dX4_back_4 rfl rfl ?_
    refine X_iconst 2 6 dX4_back_5 (by decide) rfl ?_
    refine X_iclt 12 9 dX4_back_6 (by decide) rfl (fun c6 => ?_) (fun c6 => ?_)
    · have cn : ¬ (x < 0 ∨ 2 ≤ x) := fun q => q.elim c1 (fun q => absurd c6 (by rw [i_nlt]; exact q))
      obtain ⟨i, hi, rfl⟩ := lt_nI (n := 2) (by decide) (by rw [i_nlt] at c1; exact c1) c6
      have e := ixN_nI (i := i) (by omega)
      have hq : σ.1 19 i = nI (34 + i) := by
        rcases (by omega : i = 0 ∨ i = 1) with rfl | rfl
        · exact hk.1
        · exact hk.2
      refine X_aldn0 13 dX4_back_12 rfl rfl ?_
      refine X_getI 16 dX4_back_13 fl_X4_175 rfl rfl ?_
      refine X_ildn1 17 dX4_back_16 rfl rfl ?_
      refine X_callS2 20 dX4_back_17 cw_X4_107 zk_X4_hasBit rfl rfl (S_X4_hasBit ?_)
      refine X_pu ?_
      refine X_ifne 26 23 dX4_back_20 (by decide) rfl (fun c20 => ?_) (fun c20 => ?_)
      · refine X_aldn0 27 dX4_back_26 rfl rfl ?_
        refine X_getA 16 30 dX4_back_27 fl_X4_29 rfl rfl ?_
        refine X_aldn0 31 dX4_back_30 rfl rfl ?_
        refine X_getA 19 34 dX4_back_31 fl_X4_40 rfl rfl ?_
        refine X_ildn1 35 dX4_back_34 rfl rfl ?_
        refine X_aalk i (34 + i) 36 dX4_back_35 rfl rfl rfl (show i < 2 by omega) hq (by omega) ?_
        refine X_callV1 1 39 dX4_back_36 cw_X4_172 zk_X1_copyFrom ⟨rfl, rfl⟩ rfl rfl rfl (S_X1_copyFrom (Or.inl rfl) (Or.inr (Or.inr ⟨by omega, by omega⟩)) (by omega) ?_)
        refine X_pn ?_
        refine X_aldn0 40 dX4_back_39 rfl rfl ?_
        refine X_iconst 0 41 dX4_back_40 (by decide) rfl ?_
        refine X_putI 44 dX4_back_41 fp_X4_169 rfl rfl ?_
        refine X_aldn0 45 dX4_back_44 rfl rfl ?_
        refine X_getA 16 48 dX4_back_45 fl_X4_29 rfl rfl ?_
        refine X_getI 51 dX4_back_48 fl_X4_150 rfl rfl ?_
        refine X_iret dX4_back_51 rfl ?_
        refine Qp h ?_
        rw [f_back, if_neg cn, if_neg (by rw [b2i_n] at c20; rw [c20]; decide), e, xs_ne (by decide)]
        rfl
      · refine X_bipush (-4) 25 dX4_back_23 (by decide) rfl ?_
        refine X_iret dX4_back_25 rfl ?_
        refine Qp h ?_
        rw [f_back, if_neg cn, if_pos (b2i_0.mp c20)]
    · refine X_bipush (-2) 11 dX4_back_9 (by decide) rfl ?_
      refine X_iret dX4_back_11 rfl ?_
      refine Qp h ?_
      (try simp only [i_nlt, i_nle] at *)
      grind [f_back]
theorem S_X4_put {x : Int32} (hv : vX σ) (hr : vR σ) (h : Q (some (.int (f_put σ x).1)) (f_put σ x).2) : xg_C (d + 1) mX4_put [.ref 0, .int x] σ Q := by
  refine xg_C_of py_X4_put (Nat.le_of_ble_eq_true rfl) ?_
  show xg_X none (d + 1) mX4_put 0 [(0, .ref 0), (1, .int x)] [] σ Q
  obtain ⟨h1, h2⟩ := hr
  refine X_aldn0 1 dX4_put_0 rfl rfl ?_
  refine X_ildn1 2 dX4_put_1 rfl rfl ?_
  refine X_callV1 4 5 dX4_put_2 cw_X4_84 zk_X4_isThing ⟨rfl, rfl⟩ rfl rfl rfl (S_isT ?_)
  refine X_pu ?_
  refine X_ifne 11 8 dX4_put_5 (by decide) rfl (fun c5 => ?_) (fun c5 => ?_)
  · rw [b2i_n] at c5
    refine X_aldn0 12 dX4_put_11 rfl rfl ?_
    refine X_getI 15 dX4_put_12 fl_X4_194 rfl rfl ?_
    refine X_bipush 8 17 dX4_put_15 (by decide) rfl ?_
    refine X_iclt 23 20 dX4_put_17 (by decide) rfl (fun c17 => ?_) (fun c17 => ?_)
    · refine X_aldn0 24 dX4_put_23 rfl rfl ?_
      refine X_getA 20 27 dX4_put_24 fl_X4_43 rfl rfl ?_
      refine X_aldn0 28 dX4_put_27 rfl rfl ?_
      refine X_getI 31 dX4_put_28 fl_X4_194 rfl rfl ?_
      refine X_ildn1 32 dX4_put_31 rfl rfl ?_
      refine X_iask (rcX σ) 33 dX4_put_32 rfl rfl h1 (by rw [h1] at c17; exact (nI_ltI (by omega) (by decide)).mp c17) ?_
      refine X_aldn0 34 dX4_put_33 rfl rfl ?_
      refine X_dup 35 dX4_put_34 rfl rfl ?_
      refine X_getI 38 dX4_put_35 fl_X4_194 rfl rfl ?_
      refine X_iconst 1 39 dX4_put_38 (by decide) rfl ?_
      refine X_iadd 40 dX4_put_39 rfl ?_
      refine X_putI 43 dX4_put_40 fp_X4_194 rfl rfl ?_
      refine X_aldn0 44 dX4_put_43 rfl rfl ?_
      refine X_getI 47 dX4_put_44 fl_X4_194 rfl rfl ?_
      refine X_iret dX4_put_47 rfl ?_
      refine Qp h ?_
      rw [xs_eq, xs_ne (by decide)]
      (try simp only [i_nlt, i_nle] at *)
      grind [f_put]
    · refine X_bipush (-5) 22 dX4_put_20 (by decide) rfl ?_
      refine X_iret dX4_put_22 rfl ?_
      refine Qp h ?_
      (try simp only [i_nlt, i_nle] at *)
      grind [f_put]
  · rw [b2i_0] at c5
    refine X_bipush (-2) 10 dX4_put_8 (by decide) rfl ?_
    refine X_iret dX4_put_10 rfl ?_
    refine Qp h ?_
    (try simp only [i_nlt, i_nle] at *)
    grind [f_put]
theorem S_X4_wipe (h : Q (some (.int (σ.1 0 10))) (xm_set σ 0 10 0)) : xg_C d mX4_wipe [.ref 0] σ Q := by
  refine xg_C_of py_X4_wipe (Nat.le_of_ble_eq_true rfl) ?_
  show xg_X none d mX4_wipe 0 [(0, .ref 0)] [] σ Q
  refine X_aldn0 1 dX4_wipe_0 rfl rfl ?_
  refine X_getI 4 dX4_wipe_1 fl_X4_194 rfl rfl ?_
  refine X_istnN 5 dX4_wipe_4 rfl rfl rfl rfl ?_
  refine X_aldn1 6 dX4_wipe_5 rfl rfl ?_
  refine X_iconst 0 7 dX4_wipe_6 (by decide) rfl ?_
  refine X_putI 10 dX4_wipe_7 fp_X4_194 rfl rfl ?_
  refine X_ildn0 11 dX4_wipe_10 rfl rfl ?_
  refine X_iret dX4_wipe_11 rfl ?_
  exact h
theorem S_X4_forget (h : Q (some (.int (σ.1 0 16))) (xm_set σ 0 16 0)) : xg_C d mX4_forget [.ref 0] σ Q := by
  refine xg_C_of py_X4_forget (Nat.le_of_ble_eq_true rfl) ?_
  show xg_X none d mX4_forget 0 [(0, .ref 0)] [] σ Q
  refine X_aldn0 1 dX4_forget_0 rfl rfl ?_
  refine X_getI 4 dX4_forget_1 fl_X4_221 rfl rfl ?_
  refine X_istnN 5 dX4_forget_4 rfl rfl rfl rfl ?_
  refine X_aldn1 6 dX4_forget_5 rfl rfl ?_
  refine X_iconst 0 7 dX4_forget_6 (by decide) rfl ?_
  refine X_putI 10 dX4_forget_7 fp_X4_221 rfl rfl ?_
  refine X_ildn0 11 dX4_forget_10 rfl rfl ?_
  refine X_iret dX4_forget_11 rfl ?_
  exact h
theorem S_X4_drop (h : Q (some (.int (bcJ (σ.1 0 11)))) (xm_set σ 0 11 0)) : xg_C (d + 1) mX4_drop [.ref 0] σ Q := by
  refine xg_C_of py_X4_drop (Nat.le_of_ble_eq_true rfl) ?_
  show xg_X none (d + 1) mX4_drop 0 [(0, .ref 0)] [] σ Q
  refine X_aldn0 1 dX4_drop_0 rfl rfl ?_
  refine X_getI 4 dX4_drop_1 fl_X4_133 rfl rfl ?_
  refine X_callS1 7 dX4_drop_4 cw_X4_197 zk_J6_bitCount_0f7a4 rfl rfl (S_J6_bitCount_0f7a4 ?_)
  refine X_pu ?_
  refine X_istnN 8 dX4_drop_7 rfl rfl rfl rfl ?_
  refine X_aldn1 9 dX4_drop_8 rfl rfl ?_
  refine X_iconst 0 10 dX4_drop_9 (by decide) rfl ?_
  refine X_putI 13 dX4_drop_10 fp_X4_133 rfl rfl ?_
  refine X_ildn0 14 dX4_drop_13 rfl rfl ?_
  refine X_iret dX4_drop_14 rfl ?_
  exact h
theorem S_X4_task {x : Int32} (h : Q (some (.int (f_task σ x).1)) (f_task σ x).2) : xg_C (d + 1) mX4_task [.ref 0, .int x] σ Q := by
  refine xg_C_of py_X4_task (Nat.le_of_ble_eq_true rfl) ?_
  show xg_X none (d + 1) mX4_task 0 [(0, .ref 0), (1, .int x)] [] σ Q
  refine X_aldn0 1 dX4_task_0 rfl rfl ?_
  refine X_ildn1 2 dX4_task_1 rfl rfl ?_
  refine X_callV1 4 5 dX4_task_2 cw_X4_84 zk_X4_isThing ⟨rfl, rfl⟩ rfl rfl rfl (S_isT ?_)
  refine X_pu ?_
  refine X_ifne 11 8 dX4_task_5 (by decide) rfl (fun c5 => ?_) (fun c5 => ?_)
  · refine X_aldn0 12 dX4_task_11 rfl rfl ?_
    refine X_getI 15 dX4_task_12 fl_X4_133 rfl rfl ?_
    refine X_ildn1 16 dX4_task_15 rfl rfl ?_
    refine X_callS2 19 dX4_task_16 cw_X4_107 zk_X4_hasBit rfl rfl (S_X4_hasBit ?_)
    refine X_pu ?_
    refine X_ifeq 25 22 dX4_task_19 (by decide) rfl (fun c19 => ?_) (fun c19 => ?_)
    · refine X_aldn0 26 dX4_task_25 rfl rfl ?_
      refine X_getI 29 dX4_task_26 fl_X4_133 rfl rfl ?_
      refine X_callS1 32 dX4_task_29 cw_X4_197 zk_J6_bitCount_0f7a4 rfl rfl (S_J6_bitCount_0f7a4 ?_)
      refine X_pu ?_
      refine X_iconst 4 33 dX4_task_32 (by decide) rfl ?_
      refine X_iclt 39 36 dX4_task_33 (by decide) rfl (fun c33 => ?_) (fun c33 => ?_)
      · refine X_aldn0 40 dX4_task_39 rfl rfl ?_
        refine X_dup 41 dX4_task_40 rfl rfl ?_
        refine X_getI 44 dX4_task_41 fl_X4_133 rfl rfl ?_
        refine X_iconst 1 45 dX4_task_44 (by decide) rfl ?_
        refine X_ildn1 46 dX4_task_45 rfl rfl ?_
        refine X_ishl 47 dX4_task_46 rfl ?_
        refine X_ior 48 dX4_task_47 rfl ?_
        refine X_putI 51 dX4_task_48 fp_X4_133 rfl rfl ?_
        refine X_aldn0 52 dX4_task_51 rfl rfl ?_
        refine X_getI 55 dX4_task_52 fl_X4_133 rfl rfl ?_
        refine X_callS1 58 dX4_task_55 cw_X4_197 zk_J6_bitCount_0f7a4 rfl rfl (S_J6_bitCount_0f7a4 ?_)
        refine X_pu ?_
        refine X_iret dX4_task_58 rfl ?_
        refine Qp h ?_
        rw [xs_eq]
        (try simp only [i_nlt, i_nle] at *)
        grind [f_task, b2i]
      · refine X_bipush (-5) 38 dX4_task_36 (by decide) rfl ?_
        refine X_iret dX4_task_38 rfl ?_
        refine Qp h ?_
        (try simp only [i_nlt, i_nle] at *)
        grind [f_task, b2i]
    · refine X_bipush (-4) 24 dX4_task_22 (by decide) rfl ?_
      refine X_iret dX4_task_24 rfl ?_
      refine Qp h ?_
      (try simp only [i_nlt, i_nle] at *)
      grind [f_task, b2i]
  · refine X_bipush (-2) 10 dX4_task_8 (by decide) rfl ?_
    refine X_iret dX4_task_10 rfl ?_
    refine Qp h ?_
    (try simp only [i_nlt, i_nle] at *)
    grind [f_task, b2i]
theorem S_X4_look {x y z : Int32} (hs : vS σ) (h : Q (some (.int (f_look σ x y z).1)) (f_look σ x y z).2) : xg_C (d + 1) mX4_look [.ref 0, .int x, .int y, .int z] σ Q := by
  refine xg_C_of py_X4_look (Nat.le_of_ble_eq_true rfl) ?_
  show xg_X none (d + 1) mX4_look 0 [(0, .ref 0), (1, .int x), (2, .int y), (3, .int z)] [] σ Q
  obtain ⟨h1, h2⟩ := hs
  refine X_aldn0 1 dX4_look_0 rfl rfl ?_
  refine X_ildn1 2 dX4_look_1 rfl rfl ?_
  refine X_callV1 4 5 dX4_look_2 cw_X4_84 zk_X4_isThing ⟨rfl, rfl⟩ rfl rfl rfl (S_isT ?_)
  refine X_pu ?_
  refine X_ifne 11 8 dX4_look_5 (by decide) rfl (fun c5 => ?_) (fun c5 => ?_)
  · refine X_ildn2 12 dX4_look_11 rfl rfl ?_
    refine X_iflt 35 15 dX4_look_12 (by decide) rfl (fun c12 => ?_) (fun c12 => ?_)
    · refine X_bipush (-3) 37 dX4_look_35 (by decide) rfl ?_
      refine X_iret dX4_look_37 rfl ?_
      refine Qp h ?_
      (try simp only [i_nlt, i_nle] at *)
      grind [f_look, b2i]
    · refine X_ildn2 16 dX4_look_15 rfl rfl ?_
      refine X_aldn0 17 dX4_look_16 rfl rfl ?_
      refine X_getA 16 20 dX4_look_17 fl_X4_29 rfl rfl ?_
      refine X_getI 23 dX4_look_20 fl_X4_150 rfl rfl ?_
      refine X_icge 35 26 dX4_look_23 (by decide) rfl (fun c23 => ?_) (fun c23 => ?_)
      · refine X_bipush (-3) 37 dX4_look_35 (by decide) rfl ?_
        refine X_iret dX4_look_37 rfl ?_
        refine Qp h ?_
        (try simp only [i_nlt, i_nle] at *)
        grind [f_look, b2i]
      · refine X_ildn3 27 dX4_look_26 rfl rfl ?_
        refine X_iflt 35 30 dX4_look_27 (by decide) rfl (fun c27 => ?_) (fun c27 => ?_)
        · refine X_bipush (-3) 37 dX4_look_35 (by decide) rfl ?_
          refine X_iret dX4_look_37 rfl ?_
          refine Qp h ?_
          (try simp only [i_nlt, i_nle] at *)
          grind [f_look, b2i]
        · refine X_ildn3 31 dX4_look_30 rfl rfl ?_
          refine X_iconst 1 32 dX4_look_31 (by decide) rfl ?_
          refine X_icle 38 35 dX4_look_32 (by decide) rfl (fun c32 => ?_) (fun c32 => ?_)
          · refine X_aldn0 39 dX4_look_38 rfl rfl ?_
            refine X_getI 42 dX4_look_39 fl_X4_221 rfl rfl ?_
            refine X_bipush 6 44 dX4_look_42 (by decide) rfl ?_
            refine X_iclt 50 47 dX4_look_44 (by decide) rfl (fun c44 => ?_) (fun c44 => ?_)
            · refine X_aldn0 51 dX4_look_50 rfl rfl ?_
              refine X_getA 23 54 dX4_look_51 fl_X4_54 rfl rfl ?_
              refine X_aldn0 55 dX4_look_54 rfl rfl ?_
              refine X_getI 58 dX4_look_55 fl_X4_221 rfl rfl ?_
              refine X_ildn1 59 dX4_look_58 rfl rfl ?_
              refine X_iask (scX σ) 60 dX4_look_59 rfl rfl h1 (by rw [h1] at c44; exact (nI_ltI (by omega) (by decide)).mp c44) ?_
              refine X_aldn0 61 dX4_look_60 rfl rfl ?_
              refine X_getA 24 64 dX4_look_61 fl_X4_57 rfl rfl ?_
              refine X_aldn0 65 dX4_look_64 rfl rfl ?_
              refine X_getI 68 dX4_look_65 fl_X4_221 rfl rfl ?_
              refine X_ildn2 69 dX4_look_68 rfl rfl ?_
              refine X_iask (scX σ) 70 dX4_look_69 rfl rfl (by rw [xs_ne (by decide)]; exact h1) (by rw [h1] at c44; exact (nI_ltI (by omega) (by decide)).mp c44) ?_
              refine X_aldn0 71 dX4_look_70 rfl rfl ?_
              refine X_getA 25 74 dX4_look_71 fl_X4_60 rfl rfl ?_
              refine X_aldn0 75 dX4_look_74 rfl rfl ?_
              refine X_getI 78 dX4_look_75 fl_X4_221 rfl rfl ?_
              refine X_ildn3 79 dX4_look_78 rfl rfl ?_
              refine X_iask (scX σ) 80 dX4_look_79 rfl rfl (by rw [xs_ne (by decide), xs_ne (by decide)]; exact h1) (by rw [h1] at c44; exact (nI_ltI (by omega) (by decide)).mp c44) ?_
              refine X_aldn0 81 dX4_look_80 rfl rfl ?_
              refine X_dup 82 dX4_look_81 rfl rfl ?_
              refine X_getI 85 dX4_look_82 fl_X4_221 rfl rfl ?_
              refine X_iconst 1 86 dX4_look_85 (by decide) rfl ?_
              refine X_iadd 87 dX4_look_86 rfl ?_
              refine X_putI 90 dX4_look_87 fp_X4_221 rfl rfl ?_
              refine X_aldn0 91 dX4_look_90 rfl rfl ?_
              refine X_getI 94 dX4_look_91 fl_X4_221 rfl rfl ?_
              refine X_iret dX4_look_94 rfl ?_
              refine Qp h ?_
              rw [xs_eq, xs_ne (by decide), xs_ne (by decide), xs_ne (by decide)]
              (try simp only [i_nlt, i_nle] at *)
              grind [f_look, b2i]
            · refine X_bipush (-5) 49 dX4_look_47 (by decide) rfl ?_
              refine X_iret dX4_look_49 rfl ?_
              refine Qp h ?_
              (try simp only [i_nlt, i_nle] at *)
              grind [f_look, b2i]
          · refine X_bipush (-3) 37 dX4_look_35 (by decide) rfl ?_
            refine X_iret dX4_look_37 rfl ?_
            refine Qp h ?_
            (try simp only [i_nlt, i_nle] at *)
            grind [f_look, b2i]
  · refine X_bipush (-2) 10 dX4_look_8 (by decide) rfl ?_
    refine X_iret dX4_look_10 rfl ?_
    refine Qp h ?_
    (try simp only [i_nlt, i_nle] at *)
    grind [f_look, b2i]
theorem S_X4_count {y : Int32} (h : Q (some (.int (f_count σ y))) σ) : xg_C (d + 1) mX4_count [.ref 0, .int y] σ Q := by
  refine xg_C_of py_X4_count (Nat.le_of_ble_eq_true rfl) ?_
  show xg_X none (d + 1) mX4_count 0 [(0, .ref 0), (1, .int y)] [] σ Q
  refine X_ildn1 1 dX4_count_0 rfl rfl ?_
  by_cases y1_0 : y = 0
  · refine X_tsw 68 dX4_count_1 (Or.inr (by rw [y1_0]; exact ⟨by decide, by decide, 67, by decide, by decide⟩)) ?_
    refine X_aldn0 69 dX4_count_68 rfl rfl ?_
    refine X_getA 1 72 dX4_count_69 fl_X4_10 rfl rfl ?_
    refine X_getI 75 dX4_count_72 fl_X4_215 rfl rfl ?_
    refine X_iret dX4_count_75 rfl ?_
    refine Qi h ?_
    simp_all [f_count]
  by_cases y1_1 : y = 1
  · refine X_tsw 76 dX4_count_1 (Or.inr (by rw [y1_1]; exact ⟨by decide, by decide, 75, by decide, by decide⟩)) ?_
    refine X_aldn0 77 dX4_count_76 rfl rfl ?_
    refine X_getA 1 80 dX4_count_77 fl_X4_10 rfl rfl ?_
    refine X_getI 83 dX4_count_80 fl_X4_248 rfl rfl ?_
    refine X_iret dX4_count_83 rfl ?_
    refine Qi h ?_
    simp_all [f_count]
  by_cases y1_2 : y = 2
  · refine X_tsw 84 dX4_count_1 (Or.inr (by rw [y1_2]; exact ⟨by decide, by decide, 83, by decide, by decide⟩)) ?_
    refine X_aldn0 85 dX4_count_84 rfl rfl ?_
    refine X_getA 1 88 dX4_count_85 fl_X4_10 rfl rfl ?_
    refine X_getI 91 dX4_count_88 fl_X4_251 rfl rfl ?_
    refine X_iret dX4_count_91 rfl ?_
    refine Qi h ?_
    simp_all [f_count]
  by_cases y1_3 : y = 3
  · refine X_tsw 92 dX4_count_1 (Or.inr (by rw [y1_3]; exact ⟨by decide, by decide, 91, by decide, by decide⟩)) ?_
    refine X_aldn0 93 dX4_count_92 rfl rfl ?_
    refine X_getA 1 96 dX4_count_93 fl_X4_10 rfl rfl ?_
    refine X_getI 99 dX4_count_96 fl_X4_254 rfl rfl ?_
    refine X_iret dX4_count_99 rfl ?_
    refine Qi h ?_
    simp_all [f_count]
  by_cases y1_4 : y = 4
  · refine X_tsw 100 dX4_count_1 (Or.inr (by rw [y1_4]; exact ⟨by decide, by decide, 99, by decide, by decide⟩)) ?_
    refine X_aldn0 101 dX4_count_100 rfl rfl ?_
    refine X_getA 16 104 dX4_count_101 fl_X4_29 rfl rfl ?_
    refine X_getI 107 dX4_count_104 fl_X4_150 rfl rfl ?_
    refine X_iret dX4_count_107 rfl ?_
    refine Qi h ?_
    simp_all [f_count]
  by_cases y1_5 : y = 5
  · refine X_tsw 108 dX4_count_1 (Or.inr (by rw [y1_5]; exact ⟨by decide, by decide, 107, by decide, by decide⟩)) ?_
    refine X_aldn0 109 dX4_count_108 rfl rfl ?_
    refine X_getA 16 112 dX4_count_109 fl_X4_29 rfl rfl ?_
    refine X_getI 115 dX4_count_112 fl_X4_182 rfl rfl ?_
    refine X_aldn0 116 dX4_count_115 rfl rfl ?_
    refine X_getA 16 119 dX4_count_116 fl_X4_29 rfl rfl ?_
    refine X_getI 122 dX4_count_119 fl_X4_257 rfl rfl ?_
    refine X_ior 123 dX4_count_122 rfl ?_
    refine X_iret dX4_count_123 rfl ?_
    refine Qi h ?_
    simp_all [f_count]
  by_cases y1_6 : y = 6
  · refine X_tsw 124 dX4_count_1 (Or.inr (by rw [y1_6]; exact ⟨by decide, by decide, 123, by decide, by decide⟩)) ?_
    refine X_aldn0 125 dX4_count_124 rfl rfl ?_
    refine X_getA 16 128 dX4_count_125 fl_X4_29 rfl rfl ?_
    refine X_getI 131 dX4_count_128 fl_X4_104 rfl rfl ?_
    refine X_iret dX4_count_131 rfl ?_
    refine Qi h ?_
    simp_all [f_count]
  by_cases y1_7 : y = 7
  · refine X_tsw 132 dX4_count_1 (Or.inr (by rw [y1_7]; exact ⟨by decide, by decide, 131, by decide, by decide⟩)) ?_
    refine X_aldn0 133 dX4_count_132 rfl rfl ?_
    refine X_getA 16 136 dX4_count_133 fl_X4_29 rfl rfl ?_
    refine X_getI 139 dX4_count_136 fl_X4_130 rfl rfl ?_
    refine X_iret dX4_count_139 rfl ?_
    refine Qi h ?_
    simp_all [f_count]
  by_cases y1_8 : y = 8
  · refine X_tsw 140 dX4_count_1 (Or.inr (by rw [y1_8]; exact ⟨by decide, by decide, 139, by decide, by decide⟩)) ?_
    refine X_aldn0 141 dX4_count_140 rfl rfl ?_
    refine X_getI 144 dX4_count_141 fl_X4_194 rfl rfl ?_
    refine X_iret dX4_count_144 rfl ?_
    refine Qi h ?_
    simp_all [f_count]
  by_cases y1_9 : y = 9
  · refine X_tsw 145 dX4_count_1 (Or.inr (by rw [y1_9]; exact ⟨by decide, by decide, 144, by decide, by decide⟩)) ?_
    refine X_aldn0 146 dX4_count_145 rfl rfl ?_
    refine X_getI 149 dX4_count_146 fl_X4_133 rfl rfl ?_
    refine X_callS1 152 dX4_count_149 cw_X4_197 zk_J6_bitCount_0f7a4 rfl rfl (S_J6_bitCount_0f7a4 ?_)
    refine X_pu ?_
    refine X_iret dX4_count_152 rfl ?_
    refine Qi h ?_
    simp_all [f_count]
  by_cases y1_10 : y = 10
  · refine X_tsw 153 dX4_count_1 (Or.inr (by rw [y1_10]; exact ⟨by decide, by decide, 152, by decide, by decide⟩)) ?_
    refine X_aldn0 154 dX4_count_153 rfl rfl ?_
    refine X_getI 157 dX4_count_154 fl_X4_221 rfl rfl ?_
    refine X_iret dX4_count_157 rfl ?_
    refine Qi h ?_
    simp_all [f_count]
  by_cases y1_11 : y = 11
  · refine X_tsw 158 dX4_count_1 (Or.inr (by rw [y1_11]; exact ⟨by decide, by decide, 157, by decide, by decide⟩)) ?_
    refine X_aldn0 159 dX4_count_158 rfl rfl ?_
    refine X_getI 162 dX4_count_159 fl_X4_169 rfl rfl ?_
    refine X_iret dX4_count_162 rfl ?_
    refine Qi h ?_
    simp_all [f_count]
  by_cases y1_12 : y = 12
  · refine X_tsw 163 dX4_count_1 (Or.inr (by rw [y1_12]; exact ⟨by decide, by decide, 162, by decide, by decide⟩)) ?_
    refine X_aldn0 164 dX4_count_163 rfl rfl ?_
    refine X_getA 13 167 dX4_count_164 fl_X4_22 rfl rfl ?_
    refine X_getI 170 dX4_count_167 fl_X4_63 rfl rfl ?_
    refine X_iret dX4_count_170 rfl ?_
    refine Qi h ?_
    simp_all [f_count]
  refine X_tsw 171 dX4_count_1 (Or.inl ⟨by have z0 := lv_neT y1_0 (a := 0) (by decide); have z1 := lv_neT y1_1 (a := 1) (by decide); have z2 := lv_neT y1_2 (a := 2) (by decide); have z3 := lv_neT y1_3 (a := 3) (by decide); have z4 := lv_neT y1_4 (a := 4) (by decide); have z5 := lv_neT y1_5 (a := 5) (by decide); have z6 := lv_neT y1_6 (a := 6) (by decide); have z7 := lv_neT y1_7 (a := 7) (by decide); have z8 := lv_neT y1_8 (a := 8) (by decide); have z9 := lv_neT y1_9 (a := 9) (by decide); have z10 := lv_neT y1_10 (a := 10) (by decide); have z11 := lv_neT y1_11 (a := 11) (by decide); have z12 := lv_neT y1_12 (a := 12) (by decide); omega, by decide⟩) ?_
  refine X_bipush (-3) 173 dX4_count_171 (by decide) rfl ?_
  refine X_iret dX4_count_173 rfl ?_
  refine Qi h ?_
  simp_all [f_count]
theorem S_X4_goes {y : Int32} (hv : vX σ) (hr : vR σ) (hrow : ∀ k, k < rcX σ → ∃ t, t < 8 ∧ σ.1 20 k = nI t) (h : ∀ τ, sm17 σ τ → Q (some (.int (f_goes σ y))) τ) : xg_C (d + 5) mX4_goes [.ref 0, .int y] σ Q := by
  refine xg_C_of py_X4_goes (Nat.le_of_ble_eq_true rfl) ?_
  show xg_X none (d + 5) mX4_goes 0 [(0, .ref 0), (1, .int y)] [] σ Q
  obtain ⟨hc, hc8⟩ := hr
  have loop : ∀ n k, k + n = rcX σ → (∀ τ, sm17 σ τ → Q (some (.int (goR σ y n k))) τ) → xg_X none (d + 5) mX4_goes 25 [(2, .int (nI k)), (0, .ref 0), (1, .int y)] [] (ahd σ (evR σ k)) Q := by
    intro n
    induction n with
    | zero =>
      intro k hk h
      obtain rfl : k = rcX σ := by omega
      refine X_ildn0 26 dX4_goes_25 rfl rfl ?_
      refine X_aldn1 27 dX4_goes_26 rfl rfl ?_
      refine X_getI 30 dX4_goes_27 fl_X4_194 rfl rfl ?_
      rw [ahd_sm 0 (by decide)]
      refine X_icge 86 33 dX4_goes_30 (by decide) rfl (fun c30 => ?_) (fun c30 => ?_)
      · refine X_iconst (-1) 87 dX4_goes_86 (by decide) rfl ?_
        refine X_iret dX4_goes_87 rfl ?_
        exact h _ ahd_sm
      · exact absurd (by rw [hc]; exact nI_le (Nat.le_refl _) (by omega)) c30
    | succ n ih =>
      intro k hk h
      obtain ⟨t, ht, et⟩ := hrow k (by omega)
      have ea : xm_set (ahd σ (evR σ k)) 17 3 ((ahd σ (evR σ k)).1 17 3 ||| (1 <<< (σ.1 20 k &&& 31))) = ahd σ (evR σ (k + 1)) := by
        unfold ahd
        rw [xs_xs, xs_eq, evR]
      refine X_ildn0 26 dX4_goes_25 rfl rfl ?_
      refine X_aldn1 27 dX4_goes_26 rfl rfl ?_
      refine X_getI 30 dX4_goes_27 fl_X4_194 rfl rfl ?_
      rw [ahd_sm 0 (by decide)]
      refine X_icge 86 33 dX4_goes_30 (by decide) rfl (fun c30 => ?_) (fun c30 => ?_)
      · have c30 := leq c30 hc (by omega) (by omega)
        omega
      · refine X_aldn1 34 dX4_goes_33 rfl rfl ?_
        refine X_getA 17 37 dX4_goes_34 fl_X4_33 rfl rfl ?_
        refine X_dup 38 dX4_goes_37 rfl rfl ?_
        refine X_getI 41 dX4_goes_38 fl_X4_182 rfl rfl ?_
        refine X_iconst 1 42 dX4_goes_41 (by decide) rfl ?_
        refine X_aldn1 43 dX4_goes_42 rfl rfl ?_
        refine X_getA 20 46 dX4_goes_43 fl_X4_43 rfl rfl ?_
        refine X_ildn0 47 dX4_goes_46 rfl rfl ?_
        refine X_ialk k 48 dX4_goes_47 rfl rfl rfl (show k < 8 by omega) ?_
        refine X_ishl 49 dX4_goes_48 rfl ?_
        refine X_ior 50 dX4_goes_49 rfl ?_
        rw [ahd_sm 20 (by decide)]
        refine X_putI 53 dX4_goes_50 fp_X4_182 rfl rfl ?_
        rw [ea]
        refine X_aldn1 54 dX4_goes_53 rfl rfl ?_
        refine X_getA 17 57 dX4_goes_54 fl_X4_33 rfl rfl ?_
        refine X_aldn1 58 dX4_goes_57 rfl rfl ?_
        refine X_getA 1 61 dX4_goes_58 fl_X4_10 rfl rfl ?_
        refine X_callV1 1 64 dX4_goes_61 cw_X4_185 zk_X1_firstOverloaded ⟨rfl, rfl⟩ rfl rfl rfl (S_X1_firstOverloaded (Or.inr (Or.inl rfl)) (vX_of (ahd_sm 1 (by decide)) hv) ?_)
        refine X_pu ?_
        refine X_istnN 65 dX4_goes_64 rfl rfl rfl rfl ?_
        refine X_ildn0 66 dX4_goes_65 rfl rfl ?_
        refine X_iconst (-1) 67 dX4_goes_66 (by decide) rfl ?_
        refine X_iceq 80 70 dX4_goes_67 (by decide) rfl (fun c67 => ?_) (fun c67 => ?_)
        · refine X_inc1 1 83 dX4_goes_80 (by decide) rfl rfl rfl ?_
          refine X_goto 25 dX4_goes_83 (by decide) ?_
          refine X_drop (xg_lv (by simp [nI_succ]) (ih (k + 1) (by omega) (fun τ hτ => Qi (h τ hτ) ?_)))
          grind [goR]
        · refine X_ildn3 71 dX4_goes_70 rfl rfl ?_
          refine X_ifne 78 74 dX4_goes_71 (by decide) rfl (fun c71 => ?_) (fun c71 => ?_)
          · refine X_ildn0 79 dX4_goes_78 rfl rfl ?_
            refine X_iret dX4_goes_79 rfl ?_
            refine Qi (h _ ahd_sm) ?_
            grind [goR]
          · refine X_ildn1 75 dX4_goes_74 rfl rfl ?_
            refine X_goto 79 dX4_goes_75 (by decide) ?_
            refine X_iret dX4_goes_79 rfl ?_
            refine Qi (h _ ahd_sm) ?_
            grind [goR]
  refine X_ildn1 1 dX4_goes_0 rfl rfl ?_
  refine X_iflt 9 4 dX4_goes_1 (by decide) rfl (fun c1 => ?_) (fun c1 => ?_)
  · refine X_bipush (-3) 11 dX4_goes_9 (by decide) rfl ?_
    refine X_iret dX4_goes_11 rfl ?_
    refine Qi (h _ (fun _ _ => rfl)) ?_
    (try simp only [i_nlt, i_nle] at *)
    grind [f_goes]
  · refine X_ildn1 5 dX4_goes_4 rfl rfl ?_
    refine X_iconst 1 6 dX4_goes_5 (by decide) rfl ?_
    refine X_icle 12 9 dX4_goes_6 (by decide) rfl (fun c6 => ?_) (fun c6 => ?_)
    · refine X_aldn0 13 dX4_goes_12 rfl rfl ?_
      refine X_getA 17 16 dX4_goes_13 fl_X4_33 rfl rfl ?_
      refine X_aldn0 17 dX4_goes_16 rfl rfl ?_
      refine X_getA 16 20 dX4_goes_17 fl_X4_29 rfl rfl ?_
      refine X_callV1 1 23 dX4_goes_20 cw_X4_172 zk_X1_copyFrom ⟨rfl, rfl⟩ rfl rfl rfl (S_X1_copyFrom (Or.inr (Or.inl rfl)) (Or.inl rfl) (by decide) ?_)
      refine X_pn ?_
      refine X_iconst 0 24 dX4_goes_23 (by decide) rfl ?_
      refine X_istnN 25 dX4_goes_24 rfl rfl rfl rfl ?_
      refine xg_mm ?_ (loop (rcX σ) 0 (by omega) (fun τ hτ => Qi (h τ hτ) ?_))
      · unfold ahd evR
        exact xs_self (by rfl)
      · (try simp only [i_nlt, i_nle] at *)
        grind [f_goes]
    · refine X_bipush (-3) 11 dX4_goes_9 (by decide) rfl ?_
      refine X_iret dX4_goes_11 rfl ?_
      refine Qi (h _ (fun _ _ => rfl)) ?_
      (try simp only [i_nlt, i_nle] at *)
      grind [f_goes]
theorem S_X4_price {x : Int32} (hv : vX σ) (hm : vM σ) (h : ∀ τ, sm17 σ τ → Q (some (.int (f_price σ x))) τ) : xg_C (d + 5) mX4_price [.ref 0, .int x] σ Q := by
  refine xg_C_of py_X4_price (Nat.le_of_ble_eq_true rfl) ?_
  show xg_X none (d + 5) mX4_price 0 [(0, .ref 0), (1, .int x)] [] σ Q
  obtain ⟨hm1, hm2⟩ := hm
  have body : ∀ xi, miX σ ≤ xi → xi ≤ 24 → (∀ τ, sm17 σ τ → Q (some (.int (prK σ (xi - miX σ)))) τ) → xg_X none (d + 5) mX4_price 39 [(2, .int (nI (miX σ))), (0, .ref 0), (1, .int (nI xi))] [] (psR σ 0) Q := by
    intro xi h1 h2 h
    have loop : ∀ n k, miX σ + k + n = xi → xg_X none (d + 5) mX4_price 39 [(2, .int (nI (miX σ + k))), (0, .ref 0), (1, .int (nI xi))] [] (psR σ k) Q := by
      intro n
      induction n with
      | zero =>
        intro k hk
        refine X_ildn0 40 dX4_price_39 rfl rfl ?_
        refine X_ildn2 41 dX4_price_40 rfl rfl ?_
        refine X_icge 61 44 dX4_price_41 (by decide) rfl (fun c41 => ?_) (fun c41 => ?_)
        · refine X_aldn1 62 dX4_price_61 rfl rfl ?_
          refine X_getA 17 65 dX4_price_62 fl_X4_33 rfl rfl ?_
          refine X_aldn1 66 dX4_price_65 rfl rfl ?_
          refine X_getA 1 69 dX4_price_66 fl_X4_10 rfl rfl ?_
          refine X_callV1 1 72 dX4_price_69 cw_X4_191 zk_X1_prices ⟨rfl, rfl⟩ rfl rfl rfl (S_X1_prices (Or.inr (Or.inl rfl)) (vX_of (psR_sm _ 1 (by decide)) hv) ?_)
          refine X_pu ?_
          refine X_iret dX4_price_72 rfl ?_
          obtain rfl : k = xi - miX σ := by omega
          exact h _ (psR_sm _)
        · exact absurd (nI_le (by omega) (by omega)) c41
      | succ n ih =>
        intro k hk
        refine X_ildn0 40 dX4_price_39 rfl rfl ?_
        refine X_ildn2 41 dX4_price_40 rfl rfl ?_
        refine X_icge 61 44 dX4_price_41 (by decide) rfl (fun c41 => ?_) (fun c41 => ?_)
        · have c41 := leq c41 rfl (by omega) (by omega)
          omega
        · refine X_aldn1 45 dX4_price_44 rfl rfl ?_
          refine X_getA 17 48 dX4_price_45 fl_X4_33 rfl rfl ?_
          refine X_aldn1 49 dX4_price_48 rfl rfl ?_
          refine X_getA 1 52 dX4_price_49 fl_X4_10 rfl rfl ?_
          refine X_callV1 1 55 dX4_price_52 cw_X4_166 zk_X1_pass ⟨rfl, rfl⟩ rfl rfl rfl (S_X1_pass (Or.inr (Or.inl rfl)) (vX_of (psR_sm _ 1 (by decide)) hv) ?_)
          refine X_pn ?_
          refine X_inc0 1 58 dX4_price_55 (by decide) rfl rfl rfl ?_
          refine X_goto 39 dX4_price_58 (by decide) ?_
          exact xg_lv (by rw [show miX σ + (k + 1) = miX σ + k + 1 by omega, nI_succ]) (ih (k + 1) (by omega))
    exact loop (xi - miX σ) 0 (by omega)
  refine X_ildn1 1 dX4_price_0 rfl rfl ?_
  refine X_aldn0 2 dX4_price_1 rfl rfl ?_
  refine X_getA 16 5 dX4_price_2 fl_X4_29 rfl rfl ?_
  refine X_getI 8 dX4_price_5 fl_X4_150 rfl rfl ?_
  refine X_iclt 17 11 dX4_price_8 (by decide) rfl (fun c8 => ?_) (fun c8 => ?_)
  · refine X_bipush (-3) 19 dX4_price_17 (by decide) rfl ?_
    refine X_iret dX4_price_19 rfl ?_
    refine Qi (h _ (fun _ _ => rfl)) ?_
    (try simp only [i_nlt, i_nle] at *)
    grind [f_price]
  · refine X_ildn1 12 dX4_price_11 rfl rfl ?_
    refine X_bipush 24 14 dX4_price_12 (by decide) rfl ?_
    rw [i_nlt] at c8
    have x0 : (0 : Int32) ≤ x := by
      rw [hm1] at c8
      exact Int32.le_trans (nI_pos' (by omega)) c8
    obtain ⟨ex, hx31⟩ := nI_ex x0
    refine X_icle 20 17 dX4_price_14 (by decide) rfl (fun c14 => ?_) (fun c14 => ?_)
    · have x24 : ixN x ≤ 24 := by
        rw [ex] at c14
        exact (nI_leI hx31 (by decide)).mp c14
      have xm : miX σ ≤ ixN x := by
        rw [hm1, ex] at c8
        exact (nI_leI (by omega) hx31).mp c8
      refine X_aldn0 21 dX4_price_20 rfl rfl ?_
      refine X_getA 17 24 dX4_price_21 fl_X4_33 rfl rfl ?_
      refine X_aldn0 25 dX4_price_24 rfl rfl ?_
      refine X_getA 16 28 dX4_price_25 fl_X4_29 rfl rfl ?_
      refine X_callV1 1 31 dX4_price_28 cw_X4_172 zk_X1_copyFrom ⟨rfl, rfl⟩ rfl rfl rfl (S_X1_copyFrom (Or.inr (Or.inl rfl)) (Or.inl rfl) (by decide) ?_)
      refine X_pn ?_
      refine X_aldn0 32 dX4_price_31 rfl rfl ?_
      refine X_getA 16 35 dX4_price_32 fl_X4_29 rfl rfl ?_
      refine X_getI 38 dX4_price_35 fl_X4_150 rfl rfl ?_
      refine X_istnN 39 dX4_price_38 rfl rfl rfl rfl ?_
      rw [dcp_ne (by decide), hm1]
      have := body (ixN x) xm x24 (fun τ hτ => Qi (h τ hτ) (by rw [f_price, if_neg (fun q => q.elim (fun q => absurd c8 (by rw [i_nle]; exact q)) (fun q => absurd c14 (by rw [i_nle]; exact q)))]))
      rw [← ex] at this
      exact this
    · refine X_bipush (-3) 19 dX4_price_17 (by decide) rfl ?_
      refine X_iret dX4_price_19 rfl ?_
      refine Qi (h _ (fun _ _ => rfl)) ?_
      (try simp only [i_nlt, i_nle] at *)
      grind [f_price]
theorem S_X4_sell {y : Int32} (hv : vX σ) (hm : vM σ) (h : ∀ τ, sm17 σ τ → Q (some (.int (f_sell σ y))) τ) : xg_C (d + 5) mX4_sell [.ref 0, .int y] σ Q := by
  refine xg_C_of py_X4_sell (Nat.le_of_ble_eq_true rfl) ?_
  show xg_X none (d + 5) mX4_sell 0 [(0, .ref 0), (1, .int y)] [] σ Q
  obtain ⟨hm1, hm2⟩ := hm
  have loop : ¬ (y < 0 ∨ 1 < y) → ∀ n k, miX σ + k + n = 25 → xg_X none (d + 5) mX4_sell 36 [(4, .int (nI (miX σ + k))), (3, .int (slR σ k).2), (2, .int (slR σ k).1), (0, .ref 0), (1, .int y)] [] (psR σ k) Q := by
    intro cy n
    induction n with
    | zero =>
      intro k hk
      refine X_ild0 38 dX4_sell_36 rfl ?_
      refine X_bipush 24 40 dX4_sell_38 (by decide) rfl ?_
      refine X_icgt 85 43 dX4_sell_40 (by decide) rfl (fun c40 => ?_) (fun c40 => ?_)
      · refine X_ildn4 86 dX4_sell_85 rfl rfl ?_
        refine X_ifne 93 89 dX4_sell_86 (by decide) rfl (fun c86 => ?_) (fun c86 => ?_)
        · refine X_ildn1 94 dX4_sell_93 rfl rfl ?_
          refine X_iret dX4_sell_94 rfl ?_
          obtain rfl : k = 25 - miX σ := by omega
          refine Qi (h _ (psR_sm _)) ?_
          grind [f_sell]
        · refine X_ildn2 90 dX4_sell_89 rfl rfl ?_
          refine X_goto 94 dX4_sell_90 (by decide) ?_
          refine X_iret dX4_sell_94 rfl ?_
          obtain rfl : k = 25 - miX σ := by omega
          refine Qi (h _ (psR_sm _)) ?_
          grind [f_sell]
      · exact absurd (nI_lt (a := 24) (by omega) (by omega)) c40
    | succ n ih =>
      intro k hk
      have nxt : ∀ s w : Int32, slR σ (k + 1) = (w, s) → xg_X none (d + 5) mX4_sell 68 [(4, .int (nI (miX σ + k))), (3, .int s), (2, .int w), (0, .ref 0), (1, .int y)] [] (psR σ k) Q := by
        intro s w e
        refine X_aldn3 69 dX4_sell_68 rfl rfl ?_
        refine X_getA 17 72 dX4_sell_69 fl_X4_33 rfl rfl ?_
        refine X_aldn3 73 dX4_sell_72 rfl rfl ?_
        refine X_getA 1 76 dX4_sell_73 fl_X4_10 rfl rfl ?_
        refine X_callV1 1 79 dX4_sell_76 cw_X4_166 zk_X1_pass ⟨rfl, rfl⟩ rfl rfl rfl (S_X1_pass (Or.inr (Or.inl rfl)) (vX_of (psR_sm _ 1 (by decide)) hv) ?_)
        refine X_pn ?_
        refine X_inc0 1 82 dX4_sell_79 (by decide) rfl rfl rfl ?_
        refine X_goto 36 dX4_sell_82 (by decide) ?_
        exact xg_lv (by rw [show miX σ + (k + 1) = miX σ + k + 1 by omega, nI_succ, e]) (ih (k + 1) (by omega))
      refine X_ild0 38 dX4_sell_36 rfl ?_
      refine X_bipush 24 40 dX4_sell_38 (by decide) rfl ?_
      refine X_icgt 85 43 dX4_sell_40 (by decide) rfl (fun c40 => ?_) (fun c40 => ?_)
      · exact absurd c40 (nI_nlt (a := 24) (by omega) (by omega))
      · refine X_aldn3 44 dX4_sell_43 rfl rfl ?_
        refine X_getA 17 47 dX4_sell_44 fl_X4_33 rfl rfl ?_
        refine X_aldn3 48 dX4_sell_47 rfl rfl ?_
        refine X_getA 1 51 dX4_sell_48 fl_X4_10 rfl rfl ?_
        refine X_callV1 1 54 dX4_sell_51 cw_X4_191 zk_X1_prices ⟨rfl, rfl⟩ rfl rfl rfl (S_X1_prices (Or.inr (Or.inl rfl)) (vX_of (psR_sm _ 1 (by decide)) hv) ?_)
        refine X_pu ?_
        refine X_istN 56 dX4_sell_54 rfl rfl rfl ?_
        refine X_ild0 58 dX4_sell_56 rfl ?_
        refine X_ildn2 59 dX4_sell_58 rfl rfl ?_
        refine X_icle 68 62 dX4_sell_59 (by decide) rfl (fun c59 => ?_) (fun c59 => ?_)
        · refine X_drop (nxt _ _ ?_)
          rw [slR, if_neg (by rw [i_nlt]; exact c59)]
        · refine X_ild0 64 dX4_sell_62 rfl ?_
          refine X_istn2 65 dX4_sell_64 rfl rfl rfl rfl ?_
          refine X_ild1 67 dX4_sell_65 rfl ?_
          refine X_istn3 68 dX4_sell_67 rfl rfl rfl rfl ?_
          refine X_drop (nxt _ _ ?_)
          rw [slR, if_pos (by rw [i_nle] at c59; exact c59)]
          rfl
  refine X_ildn1 1 dX4_sell_0 rfl rfl ?_
  refine X_iflt 9 4 dX4_sell_1 (by decide) rfl (fun c1 => ?_) (fun c1 => ?_)
  · refine X_bipush (-3) 11 dX4_sell_9 (by decide) rfl ?_
    refine X_iret dX4_sell_11 rfl ?_
    refine Qi (h _ (fun _ _ => rfl)) ?_
    (try simp only [i_nlt, i_nle] at *)
    grind [f_sell]
  · refine X_ildn1 5 dX4_sell_4 rfl rfl ?_
    refine X_iconst 1 6 dX4_sell_5 (by decide) rfl ?_
    refine X_icle 12 9 dX4_sell_6 (by decide) rfl (fun c6 => ?_) (fun c6 => ?_)
    · refine X_aldn0 13 dX4_sell_12 rfl rfl ?_
      refine X_getA 17 16 dX4_sell_13 fl_X4_33 rfl rfl ?_
      refine X_aldn0 17 dX4_sell_16 rfl rfl ?_
      refine X_getA 16 20 dX4_sell_17 fl_X4_29 rfl rfl ?_
      refine X_callV1 1 23 dX4_sell_20 cw_X4_172 zk_X1_copyFrom ⟨rfl, rfl⟩ rfl rfl rfl (S_X1_copyFrom (Or.inr (Or.inl rfl)) (Or.inl rfl) (by decide) ?_)
      refine X_pn ?_
      refine X_iconst (-1) 24 dX4_sell_23 (by decide) rfl ?_
      refine X_istnN 25 dX4_sell_24 rfl rfl rfl rfl ?_
      refine X_iconst (-1) 26 dX4_sell_25 (by decide) rfl ?_
      refine X_istnN 27 dX4_sell_26 rfl rfl rfl rfl ?_
      refine X_aldn2 28 dX4_sell_27 rfl rfl ?_
      refine X_getA 16 31 dX4_sell_28 fl_X4_29 rfl rfl ?_
      refine X_getI 34 dX4_sell_31 fl_X4_150 rfl rfl ?_
      refine X_istN 36 dX4_sell_34 rfl rfl rfl ?_
      rw [dcp_ne (by decide), hm1]
      exact loop (fun q => q.elim c1 (fun q => absurd c6 (by rw [i_nle]; exact q))) (25 - miX σ) 0 (by omega)
    · refine X_bipush (-3) 11 dX4_sell_9 (by decide) rfl ?_
      refine X_iret dX4_sell_11 rfl ?_
      refine Qi (h _ (fun _ _ => rfl)) ?_
      (try simp only [i_nlt, i_nle] at *)
      grind [f_sell]
end GT3

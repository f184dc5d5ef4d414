/-! the reference: baths, rests, rows, tasks, sights -/
def bthM (σ : xm_M) : xm_M := xm_set σ 41 11 (σ.1 41 11 ||| (1 <<< (σ.1 41 10 &&& 31)))
def g_bathe (σ : xm_M) : Int32 × xm_M := if σ.1 41 10 = 24 then (-5, σ) else ((psM (bthM (notM σ)) 41).1 41 10, psM (bthM (notM σ)) 41)
def g_idle (σ : xm_M) : Int32 × xm_M := if σ.1 41 10 = 24 then (-5, σ) else ((psM (notM σ) 41).1 41 10, psM (notM σ) 41)
def g_undo (σ : xm_M) : Int32 × xm_M := if σ.1 36 22 = 0 then (-4, σ) else (σ.1 36 22 - 1, cpM (xm_set σ 36 22 (σ.1 36 22 - 1)) 45 (12 * (bkM σ - 1)) 41 0 12)
def g_keep (σ : xm_M) (x : Int32) : Int32 × xm_M := if inB x 0 1 = false then (-2, σ) else (σ.1 41 10, xm_set (cpM σ 41 0 43 (12 * ixN x) 12) 44 (ixN x) 1)
def bakM (σ : xm_M) (k : Nat) : xm_M := xm_set (cpM σ 43 (12 * k) 41 0 12) 36 22 0
def g_back (σ : xm_M) (x : Int32) : Int32 × xm_M := if inB x 0 1 = false then (-2, σ) else if σ.1 44 (ixN x) = 0 then (-4, σ) else ((bakM σ (ixN x)).1 41 10, bakM σ (ixN x))
def rmM (σ : xm_M) : Nat := (σ.1 36 24).toNatClampNeg
def vRm (σ : xm_M) : Prop := σ.1 36 24 = nI (rmM σ) ∧ rmM σ ≤ 8
def smM (σ : xm_M) : Nat := (σ.1 36 28).toNatClampNeg
def vSm (σ : xm_M) : Prop := σ.1 36 28 = nI (smM σ) ∧ smM σ ≤ 6
def g_put (σ : xm_M) (x : Int32) : Int32 × xm_M := if isTm σ x = false then (-2, σ) else if σ.1 36 24 = 8 then (-5, σ) else (σ.1 36 24 + 1, xm_set (xm_set σ 46 (rmM σ) x) 36 24 (σ.1 36 24 + 1))
def g_task (σ : xm_M) (x : Int32) : Int32 × xm_M := if isTm σ x = false then (-2, σ) else if isK σ x (tkMm σ) = true then (-4, σ) else if σ.1 36 26 = 4 then (-5, σ) else (σ.1 36 26 + 1, xm_set (xm_set σ 47 (tkMm σ) x) 36 26 (σ.1 36 26 + 1))
def lokM (σ : xm_M) (x y z : Int32) : xm_M := xm_set (xm_set (xm_set (xm_set σ 48 (3 * smM σ) x) 48 (3 * smM σ + 1) y) 48 (3 * smM σ + 2) z) 36 28 (σ.1 36 28 + 1)
def g_look (σ : xm_M) (x y z : Int32) : Int32 × xm_M := if isTm σ x = false then (-2, σ) else if inB y 0 (σ.1 41 10 - 1) = false ∨ inB z 0 1 = false then (-3, σ) else if σ.1 36 28 = 6 then (-5, σ) else (σ.1 36 28 + 1, lokM σ x y z)
def goM (σ : xm_M) : Nat → Int32
  | 0 => 0
  | k + 1 => goM σ k ||| (if 0 < σ.1 41 k then 1 <<< (nI k &&& 31) else 0)
def g_count (σ : xm_M) (y : Int32) : Int32 := if y = 0 then σ.1 36 0 else if y = 1 then σ.1 36 3 else if y = 2 then σ.1 36 4 else if y = 3 then σ.1 36 5 else if y = 4 then σ.1 41 10 else if y = 5 then goM σ (nM σ) else if y = 6 then σ.1 41 8 else if y = 7 then σ.1 41 9 else if y = 8 then σ.1 36 24 else if y = 9 then σ.1 36 26 else if y = 10 then σ.1 36 28 else if y = 11 then σ.1 36 22 else if y = 12 then σ.1 36 6 else -3
theorem inB_ex {x : Int32} (h : inB x 0 1 = true) : ∃ i, i < 2 ∧ x = nI i := by
  simp only [inB, Bool.and_eq_true, decide_eq_true_eq] at h
  obtain ⟨i, hi, e⟩ := le_ex 1 (by decide) (by decide) h.1 h.2
  exact ⟨i, by omega, e⟩
section REF4
variable {d : Nat} {σ : xm_M} {Q : Option Value → xm_M → Prop}
theorem not_vX (hv : vXm σ) : vXm (notM σ) := vXm_of (notM_k (by decide)) hv
theorem S_X5_bathe (hv : vXm σ) (hb : vBk σ) (h : Q (some (.int (g_bathe σ).1)) (g_bathe σ).2) : xg_C (d + 4) mX5_bathe [.ref 36] σ Q := by
  refine xg_C_of py_X5_bathe (Nat.le_of_ble_eq_true rfl) ?_
  show xg_X none (d + 4) mX5_bathe 0 [(0, .ref 36)] [] σ Q
  refine X_aldn0 1 dX5_bathe_0 rfl rfl ?_
  refine X_getA 41 4 dX5_bathe_1 fl_X5_32 rfl rfl ?_
  refine X_bipush 10 6 dX5_bathe_4 (by decide) rfl ?_
  refine X_ialk 10 7 dX5_bathe_6 rfl rfl (by decide) (by decide) ?_
  refine X_bipush 24 9 dX5_bathe_7 (by decide) rfl ?_
  refine X_icne 15 12 dX5_bathe_9 (by decide) rfl (fun c9 => ?_) (fun c9 => ?_)
  · refine X_aldn0 16 dX5_bathe_15 rfl rfl ?_
    refine X_callV0 5 19 dX5_bathe_16 cw_X5_222 zk_X5_note ⟨rfl, rfl⟩ rfl rfl rfl (S_X5_note hb ?_)
    refine X_pn ?_
    refine X_aldn0 20 dX5_bathe_19 rfl rfl ?_
    refine X_getA 41 23 dX5_bathe_20 fl_X5_32 rfl rfl ?_
    refine X_bipush 11 25 dX5_bathe_23 (by decide) rfl ?_
    refine X_aldn0 26 dX5_bathe_25 rfl rfl ?_
    refine X_getA 41 29 dX5_bathe_26 fl_X5_32 rfl rfl ?_
    refine X_bipush 11 31 dX5_bathe_29 (by decide) rfl ?_
    refine X_ialk 11 32 dX5_bathe_31 rfl rfl (by decide) (by decide) ?_
    refine X_iconst 1 33 dX5_bathe_32 (by decide) rfl ?_
    refine X_aldn0 34 dX5_bathe_33 rfl rfl ?_
    refine X_getA 41 37 dX5_bathe_34 fl_X5_32 rfl rfl ?_
    refine X_bipush 10 39 dX5_bathe_37 (by decide) rfl ?_
    refine X_ialk 10 40 dX5_bathe_39 rfl rfl (by decide) (by decide) ?_
    refine X_ishl 41 dX5_bathe_40 rfl ?_
    refine X_ior 42 dX5_bathe_41 rfl ?_
    refine X_iask 11 43 dX5_bathe_42 rfl rfl (by decide) (by decide) ?_
    refine X_aldn0 44 dX5_bathe_43 rfl rfl ?_
    refine X_aldn0 45 dX5_bathe_44 rfl rfl ?_
    refine X_getA 41 48 dX5_bathe_45 fl_X5_32 rfl rfl ?_
    refine X_callV1 5 51 dX5_bathe_48 cw_X5_228 zk_X5_pass ⟨rfl, rfl⟩ rfl rfl rfl (S_X5_pass (Or.inl rfl) (vXm_of (xs_ne (by decide)) (not_vX hv)) ?_)
    refine X_pn ?_
    refine X_aldn0 52 dX5_bathe_51 rfl rfl ?_
    refine X_getA 41 55 dX5_bathe_52 fl_X5_32 rfl rfl ?_
    refine X_bipush 10 57 dX5_bathe_55 (by decide) rfl ?_
    refine X_ialk 10 58 dX5_bathe_57 rfl rfl (by decide) (by decide) ?_
    refine X_iret dX5_bathe_58 rfl ?_
    refine Qp h ?_
    rw [g_bathe, if_neg c9]
    rfl
  · refine X_bipush (-5) 14 dX5_bathe_12 (by decide) rfl ?_
    refine X_iret dX5_bathe_14 rfl ?_
    refine Qp h ?_
    rw [g_bathe, if_pos c9]
theorem S_X5_idle (hv : vXm σ) (hb : vBk σ) (h : Q (some (.int (g_idle σ).1)) (g_idle σ).2) : xg_C (d + 4) mX5_idle [.ref 36] σ Q := by
  refine xg_C_of py_X5_idle (Nat.le_of_ble_eq_true rfl) ?_
  show xg_X none (d + 4) mX5_idle 0 [(0, .ref 36)] [] σ Q
  refine X_aldn0 1 dX5_idle_0 rfl rfl ?_
  refine X_getA 41 4 dX5_idle_1 fl_X5_32 rfl rfl ?_
  refine X_bipush 10 6 dX5_idle_4 (by decide) rfl ?_
  refine X_ialk 10 7 dX5_idle_6 rfl rfl (by decide) (by decide) ?_
  refine X_bipush 24 9 dX5_idle_7 (by decide) rfl ?_
  refine X_icne 15 12 dX5_idle_9 (by decide) rfl (fun c9 => ?_) (fun c9 => ?_)
  · refine X_aldn0 16 dX5_idle_15 rfl rfl ?_
    refine X_callV0 5 19 dX5_idle_16 cw_X5_222 zk_X5_note ⟨rfl, rfl⟩ rfl rfl rfl (S_X5_note hb ?_)
    refine X_pn ?_
    refine X_aldn0 20 dX5_idle_19 rfl rfl ?_
    refine X_aldn0 21 dX5_idle_20 rfl rfl ?_
    refine X_getA 41 24 dX5_idle_21 fl_X5_32 rfl rfl ?_
    refine X_callV1 5 27 dX5_idle_24 cw_X5_228 zk_X5_pass ⟨rfl, rfl⟩ rfl rfl rfl (S_X5_pass (Or.inl rfl) (not_vX hv) ?_)
    refine X_pn ?_
    refine X_aldn0 28 dX5_idle_27 rfl rfl ?_
    refine X_getA 41 31 dX5_idle_28 fl_X5_32 rfl rfl ?_
    refine X_bipush 10 33 dX5_idle_31 (by decide) rfl ?_
    refine X_ialk 10 34 dX5_idle_33 rfl rfl (by decide) (by decide) ?_
    refine X_iret dX5_idle_34 rfl ?_
    refine Qp h ?_
    rw [g_idle, if_neg c9]
  · refine X_bipush (-5) 14 dX5_idle_12 (by decide) rfl ?_
    refine X_iret dX5_idle_14 rfl ?_
    refine Qp h ?_
    rw [g_idle, if_pos c9]
theorem S_X5_undo (hb : vBk σ) (h : Q (some (.int (g_undo σ).1)) (g_undo σ).2) : xg_C (d + 4) mX5_undo [.ref 36] σ Q := by
  refine xg_C_of py_X5_undo (Nat.le_of_ble_eq_true rfl) ?_
  show xg_X none (d + 4) mX5_undo 0 [(0, .ref 36)] [] σ Q
  obtain ⟨h1, h2⟩ := hb
  have e1' : ¬ σ.1 36 22 = 0 → σ.1 36 22 - 1 = nI (bkM σ - 1) ∧ 0 < bkM σ := by
    intro c4
    have b0 : bkM σ ≠ 0 := fun z => c4 (by rw [h1, z]; rfl)
    rw [h1, show (1 : Int32) = nI 1 by decide]
    exact ⟨pk_sub (by omega), by omega⟩
  refine X_aldn0 1 dX5_undo_0 rfl rfl ?_
  refine X_getI 4 dX5_undo_1 fl_X5_75 rfl rfl ?_
  refine X_ifne 10 7 dX5_undo_4 (by decide) rfl (fun c4 => ?_) (fun c4 => ?_)
  · refine X_aldn0 11 dX5_undo_10 rfl rfl ?_
    refine X_dup 12 dX5_undo_11 rfl rfl ?_
    refine X_getI 15 dX5_undo_12 fl_X5_75 rfl rfl ?_
    refine X_iconst 1 16 dX5_undo_15 (by decide) rfl ?_
    refine X_isub 17 dX5_undo_16 rfl ?_
    refine X_putI 20 dX5_undo_17 fp_X5_75 rfl rfl ?_
    refine X_aldn0 21 dX5_undo_20 rfl rfl ?_
    refine X_getA 45 24 dX5_undo_21 fl_X5_45 rfl rfl ?_
    refine X_bipush 12 26 dX5_undo_24 (by decide) rfl ?_
    refine X_aldn0 27 dX5_undo_26 rfl rfl ?_
    refine X_getI 30 dX5_undo_27 fl_X5_75 rfl rfl ?_
    refine X_imul 31 dX5_undo_30 rfl ?_
    refine X_aldn0 32 dX5_undo_31 rfl rfl ?_
    refine X_getA 41 35 dX5_undo_32 fl_X5_32 rfl rfl ?_
    refine X_iconst 0 36 dX5_undo_35 (by decide) rfl ?_
    obtain ⟨e1, b0⟩ := e1' c4
    rw [xs_eq, show (12 : Int32) = nI 12 by decide, show (0 : Int32) = nI 0 by decide, e1, pk_mul]
    refine X_callS4 39 dX5_undo_36 cw_X5_218 zk_X5_copy rfl rfl (S_X5_copy (by decide) rfl rfl (by show 12 * (bkM σ - 1) + 12 ≤ 96; omega) (by decide) ?_)
    refine X_pn ?_
    refine X_aldn0 40 dX5_undo_39 rfl rfl ?_
    refine X_getI 43 dX5_undo_40 fl_X5_75 rfl rfl ?_
    refine X_iret dX5_undo_43 rfl ?_
    refine Qp h ?_
    rw [g_undo, if_neg c4, e1, cpM_ne (by decide), xs_eq]
  · refine X_bipush (-4) 9 dX5_undo_7 (by decide) rfl ?_
    refine X_iret dX5_undo_9 rfl ?_
    refine Qp h ?_
    rw [g_undo, if_pos c4]
theorem S_X5_keep {x : Int32} (h : Q (some (.int (g_keep σ x).1)) (g_keep σ x).2) : xg_C (d + 4) mX5_keep [.ref 36, .int x] σ Q := by
  refine xg_C_of py_X5_keep (Nat.le_of_ble_eq_true rfl) ?_
  show xg_X none (d + 4) mX5_keep 0 [(0, .ref 36), (1, .int x)] [] σ Q
  refine X_ildn1 1 dX5_keep_0 rfl rfl ?_
  refine X_iconst 0 2 dX5_keep_1 (by decide) rfl ?_
  refine X_iconst 1 3 dX5_keep_2 (by decide) rfl ?_
  refine X_callS3 6 dX5_keep_3 cw_X5_87 zk_X5_in rfl rfl (S_X5_in ?_)
  refine X_pu ?_
  refine X_ifne 12 9 dX5_keep_6 (by decide) rfl (fun c6 => ?_) (fun c6 => ?_)
  · rw [b2i_n] at c6
    obtain ⟨i, hi, rfl⟩ := inB_ex c6
    have e := ixN_nI (i := i) (by omega)
    refine X_aldn0 13 dX5_keep_12 rfl rfl ?_
    refine X_getA 41 16 dX5_keep_13 fl_X5_32 rfl rfl ?_
    refine X_iconst 0 17 dX5_keep_16 (by decide) rfl ?_
    refine X_aldn0 18 dX5_keep_17 rfl rfl ?_
    refine X_getA 43 21 dX5_keep_18 fl_X5_38 rfl rfl ?_
    refine X_bipush 12 23 dX5_keep_21 (by decide) rfl ?_
    refine X_ildn1 24 dX5_keep_23 rfl rfl ?_
    refine X_imul 25 dX5_keep_24 rfl ?_
    rw [show (12 : Int32) = nI 12 by decide, show (0 : Int32) = nI 0 by decide, pk_mul]
    refine X_callS4 28 dX5_keep_25 cw_X5_218 zk_X5_copy rfl rfl (S_X5_copy (by decide) rfl rfl (by decide) (by show 12 * i + 12 ≤ 24; omega) ?_)
    refine X_pn ?_
    refine X_aldn0 29 dX5_keep_28 rfl rfl ?_
    refine X_getA 44 32 dX5_keep_29 fl_X5_41 rfl rfl ?_
    refine X_ildn1 33 dX5_keep_32 rfl rfl ?_
    refine X_iconst 1 34 dX5_keep_33 (by decide) rfl ?_
    refine X_zask i 35 dX5_keep_34 rfl rfl rfl rfl hi ?_
    refine X_aldn0 36 dX5_keep_35 rfl rfl ?_
    refine X_getA 41 39 dX5_keep_36 fl_X5_32 rfl rfl ?_
    refine X_bipush 10 41 dX5_keep_39 (by decide) rfl ?_
    refine X_ialk 10 42 dX5_keep_41 rfl rfl (by decide) (by decide) ?_
    refine X_iret dX5_keep_42 rfl ?_
    refine Qp h ?_
    rw [g_keep, if_neg (by rw [c6]; decide), e, xs_ne (by decide), cpM_ne (by decide)]
  · rw [b2i_0] at c6
    refine X_bipush (-2) 11 dX5_keep_9 (by decide) rfl ?_
    refine X_iret dX5_keep_11 rfl ?_
    refine Qp h ?_
    rw [g_keep, if_pos c6]
theorem S_X5_back {x : Int32} (h : Q (some (.int (g_back σ x).1)) (g_back σ x).2) : xg_C (d + 4) mX5_back [.ref 36, .int x] σ Q := by
  refine xg_C_of py_X5_back (Nat.le_of_ble_eq_true rfl) ?_
  show xg_X none (d + 4) mX5_back 0 [(0, .ref 36), (1, .int x)] [] σ Q
  refine X_ildn1 1 dX5_back_0 rfl rfl ?_
  refine X_iconst 0 2 dX5_back_1 (by decide) rfl ?_
  refine X_iconst 1 3 dX5_back_2 (by decide) rfl ?_
  refine X_callS3 6 dX5_back_3 cw_X5_87 zk_X5_in rfl rfl (S_X5_in ?_)
  refine X_pu ?_
  refine X_ifne 12 9 dX5_back_6 (by decide) rfl (fun c6 => ?_) (fun c6 => ?_)
  · rw [b2i_n] at c6
    obtain ⟨i, hi, rfl⟩ := inB_ex c6
    have e := ixN_nI (i := i) (by omega)
    refine X_aldn0 13 dX5_back_12 rfl rfl ?_
    refine X_getA 44 16 dX5_back_13 fl_X5_41 rfl rfl ?_
    refine X_ildn1 17 dX5_back_16 rfl rfl ?_
    refine X_zalk i 18 dX5_back_17 rfl rfl rfl hi ?_
    refine X_ifne 24 21 dX5_back_18 (by decide) rfl (fun c18 => ?_) (fun c18 => ?_)
    · refine X_aldn0 25 dX5_back_24 rfl rfl ?_
      refine X_getA 43 28 dX5_back_25 fl_X5_38 rfl rfl ?_
      refine X_bipush 12 30 dX5_back_28 (by decide) rfl ?_
      refine X_ildn1 31 dX5_back_30 rfl rfl ?_
      refine X_imul 32 dX5_back_31 rfl ?_
      refine X_aldn0 33 dX5_back_32 rfl rfl ?_
      refine X_getA 41 36 dX5_back_33 fl_X5_32 rfl rfl ?_
      refine X_iconst 0 37 dX5_back_36 (by decide) rfl ?_
      rw [show (12 : Int32) = nI 12 by decide, show (0 : Int32) = nI 0 by decide, pk_mul]
      refine X_callS4 40 dX5_back_37 cw_X5_218 zk_X5_copy rfl rfl (S_X5_copy (by decide) rfl rfl (by show 12 * i + 12 ≤ 24; omega) (by decide) ?_)
      refine X_pn ?_
      refine X_aldn0 41 dX5_back_40 rfl rfl ?_
      refine X_iconst 0 42 dX5_back_41 (by decide) rfl ?_
      refine X_putI 45 dX5_back_42 fp_X5_75 rfl rfl ?_
      refine X_aldn0 46 dX5_back_45 rfl rfl ?_
      refine X_getA 41 49 dX5_back_46 fl_X5_32 rfl rfl ?_
      refine X_bipush 10 51 dX5_back_49 (by decide) rfl ?_
      refine X_ialk 10 52 dX5_back_51 rfl rfl (by decide) (by decide) ?_
      refine X_iret dX5_back_52 rfl ?_
      refine Qp h ?_
      rw [g_back, if_neg (by rw [c6]; decide), e, if_neg c18]
      rfl
    · refine X_bipush (-4) 23 dX5_back_21 (by decide) rfl ?_
      refine X_iret dX5_back_23 rfl ?_
      refine Qp h ?_
      rw [g_back, if_neg (by rw [c6]; decide), e, if_pos c18]
  · rw [b2i_0] at c6
    refine X_bipush (-2) 11 dX5_back_9 (by decide) rfl ?_
    refine X_iret dX5_back_11 rfl ?_
    refine Qp h ?_
    rw [g_back, if_pos c6]
theorem S_X5_put {x : Int32} (hr : vRm σ) (h : Q (some (.int (g_put σ x).1)) (g_put σ x).2) : xg_C (d + 2) mX5_put [.ref 36, .int x] σ Q := by
  refine xg_C_of py_X5_put (Nat.le_of_ble_eq_true rfl) ?_
  show xg_X none (d + 2) mX5_put 0 [(0, .ref 36), (1, .int x)] [] σ Q
  obtain ⟨h1, h2⟩ := hr
  refine X_aldn0 1 dX5_put_0 rfl rfl ?_
  refine X_ildn1 2 dX5_put_1 rfl rfl ?_
  refine X_callV1 5 5 dX5_put_2 cw_X5_196 zk_X5_isThing ⟨rfl, rfl⟩ rfl rfl rfl (S_X5_isThing ?_)
  refine X_pu ?_
  refine X_ifne 11 8 dX5_put_5 (by decide) rfl (fun c5 => ?_) (fun c5 => ?_)
  · rw [b2i_n] at c5
    refine X_aldn0 12 dX5_put_11 rfl rfl ?_
    refine X_getI 15 dX5_put_12 fl_X5_78 rfl rfl ?_
    refine X_bipush 8 17 dX5_put_15 (by decide) rfl ?_
    refine X_icne 23 20 dX5_put_17 (by decide) rfl (fun c17 => ?_) (fun c17 => ?_)
    · refine X_aldn0 24 dX5_put_23 rfl rfl ?_
      refine X_getA 46 27 dX5_put_24 fl_X5_48 rfl rfl ?_
      refine X_aldn0 28 dX5_put_27 rfl rfl ?_
      refine X_getI 31 dX5_put_28 fl_X5_78 rfl rfl ?_
      refine X_ildn1 32 dX5_put_31 rfl rfl ?_
      refine X_iask (rmM σ) 33 dX5_put_32 rfl rfl h1 (by have : rmM σ ≠ 8 := fun z => c17 (by rw [h1, z]; rfl); show rmM σ < 8; omega) ?_
      refine X_aldn0 34 dX5_put_33 rfl rfl ?_
      refine X_dup 35 dX5_put_34 rfl rfl ?_
      refine X_getI 38 dX5_put_35 fl_X5_78 rfl rfl ?_
      refine X_iconst 1 39 dX5_put_38 (by decide) rfl ?_
      refine X_iadd 40 dX5_put_39 rfl ?_
      refine X_putI 43 dX5_put_40 fp_X5_78 rfl rfl ?_
      refine X_aldn0 44 dX5_put_43 rfl rfl ?_
      refine X_getI 47 dX5_put_44 fl_X5_78 rfl rfl ?_
      refine X_iret dX5_put_47 rfl ?_
      refine Qp h ?_
      rw [g_put, if_neg (by rw [c5]; decide), if_neg c17, xs_eq, xs_ne (by decide)]
    · refine X_bipush (-5) 22 dX5_put_20 (by decide) rfl ?_
      refine X_iret dX5_put_22 rfl ?_
      refine Qp h ?_
      rw [g_put, if_neg (by rw [c5]; decide), if_pos c17]
  · rw [b2i_0] at c5
    refine X_bipush (-2) 10 dX5_put_8 (by decide) rfl ?_
    refine X_iret dX5_put_10 rfl ?_
    refine Qp h ?_
    rw [g_put, if_pos c5]
theorem S_X5_wipe (h : Q (some (.int (σ.1 36 24))) (xm_set σ 36 24 0)) : xg_C d mX5_wipe [.ref 36] σ Q := by
  refine xg_C_of py_X5_wipe (Nat.le_of_ble_eq_true rfl) ?_
  show xg_X none d mX5_wipe 0 [(0, .ref 36)] [] σ Q
  refine X_aldn0 1 dX5_wipe_0 rfl rfl ?_
  refine X_getI 4 dX5_wipe_1 fl_X5_78 rfl rfl ?_
  refine X_istnN 5 dX5_wipe_4 rfl rfl rfl rfl ?_
  refine X_aldn1 6 dX5_wipe_5 rfl rfl ?_
  refine X_iconst 0 7 dX5_wipe_6 (by decide) rfl ?_
  refine X_putI 10 dX5_wipe_7 fp_X5_78 rfl rfl ?_
  refine X_ildn0 11 dX5_wipe_10 rfl rfl ?_
  refine X_iret dX5_wipe_11 rfl ?_
  exact h
theorem S_X5_drop (h : Q (some (.int (σ.1 36 26))) (xm_set σ 36 26 0)) : xg_C d mX5_drop [.ref 36] σ Q := by
  refine xg_C_of py_X5_drop (Nat.le_of_ble_eq_true rfl) ?_
  show xg_X none d mX5_drop 0 [(0, .ref 36)] [] σ Q
  refine X_aldn0 1 dX5_drop_0 rfl rfl ?_
  refine X_getI 4 dX5_drop_1 fl_X5_81 rfl rfl ?_
  refine X_istnN 5 dX5_drop_4 rfl rfl rfl rfl ?_
  refine X_aldn1 6 dX5_drop_5 rfl rfl ?_
  refine X_iconst 0 7 dX5_drop_6 (by decide) rfl ?_
  refine X_putI 10 dX5_drop_7 fp_X5_81 rfl rfl ?_
  refine X_ildn0 11 dX5_drop_10 rfl rfl ?_
  refine X_iret dX5_drop_11 rfl ?_
  exact h
theorem S_X5_forget (h : Q (some (.int (σ.1 36 28))) (xm_set σ 36 28 0)) : xg_C d mX5_forget [.ref 36] σ Q := by
  refine xg_C_of py_X5_forget (Nat.le_of_ble_eq_true rfl) ?_
  show xg_X none d mX5_forget 0 [(0, .ref 36)] [] σ Q
  refine X_aldn0 1 dX5_forget_0 rfl rfl ?_
  refine X_getI 4 dX5_forget_1 fl_X5_84 rfl rfl ?_
  refine X_istnN 5 dX5_forget_4 rfl rfl rfl rfl ?_
  refine X_aldn1 6 dX5_forget_5 rfl rfl ?_
  refine X_iconst 0 7 dX5_forget_6 (by decide) rfl ?_
  refine X_putI 10 dX5_forget_7 fp_X5_84 rfl rfl ?_
  refine X_ildn0 11 dX5_forget_10 rfl rfl ?_
  refine X_iret dX5_forget_11 rfl ?_
  exact h
theorem S_X5_task {x : Int32} (hk : vTk σ) (h : Q (some (.int (g_task σ x).1)) (g_task σ x).2) : xg_C (d + 2) mX5_task [.ref 36, .int x] σ Q := by
  refine xg_C_of py_X5_task (Nat.le_of_ble_eq_true rfl) ?_
  show xg_X none (d + 2) mX5_task 0 [(0, .ref 36), (1, .int x)] [] σ Q
  have hk' := hk
  obtain ⟨h1, h2⟩ := hk
  refine X_aldn0 1 dX5_task_0 rfl rfl ?_
  refine X_ildn1 2 dX5_task_1 rfl rfl ?_
  refine X_callV1 5 5 dX5_task_2 cw_X5_196 zk_X5_isThing ⟨rfl, rfl⟩ rfl rfl rfl (S_X5_isThing ?_)
  refine X_pu ?_
  refine X_ifne 11 8 dX5_task_5 (by decide) rfl (fun c5 => ?_) (fun c5 => ?_)
  · rw [b2i_n] at c5
    refine X_aldn0 12 dX5_task_11 rfl rfl ?_
    refine X_ildn1 13 dX5_task_12 rfl rfl ?_
    refine X_callV1 5 16 dX5_task_13 cw_X5_202 zk_X5_isTask ⟨rfl, rfl⟩ rfl rfl rfl (S_X5_isTask hk' ?_)
    refine X_pu ?_
    refine X_ifeq 22 19 dX5_task_16 (by decide) rfl (fun c16 => ?_) (fun c16 => ?_)
    · rw [b2i_0] at c16
      refine X_aldn0 23 dX5_task_22 rfl rfl ?_
      refine X_getI 26 dX5_task_23 fl_X5_81 rfl rfl ?_
      refine X_iconst 4 27 dX5_task_26 (by decide) rfl ?_
      refine X_icne 33 30 dX5_task_27 (by decide) rfl (fun c27 => ?_) (fun c27 => ?_)
      · refine X_aldn0 34 dX5_task_33 rfl rfl ?_
        refine X_getA 47 37 dX5_task_34 fl_X5_51 rfl rfl ?_
        refine X_aldn0 38 dX5_task_37 rfl rfl ?_
        refine X_getI 41 dX5_task_38 fl_X5_81 rfl rfl ?_
        refine X_ildn1 42 dX5_task_41 rfl rfl ?_
        refine X_iask (tkMm σ) 43 dX5_task_42 rfl rfl h1 (by have : tkMm σ ≠ 4 := fun z => c27 (by rw [h1, z]; rfl); show tkMm σ < 4; omega) ?_
        refine X_aldn0 44 dX5_task_43 rfl rfl ?_
        refine X_dup 45 dX5_task_44 rfl rfl ?_
        refine X_getI 48 dX5_task_45 fl_X5_81 rfl rfl ?_
        refine X_iconst 1 49 dX5_task_48 (by decide) rfl ?_
        refine X_iadd 50 dX5_task_49 rfl ?_
        refine X_putI 53 dX5_task_50 fp_X5_81 rfl rfl ?_
        refine X_aldn0 54 dX5_task_53 rfl rfl ?_
        refine X_getI 57 dX5_task_54 fl_X5_81 rfl rfl ?_
        refine X_iret dX5_task_57 rfl ?_
        refine Qp h ?_
        rw [g_task, if_neg (by rw [c5]; decide), if_neg (by rw [c16]; decide), if_neg c27, xs_eq, xs_ne (by decide)]
      · refine X_bipush (-5) 32 dX5_task_30 (by decide) rfl ?_
        refine X_iret dX5_task_32 rfl ?_
        refine Qp h ?_
        rw [g_task, if_neg (by rw [c5]; decide), if_neg (by rw [c16]; decide), if_pos c27]
    · rw [b2i_n] at c16
      refine X_bipush (-4) 21 dX5_task_19 (by decide) rfl ?_
      refine X_iret dX5_task_21 rfl ?_
      refine Qp h ?_
      rw [g_task, if_neg (by rw [c5]; decide), if_pos c16]
  · rw [b2i_0] at c5
    refine X_bipush (-2) 10 dX5_task_8 (by decide) rfl ?_
    refine X_iret dX5_task_10 rfl ?_
    refine Qp h ?_
    rw [g_task, if_pos c5]
theorem S_X5_look {x y z : Int32} (hs : vSm σ) (h : Q (some (.int (g_look σ x y z).1)) (g_look σ x y z).2) : xg_C (d + 2) mX5_look [.ref 36, .int x, .int y, .int z] σ Q := by
  refine xg_C_of py_X5_look (Nat.le_of_ble_eq_true rfl) ?_
  show xg_X none (d + 2) mX5_look 0 [(0, .ref 36), (1, .int x), (2, .int y), (3, .int z)] [] σ Q
  obtain ⟨h1, h2⟩ := hs
  have e0 : (3 : Int32) * σ.1 36 28 = nI (3 * smM σ) := by rw [h1, show (3 : Int32) = nI 3 by decide, pk_mul]
  refine X_aldn0 1 dX5_look_0 rfl rfl ?_
  refine X_ildn1 2 dX5_look_1 rfl rfl ?_
  refine X_callV1 5 5 dX5_look_2 cw_X5_196 zk_X5_isThing ⟨rfl, rfl⟩ rfl rfl rfl (S_X5_isThing ?_)
  refine X_pu ?_
  refine X_ifne 11 8 dX5_look_5 (by decide) rfl (fun c5 => ?_) (fun c5 => ?_)
  · refine X_ildn2 12 dX5_look_11 rfl rfl ?_
    refine X_iconst 0 13 dX5_look_12 (by decide) rfl ?_
    refine X_aldn0 14 dX5_look_13 rfl rfl ?_
    refine X_getA 41 17 dX5_look_14 fl_X5_32 rfl rfl ?_
    refine X_bipush 10 19 dX5_look_17 (by decide) rfl ?_
    refine X_ialk 10 20 dX5_look_19 rfl rfl (by decide) (by decide) ?_
    refine X_iconst 1 21 dX5_look_20 (by decide) rfl ?_
    refine X_isub 22 dX5_look_21 rfl ?_
    refine X_callS3 25 dX5_look_22 cw_X5_87 zk_X5_in rfl rfl (S_X5_in ?_)
    refine X_pu ?_
    refine X_ifeq 37 28 dX5_look_25 (by decide) rfl (fun c25 => ?_) (fun c25 => ?_)
    · refine X_bipush (-3) 39 dX5_look_37 (by decide) rfl ?_
      refine X_iret dX5_look_39 rfl ?_
      refine Qp h ?_
      grind [g_look, b2i]
    · refine X_ildn3 29 dX5_look_28 rfl rfl ?_
      refine X_iconst 0 30 dX5_look_29 (by decide) rfl ?_
      refine X_iconst 1 31 dX5_look_30 (by decide) rfl ?_
      refine X_callS3 34 dX5_look_31 cw_X5_87 zk_X5_in rfl rfl (S_X5_in ?_)
      refine X_pu ?_
      refine X_ifne 40 37 dX5_look_34 (by decide) rfl (fun c34 => ?_) (fun c34 => ?_)
      · refine X_aldn0 41 dX5_look_40 rfl rfl ?_
        refine X_getI 44 dX5_look_41 fl_X5_84 rfl rfl ?_
        refine X_bipush 6 46 dX5_look_44 (by decide) rfl ?_
        refine X_icne 52 49 dX5_look_46 (by decide) rfl (fun c46 => ?_) (fun c46 => ?_)
        · have q6 : smM σ ≠ 6 := fun z => c46 (by rw [h1, z]; rfl)
          refine X_aldn0 53 dX5_look_52 rfl rfl ?_
          refine X_getA 48 56 dX5_look_53 fl_X5_54 rfl rfl ?_
          refine X_iconst 3 57 dX5_look_56 (by decide) rfl ?_
          refine X_aldn0 58 dX5_look_57 rfl rfl ?_
          refine X_getI 61 dX5_look_58 fl_X5_84 rfl rfl ?_
          refine X_imul 62 dX5_look_61 rfl ?_
          refine X_ildn1 63 dX5_look_62 rfl rfl ?_
          refine X_iask (3 * smM σ) 64 dX5_look_63 rfl rfl e0 (show 3 * smM σ < 18 by omega) ?_
          refine X_aldn0 65 dX5_look_64 rfl rfl ?_
          refine X_getA 48 68 dX5_look_65 fl_X5_54 rfl rfl ?_
          refine X_iconst 3 69 dX5_look_68 (by decide) rfl ?_
          refine X_aldn0 70 dX5_look_69 rfl rfl ?_
          refine X_getI 73 dX5_look_70 fl_X5_84 rfl rfl ?_
          refine X_imul 74 dX5_look_73 rfl ?_
          refine X_iconst 1 75 dX5_look_74 (by decide) rfl ?_
          refine X_iadd 76 dX5_look_75 rfl ?_
          refine X_ildn2 77 dX5_look_76 rfl rfl ?_
          refine X_iask (3 * smM σ + 1) 78 dX5_look_77 rfl rfl (by rw [xs_ne (by decide), e0]; exact nI_add _ 1) (show 3 * smM σ + 1 < 18 by omega) ?_
          refine X_aldn0 79 dX5_look_78 rfl rfl ?_
          refine X_getA 48 82 dX5_look_79 fl_X5_54 rfl rfl ?_
          refine X_iconst 3 83 dX5_look_82 (by decide) rfl ?_
          refine X_aldn0 84 dX5_look_83 rfl rfl ?_
          refine X_getI 87 dX5_look_84 fl_X5_84 rfl rfl ?_
          refine X_imul 88 dX5_look_87 rfl ?_
          refine X_iconst 2 89 dX5_look_88 (by decide) rfl ?_
          refine X_iadd 90 dX5_look_89 rfl ?_
          refine X_ildn3 91 dX5_look_90 rfl rfl ?_
          refine X_iask (3 * smM σ + 2) 92 dX5_look_91 rfl rfl (by rw [xs_ne (by decide), xs_ne (by decide), e0]; exact nI_add _ 2) (show 3 * smM σ + 2 < 18 by omega) ?_
          refine X_aldn0 93 dX5_look_92 rfl rfl ?_
          refine X_dup 94 dX5_look_93 rfl rfl ?_
          refine X_getI 97 dX5_look_94 fl_X5_84 rfl rfl ?_
          refine X_iconst 1 98 dX5_look_97 (by decide) rfl ?_
          refine X_iadd 99 dX5_look_98 rfl ?_
          refine X_putI 102 dX5_look_99 fp_X5_84 rfl rfl ?_
          refine X_aldn0 103 dX5_look_102 rfl rfl ?_
          refine X_getI 106 dX5_look_103 fl_X5_84 rfl rfl ?_
          refine X_iret dX5_look_106 rfl ?_
          refine Qp h ?_
          rw [xs_eq, xs_ne (by decide), xs_ne (by decide), xs_ne (by decide)]
          grind [g_look, b2i, lokM]
        · refine X_bipush (-5) 51 dX5_look_49 (by decide) rfl ?_
          refine X_iret dX5_look_51 rfl ?_
          refine Qp h ?_
          grind [g_look, b2i]
      · refine X_bipush (-3) 39 dX5_look_37 (by decide) rfl ?_
        refine X_iret dX5_look_39 rfl ?_
        refine Qp h ?_
        grind [g_look, b2i]
  · refine X_bipush (-2) 10 dX5_look_8 (by decide) rfl ?_
    refine X_iret dX5_look_10 rfl ?_
    refine Qp h ?_
    grind [g_look, b2i]
theorem S_X5_count {y : Int32} (hv : vXm σ) (h : Q (some (.int (g_count σ y))) σ) : xg_C (d + 1) mX5_count [.ref 36, .int y] σ Q := by
  refine xg_C_of py_X5_count (Nat.le_of_ble_eq_true rfl) ?_
  show xg_X none (d + 1) mX5_count 0 [(0, .ref 36), (1, .int y)] [] σ Q
  obtain ⟨hn, hn8⟩ := hv
  have loop : ∀ k i, i + k = nM σ → xg_X none (d + 1) mX5_count 4 [(3, .int (nI i)), (2, .int (goM σ i)), (0, .ref 36), (1, .int y)] [] σ Q := by
    intro k
    induction k with
    | zero =>
      intro i h2
      obtain rfl : i = nM σ := by omega
      refine X_ildn0 5 dX5_count_4 rfl rfl ?_
      refine X_aldn2 6 dX5_count_5 rfl rfl ?_
      refine X_getI 9 dX5_count_6 fl_X5_72 rfl rfl ?_
      refine X_icge 37 12 dX5_count_9 (by decide) rfl (fun c9 => ?_) (fun c9 => ?_)
      · refine X_ildn3 38 dX5_count_37 rfl rfl ?_
        by_cases y38_0 : y = 0
        · refine X_tsw 104 dX5_count_38 (Or.inr (by rw [y38_0]; exact ⟨by decide, by decide, 66, by decide, by decide⟩)) ?_
          refine X_aldn2 105 dX5_count_104 rfl rfl ?_
          refine X_getI 108 dX5_count_105 fl_X5_72 rfl rfl ?_
          refine X_iret dX5_count_108 rfl ?_
          refine Qi h ?_
          simp_all [g_count]
        by_cases y38_1 : y = 1
        · refine X_tsw 109 dX5_count_38 (Or.inr (by rw [y38_1]; exact ⟨by decide, by decide, 71, by decide, by decide⟩)) ?_
          refine X_aldn2 110 dX5_count_109 rfl rfl ?_
          refine X_getI 113 dX5_count_110 fl_X5_16 rfl rfl ?_
          refine X_iret dX5_count_113 rfl ?_
          refine Qi h ?_
          simp_all [g_count]
        by_cases y38_2 : y = 2
        · refine X_tsw 114 dX5_count_38 (Or.inr (by rw [y38_2]; exact ⟨by decide, by decide, 76, by decide, by decide⟩)) ?_
          refine X_aldn2 115 dX5_count_114 rfl rfl ?_
          refine X_getI 118 dX5_count_115 fl_X5_20 rfl rfl ?_
          refine X_iret dX5_count_118 rfl ?_
          refine Qi h ?_
          simp_all [g_count]
        by_cases y38_3 : y = 3
        · refine X_tsw 119 dX5_count_38 (Or.inr (by rw [y38_3]; exact ⟨by decide, by decide, 81, by decide, by decide⟩)) ?_
          refine X_aldn2 120 dX5_count_119 rfl rfl ?_
          refine X_getI 123 dX5_count_120 fl_X5_23 rfl rfl ?_
          refine X_iret dX5_count_123 rfl ?_
          refine Qi h ?_
          simp_all [g_count]
        by_cases y38_4 : y = 4
        · refine X_tsw 124 dX5_count_38 (Or.inr (by rw [y38_4]; exact ⟨by decide, by decide, 86, by decide, by decide⟩)) ?_
          refine X_aldn2 125 dX5_count_124 rfl rfl ?_
          refine X_getA 41 128 dX5_count_125 fl_X5_32 rfl rfl ?_
          refine X_bipush 10 130 dX5_count_128 (by decide) rfl ?_
          refine X_ialk 10 131 dX5_count_130 rfl rfl (by decide) (by decide) ?_
          refine X_iret dX5_count_131 rfl ?_
          refine Qi h ?_
          simp_all [g_count]
        by_cases y38_5 : y = 5
        · refine X_tsw 132 dX5_count_38 (Or.inr (by rw [y38_5]; exact ⟨by decide, by decide, 94, by decide, by decide⟩)) ?_
          refine X_ildn1 133 dX5_count_132 rfl rfl ?_
          refine X_iret dX5_count_133 rfl ?_
          refine Qi h ?_
          simp_all [g_count]
        by_cases y38_6 : y = 6
        · refine X_tsw 134 dX5_count_38 (Or.inr (by rw [y38_6]; exact ⟨by decide, by decide, 96, by decide, by decide⟩)) ?_
          refine X_aldn2 135 dX5_count_134 rfl rfl ?_
          refine X_getA 41 138 dX5_count_135 fl_X5_32 rfl rfl ?_
          refine X_bipush 8 140 dX5_count_138 (by decide) rfl ?_
          refine X_ialk 8 141 dX5_count_140 rfl rfl (by decide) (by decide) ?_
          refine X_iret dX5_count_141 rfl ?_
          refine Qi h ?_
          simp_all [g_count]
        by_cases y38_7 : y = 7
        · refine X_tsw 142 dX5_count_38 (Or.inr (by rw [y38_7]; exact ⟨by decide, by decide, 104, by decide, by decide⟩)) ?_
          refine X_aldn2 143 dX5_count_142 rfl rfl ?_
          refine X_getA 41 146 dX5_count_143 fl_X5_32 rfl rfl ?_
          refine X_bipush 9 148 dX5_count_146 (by decide) rfl ?_
          refine X_ialk 9 149 dX5_count_148 rfl rfl (by decide) (by decide) ?_
          refine X_iret dX5_count_149 rfl ?_
          refine Qi h ?_
          simp_all [g_count]
        by_cases y38_8 : y = 8
        · refine X_tsw 150 dX5_count_38 (Or.inr (by rw [y38_8]; exact ⟨by decide, by decide, 112, by decide, by decide⟩)) ?_
          refine X_aldn2 151 dX5_count_150 rfl rfl ?_
          refine X_getI 154 dX5_count_151 fl_X5_78 rfl rfl ?_
          refine X_iret dX5_count_154 rfl ?_
          refine Qi h ?_
          simp_all [g_count]
        by_cases y38_9 : y = 9
        · refine X_tsw 155 dX5_count_38 (Or.inr (by rw [y38_9]; exact ⟨by decide, by decide, 117, by decide, by decide⟩)) ?_
          refine X_aldn2 156 dX5_count_155 rfl rfl ?_
          refine X_getI 159 dX5_count_156 fl_X5_81 rfl rfl ?_
          refine X_iret dX5_count_159 rfl ?_
          refine Qi h ?_
          simp_all [g_count]
        by_cases y38_10 : y = 10
        · refine X_tsw 160 dX5_count_38 (Or.inr (by rw [y38_10]; exact ⟨by decide, by decide, 122, by decide, by decide⟩)) ?_
          refine X_aldn2 161 dX5_count_160 rfl rfl ?_
          refine X_getI 164 dX5_count_161 fl_X5_84 rfl rfl ?_
          refine X_iret dX5_count_164 rfl ?_
          refine Qi h ?_
          simp_all [g_count]
        by_cases y38_11 : y = 11
        · refine X_tsw 165 dX5_count_38 (Or.inr (by rw [y38_11]; exact ⟨by decide, by decide, 127, by decide, by decide⟩)) ?_
          refine X_aldn2 166 dX5_count_165 rfl rfl ?_
          refine X_getI 169 dX5_count_166 fl_X5_75 rfl rfl ?_
          refine X_iret dX5_count_169 rfl ?_
          refine Qi h ?_
          simp_all [g_count]
        by_cases y38_12 : y = 12
        · refine X_tsw 170 dX5_count_38 (Or.inr (by rw [y38_12]; exact ⟨by decide, by decide, 132, by decide, by decide⟩)) ?_
          refine X_aldn2 171 dX5_count_170 rfl rfl ?_
          refine X_getI 174 dX5_count_171 fl_X5_91 rfl rfl ?_
          refine X_iret dX5_count_174 rfl ?_
          refine Qi h ?_
          simp_all [g_count]
        refine X_tsw 175 dX5_count_38 (Or.inl ⟨by have z0 := lv_neT y38_0 (a := 0) (by decide); have z1 := lv_neT y38_1 (a := 1) (by decide); have z2 := lv_neT y38_2 (a := 2) (by decide); have z3 := lv_neT y38_3 (a := 3) (by decide); have z4 := lv_neT y38_4 (a := 4) (by decide); have z5 := lv_neT y38_5 (a := 5) (by decide); have z6 := lv_neT y38_6 (a := 6) (by decide); have z7 := lv_neT y38_7 (a := 7) (by decide); have z8 := lv_neT y38_8 (a := 8) (by decide); have z9 := lv_neT y38_9 (a := 9) (by decide); have z10 := lv_neT y38_10 (a := 10) (by decide); have z11 := lv_neT y38_11 (a := 11) (by decide); have z12 := lv_neT y38_12 (a := 12) (by decide); omega, by decide⟩) ?_
        refine X_bipush (-3) 177 dX5_count_175 (by decide) rfl ?_
        refine X_iret dX5_count_177 rfl ?_
        refine Qi h ?_
        simp_all [g_count]
      · exact absurd (by rw [hn]; exact nI_le (Nat.le_refl _) (by omega)) c9
    | succ k ih =>
      intro i h2
      refine X_ildn0 5 dX5_count_4 rfl rfl ?_
      refine X_aldn2 6 dX5_count_5 rfl rfl ?_
      refine X_getI 9 dX5_count_6 fl_X5_72 rfl rfl ?_
      refine X_icge 37 12 dX5_count_9 (by decide) rfl (fun c9 => ?_) (fun c9 => ?_)
      · have c9 := leq c9 hn (by omega) (by omega)
        omega
      · refine X_ildn1 13 dX5_count_12 rfl rfl ?_
        refine X_aldn2 14 dX5_count_13 rfl rfl ?_
        refine X_getA 41 17 dX5_count_14 fl_X5_32 rfl rfl ?_
        refine X_ildn0 18 dX5_count_17 rfl rfl ?_
        refine X_ialk i 19 dX5_count_18 rfl rfl rfl (show i < 12 by omega) ?_
        refine X_ifle 28 22 dX5_count_19 (by decide) rfl (fun c19 => ?_) (fun c19 => ?_)
        · refine X_iconst 0 29 dX5_count_28 (by decide) rfl ?_
          refine X_ior 30 dX5_count_29 rfl ?_
          refine X_istn1 31 dX5_count_30 rfl rfl rfl rfl ?_
          refine X_inc0 1 34 dX5_count_31 (by decide) rfl rfl rfl ?_
          refine X_goto 4 dX5_count_34 (by decide) ?_
          refine xg_lv ?_ (ih (i + 1) (by omega))
          rw [nI_succ, goM, if_neg (by rw [i_nlt]; exact c19)]
        · refine X_iconst 1 23 dX5_count_22 (by decide) rfl ?_
          refine X_ildn0 24 dX5_count_23 rfl rfl ?_
          refine X_ishl 25 dX5_count_24 rfl ?_
          refine X_goto 29 dX5_count_25 (by decide) ?_
          refine X_ior 30 dX5_count_29 rfl ?_
          refine X_istn1 31 dX5_count_30 rfl rfl rfl rfl ?_
          refine X_inc0 1 34 dX5_count_31 (by decide) rfl rfl rfl ?_
          refine X_goto 4 dX5_count_34 (by decide) ?_
          refine xg_lv ?_ (ih (i + 1) (by omega))
          rw [nI_succ, goM, if_pos (by rw [i_nle] at c19; exact c19)]
  refine X_iconst 0 1 dX5_count_0 (by decide) rfl ?_
  refine X_istnN 2 dX5_count_1 rfl rfl rfl rfl ?_
  refine X_iconst 0 3 dX5_count_2 (by decide) rfl ?_
  refine X_istnN 4 dX5_count_3 rfl rfl rfl rfl ?_
  exact loop (nM σ) 0 (by omega)
end REF4

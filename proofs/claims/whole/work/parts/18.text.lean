/-! the text read; fault() and court() -/
theorem vD_dcX {σ : xm_M} {w : Int32} (h : vD σ) : vD (dcX σ w) := by
  obtain ⟨h1, h2⟩ := h
  have key : ∀ τ : xm_M, τ.1 7 5 = σ.1 7 5 → vD τ := fun τ e => by unfold vD nD at *; rw [e]; exact ⟨h1, h2⟩
  unfold dcX
  split
  · unfold sbX
    split
    · exact key _ rfl
    · exact key _ (xs_ne (by decide))
  · split
    · exact key _ (xs_nk (by decide))
    · split
      · exact key _ (xs_nk (by decide))
      · split
        · exact key _ (xs_nk (by decide))
        · split
          · have e : (resX σ).1 7 5 = 0 := by
              unfold resX
              rw [xs_ne (by decide), xs_ne (by decide), xs_ne (by decide), xs_nk (by decide), xs_nk (by decide), xs_nk (by decide), xs_eq]
            unfold vD nD
            rw [e]
            decide
          · split
            · unfold vD nD
              rw [xs_eq]
              decide
            · unfold adX
              split
              · exact key _ rfl
              · rename_i c
                rw [h1, i_nle] at c
                have c' := (nI_ltI (b := 8) (by omega) (by decide)).mp c
                unfold vD nD
                rw [xs_eq, h1, ← nI_succ, nI_clamp (by omega)]
                exact ⟨rfl, by omega⟩
theorem dcX_13 {σ : xm_M} {w : Int32} {c : Nat} (h : ¬ (7 ≤ c ∧ c ≤ 12)) : (dcX σ w).1 c = σ.1 c := by
  have k7 : c ≠ 7 := by omega
  have k8 : c ≠ 8 := by omega
  have k9 : c ≠ 9 := by omega
  have k10 : c ≠ 10 := by omega
  have k11 : c ≠ 11 := by omega
  have k12 : c ≠ 12 := by omega
  unfold dcX sbX resX adX
  funext k
  repeat' split
  all_goals simp only [xs_ne k7, xs_ne k8, xs_ne k9, xs_ne k10, xs_ne k11, xs_ne k12]
theorem rcN_13 {w : Int32} {c : Nat} (h13 : c ≠ 13) (h15 : c ≠ 15) : ∀ {k i : Nat} {σ : xm_M}, (rcN w k i σ).2.1 c = σ.1 c
  | 0, _, _ => rfl
  | k + 1, i, σ => by
    rw [rcN]
    split
    · exact ntX_ne h13
    · rw [rcN_13 h13 h15]
      funext z
      rw [xs_ne h15, ntX_ne h13]
theorem rcN_k {w : Int32} {z : Nat} (h3 : z ≠ 3) (h4 : z ≠ 4) : ∀ {k i : Nat} {σ : xm_M}, (rcN w k i σ).2.1 13 z = σ.1 13 z
  | 0, _, _ => rfl
  | k + 1, i, σ => by
    rw [rcN]
    split
    · exact ntX_k h3 h4
    · rw [rcN_k h3 h4, xs_ne (by decide), ntX_k h3 h4]
theorem clX_ok {σ : xm_M} (h : vRd σ) : vRd (clX σ).2 := by
  unfold clX
  split
  · exact h
  · split
    · exact rcN_ok h
    · have h1 := rcN_ok (w := wdX σ) (k := nnW (wdX σ)) (i := 0) h
      obtain ⟨a, b, c, e⟩ := h1
      have e13 : (dcX (rcN (wdX σ) (nnW (wdX σ)) 0 σ).2 (wdX σ)).1 13 = (rcN (wdX σ) (nnW (wdX σ)) 0 σ).2.1 13 := dcX_13 (by decide)
      refine ⟨?_, vD_dcX b, ?_, ?_⟩
      · unfold vT b3 at *; rw [e13]; exact a
      · unfold teN at *; rw [e13]; exact c
      · unfold teN b3 at *; rw [e13]; exact e
def roX : Nat → xm_M → Int32 × xm_M
  | 0, σ => (σ.1 13 3, σ)
  | k + 1, σ =>
    if (clX (ntX σ (teN σ))).1 = false then ((clX (ntX σ (teN σ))).2.1 13 3, (clX (ntX σ (teN σ))).2)
    else if b3 σ ≤ tsN (roN σ) then (-1, roN σ) else if (roN σ).1 14 (tsN (roN σ)) = 59 then roX k (roN σ) else ((roN σ).1 13 3, roN σ)
where
  /-- behind a clause: counted, and the next token in hand -/
  roN (σ : xm_M) : xm_M := ntX (xm_set (clX (ntX σ (teN σ))).2 13 2 ((clX (ntX σ (teN σ))).2.1 13 2 + 1)) (teN (clX (ntX σ (teN σ))).2)
section TEXT
variable {d : Nat} {σ : xm_M} {Q : Option Value → xm_M → Prop}
theorem roN_ok {σ : xm_M} (h : vRd σ) : vRd (roX.roN σ) ∧ vK (roX.roN σ) (tsN (roX.roN σ)) (teN (roX.roN σ)) ∧ b3 (roX.roN σ) = b3 σ := by
  have h1 := clX_ok (ntX_vK h).1
  have h2 : vRd (xm_set (clX (ntX σ (teN σ))).2 13 2 ((clX (ntX σ (teN σ))).2.1 13 2 + 1)) := by
    obtain ⟨a, b, c, e⟩ := h1
    refine ⟨vT_set (by decide) a, ?_, ?_, ?_⟩
    · unfold vD nD at *; rw [xs_ne (by decide)]; exact b
    · unfold teN at *; rw [xs_nk (by decide)]; exact c
    · rw [b3_set (by decide)]; unfold teN at *; rw [xs_nk (by decide)]; exact e
  have ht : teN (xm_set (clX (ntX σ (teN σ))).2 13 2 ((clX (ntX σ (teN σ))).2.1 13 2 + 1)) = teN (clX (ntX σ (teN σ))).2 := by unfold teN; rw [xs_nk (by decide)]
  obtain ⟨r1, r2, -, -⟩ := ntX_vK h2
  rw [ht] at r1 r2
  refine ⟨r1, r2, ?_⟩
  unfold roX.roN
  rw [ntX_b3, b3_set (by decide)]
  have e13 : (clX (ntX σ (teN σ))).2.1 13 1 = σ.1 13 1 := by
    unfold clX
    split
    · exact ntX_k (by decide) (by decide)
    · split
      · rw [rcN_k (by decide) (by decide), ntX_k (by decide) (by decide)]
      · rw [dcX_13 (by decide), rcN_k (by decide) (by decide), ntX_k (by decide) (by decide)]
  unfold b3
  rw [e13]
theorem S_X3_readOnto (h4 : vT σ) (hD : vD σ) (h : Q (some (.int (roX 14 (xm_set (xm_set σ 13 2 0) 13 4 0)).1)) (roX 14 (xm_set (xm_set σ 13 2 0) 13 4 0)).2) : xg_C (d + 7) mX3_readOnto [.ref 13, .ref 7] σ Q := by
  refine xg_C_of py_X3_readOnto (Nat.le_of_ble_eq_true rfl) ?_
  show xg_X none (d + 7) mX3_readOnto 0 [(0, .ref 13), (1, .ref 7)] [] σ Q
  have loop : ∀ k i τ, i + k = 14 → vRd τ → Q (some (.int (roX k τ).1)) (roX k τ).2 → xg_X none (d + 7) mX3_readOnto 12 [(2, .int (nI i)), (0, .ref 13), (1, .ref 7)] [] τ Q := by
    intro k
    induction k with
    | zero =>
      intro i τ h2 hr h
      obtain rfl : i = 14 := by omega
      refine X_ildn0 13 dX3_readOnto_12 rfl rfl ?_
      refine X_bipush 14 15 dX3_readOnto_13 (by decide) rfl ?_
      refine X_icge 86 18 dX3_readOnto_15 (by decide) rfl (fun c15 => ?_) (fun c15 => ?_)
      · refine X_aldn1 87 dX3_readOnto_86 rfl rfl ?_
        refine X_getI 90 dX3_readOnto_87 fl_X3_32 rfl rfl ?_
        refine X_iret dX3_readOnto_90 rfl ?_
        exact h
      · exact absurd (by decide) c15
    | succ k ih =>
      intro i τ h2 hr h
      obtain ⟨r1, r2, r3, r4⟩ := ntX_vK hr
      obtain ⟨s1, s2, s3⟩ := roN_ok hr
      have c1 := clX_ok r1
      have eN : ntX (xm_set (clX (ntX τ (teN τ))).2 13 2 ((clX (ntX τ (teN τ))).2.1 13 2 + 1)) (teN (clX (ntX τ (teN τ))).2) = roX.roN τ := rfl
      rw [roX] at h
      refine X_ildn0 13 dX3_readOnto_12 rfl rfl ?_
      refine X_bipush 14 15 dX3_readOnto_13 (by decide) rfl ?_
      refine X_icge 86 18 dX3_readOnto_15 (by decide) rfl (fun c15 => ?_) (fun c15 => ?_)
      · have c15 := leq c15 (n := 14) (by decide) (by decide) (by omega)
        omega
      · refine X_aldn1 19 dX3_readOnto_18 rfl rfl ?_
        refine X_callV0 3 22 dX3_readOnto_19 cw_X3_25 zk_X3_nextToken ⟨rfl, rfl⟩ rfl rfl rfl (S_X3_nextToken hr.1 hr.2.2.1 hr.2.2.2 ?_)
        refine X_pn ?_
        refine X_aldn1 23 dX3_readOnto_22 rfl rfl ?_
        refine X_aldn2 24 dX3_readOnto_23 rfl rfl ?_
        refine X_callV1 3 27 dX3_readOnto_24 cw_X3_28 zk_X3_readClause ⟨rfl, rfl⟩ rfl rfl rfl (S_X3_readClause r1 r2 ?_)
        refine X_pu ?_
        refine X_ifne 35 30 dX3_readOnto_27 (by decide) rfl (fun c27 => ?_) (fun c27 => ?_)
        · rw [if_neg (by rw [b2i_n.mp c27]; decide)] at h
          refine X_aldn1 36 dX3_readOnto_35 rfl rfl ?_
          refine X_dup 37 dX3_readOnto_36 rfl rfl ?_
          refine X_getI 40 dX3_readOnto_37 fl_X3_18 rfl rfl ?_
          refine X_iconst 1 41 dX3_readOnto_40 (by decide) rfl ?_
          refine X_iadd 42 dX3_readOnto_41 rfl ?_
          refine X_putI 45 dX3_readOnto_42 fp_X3_18 rfl rfl ?_
          refine X_aldn1 46 dX3_readOnto_45 rfl rfl ?_
          refine X_callV0 3 49 dX3_readOnto_46 cw_X3_25 zk_X3_nextToken ⟨rfl, rfl⟩ rfl rfl rfl (S_X3_nextToken (p := teN (clX (ntX τ (teN τ))).2) (vT_set (by decide) c1.1) (by rw [xs_nk (by decide)]; exact c1.2.2.1) (by rw [b3_set (by decide)]; exact c1.2.2.2) ?_)
          rw [eN]
          refine X_pn ?_
          refine X_aldn1 50 dX3_readOnto_49 rfl rfl ?_
          refine X_getI 53 dX3_readOnto_50 fl_X3_32 rfl rfl ?_
          refine X_aldn1 54 dX3_readOnto_53 rfl rfl ?_
          refine X_getI 57 dX3_readOnto_54 fl_X3_35 rfl rfl ?_
          rw [s2.2.1, s2.1.1]
          refine X_iclt 62 60 dX3_readOnto_57 (by decide) rfl (fun c57 => ?_) (fun c57 => ?_)
          · have hlt : tsN (roX.roN τ) < b3 (roX.roN τ) := (nI_ltI (by have := s2.1.2; have := s2.2.2.2.1; have := s2.2.2.2.2; omega) (by have := s2.1.2; omega)).mp c57
            rw [if_neg (by omega)] at h
            refine X_aldn1 63 dX3_readOnto_62 rfl rfl ?_
            refine X_aldn1 64 dX3_readOnto_63 rfl rfl ?_
            refine X_getI 67 dX3_readOnto_64 fl_X3_32 rfl rfl ?_
            rw [s2.2.1]
            refine X_callV1 3 70 dX3_readOnto_67 cw_X3_38 zk_X3_letterAt ⟨rfl, rfl⟩ rfl rfl rfl (S_X3_letterAt ?_)
            rw [ltX_at s2.1 hlt]
            refine X_pu ?_
            refine X_bipush 59 72 dX3_readOnto_70 (by decide) rfl ?_
            refine X_iceq 80 75 dX3_readOnto_72 (by decide) rfl (fun c72 => ?_) (fun c72 => ?_)
            · refine X_inc0 1 83 dX3_readOnto_80 (by decide) rfl rfl rfl ?_
              refine X_goto 12 dX3_readOnto_83 (by decide) ?_
              rw [if_pos c72] at h
              exact xg_lv (by rw [nI_succ]) (ih (i + 1) _ (by omega) s1 h)
            · refine X_aldn1 76 dX3_readOnto_75 rfl rfl ?_
              refine X_getI 79 dX3_readOnto_76 fl_X3_32 rfl rfl ?_
              refine X_iret dX3_readOnto_79 rfl ?_
              rw [if_neg c72] at h
              exact h
          · refine X_iconst (-1) 61 dX3_readOnto_60 (by decide) rfl ?_
            refine X_iret dX3_readOnto_61 rfl ?_
            rw [if_pos] at h
            · exact h
            · rw [i_nlt] at c57
              have := (nI_leI (by have := s2.1.2; omega) (by have := s2.1.2; have := s2.2.2.2.1; have := s2.2.2.2.2; omega)).mp c57
              omega
        · refine X_aldn1 31 dX3_readOnto_30 rfl rfl ?_
          refine X_getI 34 dX3_readOnto_31 fl_X3_32 rfl rfl ?_
          refine X_iret dX3_readOnto_34 rfl ?_
          rw [if_pos (b2i_0.mp c27)] at h
          exact h
  refine X_aldn0 1 dX3_readOnto_0 rfl rfl ?_
  refine X_iconst 0 2 dX3_readOnto_1 (by decide) rfl ?_
  refine X_putI 5 dX3_readOnto_2 fp_X3_18 rfl rfl ?_
  refine X_aldn0 6 dX3_readOnto_5 rfl rfl ?_
  refine X_iconst 0 7 dX3_readOnto_6 (by decide) rfl ?_
  refine X_putI 10 dX3_readOnto_7 fp_X3_22 rfl rfl ?_
  refine X_iconst 0 11 dX3_readOnto_10 (by decide) rfl ?_
  refine X_istnN 12 dX3_readOnto_11 rfl rfl rfl rfl ?_
  refine loop 14 0 _ rfl ?_ h
  refine ⟨vT_set (by decide) (vT_set (by decide) h4), ?_, ?_, ?_⟩
  · unfold vD nD at *
    rw [xs_ne (by decide), xs_ne (by decide)]
    exact hD
  · unfold teN
    rw [xs_eq]
    rfl
  · unfold teN
    rw [xs_eq]
    exact Nat.zero_le _
def f_fault (σ : xm_M) : Int32 × xm_M := roX 14 (xm_set (xm_set (ccp σ 7 1) 13 2 0) 13 4 0)
/-- a new day -/
def stdX (σ : xm_M) : xm_M := xm_set (xm_set (xm_set (xm_set (xm_set (xm_set (xm_set (xm_set (xm_set (xm_set (xm_set σ 16 0 0) 16 1 0) 16 2 0) 16 3 0) 16 4 0) 16 5 0) 0 6 0) 0 8 0) 0 10 0) 0 11 0) 0 16 0
def f_court (σ : xm_M) : Int32 × xm_M := if (f_fault σ).1 = -1 then ((f_fault σ).2.1 13 2, stdX (xm_set (ccp (f_fault σ).2 1 7) 13 1 0)) else (-4, (f_fault σ).2)
theorem ccp_v {σ : xm_M} (hT : vT σ) (hv : vX σ) : vT (ccp σ 7 1) ∧ vD (ccp σ 7 1) := by
  have e : (ccp σ 7 1).1 7 5 = σ.1 1 5 := rfl
  have e13 : (ccp σ 7 1).1 13 = σ.1 13 := by
    funext k
    simp only [ccp, ccq]
    rw [if_neg (by omega), if_neg (by omega), if_neg (by omega)]
  refine ⟨?_, ?_⟩
  · unfold vT b3 at *; rw [e13]; exact hT
  · unfold vD nD; rw [e]; exact hv
theorem S_X4_fault (hT : vT σ) (hv : vX σ) (h : Q (some (.int (f_fault σ).1)) (f_fault σ).2) : xg_C (d + 8) mX4_fault [.ref 0] σ Q := by
  refine xg_C_of py_X4_fault (Nat.le_of_ble_eq_true rfl) ?_
  show xg_X none (d + 8) mX4_fault 0 [(0, .ref 0)] [] σ Q
  refine X_aldn0 1 dX4_fault_0 rfl rfl ?_
  refine X_getA 7 4 dX4_fault_1 fl_X4_16 rfl rfl ?_
  refine X_aldn0 5 dX4_fault_4 rfl rfl ?_
  refine X_getA 1 8 dX4_fault_5 fl_X4_10 rfl rfl ?_
  refine X_callV1 0 11 dX4_fault_8 cw_X4_70 zk_X0_copyFrom ⟨rfl, rfl⟩ rfl rfl rfl (S_X0_copyFrom_71 ?_)
  refine X_pn ?_
  refine X_aldn0 12 dX4_fault_11 rfl rfl ?_
  refine X_getA 13 15 dX4_fault_12 fl_X4_22 rfl rfl ?_
  refine X_aldn0 16 dX4_fault_15 rfl rfl ?_
  refine X_getA 7 19 dX4_fault_16 fl_X4_16 rfl rfl ?_
  refine X_callV1 3 22 dX4_fault_19 cw_X4_74 zk_X3_readOnto ⟨rfl, rfl⟩ rfl rfl rfl (S_X3_readOnto (ccp_v hT hv).1 (ccp_v hT hv).2 ?_)
  refine X_pu ?_
  refine X_iret dX4_fault_22 rfl ?_
  exact h
theorem S_X4_court (hT : vT σ) (hv : vX σ) (h : Q (some (.int (f_court σ).1)) (f_court σ).2) : xg_C (d + 8) mX4_court [.ref 0] σ Q := by
  refine xg_C_of py_X4_court (Nat.le_of_ble_eq_true rfl) ?_
  show xg_X none (d + 8) mX4_court 0 [(0, .ref 0)] [] σ Q
  have e13 : (stdX (xm_set (ccp (f_fault σ).2 1 7) 13 1 0)).1 13 2 = (f_fault σ).2.1 13 2 := by
    unfold stdX
    simp only [xs_ne (show (13 : Nat) ≠ 0 by decide), xs_ne (show (13 : Nat) ≠ 16 by decide)]
    rw [xs_nk (by decide)]
    simp only [ccp, ccq]
    rw [if_neg (by omega), if_neg (by omega), if_neg (by omega)]
  refine X_aldn0 1 dX4_court_0 rfl rfl ?_
  refine X_getA 7 4 dX4_court_1 fl_X4_16 rfl rfl ?_
  refine X_aldn0 5 dX4_court_4 rfl rfl ?_
  refine X_getA 1 8 dX4_court_5 fl_X4_10 rfl rfl ?_
  refine X_callV1 0 11 dX4_court_8 cw_X4_70 zk_X0_copyFrom ⟨rfl, rfl⟩ rfl rfl rfl (S_X0_copyFrom_71 ?_)
  refine X_pn ?_
  refine X_aldn0 12 dX4_court_11 rfl rfl ?_
  refine X_getA 13 15 dX4_court_12 fl_X4_22 rfl rfl ?_
  refine X_aldn0 16 dX4_court_15 rfl rfl ?_
  refine X_getA 7 19 dX4_court_16 fl_X4_16 rfl rfl ?_
  refine X_callV1 3 22 dX4_court_19 cw_X4_74 zk_X3_readOnto ⟨rfl, rfl⟩ rfl rfl rfl (S_X3_readOnto (ccp_v hT hv).1 (ccp_v hT hv).2 ?_)
  rw [show roX 14 (xm_set (xm_set (ccp σ 7 1) 13 2 0) 13 4 0) = f_fault σ from rfl]
  refine X_pu ?_
  refine X_iconst (-1) 23 dX4_court_22 (by decide) rfl ?_
  refine X_iceq 29 26 dX4_court_23 (by decide) rfl (fun c23 => ?_) (fun c23 => ?_)
  · refine X_aldn0 30 dX4_court_29 rfl rfl ?_
    refine X_getA 1 33 dX4_court_30 fl_X4_10 rfl rfl ?_
    refine X_aldn0 34 dX4_court_33 rfl rfl ?_
    refine X_getA 7 37 dX4_court_34 fl_X4_16 rfl rfl ?_
    refine X_callV1 0 40 dX4_court_37 cw_X4_70 zk_X0_copyFrom ⟨rfl, rfl⟩ rfl rfl rfl (S_X0_copyFrom_17 ?_)
    refine X_pn ?_
    refine X_aldn0 41 dX4_court_40 rfl rfl ?_
    refine X_getA 13 44 dX4_court_41 fl_X4_22 rfl rfl ?_
    refine X_iconst 0 45 dX4_court_44 (by decide) rfl ?_
    refine X_putI 48 dX4_court_45 fp_X4_63 rfl rfl ?_
    refine X_aldn0 49 dX4_court_48 rfl rfl ?_
    refine X_callV0 4 52 dX4_court_49 cw_X4_78 zk_X4_startDay ⟨rfl, rfl⟩ rfl rfl rfl (S_X4_startDay ?_)
    rw [show xm_set (xm_set (xm_set (xm_set (xm_set (xm_set (xm_set (xm_set (xm_set (xm_set (xm_set (xm_set (ccp (f_fault σ).2 1 7) 13 1 0) 16 0 0) 16 1 0) 16 2 0) 16 3 0) 16 4 0) 16 5 0) 0 6 0) 0 8 0) 0 10 0) 0 11 0) 0 16 0 = stdX (xm_set (ccp (f_fault σ).2 1 7) 13 1 0) from rfl]
    refine X_pn ?_
    refine X_aldn0 53 dX4_court_52 rfl rfl ?_
    refine X_getA 13 56 dX4_court_53 fl_X4_22 rfl rfl ?_
    refine X_getI 59 dX4_court_56 fl_X4_81 rfl rfl ?_
    refine X_iret dX4_court_59 rfl ?_
    refine Qp h ?_
    rw [f_court, if_pos c23, e13]
  · refine X_bipush (-4) 28 dX4_court_26 (by decide) rfl ?_
    refine X_iret dX4_court_28 rfl ?_
    refine Qp h ?_
    rw [f_court, if_neg c23]
end TEXT

/-! the reference: the court laid -/
def t4M (σ : xm_M) (w n : Nat) : xm_M := (fun c j => if c = 37 ∧ 4 * nM σ ≤ j ∧ j < 4 * nM σ + n then σ.1 40 (w + (j - 4 * nM σ)) else σ.1 c j, σ.2)
def dlM (σ : xm_M) (w : Nat) : xm_M := if σ.1 40 w = 5 then plnM σ else if σ.1 40 w = 6 then xm_set σ 38 (ixN (σ.1 40 (w + 1))) (σ.1 40 (w + 2)) else if σ.1 40 w = 7 then xm_set σ 36 3 (σ.1 40 (w + 1)) else if σ.1 40 w = 8 then xm_set σ 36 4 (σ.1 40 (w + 1)) else if σ.1 40 w = 9 then xm_set σ 36 5 (σ.1 40 (w + 1)) else if σ.1 40 w = 10 then xm_set σ 36 0 0 else xm_set (t4M σ w 4) 36 0 (σ.1 36 0 + 1)
/-- what a line must keep to be laid -/
def dlP (σ : xm_M) (w : Nat) : Prop := vXm σ ∧ (σ.1 40 w = 6 → ∃ j, j < 3 ∧ σ.1 40 (w + 1) = nI j) ∧ (¬ σ.1 40 w = 5 → ¬ σ.1 40 w = 6 → ¬ σ.1 40 w = 7 → ¬ σ.1 40 w = 8 → ¬ σ.1 40 w = 9 → ¬ σ.1 40 w = 10 → nM σ < 8)
def coM (σ : xm_M) : Nat → xm_M
  | 0 => σ
  | k + 1 => dlM (coM σ k) (5 * k)
def rnN (σ : xm_M) : Nat := (σ.1 36 14).toNatClampNeg
def coE (σ : xm_M) : xm_M := begM (xm_set (coM σ (rnN σ)) 36 6 0)
def g_court (σ : xm_M) : Int32 × xm_M := if (rdM σ).1 = true then ((coE (rdM σ).2).1 36 14, coE (rdM σ).2) else (-4, (rdM σ).2)
theorem t4M_ne {σ : xm_M} {w n c : Nat} (h : c ≠ 37) : (t4M σ w n).1 c = σ.1 c := by funext j; exact if_neg (fun e => h e.1)
theorem dl_14 {σ : xm_M} {w : Nat} : (dlM σ w).1 36 14 = σ.1 36 14 := by
  unfold dlM plnM
  repeat' split
  all_goals simp [xm_set, t4M]
theorem co_14 {σ : xm_M} : ∀ k, (coM σ k).1 36 14 = σ.1 36 14
  | 0 => rfl
  | k + 1 => by rw [coM, dl_14, co_14 k]
section REF11
variable {d : Nat} {σ : xm_M} {Q : Option Value → xm_M → Prop}
theorem S_X5_doLine {w : Nat} (hp : dlP σ w) (hw : w + 3 < 70) (h : Q none (dlM σ w)) : xg_C (d + 1) mX5_doLine [.ref 36, .int (nI w)] σ Q := by
  refine xg_C_of py_X5_doLine (Nat.le_of_ble_eq_true rfl) ?_
  show xg_X none (d + 1) mX5_doLine 0 [(0, .ref 36), (1, .int (nI w))] [] σ Q
  obtain ⟨⟨hn, hn8⟩, p6, p8⟩ := hp
  unfold dlM at h
  have e1 : nI w + 1 = nI (w + 1) := nI_add w 1
  have e2 : nI w + 2 = nI (w + 2) := nI_add w 2
  have loop : ∀ z, nM σ < 8 → Q none (xm_set (t4M σ w 4) 36 0 (σ.1 36 0 + 1)) → ∀ m k, k + m = 4 → xg_X none (d + 1) mX5_doLine 110 [(3, .int (nI k)), (2, .int z), (0, .ref 36), (1, .int (nI w))] [] (t4M σ w k) Q := by
    intro z n8 h m
    induction m with
    | zero =>
      intro k hk
      obtain rfl : k = 4 := by omega
      refine X_ildn0 111 dX5_doLine_110 rfl rfl ?_
      refine X_iconst 4 112 dX5_doLine_111 (by decide) rfl ?_
      refine X_icge 142 115 dX5_doLine_112 (by decide) rfl (fun c112 => ?_) (fun c112 => ?_)
      · refine X_aldn2 143 dX5_doLine_142 rfl rfl ?_
        refine X_dup 144 dX5_doLine_143 rfl rfl ?_
        refine X_getI 147 dX5_doLine_144 fl_X5_72 rfl rfl ?_
        refine X_iconst 1 148 dX5_doLine_147 (by decide) rfl ?_
        refine X_iadd 149 dX5_doLine_148 rfl ?_
        refine X_putI 152 dX5_doLine_149 fp_X5_72 rfl rfl ?_
        refine X_vret dX5_doLine_152 rfl ?_
        rw [t4M_ne (by decide)]
        exact h
      · exact absurd (by decide) c112
    | succ m ih =>
      intro k hk
      refine X_ildn0 111 dX5_doLine_110 rfl rfl ?_
      refine X_iconst 4 112 dX5_doLine_111 (by decide) rfl ?_
      refine X_icge 142 115 dX5_doLine_112 (by decide) rfl (fun c112 => ?_) (fun c112 => ?_)
      · have c112 := leq c112 (n := 4) (by decide) (by decide) (by omega)
        omega
      · refine X_aldn2 116 dX5_doLine_115 rfl rfl ?_
        refine X_getA 37 119 dX5_doLine_116 fl_X5_7 rfl rfl ?_
        refine X_iconst 4 120 dX5_doLine_119 (by decide) rfl ?_
        refine X_aldn2 121 dX5_doLine_120 rfl rfl ?_
        refine X_getI 124 dX5_doLine_121 fl_X5_72 rfl rfl ?_
        refine X_imul 125 dX5_doLine_124 rfl ?_
        refine X_ildn0 126 dX5_doLine_125 rfl rfl ?_
        refine X_iadd 127 dX5_doLine_126 rfl ?_
        refine X_aldn2 128 dX5_doLine_127 rfl rfl ?_
        refine X_getA 40 131 dX5_doLine_128 fl_X5_29 rfl rfl ?_
        refine X_ildn3 132 dX5_doLine_131 rfl rfl ?_
        refine X_ildn0 133 dX5_doLine_132 rfl rfl ?_
        refine X_iadd 134 dX5_doLine_133 rfl ?_
        refine X_ialk (w + k) 135 dX5_doLine_134 rfl rfl (nI_add w k) (show w + k < 70 by omega) ?_
        refine X_iask (4 * nM σ + k) 136 dX5_doLine_135 rfl rfl (by rw [t4M_ne (by decide), hn, show (4 : Int32) = nI 4 by decide, pk_mul]; exact nI_add _ _) (show 4 * nM σ + k < 32 by omega) ?_
        refine X_inc0 1 139 dX5_doLine_136 (by decide) rfl rfl rfl ?_
        refine X_goto 110 dX5_doLine_139 (by decide) ?_
        refine xg_lv (by rw [nI_succ]) (xg_mm ?_ (ih (k + 1) (by omega)))
        apply Prod.ext
        · funext c j
          simp only [t4M, xm_set]
          grind
        · rfl
  refine X_aldn0 1 dX5_doLine_0 rfl rfl ?_
  refine X_getA 40 4 dX5_doLine_1 fl_X5_29 rfl rfl ?_
  refine X_ildn1 5 dX5_doLine_4 rfl rfl ?_
  refine X_iconst 1 6 dX5_doLine_5 (by decide) rfl ?_
  refine X_iadd 7 dX5_doLine_6 rfl ?_
  refine X_ialk (w + 1) 8 dX5_doLine_7 rfl rfl e1 (show w + 1 < 70 by omega) ?_
  refine X_istnN 9 dX5_doLine_8 rfl rfl rfl rfl ?_
  refine X_aldn1 10 dX5_doLine_9 rfl rfl ?_
  refine X_getA 40 13 dX5_doLine_10 fl_X5_29 rfl rfl ?_
  refine X_ildn2 14 dX5_doLine_13 rfl rfl ?_
  refine X_ialk w 15 dX5_doLine_14 rfl rfl rfl (show w < 70 by omega) ?_
  by_cases y15_0 : σ.1 40 w = 5
  · refine X_tsw 52 dX5_doLine_15 (Or.inr (by rw [y15_0]; exact ⟨by decide, by decide, 37, by decide, by decide⟩)) ?_
    refine X_aldn1 53 dX5_doLine_52 rfl rfl ?_
    refine X_callV0 5 56 dX5_doLine_53 cw_X5_66 zk_X5_plain ⟨rfl, rfl⟩ rfl rfl rfl (S_X5_plain ?_)
    refine X_pn ?_
    refine X_goto 152 dX5_doLine_56 (by decide) ?_
    refine X_vret dX5_doLine_152 rfl ?_
    rw [if_pos y15_0] at h
    exact h
  by_cases y15_1 : σ.1 40 w = 6
  · refine X_tsw 59 dX5_doLine_15 (Or.inr (by rw [y15_1]; exact ⟨by decide, by decide, 44, by decide, by decide⟩)) ?_
    refine X_aldn1 60 dX5_doLine_59 rfl rfl ?_
    obtain ⟨j, hj, ej⟩ := p6 y15_1
    have ej2 : ixN (σ.1 40 (w + 1)) = j := by rw [ej, ixN_nI (by omega)]
    refine X_getA 38 63 dX5_doLine_60 fl_X5_13 rfl rfl ?_
    refine X_ildn0 64 dX5_doLine_63 rfl rfl ?_
    refine X_aldn1 65 dX5_doLine_64 rfl rfl ?_
    refine X_getA 40 68 dX5_doLine_65 fl_X5_29 rfl rfl ?_
    refine X_ildn2 69 dX5_doLine_68 rfl rfl ?_
    refine X_iconst 2 70 dX5_doLine_69 (by decide) rfl ?_
    refine X_iadd 71 dX5_doLine_70 rfl ?_
    refine X_ialk (w + 2) 72 dX5_doLine_71 rfl rfl e2 (show w + 2 < 70 by omega) ?_
    refine X_iask j 73 dX5_doLine_72 rfl rfl ej hj ?_
    refine X_goto 152 dX5_doLine_73 (by decide) ?_
    refine X_vret dX5_doLine_152 rfl ?_
    rw [if_neg y15_0, if_pos y15_1, ej2] at h
    exact h
  by_cases y15_2 : σ.1 40 w = 7
  · refine X_tsw 76 dX5_doLine_15 (Or.inr (by rw [y15_2]; exact ⟨by decide, by decide, 61, by decide, by decide⟩)) ?_
    refine X_aldn1 77 dX5_doLine_76 rfl rfl ?_
    refine X_ildn0 78 dX5_doLine_77 rfl rfl ?_
    refine X_putI 81 dX5_doLine_78 fp_X5_16 rfl rfl ?_
    refine X_goto 152 dX5_doLine_81 (by decide) ?_
    refine X_vret dX5_doLine_152 rfl ?_
    rw [if_neg y15_0, if_neg y15_1, if_pos y15_2] at h
    exact h
  by_cases y15_3 : σ.1 40 w = 8
  · refine X_tsw 84 dX5_doLine_15 (Or.inr (by rw [y15_3]; exact ⟨by decide, by decide, 69, by decide, by decide⟩)) ?_
    refine X_aldn1 85 dX5_doLine_84 rfl rfl ?_
    refine X_ildn0 86 dX5_doLine_85 rfl rfl ?_
    refine X_putI 89 dX5_doLine_86 fp_X5_20 rfl rfl ?_
    refine X_goto 152 dX5_doLine_89 (by decide) ?_
    refine X_vret dX5_doLine_152 rfl ?_
    rw [if_neg y15_0, if_neg y15_1, if_neg y15_2, if_pos y15_3] at h
    exact h
  by_cases y15_4 : σ.1 40 w = 9
  · refine X_tsw 92 dX5_doLine_15 (Or.inr (by rw [y15_4]; exact ⟨by decide, by decide, 77, by decide, by decide⟩)) ?_
    refine X_aldn1 93 dX5_doLine_92 rfl rfl ?_
    refine X_ildn0 94 dX5_doLine_93 rfl rfl ?_
    refine X_putI 97 dX5_doLine_94 fp_X5_23 rfl rfl ?_
    refine X_goto 152 dX5_doLine_97 (by decide) ?_
    refine X_vret dX5_doLine_152 rfl ?_
    rw [if_neg y15_0, if_neg y15_1, if_neg y15_2, if_neg y15_3, if_pos y15_4] at h
    exact h
  by_cases y15_5 : σ.1 40 w = 10
  · refine X_tsw 100 dX5_doLine_15 (Or.inr (by rw [y15_5]; exact ⟨by decide, by decide, 85, by decide, by decide⟩)) ?_
    refine X_aldn1 101 dX5_doLine_100 rfl rfl ?_
    refine X_iconst 0 102 dX5_doLine_101 (by decide) rfl ?_
    refine X_putI 105 dX5_doLine_102 fp_X5_72 rfl rfl ?_
    refine X_goto 152 dX5_doLine_105 (by decide) ?_
    refine X_vret dX5_doLine_152 rfl ?_
    rw [if_neg y15_0, if_neg y15_1, if_neg y15_2, if_neg y15_3, if_neg y15_4, if_pos y15_5] at h
    exact h
  refine X_tsw 108 dX5_doLine_15 (Or.inl ⟨by have z0 := lv_neT y15_0 (a := 5) (by decide); have z1 := lv_neT y15_1 (a := 6) (by decide); have z2 := lv_neT y15_2 (a := 7) (by decide); have z3 := lv_neT y15_3 (a := 8) (by decide); have z4 := lv_neT y15_4 (a := 9) (by decide); have z5 := lv_neT y15_5 (a := 10) (by decide); omega, by decide⟩) ?_
  refine X_iconst 0 109 dX5_doLine_108 (by decide) rfl ?_
  refine X_istnN 110 dX5_doLine_109 rfl rfl rfl rfl ?_
  rw [if_neg y15_0, if_neg y15_1, if_neg y15_2, if_neg y15_3, if_neg y15_4, if_neg y15_5] at h
  refine xg_mm ?_ (loop _ (p8 y15_0 y15_1 y15_2 y15_3 y15_4 y15_5) h 4 0 rfl)
  apply Prod.ext
  · funext c j
    exact if_neg (fun e => by omega)
  · rfl
theorem S_X5_court (hv : vTm σ) (hr : (rdM σ).1 = true → rnN (rdM σ).2 ≤ 14 ∧ (rdM σ).2.1 36 14 = nI (rnN (rdM σ).2) ∧ ∀ k, k < rnN (rdM σ).2 → dlP (coM (rdM σ).2 k) (5 * k)) (h : Q (some (.int (g_court σ).1)) (g_court σ).2) : xg_C (d + 6) mX5_court [.ref 36] σ Q := by
  refine xg_C_of py_X5_court (Nat.le_of_ble_eq_true rfl) ?_
  show xg_X none (d + 6) mX5_court 0 [(0, .ref 36)] [] σ Q
  unfold g_court at h
  obtain ⟨r, er⟩ : ∃ r, r = rdM σ := ⟨_, rfl⟩
  rw [← er] at h hr
  have loop : ∀ τ : xm_M, rnN τ ≤ 14 → τ.1 36 14 = nI (rnN τ) → (∀ k, k < rnN τ → dlP (coM τ k) (5 * k)) → Q (some (.int ((coE τ).1 36 14))) (coE τ) → ∀ m k, k + m = rnN τ → xg_X none (d + 6) mX5_court 12 [(1, .int (nI k)), (0, .ref 36)] [] (coM τ k) Q := by
    intro τ h14 e14 hd h m
    induction m with
    | zero =>
      intro k hk
      obtain rfl : k = rnN τ := by omega
      refine X_ildn0 13 dX5_court_12 rfl rfl ?_
      refine X_aldn1 14 dX5_court_13 rfl rfl ?_
      refine X_getI 17 dX5_court_14 fl_X5_164 rfl rfl ?_
      rw [co_14, e14]
      refine X_icge 33 20 dX5_court_17 (by decide) rfl (fun c17 => ?_) (fun c17 => ?_)
      · refine X_aldn1 34 dX5_court_33 rfl rfl ?_
        refine X_iconst 0 35 dX5_court_34 (by decide) rfl ?_
        refine X_putI 38 dX5_court_35 fp_X5_91 rfl rfl ?_
        refine X_aldn1 39 dX5_court_38 rfl rfl ?_
        refine X_callV0 5 42 dX5_court_39 cw_X5_69 zk_X5_begin ⟨rfl, rfl⟩ rfl rfl rfl (S_X5_begin ?_)
        refine X_pn ?_
        refine X_aldn1 43 dX5_court_42 rfl rfl ?_
        refine X_getI 46 dX5_court_43 fl_X5_164 rfl rfl ?_
        refine X_iret dX5_court_46 rfl ?_
        exact h
      · exact absurd (nI_le (Nat.le_refl _) (by omega)) c17
    | succ m ih =>
      intro k hk
      refine X_ildn0 13 dX5_court_12 rfl rfl ?_
      refine X_aldn1 14 dX5_court_13 rfl rfl ?_
      refine X_getI 17 dX5_court_14 fl_X5_164 rfl rfl ?_
      rw [co_14, e14]
      refine X_icge 33 20 dX5_court_17 (by decide) rfl (fun c17 => ?_) (fun c17 => ?_)
      · have c17 := leq c17 rfl (by omega) (by omega)
        omega
      · refine X_aldn1 21 dX5_court_20 rfl rfl ?_
        refine X_iconst 5 22 dX5_court_21 (by decide) rfl ?_
        refine X_ildn0 23 dX5_court_22 rfl rfl ?_
        refine X_imul 24 dX5_court_23 rfl ?_
        rw [show (5 : Int32) = nI 5 by decide, pk_mul]
        refine X_callV1 5 27 dX5_court_24 cw_X5_173 zk_X5_doLine ⟨rfl, rfl⟩ rfl rfl rfl (S_X5_doLine (hd k (by omega)) (by omega) ?_)
        refine X_pn ?_
        refine X_inc0 1 30 dX5_court_27 (by decide) rfl rfl rfl ?_
        refine X_goto 12 dX5_court_30 (by decide) ?_
        exact xg_lv (by rw [nI_succ]) (ih (k + 1) (by omega))
  refine X_aldn0 1 dX5_court_0 rfl rfl ?_
  refine X_callV0 5 4 dX5_court_1 cw_X5_170 zk_X5_isRead ⟨rfl, rfl⟩ rfl rfl rfl (S_X5_isRead hv ?_)
  rw [← er]
  refine X_pu ?_
  refine X_ifne 10 7 dX5_court_4 (by decide) rfl (fun c4 => ?_) (fun c4 => ?_)
  · rw [b2i_n] at c4
    rw [if_pos c4] at h
    obtain ⟨a, b, c⟩ := hr c4
    refine X_iconst 0 11 dX5_court_10 (by decide) rfl ?_
    refine X_istnN 12 dX5_court_11 rfl rfl rfl rfl ?_
    exact loop _ a b c h (rnN r.2) 0 (by omega)
  · rw [b2i_0] at c4
    rw [if_neg (by rw [c4]; decide)] at h
    refine X_bipush (-4) 9 dX5_court_7 (by decide) rfl ?_
    refine X_iret dX5_court_9 rfl ?_
    exact h
end REF11

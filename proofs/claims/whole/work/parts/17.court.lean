/-! courts, clauses, texts -/
def ccq (σ : xm_M) (a b i j : Nat) : xm_M := (fun c k => if c = a ∧ 5 ≤ k ∧ k ≤ 8 then σ.1 b k else if a + 1 ≤ c ∧ c ≤ a + 4 ∧ k < j then σ.1 (c - a + b) k else if c = a + 5 ∧ k < i then σ.1 (b + 5) k else σ.1 c k, σ.2)
def ccp (σ : xm_M) (a b : Nat) : xm_M := ccq σ a b 3 8
def isAB (a b : Nat) : Prop := (a = 7 ∧ b = 1) ∨ (a = 1 ∧ b = 7)
theorem ccq_00 {σ : xm_M} {a b : Nat} (h : isAB a b) : xm_set (xm_set (xm_set (xm_set σ a 5 (σ.1 b 5)) a 6 (σ.1 b 6)) a 7 (σ.1 b 7)) a 8 (σ.1 b 8) = ccq σ a b 0 0 := by
  apply Prod.ext
  · funext c k
    simp only [xm_set, ccq, Nat.not_lt_zero, and_false, if_false]
    by_cases hc : c = a
    · simp only [hc, true_and]
      by_cases h5 : 5 ≤ k ∧ k ≤ 8
      · rw [if_pos h5]
        rcases (by omega : k = 5 ∨ k = 6 ∨ k = 7 ∨ k = 8) with rfl | rfl | rfl | rfl <;> simp
      · rw [if_neg h5]
        simp only [show ¬ k = 5 by omega, show ¬ k = 6 by omega, show ¬ k = 7 by omega, show ¬ k = 8 by omega, if_false]
    · simp only [hc, false_and, if_false]
  · rfl
theorem ccq_i {σ : xm_M} {a b i j : Nat} (h : isAB a b) : xm_set (ccq σ a b i j) (a + 5) i (σ.1 (b + 5) i) = ccq σ a b (i + 1) j := by
  apply Prod.ext
  · funext c k
    simp only [xm_set, ccq]
    rcases h with ⟨rfl, rfl⟩ | ⟨rfl, rfl⟩ <;> grind
  · rfl
theorem ccq_j {σ : xm_M} {a b i j : Nat} (h : isAB a b) : xm_set (xm_set (xm_set (xm_set (ccq σ a b i j) (a + 1) j (σ.1 (b + 1) j)) (a + 2) j (σ.1 (b + 2) j)) (a + 3) j (σ.1 (b + 3) j)) (a + 4) j (σ.1 (b + 4) j) = ccq σ a b i (j + 1) := by
  apply Prod.ext
  · funext c k
    simp only [xm_set, ccq]
    rcases h with ⟨rfl, rfl⟩ | ⟨rfl, rfl⟩ <;> grind
  · rfl
theorem ccq_b {σ : xm_M} {a b i j c : Nat} (h : isAB a b) (hc : b ≤ c ∧ c ≤ b + 5) : (ccq σ a b i j).1 c = σ.1 c := by
  funext k
  simp only [ccq]
  rcases h with ⟨rfl, rfl⟩ | ⟨rfl, rfl⟩
  · rw [if_neg (by omega), if_neg (by omega), if_neg (by omega)]
  · rw [if_neg (by omega), if_neg (by omega), if_neg (by omega)]
section COURT
variable {d : Nat} {σ : xm_M} {Q : Option Value → xm_M → Prop}
theorem S_X0_copyFrom_71 (h : Q none (ccp σ 7 1)) : xg_C d mX0_copyFrom [.ref 7, .ref 1] σ Q := by
  refine xg_C_of py_X0_copyFrom (Nat.le_of_ble_eq_true rfl) ?_
  show xg_X none d mX0_copyFrom 0 [(0, .ref 7), (1, .ref 1)] [] σ Q
  have hAB : isAB 7 1 := (Or.inl ⟨rfl, rfl⟩)
  have eb : ∀ (c i j k : Nat), 1 ≤ c → c ≤ 1 + 5 → (ccq σ 7 1 i j).1 c k = σ.1 c k := fun c i j k h1 h2 => congrFun (ccq_b hAB ⟨h1, h2⟩) k
  have loop2 : ∀ k j, j + k = 8 → xg_X none d mX0_copyFrom 59 [(2, .int (nI j)), (0, .ref 7), (1, .ref 1)] [] (ccq σ 7 1 3 j) Q := by
    intro k
    induction k with
    | zero =>
      intro j h2
      obtain rfl : j = 8 := by omega
      refine X_ildn0 60 dX0_copyFrom_59 rfl rfl ?_
      refine X_bipush 8 62 dX0_copyFrom_60 (by decide) rfl ?_
      refine X_icge 119 65 dX0_copyFrom_62 (by decide) rfl (fun c62 => ?_) (fun c62 => ?_)
      · refine X_vret dX0_copyFrom_119 rfl ?_
        exact h
      · exact absurd (by decide) c62
    | succ k ih =>
      intro j h2
      refine X_ildn0 60 dX0_copyFrom_59 rfl rfl ?_
      refine X_bipush 8 62 dX0_copyFrom_60 (by decide) rfl ?_
      refine X_icge 119 65 dX0_copyFrom_62 (by decide) rfl (fun c62 => ?_) (fun c62 => ?_)
      · have c62 := leq c62 (n := 8) (by decide) (by decide) (by omega)
        omega
      · refine X_aldn1 66 dX0_copyFrom_65 rfl rfl ?_
        refine X_getA 8 69 dX0_copyFrom_66 fl_X0_9 rfl rfl ?_
        refine X_ildn0 70 dX0_copyFrom_69 rfl rfl ?_
        refine X_aldn2 71 dX0_copyFrom_70 rfl rfl ?_
        refine X_getA 2 74 dX0_copyFrom_71 fl_X0_9 rfl rfl ?_
        refine X_ildn0 75 dX0_copyFrom_74 rfl rfl ?_
        refine X_ialk j 76 dX0_copyFrom_75 rfl rfl rfl (show j < 8 by omega) ?_
        refine X_iask j 77 dX0_copyFrom_76 rfl rfl rfl (show j < 8 by omega) ?_
        refine X_aldn1 78 dX0_copyFrom_77 rfl rfl ?_
        refine X_getA 9 81 dX0_copyFrom_78 fl_X0_15 rfl rfl ?_
        refine X_ildn0 82 dX0_copyFrom_81 rfl rfl ?_
        refine X_aldn2 83 dX0_copyFrom_82 rfl rfl ?_
        refine X_getA 3 86 dX0_copyFrom_83 fl_X0_15 rfl rfl ?_
        refine X_ildn0 87 dX0_copyFrom_86 rfl rfl ?_
        refine X_ialk j 88 dX0_copyFrom_87 rfl rfl rfl (show j < 8 by omega) ?_
        refine X_iask j 89 dX0_copyFrom_88 rfl rfl rfl (show j < 8 by omega) ?_
        refine X_aldn1 90 dX0_copyFrom_89 rfl rfl ?_
        refine X_getA 10 93 dX0_copyFrom_90 fl_X0_18 rfl rfl ?_
        refine X_ildn0 94 dX0_copyFrom_93 rfl rfl ?_
        refine X_aldn2 95 dX0_copyFrom_94 rfl rfl ?_
        refine X_getA 4 98 dX0_copyFrom_95 fl_X0_18 rfl rfl ?_
        refine X_ildn0 99 dX0_copyFrom_98 rfl rfl ?_
        refine X_ialk j 100 dX0_copyFrom_99 rfl rfl rfl (show j < 8 by omega) ?_
        refine X_iask j 101 dX0_copyFrom_100 rfl rfl rfl (show j < 8 by omega) ?_
        refine X_aldn1 102 dX0_copyFrom_101 rfl rfl ?_
        refine X_getA 11 105 dX0_copyFrom_102 fl_X0_21 rfl rfl ?_
        refine X_ildn0 106 dX0_copyFrom_105 rfl rfl ?_
        refine X_aldn2 107 dX0_copyFrom_106 rfl rfl ?_
        refine X_getA 5 110 dX0_copyFrom_107 fl_X0_21 rfl rfl ?_
        refine X_ildn0 111 dX0_copyFrom_110 rfl rfl ?_
        refine X_ialk j 112 dX0_copyFrom_111 rfl rfl rfl (show j < 8 by omega) ?_
        refine X_iask j 113 dX0_copyFrom_112 rfl rfl rfl (show j < 8 by omega) ?_
        refine X_inc0 1 116 dX0_copyFrom_113 (by decide) rfl rfl rfl ?_
        refine X_goto 59 dX0_copyFrom_116 (by decide) ?_
        refine xg_lv (by rw [nI_succ]) (xg_mm ?_ (ih (j + 1) (by omega)))
        rw [← ccq_j hAB]
        simp only [xs_ne (show (3 : Nat) ≠ 8 by decide), xs_ne (show (4 : Nat) ≠ 8 by decide), xs_ne (show (4 : Nat) ≠ 9 by decide), xs_ne (show (5 : Nat) ≠ 8 by decide), xs_ne (show (5 : Nat) ≠ 9 by decide), xs_ne (show (5 : Nat) ≠ 10 by decide)]
        rw [eb _ _ _ _ (by decide) (by decide), eb _ _ _ _ (by decide) (by decide), eb _ _ _ _ (by decide) (by decide), eb _ _ _ _ (by decide) (by decide)]
  have loop : ∀ k i, i + k = 3 → xg_X none d mX0_copyFrom 34 [(2, .int (nI i)), (0, .ref 7), (1, .ref 1)] [] (ccq σ 7 1 i 0) Q := by
    intro k
    induction k with
    | zero =>
      intro i h2
      obtain rfl : i = 3 := by omega
      refine X_ildn0 35 dX0_copyFrom_34 rfl rfl ?_
      refine X_iconst 3 36 dX0_copyFrom_35 (by decide) rfl ?_
      refine X_icge 57 39 dX0_copyFrom_36 (by decide) rfl (fun c36 => ?_) (fun c36 => ?_)
      · refine X_iconst 0 58 dX0_copyFrom_57 (by decide) rfl ?_
        refine X_istn0 59 dX0_copyFrom_58 rfl rfl rfl rfl ?_
        exact loop2 8 0 rfl
      · exact absurd (by decide) c36
    | succ k ih =>
      intro i h2
      refine X_ildn0 35 dX0_copyFrom_34 rfl rfl ?_
      refine X_iconst 3 36 dX0_copyFrom_35 (by decide) rfl ?_
      refine X_icge 57 39 dX0_copyFrom_36 (by decide) rfl (fun c36 => ?_) (fun c36 => ?_)
      · have c36 := leq c36 (n := 3) (by decide) (by decide) (by omega)
        omega
      · refine X_aldn1 40 dX0_copyFrom_39 rfl rfl ?_
        refine X_getA 12 43 dX0_copyFrom_40 fl_X0_24 rfl rfl ?_
        refine X_ildn0 44 dX0_copyFrom_43 rfl rfl ?_
        refine X_aldn2 45 dX0_copyFrom_44 rfl rfl ?_
        refine X_getA 6 48 dX0_copyFrom_45 fl_X0_24 rfl rfl ?_
        refine X_ildn0 49 dX0_copyFrom_48 rfl rfl ?_
        refine X_ialk i 50 dX0_copyFrom_49 rfl rfl rfl (show i < 3 by omega) ?_
        refine X_iask i 51 dX0_copyFrom_50 rfl rfl rfl (show i < 3 by omega) ?_
        refine X_inc0 1 54 dX0_copyFrom_51 (by decide) rfl rfl rfl ?_
        refine X_goto 34 dX0_copyFrom_54 (by decide) ?_
        refine xg_lv (by rw [nI_succ]) (xg_mm ?_ (ih (i + 1) (by omega)))
        rw [← ccq_i hAB, eb _ _ _ _ (by decide) (by decide)]
  refine X_aldn0 1 dX0_copyFrom_0 rfl rfl ?_
  refine X_aldn1 2 dX0_copyFrom_1 rfl rfl ?_
  refine X_getI 5 dX0_copyFrom_2 fl_X0_37 rfl rfl ?_
  refine X_putI 8 dX0_copyFrom_5 fp_X0_37 rfl rfl ?_
  refine X_aldn0 9 dX0_copyFrom_8 rfl rfl ?_
  refine X_aldn1 10 dX0_copyFrom_9 rfl rfl ?_
  refine X_getI 13 dX0_copyFrom_10 fl_X0_27 rfl rfl ?_
  refine X_putI 16 dX0_copyFrom_13 fp_X0_27 rfl rfl ?_
  refine X_aldn0 17 dX0_copyFrom_16 rfl rfl ?_
  refine X_aldn1 18 dX0_copyFrom_17 rfl rfl ?_
  refine X_getI 21 dX0_copyFrom_18 fl_X0_31 rfl rfl ?_
  refine X_putI 24 dX0_copyFrom_21 fp_X0_31 rfl rfl ?_
  refine X_aldn0 25 dX0_copyFrom_24 rfl rfl ?_
  refine X_aldn1 26 dX0_copyFrom_25 rfl rfl ?_
  refine X_getI 29 dX0_copyFrom_26 fl_X0_34 rfl rfl ?_
  refine X_putI 32 dX0_copyFrom_29 fp_X0_34 rfl rfl ?_
  refine X_iconst 0 33 dX0_copyFrom_32 (by decide) rfl ?_
  refine X_istnN 34 dX0_copyFrom_33 rfl rfl rfl rfl ?_
  refine xg_mm ?_ (loop 3 0 rfl)
  rw [← ccq_00 hAB]
  simp only [xs_ne (show (1 : Nat) ≠ 7 by decide)]
theorem S_X0_copyFrom_17 (h : Q none (ccp σ 1 7)) : xg_C d mX0_copyFrom [.ref 1, .ref 7] σ Q := by
  refine xg_C_of py_X0_copyFrom (Nat.le_of_ble_eq_true rfl) ?_
  show xg_X none d mX0_copyFrom 0 [(0, .ref 1), (1, .ref 7)] [] σ Q
  have hAB : isAB 1 7 := (Or.inr ⟨rfl, rfl⟩)
  have eb : ∀ (c i j k : Nat), 7 ≤ c → c ≤ 7 + 5 → (ccq σ 1 7 i j).1 c k = σ.1 c k := fun c i j k h1 h2 => congrFun (ccq_b hAB ⟨h1, h2⟩) k
  have loop2 : ∀ k j, j + k = 8 → xg_X none d mX0_copyFrom 59 [(2, .int (nI j)), (0, .ref 1), (1, .ref 7)] [] (ccq σ 1 7 3 j) Q := by
    intro k
    induction k with
    | zero =>
      intro j h2
      obtain rfl : j = 8 := by omega
      refine X_ildn0 60 dX0_copyFrom_59 rfl rfl ?_
      refine X_bipush 8 62 dX0_copyFrom_60 (by decide) rfl ?_
      refine X_icge 119 65 dX0_copyFrom_62 (by decide) rfl (fun c62 => ?_) (fun c62 => ?_)
      · refine X_vret dX0_copyFrom_119 rfl ?_
        exact h
      · exact absurd (by decide) c62
    | succ k ih =>
      intro j h2
      refine X_ildn0 60 dX0_copyFrom_59 rfl rfl ?_
      refine X_bipush 8 62 dX0_copyFrom_60 (by decide) rfl ?_
      refine X_icge 119 65 dX0_copyFrom_62 (by decide) rfl (fun c62 => ?_) (fun c62 => ?_)
      · have c62 := leq c62 (n := 8) (by decide) (by decide) (by omega)
        omega
      · refine X_aldn1 66 dX0_copyFrom_65 rfl rfl ?_
        refine X_getA 2 69 dX0_copyFrom_66 fl_X0_9 rfl rfl ?_
        refine X_ildn0 70 dX0_copyFrom_69 rfl rfl ?_
        refine X_aldn2 71 dX0_copyFrom_70 rfl rfl ?_
        refine X_getA 8 74 dX0_copyFrom_71 fl_X0_9 rfl rfl ?_
        refine X_ildn0 75 dX0_copyFrom_74 rfl rfl ?_
        refine X_ialk j 76 dX0_copyFrom_75 rfl rfl rfl (show j < 8 by omega) ?_
        refine X_iask j 77 dX0_copyFrom_76 rfl rfl rfl (show j < 8 by omega) ?_
        refine X_aldn1 78 dX0_copyFrom_77 rfl rfl ?_
        refine X_getA 3 81 dX0_copyFrom_78 fl_X0_15 rfl rfl ?_
        refine X_ildn0 82 dX0_copyFrom_81 rfl rfl ?_
        refine X_aldn2 83 dX0_copyFrom_82 rfl rfl ?_
        refine X_getA 9 86 dX0_copyFrom_83 fl_X0_15 rfl rfl ?_
        refine X_ildn0 87 dX0_copyFrom_86 rfl rfl ?_
        refine X_ialk j 88 dX0_copyFrom_87 rfl rfl rfl (show j < 8 by omega) ?_
        refine X_iask j 89 dX0_copyFrom_88 rfl rfl rfl (show j < 8 by omega) ?_
        refine X_aldn1 90 dX0_copyFrom_89 rfl rfl ?_
        refine X_getA 4 93 dX0_copyFrom_90 fl_X0_18 rfl rfl ?_
        refine X_ildn0 94 dX0_copyFrom_93 rfl rfl ?_
        refine X_aldn2 95 dX0_copyFrom_94 rfl rfl ?_
        refine X_getA 10 98 dX0_copyFrom_95 fl_X0_18 rfl rfl ?_
        refine X_ildn0 99 dX0_copyFrom_98 rfl rfl ?_
        refine X_ialk j 100 dX0_copyFrom_99 rfl rfl rfl (show j < 8 by omega) ?_
        refine X_iask j 101 dX0_copyFrom_100 rfl rfl rfl (show j < 8 by omega) ?_
        refine X_aldn1 102 dX0_copyFrom_101 rfl rfl ?_
        refine X_getA 5 105 dX0_copyFrom_102 fl_X0_21 rfl rfl ?_
        refine X_ildn0 106 dX0_copyFrom_105 rfl rfl ?_
        refine X_aldn2 107 dX0_copyFrom_106 rfl rfl ?_
        refine X_getA 11 110 dX0_copyFrom_107 fl_X0_21 rfl rfl ?_
        refine X_ildn0 111 dX0_copyFrom_110 rfl rfl ?_
        refine X_ialk j 112 dX0_copyFrom_111 rfl rfl rfl (show j < 8 by omega) ?_
        refine X_iask j 113 dX0_copyFrom_112 rfl rfl rfl (show j < 8 by omega) ?_
        refine X_inc0 1 116 dX0_copyFrom_113 (by decide) rfl rfl rfl ?_
        refine X_goto 59 dX0_copyFrom_116 (by decide) ?_
        refine xg_lv (by rw [nI_succ]) (xg_mm ?_ (ih (j + 1) (by omega)))
        rw [← ccq_j hAB]
        simp only [xs_ne (show (9 : Nat) ≠ 2 by decide), xs_ne (show (10 : Nat) ≠ 2 by decide), xs_ne (show (10 : Nat) ≠ 3 by decide), xs_ne (show (11 : Nat) ≠ 2 by decide), xs_ne (show (11 : Nat) ≠ 3 by decide), xs_ne (show (11 : Nat) ≠ 4 by decide)]
        rw [eb _ _ _ _ (by decide) (by decide), eb _ _ _ _ (by decide) (by decide), eb _ _ _ _ (by decide) (by decide), eb _ _ _ _ (by decide) (by decide)]
  have loop : ∀ k i, i + k = 3 → xg_X none d mX0_copyFrom 34 [(2, .int (nI i)), (0, .ref 1), (1, .ref 7)] [] (ccq σ 1 7 i 0) Q := by
    intro k
    induction k with
    | zero =>
      intro i h2
      obtain rfl : i = 3 := by omega
      refine X_ildn0 35 dX0_copyFrom_34 rfl rfl ?_
      refine X_iconst 3 36 dX0_copyFrom_35 (by decide) rfl ?_
      refine X_icge 57 39 dX0_copyFrom_36 (by decide) rfl (fun c36 => ?_) (fun c36 => ?_)
      · refine X_iconst 0 58 dX0_copyFrom_57 (by decide) rfl ?_
        refine X_istn0 59 dX0_copyFrom_58 rfl rfl rfl rfl ?_
        exact loop2 8 0 rfl
      · exact absurd (by decide) c36
    | succ k ih =>
      intro i h2
      refine X_ildn0 35 dX0_copyFrom_34 rfl rfl ?_
      refine X_iconst 3 36 dX0_copyFrom_35 (by decide) rfl ?_
      refine X_icge 57 39 dX0_copyFrom_36 (by decide) rfl (fun c36 => ?_) (fun c36 => ?_)
      · have c36 := leq c36 (n := 3) (by decide) (by decide) (by omega)
        omega
      · refine X_aldn1 40 dX0_copyFrom_39 rfl rfl ?_
        refine X_getA 6 43 dX0_copyFrom_40 fl_X0_24 rfl rfl ?_
        refine X_ildn0 44 dX0_copyFrom_43 rfl rfl ?_
        refine X_aldn2 45 dX0_copyFrom_44 rfl rfl ?_
        refine X_getA 12 48 dX0_copyFrom_45 fl_X0_24 rfl rfl ?_
        refine X_ildn0 49 dX0_copyFrom_48 rfl rfl ?_
        refine X_ialk i 50 dX0_copyFrom_49 rfl rfl rfl (show i < 3 by omega) ?_
        refine X_iask i 51 dX0_copyFrom_50 rfl rfl rfl (show i < 3 by omega) ?_
        refine X_inc0 1 54 dX0_copyFrom_51 (by decide) rfl rfl rfl ?_
        refine X_goto 34 dX0_copyFrom_54 (by decide) ?_
        refine xg_lv (by rw [nI_succ]) (xg_mm ?_ (ih (i + 1) (by omega)))
        rw [← ccq_i hAB, eb _ _ _ _ (by decide) (by decide)]
  refine X_aldn0 1 dX0_copyFrom_0 rfl rfl ?_
  refine X_aldn1 2 dX0_copyFrom_1 rfl rfl ?_
  refine X_getI 5 dX0_copyFrom_2 fl_X0_37 rfl rfl ?_
  refine X_putI 8 dX0_copyFrom_5 fp_X0_37 rfl rfl ?_
  refine X_aldn0 9 dX0_copyFrom_8 rfl rfl ?_
  refine X_aldn1 10 dX0_copyFrom_9 rfl rfl ?_
  refine X_getI 13 dX0_copyFrom_10 fl_X0_27 rfl rfl ?_
  refine X_putI 16 dX0_copyFrom_13 fp_X0_27 rfl rfl ?_
  refine X_aldn0 17 dX0_copyFrom_16 rfl rfl ?_
  refine X_aldn1 18 dX0_copyFrom_17 rfl rfl ?_
  refine X_getI 21 dX0_copyFrom_18 fl_X0_31 rfl rfl ?_
  refine X_putI 24 dX0_copyFrom_21 fp_X0_31 rfl rfl ?_
  refine X_aldn0 25 dX0_copyFrom_24 rfl rfl ?_
  refine X_aldn1 26 dX0_copyFrom_25 rfl rfl ?_
  refine X_getI 29 dX0_copyFrom_26 fl_X0_34 rfl rfl ?_
  refine X_putI 32 dX0_copyFrom_29 fp_X0_34 rfl rfl ?_
  refine X_iconst 0 33 dX0_copyFrom_32 (by decide) rfl ?_
  refine X_istnN 34 dX0_copyFrom_33 rfl rfl rfl rfl ?_
  refine xg_mm ?_ (loop 3 0 rfl)
  rw [← ccq_00 hAB]
  simp only [xs_ne (show (7 : Nat) ≠ 1 by decide)]
def resX (σ : xm_M) : xm_M := xm_set (xm_set (xm_set (xm_set (xm_set (xm_set (xm_set σ 7 5 0) 7 6 3) 7 7 2) 7 8 12) 12 0 99) 12 1 99) 12 2 99
theorem S_X0_reset (h : Q none (resX σ)) : xg_C d mX0_reset [.ref 7] σ Q := by
  refine xg_C_of py_X0_reset (Nat.le_of_ble_eq_true rfl) ?_
  show xg_X none d mX0_reset 0 [(0, .ref 7)] [] σ Q
  refine X_aldn0 1 dX0_reset_0 rfl rfl ?_
  refine X_iconst 0 2 dX0_reset_1 (by decide) rfl ?_
  refine X_putI 5 dX0_reset_2 fp_X0_37 rfl rfl ?_
  refine X_aldn0 6 dX0_reset_5 rfl rfl ?_
  refine X_iconst 3 7 dX0_reset_6 (by decide) rfl ?_
  refine X_putI 10 dX0_reset_7 fp_X0_27 rfl rfl ?_
  refine X_aldn0 11 dX0_reset_10 rfl rfl ?_
  refine X_iconst 2 12 dX0_reset_11 (by decide) rfl ?_
  refine X_putI 15 dX0_reset_12 fp_X0_31 rfl rfl ?_
  refine X_aldn0 16 dX0_reset_15 rfl rfl ?_
  refine X_bipush 12 18 dX0_reset_16 (by decide) rfl ?_
  refine X_putI 21 dX0_reset_18 fp_X0_34 rfl rfl ?_
  refine X_iconst 0 22 dX0_reset_21 (by decide) rfl ?_
  refine X_istnN 23 dX0_reset_22 rfl rfl rfl rfl ?_
  refine X_ildn0 24 dX0_reset_23 rfl rfl ?_
  refine X_iconst 3 25 dX0_reset_24 (by decide) rfl ?_
  refine X_icge 42 28 dX0_reset_25 (by decide) rfl (fun c25 => ?_) (fun c25 => ?_)
  · exact absurd c25 (by decide)
  · skip
    refine X_aldn1 29 dX0_reset_28 rfl rfl ?_
    refine X_getA 12 32 dX0_reset_29 fl_X0_24 rfl rfl ?_
    refine X_ildn0 33 dX0_reset_32 rfl rfl ?_
    refine X_bipush 99 35 dX0_reset_33 (by decide) rfl ?_
    refine X_iask 0 36 dX0_reset_35 rfl rfl (by decide) (by decide) ?_
    refine X_inc0 1 39 dX0_reset_36 (by decide) rfl rfl rfl ?_
    refine X_goto 23 dX0_reset_39 (by decide) ?_
    refine X_ildn0 24 dX0_reset_23 rfl rfl ?_
    refine X_iconst 3 25 dX0_reset_24 (by decide) rfl ?_
    refine X_icge 42 28 dX0_reset_25 (by decide) rfl (fun c25 => ?_) (fun c25 => ?_)
    · exact absurd c25 (by decide)
    · skip
      refine X_aldn1 29 dX0_reset_28 rfl rfl ?_
      refine X_getA 12 32 dX0_reset_29 fl_X0_24 rfl rfl ?_
      refine X_ildn0 33 dX0_reset_32 rfl rfl ?_
      refine X_bipush 99 35 dX0_reset_33 (by decide) rfl ?_
      refine X_iask 1 36 dX0_reset_35 rfl rfl (by decide) (by decide) ?_
      refine X_inc0 1 39 dX0_reset_36 (by decide) rfl rfl rfl ?_
      refine X_goto 23 dX0_reset_39 (by decide) ?_
      refine X_ildn0 24 dX0_reset_23 rfl rfl ?_
      refine X_iconst 3 25 dX0_reset_24 (by decide) rfl ?_
      refine X_icge 42 28 dX0_reset_25 (by decide) rfl (fun c25 => ?_) (fun c25 => ?_)
      · exact absurd c25 (by decide)
      · skip
        refine X_aldn1 29 dX0_reset_28 rfl rfl ?_
        refine X_getA 12 32 dX0_reset_29 fl_X0_24 rfl rfl ?_
        refine X_ildn0 33 dX0_reset_32 rfl rfl ?_
        refine X_bipush 99 35 dX0_reset_33 (by decide) rfl ?_
        refine X_iask 2 36 dX0_reset_35 rfl rfl (by decide) (by decide) ?_
        refine X_inc0 1 39 dX0_reset_36 (by decide) rfl rfl rfl ?_
        refine X_goto 23 dX0_reset_39 (by decide) ?_
        refine X_ildn0 24 dX0_reset_23 rfl rfl ?_
        refine X_iconst 3 25 dX0_reset_24 (by decide) rfl ?_
        refine X_icge 42 28 dX0_reset_25 (by decide) rfl (fun c25 => ?_) (fun c25 => ?_)
        · skip
          refine X_vret dX0_reset_42 rfl ?_
          exact h
        · exact absurd (by decide) c25
def nD (σ : xm_M) : Nat := (σ.1 7 5).toNatClampNeg
def vD (σ : xm_M) : Prop := σ.1 7 5 = nI (nD σ) ∧ nD σ ≤ 8
def adX (σ : xm_M) (w a b c : Int32) : xm_M := if 8 ≤ σ.1 7 5 then σ else xm_set (xm_set (xm_set (xm_set (xm_set σ 8 (nD σ) w) 9 (nD σ) a) 10 (nD σ) b) 11 (nD σ) c) 7 5 (σ.1 7 5 + 1)
theorem S_X0_addThing {w a b c : Int32} (hv : vD σ) (h : Q none (adX σ w a b c)) : xg_C d mX0_addThing [.ref 7, .int w, .int a, .int b, .int c] σ Q := by
  refine xg_C_of py_X0_addThing (Nat.le_of_ble_eq_true rfl) ?_
  show xg_X none d mX0_addThing 0 [(0, .ref 7), (1, .int w), (2, .int a), (3, .int b), (4, .int c)] [] σ Q
  obtain ⟨h1, h2⟩ := hv
  refine X_aldn0 1 dX0_addThing_0 rfl rfl ?_
  refine X_getI 4 dX0_addThing_1 fl_X0_37 rfl rfl ?_
  refine X_bipush 8 6 dX0_addThing_4 (by decide) rfl ?_
  refine X_iclt 10 9 dX0_addThing_6 (by decide) rfl (fun c6 => ?_) (fun c6 => ?_)
  · have hn : nD σ < 8 := (nI_ltI (by omega) (by decide)).mp (h1 ▸ c6)
    refine X_aldn0 11 dX0_addThing_10 rfl rfl ?_
    refine X_getA 8 14 dX0_addThing_11 fl_X0_9 rfl rfl ?_
    refine X_aldn0 15 dX0_addThing_14 rfl rfl ?_
    refine X_getI 18 dX0_addThing_15 fl_X0_37 rfl rfl ?_
    refine X_ildn1 19 dX0_addThing_18 rfl rfl ?_
    refine X_iask (nD σ) 20 dX0_addThing_19 rfl rfl h1 hn ?_
    refine X_aldn0 21 dX0_addThing_20 rfl rfl ?_
    refine X_getA 9 24 dX0_addThing_21 fl_X0_15 rfl rfl ?_
    refine X_aldn0 25 dX0_addThing_24 rfl rfl ?_
    refine X_getI 28 dX0_addThing_25 fl_X0_37 rfl rfl ?_
    refine X_ildn2 29 dX0_addThing_28 rfl rfl ?_
    refine X_iask (nD σ) 30 dX0_addThing_29 rfl rfl (by rw [xs_ne (by decide)]; exact h1) hn ?_
    refine X_aldn0 31 dX0_addThing_30 rfl rfl ?_
    refine X_getA 10 34 dX0_addThing_31 fl_X0_18 rfl rfl ?_
    refine X_aldn0 35 dX0_addThing_34 rfl rfl ?_
    refine X_getI 38 dX0_addThing_35 fl_X0_37 rfl rfl ?_
    refine X_ildn3 39 dX0_addThing_38 rfl rfl ?_
    refine X_iask (nD σ) 40 dX0_addThing_39 rfl rfl (by rw [xs_ne (by decide), xs_ne (by decide)]; exact h1) hn ?_
    refine X_aldn0 41 dX0_addThing_40 rfl rfl ?_
    refine X_getA 11 44 dX0_addThing_41 fl_X0_21 rfl rfl ?_
    refine X_aldn0 45 dX0_addThing_44 rfl rfl ?_
    refine X_getI 48 dX0_addThing_45 fl_X0_37 rfl rfl ?_
    refine X_ild4 50 dX0_addThing_48 rfl ?_
    refine X_iask (nD σ) 51 dX0_addThing_50 rfl rfl (by rw [xs_ne (by decide), xs_ne (by decide), xs_ne (by decide)]; exact h1) hn ?_
    refine X_aldn0 52 dX0_addThing_51 rfl rfl ?_
    refine X_dup 53 dX0_addThing_52 rfl rfl ?_
    refine X_getI 56 dX0_addThing_53 fl_X0_37 rfl rfl ?_
    refine X_iconst 1 57 dX0_addThing_56 (by decide) rfl ?_
    refine X_iadd 58 dX0_addThing_57 rfl ?_
    refine X_putI 61 dX0_addThing_58 fp_X0_37 rfl rfl ?_
    refine X_vret dX0_addThing_61 rfl ?_
    refine Qs h ?_
    rw [adX, if_neg (by rw [i_nle]; exact c6), xs_ne (by decide), xs_ne (by decide), xs_ne (by decide), xs_ne (by decide)]
  · refine X_vret dX0_addThing_9 rfl ?_
    refine Qs h ?_
    rw [adX, if_pos (by rw [i_nlt] at c6; exact c6)]
def sbX (σ : xm_M) (a b : Int32) : xm_M := if a < 0 ∨ 3 ≤ a then σ else xm_set σ 12 (ixN a) b
theorem S_X3_setBears {a b : Int32} (h : Q none (sbX σ a b)) : xg_C d mX3_setBears [.ref 7, .int a, .int b] σ Q := by
  refine xg_C_of py_X3_setBears (Nat.le_of_ble_eq_true rfl) ?_
  show xg_X none d mX3_setBears 0 [(0, .ref 7), (1, .int a), (2, .int b)] [] σ Q
  refine X_ildn1 1 dX3_setBears_0 rfl rfl ?_
  refine X_iflt 16 4 dX3_setBears_1 (by decide) rfl (fun c1 => ?_) (fun c1 => ?_)
  · refine X_vret dX3_setBears_16 rfl ?_
    refine Qs h ?_
    rw [sbX, if_pos (Or.inl c1)]
  · refine X_ildn1 5 dX3_setBears_4 rfl rfl ?_
    refine X_iconst 3 6 dX3_setBears_5 (by decide) rfl ?_
    refine X_icge 16 9 dX3_setBears_6 (by decide) rfl (fun c6 => ?_) (fun c6 => ?_)
    · refine X_vret dX3_setBears_16 rfl ?_
      refine Qs h ?_
      rw [sbX, if_pos (Or.inr c6)]
    · have cn : ¬ (a < 0 ∨ 3 ≤ a) := fun q => q.elim c1 c6
      obtain ⟨j, hj, rfl⟩ := lt_nI (n := 3) (by decide) (by rw [i_nlt] at c1; exact c1) (by rw [i_nle] at c6; exact c6)
      refine X_aldn0 10 dX3_setBears_9 rfl rfl ?_
      refine X_getA 12 13 dX3_setBears_10 fl_X3_88 rfl rfl ?_
      refine X_ildn1 14 dX3_setBears_13 rfl rfl ?_
      refine X_ildn2 15 dX3_setBears_14 rfl rfl ?_
      refine X_iask j 16 dX3_setBears_15 rfl rfl rfl hj ?_
      refine X_vret dX3_setBears_16 rfl ?_
      refine Qs h ?_
      rw [sbX, if_neg cn, ixN_nI (by omega)]
def dcX (σ : xm_M) (w : Int32) : xm_M := if w = 5 then sbX σ (σ.1 15 0) (σ.1 15 1) else if w = 6 then xm_set σ 7 6 (σ.1 15 0) else if w = 7 then xm_set σ 7 7 (σ.1 15 0) else if w = 8 then xm_set σ 7 8 (σ.1 15 0) else if w = 9 then resX σ else if w = 10 then xm_set σ 7 5 0 else adX σ w (σ.1 15 0) (σ.1 15 1) (σ.1 15 2)
theorem S_X3_doClause {w : Int32} (hv : vD σ) (h : Q none (dcX σ w)) : xg_C (d + 1) mX3_doClause [.ref 13, .ref 7, .int w] σ Q := by
  refine xg_C_of py_X3_doClause (Nat.le_of_ble_eq_true rfl) ?_
  show xg_X none (d + 1) mX3_doClause 0 [(0, .ref 13), (1, .ref 7), (2, .int w)] [] σ Q
  refine X_ildn2 1 dX3_doClause_0 rfl rfl ?_
  by_cases y1_0 : w = 5
  · refine X_tsw 40 dX3_doClause_1 (Or.inr (by rw [y1_0]; exact ⟨by decide, by decide, 39, by decide, by decide⟩)) ?_
    refine X_aldn1 41 dX3_doClause_40 rfl rfl ?_
    refine X_aldn0 42 dX3_doClause_41 rfl rfl ?_
    refine X_getA 15 45 dX3_doClause_42 fl_X3_15 rfl rfl ?_
    refine X_iconst 0 46 dX3_doClause_45 (by decide) rfl ?_
    refine X_ialk 0 47 dX3_doClause_46 rfl rfl (by decide) (by decide) ?_
    refine X_aldn0 48 dX3_doClause_47 rfl rfl ?_
    refine X_getA 15 51 dX3_doClause_48 fl_X3_15 rfl rfl ?_
    refine X_iconst 1 52 dX3_doClause_51 (by decide) rfl ?_
    refine X_ialk 1 53 dX3_doClause_52 rfl rfl (by decide) (by decide) ?_
    refine X_callS3 56 dX3_doClause_53 cw_X3_68 zk_X3_setBears rfl rfl (S_X3_setBears ?_)
    refine X_pn ?_
    refine X_goto 136 dX3_doClause_56 (by decide) ?_
    refine X_vret dX3_doClause_136 rfl ?_
    refine Qs h ?_
    grind [dcX]
  by_cases y1_1 : w = 6
  · refine X_tsw 59 dX3_doClause_1 (Or.inr (by rw [y1_1]; exact ⟨by decide, by decide, 58, by decide, by decide⟩)) ?_
    refine X_aldn1 60 dX3_doClause_59 rfl rfl ?_
    refine X_aldn0 61 dX3_doClause_60 rfl rfl ?_
    refine X_getA 15 64 dX3_doClause_61 fl_X3_15 rfl rfl ?_
    refine X_iconst 0 65 dX3_doClause_64 (by decide) rfl ?_
    refine X_ialk 0 66 dX3_doClause_65 rfl rfl (by decide) (by decide) ?_
    refine X_putI 69 dX3_doClause_66 fp_X3_72 rfl rfl ?_
    refine X_goto 136 dX3_doClause_69 (by decide) ?_
    refine X_vret dX3_doClause_136 rfl ?_
    refine Qs h ?_
    grind [dcX]
  by_cases y1_2 : w = 7
  · refine X_tsw 72 dX3_doClause_1 (Or.inr (by rw [y1_2]; exact ⟨by decide, by decide, 71, by decide, by decide⟩)) ?_
    refine X_aldn1 73 dX3_doClause_72 rfl rfl ?_
    refine X_aldn0 74 dX3_doClause_73 rfl rfl ?_
    refine X_getA 15 77 dX3_doClause_74 fl_X3_15 rfl rfl ?_
    refine X_iconst 0 78 dX3_doClause_77 (by decide) rfl ?_
    refine X_ialk 0 79 dX3_doClause_78 rfl rfl (by decide) (by decide) ?_
    refine X_putI 82 dX3_doClause_79 fp_X3_75 rfl rfl ?_
    refine X_goto 136 dX3_doClause_82 (by decide) ?_
    refine X_vret dX3_doClause_136 rfl ?_
    refine Qs h ?_
    grind [dcX]
  by_cases y1_3 : w = 8
  · refine X_tsw 85 dX3_doClause_1 (Or.inr (by rw [y1_3]; exact ⟨by decide, by decide, 84, by decide, by decide⟩)) ?_
    refine X_aldn1 86 dX3_doClause_85 rfl rfl ?_
    refine X_aldn0 87 dX3_doClause_86 rfl rfl ?_
    refine X_getA 15 90 dX3_doClause_87 fl_X3_15 rfl rfl ?_
    refine X_iconst 0 91 dX3_doClause_90 (by decide) rfl ?_
    refine X_ialk 0 92 dX3_doClause_91 rfl rfl (by decide) (by decide) ?_
    refine X_putI 95 dX3_doClause_92 fp_X3_78 rfl rfl ?_
    refine X_goto 136 dX3_doClause_95 (by decide) ?_
    refine X_vret dX3_doClause_136 rfl ?_
    refine Qs h ?_
    grind [dcX]
  by_cases y1_4 : w = 9
  · refine X_tsw 98 dX3_doClause_1 (Or.inr (by rw [y1_4]; exact ⟨by decide, by decide, 97, by decide, by decide⟩)) ?_
    refine X_aldn1 99 dX3_doClause_98 rfl rfl ?_
    refine X_callV0 0 102 dX3_doClause_99 cw_X3_81 zk_X0_reset ⟨rfl, rfl⟩ rfl rfl rfl (S_X0_reset ?_)
    refine X_pn ?_
    refine X_goto 136 dX3_doClause_102 (by decide) ?_
    refine X_vret dX3_doClause_136 rfl ?_
    refine Qs h ?_
    grind [dcX]
  by_cases y1_5 : w = 10
  · refine X_tsw 105 dX3_doClause_1 (Or.inr (by rw [y1_5]; exact ⟨by decide, by decide, 104, by decide, by decide⟩)) ?_
    refine X_aldn1 106 dX3_doClause_105 rfl rfl ?_
    refine X_iconst 0 107 dX3_doClause_106 (by decide) rfl ?_
    refine X_putI 110 dX3_doClause_107 fp_X3_46 rfl rfl ?_
    refine X_goto 136 dX3_doClause_110 (by decide) ?_
    refine X_vret dX3_doClause_136 rfl ?_
    refine Qs h ?_
    grind [dcX]
  refine X_tsw 113 dX3_doClause_1 (Or.inl ⟨by have z0 := lv_neT y1_0 (a := 5) (by decide); have z1 := lv_neT y1_1 (a := 6) (by decide); have z2 := lv_neT y1_2 (a := 7) (by decide); have z3 := lv_neT y1_3 (a := 8) (by decide); have z4 := lv_neT y1_4 (a := 9) (by decide); have z5 := lv_neT y1_5 (a := 10) (by decide); omega, by decide⟩) ?_
  refine X_aldn1 114 dX3_doClause_113 rfl rfl ?_
  refine X_ildn2 115 dX3_doClause_114 rfl rfl ?_
  refine X_aldn0 116 dX3_doClause_115 rfl rfl ?_
  refine X_getA 15 119 dX3_doClause_116 fl_X3_15 rfl rfl ?_
  refine X_iconst 0 120 dX3_doClause_119 (by decide) rfl ?_
  refine X_ialk 0 121 dX3_doClause_120 rfl rfl (by decide) (by decide) ?_
  refine X_aldn0 122 dX3_doClause_121 rfl rfl ?_
  refine X_getA 15 125 dX3_doClause_122 fl_X3_15 rfl rfl ?_
  refine X_iconst 1 126 dX3_doClause_125 (by decide) rfl ?_
  refine X_ialk 1 127 dX3_doClause_126 rfl rfl (by decide) (by decide) ?_
  refine X_aldn0 128 dX3_doClause_127 rfl rfl ?_
  refine X_getA 15 131 dX3_doClause_128 fl_X3_15 rfl rfl ?_
  refine X_iconst 2 132 dX3_doClause_131 (by decide) rfl ?_
  refine X_ialk 2 133 dX3_doClause_132 rfl rfl (by decide) (by decide) ?_
  refine X_callV4 0 136 dX3_doClause_133 cw_X3_84 zk_X0_addThing ⟨rfl, rfl⟩ rfl rfl rfl (S_X0_addThing hv ?_)
  refine X_pn ?_
  refine X_vret dX3_doClause_136 rfl ?_
  refine Qs h ?_
  grind [dcX]
def teN (σ : xm_M) : Nat := (σ.1 13 4).toNatClampNeg
def tsN (σ : xm_M) : Nat := (σ.1 13 3).toNatClampNeg
def leX (w : Int32) (i : Nat) : Int32 := if w ≤ 4 ∧ nI i = 0 then 1 else 0
def nuX (σ : xm_M) : Int32 := rdN (σ.1 14) (tsN σ) (teN σ)
def rcN (w : Int32) : Nat → Nat → xm_M → Bool × xm_M
  | 0, _, σ => (true, σ)
  | k + 1, i, σ => if nuX (ntX σ (teN σ)) < leX w i ∨ moX w (nI i) < nuX (ntX σ (teN σ)) then (false, ntX σ (teN σ)) else rcN w k (i + 1) (xm_set (ntX σ (teN σ)) 15 i (nuX (ntX σ (teN σ))))
def wdX (σ : xm_M) : Int32 := vFO (isTk (σ.1 14) (tsN σ) (teN σ)) 11 0
def nnW (w : Int32) : Nat := (xk_nums.getD (ixN w) 0).toNatClampNeg
def clX (σ : xm_M) : Bool × xm_M := if wdX σ = -1 ∨ (wdX σ ≤ 4 ∧ 8 ≤ σ.1 7 5) then (false, σ) else if (rcN (wdX σ) (nnW (wdX σ)) 0 σ).1 = false then rcN (wdX σ) (nnW (wdX σ)) 0 σ else (true, dcX (rcN (wdX σ) (nnW (wdX σ)) 0 σ).2 (wdX σ))
/-- ready to go on reading -/
def vRd (σ : xm_M) : Prop := vT σ ∧ vD σ ∧ σ.1 13 4 = nI (teN σ) ∧ teN σ ≤ b3 σ
theorem ntX_ne {σ : xm_M} {p c : Nat} (h : c ≠ 13) : (ntX σ p).1 c = σ.1 c := by funext k; rw [ntX, xs_ne h, xs_ne h]
theorem ntX_k {σ : xm_M} {p k : Nat} (h3 : k ≠ 3) (h4 : k ≠ 4) : (ntX σ p).1 13 k = σ.1 13 k := by rw [ntX, xs_nk h4, xs_nk h3]
theorem ntX_b3 {σ : xm_M} {p : Nat} : b3 (ntX σ p) = b3 σ := by unfold b3; rw [ntX_k (by decide) (by decide)]
theorem ntX_vK {σ : xm_M} (h : vRd σ) : vRd (ntX σ (teN σ)) ∧ vK (ntX σ (teN σ)) (tsN (ntX σ (teN σ))) (teN (ntX σ (teN σ))) ∧ tsN (ntX σ (teN σ)) = tkS (σ.1 14) (b3 σ) (teN σ) ∧ teN (ntX σ (teN σ)) = tkE (σ.1 14) (b3 σ) (tkS (σ.1 14) (b3 σ) (teN σ)) := by
  obtain ⟨hT, hD, h4, hp⟩ := h
  have hT2 := hT.2
  obtain ⟨a1, a2⟩ := tkS_in (L := σ.1 14) hp
  obtain ⟨b1, b2⟩ := tkE_in (L := σ.1 14) a2
  have e3 : (ntX σ (teN σ)).1 13 3 = nI (tkS (σ.1 14) (b3 σ) (teN σ)) := by rw [ntX, xs_nk (by decide), xs_eq]
  have e4 : (ntX σ (teN σ)).1 13 4 = nI (tkE (σ.1 14) (b3 σ) (tkS (σ.1 14) (b3 σ) (teN σ))) := by rw [ntX, xs_eq]
  have t3 : tsN (ntX σ (teN σ)) = tkS (σ.1 14) (b3 σ) (teN σ) := by rw [tsN, e3, nI_clamp (by omega)]
  have t4 : teN (ntX σ (teN σ)) = tkE (σ.1 14) (b3 σ) (tkS (σ.1 14) (b3 σ) (teN σ)) := by rw [teN, e4, nI_clamp (by omega)]
  have hT' : vT (ntX σ (teN σ)) := by unfold vT; rw [ntX_b3, ntX_k (by decide) (by decide)]; exact hT
  have hD' : vD (ntX σ (teN σ)) := by unfold vD nD at *; rw [ntX_ne (by decide)]; exact hD
  refine ⟨⟨hT', hD', by rw [t4]; exact e4, by rw [t4, ntX_b3]; exact b2⟩, ⟨hT', by rw [t3]; exact e3, by rw [t4]; exact e4, by rw [t3, t4]; exact b1, by rw [t4, ntX_b3]; exact b2⟩, t3, t4⟩
theorem vRd_set {σ : xm_M} {c k : Nat} {v : Int32} (h7 : c ≠ 7) (h13 : c ≠ 13) (h : vRd σ) : vRd (xm_set σ c k v) := by
  unfold vRd vT vD nD b3 teN at *
  rw [xs_ne (Ne.symm h7), xs_ne (Ne.symm h13), xs_ne (Ne.symm h13)]
  exact h
theorem rcN_ok {w : Int32} : ∀ {k i : Nat} {σ : xm_M}, vRd σ → vRd (rcN w k i σ).2
  | 0, _, _, h => h
  | k + 1, i, σ, h => by
    rw [rcN]
    split
    · exact (ntX_vK h).1
    · exact rcN_ok (vRd_set (by decide) (by decide) (ntX_vK h).1)
theorem wd_in {p : Nat → Bool} : ∀ {k i : Nat}, vFO p k i = -1 ∨ ∃ j, i ≤ j ∧ j < i + k ∧ vFO p k i = nI j ∧ p j = true
  | 0, i => Or.inl rfl
  | k + 1, i => by
    rw [vFO]
    split
    · rename_i h
      exact Or.inr ⟨i, by omega, by omega, rfl, h⟩
    · rcases wd_in (p := p) (k := k) (i := i + 1) with h | ⟨j, h1, h2, h3⟩
      · exact Or.inl h
      · exact Or.inr ⟨j, by omega, by omega, h3⟩
theorem nnW_ok : ∀ j, j < 11 → xk_nums.getD j 0 = nI (nnW (nI j)) ∧ nnW (nI j) ≤ 3 := by decide +kernel
theorem S_X3_readClause (hv : vRd σ) (hk : vK σ (tsN σ) (teN σ)) (h : Q (some (.int (b2i (clX σ).1))) (clX σ).2) : xg_C (d + 6) mX3_readClause [.ref 13, .ref 7] σ Q := by
  refine xg_C_of py_X3_readClause (Nat.le_of_ble_eq_true rfl) ?_
  show xg_X none (d + 6) mX3_readClause 0 [(0, .ref 13), (1, .ref 7)] [] σ Q
  have loop : ∀ j, j < 11 → ∀ k i τ, i + k = nnW (nI j) → vRd τ → (∀ p, rcN (nI j) k i τ = p → (p.1 = false → Q (some (.int 0)) p.2) ∧ (p.1 = true → Q (some (.int 1)) (dcX p.2 (nI j)))) → ∀ l4, xg_X none (d + 6) mX3_readClause 28 (l4 ++ [(3, .int (nI i)), (2, .int (nI j)), (0, .ref 13), (1, .ref 7)]) [] τ Q := by
    intro j hj k
    obtain ⟨n1, n2⟩ := nnW_ok j hj
    induction k with
    | zero =>
      intro i τ h2 hr h l4
      obtain rfl : i = nnW (nI j) := by omega
      refine xg_sub (lw := [(3, .int (nI (nnW (nI j)))), (2, .int (nI j)), (0, .ref 13), (1, .ref 7)]) (fun q hq => List.mem_append_right _ hq) ?_
      refine X_ildn0 29 dX3_readClause_28 rfl rfl ?_
      refine X_gsN 32 dX3_readClause_29 gs_X3_51 rfl ?_
      refine X_ildn1 33 dX3_readClause_32 rfl rfl ?_
      refine X_ialdN 34 dX3_readClause_33 rfl (vp_in_nI hj (by decide)) ?_
      rw [nI_clamp (by omega), n1]
      refine X_icge 92 37 dX3_readClause_34 (by decide) rfl (fun c34 => ?_) (fun c34 => ?_)
      · refine X_aldn2 93 dX3_readClause_92 rfl rfl ?_
        refine X_aldn3 94 dX3_readClause_93 rfl rfl ?_
        refine X_ildn1 95 dX3_readClause_94 rfl rfl ?_
        refine X_callV2 3 98 dX3_readClause_95 cw_X3_64 zk_X3_doClause ⟨rfl, rfl⟩ rfl rfl rfl (S_X3_doClause hr.2.1 ?_)
        refine X_pn ?_
        refine X_iconst 1 99 dX3_readClause_98 (by decide) rfl ?_
        refine X_zret dX3_readClause_99 rfl (by first | exact Or.inl rfl | exact Or.inr rfl) ?_
        exact (h _ rfl).2 rfl
      · exact absurd (nI_le (Nat.le_refl _) (by omega)) c34
    | succ k ih =>
      intro i τ h2 hr h l4
      refine xg_sub (lw := [(3, .int (nI i)), (2, .int (nI j)), (0, .ref 13), (1, .ref 7)]) (fun q hq => List.mem_append_right _ hq) ?_
      obtain ⟨r1, r2, r3, r4⟩ := ntX_vK hr
      refine X_ildn0 29 dX3_readClause_28 rfl rfl ?_
      refine X_gsN 32 dX3_readClause_29 gs_X3_51 rfl ?_
      refine X_ildn1 33 dX3_readClause_32 rfl rfl ?_
      refine X_ialdN 34 dX3_readClause_33 rfl (vp_in_nI hj (by decide)) ?_
      rw [nI_clamp (by omega), n1]
      refine X_icge 92 37 dX3_readClause_34 (by decide) rfl (fun c34 => ?_) (fun c34 => ?_)
      · have c34 := leq c34 rfl (by omega) (by omega)
        omega
      · refine X_ildn0 38 dX3_readClause_37 rfl rfl ?_
        refine X_aldn2 39 dX3_readClause_38 rfl rfl ?_
        refine X_getA 15 42 dX3_readClause_39 fl_X3_15 rfl rfl ?_
        refine X_alen 3 43 dX3_readClause_42 rfl rfl rfl rfl ?_
        refine X_icge 92 46 dX3_readClause_43 (by decide) rfl (fun c43 => ?_) (fun c43 => ?_)
        · have c43 := leq c43 (n := 3) (by decide) (by decide) (by omega)
          omega
        · refine X_aldn2 47 dX3_readClause_46 rfl rfl ?_
          refine X_callV0 3 50 dX3_readClause_47 cw_X3_25 zk_X3_nextToken ⟨rfl, rfl⟩ rfl rfl rfl (S_X3_nextToken hr.1 hr.2.2.1 hr.2.2.2 ?_)
          refine X_pn ?_
          refine X_aldn2 51 dX3_readClause_50 rfl rfl ?_
          refine X_callV0 3 54 dX3_readClause_51 cw_X3_54 zk_X3_readNumber ⟨rfl, rfl⟩ rfl rfl rfl (S_X3_readNumber r2 ?_)
          refine X_pu ?_
          refine X_istN 56 dX3_readClause_54 rfl rfl rfl ?_
          refine X_ild0 58 dX3_readClause_56 rfl ?_
          refine X_ildn2 59 dX3_readClause_58 rfl rfl ?_
          refine X_ildn1 60 dX3_readClause_59 rfl rfl ?_
          refine X_callS2 63 dX3_readClause_60 cw_X3_57 zk_X3_leastOf rfl rfl (S_X3_leastOf ?_)
          refine X_pu ?_
          refine X_iclt 76 66 dX3_readClause_63 (by decide) rfl (fun c63 => ?_) (fun c63 => ?_)
          · refine X_iconst 0 77 dX3_readClause_76 (by decide) rfl ?_
            refine X_zret dX3_readClause_77 rfl (by first | exact Or.inl rfl | exact Or.inr rfl) ?_
            have q : nuX (ntX τ (teN τ)) < leX (nI j) i ∨ moX (nI j) (nI i) < nuX (ntX τ (teN τ)) := Or.inl c63
            have e : rcN (nI j) (k + 1) i τ = (false, ntX τ (teN τ)) := by rw [rcN, if_pos q]
            exact (h _ e).1 rfl
          · refine X_ild0 68 dX3_readClause_66 rfl ?_
            refine X_ildn2 69 dX3_readClause_68 rfl rfl ?_
            refine X_ildn1 70 dX3_readClause_69 rfl rfl ?_
            refine X_callS2 73 dX3_readClause_70 cw_X3_61 zk_X3_mostOf rfl rfl (S_X3_mostOf ?_)
            refine X_pu ?_
            refine X_icle 78 76 dX3_readClause_73 (by decide) rfl (fun c73 => ?_) (fun c73 => ?_)
            · refine X_aldn3 79 dX3_readClause_78 rfl rfl ?_
              refine X_getA 15 82 dX3_readClause_79 fl_X3_15 rfl rfl ?_
              refine X_ildn1 83 dX3_readClause_82 rfl rfl ?_
              refine X_ild0 85 dX3_readClause_83 rfl ?_
              refine X_iask i 86 dX3_readClause_85 rfl rfl rfl (show i < 3 by omega) ?_
              refine X_inc1 1 89 dX3_readClause_86 (by decide) rfl rfl rfl ?_
              refine X_goto 28 dX3_readClause_89 (by decide) ?_
              refine xg_lv ?_ (ih (i + 1) _ (by omega) (vRd_set (by decide) (by decide) r1) (fun p hp => h p ?_) [(4, .int (nuX (ntX τ (teN τ))))])
              · rw [nI_succ]
                rfl
              · have q : ¬ (nuX (ntX τ (teN τ)) < leX (nI j) i ∨ moX (nI j) (nI i) < nuX (ntX τ (teN τ))) := fun q => q.elim c63 (fun q => absurd c73 (by rw [i_nle]; exact q))
                rw [rcN, if_neg q]
                exact hp
            · refine X_iconst 0 77 dX3_readClause_76 (by decide) rfl ?_
              refine X_zret dX3_readClause_77 rfl (by first | exact Or.inl rfl | exact Or.inr rfl) ?_
              have q : nuX (ntX τ (teN τ)) < leX (nI j) i ∨ moX (nI j) (nI i) < nuX (ntX τ (teN τ)) := Or.inr (by rw [i_nle] at c73; exact c73)
              have e : rcN (nI j) (k + 1) i τ = (false, ntX τ (teN τ)) := by rw [rcN, if_pos q]
              exact (h _ e).1 rfl
  refine X_aldn0 1 dX3_readClause_0 rfl rfl ?_
  refine X_callV0 3 4 dX3_readClause_1 cw_X3_42 zk_X3_readWord ⟨rfl, rfl⟩ rfl rfl rfl (S_X3_readWord hk ?_)
  refine X_pu ?_
  refine X_istnN 5 dX3_readClause_4 rfl rfl rfl rfl ?_
  refine X_ildn0 6 dX3_readClause_5 rfl rfl ?_
  refine X_iconst (-1) 7 dX3_readClause_6 (by decide) rfl ?_
  refine X_iceq 24 10 dX3_readClause_7 (by decide) rfl (fun c7 => ?_) (fun c7 => ?_)
  · refine X_iconst 0 25 dX3_readClause_24 (by decide) rfl ?_
    refine X_zret dX3_readClause_25 rfl (by first | exact Or.inl rfl | exact Or.inr rfl) ?_
    have c7' : wdX σ = -1 := c7
    refine Qs (Qi h ?_) ?_
    · rw [clX, if_pos (Or.inl c7')]
      rfl
    · rw [clX, if_pos (Or.inl c7')]
  · refine X_ildn0 11 dX3_readClause_10 rfl rfl ?_
    refine X_iconst 4 12 dX3_readClause_11 (by decide) rfl ?_
    refine X_icgt 26 15 dX3_readClause_12 (by decide) rfl (fun c12 => ?_) (fun c12 => ?_)
    · refine X_iconst 0 27 dX3_readClause_26 (by decide) rfl ?_
      refine X_istnN 28 dX3_readClause_27 rfl rfl rfl rfl ?_
      have cc : ¬ (wdX σ = -1 ∨ (wdX σ ≤ 4 ∧ 8 ≤ σ.1 7 5)) := by
        (try simp only [i_nlt, i_nle] at *)
        grind [wdX]
      rcases wd_in (p := isTk (σ.1 14) (tsN σ) (teN σ)) (k := 11) (i := 0) with e | ⟨j, -, hj, e, -⟩
      · exact absurd e c7
      · rw [show vFO (isTk (σ.1 14) (tsN σ) (teN σ)) 11 0 = nI j from e]
        have e' : wdX σ = nI j := e
        rw [clX, if_neg cc, e'] at h
        refine loop j (by omega) (nnW (nI j)) 0 σ (by omega) hv (fun p hp => ⟨fun hf => ?_, fun hf => ?_⟩) []
        · rw [hp, if_pos hf] at h
          rw [hf] at h
          exact h
        · rw [hp, if_neg (by rw [hf]; decide)] at h
          exact h
    · refine X_aldn2 16 dX3_readClause_15 rfl rfl ?_
      refine X_getI 19 dX3_readClause_16 fl_X3_46 rfl rfl ?_
      refine X_bipush 8 21 dX3_readClause_19 (by decide) rfl ?_
      refine X_iclt 26 24 dX3_readClause_21 (by decide) rfl (fun c21 => ?_) (fun c21 => ?_)
      · refine X_iconst 0 27 dX3_readClause_26 (by decide) rfl ?_
        refine X_istnN 28 dX3_readClause_27 rfl rfl rfl rfl ?_
        have cc : ¬ (wdX σ = -1 ∨ (wdX σ ≤ 4 ∧ 8 ≤ σ.1 7 5)) := by
          (try simp only [i_nlt, i_nle] at *)
          grind [wdX]
        rcases wd_in (p := isTk (σ.1 14) (tsN σ) (teN σ)) (k := 11) (i := 0) with e | ⟨j, -, hj, e, -⟩
        · exact absurd e c7
        · rw [show vFO (isTk (σ.1 14) (tsN σ) (teN σ)) 11 0 = nI j from e]
          have e' : wdX σ = nI j := e
          rw [clX, if_neg cc, e'] at h
          refine loop j (by omega) (nnW (nI j)) 0 σ (by omega) hv (fun p hp => ⟨fun hf => ?_, fun hf => ?_⟩) []
          · rw [hp, if_pos hf] at h
            rw [hf] at h
            exact h
          · rw [hp, if_neg (by rw [hf]; decide)] at h
            exact h
      · refine X_iconst 0 25 dX3_readClause_24 (by decide) rfl ?_
        refine X_zret dX3_readClause_25 rfl (by first | exact Or.inl rfl | exact Or.inr rfl) ?_
        have cc : wdX σ = -1 ∨ (wdX σ ≤ 4 ∧ 8 ≤ σ.1 7 5) := Or.inr ⟨by rw [i_nlt] at c12; exact c12, by rw [i_nlt] at c21; exact c21⟩
        refine Qs (Qi h ?_) ?_
        · rw [clX, if_pos cc]
          rfl
        · rw [clX, if_pos cc]
end COURT

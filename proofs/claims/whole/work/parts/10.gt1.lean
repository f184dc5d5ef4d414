/-! GoldTouch's own methods, the first of them: what they answer and leave -/
theorem Qp {Q : Option Value → xm_M → Prop} {p : Int32 × xm_M} {v : Int32} {τ : xm_M} (h : Q (some (.int p.1)) p.2) (e : p = (v, τ)) : Q (some (.int v)) τ := by subst e; exact h
def isT (σ : xm_M) (x : Int32) : Bool := decide (0 ≤ x) && decide (x < σ.1 1 5)
def ixN (x : Int32) : Nat := x.toNatClampNeg
theorem ixN_nI {i : Nat} (h : i < 2 ^ 31) : ixN (nI i) = i := nI_clamp h
theorem nI_ex {x : Int32} (h : 0 ≤ x) : x = nI (ixN x) ∧ ixN x < 2 ^ 31 := by
  have h1 := Int32.le_iff_toInt_le.mp h
  have h2 := Int32.toInt_lt x
  have h3 : ((ixN x : Nat) : Int) = x.toInt := by
    show ((x.toInt.toNat : Nat) : Int) = x.toInt
    have : (0 : Int32).toInt = 0 := by decide
    omega
  refine ⟨?_, by omega⟩
  apply Int32.toInt_inj.mp
  rw [nI_toInt (by omega)]
  omega
theorem lt_nI {x : Int32} {n : Nat} (hn : n < 2 ^ 31) (h0 : 0 ≤ x) (h : x < nI n) : ∃ i, i < n ∧ x = nI i := by
  obtain ⟨e, h1⟩ := nI_ex h0
  refine ⟨ixN x, ?_, e⟩
  rw [e] at h
  exact (nI_ltI h1 hn).mp h
theorem isT_of {σ : xm_M} {x : Int32} (hv : vX σ) (h : isT σ x = true) : ∃ i, i < nX σ ∧ x = nI i := by
  simp only [isT, Bool.and_eq_true, decide_eq_true_eq] at h
  obtain ⟨h0, h1⟩ := h
  rw [hv.1] at h1
  exact lt_nI (by have := hv.2; omega) h0 h1
def b3 (σ : xm_M) : Nat := (σ.1 13 1).toNatClampNeg
def vT (σ : xm_M) : Prop := σ.1 13 1 = nI (b3 σ) ∧ b3 σ ≤ 160
def f_write (σ : xm_M) (x : Int32) : Int32 × xm_M := if x < 0 ∨ 255 < x then (-3, σ) else if 160 ≤ σ.1 13 1 then (-5, σ) else (σ.1 13 1 + 1, xm_set (xm_set σ 14 (b3 σ) x) 13 1 (σ.1 13 1 + 1))
def f_thing (σ : xm_M) (x y : Int32) : Int32 := if isT σ x = false then -2 else if y = 0 then σ.1 2 (ixN x) else if y = 1 then σ.1 3 (ixN x) else if y = 2 then σ.1 4 (ixN x) else if y = 3 then σ.1 5 (ixN x) else if y = 4 then gX σ 16 (ixN x) else if y = 5 then b2i (hb (σ.1 16 4) x) else if y = 6 then prX σ 16 (ixN x) else -3
/-- whether a kind is under another -/
def undX (k z : Int32) : Nat → Bool
  | 0 => false
  | n + 1 => if 0 ≤ k ∧ k < 6 then (if k = z then true else undX (xk_above.getD (ixN k) 0) z n) else false
def f_as (σ : xm_M) (x y : Int32) : Int32 := if isT σ x = false then -2 else if y < 0 ∨ 6 ≤ y then -3 else if undX (σ.1 2 (ixN x) + 1) y 6 then vW (σ.1 3) (gX σ 16) (σ.1 16 4) (ixN x) else -4
def f_floor (σ : xm_M) (x y : Int32) : Int32 := if x < 0 ∨ 3 ≤ x then -2 else if y = 0 then σ.1 6 (ixN x) else if y = 1 then ldX σ 16 x else if y = 2 then b2i (hb (σ.1 16 5) x) else if y = 3 then (tlX σ 16 x (σ.1 0 11) (nX σ)).1 else -3
def f_hand (σ : xm_M) (x : Int32) : Int32 := if x < 0 ∨ 99 < x then -3 else hX σ (σ.1 16 1) x
section GT1
variable {d : Nat} {σ : xm_M} {Q : Option Value → xm_M → Prop}
theorem S_isT {x : Int32} (h : Q (some (.int (b2i (isT σ x)))) σ) : xg_C d mX4_isThing [.ref 0, .int x] σ Q := S_X4_isThing h
theorem S_X4_write {x : Int32} (hv : vT σ) (h : Q (some (.int (f_write σ x).1)) (f_write σ x).2) : xg_C d mX4_write [.ref 0, .int x] σ Q := by
  refine xg_C_of py_X4_write (Nat.le_of_ble_eq_true rfl) ?_
  show xg_X none d mX4_write 0 [(0, .ref 0), (1, .int x)] [] σ Q
  obtain ⟨h1, h2⟩ := hv
  refine X_ildn1 1 dX4_write_0 rfl rfl ?_
  refine X_iflt 11 4 dX4_write_1 (by decide) rfl (fun c1 => ?_) (fun c1 => ?_)
  · refine X_bipush (-3) 13 dX4_write_11 (by decide) rfl ?_
    refine X_iret dX4_write_13 rfl ?_
    refine Qp h ?_
    (try simp only [i_nlt, i_nle] at *)
    grind [f_write]
  · refine X_ildn1 5 dX4_write_4 rfl rfl ?_
    refine X_sipush 255 8 dX4_write_5 (by decide) rfl ?_
    refine X_icle 14 11 dX4_write_8 (by decide) rfl (fun c8 => ?_) (fun c8 => ?_)
    · refine X_aldn0 15 dX4_write_14 rfl rfl ?_
      refine X_getA 13 18 dX4_write_15 fl_X4_22 rfl rfl ?_
      refine X_getI 21 dX4_write_18 fl_X4_63 rfl rfl ?_
      refine X_sipush 160 24 dX4_write_21 (by decide) rfl ?_
      refine X_iclt 30 27 dX4_write_24 (by decide) rfl (fun c24 => ?_) (fun c24 => ?_)
      · refine X_aldn0 31 dX4_write_30 rfl rfl ?_
        refine X_getA 13 34 dX4_write_31 fl_X4_22 rfl rfl ?_
        refine X_getA 14 37 dX4_write_34 fl_X4_67 rfl rfl ?_
        refine X_aldn0 38 dX4_write_37 rfl rfl ?_
        refine X_getA 13 41 dX4_write_38 fl_X4_22 rfl rfl ?_
        refine X_getI 44 dX4_write_41 fl_X4_63 rfl rfl ?_
        refine X_ildn1 45 dX4_write_44 rfl rfl ?_
        refine X_iask (b3 σ) 46 dX4_write_45 rfl rfl h1 (by rw [h1] at c24; exact (nI_ltI (by omega) (by decide)).mp c24) ?_
        refine X_aldn0 47 dX4_write_46 rfl rfl ?_
        refine X_getA 13 50 dX4_write_47 fl_X4_22 rfl rfl ?_
        refine X_dup 51 dX4_write_50 rfl rfl ?_
        refine X_getI 54 dX4_write_51 fl_X4_63 rfl rfl ?_
        refine X_iconst 1 55 dX4_write_54 (by decide) rfl ?_
        refine X_iadd 56 dX4_write_55 rfl ?_
        refine X_putI 59 dX4_write_56 fp_X4_63 rfl rfl ?_
        refine X_aldn0 60 dX4_write_59 rfl rfl ?_
        refine X_getA 13 63 dX4_write_60 fl_X4_22 rfl rfl ?_
        refine X_getI 66 dX4_write_63 fl_X4_63 rfl rfl ?_
        refine X_iret dX4_write_66 rfl ?_
        refine Qp h ?_
        rw [xs_eq, xs_ne (by decide)]
        (try simp only [i_nlt, i_nle] at *)
        grind [f_write]
      · refine X_bipush (-5) 29 dX4_write_27 (by decide) rfl ?_
        refine X_iret dX4_write_29 rfl ?_
        refine Qp h ?_
        (try simp only [i_nlt, i_nle] at *)
        grind [f_write]
    · refine X_bipush (-3) 13 dX4_write_11 (by decide) rfl ?_
      refine X_iret dX4_write_13 rfl ?_
      refine Qp h ?_
      (try simp only [i_nlt, i_nle] at *)
      grind [f_write]
theorem S_X4_erase (h : Q (some (.int (σ.1 13 1))) (xm_set σ 13 1 0)) : xg_C d mX4_erase [.ref 0] σ Q := by
  refine xg_C_of py_X4_erase (Nat.le_of_ble_eq_true rfl) ?_
  show xg_X none d mX4_erase 0 [(0, .ref 0)] [] σ Q
  refine X_aldn0 1 dX4_erase_0 rfl rfl ?_
  refine X_getA 13 4 dX4_erase_1 fl_X4_22 rfl rfl ?_
  refine X_getI 7 dX4_erase_4 fl_X4_63 rfl rfl ?_
  refine X_istnN 8 dX4_erase_7 rfl rfl rfl rfl ?_
  refine X_aldn1 9 dX4_erase_8 rfl rfl ?_
  refine X_getA 13 12 dX4_erase_9 fl_X4_22 rfl rfl ?_
  refine X_iconst 0 13 dX4_erase_12 (by decide) rfl ?_
  refine X_putI 16 dX4_erase_13 fp_X4_63 rfl rfl ?_
  refine X_ildn0 17 dX4_erase_16 rfl rfl ?_
  refine X_iret dX4_erase_17 rfl ?_
  exact h
theorem S_X4_thing {x y : Int32} (hv : vX σ) (h : Q (some (.int (f_thing σ x y))) σ) : xg_C (d + 3) mX4_thing [.ref 0, .int x, .int y] σ Q := by
  refine xg_C_of py_X4_thing (Nat.le_of_ble_eq_true rfl) ?_
  show xg_X none (d + 3) mX4_thing 0 [(0, .ref 0), (1, .int x), (2, .int y)] [] σ Q
  have hn8 := hv.2
  refine X_aldn0 1 dX4_thing_0 rfl rfl ?_
  refine X_ildn1 2 dX4_thing_1 rfl rfl ?_
  refine X_callV1 4 5 dX4_thing_2 cw_X4_84 zk_X4_isThing ⟨rfl, rfl⟩ rfl rfl rfl (S_isT ?_)
  refine X_pu ?_
  refine X_ifne 11 8 dX4_thing_5 (by decide) rfl (fun c5 => ?_) (fun c5 => ?_)
  · rw [b2i_n] at c5
    obtain ⟨i, hi, rfl⟩ := isT_of hv c5
    have e := ixN_nI (i := i) (by omega)
    refine X_ildn2 12 dX4_thing_11 rfl rfl ?_
    by_cases y12_0 : y = 0
    · refine X_tsw 56 dX4_thing_12 (Or.inr (by rw [y12_0]; exact ⟨by decide, by decide, 44, by decide, by decide⟩)) ?_
      refine X_aldn0 57 dX4_thing_56 rfl rfl ?_
      refine X_getA 1 60 dX4_thing_57 fl_X4_10 rfl rfl ?_
      refine X_getA 2 63 dX4_thing_60 fl_X4_88 rfl rfl ?_
      refine X_ildn1 64 dX4_thing_63 rfl rfl ?_
      refine X_ialk i 65 dX4_thing_64 rfl rfl rfl (show i < 8 by omega) ?_
      refine X_iret dX4_thing_65 rfl ?_
      refine Qi h ?_
      grind [f_thing, b2i, gX]
    by_cases y12_1 : y = 1
    · refine X_tsw 66 dX4_thing_12 (Or.inr (by rw [y12_1]; exact ⟨by decide, by decide, 54, by decide, by decide⟩)) ?_
      refine X_aldn0 67 dX4_thing_66 rfl rfl ?_
      refine X_getA 1 70 dX4_thing_67 fl_X4_10 rfl rfl ?_
      refine X_getA 3 73 dX4_thing_70 fl_X4_91 rfl rfl ?_
      refine X_ildn1 74 dX4_thing_73 rfl rfl ?_
      refine X_ialk i 75 dX4_thing_74 rfl rfl rfl (show i < 8 by omega) ?_
      refine X_iret dX4_thing_75 rfl ?_
      refine Qi h ?_
      grind [f_thing, b2i, gX]
    by_cases y12_2 : y = 2
    · refine X_tsw 76 dX4_thing_12 (Or.inr (by rw [y12_2]; exact ⟨by decide, by decide, 64, by decide, by decide⟩)) ?_
      refine X_aldn0 77 dX4_thing_76 rfl rfl ?_
      refine X_getA 1 80 dX4_thing_77 fl_X4_10 rfl rfl ?_
      refine X_getA 4 83 dX4_thing_80 fl_X4_94 rfl rfl ?_
      refine X_ildn1 84 dX4_thing_83 rfl rfl ?_
      refine X_ialk i 85 dX4_thing_84 rfl rfl rfl (show i < 8 by omega) ?_
      refine X_iret dX4_thing_85 rfl ?_
      refine Qi h ?_
      grind [f_thing, b2i, gX]
    by_cases y12_3 : y = 3
    · refine X_tsw 86 dX4_thing_12 (Or.inr (by rw [y12_3]; exact ⟨by decide, by decide, 74, by decide, by decide⟩)) ?_
      refine X_aldn0 87 dX4_thing_86 rfl rfl ?_
      refine X_getA 1 90 dX4_thing_87 fl_X4_10 rfl rfl ?_
      refine X_getA 5 93 dX4_thing_90 fl_X4_97 rfl rfl ?_
      refine X_ildn1 94 dX4_thing_93 rfl rfl ?_
      refine X_ialk i 95 dX4_thing_94 rfl rfl rfl (show i < 8 by omega) ?_
      refine X_iret dX4_thing_95 rfl ?_
      refine Qi h ?_
      grind [f_thing, b2i, gX]
    by_cases y12_4 : y = 4
    · refine X_tsw 96 dX4_thing_12 (Or.inr (by rw [y12_4]; exact ⟨by decide, by decide, 84, by decide, by decide⟩)) ?_
      refine X_aldn0 97 dX4_thing_96 rfl rfl ?_
      refine X_getA 16 100 dX4_thing_97 fl_X4_29 rfl rfl ?_
      refine X_ildn1 101 dX4_thing_100 rfl rfl ?_
      refine X_callV1 1 104 dX4_thing_101 cw_X4_100 zk_X1_goldOf ⟨rfl, rfl⟩ rfl rfl rfl (S_X1_goldOf (Or.inl rfl) ?_)
      refine X_pu ?_
      refine X_iret dX4_thing_104 rfl ?_
      refine Qi h ?_
      grind [f_thing, b2i, gX]
    by_cases y12_5 : y = 5
    · refine X_tsw 105 dX4_thing_12 (Or.inr (by rw [y12_5]; exact ⟨by decide, by decide, 93, by decide, by decide⟩)) ?_
      refine X_aldn0 106 dX4_thing_105 rfl rfl ?_
      refine X_getA 16 109 dX4_thing_106 fl_X4_29 rfl rfl ?_
      refine X_getI 112 dX4_thing_109 fl_X4_104 rfl rfl ?_
      refine X_ildn1 113 dX4_thing_112 rfl rfl ?_
      refine X_callS2 116 dX4_thing_113 cw_X4_107 zk_X4_hasBit rfl rfl (S_X4_hasBit ?_)
      refine X_pu ?_
      refine X_ifeq 123 119 dX4_thing_116 (by decide) rfl (fun c116 => ?_) (fun c116 => ?_)
      · refine X_iconst 0 124 dX4_thing_123 (by decide) rfl ?_
        refine X_iret dX4_thing_124 rfl ?_
        refine Qi h ?_
        grind [f_thing, b2i, gX]
      · refine X_iconst 1 120 dX4_thing_119 (by decide) rfl ?_
        refine X_goto 124 dX4_thing_120 (by decide) ?_
        refine X_iret dX4_thing_124 rfl ?_
        refine Qi h ?_
        grind [f_thing, b2i, gX]
    by_cases y12_6 : y = 6
    · refine X_tsw 125 dX4_thing_12 (Or.inr (by rw [y12_6]; exact ⟨by decide, by decide, 113, by decide, by decide⟩)) ?_
      refine X_aldn0 126 dX4_thing_125 rfl rfl ?_
      refine X_getA 16 129 dX4_thing_126 fl_X4_29 rfl rfl ?_
      refine X_aldn0 130 dX4_thing_129 rfl rfl ?_
      refine X_getA 1 133 dX4_thing_130 fl_X4_10 rfl rfl ?_
      refine X_ildn1 134 dX4_thing_133 rfl rfl ?_
      refine X_callV2 1 137 dX4_thing_134 cw_X4_111 zk_X1_priceOf ⟨rfl, rfl⟩ rfl rfl rfl (S_X1_priceOf (Or.inl rfl) (by omega) ?_)
      refine X_pu ?_
      refine X_iret dX4_thing_137 rfl ?_
      refine Qi h ?_
      grind [f_thing, b2i, gX]
    refine X_tsw 138 dX4_thing_12 (Or.inl ⟨by have z0 := lv_neT y12_0 (a := 0) (by decide); have z1 := lv_neT y12_1 (a := 1) (by decide); have z2 := lv_neT y12_2 (a := 2) (by decide); have z3 := lv_neT y12_3 (a := 3) (by decide); have z4 := lv_neT y12_4 (a := 4) (by decide); have z5 := lv_neT y12_5 (a := 5) (by decide); have z6 := lv_neT y12_6 (a := 6) (by decide); omega, by decide⟩) ?_
    refine X_bipush (-3) 140 dX4_thing_138 (by decide) rfl ?_
    refine X_iret dX4_thing_140 rfl ?_
    refine Qi h ?_
    grind [f_thing, b2i, gX]
  · rw [b2i_0] at c5
    refine X_bipush (-2) 10 dX4_thing_8 (by decide) rfl ?_
    refine X_iret dX4_thing_10 rfl ?_
    refine Qi h ?_
    grind [f_thing, b2i, gX]
theorem S_X4_isUnder {x y : Int32} (h : Q (some (.int (b2i (undX x y 6)))) σ) : xg_C d mX4_isUnder [.int x, .int y] σ Q := by
  refine xg_C_of py_X4_isUnder (Nat.le_of_ble_eq_true rfl) ?_
  show xg_X none d mX4_isUnder 0 [(0, .int x), (1, .int y)] [] σ Q
  have loop : ∀ (k i : Nat) (z : Int32), i + k = 6 → Q (some (.int (b2i (undX z y k)))) σ → xg_X none d mX4_isUnder 4 [(3, .int (nI i)), (2, .int z), (0, .int x), (1, .int y)] [] σ Q := by
    intro k
    induction k with
    | zero =>
      intro i z h1 h
      obtain rfl : i = 6 := by omega
      refine X_ildn0 5 dX4_isUnder_4 rfl rfl ?_
      refine X_gsA 8 dX4_isUnder_5 gs_X4_115 rfl ?_
      refine X_alenA 9 dX4_isUnder_8 rfl ?_
      refine X_icge 43 12 dX4_isUnder_9 (by decide) rfl (fun c9 => ?_) (fun c9 => ?_)
      · refine X_iconst 0 44 dX4_isUnder_43 (by decide) rfl ?_
        refine X_zret dX4_isUnder_44 rfl (by first | exact Or.inl rfl | exact Or.inr rfl) ?_
        exact h
      · exact absurd (by decide) c9
    | succ k ih =>
      intro i z h1 h
      refine X_ildn0 5 dX4_isUnder_4 rfl rfl ?_
      refine X_gsA 8 dX4_isUnder_5 gs_X4_115 rfl ?_
      refine X_alenA 9 dX4_isUnder_8 rfl ?_
      refine X_icge 43 12 dX4_isUnder_9 (by decide) rfl (fun c9 => ?_) (fun c9 => ?_)
      · have c9 := leq c9 (n := 6) (by decide) (by decide) (by omega)
        omega
      · refine X_ildn1 13 dX4_isUnder_12 rfl rfl ?_
        refine X_iflt 43 16 dX4_isUnder_13 (by decide) rfl (fun c13 => ?_) (fun c13 => ?_)
        · refine X_iconst 0 44 dX4_isUnder_43 (by decide) rfl ?_
          refine X_zret dX4_isUnder_44 rfl (by first | exact Or.inl rfl | exact Or.inr rfl) ?_
          refine Qi h ?_
          (try simp only [i_nlt, i_nle] at *)
          grind [undX, b2i]
        · refine X_ildn1 17 dX4_isUnder_16 rfl rfl ?_
          refine X_gsA 20 dX4_isUnder_17 gs_X4_115 rfl ?_
          refine X_alenA 21 dX4_isUnder_20 rfl ?_
          refine X_icge 43 24 dX4_isUnder_21 (by decide) rfl (fun c21 => ?_) (fun c21 => ?_)
          · refine X_iconst 0 44 dX4_isUnder_43 (by decide) rfl ?_
            refine X_zret dX4_isUnder_44 rfl (by first | exact Or.inl rfl | exact Or.inr rfl) ?_
            refine Qi h ?_
            (try simp only [i_nlt, i_nle] at *)
            grind [undX, b2i]
          · refine X_ildn1 25 dX4_isUnder_24 rfl rfl ?_
            refine X_ildn3 26 dX4_isUnder_25 rfl rfl ?_
            refine X_icne 31 29 dX4_isUnder_26 (by decide) rfl (fun c26 => ?_) (fun c26 => ?_)
            · refine X_gsA 34 dX4_isUnder_31 gs_X4_115 rfl ?_
              refine X_ildn1 35 dX4_isUnder_34 rfl rfl ?_
              obtain ⟨j, hj, rfl⟩ := lt_nI (n := 6) (by decide) (by rw [i_nlt] at c13; exact c13) (by rw [i_nle] at c21; exact c21)
              refine X_ialdA 36 dX4_isUnder_35 rfl (vp_in_nI hj (by decide)) ?_
              refine X_istn1 37 dX4_isUnder_36 rfl rfl rfl rfl ?_
              refine X_inc0 1 40 dX4_isUnder_37 (by decide) rfl rfl rfl ?_
              refine X_goto 4 dX4_isUnder_40 (by decide) ?_
              refine xg_lv ?_ (ih (i + 1) (xk_above.getD (ixN (nI j)) 0) (by omega) ?_)
              · simp [nI_succ, ixN]
              · refine Qi h ?_
                (try simp only [i_nlt, i_nle] at *)
                grind [undX, b2i]
            · refine X_iconst 1 30 dX4_isUnder_29 (by decide) rfl ?_
              refine X_zret dX4_isUnder_30 rfl (by first | exact Or.inl rfl | exact Or.inr rfl) ?_
              refine Qi h ?_
              (try simp only [i_nlt, i_nle] at *)
              grind [undX, b2i]
  refine X_ildn0 1 dX4_isUnder_0 rfl rfl ?_
  refine X_istnN 2 dX4_isUnder_1 rfl rfl rfl rfl ?_
  refine X_iconst 0 3 dX4_isUnder_2 (by decide) rfl ?_
  refine X_istnN 4 dX4_isUnder_3 rfl rfl rfl rfl ?_
  exact loop 6 0 x rfl h
theorem S_X4_as {x y : Int32} (hv : vX σ) (h : Q (some (.int (f_as σ x y))) σ) : xg_C (d + 3) mX4_as [.ref 0, .int x, .int y] σ Q := by
  refine xg_C_of py_X4_as (Nat.le_of_ble_eq_true rfl) ?_
  show xg_X none (d + 3) mX4_as 0 [(0, .ref 0), (1, .int x), (2, .int y)] [] σ Q
  have hn8 := hv.2
  refine X_aldn0 1 dX4_as_0 rfl rfl ?_
  refine X_ildn1 2 dX4_as_1 rfl rfl ?_
  refine X_callV1 4 5 dX4_as_2 cw_X4_84 zk_X4_isThing ⟨rfl, rfl⟩ rfl rfl rfl (S_isT ?_)
  refine X_pu ?_
  refine X_ifne 11 8 dX4_as_5 (by decide) rfl (fun c5 => ?_) (fun c5 => ?_)
  · rw [b2i_n] at c5
    obtain ⟨i, hi, rfl⟩ := isT_of hv c5
    have e := ixN_nI (i := i) (by omega)
    refine X_ildn2 12 dX4_as_11 rfl rfl ?_
    refine X_iflt 23 15 dX4_as_12 (by decide) rfl (fun c12 => ?_) (fun c12 => ?_)
    · refine X_bipush (-3) 25 dX4_as_23 (by decide) rfl ?_
      refine X_iret dX4_as_25 rfl ?_
      refine Qi h ?_
      (try simp only [i_nlt, i_nle] at *)
      grind [f_as, b2i]
    · refine X_ildn2 16 dX4_as_15 rfl rfl ?_
      refine X_gsA 19 dX4_as_16 gs_X4_115 rfl ?_
      refine X_alenA 20 dX4_as_19 rfl ?_
      refine X_iclt 26 23 dX4_as_20 (by decide) rfl (fun c20 => ?_) (fun c20 => ?_)
      · refine X_aldn0 27 dX4_as_26 rfl rfl ?_
        refine X_getA 1 30 dX4_as_27 fl_X4_10 rfl rfl ?_
        refine X_getA 2 33 dX4_as_30 fl_X4_88 rfl rfl ?_
        refine X_ildn1 34 dX4_as_33 rfl rfl ?_
        refine X_ialk i 35 dX4_as_34 rfl rfl rfl (show i < 8 by omega) ?_
        refine X_iconst 1 36 dX4_as_35 (by decide) rfl ?_
        refine X_iadd 37 dX4_as_36 rfl ?_
        refine X_ildn2 38 dX4_as_37 rfl rfl ?_
        refine X_callS2 41 dX4_as_38 cw_X4_118 zk_X4_isUnder rfl rfl (S_X4_isUnder ?_)
        refine X_pu ?_
        refine X_ifeq 59 44 dX4_as_41 (by decide) rfl (fun c41 => ?_) (fun c41 => ?_)
        · refine X_bipush (-4) 61 dX4_as_59 (by decide) rfl ?_
          refine X_iret dX4_as_61 rfl ?_
          refine Qi h ?_
          (try simp only [i_nlt, i_nle] at *)
          grind [f_as, b2i]
        · refine X_aldn0 45 dX4_as_44 rfl rfl ?_
          refine X_getA 16 48 dX4_as_45 fl_X4_29 rfl rfl ?_
          refine X_aldn0 49 dX4_as_48 rfl rfl ?_
          refine X_getA 1 52 dX4_as_49 fl_X4_10 rfl rfl ?_
          refine X_ildn1 53 dX4_as_52 rfl rfl ?_
          refine X_callV2 1 56 dX4_as_53 cw_X4_121 zk_X1_weighs ⟨rfl, rfl⟩ rfl rfl rfl (S_X1_weighs (Or.inl rfl) (by omega) ?_)
          refine X_pu ?_
          refine X_goto 61 dX4_as_56 (by decide) ?_
          refine X_iret dX4_as_61 rfl ?_
          refine Qi h ?_
          (try simp only [i_nlt, i_nle] at *)
          grind [f_as, b2i]
      · refine X_bipush (-3) 25 dX4_as_23 (by decide) rfl ?_
        refine X_iret dX4_as_25 rfl ?_
        refine Qi h ?_
        (try simp only [i_nlt, i_nle] at *)
        grind [f_as, b2i]
  · rw [b2i_0] at c5
    refine X_bipush (-2) 10 dX4_as_8 (by decide) rfl ?_
    refine X_iret dX4_as_10 rfl ?_
    refine Qi h ?_
    (try simp only [i_nlt, i_nle] at *)
    grind [f_as, b2i]
theorem S_X4_floor {x y : Int32} (hv : vX σ) (h : Q (some (.int (f_floor σ x y))) σ) : xg_C (d + 4) mX4_floor [.ref 0, .int x, .int y] σ Q := by
  refine xg_C_of py_X4_floor (Nat.le_of_ble_eq_true rfl) ?_
  show xg_X none (d + 4) mX4_floor 0 [(0, .ref 0), (1, .int x), (2, .int y)] [] σ Q
  refine X_ildn1 1 dX4_floor_0 rfl rfl ?_
  refine X_iflt 9 4 dX4_floor_1 (by decide) rfl (fun c1 => ?_) (fun c1 => ?_)
  · refine X_bipush (-2) 11 dX4_floor_9 (by decide) rfl ?_
    refine X_iret dX4_floor_11 rfl ?_
    refine Qi h ?_
    (try simp only [i_nlt, i_nle] at *)
    grind [f_floor, b2i]
  · refine X_ildn1 5 dX4_floor_4 rfl rfl ?_
    refine X_iconst 3 6 dX4_floor_5 (by decide) rfl ?_
    refine X_iclt 12 9 dX4_floor_6 (by decide) rfl (fun c6 => ?_) (fun c6 => ?_)
    · obtain ⟨i, hi, rfl⟩ := lt_nI (n := 3) (by decide) (by rw [i_nlt] at c1; exact c1) c6
      have e := ixN_nI (i := i) (by omega)
      refine X_ildn2 13 dX4_floor_12 rfl rfl ?_
      by_cases y13_0 : y = 0
      · refine X_tsw 44 dX4_floor_13 (Or.inr (by rw [y13_0]; exact ⟨by decide, by decide, 31, by decide, by decide⟩)) ?_
        refine X_aldn0 45 dX4_floor_44 rfl rfl ?_
        refine X_getA 1 48 dX4_floor_45 fl_X4_10 rfl rfl ?_
        refine X_getA 6 51 dX4_floor_48 fl_X4_124 rfl rfl ?_
        refine X_ildn1 52 dX4_floor_51 rfl rfl ?_
        refine X_ialk i 53 dX4_floor_52 rfl rfl rfl (show i < 3 by omega) ?_
        refine X_iret dX4_floor_53 rfl ?_
        refine Qi h ?_
        (try simp only [i_nlt, i_nle] at *)
        grind [f_floor, b2i]
      by_cases y13_1 : y = 1
      · refine X_tsw 54 dX4_floor_13 (Or.inr (by rw [y13_1]; exact ⟨by decide, by decide, 41, by decide, by decide⟩)) ?_
        refine X_aldn0 55 dX4_floor_54 rfl rfl ?_
        refine X_getA 16 58 dX4_floor_55 fl_X4_29 rfl rfl ?_
        refine X_aldn0 59 dX4_floor_58 rfl rfl ?_
        refine X_getA 1 62 dX4_floor_59 fl_X4_10 rfl rfl ?_
        refine X_ildn1 63 dX4_floor_62 rfl rfl ?_
        refine X_callV2 1 66 dX4_floor_63 cw_X4_127 zk_X1_loadOf ⟨rfl, rfl⟩ rfl rfl rfl (S_X1_loadOf (Or.inl rfl) hv ?_)
        refine X_pu ?_
        refine X_iret dX4_floor_66 rfl ?_
        refine Qi h ?_
        (try simp only [i_nlt, i_nle] at *)
        grind [f_floor, b2i]
      by_cases y13_2 : y = 2
      · refine X_tsw 67 dX4_floor_13 (Or.inr (by rw [y13_2]; exact ⟨by decide, by decide, 54, by decide, by decide⟩)) ?_
        refine X_aldn0 68 dX4_floor_67 rfl rfl ?_
        refine X_getA 16 71 dX4_floor_68 fl_X4_29 rfl rfl ?_
        refine X_getI 74 dX4_floor_71 fl_X4_130 rfl rfl ?_
        refine X_ildn1 75 dX4_floor_74 rfl rfl ?_
        refine X_callS2 78 dX4_floor_75 cw_X4_107 zk_X4_hasBit rfl rfl (S_X4_hasBit ?_)
        refine X_pu ?_
        refine X_ifeq 85 81 dX4_floor_78 (by decide) rfl (fun c78 => ?_) (fun c78 => ?_)
        · refine X_iconst 0 86 dX4_floor_85 (by decide) rfl ?_
          refine X_iret dX4_floor_86 rfl ?_
          refine Qi h ?_
          (try simp only [i_nlt, i_nle] at *)
          grind [f_floor, b2i]
        · refine X_iconst 1 82 dX4_floor_81 (by decide) rfl ?_
          refine X_goto 86 dX4_floor_82 (by decide) ?_
          refine X_iret dX4_floor_86 rfl ?_
          refine Qi h ?_
          (try simp only [i_nlt, i_nle] at *)
          grind [f_floor, b2i]
      by_cases y13_3 : y = 3
      · refine X_tsw 87 dX4_floor_13 (Or.inr (by rw [y13_3]; exact ⟨by decide, by decide, 74, by decide, by decide⟩)) ?_
        refine X_aldn0 88 dX4_floor_87 rfl rfl ?_
        refine X_getA 16 91 dX4_floor_88 fl_X4_29 rfl rfl ?_
        refine X_aldn0 92 dX4_floor_91 rfl rfl ?_
        refine X_getA 1 95 dX4_floor_92 fl_X4_10 rfl rfl ?_
        refine X_ildn1 96 dX4_floor_95 rfl rfl ?_
        refine X_aldn0 97 dX4_floor_96 rfl rfl ?_
        refine X_getI 100 dX4_floor_97 fl_X4_133 rfl rfl ?_
        refine X_callV3 1 103 dX4_floor_100 cw_X4_136 zk_X1_toolOf ⟨rfl, rfl⟩ rfl rfl rfl (S_X1_toolOf (Or.inl rfl) hv ?_)
        refine X_pu ?_
        refine X_iret dX4_floor_103 rfl ?_
        refine Qi h ?_
        (try simp only [i_nlt, i_nle] at *)
        grind [f_floor, b2i]
      refine X_tsw 104 dX4_floor_13 (Or.inl ⟨by have z0 := lv_neT y13_0 (a := 0) (by decide); have z1 := lv_neT y13_1 (a := 1) (by decide); have z2 := lv_neT y13_2 (a := 2) (by decide); have z3 := lv_neT y13_3 (a := 3) (by decide); omega, by decide⟩) ?_
      refine X_bipush (-3) 106 dX4_floor_104 (by decide) rfl ?_
      refine X_iret dX4_floor_106 rfl ?_
      refine Qi h ?_
      (try simp only [i_nlt, i_nle] at *)
      grind [f_floor, b2i]
    · refine X_bipush (-2) 11 dX4_floor_9 (by decide) rfl ?_
      refine X_iret dX4_floor_11 rfl ?_
      refine Qi h ?_
      (try simp only [i_nlt, i_nle] at *)
      grind [f_floor, b2i]
theorem S_X4_hand {x : Int32} (hv : vH σ) (h : Q (some (.int (f_hand σ x))) σ) : xg_C (d + 2) mX4_hand [.ref 0, .int x] σ Q := by
  refine xg_C_of py_X4_hand (Nat.le_of_ble_eq_true rfl) ?_
  show xg_X none (d + 2) mX4_hand 0 [(0, .ref 0), (1, .int x)] [] σ Q
  refine X_ildn1 1 dX4_hand_0 rfl rfl ?_
  refine X_iflt 10 4 dX4_hand_1 (by decide) rfl (fun c1 => ?_) (fun c1 => ?_)
  · refine X_bipush (-3) 12 dX4_hand_10 (by decide) rfl ?_
    refine X_iret dX4_hand_12 rfl ?_
    refine Qi h ?_
    (try simp only [i_nlt, i_nle] at *)
    grind [f_hand]
  · refine X_ildn1 5 dX4_hand_4 rfl rfl ?_
    refine X_bipush 99 7 dX4_hand_5 (by decide) rfl ?_
    refine X_icle 13 10 dX4_hand_7 (by decide) rfl (fun c7 => ?_) (fun c7 => ?_)
    · refine X_aldn0 14 dX4_hand_13 rfl rfl ?_
      refine X_getA 1 17 dX4_hand_14 fl_X4_10 rfl rfl ?_
      refine X_aldn0 18 dX4_hand_17 rfl rfl ?_
      refine X_getA 16 21 dX4_hand_18 fl_X4_29 rfl rfl ?_
      refine X_getI 24 dX4_hand_21 fl_X4_140 rfl rfl ?_
      refine X_ildn1 25 dX4_hand_24 rfl rfl ?_
      refine X_callS3 28 dX4_hand_25 cw_X4_143 zk_X4_handIn rfl rfl (S_X4_handIn hv ?_)
      refine X_pu ?_
      refine X_iret dX4_hand_28 rfl ?_
      refine Qi h ?_
      (try simp only [i_nlt, i_nle] at *)
      grind [f_hand]
    · refine X_bipush (-3) 12 dX4_hand_10 (by decide) rfl ?_
      refine X_iret dX4_hand_12 rfl ?_
      refine Qi h ?_
      (try simp only [i_nlt, i_nle] at *)
      grind [f_hand]
end GT1

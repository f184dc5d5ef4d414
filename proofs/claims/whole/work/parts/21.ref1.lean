/-! the reference: its short methods -/
def isN (s : Nat) : Prop := s = 41 ∨ s = 42
theorem ar_N {s : Nat} (h : isN s) : xg_ar s 0 (sh_n s) = true := by rcases h with rfl | rfl <;> rfl
theorem sn_N {s : Nat} (h : isN s) : sh_n s = 12 := by rcases h with rfl | rfl <;> rfl
theorem i40 (t : Nat) : (4 : Int32) * nI t = nI (4 * t) := pk_mul 4 t
theorem i41 (t : Nat) : (4 : Int32) * nI t + 1 = nI (4 * t + 1) := by rw [i40, nI_1]
theorem i42 (t : Nat) : (4 : Int32) * nI t + 2 = nI (4 * t + 2) := by rw [i40]; exact nI_add _ 2
theorem i43 (t : Nat) : (4 : Int32) * nI t + 3 = nI (4 * t + 3) := by rw [i40]; exact nI_add _ 3
theorem and1 (x : Int32) : x &&& 1 = 0 ∨ x &&& 1 = 1 := by
  obtain ⟨j, hj, e⟩ := pk_andE x (m := 1) 1 (by decide)
  rw [e]
  rcases (by omega : j = 0 ∨ j = 1) with rfl | rfl
  · exact Or.inl rfl
  · exact Or.inr rfl
theorem hb_and (b p : Int32) : (b >>> (p &&& 31)) &&& 1 = b2i (hb b p) := by
  unfold hb b2i
  rcases and1 (b >>> (p &&& 31)) with h | h <;> rw [h] <;> decide
def inB (v a b : Int32) : Bool := decide (a ≤ v) && decide (v ≤ b)
def nM (σ : xm_M) : Nat := (σ.1 36 0).toNatClampNeg
def vXm (σ : xm_M) : Prop := σ.1 36 0 = nI (nM σ) ∧ nM σ ≤ 8
def wM (σ : xm_M) (s i : Nat) : Int32 := if hb (σ.1 s 8) (nI i) then 0 else if σ.1 s i ≤ 0 then σ.1 37 (4 * i + 1) else 3 * σ.1 37 (4 * i + 1)
def ldM (σ : xm_M) (s : Nat) (f : Int32) (n : Nat) : Int32 := sumI n (fun i => if σ.1 37 (4 * i + 3) = f then wM σ s i else 0)
def thM (σ : xm_M) (s i : Nat) : Bool := !hb (σ.1 s 8) (nI i) && !hb (σ.1 s 9) (σ.1 37 (4 * i + 3))
def prM (σ : xm_M) (s i : Nat) : Int32 := if thM σ s i = false then 0 else if σ.1 s i ≤ 0 then σ.1 37 (4 * i + 2) else 3 * σ.1 37 (4 * i + 1)
def isTm (σ : xm_M) (x : Int32) : Bool := inB x 0 (σ.1 36 0 - 1)
def agoR (bt m : Int32) : Nat → Int32
  | 0 => 99
  | b + 1 => if hb bt (nI b) = true ∧ nI b < m then m - nI b else agoR bt m b
def hbM (σ : xm_M) (n : Int32) : Int32 := if n ≤ σ.1 36 3 then 0 else if n ≤ σ.1 36 3 + σ.1 36 4 then 1 else 2
def hM (σ : xm_M) (bt m : Int32) : Int32 := hbM σ (agoR bt m 24)
def bitM (x : Int32) : Nat → Int32
  | 0 => 0
  | k + 1 => bitM x k + ((x >>> (nI k &&& 31)) &&& 1)
def tkMm (σ : xm_M) : Nat := (σ.1 36 26).toNatClampNeg
def vTk (σ : xm_M) : Prop := σ.1 36 26 = nI (tkMm σ) ∧ tkMm σ ≤ 4
def isK (σ : xm_M) (x : Int32) : Nat → Bool
  | 0 => false
  | k + 1 => isK σ x k || decide (σ.1 47 k = x)
/-- a copy of twelve -/
def cpM (σ : xm_M) (a f b t n : Nat) : xm_M := (fun c j => if c = b ∧ t ≤ j ∧ j < t + n then σ.1 a (f + (j - t)) else σ.1 c j, σ.2)
section REF1
variable {d : Nat} {σ : xm_M} {Q : Option Value → xm_M → Prop}
theorem S_X5_in {v a b : Int32} (h : Q (some (.int (b2i (inB v a b)))) σ) : xg_C d mX5_in [.int v, .int a, .int b] σ Q := by
  refine xg_C_of py_X5_in (Nat.le_of_ble_eq_true rfl) ?_
  show xg_X none d mX5_in 0 [(0, .int v), (1, .int a), (2, .int b)] [] σ Q
  refine X_ildn0 1 dX5_in_0 rfl rfl ?_
  refine X_ildn1 2 dX5_in_1 rfl rfl ?_
  refine X_iclt 14 5 dX5_in_2 (by decide) rfl (fun c2 => ?_) (fun c2 => ?_)
  · refine X_iconst 0 15 dX5_in_14 (by decide) rfl ?_
    refine X_zret dX5_in_15 rfl (by first | exact Or.inl rfl | exact Or.inr rfl) ?_
    refine Qi h ?_
    (try simp only [i_nlt, i_nle] at *)
    grind [inB, b2i]
  · refine X_ildn0 6 dX5_in_5 rfl rfl ?_
    refine X_ildn2 7 dX5_in_6 rfl rfl ?_
    refine X_icgt 14 10 dX5_in_7 (by decide) rfl (fun c7 => ?_) (fun c7 => ?_)
    · refine X_iconst 0 15 dX5_in_14 (by decide) rfl ?_
      refine X_zret dX5_in_15 rfl (by first | exact Or.inl rfl | exact Or.inr rfl) ?_
      refine Qi h ?_
      (try simp only [i_nlt, i_nle] at *)
      grind [inB, b2i]
    · refine X_iconst 1 11 dX5_in_10 (by decide) rfl ?_
      refine X_goto 15 dX5_in_11 (by decide) ?_
      refine X_zret dX5_in_15 rfl (by first | exact Or.inl rfl | exact Or.inr rfl) ?_
      refine Qi h ?_
      (try simp only [i_nlt, i_nle] at *)
      grind [inB, b2i]
theorem S_X5_has {a b : Int32} (h : Q (some (.int (b2i (hb a b)))) σ) : xg_C d mX5_has [.int a, .int b] σ Q := by
  refine xg_C_of py_X5_has (Nat.le_of_ble_eq_true rfl) ?_
  show xg_X none d mX5_has 0 [(0, .int a), (1, .int b)] [] σ Q
  refine X_ildn0 1 dX5_has_0 rfl rfl ?_
  refine X_ildn1 2 dX5_has_1 rfl rfl ?_
  refine X_ishr 3 dX5_has_2 rfl ?_
  refine X_iconst 1 4 dX5_has_3 (by decide) rfl ?_
  refine X_iand 5 dX5_has_4 rfl ?_
  refine X_iconst 1 6 dX5_has_5 (by decide) rfl ?_
  rw [hb_and]
  refine X_icne 13 9 dX5_has_6 (by decide) rfl (fun c6 => ?_) (fun c6 => ?_)
  · refine X_iconst 0 14 dX5_has_13 (by decide) rfl ?_
    refine X_zret dX5_has_14 rfl (by first | exact Or.inl rfl | exact Or.inr rfl) ?_
    refine Qi h ?_
    grind [b2i]
  · refine X_iconst 1 10 dX5_has_9 (by decide) rfl ?_
    refine X_goto 14 dX5_has_10 (by decide) ?_
    refine X_zret dX5_has_14 rfl (by first | exact Or.inl rfl | exact Or.inr rfl) ?_
    refine Qi h ?_
    grind [b2i]
theorem S_X5_bits {x : Int32} (h : Q (some (.int (bitM x 24))) σ) : xg_C d mX5_bits [.int x] σ Q := by
  refine xg_C_of py_X5_bits (Nat.le_of_ble_eq_true rfl) ?_
  show xg_X none d mX5_bits 0 [(0, .int x)] [] σ Q
  have loop : ∀ k i, i + k = 24 → xg_X none d mX5_bits 4 [(2, .int (nI i)), (1, .int (bitM x i)), (0, .int x)] [] σ Q := by
    intro k
    induction k with
    | zero =>
      intro i h2
      obtain rfl : i = 24 := by omega
      refine X_ildn0 5 dX5_bits_4 rfl rfl ?_
      refine X_bipush 24 7 dX5_bits_5 (by decide) rfl ?_
      refine X_icge 24 10 dX5_bits_7 (by decide) rfl (fun c7 => ?_) (fun c7 => ?_)
      · refine X_ildn1 25 dX5_bits_24 rfl rfl ?_
        refine X_iret dX5_bits_25 rfl ?_
        exact h
      · exact absurd (by decide) c7
    | succ k ih =>
      intro i h2
      refine X_ildn0 5 dX5_bits_4 rfl rfl ?_
      refine X_bipush 24 7 dX5_bits_5 (by decide) rfl ?_
      refine X_icge 24 10 dX5_bits_7 (by decide) rfl (fun c7 => ?_) (fun c7 => ?_)
      · have c7 := leq c7 (n := 24) (by decide) (by decide) (by omega)
        omega
      · refine X_ildn1 11 dX5_bits_10 rfl rfl ?_
        refine X_ildn2 12 dX5_bits_11 rfl rfl ?_
        refine X_ildn0 13 dX5_bits_12 rfl rfl ?_
        refine X_ishr 14 dX5_bits_13 rfl ?_
        refine X_iconst 1 15 dX5_bits_14 (by decide) rfl ?_
        refine X_iand 16 dX5_bits_15 rfl ?_
        refine X_iadd 17 dX5_bits_16 rfl ?_
        refine X_istn1 18 dX5_bits_17 rfl rfl rfl rfl ?_
        refine X_inc0 1 21 dX5_bits_18 (by decide) rfl rfl rfl ?_
        refine X_goto 4 dX5_bits_21 (by decide) ?_
        exact xg_lv (by rw [nI_succ, bitM]) (ih (i + 1) (by omega))
  refine X_iconst 0 1 dX5_bits_0 (by decide) rfl ?_
  refine X_istnN 2 dX5_bits_1 rfl rfl rfl rfl ?_
  refine X_iconst 0 3 dX5_bits_2 (by decide) rfl ?_
  refine X_istnN 4 dX5_bits_3 rfl rfl rfl rfl ?_
  exact loop 24 0 rfl
def plnM (σ : xm_M) : xm_M := xm_set (xm_set (xm_set (xm_set (xm_set (xm_set (xm_set σ 36 0 0) 38 0 99) 38 1 99) 38 2 99) 36 3 3) 36 4 2) 36 5 12
theorem S_X5_plain (h : Q none (plnM σ)) : xg_C d mX5_plain [.ref 36] σ Q := by
  refine xg_C_of py_X5_plain (Nat.le_of_ble_eq_true rfl) ?_
  show xg_X none d mX5_plain 0 [(0, .ref 36)] [] σ Q
  refine X_aldn0 1 dX5_plain_0 rfl rfl ?_
  refine X_iconst 0 2 dX5_plain_1 (by decide) rfl ?_
  refine X_putI 5 dX5_plain_2 fp_X5_72 rfl rfl ?_
  refine X_aldn0 6 dX5_plain_5 rfl rfl ?_
  refine X_getA 38 9 dX5_plain_6 fl_X5_13 rfl rfl ?_
  refine X_iconst 0 10 dX5_plain_9 (by decide) rfl ?_
  refine X_bipush 99 12 dX5_plain_10 (by decide) rfl ?_
  refine X_iask 0 13 dX5_plain_12 rfl rfl (by decide) (by decide) ?_
  refine X_aldn0 14 dX5_plain_13 rfl rfl ?_
  refine X_getA 38 17 dX5_plain_14 fl_X5_13 rfl rfl ?_
  refine X_iconst 1 18 dX5_plain_17 (by decide) rfl ?_
  refine X_bipush 99 20 dX5_plain_18 (by decide) rfl ?_
  refine X_iask 1 21 dX5_plain_20 rfl rfl (by decide) (by decide) ?_
  refine X_aldn0 22 dX5_plain_21 rfl rfl ?_
  refine X_getA 38 25 dX5_plain_22 fl_X5_13 rfl rfl ?_
  refine X_iconst 2 26 dX5_plain_25 (by decide) rfl ?_
  refine X_bipush 99 28 dX5_plain_26 (by decide) rfl ?_
  refine X_iask 2 29 dX5_plain_28 rfl rfl (by decide) (by decide) ?_
  refine X_aldn0 30 dX5_plain_29 rfl rfl ?_
  refine X_iconst 3 31 dX5_plain_30 (by decide) rfl ?_
  refine X_putI 34 dX5_plain_31 fp_X5_16 rfl rfl ?_
  refine X_aldn0 35 dX5_plain_34 rfl rfl ?_
  refine X_iconst 2 36 dX5_plain_35 (by decide) rfl ?_
  refine X_putI 39 dX5_plain_36 fp_X5_20 rfl rfl ?_
  refine X_aldn0 40 dX5_plain_39 rfl rfl ?_
  refine X_bipush 12 42 dX5_plain_40 (by decide) rfl ?_
  refine X_putI 45 dX5_plain_42 fp_X5_23 rfl rfl ?_
  refine X_vret dX5_plain_45 rfl ?_
  exact h
def z12 (σ : xm_M) (n : Nat) : xm_M := (fun c k => if c = 41 ∧ k < n then 0 else σ.1 c k, σ.2)
def begM (σ : xm_M) : xm_M := xm_set (xm_set (xm_set (xm_set (xm_set (xm_set (z12 σ 12) 44 0 0) 44 1 0) 36 22 0) 36 24 0) 36 26 0) 36 28 0
theorem S_X5_begin (h : Q none (begM σ)) : xg_C d mX5_begin [.ref 36] σ Q := by
  refine xg_C_of py_X5_begin (Nat.le_of_ble_eq_true rfl) ?_
  show xg_X none d mX5_begin 0 [(0, .ref 36)] [] σ Q
  have loop : ∀ k i, i + k = 12 → xg_X none d mX5_begin 2 [(1, .int (nI i)), (0, .ref 36)] [] (z12 σ i) Q := by
    intro k
    induction k with
    | zero =>
      intro i h2
      obtain rfl : i = 12 := by omega
      refine X_ildn0 3 dX5_begin_2 rfl rfl ?_
      refine X_bipush 12 5 dX5_begin_3 (by decide) rfl ?_
      refine X_icge 21 8 dX5_begin_5 (by decide) rfl (fun c5 => ?_) (fun c5 => ?_)
      · refine X_aldn1 22 dX5_begin_21 rfl rfl ?_
        refine X_getA 44 25 dX5_begin_22 fl_X5_41 rfl rfl ?_
        refine X_iconst 0 26 dX5_begin_25 (by decide) rfl ?_
        refine X_iconst 0 27 dX5_begin_26 (by decide) rfl ?_
        refine X_zask 0 28 dX5_begin_27 rfl rfl rfl (by decide) (by decide) ?_
        refine X_aldn1 29 dX5_begin_28 rfl rfl ?_
        refine X_getA 44 32 dX5_begin_29 fl_X5_41 rfl rfl ?_
        refine X_iconst 1 33 dX5_begin_32 (by decide) rfl ?_
        refine X_iconst 0 34 dX5_begin_33 (by decide) rfl ?_
        refine X_zask 1 35 dX5_begin_34 rfl rfl rfl (by decide) (by decide) ?_
        refine X_aldn1 36 dX5_begin_35 rfl rfl ?_
        refine X_iconst 0 37 dX5_begin_36 (by decide) rfl ?_
        refine X_putI 40 dX5_begin_37 fp_X5_75 rfl rfl ?_
        refine X_aldn1 41 dX5_begin_40 rfl rfl ?_
        refine X_iconst 0 42 dX5_begin_41 (by decide) rfl ?_
        refine X_putI 45 dX5_begin_42 fp_X5_78 rfl rfl ?_
        refine X_aldn1 46 dX5_begin_45 rfl rfl ?_
        refine X_iconst 0 47 dX5_begin_46 (by decide) rfl ?_
        refine X_putI 50 dX5_begin_47 fp_X5_81 rfl rfl ?_
        refine X_aldn1 51 dX5_begin_50 rfl rfl ?_
        refine X_iconst 0 52 dX5_begin_51 (by decide) rfl ?_
        refine X_putI 55 dX5_begin_52 fp_X5_84 rfl rfl ?_
        refine X_vret dX5_begin_55 rfl ?_
        exact h
      · exact absurd (by decide) c5
    | succ k ih =>
      intro i h2
      refine X_ildn0 3 dX5_begin_2 rfl rfl ?_
      refine X_bipush 12 5 dX5_begin_3 (by decide) rfl ?_
      refine X_icge 21 8 dX5_begin_5 (by decide) rfl (fun c5 => ?_) (fun c5 => ?_)
      · have c5 := leq c5 (n := 12) (by decide) (by decide) (by omega)
        omega
      · refine X_aldn1 9 dX5_begin_8 rfl rfl ?_
        refine X_getA 41 12 dX5_begin_9 fl_X5_32 rfl rfl ?_
        refine X_ildn0 13 dX5_begin_12 rfl rfl ?_
        refine X_iconst 0 14 dX5_begin_13 (by decide) rfl ?_
        refine X_iask i 15 dX5_begin_14 rfl rfl rfl (show i < 12 by omega) ?_
        refine X_inc0 1 18 dX5_begin_15 (by decide) rfl rfl rfl ?_
        refine X_goto 2 dX5_begin_18 (by decide) ?_
        refine xg_lv (by rw [nI_succ]) (xg_mm ?_ (ih (i + 1) (by omega)))
        apply Prod.ext
        · funext c z
          simp only [z12, xm_set]
          grind
        · rfl
  refine X_iconst 0 1 dX5_begin_0 (by decide) rfl ?_
  refine X_istnN 2 dX5_begin_1 rfl rfl rfl rfl ?_
  refine xg_mm ?_ (loop 12 0 rfl)
  apply Prod.ext
  · funext c z
    exact if_neg (fun e => by omega)
  · rfl
theorem S_X5_kindOf {t : Nat} (ht : t < 8) (h : Q (some (.int (σ.1 37 (4 * t)))) σ) : xg_C d mX5_kindOf [.ref 36, .int (nI t)] σ Q := by
  refine xg_C_of py_X5_kindOf (Nat.le_of_ble_eq_true rfl) ?_
  show xg_X none d mX5_kindOf 0 [(0, .ref 36), (1, .int (nI t))] [] σ Q
  refine X_aldn0 1 dX5_kindOf_0 rfl rfl ?_
  refine X_getA 37 4 dX5_kindOf_1 fl_X5_7 rfl rfl ?_
  refine X_iconst 4 5 dX5_kindOf_4 (by decide) rfl ?_
  refine X_ildn1 6 dX5_kindOf_5 rfl rfl ?_
  refine X_imul 7 dX5_kindOf_6 rfl ?_
  refine X_ialk (4 * t) 8 dX5_kindOf_7 rfl rfl (i40 t) (show 4 * t < 32 by omega) ?_
  refine X_iret dX5_kindOf_8 rfl ?_
  exact h
theorem S_X5_floorOf {t : Nat} (ht : t < 8) (h : Q (some (.int (σ.1 37 (4 * t + 3)))) σ) : xg_C d mX5_floorOf [.ref 36, .int (nI t)] σ Q := by
  refine xg_C_of py_X5_floorOf (Nat.le_of_ble_eq_true rfl) ?_
  show xg_X none d mX5_floorOf 0 [(0, .ref 36), (1, .int (nI t))] [] σ Q
  refine X_aldn0 1 dX5_floorOf_0 rfl rfl ?_
  refine X_getA 37 4 dX5_floorOf_1 fl_X5_7 rfl rfl ?_
  refine X_iconst 4 5 dX5_floorOf_4 (by decide) rfl ?_
  refine X_ildn1 6 dX5_floorOf_5 rfl rfl ?_
  refine X_imul 7 dX5_floorOf_6 rfl ?_
  refine X_iconst 3 8 dX5_floorOf_7 (by decide) rfl ?_
  refine X_iadd 9 dX5_floorOf_8 rfl ?_
  refine X_ialk (4 * t + 3) 10 dX5_floorOf_9 rfl rfl (i43 t) (show 4 * t + 3 < 32 by omega) ?_
  refine X_iret dX5_floorOf_10 rfl ?_
  exact h
theorem S_X5_isThing {x : Int32} (h : Q (some (.int (b2i (isTm σ x)))) σ) : xg_C (d + 1) mX5_isThing [.ref 36, .int x] σ Q := by
  refine xg_C_of py_X5_isThing (Nat.le_of_ble_eq_true rfl) ?_
  show xg_X none (d + 1) mX5_isThing 0 [(0, .ref 36), (1, .int x)] [] σ Q
  refine X_ildn1 1 dX5_isThing_0 rfl rfl ?_
  refine X_iconst 0 2 dX5_isThing_1 (by decide) rfl ?_
  refine X_aldn0 3 dX5_isThing_2 rfl rfl ?_
  refine X_getI 6 dX5_isThing_3 fl_X5_72 rfl rfl ?_
  refine X_iconst 1 7 dX5_isThing_6 (by decide) rfl ?_
  refine X_isub 8 dX5_isThing_7 rfl ?_
  refine X_callS3 11 dX5_isThing_8 cw_X5_87 zk_X5_in rfl rfl (S_X5_in ?_)
  refine X_pu ?_
  refine X_zret dX5_isThing_11 rfl (b2i_01 _) ?_
  exact h
theorem S_X5_weighs {s t : Nat} (hs : isN s) (ht : t < 8) (h : Q (some (.int (wM σ s t))) σ) : xg_C (d + 1) mX5_weighs [.ref 36, .ref s, .int (nI t)] σ Q := by
  refine xg_C_of py_X5_weighs (Nat.le_of_ble_eq_true rfl) ?_
  show xg_X none (d + 1) mX5_weighs 0 [(0, .ref 36), (1, .ref s), (2, .int (nI t))] [] σ Q
  refine X_aldn1 1 dX5_weighs_0 rfl rfl ?_
  refine X_bipush 8 3 dX5_weighs_1 (by decide) rfl ?_
  refine X_ialk 8 4 dX5_weighs_3 (ar_N hs) rfl (by decide) (by rw [sn_N hs]; decide) ?_
  refine X_ildn2 5 dX5_weighs_4 rfl rfl ?_
  refine X_callS2 8 dX5_weighs_5 cw_X5_177 zk_X5_has rfl rfl (S_X5_has ?_)
  refine X_pu ?_
  refine X_ifeq 15 11 dX5_weighs_8 (by decide) rfl (fun c8 => ?_) (fun c8 => ?_)
  · refine X_aldn1 16 dX5_weighs_15 rfl rfl ?_
    refine X_ildn2 17 dX5_weighs_16 rfl rfl ?_
    refine X_ialk t 18 dX5_weighs_17 (ar_N hs) rfl rfl (by rw [sn_N hs]; omega) ?_
    refine X_ifle 36 21 dX5_weighs_18 (by decide) rfl (fun c18 => ?_) (fun c18 => ?_)
    · refine X_aldn0 37 dX5_weighs_36 rfl rfl ?_
      refine X_getA 37 40 dX5_weighs_37 fl_X5_7 rfl rfl ?_
      refine X_iconst 4 41 dX5_weighs_40 (by decide) rfl ?_
      refine X_ildn2 42 dX5_weighs_41 rfl rfl ?_
      refine X_imul 43 dX5_weighs_42 rfl ?_
      refine X_iconst 1 44 dX5_weighs_43 (by decide) rfl ?_
      refine X_iadd 45 dX5_weighs_44 rfl ?_
      refine X_ialk (4 * t + 1) 46 dX5_weighs_45 rfl rfl (i41 t) (show 4 * t + 1 < 32 by omega) ?_
      refine X_iret dX5_weighs_46 rfl ?_
      refine Qi h ?_
      grind [wM, b2i]
    · refine X_iconst 3 22 dX5_weighs_21 (by decide) rfl ?_
      refine X_aldn0 23 dX5_weighs_22 rfl rfl ?_
      refine X_getA 37 26 dX5_weighs_23 fl_X5_7 rfl rfl ?_
      refine X_iconst 4 27 dX5_weighs_26 (by decide) rfl ?_
      refine X_ildn2 28 dX5_weighs_27 rfl rfl ?_
      refine X_imul 29 dX5_weighs_28 rfl ?_
      refine X_iconst 1 30 dX5_weighs_29 (by decide) rfl ?_
      refine X_iadd 31 dX5_weighs_30 rfl ?_
      refine X_ialk (4 * t + 1) 32 dX5_weighs_31 rfl rfl (i41 t) (show 4 * t + 1 < 32 by omega) ?_
      refine X_imul 33 dX5_weighs_32 rfl ?_
      refine X_goto 46 dX5_weighs_33 (by decide) ?_
      refine X_iret dX5_weighs_46 rfl ?_
      refine Qi h ?_
      grind [wM, b2i]
  · refine X_iconst 0 12 dX5_weighs_11 (by decide) rfl ?_
    refine X_goto 46 dX5_weighs_12 (by decide) ?_
    refine X_iret dX5_weighs_46 rfl ?_
    refine Qi h ?_
    grind [wM, b2i]
theorem S_X5_loadOf {s : Nat} {f : Int32} (hs : isN s) (hv : vXm σ) (h : Q (some (.int (ldM σ s f (nM σ)))) σ) : xg_C (d + 2) mX5_loadOf [.ref 36, .ref s, .int f] σ Q := by
  refine xg_C_of py_X5_loadOf (Nat.le_of_ble_eq_true rfl) ?_
  show xg_X none (d + 2) mX5_loadOf 0 [(0, .ref 36), (1, .ref s), (2, .int f)] [] σ Q
  obtain ⟨hn, hn8⟩ := hv
  have loop : ∀ k i, i + k = nM σ → xg_X none (d + 2) mX5_loadOf 5 [(4, .int (nI i)), (3, .int (ldM σ s f i)), (0, .ref 36), (1, .ref s), (2, .int f)] [] σ Q := by
    intro k
    induction k with
    | zero =>
      intro i h2
      obtain rfl : i = nM σ := by omega
      refine X_ild0 7 dX5_loadOf_5 rfl ?_
      refine X_aldn2 8 dX5_loadOf_7 rfl rfl ?_
      refine X_getI 11 dX5_loadOf_8 fl_X5_72 rfl rfl ?_
      refine X_icge 44 14 dX5_loadOf_11 (by decide) rfl (fun c11 => ?_) (fun c11 => ?_)
      · refine X_ildn1 45 dX5_loadOf_44 rfl rfl ?_
        refine X_iret dX5_loadOf_45 rfl ?_
        exact h
      · exact absurd (by rw [hn]; exact nI_le (Nat.le_refl _) (by omega)) c11
    | succ k ih =>
      intro i h2
      refine X_ild0 7 dX5_loadOf_5 rfl ?_
      refine X_aldn2 8 dX5_loadOf_7 rfl rfl ?_
      refine X_getI 11 dX5_loadOf_8 fl_X5_72 rfl rfl ?_
      refine X_icge 44 14 dX5_loadOf_11 (by decide) rfl (fun c11 => ?_) (fun c11 => ?_)
      · have c11 := leq c11 hn (by omega) (by omega)
        omega
      · refine X_ildn1 15 dX5_loadOf_14 rfl rfl ?_
        refine X_aldn2 16 dX5_loadOf_15 rfl rfl ?_
        refine X_ild0 18 dX5_loadOf_16 rfl ?_
        refine X_callV1 5 21 dX5_loadOf_18 cw_X5_181 zk_X5_floorOf ⟨rfl, rfl⟩ rfl rfl rfl (S_X5_floorOf (by omega) ?_)
        refine X_pu ?_
        refine X_ildn4 22 dX5_loadOf_21 rfl rfl ?_
        refine X_icne 35 25 dX5_loadOf_22 (by decide) rfl (fun c22 => ?_) (fun c22 => ?_)
        · refine X_iconst 0 36 dX5_loadOf_35 (by decide) rfl ?_
          refine X_iadd 37 dX5_loadOf_36 rfl ?_
          refine X_istn1 38 dX5_loadOf_37 rfl rfl rfl rfl ?_
          refine X_inc0 1 41 dX5_loadOf_38 (by decide) rfl rfl rfl ?_
          refine X_goto 5 dX5_loadOf_41 (by decide) ?_
          refine xg_lv ?_ (ih (i + 1) (by omega))
          rw [nI_succ, ldM, sumI, if_neg c22]
          rfl
        · refine X_aldn2 26 dX5_loadOf_25 rfl rfl ?_
          refine X_aldn3 27 dX5_loadOf_26 rfl rfl ?_
          refine X_ild0 29 dX5_loadOf_27 rfl ?_
          refine X_callV2 5 32 dX5_loadOf_29 cw_X5_185 zk_X5_weighs ⟨rfl, rfl⟩ rfl rfl rfl (S_X5_weighs hs (by omega) ?_)
          refine X_pu ?_
          refine X_goto 36 dX5_loadOf_32 (by decide) ?_
          refine X_iadd 37 dX5_loadOf_36 rfl ?_
          refine X_istn1 38 dX5_loadOf_37 rfl rfl rfl rfl ?_
          refine X_inc0 1 41 dX5_loadOf_38 (by decide) rfl rfl rfl ?_
          refine X_goto 5 dX5_loadOf_41 (by decide) ?_
          refine xg_lv ?_ (ih (i + 1) (by omega))
          rw [nI_succ, ldM, sumI, if_pos c22]
          rfl
  refine X_iconst 0 1 dX5_loadOf_0 (by decide) rfl ?_
  refine X_istnN 2 dX5_loadOf_1 rfl rfl rfl rfl ?_
  refine X_iconst 0 3 dX5_loadOf_2 (by decide) rfl ?_
  refine X_istN 5 dX5_loadOf_3 rfl rfl rfl ?_
  exact loop (nM σ) 0 (by omega)
theorem S_X5_isThere {s t : Nat} (hs : isN s) (ht : t < 8) (h : Q (some (.int (b2i (thM σ s t)))) σ) : xg_C (d + 1) mX5_isThere [.ref 36, .ref s, .int (nI t)] σ Q := by
  refine xg_C_of py_X5_isThere (Nat.le_of_ble_eq_true rfl) ?_
  show xg_X none (d + 1) mX5_isThere 0 [(0, .ref 36), (1, .ref s), (2, .int (nI t))] [] σ Q
  refine X_aldn1 1 dX5_isThere_0 rfl rfl ?_
  refine X_bipush 8 3 dX5_isThere_1 (by decide) rfl ?_
  refine X_ialk 8 4 dX5_isThere_3 (ar_N hs) rfl (by decide) (by rw [sn_N hs]; decide) ?_
  refine X_ildn2 5 dX5_isThere_4 rfl rfl ?_
  refine X_callS2 8 dX5_isThere_5 cw_X5_177 zk_X5_has rfl rfl (S_X5_has ?_)
  refine X_pu ?_
  refine X_ifne 30 11 dX5_isThere_8 (by decide) rfl (fun c8 => ?_) (fun c8 => ?_)
  · refine X_iconst 0 31 dX5_isThere_30 (by decide) rfl ?_
    refine X_zret dX5_isThere_31 rfl (by first | exact Or.inl rfl | exact Or.inr rfl) ?_
    refine Qi h ?_
    grind [thM, b2i]
  · refine X_aldn1 12 dX5_isThere_11 rfl rfl ?_
    refine X_bipush 9 14 dX5_isThere_12 (by decide) rfl ?_
    refine X_ialk 9 15 dX5_isThere_14 (ar_N hs) rfl (by decide) (by rw [sn_N hs]; decide) ?_
    refine X_aldn0 16 dX5_isThere_15 rfl rfl ?_
    refine X_ildn2 17 dX5_isThere_16 rfl rfl ?_
    refine X_callV1 5 20 dX5_isThere_17 cw_X5_181 zk_X5_floorOf ⟨rfl, rfl⟩ rfl rfl rfl (S_X5_floorOf ht ?_)
    refine X_pu ?_
    refine X_callS2 23 dX5_isThere_20 cw_X5_177 zk_X5_has rfl rfl (S_X5_has ?_)
    refine X_pu ?_
    refine X_ifne 30 26 dX5_isThere_23 (by decide) rfl (fun c23 => ?_) (fun c23 => ?_)
    · refine X_iconst 0 31 dX5_isThere_30 (by decide) rfl ?_
      refine X_zret dX5_isThere_31 rfl (by first | exact Or.inl rfl | exact Or.inr rfl) ?_
      refine Qi h ?_
      grind [thM, b2i]
    · refine X_iconst 1 27 dX5_isThere_26 (by decide) rfl ?_
      refine X_goto 31 dX5_isThere_27 (by decide) ?_
      refine X_zret dX5_isThere_31 rfl (by first | exact Or.inl rfl | exact Or.inr rfl) ?_
      refine Qi h ?_
      grind [thM, b2i]
theorem S_X5_priceOf {s t : Nat} (hs : isN s) (ht : t < 8) (h : Q (some (.int (prM σ s t))) σ) : xg_C (d + 2) mX5_priceOf [.ref 36, .ref s, .int (nI t)] σ Q := by
  refine xg_C_of py_X5_priceOf (Nat.le_of_ble_eq_true rfl) ?_
  show xg_X none (d + 2) mX5_priceOf 0 [(0, .ref 36), (1, .ref s), (2, .int (nI t))] [] σ Q
  refine X_aldn0 1 dX5_priceOf_0 rfl rfl ?_
  refine X_aldn1 2 dX5_priceOf_1 rfl rfl ?_
  refine X_ildn2 3 dX5_priceOf_2 rfl rfl ?_
  refine X_callV2 5 6 dX5_priceOf_3 cw_X5_189 zk_X5_isThere ⟨rfl, rfl⟩ rfl rfl rfl (S_X5_isThere hs ht ?_)
  refine X_pu ?_
  refine X_ifne 13 9 dX5_priceOf_6 (by decide) rfl (fun c6 => ?_) (fun c6 => ?_)
  · refine X_aldn1 14 dX5_priceOf_13 rfl rfl ?_
    refine X_ildn2 15 dX5_priceOf_14 rfl rfl ?_
    refine X_ialk t 16 dX5_priceOf_15 (ar_N hs) rfl rfl (by rw [sn_N hs]; omega) ?_
    refine X_ifle 34 19 dX5_priceOf_16 (by decide) rfl (fun c16 => ?_) (fun c16 => ?_)
    · refine X_aldn0 35 dX5_priceOf_34 rfl rfl ?_
      refine X_getA 37 38 dX5_priceOf_35 fl_X5_7 rfl rfl ?_
      refine X_iconst 4 39 dX5_priceOf_38 (by decide) rfl ?_
      refine X_ildn2 40 dX5_priceOf_39 rfl rfl ?_
      refine X_imul 41 dX5_priceOf_40 rfl ?_
      refine X_iconst 2 42 dX5_priceOf_41 (by decide) rfl ?_
      refine X_iadd 43 dX5_priceOf_42 rfl ?_
      refine X_ialk (4 * t + 2) 44 dX5_priceOf_43 rfl rfl (i42 t) (show 4 * t + 2 < 32 by omega) ?_
      refine X_iret dX5_priceOf_44 rfl ?_
      refine Qi h ?_
      grind [prM, b2i]
    · refine X_iconst 3 20 dX5_priceOf_19 (by decide) rfl ?_
      refine X_aldn0 21 dX5_priceOf_20 rfl rfl ?_
      refine X_getA 37 24 dX5_priceOf_21 fl_X5_7 rfl rfl ?_
      refine X_iconst 4 25 dX5_priceOf_24 (by decide) rfl ?_
      refine X_ildn2 26 dX5_priceOf_25 rfl rfl ?_
      refine X_imul 27 dX5_priceOf_26 rfl ?_
      refine X_iconst 1 28 dX5_priceOf_27 (by decide) rfl ?_
      refine X_iadd 29 dX5_priceOf_28 rfl ?_
      refine X_ialk (4 * t + 1) 30 dX5_priceOf_29 rfl rfl (i41 t) (show 4 * t + 1 < 32 by omega) ?_
      refine X_imul 31 dX5_priceOf_30 rfl ?_
      refine X_goto 44 dX5_priceOf_31 (by decide) ?_
      refine X_iret dX5_priceOf_44 rfl ?_
      refine Qi h ?_
      grind [prM, b2i]
  · refine X_iconst 0 10 dX5_priceOf_9 (by decide) rfl ?_
    refine X_goto 44 dX5_priceOf_10 (by decide) ?_
    refine X_iret dX5_priceOf_44 rfl ?_
    refine Qi h ?_
    grind [prM, b2i]
theorem S_X5_pricesOf {s : Nat} (hs : isN s) (hv : vXm σ) (h : Q (some (.int (sumI (nM σ) (prM σ s)))) σ) : xg_C (d + 3) mX5_pricesOf [.ref 36, .ref s] σ Q := by
  refine xg_C_of py_X5_pricesOf (Nat.le_of_ble_eq_true rfl) ?_
  show xg_X none (d + 3) mX5_pricesOf 0 [(0, .ref 36), (1, .ref s)] [] σ Q
  obtain ⟨hn, hn8⟩ := hv
  have loop : ∀ k i, i + k = nM σ → xg_X none (d + 3) mX5_pricesOf 4 [(3, .int (nI i)), (2, .int (sumI i (prM σ s))), (0, .ref 36), (1, .ref s)] [] σ Q := by
    intro k
    induction k with
    | zero =>
      intro i h2
      obtain rfl : i = nM σ := by omega
      refine X_ildn0 5 dX5_pricesOf_4 rfl rfl ?_
      refine X_aldn2 6 dX5_pricesOf_5 rfl rfl ?_
      refine X_getI 9 dX5_pricesOf_6 fl_X5_72 rfl rfl ?_
      refine X_icge 27 12 dX5_pricesOf_9 (by decide) rfl (fun c9 => ?_) (fun c9 => ?_)
      · refine X_ildn1 28 dX5_pricesOf_27 rfl rfl ?_
        refine X_iret dX5_pricesOf_28 rfl ?_
        exact h
      · exact absurd (by rw [hn]; exact nI_le (Nat.le_refl _) (by omega)) c9
    | succ k ih =>
      intro i h2
      refine X_ildn0 5 dX5_pricesOf_4 rfl rfl ?_
      refine X_aldn2 6 dX5_pricesOf_5 rfl rfl ?_
      refine X_getI 9 dX5_pricesOf_6 fl_X5_72 rfl rfl ?_
      refine X_icge 27 12 dX5_pricesOf_9 (by decide) rfl (fun c9 => ?_) (fun c9 => ?_)
      · have c9 := leq c9 hn (by omega) (by omega)
        omega
      · refine X_ildn1 13 dX5_pricesOf_12 rfl rfl ?_
        refine X_aldn2 14 dX5_pricesOf_13 rfl rfl ?_
        refine X_aldn3 15 dX5_pricesOf_14 rfl rfl ?_
        refine X_ildn0 16 dX5_pricesOf_15 rfl rfl ?_
        refine X_callV2 5 19 dX5_pricesOf_16 cw_X5_193 zk_X5_priceOf ⟨rfl, rfl⟩ rfl rfl rfl (S_X5_priceOf hs (by omega) ?_)
        refine X_pu ?_
        refine X_iadd 20 dX5_pricesOf_19 rfl ?_
        refine X_istn1 21 dX5_pricesOf_20 rfl rfl rfl rfl ?_
        refine X_inc0 1 24 dX5_pricesOf_21 (by decide) rfl rfl rfl ?_
        refine X_goto 4 dX5_pricesOf_24 (by decide) ?_
        exact xg_lv (by rw [nI_succ, sumI]) (ih (i + 1) (by omega))
  refine X_iconst 0 1 dX5_pricesOf_0 (by decide) rfl ?_
  refine X_istnN 2 dX5_pricesOf_1 rfl rfl rfl rfl ?_
  refine X_iconst 0 3 dX5_pricesOf_2 (by decide) rfl ?_
  refine X_istnN 4 dX5_pricesOf_3 rfl rfl rfl rfl ?_
  exact loop (nM σ) 0 (by omega)
theorem S_X5_isTask {x : Int32} (hv : vTk σ) (h : Q (some (.int (b2i (isK σ x (tkMm σ))))) σ) : xg_C d mX5_isTask [.ref 36, .int x] σ Q := by
  refine xg_C_of py_X5_isTask (Nat.le_of_ble_eq_true rfl) ?_
  show xg_X none d mX5_isTask 0 [(0, .ref 36), (1, .int x)] [] σ Q
  obtain ⟨hn, hn4⟩ := hv
  have loop : ∀ k i, i + k = tkMm σ → xg_X none d mX5_isTask 4 [(3, .int (nI i)), (2, .int (b2i (isK σ x i))), (0, .ref 36), (1, .int x)] [] σ Q := by
    intro k
    induction k with
    | zero =>
      intro i h2
      obtain rfl : i = tkMm σ := by omega
      refine X_ildn0 5 dX5_isTask_4 rfl rfl ?_
      refine X_aldn2 6 dX5_isTask_5 rfl rfl ?_
      refine X_getI 9 dX5_isTask_6 fl_X5_81 rfl rfl ?_
      refine X_icge 38 12 dX5_isTask_9 (by decide) rfl (fun c9 => ?_) (fun c9 => ?_)
      · refine X_ildn1 39 dX5_isTask_38 rfl rfl ?_
        refine X_zret dX5_isTask_39 rfl (b2i_01 _) ?_
        exact h
      · exact absurd (by rw [hn]; exact nI_le (Nat.le_refl _) (by omega)) c9
    | succ k ih =>
      intro i h2
      refine X_ildn0 5 dX5_isTask_4 rfl rfl ?_
      refine X_aldn2 6 dX5_isTask_5 rfl rfl ?_
      refine X_getI 9 dX5_isTask_6 fl_X5_81 rfl rfl ?_
      refine X_icge 38 12 dX5_isTask_9 (by decide) rfl (fun c9 => ?_) (fun c9 => ?_)
      · have c9 := leq c9 hn (by omega) (by omega)
        omega
      · refine X_ildn1 13 dX5_isTask_12 rfl rfl ?_
        refine X_ifne 26 16 dX5_isTask_13 (by decide) rfl (fun c13 => ?_) (fun c13 => ?_)
        · refine X_iconst 1 27 dX5_isTask_26 (by decide) rfl ?_
          refine X_goto 31 dX5_isTask_27 (by decide) ?_
          refine X_istn1 32 dX5_isTask_31 rfl rfl rfl rfl ?_
          refine X_inc0 1 35 dX5_isTask_32 (by decide) rfl rfl rfl ?_
          refine X_goto 4 dX5_isTask_35 (by decide) ?_
          refine xg_lv ?_ (ih (i + 1) (by omega))
          rw [nI_succ]
          grind [isK, b2i]
        · refine X_aldn2 17 dX5_isTask_16 rfl rfl ?_
          refine X_getA 47 20 dX5_isTask_17 fl_X5_51 rfl rfl ?_
          refine X_ildn0 21 dX5_isTask_20 rfl rfl ?_
          refine X_ialk i 22 dX5_isTask_21 rfl rfl rfl (show i < 4 by omega) ?_
          refine X_ildn3 23 dX5_isTask_22 rfl rfl ?_
          refine X_icne 30 26 dX5_isTask_23 (by decide) rfl (fun c23 => ?_) (fun c23 => ?_)
          · refine X_iconst 0 31 dX5_isTask_30 (by decide) rfl ?_
            refine X_istn1 32 dX5_isTask_31 rfl rfl rfl rfl ?_
            refine X_inc0 1 35 dX5_isTask_32 (by decide) rfl rfl rfl ?_
            refine X_goto 4 dX5_isTask_35 (by decide) ?_
            refine xg_lv ?_ (ih (i + 1) (by omega))
            rw [nI_succ]
            grind [isK, b2i]
          · refine X_iconst 1 27 dX5_isTask_26 (by decide) rfl ?_
            refine X_goto 31 dX5_isTask_27 (by decide) ?_
            refine X_istn1 32 dX5_isTask_31 rfl rfl rfl rfl ?_
            refine X_inc0 1 35 dX5_isTask_32 (by decide) rfl rfl rfl ?_
            refine X_goto 4 dX5_isTask_35 (by decide) ?_
            refine xg_lv ?_ (ih (i + 1) (by omega))
            rw [nI_succ]
            grind [isK, b2i]
  refine X_iconst 0 1 dX5_isTask_0 (by decide) rfl ?_
  refine X_istnN 2 dX5_isTask_1 rfl rfl rfl rfl ?_
  refine X_iconst 0 3 dX5_isTask_2 (by decide) rfl ?_
  refine X_istnN 4 dX5_isTask_3 rfl rfl rfl rfl ?_
  exact loop (tkMm σ) 0 (by omega)
theorem S_X5_handBehind {n : Int32} (h : Q (some (.int (hbM σ n))) σ) : xg_C d mX5_handBehind [.ref 36, .int n] σ Q := by
  refine xg_C_of py_X5_handBehind (Nat.le_of_ble_eq_true rfl) ?_
  show xg_X none d mX5_handBehind 0 [(0, .ref 36), (1, .int n)] [] σ Q
  refine X_ildn1 1 dX5_handBehind_0 rfl rfl ?_
  refine X_aldn0 2 dX5_handBehind_1 rfl rfl ?_
  refine X_getI 5 dX5_handBehind_2 fl_X5_16 rfl rfl ?_
  refine X_icgt 12 8 dX5_handBehind_5 (by decide) rfl (fun c5 => ?_) (fun c5 => ?_)
  · refine X_ildn1 13 dX5_handBehind_12 rfl rfl ?_
    refine X_aldn0 14 dX5_handBehind_13 rfl rfl ?_
    refine X_getI 17 dX5_handBehind_14 fl_X5_16 rfl rfl ?_
    refine X_aldn0 18 dX5_handBehind_17 rfl rfl ?_
    refine X_getI 21 dX5_handBehind_18 fl_X5_20 rfl rfl ?_
    refine X_iadd 22 dX5_handBehind_21 rfl ?_
    refine X_icgt 29 25 dX5_handBehind_22 (by decide) rfl (fun c22 => ?_) (fun c22 => ?_)
    · refine X_iconst 2 30 dX5_handBehind_29 (by decide) rfl ?_
      refine X_iret dX5_handBehind_30 rfl ?_
      refine Qi h ?_
      (try simp only [i_nlt, i_nle] at *)
      grind [hbM]
    · refine X_iconst 1 26 dX5_handBehind_25 (by decide) rfl ?_
      refine X_goto 30 dX5_handBehind_26 (by decide) ?_
      refine X_iret dX5_handBehind_30 rfl ?_
      refine Qi h ?_
      (try simp only [i_nlt, i_nle] at *)
      grind [hbM]
  · refine X_iconst 0 9 dX5_handBehind_8 (by decide) rfl ?_
    refine X_goto 30 dX5_handBehind_9 (by decide) ?_
    refine X_iret dX5_handBehind_30 rfl ?_
    refine Qi h ?_
    (try simp only [i_nlt, i_nle] at *)
    grind [hbM]
theorem S_X5_handIn {b m : Int32} (h : Q (some (.int (hM σ b m))) σ) : xg_C (d + 1) mX5_handIn [.ref 36, .int b, .int m] σ Q := by
  refine xg_C_of py_X5_handIn (Nat.le_of_ble_eq_true rfl) ?_
  show xg_X none (d + 1) mX5_handIn 0 [(0, .ref 36), (1, .int b), (2, .int m)] [] σ Q
  have loop : ∀ k i, i + k = 24 → xg_X none (d + 1) mX5_handIn 6 [(4, .int (nI i)), (3, .int (agoR b m i)), (0, .ref 36), (1, .int b), (2, .int m)] [] σ Q := by
    intro k
    induction k with
    | zero =>
      intro i h2
      obtain rfl : i = 24 := by omega
      refine X_ild0 8 dX5_handIn_6 rfl ?_
      refine X_bipush 24 10 dX5_handIn_8 (by decide) rfl ?_
      refine X_icge 43 13 dX5_handIn_10 (by decide) rfl (fun c10 => ?_) (fun c10 => ?_)
      · refine X_aldn2 44 dX5_handIn_43 rfl rfl ?_
        refine X_ildn1 45 dX5_handIn_44 rfl rfl ?_
        refine X_callV1 5 48 dX5_handIn_45 cw_X5_211 zk_X5_handBehind ⟨rfl, rfl⟩ rfl rfl rfl (S_X5_handBehind ?_)
        refine X_pu ?_
        refine X_iret dX5_handIn_48 rfl ?_
        exact h
      · exact absurd (by decide) c10
    | succ k ih =>
      intro i h2
      refine X_ild0 8 dX5_handIn_6 rfl ?_
      refine X_bipush 24 10 dX5_handIn_8 (by decide) rfl ?_
      refine X_icge 43 13 dX5_handIn_10 (by decide) rfl (fun c10 => ?_) (fun c10 => ?_)
      · have c10 := leq c10 (n := 24) (by decide) (by decide) (by omega)
        omega
      · refine X_ildn3 14 dX5_handIn_13 rfl rfl ?_
        refine X_ild0 16 dX5_handIn_14 rfl ?_
        refine X_callS2 19 dX5_handIn_16 cw_X5_177 zk_X5_has rfl rfl (S_X5_has ?_)
        refine X_pu ?_
        refine X_ifeq 35 22 dX5_handIn_19 (by decide) rfl (fun c19 => ?_) (fun c19 => ?_)
        · refine X_ildn1 36 dX5_handIn_35 rfl rfl ?_
          refine X_istn1 37 dX5_handIn_36 rfl rfl rfl rfl ?_
          refine X_inc0 1 40 dX5_handIn_37 (by decide) rfl rfl rfl ?_
          refine X_goto 6 dX5_handIn_40 (by decide) ?_
          refine xg_lv ?_ (ih (i + 1) (by omega))
          rw [nI_succ]
          (try simp only [i_nlt, i_nle] at *)
          grind [agoR, b2i]
        · refine X_ild0 24 dX5_handIn_22 rfl ?_
          refine X_ildn4 25 dX5_handIn_24 rfl rfl ?_
          refine X_icge 35 28 dX5_handIn_25 (by decide) rfl (fun c25 => ?_) (fun c25 => ?_)
          · refine X_ildn1 36 dX5_handIn_35 rfl rfl ?_
            refine X_istn1 37 dX5_handIn_36 rfl rfl rfl rfl ?_
            refine X_inc0 1 40 dX5_handIn_37 (by decide) rfl rfl rfl ?_
            refine X_goto 6 dX5_handIn_40 (by decide) ?_
            refine xg_lv ?_ (ih (i + 1) (by omega))
            rw [nI_succ]
            (try simp only [i_nlt, i_nle] at *)
            grind [agoR, b2i]
          · refine X_ildn4 29 dX5_handIn_28 rfl rfl ?_
            refine X_ild0 31 dX5_handIn_29 rfl ?_
            refine X_isub 32 dX5_handIn_31 rfl ?_
            refine X_goto 36 dX5_handIn_32 (by decide) ?_
            refine X_istn1 37 dX5_handIn_36 rfl rfl rfl rfl ?_
            refine X_inc0 1 40 dX5_handIn_37 (by decide) rfl rfl rfl ?_
            refine X_goto 6 dX5_handIn_40 (by decide) ?_
            refine xg_lv ?_ (ih (i + 1) (by omega))
            rw [nI_succ]
            (try simp only [i_nlt, i_nle] at *)
            grind [agoR, b2i]
  refine X_bipush 99 2 dX5_handIn_0 (by decide) rfl ?_
  refine X_istnN 3 dX5_handIn_2 rfl rfl rfl rfl ?_
  refine X_iconst 0 4 dX5_handIn_3 (by decide) rfl ?_
  refine X_istN 6 dX5_handIn_4 rfl rfl rfl ?_
  exact loop 24 0 rfl
theorem S_X5_copy {a f b t : Nat} (hab : a ≠ b) (ha : xg_ar a 0 (sh_n a) = true) (hb : xg_ar b 0 (sh_n b) = true) (hf : f + 12 ≤ sh_n a) (ht : t + 12 ≤ sh_n b) (h : Q none (cpM σ a f b t 12)) : xg_C d mX5_copy [.ref a, .int (nI f), .ref b, .int (nI t)] σ Q := by
  refine xg_C_of py_X5_copy (Nat.le_of_ble_eq_true rfl) ?_
  show xg_X none d mX5_copy 0 [(0, .ref a), (1, .int (nI f)), (2, .ref b), (3, .int (nI t))] [] σ Q
  have loop : ∀ k i, i + k = 12 → xg_X none d mX5_copy 3 [(4, .int (nI i)), (0, .ref a), (1, .int (nI f)), (2, .ref b), (3, .int (nI t))] [] (cpM σ a f b t i) Q := by
    intro k
    induction k with
    | zero =>
      intro i h2
      obtain rfl : i = 12 := by omega
      refine X_ild0 5 dX5_copy_3 rfl ?_
      refine X_bipush 12 7 dX5_copy_5 (by decide) rfl ?_
      refine X_icge 28 10 dX5_copy_7 (by decide) rfl (fun c7 => ?_) (fun c7 => ?_)
      · refine X_vret dX5_copy_28 rfl ?_
        exact h
      · exact absurd (by decide) c7
    | succ k ih =>
      intro i h2
      refine X_ild0 5 dX5_copy_3 rfl ?_
      refine X_bipush 12 7 dX5_copy_5 (by decide) rfl ?_
      refine X_icge 28 10 dX5_copy_7 (by decide) rfl (fun c7 => ?_) (fun c7 => ?_)
      · have c7 := leq c7 (n := 12) (by decide) (by decide) (by omega)
        omega
      · refine X_aldn3 11 dX5_copy_10 rfl rfl ?_
        refine X_ildn4 12 dX5_copy_11 rfl rfl ?_
        refine X_ild0 14 dX5_copy_12 rfl ?_
        refine X_iadd 15 dX5_copy_14 rfl ?_
        refine X_aldn1 16 dX5_copy_15 rfl rfl ?_
        refine X_ildn2 17 dX5_copy_16 rfl rfl ?_
        refine X_ild0 19 dX5_copy_17 rfl ?_
        refine X_iadd 20 dX5_copy_19 rfl ?_
        refine X_ialk (f + i) 21 dX5_copy_20 ha rfl (nI_add f i) (by omega) ?_
        refine X_iask (t + i) 22 dX5_copy_21 hb rfl (nI_add t i) (by omega) ?_
        refine X_inc0 1 25 dX5_copy_22 (by decide) rfl rfl rfl ?_
        refine X_goto 3 dX5_copy_25 (by decide) ?_
        refine xg_lv (by rw [nI_succ]) (xg_mm ?_ (ih (i + 1) (by omega)))
        apply Prod.ext
        · funext c j
          simp only [cpM, xm_set]
          by_cases e : c = b ∧ j = t + i
          · rw [if_pos e, if_pos ⟨e.1, by omega, by omega⟩, if_neg (fun q => hab q.1), show j - t = i by omega]
          · rw [if_neg e]
            by_cases e2 : c = b ∧ t ≤ j ∧ j < t + i
            · rw [if_pos e2, if_pos ⟨e2.1, e2.2.1, by omega⟩]
            · rw [if_neg e2, if_neg (fun q => by omega)]
        · rfl
  refine X_iconst 0 1 dX5_copy_0 (by decide) rfl ?_
  refine X_istN 3 dX5_copy_1 rfl rfl rfl ?_
  refine xg_mm ?_ (loop 12 0 rfl)
  apply Prod.ext
  · funext c j
    exact if_neg (fun e => by omega)
  · rfl
end REF1

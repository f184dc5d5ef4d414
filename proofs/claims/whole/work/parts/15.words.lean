/-! words, letters -/
def wlen (i : Nat) : Nat := xk_lens.getD i 0
def wch (i k : Nat) : Int32 := (xk_bytes.getD i []).getD k 0
theorem wch_ok : ∀ i, i < 11 → ∀ k, k < wlen i → (((wch i k &&& 255).toUInt32 % 65536).toInt32 = wch i k ∧ narrow .char (.int (wch i k)) = .int (wch i k) ∧ wlen i ≤ 5 ∧ 97 ≤ wch i k ∧ wch i k ≤ 122) := by decide +kernel
theorem wlen_le : ∀ i, i < 11 → 4 ≤ wlen i ∧ wlen i ≤ 5 := by decide +kernel
def smL (c : Int32) : Bool := decide (97 ≤ c) && decide (c ≤ 122)
def dgL (c : Int32) : Bool := decide (48 ≤ c) && decide (c ≤ 57)
def ltX (σ : xm_M) (x : Int32) : Int32 := if 0 ≤ x ∧ x < σ.1 13 1 ∧ x < 160 then σ.1 14 (ixN x) else -1
section WORDS
variable {d : Nat} {σ : xm_M} {Q : Option Value → xm_M → Prop}
theorem S_J0_coder_7d493 {i : Nat} (hi : i < 11) (h : Q (some (.int 0)) σ) : xg_C d mJ0_coder_7d493 [.ref (70 + i)] σ Q := by
  refine xg_C_of py_J0_coder_7d493 (Nat.le_of_ble_eq_true rfl) ?_
  show xg_X none d mJ0_coder_7d493 0 [(0, .ref (70 + i))] [] σ Q
  refine X_gsC 3 dJ0_coder_7d493_0 gs_J0_38 rfl ?_
  refine X_ifeq 13 6 dJ0_coder_7d493_3 (by decide) rfl (fun c3 => ?_) (fun c3 => ?_)
  · exact absurd c3 (by decide)
  · refine X_aldn0 7 dJ0_coder_7d493_6 rfl rfl ?_
    refine X_getC _ 10 dJ0_coder_7d493_7 hi fs_J0_15 rfl ?_
    refine X_goto 14 dJ0_coder_7d493_10 (by decide) ?_
    refine X_nret dJ0_coder_7d493_14 rfl (by decide) ?_
    exact h
theorem S_J0_isLatin1_aae02 {i : Nat} (hi : i < 11) (h : Q (some (.int 1)) σ) : xg_C d mJ0_isLatin1_aae02 [.ref (70 + i)] σ Q := by
  refine xg_C_of py_J0_isLatin1_aae02 (Nat.le_of_ble_eq_true rfl) ?_
  show xg_X none d mJ0_isLatin1_aae02 0 [(0, .ref (70 + i))] [] σ Q
  refine X_gsC 3 dJ0_isLatin1_aae02_0 gs_J0_38 rfl ?_
  refine X_ifeq 17 6 dJ0_isLatin1_aae02_3 (by decide) rfl (fun c3 => ?_) (fun c3 => ?_)
  · exact absurd c3 (by decide)
  · refine X_aldn0 7 dJ0_isLatin1_aae02_6 rfl rfl ?_
    refine X_getC _ 10 dJ0_isLatin1_aae02_7 hi fs_J0_15 rfl ?_
    refine X_ifne 17 13 dJ0_isLatin1_aae02_10 (by decide) rfl (fun c10 => ?_) (fun c10 => ?_)
    · exact absurd rfl c10
    · refine X_iconst 1 14 dJ0_isLatin1_aae02_13 (by decide) rfl ?_
      refine X_goto 18 dJ0_isLatin1_aae02_14 (by decide) ?_
      refine X_zret dJ0_isLatin1_aae02_18 rfl (by first | exact Or.inl rfl | exact Or.inr rfl) ?_
      exact h
theorem S_J0_length_8abf5 {i : Nat} (hi : i < 11) (h : Q (some (.int (nI (wlen i)))) σ) : xg_C (d + 1) mJ0_length_8abf5 [.ref (70 + i)] σ Q := by
  refine xg_C_of py_J0_length_8abf5 (Nat.le_of_ble_eq_true rfl) ?_
  show xg_X none (d + 1) mJ0_length_8abf5 0 [(0, .ref (70 + i))] [] σ Q
  refine X_aldn0 1 dJ0_length_8abf5_0 rfl rfl ?_
  refine X_getB _ 4 dJ0_length_8abf5_1 hi fs_J0_9 rfl ?_
  refine X_alenB _ 5 dJ0_length_8abf5_4 hi rfl ?_
  refine X_aldn0 6 dJ0_length_8abf5_5 rfl rfl ?_
  refine X_callW0 9 dJ0_length_8abf5_6 cw_J0_335 zk_J0_coder_7d493 rfl hi rfl rfl (S_J0_coder_7d493 hi ?_)
  refine X_pu ?_
  refine X_ishr 10 dJ0_length_8abf5_9 rfl ?_
  refine X_iret dJ0_length_8abf5_10 rfl ?_
  refine Qi h ?_
  exact (sb_shr0 _).symm
theorem S_J3_checkIndex_8e157 {a b : Int32} {v : Value} (h0 : ¬ a < 0) (h1 : a < b) (hv : v = .null ∨ v = .ref 120) (h : Q (some (.int a)) σ) : xg_C d mJ3_checkIndex_8e157 [.int a, .int b, v] σ Q := by
  rcases hv with rfl | rfl
  · refine xg_C_of py_J3_checkIndex_8e157 (Nat.le_of_ble_eq_true rfl) ?_
    show xg_X none d mJ3_checkIndex_8e157 0 [(0, .int a), (1, .int b), (2, .null)] [] σ Q
    refine X_ildn0 1 dJ3_checkIndex_8e157_0 rfl rfl ?_
    refine X_iflt 9 4 dJ3_checkIndex_8e157_1 (by decide) rfl (fun c1 => ?_) (fun c1 => ?_)
    · exact absurd c1 h0
    · refine X_ildn0 5 dJ3_checkIndex_8e157_4 rfl rfl ?_
      refine X_ildn1 6 dJ3_checkIndex_8e157_5 rfl rfl ?_
      refine X_iclt 16 9 dJ3_checkIndex_8e157_6 (by decide) rfl (fun c6 => ?_) (fun c6 => ?_)
      · refine X_ildn0 17 dJ3_checkIndex_8e157_16 rfl rfl ?_
        refine X_iret dJ3_checkIndex_8e157_17 rfl ?_
        exact h
      · exact absurd h1 c6
  · refine xg_C_of py_J3_checkIndex_8e157 (Nat.le_of_ble_eq_true rfl) ?_
    show xg_X none d mJ3_checkIndex_8e157 0 [(0, .int a), (1, .int b), (2, .ref 120)] [] σ Q
    refine X_ildn0 1 dJ3_checkIndex_8e157_0 rfl rfl ?_
    refine X_iflt 9 4 dJ3_checkIndex_8e157_1 (by decide) rfl (fun c1 => ?_) (fun c1 => ?_)
    · exact absurd c1 h0
    · refine X_ildn0 5 dJ3_checkIndex_8e157_4 rfl rfl ?_
      refine X_ildn1 6 dJ3_checkIndex_8e157_5 rfl rfl ?_
      refine X_iclt 16 9 dJ3_checkIndex_8e157_6 (by decide) rfl (fun c6 => ?_) (fun c6 => ?_)
      · refine X_ildn0 17 dJ3_checkIndex_8e157_16 rfl rfl ?_
        refine X_iret dJ3_checkIndex_8e157_17 rfl ?_
        exact h
      · exact absurd h1 c6
theorem S_J0_checkIndex_df160 {a b : Int32} (h0 : ¬ a < 0) (h1 : a < b) (h : Q none σ) : xg_C (d + 1) mJ0_checkIndex_df160 [.int a, .int b] σ Q := by
  refine xg_C_of py_J0_checkIndex_df160 (Nat.le_of_ble_eq_true rfl) ?_
  show xg_X none (d + 1) mJ0_checkIndex_df160 0 [(0, .int a), (1, .int b)] [] σ Q
  refine X_ildn0 1 dJ0_checkIndex_df160_0 rfl rfl ?_
  refine X_ildn1 2 dJ0_checkIndex_df160_1 rfl rfl ?_
  refine X_gsF 5 dJ0_checkIndex_df160_2 gs_J0_1053 rfl ?_ ?_
  · skip
    refine X_callS3 8 dJ0_checkIndex_df160_5 cw_J0_1059 zk_J3_checkIndex_8e157 rfl rfl (S_J3_checkIndex_8e157 h0 h1 (Or.inl rfl) ?_)
    refine X_pu ?_
    refine X_pop 9 dJ0_checkIndex_df160_8 rfl rfl ?_
    refine X_vret dJ0_checkIndex_df160_9 rfl ?_
    exact h
  · skip
    refine X_callS3 8 dJ0_checkIndex_df160_5 cw_J0_1059 zk_J3_checkIndex_8e157 rfl rfl (S_J3_checkIndex_8e157 h0 h1 (Or.inr rfl) ?_)
    refine X_pu ?_
    refine X_pop 9 dJ0_checkIndex_df160_8 rfl rfl ?_
    refine X_vret dJ0_checkIndex_df160_9 rfl ?_
    exact h
theorem S_J1_charAt_3b067 {i k : Nat} (hi : i < 11) (hk : k < wlen i) (h : Q (some (.int (wch i k))) σ) : xg_C (d + 2) mJ1_charAt_3b067 [.ref (90 + i), .int (nI k)] σ Q := by
  refine xg_C_of py_J1_charAt_3b067 (Nat.le_of_ble_eq_true rfl) ?_
  show xg_X none (d + 2) mJ1_charAt_3b067 0 [(0, .ref (90 + i)), (1, .int (nI k))] [] σ Q
  obtain ⟨w1, w2, w3, -, -⟩ := wch_ok i hi k hk
  refine X_ildn1 1 dJ1_charAt_3b067_0 rfl rfl ?_
  refine X_aldn0 2 dJ1_charAt_3b067_1 rfl rfl ?_
  refine X_alenB _ 3 dJ1_charAt_3b067_2 hi rfl ?_
  refine X_callS2 6 dJ1_charAt_3b067_3 cw_J1_9 zk_J0_checkIndex_df160 rfl rfl (S_J0_checkIndex_df160 (nI_pos (by omega)) (nI_lt hk (by show wlen i < _; omega)) ?_)
  refine X_pn ?_
  refine X_aldn0 7 dJ1_charAt_3b067_6 rfl rfl ?_
  refine X_ildn1 8 dJ1_charAt_3b067_7 rfl rfl ?_
  refine X_baldB _ 9 dJ1_charAt_3b067_8 hi rfl (vp_in_nI hk (by show wlen i < _; omega)) ?_
  rw [nI_clamp (by omega)]
  refine X_sipush 255 12 dJ1_charAt_3b067_9 (by decide) rfl ?_
  refine X_iand 13 dJ1_charAt_3b067_12 rfl ?_
  refine X_i2c 14 dJ1_charAt_3b067_13 rfl ?_
  rw [show ((List.getD (xk_bytes.getD i []) k 0 &&& 255).toUInt32 % 65536).toInt32 = wch i k from w1]
  refine X_nret dJ1_charAt_3b067_14 rfl w2 ?_
  exact h
theorem S_J0_charAt_5068e {i k : Nat} (hi : i < 11) (hk : k < wlen i) (h : Q (some (.int (wch i k))) σ) : xg_C (d + 3) mJ0_charAt_5068e [.ref (70 + i), .int (nI k)] σ Q := by
  refine xg_C_of py_J0_charAt_5068e (Nat.le_of_ble_eq_true rfl) ?_
  show xg_X none (d + 3) mJ0_charAt_5068e 0 [(0, .ref (70 + i)), (1, .int (nI k))] [] σ Q
  refine X_aldn0 1 dJ0_charAt_5068e_0 rfl rfl ?_
  refine X_callW0 4 dJ0_charAt_5068e_1 cw_J0_492 zk_J0_isLatin1_aae02 rfl hi rfl rfl (S_J0_isLatin1_aae02 hi ?_)
  refine X_pu ?_
  refine X_ifeq 16 7 dJ0_charAt_5068e_4 (by decide) rfl (fun c4 => ?_) (fun c4 => ?_)
  · exact absurd c4 (by decide)
  · refine X_aldn0 8 dJ0_charAt_5068e_7 rfl rfl ?_
    refine X_getB _ 11 dJ0_charAt_5068e_8 hi fs_J0_9 rfl ?_
    refine X_ildn1 12 dJ0_charAt_5068e_11 rfl rfl ?_
    refine X_callS2 15 dJ0_charAt_5068e_12 cw_J0_495 zk_J1_charAt_3b067 rfl rfl (S_J1_charAt_3b067 hi hk ?_)
    refine X_pu ?_
    refine X_nret dJ0_charAt_5068e_15 rfl (wch_ok i hi k hk).2.1 ?_
    exact h
theorem S_X3_isSmall {c : Int32} (h : Q (some (.int (b2i (smL c)))) σ) : xg_C d mX3_isSmall [.int c] σ Q := by
  refine xg_C_of py_X3_isSmall (Nat.le_of_ble_eq_true rfl) ?_
  show xg_X none d mX3_isSmall 0 [(0, .int c)] [] σ Q
  refine X_ildn0 1 dX3_isSmall_0 rfl rfl ?_
  refine X_bipush 97 3 dX3_isSmall_1 (by decide) rfl ?_
  refine X_iclt 16 6 dX3_isSmall_3 (by decide) rfl (fun c3 => ?_) (fun c3 => ?_)
  · refine X_iconst 0 17 dX3_isSmall_16 (by decide) rfl ?_
    refine X_zret dX3_isSmall_17 rfl (by first | exact Or.inl rfl | exact Or.inr rfl) ?_
    refine Qi h ?_
    (try simp only [i_nlt, i_nle] at *)
    grind [smL, b2i]
  · refine X_ildn0 7 dX3_isSmall_6 rfl rfl ?_
    refine X_bipush 122 9 dX3_isSmall_7 (by decide) rfl ?_
    refine X_icgt 16 12 dX3_isSmall_9 (by decide) rfl (fun c9 => ?_) (fun c9 => ?_)
    · refine X_iconst 0 17 dX3_isSmall_16 (by decide) rfl ?_
      refine X_zret dX3_isSmall_17 rfl (by first | exact Or.inl rfl | exact Or.inr rfl) ?_
      refine Qi h ?_
      (try simp only [i_nlt, i_nle] at *)
      grind [smL, b2i]
    · refine X_iconst 1 13 dX3_isSmall_12 (by decide) rfl ?_
      refine X_goto 17 dX3_isSmall_13 (by decide) ?_
      refine X_zret dX3_isSmall_17 rfl (by first | exact Or.inl rfl | exact Or.inr rfl) ?_
      refine Qi h ?_
      (try simp only [i_nlt, i_nle] at *)
      grind [smL, b2i]
theorem S_X3_isDigit {c : Int32} (h : Q (some (.int (b2i (dgL c)))) σ) : xg_C d mX3_isDigit [.int c] σ Q := by
  refine xg_C_of py_X3_isDigit (Nat.le_of_ble_eq_true rfl) ?_
  show xg_X none d mX3_isDigit 0 [(0, .int c)] [] σ Q
  refine X_ildn0 1 dX3_isDigit_0 rfl rfl ?_
  refine X_bipush 48 3 dX3_isDigit_1 (by decide) rfl ?_
  refine X_iclt 16 6 dX3_isDigit_3 (by decide) rfl (fun c3 => ?_) (fun c3 => ?_)
  · refine X_iconst 0 17 dX3_isDigit_16 (by decide) rfl ?_
    refine X_zret dX3_isDigit_17 rfl (by first | exact Or.inl rfl | exact Or.inr rfl) ?_
    refine Qi h ?_
    (try simp only [i_nlt, i_nle] at *)
    grind [dgL, b2i]
  · refine X_ildn0 7 dX3_isDigit_6 rfl rfl ?_
    refine X_bipush 57 9 dX3_isDigit_7 (by decide) rfl ?_
    refine X_icgt 16 12 dX3_isDigit_9 (by decide) rfl (fun c9 => ?_) (fun c9 => ?_)
    · refine X_iconst 0 17 dX3_isDigit_16 (by decide) rfl ?_
      refine X_zret dX3_isDigit_17 rfl (by first | exact Or.inl rfl | exact Or.inr rfl) ?_
      refine Qi h ?_
      (try simp only [i_nlt, i_nle] at *)
      grind [dgL, b2i]
    · refine X_iconst 1 13 dX3_isDigit_12 (by decide) rfl ?_
      refine X_goto 17 dX3_isDigit_13 (by decide) ?_
      refine X_zret dX3_isDigit_17 rfl (by first | exact Or.inl rfl | exact Or.inr rfl) ?_
      refine Qi h ?_
      (try simp only [i_nlt, i_nle] at *)
      grind [dgL, b2i]
theorem S_X3_letterAt {x : Int32} (h : Q (some (.int (ltX σ x))) σ) : xg_C d mX3_letterAt [.ref 13, .int x] σ Q := by
  refine xg_C_of py_X3_letterAt (Nat.le_of_ble_eq_true rfl) ?_
  show xg_X none d mX3_letterAt 0 [(0, .ref 13), (1, .int x)] [] σ Q
  refine X_ildn1 1 dX3_letterAt_0 rfl rfl ?_
  refine X_iflt 30 4 dX3_letterAt_1 (by decide) rfl (fun c1 => ?_) (fun c1 => ?_)
  · refine X_iconst (-1) 31 dX3_letterAt_30 (by decide) rfl ?_
    refine X_iret dX3_letterAt_31 rfl ?_
    refine Qi h ?_
    (try simp only [i_nlt, i_nle] at *)
    grind [ltX]
  · refine X_ildn1 5 dX3_letterAt_4 rfl rfl ?_
    refine X_aldn0 6 dX3_letterAt_5 rfl rfl ?_
    refine X_getI 9 dX3_letterAt_6 fl_X3_35 rfl rfl ?_
    refine X_icge 30 12 dX3_letterAt_9 (by decide) rfl (fun c9 => ?_) (fun c9 => ?_)
    · refine X_iconst (-1) 31 dX3_letterAt_30 (by decide) rfl ?_
      refine X_iret dX3_letterAt_31 rfl ?_
      refine Qi h ?_
      (try simp only [i_nlt, i_nle] at *)
      grind [ltX]
    · refine X_ildn1 13 dX3_letterAt_12 rfl rfl ?_
      refine X_aldn0 14 dX3_letterAt_13 rfl rfl ?_
      refine X_getA 14 17 dX3_letterAt_14 fl_X3_9 rfl rfl ?_
      refine X_alen 160 18 dX3_letterAt_17 rfl rfl rfl rfl ?_
      refine X_icge 30 21 dX3_letterAt_18 (by decide) rfl (fun c18 => ?_) (fun c18 => ?_)
      · refine X_iconst (-1) 31 dX3_letterAt_30 (by decide) rfl ?_
        refine X_iret dX3_letterAt_31 rfl ?_
        refine Qi h ?_
        (try simp only [i_nlt, i_nle] at *)
        grind [ltX]
      · obtain ⟨j, hj, rfl⟩ := lt_nI (n := 160) (by decide) (by rw [i_nlt] at c1; exact c1) (by rw [i_nle] at c18; exact c18)
        have e := ixN_nI (i := j) (by omega)
        refine X_aldn0 22 dX3_letterAt_21 rfl rfl ?_
        refine X_getA 14 25 dX3_letterAt_22 fl_X3_9 rfl rfl ?_
        refine X_ildn1 26 dX3_letterAt_25 rfl rfl ?_
        refine X_ialk j 27 dX3_letterAt_26 rfl rfl rfl hj ?_
        refine X_goto 31 dX3_letterAt_27 (by decide) ?_
        refine X_iret dX3_letterAt_31 rfl ?_
        refine Qi h ?_
        (try simp only [i_nlt, i_nle] at *)
        grind [ltX]
theorem S_X3_leastOf {w p : Int32} (h : Q (some (.int (if w ≤ 4 ∧ p = 0 then 1 else 0))) σ) : xg_C d mX3_leastOf [.int w, .int p] σ Q := by
  refine xg_C_of py_X3_leastOf (Nat.le_of_ble_eq_true rfl) ?_
  show xg_X none d mX3_leastOf 0 [(0, .int w), (1, .int p)] [] σ Q
  refine X_ildn0 1 dX3_leastOf_0 rfl rfl ?_
  refine X_iconst 4 2 dX3_leastOf_1 (by decide) rfl ?_
  refine X_icgt 13 5 dX3_leastOf_2 (by decide) rfl (fun c2 => ?_) (fun c2 => ?_)
  · refine X_iconst 0 14 dX3_leastOf_13 (by decide) rfl ?_
    refine X_iret dX3_leastOf_14 rfl ?_
    refine Qi h ?_
    (try simp only [i_nlt, i_nle] at *)
    grind
  · refine X_ildn1 6 dX3_leastOf_5 rfl rfl ?_
    refine X_ifne 13 9 dX3_leastOf_6 (by decide) rfl (fun c6 => ?_) (fun c6 => ?_)
    · refine X_iconst 0 14 dX3_leastOf_13 (by decide) rfl ?_
      refine X_iret dX3_leastOf_14 rfl ?_
      refine Qi h ?_
      (try simp only [i_nlt, i_nle] at *)
      grind
    · refine X_iconst 1 10 dX3_leastOf_9 (by decide) rfl ?_
      refine X_goto 14 dX3_leastOf_10 (by decide) ?_
      refine X_iret dX3_leastOf_14 rfl ?_
      refine Qi h ?_
      (try simp only [i_nlt, i_nle] at *)
      grind
def moX (w p : Int32) : Int32 := if w = 5 then (if p = 0 then 2 else 99) else if w = 6 then 4 else if w = 7 then 4 else if w = 8 then 24 else if p = 0 then 20 else if p = 1 then 40 else 2
theorem S_X3_mostOf {w p : Int32} (h : Q (some (.int (moX w p))) σ) : xg_C d mX3_mostOf [.int w, .int p] σ Q := by
  refine xg_C_of py_X3_mostOf (Nat.le_of_ble_eq_true rfl) ?_
  show xg_X none d mX3_mostOf 0 [(0, .int w), (1, .int p)] [] σ Q
  refine X_ildn0 1 dX3_mostOf_0 rfl rfl ?_
  by_cases y1_0 : w = 5
  · refine X_tsw 32 dX3_mostOf_1 (Or.inr (by rw [y1_0]; exact ⟨by decide, by decide, 31, by decide, by decide⟩)) ?_
    refine X_ildn1 33 dX3_mostOf_32 rfl rfl ?_
    refine X_ifne 40 36 dX3_mostOf_33 (by decide) rfl (fun c33 => ?_) (fun c33 => ?_)
    · refine X_bipush 99 42 dX3_mostOf_40 (by decide) rfl ?_
      refine X_iret dX3_mostOf_42 rfl ?_
      refine Qi h ?_
      grind [moX]
    · refine X_iconst 2 37 dX3_mostOf_36 (by decide) rfl ?_
      refine X_goto 42 dX3_mostOf_37 (by decide) ?_
      refine X_iret dX3_mostOf_42 rfl ?_
      refine Qi h ?_
      grind [moX]
  by_cases y1_1 : w = 6
  · refine X_tsw 43 dX3_mostOf_1 (Or.inr (by rw [y1_1]; exact ⟨by decide, by decide, 42, by decide, by decide⟩)) ?_
    refine X_iconst 4 44 dX3_mostOf_43 (by decide) rfl ?_
    refine X_iret dX3_mostOf_44 rfl ?_
    refine Qi h ?_
    grind [moX]
  by_cases y1_2 : w = 7
  · refine X_tsw 45 dX3_mostOf_1 (Or.inr (by rw [y1_2]; exact ⟨by decide, by decide, 44, by decide, by decide⟩)) ?_
    refine X_iconst 4 46 dX3_mostOf_45 (by decide) rfl ?_
    refine X_iret dX3_mostOf_46 rfl ?_
    refine Qi h ?_
    grind [moX]
  by_cases y1_3 : w = 8
  · refine X_tsw 47 dX3_mostOf_1 (Or.inr (by rw [y1_3]; exact ⟨by decide, by decide, 46, by decide, by decide⟩)) ?_
    refine X_bipush 24 49 dX3_mostOf_47 (by decide) rfl ?_
    refine X_iret dX3_mostOf_49 rfl ?_
    refine Qi h ?_
    grind [moX]
  refine X_tsw 50 dX3_mostOf_1 (Or.inl ⟨by have z0 := lv_neT y1_0 (a := 5) (by decide); have z1 := lv_neT y1_1 (a := 6) (by decide); have z2 := lv_neT y1_2 (a := 7) (by decide); have z3 := lv_neT y1_3 (a := 8) (by decide); omega, by decide⟩) ?_
  refine X_ildn1 51 dX3_mostOf_50 rfl rfl ?_
  refine X_ifne 59 54 dX3_mostOf_51 (by decide) rfl (fun c51 => ?_) (fun c51 => ?_)
  · refine X_ildn1 60 dX3_mostOf_59 rfl rfl ?_
    refine X_iconst 1 61 dX3_mostOf_60 (by decide) rfl ?_
    refine X_icne 69 64 dX3_mostOf_61 (by decide) rfl (fun c61 => ?_) (fun c61 => ?_)
    · refine X_iconst 2 70 dX3_mostOf_69 (by decide) rfl ?_
      refine X_iret dX3_mostOf_70 rfl ?_
      refine Qi h ?_
      grind [moX]
    · refine X_bipush 40 66 dX3_mostOf_64 (by decide) rfl ?_
      refine X_goto 70 dX3_mostOf_66 (by decide) ?_
      refine X_iret dX3_mostOf_70 rfl ?_
      refine Qi h ?_
      grind [moX]
  · refine X_bipush 20 56 dX3_mostOf_54 (by decide) rfl ?_
    refine X_goto 70 dX3_mostOf_56 (by decide) ?_
    refine X_iret dX3_mostOf_70 rfl ?_
    refine Qi h ?_
    grind [moX]
theorem S_X3_wordText {i : Nat} (hi : i < 11) (h : Q (some (.ref (70 + i))) σ) : xg_C d mX3_wordText [.int (nI i)] σ Q := by
  refine xg_C_of py_X3_wordText (Nat.le_of_ble_eq_true rfl) ?_
  show xg_X none d mX3_wordText 0 [(0, .int (nI i))] [] σ Q
  have e : ∀ k, k < 11 → nI i = nI k → i = k := fun k hk e => (nI_eq (by omega) (by omega)).mp e
  refine X_ildn0 1 dX3_wordText_0 rfl rfl ?_
  by_cases y1_0 : nI i = 0
  · refine X_tsw 56 dX3_wordText_1 (Or.inr (by rw [y1_0]; exact ⟨by decide, by decide, 55, by decide, by decide⟩)) ?_
    refine X_ldcS 0 58 dX3_wordText_56 (by decide) ⟨rfl, rfl⟩ rfl ?_
    refine X_aret dX3_wordText_58 rfl ?_
    rw [e 0 (by decide) y1_0] at h
    exact h
  by_cases y1_1 : nI i = 1
  · refine X_tsw 59 dX3_wordText_1 (Or.inr (by rw [y1_1]; exact ⟨by decide, by decide, 58, by decide, by decide⟩)) ?_
    refine X_ldcS 1 61 dX3_wordText_59 (by decide) ⟨rfl, rfl⟩ rfl ?_
    refine X_aret dX3_wordText_61 rfl ?_
    rw [e 1 (by decide) y1_1] at h
    exact h
  by_cases y1_2 : nI i = 2
  · refine X_tsw 62 dX3_wordText_1 (Or.inr (by rw [y1_2]; exact ⟨by decide, by decide, 61, by decide, by decide⟩)) ?_
    refine X_ldcS 2 64 dX3_wordText_62 (by decide) ⟨rfl, rfl⟩ rfl ?_
    refine X_aret dX3_wordText_64 rfl ?_
    rw [e 2 (by decide) y1_2] at h
    exact h
  by_cases y1_3 : nI i = 3
  · refine X_tsw 65 dX3_wordText_1 (Or.inr (by rw [y1_3]; exact ⟨by decide, by decide, 64, by decide, by decide⟩)) ?_
    refine X_ldcS 3 67 dX3_wordText_65 (by decide) ⟨rfl, rfl⟩ rfl ?_
    refine X_aret dX3_wordText_67 rfl ?_
    rw [e 3 (by decide) y1_3] at h
    exact h
  by_cases y1_4 : nI i = 4
  · refine X_tsw 68 dX3_wordText_1 (Or.inr (by rw [y1_4]; exact ⟨by decide, by decide, 67, by decide, by decide⟩)) ?_
    refine X_ldcS 4 70 dX3_wordText_68 (by decide) ⟨rfl, rfl⟩ rfl ?_
    refine X_aret dX3_wordText_70 rfl ?_
    rw [e 4 (by decide) y1_4] at h
    exact h
  by_cases y1_5 : nI i = 5
  · refine X_tsw 71 dX3_wordText_1 (Or.inr (by rw [y1_5]; exact ⟨by decide, by decide, 70, by decide, by decide⟩)) ?_
    refine X_ldcS 5 73 dX3_wordText_71 (by decide) ⟨rfl, rfl⟩ rfl ?_
    refine X_aret dX3_wordText_73 rfl ?_
    rw [e 5 (by decide) y1_5] at h
    exact h
  by_cases y1_6 : nI i = 6
  · refine X_tsw 74 dX3_wordText_1 (Or.inr (by rw [y1_6]; exact ⟨by decide, by decide, 73, by decide, by decide⟩)) ?_
    refine X_ldcS 6 76 dX3_wordText_74 (by decide) ⟨rfl, rfl⟩ rfl ?_
    refine X_aret dX3_wordText_76 rfl ?_
    rw [e 6 (by decide) y1_6] at h
    exact h
  by_cases y1_7 : nI i = 7
  · refine X_tsw 77 dX3_wordText_1 (Or.inr (by rw [y1_7]; exact ⟨by decide, by decide, 76, by decide, by decide⟩)) ?_
    refine X_ldcS 7 79 dX3_wordText_77 (by decide) ⟨rfl, rfl⟩ rfl ?_
    refine X_aret dX3_wordText_79 rfl ?_
    rw [e 7 (by decide) y1_7] at h
    exact h
  by_cases y1_8 : nI i = 8
  · refine X_tsw 80 dX3_wordText_1 (Or.inr (by rw [y1_8]; exact ⟨by decide, by decide, 79, by decide, by decide⟩)) ?_
    refine X_ldcS 8 82 dX3_wordText_80 (by decide) ⟨rfl, rfl⟩ rfl ?_
    refine X_aret dX3_wordText_82 rfl ?_
    rw [e 8 (by decide) y1_8] at h
    exact h
  by_cases y1_9 : nI i = 9
  · refine X_tsw 83 dX3_wordText_1 (Or.inr (by rw [y1_9]; exact ⟨by decide, by decide, 82, by decide, by decide⟩)) ?_
    refine X_ldcS 9 85 dX3_wordText_83 (by decide) ⟨rfl, rfl⟩ rfl ?_
    refine X_aret dX3_wordText_85 rfl ?_
    rw [e 9 (by decide) y1_9] at h
    exact h
  refine X_tsw 86 dX3_wordText_1 (Or.inl ⟨by have z0 := lv_neT y1_0 (a := 0) (by decide); have z1 := lv_neT y1_1 (a := 1) (by decide); have z2 := lv_neT y1_2 (a := 2) (by decide); have z3 := lv_neT y1_3 (a := 3) (by decide); have z4 := lv_neT y1_4 (a := 4) (by decide); have z5 := lv_neT y1_5 (a := 5) (by decide); have z6 := lv_neT y1_6 (a := 6) (by decide); have z7 := lv_neT y1_7 (a := 7) (by decide); have z8 := lv_neT y1_8 (a := 8) (by decide); have z9 := lv_neT y1_9 (a := 9) (by decide); omega, by decide⟩) ?_
  refine X_ldcS 10 88 dX3_wordText_86 (by decide) ⟨rfl, rfl⟩ rfl ?_
  refine X_aret dX3_wordText_88 rfl ?_
  have a0 : i ≠ 0 := fun z => y1_0 (by rw [z]; rfl)
  have a1 : i ≠ 1 := fun z => y1_1 (by rw [z]; rfl)
  have a2 : i ≠ 2 := fun z => y1_2 (by rw [z]; rfl)
  have a3 : i ≠ 3 := fun z => y1_3 (by rw [z]; rfl)
  have a4 : i ≠ 4 := fun z => y1_4 (by rw [z]; rfl)
  have a5 : i ≠ 5 := fun z => y1_5 (by rw [z]; rfl)
  have a6 : i ≠ 6 := fun z => y1_6 (by rw [z]; rfl)
  have a7 : i ≠ 7 := fun z => y1_7 (by rw [z]; rfl)
  have a8 : i ≠ 8 := fun z => y1_8 (by rw [z]; rfl)
  have a9 : i ≠ 9 := fun z => y1_9 (by rw [z]; rfl)
  obtain rfl : i = 10 := by omega
  exact h
end WORDS

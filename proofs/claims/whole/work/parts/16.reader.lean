/-! the reader's tokens: by L the letters, n how many -/
def skB (L : Nat → Int32) (n : Nat) : Nat → Nat → Nat
  | 0, i => i
  | k + 1, i => if i < n ∧ L i = 32 then skB L n k (i + 1) else i
def rnE (L : Nat → Int32) (n : Nat) (p : Int32 → Bool) : Nat → Nat → Nat
  | 0, i => i
  | k + 1, i => if i < n ∧ p (L i) = true then rnE L n p k (i + 1) else i
theorem skB_in {L : Nat → Int32} {n : Nat} : ∀ k i, i + k = n → i ≤ skB L n k i ∧ skB L n k i ≤ n
  | 0, i, h => ⟨Nat.le_refl _, by show i ≤ n; omega⟩
  | k + 1, i, h => by
    rw [skB]
    split
    · have := skB_in (L := L) (n := n) k (i + 1) (by omega)
      omega
    · omega
theorem rnE_in {L : Nat → Int32} {n : Nat} {p : Int32 → Bool} : ∀ k i, i + k = n → i ≤ rnE L n p k i ∧ rnE L n p k i ≤ n
  | 0, i, h => ⟨Nat.le_refl _, by show i ≤ n; omega⟩
  | k + 1, i, h => by
    rw [rnE]
    split
    · have := rnE_in (L := L) (n := n) (p := p) k (i + 1) (by omega)
      omega
    · omega
def tkS (L : Nat → Int32) (n p : Nat) : Nat := skB L n (n - p) p
/-- letters of the sort of c -/
def likeL (c : Int32) : Int32 → Bool := fun z => (smL z == smL c) && (dgL z == dgL c)
def tkE (L : Nat → Int32) (n s : Nat) : Nat := if s < n then (if smL (L s) = true ∨ dgL (L s) = true then rnE L n (likeL (L s)) (n - (s + 1)) (s + 1) else s + 1) else s
theorem tkS_in {L : Nat → Int32} {n p : Nat} (h : p ≤ n) : p ≤ tkS L n p ∧ tkS L n p ≤ n := skB_in _ _ (by omega)
theorem tkE_in {L : Nat → Int32} {n s : Nat} (h : s ≤ n) : s ≤ tkE L n s ∧ tkE L n s ≤ n := by
  unfold tkE
  split
  · split
    · have := rnE_in (L := L) (n := n) (p := likeL (L s)) (n - (s + 1)) (s + 1) (by omega)
      omega
    · omega
  · omega
def isTk (L : Nat → Int32) (s e w : Nat) : Bool := decide (e - s = wlen w) && allN (fun k => decide (L (s + k) = wch w k)) (wlen w)
def nmR (L : Nat → Int32) (s : Nat) : Nat → Int32
  | 0 => 0
  | k + 1 => nmR L s k * 10 + L (s + k) - 48
def rdN (L : Nat → Int32) (s e : Nat) : Int32 := if e ≤ s ∨ s + 2 < e then -1 else if allN (fun k => dgL (L (s + k))) (e - s) then nmR L s (e - s) else -1
/-- the token in hand -/
def vK (σ : xm_M) (s e : Nat) : Prop := vT σ ∧ σ.1 13 3 = nI s ∧ σ.1 13 4 = nI e ∧ s ≤ e ∧ e ≤ b3 σ
theorem ltX_at {σ : xm_M} {i : Nat} (hv : vT σ) (hi : i < b3 σ) : ltX σ (nI i) = σ.1 14 i := by
  obtain ⟨h1, h2⟩ := hv
  unfold ltX
  rw [if_pos ⟨nI_pos' (by omega), by rw [h1]; exact nI_lt hi (by omega), nI_lt (b := 160) (by omega) (by decide)⟩, ixN_nI (by omega)]
theorem ltX_set {σ : xm_M} {k : Nat} {v x : Int32} (hk : k ≠ 1) : ltX (xm_set σ 13 k v) x = ltX σ x := by
  unfold ltX
  rw [xs_nk (Ne.symm hk), xs_ne (by decide)]
def ntX (σ : xm_M) (p : Nat) : xm_M := xm_set (xm_set σ 13 3 (nI (tkS (σ.1 14) (b3 σ) p))) 13 4 (nI (tkE (σ.1 14) (b3 σ) (tkS (σ.1 14) (b3 σ) p)))
theorem b3_set {σ : xm_M} {k : Nat} {v : Int32} (hk : k ≠ 1) : b3 (xm_set σ 13 k v) = b3 σ := by unfold b3; rw [xs_nk (Ne.symm hk)]
theorem vT_set {σ : xm_M} {k : Nat} {v : Int32} (hk : k ≠ 1) (h : vT σ) : vT (xm_set σ 13 k v) := by
  unfold vT at *
  rw [b3_set hk, xs_nk (Ne.symm hk)]
  exact h
section READER
variable {d : Nat} {σ : xm_M} {Q : Option Value → xm_M → Prop}
theorem S_X3_isToken {s e w : Nat} (hw : w < 11) (hv : vK σ s e) (h : Q (some (.int (b2i (isTk (σ.1 14) s e w)))) σ) : xg_C (d + 4) mX3_isToken [.ref 13, .ref (70 + w)] σ Q := by
  refine xg_C_of py_X3_isToken (Nat.le_of_ble_eq_true rfl) ?_
  show xg_X none (d + 4) mX3_isToken 0 [(0, .ref 13), (1, .ref (70 + w))] [] σ Q
  obtain ⟨hT, h3, h4, hse, hen⟩ := hv
  have hT2 := hT.2
  have hl := wlen_le w hw
  have loop : e - s = wlen w → ∀ k i, i + k = wlen w → allN (fun k => decide (σ.1 14 (s + k) = wch w k)) i = true → xg_X none (d + 4) mX3_isToken 20 [(2, .int (nI i)), (0, .ref 13), (1, .ref (70 + w))] [] σ Q := by
    intro he k
    induction k with
    | zero =>
      intro i h2 hb
      obtain rfl : i = wlen w := by omega
      refine X_ildn0 21 dX3_isToken_20 rfl rfl ?_
      refine X_aldn2 22 dX3_isToken_21 rfl rfl ?_
      refine X_callW0 25 dX3_isToken_22 cw_X3_117 zk_J0_length_8abf5 rfl hw rfl rfl (S_J0_length_8abf5 hw ?_)
      refine X_pu ?_
      refine X_icge 54 28 dX3_isToken_25 (by decide) rfl (fun c25 => ?_) (fun c25 => ?_)
      · refine X_iconst 1 55 dX3_isToken_54 (by decide) rfl ?_
        refine X_zret dX3_isToken_55 rfl (by first | exact Or.inl rfl | exact Or.inr rfl) ?_
        refine Qi h ?_
        rw [isTk, hb, decide_eq_true he]
        rfl
      · exact absurd (nI_le (Nat.le_refl _) (by omega)) c25
    | succ k ih =>
      intro i h2 hb
      refine X_ildn0 21 dX3_isToken_20 rfl rfl ?_
      refine X_aldn2 22 dX3_isToken_21 rfl rfl ?_
      refine X_callW0 25 dX3_isToken_22 cw_X3_117 zk_J0_length_8abf5 rfl hw rfl rfl (S_J0_length_8abf5 hw ?_)
      refine X_pu ?_
      refine X_icge 54 28 dX3_isToken_25 (by decide) rfl (fun c25 => ?_) (fun c25 => ?_)
      · have c25 := leq c25 rfl (by omega) (by omega)
        omega
      · refine X_aldn1 29 dX3_isToken_28 rfl rfl ?_
        refine X_aldn1 30 dX3_isToken_29 rfl rfl ?_
        refine X_getI 33 dX3_isToken_30 fl_X3_32 rfl rfl ?_
        refine X_ildn0 34 dX3_isToken_33 rfl rfl ?_
        refine X_iadd 35 dX3_isToken_34 rfl ?_
        refine X_callV1 3 38 dX3_isToken_35 cw_X3_38 zk_X3_letterAt ⟨rfl, rfl⟩ rfl rfl rfl (S_X3_letterAt ?_)
        refine X_pu ?_
        refine X_aldn2 39 dX3_isToken_38 rfl rfl ?_
        refine X_ildn0 40 dX3_isToken_39 rfl rfl ?_
        refine X_callW1 43 dX3_isToken_40 cw_X3_121 zk_J0_charAt_5068e rfl hw rfl rfl (S_J0_charAt_5068e hw (by omega) ?_)
        refine X_pu ?_
        rw [h3, nI_add, ltX_at hT (by omega)]
        refine X_iceq 48 46 dX3_isToken_43 (by decide) rfl (fun c43 => ?_) (fun c43 => ?_)
        · refine X_inc0 1 51 dX3_isToken_48 (by decide) rfl rfl rfl ?_
          refine X_goto 20 dX3_isToken_51 (by decide) ?_
          refine xg_lv (by rw [nI_succ]) (ih (i + 1) (by omega) ?_)
          simp [allN, hb, c43]
        · refine X_iconst 0 47 dX3_isToken_46 (by decide) rfl ?_
          refine X_zret dX3_isToken_47 rfl (by first | exact Or.inl rfl | exact Or.inr rfl) ?_
          refine Qi h ?_
          rw [isTk, allN_no (i := i) (by omega) (by simp [c43]), Bool.and_false]
          rfl
  refine X_aldn0 1 dX3_isToken_0 rfl rfl ?_
  refine X_getI 4 dX3_isToken_1 fl_X3_22 rfl rfl ?_
  refine X_aldn0 5 dX3_isToken_4 rfl rfl ?_
  refine X_getI 8 dX3_isToken_5 fl_X3_32 rfl rfl ?_
  refine X_isub 9 dX3_isToken_8 rfl ?_
  refine X_aldn1 10 dX3_isToken_9 rfl rfl ?_
  refine X_callW0 13 dX3_isToken_10 cw_X3_117 zk_J0_length_8abf5 rfl hw rfl rfl (S_J0_length_8abf5 hw ?_)
  refine X_pu ?_
  rw [h3, h4, pk_sub hse]
  refine X_iceq 18 16 dX3_isToken_13 (by decide) rfl (fun c13 => ?_) (fun c13 => ?_)
  · refine X_iconst 0 19 dX3_isToken_18 (by decide) rfl ?_
    refine X_istnN 20 dX3_isToken_19 rfl rfl rfl rfl ?_
    exact loop ((nI_eq (by omega) (by omega)).mp c13) (wlen w) 0 (by omega) rfl
  · refine X_iconst 0 17 dX3_isToken_16 (by decide) rfl ?_
    refine X_zret dX3_isToken_17 rfl (by first | exact Or.inl rfl | exact Or.inr rfl) ?_
    refine Qi h ?_
    rw [isTk, decide_eq_false (fun q => c13 (by rw [q]))]
    rfl
theorem S_X3_readWord {s e : Nat} (hv : vK σ s e) (h : Q (some (.int (vFO (isTk (σ.1 14) s e) 11 0))) σ) : xg_C (d + 5) mX3_readWord [.ref 13] σ Q := by
  refine xg_C_of py_X3_readWord (Nat.le_of_ble_eq_true rfl) ?_
  show xg_X none (d + 5) mX3_readWord 0 [(0, .ref 13)] [] σ Q
  have loop : ∀ k i, i + k = 11 → Q (some (.int (vFO (isTk (σ.1 14) s e) k i))) σ → xg_X none (d + 5) mX3_readWord 2 [(1, .int (nI i)), (0, .ref 13)] [] σ Q := by
    intro k
    induction k with
    | zero =>
      intro i h2 h
      obtain rfl : i = 11 := by omega
      refine X_ildn0 3 dX3_readWord_2 rfl rfl ?_
      refine X_bipush 11 5 dX3_readWord_3 (by decide) rfl ?_
      refine X_icge 27 8 dX3_readWord_5 (by decide) rfl (fun c5 => ?_) (fun c5 => ?_)
      · refine X_iconst (-1) 28 dX3_readWord_27 (by decide) rfl ?_
        refine X_iret dX3_readWord_28 rfl ?_
        exact h
      · exact absurd (by decide) c5
    | succ k ih =>
      intro i h2 h
      refine X_ildn0 3 dX3_readWord_2 rfl rfl ?_
      refine X_bipush 11 5 dX3_readWord_3 (by decide) rfl ?_
      refine X_icge 27 8 dX3_readWord_5 (by decide) rfl (fun c5 => ?_) (fun c5 => ?_)
      · have c5 := leq c5 (n := 11) (by decide) (by decide) (by omega)
        omega
      · refine X_aldn1 9 dX3_readWord_8 rfl rfl ?_
        refine X_ildn0 10 dX3_readWord_9 rfl rfl ?_
        refine X_callS1 13 dX3_readWord_10 cw_X3_109 zk_X3_wordText rfl rfl (S_X3_wordText (by omega) ?_)
        refine X_pu ?_
        refine X_callV1 3 16 dX3_readWord_13 cw_X3_113 zk_X3_isToken ⟨rfl, rfl⟩ rfl rfl rfl (S_X3_isToken (by omega) hv ?_)
        refine X_pu ?_
        refine X_ifeq 21 19 dX3_readWord_16 (by decide) rfl (fun c16 => ?_) (fun c16 => ?_)
        · refine X_inc0 1 24 dX3_readWord_21 (by decide) rfl rfl rfl ?_
          refine X_goto 2 dX3_readWord_24 (by decide) ?_
          refine xg_lv (by rw [nI_succ]) (ih (i + 1) (by omega) (Qi h ?_))
          rw [vFO, if_neg (by rw [b2i_0.mp c16]; decide)]
        · refine X_ildn0 20 dX3_readWord_19 rfl rfl ?_
          refine X_iret dX3_readWord_20 rfl ?_
          refine Qi h ?_
          rw [vFO, if_pos (b2i_n.mp c16)]
  refine X_iconst 0 1 dX3_readWord_0 (by decide) rfl ?_
  refine X_istnN 2 dX3_readWord_1 rfl rfl rfl rfl ?_
  exact loop 11 0 rfl h
theorem S_X3_readNumber {s e : Nat} (hv : vK σ s e) (h : Q (some (.int (rdN (σ.1 14) s e))) σ) : xg_C (d + 1) mX3_readNumber [.ref 13] σ Q := by
  refine xg_C_of py_X3_readNumber (Nat.le_of_ble_eq_true rfl) ?_
  show xg_X none (d + 1) mX3_readNumber 0 [(0, .ref 13)] [] σ Q
  obtain ⟨hT, h3, h4, hse, hen⟩ := hv
  have hT2 := hT.2
  have loop : ¬ (e ≤ s ∨ s + 2 < e) → ∀ k i, i + k = e - s → allN (fun k => dgL (σ.1 14 (s + k))) i = true → xg_X none (d + 1) mX3_readNumber 33 [(2, .int (nI (s + i))), (1, .int (nmR (σ.1 14) s i)), (0, .ref 13)] [] σ Q := by
    intro he k
    induction k with
    | zero =>
      intro i h2 hb
      obtain rfl : i = e - s := by omega
      refine X_ildn0 34 dX3_readNumber_33 rfl rfl ?_
      refine X_aldn2 35 dX3_readNumber_34 rfl rfl ?_
      refine X_getI 38 dX3_readNumber_35 fl_X3_22 rfl rfl ?_
      rw [h4]
      refine X_icge 74 41 dX3_readNumber_38 (by decide) rfl (fun c38 => ?_) (fun c38 => ?_)
      · refine X_ildn1 75 dX3_readNumber_74 rfl rfl ?_
        refine X_iret dX3_readNumber_75 rfl ?_
        refine Qi h ?_
        rw [rdN, if_neg he, if_pos hb]
      · exact absurd (nI_le (by omega) (by omega)) c38
    | succ k ih =>
      intro i h2 hb
      refine X_ildn0 34 dX3_readNumber_33 rfl rfl ?_
      refine X_aldn2 35 dX3_readNumber_34 rfl rfl ?_
      refine X_getI 38 dX3_readNumber_35 fl_X3_22 rfl rfl ?_
      rw [h4]
      refine X_icge 74 41 dX3_readNumber_38 (by decide) rfl (fun c38 => ?_) (fun c38 => ?_)
      · have c38 := leq c38 rfl (by omega) (by omega)
        omega
      · refine X_aldn2 42 dX3_readNumber_41 rfl rfl ?_
        refine X_ildn0 43 dX3_readNumber_42 rfl rfl ?_
        refine X_callV1 3 46 dX3_readNumber_43 cw_X3_38 zk_X3_letterAt ⟨rfl, rfl⟩ rfl rfl rfl (S_X3_letterAt ?_)
        rw [ltX_at hT (by omega)]
        refine X_pu ?_
        refine X_callS1 49 dX3_readNumber_46 cw_X3_125 zk_X3_isDigit rfl rfl (S_X3_isDigit ?_)
        refine X_pu ?_
        refine X_ifne 54 52 dX3_readNumber_49 (by decide) rfl (fun c49 => ?_) (fun c49 => ?_)
        · refine X_ildn1 55 dX3_readNumber_54 rfl rfl ?_
          refine X_bipush 10 57 dX3_readNumber_55 (by decide) rfl ?_
          refine X_imul 58 dX3_readNumber_57 rfl ?_
          refine X_aldn2 59 dX3_readNumber_58 rfl rfl ?_
          refine X_ildn0 60 dX3_readNumber_59 rfl rfl ?_
          refine X_callV1 3 63 dX3_readNumber_60 cw_X3_38 zk_X3_letterAt ⟨rfl, rfl⟩ rfl rfl rfl (S_X3_letterAt ?_)
          rw [ltX_at hT (by omega)]
          refine X_pu ?_
          refine X_iadd 64 dX3_readNumber_63 rfl ?_
          refine X_bipush 48 66 dX3_readNumber_64 (by decide) rfl ?_
          refine X_isub 67 dX3_readNumber_66 rfl ?_
          refine X_istn1 68 dX3_readNumber_67 rfl rfl rfl rfl ?_
          refine X_inc0 1 71 dX3_readNumber_68 (by decide) rfl rfl rfl ?_
          refine X_goto 33 dX3_readNumber_71 (by decide) ?_
          refine xg_lv ?_ (ih (i + 1) (by omega) ?_)
          · rw [show s + (i + 1) = s + i + 1 by omega, nI_succ, nmR]
          · rw [allN, hb, b2i_n.mp c49]
            rfl
        · refine X_iconst (-1) 53 dX3_readNumber_52 (by decide) rfl ?_
          refine X_iret dX3_readNumber_53 rfl ?_
          refine Qi h ?_
          rw [rdN, if_neg he, if_neg]
          rw [allN_no (i := i) (by omega) (b2i_0.mp c49)]
          decide
  refine X_aldn0 1 dX3_readNumber_0 rfl rfl ?_
  refine X_getI 4 dX3_readNumber_1 fl_X3_32 rfl rfl ?_
  refine X_aldn0 5 dX3_readNumber_4 rfl rfl ?_
  refine X_getI 8 dX3_readNumber_5 fl_X3_22 rfl rfl ?_
  rw [h3, h4]
  refine X_icge 24 11 dX3_readNumber_8 (by decide) rfl (fun c8 => ?_) (fun c8 => ?_)
  · refine X_iconst (-1) 25 dX3_readNumber_24 (by decide) rfl ?_
    refine X_iret dX3_readNumber_25 rfl ?_
    refine Qi h ?_
    rw [rdN, if_pos (Or.inl (leq c8 rfl (by omega) (by omega)))]
  · refine X_aldn0 12 dX3_readNumber_11 rfl rfl ?_
    refine X_getI 15 dX3_readNumber_12 fl_X3_22 rfl rfl ?_
    refine X_aldn0 16 dX3_readNumber_15 rfl rfl ?_
    refine X_getI 19 dX3_readNumber_16 fl_X3_32 rfl rfl ?_
    refine X_isub 20 dX3_readNumber_19 rfl ?_
    refine X_iconst 2 21 dX3_readNumber_20 (by decide) rfl ?_
    rw [h3, h4, pk_sub hse]
    refine X_icle 26 24 dX3_readNumber_21 (by decide) rfl (fun c21 => ?_) (fun c21 => ?_)
    · refine X_iconst 0 27 dX3_readNumber_26 (by decide) rfl ?_
      refine X_istnN 28 dX3_readNumber_27 rfl rfl rfl rfl ?_
      refine X_aldn1 29 dX3_readNumber_28 rfl rfl ?_
      refine X_getI 32 dX3_readNumber_29 fl_X3_32 rfl rfl ?_
      refine X_istnN 33 dX3_readNumber_32 rfl rfl rfl rfl ?_
      rw [h3]
      have a1 := nleq c8 rfl (by omega) (by omega)
      have a2 := (nI_leI (b := 2) (by omega) (by decide)).mp c21
      exact loop (by omega) (e - s) 0 (by omega) rfl
    · refine X_iconst (-1) 25 dX3_readNumber_24 (by decide) rfl ?_
      refine X_iret dX3_readNumber_25 rfl ?_
      refine Qi h ?_
      rw [rdN, if_pos (Or.inr ?_)]
      rw [i_nle] at c21
      have := (nI_ltI (a := 2) (by decide) (by omega)).mp c21
      omega
theorem S_X3_nextToken {p : Nat} (hT : vT σ) (h4 : σ.1 13 4 = nI p) (hp : p ≤ b3 σ) (h : Q none (ntX σ p)) : xg_C (d + 1) mX3_nextToken [.ref 13] σ Q := by
  refine xg_C_of py_X3_nextToken (Nat.le_of_ble_eq_true rfl) ?_
  show xg_X none (d + 1) mX3_nextToken 0 [(0, .ref 13)] [] σ Q
  have hT2 := hT.2
  obtain ⟨hs1, hs2⟩ := tkS_in (L := σ.1 14) hp
  have eb : ∀ v : Int32, b3 (xm_set σ 13 3 v) = b3 σ := fun v => b3_set (by decide)
  have el : ∀ v : Int32, (xm_set σ 13 3 v).1 13 1 = nI (b3 σ) := fun v => (xs_nk (by decide)).trans hT.1
  have el2 : ∀ v w : Int32, (xm_set (xm_set σ 13 3 v) 13 4 w).1 13 1 = nI (b3 σ) := fun v w => (xs_nk (by decide)).trans (el v)
  have tail : xg_X none (d + 1) mX3_nextToken 45 [(0, .ref 13)] [] (xm_set σ 13 3 (nI (tkS (σ.1 14) (b3 σ) p))) Q := by
    unfold ntX at h
    generalize tkS (σ.1 14) (b3 σ) p = s at *
    have run : s < b3 σ → (smL (σ.1 14 s) = true ∨ dgL (σ.1 14 s) = true) → ∀ k i, i + k = b3 σ → rnE (σ.1 14) (b3 σ) (likeL (σ.1 14 s)) k i = tkE (σ.1 14) (b3 σ) s → xg_X none (d + 1) mX3_nextToken 99 [(1, .int (σ.1 14 s)), (0, .ref 13)] [] (xm_set (xm_set σ 13 3 (nI s)) 13 4 (nI i)) Q := by
      intro hsn hl k
      induction k with
      | zero =>
        intro i h2 er
        obtain rfl : i = b3 σ := by omega
        refine X_aldn1 100 dX3_nextToken_99 rfl rfl ?_
        refine X_getI 103 dX3_nextToken_100 fl_X3_22 rfl rfl ?_
        refine X_aldn1 104 dX3_nextToken_103 rfl rfl ?_
        refine X_getI 107 dX3_nextToken_104 fl_X3_35 rfl rfl ?_
        rw [el2, xs_eq]
        refine X_icge 159 110 dX3_nextToken_107 (by decide) rfl (fun c107 => ?_) (fun c107 => ?_)
        · refine X_vret dX3_nextToken_159 rfl ?_
          rw [show b3 σ = tkE (σ.1 14) (b3 σ) s from er] at *
          exact h
        · exact absurd (nI_le (Nat.le_refl _) (by omega)) c107
      | succ k ih =>
        intro i h2 er
        have ei : ltX (xm_set (xm_set σ 13 3 (nI s)) 13 4 (nI i)) (nI i) = σ.1 14 i := by rw [ltX_set (by decide), ltX_set (by decide), ltX_at hT (by omega)]
        refine X_aldn1 100 dX3_nextToken_99 rfl rfl ?_
        refine X_getI 103 dX3_nextToken_100 fl_X3_22 rfl rfl ?_
        refine X_aldn1 104 dX3_nextToken_103 rfl rfl ?_
        refine X_getI 107 dX3_nextToken_104 fl_X3_35 rfl rfl ?_
        rw [el2, xs_eq]
        refine X_icge 159 110 dX3_nextToken_107 (by decide) rfl (fun c107 => ?_) (fun c107 => ?_)
        · have c107 := leq c107 rfl (by omega) (by omega)
          omega
        · refine X_aldn1 111 dX3_nextToken_110 rfl rfl ?_
          refine X_aldn1 112 dX3_nextToken_111 rfl rfl ?_
          refine X_getI 115 dX3_nextToken_112 fl_X3_22 rfl rfl ?_
          rw [xs_eq]
          refine X_callV1 3 118 dX3_nextToken_115 cw_X3_38 zk_X3_letterAt ⟨rfl, rfl⟩ rfl rfl rfl (S_X3_letterAt ?_)
          rw [ei]
          refine X_pu ?_
          refine X_callS1 121 dX3_nextToken_118 cw_X3_129 zk_X3_isSmall rfl rfl (S_X3_isSmall ?_)
          refine X_pu ?_
          refine X_ildn0 122 dX3_nextToken_121 rfl rfl ?_
          refine X_callS1 125 dX3_nextToken_122 cw_X3_129 zk_X3_isSmall rfl rfl (S_X3_isSmall ?_)
          refine X_pu ?_
          refine X_icne 159 128 dX3_nextToken_125 (by decide) rfl (fun c125 => ?_) (fun c125 => ?_)
          · refine X_vret dX3_nextToken_159 rfl ?_
            have q : ¬ (i < b3 σ ∧ likeL (σ.1 14 s) (σ.1 14 i) = true) := by grind [likeL, b2i]
            rw [rnE, if_neg q] at er
            rw [er]
            exact h
          · refine X_aldn1 129 dX3_nextToken_128 rfl rfl ?_
            refine X_aldn1 130 dX3_nextToken_129 rfl rfl ?_
            refine X_getI 133 dX3_nextToken_130 fl_X3_22 rfl rfl ?_
            rw [xs_eq]
            refine X_callV1 3 136 dX3_nextToken_133 cw_X3_38 zk_X3_letterAt ⟨rfl, rfl⟩ rfl rfl rfl (S_X3_letterAt ?_)
            rw [ei]
            refine X_pu ?_
            refine X_callS1 139 dX3_nextToken_136 cw_X3_125 zk_X3_isDigit rfl rfl (S_X3_isDigit ?_)
            refine X_pu ?_
            refine X_ildn0 140 dX3_nextToken_139 rfl rfl ?_
            refine X_callS1 143 dX3_nextToken_140 cw_X3_125 zk_X3_isDigit rfl rfl (S_X3_isDigit ?_)
            refine X_pu ?_
            refine X_icne 159 146 dX3_nextToken_143 (by decide) rfl (fun c143 => ?_) (fun c143 => ?_)
            · refine X_vret dX3_nextToken_159 rfl ?_
              have q : ¬ (i < b3 σ ∧ likeL (σ.1 14 s) (σ.1 14 i) = true) := by grind [likeL, b2i]
              rw [rnE, if_neg q] at er
              rw [er]
              exact h
            · refine X_aldn1 147 dX3_nextToken_146 rfl rfl ?_
              refine X_dup 148 dX3_nextToken_147 rfl rfl ?_
              refine X_getI 151 dX3_nextToken_148 fl_X3_22 rfl rfl ?_
              refine X_iconst 1 152 dX3_nextToken_151 (by decide) rfl ?_
              refine X_iadd 153 dX3_nextToken_152 rfl ?_
              refine X_putI 156 dX3_nextToken_153 fp_X3_22 rfl rfl ?_
              refine X_goto 99 dX3_nextToken_156 (by decide) ?_
              have q : i < b3 σ ∧ likeL (σ.1 14 s) (σ.1 14 i) = true := by
                refine ⟨by omega, ?_⟩
                grind [likeL, b2i]
              rw [rnE, if_pos q] at er
              rw [xs_eq, xs_xs, ← nI_succ]
              exact ih (i + 1) (by omega) er
    refine X_aldn0 46 dX3_nextToken_45 rfl rfl ?_
    refine X_aldn0 47 dX3_nextToken_46 rfl rfl ?_
    refine X_getI 50 dX3_nextToken_47 fl_X3_32 rfl rfl ?_
    refine X_putI 53 dX3_nextToken_50 fp_X3_22 rfl rfl ?_
    refine X_aldn0 54 dX3_nextToken_53 rfl rfl ?_
    refine X_getI 57 dX3_nextToken_54 fl_X3_22 rfl rfl ?_
    refine X_aldn0 58 dX3_nextToken_57 rfl rfl ?_
    refine X_getI 61 dX3_nextToken_58 fl_X3_35 rfl rfl ?_
    rw [xs_eq, xs_eq, el2]
    refine X_iclt 65 64 dX3_nextToken_61 (by decide) rfl (fun c61 => ?_) (fun c61 => ?_)
    · have hsn : s < b3 σ := (nI_ltI (by omega) (by omega)).mp c61
      refine X_aldn0 66 dX3_nextToken_65 rfl rfl ?_
      refine X_aldn0 67 dX3_nextToken_66 rfl rfl ?_
      refine X_getI 70 dX3_nextToken_67 fl_X3_32 rfl rfl ?_
      rw [xs_nk (by decide), xs_eq]
      refine X_callV1 3 73 dX3_nextToken_70 cw_X3_38 zk_X3_letterAt ⟨rfl, rfl⟩ rfl rfl rfl (S_X3_letterAt ?_)
      rw [ltX_set (by decide), ltX_set (by decide), ltX_at hT hsn]
      refine X_pu ?_
      refine X_istnN 74 dX3_nextToken_73 rfl rfl rfl rfl ?_
      refine X_aldn1 75 dX3_nextToken_74 rfl rfl ?_
      refine X_dup 76 dX3_nextToken_75 rfl rfl ?_
      refine X_getI 79 dX3_nextToken_76 fl_X3_22 rfl rfl ?_
      refine X_iconst 1 80 dX3_nextToken_79 (by decide) rfl ?_
      refine X_iadd 81 dX3_nextToken_80 rfl ?_
      refine X_putI 84 dX3_nextToken_81 fp_X3_22 rfl rfl ?_
      refine X_ildn0 85 dX3_nextToken_84 rfl rfl ?_
      refine X_callS1 88 dX3_nextToken_85 cw_X3_129 zk_X3_isSmall rfl rfl (S_X3_isSmall ?_)
      refine X_pu ?_
      refine X_ifne 99 91 dX3_nextToken_88 (by decide) rfl (fun c88 => ?_) (fun c88 => ?_)
      · rw [xs_eq, xs_xs, ← nI_succ]
        exact run hsn (Or.inl (b2i_n.mp c88)) (b3 σ - (s + 1)) (s + 1) (by omega) (by unfold tkE; rw [if_pos hsn, if_pos (Or.inl (b2i_n.mp c88))])
      · refine X_ildn0 92 dX3_nextToken_91 rfl rfl ?_
        refine X_callS1 95 dX3_nextToken_92 cw_X3_125 zk_X3_isDigit rfl rfl (S_X3_isDigit ?_)
        refine X_pu ?_
        refine X_ifne 99 98 dX3_nextToken_95 (by decide) rfl (fun c95 => ?_) (fun c95 => ?_)
        · rw [xs_eq, xs_xs, ← nI_succ]
          exact run hsn (Or.inr (b2i_n.mp c95)) (b3 σ - (s + 1)) (s + 1) (by omega) (by unfold tkE; rw [if_pos hsn, if_pos (Or.inr (b2i_n.mp c95))])
        · refine X_vret dX3_nextToken_98 rfl ?_
          rw [xs_eq, xs_xs, ← nI_succ]
          rw [show tkE (σ.1 14) (b3 σ) s = s + 1 by unfold tkE; rw [if_pos hsn, if_neg (fun q => by rw [b2i_0.mp c88, b2i_0.mp c95] at q; simp at q)]] at h
          exact h
    · refine X_vret dX3_nextToken_64 rfl ?_
      rw [show tkE (σ.1 14) (b3 σ) s = s from if_neg (fun q => c61 (nI_lt q (by omega)))] at h
      exact h
  have loop : ∀ k j, j + k = b3 σ → skB (σ.1 14) (b3 σ) k j = tkS (σ.1 14) (b3 σ) p → xg_X none (d + 1) mX3_nextToken 8 [(0, .ref 13)] [] (xm_set σ 13 3 (nI j)) Q := by
    intro k
    induction k with
    | zero =>
      intro j h2 e
      obtain rfl : j = b3 σ := by omega
      refine X_aldn0 9 dX3_nextToken_8 rfl rfl ?_
      refine X_getI 12 dX3_nextToken_9 fl_X3_32 rfl rfl ?_
      refine X_aldn0 13 dX3_nextToken_12 rfl rfl ?_
      refine X_getI 16 dX3_nextToken_13 fl_X3_35 rfl rfl ?_
      rw [el, xs_eq]
      refine X_icge 45 19 dX3_nextToken_16 (by decide) rfl (fun c16 => ?_) (fun c16 => ?_)
      · rw [← e] at tail
        exact tail
      · exact absurd (nI_le (Nat.le_refl _) (by omega)) c16
    | succ k ih =>
      intro j h2 e
      refine X_aldn0 9 dX3_nextToken_8 rfl rfl ?_
      refine X_getI 12 dX3_nextToken_9 fl_X3_32 rfl rfl ?_
      refine X_aldn0 13 dX3_nextToken_12 rfl rfl ?_
      refine X_getI 16 dX3_nextToken_13 fl_X3_35 rfl rfl ?_
      rw [el, xs_eq]
      refine X_icge 45 19 dX3_nextToken_16 (by decide) rfl (fun c16 => ?_) (fun c16 => ?_)
      · have c16 := leq c16 rfl (by omega) (by omega)
        omega
      · refine X_aldn0 20 dX3_nextToken_19 rfl rfl ?_
        refine X_aldn0 21 dX3_nextToken_20 rfl rfl ?_
        refine X_getI 24 dX3_nextToken_21 fl_X3_32 rfl rfl ?_
        rw [xs_eq]
        refine X_callV1 3 27 dX3_nextToken_24 cw_X3_38 zk_X3_letterAt ⟨rfl, rfl⟩ rfl rfl rfl (S_X3_letterAt ?_)
        rw [ltX_set (by decide), ltX_at hT (by omega)]
        refine X_pu ?_
        refine X_bipush 32 29 dX3_nextToken_27 (by decide) rfl ?_
        refine X_icne 45 32 dX3_nextToken_29 (by decide) rfl (fun c29 => ?_) (fun c29 => ?_)
        · rw [skB, if_neg (fun q => c29 q.2)] at e
          rw [← e] at tail
          exact tail
        · refine X_aldn0 33 dX3_nextToken_32 rfl rfl ?_
          refine X_dup 34 dX3_nextToken_33 rfl rfl ?_
          refine X_getI 37 dX3_nextToken_34 fl_X3_32 rfl rfl ?_
          refine X_iconst 1 38 dX3_nextToken_37 (by decide) rfl ?_
          refine X_iadd 39 dX3_nextToken_38 rfl ?_
          refine X_putI 42 dX3_nextToken_39 fp_X3_32 rfl rfl ?_
          refine X_goto 8 dX3_nextToken_42 (by decide) ?_
          rw [xs_eq, xs_xs, ← nI_succ]
          refine ih (j + 1) (by omega) ?_
          rw [skB, if_pos ⟨by omega, c29⟩] at e
          exact e
  refine X_aldn0 1 dX3_nextToken_0 rfl rfl ?_
  refine X_aldn0 2 dX3_nextToken_1 rfl rfl ?_
  refine X_getI 5 dX3_nextToken_2 fl_X3_22 rfl rfl ?_
  refine X_putI 8 dX3_nextToken_5 fp_X3_32 rfl rfl ?_
  rw [h4]
  exact loop (b3 σ - p) p (by omega) rfl
end READER

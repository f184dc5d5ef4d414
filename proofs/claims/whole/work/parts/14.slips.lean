/-! slips -/
def powX (b : Int32) : Nat → Int64
  | 0 => 1
  | i + 1 => powX b i * b.toInt64
def slA (q : Int32) (nn : Nat) : Nat → Int64 × Int64
  | 0 => (0, 1)
  | i + 1 => ((slA q nn i).1 + (slA q nn i).2 * powX q i * powX (10 - q) (nn - i), (slA q nn i).2 * (nI (nn - i)).toInt64 / (nI i + 1).toInt64)
def gcX : Nat → Int64 → Int64 → Int64
  | 0, a, _ => a
  | s + 1, a, b => if b = 0 then a else gcX s b (a - a / b * b)
def slT (q : Int32) (nn kk : Nat) (part : Int32) : Int64 := if part = 0 then (slA q nn (min nn kk + 1)).1 else powX 10 nn
def slG (q : Int32) (nn kk : Nat) : Int64 := gcX 64 (slA q nn (min nn kk + 1)).1 (powX 10 nn)
def slZ (q n k part : Int32) : Bool := decide (q < 0) || (decide (10 < q) || (decide (n < 0) || (decide (6 < n) || (decide (k < 0) || (decide (6 < k) || (decide (part < 0) || decide (1 < part)))))))
def f_slips (q n k part : Int32) : Int64 := if slZ q n k part then -3 else if 0 < slG q (ixN n) (ixN k) then slT q (ixN n) (ixN k) part / slG q (ixN n) (ixN k) else slT q (ixN n) (ixN k) part
theorem lcmp_0 {x y : Int64} : (lg_cmp x y = 0) ↔ x = y := by
  constructor
  · intro h
    unfold lg_cmp at h
    split at h
    · exact absurd h (by decide)
    · split at h
      · assumption
      · exact absurd h (by decide)
  · rintro rfl
    unfold lg_cmp
    rw [if_neg (Int64.lt_irrefl), if_pos rfl]
theorem lcmp_le {x y : Int64} : (lg_cmp x y ≤ 0) ↔ x ≤ y := lg_cmp_le x y
theorem l_lt {a b : Int64} : (a < b) = ¬ (b ≤ a) := by rw [Int64.not_le]
theorem le_ex {x M : Int32} (m : Nat) (hM : M = nI m) (hm : m < 2 ^ 30) (h0 : 0 ≤ x) (h : x ≤ M) : ∃ i, i ≤ m ∧ x = nI i := by
  obtain ⟨e, h1⟩ := nI_ex h0
  refine ⟨ixN x, ?_, e⟩
  rw [e, hM] at h
  exact (nI_leI h1 (by omega)).mp h
theorem sl_nz : ∀ i, i < 8 → ¬ (nI i + 1).toInt64 = 0 := by decide +kernel
theorem Ql {Q : Option Value → xm_M → Prop} {σ : xm_M} {v w : Int64} (h : Q (some (.long w)) σ) (e : w = v) : Q (some (.long v)) σ := e ▸ h
section SLIPS
variable {d : Nat} {σ : xm_M} {Q : Option Value → xm_M → Prop}
theorem S_X4_power {b t : Int32} {k : Nat} (ht : t = nI k) (hk : k < 100) (h : Q (some (.long (powX b k))) σ) : xg_C d mX4_power [.int b, .int t] σ Q := by
  subst ht
  refine xg_C_of py_X4_power (Nat.le_of_ble_eq_true rfl) ?_
  show xg_X none d mX4_power 0 [(0, .int b), (1, .int (nI k))] [] σ Q
  have loop : ∀ n i, i + n = k → xg_X none d mX4_power 5 [(4, .int (nI i)), (2, .long (powX b i)), (0, .int b), (1, .int (nI k))] [] σ Q := by
    intro n
    induction n with
    | zero =>
      intro i h2
      obtain rfl : i = k := by omega
      refine X_ild0 7 dX4_power_5 rfl ?_
      refine X_ildn3 8 dX4_power_7 rfl rfl ?_
      refine X_icge 22 11 dX4_power_8 (by decide) rfl (fun c8 => ?_) (fun c8 => ?_)
      · refine X_lldn1 23 dX4_power_22 rfl rfl ?_
        refine X_lret dX4_power_23 rfl ?_
        exact h
      · exact absurd (nI_le (Nat.le_refl _) (by omega)) c8
    | succ n ih =>
      intro i h2
      refine X_ild0 7 dX4_power_5 rfl ?_
      refine X_ildn3 8 dX4_power_7 rfl rfl ?_
      refine X_icge 22 11 dX4_power_8 (by decide) rfl (fun c8 => ?_) (fun c8 => ?_)
      · have c8 := leq c8 rfl (by omega) (by omega)
        omega
      · refine X_lldn1 12 dX4_power_11 rfl rfl ?_
        refine X_ildn2 13 dX4_power_12 rfl rfl ?_
        refine X_i2l 14 dX4_power_13 rfl ?_
        refine X_lmul 15 dX4_power_14 rfl ?_
        refine X_lstn1 16 dX4_power_15 rfl rfl rfl rfl ?_
        refine X_inc0 1 19 dX4_power_16 (by decide) rfl rfl rfl ?_
        refine X_goto 5 dX4_power_19 (by decide) ?_
        exact xg_lv (by rw [nI_succ, powX]) (ih (i + 1) (by omega))
  refine X_lconst 1 1 dX4_power_0 (by decide) rfl ?_
  refine X_lstnN 2 dX4_power_1 rfl rfl rfl rfl ?_
  refine X_iconst 0 3 dX4_power_2 (by decide) rfl ?_
  refine X_istN 5 dX4_power_3 rfl rfl rfl ?_
  exact loop k 0 (by omega)
theorem S_X4_commonDivisor {a b : Int64} (h : Q (some (.long (gcX 64 a b))) σ) : xg_C d mX4_commonDivisor [.long a, .long b] σ Q := by
  refine xg_C_of py_X4_commonDivisor (Nat.le_of_ble_eq_true rfl) ?_
  show xg_X none d mX4_commonDivisor 0 [(0, .long a), (2, .long b)] [] σ Q
  have loop : ∀ n i x y, i + n = 64 → Q (some (.long (gcX n x y))) σ → ∀ l, xg_X none d mX4_commonDivisor 9 (l ++ [(8, .int (nI i)), (6, .long y), (4, .long x), (0, .long a), (2, .long b)]) [] σ Q := by
    intro n
    induction n with
    | zero =>
      intro i x y h2 h l
      obtain rfl : i = 64 := by omega
      refine xg_sub (lw := [(8, .int (nI 64)), (6, .long y), (4, .long x), (0, .long a), (2, .long b)]) (fun q hq => List.mem_append_right _ hq) ?_
      refine X_ild0 11 dX4_commonDivisor_9 rfl ?_
      refine X_bipush 64 13 dX4_commonDivisor_11 (by decide) rfl ?_
      refine X_icge 44 16 dX4_commonDivisor_13 (by decide) rfl (fun c13 => ?_) (fun c13 => ?_)
      · refine X_lld2 46 dX4_commonDivisor_44 rfl ?_
        refine X_lret dX4_commonDivisor_46 rfl ?_
        exact h
      · exact absurd (by decide) c13
    | succ n ih =>
      intro i x y h2 h l
      refine xg_sub (lw := [(8, .int (nI i)), (6, .long y), (4, .long x), (0, .long a), (2, .long b)]) (fun q hq => List.mem_append_right _ hq) ?_
      refine X_ild0 11 dX4_commonDivisor_9 rfl ?_
      refine X_bipush 64 13 dX4_commonDivisor_11 (by decide) rfl ?_
      refine X_icge 44 16 dX4_commonDivisor_13 (by decide) rfl (fun c13 => ?_) (fun c13 => ?_)
      · have c13 := leq c13 (n := 64) (by decide) (by decide) (by omega)
        omega
      · refine X_lld1 18 dX4_commonDivisor_16 rfl ?_
        refine X_lconst 0 19 dX4_commonDivisor_18 (by decide) rfl ?_
        refine X_lcmp 20 dX4_commonDivisor_19 rfl ?_
        refine X_ifeq 44 23 dX4_commonDivisor_20 (by decide) rfl (fun c20 => ?_) (fun c20 => ?_)
        · refine X_lld2 46 dX4_commonDivisor_44 rfl ?_
          refine X_lret dX4_commonDivisor_46 rfl ?_
          rw [lcmp_0] at c20
          rw [gcX, if_pos c20] at h
          exact h
        · refine X_lld2 25 dX4_commonDivisor_23 rfl ?_
          refine X_lld1 27 dX4_commonDivisor_25 rfl ?_
          refine X_lrem 28 dX4_commonDivisor_27 rfl (fun e => c20 (lcmp_0.mpr e)) ?_
          refine X_lstN 30 dX4_commonDivisor_28 rfl rfl rfl ?_
          refine X_lld2 32 dX4_commonDivisor_30 rfl ?_
          refine X_lst3 34 dX4_commonDivisor_32 rfl rfl rfl ?_
          refine X_lld0 36 dX4_commonDivisor_34 rfl ?_
          refine X_lst2 38 dX4_commonDivisor_36 rfl rfl rfl ?_
          refine X_inc1 1 41 dX4_commonDivisor_38 (by decide) rfl rfl rfl ?_
          refine X_goto 9 dX4_commonDivisor_41 (by decide) ?_
          rw [lcmp_0] at c20
          rw [gcX, if_neg c20] at h
          exact xg_lv (by rw [nI_succ]; rfl) (ih (i + 1) _ _ (by omega) h [(9, .long (x - x / y * y))])
  refine X_lldn0 1 dX4_commonDivisor_0 rfl rfl ?_
  refine X_lstN 3 dX4_commonDivisor_1 rfl rfl rfl ?_
  refine X_lldn2 4 dX4_commonDivisor_3 rfl rfl ?_
  refine X_lstN 6 dX4_commonDivisor_4 rfl rfl rfl ?_
  refine X_iconst 0 7 dX4_commonDivisor_6 (by decide) rfl ?_
  refine X_istN 9 dX4_commonDivisor_7 rfl rfl rfl ?_
  exact loop 64 0 a b rfl h []
theorem S_X4_slips {q n k part : Int32} (h : Q (some (.long (f_slips q n k part))) σ) : xg_C (d + 1) mX4_slips [.ref 0, .int q, .int n, .int k, .int part] σ Q := by
  refine xg_C_of py_X4_slips (Nat.le_of_ble_eq_true rfl) ?_
  show xg_X none (d + 1) mX4_slips 0 [(0, .ref 0), (1, .int q), (2, .int n), (3, .int k), (4, .int part)] [] σ Q
  have body : ∀ nn kk : Nat, nn ≤ 6 → kk ≤ 6 → Q (some (.long (if 0 < slG q nn kk then slT q nn kk part / slG q nn kk else slT q nn kk part))) σ → ∀ m i, i + m = min nn kk + 1 → xg_X none (d + 1) mX4_slips 58 [(9, .int (nI i)), (7, .long (slA q nn i).2), (5, .long (slA q nn i).1), (0, .ref 0), (1, .int q), (2, .int (nI nn)), (3, .int (nI kk)), (4, .int part)] [] σ Q := by
    intro nn kk hn hk h m
    induction m with
    | zero =>
      intro i h2
      obtain rfl : i = min nn kk + 1 := by omega
      refine X_ild0 60 dX4_slips_58 rfl ?_
      refine X_ildn5 61 dX4_slips_60 rfl rfl ?_
      refine X_icgt 118 64 dX4_slips_61 (by decide) rfl (fun c61 => ?_) (fun c61 => ?_)
      · refine X_bipush 10 120 dX4_slips_118 (by decide) rfl ?_
        refine X_ildn5 121 dX4_slips_120 rfl rfl ?_
        refine X_callS2 124 dX4_slips_121 cw_X4_240 zk_X4_power rfl rfl (S_X4_power (k := nn) rfl (by omega) ?_)
        refine X_pu ?_
        refine X_lst0 126 dX4_slips_124 rfl rfl rfl ?_
        refine X_lld2 128 dX4_slips_126 rfl ?_
        refine X_lld0 130 dX4_slips_128 rfl ?_
        refine X_callS2 133 dX4_slips_130 cw_X4_244 zk_X4_commonDivisor rfl rfl (S_X4_commonDivisor ?_)
        refine X_pu ?_
        refine X_lstN 135 dX4_slips_133 rfl rfl rfl ?_
        refine X_ild8 137 dX4_slips_135 rfl ?_
        refine X_ifne 145 140 dX4_slips_137 (by decide) rfl (fun c137 => ?_) (fun c137 => ?_)
        · refine X_lld1 147 dX4_slips_145 rfl ?_
          refine X_lstN 149 dX4_slips_147 rfl rfl rfl ?_
          refine X_lld1 151 dX4_slips_149 rfl ?_
          refine X_lconst 0 152 dX4_slips_151 (by decide) rfl ?_
          refine X_lcmp 153 dX4_slips_152 rfl ?_
          refine X_ifle 164 156 dX4_slips_153 (by decide) rfl (fun c153 => ?_) (fun c153 => ?_)
          · refine X_lld0 166 dX4_slips_164 rfl ?_
            refine X_lret dX4_slips_166 rfl ?_
            refine Ql h ?_
            rw [lcmp_le] at c153
            simp only [l_lt]
            grind [slT, slG]
          · refine X_lld0 158 dX4_slips_156 rfl ?_
            refine X_lld1 160 dX4_slips_158 rfl ?_
            refine X_ldiv 161 dX4_slips_160 rfl (fun e => by rw [lcmp_le] at c153; rw [e] at c153; exact c153 (by decide)) ?_
            refine X_goto 166 dX4_slips_161 (by decide) ?_
            refine X_lret dX4_slips_166 rfl ?_
            refine Ql h ?_
            rw [lcmp_le] at c153
            simp only [l_lt]
            grind [slT, slG]
        · refine X_lld3 142 dX4_slips_140 rfl ?_
          refine X_goto 147 dX4_slips_142 (by decide) ?_
          refine X_lstN 149 dX4_slips_147 rfl rfl rfl ?_
          refine X_lld1 151 dX4_slips_149 rfl ?_
          refine X_lconst 0 152 dX4_slips_151 (by decide) rfl ?_
          refine X_lcmp 153 dX4_slips_152 rfl ?_
          refine X_ifle 164 156 dX4_slips_153 (by decide) rfl (fun c153 => ?_) (fun c153 => ?_)
          · refine X_lld0 166 dX4_slips_164 rfl ?_
            refine X_lret dX4_slips_166 rfl ?_
            refine Ql h ?_
            rw [lcmp_le] at c153
            simp only [l_lt]
            grind [slT, slG]
          · refine X_lld0 158 dX4_slips_156 rfl ?_
            refine X_lld1 160 dX4_slips_158 rfl ?_
            refine X_ldiv 161 dX4_slips_160 rfl (fun e => by rw [lcmp_le] at c153; rw [e] at c153; exact c153 (by decide)) ?_
            refine X_goto 166 dX4_slips_161 (by decide) ?_
            refine X_lret dX4_slips_166 rfl ?_
            refine Ql h ?_
            rw [lcmp_le] at c153
            simp only [l_lt]
            grind [slT, slG]
      · refine X_ild0 66 dX4_slips_64 rfl ?_
        refine X_ildn6 67 dX4_slips_66 rfl rfl ?_
        refine X_icgt 118 70 dX4_slips_67 (by decide) rfl (fun c67 => ?_) (fun c67 => ?_)
        · refine X_bipush 10 120 dX4_slips_118 (by decide) rfl ?_
          refine X_ildn5 121 dX4_slips_120 rfl rfl ?_
          refine X_callS2 124 dX4_slips_121 cw_X4_240 zk_X4_power rfl rfl (S_X4_power (k := nn) rfl (by omega) ?_)
          refine X_pu ?_
          refine X_lst0 126 dX4_slips_124 rfl rfl rfl ?_
          refine X_lld2 128 dX4_slips_126 rfl ?_
          refine X_lld0 130 dX4_slips_128 rfl ?_
          refine X_callS2 133 dX4_slips_130 cw_X4_244 zk_X4_commonDivisor rfl rfl (S_X4_commonDivisor ?_)
          refine X_pu ?_
          refine X_lstN 135 dX4_slips_133 rfl rfl rfl ?_
          refine X_ild8 137 dX4_slips_135 rfl ?_
          refine X_ifne 145 140 dX4_slips_137 (by decide) rfl (fun c137 => ?_) (fun c137 => ?_)
          · refine X_lld1 147 dX4_slips_145 rfl ?_
            refine X_lstN 149 dX4_slips_147 rfl rfl rfl ?_
            refine X_lld1 151 dX4_slips_149 rfl ?_
            refine X_lconst 0 152 dX4_slips_151 (by decide) rfl ?_
            refine X_lcmp 153 dX4_slips_152 rfl ?_
            refine X_ifle 164 156 dX4_slips_153 (by decide) rfl (fun c153 => ?_) (fun c153 => ?_)
            · refine X_lld0 166 dX4_slips_164 rfl ?_
              refine X_lret dX4_slips_166 rfl ?_
              refine Ql h ?_
              rw [lcmp_le] at c153
              simp only [l_lt]
              grind [slT, slG]
            · refine X_lld0 158 dX4_slips_156 rfl ?_
              refine X_lld1 160 dX4_slips_158 rfl ?_
              refine X_ldiv 161 dX4_slips_160 rfl (fun e => by rw [lcmp_le] at c153; rw [e] at c153; exact c153 (by decide)) ?_
              refine X_goto 166 dX4_slips_161 (by decide) ?_
              refine X_lret dX4_slips_166 rfl ?_
              refine Ql h ?_
              rw [lcmp_le] at c153
              simp only [l_lt]
              grind [slT, slG]
          · refine X_lld3 142 dX4_slips_140 rfl ?_
            refine X_goto 147 dX4_slips_142 (by decide) ?_
            refine X_lstN 149 dX4_slips_147 rfl rfl rfl ?_
            refine X_lld1 151 dX4_slips_149 rfl ?_
            refine X_lconst 0 152 dX4_slips_151 (by decide) rfl ?_
            refine X_lcmp 153 dX4_slips_152 rfl ?_
            refine X_ifle 164 156 dX4_slips_153 (by decide) rfl (fun c153 => ?_) (fun c153 => ?_)
            · refine X_lld0 166 dX4_slips_164 rfl ?_
              refine X_lret dX4_slips_166 rfl ?_
              refine Ql h ?_
              rw [lcmp_le] at c153
              simp only [l_lt]
              grind [slT, slG]
            · refine X_lld0 158 dX4_slips_156 rfl ?_
              refine X_lld1 160 dX4_slips_158 rfl ?_
              refine X_ldiv 161 dX4_slips_160 rfl (fun e => by rw [lcmp_le] at c153; rw [e] at c153; exact c153 (by decide)) ?_
              refine X_goto 166 dX4_slips_161 (by decide) ?_
              refine X_lret dX4_slips_166 rfl ?_
              refine Ql h ?_
              rw [lcmp_le] at c153
              simp only [l_lt]
              grind [slT, slG]
        · rw [i_nlt] at c61 c67
          have a1 := (nI_leI (by omega) (by omega)).mp c61
          have a2 := (nI_leI (by omega) (by omega)).mp c67
          omega
    | succ m ih =>
      intro i h2
      refine X_ild0 60 dX4_slips_58 rfl ?_
      refine X_ildn5 61 dX4_slips_60 rfl rfl ?_
      refine X_icgt 118 64 dX4_slips_61 (by decide) rfl (fun c61 => ?_) (fun c61 => ?_)
      · exact absurd c61 (nI_nlt (by omega) (by omega))
      · refine X_ild0 66 dX4_slips_64 rfl ?_
        refine X_ildn6 67 dX4_slips_66 rfl rfl ?_
        refine X_icgt 118 70 dX4_slips_67 (by decide) rfl (fun c67 => ?_) (fun c67 => ?_)
        · exact absurd c67 (nI_nlt (by omega) (by omega))
        · refine X_lld2 72 dX4_slips_70 rfl ?_
          refine X_lld1 74 dX4_slips_72 rfl ?_
          refine X_ildn4 75 dX4_slips_74 rfl rfl ?_
          refine X_ild0 77 dX4_slips_75 rfl ?_
          refine X_callS2 80 dX4_slips_77 cw_X4_240 zk_X4_power rfl rfl (S_X4_power (k := i) rfl (by omega) ?_)
          refine X_pu ?_
          refine X_lmul 81 dX4_slips_80 rfl ?_
          refine X_bipush 10 83 dX4_slips_81 (by decide) rfl ?_
          refine X_ildn4 84 dX4_slips_83 rfl rfl ?_
          refine X_isub 85 dX4_slips_84 rfl ?_
          refine X_ildn5 86 dX4_slips_85 rfl rfl ?_
          refine X_ild0 88 dX4_slips_86 rfl ?_
          refine X_isub 89 dX4_slips_88 rfl ?_
          refine X_callS2 92 dX4_slips_89 cw_X4_240 zk_X4_power rfl rfl (S_X4_power (k := nn - i) (pk_sub (by omega)) (by omega) ?_)
          refine X_pu ?_
          refine X_lmul 93 dX4_slips_92 rfl ?_
          refine X_ladd 94 dX4_slips_93 rfl ?_
          refine X_lst2 96 dX4_slips_94 rfl rfl rfl ?_
          refine X_lld1 98 dX4_slips_96 rfl ?_
          refine X_ildn5 99 dX4_slips_98 rfl rfl ?_
          refine X_ild0 101 dX4_slips_99 rfl ?_
          refine X_isub 102 dX4_slips_101 rfl ?_
          refine X_i2l 103 dX4_slips_102 rfl ?_
          refine X_lmul 104 dX4_slips_103 rfl ?_
          refine X_ild0 106 dX4_slips_104 rfl ?_
          refine X_iconst 1 107 dX4_slips_106 (by decide) rfl ?_
          refine X_iadd 108 dX4_slips_107 rfl ?_
          refine X_i2l 109 dX4_slips_108 rfl ?_
          refine X_ldiv 110 dX4_slips_109 rfl (sl_nz i (by omega)) ?_
          refine X_lst1 112 dX4_slips_110 rfl rfl rfl ?_
          refine X_inc0 1 115 dX4_slips_112 (by decide) rfl rfl rfl ?_
          refine X_goto 58 dX4_slips_115 (by decide) ?_
          refine xg_lv ?_ (ih (i + 1) (by omega))
          rw [nI_succ, slA, pk_sub (by omega : i ≤ nn)]
  refine X_ildn1 1 dX4_slips_0 rfl rfl ?_
  refine X_iflt 20 4 dX4_slips_1 (by decide) rfl (fun c1 => ?_) (fun c1 => ?_)
  · refine X_ldc2 (-3) 23 dX4_slips_20 cl_X4_238 rfl ?_
    refine X_lret dX4_slips_23 rfl ?_
    refine Ql h ?_
    (try simp only [i_nlt, i_nle] at *)
    rw [f_slips, if_pos (by grind [slZ])]
  · refine X_ildn1 5 dX4_slips_4 rfl rfl ?_
    refine X_bipush 10 7 dX4_slips_5 (by decide) rfl ?_
    refine X_icgt 20 10 dX4_slips_7 (by decide) rfl (fun c7 => ?_) (fun c7 => ?_)
    · refine X_ldc2 (-3) 23 dX4_slips_20 cl_X4_238 rfl ?_
      refine X_lret dX4_slips_23 rfl ?_
      refine Ql h ?_
      (try simp only [i_nlt, i_nle] at *)
      rw [f_slips, if_pos (by grind [slZ])]
    · refine X_ildn2 11 dX4_slips_10 rfl rfl ?_
      refine X_iflt 20 14 dX4_slips_11 (by decide) rfl (fun c11 => ?_) (fun c11 => ?_)
      · refine X_ldc2 (-3) 23 dX4_slips_20 cl_X4_238 rfl ?_
        refine X_lret dX4_slips_23 rfl ?_
        refine Ql h ?_
        (try simp only [i_nlt, i_nle] at *)
        rw [f_slips, if_pos (by grind [slZ])]
      · refine X_ildn2 15 dX4_slips_14 rfl rfl ?_
        refine X_bipush 6 17 dX4_slips_15 (by decide) rfl ?_
        refine X_icle 24 20 dX4_slips_17 (by decide) rfl (fun c17 => ?_) (fun c17 => ?_)
        · refine X_ildn3 25 dX4_slips_24 rfl rfl ?_
          refine X_iflt 45 28 dX4_slips_25 (by decide) rfl (fun c25 => ?_) (fun c25 => ?_)
          · refine X_ldc2 (-3) 48 dX4_slips_45 cl_X4_238 rfl ?_
            refine X_lret dX4_slips_48 rfl ?_
            refine Ql h ?_
            (try simp only [i_nlt, i_nle] at *)
            rw [f_slips, if_pos (by grind [slZ])]
          · refine X_ildn3 29 dX4_slips_28 rfl rfl ?_
            refine X_bipush 6 31 dX4_slips_29 (by decide) rfl ?_
            refine X_icgt 45 34 dX4_slips_31 (by decide) rfl (fun c31 => ?_) (fun c31 => ?_)
            · refine X_ldc2 (-3) 48 dX4_slips_45 cl_X4_238 rfl ?_
              refine X_lret dX4_slips_48 rfl ?_
              refine Ql h ?_
              (try simp only [i_nlt, i_nle] at *)
              rw [f_slips, if_pos (by grind [slZ])]
            · refine X_ild4 36 dX4_slips_34 rfl ?_
              refine X_iflt 45 39 dX4_slips_36 (by decide) rfl (fun c36 => ?_) (fun c36 => ?_)
              · refine X_ldc2 (-3) 48 dX4_slips_45 cl_X4_238 rfl ?_
                refine X_lret dX4_slips_48 rfl ?_
                refine Ql h ?_
                (try simp only [i_nlt, i_nle] at *)
                rw [f_slips, if_pos (by grind [slZ])]
              · refine X_ild4 41 dX4_slips_39 rfl ?_
                refine X_iconst 1 42 dX4_slips_41 (by decide) rfl ?_
                refine X_icle 49 45 dX4_slips_42 (by decide) rfl (fun c42 => ?_) (fun c42 => ?_)
                · refine X_lconst 0 50 dX4_slips_49 (by decide) rfl ?_
                  refine X_lstN 52 dX4_slips_50 rfl rfl rfl ?_
                  refine X_lconst 1 53 dX4_slips_52 (by decide) rfl ?_
                  refine X_lstN 55 dX4_slips_53 rfl rfl rfl ?_
                  refine X_iconst 0 56 dX4_slips_55 (by decide) rfl ?_
                  refine X_istN 58 dX4_slips_56 rfl rfl rfl ?_
                  have hz : slZ q n k part = false := by
                    (try simp only [i_nlt, i_nle] at *)
                    grind [slZ]
                  rw [f_slips, if_neg (by rw [hz]; decide)] at h
                  rw [i_nlt] at c11 c25 c31
                  obtain ⟨nn, hn, rfl⟩ := le_ex 6 rfl (by decide) c11 c17
                  obtain ⟨kk, hk, rfl⟩ := le_ex 6 rfl (by decide) c25 c31
                  rw [ixN_nI (by omega), ixN_nI (by omega)] at h
                  exact body nn kk hn hk h (min nn kk + 1) 0 (by omega)
                · refine X_ldc2 (-3) 48 dX4_slips_45 cl_X4_238 rfl ?_
                  refine X_lret dX4_slips_48 rfl ?_
                  refine Ql h ?_
                  (try simp only [i_nlt, i_nle] at *)
                  rw [f_slips, if_pos (by grind [slZ])]
        · refine X_ldc2 (-3) 23 dX4_slips_20 cl_X4_238 rfl ?_
          refine X_lret dX4_slips_23 rfl ?_
          refine Ql h ?_
          (try simp only [i_nlt, i_nle] at *)
          rw [f_slips, if_pos (by grind [slZ])]
end SLIPS

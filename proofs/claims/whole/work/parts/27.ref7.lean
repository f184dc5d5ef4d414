/-! the reference: the town, slips -/
def twt (σ : xm_M) (s : Nat) : Nat → xm_M
  | 0 => tr0 σ
  | t + 1 => if hb (nI s) (nI t) = true then xm_set (twt σ s t) 42 t 2 else twt σ s t
def twa (σ : xm_M) (s t : Nat) : Bool := !hb (nI s) (nI t) || (decide (σ.1 41 t < 2) && (thM σ 41 t && decide (¬ σ.1 37 (4 * t) = 3)))
def two (σ : xm_M) (s t : Nat) : Int32 := if σ.1 37 (4 * t) = 2 ∧ thM σ 41 t = true ∧ (twt σ s (t + 1)).1 42 t = 0 then 1 else 0
def twm (σ : xm_M) (g : Int32) (s : Nat) : Bool := allN (twa σ s) (nM σ) && (decide (g ≤ sumI (nM σ) (two σ s)) && decide (loM (twt σ s (nM σ)) 42 3 = -1))
def twp (σ : xm_M) (s : Nat) : Int32 := sumI (nM (twt σ s (nM σ))) (prM (twt σ s (nM σ)) 42)
def twk (σ : xm_M) (g : Int32) : Nat → Int32 × Int32
  | 0 => (-1, -1)
  | s + 1 => if twm σ g s = true ∧ (twk σ g s).1 < twp σ s then (twp σ s, nI s) else twk σ g s
def g_town (σ : xm_M) (g y : Int32) : Int32 := if inB g 0 8 = false ∨ inB y 0 1 = false then -3 else if y = 0 then (twk σ g (2 ^ nM σ)).1 else (twk σ g (2 ^ nM σ)).2
theorem twt_sm {σ : xm_M} {s : Nat} : ∀ t, t ≤ 8 → smF σ (twt σ s t)
  | 0, _ => tr0_sm
  | t + 1, h => by
    rw [twt]
    split
    · exact smF_tr (twt_sm t (by omega)) (set_sm (by omega))
    · exact twt_sm t (by omega)
theorem thM_sm {σ τ : xm_M} {t : Nat} (h : smF σ τ) : thM τ 41 t = thM σ 41 t := by
  unfold thM
  rw [smF_ne h (c := 41) (by decide), smF_ne h (c := 37) (by decide)]
theorem pow_sh : ∀ n, n ≤ 8 → (1 : Int32) <<< (nI n &&& 31) = nI (2 ^ n) := by decide
theorem pow_le : ∀ n, n ≤ 8 → 2 ^ n ≤ 256 := by decide
def dwM : Nat → Int64
  | 0 => 1
  | i + 1 => dwM i * 10
def vsM (q : Int32) (i : Nat) (w : Int64) : Nat → Int64
  | 0 => w
  | j + 1 => vsM q i w j * (if nI i ≤ nI j then (10 - q).toInt64 else q.toInt64)
def waM (n : Nat) : Nat → Int64
  | 0 => 1
  | i + 1 => waM n i * (nI n - nI i).toInt64 / (nI i + 1).toInt64
def upM (q : Int32) (n k : Nat) : Nat → Int64
  | 0 => 0
  | i + 1 => upM q n k i + (if nI k < nI i then 0 else vsM q i (waM n i) n)
def gcK : Nat → Int64 → Int64 → Option Int64
  | 0, a, b => if b ≤ 0 then some a else none
  | s + 1, a, b => if b ≤ 0 then some a else gcK s b (a - a / b * b)
def sgM (q : Int32) (n k : Nat) : Option Int64 := gcK 40 (upM q n k (n + 1)) (dwM n)
def g_slips (q n k part : Int32) : Int64 := if inB q 0 10 = false ∨ inB n 0 6 = false ∨ inB k 0 6 = false ∨ inB part 0 1 = false then -3 else (if part = 0 then upM q (ixN n) (ixN k) (ixN n + 1) else dwM (ixN n)) / (sgM q (ixN n) (ixN k)).getD 1
theorem sg_ok : ∀ q, q ≤ 10 → ∀ n, n ≤ 6 → ∀ k, k ≤ 6 → ∃ g, sgM (nI q) n k = some g ∧ ¬ g = 0 := by
  have : ∀ q : Fin 11, ∀ n : Fin 7, ∀ k : Fin 7, (match sgM (nI q.val) n.val k.val with | none => false | some g => decide (¬ g = 0)) = true := by decide +kernel
  intro q hq n hn k hk
  have e := this ⟨q, by omega⟩ ⟨n, by omega⟩ ⟨k, by omega⟩
  revert e
  simp only
  cases sgM (nI q) n k with
  | none => intro e; exact absurd e (by decide)
  | some g => intro e; exact ⟨g, rfl, of_decide_eq_true e⟩
section REF7
variable {d : Nat} {σ : xm_M} {Q : Option Value → xm_M → Prop}
theorem S_X5_town {x y : Int32} (hv : vXm σ) (h : ∀ τ, smF σ τ → Q (some (.int (g_town σ x y))) τ) : xg_C (d + 4) mX5_town [.ref 36, .int x, .int y] σ Q := by
  refine xg_C_of py_X5_town (Nat.le_of_ble_eq_true rfl) ?_
  show xg_X none (d + 4) mX5_town 0 [(0, .ref 36), (1, .int x), (2, .int y)] [] σ Q
  have hv' := hv
  obtain ⟨hn, hn8⟩ := hv
  have hp := pow_sh _ hn8
  have hp2 := pow_le _ hn8
  have loop : inB x 0 8 = true → inB y 0 1 = true → ∀ j s, s + j = 2 ^ nM σ → ∀ τ, smF σ τ → ∀ lx, xg_X none (d + 4) mX5_town 30 (lx ++ [(5, .int (nI s)), (4, .int (twk σ x s).1), (3, .int (twk σ x s).2), (0, .ref 36), (1, .int x), (2, .int y)]) [] τ Q := by
    intro hx hy j
    induction j with
    | zero =>
      intro s hs τ hτ lx
      obtain rfl : s = 2 ^ nM σ := by omega
      refine xg_sub (lw := [(5, .int (nI (2 ^ nM σ))), (4, .int (twk σ x (2 ^ nM σ)).1), (3, .int (twk σ x (2 ^ nM σ)).2), (0, .ref 36), (1, .int x), (2, .int y)]) (fun q hq => List.mem_append_right _ hq) ?_
      refine X_ild0 32 dX5_town_30 rfl ?_
      refine X_iconst 1 33 dX5_town_32 (by decide) rfl ?_
      refine X_aldn3 34 dX5_town_33 rfl rfl ?_
      refine X_getI 37 dX5_town_34 fl_X5_72 rfl rfl ?_
      refine X_ishl 38 dX5_town_37 rfl ?_
      rw [smF_ne hτ (c := 36) (by decide), hn, hp]
      refine X_icge 250 41 dX5_town_38 (by decide) rfl (fun c38 => ?_) (fun c38 => ?_)
      · refine X_ildn5 251 dX5_town_250 rfl rfl ?_
        refine X_ifne 259 254 dX5_town_251 (by decide) rfl (fun c251 => ?_) (fun c251 => ?_)
        · refine X_ildn2 260 dX5_town_259 rfl rfl ?_
          refine X_iret dX5_town_260 rfl ?_
          refine Qi (h _ hτ) ?_
          grind [g_town]
        · refine X_ild1 256 dX5_town_254 rfl ?_
          refine X_goto 260 dX5_town_256 (by decide) ?_
          refine X_iret dX5_town_260 rfl ?_
          refine Qi (h _ hτ) ?_
          grind [g_town]
      · exact absurd (nI_le (Nat.le_refl _) (by omega)) c38
    | succ j ih =>
      intro s hs τ hτ lx
      refine xg_sub (lw := [(5, .int (nI s)), (4, .int (twk σ x s).1), (3, .int (twk σ x s).2), (0, .ref 36), (1, .int x), (2, .int y)]) (fun q hq => List.mem_append_right _ hq) ?_
      have fin : ∀ z o w, w = b2i (twm σ x s) → xg_X none (d + 4) mX5_town 213 [(8, .int z), (7, .int o), (6, .int (b2i (allN (twa σ s) (nM σ)))), (5, .int (nI s)), (4, .int (twk σ x s).1), (3, .int (twk σ x s).2), (0, .ref 36), (1, .int x), (2, .int y)] [.int w] (twt σ s (nM σ)) Q := by
        intro z o w ew
        have q := twt_sm (σ := σ) (s := s) (nM σ) hn8
        have nxt := ih (s + 1) (by omega) _ q [(8, .int (twp σ s)), (7, .int o), (6, .int w)]
        rw [twk, nI_succ] at nxt
        refine X_ist2 215 dX5_town_213 rfl rfl rfl ?_
        refine X_aldn6 216 dX5_town_215 rfl rfl ?_
        refine X_aldn6 217 dX5_town_216 rfl rfl ?_
        refine X_getA 42 220 dX5_town_217 fl_X5_35 rfl rfl ?_
        refine X_callV1 5 223 dX5_town_220 cw_X5_239 zk_X5_pricesOf ⟨rfl, rfl⟩ rfl rfl rfl (S_X5_pricesOf (Or.inr rfl) (vXm_sm q hv') ?_)
        refine X_pu ?_
        refine X_ist0 225 dX5_town_223 rfl rfl rfl ?_
        refine X_ild2 227 dX5_town_225 rfl ?_
        refine X_ifeq 244 230 dX5_town_227 (by decide) rfl (fun c227 => ?_) (fun c227 => ?_)
        · rw [ew, b2i_0] at c227
          refine X_inc3 1 247 dX5_town_244 (by decide) rfl rfl rfl ?_
          refine X_goto 30 dX5_town_247 (by decide) ?_
          rw [if_neg (fun q => by rw [q.1] at c227; exact absurd c227 (by decide))] at nxt
          exact nxt
        · rw [ew, b2i_n] at c227
          refine X_ild0 232 dX5_town_230 rfl ?_
          refine X_ild4 234 dX5_town_232 rfl ?_
          refine X_icle 244 237 dX5_town_234 (by decide) rfl (fun c234 => ?_) (fun c234 => ?_)
          · refine X_inc3 1 247 dX5_town_244 (by decide) rfl rfl rfl ?_
            refine X_goto 30 dX5_town_247 (by decide) ?_
            rw [if_neg (fun q => by rw [← i_nle] at q; exact q.2 c234)] at nxt
            exact nxt
          · refine X_ild0 239 dX5_town_237 rfl ?_
            refine X_ist4 241 dX5_town_239 rfl rfl rfl ?_
            refine X_ild3 243 dX5_town_241 rfl ?_
            refine X_istn5 244 dX5_town_243 rfl rfl rfl rfl ?_
            refine X_inc3 1 247 dX5_town_244 (by decide) rfl rfl rfl ?_
            refine X_goto 30 dX5_town_247 (by decide) ?_
            rw [if_pos ⟨c227, by rw [i_nle] at c234; exact c234⟩] at nxt
            exact nxt
      have tl : ∀ m t, t + m = nM σ → xg_X none (d + 4) mX5_town 63 [(8, .int (nI t)), (7, .int (sumI t (two σ s))), (6, .int (b2i (allN (twa σ s) t))), (5, .int (nI s)), (4, .int (twk σ x s).1), (3, .int (twk σ x s).2), (0, .ref 36), (1, .int x), (2, .int y)] [] (twt σ s t) Q := by
        intro m
        induction m with
        | zero =>
          intro t ht
          obtain rfl : t = nM σ := by omega
          have q := twt_sm (σ := σ) (s := s) (nM σ) hn8
          refine X_ild0 65 dX5_town_63 rfl ?_
          refine X_aldn6 66 dX5_town_65 rfl rfl ?_
          refine X_getI 69 dX5_town_66 fl_X5_72 rfl rfl ?_
          rw [smF_ne q (c := 36) (by decide)]
          refine X_icge 185 72 dX5_town_69 (by decide) rfl (fun c69 => ?_) (fun c69 => ?_)
          · refine X_ild2 187 dX5_town_185 rfl ?_
            refine X_ifeq 212 190 dX5_town_187 (by decide) rfl (fun c187 => ?_) (fun c187 => ?_)
            · refine X_iconst 0 213 dX5_town_212 (by decide) rfl ?_
              refine fin _ _ _ ?_
              (try simp only [i_nlt, i_nle] at *)
              grind [b2i, twm]
            · refine X_ild1 192 dX5_town_190 rfl ?_
              refine X_ildn7 193 dX5_town_192 rfl rfl ?_
              refine X_iclt 212 196 dX5_town_193 (by decide) rfl (fun c193 => ?_) (fun c193 => ?_)
              · refine X_iconst 0 213 dX5_town_212 (by decide) rfl ?_
                refine fin _ _ _ ?_
                (try simp only [i_nlt, i_nle] at *)
                grind [b2i, twm]
              · refine X_aldn6 197 dX5_town_196 rfl rfl ?_
                refine X_aldn6 198 dX5_town_197 rfl rfl ?_
                refine X_getA 42 201 dX5_town_198 fl_X5_35 rfl rfl ?_
                refine X_callV1 5 204 dX5_town_201 cw_X5_235 zk_X5_tooLoaded ⟨rfl, rfl⟩ rfl rfl rfl (S_X5_tooLoaded (Or.inr rfl) (vXm_sm q hv') ?_)
                refine X_pu ?_
                refine X_iconst (-1) 205 dX5_town_204 (by decide) rfl ?_
                refine X_icne 212 208 dX5_town_205 (by decide) rfl (fun c205 => ?_) (fun c205 => ?_)
                · refine X_iconst 0 213 dX5_town_212 (by decide) rfl ?_
                  refine fin _ _ _ ?_
                  (try simp only [i_nlt, i_nle] at *)
                  grind [b2i, twm]
                · refine X_iconst 1 209 dX5_town_208 (by decide) rfl ?_
                  refine X_goto 213 dX5_town_209 (by decide) ?_
                  refine fin _ _ _ ?_
                  (try simp only [i_nlt, i_nle] at *)
                  grind [b2i, twm]
          · exact absurd (by rw [hn]; exact nI_le (Nat.le_refl _) (by omega)) c69
        | succ m ih2 =>
          intro t ht
          have q := twt_sm (σ := σ) (s := s) t (by omega)
          have q1 := twt_sm (σ := σ) (s := s) (t + 1) (by omega)
          have e37 := smF_ne q (c := 37) (by decide)
          have e41 := smF_ne q (c := 41) (by decide)
          have f37 := smF_ne q1 (c := 37) (by decide)
          have eth : thM (twt σ s t) 41 t = thM σ 41 t := thM_sm q
          have fth : thM (twt σ s (t + 1)) 41 t = thM σ 41 t := thM_sm q1
          have nxt := ih2 (t + 1) (by omega)
          rw [nI_succ, sumI] at nxt
          have opn : ∀ w, w = b2i (allN (twa σ s) (t + 1)) → xg_X none (d + 4) mX5_town 136 [(8, .int (nI t)), (7, .int (sumI t (two σ s))), (6, .int w), (5, .int (nI s)), (4, .int (twk σ x s).1), (3, .int (twk σ x s).2), (0, .ref 36), (1, .int x), (2, .int y)] [] (twt σ s (t + 1)) Q := by
            intro w ew
            subst ew
            refine X_ild1 138 dX5_town_136 rfl ?_
            refine X_aldn6 139 dX5_town_138 rfl rfl ?_
            refine X_ild0 141 dX5_town_139 rfl ?_
            refine X_callV1 5 144 dX5_town_141 cw_X5_199 zk_X5_kindOf ⟨rfl, rfl⟩ rfl rfl rfl (S_X5_kindOf (by omega) ?_)
            rw [f37]
            refine X_pu ?_
            refine X_iconst 2 145 dX5_town_144 (by decide) rfl ?_
            refine X_icne 175 148 dX5_town_145 (by decide) rfl (fun c145 => ?_) (fun c145 => ?_)
            · refine X_iconst 0 176 dX5_town_175 (by decide) rfl ?_
              refine X_iadd 177 dX5_town_176 rfl ?_
              refine X_ist1 179 dX5_town_177 rfl rfl rfl ?_
              refine X_inc0 1 182 dX5_town_179 (by decide) rfl rfl rfl ?_
              refine X_goto 63 dX5_town_182 (by decide) ?_
              refine xg_lv ?_ nxt
              clear nxt ih2 fin ih h hp hp2
              grind [two, b2i]
            · refine X_aldn6 149 dX5_town_148 rfl rfl ?_
              refine X_aldn6 150 dX5_town_149 rfl rfl ?_
              refine X_getA 41 153 dX5_town_150 fl_X5_32 rfl rfl ?_
              refine X_ild0 155 dX5_town_153 rfl ?_
              refine X_callV2 5 158 dX5_town_155 cw_X5_189 zk_X5_isThere ⟨rfl, rfl⟩ rfl rfl rfl (S_X5_isThere (Or.inl rfl) (by omega) ?_)
              rw [fth]
              refine X_pu ?_
              refine X_ifeq 175 161 dX5_town_158 (by decide) rfl (fun c158 => ?_) (fun c158 => ?_)
              · refine X_iconst 0 176 dX5_town_175 (by decide) rfl ?_
                refine X_iadd 177 dX5_town_176 rfl ?_
                refine X_ist1 179 dX5_town_177 rfl rfl rfl ?_
                refine X_inc0 1 182 dX5_town_179 (by decide) rfl rfl rfl ?_
                refine X_goto 63 dX5_town_182 (by decide) ?_
                refine xg_lv ?_ nxt
                clear nxt ih2 fin ih h hp hp2
                grind [two, b2i]
              · refine X_aldn6 162 dX5_town_161 rfl rfl ?_
                refine X_getA 42 165 dX5_town_162 fl_X5_35 rfl rfl ?_
                refine X_ild0 167 dX5_town_165 rfl ?_
                refine X_ialk t 168 dX5_town_167 rfl rfl rfl (show t < 12 by omega) ?_
                refine X_ifne 175 171 dX5_town_168 (by decide) rfl (fun c168 => ?_) (fun c168 => ?_)
                · refine X_iconst 0 176 dX5_town_175 (by decide) rfl ?_
                  refine X_iadd 177 dX5_town_176 rfl ?_
                  refine X_ist1 179 dX5_town_177 rfl rfl rfl ?_
                  refine X_inc0 1 182 dX5_town_179 (by decide) rfl rfl rfl ?_
                  refine X_goto 63 dX5_town_182 (by decide) ?_
                  refine xg_lv ?_ nxt
                  clear nxt ih2 fin ih h hp hp2
                  grind [two, b2i]
                · refine X_iconst 1 172 dX5_town_171 (by decide) rfl ?_
                  refine X_goto 176 dX5_town_172 (by decide) ?_
                  refine X_iadd 177 dX5_town_176 rfl ?_
                  refine X_ist1 179 dX5_town_177 rfl rfl rfl ?_
                  refine X_inc0 1 182 dX5_town_179 (by decide) rfl rfl rfl ?_
                  refine X_goto 63 dX5_town_182 (by decide) ?_
                  refine xg_lv ?_ nxt
                  clear nxt ih2 fin ih h hp hp2
                  grind [two, b2i]
          have mid : ∀ w, hb (nI s) (nI t) = true → w = b2i (allN (twa σ s) (t + 1)) → xg_X none (d + 4) mX5_town 126 [(8, .int (nI t)), (7, .int (sumI t (two σ s))), (6, .int (b2i (allN (twa σ s) t))), (5, .int (nI s)), (4, .int (twk σ x s).1), (3, .int (twk σ x s).2), (0, .ref 36), (1, .int x), (2, .int y)] [.int w] (twt σ s t) Q := by
            intro w hh ew
            refine X_ist2 128 dX5_town_126 rfl rfl rfl ?_
            refine X_aldn6 129 dX5_town_128 rfl rfl ?_
            refine X_getA 42 132 dX5_town_129 fl_X5_35 rfl rfl ?_
            refine X_ild0 134 dX5_town_132 rfl ?_
            refine X_iconst 2 135 dX5_town_134 (by decide) rfl ?_
            refine X_iask t 136 dX5_town_135 rfl rfl rfl (show t < 12 by omega) ?_
            refine xg_mm ?_ (opn w ew)
            rw [twt, if_pos hh]
          refine X_ild0 65 dX5_town_63 rfl ?_
          refine X_aldn6 66 dX5_town_65 rfl rfl ?_
          refine X_getI 69 dX5_town_66 fl_X5_72 rfl rfl ?_
          rw [smF_ne q (c := 36) (by decide)]
          refine X_icge 185 72 dX5_town_69 (by decide) rfl (fun c69 => ?_) (fun c69 => ?_)
          · have c69 := leq c69 hn (by omega) (by omega)
            omega
          · refine X_ild3 74 dX5_town_72 rfl ?_
            refine X_ild0 76 dX5_town_74 rfl ?_
            refine X_callS2 79 dX5_town_76 cw_X5_177 zk_X5_has rfl rfl (S_X5_has ?_)
            refine X_pu ?_
            refine X_ifeq 136 82 dX5_town_79 (by decide) rfl (fun c79 => ?_) (fun c79 => ?_)
            · rw [b2i_0] at c79
              refine xg_mm ?_ (opn _ ?_)
              · rw [twt, if_neg (by rw [c79]; decide)]
              · rw [allN, twa, c79, Bool.not_false, Bool.true_or, Bool.and_true]
            · rw [b2i_n] at c79
              refine X_ild2 84 dX5_town_82 rfl ?_
              refine X_ifeq 125 87 dX5_town_84 (by decide) rfl (fun c84 => ?_) (fun c84 => ?_)
              · refine X_iconst 0 126 dX5_town_125 (by decide) rfl ?_
                refine mid _ c79 ?_
                rw [allN]
                (try simp only [i_nlt, i_nle] at *)
                clear nxt ih2 fin ih h hp hp2 mid opn
                grind [b2i, twa]
              · refine X_aldn6 88 dX5_town_87 rfl rfl ?_
                refine X_getA 41 91 dX5_town_88 fl_X5_32 rfl rfl ?_
                refine X_ild0 93 dX5_town_91 rfl ?_
                refine X_ialk t 94 dX5_town_93 rfl rfl rfl (show t < 12 by omega) ?_
                refine X_iconst 2 95 dX5_town_94 (by decide) rfl ?_
                rw [e41]
                refine X_icge 125 98 dX5_town_95 (by decide) rfl (fun c95 => ?_) (fun c95 => ?_)
                · refine X_iconst 0 126 dX5_town_125 (by decide) rfl ?_
                  refine mid _ c79 ?_
                  rw [allN]
                  (try simp only [i_nlt, i_nle] at *)
                  clear nxt ih2 fin ih h hp hp2 mid opn
                  grind [b2i, twa]
                · refine X_aldn6 99 dX5_town_98 rfl rfl ?_
                  refine X_aldn6 100 dX5_town_99 rfl rfl ?_
                  refine X_getA 41 103 dX5_town_100 fl_X5_32 rfl rfl ?_
                  refine X_ild0 105 dX5_town_103 rfl ?_
                  refine X_callV2 5 108 dX5_town_105 cw_X5_189 zk_X5_isThere ⟨rfl, rfl⟩ rfl rfl rfl (S_X5_isThere (Or.inl rfl) (by omega) ?_)
                  rw [eth]
                  refine X_pu ?_
                  refine X_ifeq 125 111 dX5_town_108 (by decide) rfl (fun c108 => ?_) (fun c108 => ?_)
                  · refine X_iconst 0 126 dX5_town_125 (by decide) rfl ?_
                    refine mid _ c79 ?_
                    rw [allN]
                    (try simp only [i_nlt, i_nle] at *)
                    clear nxt ih2 fin ih h hp hp2 mid opn
                    grind [b2i, twa]
                  · refine X_aldn6 112 dX5_town_111 rfl rfl ?_
                    refine X_ild0 114 dX5_town_112 rfl ?_
                    refine X_callV1 5 117 dX5_town_114 cw_X5_199 zk_X5_kindOf ⟨rfl, rfl⟩ rfl rfl rfl (S_X5_kindOf (by omega) ?_)
                    rw [e37]
                    refine X_pu ?_
                    refine X_iconst 3 118 dX5_town_117 (by decide) rfl ?_
                    refine X_iceq 125 121 dX5_town_118 (by decide) rfl (fun c118 => ?_) (fun c118 => ?_)
                    · refine X_iconst 0 126 dX5_town_125 (by decide) rfl ?_
                      refine mid _ c79 ?_
                      rw [allN]
                      (try simp only [i_nlt, i_nle] at *)
                      clear nxt ih2 fin ih h hp hp2 mid opn
                      grind [b2i, twa]
                    · refine X_iconst 1 122 dX5_town_121 (by decide) rfl ?_
                      refine X_goto 126 dX5_town_122 (by decide) ?_
                      refine mid _ c79 ?_
                      rw [allN]
                      (try simp only [i_nlt, i_nle] at *)
                      clear nxt ih2 fin ih h hp hp2 mid opn
                      grind [b2i, twa]
      refine X_ild0 32 dX5_town_30 rfl ?_
      refine X_iconst 1 33 dX5_town_32 (by decide) rfl ?_
      refine X_aldn3 34 dX5_town_33 rfl rfl ?_
      refine X_getI 37 dX5_town_34 fl_X5_72 rfl rfl ?_
      refine X_ishl 38 dX5_town_37 rfl ?_
      rw [smF_ne hτ (c := 36) (by decide), hn, hp]
      refine X_icge 250 41 dX5_town_38 (by decide) rfl (fun c38 => ?_) (fun c38 => ?_)
      · have c38 := leq c38 (n := 2 ^ nM σ) rfl (by omega) (by omega)
        omega
      · refine X_aldn3 42 dX5_town_41 rfl rfl ?_
        refine X_getA 41 45 dX5_town_42 fl_X5_32 rfl rfl ?_
        refine X_iconst 0 46 dX5_town_45 (by decide) rfl ?_
        refine X_aldn3 47 dX5_town_46 rfl rfl ?_
        refine X_getA 42 50 dX5_town_47 fl_X5_35 rfl rfl ?_
        refine X_iconst 0 51 dX5_town_50 (by decide) rfl ?_
        rw [show (0 : Int32) = nI 0 by decide]
        refine X_callS4 54 dX5_town_51 cw_X5_218 zk_X5_copy rfl rfl (S_X5_copy (by decide) rfl rfl (by decide) (by decide) ?_)
        refine X_pn ?_
        refine X_iconst 1 55 dX5_town_54 (by decide) rfl ?_
        refine X_istN 57 dX5_town_55 rfl rfl rfl ?_
        refine X_iconst 0 58 dX5_town_57 (by decide) rfl ?_
        refine X_istN 60 dX5_town_58 rfl rfl rfl ?_
        refine X_iconst 0 61 dX5_town_60 (by decide) rfl ?_
        refine X_istN 63 dX5_town_61 rfl rfl rfl ?_
        exact xg_mm (smF_tr0 hτ).symm (tl (nM σ) 0 (by omega))
  refine X_ildn1 1 dX5_town_0 rfl rfl ?_
  refine X_iconst 0 2 dX5_town_1 (by decide) rfl ?_
  refine X_bipush 8 4 dX5_town_2 (by decide) rfl ?_
  refine X_callS3 7 dX5_town_4 cw_X5_87 zk_X5_in rfl rfl (S_X5_in ?_)
  refine X_pu ?_
  refine X_ifeq 19 10 dX5_town_7 (by decide) rfl (fun c7 => ?_) (fun c7 => ?_)
  · refine X_bipush (-3) 21 dX5_town_19 (by decide) rfl ?_
    refine X_iret dX5_town_21 rfl ?_
    refine Qi (h _ smF_rf) ?_
    grind [g_town, b2i]
  · refine X_ildn2 11 dX5_town_10 rfl rfl ?_
    refine X_iconst 0 12 dX5_town_11 (by decide) rfl ?_
    refine X_iconst 1 13 dX5_town_12 (by decide) rfl ?_
    refine X_callS3 16 dX5_town_13 cw_X5_87 zk_X5_in rfl rfl (S_X5_in ?_)
    refine X_pu ?_
    refine X_ifne 22 19 dX5_town_16 (by decide) rfl (fun c16 => ?_) (fun c16 => ?_)
    · refine X_iconst (-1) 23 dX5_town_22 (by decide) rfl ?_
      refine X_istnN 24 dX5_town_23 rfl rfl rfl rfl ?_
      refine X_iconst (-1) 25 dX5_town_24 (by decide) rfl ?_
      refine X_istN 27 dX5_town_25 rfl rfl rfl ?_
      refine X_iconst 0 28 dX5_town_27 (by decide) rfl ?_
      refine X_istN 30 dX5_town_28 rfl rfl rfl ?_
      exact loop (by grind [b2i]) (by grind [b2i]) (2 ^ nM σ) 0 (by omega) σ smF_rf []
    · refine X_bipush (-3) 21 dX5_town_19 (by decide) rfl ?_
      refine X_iret dX5_town_21 rfl ?_
      refine Qi (h _ smF_rf) ?_
      grind [g_town, b2i]
theorem S_X5_slips {q n k part : Int32} (h : Q (some (.long (g_slips q n k part))) σ) : xg_C (d + 1) mX5_slips [.ref 36, .int q, .int n, .int k, .int part] σ Q := by
  refine xg_C_of py_X5_slips (Nat.le_of_ble_eq_true rfl) ?_
  show xg_X none (d + 1) mX5_slips 0 [(0, .ref 36), (1, .int q), (2, .int n), (3, .int k), (4, .int part)] [] σ Q
  have gl : ∀ (nn kk : Nat) (g u w : Int64), ¬ g = 0 → Q (some (.long ((if part = 0 then u else w) / g))) σ → ∀ m a b, gcK m a b = some g → ∀ lx, xg_X none (d + 1) mX5_slips 173 (lx ++ [(13, .long b), (11, .long a), (7, .long w), (5, .long u), (0, .ref 36), (1, .int q), (2, .int (nI nn)), (3, .int (nI kk)), (4, .int part)]) [] σ Q := by
    intro nn kk g u w g0 h m
    induction m with
    | zero =>
      intro a b hg lx
      refine xg_sub (lw := [(13, .long b), (11, .long a), (7, .long w), (5, .long u), (0, .ref 36), (1, .int q), (2, .int (nI nn)), (3, .int (nI kk)), (4, .int part)]) (fun q hq => List.mem_append_right _ hq) ?_
      have hb : b ≤ 0 := by
        rw [gcK] at hg
        split at hg
        · assumption
        · exact absurd hg (by simp)
      obtain rfl : a = g := by rw [gcK, if_pos hb] at hg; exact Option.some.inj hg
      refine X_lld0 175 dX5_slips_173 rfl ?_
      refine X_lconst 0 176 dX5_slips_175 (by decide) rfl ?_
      refine X_lcmp 177 dX5_slips_176 rfl ?_
      refine X_ifle 198 180 dX5_slips_177 (by decide) rfl (fun c177 => ?_) (fun c177 => ?_)
      · refine X_ild8 200 dX5_slips_198 rfl ?_
        refine X_ifne 208 203 dX5_slips_200 (by decide) rfl (fun c200 => ?_) (fun c200 => ?_)
        · refine X_lld2 210 dX5_slips_208 rfl ?_
          refine X_lld1 212 dX5_slips_210 rfl ?_
          refine X_ldiv 213 dX5_slips_212 rfl g0 ?_
          refine X_lret dX5_slips_213 rfl ?_
          refine Ql h ?_
          grind
        · refine X_lld3 205 dX5_slips_203 rfl ?_
          refine X_goto 210 dX5_slips_205 (by decide) ?_
          refine X_lld1 212 dX5_slips_210 rfl ?_
          refine X_ldiv 213 dX5_slips_212 rfl g0 ?_
          refine X_lret dX5_slips_213 rfl ?_
          refine Ql h ?_
          grind
      · rw [lcmp_le] at c177
        exact absurd hb c177
    | succ m ih =>
      intro a b hg lx
      refine xg_sub (lw := [(13, .long b), (11, .long a), (7, .long w), (5, .long u), (0, .ref 36), (1, .int q), (2, .int (nI nn)), (3, .int (nI kk)), (4, .int part)]) (fun q hq => List.mem_append_right _ hq) ?_
      by_cases hb : b ≤ 0
      · obtain rfl : a = g := by rw [gcK, if_pos hb] at hg; exact Option.some.inj hg
        refine X_lld0 175 dX5_slips_173 rfl ?_
        refine X_lconst 0 176 dX5_slips_175 (by decide) rfl ?_
        refine X_lcmp 177 dX5_slips_176 rfl ?_
        refine X_ifle 198 180 dX5_slips_177 (by decide) rfl (fun c177 => ?_) (fun c177 => ?_)
        · refine X_ild8 200 dX5_slips_198 rfl ?_
          refine X_ifne 208 203 dX5_slips_200 (by decide) rfl (fun c200 => ?_) (fun c200 => ?_)
          · refine X_lld2 210 dX5_slips_208 rfl ?_
            refine X_lld1 212 dX5_slips_210 rfl ?_
            refine X_ldiv 213 dX5_slips_212 rfl g0 ?_
            refine X_lret dX5_slips_213 rfl ?_
            refine Ql h ?_
            grind
          · refine X_lld3 205 dX5_slips_203 rfl ?_
            refine X_goto 210 dX5_slips_205 (by decide) ?_
            refine X_lld1 212 dX5_slips_210 rfl ?_
            refine X_ldiv 213 dX5_slips_212 rfl g0 ?_
            refine X_lret dX5_slips_213 rfl ?_
            refine Ql h ?_
            grind
        · rw [lcmp_le] at c177
          exact absurd hb c177
      · rw [gcK, if_neg hb] at hg
        have b0 : ¬ b = 0 := fun e => hb (by rw [e]; decide)
        refine X_lld0 175 dX5_slips_173 rfl ?_
        refine X_lconst 0 176 dX5_slips_175 (by decide) rfl ?_
        refine X_lcmp 177 dX5_slips_176 rfl ?_
        refine X_ifle 198 180 dX5_slips_177 (by decide) rfl (fun c177 => ?_) (fun c177 => ?_)
        · rw [lcmp_le] at c177
          exact absurd c177 hb
        · refine X_lld1 182 dX5_slips_180 rfl ?_
          refine X_lld0 184 dX5_slips_182 rfl ?_
          refine X_lrem 185 dX5_slips_184 rfl b0 ?_
          refine X_lstN 187 dX5_slips_185 rfl rfl rfl ?_
          refine X_lld1 189 dX5_slips_187 rfl ?_
          refine X_lst2 191 dX5_slips_189 rfl rfl rfl ?_
          refine X_lld0 193 dX5_slips_191 rfl ?_
          refine X_lst1 195 dX5_slips_193 rfl rfl rfl ?_
          refine X_goto 173 dX5_slips_195 (by decide) ?_
          exact xg_lv rfl (ih _ _ hg [(15, .long (a - a / b * b))])
  have main : ∀ nn kk : Nat, nn ≤ 6 → kk ≤ 6 → (∃ g, sgM q nn kk = some g ∧ ¬ g = 0) → Q (some (.long ((if part = 0 then upM q nn kk (nn + 1) else dwM nn) / (sgM q nn kk).getD 1))) σ → ∀ m i, i + m = nn + 1 → ∀ lx, xg_X none (d + 1) mX5_slips 79 (lx ++ [(11, .int (nI i)), (9, .long (waM nn i)), (7, .long (dwM nn)), (5, .long (upM q nn kk i)), (0, .ref 36), (1, .int q), (2, .int (nI nn)), (3, .int (nI kk)), (4, .int part)]) [] σ Q := by
    intro nn kk hn hk hg h m
    induction m with
    | zero =>
      intro i hi lx
      obtain rfl : i = nn + 1 := by omega
      obtain ⟨g, eg, g0⟩ := hg
      rw [eg] at h
      refine xg_sub (lw := [(11, .int (nI (nn + 1))), (9, .long (waM nn (nn + 1))), (7, .long (dwM nn)), (5, .long (upM q nn kk (nn + 1))), (0, .ref 36), (1, .int q), (2, .int (nI nn)), (3, .int (nI kk)), (4, .int part)]) (fun q hq => List.mem_append_right _ hq) ?_
      refine X_ild0 81 dX5_slips_79 rfl ?_
      refine X_ildn6 82 dX5_slips_81 rfl rfl ?_
      refine X_icgt 165 85 dX5_slips_82 (by decide) rfl (fun c82 => ?_) (fun c82 => ?_)
      · refine X_lld3 167 dX5_slips_165 rfl ?_
        refine X_lst0 169 dX5_slips_167 rfl rfl rfl ?_
        refine X_lld2 171 dX5_slips_169 rfl ?_
        refine X_lstN 173 dX5_slips_171 rfl rfl rfl ?_
        refine xg_sub ?_ (gl nn kk g _ _ g0 h 40 _ _ eg [])
        intro q hq
        simp only [List.nil_append, List.mem_cons, List.not_mem_nil, or_false] at hq ⊢
        grind
      · exact absurd (nI_lt (by omega) (by omega)) c82
    | succ m ih =>
      intro i hi lx
      refine xg_sub (lw := [(11, .int (nI i)), (9, .long (waM nn i)), (7, .long (dwM nn)), (5, .long (upM q nn kk i)), (0, .ref 36), (1, .int q), (2, .int (nI nn)), (3, .int (nI kk)), (4, .int part)]) (fun q hq => List.mem_append_right _ hq) ?_
      have vl : ∀ r j, j + r = nn → xg_X none (d + 1) mX5_slips 92 [(14, .int (nI j)), (12, .long (vsM q i (waM nn i) j)), (11, .int (nI i)), (9, .long (waM nn i)), (7, .long (dwM nn)), (5, .long (upM q nn kk i)), (0, .ref 36), (1, .int q), (2, .int (nI nn)), (3, .int (nI kk)), (4, .int part)] [] σ Q := by
        intro r
        induction r with
        | zero =>
          intro j hj
          obtain rfl : j = nn := by omega
          have nxt := ih (i + 1) (by omega) [(14, .int (nI j)), (12, .long (vsM q i (waM j i) j))]
          rw [nI_succ, upM, waM] at nxt
          refine X_ild0 94 dX5_slips_92 rfl ?_
          refine X_ildn8 95 dX5_slips_94 rfl rfl ?_
          refine X_icge 126 98 dX5_slips_95 (by decide) rfl (fun c95 => ?_) (fun c95 => ?_)
          · refine X_lld5 128 dX5_slips_126 rfl ?_
            refine X_ild2 130 dX5_slips_128 rfl ?_
            refine X_ildn9 131 dX5_slips_130 rfl rfl ?_
            refine X_icgt 139 134 dX5_slips_131 (by decide) rfl (fun c131 => ?_) (fun c131 => ?_)
            · refine X_lconst 0 140 dX5_slips_139 (by decide) rfl ?_
              refine X_ladd 141 dX5_slips_140 rfl ?_
              refine X_lst5 143 dX5_slips_141 rfl rfl rfl ?_
              refine X_lld3 145 dX5_slips_143 rfl ?_
              refine X_ildn8 146 dX5_slips_145 rfl rfl ?_
              refine X_ild2 148 dX5_slips_146 rfl ?_
              refine X_isub 149 dX5_slips_148 rfl ?_
              refine X_i2l 150 dX5_slips_149 rfl ?_
              refine X_lmul 151 dX5_slips_150 rfl ?_
              refine X_ild2 153 dX5_slips_151 rfl ?_
              refine X_iconst 1 154 dX5_slips_153 (by decide) rfl ?_
              refine X_iadd 155 dX5_slips_154 rfl ?_
              refine X_i2l 156 dX5_slips_155 rfl ?_
              refine X_ldiv 157 dX5_slips_156 rfl (sl_nz i (by omega)) ?_
              refine X_lst3 159 dX5_slips_157 rfl rfl rfl ?_
              refine X_inc2 1 162 dX5_slips_159 (by decide) rfl rfl rfl ?_
              refine X_goto 79 dX5_slips_162 (by decide) ?_
              rw [if_pos c131] at nxt
              exact nxt
            · refine X_lld1 136 dX5_slips_134 rfl ?_
              refine X_goto 140 dX5_slips_136 (by decide) ?_
              refine X_ladd 141 dX5_slips_140 rfl ?_
              refine X_lst5 143 dX5_slips_141 rfl rfl rfl ?_
              refine X_lld3 145 dX5_slips_143 rfl ?_
              refine X_ildn8 146 dX5_slips_145 rfl rfl ?_
              refine X_ild2 148 dX5_slips_146 rfl ?_
              refine X_isub 149 dX5_slips_148 rfl ?_
              refine X_i2l 150 dX5_slips_149 rfl ?_
              refine X_lmul 151 dX5_slips_150 rfl ?_
              refine X_ild2 153 dX5_slips_151 rfl ?_
              refine X_iconst 1 154 dX5_slips_153 (by decide) rfl ?_
              refine X_iadd 155 dX5_slips_154 rfl ?_
              refine X_i2l 156 dX5_slips_155 rfl ?_
              refine X_ldiv 157 dX5_slips_156 rfl (sl_nz i (by omega)) ?_
              refine X_lst3 159 dX5_slips_157 rfl rfl rfl ?_
              refine X_inc2 1 162 dX5_slips_159 (by decide) rfl rfl rfl ?_
              refine X_goto 79 dX5_slips_162 (by decide) ?_
              rw [if_neg c131] at nxt
              exact nxt
          · exact absurd (nI_le (Nat.le_refl _) (by omega)) c95
        | succ r ih2 =>
          intro j hj
          have nxt := ih2 (j + 1) (by omega)
          rw [nI_succ, vsM] at nxt
          refine X_ild0 94 dX5_slips_92 rfl ?_
          refine X_ildn8 95 dX5_slips_94 rfl rfl ?_
          refine X_icge 126 98 dX5_slips_95 (by decide) rfl (fun c95 => ?_) (fun c95 => ?_)
          · have c95 := leq c95 rfl (by omega) (by omega)
            omega
          · refine X_lld1 100 dX5_slips_98 rfl ?_
            refine X_ild0 102 dX5_slips_100 rfl ?_
            refine X_ild2 104 dX5_slips_102 rfl ?_
            refine X_icge 112 107 dX5_slips_104 (by decide) rfl (fun c104 => ?_) (fun c104 => ?_)
            · refine X_bipush 10 114 dX5_slips_112 (by decide) rfl ?_
              refine X_ildn7 115 dX5_slips_114 rfl rfl ?_
              refine X_isub 116 dX5_slips_115 rfl ?_
              refine X_i2l 117 dX5_slips_116 rfl ?_
              refine X_lmul 118 dX5_slips_117 rfl ?_
              refine X_lst1 120 dX5_slips_118 rfl rfl rfl ?_
              refine X_inc0 1 123 dX5_slips_120 (by decide) rfl rfl rfl ?_
              refine X_goto 92 dX5_slips_123 (by decide) ?_
              rw [if_pos c104] at nxt
              exact nxt
            · refine X_ildn7 108 dX5_slips_107 rfl rfl ?_
              refine X_i2l 109 dX5_slips_108 rfl ?_
              refine X_goto 117 dX5_slips_109 (by decide) ?_
              refine X_lmul 118 dX5_slips_117 rfl ?_
              refine X_lst1 120 dX5_slips_118 rfl rfl rfl ?_
              refine X_inc0 1 123 dX5_slips_120 (by decide) rfl rfl rfl ?_
              refine X_goto 92 dX5_slips_123 (by decide) ?_
              rw [if_neg c104] at nxt
              exact nxt
      refine X_ild0 81 dX5_slips_79 rfl ?_
      refine X_ildn6 82 dX5_slips_81 rfl rfl ?_
      refine X_icgt 165 85 dX5_slips_82 (by decide) rfl (fun c82 => ?_) (fun c82 => ?_)
      · exact absurd c82 (nI_nlt (by omega) (by omega))
      · refine X_lld1 87 dX5_slips_85 rfl ?_
        refine X_lstN 89 dX5_slips_87 rfl rfl rfl ?_
        refine X_iconst 0 90 dX5_slips_89 (by decide) rfl ?_
        refine X_istN 92 dX5_slips_90 rfl rfl rfl ?_
        exact vl nn 0 (by omega)
  have dl : ∀ nn kk : Nat, nn ≤ 6 → kk ≤ 6 → (∃ g, sgM q nn kk = some g ∧ ¬ g = 0) → Q (some (.long ((if part = 0 then upM q nn kk (nn + 1) else dwM nn) / (sgM q nn kk).getD 1))) σ → ∀ m i, i + m = nn → xg_X none (d + 1) mX5_slips 56 [(11, .int (nI i)), (9, .long 1), (7, .long (dwM i)), (5, .long 0), (0, .ref 36), (1, .int q), (2, .int (nI nn)), (3, .int (nI kk)), (4, .int part)] [] σ Q := by
    intro nn kk hn hk hg h m
    induction m with
    | zero =>
      intro i hi
      obtain rfl : i = nn := by omega
      refine X_ild0 58 dX5_slips_56 rfl ?_
      refine X_ildn6 59 dX5_slips_58 rfl rfl ?_
      refine X_icge 76 62 dX5_slips_59 (by decide) rfl (fun c59 => ?_) (fun c59 => ?_)
      · refine X_iconst 0 77 dX5_slips_76 (by decide) rfl ?_
        refine X_ist0 79 dX5_slips_77 rfl rfl rfl ?_
        exact main i kk hn hk hg h (i + 1) 0 (by omega) []
      · exact absurd (nI_le (Nat.le_refl _) (by omega)) c59
    | succ m ih =>
      intro i hi
      refine X_ild0 58 dX5_slips_56 rfl ?_
      refine X_ildn6 59 dX5_slips_58 rfl rfl ?_
      refine X_icge 76 62 dX5_slips_59 (by decide) rfl (fun c59 => ?_) (fun c59 => ?_)
      · have c59 := leq c59 rfl (by omega) (by omega)
        omega
      · refine X_lld2 64 dX5_slips_62 rfl ?_
        refine X_ldc2 10 67 dX5_slips_64 cl_X5_284 rfl ?_
        refine X_lmul 68 dX5_slips_67 rfl ?_
        refine X_lst2 70 dX5_slips_68 rfl rfl rfl ?_
        refine X_inc0 1 73 dX5_slips_70 (by decide) rfl rfl rfl ?_
        refine X_goto 56 dX5_slips_73 (by decide) ?_
        exact xg_lv (by rw [nI_succ, dwM]) (ih (i + 1) (by omega))
  refine X_ildn1 1 dX5_slips_0 rfl rfl ?_
  refine X_iconst 0 2 dX5_slips_1 (by decide) rfl ?_
  refine X_bipush 10 4 dX5_slips_2 (by decide) rfl ?_
  refine X_callS3 7 dX5_slips_4 cw_X5_87 zk_X5_in rfl rfl (S_X5_in ?_)
  refine X_pu ?_
  refine X_ifeq 40 10 dX5_slips_7 (by decide) rfl (fun c7 => ?_) (fun c7 => ?_)
  · refine X_ldc2 (-3) 43 dX5_slips_40 cl_X5_120 rfl ?_
    refine X_lret dX5_slips_43 rfl ?_
    refine Ql h ?_
    grind [g_slips, b2i]
  · refine X_ildn2 11 dX5_slips_10 rfl rfl ?_
    refine X_iconst 0 12 dX5_slips_11 (by decide) rfl ?_
    refine X_bipush 6 14 dX5_slips_12 (by decide) rfl ?_
    refine X_callS3 17 dX5_slips_14 cw_X5_87 zk_X5_in rfl rfl (S_X5_in ?_)
    refine X_pu ?_
    refine X_ifeq 40 20 dX5_slips_17 (by decide) rfl (fun c17 => ?_) (fun c17 => ?_)
    · refine X_ldc2 (-3) 43 dX5_slips_40 cl_X5_120 rfl ?_
      refine X_lret dX5_slips_43 rfl ?_
      refine Ql h ?_
      grind [g_slips, b2i]
    · refine X_ildn3 21 dX5_slips_20 rfl rfl ?_
      refine X_iconst 0 22 dX5_slips_21 (by decide) rfl ?_
      refine X_bipush 6 24 dX5_slips_22 (by decide) rfl ?_
      refine X_callS3 27 dX5_slips_24 cw_X5_87 zk_X5_in rfl rfl (S_X5_in ?_)
      refine X_pu ?_
      refine X_ifeq 40 30 dX5_slips_27 (by decide) rfl (fun c27 => ?_) (fun c27 => ?_)
      · refine X_ldc2 (-3) 43 dX5_slips_40 cl_X5_120 rfl ?_
        refine X_lret dX5_slips_43 rfl ?_
        refine Ql h ?_
        grind [g_slips, b2i]
      · refine X_ild4 32 dX5_slips_30 rfl ?_
        refine X_iconst 0 33 dX5_slips_32 (by decide) rfl ?_
        refine X_iconst 1 34 dX5_slips_33 (by decide) rfl ?_
        refine X_callS3 37 dX5_slips_34 cw_X5_87 zk_X5_in rfl rfl (S_X5_in ?_)
        refine X_pu ?_
        refine X_ifne 44 40 dX5_slips_37 (by decide) rfl (fun c37 => ?_) (fun c37 => ?_)
        · refine X_lconst 0 45 dX5_slips_44 (by decide) rfl ?_
          refine X_lstN 47 dX5_slips_45 rfl rfl rfl ?_
          refine X_lconst 1 48 dX5_slips_47 (by decide) rfl ?_
          refine X_lstN 50 dX5_slips_48 rfl rfl rfl ?_
          refine X_lconst 1 51 dX5_slips_50 (by decide) rfl ?_
          refine X_lstN 53 dX5_slips_51 rfl rfl rfl ?_
          refine X_iconst 0 54 dX5_slips_53 (by decide) rfl ?_
          refine X_istN 56 dX5_slips_54 rfl rfl rfl ?_
          have hz : inB q 0 10 = true ∧ inB n 0 6 = true ∧ inB k 0 6 = true ∧ inB part 0 1 = true := by grind [b2i]
          rw [g_slips, if_neg (by grind)] at h
          obtain ⟨z1, z2, z3, z4⟩ := hz
          simp only [inB, Bool.and_eq_true, decide_eq_true_eq] at z1 z2 z3
          obtain ⟨qq, hq, rfl⟩ := le_ex 10 rfl (by decide) z1.1 z1.2
          obtain ⟨nn, hn, rfl⟩ := le_ex 6 rfl (by decide) z2.1 z2.2
          obtain ⟨kk, hk, rfl⟩ := le_ex 6 rfl (by decide) z3.1 z3.2
          rw [ixN_nI (by omega), ixN_nI (by omega)] at h
          exact dl nn kk hn hk (sg_ok qq hq nn hn kk hk) h nn 0 (by omega)
        · refine X_ldc2 (-3) 43 dX5_slips_40 cl_X5_120 rfl ?_
          refine X_lret dX5_slips_43 rfl ?_
          refine Ql h ?_
          grind [g_slips, b2i]
end REF7

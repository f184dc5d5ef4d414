/-! the reference: tokens -/
def lpM (σ : xm_M) (s i : Nat) (dg nu : Int32) (t : Int64) : xm_M := (fun c j => if c = 36 ∧ j = 8 then nI i else if c = 36 ∧ j = 9 then nI s else if c = 36 ∧ j = 11 then dg else if c = 36 ∧ j = 12 then nu else σ.1 c j, t)
def wcM (L : Nat → Int32) (s : Nat) : Nat → Int64
  | 0 => 0
  | k + 1 => if 9 ≤ nI k then -4 else 27 * wcM L s k + (L (s + k)).toInt64 - 96
def nuM (L : Nat → Int32) (s : Nat) : Nat → Int32
  | 0 => 0
  | k + 1 => if 2 ≤ nI k then nuM L s k else 10 * nuM L s k + L (s + k) - 48
def leM (L : Nat → Int32) (n s : Nat) : Nat := rnE L n smL (n - s) s
def deM (L : Nat → Int32) (n s : Nat) : Nat := rnE L n dgL (n - s) s
def ntS (σ : xm_M) (s : Nat) : xm_M :=
  if s = lM σ then lpM σ s s 0 0 (-2)
  else if smL (σ.1 39 s) = true then lpM σ s (leM (σ.1 39) (lM σ) s) 0 0 (if nI (leM (σ.1 39) (lM σ) s - s) ≤ 9 then wcM (σ.1 39) s (leM (σ.1 39) (lM σ) s - s) else -4)
  else if dgL (σ.1 39 s) = true then lpM σ s (deM (σ.1 39) (lM σ) s) (nI (deM (σ.1 39) (lM σ) s - s)) (nuM (σ.1 39) s (deM (σ.1 39) (lM σ) s - s)) (if nI (deM (σ.1 39) (lM σ) s - s) ≤ 2 then -1 else -4)
  else lpM σ s (s + 1) 0 0 (if σ.1 39 s = 59 then -3 else -4)
def poM (σ : xm_M) : Nat := (σ.1 36 8).toNatClampNeg
def ntM (σ : xm_M) : xm_M := ntS σ (tkS (σ.1 39) (lM σ) (poM σ))
def vPo (σ : xm_M) : Prop := vTm σ ∧ σ.1 36 8 = nI (poM σ) ∧ poM σ ≤ lM σ
section LP
variable {σ : xm_M} {s i : Nat} {dg nu : Int32} {t : Int64}
theorem lq8 : (lpM σ s i dg nu t).1 36 8 = nI i := by simp [lpM]
theorem lq9 : (lpM σ s i dg nu t).1 36 9 = nI s := by simp [lpM]
theorem lq11 : (lpM σ s i dg nu t).1 36 11 = dg := by simp [lpM]
theorem lq12 : (lpM σ s i dg nu t).1 36 12 = nu := by simp [lpM]
theorem lq6 : (lpM σ s i dg nu t).1 36 6 = σ.1 36 6 := by simp [lpM]
theorem lq39 : (lpM σ s i dg nu t).1 39 = σ.1 39 := by funext j; simp [lpM]
theorem lpt {v : Int64} : xm_tok (lpM σ s i dg nu t) v = lpM σ s i dg nu v := rfl
theorem lps8 {j : Nat} : xm_set (lpM σ s i dg nu t) 36 8 (nI j) = lpM σ s j dg nu t := by
  apply Prod.ext
  · funext c k
    simp only [lpM, xm_set]
    grind
  · rfl
theorem lps11 {v : Int32} : xm_set (lpM σ s i dg nu t) 36 11 v = lpM σ s i v nu t := by
  apply Prod.ext
  · funext c k
    simp only [lpM, xm_set]
    grind
  · rfl
theorem lps12 {v : Int32} : xm_set (lpM σ s i dg nu t) 36 12 v = lpM σ s i dg v t := by
  apply Prod.ext
  · funext c k
    simp only [lpM, xm_set]
    grind
  · rfl
theorem lq0 : xm_set (xm_set (xm_set (xm_set σ 36 8 (nI s)) 36 9 (nI s)) 36 11 0) 36 12 0 = lpM σ s s 0 0 σ.2 := by
  apply Prod.ext
  · funext c k
    simp only [lpM, xm_set]
    grind
  · rfl
theorem lp_ne {c : Nat} (h : c ≠ 36) : (lpM σ s i dg nu t).1 c = σ.1 c := by funext j; simp [lpM, h]
theorem lp_k {k : Nat} (h8 : k ≠ 8) (h9 : k ≠ 9) (h11 : k ≠ 11) (h12 : k ≠ 12) : (lpM σ s i dg nu t).1 36 k = σ.1 36 k := by simp [lpM, h8, h9, h11, h12]
end LP
section REF8
variable {d : Nat} {σ : xm_M} {Q : Option Value → xm_M → Prop}
theorem S_X5_nextToken (hv : vPo σ) (h : Q none (ntM σ)) : xg_C (d + 1) mX5_nextToken [.ref 36] σ Q := by
  refine xg_C_of py_X5_nextToken (Nat.le_of_ble_eq_true rfl) ?_
  show xg_X none (d + 1) mX5_nextToken 0 [(0, .ref 36)] [] σ Q
  obtain ⟨⟨h6, hn⟩, h8, hp⟩ := hv
  have tail : ∀ s, s ≤ lM σ → Q none (ntS σ s) → xg_X none (d + 1) mX5_nextToken 56 [(0, .ref 36)] [] (lpM σ s s 0 0 σ.2) Q := by
    intro s hs h
    have lt : s < lM σ → smL (σ.1 39 s) = true → ∀ r k, s + k + r = lM σ → rnE (σ.1 39) (lM σ) smL r (s + k) = leM (σ.1 39) (lM σ) s → xg_X none (d + 1) mX5_nextToken 101 [(0, .ref 36)] [] (lpM σ s (s + k) 0 0 (wcM (σ.1 39) s k)) Q := by
      intro hsn hsm
      have h := h
      rw [ntS, if_neg (by omega), if_pos hsm] at h
      have out : ∀ k, s + k ≤ lM σ → s + k = leM (σ.1 39) (lM σ) s → xg_X none (d + 1) mX5_nextToken 191 [(0, .ref 36)] [] (lpM σ s (s + k) 0 0 (wcM (σ.1 39) s k)) Q := by
        intro k hk e
        rw [← e, show s + k - s = k by omega] at h
        have ek : nI (s + k) - nI s = nI k := by rw [pk_sub (by omega), show s + k - s = k by omega]
        refine X_aldn0 192 dX5_nextToken_191 rfl rfl ?_
        refine X_aldn0 193 dX5_nextToken_192 rfl rfl ?_
        refine X_getI 196 dX5_nextToken_193 fl_X5_94 rfl rfl ?_
        refine X_aldn0 197 dX5_nextToken_196 rfl rfl ?_
        refine X_getI 200 dX5_nextToken_197 fl_X5_97 rfl rfl ?_
        refine X_isub 201 dX5_nextToken_200 rfl ?_
        refine X_bipush 9 203 dX5_nextToken_201 (by decide) rfl ?_
        rw [lq8, lq9, ek]
        refine X_icle 212 206 dX5_nextToken_203 (by decide) rfl (fun c203 => ?_) (fun c203 => ?_)
        · refine X_aldn0 213 dX5_nextToken_212 rfl rfl ?_
          refine X_getL 216 dX5_nextToken_213 fl_X5_108 rfl rfl ?_
          refine X_putL 219 dX5_nextToken_216 fp_X5_108 rfl ?_
          refine X_goto 394 dX5_nextToken_219 (by decide) ?_
          refine X_vret dX5_nextToken_394 rfl ?_
          rw [if_pos c203] at h
          exact h
        · refine X_ldc2 (-4) 209 dX5_nextToken_206 cl_X5_116 rfl ?_
          refine X_goto 216 dX5_nextToken_209 (by decide) ?_
          refine X_putL 219 dX5_nextToken_216 fp_X5_108 rfl ?_
          refine X_goto 394 dX5_nextToken_219 (by decide) ?_
          refine X_vret dX5_nextToken_394 rfl ?_
          rw [if_neg c203] at h
          exact h
      intro r
      induction r with
      | zero =>
        intro k hk er
        rw [rnE] at er
        refine X_aldn0 102 dX5_nextToken_101 rfl rfl ?_
        refine X_getI 105 dX5_nextToken_102 fl_X5_94 rfl rfl ?_
        refine X_aldn0 106 dX5_nextToken_105 rfl rfl ?_
        refine X_getI 109 dX5_nextToken_106 fl_X5_91 rfl rfl ?_
        rw [lq8, lq6, h6]
        refine X_icge 191 112 dX5_nextToken_109 (by decide) rfl (fun c109 => ?_) (fun c109 => ?_)
        · exact out k (by omega) er
        · exact absurd (nI_le (by omega) (by omega)) c109
      | succ r ih =>
        intro k hk er
        have ek : nI (s + k) - nI s = nI k := by rw [pk_sub (by omega), show s + k - s = k by omega]
        refine X_aldn0 102 dX5_nextToken_101 rfl rfl ?_
        refine X_getI 105 dX5_nextToken_102 fl_X5_94 rfl rfl ?_
        refine X_aldn0 106 dX5_nextToken_105 rfl rfl ?_
        refine X_getI 109 dX5_nextToken_106 fl_X5_91 rfl rfl ?_
        rw [lq8, lq6, h6]
        refine X_icge 191 112 dX5_nextToken_109 (by decide) rfl (fun c109 => ?_) (fun c109 => ?_)
        · have c109 := leq c109 rfl (by omega) (by omega)
          omega
        · refine X_aldn0 113 dX5_nextToken_112 rfl rfl ?_
          refine X_getA 39 116 dX5_nextToken_113 fl_X5_26 rfl rfl ?_
          refine X_aldn0 117 dX5_nextToken_116 rfl rfl ?_
          refine X_getI 120 dX5_nextToken_117 fl_X5_94 rfl rfl ?_
          refine X_ialk (s + k) 121 dX5_nextToken_120 rfl rfl lq8 (show s + k < 160 by omega) ?_
          refine X_bipush 97 123 dX5_nextToken_121 (by decide) rfl ?_
          refine X_bipush 122 125 dX5_nextToken_123 (by decide) rfl ?_
          rw [lq39]
          refine X_callS3 128 dX5_nextToken_125 cw_X5_87 zk_X5_in rfl rfl (S_X5_in ?_)
          refine X_pu ?_
          refine X_ifeq 191 131 dX5_nextToken_128 (by decide) rfl (fun c128 => ?_) (fun c128 => ?_)
          · rw [b2i_0] at c128
            refine out k (by omega) ?_
            rw [rnE, if_neg (fun q => by have := q.2; rw [show smL (σ.1 39 (s + k)) = false from c128] at this; exact absurd this (by decide))] at er
            exact er
          · rw [b2i_n] at c128
            refine X_aldn0 132 dX5_nextToken_131 rfl rfl ?_
            refine X_aldn0 133 dX5_nextToken_132 rfl rfl ?_
            refine X_getI 136 dX5_nextToken_133 fl_X5_94 rfl rfl ?_
            refine X_aldn0 137 dX5_nextToken_136 rfl rfl ?_
            refine X_getI 140 dX5_nextToken_137 fl_X5_97 rfl rfl ?_
            refine X_isub 141 dX5_nextToken_140 rfl ?_
            refine X_bipush 9 143 dX5_nextToken_141 (by decide) rfl ?_
            rw [lq8, lq9, ek]
            refine X_icge 172 146 dX5_nextToken_143 (by decide) rfl (fun c143 => ?_) (fun c143 => ?_)
            · refine X_ldc2 (-4) 175 dX5_nextToken_172 cl_X5_116 rfl ?_
              refine X_putL 178 dX5_nextToken_175 fp_X5_108 rfl ?_
              rw [lpt]
              refine X_aldn0 179 dX5_nextToken_178 rfl rfl ?_
              refine X_dup 180 dX5_nextToken_179 rfl rfl ?_
              refine X_getI 183 dX5_nextToken_180 fl_X5_94 rfl rfl ?_
              refine X_iconst 1 184 dX5_nextToken_183 (by decide) rfl ?_
              refine X_iadd 185 dX5_nextToken_184 rfl ?_
              refine X_putI 188 dX5_nextToken_185 fp_X5_94 rfl rfl ?_
              rw [lq8, ← nI_succ, lps8]
              refine X_goto 101 dX5_nextToken_188 (by decide) ?_
              rw [rnE, if_pos ⟨by omega, c128⟩] at er
              refine xg_mm ?_ (ih (k + 1) (by omega) er)
              rw [wcM, if_pos c143]
              rfl
            · refine X_ldc2 27 149 dX5_nextToken_146 cl_X5_112 rfl ?_
              refine X_aldn0 150 dX5_nextToken_149 rfl rfl ?_
              refine X_getL 153 dX5_nextToken_150 fl_X5_108 rfl rfl ?_
              refine X_lmul 154 dX5_nextToken_153 rfl ?_
              refine X_aldn0 155 dX5_nextToken_154 rfl rfl ?_
              refine X_getA 39 158 dX5_nextToken_155 fl_X5_26 rfl rfl ?_
              refine X_aldn0 159 dX5_nextToken_158 rfl rfl ?_
              refine X_getI 162 dX5_nextToken_159 fl_X5_94 rfl rfl ?_
              refine X_ialk (s + k) 163 dX5_nextToken_162 rfl rfl lq8 (show s + k < 160 by omega) ?_
              rw [lq39]
              refine X_i2l 164 dX5_nextToken_163 rfl ?_
              refine X_ladd 165 dX5_nextToken_164 rfl ?_
              refine X_ldc2 96 168 dX5_nextToken_165 cl_X5_114 rfl ?_
              refine X_lsub 169 dX5_nextToken_168 rfl ?_
              refine X_goto 175 dX5_nextToken_169 (by decide) ?_
              refine X_putL 178 dX5_nextToken_175 fp_X5_108 rfl ?_
              rw [lpt]
              refine X_aldn0 179 dX5_nextToken_178 rfl rfl ?_
              refine X_dup 180 dX5_nextToken_179 rfl rfl ?_
              refine X_getI 183 dX5_nextToken_180 fl_X5_94 rfl rfl ?_
              refine X_iconst 1 184 dX5_nextToken_183 (by decide) rfl ?_
              refine X_iadd 185 dX5_nextToken_184 rfl ?_
              refine X_putI 188 dX5_nextToken_185 fp_X5_94 rfl rfl ?_
              rw [lq8, ← nI_succ, lps8]
              refine X_goto 101 dX5_nextToken_188 (by decide) ?_
              rw [rnE, if_pos ⟨by omega, c128⟩] at er
              refine xg_mm ?_ (ih (k + 1) (by omega) er)
              rw [wcM, if_neg c143]
              rfl
    have dt : s < lM σ → smL (σ.1 39 s) = false → dgL (σ.1 39 s) = true → ∀ r k, s + k + r = lM σ → rnE (σ.1 39) (lM σ) dgL r (s + k) = deM (σ.1 39) (lM σ) s → xg_X none (d + 1) mX5_nextToken 241 [(0, .ref 36)] [] (lpM σ s (s + k) (nI k) (nuM (σ.1 39) s k) σ.2) Q := by
      intro hsn hsm hsd
      have h := h
      rw [ntS, if_neg (by omega), if_neg (by rw [hsm]; decide), if_pos hsd] at h
      have out : ∀ k, s + k ≤ lM σ → s + k = deM (σ.1 39) (lM σ) s → xg_X none (d + 1) mX5_nextToken 333 [(0, .ref 36)] [] (lpM σ s (s + k) (nI k) (nuM (σ.1 39) s k) σ.2) Q := by
        intro k hk e
        rw [← e, show s + k - s = k by omega] at h
        refine X_aldn0 334 dX5_nextToken_333 rfl rfl ?_
        refine X_aldn0 335 dX5_nextToken_334 rfl rfl ?_
        refine X_getI 338 dX5_nextToken_335 fl_X5_100 rfl rfl ?_
        refine X_iconst 2 339 dX5_nextToken_338 (by decide) rfl ?_
        rw [lq11]
        refine X_icle 348 342 dX5_nextToken_339 (by decide) rfl (fun c339 => ?_) (fun c339 => ?_)
        · refine X_ldc2 (-1) 351 dX5_nextToken_348 cl_X5_118 rfl ?_
          refine X_putL 354 dX5_nextToken_351 fp_X5_108 rfl ?_
          refine X_goto 394 dX5_nextToken_354 (by decide) ?_
          refine X_vret dX5_nextToken_394 rfl ?_
          rw [if_pos c339] at h
          exact h
        · refine X_ldc2 (-4) 345 dX5_nextToken_342 cl_X5_116 rfl ?_
          refine X_goto 351 dX5_nextToken_345 (by decide) ?_
          refine X_putL 354 dX5_nextToken_351 fp_X5_108 rfl ?_
          refine X_goto 394 dX5_nextToken_354 (by decide) ?_
          refine X_vret dX5_nextToken_394 rfl ?_
          rw [if_neg c339] at h
          exact h
      intro r
      induction r with
      | zero =>
        intro k hk er
        rw [rnE] at er
        refine X_aldn0 242 dX5_nextToken_241 rfl rfl ?_
        refine X_getI 245 dX5_nextToken_242 fl_X5_94 rfl rfl ?_
        refine X_aldn0 246 dX5_nextToken_245 rfl rfl ?_
        refine X_getI 249 dX5_nextToken_246 fl_X5_91 rfl rfl ?_
        rw [lq8, lq6, h6]
        refine X_icge 333 252 dX5_nextToken_249 (by decide) rfl (fun c249 => ?_) (fun c249 => ?_)
        · exact out k (by omega) er
        · exact absurd (nI_le (by omega) (by omega)) c249
      | succ r ih =>
        intro k hk er
        refine X_aldn0 242 dX5_nextToken_241 rfl rfl ?_
        refine X_getI 245 dX5_nextToken_242 fl_X5_94 rfl rfl ?_
        refine X_aldn0 246 dX5_nextToken_245 rfl rfl ?_
        refine X_getI 249 dX5_nextToken_246 fl_X5_91 rfl rfl ?_
        rw [lq8, lq6, h6]
        refine X_icge 333 252 dX5_nextToken_249 (by decide) rfl (fun c249 => ?_) (fun c249 => ?_)
        · have c249 := leq c249 rfl (by omega) (by omega)
          omega
        · refine X_aldn0 253 dX5_nextToken_252 rfl rfl ?_
          refine X_getA 39 256 dX5_nextToken_253 fl_X5_26 rfl rfl ?_
          refine X_aldn0 257 dX5_nextToken_256 rfl rfl ?_
          refine X_getI 260 dX5_nextToken_257 fl_X5_94 rfl rfl ?_
          refine X_ialk (s + k) 261 dX5_nextToken_260 rfl rfl lq8 (show s + k < 160 by omega) ?_
          refine X_bipush 48 263 dX5_nextToken_261 (by decide) rfl ?_
          refine X_bipush 57 265 dX5_nextToken_263 (by decide) rfl ?_
          rw [lq39]
          refine X_callS3 268 dX5_nextToken_265 cw_X5_87 zk_X5_in rfl rfl (S_X5_in ?_)
          refine X_pu ?_
          refine X_ifeq 333 271 dX5_nextToken_268 (by decide) rfl (fun c268 => ?_) (fun c268 => ?_)
          · rw [b2i_0] at c268
            refine out k (by omega) ?_
            rw [rnE, if_neg (fun q => by have := q.2; rw [show dgL (σ.1 39 (s + k)) = false from c268] at this; exact absurd this (by decide))] at er
            exact er
          · rw [b2i_n] at c268
            refine X_aldn0 272 dX5_nextToken_271 rfl rfl ?_
            refine X_aldn0 273 dX5_nextToken_272 rfl rfl ?_
            refine X_getI 276 dX5_nextToken_273 fl_X5_100 rfl rfl ?_
            refine X_iconst 2 277 dX5_nextToken_276 (by decide) rfl ?_
            rw [lq11]
            refine X_icge 303 280 dX5_nextToken_277 (by decide) rfl (fun c277 => ?_) (fun c277 => ?_)
            · refine X_aldn0 304 dX5_nextToken_303 rfl rfl ?_
              refine X_getI 307 dX5_nextToken_304 fl_X5_103 rfl rfl ?_
              try rw [lq12]
              refine X_putI 310 dX5_nextToken_307 fp_X5_103 rfl rfl ?_
              rw [lps12]
              refine X_aldn0 311 dX5_nextToken_310 rfl rfl ?_
              refine X_dup 312 dX5_nextToken_311 rfl rfl ?_
              refine X_getI 315 dX5_nextToken_312 fl_X5_100 rfl rfl ?_
              refine X_iconst 1 316 dX5_nextToken_315 (by decide) rfl ?_
              refine X_iadd 317 dX5_nextToken_316 rfl ?_
              refine X_putI 320 dX5_nextToken_317 fp_X5_100 rfl rfl ?_
              rw [lq11, ← nI_succ, lps11]
              refine X_aldn0 321 dX5_nextToken_320 rfl rfl ?_
              refine X_dup 322 dX5_nextToken_321 rfl rfl ?_
              refine X_getI 325 dX5_nextToken_322 fl_X5_94 rfl rfl ?_
              refine X_iconst 1 326 dX5_nextToken_325 (by decide) rfl ?_
              refine X_iadd 327 dX5_nextToken_326 rfl ?_
              refine X_putI 330 dX5_nextToken_327 fp_X5_94 rfl rfl ?_
              rw [lq8, ← nI_succ, lps8]
              refine X_goto 241 dX5_nextToken_330 (by decide) ?_
              rw [rnE, if_pos ⟨by omega, c268⟩] at er
              refine xg_mm ?_ (ih (k + 1) (by omega) er)
              rw [nuM, if_pos c277]
              rfl
            · refine X_bipush 10 282 dX5_nextToken_280 (by decide) rfl ?_
              refine X_aldn0 283 dX5_nextToken_282 rfl rfl ?_
              refine X_getI 286 dX5_nextToken_283 fl_X5_103 rfl rfl ?_
              rw [lq12]
              refine X_imul 287 dX5_nextToken_286 rfl ?_
              refine X_aldn0 288 dX5_nextToken_287 rfl rfl ?_
              refine X_getA 39 291 dX5_nextToken_288 fl_X5_26 rfl rfl ?_
              refine X_aldn0 292 dX5_nextToken_291 rfl rfl ?_
              refine X_getI 295 dX5_nextToken_292 fl_X5_94 rfl rfl ?_
              refine X_ialk (s + k) 296 dX5_nextToken_295 rfl rfl lq8 (show s + k < 160 by omega) ?_
              rw [lq39]
              refine X_iadd 297 dX5_nextToken_296 rfl ?_
              refine X_bipush 48 299 dX5_nextToken_297 (by decide) rfl ?_
              refine X_isub 300 dX5_nextToken_299 rfl ?_
              refine X_goto 307 dX5_nextToken_300 (by decide) ?_
              try rw [lq12]
              refine X_putI 310 dX5_nextToken_307 fp_X5_103 rfl rfl ?_
              rw [lps12]
              refine X_aldn0 311 dX5_nextToken_310 rfl rfl ?_
              refine X_dup 312 dX5_nextToken_311 rfl rfl ?_
              refine X_getI 315 dX5_nextToken_312 fl_X5_100 rfl rfl ?_
              refine X_iconst 1 316 dX5_nextToken_315 (by decide) rfl ?_
              refine X_iadd 317 dX5_nextToken_316 rfl ?_
              refine X_putI 320 dX5_nextToken_317 fp_X5_100 rfl rfl ?_
              rw [lq11, ← nI_succ, lps11]
              refine X_aldn0 321 dX5_nextToken_320 rfl rfl ?_
              refine X_dup 322 dX5_nextToken_321 rfl rfl ?_
              refine X_getI 325 dX5_nextToken_322 fl_X5_94 rfl rfl ?_
              refine X_iconst 1 326 dX5_nextToken_325 (by decide) rfl ?_
              refine X_iadd 327 dX5_nextToken_326 rfl ?_
              refine X_putI 330 dX5_nextToken_327 fp_X5_94 rfl rfl ?_
              rw [lq8, ← nI_succ, lps8]
              refine X_goto 241 dX5_nextToken_330 (by decide) ?_
              rw [rnE, if_pos ⟨by omega, c268⟩] at er
              refine xg_mm ?_ (ih (k + 1) (by omega) er)
              rw [nuM, if_neg c277]
              rfl
    refine X_aldn0 57 dX5_nextToken_56 rfl rfl ?_
    refine X_getI 60 dX5_nextToken_57 fl_X5_94 rfl rfl ?_
    refine X_aldn0 61 dX5_nextToken_60 rfl rfl ?_
    refine X_getI 64 dX5_nextToken_61 fl_X5_91 rfl rfl ?_
    rw [lq8, lq6, h6]
    refine X_icne 77 67 dX5_nextToken_64 (by decide) rfl (fun c64 => ?_) (fun c64 => ?_)
    · have hsn : s < lM σ := Nat.lt_of_le_of_ne hs (fun e => c64 (by rw [e]))
      refine X_aldn0 78 dX5_nextToken_77 rfl rfl ?_
      refine X_getA 39 81 dX5_nextToken_78 fl_X5_26 rfl rfl ?_
      refine X_aldn0 82 dX5_nextToken_81 rfl rfl ?_
      refine X_getI 85 dX5_nextToken_82 fl_X5_94 rfl rfl ?_
      refine X_ialk s 86 dX5_nextToken_85 rfl rfl lq8 (show s < 160 by omega) ?_
      refine X_bipush 97 88 dX5_nextToken_86 (by decide) rfl ?_
      refine X_bipush 122 90 dX5_nextToken_88 (by decide) rfl ?_
      rw [lq39]
      refine X_callS3 93 dX5_nextToken_90 cw_X5_87 zk_X5_in rfl rfl (S_X5_in ?_)
      refine X_pu ?_
      refine X_ifeq 222 96 dX5_nextToken_93 (by decide) rfl (fun c93 => ?_) (fun c93 => ?_)
      · rw [b2i_0] at c93
        refine X_aldn0 223 dX5_nextToken_222 rfl rfl ?_
        refine X_getA 39 226 dX5_nextToken_223 fl_X5_26 rfl rfl ?_
        refine X_aldn0 227 dX5_nextToken_226 rfl rfl ?_
        refine X_getI 230 dX5_nextToken_227 fl_X5_94 rfl rfl ?_
        refine X_ialk s 231 dX5_nextToken_230 rfl rfl lq8 (show s < 160 by omega) ?_
        refine X_bipush 48 233 dX5_nextToken_231 (by decide) rfl ?_
        refine X_bipush 57 235 dX5_nextToken_233 (by decide) rfl ?_
        rw [lq39]
        refine X_callS3 238 dX5_nextToken_235 cw_X5_87 zk_X5_in rfl rfl (S_X5_in ?_)
        refine X_pu ?_
        refine X_ifeq 357 241 dX5_nextToken_238 (by decide) rfl (fun c238 => ?_) (fun c238 => ?_)
        · rw [b2i_0] at c238
          refine X_aldn0 358 dX5_nextToken_357 rfl rfl ?_
          refine X_aldn0 359 dX5_nextToken_358 rfl rfl ?_
          refine X_getA 39 362 dX5_nextToken_359 fl_X5_26 rfl rfl ?_
          refine X_aldn0 363 dX5_nextToken_362 rfl rfl ?_
          refine X_getI 366 dX5_nextToken_363 fl_X5_94 rfl rfl ?_
          refine X_ialk s 367 dX5_nextToken_366 rfl rfl lq8 (show s < 160 by omega) ?_
          refine X_bipush 59 369 dX5_nextToken_367 (by decide) rfl ?_
          rw [lq39]
          refine X_icne 378 372 dX5_nextToken_369 (by decide) rfl (fun c369 => ?_) (fun c369 => ?_)
          · refine X_ldc2 (-4) 381 dX5_nextToken_378 cl_X5_116 rfl ?_
            refine X_putL 384 dX5_nextToken_381 fp_X5_108 rfl ?_
            refine X_aldn0 385 dX5_nextToken_384 rfl rfl ?_
            refine X_dup 386 dX5_nextToken_385 rfl rfl ?_
            refine X_getI 389 dX5_nextToken_386 fl_X5_94 rfl rfl ?_
            refine X_iconst 1 390 dX5_nextToken_389 (by decide) rfl ?_
            refine X_iadd 391 dX5_nextToken_390 rfl ?_
            refine X_putI 394 dX5_nextToken_391 fp_X5_94 rfl rfl ?_
            skip
            refine X_vret dX5_nextToken_394 rfl ?_
            rw [ntS, if_neg (by omega), if_neg (by rw [show smL (σ.1 39 s) = false from c93]; decide), if_neg (by rw [show dgL (σ.1 39 s) = false from c238]; decide), if_neg c369] at h
            rw [lpt, lq8, ← nI_succ, lps8]
            exact h
          · refine X_ldc2 (-3) 375 dX5_nextToken_372 cl_X5_120 rfl ?_
            refine X_goto 381 dX5_nextToken_375 (by decide) ?_
            refine X_putL 384 dX5_nextToken_381 fp_X5_108 rfl ?_
            refine X_aldn0 385 dX5_nextToken_384 rfl rfl ?_
            refine X_dup 386 dX5_nextToken_385 rfl rfl ?_
            refine X_getI 389 dX5_nextToken_386 fl_X5_94 rfl rfl ?_
            refine X_iconst 1 390 dX5_nextToken_389 (by decide) rfl ?_
            refine X_iadd 391 dX5_nextToken_390 rfl ?_
            refine X_putI 394 dX5_nextToken_391 fp_X5_94 rfl rfl ?_
            skip
            refine X_vret dX5_nextToken_394 rfl ?_
            rw [ntS, if_neg (by omega), if_neg (by rw [show smL (σ.1 39 s) = false from c93]; decide), if_neg (by rw [show dgL (σ.1 39 s) = false from c238]; decide), if_pos c369] at h
            rw [lpt, lq8, ← nI_succ, lps8]
            exact h
        · rw [b2i_n] at c238
          exact dt hsn c93 c238 (lM σ - s) 0 (by omega) rfl
      · rw [b2i_n] at c93
        refine X_aldn0 97 dX5_nextToken_96 rfl rfl ?_
        refine X_lconst 0 98 dX5_nextToken_97 (by decide) rfl ?_
        refine X_putL 101 dX5_nextToken_98 fp_X5_108 rfl ?_
        exact lt hsn c93 (lM σ - s) 0 (by omega) rfl
    · have c64 : s = lM σ := by have := leq (c64 ▸ Int32.le_refl _ : nI (lM σ) ≤ nI s) rfl (by omega) (by omega); omega
      refine X_aldn0 68 dX5_nextToken_67 rfl rfl ?_
      refine X_ldc2 (-2) 71 dX5_nextToken_68 cl_X5_106 rfl ?_
      refine X_putL 74 dX5_nextToken_71 fp_X5_108 rfl ?_
      refine X_goto 394 dX5_nextToken_74 (by decide) ?_
      skip
      refine X_vret dX5_nextToken_394 rfl ?_
      rw [ntS, if_pos c64] at h
      exact h
  have skip_ : ∀ r i, i + r = lM σ → skB (σ.1 39) (lM σ) r i = tkS (σ.1 39) (lM σ) (poM σ) → xg_X none (d + 1) mX5_nextToken 0 [(0, .ref 36)] [] (xm_set σ 36 8 (nI i)) Q := by
    intro r
    have h := h
    rw [ntM] at h
    generalize tkS (σ.1 39) (lM σ) (poM σ) = s at *
    induction r with
    | zero =>
      intro i hi er
      rw [skB] at er
      subst er
      refine X_aldn0 1 dX5_nextToken_0 rfl rfl ?_
      refine X_getI 4 dX5_nextToken_1 fl_X5_94 rfl rfl ?_
      refine X_aldn0 5 dX5_nextToken_4 rfl rfl ?_
      refine X_getI 8 dX5_nextToken_5 fl_X5_91 rfl rfl ?_
      rw [xs_eq, xs_nk (by decide), h6]
      refine X_icge 38 11 dX5_nextToken_8 (by decide) rfl (fun c8 => ?_) (fun c8 => ?_)
      · refine X_aldn0 39 dX5_nextToken_38 rfl rfl ?_
        refine X_aldn0 40 dX5_nextToken_39 rfl rfl ?_
        refine X_getI 43 dX5_nextToken_40 fl_X5_94 rfl rfl ?_
        refine X_putI 46 dX5_nextToken_43 fp_X5_97 rfl rfl ?_
        rw [xs_eq]
        refine X_aldn0 47 dX5_nextToken_46 rfl rfl ?_
        refine X_iconst 0 48 dX5_nextToken_47 (by decide) rfl ?_
        refine X_putI 51 dX5_nextToken_48 fp_X5_100 rfl rfl ?_
        refine X_aldn0 52 dX5_nextToken_51 rfl rfl ?_
        refine X_iconst 0 53 dX5_nextToken_52 (by decide) rfl ?_
        refine X_putI 56 dX5_nextToken_53 fp_X5_103 rfl rfl ?_
        exact xg_mm lq0.symm (tail i (by omega) h)
      · exact absurd (nI_le (by omega) (by omega)) c8
    | succ r ih =>
      intro i hi er
      rw [skB] at er
      refine X_aldn0 1 dX5_nextToken_0 rfl rfl ?_
      refine X_getI 4 dX5_nextToken_1 fl_X5_94 rfl rfl ?_
      refine X_aldn0 5 dX5_nextToken_4 rfl rfl ?_
      refine X_getI 8 dX5_nextToken_5 fl_X5_91 rfl rfl ?_
      rw [xs_eq, xs_nk (by decide), h6]
      refine X_icge 38 11 dX5_nextToken_8 (by decide) rfl (fun c8 => ?_) (fun c8 => ?_)
      · have c8 := leq c8 rfl (by omega) (by omega)
        omega
      · refine X_aldn0 12 dX5_nextToken_11 rfl rfl ?_
        refine X_getA 39 15 dX5_nextToken_12 fl_X5_26 rfl rfl ?_
        refine X_aldn0 16 dX5_nextToken_15 rfl rfl ?_
        refine X_getI 19 dX5_nextToken_16 fl_X5_94 rfl rfl ?_
        refine X_ialk i 20 dX5_nextToken_19 rfl rfl xs_eq (show i < 160 by omega) ?_
        refine X_bipush 32 22 dX5_nextToken_20 (by decide) rfl ?_
        rw [xs_ne (by decide)]
        refine X_icne 38 25 dX5_nextToken_22 (by decide) rfl (fun c22 => ?_) (fun c22 => ?_)
        · refine X_aldn0 39 dX5_nextToken_38 rfl rfl ?_
          refine X_aldn0 40 dX5_nextToken_39 rfl rfl ?_
          refine X_getI 43 dX5_nextToken_40 fl_X5_94 rfl rfl ?_
          refine X_putI 46 dX5_nextToken_43 fp_X5_97 rfl rfl ?_
          rw [xs_eq]
          refine X_aldn0 47 dX5_nextToken_46 rfl rfl ?_
          refine X_iconst 0 48 dX5_nextToken_47 (by decide) rfl ?_
          refine X_putI 51 dX5_nextToken_48 fp_X5_100 rfl rfl ?_
          refine X_aldn0 52 dX5_nextToken_51 rfl rfl ?_
          refine X_iconst 0 53 dX5_nextToken_52 (by decide) rfl ?_
          refine X_putI 56 dX5_nextToken_53 fp_X5_103 rfl rfl ?_
          rw [if_neg (fun q => c22 q.2)] at er
          subst er
          exact xg_mm lq0.symm (tail i (by omega) h)
        · refine X_aldn0 26 dX5_nextToken_25 rfl rfl ?_
          refine X_dup 27 dX5_nextToken_26 rfl rfl ?_
          refine X_getI 30 dX5_nextToken_27 fl_X5_94 rfl rfl ?_
          refine X_iconst 1 31 dX5_nextToken_30 (by decide) rfl ?_
          refine X_iadd 32 dX5_nextToken_31 rfl ?_
          refine X_putI 35 dX5_nextToken_32 fp_X5_94 rfl rfl ?_
          refine X_goto 0 dX5_nextToken_35 (by decide) ?_
          rw [if_pos ⟨by omega, c22⟩] at er
          refine xg_mm ?_ (ih (i + 1) (by omega) er)
          rw [xs_eq, xs_xs, nI_succ]
  refine xg_mm (xs_self h8) (skip_ (lM σ - poM σ) (poM σ) (by omega) rfl)
end REF8

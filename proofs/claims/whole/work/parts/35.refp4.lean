/-! the reference: the table of plans, laid -/
theorem cd_use {B : xm_M} {e : Nat} {a h : Int32} (hc : cdI B e a h = true) : (3 ≤ e → e % 10 < tkMm B) ∧ (20 ≤ e → ¬ B.1 51 (foM B (e % 10)) = -1) := by
  unfold cdI at hc
  by_cases c3 : e < 3
  · exact ⟨fun q => by omega, fun q => by omega⟩
  · rw [if_neg c3] at hc
    by_cases q : tkMm B ≤ e % 10 ∨ hb h (nI (e % 10)) = true ∨ thM B 41 (taM B (e % 10)) = false
    · rw [if_pos q] at hc
      exact absurd hc (by decide)
    · rw [if_neg q] at hc
      refine ⟨fun _ => by omega, fun q20 => ?_⟩
      rw [if_neg (by omega)] at hc
      exact of_decide_eq_true hc
theorem tk_sm {B τ : xm_M} (h : sm4 B τ) : tkMm τ = tkMm B := by unfold tkMm; rw [h 36 (by decide) (by decide)]
theorem fo_sm {B τ : xm_M} (h : sm4 B τ) {k : Nat} : foM τ k = foM B k := by unfold foM taM; rw [h 37 (by decide) (by decide), h 47 (by decide) (by decide)]
/-- the tools named are things -/
def vTo (B : xm_M) : Prop := ∀ f, f < 3 → B.1 51 f = -1 ∨ ∃ t, t < 8 ∧ B.1 51 f = nI t
def atM (R : xm_M) (i : Nat) (v : Int32 × Int32) : xm_M := xm_set (xm_set R 49 i v.1) 50 i v.2
theorem at_49 {R : xm_M} {i : Nat} {v : Int32 × Int32} : (atM R i v).1 49 i = v.1 := by unfold atM; rw [xs_ne (by decide), xs_eq]
theorem at_50 {R : xm_M} {i : Nat} {v : Int32 × Int32} : (atM R i v).1 50 i = v.2 := by unfold atM; rw [xs_eq]
theorem at_up {R : xm_M} {i : Nat} {v : Int32 × Int32} {a b : Int32} : xm_set (xm_set (atM R i v) 49 i a) 50 i b = atM R i (a, b) := by
  apply Prod.ext
  · funext c j
    simp only [atM, xm_set]
    grind
  · rfl
theorem at_sm {B R : xm_M} {i : Nat} {v : Int32 × Int32} (h : sm4 B R) : sm4 B (atM R i v) := by
  intro c a b
  rw [← h c a b]
  funext j
  unfold atM
  rw [xs_ne b, xs_ne a]
theorem at_far {B τ : xm_M} {m p a c : Nat} {v : Int32 × Int32} (hp : p < 1280) (ha : 1280 * (m + 1) ≤ a) : (atM (rowM B τ m p) (1280 * m + p) v).1 c a = τ.1 c a := by
  unfold atM
  rw [xs_nk (by omega : a ≠ 1280 * m + p), xs_nk (by omega : a ≠ 1280 * m + p)]
  simp only [rowM]
  rw [if_neg (by omega), if_neg (by omega)]
theorem row_succ {B τ : xm_M} {m p : Nat} : atM (rowM B τ m p) (1280 * m + p) (fnV B τ m p) = rowM B τ m (p + 1) := by
  apply Prod.ext
  · funext c j
    simp only [atM, rowM, xm_set]
    by_cases e : j = 1280 * m + p
    · subst e
      rw [show 1280 * m + p - 1280 * m = p by omega]
      by_cases e50 : c = 50
      · subst e50
        simp
      · by_cases e49 : c = 49
        · subst e49
          simp
        · simp [e50, e49]
    · rw [if_neg (fun q => e q.2), if_neg (fun q => e q.2)]
      have : (j < 1280 * m + (p + 1)) = (j < 1280 * m + p) := propext ⟨fun q => by omega, fun q => by omega⟩
      simp only [this]
  · rfl
section REFP4
variable {d : Nat} {Q : Option Value → xm_M → Prop}
theorem lay_place {B τ : xm_M} {m p : Nat} (hv : vTf B) (ho : vTo B) (hs : sm4 B τ) (hm : m ≤ 24) (hp : p < 1280)
    (h : ∀ lx, xg_X none (d + 3) mX5_layPlans 95 (lx ++ [(3, .int (nI (p + 1))), (2, .int (nI m)), (1, .int (alM B)), (0, .ref 36)]) [] (rowM B τ m (p + 1)) Q) :
    ∀ lx, xg_X none (d + 3) mX5_layPlans 178 (lx ++ [(8, .int (nI 0)), (7, .int (nI (1280 * m + p))), (6, .int (nI (p % 8))), (5, .int (nI (p / 8 % 16))), (4, .int (nI (p / 128))), (3, .int (nI p)), (2, .int (nI m)), (1, .int (alM B)), (0, .ref 36)]) [] (atM (rowM B τ m p) (1280 * m + p) (stK B τ m p 0)) Q := by
  have hat : 1280 * m + p < 32000 := by omega
  have out : ∀ z v, v = fnV B τ m p → ∀ lx, xg_X none (d + 3) mX5_layPlans 341 (lx ++ [(8, .int z), (7, .int (nI (1280 * m + p))), (6, .int (nI (p % 8))), (5, .int (nI (p / 8 % 16))), (4, .int (nI (p / 128))), (3, .int (nI p)), (2, .int (nI m)), (1, .int (alM B)), (0, .ref 36)]) [] (atM (rowM B τ m p) (1280 * m + p) v) Q := by
    intro z v ev lx
    subst ev
    rw [row_succ]
    refine xg_sub (lw := [(3, .int (nI p)), (2, .int (nI m)), (1, .int (alM B)), (0, .ref 36)]) (fun q hq => List.mem_append_right _ (by simp only [List.mem_cons] at hq ⊢; grind)) ?_
    have hh := h []
    rw [nI_succ] at hh
    refine X_inc0 1 344 dX5_layPlans_341 (by decide) rfl rfl rfl ?_
    refine X_goto 95 dX5_layPlans_344 (by decide) ?_
    exact hh
  by_cases go : m < 24 ∧ 0 < p / 128 ∧ nI (p / 8 % 16) < alM B
  · have ef : fnV B τ m p = stK B τ m p 10 := if_pos go
    obtain ⟨g1, g2, g3⟩ := go
    have loop : ∀ r k, k + r = 10 → ∀ lx, xg_X none (d + 3) mX5_layPlans 178 (lx ++ [(8, .int (nI k)), (7, .int (nI (1280 * m + p))), (6, .int (nI (p % 8))), (5, .int (nI (p / 8 % 16))), (4, .int (nI (p / 128))), (3, .int (nI p)), (2, .int (nI m)), (1, .int (alM B)), (0, .ref 36)]) [] (atM (rowM B τ m p) (1280 * m + p) (stK B τ m p k)) Q := by
      intro r
      induction r with
      | zero =>
        intro k hk lx
        obtain rfl : k = 10 := by omega
        refine xg_sub (lw := [(8, .int (nI 10)), (7, .int (nI (1280 * m + p))), (6, .int (nI (p % 8))), (5, .int (nI (p / 8 % 16))), (4, .int (nI (p / 128))), (3, .int (nI p)), (2, .int (nI m)), (1, .int (alM B)), (0, .ref 36)]) (fun q hq => List.mem_append_right _ hq) ?_
        refine X_ild0 180 dX5_layPlans_178 rfl ?_
        refine X_bipush 10 182 dX5_layPlans_180 (by decide) rfl ?_
        refine X_icge 341 185 dX5_layPlans_182 (by decide) rfl (fun c182 => ?_) (fun c182 => ?_)
        · exact out _ _ ef.symm []
        · exact absurd (by decide) c182
      | succ r ih =>
        intro k hk lx
        refine xg_sub (lw := [(8, .int (nI k)), (7, .int (nI (1280 * m + p))), (6, .int (nI (p % 8))), (5, .int (nI (p / 8 % 16))), (4, .int (nI (p / 128))), (3, .int (nI p)), (2, .int (nI m)), (1, .int (alM B)), (0, .ref 36)]) (fun q hq => List.mem_append_right _ hq) ?_
        obtain ⟨dk, d24, -⟩ := daI_dN k (by omega)
        have s4 : sm4 B (atM (rowM B τ m p) (1280 * m + p) (stK B τ m p k)) := at_sm (rowM_sm hs)
        have vk := vTf_sm s4 hv
        have far : ∀ c a, 1280 * (m + 1) ≤ a → (atM (rowM B τ m p) (1280 * m + p) (stK B τ m p k)).1 c a = τ.1 c a := fun c a ha => at_far hp ha
        have r49 : (atM (rowM B τ m p) (1280 * m + p) (stK B τ m p k)).1 49 (1280 * m + p) = (stK B τ m p k).1 := at_49
        have r50 : (atM (rowM B τ m p) (1280 * m + p) (stK B τ m p k)).1 50 (1280 * m + p) = (stK B τ m p k).2 := at_50
        have nxt : ∀ v, stK B τ m p (k + 1) = v → ∀ lx, xg_X none (d + 3) mX5_layPlans 335 (lx ++ [(8, .int (nI k)), (7, .int (nI (1280 * m + p))), (6, .int (nI (p % 8))), (5, .int (nI (p / 8 % 16))), (4, .int (nI (p / 128))), (3, .int (nI p)), (2, .int (nI m)), (1, .int (alM B)), (0, .ref 36)]) [] (atM (rowM B τ m p) (1280 * m + p) v) Q := by
          intro v ev lx
          subst ev
          have hh := ih (k + 1) (by omega) []
          rw [nI_succ] at hh
          refine xg_sub (lw := [(8, .int (nI k)), (7, .int (nI (1280 * m + p))), (6, .int (nI (p % 8))), (5, .int (nI (p / 8 % 16))), (4, .int (nI (p / 128))), (3, .int (nI p)), (2, .int (nI m)), (1, .int (alM B)), (0, .ref 36)]) (fun q hq => List.mem_append_right _ hq) ?_
          refine X_inc0 1 338 dX5_layPlans_335 (by decide) rfl rfl rfl ?_
          refine X_goto 178 dX5_layPlans_338 (by decide) ?_
          exact hh
        have nxS := nxt (stK B τ m p k)
        have nxU : stK B τ m p (k + 1) = (smK B τ m p k, τ.1 50 (toA B m p k)) → ∀ lx, xg_X none (d + 3) mX5_layPlans 335 (lx ++ [(8, .int (nI k)), (7, .int (nI (1280 * m + p))), (6, .int (nI (p % 8))), (5, .int (nI (p / 8 % 16))), (4, .int (nI (p / 128))), (3, .int (nI p)), (2, .int (nI m)), (1, .int (alM B)), (0, .ref 36)]) [] (xm_set (xm_set (atM (rowM B τ m p) (1280 * m + p) (stK B τ m p k)) 49 (1280 * m + p) (smK B τ m p k)) 50 (1280 * m + p) (τ.1 50 (toA B m p k))) Q := by
          intro ev lx
          rw [at_up]
          exact nxt _ ev lx
        clear nxt ih
        rw [stK] at nxS nxU
        generalize atM (rowM B τ m p) (1280 * m + p) (stK B τ m p k) = κ at *
        generalize stK B τ m p k = v at *
        refine X_ild0 180 dX5_layPlans_178 rfl ?_
        refine X_bipush 10 182 dX5_layPlans_180 (by decide) rfl ?_
        refine X_icge 341 185 dX5_layPlans_182 (by decide) rfl (fun c182 => ?_) (fun c182 => ?_)
        · have c182 := leq c182 (n := 10) (by decide) (by decide) (by omega)
          omega
        · refine X_ildn6 186 dX5_layPlans_185 rfl rfl ?_
          refine X_bipush 24 188 dX5_layPlans_186 (by decide) rfl ?_
          refine X_icge 341 191 dX5_layPlans_188 (by decide) rfl (fun c188 => ?_) (fun c188 => ?_)
          · have c188 := (nI_leI (a := 24) (b := m) (by decide) (by omega)).mp c188
            omega
          · refine X_ild4 193 dX5_layPlans_191 rfl ?_
            refine X_ifle 341 196 dX5_layPlans_193 (by decide) rfl (fun c193 => ?_) (fun c193 => ?_)
            · have c193 := (nI_leI (a := p / 128) (b := 0) (by omega) (by decide)).mp c193
              omega
            · refine X_ild3 198 dX5_layPlans_196 rfl ?_
              refine X_ildn7 199 dX5_layPlans_198 rfl rfl ?_
              refine X_icge 341 202 dX5_layPlans_199 (by decide) rfl (fun c199 => ?_) (fun c199 => ?_)
              · exact absurd g3 (by rw [i_nlt]; exact c199)
              · refine X_ild0 204 dX5_layPlans_202 rfl ?_
                refine X_callS1 207 dX5_layPlans_204 cw_X5_256 zk_X5_deedAt rfl rfl (S_X5_deedAt ?_)
                rw [dk]
                refine X_pu ?_
                refine X_istN 209 dX5_layPlans_207 rfl rfl rfl ?_
                refine X_aldn9 210 dX5_layPlans_209 rfl rfl ?_
                refine X_ild0 212 dX5_layPlans_210 rfl ?_
                refine X_ild5 214 dX5_layPlans_212 rfl ?_
                refine X_ild4 216 dX5_layPlans_214 rfl ?_
                refine X_callV3 5 219 dX5_layPlans_216 cw_X5_259 zk_X5_canDo ⟨rfl, rfl⟩ rfl rfl rfl (S_X5_canDo vk d24 ?_)
                rw [cdI_sm s4]
                refine X_pu ?_
                refine X_ifeq 335 222 dX5_layPlans_219 (by decide) rfl (fun c219 => ?_) (fun c219 => ?_)
                · rw [b2i_0] at c219
                  exact nxS (if_neg (fun q => by rw [q.1] at c219; exact absurd c219 (by decide))) [_]
                · rw [b2i_n] at c219
                  obtain ⟨eto, l1, l2⟩ := to_in hv g1 hp (by omega) c219
                  obtain ⟨u1, u2⟩ := cd_use c219
                  have t49 := far 49 (toA B m p k) (by omega)
                  have t50 := far 50 (toA B m p k) (by omega)
                  refine X_aldn9 223 dX5_layPlans_222 rfl rfl ?_
                  refine X_ild0 225 dX5_layPlans_223 rfl ?_
                  refine X_ildn7 226 dX5_layPlans_225 rfl rfl ?_
                  refine X_ild5 228 dX5_layPlans_226 rfl ?_
                  refine X_ild4 230 dX5_layPlans_228 rfl ?_
                  refine X_ild3 232 dX5_layPlans_230 rfl ?_
                  refine X_callV5 5 235 dX5_layPlans_232 cw_X5_262 zk_X5_behind ⟨rfl, rfl⟩ rfl rfl rfl (S_X5_behind vk d24 (fun q => by rw [tk_sm s4]; exact u1 q) ?_)
                  rw [bnI_sm s4, eto]
                  refine X_pu ?_
                  refine X_istN 237 dX5_layPlans_235 rfl rfl rfl ?_
                  refine X_aldn10 238 dX5_layPlans_237 rfl rfl ?_
                  refine X_getA 49 241 dX5_layPlans_238 fl_X5_57 rfl rfl ?_
                  refine X_ild0 243 dX5_layPlans_241 rfl ?_
                  refine X_ialk (toA B m p k) 244 dX5_layPlans_243 rfl rfl rfl (show toA B m p k < 32000 by omega) ?_
                  rw [t49]
                  refine X_aldn10 245 dX5_layPlans_244 rfl rfl ?_
                  refine X_ild1 247 dX5_layPlans_245 rfl ?_
                  refine X_ildn8 248 dX5_layPlans_247 rfl rfl ?_
                  refine X_ild6 250 dX5_layPlans_248 rfl ?_
                  refine X_ild4 252 dX5_layPlans_250 rfl ?_
                  refine X_callV4 5 255 dX5_layPlans_252 cw_X5_266 zk_X5_costOf ⟨rfl, rfl⟩ rfl rfl rfl (S_X5_costOf vk d24 (fun q => by rw [tk_sm s4, fo_sm s4, s4 51 (by decide) (by decide)]; exact ⟨u1 (by omega), (ho _ (vTf_at hv (u1 (by omega))).2.2.1).resolve_left (u2 q)⟩) ?_)
                  rw [csI_sm s4]
                  refine X_pu ?_
                  refine X_iadd 256 dX5_layPlans_255 rfl ?_
                  refine X_istN 258 dX5_layPlans_256 rfl rfl rfl ?_
                  refine X_aldn11 259 dX5_layPlans_258 rfl rfl ?_
                  refine X_getA 49 262 dX5_layPlans_259 fl_X5_57 rfl rfl ?_
                  refine X_ild1 264 dX5_layPlans_262 rfl ?_
                  refine X_ialk (toA B m p k) 265 dX5_layPlans_264 rfl rfl rfl (show toA B m p k < 32000 by omega) ?_
                  rw [t49]
                  refine X_sipush 9999 268 dX5_layPlans_265 (by decide) rfl ?_
                  refine X_icge 335 271 dX5_layPlans_268 (by decide) rfl (fun c268 => ?_) (fun c268 => ?_)
                  · exact nxS (if_neg (fun q => q.2.1 c268)) [_, _, _]
                  · refine X_ild0 273 dX5_layPlans_271 rfl ?_
                    refine X_aldn11 274 dX5_layPlans_273 rfl rfl ?_
                    refine X_getA 49 277 dX5_layPlans_274 fl_X5_57 rfl rfl ?_
                    refine X_ild4 279 dX5_layPlans_277 rfl ?_
                    refine X_ialk (1280 * m + p) 280 dX5_layPlans_279 rfl rfl rfl (show 1280 * m + p < 32000 by omega) ?_
                    rw [r49]
                    refine X_iclt 312 283 dX5_layPlans_280 (by decide) rfl (fun c280 => ?_) (fun c280 => ?_)
                    · refine X_aldn11 313 dX5_layPlans_312 rfl rfl ?_
                      refine X_getA 49 316 dX5_layPlans_313 fl_X5_57 rfl rfl ?_
                      refine X_ild4 318 dX5_layPlans_316 rfl ?_
                      refine X_ild0 320 dX5_layPlans_318 rfl ?_
                      refine X_iask (1280 * m + p) 321 dX5_layPlans_320 rfl rfl rfl (show 1280 * m + p < 32000 by omega) ?_
                      refine X_aldn11 322 dX5_layPlans_321 rfl rfl ?_
                      refine X_getA 50 325 dX5_layPlans_322 fl_X5_60 rfl rfl ?_
                      refine X_ild4 327 dX5_layPlans_325 rfl ?_
                      refine X_aldn11 328 dX5_layPlans_327 rfl rfl ?_
                      refine X_getA 50 331 dX5_layPlans_328 fl_X5_60 rfl rfl ?_
                      refine X_ild1 333 dX5_layPlans_331 rfl ?_
                      refine X_ialk (toA B m p k) 334 dX5_layPlans_333 rfl rfl rfl (show toA B m p k < 32000 by omega) ?_
                      rw [xs_ne (by decide), t50]
                      refine X_iask (1280 * m + p) 335 dX5_layPlans_334 rfl rfl rfl (show 1280 * m + p < 32000 by omega) ?_
                      exact nxU (if_pos ⟨c219, c268, Or.inl c280⟩) [_, _, _]
                    · refine X_ild0 285 dX5_layPlans_283 rfl ?_
                      refine X_aldn11 286 dX5_layPlans_285 rfl rfl ?_
                      refine X_getA 49 289 dX5_layPlans_286 fl_X5_57 rfl rfl ?_
                      refine X_ild4 291 dX5_layPlans_289 rfl ?_
                      refine X_ialk (1280 * m + p) 292 dX5_layPlans_291 rfl rfl rfl (show 1280 * m + p < 32000 by omega) ?_
                      rw [r49]
                      refine X_icne 335 295 dX5_layPlans_292 (by decide) rfl (fun c292 => ?_) (fun c292 => ?_)
                      · exact nxS (if_neg (fun q => q.2.2.elim c280 (fun z => c292 z.1))) [_, _, _]
                      · refine X_aldn11 296 dX5_layPlans_295 rfl rfl ?_
                        refine X_getA 50 299 dX5_layPlans_296 fl_X5_60 rfl rfl ?_
                        refine X_ild1 301 dX5_layPlans_299 rfl ?_
                        refine X_ialk (toA B m p k) 302 dX5_layPlans_301 rfl rfl rfl (show toA B m p k < 32000 by omega) ?_
                        rw [t50]
                        refine X_aldn11 303 dX5_layPlans_302 rfl rfl ?_
                        refine X_getA 50 306 dX5_layPlans_303 fl_X5_60 rfl rfl ?_
                        refine X_ild4 308 dX5_layPlans_306 rfl ?_
                        refine X_ialk (1280 * m + p) 309 dX5_layPlans_308 rfl rfl rfl (show 1280 * m + p < 32000 by omega) ?_
                        rw [r50]
                        refine X_icge 335 312 dX5_layPlans_309 (by decide) rfl (fun c309 => ?_) (fun c309 => ?_)
                        · exact nxS (if_neg (fun q => q.2.2.elim c280 (fun z => z.2 c309))) [_, _, _]
                        · refine X_aldn11 313 dX5_layPlans_312 rfl rfl ?_
                          refine X_getA 49 316 dX5_layPlans_313 fl_X5_57 rfl rfl ?_
                          refine X_ild4 318 dX5_layPlans_316 rfl ?_
                          refine X_ild0 320 dX5_layPlans_318 rfl ?_
                          refine X_iask (1280 * m + p) 321 dX5_layPlans_320 rfl rfl rfl (show 1280 * m + p < 32000 by omega) ?_
                          refine X_aldn11 322 dX5_layPlans_321 rfl rfl ?_
                          refine X_getA 50 325 dX5_layPlans_322 fl_X5_60 rfl rfl ?_
                          refine X_ild4 327 dX5_layPlans_325 rfl ?_
                          refine X_aldn11 328 dX5_layPlans_327 rfl rfl ?_
                          refine X_getA 50 331 dX5_layPlans_328 fl_X5_60 rfl rfl ?_
                          refine X_ild1 333 dX5_layPlans_331 rfl ?_
                          refine X_ialk (toA B m p k) 334 dX5_layPlans_333 rfl rfl rfl (show toA B m p k < 32000 by omega) ?_
                          rw [xs_ne (by decide), t50]
                          refine X_iask (1280 * m + p) 335 dX5_layPlans_334 rfl rfl rfl (show 1280 * m + p < 32000 by omega) ?_
                          exact nxU (if_pos ⟨c219, c268, Or.inr ⟨c292, c309⟩⟩) [_, _, _]
    exact loop 10 0 rfl
  · have ef : fnV B τ m p = stK B τ m p 0 := if_neg go
    intro lx
    refine xg_sub (lw := [(8, .int (nI 0)), (7, .int (nI (1280 * m + p))), (6, .int (nI (p % 8))), (5, .int (nI (p / 8 % 16))), (4, .int (nI (p / 128))), (3, .int (nI p)), (2, .int (nI m)), (1, .int (alM B)), (0, .ref 36)]) (fun q hq => List.mem_append_right _ hq) ?_
    refine X_ild0 180 dX5_layPlans_178 rfl ?_
    refine X_bipush 10 182 dX5_layPlans_180 (by decide) rfl ?_
    refine X_icge 341 185 dX5_layPlans_182 (by decide) rfl (fun c182 => ?_) (fun c182 => ?_)
    · exact out _ _ ef.symm []
    · refine X_ildn6 186 dX5_layPlans_185 rfl rfl ?_
      refine X_bipush 24 188 dX5_layPlans_186 (by decide) rfl ?_
      refine X_icge 341 191 dX5_layPlans_188 (by decide) rfl (fun c188 => ?_) (fun c188 => ?_)
      · exact out _ _ ef.symm []
      · refine X_ild4 193 dX5_layPlans_191 rfl ?_
        refine X_ifle 341 196 dX5_layPlans_193 (by decide) rfl (fun c193 => ?_) (fun c193 => ?_)
        · exact out _ _ ef.symm []
        · refine X_ild3 198 dX5_layPlans_196 rfl ?_
          refine X_ildn7 199 dX5_layPlans_198 rfl rfl ?_
          refine X_icge 341 202 dX5_layPlans_199 (by decide) rfl (fun c199 => ?_) (fun c199 => ?_)
          · exact out _ _ ef.symm []
          · exact absurd ⟨by have : ¬ 24 ≤ m := fun z => c188 (nI_le (a := 24) z (by omega)); omega, by have : ¬ p / 128 ≤ 0 := fun z => c193 (nI_le (b := 0) z (by decide)); omega, by rw [i_nle] at c199; exact c199⟩ go
end REFP4

/-! the reference: the table of plans, its tools -/
def tuM (σ : xm_M) (f : Nat) : Int32 := tlM σ (nI f) (nM σ)
def trn (σ : xm_M) : Nat → Int32
  | 0 => 0
  | f + 1 => trn σ f ||| (if ¬ tuM σ f = -1 ∧ σ.1 41 (ixN (tuM σ f)) = 2 then 1 <<< (nI f &&& 31) else 0)
def la1 (σ : xm_M) (f : Nat) : xm_M := (fun c j => if c = 51 ∧ j < f then tuM σ j else if c = 36 ∧ j = 32 then trn σ f else σ.1 c j, σ.2)
theorem la1_ne {σ : xm_M} {f c : Nat} (h51 : c ≠ 51) (h36 : c ≠ 36) : (la1 σ f).1 c = σ.1 c := by funext j; simp [la1, h51, h36]
theorem la1_k {σ : xm_M} {f k : Nat} (h : k ≠ 32) : (la1 σ f).1 36 k = σ.1 36 k := by simp [la1, h]
theorem la1_32 {σ : xm_M} {f : Nat} : (la1 σ f).1 36 32 = trn σ f := by simp [la1]
theorem tlM_same {σ τ : xm_M} {f : Int32} (h37 : τ.1 37 = σ.1 37) (h41 : τ.1 41 = σ.1 41) (h47 : τ.1 47 = σ.1 47) (h26 : τ.1 36 26 = σ.1 36 26) : ∀ n, tlM τ f n = tlM σ f n
  | 0 => rfl
  | n + 1 => by
    have ek : ∀ x k, isK τ x k = isK σ x k := by
      intro x k
      induction k with
      | zero => rfl
      | succ k ih => rw [isK, isK, ih, h47]
    have er : ∀ i, rkM τ i = rkM σ i := fun i => by unfold rkM; rw [h41, h37]
    have et : ∀ i, thM τ 41 i = thM σ 41 i := fun i => by unfold thM; rw [h41, h37]
    have em : tkMm τ = tkMm σ := by unfold tkMm; rw [h26]
    rw [tlM, tlM, tlM_same h37 h41 h47 h26 n, er, er, et, ek, em, h37]
theorem tuM_in {σ : xm_M} (hv : vXm σ) {f : Nat} (h : ¬ tuM σ f = -1) : ∃ t, t < 8 ∧ tuM σ f = nI t := by
  obtain ⟨t, ht, et⟩ := (tlM_in (σ := σ) (f := nI f) (nM σ)).resolve_left h
  exact ⟨t, Nat.lt_of_lt_of_le ht hv.2, et⟩
section REFP2
variable {d : Nat} {σ : xm_M} {Q : Option Value → xm_M → Prop}
theorem lay_tools (hv : vXm σ) (hk : vTk σ) (h : xg_X none (d + 3) mX5_layPlans 70 [(1, .int (nI 3)), (0, .ref 36)] [] (la1 σ 3) Q) : xg_X none (d + 3) mX5_layPlans 0 [(0, .ref 36)] [] σ Q := by
  have loop : ∀ m f, f + m = 3 → xg_X none (d + 3) mX5_layPlans 7 [(1, .int (nI f)), (0, .ref 36)] [] (la1 σ f) Q := by
    intro m
    induction m with
    | zero =>
      intro f hf
      obtain rfl : f = 3 := by omega
      refine X_ildn0 8 dX5_layPlans_7 rfl rfl ?_
      refine X_iconst 3 9 dX5_layPlans_8 (by decide) rfl ?_
      refine X_icge 70 12 dX5_layPlans_9 (by decide) rfl (fun c9 => ?_) (fun c9 => ?_)
      · exact h
      · exact absurd (by decide) c9
    | succ m ih =>
      intro f hf
      have eT : tlM (la1 σ f) (nI f) (nM (la1 σ f)) = tuM σ f := by
        rw [show nM (la1 σ f) = nM σ by unfold nM; rw [la1_k (by decide)]]
        exact tlM_same (la1_ne (by decide) (by decide)) (la1_ne (by decide) (by decide)) (la1_ne (by decide) (by decide)) (la1_k (by decide)) _
      have v1 : vXm (la1 σ f) := vXm_of (la1_k (by decide)) hv
      have v2 : vTk (la1 σ f) := by
        unfold vTk tkMm at *
        rw [la1_k (by decide)]
        exact hk
      have r51 : (xm_set (la1 σ f) 51 f (tuM σ f)).1 51 f = tuM σ f := xs_eq
      have r32 : (xm_set (la1 σ f) 51 f (tuM σ f)).1 36 32 = trn σ f := by rw [xs_ne (by decide), la1_32]
      have r41 : (xm_set (la1 σ f) 51 f (tuM σ f)).1 41 = σ.1 41 := by funext j; rw [xs_ne (by decide), la1_ne (by decide) (by decide)]
      have nxt : xm_set (xm_set (la1 σ f) 51 f (tuM σ f)) 36 32 (trn σ (f + 1)) = la1 σ (f + 1) := by
        apply Prod.ext
        · funext c j
          simp only [la1, xm_set]
          grind
        · rfl
      have ihf := ih (f + 1) (by omega)
      rw [← nxt, trn, nI_succ] at ihf
      clear nxt
      refine X_ildn0 8 dX5_layPlans_7 rfl rfl ?_
      refine X_iconst 3 9 dX5_layPlans_8 (by decide) rfl ?_
      refine X_icge 70 12 dX5_layPlans_9 (by decide) rfl (fun c9 => ?_) (fun c9 => ?_)
      · have c9 := leq c9 (n := 3) (by decide) (by decide) (by omega)
        omega
      · refine X_aldn1 13 dX5_layPlans_12 rfl rfl ?_
        refine X_getA 51 16 dX5_layPlans_13 fl_X5_63 rfl rfl ?_
        refine X_ildn0 17 dX5_layPlans_16 rfl rfl ?_
        refine X_aldn1 18 dX5_layPlans_17 rfl rfl ?_
        refine X_ildn0 19 dX5_layPlans_18 rfl rfl ?_
        refine X_callV1 5 22 dX5_layPlans_19 cw_X5_208 zk_X5_toolOf ⟨rfl, rfl⟩ rfl rfl rfl (S_X5_toolOf v1 v2 ?_)
        rw [eT]
        refine X_pu ?_
        refine X_iask f 23 dX5_layPlans_22 rfl rfl rfl (show f < 3 by omega) ?_
        generalize xm_set (la1 σ f) 51 f (tuM σ f) = ρ at *
        refine X_aldn1 24 dX5_layPlans_23 rfl rfl ?_
        refine X_aldn1 25 dX5_layPlans_24 rfl rfl ?_
        refine X_getI 28 dX5_layPlans_25 fl_X5_253 rfl rfl ?_
        refine X_aldn1 29 dX5_layPlans_28 rfl rfl ?_
        refine X_getA 51 32 dX5_layPlans_29 fl_X5_63 rfl rfl ?_
        refine X_ildn0 33 dX5_layPlans_32 rfl rfl ?_
        refine X_ialk f 34 dX5_layPlans_33 rfl rfl rfl (show f < 3 by omega) ?_
        refine X_iconst (-1) 35 dX5_layPlans_34 (by decide) rfl ?_
        rw [r51]
        refine X_iceq 59 38 dX5_layPlans_35 (by decide) rfl (fun c35 => ?_) (fun c35 => ?_)
        · refine X_iconst 0 60 dX5_layPlans_59 (by decide) rfl ?_
          rw [r32]
          refine X_ior 61 dX5_layPlans_60 rfl ?_
          refine X_putI 64 dX5_layPlans_61 fp_X5_253 rfl rfl ?_
          refine X_inc0 1 67 dX5_layPlans_64 (by decide) rfl rfl rfl ?_
          refine X_goto 7 dX5_layPlans_67 (by decide) ?_
          rw [if_neg (fun q => q.1 c35)] at ihf
          exact ihf
        · obtain ⟨t, ht, et⟩ := tuM_in hv c35
          have e2 : ixN (tuM σ f) = t := by rw [et, ixN_nI (by omega)]
          refine X_aldn1 39 dX5_layPlans_38 rfl rfl ?_
          refine X_getA 41 42 dX5_layPlans_39 fl_X5_32 rfl rfl ?_
          refine X_aldn1 43 dX5_layPlans_42 rfl rfl ?_
          refine X_getA 51 46 dX5_layPlans_43 fl_X5_63 rfl rfl ?_
          refine X_ildn0 47 dX5_layPlans_46 rfl rfl ?_
          refine X_ialk f 48 dX5_layPlans_47 rfl rfl rfl (show f < 3 by omega) ?_
          refine X_ialk t 49 dX5_layPlans_48 rfl rfl (by rw [r51]; exact et) (show t < 12 by omega) ?_
          refine X_iconst 2 50 dX5_layPlans_49 (by decide) rfl ?_
          rw [r41]
          refine X_icne 59 53 dX5_layPlans_50 (by decide) rfl (fun c50 => ?_) (fun c50 => ?_)
          · refine X_iconst 0 60 dX5_layPlans_59 (by decide) rfl ?_
            rw [r32]
            refine X_ior 61 dX5_layPlans_60 rfl ?_
            refine X_putI 64 dX5_layPlans_61 fp_X5_253 rfl rfl ?_
            refine X_inc0 1 67 dX5_layPlans_64 (by decide) rfl rfl rfl ?_
            refine X_goto 7 dX5_layPlans_67 (by decide) ?_
            rw [if_neg (fun q => c50 (e2 ▸ q.2))] at ihf
            exact ihf
          · refine X_iconst 1 54 dX5_layPlans_53 (by decide) rfl ?_
            refine X_ildn0 55 dX5_layPlans_54 rfl rfl ?_
            refine X_ishl 56 dX5_layPlans_55 rfl ?_
            refine X_goto 60 dX5_layPlans_56 (by decide) ?_
            rw [r32]
            refine X_ior 61 dX5_layPlans_60 rfl ?_
            refine X_putI 64 dX5_layPlans_61 fp_X5_253 rfl rfl ?_
            refine X_inc0 1 67 dX5_layPlans_64 (by decide) rfl rfl rfl ?_
            refine X_goto 7 dX5_layPlans_67 (by decide) ?_
            rw [if_pos ⟨c35, by rw [e2]; exact c50⟩] at ihf
            exact ihf
  refine X_aldn0 1 dX5_layPlans_0 rfl rfl ?_
  refine X_iconst 0 2 dX5_layPlans_1 (by decide) rfl ?_
  refine X_putI 5 dX5_layPlans_2 fp_X5_253 rfl rfl ?_
  refine X_iconst 0 6 dX5_layPlans_5 (by decide) rfl ?_
  refine X_istnN 7 dX5_layPlans_6 rfl rfl rfl rfl ?_
  refine xg_mm ?_ (loop 3 0 rfl)
  apply Prod.ext
  · funext c j
    simp only [la1, xm_set, trn]
    grind
  · rfl
end REFP2

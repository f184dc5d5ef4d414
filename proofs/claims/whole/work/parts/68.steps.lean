/-! one memory: what each side leaves alone, what both keep -/
section ST
variable {α β α' β' σ τ ρ : xm_M}
theorem Inv_M (h : Inv α β) (hf : ∀ c, 36 ≤ c → β'.1 c = β.1 c) : Inv α β' := Inv_cg (fun _ _ => rfl) rfl (fun c hc => hf c (by omega)) (fun k _ => congrFun (hf 36 (by decide)) k) h
theorem Inv_X (h : Inv α β) (hg : ∀ c, c < 36 → α'.1 c = α.1 c) : Inv α' β := Inv_cg (fun c hc => hg c (by omega)) (congrFun (hg 13 (by decide)) 1) (fun _ _ => rfl) (fun _ _ => rfl) h
/-! the premises of the calls -/
theorem iX_vX (h : Inv α β) : vX α := h.1.1
theorem iX_vH (h : Inv α β) : vH α := h.1.2.1
theorem iX_vPa (h : Inv α β) : vPa α := h.2.2.1.1
theorem iX_vKp (h : Inv α β) : vKp α := h.2.2.2.1.1
theorem iX_vR (h : Inv α β) : vR α := h.2.2.2.2.1.1
theorem iX_vS (h : Inv α β) : vS α := h.2.2.2.2.2.2.1.1
theorem iX_vT (h : Inv α β) : vT α := h.2.2.2.2.2.2.2.1
theorem iX_vM (h : Inv α β) : vM α := by
  obtain ⟨m, hm, em, ex, -⟩ := mi_ex h
  unfold vM
  rw [ex]
  exact ⟨em, hm⟩
theorem iX_row (h : Inv α β) : ∀ k, k < rcX α → ∃ t, t < 8 ∧ α.1 20 k = nI t := fun k hk => by
  obtain ⟨-, t, ht, et⟩ := h.2.2.2.2.1.2.2 k hk
  exact ⟨t, by have := h.1.1.2; omega, et⟩
theorem iX_pl (h : Inv α β) : ∀ t, t < nX α → ∃ p, p < 3 ∧ α.1 5 t = nI p := fun t ht => (h.1.2.2.2.2.2.2.2.2 t ht).2.2.2.2.2.2.2
theorem iM_vXm (h : Inv α β) : vXm β := iCo_vXm h.1
theorem iM_vBk (h : Inv α β) : vBk β := by
  have e : bkM β = pcX α := by unfold bkM pcX; rw [h.2.2.1.2.2.1]
  unfold vBk
  rw [e, h.2.2.1.2.2.1]
  exact h.2.2.1.1.2
theorem iM_vRm (h : Inv α β) : vRm β := by
  have e : rmM β = rcX α := by unfold rmM rcX; rw [h.2.2.2.2.1.2.1]
  unfold vRm
  rw [e, h.2.2.2.2.1.2.1]
  exact h.2.2.2.2.1.1
theorem iM_vSm (h : Inv α β) : vSm β := by
  have e : smM β = scX α := by unfold smM scX; rw [h.2.2.2.2.2.2.1.2.1]
  unfold vSm
  rw [e, h.2.2.2.2.2.2.1.2.1]
  exact h.2.2.2.2.2.2.1.1
theorem iM_vTm (h : Inv α β) : vTm β := by
  have e : lM β = b3 α := by unfold lM b3; rw [h.2.2.2.2.2.2.2.2.1]
  unfold vTm
  rw [e, h.2.2.2.2.2.2.2.2.1]
  exact h.2.2.2.2.2.2.2.1
theorem iM_vMm (h : Inv α β) : vMm β := by
  obtain ⟨m, hm, em, ex, eM, er⟩ := mi_ex h
  unfold vMm
  rw [eM]
  exact ⟨er, hm⟩
theorem iM_vTk (h : Inv α β) : vTk β := h.2.2.2.2.2.1.1
theorem iM_row (h : Inv α β) : ∀ k, k < rmM β → ∃ t, t < 8 ∧ β.1 46 k = nI t := fun k hk => by
  have e : rmM β = rcX α := by unfold rmM rcX; rw [h.2.2.2.2.1.2.1]
  obtain ⟨e46, t, ht, et⟩ := h.2.2.2.2.1.2.2 k (by omega)
  exact ⟨t, by have := h.1.1.2; omega, e46.trans et⟩
theorem iM_vTf (h : Inv α β) : vTf β := ⟨iM_vTk h, fun k hk => by
  obtain ⟨t, ht, et⟩ := h.2.2.2.2.2.1.2.2.2.1 k hk
  obtain ⟨-, -, -, a4, -, -, -, f, hf, ef⟩ := h.1.2.2.2.2.2.2.2.2 t ht
  exact ⟨t, by have := h.1.1.2; omega, et, f, hf, a4.trans ef⟩⟩
/-! what is left alone -/
theorem xsN {a k c : Nat} {v : Int32} (h : c ≠ a) : (xm_set σ a k v).1 c = σ.1 c := funext fun _ => xs_ne h
theorem tchX_N (hp : vPa σ) {x : Int32} {c : Nat} (hc : 36 ≤ c) : (tchX σ x).2.1 c = σ.1 c := by
  unfold tchX
  rw [pasX_ne (by omega), gldX_ne (by omega), remX_ne hp (by omega) (by omega) (by omega)]
theorem eatX_N (hp : vPa σ) {x y : Int32} {c : Nat} (hc : 36 ≤ c) : (eatX σ x y).2.1 c = σ.1 c := by
  unfold eatX eatA
  split
  · rw [pasX_ne (by omega), xsN (by omega), gldX_ne (by omega), remX_ne hp (by omega) (by omega) (by omega)]
  · rw [pasX_ne (by omega), gldX_ne (by omega), remX_ne hp (by omega) (by omega) (by omega)]
theorem tchM_N {t c : Nat} (hc : c < 36) : (tchM σ t).2.1 c = σ.1 c := by
  unfold tchM
  rw [psM_ne (by omega), tcM_ne (by omega), notM_ne (by omega) (by omega)]
theorem eatM_N {i t c : Nat} (hc : c < 36) : (eatM σ i t).2.1 c = σ.1 c := by
  unfold eatM
  split
  · rw [psM_ne (by omega), xsN (by omega), tcM_ne (by omega), notM_ne (by omega) (by omega)]
  · rw [psM_ne (by omega), xsN (by omega), tcM_ne (by omega), notM_ne (by omega) (by omega)]
theorem fN_write {x : Int32} {c : Nat} (hc : 36 ≤ c) : (f_write σ x).2.1 c = σ.1 c := by
  unfold f_write
  split
  · rfl
  · split
    · rfl
    · rw [xsN (by omega), xsN (by omega)]
theorem gN_write {x : Int32} {c : Nat} (hc : c < 36) : (g_write σ x).2.1 c = σ.1 c := by
  unfold g_write
  split
  · rfl
  · split
    · rfl
    · rw [xsN (by omega), xsN (by omega)]
theorem fN_touch (hp : vPa σ) {x : Int32} {c : Nat} (hc : 36 ≤ c) : (f_touch σ x).2.1 c = σ.1 c := by
  unfold f_touch
  split
  · rfl
  · split
    · rfl
    · split
      · rfl
      · exact tchX_N hp hc
theorem gN_touch {x : Int32} {c : Nat} (hc : c < 36) : (g_touch σ x).2.1 c = σ.1 c := by
  unfold g_touch
  split
  · rfl
  · split
    · rfl
    · split
      · rfl
      · exact tchM_N hc
theorem fN_by (hp : vPa σ) {x y : Int32} {c : Nat} (hc : 36 ≤ c) : (f_by σ x y).2.1 c = σ.1 c := by
  unfold f_by
  split
  · rfl
  · split
    · rfl
    · split
      · rfl
      · exact tchX_N hp hc
theorem gN_by {x y : Int32} {c : Nat} (hc : c < 36) : (g_by σ x y).2.1 c = σ.1 c := by
  unfold g_by
  split
  · rfl
  · split
    · rfl
    · split
      · rfl
      · exact tchM_N hc
theorem fN_eat (hp : vPa σ) {x y : Int32} {c : Nat} (hc : 36 ≤ c) : (f_eat σ x y).2.1 c = σ.1 c := by
  unfold f_eat
  split
  · rfl
  · split
    · rfl
    · split
      · rfl
      · split
        · exact eatX_N hp hc
        · exact eatX_N hp hc
theorem gN_eat {x y : Int32} {c : Nat} (hc : c < 36) : (g_eat σ x y).2.1 c = σ.1 c := by
  unfold g_eat
  split
  · rfl
  · split
    · rfl
    · split
      · rfl
      · split
        · exact eatM_N hc
        · exact eatM_N hc
theorem fN_bathe (hp : vPa σ) {c : Nat} (hc : 36 ≤ c) : (f_bathe σ).2.1 c = σ.1 c := by
  unfold f_bathe
  split
  · rfl
  · dsimp only
    rw [pasX_ne (by omega), xsN (by omega), remX_ne hp (by omega) (by omega) (by omega)]
theorem gN_bathe {c : Nat} (hc : c < 36) : (g_bathe σ).2.1 c = σ.1 c := by
  unfold g_bathe bthM
  split
  · rfl
  · dsimp only
    rw [psM_ne (by omega), xsN (by omega), notM_ne (by omega) (by omega)]
theorem fN_idle (hp : vPa σ) {c : Nat} (hc : 36 ≤ c) : (f_idle σ).2.1 c = σ.1 c := by
  unfold f_idle
  split
  · rfl
  · dsimp only
    rw [pasX_ne (by omega), remX_ne hp (by omega) (by omega) (by omega)]
theorem gN_idle {c : Nat} (hc : c < 36) : (g_idle σ).2.1 c = σ.1 c := by
  unfold g_idle
  split
  · rfl
  · dsimp only
    rw [psM_ne (by omega), notM_ne (by omega) (by omega)]
theorem fN_undo {c : Nat} (hc : 36 ≤ c) : (f_undo σ).2.1 c = σ.1 c := by
  unfold f_undo
  split
  · rfl
  · dsimp only
    rw [dcp_ne (by omega), xsN (by omega)]
theorem gN_undo {c : Nat} (hc : c < 36) : (g_undo σ).2.1 c = σ.1 c := by
  unfold g_undo
  split
  · rfl
  · dsimp only
    rw [cpM_ne (by omega), xsN (by omega)]
theorem fN_keep {x : Int32} {c : Nat} (hc : 36 ≤ c) : (f_keep σ x).2.1 c = σ.1 c := by
  unfold f_keep
  by_cases z : x < 0 ∨ 2 ≤ x
  · rw [if_pos z]
  · obtain ⟨k, k2, rfl⟩ := x01 z
    rw [if_neg z, ixN_nI (by omega)]
    dsimp only
    rw [xsN (by omega), dcp_ne (by omega)]
theorem gN_keep {x : Int32} {c : Nat} (hc : c < 36) : (g_keep σ x).2.1 c = σ.1 c := by
  unfold g_keep
  split
  · rfl
  · dsimp only
    rw [xsN (by omega), cpM_ne (by omega)]
theorem fN_back {x : Int32} {c : Nat} (hc : 36 ≤ c) : (f_back σ x).2.1 c = σ.1 c := by
  unfold f_back
  split
  · rfl
  · split
    · rfl
    · dsimp only
      rw [xsN (by omega), dcp_ne (by omega)]
theorem gN_back {x : Int32} {c : Nat} (hc : c < 36) : (g_back σ x).2.1 c = σ.1 c := by
  unfold g_back bakM
  split
  · rfl
  · split
    · rfl
    · dsimp only
      rw [xsN (by omega), cpM_ne (by omega)]
theorem fN_put {x : Int32} {c : Nat} (hc : 36 ≤ c) : (f_put σ x).2.1 c = σ.1 c := by
  unfold f_put
  split
  · rfl
  · split
    · rfl
    · dsimp only
      rw [xsN (by omega), xsN (by omega)]
theorem gN_put {x : Int32} {c : Nat} (hc : c < 36) : (g_put σ x).2.1 c = σ.1 c := by
  unfold g_put
  split
  · rfl
  · split
    · rfl
    · dsimp only
      rw [xsN (by omega), xsN (by omega)]
theorem fN_task {x : Int32} {c : Nat} (hc : 36 ≤ c) : (f_task σ x).2.1 c = σ.1 c := by
  unfold f_task
  split
  · rfl
  · split
    · rfl
    · split
      · rfl
      · dsimp only
        rw [xsN (by omega)]
theorem gN_task {x : Int32} {c : Nat} (hc : c < 36) : (g_task σ x).2.1 c = σ.1 c := by
  unfold g_task
  split
  · rfl
  · split
    · rfl
    · split
      · rfl
      · dsimp only
        rw [xsN (by omega), xsN (by omega)]
theorem fN_look {x y z : Int32} {c : Nat} (hc : 36 ≤ c) : (f_look σ x y z).2.1 c = σ.1 c := by
  unfold f_look
  split
  · rfl
  · split
    · rfl
    · split
      · rfl
      · dsimp only
        rw [xsN (by omega), xsN (by omega), xsN (by omega), xsN (by omega)]
theorem gN_look {x y z : Int32} {c : Nat} (hc : c < 36) : (g_look σ x y z).2.1 c = σ.1 c := by
  unfold g_look lokM
  split
  · rfl
  · split
    · rfl
    · split
      · rfl
      · dsimp only
        rw [xsN (by omega), xsN (by omega), xsN (by omega), xsN (by omega)]
theorem fN_fault (h : Inv σ σ) {c : Nat} (hc : 36 ≤ c) : (f_fault σ).2.1 c = σ.1 c := (rd_all h).2.1 c (by omega) (by omega)
theorem gN_fault (h : Inv α σ) {c : Nat} (hc : c < 36) : (g_fault σ).2.1 c = σ.1 c := by
  have e := (rd_all h).2.2.2.1 c (by omega) (by omega)
  unfold g_fault
  generalize rdM σ = R at *
  split
  · exact e
  · exact e
theorem fN_court (h : Inv σ σ) {c : Nat} (hc : 36 ≤ c) : (f_court σ).2.1 c = σ.1 c := by
  have e := fN_fault h hc
  unfold f_court
  generalize f_fault σ = F at *
  split
  · dsimp only
    unfold stdX
    rw [xsN (by omega), xsN (by omega), xsN (by omega), xsN (by omega), xsN (by omega), xsN (by omega), xsN (by omega), xsN (by omega), xsN (by omega), xsN (by omega), xsN (by omega), xsN (by omega), cc_ne (by omega)]
    exact e
  · exact e
theorem dl_N {w c : Nat} (hc : c < 36) : (dlM σ w).1 c = σ.1 c := by
  unfold dlM plnM
  repeat' split
  · rw [xsN (by omega), xsN (by omega), xsN (by omega), xsN (by omega), xsN (by omega), xsN (by omega), xsN (by omega)]
  · rw [xsN (by omega)]
  · rw [xsN (by omega)]
  · rw [xsN (by omega)]
  · rw [xsN (by omega)]
  · rw [xsN (by omega)]
  · rw [xsN (by omega), t4M_ne (by omega)]
theorem co_N {c : Nat} (hc : c < 36) : ∀ k, (coM σ k).1 c = σ.1 c
  | 0 => rfl
  | k + 1 => by rw [coM, dl_N hc, co_N hc k]
theorem gN_court (h : Inv α σ) {c : Nat} (hc : c < 36) : (g_court σ).2.1 c = σ.1 c := by
  have e := (rd_all h).2.2.2.1 c (by omega) (by omega)
  unfold g_court coE
  generalize rdM σ = R at *
  split
  · dsimp only
    generalize rnN R.2 = z
    have q : (xm_set (coM R.2 z) 36 6 0).1 c = σ.1 c := by rw [xsN (by omega), co_N hc, e]
    generalize xm_set (coM R.2 z) 36 6 0 = B at *
    unfold begM
    rw [xsN (by omega), xsN (by omega), xsN (by omega), xsN (by omega), xsN (by omega), xsN (by omega), ← q]
    funext k
    exact if_neg (fun q => by omega)
  · exact e
/-- a step of both -/
theorem st_2 (h : Inv α' τ) (hg : ∀ c, c < 36 → τ.1 c = α'.1 c) : Inv τ τ := Inv_X h hg
theorem m17 (h : Inv σ σ) (h17 : sm17 σ τ) : Inv σ τ := Inv_M h (fun c hc => h17 c (by omega))
theorem s17 (h : Inv σ σ) (h17 : sm17 σ τ) (hF : smF τ ρ) : Inv ρ ρ := by
  refine Inv_cg (fun c hc => ?_) ?_ (fun c hc => ?_) (fun k hk => ?_) h
  · rw [smF_ne hF (by omega), h17 c (by omega)]
  · rw [smF_ne hF (by decide), h17 13 (by decide)]
  · rw [smF_ne hF (by omega), h17 c (by omega)]
  · rw [smF_ne hF (by decide), h17 36 (by decide)]
theorem mP (h : Inv σ σ) (hp : smP σ τ) : Inv σ τ := Inv_M h (fun c hc => hp c (by omega) (by omega))
theorem sP (h : Inv σ σ) (hp : smP σ τ) (hT : smT τ ρ) : Inv ρ ρ := by
  refine Inv_cg (fun c hc => ?_) ?_ (fun c hc => ?_) (fun k hk => ?_) h
  · rw [hT.1 c (by omega) (by omega) (by omega) (by omega), hp c (by omega) (by omega)]
  · rw [hT.1 13 (by decide) (by decide) (by decide) (by decide), hp 13 (by decide) (by decide)]
  · rw [hT.1 c (by omega) (by omega) (by omega) (by omega), hp c (by omega) (by omega)]
  · rw [hT.2 k (by omega), hp 36 (by decide) (by decide)]
end ST

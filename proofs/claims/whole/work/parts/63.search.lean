/-! GoldTouch's search, by numbers -/
/-- how long since he bathed: 9 and more as 9 -/
def agX (b : Int32) : Nat → Nat
  | 0 => 9
  | m + 1 => if bt b m = true then 1 else min (agX b m + 1) 9
theorem agX_in {b : Int32} : ∀ m, 1 ≤ agX b m ∧ agX b m ≤ 9
  | 0 => ⟨by show 1 ≤ 9; decide, Nat.le_refl 9⟩
  | m + 1 => by
    have := agX_in (b := b) m
    rw [agX]
    split <;> omega
theorem agX_no {b : Int32} : ∀ m, (∀ j, j < m → bt b j = false) → agX b m = 9
  | 0, _ => rfl
  | m + 1, h => by rw [agX, h m (by omega), if_neg (by decide), agX_no m (fun j hj => h j (by omega))]; omega
theorem agX_at {b : Int32} {L : Nat} (hL : bt b L = true) : ∀ m, L < m → (∀ j, L < j → j < m → bt b j = false) → agX b m = min (m - L) 9
  | 0, h, _ => by omega
  | m + 1, h, hn => by
    rw [agX]
    by_cases e : L = m
    · subst e
      rw [if_pos hL]
      omega
    · rw [hn m (by omega) (by omega), if_neg (by decide), agX_at hL m (by omega) (fun j a b => hn j a (by omega))]
      omega
def pcl (l : Int32) : Nat := (bcJ l).toNatClampNeg
theorem pc_8 : ∀ a, a < 256 → bcJ (nI a) = nI (pcl (nI a)) ∧ pcl (nI a) ≤ 8 ∧ (¬ a = 0 → 1 ≤ pcl (nI a)) := by decide +kernel
theorem pc_cl : ∀ a, a < 256 → ∀ t, t < 8 → a.testBit t = true → pcl (nI a &&& ((1 <<< (nI t &&& 31)) ^^^ (-1))) + 1 = pcl (nI a) := by decide +kernel
def uP (Q : plP) (r : Nat) (dd : Int32) : plP := if nI r < Q.2.2.2 then (nI (r / 64), nI (r % 64), dd, nI r) else Q
def vB (Q : plP) : Prop := ∃ B, B ≤ 1048576 ∧ Q.2.2.2 = nI B
theorem uP_no {Q : plP} {r : Nat} {dd : Int32} (h : vB Q) (hr : 1048576 ≤ r) (hr2 : r < 2 ^ 31) : uP Q r dd = Q := by
  obtain ⟨B, hB, e⟩ := h
  unfold uP
  rw [e, if_neg (nI_nlt (by omega) hr2)]
theorem uP_ok {Q : plP} {r : Nat} {dd : Int32} (h : vB Q) (hr2 : r < 2 ^ 31) : vB (uP Q r dd) := by
  by_cases c : 1048576 ≤ r
  · rw [uP_no h c hr2]; exact h
  · unfold uP
    split
    · exact ⟨r, by omega, rfl⟩
    · exact h
theorem uP_uP {Q : plP} {r r' : Nat} {dd : Int32} (h : vB Q) (hr : r < 2 ^ 31) (hr' : r' < 2 ^ 31) : uP (uP Q r dd) r' dd = uP Q (min r r') dd := by
  obtain ⟨B, hB, e⟩ := h
  unfold uP
  rw [e]
  by_cases c : r < B
  · rw [if_pos (nI_lt c (by omega))]
    dsimp only
    by_cases d : r' < r
    · rw [if_pos (nI_lt d hr), Nat.min_eq_right (by omega), if_pos (nI_lt (by omega) (by omega))]
    · rw [if_neg (nI_nlt (by omega) hr'), Nat.min_eq_left (by omega), if_pos (nI_lt c (by omega))]
  · rw [if_neg (nI_nlt (by omega) hr), e]
    by_cases d : r' < B
    · rw [if_pos (nI_lt d (by omega)), Nat.min_eq_right (by omega), if_pos (nI_lt d (by omega))]
    · rw [if_neg (nI_nlt (by omega) hr'), if_neg (nI_nlt (by omega) (by omega))]
/-- tasks left, by bits of things and of tasks -/
def LR (β : xm_M) (l : Int32) (H : Nat) : Prop := iBt 8 l ∧ H < 2 ^ tkMm β ∧ ∀ t, t < 8 → (bt l t = true ↔ ∃ k, k < tkMm β ∧ taM β k = t ∧ H.testBit k = false)
def GR (β : xm_M) (g : Int32) (G : Nat) : Prop := G < 8 ∧ ∀ f, f < 3 → ∀ u, u < 8 → tuM β f = nI u → bt g u = G.testBit f
section SEARCH
variable {α β : xm_M}
theorem tlM_fl {σ : xm_M} {f : Int32} : ∀ n, tlM σ f n = -1 ∨ ∃ t, t < n ∧ tlM σ f n = nI t ∧ σ.1 37 (4 * t + 3) = f
  | 0 => Or.inl rfl
  | n + 1 => by
    have ih := tlM_fl (σ := σ) (f := f) n
    have old : tlM σ f n = -1 ∨ ∃ t, t < n + 1 ∧ tlM σ f n = nI t ∧ σ.1 37 (4 * t + 3) = f := ih.imp id (fun ⟨t, h1, h2⟩ => ⟨t, by omega, h2⟩)
    rw [tlM]
    by_cases c : σ.1 37 (4 * n) = 1 ∧ σ.1 37 (4 * n + 3) = f ∧ isK σ (nI n) (tkMm σ) = false ∧ thM σ 41 n = true
    · rw [if_pos c]
      generalize (if tlM σ f n = -1 then (99 : Int32) else rkM σ (ixN (tlM σ f n))) = R
      split
      · exact Or.inr ⟨n, by omega, rfl, c.2.1⟩
      · exact old
    · rw [if_neg c]
      exact old
theorem tool_fl (hi : Inv α β) {f u : Nat} (hu : u < 8) (h : tuM β f = nI u) : u < nX α ∧ α.1 5 u = nI f := by
  rcases tlM_fl (σ := β) (f := nI f) (nM β) with e | ⟨t, ht, e, e2⟩
  · have e' : tuM β f = -1 := e
    rw [h] at e'
    exact absurd e' (nI_nm (by omega))
  · rw [nM_nX hi.1] at ht
    have e' : tuM β f = nI t := e
    have n8 := hi.1.1.2
    have : u = t := (nI_eq (by omega) (by omega)).mp (h.symm.trans e')
    subst this
    exact ⟨ht, (hi.1.2.2.2.2.2.2.2.2 u ht).2.2.2.1.symm.trans e2⟩
theorem task_inj (hi : Inv α β) {i j : Nat} (hi' : i < tkMm β) (hj : j < tkMm β) (h : taM β i = taM β j) : i = j := by
  have hdis := hi.2.2.2.2.2.1.2.2.2.2.1
  have e1 := (task_at hi hi').2.1
  have e2 := (task_at hi hj).2.1
  rcases Nat.lt_trichotomy i j with z | z | z
  · exact absurd (e1.trans (by rw [h]; exact e2.symm)) (hdis i j z hj)
  · exact z
  · exact absurd (e2.trans (by rw [← h]; exact e1.symm)) (hdis j i z hi')
theorem hX_hd (hi : Inv α β) {b : Int32} {m : Nat} (hm : m ≤ 24) (hb1 : iBt m b) : hX α b (nI m) = nI (pHd (plP0 α β) (agX b m)) := by
  have w4 := hi.1.2.1.2.1
  have c4 := hi.1.2.1.2.2.2
  have h9 : ∀ x, 9 ≤ x → pHd (plP0 α β) x = 2 := fun x hx => by
    show (if x ≤ wX α then 0 else if x ≤ wX α + cX α then 1 else 2) = 2
    rw [if_neg (by omega), if_neg (by omega)]
  rw [eq_hand hi.1 b (by omega)]
  unfold hM
  rcases ago_spec b m (by omega) 24 (by decide) with ⟨a, e⟩ | ⟨L, l1, l2, l3, l4, l5⟩
  · rw [e, show (99 : Int32) = nI 99 from rfl, hb_hd hi (by decide), h9 99 (by decide), agX_no m (fun j hj => by rw [← hb_bt (by omega)]; exact a j (by omega) hj), h9 9 (by decide)]
  · rw [l5, hb_hd hi (by omega), agX_at (L := L) (by rw [← hb_bt (by omega)]; exact l3) m l2 (fun j h1 h2 => by rw [← hb_bt (by omega)]; exact l4 j h1 (by omega) h2)]
    congr 1
    by_cases c : m - L ≤ 9
    · rw [Nat.min_eq_left c]
    · rw [Nat.min_eq_right (by omega), h9 9 (by decide), h9 _ (by omega)]
theorem LR_ta (hi : Inv α β) {l : Int32} {H k : Nat} (h : LR β l H) (hk : k < tkMm β) (hH : H.testBit k = false) : taM β k < 8 ∧ bt l (taM β k) = true := by
  have t8 : taM β k < 8 := by have := (task_at hi hk).1; have := hi.1.1.2; omega
  exact ⟨t8, (h.2.2 _ t8).mpr ⟨k, hk, rfl, hH⟩⟩
theorem LR_step (hi : Inv α β) {l : Int32} {H k : Nat} (h : LR β l H) (hk : k < tkMm β) : LR β (l &&& ((1 <<< (nI (taM β k) &&& 31)) ^^^ (-1))) (H ||| 2 ^ k) := by
  obtain ⟨h1, h2, h3⟩ := h
  have t8 : taM β k < 8 := by have := (task_at hi hk).1; have := hi.1.1.2; omega
  refine ⟨iBt_clr h1 (by omega), Nat.or_lt_two_pow h2 (Nat.pow_lt_pow_right (by decide) hk), fun t ht => ?_⟩
  rw [b_clr (by omega), Bool.and_eq_true, h3 t ht]
  refine ⟨fun q => ?_, fun q => ?_⟩
  · obtain ⟨⟨j, j1, j2, j3⟩, q2⟩ := q
    refine ⟨j, j1, j2, ?_⟩
    rw [tb_or, j3, Bool.false_or]
    refine decide_eq_false (fun e => ?_)
    subst e
    rw [j2, decide_eq_true rfl] at q2
    exact absurd q2 (by decide)
  · obtain ⟨j, j1, j2, j3⟩ := q
    rw [tb_or, Bool.or_eq_false_iff] at j3
    refine ⟨⟨j, j1, j2, j3.1⟩, ?_⟩
    rw [decide_eq_false]
    · rfl
    · intro e
      have := task_inj hi hk j1 (by rw [j2, e])
      exact absurd this (of_decide_eq_false j3.2)
theorem LR_0 (hi : Inv α β) {l : Int32} {H : Nat} (h : LR β l H) : l = 0 ↔ H = 2 ^ tkMm β - 1 := by
  obtain ⟨h1, h2, h3⟩ := h
  refine ⟨fun q => ?_, fun q => ?_⟩
  · apply Nat.eq_of_testBit_eq
    intro j
    rw [Nat.testBit_two_pow_sub_one]
    rcases Nat.lt_or_ge j (tkMm β) with z | z
    · rw [decide_eq_true z]
      by_cases e : H.testBit j = true
      · exact e
      · rw [Bool.not_eq_true] at e
        have := (LR_ta hi ⟨h1, h2, h3⟩ z e).2
        rw [q, b_0] at this
        exact absurd this (by decide)
    · rw [decide_eq_false (by omega)]
      exact Nat.testBit_lt_two_pow (Nat.lt_of_lt_of_le h2 (Nat.pow_le_pow_right (by decide) z))
  · refine b_ext (fun j hj => ?_)
    rw [b_0]
    rcases Nat.lt_or_ge j 8 with z | z
    · by_cases e : bt l j = true
      · obtain ⟨k, k1, k2, k3⟩ := (h3 j z).mp e
        rw [q, Nat.testBit_two_pow_sub_one, decide_eq_true k1] at k3
        exact absurd k3 (by decide)
      · rw [Bool.not_eq_true] at e; exact e
    · exact h1 j z
theorem LR_pc {l : Int32} {H : Nat} (h : LR β l H) : bcJ l = nI (pcl l) ∧ pcl l ≤ 8 ∧ (¬ l = 0 → 1 ≤ pcl l) ∧ ∀ t, t < 8 → bt l t = true → pcl (l &&& ((1 <<< (nI t &&& 31)) ^^^ (-1))) + 1 = pcl l := by
  obtain ⟨a, ha, e⟩ := iBt_ex h.1 (by decide)
  have ha' : a < 256 := ha
  obtain ⟨p1, p2, p3⟩ := pc_8 a ha'
  rw [e]
  refine ⟨p1, p2, fun q => p3 (fun z => q (by rw [z]; rfl)), fun t ht q => pc_cl a ha' t ht ?_⟩
  rw [← b_nI (by omega)]
  exact q
theorem RN_lb (hi : Inv α β) : ∀ n, n ≤ 24 → ∀ a H G l, LR β l H → RN (plP0 α β) n a H G < INF → 24 - n + pcl l ≤ RN (plP0 α β) n a H G := by
  have z0 : ∀ l H, LR β l H → H = 2 ^ tkMm β - 1 → pcl l = 0 := fun l H h e => by
    rw [(LR_0 hi h).mpr e]
    decide
  intro n
  induction n with
  | zero =>
    intro _ a H G l h hf
    rw [RN] at hf ⊢
    by_cases c : H = 2 ^ pK (plP0 α β) - 1
    · rw [if_pos c, z0 l H h c]
      omega
    · rw [if_neg c] at hf
      omega
  | succ n ih =>
    intro hn a H G l h hf
    by_cases c : H = 2 ^ pK (plP0 α β) - 1
    · rw [RN_all hn c, z0 l H h c]
      omega
    · rw [RN_s c] at hf ⊢
      rcases minN_ex (f := cdN (plP0 α β) n a H G) 10 with e | ⟨k, hk, e⟩
      · omega
      · rw [e] at hf ⊢
        unfold cdN at hf ⊢
        by_cases o : okN (plP0 α β) k a H = true
        · rw [if_pos o] at hf ⊢
          by_cases k2 : k < 2
          · have e2 : nhN k H = H := by unfold nhN; rw [if_pos k2]
            rw [e2] at hf ⊢
            have := ih (by omega) (naN k a) H (ngN (plP0 α β) k (23 - n) a G) l h (by omega)
            omega
          · have e2 : nhN k H = H ||| 2 ^ ((k - 2) % 4) := by unfold nhN; rw [if_neg k2]
            rw [e2] at hf ⊢
            unfold okN at o
            rw [if_neg k2, Bool.and_eq_true, Bool.and_eq_true, decide_eq_true_eq] at o
            have jK : (k - 2) % 4 < tkMm β := o.1
            have jH : H.testBit ((k - 2) % 4) = false := by
              have := o.2.1
              revert this
              cases H.testBit ((k - 2) % 4) <;> simp
            obtain ⟨t8, tb⟩ := LR_ta hi h jK jH
            have := ih (by omega) (naN k a) (H ||| 2 ^ ((k - 2) % 4)) (ngN (plP0 α β) k (23 - n) a G) _ (LR_step hi h jK) (by omega)
            have p := (LR_pc h).2.2.2 _ t8 tb
            omega
        · rw [if_neg o] at hf
          omega
theorem GR_step (hi : Inv α β) {g : Int32} {G f u : Nat} (h : GR β g G) (hf : f < 3) (hu : u < 8) (e : tuM β f = nI u) : GR β (g ||| (1 <<< (nI u &&& 31))) (G ||| 2 ^ f) := by
  refine ⟨Nat.or_lt_two_pow (n := 3) h.1 (Nat.pow_lt_pow_right (by decide) hf), fun f' hf' u' hu' e' => ?_⟩
  rw [b_set (by omega), tb_or, h.2 f' hf' u' hu' e']
  congr 1
  refine decide_eq_decide.mpr ⟨fun q => ?_, fun q => ?_⟩
  · subst q
    have a := (tool_fl hi hu' e).2
    have b := (tool_fl hi hu' e').2
    exact (nI_eq (by omega) (by omega)).mp (a.symm.trans b)
  · subst q
    exact (nI_eq (by omega) (by omega)).mp (e'.symm.trans e)
theorem or_same {G f : Nat} (h : G.testBit f = true) : G ||| 2 ^ f = G := by
  apply Nat.eq_of_testBit_eq
  intro j
  rw [tb_or]
  by_cases w : f = j
  · subst w
    rw [h]; rfl
  · rw [decide_eq_false w, Bool.or_false]
end SEARCH

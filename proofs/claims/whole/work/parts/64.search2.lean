/-! GoldTouch's search: each state -/
section SEARCH2
variable {α β : xm_M}
/-- the task by hand or by the tool, as the hand is -/
def cdH (P : pM) (n a H G k : Nat) : Nat := cdN P n a H G (if pHd P a = 0 then 2 + k else 6 + k)
/-- what the search goes by -/
def vTT (α β T : xm_M) : Prop := nX T = nX α ∧ (∀ b m, hX T b m = hX α b m) ∧ T.1 5 = α.1 5 ∧ T.1 3 = α.1 3 ∧ T.1 1 8 = α.1 1 8 ∧ ∀ f, f < 3 → T.1 22 f = tuM β f
theorem ok_j {P : pM} {a H j : Nat} (hj : j < 4) (hk : j < pK P) (hH : H.testBit j = false) (ho : pOk P j = true) : okN P (2 + j) a H = decide (pHd P a = 0) ∧ okN P (6 + j) a H = pTl P (pFl P j) := by
  have e1 : (6 + j - 2) % 4 = j := by omega
  have e2 : (2 + j - 2) % 4 = j := by omega
  unfold okN
  refine ⟨?_, ?_⟩
  · rw [if_neg (by omega), if_pos (by omega), e2, decide_eq_true hk, hH, ho]; rfl
  · rw [if_neg (by omega), if_neg (by omega), e1, decide_eq_true hk, hH, ho]; rfl
/-- what a task costs by a child of the search -/
theorem child (hi : Inv α β) {T : xm_M} (hT : vTT α β T) {n m a H G k : Nat} {g : Int32} (hm : m + (n + 1) = 24) (hG : GR β g G) (hk : k < tkMm β) (hH : H.testBit k = false) (ho : pOk (plP0 α β) k = true) :
    (pHd (plP0 α β) a = 0 → cdH (plP0 α β) n a H G k = RN (plP0 α β) n (min (a + 1) 9) (H ||| 2 ^ k) G) ∧
    (¬ pHd (plP0 α β) a = 0 → T.1 22 (ixN (T.1 5 (taM β k))) = -1 → cdH (plP0 α β) n a H G k = INF) ∧
    (¬ pHd (plP0 α β) a = 0 → ¬ T.1 22 (ixN (T.1 5 (taM β k))) = -1 → ∃ u w, u < 8 ∧ w ≤ 20 ∧ T.1 22 (ixN (T.1 5 (taM β k))) = nI u ∧ T.1 3 u = nI w ∧
      ((hb g (nI u) = true ∨ (nI (pHd (plP0 α β) a) = 1 ∧ nI m < T.1 1 8)) → cdH (plP0 α β) n a H G k = RN (plP0 α β) n (min (a + 1) 9) (H ||| 2 ^ k) G) ∧
      (¬ (hb g (nI u) = true ∨ (nI (pHd (plP0 α β) a) = 1 ∧ nI m < T.1 1 8)) → ∃ G', cdH (plP0 α β) n a H G k = 64 * w + RN (plP0 α β) n (min (a + 1) 9) (H ||| 2 ^ k) G' ∧ GR β (g ||| (1 <<< (nI u &&& 31))) G')) := by
  have k4 := hi.2.2.2.2.2.1.1.2
  have n8 := hi.1.1.2
  obtain ⟨o1, o2⟩ := ok_j (P := plP0 α β) (a := a) (H := H) (j := k) (by omega) hk hH ho
  obtain ⟨tn, -, f3, ef⟩ := task_at hi hk
  have e1 : (6 + k - 2) % 4 = k := by omega
  have e2 : (2 + k - 2) % 4 = k := by omega
  have eF : pFl (plP0 α β) k = foM β k := Nat.mod_eq_of_lt f3
  have eT : T.1 22 (ixN (T.1 5 (taM β k))) = tuM β (foM β k) := by rw [hT.2.2.1, ef, ixN_nI (by omega), hT.2.2.2.2.2 _ f3]
  have eTl : pTl (plP0 α β) (pFl (plP0 α β) k) = decide (¬ tuM β (foM β k) = -1) := by rw [eF]; rfl
  have na : naN (6 + k) a = min (a + 1) 9 := by unfold naN; rw [if_neg (by omega)]
  have na' : naN (2 + k) a = min (a + 1) 9 := by unfold naN; rw [if_neg (by omega)]
  have nh : nhN (6 + k) H = H ||| 2 ^ k := by unfold nhN; rw [if_neg (by omega), e1]
  have nh' : nhN (2 + k) H = H ||| 2 ^ k := by unfold nhN; rw [if_neg (by omega), e2]
  have ng' : ∀ m, ngN (plP0 α β) (2 + k) m a G = G := fun m => by unfold ngN; rw [if_pos (by omega)]
  have co' : ∀ m, coN (plP0 α β) (2 + k) m a G = 0 := fun m => by unfold coN; rw [if_pos (by omega)]
  have ng : ∀ m, ngN (plP0 α β) (6 + k) m a G = gbN (plP0 α β) m a (foM β k) G := fun m => by unfold ngN; rw [if_neg (by omega), e1, eF]
  have co : ∀ m, coN (plP0 α β) (6 + k) m a G = csN (plP0 α β) (foM β k) G (gbN (plP0 α β) m a (foM β k) G) := fun m => by unfold coN; rw [if_neg (by omega), e1, eF]
  have mn : 23 - n = m := by omega
  rw [eT]
  refine ⟨fun h0 => ?_, fun h0 z => ?_, fun h0 z => ?_⟩
  · unfold cdH
    rw [if_pos h0]
    unfold cdN
    rw [if_pos (by rw [o1]; exact decide_eq_true h0), na', nh', ng', co']
    omega
  · unfold cdH
    rw [if_neg h0]
    unfold cdN
    rw [if_neg]
    rw [o2, eTl, z]
    decide
  · obtain ⟨u, w, hu, eu, w1, w20, ew, -, ep⟩ := tool_at hi z
    refine ⟨u, w, by omega, w20, eu, by rw [hT.2.2.2.1]; exact ew, ?_⟩
    have o2' : okN (plP0 α β) (6 + k) a H = true := by rw [o2, eTl]; exact decide_eq_true z
    have hgu := hG.2 _ f3 u (by omega) eu
    obtain ⟨n24, -, enn⟩ := nn_at hi
    have hd2 := (plP0_ok hi).2.1 a
    have l1 : nI (pHd (plP0 α β) a) = 1 ↔ pHd (plP0 α β) a = 1 := nI_eq (b := 1) (by omega) (by decide)
    have l2 : nI m < T.1 1 8 ↔ m < pNn (plP0 α β) := by rw [hT.2.2.2.2.1, enn]; exact nI_ltI (by omega) (by omega)
    rw [l1, l2, hb_bt (by omega), hgu]
    unfold cdH
    rw [if_neg h0]
    unfold cdN
    rw [if_pos o2', na, nh, ng, co, mn]
    refine ⟨fun q => ?_, fun q => ⟨G ||| 2 ^ foM β k, ?_, GR_step hi hG f3 (by omega) eu⟩⟩
    · have eg : gbN (plP0 α β) m a (foM β k) G = G := by
        unfold gbN
        rcases q with q | q
        · rw [or_same q]
          split <;> rfl
        · rw [if_neg (by omega)]
      rw [eg]
      have : csN (plP0 α β) (foM β k) G G = 0 := by unfold csN; rw [if_neg (fun q => by rw [q.1] at q; exact absurd q.2 (by decide))]
      rw [this]
      omega
    · have q1 : G.testBit (foM β k) = false := by
        rw [← Bool.not_eq_true]
        exact fun z => q (Or.inl z)
      have eg : gbN (plP0 α β) m a (foM β k) G = G ||| 2 ^ foM β k := by
        unfold gbN
        rw [if_pos]
        by_cases z2 : pHd (plP0 α β) a = 2
        · exact Or.inl z2
        · right
          refine ⟨by omega, ?_⟩
          rcases Nat.lt_or_ge m (pNn (plP0 α β)) with y | y
          · exact absurd (Or.inr ⟨by omega, y⟩) q
          · exact y
      rw [eg]
      have : csN (plP0 α β) (foM β k) G (G ||| 2 ^ foM β k) = w := by
        unfold csN
        rw [if_pos ⟨by rw [tb_or, decide_eq_true rfl, Bool.or_true], q1⟩, ep]
      rw [this]
/-- the best of a bath and of the tasks is the best of all -/
theorem res_min (hi : Inv α β) {n a H G M : Nat} (hn : n < 24) (a9 : a ≤ 9) (hH : ¬ H = 2 ^ tkMm β - 1) (hM : M ≤ INF) (h1 : ∀ k, k < tkMm β → H.testBit k = false → M ≤ cdH (plP0 α β) n a H G k) (h2 : M = INF ∨ ∃ k, k < tkMm β ∧ M = cdH (plP0 α β) n a H G k) :
    min (if a = 1 then INF else RN (plP0 α β) n 1 H G) M = RN (plP0 α β) (n + 1) a H G := by
  have k4 := hi.2.2.2.2.2.1.1.2
  have c1 : cdN (plP0 α β) n a H G 1 = RN (plP0 α β) n 1 H G := by
    unfold cdN
    rw [if_pos (by unfold okN; rw [if_pos (by decide)])]
    show 64 * 0 + RN (plP0 α β) n 1 H G = _
    omega
  have cH : ∀ k, k < 4 → minN (cdN (plP0 α β) n a H G) 10 ≤ cdH (plP0 α β) n a H G k := fun k hk => by
    unfold cdH
    split
    · exact minN_le (by omega)
    · exact minN_le (by omega)
  have le1 : RN (plP0 α β) (n + 1) a H G ≤ M := by
    rw [RN_s hH]
    rcases h2 with e | ⟨k, hk, e⟩
    · rw [e]; exact minN_inf _
    · rw [e]; exact cH k (by omega)
  have le2 : RN (plP0 α β) (n + 1) a H G ≤ (if a = 1 then INF else RN (plP0 α β) n 1 H G) := by
    rw [RN_s hH]
    split
    · exact minN_inf _
    · rw [← c1]; exact minN_le (by decide)
  have ge : min (if a = 1 then INF else RN (plP0 α β) n 1 H G) M ≤ RN (plP0 α β) (n + 1) a H G := by
    by_cases f : RN (plP0 α β) (n + 1) a H G < INF
    · rcases minN_ex (f := cdN (plP0 α β) n a H G) 10 with e | ⟨k, hk, e⟩
      · rw [← RN_s hH] at e
        omega
      · rw [← RN_s hH] at e
        have o : okN (plP0 α β) k a H = true := by
          by_cases o : okN (plP0 α β) k a H = true
          · exact o
          · unfold cdN at e
            rw [if_neg o] at e
            omega
        by_cases k2 : k < 2
        · have : k = 0 ∨ k = 1 := by omega
          rcases this with rfl | rfl
          · have := no_rest (plP0_ok hi) hn a9 f hH
            omega
          · by_cases a1 : a = 1
            · subst a1
              have := no_bath (plP0_ok hi) hn f hH
              omega
            · rw [if_neg a1, e, c1]
              exact Nat.min_le_left _ _
        · have o' := o
          unfold okN at o'
          rw [if_neg k2, Bool.and_eq_true, Bool.and_eq_true, Bool.and_eq_true, decide_eq_true_eq] at o'
          have jH : H.testBit ((k - 2) % 4) = false := by
            have := o'.2.1
            revert this
            cases H.testBit ((k - 2) % 4) <;> simp
          have hM' := h1 _ o'.1 jH
          refine Nat.le_trans (Nat.min_le_right _ _) (Nat.le_trans hM' ?_)
          unfold cdH
          by_cases k6 : k < 6
          · have hd0 : pHd (plP0 α β) a = 0 := by
              have := o'.2.2.2
              rw [if_pos k6] at this
              exact of_decide_eq_true this
            rw [if_pos hd0, show 2 + (k - 2) % 4 = k by omega, e]
            exact Nat.le_refl _
          · by_cases hd0 : pHd (plP0 α β) a = 0
            · rw [if_pos hd0]
              have q := cd_hand (P := plP0 α β) (n := n) (a := a) (H := H) (G := G) (j := (k - 2) % 4) (Nat.mod_lt _ (by decide)) hd0
              rw [show 6 + (k - 2) % 4 = k by omega] at q
              rcases q with q | q
              · omega
              · rw [e, q]
                exact Nat.le_refl _
            · rw [if_neg hd0, show 6 + (k - 2) % 4 = k by omega, e]
              exact Nat.le_refl _
    · exact Nat.le_trans (Nat.min_le_right _ _) (by omega)
  omega
end SEARCH2

/-! plans, by numbers: hand behind so many minutes, noon, how many tasks, their floors, the tools' weights, tasks there, tools there -/
abbrev pM : Type := (Nat → Nat) × Nat × Nat × (Nat → Nat) × (Nat → Nat) × (Nat → Bool) × (Nat → Bool)
def pHd (P : pM) : Nat → Nat := P.1
def pNn (P : pM) : Nat := P.2.1
def pK (P : pM) : Nat := P.2.2.1
def pFl (P : pM) : Nat → Nat := P.2.2.2.1
def pWt (P : pM) : Nat → Nat := P.2.2.2.2.1
def pOk (P : pM) : Nat → Bool := P.2.2.2.2.2.1
def pTl (P : pM) : Nat → Bool := P.2.2.2.2.2.2
def INF : Nat := 1048577
def minN (f : Nat → Nat) : Nat → Nat
  | 0 => INF
  | k + 1 => min (minN f k) (f k)
theorem minN_le {f : Nat → Nat} : ∀ {j k : Nat}, k < j → minN f j ≤ f k
  | 0, _, h => by omega
  | j + 1, k, h => by
    rw [minN]
    by_cases e : k = j
    · subst e; exact Nat.min_le_right _ _
    · exact Nat.le_trans (Nat.min_le_left _ _) (minN_le (by omega))
theorem minN_inf {f : Nat → Nat} : ∀ j, minN f j ≤ INF
  | 0 => Nat.le_refl _
  | j + 1 => by rw [minN]; exact Nat.le_trans (Nat.min_le_left _ _) (minN_inf j)
theorem minN_ex {f : Nat → Nat} : ∀ j, minN f j = INF ∨ ∃ k, k < j ∧ minN f j = f k
  | 0 => Or.inl rfl
  | j + 1 => by
    rw [minN]
    rcases Nat.lt_or_ge (f j) (minN f j) with z | z
    · exact Or.inr ⟨j, by omega, Nat.min_eq_right (by omega)⟩
    · rw [Nat.min_eq_left z]
      rcases minN_ex (f := f) j with h | ⟨k, hk, e⟩
      · exact Or.inl h
      · exact Or.inr ⟨k, by omega, e⟩
def gbN (P : pM) (m a f G : Nat) : Nat := if pHd P a = 2 ∨ (pHd P a = 1 ∧ pNn P ≤ m) then G ||| 2 ^ f else G
def csN (P : pM) (f G G' : Nat) : Nat := if G'.testBit f = true ∧ G.testBit f = false then pWt P f else 0
def okN (P : pM) (k a H : Nat) : Bool := if k < 2 then true else decide ((k - 2) % 4 < pK P) && (!H.testBit ((k - 2) % 4) && (pOk P ((k - 2) % 4) && (if k < 6 then decide (pHd P a = 0) else pTl P (pFl P ((k - 2) % 4)))))
def naN (k a : Nat) : Nat := if k = 1 then 1 else min (a + 1) 9
def nhN (k H : Nat) : Nat := if k < 2 then H else H ||| 2 ^ ((k - 2) % 4)
def ngN (P : pM) (k m a G : Nat) : Nat := if k < 6 then G else gbN P m a (pFl P ((k - 2) % 4)) G
def coN (P : pM) (k m a G : Nat) : Nat := if k < 6 then 0 else csN P (pFl P ((k - 2) % 4)) G (gbN P m a (pFl P ((k - 2) % 4)) G)
/-- n minutes are left: cost, 64 times, and the minute behind the last task's -/
def RN (P : pM) : Nat → Nat → Nat → Nat → Nat
  | 0, _, H, _ => if H = 2 ^ pK P - 1 then 24 else INF
  | n + 1, a, H, G => if H = 2 ^ pK P - 1 then 23 - n else minN (fun k => if okN P k a H = true then 64 * coN P k (23 - n) a G + RN P n (naN k a) (nhN k H) (ngN P k (23 - n) a G) else INF) 10
def cdN (P : pM) (n a H G k : Nat) : Nat := if okN P k a H = true then 64 * coN P k (23 - n) a G + RN P n (naN k a) (nhN k H) (ngN P k (23 - n) a G) else INF
theorem RN_s {P : pM} {n a H G : Nat} (h : ¬ H = 2 ^ pK P - 1) : RN P (n + 1) a H G = minN (cdN P n a H G) 10 := by
  rw [RN, if_neg h]
  rfl
theorem RN_all {P : pM} {n a H G : Nat} (hn : n ≤ 24) (h : H = 2 ^ pK P - 1) : RN P n a H G = 24 - n := by
  cases n with
  | zero => rw [RN, if_pos h]
  | succ n => rw [RN, if_pos h]; omega
theorem RN_inf {P : pM} {n a H G : Nat} (hn : n ≤ 24) : RN P n a H G ≤ INF := by
  by_cases h : H = 2 ^ pK P - 1
  · rw [RN_all hn h]; unfold INF; omega
  · cases n with
    | zero => rw [RN, if_neg h]; exact Nat.le_refl _
    | succ n => rw [RN_s h]; exact minN_inf _
theorem tb_or (G f j : Nat) : (G ||| 2 ^ f).testBit j = (G.testBit j || decide (f = j)) := by
  rw [Nat.testBit_or, Nat.testBit_two_pow]
/-- what more is turned -/
def wD (P : pM) (G G' : Nat) : Nat := csN P 0 G G' + csN P 1 G G' + csN P 2 G G'
theorem wD_0 (P : pM) (G : Nat) : wD P G G = 0 := by
  unfold wD csN
  rw [if_neg (fun q => by rw [q.1] at q; exact absurd q.2 (by decide)), if_neg (fun q => by rw [q.1] at q; exact absurd q.2 (by decide)), if_neg (fun q => by rw [q.1] at q; exact absurd q.2 (by decide))]
theorem gb_step {P : pM} {m m2 a a2 f G G2 : Nat} (hf : f < 3) (hs : ∀ j, G.testBit j = true → G2.testBit j = true) (ht : (pHd P a = 2 ∨ (pHd P a = 1 ∧ pNn P ≤ m)) → (pHd P a2 = 2 ∨ (pHd P a2 = 1 ∧ pNn P ≤ m2))) :
    (∀ j, (gbN P m a f G).testBit j = true → (gbN P m2 a2 f G2).testBit j = true) ∧ csN P f G (gbN P m a f G) + wD P (gbN P m a f G) (gbN P m2 a2 f G2) ≤ csN P f G2 (gbN P m2 a2 f G2) + wD P G G2 := by
  have key : ∀ A B : Nat, (A = G ∨ A = G ||| 2 ^ f) → (B = G2 ∨ B = G2 ||| 2 ^ f) → (A = G ||| 2 ^ f → B = G2 ||| 2 ^ f) → (∀ j, A.testBit j = true → B.testBit j = true) ∧ csN P f G A + wD P A B ≤ csN P f G2 B + wD P G G2 := by
    intro A B hA hB hAB
    have bA : ∀ j, j ≠ f → A.testBit j = G.testBit j := fun j hj => by
      rcases hA with rfl | rfl
      · rfl
      · rw [tb_or, decide_eq_false (Ne.symm hj), Bool.or_false]
    have bB : ∀ j, j ≠ f → B.testBit j = G2.testBit j := fun j hj => by
      rcases hB with rfl | rfl
      · rfl
      · rw [tb_or, decide_eq_false (Ne.symm hj), Bool.or_false]
    have cO : ∀ j, j ≠ f → csN P j A B = csN P j G G2 := fun j hj => by
      unfold csN
      rw [bA j hj, bB j hj]
    have sub : ∀ j, A.testBit j = true → B.testBit j = true := fun j q => by
      by_cases e : j = f
      · subst e
        rcases hA with rfl | rfl
        · have := hs j q
          rcases hB with rfl | rfl
          · exact this
          · rw [tb_or, this]; rfl
        · rw [hAB rfl, tb_or, decide_eq_true rfl, Bool.or_true]
      · rw [bB j e]
        rw [bA j e] at q
        exact hs j q
    have cF : csN P f G A + csN P f A B ≤ csN P f G2 B + csN P f G G2 := by
      have hs' := hs f
      unfold csN
      rcases hA with hA | hA
      · rcases hB with hB | hB
        · rw [hA, hB]
          cases G.testBit f <;> cases G2.testBit f <;> simp
        · rw [hA, hB, tb_or, decide_eq_true rfl, Bool.or_true]
          revert hs'
          cases G.testBit f <;> cases G2.testBit f <;> simp
      · rw [hAB hA, hA, tb_or, tb_or, decide_eq_true rfl, Bool.or_true, Bool.or_true]
        revert hs'
        cases G.testBit f <;> cases G2.testBit f <;> simp
    refine ⟨sub, ?_⟩
    unfold wD
    have f3 : f = 0 ∨ f = 1 ∨ f = 2 := by omega
    rcases f3 with rfl | rfl | rfl
    · have a1 := cO 1 (by decide)
      have a2 := cO 2 (by decide)
      omega
    · have a1 := cO 0 (by decide)
      have a2 := cO 2 (by decide)
      omega
    · have a1 := cO 0 (by decide)
      have a2 := cO 1 (by decide)
      omega
  apply key
  · unfold gbN
    split
    · exact Or.inr rfl
    · exact Or.inl rfl
  · unfold gbN
    split
    · exact Or.inr rfl
    · exact Or.inl rfl
  · intro e
    unfold gbN at *
    by_cases c : pHd P a = 2 ∨ (pHd P a = 1 ∧ pNn P ≤ m)
    · rw [if_pos (ht c)]
    · rw [if_neg c] at e
      by_cases c2 : pHd P a2 = 2 ∨ (pHd P a2 = 1 ∧ pNn P ≤ m2)
      · rw [if_pos c2]
      · rw [if_neg c2]
        have z : G.testBit f = true := by rw [e, tb_or, decide_eq_true rfl, Bool.or_true]
        apply Nat.eq_of_testBit_eq
        intro j
        rw [tb_or]
        by_cases w : f = j
        · subst w
          rw [hs f z, decide_eq_true rfl]; rfl
        · rw [decide_eq_false w, Bool.or_false]
/-- what holds of the numbers -/
def okP (P : pM) : Prop := (∀ a b, a ≤ b → pHd P a ≤ pHd P b) ∧ (∀ a, pHd P a ≤ 2) ∧ (∀ k, pFl P k < 3) ∧ (∀ f, pWt P f ≤ 20) ∧ pK P ≤ 4
theorem RN_dom {P : pM} (hP : okP P) : ∀ n2 n a a2 H G G2 : Nat, n2 ≤ n → n ≤ 24 → a ≤ a2 → (∀ j, G.testBit j = true → G2.testBit j = true) → RN P n2 a2 H G2 < INF → RN P n a H G + (n - n2) ≤ RN P n2 a2 H G2 + 64 * wD P G G2 := by
  intro n2
  induction n2 with
  | zero =>
    intro n a a2 H G G2 h1 h2 h3 h4 h5
    rw [RN] at h5 ⊢
    by_cases c : H = 2 ^ pK P - 1
    · rw [if_pos c, RN_all h2 c]
      omega
    · rw [if_neg c] at h5
      omega
  | succ n2 ih =>
    intro n a a2 H G G2 h1 h2 h3 h4 h5
    by_cases c : H = 2 ^ pK P - 1
    · rw [RN_all h2 c, RN_all (by omega) c]
      omega
    · obtain ⟨n', rfl⟩ : ∃ n', n = n' + 1 := ⟨n - 1, by omega⟩
      rw [RN_s c] at h5 ⊢
      rw [RN_s c]
      rcases minN_ex (f := cdN P n2 a2 H G2) 10 with e | ⟨k, hk, e⟩
      · omega
      · have l := minN_le (f := cdN P n' a H G) hk
        rw [e] at h5 ⊢
        unfold cdN at h5 l ⊢
        by_cases o : okN P k a2 H = true
        · rw [if_pos o] at h5 ⊢
          have hda : pHd P a ≤ pHd P a2 := hP.1 a a2 h3
          have hd2 := hP.2.1 a2
          have o' : okN P k a H = true := by
            unfold okN at o ⊢
            by_cases k2 : k < 2
            · rw [if_pos k2]
            · rw [if_neg k2] at o ⊢
              by_cases k6 : k < 6
              · rw [if_pos k6] at o ⊢
                simp only [Bool.and_eq_true, decide_eq_true_eq] at o ⊢
                exact ⟨o.1, o.2.1, o.2.2.1, by omega⟩
              · rw [if_neg k6] at o ⊢
                exact o
          rw [if_pos o'] at l
          have na : naN k a ≤ naN k a2 := by unfold naN; split <;> omega
          by_cases k6 : k < 6
          · have g1 : ∀ m a G, ngN P k m a G = G := fun m a G => by unfold ngN; rw [if_pos k6]
            have c1 : ∀ m a G, coN P k m a G = 0 := fun m a G => by unfold coN; rw [if_pos k6]
            rw [g1, c1] at h5 l ⊢
            have := ih n' (naN k a) (naN k a2) (nhN k H) G G2 (by omega) (by omega) na h4 (by omega)
            omega
          · have g1 : ∀ m a G, ngN P k m a G = gbN P m a (pFl P ((k - 2) % 4)) G := fun m a G => by unfold ngN; rw [if_neg k6]
            have c1 : ∀ m a G, coN P k m a G = csN P (pFl P ((k - 2) % 4)) G (gbN P m a (pFl P ((k - 2) % 4)) G) := fun m a G => by unfold coN; rw [if_neg k6]
            rw [g1, c1] at h5 l ⊢
            obtain ⟨s1, s2⟩ := gb_step (P := P) (m := 23 - n') (m2 := 23 - n2) (a := a) (a2 := a2) (G := G) (G2 := G2) (hP.2.2.1 ((k - 2) % 4)) h4 (fun q => by
              rcases q with q | q
              · left; omega
              · by_cases z : pHd P a2 = 2
                · exact Or.inl z
                · right; omega)
            have := ih n' (naN k a) (naN k a2) (nhN k H) _ _ (by omega) (by omega) na s1 (by omega)
            omega
        · rw [if_neg o] at h5
          omega
/-- no best way begins with a rest -/
theorem no_rest {P : pM} (hP : okP P) {n a H G : Nat} (hn : n < 24) (ha : a ≤ 9) (h : RN P (n + 1) a H G < INF) (hH : ¬ H = 2 ^ pK P - 1) : RN P (n + 1) a H G < cdN P n a H G 0 := by
  have o : okN P 0 a H = true := by unfold okN; rw [if_pos (by decide)]
  have e : cdN P n a H G 0 = RN P n (min (a + 1) 9) H G := by
    unfold cdN
    rw [if_pos o]
    show 64 * 0 + RN P n (min (a + 1) 9) H G = _
    omega
  rw [e]
  by_cases z : RN P n (min (a + 1) 9) H G < INF
  · have := RN_dom hP n (n + 1) a (min (a + 1) 9) H G G (by omega) (by omega) (by omega) (fun j q => q) z
    rw [wD_0] at this
    omega
  · omega
/-- no bath is best behind a bath -/
theorem no_bath {P : pM} (hP : okP P) {n H G : Nat} (hn : n < 24) (h : RN P (n + 1) 1 H G < INF) (hH : ¬ H = 2 ^ pK P - 1) : RN P (n + 1) 1 H G < cdN P n 1 H G 1 := by
  have o : okN P 1 1 H = true := by unfold okN; rw [if_pos (by decide)]
  have e : cdN P n 1 H G 1 = RN P n 1 H G := by
    unfold cdN
    rw [if_pos o]
    show 64 * 0 + RN P n 1 H G = _
    omega
  rw [e]
  by_cases z : RN P n 1 H G < INF
  · have := RN_dom hP n (n + 1) 1 1 H G G (by omega) (by omega) (by omega) (fun j q => q) z
    rw [wD_0] at this
    omega
  · omega
/-- a clean hand needs no tool -/
theorem cd_hand {P : pM} {n a H G j : Nat} (hj : j < 4) (h0 : pHd P a = 0) : cdN P n a H G (6 + j) = INF ∨ cdN P n a H G (6 + j) = cdN P n a H G (2 + j) := by
  have e1 : (6 + j - 2) % 4 = j := by omega
  have e2 : (2 + j - 2) % 4 = j := by omega
  unfold cdN
  by_cases o : okN P (6 + j) a H = true
  · right
    have o' : okN P (2 + j) a H = true := by
      unfold okN at o ⊢
      rw [if_neg (by omega), if_neg (by omega), e1] at o
      rw [if_neg (by omega), if_pos (by omega), e2]
      rw [Bool.and_eq_true, Bool.and_eq_true, Bool.and_eq_true] at o ⊢
      exact ⟨o.1, o.2.1, o.2.2.1, decide_eq_true h0⟩
    have gb : ∀ m f, gbN P m a f G = G := fun m f => by unfold gbN; rw [if_neg (by omega)]
    have cs : ∀ f, csN P f G G = 0 := fun f => by unfold csN; rw [if_neg (fun q => by rw [q.1] at q; exact absurd q.2 (by decide))]
    have q1 : coN P (6 + j) (23 - n) a G = 0 := by unfold coN; rw [if_neg (by omega), e1, gb, cs]
    have q2 : coN P (2 + j) (23 - n) a G = 0 := by unfold coN; rw [if_pos (by omega)]
    have q3 : ngN P (6 + j) (23 - n) a G = G := by unfold ngN; rw [if_neg (by omega), gb]
    have q4 : ngN P (2 + j) (23 - n) a G = G := by unfold ngN; rw [if_pos (by omega)]
    have q5 : nhN (6 + j) H = nhN (2 + j) H := by unfold nhN; rw [if_neg (by omega), if_neg (by omega), e1, e2]
    have q6 : naN (6 + j) a = naN (2 + j) a := by unfold naN; rw [if_neg (by omega), if_neg (by omega)]
    rw [if_pos o, if_pos o', q1, q2, q3, q4, q5, q6]
  · left
    rw [if_neg o]
/-- a task that isn't there is never handled -/
theorem RN_lost {P : pM} {j : Nat} (hj : j < pK P) (h4 : pK P ≤ 4) (ho : pOk P j = false) : ∀ n a H G : Nat, n ≤ 24 → H.testBit j = false → RN P n a H G = INF := by
  have al : ∀ H : Nat, H.testBit j = false → ¬ H = 2 ^ pK P - 1 := fun H h e => by
    rw [e, Nat.testBit_two_pow_sub_one, decide_eq_true hj] at h
    exact absurd h (by decide)
  intro n
  induction n with
  | zero =>
    intro a H G _ h
    rw [RN, if_neg (al H h)]
  | succ n ih =>
    intro a H G hn h
    rw [RN_s (al H h)]
    rcases minN_ex (f := cdN P n a H G) 10 with e | ⟨k, hk, e⟩
    · exact e
    · rw [e]
      unfold cdN
      split
      · rename_i o
        have hb : (nhN k H).testBit j = false := by
          unfold nhN
          by_cases k2 : k < 2
          · rw [if_pos k2]; exact h
          · rw [if_neg k2, tb_or, h, Bool.false_or]
            refine decide_eq_false (fun q => ?_)
            unfold okN at o
            rw [if_neg k2, q, ho] at o
            simp at o
        have := ih (naN k a) (nhN k H) (ngN P k (23 - n) a G) (by omega) hb
        have l := minN_inf (f := cdN P n a H G) 10
        rw [e] at l
        unfold cdN at l
        rw [if_pos o] at l
        omega
      · rfl

/-! both sides: baths -/
theorem bc_64 : ∀ a, a < 64 → ∀ b, b < 64 → bcJ (nI (64 * a + b)) = bitM (nI (64 * a + b)) 24 ∧ ¬ bitM (nI (64 * a + b)) 24 = -1 := by decide +kernel
theorem bc_bit {s : Nat} (hs : s < 4096) : bcJ (nI s) = bitM (nI s) 24 ∧ ¬ bitM (nI s) 24 = -1 := by
  have := bc_64 (s / 64) (by omega) (s % 64) (by omega)
  rw [show 64 * (s / 64) + s % 64 = s by omega] at this
  exact this
theorem nI_nm {s : Nat} (hs : s < 2 ^ 31) : ¬ nI s = -1 := fun q => by
  have := nI_pos' hs
  rw [q] at this
  exact absurd this (by decide)
/-- how long since he bathed, k minutes on -/
def agK (s a0 : Nat) : Nat → Nat
  | 0 => a0
  | k + 1 => if s.testBit k = true then 1 else agK s a0 k + 1
theorem agK_spec (s a0 : Nat) : ∀ j, (∃ i, 1 ≤ i ∧ i ≤ j ∧ s.testBit (j - i) = true ∧ agK s a0 j = i ∧ ∀ u, 1 ≤ u → u < i → s.testBit (j - u) = false) ∨ ((∀ u, 1 ≤ u → u ≤ j → s.testBit (j - u) = false) ∧ agK s a0 j = a0 + j)
  | 0 => Or.inr ⟨fun u a b => by omega, rfl⟩
  | j + 1 => by
    rw [agK]
    by_cases c : s.testBit j = true
    · rw [if_pos c]
      exact Or.inl ⟨1, by omega, by omega, c, rfl, fun u a b => by omega⟩
    · rw [if_neg c]
      rw [Bool.not_eq_true] at c
      have step : ∀ u, 1 ≤ u → (u ≠ 1 → s.testBit (j - (u - 1)) = false) → s.testBit (j + 1 - u) = false := fun u h1 h2 => by
        by_cases e : u = 1
        · rw [e, Nat.add_sub_cancel]; exact c
        · rw [show j + 1 - u = j - (u - 1) by omega]; exact h2 e
      rcases agK_spec s a0 j with ⟨i, i1, i2, i3, i4, i5⟩ | ⟨h1, h2⟩
      · refine Or.inl ⟨i + 1, by omega, by omega, ?_, by rw [i4], fun u a b => step u a (fun e => i5 (u - 1) (by omega) (by omega))⟩
        rw [show j + 1 - (i + 1) = j - i by omega]; exact i3
      · exact Or.inr ⟨fun u a b => step u a (fun e => h1 (u - 1) (by omega) (by omega)), by rw [h2]; omega⟩
theorem agK_le (s a0 w j : Nat) : (agK s a0 j ≤ w) ↔ (a0 + j ≤ w ∨ ∃ i, 1 ≤ i ∧ i ≤ w ∧ i ≤ j ∧ s.testBit (j - i) = true) := by
  rcases agK_spec s a0 j with ⟨i, i1, i2, i3, i4, i5⟩ | ⟨h1, h2⟩
  · rw [i4]
    refine ⟨fun q => Or.inr ⟨i, i1, q, i2, i3⟩, fun q => ?_⟩
    rcases q with q | ⟨u, u1, u2, u3, u4⟩
    · omega
    · rcases Nat.lt_or_ge u i with z | z
      · rw [i5 u u1 z] at u4
        exact absurd u4 (by decide)
      · omega
  · rw [h2]
    refine ⟨fun q => Or.inl q, fun q => ?_⟩
    rcases q with q | ⟨u, u1, u2, u3, u4⟩
    · exact q
    · rw [h1 u u1 u3] at u4
      exact absurd u4 (by decide)
theorem agK_99 {s a0 : Nat} (h : a0 ≤ 99) : ∀ k, agK s a0 k ≤ 99 + k
  | 0 => h
  | k + 1 => by
    have := agK_99 (s := s) h k
    rw [agK]
    split <;> omega
theorem cb_bt {s j : Nat} (hj : j < 32) : ∀ w, w ≤ 8 → (bt (cbX (nI s) w) j = true ↔ ∃ i, 1 ≤ i ∧ i ≤ w ∧ i ≤ j ∧ s.testBit (j - i) = true)
  | 0, _ => by
    rw [cbX, b_0]
    exact ⟨fun q => absurd q (by decide), fun ⟨i, a, b, _⟩ => by omega⟩
  | w + 1, hw => by
    rw [cbX, b_or, Bool.or_eq_true, cb_bt hj w (by omega), b_shl (w + 1) (by omega) _ hj, Bool.and_eq_true, decide_eq_true_eq, b_nI (by omega)]
    refine ⟨fun q => ?_, fun ⟨i, a, b, c, d⟩ => ?_⟩
    · rcases q with ⟨i, a, b, c, d⟩ | ⟨a, b⟩
      · exact ⟨i, a, by omega, c, d⟩
      · exact ⟨w + 1, by omega, by omega, a, b⟩
    · by_cases e : i = w + 1
      · subst e
        exact Or.inr ⟨c, d⟩
      · exact Or.inl ⟨i, a, by omega, c, d⟩
section EQ16
variable {α β : xm_M}
theorem hb_w (hc : iCo α β) {a : Nat} (ha : a < 2 ^ 31) : (hbM β (nI a) = 0) ↔ a ≤ wX α := by
  obtain ⟨-, ⟨w1, w4, c1, c4⟩, -, e3, e4, -⟩ := hc
  unfold hbM
  rw [e3, w1]
  by_cases c : a ≤ wX α
  · rw [if_pos ((nI_leI ha (by omega)).mpr c)]
    exact ⟨fun _ => c, fun _ => rfl⟩
  · rw [if_neg (fun q => c ((nI_leI ha (by omega)).mp q))]
    refine ⟨fun q => ?_, fun q => absurd q c⟩
    revert q
    split
    · intro q; exact absurd q (by decide)
    · intro q; exact absurd q (by decide)
/-- how long since he bathed, now -/
theorem ago_0 (hi : Inv α β) {m : Nat} (em : α.1 16 0 = nI m) (hm : m ≤ 24) : ∃ a0, 1 ≤ a0 ∧ a0 ≤ 99 ∧ agoR (α.1 16 1) (nI m) m = nI a0 ∧ ∀ j, j < 12 → ((hX α (α.1 16 1) (nI (m + j)) = 0) ↔ a0 + j ≤ wX α) := by
  obtain ⟨⟨m', hm', em', hb1⟩, -⟩ := hi.2.1
  have : m' = m := (nI_eq (by omega) (by omega)).mp (em'.symm.trans em)
  subst this
  have w4 := hi.1.2.1.2.1
  have no : ∀ b, m' ≤ b → b < 32 → hb (α.1 16 1) (nI b) = false := fun b h1 h2 => by rw [hb_bt h2]; exact hb1 b h1
  have hh : ∀ j, j < 12 → hX α (α.1 16 1) (nI (m' + j)) = hbM β (agoR (α.1 16 1) (nI (m' + j)) 24) := fun j hj => eq_hand hi.1 _ (by omega)
  rcases ago_spec (α.1 16 1) m' (by omega) m' hm with ⟨a, e⟩ | ⟨L, l1, l2, l3, l4, l5⟩
  · refine ⟨99, by omega, by omega, e, fun j hj => ?_⟩
    rw [hh j hj]
    rcases ago_spec (α.1 16 1) (m' + j) (by omega) 24 (by decide) with ⟨-, e'⟩ | ⟨L, l1, l2, l3, -⟩
    · rw [e', show (99 : Int32) = nI 99 from rfl, hb_w hi.1 (by decide)]
      omega
    · exfalso
      rcases Nat.lt_or_ge L m' with z | z
      · rw [a L z z] at l3
        exact absurd l3 (by decide)
      · rw [no L z (by omega)] at l3
        exact absurd l3 (by decide)
  · refine ⟨m' - L, by omega, by omega, l5, fun j hj => ?_⟩
    rw [hh j hj]
    rcases ago_spec (α.1 16 1) (m' + j) (by omega) 24 (by decide) with ⟨a, -⟩ | ⟨K, k1, k2, k3, k4, k5⟩
    · rw [a L (by omega) (by omega)] at l3
      exact absurd l3 (by decide)
    · have km : K < m' := by
        rcases Nat.lt_or_ge K m' with z | z
        · exact z
        · rw [no K z (by omega)] at k3
          exact absurd k3 (by decide)
      have kl : K = L := by
        rcases Nat.lt_trichotomy K L with z | z | z
        · rw [k4 L z (by omega) (by omega)] at l3
          exact absurd l3 (by decide)
        · exact z
        · rw [l4 K z km km] at k3
          exact absurd k3 (by decide)
      rw [k5, hb_w hi.1 (by omega), kl]
      omega
theorem ca_bt (hm : ∃ m, α.1 16 0 = nI m) {j : Nat} (hj : j < 32) : ∀ k, k ≤ 12 → (bt (caX α k) j = true ↔ j < k ∧ hX α (α.1 16 1) (α.1 16 0 + nI j) = 0)
  | 0, _ => by
    rw [caX, b_0]
    exact ⟨fun q => absurd q (by decide), fun q => by omega⟩
  | k + 1, hk => by
    have ih := ca_bt hm hj k (by omega)
    rw [caX]
    by_cases e : j = k
    · subst e
      by_cases c : hX α (α.1 16 1) (α.1 16 0 + nI j) = 0
      · rw [if_pos c, b_set hj, decide_eq_true rfl, Bool.or_true]
        exact ⟨fun _ => ⟨by omega, c⟩, fun _ => rfl⟩
      · rw [if_neg c, ih]
        exact ⟨fun q => by omega, fun q => absurd q.2 c⟩
    · have q : bt (if hX α (α.1 16 1) (α.1 16 0 + nI k) = 0 then caX α k ||| (1 <<< (nI k &&& 31)) else caX α k) j = bt (caX α k) j := by
        split
        · rw [b_set (by omega), decide_eq_false e, Bool.or_false]
        · rfl
      rw [q, ih]
      exact ⟨fun q => ⟨by omega, q.2⟩, fun q => ⟨by omega, q.2⟩⟩
theorem bk_spec (hc : iCo α β) {x b : Int32} {s a0 : Nat} (h0 : agoR (β.1 41 11) (β.1 41 10) (miM β) = nI a0) (h99 : a0 ≤ 99) : ∀ k, k ≤ 12 → ((bkS β x s b k).1 = true ↔ (((nI s &&& x) = 0 ∧ (b = -1 ∨ bitM (nI s) 24 < bitM b 24)) ∧ ∀ j, j < k → hb x (nI j) = true → agK s a0 j ≤ wX α)) ∧ ((bkS β x s b k).1 = true → (bkS β x s b k).2 = nI (agK s a0 k))
  | 0, _ => by
    rw [bkS]
    exact ⟨⟨fun q => ⟨of_decide_eq_true q, fun j hj => by omega⟩, fun q => decide_eq_true q.1⟩, fun _ => h0⟩
  | k + 1, hk => by
    obtain ⟨i1, i2⟩ := bk_spec hc (x := x) (b := b) (s := s) h0 h99 k (by omega)
    have b99 := agK_99 (s := s) h99 k
    rw [bkS]
    by_cases c : (bkS β x s b k).1 = true
    · rw [if_pos c, i2 c]
      dsimp only
      have hw := hb_w hc (a := agK s a0 k) (by omega)
      refine ⟨?_, fun _ => ?_⟩
      · rw [Bool.or_eq_true, decide_eq_true_eq, hw]
        refine ⟨fun q => ⟨(i1.mp c).1, fun j hj z => ?_⟩, fun q => ?_⟩
        · by_cases e : j = k
          · subst e
            rcases q with q | q
            · rw [z] at q
              exact absurd q (by decide)
            · exact q
          · exact (i1.mp c).2 j (by omega) z
        · by_cases z : hb x (nI k) = true
          · exact Or.inr (q.2 k (by omega) z)
          · left
            rw [Bool.not_eq_true] at z
            rw [z]; rfl
      · rw [agK, hb_bt (by omega), b_nI (by omega)]
        split
        · rfl
        · rw [nI_1]
    · rw [if_neg c]
      refine ⟨⟨fun q => absurd q c, fun q => absurd (i1.mpr ⟨q.1, fun j hj => q.2 j (by omega)⟩) c⟩, fun q => absurd q c⟩
theorem bh_in {x : Int32} : ∀ s, bhM β x s = -1 ∨ ∃ u, u < s ∧ bhM β x s = nI u
  | 0 => Or.inl rfl
  | s + 1 => by
    rw [bhM]
    split
    · exact Or.inr ⟨s, by omega, rfl⟩
    · rcases bh_in (x := x) s with h | ⟨u, hu, e⟩
      · exact Or.inl h
      · exact Or.inr ⟨u, by omega, e⟩
theorem bt_main (hi : Inv α β) {X : Nat} (hX' : X < 4096) : ∀ s, s ≤ 4096 → btR α (nI X) s = (if bhM β (nI X) s = -1 then -1 else bitM (bhM β (nI X) s) 24, bhM β (nI X) s)
  | 0, _ => rfl
  | s + 1, hs => by
    have ih := bt_main hi hX' s (by omega)
    obtain ⟨m, hm, em, ex, eM, er⟩ := mi_ex hi
    have r11 : β.1 41 11 = α.1 16 1 := hi.2.1.2.2.2.2.1
    obtain ⟨a0, a1, a99, ea, hca⟩ := ago_0 hi em hm
    have w4 := hi.1.2.1.2.1
    have hbk := (bk_spec hi.1 (x := nI X) (b := bhM β (nI X) s) (s := s) (a0 := a0) (by rw [r11, er, eM]; exact ea) a99 12 (by decide)).1
    have opn' : ((nI X &&& (caX α 12 ^^^ (-1))) &&& (cbX (nI s) (wX α) ^^^ (-1)) = 0) ↔ ∀ j, j < 12 → hb (nI X) (nI j) = true → agK s a0 j ≤ wX α := by
      rw [sub_iff]
      refine ⟨fun h j hj q => ?_, fun h j hj q => ?_⟩
      · rw [agK_le]
        rw [hb_bt (by omega)] at q
        by_cases c : bt (caX α 12) j = true
        · rw [ca_bt ⟨m, em⟩ (by omega) 12 (by decide), em, nI_add, hca j hj] at c
          exact Or.inl c.2
        · right
          rw [← cb_bt (by omega) _ (by omega)]
          apply h j (by omega)
          rw [Bool.not_eq_true] at c
          rw [b_and, b_xor, b_m1 j (by omega), q, c]; rfl
      · rw [b_and, b_xor, b_m1 j hj, Bool.and_eq_true] at q
        have j12 : j < 12 := by
          rcases Nat.lt_or_ge j 12 with z | z
          · exact z
          · have := q.1
            rw [b_nI hj, Nat.testBit_lt_two_pow (Nat.lt_of_lt_of_le hX' (Nat.pow_le_pow_right (n := 2) (by decide) z))] at this
            exact absurd this (by decide)
        have := h j j12 (by rw [hb_bt hj]; exact q.1)
        rw [agK_le] at this
        rw [cb_bt hj _ (by omega)]
        rcases this with z | z
        · exfalso
          have c : bt (caX α 12) j = true := by
            rw [ca_bt ⟨m, em⟩ hj 12 (by decide), em, nI_add, hca j j12]
            exact ⟨j12, z⟩
          rw [c] at q
          exact absurd q.2 (by decide)
        · exact z
    have c1 : (btR α (nI X) s).1 = -1 ∨ bcJ (nI s) < (btR α (nI X) s).1 ↔ (bhM β (nI X) s = -1 ∨ bitM (nI s) 24 < bitM (bhM β (nI X) s) 24) := by
      rw [ih, (bc_bit (s := s) (by omega)).1]
      dsimp only
      by_cases z : bhM β (nI X) s = -1
      · rw [if_pos z]
        exact ⟨fun _ => Or.inl z, fun _ => Or.inl rfl⟩
      · rw [if_neg z]
        rcases bh_in (β := β) (x := nI X) s with h | ⟨u, hu, e⟩
        · exact absurd h z
        · have := (bc_bit (s := u) (by omega)).2
          rw [← e] at this
          exact ⟨fun q => q.elim (fun q => absurd q this) Or.inr, fun q => q.elim (fun q => absurd q z) Or.inr⟩
    rw [btR, bhM]
    by_cases c : (bkS β (nI X) s (bhM β (nI X) s) 12).1 = true
    · have cc := hbk.mp c
      rw [if_pos c, if_pos ⟨cc.1.1, c1.mpr cc.1.2, opn'.mpr cc.2⟩, if_neg (nI_nm (by omega)), (bc_bit (s := s) (by omega)).1]
    · rw [if_neg c, if_neg (fun q => c (hbk.mpr ⟨⟨q.1, c1.mp q.2.1⟩, opn'.mp q.2.2⟩)), ih]
theorem eq_baths (hi : Inv α β) (x y : Int32) : f_baths α x y = g_baths β x y := by
  unfold f_baths g_baths
  have cc : (x < 0 ∨ 4096 ≤ x ∨ y < 0 ∨ 1 < y) ↔ (inB x 0 4095 = false ∨ inB y 0 1 = false) := by
    rw [inB_f, inB_f, or_assoc]
    exact or_congr Iff.rfl (or_congr (lt_su (k := 4095) (by decide)).symm Iff.rfl)
  by_cases c : x < 0 ∨ 4096 ≤ x ∨ y < 0 ∨ 1 < y
  · rw [if_pos c, if_pos (cc.mp c)]
  · rw [if_neg c, if_neg (c := inB x 0 4095 = false ∨ inB y 0 1 = false) (fun q => c (cc.mpr q))]
    have x0 : 0 ≤ x := i_pos (fun q => c (Or.inl q))
    have x1 : x < nI 4096 := by rw [← i_nle]; exact fun q => c (Or.inr (Or.inl q))
    obtain ⟨X, hX', rfl⟩ := lt_nI (by decide) x0 x1
    obtain ⟨j, hj, rfl⟩ := le_ex 1 (x := y) (M := 1) (by decide) (by decide) (i_pos (fun q => c (Or.inr (Or.inr (Or.inl q))))) (by rw [← i_nlt]; exact fun q => c (Or.inr (Or.inr (Or.inr q))))
    rw [bt_main hi hX' 4096 (Nat.le_refl _)]
    dsimp only
    by_cases e : j = 0
    · subst e
      rw [if_pos (c := nI 0 = 0) rfl]
      by_cases z : bhM β (nI X) 4096 = -1
      · rw [if_pos z, if_pos (Or.inl z), z]
      · rw [if_neg z, if_neg (c := bhM β (nI X) 4096 = -1 ∨ nI 0 = 1) (fun q => q.elim z (by decide))]
    · obtain rfl : j = 1 := by omega
      rw [if_neg (c := nI 1 = 0) (by decide), if_pos (c := bhM β (nI X) 4096 = -1 ∨ nI 1 = 1) (Or.inr rfl)]
end EQ16

/-! bits (the first rows out of the kit's rows on bits, given for pasting) -/
def bt (x : Int32) (i : Nat) : Bool := x.toBitVec.getLsbD i
theorem b_ext {x y : Int32} (h : ∀ i, i < 32 → bt x i = bt y i) : x = y := Int32.toBitVec_inj.mp (BitVec.eq_of_getLsbD_eq (fun i hi => h i hi))
theorem b_or (x y : Int32) (i : Nat) : bt (x ||| y) i = (bt x i || bt y i) := by unfold bt; rw [Int32.toBitVec_or, BitVec.getLsbD_or]
theorem b_and (x y : Int32) (i : Nat) : bt (x &&& y) i = (bt x i && bt y i) := by unfold bt; rw [Int32.toBitVec_and, BitVec.getLsbD_and]
theorem b_xor (x y : Int32) (i : Nat) : bt (x ^^^ y) i = (bt x i ^^ bt y i) := by unfold bt; rw [Int32.toBitVec_xor, BitVec.getLsbD_xor]
theorem b_big {x : Int32} {i : Nat} (h : 32 ≤ i) : bt x i = false := BitVec.getLsbD_of_ge _ _ h
theorem b_m1 : ∀ i, i < 32 → bt (-1) i = true := by decide +kernel
theorem b_0 (i : Nat) : bt 0 i = false := BitVec.getLsbD_zero
theorem s_l : ∀ n, n < 32 → ((nI n &&& 31).toBitVec.smod 32).toNat = n := by decide +kernel
theorem b_shl (n : Nat) (hn : n < 32) (x : Int32) {i : Nat} (hi : i < 32) : bt (x <<< (nI n &&& 31)) i = (decide (n ≤ i) && bt x (i - n)) := by
  unfold bt
  rw [Int32.toBitVec_shiftLeft]
  show (x.toBitVec <<< ((nI n &&& 31).toBitVec.smod 32).toNat).getLsbD i = _
  rw [s_l n hn, BitVec.getLsbD_shiftLeft]
  rcases Nat.lt_or_ge i n with h | h
  · simp [h, Nat.not_le.mpr h]
  · simp [hi, h, Nat.not_lt.mpr h]
theorem b_sshr (n : Nat) (hn : n < 32) (x : Int32) {i : Nat} (hi : i < 32) : bt (x >>> (nI n &&& 31)) i = if n + i < 32 then bt x (n + i) else bt x 31 := by
  unfold bt
  rw [Int32.toBitVec_shiftRight]
  show (x.toBitVec.sshiftRight ((nI n &&& 31).toBitVec.smod 32).toNat).getLsbD i = _
  rw [s_l n hn, BitVec.getLsbD_sshiftRight, BitVec.msb_eq_getLsbD_last]
  simp [hi]
theorem b_one : ∀ i, i < 32 → bt 1 i = decide (i = 0) := by decide +kernel
theorem b_pow {t j : Nat} (ht : t < 32) (hj : j < 32) : bt (1 <<< (nI t &&& 31)) j = decide (j = t) := by
  rw [b_shl t ht 1 hj]
  by_cases c : t ≤ j
  · rw [b_one (j - t) (by omega), decide_eq_true c, Bool.true_and]
    exact decide_eq_decide.mpr (by omega)
  · rw [decide_eq_false c, Bool.false_and, decide_eq_false (by omega)]
theorem b_set {x : Int32} {t j : Nat} (ht : t < 32) : bt (x ||| (1 <<< (nI t &&& 31))) j = (bt x j || decide (j = t)) := by
  rcases Nat.lt_or_ge j 32 with h | h
  · rw [b_or, b_pow ht h]
  · rw [b_big h, b_big h, decide_eq_false (by omega)]; rfl
theorem b_clr {x : Int32} {t j : Nat} (ht : t < 32) : bt (x &&& ((1 <<< (nI t &&& 31)) ^^^ (-1))) j = (bt x j && !decide (j = t)) := by
  rcases Nat.lt_or_ge j 32 with h | h
  · rw [b_and, b_xor, b_pow ht h, b_m1 j h, Bool.xor_true]
  · rw [b_big h, b_big h]; rfl
theorem hb_bt {x : Int32} {t : Nat} (ht : t < 32) : hb x (nI t) = bt x t := by
  have e := b_sshr t ht x (i := 0) (by decide)
  rw [Nat.add_zero, if_pos ht] at e
  rw [← e]
  unfold hb
  generalize x >>> (nI t &&& 31) = y
  cases z : bt y 0
  · rw [decide_eq_true]; rfl
    refine b_ext (fun i hi => ?_)
    rw [b_and, b_one i hi, b_0]
    by_cases q : i = 0
    · rw [q, z]; rfl
    · rw [decide_eq_false q, Bool.and_false]
  · rw [decide_eq_false]; rfl
    intro q
    have := congrArg (fun v => bt v 0) q
    simp only [b_and, z, b_0] at this
    rw [b_one 0 (by decide)] at this
    exact absurd this (by decide)
theorem b_nI {a j : Nat} (hj : j < 32) : bt (nI a) j = a.testBit j := by
  show (BitVec.ofNat 32 a).getLsbD j = _
  rw [BitVec.getLsbD_ofNat, decide_eq_true hj, Bool.true_and]
/-- no bit from n on -/
def iBt (n : Nat) (x : Int32) : Prop := ∀ j, n ≤ j → bt x j = false
theorem iBt_0 (n : Nat) : iBt n 0 := fun j _ => b_0 j
theorem iBt_mono {n m : Nat} {x : Int32} (h : iBt n x) (hm : n ≤ m) : iBt m x := fun j hj => h j (by omega)
theorem iBt_set {n t : Nat} {x : Int32} (h : iBt n x) (ht : t < n) (h32 : t < 32) : iBt n (x ||| (1 <<< (nI t &&& 31))) := fun j hj => by
  rw [b_set h32, h j hj, decide_eq_false (by omega)]; rfl
theorem iBt_clr {n t : Nat} {x : Int32} (h : iBt n x) (h32 : t < 32) : iBt n (x &&& ((1 <<< (nI t &&& 31)) ^^^ (-1))) := fun j hj => by
  rw [b_clr h32, h j hj]; rfl
theorem iBt_ex {n : Nat} {x : Int32} (h : iBt n x) (hn : n < 32) : ∃ a, a < 2 ^ n ∧ x = nI a := by
  refine ⟨x.toBitVec.toNat, ?_, ?_⟩
  · apply Nat.lt_pow_two_of_testBit
    intro i hi
    exact h i hi
  · apply Int32.toBitVec_inj.1
    show x.toBitVec = BitVec.ofNat 32 x.toBitVec.toNat
    simp
/-! what both sides keep: α holds GoldTouch's cells, β the reference's -/
/-- a thing of the court -/
def iTh (α β : xm_M) (t : Nat) : Prop := β.1 37 (4 * t) = α.1 2 t ∧ β.1 37 (4 * t + 1) = α.1 3 t ∧ β.1 37 (4 * t + 2) = α.1 4 t ∧ β.1 37 (4 * t + 3) = α.1 5 t ∧ (∃ a, a < 5 ∧ α.1 2 t = nI a) ∧ (∃ w, 1 ≤ w ∧ w ≤ 20 ∧ α.1 3 t = nI w) ∧ (∃ v, v ≤ 40 ∧ α.1 4 t = nI v) ∧ ∃ f, f < 3 ∧ α.1 5 t = nI f
/-- the court -/
def iCo (α β : xm_M) : Prop := vX α ∧ vH α ∧ β.1 36 0 = α.1 1 5 ∧ β.1 36 3 = α.1 1 6 ∧ β.1 36 4 = α.1 1 7 ∧ β.1 36 5 = α.1 1 8 ∧ (∃ n, n ≤ 24 ∧ α.1 1 8 = nI n) ∧ (∀ f, f < 3 → β.1 38 f = α.1 6 f ∧ ∃ b, b ≤ 99 ∧ α.1 6 f = nI b) ∧ ∀ t, t < nX α → iTh α β t
/-- a day D of a court of n things, and its twelve numbers R -/
def iDz (n : Nat) (D R : Nat → Int32) : Prop := R 10 = D 0 ∧ R 11 = D 1 ∧ R 8 = D 4 ∧ R 9 = D 5 ∧ ∀ t, t < n → R t = vG (D 3) (D 2) (nI t)
def iDy (n : Nat) (D R : Nat → Int32) : Prop := (∃ m, m ≤ 24 ∧ D 0 = nI m ∧ iBt m (D 1)) ∧ iBt n (D 2) ∧ iBt n (D 3) ∧ iDz n D R
/-- the days behind -/
def iPa (α β : xm_M) : Prop := vPa α ∧ (∀ i j, i < 8 → j < 8 → pdX α i = pdX α j → i = j) ∧ β.1 36 22 = α.1 0 6 ∧ ∀ i, i < pcX α → iDy (nX α) (α.1 (pdX α i)) (fun j => β.1 45 (12 * i + j))
/-- the days kept -/
def iKp (α β : xm_M) : Prop := vKp α ∧ ∀ k, k < 2 → β.1 44 k = b2i (hb (α.1 0 8) (nI k)) ∧ (hb (α.1 0 8) (nI k) = true → iDy (nX α) (α.1 (34 + k)) (fun j => β.1 43 (12 * k + j)))
/-- the row -/
def iRo (α β : xm_M) : Prop := vR α ∧ β.1 36 24 = α.1 0 10 ∧ ∀ k, k < rcX α → β.1 46 k = α.1 20 k ∧ ∃ t, t < nX α ∧ α.1 20 k = nI t
/-- the tasks -/
def iTa (α β : xm_M) : Prop := vTk β ∧ iBt (nX α) (α.1 0 11) ∧ bcJ (α.1 0 11) = β.1 36 26 ∧ (∀ k, k < tkMm β → ∃ t, t < nX α ∧ β.1 47 k = nI t) ∧ (∀ i j, i < j → j < tkMm β → ¬ β.1 47 i = β.1 47 j) ∧ ∀ t, t < 8 → hb (α.1 0 11) (nI t) = isK β (nI t) (tkMm β)
/-- what was seen -/
def iSe (α β : xm_M) : Prop := vS α ∧ β.1 36 28 = α.1 0 16 ∧ ∀ k, k < scX α → β.1 48 (3 * k) = α.1 23 k ∧ β.1 48 (3 * k + 1) = α.1 24 k ∧ β.1 48 (3 * k + 2) = α.1 25 k ∧ (∃ m, m < 24 ∧ α.1 24 k = nI m) ∧ ∃ g, g < 2 ∧ α.1 25 k = nI g
/-- the text -/
def iTx (α β : xm_M) : Prop := vT α ∧ β.1 36 6 = α.1 13 1 ∧ ∀ j, j < b3 α → β.1 39 j = α.1 14 j ∧ ∃ c, c < 256 ∧ α.1 14 j = nI c
/-- both sides, all of it -/
def Inv (α β : xm_M) : Prop := iCo α β ∧ iDy (nX α) (α.1 16) (β.1 41) ∧ iPa α β ∧ iKp α β ∧ iRo α β ∧ iTa α β ∧ iSe α β ∧ iTx α β
theorem nM_nX {α β : xm_M} (h : iCo α β) : nM β = nX α := by
  obtain ⟨-, -, e, -⟩ := h
  unfold nM nX
  rw [e]
theorem iCo_vXm {α β : xm_M} (h : iCo α β) : vXm β := by
  have e := nM_nX h
  obtain ⟨v, -, e0, -⟩ := h
  unfold vXm
  rw [e, e0]
  exact v

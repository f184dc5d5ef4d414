/-! GoldTouch's cells behind its constructor are the world's (laid by gen/mkstart.py) -/
theorem xb_cong {cA : ClassId} {n : Nat} {f g : Nat → Value} (h : ∀ j, j < n → f j = g j) : arrV cA n f = arrV cA n g := by
  unfold arrV
  congr 1
  apply Array.ext
  · simp
  · intro i h1 h2
    simp at h1
    simp [h i h1]
theorem xb_congI {c : ClassId} {n : Nat} {f g : Nat → Int32} (h : ∀ j, j < n → f j = g j) : some (vp_cell c (n, .inl f)) = some (vp_cell c (n, .inl g)) := by
  rw [vp_cell_i, vp_cell_i]
  exact congrArg some (xb_cong (fun j hj => by rw [h j hj]))
theorem xb_congQ {c : ClassId} {n : Nat} {f g : Nat → Option Nat} (h : ∀ j, j < n → f j = g j) : some (vp_cell c (n, .inr (.inr (.inr (.inr f))))) = some (vp_cell c (n, .inr (.inr (.inr (.inr g))))) := by
  rw [vp_cell_q, vp_cell_q]
  exact congrArg some (xb_cong (fun j hj => by rw [h j hj]))
set_option maxHeartbeats 4000000 in
theorem xb_conv0 {G : va_G} {cA : Nat → ClassId} {ad : Nat → Nat} {H : Heap} (h : va_P G vwCl [((ad 0), .inr (4, [.ref (ad 1), .ref (ad 7), .ref (ad 13), .ref (ad 16), .ref (ad 17), .ref (ad 18), .int 0, .ref (ad 19), .int 0, .ref (ad 20), .int 0, .int 0, .ref (ad 21), .ref (ad 23), .ref (ad 24), .ref (ad 25), .int 0])), ((ad 1), .inr (0, [.ref (ad 2), .ref (ad 3), .ref (ad 4), .ref (ad 5), .ref (ad 6), .int 0, .int 3, .int 2, .int 12])), ((ad 2), .inl (cA 0, 8, .inl (fun _ => 0))), ((ad 3), .inl (cA 0, 8, .inl (fun _ => 0))), ((ad 4), .inl (cA 0, 8, .inl (fun _ => 0))), ((ad 5), .inl (cA 0, 8, .inl (fun _ => 0))), ((ad 6), .inl (cA 0, 3, .inl (upd (upd (upd (fun _ => 0) (0 : Int32).toNatClampNeg 99) (1 : Int32).toNatClampNeg 99) (2 : Int32).toNatClampNeg 99))), ((ad 7), .inr (0, [.ref (ad 8), .ref (ad 9), .ref (ad 10), .ref (ad 11), .ref (ad 12), .int 0, .int 3, .int 2, .int 12])), ((ad 8), .inl (cA 0, 8, .inl (fun _ => 0))), ((ad 9), .inl (cA 0, 8, .inl (fun _ => 0))), ((ad 10), .inl (cA 0, 8, .inl (fun _ => 0))), ((ad 11), .inl (cA 0, 8, .inl (fun _ => 0))), ((ad 12), .inl (cA 0, 3, .inl (upd (upd (upd (fun _ => 0) (0 : Int32).toNatClampNeg 99) (1 : Int32).toNatClampNeg 99) (2 : Int32).toNatClampNeg 99))), ((ad 13), .inr (3, [.ref (ad 14), .int 0, .int 0, .int 0, .int 0, .ref (ad 15)])), ((ad 14), .inl (cA 0, 160, .inl (fun _ => 0))), ((ad 15), .inl (cA 0, 3, .inl (fun _ => 0))), ((ad 16), .inr (1, [.int 0, .int 0, .int 0, .int 0, .int 0, .int 0])), ((ad 17), .inr (1, [.int 0, .int 0, .int 0, .int 0, .int 0, .int 0])), ((ad 18), .inl (cA 2, 8, .inr (.inr (.inr (.inr (va_up (va_up (va_up (va_up (va_up (va_up (va_up (va_up (fun _ => none) (0 : Int32).toNatClampNeg (some (ad 26))) (1 : Int32).toNatClampNeg (some (ad 27))) (2 : Int32).toNatClampNeg (some (ad 28))) (3 : Int32).toNatClampNeg (some (ad 29))) (4 : Int32).toNatClampNeg (some (ad 30))) (5 : Int32).toNatClampNeg (some (ad 31))) (6 : Int32).toNatClampNeg (some (ad 32))) (7 : Int32).toNatClampNeg (some (ad 33)))))))), ((ad 19), .inl (cA 2, 2, .inr (.inr (.inr (.inr (va_up (va_up (fun _ => none) (0 : Int32).toNatClampNeg (some (ad 34))) (1 : Int32).toNatClampNeg (some (ad 35)))))))), ((ad 20), .inl (cA 0, 8, .inl (fun _ => 0))), ((ad 21), .inr (2, [.int 0, .int 0, .int 0, .int 0, .ref (ad 22)])), ((ad 22), .inl (cA 0, 3, .inl (fun _ => 0))), ((ad 23), .inl (cA 0, 6, .inl (fun _ => 0))), ((ad 24), .inl (cA 0, 6, .inl (fun _ => 0))), ((ad 25), .inl (cA 0, 6, .inl (fun _ => 0))), ((ad 26), .inr (1, [.int 0, .int 0, .int 0, .int 0, .int 0, .int 0])), ((ad 27), .inr (1, [.int 0, .int 0, .int 0, .int 0, .int 0, .int 0])), ((ad 28), .inr (1, [.int 0, .int 0, .int 0, .int 0, .int 0, .int 0])), ((ad 29), .inr (1, [.int 0, .int 0, .int 0, .int 0, .int 0, .int 0])), ((ad 30), .inr (1, [.int 0, .int 0, .int 0, .int 0, .int 0, .int 0])), ((ad 31), .inr (1, [.int 0, .int 0, .int 0, .int 0, .int 0, .int 0])), ((ad 32), .inr (1, [.int 0, .int 0, .int 0, .int 0, .int 0, .int 0])), ((ad 33), .inr (1, [.int 0, .int 0, .int 0, .int 0, .int 0, .int 0])), ((ad 34), .inr (1, [.int 0, .int 0, .int 0, .int 0, .int 0, .int 0])), ((ad 35), .inr (1, [.int 0, .int 0, .int 0, .int 0, .int 0, .int 0]))] H) : ∀ k, k < 36 → va_at G vwCl (ad k, xw_e ad cA xb_s0 k) H := by
  intro k hk
  match k, hk with
  | 0, _ => exact h 0 _ rfl
  | 1, _ => exact h 1 _ rfl
  | 2, _ => exact h 2 _ rfl
  | 3, _ => exact h 3 _ rfl
  | 4, _ => exact h 4 _ rfl
  | 5, _ => exact h 5 _ rfl
  | 6, _ => exact (h 6 _ rfl).trans (xb_congI (c := cA 0) (n := 3) (g := xb_s0.1 6) (fun j hj => match j, hj with | 0, _ => rfl | 1, _ => rfl | 2, _ => rfl))
  | 7, _ => exact h 7 _ rfl
  | 8, _ => exact h 8 _ rfl
  | 9, _ => exact h 9 _ rfl
  | 10, _ => exact h 10 _ rfl
  | 11, _ => exact h 11 _ rfl
  | 12, _ => exact (h 12 _ rfl).trans (xb_congI (c := cA 0) (n := 3) (g := xb_s0.1 12) (fun j hj => match j, hj with | 0, _ => rfl | 1, _ => rfl | 2, _ => rfl))
  | 13, _ => exact h 13 _ rfl
  | 14, _ => exact h 14 _ rfl
  | 15, _ => exact h 15 _ rfl
  | 16, _ => exact h 16 _ rfl
  | 17, _ => exact h 17 _ rfl
  | 18, _ => exact (h 18 _ rfl).trans (xb_congQ (c := cA 2) (n := 8) (g := fun k => some (ad (xb_s0.1 18 k).toNatClampNeg)) (fun j hj => match j, hj with | 0, _ => rfl | 1, _ => rfl | 2, _ => rfl | 3, _ => rfl | 4, _ => rfl | 5, _ => rfl | 6, _ => rfl | 7, _ => rfl))
  | 19, _ => exact (h 19 _ rfl).trans (xb_congQ (c := cA 2) (n := 2) (g := fun k => some (ad (xb_s0.1 19 k).toNatClampNeg)) (fun j hj => match j, hj with | 0, _ => rfl | 1, _ => rfl))
  | 20, _ => exact h 20 _ rfl
  | 21, _ => exact h 21 _ rfl
  | 22, _ => exact h 22 _ rfl
  | 23, _ => exact h 23 _ rfl
  | 24, _ => exact h 24 _ rfl
  | 25, _ => exact h 25 _ rfl
  | 26, _ => exact h 26 _ rfl
  | 27, _ => exact h 27 _ rfl
  | 28, _ => exact h 28 _ rfl
  | 29, _ => exact h 29 _ rfl
  | 30, _ => exact h 30 _ rfl
  | 31, _ => exact h 31 _ rfl
  | 32, _ => exact h 32 _ rfl
  | 33, _ => exact h 33 _ rfl
  | 34, _ => exact h 34 _ rfl
  | 35, _ => exact h 35 _ rfl
  | j + 36, hj => exact absurd hj (by omega)
set_option maxHeartbeats 4000000 in
theorem xb_conv {G : va_G} {cA : Nat → ClassId} {ad : Nat → Nat} {H : Heap} {q0 q1 q2 q3 q4 q5 q6 q7 q8 q9 q10 q11 q12 q13 q14 q15 q16 q17 q18 q19 q20 q21 q22 q23 q24 q25 q26 q27 q28 q29 q30 q31 q32 q33 q34 q35 : Nat} (e0 : ad 0 = q0) (e1 : ad 1 = q1) (e2 : ad 2 = q2) (e3 : ad 3 = q3) (e4 : ad 4 = q4) (e5 : ad 5 = q5) (e6 : ad 6 = q6) (e7 : ad 7 = q7) (e8 : ad 8 = q8) (e9 : ad 9 = q9) (e10 : ad 10 = q10) (e11 : ad 11 = q11) (e12 : ad 12 = q12) (e13 : ad 13 = q13) (e14 : ad 14 = q14) (e15 : ad 15 = q15) (e16 : ad 16 = q16) (e17 : ad 17 = q17) (e18 : ad 18 = q18) (e19 : ad 19 = q19) (e20 : ad 20 = q20) (e21 : ad 21 = q21) (e22 : ad 22 = q22) (e23 : ad 23 = q23) (e24 : ad 24 = q24) (e25 : ad 25 = q25) (e26 : ad 26 = q26) (e27 : ad 27 = q27) (e28 : ad 28 = q28) (e29 : ad 29 = q29) (e30 : ad 30 = q30) (e31 : ad 31 = q31) (e32 : ad 32 = q32) (e33 : ad 33 = q33) (e34 : ad 34 = q34) (e35 : ad 35 = q35) (h : va_P G vwCl [(q0, .inr (4, [.ref q1, .ref q7, .ref q13, .ref q16, .ref q17, .ref q18, .int 0, .ref q19, .int 0, .ref q20, .int 0, .int 0, .ref q21, .ref q23, .ref q24, .ref q25, .int 0])), (q1, .inr (0, [.ref q2, .ref q3, .ref q4, .ref q5, .ref q6, .int 0, .int 3, .int 2, .int 12])), (q2, .inl (cA 0, 8, .inl (fun _ => 0))), (q3, .inl (cA 0, 8, .inl (fun _ => 0))), (q4, .inl (cA 0, 8, .inl (fun _ => 0))), (q5, .inl (cA 0, 8, .inl (fun _ => 0))), (q6, .inl (cA 0, 3, .inl (upd (upd (upd (fun _ => 0) (0 : Int32).toNatClampNeg 99) (1 : Int32).toNatClampNeg 99) (2 : Int32).toNatClampNeg 99))), (q7, .inr (0, [.ref q8, .ref q9, .ref q10, .ref q11, .ref q12, .int 0, .int 3, .int 2, .int 12])), (q8, .inl (cA 0, 8, .inl (fun _ => 0))), (q9, .inl (cA 0, 8, .inl (fun _ => 0))), (q10, .inl (cA 0, 8, .inl (fun _ => 0))), (q11, .inl (cA 0, 8, .inl (fun _ => 0))), (q12, .inl (cA 0, 3, .inl (upd (upd (upd (fun _ => 0) (0 : Int32).toNatClampNeg 99) (1 : Int32).toNatClampNeg 99) (2 : Int32).toNatClampNeg 99))), (q13, .inr (3, [.ref q14, .int 0, .int 0, .int 0, .int 0, .ref q15])), (q14, .inl (cA 0, 160, .inl (fun _ => 0))), (q15, .inl (cA 0, 3, .inl (fun _ => 0))), (q16, .inr (1, [.int 0, .int 0, .int 0, .int 0, .int 0, .int 0])), (q17, .inr (1, [.int 0, .int 0, .int 0, .int 0, .int 0, .int 0])), (q18, .inl (cA 2, 8, .inr (.inr (.inr (.inr (va_up (va_up (va_up (va_up (va_up (va_up (va_up (va_up (fun _ => none) (0 : Int32).toNatClampNeg (some q26)) (1 : Int32).toNatClampNeg (some q27)) (2 : Int32).toNatClampNeg (some q28)) (3 : Int32).toNatClampNeg (some q29)) (4 : Int32).toNatClampNeg (some q30)) (5 : Int32).toNatClampNeg (some q31)) (6 : Int32).toNatClampNeg (some q32)) (7 : Int32).toNatClampNeg (some q33))))))), (q19, .inl (cA 2, 2, .inr (.inr (.inr (.inr (va_up (va_up (fun _ => none) (0 : Int32).toNatClampNeg (some q34)) (1 : Int32).toNatClampNeg (some q35))))))), (q20, .inl (cA 0, 8, .inl (fun _ => 0))), (q21, .inr (2, [.int 0, .int 0, .int 0, .int 0, .ref q22])), (q22, .inl (cA 0, 3, .inl (fun _ => 0))), (q23, .inl (cA 0, 6, .inl (fun _ => 0))), (q24, .inl (cA 0, 6, .inl (fun _ => 0))), (q25, .inl (cA 0, 6, .inl (fun _ => 0))), (q26, .inr (1, [.int 0, .int 0, .int 0, .int 0, .int 0, .int 0])), (q27, .inr (1, [.int 0, .int 0, .int 0, .int 0, .int 0, .int 0])), (q28, .inr (1, [.int 0, .int 0, .int 0, .int 0, .int 0, .int 0])), (q29, .inr (1, [.int 0, .int 0, .int 0, .int 0, .int 0, .int 0])), (q30, .inr (1, [.int 0, .int 0, .int 0, .int 0, .int 0, .int 0])), (q31, .inr (1, [.int 0, .int 0, .int 0, .int 0, .int 0, .int 0])), (q32, .inr (1, [.int 0, .int 0, .int 0, .int 0, .int 0, .int 0])), (q33, .inr (1, [.int 0, .int 0, .int 0, .int 0, .int 0, .int 0])), (q34, .inr (1, [.int 0, .int 0, .int 0, .int 0, .int 0, .int 0])), (q35, .inr (1, [.int 0, .int 0, .int 0, .int 0, .int 0, .int 0]))] H) : ∀ k, k < 36 → va_at G vwCl (ad k, xw_e ad cA xb_s0 k) H := by
  subst e0 e1 e2 e3 e4 e5 e6 e7 e8 e9 e10 e11 e12 e13 e14 e15 e16 e17 e18 e19 e20 e21 e22 e23 e24 e25 e26 e27 e28 e29 e30 e31 e32 e33 e34 e35
  exact xb_conv0 h
theorem xb_n0 : nX xb_s1 = 0 := rfl
theorem xb_iDy (a : Nat) (h : ∀ k, k < 6 → xb_s1.1 a k = 0) (R : Nat → Int32) (hR : R 8 = 0 ∧ R 9 = 0 ∧ R 10 = 0 ∧ R 11 = 0) : iDy (nX xb_s1) (xb_s1.1 a) R := by
  refine ⟨⟨0, by omega, h 0 (by omega), ?_⟩, ?_, ?_, ?_, ?_, ?_, ?_, ?_⟩
  · rw [h 1 (by omega)]; exact iBt_0 0
  · rw [h 2 (by omega)]; exact iBt_0 _
  · rw [h 3 (by omega)]; exact iBt_0 _
  · rw [h 0 (by omega)]; exact hR.2.2.1
  · rw [h 1 (by omega)]; exact hR.2.2.2
  · rw [h 4 (by omega)]; exact hR.1
  · rw [h 5 (by omega)]; exact hR.2.1
  · intro t ht
    rw [xb_n0] at ht
    omega
theorem xb_pd (i : Nat) (h : i < 8) : xb_s1.1 18 i = nI (26 + i) := by
  match i, h with
  | 0, _ => rfl
  | 1, _ => rfl
  | 2, _ => rfl
  | 3, _ => rfl
  | 4, _ => rfl
  | 5, _ => rfl
  | 6, _ => rfl
  | 7, _ => rfl
theorem xb_pdX (i : Nat) (h : i < 8) : pdX xb_s1 i = 26 + i := by
  unfold pdX
  rw [xb_pd i h, nI_clamp (by omega)]
theorem xb_inv : Inv xb_s1 xb_s1 := by
  refine ⟨⟨⟨rfl, by decide⟩, ⟨rfl, by decide, rfl, by decide⟩, rfl, rfl, rfl, rfl, ⟨12, by omega, rfl⟩, ?_, fun t ht => by rw [xb_n0] at ht; omega⟩, ?_, ⟨⟨?_, rfl, by decide⟩, ?_, rfl, ?_⟩, ⟨⟨rfl, rfl⟩, ?_⟩, ⟨⟨rfl, by decide⟩, rfl, ?_⟩, ⟨⟨rfl, by decide⟩, ?_, by decide, ?_, ?_, ?_⟩, ⟨⟨rfl, by decide⟩, rfl, ?_⟩, ⟨rfl, by decide⟩, rfl, ?_⟩
  · intro f hf
    match f, hf with
    | 0, _ => exact ⟨rfl, 99, by omega, rfl⟩
    | 1, _ => exact ⟨rfl, 99, by omega, rfl⟩
    | 2, _ => exact ⟨rfl, 99, by omega, rfl⟩
  · exact xb_iDy 16 (fun k hk => by match k, hk with | 0, _ => rfl | 1, _ => rfl | 2, _ => rfl | 3, _ => rfl | 4, _ => rfl | 5, _ => rfl) _ ⟨rfl, rfl, rfl, rfl⟩
  · intro i hi
    rw [xb_pdX i hi]
    exact ⟨xb_pd i hi, by omega, by omega⟩
  · intro i j hi hj h
    rw [xb_pdX i hi, xb_pdX j hj] at h
    omega
  · intro i hi
    have : pcX xb_s1 = 0 := rfl
    omega
  · intro k hk
    match k, hk with
    | 0, _ => exact ⟨by decide, fun h => absurd h (by decide)⟩
    | 1, _ => exact ⟨by decide, fun h => absurd h (by decide)⟩
  · intro k hk
    have : rcX xb_s1 = 0 := rfl
    omega
  · exact iBt_0 _
  · intro k hk
    have : tkMm xb_s1 = 0 := rfl
    omega
  · intro i j hi hj
    have : tkMm xb_s1 = 0 := rfl
    omega
  · intro t ht
    match t, ht with
    | 0, _ => decide
    | 1, _ => decide
    | 2, _ => decide
    | 3, _ => decide
    | 4, _ => decide
    | 5, _ => decide
    | 6, _ => decide
    | 7, _ => decide
  · intro k hk
    have : scX xb_s1 = 0 := rfl
    omega
  · intro j hj
    have : b3 xb_s1 = 0 := rfl
    omega

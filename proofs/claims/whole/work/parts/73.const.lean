/-! what the start's conditions say of constants (laid by gen/mkconst.py) -/
def xb_gv : Cond := Jvm.Cond.and given_1 narrow_1
theorem xb_Sc {n : Nat} {len : List Nat} {byt : List (List Int32)} {aK aV bK bV : Nat → Nat} {A : Nat → Prop} {U : State} {H : Heap} (h : vk_S n len byt aK aV A U H) (h1 : ∀ i, i < n → bK i = aK i) (h2 : ∀ i, i < n → bV i = aV i) : vk_S n len byt bK bV A U H :=
  ⟨fun i hi => by rw [h1 i hi, h2 i hi]; exact h.1 i hi, fun i j hi hj e => h.2 i j hi hj (by rw [← h1 i hi, ← h1 j hj]; exact e)⟩
abbrev xb_tm (i : Nat) : Term := .string RX3 (xk_words.getD i (0, "")).1
theorem xb_ex : ∀ i, i < 11 → Cond.exactly (xb_tm i) "java/lang/String" ∈ flatC xb_gv := by decide +kernel
theorem xb_co : ∀ i, i < 11 → Cond.eq (.field (xb_tm i) "java/lang/String" "coder" "B") (.int 0) ∈ flatC xb_gv := by decide +kernel
theorem xb_ar : ∀ i, i < 11 → Cond.arrayOf (.field (xb_tm i) "java/lang/String" "value" "[B") .byte ∈ flatC xb_gv := by decide +kernel
theorem xb_le : ∀ i, i < 11 → Cond.eq (.length (.field (xb_tm i) "java/lang/String" "value" "[B")) (.int (Int32.ofNat (xk_lens.getD i 0))) ∈ flatC xb_gv := by decide +kernel
theorem xb_el : ∀ i, i < 11 → ∀ j, j < xk_lens.getD i 0 → Cond.eq (.elem (.field (xb_tm i) "java/lang/String" "value" "[B") (.int (Int32.ofNat j))) (.int ((xk_bytes.getD i []).getD j 0)) ∈ flatC xb_gv := by decide +kernel
theorem xb_ne : ∀ i, i < 11 → ∀ j, j < 11 → i ≠ j → Cond.not (Cond.eq (xb_tm i) (xb_tm j)) ∈ flatC xb_gv ∨ Cond.not (Cond.eq (xb_tm j) (xb_tm i)) ∈ flatC xb_gv := by decide +kernel
theorem xb_t1 : ∀ j, j < 6 → Cond.eq (.elem (.static RX4 "KIND_ABOVE" "[I") (.int (Int32.ofNat j))) (.int (xk_above.getD j 0)) ∈ flatC xb_gv := by decide +kernel
theorem xb_t2 : ∀ j, j < 11 → Cond.eq (.elem (.static RX3 "NUMBERS" "[I") (.int (Int32.ofNat j))) (.int (xk_nums.getD j 0)) ∈ flatC xb_gv := by decide +kernel
theorem xb_nest : ∀ w ∈ xk_nest, w ∈ lw_tbl := by decide +kernel
theorem xb_nestI : ∀ w ∈ xk_nestI, w ∈ lw_tbl := by decide +kernel
theorem xb_nestT : ∀ w ∈ xk_nest ++ xk_nestI, w.onTables = true := by decide +kernel
theorem xb_sr : ∀ i, i < 11 → Cond.stringRef RX3 (xk_words.getD i (0, "")).1 (xk_words.getD i (0, "")).2 ∈ lw_tbl := by decide +kernel
theorem xb_const {s : State} {b : Nat} (hts : ∀ w ∈ lw_tbl, w.before #[Value.ref b] s = true) (hgv : (Jvm.Cond.and given_1 narrow_1).before #[Value.ref b] s = true) : ∃ ad : Nat → Nat, ad 110 = b ∧ xg_K ad (fun q => s.heap.size ≤ q) s s.heap ∧ xg_N ad s ∧ xb_NI s := by
  have hs : ∀ c ∈ flatC xb_gv, c.before #[Value.ref b] s = true := flat_of_before _ hgv
  have hA : ∀ a : Nat, a < s.heap.size → ¬ (fun q => s.heap.size ≤ q) a := fun a h => Nat.not_le.mpr h
  obtain ⟨t1, e1, hT1⟩ := va_Tof (tm := .static RX4 "KIND_ABOVE" "[I") (ty := .int) (N := 6) (f := fun j => .int (xk_above.getD j 0)) (A := fun q => s.heap.size ≤ q) (by decide) (hs (.arrayOf (.static RX4 "KIND_ABOVE" "[I") .int) (by decide +kernel)) (va_eqt (hs (.eq (.length (.static RX4 "KIND_ABOVE" "[I")) (.int (Int32.ofNat 6))) (by decide +kernel))) (fun j hj => va_eqt (hs _ (xb_t1 j hj))) hA
  obtain ⟨t2, e2, hT2⟩ := va_Tof (tm := .static RX3 "NUMBERS" "[I") (ty := .int) (N := 11) (f := fun j => .int (xk_nums.getD j 0)) (A := fun q => s.heap.size ≤ q) (by decide) (hs (.arrayOf (.static RX3 "NUMBERS" "[I") .int) (by decide +kernel)) (va_eqt (hs (.eq (.length (.static RX3 "NUMBERS" "[I")) (.int (Int32.ofNat 11))) (by decide +kernel))) (fun j hj => va_eqt (hs _ (xb_t2 j hj))) hA
  have hZ1 := va_Zref (hts (.laysStatic RX4 "KIND_ABOVE" "[I") (List.mem_of_getElem? (i := 456) (by decide +kernel))) (hts (.initialized RX4) (List.mem_of_getElem? (i := 58) (by decide +kernel))) e1 hA
  have hZ2 := va_Zref (hts (.laysStatic RX3 "NUMBERS" "[I") (List.mem_of_getElem? (i := 387) (by decide +kernel))) (hts (.initialized RX3) (List.mem_of_getElem? (i := 60) (by decide +kernel))) e2 hA
  have hZ3 := va_Zof (hts (.laysStatic RJ0 "COMPACT_STRINGS" "Z") (List.mem_of_getElem? (i := 347) (by decide +kernel))) (hts (.initialized RJ0) (List.mem_of_getElem? (i := 64) (by decide +kernel))) (va_eqt (z := 1) (hs (.eq (.static RJ0 "COMPACT_STRINGS" "Z") (.int 1)) (by decide +kernel))) hA
  obtain ⟨aK, aV, hSS, hev⟩ := vk_Sof (N := 11) (tm := xb_tm) (len := xk_lens) (byt := xk_bytes) (A := fun q => s.heap.size ≤ q) (by decide) (fun i hi => hs _ (xb_ex i hi)) (fun i hi => hs _ (xb_co i hi)) (fun i hi => hs _ (xb_ar i hi)) (fun i hi => hs _ (xb_le i hi)) (fun i hi j hj => hs _ (xb_el i hi j hj)) (fun i j hi hj hn => (xb_ne i hi j hj hn).imp (hs _) (hs _)) hA
  have hZ4 := va_Zqof (A := fun q => s.heap.size ≤ q) (hts (.laysStatic RJ3 "SIOOBE_FORMATTER" "Ljava/util/function/BiFunction;") (List.mem_of_getElem? (i := 363) (by decide +kernel))) (hts (.initialized RJ3) (List.mem_of_getElem? (i := 66) (by decide +kernel))) (hs (.isRef (.static RJ3 "SIOOBE_FORMATTER" "Ljava/util/function/BiFunction;")) (by decide +kernel)) hA
  obtain ⟨t3, hZ5⟩ : ∃ t3 : Nat, va_Z RJ3 "SIOOBE_FORMATTER" "Ljava/util/function/BiFunction;" .null (fun q => s.heap.size ≤ q) s s.heap ∨ va_Z RJ3 "SIOOBE_FORMATTER" "Ljava/util/function/BiFunction;" (.ref t3) (fun q => s.heap.size ≤ q) s s.heap := by
    rcases hZ4 with h | ⟨t, h⟩
    · exact ⟨0, Or.inl h⟩
    · exact ⟨t, Or.inr h⟩
  obtain ⟨ad, a1, a2, a3, a4, a5, a6⟩ : ∃ ad : Nat → Nat, ad 60 = t1 ∧ ad 61 = t2 ∧ ad 110 = b ∧ ad 120 = t3 ∧ (∀ i, i < 11 → ad (70 + i) = aK i) ∧ ∀ i, i < 11 → ad (90 + i) = aV i :=
    ⟨fun a => if a = 60 then t1 else if a = 61 then t2 else if a = 110 then b else if a = 120 then t3 else if a < 90 then aK (a - 70) else aV (a - 90), rfl, rfl, rfl, rfl, fun i hi => by
      show (if 70 + i = 60 then t1 else if 70 + i = 61 then t2 else if 70 + i = 110 then b else if 70 + i = 120 then t3 else if 70 + i < 90 then aK (70 + i - 70) else aV (70 + i - 90)) = aK i
      rw [if_neg (by omega), if_neg (by omega), if_neg (by omega), if_neg (by omega), if_pos (by omega), show 70 + i - 70 = i by omega], fun i hi => by
      show (if 90 + i = 60 then t1 else if 90 + i = 61 then t2 else if 90 + i = 110 then b else if 90 + i = 120 then t3 else if 90 + i < 90 then aK (90 + i - 70) else aV (90 + i - 90)) = aV i
      rw [if_neg (by omega), if_neg (by omega), if_neg (by omega), if_neg (by omega), if_neg (by omega), show 90 + i - 90 = i by omega]⟩
  refine ⟨ad, a3, ⟨?_, ?_, ?_, ?_, hZ3, xb_Sc hSS a5 a6, ?_⟩, ⟨fun w hw => va_Nw.of (xb_nestT w (List.mem_append_left _ hw)) (hts w (xb_nest w hw)), fun i hi => ?_⟩, fun w hw => va_Nw.of (xb_nestT w (List.mem_append_right _ hw)) (hts w (xb_nestI w hw))⟩
  · rw [a1]; exact hZ1
  · rw [a1]; exact hT1
  · rw [a2]; exact hZ2
  · rw [a2]; exact hT2
  · rw [a4]; exact hZ5
  · rw [a5 i hi]
    exact vk_R.of (hts _ (xb_sr i hi)) (hev i hi)
theorem xb_known {s : State} {args : Array Value} (hts : ∀ w ∈ lw_tbl, w.before args s = true) : ∃ (G : va_G) (cA : Nat → ClassId), va_K G vwCl (xg_tys cA) s ∧ va_AO RX1 s := by
  have htg : ∀ w ∈ xg_tb, w.before args s = true := fun w hw => hts w (xg_tb_in hw)
  obtain ⟨c0, i0, k0⟩ := u_known (C := RX0) (T := TX0) (N := 9) htg inb_X0 (htg (.instantiable RX0 9) (xg_mi 79 (by decide +kernel) (by decide +kernel)))
  obtain ⟨c1, i1, k1⟩ := u_known (C := RX1) (T := TX1) (N := 6) htg inb_X1 (htg (.instantiable RX1 6) (xg_mi 167 (by decide +kernel) (by decide +kernel)))
  obtain ⟨c2, i2, k2⟩ := u_known (C := RX2) (T := TX2) (N := 5) htg inb_X2 (htg (.instantiable RX2 5) (xg_mi 202 (by decide +kernel) (by decide +kernel)))
  obtain ⟨c3, i3, k3⟩ := u_known (C := RX3) (T := TX3) (N := 6) htg inb_X3 (htg (.instantiable RX3 6) (xg_mi 139 (by decide +kernel) (by decide +kernel)))
  obtain ⟨c4, i4, k4⟩ := u_known (C := RX4) (T := TX4) (N := 17) htg inb_X4 (htg (.instantiable RX4 17) (xg_mi 71 (by decide +kernel) (by decide +kernel)))
  obtain ⟨c5, i5, k5⟩ := u_known (C := RX5) (T := TX5) (N := 33) htg inb_X5 (htg (.instantiable RX5 33) (xg_mi 694 (by decide +kernel) (by decide +kernel)))
  obtain ⟨cI, kI, mI, f1, f2, f3⟩ := Cond.arrayClass_spec (hts (.arrayClass .int) (List.mem_of_getElem? (i := 137) (by decide +kernel)))
  obtain ⟨cZ, kZ, mZ, g1, g2, g3⟩ := Cond.arrayClass_spec (hts (.arrayClass .boolean) (List.mem_of_getElem? (i := 807) (by decide +kernel)))
  have hO := hts (.arrayOver (.object RX1)) (List.mem_of_getElem? (i := 200) (by decide +kernel))
  obtain ⟨mQ, cQ, kQ, o1, o2, o3, o4, o5⟩ := Cond.arrayOver_spec hO
  refine ⟨(fun c => [c0, c1, c2, c3, c4, c5].getD c c0, fun c => [i0, i1, i2, i3, i4, i5].getD c i0), fun k => [cI, cZ, cQ].getD k cI, ⟨fun c q h => ?_, fun k q h => ?_⟩, va_AO.of hO⟩
  · match c, h with
    | 0, h => cases h; exact k0
    | 1, h => cases h; exact k1
    | 2, h => cases h; exact k2
    | 3, h => cases h; exact k3
    | 4, h => cases h; exact k4
    | 5, h => cases h; exact k5
    | n + 6, h => cases h
  · match k, h with
    | 0, h => cases h; exact ⟨fun n z => ⟨fun k h => (by cases h), kI, f2, mI, f3⟩, f1⟩
    | 1, h => cases h; exact ⟨fun n z => ⟨fun k h => (by cases h), kZ, g2, mZ, g3⟩, g1⟩
    | 2, h => cases h; exact ⟨fun n z => ⟨fun k h => (by cases h), kQ, o3, mQ, o4⟩, kQ, mQ, o3, o4, o1, o5⟩
    | n + 3, h => cases h

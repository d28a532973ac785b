/-! ===== what holds at the law's start ===== -/
theorem lw_lay {ci N : Nat} {C : String} {T : u_T} (h : ax_cl[ci]? = some (C, T, N)) : ∀ w ∈ u_ws C T N, w ∈ lw_tbl := fun w hw => (List.mem_filter.mp (ax_lay h w hw)).1
theorem lw_AT {s : State} {args : Array Value} {ty : FieldType} (h : (Cond.arrayClass ty).before args s = true) (hty : ty = .int ∨ ty = .byte) : ∃ cA : ClassId, ArrOfT s cA ty ∧ va_RA s cA ty := by
  obtain ⟨cA, kA, comp, hf, hk, hkind⟩ := Cond.arrayClass_spec h
  refine ⟨cA, fun n z => ⟨fun k h => (by cases h), kA, hk, comp, hkind⟩, ?_⟩
  rcases hty with rfl | rfl <;> exact hf
theorem lw_AR {s : State} {args : Array Value} {C : String} (h : (Cond.arrayOver (.object C)).before args s = true) : ∃ cA : ClassId, ArrOfT s cA (.object C) ∧ va_RA s cA (.object C) := by
  obtain ⟨comp, cA, kA, h1, -, h3, h4, h5⟩ := Cond.arrayOver_spec h
  exact ⟨cA, fun n z => ⟨fun k h => (by cases h), kA, h3, comp, h4⟩, kA, comp, h3, h4, h1, h5⟩
theorem lw_nestT {w : Cond} (h : ax_nest w = true) : w.onTables = true := by
  cases w <;> first | rfl | (simp [ax_nest] at h)
theorem lw_tin {w : Cond} (h : lw_tbl.contains w = true) : w ∈ lw_tbl := by simpa using h
set_option maxRecDepth 100000 in
set_option maxHeartbeats 4000000 in
theorem lw_ctx {s : State} {args : Array Value} (hts : ∀ w ∈ lw_tbl, w.before args s = true) (hgv : (Jvm.Cond.and given_1 narrow_1).before args s = true) (ρ : Nat → Int32) (b : Nat) :
    ∃ G : ax_T, G.2.1 = s.heap.size ∧ G.2.2.1 = s.heap ∧ G.2.2.2.1 = ρ ∧ G.2.2.2.2.1 2 = b ∧ ax_X G s := by
  obtain ⟨c0, iS0, hKn0⟩ := u_known (C := RX0) (T := TX0) (N := 6) (n := 6) hts (lw_lay (ci := 0) rfl) (hts (.instantiable RX0 6) (List.mem_of_getElem? (i := 280) (by decide +kernel)))
  obtain ⟨c1, iS1, hKn1⟩ := u_known (C := RX1) (T := TX1) (N := 3) (n := 3) hts (lw_lay (ci := 1) rfl) (hts (.instantiable RX1 3) (List.mem_of_getElem? (i := 225) (by decide +kernel)))
  obtain ⟨c2, iS2, hKn2⟩ := u_known (C := RX2) (T := TX2) (N := 12) (n := 12) hts (lw_lay (ci := 2) rfl) (hts (.instantiable RX2 12) (List.mem_of_getElem? (i := 351) (by decide +kernel)))
  obtain ⟨c3, iS3, hKn3⟩ := u_known (C := RX3) (T := TX3) (N := 3) (n := 3) hts (lw_lay (ci := 3) rfl) (hts (.instantiable RX3 3) (List.mem_of_getElem? (i := 402) (by decide +kernel)))
  obtain ⟨c4, iS4, hKn4⟩ := u_known (C := RX4) (T := TX4) (N := 2) (n := 2) hts (lw_lay (ci := 4) rfl) (hts (.instantiable RX4 2) (List.mem_of_getElem? (i := 143) (by decide +kernel)))
  obtain ⟨c5, iS5, hKn5⟩ := u_known (C := RX5) (T := TX5) (N := 2) (n := 2) hts (lw_lay (ci := 5) rfl) (hts (.instantiable RX5 2) (List.mem_of_getElem? (i := 200) (by decide +kernel)))
  obtain ⟨c6, iS6, hKn6⟩ := u_known (C := RX5) (T := TX5) (N := 2) (n := 2) hts (lw_lay (ci := 6) rfl) (hts (.instantiable RX5 2) (List.mem_of_getElem? (i := 200) (by decide +kernel)))
  obtain ⟨c7, iS7, hKn7⟩ := u_known (C := RX7) (T := TX7) (N := 9) (n := 9) hts (lw_lay (ci := 7) rfl) (hts (.instantiable RX7 9) (List.mem_of_getElem? (i := 309) (by decide +kernel)))
  obtain ⟨c8, iS8, hKn8⟩ := u_known (C := RX8) (T := TX8) (N := 4) (n := 4) hts (lw_lay (ci := 8) rfl) (hts (.instantiable RX8 4) (List.mem_of_getElem? (i := 172) (by decide +kernel)))
  obtain ⟨c9, iS9, hKn9⟩ := u_known (C := RX9) (T := TX9) (N := 10) (n := 10) hts (lw_lay (ci := 9) rfl) (hts (.instantiable RX9 10) (List.mem_of_getElem? (i := 166) (by decide +kernel)))
  obtain ⟨c10, iS10, hKn10⟩ := u_known (C := RX10) (T := TX10) (N := 11) (n := 11) hts (lw_lay (ci := 10) rfl) (hts (.instantiable RX10 11) (List.mem_of_getElem? (i := 135) (by decide +kernel)))
  obtain ⟨c11, iS11, hKn11⟩ := u_known (C := RX11) (T := TX11) (N := 48) (n := 48) hts (lw_lay (ci := 11) rfl) (hts (.instantiable RX11 48) (List.mem_of_getElem? (i := 1113) (by decide +kernel)))
  obtain ⟨t0, hA0, hB0⟩ := lw_AT (hts (.arrayClass .int) (List.mem_of_getElem? (i := 160) (by decide +kernel))) (Or.inl rfl)
  obtain ⟨t1, hA1, hB1⟩ := lw_AT (hts (.arrayClass .byte) (List.mem_of_getElem? (i := 587) (by decide +kernel))) (Or.inr rfl)
  have hov2 := hts (.arrayOver (.object "LetterSums$Row")) (List.mem_of_getElem? (i := 164) (by decide +kernel))
  have hov3 := hts (.arrayOver (.object "LetterSums$Custom")) (List.mem_of_getElem? (i := 162) (by decide +kernel))
  have hov4 := hts (.arrayOver (.object "LetterSums$Mason")) (List.mem_of_getElem? (i := 349) (by decide +kernel))
  obtain ⟨t2, hA2, hB2⟩ := lw_AR hov2
  obtain ⟨t3, hA3, hB3⟩ := lw_AR hov3
  obtain ⟨t4, hA4, hB4⟩ := lw_AR hov4
  have hs := flat_of_before _ hgv
  have hnA : ∀ a : Nat, a < s.heap.size → ¬ (fun q : Nat => s.heap.size ≤ q) a := fun a h => Nat.not_le.mpr h
  have hcmp := hs (.eq (.static "java/lang/String" "COMPACT_STRINGS" "Z") (.int 1)) (by decide +kernel)
  have hZs : va_Z "java/lang/String" "COMPACT_STRINGS" "Z" (.int 1) (fun q => s.heap.size ≤ q) s s.heap := va_Zof (hts _ (lw_tin (w := Cond.laysStatic "java/lang/String" "COMPACT_STRINGS" "Z") (by decide +kernel))) (hts _ (lw_tin (w := Cond.initialized "java/lang/String") (by decide +kernel))) (va_eqi hcmp) hnA
  obtain ⟨adK, adV, hvS, hvE⟩ := vk_Sof (args := args) (s := s) (N := 1) (tm := fun _ => .string "LetterSums" 314) (len := [14]) (byt := [sx_L]) (A := fun q => s.heap.size ≤ q) (fun i hi => by
      obtain rfl : i = 0 := by omega
      decide) (fun i hi => hs (.exactly (.string "LetterSums" 314) "java/lang/String") (by decide +kernel)) (fun i hi => hs (.eq (.field (.string "LetterSums" 314) "java/lang/String" "coder" "B") (.int 0)) (by decide +kernel))
    (fun i hi => hs (.arrayOf (.field (.string "LetterSums" 314) "java/lang/String" "value" "[B") .byte) (by decide +kernel)) (fun i hi => by
      obtain rfl : i = 0 := by omega
      exact hs (.eq (.length (.field (.string "LetterSums" 314) "java/lang/String" "value" "[B")) (.int 14)) (by decide +kernel))
    (fun i hi j hj => by
      obtain rfl : i = 0 := by omega
      have hj' : j < 14 := hj
      match j, hj' with
      | 0, _ => exact hs (.eq (.elem (.field (.string "LetterSums" 314) "java/lang/String" "value" "[B") (.int 0)) (.int 73)) (by decide +kernel)
      | 1, _ => exact hs (.eq (.elem (.field (.string "LetterSums" 314) "java/lang/String" "value" "[B") (.int 1)) (.int 86)) (by decide +kernel)
      | 2, _ => exact hs (.eq (.elem (.field (.string "LetterSums" 314) "java/lang/String" "value" "[B") (.int 2)) (.int 88)) (by decide +kernel)
      | 3, _ => exact hs (.eq (.elem (.field (.string "LetterSums" 314) "java/lang/String" "value" "[B") (.int 3)) (.int 76)) (by decide +kernel)
      | 4, _ => exact hs (.eq (.elem (.field (.string "LetterSums" 314) "java/lang/String" "value" "[B") (.int 4)) (.int 67)) (by decide +kernel)
      | 5, _ => exact hs (.eq (.elem (.field (.string "LetterSums" 314) "java/lang/String" "value" "[B") (.int 5)) (.int 68)) (by decide +kernel)
      | 6, _ => exact hs (.eq (.elem (.field (.string "LetterSums" 314) "java/lang/String" "value" "[B") (.int 6)) (.int 77)) (by decide +kernel)
      | 7, _ => exact hs (.eq (.elem (.field (.string "LetterSums" 314) "java/lang/String" "value" "[B") (.int 7)) (.int 105)) (by decide +kernel)
      | 8, _ => exact hs (.eq (.elem (.field (.string "LetterSums" 314) "java/lang/String" "value" "[B") (.int 8)) (.int 118)) (by decide +kernel)
      | 9, _ => exact hs (.eq (.elem (.field (.string "LetterSums" 314) "java/lang/String" "value" "[B") (.int 9)) (.int 120)) (by decide +kernel)
      | 10, _ => exact hs (.eq (.elem (.field (.string "LetterSums" 314) "java/lang/String" "value" "[B") (.int 10)) (.int 108)) (by decide +kernel)
      | 11, _ => exact hs (.eq (.elem (.field (.string "LetterSums" 314) "java/lang/String" "value" "[B") (.int 11)) (.int 99)) (by decide +kernel)
      | 12, _ => exact hs (.eq (.elem (.field (.string "LetterSums" 314) "java/lang/String" "value" "[B") (.int 12)) (.int 100)) (by decide +kernel)
      | 13, _ => exact hs (.eq (.elem (.field (.string "LetterSums" 314) "java/lang/String" "value" "[B") (.int 13)) (.int 109)) (by decide +kernel)) (fun i j hi hj hij => absurd (show i = j by omega) hij) hnA
  obtain ⟨sx1, sx2, sx3, sx4⟩ := hvS.1 0 (by decide)
  have hSX : ∃ sa va : Nat, vk_R "LetterSums" 314 "IVXLCDMivxlcdm" sa s ∧ va_Z "java/lang/String" "COMPACT_STRINGS" "Z" (.int 1) (fun q => s.heap.size ≤ q) s s.heap ∧ va_O "java/lang/String" sa (fun q => s.heap.size ≤ q) s s.heap ∧ va_OF "java/lang/String" "coder" "B" (.int 0) sa (fun q => s.heap.size ≤ q) s s.heap ∧ va_OF "java/lang/String" "value" "[B" (.ref va) sa (fun q => s.heap.size ≤ q) s s.heap ∧ va_T .byte va 14 (fun j => .int (sx_L.getD j 0)) (fun q => s.heap.size ≤ q) s s.heap :=
    ⟨adK 0, adV 0, vk_R.of (hts _ (lw_tin (w := Cond.stringRef "LetterSums" 314 "IVXLCDMivxlcdm") (by decide +kernel))) (hvE 0 (by decide)), hZs, sx1, sx2, sx3, sx4⟩
  have hel_w : ∀ j : Nat, j < 14 → (Term.elem (.static "LetterSums" "WORTH" "[I") (.int (Int32.ofNat j))).eval args s none [] s = some (.int (([1, 5, 10, 50, 100, 500, 1000, 1000, 5000, 10000, 50000, 100000, 500000, 1000000] : List Int32).getD j 0)) := by
    intro j hj
    match j, hj with
    | 0, _ => exact va_eqt (z := 1) (hs (.eq (.elem (.static "LetterSums" "WORTH" "[I") (.int 0)) (.int 1)) (by decide +kernel))
    | 1, _ => exact va_eqt (z := 5) (hs (.eq (.elem (.static "LetterSums" "WORTH" "[I") (.int 1)) (.int 5)) (by decide +kernel))
    | 2, _ => exact va_eqt (z := 10) (hs (.eq (.elem (.static "LetterSums" "WORTH" "[I") (.int 2)) (.int 10)) (by decide +kernel))
    | 3, _ => exact va_eqt (z := 50) (hs (.eq (.elem (.static "LetterSums" "WORTH" "[I") (.int 3)) (.int 50)) (by decide +kernel))
    | 4, _ => exact va_eqt (z := 100) (hs (.eq (.elem (.static "LetterSums" "WORTH" "[I") (.int 4)) (.int 100)) (by decide +kernel))
    | 5, _ => exact va_eqt (z := 500) (hs (.eq (.elem (.static "LetterSums" "WORTH" "[I") (.int 5)) (.int 500)) (by decide +kernel))
    | 6, _ => exact va_eqt (z := 1000) (hs (.eq (.elem (.static "LetterSums" "WORTH" "[I") (.int 6)) (.int 1000)) (by decide +kernel))
    | 7, _ => exact va_eqt (z := 1000) (hs (.eq (.elem (.static "LetterSums" "WORTH" "[I") (.int 7)) (.int 1000)) (by decide +kernel))
    | 8, _ => exact va_eqt (z := 5000) (hs (.eq (.elem (.static "LetterSums" "WORTH" "[I") (.int 8)) (.int 5000)) (by decide +kernel))
    | 9, _ => exact va_eqt (z := 10000) (hs (.eq (.elem (.static "LetterSums" "WORTH" "[I") (.int 9)) (.int 10000)) (by decide +kernel))
    | 10, _ => exact va_eqt (z := 50000) (hs (.eq (.elem (.static "LetterSums" "WORTH" "[I") (.int 10)) (.int 50000)) (by decide +kernel))
    | 11, _ => exact va_eqt (z := 100000) (hs (.eq (.elem (.static "LetterSums" "WORTH" "[I") (.int 11)) (.int 100000)) (by decide +kernel))
    | 12, _ => exact va_eqt (z := 500000) (hs (.eq (.elem (.static "LetterSums" "WORTH" "[I") (.int 12)) (.int 500000)) (by decide +kernel))
    | 13, _ => exact va_eqt (z := 1000000) (hs (.eq (.elem (.static "LetterSums" "WORTH" "[I") (.int 13)) (.int 1000000)) (by decide +kernel))
    | j + 14, h => exact absurd h (by omega)
  obtain ⟨a_w, hv_w, hT_w⟩ := va_Tof (N := 14) (f := fun j => .int (([1, 5, 10, 50, 100, 500, 1000, 1000, 5000, 10000, 50000, 100000, 500000, 1000000] : List Int32).getD j 0)) (A := fun q : Nat => s.heap.size ≤ q) (by decide) (hs (.arrayOf (.static "LetterSums" "WORTH" "[I") .int) (by decide +kernel)) (va_eqt (z := 14) (hs (.eq (.length (.static "LetterSums" "WORTH" "[I")) (.int 14)) (by decide +kernel))) hel_w hnA
  have hZ_w := va_Zof (hts (.laysStatic "LetterSums" "WORTH" "[I") (List.mem_of_getElem? (i := 178) (by decide +kernel))) (hts (.initialized "LetterSums") (List.mem_of_getElem? (i := 116) (by decide +kernel))) hv_w hnA
  have hel_u : ∀ j : Nat, j < 6 → (Term.elem (.static "LetterSums$Abacus" "BUNDLE" "[I") (.int (Int32.ofNat j))).eval args s none [] s = some (.int (([5, 2, 5, 2, 5, 2] : List Int32).getD j 0)) := by
    intro j hj
    match j, hj with
    | 0, _ => exact va_eqt (z := 5) (hs (.eq (.elem (.static "LetterSums$Abacus" "BUNDLE" "[I") (.int 0)) (.int 5)) (by decide +kernel))
    | 1, _ => exact va_eqt (z := 2) (hs (.eq (.elem (.static "LetterSums$Abacus" "BUNDLE" "[I") (.int 1)) (.int 2)) (by decide +kernel))
    | 2, _ => exact va_eqt (z := 5) (hs (.eq (.elem (.static "LetterSums$Abacus" "BUNDLE" "[I") (.int 2)) (.int 5)) (by decide +kernel))
    | 3, _ => exact va_eqt (z := 2) (hs (.eq (.elem (.static "LetterSums$Abacus" "BUNDLE" "[I") (.int 3)) (.int 2)) (by decide +kernel))
    | 4, _ => exact va_eqt (z := 5) (hs (.eq (.elem (.static "LetterSums$Abacus" "BUNDLE" "[I") (.int 4)) (.int 5)) (by decide +kernel))
    | 5, _ => exact va_eqt (z := 2) (hs (.eq (.elem (.static "LetterSums$Abacus" "BUNDLE" "[I") (.int 5)) (.int 2)) (by decide +kernel))
    | j + 6, h => exact absurd h (by omega)
  obtain ⟨a_u, hv_u, hT_u⟩ := va_Tof (N := 6) (f := fun j => .int (([5, 2, 5, 2, 5, 2] : List Int32).getD j 0)) (A := fun q : Nat => s.heap.size ≤ q) (by decide) (hs (.arrayOf (.static "LetterSums$Abacus" "BUNDLE" "[I") .int) (by decide +kernel)) (va_eqt (z := 6) (hs (.eq (.length (.static "LetterSums$Abacus" "BUNDLE" "[I")) (.int 6)) (by decide +kernel))) hel_u hnA
  have hZ_u := va_Zof (hts (.laysStatic "LetterSums$Abacus" "BUNDLE" "[I") (List.mem_of_getElem? (i := 826) (by decide +kernel))) (hts (.initialized "LetterSums$Abacus") (List.mem_of_getElem? (i := 123) (by decide +kernel))) hv_u hnA
  refine ⟨((fun k => match k with | 0 => c0 | 1 => c1 | 2 => c2 | 3 => c3 | 4 => c4 | 5 => c5 | 6 => c6 | 7 => c7 | 8 => c8 | 9 => c9 | 10 => c10 | _ => c11, fun k => match k with | 0 => iS0 | 1 => iS1 | 2 => iS2 | 3 => iS3 | 4 => iS4 | 5 => iS5 | 6 => iS6 | 7 => iS7 | 8 => iS8 | 9 => iS9 | 10 => iS10 | _ => iS11), s.heap.size, s.heap, ρ, (fun j => match j with | 0 => a_w | 1 => a_u | _ => b), [(t0, .int), (t1, .byte), (t2, .object "LetterSums$Row"), (t3, .object "LetterSums$Custom"), (t4, .object "LetterSums$Mason")]), rfl, rfl, rfl, rfl, ⟨?_, ?_⟩, ?_, ?_, ?_, rfl⟩
  · intro k q hq
    match k, hq with
    | 0, hq => cases hq; exact hKn0
    | 1, hq => cases hq; exact hKn1
    | 2, hq => cases hq; exact hKn2
    | 3, hq => cases hq; exact hKn3
    | 4, hq => cases hq; exact hKn4
    | 5, hq => cases hq; exact hKn5
    | 6, hq => cases hq; exact hKn6
    | 7, hq => cases hq; exact hKn7
    | 8, hq => cases hq; exact hKn8
    | 9, hq => cases hq; exact hKn9
    | 10, hq => cases hq; exact hKn10
    | 11, hq => cases hq; exact hKn11
    | k + 12, hq => simp [ax_cl] at hq
  · intro k q hq
    match k, hq with
    | 0, hq => cases hq; exact ⟨hA0, hB0⟩
    | 1, hq => cases hq; exact ⟨hA1, hB1⟩
    | 2, hq => cases hq; exact ⟨hA2, hB2⟩
    | 3, hq => cases hq; exact ⟨hA3, hB3⟩
    | 4, hq => cases hq; exact ⟨hA4, hB4⟩
    | k + 5, hq => simp at hq
  · exact fun w hw hn => va_Nw.of (lw_nestT hn) (hts w hw)
  · exact ⟨va_AO.of hov2, va_AO.of hov3, va_AO.of hov4, hSX⟩
  · intro j z hz
    match j, hz with
    | 0, hz => cases hz; exact ⟨hZ_w, hT_w⟩
    | 1, hz => cases hz; exact ⟨hZ_u, hT_u⟩
    | j + 2, hz => simp [ax_st] at hz

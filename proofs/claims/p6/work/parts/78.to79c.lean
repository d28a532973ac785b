section
/-! ===== what holds at the law's start ===== -/
theorem lw_lay {ci N : Nat} {C : String} {T : u_T} (h : ax_cl[ci]? = some (C, T, N)) : ∀ w ∈ u_ws C T N, w ∈ lw_tbl := fun w hw => (List.mem_filter.mp (ax_lay h w hw)).1
theorem lw_AT {s : State} {args : Array Value} {ty : FieldType} (h : (Cond.arrayClass ty).before args s = true) (hty : ty = .int ∨ ty = .byte) : ∃ cA : ClassId, ArrOfT s cA ty ∧ va_RA s cA ty := by
  obtain ⟨cA, kA, comp, hf, hk, hkind⟩ := Cond.arrayClass_spec h
  refine ⟨cA, fun n z => ⟨fun k h => (by cases h), kA, hk, comp, hkind⟩, ?_⟩
  rcases hty with rfl | rfl <;> exact hf
theorem lw_AR {s : State} {args : Array Value} {C : String} (h : (Cond.arrayOver (.object C)).before args s = true) : ∃ cA : ClassId, ArrOfT s cA (.object C) ∧ va_RA s cA (.object C) := by
  obtain ⟨comp, cA, kA, h1, -, h3, h4, h5⟩ := Cond.arrayOver_spec h
  exact ⟨cA, fun n z => ⟨fun k h => (by cases h), kA, h3, comp, h4⟩, kA, comp, h3, h4, h1, h5⟩
theorem lw_nestT {w : Cond} (h : ax_nest w = true) : w.onTables = true := by
  cases w <;> first | rfl | (simp [ax_nest] at h)
theorem lw_tin {w : Cond} (h : lw_tbl.contains w = true) : w ∈ lw_tbl := by simpa using h
set_option maxRecDepth 100000 in
set_option maxHeartbeats 4000000 in
theorem lw_ctx {s : State} {args : Array Value} (hts : ∀ w ∈ lw_tbl, w.before args s = true) (hgv : (Jvm.Cond.and given_1 narrow_1).before args s = true) (ρ : Nat → Int32) (b : Nat) :
    ∃ G : ax_T, G.2.1 = s.heap.size ∧ G.2.2.1 = s.heap ∧ G.2.2.2.1 = ρ ∧ G.2.2.2.2.1 2 = b ∧ ax_X G s := by
  obtain ⟨c0, iS0, hKn0⟩ := u_known (C := RX0) (T := TX0) (N := 6) (n := 6) hts (lw_lay (ci := 0) rfl) (hts (.instantiable RX0 6) (List.mem_of_getElem? (i := 280) (by decide +kernel)))
  obtain ⟨c1, iS1, hKn1⟩ := u_known (C := RX1) (T := TX1) (N := 3) (n := 3) hts (lw_lay (ci := 1) rfl) (hts (.instantiable RX1 3) (List.mem_of_getElem? (i := 225) (by decide +kernel)))
  obtain ⟨c2, iS2, hKn2⟩ := u_known (C := RX2) (T := TX2) (N := 12) (n := 12) hts (lw_lay (ci := 2) rfl) (hts (.instantiable RX2 12) (List.mem_of_getElem? (i := 351) (by decide +kernel)))
  obtain ⟨c3, iS3, hKn3⟩ := u_known (C := RX3) (T := TX3) (N := 3) (n := 3) hts (lw_lay (ci := 3) rfl) (hts (.instantiable RX3 3) (List.mem_of_getElem? (i := 402) (by decide +kernel)))
  obtain ⟨c4, iS4, hKn4⟩ := u_known (C := RX4) (T := TX4) (N := 2) (n := 2) hts (lw_lay (ci := 4) rfl) (hts (.instantiable RX4 2) (List.mem_of_getElem? (i := 143) (by decide +kernel)))
  obtain ⟨c5, iS5, hKn5⟩ := u_known (C := RX5) (T := TX5) (N := 2) (n := 2) hts (lw_lay (ci := 5) rfl) (hts (.instantiable RX5 2) (List.mem_of_getElem? (i := 200) (by decide +kernel)))
  obtain ⟨c6, iS6, hKn6⟩ := u_known (C := RX5) (T := TX5) (N := 2) (n := 2) hts (lw_lay (ci := 6) rfl) (hts (.instantiable RX5 2) (List.mem_of_getElem? (i := 200) (by decide +kernel)))
  obtain ⟨c7, iS7, hKn7⟩ := u_known (C := RX7) (T := TX7) (N := 9) (n := 9) hts (lw_lay (ci := 7) rfl) (hts (.instantiable RX7 9) (List.mem_of_getElem? (i := 309) (by decide +kernel)))
  obtain ⟨c8, iS8, hKn8⟩ := u_known (C := RX8) (T := TX8) (N := 4) (n := 4) hts (lw_lay (ci := 8) rfl) (hts (.instantiable RX8 4) (List.mem_of_getElem? (i := 172) (by decide +kernel)))
  obtain ⟨c9, iS9, hKn9⟩ := u_known (C := RX9) (T := TX9) (N := 10) (n := 10) hts (lw_lay (ci := 9) rfl) (hts (.instantiable RX9 10) (List.mem_of_getElem? (i := 166) (by decide +kernel)))
  obtain ⟨c10, iS10, hKn10⟩ := u_known (C := RX10) (T := TX10) (N := 11) (n := 11) hts (lw_lay (ci := 10) rfl) (hts (.instantiable RX10 11) (List.mem_of_getElem? (i := 135) (by decide +kernel)))
  obtain ⟨c11, iS11, hKn11⟩ := u_known (C := RX11) (T := TX11) (N := 48) (n := 48) hts (lw_lay (ci := 11) rfl) (hts (.instantiable RX11 48) (List.mem_of_getElem? (i := 1113) (by decide +kernel)))
  obtain ⟨t0, hA0, hB0⟩ := lw_AT (hts (.arrayClass .int) (List.mem_of_getElem? (i := 160) (by decide +kernel))) (Or.inl rfl)
  obtain ⟨t1, hA1, hB1⟩ := lw_AT (hts (.arrayClass .byte) (List.mem_of_getElem? (i := 587) (by decide +kernel))) (Or.inr rfl)
  have hov2 := hts (.arrayOver (.object "LetterSums$Row")) (List.mem_of_getElem? (i := 164) (by decide +kernel))
  have hov3 := hts (.arrayOver (.object "LetterSums$Custom")) (List.mem_of_getElem? (i := 162) (by decide +kernel))
  have hov4 := hts (.arrayOver (.object "LetterSums$Mason")) (List.mem_of_getElem? (i := 349) (by decide +kernel))
  obtain ⟨t2, hA2, hB2⟩ := lw_AR hov2
  obtain ⟨t3, hA3, hB3⟩ := lw_AR hov3
  obtain ⟨t4, hA4, hB4⟩ := lw_AR hov4
  have hs := flat_of_before _ hgv
  have hnA : ∀ a : Nat, a < s.heap.size → ¬ (fun q : Nat => s.heap.size ≤ q) a := fun a h => Nat.not_le.mpr h
  have hcmp := hs (.eq (.static "java/lang/String" "COMPACT_STRINGS" "Z") (.int 1)) (by decide +kernel)
  have hZs : va_Z "java/lang/String" "COMPACT_STRINGS" "Z" (.int 1) (fun q => s.heap.size ≤ q) s s.heap := va_Zof (hts _ (lw_tin (w := Cond.laysStatic "java/lang/String" "COMPACT_STRINGS" "Z") (by decide +kernel))) (hts _ (lw_tin (w := Cond.initialized "java/lang/String") (by decide +kernel))) (va_eqi hcmp) hnA
  obtain ⟨adK, adV, hvS, hvE⟩ := vk_Sof (args := args) (s := s) (N := 1) (tm := fun _ => .string "LetterSums" 314) (len := [14]) (byt := [sx_L]) (A := fun q => s.heap.size ≤ q) (fun i hi => by
      obtain rfl : i = 0 := by omega
      decide) (fun i hi => hs (.exactly (.string "LetterSums" 314) "java/lang/String") (by decide +kernel)) (fun i hi => hs (.eq (.field (.string "LetterSums" 314) "java/lang/String" "coder" "B") (.int 0)) (by decide +kernel))
    (fun i hi => hs (.arrayOf (.field (.string "LetterSums" 314) "java/lang/String" "value" "[B") .byte) (by decide +kernel)) (fun i hi => by
      obtain rfl : i = 0 := by omega
      exact hs (.eq (.length (.field (.string "LetterSums" 314) "java/lang/String" "value" "[B")) (.int 14)) (by decide +kernel))
    (fun i hi j hj => by
      obtain rfl : i = 0 := by omega
      have hj' : j < 14 := hj
      match j, hj' with
      | 0, _ => exact hs (.eq (.elem (.field (.string "LetterSums" 314) "java/lang/String" "value" "[B") (.int 0)) (.int 73)) (by decide +kernel)
      | 1, _ => exact hs (.eq (.elem (.field (.string "LetterSums" 314) "java/lang/String" "value" "[B") (.int 1)) (.int 86)) (by decide +kernel)
      | 2, _ => exact hs (.eq (.elem (.field (.string "LetterSums" 314) "java/lang/String" "value" "[B") (.int 2)) (.int 88)) (by decide +kernel)
      | 3, _ => exact hs (.eq (.elem (.field (.string "LetterSums" 314) "java/lang/String" "value" "[B") (.int 3)) (.int 76)) (by decide +kernel)
      | 4, _ => exact hs (.eq (.elem (.field (.string "LetterSums" 314) "java/lang/String" "value" "[B") (.int 4)) (.int 67)) (by decide +kernel)
      | 5, _ => exact hs (.eq (.elem (.field (.string "LetterSums" 314) "java/lang/String" "value" "[B") (.int 5)) (.int 68)) (by decide +kernel)
      | 6, _ => exact hs (.eq (.elem (.field (.string "LetterSums" 314) "java/lang/String" "value" "[B") (.int 6)) (.int 77)) (by decide +kernel)
      | 7, _ => exact hs (.eq (.elem (.field (.string "LetterSums" 314) "java/lang/String" "value" "[B") (.int 7)) (.int 105)) (by decide +kernel)
      | 8, _ => exact hs (.eq (.elem (.field (.string "LetterSums" 314) "java/lang/String" "value" "[B") (.int 8)) (.int 118)) (by decide +kernel)
      | 9, _ => exact hs (.eq (.elem (.field (.string "LetterSums" 314) "java/lang/String" "value" "[B") (.int 9)) (.int 120)) (by decide +kernel)
      | 10, _ => exact hs (.eq (.elem (.field (.string "LetterSums" 314) "java/lang/String" "value" "[B") (.int 10)) (.int 108)) (by decide +kernel)
      | 11, _ => exact hs (.eq (.elem (.field (.string "LetterSums" 314) "java/lang/String" "value" "[B") (.int 11)) (.int 99)) (by decide +kernel)
      | 12, _ => exact hs (.eq (.elem (.field (.string "LetterSums" 314) "java/lang/String" "value" "[B") (.int 12)) (.int 100)) (by decide +kernel)
      | 13, _ => exact hs (.eq (.elem (.field (.string "LetterSums" 314) "java/lang/String" "value" "[B") (.int 13)) (.int 109)) (by decide +kernel)) (fun i j hi hj hij => absurd (show i = j by omega) hij) hnA
  obtain ⟨sx1, sx2, sx3, sx4⟩ := hvS.1 0 (by decide)
  have hSX : ∃ sa va : Nat, vk_R "LetterSums" 314 "IVXLCDMivxlcdm" sa s ∧ va_Z "java/lang/String" "COMPACT_STRINGS" "Z" (.int 1) (fun q => s.heap.size ≤ q) s s.heap ∧ va_O "java/lang/String" sa (fun q => s.heap.size ≤ q) s s.heap ∧ va_OF "java/lang/String" "coder" "B" (.int 0) sa (fun q => s.heap.size ≤ q) s s.heap ∧ va_OF "java/lang/String" "value" "[B" (.ref va) sa (fun q => s.heap.size ≤ q) s s.heap ∧ va_T .byte va 14 (fun j => .int (sx_L.getD j 0)) (fun q => s.heap.size ≤ q) s s.heap :=
    ⟨adK 0, adV 0, vk_R.of (hts _ (lw_tin (w := Cond.stringRef "LetterSums" 314 "IVXLCDMivxlcdm") (by decide +kernel))) (hvE 0 (by decide)), hZs, sx1, sx2, sx3, sx4⟩
  have hel_w : ∀ j : Nat, j < 14 → (Term.elem (.static "LetterSums" "WORTH" "[I") (.int (Int32.ofNat j))).eval args s none [] s = some (.int (([1, 5, 10, 50, 100, 500, 1000, 1000, 5000, 10000, 50000, 100000, 500000, 1000000] : List Int32).getD j 0)) := by
    intro j hj
    match j, hj with
    | 0, _ => exact va_eqt (z := 1) (hs (.eq (.elem (.static "LetterSums" "WORTH" "[I") (.int 0)) (.int 1)) (by decide +kernel))
    | 1, _ => exact va_eqt (z := 5) (hs (.eq (.elem (.static "LetterSums" "WORTH" "[I") (.int 1)) (.int 5)) (by decide +kernel))
    | 2, _ => exact va_eqt (z := 10) (hs (.eq (.elem (.static "LetterSums" "WORTH" "[I") (.int 2)) (.int 10)) (by decide +kernel))
    | 3, _ => exact va_eqt (z := 50) (hs (.eq (.elem (.static "LetterSums" "WORTH" "[I") (.int 3)) (.int 50)) (by decide +kernel))
    | 4, _ => exact va_eqt (z := 100) (hs (.eq (.elem (.static "LetterSums" "WORTH" "[I") (.int 4)) (.int 100)) (by decide +kernel))
    | 5, _ => exact va_eqt (z := 500) (hs (.eq (.elem (.static "LetterSums" "WORTH" "[I") (.int 5)) (.int 500)) (by decide +kernel))
    | 6, _ => exact va_eqt (z := 1000) (hs (.eq (.elem (.static "LetterSums" "WORTH" "[I") (.int 6)) (.int 1000)) (by decide +kernel))
    | 7, _ => exact va_eqt (z := 1000) (hs (.eq (.elem (.static "LetterSums" "WORTH" "[I") (.int 7)) (.int 1000)) (by decide +kernel))
    | 8, _ => exact va_eqt (z := 5000) (hs (.eq (.elem (.static "LetterSums" "WORTH" "[I") (.int 8)) (.int 5000)) (by decide +kernel))
    | 9, _ => exact va_eqt (z := 10000) (hs (.eq (.elem (.static "LetterSums" "WORTH" "[I") (.int 9)) (.int 10000)) (by decide +kernel))
    | 10, _ => exact va_eqt (z := 50000) (hs (.eq (.elem (.static "LetterSums" "WORTH" "[I") (.int 10)) (.int 50000)) (by decide +kernel))
    | 11, _ => exact va_eqt (z := 100000) (hs (.eq (.elem (.static "LetterSums" "WORTH" "[I") (.int 11)) (.int 100000)) (by decide +kernel))
    | 12, _ => exact va_eqt (z := 500000) (hs (.eq (.elem (.static "LetterSums" "WORTH" "[I") (.int 12)) (.int 500000)) (by decide +kernel))
    | 13, _ => exact va_eqt (z := 1000000) (hs (.eq (.elem (.static "LetterSums" "WORTH" "[I") (.int 13)) (.int 1000000)) (by decide +kernel))
    | j + 14, h => exact absurd h (by omega)
  obtain ⟨a_w, hv_w, hT_w⟩ := va_Tof (N := 14) (f := fun j => .int (([1, 5, 10, 50, 100, 500, 1000, 1000, 5000, 10000, 50000, 100000, 500000, 1000000] : List Int32).getD j 0)) (A := fun q : Nat => s.heap.size ≤ q) (by decide) (hs (.arrayOf (.static "LetterSums" "WORTH" "[I") .int) (by decide +kernel)) (va_eqt (z := 14) (hs (.eq (.length (.static "LetterSums" "WORTH" "[I")) (.int 14)) (by decide +kernel))) hel_w hnA
  have hZ_w := va_Zof (hts (.laysStatic "LetterSums" "WORTH" "[I") (List.mem_of_getElem? (i := 178) (by decide +kernel))) (hts (.initialized "LetterSums") (List.mem_of_getElem? (i := 116) (by decide +kernel))) hv_w hnA
  have hel_u : ∀ j : Nat, j < 6 → (Term.elem (.static "LetterSums$Abacus" "BUNDLE" "[I") (.int (Int32.ofNat j))).eval args s none [] s = some (.int (([5, 2, 5, 2, 5, 2] : List Int32).getD j 0)) := by
    intro j hj
    match j, hj with
    | 0, _ => exact va_eqt (z := 5) (hs (.eq (.elem (.static "LetterSums$Abacus" "BUNDLE" "[I") (.int 0)) (.int 5)) (by decide +kernel))
    | 1, _ => exact va_eqt (z := 2) (hs (.eq (.elem (.static "LetterSums$Abacus" "BUNDLE" "[I") (.int 1)) (.int 2)) (by decide +kernel))
    | 2, _ => exact va_eqt (z := 5) (hs (.eq (.elem (.static "LetterSums$Abacus" "BUNDLE" "[I") (.int 2)) (.int 5)) (by decide +kernel))
    | 3, _ => exact va_eqt (z := 2) (hs (.eq (.elem (.static "LetterSums$Abacus" "BUNDLE" "[I") (.int 3)) (.int 2)) (by decide +kernel))
    | 4, _ => exact va_eqt (z := 5) (hs (.eq (.elem (.static "LetterSums$Abacus" "BUNDLE" "[I") (.int 4)) (.int 5)) (by decide +kernel))
    | 5, _ => exact va_eqt (z := 2) (hs (.eq (.elem (.static "LetterSums$Abacus" "BUNDLE" "[I") (.int 5)) (.int 2)) (by decide +kernel))
    | j + 6, h => exact absurd h (by omega)
  obtain ⟨a_u, hv_u, hT_u⟩ := va_Tof (N := 6) (f := fun j => .int (([5, 2, 5, 2, 5, 2] : List Int32).getD j 0)) (A := fun q : Nat => s.heap.size ≤ q) (by decide) (hs (.arrayOf (.static "LetterSums$Abacus" "BUNDLE" "[I") .int) (by decide +kernel)) (va_eqt (z := 6) (hs (.eq (.length (.static "LetterSums$Abacus" "BUNDLE" "[I")) (.int 6)) (by decide +kernel))) hel_u hnA
  have hZ_u := va_Zof (hts (.laysStatic "LetterSums$Abacus" "BUNDLE" "[I") (List.mem_of_getElem? (i := 826) (by decide +kernel))) (hts (.initialized "LetterSums$Abacus") (List.mem_of_getElem? (i := 123) (by decide +kernel))) hv_u hnA
  refine ⟨((fun k => match k with | 0 => c0 | 1 => c1 | 2 => c2 | 3 => c3 | 4 => c4 | 5 => c5 | 6 => c6 | 7 => c7 | 8 => c8 | 9 => c9 | 10 => c10 | _ => c11, fun k => match k with | 0 => iS0 | 1 => iS1 | 2 => iS2 | 3 => iS3 | 4 => iS4 | 5 => iS5 | 6 => iS6 | 7 => iS7 | 8 => iS8 | 9 => iS9 | 10 => iS10 | _ => iS11), s.heap.size, s.heap, ρ, (fun j => match j with | 0 => a_w | 1 => a_u | _ => b), [(t0, .int), (t1, .byte), (t2, .object "LetterSums$Row"), (t3, .object "LetterSums$Custom"), (t4, .object "LetterSums$Mason")]), rfl, rfl, rfl, rfl, ⟨?_, ?_⟩, ?_, ?_, ?_, rfl⟩
  · intro k q hq
    match k, hq with
    | 0, hq => cases hq; exact hKn0
    | 1, hq => cases hq; exact hKn1
    | 2, hq => cases hq; exact hKn2
    | 3, hq => cases hq; exact hKn3
    | 4, hq => cases hq; exact hKn4
    | 5, hq => cases hq; exact hKn5
    | 6, hq => cases hq; exact hKn6
    | 7, hq => cases hq; exact hKn7
    | 8, hq => cases hq; exact hKn8
    | 9, hq => cases hq; exact hKn9
    | 10, hq => cases hq; exact hKn10
    | 11, hq => cases hq; exact hKn11
    | k + 12, hq => simp [ax_cl] at hq
  · intro k q hq
    match k, hq with
    | 0, hq => cases hq; exact ⟨hA0, hB0⟩
    | 1, hq => cases hq; exact ⟨hA1, hB1⟩
    | 2, hq => cases hq; exact ⟨hA2, hB2⟩
    | 3, hq => cases hq; exact ⟨hA3, hB3⟩
    | 4, hq => cases hq; exact ⟨hA4, hB4⟩
    | k + 5, hq => simp at hq
  · exact fun w hw hn => va_Nw.of (lw_nestT hn) (hts w hw)
  · exact ⟨va_AO.of hov2, va_AO.of hov3, va_AO.of hov4, hSX⟩
  · intro j z hz
    match j, hz with
    | 0, hz => cases hz; exact ⟨hZ_w, hT_w⟩
    | 1, hz => cases hz; exact ⟨hZ_u, hT_u⟩
    | j + 2, hz => simp [ax_st] at hz
end
section
/-! ===== by hand: a machine over cells that are as their kinds say ===== -/
def mc_HW (h : ax_H) (n : Nat) : Prop := 573 ≤ n ∧ (∀ k, k < n → ∃ d S, ax_raw h k = some d ∧ ab_K[ab_k k]? = some S ∧ ab_cf n S d) ∧ ab_sh h n
theorem mc_HW_of {h : ax_H} {n : Nat} (H : ab_HT h n) : mc_HW h n := ⟨H.1, H.2.1, H.2.2.2⟩
theorem mc_HT_of {h : ax_H} {n : Nat} (H : mc_HW h n) (J : ab_J h) : ab_HT h n := ⟨H.1, H.2.1, J, H.2.2⟩
theorem mc_HW_set {h : ax_H} {n k : Nat} {d c : ax_D} (H : mc_HW h n) (hr : ax_raw h k = some d) (hc : ∀ S, ab_K[ab_k k]? = some S → ab_cf n S d → ab_cf n S c) : mc_HW (ax_hset h k c) n := by
  refine ⟨H.1, fun j hj => ?_, ab_sh_set H.2.2⟩
  rw [ab_raw_set hr]
  by_cases e : j = k
  · subst e
    obtain ⟨d0, S, h1, h2, h3⟩ := H.2.1 j hj
    rw [hr] at h1
    cases h1
    exact ⟨c, S, by rw [if_pos rfl], h2, hc S h2 h3⟩
  · rw [if_neg e]
    exact H.2.1 j hj
/-- what the bounds speak of is as it was -/
def mc_jp (k : Nat) (i : Int) : Prop := k = 28 ∨ k = 29 ∨ k = 554 ∨ (k = 542 ∧ i = 14) ∨ i < 0
theorem mc_J {h h' : ax_H} (e : ∀ (k : Nat) (i : Int), mc_jp k i → ab_rd h' k i = ab_rd h k i) (J : ab_J h) : ab_J h' := by
  obtain ⟨⟨j1, j2, j3⟩, j4, j5⟩ := J
  have r : ∀ (k : Nat) (i : Int), mc_jp k i → ab_ri h' k i = ab_ri h k i := fun k i q => ab_ri_of (e k i q)
  refine ⟨⟨?_, ?_, ?_⟩, ?_, fun w hw => ?_⟩
  · rw [r 28 1 (Or.inl rfl), ab_gc_of _ (fun i _ => e 29 i (Or.inr (Or.inl rfl)))]; exact j1
  · rw [r 28 1 (Or.inl rfl), r 28 2 (Or.inl rfl)]; exact j2
  · rw [r 28 1 (Or.inl rfl), r 28 2 (Or.inl rfl)]; exact j3
  · rw [r 542 14 (Or.inr (Or.inr (Or.inr (Or.inl ⟨rfl, rfl⟩)))), ab_gc_of _ (fun i _ => e 554 i (Or.inr (Or.inr (Or.inl rfl))))]; exact j4
  · rw [e 28 4 (Or.inl rfl)] at hw
    have := j5 w hw
    rw [r 28 6 (Or.inl rfl), r 28 7 (Or.inl rfl), r w (-1) (Or.inr (Or.inr (Or.inr (Or.inr (by decide)))))]
    exact this
/-- the type of a field -/
def mc_ft (k j : Nat) : Option (Nat × ab_Y) := match ab_K[ab_k k]? with
  | some (.inr (ci, τs)) => τs[j]?.map fun τ => (ci, τ)
  | _ => none
theorem mc_fld {h : ax_H} {n k ci j : Nat} {τ : ab_Y} (H : mc_HW h n) (hk : Nat.blt k 573 = true) (hf : mc_ft k j = some (ci, τ)) : ∃ fs v, ax_raw h k = some (.inr (ci, fs)) ∧ fs[j]? = some v ∧ ab_ok n v τ ∧ ab_rd h k (j : Int) = some v := by
  have hk' : k < 573 := by simpa [Nat.blt_eq] using hk
  obtain ⟨d, S, h1, h2, h3⟩ := H.2.1 k (Nat.lt_of_lt_of_le hk' H.1)
  unfold mc_ft at hf
  rw [h2] at hf
  rcases S with ⟨t, N1, N2, σ, σs⟩ | ⟨c, τs⟩
  · cases hf
  · obtain ⟨τ', e1, e2⟩ := Option.map_eq_some_iff.mp hf
    cases e2
    rcases d with ⟨t', N, f | f⟩ | ⟨c', fs⟩
    · exact h3.elim
    · exact h3.elim
    · obtain ⟨rfl, e3, e4⟩ := h3
      have hj : j < fs.length := by rw [e3]; exact (List.getElem?_eq_some_iff.mp e1).1
      obtain ⟨σ, e5, e6⟩ := e4 j fs[j] (List.getElem?_eq_getElem hj)
      rw [e1] at e5
      cases e5
      refine ⟨fs, fs[j], h1, List.getElem?_eq_getElem hj, e6, ?_⟩
      unfold ab_rd
      rw [h1]
      show (bif decide ((j : Int) < 0) then none else fs[(j : Int).toNat]?) = _
      rw [decide_eq_false (by omega)]
      exact List.getElem?_eq_getElem hj
theorem mc_arr {h : ax_H} {n k t N : Nat} {τ : ab_Y} {σ : List ab_Y} (H : mc_HW h n) (hk : Nat.blt k 573 = true) (ha : ab_K[ab_k k]? = some (.inl (t, N, N, τ, σ))) (ht : Nat.blt t 2 = true) : ∃ f, ax_raw h k = some (.inl (t, N, .inl f)) ∧ N < 2147483648 ∧ ∀ i, i < N → ab_ok n (.int (ax_fi f i)) τ ∧ ab_ok n (.int (ax_fi f i)) (σ.getD i τ) ∧ ab_rd h k (i : Int) = some (.int (ax_fi f i)) := by
  have hk' : k < 573 := by simpa [Nat.blt_eq] using hk
  have ht' : t < 2 := by simpa [Nat.blt_eq] using ht
  obtain ⟨d, S, h1, h2, h3⟩ := H.2.1 k (Nat.lt_of_lt_of_le hk' H.1)
  rw [ha] at h2
  cases h2
  rcases d with ⟨t', M, f | f⟩ | ⟨c', fs⟩
  · obtain ⟨rfl, b2, b3, b4, b5, b6⟩ := h3
    obtain rfl : M = N := by omega
    refine ⟨f, h1, b5, fun i hi => ⟨(b6 i hi).1, (b6 i hi).2, ?_⟩⟩
    unfold ab_rd
    rw [h1]
    show (bif decide ((i : Int) < 0) then _ else some (Value.int (ax_fi f (i : Int).toNat))) = _
    rw [decide_eq_false (by omega)]
    rfl
  · exact absurd h3.2.1 (by omega)
  · exact h3.elim
/-- from here the method returns, and then Q -/
def mc_R (l : Launch) (G : ax_T) (mi : ax_MI) (d : Nat) (Q : Option Value → ax_H → Nat → Prop) (F : ax_F) : Prop := ∃ o : ax_O, ax_retT mi.2.2.2.2.1 o.1 = true ∧ ab_Wd l G mi d o F ∧ Q o.1 o.2.1 o.2.2
def mc_M (l : Launch) (G : ax_T) (d : Nat) (mi : ax_MI) (as : List Value) (h : ax_H) (n : Nat) (Q : Option Value → ax_H → Nat → Prop) : Prop := ∃ o : ax_O, ab_M l G d mi as h n o ∧ Q o.1 o.2.1 o.2.2
theorem mc_bal {v : Int} {x : Int32} (h : v = x.toInt) : ∃ y : Int32, y.toInt = v ∧ y = x := ⟨x, h.symm, rfl⟩
theorem mc_add {x y : Int32} {a b : Int} (hx : x.toInt = a) (hy : y.toInt = b) (h1 : -2147483648 ≤ a + b) (h2 : a + b ≤ 2147483647) : (x + y).toInt = a + b := by
  rw [Int32.toInt_add, hx, hy]
  exact ab_bm h1 h2
theorem mc_sub {x y : Int32} {a b : Int} (hx : x.toInt = a) (hy : y.toInt = b) (h1 : -2147483648 ≤ a - b) (h2 : a - b ≤ 2147483647) : (x - y).toInt = a - b := by
  rw [Int32.toInt_sub, hx, hy]
  exact ab_bm h1 h2
theorem mc_mul {x y : Int32} {a b : Int} (hx : x.toInt = a) (hy : y.toInt = b) (h1 : -2147483648 ≤ a * b) (h2 : a * b ≤ 2147483647) : (x * y).toInt = a * b := by
  rw [Int32.toInt_mul, hx, hy]
  exact ab_bm h1 h2
def mc_h (c : ClassFile.Cond) (a b : Int) : Prop := match c with
  | .eq => a = b
  | .ne => a ≠ b
  | .lt => a < b
  | .ge => b ≤ a
  | .gt => b < a
  | .le => a ≤ b
theorem mc_hi {c : ClassFile.Cond} {x y : Int32} : ax_holds c x y ↔ mc_h c x.toInt y.toInt := by
  cases c with
  | eq => exact Int32.toInt_inj.symm
  | ne => exact not_congr Int32.toInt_inj.symm
  | lt => exact Int32.lt_iff_toInt_lt
  | ge => exact Int32.le_iff_toInt_le
  | gt => exact Int32.lt_iff_toInt_lt
  | le => exact Int32.le_iff_toInt_le
section MC
variable {l : Launch} {G : ax_T} {mi : ax_MI} {d : Nat} {Q : Option Value → ax_H → Nat → Prop} {pc pc' tg len : Nat} {lv : List (Nat × Value)} {st : List Value} {h : ax_H} {n : Nat}
theorem mc_to (hmi : mi ∈ mt_prog) {as : List Value} (hlen : Nat.ble (lg_sl as).length mi.2.2.2.1 = true) (hR : mc_R l G mi d Q (0, lv_args 0 as, [], h, n, 0, 0)) : mc_M l G (d + 1) mi as h n Q := by
  obtain ⟨o, h1, h2, h3⟩ := hR
  exact ⟨o, ab_Wd_call mt_ok hmi (by simpa [Nat.ble_eq] using hlen) h1 h2, h3⟩
theorem mc_cx (hmi : mi ∈ mt_prog) (k : Nat) {F F' : ax_F} (hc : cx G mi k F = some F') (hR : mc_R l G mi d Q F') : mc_R l G mi d Q F := by
  obtain ⟨o, h1, h2, h3⟩ := hR
  exact ⟨o, h1, cx_ok hmi k hc h2, h3⟩
theorem mc_stp (hmi : mi ∈ mt_prog) {en : ax_EN} (ha : ax_at mi.2.2.2.2.2.2.2.2 pc = some en) {lv' : List (Nat × Value)} {st' : List Value} {h' : ax_H} (hs : ax_step (ab_io G) mi.2.2.2.1 en.2.1 en.2.2.2.1 pc lv st h n 0 0 = some (pc', lv', st', h', n, 0, 0)) (hR : mc_R l G mi d Q (pc', lv', st', h', n, 0, 0)) : mc_R l G mi d Q (pc, lv, st, h, n, 0, 0) := by
  obtain ⟨o, h1, h2, h3⟩ := hR
  exact ⟨o, h1, ab_Wd_step mt_ok hmi ha hs (Nat.zero_le _) (Nat.zero_le _) h2, h3⟩
theorem mc_ret (hmi : mi ∈ mt_prog) {en : ax_EN} (ha : ax_at mi.2.2.2.2.2.2.2.2 pc = some en) {r : Option Value} (hr : ax_rets en.2.1 st = some r) (ht : ax_retT mi.2.2.2.2.1 r = true) (hQ : Q r h n) : mc_R l G mi d Q (pc, lv, st, h, n, 0, 0) :=
  ⟨(r, h, n), ht, ab_Wd_ret mt_ok hmi ha hr ht (Nat.zero_le _) (Nat.zero_le _), hQ⟩
theorem mc_bi (hmi : mi ∈ mt_prog) {c : ClassFile.Cond} {off : Int} {pe : ax_PE} {hs : List Nat} {x y : Int32} (ha : ax_at mi.2.2.2.2.2.2.2.2 pc = some (pc, .if_icmp c off, len, pe, hs)) (ht : ax_to pc off = some tg) (hp : pc + 3 = pc') (hy : mc_h c x.toInt y.toInt → mc_R l G mi d Q (tg, lv, st, h, n, 0, 0)) (hn : ¬ mc_h c x.toInt y.toInt → mc_R l G mi d Q (pc', lv, st, h, n, 0, 0)) : mc_R l G mi d Q (pc, lv, .int y :: .int x :: st, h, n, 0, 0) := by
  subst hp
  by_cases q : ax_holds c x y
  · exact mc_stp hmi ha (cx_brt (G := G) ht q 0 0) (hy (mc_hi.mp q))
  · exact mc_stp hmi ha (cx_brf (G := G) ht q 0 0) (hn (fun w => q (mc_hi.mpr w)))
theorem mc_bz (hmi : mi ∈ mt_prog) {c : ClassFile.Cond} {off : Int} {pe : ax_PE} {hs : List Nat} {x : Int32} (ha : ax_at mi.2.2.2.2.2.2.2.2 pc = some (pc, .ifCond c off, len, pe, hs)) (ht : ax_to pc off = some tg) (hp : pc + 3 = pc') (hy : mc_h c x.toInt 0 → mc_R l G mi d Q (tg, lv, st, h, n, 0, 0)) (hn : ¬ mc_h c x.toInt 0 → mc_R l G mi d Q (pc', lv, st, h, n, 0, 0)) : mc_R l G mi d Q (pc, lv, .int x :: st, h, n, 0, 0) := by
  subst hp
  by_cases q : ax_holds c x 0
  · exact mc_stp hmi ha (cx_brt (G := G) ht q 0 0) (hy (mc_hi.mp q))
  · exact mc_stp hmi ha (cx_brf (G := G) ht q 0 0) (hn (fun w => q (mc_hi.mpr w)))
theorem mc_getr (hmi : mi ∈ mt_prog) (H : mc_HW h n) {k idx e ci j M c : Nat} {z : Int} {hs : List Nat} (ha : ax_at mi.2.2.2.2.2.2.2.2 pc = some (pc, .getfield idx, 3, (e, ci, j, z), hs)) (hk : Nat.blt k 573 = true) (hf : mc_ft k j = some (ci, .inr (some M))) (ho : ab_one M = some c) (hp : pc + 3 = pc') (hR : mc_R l G mi d Q (pc', lv, .ref c :: st, h, n, 0, 0)) : mc_R l G mi d Q (pc, lv, .ref k :: st, h, n, 0, 0) := by
  subst hp
  obtain ⟨fs, v, h1, h2, ⟨k', rfl, h3, h4⟩, -⟩ := mc_fld H hk hf
  obtain rfl := ab_one_ok ho h4
  refine mc_stp hmi ha ?_ hR
  simp only [ax_step, ax_s_getf, h1, h2, beq_self_eq_true, cond_true, Option.map_some]
theorem mc_geti (hmi : mi ∈ mt_prog) (H : mc_HW h n) {k idx e ci j f : Nat} {lo hi z : Int} {hs : List Nat} (ha : ax_at mi.2.2.2.2.2.2.2.2 pc = some (pc, .getfield idx, 3, (e, ci, j, z), hs)) (hk : Nat.blt k 573 = true) (hf : mc_ft k j = some (ci, .inl (lo, hi, f))) (hp : pc + 3 = pc') (hR : ∀ x : Int32, x.toInt = ab_ri h k (j : Int) → lo ≤ x.toInt → x.toInt ≤ hi → mc_R l G mi d Q (pc', lv, .int x :: st, h, n, 0, 0)) : mc_R l G mi d Q (pc, lv, .ref k :: st, h, n, 0, 0) := by
  subst hp
  obtain ⟨fs, v, h1, h2, ⟨x, rfl, h3, h4, -⟩, h5⟩ := mc_fld H hk hf
  refine mc_stp hmi ha ?_ (hR x ?_ h3 h4)
  · simp only [ax_step, ax_s_getf, h1, h2, beq_self_eq_true, cond_true, Option.map_some]
  · unfold ab_ri
    rw [h5]
theorem mc_in {x : Int32} {N : Nat} (h1 : 0 ≤ x.toInt) (h2 : x.toInt < N) : ax_inB x N = true := by
  simp only [ax_inB, decide_eq_true h1, decide_eq_true h2, Bool.and_self]
theorem mc_clamp {x : Int32} (h1 : 0 ≤ x.toInt) : ((x.toNatClampNeg : Nat) : Int) = x.toInt := by
  have : x.toNatClampNeg = x.toInt.toNat := rfl
  omega
theorem mc_iald (hmi : mi ∈ mt_prog) (H : mc_HW h n) {k N f : Nat} {lo hi : Int} {σ : List ab_Y} {hs : List Nat} {pe : ax_PE} {x : Int32} {i : Int} (ha : ax_at mi.2.2.2.2.2.2.2.2 pc = some (pc, .iaload, 1, pe, hs)) (hk : Nat.blt k 573 = true) (hf : ab_K[ab_k k]? = some (.inl (0, N, N, .inl (lo, hi, f), σ))) (hx : x.toInt = i) (h0 : 0 ≤ i) (hN : i < N) (hp : pc + 1 = pc') (hR : ∀ y : Int32, y.toInt = ab_ri h k i → lo ≤ y.toInt → y.toInt ≤ hi → mc_R l G mi d Q (pc', lv, .int y :: st, h, n, 0, 0)) : mc_R l G mi d Q (pc, lv, .int x :: .ref k :: st, h, n, 0, 0) := by
  subst hp
  obtain ⟨g, h1, h2, h3⟩ := mc_arr H hk hf rfl
  have hc := mc_clamp (x := x) (by omega)
  obtain ⟨⟨y, e1, e2, e3, -⟩, -, e4⟩ := h3 x.toNatClampNeg (by omega)
  refine mc_stp hmi ha ?_ (hR y ?_ e2 e3)
  · simp only [ax_step, ax_s_iald, h1, beq_self_eq_true, mc_in (x := x) (N := N) (by omega) (by omega), Bool.and_self, cond_true, e1]
  · rw [hc, hx, e1] at e4
    unfold ab_ri
    rw [e4]
/-- the element's own bounds -/
theorem mc_cst {k N f : Nat} {lo hi a b : Int} {g : Nat} {σ : List ab_Y} (H : mc_HW h n) (hk : Nat.blt k 573 = true) (hf : ab_K[ab_k k]? = some (.inl (0, N, N, .inl (lo, hi, f), σ))) {i : Nat} (hi' : i < N) (hs : σ[i]? = some (.inl (a, b, g))) : a ≤ ab_ri h k (i : Int) ∧ ab_ri h k (i : Int) ≤ b := by
  obtain ⟨f', h1, h2, h3⟩ := mc_arr H hk hf rfl
  obtain ⟨-, e, e4⟩ := h3 i hi'
  rw [List.getD_eq_getElem?_getD, hs] at e
  obtain ⟨y, e1, e2, e3, -⟩ := e
  unfold ab_ri
  rw [e4, e1]
  exact ⟨e2, e3⟩
theorem mc_rng {k N f : Nat} {lo hi : Int} {σ : List ab_Y} (H : mc_HW h n) (hk : Nat.blt k 573 = true) (hf : ab_K[ab_k k]? = some (.inl (0, N, N, .inl (lo, hi, f), σ))) {i : Int} (h0 : 0 ≤ i) (hi' : i < N) : lo ≤ ab_ri h k i ∧ ab_ri h k i ≤ hi := by
  obtain ⟨f', h1, h2, h3⟩ := mc_arr H hk hf rfl
  obtain ⟨⟨y, e1, e2, e3, -⟩, -, e4⟩ := h3 i.toNat (by omega)
  rw [show ((i.toNat : Nat) : Int) = i by omega] at e4
  unfold ab_ri
  rw [e4, e1]
  exact ⟨e2, e3⟩
theorem mc_frng {k ci j f : Nat} {lo hi : Int} (H : mc_HW h n) (hk : Nat.blt k 573 = true) (hf : mc_ft k j = some (ci, .inl (lo, hi, f))) : lo ≤ ab_ri h k (j : Int) ∧ ab_ri h k (j : Int) ≤ hi := by
  obtain ⟨fs, v, h1, h2, ⟨x, rfl, h3, h4, -⟩, h5⟩ := mc_fld H hk hf
  unfold ab_ri
  rw [h5]
  exact ⟨h3, h4⟩
theorem mc_iast (hmi : mi ∈ mt_prog) (H : mc_HW h n) {k N : Nat} {lo hi : Int} {hs : List Nat} {pe : ax_PE} {x v : Int32} {i : Int} (ha : ax_at mi.2.2.2.2.2.2.2.2 pc = some (pc, .iastore, 1, pe, hs)) (hk : Nat.blt k 573 = true) (hf : ab_K[ab_k k]? = some (.inl (0, N, N, .inl (lo, hi, 0), []))) (hx : x.toInt = i) (h0 : 0 ≤ i) (hN : i < N) (h1 : lo ≤ v.toInt) (h2 : v.toInt ≤ hi) (hp : pc + 1 = pc') (hR : ∀ h' : ax_H, mc_HW h' n → (∀ (k' : Nat) (i' : Int), ab_rd h' k' i' = if k' = k ∧ i' = i then some (.int v) else ab_rd h k' i') → mc_R l G mi d Q (pc', lv, st, h', n, 0, 0)) : mc_R l G mi d Q (pc, lv, .int v :: .int x :: .ref k :: st, h, n, 0, 0) := by
  subst hp
  obtain ⟨g, r1, r2, r3⟩ := mc_arr H hk hf rfl
  have hc := mc_clamp (x := x) (by omega)
  refine mc_stp hmi ha (h' := ax_hset h k (.inl (0, N, .inl ((x.toNatClampNeg, v) :: g)))) ?_ (hR _ ?_ ?_)
  · simp only [ax_step, ax_s_iast, r1, beq_self_eq_true, mc_in (x := x) (N := N) (by omega) (by omega), Bool.and_self, cond_true]
  · refine mc_HW_set H r1 fun S hS hcf => ?_
    rw [hf] at hS
    cases hS
    obtain ⟨b1, b2, b3, b4, b5, b6⟩ := hcf
    refine ⟨b1, b2, b3, b4, b5, fun j hj => ?_⟩
    have := b6 j hj
    by_cases hjx : j = x.toNatClampNeg
    · subst hjx
      have e : ax_fi ((x.toNatClampNeg, v) :: g) x.toNatClampNeg = v := by simp [ax_fi, upd]
      rw [e]
      exact ⟨⟨v, rfl, h1, h2, trivial⟩, ⟨v, rfl, h1, h2, trivial⟩⟩
    · have e : ax_fi ((x.toNatClampNeg, v) :: g) j = ax_fi g j := by simp [ax_fi, upd, hjx]
      rw [e]
      exact this
  · intro k' i'
    rw [ab_rd_ast r1, hc, hx]
theorem mc_puti (hmi : mi ∈ mt_prog) (H : mc_HW h n) {k idx e ci j : Nat} {lo hi z : Int} {hs : List Nat} {v : Int32} (ha : ax_at mi.2.2.2.2.2.2.2.2 pc = some (pc, .putfield idx, 3, (e, ci, j, z), hs)) (hk : Nat.blt k 573 = true) (hf : mc_ft k j = some (ci, .inl (lo, hi, 0))) (hb : ab_fitB (ax_ty ci j) (.inl (lo, hi, 0)) = true) (h1 : lo ≤ v.toInt) (h2 : v.toInt ≤ hi) (hp : pc + 3 = pc') (hR : ∀ h' : ax_H, mc_HW h' n → (∀ (k' : Nat) (i' : Int), ab_rd h' k' i' = if k' = k ∧ i' = (j : Int) then some (.int v) else ab_rd h k' i') → mc_R l G mi d Q (pc', lv, st, h', n, 0, 0)) : mc_R l G mi d Q (pc, lv, .int v :: .ref k :: st, h, n, 0, 0) := by
  subst hp
  obtain ⟨fs, w, r1, r2, r3, r4⟩ := mc_fld H hk hf
  have hj : j < fs.length := (List.getElem?_eq_some_iff.mp r2).1
  have hv : ab_ok n (.int v) (.inl (lo, hi, 0)) := ⟨v, rfl, h1, h2, trivial⟩
  refine mc_stp hmi ha (h' := ax_hset h k (.inr (ci, fs.set j (.int v)))) ?_ (hR _ ?_ ?_)
  · have hjb : Nat.blt j fs.length = true := by simpa [Nat.blt_eq] using hj
    simp only [ax_step, ax_s_putf, r1, beq_self_eq_true, hjb, ab_fitB_ok hb hv, Bool.and_self, cond_true]
  · refine mc_HW_set H r1 fun S hS hcf => ?_
    unfold mc_ft at hf
    rw [hS] at hf
    rcases S with ⟨t, N1, N2, σ, σs⟩ | ⟨c, τs⟩
    · cases hf
    · obtain ⟨τ', e1, e2⟩ := Option.map_eq_some_iff.mp hf
      cases e2
      obtain ⟨b1, b2, b3⟩ := hcf
      refine ⟨b1, by rw [List.length_set]; exact b2, fun i u hu => ?_⟩
      by_cases ei : j = i
      · subst ei
        rw [List.getElem?_set_self hj] at hu
        cases hu
        exact ⟨_, e1, hv⟩
      · rw [List.getElem?_set_ne ei] at hu
        exact b3 i u hu
  · intro k' i'
    unfold ab_rd
    rw [ab_raw_set r1]
    by_cases ek : k' = k
    · subst ek
      rw [if_pos rfl, r1]
      by_cases hn : i' < 0
      · simp only [decide_eq_true hn, cond_true]
        rw [if_neg (by omega)]
      · simp only [decide_eq_false hn, cond_false]
        by_cases ei : i' = (j : Int)
        · subst ei
          rw [if_pos (⟨trivial, rfl⟩ : True ∧ (j : Int) = (j : Int))]
          exact List.getElem?_set_self hj
        · rw [if_neg (fun q => ei q.2), List.getElem?_set_ne (by omega)]
    · rw [if_neg ek, if_neg (fun q => ek q.1)]
theorem mc_ri {h h' : ax_H} {k : Nat} {i : Int} {v : Int32} (hr : ∀ (k' : Nat) (i' : Int), ab_rd h' k' i' = if k' = k ∧ i' = i then some (.int v) else ab_rd h k' i') (k' : Nat) (i' : Int) : ab_ri h' k' i' = if k' = k ∧ i' = i then v.toInt else ab_ri h k' i' := by
  unfold ab_ri
  rw [hr]
  by_cases q : k' = k ∧ i' = i
  · rw [if_pos q, if_pos q]
  · rw [if_neg q, if_neg q]
/-- a call of a method that makes no cells -/
theorem mc_call (hmi : mi ∈ mt_prog) {en : ax_EN} (ha : ax_at mi.2.2.2.2.2.2.2.2 pc = some en) {q : ax_MI × List Value × List Value} (hq : ax_inv mt_prog en.2.1 en.2.2.2.1 st h = some q) (h0 : q.1.2.2.2.2.2.2.1 = 0 ∧ q.1.2.2.2.2.2.2.2.1 = 0) (hp : pc + 3 = pc') (hM : mc_M l G d q.1 q.2.1 h n (fun r h' n' => mc_R l G mi d Q (pc', lv, r.toList ++ q.2.2, h', n', 0, 0))) : mc_R l G mi d Q (pc, lv, st, h, n, 0, 0) := by
  subst hp
  obtain ⟨o1, m1, o, m2, m3, m4⟩ := hM
  exact ⟨o, m2, cx_call hmi ha hq h0 m1 m3, m4⟩
/-- calls of an object's method: its class is looked at -/
theorem mc_inv (H : mc_HW h n) {idx j k ci : Nat} {e : Nat} {z : Int} {mj : ax_MI} {as rest : List Value} {τs : List ab_Y} (hj : mt_prog[j]? = some mj) (hp : ax_pop mj.2.2.2.2.2.1 st = some (as, .ref k :: rest)) (hk : Nat.blt k 573 = true) (hf : ab_K[ab_k k]? = some (.inr (ci, τs))) (hs : Nat.ble (ax_sum rest) 8 = true) : ax_inv mt_prog (.invokevirtual idx) (e, j, ci, z) st h = some (mj, .ref k :: as, rest) := by
  have hk' : k < 573 := by simpa [Nat.blt_eq] using hk
  obtain ⟨d, S, h1, h2, h3⟩ := H.2.1 k (Nat.lt_of_lt_of_le hk' H.1)
  rw [hf] at h2
  cases h2
  rcases d with ⟨t', N, f | f⟩ | ⟨c', fs⟩
  · exact h3.elim
  · exact h3.elim
  · obtain ⟨rfl, -⟩ := h3
    simp only [ax_inv, hj, hp, h1, beq_self_eq_true, hs, Bool.and_self, cond_true]
theorem mc_mono {as : List Value} {Q' : Option Value → ax_H → Nat → Prop} (hM : mc_M l G d mi as h n Q) (hQ : ∀ r h' n', Q r h' n' → Q' r h' n') : mc_M l G d mi as h n Q' := by
  obtain ⟨o, h1, h2⟩ := hM
  exact ⟨o, h1, hQ _ _ _ h2⟩
end MC
theorem mc_ng {c : ClassFile.Cond} {a b : Int} (h : ¬ mc_h c a b) : mc_h (ab_ng c) a b := by
  cases c with
  | eq => exact h
  | ne => exact (Decidable.not_not (p := a = b)).mp h
  | lt => exact Int.not_lt.mp h
  | ge => exact Int.not_le.mp h
  | gt => exact Int.not_lt.mp h
  | le => exact Int.not_le.mp h
section MC2
variable {l : Launch} {G : ax_T} {mi : ax_MI} {d : Nat} {Q : Option Value → ax_H → Nat → Prop} {pc pc' tg len : Nat} {lv : List (Nat × Value)} {st : List Value} {h : ax_H} {n : Nat}
theorem mc_ci (hmi : mi ∈ mt_prog) {c : ClassFile.Cond} {off : Int} {pe : ax_PE} {hs : List Nat} {x y : Int32} {a b : Int} (ha : ax_at mi.2.2.2.2.2.2.2.2 pc = some (pc, .if_icmp c off, len, pe, hs)) (ht : ax_to pc off = some tg) (hp : pc + 3 = pc') (hx : x.toInt = a) (hy : y.toInt = b) (kt : mc_h c a b → mc_R l G mi d Q (tg, lv, st, h, n, 0, 0)) (kn : mc_h (ab_ng c) a b → mc_R l G mi d Q (pc', lv, st, h, n, 0, 0)) : mc_R l G mi d Q (pc, lv, .int y :: .int x :: st, h, n, 0, 0) := by
  subst hx hy
  exact mc_bi hmi ha ht hp kt (fun q => kn (mc_ng q))
theorem mc_cz (hmi : mi ∈ mt_prog) {c : ClassFile.Cond} {off : Int} {pe : ax_PE} {hs : List Nat} {x : Int32} {a : Int} (ha : ax_at mi.2.2.2.2.2.2.2.2 pc = some (pc, .ifCond c off, len, pe, hs)) (ht : ax_to pc off = some tg) (hp : pc + 3 = pc') (hx : x.toInt = a) (kt : mc_h c a 0 → mc_R l G mi d Q (tg, lv, st, h, n, 0, 0)) (kn : mc_h (ab_ng c) a 0 → mc_R l G mi d Q (pc', lv, st, h, n, 0, 0)) : mc_R l G mi d Q (pc, lv, .int x :: st, h, n, 0, 0) := by
  subst hx
  exact mc_bz hmi ha ht hp kt (fun q => kn (mc_ng q))
end MC2
theorem mc_lvs {l : Launch} {G : ax_T} {mi : ax_MI} {d : Nat} {Q : Option Value → ax_H → Nat → Prop} {pc : Nat} {lv lv' : List (Nat × Value)} {st : List Value} {h : ax_H} {n : Nat} (hs : ∀ q ∈ lv', q ∈ lv) (hR : mc_R l G mi d Q (pc, lv', st, h, n, 0, 0)) : mc_R l G mi d Q (pc, lv, st, h, n, 0, 0) := by
  obtain ⟨o, h1, h2, h3⟩ := hR
  refine ⟨o, h1, ?_, h3⟩
  intro p e s m args below meth c M hnm hrt ls H locs hl hR' hL
  refine h2 p e s m args below meth c M hnm hrt ls H locs ⟨hl.1, hl.2.1, fun q hq => ?_⟩ hR' hL
  obtain ⟨z, hz, rfl⟩ := List.mem_map.mp hq
  exact hl.2.2 _ (List.mem_map.mpr ⟨z, hs z hz, rfl⟩)
def sm (f : Nat → Int) : Nat → Int
  | 0 => 0
  | k + 1 => sm f k + f k
theorem sm_nn {f : Nat → Int} : ∀ k : Nat, (∀ i, i < k → 0 ≤ f i) → 0 ≤ sm f k
  | 0, _ => Int.le_refl 0
  | k + 1, h => by
    have := sm_nn k (fun i hi => h i (by omega))
    have := h k (by omega)
    show 0 ≤ sm f k + f k
    omega
theorem sm_eq {f g : Nat → Int} : ∀ k : Nat, (∀ i, i < k → f i = g i) → sm f k = sm g k
  | 0, _ => rfl
  | k + 1, h => by
    show sm f k + f k = sm g k + g k
    rw [sm_eq k (fun i hi => h i (by omega)), h k (by omega)]
end
section
/-! ===== by hand: lift, in the reference (ways printed by wip/hand/h_lift.py) ===== -/
theorem lf_1 {l : Launch} {G : ax_T} {d : Nat} {Q : Option Value → ax_H → Nat → Prop} {h : ax_H} {n : Nat} (H : mc_HW h n) (r : Int32) (kk : ∀ a b : Int32, a.toInt = sm (fun s => ab_ri h 551 (s : Int)) 7 → 0 ≤ b.toInt → mc_R l G mt_X11_lift d Q (50, [(0, .ref 542), (1, .int r), (2, .int a), (3, .int b)], [], h, n, 0, 0)) : ∀ (k j : Nat) (a b i : Int32), k + j = 7 → i.toInt = (j : Int) → a.toInt = sm (fun s => ab_ri h 551 (s : Int)) j → 0 ≤ a.toInt → a.toInt ≤ 99 * (j : Int) → 0 ≤ b.toInt → b.toInt ≤ 99 * (j : Int) → mc_R l G mt_X11_lift d Q (17, [(0, .ref 542), (1, .int r), (2, .int a), (3, .int b), (4, .int i)], [], h, n, 0, 0) := by
  have hmi : mt_X11_lift ∈ mt_prog := List.mem_of_getElem? mi_X11_lift
  intro k
  induction k with
  | zero =>
    intro j a b i hj hi ha ha0 ha9 hb0 hb9
    refine mc_cx hmi 2 (F' := (21, [(0, .ref 542), (1, .int r), (2, .int a), (3, .int b), (4, .int i)], [.int (Int8.ofInt 7).toInt32, .int i], h, n, 0, 0)) (by with_unfolding_all rfl) ?_
    refine mc_ci hmi (c := .ge) (tg := 50) (pc' := 24) rfl rfl rfl hi (by decide) (fun (q1 : 7 ≤ (j : Int)) => ?_) (fun (q1 : (j : Int) < 7) => ?_)
    · refine mc_lvs (lv' := [(0, .ref 542), (1, .int r), (2, .int a), (3, .int b)]) (by simp) ?_
      have e : j = 7 := by omega
      subst e
      exact kk a b ha hb0
    · exact absurd q1 (by omega)
  | succ k ih =>
    intro j a b i hj hi ha ha0 ha9 hb0 hb9
    refine mc_cx hmi 2 (F' := (21, [(0, .ref 542), (1, .int r), (2, .int a), (3, .int b), (4, .int i)], [.int (Int8.ofInt 7).toInt32, .int i], h, n, 0, 0)) (by with_unfolding_all rfl) ?_
    refine mc_ci hmi (c := .ge) (tg := 50) (pc' := 24) rfl rfl rfl hi (by decide) (fun (q2 : 7 ≤ (j : Int)) => ?_) (fun (q2 : (j : Int) < 7) => ?_)
    · exact absurd q2 (by omega)
    · refine mc_cx hmi 2 (F' := (26, [(0, .ref 542), (1, .int r), (2, .int a), (3, .int b), (4, .int i)], [.ref 542, .int a], h, n, 0, 0)) (by with_unfolding_all rfl) ?_
      refine mc_getr hmi H (k := 542) (c := 551) (pc' := 29) rfl rfl rfl rfl rfl ?_
      refine mc_cx hmi 1 (F' := (31, [(0, .ref 542), (1, .int r), (2, .int a), (3, .int b), (4, .int i)], [.int i, .ref 551, .int a], h, n, 0, 0)) (by with_unfolding_all rfl) ?_
      refine mc_iald hmi H (k := 551) (i := (j : Int)) (pc' := 32) rfl rfl rfl hi (by omega) (by omega) rfl (fun y3 e4 r5 r6 => ?_)
      rw [e4] at r5 r6
      refine mc_cx hmi 4 (F' := (36, [(2, .int (a + y3)), (0, .ref 542), (1, .int r), (3, .int b), (4, .int i)], [.ref 542, .int b], h, n, 0, 0)) (by with_unfolding_all rfl) ?_
      have e7 : (a + y3).toInt = a.toInt + ab_ri h 551 ((j : Int)) := mc_add rfl e4 (by omega) (by omega)
      refine mc_getr hmi H (k := 542) (c := 552) (pc' := 39) rfl rfl rfl rfl rfl ?_
      refine mc_cx hmi 1 (F' := (41, [(2, .int (a + y3)), (0, .ref 542), (1, .int r), (3, .int b), (4, .int i)], [.int i, .ref 552, .int b], h, n, 0, 0)) (by with_unfolding_all rfl) ?_
      refine mc_iald hmi H (k := 552) (i := (j : Int)) (pc' := 42) rfl rfl rfl hi (by omega) (by omega) rfl (fun y8 e9 r10 r11 => ?_)
      rw [e9] at r10 r11
      refine mc_cx hmi 4 (F' := (17, [(4, .int (i + Int32.ofInt 1)), (3, .int (b + y8)), (2, .int (a + y3)), (0, .ref 542), (1, .int r)], [], h, n, 0, 0)) (by with_unfolding_all rfl) ?_
      have e12 : (b + y8).toInt = b.toInt + ab_ri h 552 ((j : Int)) := mc_add rfl e9 (by omega) (by omega)
      have e13 : (i + Int32.ofInt 1).toInt = (j : Int) + 1 := mc_add hi (by decide) (by omega) (by omega)
      refine mc_lvs (lv' := [(0, .ref 542), (1, .int r), (2, .int (a + y3)), (3, .int (b + y8)), (4, .int (i + Int32.ofInt 1))]) (by simp) ?_
      exact ih (j + 1) (a + y3) (b + y8) (i + Int32.ofInt 1) (by omega) (by rw [e13]; omega) (by rw [e7, ha]; rfl) (by rw [e7]; omega) (by rw [e7]; omega) (by rw [e12]; omega) (by rw [e12]; omega)
theorem lf_2 {l : Launch} {G : ax_T} {d : Nat} {Q : Option Value → ax_H → Nat → Prop} {h : ax_H} {n : Nat} (r s : Int32) (hr0 : 0 ≤ r.toInt) (hr1 : r.toInt ≤ 11) {t : Nat} (hs : s.toInt = (t : Int)) (ht : t < 7) {tot : Int} (htot : tot ≤ 24) (kk : ∀ (h' : ax_H) (z : Int32), mc_HW h' n → (∀ (k' : Nat) (i' : Int), k' ≠ 550 → ab_rd h' k' i' = ab_rd h k' i') → z.toInt + sm (fun s => ab_ri h 551 (s : Int)) t = tot → 0 ≤ z.toInt → mc_R l G mt_X11_lift d Q (117, [(0, .ref 542), (1, .int r), (4, .int z), (5, .int s)], [], h', n, 0, 0)) : ∀ (c : Nat) (h' : ax_H) (z k : Int32), mc_HW h' n → (∀ (k' : Nat) (i' : Int), k' ≠ 550 → ab_rd h' k' i' = ab_rd h k' i') → 0 ≤ k.toInt → k.toInt + (c : Int) = ab_ri h 551 (t : Int) → 0 ≤ z.toInt → z.toInt + (c : Int) + sm (fun s => ab_ri h 551 (s : Int)) t = tot → mc_R l G mt_X11_lift d Q (82, [(0, .ref 542), (1, .int r), (4, .int z), (5, .int s), (6, .int k)], [], h', n, 0, 0) := by
  have hmi : mt_X11_lift ∈ mt_prog := List.mem_of_getElem? mi_X11_lift
  intro c
  induction c with
  | zero =>
    intro h' z k H' hfr hk0 hk hz0 hz
    have hg : ∀ s : Nat, ab_ri h' 551 (s : Int) = ab_ri h 551 (s : Int) := fun s => ab_ri_of (hfr 551 _ (by decide))
    have hsm : 0 ≤ sm (fun s => ab_ri h 551 (s : Int)) t := sm_nn t (fun i hi => by show 0 ≤ ab_ri h 551 (i : Int); rw [← hg]; exact (mc_rng H' (k := 551) rfl rfl (by omega) (by omega)).1)
    refine mc_cx hmi 2 (F' := (85, [(0, .ref 542), (1, .int r), (4, .int z), (5, .int s), (6, .int k)], [.ref 542, .int k], h', n, 0, 0)) (by with_unfolding_all rfl) ?_
    refine mc_getr hmi H' (k := 542) (c := 551) (pc' := 88) rfl rfl rfl rfl rfl ?_
    refine mc_cx hmi 1 (F' := (90, [(0, .ref 542), (1, .int r), (4, .int z), (5, .int s), (6, .int k)], [.int s, .ref 551, .int k], h', n, 0, 0)) (by with_unfolding_all rfl) ?_
    refine mc_iald hmi H' (k := 551) (i := (t : Int)) (pc' := 91) rfl rfl rfl hs (by omega) (by omega) rfl (fun y14 e15 r16 r17 => ?_)
    rw [e15] at r16 r17
    rw [hg] at e15 r16 r17
    refine mc_ci hmi (c := .ge) (tg := 117) (pc' := 94) rfl rfl rfl rfl e15 (fun (q18 : ab_ri h 551 (t : Int) ≤ k.toInt) => ?_) (fun (q18 : k.toInt < ab_ri h 551 (t : Int)) => ?_)
    · refine mc_lvs (lv' := [(0, .ref 542), (1, .int r), (4, .int z), (5, .int s)]) (by simp) ?_
      exact kk h' z H' hfr (by omega) hz0
    · exact absurd q18 (by omega)
  | succ c ih =>
    intro h' z k H' hfr hk0 hk hz0 hz
    have hg : ∀ s : Nat, ab_ri h' 551 (s : Int) = ab_ri h 551 (s : Int) := fun s => ab_ri_of (hfr 551 _ (by decide))
    have hsm : 0 ≤ sm (fun s => ab_ri h 551 (s : Int)) t := sm_nn t (fun i hi => by show 0 ≤ ab_ri h 551 (i : Int); rw [← hg]; exact (mc_rng H' (k := 551) rfl rfl (by omega) (by omega)).1)
    refine mc_cx hmi 2 (F' := (85, [(0, .ref 542), (1, .int r), (4, .int z), (5, .int s), (6, .int k)], [.ref 542, .int k], h', n, 0, 0)) (by with_unfolding_all rfl) ?_
    refine mc_getr hmi H' (k := 542) (c := 551) (pc' := 88) rfl rfl rfl rfl rfl ?_
    refine mc_cx hmi 1 (F' := (90, [(0, .ref 542), (1, .int r), (4, .int z), (5, .int s), (6, .int k)], [.int s, .ref 551, .int k], h', n, 0, 0)) (by with_unfolding_all rfl) ?_
    refine mc_iald hmi H' (k := 551) (i := (t : Int)) (pc' := 91) rfl rfl rfl hs (by omega) (by omega) rfl (fun y19 e20 r21 r22 => ?_)
    rw [e20] at r21 r22
    rw [hg] at e20 r21 r22
    refine mc_ci hmi (c := .ge) (tg := 117) (pc' := 94) rfl rfl rfl rfl e20 (fun (q23 : ab_ri h 551 (t : Int) ≤ k.toInt) => ?_) (fun (q23 : k.toInt < ab_ri h 551 (t : Int)) => ?_)
    · exact absurd q23 (by omega)
    · refine mc_cx hmi 1 (F' := (95, [(0, .ref 542), (1, .int r), (4, .int z), (5, .int s), (6, .int k)], [.ref 542], h', n, 0, 0)) (by with_unfolding_all rfl) ?_
      refine mc_getr hmi H' (k := 542) (c := 550) (pc' := 98) rfl rfl rfl rfl rfl ?_
      refine mc_cx hmi 6 (F' := (107, [(0, .ref 542), (1, .int r), (4, .int z), (5, .int s), (6, .int k)], [.int s, .int (((Int8.ofInt 24).toInt32 * r) + z), .ref 550], h', n, 0, 0)) (by with_unfolding_all rfl) ?_
      have e24 : ((Int8.ofInt 24).toInt32 * r).toInt = 24 * r.toInt := mc_mul (by decide) rfl (by omega) (by omega)
      have e25 : (((Int8.ofInt 24).toInt32 * r) + z).toInt = (24 * r.toInt) + z.toInt := mc_add e24 rfl (by omega) (by omega)
      refine mc_iast hmi H' (k := 550) (i := ((24 * r.toInt) + z.toInt)) (pc' := 108) rfl rfl rfl e25 (by omega) (by omega) (by rw [hs]; omega) (by rw [hs]; omega) rfl (fun h26 H27 w28 => ?_)
      refine mc_cx hmi 3 (F' := (82, [(6, .int (k + Int32.ofInt 1)), (4, .int (z + Int32.ofInt 1)), (0, .ref 542), (1, .int r), (5, .int s)], [], h26, n, 0, 0)) (by with_unfolding_all rfl) ?_
      have e29 : (z + Int32.ofInt 1).toInt = z.toInt + 1 := mc_add rfl (by decide) (by omega) (by omega)
      have e30 : (k + Int32.ofInt 1).toInt = k.toInt + 1 := mc_add rfl (by decide) (by omega) (by omega)
      refine mc_lvs (lv' := [(0, .ref 542), (1, .int r), (4, .int (z + Int32.ofInt 1)), (5, .int s), (6, .int (k + Int32.ofInt 1))]) (by simp) ?_
      exact ih h26 (z + Int32.ofInt 1) (k + Int32.ofInt 1) H27 (fun k' i' hk' => by rw [w28, if_neg (fun q => hk' q.1)]; exact hfr k' i' hk') (by rw [e30]; omega) (by rw [e30]; omega) (by rw [e29]; omega) (by rw [e29]; omega)
theorem lf_3 {l : Launch} {G : ax_T} {d : Nat} {Q : Option Value → ax_H → Nat → Prop} {h : ax_H} {n : Nat} (r : Int32) (hr0 : 0 ≤ r.toInt) (hr1 : r.toInt ≤ 11) {tot : Int} (htot : tot ≤ 24) (kk : ∀ (h' : ax_H) (z : Int32), mc_HW h' n → (∀ (k' : Nat) (i' : Int), k' ≠ 550 → ab_rd h' k' i' = ab_rd h k' i') → z.toInt = tot → 0 ≤ z.toInt → mc_R l G mt_X11_lift d Q (123, [(0, .ref 542), (1, .int r), (4, .int z)], [], h', n, 0, 0)) : ∀ (t : Nat) (h' : ax_H) (z s : Int32), mc_HW h' n → (∀ (k' : Nat) (i' : Int), k' ≠ 550 → ab_rd h' k' i' = ab_rd h k' i') → s.toInt + 1 = (t : Int) → t ≤ 7 → 0 ≤ z.toInt → z.toInt + sm (fun s => ab_ri h 551 (s : Int)) t = tot → mc_R l G mt_X11_lift d Q (74, [(0, .ref 542), (1, .int r), (4, .int z), (5, .int s)], [], h', n, 0, 0) := by
  have hmi : mt_X11_lift ∈ mt_prog := List.mem_of_getElem? mi_X11_lift
  intro t
  induction t with
  | zero =>
    intro h' z s H' hfr hs ht hz0 hz
    refine mc_cx hmi 1 (F' := (76, [(0, .ref 542), (1, .int r), (4, .int z), (5, .int s)], [.int s], h', n, 0, 0)) (by with_unfolding_all rfl) ?_
    refine mc_cz hmi (c := .lt) (tg := 123) (pc' := 79) rfl rfl rfl rfl (fun (q31 : s.toInt < 0) => ?_) (fun (q31 : 0 ≤ s.toInt) => ?_)
    · refine mc_lvs (lv' := [(0, .ref 542), (1, .int r), (4, .int z)]) (by simp) ?_
      have hz' : z.toInt + 0 = tot := hz
      exact kk h' z H' hfr (by omega) hz0
    · exact absurd q31 (by omega)
  | succ t ih =>
    intro h' z s H' hfr hs ht hz0 hz
    refine mc_cx hmi 1 (F' := (76, [(0, .ref 542), (1, .int r), (4, .int z), (5, .int s)], [.int s], h', n, 0, 0)) (by with_unfolding_all rfl) ?_
    refine mc_cz hmi (c := .lt) (tg := 123) (pc' := 79) rfl rfl rfl rfl (fun (q32 : s.toInt < 0) => ?_) (fun (q32 : 0 ≤ s.toInt) => ?_)
    · exact absurd q32 (by omega)
    · refine mc_cx hmi 2 (F' := (82, [(6, .int (Int32.ofInt 0)), (0, .ref 542), (1, .int r), (4, .int z), (5, .int s)], [], h', n, 0, 0)) (by with_unfolding_all rfl) ?_
      refine mc_lvs (lv' := [(0, .ref 542), (1, .int r), (4, .int z), (5, .int s), (6, .int (Int32.ofInt 0))]) (by simp) ?_
      have hg : ∀ s : Nat, ab_ri h' 551 (s : Int) = ab_ri h 551 (s : Int) := fun s => ab_ri_of (hfr 551 _ (by decide))
      have hgt : 0 ≤ ab_ri h 551 (t : Int) := by rw [← hg]; exact (mc_rng H' (k := 551) rfl rfl (by omega) (by omega)).1
      have hz' : z.toInt + (sm (fun s => ab_ri h 551 (s : Int)) t + ab_ri h 551 (t : Int)) = tot := hz
      refine lf_2 r s hr0 hr1 (t := t) (by omega) (by omega) htot (fun h2 z2 H2 f2 e2 n2 => ?_) (ab_ri h 551 (t : Int)).toNat h' z (Int32.ofInt 0) H' hfr (by decide) (by show 0 + _ = _; omega) hz0 (by omega)
      refine mc_cx hmi 2 (F' := (74, [(5, .int (s + Int32.ofInt (-1))), (0, .ref 542), (1, .int r), (4, .int z2)], [], h2, n, 0, 0)) (by with_unfolding_all rfl) ?_
      have e33 : (s + Int32.ofInt (-1)).toInt = s.toInt + (-1) := mc_add rfl (by decide) (by omega) (by omega)
      refine mc_lvs (lv' := [(0, .ref 542), (1, .int r), (4, .int z2), (5, .int (s + Int32.ofInt (-1)))]) (by simp) ?_
      exact ih h2 z2 (s + Int32.ofInt (-1)) H2 f2 (by rw [e33]; omega) (by omega) n2 e2
end
section
/-! ===== contracts of what the methods by hand call (printed by wip/hand/gen2.py) ===== -/
def hq_0 : ab_Q := (169, 1, ([(0, av_k 542), (1, av_s 0), (2, av_s 1), (3, av_s 2), (4, av_s 3)], [], [.inl (0, 5, 0), .inl (0, 13, 0), .inl (0, 13, 0), .inl (1, 24, 0)], [], [], [], 0, 0), [], [([], [av_c 0], [.inl (0, 5, 0), .inl (0, 13, 0), .inl (0, 13, 0), .inl (1, 24, 0)], [], [], [], 0, 0), ([], [av_c 1], [.inl (0, 5, 0), .inl (0, 13, 0), .inl (0, 13, 0), .inl (1, 24, 0)], [], [], [], 0, 0)])  -- X11_mayTake 
def hu_0 : List ab_CU := []
def hq_1 : ab_Q := (173, 1, ([(0, av_s 0), (1, av_s 1)], [], [.inl (0, 2147483647, 0), .inl ((-1999999), 2147483647, 0)], [], [], [], 0, 0), [], [([], [av_s 2], [.inl (0, 2147483647, 0), .inl ((-1999999), 2147483647, 0), .inl (0, 2147483647, 0)], [], [], [], 0, 0)])  -- X11_shared 
def hu_1_0 : ab_CU := (22, ([(2, av_s 2), (3, av_s 3)], [], [.inl (0, 2147483647, 0), .inl ((-1999999), 2147483647, 0), .inl (0, 2147483647, 0), .inl (0, 2147483647, 0)], [], [], [], 0, 0), [(av_c 986, av_c 0), (av_s 3, av_c 0), (av_c 986, av_c 0)])
def hu_1 : List ab_CU := [hu_1_0]
def hq_2 : ab_Q := (174, 2, ([(0, av_k 542), (1, av_s 0)], [], [.inl (0, 5, 0)], [], [], [], 0, 0), [(264452523040700131966976, (-2))], [([], [], [.inl (0, 5, 0)], [], [], [], 0, 0)])  -- X11_bound 
def hu_2_0 : ab_CU := (23, ([(0, av_k 542), (1, av_s 0), (2, av_s 1)], [], [.inl (0, 5, 0), .inl (0, 14, 0)], [], [(av_k 567, av_c 0, av_c 0), (av_k 542, av_c 34, av_k 567), (av_k 566, av_c 0, av_c 0), (av_k 542, av_c 33, av_k 566), (av_k 565, av_c 0, av_c 0), (av_k 542, av_c 32, av_k 565)], [], 0, 0), [(av_c 983, av_c 0), (av_c 14, av_s 1), (av_c 983, av_c 0)])
def hu_2_1 : ab_CU := (63, ([(0, av_k 542), (1, av_s 0), (2, av_s 1), (3, av_s 2), (4, av_s 3), (5, av_s 4), (6, av_s 5)], [], [.inl (0, 5, 0), .inl (0, 13, 0), .inl (0, 9999999, 0), .inl ((-1000000000), 0, 0), .inl (0, 2147483647, 0), .inl (0, 13, 0)], [(5, 1, 0)], [(av_k 542, av_c 0, av_k 543), (av_k 542, av_c 5, av_k 546), (av_k 567, av_c 0, av_c 0), (av_k 542, av_c 34, av_k 567), (av_k 566, av_c 0, av_c 0), (av_k 542, av_c 33, av_k 566), (av_k 565, av_c 0, av_c 0), (av_k 542, av_c 32, av_k 565)], [], 0, 0), [(av_c 983, av_c 0), (av_c 14, av_s 1), (av_c 958, av_c 0), (av_c 13, av_s 5), (av_c 958, av_c 0)])
def hu_2_2 : ab_CU := (72, ([(0, av_k 542), (1, av_s 0), (2, av_s 1), (3, av_s 2), (4, av_s 3), (5, av_s 4), (6, av_s 5), (7, av_s 6)], [], [.inl (0, 5, 0), .inl (1, 13, 0), .inl (0, 9999999, 0), .inl ((-1000000000), 0, 0), .inl (0, 2147483647, 0), .inl (0, 12, 0), .inl (1, 3, 0)], [(5, 1, (-1))], [(av_k 542, av_c 0, av_k 543), (av_k 542, av_c 5, av_k 546), (av_k 567, av_c 0, av_c 0), (av_k 542, av_c 34, av_k 567), (av_k 566, av_c 0, av_c 0), (av_k 542, av_c 33, av_k 566), (av_k 565, av_c 0, av_c 0), (av_k 542, av_c 32, av_k 565)], [], 0, 0), [(av_c 983, av_c 0), (av_c 14, av_s 1), (av_c 958, av_c 0), (av_c 13, av_s 5), (av_c 953, av_c 0), (av_c 3, av_s 6), (av_c 953, av_c 0)])
def hu_2 : List ab_CU := [hu_2_0, hu_2_1, hu_2_2]
def hq_3 : ab_Q := (178, 2, ([(0, av_k 542), (1, av_s 0), (2, av_s 1)], [], [.inl (0, 5, 0), .inl (0, 13, 0)], [], [], [], 0, 0), [], [([], [av_c 0], [.inl (0, 5, 0), .inl (0, 13, 0)], [], [], [], 0, 0), ([], [av_c 1], [.inl (0, 5, 0), .inl (0, 13, 0)], [], [], [], 0, 0)])  -- X11_isAllowed 
def hu_3 : List ab_CU := []
def hq_4 : ab_Q := (170, 2, ([(0, av_k 542), (1, av_s 0), (2, av_s 1), (3, av_s 2), (4, av_s 3), (5, av_s 4)], [], [.inl (0, 5, 0), .inl (0, 13, 0), .inl (1, 21, 0), .inl (0, 13, 0), .inl (0, 14, 0)], [], [], [], 0, 0), [], [([], [av_c 0], [.inl (0, 5, 0), .inl (0, 13, 0), .inl (1, 21, 0), .inl (0, 13, 0), .inl (0, 14, 0)], [], [], [], 0, 0), ([], [av_c 1], [.inl (0, 5, 0), .inl (0, 12, 0), .inl (1, 2, 0), .inl (1, 13, 0), .inl (2, 14, 0)], [(1, 3, (-1)), (1, 4, (-2))], [], [], 0, 0)])  -- X11_mayBegin 
def hu_4_0 : ab_CU := (5, ([(0, av_k 542), (1, av_s 0), (2, av_s 1), (3, av_s 2), (4, av_s 3), (5, av_s 4), (6, av_s 5)], [], [.inl (0, 5, 0), .inl (0, 13, 0), .inl (1, 21, 0), .inl (0, 13, 0), .inl (0, 14, 0), .inl (1, 14, 0)], [(1, 5, (-1))], [], [], 0, 0), [(av_c 996, av_c 0), (av_c 14, av_s 5), (av_c 996, av_c 0)])
def hu_4 : List ab_CU := [hu_4_0]
def hq_5 : ab_Q := (175, 1, ([(0, av_k 542), (1, av_s 0), (2, av_s 1), (3, av_s 2)], [], [.inl (0, 13, 0), .inl ((-2147483648), 2147483647, 0), .inl (0, 24, 0)], [], [], [], 0, 0), [], [([], [av_c 0], [.inl (0, 13, 0), .inl ((-2147483648), 2147483647, 0), .inl (0, 24, 0)], [], [], [], 0, 0), ([], [av_c 1], [.inl (0, 13, 0), .inl ((-2147483648), 2147483647, 0), .inl (0, 24, 0)], [], [], [], 0, 0)])  -- X11_mayCome 
def hu_5 : List ab_CU := []
def hq_6 : ab_Q := (177, 1, ([(0, av_k 542), (1, av_s 0)], [], [.inl (0, 13, 0)], [], [], [], 0, 0), [], [([], [av_s 1], [.inl (0, 13, 0), .inl ((-2999999), 9999999, 0)], [], [], [], 0, 0)])  -- X11_worthBy 
def hu_6 : List ab_CU := []
def hz_all : List ab_Q := [hq_0, hq_1, hq_2, hq_3, hq_4, hq_5, hq_6]
def hz_cd : List (List Nat) := [[], [], [], [], [], [], [], [], [], [], [], [], [], [], [], [], [], [], [], [], [], [], [], [], [], [], [], [], [], [], [], [], [], [], [], [], [], [], [], [], [], [], [], [], [], [], [], [], [], [], [], [], [], [], [], [], [], [], [], [], [], [], [], [], [], [], [], [], [], [], [], [], [], [], [], [], [], [], [], [], [], [], [], [], [], [], [], [], [], [], [], [], [], [], [], [], [], [], [], [], [], [], [], [], [], [], [], [], [], [], [], [], [], [], [], [], [], [], [], [], [], [], [], [], [], [], [], [], [], [], [], [], [], [], [], [], [], [], [], [], [], [], [], [], [], [], [], [], [], [], [], [], [], [], [], [], [], [], [], [], [], [], [], [], [], [], [], [], [], [0], [4], [], [], [1], [2], [5], [], [6], [3], [], [], [], [], [], [], [], [], [], [], [], [], [], [], [], [], [], [], [], [], [], [], [], [], [], [], [], [], [], [], [], [], [], [], [], [], [], [], [], [], [], [], [], [], [], [], [], [], [], [], [], [], [], [], [], [], []]
def hz_mt : ab_MT := [(false, false, []), (false, false, []), (false, false, []), (false, false, []), (false, false, []), (false, false, []), (false, false, []), (false, true, []), (false, true, []), (false, true, []), (false, false, []), (false, false, []), (false, false, []), (false, true, []), (false, false, []), (false, false, []), (false, false, []), (false, false, []), (false, false, []), (false, false, []), (false, false, []), (false, false, []), (false, false, [(0, .inl 3)]), (false, false, []), (false, false, []), (false, false, []), (false, false, []), (false, false, []), (false, false, []), (false, false, []), (false, false, []), (false, false, []), (false, false, []), (false, false, []), (false, false, []), (false, false, []), (false, false, []), (false, false, []), (false, false, []), (false, false, []), (false, false, []), (false, false, []), (false, false, []), (false, false, []), (false, false, []), (false, false, []), (false, false, []), (false, false, []), (false, false, []), (false, false, []), (false, false, []), (false, false, []), (false, false, []), (false, false, []), (false, false, []), (false, false, []), (false, false, []), (false, false, []), (false, false, []), (false, false, []), (false, false, []), (false, false, []), (false, false, []), (false, false, []), (false, false, []), (false, false, []), (false, false, []), (false, false, []), (false, false, []), (false, false, []), (false, false, []), (false, false, []), (false, false, []), (false, false, []), (false, false, []), (false, false, []), (false, false, []), (false, false, []), (false, false, []), (false, false, []), (false, false, []), (false, false, []), (false, false, []), (false, false, []), (false, true, [(0, .inl 1)]), (false, false, [(0, .inl 1)]), (false, false, []), (false, false, []), (false, false, []), (false, false, []), (false, false, []), (false, false, []), (false, false, [(0, .inl 1)]), (false, false, [(0, .inl 1)]), (false, false, []), (false, false, []), (false, false, []), (false, false, []), (false, false, []), (false, false, []), (false, false, []), (false, false, []), (false, false, []), (false, false, []), (false, false, []), (false, false, []), (false, false, []), (false, false, []), (false, false, []), (false, false, []), (false, false, []), (false, false, []), (false, false, []), (false, false, []), (false, false, []), (false, false, []), (false, false, []), (false, false, []), (false, false, []), (false, false, []), (false, false, []), (false, false, []), (false, false, []), (false, false, []), (false, false, []), (false, false, []), (false, false, []), (false, false, []), (false, false, []), (false, false, []), (false, false, []), (false, false, []), (false, false, []), (false, false, []), (false, false, []), (false, false, []), (false, false, []), (false, false, []), (false, false, []), (false, false, []), (false, true, []), (false, true, []), (false, true, []), (false, true, []), (false, false, []), (false, false, []), (false, false, []), (false, false, []), (false, false, []), (false, false, []), (false, false, []), (false, false, []), (false, true, []), (false, false, []), (false, false, []), (false, false, []), (false, false, [(0, .inr (542, 4))]), (false, false, []), (false, false, []), (false, false, []), (false, true, []), (false, false, []), (false, true, []), (false, false, []), (false, false, []), (false, false, []), (false, false, []), (false, false, []), (true, false, []), (false, false, []), (false, false, []), (false, false, []), (false, false, []), (false, false, []), (false, false, []), (false, false, []), (false, false, []), (false, false, []), (false, false, []), (false, false, []), (false, false, []), (false, false, []), (false, false, []), (false, false, []), (false, false, []), (false, false, []), (false, false, []), (false, false, []), (false, false, []), (false, false, []), (false, false, []), (false, true, []), (false, true, [(12, .inl 1)]), (false, true, [(13, .inl 1)]), (false, false, []), (false, true, []), (false, false, []), (false, false, []), (false, false, []), (false, false, []), (false, false, []), (false, false, []), (false, false, []), (false, false, []), (false, false, []), (false, false, []), (false, false, []), (false, false, []), (false, false, []), (false, false, []), (false, false, []), (false, true, []), (false, false, []), (true, false, []), (false, false, []), (false, true, []), (false, false, []), (false, false, []), (false, false, []), (false, false, []), (false, false, []), (false, false, []), (false, false, []), (false, false, []), (false, false, []), (false, false, []), (false, false, []), (false, false, []), (false, false, []), (false, false, []), (false, false, []), (false, false, []), (false, false, []), (false, false, []), (false, false, []), (false, false, [])]
/-! ===== they are checked (printed by wip/hand/gen2.py) ===== -/
set_option maxRecDepth 100000 in
theorem hk_0_E : ab_chkE mt_prog hz_mt hz_cd hz_all 0 hq_0 mt_X11_mayTake hu_0 = true := by decide +kernel
set_option maxRecDepth 100000 in
theorem hk_1_E : ab_chkE mt_prog hz_mt hz_cd hz_all 1 hq_1 mt_X11_shared hu_1 = true := by decide +kernel
set_option maxRecDepth 100000 in
theorem hk_1_0 : ab_chkC mt_prog hz_mt hz_cd hz_all 1 hq_1 mt_X11_shared hu_1 hu_1_0 = true := by decide +kernel
/-! ===== they are checked (printed by wip/hand/gen2.py) ===== -/
set_option maxRecDepth 100000 in
theorem hk_2_E : ab_chkE mt_prog hz_mt hz_cd hz_all 2 hq_2 mt_X11_bound hu_2 = true := by decide +kernel
set_option maxRecDepth 100000 in
theorem hk_2_0 : ab_chkC mt_prog hz_mt hz_cd hz_all 2 hq_2 mt_X11_bound hu_2 hu_2_0 = true := by decide +kernel
set_option maxRecDepth 100000 in
theorem hk_2_1 : ab_chkC mt_prog hz_mt hz_cd hz_all 2 hq_2 mt_X11_bound hu_2 hu_2_1 = true := by decide +kernel
set_option maxRecDepth 100000 in
theorem hk_2_2 : ab_chkC mt_prog hz_mt hz_cd hz_all 2 hq_2 mt_X11_bound hu_2 hu_2_2 = true := by decide +kernel
/-! ===== they are checked (printed by wip/hand/gen2.py) ===== -/
set_option maxRecDepth 100000 in
theorem hk_3_E : ab_chkE mt_prog hz_mt hz_cd hz_all 3 hq_3 mt_X11_isAllowed hu_3 = true := by decide +kernel
set_option maxRecDepth 100000 in
theorem hk_4_E : ab_chkE mt_prog hz_mt hz_cd hz_all 4 hq_4 mt_X11_mayBegin hu_4 = true := by decide +kernel
set_option maxRecDepth 100000 in
theorem hk_4_0 : ab_chkC mt_prog hz_mt hz_cd hz_all 4 hq_4 mt_X11_mayBegin hu_4 hu_4_0 = true := by decide +kernel
/-! ===== they are checked (printed by wip/hand/gen2.py) ===== -/
set_option maxRecDepth 100000 in
theorem hk_5_E : ab_chkE mt_prog hz_mt hz_cd hz_all 5 hq_5 mt_X11_mayCome hu_5 = true := by decide +kernel
set_option maxRecDepth 100000 in
theorem hk_6_E : ab_chkE mt_prog hz_mt hz_cd hz_all 6 hq_6 mt_X11_worthBy hu_6 = true := by decide +kernel
/-! ===== they hold ===== -/
section CY
variable {l : Launch} {G : ax_T}
theorem hy_0 : ∀ c Q, c < 0 → hz_all[c]? = some Q → ab_QOk l G mt_prog Q := fun c Q hc => absurd hc (Nat.not_lt_zero c)
theorem hy_1 : ∀ c Q, c < 1 → hz_all[c]? = some Q → ab_QOk l G mt_prog Q := ab_up (q := hq_0) hy_0 rfl (ab_con_ok mt_ok hy_0 mi_X11_mayTake rfl hk_0_E (fun c hc => nomatch hc))
theorem hy_2 : ∀ c Q, c < 2 → hz_all[c]? = some Q → ab_QOk l G mt_prog Q := ab_up (q := hq_1) hy_1 rfl (ab_con_ok mt_ok hy_1 mi_X11_shared rfl hk_1_E (List.forall_mem_cons.mpr ⟨hk_1_0, (fun c hc => nomatch hc)⟩))
theorem hy_3 : ∀ c Q, c < 3 → hz_all[c]? = some Q → ab_QOk l G mt_prog Q := ab_up (q := hq_2) hy_2 rfl (ab_con_ok mt_ok hy_2 mi_X11_bound rfl hk_2_E (List.forall_mem_cons.mpr ⟨hk_2_0, (List.forall_mem_cons.mpr ⟨hk_2_1, (List.forall_mem_cons.mpr ⟨hk_2_2, (fun c hc => nomatch hc)⟩)⟩)⟩))
theorem hy_4 : ∀ c Q, c < 4 → hz_all[c]? = some Q → ab_QOk l G mt_prog Q := ab_up (q := hq_3) hy_3 rfl (ab_con_ok mt_ok hy_3 mi_X11_isAllowed rfl hk_3_E (fun c hc => nomatch hc))
theorem hy_5 : ∀ c Q, c < 5 → hz_all[c]? = some Q → ab_QOk l G mt_prog Q := ab_up (q := hq_4) hy_4 rfl (ab_con_ok mt_ok hy_4 mi_X11_mayBegin rfl hk_4_E (List.forall_mem_cons.mpr ⟨hk_4_0, (fun c hc => nomatch hc)⟩))
theorem hy_6 : ∀ c Q, c < 6 → hz_all[c]? = some Q → ab_QOk l G mt_prog Q := ab_up (q := hq_5) hy_5 rfl (ab_con_ok mt_ok hy_5 mi_X11_mayCome rfl hk_5_E (fun c hc => nomatch hc))
theorem hy_7 : ∀ c Q, c < 7 → hz_all[c]? = some Q → ab_QOk l G mt_prog Q := ab_up (q := hq_6) hy_6 rfl (ab_con_ok mt_ok hy_6 mi_X11_worthBy rfl hk_6_E (fun c hc => nomatch hc))
end CY
/-- a contract, for a method that is called from one by hand -/
theorem mc_con {l : Launch} {G : ax_T} {Q : ab_Q} {mi : ax_MI} {d : Nat} {h : ax_H} {n : Nat} (hQ : ab_QOk l G mt_prog Q) (hmi : mt_prog[Q.1]? = some mi) (hd : Q.2.1 ≤ d) (V as : List Value) (hl : Nat.ble (lg_sl as).length mi.2.2.2.1 = true) {lv : List (Nat × ab_V)} {Γ : List ab_Y} (hp : Q.2.2.1 = (lv, [], Γ, [], [], [], 0, 0)) (hlv : ab_lvR V lv (lv_args 0 as)) (hΓ : ab_ty n V Γ) (H : ab_HT h n) :
    mc_M l G d mi as h n (fun r h' n' => ab_HT h' n' ∧ n ≤ n' ∧ ab_fr Q.2.2.2.1 n h h' ∧ ∃ P ∈ Q.2.2.2.2, ∃ V', ab_ty n' V' P.2.2.1 ∧ ab_stR V' P.2.1 r.toList) := by
  have hg : ab_g (V, h, n, Q.2.2.2.1) Q.2.2.1 V (lv_args 0 as) [] h n 0 0 := by
    rw [hp]
    exact ⟨hlv, trivial, hΓ, fun q hq => (nomatch hq), fun q hq => (nomatch hq), fun q hq => (nomatch hq), ⟨rfl, rfl⟩, ⟨H, fun k _ i _ => rfl, Nat.le_refl _⟩, fun u v hu => hu⟩
  obtain ⟨o, hM, P, hP, V', c', s', g1, g2, g3, g4, g5, g6, g7, g8, g9⟩ := hQ mi hmi d hd V as h n (by simpa [Nat.ble_eq] using hl) hg
  exact ⟨o, hM, g8.1, g8.2.2, g8.2.1, P, hP, V', g3, g2⟩
/-- a predicate by contract: 0 or 1 -/
theorem mc_b01 {V : List Value} {r : Option Value} {P : ab_S} {Ps : List ab_S} (hP : P ∈ Ps) (hs : Ps.all (fun P => match P.2.1 with | [.inl c] => decide (c = 0) || decide (c = 1) | _ => false) = true) (hr : ab_stR V P.2.1 r.toList) : ∃ y : Int32, r = some (.int y) ∧ (y.toInt = 0 ∨ y.toInt = 1) := by
  have h1 := List.all_eq_true.mp hs P hP
  split at h1
  · rename_i c hc
    rw [hc] at hr
    cases r with
    | none => exact hr.elim
    | some v =>
      have hv := hr.1
      simp only [Bool.or_eq_true, decide_eq_true_eq] at h1
      rcases h1 with rfl | rfl
      · cases hv
        exact ⟨_, rfl, Or.inl rfl⟩
      · cases hv
        exact ⟨_, rfl, Or.inr rfl⟩
  · cases h1
end

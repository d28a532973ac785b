/-! ===== the law's instructions, checked: the rest ===== -/
set_option maxRecDepth 100000 in
theorem ct_law_18 : mc_law_18.all (ax_chkE mt_prog "LetterSumsLaw" "law" code) = true := by decide +kernel
set_option maxRecDepth 100000 in
theorem ct_law_19 : mc_law_19.all (ax_chkE mt_prog "LetterSumsLaw" "law" code) = true := by decide +kernel
set_option maxRecDepth 100000 in
theorem ct_law_20 : mc_law_20.all (ax_chkE mt_prog "LetterSumsLaw" "law" code) = true := by decide +kernel
set_option maxRecDepth 100000 in
theorem ct_law_21 : mc_law_21.all (ax_chkE mt_prog "LetterSumsLaw" "law" code) = true := by decide +kernel
set_option maxRecDepth 100000 in
theorem ct_law_22 : mc_law_22.all (ax_chkE mt_prog "LetterSumsLaw" "law" code) = true := by decide +kernel
set_option maxRecDepth 100000 in
theorem ct_law_23 : mc_law_23.all (ax_chkE mt_prog "LetterSumsLaw" "law" code) = true := by decide +kernel
set_option maxRecDepth 100000 in
theorem ct_law_24 : mc_law_24.all (ax_chkE mt_prog "LetterSumsLaw" "law" code) = true := by decide +kernel
set_option maxRecDepth 100000 in
theorem ct_law_25 : mc_law_25.all (ax_chkE mt_prog "LetterSumsLaw" "law" code) = true := by decide +kernel
set_option maxRecDepth 100000 in
theorem ct_law_26 : mc_law_26.all (ax_chkE mt_prog "LetterSumsLaw" "law" code) = true := by decide +kernel
set_option maxRecDepth 100000 in
theorem ct_law_27 : mc_law_27.all (ax_chkE mt_prog "LetterSumsLaw" "law" code) = true := by decide +kernel
set_option maxRecDepth 100000 in
theorem ct_law_28 : mc_law_28.all (ax_chkE mt_prog "LetterSumsLaw" "law" code) = true := by decide +kernel
set_option maxRecDepth 100000 in
theorem ct_law_29 : mc_law_29.all (ax_chkE mt_prog "LetterSumsLaw" "law" code) = true := by decide +kernel
set_option maxRecDepth 100000 in
theorem ct_law_30 : mc_law_30.all (ax_chkE mt_prog "LetterSumsLaw" "law" code) = true := by decide +kernel
set_option maxRecDepth 100000 in
theorem ct_law_31 : mc_law_31.all (ax_chkE mt_prog "LetterSumsLaw" "law" code) = true := by decide +kernel
set_option maxRecDepth 100000 in
theorem ct_law_32 : mc_law_32.all (ax_chkE mt_prog "LetterSumsLaw" "law" code) = true := by decide +kernel
set_option maxRecDepth 100000 in
theorem ct_law_33 : mc_law_33.all (ax_chkE mt_prog "LetterSumsLaw" "law" code) = true := by decide +kernel
set_option maxRecDepth 100000 in
theorem ct_law_34 : mc_law_34.all (ax_chkE mt_prog "LetterSumsLaw" "law" code) = true := by decide +kernel
set_option maxRecDepth 100000 in
theorem ct_law_35 : mc_law_35.all (ax_chkE mt_prog "LetterSumsLaw" "law" code) = true := by decide +kernel
set_option maxRecDepth 100000 in
theorem ct_law_36 : mc_law_36.all (ax_chkE mt_prog "LetterSumsLaw" "law" code) = true := by decide +kernel
theorem lw_tab_all : ∀ ch ∈ lw_tab, ch.all (ax_chkE mt_prog "LetterSumsLaw" "law" code) = true := List.forall_mem_cons.mpr ⟨ct_law_0, List.forall_mem_cons.mpr ⟨ct_law_1, List.forall_mem_cons.mpr ⟨ct_law_2, List.forall_mem_cons.mpr ⟨ct_law_3, List.forall_mem_cons.mpr ⟨ct_law_4, List.forall_mem_cons.mpr ⟨ct_law_5, List.forall_mem_cons.mpr ⟨ct_law_6, List.forall_mem_cons.mpr ⟨ct_law_7, List.forall_mem_cons.mpr ⟨ct_law_8, List.forall_mem_cons.mpr ⟨ct_law_9, List.forall_mem_cons.mpr ⟨ct_law_10, List.forall_mem_cons.mpr ⟨ct_law_11, List.forall_mem_cons.mpr ⟨ct_law_12, List.forall_mem_cons.mpr ⟨ct_law_13, List.forall_mem_cons.mpr ⟨ct_law_14, List.forall_mem_cons.mpr ⟨ct_law_15, List.forall_mem_cons.mpr ⟨ct_law_16, List.forall_mem_cons.mpr ⟨ct_law_17, List.forall_mem_cons.mpr ⟨ct_law_18, List.forall_mem_cons.mpr ⟨ct_law_19, List.forall_mem_cons.mpr ⟨ct_law_20, List.forall_mem_cons.mpr ⟨ct_law_21, List.forall_mem_cons.mpr ⟨ct_law_22, List.forall_mem_cons.mpr ⟨ct_law_23, List.forall_mem_cons.mpr ⟨ct_law_24, List.forall_mem_cons.mpr ⟨ct_law_25, List.forall_mem_cons.mpr ⟨ct_law_26, List.forall_mem_cons.mpr ⟨ct_law_27, List.forall_mem_cons.mpr ⟨ct_law_28, List.forall_mem_cons.mpr ⟨ct_law_29, List.forall_mem_cons.mpr ⟨ct_law_30, List.forall_mem_cons.mpr ⟨ct_law_31, List.forall_mem_cons.mpr ⟨ct_law_32, List.forall_mem_cons.mpr ⟨ct_law_33, List.forall_mem_cons.mpr ⟨ct_law_34, List.forall_mem_cons.mpr ⟨ct_law_35, List.forall_mem_cons.mpr ⟨ct_law_36, fun _ h => absurd h List.not_mem_nil⟩⟩⟩⟩⟩⟩⟩⟩⟩⟩⟩⟩⟩⟩⟩⟩⟩⟩⟩⟩⟩⟩⟩⟩⟩⟩⟩⟩⟩⟩⟩⟩⟩⟩⟩⟩⟩
theorem lw_tab_ok : ∀ ch ∈ lw_tab, ∀ en ∈ ch, ax_Ok mt_prog "LetterSumsLaw" "law" code en.1 en.2.1 en.2.2.1 en.2.2.2.1 := fun ch hch en hen => ax_chkE_ok (List.all_eq_true.mp (lw_tab_all ch hch) en hen)

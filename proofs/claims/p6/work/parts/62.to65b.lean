section
/-! ===== all contracts hold, if those by hand do (printed by wip/safe/gen.py) ===== -/
def ab_Hand (l : Launch) (G : ax_T) : Prop := ∀ c Q, c < 5 → cs_all[c]? = some Q → ab_QOk l G mt_prog Q
theorem ab_up {l : Launch} {G : ax_T} {CS : List ab_Q} {i : Nat} {q : ab_Q} (h : ∀ c Q, c < i → CS[c]? = some Q → ab_QOk l G mt_prog Q) (hq : CS[i]? = some q) (hk : ab_QOk l G mt_prog q) : ∀ c Q, c < i + 1 → CS[c]? = some Q → ab_QOk l G mt_prog Q := fun c Q hc hQ => by
  by_cases e : c = i
  · subst e
    rw [hq] at hQ
    cases hQ
    exact hk
  · exact h c Q (by omega) hQ
section CY
variable {l : Launch} {G : ax_T}
theorem cy_6 (H : ab_Hand l G) : ∀ c Q, c < 6 → cs_all[c]? = some Q → ab_QOk l G mt_prog Q := ab_up (q := cq_5) H rfl (ab_con_ok mt_ok H mi_X11_signOf rfl ck_5_E (fun c hc => nomatch hc))
theorem cy_7 (H : ab_Hand l G) : ∀ c Q, c < 7 → cs_all[c]? = some Q → ab_QOk l G mt_prog Q := ab_up (q := cq_6) (cy_6 H) rfl (ab_con_ok mt_ok (cy_6 H) mi_X11_signOf rfl ck_6_E (fun c hc => nomatch hc))
theorem cy_8 (H : ab_Hand l G) : ∀ c Q, c < 8 → cs_all[c]? = some Q → ab_QOk l G mt_prog Q := ab_up (q := cq_7) (cy_7 H) rfl (ab_con_ok mt_ok (cy_7 H) mi_X0_acceptMore rfl ck_7_E (List.forall_mem_cons.mpr ⟨ck_7_0, (List.forall_mem_cons.mpr ⟨ck_7_1, (fun c hc => nomatch hc)⟩)⟩))
theorem cy_9 (H : ab_Hand l G) : ∀ c Q, c < 9 → cs_all[c]? = some Q → ab_QOk l G mt_prog Q := ab_up (q := cq_8) (cy_8 H) rfl (ab_con_ok mt_ok (cy_8 H) mi_X5_isTaken rfl ck_8_E (fun c hc => nomatch hc))
theorem cy_10 (H : ab_Hand l G) : ∀ c Q, c < 10 → cs_all[c]? = some Q → ab_QOk l G mt_prog Q := ab_up (q := cq_9) (cy_9 H) rfl (ab_con_ok mt_ok (cy_9 H) mi_X0_addRow rfl ck_9_E (List.forall_mem_cons.mpr ⟨ck_9_0, (List.forall_mem_cons.mpr ⟨ck_9_1, (fun c hc => nomatch hc)⟩)⟩))
theorem cy_11 (H : ab_Hand l G) : ∀ c Q, c < 11 → cs_all[c]? = some Q → ab_QOk l G mt_prog Q := ab_up (q := cq_10) (cy_10 H) rfl (ab_con_ok mt_ok (cy_10 H) mi_X0_leastOwed rfl ck_10_E (List.forall_mem_cons.mpr ⟨ck_10_0, (fun c hc => nomatch hc)⟩))
theorem cy_12 (H : ab_Hand l G) : ∀ c Q, c < 12 → cs_all[c]? = some Q → ab_QOk l G mt_prog Q := ab_up (q := cq_11) (cy_11 H) rfl (ab_con_ok mt_ok (cy_11 H) mi_X0_pebbles rfl ck_11_E (List.forall_mem_cons.mpr ⟨ck_11_0, (fun c hc => nomatch hc)⟩))
theorem cy_13 (H : ab_Hand l G) : ∀ c Q, c < 13 → cs_all[c]? = some Q → ab_QOk l G mt_prog Q := ab_up (q := cq_12) (cy_12 H) rfl (ab_con_ok mt_ok (cy_12 H) mi_X0_canBeLifted rfl ck_12_E (fun c hc => nomatch hc))
theorem cy_14 (H : ab_Hand l G) : ∀ c Q, c < 14 → cs_all[c]? = some Q → ab_QOk l G mt_prog Q := ab_up (q := cq_13) (cy_13 H) rfl (ab_con_ok mt_ok (cy_13 H) mi_X0_clear rfl ck_13_E (List.forall_mem_cons.mpr ⟨ck_13_0, (fun c hc => nomatch hc)⟩))
theorem cy_15 (H : ab_Hand l G) : ∀ c Q, c < 15 → cs_all[c]? = some Q → ab_QOk l G mt_prog Q := ab_up (q := cq_14) (cy_14 H) rfl (ab_con_ok mt_ok (cy_14 H) mi_X5_put rfl ck_14_E (List.forall_mem_cons.mpr ⟨ck_14_0, (fun c hc => nomatch hc)⟩))
theorem cy_16 (H : ab_Hand l G) : ∀ c Q, c < 16 → cs_all[c]? = some Q → ab_QOk l G mt_prog Q := ab_up (q := cq_15) (cy_15 H) rfl (ab_con_ok mt_ok (cy_15 H) mi_X0_copyGiven rfl ck_15_E (List.forall_mem_cons.mpr ⟨ck_15_0, (fun c hc => nomatch hc)⟩))
theorem cy_17 (H : ab_Hand l G) : ∀ c Q, c < 17 → cs_all[c]? = some Q → ab_QOk l G mt_prog Q := ab_up (q := cq_16) (cy_16 H) rfl (ab_con_ok mt_ok (cy_16 H) mi_X10_mix rfl ck_16_E (fun c hc => nomatch hc))
theorem cy_18 (H : ab_Hand l G) : ∀ c Q, c < 18 → cs_all[c]? = some Q → ab_QOk l G mt_prog Q := ab_up (q := cq_17) (cy_17 H) rfl (ab_con_ok mt_ok (cy_17 H) mi_X0_digestOn rfl ck_17_E (List.forall_mem_cons.mpr ⟨ck_17_0, (fun c hc => nomatch hc)⟩))
theorem cy_19 (H : ab_Hand l G) : ∀ c Q, c < 19 → cs_all[c]? = some Q → ab_QOk l G mt_prog Q := ab_up (q := cq_18) (cy_18 H) rfl (ab_con_ok mt_ok (cy_18 H) mi_X0_hasColumns rfl ck_18_E (List.forall_mem_cons.mpr ⟨ck_18_0, (fun c hc => nomatch hc)⟩))
theorem cy_20 (H : ab_Hand l G) : ∀ c Q, c < 20 → cs_all[c]? = some Q → ab_QOk l G mt_prog Q := ab_up (q := cq_19) (cy_19 H) rfl (ab_con_ok mt_ok (cy_19 H) mi_X0_nextStep rfl ck_19_E (List.forall_mem_cons.mpr ⟨ck_19_0, (List.forall_mem_cons.mpr ⟨ck_19_1, (List.forall_mem_cons.mpr ⟨ck_19_2, (fun c hc => nomatch hc)⟩)⟩)⟩))
theorem cy_21 (H : ab_Hand l G) : ∀ c Q, c < 21 → cs_all[c]? = some Q → ab_QOk l G mt_prog Q := ab_up (q := cq_20) (cy_20 H) rfl (ab_con_ok mt_ok (cy_20 H) mi_X0_settleAll rfl ck_20_E (List.forall_mem_cons.mpr ⟨ck_20_0, (fun c hc => nomatch hc)⟩))
theorem cy_22 (H : ab_Hand l G) : ∀ c Q, c < 22 → cs_all[c]? = some Q → ab_QOk l G mt_prog Q := ab_up (q := cq_21) (cy_21 H) rfl (ab_con_ok mt_ok (cy_21 H) mi_X0_total rfl ck_21_E (List.forall_mem_cons.mpr ⟨ck_21_0, (fun c hc => nomatch hc)⟩))
theorem cy_23 (H : ab_Hand l G) : ∀ c Q, c < 23 → cs_all[c]? = some Q → ab_QOk l G mt_prog Q := ab_up (q := cq_22) (cy_22 H) rfl (ab_con_ok mt_ok (cy_22 H) mi_X10_asks rfl ck_22_E (fun c hc => nomatch hc))
theorem cy_24 (H : ab_Hand l G) : ∀ c Q, c < 24 → cs_all[c]? = some Q → ab_QOk l G mt_prog Q := ab_up (q := cq_23) (cy_23 H) rfl (ab_con_ok mt_ok (cy_23 H) mi_X1_signIn rfl ck_23_E (fun c hc => nomatch hc))
theorem cy_25 (H : ab_Hand l G) : ∀ c Q, c < 25 → cs_all[c]? = some Q → ab_QOk l G mt_prog Q := ab_up (q := cq_24) (cy_24 H) rfl (ab_con_ok mt_ok (cy_24 H) mi_X1_standingOf rfl ck_24_E (fun c hc => nomatch hc))
theorem cy_26 (H : ab_Hand l G) : ∀ c Q, c < 26 → cs_all[c]? = some Q → ab_QOk l G mt_prog Q := ab_up (q := cq_25) (cy_25 H) rfl (ab_con_ok mt_ok (cy_25 H) mi_X1_closePlain rfl ck_25_E (fun c hc => nomatch hc))
theorem cy_27 (H : ab_Hand l G) : ∀ c Q, c < 27 → cs_all[c]? = some Q → ab_QOk l G mt_prog Q := ab_up (q := cq_26) (cy_26 H) rfl (ab_con_ok mt_ok (cy_26 H) mi_X1_belowIn rfl ck_26_E (fun c hc => nomatch hc))
theorem cy_28 (H : ab_Hand l G) : ∀ c Q, c < 28 → cs_all[c]? = some Q → ab_QOk l G mt_prog Q := ab_up (q := cq_27) (cy_27 H) rfl (ab_con_ok mt_ok (cy_27 H) mi_X1_mayTakeOnce rfl ck_27_E (fun c hc => nomatch hc))
theorem cy_29 (H : ab_Hand l G) : ∀ c Q, c < 29 → cs_all[c]? = some Q → ab_QOk l G mt_prog Q := ab_up (q := cq_28) (cy_28 H) rfl (ab_con_ok mt_ok (cy_28 H) mi_X1_mayTakeTwice rfl ck_28_E (fun c hc => nomatch hc))
theorem cy_30 (H : ab_Hand l G) : ∀ c Q, c < 30 → cs_all[c]? = some Q → ab_QOk l G mt_prog Q := ab_up (q := cq_29) (cy_29 H) rfl (ab_con_ok mt_ok (cy_29 H) mi_X1_openIn rfl ck_29_E (fun c hc => nomatch hc))
theorem cy_31 (H : ab_Hand l G) : ∀ c Q, c < 31 → cs_all[c]? = some Q → ab_QOk l G mt_prog Q := ab_up (q := cq_30) (cy_30 H) rfl (ab_con_ok mt_ok (cy_30 H) mi_X1_closeTaking rfl ck_30_E (fun c hc => nomatch hc))
theorem cy_32 (H : ab_Hand l G) : ∀ c Q, c < 32 → cs_all[c]? = some Q → ab_QOk l G mt_prog Q := ab_up (q := cq_31) (cy_31 H) rfl (ab_con_ok mt_ok (cy_31 H) mi_X1_leaveOpen rfl ck_31_E (fun c hc => nomatch hc))
theorem cy_33 (H : ab_Hand l G) : ∀ c Q, c < 33 → cs_all[c]? = some Q → ab_QOk l G mt_prog Q := ab_up (q := cq_32) (cy_32 H) rfl (ab_con_ok mt_ok (cy_32 H) mi_X1_after rfl ck_32_E (fun c hc => nomatch hc))
theorem cy_34 (H : ab_Hand l G) : ∀ c Q, c < 34 → cs_all[c]? = some Q → ab_QOk l G mt_prog Q := ab_up (q := cq_33) (cy_33 H) rfl (ab_con_ok mt_ok (cy_33 H) mi_X1_goodSigns rfl ck_33_E (List.forall_mem_cons.mpr ⟨ck_33_0, (fun c hc => nomatch hc)⟩))
theorem cy_35 (H : ab_Hand l G) : ∀ c Q, c < 35 → cs_all[c]? = some Q → ab_QOk l G mt_prog Q := ab_up (q := cq_34) (cy_34 H) rfl (ab_con_ok mt_ok (cy_34 H) mi_X10_begins rfl ck_34_E (fun c hc => nomatch hc))
theorem cy_36 (H : ab_Hand l G) : ∀ c Q, c < 36 → cs_all[c]? = some Q → ab_QOk l G mt_prog Q := ab_up (q := cq_35) (cy_35 H) rfl (ab_con_ok mt_ok (cy_35 H) mi_X10_blank rfl ck_35_E (fun c hc => nomatch hc))
theorem cy_37 (H : ab_Hand l G) : ∀ c Q, c < 37 → cs_all[c]? = some Q → ab_QOk l G mt_prog Q := ab_up (q := cq_36) (cy_36 H) rfl (ab_con_ok mt_ok (cy_36 H) mi_X10_board rfl ck_36_E (fun c hc => nomatch hc))
theorem cy_38 (H : ab_Hand l G) : ∀ c Q, c < 38 → cs_all[c]? = some Q → ab_QOk l G mt_prog Q := ab_up (q := cq_37) (cy_37 H) rfl (ab_con_ok mt_ok (cy_37 H) mi_X10_bundle rfl ck_37_E (fun c hc => nomatch hc))
theorem cy_39 (H : ab_Hand l G) : ∀ c Q, c < 39 → cs_all[c]? = some Q → ab_QOk l G mt_prog Q := ab_up (q := cq_38) (cy_38 H) rfl (ab_con_ok mt_ok (cy_38 H) mi_X7_dropLikeWorths rfl ck_38_E (List.forall_mem_cons.mpr ⟨ck_38_0, (fun c hc => nomatch hc)⟩))
theorem cy_40 (H : ab_Hand l G) : ∀ c Q, c < 40 → cs_all[c]? = some Q → ab_QOk l G mt_prog Q := ab_up (q := cq_39) (cy_39 H) rfl (ab_con_ok mt_ok (cy_39 H) mi_X1_isWhole rfl ck_39_E (fun c hc => nomatch hc))
theorem cy_41 (H : ab_Hand l G) : ∀ c Q, c < 41 → cs_all[c]? = some Q → ab_QOk l G mt_prog Q := ab_up (q := cq_40) (cy_40 H) rfl (ab_con_ok mt_ok (cy_40 H) mi_X5_total rfl ck_40_E (List.forall_mem_cons.mpr ⟨ck_40_0, (fun c hc => nomatch hc)⟩))
theorem cy_42 (H : ab_Hand l G) : ∀ c Q, c < 42 → cs_all[c]? = some Q → ab_QOk l G mt_prog Q := ab_up (q := cq_41) (cy_41 H) rfl (ab_con_ok mt_ok (cy_41 H) mi_X7_keepFilling rfl ck_41_E (List.forall_mem_cons.mpr ⟨ck_41_0, (fun c hc => nomatch hc)⟩))
theorem cy_43 (H : ab_Hand l G) : ∀ c Q, c < 43 → cs_all[c]? = some Q → ab_QOk l G mt_prog Q := ab_up (q := cq_42) (cy_42 H) rfl (ab_con_ok mt_ok (cy_42 H) mi_X7_fillFrom rfl ck_42_E (fun c hc => nomatch hc))
theorem cy_44 (H : ab_Hand l G) : ∀ c Q, c < 44 → cs_all[c]? = some Q → ab_QOk l G mt_prog Q := ab_up (q := cq_43) (cy_43 H) rfl (ab_con_ok mt_ok (cy_43 H) mi_X7_fillFrom rfl ck_43_E (List.forall_mem_cons.mpr ⟨ck_43_0, (fun c hc => nomatch hc)⟩))
theorem cy_45 (H : ab_Hand l G) : ∀ c Q, c < 45 → cs_all[c]? = some Q → ab_QOk l G mt_prog Q := ab_up (q := cq_44) (cy_44 H) rfl (ab_con_ok mt_ok (cy_44 H) mi_X7_fillFrom rfl ck_44_E (List.forall_mem_cons.mpr ⟨ck_44_0, (fun c hc => nomatch hc)⟩))
theorem cy_46 (H : ab_Hand l G) : ∀ c Q, c < 46 → cs_all[c]? = some Q → ab_QOk l G mt_prog Q := ab_up (q := cq_45) (cy_45 H) rfl (ab_con_ok mt_ok (cy_45 H) mi_X7_fillFrom rfl ck_45_E (List.forall_mem_cons.mpr ⟨ck_45_0, (fun c hc => nomatch hc)⟩))
theorem cy_47 (H : ab_Hand l G) : ∀ c Q, c < 47 → cs_all[c]? = some Q → ab_QOk l G mt_prog Q := ab_up (q := cq_46) (cy_46 H) rfl (ab_con_ok mt_ok (cy_46 H) mi_X7_fillFrom rfl ck_46_E (List.forall_mem_cons.mpr ⟨ck_46_0, (fun c hc => nomatch hc)⟩))
theorem cy_48 (H : ab_Hand l G) : ∀ c Q, c < 48 → cs_all[c]? = some Q → ab_QOk l G mt_prog Q := ab_up (q := cq_47) (cy_47 H) rfl (ab_con_ok mt_ok (cy_47 H) mi_X7_fillFrom rfl ck_47_E (List.forall_mem_cons.mpr ⟨ck_47_0, (fun c hc => nomatch hc)⟩))
theorem cy_49 (H : ab_Hand l G) : ∀ c Q, c < 49 → cs_all[c]? = some Q → ab_QOk l G mt_prog Q := ab_up (q := cq_48) (cy_48 H) rfl (ab_con_ok mt_ok (cy_48 H) mi_X7_fillFrom rfl ck_48_E (List.forall_mem_cons.mpr ⟨ck_48_0, (fun c hc => nomatch hc)⟩))
theorem cy_50 (H : ab_Hand l G) : ∀ c Q, c < 50 → cs_all[c]? = some Q → ab_QOk l G mt_prog Q := ab_up (q := cq_49) (cy_49 H) rfl (ab_con_ok mt_ok (cy_49 H) mi_X7_fillFrom rfl ck_49_E (List.forall_mem_cons.mpr ⟨ck_49_0, (fun c hc => nomatch hc)⟩))
theorem cy_51 (H : ab_Hand l G) : ∀ c Q, c < 51 → cs_all[c]? = some Q → ab_QOk l G mt_prog Q := ab_up (q := cq_50) (cy_50 H) rfl (ab_con_ok mt_ok (cy_50 H) mi_X7_fillFrom rfl ck_50_E (List.forall_mem_cons.mpr ⟨ck_50_0, (fun c hc => nomatch hc)⟩))
theorem cy_52 (H : ab_Hand l G) : ∀ c Q, c < 52 → cs_all[c]? = some Q → ab_QOk l G mt_prog Q := ab_up (q := cq_51) (cy_51 H) rfl (ab_con_ok mt_ok (cy_51 H) mi_X7_fillFrom rfl ck_51_E (List.forall_mem_cons.mpr ⟨ck_51_0, (fun c hc => nomatch hc)⟩))
theorem cy_53 (H : ab_Hand l G) : ∀ c Q, c < 53 → cs_all[c]? = some Q → ab_QOk l G mt_prog Q := ab_up (q := cq_52) (cy_52 H) rfl (ab_con_ok mt_ok (cy_52 H) mi_X7_fillFrom rfl ck_52_E (List.forall_mem_cons.mpr ⟨ck_52_0, (fun c hc => nomatch hc)⟩))
theorem cy_54 (H : ab_Hand l G) : ∀ c Q, c < 54 → cs_all[c]? = some Q → ab_QOk l G mt_prog Q := ab_up (q := cq_53) (cy_53 H) rfl (ab_con_ok mt_ok (cy_53 H) mi_X7_fillFrom rfl ck_53_E (List.forall_mem_cons.mpr ⟨ck_53_0, (fun c hc => nomatch hc)⟩))
theorem cy_55 (H : ab_Hand l G) : ∀ c Q, c < 55 → cs_all[c]? = some Q → ab_QOk l G mt_prog Q := ab_up (q := cq_54) (cy_54 H) rfl (ab_con_ok mt_ok (cy_54 H) mi_X7_fillFrom rfl ck_54_E (List.forall_mem_cons.mpr ⟨ck_54_0, (fun c hc => nomatch hc)⟩))
theorem cy_56 (H : ab_Hand l G) : ∀ c Q, c < 56 → cs_all[c]? = some Q → ab_QOk l G mt_prog Q := ab_up (q := cq_55) (cy_55 H) rfl (ab_con_ok mt_ok (cy_55 H) mi_X7_fillFrom rfl ck_55_E (List.forall_mem_cons.mpr ⟨ck_55_0, (fun c hc => nomatch hc)⟩))
theorem cy_57 (H : ab_Hand l G) : ∀ c Q, c < 57 → cs_all[c]? = some Q → ab_QOk l G mt_prog Q := ab_up (q := cq_56) (cy_56 H) rfl (ab_con_ok mt_ok (cy_56 H) mi_X7_fillFrom rfl ck_56_E (List.forall_mem_cons.mpr ⟨ck_56_0, (fun c hc => nomatch hc)⟩))
theorem cy_58 (H : ab_Hand l G) : ∀ c Q, c < 58 → cs_all[c]? = some Q → ab_QOk l G mt_prog Q := ab_up (q := cq_57) (cy_57 H) rfl (ab_con_ok mt_ok (cy_57 H) mi_X7_fillFrom rfl ck_57_E (List.forall_mem_cons.mpr ⟨ck_57_0, (fun c hc => nomatch hc)⟩))
theorem cy_59 (H : ab_Hand l G) : ∀ c Q, c < 59 → cs_all[c]? = some Q → ab_QOk l G mt_prog Q := ab_up (q := cq_58) (cy_58 H) rfl (ab_con_ok mt_ok (cy_58 H) mi_X7_fillFrom rfl ck_58_E (List.forall_mem_cons.mpr ⟨ck_58_0, (fun c hc => nomatch hc)⟩))
theorem cy_60 (H : ab_Hand l G) : ∀ c Q, c < 60 → cs_all[c]? = some Q → ab_QOk l G mt_prog Q := ab_up (q := cq_59) (cy_59 H) rfl (ab_con_ok mt_ok (cy_59 H) mi_X7_fillFrom rfl ck_59_E (List.forall_mem_cons.mpr ⟨ck_59_0, (fun c hc => nomatch hc)⟩))
theorem cy_61 (H : ab_Hand l G) : ∀ c Q, c < 61 → cs_all[c]? = some Q → ab_QOk l G mt_prog Q := ab_up (q := cq_60) (cy_60 H) rfl (ab_con_ok mt_ok (cy_60 H) mi_X7_fillFrom rfl ck_60_E (List.forall_mem_cons.mpr ⟨ck_60_0, (fun c hc => nomatch hc)⟩))
theorem cy_62 (H : ab_Hand l G) : ∀ c Q, c < 62 → cs_all[c]? = some Q → ab_QOk l G mt_prog Q := ab_up (q := cq_61) (cy_61 H) rfl (ab_con_ok mt_ok (cy_61 H) mi_X7_fillFrom rfl ck_61_E (List.forall_mem_cons.mpr ⟨ck_61_0, (fun c hc => nomatch hc)⟩))
theorem cy_63 (H : ab_Hand l G) : ∀ c Q, c < 63 → cs_all[c]? = some Q → ab_QOk l G mt_prog Q := ab_up (q := cq_62) (cy_62 H) rfl (ab_con_ok mt_ok (cy_62 H) mi_X7_fillFrom rfl ck_62_E (List.forall_mem_cons.mpr ⟨ck_62_0, (fun c hc => nomatch hc)⟩))
theorem cy_64 (H : ab_Hand l G) : ∀ c Q, c < 64 → cs_all[c]? = some Q → ab_QOk l G mt_prog Q := ab_up (q := cq_63) (cy_63 H) rfl (ab_con_ok mt_ok (cy_63 H) mi_X7_fillFrom rfl ck_63_E (List.forall_mem_cons.mpr ⟨ck_63_0, (fun c hc => nomatch hc)⟩))
theorem cy_65 (H : ab_Hand l G) : ∀ c Q, c < 65 → cs_all[c]? = some Q → ab_QOk l G mt_prog Q := ab_up (q := cq_64) (cy_64 H) rfl (ab_con_ok mt_ok (cy_64 H) mi_X7_sortWorths rfl ck_64_E (List.forall_mem_cons.mpr ⟨ck_64_0, (List.forall_mem_cons.mpr ⟨ck_64_1, (List.forall_mem_cons.mpr ⟨ck_64_2, (fun c hc => nomatch hc)⟩)⟩)⟩))
theorem cy_66 (H : ab_Hand l G) : ∀ c Q, c < 66 → cs_all[c]? = some Q → ab_QOk l G mt_prog Q := ab_up (q := cq_65) (cy_65 H) rfl (ab_con_ok mt_ok (cy_65 H) mi_X7_fillBy rfl ck_65_E (List.forall_mem_cons.mpr ⟨ck_65_0, (fun c hc => nomatch hc)⟩))
theorem cy_67 (H : ab_Hand l G) : ∀ c Q, c < 67 → cs_all[c]? = some Q → ab_QOk l G mt_prog Q := ab_up (q := cq_66) (cy_66 H) rfl (ab_con_ok mt_ok (cy_66 H) mi_X10_readStone rfl ck_66_E (fun c hc => nomatch hc))
theorem cy_68 (H : ab_Hand l G) : ∀ c Q, c < 68 → cs_all[c]? = some Q → ab_QOk l G mt_prog Q := ab_up (q := cq_67) (cy_67 H) rfl (ab_con_ok mt_ok (cy_67 H) mi_X10_could rfl ck_67_E (fun c hc => nomatch hc))
theorem cy_69 (H : ab_Hand l G) : ∀ c Q, c < 69 → cs_all[c]? = some Q → ab_QOk l G mt_prog Q := ab_up (q := cq_68) (cy_68 H) rfl (ab_con_ok mt_ok (cy_68 H) mi_X10_count rfl ck_68_E (fun c hc => nomatch hc))
theorem cy_70 (H : ab_Hand l G) : ∀ c Q, c < 70 → cs_all[c]? = some Q → ab_QOk l G mt_prog Q := ab_up (q := cq_69) (cy_69 H) rfl (ab_con_ok mt_ok (cy_69 H) mi_X1_allows rfl ck_69_E (List.forall_mem_cons.mpr ⟨ck_69_0, (fun c hc => nomatch hc)⟩))
theorem cy_71 (H : ab_Hand l G) : ∀ c Q, c < 71 → cs_all[c]? = some Q → ab_QOk l G mt_prog Q := ab_up (q := cq_70) (cy_70 H) rfl (ab_con_ok mt_ok (cy_70 H) mi_X3_meet rfl ck_70_E (List.forall_mem_cons.mpr ⟨ck_70_0, (fun c hc => nomatch hc)⟩))
theorem cy_72 (H : ab_Hand l G) : ∀ c Q, c < 72 → cs_all[c]? = some Q → ab_QOk l G mt_prog Q := ab_up (q := cq_71) (cy_71 H) rfl (ab_con_ok mt_ok (cy_71 H) mi_X6_at rfl ck_71_E (fun c hc => nomatch hc))
theorem cy_73 (H : ab_Hand l G) : ∀ c Q, c < 73 → cs_all[c]? = some Q → ab_QOk l G mt_prog Q := ab_up (q := cq_72) (cy_72 H) rfl (ab_con_ok mt_ok (cy_72 H) mi_X6_outweighs rfl ck_72_E (fun c hc => nomatch hc))
theorem cy_74 (H : ab_Hand l G) : ∀ c Q, c < 74 → cs_all[c]? = some Q → ab_QOk l G mt_prog Q := ab_up (q := cq_73) (cy_73 H) rfl (ab_con_ok mt_ok (cy_73 H) mi_X6_behindMark rfl ck_73_E (fun c hc => nomatch hc))
theorem cy_75 (H : ab_Hand l G) : ∀ c Q, c < 75 → cs_all[c]? = some Q → ab_QOk l G mt_prog Q := ab_up (q := cq_74) (cy_74 H) rfl (ab_con_ok mt_ok (cy_74 H) mi_X6_behindSign rfl ck_74_E (fun c hc => nomatch hc))
theorem cy_76 (H : ab_Hand l G) : ∀ c Q, c < 76 → cs_all[c]? = some Q → ab_QOk l G mt_prog Q := ab_up (q := cq_75) (cy_75 H) rfl (ab_con_ok mt_ok (cy_75 H) mi_X6_endsRule rfl ck_75_E (fun c hc => nomatch hc))
theorem cy_77 (H : ab_Hand l G) : ∀ c Q, c < 77 → cs_all[c]? = some Q → ab_QOk l G mt_prog Q := ab_up (q := cq_76) (cy_76 H) rfl (ab_con_ok mt_ok (cy_76 H) mi_X6_after rfl ck_76_E (fun c hc => nomatch hc))
theorem cy_78 (H : ab_Hand l G) : ∀ c Q, c < 78 → cs_all[c]? = some Q → ab_QOk l G mt_prog Q := ab_up (q := cq_77) (cy_77 H) rfl (ab_con_ok mt_ok (cy_77 H) mi_X6_isWhole rfl ck_77_E (List.forall_mem_cons.mpr ⟨ck_77_0, (fun c hc => nomatch hc)⟩))
theorem cy_79 (H : ab_Hand l G) : ∀ c Q, c < 79 → cs_all[c]? = some Q → ab_QOk l G mt_prog Q := ab_up (q := cq_78) (cy_78 H) rfl (ab_con_ok mt_ok (cy_78 H) mi_X6_keep rfl ck_78_E (fun c hc => nomatch hc))
theorem cy_80 (H : ab_Hand l G) : ∀ c Q, c < 80 → cs_all[c]? = some Q → ab_QOk l G mt_prog Q := ab_up (q := cq_79) (cy_79 H) rfl (ab_con_ok mt_ok (cy_79 H) mi_X6_read rfl ck_79_E (List.forall_mem_cons.mpr ⟨ck_79_0, (fun c hc => nomatch hc)⟩))
theorem cy_81 (H : ab_Hand l G) : ∀ c Q, c < 81 → cs_all[c]? = some Q → ab_QOk l G mt_prog Q := ab_up (q := cq_80) (cy_80 H) rfl (ab_con_ok mt_ok (cy_80 H) mi_X10_custom rfl ck_80_E (List.forall_mem_cons.mpr ⟨ck_80_0, (fun c hc => nomatch hc)⟩))
theorem cy_82 (H : ab_Hand l G) : ∀ c Q, c < 82 → cs_all[c]? = some Q → ab_QOk l G mt_prog Q := ab_up (q := cq_81) (cy_81 H) rfl (ab_con_ok mt_ok (cy_81 H) mi_X10_customsAllowing rfl ck_81_E (List.forall_mem_cons.mpr ⟨ck_81_0, (fun c hc => nomatch hc)⟩))
theorem cy_83 (H : ab_Hand l G) : ∀ c Q, c < 83 → cs_all[c]? = some Q → ab_QOk l G mt_prog Q := ab_up (q := cq_82) (cy_82 H) rfl (ab_con_ok mt_ok (cy_82 H) mi_X1_digestOn rfl ck_82_E (List.forall_mem_cons.mpr ⟨ck_82_0, (fun c hc => nomatch hc)⟩))
theorem cy_84 (H : ab_Hand l G) : ∀ c Q, c < 84 → cs_all[c]? = some Q → ab_QOk l G mt_prog Q := ab_up (q := cq_83) (cy_83 H) rfl (ab_con_ok mt_ok (cy_83 H) mi_X2_digestOn rfl ck_83_E (List.forall_mem_cons.mpr ⟨ck_83_0, (fun c hc => nomatch hc)⟩))
theorem cy_85 (H : ab_Hand l G) : ∀ c Q, c < 85 → cs_all[c]? = some Q → ab_QOk l G mt_prog Q := ab_up (q := cq_84) (cy_84 H) rfl (ab_con_ok mt_ok (cy_84 H) mi_X4_digestOn rfl ck_84_E (List.forall_mem_cons.mpr ⟨ck_84_0, (fun c hc => nomatch hc)⟩))
theorem cy_86 (H : ab_Hand l G) : ∀ c Q, c < 86 → cs_all[c]? = some Q → ab_QOk l G mt_prog Q := ab_up (q := cq_85) (cy_85 H) rfl (ab_con_ok mt_ok (cy_85 H) mi_X5_digestOn rfl ck_85_E (List.forall_mem_cons.mpr ⟨ck_85_0, (fun c hc => nomatch hc)⟩))
theorem cy_87 (H : ab_Hand l G) : ∀ c Q, c < 87 → cs_all[c]? = some Q → ab_QOk l G mt_prog Q := ab_up (q := cq_86) (cy_86 H) rfl (ab_con_ok mt_ok (cy_86 H) mi_X7_digestOn rfl ck_86_E (List.forall_mem_cons.mpr ⟨ck_86_0, (fun c hc => nomatch hc)⟩))
theorem cy_88 (H : ab_Hand l G) : ∀ c Q, c < 88 → cs_all[c]? = some Q → ab_QOk l G mt_prog Q := ab_up (q := cq_87) (cy_87 H) rfl (ab_con_ok mt_ok (cy_87 H) mi_X10_digest rfl ck_87_E (List.forall_mem_cons.mpr ⟨ck_87_0, (List.forall_mem_cons.mpr ⟨ck_87_1, (List.forall_mem_cons.mpr ⟨ck_87_2, (fun c hc => nomatch hc)⟩)⟩)⟩))
theorem cy_89 (H : ab_Hand l G) : ∀ c Q, c < 89 → cs_all[c]? = some Q → ab_QOk l G mt_prog Q := ab_up (q := cq_88) (cy_88 H) rfl (ab_con_ok mt_ok (cy_88 H) mi_X10_doublings rfl ck_88_E (List.forall_mem_cons.mpr ⟨ck_88_0, (fun c hc => nomatch hc)⟩))
theorem cy_90 (H : ab_Hand l G) : ∀ c Q, c < 90 → cs_all[c]? = some Q → ab_QOk l G mt_prog Q := ab_up (q := cq_89) (cy_89 H) rfl (ab_con_ok mt_ok (cy_89 H) mi_X6_goodLetters rfl ck_89_E (List.forall_mem_cons.mpr ⟨ck_89_0, (fun c hc => nomatch hc)⟩))
theorem cy_91 (H : ab_Hand l G) : ∀ c Q, c < 91 → cs_all[c]? = some Q → ab_QOk l G mt_prog Q := ab_up (q := cq_90) (cy_90 H) rfl (ab_con_ok mt_ok (cy_90 H) mi_X10_good rfl ck_90_E (fun c hc => nomatch hc))
theorem cy_92 (H : ab_Hand l G) : ∀ c Q, c < 92 → cs_all[c]? = some Q → ab_QOk l G mt_prog Q := ab_up (q := cq_91) (cy_91 H) rfl (ab_con_ok mt_ok (cy_91 H) mi_X10_habit rfl ck_91_E (fun c hc => nomatch hc))
theorem cy_93 (H : ab_Hand l G) : ∀ c Q, c < 93 → cs_all[c]? = some Q → ab_QOk l G mt_prog Q := ab_up (q := cq_92) (cy_92 H) rfl (ab_con_ok mt_ok (cy_92 H) mi_X10_halvings rfl ck_92_E (List.forall_mem_cons.mpr ⟨ck_92_0, (fun c hc => nomatch hc)⟩))
theorem cy_94 (H : ab_Hand l G) : ∀ c Q, c < 94 → cs_all[c]? = some Q → ab_QOk l G mt_prog Q := ab_up (q := cq_93) (cy_93 H) rfl (ab_con_ok mt_ok (cy_93 H) mi_X10_hands rfl ck_93_E (List.forall_mem_cons.mpr ⟨ck_93_0, (fun c hc => nomatch hc)⟩))
theorem cy_95 (H : ab_Hand l G) : ∀ c Q, c < 95 → cs_all[c]? = some Q → ab_QOk l G mt_prog Q := ab_up (q := cq_94) (cy_94 H) rfl (ab_con_ok mt_ok (cy_94 H) mi_X10_holds rfl ck_94_E (fun c hc => nomatch hc))
theorem cy_96 (H : ab_Hand l G) : ∀ c Q, c < 96 → cs_all[c]? = some Q → ab_QOk l G mt_prog Q := ab_up (q := cq_95) (cy_95 H) rfl (ab_con_ok mt_ok (cy_95 H) mi_X10_keeps rfl ck_95_E (fun c hc => nomatch hc))
theorem cy_97 (H : ab_Hand l G) : ∀ c Q, c < 97 → cs_all[c]? = some Q → ab_QOk l G mt_prog Q := ab_up (q := cq_96) (cy_96 H) rfl (ab_con_ok mt_ok (cy_96 H) mi_X4_codeAt rfl ck_96_E (fun c hc => nomatch hc))
theorem cy_98 (H : ab_Hand l G) : ∀ c Q, c < 98 → cs_all[c]? = some Q → ab_QOk l G mt_prog Q := ab_up (q := cq_97) (cy_97 H) rfl (ab_con_ok mt_ok (cy_97 H) mi_X4_append rfl ck_97_E (List.forall_mem_cons.mpr ⟨ck_97_0, (fun c hc => nomatch hc)⟩))
theorem cy_99 (H : ab_Hand l G) : ∀ c Q, c < 99 → cs_all[c]? = some Q → ab_QOk l G mt_prog Q := ab_up (q := cq_98) (cy_98 H) rfl (ab_con_ok mt_ok (cy_98 H) mi_X4_lettersIn rfl ck_98_E (List.forall_mem_cons.mpr ⟨ck_98_0, (fun c hc => nomatch hc)⟩))
theorem cy_100 (H : ab_Hand l G) : ∀ c Q, c < 100 → cs_all[c]? = some Q → ab_QOk l G mt_prog Q := ab_up (q := cq_99) (cy_99 H) rfl (ab_con_ok mt_ok (cy_99 H) mi_X10_letters rfl ck_99_E (fun c hc => nomatch hc))
theorem cy_101 (H : ab_Hand l G) : ∀ c Q, c < 101 → cs_all[c]? = some Q → ab_QOk l G mt_prog Q := ab_up (q := cq_100) (cy_100 H) rfl (ab_con_ok mt_ok (cy_100 H) mi_X10_lift rfl ck_100_E (fun c hc => nomatch hc))
theorem cy_102 (H : ab_Hand l G) : ∀ c Q, c < 102 → cs_all[c]? = some Q → ab_QOk l G mt_prog Q := ab_up (q := cq_101) (cy_101 H) rfl (ab_con_ok mt_ok (cy_101 H) mi_X5_copy rfl ck_101_E (List.forall_mem_cons.mpr ⟨ck_101_0, (fun c hc => nomatch hc)⟩))
theorem cy_103 (H : ab_Hand l G) : ∀ c Q, c < 103 → cs_all[c]? = some Q → ab_QOk l G mt_prog Q := ab_up (q := cq_102) (cy_102 H) rfl (ab_con_ok mt_ok (cy_102 H) mi_X2_append rfl ck_102_E (fun c hc => nomatch hc))
theorem cy_104 (H : ab_Hand l G) : ∀ c Q, c < 104 → cs_all[c]? = some Q → ab_QOk l G mt_prog Q := ab_up (q := cq_103) (cy_103 H) rfl (ab_con_ok mt_ok (cy_103 H) mi_X10_line rfl ck_103_E (fun c hc => nomatch hc))
theorem cy_105 (H : ab_Hand l G) : ∀ c Q, c < 105 → cs_all[c]? = some Q → ab_QOk l G mt_prog Q := ab_up (q := cq_104) (cy_104 H) rfl (ab_con_ok mt_ok (cy_104 H) mi_X10_linesTaken rfl ck_104_E (List.forall_mem_cons.mpr ⟨ck_104_0, (fun c hc => nomatch hc)⟩))
theorem cy_106 (H : ab_Hand l G) : ∀ c Q, c < 106 → cs_all[c]? = some Q → ab_QOk l G mt_prog Q := ab_up (q := cq_105) (cy_105 H) rfl (ab_con_ok mt_ok (cy_105 H) mi_X2_totalAhead rfl ck_105_E (fun c hc => nomatch hc))
theorem cy_107 (H : ab_Hand l G) : ∀ c Q, c < 107 → cs_all[c]? = some Q → ab_QOk l G mt_prog Q := ab_up (q := cq_106) (cy_106 H) rfl (ab_con_ok mt_ok (cy_106 H) mi_X2_firstWrong rfl ck_106_E (List.forall_mem_cons.mpr ⟨ck_106_0, (fun c hc => nomatch hc)⟩))
theorem cy_108 (H : ab_Hand l G) : ∀ c Q, c < 108 → cs_all[c]? = some Q → ab_QOk l G mt_prog Q := ab_up (q := cq_107) (cy_107 H) rfl (ab_con_ok mt_ok (cy_107 H) mi_X2_firstMended rfl ck_107_E (List.forall_mem_cons.mpr ⟨ck_107_0, (fun c hc => nomatch hc)⟩))
theorem cy_109 (H : ab_Hand l G) : ∀ c Q, c < 109 → cs_all[c]? = some Q → ab_QOk l G mt_prog Q := ab_up (q := cq_108) (cy_108 H) rfl (ab_con_ok mt_ok (cy_108 H) mi_X10_mended rfl ck_108_E (fun c hc => nomatch hc))
theorem cy_110 (H : ab_Hand l G) : ∀ c Q, c < 110 → cs_all[c]? = some Q → ab_QOk l G mt_prog Q := ab_up (q := cq_109) (cy_109 H) rfl (ab_con_ok mt_ok (cy_109 H) mi_X3_remember rfl ck_109_E (fun c hc => nomatch hc))
theorem cy_111 (H : ab_Hand l G) : ∀ c Q, c < 111 → cs_all[c]? = some Q → ab_QOk l G mt_prog Q := ab_up (q := cq_110) (cy_110 H) rfl (ab_con_ok mt_ok (cy_110 H) mi_X10_note rfl ck_110_E (fun c hc => nomatch hc))
theorem cy_112 (H : ab_Hand l G) : ∀ c Q, c < 112 → cs_all[c]? = some Q → ab_QOk l G mt_prog Q := ab_up (q := cq_111) (cy_111 H) rfl (ab_con_ok mt_ok (cy_111 H) mi_X10_parts rfl ck_111_E (fun c hc => nomatch hc))
theorem cy_113 (H : ab_Hand l G) : ∀ c Q, c < 113 → cs_all[c]? = some Q → ab_QOk l G mt_prog Q := ab_up (q := cq_112) (cy_112 H) rfl (ab_con_ok mt_ok (cy_112 H) mi_X10_pour rfl ck_112_E (fun c hc => nomatch hc))
theorem cy_114 (H : ab_Hand l G) : ∀ c Q, c < 114 → cs_all[c]? = some Q → ab_QOk l G mt_prog Q := ab_up (q := cq_113) (cy_113 H) rfl (ab_con_ok mt_ok (cy_113 H) mi_X10_product rfl ck_113_E (List.forall_mem_cons.mpr ⟨ck_113_0, (fun c hc => nomatch hc)⟩))
theorem cy_115 (H : ab_Hand l G) : ∀ c Q, c < 115 → cs_all[c]? = some Q → ab_QOk l G mt_prog Q := ab_up (q := cq_114) (cy_114 H) rfl (ab_con_ok mt_ok (cy_114 H) mi_X4_copySigns rfl ck_114_E (List.forall_mem_cons.mpr ⟨ck_114_0, (fun c hc => nomatch hc)⟩))
theorem cy_116 (H : ab_Hand l G) : ∀ c Q, c < 116 → cs_all[c]? = some Q → ab_QOk l G mt_prog Q := ab_up (q := cq_115) (cy_115 H) rfl (ab_con_ok mt_ok (cy_115 H) mi_X4_isRowOfSigns rfl ck_115_E (List.forall_mem_cons.mpr ⟨ck_115_0, (fun c hc => nomatch hc)⟩))
theorem cy_117 (H : ab_Hand l G) : ∀ c Q, c < 117 → cs_all[c]? = some Q → ab_QOk l G mt_prog Q := ab_up (q := cq_116) (cy_116 H) rfl (ab_con_ok mt_ok (cy_116 H) mi_X10_row rfl ck_116_E (fun c hc => nomatch hc))
theorem cy_118 (H : ab_Hand l G) : ∀ c Q, c < 118 → cs_all[c]? = some Q → ab_QOk l G mt_prog Q := ab_up (q := cq_117) (cy_117 H) rfl (ab_con_ok mt_ok (cy_117 H) mi_X10_says rfl ck_117_E (fun c hc => nomatch hc))
theorem cy_119 (H : ab_Hand l G) : ∀ c Q, c < 119 → cs_all[c]? = some Q → ab_QOk l G mt_prog Q := ab_up (q := cq_118) (cy_118 H) rfl (ab_con_ok mt_ok (cy_118 H) mi_X10_settle rfl ck_118_E (fun c hc => nomatch hc))
theorem cy_120 (H : ab_Hand l G) : ∀ c Q, c < 120 → cs_all[c]? = some Q → ab_QOk l G mt_prog Q := ab_up (q := cq_119) (cy_119 H) rfl (ab_con_ok mt_ok (cy_119 H) mi_X10_sign rfl ck_119_E (fun c hc => nomatch hc))
theorem cy_121 (H : ab_Hand l G) : ∀ c Q, c < 121 → cs_all[c]? = some Q → ab_QOk l G mt_prog Q := ab_up (q := cq_120) (cy_120 H) rfl (ab_con_ok mt_ok (cy_120 H) mi_X2_foundSlip rfl ck_120_E (fun c hc => nomatch hc))
theorem cy_122 (H : ab_Hand l G) : ∀ c Q, c < 122 → cs_all[c]? = some Q → ab_QOk l G mt_prog Q := ab_up (q := cq_121) (cy_121 H) rfl (ab_con_ok mt_ok (cy_121 H) mi_X2_withOneLess rfl ck_121_E (List.forall_mem_cons.mpr ⟨ck_121_0, (List.forall_mem_cons.mpr ⟨ck_121_1, (fun c hc => nomatch hc)⟩)⟩))
theorem cy_123 (H : ab_Hand l G) : ∀ c Q, c < 123 → cs_all[c]? = some Q → ab_QOk l G mt_prog Q := ab_up (q := cq_122) (cy_122 H) rfl (ab_con_ok mt_ok (cy_122 H) mi_X2_anySignFits rfl ck_122_E (List.forall_mem_cons.mpr ⟨ck_122_0, (fun c hc => nomatch hc)⟩))
theorem cy_124 (H : ab_Hand l G) : ∀ c Q, c < 124 → cs_all[c]? = some Q → ab_QOk l G mt_prog Q := ab_up (q := cq_123) (cy_123 H) rfl (ab_con_ok mt_ok (cy_123 H) mi_X2_withOneMore rfl ck_123_E (List.forall_mem_cons.mpr ⟨ck_123_0, (List.forall_mem_cons.mpr ⟨ck_123_1, (fun c hc => nomatch hc)⟩)⟩))
theorem cy_125 (H : ab_Hand l G) : ∀ c Q, c < 125 → cs_all[c]? = some Q → ab_QOk l G mt_prog Q := ab_up (q := cq_124) (cy_124 H) rfl (ab_con_ok mt_ok (cy_124 H) mi_X2_withOneOther rfl ck_124_E (List.forall_mem_cons.mpr ⟨ck_124_0, (fun c hc => nomatch hc)⟩))
theorem cy_126 (H : ab_Hand l G) : ∀ c Q, c < 126 → cs_all[c]? = some Q → ab_QOk l G mt_prog Q := ab_up (q := cq_125) (cy_125 H) rfl (ab_con_ok mt_ok (cy_125 H) mi_X2_canBecome rfl ck_125_E (fun c hc => nomatch hc))
theorem cy_127 (H : ab_Hand l G) : ∀ c Q, c < 127 → cs_all[c]? = some Q → ab_QOk l G mt_prog Q := ab_up (q := cq_126) (cy_126 H) rfl (ab_con_ok mt_ok (cy_126 H) mi_X2_findSlip rfl ck_126_E (fun c hc => nomatch hc))
theorem cy_128 (H : ab_Hand l G) : ∀ c Q, c < 128 → cs_all[c]? = some Q → ab_QOk l G mt_prog Q := ab_up (q := cq_127) (cy_127 H) rfl (ab_con_ok mt_ok (cy_127 H) mi_X10_slip rfl ck_127_E (fun c hc => nomatch hc))
theorem cy_129 (H : ab_Hand l G) : ∀ c Q, c < 129 → cs_all[c]? = some Q → ab_QOk l G mt_prog Q := ab_up (q := cq_128) (cy_128 H) rfl (ab_con_ok mt_ok (cy_128 H) mi_X10_step rfl ck_128_E (fun c hc => nomatch hc))
theorem cy_130 (H : ab_Hand l G) : ∀ c Q, c < 130 → cs_all[c]? = some Q → ab_QOk l G mt_prog Q := ab_up (q := cq_129) (cy_129 H) rfl (ab_con_ok mt_ok (cy_129 H) mi_X10_sure rfl ck_129_E (fun c hc => nomatch hc))
theorem cy_131 (H : ab_Hand l G) : ∀ c Q, c < 131 → cs_all[c]? = some Q → ab_QOk l G mt_prog Q := ab_up (q := cq_130) (cy_130 H) rfl (ab_con_ok mt_ok (cy_130 H) mi_X10_sweep rfl ck_130_E (fun c hc => nomatch hc))
theorem cy_132 (H : ab_Hand l G) : ∀ c Q, c < 132 → cs_all[c]? = some Q → ab_QOk l G mt_prog Q := ab_up (q := cq_131) (cy_131 H) rfl (ab_con_ok mt_ok (cy_131 H) mi_X2_clear rfl ck_131_E (fun c hc => nomatch hc))
theorem cy_133 (H : ab_Hand l G) : ∀ c Q, c < 133 → cs_all[c]? = some Q → ab_QOk l G mt_prog Q := ab_up (q := cq_132) (cy_132 H) rfl (ab_con_ok mt_ok (cy_132 H) mi_X10_tear rfl ck_132_E (fun c hc => nomatch hc))
theorem cy_134 (H : ab_Hand l G) : ∀ c Q, c < 134 → cs_all[c]? = some Q → ab_QOk l G mt_prog Q := ab_up (q := cq_133) (cy_133 H) rfl (ab_con_ok mt_ok (cy_133 H) mi_X10_times rfl ck_133_E (fun c hc => nomatch hc))
theorem cy_135 (H : ab_Hand l G) : ∀ c Q, c < 135 → cs_all[c]? = some Q → ab_QOk l G mt_prog Q := ab_up (q := cq_134) (cy_134 H) rfl (ab_con_ok mt_ok (cy_134 H) mi_X10_unbundle rfl ck_134_E (fun c hc => nomatch hc))
theorem cy_136 (H : ab_Hand l G) : ∀ c Q, c < 136 → cs_all[c]? = some Q → ab_QOk l G mt_prog Q := ab_up (q := cq_135) (cy_135 H) rfl (ab_con_ok mt_ok (cy_135 H) mi_X8_startFor rfl ck_135_E (fun c hc => nomatch hc))
theorem cy_137 (H : ab_Hand l G) : ∀ c Q, c < 137 → cs_all[c]? = some Q → ab_QOk l G mt_prog Q := ab_up (q := cq_136) (cy_136 H) rfl (ab_con_ok mt_ok (cy_136 H) mi_X8_atMost rfl ck_136_E (List.forall_mem_cons.mpr ⟨ck_136_0, (fun c hc => nomatch hc)⟩))
theorem cy_138 (H : ab_Hand l G) : ∀ c Q, c < 138 → cs_all[c]? = some Q → ab_QOk l G mt_prog Q := ab_up (q := cq_137) (cy_137 H) rfl (ab_con_ok mt_ok (cy_137 H) mi_X9_inAll rfl ck_137_E (fun c hc => nomatch hc))
theorem cy_139 (H : ab_Hand l G) : ∀ c Q, c < 139 → cs_all[c]? = some Q → ab_QOk l G mt_prog Q := ab_up (q := cq_138) (cy_138 H) rfl (ab_con_ok mt_ok (cy_138 H) mi_X8_startFor rfl ck_138_E (fun c hc => nomatch hc))
theorem cy_140 (H : ab_Hand l G) : ∀ c Q, c < 140 → cs_all[c]? = some Q → ab_QOk l G mt_prog Q := ab_up (q := cq_139) (cy_139 H) rfl (ab_con_ok mt_ok (cy_139 H) mi_X8_addAt rfl ck_139_E (List.forall_mem_cons.mpr ⟨ck_139_0, (fun c hc => nomatch hc)⟩))
theorem cy_141 (H : ab_Hand l G) : ∀ c Q, c < 141 → cs_all[c]? = some Q → ab_QOk l G mt_prog Q := ab_up (q := cq_140) (cy_140 H) rfl (ab_con_ok mt_ok (cy_140 H) mi_X8_clearAt rfl ck_140_E (List.forall_mem_cons.mpr ⟨ck_140_0, (fun c hc => nomatch hc)⟩))
theorem cy_142 (H : ab_Hand l G) : ∀ c Q, c < 142 → cs_all[c]? = some Q → ab_QOk l G mt_prog Q := ab_up (q := cq_141) (cy_141 H) rfl (ab_con_ok mt_ok (cy_141 H) mi_X9_countPlain rfl ck_141_E (List.forall_mem_cons.mpr ⟨ck_141_0, (List.forall_mem_cons.mpr ⟨ck_141_1, (List.forall_mem_cons.mpr ⟨ck_141_2, (List.forall_mem_cons.mpr ⟨ck_141_3, (List.forall_mem_cons.mpr ⟨ck_141_4, (List.forall_mem_cons.mpr ⟨ck_141_5, (List.forall_mem_cons.mpr ⟨ck_141_6, (List.forall_mem_cons.mpr ⟨ck_141_7, (List.forall_mem_cons.mpr ⟨ck_141_8, (List.forall_mem_cons.mpr ⟨ck_141_9, (List.forall_mem_cons.mpr ⟨ck_141_10, (List.forall_mem_cons.mpr ⟨ck_141_11, (List.forall_mem_cons.mpr ⟨ck_141_12, (List.forall_mem_cons.mpr ⟨ck_141_13, (List.forall_mem_cons.mpr ⟨ck_141_14, (List.forall_mem_cons.mpr ⟨ck_141_15, (List.forall_mem_cons.mpr ⟨ck_141_16, (List.forall_mem_cons.mpr ⟨ck_141_17, (List.forall_mem_cons.mpr ⟨ck_141_18, (List.forall_mem_cons.mpr ⟨ck_141_19, (List.forall_mem_cons.mpr ⟨ck_141_20, (List.forall_mem_cons.mpr ⟨ck_141_21, (List.forall_mem_cons.mpr ⟨ck_141_22, (List.forall_mem_cons.mpr ⟨ck_141_23, (List.forall_mem_cons.mpr ⟨ck_141_24, (List.forall_mem_cons.mpr ⟨ck_141_25, (List.forall_mem_cons.mpr ⟨ck_141_26, (List.forall_mem_cons.mpr ⟨ck_141_27, (fun c hc => nomatch hc)⟩)⟩)⟩)⟩)⟩)⟩)⟩)⟩)⟩)⟩)⟩)⟩)⟩)⟩)⟩)⟩)⟩)⟩)⟩)⟩)⟩)⟩)⟩)⟩)⟩)⟩)⟩)⟩))
theorem cy_143 (H : ab_Hand l G) : ∀ c Q, c < 143 → cs_all[c]? = some Q → ab_QOk l G mt_prog Q := ab_up (q := cq_142) (cy_142 H) rfl (ab_con_ok mt_ok (cy_142 H) mi_X8_addAt rfl ck_142_E (List.forall_mem_cons.mpr ⟨ck_142_0, (fun c hc => nomatch hc)⟩))
theorem cy_144 (H : ab_Hand l G) : ∀ c Q, c < 144 → cs_all[c]? = some Q → ab_QOk l G mt_prog Q := ab_up (q := cq_143) (cy_143 H) rfl (ab_con_ok mt_ok (cy_143 H) mi_X8_clearAt rfl ck_143_E (List.forall_mem_cons.mpr ⟨ck_143_0, (fun c hc => nomatch hc)⟩))
theorem cy_145 (H : ab_Hand l G) : ∀ c Q, c < 145 → cs_all[c]? = some Q → ab_QOk l G mt_prog Q := ab_up (q := cq_144) (cy_144 H) rfl (ab_con_ok mt_ok (cy_144 H) mi_X9_countTakings rfl ck_144_E (List.forall_mem_cons.mpr ⟨ck_144_0, (List.forall_mem_cons.mpr ⟨ck_144_1, (List.forall_mem_cons.mpr ⟨ck_144_2, (List.forall_mem_cons.mpr ⟨ck_144_3, (List.forall_mem_cons.mpr ⟨ck_144_4, (List.forall_mem_cons.mpr ⟨ck_144_5, (List.forall_mem_cons.mpr ⟨ck_144_6, (List.forall_mem_cons.mpr ⟨ck_144_7, (List.forall_mem_cons.mpr ⟨ck_144_8, (List.forall_mem_cons.mpr ⟨ck_144_9, (List.forall_mem_cons.mpr ⟨ck_144_10, (List.forall_mem_cons.mpr ⟨ck_144_11, (List.forall_mem_cons.mpr ⟨ck_144_12, (List.forall_mem_cons.mpr ⟨ck_144_13, (List.forall_mem_cons.mpr ⟨ck_144_14, (List.forall_mem_cons.mpr ⟨ck_144_15, (List.forall_mem_cons.mpr ⟨ck_144_16, (List.forall_mem_cons.mpr ⟨ck_144_17, (List.forall_mem_cons.mpr ⟨ck_144_18, (List.forall_mem_cons.mpr ⟨ck_144_19, (List.forall_mem_cons.mpr ⟨ck_144_20, (List.forall_mem_cons.mpr ⟨ck_144_21, (List.forall_mem_cons.mpr ⟨ck_144_22, (List.forall_mem_cons.mpr ⟨ck_144_23, (List.forall_mem_cons.mpr ⟨ck_144_24, (List.forall_mem_cons.mpr ⟨ck_144_25, (List.forall_mem_cons.mpr ⟨ck_144_26, (List.forall_mem_cons.mpr ⟨ck_144_27, (fun c hc => nomatch hc)⟩)⟩)⟩)⟩)⟩)⟩)⟩)⟩)⟩)⟩)⟩)⟩)⟩)⟩)⟩)⟩)⟩)⟩)⟩)⟩)⟩)⟩)⟩)⟩)⟩)⟩)⟩)⟩))
theorem cy_146 (H : ab_Hand l G) : ∀ c Q, c < 146 → cs_all[c]? = some Q → ab_QOk l G mt_prog Q := ab_up (q := cq_145) (cy_145 H) rfl (ab_con_ok mt_ok (cy_145 H) mi_X9_prepare rfl ck_145_E (List.forall_mem_cons.mpr ⟨ck_145_0, (fun c hc => nomatch hc)⟩))
theorem cy_147 (H : ab_Hand l G) : ∀ c Q, c < 147 → cs_all[c]? = some Q → ab_QOk l G mt_prog Q := ab_up (q := cq_146) (cy_146 H) rfl (ab_con_ok mt_ok (cy_146 H) mi_X10_ways rfl ck_146_E (fun c hc => nomatch hc))
theorem cy_148 (H : ab_Hand l G) : ∀ c Q, c < 148 → cs_all[c]? = some Q → ab_QOk l G mt_prog Q := ab_up (q := cq_147) (cy_147 H) rfl (ab_con_ok mt_ok (cy_147 H) mi_X10_worth rfl ck_147_E (fun c hc => nomatch hc))
theorem cy_149 (H : ab_Hand l G) : ∀ c Q, c < 149 → cs_all[c]? = some Q → ab_QOk l G mt_prog Q := ab_up (q := cq_148) (cy_148 H) rfl (ab_con_ok mt_ok (cy_148 H) mi_X8_atMost rfl ck_148_E (List.forall_mem_cons.mpr ⟨ck_148_0, (fun c hc => nomatch hc)⟩))
theorem cy_150 (H : ab_Hand l G) : ∀ c Q, c < 150 → cs_all[c]? = some Q → ab_QOk l G mt_prog Q := ab_up (q := cq_149) (cy_149 H) rfl (ab_con_ok mt_ok (cy_149 H) mi_X8_exactly rfl ck_149_E (fun c hc => nomatch hc))
theorem cy_151 (H : ab_Hand l G) : ∀ c Q, c < 151 → cs_all[c]? = some Q → ab_QOk l G mt_prog Q := ab_up (q := cq_150) (cy_150 H) rfl (ab_con_ok mt_ok (cy_150 H) mi_X9_goes rfl ck_150_E (fun c hc => nomatch hc))
theorem cy_152 (H : ab_Hand l G) : ∀ c Q, c < 152 → cs_all[c]? = some Q → ab_QOk l G mt_prog Q := ab_up (q := cq_151) (cy_151 H) rfl (ab_con_ok mt_ok (cy_151 H) mi_X9_choosePlain rfl ck_151_E (List.forall_mem_cons.mpr ⟨ck_151_0, (fun c hc => nomatch hc)⟩))
theorem cy_153 (H : ab_Hand l G) : ∀ c Q, c < 153 → cs_all[c]? = some Q → ab_QOk l G mt_prog Q := ab_up (q := cq_152) (cy_152 H) rfl (ab_con_ok mt_ok (cy_152 H) mi_X8_exactly rfl ck_152_E (fun c hc => nomatch hc))
theorem cy_154 (H : ab_Hand l G) : ∀ c Q, c < 154 → cs_all[c]? = some Q → ab_QOk l G mt_prog Q := ab_up (q := cq_153) (cy_153 H) rfl (ab_con_ok mt_ok (cy_153 H) mi_X9_goes rfl ck_153_E (fun c hc => nomatch hc))
theorem cy_155 (H : ab_Hand l G) : ∀ c Q, c < 155 → cs_all[c]? = some Q → ab_QOk l G mt_prog Q := ab_up (q := cq_154) (cy_154 H) rfl (ab_con_ok mt_ok (cy_154 H) mi_X9_chooseTaking rfl ck_154_E (List.forall_mem_cons.mpr ⟨ck_154_0, (List.forall_mem_cons.mpr ⟨ck_154_1, (fun c hc => nomatch hc)⟩)⟩))
theorem cy_156 (H : ab_Hand l G) : ∀ c Q, c < 156 → cs_all[c]? = some Q → ab_QOk l G mt_prog Q := ab_up (q := cq_155) (cy_155 H) rfl (ab_con_ok mt_ok (cy_155 H) mi_X9_walk rfl ck_155_E (List.forall_mem_cons.mpr ⟨ck_155_0, (fun c hc => nomatch hc)⟩))
theorem cy_157 (H : ab_Hand l G) : ∀ c Q, c < 157 → cs_all[c]? = some Q → ab_QOk l G mt_prog Q := ab_up (q := cq_156) (cy_156 H) rfl (ab_con_ok mt_ok (cy_156 H) mi_X9_findByOrder rfl ck_156_E (fun c hc => nomatch hc))
theorem cy_158 (H : ab_Hand l G) : ∀ c Q, c < 158 → cs_all[c]? = some Q → ab_QOk l G mt_prog Q := ab_up (q := cq_157) (cy_157 H) rfl (ab_con_ok mt_ok (cy_157 H) mi_X9_findShortest rfl ck_157_E (List.forall_mem_cons.mpr ⟨ck_157_0, (fun c hc => nomatch hc)⟩))
theorem cy_159 (H : ab_Hand l G) : ∀ c Q, c < 159 → cs_all[c]? = some Q → ab_QOk l G mt_prog Q := ab_up (q := cq_158) (cy_158 H) rfl (ab_con_ok mt_ok (cy_158 H) mi_X10_write rfl ck_158_E (fun c hc => nomatch hc))
theorem cy_160 (H : ab_Hand l G) : ∀ c Q, c < 160 → cs_all[c]? = some Q → ab_QOk l G mt_prog Q := ab_up (q := cq_159) (cy_159 H) rfl (ab_con_ok mt_ok (cy_159 H) mi_X10_wrong rfl ck_159_E (fun c hc => nomatch hc))
theorem cy_161 (H : ab_Hand l G) : ∀ c Q, c < 161 → cs_all[c]? = some Q → ab_QOk l G mt_prog Q := ab_up (q := cq_160) (cy_160 H) rfl (ab_con_ok mt_ok (cy_160 H) mi_X11_isTaken rfl ck_160_E (List.forall_mem_cons.mpr ⟨ck_160_0, (fun c hc => nomatch hc)⟩))
theorem cy_162 (H : ab_Hand l G) : ∀ c Q, c < 162 → cs_all[c]? = some Q → ab_QOk l G mt_prog Q := ab_up (q := cq_161) (cy_161 H) rfl (ab_con_ok mt_ok (cy_161 H) mi_X11_worthOf rfl ck_161_E (List.forall_mem_cons.mpr ⟨ck_161_0, (fun c hc => nomatch hc)⟩))
theorem cy_163 (H : ab_Hand l G) : ∀ c Q, c < 163 → cs_all[c]? = some Q → ab_QOk l G mt_prog Q := ab_up (q := cq_162) (cy_162 H) rfl (ab_con_ok mt_ok (cy_162 H) mi_X11_lineWorth rfl ck_162_E (fun c hc => nomatch hc))
theorem cy_164 (H : ab_Hand l G) : ∀ c Q, c < 164 → cs_all[c]? = some Q → ab_QOk l G mt_prog Q := ab_up (q := cq_163) (cy_163 H) rfl (ab_con_ok mt_ok (cy_163 H) mi_X11_ahead rfl ck_163_E (fun c hc => nomatch hc))
theorem cy_165 (H : ab_Hand l G) : ∀ c Q, c < 165 → cs_all[c]? = some Q → ab_QOk l G mt_prog Q := ab_up (q := cq_164) (cy_164 H) rfl (ab_con_ok mt_ok (cy_164 H) mi_X11_asks rfl ck_164_E (fun c hc => nomatch hc))
theorem cy_166 (H : ab_Hand l G) : ∀ c Q, c < 166 → cs_all[c]? = some Q → ab_QOk l G mt_prog Q := ab_up (q := cq_165) (cy_165 H) rfl (ab_con_ok mt_ok (cy_165 H) mi_X11_mayTake rfl ck_165_E (fun c hc => nomatch hc))
theorem cy_167 (H : ab_Hand l G) : ∀ c Q, c < 167 → cs_all[c]? = some Q → ab_QOk l G mt_prog Q := ab_up (q := cq_166) (cy_166 H) rfl (ab_con_ok mt_ok (cy_166 H) mi_X11_mayBegin rfl ck_166_E (List.forall_mem_cons.mpr ⟨ck_166_0, (fun c hc => nomatch hc)⟩))
theorem cy_168 (H : ab_Hand l G) : ∀ c Q, c < 168 → cs_all[c]? = some Q → ab_QOk l G mt_prog Q := ab_up (q := cq_167) (cy_167 H) rfl (ab_con_ok mt_ok (cy_167 H) mi_X11_keepsAll rfl ck_167_E (List.forall_mem_cons.mpr ⟨ck_167_0, (List.forall_mem_cons.mpr ⟨ck_167_1, (List.forall_mem_cons.mpr ⟨ck_167_2, (List.forall_mem_cons.mpr ⟨ck_167_3, (List.forall_mem_cons.mpr ⟨ck_167_4, (List.forall_mem_cons.mpr ⟨ck_167_5, (fun c hc => nomatch hc)⟩)⟩)⟩)⟩)⟩)⟩))
theorem cy_169 (H : ab_Hand l G) : ∀ c Q, c < 169 → cs_all[c]? = some Q → ab_QOk l G mt_prog Q := ab_up (q := cq_168) (cy_168 H) rfl (ab_con_ok mt_ok (cy_168 H) mi_X11_begins rfl ck_168_E (List.forall_mem_cons.mpr ⟨ck_168_0, (fun c hc => nomatch hc)⟩))
theorem cy_170 (H : ab_Hand l G) : ∀ c Q, c < 170 → cs_all[c]? = some Q → ab_QOk l G mt_prog Q := ab_up (q := cq_169) (cy_169 H) rfl (ab_con_ok mt_ok (cy_169 H) mi_X11_blank rfl ck_169_E (fun c hc => nomatch hc))
theorem cy_171 (H : ab_Hand l G) : ∀ c Q, c < 171 → cs_all[c]? = some Q → ab_QOk l G mt_prog Q := ab_up (q := cq_170) (cy_170 H) rfl (ab_con_ok mt_ok (cy_170 H) mi_X11_board rfl ck_170_E (fun c hc => nomatch hc))
theorem cy_172 (H : ab_Hand l G) : ∀ c Q, c < 172 → cs_all[c]? = some Q → ab_QOk l G mt_prog Q := ab_up (q := cq_171) (cy_171 H) rfl (ab_con_ok mt_ok (cy_171 H) mi_X11_bundle rfl ck_171_E (fun c hc => nomatch hc))
theorem cy_173 (H : ab_Hand l G) : ∀ c Q, c < 173 → cs_all[c]? = some Q → ab_QOk l G mt_prog Q := ab_up (q := cq_172) (cy_172 H) rfl (ab_con_ok mt_ok (cy_172 H) mi_X11_could rfl ck_172_E (fun c hc => nomatch hc))
theorem cy_174 (H : ab_Hand l G) : ∀ c Q, c < 174 → cs_all[c]? = some Q → ab_QOk l G mt_prog Q := ab_up (q := cq_173) (cy_173 H) rfl (ab_con_ok mt_ok (cy_173 H) mi_X11_count rfl ck_173_E (fun c hc => nomatch hc))
theorem cy_175 (H : ab_Hand l G) : ∀ c Q, c < 175 → cs_all[c]? = some Q → ab_QOk l G mt_prog Q := ab_up (q := cq_174) (cy_174 H) rfl (ab_con_ok mt_ok (cy_174 H) mi_X11_isMore rfl ck_174_E (fun c hc => nomatch hc))
theorem cy_176 (H : ab_Hand l G) : ∀ c Q, c < 176 → cs_all[c]? = some Q → ab_QOk l G mt_prog Q := ab_up (q := cq_175) (cy_175 H) rfl (ab_con_ok mt_ok (cy_175 H) mi_X11_readCustom rfl ck_175_E (List.forall_mem_cons.mpr ⟨ck_175_0, (List.forall_mem_cons.mpr ⟨ck_175_1, (List.forall_mem_cons.mpr ⟨ck_175_2, (List.forall_mem_cons.mpr ⟨ck_175_3, (List.forall_mem_cons.mpr ⟨ck_175_4, (List.forall_mem_cons.mpr ⟨ck_175_5, (fun c hc => nomatch hc)⟩)⟩)⟩)⟩)⟩)⟩))
theorem cy_177 (H : ab_Hand l G) : ∀ c Q, c < 177 → cs_all[c]? = some Q → ab_QOk l G mt_prog Q := ab_up (q := cq_176) (cy_176 H) rfl (ab_con_ok mt_ok (cy_176 H) mi_X11_custom rfl ck_176_E (fun c hc => nomatch hc))
theorem cy_178 (H : ab_Hand l G) : ∀ c Q, c < 178 → cs_all[c]? = some Q → ab_QOk l G mt_prog Q := ab_up (q := cq_177) (cy_177 H) rfl (ab_con_ok mt_ok (cy_177 H) mi_X11_keepsAll rfl ck_177_E (List.forall_mem_cons.mpr ⟨ck_177_0, (List.forall_mem_cons.mpr ⟨ck_177_1, (List.forall_mem_cons.mpr ⟨ck_177_2, (List.forall_mem_cons.mpr ⟨ck_177_3, (List.forall_mem_cons.mpr ⟨ck_177_4, (List.forall_mem_cons.mpr ⟨ck_177_5, (fun c hc => nomatch hc)⟩)⟩)⟩)⟩)⟩)⟩))
theorem cy_179 (H : ab_Hand l G) : ∀ c Q, c < 179 → cs_all[c]? = some Q → ab_QOk l G mt_prog Q := ab_up (q := cq_178) (cy_178 H) rfl (ab_con_ok mt_ok (cy_178 H) mi_X11_habitOf rfl ck_178_E (List.forall_mem_cons.mpr ⟨ck_178_0, (List.forall_mem_cons.mpr ⟨ck_178_1, (fun c hc => nomatch hc)⟩)⟩))
theorem cy_180 (H : ab_Hand l G) : ∀ c Q, c < 180 → cs_all[c]? = some Q → ab_QOk l G mt_prog Q := ab_up (q := cq_179) (cy_179 H) rfl (ab_con_ok mt_ok (cy_179 H) mi_X11_mix rfl ck_179_E (fun c hc => nomatch hc))
theorem cy_181 (H : ab_Hand l G) : ∀ c Q, c < 181 → cs_all[c]? = some Q → ab_QOk l G mt_prog Q := ab_up (q := cq_180) (cy_180 H) rfl (ab_con_ok mt_ok (cy_180 H) mi_X11_mixCustoms rfl ck_180_E (List.forall_mem_cons.mpr ⟨ck_180_0, (fun c hc => nomatch hc)⟩))
theorem cy_182 (H : ab_Hand l G) : ∀ c Q, c < 182 → cs_all[c]? = some Q → ab_QOk l G mt_prog Q := ab_up (q := cq_181) (cy_181 H) rfl (ab_con_ok mt_ok (cy_181 H) mi_X11_digest rfl ck_181_E (List.forall_mem_cons.mpr ⟨ck_181_0, (List.forall_mem_cons.mpr ⟨ck_181_1, (List.forall_mem_cons.mpr ⟨ck_181_2, (List.forall_mem_cons.mpr ⟨ck_181_3, (List.forall_mem_cons.mpr ⟨ck_181_4, (List.forall_mem_cons.mpr ⟨ck_181_5, (List.forall_mem_cons.mpr ⟨ck_181_6, (fun c hc => nomatch hc)⟩)⟩)⟩)⟩)⟩)⟩)⟩))
theorem cy_183 (H : ab_Hand l G) : ∀ c Q, c < 183 → cs_all[c]? = some Q → ab_QOk l G mt_prog Q := ab_up (q := cq_182) (cy_182 H) rfl (ab_con_ok mt_ok (cy_182 H) mi_X11_firstStep rfl ck_182_E (List.forall_mem_cons.mpr ⟨ck_182_0, (List.forall_mem_cons.mpr ⟨ck_182_1, (List.forall_mem_cons.mpr ⟨ck_182_2, (List.forall_mem_cons.mpr ⟨ck_182_3, (fun c hc => nomatch hc)⟩)⟩)⟩)⟩))
theorem cy_184 (H : ab_Hand l G) : ∀ c Q, c < 184 → cs_all[c]? = some Q → ab_QOk l G mt_prog Q := ab_up (q := cq_183) (cy_183 H) rfl (ab_con_ok mt_ok (cy_183 H) mi_X11_good rfl ck_183_E (fun c hc => nomatch hc))
theorem cy_185 (H : ab_Hand l G) : ∀ c Q, c < 185 → cs_all[c]? = some Q → ab_QOk l G mt_prog Q := ab_up (q := cq_184) (cy_184 H) rfl (ab_con_ok mt_ok (cy_184 H) mi_X11_habit rfl ck_184_E (fun c hc => nomatch hc))
theorem cy_186 (H : ab_Hand l G) : ∀ c Q, c < 186 → cs_all[c]? = some Q → ab_QOk l G mt_prog Q := ab_up (q := cq_185) (cy_185 H) rfl (ab_con_ok mt_ok (cy_185 H) mi_X11_hands rfl ck_185_E (List.forall_mem_cons.mpr ⟨ck_185_0, (List.forall_mem_cons.mpr ⟨ck_185_1, (fun c hc => nomatch hc)⟩)⟩))
theorem cy_187 (H : ab_Hand l G) : ∀ c Q, c < 187 → cs_all[c]? = some Q → ab_QOk l G mt_prog Q := ab_up (q := cq_186) (cy_186 H) rfl (ab_con_ok mt_ok (cy_186 H) mi_X11_holds rfl ck_186_E (List.forall_mem_cons.mpr ⟨ck_186_0, (fun c hc => nomatch hc)⟩))
theorem cy_188 (H : ab_Hand l G) : ∀ c Q, c < 188 → cs_all[c]? = some Q → ab_QOk l G mt_prog Q := ab_up (q := cq_187) (cy_187 H) rfl (ab_con_ok mt_ok (cy_187 H) mi_X11_putRight rfl ck_187_E (List.forall_mem_cons.mpr ⟨ck_187_0, (List.forall_mem_cons.mpr ⟨ck_187_1, (fun c hc => nomatch hc)⟩)⟩))
theorem cy_189 (H : ab_Hand l G) : ∀ c Q, c < 189 → cs_all[c]? = some Q → ab_QOk l G mt_prog Q := ab_up (q := cq_188) (cy_188 H) rfl (ab_con_ok mt_ok (cy_188 H) mi_X11_isTaken rfl ck_188_E (List.forall_mem_cons.mpr ⟨ck_188_0, (fun c hc => nomatch hc)⟩))
theorem cy_190 (H : ab_Hand l G) : ∀ c Q, c < 190 → cs_all[c]? = some Q → ab_QOk l G mt_prog Q := ab_up (q := cq_189) (cy_189 H) rfl (ab_con_ok mt_ok (cy_189 H) mi_X11_worthOf rfl ck_189_E (List.forall_mem_cons.mpr ⟨ck_189_0, (fun c hc => nomatch hc)⟩))
theorem cy_191 (H : ab_Hand l G) : ∀ c Q, c < 191 → cs_all[c]? = some Q → ab_QOk l G mt_prog Q := ab_up (q := cq_190) (cy_190 H) rfl (ab_con_ok mt_ok (cy_190 H) mi_X11_isBy rfl ck_190_E (fun c hc => nomatch hc))
theorem cy_192 (H : ab_Hand l G) : ∀ c Q, c < 192 → cs_all[c]? = some Q → ab_QOk l G mt_prog Q := ab_up (q := cq_191) (cy_191 H) rfl (ab_con_ok mt_ok (cy_191 H) mi_X11_putRight rfl ck_191_E (List.forall_mem_cons.mpr ⟨ck_191_0, (List.forall_mem_cons.mpr ⟨ck_191_1, (fun c hc => nomatch hc)⟩)⟩))
theorem cy_193 (H : ab_Hand l G) : ∀ c Q, c < 193 → cs_all[c]? = some Q → ab_QOk l G mt_prog Q := ab_up (q := cq_192) (cy_192 H) rfl (ab_con_ok mt_ok (cy_192 H) mi_X11_isBy rfl ck_192_E (fun c hc => nomatch hc))
theorem cy_194 (H : ab_Hand l G) : ∀ c Q, c < 194 → cs_all[c]? = some Q → ab_QOk l G mt_prog Q := ab_up (q := cq_193) (cy_193 H) rfl (ab_con_ok mt_ok (cy_193 H) mi_X11_putRight rfl ck_193_E (List.forall_mem_cons.mpr ⟨ck_193_0, (List.forall_mem_cons.mpr ⟨ck_193_1, (fun c hc => nomatch hc)⟩)⟩))
theorem cy_195 (H : ab_Hand l G) : ∀ c Q, c < 195 → cs_all[c]? = some Q → ab_QOk l G mt_prog Q := ab_up (q := cq_194) (cy_194 H) rfl (ab_con_ok mt_ok (cy_194 H) mi_X11_isBy rfl ck_194_E (fun c hc => nomatch hc))
theorem cy_196 (H : ab_Hand l G) : ∀ c Q, c < 196 → cs_all[c]? = some Q → ab_QOk l G mt_prog Q := ab_up (q := cq_195) (cy_195 H) rfl (ab_con_ok mt_ok (cy_195 H) mi_X11_isTaken rfl ck_195_E (List.forall_mem_cons.mpr ⟨ck_195_0, (fun c hc => nomatch hc)⟩))
theorem cy_197 (H : ab_Hand l G) : ∀ c Q, c < 197 → cs_all[c]? = some Q → ab_QOk l G mt_prog Q := ab_up (q := cq_196) (cy_196 H) rfl (ab_con_ok mt_ok (cy_196 H) mi_X11_keeps rfl ck_196_E (fun c hc => nomatch hc))
theorem cy_198 (H : ab_Hand l G) : ∀ c Q, c < 198 → cs_all[c]? = some Q → ab_QOk l G mt_prog Q := ab_up (q := cq_197) (cy_197 H) rfl (ab_con_ok mt_ok (cy_197 H) mi_X11_layLine rfl ck_197_E (List.forall_mem_cons.mpr ⟨ck_197_0, (fun c hc => nomatch hc)⟩))
theorem cy_199 (H : ab_Hand l G) : ∀ c Q, c < 199 → cs_all[c]? = some Q → ab_QOk l G mt_prog Q := ab_up (q := cq_198) (cy_198 H) rfl (ab_con_ok mt_ok (cy_198 H) mi_X11_letters rfl ck_198_E (List.forall_mem_cons.mpr ⟨ck_198_0, (List.forall_mem_cons.mpr ⟨ck_198_1, (List.forall_mem_cons.mpr ⟨ck_198_2, (List.forall_mem_cons.mpr ⟨ck_198_3, (List.forall_mem_cons.mpr ⟨ck_198_4, (List.forall_mem_cons.mpr ⟨ck_198_5, (List.forall_mem_cons.mpr ⟨ck_198_6, (List.forall_mem_cons.mpr ⟨ck_198_7, (List.forall_mem_cons.mpr ⟨ck_198_8, (List.forall_mem_cons.mpr ⟨ck_198_9, (List.forall_mem_cons.mpr ⟨ck_198_10, (List.forall_mem_cons.mpr ⟨ck_198_11, (List.forall_mem_cons.mpr ⟨ck_198_12, (List.forall_mem_cons.mpr ⟨ck_198_13, (List.forall_mem_cons.mpr ⟨ck_198_14, (List.forall_mem_cons.mpr ⟨ck_198_15, (List.forall_mem_cons.mpr ⟨ck_198_16, (List.forall_mem_cons.mpr ⟨ck_198_17, (fun c hc => nomatch hc)⟩)⟩)⟩)⟩)⟩)⟩)⟩)⟩)⟩)⟩)⟩)⟩)⟩)⟩)⟩)⟩)⟩)⟩))
theorem cy_200 (H : ab_Hand l G) : ∀ c Q, c < 200 → cs_all[c]? = some Q → ab_QOk l G mt_prog Q := ab_up (q := cq_199) (cy_199 H) rfl (ab_con_ok mt_ok (cy_199 H) mi_X11_line rfl ck_199_E (fun c hc => nomatch hc))
theorem cy_201 (H : ab_Hand l G) : ∀ c Q, c < 201 → cs_all[c]? = some Q → ab_QOk l G mt_prog Q := ab_up (q := cq_200) (cy_200 H) rfl (ab_con_ok mt_ok (cy_200 H) mi_X11_wrongAt rfl ck_200_E (List.forall_mem_cons.mpr ⟨ck_200_0, (fun c hc => nomatch hc)⟩))
theorem cy_202 (H : ab_Hand l G) : ∀ c Q, c < 202 → cs_all[c]? = some Q → ab_QOk l G mt_prog Q := ab_up (q := cq_201) (cy_201 H) rfl (ab_con_ok mt_ok (cy_201 H) mi_X11_mended rfl ck_201_E (List.forall_mem_cons.mpr ⟨ck_201_0, (fun c hc => nomatch hc)⟩))
theorem cy_203 (H : ab_Hand l G) : ∀ c Q, c < 203 → cs_all[c]? = some Q → ab_QOk l G mt_prog Q := ab_up (q := cq_202) (cy_202 H) rfl (ab_con_ok mt_ok (cy_202 H) mi_X11_note rfl ck_202_E (List.forall_mem_cons.mpr ⟨ck_202_0, (fun c hc => nomatch hc)⟩))
theorem cy_204 (H : ab_Hand l G) : ∀ c Q, c < 204 → cs_all[c]? = some Q → ab_QOk l G mt_prog Q := ab_up (q := cq_203) (cy_203 H) rfl (ab_con_ok mt_ok (cy_203 H) mi_X11_onBoard rfl ck_203_E (List.forall_mem_cons.mpr ⟨ck_203_0, (fun c hc => nomatch hc)⟩))
theorem cy_205 (H : ab_Hand l G) : ∀ c Q, c < 205 → cs_all[c]? = some Q → ab_QOk l G mt_prog Q := ab_up (q := cq_204) (cy_204 H) rfl (ab_con_ok mt_ok (cy_204 H) mi_X11_parts rfl ck_204_E (List.forall_mem_cons.mpr ⟨ck_204_0, (List.forall_mem_cons.mpr ⟨ck_204_1, (fun c hc => nomatch hc)⟩)⟩))
theorem cy_206 (H : ab_Hand l G) : ∀ c Q, c < 206 → cs_all[c]? = some Q → ab_QOk l G mt_prog Q := ab_up (q := cq_205) (cy_205 H) rfl (ab_con_ok mt_ok (cy_205 H) mi_X11_row rfl ck_205_E (List.forall_mem_cons.mpr ⟨ck_205_0, (List.forall_mem_cons.mpr ⟨ck_205_1, (List.forall_mem_cons.mpr ⟨ck_205_2, (List.forall_mem_cons.mpr ⟨ck_205_3, (fun c hc => nomatch hc)⟩)⟩)⟩)⟩))
theorem cy_207 (H : ab_Hand l G) : ∀ c Q, c < 207 → cs_all[c]? = some Q → ab_QOk l G mt_prog Q := ab_up (q := cq_206) (cy_206 H) rfl (ab_con_ok mt_ok (cy_206 H) mi_X11_says rfl ck_206_E (List.forall_mem_cons.mpr ⟨ck_206_0, (List.forall_mem_cons.mpr ⟨ck_206_1, (fun c hc => nomatch hc)⟩)⟩))
theorem cy_208 (H : ab_Hand l G) : ∀ c Q, c < 208 → cs_all[c]? = some Q → ab_QOk l G mt_prog Q := ab_up (q := cq_207) (cy_207 H) rfl (ab_con_ok mt_ok (cy_207 H) mi_X11_seekSlip rfl ck_207_E (List.forall_mem_cons.mpr ⟨ck_207_0, (List.forall_mem_cons.mpr ⟨ck_207_1, (List.forall_mem_cons.mpr ⟨ck_207_2, (List.forall_mem_cons.mpr ⟨ck_207_3, (List.forall_mem_cons.mpr ⟨ck_207_4, (List.forall_mem_cons.mpr ⟨ck_207_5, (List.forall_mem_cons.mpr ⟨ck_207_6, (List.forall_mem_cons.mpr ⟨ck_207_7, (List.forall_mem_cons.mpr ⟨ck_207_8, (List.forall_mem_cons.mpr ⟨ck_207_9, (List.forall_mem_cons.mpr ⟨ck_207_10, (List.forall_mem_cons.mpr ⟨ck_207_11, (fun c hc => nomatch hc)⟩)⟩)⟩)⟩)⟩)⟩)⟩)⟩)⟩)⟩)⟩)⟩))
theorem cy_209 (H : ab_Hand l G) : ∀ c Q, c < 209 → cs_all[c]? = some Q → ab_QOk l G mt_prog Q := ab_up (q := cq_208) (cy_208 H) rfl (ab_con_ok mt_ok (cy_208 H) mi_X11_settle rfl ck_208_E (List.forall_mem_cons.mpr ⟨ck_208_0, (List.forall_mem_cons.mpr ⟨ck_208_1, (fun c hc => nomatch hc)⟩)⟩))
theorem cy_210 (H : ab_Hand l G) : ∀ c Q, c < 210 → cs_all[c]? = some Q → ab_QOk l G mt_prog Q := ab_up (q := cq_209) (cy_209 H) rfl (ab_con_ok mt_ok (cy_209 H) mi_X11_sign rfl ck_209_E (fun c hc => nomatch hc))
theorem cy_211 (H : ab_Hand l G) : ∀ c Q, c < 211 → cs_all[c]? = some Q → ab_QOk l G mt_prog Q := ab_up (q := cq_210) (cy_210 H) rfl (ab_con_ok mt_ok (cy_210 H) mi_X11_slip rfl ck_210_E (fun c hc => nomatch hc))
theorem cy_212 (H : ab_Hand l G) : ∀ c Q, c < 212 → cs_all[c]? = some Q → ab_QOk l G mt_prog Q := ab_up (q := cq_211) (cy_211 H) rfl (ab_con_ok mt_ok (cy_211 H) mi_X11_step rfl ck_211_E (fun c hc => nomatch hc))
theorem cy_213 (H : ab_Hand l G) : ∀ c Q, c < 213 → cs_all[c]? = some Q → ab_QOk l G mt_prog Q := ab_up (q := cq_212) (cy_212 H) rfl (ab_con_ok mt_ok (cy_212 H) mi_X11_sure rfl ck_212_E (fun c hc => nomatch hc))
theorem cy_214 (H : ab_Hand l G) : ∀ c Q, c < 214 → cs_all[c]? = some Q → ab_QOk l G mt_prog Q := ab_up (q := cq_213) (cy_213 H) rfl (ab_con_ok mt_ok (cy_213 H) mi_X11_sweep rfl ck_213_E (List.forall_mem_cons.mpr ⟨ck_213_0, (fun c hc => nomatch hc)⟩))
theorem cy_215 (H : ab_Hand l G) : ∀ c Q, c < 215 → cs_all[c]? = some Q → ab_QOk l G mt_prog Q := ab_up (q := cq_214) (cy_214 H) rfl (ab_con_ok mt_ok (cy_214 H) mi_X11_tear rfl ck_214_E (fun c hc => nomatch hc))
theorem cy_216 (H : ab_Hand l G) : ∀ c Q, c < 216 → cs_all[c]? = some Q → ab_QOk l G mt_prog Q := ab_up (q := cq_215) (cy_215 H) rfl (ab_con_ok mt_ok (cy_215 H) mi_X11_times rfl ck_215_E (List.forall_mem_cons.mpr ⟨ck_215_0, (fun c hc => nomatch hc)⟩))
theorem cy_217 (H : ab_Hand l G) : ∀ c Q, c < 217 → cs_all[c]? = some Q → ab_QOk l G mt_prog Q := ab_up (q := cq_216) (cy_216 H) rfl (ab_con_ok mt_ok (cy_216 H) mi_X11_unbundle rfl ck_216_E (fun c hc => nomatch hc))
theorem cy_218 (H : ab_Hand l G) : ∀ c Q, c < 218 → cs_all[c]? = some Q → ab_QOk l G mt_prog Q := ab_up (q := cq_217) (cy_217 H) rfl (ab_con_ok mt_ok (cy_217 H) mi_X11_ways rfl ck_217_E (fun c hc => nomatch hc))
theorem cy_219 (H : ab_Hand l G) : ∀ c Q, c < 219 → cs_all[c]? = some Q → ab_QOk l G mt_prog Q := ab_up (q := cq_218) (cy_218 H) rfl (ab_con_ok mt_ok (cy_218 H) mi_X11_worthOf rfl ck_218_E (List.forall_mem_cons.mpr ⟨ck_218_0, (fun c hc => nomatch hc)⟩))
theorem cy_220 (H : ab_Hand l G) : ∀ c Q, c < 220 → cs_all[c]? = some Q → ab_QOk l G mt_prog Q := ab_up (q := cq_219) (cy_219 H) rfl (ab_con_ok mt_ok (cy_219 H) mi_X11_worth rfl ck_219_E (fun c hc => nomatch hc))
theorem cy_221 (H : ab_Hand l G) : ∀ c Q, c < 221 → cs_all[c]? = some Q → ab_QOk l G mt_prog Q := ab_up (q := cq_220) (cy_220 H) rfl (ab_con_ok mt_ok (cy_220 H) mi_X11_write rfl ck_220_E (List.forall_mem_cons.mpr ⟨ck_220_0, (fun c hc => nomatch hc)⟩))
theorem cy_222 (H : ab_Hand l G) : ∀ c Q, c < 222 → cs_all[c]? = some Q → ab_QOk l G mt_prog Q := ab_up (q := cq_221) (cy_221 H) rfl (ab_con_ok mt_ok (cy_221 H) mi_X11_wrong rfl ck_221_E (fun c hc => nomatch hc))
end CY
end
section
/-! ===== by hand: room for the stone's worths ===== -/
theorem ab_raw_push2 {h : ax_H} {n : Nat} (hs : ab_sh h n) (c : ax_D) (j : Nat) : ax_raw (ax_hpush h n c) j = if j = n then some c else ax_raw h j := by
  obtain ⟨h1, h2, h3⟩ := hs
  have e1 : ((h.getD (n / 32) []).length == n % 32) = true := by rw [h1]; exact beq_self_eq_true _
  unfold ax_hpush
  rw [e1]
  simp only [cond_true]
  by_cases hl : n / 32 < h.length
  · have e2 : Nat.blt (n / 32) h.length = true := by simpa [Nat.blt_eq] using hl
    rw [e2]
    simp only [cond_true]
    unfold ax_raw
    by_cases q : j / 32 = n / 32
    · rw [q, List.getD_eq_getElem?_getD, List.getElem?_set_self hl, Option.getD_some]
      by_cases q2 : j % 32 < n % 32
      · rw [if_neg (fun e => by rw [e] at q2; omega), List.getElem?_append_left (by rw [h1]; exact q2)]
      · rw [List.getElem?_append_right (by rw [h1]; omega), h1]
        by_cases q3 : j % 32 = n % 32
        · rw [if_pos (ax_dm q q3), q3, Nat.sub_self]
          rfl
        · rw [if_neg (fun e => q3 (by rw [e])), List.getElem?_eq_none (by simp only [List.length_singleton]; omega), List.getElem?_eq_none (by rw [h1]; omega)]
    · rw [if_neg (fun e => q (by rw [e])), List.getD_eq_getElem?_getD, List.getElem?_set_ne (fun e => q e.symm), ← List.getD_eq_getElem?_getD]
  · have e2 : Nat.blt (n / 32) h.length = false := by
      rw [Bool.eq_false_iff]
      intro hb
      exact hl (by simpa [Nat.blt_eq] using hb)
    have e3 : n / 32 = h.length := by omega
    have e4 : (n / 32 == h.length) = true := by rw [e3]; exact beq_self_eq_true _
    have hn : h.getD (n / 32) [] = [] := by rw [List.getD_eq_getElem?_getD, List.getElem?_eq_none (by omega)]; rfl
    have hz : n % 32 = 0 := by rw [hn] at h1; simpa using h1.symm
    rw [e2, e4]
    simp only [cond_false, cond_true]
    unfold ax_raw
    rw [List.getD_eq_getElem?_getD, List.getD_eq_getElem?_getD]
    by_cases q : j / 32 < h.length
    · rw [List.getElem?_append_left q, if_neg (fun e => by rw [e] at q; omega)]
    · rw [List.getElem?_append_right (by omega), List.getElem?_eq_none (show h.length ≤ j / 32 by omega)]
      by_cases q2 : j / 32 = h.length
      · rw [q2, Nat.sub_self]
        by_cases q3 : j % 32 = 0
        · rw [if_pos (ax_dm (by omega) (by omega)), q3]
          rfl
        · rw [if_neg (fun e => q3 (by rw [e]; exact hz))]
          show ([c] : List ax_D)[j % 32]? = ([] : List ax_D)[j % 32]?
          rw [List.getElem?_eq_none (by simp only [List.length_singleton]; omega)]
          simp
      · rw [if_neg (fun e => q2 (by rw [e]; exact e3)), show ([[c]] : List (List ax_D))[j / 32 - List.length h]? = none from List.getElem?_eq_none (by rw [List.length_singleton]; omega)]
theorem ab_sh_push {h : ax_H} {n : Nat} (hs : ab_sh h n) (c : ax_D) : ab_sh (ax_hpush h n c) (n + 1) := by
  obtain ⟨h1, h2, h3⟩ := hs
  have e1 : ((h.getD (n / 32) []).length == n % 32) = true := by rw [h1]; exact beq_self_eq_true _
  unfold ax_hpush
  rw [e1]
  simp only [cond_true]
  by_cases hl : n / 32 < h.length
  · have e2 : Nat.blt (n / 32) h.length = true := by simpa [Nat.blt_eq] using hl
    rw [e2]
    simp only [cond_true]
    refine ⟨?_, by rw [List.length_set]; omega, by rw [List.length_set]; omega⟩
    by_cases q : n % 32 = 31
    · rw [List.getD_eq_getElem?_getD, List.getElem?_eq_none (by rw [List.length_set]; omega)]
      show 0 = _
      omega
    · rw [show (n + 1) / 32 = n / 32 by omega, List.getD_eq_getElem?_getD, List.getElem?_set_self hl, Option.getD_some, List.length_append, h1, List.length_singleton]
      omega
  · have e2 : Nat.blt (n / 32) h.length = false := by
      rw [Bool.eq_false_iff]
      intro hb
      exact hl (by simpa [Nat.blt_eq] using hb)
    have e3 : n / 32 = h.length := by omega
    have e4 : (n / 32 == h.length) = true := by rw [e3]; exact beq_self_eq_true _
    have hn : h.getD (n / 32) [] = [] := by rw [List.getD_eq_getElem?_getD, List.getElem?_eq_none (by omega)]; rfl
    have hz : n % 32 = 0 := by rw [hn] at h1; simpa using h1.symm
    rw [e2, e4]
    simp only [cond_false, cond_true]
    refine ⟨?_, by rw [List.length_append, List.length_singleton]; omega, by rw [List.length_append, List.length_singleton]; omega⟩
    rw [show (n + 1) / 32 = h.length by omega, List.getD_eq_getElem?_getD, List.getElem?_append_right (Nat.le_refl _), Nat.sub_self]
    show 1 = _
    omega
theorem ab_k_new {k : Nat} (hk : 573 ≤ k) : ab_k k = 34 := by
  by_cases h : 576 ≤ k
  · exact ab_k_far h
  · have : k = 573 ∨ k = 574 ∨ k = 575 := by omega
    rcases this with rfl | rfl | rfl <;> rfl
theorem ab_cf_mono {n n' : Nat} (hn : n ≤ n') {S : ab_P} {d : ax_D} (h : ab_cf n S d) : ab_cf n' S d := by
  rcases S with ⟨t, N1, N2, τ, σ⟩ | ⟨ci, τs⟩
  · rcases d with ⟨t', N, f | f⟩ | ⟨cj, fs⟩
    · obtain ⟨h1, h2, h3, h4, h5, h6⟩ := h
      exact ⟨h1, h2, h3, h4, h5, fun i hi => ⟨ab_ok_mono hn (h6 i hi).1, ab_ok_mono hn (h6 i hi).2⟩⟩
    · obtain ⟨h1, h2, h3, h4, h5, h6, h7⟩ := h
      refine ⟨h1, h2, h3, h4, h5, h6, fun i hi => ?_⟩
      obtain ⟨k, e1, e2⟩ := h7 i hi
      exact ⟨k, e1, ab_ok_mono hn e2⟩
    · exact h.elim
  · rcases d with ⟨t', N, f | f⟩ | ⟨cj, fs⟩
    · exact h.elim
    · exact h.elim
    · obtain ⟨h1, h2, h3⟩ := h
      refine ⟨h1, h2, fun j v hv => ?_⟩
      obtain ⟨τ, e1, e2⟩ := h3 j v hv
      exact ⟨τ, e1, ab_ok_mono hn e2⟩
theorem ab_cf_o {n ci : Nat} {τs : List ab_Y} {fs : List Value} (h1 : fs.length = τs.length) (h2 : ∀ (j : Nat) (v : Value), fs[j]? = some v → ∃ τ, τs[j]? = some τ ∧ ab_ok n v τ) : ab_cf n (.inr (ci, τs)) (.inr (ci, fs)) := ⟨rfl, h1, h2⟩
theorem ab_cf_a {n t N1 N2 N : Nat} {τ : ab_Y} {σ : List ab_Y} {f : List (Nat × Int32)} (h2 : t < 2) (h3 : N1 ≤ N) (h4 : N ≤ N2) (h5 : N2 < 2147483648) (h6 : ∀ i, i < N → ab_ok n (.int (ax_fi f i)) τ ∧ ab_ok n (.int (ax_fi f i)) (σ.getD i τ)) : ab_cf n (.inl (t, N1, N2, τ, σ)) (.inl (t, N, .inl f)) := ⟨rfl, h2, h3, h4, h5, h6⟩
/-- a new array of ints, put into the stone's field -/
theorem ab_room_HT {h : ax_H} {n : Nat} (hH : ab_HT h n) {m : Nat} (hm1 : 1 ≤ m) (hm2 : m ≤ 41160) {fs : List Value} (hr : ax_raw h 28 = some (.inr (7, fs))) (hlen : ∀ w : Nat, ab_rd h 28 4 = some (.ref w) → ab_ri h w (-1) < m) :
    (∀ (k : Nat) (i : Int), k < n → (k = 28 → i ≠ 4) → ab_rd (ax_hset (ax_hpush h n (.inl (0, m, .inl []))) 28 (.inr (7, fs.set 4 (.ref n)))) k i = ab_rd h k i) ∧ ab_HT (ax_hset (ax_hpush h n (.inl (0, m, .inl []))) 28 (.inr (7, fs.set 4 (.ref n)))) (n + 1) := by
  have hn := hH.1
  have hp := fun j => ab_raw_push2 hH.2.2.2 (.inl (0, m, .inl [])) j
  have hr' : ax_raw (ax_hpush h n (.inl (0, m, .inl []))) 28 = some (.inr (7, fs)) := by rw [hp, if_neg (by omega)]; exact hr
  have hs := fun j => ab_raw_set (c := .inr (7, fs.set 4 (.ref n))) hr' j
  obtain ⟨d28, S28, q1, q2, q3⟩ := hH.2.1 28 (by omega)
  rw [hr] at q1
  cases q1
  have hK : ab_K[ab_k 28]? = some ks_30 := rfl
  rw [hK] at q2
  cases q2
  have hfs : fs.length = 9 := q3.2.1
  have hrd : ∀ (k : Nat) (i : Int), k < n → (k = 28 → i ≠ 4) → ab_rd (ax_hset (ax_hpush h n (.inl (0, m, .inl []))) 28 (.inr (7, fs.set 4 (.ref n)))) k i = ab_rd h k i := by
    intro k i hk hne
    unfold ab_rd
    rw [hs]
    by_cases e : k = 28
    · subst e
      rw [if_pos rfl, hr]
      have hi := hne rfl
      by_cases hneg : i < 0
      · simp only [decide_eq_true hneg, cond_true]
      · simp only [decide_eq_false hneg, cond_false]
        rw [List.getElem?_set_ne (by omega)]
    · rw [if_neg e, hp, if_neg (by omega)]
  refine ⟨hrd, by omega, fun k hk => ?_, ?_, ab_sh_set (ab_sh_push hH.2.2.2 _)⟩
  · rw [hs]
    by_cases e : k = 28
    · subst e
      refine ⟨.inr (7, fs.set 4 (.ref n)), ks_30, by rw [if_pos rfl], hK, ab_cf_o (by rw [List.length_set]; exact q3.2.1) (fun j v hv => ?_)⟩
      by_cases ej : 4 = j
      · subst ej
        rw [List.getElem?_set_self (by omega)] at hv
        cases hv
        exact ⟨_, rfl, n, rfl, by omega, by rw [ab_k_new hn]; rfl⟩
      · rw [List.getElem?_set_ne ej] at hv
        obtain ⟨τ, e1, e2⟩ := q3.2.2 j v hv
        exact ⟨τ, e1, ab_ok_mono (by omega) e2⟩
    · rw [if_neg e, hp]
      by_cases e2 : k = n
      · subst e2
        exact ⟨.inl (0, m, .inl []), ks_34, by rw [if_pos rfl], by rw [ab_k_new hn]; rfl, ab_cf_a (by decide) hm1 hm2 (by decide) (fun i hi => ⟨ab_top_ok _ _, ab_top_ok _ _⟩)⟩
      · rw [if_neg e2]
        obtain ⟨d, S, h1, h2, h3⟩ := hH.2.1 k (by omega)
        exact ⟨d, S, h1, h2, ab_cf_mono (by omega) h3⟩
  · obtain ⟨⟨j1, j2, j3⟩, j4, j5⟩ := hH.2.2.1
    have hri : ∀ (k : Nat) (i : Int), k < n → (k = 28 → i ≠ 4) → ab_ri (ax_hset (ax_hpush h n (.inl (0, m, .inl []))) 28 (.inr (7, fs.set 4 (.ref n)))) k i = ab_ri h k i := fun k i hk hne => ab_ri_of (hrd k i hk hne)
    have hgc : ∀ (k a : Nat), k < n → k ≠ 28 → ab_gc (ax_hset (ax_hpush h n (.inl (0, m, .inl []))) 28 (.inr (7, fs.set 4 (.ref n)))) k a = ab_gc h k a := fun k a hk hne => ab_gc_of a (fun i _ => hrd k i hk (fun e => absurd e hne))
    refine ⟨⟨?_, ?_, ?_⟩, ?_, fun w hw => ?_⟩
    · rw [hri 28 1 (by omega) (by omega), hgc 29 _ (by omega) (by omega)]; exact j1
    · rw [hri 28 1 (by omega) (by omega), hri 28 2 (by omega) (by omega)]; exact j2
    · rw [hri 28 1 (by omega) (by omega), hri 28 2 (by omega) (by omega)]; exact j3
    · rw [hri 542 14 (by omega) (by omega), hgc 554 _ (by omega) (by omega)]; exact j4
    · have hw4 : ab_rd (ax_hset (ax_hpush h n (.inl (0, m, .inl []))) 28 (.inr (7, fs.set 4 (.ref n)))) 28 4 = some (.ref n) := by
        unfold ab_rd
        rw [hs, if_pos rfl]
        show (fs.set 4 (.ref n))[4]? = _
        rw [List.getElem?_set_self (by omega)]
      rw [hw4] at hw
      cases hw
      have hl : ab_ri (ax_hset (ax_hpush h n (.inl (0, m, .inl []))) 28 (.inr (7, fs.set 4 (.ref n)))) n (-1) = m := by
        unfold ab_ri
        have : ab_rd (ax_hset (ax_hpush h n (.inl (0, m, .inl []))) 28 (.inr (7, fs.set 4 (.ref n)))) n (-1) = some (.int (Int32.ofNat m)) := by
          unfold ab_rd
          rw [hs, if_neg (by omega), hp, if_pos rfl]
          rfl
        rw [this]
        exact ab_ofN (by omega)
      rw [hl, hri 28 6 (by omega) (by omega), hri 28 7 (by omega) (by omega)]
      obtain ⟨w0, hw0⟩ : ∃ w0 : Nat, ab_rd h 28 4 = some (.ref w0) := by
        have h4 : ∃ v, fs[4]? = some v := ⟨fs[4]'(by omega), List.getElem?_eq_getElem (by omega)⟩
        obtain ⟨v, hv⟩ := h4
        obtain ⟨τ, e1, e2⟩ := q3.2.2 4 v hv
        have : τ = .inr (some 17179869184) := by
          have : (some (.inr (some 17179869184)) : Option ab_Y) = some τ := e1
          exact (Option.some.inj this).symm
        subst this
        obtain ⟨k, rfl, -⟩ := e2
        refine ⟨k, ?_⟩
        unfold ab_rd
        rw [hr]
        exact hv
      have a1 := hlen w0 hw0
      have a2 := j5 w0 hw0
      omega
end
section
/-! ===== by hand: makeRoom's loop ===== -/
def nc_cl : ab_CL := fun _ _ _ _ _ _ => none
theorem nc_ok {l : Launch} {G : ax_T} {prog : List ax_MI} {md : List (Nat × Int)} : ab_clOk l G prog md nc_cl := fun k j mi S vs rest L _ h => by cases h
def mr_md : List (Nat × Int) := [(1073741824, 4)]
def mr_T (b : Int) : ab_S := ([(0, av_k 28), (1, av_s 0), (2, av_s 1)], [], [.inl (1, b, 0), .inl (0, 20, 0), .inl (0, 20, 0)], [], [(av_k 28, av_c 1, av_s 2)], [], 0, 0)
def mr_N : ab_S := ([(0, av_k 28), (1, av_s 0)], [av_s 0, av_k 28], [.inl (1, 41160, 0), .inr (some 17179869184), .inl (1, 41160, 0)], [(2, 0, -1)], [(av_k 28, av_c 4, av_s 1), (av_s 1, av_c (-1), av_s 2)], [], 0, 0)
def mr_P : ab_S := ([], [], [], [], [], [], 0, 0)
def mr_cut (pc : Nat) : Bool := Nat.beq pc 20 || Nat.beq pc 65
def mr_t0 (r : ab_OC) : Bool := match r with
  | .inl q => Nat.beq q.1 20 && ((match ab_lk q.2.1 2 with
    | some a => ab_veq a (.inl 0)
    | none => false) && (ab_fit 0 q.2 (mr_T 15)).isSome)
  | .inr _ => false
def mr_i (S : ab_S) : Bool := match ab_lk S.1 2, ab_fd S.2.2.2.2.1 (av_k 28) (.inl 1) with
  | some a, some p => (match ab_iv S.2.2.1 a, ab_iv S.2.2.1 p with
    | some _, some _ => ab_leq S.2.2.1 S.2.2.2.1 4 a (av_s 1) 1 && (ab_leq S.2.2.1 S.2.2.2.1 4 (av_s 1) a (-1) && ab_leq S.2.2.1 S.2.2.2.1 4 (av_s 1) p (-1))
    | _, _ => false)
  | _, _ => false
def mr_v (b : Int) (S : ab_S) : Bool := match ab_fd S.2.2.2.2.1 (av_k 29) (av_s 1) with
  | some v => (match ab_iv S.2.2.1 v with
    | some p => bif decide (p.2 ≤ 13) then (ab_fit 0 S (mr_T b)).isSome else decide (p.1 = 14) && (decide (p.2 = 14) && (ab_fit 0 S (mr_T (b * 14))).isSome)
    | none => false)
  | none => false
def mr_t (b : Int) (r : ab_OC) : Bool := match r with
  | .inl q => bif Nat.beq q.1 20 then mr_i q.2 && mr_v b q.2 else Nat.beq q.1 65 && (ab_fit 0 q.2 mr_N).isSome
  | .inr S => (ab_fit 0 S mr_P).isSome
def mr_c (b : Int) : Bool := match ab_X mt_prog nc_cl mr_md false [] mt_X7_makeRoom mr_cut 0 100 true 20 (mr_T b) with
  | some L => L.all (mr_t b)
  | none => false
def mr_e : Bool := match ab_X mt_prog nc_cl mr_md false [] mt_X7_makeRoom mr_cut 0 100 true 0 cq_2.2.2.1 with
  | some L => L.all mr_t0
  | none => false
set_option maxRecDepth 100000 in
theorem mr_e_ok : mr_e = true := by decide +kernel
set_option maxRecDepth 100000 in
theorem mr_c0 : mr_c 15 = true := by decide +kernel
set_option maxRecDepth 100000 in
theorem mr_c1 : mr_c 210 = true := by decide +kernel
set_option maxRecDepth 100000 in
theorem mr_c2 : mr_c 2940 = true := by decide +kernel
set_option maxRecDepth 100000 in
theorem mr_c3 : mr_c 41160 = true := by decide +kernel
def mr_gb (g : Nat) (b : Int) : Prop := g = 0 ∧ b = 15 ∨ g = 1 ∧ b = 210 ∨ g = 2 ∧ b = 2940 ∨ g = 3 ∧ b = 41160
theorem mr_gb_c {g : Nat} {b : Int} (h : mr_gb g b) : mr_c b = true := by
  rcases h with ⟨-, rfl⟩ | ⟨-, rfl⟩ | ⟨-, rfl⟩ | ⟨-, rfl⟩
  · exact mr_c0
  · exact mr_c1
  · exact mr_c2
  · exact mr_c3
theorem mr_gb_s {g : Nat} {b : Int} (h : mr_gb g b) (hg : g + 1 ≤ 3) : mr_gb (g + 1) (b * 14) := by
  rcases h with ⟨rfl, rfl⟩ | ⟨rfl, rfl⟩ | ⟨rfl, rfl⟩ | ⟨rfl, rfl⟩
  · exact Or.inr (Or.inl ⟨rfl, rfl⟩)
  · exact Or.inr (Or.inr (Or.inl ⟨rfl, rfl⟩))
  · exact Or.inr (Or.inr (Or.inr ⟨rfl, rfl⟩))
  · omega
theorem ab_gc_mono {h : ax_H} {k : Nat} {a b : Nat} (hab : a ≤ b) : ab_gc h k a ≤ ab_gc h k b := by
  induction b with
  | zero =>
    have : a = 0 := by omega
    subst this
    exact Nat.le_refl _
  | succ b ih =>
    by_cases e : a = b + 1
    · subst e; exact Nat.le_refl _
    · exact Nat.le_trans (ih (by omega)) (Nat.le_add_right _ _)
section MR
variable {l : Launch} {G : ax_T} {h0 : ax_H} {n0 d : Nat}
/-- what may change is the stone's field alone -/
theorem mr_fr {h' : ax_H} (hfr : ab_fr mr_md n0 h0 h') (hn : 573 ≤ n0) {k : Nat} (hk : k < 573) {i : Int} (hki : ab_k k = 30 → i ≠ 4) : ab_rd h' k i = ab_rd h0 k i := by
  refine hfr k (by omega) i ?_
  rw [Bool.eq_false_iff]
  intro hm
  obtain ⟨q, hq, hc⟩ := List.any_eq_true.mp hm
  rw [show mr_md = [(1073741824, 4)] from rfl, List.mem_singleton] at hq
  subst hq
  simp only [Bool.and_eq_true, Bool.or_eq_true, decide_eq_true_eq] at hc
  have h1 : ab_k k = 30 := by
    have h2 := hc.1
    rw [show (1073741824 : Nat) = 2 ^ 30 from rfl, Nat.testBit_two_pow] at h2
    exact (of_decide_eq_true h2).symm
  have := hki h1
  omega
theorem mr_new {V : List Value} {lv : List (Nat × Value)} {st : List Value} {h' : ax_H} {n' cs ss : Nat} (hg : ab_g ([], h0, n0, mr_md) mr_N V lv st h' n' cs ss) : ab_good l G mt_X7_makeRoom d ([], h0, n0, mr_md) [mr_P] (65, lv, st, h', n', cs, ss) := by
  have hmi : mt_X7_makeRoom ∈ mt_prog := List.mem_of_getElem? mi_X7_makeRoom
  obtain ⟨g1, g2, g3, g4, g5, g6, g7, g8, g9⟩ := hg
  obtain ⟨hH, hfr, hle⟩ := g8
  obtain ⟨e1, e2⟩ := g7
  have e1' : cs = 0 := e1
  have e2' : ss = 0 := e2
  subst e1' e2'
  match st, g2 with
  | [], g2 => exact g2.elim
  | [_], g2 => exact g2.2.elim
  | _ :: _ :: _ :: _, g2 => exact g2.2.2.elim
  | [v, o], g2 =>
    obtain ⟨f1, f2, -⟩ := g2
    obtain ⟨w0, hw0, x, rfl, hx1, hx2, -⟩ := g3.2 0 _ rfl
    have hv : v = .int x := Option.some.inj (f1.symm.trans hw0)
    subst hv
    have ho : o = .ref 28 := (Option.some.inj f2).symm
    subst ho
    obtain ⟨x0, y0, c1, c2, c3⟩ := g4 _ List.mem_cons_self
    rcases g5 (av_k 28, av_c 4, av_s 1) List.mem_cons_self with ⟨k, y, w, r1, r2, r3, r4⟩ | ⟨_, _, _, r1, -⟩
    case inr => cases r1
    rcases g5 (av_s 1, av_c (-1), av_s 2) (List.mem_cons_of_mem _ List.mem_cons_self) with ⟨k', y', w', s1, s2, s3, s4⟩ | ⟨_, _, _, s1, -⟩
    case inr =>
      obtain ⟨w1, hw1, k1, rfl, -⟩ := g3.2 1 _ rfl
      have : some (Value.ref k1) = some (.int _) := hw1.symm.trans s1
      cases this
    cases r1
    cases r2
    cases s2
    have r3' : V[1]? = some w := r3
    have s1' : V[1]? = some (.ref k') := s1
    have hw : w = .ref k' := Option.some.inj (r3'.symm.trans s1')
    subst hw
    have hy0 : w' = .int x0 := Option.some.inj (s3.symm.trans c1)
    subst hy0
    have hx0 : y0 = x := by
      have : some (Value.int y0) = some (.int x) := c2.symm.trans hw0
      cases this; rfl
    subst hx0
    obtain ⟨d28, S28, q1, q2, q3⟩ := hH.2.1 28 (by have := hH.1; omega)
    have hK : ab_K[ab_k 28]? = some ks_30 := rfl
    rw [hK] at q2
    cases q2
    rcases d28 with ⟨td, Nd, fd | fd⟩ | ⟨cj, fs⟩
    case inl.inl => exact q3.elim
    case inl.inr => exact q3.elim
    have hcj : cj = 7 := q3.1
    subst hcj
    have hfl : fs.length = 9 := q3.2.1
    have hm : (y0.toNatClampNeg : Int) = y0.toInt := by
      show ((y0.toInt).toNat : Int) = y0.toInt
      omega
    have hlen : ∀ w : Nat, ab_rd h' 28 4 = some (.ref w) → ab_ri h' w (-1) < (y0.toNatClampNeg : Int) := by
      intro w hw
      have h1 : ab_rd h' 28 (Int32.ofInt 4).toInt = ab_rd h' 28 4 := rfl
      rw [h1, hw] at r4
      obtain rfl : w = k' := by cases r4; rfl
      unfold ab_ri
      have h2 : ab_rd h' w (Int32.ofInt (-1)).toInt = ab_rd h' w (-1) := rfl
      rw [h2] at s4
      rw [s4]
      show x0.toInt < _
      have : x0.toInt - y0.toInt ≤ -1 := c3
      omega
    obtain ⟨hrd, hHT⟩ := ab_room_HT hH (m := y0.toNatClampNeg) (by omega) (by omega) q1 hlen
    have hn := hH.1
    have hp28 : ax_raw (ax_hpush h' n' (.inl (0, y0.toNatClampNeg, .inl []))) 28 = some (.inr (7, fs)) := by rw [ab_raw_push2 hH.2.2.2, if_neg (by omega)]; exact q1
    refine ⟨(none, ax_hset (ax_hpush h' n' (.inl (0, y0.toNatClampNeg, .inl []))) 28 (.inr (7, fs.set 4 (.ref n'))), n' + 1), rfl, ?_, mr_P, List.mem_singleton.mpr rfl, [], 0, 0, ?_⟩
    · have hs1 : y0.toNatClampNeg ≤ 41160 := by omega
      refine ab_Wd_step mt_ok hmi (en := (65, .newarray .int, 2, (5, 0, 0, 0), [160])) rfl (F := (67, lv, [.ref n', .ref 28], ax_hpush h' n' (.inl (0, y0.toNatClampNeg, .inl [])), n' + 1, 1, y0.toNatClampNeg)) ?_ (Nat.le_refl 1) hs1 ?_
      · have b1 : decide (0 ≤ y0.toInt) = true := decide_eq_true (by omega)
        have b2 : decide (y0.toNatClampNeg * 8 ≤ 536870912) = true := decide_eq_true (by omega)
        simp only [ax_step, ax_s_newa, b1, b2, Bool.and_self, cond_true, Nat.zero_add]
      · refine ab_Wd_step mt_ok hmi (en := (67, .putfield 29, 3, (0, 7, 4, 0), [321])) rfl (F := (70, lv, [], ax_hset (ax_hpush h' n' (.inl (0, y0.toNatClampNeg, .inl []))) 28 (.inr (7, fs.set 4 (.ref n'))), n' + 1, 1, y0.toNatClampNeg)) ?_ (Nat.le_refl 1) hs1 ?_
        · have b3 : Nat.blt 4 fs.length = true := by rw [hfl]; rfl
          have b4 : ax_fit (ax_ty 7 4) (.ref n') = true := rfl
          simp only [ax_step, ax_s_putf, hp28, b3, b4, beq_self_eq_true, Bool.and_self, cond_true]
        · exact ab_Wd_ret mt_ok hmi (en := (70, .return_, 1, (0, 0, 0, 0), [])) rfl rfl rfl (Nat.le_refl 1) hs1
    · refine ⟨fun k a hk => (by cases hk), trivial, ⟨rfl, fun u τ hu => (by simp [mr_P] at hu)⟩, fun q hq => (by cases hq), fun q hq => (by cases hq), fun q hq => (by cases hq), ⟨rfl, rfl⟩, ⟨hHT, fun k hk i hi => ?_, Nat.le_succ_of_le hle⟩, fun u v hu => (by simp at hu)⟩
      rw [hrd k i (Nat.lt_of_lt_of_le hk hle) ?_]
      · exact hfr k hk i hi
      · intro e e'
        subst e e'
        cases hi
theorem mr_loop (hH0 : ab_HT h0 n0) : ∀ (N g : Nat) (b : Int), mr_gb g b → ∀ (V : List Value) (lv : List (Nat × Value)) (st : List Value) (h' : ax_H) (n' cs ss : Nat), ab_g ([], h0, n0, mr_md) (mr_T b) V lv st h' n' cs ss → ∀ i : Int32, ax_look lv 2 = some (.int i) → ab_gc h0 29 i.toInt.toNat = g → (21 - i.toInt).toNat < N → ab_good l G mt_X7_makeRoom d ([], h0, n0, mr_md) [mr_P] (20, lv, st, h', n', cs, ss) := by
  have hmi : mt_X7_makeRoom ∈ mt_prog := List.mem_of_getElem? mi_X7_makeRoom
  intro N
  induction N with
  | zero => intro g b hgb V lv st h' n' cs ss hg i hi hgc hN; omega
  | succ N ih =>
    intro g b hgb V lv st h' n' cs ss hg i hi hgc hN
    have hc := mr_gb_c hgb
    unfold mr_c at hc
    split at hc
    case h_2 => cases hc
    rename_i L hL
    have hgV : ab_g (V, h0, n0, mr_md) (mr_T b) V lv st h' n' cs ss := by
      obtain ⟨g1, g2, g3, g4, g5, g6, g7, g8, g9⟩ := hg
      exact ⟨g1, g2, g3, g4, g5, g6, g7, g8, fun u v hu => hu⟩
    obtain ⟨c1, c2⟩ := hg.2.2.2.2.2.2.1
    have c1' : cs = 0 := c1
    have c2' : ss = 0 := c2
    subst c1' c2'
    -- the number of the round
    obtain ⟨vi, hvi1, hvi2⟩ := hg.1 2 (av_s 1) rfl
    rw [hi] at hvi1
    cases hvi1
    obtain ⟨wi, hwi, xi, rfl, hi0, hi20, -⟩ := hg.2.2.1.2 1 _ rfl
    have hxi : xi = i := by
      have : some (Value.int xi) = some (.int i) := hwi.symm.trans hvi2
      cases this; rfl
    subst hxi
    rcases ab_X_ok mt_ok hmi nc_ok (Nat.zero_le d) _ _ _ _ _ hL _ _ _ _ _ _ _ hgV (Nat.zero_le _) (Nat.zero_le _) with ⟨pc', S', hin, V1, lv1, st1, h1, n1, cs1, ss1, hg1, r1, r2, hW⟩ | ⟨S', hin, o, V1, hg1, ht, hW⟩
    · have hx1 : ab_ext V V1 := hg1.2.2.2.2.2.2.2.2
      have hgE : ab_g ([], h0, n0, mr_md) S' V1 lv1 st1 h1 n1 cs1 ss1 := by
        obtain ⟨g1, g2, g3, g4, g5, g6, g7, g8, g9⟩ := hg1
        exact ⟨g1, g2, g3, g4, g5, g6, g7, g8, fun u v hu => (by simp at hu)⟩
      have ho := List.all_eq_true.mp hc _ hin
      simp only [mr_t] at ho
      cases ep : Nat.beq pc' 20 with
      | false =>
        rw [ep] at ho
        simp only [cond_false, Bool.and_eq_true, Nat.beq_eq] at ho
        obtain ⟨hp, hf⟩ := ho
        subst hp
        obtain ⟨z, hz⟩ := Option.isSome_iff_exists.mp hf
        obtain ⟨S2, σ⟩ := z
        obtain ⟨V2, -, -, hgN⟩ := ab_fit_g hgE (Nat.le_refl 0) hz
        obtain ⟨o, k1, k2, k3⟩ := mr_new (l := l) (G := G) (d := d) hgN
        exact ⟨o, k1, hW o k2, k3⟩
      | true =>
        rw [ep] at ho
        simp only [cond_true, Bool.and_eq_true] at ho
        have hp : pc' = 20 := by simpa [Nat.beq_eq] using ep
        subst hp
        obtain ⟨ho1, ho2⟩ := ho
        obtain ⟨q1, q2, q3, q4, q5, q6, q7, q8, q9⟩ := id hg1
        have hs1 : ab_cv V1 (av_s 1) = some (.int xi) := hx1 1 _ hwi
        unfold mr_i at ho1
        split at ho1
        case h_2 => cases ho1
        rename_i a p ha hp
        split at ho1
        case h_2 => cases ho1
        rename_i iva ivp hiva hivp
        simp only [Bool.and_eq_true] at ho1
        obtain ⟨u1, u2, u3⟩ := ho1
        obtain ⟨va, hva1, hva2⟩ := q1 2 a ha
        obtain ⟨xa, rfl, -⟩ := ab_iv_ok q3 hiva hva2
        obtain ⟨wp, hwp1, hwp2⟩ := ab_fd_ok q5 hp (k := 28) (x := Int32.ofInt 1) rfl rfl
        obtain ⟨xp, rfl, -⟩ := ab_iv_ok q3 hivp hwp1
        have a1 := ab_leq_ok q3 q4 u1 hva2 hs1
        have a2 := ab_leq_ok q3 q4 u2 hs1 hva2
        have a3 := ab_leq_ok q3 q4 u3 hs1 hwp1
        have hxa : xa.toInt = xi.toInt + 1 := by omega
        have hfr : ab_fr mr_md n0 h0 h1 := q8.2.1
        have hpl : ab_ri h0 28 1 = xp.toInt := by
          unfold ab_ri
          rw [← mr_fr hfr hH0.1 (k := 28) (i := 1) (by omega) (fun _ => by decide)]
          have : ab_rd h1 28 (Int32.ofInt 1).toInt = ab_rd h1 28 1 := rfl
          rw [this] at hwp2
          rw [hwp2]
        have hg3 : ab_gc h0 29 (xi.toInt.toNat + 1) ≤ 3 := by
          refine Nat.le_trans (ab_gc_mono (b := (ab_ri h0 28 1).toNat) ?_) hH0.2.2.1.1.1
          rw [hpl]
          omega
        have hstep : ab_gc h0 29 (xi.toInt.toNat + 1) = g + (if ab_ri h0 29 xi.toInt = 14 then 1 else 0) := by
          rw [ab_gc, hgc, show ((xi.toInt.toNat : Nat) : Int) = xi.toInt by omega]
        have hxn : xa.toInt.toNat = xi.toInt.toNat + 1 := by omega
        unfold mr_v at ho2
        split at ho2
        case h_2 => cases ho2
        rename_i v hv
        split at ho2
        case h_2 => cases ho2
        rename_i pv hpv
        obtain ⟨wv, hwv1, hwv2⟩ := ab_fd_ok q5 hv (k := 29) (x := xi) rfl hs1
        obtain ⟨xv, rfl, hv1, hv2⟩ := ab_iv_ok q3 hpv hwv1
        have hrv : ab_ri h0 29 xi.toInt = xv.toInt := by
          unfold ab_ri
          rw [← mr_fr hfr hH0.1 (k := 29) (i := xi.toInt) (by omega) (fun e => by cases e), hwv2]
        have hi14 : (21 - xa.toInt).toNat < N := by omega
        cases ec : decide (pv.2 ≤ 13) with
        | true =>
          rw [ec] at ho2
          simp only [cond_true] at ho2
          have ec' := of_decide_eq_true ec
          obtain ⟨z, hz⟩ := Option.isSome_iff_exists.mp ho2
          obtain ⟨S2, σ⟩ := z
          obtain ⟨V2, -, -, hgT⟩ := ab_fit_g hgE (Nat.le_refl 0) hz
          have hgn : ab_gc h0 29 xa.toInt.toNat = g := by
            rw [hxn, hstep, if_neg (by omega)]
            rfl
          obtain ⟨o, k1, k2, k3⟩ := ih g b hgb _ _ _ _ _ _ _ hgT xa hva1 hgn hi14
          exact ⟨o, k1, hW o k2, k3⟩
        | false =>
          rw [ec] at ho2
          simp only [cond_false, Bool.and_eq_true, decide_eq_true_eq] at ho2
          obtain ⟨t1, t2, ho3⟩ := ho2
          obtain ⟨z, hz⟩ := Option.isSome_iff_exists.mp ho3
          obtain ⟨S2, σ⟩ := z
          obtain ⟨V2, -, -, hgT⟩ := ab_fit_g hgE (Nat.le_refl 0) hz
          have h14 : ab_ri h0 29 xi.toInt = 14 := by rw [hrv]; omega
          have hgn : ab_gc h0 29 xa.toInt.toNat = g + 1 := by rw [hxn, hstep, if_pos h14]
          have hg4 : g + 1 ≤ 3 := by rw [← hgn, hxn]; exact hg3
          obtain ⟨o, k1, k2, k3⟩ := ih (g + 1) (b * 14) (mr_gb_s hgb hg4) _ _ _ _ _ _ _ hgT xa hva1 hgn hi14
          exact ⟨o, k1, hW o k2, k3⟩
    · have ho := List.all_eq_true.mp hc _ hin
      simp only [mr_t] at ho
      obtain ⟨z, hz⟩ := Option.isSome_iff_exists.mp ho
      obtain ⟨S2, σ⟩ := z
      have hgE : ab_g ([], h0, n0, mr_md) S' V1 [] o.1.toList o.2.1 o.2.2 0 0 := by
        obtain ⟨g1, g2, g3, g4, g5, g6, g7, g8, g9⟩ := hg1
        exact ⟨g1, g2, g3, g4, g5, g6, g7, g8, fun u v hu => (by simp at hu)⟩
      obtain ⟨V2, -, -, hgP⟩ := ab_fit_g hgE (Nat.le_refl 0) hz
      exact ⟨o, ht, hW, mr_P, List.mem_singleton.mpr rfl, _, 0, 0, hgP⟩
end MR
/-- makeRoom is as its contract says -/
theorem mr_ok {l : Launch} {G : ax_T} : ab_QOk l G mt_prog cq_2 := by
  intro mi hmi d hd V as h n hlen hg
  have hm : mi = mt_X7_makeRoom := Option.some.inj (hmi.symm.trans mi_X7_makeRoom)
  subst hm
  have hin : mt_X7_makeRoom ∈ mt_prog := List.mem_of_getElem? mi_X7_makeRoom
  have hV : V = [] := List.length_eq_zero_iff.mp hg.2.2.1.1
  subst hV
  have hd' : 10 ≤ d := hd
  obtain ⟨d, rfl⟩ : ∃ d', d = d' + 1 := ⟨d - 1, by omega⟩
  have hE := mr_e_ok
  unfold mr_e at hE
  split at hE
  case h_2 => cases hE
  rename_i L hL
  have hg' : ab_g ([], h, n, mr_md) cq_2.2.2.1 [] (lv_args 0 as) [] h n 0 0 := hg
  rcases ab_X_ok mt_ok hin nc_ok (Nat.zero_le d) _ _ _ _ _ hL _ _ _ _ _ _ _ hg' (Nat.zero_le _) (Nat.zero_le _) with ⟨pc', S', hin', V1, lv1, st1, h1, n1, cs1, ss1, hg1, r1, r2, hW⟩ | ⟨S', hin', o, V1, hg1, ht, hW⟩
  · have ho := List.all_eq_true.mp hE _ hin'
    simp only [mr_t0, Bool.and_eq_true, Nat.beq_eq] at ho
    obtain ⟨hp, hi, hf⟩ := ho
    subst hp
    split at hi
    case h_2 => cases hi
    rename_i a ha
    have ha' := ab_veq_ok hi
    subst ha'
    obtain ⟨v, hv1, hv2⟩ := hg1.1 2 _ ha
    cases hv2
    obtain ⟨z, hz⟩ := Option.isSome_iff_exists.mp hf
    obtain ⟨S2, σ⟩ := z
    obtain ⟨V2, -, -, hgT⟩ := ab_fit_g hg1 (Nat.le_refl 0) hz
    obtain ⟨o, k1, k2, P, hP, V', c', s', k3⟩ := mr_loop (l := l) (G := G) (d := d) hg.2.2.2.2.2.2.2.1.1 _ 0 15 (Or.inl ⟨rfl, rfl⟩) _ _ _ _ _ _ _ hgT (Int32.ofInt 0) hv1 rfl (Nat.lt_succ_self _)
    exact ⟨o, ab_Wd_call mt_ok hin hlen k1 (hW o k2), P, hP, V', c', s', k3⟩
  · have ho := List.all_eq_true.mp hE _ hin'
    cases ho
end
section
/-! ===== runs of known instructions over unknown ints ===== -/
/-- so many steps, no calls -/
def cx (G : ax_T) (mi : ax_MI) : Nat → ax_F → Option ax_F
  | 0, F => some F
  | k + 1, F => match ax_at mi.2.2.2.2.2.2.2.2 F.1 with
    | none => none
    | some en => match ax_step (ab_io G) mi.2.2.2.1 en.2.1 en.2.2.2.1 F.1 F.2.1 F.2.2.1 F.2.2.2.1 F.2.2.2.2.1 F.2.2.2.2.2.1 F.2.2.2.2.2.2 with
      | some F' => bif Nat.ble F'.2.2.2.2.2.1 mi.2.2.2.2.2.2.1 && Nat.ble F'.2.2.2.2.2.2 mi.2.2.2.2.2.2.2.1 then cx G mi k F' else none
      | none => none
section CX
variable {l : Launch} {G : ax_T} {mi : ax_MI} {d : Nat} {o : ax_O}
theorem cx_ok (hmi : mi ∈ mt_prog) : ∀ (k : Nat) {F F' : ax_F}, cx G mi k F = some F' → ab_Wd l G mi d o F' → ab_Wd l G mi d o F
  | 0, F, F', h, hW => by cases h; exact hW
  | k + 1, F, F', h, hW => by
    unfold cx at h
    split at h
    · cases h
    · rename_i en ha
      split at h
      · rename_i F1 h1
        obtain ⟨hb, h2⟩ := ab_bif h
        simp only [Bool.and_eq_true, Nat.ble_eq] at hb
        exact ab_Wd_step mt_ok hmi ha h1 hb.1 hb.2 (cx_ok hmi k h2 hW)
      · cases h
variable {pc tg len : Nat} {lv : List (Nat × Value)} {st : List Value} {h : ax_H} {n : Nat} {x y : Int32} {c : ClassFile.Cond} {off : Int} {pe : ax_PE} {hs : List Nat}
theorem cx_brt (ht : ax_to pc off = some tg) (hc : ax_holds c x y) (cs ss : Nat) : ax_s_br (ab_io G) pc lv h n cs ss c off (.int x) (.int y) st = some (tg, lv, st, h, n, cs, ss) := by
  obtain ⟨t, hcm⟩ := ab_cmp_some c x.toInt y.toInt
  have hiff := ax_cmp_ok (a := (x.toInt, x.toInt)) (b := (y.toInt, y.toInt)) ⟨Int.le_refl _, Int.le_refl _⟩ ⟨Int.le_refl _, Int.le_refl _⟩ hcm
  have := hiff.mp hc
  subst this
  simp only [ax_s_br, ht, ax_rg, hcm]
theorem cx_brf (ht : ax_to pc off = some tg) (hc : ¬ ax_holds c x y) (cs ss : Nat) : ax_s_br (ab_io G) pc lv h n cs ss c off (.int x) (.int y) st = some (pc + 3, lv, st, h, n, cs, ss) := by
  obtain ⟨t, hcm⟩ := ab_cmp_some c x.toInt y.toInt
  have hiff := ax_cmp_ok (a := (x.toInt, x.toInt)) (b := (y.toInt, y.toInt)) ⟨Int.le_refl _, Int.le_refl _⟩ ⟨Int.le_refl _, Int.le_refl _⟩ hcm
  have : t = false := by
    cases t with
    | false => rfl
    | true => exact absurd (hiff.mpr rfl) hc
  subst this
  simp only [ax_s_br, ht, ax_rg, hcm]
theorem cx_it (hmi : mi ∈ mt_prog) (ha : ax_at mi.2.2.2.2.2.2.2.2 pc = some (pc, .if_icmp c off, len, pe, hs)) (ht : ax_to pc off = some tg) (hc : ax_holds c x y) (hW : ab_Wd l G mi d o (tg, lv, st, h, n, 0, 0)) : ab_Wd l G mi d o (pc, lv, .int y :: .int x :: st, h, n, 0, 0) :=
  ab_Wd_step mt_ok hmi ha (cx_brt (G := G) ht hc 0 0) (Nat.zero_le _) (Nat.zero_le _) hW
theorem cx_if (hmi : mi ∈ mt_prog) (ha : ax_at mi.2.2.2.2.2.2.2.2 pc = some (pc, .if_icmp c off, len, pe, hs)) (ht : ax_to pc off = some tg) (hc : ¬ ax_holds c x y) (hW : ab_Wd l G mi d o (pc + 3, lv, st, h, n, 0, 0)) : ab_Wd l G mi d o (pc, lv, .int y :: .int x :: st, h, n, 0, 0) :=
  ab_Wd_step mt_ok hmi ha (cx_brf (G := G) ht hc 0 0) (Nat.zero_le _) (Nat.zero_le _) hW
theorem cx_zt (hmi : mi ∈ mt_prog) (ha : ax_at mi.2.2.2.2.2.2.2.2 pc = some (pc, .ifCond c off, len, pe, hs)) (ht : ax_to pc off = some tg) (hc : ax_holds c x 0) (hW : ab_Wd l G mi d o (tg, lv, st, h, n, 0, 0)) : ab_Wd l G mi d o (pc, lv, .int x :: st, h, n, 0, 0) :=
  ab_Wd_step mt_ok hmi ha (cx_brt (G := G) ht hc 0 0) (Nat.zero_le _) (Nat.zero_le _) hW
theorem cx_zf (hmi : mi ∈ mt_prog) (ha : ax_at mi.2.2.2.2.2.2.2.2 pc = some (pc, .ifCond c off, len, pe, hs)) (ht : ax_to pc off = some tg) (hc : ¬ ax_holds c x 0) (hW : ab_Wd l G mi d o (pc + 3, lv, st, h, n, 0, 0)) : ab_Wd l G mi d o (pc, lv, .int x :: st, h, n, 0, 0) :=
  ab_Wd_step mt_ok hmi ha (cx_brf (G := G) ht hc 0 0) (Nat.zero_le _) (Nat.zero_le _) hW
/-- a static call of a method that makes no cells -/
theorem cx_call (hmi : mi ∈ mt_prog) {en : ax_EN} (ha : ax_at mi.2.2.2.2.2.2.2.2 pc = some en) {q : ax_MI × List Value × List Value} (hq : ax_inv mt_prog en.2.1 en.2.2.2.1 st h = some q) (h0 : q.1.2.2.2.2.2.2.1 = 0 ∧ q.1.2.2.2.2.2.2.2.1 = 0) {o1 : ax_O} (hM : ab_M l G d q.1 q.2.1 h n o1) (hW : ab_Wd l G mi d o (pc + 3, lv, o1.1.toList ++ q.2.2, o1.2.1, o1.2.2, 0, 0)) : ab_Wd l G mi d o (pc, lv, st, h, n, 0, 0) := by
  refine ab_Wd_inv mt_ok hmi ha hq hM ?_ ?_ ?_
  · rw [h0.1]; exact Nat.zero_le _
  · rw [h0.2]; exact Nat.zero_le _
  · rw [h0.1, h0.2]; exact hW
theorem cx_le {x y : Int32} : x ≤ y ↔ x.toInt ≤ y.toInt := Int32.le_iff_toInt_le
theorem cx_lt {x y : Int32} : x < y ↔ x.toInt < y.toInt := Int32.lt_iff_toInt_lt
end CX
end
section
/-! in(v, low, high) -/
theorem in_ok {l : Launch} {G : ax_T} {d : Nat} (v a b : Int32) (h : ax_H) (n : Nat) : ab_M l G (d + 1) mt_X11_in [.int v, .int a, .int b] h n (some (.int (if a.toInt ≤ v.toInt ∧ v.toInt ≤ b.toInt then 1 else 0)), h, n) := by
  have hmi : mt_X11_in ∈ mt_prog := List.mem_of_getElem? mi_X11_in
  refine ab_Wd_call mt_ok hmi (Nat.le_of_ble_eq_true rfl) ?_ ?_
  · show (_ == (0 : Int32) || _ == (1 : Int32)) = true
    split <;> rfl
  show ab_Wd l G mt_X11_in d _ (0, [(0, .int v), (1, .int a), (2, .int b)], [], h, n, 0, 0)
  refine ab_Wd_step mt_ok hmi (en := (0, .iload_n 0, 1, (0, 0, 0, 0), [])) rfl (F := (1, [(0, .int v), (1, .int a), (2, .int b)], [.int v], h, n, 0, 0)) rfl (Nat.zero_le _) (Nat.zero_le _) ?_
  refine ab_Wd_step mt_ok hmi (en := (1, .iload_n 1, 1, (0, 0, 0, 0), [])) rfl (F := (2, [(0, .int v), (1, .int a), (2, .int b)], [.int a, .int v], h, n, 0, 0)) rfl (Nat.zero_le _) (Nat.zero_le _) ?_
  by_cases h1 : ax_holds .lt v a
  · have k1 := cx_lt.mp h1
    rw [if_neg (show ¬ (a.toInt ≤ v.toInt ∧ v.toInt ≤ b.toInt) by omega)]
    refine cx_it hmi rfl (tg := 14) rfl h1 ?_
    refine ab_Wd_step mt_ok hmi (en := (14, .iconst 0, 1, (0, 0, 0, 0), [])) rfl (F := (15, [(0, .int v), (1, .int a), (2, .int b)], [.int (Int32.ofInt 0)], h, n, 0, 0)) rfl (Nat.zero_le _) (Nat.zero_le _) ?_
    exact ab_Wd_ret mt_ok hmi rfl rfl rfl (Nat.zero_le _) (Nat.zero_le _)
  · have k1 : ¬ v.toInt < a.toInt := fun q => h1 (cx_lt.mpr q)
    refine cx_if hmi rfl (tg := 14) rfl h1 ?_
    refine ab_Wd_step mt_ok hmi (en := (5, .iload_n 0, 1, (0, 0, 0, 0), [])) rfl (F := (6, [(0, .int v), (1, .int a), (2, .int b)], [.int v], h, n, 0, 0)) rfl (Nat.zero_le _) (Nat.zero_le _) ?_
    refine ab_Wd_step mt_ok hmi (en := (6, .iload_n 2, 1, (0, 0, 0, 0), [])) rfl (F := (7, [(0, .int v), (1, .int a), (2, .int b)], [.int b, .int v], h, n, 0, 0)) rfl (Nat.zero_le _) (Nat.zero_le _) ?_
    by_cases h2 : ax_holds .gt v b
    · have k2 : b.toInt < v.toInt := cx_lt.mp h2
      rw [if_neg (show ¬ (a.toInt ≤ v.toInt ∧ v.toInt ≤ b.toInt) by omega)]
      refine cx_it hmi rfl (tg := 14) rfl h2 ?_
      refine ab_Wd_step mt_ok hmi (en := (14, .iconst 0, 1, (0, 0, 0, 0), [])) rfl (F := (15, [(0, .int v), (1, .int a), (2, .int b)], [.int (Int32.ofInt 0)], h, n, 0, 0)) rfl (Nat.zero_le _) (Nat.zero_le _) ?_
      exact ab_Wd_ret mt_ok hmi rfl rfl rfl (Nat.zero_le _) (Nat.zero_le _)
    · have k2 : ¬ b.toInt < v.toInt := fun q => h2 (cx_lt.mpr q)
      rw [if_pos (show a.toInt ≤ v.toInt ∧ v.toInt ≤ b.toInt by omega)]
      refine cx_if hmi rfl (tg := 14) rfl h2 ?_
      refine ab_Wd_step mt_ok hmi (en := (10, .iconst 1, 1, (0, 0, 0, 0), [])) rfl (F := (11, [(0, .int v), (1, .int a), (2, .int b)], [.int (Int32.ofInt 1)], h, n, 0, 0)) rfl (Nat.zero_le _) (Nat.zero_le _) ?_
      refine ab_Wd_step mt_ok hmi (en := (11, .goto 4, 3, (0, 0, 0, 0), [])) rfl (F := (15, [(0, .int v), (1, .int a), (2, .int b)], [.int (Int32.ofInt 1)], h, n, 0, 0)) rfl (Nat.zero_le _) (Nat.zero_le _) ?_
      exact ab_Wd_ret mt_ok hmi rfl rfl rfl (Nat.zero_le _) (Nat.zero_le _)
end

/-! ===== the law, from its entry ===== -/
theorem lw_d1180 : decode code 1180 = .ok (.iconst 1, 1) := by decide +kernel
theorem lw_d1181 : decode code 1181 = .ok (.ireturn, 1) := by decide +kernel
theorem lw_and63 (x : Int32) : ∃ j : Nat, j < 64 ∧ x &&& 63 = nI j := pk_andE x 6 (by decide)
section LWW
variable {G : ax_T} {p : Program} {l : Launch} {e : Env} {s : State} {m : MethodId} {below : List Frame} {meth : Method} {c : Code} {b : Nat}
/-- letters, times, parts -/
theorem lw_three (M : ax_M G p s m #[Value.ref b] meth c "LetterSumsLaw" code 4) (hr : meth.sig.returnType = ret) (hB : G.2.1 = s.heap.size) (hH : G.2.2.1 = s.heap) (hso : G.2.2.2.2.1 2 = b) (hbl : b < s.heap.size) {xs : Nat → Int32} (hX : va_X b 5 xs s s.heap) (hρ : G.2.2.2.1 = fun u => if u = 9 then xs 0 &&& 63 else xs u)
    {k : Nat} (h3 : k = 0 ∨ k = 21 ∨ k = 22) (hk : xs 0 &&& 63 = nI k) : ax_W G p l e room_1 s m #[Value.ref b] below meth c (lw_Z below #[Value.ref b] s) 4 18 lw_lv [] (ax_hget lw_hm) 573 573 192706 := by
  have hX' : va_X b 5 xs s G.2.2.1 := by rw [hH]; exact hX
  have hbB : b < G.2.1 := by rw [hB]; exact hbl
  rcases h3 with rfl | rfl | rfl
  · exact l3_letters M hr hB hX' hbB hso lw_d1180 lw_d1181 hk
  · exact l3_times M hr hB hX' hbB hso lw_d1180 lw_d1181 hk
  · exact l3_parts M hr hB hX' hbB hso lw_d1180 lw_d1181 hk
theorem lw_five (M : ax_M G p s m #[Value.ref b] meth c "LetterSumsLaw" code 4) (hr : meth.sig.returnType = ret) (hB : G.2.1 = s.heap.size) (hH : G.2.2.1 = s.heap) (hso : G.2.2.2.2.1 2 = b) (hbl : b < s.heap.size) {xs : Nat → Int32} (hX : va_X b 5 xs s s.heap) (hρ : G.2.2.2.1 = fun u => if u = 9 then xs 0 &&& 63 else xs u) : ax_W G p l e room_1 s m #[Value.ref b] below meth c (lw_Z below #[Value.ref b] s) 4 18 lw_lv [] (ax_hget lw_hm) 573 573 192706 := by
  obtain ⟨k, hk64, hk⟩ := lw_and63 (xs 0)
  match k, hk64, hk with
  | 0, _, hk => exact lw_three M hr hB hH hso hbl hX hρ (k := 0) (by decide) hk
  | 1, hk64, hk => exact lw_op M hr hB hH hso hbl hX hρ lw_d1180 lw_d1181 (k := 1) hk64 hk (Ps := []) (by decide +kernel) (by decide) cr_1
  | 2, hk64, hk => exact lw_op M hr hB hH hso hbl hX hρ lw_d1180 lw_d1181 (k := 2) hk64 hk (Ps := []) (by decide +kernel) (by decide) cr_2
  | 3, hk64, hk => exact lw_op M hr hB hH hso hbl hX hρ lw_d1180 lw_d1181 (k := 3) hk64 hk (Ps := []) (by decide +kernel) (by decide) cr_3
  | 4, hk64, hk => exact lw_op M hr hB hH hso hbl hX hρ lw_d1180 lw_d1181 (k := 4) hk64 hk (Ps := [cp_K2]) (by decide +kernel) (by decide) cr_4
  | 5, hk64, hk => exact lw_op M hr hB hH hso hbl hX hρ lw_d1180 lw_d1181 (k := 5) hk64 hk (Ps := [cp_R3]) (by decide +kernel) (by decide) cr_5
  | 6, hk64, hk => exact lw_op M hr hB hH hso hbl hX hρ lw_d1180 lw_d1181 (k := 6) hk64 hk (Ps := [cp_ROW, cp_SG]) (by decide +kernel) (by decide) cr_6
  | 7, hk64, hk => exact lw_op M hr hB hH hso hbl hX hρ lw_d1180 lw_d1181 (k := 7) hk64 hk (Ps := [cp_ROW]) (by decide +kernel) (by decide) cr_7
  | 8, hk64, hk => exact lw_op M hr hB hH hso hbl hX hρ lw_d1180 lw_d1181 (k := 8) hk64 hk (Ps := [cp_R3, cp_K2]) (by decide +kernel) (by decide) cr_8
  | 9, hk64, hk => exact lw_op M hr hB hH hso hbl hX hρ lw_d1180 lw_d1181 (k := 9) hk64 hk (Ps := [cp_R3, cp_K2]) (by decide +kernel) (by decide) cr_9
  | 10, hk64, hk => exact lw_op M hr hB hH hso hbl hX hρ lw_d1180 lw_d1181 (k := 10) hk64 hk (Ps := [cp_K2]) (by decide +kernel) (by decide) cr_10
  | 11, hk64, hk => exact lw_op M hr hB hH hso hbl hX hρ lw_d1180 lw_d1181 (k := 11) hk64 hk (Ps := [cp_R3, cp_K2]) (by decide +kernel) (by decide) cr_11
  | 12, hk64, hk => exact lw_op M hr hB hH hso hbl hX hρ lw_d1180 lw_d1181 (k := 12) hk64 hk (Ps := [cp_B7, cp_SD]) (by decide +kernel) (by decide) cr_12
  | 13, hk64, hk => exact lw_op M hr hB hH hso hbl hX hρ lw_d1180 lw_d1181 (k := 13) hk64 hk (Ps := [cp_ROW, cp_SG]) (by decide +kernel) (by decide) cr_13
  | 14, hk64, hk => exact lw_op M hr hB hH hso hbl hX hρ lw_d1180 lw_d1181 (k := 14) hk64 hk (Ps := [cp_B6]) (by decide +kernel) (by decide) cr_14
  | 15, hk64, hk => exact lw_op M hr hB hH hso hbl hX hρ lw_d1180 lw_d1181 (k := 15) hk64 hk (Ps := [cp_U6]) (by decide +kernel) (by decide) cr_15
  | 16, hk64, hk => exact lw_op M hr hB hH hso hbl hX hρ lw_d1180 lw_d1181 (k := 16) hk64 hk (Ps := []) (by decide +kernel) (by decide) cr_16
  | 17, hk64, hk => exact lw_op M hr hB hH hso hbl hX hρ lw_d1180 lw_d1181 (k := 17) hk64 hk (Ps := [cp_K2]) (by decide +kernel) (by decide) cr_17
  | 18, hk64, hk => exact lw_op M hr hB hH hso hbl hX hρ lw_d1180 lw_d1181 (k := 18) hk64 hk (Ps := []) (by decide +kernel) (by decide) cr_18
  | 19, hk64, hk => exact lw_op M hr hB hH hso hbl hX hρ lw_d1180 lw_d1181 (k := 19) hk64 hk (Ps := [cp_R3]) (by decide +kernel) (by decide) cr_19
  | 20, hk64, hk => exact lw_op M hr hB hH hso hbl hX hρ lw_d1180 lw_d1181 (k := 20) hk64 hk (Ps := []) (by decide +kernel) (by decide) cr_20
  | 21, _, hk => exact lw_three M hr hB hH hso hbl hX hρ (k := 21) (by decide) hk
  | 22, _, hk => exact lw_three M hr hB hH hso hbl hX hρ (k := 22) (by decide) hk
  | 23, hk64, hk => exact lw_op M hr hB hH hso hbl hX hρ lw_d1180 lw_d1181 (k := 23) hk64 hk (Ps := []) (by decide +kernel) (by decide) cr_23
  | 24, hk64, hk => exact lw_op M hr hB hH hso hbl hX hρ lw_d1180 lw_d1181 (k := 24) hk64 hk (Ps := [cp_K2]) (by decide +kernel) (by decide) cr_24
  | 25, hk64, hk => exact lw_op M hr hB hH hso hbl hX hρ lw_d1180 lw_d1181 (k := 25) hk64 hk (Ps := [cp_K2]) (by decide +kernel) (by decide) cr_25
  | 26, hk64, hk => exact lw_op M hr hB hH hso hbl hX hρ lw_d1180 lw_d1181 (k := 26) hk64 hk (Ps := [cp_K2]) (by decide +kernel) (by decide) cr_26
  | 27, hk64, hk => exact lw_op M hr hB hH hso hbl hX hρ lw_d1180 lw_d1181 (k := 27) hk64 hk (Ps := [cp_B6, cp_ROW]) (by decide +kernel) (by decide) cr_27
  | 28, hk64, hk => exact lw_op M hr hB hH hso hbl hX hρ lw_d1180 lw_d1181 (k := 28) hk64 hk (Ps := [cp_B6]) (by decide +kernel) (by decide) cr_28
  | 29, hk64, hk => exact lw_op M hr hB hH hso hbl hX hρ lw_d1180 lw_d1181 (k := 29) hk64 hk (Ps := [cp_ROW]) (by decide +kernel) (by decide) cr_29
  | 30, hk64, hk => exact lw_op M hr hB hH hso hbl hX hρ lw_d1180 lw_d1181 (k := 30) hk64 hk (Ps := [cp_ROW, cp_ROW]) (by decide +kernel) (by decide) cr_30
  | 31, hk64, hk => exact lw_op M hr hB hH hso hbl hX hρ lw_d1180 lw_d1181 (k := 31) hk64 hk (Ps := []) (by decide +kernel) (by decide) cr_31
  | 32, hk64, hk => exact lw_op M hr hB hH hso hbl hX hρ lw_d1180 lw_d1181 (k := 32) hk64 hk (Ps := []) (by decide +kernel) (by decide) cr_32
  | 33, hk64, hk => exact lw_op M hr hB hH hso hbl hX hρ lw_d1180 lw_d1181 (k := 33) hk64 hk (Ps := []) (by decide +kernel) (by decide) cr_33
  | 34, hk64, hk => exact lw_op M hr hB hH hso hbl hX hρ lw_d1180 lw_d1181 (k := 34) hk64 hk (Ps := [cp_W4]) (by decide +kernel) (by decide) cr_34
  | 35, hk64, hk => exact lw_op M hr hB hH hso hbl hX hρ lw_d1180 lw_d1181 (k := 35) hk64 hk (Ps := [cp_B7]) (by decide +kernel) (by decide) cr_35
  | 36, hk64, hk => exact lw_op M hr hB hH hso hbl hX hρ lw_d1180 lw_d1181 (k := 36) hk64 hk (Ps := []) (by decide +kernel) (by decide) cr_36
  | k + 37, hk64, hk =>
    refine lw_run M hr hB hH hso hbl (Nat.le_refl 5) hX hρ lw_d1180 lw_d1181 (opv := .float 9) (o := (37, 63)) (ds := []) ?_ ?_ (fun j => cs_bd _) (by decide) cr_dflt
    · show Value.int (G.2.2.2.1 9) = _
      rw [hρ]; rfl
    · rw [hk, nI_toInt (by omega)]
      constructor <;> simp only <;> omega
end LWW
set_option maxHeartbeats 4000000 in
/-- THE LAW, from its entry -/
theorem whole_start {p : Program} {e : Env} {s : State} {m : MethodId} {below : List Frame} {meth : Method} {c : Code} (l : Launch) (hflags : l.flags = flags0) {b L : Nat} {xs : Nat → Int32} (hL : L ≤ 5) (C0 : lw_At p s m meth c b L xs) : W p l e room_1 s m #[Value.ref b] below meth c s.heap [] 0 0 (lw_Z below #[Value.ref b] s) (entryFrame m ([Value.ref b] : List Value).toArray 4) := by
  obtain ⟨hx, hb, hr, hml, hown, hts, hX, hbl, hlocks, hgv⟩ := C0
  obtain ⟨G, hB, hH, hρ, hso, hXX⟩ := lw_ctx hts hgv (fun u => if u = 9 then xs 0 &&& 63 else xs u) b
  have M : ax_M G p s m #[Value.ref b] meth c "LetterSumsLaw" code 4 := ⟨hx, hb, hml, hown, fun w hw => hts w (List.mem_filter.mp hw).1, hlocks, hXX⟩
  have hR0 : ax_R G (ax_hget []) 0 s.heap := ⟨by rw [hB]; rfl, fun k c hc => by simp [ax_hget, ax_raw] at hc, fun q _ => by rw [hH]⟩
  have hl := lv_entry ([Value.ref b]) (n := 4) (Nat.le_of_ble_eq_true rfl)
  rw [lg_entry_eq]
  have hl' : lv_has ((lg_sl [Value.ref b] ++ List.replicate (4 - (lg_sl [Value.ref b]).length) Slot.unset).toArray) 4 (([(0, Value.retAddr 2)] : List (Nat × Value)).map fun q => (q.1, ax_v G q.2)) := by
    have e1 : (([(0, Value.retAddr 2)] : List (Nat × Value)).map fun q => (q.1, ax_v G q.2)) = lv_args 0 [Value.ref b] := by
      show [(0, Value.ref (G.2.2.2.2.1 2))] = _
      rw [hso]; rfl
    rw [e1]; exact hl
  have key : ax_W G p l e room_1 s m #[Value.ref b] below meth c (lw_Z below #[Value.ref b] s) 4 18 lw_lv [] (ax_hget lw_hm) 573 573 192706 := by
    have short : ∀ (h : cs_run (.float 9) (0, 63) L [] = true), ax_W G p l e room_1 s m #[Value.ref b] below meth c (lw_Z below #[Value.ref b] s) 4 18 lw_lv [] (ax_hget lw_hm) 573 573 192706 := by
      intro h
      obtain ⟨k, hk64, hk⟩ := lw_and63 (xs 0)
      refine lw_run M hr hB hH hso hbl hL hX hρ lw_d1180 lw_d1181 (opv := .float 9) (o := (0, 63)) (ds := []) ?_ ?_ (fun j => cs_bd _) (by decide) h
      · show Value.int (G.2.2.2.1 9) = _
        rw [hρ]; rfl
      · rw [hk, nI_toInt (by omega)]
        constructor <;> simp only <;> omega
    have h6 : L = 0 ∨ L = 1 ∨ L = 2 ∨ L = 3 ∨ L = 4 ∨ L = 5 := by omega
    rcases h6 with h6 | h6 | h6 | h6 | h6 | h6
    · exact short (h6 ▸ cr_short_0)
    · exact short (h6 ▸ cr_short_1)
    · exact short (h6 ▸ cr_short_2)
    · exact short (h6 ▸ cr_short_3)
    · exact short (h6 ▸ cr_short_4)
    · exact lw_five M hr hB hH hso hbl (h6 ▸ hX) hρ
  have hgo : ax_W G p l e room_1 s m #[Value.ref b] below meth c (lw_Z below #[Value.ref b] s) 4 0 [(0, .retAddr 2)] [] (ax_hget []) 0 0 0 :=
    ax_lgo_ok mt_ok lw_tab_ok M (fun u => cs_bd _) (stp := ax_step lw_iv 4) (fun i len pe pc lv st h n cs ss F hok hs hrm kk => ax_step_ok M rfl (fun u => cs_bd _) (ax_Ok_nm (by decide) hok) hs hrm kk) 100 0 _ [] [] 0 0 0 _ lw_ph1 key
  exact hgo _ s.heap [] hl' hR0 (fun q hq => by cases hq)

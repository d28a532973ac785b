/-! ===== the law's own rows for letters, times, parts ===== -/
theorem l3_d20 : decode code 20 = .ok (.arraylength, 1) := by decide +kernel
theorem l3_d28 : decode code 28 = .ok (.iaload, 1) := by decide +kernel
theorem l3_get {h : ax_H} {k ci : Nat} {fs : List Value} (hk : ax_raw h k = some (.inr (ci, fs))) : ax_hget h k = some (.inr (ci, fs)) := ax_get_of (d := .inr (ci, fs)) hk
section LW3
variable {G : ax_T} {p : Program} {l : Launch} {e : Env} {R : Room} {s : State} {m : MethodId} {args : Array Value} {below : List Frame} {meth : Method} {c : Code} {Q : State → Prop} {own : String} {cc : ByteArray} {nL pc n cs ss b L : Nat} {lv : List (Nat × Value)} {st : List Value} {g : Nat → Option ax_C} {xs : Nat → Int32}
theorem l3_len (M : ax_M G p s m args meth c own cc nL) (hX : va_X b L xs s G.2.2.1) (hbB : b < G.2.1) (hso : G.2.2.2.2.1 2 = b) (hd : decode cc pc = .ok (.arraylength, 1))
    (kk : ax_W G p l e R s m args below meth c Q nL (pc + 1) lv (.int (Int32.ofNat L) :: st) g n cs ss) : ax_W G p l e R s m args below meth c Q nL pc lv (.retAddr 2 :: st) g n cs ss := by
  intro ls H locs hl hR hL
  have hv : ax_v G (.retAddr 2) = .ref b := by show Value.ref _ = _; rw [hso]
  simp only [List.map_cons, hv]
  exact ax_scr_len M.1 M.2.1 (ax_scr hX hbB hR) hd (kk ls H locs hl hR hL)
theorem l3_at (M : ax_M G p s m args meth c own cc nL) (hX : va_X b L xs s G.2.2.1) (hbB : b < G.2.1) (hso : G.2.2.2.2.1 2 = b) {i : Int32} {j : Nat} (hj : i.toNatClampNeg = j) (hin : vp_in i L) (hd : decode cc pc = .ok (.iaload, 1))
    (kk : ax_W G p l e R s m args below meth c Q nL (pc + 1) lv (.int (xs j) :: st) g n cs ss) : ax_W G p l e R s m args below meth c Q nL pc lv (.int i :: .retAddr 2 :: st) g n cs ss := by
  subst hj
  intro ls H locs hl hR hL
  have hv : ax_v G (.retAddr 2) = .ref b := by show Value.ref _ = _; rw [hso]
  simp only [List.map_cons, hv]
  exact ax_scr_at M.1 M.2.1 (ax_scr hX hbB hR) hin hd (kk ls H locs hl hR hL)
end LW3
theorem l3_d780 : decode code 780 = .ok (.iaload, 1) := by decide +kernel
theorem l3_d785 : decode code 785 = .ok (.iaload, 1) := by decide +kernel
theorem l3_d790 : decode code 790 = .ok (.iaload, 1) := by decide +kernel
theorem l3_d791 : decode code 791 = .ok (.invokevirtual 106, 3) := by decide +kernel
theorem l3_d799 : decode code 799 = .ok (.iaload, 1) := by decide +kernel
theorem l3_d804 : decode code 804 = .ok (.iaload, 1) := by decide +kernel
theorem l3_d809 : decode code 809 = .ok (.iaload, 1) := by decide +kernel
theorem l3_d810 : decode code 810 = .ok (.invokevirtual 109, 3) := by decide +kernel
theorem l3_d813 : decode code 813 = .ok (.if_icmp .eq 361, 3) := by decide +kernel
theorem l3_d823 : decode code 823 = .ok (.iaload, 1) := by decide +kernel
theorem l3_d828 : decode code 828 = .ok (.iaload, 1) := by decide +kernel
theorem l3_d833 : decode code 833 = .ok (.iaload, 1) := by decide +kernel
theorem l3_d834 : decode code 834 = .ok (.invokevirtual 110, 3) := by decide +kernel
theorem l3_d842 : decode code 842 = .ok (.iaload, 1) := by decide +kernel
theorem l3_d847 : decode code 847 = .ok (.iaload, 1) := by decide +kernel
theorem l3_d852 : decode code 852 = .ok (.iaload, 1) := by decide +kernel
theorem l3_d853 : decode code 853 = .ok (.invokevirtual 113, 3) := by decide +kernel
theorem l3_d856 : decode code 856 = .ok (.if_icmp .eq 318, 3) := by decide +kernel
theorem l3_d201 : decode code 201 = .ok (.iaload, 1) := by decide +kernel
theorem l3_d205 : decode code 205 = .ok (.lshl, 1) := by decide +kernel
theorem l3_d210 : decode code 210 = .ok (.iaload, 1) := by decide +kernel
theorem l3_d215 : decode code 215 = .ok (.land, 1) := by decide +kernel
theorem l3_d216 : decode code 216 = .ok (.lor, 1) := by decide +kernel
theorem l3_d217 : decode code 217 = .ok (.invokevirtual 15, 3) := by decide +kernel
theorem l3_d225 : decode code 225 = .ok (.iaload, 1) := by decide +kernel
theorem l3_d229 : decode code 229 = .ok (.lshl, 1) := by decide +kernel
theorem l3_d234 : decode code 234 = .ok (.iaload, 1) := by decide +kernel
theorem l3_d239 : decode code 239 = .ok (.land, 1) := by decide +kernel
theorem l3_d240 : decode code 240 = .ok (.lor, 1) := by decide +kernel
theorem l3_d241 : decode code 241 = .ok (.invokevirtual 19, 3) := by decide +kernel
theorem l3_d244 : decode code 244 = .ok (.if_icmp .eq 930, 3) := by decide +kernel
section LW4
variable {G : ax_T} {p : Program} {l : Launch} {e : Env} {s : State} {m : MethodId} {below : List Frame} {meth : Method} {c : Code} {b : Nat} {xs : Nat → Int32}
theorem l3_tab {nm : String} : ∀ ch ∈ lw_tab, ∀ en ∈ ch, ax_Ok mt_prog "LetterSumsLaw" nm code en.1 en.2.1 en.2.2.1 en.2.2.2.1 := fun ch hch en hen => ax_Ok_nm (by decide) (lw_tab_ok ch hch en hen)
theorem l3_rm : 1 ≤ room_1.frames ∧ 40 ≤ room_1.locals := ⟨Nat.le_of_ble_eq_true rfl, Nat.le_of_ble_eq_true rfl⟩
theorem l3_cs : 573 ≤ room_1.cells := Nat.le_of_ble_eq_true rfl
theorem l3_ss : 192706 ≤ room_1.slots := Nat.le_of_ble_eq_true rfl
theorem l3_end (M : ax_M G p s m #[Value.ref b] meth c "LetterSumsLaw" code 4) (hr : meth.sig.returnType = ret) (hB : G.2.1 = s.heap.size) (hX : va_X b 5 xs s G.2.2.1) (hbB : b < G.2.1) (hso : G.2.2.2.2.1 2 = b)
    (d1 : decode code 1180 = .ok (.iconst 1, 1)) (d2 : decode code 1181 = .ok (.ireturn, 1)) (h : ax_H) : ax_W G p l e room_1 s m #[Value.ref b] below meth c (lw_Z below #[Value.ref b] s) 4 1174 lw_lv [] (ax_hget h) 573 573 192706 := by
  iterate 4 refine ax_one M rfl l3_tab l3_rm rfl rfl l3_cs l3_ss ?_
  refine l3_len M hX hbB hso l3_d20 ?_
  iterate 3 refine ax_one M rfl l3_tab l3_rm rfl rfl l3_cs l3_ss ?_
  exact lw_end M hr hB (Nat.le_of_ble_eq_true rfl) (Nat.le_of_ble_eq_true rfl) d1 d2
theorem l3_sw (M : ax_M G p s m #[Value.ref b] meth c "LetterSumsLaw" code 4) (hX : va_X b 5 xs s G.2.2.1) (hbB : b < G.2.1) (hso : G.2.2.2.2.1 2 = b) {v : Int32} (hv : xs 0 &&& 63 = v) {Q : State → Prop}
    (kk : ax_W G p l e room_1 s m #[Value.ref b] below meth c Q 4 32 lw_lv [.int v] (ax_hget lw_hm) 573 573 192706) : ax_W G p l e room_1 s m #[Value.ref b] below meth c Q 4 18 lw_lv [] (ax_hget lw_hm) 573 573 192706 := by
  have e63 : (Int8.ofInt 63).toInt32 = (63 : Int32) := by decide
  iterate 2 refine ax_one M rfl l3_tab l3_rm rfl rfl l3_cs l3_ss ?_
  refine l3_len M hX hbB hso l3_d20 ?_
  iterate 5 refine ax_one M rfl l3_tab l3_rm rfl rfl l3_cs l3_ss ?_
  refine l3_at M hX hbB hso (j := 0) (by decide) (ax_inB_ok rfl) l3_d28 ?_
  iterate 2 refine ax_one M rfl l3_tab l3_rm rfl rfl l3_cs l3_ss ?_
  rw [← hv, ← e63] at kk
  exact kk
theorem l3_times (M : ax_M G p s m #[Value.ref b] meth c "LetterSumsLaw" code 4) (hr : meth.sig.returnType = ret) (hB : G.2.1 = s.heap.size) (hX : va_X b 5 xs s G.2.2.1) (hbB : b < G.2.1) (hso : G.2.2.2.2.1 2 = b) (d1 : decode code 1180 = .ok (.iconst 1, 1)) (d2 : decode code 1181 = .ok (.ireturn, 1)) (hk : xs 0 &&& 63 = nI 21) : ax_W G p l e room_1 s m #[Value.ref b] below meth c (lw_Z below #[Value.ref b] s) 4 18 lw_lv [] (ax_hget lw_hm) 573 573 192706 := by
  refine l3_sw M hX hbB hso hk ?_
  refine ax_one M rfl l3_tab l3_rm (pc' := 775) rfl rfl l3_cs l3_ss ?_
  iterate 5 refine ax_one M rfl l3_tab l3_rm rfl rfl l3_cs l3_ss ?_
  refine l3_at M hX hbB hso (j := 1) (by decide) (ax_inB_ok rfl) l3_d780 ?_
  iterate 4 refine ax_one M rfl l3_tab l3_rm rfl rfl l3_cs l3_ss ?_
  refine l3_at M hX hbB hso (j := 2) (by decide) (ax_inB_ok rfl) l3_d785 ?_
  iterate 4 refine ax_one M rfl l3_tab l3_rm rfl rfl l3_cs l3_ss ?_
  refine l3_at M hX hbB hso (j := 3) (by decide) (ax_inB_ok rfl) l3_d790 ?_
  refine ax_callV M (k := 0) (ci := 10) (as := [.int (xs 1), .int (xs 2), .int (xs 3)]) (st := []) (l3_get (h := lw_hm) rfl) rfl (tw_times (d := 10) (xs 1) (xs 2) (xs 3)) vk_X10_times.1 (ax_has_ok (j := 898) (by decide +kernel)) (ax_has_ok (j := 899) (by decide +kernel)) (Or.inl (ax_has_ok (j := 897) (by decide +kernel))) rfl (Nat.le_of_ble_eq_true rfl) (Nat.le_of_ble_eq_true rfl) (Nat.le_of_ble_eq_true rfl) (Nat.le_of_ble_eq_true rfl) (Nat.le_of_ble_eq_true rfl) l3_d791 ?_
  iterate 5 refine ax_one M rfl l3_tab l3_rm rfl rfl l3_cs l3_ss ?_
  refine l3_at M hX hbB hso (j := 1) (by decide) (ax_inB_ok rfl) l3_d799 ?_
  iterate 4 refine ax_one M rfl l3_tab l3_rm rfl rfl l3_cs l3_ss ?_
  refine l3_at M hX hbB hso (j := 2) (by decide) (ax_inB_ok rfl) l3_d804 ?_
  iterate 4 refine ax_one M rfl l3_tab l3_rm rfl rfl l3_cs l3_ss ?_
  refine l3_at M hX hbB hso (j := 3) (by decide) (ax_inB_ok rfl) l3_d809 ?_
  refine ax_callV M (k := 542) (ci := 11) (as := [.int (xs 1), .int (xs 2), .int (xs 3)]) (st := [.int (tw_T (xs 1) (xs 2) (xs 3))]) (l3_get (h := lw_hm) rfl) rfl (tw_timesM (d := 10) (xs 1) (xs 2) (xs 3)) vk_X11_times.1 (ax_has_ok (j := 1465) (by decide +kernel)) (ax_has_ok (j := 1466) (by decide +kernel)) (Or.inl (ax_has_ok (j := 1464) (by decide +kernel))) rfl (Nat.le_of_ble_eq_true rfl) (Nat.le_of_ble_eq_true rfl) (Nat.le_of_ble_eq_true rfl) (Nat.le_of_ble_eq_true rfl) (Nat.le_of_ble_eq_true rfl) l3_d810 ?_
  exact ax_icmp2 M (tgt := 1174) l3_d813 (by decide) (fun _ => l3_end M hr hB hX hbB hso d1 d2 _) (fun q => absurd rfl q)
theorem l3_parts (M : ax_M G p s m #[Value.ref b] meth c "LetterSumsLaw" code 4) (hr : meth.sig.returnType = ret) (hB : G.2.1 = s.heap.size) (hX : va_X b 5 xs s G.2.2.1) (hbB : b < G.2.1) (hso : G.2.2.2.2.1 2 = b) (d1 : decode code 1180 = .ok (.iconst 1, 1)) (d2 : decode code 1181 = .ok (.ireturn, 1)) (hk : xs 0 &&& 63 = nI 22) : ax_W G p l e room_1 s m #[Value.ref b] below meth c (lw_Z below #[Value.ref b] s) 4 18 lw_lv [] (ax_hget lw_hm) 573 573 192706 := by
  refine l3_sw M hX hbB hso hk ?_
  refine ax_one M rfl l3_tab l3_rm (pc' := 818) rfl rfl l3_cs l3_ss ?_
  iterate 5 refine ax_one M rfl l3_tab l3_rm rfl rfl l3_cs l3_ss ?_
  refine l3_at M hX hbB hso (j := 1) (by decide) (ax_inB_ok rfl) l3_d823 ?_
  iterate 4 refine ax_one M rfl l3_tab l3_rm rfl rfl l3_cs l3_ss ?_
  refine l3_at M hX hbB hso (j := 2) (by decide) (ax_inB_ok rfl) l3_d828 ?_
  iterate 4 refine ax_one M rfl l3_tab l3_rm rfl rfl l3_cs l3_ss ?_
  refine l3_at M hX hbB hso (j := 3) (by decide) (ax_inB_ok rfl) l3_d833 ?_
  refine ax_callV M (k := 0) (ci := 10) (as := [.int (xs 1), .int (xs 2), .int (xs 3)]) (st := []) (l3_get (h := lw_hm) rfl) rfl (pt_parts (d := 10) (xs 1) (xs 2) (xs 3)) vk_X10_parts.1 (ax_has_ok (j := 908) (by decide +kernel)) (ax_has_ok (j := 909) (by decide +kernel)) (Or.inl (ax_has_ok (j := 907) (by decide +kernel))) rfl (Nat.le_of_ble_eq_true rfl) (Nat.le_of_ble_eq_true rfl) (Nat.le_of_ble_eq_true rfl) (Nat.le_of_ble_eq_true rfl) (Nat.le_of_ble_eq_true rfl) l3_d834 ?_
  iterate 5 refine ax_one M rfl l3_tab l3_rm rfl rfl l3_cs l3_ss ?_
  refine l3_at M hX hbB hso (j := 1) (by decide) (ax_inB_ok rfl) l3_d842 ?_
  iterate 4 refine ax_one M rfl l3_tab l3_rm rfl rfl l3_cs l3_ss ?_
  refine l3_at M hX hbB hso (j := 2) (by decide) (ax_inB_ok rfl) l3_d847 ?_
  iterate 4 refine ax_one M rfl l3_tab l3_rm rfl rfl l3_cs l3_ss ?_
  refine l3_at M hX hbB hso (j := 3) (by decide) (ax_inB_ok rfl) l3_d852 ?_
  refine ax_callV M (k := 542) (ci := 11) (as := [.int (xs 1), .int (xs 2), .int (xs 3)]) (st := [.int (pt_T (xs 1) (xs 2) (xs 3))]) (l3_get (h := lw_hm) rfl) rfl (pt_partsM (d := 10) (xs 1) (xs 2) (xs 3)) vk_X11_parts.1 (ax_has_ok (j := 1469) (by decide +kernel)) (ax_has_ok (j := 1470) (by decide +kernel)) (Or.inl (ax_has_ok (j := 1468) (by decide +kernel))) rfl (Nat.le_of_ble_eq_true rfl) (Nat.le_of_ble_eq_true rfl) (Nat.le_of_ble_eq_true rfl) (Nat.le_of_ble_eq_true rfl) (Nat.le_of_ble_eq_true rfl) l3_d853 ?_
  exact ax_icmp2 M (tgt := 1174) l3_d856 (by decide) (fun _ => l3_end M hr hB hX hbB hso d1 d2 _) (fun q => absurd rfl q)
def l3_w (xs : Nat → Int32) : Int64 := ((xs 1).toInt64 <<< ((Int8.ofInt 32).toInt32.toInt64 &&& 63) ||| ((xs 2).toInt64 &&& Int64.ofInt 4294967295))
theorem l3_letters (M : ax_M G p s m #[Value.ref b] meth c "LetterSumsLaw" code 4) (hr : meth.sig.returnType = ret) (hB : G.2.1 = s.heap.size) (hX : va_X b 5 xs s G.2.2.1) (hbB : b < G.2.1) (hso : G.2.2.2.2.1 2 = b) (d1 : decode code 1180 = .ok (.iconst 1, 1)) (d2 : decode code 1181 = .ok (.ireturn, 1)) (hk : xs 0 &&& 63 = nI 0) : ax_W G p l e room_1 s m #[Value.ref b] below meth c (lw_Z below #[Value.ref b] s) 4 18 lw_lv [] (ax_hget lw_hm) 573 573 192706 := by
  refine l3_sw M hX hbB hso hk ?_
  refine ax_one M rfl l3_tab l3_rm (pc' := 196) rfl rfl l3_cs l3_ss ?_
  iterate 5 refine ax_one M rfl l3_tab l3_rm rfl rfl l3_cs l3_ss ?_
  refine l3_at M hX hbB hso (j := 1) (by decide) (ax_inB_ok rfl) l3_d201 ?_
  iterate 2 refine ax_one M rfl l3_tab l3_rm rfl rfl l3_cs l3_ss ?_
  refine ax_lshl2 M l3_d205 ?_
  iterate 4 refine ax_one M rfl l3_tab l3_rm rfl rfl l3_cs l3_ss ?_
  refine l3_at M hX hbB hso (j := 2) (by decide) (ax_inB_ok rfl) l3_d210 ?_
  iterate 2 refine ax_one M rfl l3_tab l3_rm rfl rfl l3_cs l3_ss ?_
  refine ax_land2 M l3_d215 ?_
  refine ax_lor2 M l3_d216 ?_
  refine ax_callV M (k := 0) (ci := 10) (as := [.long (l3_w xs)]) (st := []) (l3_get (h := lw_hm) rfl) rfl (lt_letters (d := 10) (l3_w xs)) vk_X10_letters.1 (ax_has_ok (j := 456) (by decide +kernel)) (ax_has_ok (j := 457) (by decide +kernel)) (Or.inl (ax_has_ok (j := 455) (by decide +kernel))) rfl (Nat.le_of_ble_eq_true rfl) (Nat.le_of_ble_eq_true rfl) (Nat.le_of_ble_eq_true rfl) (Nat.le_of_ble_eq_true rfl) (Nat.le_of_ble_eq_true rfl) l3_d217 ?_
  iterate 5 refine ax_one M rfl l3_tab l3_rm rfl rfl l3_cs l3_ss ?_
  refine l3_at M hX hbB hso (j := 1) (by decide) (ax_inB_ok rfl) l3_d225 ?_
  iterate 2 refine ax_one M rfl l3_tab l3_rm rfl rfl l3_cs l3_ss ?_
  refine ax_lshl2 M l3_d229 ?_
  iterate 4 refine ax_one M rfl l3_tab l3_rm rfl rfl l3_cs l3_ss ?_
  refine l3_at M hX hbB hso (j := 2) (by decide) (ax_inB_ok rfl) l3_d234 ?_
  iterate 2 refine ax_one M rfl l3_tab l3_rm rfl rfl l3_cs l3_ss ?_
  refine ax_land2 M l3_d239 ?_
  refine ax_lor2 M l3_d240 ?_
  refine ax_callV M (k := 542) (ci := 11) (as := [.long (l3_w xs)]) (st := [.int (lt_R (l3_w xs))]) (l3_get (h := (lt_h (lt_k (l3_w xs)) (lt_l (l3_w xs) (lt_k (l3_w xs))))) rfl) rfl (lt_lettersM (d := 10) (l3_w xs)) vk_X11_letters.1 (ax_has_ok (j := 1270) (by decide +kernel)) (ax_has_ok (j := 1271) (by decide +kernel)) (Or.inl (ax_has_ok (j := 1269) (by decide +kernel))) rfl (Nat.le_of_ble_eq_true rfl) (Nat.le_of_ble_eq_true rfl) (Nat.le_of_ble_eq_true rfl) (Nat.le_of_ble_eq_true rfl) (Nat.le_of_ble_eq_true rfl) l3_d241 ?_
  exact ax_icmp2 M (tgt := 1174) l3_d244 (by decide) (fun _ => l3_end M hr hB hX hbB hso d1 d2 _) (fun q => absurd rfl q)
end LW4

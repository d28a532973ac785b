/-! ===== the law's end, and each call's cases ===== -/
theorem cs_ds_out {ds : List (Int × Int)} {j : Nat} (h : ds.length ≤ j) : cs_ds ds j = cs_full := by
  unfold cs_ds
  rw [List.getD_eq_getElem?_getD, List.getElem?_eq_none h]
  rfl
theorem cs_prod_len : ∀ (Ps : List (List (Int × Int))) (ds : List (Int × Int)), ds ∈ cs_prod Ps → ds.length = Ps.length
  | [], ds, h => by rw [List.mem_singleton.mp h]; rfl
  | P :: r, ds, h => by
    obtain ⟨q, -, hm⟩ := List.mem_flatMap.mp (show ds ∈ P.flatMap (fun q => (cs_prod r).map (q :: ·)) from h)
    obtain ⟨d, hd, rfl⟩ := List.mem_map.mp hm
    simp [cs_prod_len r d hd]
theorem ax_Ok_nm {prog : List ax_MI} {own nm nm' : String} {cc : ByteArray} {pc len : Nat} {i : Instr} {pe : ax_PE} (hn : nm ≠ "<init>") (h : ax_Ok prog own nm cc pc i len pe) : ax_Ok prog own nm' cc pc i len pe := by
  obtain ⟨h1, h2, h3⟩ := h
  refine ⟨h1, h2, ?_⟩
  cases i with
  | putfield idx =>
    obtain ⟨C, T, N, a1, a2, a3⟩ := h3
    rcases a3 with a3 | ⟨-, -, a3, -⟩
    · exact ⟨C, T, N, a1, a2, Or.inl a3⟩
    · exact absurd a3 hn
  | _ => exact h3
section LWO
variable {G : ax_T} {p : Program} {l : Launch} {e : Env} {s : State} {m : MethodId} {below : List Frame} {meth : Method} {c : Code} {b : Nat}
theorem lw_end (M : ax_M G p s m #[Value.ref b] meth c "LetterSumsLaw" code 4) (hr : meth.sig.returnType = ret) (hB : G.2.1 = s.heap.size) {lv : List (Nat × Value)} {g : Nat → Option ax_C} {n cs ss : Nat} (hcs : cs ≤ 600000) (hss : ss ≤ 7302250)
    (d1 : decode code 1180 = .ok (.iconst 1, 1)) (d2 : decode code 1181 = .ok (.ireturn, 1)) : ax_W G p l e room_1 s m #[Value.ref b] below meth c (lw_Z below #[Value.ref b] s) 4 1180 lv [] g n cs ss := by
  intro ls H locs hl hR hL
  obtain ⟨hx, hb, -, -, -, hlocks, -⟩ := M
  refine lv_iconst (v := 1) hx hb d1 (by decide) ?_
  refine va_forget (fun q hq => by rw [← hB]; exact hL q hq) ?_
  refine W.widen hcs hss ?_
  exact lw_ret hx hb hr hlocks d2
/-- a case that was run -/
theorem lw_run (M : ax_M G p s m #[Value.ref b] meth c "LetterSumsLaw" code 4) (hr : meth.sig.returnType = ret) (hB : G.2.1 = s.heap.size) (hH : G.2.2.1 = s.heap) (hso : G.2.2.2.2.1 2 = b) (hbl : b < s.heap.size) {L : Nat} {xs : Nat → Int32} (hL5 : L ≤ 5) (hX : va_X b L xs s s.heap) (hρ : G.2.2.2.1 = fun u => if u = 9 then xs 0 &&& 63 else xs u)
    (d1 : decode code 1180 = .ok (.iconst 1, 1)) (d2 : decode code 1181 = .ok (.ireturn, 1)) {opv : Value} {o : Int × Int} {ds : List (Int × Int)} (hop : ax_v G opv = .int (xs 0 &&& 63)) (ho : o.1 ≤ (xs 0 &&& 63).toInt ∧ (xs 0 &&& 63).toInt ≤ o.2) (hds : ∀ j, (cs_ds ds j).1 ≤ (xs j).toInt ∧ (xs j).toInt ≤ (cs_ds ds j).2) (hlen : ds.length ≤ 9)
    (h : cs_run opv o L ds = true) : ax_W G p l e room_1 s m #[Value.ref b] below meth c (lw_Z below #[Value.ref b] s) 4 18 lw_lv [] (ax_hget lw_hm) 573 573 192706 := by
  unfold cs_run at h
  split at h
  · rename_i F hF
    simp only [Bool.and_eq_true, Nat.beq_eq, Nat.ble_eq] at h
    obtain ⟨h1, h2, h3, h4⟩ := h
    have hivρ : ∀ u, (cs_iv o ds u).1 ≤ (G.2.2.2.1 u).toInt ∧ (G.2.2.2.1 u).toInt ≤ (cs_iv o ds u).2 := by
      intro u
      rw [hρ]
      unfold cs_iv
      by_cases hu : u = 9
      · subst hu; exact ho
      · have e1 : (u == 9) = false := by simpa using hu
        rw [e1]
        simp only [hu, if_false, cond_false]
        exact hds u
    have hxs : ∀ j, G.2.2.2.1 (UInt32.ofNat j).toNat = (fun j => G.2.2.2.1 (UInt32.ofNat j).toNat) j := fun j => rfl
    have hsmall : ∀ j, j < 5 → (UInt32.ofNat j).toNat = j := fun j hj => by
      rw [UInt32.toNat_ofNat_of_lt']
      exact Nat.lt_of_lt_of_le hj (by decide)
    have hX' : va_X b L (fun j => G.2.2.2.1 (UInt32.ofNat j).toNat) s G.2.2.1 := by
      rw [hH]
      obtain ⟨scr, q1, q2, q3, q4, q5⟩ := hX
      refine ⟨scr, q1, q2, q3, q4, fun j hj => ?_⟩
      rw [q5 j hj]
      have hj5 : j < 5 := Nat.lt_of_lt_of_le hj hL5
      simp only [hρ, hsmall j hj5]
      rw [if_neg (by omega)]
    refine ax_lgo_ok mt_ok lw_tab_ok M hivρ (stp := ax_stepL (cs_iv o ds) L (cs_sc ds) opv) (fun i len pe pc lv st h n cs ss F hok hs hrm kk => ax_stepL_ok (b := b) (L := L) (xs := fun j => G.2.2.2.1 (UInt32.ofNat j).toNat) M rfl hivρ hX' (by rw [hB]; exact hbl) hso (fun j => ?_) ?_ (ax_Ok_nm (by decide) hok) hs hrm kk) 400 18 lw_lv [] lw_hm 573 573 192706 F hF ?_
    · refine cs_sc_ok (xs := xs) j rfl ?_
      have hu := hivρ (UInt32.ofNat j).toNat
      show (cs_ds ds j).1 ≤ (G.2.2.2.1 (UInt32.ofNat j).toNat).toInt ∧ _
      by_cases hj : j < 4294967296
      · have e2 : (UInt32.ofNat j).toNat = j := UInt32.toNat_ofNat_of_lt' hj
        rw [e2] at hu ⊢
        unfold cs_iv at hu
        by_cases h9 : j = 9
        · subst h9; rw [cs_ds_out hlen]; exact cs_bd _
        · have e1 : (j == 9) = false := by simpa using h9
          rw [e1] at hu
          exact hu
      · rw [cs_ds_out (Nat.le_trans hlen (by omega))]; exact cs_bd _
    · show ax_v G opv = .int (G.2.2.2.1 (UInt32.ofNat 0).toNat &&& 63)
      rw [hop, hρ]
      rfl
    · obtain ⟨pc, lv, st, hh, n, cs, ss⟩ := F
      simp only at h1 h2 h3 h4
      subst h1
      have h2' : st = [] := by simpa using h2
      subst h2'
      exact lw_end M hr hB h3 h4 d1 d2
  · cases h
/-- a call, by its cases -/
theorem lw_op (M : ax_M G p s m #[Value.ref b] meth c "LetterSumsLaw" code 4) (hr : meth.sig.returnType = ret) (hB : G.2.1 = s.heap.size) (hH : G.2.2.1 = s.heap) (hso : G.2.2.2.2.1 2 = b) (hbl : b < s.heap.size) {xs : Nat → Int32} (hX : va_X b 5 xs s s.heap) (hρ : G.2.2.2.1 = fun u => if u = 9 then xs 0 &&& 63 else xs u)
    (d1 : decode code 1180 = .ok (.iconst 1, 1)) (d2 : decode code 1181 = .ok (.ireturn, 1)) {k : Nat} (hk64 : k < 64) (hk : xs 0 &&& 63 = nI k) {Ps : List (List (Int × Int))} (hcov : Ps.all cs_cov = true) (hPl : Ps.length ≤ 8)
    (h : ∀ ds ∈ cs_prod Ps, cs_run (.int (nI k)) ((k : Int), (k : Int)) 5 (cs_full :: ds) = true) : ax_W G p l e room_1 s m #[Value.ref b] below meth c (lw_Z below #[Value.ref b] s) 4 18 lw_lv [] (ax_hget lw_hm) 573 573 192706 := by
  obtain ⟨ds, hds, hb2⟩ := cs_prod_ok Ps hcov (fun j => xs (j + 1))
  have hlen : (cs_full :: ds).length ≤ 9 := by simp [cs_prod_len Ps ds hds]; omega
  refine lw_run M hr hB hH hso hbl (Nat.le_refl 5) hX hρ d1 d2 (by rw [hk]; rfl) ?_ (fun j => ?_) hlen (h ds hds)
  · rw [hk, nI_toInt (by omega)]
    exact ⟨Int.le_refl _, Int.le_refl _⟩
  · cases j with
    | zero => exact cs_bd _
    | succ j => exact hb2 j
end LWO

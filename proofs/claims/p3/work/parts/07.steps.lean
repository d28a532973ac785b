/-! ===== one step is the machine's: all instructions ===== -/
section AXT
variable {G : ax_T} {p : Program} {l : Launch} {e : Env} {R : Room} {s : State} {m : MethodId} {args : Array Value} {below : List Frame} {meth : Method} {c : Code} {Q : State → Prop} {own nm : String} {cc : ByteArray} {nL : Nat}
variable {pc : Nat} {lv : List (Nat × Value)} {st : List Value} {h : ax_H} {n cs ss : Nat} {iv : Nat → Int × Int} {pe : ax_PE} {F : ax_F}
theorem ax_nneg {i : Int32} (h : 0 ≤ i.toInt) : ¬ i < 0 := by
  rw [Int32.lt_iff_toInt_lt]
  exact Int.not_lt.mpr h
theorem ax_iinc (hx : p.tables.exec = Jvm.exec) (hb : c.code = cc) {k : Nat} {x : Int} {v : Int32} {ls : Array Slot} {H : Heap} {locs : List Loc} {rest : List Value} (hd : decode cc pc = .ok (.iinc k x, 3)) (hl : lv_has ls nL (lv.map fun q => (q.1, ax_v G q.2))) (hv : ax_look lv k = some (.int v)) (hk : k < nL)
    (kk : ∀ ls' : Array Slot, lv_has ls' nL ((ax_put1 lv k (.int (v + Int32.ofInt x))).map fun q => (q.1, ax_v G q.2)) → W p l e R s m args below meth c H locs cs ss Q (F0 m (pc + 3) ls' rest)) : W p l e R s m args below meth c H locs cs ss Q (F0 m pc ls rest) := by
  unfold ax_look at hv
  cases e0 : lv.find? (fun q => q.1 == k) with
  | none => rw [e0] at hv; cases hv
  | some q =>
    rw [e0] at hv
    have h1 : q.2 = .int v := Option.some.inj hv
    have h2 : q.1 = k := by simpa using List.find?_some e0
    obtain ⟨j, hj⟩ := List.getElem?_of_mem (List.mem_of_find?_eq_some e0)
    have h3 : (lv.map fun q => (q.1, ax_v G q.2))[j]? = some (k, .int v) := by rw [List.getElem?_map, hj]; simp only [Option.map_some, h1, h2]; rfl
    exact lv_iinc (v := v + Int32.ofInt x) hx hb hd hl h3 rfl hk (ax_put1_map G lv k (.int (v + Int32.ofInt x))) kk
set_option maxHeartbeats 4000000 in
theorem ax_step_ok {prog : List ax_MI} (M : ax_M G p s m args meth c own cc nL) (hnm : meth.name = nm) (hρ : ∀ u, (iv u).1 ≤ (G.2.2.2.1 u).toInt ∧ (G.2.2.2.1 u).toInt ≤ (iv u).2) {i : Instr} {len : Nat} (hok : ax_Ok prog own nm cc pc i len pe)
    (hs : ax_step iv nL i pe pc lv st h n cs ss = some F) (hr : F.2.2.2.2.2.1 ≤ R.cells ∧ F.2.2.2.2.2.2 ≤ R.slots ∧ 1 ≤ R.frames ∧ 40 ≤ R.locals) (kk : ax_WF G p l e R s m args below meth c Q nL F) : ax_W G p l e R s m args below meth c Q nL pc lv st (ax_hget h) n cs ss := by
  obtain ⟨hd, hlen, hw⟩ := hok
  obtain ⟨hx, hb, hml, hown, hts, hlocks, hX⟩ := id M
  cases i with
  | iconst k =>
    obtain rfl : len = 1 := hlen.elim (fun q => absurd q (Nat.succ_ne_zero _)) (fun q => q)
    obtain rfl := Option.some.inj hs
    exact fun ls H locs hl hR hL => lv_iconst hx hb hd rfl (kk ls H locs hl hR hL)
  | bipush k =>
    obtain rfl : len = 2 := hlen.elim (fun q => absurd q (Nat.succ_ne_zero _)) (fun q => q)
    obtain rfl := Option.some.inj hs
    exact fun ls H locs hl hR hL => lv_bipush hx hb hd rfl (kk ls H locs hl hR hL)
  | sipush k =>
    obtain rfl : len = 3 := hlen.elim (fun q => absurd q (Nat.succ_ne_zero _)) (fun q => q)
    obtain rfl := Option.some.inj hs
    exact fun ls H locs hl hR hL => lv_sipush hx hb hd rfl (kk ls H locs hl hR hL)
  | lconst k =>
    obtain rfl : len = 1 := hlen.elim (fun q => absurd q (Nat.succ_ne_zero _)) (fun q => q)
    obtain rfl := Option.some.inj hs
    exact fun ls H locs hl hR hL => lv_lconst hx hb hd rfl (kk ls H locs hl hR hL)
  | ldc k =>
    obtain rfl : len = 2 := hlen.elim (fun q => absurd q (Nat.succ_ne_zero _)) (fun q => q)
    obtain rfl := Option.some.inj hs
    exact fun ls H locs hl hR hL => lv_ldc hx hb hown (hts _ hw) hd (kk ls H locs hl hR hL)
  | ldc_w k =>
    obtain rfl : len = 3 := hlen.elim (fun q => absurd q (Nat.succ_ne_zero _)) (fun q => q)
    obtain rfl := Option.some.inj hs
    exact fun ls H locs hl hR hL => lv_ldcw hx hb hown (hts _ hw) hd (kk ls H locs hl hR hL)
  | ldc2_w k =>
    obtain rfl : len = 3 := hlen.elim (fun q => absurd q (Nat.succ_ne_zero _)) (fun q => q)
    obtain rfl := Option.some.inj hs
    exact fun ls H locs hl hR hL => lv_ldc2 hx hb hown (hts _ hw) hd (kk ls H locs hl hR hL)
  | iload k =>
    obtain rfl : len = 2 := hlen.elim (fun q => absurd q (Nat.succ_ne_zero _)) (fun q => q)
    exact ax_ld_ok (fun _ ls H locs x hxx w => lv_iload hx hb hd hxx w) (fun h => absurd h (by decide)) (fun h => absurd h (by decide)) hs kk
  | iload_n k =>
    obtain rfl : len = 1 := hlen.elim (fun q => absurd q (Nat.succ_ne_zero _)) (fun q => q)
    exact ax_ld_ok (fun _ ls H locs x hxx w => lv_iload_n hx hb hd rfl hxx w) (fun h => absurd h (by decide)) (fun h => absurd h (by decide)) hs kk
  | aload k =>
    obtain rfl : len = 2 := hlen.elim (fun q => absurd q (Nat.succ_ne_zero _)) (fun q => q)
    exact ax_ld_ok (fun h => absurd h (by decide)) (fun _ ls H locs x hxx w => lv_aload hx hb hd hxx w) (fun h => absurd h (by decide)) hs kk
  | aload_n k =>
    obtain rfl : len = 1 := hlen.elim (fun q => absurd q (Nat.succ_ne_zero _)) (fun q => q)
    exact ax_ld_ok (fun h => absurd h (by decide)) (fun _ ls H locs x hxx w => lv_aload_n hx hb hd rfl hxx w) (fun h => absurd h (by decide)) hs kk
  | lload k =>
    obtain rfl : len = 2 := hlen.elim (fun q => absurd q (Nat.succ_ne_zero _)) (fun q => q)
    exact ax_ld_ok (fun h => absurd h (by decide)) (fun h => absurd h (by decide)) (fun _ ls H locs x hxx w => lv_lload hx hb hd hxx w) hs kk
  | lload_n k =>
    obtain rfl : len = 1 := hlen.elim (fun q => absurd q (Nat.succ_ne_zero _)) (fun q => q)
    exact ax_ld_ok (fun h => absurd h (by decide)) (fun h => absurd h (by decide)) (fun _ ls H locs x hxx w => lv_lload_n hx hb hd rfl hxx w) hs kk
  | istore k =>
    obtain rfl : len = 2 := hlen.elim (fun q => absurd q (Nat.succ_ne_zero _)) (fun q => q)
    exact ax_st_ok (fun _ ls H locs rest x lw lw' hl hn he w => lv_istore hx hb hd hl hn he w) (fun h => absurd h (by decide)) (fun h => absurd h (by decide)) hs kk
  | istore_n k =>
    obtain rfl : len = 1 := hlen.elim (fun q => absurd q (Nat.succ_ne_zero _)) (fun q => q)
    exact ax_st_ok (fun _ ls H locs rest x lw lw' hl hn he w => lv_istore_n hx hb hd rfl hl hn he w) (fun h => absurd h (by decide)) (fun h => absurd h (by decide)) hs kk
  | astore k =>
    obtain rfl : len = 2 := hlen.elim (fun q => absurd q (Nat.succ_ne_zero _)) (fun q => q)
    exact ax_st_ok (fun h => absurd h (by decide)) (fun _ ls H locs rest x lw lw' hl hn he w => lv_astore hx hb hd hl hn he w) (fun h => absurd h (by decide)) hs kk
  | astore_n k =>
    obtain rfl : len = 1 := hlen.elim (fun q => absurd q (Nat.succ_ne_zero _)) (fun q => q)
    exact ax_st_ok (fun h => absurd h (by decide)) (fun _ ls H locs rest x lw lw' hl hn he w => lv_astore_n hx hb hd rfl hl hn he w) (fun h => absurd h (by decide)) hs kk
  | lstore k =>
    obtain rfl : len = 2 := hlen.elim (fun q => absurd q (Nat.succ_ne_zero _)) (fun q => q)
    exact ax_st_ok (fun h => absurd h (by decide)) (fun h => absurd h (by decide)) (fun _ ls H locs rest x lw lw' hl hn he w => lv_lstore hx hb hd hl hn he w) hs kk
  | lstore_n k =>
    obtain rfl : len = 1 := hlen.elim (fun q => absurd q (Nat.succ_ne_zero _)) (fun q => q)
    exact ax_st_ok (fun h => absurd h (by decide)) (fun h => absurd h (by decide)) (fun _ ls H locs rest x lw lw' hl hn he w => lv_lstore_n hx hb hd rfl hl hn he w) hs kk
  | iinc k x =>
    obtain rfl : len = 3 := hlen.elim (fun q => absurd q (Nat.succ_ne_zero _)) (fun q => q)
    simp only [ax_step] at hs
    split at hs
    · rename_i v hv
      cases e1 : Nat.blt k nL with
      | false => simp only [e1, cond_false] at hs; cases hs
      | true =>
        simp only [e1, cond_true] at hs
        obtain rfl := Option.some.inj hs
        intro ls H locs hl hR hL
        exact ax_iinc hx hb hd hl hv (by simpa [Nat.blt_eq] using e1) (fun ls' hl' => kk ls' H locs hl' hR hL)
    · cases hs
  | iadd =>
    obtain rfl : len = 1 := hlen.elim (fun q => absurd q (Nat.succ_ne_zero _)) (fun q => q)
    exact ax_i2_ok (fun ls H locs rest x y w => lv_iadd hx hb hd w) hs kk
  | isub =>
    obtain rfl : len = 1 := hlen.elim (fun q => absurd q (Nat.succ_ne_zero _)) (fun q => q)
    exact ax_i2_ok (fun ls H locs rest x y w => lv_isub hx hb hd w) hs kk
  | imul =>
    obtain rfl : len = 1 := hlen.elim (fun q => absurd q (Nat.succ_ne_zero _)) (fun q => q)
    exact ax_i2_ok (fun ls H locs rest x y w => lv_imul hx hb hd w) hs kk
  | iand =>
    obtain rfl : len = 1 := hlen.elim (fun q => absurd q (Nat.succ_ne_zero _)) (fun q => q)
    exact ax_i2_ok (fun ls H locs rest x y w => lv_iand hx hb hd w) hs kk
  | ior =>
    obtain rfl : len = 1 := hlen.elim (fun q => absurd q (Nat.succ_ne_zero _)) (fun q => q)
    exact ax_i2_ok (fun ls H locs rest x y w => lv_ior hx hb hd w) hs kk
  | ishl =>
    obtain rfl : len = 1 := hlen.elim (fun q => absurd q (Nat.succ_ne_zero _)) (fun q => q)
    exact ax_i2_ok (fun ls H locs rest x y w => lv_ishl hx hb hd w) hs kk
  | ishr =>
    obtain rfl : len = 1 := hlen.elim (fun q => absurd q (Nat.succ_ne_zero _)) (fun q => q)
    exact ax_i2_ok (fun ls H locs rest x y w => lv_ishr hx hb hd w) hs kk
  | idiv =>
    obtain rfl : len = 1 := hlen.elim (fun q => absurd q (Nat.succ_ne_zero _)) (fun q => q)
    exact ax_div_ok (fun ls H locs rest x y hy w => lv_idiv hx hb hd hy w) hs kk
  | irem =>
    obtain rfl : len = 1 := hlen.elim (fun q => absurd q (Nat.succ_ne_zero _)) (fun q => q)
    exact ax_div_ok (fun ls H locs rest x y hy w => lv_irem hx hb hd hy w) hs kk
  | ladd =>
    obtain rfl : len = 1 := hlen.elim (fun q => absurd q (Nat.succ_ne_zero _)) (fun q => q)
    exact ax_l2_ok (fun ls H locs rest x y w => lv_ladd hx hb hd w) hs kk
  | lmul =>
    obtain rfl : len = 1 := hlen.elim (fun q => absurd q (Nat.succ_ne_zero _)) (fun q => q)
    exact ax_l2_ok (fun ls H locs rest x y w => lv_lmul hx hb hd w) hs kk
  | ineg =>
    obtain rfl : len = 1 := hlen.elim (fun q => absurd q (Nat.succ_ne_zero _)) (fun q => q)
    simp only [ax_step] at hs
    split at hs
    · obtain rfl := Option.some.inj hs
      exact fun ls H locs hl hR hL => lv_ineg hx hb hd (kk ls H locs hl hR hL)
    · cases hs
  | i2l =>
    obtain rfl : len = 1 := hlen.elim (fun q => absurd q (Nat.succ_ne_zero _)) (fun q => q)
    simp only [ax_step] at hs
    split at hs
    · obtain rfl := Option.some.inj hs
      exact fun ls H locs hl hR hL => lv_i2l hx hb hd rfl (kk ls H locs hl hR hL)
    · cases hs
  | dup =>
    obtain rfl : len = 1 := hlen.elim (fun q => absurd q (Nat.succ_ne_zero _)) (fun q => q)
    simp only [ax_step] at hs
    split at hs
    · rename_i v st'
      cases e1 : v.category == 1 with
      | false => simp only [e1, cond_false] at hs; cases hs
      | true =>
        simp only [e1, cond_true] at hs
        obtain rfl := Option.some.inj hs
        exact fun ls H locs hl hR hL => lv_dup hx hb hd (by rw [ax_cat]; simpa using e1) (kk ls H locs hl hR hL)
    · cases hs
  | pop =>
    obtain rfl : len = 1 := hlen.elim (fun q => absurd q (Nat.succ_ne_zero _)) (fun q => q)
    simp only [ax_step] at hs
    split at hs
    · rename_i v st'
      cases e1 : v.category == 1 with
      | false => simp only [e1, cond_false] at hs; cases hs
      | true =>
        simp only [e1, cond_true] at hs
        obtain rfl := Option.some.inj hs
        exact fun ls H locs hl hR hL => lv_pop hx hb hd (by rw [ax_cat]; simpa using e1) (kk ls H locs hl hR hL)
    · cases hs
  | dup2 =>
    obtain rfl : len = 1 := hlen.elim (fun q => absurd q (Nat.succ_ne_zero _)) (fun q => q)
    simp only [ax_step] at hs
    split at hs
    · rename_i v w st'
      cases e1 : (v.category == 1 && w.category == 1) with
      | false => simp only [e1, cond_false] at hs; cases hs
      | true =>
        simp only [e1, cond_true] at hs
        obtain rfl := Option.some.inj hs
        simp only [Bool.and_eq_true, beq_iff_eq] at e1
        exact fun ls H locs hl hR hL => lv_dup2_11 hx hb hd (by rw [ax_cat]; exact e1.1) (by rw [ax_cat]; exact e1.2) (kk ls H locs hl hR hL)
    · cases hs
  | goto off =>
    obtain rfl : len = 3 := hlen.elim (fun q => absurd q (Nat.succ_ne_zero _)) (fun q => q)
    simp only [ax_step, Option.map_eq_some_iff] at hs
    obtain ⟨t, ht, rfl⟩ := hs
    exact fun ls H locs hl hR hL => lv_goto hx hb hd (ax_to_ok ht) (kk ls H locs hl hR hL)
  | ifCond cn off =>
    obtain rfl : len = 3 := hlen.elim (fun q => absurd q (Nat.succ_ne_zero _)) (fun q => q)
    simp only [ax_step] at hs
    split at hs
    · refine ax_br_ok hρ (fun ls H locs x y tgt ha hb0 ht kt kf => ?_) hs kk
      have hy : y = 0 := by cases hb0; rfl
      subst hy
      simp only [List.map_cons, ha]
      cases cn with
      | eq => exact lv_if_eq hx hb hd ht kt kf
      | ne => exact lv_if_ne hx hb hd ht kt (fun hh => kf (fun hn => hn hh))
      | lt => exact lv_if_lt hx hb hd ht kt kf
      | ge => exact lv_if_ge hx hb hd ht kt kf
      | gt => exact lv_if_gt hx hb hd ht kt kf
      | le => exact lv_if_le hx hb hd ht kt kf
    · cases hs
  | if_icmp cn off =>
    obtain rfl : len = 3 := hlen.elim (fun q => absurd q (Nat.succ_ne_zero _)) (fun q => q)
    simp only [ax_step] at hs
    split at hs
    · refine ax_br_ok hρ (fun ls H locs x y tgt ha hb0 ht kt kf => ?_) hs kk
      simp only [List.map_cons, ha, hb0]
      cases cn with
      | eq => exact lv_icmp_eq hx hb hd ht kt kf
      | ne => exact lv_icmp_ne hx hb hd ht kt (fun hh => kf (fun hn => hn hh))
      | lt => exact lv_icmp_lt hx hb hd ht kt kf
      | ge => exact lv_icmp_ge hx hb hd ht kt kf
      | gt => exact lv_icmp_gt hx hb hd ht kt kf
      | le => exact lv_icmp_le hx hb hd ht kt kf
    · cases hs
  | getfield idx =>
    obtain rfl : len = 3 := hlen.elim (fun q => absurd q (Nat.succ_ne_zero _)) (fun q => q)
    obtain ⟨C, T, N, hc, hj, hlk⟩ := hw
    simp only [ax_step, ax_s_getf] at hs
    split at hs
    · rename_i k st'
      split at hs
      · rename_i ci fs hk
        cases e1 : ci == pe.2.1 with
        | false => simp only [e1, cond_false] at hs; cases hs
        | true =>
          simp only [e1, cond_true, Option.map_eq_some_iff] at hs
          obtain ⟨v, hv, rfl⟩ := hs
          have e2 : ci = pe.2.1 := by simpa using e1
          subst e2
          exact ax_getf M (ax_get_of hk) hc hj hv hlk hd kk
      · cases hs
    · cases hs
  | putfield idx =>
    obtain rfl : len = 3 := hlen.elim (fun q => absurd q (Nat.succ_ne_zero _)) (fun q => q)
    obtain ⟨C, T, N, hc, hj, hlk⟩ := hw
    simp only [ax_step, ax_s_putf] at hs
    split at hs
    · rename_i v k st'
      split at hs
      · rename_i ci fs hk
        cases e1 : (ci == pe.2.1 && (Nat.blt pe.2.2.1 fs.length && ax_fit (ax_ty pe.2.1 pe.2.2.1) v)) with
        | false => simp only [e1, cond_false] at hs; cases hs
        | true =>
          simp only [e1, cond_true] at hs
          obtain rfl := Option.some.inj hs
          simp only [Bool.and_eq_true, beq_iff_eq, Nat.blt_eq] at e1
          obtain ⟨rfl, hf, hfit⟩ := e1
          rcases hlk with ⟨hfin, hlk⟩ | ⟨hfin, hlk, hn, hdecl⟩
          · exact ax_putf M (ax_get_of hk) hc hj hf hlk hfin (ax_fit_ok G hfit).1 (ax_fit_ok G hfit).2 hd ax_hget_set kk
          · exact ax_putF M (ax_get_of hk) hc hj hf hlk hfin (hnm.trans hn) hdecl (ax_fit_ok G hfit).1 (ax_fit_ok G hfit).2 hd ax_hget_set kk
      · cases hs
    · cases hs
  | getstatic idx =>
    obtain rfl : len = 3 := hlen.elim (fun q => absurd q (Nat.succ_ne_zero _)) (fun q => q)
    obtain ⟨z, hz, hlk⟩ := hw
    obtain rfl := Option.some.inj hs
    exact ax_gets M hz hlk hd kk
  | iaload =>
    obtain rfl : len = 1 := hlen.elim (fun q => absurd q (Nat.succ_ne_zero _)) (fun q => q)
    simp only [ax_step, ax_s_iald] at hs
    split at hs
    · rename_i i k st'
      split at hs
      · rename_i t N f hk
        cases e1 : (t == 0 && ax_inB i N) with
        | false => simp only [e1, cond_false] at hs; cases hs
        | true =>
          simp only [e1, cond_true] at hs
          obtain rfl := Option.some.inj hs
          simp only [Bool.and_eq_true, beq_iff_eq] at e1
          obtain ⟨rfl, hi⟩ := e1
          exact ax_iald M (ax_get_of hk) rfl (ax_inB_ok hi) hd kk
      · cases hs
    · rename_i i j st'
      split at hs
      · rename_i z hz
        cases e1 : ax_inB i z.2.2.length with
        | false => simp only [e1, cond_false] at hs; cases hs
        | true =>
          simp only [e1, cond_true] at hs
          obtain rfl := Option.some.inj hs
          exact ax_sald M hz (ax_inB_ok e1) hd kk
      · cases hs
    · cases hs
  | baload =>
    obtain rfl : len = 1 := hlen.elim (fun q => absurd q (Nat.succ_ne_zero _)) (fun q => q)
    simp only [ax_step, ax_s_bald] at hs
    split at hs
    · rename_i i k st'
      split at hs
      · rename_i t N f hk
        cases e1 : (t == 1 && ax_inB i N) with
        | false => simp only [e1, cond_false] at hs; cases hs
        | true =>
          simp only [e1, cond_true] at hs
          obtain rfl := Option.some.inj hs
          simp only [Bool.and_eq_true, beq_iff_eq] at e1
          obtain ⟨rfl, hi⟩ := e1
          exact ax_bald M (ax_get_of hk) rfl (ax_inB_ok hi) hd kk
      · cases hs
    · cases hs
  | aaload =>
    obtain rfl : len = 1 := hlen.elim (fun q => absurd q (Nat.succ_ne_zero _)) (fun q => q)
    simp only [ax_step, ax_s_aald] at hs
    split at hs
    · rename_i i k st'
      split at hs
      · rename_i t N f hk
        cases et : ax_tc t with
        | none => simp only [et] at hs; cases hs
        | some q =>
          cases e1 : ax_inB i N with
          | false => simp only [et, e1, cond_false] at hs; cases hs
          | true =>
            simp only [et, e1, cond_true, Option.map_eq_some_iff] at hs
            obtain ⟨k', hk', rfl⟩ := hs
            exact ax_aald M (ax_get_of hk) (ax_tc_ok et).1 (ax_inB_ok e1) hk' hd kk
      · cases hs
    · cases hs
  | iastore =>
    obtain rfl : len = 1 := hlen.elim (fun q => absurd q (Nat.succ_ne_zero _)) (fun q => q)
    simp only [ax_step, ax_s_iast] at hs
    split at hs
    · rename_i x i k st'
      split at hs
      · rename_i t N f hk
        cases e1 : (t == 0 && ax_inB i N) with
        | false => simp only [e1, cond_false] at hs; cases hs
        | true =>
          simp only [e1, cond_true] at hs
          obtain rfl := Option.some.inj hs
          simp only [Bool.and_eq_true, beq_iff_eq] at e1
          obtain ⟨rfl, hi⟩ := e1
          exact ax_iast M (ax_get_of hk) rfl (ax_inB_ok hi) hd ax_hget_set kk
      · cases hs
    · cases hs
  | land =>
    obtain rfl : len = 1 := hlen.elim (fun q => absurd q (Nat.succ_ne_zero _)) (fun q => q)
    exact ax_l2_ok (fun ls H locs rest x y w => lv_land hx hb hd w) hs kk
  | lshr =>
    obtain rfl : len = 1 := hlen.elim (fun q => absurd q (Nat.succ_ne_zero _)) (fun q => q)
    simp only [ax_step, ax_s_li] at hs
    split at hs
    · obtain rfl := Option.some.inj hs
      exact fun ls H locs hl hR hL => lv_lshr hx hb hd rfl (kk ls H locs hl hR hL)
    · cases hs
  | lushr =>
    obtain rfl : len = 1 := hlen.elim (fun q => absurd q (Nat.succ_ne_zero _)) (fun q => q)
    simp only [ax_step, ax_s_li] at hs
    split at hs
    · obtain rfl := Option.some.inj hs
      exact fun ls H locs hl hR hL => lv_lushr hx hb hd rfl (kk ls H locs hl hR hL)
    · cases hs
  | l2i =>
    obtain rfl : len = 1 := hlen.elim (fun q => absurd q (Nat.succ_ne_zero _)) (fun q => q)
    simp only [ax_step] at hs
    split at hs
    · obtain rfl := Option.some.inj hs
      exact fun ls H locs hl hR hL => lv_l2i hx hb hd rfl (kk ls H locs hl hR hL)
    · cases hs
  | i2b =>
    obtain rfl : len = 1 := hlen.elim (fun q => absurd q (Nat.succ_ne_zero _)) (fun q => q)
    simp only [ax_step] at hs
    split at hs
    · obtain rfl := Option.some.inj hs
      exact fun ls H locs hl hR hL => lv_i2b hx hb hd rfl (kk ls H locs hl hR hL)
    · cases hs
  | i2c =>
    obtain rfl : len = 1 := hlen.elim (fun q => absurd q (Nat.succ_ne_zero _)) (fun q => q)
    simp only [ax_step] at hs
    split at hs
    · obtain rfl := Option.some.inj hs
      exact fun ls H locs hl hR hL => lv_i2c hx hb hd rfl (kk ls H locs hl hR hL)
    · cases hs
  | iushr =>
    obtain rfl : len = 1 := hlen.elim (fun q => absurd q (Nat.succ_ne_zero _)) (fun q => q)
    exact ax_i2_ok (fun ls H locs rest x y w => lv_iushr hx hb hd rfl w) hs kk
  | arraylength =>
    obtain rfl : len = 1 := hlen.elim (fun q => absurd q (Nat.succ_ne_zero _)) (fun q => q)
    simp only [ax_step, ax_s_alen] at hs
    split at hs
    · rename_i k st'
      split at hs
      · rename_i t N f hk
        cases e1 : Nat.blt t 2 with
        | false => simp only [e1, cond_false] at hs; cases hs
        | true =>
          simp only [e1, cond_true] at hs
          obtain rfl := Option.some.inj hs
          match t, e1, hk with
          | 0, _, hk => exact ax_alen M (ax_get_of hk) rfl hd kk
          | 1, _, hk => exact ax_alen M (ax_get_of hk) rfl hd kk
          | t + 2, e1, _ => rw [show Nat.blt (t + 2) 2 = false by rw [Nat.blt]; rfl] at e1; cases e1
      · cases hs
    · cases hs
  | bastore =>
    obtain rfl : len = 1 := hlen.elim (fun q => absurd q (Nat.succ_ne_zero _)) (fun q => q)
    simp only [ax_step, ax_s_bast] at hs
    split at hs
    · rename_i x i k st'
      split at hs
      · rename_i t N f hk
        cases e1 : (t == 1 && (ax_inB i N && decide (vp_nar .byte x = x))) with
        | false => simp only [e1, cond_false] at hs; cases hs
        | true =>
          simp only [e1, cond_true] at hs
          obtain rfl := Option.some.inj hs
          simp only [Bool.and_eq_true, beq_iff_eq, decide_eq_true_eq] at e1
          obtain ⟨rfl, hi, hxx⟩ := e1
          refine ax_bast M (ax_get_of hk) rfl (ax_inB_ok hi) hd ?_ kk
          rw [hxx]
          exact ax_hget_set
      · cases hs
    · cases hs
  | aastore =>
    obtain rfl : len = 1 := hlen.elim (fun q => absurd q (Nat.succ_ne_zero _)) (fun q => q)
    simp only [ax_step, ax_s_aast] at hs
    split at hs
    · rename_i k' i k st'
      split at hs
      · rename_i t N f ci fs hk hk'
        cases et : ax_tc t with
        | none => simp only [et] at hs; cases hs
        | some q =>
          cases e1 : (ci == q.1 && ax_inB i N) with
          | false => simp only [et, e1, cond_false] at hs; cases hs
          | true =>
            simp only [et, e1, cond_true] at hs
            obtain rfl := Option.some.inj hs
            simp only [Bool.and_eq_true, beq_iff_eq] at e1
            obtain ⟨rfl, hi⟩ := e1
            obtain ⟨h1, T, N', h2⟩ := ax_tc_ok et
            exact ax_aast M (ax_get_of hk) h1 (ax_get_of hk') h2 (ax_inB_ok hi) hd ax_hget_set kk
      · cases hs
    · cases hs
  | new idx =>
    obtain rfl : len = 3 := hlen.elim (fun q => absurd q (Nat.succ_ne_zero _)) (fun q => q)
    obtain ⟨C, T, hc, hw1, hw2, hw3, hnf⟩ := hw
    obtain rfl := Option.some.inj hs
    exact ax_new M hc hw1 hw2 hw3 hnf hr.1 hr.2.1 hd ax_hget_push kk
  | newarray a =>
    obtain rfl : len = 2 := hlen.elim (fun q => absurd q (Nat.succ_ne_zero _)) (fun q => q)
    obtain ⟨hw1, ht, ha⟩ := hw
    simp only [ax_step, ax_s_newa] at hs
    split at hs
    · rename_i i st'
      cases e1 : (decide (0 ≤ i.toInt) && decide (i.toNatClampNeg * 8 ≤ 536870912)) with
      | false => simp only [e1, cond_false] at hs; cases hs
      | true =>
        simp only [e1, cond_true] at hs
        obtain rfl := Option.some.inj hs
        simp only [Bool.and_eq_true, decide_eq_true_eq] at e1
        exact ax_newa M hw1 ht ha (ax_nneg e1.1) e1.2 hr.1 hr.2.1 hd ax_hget_push kk
    · cases hs
  | anewarray idx =>
    obtain rfl : len = 3 := hlen.elim (fun q => absurd q (Nat.succ_ne_zero _)) (fun q => q)
    obtain ⟨C, hw1, ht, ha⟩ := hw
    simp only [ax_step, ax_s_newq] at hs
    split at hs
    · rename_i i st'
      cases e1 : (decide (0 ≤ i.toInt) && decide (i.toNatClampNeg * 4 ≤ 536870912)) with
      | false => simp only [e1, cond_false] at hs; cases hs
      | true =>
        simp only [e1, cond_true] at hs
        obtain rfl := Option.some.inj hs
        simp only [Bool.and_eq_true, decide_eq_true_eq] at e1
        exact ax_newq M hw1 ht ha (ax_nneg e1.1) e1.2 hr.1 hr.2.1 hd ax_hget_push kk
    · cases hs
  | tableswitch d lo hi offs =>
    simp only [ax_step, ax_s_table] at hs
    split at hs
    · rename_i x st'
      cases e1 : (decide (x.toInt < lo) || decide (hi < x.toInt)) with
      | true =>
        simp only [e1, cond_true, Option.map_eq_some_iff] at hs
        obtain ⟨t, ht, rfl⟩ := hs
        simp only [Bool.or_eq_true, decide_eq_true_eq] at e1
        exact fun ls H locs hl hR hL => lv_tableOut hx hb hd e1 (ax_to_ok ht) (kk ls H locs hl hR hL)
      | false =>
        simp only [e1, cond_false] at hs
        simp only [Bool.or_eq_false_iff, decide_eq_false_iff_not] at e1
        split at hs
        · rename_i off ho
          simp only [Option.map_eq_some_iff] at hs
          obtain ⟨t, ht, rfl⟩ := hs
          exact fun ls H locs hl hR hL => lv_tableIn hx hb hd e1.1 e1.2 ho (ax_to_ok ht) (kk ls H locs hl hR hL)
        · cases hs
    · rename_i u st'
      cases e1 : (decide ((iv u.toNat).2 < lo) || decide (hi < (iv u.toNat).1)) with
      | false => simp only [e1, cond_false] at hs; cases hs
      | true =>
        simp only [e1, cond_true, Option.map_eq_some_iff] at hs
        obtain ⟨t, ht, rfl⟩ := hs
        simp only [Bool.or_eq_true, decide_eq_true_eq] at e1
        have h2 := hρ u.toNat
        exact fun ls H locs hl hR hL => lv_tableOut hx hb hd (by omega) (ax_to_ok ht) (kk ls H locs hl hR hL)
    · cases hs
  | lookupswitch d ps =>
    simp only [ax_step, ax_s_lookup] at hs
    cases e0 : (ps.toList.zip (ps.toList.drop 1)).all (fun (a, next) => a.1 < next.1) with
    | false => rw [e0] at hs; cases hs
    | true =>
    rw [e0] at hs
    simp only [cond_true] at hs
    split at hs
    · rename_i x st'
      simp only [Option.map_eq_some_iff] at hs
      obtain ⟨t, ht, rfl⟩ := hs
      exact fun ls H locs hl hR hL => lv_lookup hx hb hd e0 rfl (ax_to_ok ht) (kk ls H locs hl hR hL)
    · rename_i u st'
      cases e1 : ps.toList.all (fun q => decide ((iv u.toNat).2 < q.1) || decide (q.1 < (iv u.toNat).1)) with
      | false => simp only [e1, cond_false] at hs; cases hs
      | true =>
        simp only [e1, cond_true, Option.map_eq_some_iff] at hs
        obtain ⟨t, ht, rfl⟩ := hs
        have h2 := hρ u.toNat
        have h3 : Op.lookupswitch.offset ps.toList d (G.2.2.2.1 u.toNat).toInt = d := ax_lookup_dflt (fun q hq => by
          have h4 := List.all_eq_true.mp e1 q hq
          simp only [Bool.or_eq_true, decide_eq_true_eq] at h4
          omega)
        exact fun ls H locs hl hR hL => lv_lookup hx hb hd e0 h3 (ax_to_ok ht) (kk ls H locs hl hR hL)
    · cases hs
  | invokespecial idx =>
    obtain rfl : len = 3 := hlen.elim (fun q => absurd q (Nat.succ_ne_zero _)) (fun q => q)
    simp only [ax_step] at hs
    split at hs
    · rename_i k st'
      cases e1 : (pe.1 == 8 && Nat.ble (ax_sum st') 8) with
      | false => simp only [e1, cond_false] at hs; cases hs
      | true =>
        simp only [e1, cond_true] at hs
        obtain rfl := Option.some.inj hs
        simp only [Bool.and_eq_true, beq_iff_eq, Nat.ble_eq] at e1
        rcases hw with ⟨-, hw1, hw2, hw3⟩ | ⟨hw1, -⟩
        · exact ax_objInit M hw1 hw2 hw3 hr.2.2.1 (Nat.le_trans (by decide) hr.2.2.2) e1.2 hd kk
        · exact absurd e1.1 hw1
    · cases hs
  | invokestatic idx =>
    obtain rfl : len = 3 := hlen.elim (fun q => absurd q (Nat.succ_ne_zero _)) (fun q => q)
    simp only [ax_step] at hs
    split at hs
    · rename_i y x st'
      cases e1 : (pe.1 == 9 && Nat.ble (ax_sum st') 8) with
      | false => simp only [e1, cond_false] at hs; cases hs
      | true =>
        simp only [e1, cond_true] at hs
        obtain rfl := Option.some.inj hs
        simp only [Bool.and_eq_true, beq_iff_eq, Nat.ble_eq] at e1
        rcases hw with ⟨-, hw1, hw2, hw3, hw4⟩ | ⟨hw1, -⟩
        · intro ls H locs hl hR hL
          exact va_mmin hx hb (by rw [hml]; exact hl.1.symm) hown (hts _ hw1) (hts _ hw2) (hts _ hw3) (hts _ hw4) hr.2.2.1 (by rw [ax_sum_map]; have := hr.2.2.2; omega) hr.1 hr.2.1 hd (kk ls H locs hl hR hL)
        · exact absurd e1.1 hw1
    · cases hs
  | _ => cases hs
end AXT

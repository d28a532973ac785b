/-! THE CLAIM OUT OF ONE WALK OF THE LAW'S BODY. Your part is whole_start (and what it stands on); all else here is the same for every law, but numbers. -/
def R_law : String := "LetterSumsLaw"
def lw_P (b : Addr) (xs : List Int32) (args : Array Value) (s : State) : Prop := args = #[.ref b] ∧ s.IntsAt b xs ∧ xs.length ≤ 2560 ∧ (Jvm.Cond.and given_1 narrow_1).before args s = true
def lw_Q (_ : Array Value) (s : State) (o : Outcome) (t : State) : Prop := o = .returned (some (.int 1)) ∧ Framed s o t [] 600000 7302250
def lw_Z (below : List Frame) (a : Array Value) (s : State) : State → Prop := fun t => ∃ o, t.status = .running ∧ Ended t below o ∧ lw_Q a s o t
/-- the law's own end, with 1 on the stack, nothing written that was there before, its room as the claim has it -/
theorem lw_ret {p : Program} {l : Launch} {e : Env} {s : State} {m : MethodId} {below : List Frame} {meth : Method} {c : Code} {b : Nat} (hx : p.tables.exec = Jvm.exec) (hb : c.code = code) (hr : meth.sig.returnType = ret) (hlocks : meth.locks = false) {pc : Nat} {H : Heap} {ls : Array Slot} (hdg : decode code pc = .ok (.ireturn, 1)) : W p l e room_1 s m #[Value.ref b] below meth c H [] 600000 7302250 (lw_Z below #[Value.ref b] s) (F0 m pc ls [.int 1]) := by
  intro T hT X
  obtain ⟨fs, hret, hrun, hended, hW, hframe⟩ := X.leave (v := some (.int 1)) (hlocks := hlocks) (fun h => by rw [hr] at h; cases h)
  have hmeth' : T.vm.method? m = some meth := X.method'
  refine ⟨T.setFrames fs, ?_, .returned (some (.int 1)), hrun, hended, rfl, ⟨_, rfl⟩, hW, hframe⟩
  jvm_step X.here [X.here.top, hx, hb, hdg, hmeth', hr, ret, narrow_b1]
  (try refine ⟨rfl, ?_⟩); (try refine ⟨rfl, ?_⟩)
  first | (intro acts; rw [hret _ acts rfl rfl rfl]) | rw [hret _ _ rfl rfl rfl]
  exact Steps.refl _
/-- what holds at the law's entry: the machine, the code, the tables' words (any of lw_tbl by 'hts w (by decide +kernel)'), the script of L ints xs at the cell b, what the Statement gives of the start (any of its parts by flat_of_before) -/
def lw_At (p : Program) (s : State) (m : MethodId) (meth : Method) (c : Code) (b L : Nat) (xs : Nat → Int32) : Prop :=
  p.tables.exec = Jvm.exec ∧ c.code = code ∧ meth.sig.returnType = ret ∧ c.maxLocals = 4 ∧ s.vm.findClass R_law = some m.cls ∧ (∀ w ∈ lw_tbl, w.before #[Value.ref b] s = true) ∧ va_X b L xs s s.heap ∧ b < s.heap.size ∧ meth.locks = false ∧ (Jvm.Cond.and given_1 narrow_1).before #[Value.ref b] s = true
theorem ax_Ok_nm {prog : List ax_MI} {own nm nm' : String} {cc : ByteArray} {pc len : Nat} {i : Instr} {pe : ax_PE} (hn : nm ≠ "<init>") (h : ax_Ok prog own nm cc pc i len pe) : ax_Ok prog own nm' cc pc i len pe := by
  obtain ⟨h1, h2, h3⟩ := h
  refine ⟨h1, h2, ?_⟩
  cases i with
  | putfield idx =>
    obtain ⟨C, T, N, a1, a2, a3⟩ := h3
    rcases a3 with a3 | ⟨-, -, a3, -⟩
    · exact ⟨C, T, N, a1, a2, Or.inl a3⟩
    · exact absurd a3 hn
  | _ => exact h3
/-! ===== the law's body, step by step ===== -/
/-- what stands while the law runs: the machine, its script of L ints xs -/
def lx_C (G : ax_T) (p : Program) (s : State) (m : MethodId) (meth : Method) (c : Code) (b L : Nat) (xs : Nat → Int32) : Prop := ax_M G p s m #[Value.ref b] meth c "LetterSumsLaw" code 4 ∧ meth.sig.returnType = ret ∧ G.2.1 = s.heap.size ∧ G.2.2.1 = s.heap ∧ G.2.2.2.2.1 2 = b ∧ b < s.heap.size ∧ va_X b L xs s s.heap
/-- from here the law answers 1 -/
def lx_W (G : ax_T) (p : Program) (l : Launch) (e : Env) (s : State) (m : MethodId) (below : List Frame) (meth : Method) (c : Code) (b : Nat) (F : ax_F) : Prop := ax_WF G p l e room_1 s m #[Value.ref b] below meth c (lw_Z below #[Value.ref b] s) 4 F
section LX
variable {G : ax_T} {p : Program} {l : Launch} {e : Env} {s : State} {m : MethodId} {below : List Frame} {meth : Method} {c : Code} {b L : Nat} {xs : Nat → Int32}
variable {pc tg len : Nat} {lv : List (Nat × Value)} {st : List Value} {h : ax_H} {n cs ss : Nat} {en : ax_EN} {x y : Int32} {cc : ClassFile.Cond} {off : Int} {pe : ax_PE} {hs : List Nat}
theorem lx_ok (ha : ax_at lw_tab pc = some en) : ax_Ok mt_prog "LetterSumsLaw" meth.name code pc en.2.1 en.2.2.1 en.2.2.2.1 := by
  obtain ⟨hpc, ch, hch, hen⟩ := ax_at_ok ha
  have := lw_tab_ok ch hch en hen
  rw [hpc] at this
  exact ax_Ok_nm (by decide) this
theorem lx_step (C : lx_C G p s m meth c b L xs) (ha : ax_at lw_tab pc = some en) {F : ax_F} (hst : ax_step (ab_io G) 4 en.2.1 en.2.2.2.1 pc lv st h n cs ss = some F) (h1 : F.2.2.2.2.2.1 ≤ 600000) (h2 : F.2.2.2.2.2.2 ≤ 7302250) (hW : lx_W G p l e s m below meth c b F) : lx_W G p l e s m below meth c b (pc, lv, st, h, n, cs, ss) :=
  ax_step_ok C.1 rfl (iv := ab_io G) (fun u => ⟨Int.le_refl _, Int.le_refl _⟩) (lx_ok ha) hst ⟨h1, h2, by decide, by decide⟩ hW
theorem lx_brt (C : lx_C G p s m meth c b L xs) (ha : ax_at lw_tab pc = some (pc, .if_icmp cc off, len, pe, hs)) (ht : ax_to pc off = some tg) (hc : ax_holds cc x y) (h1 : cs ≤ 600000) (h2 : ss ≤ 7302250) (hW : lx_W G p l e s m below meth c b (tg, lv, st, h, n, cs, ss)) : lx_W G p l e s m below meth c b (pc, lv, .int y :: .int x :: st, h, n, cs, ss) :=
  lx_step C ha (cx_brt (G := G) ht hc cs ss) h1 h2 hW
theorem lx_brf (C : lx_C G p s m meth c b L xs) (ha : ax_at lw_tab pc = some (pc, .if_icmp cc off, len, pe, hs)) (ht : ax_to pc off = some tg) (hc : ¬ ax_holds cc x y) (h1 : cs ≤ 600000) (h2 : ss ≤ 7302250) (hW : lx_W G p l e s m below meth c b (pc + 3, lv, st, h, n, cs, ss)) : lx_W G p l e s m below meth c b (pc, lv, .int y :: .int x :: st, h, n, cs, ss) :=
  lx_step C ha (cx_brf (G := G) ht hc cs ss) h1 h2 hW
theorem lx_zt (C : lx_C G p s m meth c b L xs) (ha : ax_at lw_tab pc = some (pc, .ifCond cc off, len, pe, hs)) (ht : ax_to pc off = some tg) (hc : ax_holds cc x 0) (h1 : cs ≤ 600000) (h2 : ss ≤ 7302250) (hW : lx_W G p l e s m below meth c b (tg, lv, st, h, n, cs, ss)) : lx_W G p l e s m below meth c b (pc, lv, .int x :: st, h, n, cs, ss) :=
  lx_step C ha (cx_brt (G := G) ht hc cs ss) h1 h2 hW
theorem lx_zf (C : lx_C G p s m meth c b L xs) (ha : ax_at lw_tab pc = some (pc, .ifCond cc off, len, pe, hs)) (ht : ax_to pc off = some tg) (hc : ¬ ax_holds cc x 0) (h1 : cs ≤ 600000) (h2 : ss ≤ 7302250) (hW : lx_W G p l e s m below meth c b (pc + 3, lv, st, h, n, cs, ss)) : lx_W G p l e s m below meth c b (pc, lv, .int x :: st, h, n, cs, ss) :=
  lx_step C ha (cx_brf (G := G) ht hc cs ss) h1 h2 hW
theorem lx_len (C : lx_C G p s m meth c b L xs) (hd : decode code pc = .ok (.arraylength, 1)) (hW : lx_W G p l e s m below meth c b (pc + 1, lv, .int (Int32.ofNat L) :: st, h, n, cs, ss)) : lx_W G p l e s m below meth c b (pc, lv, .retAddr 2 :: st, h, n, cs, ss) := by
  obtain ⟨M, -, hB, hH, hso, hbl, hX⟩ := C
  intro ls H locs hl hR hL
  have hv : ax_v G (.retAddr 2) = .ref b := by show Value.ref _ = _; rw [hso]
  simp only [List.map_cons, hv]
  exact ax_scr_len M.1 M.2.1 (ax_scr (by rw [hH]; exact hX) (by rw [hB]; exact hbl) hR) hd (hW ls H locs hl hR hL)
theorem lx_at (C : lx_C G p s m meth c b L xs) {i : Int32} (h0 : 0 ≤ i.toInt) (hi : i.toInt < L) (hd : decode code pc = .ok (.iaload, 1)) (hW : lx_W G p l e s m below meth c b (pc + 1, lv, .int (xs i.toNatClampNeg) :: st, h, n, cs, ss)) : lx_W G p l e s m below meth c b (pc, lv, .int i :: .retAddr 2 :: st, h, n, cs, ss) := by
  obtain ⟨M, -, hB, hH, hso, hbl, hX⟩ := C
  intro ls H locs hl hR hL
  have hv : ax_v G (.retAddr 2) = .ref b := by show Value.ref _ = _; rw [hso]
  have hin : vp_in i L := by
    rintro (q | q)
    · have := cx_lt.mp q
      have h00 : (0 : Int32).toInt = 0 := rfl
      omega
    · have : L ≤ i.toInt.toNat := q
      omega
  simp only [List.map_cons, hv]
  exact ax_scr_at M.1 M.2.1 (ax_scr (by rw [hH]; exact hX) (by rw [hB]; exact hbl) hR) hin hd (hW ls H locs hl hR hL)
theorem lx_pop2 (C : lx_C G p s m meth c b L xs) {z : Int64} (hd : decode code pc = .ok (.pop2, 1)) (hW : lx_W G p l e s m below meth c b (pc + 1, lv, st, h, n, cs, ss)) : lx_W G p l e s m below meth c b (pc, lv, .long z :: st, h, n, cs, ss) := fun ls H locs hl hR hL => lv_pop2_2 C.1.1 C.1.2.1 hd rfl (hW ls H locs hl hR hL)
theorem lx_lshl (C : lx_C G p s m meth c b L xs) {z : Int64} (hd : decode code pc = .ok (.lshl, 1)) (hW : lx_W G p l e s m below meth c b (pc + 1, lv, .long (z <<< (y.toInt64 &&& 63)) :: st, h, n, cs, ss)) : lx_W G p l e s m below meth c b (pc, lv, .int y :: .long z :: st, h, n, cs, ss) := fun ls H locs hl hR hL => lv_lshl C.1.1 C.1.2.1 hd rfl (hW ls H locs hl hR hL)
theorem lx_lor (C : lx_C G p s m meth c b L xs) {z w : Int64} (hd : decode code pc = .ok (.lor, 1)) (hW : lx_W G p l e s m below meth c b (pc + 1, lv, .long (z ||| w) :: st, h, n, cs, ss)) : lx_W G p l e s m below meth c b (pc, lv, .long w :: .long z :: st, h, n, cs, ss) := fun ls H locs hl hR hL => lv_lor C.1.1 C.1.2.1 hd (hW ls H locs hl hR hL)
/-- a call, over a table of methods that the law's table keeps -/
theorem lx_call (C : lx_C G p s m meth c b L xs) {prog : List ax_MI} (hprog : ax_Prog prog) (hok : ax_Ok prog "LetterSumsLaw" meth.name code pc en.2.1 en.2.2.1 en.2.2.2.1) {q : ax_MI × List Value × List Value} (hq : ax_inv prog en.2.1 en.2.2.2.1 st h = some q) {o1 : ax_O} (hM : ab_M l G 40 q.1 q.2.1 h n o1) (h1 : cs + q.1.2.2.2.2.2.2.1 ≤ 600000) (h2 : ss + q.1.2.2.2.2.2.2.2.1 ≤ 7302250)
    (hW : lx_W G p l e s m below meth c b (pc + 3, lv, o1.1.toList ++ q.2.2, o1.2.1, o1.2.2, cs + q.1.2.2.2.2.2.2.1, ss + q.1.2.2.2.2.2.2.2.1)) : lx_W G p l e s m below meth c b (pc, lv, st, h, n, cs, ss) :=
  ax_inv_ok hprog C.1 hok hq (fun _ => hM.1) (by decide) (by decide) h1 h2 hW hM.2
theorem lx_end (C : lx_C G p s m meth c b L xs) (h1 : cs ≤ 600000) (h2 : ss ≤ 7302250) (d2 : decode code pc = .ok (.ireturn, 1)) : lx_W G p l e s m below meth c b (pc, lv, [.int 1], h, n, cs, ss) := by
  obtain ⟨M, hr, hB, hH, hso, hbl, hX⟩ := C
  intro ls H locs hl hR hL
  refine va_forget (fun q hq => by rw [← hB]; exact hL q hq) ?_
  refine W.widen h1 h2 ?_
  exact lw_ret M.1 M.2.1 hr M.2.2.2.2.2.1 d2
end LX

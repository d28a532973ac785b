/-! ===== signOf: the letter's place in a String, by hand, over the real values ===== -/
set_option maxRecDepth 100000 in
theorem rx_in {w : Cond} (h : lw_tbl.contains w = true) (hg : goodWord w = true) : w ∈ ax_G := ax_G_in (by simpa using h) hg
def rx_F (G : ax_T) (sa va : Nat) (U : State) : Prop := va_Z "java/lang/String" "COMPACT_STRINGS" "Z" (.int 1) (fun q => G.2.1 ≤ q) U G.2.2.1 ∧ va_O "java/lang/String" sa (fun q => G.2.1 ≤ q) U G.2.2.1 ∧ va_OF "java/lang/String" "coder" "B" (.int 0) sa (fun q => G.2.1 ≤ q) U G.2.2.1 ∧ va_OF "java/lang/String" "value" "[B" (.ref va) sa (fun q => G.2.1 ≤ q) U G.2.2.1 ∧ va_T .byte va 14 (fun j => .int (sx_L.getD j 0)) (fun q => G.2.1 ≤ q) U G.2.2.1
set_option maxRecDepth 100000 in
theorem rx_F.warm {G : ax_T} {sa va : Nat} {s U : State} (hW : s.WarmedH U.vm) (h : rx_F G sa va s) : rx_F G sa va U := by
  obtain ⟨h2, h3, h4, h5, h6⟩ := h
  exact ⟨h2.moved hW.alike, h3.moved hW.alike, h4.moved hW.alike, h5.moved hW.alike, h6.moved hW.alike⟩
set_option maxRecDepth 100000 in
theorem rx_F.same {G : ax_T} {sa va : Nat} {s U : State} (hv : s.vm = U.vm) (h : rx_F G sa va s) : rx_F G sa va U := by
  obtain ⟨h2, h3, h4, h5, h6⟩ := h
  have ha : s.vm.Alike U.vm := by rw [hv]; exact Vm.Alike.refl _
  exact ⟨h2.moved ha, h3.moved ha, h4.moved ha, h5.moved ha, h6.moved ha⟩
def rx_P (G : ax_T) (sa va : Nat) (as : List Value) (g : Nat → Option ax_C) (n : Nat) : Array Value → State → Prop := fun a U => a = as.toArray ∧ (ax_X G U ∧ rx_F G sa va U) ∧ ax_R G g n U.heap
def rx_Q (G : ax_T) (r : Value) (g : Nat → Option ax_C) (n : Nat) : Array Value → State → Outcome → State → Prop := fun _ _ o t => o = .returned (some r) ∧ ax_R G g n t.heap
def rx_Met (l : Launch) (G : ax_T) (sa va : Nat) (y : MethodName) (bytes : ByteArray) (maxL : Nat) (ret : Option FieldType) (d : Nat) (as : List Value) (g : Nat → Option ax_C) (n : Nat) (r : Value) : Prop :=
  Met l y (Cond.code y bytes maxL ret :: ax_G) (ax_rm d 0 0) (rx_P G sa va as g n) (rx_Q G r g n) 0 0 (fun q => G.2.1 ≤ q)
set_option maxRecDepth 100000 in
theorem rx_blind (G : ax_T) (sa va : Nat) (as : List Value) (g : Nat → Option ax_C) (n : Nat) : FrameBlind (rx_P G sa va as g n) := fun a U f mk h => ⟨h.1, ⟨ax_X.same (s := U) (U := U.calling f mk a) rfl h.2.1.1, rx_F.same (s := U) (U := U.calling f mk a) rfl h.2.1.2⟩, h.2.2⟩
def rx_M (G : ax_T) (sa va : Nat) (p : Program) (s : State) (m : MethodId) (args : Array Value) (meth : Method) (c : Code) (own : String) (cc : ByteArray) (nL : Nat) : Prop := ax_M G p s m args meth c own cc nL ∧ rx_F G sa va s
def rx_W (G : ax_T) (p : Program) (l : Launch) (e : Env) (R : Room) (s : State) (m : MethodId) (args : Array Value) (below : List Frame) (meth : Method) (c : Code) (Q : State → Prop) (nL : Nat) (pc : Nat) (lv : List (Nat × Value)) (st : List Value) (g : Nat → Option ax_C) (n : Nat) : Prop :=
  ∀ (ls : Array Slot) (H : Heap) (locs : List Loc), lv_has ls nL lv → ax_R G g n H → (∀ q ∈ locs, G.2.1 ≤ q.base) → W p l e R s m args below meth c H locs 0 0 Q (F0 m pc ls st)
section RX
variable {G : ax_T} {sa va : Nat} {p : Program} {l : Launch} {e : Env} {R : Room} {s : State} {m : MethodId} {args : Array Value} {below : List Frame} {meth : Method} {c : Code} {Q : State → Prop} {own : String} {cc : ByteArray} {nL : Nat}
variable {pc : Nat} {lv : List (Nat × Value)} {st rest : List Value} {g : Nat → Option ax_C} {n d idx nA : Nat} {y : MethodName} {bytes : ByteArray} {maxL : Nat} {ret : Option FieldType} {as : List Value} {r : Value} {H : Heap} {ls : Array Slot} {locs : List Loc}
set_option maxRecDepth 100000 in
theorem rx_met (hp : plainName y.cls = true) (hlen : (lg_sl as).length ≤ maxL)
    (body : ∀ (p : Program) (e : Env) (s : State) (m : MethodId) (args : Array Value) (below : List Frame) (meth : Method) (c : Code), rx_M G sa va p s m args meth c y.cls bytes maxL → meth.sig.returnType = ret → rx_W G p l e (ax_rm d 0 0) s m args below meth c (MQ below (rx_Q G r g n) args s 0 0 (fun q => G.2.1 ≤ q)) maxL 0 (lv_args 0 as) [] g n) : rx_Met l G sa va y bytes maxL ret d as g n r := by
  unfold rx_Met
  refine Met.ofW (cc := bytes) (maxL := maxL) (ret := ret) hp rfl ?_
  intro p e s m args below meth c s₁ B hml hv
  obtain ⟨rfl, ⟨hX, hF⟩, hRel⟩ := hv
  have hts := atoms_spec (ws := Cond.code y bytes maxL ret :: ax_G) B.pre
  have hown : s.vm.findClass y.cls = some m.cls := findClass_of_methodNamed B.named
  have M : ax_M G p s m as.toArray meth c y.cls bytes maxL := ⟨B.exec, B.bytes, hml, hown, fun w hw => hts w (List.mem_cons_of_mem _ hw), B.notSynchronized, hX⟩
  rw [lg_entry_eq]
  exact body p e s m as.toArray below meth c ⟨M, hF⟩ B.returns _ s.heap [] (lv_entry as hlen) hRel (fun q hq => by cases hq)
set_option maxRecDepth 100000 in
theorem rx_after {st0 : List Value} {a : Array Value} (hr : va_Run p l e R s m args below meth c H locs 0 0 0 0 (F0 m pc ls st0) rest (rx_Q G r g n a) (fun q => G.2.1 ≤ q)) (hL : ∀ q ∈ locs, G.2.1 ≤ q.base)
    (kk : ∀ (H1 : Heap) (locs1 : List Loc), ax_R G g n H1 → (∀ q ∈ locs1, G.2.1 ≤ q.base) → W p l e R s m args below meth c H1 locs1 0 0 Q (F0 m (pc + 3) ls (r :: rest))) : W p l e R s m args below meth c H locs 0 0 Q (F0 m pc ls st0) := by
  intro T hT X
  obtain ⟨v, st₀, t, T', L, h0, X', hL', e1, e2, ⟨ho, hR'⟩, st1⟩ := hr T hT X
  have hv : v = some r := Outcome.returned.inj ho
  subst hv
  obtain ⟨t2, a1, b1⟩ := kk T'.heap (locs ++ L) (by rw [e1]; exact hR') (fun q hq => by
    rcases List.mem_append.mp hq with h | h
    · exact hL q h
    · exact hL' q h) T' rfl X'
  exact ⟨t2, st1 t2 a1, b1⟩
set_option maxRecDepth 100000 in
theorem rx_callS (M : rx_M G sa va p s m args meth c own cc nL) (hM : rx_Met l G sa va y bytes maxL ret d as g n r) (hy : ax_callee y bytes maxL ret nA) (hst : Cond.static y ∈ ax_G)
    (hw : Cond.methodLink own idx y ∈ ax_G) (hn : as.length = nA) (hf : d + 1 ≤ R.frames) (hlo : 40 * (d + 1) ≤ R.locals) (hsum : (rest.map fun v => v.category).sum ≤ 8) (hstk : st = as.reverse ++ rest)
    (hd : decode cc pc = .ok (.invokestatic idx, 3)) (kk : rx_W G p l e R s m args below meth c Q nL (pc + 3) lv (r :: rest) g n) : rx_W G p l e R s m args below meth c Q nL pc lv st g n := by
  intro ls H locs hl hR hL
  obtain ⟨⟨hx, hb, hml, hown, hts, -, hX⟩, hF⟩ := M
  obtain ⟨hcw, hin, hyy, hmx⟩ := hy
  have hp : PreS s H (rx_P G sa va as g n) as := ⟨rx_blind G sa va as g n, fun U hU hW => ⟨rfl, ⟨hX.warm hW, hF.warm hW⟩, by rw [hU]; exact hR⟩⟩
  have hroom : (ax_rm d 0 0).frames + 1 ≤ R.frames ∧ 8 + (maxL + 11) + (ax_rm d 0 0).locals ≤ R.locals := ⟨hf, by show 8 + (maxL + 11) + 40 * d ≤ R.locals; omega⟩
  have hW8 : 2 * (F0 m pc ls st).monitorRoom + (rest.map fun v => v.category).sum ≤ 8 := by show 2 * 0 + _ ≤ 8; omega
  exact rx_after (va_runS ⟨hx, hb, hml, hown, hts⟩ hM ⟨callB_of nA hts (ax_good hcw) rfl rfl rfl (hts _ hin) (hts _ hw) hyy hroom, hts _ hst⟩ hp rfl hn (hl.1) hstk hW8 hd ⟨Nat.zero_le _, Nat.zero_le _⟩) hL fun H1 locs1 hR1 hL1 => kk ls H1 locs1 hl hR1 hL1
set_option maxRecDepth 100000 in
theorem rx_callV (M : rx_M G sa va p s m args meth c own cc nL) (hM : rx_Met l G sa va y bytes maxL ret d (.ref sa :: as) g n r) (hy : ax_callee y bytes maxL ret nA) (hyc : y.cls = "java/lang/String") (hst : Cond.instanceMethod y ∈ ax_G) (hse : Cond.selects "java/lang/String" y y ∈ ax_G)
    (hw : Cond.methodLink own idx y ∈ ax_G) (hn : as.length = nA) (hf : d + 1 ≤ R.frames) (hlo : 40 * (d + 1) ≤ R.locals) (hsum : (rest.map fun v => v.category).sum ≤ 8) (hstk : st = as.reverse ++ .ref sa :: rest)
    (hd : decode cc pc = .ok (.invokevirtual idx, 3)) (kk : rx_W G p l e R s m args below meth c Q nL (pc + 3) lv (r :: rest) g n) : rx_W G p l e R s m args below meth c Q nL pc lv st g n := by
  intro ls H locs hl hR hL
  obtain ⟨⟨hx, hb, hml, hown, hts, -, hX⟩, hF⟩ := M
  obtain ⟨hcw, hin, hyy, hmx⟩ := hy
  obtain ⟨cell, c1, c2, c3, c4⟩ := hF.2.1
  have c1' : H[sa]? = some cell := by rw [hR.2.2 sa (Nat.not_le.mp c4)]; exact c1
  have hp : PreV s H "java/lang/String" sa (rx_P G sa va (.ref sa :: as) g n) as := ⟨rx_blind G sa va _ g n, ⟨cell, c1', c2, c3⟩, fun U hU hW => ⟨rfl, ⟨hX.warm hW, hF.warm hW⟩, by rw [hU]; exact hR⟩⟩
  have hroom : (ax_rm d 0 0).frames + 1 ≤ R.frames ∧ 8 + (maxL + 11) + (ax_rm d 0 0).locals ≤ R.locals := ⟨hf, by show 8 + (maxL + 11) + 40 * d ≤ R.locals; omega⟩
  have hW8 : 2 * (F0 m pc ls st).monitorRoom + (rest.map fun v => v.category).sum ≤ 8 := by show 2 * 0 + _ ≤ 8; omega
  exact rx_after (va_runV ⟨hx, hb, hml, hown, hts⟩ hM ⟨callB_of nA hts (ax_good hcw) rfl rfl rfl (hts _ hin) (hts _ hw) hyy hroom, hts _ hst, hts _ hse⟩ hp rfl hn (hl.1) hstk hW8 hd ⟨Nat.zero_le _, Nat.zero_le _⟩) hL fun H1 locs1 hR1 hL1 => kk ls H1 locs1 hl hR1 hL1
set_option maxRecDepth 100000 in
theorem rx_gets (M : rx_M G sa va p s m args meth c own cc nL) (hR : ax_R G g n H) (hw : Cond.fieldLink own idx "java/lang/String" "COMPACT_STRINGS" "Z" ∈ ax_G) (hd : decode cc pc = .ok (.getstatic idx, 3))
    (kk : W p l e R s m args below meth c H locs 0 0 Q (F0 m (pc + 3) ls (.int 1 :: rest))) : W p l e R s m args below meth c H locs 0 0 Q (F0 m pc ls rest) := by
  obtain ⟨⟨hx, hb, hml, hown, hts, -, hX⟩, hF⟩ := M
  obtain ⟨cf, kf, fi, f, a, cell, h1, h2, h3, h4, h5, h6, h7, h8⟩ := hF.1
  have h5' : H[a]? = some cell := by rw [hR.2.2 a (Nat.not_le.mp h8)]; exact h5
  exact W.gets hx hb hown (hts _ hw) h1 h2 h3 h4 h5' (fun e => by rw [e] at h6; cases h6) h7 rfl hd kk
set_option maxRecDepth 100000 in
theorem rx_getc (M : rx_M G sa va p s m args meth c own cc nL) (hR : ax_R G g n H) (hw : Cond.fieldLink own idx "java/lang/String" "coder" "B" ∈ ax_G) (hd : decode cc pc = .ok (.getfield idx, 3))
    (kk : W p l e R s m args below meth c H locs 0 0 Q (F0 m (pc + 3) ls (.int 0 :: rest))) : W p l e R s m args below meth c H locs 0 0 Q (F0 m pc ls (.ref sa :: rest)) := by
  obtain ⟨⟨hx, hb, hml, hown, hts, -, hX⟩, hF⟩ := M
  obtain ⟨cf, kf, fi, f, cell, h1, h2, h3, h4, h5, h6⟩ := hF.2.2.1
  have h3' : H[sa]? = some cell := by rw [hR.2.2 sa (Nat.not_le.mp h6)]; exact h3
  exact W.getf hx hb hown (hts _ hw) h1 h2 h3' h4 h5 rfl rfl hd kk
set_option maxRecDepth 100000 in
theorem rx_getv (M : rx_M G sa va p s m args meth c own cc nL) (hR : ax_R G g n H) (hw : Cond.fieldLink own idx "java/lang/String" "value" "[B" ∈ ax_G) (hd : decode cc pc = .ok (.getfield idx, 3))
    (kk : W p l e R s m args below meth c H locs 0 0 Q (F0 m (pc + 3) ls (.ref va :: rest))) : W p l e R s m args below meth c H locs 0 0 Q (F0 m pc ls (.ref sa :: rest)) := by
  obtain ⟨⟨hx, hb, hml, hown, hts, -, hX⟩, hF⟩ := M
  obtain ⟨cf, kf, fi, f, cell, h1, h2, h3, h4, h5, h6⟩ := hF.2.2.2.1
  have h3' : H[sa]? = some cell := by rw [hR.2.2 sa (Nat.not_le.mp h6)]; exact h3
  exact W.getf hx hb hown (hts _ hw) h1 h2 h3' h4 h5 rfl rfl hd kk
set_option maxRecDepth 100000 in
theorem rx_alen (M : rx_M G sa va p s m args meth c own cc nL) (hR : ax_R G g n H) (hd : decode cc pc = .ok (.arraylength, 1))
    (kk : W p l e R s m args below meth c H locs 0 0 Q (F0 m (pc + 1) ls (.int 14 :: rest))) : W p l e R s m args below meth c H locs 0 0 Q (F0 m pc ls (.ref va :: rest)) := by
  obtain ⟨⟨hx, hb, hml, hown, hts, -, hX⟩, hF⟩ := M
  obtain ⟨cell, h1, h2, h3, h4, h5, h6, h7⟩ := hF.2.2.2.2
  have h1' : H[va]? = some cell := by rw [hR.2.2 va (Nat.not_le.mp h7)]; exact h1
  exact W.alen (n := 14) hx hb h1' h2 (h5.trans (by decide)) rfl rfl hd kk
set_option maxRecDepth 100000 in
theorem rx_bald (M : rx_M G sa va p s m args meth c own cc nL) (hR : ax_R G g n H) {i : Int32} {j : Nat} (hj : j < 14) (h0 : ¬ i < 0) (hi : i.toNatClampNeg = j) (hd : decode cc pc = .ok (.baload, 1))
    (kk : W p l e R s m args below meth c H locs 0 0 Q (F0 m (pc + 1) ls (.int (sx_L.getD j 0) :: rest))) : W p l e R s m args below meth c H locs 0 0 Q (F0 m pc ls (.int i :: .ref va :: rest)) := by
  obtain ⟨⟨hx, hb, hml, hown, hts, -, hX⟩, hF⟩ := M
  obtain ⟨cell, h1, h2, h3, h4, h5, h6, h7⟩ := hF.2.2.2.2
  have h1' : H[va]? = some cell := by rw [hR.2.2 va (Nat.not_le.mp h7)]; exact h1
  subst hi
  exact W.bald hx hb h1' h2 h3 (fun q => q.elim h0 (fun q => by omega)) (h6 _ hj) rfl rfl hd kk
set_option maxRecDepth 100000 in
theorem rx_coder : rx_Met l G sa va ⟨"java/lang/String", "coder", "()B"⟩ prog_16_method_152_code 1 (some .byte) d [.ref sa] g n (.int 0) := by
  refine rx_met (by decide +kernel) (Nat.le_of_ble_eq_true rfl) fun p e s m args below meth c M hrt ls H locs hl hR hL => ?_
  obtain ⟨⟨hx, hb, hml, hown, hts, hlk, hX⟩, hF⟩ := id M
  refine rx_gets M hR (rx_in (by decide +kernel) (by decide +kernel)) (idx := 38) (by decide +kernel) ?_
  refine lv_if_eq hx hb (off := 10) (tgt := 13) (by decide +kernel) rfl (fun h => absurd h (by decide)) fun _ => ?_
  refine lv_aload_n (k := 0) hx hb (by decide +kernel) rfl (lv_at hl 0 rfl) ?_
  refine rx_getc M hR (rx_in (by decide +kernel) (by decide +kernel)) (idx := 15) (by decide +kernel) ?_
  refine lv_goto (off := 4) (tgt := 14) hx hb (by decide +kernel) rfl ?_
  exact W.zret hx hb hrt (by decide) (fun t ht hW => ⟨rfl, by rw [ht]; exact hR⟩) hL (by decide +kernel) hlk
set_option maxRecDepth 100000 in
theorem rx_isLatin : rx_Met l G sa va ⟨"java/lang/String", "isLatin1", "()Z"⟩ prog_16_method_154_code 1 (some .boolean) d [.ref sa] g n (.int 1) := by
  refine rx_met (by decide +kernel) (Nat.le_of_ble_eq_true rfl) fun p e s m args below meth c M hrt ls H locs hl hR hL => ?_
  obtain ⟨⟨hx, hb, hml, hown, hts, hlk, hX⟩, hF⟩ := id M
  refine rx_gets M hR (rx_in (by decide +kernel) (by decide +kernel)) (idx := 38) (by decide +kernel) ?_
  refine lv_if_eq hx hb (off := 14) (tgt := 17) (by decide +kernel) rfl (fun h => absurd h (by decide)) fun _ => ?_
  refine lv_aload_n (k := 0) hx hb (by decide +kernel) rfl (lv_at hl 0 rfl) ?_
  refine rx_getc M hR (rx_in (by decide +kernel) (by decide +kernel)) (idx := 15) (by decide +kernel) ?_
  refine lv_if_ne hx hb (off := 7) (tgt := 17) (by decide +kernel) rfl (fun h => absurd rfl h) fun _ => ?_
  refine lv_iconst (n := 1) hx hb (by decide +kernel) rfl ?_
  refine lv_goto (off := 4) (tgt := 18) hx hb (by decide +kernel) rfl ?_
  exact W.zret hx hb hrt (by decide) (fun t ht hW => ⟨rfl, by rw [ht]; exact hR⟩) hL (by decide +kernel) hlk
set_option maxRecDepth 100000 in
theorem rx_length (hd : 1 ≤ d) : rx_Met l G sa va ⟨"java/lang/String", "length", "()I"⟩ prog_16_method_54_code 1 (some .int) d [.ref sa] g n (.int 14) := by
  refine rx_met (by decide +kernel) (Nat.le_of_ble_eq_true rfl) fun p e s m args below meth c M hrt ls H locs hl hR hL => ?_
  obtain ⟨⟨hx, hb, hml, hown, hts, hlk, hX⟩, hF⟩ := id M
  refine lv_aload_n (k := 0) hx hb (by decide +kernel) rfl (lv_at hl 0 rfl) ?_
  refine rx_getv M hR (rx_in (by decide +kernel) (by decide +kernel)) (idx := 9) (by decide +kernel) ?_
  refine rx_alen M hR (by decide +kernel) ?_
  refine lv_aload_n (k := 0) hx hb (by decide +kernel) rfl (lv_at hl 0 rfl) ?_
  refine rx_callV M (rx_coder (d := d - 1)) (nA := 0) ⟨rx_in (by decide +kernel) (by decide +kernel), rx_in (by decide +kernel) (by decide +kernel), ⟨by decide, by decide, by decide +kernel⟩, by decide⟩ rfl (rx_in (by decide +kernel) (by decide +kernel)) (rx_in (by decide +kernel) (by decide +kernel)) (idx := 335) (rx_in (by decide +kernel) (by decide +kernel)) rfl (by show d - 1 + 1 ≤ d; omega) (by show 40 * (d - 1 + 1) ≤ 40 * d; omega) (rest := [.int 14]) (by decide) rfl (by decide +kernel) ?_ ls H locs hl hR hL
  intro ls H locs hl hR hL
  refine lv_ishr hx hb (by decide +kernel) ?_
  exact W.iret (v := 14) hx hb hrt (fun t ht hW => ⟨rfl, by rw [ht]; exact hR⟩) hL (by decide +kernel) hlk
set_option maxRecDepth 100000 in
theorem rx_can {x : Int32} (h1 : ¬ x < 0) (h2 : ¬ 255 < x) : rx_Met l G sa va ⟨"java/lang/StringLatin1", "canEncode", "(I)Z"⟩ prog_17_method_4_code 1 (some .boolean) d [.int x] g n (.int 1) := by
  refine rx_met (by decide +kernel) (Nat.le_of_ble_eq_true rfl) fun p e s m args below meth c M hrt ls H locs hl hR hL => ?_
  obtain ⟨⟨hx, hb, hml, hown, hts, hlk, hX⟩, hF⟩ := id M
  refine lv_iload_n (k := 0) hx hb (by decide +kernel) rfl (lv_at hl 0 rfl) ?_
  refine lv_if_lt hx hb (off := 14) (tgt := 15) (by decide +kernel) rfl (fun h => absurd h h1) fun _ => ?_
  refine lv_iload_n (k := 0) hx hb (by decide +kernel) rfl (lv_at hl 0 rfl) ?_
  refine lv_sipush (n := 255) (v := 255) hx hb (by decide +kernel) (by decide) ?_
  refine lv_icmp_gt hx hb (off := 7) (tgt := 15) (by decide +kernel) rfl (fun h => absurd h h2) fun _ => ?_
  refine lv_iconst (n := 1) hx hb (by decide +kernel) rfl ?_
  refine lv_goto (off := 4) (tgt := 16) hx hb (by decide +kernel) rfl ?_
  exact W.zret hx hb hrt (by decide) (fun t ht hW => ⟨rfl, by rw [ht]; exact hR⟩) hL (by decide +kernel) hlk
def rx_ix (b : Int32) : Nat → Nat → Int32
  | 0, _ => -1
  | f + 1, j => if sx_L.getD j 0 = b then Int32.ofNat j else rx_ix b f (j + 1)
set_option maxRecDepth 100000 in
theorem rx_n1 : ∀ j : Nat, j < 14 → ¬ (14 : Int32) ≤ Int32.ofNat j := by decide +kernel
set_option maxRecDepth 100000 in
theorem rx_n2 : ∀ j : Nat, j < 14 → ¬ Int32.ofNat j < 0 := by decide +kernel
set_option maxRecDepth 100000 in
theorem rx_n3 : ∀ j : Nat, j < 14 → (Int32.ofNat j).toNatClampNeg = j := by decide +kernel
set_option maxRecDepth 100000 in
theorem rx_n4 : ∀ j : Nat, j < 14 → Int32.ofNat j + Int32.ofInt 1 = Int32.ofNat (j + 1) := by decide +kernel
set_option maxRecDepth 100000 in
theorem rx_loop {x b : Int32} {r' : Int32} (M : rx_M G sa va p s m args meth c "java/lang/StringLatin1" prog_17_method_23_code 6) (hrt : meth.sig.returnType = some .int) : ∀ (f j : Nat), j + f = 14 → rx_ix b f j = r' →
    rx_W G p l e R s m args below meth c (MQ below (rx_Q G (.int r') g n) args s 0 0 (fun q => G.2.1 ≤ q)) 6 7 [(5, .int (Int32.ofNat j)), (4, .int b), (0, .ref va), (1, .int x), (2, .int 0), (3, .int 14)] [] g n := by
  obtain ⟨⟨hx, hb, hml, hown, hts, hlk, hX⟩, hF⟩ := id M
  intro f
  induction f with
  | zero =>
    intro j hj hr ls H locs hl hR hL
    obtain rfl : j = 14 := by omega
    refine lv_iload hx hb (by decide +kernel) (lv_at hl 0 rfl) ?_
    refine lv_iload_n (k := 3) hx hb (by decide +kernel) rfl (lv_at hl 5 rfl) ?_
    refine lv_icmp_ge hx hb (off := 21) (tgt := 31) (by decide +kernel) rfl (fun _ => ?_) (fun h => absurd (by decide) h)
    refine lv_iconst (n := -1) (v := r') hx hb (by decide +kernel) (Eq.trans (by decide : Int32.ofInt (-1) = (-1 : Int32)) hr) ?_
    exact W.iret hx hb hrt (fun t ht hW => ⟨rfl, by rw [ht]; exact hR⟩) hL (by decide +kernel) hlk
  | succ f ih =>
    intro j hj hr ls H locs hl hR hL
    have hj' : j < 14 := by omega
    refine lv_iload hx hb (by decide +kernel) (lv_at hl 0 rfl) ?_
    refine lv_iload_n (k := 3) hx hb (by decide +kernel) rfl (lv_at hl 5 rfl) ?_
    refine lv_icmp_ge hx hb (off := 21) (tgt := 31) (by decide +kernel) rfl (fun h => absurd h (rx_n1 j hj')) (fun _ => ?_)
    refine lv_aload_n (k := 0) hx hb (by decide +kernel) rfl (lv_at hl 2 rfl) ?_
    refine lv_iload hx hb (by decide +kernel) (lv_at hl 0 rfl) ?_
    refine rx_bald M hR hj' (rx_n2 j hj') (rx_n3 j hj') (by decide +kernel) ?_
    refine lv_iload hx hb (by decide +kernel) (lv_at hl 1 rfl) ?_
    rw [rx_ix] at hr
    refine lv_icmp_ne hx hb (off := 6) (tgt := 25) (by decide +kernel) rfl (fun h => ?_) (fun h => ?_)
    · rw [if_neg h] at hr
      refine lv_iinc (k := 0) (n := 1) (nL := 6) hx hb (by decide +kernel) hl rfl (rx_n4 j hj') (by decide) rfl fun ls hl => ?_
      refine lv_goto (off := -21) (tgt := 7) hx hb (by decide +kernel) rfl ?_
      exact ih (j + 1) (by omega) hr ls H locs hl hR hL
    · rw [if_pos h] at hr
      refine lv_iload hx hb (by decide +kernel) (lv_at hl 0 rfl) ?_
      subst hr
      exact W.iret hx hb hrt (fun t ht hW => ⟨rfl, by rw [ht]; exact hR⟩) hL (by decide +kernel) hlk
set_option maxRecDepth 100000 in
theorem rx_ofChar {x b : Int32} (hxb : x.toInt8.toInt32 = b) : rx_Met l G sa va ⟨"java/lang/StringLatin1", "indexOfChar", "([BIII)I"⟩ prog_17_method_23_code 6 (some .int) d [.ref va, .int x, .int 0, .int 14] g n (.int (rx_ix b 14 0)) := by
  refine rx_met (by decide +kernel) (Nat.le_of_ble_eq_true rfl) fun p e s m args below meth c M hrt ls H locs hl hR hL => ?_
  obtain ⟨⟨hx, hb, hml, hown, hts, hlk, hX⟩, hF⟩ := id M
  refine lv_iload_n (k := 1) hx hb (by decide +kernel) rfl (lv_at hl 1 rfl) ?_
  refine lv_i2b hx hb (by decide +kernel) hxb ?_
  refine lv_istore (i := 4) (nL := 6) hx hb (by decide +kernel) hl (by decide) rfl fun ls hl => ?_
  refine lv_iload_n (k := 2) hx hb (by decide +kernel) rfl (lv_at hl 3 rfl) ?_
  refine lv_istore (i := 5) (nL := 6) hx hb (by decide +kernel) hl (by decide) rfl fun ls hl => ?_
  exact rx_loop (x := x) (b := b) M hrt 14 0 rfl rfl ls H locs hl hR hL
set_option maxRecDepth 100000 in
theorem rx_l1 {x b : Int32} (hd : 1 ≤ d) (hxb : x.toInt8.toInt32 = b) (h1 : ¬ x < 0) (h2 : ¬ 255 < x) : rx_Met l G sa va ⟨"java/lang/StringLatin1", "indexOf", "([BIII)I"⟩ prog_17_method_22_code 4 (some .int) d [.ref va, .int x, .int 0, .int 14] g n (.int (rx_ix b 14 0)) := by
  refine rx_met (by decide +kernel) (Nat.le_of_ble_eq_true rfl) fun p e s m args below meth c M hrt ls H locs hl hR hL => ?_
  obtain ⟨⟨hx, hb, hml, hown, hts, hlk, hX⟩, hF⟩ := id M
  refine lv_iload_n (k := 1) hx hb (by decide +kernel) rfl (lv_at hl 1 rfl) ?_
  refine rx_callS M (rx_can (d := d - 1) h1 h2) (nA := 1) ⟨rx_in (by decide +kernel) (by decide +kernel), rx_in (by decide +kernel) (by decide +kernel), ⟨by decide, by decide, by decide +kernel⟩, by decide⟩ (rx_in (by decide +kernel) (by decide +kernel)) (idx := 88) (rx_in (by decide +kernel) (by decide +kernel)) rfl (by show d - 1 + 1 ≤ d; omega) (by show 40 * (d - 1 + 1) ≤ 40 * d; omega) (rest := []) (by decide) rfl (by decide +kernel) ?_ ls H locs hl hR hL
  intro ls H locs hl hR hL
  refine lv_if_ne hx hb (off := 5) (tgt := 9) (by decide +kernel) rfl (fun _ => ?_) (fun h => absurd h (by decide))
  refine lv_iload_n (k := 2) hx hb (by decide +kernel) rfl (lv_at hl 2 rfl) ?_
  refine lv_iconst (n := 0) hx hb (by decide +kernel) rfl ?_
  refine va_mmax (index := 92) hx hb (by rw [hml]; exact hl.1.symm) hown (hts _ (rx_in (by decide +kernel) (by decide +kernel))) (hts _ (rx_in (by decide +kernel) (by decide +kernel))) (hts _ (rx_in (by decide +kernel) (by decide +kernel))) (hts _ (rx_in (by decide +kernel) (by decide +kernel))) hd (by show 0 + 13 ≤ 40 * d; omega) (Nat.zero_le _) (Nat.zero_le _) (by decide +kernel) ?_
  refine lv_istore_n (k := 2) (i := 2) (nL := 4) hx hb (by decide +kernel) rfl hl (by decide) rfl fun ls hl => ?_
  refine lv_iload_n (k := 3) hx hb (by decide +kernel) rfl (lv_at hl 3 rfl) ?_
  refine lv_aload_n (k := 0) hx hb (by decide +kernel) rfl (lv_at hl 1 rfl) ?_
  refine rx_alen M hR (by decide +kernel) ?_
  refine va_mmin (index := 38) hx hb (by rw [hml]; exact hl.1.symm) hown (hts _ (rx_in (by decide +kernel) (by decide +kernel))) (hts _ (rx_in (by decide +kernel) (by decide +kernel))) (hts _ (rx_in (by decide +kernel) (by decide +kernel))) (hts _ (rx_in (by decide +kernel) (by decide +kernel))) hd (by show 0 + 13 ≤ 40 * d; omega) (Nat.zero_le _) (Nat.zero_le _) (by decide +kernel) ?_
  refine lv_istore_n (k := 3) (i := 3) (nL := 4) hx hb (by decide +kernel) rfl hl (by decide) rfl fun ls hl => ?_
  refine lv_iload_n (k := 2) (x := 0) hx hb (by decide +kernel) rfl (lv_at hl 1 rfl) ?_
  refine lv_iload_n (k := 3) (x := 14) hx hb (by decide +kernel) rfl (lv_at hl 0 rfl) ?_
  refine lv_icmp_lt hx hb (off := 5) (tgt := 29) (by decide +kernel) rfl (fun _ => ?_) (fun h => absurd (by decide) h)
  refine lv_aload_n (k := 0) hx hb (by decide +kernel) rfl (lv_at hl 2 rfl) ?_
  refine lv_iload_n (k := 1) hx hb (by decide +kernel) rfl (lv_at hl 3 rfl) ?_
  refine lv_iload_n (k := 2) (x := 0) hx hb (by decide +kernel) rfl (lv_at hl 1 rfl) ?_
  refine lv_iload_n (k := 3) (x := 14) hx hb (by decide +kernel) rfl (lv_at hl 0 rfl) ?_
  refine rx_callS M (rx_ofChar (d := d - 1) hxb) (nA := 4) ⟨rx_in (by decide +kernel) (by decide +kernel), rx_in (by decide +kernel) (by decide +kernel), ⟨by decide, by decide, by decide +kernel⟩, by decide⟩ (rx_in (by decide +kernel) (by decide +kernel)) (idx := 95) (rx_in (by decide +kernel) (by decide +kernel)) rfl (by show d - 1 + 1 ≤ d; omega) (by show 40 * (d - 1 + 1) ≤ 40 * d; omega) (rest := []) (by decide) rfl (by decide +kernel) ?_ ls H locs hl hR hL
  intro ls H locs hl hR hL
  exact W.iret hx hb hrt (fun t ht hW => ⟨rfl, by rw [ht]; exact hR⟩) hL (by decide +kernel) hlk
set_option maxRecDepth 100000 in
theorem rx_ii {x b : Int32} (hd : 2 ≤ d) (hxb : x.toInt8.toInt32 = b) (h1 : ¬ x < 0) (h2 : ¬ 255 < x) : rx_Met l G sa va ⟨"java/lang/String", "indexOf", "(II)I"⟩ prog_16_method_80_code 3 (some .int) d [.ref sa, .int x, .int 0] g n (.int (rx_ix b 14 0)) := by
  refine rx_met (by decide +kernel) (Nat.le_of_ble_eq_true rfl) fun p e s m args below meth c M hrt ls H locs hl hR hL => ?_
  obtain ⟨⟨hx, hb, hml, hown, hts, hlk, hX⟩, hF⟩ := id M
  refine lv_aload_n (k := 0) hx hb (by decide +kernel) rfl (lv_at hl 0 rfl) ?_
  refine rx_callV M (rx_isLatin (d := d - 1)) (nA := 0) ⟨rx_in (by decide +kernel) (by decide +kernel), rx_in (by decide +kernel) (by decide +kernel), ⟨by decide, by decide, by decide +kernel⟩, by decide⟩ rfl (rx_in (by decide +kernel) (by decide +kernel)) (rx_in (by decide +kernel) (by decide +kernel)) (idx := 492) (rx_in (by decide +kernel) (by decide +kernel)) rfl (by show d - 1 + 1 ≤ d; omega) (by show 40 * (d - 1 + 1) ≤ 40 * d; omega) (rest := []) (by decide) rfl (by decide +kernel) ?_ ls H locs hl hR hL
  intro ls H locs hl hR hL
  refine lv_if_eq hx hb (off := 19) (tgt := 23) (by decide +kernel) rfl (fun h => absurd h (by decide)) fun _ => ?_
  refine lv_aload_n (k := 0) hx hb (by decide +kernel) rfl (lv_at hl 0 rfl) ?_
  refine rx_getv M hR (rx_in (by decide +kernel) (by decide +kernel)) (idx := 9) (by decide +kernel) ?_
  refine lv_iload_n (k := 1) hx hb (by decide +kernel) rfl (lv_at hl 1 rfl) ?_
  refine lv_iload_n (k := 2) hx hb (by decide +kernel) rfl (lv_at hl 2 rfl) ?_
  refine lv_aload_n (k := 0) hx hb (by decide +kernel) rfl (lv_at hl 0 rfl) ?_
  refine rx_callV M (rx_length (d := d - 1) (by omega)) (nA := 0) ⟨rx_in (by decide +kernel) (by decide +kernel), rx_in (by decide +kernel) (by decide +kernel), ⟨by decide, by decide, by decide +kernel⟩, by decide⟩ rfl (rx_in (by decide +kernel) (by decide +kernel)) (rx_in (by decide +kernel) (by decide +kernel)) (idx := 505) (rx_in (by decide +kernel) (by decide +kernel)) rfl (by show d - 1 + 1 ≤ d; omega) (by show 40 * (d - 1 + 1) ≤ 40 * d; omega) (rest := [.int 0, .int x, .ref va]) (by show 1 + (1 + (1 + 0)) ≤ 8; decide) rfl (by decide +kernel) ?_ ls H locs hl hR hL
  intro ls H locs hl hR hL
  refine rx_callS M (rx_l1 (d := d - 1) (by omega) hxb h1 h2) (nA := 4) ⟨rx_in (by decide +kernel) (by decide +kernel), rx_in (by decide +kernel) (by decide +kernel), ⟨by decide, by decide, by decide +kernel⟩, by decide⟩ (rx_in (by decide +kernel) (by decide +kernel)) (idx := 637) (rx_in (by decide +kernel) (by decide +kernel)) rfl (by show d - 1 + 1 ≤ d; omega) (by show 40 * (d - 1 + 1) ≤ 40 * d; omega) (rest := []) (by decide) rfl (by decide +kernel) ?_ ls H locs hl hR hL
  intro ls H locs hl hR hL
  refine lv_goto (off := 16) (tgt := 36) hx hb (by decide +kernel) rfl ?_
  exact W.iret hx hb hrt (fun t ht hW => ⟨rfl, by rw [ht]; exact hR⟩) hL (by decide +kernel) hlk
set_option maxRecDepth 100000 in
theorem rx_i {x b : Int32} (hd : 3 ≤ d) (hxb : x.toInt8.toInt32 = b) (h1 : ¬ x < 0) (h2 : ¬ 255 < x) : rx_Met l G sa va ⟨"java/lang/String", "indexOf", "(I)I"⟩ prog_16_method_79_code 2 (some .int) d [.ref sa, .int x] g n (.int (rx_ix b 14 0)) := by
  refine rx_met (by decide +kernel) (Nat.le_of_ble_eq_true rfl) fun p e s m args below meth c M hrt ls H locs hl hR hL => ?_
  obtain ⟨⟨hx, hb, hml, hown, hts, hlk, hX⟩, hF⟩ := id M
  refine lv_aload_n (k := 0) hx hb (by decide +kernel) rfl (lv_at hl 0 rfl) ?_
  refine lv_iload_n (k := 1) hx hb (by decide +kernel) rfl (lv_at hl 1 rfl) ?_
  refine lv_iconst (n := 0) hx hb (by decide +kernel) rfl ?_
  refine rx_callV M (rx_ii (d := d - 1) (by omega) hxb h1 h2) (nA := 2) ⟨rx_in (by decide +kernel) (by decide +kernel), rx_in (by decide +kernel) (by decide +kernel), ⟨by decide, by decide, by decide +kernel⟩, by decide⟩ rfl (rx_in (by decide +kernel) (by decide +kernel)) (rx_in (by decide +kernel) (by decide +kernel)) (idx := 633) (rx_in (by decide +kernel) (by decide +kernel)) rfl (by show d - 1 + 1 ≤ d; omega) (by show 40 * (d - 1 + 1) ≤ 40 * d; omega) (rest := []) (by decide) rfl (by decide +kernel) ?_ ls H locs hl hR hL
  intro ls H locs hl hR hL
  exact W.iret hx hb hrt (fun t ht hW => ⟨rfl, by rw [ht]; exact hR⟩) hL (by decide +kernel) hlk
set_option maxRecDepth 100000 in
theorem rx_ldcW {tx : String} {q : Nat} (hexec : p.tables.exec = Jvm.exec) (hb : c.code = cc) (hown : s.vm.findClass own = some m.cls) (hZ : vk_R own idx tx q s) (hdg : decode cc pc = .ok (.ldc_w idx, 3))
    (k : W p l e R s m args below meth c H locs 0 0 Q (F0 m (pc + 3) ls (.ref q :: rest))) : W p l e R s m args below meth c H locs 0 0 Q (F0 m pc ls rest) := by
  intro T hT X
  obtain ⟨t, a1, b1⟩ := k T hT X
  refine ⟨t, ?_, b1⟩
  have hconst : (Cond.stringRef own idx tx).before args s = true := hZ.1
  obtain ⟨k, cf, i, a', hk, hcf, hcp, -, hr, hev'⟩ := Cond.stringRef_spec hown hconst
  have hev : (Term.string own idx).eval args s none [] s = some (.ref q) := hZ.2
  cases hev.symm.trans hev'
  obtain ⟨k', hk', he⟩ := X.warmed.alike.2.2 _ _ hk
  have hr' : k'.resolved[idx]? = some (some (.string q)) := by
    rcases X.warmed.entry hk hk' idx with h | ⟨h, -⟩
    · rw [h]; exact hr
    · rw [hr] at h; cases h
  jvm_step X.here [hexec, hb, hdg, ldc_w.wp_string (e := e) (s := T) (f := F0 m pc ls rest) X.here.top hk' (by rw [he]; exact hcf) hcp hr']
  exact a1
end RX
set_option maxRecDepth 100000 in
theorem rx_k1 : ∀ k : Nat, k < 256 → ((Int32.ofNat k).toUInt32 % 65536).toInt32 = Int32.ofNat k := by decide +kernel
set_option maxRecDepth 100000 in
theorem rx_k2 : ∀ k : Nat, k < 256 → ¬ Int32.ofNat k < 0 ∧ ¬ 255 < Int32.ofNat k := by decide +kernel
set_option maxRecDepth 100000 in
theorem rx_k3 : ∀ k : Nat, k < 256 → ((k : Int) ∈ ab_let ∧ 0 ≤ (rx_ix (Int32.ofNat k).toInt8.toInt32 14 0).toInt ∧ (rx_ix (Int32.ofNat k).toInt8.toInt32 14 0).toInt ≤ 13) ∨ ((k : Int) ∉ ab_let ∧ (rx_ix (Int32.ofNat k).toInt8.toInt32 14 0).toInt = -1) := by decide +kernel
set_option maxRecDepth 100000 in
theorem sgn_ok {l : Launch} {G : ax_T} : SGN l G := by
  intro d h n x hd _ hW h0 h255
  obtain ⟨k, hk, rfl⟩ : ∃ k : Nat, k < 256 ∧ Int32.ofNat k = x := ⟨x.toInt.toNat, by omega, by
    apply Int32.toInt_inj.mp
    rw [Int32.toInt_ofNat_of_lt (by omega)]
    omega⟩
  have hki : (Int32.ofNat k).toInt = (k : Int) := Int32.toInt_ofNat_of_lt (by omega)
  refine ⟨(some (.int (rx_ix (Int32.ofNat k).toInt8.toInt32 14 0)), h, n), ⟨?_, fun e => by cases e⟩, rfl, rfl, _, rfl, by rw [hki]; exact rx_k3 k hk⟩
  show Met l yX10_signOf (Cond.code yX10_signOf cX10_signOf 1 (some .int) :: ax_G) (ax_rm d 0 0) (ax_Pc G [.int (Int32.ofNat k)] (ax_hget h) n) (ax_Qc G (some (.int (rx_ix (Int32.ofNat k).toInt8.toInt32 14 0))) (ax_hget h) n) 0 0 (fun q => G.2.1 ≤ q)
  refine Met.ofW (cc := cX10_signOf) (maxL := 1) (ret := some .int) (by decide +kernel) rfl ?_
  intro p e s m args below meth c s₁ B hml hv
  obtain ⟨rfl, hX, hR⟩ := hv
  have hts := atoms_spec (ws := Cond.code yX10_signOf cX10_signOf 1 (some .int) :: ax_G) B.pre
  have hown : s.vm.findClass "LetterSums" = some m.cls := findClass_of_methodNamed B.named
  have M : ax_M G p s m ([Value.int (Int32.ofNat k)]).toArray meth c "LetterSums" cX10_signOf 1 := ⟨B.exec, B.bytes, hml, hown, fun w hw => hts w (List.mem_cons_of_mem _ hw), B.notSynchronized, hX⟩
  obtain ⟨sa, va, hS, hF⟩ := hX.2.2.1.2.2.2
  have hl := lv_entry [Value.int (Int32.ofNat k)] (n := 1) (Nat.le_of_ble_eq_true rfl)
  show W p l e (ax_rm d 0 0) s m ([Value.int (Int32.ofNat k)]).toArray below meth c s.heap [] 0 0 (MQ below (ax_Qc G (some (.int (rx_ix (Int32.ofNat k).toInt8.toInt32 14 0))) (ax_hget h) n) ([Value.int (Int32.ofNat k)]).toArray s 0 0 (fun q => G.2.1 ≤ q)) (entryFrame m ([Value.int (Int32.ofNat k)]).toArray 1)
  rw [lg_entry_eq]
  have hrt := B.returns
  have hlk := B.notSynchronized
  have hx := B.exec
  have hb := B.bytes
  have hL : ∀ q ∈ ([] : List Loc), G.2.1 ≤ q.base := fun q hq => by cases hq
  refine rx_ldcW hx hb hown hS (by decide +kernel) ?_
  refine lv_iload_n (k := 0) hx hb (by decide +kernel) rfl (lv_at hl 0 rfl) ?_
  refine lv_i2c hx hb (by decide +kernel) (rx_k1 k hk) ?_
  refine rx_callV (lv := [(0, .int (Int32.ofNat k))]) ⟨M, hF⟩ (rx_i (d := d - 1) (by omega) rfl (rx_k2 k hk).1 (rx_k2 k hk).2) (nA := 1) ⟨rx_in (by decide +kernel) (by decide +kernel), rx_in (by decide +kernel) (by decide +kernel), ⟨by decide, by decide, by decide +kernel⟩, by decide⟩ rfl (rx_in (by decide +kernel) (by decide +kernel)) (rx_in (by decide +kernel) (by decide +kernel)) (idx := 316) (rx_in (by decide +kernel) (by decide +kernel)) rfl (by show d - 1 + 1 ≤ d; omega) (by show 40 * (d - 1 + 1) ≤ 40 * d; omega) (rest := []) (by decide) rfl (by decide +kernel) ?_ _ s.heap [] hl hR hL
  intro ls H locs hl hR hL
  exact W.iret hx hb hrt (fun t ht hW => ⟨rfl, by rw [ht]; exact hR⟩) hL (by decide +kernel) hlk

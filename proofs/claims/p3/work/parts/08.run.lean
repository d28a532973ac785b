/-! ===== runs: a method's body, with its calls ===== -/
def ax_pop (k : Nat) (st : List Value) : Option (List Value × List Value) := bif Nat.ble k st.length then some ((st.take k).reverse, st.drop k) else none
theorem ax_pop_ok {k : Nat} {st as rest : List Value} (h : ax_pop k st = some (as, rest)) : st = as.reverse ++ rest ∧ as.length = k := by
  unfold ax_pop at h
  cases e : Nat.ble k st.length with
  | false => rw [e] at h; cases h
  | true =>
    rw [e] at h
    have hk : k ≤ st.length := by simpa [Nat.ble_eq] using e
    cases h
    refine ⟨by rw [List.reverse_reverse, List.take_append_drop], by simp [hk]⟩
def ax_at (tab : List (List ax_EN)) (pc : Nat) : Option ax_EN := (tab.getD (pc / 32) []).find? fun e => e.1 == pc
theorem ax_at_ok {tab : List (List ax_EN)} {pc : Nat} {e : ax_EN} (h : ax_at tab pc = some e) : e.1 = pc ∧ ∃ ch ∈ tab, e ∈ ch := by
  unfold ax_at at h
  refine ⟨by simpa using List.find?_some h, ?_⟩
  have hm := List.mem_of_find?_eq_some h
  rw [List.getD_eq_getElem?_getD] at hm
  cases e1 : tab[pc / 32]? with
  | none => rw [e1] at hm; simp at hm
  | some ch => rw [e1] at hm; exact ⟨ch, List.mem_of_getElem? e1, hm⟩
/-- answer, cells, how many -/
abbrev ax_O : Type := Option Value × ax_H × Nat
def ax_inv (prog : List ax_MI) (i : Instr) (pe : ax_PE) (st : List Value) (h : ax_H) : Option (ax_MI × List Value × List Value) := match i with
  | .invokestatic _ => bif pe.1 == 9 then none else match prog[pe.2.1]? with
    | some mi => match ax_pop mi.2.2.2.2.2.1 st with
      | some (as, rest) => bif Nat.ble (ax_sum rest) 8 then some (mi, as, rest) else none
      | none => none
    | none => none
  | .invokevirtual _ => match prog[pe.2.1]? with
    | some mi => match ax_pop mi.2.2.2.2.2.1 st with
      | some (as, .ref k :: rest) => match ax_raw h k with
        | some (.inr (ci, _)) => bif ci == pe.2.2.1 && Nat.ble (ax_sum rest) 8 then some (mi, .ref k :: as, rest) else none
        | _ => none
      | _ => none
    | none => none
  | .invokespecial _ => bif pe.1 == 8 then none else match prog[pe.2.1]? with
    | some mi => match ax_pop mi.2.2.2.2.2.1 st with
      | some (as, .ref k :: rest) => bif Nat.ble (ax_sum rest) 8 then some (mi, .ref k :: as, rest) else none
      | _ => none
    | none => none
  | _ => none
def ax_rets (i : Instr) (st : List Value) : Option (Option Value) := match i with
  | .ireturn => match st with
    | [.int x] => some (some (.int x))
    | [.float u] => some (some (.float u))
    | _ => none
  | .lreturn => match st with
    | [.long x] => some (some (.long x))
    | _ => none
  | .return_ => match st with
    | [] => some none
    | _ => none
  | _ => none
def ax_retT (ret : Option FieldType) (r : Option Value) : Bool := match ret, r with
  | none, none => true
  | some .int, some (.int _) => true
  | some .int, some (.float _) => true
  | some .boolean, some (.int v) => v == 0 || v == 1
  | some .long, some (.long _) => true
  | _, _ => false
def ax_body (iv : Nat → Int × Int) (prog : List ax_MI) (callee : ax_MI → List Value → ax_H → Nat → Option ax_O) (mi : ax_MI) : Nat → Nat → List (Nat × Value) → List Value → ax_H → Nat → Nat → Nat → Option ax_O
  | 0, _, _, _, _, _, _, _ => none
  | f + 1, pc, lv, st, h, n, cs, ss => match ax_at mi.2.2.2.2.2.2.2.2 pc with
    | none => none
    | some e => match ax_rets e.2.1 st with
      | some r => bif ax_retT mi.2.2.2.2.1 r then some (r, h, n) else none
      | none => match ax_inv prog e.2.1 e.2.2.2.1 st h with
        | some q => bif Nat.ble (cs + q.1.2.2.2.2.2.2.1) mi.2.2.2.2.2.2.1 && Nat.ble (ss + q.1.2.2.2.2.2.2.2.1) mi.2.2.2.2.2.2.2.1 then (match callee q.1 q.2.1 h n with
            | some o => ax_body iv prog callee mi f (pc + 3) lv (o.1.toList ++ q.2.2) o.2.1 o.2.2 (cs + q.1.2.2.2.2.2.2.1) (ss + q.1.2.2.2.2.2.2.2.1)
            | none => none) else none
        | none => match ax_step iv mi.2.2.2.1 e.2.1 e.2.2.2.1 pc lv st h n cs ss with
          | some F => bif Nat.ble F.2.2.2.2.2.1 mi.2.2.2.2.2.2.1 && Nat.ble F.2.2.2.2.2.2 mi.2.2.2.2.2.2.2.1 then ax_body iv prog callee mi f F.1 F.2.1 F.2.2.1 F.2.2.2.1 F.2.2.2.2.1 F.2.2.2.2.2.1 F.2.2.2.2.2.2 else none
          | none => none
def ax_call (iv : Nat → Int × Int) (prog : List ax_MI) : Nat → ax_MI → List Value → ax_H → Nat → Option ax_O
  | 0, _, _, _, _ => none
  | d + 1, mi, as, h, n => bif Nat.ble (lg_sl as).length mi.2.2.2.1 then ax_body iv prog (ax_call iv prog d) mi 5000 0 (lv_args 0 as) [] h n 0 0 else none
theorem ax_inv_in {prog : List ax_MI} {i : Instr} {pe : ax_PE} {st : List Value} {h : ax_H} {q : ax_MI × List Value × List Value} (hq : ax_inv prog i pe st h = some q) : q.1 ∈ prog := by
  cases i with
  | invokestatic idx =>
    cases e0 : pe.1 == 9 with
    | true => simp only [ax_inv, e0, cond_true] at hq; cases hq
    | false =>
      simp only [ax_inv, e0, cond_false] at hq
      split at hq
      · rename_i mi hmi
        split at hq
        · rename_i as rest hp
          cases e1 : Nat.ble (ax_sum rest) 8 with
          | false => rw [e1] at hq; cases hq
          | true => rw [e1] at hq; obtain rfl := Option.some.inj hq; exact List.mem_of_getElem? hmi
        · cases hq
      · cases hq
  | invokevirtual idx =>
    simp only [ax_inv] at hq
    split at hq
    · rename_i mi hmi
      split at hq
      · rename_i as k rest hp
        split at hq
        · rename_i ci fs hk
          cases e1 : (ci == pe.2.2.1 && Nat.ble (ax_sum rest) 8) with
          | false => rw [e1] at hq; cases hq
          | true => rw [e1] at hq; obtain rfl := Option.some.inj hq; exact List.mem_of_getElem? hmi
        · cases hq
      · cases hq
    · cases hq
  | invokespecial idx =>
    cases e0 : pe.1 == 8 with
    | true => simp only [ax_inv, e0, cond_true] at hq; cases hq
    | false =>
      simp only [ax_inv, e0, cond_false] at hq
      split at hq
      · rename_i mi hmi
        split at hq
        · rename_i as k rest hp
          cases e1 : Nat.ble (ax_sum rest) 8 with
          | false => rw [e1] at hq; cases hq
          | true => rw [e1] at hq; obtain rfl := Option.some.inj hq; exact List.mem_of_getElem? hmi
        · cases hq
      · cases hq
  | _ => cases hq
section AXR
variable {G : ax_T} {p : Program} {l : Launch} {e : Env} {R : Room} {s : State} {m : MethodId} {args : Array Value} {below : List Frame} {meth : Method} {c : Code} {Q : State → Prop} {own nm : String} {cc : ByteArray} {nL : Nat}
variable {pc : Nat} {lv : List (Nat × Value)} {st : List Value} {g : Nat → Option ax_C} {h : ax_H} {n cs ss mc ms : Nat} {iv : Nat → Int × Int}
theorem ax_ret_ok (M : ax_M G p s m args meth c own cc nL) {ret : Option FieldType} (hrt : meth.sig.returnType = ret) {i : Instr} {len : Nat} (hd : decode cc pc = .ok (i, len)) (hlen : ax_len i = 0 ∨ len = ax_len i) {r : Option Value} (h1 : ax_rets i st = some r) (h2 : ax_retT ret r = true) (hc : cs ≤ mc) (hs : ss ≤ ms) :
    ax_W G p l e R s m args below meth c (MQ below (ax_Qc G r g n) args s mc ms (fun q => G.2.1 ≤ q)) nL pc lv st g n cs ss := by
  intro ls H locs hl hR hL
  obtain ⟨hx, hb, hml, hown, hts, hlocks, hX⟩ := M
  refine W.widen hc hs ?_
  cases i with
  | ireturn =>
    obtain rfl : len = 1 := hlen.elim (fun q => absurd q (Nat.succ_ne_zero _)) (fun q => q)
    simp only [ax_rets] at h1
    split at h1
    · rename_i x
      cases h1
      cases ret with
      | none => cases h2
      | some ty =>
        cases ty with
        | int => exact W.iret hx hb hrt (fun t ht hW => ⟨rfl, by rw [ht]; exact hR⟩) hL hd hlocks
        | boolean =>
          refine W.zret hx hb hrt ?_ (fun t ht hW => ⟨rfl, by rw [ht]; exact hR⟩) hL hd hlocks
          simp only [ax_retT, Bool.or_eq_true, beq_iff_eq] at h2
          rcases h2 with rfl | rfl <;> decide
        | _ => cases h2
    · rename_i u
      cases h1
      cases ret with
      | none => cases h2
      | some ty =>
        cases ty with
        | int => exact W.iret hx hb hrt (fun t ht hW => ⟨rfl, by rw [ht]; exact hR⟩) hL hd hlocks
        | _ => cases h2
    · cases h1
  | lreturn =>
    obtain rfl : len = 1 := hlen.elim (fun q => absurd q (Nat.succ_ne_zero _)) (fun q => q)
    simp only [ax_rets] at h1
    split at h1
    · cases h1
      cases ret with
      | none => cases h2
      | some ty =>
        cases ty with
        | long => exact W.lret hx hb hrt (fun t ht hW => ⟨rfl, by rw [ht]; exact hR⟩) hL hd hlocks
        | _ => cases h2
    · cases h1
  | return_ =>
    obtain rfl : len = 1 := hlen.elim (fun q => absurd q (Nat.succ_ne_zero _)) (fun q => q)
    simp only [ax_rets] at h1
    split at h1
    · cases h1
      cases ret with
      | none => exact W.vret hx hb hrt (fun t ht hW => ⟨rfl, by rw [ht]; exact hR⟩) hL hd hlocks
      | some ty => cases ty <;> cases h2
    · cases h1
  | _ => cases h1
/-- what is checked of a program's table -/
def ax_Prog (prog : List ax_MI) : Prop := ∀ mi ∈ prog, ax_callee mi.2.1 mi.2.2.1 mi.2.2.2.1 mi.2.2.2.2.1 mi.2.2.2.2.2.1 ∧ mi.1 = mi.2.1.cls ∧ plainName mi.2.1.cls = true ∧ ∀ ch ∈ mi.2.2.2.2.2.2.2.2, ∀ en ∈ ch, ax_Ok prog mi.1 mi.2.1.name mi.2.2.1 en.1 en.2.1 en.2.2.1 en.2.2.2.1
theorem ax_inv_ok {prog : List ax_MI} (hprog : ax_Prog prog) {d : Nat} (M : ax_M G p s m args meth c own cc nL) {i : Instr} {len : Nat} {pe : ax_PE} (hok : ax_Ok prog own nm cc pc i len pe) {q : ax_MI × List Value × List Value} (hq : ax_inv prog i pe st h = some q) {o : ax_O}
    (hM : q.1 ∈ prog → ax_Met l G q.1.2.1 q.1.2.2.1 q.1.2.2.2.1 q.1.2.2.2.2.1 d q.2.1 (ax_hget h) n o.1 (ax_hget o.2.1) o.2.2 q.1.2.2.2.2.2.2.1 q.1.2.2.2.2.2.2.2.1)
    (hf : d + 1 ≤ R.frames) (hlo : 40 * (d + 1) ≤ R.locals) (hcs : cs + q.1.2.2.2.2.2.2.1 ≤ R.cells) (hss : ss + q.1.2.2.2.2.2.2.2.1 ≤ R.slots)
    (kk : ax_W G p l e R s m args below meth c Q nL (pc + 3) lv (o.1.toList ++ q.2.2) (ax_hget o.2.1) o.2.2 (cs + q.1.2.2.2.2.2.2.1) (ss + q.1.2.2.2.2.2.2.2.1)) (hret : q.1.2.2.2.2.1 = none → o.1 = none) : ax_W G p l e R s m args below meth c Q nL pc lv st (ax_hget h) n cs ss := by
  obtain ⟨hd, hlen, hw⟩ := hok
  cases i with
  | invokestatic idx =>
    obtain rfl : len = 3 := hlen.elim (fun q => absurd q (Nat.succ_ne_zero _)) (fun q => q)
    cases e0 : pe.1 == 9 with
    | true => simp only [ax_inv, e0, cond_true] at hq; cases hq
    | false =>
      have e0' : pe.1 ≠ 9 := by simpa using e0
      rcases hw with ⟨hw, -⟩ | ⟨-, mi, hmi, hst, hlk⟩
      · exact absurd hw e0'
      · have hin := List.mem_of_getElem? hmi
        simp only [ax_inv, e0, cond_false, hmi] at hq
        split at hq
        · rename_i as rest hp
          cases e1 : Nat.ble (ax_sum rest) 8 with
          | false => rw [e1] at hq; cases hq
          | true =>
            rw [e1] at hq
            obtain rfl := Option.some.inj hq
            obtain ⟨rfl, hn⟩ := ax_pop_ok hp
            exact ax_callS M (hM hin) (hprog _ hin).1 hst hlk hn hf hlo hcs hss (by simpa [Nat.ble_eq] using e1) hd kk
        · cases hq
  | invokevirtual idx =>
    obtain rfl : len = 3 := hlen.elim (fun q => absurd q (Nat.succ_ne_zero _)) (fun q => q)
    obtain ⟨mi, T, N, hmi, hc, hst, hse, hlk⟩ := hw
    have hin := List.mem_of_getElem? hmi
    simp only [ax_inv, hmi] at hq
    split at hq
    · rename_i as k rest hp
      split at hq
      · rename_i ci fs hk
        cases e1 : (ci == pe.2.2.1 && Nat.ble (ax_sum rest) 8) with
        | false => rw [e1] at hq; cases hq
        | true =>
          rw [e1] at hq
          obtain rfl := Option.some.inj hq
          obtain ⟨rfl, hn⟩ := ax_pop_ok hp
          simp only [Bool.and_eq_true, beq_iff_eq, Nat.ble_eq] at e1
          obtain ⟨rfl, e2⟩ := e1
          exact ax_callV M (ax_get_of hk) hc (hM hin) (hprog _ hin).1 hst hse hlk hn hf hlo hcs hss e2 hd kk
      · cases hq
    · cases hq
  | invokespecial idx =>
    obtain rfl : len = 3 := hlen.elim (fun q => absurd q (Nat.succ_ne_zero _)) (fun q => q)
    cases e0 : pe.1 == 8 with
    | true => simp only [ax_inv, e0, cond_true] at hq; cases hq
    | false =>
      have e0' : pe.1 ≠ 8 := by simpa using e0
      rcases hw with ⟨hw, -⟩ | ⟨-, mi, hmi, hnm, hrt, hst, hlk⟩
      · exact absurd hw e0'
      · have hin := List.mem_of_getElem? hmi
        simp only [ax_inv, e0, cond_false, hmi] at hq
        split at hq
        · rename_i as k rest hp
          cases e1 : Nat.ble (ax_sum rest) 8 with
          | false => rw [e1] at hq; cases hq
          | true =>
            rw [e1] at hq
            obtain rfl := Option.some.inj hq
            obtain ⟨rfl, hn⟩ := ax_pop_ok hp
            have ho : o.1 = none := hret hrt
            have hM' := hM hin
            have hy := (hprog _ hin).1
            rw [ho] at hM' kk
            rw [hrt] at hM' hy
            exact ax_callI M hM' hy hst hnm hlk hn hf hlo hcs hss (by simpa [Nat.ble_eq] using e1) hd kk
        · cases hq
  | _ => cases hq
theorem ax_body_ok {prog : List ax_MI} (hprog : ax_Prog prog) {mi : ax_MI} (hmi : mi ∈ prog) {d : Nat} {callee : ax_MI → List Value → ax_H → Nat → Option ax_O}
    (hcal : ∀ (q : ax_MI) (as : List Value) (h : ax_H) (n : Nat) (o : ax_O), q ∈ prog → callee q as h n = some o → ax_Met l G q.2.1 q.2.2.1 q.2.2.2.1 q.2.2.2.2.1 d as (ax_hget h) n o.1 (ax_hget o.2.1) o.2.2 q.2.2.2.2.2.2.1 q.2.2.2.2.2.2.2.1 ∧ (q.2.2.2.2.1 = none → o.1 = none))
    (M : ax_M G p s m args meth c mi.1 mi.2.2.1 mi.2.2.2.1) (hnm : meth.name = mi.2.1.name) (hrt : meth.sig.returnType = mi.2.2.2.2.1) (hρ : ∀ u, (iv u).1 ≤ (G.2.2.2.1 u).toInt ∧ (G.2.2.2.1 u).toInt ≤ (iv u).2)
    (hR : R = ax_rm (d + 1) mi.2.2.2.2.2.2.1 mi.2.2.2.2.2.2.2.1) :
    ∀ (f pc : Nat) (lv : List (Nat × Value)) (st : List Value) (h : ax_H) (n cs ss : Nat) (o : ax_O), ax_body iv prog callee mi f pc lv st h n cs ss = some o → cs ≤ mi.2.2.2.2.2.2.1 → ss ≤ mi.2.2.2.2.2.2.2.1 →
      ax_W G p l e R s m args below meth c (MQ below (ax_Qc G o.1 (ax_hget o.2.1) o.2.2) args s mi.2.2.2.2.2.2.1 mi.2.2.2.2.2.2.2.1 (fun q => G.2.1 ≤ q)) mi.2.2.2.1 pc lv st (ax_hget h) n cs ss := by
  intro f
  induction f with
  | zero => intro pc lv st h n cs ss o ho; cases ho
  | succ f ih =>
    intro pc lv st h n cs ss o ho hcs hss
    rw [ax_body] at ho
    cases ea : ax_at mi.2.2.2.2.2.2.2.2 pc with
    | none => rw [ea] at ho; cases ho
    | some en =>
      simp only [ea] at ho
      obtain ⟨hpc, ch, hch, hen⟩ := ax_at_ok ea
      have hok := (hprog mi hmi).2.2.2 ch hch en hen
      rw [hpc] at hok
      cases er : ax_rets en.2.1 st with
      | some r =>
        simp only [er] at ho
        cases et : ax_retT mi.2.2.2.2.1 r with
        | false => rw [et] at ho; cases ho
        | true =>
          rw [et] at ho
          obtain rfl := Option.some.inj ho
          exact ax_ret_ok M hrt hok.1 hok.2.1 er et hcs hss
      | none =>
        simp only [er] at ho
        cases ei : ax_inv prog en.2.1 en.2.2.2.1 st h with
        | some q =>
          simp only [ei] at ho
          cases eb : (Nat.ble (cs + q.1.2.2.2.2.2.2.1) mi.2.2.2.2.2.2.1 && Nat.ble (ss + q.1.2.2.2.2.2.2.2.1) mi.2.2.2.2.2.2.2.1) with
          | false => rw [eb] at ho; cases ho
          | true =>
            rw [eb] at ho
            simp only [cond_true] at ho
            simp only [Bool.and_eq_true, Nat.ble_eq] at eb
            cases ec : callee q.1 q.2.1 h n with
            | none => rw [ec] at ho; cases ho
            | some o1 =>
              simp only [ec] at ho
              have hin : q.1 ∈ prog := ax_inv_in ei
              obtain ⟨hM, hn1⟩ := hcal q.1 q.2.1 h n o1 hin ec
              refine ax_inv_ok hprog M hok ei (fun _ => hM) ?_ ?_ ?_ ?_ (ih _ _ _ _ _ _ _ o ho eb.1 eb.2) hn1
              · rw [hR]; exact Nat.le_refl _
              · rw [hR]; exact Nat.le_refl _
              · rw [hR]; exact eb.1
              · rw [hR]; exact eb.2
        | none =>
          simp only [ei] at ho
          cases es : ax_step iv mi.2.2.2.1 en.2.1 en.2.2.2.1 pc lv st h n cs ss with
          | none => rw [es] at ho; cases ho
          | some F =>
            simp only [es] at ho
            cases eb : (Nat.ble F.2.2.2.2.2.1 mi.2.2.2.2.2.2.1 && Nat.ble F.2.2.2.2.2.2 mi.2.2.2.2.2.2.2.1) with
            | false => rw [eb] at ho; cases ho
            | true =>
              rw [eb] at ho
              simp only [cond_true] at ho
              simp only [Bool.and_eq_true, Nat.ble_eq] at eb
              refine ax_step_ok M hnm hρ hok es ?_ (ih _ _ _ _ _ _ _ o ho eb.1 eb.2)
              rw [hR]
              exact ⟨eb.1, eb.2, Nat.le_add_left 1 d, by show 40 ≤ 40 * (d + 1); omega⟩
theorem ax_body_ret {prog : List ax_MI} {mi : ax_MI} {callee : ax_MI → List Value → ax_H → Nat → Option ax_O} : ∀ (f pc : Nat) (lv : List (Nat × Value)) (st : List Value) (h : ax_H) (n cs ss : Nat) (o : ax_O), ax_body iv prog callee mi f pc lv st h n cs ss = some o → ax_retT mi.2.2.2.2.1 o.1 = true := by
  intro f
  induction f with
  | zero => intro pc lv st h n cs ss o ho; cases ho
  | succ f ih =>
    intro pc lv st h n cs ss o ho
    rw [ax_body] at ho
    cases ea : ax_at mi.2.2.2.2.2.2.2.2 pc with
    | none => rw [ea] at ho; cases ho
    | some en =>
      simp only [ea] at ho
      cases er : ax_rets en.2.1 st with
      | some r =>
        simp only [er] at ho
        cases et : ax_retT mi.2.2.2.2.1 r with
        | false => rw [et] at ho; cases ho
        | true => rw [et] at ho; obtain rfl := Option.some.inj ho; exact et
      | none =>
        simp only [er] at ho
        cases ei : ax_inv prog en.2.1 en.2.2.2.1 st h with
        | some q =>
          simp only [ei] at ho
          cases eb : (Nat.ble (cs + q.1.2.2.2.2.2.2.1) mi.2.2.2.2.2.2.1 && Nat.ble (ss + q.1.2.2.2.2.2.2.2.1) mi.2.2.2.2.2.2.2.1) with
          | false => rw [eb] at ho; cases ho
          | true =>
            rw [eb] at ho
            simp only [cond_true] at ho
            cases ec : callee q.1 q.2.1 h n with
            | none => rw [ec] at ho; cases ho
            | some o1 => simp only [ec] at ho; exact ih _ _ _ _ _ _ _ o ho
        | none =>
          simp only [ei] at ho
          cases es : ax_step iv mi.2.2.2.1 en.2.1 en.2.2.2.1 pc lv st h n cs ss with
          | none => rw [es] at ho; cases ho
          | some F =>
            simp only [es] at ho
            cases eb : (Nat.ble F.2.2.2.2.2.1 mi.2.2.2.2.2.2.1 && Nat.ble F.2.2.2.2.2.2 mi.2.2.2.2.2.2.2.1) with
            | false => rw [eb] at ho; cases ho
            | true => rw [eb] at ho; exact ih _ _ _ _ _ _ _ o ho
theorem ax_sl_len (G : ax_T) (as : List Value) : (lg_sl (as.map (ax_v G))).length = (lg_sl as).length := by
  induction as with
  | nil => rfl
  | cons v vs ih =>
    simp only [lg_sl, List.map_cons, List.flatMap_cons, List.length_append, ax_cat] at ih ⊢
    rw [ih]
    split <;> rfl
theorem ax_args_map (G : ax_T) (as : List Value) : ∀ j : Nat, lv_args j (as.map (ax_v G)) = (lv_args j as).map fun q => (q.1, ax_v G q.2) := by
  induction as with
  | nil => intro j; rfl
  | cons v vs ih =>
    intro j
    simp only [List.map_cons, lv_args, ax_cat]
    rw [ih]
/-- what a run answers, the method answers -/
theorem ax_call_ok {prog : List ax_MI} (hprog : ax_Prog prog) (hρ : ∀ u, (iv u).1 ≤ (G.2.2.2.1 u).toInt ∧ (G.2.2.2.1 u).toInt ≤ (iv u).2) : ∀ (d : Nat) (mi : ax_MI) (as : List Value) (h : ax_H) (n : Nat) (o : ax_O), mi ∈ prog → ax_call iv prog d mi as h n = some o →
    ax_Met l G mi.2.1 mi.2.2.1 mi.2.2.2.1 mi.2.2.2.2.1 d as (ax_hget h) n o.1 (ax_hget o.2.1) o.2.2 mi.2.2.2.2.2.2.1 mi.2.2.2.2.2.2.2.1 ∧ (mi.2.2.2.2.1 = none → o.1 = none) := by
  intro d
  induction d with
  | zero => intro mi as h n o _ ho; cases ho
  | succ d ih =>
    intro mi as h n o hmi ho
    rw [ax_call] at ho
    cases el : Nat.ble (lg_sl as).length mi.2.2.2.1 with
    | false => rw [el] at ho; cases ho
    | true =>
      rw [el] at ho
      simp only [cond_true] at ho
      have hlen : (lg_sl (as.map (ax_v G))).length ≤ mi.2.2.2.1 := by rw [ax_sl_len]; simpa [Nat.ble_eq] using el
      obtain ⟨hcal, hcls, hplain, -⟩ := hprog mi hmi
      refine ⟨?_, fun hn => ?_⟩
      · unfold ax_Met
        refine Met.ofW (cc := mi.2.2.1) (maxL := mi.2.2.2.1) (ret := mi.2.2.2.2.1) hplain rfl ?_
        intro p e s m args below meth c s₁ B hml hv
        obtain ⟨rfl, hX, hRel⟩ := hv
        have hts := atoms_spec (ws := Cond.code mi.2.1 mi.2.2.1 mi.2.2.2.1 mi.2.2.2.2.1 :: ax_G) B.pre
        have hown : s.vm.findClass mi.2.1.cls = some m.cls := findClass_of_methodNamed B.named
        have M : ax_M G p s m (as.map (ax_v G)).toArray meth c mi.1 mi.2.2.1 mi.2.2.2.1 := ⟨B.exec, B.bytes, hml, by rw [hcls]; exact hown, fun w hw => hts w (List.mem_cons_of_mem _ hw), B.notSynchronized, hX⟩
        have hl := lv_entry (as.map (ax_v G)) (n := mi.2.2.2.1) hlen
        rw [lg_entry_eq]
        rw [ax_args_map] at hl
        exact ax_body_ok hprog hmi (fun q as h n o hq hc => ih q as h n o hq hc) M (name_of_methodNamed B.named B.method).1 B.returns hρ rfl 5000 0 _ [] h n 0 0 o ho (Nat.zero_le _) (Nat.zero_le _) _ s.heap [] hl hRel (fun q hq => by cases hq)
      · have := ax_body_ret _ _ _ _ _ _ _ _ o ho
        rw [hn] at this
        cases e1 : o.1 with
        | none => rfl
        | some v => rw [e1] at this; cases this
end AXR

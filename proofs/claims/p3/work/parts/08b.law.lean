/-! ===== the law's own body, run likewise: the script is .retAddr 2 ===== -/
/-- one step of the law: sc what the script's places hold, L its length, opv the first masked by 63 -/
def ax_stepL (iv : Nat → Int × Int) (L : Nat) (sc : Nat → Value) (opv : Value) (i : Instr) (pe : ax_PE) (pc : Nat) (lv : List (Nat × Value)) (st : List Value) (h : ax_H) (n cs ss : Nat) : Option ax_F := match i with
  | .arraylength => match st with
    | .retAddr 2 :: st => some (pc + 1, lv, .int (Int32.ofNat L) :: st, h, n, cs, ss)
    | _ => none
  | .iaload => match st with
    | .int k :: .retAddr 2 :: st => bif ax_inB k L then some (pc + 1, lv, sc k.toNatClampNeg :: st, h, n, cs, ss) else none
    | _ => none
  | .iand => match st with
    | .int k :: v :: st => bif decide (k = 63) && decide (v = sc 0) then some (pc + 1, lv, opv :: st, h, n, cs, ss) else none
    | _ => none
  | .lcmp => match st with
    | .long y :: .long x :: st => some (pc + 1, lv, .int (lg_cmp x y) :: st, h, n, cs, ss)
    | _ => none
  | i => ax_step iv 4 i pe pc lv st h n cs ss
/-- runs on to a pc, by a given step -/
def ax_lgo (iv : Nat → Int × Int) (prog : List ax_MI) (stp : Instr → ax_PE → Nat → List (Nat × Value) → List Value → ax_H → Nat → Nat → Nat → Option ax_F) (tab : List (List ax_EN)) (stop : Nat) : Nat → Nat → List (Nat × Value) → List Value → ax_H → Nat → Nat → Nat → Option ax_F
  | 0, _, _, _, _, _, _, _ => none
  | f + 1, pc, lv, st, h, n, cs, ss => bif Nat.beq pc stop then some (pc, lv, st, h, n, cs, ss) else match ax_at tab pc with
    | none => none
    | some e => match ax_inv prog e.2.1 e.2.2.2.1 st h with
      | some q => bif Nat.ble (cs + q.1.2.2.2.2.2.2.1) 600000 && Nat.ble (ss + q.1.2.2.2.2.2.2.2.1) 7302250 then (match ax_call iv prog 20 q.1 q.2.1 h n with
          | some o => ax_lgo iv prog stp tab stop f (pc + 3) lv (o.1.toList ++ q.2.2) o.2.1 o.2.2 (cs + q.1.2.2.2.2.2.2.1) (ss + q.1.2.2.2.2.2.2.2.1)
          | none => none) else none
      | none => match stp e.2.1 e.2.2.2.1 pc lv st h n cs ss with
        | some F => bif Nat.ble F.2.2.2.2.2.1 600000 && Nat.ble F.2.2.2.2.2.2 7302250 then ax_lgo iv prog stp tab stop f F.1 F.2.1 F.2.2.1 F.2.2.2.1 F.2.2.2.2.1 F.2.2.2.2.2.1 F.2.2.2.2.2.2 else none
        | none => none
section AXL
variable {G : ax_T} {p : Program} {l : Launch} {e : Env} {s : State} {m : MethodId} {args : Array Value} {below : List Frame} {meth : Method} {c : Code} {Q : State → Prop} {own nm : String} {cc : ByteArray}
variable {pc : Nat} {lv : List (Nat × Value)} {st : List Value} {h : ax_H} {n cs ss : Nat} {iv : Nat → Int × Int} {pe : ax_PE} {F : ax_F} {b L : Nat} {xs : Nat → Int32} {sc : Nat → Value} {opv : Value}
/-- the script, among the cells below B -/
theorem ax_scr {H : Heap} {g : Nat → Option ax_C} (hX : va_X b L xs s G.2.2.1) (hb : b < G.2.1) (hR : ax_R G g n H) : va_X b L xs s H := hX.kept (hR.2.2 b hb)
theorem ax_scr_len {ls : Array Slot} {H : Heap} {locs : List Loc} {R : Room} {rest : List Value} (hx : p.tables.exec = Jvm.exec) (hbb : c.code = cc) (hX : va_X b L xs s H) (hd : decode cc pc = .ok (.arraylength, 1))
    (kk : W p l e R s m args below meth c H locs cs ss Q (F0 m (pc + 1) ls (.int (Int32.ofNat L) :: rest))) : W p l e R s m args below meth c H locs cs ss Q (F0 m pc ls (.ref b :: rest)) := by
  obtain ⟨scr, h1, h2, h3, h4, h5⟩ := hX
  exact W.alen (n := Int32.ofNat L) hx hbb h1 h2 (by rw [h4] <;> rfl) rfl rfl hd kk
theorem ax_scr_at {ls : Array Slot} {H : Heap} {locs : List Loc} {R : Room} {rest : List Value} (hx : p.tables.exec = Jvm.exec) (hbb : c.code = cc) (hX : va_X b L xs s H) {i : Int32} (hin : vp_in i L) (hd : decode cc pc = .ok (.iaload, 1))
    (kk : W p l e R s m args below meth c H locs cs ss Q (F0 m (pc + 1) ls (.int (xs i.toNatClampNeg) :: rest))) : W p l e R s m args below meth c H locs cs ss Q (F0 m pc ls (.int i :: .ref b :: rest)) := by
  obtain ⟨scr, h1, h2, h3, h4, h5⟩ := hX
  have hlt : i.toNatClampNeg < L := Nat.not_le.mp fun q => hin (Or.inr q)
  exact W.iald (v := .int (xs i.toNatClampNeg)) hx hbb h1 h2 h3 (by rw [h4]; exact hin) (h5 _ hlt) rfl rfl hd kk
theorem ax_stepL_ok {prog : List ax_MI} {R : Room} (M : ax_M G p s m args meth c own cc 4) (hnm : meth.name = nm) (hρ : ∀ u, (iv u).1 ≤ (G.2.2.2.1 u).toInt ∧ (G.2.2.2.1 u).toInt ≤ (iv u).2)
    (hX : va_X b L xs s G.2.2.1) (hbB : b < G.2.1) (hso : G.2.2.2.2.1 2 = b) (hsc : ∀ j, ax_v G (sc j) = .int (xs j)) (hop : ax_v G opv = .int (xs 0 &&& 63))
    {i : Instr} {len : Nat} (hok : ax_Ok prog own nm cc pc i len pe) (hs : ax_stepL iv L sc opv i pe pc lv st h n cs ss = some F) (hr : F.2.2.2.2.2.1 ≤ R.cells ∧ F.2.2.2.2.2.2 ≤ R.slots ∧ 1 ≤ R.frames ∧ 40 ≤ R.locals)
    (kk : ax_WF G p l e R s m args below meth c Q 4 F) : ax_W G p l e R s m args below meth c Q 4 pc lv st (ax_hget h) n cs ss := by
  obtain ⟨hx, hb, hml, hown, hts, hlocks, hXX⟩ := id M
  cases i with
  | arraylength =>
    obtain ⟨hd, hlen, hw⟩ := hok
    obtain rfl : len = 1 := hlen.elim (fun q => absurd q (Nat.succ_ne_zero _)) (fun q => q)
    simp only [ax_stepL] at hs
    split at hs
    · obtain rfl := Option.some.inj hs
      intro ls H locs hl hR hL
      have hv : ax_v G (.retAddr 2) = .ref b := by show Value.ref _ = _; rw [hso]
      simp only [List.map_cons, hv]
      exact ax_scr_len hx hb (ax_scr hX hbB hR) hd (kk ls H locs hl hR hL)
    · cases hs
  | iaload =>
    obtain ⟨hd, hlen, hw⟩ := hok
    obtain rfl : len = 1 := hlen.elim (fun q => absurd q (Nat.succ_ne_zero _)) (fun q => q)
    simp only [ax_stepL] at hs
    split at hs
    · rename_i k st'
      cases e1 : ax_inB k L with
      | false => simp only [e1, cond_false] at hs; cases hs
      | true =>
        simp only [e1, cond_true] at hs
        obtain rfl := Option.some.inj hs
        intro ls H locs hl hR hL
        have hv : ax_v G (.retAddr 2) = .ref b := by show Value.ref _ = _; rw [hso]
        have hin := ax_inB_ok e1
        have hk := kk ls H locs hl hR hL
        simp only [List.map_cons, hsc] at hk
        simp only [List.map_cons, hv]
        exact ax_scr_at hx hb (ax_scr hX hbB hR) hin hd hk
    · cases hs
  | iand =>
    obtain ⟨hd, hlen, hw⟩ := hok
    obtain rfl : len = 1 := hlen.elim (fun q => absurd q (Nat.succ_ne_zero _)) (fun q => q)
    simp only [ax_stepL] at hs
    split at hs
    · rename_i k v st'
      cases e1 : (decide (k = 63) && decide (v = sc 0)) with
      | false => simp only [e1, cond_false] at hs; cases hs
      | true =>
        simp only [e1, cond_true] at hs
        obtain rfl := Option.some.inj hs
        simp only [Bool.and_eq_true, decide_eq_true_eq] at e1
        obtain ⟨rfl, rfl⟩ := e1
        intro ls H locs hl hR hL
        have hk := kk ls H locs hl hR hL
        simp only [List.map_cons, hop] at hk
        simp only [List.map_cons, hsc]
        exact lv_iand hx hb hd hk
    · cases hs
  | lcmp =>
    obtain ⟨hd, hlen, hw⟩ := hok
    obtain rfl : len = 1 := hlen.elim (fun q => absurd q (Nat.succ_ne_zero _)) (fun q => q)
    simp only [ax_stepL] at hs
    split at hs
    · obtain rfl := Option.some.inj hs
      exact fun ls H locs hl hR hL => W.lcmp hx hb hd (kk ls H locs hl hR hL)
    · cases hs
  | _ => exact ax_step_ok M hnm hρ hok hs hr kk
theorem ax_lgo_ok {prog : List ax_MI} (hprog : ax_Prog prog) {tab : List (List ax_EN)} (htab : ∀ ch ∈ tab, ∀ en ∈ ch, ax_Ok prog own nm cc en.1 en.2.1 en.2.2.1 en.2.2.2.1) (M : ax_M G p s m args meth c own cc 4) (hρ : ∀ u, (iv u).1 ≤ (G.2.2.2.1 u).toInt ∧ (G.2.2.2.1 u).toInt ≤ (iv u).2)
    {stp : Instr → ax_PE → Nat → List (Nat × Value) → List Value → ax_H → Nat → Nat → Nat → Option ax_F}
    (hstp : ∀ (i : Instr) (len : Nat) (pe : ax_PE) (pc : Nat) (lv : List (Nat × Value)) (st : List Value) (h : ax_H) (n cs ss : Nat) (F : ax_F), ax_Ok prog own nm cc pc i len pe → stp i pe pc lv st h n cs ss = some F → F.2.2.2.2.2.1 ≤ room_1.cells ∧ F.2.2.2.2.2.2 ≤ room_1.slots ∧ 1 ≤ room_1.frames ∧ 40 ≤ room_1.locals → ax_WF G p l e room_1 s m args below meth c Q 4 F → ax_W G p l e room_1 s m args below meth c Q 4 pc lv st (ax_hget h) n cs ss) {stop : Nat} :
    ∀ (f pc : Nat) (lv : List (Nat × Value)) (st : List Value) (h : ax_H) (n cs ss : Nat) (F : ax_F), ax_lgo iv prog stp tab stop f pc lv st h n cs ss = some F → ax_WF G p l e room_1 s m args below meth c Q 4 F → ax_W G p l e room_1 s m args below meth c Q 4 pc lv st (ax_hget h) n cs ss := by
  intro f
  induction f with
  | zero => intro pc lv st h n cs ss F ho; cases ho
  | succ f ih =>
    intro pc lv st h n cs ss F ho kk
    rw [ax_lgo] at ho
    cases es : Nat.beq pc stop with
    | true =>
      rw [es] at ho
      obtain rfl := Option.some.inj ho
      exact kk
    | false =>
      rw [es] at ho
      simp only [cond_false] at ho
      cases ea : ax_at tab pc with
      | none => rw [ea] at ho; cases ho
      | some en =>
        simp only [ea] at ho
        obtain ⟨hpc, ch, hch, hen⟩ := ax_at_ok ea
        have hok := htab ch hch en hen
        rw [hpc] at hok
        cases ei : ax_inv prog en.2.1 en.2.2.2.1 st h with
        | some q =>
          simp only [ei] at ho
          cases eb : (Nat.ble (cs + q.1.2.2.2.2.2.2.1) 600000 && Nat.ble (ss + q.1.2.2.2.2.2.2.2.1) 7302250) with
          | false => rw [eb] at ho; cases ho
          | true =>
            rw [eb] at ho
            simp only [cond_true] at ho
            simp only [Bool.and_eq_true, Nat.ble_eq] at eb
            cases ec : ax_call iv prog 20 q.1 q.2.1 h n with
            | none => rw [ec] at ho; cases ho
            | some o1 =>
              simp only [ec] at ho
              obtain ⟨hM, hn1⟩ := ax_call_ok (l := l) (G := G) hprog hρ 20 q.1 q.2.1 h n o1 (ax_inv_in ei) ec
              exact ax_inv_ok hprog M hok ei (fun _ => hM) (Nat.le_of_ble_eq_true rfl) (Nat.le_of_ble_eq_true rfl) eb.1 eb.2 (ih _ _ _ _ _ _ _ F ho kk) hn1
        | none =>
          simp only [ei] at ho
          cases et : stp en.2.1 en.2.2.2.1 pc lv st h n cs ss with
          | none => rw [et] at ho; cases ho
          | some F1 =>
            simp only [et] at ho
            cases eb : (Nat.ble F1.2.2.2.2.2.1 600000 && Nat.ble F1.2.2.2.2.2.2 7302250) with
            | false => rw [eb] at ho; cases ho
            | true =>
              rw [eb] at ho
              simp only [cond_true] at ho
              simp only [Bool.and_eq_true, Nat.ble_eq] at eb
              exact hstp _ _ _ _ _ _ _ _ _ _ _ hok et ⟨eb.1, eb.2, Nat.le_of_ble_eq_true rfl, Nat.le_of_ble_eq_true rfl⟩ (ih _ _ _ _ _ _ _ F ho kk)
end AXL

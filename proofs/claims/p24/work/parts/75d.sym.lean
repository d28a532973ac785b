/-- a bound of ints -/
theorem cs_bd (x : Int32) : -2147483648 ≤ x.toInt ∧ x.toInt ≤ 2147483647 := by
  have h1 := x.le_toInt
  have h2 := x.toInt_lt
  omega
/-! ===== walks with ints that are not known: segments, branches, contracts ===== -/
section AXY
variable {G : ax_T} {p : Program} {l : Launch} {e : Env} {R : Room} {s : State} {m : MethodId} {args : Array Value} {below : List Frame} {meth : Method} {c : Code} {Q : State → Prop} {own nm : String} {cc : ByteArray} {nL : Nat}
variable {pc : Nat} {lv : List (Nat × Value)} {st : List Value} {h : ax_H} {g : Nat → Option ax_C} {n cs ss : Nat}
/-- a step that makes no cell: by the table, by the machine of the cells -/
theorem ax_one {prog : List ax_MI} (M : ax_M G p s m args meth c own cc nL) (hnm : meth.name = nm) {tab : List (List ax_EN)} (htab : ∀ ch ∈ tab, ∀ en ∈ ch, ax_Ok prog own nm cc en.1 en.2.1 en.2.2.1 en.2.2.2.1) (hrm : 1 ≤ R.frames ∧ 40 ≤ R.locals) {pc' n' : Nat} {lv' : List (Nat × Value)} {st' : List Value} {h' : ax_H} {en : ax_EN} (hat : ax_at tab pc = some en)
    (hst : ax_step (fun _ => (-2147483648, 2147483647)) nL en.2.1 en.2.2.2.1 pc lv st h n cs ss = some (pc', lv', st', h', n', cs, ss)) (hcs : cs ≤ R.cells) (hss : ss ≤ R.slots) (kk : ax_W G p l e R s m args below meth c Q nL pc' lv' st' (ax_hget h') n' cs ss) : ax_W G p l e R s m args below meth c Q nL pc lv st (ax_hget h) n cs ss := by
  obtain ⟨hpc, ch, hch, hen⟩ := ax_at_ok hat
  have hok := htab ch hch en hen
  rw [hpc] at hok
  exact ax_step_ok M hnm (fun u => cs_bd _) hok hst ⟨hcs, hss, hrm.1, hrm.2⟩ kk
theorem ax_if2 (M : ax_M G p s m args meth c own cc nL) {cn : ClassFile.Cond} {off : Int} {tgt : Nat} {x : Int32} (hd : decode cc pc = .ok (.ifCond cn off, 3)) (ht : (pc : Int) + off = (tgt : Int))
    (kt : ax_holds cn x 0 → ax_W G p l e R s m args below meth c Q nL tgt lv st g n cs ss) (kf : ¬ ax_holds cn x 0 → ax_W G p l e R s m args below meth c Q nL (pc + 3) lv st g n cs ss) : ax_W G p l e R s m args below meth c Q nL pc lv (.int x :: st) g n cs ss := by
  intro ls H locs hl hR hL
  obtain ⟨hx, hb, -⟩ := M
  cases cn with
  | eq => exact lv_if_eq hx hb hd ht (fun q => kt q ls H locs hl hR hL) (fun q => kf q ls H locs hl hR hL)
  | ne => exact lv_if_ne hx hb hd ht (fun q => kt q ls H locs hl hR hL) (fun q => kf (fun z => z q) ls H locs hl hR hL)
  | lt => exact lv_if_lt hx hb hd ht (fun q => kt q ls H locs hl hR hL) (fun q => kf q ls H locs hl hR hL)
  | ge => exact lv_if_ge hx hb hd ht (fun q => kt q ls H locs hl hR hL) (fun q => kf q ls H locs hl hR hL)
  | gt => exact lv_if_gt hx hb hd ht (fun q => kt q ls H locs hl hR hL) (fun q => kf q ls H locs hl hR hL)
  | le => exact lv_if_le hx hb hd ht (fun q => kt q ls H locs hl hR hL) (fun q => kf q ls H locs hl hR hL)
theorem ax_icmp2 (M : ax_M G p s m args meth c own cc nL) {cn : ClassFile.Cond} {off : Int} {tgt : Nat} {x y : Int32} (hd : decode cc pc = .ok (.if_icmp cn off, 3)) (ht : (pc : Int) + off = (tgt : Int))
    (kt : ax_holds cn x y → ax_W G p l e R s m args below meth c Q nL tgt lv st g n cs ss) (kf : ¬ ax_holds cn x y → ax_W G p l e R s m args below meth c Q nL (pc + 3) lv st g n cs ss) : ax_W G p l e R s m args below meth c Q nL pc lv (.int y :: .int x :: st) g n cs ss := by
  intro ls H locs hl hR hL
  obtain ⟨hx, hb, -⟩ := M
  cases cn with
  | eq => exact lv_icmp_eq hx hb hd ht (fun q => kt q ls H locs hl hR hL) (fun q => kf q ls H locs hl hR hL)
  | ne => exact lv_icmp_ne hx hb hd ht (fun q => kt q ls H locs hl hR hL) (fun q => kf (fun z => z q) ls H locs hl hR hL)
  | lt => exact lv_icmp_lt hx hb hd ht (fun q => kt q ls H locs hl hR hL) (fun q => kf q ls H locs hl hR hL)
  | ge => exact lv_icmp_ge hx hb hd ht (fun q => kt q ls H locs hl hR hL) (fun q => kf q ls H locs hl hR hL)
  | gt => exact lv_icmp_gt hx hb hd ht (fun q => kt q ls H locs hl hR hL) (fun q => kf q ls H locs hl hR hL)
  | le => exact lv_icmp_le hx hb hd ht (fun q => kt q ls H locs hl hR hL) (fun q => kf q ls H locs hl hR hL)
/-- a contract out of a walk of the body -/
theorem ax_met_of {y : MethodName} {bytes : ByteArray} {maxL d mc ms n' : Nat} {ret : Option FieldType} {as : List Value} {r : Option Value} {g' : Nat → Option ax_C} (hplain : plainName y.cls = true) (hlen : (lg_sl as).length ≤ maxL)
    (hbody : ∀ (p : Program) (e : Env) (s : State) (m : MethodId) (args : Array Value) (below : List Frame) (meth : Method) (c : Code), ax_M G p s m args meth c y.cls bytes maxL → meth.name = y.name → meth.sig.returnType = ret →
      ax_W G p l e (ax_rm d mc ms) s m args below meth c (MQ below (ax_Qc G r g' n') args s mc ms (fun q => G.2.1 ≤ q)) maxL 0 (lv_args 0 as) [] g n 0 0) : ax_Met l G y bytes maxL ret d as g n r g' n' mc ms := by
  unfold ax_Met
  refine Met.ofW (cc := bytes) (maxL := maxL) (ret := ret) hplain rfl ?_
  intro p e s m args below meth c s₁ B hml hv
  obtain ⟨rfl, hX, hRel⟩ := hv
  have hts := atoms_spec (ws := Cond.code y bytes maxL ret :: ax_G) B.pre
  have hown : s.vm.findClass y.cls = some m.cls := findClass_of_methodNamed B.named
  have M : ax_M G p s m (as.map (ax_v G)).toArray meth c y.cls bytes maxL := ⟨B.exec, B.bytes, hml, hown, fun w hw => hts w (List.mem_cons_of_mem _ hw), B.notSynchronized, hX⟩
  have hl := lv_entry (as.map (ax_v G)) (n := maxL) (by rw [ax_sl_len]; exact hlen)
  rw [lg_entry_eq]
  rw [ax_args_map] at hl
  exact hbody p e s m _ below meth c M (name_of_methodNamed B.named B.method).1 B.returns _ s.heap [] hl hRel (fun q hq => by cases hq)
end AXY

/-! ===== signs of letters exactly; the class's reading of a custom's text, letter by letter (ways printed by wip/v2/mk84a.py) ===== -/
def pg_L : List Int := [73, 86, 88, 76, 67, 68, 77, 105, 118, 120, 108, 99, 100, 109]
def pg_sA : List Int → Int → Int → Int
  | [], _, _ => -1
  | c :: L, i, x => if c = x then i else pg_sA L (i + 1) x
/-- the number of a letter's sign; -1: it is none -/
def pg_s (x : Int) : Int := pg_sA pg_L 0 x
def pg_W : List Int32 := [1, 5, 10, 50, 100, 500, 1000, 1000, 5000, 10000, 50000, 100000, 500000, 1000000]
def pg_w (i : Int) : Int := (pg_W.getD i.toNat 0).toInt
def pg_at (p s : Int) : Int := p + 8 * s
def pg_mark (p s : Int) : Int := if p = 1 ∧ 1 * pg_w s < pg_w 13 then pg_at 3 s else if p = 3 ∧ 2 * pg_w s < pg_w 13 then pg_at 4 s else -1
def pg_sign (p s m : Int) : Int := if p = 0 then pg_at 1 m else if p = 3 ∨ p = 5 then (if 1 * pg_w s < pg_w m then pg_at 5 s else -1) else if p = 4 ∨ p = 6 then (if 2 * pg_w s < pg_w m then pg_at 6 s else -1) else -1
def pg_ends (p : Int) : Prop := p = 2 ∨ p = 5 ∨ p = 6
/-- the state behind one more letter; -1: none -/
def pg_after (S x : Int) : Int := if x = 44 then (if S % 8 = 2 ∨ S % 8 = 5 ∨ S % 8 = 6 then 0 else -1) else if x = 60 then pg_mark (S % 8) (S / 8) else if 49 ≤ x ∧ x ≤ 57 then (if S % 8 = 1 then pg_at 2 (S / 8) else -1) else if pg_s x < 0 then -1 else pg_sign (S % 8) (S / 8) (pg_s x)
theorem pg_sA_r : ∀ (L : List Int) (i x : Int), 0 ≤ i → pg_sA L i x = -1 ∨ i ≤ pg_sA L i x ∧ pg_sA L i x < i + L.length
  | [], i, x, _ => Or.inl rfl
  | c :: L, i, x, hi => by
    unfold pg_sA
    split
    · right
      simp only [List.length_cons]
      omega
    · have := pg_sA_r L (i + 1) x (by omega)
      simp only [List.length_cons]
      omega
theorem pg_s_r (x : Int) : pg_s x = -1 ∨ 0 ≤ pg_s x ∧ pg_s x ≤ 13 := by
  have := pg_sA_r pg_L 0 x (Int.le_refl 0)
  have hl : (pg_L.length : Int) = 14 := rfl
  unfold pg_s
  omega
theorem pg_sA_no : ∀ (L : List Int) (i x : Int), (∀ t, t < L.length → L.getD t 0 ≠ x) → pg_sA L i x = -1
  | [], i, x, _ => rfl
  | c :: L, i, x, h => by
    have h0 : c ≠ x := h 0 (by simp)
    unfold pg_sA
    rw [if_neg h0]
    exact pg_sA_no L (i + 1) x (fun t ht => h (t + 1) (by simp; omega))
theorem pg_sA_hit : ∀ (L : List Int) (i x : Int) (j : Nat), j < L.length → L.getD j 0 = x → (∀ t, t < j → L.getD t 0 ≠ x) → pg_sA L i x = i + j
  | [], i, x, j, hj, _, _ => by simp at hj
  | c :: L, i, x, 0, _, hx, _ => by
    have h0 : c = x := hx
    unfold pg_sA
    rw [if_pos h0]
    omega
  | c :: L, i, x, j + 1, hj, hx, h => by
    have h0 : c ≠ x := h 0 (by omega)
    unfold pg_sA
    rw [if_neg h0, pg_sA_hit L (i + 1) x j (by simpa using hj) hx (fun t ht => h (t + 1) (by omega))]
    omega
set_option maxRecDepth 100000 in
theorem rx_k4 : ∀ k : Nat, k < 256 → (rx_ix (Int32.ofNat k).toInt8.toInt32 14 0).toInt = pg_s (k : Int) := by decide +kernel
set_option maxRecDepth 100000 in
theorem mc_sgn {l : Launch} {G : ax_T} {d : Nat} {h : ax_H} {n : Nat} (x : Int32) (hd : 9 ≤ d) (h0 : 0 ≤ x.toInt) (h255 : x.toInt ≤ 255) : mc_M l G d mt_X10_signOf [.int x] h n (mc_P h n fun y => y.toInt = pg_s x.toInt) := by
  obtain ⟨k, hk, rfl⟩ : ∃ k : Nat, k < 256 ∧ Int32.ofNat k = x := ⟨x.toInt.toNat, by omega, by
    apply Int32.toInt_inj.mp
    rw [Int32.toInt_ofNat_of_lt (by omega)]
    omega⟩
  have hki : (Int32.ofNat k).toInt = (k : Int) := Int32.toInt_ofNat_of_lt (by omega)
  refine ⟨(some (.int (rx_ix (Int32.ofNat k).toInt8.toInt32 14 0)), h, n), ⟨?_, fun e => by cases e⟩, rfl, rfl, _, rfl, by rw [hki]; exact rx_k4 k hk⟩
  show Met l yX10_signOf (Cond.code yX10_signOf cX10_signOf 1 (some .int) :: ax_G) (ax_rm d 0 0) (ax_Pc G [.int (Int32.ofNat k)] (ax_hget h) n) (ax_Qc G (some (.int (rx_ix (Int32.ofNat k).toInt8.toInt32 14 0))) (ax_hget h) n) 0 0 (fun q => G.2.1 ≤ q)
  refine Met.ofW (cc := cX10_signOf) (maxL := 1) (ret := some .int) (by decide +kernel) rfl ?_
  intro p e s m args below meth c s₁ B hml hv
  obtain ⟨rfl, hX, hR⟩ := hv
  have hts := atoms_spec (ws := Cond.code yX10_signOf cX10_signOf 1 (some .int) :: ax_G) B.pre
  have hown : s.vm.findClass "LetterSums" = some m.cls := findClass_of_methodNamed B.named
  have M : ax_M G p s m ([Value.int (Int32.ofNat k)]).toArray meth c "LetterSums" cX10_signOf 1 := ⟨B.exec, B.bytes, hml, hown, fun w hw => hts w (List.mem_cons_of_mem _ hw), B.notSynchronized, hX⟩
  obtain ⟨sa, va, hS, hF⟩ := hX.2.2.1.2.2.2
  have hl := lv_entry [Value.int (Int32.ofNat k)] (n := 1) (Nat.le_of_ble_eq_true rfl)
  show W p l e (ax_rm d 0 0) s m ([Value.int (Int32.ofNat k)]).toArray below meth c s.heap [] 0 0 (MQ below (ax_Qc G (some (.int (rx_ix (Int32.ofNat k).toInt8.toInt32 14 0))) (ax_hget h) n) ([Value.int (Int32.ofNat k)]).toArray s 0 0 (fun q => G.2.1 ≤ q)) (entryFrame m ([Value.int (Int32.ofNat k)]).toArray 1)
  rw [lg_entry_eq]
  have hrt := B.returns
  have hlk := B.notSynchronized
  have hx := B.exec
  have hb := B.bytes
  have hL : ∀ q ∈ ([] : List Loc), G.2.1 ≤ q.base := fun q hq => by cases hq
  refine rx_ldcW hx hb hown hS (by decide +kernel) ?_
  refine lv_iload_n (k := 0) hx hb (by decide +kernel) rfl (lv_at hl 0 rfl) ?_
  refine lv_i2c hx hb (by decide +kernel) (rx_k1 k hk) ?_
  refine rx_callV (lv := [(0, .int (Int32.ofNat k))]) ⟨M, hF⟩ (rx_i (d := d - 1) (by omega) rfl (rx_k2 k hk).1 (rx_k2 k hk).2) (nA := 1) ⟨rx_in (by decide +kernel) (by decide +kernel), rx_in (by decide +kernel) (by decide +kernel), ⟨by decide, by decide, by decide +kernel⟩, by decide⟩ rfl (rx_in (by decide +kernel) (by decide +kernel)) (rx_in (by decide +kernel) (by decide +kernel)) (idx := 316) (rx_in (by decide +kernel) (by decide +kernel)) rfl (by show d - 1 + 1 ≤ d; omega) (by show 40 * (d - 1 + 1) ≤ 40 * d; omega) (rest := []) (by decide) rfl (by decide +kernel) ?_ _ s.heap [] hl hR hL
  intro ls H locs hl hR hL
  exact W.iret hx hb hrt (fun t ht hW => ⟨rfl, by rw [ht]; exact hR⟩) hL (by decide +kernel) hlk
set_option maxRecDepth 100000 in
theorem so_loopE {l : Launch} {G : ax_T} {d : Nat} {h : ax_H} {n : Nat} (H : mc_HW h n) (c : Int32) : ∀ (e j : Nat) (i : Int32), j + e = 14 → i.toInt = (j : Int) → (∀ t : Nat, t < j → ab_let.getD t 0 ≠ c.toInt) → mc_R l G mt_X11_signOf d (mc_P h n fun y => y.toInt = pg_s c.toInt) (2, [(0, .ref 542), (1, .int c), (2, .int i)], [], h, n, 0, 0) := by
  have hmi : mt_X11_signOf ∈ mt_prog := List.mem_of_getElem? mi_X11_signOf
  intro e
  induction e with
  | zero =>
    intro j i hj hi hno
    refine mc_cx hmi 2 (F' := (5, [(0, .ref 542), (1, .int c), (2, .int i)], [.int (Int8.ofInt 14).toInt32, .int i], h, n, 0, 0)) (by with_unfolding_all rfl) ?_
    refine mc_ci hmi (c := .ge) (tg := 26) (pc' := 8) rfl rfl rfl hi (by decide) (fun (q101 : 14 ≤ (j : Int)) => ?_) (fun (q101 : (j : Int) < 14) => ?_)
    · refine mc_cx hmi 1 (F' := (27, [(0, .ref 542), (1, .int c), (2, .int i)], [.int (Int32.ofInt (-1))], h, n, 0, 0)) (by with_unfolding_all rfl) ?_
      refine mc_ret hmi rfl rfl rfl ⟨rfl, rfl, _, rfl, ?_⟩
      show (Int32.ofInt (-1)).toInt = pg_sA pg_L 0 c.toInt
      rw [pg_sA_no pg_L 0 c.toInt (fun t ht => hno t (by have : pg_L.length = 14 := rfl; omega))]
      rfl
    · exact absurd q101 (by omega)
  | succ e ih =>
    intro j i hj hi hno
    refine mc_cx hmi 2 (F' := (5, [(0, .ref 542), (1, .int c), (2, .int i)], [.int (Int8.ofInt 14).toInt32, .int i], h, n, 0, 0)) (by with_unfolding_all rfl) ?_
    refine mc_ci hmi (c := .ge) (tg := 26) (pc' := 8) rfl rfl rfl hi (by decide) (fun (q102 : 14 ≤ (j : Int)) => ?_) (fun (q102 : (j : Int) < 14) => ?_)
    · exact absurd q102 (by omega)
    · have hc := let_at h n H j (by omega)
      refine mc_cx hmi 1 (F' := (9, [(0, .ref 542), (1, .int c), (2, .int i)], [.ref 542], h, n, 0, 0)) (by with_unfolding_all rfl) ?_
      refine mc_getr hmi H (k := 542) (c := 544) (pc' := 12) rfl rfl rfl rfl rfl ?_
      refine mc_cx hmi 1 (F' := (13, [(0, .ref 542), (1, .int c), (2, .int i)], [.int i, .ref 544], h, n, 0, 0)) (by with_unfolding_all rfl) ?_
      refine mc_iald hmi H (k := 544) (i := (j : Int)) (pc' := 14) rfl rfl rfl hi (by omega) (by omega) rfl (fun y103 e104 r105 r106 => ?_)
      rw [e104] at r105 r106
      refine mc_cx hmi 1 (F' := (15, [(0, .ref 542), (1, .int c), (2, .int i)], [.int c, .int y103], h, n, 0, 0)) (by with_unfolding_all rfl) ?_
      refine mc_ci hmi (c := .ne) (tg := 20) (pc' := 18) rfl rfl rfl e104 rfl (fun (q107 : ab_ri h 544 ((j : Int)) ≠ c.toInt) => ?_) (fun (q107 : ab_ri h 544 ((j : Int)) = c.toInt) => ?_)
      · refine mc_cx hmi 2 (F' := (2, [(2, .int (i + Int32.ofInt 1)), (0, .ref 542), (1, .int c)], [], h, n, 0, 0)) (by with_unfolding_all rfl) ?_
        have e108 : (i + Int32.ofInt 1).toInt = (j : Int) + 1 := mc_add hi (by decide) (by omega) (by omega)
        refine mc_lvs (lv' := [(0, .ref 542), (1, .int c), (2, .int (i + Int32.ofInt 1))]) (by simp) ?_
        refine ih (j + 1) (i + Int32.ofInt 1) (by omega) (by rw [e108]; omega) (fun t ht => ?_)
        by_cases q : t = j
        · rw [q, ← hc]; exact q107
        · exact hno t (by omega)
      · refine mc_cx hmi 1 (F' := (19, [(0, .ref 542), (1, .int c), (2, .int i)], [.int i], h, n, 0, 0)) (by with_unfolding_all rfl) ?_
        refine mc_ret hmi rfl rfl rfl ⟨rfl, rfl, _, rfl, ?_⟩
        have := pg_sA_hit pg_L 0 c.toInt j (by have : pg_L.length = 14 := rfl; omega) (by rw [← q107, hc]; rfl) (fun t ht => hno t ht)
        show i.toInt = pg_sA pg_L 0 c.toInt
        rw [this, hi]; omega
set_option maxRecDepth 100000 in
theorem mc_signOfE {l : Launch} {G : ax_T} {d : Nat} {h : ax_H} {n : Nat} (hd : 1 ≤ d) (H : mc_HW h n) (c : Int32) : mc_M l G d mt_X11_signOf [.ref 542, .int c] h n (mc_P h n fun y => y.toInt = pg_s c.toInt) := by
  obtain ⟨d, rfl⟩ : ∃ e, d = e + 1 := ⟨d - 1, by omega⟩
  have hmi : mt_X11_signOf ∈ mt_prog := List.mem_of_getElem? mi_X11_signOf
  refine mc_to hmi rfl ?_
  show mc_R _ _ _ _ _ (0, [(0, .ref 542), (1, .int c)], [], h, n, 0, 0)
  refine mc_cx hmi 2 (F' := (2, [(2, .int (Int32.ofInt 0)), (0, .ref 542), (1, .int c)], [], h, n, 0, 0)) (by with_unfolding_all rfl) ?_
  refine mc_lvs (lv' := [(0, .ref 542), (1, .int c), (2, .int (Int32.ofInt 0))]) (by simp) ?_
  exact so_loopE H c 14 0 _ rfl rfl (fun t ht => absurd ht (Nat.not_lt_zero t))
theorem ri_of {h : ax_H} {k : Nat} {i : Int} {x : Int32} (e : ab_rd h k i = some (.int x)) : ab_ri h k i = x.toInt := by unfold ab_ri; rw [e]
theorem pg_bits : ∀ k : Nat, k < 128 → ((Int32.ofNat k) &&& (Int8.ofInt 7).toInt32).toInt = (k : Int) % 8 ∧ ((Int32.ofNat k) >>> ((Int32.ofInt 3) &&& 31)).toInt = (k : Int) / 8 := by decide +kernel
theorem pg_ors : ∀ p : Nat, p < 8 → ∀ s : Nat, s < 16 → ((Int32.ofNat p) ||| ((Int32.ofNat s) <<< ((Int32.ofInt 3) &&& 31))).toInt = (p : Int) + 8 * (s : Int) := by decide +kernel
theorem pg_nat {x : Int32} {N : Nat} (h0 : 0 ≤ x.toInt) (h1 : x.toInt < N) : ∃ k : Nat, k < N ∧ (k : Int) = x.toInt ∧ x = Int32.ofNat k := by
  refine ⟨x.toInt.toNat, by omega, by omega, Int32.toInt_inj.mp ?_⟩
  have := x.toInt_lt
  rw [Int32.toInt_ofNat_of_lt (by omega)]
  omega
theorem pg_and7 {x : Int32} (h0 : 0 ≤ x.toInt) (h1 : x.toInt ≤ 127) : (x &&& (Int8.ofInt 7).toInt32).toInt = x.toInt % 8 := by
  obtain ⟨k, hk, e, rfl⟩ := pg_nat (N := 128) h0 (by omega)
  rw [← e]; exact (pg_bits k hk).1
theorem pg_shr3 {x : Int32} (h0 : 0 ≤ x.toInt) (h1 : x.toInt ≤ 127) : (x >>> ((Int32.ofInt 3) &&& 31)).toInt = x.toInt / 8 := by
  obtain ⟨k, hk, e, rfl⟩ := pg_nat (N := 128) h0 (by omega)
  rw [← e]; exact (pg_bits k hk).2
theorem pg_or {p s : Int32} (h0 : 0 ≤ p.toInt) (h1 : p.toInt ≤ 7) (h2 : 0 ≤ s.toInt) (h3 : s.toInt ≤ 15) : (p ||| (s <<< ((Int32.ofInt 3) &&& 31))).toInt = p.toInt + 8 * s.toInt := by
  obtain ⟨k, hk, e, rfl⟩ := pg_nat (N := 8) h0 (by omega)
  obtain ⟨j, hj, f, rfl⟩ := pg_nat (N := 16) h2 (by omega)
  rw [← e, ← f]; exact pg_ors k hk j hj
theorem pg_w_r : ∀ i : Nat, i < 14 → 1 ≤ pg_w (i : Int) ∧ pg_w (i : Int) ≤ 1000000 := by decide +kernel
theorem pg_w_le {i : Int} (h0 : 0 ≤ i) (h1 : i ≤ 13) : 1 ≤ pg_w i ∧ pg_w i ≤ 1000000 := by
  have := pg_w_r i.toNat (by omega)
  rw [show ((i.toNat : Nat) : Int) = i by omega] at this
  exact this
theorem mc_sald {l : Launch} {G : ax_T} {mi : ax_MI} {d : Nat} {Q : Option Value → ax_H → Nat → Prop} {pc pc' : Nat} {lv : List (Nat × Value)} {st : List Value} {h : ax_H} {n : Nat} (hmi : mi ∈ mt_prog) {hs : List Nat} {pe : ax_PE} {x : Int32} {i : Int} (ha : ax_at mi.2.2.2.2.2.2.2.2 pc = some (pc, .iaload, 1, pe, hs)) (hx : x.toInt = i) (h0 : 0 ≤ i) (h13 : i ≤ 13) (hp : pc + 1 = pc') (hR : ∀ y : Int32, y.toInt = pg_w i → mc_R l G mi d Q (pc', lv, .int y :: st, h, n, 0, 0)) : mc_R l G mi d Q (pc, lv, .int x :: .retAddr 0 :: st, h, n, 0, 0) := by
  subst hp
  have hc := mc_clamp (x := x) (by omega)
  refine mc_stp hmi ha ?_ (hR (pg_W.getD x.toNatClampNeg 0) ?_)
  · show (bif ax_inB x pg_W.length then some (pc + 1, lv, Value.int (pg_W.getD x.toNatClampNeg 0) :: st, h, n, 0, 0) else none) = _
    rw [show pg_W.length = 14 from rfl, mc_in (x := x) (N := 14) (by omega) (by omega)]
    rfl
  · unfold pg_w
    rw [show i.toNat = x.toNatClampNeg by omega]
set_option maxRecDepth 100000 in
theorem mc_at {l : Launch} {G : ax_T} {d : Nat} {h : ax_H} {n : Nat} (hd : 1 ≤ d) (p s : Int32) (p0 : 0 ≤ p.toInt) (p1 : p.toInt ≤ 7) (s0 : 0 ≤ s.toInt) (s1 : s.toInt ≤ 15) : mc_M l G d mt_X6_at [.int p, .int s] h n (mc_P h n fun y => y.toInt = pg_at p.toInt s.toInt) := by
  obtain ⟨d, rfl⟩ : ∃ e, d = e + 1 := ⟨d - 1, by omega⟩
  have hmi : mt_X6_at ∈ mt_prog := List.mem_of_getElem? mi_X6_at
  refine mc_to hmi rfl ?_
  show mc_R _ _ _ _ _ (0, [(0, .int p), (1, .int s)], [], h, n, 0, 0)
  refine mc_cx hmi 5 (F' := (5, [(0, .int p), (1, .int s)], [.int (p ||| (s <<< ((Int32.ofInt 3) &&& 31)))], h, n, 0, 0)) (by with_unfolding_all rfl) ?_
  exact mc_ret hmi rfl rfl rfl ⟨rfl, rfl, _, rfl, pg_or p0 p1 s0 s1⟩
set_option maxRecDepth 100000 in
theorem mc_ends {l : Launch} {G : ax_T} {d : Nat} {h : ax_H} {n : Nat} (hd : 1 ≤ d) (p : Int32) : mc_M l G d mt_X6_endsRule [.int p] h n (mc_P h n fun y => y.toInt = if p.toInt = 2 ∨ p.toInt = 5 ∨ p.toInt = 6 then 1 else 0) := by
  obtain ⟨d, rfl⟩ : ∃ e, d = e + 1 := ⟨d - 1, by omega⟩
  have hmi : mt_X6_endsRule ∈ mt_prog := List.mem_of_getElem? mi_X6_endsRule
  refine mc_to hmi rfl ?_
  show mc_R _ _ _ _ _ (0, [(0, .int p)], [], h, n, 0, 0)
  refine mc_cx hmi 2 (F' := (2, [(0, .int p)], [.int (Int32.ofInt 2), .int p], h, n, 0, 0)) (by with_unfolding_all rfl) ?_
  refine mc_ci hmi (c := .eq) (tg := 16) (pc' := 5) rfl rfl rfl rfl (by decide) (fun (q101 : p.toInt = 2) => ?_) (fun (q101 : p.toInt ≠ 2) => ?_)
  · refine mc_cx hmi 2 (F' := (21, [(0, .int p)], [.int (Int32.ofInt 1)], h, n, 0, 0)) (by with_unfolding_all rfl) ?_
    refine mc_ret hmi rfl rfl (mc_rb (by decide)) ⟨rfl, rfl, _, rfl, ?_⟩
    rw [if_pos (by omega)]; decide
  · refine mc_cx hmi 2 (F' := (7, [(0, .int p)], [.int (Int32.ofInt 5), .int p], h, n, 0, 0)) (by with_unfolding_all rfl) ?_
    refine mc_ci hmi (c := .eq) (tg := 16) (pc' := 10) rfl rfl rfl rfl (by decide) (fun (q102 : p.toInt = 5) => ?_) (fun (q102 : p.toInt ≠ 5) => ?_)
    · refine mc_cx hmi 2 (F' := (21, [(0, .int p)], [.int (Int32.ofInt 1)], h, n, 0, 0)) (by with_unfolding_all rfl) ?_
      refine mc_ret hmi rfl rfl (mc_rb (by decide)) ⟨rfl, rfl, _, rfl, ?_⟩
      rw [if_pos (by omega)]; decide
    · refine mc_cx hmi 2 (F' := (13, [(0, .int p)], [.int (Int8.ofInt 6).toInt32, .int p], h, n, 0, 0)) (by with_unfolding_all rfl) ?_
      refine mc_ci hmi (c := .ne) (tg := 20) (pc' := 16) rfl rfl rfl rfl (by decide) (fun (q103 : p.toInt ≠ 6) => ?_) (fun (q103 : p.toInt = 6) => ?_)
      · refine mc_cx hmi 1 (F' := (21, [(0, .int p)], [.int (Int32.ofInt 0)], h, n, 0, 0)) (by with_unfolding_all rfl) ?_
        refine mc_ret hmi rfl rfl (mc_rb (by decide)) ⟨rfl, rfl, _, rfl, ?_⟩
        rw [if_neg (by omega)]; decide
      · refine mc_cx hmi 2 (F' := (21, [(0, .int p)], [.int (Int32.ofInt 1)], h, n, 0, 0)) (by with_unfolding_all rfl) ?_
        refine mc_ret hmi rfl rfl (mc_rb (by decide)) ⟨rfl, rfl, _, rfl, ?_⟩
        rw [if_pos (by omega)]; decide
set_option maxRecDepth 100000 in
theorem mc_out {l : Launch} {G : ax_T} {d : Nat} {h : ax_H} {n : Nat} (hd : 1 ≤ d) (a k b : Int32) (a0 : 0 ≤ a.toInt) (a1 : a.toInt ≤ 13) (k0 : 1 ≤ k.toInt) (k1 : k.toInt ≤ 2) (b0 : 0 ≤ b.toInt) (b1 : b.toInt ≤ 13) : mc_M l G d mt_X6_outweighs [.int a, .int k, .int b] h n (mc_P h n fun y => y.toInt = if k.toInt * pg_w b.toInt < pg_w a.toInt then 1 else 0) := by
  obtain ⟨d, rfl⟩ : ∃ e, d = e + 1 := ⟨d - 1, by omega⟩
  have hmi : mt_X6_outweighs ∈ mt_prog := List.mem_of_getElem? mi_X6_outweighs
  refine mc_to hmi rfl ?_
  show mc_R _ _ _ _ _ (0, [(0, .int a), (1, .int k), (2, .int b)], [], h, n, 0, 0)
  have wb := pg_w_le b0 b1
  have hk : k.toInt * pg_w b.toInt ≤ 2000000 ∧ 0 ≤ k.toInt * pg_w b.toInt := by
    have : k.toInt = 1 ∨ k.toInt = 2 := by omega
    rcases this with e | e <;> rw [e] <;> omega
  refine mc_cx hmi 2 (F' := (4, [(0, .int a), (1, .int k), (2, .int b)], [.int a, .retAddr 0], h, n, 0, 0)) (by with_unfolding_all rfl) ?_
  refine mc_sald hmi (i := a.toInt) (pc' := 5) rfl rfl (by omega) (by omega) rfl (fun y104 e105 => ?_)
  refine mc_cx hmi 3 (F' := (10, [(0, .int a), (1, .int k), (2, .int b)], [.int b, .retAddr 0, .int k, .int y104], h, n, 0, 0)) (by with_unfolding_all rfl) ?_
  refine mc_sald hmi (i := b.toInt) (pc' := 11) rfl rfl (by omega) (by omega) rfl (fun y106 e107 => ?_)
  refine mc_cx hmi 1 (F' := (12, [(0, .int a), (1, .int k), (2, .int b)], [.int (k * y106), .int y104], h, n, 0, 0)) (by with_unfolding_all rfl) ?_
  have e108 : (k * y106).toInt = k.toInt * pg_w (b.toInt) := mc_mul rfl e107 (by omega) (by omega)
  refine mc_ci hmi (c := .le) (tg := 19) (pc' := 15) rfl rfl rfl e105 e108 (fun (q109 : pg_w (a.toInt) ≤ (k.toInt * pg_w (b.toInt))) => ?_) (fun (q109 : (k.toInt * pg_w (b.toInt)) < pg_w (a.toInt)) => ?_)
  · refine mc_cx hmi 1 (F' := (20, [(0, .int a), (1, .int k), (2, .int b)], [.int (Int32.ofInt 0)], h, n, 0, 0)) (by with_unfolding_all rfl) ?_
    refine mc_ret hmi rfl rfl (mc_rb (by decide)) ⟨rfl, rfl, _, rfl, ?_⟩
    rw [if_neg (by omega)]; decide
  · refine mc_cx hmi 2 (F' := (20, [(0, .int a), (1, .int k), (2, .int b)], [.int (Int32.ofInt 1)], h, n, 0, 0)) (by with_unfolding_all rfl) ?_
    refine mc_ret hmi rfl rfl (mc_rb (by decide)) ⟨rfl, rfl, _, rfl, ?_⟩
    rw [if_pos (by omega)]; decide
set_option maxRecDepth 100000 in
theorem mc_mark {l : Launch} {G : ax_T} {d : Nat} {h : ax_H} {n : Nat} (hd : 2 ≤ d) (p s : Int32) (s0 : 0 ≤ s.toInt) (s1 : s.toInt ≤ 13) : mc_M l G d mt_X6_behindMark [.int p, .int s] h n (mc_P h n fun y => y.toInt = pg_mark p.toInt s.toInt) := by
  obtain ⟨d, rfl⟩ : ∃ e, d = e + 1 := ⟨d - 1, by omega⟩
  have hmi : mt_X6_behindMark ∈ mt_prog := List.mem_of_getElem? mi_X6_behindMark
  refine mc_to hmi rfl ?_
  show mc_R _ _ _ _ _ (0, [(0, .int p), (1, .int s)], [], h, n, 0, 0)
  refine mc_cx hmi 2 (F' := (2, [(0, .int p), (1, .int s)], [.int (Int32.ofInt 1), .int p], h, n, 0, 0)) (by with_unfolding_all rfl) ?_
  refine mc_ci hmi (c := .ne) (tg := 21) (pc' := 5) rfl rfl rfl rfl (by decide) (fun (q110 : p.toInt ≠ 1) => ?_) (fun (q110 : p.toInt = 1) => ?_)
  · refine mc_cx hmi 2 (F' := (23, [(0, .int p), (1, .int s)], [.int (Int32.ofInt 3), .int p], h, n, 0, 0)) (by with_unfolding_all rfl) ?_
    refine mc_ci hmi (c := .ne) (tg := 42) (pc' := 26) rfl rfl rfl rfl (by decide) (fun (q122 : p.toInt ≠ 3) => ?_) (fun (q122 : p.toInt = 3) => ?_)
    · refine mc_cx hmi 1 (F' := (43, [(0, .int p), (1, .int s)], [.int (Int32.ofInt (-1))], h, n, 0, 0)) (by with_unfolding_all rfl) ?_
      refine mc_ret hmi rfl rfl rfl ⟨rfl, rfl, _, rfl, ?_⟩
      unfold pg_mark; rw [if_neg (fun z => q110 z.1), if_neg (fun z => q122 z.1)]; rfl
    · refine mc_cx hmi 3 (F' := (30, [(0, .int p), (1, .int s)], [.int s, .int (Int32.ofInt 2), .int (Int8.ofInt 13).toInt32], h, n, 0, 0)) (by with_unfolding_all rfl) ?_
      refine mc_callP hmi (en := (30, .invokestatic 58, 3, (3, 70, 0, 0), [490, 489])) rfl (q := (mt_X6_outweighs, [.int (Int8.ofInt 13).toInt32, .int (Int32.ofInt 2), .int s], [])) (by with_unfolding_all rfl) ⟨rfl, rfl⟩ (pc' := 33) rfl (mc_out (by omega) (Int8.ofInt 13).toInt32 (Int32.ofInt 2) s (by first | decide | omega) (by first | decide | omega) (by decide) (by decide) (by first | decide | omega) (by first | decide | omega)) (fun y123 e124 => ?_)
      refine mc_cz hmi (c := .eq) (tg := 42) (pc' := 36) rfl rfl rfl rfl (fun (q125 : y123.toInt = 0) => ?_) (fun (q125 : y123.toInt ≠ 0) => ?_)
      · have hu : ¬ ((Int32.ofInt 2).toInt * pg_w s.toInt < pg_w (Int8.ofInt 13).toInt32.toInt) := fun z => by rw [if_pos z] at e124; omega
        replace hu : ¬ (2 * pg_w s.toInt < pg_w 13) := hu
        refine mc_cx hmi 1 (F' := (43, [(0, .int p), (1, .int s)], [.int (Int32.ofInt (-1))], h, n, 0, 0)) (by with_unfolding_all rfl) ?_
        refine mc_ret hmi rfl rfl rfl ⟨rfl, rfl, _, rfl, ?_⟩
        unfold pg_mark; rw [if_neg (fun z => q110 z.1), if_neg (fun z => hu z.2)]; rfl
      · have hu : (Int32.ofInt 2).toInt * pg_w s.toInt < pg_w (Int8.ofInt 13).toInt32.toInt := Decidable.byContradiction fun z => by rw [if_neg z] at e124; omega
        replace hu : 2 * pg_w s.toInt < pg_w 13 := hu
        refine mc_cx hmi 2 (F' := (38, [(0, .int p), (1, .int s)], [.int s, .int (Int32.ofInt 4)], h, n, 0, 0)) (by with_unfolding_all rfl) ?_
        refine mc_callP hmi (en := (38, .invokestatic 51, 3, (3, 71, 0, 0), [494, 493])) rfl (q := (mt_X6_at, [.int (Int32.ofInt 4), .int s], [])) (by with_unfolding_all rfl) ⟨rfl, rfl⟩ (pc' := 41) rfl (mc_at (by omega) (Int32.ofInt 4) s (by decide) (by decide) s0 (by omega)) (fun y126 e127 => ?_)
        refine mc_ret hmi rfl rfl rfl ⟨rfl, rfl, _, rfl, ?_⟩
        unfold pg_mark; rw [if_neg (fun z => q110 z.1), if_pos (And.intro q122 hu)]; exact e127
  · refine mc_cx hmi 3 (F' := (9, [(0, .int p), (1, .int s)], [.int s, .int (Int32.ofInt 1), .int (Int8.ofInt 13).toInt32], h, n, 0, 0)) (by with_unfolding_all rfl) ?_
    refine mc_callP hmi (en := (9, .invokestatic 58, 3, (3, 70, 0, 0), [490, 489])) rfl (q := (mt_X6_outweighs, [.int (Int8.ofInt 13).toInt32, .int (Int32.ofInt 1), .int s], [])) (by with_unfolding_all rfl) ⟨rfl, rfl⟩ (pc' := 12) rfl (mc_out (by omega) (Int8.ofInt 13).toInt32 (Int32.ofInt 1) s (by first | decide | omega) (by first | decide | omega) (by decide) (by decide) (by first | decide | omega) (by first | decide | omega)) (fun y111 e112 => ?_)
    refine mc_cz hmi (c := .eq) (tg := 21) (pc' := 15) rfl rfl rfl rfl (fun (q113 : y111.toInt = 0) => ?_) (fun (q113 : y111.toInt ≠ 0) => ?_)
    · have ht : ¬ ((Int32.ofInt 1).toInt * pg_w s.toInt < pg_w (Int8.ofInt 13).toInt32.toInt) := fun z => by rw [if_pos z] at e112; omega
      replace ht : ¬ (1 * pg_w s.toInt < pg_w 13) := ht
      refine mc_cx hmi 2 (F' := (23, [(0, .int p), (1, .int s)], [.int (Int32.ofInt 3), .int p], h, n, 0, 0)) (by with_unfolding_all rfl) ?_
      refine mc_ci hmi (c := .ne) (tg := 42) (pc' := 26) rfl rfl rfl rfl (by decide) (fun (q116 : p.toInt ≠ 3) => ?_) (fun (q116 : p.toInt = 3) => ?_)
      · refine mc_cx hmi 1 (F' := (43, [(0, .int p), (1, .int s)], [.int (Int32.ofInt (-1))], h, n, 0, 0)) (by with_unfolding_all rfl) ?_
        refine mc_ret hmi rfl rfl rfl ⟨rfl, rfl, _, rfl, ?_⟩
        unfold pg_mark; rw [if_neg (fun z => ht z.2), if_neg (fun z => q116 z.1)]; rfl
      · refine mc_cx hmi 3 (F' := (30, [(0, .int p), (1, .int s)], [.int s, .int (Int32.ofInt 2), .int (Int8.ofInt 13).toInt32], h, n, 0, 0)) (by with_unfolding_all rfl) ?_
        refine mc_callP hmi (en := (30, .invokestatic 58, 3, (3, 70, 0, 0), [490, 489])) rfl (q := (mt_X6_outweighs, [.int (Int8.ofInt 13).toInt32, .int (Int32.ofInt 2), .int s], [])) (by with_unfolding_all rfl) ⟨rfl, rfl⟩ (pc' := 33) rfl (mc_out (by omega) (Int8.ofInt 13).toInt32 (Int32.ofInt 2) s (by first | decide | omega) (by first | decide | omega) (by decide) (by decide) (by first | decide | omega) (by first | decide | omega)) (fun y117 e118 => ?_)
        refine mc_cz hmi (c := .eq) (tg := 42) (pc' := 36) rfl rfl rfl rfl (fun (q119 : y117.toInt = 0) => ?_) (fun (q119 : y117.toInt ≠ 0) => ?_)
        · have hu : ¬ ((Int32.ofInt 2).toInt * pg_w s.toInt < pg_w (Int8.ofInt 13).toInt32.toInt) := fun z => by rw [if_pos z] at e118; omega
          replace hu : ¬ (2 * pg_w s.toInt < pg_w 13) := hu
          refine mc_cx hmi 1 (F' := (43, [(0, .int p), (1, .int s)], [.int (Int32.ofInt (-1))], h, n, 0, 0)) (by with_unfolding_all rfl) ?_
          refine mc_ret hmi rfl rfl rfl ⟨rfl, rfl, _, rfl, ?_⟩
          unfold pg_mark; rw [if_neg (fun z => ht z.2), if_neg (fun z => hu z.2)]; rfl
        · have hu : (Int32.ofInt 2).toInt * pg_w s.toInt < pg_w (Int8.ofInt 13).toInt32.toInt := Decidable.byContradiction fun z => by rw [if_neg z] at e118; omega
          replace hu : 2 * pg_w s.toInt < pg_w 13 := hu
          refine mc_cx hmi 2 (F' := (38, [(0, .int p), (1, .int s)], [.int s, .int (Int32.ofInt 4)], h, n, 0, 0)) (by with_unfolding_all rfl) ?_
          refine mc_callP hmi (en := (38, .invokestatic 51, 3, (3, 71, 0, 0), [494, 493])) rfl (q := (mt_X6_at, [.int (Int32.ofInt 4), .int s], [])) (by with_unfolding_all rfl) ⟨rfl, rfl⟩ (pc' := 41) rfl (mc_at (by omega) (Int32.ofInt 4) s (by decide) (by decide) s0 (by omega)) (fun y120 e121 => ?_)
          refine mc_ret hmi rfl rfl rfl ⟨rfl, rfl, _, rfl, ?_⟩
          unfold pg_mark; rw [if_neg (fun z => ht z.2), if_pos (And.intro q116 hu)]; exact e121
    · have ht : (Int32.ofInt 1).toInt * pg_w s.toInt < pg_w (Int8.ofInt 13).toInt32.toInt := Decidable.byContradiction fun z => by rw [if_neg z] at e112; omega
      replace ht : 1 * pg_w s.toInt < pg_w 13 := ht
      refine mc_cx hmi 2 (F' := (17, [(0, .int p), (1, .int s)], [.int s, .int (Int32.ofInt 3)], h, n, 0, 0)) (by with_unfolding_all rfl) ?_
      refine mc_callP hmi (en := (17, .invokestatic 51, 3, (3, 71, 0, 0), [494, 493])) rfl (q := (mt_X6_at, [.int (Int32.ofInt 3), .int s], [])) (by with_unfolding_all rfl) ⟨rfl, rfl⟩ (pc' := 20) rfl (mc_at (by omega) (Int32.ofInt 3) s (by decide) (by decide) s0 (by omega)) (fun y114 e115 => ?_)
      refine mc_ret hmi rfl rfl rfl ⟨rfl, rfl, _, rfl, ?_⟩
      unfold pg_mark; rw [if_pos (And.intro q110 ht)]; exact e115
set_option maxRecDepth 100000 in
theorem mc_sign {l : Launch} {G : ax_T} {d : Nat} {h : ax_H} {n : Nat} (hd : 2 ≤ d) (p s m : Int32) (p0 : 0 ≤ p.toInt) (p1 : p.toInt ≤ 6) (s0 : 0 ≤ s.toInt) (s1 : s.toInt ≤ 13) (m0 : 0 ≤ m.toInt) (m1 : m.toInt ≤ 13) : mc_M l G d mt_X6_behindSign [.int p, .int s, .int m] h n (mc_P h n fun y => y.toInt = pg_sign p.toInt s.toInt m.toInt) := by
  obtain ⟨d, rfl⟩ : ∃ e, d = e + 1 := ⟨d - 1, by omega⟩
  have hmi : mt_X6_behindSign ∈ mt_prog := List.mem_of_getElem? mi_X6_behindSign
  refine mc_to hmi rfl ?_
  have hp : p.toInt = 0 ∨ p.toInt = 1 ∨ p.toInt = 2 ∨ p.toInt = 3 ∨ p.toInt = 4 ∨ p.toInt = 5 ∨ p.toInt = 6 := by omega
  rcases hp with e | e | e | e | e | e | e
  · obtain rfl : p = Int32.ofInt 0 := Int32.toInt_inj.mp (by rw [e]; rfl)
    show mc_R _ _ _ _ _ (0, [(0, .int (Int32.ofInt 0)), (1, .int s), (2, .int m)], [], h, n, 0, 0)
    refine mc_cx hmi 1 (F' := (1, [(0, .int (Int32.ofInt 0)), (1, .int s), (2, .int m)], [.int (Int32.ofInt 0)], h, n, 0, 0)) (by with_unfolding_all rfl) ?_
    refine mc_cx hmi 1 (F' := (44, [(0, .int (Int32.ofInt 0)), (1, .int s), (2, .int m)], [], h, n, 0, 0)) (by with_unfolding_all rfl) ?_
    refine mc_cx hmi 2 (F' := (46, [(0, .int (Int32.ofInt 0)), (1, .int s), (2, .int m)], [.int m, .int (Int32.ofInt 1)], h, n, 0, 0)) (by with_unfolding_all rfl) ?_
    refine mc_callP hmi (en := (46, .invokestatic 51, 3, (3, 71, 0, 0), [494, 493])) rfl (q := (mt_X6_at, [.int (Int32.ofInt 1), .int m], [])) (by with_unfolding_all rfl) ⟨rfl, rfl⟩ (pc' := 49) rfl (mc_at (by omega) (Int32.ofInt 1) m (by decide) (by decide) m0 (by omega)) (fun y128 e129 => ?_)
    refine mc_ret hmi rfl rfl rfl ⟨rfl, rfl, _, rfl, ?_⟩
    show _ = pg_sign 0 s.toInt m.toInt
    exact e129
  · obtain rfl : p = Int32.ofInt 1 := Int32.toInt_inj.mp (by rw [e]; rfl)
    show mc_R _ _ _ _ _ (0, [(0, .int (Int32.ofInt 1)), (1, .int s), (2, .int m)], [], h, n, 0, 0)
    refine mc_cx hmi 1 (F' := (1, [(0, .int (Int32.ofInt 1)), (1, .int s), (2, .int m)], [.int (Int32.ofInt 1)], h, n, 0, 0)) (by with_unfolding_all rfl) ?_
    refine mc_cx hmi 1 (F' := (89, [(0, .int (Int32.ofInt 1)), (1, .int s), (2, .int m)], [], h, n, 0, 0)) (by with_unfolding_all rfl) ?_
    refine mc_cx hmi 1 (F' := (90, [(0, .int (Int32.ofInt 1)), (1, .int s), (2, .int m)], [.int (Int32.ofInt (-1))], h, n, 0, 0)) (by with_unfolding_all rfl) ?_
    refine mc_ret hmi rfl rfl rfl ⟨rfl, rfl, _, rfl, ?_⟩
    show _ = pg_sign 1 s.toInt m.toInt
    rfl
  · obtain rfl : p = Int32.ofInt 2 := Int32.toInt_inj.mp (by rw [e]; rfl)
    show mc_R _ _ _ _ _ (0, [(0, .int (Int32.ofInt 2)), (1, .int s), (2, .int m)], [], h, n, 0, 0)
    refine mc_cx hmi 1 (F' := (1, [(0, .int (Int32.ofInt 2)), (1, .int s), (2, .int m)], [.int (Int32.ofInt 2)], h, n, 0, 0)) (by with_unfolding_all rfl) ?_
    refine mc_cx hmi 1 (F' := (89, [(0, .int (Int32.ofInt 2)), (1, .int s), (2, .int m)], [], h, n, 0, 0)) (by with_unfolding_all rfl) ?_
    refine mc_cx hmi 1 (F' := (90, [(0, .int (Int32.ofInt 2)), (1, .int s), (2, .int m)], [.int (Int32.ofInt (-1))], h, n, 0, 0)) (by with_unfolding_all rfl) ?_
    refine mc_ret hmi rfl rfl rfl ⟨rfl, rfl, _, rfl, ?_⟩
    show _ = pg_sign 2 s.toInt m.toInt
    rfl
  · obtain rfl : p = Int32.ofInt 3 := Int32.toInt_inj.mp (by rw [e]; rfl)
    show mc_R _ _ _ _ _ (0, [(0, .int (Int32.ofInt 3)), (1, .int s), (2, .int m)], [], h, n, 0, 0)
    refine mc_cx hmi 1 (F' := (1, [(0, .int (Int32.ofInt 3)), (1, .int s), (2, .int m)], [.int (Int32.ofInt 3)], h, n, 0, 0)) (by with_unfolding_all rfl) ?_
    refine mc_cx hmi 1 (F' := (50, [(0, .int (Int32.ofInt 3)), (1, .int s), (2, .int m)], [], h, n, 0, 0)) (by with_unfolding_all rfl) ?_
    refine mc_cx hmi 3 (F' := (53, [(0, .int (Int32.ofInt 3)), (1, .int s), (2, .int m)], [.int s, .int (Int32.ofInt 1), .int m], h, n, 0, 0)) (by with_unfolding_all rfl) ?_
    refine mc_callP hmi (en := (53, .invokestatic 58, 3, (3, 70, 0, 0), [490, 489])) rfl (q := (mt_X6_outweighs, [.int m, .int (Int32.ofInt 1), .int s], [])) (by with_unfolding_all rfl) ⟨rfl, rfl⟩ (pc' := 56) rfl (mc_out (by omega) m (Int32.ofInt 1) s (by first | decide | omega) (by first | decide | omega) (by decide) (by decide) (by first | decide | omega) (by first | decide | omega)) (fun y130 e131 => ?_)
    refine mc_cz hmi (c := .eq) (tg := 67) (pc' := 59) rfl rfl rfl rfl (fun (q132 : y130.toInt = 0) => ?_) (fun (q132 : y130.toInt ≠ 0) => ?_)
    · have ht : ¬ (1 * pg_w s.toInt < pg_w m.toInt) := fun z => by rw [if_pos (show (Int32.ofInt 1).toInt * pg_w s.toInt < pg_w m.toInt from z)] at e131; omega
      refine mc_cx hmi 1 (F' := (68, [(0, .int (Int32.ofInt 3)), (1, .int s), (2, .int m)], [.int (Int32.ofInt (-1))], h, n, 0, 0)) (by with_unfolding_all rfl) ?_
      refine mc_ret hmi rfl rfl rfl ⟨rfl, rfl, _, rfl, ?_⟩
      show _ = pg_sign 3 s.toInt m.toInt
      show _ = (if 1 * pg_w s.toInt < pg_w m.toInt then pg_at 5 s.toInt else -1)
      rw [if_neg ht]; rfl
    · have ht : 1 * pg_w s.toInt < pg_w m.toInt := Decidable.byContradiction fun z => by rw [if_neg (show ¬ ((Int32.ofInt 1).toInt * pg_w s.toInt < pg_w m.toInt) from z)] at e131; omega
      refine mc_cx hmi 2 (F' := (61, [(0, .int (Int32.ofInt 3)), (1, .int s), (2, .int m)], [.int s, .int (Int32.ofInt 5)], h, n, 0, 0)) (by with_unfolding_all rfl) ?_
      refine mc_callP hmi (en := (61, .invokestatic 51, 3, (3, 71, 0, 0), [494, 493])) rfl (q := (mt_X6_at, [.int (Int32.ofInt 5), .int s], [])) (by with_unfolding_all rfl) ⟨rfl, rfl⟩ (pc' := 64) rfl (mc_at (by omega) (Int32.ofInt 5) s (by decide) (by decide) s0 (by omega)) (fun y133 e134 => ?_)
      refine mc_cx hmi 1 (F' := (68, [(0, .int (Int32.ofInt 3)), (1, .int s), (2, .int m)], [.int y133], h, n, 0, 0)) (by with_unfolding_all rfl) ?_
      refine mc_ret hmi rfl rfl rfl ⟨rfl, rfl, _, rfl, ?_⟩
      show _ = pg_sign 3 s.toInt m.toInt
      show _ = (if 1 * pg_w s.toInt < pg_w m.toInt then pg_at 5 s.toInt else -1)
      rw [if_pos ht]; exact e134
  · obtain rfl : p = Int32.ofInt 4 := Int32.toInt_inj.mp (by rw [e]; rfl)
    show mc_R _ _ _ _ _ (0, [(0, .int (Int32.ofInt 4)), (1, .int s), (2, .int m)], [], h, n, 0, 0)
    refine mc_cx hmi 1 (F' := (1, [(0, .int (Int32.ofInt 4)), (1, .int s), (2, .int m)], [.int (Int32.ofInt 4)], h, n, 0, 0)) (by with_unfolding_all rfl) ?_
    refine mc_cx hmi 1 (F' := (69, [(0, .int (Int32.ofInt 4)), (1, .int s), (2, .int m)], [], h, n, 0, 0)) (by with_unfolding_all rfl) ?_
    refine mc_cx hmi 3 (F' := (72, [(0, .int (Int32.ofInt 4)), (1, .int s), (2, .int m)], [.int s, .int (Int32.ofInt 2), .int m], h, n, 0, 0)) (by with_unfolding_all rfl) ?_
    refine mc_callP hmi (en := (72, .invokestatic 58, 3, (3, 70, 0, 0), [490, 489])) rfl (q := (mt_X6_outweighs, [.int m, .int (Int32.ofInt 2), .int s], [])) (by with_unfolding_all rfl) ⟨rfl, rfl⟩ (pc' := 75) rfl (mc_out (by omega) m (Int32.ofInt 2) s (by first | decide | omega) (by first | decide | omega) (by decide) (by decide) (by first | decide | omega) (by first | decide | omega)) (fun y135 e136 => ?_)
    refine mc_cz hmi (c := .eq) (tg := 87) (pc' := 78) rfl rfl rfl rfl (fun (q137 : y135.toInt = 0) => ?_) (fun (q137 : y135.toInt ≠ 0) => ?_)
    · have ht : ¬ (2 * pg_w s.toInt < pg_w m.toInt) := fun z => by rw [if_pos (show (Int32.ofInt 2).toInt * pg_w s.toInt < pg_w m.toInt from z)] at e136; omega
      refine mc_cx hmi 1 (F' := (88, [(0, .int (Int32.ofInt 4)), (1, .int s), (2, .int m)], [.int (Int32.ofInt (-1))], h, n, 0, 0)) (by with_unfolding_all rfl) ?_
      refine mc_ret hmi rfl rfl rfl ⟨rfl, rfl, _, rfl, ?_⟩
      show _ = pg_sign 4 s.toInt m.toInt
      show _ = (if 2 * pg_w s.toInt < pg_w m.toInt then pg_at 6 s.toInt else -1)
      rw [if_neg ht]; rfl
    · have ht : 2 * pg_w s.toInt < pg_w m.toInt := Decidable.byContradiction fun z => by rw [if_neg (show ¬ ((Int32.ofInt 2).toInt * pg_w s.toInt < pg_w m.toInt) from z)] at e136; omega
      refine mc_cx hmi 2 (F' := (81, [(0, .int (Int32.ofInt 4)), (1, .int s), (2, .int m)], [.int s, .int (Int8.ofInt 6).toInt32], h, n, 0, 0)) (by with_unfolding_all rfl) ?_
      refine mc_callP hmi (en := (81, .invokestatic 51, 3, (3, 71, 0, 0), [494, 493])) rfl (q := (mt_X6_at, [.int (Int8.ofInt 6).toInt32, .int s], [])) (by with_unfolding_all rfl) ⟨rfl, rfl⟩ (pc' := 84) rfl (mc_at (by omega) (Int8.ofInt 6).toInt32 s (by decide) (by decide) s0 (by omega)) (fun y138 e139 => ?_)
      refine mc_cx hmi 1 (F' := (88, [(0, .int (Int32.ofInt 4)), (1, .int s), (2, .int m)], [.int y138], h, n, 0, 0)) (by with_unfolding_all rfl) ?_
      refine mc_ret hmi rfl rfl rfl ⟨rfl, rfl, _, rfl, ?_⟩
      show _ = pg_sign 4 s.toInt m.toInt
      show _ = (if 2 * pg_w s.toInt < pg_w m.toInt then pg_at 6 s.toInt else -1)
      rw [if_pos ht]; exact e139
  · obtain rfl : p = Int32.ofInt 5 := Int32.toInt_inj.mp (by rw [e]; rfl)
    show mc_R _ _ _ _ _ (0, [(0, .int (Int32.ofInt 5)), (1, .int s), (2, .int m)], [], h, n, 0, 0)
    refine mc_cx hmi 1 (F' := (1, [(0, .int (Int32.ofInt 5)), (1, .int s), (2, .int m)], [.int (Int32.ofInt 5)], h, n, 0, 0)) (by with_unfolding_all rfl) ?_
    refine mc_cx hmi 1 (F' := (50, [(0, .int (Int32.ofInt 5)), (1, .int s), (2, .int m)], [], h, n, 0, 0)) (by with_unfolding_all rfl) ?_
    refine mc_cx hmi 3 (F' := (53, [(0, .int (Int32.ofInt 5)), (1, .int s), (2, .int m)], [.int s, .int (Int32.ofInt 1), .int m], h, n, 0, 0)) (by with_unfolding_all rfl) ?_
    refine mc_callP hmi (en := (53, .invokestatic 58, 3, (3, 70, 0, 0), [490, 489])) rfl (q := (mt_X6_outweighs, [.int m, .int (Int32.ofInt 1), .int s], [])) (by with_unfolding_all rfl) ⟨rfl, rfl⟩ (pc' := 56) rfl (mc_out (by omega) m (Int32.ofInt 1) s (by first | decide | omega) (by first | decide | omega) (by decide) (by decide) (by first | decide | omega) (by first | decide | omega)) (fun y140 e141 => ?_)
    refine mc_cz hmi (c := .eq) (tg := 67) (pc' := 59) rfl rfl rfl rfl (fun (q142 : y140.toInt = 0) => ?_) (fun (q142 : y140.toInt ≠ 0) => ?_)
    · have ht : ¬ (1 * pg_w s.toInt < pg_w m.toInt) := fun z => by rw [if_pos (show (Int32.ofInt 1).toInt * pg_w s.toInt < pg_w m.toInt from z)] at e141; omega
      refine mc_cx hmi 1 (F' := (68, [(0, .int (Int32.ofInt 5)), (1, .int s), (2, .int m)], [.int (Int32.ofInt (-1))], h, n, 0, 0)) (by with_unfolding_all rfl) ?_
      refine mc_ret hmi rfl rfl rfl ⟨rfl, rfl, _, rfl, ?_⟩
      show _ = pg_sign 5 s.toInt m.toInt
      show _ = (if 1 * pg_w s.toInt < pg_w m.toInt then pg_at 5 s.toInt else -1)
      rw [if_neg ht]; rfl
    · have ht : 1 * pg_w s.toInt < pg_w m.toInt := Decidable.byContradiction fun z => by rw [if_neg (show ¬ ((Int32.ofInt 1).toInt * pg_w s.toInt < pg_w m.toInt) from z)] at e141; omega
      refine mc_cx hmi 2 (F' := (61, [(0, .int (Int32.ofInt 5)), (1, .int s), (2, .int m)], [.int s, .int (Int32.ofInt 5)], h, n, 0, 0)) (by with_unfolding_all rfl) ?_
      refine mc_callP hmi (en := (61, .invokestatic 51, 3, (3, 71, 0, 0), [494, 493])) rfl (q := (mt_X6_at, [.int (Int32.ofInt 5), .int s], [])) (by with_unfolding_all rfl) ⟨rfl, rfl⟩ (pc' := 64) rfl (mc_at (by omega) (Int32.ofInt 5) s (by decide) (by decide) s0 (by omega)) (fun y143 e144 => ?_)
      refine mc_cx hmi 1 (F' := (68, [(0, .int (Int32.ofInt 5)), (1, .int s), (2, .int m)], [.int y143], h, n, 0, 0)) (by with_unfolding_all rfl) ?_
      refine mc_ret hmi rfl rfl rfl ⟨rfl, rfl, _, rfl, ?_⟩
      show _ = pg_sign 5 s.toInt m.toInt
      show _ = (if 1 * pg_w s.toInt < pg_w m.toInt then pg_at 5 s.toInt else -1)
      rw [if_pos ht]; exact e144
  · obtain rfl : p = Int32.ofInt 6 := Int32.toInt_inj.mp (by rw [e]; rfl)
    show mc_R _ _ _ _ _ (0, [(0, .int (Int32.ofInt 6)), (1, .int s), (2, .int m)], [], h, n, 0, 0)
    refine mc_cx hmi 1 (F' := (1, [(0, .int (Int32.ofInt 6)), (1, .int s), (2, .int m)], [.int (Int32.ofInt 6)], h, n, 0, 0)) (by with_unfolding_all rfl) ?_
    refine mc_cx hmi 1 (F' := (69, [(0, .int (Int32.ofInt 6)), (1, .int s), (2, .int m)], [], h, n, 0, 0)) (by with_unfolding_all rfl) ?_
    refine mc_cx hmi 3 (F' := (72, [(0, .int (Int32.ofInt 6)), (1, .int s), (2, .int m)], [.int s, .int (Int32.ofInt 2), .int m], h, n, 0, 0)) (by with_unfolding_all rfl) ?_
    refine mc_callP hmi (en := (72, .invokestatic 58, 3, (3, 70, 0, 0), [490, 489])) rfl (q := (mt_X6_outweighs, [.int m, .int (Int32.ofInt 2), .int s], [])) (by with_unfolding_all rfl) ⟨rfl, rfl⟩ (pc' := 75) rfl (mc_out (by omega) m (Int32.ofInt 2) s (by first | decide | omega) (by first | decide | omega) (by decide) (by decide) (by first | decide | omega) (by first | decide | omega)) (fun y145 e146 => ?_)
    refine mc_cz hmi (c := .eq) (tg := 87) (pc' := 78) rfl rfl rfl rfl (fun (q147 : y145.toInt = 0) => ?_) (fun (q147 : y145.toInt ≠ 0) => ?_)
    · have ht : ¬ (2 * pg_w s.toInt < pg_w m.toInt) := fun z => by rw [if_pos (show (Int32.ofInt 2).toInt * pg_w s.toInt < pg_w m.toInt from z)] at e146; omega
      refine mc_cx hmi 1 (F' := (88, [(0, .int (Int32.ofInt 6)), (1, .int s), (2, .int m)], [.int (Int32.ofInt (-1))], h, n, 0, 0)) (by with_unfolding_all rfl) ?_
      refine mc_ret hmi rfl rfl rfl ⟨rfl, rfl, _, rfl, ?_⟩
      show _ = pg_sign 6 s.toInt m.toInt
      show _ = (if 2 * pg_w s.toInt < pg_w m.toInt then pg_at 6 s.toInt else -1)
      rw [if_neg ht]; rfl
    · have ht : 2 * pg_w s.toInt < pg_w m.toInt := Decidable.byContradiction fun z => by rw [if_neg (show ¬ ((Int32.ofInt 2).toInt * pg_w s.toInt < pg_w m.toInt) from z)] at e146; omega
      refine mc_cx hmi 2 (F' := (81, [(0, .int (Int32.ofInt 6)), (1, .int s), (2, .int m)], [.int s, .int (Int8.ofInt 6).toInt32], h, n, 0, 0)) (by with_unfolding_all rfl) ?_
      refine mc_callP hmi (en := (81, .invokestatic 51, 3, (3, 71, 0, 0), [494, 493])) rfl (q := (mt_X6_at, [.int (Int8.ofInt 6).toInt32, .int s], [])) (by with_unfolding_all rfl) ⟨rfl, rfl⟩ (pc' := 84) rfl (mc_at (by omega) (Int8.ofInt 6).toInt32 s (by decide) (by decide) s0 (by omega)) (fun y148 e149 => ?_)
      refine mc_cx hmi 1 (F' := (88, [(0, .int (Int32.ofInt 6)), (1, .int s), (2, .int m)], [.int y148], h, n, 0, 0)) (by with_unfolding_all rfl) ?_
      refine mc_ret hmi rfl rfl rfl ⟨rfl, rfl, _, rfl, ?_⟩
      show _ = pg_sign 6 s.toInt m.toInt
      show _ = (if 2 * pg_w s.toInt < pg_w m.toInt then pg_at 6 s.toInt else -1)
      rw [if_pos ht]; exact e149
set_option maxRecDepth 100000 in
theorem mc_ruleAfter {l : Launch} {G : ax_T} {d : Nat} {h : ax_H} {n : Nat} (hd : 10 ≤ d) (S x : Int32) (S0 : 0 ≤ S.toInt) (S1 : S.toInt ≤ 110) (S7 : S.toInt % 8 ≤ 6) (x0 : 0 ≤ x.toInt) (x1 : x.toInt ≤ 255) : mc_M l G d mt_X6_after [.int S, .int x] h n (mc_P h n fun y => y.toInt = pg_after S.toInt x.toInt) := by
  obtain ⟨d, rfl⟩ : ∃ e, d = e + 1 := ⟨d - 1, by omega⟩
  have hmi : mt_X6_after ∈ mt_prog := List.mem_of_getElem? mi_X6_after
  refine mc_to hmi rfl ?_
  show mc_R _ _ _ _ _ (0, [(0, .int S), (1, .int x)], [], h, n, 0, 0)
  refine mc_cx hmi 10 (F' := (12, [(3, .int (S >>> ((Int32.ofInt 3) &&& 31))), (2, .int (S &&& (Int8.ofInt 7).toInt32)), (0, .int S), (1, .int x)], [.int (Int8.ofInt 44).toInt32, .int x], h, n, 0, 0)) (by with_unfolding_all rfl) ?_
  have hp := pg_and7 S0 (by omega)
  have hs := pg_shr3 S0 (by omega)
  generalize (S &&& (Int8.ofInt 7).toInt32) = p at hp ⊢
  generalize (S >>> ((Int32.ofInt 3) &&& 31)) = s at hs ⊢
  show mc_R _ _ _ _ _ (12, [(3, .int s), (2, .int p), (0, .int S), (1, .int x)], [.int (Int8.ofInt 44).toInt32, .int x], h, n, 0, 0)
  refine mc_ci hmi (c := .ne) (tg := 28) (pc' := 15) rfl rfl rfl rfl (by decide) (fun (q150 : x.toInt ≠ 44) => ?_) (fun (q150 : x.toInt = 44) => ?_)
  · refine mc_cx hmi 2 (F' := (31, [(3, .int s), (2, .int p), (0, .int S), (1, .int x)], [.int (Int8.ofInt 60).toInt32, .int x], h, n, 0, 0)) (by with_unfolding_all rfl) ?_
    refine mc_ci hmi (c := .ne) (tg := 40) (pc' := 34) rfl rfl rfl rfl (by decide) (fun (q154 : x.toInt ≠ 60) => ?_) (fun (q154 : x.toInt = 60) => ?_)
    · have na := q150
      have nb := q154
      have k67 : ¬ (49 ≤ x.toInt ∧ x.toInt ≤ 57) → mc_R l G mt_X6_after d (mc_P h n fun y => y.toInt = pg_after S.toInt x.toInt) (67, [(0, .int S), (1, .int x), (2, .int p), (3, .int s)], [], h, n, 0, 0) := by
        intro nd
        refine mc_cx hmi 1 (F' := (68, [(0, .int S), (1, .int x), (2, .int p), (3, .int s)], [.int x], h, n, 0, 0)) (by with_unfolding_all rfl) ?_
        refine mc_callP hmi (en := (68, .invokestatic 41, 3, (4, 150, 0, 0), [497, 496])) rfl (q := (mt_X10_signOf, [.int x], [])) (by with_unfolding_all rfl) ⟨rfl, rfl⟩ (pc' := 71) rfl (mc_sgn x (by omega) x0 x1) (fun y157 e158 => ?_)
        refine mc_cx hmi 2 (F' := (75, [(4, .int y157), (0, .int S), (1, .int x), (2, .int p), (3, .int s)], [.int y157], h, n, 0, 0)) (by with_unfolding_all rfl) ?_
        refine mc_cz hmi (c := .ge) (tg := 82) (pc' := 78) rfl rfl rfl e158 (fun (q159 : 0 ≤ pg_s x.toInt) => ?_) (fun (q159 : pg_s x.toInt < 0) => ?_)
        · have hr := pg_s_r x.toInt
          refine mc_cx hmi 3 (F' := (86, [(4, .int y157), (0, .int S), (1, .int x), (2, .int p), (3, .int s)], [.int y157, .int s, .int p], h, n, 0, 0)) (by with_unfolding_all rfl) ?_
          refine mc_callP hmi (en := (86, .invokestatic 54, 3, (3, 69, 0, 0), [585, 584])) rfl (q := (mt_X6_behindSign, [.int p, .int s, .int y157], [])) (by with_unfolding_all rfl) ⟨rfl, rfl⟩ (pc' := 89) rfl (mc_sign (by omega) p s y157 (by omega) (by omega) (by omega) (by omega) (by omega) (by omega)) (fun y160 e161 => ?_)
          refine mc_ret hmi rfl rfl rfl ⟨rfl, rfl, _, rfl, ?_⟩
          unfold pg_after; show Int32.toInt _ = _; rw [if_neg na, if_neg nb, if_neg nd, if_neg (show ¬ pg_s x.toInt < 0 by omega), e161, hp, hs, e158]
        · refine mc_cx hmi 2 (F' := (89, [(4, .int y157), (0, .int S), (1, .int x), (2, .int p), (3, .int s)], [.int (Int32.ofInt (-1))], h, n, 0, 0)) (by with_unfolding_all rfl) ?_
          refine mc_ret hmi rfl rfl rfl ⟨rfl, rfl, _, rfl, ?_⟩
          unfold pg_after; show Int32.toInt _ = _; rw [if_neg na, if_neg nb, if_neg nd, if_pos q159]; rfl
      refine mc_cx hmi 2 (F' := (43, [(3, .int s), (2, .int p), (0, .int S), (1, .int x)], [.int (Int8.ofInt 49).toInt32, .int x], h, n, 0, 0)) (by with_unfolding_all rfl) ?_
      refine mc_ci hmi (c := .lt) (tg := 67) (pc' := 46) rfl rfl rfl rfl (by decide) (fun (q162 : x.toInt < 49) => ?_) (fun (q162 : 49 ≤ x.toInt) => ?_)
      · refine mc_lvs (lv' := [(0, .int S), (1, .int x), (2, .int p), (3, .int s)]) (by simp) ?_
        exact k67 (by omega)
      · refine mc_cx hmi 2 (F' := (49, [(3, .int s), (2, .int p), (0, .int S), (1, .int x)], [.int (Int8.ofInt 57).toInt32, .int x], h, n, 0, 0)) (by with_unfolding_all rfl) ?_
        refine mc_ci hmi (c := .gt) (tg := 67) (pc' := 52) rfl rfl rfl rfl (by decide) (fun (q163 : 57 < x.toInt) => ?_) (fun (q163 : x.toInt ≤ 57) => ?_)
        · refine mc_lvs (lv' := [(0, .int S), (1, .int x), (2, .int p), (3, .int s)]) (by simp) ?_
          exact k67 (by omega)
        · refine mc_cx hmi 2 (F' := (54, [(3, .int s), (2, .int p), (0, .int S), (1, .int x)], [.int (Int32.ofInt 1), .int p], h, n, 0, 0)) (by with_unfolding_all rfl) ?_
          refine mc_ci hmi (c := .ne) (tg := 65) (pc' := 57) rfl rfl rfl hp (by decide) (fun (q164 : S.toInt % 8 ≠ 1) => ?_) (fun (q164 : S.toInt % 8 = 1) => ?_)
          · refine mc_cx hmi 1 (F' := (66, [(3, .int s), (2, .int p), (0, .int S), (1, .int x)], [.int (Int32.ofInt (-1))], h, n, 0, 0)) (by with_unfolding_all rfl) ?_
            refine mc_ret hmi rfl rfl rfl ⟨rfl, rfl, _, rfl, ?_⟩
            unfold pg_after; show Int32.toInt _ = _; rw [if_neg na, if_neg nb, if_pos (show 49 ≤ x.toInt ∧ x.toInt ≤ 57 by omega), if_neg q164]; rfl
          · refine mc_cx hmi 2 (F' := (59, [(3, .int s), (2, .int p), (0, .int S), (1, .int x)], [.int s, .int (Int32.ofInt 2)], h, n, 0, 0)) (by with_unfolding_all rfl) ?_
            refine mc_callP hmi (en := (59, .invokestatic 51, 3, (3, 71, 0, 0), [494, 493])) rfl (q := (mt_X6_at, [.int (Int32.ofInt 2), .int s], [])) (by with_unfolding_all rfl) ⟨rfl, rfl⟩ (pc' := 62) rfl (mc_at (by omega) (Int32.ofInt 2) s (by decide) (by decide) (by omega) (by omega)) (fun y165 e166 => ?_)
            refine mc_cx hmi 1 (F' := (66, [(3, .int s), (2, .int p), (0, .int S), (1, .int x)], [.int y165], h, n, 0, 0)) (by with_unfolding_all rfl) ?_
            refine mc_ret hmi rfl rfl rfl ⟨rfl, rfl, _, rfl, ?_⟩
            unfold pg_after; show Int32.toInt _ = _; rw [if_neg na, if_neg nb, if_pos (show 49 ≤ x.toInt ∧ x.toInt ≤ 57 by omega), if_pos q164, e166, hs]; rfl
    · refine mc_cx hmi 2 (F' := (36, [(3, .int s), (2, .int p), (0, .int S), (1, .int x)], [.int s, .int p], h, n, 0, 0)) (by with_unfolding_all rfl) ?_
      refine mc_callP hmi (en := (36, .invokestatic 48, 3, (3, 68, 0, 0), [487, 486])) rfl (q := (mt_X6_behindMark, [.int p, .int s], [])) (by with_unfolding_all rfl) ⟨rfl, rfl⟩ (pc' := 39) rfl (mc_mark (by omega) p s (by omega) (by omega)) (fun y155 e156 => ?_)
      refine mc_ret hmi rfl rfl rfl ⟨rfl, rfl, _, rfl, ?_⟩
      unfold pg_after; show Int32.toInt _ = _; rw [if_neg q150, if_pos q154, e156, hp, hs]
  · refine mc_cx hmi 1 (F' := (16, [(3, .int s), (2, .int p), (0, .int S), (1, .int x)], [.int p], h, n, 0, 0)) (by with_unfolding_all rfl) ?_
    refine mc_callP hmi (en := (16, .invokestatic 25, 3, (3, 66, 0, 0), [484, 483])) rfl (q := (mt_X6_endsRule, [.int p], [])) (by with_unfolding_all rfl) ⟨rfl, rfl⟩ (pc' := 19) rfl (mc_ends (by omega) p) (fun y151 e152 => ?_)
    refine mc_cz hmi (c := .eq) (tg := 26) (pc' := 22) rfl rfl rfl rfl (fun (q153 : y151.toInt = 0) => ?_) (fun (q153 : y151.toInt ≠ 0) => ?_)
    · refine mc_cx hmi 1 (F' := (27, [(3, .int s), (2, .int p), (0, .int S), (1, .int x)], [.int (Int32.ofInt (-1))], h, n, 0, 0)) (by with_unfolding_all rfl) ?_
      refine mc_ret hmi rfl rfl rfl ⟨rfl, rfl, _, rfl, ?_⟩
      unfold pg_after; show Int32.toInt _ = _; rw [if_pos q150, if_neg (fun z => by rw [hp, if_pos z] at e152; omega)]; rfl
    · refine mc_cx hmi 2 (F' := (27, [(3, .int s), (2, .int p), (0, .int S), (1, .int x)], [.int (Int32.ofInt 0)], h, n, 0, 0)) (by with_unfolding_all rfl) ?_
      refine mc_ret hmi rfl rfl rfl ⟨rfl, rfl, _, rfl, ?_⟩
      unfold pg_after; show Int32.toInt _ = _; rw [if_pos q150, if_pos (Decidable.byContradiction fun z => by rw [hp, if_neg z] at e152; omega)]; rfl
/-- states stay states -/
theorem pg_after_r {S x : Int} (S0 : 0 ≤ S) (S1 : S ≤ 110) : pg_after S x = -1 ∨ (0 ≤ pg_after S x ∧ pg_after S x ≤ 110 ∧ pg_after S x % 8 ≤ 6) := by
  have hr := pg_s_r x
  unfold pg_after pg_mark pg_sign pg_at
  repeat' split
  all_goals omega

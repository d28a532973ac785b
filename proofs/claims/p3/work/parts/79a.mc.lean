/-! ===== by hand: a machine over cells that are as their kinds say ===== -/
def mc_HW (h : ax_H) (n : Nat) : Prop := 573 ≤ n ∧ (∀ k, k < n → ∃ d S, ax_raw h k = some d ∧ ab_K[ab_k k]? = some S ∧ ab_cf n S d) ∧ ab_sh h n
theorem mc_HW_of {h : ax_H} {n : Nat} (H : ab_HT h n) : mc_HW h n := ⟨H.1, H.2.1, H.2.2.2⟩
theorem mc_HT_of {h : ax_H} {n : Nat} (H : mc_HW h n) (J : ab_J h) : ab_HT h n := ⟨H.1, H.2.1, J, H.2.2⟩
theorem mc_HW_set {h : ax_H} {n k : Nat} {d c : ax_D} (H : mc_HW h n) (hr : ax_raw h k = some d) (hc : ∀ S, ab_K[ab_k k]? = some S → ab_cf n S d → ab_cf n S c) : mc_HW (ax_hset h k c) n := by
  refine ⟨H.1, fun j hj => ?_, ab_sh_set H.2.2⟩
  rw [ab_raw_set hr]
  by_cases e : j = k
  · subst e
    obtain ⟨d0, S, h1, h2, h3⟩ := H.2.1 j hj
    rw [hr] at h1
    cases h1
    exact ⟨c, S, by rw [if_pos rfl], h2, hc S h2 h3⟩
  · rw [if_neg e]
    exact H.2.1 j hj
/-- what the bounds speak of is as it was -/
def mc_jp (k : Nat) (i : Int) : Prop := k = 28 ∨ k = 29 ∨ k = 554 ∨ (k = 542 ∧ i = 14) ∨ i < 0
theorem mc_J {h h' : ax_H} (e : ∀ (k : Nat) (i : Int), mc_jp k i → ab_rd h' k i = ab_rd h k i) (J : ab_J h) : ab_J h' := by
  obtain ⟨⟨j1, j2, j3⟩, j4, j5⟩ := J
  have r : ∀ (k : Nat) (i : Int), mc_jp k i → ab_ri h' k i = ab_ri h k i := fun k i q => ab_ri_of (e k i q)
  refine ⟨⟨?_, ?_, ?_⟩, ?_, fun w hw => ?_⟩
  · rw [r 28 1 (Or.inl rfl), ab_gc_of _ (fun i _ => e 29 i (Or.inr (Or.inl rfl)))]; exact j1
  · rw [r 28 1 (Or.inl rfl), r 28 2 (Or.inl rfl)]; exact j2
  · rw [r 28 1 (Or.inl rfl), r 28 2 (Or.inl rfl)]; exact j3
  · rw [r 542 14 (Or.inr (Or.inr (Or.inr (Or.inl ⟨rfl, rfl⟩)))), ab_gc_of _ (fun i _ => e 554 i (Or.inr (Or.inr (Or.inl rfl))))]; exact j4
  · rw [e 28 4 (Or.inl rfl)] at hw
    have := j5 w hw
    rw [r 28 6 (Or.inl rfl), r 28 7 (Or.inl rfl), r w (-1) (Or.inr (Or.inr (Or.inr (Or.inr (by decide)))))]
    exact this
/-- the type of a field -/
def mc_ft (k j : Nat) : Option (Nat × ab_Y) := match ab_K[ab_k k]? with
  | some (.inr (ci, τs)) => τs[j]?.map fun τ => (ci, τ)
  | _ => none
theorem mc_fld {h : ax_H} {n k ci j : Nat} {τ : ab_Y} (H : mc_HW h n) (hk : Nat.blt k 573 = true) (hf : mc_ft k j = some (ci, τ)) : ∃ fs v, ax_raw h k = some (.inr (ci, fs)) ∧ fs[j]? = some v ∧ ab_ok n v τ ∧ ab_rd h k (j : Int) = some v := by
  have hk' : k < 573 := by simpa [Nat.blt_eq] using hk
  obtain ⟨d, S, h1, h2, h3⟩ := H.2.1 k (Nat.lt_of_lt_of_le hk' H.1)
  unfold mc_ft at hf
  rw [h2] at hf
  rcases S with ⟨t, N1, N2, σ, σs⟩ | ⟨c, τs⟩
  · cases hf
  · obtain ⟨τ', e1, e2⟩ := Option.map_eq_some_iff.mp hf
    cases e2
    rcases d with ⟨t', N, f | f⟩ | ⟨c', fs⟩
    · exact h3.elim
    · exact h3.elim
    · obtain ⟨rfl, e3, e4⟩ := h3
      have hj : j < fs.length := by rw [e3]; exact (List.getElem?_eq_some_iff.mp e1).1
      obtain ⟨σ, e5, e6⟩ := e4 j fs[j] (List.getElem?_eq_getElem hj)
      rw [e1] at e5
      cases e5
      refine ⟨fs, fs[j], h1, List.getElem?_eq_getElem hj, e6, ?_⟩
      unfold ab_rd
      rw [h1]
      show (bif decide ((j : Int) < 0) then none else fs[(j : Int).toNat]?) = _
      rw [decide_eq_false (by omega)]
      exact List.getElem?_eq_getElem hj
theorem mc_arr {h : ax_H} {n k t N : Nat} {τ : ab_Y} {σ : List ab_Y} (H : mc_HW h n) (hk : Nat.blt k 573 = true) (ha : ab_K[ab_k k]? = some (.inl (t, N, N, τ, σ))) (ht : Nat.blt t 2 = true) : ∃ f, ax_raw h k = some (.inl (t, N, .inl f)) ∧ N < 2147483648 ∧ ∀ i, i < N → ab_ok n (.int (ax_fi f i)) τ ∧ ab_ok n (.int (ax_fi f i)) (σ.getD i τ) ∧ ab_rd h k (i : Int) = some (.int (ax_fi f i)) := by
  have hk' : k < 573 := by simpa [Nat.blt_eq] using hk
  have ht' : t < 2 := by simpa [Nat.blt_eq] using ht
  obtain ⟨d, S, h1, h2, h3⟩ := H.2.1 k (Nat.lt_of_lt_of_le hk' H.1)
  rw [ha] at h2
  cases h2
  rcases d with ⟨t', M, f | f⟩ | ⟨c', fs⟩
  · obtain ⟨rfl, b2, b3, b4, b5, b6⟩ := h3
    obtain rfl : M = N := by omega
    refine ⟨f, h1, b5, fun i hi => ⟨(b6 i hi).1, (b6 i hi).2, ?_⟩⟩
    unfold ab_rd
    rw [h1]
    show (bif decide ((i : Int) < 0) then _ else some (Value.int (ax_fi f (i : Int).toNat))) = _
    rw [decide_eq_false (by omega)]
    rfl
  · exact absurd h3.2.1 (by omega)
  · exact h3.elim
/-- from here the method returns, and then Q -/
def mc_R (l : Launch) (G : ax_T) (mi : ax_MI) (d : Nat) (Q : Option Value → ax_H → Nat → Prop) (F : ax_F) : Prop := ∃ o : ax_O, ax_retT mi.2.2.2.2.1 o.1 = true ∧ ab_Wd l G mi d o F ∧ Q o.1 o.2.1 o.2.2
def mc_M (l : Launch) (G : ax_T) (d : Nat) (mi : ax_MI) (as : List Value) (h : ax_H) (n : Nat) (Q : Option Value → ax_H → Nat → Prop) : Prop := ∃ o : ax_O, ab_M l G d mi as h n o ∧ Q o.1 o.2.1 o.2.2
theorem mc_bal {v : Int} {x : Int32} (h : v = x.toInt) : ∃ y : Int32, y.toInt = v ∧ y = x := ⟨x, h.symm, rfl⟩
theorem mc_add {x y : Int32} {a b : Int} (hx : x.toInt = a) (hy : y.toInt = b) (h1 : -2147483648 ≤ a + b) (h2 : a + b ≤ 2147483647) : (x + y).toInt = a + b := by
  rw [Int32.toInt_add, hx, hy]
  exact ab_bm h1 h2
theorem mc_sub {x y : Int32} {a b : Int} (hx : x.toInt = a) (hy : y.toInt = b) (h1 : -2147483648 ≤ a - b) (h2 : a - b ≤ 2147483647) : (x - y).toInt = a - b := by
  rw [Int32.toInt_sub, hx, hy]
  exact ab_bm h1 h2
theorem mc_mul {x y : Int32} {a b : Int} (hx : x.toInt = a) (hy : y.toInt = b) (h1 : -2147483648 ≤ a * b) (h2 : a * b ≤ 2147483647) : (x * y).toInt = a * b := by
  rw [Int32.toInt_mul, hx, hy]
  exact ab_bm h1 h2
def mc_h (c : ClassFile.Cond) (a b : Int) : Prop := match c with
  | .eq => a = b
  | .ne => a ≠ b
  | .lt => a < b
  | .ge => b ≤ a
  | .gt => b < a
  | .le => a ≤ b
theorem mc_hi {c : ClassFile.Cond} {x y : Int32} : ax_holds c x y ↔ mc_h c x.toInt y.toInt := by
  cases c with
  | eq => exact Int32.toInt_inj.symm
  | ne => exact not_congr Int32.toInt_inj.symm
  | lt => exact Int32.lt_iff_toInt_lt
  | ge => exact Int32.le_iff_toInt_le
  | gt => exact Int32.lt_iff_toInt_lt
  | le => exact Int32.le_iff_toInt_le
section MC
variable {l : Launch} {G : ax_T} {mi : ax_MI} {d : Nat} {Q : Option Value → ax_H → Nat → Prop} {pc pc' tg len : Nat} {lv : List (Nat × Value)} {st : List Value} {h : ax_H} {n : Nat}
theorem mc_to (hmi : mi ∈ mt_prog) {as : List Value} (hlen : Nat.ble (lg_sl as).length mi.2.2.2.1 = true) (hR : mc_R l G mi d Q (0, lv_args 0 as, [], h, n, 0, 0)) : mc_M l G (d + 1) mi as h n Q := by
  obtain ⟨o, h1, h2, h3⟩ := hR
  exact ⟨o, ab_Wd_call mt_ok hmi (by simpa [Nat.ble_eq] using hlen) h1 h2, h3⟩
theorem mc_cx (hmi : mi ∈ mt_prog) (k : Nat) {F F' : ax_F} (hc : cx G mi k F = some F') (hR : mc_R l G mi d Q F') : mc_R l G mi d Q F := by
  obtain ⟨o, h1, h2, h3⟩ := hR
  exact ⟨o, h1, cx_ok hmi k hc h2, h3⟩
theorem mc_stp (hmi : mi ∈ mt_prog) {en : ax_EN} (ha : ax_at mi.2.2.2.2.2.2.2.2 pc = some en) {lv' : List (Nat × Value)} {st' : List Value} {h' : ax_H} (hs : ax_step (ab_io G) mi.2.2.2.1 en.2.1 en.2.2.2.1 pc lv st h n 0 0 = some (pc', lv', st', h', n, 0, 0)) (hR : mc_R l G mi d Q (pc', lv', st', h', n, 0, 0)) : mc_R l G mi d Q (pc, lv, st, h, n, 0, 0) := by
  obtain ⟨o, h1, h2, h3⟩ := hR
  exact ⟨o, h1, ab_Wd_step mt_ok hmi ha hs (Nat.zero_le _) (Nat.zero_le _) h2, h3⟩
theorem mc_ret (hmi : mi ∈ mt_prog) {en : ax_EN} (ha : ax_at mi.2.2.2.2.2.2.2.2 pc = some en) {r : Option Value} (hr : ax_rets en.2.1 st = some r) (ht : ax_retT mi.2.2.2.2.1 r = true) (hQ : Q r h n) : mc_R l G mi d Q (pc, lv, st, h, n, 0, 0) :=
  ⟨(r, h, n), ht, ab_Wd_ret mt_ok hmi ha hr ht (Nat.zero_le _) (Nat.zero_le _), hQ⟩
theorem mc_bi (hmi : mi ∈ mt_prog) {c : ClassFile.Cond} {off : Int} {pe : ax_PE} {hs : List Nat} {x y : Int32} (ha : ax_at mi.2.2.2.2.2.2.2.2 pc = some (pc, .if_icmp c off, len, pe, hs)) (ht : ax_to pc off = some tg) (hp : pc + 3 = pc') (hy : mc_h c x.toInt y.toInt → mc_R l G mi d Q (tg, lv, st, h, n, 0, 0)) (hn : ¬ mc_h c x.toInt y.toInt → mc_R l G mi d Q (pc', lv, st, h, n, 0, 0)) : mc_R l G mi d Q (pc, lv, .int y :: .int x :: st, h, n, 0, 0) := by
  subst hp
  by_cases q : ax_holds c x y
  · exact mc_stp hmi ha (cx_brt (G := G) ht q 0 0) (hy (mc_hi.mp q))
  · exact mc_stp hmi ha (cx_brf (G := G) ht q 0 0) (hn (fun w => q (mc_hi.mpr w)))
theorem mc_bz (hmi : mi ∈ mt_prog) {c : ClassFile.Cond} {off : Int} {pe : ax_PE} {hs : List Nat} {x : Int32} (ha : ax_at mi.2.2.2.2.2.2.2.2 pc = some (pc, .ifCond c off, len, pe, hs)) (ht : ax_to pc off = some tg) (hp : pc + 3 = pc') (hy : mc_h c x.toInt 0 → mc_R l G mi d Q (tg, lv, st, h, n, 0, 0)) (hn : ¬ mc_h c x.toInt 0 → mc_R l G mi d Q (pc', lv, st, h, n, 0, 0)) : mc_R l G mi d Q (pc, lv, .int x :: st, h, n, 0, 0) := by
  subst hp
  by_cases q : ax_holds c x 0
  · exact mc_stp hmi ha (cx_brt (G := G) ht q 0 0) (hy (mc_hi.mp q))
  · exact mc_stp hmi ha (cx_brf (G := G) ht q 0 0) (hn (fun w => q (mc_hi.mpr w)))
theorem mc_getr (hmi : mi ∈ mt_prog) (H : mc_HW h n) {k idx e ci j M c : Nat} {z : Int} {hs : List Nat} (ha : ax_at mi.2.2.2.2.2.2.2.2 pc = some (pc, .getfield idx, 3, (e, ci, j, z), hs)) (hk : Nat.blt k 573 = true) (hf : mc_ft k j = some (ci, .inr (some M))) (ho : ab_one M = some c) (hp : pc + 3 = pc') (hR : mc_R l G mi d Q (pc', lv, .ref c :: st, h, n, 0, 0)) : mc_R l G mi d Q (pc, lv, .ref k :: st, h, n, 0, 0) := by
  subst hp
  obtain ⟨fs, v, h1, h2, ⟨k', rfl, h3, h4⟩, -⟩ := mc_fld H hk hf
  obtain rfl := ab_one_ok ho h4
  refine mc_stp hmi ha ?_ hR
  simp only [ax_step, ax_s_getf, h1, h2, beq_self_eq_true, cond_true, Option.map_some]
theorem mc_geti (hmi : mi ∈ mt_prog) (H : mc_HW h n) {k idx e ci j f : Nat} {lo hi z : Int} {hs : List Nat} (ha : ax_at mi.2.2.2.2.2.2.2.2 pc = some (pc, .getfield idx, 3, (e, ci, j, z), hs)) (hk : Nat.blt k 573 = true) (hf : mc_ft k j = some (ci, .inl (lo, hi, f))) (hp : pc + 3 = pc') (hR : ∀ x : Int32, x.toInt = ab_ri h k (j : Int) → lo ≤ x.toInt → x.toInt ≤ hi → mc_R l G mi d Q (pc', lv, .int x :: st, h, n, 0, 0)) : mc_R l G mi d Q (pc, lv, .ref k :: st, h, n, 0, 0) := by
  subst hp
  obtain ⟨fs, v, h1, h2, ⟨x, rfl, h3, h4, -⟩, h5⟩ := mc_fld H hk hf
  refine mc_stp hmi ha ?_ (hR x ?_ h3 h4)
  · simp only [ax_step, ax_s_getf, h1, h2, beq_self_eq_true, cond_true, Option.map_some]
  · unfold ab_ri
    rw [h5]
theorem mc_in {x : Int32} {N : Nat} (h1 : 0 ≤ x.toInt) (h2 : x.toInt < N) : ax_inB x N = true := by
  simp only [ax_inB, decide_eq_true h1, decide_eq_true h2, Bool.and_self]
theorem mc_clamp {x : Int32} (h1 : 0 ≤ x.toInt) : ((x.toNatClampNeg : Nat) : Int) = x.toInt := by
  have : x.toNatClampNeg = x.toInt.toNat := rfl
  omega
theorem mc_iald (hmi : mi ∈ mt_prog) (H : mc_HW h n) {k N f : Nat} {lo hi : Int} {σ : List ab_Y} {hs : List Nat} {pe : ax_PE} {x : Int32} {i : Int} (ha : ax_at mi.2.2.2.2.2.2.2.2 pc = some (pc, .iaload, 1, pe, hs)) (hk : Nat.blt k 573 = true) (hf : ab_K[ab_k k]? = some (.inl (0, N, N, .inl (lo, hi, f), σ))) (hx : x.toInt = i) (h0 : 0 ≤ i) (hN : i < N) (hp : pc + 1 = pc') (hR : ∀ y : Int32, y.toInt = ab_ri h k i → lo ≤ y.toInt → y.toInt ≤ hi → mc_R l G mi d Q (pc', lv, .int y :: st, h, n, 0, 0)) : mc_R l G mi d Q (pc, lv, .int x :: .ref k :: st, h, n, 0, 0) := by
  subst hp
  obtain ⟨g, h1, h2, h3⟩ := mc_arr H hk hf rfl
  have hc := mc_clamp (x := x) (by omega)
  obtain ⟨⟨y, e1, e2, e3, -⟩, -, e4⟩ := h3 x.toNatClampNeg (by omega)
  refine mc_stp hmi ha ?_ (hR y ?_ e2 e3)
  · simp only [ax_step, ax_s_iald, h1, beq_self_eq_true, mc_in (x := x) (N := N) (by omega) (by omega), Bool.and_self, cond_true, e1]
  · rw [hc, hx, e1] at e4
    unfold ab_ri
    rw [e4]
/-- the element's own bounds -/
theorem mc_cst {k N f : Nat} {lo hi a b : Int} {g : Nat} {σ : List ab_Y} (H : mc_HW h n) (hk : Nat.blt k 573 = true) (hf : ab_K[ab_k k]? = some (.inl (0, N, N, .inl (lo, hi, f), σ))) {i : Nat} (hi' : i < N) (hs : σ[i]? = some (.inl (a, b, g))) : a ≤ ab_ri h k (i : Int) ∧ ab_ri h k (i : Int) ≤ b := by
  obtain ⟨f', h1, h2, h3⟩ := mc_arr H hk hf rfl
  obtain ⟨-, e, e4⟩ := h3 i hi'
  rw [List.getD_eq_getElem?_getD, hs] at e
  obtain ⟨y, e1, e2, e3, -⟩ := e
  unfold ab_ri
  rw [e4, e1]
  exact ⟨e2, e3⟩
theorem mc_rng {k N f : Nat} {lo hi : Int} {σ : List ab_Y} (H : mc_HW h n) (hk : Nat.blt k 573 = true) (hf : ab_K[ab_k k]? = some (.inl (0, N, N, .inl (lo, hi, f), σ))) {i : Int} (h0 : 0 ≤ i) (hi' : i < N) : lo ≤ ab_ri h k i ∧ ab_ri h k i ≤ hi := by
  obtain ⟨f', h1, h2, h3⟩ := mc_arr H hk hf rfl
  obtain ⟨⟨y, e1, e2, e3, -⟩, -, e4⟩ := h3 i.toNat (by omega)
  rw [show ((i.toNat : Nat) : Int) = i by omega] at e4
  unfold ab_ri
  rw [e4, e1]
  exact ⟨e2, e3⟩
theorem mc_frng {k ci j f : Nat} {lo hi : Int} (H : mc_HW h n) (hk : Nat.blt k 573 = true) (hf : mc_ft k j = some (ci, .inl (lo, hi, f))) : lo ≤ ab_ri h k (j : Int) ∧ ab_ri h k (j : Int) ≤ hi := by
  obtain ⟨fs, v, h1, h2, ⟨x, rfl, h3, h4, -⟩, h5⟩ := mc_fld H hk hf
  unfold ab_ri
  rw [h5]
  exact ⟨h3, h4⟩
theorem mc_iast (hmi : mi ∈ mt_prog) (H : mc_HW h n) {k N : Nat} {lo hi : Int} {hs : List Nat} {pe : ax_PE} {x v : Int32} {i : Int} (ha : ax_at mi.2.2.2.2.2.2.2.2 pc = some (pc, .iastore, 1, pe, hs)) (hk : Nat.blt k 573 = true) (hf : ab_K[ab_k k]? = some (.inl (0, N, N, .inl (lo, hi, 0), []))) (hx : x.toInt = i) (h0 : 0 ≤ i) (hN : i < N) (h1 : lo ≤ v.toInt) (h2 : v.toInt ≤ hi) (hp : pc + 1 = pc') (hR : ∀ h' : ax_H, mc_HW h' n → (∀ (k' : Nat) (i' : Int), ab_rd h' k' i' = if k' = k ∧ i' = i then some (.int v) else ab_rd h k' i') → mc_R l G mi d Q (pc', lv, st, h', n, 0, 0)) : mc_R l G mi d Q (pc, lv, .int v :: .int x :: .ref k :: st, h, n, 0, 0) := by
  subst hp
  obtain ⟨g, r1, r2, r3⟩ := mc_arr H hk hf rfl
  have hc := mc_clamp (x := x) (by omega)
  refine mc_stp hmi ha (h' := ax_hset h k (.inl (0, N, .inl ((x.toNatClampNeg, v) :: g)))) ?_ (hR _ ?_ ?_)
  · simp only [ax_step, ax_s_iast, r1, beq_self_eq_true, mc_in (x := x) (N := N) (by omega) (by omega), Bool.and_self, cond_true]
  · refine mc_HW_set H r1 fun S hS hcf => ?_
    rw [hf] at hS
    cases hS
    obtain ⟨b1, b2, b3, b4, b5, b6⟩ := hcf
    refine ⟨b1, b2, b3, b4, b5, fun j hj => ?_⟩
    have := b6 j hj
    by_cases hjx : j = x.toNatClampNeg
    · subst hjx
      have e : ax_fi ((x.toNatClampNeg, v) :: g) x.toNatClampNeg = v := by simp [ax_fi, upd]
      rw [e]
      exact ⟨⟨v, rfl, h1, h2, trivial⟩, ⟨v, rfl, h1, h2, trivial⟩⟩
    · have e : ax_fi ((x.toNatClampNeg, v) :: g) j = ax_fi g j := by simp [ax_fi, upd, hjx]
      rw [e]
      exact this
  · intro k' i'
    rw [ab_rd_ast r1, hc, hx]
theorem mc_puti (hmi : mi ∈ mt_prog) (H : mc_HW h n) {k idx e ci j : Nat} {lo hi z : Int} {hs : List Nat} {v : Int32} (ha : ax_at mi.2.2.2.2.2.2.2.2 pc = some (pc, .putfield idx, 3, (e, ci, j, z), hs)) (hk : Nat.blt k 573 = true) (hf : mc_ft k j = some (ci, .inl (lo, hi, 0))) (hb : ab_fitB (ax_ty ci j) (.inl (lo, hi, 0)) = true) (h1 : lo ≤ v.toInt) (h2 : v.toInt ≤ hi) (hp : pc + 3 = pc') (hR : ∀ h' : ax_H, mc_HW h' n → (∀ (k' : Nat) (i' : Int), ab_rd h' k' i' = if k' = k ∧ i' = (j : Int) then some (.int v) else ab_rd h k' i') → mc_R l G mi d Q (pc', lv, st, h', n, 0, 0)) : mc_R l G mi d Q (pc, lv, .int v :: .ref k :: st, h, n, 0, 0) := by
  subst hp
  obtain ⟨fs, w, r1, r2, r3, r4⟩ := mc_fld H hk hf
  have hj : j < fs.length := (List.getElem?_eq_some_iff.mp r2).1
  have hv : ab_ok n (.int v) (.inl (lo, hi, 0)) := ⟨v, rfl, h1, h2, trivial⟩
  refine mc_stp hmi ha (h' := ax_hset h k (.inr (ci, fs.set j (.int v)))) ?_ (hR _ ?_ ?_)
  · have hjb : Nat.blt j fs.length = true := by simpa [Nat.blt_eq] using hj
    simp only [ax_step, ax_s_putf, r1, beq_self_eq_true, hjb, ab_fitB_ok hb hv, Bool.and_self, cond_true]
  · refine mc_HW_set H r1 fun S hS hcf => ?_
    unfold mc_ft at hf
    rw [hS] at hf
    rcases S with ⟨t, N1, N2, σ, σs⟩ | ⟨c, τs⟩
    · cases hf
    · obtain ⟨τ', e1, e2⟩ := Option.map_eq_some_iff.mp hf
      cases e2
      obtain ⟨b1, b2, b3⟩ := hcf
      refine ⟨b1, by rw [List.length_set]; exact b2, fun i u hu => ?_⟩
      by_cases ei : j = i
      · subst ei
        rw [List.getElem?_set_self hj] at hu
        cases hu
        exact ⟨_, e1, hv⟩
      · rw [List.getElem?_set_ne ei] at hu
        exact b3 i u hu
  · intro k' i'
    unfold ab_rd
    rw [ab_raw_set r1]
    by_cases ek : k' = k
    · subst ek
      rw [if_pos rfl, r1]
      by_cases hn : i' < 0
      · simp only [decide_eq_true hn, cond_true]
        rw [if_neg (by omega)]
      · simp only [decide_eq_false hn, cond_false]
        by_cases ei : i' = (j : Int)
        · subst ei
          rw [if_pos (⟨trivial, rfl⟩ : True ∧ (j : Int) = (j : Int))]
          exact List.getElem?_set_self hj
        · rw [if_neg (fun q => ei q.2), List.getElem?_set_ne (by omega)]
    · rw [if_neg ek, if_neg (fun q => ek q.1)]
theorem mc_ri {h h' : ax_H} {k : Nat} {i : Int} {v : Int32} (hr : ∀ (k' : Nat) (i' : Int), ab_rd h' k' i' = if k' = k ∧ i' = i then some (.int v) else ab_rd h k' i') (k' : Nat) (i' : Int) : ab_ri h' k' i' = if k' = k ∧ i' = i then v.toInt else ab_ri h k' i' := by
  unfold ab_ri
  rw [hr]
  by_cases q : k' = k ∧ i' = i
  · rw [if_pos q, if_pos q]
  · rw [if_neg q, if_neg q]
/-- a call of a method that makes no cells -/
theorem mc_call (hmi : mi ∈ mt_prog) {en : ax_EN} (ha : ax_at mi.2.2.2.2.2.2.2.2 pc = some en) {q : ax_MI × List Value × List Value} (hq : ax_inv mt_prog en.2.1 en.2.2.2.1 st h = some q) (h0 : q.1.2.2.2.2.2.2.1 = 0 ∧ q.1.2.2.2.2.2.2.2.1 = 0) (hp : pc + 3 = pc') (hM : mc_M l G d q.1 q.2.1 h n (fun r h' n' => mc_R l G mi d Q (pc', lv, r.toList ++ q.2.2, h', n', 0, 0))) : mc_R l G mi d Q (pc, lv, st, h, n, 0, 0) := by
  subst hp
  obtain ⟨o1, m1, o, m2, m3, m4⟩ := hM
  exact ⟨o, m2, cx_call hmi ha hq h0 m1 m3, m4⟩
/-- calls of an object's method: its class is looked at -/
theorem mc_inv (H : mc_HW h n) {idx j k ci : Nat} {e : Nat} {z : Int} {mj : ax_MI} {as rest : List Value} {τs : List ab_Y} (hj : mt_prog[j]? = some mj) (hp : ax_pop mj.2.2.2.2.2.1 st = some (as, .ref k :: rest)) (hk : Nat.blt k 573 = true) (hf : ab_K[ab_k k]? = some (.inr (ci, τs))) (hs : Nat.ble (ax_sum rest) 8 = true) : ax_inv mt_prog (.invokevirtual idx) (e, j, ci, z) st h = some (mj, .ref k :: as, rest) := by
  have hk' : k < 573 := by simpa [Nat.blt_eq] using hk
  obtain ⟨d, S, h1, h2, h3⟩ := H.2.1 k (Nat.lt_of_lt_of_le hk' H.1)
  rw [hf] at h2
  cases h2
  rcases d with ⟨t', N, f | f⟩ | ⟨c', fs⟩
  · exact h3.elim
  · exact h3.elim
  · obtain ⟨rfl, -⟩ := h3
    simp only [ax_inv, hj, hp, h1, beq_self_eq_true, hs, Bool.and_self, cond_true]
theorem mc_mono {as : List Value} {Q' : Option Value → ax_H → Nat → Prop} (hM : mc_M l G d mi as h n Q) (hQ : ∀ r h' n', Q r h' n' → Q' r h' n') : mc_M l G d mi as h n Q' := by
  obtain ⟨o, h1, h2⟩ := hM
  exact ⟨o, h1, hQ _ _ _ h2⟩
end MC
theorem mc_ng {c : ClassFile.Cond} {a b : Int} (h : ¬ mc_h c a b) : mc_h (ab_ng c) a b := by
  cases c with
  | eq => exact h
  | ne => exact (Decidable.not_not (p := a = b)).mp h
  | lt => exact Int.not_lt.mp h
  | ge => exact Int.not_le.mp h
  | gt => exact Int.not_lt.mp h
  | le => exact Int.not_le.mp h
section MC2
variable {l : Launch} {G : ax_T} {mi : ax_MI} {d : Nat} {Q : Option Value → ax_H → Nat → Prop} {pc pc' tg len : Nat} {lv : List (Nat × Value)} {st : List Value} {h : ax_H} {n : Nat}
theorem mc_ci (hmi : mi ∈ mt_prog) {c : ClassFile.Cond} {off : Int} {pe : ax_PE} {hs : List Nat} {x y : Int32} {a b : Int} (ha : ax_at mi.2.2.2.2.2.2.2.2 pc = some (pc, .if_icmp c off, len, pe, hs)) (ht : ax_to pc off = some tg) (hp : pc + 3 = pc') (hx : x.toInt = a) (hy : y.toInt = b) (kt : mc_h c a b → mc_R l G mi d Q (tg, lv, st, h, n, 0, 0)) (kn : mc_h (ab_ng c) a b → mc_R l G mi d Q (pc', lv, st, h, n, 0, 0)) : mc_R l G mi d Q (pc, lv, .int y :: .int x :: st, h, n, 0, 0) := by
  subst hx hy
  exact mc_bi hmi ha ht hp kt (fun q => kn (mc_ng q))
theorem mc_cz (hmi : mi ∈ mt_prog) {c : ClassFile.Cond} {off : Int} {pe : ax_PE} {hs : List Nat} {x : Int32} {a : Int} (ha : ax_at mi.2.2.2.2.2.2.2.2 pc = some (pc, .ifCond c off, len, pe, hs)) (ht : ax_to pc off = some tg) (hp : pc + 3 = pc') (hx : x.toInt = a) (kt : mc_h c a 0 → mc_R l G mi d Q (tg, lv, st, h, n, 0, 0)) (kn : mc_h (ab_ng c) a 0 → mc_R l G mi d Q (pc', lv, st, h, n, 0, 0)) : mc_R l G mi d Q (pc, lv, .int x :: st, h, n, 0, 0) := by
  subst hx
  exact mc_bz hmi ha ht hp kt (fun q => kn (mc_ng q))
end MC2
theorem mc_lvs {l : Launch} {G : ax_T} {mi : ax_MI} {d : Nat} {Q : Option Value → ax_H → Nat → Prop} {pc : Nat} {lv lv' : List (Nat × Value)} {st : List Value} {h : ax_H} {n : Nat} (hs : ∀ q ∈ lv', q ∈ lv) (hR : mc_R l G mi d Q (pc, lv', st, h, n, 0, 0)) : mc_R l G mi d Q (pc, lv, st, h, n, 0, 0) := by
  obtain ⟨o, h1, h2, h3⟩ := hR
  refine ⟨o, h1, ?_, h3⟩
  intro p e s m args below meth c M hnm hrt ls H locs hl hR' hL
  refine h2 p e s m args below meth c M hnm hrt ls H locs ⟨hl.1, hl.2.1, fun q hq => ?_⟩ hR' hL
  obtain ⟨z, hz, rfl⟩ := List.mem_map.mp hq
  exact hl.2.2 _ (List.mem_map.mpr ⟨z, hs z hz, rfl⟩)
def sm (f : Nat → Int) : Nat → Int
  | 0 => 0
  | k + 1 => sm f k + f k
theorem sm_nn {f : Nat → Int} : ∀ k : Nat, (∀ i, i < k → 0 ≤ f i) → 0 ≤ sm f k
  | 0, _ => Int.le_refl 0
  | k + 1, h => by
    have := sm_nn k (fun i hi => h i (by omega))
    have := h k (by omega)
    show 0 ≤ sm f k + f k
    omega
theorem sm_eq {f g : Nat → Int} : ∀ k : Nat, (∀ i, i < k → f i = g i) → sm f k = sm g k
  | 0, _ => rfl
  | k + 1, h => by
    show sm f k + f k = sm g k + g k
    rw [sm_eq k (fun i hi => h i (by omega)), h k (by omega)]

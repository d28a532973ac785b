/-! ===== the law's cases (printed by wip/v2/mk86.py) ===== -/
section LO
variable {G : ax_T} {p : Program} {l : Launch} {e : Env} {s : State} {m : MethodId} {below : List Frame} {meth : Method} {c : Code} {b L : Nat} {xs : Nat → Int32}
variable {pc i : Nat} {lv : List (Nat × Value)} {st as rest : List Value} {h : ax_H} {n cs ss : Nat} {en : ax_EN} {mi : ax_MI}
theorem lx_land (C : lx_C G p s m meth c b L xs) {z w : Int64} (hd : decode code pc = .ok (.land, 1)) (hW : lx_W G p l e s m below meth c b (pc + 1, lv, .long (z &&& w) :: st, h, n, cs, ss)) : lx_W G p l e s m below meth c b (pc, lv, .long w :: .long z :: st, h, n, cs, ss) := fun ls H locs hl hR hL => lv_land C.1.1 C.1.2.1 hd (hW ls H locs hl hR hL)
theorem ht_obj (hH : ab_HT h n) {k ci : Nat} {τ : ab_Y} (hk : k < 573) (hc : ab_fck (2 ^ ab_k k) ci 0 τ = true) : ∃ fs, ax_raw h k = some (.inr (ci, fs)) := by
  obtain ⟨fs, v, h1, -⟩ := ab_fck_ok hH (M := 2 ^ ab_k k) (k := k) (by simp) (by have := hH.1; omega) hc
  exact ⟨fs, h1⟩
theorem ht_x (hH : ab_HT h n) : ∃ fs, ax_raw h 0 = some (.inr (10, fs)) := ht_obj hH (τ := .inr (some 2)) (by decide) (by decide +kernel)
theorem ht_m (hH : ab_HT h n) : ∃ fs, ax_raw h 542 = some (.inr (11, fs)) := ht_obj hH (τ := .inr (some 9007199254740992)) (by decide) (by decide +kernel)
theorem lx_I_le (hI : lx_I h n cs ss) : cs ≤ 600000 ∧ ss ≤ 7302250 := by
  obtain ⟨c10, r10, l10, u10⟩ := fl_rd hI.1 (k := 0) (ci := 10) (j := 10) (lo := 0) (hi := 30) (by decide) (by decide +kernel)
  have hr : ab_ri h 0 10 = c10.toInt := by
    unfold ab_ri
    rw [show ab_rd h 0 10 = some (.int c10) from r10]
  have h1 := hI.2.1
  have h2 := hI.2.2.1
  rw [hr] at h1 h2
  omega
theorem lo_inv {idx a j ci k : Nat} {z : Int} {fs : List Value} (hm : mt_prog[j]? = some mi) (hp : ax_pop mi.2.2.2.2.2.1 st = some (as, .ref k :: rest)) (hr : ax_raw h k = some (.inr (ci, fs))) (hb : Nat.ble (ax_sum rest) 8 = true) : ax_inv mt_prog (.invokevirtual idx) (a, j, ci, z) st h = some (mi, .ref k :: as, rest) := by
  simp only [ax_inv, hm, hp, hr, hb, beq_self_eq_true, Bool.and_self, cond_true]
theorem lo_invz {idx a j ci k : Nat} {z : Int} {fs : List Value} (hm : mt_prog[j]? = some mi) (hp : ax_pop mi.2.2.2.2.2.1 st = some (as, .ref k :: rest)) (hr : ax_raw h k = some (.inr (ci, fs))) (hb : Nat.ble (ax_sum rest) 8 = true) : ax_inv z_prog (.invokevirtual idx) (a, j, ci, z) st h = some (zz mi, .ref k :: as, rest) := by
  have hp' : ax_pop (zz mi).2.2.2.2.2.1 st = some (as, .ref k :: rest) := hp
  simp only [ax_inv, zz_get hm, hp', hr, hb, beq_self_eq_true, Bool.and_self, cond_true]
theorem lo_call (C : lx_C G p s m meth c b L xs) (hI : lx_I h n cs ss) {M : List (Nat × Int)} (hS : pb_S l G mi as h n M) (hk : kp_md lx_K M = true) (ha : ax_at lw_tab pc = some en) (hq : ax_inv mt_prog en.2.1 en.2.2.2.1 st h = some (mi, as, rest)) (h0 : mi.2.2.2.2.2.2.1 = 0 ∧ mi.2.2.2.2.2.2.2.1 = 0)
    (kk : ∀ (x : Int32) (h' : ax_H) (n' : Nat), lx_I h' n' cs ss → lx_W G p l e s m below meth c b (pc + 3, lv, .int x :: rest, h', n', cs, ss)) : lx_W G p l e s m below meth c b (pc, lv, st, h, n, cs, ss) := by
  obtain ⟨x, h', n', hM, k1, k2⟩ := hS
  obtain ⟨u1, u2⟩ := lx_I_le hI
  refine lx_call C mt_ok (lx_ok ha) hq hM (by rw [h0.1]; exact u1) (by rw [h0.2]; exact u2) ?_
  rw [h0.1, h0.2]
  have k3 := kp_of hk k2 hI.1.1
  exact kk x h' n' ⟨k1, by rw [lx_0 (kpt_l k3)]; exact hI.2.1, by rw [lx_0 (kpt_l k3)]; exact hI.2.2.1, lx_R_k (kpt_r k3) hI.2.2.2⟩
theorem lo_long (C : lx_C G p s m meth c b L xs) (hI : lx_I h n cs ss) {M : List (Nat × Int)} (hS : pb_L l G mi as h n M) (hk : kp_md lx_K M = true) (ha : ax_at lw_tab pc = some en) (hq : ax_inv mt_prog en.2.1 en.2.2.2.1 st h = some (mi, as, rest)) (h0 : mi.2.2.2.2.2.2.1 = 0 ∧ mi.2.2.2.2.2.2.2.1 = 0)
    (kk : ∀ (x : Int64) (h' : ax_H) (n' : Nat), lx_I h' n' cs ss → lx_W G p l e s m below meth c b (pc + 3, lv, .long x :: rest, h', n', cs, ss)) : lx_W G p l e s m below meth c b (pc, lv, st, h, n, cs, ss) := by
  obtain ⟨x, h', n', hM, k1, k2⟩ := hS
  obtain ⟨u1, u2⟩ := lx_I_le hI
  refine lx_call C mt_ok (lx_ok ha) hq hM (by rw [h0.1]; exact u1) (by rw [h0.2]; exact u2) ?_
  rw [h0.1, h0.2]
  have k3 := kp_of hk k2 hI.1.1
  exact kk x h' n' ⟨k1, by rw [lx_0 (kpt_l k3)]; exact hI.2.1, by rw [lx_0 (kpt_l k3)]; exact hI.2.2.1, lx_R_k (kpt_r k3) hI.2.2.2⟩
theorem lo_okz (ha : ax_at lw_tab pc = some en) : ax_Ok z_prog "LetterSumsLaw" meth.name code pc en.2.1 en.2.2.1 en.2.2.2.1 := ⟨(lx_ok (meth := meth) ha).1, (lx_ok (meth := meth) ha).2.1, zz_okW (lx_ok (meth := meth) ha).2.2⟩
/-- could, says, sure of the class -/
theorem lo_three (C : lx_C G p s m meth c b L xs) (hI : lx_I h n cs ss) {M : List (Nat × Int)} (hS : pb_3 l G mi as h n M) (hk : kp_md lx_K1 M = true) (ha : ax_at lw_tab pc = some en) (hq : ax_inv mt_prog en.2.1 en.2.2.2.1 st h = some (mi, as, rest)) (hz : ax_inv z_prog en.2.1 en.2.2.2.1 st h = some (zz mi, as, rest)) (h0 : mi.2.2.2.2.2.2.1 = 1 ∧ mi.2.2.2.2.2.2.2.1 = 41160)
    (kk : ∀ (x : Int32) (h' : ax_H) (n' cs' ss' : Nat), lx_I h' n' cs' ss' → lx_W G p l e s m below meth c b (pc + 3, lv, .int x :: rest, h', n', cs', ss')) : lx_W G p l e s m below meth c b (pc, lv, st, h, n, cs, ss) := by
  obtain ⟨u1, u2⟩ := lx_I_le hI
  rcases hS with ⟨x, h', n', hM, k1, k2⟩ | ⟨x, h', n', hM, k1, kf, k2⟩
  · refine lx_call C z_ok (lo_okz ha) hz hM u1 u2 ?_
    have k3 : kpt lx_K h h' := kp_of (by decide +kernel) k2 hI.1.1
    exact kk x h' n' _ _ ⟨k1, by rw [lx_0 (kpt_l k3)]; exact hI.2.1, by rw [lx_0 (kpt_l k3)]; exact hI.2.2.1, lx_R_k (kpt_r k3) hI.2.2.2⟩
  · have hI' : lx_I h' n' (cs + 1) (ss + 41160) := ⟨k1, by have := hI.2.1; omega, by have := hI.2.2.1; omega, lx_R_k (kp_of hk kf hI.1.1) hI.2.2.2⟩
    obtain ⟨v1, v2⟩ := lx_I_le hI'
    refine lx_call C mt_ok (lx_ok ha) hq hM (by rw [h0.1]; exact v1) (by rw [h0.2]; exact v2) ?_
    rw [h0.1, h0.2]
    exact kk x h' n' _ _ hI'
theorem lo_ix (hi : i + 5 ≤ L) (hL : L ≤ 2560) (j : Nat) (hj : j ≤ 4) : (nI i + Int32.ofInt (j : Int)).toInt = (i : Int) + j := by
  rw [cx_of, nI_add, nI_toInt (by omega)]
  omega
end LO

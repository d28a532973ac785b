/-! ===== letters on a new object: the page's cells are 1 and 2 ===== -/
/-- the cells with i letters on the page -/
def lt_h (i : Nat) (f : List (Nat × Int32)) : ax_H := ax_hset (ax_hset lw_hm 2 (.inl (0, 80, .inl f))) 1 (.inr (4, [.ref 2, .int (nI i)]))
def lt_l (w : Int64) : Nat → List (Nat × Int32)
  | 0 => []
  | i + 1 => ((nI i).toNatClampNeg, lt_c w i) :: lt_l w i
theorem lt_h_0 : lt_h 0 [] = lw_hm := rfl
theorem lt_h_s (i : Nat) (f f' : List (Nat × Int32)) (x : Int32) (hx : x = nI (i + 1)) : ax_hset (ax_hset (lt_h i f) 2 (.inl (0, 80, .inl f'))) 1 (.inr (4, [.ref 2, .int x])) = lt_h (i + 1) f' := by rw [hx]; rfl
theorem lt_dret : decode cX4_append 49 = .ok (.return_, 1) := by decide +kernel
theorem ax_fit_int (x : Int32) : ax_fit .int (.int x) = true := by simp [ax_fit, narrow, fits]
theorem lt_store {iv : Nat → Int × Int} {nL i pc n cs ss : Nat} {pe : ax_PE} {lv : List (Nat × Value)} {st : List Value} {f : List (Nat × Int32)} {x : Int32} (hin : ax_inB (nI i) 80 = true) : ax_step iv nL .iastore pe pc lv (.int x :: .int (nI i) :: .ref 2 :: st) (lt_h i f) n cs ss = some (pc + 1, lv, st, ax_hset (lt_h i f) 2 (.inl (0, 80, .inl (((nI i).toNatClampNeg, x) :: f))), n, cs, ss) := by
  have hr : ax_raw (lt_h i f) 2 = some (.inl (0, 80, .inl f)) := rfl
  simp only [ax_step, ax_s_iast, hr, hin]
  rfl
theorem lt_put {iv : Nat → Int × Int} {nL idx pc n cs ss k ci j : Nat} {kd : Nat} {lv : List (Nat × Value)} {st : List Value} {fs : List Value} {x : Int32} {H : ax_H} (hr : ax_raw H k = some (.inr (ci, fs))) (hj : j < fs.length) (hty : ax_ty ci j = .int) : ax_step iv nL (.putfield idx) (kd, ci, j, 0) pc lv (.int x :: .ref k :: st) H n cs ss = some (pc + 3, lv, st, ax_hset H k (.inr (ci, fs.set j (.int x))), n, cs, ss) := by
  have h1 : (ci == ci) = true := by simp
  have h2 : Nat.blt j fs.length = true := by simpa [Nat.blt_eq] using hj
  simp only [ax_step, ax_s_putf, hr, h1, h2, hty, ax_fit_int, Bool.and_self, cond_true]
section LTA
variable {l : Launch} {G : ax_T} {N d : Nat}
theorem lt_append (w : Int64) (k : Nat) (hk : k ≤ 8) : ax_Met l G yX4_append cX4_append 5 none (d + 2) [.ref 1, .long w, .int (nI k)] (ax_hget lw_hm) N none (ax_hget (lt_h k (lt_l w k))) N 0 0 := by
  refine ax_met_of (by decide +kernel) (Nat.le_of_ble_eq_true rfl) ?_
  intro p e s m args below meth c M hnm hrt
  have htab : ∀ ch ∈ ut_X4_append.2.2.2.2.2.2.2.2, ∀ en ∈ ch, ax_Ok mu_prog RX4 "append" cX4_append en.1 en.2.1 en.2.2.1 en.2.2.2.1 := vk_X4_append.2.2.2
  have hrm : 1 ≤ (ax_rm (d + 2) 0 0).frames ∧ 40 ≤ (ax_rm (d + 2) 0 0).locals := ⟨Nat.le_add_left 1 (d + 1), by show 40 ≤ 40 * (d + 2); omega⟩
  have e80 : (Int8.ofInt 80).toInt32 = nI 80 := by decide
  have loop : ∀ (f i : Nat), i ≤ k → k < i + f → ax_W G p l e (ax_rm (d + 2) 0 0) s m args below meth c (MQ below (ax_Qc G none (ax_hget (lt_h k (lt_l w k))) N) args s 0 0 (fun q => G.2.1 ≤ q)) 5 3 [(4, .int (nI i)), (0, .ref 1), (1, .long w), (3, .int (nI k))] [] (ax_hget (lt_h i (lt_l w i))) N 0 0 := by
    intro f
    induction f with
    | zero => intro i h1 h2; omega
    | succ f ih =>
      intro i h1 h2
      iterate 2 refine ax_one M hnm htab hrm rfl rfl (Nat.zero_le _) (Nat.zero_le _) ?_
      refine ax_icmp2 M (tgt := 49) dd_X4_append_6 (by decide) (fun c1 => ?_) (fun c1 => ?_)
      · have c1' : nI k ≤ nI i := c1
        rw [nI_leI (by omega) (by omega)] at c1'
        have hi : i = k := by omega
        subst hi
        exact ax_ret_ok M hrt lt_dret (Or.inr rfl) rfl rfl (Nat.le_refl 0) (Nat.le_refl 0)
      · have c1' : ¬ nI k ≤ nI i := c1
        rw [nI_leI (by omega) (by omega)] at c1'
        iterate 3 refine ax_one M hnm htab hrm rfl rfl (Nat.zero_le _) (Nat.zero_le _) ?_
        refine ax_icmp2 M (tgt := 49) dd_X4_append_15 (by decide) (fun c2 => ?_) (fun c2 => ?_)
        · have c2' : nI 80 ≤ nI i := e80 ▸ (show (Int8.ofInt 80).toInt32 ≤ nI i from c2)
          rw [nI_leI (by decide) (by omega)] at c2'
          omega
        · iterate 6 refine ax_one M hnm htab hrm rfl rfl (Nat.zero_le _) (Nat.zero_le _) ?_
          refine ax_inv_ok mu_ok M (ax_ok_at htab (pc := 29) rfl) (q := (ut_X4_codeAt, [.long w, .int (nI i)], [.int (nI i), .ref 2])) rfl (o := (some (.int (lt_c w i)), lt_h i (lt_l w i), N)) (fun _ => lt_codeAt (d := d) w i) (Nat.le_refl _) (Nat.le_refl _) (Nat.le_refl _) (Nat.le_refl _) ?_ (fun q => by cases q)
          have hin : ax_inB (nI i) 80 = true := by
            simp only [ax_inB, Bool.and_eq_true, decide_eq_true_eq]
            rw [nI_toInt (by omega)]
            omega
          refine ax_one M hnm htab hrm (pc := 32) rfl (lt_store hin) (Nat.zero_le _) (Nat.zero_le _) ?_
          iterate 5 refine ax_one M hnm htab hrm rfl rfl (Nat.zero_le _) (Nat.zero_le _) ?_
          refine ax_one M hnm htab hrm (pc := 40) rfl (lt_put (fs := [.ref 2, .int (nI i)]) rfl (Nat.le_of_ble_eq_true rfl) rfl) (Nat.zero_le _) (Nat.zero_le _) ?_
          iterate 2 refine ax_one M hnm htab hrm rfl rfl (Nat.zero_le _) (Nat.zero_le _) ?_
          have := ih (i + 1) (by omega) (by omega)
          rw [← (show nI i + Int32.ofInt 1 = nI (i + 1) from nI_1 i), ← lt_h_s i (lt_l w i) (lt_l w (i + 1)) (nI i + Int32.ofInt 1) (nI_1 i)] at this
          exact this
  iterate 2 refine ax_one M hnm htab hrm rfl rfl (Nat.zero_le _) (Nat.zero_le _) ?_
  exact loop (k + 1) 0 (Nat.zero_le _) (by omega)
end LTA

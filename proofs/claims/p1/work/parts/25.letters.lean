/-! ===== letters: the bytes of a long, the lowest first ===== -/
section LTR
variable {G : ax_T} {p : Program} {l : Launch} {e : Env} {R : Room} {s : State} {m : MethodId} {args : Array Value} {below : List Frame} {meth : Method} {c : Code} {Q : State → Prop} {own nm : String} {cc : ByteArray} {nL pc n cs ss : Nat} {lv : List (Nat × Value)} {st : List Value} {g : Nat → Option ax_C}
theorem ax_lushr2 (M : ax_M G p s m args meth c own cc nL) {x : Int64} {y : Int32} (hd : decode cc pc = .ok (.lushr, 1)) (kk : ax_W G p l e R s m args below meth c Q nL (pc + 1) lv (.long (x.toUInt64 >>> (y.toInt64.toUInt64 &&& Int64.toUInt64 63)).toInt64 :: st) g n cs ss) : ax_W G p l e R s m args below meth c Q nL pc lv (.int y :: .long x :: st) g n cs ss :=
  fun ls H locs hl hR hL => lv_lushr M.1 M.2.1 hd rfl (kk ls H locs hl hR hL)
theorem ax_lshr2 (M : ax_M G p s m args meth c own cc nL) {x : Int64} {y : Int32} (hd : decode cc pc = .ok (.lshr, 1)) (kk : ax_W G p l e R s m args below meth c Q nL (pc + 1) lv (.long (x >>> (y.toInt64 &&& 63)) :: st) g n cs ss) : ax_W G p l e R s m args below meth c Q nL pc lv (.int y :: .long x :: st) g n cs ss :=
  fun ls H locs hl hR hL => lv_lshr M.1 M.2.1 hd rfl (kk ls H locs hl hR hL)
theorem ax_lshl2 (M : ax_M G p s m args meth c own cc nL) {x : Int64} {y : Int32} (hd : decode cc pc = .ok (.lshl, 1)) (kk : ax_W G p l e R s m args below meth c Q nL (pc + 1) lv (.long (x <<< (y.toInt64 &&& 63)) :: st) g n cs ss) : ax_W G p l e R s m args below meth c Q nL pc lv (.int y :: .long x :: st) g n cs ss :=
  fun ls H locs hl hR hL => lv_lshl M.1 M.2.1 hd rfl (kk ls H locs hl hR hL)
theorem ax_land2 (M : ax_M G p s m args meth c own cc nL) {x y : Int64} (hd : decode cc pc = .ok (.land, 1)) (kk : ax_W G p l e R s m args below meth c Q nL (pc + 1) lv (.long (x &&& y) :: st) g n cs ss) : ax_W G p l e R s m args below meth c Q nL pc lv (.long y :: .long x :: st) g n cs ss :=
  fun ls H locs hl hR hL => lv_land M.1 M.2.1 hd (kk ls H locs hl hR hL)
theorem ax_lor2 (M : ax_M G p s m args meth c own cc nL) {x y : Int64} (hd : decode cc pc = .ok (.lor, 1)) (kk : ax_W G p l e R s m args below meth c Q nL (pc + 1) lv (.long (x ||| y) :: st) g n cs ss) : ax_W G p l e R s m args below meth c Q nL pc lv (.long y :: .long x :: st) g n cs ss :=
  fun ls H locs hl hR hL => lv_lor M.1 M.2.1 hd (kk ls H locs hl hR hL)
theorem ax_l2i2 (M : ax_M G p s m args meth c own cc nL) {x : Int64} (hd : decode cc pc = .ok (.l2i, 1)) (kk : ax_W G p l e R s m args below meth c Q nL (pc + 1) lv (.int x.toInt32 :: st) g n cs ss) : ax_W G p l e R s m args below meth c Q nL pc lv (.long x :: st) g n cs ss :=
  fun ls H locs hl hR hL => lv_l2i M.1 M.2.1 hd rfl (kk ls H locs hl hR hL)
theorem ax_i2b2 (M : ax_M G p s m args meth c own cc nL) {x : Int32} (hd : decode cc pc = .ok (.i2b, 1)) (kk : ax_W G p l e R s m args below meth c Q nL (pc + 1) lv (.int x.toInt8.toInt32 :: st) g n cs ss) : ax_W G p l e R s m args below meth c Q nL pc lv (.int x :: st) g n cs ss :=
  fun ls H locs hl hR hL => lv_i2b M.1 M.2.1 hd rfl (kk ls H locs hl hR hL)
/-- fewer cells are told -/
theorem ax_gsub {g' : Nat → Option ax_C} (hg : ∀ k c, g' k = some c → g k = some c) (kk : ax_W G p l e R s m args below meth c Q nL pc lv st g' n cs ss) : ax_W G p l e R s m args below meth c Q nL pc lv st g n cs ss :=
  fun ls H locs hl hR hL => kk ls H locs hl ⟨hR.1, fun k c hc => hR.2.1 k c (hg k c hc), hR.2.2⟩ hL
end LTR
/-- the i-th byte, as the class takes it -/
def lt_c (w : Int64) (i : Nat) : Int32 := (w.toUInt64 >>> ((Int32.ofInt 8 * nI i).toInt64.toUInt64 &&& Int64.toUInt64 63)).toInt64.toInt32 &&& 255
/-- how many of the first i aren't 0 -/
def lt_num (w : Int64) : Nat → Nat
  | 0 => 0
  | i + 1 => lt_num w i + (if lt_c w i = 0 then 0 else 1)
def lt_ok (w : Int64) : Nat → Bool
  | 0 => true
  | i + 1 => lt_ok w i && !(decide (126 < lt_c w i) || (decide (¬ lt_c w i = 0) && decide (lt_num w i < i)))
theorem lt_num_le (w : Int64) : ∀ i, lt_num w i ≤ i
  | 0 => Nat.le_refl 0
  | i + 1 => by
    rw [lt_num]
    have := lt_num_le w i
    split <;> omega
theorem lt_ok_false {w : Int64} : ∀ (k i : Nat), lt_ok w i = false → lt_ok w (i + k) = false
  | 0, i, h => h
  | k + 1, i, h => by rw [← Nat.add_assoc, lt_ok, lt_ok_false k i h]; rfl
section LTC
variable {l : Launch} {G : ax_T} {h : ax_H} {N d : Nat}
theorem lt_codeAt (w : Int64) (i : Nat) : ax_Met l G yX4_codeAt cX4_codeAt 3 (some .int) (d + 1) [.long w, .int (nI i)] (ax_hget h) N (some (.int (lt_c w i))) (ax_hget h) N 0 0 := by
  refine ax_met_of (by decide +kernel) (Nat.le_of_ble_eq_true rfl) ?_
  intro p e s m args below meth c M hnm hrt
  have htab : ∀ ch ∈ ut_X4_codeAt.2.2.2.2.2.2.2.2, ∀ en ∈ ch, ax_Ok mu_prog RX4 "codeAt" cX4_codeAt en.1 en.2.1 en.2.2.1 en.2.2.2.1 := vk_X4_codeAt.2.2.2
  have hrm : 1 ≤ (ax_rm (d + 1) 0 0).frames ∧ 40 ≤ (ax_rm (d + 1) 0 0).locals := ⟨Nat.le_add_left 1 d, by show 40 ≤ 40 * (d + 1); omega⟩
  iterate 4 refine ax_one M hnm htab hrm rfl rfl (Nat.zero_le _) (Nat.zero_le _) ?_
  refine ax_lushr2 M dd_X4_codeAt_5 ?_
  refine ax_l2i2 M dd_X4_codeAt_6 ?_
  iterate 2 refine ax_one M hnm htab hrm rfl rfl (Nat.zero_le _) (Nat.zero_le _) ?_
  exact ax_ret_ok M hrt dd_X4_codeAt_11 (Or.inr rfl) rfl rfl (Nat.le_refl 0) (Nat.le_refl 0)
theorem lt_lettersIn (w : Int64) : ax_Met l G yX4_lettersIn cX4_lettersIn 5 (some .int) (d + 2) [.long w] (ax_hget h) N (some (.int (if lt_ok w 8 = true then nI (lt_num w 8) else -1))) (ax_hget h) N 0 0 := by
  refine ax_met_of (by decide +kernel) (Nat.le_of_ble_eq_true rfl) ?_
  intro p e s m args below meth c M hnm hrt
  have htab : ∀ ch ∈ ut_X4_lettersIn.2.2.2.2.2.2.2.2, ∀ en ∈ ch, ax_Ok mu_prog RX4 "lettersIn" cX4_lettersIn en.1 en.2.1 en.2.2.1 en.2.2.2.1 := vk_X4_lettersIn.2.2.2
  have hrm : 1 ≤ (ax_rm (d + 2) 0 0).frames ∧ 40 ≤ (ax_rm (d + 2) 0 0).locals := ⟨Nat.le_add_left 1 (d + 1), by show 40 ≤ 40 * (d + 2); omega⟩
  have e8 : (Int8.ofInt 8).toInt32 = nI 8 := by decide
  have e126 : (Int8.ofInt 126).toInt32 = (126 : Int32) := by decide
  have loop : ∀ (f i : Nat) (x4 : List (Nat × Value)), i ≤ 8 → 8 < i + f → lt_ok w i = true → ax_W G p l e (ax_rm (d + 2) 0 0) s m args below meth c (MQ below (ax_Qc G (some (.int (if lt_ok w 8 = true then nI (lt_num w 8) else -1))) (ax_hget h) N) args s 0 0 (fun q => G.2.1 ≤ q)) 5 4 [(3, .int (nI i)), (2, .int (nI (lt_num w i))), (0, .long w)] [] (ax_hget h) N 0 0 := by
    intro f
    induction f with
    | zero => intro i x4 h1 h2; omega
    | succ f ih =>
      intro i x4 h1 h2 hok
      have hnl := lt_num_le w i
      iterate 2 refine ax_one M hnm htab hrm rfl rfl (Nat.zero_le _) (Nat.zero_le _) ?_
      refine ax_icmp2 M (tgt := 50) dd_X4_lettersIn_7 (by decide) (fun c1 => ?_) (fun c1 => ?_)
      · have c1' : nI 8 ≤ nI i := e8 ▸ (show (Int8.ofInt 8).toInt32 ≤ nI i from c1)
        rw [nI_leI (by decide) (by omega)] at c1'
        have hi : i = 8 := by omega
        subst hi
        iterate 1 refine ax_one M hnm htab hrm rfl rfl (Nat.zero_le _) (Nat.zero_le _) ?_
        rw [if_pos hok]
        exact ax_ret_ok M hrt dd_X4_lettersIn_51 (Or.inr rfl) rfl rfl (Nat.le_refl 0) (Nat.le_refl 0)
      · have c1' : ¬ nI 8 ≤ nI i := fun q => c1 (show (Int8.ofInt 8).toInt32 ≤ nI i by rw [e8]; exact q)
        rw [nI_leI (by decide) (by omega)] at c1'
        iterate 2 refine ax_one M hnm htab hrm rfl rfl (Nat.zero_le _) (Nat.zero_le _) ?_
        refine ax_inv_ok mu_ok M (ax_ok_at htab (pc := 12) rfl) (q := (ut_X4_codeAt, [.long w, .int (nI i)], [])) rfl (o := (some (.int (lt_c w i)), h, N)) (fun _ => lt_codeAt (d := d) w i) (Nat.le_refl _) (Nat.le_refl _) (Nat.le_refl _) (Nat.le_refl _) ?_ (fun q => by cases q)
        have bad : ∀ (hb : lt_ok w (i + 1) = false) (lv : List (Nat × Value)), ax_W G p l e (ax_rm (d + 2) 0 0) s m args below meth c (MQ below (ax_Qc G (some (.int (if lt_ok w 8 = true then nI (lt_num w 8) else -1))) (ax_hget h) N) args s 0 0 (fun q => G.2.1 ≤ q)) 5 34 lv [] (ax_hget h) N 0 0 := by
          intro hb lv
          have hb8 : lt_ok w 8 = false := by
            have := lt_ok_false (7 - i) (i + 1) hb
            rw [show i + 1 + (7 - i) = 8 by omega] at this
            exact this
          iterate 1 refine ax_one M hnm htab hrm rfl rfl (Nat.zero_le _) (Nat.zero_le _) ?_
          rw [if_neg (by rw [hb8]; decide)]
          exact ax_ret_ok M hrt dd_X4_lettersIn_35 (Or.inr rfl) rfl rfl (Nat.le_refl 0) (Nat.le_refl 0)
        have good : ∀ (hg : lt_ok w (i + 1) = true), ax_W G p l e (ax_rm (d + 2) 0 0) s m args below meth c (MQ below (ax_Qc G (some (.int (if lt_ok w 8 = true then nI (lt_num w 8) else -1))) (ax_hget h) N) args s 0 0 (fun q => G.2.1 ≤ q)) 5 36 [(4, .int (lt_c w i)), (3, .int (nI i)), (2, .int (nI (lt_num w i))), (0, .long w)] [] (ax_hget h) N 0 0 := by
          intro hg
          have := ih (i + 1) [] (by omega) (by omega) hg
          iterate 1 refine ax_one M hnm htab hrm rfl rfl (Nat.zero_le _) (Nat.zero_le _) ?_
          refine ax_if2 M (tgt := 44) dd_X4_lettersIn_38 (by decide) (fun c5 => ?_) (fun c5 => ?_)
          · have g5 : lt_c w i = 0 := c5
            iterate 2 refine ax_one M hnm htab hrm rfl rfl (Nat.zero_le _) (Nat.zero_le _) ?_
            have q1 : nI (lt_num w (i + 1)) = nI (lt_num w i) := by rw [lt_num, if_pos g5, Nat.add_zero]
            rw [q1, ← (show nI i + Int32.ofInt 1 = nI (i + 1) from nI_1 i)] at this
            exact ax_lvp [0, 2, 3] rfl this
          · have g5 : ¬ lt_c w i = 0 := c5
            iterate 3 refine ax_one M hnm htab hrm rfl rfl (Nat.zero_le _) (Nat.zero_le _) ?_
            have q1 : nI (lt_num w (i + 1)) = nI (lt_num w i) + Int32.ofInt 1 := by rw [lt_num, if_neg g5]; exact (nI_1 _).symm
            rw [q1, ← (show nI i + Int32.ofInt 1 = nI (i + 1) from nI_1 i)] at this
            exact ax_lvp [0, 1, 3] rfl this
        iterate 3 refine ax_one M hnm htab hrm rfl rfl (Nat.zero_le _) (Nat.zero_le _) ?_
        refine ax_icmp2 M (tgt := 34) dd_X4_lettersIn_21 (by decide) (fun c2 => bad ?_ _) (fun c2 => ?_)
        · have g2 : 126 < lt_c w i := e126 ▸ (show (Int8.ofInt 126).toInt32 < lt_c w i from c2)
          simp [lt_ok, g2]
        · have g2 : ¬ 126 < lt_c w i := fun q => c2 (show (Int8.ofInt 126).toInt32 < lt_c w i by rw [e126]; exact q)
          iterate 1 refine ax_one M hnm htab hrm rfl rfl (Nat.zero_le _) (Nat.zero_le _) ?_
          refine ax_if2 M (tgt := 36) dd_X4_lettersIn_26 (by decide) (fun c3 => good ?_) (fun c3 => ?_)
          · have g3 : lt_c w i = 0 := c3
            simp [lt_ok, hok, g3]
          · have g3 : ¬ lt_c w i = 0 := c3
            iterate 2 refine ax_one M hnm htab hrm rfl rfl (Nat.zero_le _) (Nat.zero_le _) ?_
            refine ax_icmp2 M (tgt := 36) dd_X4_lettersIn_31 (by decide) (fun c4 => good ?_) (fun c4 => bad ?_ _)
            · have g4 : nI i ≤ nI (lt_num w i) := c4
              rw [nI_leI (by omega) (by omega)] at g4
              simp only [lt_ok, hok, Bool.true_and, Bool.not_eq_true', Bool.or_eq_false_iff, decide_eq_false_iff_not, Bool.and_eq_false_iff]
              exact ⟨g2, Or.inr (by omega)⟩
            · have g4 : ¬ nI i ≤ nI (lt_num w i) := c4
              rw [nI_leI (by omega) (by omega)] at g4
              have g5 : lt_num w i < i := by omega
              simp [lt_ok, g3, g5]
  iterate 4 refine ax_one M hnm htab hrm rfl rfl (Nat.zero_le _) (Nat.zero_le _) ?_
  exact loop 9 0 [] (by decide) (by decide) rfl
end LTC

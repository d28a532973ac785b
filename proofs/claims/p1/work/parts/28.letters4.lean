/-! ===== letters: the reference ===== -/
theorem ax_hset_set (h : ax_H) (k : Nat) (a b : ax_D) : ax_hset (ax_hset h k a) k b = ax_hset h k b := by
  unfold ax_hset
  by_cases hl : k / 32 < h.length
  · have e : ∀ x : List ax_D, (List.set h (k / 32) x).getD (k / 32) [] = x := fun x => by rw [List.getD_eq_getElem?_getD, List.getElem?_set_self hl]; rfl
    rw [e, List.set_set, List.set_set]
  · have e : ∀ x : List ax_D, List.set h (k / 32) x = h := fun x => List.set_eq_of_length_le (by omega)
    rw [e, e]
/-- the reference's page, with what was stored there -/
def lt_m (c0 : Nat) (f0 u : List (Nat × Int32)) : ax_H := ax_hset (lt_h c0 f0) 545 (.inl (1, 80, .inl u))
theorem lt_m_0 (c0 : Nat) (f0 : List (Nat × Int32)) : lt_m c0 f0 [] = lt_h c0 f0 := rfl
def lt_e (w : Int64) (i : Nat) : Int32 := if lt_num w i < i then 1 else 0
theorem ax_none {G : ax_T} {p : Program} {l : Launch} {e : Env} {R : Room} {s : State} {m : MethodId} {args : Array Value} {below : List Frame} {meth : Method} {c : Code} {Q : State → Prop} {nL pc n cs ss : Nat} {lv : List (Nat × Value)} {st : List Value} {g : Nat → Option ax_C} (kk : ax_W G p l e R s m args below meth c Q nL pc lv st (ax_hget []) n cs ss) : ax_W G p l e R s m args below meth c Q nL pc lv st g n cs ss :=
  ax_gsub (fun k c hc => by simp [ax_hget, ax_raw] at hc) kk
section LTM
variable {l : Launch} {G : ax_T} {N d c0 : Nat} {f0 : List (Nat × Int32)}
set_option maxHeartbeats 1000000 in
theorem lt_lettersM (w : Int64) : ax_Met l G yX11_letters cX11_letters 7 (some .int) (d + 1) [.ref 542, .long w] (ax_hget (lt_h c0 f0)) N (some (.int (lt_R w))) (ax_hget []) N 0 0 := by
  refine ax_met_of (by decide +kernel) (Nat.le_of_ble_eq_true rfl) ?_
  intro p e s m args below meth c M hnm hrt
  have htab : ∀ ch ∈ ut_X11_letters.2.2.2.2.2.2.2.2, ∀ en ∈ ch, ax_Ok mu_prog RX11 "letters" cX11_letters en.1 en.2.1 en.2.2.1 en.2.2.2.1 := vk_X11_letters.2.2.2
  have hrm : 1 ≤ (ax_rm (d + 1) 0 0).frames ∧ 40 ≤ (ax_rm (d + 1) 0 0).locals := ⟨Nat.le_add_left 1 d, by show 40 ≤ 40 * (d + 1); omega⟩
  have e8 : (Int8.ofInt 8).toInt32 = nI 8 := by decide
  have e80 : (Int8.ofInt 80).toInt32 = nI 80 := by decide
  have e126 : (Int8.ofInt 126).toInt32 = (126 : Int32) := by decide
  have hn8 := lt_num_le w 8
  have loop2 : ∀ (ho : lt_ok w 8 = true) (x4 : Int32) (f i : Nat) (u : List (Nat × Int32)), i ≤ lt_num w 8 → lt_num w 8 < i + f → ax_W G p l e (ax_rm (d + 1) 0 0) s m args below meth c (MQ below (ax_Qc G (some (.int (lt_R w))) (ax_hget []) N) args s 0 0 (fun q => G.2.1 ≤ q)) 7 102 [(5, .int (nI i)), (4, .int x4), (3, .int (nI (lt_num w 8))), (0, .ref 542), (1, .long w)] [] (ax_hget (lt_m c0 f0 u)) N 0 0 := by
    intro ho x4 f
    induction f with
    | zero => intro i u h1 h2; omega
    | succ f ih =>
      intro i u h1 h2
      have hz : (0 : Int32) + nI i = nI i := Int32.zero_add _
      iterate 2 refine ax_one M hnm htab hrm rfl rfl (Nat.zero_le _) (Nat.zero_le _) ?_
      refine ax_icmp2 M (tgt := 135) dd_X11_letters_105 (by decide) (fun c1 => ?_) (fun c1 => ?_)
      · have hzk : (0 : Int32) + nI (lt_num w 8) = nI (lt_num w 8) := Int32.zero_add _
        iterate 5 refine ax_one M hnm htab hrm rfl rfl (Nat.zero_le _) (Nat.zero_le _) ?_
        refine ax_one M hnm htab hrm (pc := 142) rfl (lt_put rfl (Nat.le_of_ble_eq_true rfl) rfl) (Nat.zero_le _) (Nat.zero_le _) ?_
        iterate 2 refine ax_one M hnm htab hrm rfl rfl (Nat.zero_le _) (Nat.zero_le _) ?_
        rw [show lt_R w = (0 : Int32) + nI (lt_num w 8) by rw [hzk]; exact if_pos ho]
        exact ax_none (ax_ret_ok M hrt dd_X11_letters_149 (Or.inr rfl) rfl rfl (Nat.le_refl 0) (Nat.le_refl 0))
      · have c1' : ¬ nI (lt_num w 8) ≤ nI i := c1
        rw [nI_leI (by omega) (by omega)] at c1'
        iterate 10 refine ax_one M hnm htab hrm rfl rfl (Nat.zero_le _) (Nat.zero_le _) ?_
        refine ax_lshr2 M dd_X11_letters_125 ?_
        refine ax_l2i2 M dd_X11_letters_126 ?_
        refine ax_i2b2 M dd_X11_letters_127 ?_
        refine ax_bast M (k := 545) (t := 1) (N := 80) (f := ax_fi u) (show ax_hget (lt_m c0 f0 u) 545 = some (.inl (1, 80, .inl (ax_fi u))) from ax_get_of (d := .inl (1, 80, .inl u)) rfl) rfl (show vp_in ((0 : Int32) + nI i) 80 by rw [hz]; exact vp_in_nI (by omega) (by decide)) dd_X11_letters_128 (ax_hget_set (c := .inl (1, 80, .inl ((((0 : Int32) + nI i).toNatClampNeg, vp_nar .byte _) :: u)))) ?_
        rw [show ax_hset (lt_m c0 f0 u) 545 (.inl (1, 80, .inl ((((0 : Int32) + nI i).toNatClampNeg, vp_nar .byte _) :: u))) = lt_m c0 f0 ((((0 : Int32) + nI i).toNatClampNeg, vp_nar .byte _) :: u) from ax_hset_set _ _ _ _]
        iterate 2 refine ax_one M hnm htab hrm rfl rfl (Nat.zero_le _) (Nat.zero_le _) ?_
        have := ih (i + 1) ((((0 : Int32) + nI i).toNatClampNeg, vp_nar .byte (((w >>> (((Int8.ofInt 8).toInt32 * nI i).toInt64 &&& 63)).toInt32).toInt8.toInt32)) :: u) (by omega) (by omega)
        rw [← (show nI i + Int32.ofInt 1 = nI (i + 1) from nI_1 i)] at this
        exact this
  have loop : ∀ (f i : Nat), i ≤ 8 → 8 < i + f → lt_ok w i = true → ax_W G p l e (ax_rm (d + 1) 0 0) s m args below meth c (MQ below (ax_Qc G (some (.int (lt_R w))) (ax_hget []) N) args s 0 0 (fun q => G.2.1 ≤ q)) 7 8 [(5, .int (nI i)), (4, .int (lt_e w i)), (3, .int (nI (lt_num w i))), (0, .ref 542), (1, .long w)] [] (ax_hget (lt_h c0 f0)) N 0 0 := by
    intro f
    induction f with
    | zero => intro i h1 h2; omega
    | succ f ih =>
      intro i h1 h2 hok
      have hnl := lt_num_le w i
      iterate 2 refine ax_one M hnm htab hrm rfl rfl (Nat.zero_le _) (Nat.zero_le _) ?_
      refine ax_icmp2 M (tgt := 85) dd_X11_letters_12 (by decide) (fun c1 => ?_) (fun c1 => ?_)
      · have c1' : nI 8 ≤ nI i := e8 ▸ (show (Int8.ofInt 8).toInt32 ≤ nI i from c1)
        rw [nI_leI (by decide) (by omega)] at c1'
        have hi : i = 8 := by omega
        subst hi
        have hz : (0 : Int32) + nI (lt_num w 8) = nI (lt_num w 8) := Int32.zero_add _
        iterate 5 refine ax_one M hnm htab hrm rfl rfl (Nat.zero_le _) (Nat.zero_le _) ?_
        refine ax_icmp2 M (tgt := 99) dd_X11_letters_93 (by decide) (fun c2 => ?_) (fun c2 => absurd (show (0 : Int32) + nI (lt_num w 8) ≤ (Int8.ofInt 80).toInt32 by rw [hz, e80]; exact nI_le (by omega) (by decide)) c2)
        iterate 2 refine ax_one M hnm htab hrm rfl rfl (Nat.zero_le _) (Nat.zero_le _) ?_
        have := loop2 hok (lt_e w 8) (lt_num w 8 + 1) 0 [] (Nat.zero_le _) (by omega)
        rw [lt_m_0] at this
        exact this
      · have c1' : ¬ nI 8 ≤ nI i := fun q => c1 (show (Int8.ofInt 8).toInt32 ≤ nI i by rw [e8]; exact q)
        rw [nI_leI (by decide) (by omega)] at c1'
        have ecM := lt_cM w i (by omega)
        iterate 4 refine ax_one M hnm htab hrm rfl rfl (Nat.zero_le _) (Nat.zero_le _) ?_
        refine ax_lshr2 M dd_X11_letters_21 ?_
        iterate 1 refine ax_one M hnm htab hrm rfl rfl (Nat.zero_le _) (Nat.zero_le _) ?_
        refine ax_land2 M dd_X11_letters_25 ?_
        refine ax_l2i2 M dd_X11_letters_26 ?_
        have key : ∀ (x : Int32), x = lt_c w i → ax_W G p l e (ax_rm (d + 1) 0 0) s m args below meth c (MQ below (ax_Qc G (some (.int (lt_R w))) (ax_hget []) N) args s 0 0 (fun q => G.2.1 ≤ q)) 7 27 [(5, .int (nI i)), (4, .int (lt_e w i)), (3, .int (nI (lt_num w i))), (0, .ref 542), (1, .long w)] [.int x] (ax_hget (lt_h c0 f0)) N 0 0 := by
          intro x hx
          subst hx
          have bad : ∀ (hb : lt_ok w (i + 1) = false) (lv : List (Nat × Value)), ax_W G p l e (ax_rm (d + 1) 0 0) s m args below meth c (MQ below (ax_Qc G (some (.int (lt_R w))) (ax_hget []) N) args s 0 0 (fun q => G.2.1 ≤ q)) 7 46 lv [] (ax_hget (lt_h c0 f0)) N 0 0 := by
            intro hb lv
            have hb8 : lt_ok w 8 = false := by
              have := lt_ok_false (7 - i) (i + 1) hb
              rw [show i + 1 + (7 - i) = 8 by omega] at this
              exact this
            iterate 1 refine ax_one M hnm htab hrm rfl rfl (Nat.zero_le _) (Nat.zero_le _) ?_
            rw [show lt_R w = -102 from if_neg (by rw [hb8]; decide)]
            exact ax_none (ax_ret_ok M hrt dd_X11_letters_48 (Or.inr rfl) rfl rfl (Nat.le_refl 0) (Nat.le_refl 0))
          have b64 : ∀ (hg : lt_ok w (i + 1) = true) (x : Int32), x = lt_e w (i + 1) → ax_W G p l e (ax_rm (d + 1) 0 0) s m args below meth c (MQ below (ax_Qc G (some (.int (lt_R w))) (ax_hget []) N) args s 0 0 (fun q => G.2.1 ≤ q)) 7 64 [(6, .int (lt_c w i)), (5, .int (nI i)), (4, .int (lt_e w i)), (3, .int (nI (lt_num w i))), (0, .ref 542), (1, .long w)] [.int x] (ax_hget (lt_h c0 f0)) N 0 0 := by
            intro hg x hx
            subst hx
            have := ih (i + 1) (by omega) (by omega) hg
            iterate 3 refine ax_one M hnm htab hrm rfl rfl (Nat.zero_le _) (Nat.zero_le _) ?_
            refine ax_if2 M (tgt := 76) dd_X11_letters_69 (by decide) (fun c5 => ?_) (fun c5 => ?_)
            · have g5 : ¬ lt_c w i = 0 := c5
              have q1 : nI (lt_num w (i + 1)) = nI (lt_num w i) + Int32.ofInt 1 := by rw [lt_num, if_neg g5]; exact (nI_1 _).symm
              rw [q1, ← (show nI i + Int32.ofInt 1 = nI (i + 1) from nI_1 i)] at this
              iterate 5 refine ax_one M hnm htab hrm rfl rfl (Nat.zero_le _) (Nat.zero_le _) ?_
              exact ax_lvp [0, 2, 1, 4, 5] rfl this
            · have g5 : lt_c w i = 0 := Classical.byContradiction c5
              have q1 : nI (lt_num w (i + 1)) = nI (lt_num w i) + Int32.ofInt 0 := by rw [lt_num, if_pos g5, Nat.add_zero]; exact (Int32.add_zero _).symm
              rw [q1, ← (show nI i + Int32.ofInt 1 = nI (i + 1) from nI_1 i)] at this
              iterate 6 refine ax_one M hnm htab hrm rfl rfl (Nat.zero_le _) (Nat.zero_le _) ?_
              exact ax_lvp [0, 2, 1, 4, 5] rfl this
          have b49 : ∀ (hg : lt_ok w (i + 1) = true), ax_W G p l e (ax_rm (d + 1) 0 0) s m args below meth c (MQ below (ax_Qc G (some (.int (lt_R w))) (ax_hget []) N) args s 0 0 (fun q => G.2.1 ≤ q)) 7 49 [(6, .int (lt_c w i)), (5, .int (nI i)), (4, .int (lt_e w i)), (3, .int (nI (lt_num w i))), (0, .ref 542), (1, .long w)] [] (ax_hget (lt_h c0 f0)) N 0 0 := by
            intro hg
            iterate 1 refine ax_one M hnm htab hrm rfl rfl (Nat.zero_le _) (Nat.zero_le _) ?_
            refine ax_if2 M (tgt := 59) dd_X11_letters_51 (by decide) (fun c5 => ?_) (fun c5 => ?_)
            · have g5 : lt_num w i < i := Classical.byContradiction (fun q => c5 (show lt_e w i = 0 from if_neg q))
              iterate 2 refine ax_one M hnm htab hrm rfl rfl (Nat.zero_le _) (Nat.zero_le _) ?_
              exact b64 hg _ (by rw [lt_e, lt_num, if_pos (by split <;> omega)]; rfl)
            · have g5 : ¬ lt_num w i < i := fun q => c5 (show ¬ lt_e w i = 0 by rw [lt_e, if_pos q]; decide)
              iterate 1 refine ax_one M hnm htab hrm rfl rfl (Nat.zero_le _) (Nat.zero_le _) ?_
              refine ax_if2 M (tgt := 63) dd_X11_letters_56 (by decide) (fun c6 => ?_) (fun c6 => ?_)
              · have g6 : ¬ lt_c w i = 0 := c6
                iterate 1 refine ax_one M hnm htab hrm rfl rfl (Nat.zero_le _) (Nat.zero_le _) ?_
                exact b64 hg _ (by rw [lt_e, lt_num, if_neg g6, if_neg (by omega)]; rfl)
              · have g6 : lt_c w i = 0 := Classical.byContradiction c6
                iterate 2 refine ax_one M hnm htab hrm rfl rfl (Nat.zero_le _) (Nat.zero_le _) ?_
                exact b64 hg _ (by rw [lt_e, lt_num, if_pos g6, if_pos (by omega)]; rfl)
          iterate 3 refine ax_one M hnm htab hrm rfl rfl (Nat.zero_le _) (Nat.zero_le _) ?_
          refine ax_icmp2 M (tgt := 46) dd_X11_letters_33 (by decide) (fun c2 => bad ?_ _) (fun c2 => ?_)
          · have g2 : 126 < lt_c w i := e126 ▸ (show (Int8.ofInt 126).toInt32 < lt_c w i from c2)
            simp [lt_ok, g2]
          · have g2 : ¬ 126 < lt_c w i := fun q => c2 (show (Int8.ofInt 126).toInt32 < lt_c w i by rw [e126]; exact q)
            iterate 1 refine ax_one M hnm htab hrm rfl rfl (Nat.zero_le _) (Nat.zero_le _) ?_
            refine ax_if2 M (tgt := 49) dd_X11_letters_38 (by decide) (fun c3 => b49 ?_) (fun c3 => ?_)
            · have g3 : ¬ lt_num w i < i := fun q => absurd (show lt_e w i = 0 from c3) (by rw [lt_e, if_pos q]; decide)
              simp only [lt_ok, hok, Bool.true_and, Bool.not_eq_true', Bool.or_eq_false_iff, decide_eq_false_iff_not, Bool.and_eq_false_iff]
              exact ⟨g2, Or.inr g3⟩
            · have g3 : lt_num w i < i := Classical.byContradiction (fun q => c3 (show lt_e w i = 0 from if_neg q))
              iterate 1 refine ax_one M hnm htab hrm rfl rfl (Nat.zero_le _) (Nat.zero_le _) ?_
              refine ax_if2 M (tgt := 49) dd_X11_letters_43 (by decide) (fun c4 => b49 ?_) (fun c4 => bad ?_ _)
              · have g4 : lt_c w i = 0 := c4
                simp [lt_ok, hok, g4]
              · have g4 : ¬ lt_c w i = 0 := c4
                simp [lt_ok, g3, g4]
        exact key _ ecM
  iterate 6 refine ax_one M hnm htab hrm rfl rfl (Nat.zero_le _) (Nat.zero_le _) ?_
  exact loop 9 0 (by decide) (by decide) rfl
end LTM

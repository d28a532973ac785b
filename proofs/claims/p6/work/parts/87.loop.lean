/-! ===== the law's loop (printed by wip/v2/mk87.py) ===== -/
section LP
variable {G : ax_T} {p : Program} {l : Launch} {e : Env} {s : State} {m : MethodId} {below : List Frame} {meth : Method} {c : Code} {b L : Nat} {xs : Nat → Int32}
theorem lp_t {iv : Nat → Int × Int} {lv : List (Nat × Value)} {st : List Value} {h : ax_H} {n cs ss : Nat} {offs : Array Int} (k : Nat) (hk : k ≤ 36) {off : Int} (ho : offs[k]? = some off) {t : Nat} (ht : ax_to 32 off = some t) : ax_s_table iv 32 lv (.int (nI k) :: st) h n cs ss 1141 0 36 offs = some (t, lv, st, h, n, cs, ss) := by
  have hx : (nI k).toInt = (k : Int) := nI_toInt (by omega)
  have hb : (decide ((k : Int) < 0) || decide ((36 : Int) < (k : Int))) = false := by
    rw [decide_eq_false (by omega), decide_eq_false (by omega)]
    rfl
  simp only [ax_s_table, hx, hb, cond_false, Int.sub_zero, Int.toNat_natCast, ho, ht, Option.map_some]
theorem lp_d {iv : Nat → Int × Int} {lv : List (Nat × Value)} {st : List Value} {h : ax_H} {n cs ss : Nat} {offs : Array Int} (k : Nat) (hk : 36 < k) (hk2 : k < 64) : ax_s_table iv 32 lv (.int (nI k) :: st) h n cs ss 1141 0 36 offs = some (1173, lv, st, h, n, cs, ss) := by
  have hx : (nI k).toInt = (k : Int) := nI_toInt (by omega)
  have hb : (decide ((k : Int) < 0) || decide ((36 : Int) < (k : Int))) = true := by
    rw [decide_eq_true (show (36 : Int) < (k : Int) by omega), Bool.or_true]
  have ht : ax_to 32 1141 = some 1173 := rfl
  simp only [ax_s_table, hx, hb, cond_true, ht, Option.map_some]
def lp_offs : Array Int := #[164, 217, 230, 243, 256, 299, 322, 355, 378, 411, 444, 477, 530, 563, 612, 635, 658, 671, 694, 707, 730, 743, 786, 829, 842, 865, 898, 931, 964, 987, 1010, 1043, 1056, 1069, 1082, 1105, 1128]
theorem lp_at : ax_at lw_tab 32 = some (32, .tableswitch 1141 0 36 lp_offs, 164, (0, 0, 0, 0), []) := rfl
theorem lp_sw (C : lx_C G p s m meth c b L xs) {lv : List (Nat × Value)} {st : List Value} {h : ax_H} {n cs ss : Nat} (k : Nat) (hk : k ≤ 36) {off : Int} (ho : lp_offs[k]? = some off) {t : Nat} (ht : ax_to 32 off = some t) (h1 : cs ≤ 600000) (h2 : ss ≤ 7302250) (hW : lx_W G p l e s m below meth c b (t, lv, st, h, n, cs, ss)) : lx_W G p l e s m below meth c b (32, lv, .int (nI k) :: st, h, n, cs, ss) :=
  lx_step C lp_at (show ax_step (ab_io G) 4 (.tableswitch 1141 0 36 lp_offs) (0, 0, 0, 0) 32 lv (.int (nI k) :: st) h n cs ss = some (t, lv, st, h, n, cs, ss) from lp_t (iv := ab_io G) k hk ho ht) h1 h2 hW
theorem lp_sd (C : lx_C G p s m meth c b L xs) {lv : List (Nat × Value)} {st : List Value} {h : ax_H} {n cs ss : Nat} (k : Nat) (hk : 36 < k) (hk2 : k < 64) (h1 : cs ≤ 600000) (h2 : ss ≤ 7302250) (hW : lx_W G p l e s m below meth c b (1173, lv, st, h, n, cs, ss)) : lx_W G p l e s m below meth c b (32, lv, .int (nI k) :: st, h, n, cs, ss) :=
  lx_step C lp_at (show ax_step (ab_io G) 4 (.tableswitch 1141 0 36 lp_offs) (0, 0, 0, 0) 32 lv (.int (nI k) :: st) h n cs ss = some (1173, lv, st, h, n, cs, ss) from lp_d (iv := ab_io G) k hk hk2) h1 h2 hW
theorem lp_loop (C : lx_C G p s m meth c b L xs) (H : ab_Hand l G) (H2 : ab_Hand2 l G) (hL : L ≤ 2560) : ∀ (N i : Nat) (h : ax_H) (n cs ss : Nat), L + 5 < i + N → i ≤ L + 5 → lx_I h n cs ss → lx_W G p l e s m below meth c b (18, [(3, .int (nI i)), (2, .ref 542), (1, .ref 0), (0, .retAddr 2)], [], h, n, cs, ss) := by
  intro N
  induction N with
  | zero => intro i h n cs ss h1 h2; omega
  | succ N ih =>
    intro i h n cs ss h1 h2 hI
    obtain ⟨hcs, hss⟩ := lx_I_le hI
    have hni : (nI i).toInt = (i : Int) := nI_toInt (by omega)
    have hlen : (Int32.ofNat L).toInt = (L : Int) := ab_ofN (by omega)
    have h5 : (Int32.ofNat L - Int32.ofInt 5).toInt = (L : Int) - 5 := by
      rw [Int32.toInt_sub, hlen, show (Int32.ofInt 5).toInt = 5 from rfl, ab_bm (by omega) (by omega)]
    refine lx_step C (en := (18, .iload_n 3, 1, (0, 0, 0, 0), [])) rfl (F := (19, [(3, .int (nI i)), (2, .ref 542), (1, .ref 0), (0, .retAddr 2)], [.int (nI i)], h, n, cs, ss)) rfl hcs hss ?_
    refine lx_step C (en := (19, .aload_n 0, 1, (0, 0, 0, 0), [])) rfl (F := (20, [(3, .int (nI i)), (2, .ref 542), (1, .ref 0), (0, .retAddr 2)], [.retAddr 2, .int (nI i)], h, n, cs, ss)) rfl hcs hss ?_
    refine lx_len C (lx_ok (meth := meth) (en := (20, .arraylength, 1, (0, 0, 0, 0), [])) rfl).1 ?_
    refine lx_step C (en := (21, .iconst 5, 1, (0, 0, 0, 0), [])) rfl (F := (22, [(3, .int (nI i)), (2, .ref 542), (1, .ref 0), (0, .retAddr 2)], [.int (Int32.ofInt 5), .int (Int32.ofNat L), .int (nI i)], h, n, cs, ss)) rfl hcs hss ?_
    refine lx_step C (en := (22, .isub, 1, (0, 0, 0, 0), [])) rfl (F := (23, [(3, .int (nI i)), (2, .ref 542), (1, .ref 0), (0, .retAddr 2)], [.int ((Int32.ofNat L) - (Int32.ofInt 5)), .int (nI i)], h, n, cs, ss)) rfl hcs hss ?_
    by_cases hg : ax_holds .gt (nI i) (Int32.ofNat L - Int32.ofInt 5)
    · refine lx_brt C rfl (tg := 1179) rfl hg hcs hss ?_
      refine lx_step C (en := (1179, .iconst 1, 1, (0, 0, 0, 0), [])) rfl (F := (1180, [(3, .int (nI i)), (2, .ref 542), (1, .ref 0), (0, .retAddr 2)], [.int (Int32.ofInt 1)], h, n, cs, ss)) rfl hcs hss ?_
      exact lx_end C hcs hss (by decide +kernel)
    have hle : i + 5 ≤ L := by
      have : ¬ (Int32.ofNat L - Int32.ofInt 5).toInt < (nI i).toInt := fun q => hg (cx_lt.mpr q)
      rw [h5, hni] at this
      omega
    refine lx_brf C rfl (tg := 1179) rfl hg hcs hss ?_
    refine lx_step C (en := (26, .aload_n 0, 1, (0, 0, 0, 0), [])) rfl (F := (27, [(3, .int (nI i)), (2, .ref 542), (1, .ref 0), (0, .retAddr 2)], [.retAddr 2], h, n, cs, ss)) rfl hcs hss ?_
    refine lx_step C (en := (27, .iload_n 3, 1, (0, 0, 0, 0), [])) rfl (F := (28, [(3, .int (nI i)), (2, .ref 542), (1, .ref 0), (0, .retAddr 2)], [.int (nI i), .retAddr 2], h, n, cs, ss)) rfl hcs hss ?_
    refine lx_at C (by rw [hni]; omega) (by rw [hni]; omega) (lx_ok (meth := meth) (en := (28, .iaload, 1, (0, 0, 0, 0), [])) rfl).1 ?_
    refine lx_step C (en := (29, .bipush 63, 2, (0, 0, 0, 0), [])) rfl (F := (31, [(3, .int (nI i)), (2, .ref 542), (1, .ref 0), (0, .retAddr 2)], [.int (Int8.ofInt 63).toInt32, .int (xs ((nI i)).toNatClampNeg)], h, n, cs, ss)) rfl hcs hss ?_
    refine lx_step C (en := (31, .iand, 1, (0, 0, 0, 0), [])) rfl (F := (32, [(3, .int (nI i)), (2, .ref 542), (1, .ref 0), (0, .retAddr 2)], [.int ((xs ((nI i)).toNatClampNeg) &&& (Int8.ofInt 63).toInt32)], h, n, cs, ss)) rfl hcs hss ?_
    have kk : ∀ (h' : ax_H) (n' cs' ss' : Nat), lx_I h' n' cs' ss' → lx_W G p l e s m below meth c b (1173, [(3, .int (nI i)), (2, .ref 542), (1, .ref 0), (0, .retAddr 2)], [], h', n', cs', ss') := by
      intro h' n' cs' ss' hI'
      obtain ⟨u1, u2⟩ := lx_I_le hI'
      refine lx_step C (en := (1173, .iinc 3 5, 3, (0, 0, 0, 0), [])) rfl (F := (1176, [(3, .int (nI i + Int32.ofInt 5)), (2, .ref 542), (1, .ref 0), (0, .retAddr 2)], [], h', n', cs', ss')) rfl u1 u2 ?_
      refine lx_step C (en := (1176, .goto (-1158), 3, (0, 0, 0, 0), [])) rfl (F := (18, [(3, .int (nI i + Int32.ofInt 5)), (2, .ref 542), (1, .ref 0), (0, .retAddr 2)], [], h', n', cs', ss')) rfl u1 u2 ?_
      rw [show nI i + Int32.ofInt 5 = nI (i + 5) from nI_add i 5]
      exact ih (i + 5) h' n' cs' ss' (by omega) (by omega) hI'
    obtain ⟨k, hk64, hk⟩ := pk_andE (xs (nI i).toNatClampNeg) (m := (Int8.ofInt 63).toInt32) 6 (by decide)
    rw [hk]
    match k, hk64 with
    | 0, _ => exact lp_sw C 0 (by decide) (off := 164) (by decide) (t := 196) rfl hcs hss (op_0 C H H2 hle hL hI kk)
    | 1, _ => exact lp_sw C 1 (by decide) (off := 217) (by decide) (t := 249) rfl hcs hss (op_1 C H H2 hle hL hI kk)
    | 2, _ => exact lp_sw C 2 (by decide) (off := 230) (by decide) (t := 262) rfl hcs hss (op_2 C H H2 hle hL hI kk)
    | 3, _ => exact lp_sw C 3 (by decide) (off := 243) (by decide) (t := 275) rfl hcs hss (op_3 C H H2 hle hL hI kk)
    | 4, _ => exact lp_sw C 4 (by decide) (off := 256) (by decide) (t := 288) rfl hcs hss (op_4 C H H2 hle hL hI kk)
    | 5, _ => exact lp_sw C 5 (by decide) (off := 299) (by decide) (t := 331) rfl hcs hss (op_5 C H H2 hle hL hI kk)
    | 6, _ => exact lp_sw C 6 (by decide) (off := 322) (by decide) (t := 354) rfl hcs hss (op_6 C H H2 hle hL hI kk)
    | 7, _ => exact lp_sw C 7 (by decide) (off := 355) (by decide) (t := 387) rfl hcs hss (op_7 C H H2 hle hL hI kk)
    | 8, _ => exact lp_sw C 8 (by decide) (off := 378) (by decide) (t := 410) rfl hcs hss (op_8 C H H2 hle hL hI kk)
    | 9, _ => exact lp_sw C 9 (by decide) (off := 411) (by decide) (t := 443) rfl hcs hss (op_9 C H H2 hle hL hI kk)
    | 10, _ => exact lp_sw C 10 (by decide) (off := 444) (by decide) (t := 476) rfl hcs hss (op_10 C H H2 hle hL hI kk)
    | 11, _ => exact lp_sw C 11 (by decide) (off := 477) (by decide) (t := 509) rfl hcs hss (op_11 C H H2 hle hL hI kk)
    | 12, _ => exact lp_sw C 12 (by decide) (off := 530) (by decide) (t := 562) rfl hcs hss (op_12 C H H2 hle hL hI kk)
    | 13, _ => exact lp_sw C 13 (by decide) (off := 563) (by decide) (t := 595) rfl hcs hss (op_13 C H H2 hle hL hI kk)
    | 14, _ => exact lp_sw C 14 (by decide) (off := 612) (by decide) (t := 644) rfl hcs hss (op_14 C H H2 hle hL hI kk)
    | 15, _ => exact lp_sw C 15 (by decide) (off := 635) (by decide) (t := 667) rfl hcs hss (op_15 C H H2 hle hL hI kk)
    | 16, _ => exact lp_sw C 16 (by decide) (off := 658) (by decide) (t := 690) rfl hcs hss (op_16 C H H2 hle hL hI kk)
    | 17, _ => exact lp_sw C 17 (by decide) (off := 671) (by decide) (t := 703) rfl hcs hss (op_17 C H H2 hle hL hI kk)
    | 18, _ => exact lp_sw C 18 (by decide) (off := 694) (by decide) (t := 726) rfl hcs hss (op_18 C H H2 hle hL hI kk)
    | 19, _ => exact lp_sw C 19 (by decide) (off := 707) (by decide) (t := 739) rfl hcs hss (op_19 C H H2 hle hL hI kk)
    | 20, _ => exact lp_sw C 20 (by decide) (off := 730) (by decide) (t := 762) rfl hcs hss (op_20 C H H2 hle hL hI kk)
    | 21, _ => exact lp_sw C 21 (by decide) (off := 743) (by decide) (t := 775) rfl hcs hss (op_21 C H H2 hle hL hI kk)
    | 22, _ => exact lp_sw C 22 (by decide) (off := 786) (by decide) (t := 818) rfl hcs hss (op_22 C H H2 hle hL hI kk)
    | 23, _ => exact lp_sw C 23 (by decide) (off := 829) (by decide) (t := 861) rfl hcs hss (op_23 C H H2 hle hL hI kk)
    | 24, _ => exact lp_sw C 24 (by decide) (off := 842) (by decide) (t := 874) rfl hcs hss (op_24 C H H2 hle hL hI kk)
    | 25, _ => exact lp_sw C 25 (by decide) (off := 865) (by decide) (t := 897) rfl hcs hss (op_25 C H H2 hle hL hI kk)
    | 26, _ => exact lp_sw C 26 (by decide) (off := 898) (by decide) (t := 930) rfl hcs hss (op_26 C H H2 hle hL hI kk)
    | 27, _ => exact lp_sw C 27 (by decide) (off := 931) (by decide) (t := 963) rfl hcs hss (op_27 C H H2 hle hL hI kk)
    | 28, _ => exact lp_sw C 28 (by decide) (off := 964) (by decide) (t := 996) rfl hcs hss (op_28 C H H2 hle hL hI kk)
    | 29, _ => exact lp_sw C 29 (by decide) (off := 987) (by decide) (t := 1019) rfl hcs hss (op_29 C H H2 hle hL hI kk)
    | 30, _ => exact lp_sw C 30 (by decide) (off := 1010) (by decide) (t := 1042) rfl hcs hss (op_30 C H H2 hle hL hI kk)
    | 31, _ => exact lp_sw C 31 (by decide) (off := 1043) (by decide) (t := 1075) rfl hcs hss (op_31 C H H2 hle hL hI kk)
    | 32, _ => exact lp_sw C 32 (by decide) (off := 1056) (by decide) (t := 1088) rfl hcs hss (op_32 C H H2 hle hL hI kk)
    | 33, _ => exact lp_sw C 33 (by decide) (off := 1069) (by decide) (t := 1101) rfl hcs hss (op_33 C H H2 hle hL hI kk)
    | 34, _ => exact lp_sw C 34 (by decide) (off := 1082) (by decide) (t := 1114) rfl hcs hss (op_34 C H H2 hle hL hI kk)
    | 35, _ => exact lp_sw C 35 (by decide) (off := 1105) (by decide) (t := 1137) rfl hcs hss (op_35 C H H2 hle hL hI kk)
    | 36, _ => exact lp_sw C 36 (by decide) (off := 1128) (by decide) (t := 1160) rfl hcs hss (op_36 C H H2 hle hL hI kk)
    | k + 37, hk64 => exact lp_sd C (k + 37) (by omega) (by omega) hcs hss (kk h n cs ss hI)
set_option maxRecDepth 100000 in
theorem lp_r0 : ab_ri lw_hm 0 10 = 0 := by decide +kernel
def rd_i (o : Option Value) (x : Int32) : Bool := match o with
  | some (.int y) => decide (y = x)
  | _ => false
theorem rd_i_ok {o : Option Value} {x : Int32} (hb : rd_i o x = true) : o = some (.int x) := by
  unfold rd_i at hb
  split at hb
  · rw [of_decide_eq_true hb]
  · cases hb
def rd_r (o : Option Value) (k : Nat) : Bool := match o with
  | some (.ref y) => Nat.beq y k
  | _ => false
theorem rd_r_ok {o : Option Value} {k : Nat} (hb : rd_r o k = true) : o = some (.ref k) := by
  unfold rd_r at hb
  split at hb
  · rw [Nat.eq_of_beq_eq_true hb]
  · cases hb
theorem rd_6 {f : Nat → Bool} (hb : (List.range 6).all f = true) {j : Nat} (hj : j < 6) : f j = true := List.all_eq_true.mp hb j (List.mem_range.mpr hj)
set_option maxRecDepth 100000 in
theorem lp_n34 : ((List.range 6).all fun j => rd_r (ab_rd lw_hm 34 (j : Int)) (170 + 62 * j)) = true := by decide +kernel
set_option maxRecDepth 100000 in
theorem lp_n0 : ((List.range 6).all fun j => rd_i (ab_rd lw_hm (nt_P true j).1 (nt_P true j).2) 0 && rd_i (ab_rd lw_hm (nt_P false j).1 (nt_P false j).2) 0) = true := by decide +kernel
set_option maxRecDepth 100000 in
theorem lp_l0 : (rd_i (ab_rd lw_hm 35 4) 0 && rd_i (ab_rd lw_hm 542 20) 0) = true := by decide +kernel
set_option maxRecDepth 100000 in
theorem lp_p0 : (rd_i (ab_rd lw_hm 1 1) 0 && (rd_i (ab_rd lw_hm 542 2) 0 && (rd_i (ab_rd lw_hm 0 8) 0 && rd_i (ab_rd lw_hm 542 4) 0))) = true := by decide +kernel
set_option maxRecDepth 100000 in
theorem lp_c3 : ((List.range 6).all fun k => rd_r (ab_rd lw_hm 3 (k : Int)) (122 + 4 * k)) = true := by decide +kernel
set_option maxRecDepth 100000 in
theorem lp_cr0 : ((List.range 6).all fun k => rd_r (ab_rd lw_hm (122 + 4 * k) 0) (123 + 4 * k)) = true := by decide +kernel
set_option maxRecDepth 100000 in
theorem lp_cr1 : ((List.range 6).all fun k => rd_r (ab_rd lw_hm (122 + 4 * k) 1) (124 + 4 * k)) = true := by decide +kernel
set_option maxRecDepth 100000 in
theorem lp_cr2 : ((List.range 6).all fun k => rd_r (ab_rd lw_hm (122 + 4 * k) 2) (125 + 4 * k)) = true := by decide +kernel
set_option maxRecDepth 100000 in
theorem lp_cz : ((List.range 6).all fun k => (List.range 14).all fun t => rd_i (ab_rd lw_hm (123 + 4 * k) (t : Int)) 0 && (rd_i (ab_rd lw_hm (124 + 4 * k) (t : Int)) 0 && rd_i (ab_rd lw_hm (125 + 4 * k) (t : Int)) 0)) = true := by decide +kernel
set_option maxRecDepth 100000 in
theorem lp_ck : ∀ k : Nat, k < 6 → pg_ck lw_hm k := by
  intro k hk
  match k, hk with
  | 0, _ => exact ⟨rd_r_ok (rd_6 lp_c3 (by decide : 0 < 6)), ⟨rfl, rfl, rfl, rfl⟩, ⟨rfl, rfl, rfl⟩, ⟨rfl, rfl, rfl⟩, ⟨by decide, by decide, by decide, by decide, by decide, by decide⟩, ⟨by decide, by decide, by decide, by decide, by decide, by decide⟩, rd_r_ok (rd_6 lp_cr0 (by decide : 0 < 6)), rd_r_ok (rd_6 lp_cr1 (by decide : 0 < 6)), rd_r_ok (rd_6 lp_cr2 (by decide : 0 < 6))⟩
  | 1, _ => exact ⟨rd_r_ok (rd_6 lp_c3 (by decide : 1 < 6)), ⟨rfl, rfl, rfl, rfl⟩, ⟨rfl, rfl, rfl⟩, ⟨rfl, rfl, rfl⟩, ⟨by decide, by decide, by decide, by decide, by decide, by decide⟩, ⟨by decide, by decide, by decide, by decide, by decide, by decide⟩, rd_r_ok (rd_6 lp_cr0 (by decide : 1 < 6)), rd_r_ok (rd_6 lp_cr1 (by decide : 1 < 6)), rd_r_ok (rd_6 lp_cr2 (by decide : 1 < 6))⟩
  | 2, _ => exact ⟨rd_r_ok (rd_6 lp_c3 (by decide : 2 < 6)), ⟨rfl, rfl, rfl, rfl⟩, ⟨rfl, rfl, rfl⟩, ⟨rfl, rfl, rfl⟩, ⟨by decide, by decide, by decide, by decide, by decide, by decide⟩, ⟨by decide, by decide, by decide, by decide, by decide, by decide⟩, rd_r_ok (rd_6 lp_cr0 (by decide : 2 < 6)), rd_r_ok (rd_6 lp_cr1 (by decide : 2 < 6)), rd_r_ok (rd_6 lp_cr2 (by decide : 2 < 6))⟩
  | 3, _ => exact ⟨rd_r_ok (rd_6 lp_c3 (by decide : 3 < 6)), ⟨rfl, rfl, rfl, rfl⟩, ⟨rfl, rfl, rfl⟩, ⟨rfl, rfl, rfl⟩, ⟨by decide, by decide, by decide, by decide, by decide, by decide⟩, ⟨by decide, by decide, by decide, by decide, by decide, by decide⟩, rd_r_ok (rd_6 lp_cr0 (by decide : 3 < 6)), rd_r_ok (rd_6 lp_cr1 (by decide : 3 < 6)), rd_r_ok (rd_6 lp_cr2 (by decide : 3 < 6))⟩
  | 4, _ => exact ⟨rd_r_ok (rd_6 lp_c3 (by decide : 4 < 6)), ⟨rfl, rfl, rfl, rfl⟩, ⟨rfl, rfl, rfl⟩, ⟨rfl, rfl, rfl⟩, ⟨by decide, by decide, by decide, by decide, by decide, by decide⟩, ⟨by decide, by decide, by decide, by decide, by decide, by decide⟩, rd_r_ok (rd_6 lp_cr0 (by decide : 4 < 6)), rd_r_ok (rd_6 lp_cr1 (by decide : 4 < 6)), rd_r_ok (rd_6 lp_cr2 (by decide : 4 < 6))⟩
  | 5, _ => exact ⟨rd_r_ok (rd_6 lp_c3 (by decide : 5 < 6)), ⟨rfl, rfl, rfl, rfl⟩, ⟨rfl, rfl, rfl⟩, ⟨rfl, rfl, rfl⟩, ⟨by decide, by decide, by decide, by decide, by decide, by decide⟩, ⟨by decide, by decide, by decide, by decide, by decide, by decide⟩, rd_r_ok (rd_6 lp_cr0 (by decide : 5 < 6)), rd_r_ok (rd_6 lp_cr1 (by decide : 5 < 6)), rd_r_ok (rd_6 lp_cr2 (by decide : 5 < 6))⟩
theorem lp_rc : lx_RC lw_hm (0 : Int32).toInt := fun k hk => ⟨lp_ck k hk, fun z => absurd z (by rw [show (0 : Int32).toInt = 0 from by decide]; omega), fun _ t ht => by
  have h1 := List.all_eq_true.mp (rd_6 lp_cz hk) t (List.mem_range.mpr ht)
  rw [Bool.and_eq_true, Bool.and_eq_true] at h1
  exact ⟨rd_i_ok h1.1, rd_i_ok h1.2.1, rd_i_ok h1.2.2⟩⟩
theorem lp_rel : lx_R lw_hm := by
  have h4 := lp_p0
  rw [Bool.and_eq_true, Bool.and_eq_true, Bool.and_eq_true] at h4
  have h1 := lp_l0
  rw [Bool.and_eq_true] at h1
  have h3 : ∀ j, j < 6 → _ := fun j hj => (Bool.and_eq_true _ _).mp (rd_6 lp_n0 hj)
  exact ⟨⟨0, rd_i_ok h1.1, rd_i_ok h1.2, by decide, by decide⟩, ⟨fun j hj => rd_r_ok (rd_6 lp_n34 hj), fun _ => 0, fun j hj => ⟨rd_i_ok (h3 j hj).1, (by decide : 0 ≤ (0 : Int32).toInt), (by decide : (0 : Int32).toInt ≤ 30)⟩, fun j hj => ⟨rd_i_ok (h3 j hj).2, (by decide : 0 ≤ (0 : Int32).toInt), (by decide : (0 : Int32).toInt ≤ 30)⟩⟩, 0, 0, fun _ => 0, rd_i_ok h4.1, rd_i_ok h4.2.1, rd_i_ok h4.2.2.1, rd_i_ok h4.2.2.2, ⟨by decide, by decide⟩, fun t ht => absurd ht (by rw [show (0 : Int32).toInt = 0 from by decide]; omega), lp_rc⟩
/-- the law, from its loop's beginning -/
theorem lp_key (C : lx_C G p s m meth c b L xs) (H : ab_Hand l G) (H2 : ab_Hand2 l G) (hL : L ≤ 2560) : lx_W G p l e s m below meth c b (18, lw_lv, [], lw_hm, 573, 573, 192706) := by
  have := lp_loop (e := e) (below := below) C H H2 hL (L + 6) 0 lw_hm 573 573 192706 (by omega) (by omega) ⟨hs_HT, by rw [lp_r0]; decide, by rw [lp_r0]; decide, lp_rel⟩
  rw [nI_0] at this
  exact this
end LP

/-! ===== the step is right ===== -/
section STG
variable {E : ab_E} {S : ab_S} {V : List Value} {pc nL : Nat} {lv : List (Nat × Value)} {st : List Value} {h : ax_H} {n cs ss : Nat} {L : List (Nat × ab_S)} {iv : Nat → Int × Int} {pe : ax_PE}
theorem ab_i8 {k : Int} (h1 : -128 ≤ k) (h2 : k ≤ 127) : (Int8.ofInt k).toInt32 = Int32.ofInt k := by
  apply Int32.toInt_inj.mp
  rw [Int8.toInt_toInt32, Int8.toInt_ofInt_of_le (by omega) (by omega), Int32.toInt_ofInt_of_le (by omega) (by omega)]
theorem ab_i16 {k : Int} (h1 : -32768 ≤ k) (h2 : k ≤ 32767) : (Int16.ofInt k).toInt32 = Int32.ofInt k := by
  apply Int32.toInt_inj.mp
  rw [Int16.toInt_toInt32, Int16.toInt_ofInt_of_le (by omega) (by omega), Int32.toInt_ofInt_of_le (by omega) (by omega)]
theorem ab_nar {x : Int32} (h1 : -128 ≤ x.toInt) (h2 : x.toInt ≤ 127) : vp_nar .byte x = x := by
  show x.toInt8.toInt32 = x
  apply Int32.toInt_inj.mp
  rw [Int8.toInt_toInt32, Int32.toInt_toInt8]
  exact Int.bmod_eq_of_le (by omega) (by omega)
theorem ab_step_ok (hg : ab_g E S V lv st h n cs ss) {sm : Bool} {i : Instr} (hs : ab_step E.2.2.2 sm nL i pe pc S = some L) : ∃ F, ax_step iv nL i pe pc lv st h n cs ss = some F ∧ ab_in E L F := by
  have hg' := hg
  obtain ⟨g1, g2, g3, g4, g5, g6, g7, g8, g9⟩ := hg'
  cases i with
  | iconst k => exact ⟨_, rfl, ab_push_ok hg hs⟩
  | bipush k =>
    obtain ⟨hc, hs2⟩ := ab_bif hs
    simp only [Bool.and_eq_true, decide_eq_true_eq] at hc
    refine ⟨_, rfl, ?_⟩
    rw [ab_i8 hc.1 hc.2]
    exact ab_push_ok hg hs2
  | sipush k =>
    obtain ⟨hc, hs2⟩ := ab_bif hs
    simp only [Bool.and_eq_true, decide_eq_true_eq] at hc
    refine ⟨_, rfl, ?_⟩
    rw [ab_i16 hc.1 hc.2]
    exact ab_push_ok hg hs2
  | lconst k => cases hs; exact ⟨_, rfl, ab_long_ok hg g2 _⟩
  | ldc k => exact ⟨_, rfl, ab_push_ok hg hs⟩
  | ldc_w k => exact ⟨_, rfl, ab_push_ok hg hs⟩
  | ldc2_w k => cases hs; exact ⟨_, rfl, ab_long_ok hg g2 _⟩
  | iload k => exact ab_ld_ok hg hs
  | iload_n k => exact ab_ld_ok hg hs
  | aload k => exact ab_ld_ok hg hs
  | aload_n k => exact ab_ld_ok hg hs
  | lload k => exact ab_ld_ok hg hs
  | lload_n k => exact ab_ld_ok hg hs
  | istore k => exact ab_sto_ok hg hs
  | istore_n k => exact ab_sto_ok hg hs
  | astore k => exact ab_sto_ok hg hs
  | astore_n k => exact ab_sto_ok hg hs
  | lstore k => exact ab_sto_ok hg hs
  | lstore_n k => exact ab_sto_ok hg hs
  | iinc k x =>
    obtain ⟨v, h1, h2, h3⟩ := ab_iinc_ok hg hs
    exact ⟨_, by simp only [ax_step, h1, h2, cond_true], h3⟩
  | iadd => exact ab_addS_ok hg hs
  | isub => exact ab_subS_ok hg hs
  | imul => exact ab_i2_ok hg ab_omul_ok hs
  | iand => exact ab_i2_ok hg ab_oand_ok hs
  | ior => exact ab_i2_ok hg ab_oor_ok hs
  | ishl => exact ab_i2_ok hg ab_oshl_ok hs
  | ishr => exact ab_i2_ok hg ab_oshr_ok hs
  | idiv => exact ab_d2_step hg ab_odiv_ok hs
  | irem => exact ab_d2_step hg ab_orem_ok hs
  | ineg =>
    obtain ⟨x, st', rfl, h2⟩ := ab_i1_ok (op := fun x => .int (-x)) hg (fun a p x _ hp => ab_neg_ok hp) hs
    exact ⟨_, rfl, h2⟩
  | i2l =>
    obtain ⟨x, st', rfl, h2⟩ := ab_i1_ok (f := fun _ _ => .inr (.inr none, [])) (op := fun x => .long x.toInt64) hg (fun a p x _ hp => ⟨⟨_, rfl⟩, ab_no⟩) hs
    exact ⟨_, rfl, h2⟩
  | i2b =>
    obtain ⟨x, st', rfl, h2⟩ := ab_i1_ok (op := fun x => .int x.toInt8.toInt32) hg (fun a p x ha hp => ab_i2b_ok ha hp) hs
    exact ⟨_, rfl, h2⟩
  | l2i =>
    obtain ⟨x, st', rfl, h2⟩ := ab_l1_ok hg hs
    exact ⟨_, rfl, h2⟩
  | ladd => exact ab_l2_ok hg hs
  | lmul => exact ab_l2_ok hg hs
  | land => exact ab_l2_ok hg hs
  | lshr => exact ab_li_ok hg hs
  | lushr => exact ab_li_ok hg hs
  | dup =>
    obtain ⟨lv0, st0, rest⟩ := S
    match st0, st, g2, hs with
    | [], _, _, hs => cases hs
    | a :: sta, [], g2, _ => exact g2.elim
    | a :: sta, v :: st', g2, hs =>
      simp only [ab_step] at hs
      obtain ⟨hc, hs2⟩ := ab_bif hs
      cases hs2
      have e : v.category == 1 := by rw [ab_ct_ok g3 g2.1, ab_nb]; exact hc
      exact ⟨(pc + 1, lv, v :: v :: st', h, n, cs, ss), by simp only [ax_step, e, cond_true], ab_in1 (V := V) ⟨g1, ⟨g2.1, g2.1, g2.2⟩, g3, g4, g5, g6, g7, g8, g9⟩⟩
  | pop =>
    obtain ⟨lv0, st0, rest⟩ := S
    match st0, st, g2, hs with
    | [], _, _, hs => cases hs
    | a :: sta, [], g2, _ => exact g2.elim
    | a :: sta, v :: st', g2, hs =>
      simp only [ab_step] at hs
      obtain ⟨hc, hs2⟩ := ab_bif hs
      cases hs2
      have e : v.category == 1 := by rw [ab_ct_ok g3 g2.1, ab_nb]; exact hc
      exact ⟨_, by simp only [ax_step, e, cond_true], ab_in1 (V := V) ⟨g1, g2.2, g3, g4, g5, g6, g7, g8, g9⟩⟩
  | dup2 =>
    obtain ⟨lv0, st0, rest⟩ := S
    match st0, st, g2, hs with
    | [], _, _, hs => cases hs
    | [_], _, _, hs => cases hs
    | a :: b :: sta, [], g2, _ => exact g2.elim
    | a :: b :: sta, [_], g2, _ => exact g2.2.elim
    | a :: b :: sta, v :: w :: st', g2, hs =>
      simp only [ab_step] at hs
      obtain ⟨hc, hs2⟩ := ab_bif hs
      cases hs2
      simp only [Bool.and_eq_true] at hc
      have e : v.category == 1 := by rw [ab_ct_ok g3 g2.1, ab_nb]; exact hc.1
      have e2 : w.category == 1 := by rw [ab_ct_ok g3 g2.2.1, ab_nb]; exact hc.2
      exact ⟨(pc + 1, lv, v :: w :: v :: w :: st', h, n, cs, ss), by simp only [ax_step, e, e2, Bool.and_self, cond_true], ab_in1 (V := V) ⟨g1, ⟨g2.1, g2.2.1, g2.1, g2.2⟩, g3, g4, g5, g6, g7, g8, g9⟩⟩
  | goto off =>
    simp only [ab_step] at hs
    obtain ⟨t, ht, rfl⟩ := Option.map_eq_some_iff.mp hs
    exact ⟨_, by simp only [ax_step, ht, Option.map_some], ab_in1 hg⟩
  | ifCond c off =>
    obtain ⟨lv0, st0, Γ, rest⟩ := S
    match st0, st, g2, hs, hg with
    | [], _, _, hs, _ => cases hs
    | a :: sta, [], g2, _, _ => exact g2.elim
    | a :: sta, v :: st', g2, hs, hg =>
      simp only [ab_step] at hs
      have hint : ∃ x : Int32, v = .int x := by
        unfold ab_br at hs
        split at hs
        · rename_i tg p q _ hp _
          obtain ⟨x, e, -⟩ := ab_iv_ok g3 hp g2.1
          exact ⟨x, e⟩
        · cases hs
      obtain ⟨x, rfl⟩ := hint
      exact ab_br_ok (iv := iv) hg g2.2 g2.1 (y := 0) rfl hs
  | if_icmp c off =>
    obtain ⟨lv0, st0, Γ, rest⟩ := S
    match st0, st, g2, hs, hg with
    | [], _, _, hs, _ => cases hs
    | [_], _, _, hs, _ => cases hs
    | b :: a :: sta, [], g2, _, _ => exact g2.elim
    | b :: a :: sta, [_], g2, _, _ => exact g2.2.elim
    | b :: a :: sta, w :: v :: st', g2, hs, hg =>
      simp only [ab_step] at hs
      have hint : (∃ x : Int32, v = .int x) ∧ ∃ y : Int32, w = .int y := by
        unfold ab_br at hs
        split at hs
        · rename_i tg p q _ hp hq
          obtain ⟨x, e, -⟩ := ab_iv_ok g3 hp g2.2.1
          obtain ⟨y, e', -⟩ := ab_iv_ok g3 hq g2.1
          exact ⟨⟨x, e⟩, ⟨y, e'⟩⟩
        · cases hs
      obtain ⟨⟨x, rfl⟩, ⟨y, rfl⟩⟩ := hint
      exact ab_br_ok (iv := iv) hg g2.2.2 g2.2.1 g2.1 hs
  | getfield k => exact ab_getf_ok hg hs
  | putfield k => exact ab_putf_ok hg hs
  | getstatic k => cases hs; exact ⟨_, rfl, ab_in1 (V := V) ⟨g1, ⟨rfl, g2⟩, g3, g4, g5, g6, g7, g8, g9⟩⟩
  | iaload =>
    simp only [ab_step] at hs
    split at hs
    · rename_i L' hL'
      cases hs
      exact ab_sald_ok hg hL'
    · obtain ⟨i, k, N, f, st', rfl, h2, h3, h4⟩ := ab_ald_ok hg (by decide) hs
      exact ⟨_, by simp only [ax_step, ax_s_iald, h2, h3, beq_self_eq_true, Bool.and_self, cond_true], h4⟩
  | baload =>
    obtain ⟨i, k, N, f, st', rfl, h2, h3, h4⟩ := ab_ald_ok hg (by decide) hs
    exact ⟨_, by simp only [ax_step, ax_s_bald, h2, h3, beq_self_eq_true, Bool.and_self, cond_true], h4⟩
  | aaload => exact ab_aald_ok hg hs
  | iastore =>
    obtain ⟨x, i, k, N, f, st', rfl, h2, h3, -, h4⟩ := ab_ast_ok hg (by decide) hs
    exact ⟨_, by simp only [ax_step, ax_s_iast, h2, h3, beq_self_eq_true, Bool.and_self, cond_true], h4⟩
  | bastore =>
    obtain ⟨x, i, k, N, f, st', rfl, h2, h3, h5, h4⟩ := ab_ast_ok hg (by decide) hs
    exact ⟨_, by simp only [ax_step, ax_s_bast, h2, h3, ab_nar (h5 rfl).1 (h5 rfl).2, beq_self_eq_true, decide_true, Bool.and_self, cond_true], h4⟩
  | arraylength => exact ab_alen_ok hg hs
  | tableswitch d lo hi offs => exact ab_tsw_ok hg hs
  | lookupswitch d ps => exact ab_lsw_ok hg hs
  | invokestatic k =>
    obtain ⟨lv0, st0, Γ, rest⟩ := S
    match st0, st, g2, hs, hg with
    | [], _, _, hs, _ => cases hs
    | [_], _, _, hs, _ => cases hs
    | b :: a :: sta, [], g2, _, _ => exact g2.elim
    | b :: a :: sta, [_], g2, _, _ => exact g2.2.elim
    | b :: a :: sta, w :: v :: st', g2, hs, hg =>
      simp only [ab_step] at hs
      obtain ⟨hc, hs2⟩ := ab_bif hs
      simp only [Bool.and_eq_true] at hc
      obtain ⟨x, y, st2, a', b', sta', p, q, r, e1, e2, h3, h4, h5, h6, h7, h8, rfl⟩ := ab_i2_sh hg hs2
      cases e1
      cases e2
      obtain ⟨V', hg2⟩ := ab_put_ok hg h3 (ab_omin_ok n V _ _ a b p q x y r g3 hg.2.2.2.1 h4 h5 h6 h7 h8)
      have e3 : (pe.1 == 9) = true := by rw [ab_nb]; exact hc.1
      have e4 : Nat.ble (ax_sum st') 8 = true := by rw [ab_sum_ok g3 h3]; exact hc.2
      exact ⟨_, by simp only [ax_step, e3, e4, Bool.and_self, cond_true], ab_in1 hg2⟩
  | _ => cases hs
end STG

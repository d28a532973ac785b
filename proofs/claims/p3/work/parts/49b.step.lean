/-! ===== sums that are remembered; the step ===== -/
section STF
variable {E : ab_E} {S : ab_S} {V : List Value} {pc nL : Nat} {lv : List (Nat × Value)} {st : List Value} {h : ax_H} {n cs ss : Nat} {L : List (Nat × ab_S)} {iv : Nat → Int × Int} {pe : ax_PE}
/-- what a sum's difference from other sums of its first part is -/
def ab_sC (Γ : List ab_Y) (C : List (Nat × Nat × Int)) (F : List (ab_V × ab_V × ab_V)) (a b v : ab_V) : List (Nat × Nat × Int) := F.flatMap fun e => bif ab_veq e.1 a then (match ab_ub Γ C 2 b e.2.1 with
    | some d => ab_dd v e.2.2 d
    | none => []) ++ (match ab_ub Γ C 2 e.2.1 b with
    | some d => ab_dd e.2.2 v d
    | none => []) else []
theorem ab_sC_ok {Γ : List ab_Y} {C : List (Nat × Nat × Int)} {F : List (ab_V × ab_V × ab_V)} (hΓ : ab_ty n V Γ) (hC : ab_co V C) (hF : ab_ca V h F) {a b v : ab_V} {x y z : Int32} (ha : ab_cv V a = some (.int x)) (hb : ab_cv V b = some (.int y)) (hv : ab_cv V v = some (.int z)) (hz : z.toInt = x.toInt + y.toInt) : ab_co V (ab_sC Γ C F a b v) := by
  intro q hq
  obtain ⟨e, he, hq⟩ := List.mem_flatMap.mp hq
  cases ev : ab_veq e.1 a with
  | false => rw [ev] at hq; cases hq
  | true =>
    rw [ev] at hq
    have hin : (a, e.2.1, e.2.2) ∈ F := by rw [← ab_veq_ok ev]; exact he
    obtain ⟨y', z', h1, h2, h3⟩ := ab_fd_sum hF hin ha
    rcases List.mem_append.mp hq with hq | hq
    · split at hq
      · rename_i d hd
        have := ab_ub_ok hΓ hC 2 _ _ d hd y y' hb h1
        exact ab_dd_ok hv h2 (by omega) q hq
      · cases hq
    · split at hq
      · rename_i d hd
        have := ab_ub_ok hΓ hC 2 _ _ d hd y' y h1 hb
        exact ab_dd_ok h2 hv (by omega) q hq
      · cases hq
def ab_isS : ab_V → Bool
  | .inr (.inl _) => true
  | _ => false
/-- a sum -/
def ab_addS (sm : Bool) (S : ab_S) (pc : Nat) : ab_L := match S.2.1 with
  | b :: a :: st => match ab_iv S.2.2.1 a, ab_iv S.2.2.1 b with
    | some p, some q => bif sm && (ab_isS a && (ab_isS b && (ab_rng (p.1 + q.1) && ab_rng (p.2 + q.2)))) then (match ab_fd S.2.2.2.2.1 a b with
        | some v => some [(pc, (S.1, v :: st, S.2.2))]
        | none => match ab_put S st (ab_add S.2.2.1.length a b p q) with
          | (lv, v :: st', Γ, C, F, r) => some [(pc, (lv, v :: st', Γ, ab_sC Γ C F a b v ++ C, (a, b, v) :: F, r))]
          | _ => none) else ab_i2 ab_oadd S pc
    | _, _ => none
  | _ => none
theorem ab_addS_ok (hg : ab_g E S V lv st h n cs ss) {sm : Bool} (hs : ab_addS sm S (pc + 1) = some L) : ∃ F, ax_s_i2 pc lv st h n cs ss (fun x y => x + y) = some F ∧ ab_in E L F := by
  obtain ⟨lv0, st0, Γ, C, rest⟩ := S
  have hg' := hg
  obtain ⟨g1, g2, g3, g4, g5, g6, g7, g8, g9⟩ := hg
  match st0, st, g2, hs, hg' with
  | [], _, _, hs, _ => cases hs
  | [_], _, _, hs, _ => cases hs
  | b :: a :: sta, [], g2, _, _ => exact g2.elim
  | b :: a :: sta, [_], g2, _, _ => exact g2.2.elim
  | b :: a :: sta, v :: w :: st', g2, hs, hg' =>
    simp only [ab_addS] at hs
    split at hs
    · rename_i p q hp hq
      cases e : (sm && (ab_isS a && (ab_isS b && (ab_rng (p.1 + q.1) && ab_rng (p.2 + q.2))))) with
      | false => rw [e] at hs; exact ab_i2_ok hg' ab_oadd_ok hs
      | true =>
        rw [e] at hs
        simp only [cond_true] at hs
        simp only [Bool.and_eq_true] at e
        obtain ⟨-, -, -, r1, r2⟩ := e
        rw [ab_rng_iff] at r1 r2
        obtain ⟨y, rfl, hy⟩ := ab_iv_ok g3 hq g2.1
        obtain ⟨x, rfl, hx⟩ := ab_iv_ok g3 hp g2.2.1
        have hz : (x + y).toInt = x.toInt + y.toInt := by rw [Int32.toInt_add, ab_bm (by omega) (by omega)]
        refine ⟨_, rfl, ?_⟩
        split at hs
        · rename_i v hv
          cases hs
          obtain ⟨y', z', k1, k2, k3⟩ := ab_fd_sum g5 (ab_fd_in hv) g2.2.1
          rw [g2.1] at k1
          cases k1
          have : z' = x + y := Int32.toInt_inj.mp (by omega)
          subst this
          exact ab_in1 (V := V) ⟨g1, ⟨k2, g2.2.2⟩, g3, g4, g5, g6, g7, g8, g9⟩
        · obtain ⟨V', hxt, hg2⟩ := ab_put_ext hg' g2.2.2 (r := ab_add Γ.length a b p q) (w := .int (x + y)) (by rw [← g3.1]; exact ab_add_ok g2.2.1 g2.1 hx hy)
          generalize ab_put (lv0, b :: a :: sta, Γ, C, rest) sta (ab_add Γ.length a b p q) = S' at hg2 hs
          obtain ⟨lv', st'', Γ', C', F', r'⟩ := S'
          cases st'' with
          | nil => exact hg2.2.1.elim
          | cons v st'' =>
            cases hs
            obtain ⟨k1, k2, k3, k4, k5, k6, k7, k8, k9⟩ := hg2
            have ha := ab_ext_cv hxt g2.2.1
            have hb := ab_ext_cv hxt g2.1
            refine ab_in1 (V := V') ⟨k1, k2, k3, ab_con (ab_sC_ok k3 k4 k5 ha hb k2.1 hz) k4, fun q hq => ?_, k6, k7, k8, k9⟩
            rcases List.mem_cons.mp hq with rfl | hq
            · exact Or.inr ⟨x, y, x + y, ha, hb, k2.1, hz⟩
            · exact k5 q hq
    · cases hs
/-- a difference -/
def ab_subS (sm : Bool) (S : ab_S) (pc : Nat) : ab_L := match S.2.1 with
  | b :: a :: st => match ab_iv S.2.2.1 a, ab_iv S.2.2.1 b with
    | some p, some q => bif sm && (ab_isS a && (ab_isS b && (ab_rng (p.1 - q.2) && ab_rng (p.2 - q.1)))) then (match S.2.2.2.2.1.find? (fun e => ab_veq e.1 b && ab_veq e.2.2 a) with
        | some e => some [(pc, (S.1, e.2.1 :: st, S.2.2))]
        | none => match ab_put S st (ab_sub S.2.2.1 S.2.2.2.1 S.2.2.1.length a b p q) with
          | (lv, v :: st', Γ, C, F, r) => some [(pc, (lv, v :: st', Γ, C, (b, v, a) :: F, r))]
          | _ => none) else ab_i2 ab_osub S pc
    | _, _ => none
  | _ => none
theorem ab_subS_ok (hg : ab_g E S V lv st h n cs ss) {sm : Bool} (hs : ab_subS sm S (pc + 1) = some L) : ∃ F, ax_s_i2 pc lv st h n cs ss (fun x y => x - y) = some F ∧ ab_in E L F := by
  obtain ⟨lv0, st0, Γ, C, rest⟩ := S
  have hg' := hg
  obtain ⟨g1, g2, g3, g4, g5, g6, g7, g8, g9⟩ := hg
  match st0, st, g2, hs, hg' with
  | [], _, _, hs, _ => cases hs
  | [_], _, _, hs, _ => cases hs
  | b :: a :: sta, [], g2, _, _ => exact g2.elim
  | b :: a :: sta, [_], g2, _, _ => exact g2.2.elim
  | b :: a :: sta, v :: w :: st', g2, hs, hg' =>
    simp only [ab_subS] at hs
    split at hs
    · rename_i p q hp hq
      cases e : (sm && (ab_isS a && (ab_isS b && (ab_rng (p.1 - q.2) && ab_rng (p.2 - q.1))))) with
      | false => rw [e] at hs; exact ab_i2_ok hg' ab_osub_ok hs
      | true =>
        rw [e] at hs
        simp only [cond_true] at hs
        simp only [Bool.and_eq_true] at e
        obtain ⟨-, -, -, r1, r2⟩ := e
        rw [ab_rng_iff] at r1 r2
        obtain ⟨y, rfl, hy⟩ := ab_iv_ok g3 hq g2.1
        obtain ⟨x, rfl, hx⟩ := ab_iv_ok g3 hp g2.2.1
        have hz : (x - y).toInt = x.toInt - y.toInt := by rw [Int32.toInt_sub, ab_bm (by omega) (by omega)]
        refine ⟨_, rfl, ?_⟩
        split at hs
        · rename_i e he
          cases hs
          have hp := List.find?_some he
          simp only [Bool.and_eq_true] at hp
          have hin : (b, e.2.1, a) ∈ rest.1 := by rw [← ab_veq_ok hp.1, ← ab_veq_ok hp.2]; exact List.mem_of_find?_eq_some he
          obtain ⟨y', z', k1, k2, k3⟩ := ab_fd_sum g5 hin g2.1
          rw [g2.2.1] at k2
          cases k2
          have : y' = x - y := Int32.toInt_inj.mp (by omega)
          subst this
          exact ab_in1 (V := V) ⟨g1, ⟨k1, g2.2.2⟩, g3, g4, g5, g6, g7, g8, g9⟩
        · obtain ⟨V', hxt, hg2⟩ := ab_put_ext hg' g2.2.2 (r := ab_sub Γ C Γ.length a b p q) (w := .int (x - y)) (by rw [← g3.1]; exact ab_sub_ok g3 g4 g2.2.1 g2.1 hx hy)
          generalize ab_put (lv0, b :: a :: sta, Γ, C, rest) sta (ab_sub Γ C Γ.length a b p q) = S' at hg2 hs
          obtain ⟨lv', st'', Γ', C', F', r'⟩ := S'
          cases st'' with
          | nil => exact hg2.2.1.elim
          | cons v st'' =>
            cases hs
            obtain ⟨k1, k2, k3, k4, k5, k6, k7, k8, k9⟩ := hg2
            have ha := ab_ext_cv hxt g2.2.1
            have hb := ab_ext_cv hxt g2.1
            refine ab_in1 (V := V') ⟨k1, k2, k3, k4, fun q hq => ?_, k6, k7, k8, k9⟩
            rcases List.mem_cons.mp hq with rfl | hq
            · exact Or.inr ⟨y, x - y, x, hb, k2.1, ha, by omega⟩
            · exact k5 q hq
    · cases hs
/-- one step but calls and returns; what may be written; whether sums are remembered -/
def ab_step (md : List (Nat × Int)) (sm : Bool) (nL : Nat) (i : Instr) (pe : ax_PE) (pc : Nat) (S : ab_S) : ab_L := match i with
  | .iconst k => ab_push S (pc + 1) k
  | .bipush k => bif decide (-128 ≤ k) && decide (k ≤ 127) then ab_push S (pc + 2) k else none
  | .sipush k => bif decide (-32768 ≤ k) && decide (k ≤ 32767) then ab_push S (pc + 3) k else none
  | .lconst _ => some [(pc + 1, ab_long S S.2.1)]
  | .ldc _ => ab_push S (pc + 2) pe.2.2.2
  | .ldc_w _ => ab_push S (pc + 3) pe.2.2.2
  | .ldc2_w _ => some [(pc + 3, ab_long S S.2.1)]
  | .iload k => ab_ld S (pc + 2) k 0
  | .iload_n k => ab_ld S (pc + 1) k 0
  | .aload k => ab_ld S (pc + 2) k 1
  | .aload_n k => ab_ld S (pc + 1) k 1
  | .lload k => ab_ld S (pc + 2) k 2
  | .lload_n k => ab_ld S (pc + 1) k 2
  | .istore k => ab_sto nL S (pc + 2) k 0
  | .istore_n k => ab_sto nL S (pc + 1) k 0
  | .astore k => ab_sto nL S (pc + 2) k 1
  | .astore_n k => ab_sto nL S (pc + 1) k 1
  | .lstore k => ab_sto nL S (pc + 2) k 2
  | .lstore_n k => ab_sto nL S (pc + 1) k 2
  | .iinc k x => ab_iinc nL S (pc + 3) k x
  | .iadd => ab_addS sm S (pc + 1)
  | .isub => ab_subS sm S (pc + 1)
  | .imul => ab_i2 ab_omul S (pc + 1)
  | .iand => ab_i2 ab_oand S (pc + 1)
  | .ior => ab_i2 ab_oor S (pc + 1)
  | .ishl => ab_i2 ab_oshl S (pc + 1)
  | .ishr => ab_i2 ab_oshr S (pc + 1)
  | .idiv => ab_i2 ab_odiv S (pc + 1)
  | .irem => ab_i2 ab_orem S (pc + 1)
  | .ineg => ab_i1 (fun _ p => ab_neg p) S (pc + 1)
  | .ladd => ab_l2 S (pc + 1)
  | .lmul => ab_l2 S (pc + 1)
  | .land => ab_l2 S (pc + 1)
  | .lshr => ab_li S (pc + 1)
  | .lushr => ab_li S (pc + 1)
  | .i2l => ab_i1 (fun _ _ => .inr (.inr none, [])) S (pc + 1)
  | .l2i => ab_l1 S (pc + 1)
  | .i2b => ab_i1 ab_i2b S (pc + 1)
  | .dup => (match S.2.1 with
    | a :: st => bif Nat.beq (ab_ct S.2.2.1 a) 1 then some [(pc + 1, (S.1, a :: a :: st, S.2.2))] else none
    | _ => none)
  | .dup2 => (match S.2.1 with
    | a :: b :: st => bif Nat.beq (ab_ct S.2.2.1 a) 1 && Nat.beq (ab_ct S.2.2.1 b) 1 then some [(pc + 1, (S.1, a :: b :: a :: b :: st, S.2.2))] else none
    | _ => none)
  | .pop => (match S.2.1 with
    | a :: st => bif Nat.beq (ab_ct S.2.2.1 a) 1 then some [(pc + 1, (S.1, st, S.2.2))] else none
    | _ => none)
  | .goto off => (ax_to pc off).map fun t => [(t, S)]
  | .ifCond c off => (match S.2.1 with
    | a :: st => ab_br S pc c off a (.inl 0) st
    | _ => none)
  | .if_icmp c off => (match S.2.1 with
    | b :: a :: st => ab_br S pc c off a b st
    | _ => none)
  | .getfield _ => ab_getf pe S pc
  | .putfield _ => ab_putf md pe S pc
  | .getstatic _ => some [(pc + 3, (S.1, .inr (.inr (.inr pe.2.1)) :: S.2.1, S.2.2))]
  | .iaload => (match ab_sald S pc with
    | some L => some L
    | none => ab_ald 0 S pc)
  | .baload => ab_ald 1 S pc
  | .aaload => ab_aald S pc
  | .iastore => ab_ast md 0 S pc
  | .bastore => ab_ast md 1 S pc
  | .arraylength => ab_alen S (pc + 1)
  | .tableswitch d lo hi offs => ab_tsw S pc d lo hi offs.toList
  | .lookupswitch d ps => ab_lsw S pc d ps.toList
  | .invokestatic _ => (match S.2.1 with
    | _ :: _ :: st => bif Nat.beq pe.1 9 && Nat.ble (ab_sum S.2.2.1 st) 8 then ab_i2 ab_omin S (pc + 3) else none
    | _ => none)
  | _ => none
end STF

/-! ===== every step that is no call ===== -/
section STE
variable {E : ab_E} {S : ab_S} {V : List Value} {pc nL : Nat} {lv : List (Nat × Value)} {st : List Value} {h : ax_H} {n cs ss : Nat} {L : List (Nat × ab_S)} {iv : Nat → Int × Int} {pe : ax_PE}
/-- categories on a stack -/
def ab_sum (Γ : List ab_Y) : List ab_V → Nat
  | [] => 0
  | a :: st => ab_ct Γ a + ab_sum Γ st
theorem ab_sum_ok {Γ : List ab_Y} (hΓ : ab_ty n V Γ) : ∀ {sta : List ab_V} {st : List Value}, ab_stR V sta st → ax_sum st = ab_sum Γ sta
  | [], [], _ => rfl
  | a :: sta, v :: st, hs => by
    have ih := ab_sum_ok hΓ hs.2
    unfold ax_sum at ih ⊢
    rw [List.map_cons, List.sum_cons, ih, ab_ct_ok hΓ hs.1]
    rfl
  | [], _ :: _, hs => hs.elim
  | _ :: _, [], hs => hs.elim
/-- two longs to one -/
def ab_l2 (S : ab_S) (pc : Nat) : ab_L := match S.2.1 with
  | b :: a :: st => bif (match ab_kd S.2.2.1 a, ab_kd S.2.2.1 b with
      | some x, some y => Nat.beq x 2 && Nat.beq y 2
      | _, _ => false) then some [(pc, ab_long S st)] else none
  | _ => none
theorem ab_kd2 {Γ : List ab_Y} (hΓ : ab_ty n V Γ) {a : ab_V} {v : Value} (hv : ab_cv V a = some v) (h : ab_kd Γ a = some 2) : ∃ x : Int64, v = .long x := by
  rcases ab_kd_ok hΓ hv h with ⟨e, -⟩ | ⟨e, -⟩ | ⟨-, x, rfl⟩
  · cases e
  · cases e
  · exact ⟨x, rfl⟩
theorem ab_l2_ok (hg : ab_g E S V lv st h n cs ss) {op : Int64 → Int64 → Int64} (hs : ab_l2 S (pc + 1) = some L) : ∃ F, ax_s_l2 pc lv st h n cs ss op = some F ∧ ab_in E L F := by
  obtain ⟨lv0, st0, Γ, rest⟩ := S
  have hg' := hg
  obtain ⟨g1, g2, g3, g4, g5, g6, g7, g8, g9⟩ := hg
  match st0, st, g2, hs with
  | [], _, _, hs => cases hs
  | [_], _, _, hs => cases hs
  | b :: a :: sta, [], g2, _ => exact g2.elim
  | b :: a :: sta, [_], g2, _ => exact g2.2.elim
  | b :: a :: sta, v :: w :: st', g2, hs =>
    simp only [ab_l2] at hs
    obtain ⟨hc, hs2⟩ := ab_bif hs
    split at hc
    · rename_i x y hx hy
      simp only [Bool.and_eq_true, Nat.beq_eq] at hc
      obtain ⟨rfl, rfl⟩ := hc
      obtain ⟨x, rfl⟩ := ab_kd2 g3 g2.2.1 hx
      obtain ⟨y, rfl⟩ := ab_kd2 g3 g2.1 hy
      cases hs2
      exact ⟨_, rfl, ab_long_ok hg' g2.2.2 _⟩
    · cases hc
/-- a long and an int to a long -/
def ab_li (S : ab_S) (pc : Nat) : ab_L := match S.2.1 with
  | b :: a :: st => bif (match ab_kd S.2.2.1 a, ab_iv S.2.2.1 b with
      | some x, some _ => Nat.beq x 2
      | _, _ => false) then some [(pc, ab_long S st)] else none
  | _ => none
theorem ab_li_ok (hg : ab_g E S V lv st h n cs ss) {op : Int64 → Int32 → Int64} (hs : ab_li S (pc + 1) = some L) : ∃ F, ax_s_li pc lv st h n cs ss op = some F ∧ ab_in E L F := by
  obtain ⟨lv0, st0, Γ, rest⟩ := S
  have hg' := hg
  obtain ⟨g1, g2, g3, g4, g5, g6, g7, g8, g9⟩ := hg
  match st0, st, g2, hs with
  | [], _, _, hs => cases hs
  | [_], _, _, hs => cases hs
  | b :: a :: sta, [], g2, _ => exact g2.elim
  | b :: a :: sta, [_], g2, _ => exact g2.2.elim
  | b :: a :: sta, v :: w :: st', g2, hs =>
    simp only [ab_li] at hs
    obtain ⟨hc, hs2⟩ := ab_bif hs
    split at hc
    · rename_i x y hx hy
      simp only [Nat.beq_eq] at hc
      subst hc
      obtain ⟨x, rfl⟩ := ab_kd2 g3 g2.2.1 hx
      obtain ⟨y, rfl, -⟩ := ab_iv_ok g3 hy g2.1
      cases hs2
      exact ⟨_, rfl, ab_long_ok hg' g2.2.2 _⟩
    · cases hc
/-- one int to an int -/
def ab_i1 (f : ab_V → Int × Int → ab_R) (S : ab_S) (pc : Nat) : ab_L := match S.2.1 with
  | a :: st => match ab_iv S.2.2.1 a with
    | some p => some [(pc, ab_put S st (f a p))]
    | none => none
  | _ => none
theorem ab_i1_ok (hg : ab_g E S V lv st h n cs ss) {f : ab_V → Int × Int → ab_R} {op : Int32 → Value} (hf : ∀ (a : ab_V) (p : Int × Int) (x : Int32), ab_cv V a = some (.int x) → p.1 ≤ x.toInt ∧ x.toInt ≤ p.2 → ab_den n V (f a p) (op x)) (hs : ab_i1 f S pc = some L) : ∃ (x : Int32) (st' : List Value), st = .int x :: st' ∧ ab_in E L (pc, lv, op x :: st', h, n, cs, ss) := by
  obtain ⟨lv0, st0, Γ, rest⟩ := S
  have hg' := hg
  obtain ⟨g1, g2, g3, g4, g5, g6, g7, g8, g9⟩ := hg
  match st0, st, g2, hs with
  | [], _, _, hs => cases hs
  | a :: sta, [], g2, _ => exact g2.elim
  | a :: sta, v :: st', g2, hs =>
    simp only [ab_i1] at hs
    split at hs
    · rename_i p hp
      cases hs
      obtain ⟨x, rfl, hx⟩ := ab_iv_ok g3 hp g2.1
      obtain ⟨V', hg2⟩ := ab_put_ok hg' g2.2 (hf a p x g2.1 hx)
      exact ⟨x, st', rfl, ab_in1 hg2⟩
    · cases hs
def ab_l1 (S : ab_S) (pc : Nat) : ab_L := match S.2.1 with
  | a :: st => match ab_kd S.2.2.1 a with
    | some d => bif Nat.beq d 2 then some [(pc, ab_put S st (.inr (ab_top, [])))] else none
    | none => none
  | _ => none
theorem ab_l1_ok (hg : ab_g E S V lv st h n cs ss) (hs : ab_l1 S pc = some L) : ∃ (x : Int64) (st' : List Value), st = .long x :: st' ∧ ab_in E L (pc, lv, .int x.toInt32 :: st', h, n, cs, ss) := by
  obtain ⟨lv0, st0, Γ, rest⟩ := S
  have hg' := hg
  obtain ⟨g1, g2, g3, g4, g5, g6, g7, g8, g9⟩ := hg
  match st0, st, g2, hs with
  | [], _, _, hs => cases hs
  | a :: sta, [], g2, _ => exact g2.elim
  | a :: sta, v :: st', g2, hs =>
    simp only [ab_l1] at hs
    split at hs
    · rename_i d hd
      obtain ⟨hc, hs2⟩ := ab_bif hs
      cases hs2
      have : d = 2 := by simpa [Nat.beq_eq] using hc
      subst this
      obtain ⟨x, rfl⟩ := ab_kd2 g3 g2.1 hd
      obtain ⟨V', hg2⟩ := ab_put_ok hg' g2.2 (r := .inr (ab_top, [])) (w := .int x.toInt32) ⟨ab_top_ok _ _, ab_no⟩
      exact ⟨x, st', rfl, ab_in1 hg2⟩
    · cases hs
def ab_iinc (nL : Nat) (S : ab_S) (pc k : Nat) (c : Int) : ab_L := match ab_lk S.1 k with
  | some a => match ab_iv S.2.2.1 a with
    | some p => bif Nat.blt k nL && ab_rng c then (match ab_put S S.2.1 (ab_add S.2.2.1.length a (.inl c) p (c, c)) with
        | (lv, v :: st, r) => some [(pc, (ab_p1 r.1 lv k v, st, r))]
        | _ => none) else none
    | none => none
  | none => none
theorem ab_iinc_ok (hg : ab_g E S V lv st h n cs ss) {k : Nat} {c : Int} (hs : ab_iinc nL S pc k c = some L) : ∃ v : Int32, ax_look lv k = some (.int v) ∧ Nat.blt k nL = true ∧ ab_in E L (pc, ax_put1 lv k (.int (v + Int32.ofInt c)), st, h, n, cs, ss) := by
  have hg' := hg
  obtain ⟨g1, g2, g3, g4, g5, g6, g7, g8, g9⟩ := hg
  unfold ab_iinc at hs
  split at hs
  · rename_i a ha
    obtain ⟨v, hv1, hv2⟩ := ab_lk_ok g1 ha
    split at hs
    · rename_i p hp
      obtain ⟨x, rfl, hx⟩ := ab_iv_ok g3 hp hv2
      obtain ⟨hc, hs2⟩ := ab_bif hs
      simp only [Bool.and_eq_true] at hc
      have hcc : ab_cv V (.inl c) = some (.int (Int32.ofInt c)) := by show (bif ab_rng c then _ else none) = _; rw [hc.2]; rfl
      have hd : ab_den n V (ab_add S.2.2.1.length a (.inl c) p (c, c)) (.int (x + Int32.ofInt c)) := by
        rw [← g3.1]
        exact ab_add_ok hv2 hcc hx ⟨by rw [ab_rng_ok hc.2]; exact Int.le_refl _, by rw [ab_rng_ok hc.2]; exact Int.le_refl _⟩
      obtain ⟨V', hg2⟩ := ab_put_ok hg' g2 hd
      generalize ab_put S S.2.1 (ab_add S.2.2.1.length a (.inl c) p (c, c)) = S' at hg2 hs2
      obtain ⟨lv', st', r⟩ := S'
      cases st' with
      | nil => cases hs2
      | cons w st' =>
        cases hs2
        obtain ⟨k1, k2, k3, k4, k5, k6, k7, k8, k9⟩ := hg2
        exact ⟨x, hv1, hc.1, ab_in1 (V := V') ⟨ab_p1_ok k3 k1 k2.1, k2.2, k3, k4, k5, k6, k7, k8, k9⟩⟩
    · cases hs
  · cases hs
/-- both ways of a value that decides -/
def ab_oc (S : ab_S) (st : List ab_V) (c : ClassFile.Cond) (a b : ab_V) (p q : Int × Int) (tg : Nat) : List (Nat × ab_S) := match ab_as c S.2.2.1 S.2.2.2.1 a b p q with
  | some r => [(tg, (S.1, st, r.1, r.2, S.2.2.2.2))]
  | none => []
theorem ab_oc_ok (hg : ab_g E S V lv st h n cs ss) {st1 : List Value} {sta : List ab_V} (hst : ab_stR V sta st1) {c : ClassFile.Cond} {a b : ab_V} {x y : Int32} (ha : ab_cv V a = some (.int x)) (hb : ab_cv V b = some (.int y)) {p q : Int × Int} (hp : p.1 ≤ x.toInt ∧ x.toInt ≤ p.2) (hq : q.1 ≤ y.toInt ∧ y.toInt ≤ q.2) (hc : ax_holds c x y) (tg : Nat) : ab_in E (ab_oc S sta c a b p q tg) (tg, lv, st1, h, n, cs, ss) := by
  obtain ⟨g1, g2, g3, g4, g5, g6, g7, g8, g9⟩ := hg
  obtain ⟨r, hr, t1, t2⟩ := ab_as_ok g3 g4 ha hb hp hq hc
  unfold ab_oc
  rw [hr]
  exact ab_in1 (V := V) ⟨g1, hst, t1, t2, g5, g6, g7, g8, g9⟩
theorem ab_in_l {L M : List (Nat × ab_S)} {F : ax_F} (hh : ab_in E L F) : ab_in E (L ++ M) F := by
  obtain ⟨q, hq, r⟩ := hh
  exact ⟨q, List.mem_append_left _ hq, r⟩
theorem ab_in_r {L M : List (Nat × ab_S)} {F : ax_F} (hh : ab_in E M F) : ab_in E (L ++ M) F := by
  obtain ⟨q, hq, r⟩ := hh
  exact ⟨q, List.mem_append_right _ hq, r⟩
def ab_tcs (S : ab_S) (st : List ab_V) (a : ab_V) (p : Int × Int) (pc : Nat) : Int → List Int → ab_L
  | _, [] => some []
  | c, off :: r => match ax_to pc off, ab_tcs S st a p pc (c + 1) r with
    | some t, some L => bif ab_rng c then some (ab_oc S st .eq a (.inl c) p (c, c) t ++ L) else none
    | _, _ => none
theorem ab_cvc {c : Int} (hc : ab_rng c = true) : ab_cv V (.inl c) = some (.int (Int32.ofInt c)) := by show (bif ab_rng c then _ else none) = _; rw [hc]; rfl
theorem ab_tcs_ok (hg : ab_g E S V lv st h n cs ss) {st1 : List Value} {sta : List ab_V} (hst : ab_stR V sta st1) {a : ab_V} {x : Int32} (ha : ab_cv V a = some (.int x)) {p : Int × Int} (hp : p.1 ≤ x.toInt ∧ x.toInt ≤ p.2) : ∀ (os : List Int) (c : Int) (L : List (Nat × ab_S)), ab_tcs S sta a p pc c os = some L → ∀ off : Int, c ≤ x.toInt → os[(x.toInt - c).toNat]? = some off → ∃ t, ax_to pc off = some t ∧ ab_in E L (t, lv, st1, h, n, cs, ss) := by
  intro os
  induction os with
  | nil => intro c L _ off _ ho; simp at ho
  | cons o os ih =>
    intro c L hs off hc ho
    rw [ab_tcs] at hs
    split at hs
    · rename_i t L' ht hL'
      obtain ⟨hr, hs2⟩ := ab_bif hs
      cases hs2
      by_cases e : x.toInt = c
      · rw [e, Int.sub_self] at ho
        have : o = off := Option.some.inj ho
        subst this
        refine ⟨t, ht, ab_in_l (ab_oc_ok hg hst ha (ab_cvc hr) hp ⟨by rw [ab_rng_ok hr]; exact Int.le_refl _, by rw [ab_rng_ok hr]; exact Int.le_refl _⟩ ?_ t)⟩
        show x = Int32.ofInt c
        exact Int32.toInt_inj.mp (by rw [ab_rng_ok hr]; exact e)
      · have e2 : (x.toInt - c).toNat = (x.toInt - (c + 1)).toNat + 1 := by omega
        rw [e2, List.getElem?_cons_succ] at ho
        obtain ⟨t', h1, h2⟩ := ih (c + 1) L' hL' off (by omega) ho
        exact ⟨t', h1, ab_in_r h2⟩
    · cases hs
def ab_tsw (S : ab_S) (pc : Nat) (d lo hi : Int) (os : List Int) : ab_L := match S.2.1 with
  | a :: st => match ab_iv S.2.2.1 a with
    | some p => match ax_to pc d, ab_tcs S st a p pc lo os with
      | some t, some L => bif ab_rng lo && (ab_rng hi && decide (hi - lo < os.length)) then some (ab_oc S st .lt a (.inl lo) p (lo, lo) t ++ (ab_oc S st .gt a (.inl hi) p (hi, hi) t ++ L)) else none
      | _, _ => none
    | none => none
  | _ => none
theorem ab_tsw_ok (hg : ab_g E S V lv st h n cs ss) {d lo hi : Int} {offs : Array Int} (hs : ab_tsw S pc d lo hi offs.toList = some L) : ∃ F, ax_s_table iv pc lv st h n cs ss d lo hi offs = some F ∧ ab_in E L F := by
  obtain ⟨lv0, st0, Γ, rest⟩ := S
  have hg' := hg
  obtain ⟨g1, g2, g3, g4, g5, g6, g7, g8, g9⟩ := hg
  match st0, st, g2, hs with
  | [], _, _, hs => cases hs
  | a :: sta, [], g2, _ => exact g2.elim
  | a :: sta, v :: st', g2, hs =>
    simp only [ab_tsw] at hs
    split at hs
    · rename_i p hp
      obtain ⟨x, rfl, hx⟩ := ab_iv_ok g3 hp g2.1
      split at hs
      · rename_i t L' ht hL'
        obtain ⟨hc, hs2⟩ := ab_bif hs
        cases hs2
        simp only [Bool.and_eq_true, decide_eq_true_eq] at hc
        obtain ⟨c1, c2, c3⟩ := hc
        have e1 := ab_rng_ok c1
        have e2 := ab_rng_ok c2
        simp only [ax_s_table]
        by_cases h1 : x.toInt < lo
        · rw [decide_eq_true h1]
          simp only [Bool.true_or, cond_true, ht, Option.map_some]
          refine ⟨_, rfl, ab_in_l (ab_oc_ok hg' g2.2 g2.1 (ab_cvc c1) hx ⟨by rw [e1]; exact Int.le_refl _, by rw [e1]; exact Int.le_refl _⟩ ?_ t)⟩
          exact Int32.lt_iff_toInt_lt.mpr (by rw [e1]; exact h1)
        · by_cases h2 : hi < x.toInt
          · rw [decide_eq_true h2]
            simp only [Bool.or_true, cond_true, ht, Option.map_some]
            refine ⟨_, rfl, ab_in_r (ab_in_l (ab_oc_ok hg' g2.2 g2.1 (ab_cvc c2) hx ⟨by rw [e2]; exact Int.le_refl _, by rw [e2]; exact Int.le_refl _⟩ ?_ t))⟩
            exact Int32.lt_iff_toInt_lt.mpr (by rw [e2]; exact h2)
          · rw [decide_eq_false h1, decide_eq_false h2]
            simp only [Bool.or_self, cond_false]
            have hlt : (x.toInt - lo).toNat < offs.toList.length := by omega
            have ho : offs.toList[(x.toInt - lo).toNat]? = some offs.toList[(x.toInt - lo).toNat] := List.getElem?_eq_getElem hlt
            obtain ⟨t', k1, k2⟩ := ab_tcs_ok hg' g2.2 g2.1 hx offs.toList lo L' hL' _ (by omega) ho
            rw [← Array.getElem?_toList, ho]
            simp only [k1, Option.map_some]
            exact ⟨_, rfl, ab_in_r (ab_in_r k2)⟩
      · cases hs
    · cases hs
def ab_lcs (S : ab_S) (st : List ab_V) (a : ab_V) (p : Int × Int) (pc : Nat) (t : Nat) : List (Int × Int) → ab_L
  | [] => some [(t, (S.1, st, S.2.2))]
  | e :: r => match ax_to pc e.2, ab_lcs S st a p pc t r with
    | some t', some L => bif ab_rng e.1 then some (ab_oc S st .eq a (.inl e.1) p (e.1, e.1) t' ++ L) else none
    | _, _ => none
theorem ab_lcs_ok (hg : ab_g E S V lv st h n cs ss) {st1 : List Value} {sta : List ab_V} (hst : ab_stR V sta st1) {a : ab_V} {x : Int32} (ha : ab_cv V a = some (.int x)) {p : Int × Int} (hp : p.1 ≤ x.toInt ∧ x.toInt ≤ p.2) {d : Int} {t : Nat} (ht : ax_to pc d = some t) : ∀ (ps : List (Int × Int)) (L : List (Nat × ab_S)), ab_lcs S sta a p pc t ps = some L → ∃ t', ax_to pc (Op.lookupswitch.offset ps d x.toInt) = some t' ∧ ab_in E L (t', lv, st1, h, n, cs, ss) := by
  intro ps
  induction ps with
  | nil =>
    intro L hs
    cases hs
    obtain ⟨g1, g2, g3, g4, g5, g6, g7, g8, g9⟩ := hg
    exact ⟨t, ht, ab_in1 (V := V) ⟨g1, hst, g3, g4, g5, g6, g7, g8, g9⟩⟩
  | cons e ps ih =>
    intro L hs
    rw [ab_lcs] at hs
    split at hs
    · rename_i t' L' ht' hL'
      obtain ⟨hr, hs2⟩ := ab_bif hs
      cases hs2
      rw [Op.lookupswitch.offset_cons]
      by_cases hx : x.toInt = e.1
      · rw [if_pos (by simp [hx])]
        refine ⟨t', ht', ab_in_l (ab_oc_ok hg hst ha (ab_cvc hr) hp ⟨by rw [ab_rng_ok hr]; exact Int.le_refl _, by rw [ab_rng_ok hr]; exact Int.le_refl _⟩ ?_ t')⟩
        exact Int32.toInt_inj.mp (by rw [ab_rng_ok hr]; exact hx)
      · rw [if_neg (by first | exact fun q => hx q.symm | exact hx | (intro q; simp at q; omega))]
        obtain ⟨t2, k1, k2⟩ := ih L' hL'
        exact ⟨t2, k1, ab_in_r k2⟩
    · cases hs
def ab_lsw (S : ab_S) (pc : Nat) (d : Int) (ps : List (Int × Int)) : ab_L := match S.2.1 with
  | a :: st => match ab_iv S.2.2.1 a, ax_to pc d with
    | some p, some t => bif (ps.zip (ps.drop 1)).all (fun (a, next) => a.1 < next.1) then ab_lcs S st a p pc t ps else none
    | _, _ => none
  | _ => none
theorem ab_lsw_ok (hg : ab_g E S V lv st h n cs ss) {d : Int} {ps : Array (Int × Int)} (hs : ab_lsw S pc d ps.toList = some L) : ∃ F, ax_s_lookup iv pc lv st h n cs ss d ps = some F ∧ ab_in E L F := by
  obtain ⟨lv0, st0, Γ, rest⟩ := S
  have hg' := hg
  obtain ⟨g1, g2, g3, g4, g5, g6, g7, g8, g9⟩ := hg
  match st0, st, g2, hs with
  | [], _, _, hs => cases hs
  | a :: sta, [], g2, _ => exact g2.elim
  | a :: sta, v :: st', g2, hs =>
    simp only [ab_lsw] at hs
    split at hs
    · rename_i p t hp ht
      obtain ⟨x, rfl, hx⟩ := ab_iv_ok g3 hp g2.1
      obtain ⟨hc, hs2⟩ := ab_bif hs
      obtain ⟨t', k1, k2⟩ := ab_lcs_ok hg' g2.2 g2.1 hx ht _ _ hs2
      unfold ax_s_lookup
      rw [hc]
      simp only [cond_true, k1, Option.map_some]
      exact ⟨_, rfl, k2⟩
    · cases hs
def ab_alen (S : ab_S) (pc : Nat) : ab_L := match S.2.1 with
  | o :: st => match ab_mo S.2.2.1 o with
    | some M => match ab_lens M with
      | some (N1, N2) => bif Nat.blt (ab_t0 M) 2 && ab_ack M (ab_t0 M) none ab_top then some [(pc, ab_load S st o (.inl (-1)) (.inl (N1, N2, 0)))] else none
      | none => none
    | none => none
  | _ => none
theorem ab_alen_ok (hg : ab_g E S V lv st h n cs ss) (hs : ab_alen S (pc + 1) = some L) : ∃ F, ax_s_alen pc lv st h n cs ss = some F ∧ ab_in E L F := by
  obtain ⟨lv0, st0, Γ, rest⟩ := S
  have hg' := hg
  obtain ⟨g1, g2, g3, g4, g5, g6, g7, ⟨g8, g8', g8''⟩, g9⟩ := hg
  match st0, st, g2, hs with
  | [], _, _, hs => cases hs
  | a :: sta, [], g2, _ => exact g2.elim
  | a :: sta, v :: st', g2, hs =>
    simp only [ab_alen] at hs
    split at hs
    · rename_i M hM
      obtain ⟨k, rfl, hk, hb⟩ := ab_mo_ok g8.1 g3 hM g2.1
      split at hs
      · rename_i N1 N2 hl
        generalize ab_t0 M = t at hs
        obtain ⟨hc, hs2⟩ := ab_bif hs
        cases hs2
        simp only [Bool.and_eq_true] at hc
        obtain ⟨N, f, r1, r2, r3⟩ := ab_ack_ok g8 hb hk (by simpa [Nat.blt_eq] using hc.1) hc.2
        obtain ⟨l1, l2, l3⟩ := ab_lens_ok g8 hb hk r1 hl
        have hrd : ab_rd h k (Int32.ofInt (-1)).toInt = some (.int (Int32.ofNat N)) := ab_rd_len r1
        obtain ⟨V', -, hg2⟩ := ab_load_ok (i := .inl (-1)) (x := Int32.ofInt (-1)) (τ := .inl ((N1 : Int), (N2 : Int), 0)) hg' g2.2 g2.1 rfl hrd ⟨_, rfl, by rw [ab_ofN l3]; omega, by rw [ab_ofN l3]; omega, trivial⟩
        refine ⟨_, ?_, ab_in1 hg2⟩
        simp only [ax_s_alen, r1, hc.1, cond_true]
      · cases hs
    · cases hs
/-- the less of two -/
def ab_omin : ab_O := fun _ _ t a b p q => some (ab_mk (min p.1 q.1) (min p.2 q.2) 0 (ab_d1 t a 0 ++ ab_d1 t b 0))
theorem ab_omin_ok : ab_Oo ab_omin (fun x y => if y < x then y else x) := fun n V Γ C a b p q x y r hΓ hC ha hb hp hq h => by
  cases h
  show ab_den n V _ (.int (if y < x then y else x))
  refine ab_mk_ok fun r1 r2 => ?_
  have hz : (if y < x then y else x).toInt = min x.toInt y.toInt := by
    by_cases e : y < x
    · rw [if_pos e]
      have := Int32.lt_iff_toInt_lt.mp e
      omega
    · rw [if_neg e]
      have := Int32.le_iff_toInt_le.mp (Int32.not_lt.mp e)
      omega
  exact ⟨by omega, by omega, trivial, ab_con (ab_d1_ok ha (by omega)) (ab_d1_ok hb (by omega))⟩
end STE

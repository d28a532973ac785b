/-! ===== runs of known instructions over unknown ints ===== -/
/-- so many steps, no calls -/
def cx (G : ax_T) (mi : ax_MI) : Nat → ax_F → Option ax_F
  | 0, F => some F
  | k + 1, F => match ax_at mi.2.2.2.2.2.2.2.2 F.1 with
    | none => none
    | some en => match ax_step (ab_io G) mi.2.2.2.1 en.2.1 en.2.2.2.1 F.1 F.2.1 F.2.2.1 F.2.2.2.1 F.2.2.2.2.1 F.2.2.2.2.2.1 F.2.2.2.2.2.2 with
      | some F' => bif Nat.ble F'.2.2.2.2.2.1 mi.2.2.2.2.2.2.1 && Nat.ble F'.2.2.2.2.2.2 mi.2.2.2.2.2.2.2.1 then cx G mi k F' else none
      | none => none
section CX
variable {l : Launch} {G : ax_T} {mi : ax_MI} {d : Nat} {o : ax_O}
theorem cx_ok (hmi : mi ∈ mt_prog) : ∀ (k : Nat) {F F' : ax_F}, cx G mi k F = some F' → ab_Wd l G mi d o F' → ab_Wd l G mi d o F
  | 0, F, F', h, hW => by cases h; exact hW
  | k + 1, F, F', h, hW => by
    unfold cx at h
    split at h
    · cases h
    · rename_i en ha
      split at h
      · rename_i F1 h1
        obtain ⟨hb, h2⟩ := ab_bif h
        simp only [Bool.and_eq_true, Nat.ble_eq] at hb
        exact ab_Wd_step mt_ok hmi ha h1 hb.1 hb.2 (cx_ok hmi k h2 hW)
      · cases h
variable {pc tg len : Nat} {lv : List (Nat × Value)} {st : List Value} {h : ax_H} {n : Nat} {x y : Int32} {c : ClassFile.Cond} {off : Int} {pe : ax_PE} {hs : List Nat}
theorem cx_brt (ht : ax_to pc off = some tg) (hc : ax_holds c x y) (cs ss : Nat) : ax_s_br (ab_io G) pc lv h n cs ss c off (.int x) (.int y) st = some (tg, lv, st, h, n, cs, ss) := by
  obtain ⟨t, hcm⟩ := ab_cmp_some c x.toInt y.toInt
  have hiff := ax_cmp_ok (a := (x.toInt, x.toInt)) (b := (y.toInt, y.toInt)) ⟨Int.le_refl _, Int.le_refl _⟩ ⟨Int.le_refl _, Int.le_refl _⟩ hcm
  have := hiff.mp hc
  subst this
  simp only [ax_s_br, ht, ax_rg, hcm]
theorem cx_brf (ht : ax_to pc off = some tg) (hc : ¬ ax_holds c x y) (cs ss : Nat) : ax_s_br (ab_io G) pc lv h n cs ss c off (.int x) (.int y) st = some (pc + 3, lv, st, h, n, cs, ss) := by
  obtain ⟨t, hcm⟩ := ab_cmp_some c x.toInt y.toInt
  have hiff := ax_cmp_ok (a := (x.toInt, x.toInt)) (b := (y.toInt, y.toInt)) ⟨Int.le_refl _, Int.le_refl _⟩ ⟨Int.le_refl _, Int.le_refl _⟩ hcm
  have : t = false := by
    cases t with
    | false => rfl
    | true => exact absurd (hiff.mpr rfl) hc
  subst this
  simp only [ax_s_br, ht, ax_rg, hcm]
theorem cx_it (hmi : mi ∈ mt_prog) (ha : ax_at mi.2.2.2.2.2.2.2.2 pc = some (pc, .if_icmp c off, len, pe, hs)) (ht : ax_to pc off = some tg) (hc : ax_holds c x y) (hW : ab_Wd l G mi d o (tg, lv, st, h, n, 0, 0)) : ab_Wd l G mi d o (pc, lv, .int y :: .int x :: st, h, n, 0, 0) :=
  ab_Wd_step mt_ok hmi ha (cx_brt (G := G) ht hc 0 0) (Nat.zero_le _) (Nat.zero_le _) hW
theorem cx_if (hmi : mi ∈ mt_prog) (ha : ax_at mi.2.2.2.2.2.2.2.2 pc = some (pc, .if_icmp c off, len, pe, hs)) (ht : ax_to pc off = some tg) (hc : ¬ ax_holds c x y) (hW : ab_Wd l G mi d o (pc + 3, lv, st, h, n, 0, 0)) : ab_Wd l G mi d o (pc, lv, .int y :: .int x :: st, h, n, 0, 0) :=
  ab_Wd_step mt_ok hmi ha (cx_brf (G := G) ht hc 0 0) (Nat.zero_le _) (Nat.zero_le _) hW
theorem cx_zt (hmi : mi ∈ mt_prog) (ha : ax_at mi.2.2.2.2.2.2.2.2 pc = some (pc, .ifCond c off, len, pe, hs)) (ht : ax_to pc off = some tg) (hc : ax_holds c x 0) (hW : ab_Wd l G mi d o (tg, lv, st, h, n, 0, 0)) : ab_Wd l G mi d o (pc, lv, .int x :: st, h, n, 0, 0) :=
  ab_Wd_step mt_ok hmi ha (cx_brt (G := G) ht hc 0 0) (Nat.zero_le _) (Nat.zero_le _) hW
theorem cx_zf (hmi : mi ∈ mt_prog) (ha : ax_at mi.2.2.2.2.2.2.2.2 pc = some (pc, .ifCond c off, len, pe, hs)) (ht : ax_to pc off = some tg) (hc : ¬ ax_holds c x 0) (hW : ab_Wd l G mi d o (pc + 3, lv, st, h, n, 0, 0)) : ab_Wd l G mi d o (pc, lv, .int x :: st, h, n, 0, 0) :=
  ab_Wd_step mt_ok hmi ha (cx_brf (G := G) ht hc 0 0) (Nat.zero_le _) (Nat.zero_le _) hW
/-- a static call of a method that makes no cells -/
theorem cx_call (hmi : mi ∈ mt_prog) {en : ax_EN} (ha : ax_at mi.2.2.2.2.2.2.2.2 pc = some en) {q : ax_MI × List Value × List Value} (hq : ax_inv mt_prog en.2.1 en.2.2.2.1 st h = some q) (h0 : q.1.2.2.2.2.2.2.1 = 0 ∧ q.1.2.2.2.2.2.2.2.1 = 0) {o1 : ax_O} (hM : ab_M l G d q.1 q.2.1 h n o1) (hW : ab_Wd l G mi d o (pc + 3, lv, o1.1.toList ++ q.2.2, o1.2.1, o1.2.2, 0, 0)) : ab_Wd l G mi d o (pc, lv, st, h, n, 0, 0) := by
  refine ab_Wd_inv mt_ok hmi ha hq hM ?_ ?_ ?_
  · rw [h0.1]; exact Nat.zero_le _
  · rw [h0.2]; exact Nat.zero_le _
  · rw [h0.1, h0.2]; exact hW
theorem cx_le {x y : Int32} : x ≤ y ↔ x.toInt ≤ y.toInt := Int32.le_iff_toInt_le
theorem cx_lt {x y : Int32} : x < y ↔ x.toInt < y.toInt := Int32.lt_iff_toInt_lt
end CX

/-! ===== each public call ends, and leaves cells that are as their kinds say (printed by wip/safe/mkpub.py) ===== -/
def pb_int (P : ab_S) : Bool := match P.2.1 with
  | [a] => (ab_iv P.2.2.1 a).isSome
  | _ => false
def pb_long (P : ab_S) : Bool := match P.2.1 with
  | [a] => (match ab_kd P.2.2.1 a with
    | some d => Nat.beq d 2
    | none => false)
  | _ => false
/-- all but some places stand -/
def pb_f (M : List (Nat × Int)) (n : Nat) (h h' : ax_H) : Prop := ∀ k, k < n → ∀ i : Int, 0 ≤ i → ab_md M (ab_k k) i = false → ab_rd h' k i = ab_rd h k i
theorem pb_f_of {M : List (Nat × Int)} {n : Nat} {h h' : ax_H} (hf : ab_fr M n h h') : pb_f M n h h' := fun k hk i _ hm => hf k hk i hm
/-- some places stand -/
def kpt (L : List (Nat × Int)) (h h' : ax_H) : Prop := ∀ q ∈ L, ab_rd h' q.1 q.2 = ab_rd h q.1 q.2
def kp_md (L M : List (Nat × Int)) : Bool := L.all fun q => Nat.blt q.1 573 && (decide (0 ≤ q.2) && !(ab_md M (ab_k q.1) q.2))
theorem kp_of {L M : List (Nat × Int)} {h h' : ax_H} {n : Nat} (hm : kp_md L M = true) (hf : pb_f M n h h') (hn : 573 ≤ n) : kpt L h h' := by
  intro q hq
  have h1 := List.all_eq_true.mp hm q hq
  simp only [Bool.and_eq_true, Nat.blt_eq, decide_eq_true_eq, Bool.not_eq_true'] at h1
  exact hf q.1 (by omega) q.2 h1.2.1 h1.2.2
/-- a call ends with an int; some places stand -/
def pb_S (l : Launch) (G : ax_T) (mi : ax_MI) (as : List Value) (h : ax_H) (n : Nat) (M : List (Nat × Int)) : Prop := ∃ (x : Int32) (h' : ax_H) (n' : Nat), ab_M l G 40 mi as h n (some (.int x), h', n') ∧ ab_HT h' n' ∧ pb_f M n h h'
def pb_L (l : Launch) (G : ax_T) (mi : ax_MI) (as : List Value) (h : ax_H) (n : Nat) (M : List (Nat × Int)) : Prop := ∃ (x : Int64) (h' : ax_H) (n' : Nat), ab_M l G 40 mi as h n (some (.long x), h', n') ∧ ab_HT h' n' ∧ pb_f M n h h'
section PB
variable {l : Launch} {G : ax_T} {h : ax_H} {n : Nat} {Q : ab_Q} {mi : ax_MI} {Γ : List ab_Y} {vs : List ab_V} {V as : List Value}
theorem pb_go (hQ : ab_QOk l G mt_prog Q) (hmi : mt_prog[Q.1]? = some mi) (hd : Nat.ble Q.2.1 40 = true) (hp : Q.2.2.1 = (ab_args Γ 0 vs, [], Γ, [], [], [], 0, 0)) (hs : ab_stR V vs as) (hΓ : ab_ty n V Γ) (hl : Nat.ble (ax_sum as) mi.2.2.2.1 = true) (hH : ab_HT h n) :
    ∃ o, ab_M l G 40 mi as h n o ∧ ab_HT o.2.1 o.2.2 ∧ pb_f Q.2.2.2.1 n h o.2.1 ∧ ∃ P ∈ Q.2.2.2.2, ∃ V', ab_ty o.2.2 V' P.2.2.1 ∧ ab_stR V' P.2.1 o.1.toList := by
  have hg : ab_g (V, h, n, Q.2.2.2.1) Q.2.2.1 V (lv_args 0 as) [] h n 0 0 := by
    rw [hp]
    exact ⟨ab_args_ok hΓ 0 hs, trivial, hΓ, fun q hq => (nomatch hq), fun q hq => (nomatch hq), fun q hq => (nomatch hq), ⟨rfl, rfl⟩, ⟨hH, fun k _ i _ => rfl, Nat.le_refl _⟩, fun u v hu => hu⟩
  obtain ⟨o, hM, P, hP, V', c', s', hg'⟩ := hQ mi hmi 40 (by simpa [Nat.ble_eq] using hd) V as h n (by rw [ab_sl_sum]; simpa [Nat.ble_eq] using hl) hg
  obtain ⟨g1, g2, g3, g4, g5, g6, g7, g8, g9⟩ := hg'
  exact ⟨o, hM, g8.1, pb_f_of g8.2.1, P, hP, V', g3, g2⟩
theorem pb_i (hQ : ab_QOk l G mt_prog Q) (hmi : mt_prog[Q.1]? = some mi) (hd : Nat.ble Q.2.1 40 = true) (hp : Q.2.2.1 = (ab_args Γ 0 vs, [], Γ, [], [], [], 0, 0)) (hs : ab_stR V vs as) (hΓ : ab_ty n V Γ) (hl : Nat.ble (ax_sum as) mi.2.2.2.1 = true) (hpo : Q.2.2.2.2.all pb_int = true) (hH : ab_HT h n) : pb_S l G mi as h n Q.2.2.2.1 := by
  obtain ⟨⟨r, h', n'⟩, hM, k1, k2, P, hP, V', k3, k4⟩ := pb_go hQ hmi hd hp hs hΓ hl hH
  have hb := List.all_eq_true.mp hpo P hP
  unfold pb_int at hb
  split at hb
  · rename_i a ha
    rw [ha] at k4
    obtain ⟨q, hq⟩ := Option.isSome_iff_exists.mp hb
    cases r with
    | none => exact k4.elim
    | some v =>
      obtain ⟨x, e, -⟩ := ab_iv_ok k3 hq k4.1
      subst e
      exact ⟨x, h', n', hM, k1, k2⟩
  · cases hb
theorem pb_l (hQ : ab_QOk l G mt_prog Q) (hmi : mt_prog[Q.1]? = some mi) (hd : Nat.ble Q.2.1 40 = true) (hp : Q.2.2.1 = (ab_args Γ 0 vs, [], Γ, [], [], [], 0, 0)) (hs : ab_stR V vs as) (hΓ : ab_ty n V Γ) (hl : Nat.ble (ax_sum as) mi.2.2.2.1 = true) (hpo : Q.2.2.2.2.all pb_long = true) (hH : ab_HT h n) : pb_L l G mi as h n Q.2.2.2.1 := by
  obtain ⟨⟨r, h', n'⟩, hM, k1, k2, P, hP, V', k3, k4⟩ := pb_go hQ hmi hd hp hs hΓ hl hH
  have hb := List.all_eq_true.mp hpo P hP
  unfold pb_long at hb
  split at hb
  · rename_i a ha
    rw [ha] at k4
    split at hb
    · rename_i d hd'
      have e2 : d = 2 := by simpa [Nat.beq_eq] using hb
      subst e2
      cases r with
      | none => exact k4.elim
      | some v =>
        obtain ⟨x, e⟩ := ab_kd2 k3 k4.1 hd'
        subst e
        exact ⟨x, h', n', hM, k1, k2⟩
    · cases hb
  · cases hb
theorem pb_ty (n : Nat) : ∀ xs : List Int32, ab_ty n (xs.map Value.int) (xs.map fun _ => ab_top)
  | [] => ⟨rfl, fun u τ hu => by simp at hu⟩
  | x :: xs => by
    have ih := pb_ty n xs
    refine ⟨by simp, fun u τ hu => ?_⟩
    cases u with
    | zero =>
      simp only [List.map_cons, List.getElem?_cons_zero, Option.some.injEq] at hu
      subst hu
      exact ⟨.int x, rfl, ab_top_ok n x⟩
    | succ u =>
      simp only [List.map_cons, List.getElem?_cons_succ] at hu ⊢
      exact ih.2 u τ hu
theorem pb_X10_letters (H : ab_Hand l G) (hH : ab_HT h n) (w : Int64) : pb_S l G mt_X10_letters [.ref 0, .long w] h n cq_99.2.2.2.1 := pb_i (Q := cq_99) (Γ := [.inr none]) (vs := [av_k 0, av_s 0]) (V := [.long w]) (cy_222 H 99 cq_99 (by decide) rfl) mi_X10_letters rfl rfl ⟨rfl, rfl, trivial⟩ ⟨rfl, fun u τ hu => by cases u with | zero => (simp only [List.getElem?_cons_zero, Option.some.injEq] at hu; subst hu; exact ⟨.long w, rfl, w, rfl⟩) | succ u => simp at hu⟩ rfl rfl hH
theorem pb_X11_letters (H : ab_Hand l G) (hH : ab_HT h n) (w : Int64) : pb_S l G mt_X11_letters [.ref 542, .long w] h n cq_198.2.2.2.1 := pb_i (Q := cq_198) (Γ := [.inr none]) (vs := [av_k 542, av_s 0]) (V := [.long w]) (cy_222 H 198 cq_198 (by decide) rfl) mi_X11_letters rfl rfl ⟨rfl, rfl, trivial⟩ ⟨rfl, fun u τ hu => by cases u with | zero => (simp only [List.getElem?_cons_zero, Option.some.injEq] at hu; subst hu; exact ⟨.long w, rfl, w, rfl⟩) | succ u => simp at hu⟩ rfl rfl hH
theorem pb_X10_blank (H : ab_Hand l G) (hH : ab_HT h n)  : pb_S l G mt_X10_blank [.ref 0] h n cq_35.2.2.2.1 := pb_i (Q := cq_35) (Γ := []) (vs := [av_k 0]) (V := []) (cy_222 H 35 cq_35 (by decide) rfl) mi_X10_blank rfl rfl ⟨rfl, trivial⟩ (pb_ty n []) rfl rfl hH
theorem pb_X11_blank (H : ab_Hand l G) (hH : ab_HT h n)  : pb_S l G mt_X11_blank [.ref 542] h n cq_169.2.2.2.1 := pb_i (Q := cq_169) (Γ := []) (vs := [av_k 542]) (V := []) (cy_222 H 169 cq_169 (by decide) rfl) mi_X11_blank rfl rfl ⟨rfl, trivial⟩ (pb_ty n []) rfl rfl hH
theorem pb_X10_good (H : ab_Hand l G) (hH : ab_HT h n)  : pb_S l G mt_X10_good [.ref 0] h n cq_90.2.2.2.1 := pb_i (Q := cq_90) (Γ := []) (vs := [av_k 0]) (V := []) (cy_222 H 90 cq_90 (by decide) rfl) mi_X10_good rfl rfl ⟨rfl, trivial⟩ (pb_ty n []) rfl rfl hH
theorem pb_X11_good (H : ab_Hand l G) (hH : ab_HT h n)  : pb_S l G mt_X11_good [.ref 542] h n cq_183.2.2.2.1 := pb_i (Q := cq_183) (Γ := []) (vs := [av_k 542]) (V := []) (cy_222 H 183 cq_183 (by decide) rfl) mi_X11_good rfl rfl ⟨rfl, trivial⟩ (pb_ty n []) rfl rfl hH
theorem pb_X10_custom (H : ab_Hand l G) (hH : ab_HT h n)  : pb_S l G mt_X10_custom [.ref 0] h n cq_80.2.2.2.1 := pb_i (Q := cq_80) (Γ := []) (vs := [av_k 0]) (V := []) (cy_222 H 80 cq_80 (by decide) rfl) mi_X10_custom rfl rfl ⟨rfl, trivial⟩ (pb_ty n []) rfl rfl hH
theorem pb_X11_custom (H : ab_Hand l G) (hH : ab_HT h n)  : pb_S l G mt_X11_custom [.ref 542] h n cq_176.2.2.2.1 := pb_i (Q := cq_176) (Γ := []) (vs := [av_k 542]) (V := []) (cy_222 H 176 cq_176 (by decide) rfl) mi_X11_custom rfl rfl ⟨rfl, trivial⟩ (pb_ty n []) rfl rfl hH
theorem pb_X10_asks (H : ab_Hand l G) (hH : ab_HT h n) (a b c : Int32) : pb_S l G mt_X10_asks [.ref 0, .int a, .int b, .int c] h n cq_22.2.2.2.1 := pb_i (Q := cq_22) (Γ := [ab_top, ab_top, ab_top]) (vs := [av_k 0, av_s 0, av_s 1, av_s 2]) (V := [.int a, .int b, .int c]) (cy_222 H 22 cq_22 (by decide) rfl) mi_X10_asks rfl rfl ⟨rfl, rfl, rfl, rfl, trivial⟩ (pb_ty n [a, b, c]) rfl rfl hH
theorem pb_X11_asks (H : ab_Hand l G) (hH : ab_HT h n) (a b c : Int32) : pb_S l G mt_X11_asks [.ref 542, .int a, .int b, .int c] h n cq_164.2.2.2.1 := pb_i (Q := cq_164) (Γ := [ab_top, ab_top, ab_top]) (vs := [av_k 542, av_s 0, av_s 1, av_s 2]) (V := [.int a, .int b, .int c]) (cy_222 H 164 cq_164 (by decide) rfl) mi_X11_asks rfl rfl ⟨rfl, rfl, rfl, rfl, trivial⟩ (pb_ty n [a, b, c]) rfl rfl hH
theorem pb_X10_row (H : ab_Hand l G) (hH : ab_HT h n) (a : Int32) : pb_S l G mt_X10_row [.ref 0, .int a] h n cq_116.2.2.2.1 := pb_i (Q := cq_116) (Γ := [ab_top]) (vs := [av_k 0, av_s 0]) (V := [.int a]) (cy_222 H 116 cq_116 (by decide) rfl) mi_X10_row rfl rfl ⟨rfl, rfl, trivial⟩ (pb_ty n [a]) rfl rfl hH
theorem pb_X11_row (H : ab_Hand l G) (hH : ab_HT h n) (a : Int32) : pb_S l G mt_X11_row [.ref 542, .int a] h n cq_205.2.2.2.1 := pb_i (Q := cq_205) (Γ := [ab_top]) (vs := [av_k 542, av_s 0]) (V := [.int a]) (cy_222 H 205 cq_205 (by decide) rfl) mi_X11_row rfl rfl ⟨rfl, rfl, trivial⟩ (pb_ty n [a]) rfl rfl hH
theorem pb_X10_sign (H : ab_Hand l G) (hH : ab_HT h n) (a b : Int32) : pb_S l G mt_X10_sign [.ref 0, .int a, .int b] h n cq_119.2.2.2.1 := pb_i (Q := cq_119) (Γ := [ab_top, ab_top]) (vs := [av_k 0, av_s 0, av_s 1]) (V := [.int a, .int b]) (cy_222 H 119 cq_119 (by decide) rfl) mi_X10_sign rfl rfl ⟨rfl, rfl, rfl, trivial⟩ (pb_ty n [a, b]) rfl rfl hH
theorem pb_X11_sign (H : ab_Hand l G) (hH : ab_HT h n) (a b : Int32) : pb_S l G mt_X11_sign [.ref 542, .int a, .int b] h n cq_209.2.2.2.1 := pb_i (Q := cq_209) (Γ := [ab_top, ab_top]) (vs := [av_k 542, av_s 0, av_s 1]) (V := [.int a, .int b]) (cy_222 H 209 cq_209 (by decide) rfl) mi_X11_sign rfl rfl ⟨rfl, rfl, rfl, trivial⟩ (pb_ty n [a, b]) rfl rfl hH
theorem pb_X10_worth (H : ab_Hand l G) (hH : ab_HT h n) (a : Int32) : pb_S l G mt_X10_worth [.ref 0, .int a] h n cq_147.2.2.2.1 := pb_i (Q := cq_147) (Γ := [ab_top]) (vs := [av_k 0, av_s 0]) (V := [.int a]) (cy_222 H 147 cq_147 (by decide) rfl) mi_X10_worth rfl rfl ⟨rfl, rfl, trivial⟩ (pb_ty n [a]) rfl rfl hH
theorem pb_X11_worth (H : ab_Hand l G) (hH : ab_HT h n) (a : Int32) : pb_S l G mt_X11_worth [.ref 542, .int a] h n cq_219.2.2.2.1 := pb_i (Q := cq_219) (Γ := [ab_top]) (vs := [av_k 542, av_s 0]) (V := [.int a]) (cy_222 H 219 cq_219 (by decide) rfl) mi_X11_worth rfl rfl ⟨rfl, rfl, trivial⟩ (pb_ty n [a]) rfl rfl hH
theorem pb_X10_keeps (H : ab_Hand l G) (hH : ab_HT h n) (a b : Int32) : pb_S l G mt_X10_keeps [.ref 0, .int a, .int b] h n cq_95.2.2.2.1 := pb_i (Q := cq_95) (Γ := [ab_top, ab_top]) (vs := [av_k 0, av_s 0, av_s 1]) (V := [.int a, .int b]) (cy_222 H 95 cq_95 (by decide) rfl) mi_X10_keeps rfl rfl ⟨rfl, rfl, rfl, trivial⟩ (pb_ty n [a, b]) rfl rfl hH
theorem pb_X11_keeps (H : ab_Hand l G) (hH : ab_HT h n) (a b : Int32) : pb_S l G mt_X11_keeps [.ref 542, .int a, .int b] h n cq_196.2.2.2.1 := pb_i (Q := cq_196) (Γ := [ab_top, ab_top]) (vs := [av_k 542, av_s 0, av_s 1]) (V := [.int a, .int b]) (cy_222 H 196 cq_196 (by decide) rfl) mi_X11_keeps rfl rfl ⟨rfl, rfl, rfl, trivial⟩ (pb_ty n [a, b]) rfl rfl hH
theorem pb_X10_begins (H : ab_Hand l G) (hH : ab_HT h n) (a b : Int32) : pb_S l G mt_X10_begins [.ref 0, .int a, .int b] h n cq_34.2.2.2.1 := pb_i (Q := cq_34) (Γ := [ab_top, ab_top]) (vs := [av_k 0, av_s 0, av_s 1]) (V := [.int a, .int b]) (cy_222 H 34 cq_34 (by decide) rfl) mi_X10_begins rfl rfl ⟨rfl, rfl, rfl, trivial⟩ (pb_ty n [a, b]) rfl rfl hH
theorem pb_X11_begins (H : ab_Hand l G) (hH : ab_HT h n) (a b : Int32) : pb_S l G mt_X11_begins [.ref 542, .int a, .int b] h n cq_168.2.2.2.1 := pb_i (Q := cq_168) (Γ := [ab_top, ab_top]) (vs := [av_k 542, av_s 0, av_s 1]) (V := [.int a, .int b]) (cy_222 H 168 cq_168 (by decide) rfl) mi_X11_begins rfl rfl ⟨rfl, rfl, rfl, trivial⟩ (pb_ty n [a, b]) rfl rfl hH
theorem pb_X10_ways (H : ab_Hand l G) (hH : ab_HT h n) (a b : Int32) : pb_S l G mt_X10_ways [.ref 0, .int a, .int b] h n cq_146.2.2.2.1 := pb_i (Q := cq_146) (Γ := [ab_top, ab_top]) (vs := [av_k 0, av_s 0, av_s 1]) (V := [.int a, .int b]) (cy_222 H 146 cq_146 (by decide) rfl) mi_X10_ways rfl rfl ⟨rfl, rfl, rfl, trivial⟩ (pb_ty n [a, b]) rfl rfl hH
theorem pb_X11_ways (H : ab_Hand l G) (hH : ab_HT h n) (a b : Int32) : pb_S l G mt_X11_ways [.ref 542, .int a, .int b] h n cq_217.2.2.2.1 := pb_i (Q := cq_217) (Γ := [ab_top, ab_top]) (vs := [av_k 542, av_s 0, av_s 1]) (V := [.int a, .int b]) (cy_222 H 217 cq_217 (by decide) rfl) mi_X11_ways rfl rfl ⟨rfl, rfl, rfl, trivial⟩ (pb_ty n [a, b]) rfl rfl hH
theorem pb_X10_write (H : ab_Hand l G) (hH : ab_HT h n) (a b c d : Int32) : pb_S l G mt_X10_write [.ref 0, .int a, .int b, .int c, .int d] h n cq_158.2.2.2.1 := pb_i (Q := cq_158) (Γ := [ab_top, ab_top, ab_top, ab_top]) (vs := [av_k 0, av_s 0, av_s 1, av_s 2, av_s 3]) (V := [.int a, .int b, .int c, .int d]) (cy_222 H 158 cq_158 (by decide) rfl) mi_X10_write rfl rfl ⟨rfl, rfl, rfl, rfl, rfl, trivial⟩ (pb_ty n [a, b, c, d]) rfl rfl hH
theorem pb_X11_write (H : ab_Hand l G) (hH : ab_HT h n) (a b c d : Int32) : pb_S l G mt_X11_write [.ref 542, .int a, .int b, .int c, .int d] h n cq_220.2.2.2.1 := pb_i (Q := cq_220) (Γ := [ab_top, ab_top, ab_top, ab_top]) (vs := [av_k 542, av_s 0, av_s 1, av_s 2, av_s 3]) (V := [.int a, .int b, .int c, .int d]) (cy_222 H 220 cq_220 (by decide) rfl) mi_X11_write rfl rfl ⟨rfl, rfl, rfl, rfl, rfl, trivial⟩ (pb_ty n [a, b, c, d]) rfl rfl hH
theorem pb_X10_board (H : ab_Hand l G) (hH : ab_HT h n) (a b : Int32) : pb_S l G mt_X10_board [.ref 0, .int a, .int b] h n cq_36.2.2.2.1 := pb_i (Q := cq_36) (Γ := [ab_top, ab_top]) (vs := [av_k 0, av_s 0, av_s 1]) (V := [.int a, .int b]) (cy_222 H 36 cq_36 (by decide) rfl) mi_X10_board rfl rfl ⟨rfl, rfl, rfl, trivial⟩ (pb_ty n [a, b]) rfl rfl hH
theorem pb_X11_board (H : ab_Hand l G) (hH : ab_HT h n) (a b : Int32) : pb_S l G mt_X11_board [.ref 542, .int a, .int b] h n cq_170.2.2.2.1 := pb_i (Q := cq_170) (Γ := [ab_top, ab_top]) (vs := [av_k 542, av_s 0, av_s 1]) (V := [.int a, .int b]) (cy_222 H 170 cq_170 (by decide) rfl) mi_X11_board rfl rfl ⟨rfl, rfl, rfl, trivial⟩ (pb_ty n [a, b]) rfl rfl hH
theorem pb_X10_pour (H : ab_Hand l G) (hH : ab_HT h n) (a : Int32) {z : Int32} (hz : z = 0 ∨ z = 1) : pb_S l G mt_X10_pour [.ref 0, .int a, .int z] h n cq_112.2.2.2.1 := pb_i (Q := cq_112) (Γ := [ab_top, .inl (0, 1, 0)]) (vs := [av_k 0, av_s 0, av_s 1]) (V := [.int a, .int z]) (cy_222 H 112 cq_112 (by decide) rfl) mi_X10_pour rfl rfl ⟨rfl, rfl, rfl, trivial⟩ (by rcases hz with rfl | rfl <;> exact ab_ty_two (V := [.int a]) (pb_ty n [a]) ⟨rfl, fun u τ hu => by cases u with | zero => (simp only [List.getElem?_cons_zero, Option.some.injEq] at hu; subst hu; exact ⟨_, rfl, _, rfl, by decide, by decide, trivial⟩) | succ u => simp at hu⟩) rfl rfl hH
theorem pb_X10_bundle (H : ab_Hand l G) (hH : ab_HT h n) (a : Int32) : pb_S l G mt_X10_bundle [.ref 0, .int a] h n cq_37.2.2.2.1 := pb_i (Q := cq_37) (Γ := [ab_top]) (vs := [av_k 0, av_s 0]) (V := [.int a]) (cy_222 H 37 cq_37 (by decide) rfl) mi_X10_bundle rfl rfl ⟨rfl, rfl, trivial⟩ (pb_ty n [a]) rfl rfl hH
theorem pb_X11_bundle (H : ab_Hand l G) (hH : ab_HT h n) (a : Int32) : pb_S l G mt_X11_bundle [.ref 542, .int a] h n cq_171.2.2.2.1 := pb_i (Q := cq_171) (Γ := [ab_top]) (vs := [av_k 542, av_s 0]) (V := [.int a]) (cy_222 H 171 cq_171 (by decide) rfl) mi_X11_bundle rfl rfl ⟨rfl, rfl, trivial⟩ (pb_ty n [a]) rfl rfl hH
theorem pb_X10_unbundle (H : ab_Hand l G) (hH : ab_HT h n) (a : Int32) : pb_S l G mt_X10_unbundle [.ref 0, .int a] h n cq_134.2.2.2.1 := pb_i (Q := cq_134) (Γ := [ab_top]) (vs := [av_k 0, av_s 0]) (V := [.int a]) (cy_222 H 134 cq_134 (by decide) rfl) mi_X10_unbundle rfl rfl ⟨rfl, rfl, trivial⟩ (pb_ty n [a]) rfl rfl hH
theorem pb_X11_unbundle (H : ab_Hand l G) (hH : ab_HT h n) (a : Int32) : pb_S l G mt_X11_unbundle [.ref 542, .int a] h n cq_216.2.2.2.1 := pb_i (Q := cq_216) (Γ := [ab_top]) (vs := [av_k 542, av_s 0]) (V := [.int a]) (cy_222 H 216 cq_216 (by decide) rfl) mi_X11_unbundle rfl rfl ⟨rfl, rfl, trivial⟩ (pb_ty n [a]) rfl rfl hH
theorem pb_X10_settle (H : ab_Hand l G) (hH : ab_HT h n)  : pb_S l G mt_X10_settle [.ref 0] h n cq_118.2.2.2.1 := pb_i (Q := cq_118) (Γ := []) (vs := [av_k 0]) (V := []) (cy_222 H 118 cq_118 (by decide) rfl) mi_X10_settle rfl rfl ⟨rfl, trivial⟩ (pb_ty n []) rfl rfl hH
theorem pb_X11_settle (H : ab_Hand l G) (hH : ab_HT h n)  : pb_S l G mt_X11_settle [.ref 542] h n cq_208.2.2.2.1 := pb_i (Q := cq_208) (Γ := []) (vs := [av_k 542]) (V := []) (cy_222 H 208 cq_208 (by decide) rfl) mi_X11_settle rfl rfl ⟨rfl, trivial⟩ (pb_ty n []) rfl rfl hH
theorem pb_X10_step (H : ab_Hand l G) (hH : ab_HT h n) (a : Int32) : pb_S l G mt_X10_step [.ref 0, .int a] h n cq_128.2.2.2.1 := pb_i (Q := cq_128) (Γ := [ab_top]) (vs := [av_k 0, av_s 0]) (V := [.int a]) (cy_222 H 128 cq_128 (by decide) rfl) mi_X10_step rfl rfl ⟨rfl, rfl, trivial⟩ (pb_ty n [a]) rfl rfl hH
theorem pb_X11_step (H : ab_Hand l G) (hH : ab_HT h n) (a : Int32) : pb_S l G mt_X11_step [.ref 542, .int a] h n cq_211.2.2.2.1 := pb_i (Q := cq_211) (Γ := [ab_top]) (vs := [av_k 542, av_s 0]) (V := [.int a]) (cy_222 H 211 cq_211 (by decide) rfl) mi_X11_step rfl rfl ⟨rfl, rfl, trivial⟩ (pb_ty n [a]) rfl rfl hH
theorem pb_X10_holds (H : ab_Hand l G) (hH : ab_HT h n)  : pb_S l G mt_X10_holds [.ref 0] h n cq_94.2.2.2.1 := pb_i (Q := cq_94) (Γ := []) (vs := [av_k 0]) (V := []) (cy_222 H 94 cq_94 (by decide) rfl) mi_X10_holds rfl rfl ⟨rfl, trivial⟩ (pb_ty n []) rfl rfl hH
theorem pb_X11_holds (H : ab_Hand l G) (hH : ab_HT h n)  : pb_S l G mt_X11_holds [.ref 542] h n cq_186.2.2.2.1 := pb_i (Q := cq_186) (Γ := []) (vs := [av_k 542]) (V := []) (cy_222 H 186 cq_186 (by decide) rfl) mi_X11_holds rfl rfl ⟨rfl, trivial⟩ (pb_ty n []) rfl rfl hH
theorem pb_X10_lift (H : ab_Hand l G) (hH : ab_HT h n) (a : Int32) : pb_S l G mt_X10_lift [.ref 0, .int a] h n cq_100.2.2.2.1 := pb_i (Q := cq_100) (Γ := [ab_top]) (vs := [av_k 0, av_s 0]) (V := [.int a]) (cy_222 H 100 cq_100 (by decide) rfl) mi_X10_lift rfl rfl ⟨rfl, rfl, trivial⟩ (pb_ty n [a]) rfl rfl hH
theorem pb_X10_sweep (H : ab_Hand l G) (hH : ab_HT h n)  : pb_S l G mt_X10_sweep [.ref 0] h n cq_130.2.2.2.1 := pb_i (Q := cq_130) (Γ := []) (vs := [av_k 0]) (V := []) (cy_222 H 130 cq_130 (by decide) rfl) mi_X10_sweep rfl rfl ⟨rfl, trivial⟩ (pb_ty n []) rfl rfl hH
theorem pb_X11_sweep (H : ab_Hand l G) (hH : ab_HT h n)  : pb_S l G mt_X11_sweep [.ref 542] h n cq_213.2.2.2.1 := pb_i (Q := cq_213) (Γ := []) (vs := [av_k 542]) (V := []) (cy_222 H 213 cq_213 (by decide) rfl) mi_X11_sweep rfl rfl ⟨rfl, trivial⟩ (pb_ty n []) rfl rfl hH
theorem pb_X10_parts (H : ab_Hand l G) (hH : ab_HT h n) (a b c : Int32) : pb_S l G mt_X10_parts [.ref 0, .int a, .int b, .int c] h n cq_111.2.2.2.1 := pb_i (Q := cq_111) (Γ := [ab_top, ab_top, ab_top]) (vs := [av_k 0, av_s 0, av_s 1, av_s 2]) (V := [.int a, .int b, .int c]) (cy_222 H 111 cq_111 (by decide) rfl) mi_X10_parts rfl rfl ⟨rfl, rfl, rfl, rfl, trivial⟩ (pb_ty n [a, b, c]) rfl rfl hH
theorem pb_X11_parts (H : ab_Hand l G) (hH : ab_HT h n) (a b c : Int32) : pb_S l G mt_X11_parts [.ref 542, .int a, .int b, .int c] h n cq_204.2.2.2.1 := pb_i (Q := cq_204) (Γ := [ab_top, ab_top, ab_top]) (vs := [av_k 542, av_s 0, av_s 1, av_s 2]) (V := [.int a, .int b, .int c]) (cy_222 H 204 cq_204 (by decide) rfl) mi_X11_parts rfl rfl ⟨rfl, rfl, rfl, rfl, trivial⟩ (pb_ty n [a, b, c]) rfl rfl hH
theorem pb_X11_could (H : ab_Hand l G) (hH : ab_HT h n) (a : Int32) : pb_S l G mt_X11_could [.ref 542, .int a] h n cq_172.2.2.2.1 := pb_i (Q := cq_172) (Γ := [ab_top]) (vs := [av_k 542, av_s 0]) (V := [.int a]) (cy_222 H 172 cq_172 (by decide) rfl) mi_X11_could rfl rfl ⟨rfl, rfl, trivial⟩ (pb_ty n [a]) rfl rfl hH
theorem pb_X11_says (H : ab_Hand l G) (hH : ab_HT h n) (a b : Int32) : pb_S l G mt_X11_says [.ref 542, .int a, .int b] h n cq_206.2.2.2.1 := pb_i (Q := cq_206) (Γ := [ab_top, ab_top]) (vs := [av_k 542, av_s 0, av_s 1]) (V := [.int a, .int b]) (cy_222 H 206 cq_206 (by decide) rfl) mi_X11_says rfl rfl ⟨rfl, rfl, rfl, trivial⟩ (pb_ty n [a, b]) rfl rfl hH
theorem pb_X11_sure (H : ab_Hand l G) (hH : ab_HT h n) (a b : Int32) : pb_S l G mt_X11_sure [.ref 542, .int a, .int b] h n cq_212.2.2.2.1 := pb_i (Q := cq_212) (Γ := [ab_top, ab_top]) (vs := [av_k 542, av_s 0, av_s 1]) (V := [.int a, .int b]) (cy_222 H 212 cq_212 (by decide) rfl) mi_X11_sure rfl rfl ⟨rfl, rfl, rfl, trivial⟩ (pb_ty n [a, b]) rfl rfl hH
theorem pb_X10_note (H : ab_Hand l G) (hH : ab_HT h n) (a b : Int32) : pb_S l G mt_X10_note [.ref 0, .int a, .int b] h n cq_110.2.2.2.1 := pb_i (Q := cq_110) (Γ := [ab_top, ab_top]) (vs := [av_k 0, av_s 0, av_s 1]) (V := [.int a, .int b]) (cy_222 H 110 cq_110 (by decide) rfl) mi_X10_note rfl rfl ⟨rfl, rfl, rfl, trivial⟩ (pb_ty n [a, b]) rfl rfl hH
theorem pb_X11_note (H : ab_Hand l G) (hH : ab_HT h n) (a b : Int32) : pb_S l G mt_X11_note [.ref 542, .int a, .int b] h n cq_202.2.2.2.1 := pb_i (Q := cq_202) (Γ := [ab_top, ab_top]) (vs := [av_k 542, av_s 0, av_s 1]) (V := [.int a, .int b]) (cy_222 H 202 cq_202 (by decide) rfl) mi_X11_note rfl rfl ⟨rfl, rfl, rfl, trivial⟩ (pb_ty n [a, b]) rfl rfl hH
theorem pb_X10_habit (H : ab_Hand l G) (hH : ab_HT h n) (a : Int32) : pb_S l G mt_X10_habit [.ref 0, .int a] h n cq_91.2.2.2.1 := pb_i (Q := cq_91) (Γ := [ab_top]) (vs := [av_k 0, av_s 0]) (V := [.int a]) (cy_222 H 91 cq_91 (by decide) rfl) mi_X10_habit rfl rfl ⟨rfl, rfl, trivial⟩ (pb_ty n [a]) rfl rfl hH
theorem pb_X11_habit (H : ab_Hand l G) (hH : ab_HT h n) (a : Int32) : pb_S l G mt_X11_habit [.ref 542, .int a] h n cq_184.2.2.2.1 := pb_i (Q := cq_184) (Γ := [ab_top]) (vs := [av_k 542, av_s 0]) (V := [.int a]) (cy_222 H 184 cq_184 (by decide) rfl) mi_X11_habit rfl rfl ⟨rfl, rfl, trivial⟩ (pb_ty n [a]) rfl rfl hH
theorem pb_X10_hands (H : ab_Hand l G) (hH : ab_HT h n) (a : Int32) : pb_S l G mt_X10_hands [.ref 0, .int a] h n cq_93.2.2.2.1 := pb_i (Q := cq_93) (Γ := [ab_top]) (vs := [av_k 0, av_s 0]) (V := [.int a]) (cy_222 H 93 cq_93 (by decide) rfl) mi_X10_hands rfl rfl ⟨rfl, rfl, trivial⟩ (pb_ty n [a]) rfl rfl hH
theorem pb_X11_hands (H : ab_Hand l G) (hH : ab_HT h n) (a : Int32) : pb_S l G mt_X11_hands [.ref 542, .int a] h n cq_185.2.2.2.1 := pb_i (Q := cq_185) (Γ := [ab_top]) (vs := [av_k 542, av_s 0]) (V := [.int a]) (cy_222 H 185 cq_185 (by decide) rfl) mi_X11_hands rfl rfl ⟨rfl, rfl, trivial⟩ (pb_ty n [a]) rfl rfl hH
theorem pb_X10_line (H : ab_Hand l G) (hH : ab_HT h n) (a b : Int32) : pb_S l G mt_X10_line [.ref 0, .int a, .int b] h n cq_103.2.2.2.1 := pb_i (Q := cq_103) (Γ := [ab_top, ab_top]) (vs := [av_k 0, av_s 0, av_s 1]) (V := [.int a, .int b]) (cy_222 H 103 cq_103 (by decide) rfl) mi_X10_line rfl rfl ⟨rfl, rfl, rfl, trivial⟩ (pb_ty n [a, b]) rfl rfl hH
theorem pb_X11_line (H : ab_Hand l G) (hH : ab_HT h n) (a b : Int32) : pb_S l G mt_X11_line [.ref 542, .int a, .int b] h n cq_199.2.2.2.1 := pb_i (Q := cq_199) (Γ := [ab_top, ab_top]) (vs := [av_k 542, av_s 0, av_s 1]) (V := [.int a, .int b]) (cy_222 H 199 cq_199 (by decide) rfl) mi_X11_line rfl rfl ⟨rfl, rfl, rfl, trivial⟩ (pb_ty n [a, b]) rfl rfl hH
theorem pb_X10_tear (H : ab_Hand l G) (hH : ab_HT h n)  : pb_S l G mt_X10_tear [.ref 0] h n cq_132.2.2.2.1 := pb_i (Q := cq_132) (Γ := []) (vs := [av_k 0]) (V := []) (cy_222 H 132 cq_132 (by decide) rfl) mi_X10_tear rfl rfl ⟨rfl, trivial⟩ (pb_ty n []) rfl rfl hH
theorem pb_X11_tear (H : ab_Hand l G) (hH : ab_HT h n)  : pb_S l G mt_X11_tear [.ref 542] h n cq_214.2.2.2.1 := pb_i (Q := cq_214) (Γ := []) (vs := [av_k 542]) (V := []) (cy_222 H 214 cq_214 (by decide) rfl) mi_X11_tear rfl rfl ⟨rfl, trivial⟩ (pb_ty n []) rfl rfl hH
theorem pb_X10_wrong (H : ab_Hand l G) (hH : ab_HT h n)  : pb_S l G mt_X10_wrong [.ref 0] h n cq_159.2.2.2.1 := pb_i (Q := cq_159) (Γ := []) (vs := [av_k 0]) (V := []) (cy_222 H 159 cq_159 (by decide) rfl) mi_X10_wrong rfl rfl ⟨rfl, trivial⟩ (pb_ty n []) rfl rfl hH
theorem pb_X11_wrong (H : ab_Hand l G) (hH : ab_HT h n)  : pb_S l G mt_X11_wrong [.ref 542] h n cq_221.2.2.2.1 := pb_i (Q := cq_221) (Γ := []) (vs := [av_k 542]) (V := []) (cy_222 H 221 cq_221 (by decide) rfl) mi_X11_wrong rfl rfl ⟨rfl, trivial⟩ (pb_ty n []) rfl rfl hH
theorem pb_X10_mended (H : ab_Hand l G) (hH : ab_HT h n)  : pb_S l G mt_X10_mended [.ref 0] h n cq_108.2.2.2.1 := pb_i (Q := cq_108) (Γ := []) (vs := [av_k 0]) (V := []) (cy_222 H 108 cq_108 (by decide) rfl) mi_X10_mended rfl rfl ⟨rfl, trivial⟩ (pb_ty n []) rfl rfl hH
theorem pb_X11_mended (H : ab_Hand l G) (hH : ab_HT h n)  : pb_S l G mt_X11_mended [.ref 542] h n cq_201.2.2.2.1 := pb_i (Q := cq_201) (Γ := []) (vs := [av_k 542]) (V := []) (cy_222 H 201 cq_201 (by decide) rfl) mi_X11_mended rfl rfl ⟨rfl, trivial⟩ (pb_ty n []) rfl rfl hH
theorem pb_X10_slip (H : ab_Hand l G) (hH : ab_HT h n) (a : Int32) : pb_S l G mt_X10_slip [.ref 0, .int a] h n cq_127.2.2.2.1 := pb_i (Q := cq_127) (Γ := [ab_top]) (vs := [av_k 0, av_s 0]) (V := [.int a]) (cy_222 H 127 cq_127 (by decide) rfl) mi_X10_slip rfl rfl ⟨rfl, rfl, trivial⟩ (pb_ty n [a]) rfl rfl hH
theorem pb_X11_slip (H : ab_Hand l G) (hH : ab_HT h n) (a : Int32) : pb_S l G mt_X11_slip [.ref 542, .int a] h n cq_210.2.2.2.1 := pb_i (Q := cq_210) (Γ := [ab_top]) (vs := [av_k 542, av_s 0]) (V := [.int a]) (cy_222 H 210 cq_210 (by decide) rfl) mi_X11_slip rfl rfl ⟨rfl, rfl, trivial⟩ (pb_ty n [a]) rfl rfl hH
theorem pb_X10_count (H : ab_Hand l G) (hH : ab_HT h n) (a : Int32) : pb_S l G mt_X10_count [.ref 0, .int a] h n cq_68.2.2.2.1 := pb_i (Q := cq_68) (Γ := [ab_top]) (vs := [av_k 0, av_s 0]) (V := [.int a]) (cy_222 H 68 cq_68 (by decide) rfl) mi_X10_count rfl rfl ⟨rfl, rfl, trivial⟩ (pb_ty n [a]) rfl rfl hH
theorem pb_X11_count (H : ab_Hand l G) (hH : ab_HT h n) (a : Int32) : pb_S l G mt_X11_count [.ref 542, .int a] h n cq_173.2.2.2.1 := pb_i (Q := cq_173) (Γ := [ab_top]) (vs := [av_k 542, av_s 0]) (V := [.int a]) (cy_222 H 173 cq_173 (by decide) rfl) mi_X11_count rfl rfl ⟨rfl, rfl, trivial⟩ (pb_ty n [a]) rfl rfl hH
theorem pb_X10_digest (H : ab_Hand l G) (hH : ab_HT h n)  : pb_L l G mt_X10_digest [.ref 0] h n cq_87.2.2.2.1 := pb_l (Q := cq_87) (Γ := []) (vs := [av_k 0]) (V := []) (cy_222 H 87 cq_87 (by decide) rfl) mi_X10_digest rfl rfl ⟨rfl, trivial⟩ (pb_ty n []) rfl rfl hH
theorem pb_X11_digest (H : ab_Hand l G) (hH : ab_HT h n)  : pb_L l G mt_X11_digest [.ref 542] h n cq_181.2.2.2.1 := pb_l (Q := cq_181) (Γ := []) (vs := [av_k 542]) (V := []) (cy_222 H 181 cq_181 (by decide) rfl) mi_X11_digest rfl rfl ⟨rfl, trivial⟩ (pb_ty n []) rfl rfl hH
end PB

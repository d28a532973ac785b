/-! ===== could, says, sure of the class: without costs, or counted (printed by wip/safe/mkpub3.py) ===== -/
section PT
variable {l : Launch} {G : ax_T} {h : ax_H} {n : Nat} {Q : ab_Q} {mi : ax_MI} {Γ : List ab_Y} {vs : List ab_V} {V as : List Value} {prog : List ax_MI} {C : List (Nat × Nat × Int)} {F : List (ab_V × ab_V × ab_V)}
theorem pt_go (hQ : ab_QOk l G prog Q) (hmi : prog[Q.1]? = some mi) (hd : Nat.ble Q.2.1 40 = true) (hp : Q.2.2.1 = (ab_args Γ 0 vs, [], Γ, C, F, [], 0, 0)) (hs : ab_stR V vs as) (hΓ : ab_ty n V Γ) (hC : ab_co V C) (hF : ab_ca V h F) (hl : Nat.ble (ax_sum as) mi.2.2.2.1 = true) (hpo : Q.2.2.2.2.all pb_int = true) (hH : ab_HT h n) :
    ∃ (x : Int32) (h' : ax_H) (n' : Nat), ab_M l G 40 mi as h n (some (.int x), h', n') ∧ ab_HT h' n' ∧ ab_fr Q.2.2.2.1 n h h' ∧ ∃ P ∈ Q.2.2.2.2, ∃ V', ab_co V' P.2.2.2.1 ∧ ab_ca V' h' P.2.2.2.2.1 ∧ ab_ty n' V' P.2.2.1 ∧ ∀ (u : Nat) (v : Value), V[u]? = some v → V'[u]? = some v := by
  have hg : ab_g (V, h, n, Q.2.2.2.1) Q.2.2.1 V (lv_args 0 as) [] h n 0 0 := by
    rw [hp]
    exact ⟨ab_args_ok hΓ 0 hs, trivial, hΓ, hC, hF, fun q hq => (nomatch hq), ⟨rfl, rfl⟩, ⟨hH, fun k _ i _ => rfl, Nat.le_refl _⟩, fun u v hu => hu⟩
  obtain ⟨⟨r, h', n'⟩, hM, P, hP, V', c', s', hg'⟩ := hQ mi hmi 40 (by simpa [Nat.ble_eq] using hd) V as h n (by rw [ab_sl_sum]; simpa [Nat.ble_eq] using hl) hg
  obtain ⟨g1, g2, g3, g4, g5, g6, g7, g8, g9⟩ := hg'
  have hb := List.all_eq_true.mp hpo P hP
  unfold pb_int at hb
  split at hb
  · rename_i a ha
    rw [ha] at g2
    obtain ⟨q, hq⟩ := Option.isSome_iff_exists.mp hb
    cases r with
    | none => exact g2.elim
    | some v =>
      obtain ⟨x, e, -⟩ := ab_iv_ok g3 hq g2.1
      subst e
      exact ⟨x, h', n', hM, g8.1, g8.2.1, P, hP, V', g4, g5, g3, g9⟩
  · cases hb
/-- a field that holds an int -/
theorem fl_rd (hH : ab_HT h n) {k ci j : Nat} {lo hi : Int} (hk : k < 573) (hc : ab_fck (2 ^ ab_k k) ci j (.inl (lo, hi, 0)) = true) : ∃ x : Int32, ab_rd h k j = some (.int x) ∧ lo ≤ x.toInt ∧ x.toInt ≤ hi := by
  obtain ⟨fs, v, h1, h2, x, rfl, h3, h4, -⟩ := ab_fck_ok hH (M := 2 ^ ab_k k) (k := k) (by simp) (by have := hH.1; omega) hc
  refine ⟨x, ?_, h3, h4⟩
  unfold ab_rd
  rw [h1]
  have : decide ((j : Int) < 0) = false := by simp
  simp only [this, cond_false]
  rw [Int.toNat_natCast]
  exact h2
/-- of the class's could, says, sure: no stone is read, and it costs nothing; or one is -/
def pb_3 (l : Launch) (G : ax_T) (mi : ax_MI) (as : List Value) (h : ax_H) (n : Nat) (M : List (Nat × Int)) : Prop := pb_S l G (zz mi) as h n [] ∨ ∃ (x : Int32) (h' : ax_H) (n' : Nat), ab_M l G 40 mi as h n (some (.int x), h', n') ∧ ab_HT h' n' ∧ pb_f M n h h' ∧ ab_ri h 0 10 + 1 ≤ ab_ri h' 0 10
theorem pt_z {i : Nat} (hi : z_cs[i]? = some Q) (hmi : z_prog[Q.1]? = some mi) (hd : Nat.ble Q.2.1 40 = true) (hp : Q.2.2.1 = (ab_args Γ 0 vs, [], Γ, C, F, [], 0, 0)) (hs : ab_stR V vs as) (hΓ : ab_ty n V Γ) (hC : ab_co V C) (hF : ab_ca V h F) (hl : Nat.ble (ax_sum as) mi.2.2.2.1 = true) (hpo : Q.2.2.2.2.all pb_int = true) (hi16 : i < 16) (hH : ab_HT h n) : pb_S l G mi as h n Q.2.2.2.1 := by
  obtain ⟨x, h', n', hM, k1, k2, -⟩ := pt_go (zy_16 i Q hi16 hi) hmi hd hp hs hΓ hC hF hl hpo hH
  exact ⟨x, h', n', hM, k1, pb_f_of k2⟩
theorem pt_two {x : Int32} {lo hi : Int} (h1 : lo ≤ x.toInt) (h2 : x.toInt ≤ hi) {V : List Value} {Γ : List ab_Y} (hV : ab_ty n V Γ) : ab_ty n (V ++ [.int x]) (Γ ++ [.inl (lo, hi, 0)]) := ab_ty_app hV ⟨x, rfl, h1, h2, trivial⟩
theorem pt_one {x : Int32} {lo hi : Int} (h1 : lo ≤ x.toInt) (h2 : x.toInt ≤ hi) : ab_ty n [.int x] [.inl (lo, hi, 0)] := by
  have := ab_ty_app (n := n) (V := []) (Γ := []) (w := .int x) (τ := .inl (lo, hi, 0)) ⟨rfl, fun u τ hu => by simp at hu⟩ ⟨x, rfl, h1, h2, trivial⟩
  exact this
theorem pt_min (x : Int32) : -2147483648 ≤ x.toInt ∧ x.toInt ≤ 2147483647 := by
  have h1 := x.le_toInt
  have h2 := x.toInt_lt
  omega
theorem pb_X10_could (H : ab_Hand l G) (hH : ab_HT h n) (a : Int32) : pb_3 l G mt_X10_could [.ref 0, .int a] h n yq_1.2.2.2.1 := by
  obtain ⟨c8, r8, l8, u8⟩ := fl_rd hH (k := 0) (ci := 10) (j := 8) (lo := 0) (hi := 6) (by decide) (by decide +kernel)
  obtain ⟨c10, r10, l10, u10⟩ := fl_rd hH (k := 0) (ci := 10) (j := 10) (lo := 0) (hi := 30) (by decide) (by decide +kernel)
  obtain ⟨c1, r1, l1, u1⟩ := fl_rd hH (k := 28) (ci := 7) (j := 1) (lo := 0) (hi := 20) (by decide) (by decide +kernel)
  have ma := pt_min a
  by_cases e1 : a.toInt ≤ -1
  · exact Or.inl (pt_z (Q := zq_4) (i := 4) (Γ := [.inl ((-2147483648), (-1), 0)]) (vs := [av_k 0, av_s 0]) (V := [.int a]) (C := []) (F := []) rfl (zz_get mi_X10_could) rfl rfl ⟨rfl, rfl, trivial⟩ (pt_one ma.1 e1) (fun q hq => nomatch hq) (fun q hq => nomatch hq) rfl rfl (by decide) hH)
  by_cases e2 : c8.toInt ≤ a.toInt
  · exact Or.inl (pt_z (Q := zq_5) (i := 5) (Γ := [ab_top, .inl (0, 6, 0)]) (vs := [av_k 0, av_s 0]) (V := [.int a, .int c8]) (C := [(1, 0, 0)]) (F := [(av_k 0, av_c 8, av_s 1)]) rfl (zz_get mi_X10_could) rfl rfl ⟨rfl, rfl, trivial⟩ (ab_ty_app (V := [.int a]) (pb_ty n [a]) ⟨c8, rfl, l8, u8, trivial⟩) (fun q hq => by rw [List.mem_singleton] at hq; subst hq; exact ⟨c8, a, rfl, rfl, by simp only; omega⟩) (fun q hq => by rw [List.mem_singleton] at hq; subst hq; exact Or.inl ⟨0, Int32.ofInt 8, .int c8, rfl, rfl, rfl, r8⟩) rfl rfl (by decide) hH)
  by_cases e3 : c1.toInt = 0
  · have e3' : c1 = Int32.ofInt 0 := Int32.toInt_inj.mp (by rw [e3]; rfl)
    subst e3'
    exact Or.inl (pt_z (Q := zq_2) (i := 2) (Γ := [ab_top]) (vs := [av_k 0, av_s 0]) (V := [.int a]) (C := []) (F := [(av_k 28, av_c 1, av_c 0)]) rfl (zz_get mi_X10_could) rfl rfl ⟨rfl, rfl, trivial⟩ (pb_ty n [a]) (fun q hq => nomatch hq) (fun q hq => by rw [List.mem_singleton] at hq; subst hq; exact Or.inl ⟨28, Int32.ofInt 1, .int (Int32.ofInt 0), rfl, rfl, rfl, r1⟩) rfl rfl (by decide) hH)
  by_cases e4 : c10.toInt = 30
  · have e4' : c10 = Int32.ofInt 30 := Int32.toInt_inj.mp (by rw [e4]; rfl)
    subst e4'
    exact Or.inl (pt_z (Q := zq_3) (i := 3) (Γ := [ab_top]) (vs := [av_k 0, av_s 0]) (V := [.int a]) (C := []) (F := [(av_k 0, av_c 10, av_c 30)]) rfl (zz_get mi_X10_could) rfl rfl ⟨rfl, rfl, trivial⟩ (pb_ty n [a]) (fun q hq => nomatch hq) (fun q hq => by rw [List.mem_singleton] at hq; subst hq; exact Or.inl ⟨0, Int32.ofInt 10, .int (Int32.ofInt 30), rfl, rfl, rfl, r10⟩) rfl rfl (by decide) hH)
  have hty : ab_ty n [.int a, .int c8, .int c10, .int c1] [.inl (0, 5, 0), .inl (0, 6, 0), .inl (0, 29, 0), .inl (1, 20, 0)] := (pt_two (x := c1) (lo := 1) (hi := 20) (by omega) u1 (pt_two (x := c10) (lo := 0) (hi := 29) l10 (by omega) (pt_two (x := c8) (lo := 0) (hi := 6) l8 u8 (pt_one (lo := 0) (hi := 5) (x := a) (by omega) (by omega)))))
  obtain ⟨x, h', n', hM, k1, kf, P, hP, V', q1, q2, q3, q4⟩ := pt_go (Q := yq_1) (Γ := [.inl (0, 5, 0), .inl (0, 6, 0), .inl (0, 29, 0), .inl (1, 20, 0)]) (vs := [av_k 0, av_s 0]) (V := [.int a, .int c8, .int c10, .int c1]) (as := [.ref 0, .int a]) (C := [(0, 1, -1)]) (F := [(av_k 0, av_c 8, av_s 1), (av_k 0, av_c 10, av_s 2), (av_k 28, av_c 1, av_s 3)]) (yy_4 H (222 + 1) yq_1 (by decide) rfl) mi_X10_could rfl rfl ⟨rfl, rfl, trivial⟩ hty (fun q hq => by rw [List.mem_singleton] at hq; subst hq; exact ⟨a, c8, rfl, rfl, by simp only; omega⟩) (fun q hq => by
      rcases List.mem_cons.mp hq with rfl | hq
      · exact Or.inl ⟨0, Int32.ofInt 8, .int c8, rfl, rfl, rfl, r8⟩
      rcases List.mem_cons.mp hq with rfl | hq
      · exact Or.inl ⟨0, Int32.ofInt 10, .int c10, rfl, rfl, rfl, r10⟩
      rw [List.mem_singleton] at hq
      subst hq
      exact Or.inl ⟨28, Int32.ofInt 1, .int c1, rfl, rfl, rfl, r1⟩) rfl rfl hH
  rw [show yq_1.2.2.2.2 = [yq_1.2.2.2.2.head (by decide)] from rfl, List.mem_singleton] at hP
  subst hP
  refine Or.inr ⟨x, h', n', hM, k1, pb_f_of kf, ?_⟩
  obtain ⟨u, v, w1, w2, w3⟩ := q1 (2, 5, -1) List.mem_cons_self
  rcases q2 (av_k 0, av_c 10, av_s 5) List.mem_cons_self with ⟨kk, xx, ww, f1, f2, f3, f4⟩ | ⟨_, _, _, f1, -⟩
  case inr => cases f1
  cases f1
  cases f2
  have hu : V'[2]? = some (.int c10) := q4 2 _ rfl
  have e7 : u = c10 := by
    have : some (Value.int u) = some (.int c10) := w1.symm.trans hu
    cases this; rfl
  have e8 : ww = .int v := Option.some.inj (f3.symm.trans w2)
  subst e7 e8
  have f5 : ab_rd h' 0 10 = some (.int v) := f4
  unfold ab_ri
  rw [f5, show ab_rd h 0 10 = some (.int u) from r10]
  have w4 : u.toInt - v.toInt ≤ -1 := w3
  show u.toInt + 1 ≤ v.toInt
  omega
theorem pb_X10_says (H : ab_Hand l G) (hH : ab_HT h n) (a b : Int32) : pb_3 l G mt_X10_says [.ref 0, .int a, .int b] h n yq_2.2.2.2.1 := by
  obtain ⟨c8, r8, l8, u8⟩ := fl_rd hH (k := 0) (ci := 10) (j := 8) (lo := 0) (hi := 6) (by decide) (by decide +kernel)
  obtain ⟨c10, r10, l10, u10⟩ := fl_rd hH (k := 0) (ci := 10) (j := 10) (lo := 0) (hi := 30) (by decide) (by decide +kernel)
  obtain ⟨c1, r1, l1, u1⟩ := fl_rd hH (k := 28) (ci := 7) (j := 1) (lo := 0) (hi := 20) (by decide) (by decide +kernel)
  have ma := pt_min a
  by_cases e1 : a.toInt ≤ -1
  · exact Or.inl (pt_z (Q := zq_8) (i := 8) (Γ := [.inl ((-2147483648), (-1), 0), ab_top]) (vs := [av_k 0, av_s 0, av_s 1]) (V := [.int a, .int b]) (C := []) (F := []) rfl (zz_get mi_X10_says) rfl rfl ⟨rfl, rfl, rfl, trivial⟩ (ab_ty_two (V := [.int a]) (pt_one ma.1 e1) (pb_ty n [b])) (fun q hq => nomatch hq) (fun q hq => nomatch hq) rfl rfl (by decide) hH)
  by_cases e2 : c8.toInt ≤ a.toInt
  · exact Or.inl (pt_z (Q := zq_9) (i := 9) (Γ := [ab_top, ab_top, .inl (0, 6, 0)]) (vs := [av_k 0, av_s 0, av_s 1]) (V := [.int a, .int b, .int c8]) (C := [(2, 0, 0)]) (F := [(av_k 0, av_c 8, av_s 2)]) rfl (zz_get mi_X10_says) rfl rfl ⟨rfl, rfl, rfl, trivial⟩ (ab_ty_app (V := [.int a, .int b]) (pb_ty n [a, b]) ⟨c8, rfl, l8, u8, trivial⟩) (fun q hq => by rw [List.mem_singleton] at hq; subst hq; exact ⟨c8, a, rfl, rfl, by simp only; omega⟩) (fun q hq => by rw [List.mem_singleton] at hq; subst hq; exact Or.inl ⟨0, Int32.ofInt 8, .int c8, rfl, rfl, rfl, r8⟩) rfl rfl (by decide) hH)
  by_cases e3 : c1.toInt = 0
  · have e3' : c1 = Int32.ofInt 0 := Int32.toInt_inj.mp (by rw [e3]; rfl)
    subst e3'
    exact Or.inl (pt_z (Q := zq_6) (i := 6) (Γ := [ab_top, ab_top]) (vs := [av_k 0, av_s 0, av_s 1]) (V := [.int a, .int b]) (C := []) (F := [(av_k 28, av_c 1, av_c 0)]) rfl (zz_get mi_X10_says) rfl rfl ⟨rfl, rfl, rfl, trivial⟩ (pb_ty n [a, b]) (fun q hq => nomatch hq) (fun q hq => by rw [List.mem_singleton] at hq; subst hq; exact Or.inl ⟨28, Int32.ofInt 1, .int (Int32.ofInt 0), rfl, rfl, rfl, r1⟩) rfl rfl (by decide) hH)
  by_cases e4 : c10.toInt = 30
  · have e4' : c10 = Int32.ofInt 30 := Int32.toInt_inj.mp (by rw [e4]; rfl)
    subst e4'
    exact Or.inl (pt_z (Q := zq_7) (i := 7) (Γ := [ab_top, ab_top]) (vs := [av_k 0, av_s 0, av_s 1]) (V := [.int a, .int b]) (C := []) (F := [(av_k 0, av_c 10, av_c 30)]) rfl (zz_get mi_X10_says) rfl rfl ⟨rfl, rfl, rfl, trivial⟩ (pb_ty n [a, b]) (fun q hq => nomatch hq) (fun q hq => by rw [List.mem_singleton] at hq; subst hq; exact Or.inl ⟨0, Int32.ofInt 10, .int (Int32.ofInt 30), rfl, rfl, rfl, r10⟩) rfl rfl (by decide) hH)
  have hty : ab_ty n [.int a, .int b, .int c8, .int c10, .int c1] [.inl (0, 5, 0), ab_top, .inl (0, 6, 0), .inl (0, 29, 0), .inl (1, 20, 0)] := (pt_two (x := c1) (lo := 1) (hi := 20) (by omega) u1 (pt_two (x := c10) (lo := 0) (hi := 29) l10 (by omega) (pt_two (x := c8) (lo := 0) (hi := 6) l8 u8 (ab_ty_two (V := [.int a]) (pt_one (lo := 0) (hi := 5) (x := a) (by omega) (by omega)) (pb_ty n [b])))))
  obtain ⟨x, h', n', hM, k1, kf, P, hP, V', q1, q2, q3, q4⟩ := pt_go (Q := yq_2) (Γ := [.inl (0, 5, 0), ab_top, .inl (0, 6, 0), .inl (0, 29, 0), .inl (1, 20, 0)]) (vs := [av_k 0, av_s 0, av_s 1]) (V := [.int a, .int b, .int c8, .int c10, .int c1]) (as := [.ref 0, .int a, .int b]) (C := [(0, 2, -1)]) (F := [(av_k 0, av_c 8, av_s 2), (av_k 0, av_c 10, av_s 3), (av_k 28, av_c 1, av_s 4)]) (yy_4 H (222 + 2) yq_2 (by decide) rfl) mi_X10_says rfl rfl ⟨rfl, rfl, rfl, trivial⟩ hty (fun q hq => by rw [List.mem_singleton] at hq; subst hq; exact ⟨a, c8, rfl, rfl, by simp only; omega⟩) (fun q hq => by
      rcases List.mem_cons.mp hq with rfl | hq
      · exact Or.inl ⟨0, Int32.ofInt 8, .int c8, rfl, rfl, rfl, r8⟩
      rcases List.mem_cons.mp hq with rfl | hq
      · exact Or.inl ⟨0, Int32.ofInt 10, .int c10, rfl, rfl, rfl, r10⟩
      rw [List.mem_singleton] at hq
      subst hq
      exact Or.inl ⟨28, Int32.ofInt 1, .int c1, rfl, rfl, rfl, r1⟩) rfl rfl hH
  rw [show yq_2.2.2.2.2 = [yq_2.2.2.2.2.head (by decide)] from rfl, List.mem_singleton] at hP
  subst hP
  refine Or.inr ⟨x, h', n', hM, k1, pb_f_of kf, ?_⟩
  obtain ⟨u, v, w1, w2, w3⟩ := q1 (3, 6, -1) List.mem_cons_self
  rcases q2 (av_k 0, av_c 10, av_s 6) List.mem_cons_self with ⟨kk, xx, ww, f1, f2, f3, f4⟩ | ⟨_, _, _, f1, -⟩
  case inr => cases f1
  cases f1
  cases f2
  have hu : V'[3]? = some (.int c10) := q4 3 _ rfl
  have e7 : u = c10 := by
    have : some (Value.int u) = some (.int c10) := w1.symm.trans hu
    cases this; rfl
  have e8 : ww = .int v := Option.some.inj (f3.symm.trans w2)
  subst e7 e8
  have f5 : ab_rd h' 0 10 = some (.int v) := f4
  unfold ab_ri
  rw [f5, show ab_rd h 0 10 = some (.int u) from r10]
  have w4 : u.toInt - v.toInt ≤ -1 := w3
  show u.toInt + 1 ≤ v.toInt
  omega
theorem pb_X10_sure (H : ab_Hand l G) (hH : ab_HT h n) (a b : Int32) : pb_3 l G mt_X10_sure [.ref 0, .int a, .int b] h n yq_3.2.2.2.1 := by
  obtain ⟨c8, r8, l8, u8⟩ := fl_rd hH (k := 0) (ci := 10) (j := 8) (lo := 0) (hi := 6) (by decide) (by decide +kernel)
  obtain ⟨c10, r10, l10, u10⟩ := fl_rd hH (k := 0) (ci := 10) (j := 10) (lo := 0) (hi := 30) (by decide) (by decide +kernel)
  obtain ⟨c1, r1, l1, u1⟩ := fl_rd hH (k := 28) (ci := 7) (j := 1) (lo := 0) (hi := 20) (by decide) (by decide +kernel)
  have ma := pt_min a
  by_cases e1 : a.toInt ≤ -1
  · exact Or.inl (pt_z (Q := zq_12) (i := 12) (Γ := [.inl ((-2147483648), (-1), 0), ab_top]) (vs := [av_k 0, av_s 0, av_s 1]) (V := [.int a, .int b]) (C := []) (F := []) rfl (zz_get mi_X10_sure) rfl rfl ⟨rfl, rfl, rfl, trivial⟩ (ab_ty_two (V := [.int a]) (pt_one ma.1 e1) (pb_ty n [b])) (fun q hq => nomatch hq) (fun q hq => nomatch hq) rfl rfl (by decide) hH)
  by_cases e2 : c8.toInt ≤ a.toInt
  · exact Or.inl (pt_z (Q := zq_13) (i := 13) (Γ := [ab_top, ab_top, .inl (0, 6, 0)]) (vs := [av_k 0, av_s 0, av_s 1]) (V := [.int a, .int b, .int c8]) (C := [(2, 0, 0)]) (F := [(av_k 0, av_c 8, av_s 2)]) rfl (zz_get mi_X10_sure) rfl rfl ⟨rfl, rfl, rfl, trivial⟩ (ab_ty_app (V := [.int a, .int b]) (pb_ty n [a, b]) ⟨c8, rfl, l8, u8, trivial⟩) (fun q hq => by rw [List.mem_singleton] at hq; subst hq; exact ⟨c8, a, rfl, rfl, by simp only; omega⟩) (fun q hq => by rw [List.mem_singleton] at hq; subst hq; exact Or.inl ⟨0, Int32.ofInt 8, .int c8, rfl, rfl, rfl, r8⟩) rfl rfl (by decide) hH)
  by_cases e3 : c1.toInt = 0
  · have e3' : c1 = Int32.ofInt 0 := Int32.toInt_inj.mp (by rw [e3]; rfl)
    subst e3'
    exact Or.inl (pt_z (Q := zq_10) (i := 10) (Γ := [ab_top, ab_top]) (vs := [av_k 0, av_s 0, av_s 1]) (V := [.int a, .int b]) (C := []) (F := [(av_k 28, av_c 1, av_c 0)]) rfl (zz_get mi_X10_sure) rfl rfl ⟨rfl, rfl, rfl, trivial⟩ (pb_ty n [a, b]) (fun q hq => nomatch hq) (fun q hq => by rw [List.mem_singleton] at hq; subst hq; exact Or.inl ⟨28, Int32.ofInt 1, .int (Int32.ofInt 0), rfl, rfl, rfl, r1⟩) rfl rfl (by decide) hH)
  by_cases e4 : c10.toInt = 30
  · have e4' : c10 = Int32.ofInt 30 := Int32.toInt_inj.mp (by rw [e4]; rfl)
    subst e4'
    exact Or.inl (pt_z (Q := zq_11) (i := 11) (Γ := [ab_top, ab_top]) (vs := [av_k 0, av_s 0, av_s 1]) (V := [.int a, .int b]) (C := []) (F := [(av_k 0, av_c 10, av_c 30)]) rfl (zz_get mi_X10_sure) rfl rfl ⟨rfl, rfl, rfl, trivial⟩ (pb_ty n [a, b]) (fun q hq => nomatch hq) (fun q hq => by rw [List.mem_singleton] at hq; subst hq; exact Or.inl ⟨0, Int32.ofInt 10, .int (Int32.ofInt 30), rfl, rfl, rfl, r10⟩) rfl rfl (by decide) hH)
  have mb := pt_min b
  by_cases e5 : b.toInt ≤ -1
  · exact Or.inl (pt_z (Q := zq_14) (i := 14) (Γ := [ab_top, .inl ((-2147483648), (-1), 0)]) (vs := [av_k 0, av_s 0, av_s 1]) (V := [.int a, .int b]) (C := []) (F := []) rfl (zz_get mi_X10_sure) rfl rfl ⟨rfl, rfl, rfl, trivial⟩ (ab_ty_two (V := [.int a]) (pb_ty n [a]) (pt_one mb.1 e5)) (fun q hq => nomatch hq) (fun q hq => nomatch hq) rfl rfl (by decide) hH)
  by_cases e6 : 20 ≤ b.toInt
  · exact Or.inl (pt_z (Q := zq_15) (i := 15) (Γ := [ab_top, .inl (20, 2147483647, 0)]) (vs := [av_k 0, av_s 0, av_s 1]) (V := [.int a, .int b]) (C := []) (F := []) rfl (zz_get mi_X10_sure) rfl rfl ⟨rfl, rfl, rfl, trivial⟩ (ab_ty_two (V := [.int a]) (pb_ty n [a]) (pt_one e6 mb.2)) (fun q hq => nomatch hq) (fun q hq => nomatch hq) rfl rfl (by decide) hH)
  have hty : ab_ty n [.int a, .int b, .int c8, .int c10, .int c1] [.inl (0, 5, 0), .inl (0, 19, 0), .inl (0, 6, 0), .inl (0, 29, 0), .inl (1, 20, 0)] := (pt_two (x := c1) (lo := 1) (hi := 20) (by omega) u1 (pt_two (x := c10) (lo := 0) (hi := 29) l10 (by omega) (pt_two (x := c8) (lo := 0) (hi := 6) l8 u8 (ab_ty_two (V := [.int a]) (pt_one (lo := 0) (hi := 5) (x := a) (by omega) (by omega)) (pt_one (lo := 0) (hi := 19) (x := b) (by omega) (by omega))))))
  obtain ⟨x, h', n', hM, k1, kf, P, hP, V', q1, q2, q3, q4⟩ := pt_go (Q := yq_3) (Γ := [.inl (0, 5, 0), .inl (0, 19, 0), .inl (0, 6, 0), .inl (0, 29, 0), .inl (1, 20, 0)]) (vs := [av_k 0, av_s 0, av_s 1]) (V := [.int a, .int b, .int c8, .int c10, .int c1]) (as := [.ref 0, .int a, .int b]) (C := [(0, 2, -1)]) (F := [(av_k 0, av_c 8, av_s 2), (av_k 0, av_c 10, av_s 3), (av_k 28, av_c 1, av_s 4)]) (yy_4 H (222 + 3) yq_3 (by decide) rfl) mi_X10_sure rfl rfl ⟨rfl, rfl, rfl, trivial⟩ hty (fun q hq => by rw [List.mem_singleton] at hq; subst hq; exact ⟨a, c8, rfl, rfl, by simp only; omega⟩) (fun q hq => by
      rcases List.mem_cons.mp hq with rfl | hq
      · exact Or.inl ⟨0, Int32.ofInt 8, .int c8, rfl, rfl, rfl, r8⟩
      rcases List.mem_cons.mp hq with rfl | hq
      · exact Or.inl ⟨0, Int32.ofInt 10, .int c10, rfl, rfl, rfl, r10⟩
      rw [List.mem_singleton] at hq
      subst hq
      exact Or.inl ⟨28, Int32.ofInt 1, .int c1, rfl, rfl, rfl, r1⟩) rfl rfl hH
  rw [show yq_3.2.2.2.2 = [yq_3.2.2.2.2.head (by decide)] from rfl, List.mem_singleton] at hP
  subst hP
  refine Or.inr ⟨x, h', n', hM, k1, pb_f_of kf, ?_⟩
  obtain ⟨u, v, w1, w2, w3⟩ := q1 (3, 6, -1) List.mem_cons_self
  rcases q2 (av_k 0, av_c 10, av_s 6) List.mem_cons_self with ⟨kk, xx, ww, f1, f2, f3, f4⟩ | ⟨_, _, _, f1, -⟩
  case inr => cases f1
  cases f1
  cases f2
  have hu : V'[3]? = some (.int c10) := q4 3 _ rfl
  have e7 : u = c10 := by
    have : some (Value.int u) = some (.int c10) := w1.symm.trans hu
    cases this; rfl
  have e8 : ww = .int v := Option.some.inj (f3.symm.trans w2)
  subst e7 e8
  have f5 : ab_rd h' 0 10 = some (.int v) := f4
  unfold ab_ri
  rw [f5, show ab_rd h 0 10 = some (.int u) from r10]
  have w4 : u.toInt - v.toInt ≤ -1 := w3
  show u.toInt + 1 ≤ v.toInt
  omega
end PT

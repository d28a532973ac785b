/-! ===== by hand: makeRoom's loop ===== -/
def nc_cl : ab_CL := fun _ _ _ _ _ _ => none
theorem nc_ok {l : Launch} {G : ax_T} {prog : List ax_MI} {md : List (Nat × Int)} : ab_clOk l G prog md nc_cl := fun k j mi S vs rest L _ h => by cases h
def mr_md : List (Nat × Int) := [(1073741824, 4)]
def mr_T (b : Int) : ab_S := ([(0, av_k 28), (1, av_s 0), (2, av_s 1)], [], [.inl (1, b, 0), .inl (0, 20, 0), .inl (0, 20, 0)], [], [(av_k 28, av_c 1, av_s 2)], [], 0, 0)
def mr_N : ab_S := ([(0, av_k 28), (1, av_s 0)], [av_s 0, av_k 28], [.inl (1, 41160, 0), .inr (some 17179869184), .inl (1, 41160, 0)], [(2, 0, -1)], [(av_k 28, av_c 4, av_s 1), (av_s 1, av_c (-1), av_s 2)], [], 0, 0)
def mr_P : ab_S := ([], [], [], [], [], [], 0, 0)
def mr_cut (pc : Nat) : Bool := Nat.beq pc 20 || Nat.beq pc 65
def mr_t0 (r : ab_OC) : Bool := match r with
  | .inl q => Nat.beq q.1 20 && ((match ab_lk q.2.1 2 with
    | some a => ab_veq a (.inl 0)
    | none => false) && (ab_fit 0 q.2 (mr_T 15)).isSome)
  | .inr _ => false
def mr_i (S : ab_S) : Bool := match ab_lk S.1 2, ab_fd S.2.2.2.2.1 (av_k 28) (.inl 1) with
  | some a, some p => (match ab_iv S.2.2.1 a, ab_iv S.2.2.1 p with
    | some _, some _ => ab_leq S.2.2.1 S.2.2.2.1 4 a (av_s 1) 1 && (ab_leq S.2.2.1 S.2.2.2.1 4 (av_s 1) a (-1) && ab_leq S.2.2.1 S.2.2.2.1 4 (av_s 1) p (-1))
    | _, _ => false)
  | _, _ => false
def mr_v (b : Int) (S : ab_S) : Bool := match ab_fd S.2.2.2.2.1 (av_k 29) (av_s 1) with
  | some v => (match ab_iv S.2.2.1 v with
    | some p => bif decide (p.2 ≤ 13) then (ab_fit 0 S (mr_T b)).isSome else decide (p.1 = 14) && (decide (p.2 = 14) && (ab_fit 0 S (mr_T (b * 14))).isSome)
    | none => false)
  | none => false
def mr_t (b : Int) (r : ab_OC) : Bool := match r with
  | .inl q => bif Nat.beq q.1 20 then mr_i q.2 && mr_v b q.2 else Nat.beq q.1 65 && (ab_fit 0 q.2 mr_N).isSome
  | .inr S => (ab_fit 0 S mr_P).isSome
def mr_c (b : Int) : Bool := match ab_X mt_prog nc_cl mr_md false [] mt_X7_makeRoom mr_cut 0 100 true 20 (mr_T b) with
  | some L => L.all (mr_t b)
  | none => false
def mr_e : Bool := match ab_X mt_prog nc_cl mr_md false [] mt_X7_makeRoom mr_cut 0 100 true 0 cq_2.2.2.1 with
  | some L => L.all mr_t0
  | none => false
set_option maxRecDepth 100000 in
theorem mr_e_ok : mr_e = true := by decide +kernel
set_option maxRecDepth 100000 in
theorem mr_c0 : mr_c 15 = true := by decide +kernel
set_option maxRecDepth 100000 in
theorem mr_c1 : mr_c 210 = true := by decide +kernel
set_option maxRecDepth 100000 in
theorem mr_c2 : mr_c 2940 = true := by decide +kernel
set_option maxRecDepth 100000 in
theorem mr_c3 : mr_c 41160 = true := by decide +kernel
def mr_gb (g : Nat) (b : Int) : Prop := g = 0 ∧ b = 15 ∨ g = 1 ∧ b = 210 ∨ g = 2 ∧ b = 2940 ∨ g = 3 ∧ b = 41160
theorem mr_gb_c {g : Nat} {b : Int} (h : mr_gb g b) : mr_c b = true := by
  rcases h with ⟨-, rfl⟩ | ⟨-, rfl⟩ | ⟨-, rfl⟩ | ⟨-, rfl⟩
  · exact mr_c0
  · exact mr_c1
  · exact mr_c2
  · exact mr_c3
theorem mr_gb_s {g : Nat} {b : Int} (h : mr_gb g b) (hg : g + 1 ≤ 3) : mr_gb (g + 1) (b * 14) := by
  rcases h with ⟨rfl, rfl⟩ | ⟨rfl, rfl⟩ | ⟨rfl, rfl⟩ | ⟨rfl, rfl⟩
  · exact Or.inr (Or.inl ⟨rfl, rfl⟩)
  · exact Or.inr (Or.inr (Or.inl ⟨rfl, rfl⟩))
  · exact Or.inr (Or.inr (Or.inr ⟨rfl, rfl⟩))
  · omega
theorem ab_gc_mono {h : ax_H} {k : Nat} {a b : Nat} (hab : a ≤ b) : ab_gc h k a ≤ ab_gc h k b := by
  induction b with
  | zero =>
    have : a = 0 := by omega
    subst this
    exact Nat.le_refl _
  | succ b ih =>
    by_cases e : a = b + 1
    · subst e; exact Nat.le_refl _
    · exact Nat.le_trans (ih (by omega)) (Nat.le_add_right _ _)
section MR
variable {l : Launch} {G : ax_T} {h0 : ax_H} {n0 d : Nat}
/-- what may change is the stone's field alone -/
theorem mr_fr {h' : ax_H} (hfr : ab_fr mr_md n0 h0 h') (hn : 573 ≤ n0) {k : Nat} (hk : k < 573) {i : Int} (hki : ab_k k = 30 → i ≠ 4) : ab_rd h' k i = ab_rd h0 k i := by
  refine hfr k (by omega) i ?_
  rw [Bool.eq_false_iff]
  intro hm
  obtain ⟨q, hq, hc⟩ := List.any_eq_true.mp hm
  rw [show mr_md = [(1073741824, 4)] from rfl, List.mem_singleton] at hq
  subst hq
  simp only [Bool.and_eq_true, Bool.or_eq_true, decide_eq_true_eq] at hc
  have h1 : ab_k k = 30 := by
    have h2 := hc.1
    rw [show (1073741824 : Nat) = 2 ^ 30 from rfl, Nat.testBit_two_pow] at h2
    exact (of_decide_eq_true h2).symm
  have := hki h1
  omega
theorem mr_new {V : List Value} {lv : List (Nat × Value)} {st : List Value} {h' : ax_H} {n' cs ss : Nat} (hg : ab_g ([], h0, n0, mr_md) mr_N V lv st h' n' cs ss) : ab_good l G mt_X7_makeRoom d ([], h0, n0, mr_md) [mr_P] (65, lv, st, h', n', cs, ss) := by
  have hmi : mt_X7_makeRoom ∈ mt_prog := List.mem_of_getElem? mi_X7_makeRoom
  obtain ⟨g1, g2, g3, g4, g5, g6, g7, g8, g9⟩ := hg
  obtain ⟨hH, hfr, hle⟩ := g8
  obtain ⟨e1, e2⟩ := g7
  have e1' : cs = 0 := e1
  have e2' : ss = 0 := e2
  subst e1' e2'
  match st, g2 with
  | [], g2 => exact g2.elim
  | [_], g2 => exact g2.2.elim
  | _ :: _ :: _ :: _, g2 => exact g2.2.2.elim
  | [v, o], g2 =>
    obtain ⟨f1, f2, -⟩ := g2
    obtain ⟨w0, hw0, x, rfl, hx1, hx2, -⟩ := g3.2 0 _ rfl
    have hv : v = .int x := Option.some.inj (f1.symm.trans hw0)
    subst hv
    have ho : o = .ref 28 := (Option.some.inj f2).symm
    subst ho
    obtain ⟨x0, y0, c1, c2, c3⟩ := g4 _ List.mem_cons_self
    rcases g5 (av_k 28, av_c 4, av_s 1) List.mem_cons_self with ⟨k, y, w, r1, r2, r3, r4⟩ | ⟨_, _, _, r1, -⟩
    case inr => cases r1
    rcases g5 (av_s 1, av_c (-1), av_s 2) (List.mem_cons_of_mem _ List.mem_cons_self) with ⟨k', y', w', s1, s2, s3, s4⟩ | ⟨_, _, _, s1, -⟩
    case inr =>
      obtain ⟨w1, hw1, k1, rfl, -⟩ := g3.2 1 _ rfl
      have : some (Value.ref k1) = some (.int _) := hw1.symm.trans s1
      cases this
    cases r1
    cases r2
    cases s2
    have r3' : V[1]? = some w := r3
    have s1' : V[1]? = some (.ref k') := s1
    have hw : w = .ref k' := Option.some.inj (r3'.symm.trans s1')
    subst hw
    have hy0 : w' = .int x0 := Option.some.inj (s3.symm.trans c1)
    subst hy0
    have hx0 : y0 = x := by
      have : some (Value.int y0) = some (.int x) := c2.symm.trans hw0
      cases this; rfl
    subst hx0
    obtain ⟨d28, S28, q1, q2, q3⟩ := hH.2.1 28 (by have := hH.1; omega)
    have hK : ab_K[ab_k 28]? = some ks_30 := rfl
    rw [hK] at q2
    cases q2
    rcases d28 with ⟨td, Nd, fd | fd⟩ | ⟨cj, fs⟩
    case inl.inl => exact q3.elim
    case inl.inr => exact q3.elim
    have hcj : cj = 7 := q3.1
    subst hcj
    have hfl : fs.length = 9 := q3.2.1
    have hm : (y0.toNatClampNeg : Int) = y0.toInt := by
      show ((y0.toInt).toNat : Int) = y0.toInt
      omega
    have hlen : ∀ w : Nat, ab_rd h' 28 4 = some (.ref w) → ab_ri h' w (-1) < (y0.toNatClampNeg : Int) := by
      intro w hw
      have h1 : ab_rd h' 28 (Int32.ofInt 4).toInt = ab_rd h' 28 4 := rfl
      rw [h1, hw] at r4
      obtain rfl : w = k' := by cases r4; rfl
      unfold ab_ri
      have h2 : ab_rd h' w (Int32.ofInt (-1)).toInt = ab_rd h' w (-1) := rfl
      rw [h2] at s4
      rw [s4]
      show x0.toInt < _
      have : x0.toInt - y0.toInt ≤ -1 := c3
      omega
    obtain ⟨hrd, hHT⟩ := ab_room_HT hH (m := y0.toNatClampNeg) (by omega) (by omega) q1 hlen
    have hn := hH.1
    have hp28 : ax_raw (ax_hpush h' n' (.inl (0, y0.toNatClampNeg, .inl []))) 28 = some (.inr (7, fs)) := by rw [ab_raw_push2 hH.2.2.2, if_neg (by omega)]; exact q1
    refine ⟨(none, ax_hset (ax_hpush h' n' (.inl (0, y0.toNatClampNeg, .inl []))) 28 (.inr (7, fs.set 4 (.ref n'))), n' + 1), rfl, ?_, mr_P, List.mem_singleton.mpr rfl, [], 0, 0, ?_⟩
    · have hs1 : y0.toNatClampNeg ≤ 41160 := by omega
      refine ab_Wd_step mt_ok hmi (en := (65, .newarray .int, 2, (5, 0, 0, 0), [160])) rfl (F := (67, lv, [.ref n', .ref 28], ax_hpush h' n' (.inl (0, y0.toNatClampNeg, .inl [])), n' + 1, 1, y0.toNatClampNeg)) ?_ (Nat.le_refl 1) hs1 ?_
      · have b1 : decide (0 ≤ y0.toInt) = true := decide_eq_true (by omega)
        have b2 : decide (y0.toNatClampNeg * 8 ≤ 536870912) = true := decide_eq_true (by omega)
        simp only [ax_step, ax_s_newa, b1, b2, Bool.and_self, cond_true, Nat.zero_add]
      · refine ab_Wd_step mt_ok hmi (en := (67, .putfield 29, 3, (0, 7, 4, 0), [321])) rfl (F := (70, lv, [], ax_hset (ax_hpush h' n' (.inl (0, y0.toNatClampNeg, .inl []))) 28 (.inr (7, fs.set 4 (.ref n'))), n' + 1, 1, y0.toNatClampNeg)) ?_ (Nat.le_refl 1) hs1 ?_
        · have b3 : Nat.blt 4 fs.length = true := by rw [hfl]; rfl
          have b4 : ax_fit (ax_ty 7 4) (.ref n') = true := rfl
          simp only [ax_step, ax_s_putf, hp28, b3, b4, beq_self_eq_true, Bool.and_self, cond_true]
        · exact ab_Wd_ret mt_ok hmi (en := (70, .return_, 1, (0, 0, 0, 0), [])) rfl rfl rfl (Nat.le_refl 1) hs1
    · refine ⟨fun k a hk => (by cases hk), trivial, ⟨rfl, fun u τ hu => (by simp [mr_P] at hu)⟩, fun q hq => (by cases hq), fun q hq => (by cases hq), fun q hq => (by cases hq), ⟨rfl, rfl⟩, ⟨hHT, fun k hk i hi => ?_, Nat.le_succ_of_le hle⟩, fun u v hu => (by simp at hu)⟩
      rw [hrd k i (Nat.lt_of_lt_of_le hk hle) ?_]
      · exact hfr k hk i hi
      · intro e e'
        subst e e'
        cases hi
theorem mr_loop (hH0 : ab_HT h0 n0) : ∀ (N g : Nat) (b : Int), mr_gb g b → ∀ (V : List Value) (lv : List (Nat × Value)) (st : List Value) (h' : ax_H) (n' cs ss : Nat), ab_g ([], h0, n0, mr_md) (mr_T b) V lv st h' n' cs ss → ∀ i : Int32, ax_look lv 2 = some (.int i) → ab_gc h0 29 i.toInt.toNat = g → (21 - i.toInt).toNat < N → ab_good l G mt_X7_makeRoom d ([], h0, n0, mr_md) [mr_P] (20, lv, st, h', n', cs, ss) := by
  have hmi : mt_X7_makeRoom ∈ mt_prog := List.mem_of_getElem? mi_X7_makeRoom
  intro N
  induction N with
  | zero => intro g b hgb V lv st h' n' cs ss hg i hi hgc hN; omega
  | succ N ih =>
    intro g b hgb V lv st h' n' cs ss hg i hi hgc hN
    have hc := mr_gb_c hgb
    unfold mr_c at hc
    split at hc
    case h_2 => cases hc
    rename_i L hL
    have hgV : ab_g (V, h0, n0, mr_md) (mr_T b) V lv st h' n' cs ss := by
      obtain ⟨g1, g2, g3, g4, g5, g6, g7, g8, g9⟩ := hg
      exact ⟨g1, g2, g3, g4, g5, g6, g7, g8, fun u v hu => hu⟩
    obtain ⟨c1, c2⟩ := hg.2.2.2.2.2.2.1
    have c1' : cs = 0 := c1
    have c2' : ss = 0 := c2
    subst c1' c2'
    -- the number of the round
    obtain ⟨vi, hvi1, hvi2⟩ := hg.1 2 (av_s 1) rfl
    rw [hi] at hvi1
    cases hvi1
    obtain ⟨wi, hwi, xi, rfl, hi0, hi20, -⟩ := hg.2.2.1.2 1 _ rfl
    have hxi : xi = i := by
      have : some (Value.int xi) = some (.int i) := hwi.symm.trans hvi2
      cases this; rfl
    subst hxi
    rcases ab_X_ok mt_ok hmi nc_ok (Nat.zero_le d) _ _ _ _ _ hL _ _ _ _ _ _ _ hgV (Nat.zero_le _) (Nat.zero_le _) with ⟨pc', S', hin, V1, lv1, st1, h1, n1, cs1, ss1, hg1, r1, r2, hW⟩ | ⟨S', hin, o, V1, hg1, ht, hW⟩
    · have hx1 : ab_ext V V1 := hg1.2.2.2.2.2.2.2.2
      have hgE : ab_g ([], h0, n0, mr_md) S' V1 lv1 st1 h1 n1 cs1 ss1 := by
        obtain ⟨g1, g2, g3, g4, g5, g6, g7, g8, g9⟩ := hg1
        exact ⟨g1, g2, g3, g4, g5, g6, g7, g8, fun u v hu => (by simp at hu)⟩
      have ho := List.all_eq_true.mp hc _ hin
      simp only [mr_t] at ho
      cases ep : Nat.beq pc' 20 with
      | false =>
        rw [ep] at ho
        simp only [cond_false, Bool.and_eq_true, Nat.beq_eq] at ho
        obtain ⟨hp, hf⟩ := ho
        subst hp
        obtain ⟨z, hz⟩ := Option.isSome_iff_exists.mp hf
        obtain ⟨S2, σ⟩ := z
        obtain ⟨V2, -, -, hgN⟩ := ab_fit_g hgE (Nat.le_refl 0) hz
        obtain ⟨o, k1, k2, k3⟩ := mr_new (l := l) (G := G) (d := d) hgN
        exact ⟨o, k1, hW o k2, k3⟩
      | true =>
        rw [ep] at ho
        simp only [cond_true, Bool.and_eq_true] at ho
        have hp : pc' = 20 := by simpa [Nat.beq_eq] using ep
        subst hp
        obtain ⟨ho1, ho2⟩ := ho
        obtain ⟨q1, q2, q3, q4, q5, q6, q7, q8, q9⟩ := id hg1
        have hs1 : ab_cv V1 (av_s 1) = some (.int xi) := hx1 1 _ hwi
        unfold mr_i at ho1
        split at ho1
        case h_2 => cases ho1
        rename_i a p ha hp
        split at ho1
        case h_2 => cases ho1
        rename_i iva ivp hiva hivp
        simp only [Bool.and_eq_true] at ho1
        obtain ⟨u1, u2, u3⟩ := ho1
        obtain ⟨va, hva1, hva2⟩ := q1 2 a ha
        obtain ⟨xa, rfl, -⟩ := ab_iv_ok q3 hiva hva2
        obtain ⟨wp, hwp1, hwp2⟩ := ab_fd_ok q5 hp (k := 28) (x := Int32.ofInt 1) rfl rfl
        obtain ⟨xp, rfl, -⟩ := ab_iv_ok q3 hivp hwp1
        have a1 := ab_leq_ok q3 q4 u1 hva2 hs1
        have a2 := ab_leq_ok q3 q4 u2 hs1 hva2
        have a3 := ab_leq_ok q3 q4 u3 hs1 hwp1
        have hxa : xa.toInt = xi.toInt + 1 := by omega
        have hfr : ab_fr mr_md n0 h0 h1 := q8.2.1
        have hpl : ab_ri h0 28 1 = xp.toInt := by
          unfold ab_ri
          rw [← mr_fr hfr hH0.1 (k := 28) (i := 1) (by omega) (fun _ => by decide)]
          have : ab_rd h1 28 (Int32.ofInt 1).toInt = ab_rd h1 28 1 := rfl
          rw [this] at hwp2
          rw [hwp2]
        have hg3 : ab_gc h0 29 (xi.toInt.toNat + 1) ≤ 3 := by
          refine Nat.le_trans (ab_gc_mono (b := (ab_ri h0 28 1).toNat) ?_) hH0.2.2.1.1.1
          rw [hpl]
          omega
        have hstep : ab_gc h0 29 (xi.toInt.toNat + 1) = g + (if ab_ri h0 29 xi.toInt = 14 then 1 else 0) := by
          rw [ab_gc, hgc, show ((xi.toInt.toNat : Nat) : Int) = xi.toInt by omega]
        have hxn : xa.toInt.toNat = xi.toInt.toNat + 1 := by omega
        unfold mr_v at ho2
        split at ho2
        case h_2 => cases ho2
        rename_i v hv
        split at ho2
        case h_2 => cases ho2
        rename_i pv hpv
        obtain ⟨wv, hwv1, hwv2⟩ := ab_fd_ok q5 hv (k := 29) (x := xi) rfl hs1
        obtain ⟨xv, rfl, hv1, hv2⟩ := ab_iv_ok q3 hpv hwv1
        have hrv : ab_ri h0 29 xi.toInt = xv.toInt := by
          unfold ab_ri
          rw [← mr_fr hfr hH0.1 (k := 29) (i := xi.toInt) (by omega) (fun e => by cases e), hwv2]
        have hi14 : (21 - xa.toInt).toNat < N := by omega
        cases ec : decide (pv.2 ≤ 13) with
        | true =>
          rw [ec] at ho2
          simp only [cond_true] at ho2
          have ec' := of_decide_eq_true ec
          obtain ⟨z, hz⟩ := Option.isSome_iff_exists.mp ho2
          obtain ⟨S2, σ⟩ := z
          obtain ⟨V2, -, -, hgT⟩ := ab_fit_g hgE (Nat.le_refl 0) hz
          have hgn : ab_gc h0 29 xa.toInt.toNat = g := by
            rw [hxn, hstep, if_neg (by omega)]
            rfl
          obtain ⟨o, k1, k2, k3⟩ := ih g b hgb _ _ _ _ _ _ _ hgT xa hva1 hgn hi14
          exact ⟨o, k1, hW o k2, k3⟩
        | false =>
          rw [ec] at ho2
          simp only [cond_false, Bool.and_eq_true, decide_eq_true_eq] at ho2
          obtain ⟨t1, t2, ho3⟩ := ho2
          obtain ⟨z, hz⟩ := Option.isSome_iff_exists.mp ho3
          obtain ⟨S2, σ⟩ := z
          obtain ⟨V2, -, -, hgT⟩ := ab_fit_g hgE (Nat.le_refl 0) hz
          have h14 : ab_ri h0 29 xi.toInt = 14 := by rw [hrv]; omega
          have hgn : ab_gc h0 29 xa.toInt.toNat = g + 1 := by rw [hxn, hstep, if_pos h14]
          have hg4 : g + 1 ≤ 3 := by rw [← hgn, hxn]; exact hg3
          obtain ⟨o, k1, k2, k3⟩ := ih (g + 1) (b * 14) (mr_gb_s hgb hg4) _ _ _ _ _ _ _ hgT xa hva1 hgn hi14
          exact ⟨o, k1, hW o k2, k3⟩
    · have ho := List.all_eq_true.mp hc _ hin
      simp only [mr_t] at ho
      obtain ⟨z, hz⟩ := Option.isSome_iff_exists.mp ho
      obtain ⟨S2, σ⟩ := z
      have hgE : ab_g ([], h0, n0, mr_md) S' V1 [] o.1.toList o.2.1 o.2.2 0 0 := by
        obtain ⟨g1, g2, g3, g4, g5, g6, g7, g8, g9⟩ := hg1
        exact ⟨g1, g2, g3, g4, g5, g6, g7, g8, fun u v hu => (by simp at hu)⟩
      obtain ⟨V2, -, -, hgP⟩ := ab_fit_g hgE (Nat.le_refl 0) hz
      exact ⟨o, ht, hW, mr_P, List.mem_singleton.mpr rfl, _, 0, 0, hgP⟩
end MR
/-- makeRoom is as its contract says -/
theorem mr_ok {l : Launch} {G : ax_T} : ab_QOk l G mt_prog cq_2 := by
  intro mi hmi d hd V as h n hlen hg
  have hm : mi = mt_X7_makeRoom := Option.some.inj (hmi.symm.trans mi_X7_makeRoom)
  subst hm
  have hin : mt_X7_makeRoom ∈ mt_prog := List.mem_of_getElem? mi_X7_makeRoom
  have hV : V = [] := List.length_eq_zero_iff.mp hg.2.2.1.1
  subst hV
  have hd' : 10 ≤ d := hd
  obtain ⟨d, rfl⟩ : ∃ d', d = d' + 1 := ⟨d - 1, by omega⟩
  have hE := mr_e_ok
  unfold mr_e at hE
  split at hE
  case h_2 => cases hE
  rename_i L hL
  have hg' : ab_g ([], h, n, mr_md) cq_2.2.2.1 [] (lv_args 0 as) [] h n 0 0 := hg
  rcases ab_X_ok mt_ok hin nc_ok (Nat.zero_le d) _ _ _ _ _ hL _ _ _ _ _ _ _ hg' (Nat.zero_le _) (Nat.zero_le _) with ⟨pc', S', hin', V1, lv1, st1, h1, n1, cs1, ss1, hg1, r1, r2, hW⟩ | ⟨S', hin', o, V1, hg1, ht, hW⟩
  · have ho := List.all_eq_true.mp hE _ hin'
    simp only [mr_t0, Bool.and_eq_true, Nat.beq_eq] at ho
    obtain ⟨hp, hi, hf⟩ := ho
    subst hp
    split at hi
    case h_2 => cases hi
    rename_i a ha
    have ha' := ab_veq_ok hi
    subst ha'
    obtain ⟨v, hv1, hv2⟩ := hg1.1 2 _ ha
    cases hv2
    obtain ⟨z, hz⟩ := Option.isSome_iff_exists.mp hf
    obtain ⟨S2, σ⟩ := z
    obtain ⟨V2, -, -, hgT⟩ := ab_fit_g hg1 (Nat.le_refl 0) hz
    obtain ⟨o, k1, k2, P, hP, V', c', s', k3⟩ := mr_loop (l := l) (G := G) (d := d) hg.2.2.2.2.2.2.2.1.1 _ 0 15 (Or.inl ⟨rfl, rfl⟩) _ _ _ _ _ _ _ hgT (Int32.ofInt 0) hv1 rfl (Nat.lt_succ_self _)
    exact ⟨o, ab_Wd_call mt_ok hin hlen k1 (hW o k2), P, hP, V', c', s', k3⟩
  · have ho := List.all_eq_true.mp hE _ hin'
    cases ho

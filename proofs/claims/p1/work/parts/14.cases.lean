/-! ===== cases of a call's arguments: intervals that cover all ints ===== -/
def cs_full : Int × Int := (-2147483648, 2147483647)
def cs_ds (ds : List (Int × Int)) (j : Nat) : Int × Int := ds.getD j cs_full
def cs_sc (ds : List (Int × Int)) (j : Nat) : Value := bif decide ((cs_ds ds j).1 = (cs_ds ds j).2) then .int (Int32.ofInt (cs_ds ds j).1) else .float (UInt32.ofNat j)
def cs_iv (o : Int × Int) (ds : List (Int × Int)) (u : Nat) : Int × Int := bif u == 9 then o else cs_ds ds u
def cs_run (opv : Value) (o : Int × Int) (L : Nat) (ds : List (Int × Int)) : Bool := match ax_lgo (cs_iv o ds) mt_prog (ax_stepL (cs_iv o ds) L (cs_sc ds) opv) lw_tab 1180 400 18 lw_lv [] lw_hm 573 573 192706 with
  | some F => Nat.beq F.1 1180 && (F.2.2.1.isEmpty && (Nat.ble F.2.2.2.2.2.1 600000 && Nat.ble F.2.2.2.2.2.2 7302250))
  | none => false
def cs_prod : List (List (Int × Int)) → List (List (Int × Int))
  | [] => [[]]
  | P :: r => P.flatMap fun q => (cs_prod r).map (q :: ·)
def cs_covF (lo : Int) : List (Int × Int) → Bool
  | [] => decide (2147483647 < lo)
  | q :: r => decide (q.1 ≤ lo) && cs_covF (q.2 + 1) r
def cs_cov (P : List (Int × Int)) : Bool := cs_covF (-2147483648) P
theorem cs_covF_ok : ∀ (P : List (Int × Int)) (lo : Int), cs_covF lo P = true → ∀ x : Int, lo ≤ x → x ≤ 2147483647 → ∃ q ∈ P, q.1 ≤ x ∧ x ≤ q.2
  | [], lo, h, x, h1, h2 => by
    have := of_decide_eq_true h
    omega
  | q :: r, lo, h, x, h1, h2 => by
    simp only [cs_covF, Bool.and_eq_true, decide_eq_true_eq] at h
    by_cases hx : x ≤ q.2
    · exact ⟨q, List.mem_cons_self, by omega, hx⟩
    · obtain ⟨w, hw, h3⟩ := cs_covF_ok r (q.2 + 1) h.2 x (by omega) h2
      exact ⟨w, List.mem_cons_of_mem _ hw, h3⟩
theorem cs_bd (x : Int32) : -2147483648 ≤ x.toInt ∧ x.toInt ≤ 2147483647 := by
  have h1 := x.le_toInt
  have h2 := x.toInt_lt
  omega
theorem cs_cov_ok {P : List (Int × Int)} (h : cs_cov P = true) (x : Int32) : ∃ q ∈ P, q.1 ≤ x.toInt ∧ x.toInt ≤ q.2 := cs_covF_ok P _ h _ (cs_bd x).1 (cs_bd x).2
theorem cs_prod_ok : ∀ (Ps : List (List (Int × Int))), Ps.all cs_cov = true → ∀ xs : Nat → Int32, ∃ ds ∈ cs_prod Ps, ∀ j, (cs_ds ds j).1 ≤ (xs j).toInt ∧ (xs j).toInt ≤ (cs_ds ds j).2
  | [], _, xs => ⟨[], List.mem_singleton.mpr rfl, fun j => cs_bd _⟩
  | P :: r, h, xs => by
    simp only [List.all_cons, Bool.and_eq_true] at h
    obtain ⟨q, hq, h1⟩ := cs_cov_ok h.1 (xs 0)
    obtain ⟨ds, hds, h2⟩ := cs_prod_ok r h.2 (fun j => xs (j + 1))
    refine ⟨q :: ds, List.mem_flatMap.mpr ⟨q, hq, List.mem_map.mpr ⟨ds, hds, rfl⟩⟩, fun j => ?_⟩
    cases j with
    | zero => exact h1
    | succ j => exact h2 j
theorem cs_sc_ok {ds : List (Int × Int)} {xs : Nat → Int32} {v : Int32} {G : ax_T} (j : Nat) (hG : ax_v G (.float (UInt32.ofNat j)) = .int v) (h : (cs_ds ds j).1 ≤ v.toInt ∧ v.toInt ≤ (cs_ds ds j).2) : ax_v G (cs_sc ds j) = .int v := by
  unfold cs_sc
  cases e : decide ((cs_ds ds j).1 = (cs_ds ds j).2) with
  | false => exact hG
  | true =>
    have e1 := of_decide_eq_true e
    have e2 : (cs_ds ds j).1 = v.toInt := by omega
    show Value.int (Int32.ofInt _) = _
    rw [e2, Int32.ofInt_toInt]
theorem cs_split {P Q : List (Int × Int)} {f : List (Int × Int) → Bool} (h : ∀ q ∈ P, ∀ ds ∈ cs_prod [Q], f (q :: ds) = true) : ∀ ds ∈ cs_prod [P, Q], f ds = true := by
  intro ds hds
  obtain ⟨q, hq, hm⟩ := List.mem_flatMap.mp (show ds ∈ P.flatMap (fun q => (cs_prod [Q]).map (q :: ·)) from hds)
  obtain ⟨d, hd, rfl⟩ := List.mem_map.mp hm
  exact h q hq d hd

/-! ===== asks of both alike (printed by wip/v2/mk84j.py) ===== -/
theorem lx_as {l : Launch} {G : ax_T} {h : ax_H} {n cs ss : Nat} (hI : lx_I h n cs ss) (a s w : Int32) : lx_B l G mt_X10_asks mt_X11_asks [.ref 0, .int a, .int s, .int w] [.ref 542, .int a, .int s, .int w] h n cs ss := by
  have hI' := hI
  obtain ⟨hT, -, -, rL, rN, L, C, f, a1, a2, a3, a4, a5, a6, a7⟩ := hI'
  obtain ⟨y1, m1, p⟩ := ak_at (ak_X10 (l := l) (G := G) (d := 40) (by omega) (mc_HW_of hT) (fun k hk => (a7 k hk).1) a s w)
  obtain ⟨y2, m2, q⟩ := ak_at (ak_X11 (l := l) (G := G) (d := 40) (by omega) (mc_HW_of hT) a s w)
  have e : y1.toInt = y2.toInt := by
    rw [ri_of a3] at p
    rw [ri_of a4] at q
    rcases p with ⟨p1, p2⟩ | ⟨p1, k, hk, p2, p3⟩
    · rcases q with ⟨q1, q2⟩ | ⟨q1, q2⟩
      · rw [p2, q2]
      · exact absurd q1 p1
    · rcases q with ⟨q1, q2⟩ | ⟨q1, k', hk', q2, q3⟩
      · exact absurd p1 q1
      · obtain rfl : k = k' := by omega
        obtain ⟨t, ht, hte⟩ : ∃ t : Nat, t < 14 ∧ (t : Int) = s.toInt := ⟨s.toInt.toNat, by omega, by omega⟩
        obtain ⟨x, y, z, ⟨c1, c2, c3⟩, c4, c5, c6⟩ := (a7 k hk).2.1 (by omega) t ht
        rw [← hte] at p3 q3
        unfold ak_Y at p3 q3
        rw [ri_of c1, ri_of c2, ri_of c3] at p3
        rw [ri_of c4, ri_of c5, ri_of c6] at q3
        rcases p3 with ⟨u, v⟩ | ⟨u, v⟩ | ⟨u, v⟩ | ⟨u, v⟩ <;> rcases q3 with ⟨u', v'⟩ | ⟨u', v'⟩ | ⟨u', v'⟩ | ⟨u', v'⟩ <;> omega
  have e' : y1 = y2 := Int32.toInt_inj.mp e
  rw [← e'] at m2
  exact ⟨y1, h, n, h, n, m1, m2, hT, hI⟩

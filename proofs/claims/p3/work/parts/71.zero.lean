/-! ===== could, says, sure where no stone is read: over the table without costs (printed by wip/safe/mkz.py) ===== -/
def zz (mi : ax_MI) : ax_MI := (mi.1, mi.2.1, mi.2.2.1, mi.2.2.2.1, mi.2.2.2.2.1, mi.2.2.2.2.2.1, 0, 0, mi.2.2.2.2.2.2.2.2)
def z_prog : List ax_MI := mt_prog.map zz
theorem zz_get {j : Nat} {mi : ax_MI} (h : mt_prog[j]? = some mi) : z_prog[j]? = some (zz mi) := by
  unfold z_prog
  rw [List.getElem?_map, h]
  rfl
theorem zz_okW {own nm : String} {i : Instr} {pe : ax_PE} (h : ax_OkW mt_prog own nm i pe) : ax_OkW z_prog own nm i pe := by
  cases i with
  | invokestatic idx =>
    rcases h with h | ⟨h1, mi, h2, h3⟩
    · exact Or.inl h
    · exact Or.inr ⟨h1, zz mi, zz_get h2, h3⟩
  | invokevirtual idx =>
    obtain ⟨mi, T, N, h1, h2⟩ := h
    exact ⟨zz mi, T, N, zz_get h1, h2⟩
  | invokespecial idx =>
    rcases h with h | ⟨h1, mi, h2, h3⟩
    · exact Or.inl h
    · exact Or.inr ⟨h1, zz mi, zz_get h2, h3⟩
  | _ => exact h
theorem z_ok : ax_Prog z_prog := by
  intro mi hmi
  obtain ⟨m0, hm0, rfl⟩ := List.mem_map.mp hmi
  obtain ⟨h1, h2, h3, h4⟩ := mt_ok m0 hm0
  exact ⟨h1, h2, h3, fun ch hch en hen => ⟨(h4 ch hch en hen).1, (h4 ch hch en hen).2.1, zz_okW (h4 ch hch en hen).2.2⟩⟩
def zq_0 : ab_Q := (145, 1, ([(0, av_k 0), (1, av_s 0)], [], [.inl ((-2147483648), 2147483647, 0)], [], [(av_k 28, av_c 1, av_c 0)], [], 0, 0), [], [([], [av_c 0], [.inl ((-2147483648), 2147483647, 0)], [], [], [], 0, 0)])  -- mt_X10_readStone
def zq_1 : ab_Q := (145, 1, ([(0, av_k 0), (1, av_s 0)], [], [.inl ((-2147483648), 2147483647, 0)], [], [(av_k 0, av_c 10, av_c 30)], [], 0, 0), [], [([], [av_c 0], [.inl ((-2147483648), 2147483647, 0)], [], [], [], 0, 0)])  -- mt_X10_readStone
def zq_2 : ab_Q := (126, 2, ([(0, av_k 0), (1, av_s 0)], [], [.inl ((-2147483648), 2147483647, 0)], [], [(av_k 28, av_c 1, av_c 0)], [], 0, 0), [], [([], [av_s 1], [.inl ((-2147483648), 2147483647, 0), .inl ((-2147483648), 2147483647, 0)], [], [], [], 0, 0)])  -- mt_X10_could
def zq_3 : ab_Q := (126, 2, ([(0, av_k 0), (1, av_s 0)], [], [.inl ((-2147483648), 2147483647, 0)], [], [(av_k 0, av_c 10, av_c 30)], [], 0, 0), [], [([], [av_s 1], [.inl ((-2147483648), 2147483647, 0), .inl ((-2147483648), 2147483647, 0)], [], [], [], 0, 0)])  -- mt_X10_could
def zq_4 : ab_Q := (126, 2, ([(0, av_k 0), (1, av_s 0)], [], [.inl ((-2147483648), (-1), 0)], [], [], [], 0, 0), [], [([], [av_s 1], [.inl ((-2147483648), (-1), 0), .inl ((-2147483648), 2147483647, 0)], [], [], [], 0, 0)])  -- mt_X10_could
def zq_5 : ab_Q := (126, 2, ([(0, av_k 0), (1, av_s 0)], [], [.inl ((-2147483648), 2147483647, 0), .inl (0, 6, 0)], [(1, 0, 0)], [(av_k 0, av_c 8, av_s 1)], [], 0, 0), [], [([], [av_s 2], [.inl ((-2147483648), 2147483647, 0), .inl (0, 6, 0), .inl ((-2147483648), 2147483647, 0)], [], [], [], 0, 0)])  -- mt_X10_could
def zq_6 : ab_Q := (127, 2, ([(0, av_k 0), (1, av_s 0), (2, av_s 1)], [], [.inl ((-2147483648), 2147483647, 0), .inl ((-2147483648), 2147483647, 0)], [], [(av_k 28, av_c 1, av_c 0)], [], 0, 0), [], [([], [av_s 2], [.inl ((-2147483648), 2147483647, 0), .inl ((-2147483648), 2147483647, 0), .inl ((-2147483648), 2147483647, 0)], [], [], [], 0, 0)])  -- mt_X10_says
def zq_7 : ab_Q := (127, 2, ([(0, av_k 0), (1, av_s 0), (2, av_s 1)], [], [.inl ((-2147483648), 2147483647, 0), .inl ((-2147483648), 2147483647, 0)], [], [(av_k 0, av_c 10, av_c 30)], [], 0, 0), [], [([], [av_s 2], [.inl ((-2147483648), 2147483647, 0), .inl ((-2147483648), 2147483647, 0), .inl ((-2147483648), 2147483647, 0)], [], [], [], 0, 0)])  -- mt_X10_says
def zq_8 : ab_Q := (127, 2, ([(0, av_k 0), (1, av_s 0), (2, av_s 1)], [], [.inl ((-2147483648), (-1), 0), .inl ((-2147483648), 2147483647, 0)], [], [], [], 0, 0), [], [([], [av_s 2], [.inl ((-2147483648), (-1), 0), .inl ((-2147483648), 2147483647, 0), .inl ((-2147483648), 2147483647, 0)], [], [], [], 0, 0)])  -- mt_X10_says
def zq_9 : ab_Q := (127, 2, ([(0, av_k 0), (1, av_s 0), (2, av_s 1)], [], [.inl ((-2147483648), 2147483647, 0), .inl ((-2147483648), 2147483647, 0), .inl (0, 6, 0)], [(2, 0, 0)], [(av_k 0, av_c 8, av_s 2)], [], 0, 0), [], [([], [av_s 3], [.inl ((-2147483648), 2147483647, 0), .inl ((-2147483648), 2147483647, 0), .inl (0, 6, 0), .inl ((-2147483648), 2147483647, 0)], [], [], [], 0, 0)])  -- mt_X10_says
def zq_10 : ab_Q := (128, 2, ([(0, av_k 0), (1, av_s 0), (2, av_s 1)], [], [.inl ((-2147483648), 2147483647, 0), .inl ((-2147483648), 2147483647, 0)], [], [(av_k 28, av_c 1, av_c 0)], [], 0, 0), [], [([], [av_s 2], [.inl ((-2147483648), 2147483647, 0), .inl ((-2147483648), 2147483647, 0), .inl ((-2147483648), 2147483647, 0)], [], [], [], 0, 0)])  -- mt_X10_sure
def zq_11 : ab_Q := (128, 2, ([(0, av_k 0), (1, av_s 0), (2, av_s 1)], [], [.inl ((-2147483648), 2147483647, 0), .inl ((-2147483648), 2147483647, 0)], [], [(av_k 0, av_c 10, av_c 30)], [], 0, 0), [], [([], [av_s 2], [.inl ((-2147483648), 2147483647, 0), .inl ((-2147483648), 2147483647, 0), .inl ((-2147483648), 2147483647, 0)], [], [], [], 0, 0)])  -- mt_X10_sure
def zq_12 : ab_Q := (128, 2, ([(0, av_k 0), (1, av_s 0), (2, av_s 1)], [], [.inl ((-2147483648), (-1), 0), .inl ((-2147483648), 2147483647, 0)], [], [], [], 0, 0), [], [([], [av_s 2], [.inl ((-2147483648), (-1), 0), .inl ((-2147483648), 2147483647, 0), .inl ((-2147483648), 2147483647, 0)], [], [], [], 0, 0)])  -- mt_X10_sure
def zq_13 : ab_Q := (128, 2, ([(0, av_k 0), (1, av_s 0), (2, av_s 1)], [], [.inl ((-2147483648), 2147483647, 0), .inl ((-2147483648), 2147483647, 0), .inl (0, 6, 0)], [(2, 0, 0)], [(av_k 0, av_c 8, av_s 2)], [], 0, 0), [], [([], [av_s 3], [.inl ((-2147483648), 2147483647, 0), .inl ((-2147483648), 2147483647, 0), .inl (0, 6, 0), .inl ((-2147483648), 2147483647, 0)], [], [], [], 0, 0)])  -- mt_X10_sure
def zq_14 : ab_Q := (128, 2, ([(0, av_k 0), (1, av_s 0), (2, av_s 1)], [], [.inl ((-2147483648), 2147483647, 0), .inl ((-2147483648), (-1), 0)], [], [], [], 0, 0), [], [([], [av_s 2], [.inl ((-2147483648), 2147483647, 0), .inl ((-2147483648), (-1), 0), .inl ((-2147483648), 2147483647, 0)], [], [], [], 0, 0)])  -- mt_X10_sure
def zq_15 : ab_Q := (128, 2, ([(0, av_k 0), (1, av_s 0), (2, av_s 1)], [], [.inl ((-2147483648), 2147483647, 0), .inl (20, 2147483647, 0)], [], [], [], 0, 0), [], [([], [av_s 2], [.inl ((-2147483648), 2147483647, 0), .inl (20, 2147483647, 0), .inl ((-2147483648), 2147483647, 0)], [], [], [], 0, 0)])  -- mt_X10_sure
def z_cs : List ab_Q := [zq_0, zq_1, zq_2, zq_3, zq_4, zq_5, zq_6, zq_7, zq_8, zq_9, zq_10, zq_11, zq_12, zq_13, zq_14, zq_15]
def z_cd : List (List Nat) := (List.range 240).map fun j => bif Nat.beq j 145 then [0, 1] else []
set_option maxRecDepth 100000 in
theorem zk_0 : ab_chkE z_prog cs_mt z_cd z_cs 0 zq_0 (zz mt_X10_readStone) [] = true := by decide +kernel
set_option maxRecDepth 100000 in
theorem zk_1 : ab_chkE z_prog cs_mt z_cd z_cs 1 zq_1 (zz mt_X10_readStone) [] = true := by decide +kernel
set_option maxRecDepth 100000 in
theorem zk_2 : ab_chkE z_prog cs_mt z_cd z_cs 2 zq_2 (zz mt_X10_could) [] = true := by decide +kernel
set_option maxRecDepth 100000 in
theorem zk_3 : ab_chkE z_prog cs_mt z_cd z_cs 3 zq_3 (zz mt_X10_could) [] = true := by decide +kernel
set_option maxRecDepth 100000 in
theorem zk_4 : ab_chkE z_prog cs_mt z_cd z_cs 4 zq_4 (zz mt_X10_could) [] = true := by decide +kernel
set_option maxRecDepth 100000 in
theorem zk_5 : ab_chkE z_prog cs_mt z_cd z_cs 5 zq_5 (zz mt_X10_could) [] = true := by decide +kernel
set_option maxRecDepth 100000 in
theorem zk_6 : ab_chkE z_prog cs_mt z_cd z_cs 6 zq_6 (zz mt_X10_says) [] = true := by decide +kernel
set_option maxRecDepth 100000 in
theorem zk_7 : ab_chkE z_prog cs_mt z_cd z_cs 7 zq_7 (zz mt_X10_says) [] = true := by decide +kernel
set_option maxRecDepth 100000 in
theorem zk_8 : ab_chkE z_prog cs_mt z_cd z_cs 8 zq_8 (zz mt_X10_says) [] = true := by decide +kernel
set_option maxRecDepth 100000 in
theorem zk_9 : ab_chkE z_prog cs_mt z_cd z_cs 9 zq_9 (zz mt_X10_says) [] = true := by decide +kernel
set_option maxRecDepth 100000 in
theorem zk_10 : ab_chkE z_prog cs_mt z_cd z_cs 10 zq_10 (zz mt_X10_sure) [] = true := by decide +kernel
set_option maxRecDepth 100000 in
theorem zk_11 : ab_chkE z_prog cs_mt z_cd z_cs 11 zq_11 (zz mt_X10_sure) [] = true := by decide +kernel
set_option maxRecDepth 100000 in
theorem zk_12 : ab_chkE z_prog cs_mt z_cd z_cs 12 zq_12 (zz mt_X10_sure) [] = true := by decide +kernel
set_option maxRecDepth 100000 in
theorem zk_13 : ab_chkE z_prog cs_mt z_cd z_cs 13 zq_13 (zz mt_X10_sure) [] = true := by decide +kernel
set_option maxRecDepth 100000 in
theorem zk_14 : ab_chkE z_prog cs_mt z_cd z_cs 14 zq_14 (zz mt_X10_sure) [] = true := by decide +kernel
set_option maxRecDepth 100000 in
theorem zk_15 : ab_chkE z_prog cs_mt z_cd z_cs 15 zq_15 (zz mt_X10_sure) [] = true := by decide +kernel
section ZY
variable {l : Launch} {G : ax_T}
theorem z_up {CS : List ab_Q} {i : Nat} {q : ab_Q} (h : ∀ c Q, c < i → CS[c]? = some Q → ab_QOk l G z_prog Q) (hq : CS[i]? = some q) (hk : ab_QOk l G z_prog q) : ∀ c Q, c < i + 1 → CS[c]? = some Q → ab_QOk l G z_prog Q := fun c Q hc hQ => by
  by_cases e : c = i
  · subst e
    rw [hq] at hQ
    cases hQ
    exact hk
  · exact h c Q (by omega) hQ
theorem zy_0 : ∀ c Q, c < 0 → z_cs[c]? = some Q → ab_QOk l G z_prog Q := fun c Q hc => absurd hc (Nat.not_lt_zero c)
theorem zy_1 : ∀ c Q, c < 1 → z_cs[c]? = some Q → ab_QOk l G z_prog Q := z_up (q := zq_0) zy_0 rfl (ab_con_ok z_ok zy_0 (zz_get mi_X10_readStone) rfl zk_0 (fun c hc => nomatch hc))
theorem zy_2 : ∀ c Q, c < 2 → z_cs[c]? = some Q → ab_QOk l G z_prog Q := z_up (q := zq_1) zy_1 rfl (ab_con_ok z_ok zy_1 (zz_get mi_X10_readStone) rfl zk_1 (fun c hc => nomatch hc))
theorem zy_3 : ∀ c Q, c < 3 → z_cs[c]? = some Q → ab_QOk l G z_prog Q := z_up (q := zq_2) zy_2 rfl (ab_con_ok z_ok zy_2 (zz_get mi_X10_could) rfl zk_2 (fun c hc => nomatch hc))
theorem zy_4 : ∀ c Q, c < 4 → z_cs[c]? = some Q → ab_QOk l G z_prog Q := z_up (q := zq_3) zy_3 rfl (ab_con_ok z_ok zy_3 (zz_get mi_X10_could) rfl zk_3 (fun c hc => nomatch hc))
theorem zy_5 : ∀ c Q, c < 5 → z_cs[c]? = some Q → ab_QOk l G z_prog Q := z_up (q := zq_4) zy_4 rfl (ab_con_ok z_ok zy_4 (zz_get mi_X10_could) rfl zk_4 (fun c hc => nomatch hc))
theorem zy_6 : ∀ c Q, c < 6 → z_cs[c]? = some Q → ab_QOk l G z_prog Q := z_up (q := zq_5) zy_5 rfl (ab_con_ok z_ok zy_5 (zz_get mi_X10_could) rfl zk_5 (fun c hc => nomatch hc))
theorem zy_7 : ∀ c Q, c < 7 → z_cs[c]? = some Q → ab_QOk l G z_prog Q := z_up (q := zq_6) zy_6 rfl (ab_con_ok z_ok zy_6 (zz_get mi_X10_says) rfl zk_6 (fun c hc => nomatch hc))
theorem zy_8 : ∀ c Q, c < 8 → z_cs[c]? = some Q → ab_QOk l G z_prog Q := z_up (q := zq_7) zy_7 rfl (ab_con_ok z_ok zy_7 (zz_get mi_X10_says) rfl zk_7 (fun c hc => nomatch hc))
theorem zy_9 : ∀ c Q, c < 9 → z_cs[c]? = some Q → ab_QOk l G z_prog Q := z_up (q := zq_8) zy_8 rfl (ab_con_ok z_ok zy_8 (zz_get mi_X10_says) rfl zk_8 (fun c hc => nomatch hc))
theorem zy_10 : ∀ c Q, c < 10 → z_cs[c]? = some Q → ab_QOk l G z_prog Q := z_up (q := zq_9) zy_9 rfl (ab_con_ok z_ok zy_9 (zz_get mi_X10_says) rfl zk_9 (fun c hc => nomatch hc))
theorem zy_11 : ∀ c Q, c < 11 → z_cs[c]? = some Q → ab_QOk l G z_prog Q := z_up (q := zq_10) zy_10 rfl (ab_con_ok z_ok zy_10 (zz_get mi_X10_sure) rfl zk_10 (fun c hc => nomatch hc))
theorem zy_12 : ∀ c Q, c < 12 → z_cs[c]? = some Q → ab_QOk l G z_prog Q := z_up (q := zq_11) zy_11 rfl (ab_con_ok z_ok zy_11 (zz_get mi_X10_sure) rfl zk_11 (fun c hc => nomatch hc))
theorem zy_13 : ∀ c Q, c < 13 → z_cs[c]? = some Q → ab_QOk l G z_prog Q := z_up (q := zq_12) zy_12 rfl (ab_con_ok z_ok zy_12 (zz_get mi_X10_sure) rfl zk_12 (fun c hc => nomatch hc))
theorem zy_14 : ∀ c Q, c < 14 → z_cs[c]? = some Q → ab_QOk l G z_prog Q := z_up (q := zq_13) zy_13 rfl (ab_con_ok z_ok zy_13 (zz_get mi_X10_sure) rfl zk_13 (fun c hc => nomatch hc))
theorem zy_15 : ∀ c Q, c < 15 → z_cs[c]? = some Q → ab_QOk l G z_prog Q := z_up (q := zq_14) zy_14 rfl (ab_con_ok z_ok zy_14 (zz_get mi_X10_sure) rfl zk_14 (fun c hc => nomatch hc))
theorem zy_16 : ∀ c Q, c < 16 → z_cs[c]? = some Q → ab_QOk l G z_prog Q := z_up (q := zq_15) zy_15 rfl (ab_con_ok z_ok zy_15 (zz_get mi_X10_sure) rfl zk_15 (fun c hc => nomatch hc))
end ZY

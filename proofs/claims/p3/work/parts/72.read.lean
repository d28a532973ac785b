/-! ===== could, says, sure where a stone is read: they are counted (printed by wip/safe/mkz.py) ===== -/
def yq_0 : ab_Q := (145, 27, ([(0, av_k 0), (1, av_s 0)], [], [.inl (0, 5, 0), .inl (0, 6, 0), .inl (0, 29, 0), .inl (1, 20, 0)], [(0, 1, (-1))], [(av_k 0, av_c 8, av_s 1), (av_k 0, av_c 10, av_s 2), (av_k 28, av_c 1, av_s 3)], [], 0, 0), [(55834574848, (-2)), (2147483648, 1), (1073741824, 4), (1073741824, 6), (1073741824, 7), (1073741824, 8), (1, 10)], [([], [av_c 1], [.inl (0, 5, 0), .inl (0, 6, 0), .inl (0, 29, 0), .inl (1, 20, 0), .inl (1, 30, 0)], [(2, 4, (-1))], [(av_k 0, av_c 10, av_s 4)], [], 0, 0)])  -- X10_readStone
def yq_1 : ab_Q := (126, 28, ([(0, av_k 0), (1, av_s 0)], [], [.inl (0, 5, 0), .inl (0, 6, 0), .inl (0, 29, 0), .inl (1, 20, 0)], [(0, 1, (-1))], [(av_k 0, av_c 8, av_s 1), (av_k 0, av_c 10, av_s 2), (av_k 28, av_c 1, av_s 3)], [], 0, 0), [(55834574848, (-2)), (2147483648, 1), (1073741824, 4), (1073741824, 6), (1073741824, 7), (1073741824, 8), (1, 10)], [([], [av_s 4], [.inl (0, 5, 0), .inl (0, 6, 0), .inl (0, 29, 0), .inl (1, 20, 0), .inl ((-2147483648), 2147483647, 0), .inl (1, 30, 0)], [(2, 5, (-1))], [(av_k 0, av_c 10, av_s 5)], [], 0, 0)])  -- X10_could
def yq_2 : ab_Q := (127, 28, ([(0, av_k 0), (1, av_s 0), (2, av_s 1)], [], [.inl (0, 5, 0), .inl ((-2147483648), 2147483647, 0), .inl (0, 6, 0), .inl (0, 29, 0), .inl (1, 20, 0)], [(0, 2, (-1))], [(av_k 0, av_c 8, av_s 2), (av_k 0, av_c 10, av_s 3), (av_k 28, av_c 1, av_s 4)], [], 0, 0), [(55834574848, (-2)), (2147483648, 1), (1073741824, 4), (1073741824, 6), (1073741824, 7), (1073741824, 8), (1, 10)], [([], [av_s 5], [.inl (0, 5, 0), .inl ((-2147483648), 2147483647, 0), .inl (0, 6, 0), .inl (0, 29, 0), .inl (1, 20, 0), .inl ((-2147483648), 2147483647, 0), .inl (1, 30, 0)], [(3, 6, (-1))], [(av_k 0, av_c 10, av_s 6)], [], 0, 0)])  -- X10_says
def yq_3 : ab_Q := (128, 28, ([(0, av_k 0), (1, av_s 0), (2, av_s 1)], [], [.inl (0, 5, 0), .inl (0, 19, 0), .inl (0, 6, 0), .inl (0, 29, 0), .inl (1, 20, 0)], [(0, 2, (-1))], [(av_k 0, av_c 8, av_s 2), (av_k 0, av_c 10, av_s 3), (av_k 28, av_c 1, av_s 4)], [], 0, 0), [(55834574848, (-2)), (2147483648, 1), (1073741824, 4), (1073741824, 6), (1073741824, 7), (1073741824, 8), (1, 10)], [([], [av_s 5], [.inl (0, 5, 0), .inl (0, 19, 0), .inl (0, 6, 0), .inl (0, 29, 0), .inl (1, 20, 0), .inl ((-2147483648), 2147483647, 0), .inl (1, 30, 0)], [(3, 6, (-1))], [(av_k 0, av_c 10, av_s 6)], [], 0, 0)])  -- X10_sure
def y_cs : List ab_Q := cs_all ++ [yq_0, yq_1, yq_2, yq_3]
def y_cd : List (List Nat) := cs_cd.set 145 [222]
set_option maxRecDepth 100000 in
theorem yk_0 : ab_chkE mt_prog cs_mt y_cd y_cs 222 yq_0 mt_X10_readStone [] = true := by decide +kernel
set_option maxRecDepth 100000 in
theorem yk_1 : ab_chkE mt_prog cs_mt y_cd y_cs 223 yq_1 mt_X10_could [] = true := by decide +kernel
set_option maxRecDepth 100000 in
theorem yk_2 : ab_chkE mt_prog cs_mt y_cd y_cs 224 yq_2 mt_X10_says [] = true := by decide +kernel
set_option maxRecDepth 100000 in
theorem yk_3 : ab_chkE mt_prog cs_mt y_cd y_cs 225 yq_3 mt_X10_sure [] = true := by decide +kernel
section YY
variable {l : Launch} {G : ax_T}
theorem yy_0 (H : ab_Hand l G) : ∀ c Q, c < 222 → y_cs[c]? = some Q → ab_QOk l G mt_prog Q := fun c Q hc hQ => by
  unfold y_cs at hQ
  rw [List.getElem?_append_left (show c < cs_all.length from hc)] at hQ
  exact cy_222 H c Q hc hQ
theorem yy_1 (H : ab_Hand l G) : ∀ c Q, c < 223 → y_cs[c]? = some Q → ab_QOk l G mt_prog Q := ab_up (q := yq_0) (yy_0 H) rfl (ab_con_ok mt_ok (yy_0 H) mi_X10_readStone rfl yk_0 (fun c hc => nomatch hc))
theorem yy_2 (H : ab_Hand l G) : ∀ c Q, c < 224 → y_cs[c]? = some Q → ab_QOk l G mt_prog Q := ab_up (q := yq_1) (yy_1 H) rfl (ab_con_ok mt_ok (yy_1 H) mi_X10_could rfl yk_1 (fun c hc => nomatch hc))
theorem yy_3 (H : ab_Hand l G) : ∀ c Q, c < 225 → y_cs[c]? = some Q → ab_QOk l G mt_prog Q := ab_up (q := yq_2) (yy_2 H) rfl (ab_con_ok mt_ok (yy_2 H) mi_X10_says rfl yk_2 (fun c hc => nomatch hc))
theorem yy_4 (H : ab_Hand l G) : ∀ c Q, c < 226 → y_cs[c]? = some Q → ab_QOk l G mt_prog Q := ab_up (q := yq_3) (yy_3 H) rfl (ab_con_ok mt_ok (yy_3 H) mi_X10_sure rfl yk_3 (fun c hc => nomatch hc))
end YY

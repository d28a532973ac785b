def rx_iv : Nat → Int × Int := fun _ => (-2147483648, 2147483647)
set_option maxRecDepth 100000 in
theorem rx_t1 : (ax_call rx_iv mt_prog 6 mt_X5_init [.ref 0] [[.inr (5, ax_born 5 2)]] 1).isSome = true := by decide +kernel
set_option maxRecDepth 100000 in
theorem rx_t2 : (ax_call rx_iv mt_prog 6 mt_X4_init [.ref 0] [[.inr (4, ax_born 4 2)]] 1).isSome = true := by decide +kernel
set_option maxRecDepth 100000 in
theorem rx_t3 : (ax_call rx_iv mt_prog 6 mt_X3_init [.ref 0] [[.inr (3, ax_born 3 3)]] 1).isSome = true := by decide +kernel

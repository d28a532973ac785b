/-! ===== parts of class and reference, over the whole's tables ===== -/
theorem pz_ok {l : Launch} {G : ax_T} (a b w : Int32) (k : Nat) (h : ax_H) (n : Nat) : ab_M l G 40 mt_X10_parts [.ref k, .int a, .int b, .int w] h n (some (.int (pt_T a b w)), h, n) := ⟨pt_parts (d := 37) a b w, fun e => by cases e⟩
theorem pzM_ok {l : Launch} {G : ax_T} (a b w : Int32) (k : Nat) (h : ax_H) (n : Nat) : ab_M l G 40 mt_X11_parts [.ref k, .int a, .int b, .int w] h n (some (.int (pt_T a b w)), h, n) := ⟨pt_partsM (d := 38) a b w, fun e => by cases e⟩

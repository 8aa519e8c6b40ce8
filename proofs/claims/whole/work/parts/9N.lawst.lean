set_option maxHeartbeats 2000000 in
set_option maxRecDepth 100000 in
theorem l_perm {D : va_G} {cy : Nat → ClassId} {x y : Nat} {a : Nat → Nat} {f : Nat → Nat → Nat} {g tk tv : Nat → Nat} {tf : Nat} {H : Heap} {A : Nat → Prop} (hP : va_P D vwCl (w_X10_init cy x a f ++ w_X11_init cy y g) H) (hD : va_D A (w_X10_init cy x a f ++ w_X11_init cy y g)) : va_P D vwCl (q_ws q_T q_N (l_ad x y a f g tk tv tf) cy k_all) H ∧ va_D A (q_ws q_T q_N (l_ad x y a f g tk tv tf) cy k_all) := by
  sorry


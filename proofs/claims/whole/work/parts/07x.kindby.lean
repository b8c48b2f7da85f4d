theorem c_X8_kindBy (l : Launch) (D : va_G) (cA : ClassId) (sa sv : Nat → Nat) (sz : Nat) (p0 : Int32) (res : Int32) (h : f_X8_kindBy p0 = some res) : Met l yX8_kindBy wsX8_kindBy { frames := 8, cells := 0, slots := 0, locals := 300 } (xk_Pc D cA sa sv ([] : va_W) sz [.int p0]) (xk_Q D (va_A ([] : va_W) sz) (some (.int res)) ([] : va_W)) 0 0 (va_A ([] : va_W) sz) := by
  sorry

/-! THE LAW: the two systems' shared state, what is gone on with -/
def GO (k : Nat) (kd fg cs : Nat → Nat) (L G d : Nat) (ka fa ca lt : Nat → Int32) (nn : Nat) (vl : Nat → Int32) (mm : Nat) (bb : Int32) (yk yf yc : Nat → Int32) (ys yl yg yd : Int32) (kp : Nat → Int32) : Prop :=
  AR k ka fa ca kd fg cs ∧ L < 2 ^ k ∧ G < 2 ^ k ∧ d ≤ 999 ∧ LT lt nn ∧ RW vl mm ∧ IM bb yk yf yc ys yl yg yd kp
theorem LT0 (lt : Nat → Int32) : LT lt 0 := ⟨Nat.zero_le _, fun j h => absurd h (Nat.not_lt_zero j)⟩
theorem RW0 (vl : Nat → Int32) : RW vl 0 := ⟨Nat.zero_le _, fun j h => absurd h (Nat.not_lt_zero j)⟩
/-- the class's world beside the model's -/
def WL (cA : ClassId) (a : Nat → Nat) (k L G d nn mm : Nat) (ka fa ca lt vl rf yk yf yc tk tf tc le la to kp dd mny : Nat → Int32) (ys yl yg yd bb ts tl tg td lz at0 st ik cu nw lo : Int32) : va_W := wX9 cA (a 0) (a 1) (a 2) (a 3) (a 4) (a 5) (a 6) (a 7) (a 8) (a 9) (a 10) (a 11) (a 12) (a 13) (a 14) (a 15) (a 16) (a 17) (a 18) ka fa ca (nI k) (nI L) (nI G) (nI d) tk tf tc ts tl tg td yk yf yc ys yl yg yd lt (nI nn) vl (nI mm) lz rf bb ++ wX10 cA (a 19) (a 20) (a 21) (a 22) (a 23) (a 24) (a 25) (a 26) (a 27) (a 28) (a 29) (a 30) (a 31) rf ka fa ca (nI k) (nI d) (nI L) (nI G) lt le la to (nI nn) at0 st kp bb ik cu dd nw mny vl (nI mm) lo
/-- at this place of the law, whatever the shared state is, it goes on to Q -/
def KK (p : Program) (l : Launch) (e : Env) (s : State) (m : MethodId) (below : List Frame) (meth : Method) (c : Code) (Q : State → Prop) (D : va_G) (cA : ClassId) (b : Nat) (a : Nat → Nat) (x3 : Int32) (CE SL pc : Nat) : Prop :=
  ∀ (k L G d nn mm : Nat) (kd fg cs : Nat → Nat) (ka fa ca lt vl rf yk yf yc tk tf tc le la to kp dd mny : Nat → Int32) (ys yl yg yd bb ts tl tg td lz at0 st ik cu nw lo : Int32) (H : Heap) (locs : List Loc) (ls : Array Slot), GO k kd fg cs L G d ka fa ca lt nn vl mm bb yk yf yc ys yl yg yd kp → va_P D vwCl (WL cA a k L G d nn mm ka fa ca lt vl rf yk yf yc tk tf tc le la to kp dd mny ys yl yg yd bb ts tl tg td lz at0 st ik cu nw lo) H → va_D (fun q : Nat => s.heap.size ≤ q) (WL cA a k L G d nn mm ka fa ca lt vl rf yk yf yc tk tf tc le la to kp dd mny ys yl yg yd bb ts tl tg td lz at0 st ik cu nw lo) → va_S (fun q : Nat => s.heap.size ≤ q) s.heap H locs → lv_has ls 4 [(0, .ref b), (1, .ref (a 0)), (2, .ref (a 19)), (3, .int x3)] → W p l e room_1 s m #[Value.ref b] below meth c H locs CE SL Q (F0 m pc ls [])
theorem lcmp_self (x : Int64) : lg_cmp x x = 0 := by
  unfold lg_cmp
  rw [if_neg (show ¬ x > x from Int64.lt_irrefl), if_pos rfl]

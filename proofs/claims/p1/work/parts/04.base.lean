/-! numbers and starts -/
section ST
variable {p : Program} {l : Launch} {e : Env} {R : Room} {s : State} {m : MethodId} {args : Array Value} {below : List Frame} {meth : Method} {c : Code} {cells slots : Nat} {Q : State → Prop}
theorem st0 {D : va_G} {ws : va_W} {A : Nat → Prop} {H0 : Heap} {g : JFrame} (k : ∀ (H : Heap) (locs : List Loc), va_P D vwCl ws H → va_S A H0 H locs → W p l e R s m args below meth c H locs cells slots Q g) (hP : va_P D vwCl ws H0) (hS : va_S A H0 H0 []) : W p l e R s m args below meth c H0 [] cells slots Q g := k H0 [] hP hS
end ST
theorem i_lt (a b : Int32) : a < b ↔ a.toInt < b.toInt := Int32.lt_iff_toInt_lt
theorem i_le (a b : Int32) : a ≤ b ↔ a.toInt ≤ b.toInt := Int32.le_iff_toInt_le
theorem i_eq (a b : Int32) : a = b ↔ a.toInt = b.toInt := Int32.toInt_inj.symm
theorem and_m1 (x : Int32) : x &&& (-1) = x := by
  apply Int32.toBitVec_inj.mp
  rw [Int32.toBitVec_and]
  exact BitVec.and_allOnes
theorem tl_m1 : (-1 : Int32).toInt = -1 := by decide
theorem tl_0 : (0 : Int32).toInt = 0 := by decide
theorem tl_1 : (1 : Int32).toInt = 1 := by decide
theorem tl_2 : (2 : Int32).toInt = 2 := by decide
theorem tl_3 : (3 : Int32).toInt = 3 := by decide
theorem tl_4 : (4 : Int32).toInt = 4 := by decide
theorem tl_20 : (20 : Int32).toInt = 20 := by decide
theorem tl_99 : (99 : Int32).toInt = 99 := by decide
theorem tl_1000 : (1000 : Int32).toInt = 1000 := by decide
theorem tl_100000 : (100000 : Int32).toInt = 100000 := by decide
theorem sw_0_14 (x : Int32) : (x.toInt < 0 ∨ 14 < x.toInt) ∨ x = 0 ∨ x = 1 ∨ x = 2 ∨ x = 3 ∨ x = 4 ∨ x = 5 ∨ x = 6 ∨ x = 7 ∨ x = 8 ∨ x = 9 ∨ x = 10 ∨ x = 11 ∨ x = 12 ∨ x = 13 ∨ x = 14 := by
  simp only [i_eq, show (0 : Int32).toInt = 0 from by decide, show (1 : Int32).toInt = 1 from by decide, show (2 : Int32).toInt = 2 from by decide, show (3 : Int32).toInt = 3 from by decide, show (4 : Int32).toInt = 4 from by decide, show (5 : Int32).toInt = 5 from by decide, show (6 : Int32).toInt = 6 from by decide, show (7 : Int32).toInt = 7 from by decide, show (8 : Int32).toInt = 8 from by decide, show (9 : Int32).toInt = 9 from by decide, show (10 : Int32).toInt = 10 from by decide, show (11 : Int32).toInt = 11 from by decide, show (12 : Int32).toInt = 12 from by decide, show (13 : Int32).toInt = 13 from by decide, show (14 : Int32).toInt = 14 from by decide]
  omega

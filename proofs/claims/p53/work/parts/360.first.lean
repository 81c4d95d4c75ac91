theorem dL_law_0 : decode cL_law 0 = .ok (.new 7, 3) := by decide +kernel
theorem dL_law_3 : decode cL_law 3 = .ok (.dup, 1) := by decide +kernel
theorem dL_law_4 : decode cL_law 4 = .ok (.invokespecial 9, 3) := by decide +kernel
theorem dL_law_7 : decode cL_law 7 = .ok (.astore_n 1, 1) := by decide +kernel
theorem dL_law_8 : decode cL_law 8 = .ok (.new 10, 3) := by decide +kernel
theorem dL_law_11 : decode cL_law 11 = .ok (.dup, 1) := by decide +kernel
theorem dL_law_12 : decode cL_law 12 = .ok (.invokespecial 12, 3) := by decide +kernel
theorem dL_law_15 : decode cL_law 15 = .ok (.astore_n 2, 1) := by decide +kernel
theorem dL_law_16 : decode cL_law 16 = .ok (.iconst 0, 1) := by decide +kernel
theorem dL_law_17 : decode cL_law 17 = .ok (.istore_n 3, 1) := by decide +kernel
/-! the first state: the cells behind the two constructors -/
def adW (w : va_W) (i : Nat) : Nat := (w.getD i (0, .inr (0, []))).1
def fW (w : va_W) (i : Nat) : va_E := (w.getD i (0, .inr (0, []))).2
theorem wl_of (w : va_W) (h : w.length = NLc) : wl (adW w) (fW w) = w := by
  apply List.ext_getElem?
  intro i
  by_cases hi : i < NLc
  · rw [wl_get hi]
    have h2 : i < w.length := by rw [h]; exact hi
    rw [List.getElem?_eq_getElem h2]
    unfold adW fW
    rw [List.getD_eq_getElem?_getD, List.getElem?_eq_getElem h2]
    rfl
  · rw [wl_none hi, List.getElem?_eq_none (by rw [h]; exact Nat.not_lt.mp hi)]
def wXM (cy : Nat → ClassId) (x0 m0 : Nat) (u v : SU) : va_W := [(x0, .inr (8, [.ref (u.1 0), .ref (u.1 1), .ref (u.1 2), .ref (u.1 3), .ref (u.1 4), .int 0, .ref (u.1 5), .ref (u.1 6), .ref (u.1 7), .int 0, .ref (u.1 8), .ref (u.1 9), .int 0])), ((u.1 0), .inr (3, [.int 0, .int (-1), .int 0, .ref (u.1 10), .ref (u.1 11), .ref (u.1 12), .ref (u.1 13), .int 0, .int 0, .int 0, .int 0, .int 0, .long 0])), ((u.1 10), .inl (cy 1, 1600, .inl zI)), ((u.1 12), .inl (cy 2, 10, .inr (.inl zJ))), ((u.1 13), .inl (cy 2, 14, .inr (.inl (dW (u.2 0))))), ((u.1 2), .inr (0, [.ref (u.1 14), .int 0, .int 0, .int 0])), ((u.1 14), .inl (cy 4, 41, .inr (.inr (.inr (.inr (u.2 1)))))), ((u.1 3), .inr (4, [.ref (u.1 15), .int 0, .int 0, .int 0, .int 0])), ((u.1 15), .inl (cy 0, 12, .inl zI)), ((u.1 4), .inl (cy 4, 3, .inr (.inr (.inr (.inr (u.2 2)))))), ((u.1 5), .inr (2, [.int 0, .ref (u.1 16), .ref (u.1 17), .ref (u.1 18), .ref (u.1 19), .int 0, .ref (u.1 20), .ref (u.1 21), .ref (u.1 22), .int 0])), ((u.1 16), .inl (cy 0, 12, .inl zI)), ((u.1 17), .inl (cy 0, 10, .inl zI)), ((u.1 18), .inl (cy 0, 10, .inl zI)), ((u.1 20), .inl (cy 0, 12, .inl zI)), ((u.1 21), .inl (cy 0, 10, .inl zI)), ((u.1 22), .inl (cy 0, 1200, .inl zI)), ((u.1 6), .inl (cy 0, 144, .inl zI)), ((u.1 7), .inl (cy 0, 10, .inl zI)), ((u.1 8), .inr (7, [.int 0, .ref (u.1 23), .ref (u.1 24), .ref (u.1 25), .ref (u.1 26)])), ((u.1 23), .inl (cy 0, 30, .inl zI)), ((u.1 24), .inl (cy 3, 30, .inl zI)), ((u.1 25), .inl (cy 0, 30, .inl zI)), ((u.1 26), .inl (cy 0, 30, .inl zI)), ((u.1 9), .inr (6, [.int 0, .ref (u.1 27), .ref (u.1 28)])), ((u.1 27), .inl (cy 0, 79, .inl zI)), ((u.1 28), .inl (cy 0, 79, .inl zI)), ((u.1 1), .inr (5, [.int 0, .int 0, .int 0, .int 0, .int 0, .ref (u.1 29), .ref (u.1 30), .ref (u.1 31), .ref (u.1 32), .ref (u.1 33), .ref (u.1 34), .ref (u.1 35)])), ((u.1 29), .inl (cy 0, 10, .inl zI)), ((u.1 30), .inl (cy 0, 10, .inl zI)), ((u.1 31), .inl (cy 0, 10, .inl zI)), ((u.1 32), .inl (cy 0, 12, .inl zI)), ((u.1 33), .inl (cy 0, 12, .inl zI)), ((u.1 34), .inl (cy 0, 12, .inl zI)), ((u.1 35), .inr (1, [.ref (u.1 36), .int 0, .int 0, .ref (u.1 37), .ref (u.1 38), .int 0])), ((u.1 36), .inl (cy 0, 269, .inl zI)), ((u.1 37), .inl (cy 0, 14, .inl zI)), ((u.1 38), .inl (cy 0, 30, .inl zI)), ((u.1 11), .inr (5, [.int 0, .int 0, .int 0, .int 0, .int 0, .ref (u.1 39), .ref (u.1 40), .ref (u.1 41), .ref (u.1 42), .ref (u.1 43), .ref (u.1 44), .ref (u.1 45)])), ((u.1 39), .inl (cy 0, 10, .inl zI)), ((u.1 40), .inl (cy 0, 10, .inl zI)), ((u.1 41), .inl (cy 0, 10, .inl zI)), ((u.1 42), .inl (cy 0, 12, .inl zI)), ((u.1 43), .inl (cy 0, 12, .inl zI)), ((u.1 44), .inl (cy 0, 12, .inl zI)), ((u.1 45), .inr (1, [.ref (u.1 46), .int 0, .int 0, .ref (u.1 47), .ref (u.1 48), .int 0])), ((u.1 46), .inl (cy 0, 269, .inl zI)), ((u.1 47), .inl (cy 0, 14, .inl zI)), ((u.1 48), .inl (cy 0, 30, .inl zI)), ((u.1 19), .inr (5, [.int 0, .int 0, .int 0, .int 0, .int 0, .ref (u.1 49), .ref (u.1 50), .ref (u.1 51), .ref (u.1 52), .ref (u.1 53), .ref (u.1 54), .ref (u.1 55)])), ((u.1 49), .inl (cy 0, 10, .inl zI)), ((u.1 50), .inl (cy 0, 10, .inl zI)), ((u.1 51), .inl (cy 0, 10, .inl zI)), ((u.1 52), .inl (cy 0, 12, .inl zI)), ((u.1 53), .inl (cy 0, 12, .inl zI)), ((u.1 54), .inl (cy 0, 12, .inl zI)), ((u.1 55), .inr (1, [.ref (u.1 56), .int 0, .int 0, .ref (u.1 57), .ref (u.1 58), .int 0])), ((u.1 56), .inl (cy 0, 269, .inl zI)), ((u.1 57), .inl (cy 0, 14, .inl zI)), ((u.1 58), .inl (cy 0, 30, .inl zI)), ((u.1 59), .inr (4, [.ref (u.1 60), .int 0, .int 0, .int 0, .int 0])), ((u.1 60), .inl (cy 0, 12, .inl zI)), ((u.1 61), .inr (4, [.ref (u.1 62), .int 0, .int 0, .int 0, .int 0])), ((u.1 62), .inl (cy 0, 12, .inl zI)), ((u.1 63), .inr (4, [.ref (u.1 64), .int 0, .int 0, .int 0, .int 0])), ((u.1 64), .inl (cy 0, 12, .inl zI)), ((u.1 65), .inr (4, [.ref (u.1 66), .int 0, .int 0, .int 0, .int 0])), ((u.1 66), .inl (cy 0, 12, .inl zI)), ((u.1 67), .inr (4, [.ref (u.1 68), .int 0, .int 0, .int 0, .int 0])), ((u.1 68), .inl (cy 0, 12, .inl zI)), ((u.1 69), .inr (4, [.ref (u.1 70), .int 0, .int 0, .int 0, .int 0])), ((u.1 70), .inl (cy 0, 12, .inl zI)), ((u.1 71), .inr (4, [.ref (u.1 72), .int 0, .int 0, .int 0, .int 0])), ((u.1 72), .inl (cy 0, 12, .inl zI)), ((u.1 73), .inr (4, [.ref (u.1 74), .int 0, .int 0, .int 0, .int 0])), ((u.1 74), .inl (cy 0, 12, .inl zI)), ((u.1 75), .inr (4, [.ref (u.1 76), .int 0, .int 0, .int 0, .int 0])), ((u.1 76), .inl (cy 0, 12, .inl zI)), ((u.1 77), .inr (4, [.ref (u.1 78), .int 0, .int 0, .int 0, .int 0])), ((u.1 78), .inl (cy 0, 12, .inl zI)), ((u.1 79), .inr (4, [.ref (u.1 80), .int 0, .int 0, .int 0, .int 0])), ((u.1 80), .inl (cy 0, 12, .inl zI)), ((u.1 81), .inr (4, [.ref (u.1 82), .int 0, .int 0, .int 0, .int 0])), ((u.1 82), .inl (cy 0, 12, .inl zI)), ((u.1 83), .inr (4, [.ref (u.1 84), .int 0, .int 0, .int 0, .int 0])), ((u.1 84), .inl (cy 0, 12, .inl zI)), ((u.1 85), .inr (4, [.ref (u.1 86), .int 0, .int 0, .int 0, .int 0])), ((u.1 86), .inl (cy 0, 12, .inl zI)), ((u.1 87), .inr (4, [.ref (u.1 88), .int 0, .int 0, .int 0, .int 0])), ((u.1 88), .inl (cy 0, 12, .inl zI)), ((u.1 89), .inr (4, [.ref (u.1 90), .int 0, .int 0, .int 0, .int 0])), ((u.1 90), .inl (cy 0, 12, .inl zI)), ((u.1 91), .inr (4, [.ref (u.1 92), .int 0, .int 0, .int 0, .int 0])), ((u.1 92), .inl (cy 0, 12, .inl zI)), ((u.1 93), .inr (4, [.ref (u.1 94), .int 0, .int 0, .int 0, .int 0])), ((u.1 94), .inl (cy 0, 12, .inl zI)), ((u.1 95), .inr (4, [.ref (u.1 96), .int 0, .int 0, .int 0, .int 0])), ((u.1 96), .inl (cy 0, 12, .inl zI)), ((u.1 97), .inr (4, [.ref (u.1 98), .int 0, .int 0, .int 0, .int 0])), ((u.1 98), .inl (cy 0, 12, .inl zI)), ((u.1 99), .inr (4, [.ref (u.1 100), .int 0, .int 0, .int 0, .int 0])), ((u.1 100), .inl (cy 0, 12, .inl zI)), ((u.1 101), .inr (4, [.ref (u.1 102), .int 0, .int 0, .int 0, .int 0])), ((u.1 102), .inl (cy 0, 12, .inl zI)), ((u.1 103), .inr (4, [.ref (u.1 104), .int 0, .int 0, .int 0, .int 0])), ((u.1 104), .inl (cy 0, 12, .inl zI)), ((u.1 105), .inr (4, [.ref (u.1 106), .int 0, .int 0, .int 0, .int 0])), ((u.1 106), .inl (cy 0, 12, .inl zI)), ((u.1 107), .inr (4, [.ref (u.1 108), .int 0, .int 0, .int 0, .int 0])), ((u.1 108), .inl (cy 0, 12, .inl zI)), ((u.1 109), .inr (4, [.ref (u.1 110), .int 0, .int 0, .int 0, .int 0])), ((u.1 110), .inl (cy 0, 12, .inl zI)), ((u.1 111), .inr (4, [.ref (u.1 112), .int 0, .int 0, .int 0, .int 0])), ((u.1 112), .inl (cy 0, 12, .inl zI)), ((u.1 113), .inr (4, [.ref (u.1 114), .int 0, .int 0, .int 0, .int 0])), ((u.1 114), .inl (cy 0, 12, .inl zI)), ((u.1 115), .inr (4, [.ref (u.1 116), .int 0, .int 0, .int 0, .int 0])), ((u.1 116), .inl (cy 0, 12, .inl zI)), ((u.1 117), .inr (4, [.ref (u.1 118), .int 0, .int 0, .int 0, .int 0])), ((u.1 118), .inl (cy 0, 12, .inl zI)), ((u.1 119), .inr (4, [.ref (u.1 120), .int 0, .int 0, .int 0, .int 0])), ((u.1 120), .inl (cy 0, 12, .inl zI)), ((u.1 121), .inr (4, [.ref (u.1 122), .int 0, .int 0, .int 0, .int 0])), ((u.1 122), .inl (cy 0, 12, .inl zI)), ((u.1 123), .inr (4, [.ref (u.1 124), .int 0, .int 0, .int 0, .int 0])), ((u.1 124), .inl (cy 0, 12, .inl zI)), ((u.1 125), .inr (4, [.ref (u.1 126), .int 0, .int 0, .int 0, .int 0])), ((u.1 126), .inl (cy 0, 12, .inl zI)), ((u.1 127), .inr (4, [.ref (u.1 128), .int 0, .int 0, .int 0, .int 0])), ((u.1 128), .inl (cy 0, 12, .inl zI)), ((u.1 129), .inr (4, [.ref (u.1 130), .int 0, .int 0, .int 0, .int 0])), ((u.1 130), .inl (cy 0, 12, .inl zI)), ((u.1 131), .inr (4, [.ref (u.1 132), .int 0, .int 0, .int 0, .int 0])), ((u.1 132), .inl (cy 0, 12, .inl zI)), ((u.1 133), .inr (4, [.ref (u.1 134), .int 0, .int 0, .int 0, .int 0])), ((u.1 134), .inl (cy 0, 12, .inl zI)), ((u.1 135), .inr (4, [.ref (u.1 136), .int 0, .int 0, .int 0, .int 0])), ((u.1 136), .inl (cy 0, 12, .inl zI)), ((u.1 137), .inr (4, [.ref (u.1 138), .int 0, .int 0, .int 0, .int 0])), ((u.1 138), .inl (cy 0, 12, .inl zI)), ((u.1 139), .inr (4, [.ref (u.1 140), .int 0, .int 0, .int 0, .int 0])), ((u.1 140), .inl (cy 0, 12, .inl zI)), ((u.1 141), .inr (4, [.ref (u.1 142), .int 0, .int 0, .int 0, .int 0])), ((u.1 142), .inl (cy 0, 12, .inl zI)), ((u.1 143), .inr (4, [.ref (u.1 144), .int 0, .int 0, .int 0, .int 0])), ((u.1 144), .inl (cy 0, 12, .inl zI)), ((u.1 145), .inr (4, [.ref (u.1 146), .int 0, .int 0, .int 0, .int 0])), ((u.1 146), .inl (cy 0, 12, .inl zI)), (m0, .inr (9, [.ref (v.1 0), .ref (v.1 1), .int 0, .int 0, .int 0, .int (-1), .int 0, .int 0, .int 0, .int 0, .long 0, .ref (v.1 2), .ref (v.1 3), .ref (v.1 4), .ref (v.1 5), .ref (v.1 6), .ref (v.1 7), .ref (v.1 8), .ref (v.1 9), .ref (v.1 10), .ref (v.1 11), .ref (v.1 12), .ref (v.1 13), .ref (v.1 14), .ref (v.1 15), .ref (v.1 16), .ref (v.1 17), .ref (v.1 18), .ref (v.1 19), .int 0, .int 0, .int 0, .int 0, .int 0, .int 0, .int 0, .int 0, .ref (v.1 20), .ref (v.1 21), .int (-1), .int 0, .int (-1), .ref (v.1 22), .ref (v.1 23), .ref (v.1 24), .int 0, .int 0, .ref (v.1 25), .int 0, .int 0, .ref (v.1 26), .ref (v.1 27), .ref (v.1 28), .ref (v.1 29), .ref (v.1 30), .ref (v.1 31), .ref (v.1 32), .ref (v.1 33), .int 0, .int 0, .int 0, .int 0, .ref (v.1 34), .ref (v.1 35)])), ((v.1 0), .inl (cy 1, 1620, .inl zI)), ((v.1 1), .inl (cy 1, 1600, .inl zI)), ((v.1 2), .inl (cy 0, 2, .inl zI)), ((v.1 3), .inl (cy 0, 2, .inl zI)), ((v.1 4), .inl (cy 0, 2, .inl zI)), ((v.1 5), .inl (cy 0, 2, .inl zI)), ((v.1 6), .inl (cy 0, 2, .inl zI)), ((v.1 7), .inl (cy 0, 2, .inl zI)), ((v.1 8), .inl (cy 0, 20, .inl zI)), ((v.1 9), .inl (cy 0, 24, .inl zI)), ((v.1 10), .inl (cy 0, 24, .inl zI)), ((v.1 11), .inl (cy 0, 24, .inl zI)), ((v.1 12), .inl (cy 0, 2, .inl zI)), ((v.1 13), .inl (cy 0, 2, .inl zI)), ((v.1 14), .inl (cy 2, 20, .inr (.inl zJ))), ((v.1 15), .inl (cy 0, 1120, .inl zI)), ((v.1 16), .inl (cy 0, 1120, .inl zI)), ((v.1 17), .inl (cy 0, 90, .inl zI)), ((v.1 18), .inl (cy 0, 90, .inl zI)), ((v.1 19), .inl (cy 0, 60, .inl zI)), ((v.1 20), .inl (cy 0, 16, .inl zI)), ((v.1 21), .inl (cy 0, 16, .inl zI)), ((v.1 22), .inl (cy 0, 12, .inl zI)), ((v.1 23), .inl (cy 0, 10, .inl zI)), ((v.1 24), .inl (cy 0, 656, .inl zI)), ((v.1 25), .inl (cy 0, 10, .inl zI)), ((v.1 26), .inl (cy 0, 288, .inl zI)), ((v.1 27), .inl (cy 0, 79, .inl zI)), ((v.1 28), .inl (cy 0, 79, .inl zI)), ((v.1 29), .inl (cy 0, 30, .inl zI)), ((v.1 30), .inl (cy 0, 30, .inl zI)), ((v.1 31), .inl (cy 0, 30, .inl zI)), ((v.1 32), .inl (cy 0, 30, .inl zI)), ((v.1 33), .inl (cy 3, 79, .inl zI)), ((v.1 34), .inl (cy 0, 48, .inl zI)), ((v.1 35), .inl (cy 3, 3, .inl zI))]
def FX (u : SU) : Prop := u.2 1 0 = some (u.1 59) ∧ u.2 1 1 = some (u.1 61) ∧ u.2 1 2 = some (u.1 63) ∧ u.2 1 3 = some (u.1 65) ∧ u.2 1 4 = some (u.1 67) ∧ u.2 1 5 = some (u.1 69) ∧ u.2 1 6 = some (u.1 71) ∧ u.2 1 7 = some (u.1 73) ∧ u.2 1 8 = some (u.1 75) ∧ u.2 1 9 = some (u.1 77) ∧ u.2 1 10 = some (u.1 79) ∧ u.2 1 11 = some (u.1 81) ∧ u.2 1 12 = some (u.1 83) ∧ u.2 1 13 = some (u.1 85) ∧ u.2 1 14 = some (u.1 87) ∧ u.2 1 15 = some (u.1 89) ∧ u.2 1 16 = some (u.1 91) ∧ u.2 1 17 = some (u.1 93) ∧ u.2 1 18 = some (u.1 95) ∧ u.2 1 19 = some (u.1 97) ∧ u.2 1 20 = some (u.1 99) ∧ u.2 1 21 = some (u.1 101) ∧ u.2 1 22 = some (u.1 103) ∧ u.2 1 23 = some (u.1 105) ∧ u.2 1 24 = some (u.1 107) ∧ u.2 1 25 = some (u.1 109) ∧ u.2 1 26 = some (u.1 111) ∧ u.2 1 27 = some (u.1 113) ∧ u.2 1 28 = some (u.1 115) ∧ u.2 1 29 = some (u.1 117) ∧ u.2 1 30 = some (u.1 119) ∧ u.2 1 31 = some (u.1 121) ∧ u.2 1 32 = some (u.1 123) ∧ u.2 1 33 = some (u.1 125) ∧ u.2 1 34 = some (u.1 127) ∧ u.2 1 35 = some (u.1 129) ∧ u.2 1 36 = some (u.1 131) ∧ u.2 1 37 = some (u.1 133) ∧ u.2 1 38 = some (u.1 135) ∧ u.2 1 39 = some (u.1 137) ∧ u.2 1 40 = some (u.1 139) ∧ u.2 2 0 = some (u.1 141) ∧ u.2 2 1 = some (u.1 143) ∧ u.2 2 2 = some (u.1 145)
theorem zI_r {lo hi : Int} (h : lo ≤ 0 ∧ 0 ≤ hi) (md r : Nat) : ∀ k, k % md = r → lo ≤ (zI k).toInt ∧ (zI k).toInt ≤ hi := fun k _ => by
  have e : (zI k).toInt = 0 := rfl
  rw [e]
  exact h
set_option maxHeartbeats 8000000 in
set_option maxRecDepth 100000 in
theorem ty0x (cy : Nat → ClassId) (x0 m0 : Nat) (u v : SU) (hF : FX u) : TYx (adW (wXM cy x0 m0 u v)) cy (fW (wXM cy x0 m0 u v)) 0 0 0 (fW (wXM cy x0 m0 u v)) := by
  obtain ⟨hfx0, hfx1, hfx2, hfx3, hfx4, hfx5, hfx6, hfx7, hfx8, hfx9, hfx10, hfx11, hfx12, hfx13, hfx14, hfx15, hfx16, hfx17, hfx18, hfx19, hfx20, hfx21, hfx22, hfx23, hfx24, hfx25, hfx26, hfx27, hfx28, hfx29, hfx30, hfx31, hfx32, hfx33, hfx34, hfx35, hfx36, hfx37, hfx38, hfx39, hfx40, hfx41, hfx42, hfx43⟩ := hF
  refine ⟨fun i hi => ?_, fun _ _ => rfl⟩
  match i, hi with
  | 0, _ => exact ⟨27, (0 : Int32), (0 : Int32), rfl, Or.inl rfl, by decide⟩
  | 1, _ => exact ⟨(0 : Int32), ((-1) : Int32), 38, (0 : Int32), (0 : Int32), (0 : Int32), (0 : Int32), (0 : Int64), rfl, by decide, Or.inr (Or.inl rfl), by decide⟩
  | 2, _ => exact ⟨_, rfl⟩
  | 3, _ => exact ⟨_, rfl⟩
  | 4, _ => exact ⟨_, rfl⟩
  | 5, _ => exact ⟨(0 : Int32), (0 : Int32), (0 : Int32), rfl, by decide⟩
  | 6, _ => exact ⟨_, rfl, fun k hk => by
    rcases (show k = 0 ∨ k = 1 ∨ k = 2 ∨ k = 3 ∨ k = 4 ∨ k = 5 ∨ k = 6 ∨ k = 7 ∨ k = 8 ∨ k = 9 ∨ k = 10 ∨ k = 11 ∨ k = 12 ∨ k = 13 ∨ k = 14 ∨ k = 15 ∨ k = 16 ∨ k = 17 ∨ k = 18 ∨ k = 19 ∨ k = 20 ∨ k = 21 ∨ k = 22 ∨ k = 23 ∨ k = 24 ∨ k = 25 ∨ k = 26 ∨ k = 27 ∨ k = 28 ∨ k = 29 ∨ k = 30 ∨ k = 31 ∨ k = 32 ∨ k = 33 ∨ k = 34 ∨ k = 35 ∨ k = 36 ∨ k = 37 ∨ k = 38 ∨ k = 39 ∨ k = 40 by omega) with rfl | rfl | rfl | rfl | rfl | rfl | rfl | rfl | rfl | rfl | rfl | rfl | rfl | rfl | rfl | rfl | rfl | rfl | rfl | rfl | rfl | rfl | rfl | rfl | rfl | rfl | rfl | rfl | rfl | rfl | rfl | rfl | rfl | rfl | rfl | rfl | rfl | rfl | rfl | rfl | rfl
    · exact hfx0
    · exact hfx1
    · exact hfx2
    · exact hfx3
    · exact hfx4
    · exact hfx5
    · exact hfx6
    · exact hfx7
    · exact hfx8
    · exact hfx9
    · exact hfx10
    · exact hfx11
    · exact hfx12
    · exact hfx13
    · exact hfx14
    · exact hfx15
    · exact hfx16
    · exact hfx17
    · exact hfx18
    · exact hfx19
    · exact hfx20
    · exact hfx21
    · exact hfx22
    · exact hfx23
    · exact hfx24
    · exact hfx25
    · exact hfx26
    · exact hfx27
    · exact hfx28
    · exact hfx29
    · exact hfx30
    · exact hfx31
    · exact hfx32
    · exact hfx33
    · exact hfx34
    · exact hfx35
    · exact hfx36
    · exact hfx37
    · exact hfx38
    · exact hfx39
    · exact hfx40⟩
  | 7, _ => exact ⟨(0 : Int32), (0 : Int32), (0 : Int32), (0 : Int32), rfl, by decide⟩
  | 8, _ => exact ⟨_, rfl⟩
  | 9, _ => exact ⟨_, rfl, fun k hk => by
    rcases (show k = 0 ∨ k = 1 ∨ k = 2 by omega) with rfl | rfl | rfl
    · exact hfx41
    · exact hfx42
    · exact hfx43⟩
  | 10, _ => exact ⟨(0 : Int32), 49, (0 : Int32), (0 : Int32), rfl, Or.inr (Or.inr rfl)⟩
  | 11, _ => exact ⟨_, rfl⟩
  | 12, _ => exact ⟨_, rfl⟩
  | 13, _ => exact ⟨_, rfl⟩
  | 14, _ => exact ⟨_, rfl⟩
  | 15, _ => exact ⟨_, rfl⟩
  | 16, _ => exact ⟨_, rfl⟩
  | 17, _ => exact ⟨_, rfl⟩
  | 18, _ => exact ⟨_, rfl⟩
  | 19, _ => exact ⟨(0 : Int32), rfl, by decide⟩
  | 20, _ => exact ⟨_, rfl⟩
  | 21, _ => exact ⟨_, rfl⟩
  | 22, _ => exact ⟨_, rfl⟩
  | 23, _ => exact ⟨_, rfl⟩
  | 24, _ => exact ⟨(0 : Int32), rfl, by decide⟩
  | 25, _ => exact ⟨_, rfl⟩
  | 26, _ => exact ⟨_, rfl⟩
  | 27, _ => exact ⟨(0 : Int32), (0 : Int32), (0 : Int32), (0 : Int32), (0 : Int32), rfl, by decide, by decide⟩
  | 28, _ => exact ⟨_, rfl⟩
  | 29, _ => exact ⟨_, rfl⟩
  | 30, _ => exact ⟨_, rfl⟩
  | 31, _ => exact ⟨_, rfl, zI_r (by decide) _ _⟩
  | 32, _ => exact ⟨_, rfl, zI_r (by decide) _ _⟩
  | 33, _ => exact ⟨_, rfl⟩
  | 34, _ => exact ⟨(0 : Int32), (0 : Int32), (0 : Int32), rfl, by decide, by decide⟩
  | 35, _ => exact ⟨_, rfl⟩
  | 36, _ => exact ⟨_, rfl⟩
  | 37, _ => exact ⟨_, rfl⟩
  | 38, _ => exact ⟨(0 : Int32), (0 : Int32), (0 : Int32), (0 : Int32), (0 : Int32), rfl, by decide, by decide⟩
  | 39, _ => exact ⟨_, rfl⟩
  | 40, _ => exact ⟨_, rfl⟩
  | 41, _ => exact ⟨_, rfl⟩
  | 42, _ => exact ⟨_, rfl, zI_r (by decide) _ _⟩
  | 43, _ => exact ⟨_, rfl, zI_r (by decide) _ _⟩
  | 44, _ => exact ⟨_, rfl⟩
  | 45, _ => exact ⟨(0 : Int32), (0 : Int32), (0 : Int32), rfl, by decide, by decide⟩
  | 46, _ => exact ⟨_, rfl⟩
  | 47, _ => exact ⟨_, rfl⟩
  | 48, _ => exact ⟨_, rfl⟩
  | 49, _ => exact ⟨(0 : Int32), (0 : Int32), (0 : Int32), (0 : Int32), (0 : Int32), rfl, by decide, by decide⟩
  | 50, _ => exact ⟨_, rfl⟩
  | 51, _ => exact ⟨_, rfl⟩
  | 52, _ => exact ⟨_, rfl⟩
  | 53, _ => exact ⟨_, rfl, zI_r (by decide) _ _⟩
  | 54, _ => exact ⟨_, rfl, zI_r (by decide) _ _⟩
  | 55, _ => exact ⟨_, rfl⟩
  | 56, _ => exact ⟨(0 : Int32), (0 : Int32), (0 : Int32), rfl, by decide, by decide⟩
  | 57, _ => exact ⟨_, rfl⟩
  | 58, _ => exact ⟨_, rfl⟩
  | 59, _ => exact ⟨_, rfl⟩
  | 60, _ => exact ⟨(0 : Int32), (0 : Int32), (0 : Int32), (0 : Int32), rfl, by decide⟩
  | 61, _ => exact ⟨_, rfl⟩
  | 62, _ => exact ⟨(0 : Int32), (0 : Int32), (0 : Int32), (0 : Int32), rfl, by decide⟩
  | 63, _ => exact ⟨_, rfl⟩
  | 64, _ => exact ⟨(0 : Int32), (0 : Int32), (0 : Int32), (0 : Int32), rfl, by decide⟩
  | 65, _ => exact ⟨_, rfl⟩
  | 66, _ => exact ⟨(0 : Int32), (0 : Int32), (0 : Int32), (0 : Int32), rfl, by decide⟩
  | 67, _ => exact ⟨_, rfl⟩
  | 68, _ => exact ⟨(0 : Int32), (0 : Int32), (0 : Int32), (0 : Int32), rfl, by decide⟩
  | 69, _ => exact ⟨_, rfl⟩
  | 70, _ => exact ⟨(0 : Int32), (0 : Int32), (0 : Int32), (0 : Int32), rfl, by decide⟩
  | 71, _ => exact ⟨_, rfl⟩
  | 72, _ => exact ⟨(0 : Int32), (0 : Int32), (0 : Int32), (0 : Int32), rfl, by decide⟩
  | 73, _ => exact ⟨_, rfl⟩
  | 74, _ => exact ⟨(0 : Int32), (0 : Int32), (0 : Int32), (0 : Int32), rfl, by decide⟩
  | 75, _ => exact ⟨_, rfl⟩
  | 76, _ => exact ⟨(0 : Int32), (0 : Int32), (0 : Int32), (0 : Int32), rfl, by decide⟩
  | 77, _ => exact ⟨_, rfl⟩
  | 78, _ => exact ⟨(0 : Int32), (0 : Int32), (0 : Int32), (0 : Int32), rfl, by decide⟩
  | 79, _ => exact ⟨_, rfl⟩
  | 80, _ => exact ⟨(0 : Int32), (0 : Int32), (0 : Int32), (0 : Int32), rfl, by decide⟩
  | 81, _ => exact ⟨_, rfl⟩
  | 82, _ => exact ⟨(0 : Int32), (0 : Int32), (0 : Int32), (0 : Int32), rfl, by decide⟩
  | 83, _ => exact ⟨_, rfl⟩
  | 84, _ => exact ⟨(0 : Int32), (0 : Int32), (0 : Int32), (0 : Int32), rfl, by decide⟩
  | 85, _ => exact ⟨_, rfl⟩
  | 86, _ => exact ⟨(0 : Int32), (0 : Int32), (0 : Int32), (0 : Int32), rfl, by decide⟩
  | 87, _ => exact ⟨_, rfl⟩
  | 88, _ => exact ⟨(0 : Int32), (0 : Int32), (0 : Int32), (0 : Int32), rfl, by decide⟩
  | 89, _ => exact ⟨_, rfl⟩
  | 90, _ => exact ⟨(0 : Int32), (0 : Int32), (0 : Int32), (0 : Int32), rfl, by decide⟩
  | 91, _ => exact ⟨_, rfl⟩
  | 92, _ => exact ⟨(0 : Int32), (0 : Int32), (0 : Int32), (0 : Int32), rfl, by decide⟩
  | 93, _ => exact ⟨_, rfl⟩
  | 94, _ => exact ⟨(0 : Int32), (0 : Int32), (0 : Int32), (0 : Int32), rfl, by decide⟩
  | 95, _ => exact ⟨_, rfl⟩
  | 96, _ => exact ⟨(0 : Int32), (0 : Int32), (0 : Int32), (0 : Int32), rfl, by decide⟩
  | 97, _ => exact ⟨_, rfl⟩
  | 98, _ => exact ⟨(0 : Int32), (0 : Int32), (0 : Int32), (0 : Int32), rfl, by decide⟩
  | 99, _ => exact ⟨_, rfl⟩
  | 100, _ => exact ⟨(0 : Int32), (0 : Int32), (0 : Int32), (0 : Int32), rfl, by decide⟩
  | 101, _ => exact ⟨_, rfl⟩
  | 102, _ => exact ⟨(0 : Int32), (0 : Int32), (0 : Int32), (0 : Int32), rfl, by decide⟩
  | 103, _ => exact ⟨_, rfl⟩
  | 104, _ => exact ⟨(0 : Int32), (0 : Int32), (0 : Int32), (0 : Int32), rfl, by decide⟩
  | 105, _ => exact ⟨_, rfl⟩
  | 106, _ => exact ⟨(0 : Int32), (0 : Int32), (0 : Int32), (0 : Int32), rfl, by decide⟩
  | 107, _ => exact ⟨_, rfl⟩
  | 108, _ => exact ⟨(0 : Int32), (0 : Int32), (0 : Int32), (0 : Int32), rfl, by decide⟩
  | 109, _ => exact ⟨_, rfl⟩
  | 110, _ => exact ⟨(0 : Int32), (0 : Int32), (0 : Int32), (0 : Int32), rfl, by decide⟩
  | 111, _ => exact ⟨_, rfl⟩
  | 112, _ => exact ⟨(0 : Int32), (0 : Int32), (0 : Int32), (0 : Int32), rfl, by decide⟩
  | 113, _ => exact ⟨_, rfl⟩
  | 114, _ => exact ⟨(0 : Int32), (0 : Int32), (0 : Int32), (0 : Int32), rfl, by decide⟩
  | 115, _ => exact ⟨_, rfl⟩
  | 116, _ => exact ⟨(0 : Int32), (0 : Int32), (0 : Int32), (0 : Int32), rfl, by decide⟩
  | 117, _ => exact ⟨_, rfl⟩
  | 118, _ => exact ⟨(0 : Int32), (0 : Int32), (0 : Int32), (0 : Int32), rfl, by decide⟩
  | 119, _ => exact ⟨_, rfl⟩
  | 120, _ => exact ⟨(0 : Int32), (0 : Int32), (0 : Int32), (0 : Int32), rfl, by decide⟩
  | 121, _ => exact ⟨_, rfl⟩
  | 122, _ => exact ⟨(0 : Int32), (0 : Int32), (0 : Int32), (0 : Int32), rfl, by decide⟩
  | 123, _ => exact ⟨_, rfl⟩
  | 124, _ => exact ⟨(0 : Int32), (0 : Int32), (0 : Int32), (0 : Int32), rfl, by decide⟩
  | 125, _ => exact ⟨_, rfl⟩
  | 126, _ => exact ⟨(0 : Int32), (0 : Int32), (0 : Int32), (0 : Int32), rfl, by decide⟩
  | 127, _ => exact ⟨_, rfl⟩
  | 128, _ => exact ⟨(0 : Int32), (0 : Int32), (0 : Int32), (0 : Int32), rfl, by decide⟩
  | 129, _ => exact ⟨_, rfl⟩
  | 130, _ => exact ⟨(0 : Int32), (0 : Int32), (0 : Int32), (0 : Int32), rfl, by decide⟩
  | 131, _ => exact ⟨_, rfl⟩
  | 132, _ => exact ⟨(0 : Int32), (0 : Int32), (0 : Int32), (0 : Int32), rfl, by decide⟩
  | 133, _ => exact ⟨_, rfl⟩
  | 134, _ => exact ⟨(0 : Int32), (0 : Int32), (0 : Int32), (0 : Int32), rfl, by decide⟩
  | 135, _ => exact ⟨_, rfl⟩
  | 136, _ => exact ⟨(0 : Int32), (0 : Int32), (0 : Int32), (0 : Int32), rfl, by decide⟩
  | 137, _ => exact ⟨_, rfl⟩
  | 138, _ => exact ⟨(0 : Int32), (0 : Int32), (0 : Int32), (0 : Int32), rfl, by decide⟩
  | 139, _ => exact ⟨_, rfl⟩
  | 140, _ => exact ⟨(0 : Int32), (0 : Int32), (0 : Int32), (0 : Int32), rfl, by decide⟩
  | 141, _ => exact ⟨_, rfl⟩
  | 142, _ => exact ⟨(0 : Int32), (0 : Int32), (0 : Int32), (0 : Int32), rfl, by decide⟩
  | 143, _ => exact ⟨_, rfl⟩
  | 144, _ => exact ⟨(0 : Int32), (0 : Int32), (0 : Int32), (0 : Int32), rfl, by decide⟩
  | 145, _ => exact ⟨_, rfl⟩
  | 146, _ => exact ⟨(0 : Int32), (0 : Int32), (0 : Int32), (0 : Int32), rfl, by decide⟩
  | 147, _ => exact ⟨_, rfl⟩
  | i + 148, hi => exact absurd hi (by omega)
set_option maxHeartbeats 8000000 in
set_option maxRecDepth 100000 in
theorem ty0m (cy : Nat → ClassId) (x0 m0 : Nat) (u v : SU) : TYm (adW (wXM cy x0 m0 u v)) cy (fW (wXM cy x0 m0 u v)) zI (0 : Int32) (0 : Int32) (0 : Int32) ((-1) : Int32) (0 : Int32) (0 : Int32) (0 : Int32) (0 : Int32) (0 : Int64) zI zI zI zI zI zI zI zI zI (0 : Int32) (0 : Int32) (0 : Int32) (0 : Int32) (0 : Int32) (0 : Int32) (0 : Int32) (0 : Int32) ((-1) : Int32) (0 : Int32) ((-1) : Int32) zI (0 : Int32) (0 : Int32) (0 : Int32) (0 : Int32) (0 : Int32) (0 : Int32) (0 : Int32) (0 : Int32) (fW (wXM cy x0 m0 u v)) := by
  refine ⟨fun i hi => ?_, fun _ _ => rfl⟩
  obtain ⟨j, rfl⟩ : ∃ j, i = 148 + j := ⟨i - 148, by omega⟩
  match j with
  | 0 => exact ⟨rfl, by decide, by decide, by decide, by decide, by decide, by decide, by decide, by decide, by decide, by decide, by decide, by decide, by decide, by decide, by decide⟩
  | 1 => exact ⟨_, rfl⟩
  | 2 => exact rfl
  | 3 => exact ⟨rfl, zI_r (by decide) _ _⟩
  | 4 => exact ⟨rfl, zI_r (by decide) _ _⟩
  | 5 => exact rfl
  | 6 => exact ⟨_, rfl⟩
  | 7 => exact ⟨_, rfl⟩
  | 8 => exact rfl
  | 9 => exact ⟨_, rfl⟩
  | 10 => exact ⟨_, rfl, zI_r (by decide) _ _⟩
  | 11 => exact ⟨_, rfl, zI_r (by decide) _ _⟩
  | 12 => exact ⟨_, rfl⟩
  | 13 => exact rfl
  | 14 => exact rfl
  | 15 => exact ⟨_, rfl⟩
  | 16 => exact rfl
  | 17 => exact ⟨_, rfl⟩
  | 18 => exact rfl
  | 19 => exact rfl
  | 20 => exact ⟨_, rfl⟩
  | 21 => exact ⟨_, rfl, zI_r (by decide) _ _⟩
  | 22 => exact ⟨_, rfl, zI_r (by decide) _ _⟩
  | 23 => exact ⟨_, rfl⟩
  | 24 => exact rfl
  | 25 => exact ⟨_, rfl, zI_r (by decide) _ _⟩
  | 26 => exact ⟨_, rfl⟩
  | 27 => exact ⟨_, rfl⟩
  | 28 => exact ⟨_, rfl⟩
  | 29 => exact ⟨_, rfl⟩
  | 30 => exact ⟨_, rfl⟩
  | 31 => exact ⟨_, rfl⟩
  | 32 => exact ⟨_, rfl⟩
  | 33 => exact ⟨_, rfl⟩
  | 34 => exact ⟨_, rfl⟩
  | 35 => exact ⟨_, rfl, zI_r (by decide) _ _⟩
  | 36 => exact ⟨_, rfl⟩
  | j + 37 =>
    unfold OKm
    split <;> first | omega | trivial
theorem li0 (cy : Nat → ClassId) (x0 m0 : Nat) (u v : SU) (hF : FX u) : LI (adW (wXM cy x0 m0 u v)) cy (fW (wXM cy x0 m0 u v)) := ⟨0, 0, 0, zI, (0 : Int32), (0 : Int32), (0 : Int32), ((-1) : Int32), (0 : Int32), (0 : Int32), (0 : Int32), (0 : Int32), (0 : Int64), zI, zI, zI, zI, zI, zI, zI, zI, zI, (0 : Int32), (0 : Int32), (0 : Int32), (0 : Int32), (0 : Int32), (0 : Int32), (0 : Int32), (0 : Int32), ((-1) : Int32), (0 : Int32), ((-1) : Int32), zI, (0 : Int32), (0 : Int32), (0 : Int32), (0 : Int32), (0 : Int32), (0 : Int32), (0 : Int32), (0 : Int32), ty0x cy x0 m0 u v hF, ty0m cy x0 m0 u v, by decide, fun q => absurd q (by decide), by decide, by decide⟩

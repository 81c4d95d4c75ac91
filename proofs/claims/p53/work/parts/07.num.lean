theorem tl_m2 : (-2 : Int32).toInt = -2 := by decide
theorem tl_2 : (2 : Int32).toInt = 2 := by decide
theorem tl_3 : (3 : Int32).toInt = 3 := by decide
theorem tl_4 : (4 : Int32).toInt = 4 := by decide
theorem tl_5 : (5 : Int32).toInt = 5 := by decide
theorem tl_6 : (6 : Int32).toInt = 6 := by decide
theorem tl_7 : (7 : Int32).toInt = 7 := by decide
theorem tl_8 : (8 : Int32).toInt = 8 := by decide
theorem tl_9 : (9 : Int32).toInt = 9 := by decide
theorem tl_10 : (10 : Int32).toInt = 10 := by decide
theorem tl_11 : (11 : Int32).toInt = 11 := by decide
theorem tl_12 : (12 : Int32).toInt = 12 := by decide
theorem tl_13 : (13 : Int32).toInt = 13 := by decide
theorem tl_14 : (14 : Int32).toInt = 14 := by decide
theorem tl_15 : (15 : Int32).toInt = 15 := by decide
theorem tl_16 : (16 : Int32).toInt = 16 := by decide
theorem tl_17 : (17 : Int32).toInt = 17 := by decide
theorem tl_20 : (20 : Int32).toInt = 20 := by decide
theorem tl_24 : (24 : Int32).toInt = 24 := by decide
theorem tl_30 : (30 : Int32).toInt = 30 := by decide
theorem tl_32 : (32 : Int32).toInt = 32 := by decide
theorem tl_37 : (37 : Int32).toInt = 37 := by decide
theorem tl_40 : (40 : Int32).toInt = 40 := by decide
theorem tl_41 : (41 : Int32).toInt = 41 := by decide
theorem tl_42 : (42 : Int32).toInt = 42 := by decide
theorem tl_43 : (43 : Int32).toInt = 43 := by decide
theorem tl_45 : (45 : Int32).toInt = 45 := by decide
theorem tl_47 : (47 : Int32).toInt = 47 := by decide
theorem tl_48 : (48 : Int32).toInt = 48 := by decide
theorem tl_57 : (57 : Int32).toInt = 57 := by decide
theorem tl_59 : (59 : Int32).toInt = 59 := by decide
theorem tl_60 : (60 : Int32).toInt = 60 := by decide
theorem tl_61 : (61 : Int32).toInt = 61 := by decide
theorem tl_62 : (62 : Int32).toInt = 62 := by decide
theorem tl_63 : (63 : Int32).toInt = 63 := by decide
theorem tl_64 : (64 : Int32).toInt = 64 := by decide
theorem tl_71 : (71 : Int32).toInt = 71 := by decide
theorem tl_79 : (79 : Int32).toInt = 79 := by decide
theorem tl_97 : (97 : Int32).toInt = 97 := by decide
theorem tl_98 : (98 : Int32).toInt = 98 := by decide
theorem tl_99 : (99 : Int32).toInt = 99 := by decide
theorem tl_100 : (100 : Int32).toInt = 100 := by decide
theorem tl_122 : (122 : Int32).toInt = 122 := by decide
theorem tl_137 : (137 : Int32).toInt = 137 := by decide
theorem tl_144 : (144 : Int32).toInt = 144 := by decide
theorem tl_255 : (255 : Int32).toInt = 255 := by decide
theorem tl_269 : (269 : Int32).toInt = 269 := by decide
theorem tl_999 : (999 : Int32).toInt = 999 := by decide
theorem tl_1000 : (1000 : Int32).toInt = 1000 := by decide
theorem tl_1023 : (1023 : Int32).toInt = 1023 := by decide
theorem tl_1200 : (1200 : Int32).toInt = 1200 := by decide
theorem tl_1600 : (1600 : Int32).toInt = 1600 := by decide
theorem tl_100000 : (100000 : Int32).toInt = 100000 := by decide
theorem tl_252645135 : (252645135 : Int32).toInt = 252645135 := by decide
theorem tl_858993459 : (858993459 : Int32).toInt = 858993459 := by decide
theorem tl_1431655765 : (1431655765 : Int32).toInt = 1431655765 := by decide
theorem tlj_0 : (0 : Int64).toInt = 0 := by decide
theorem tlj_1 : (1 : Int64).toInt = 1 := by decide
theorem tlj_32 : (32 : Int64).toInt = 32 := by decide
theorem tlj_97 : (97 : Int64).toInt = 97 := by decide
/-! numbers -/
theorem c_lt {x y : Int32} (h : x < y) : x.toInt < y.toInt := (i_lt x y).mp h
theorem c_nlt {x y : Int32} (h : ¬ x < y) : y.toInt ≤ x.toInt := by have := mt (i_lt x y).mpr h; omega
theorem c_le {x y : Int32} (h : x ≤ y) : x.toInt ≤ y.toInt := (i_le x y).mp h
theorem c_nle {x y : Int32} (h : ¬ x ≤ y) : y.toInt < x.toInt := by have := mt (i_le x y).mpr h; omega
theorem c_eq {x y : Int32} (h : x = y) : x.toInt = y.toInt := (i_eq x y).mp h
theorem c_ne {x y : Int32} (h : ¬ x = y) : ¬ x.toInt = y.toInt := mt (i_eq x y).mpr h
theorem bm {z : Int} (h1 : -2147483648 ≤ z) (h2 : z ≤ 2147483647) : z.bmod (2 ^ 32) = z := Int.bmod_eq_of_le (by omega) (by omega)
theorem r_add {x a b : Int32} (e : x = a + b) (h1 : -2147483648 ≤ a.toInt + b.toInt) (h2 : a.toInt + b.toInt ≤ 2147483647) : x.toInt = a.toInt + b.toInt := by rw [e, Int32.toInt_add]; exact bm h1 h2
theorem r_sub {x a b : Int32} (e : x = a - b) (h1 : -2147483648 ≤ a.toInt - b.toInt) (h2 : a.toInt - b.toInt ≤ 2147483647) : x.toInt = a.toInt - b.toInt := by rw [e, Int32.toInt_sub]; exact bm h1 h2
theorem r_inc {x a : Int32} {n : Int} (e : x = a + Int32.ofInt n) (hn : -1000 ≤ n ∧ n ≤ 1000) (h1 : -2147483648 ≤ a.toInt + n) (h2 : a.toInt + n ≤ 2147483647) : x.toInt = a.toInt + n := by
  have h3 : (Int32.ofInt n).toInt = n := by rw [Int32.toInt_ofInt]; exact bm (by omega) (by omega)
  rw [e, Int32.toInt_add, h3]; exact bm h1 h2
theorem r_mull {x a b : Int32} {n : Int} (e : x = a * b) (hn : a.toInt = n) (h1 : -2147483648 ≤ n * b.toInt) (h2 : n * b.toInt ≤ 2147483647) : x.toInt = n * b.toInt := by rw [e, Int32.toInt_mul, hn]; exact bm h1 h2
theorem r_mulr {x a b : Int32} {n : Int} (e : x = a * b) (hn : b.toInt = n) (h1 : -2147483648 ≤ a.toInt * n) (h2 : a.toInt * n ≤ 2147483647) : x.toInt = a.toInt * n := by rw [e, Int32.toInt_mul, hn]; exact bm h1 h2
theorem rgI (x : Int32) : -2147483648 ≤ x.toInt ∧ x.toInt ≤ 2147483647 := by
  have h1 := Int32.le_toInt x
  have h2 := Int32.toInt_lt x
  constructor <;> omega
theorem td_lem {a n : Int} (hn : 0 < n) : -a.natAbs ≤ a.tdiv n ∧ a.tdiv n ≤ a.natAbs := by
  have h := Int.natAbs_tdiv_le_natAbs a n
  omega
theorem i_div {x a b : Int32} {n : Int} (e : x = a / b) (hb : b.toInt = n) (hn : 0 < n) : x.toInt = a.toInt.tdiv n := by
  rw [e, Int32.toInt_div, hb]
  have h := td_lem (a := a.toInt) hn
  have h2 := rgI a
  rcases Int.lt_or_le a.toInt 0 with h3 | h3
  · have h4 : a.toInt.tdiv n ≤ 0 := by
      have := Int.tdiv_nonneg (a := -a.toInt) (b := n) (by omega) (by omega)
      rw [Int.neg_tdiv] at this
      omega
    exact bm (by omega) (by omega)
  · exact bm (by omega) (by omega)
theorem r_div {x a b : Int32} {n : Int} (e : x = a / b) (hb : b.toInt = n) (ha : 0 ≤ a.toInt) (hn : 0 < n) : x.toInt = a.toInt / n := by
  rw [i_div e hb hn, Int.tdiv_eq_ediv_of_nonneg ha]
theorem i_rem {x a b : Int32} {n : Int} (e : x = a - a / b * b) (hb : b.toInt = n) (hn : 0 < n) : x.toInt = a.toInt.tmod n := by
  have hd := i_div (x := a / b) rfl hb hn
  have h2 := rgI a
  have h2b := rgI b
  have h5 := Int.tmod_add_mul_tdiv a.toInt n
  have h10 := Int.tmod_lt_of_pos a.toInt hn
  have h11 := Int.lt_tmod_of_pos a.toInt hn
  have key : (0 ≤ a.toInt → 0 ≤ n * a.toInt.tdiv n ∧ 0 ≤ a.toInt.tmod n) ∧ (a.toInt < 0 → n * a.toInt.tdiv n ≤ 0 ∧ a.toInt.tmod n ≤ 0) := by
    refine ⟨fun h => ⟨Int.mul_nonneg (Int.le_of_lt hn) (Int.tdiv_nonneg h (Int.le_of_lt hn)), Int.tmod_nonneg n h⟩, fun h => ?_⟩
    have k1 := Int.mul_nonneg (Int.le_of_lt hn) (Int.tdiv_nonneg (a := -a.toInt) (by omega) (Int.le_of_lt hn))
    have k2 := Int.tmod_nonneg n (a := -a.toInt) (by omega)
    rw [Int.neg_tdiv, Int.mul_neg] at k1
    rw [Int.neg_tmod] at k2
    constructor <;> omega
  have hm : (a / b * b).toInt = n * a.toInt.tdiv n := by
    rw [Int32.toInt_mul, hd, hb, Int.mul_comm]
    rcases Int.lt_or_le a.toInt 0 with h3 | h3
    · have := key.2 h3
      exact bm (by omega) (by omega)
    · have := key.1 h3
      exact bm (by omega) (by omega)
  rw [e, Int32.toInt_sub, hm, show a.toInt - n * a.toInt.tdiv n = a.toInt.tmod n by omega]
  exact bm (by omega) (by omega)
theorem r_rem {x a b : Int32} {n : Int} (e : x = a - a / b * b) (hb : b.toInt = n) (ha : 0 ≤ a.toInt) (hn : 0 < n) : x.toInt = a.toInt % n := by
  rw [i_rem e hb hn, Int.tmod_eq_emod_of_nonneg ha]
theorem r_rem2 {x a b : Int32} {n : Int} (e : x = a - a / b * b) (hb : b.toInt = n) (hn : 0 < n) : -n < x.toInt ∧ x.toInt < n := by
  have h1 := i_rem e hb hn
  have h2 := Int.tmod_lt_of_pos a.toInt hn
  have h3 := Int.lt_tmod_of_pos a.toInt hn
  rw [h1]
  exact ⟨h3, h2⟩
theorem r_remp {x a b : Int32} (e : x = a - a / b * b) (hn : 0 < b.toInt) : -b.toInt < x.toInt ∧ x.toInt < b.toInt := r_rem2 e rfl hn
theorem ne0 {x : Int32} (h : ¬ x.toInt = 0) : ¬ x = 0 := fun q => h (by rw [q]; decide)
theorem tN {x : Int32} (h : 0 ≤ x.toInt) : ∃ n : Nat, n < 2147483648 ∧ x = nI n ∧ (n : Int) = x.toInt := by
  obtain ⟨j, h1, h2⟩ := nI_of (x := x) (fun q => by have := (i_lt x 0).mp q; have := tl_0; omega)
  exact ⟨j, h1, h2, by rw [h2]; exact (nI_toInt h1).symm⟩
theorem n_and (a b : Nat) : nI a &&& nI b = nI (a &&& b) := by
  apply Int32.toBitVec_inj.mp
  rw [Int32.toBitVec_and]
  show BitVec.ofNat 32 a &&& BitVec.ofNat 32 b = BitVec.ofNat 32 (a &&& b)
  rw [BitVec.ofNat_and]
theorem n_xor (a b : Nat) : nI a ^^^ nI b = nI (a ^^^ b) := by
  apply Int32.toBitVec_inj.mp
  rw [Int32.toBitVec_xor]
  show BitVec.ofNat 32 a ^^^ BitVec.ofNat 32 b = BitVec.ofNat 32 (a ^^^ b)
  rw [BitVec.ofNat_xor]
theorem n_or (a b : Nat) : nI a ||| nI b = nI (a ||| b) := by
  apply Int32.toBitVec_inj.mp
  rw [Int32.toBitVec_or]
  show BitVec.ofNat 32 a ||| BitVec.ofNat 32 b = BitVec.ofNat 32 (a ||| b)
  rw [BitVec.ofNat_or]
theorem r_andr {x a b : Int32} (e : x = a &&& b) (h : 0 ≤ b.toInt) : 0 ≤ x.toInt ∧ x.toInt ≤ b.toInt := by
  obtain ⟨m, hm, rfl, em⟩ := tN h
  obtain ⟨n, hn⟩ : ∃ n : Nat, a = nI n := ⟨a.toBitVec.toNat, Int32.toBitVec_inj.mp (by show _ = BitVec.ofNat 32 _; simp)⟩
  rw [hn, n_and] at e
  have h1 : n &&& m ≤ m := Nat.and_le_right
  have h2 := nI_toInt (n := n &&& m) (by omega)
  rw [e, h2]
  omega
theorem r_andl {x a b : Int32} (e : x = a &&& b) (h : 0 ≤ a.toInt) : 0 ≤ x.toInt ∧ x.toInt ≤ a.toInt := r_andr (a := b) (b := a) (by rw [e, Int32.and_comm]) h
theorem r_xor {x a b : Int32} {k : Nat} {K : Int} (e : x = a ^^^ b) (hK : ((2 ^ k : Nat) : Int) = K) (hk : k < 31) (h1 : 0 ≤ a.toInt) (h2 : a.toInt < K) (h3 : 0 ≤ b.toInt) (h4 : b.toInt < K) : 0 ≤ x.toInt ∧ x.toInt < K := by
  obtain ⟨m, hm, rfl, em⟩ := tN h1
  obtain ⟨n, hn, rfl, en⟩ := tN h3
  rw [n_xor] at e
  have h5 : m ^^^ n < 2 ^ k := Nat.xor_lt_two_pow (by omega) (by omega)
  have h6 : (2 : Nat) ^ k < 2 ^ 31 := Nat.pow_lt_pow_right (by decide) hk
  have h7 := nI_toInt (n := m ^^^ n) (by omega)
  rw [e, h7]
  omega
theorem r_or {x a b : Int32} {k : Nat} {K : Int} (e : x = a ||| b) (hK : ((2 ^ k : Nat) : Int) = K) (hk : k < 31) (h1 : 0 ≤ a.toInt) (h2 : a.toInt < K) (h3 : 0 ≤ b.toInt) (h4 : b.toInt < K) : 0 ≤ x.toInt ∧ x.toInt < K := by
  obtain ⟨m, hm, rfl, em⟩ := tN h1
  obtain ⟨n, hn, rfl, en⟩ := tN h3
  rw [n_or] at e
  have h5 : m ||| n < 2 ^ k := Nat.or_lt_two_pow (by omega) (by omega)
  have h6 : (2 : Nat) ^ k < 2 ^ 31 := Nat.pow_lt_pow_right (by decide) hk
  have h7 := nI_toInt (n := m ||| n) (by omega)
  rw [e, h7]
  omega
theorem shlv : ∀ n, n < 15 → ((1 : Int32) <<< (nI n &&& 31)).toInt = ((2 ^ n : Nat) : Int) := by decide +kernel
theorem r_shl {x b : Int32} {K : Nat} {M : Int} (e : x = 1 <<< (b &&& 31)) (hM : ((2 ^ K : Nat) : Int) = M) (hK : K < 15) (h1 : 0 ≤ b.toInt) (h2 : b.toInt ≤ K) : 1 ≤ x.toInt ∧ x.toInt ≤ M := by
  obtain ⟨m, hm, rfl, em⟩ := tN h1
  have h3 := shlv m (by omega)
  rw [e, h3]
  have h4 : (2 : Nat) ^ m ≤ 2 ^ K := Nat.pow_le_pow_right (by decide) (by omega)
  have h5 : 0 < (2 : Nat) ^ m := Nat.two_pow_pos m
  omega
theorem r_max {x a b : Int32} (e : x = if a < b then b else a) : (x.toInt = a.toInt ∨ x.toInt = b.toInt) ∧ a.toInt ≤ x.toInt ∧ b.toInt ≤ x.toInt := by
  rw [e]
  split
  · rename_i h
    have := c_lt h
    omega
  · rename_i h
    have := c_nlt h
    omega
theorem r_min {x a b : Int32} (e : x = if b < a then b else a) : (x.toInt = a.toInt ∨ x.toInt = b.toInt) ∧ x.toInt ≤ a.toInt ∧ x.toInt ≤ b.toInt := by
  rw [e]
  split
  · rename_i h
    have := c_lt h
    omega
  · rename_i h
    have := c_nlt h
    omega
theorem r_el {x : Int32} {a : Int32} {lo hi : Int} (h : lo ≤ a.toInt ∧ a.toInt ≤ hi) (e : x = a) : lo ≤ x.toInt ∧ x.toInt ≤ hi := by rw [e]; exact h
theorem r_elc {x : Int32} {a : Int32} {lo hi : Int} {P : Prop} (h : P → lo ≤ a.toInt ∧ a.toInt ≤ hi) (e : x = a) : P → lo ≤ x.toInt ∧ x.toInt ≤ hi := by rw [e]; exact h
theorem upd_r {g : Nat → Int32} {lo hi : Int} {md r k : Nat} {x : Int32} (h : ∀ k, k % md = r → lo ≤ (g k).toInt ∧ (g k).toInt ≤ hi) (hx : k % md = r → lo ≤ x.toInt ∧ x.toInt ≤ hi) : ∀ j, j % md = r → lo ≤ (upd g k x j).toInt ∧ (upd g k x j).toInt ≤ hi := by
  intro j hj
  by_cases e : j = k
  · subst e
    rw [pk_us]
    exact hx hj
  · rw [pk_un e]
    exact h j hj
theorem clampZ {x : Int32} (h : 0 ≤ x.toInt) : (x.toNatClampNeg : Int) = x.toInt := by
  obtain ⟨m, hm, rfl, em⟩ := tN h
  rw [nI_clamp (by omega)]
  exact em
theorem clampN {x : Int32} {n : Nat} (h : 0 ≤ x.toInt) (h2 : x.toInt < n) : x.toNatClampNeg < n := by have := clampZ h; omega
theorem i01 {x : Int32} (h : 0 ≤ x.toInt ∧ x.toInt ≤ 1) : x = 1 ∨ x = 0 := by
  rcases Int.lt_or_le x.toInt 1 with q | q
  · exact Or.inr ((i_eq x 0).mpr (by have := tl_0; omega))
  · exact Or.inl ((i_eq x 1).mpr (by have := tl_1; omega))
theorem nar01 {x : Int32} (h : 0 ≤ x.toInt ∧ x.toInt ≤ 1) : narrow .boolean (.int x) = .int x := by
  rcases i01 h with rfl | rfl <;> rfl
theorem cmpF (a b : Int64) : (-1 ≤ (lg_cmp a b).toInt ∧ (lg_cmp a b).toInt ≤ 1) ∧ ((lg_cmp a b).toInt = 0 ↔ a.toInt = b.toInt) := by
  unfold lg_cmp
  by_cases h1 : b < a
  · have h2 : b.toInt < a.toInt := Int64.lt_iff_toInt_lt.mp h1
    simp only [gt_iff_lt, h1, if_true]
    refine ⟨by decide, ?_⟩
    constructor
    · intro q; exact absurd q (by decide)
    · intro q; omega
  · by_cases h2 : a = b
    · subst h2
      simp [h1]
    · have h3 : ¬ a.toInt = b.toInt := fun q => h2 (Int64.toInt_inj.mp q)
      simp only [gt_iff_lt, h1, if_false, h2, beq_iff_eq]
      refine ⟨by decide, ?_⟩
      constructor
      · intro q; exact absurd q (by decide)
      · intro q; exact absurd q h3
def sgF (tx : Nat → Int32) (sz k : Int32) : Int32 := if k.toInt < sz.toInt then tx k.toNatClampNeg &&& 255 else 0
theorem sgF_in {tx : Nat → Int32} {sz k x y : Int32} (h : k.toInt < sz.toInt) (ex : x = y &&& 255) (ey : y = tx k.toNatClampNeg) : (sgF tx sz k).toInt = x.toInt := by
  unfold sgF
  rw [if_pos h, ex, ey]
theorem sgF_out {tx : Nat → Int32} {sz k : Int32} (h : sz.toInt ≤ k.toInt) : (sgF tx sz k).toInt = 0 := by
  unfold sgF
  rw [if_neg (by omega)]
  decide
def cntRn (g : Nat → Int32) (r p : Int) : Nat → Int
  | 0 => 0
  | n + 1 => cntRn g r p n + (if (g n).toInt < r ∨ ((g n).toInt = r ∧ (n : Int) < p) then 1 else 0)
def cntR (g : Nat → Int32) (r p : Int) : Int := cntRn g r p 10
theorem cntRn_mono {g : Nat → Int32} {r p r2 p2 : Int} (h : ∀ q : Nat, ((g q).toInt < r ∨ ((g q).toInt = r ∧ (q : Int) < p)) → ((g q).toInt < r2 ∨ ((g q).toInt = r2 ∧ (q : Int) < p2))) : ∀ n, cntRn g r p n ≤ cntRn g r2 p2 n
  | 0 => Int.le_refl _
  | n + 1 => by
    have ih := cntRn_mono h n
    have h1 := h n
    unfold cntRn
    split <;> split <;> first | omega | (rename_i a b; exact absurd (h1 a) b)
theorem cntRn_pos (g : Nat → Int32) (r p : Int) : ∀ n, 0 ≤ cntRn g r p n
  | 0 => Int.le_refl _
  | n + 1 => by
    have ih := cntRn_pos g r p n
    unfold cntRn
    split <;> omega
theorem cntRn_le (g : Nat → Int32) (r p : Int) : ∀ n : Nat, cntRn g r p n ≤ n
  | 0 => Int.le_refl _
  | n + 1 => by
    have ih := cntRn_le g r p n
    unfold cntRn
    split <;> omega
theorem cntR_up {g : Nat → Int32} {r p : Int} : cntR g r p ≤ cntR g r (p + 1) := cntRn_mono (fun q h => by omega) 10
theorem cntR_next {g : Nat → Int32} {r p : Int} : cntR g r p ≤ cntR g (r + 1) 0 := cntRn_mono (fun q h => by omega) 10
theorem cntR_0 (g : Nat → Int32) : 0 ≤ cntR g 0 0 := cntRn_pos g 0 0 10
theorem cntRn_hit {g : Nat → Int32} {r : Int} {k : Nat} (h : (g k).toInt = r) : ∀ n : Nat, (k < n → cntRn g r k n + 1 ≤ cntRn g r (k + 1) n) ∧ (n ≤ k → cntRn g r k n ≤ cntRn g r (k + 1) n)
  | 0 => ⟨fun q => absurd q (Nat.not_lt_zero _), fun _ => Int.le_refl _⟩
  | n + 1 => by
    obtain ⟨h1, h2⟩ := cntRn_hit h n
    have hm : cntRn g r k n ≤ cntRn g r (k + 1) n := cntRn_mono (fun q hq => by omega) n
    refine ⟨fun q => ?_, fun q => ?_⟩
    · unfold cntRn
      by_cases e : n = k
      · subst e
        rw [if_neg (by omega), if_pos (by omega)]
        omega
      · have h3 := h1 (by omega)
        split <;> split <;> omega
    · unfold cntRn
      have h3 := h2 (by omega)
      split <;> split <;> omega
theorem cntR_hit {g : Nat → Int32} {r : Int} {p : Int32} (h0 : 0 ≤ p.toInt) (h1 : p.toInt ≤ 9) (h : (g p.toNatClampNeg).toInt = r) : cntR g r p.toInt + 1 ≤ cntR g r (p.toInt + 1) ∧ cntR g r (p.toInt + 1) ≤ 10 := by
  have hc := clampZ h0
  have h2 := (cntRn_hit h 10).1 (by omega)
  rw [hc] at h2
  exact ⟨h2, cntRn_le g r _ 10⟩
def pcF : Nat → Nat → Nat
  | 0, _ => 0
  | f + 1, n => n % 2 + pcF f (n / 2)
def pcI (x : Int32) : Int := (pcF 32 x.toUInt32.toNat : Int)
theorem pcF_le : ∀ f n, pcF f n ≤ f
  | 0, _ => Nat.le_refl _
  | f + 1, n => by
    have := pcF_le f (n / 2)
    unfold pcF
    omega
theorem pcF_0 : ∀ f, pcF f 0 = 0
  | 0 => rfl
  | f + 1 => by
    show 0 % 2 + pcF f (0 / 2) = 0
    rw [show (0 : Nat) / 2 = 0 from rfl, pcF_0 f]
theorem and_m2 (a b : Nat) : (a &&& b) % 2 = (a % 2) * (b % 2) := by
  have h := Nat.testBit_and a b 0
  simp only [Nat.testBit_zero] at h
  have h1 : (a &&& b) % 2 = 0 ∨ (a &&& b) % 2 = 1 := by omega
  have h2 : a % 2 = 0 ∨ a % 2 = 1 := by omega
  have h3 : b % 2 = 0 ∨ b % 2 = 1 := by omega
  rcases h1 with h1 | h1 <;> rcases h2 with h2 | h2 <;> rcases h3 with h3 | h3 <;> simp_all
theorem and_d2 (a b : Nat) : (a &&& b) / 2 = (a / 2) &&& (b / 2) := by
  apply Nat.eq_of_testBit_eq
  intro i
  rw [Nat.testBit_and, Nat.testBit_div_two, Nat.testBit_div_two, Nat.testBit_div_two, Nat.testBit_and]
theorem pcF_step : ∀ f n, 0 < n → n < 2 ^ f → pcF f (n &&& (n - 1)) + 1 = pcF f n
  | 0, n, h, h2 => by omega
  | f + 1, n, h, h2 => by
    unfold pcF
    rw [and_m2, and_d2]
    rcases Nat.mod_two_eq_zero_or_one n with e | e
    · have h3 : (n - 1) / 2 = n / 2 - 1 := by omega
      have ih := pcF_step f (n / 2) (by omega) (by rw [Nat.pow_succ] at h2; omega)
      rw [h3, e]
      omega
    · have h3 : (n - 1) / 2 = n / 2 := by omega
      rw [h3, e, Nat.and_self]
      have h4 : (n - 1) % 2 = 0 := by omega
      rw [h4]
      omega
theorem pcI_rng (x : Int32) : 0 ≤ pcI x ∧ pcI x ≤ 32 := by
  have := pcF_le 32 x.toUInt32.toNat
  unfold pcI
  omega
theorem pcI_0 : pcI 0 = 0 := by decide
theorem pcI_z {x : Int32} (h : x.toInt = 0) : pcI x = 0 := by
  have e : x = 0 := (i_eq x 0).mpr (by rw [h]; decide)
  rw [e]
  exact pcI_0
theorem pcI_step {x y z : Int32} (hz : z = x &&& y) (hy : y = x - 1) (h : ¬ x.toInt = 0) : pcI z + 1 = pcI x := by
  have hx0 : ¬ x.toUInt32.toNat = 0 := by
    intro q
    apply h
    have e : x = 0 := by
      apply Int32.toBitVec_inj.mp
      apply BitVec.eq_of_toNat_eq
      exact q
    rw [e]
    decide
  have hlt : x.toUInt32.toNat < 2 ^ 32 := x.toBitVec.isLt
  have e1 : y.toUInt32.toNat = x.toUInt32.toNat - 1 := by
    rw [hy]
    show (x - 1).toBitVec.toNat = x.toBitVec.toNat - 1
    have hx1 : x.toBitVec.toNat = x.toUInt32.toNat := rfl
    rw [Int32.toBitVec_sub, BitVec.toNat_sub]
    show (2 ^ 32 - (1 : Nat) + x.toBitVec.toNat) % 2 ^ 32 = _
    omega
  have e2 : z.toUInt32.toNat = x.toUInt32.toNat &&& (x.toUInt32.toNat - 1) := by
    rw [← e1, hz]
    show (x &&& y).toBitVec.toNat = x.toBitVec.toNat &&& y.toBitVec.toNat
    rw [Int32.toBitVec_and, BitVec.toNat_and]
  have h3 := pcF_step 32 x.toUInt32.toNat (by omega) hlt
  unfold pcI
  rw [e2]
  omega
def fewN (n : Nat) : Bool := decide (pcF 32 n ≤ 2)
def cwN : Nat → Nat
  | 0 => 0
  | n + 1 => cwN n + (if fewN n then 1 else 0)
def cwF (z : Int) : Int := (cwN z.toNat : Int)
theorem few_of {x : Int32} (h0 : 0 ≤ x.toInt) (h : pcI x ≤ 2) : fewN x.toNatClampNeg = true := by
  have hc : x.toUInt32.toNat = x.toNatClampNeg := by
    obtain ⟨m, hm, rfl, em⟩ := tN h0
    rw [nI_clamp (by omega)]
    show (BitVec.ofNat 32 m).toNat = m
    rw [BitVec.toNat_ofNat]
    exact Nat.mod_eq_of_lt (by omega)
  unfold pcI at h
  unfold fewN
  rw [← hc]
  exact decide_eq_true (by omega)
theorem cwN_mono : ∀ {m n : Nat}, m ≤ n → cwN m ≤ cwN n := by
  intro m n h
  induction n with
  | zero => have : m = 0 := by omega
            subst this
            exact Nat.le_refl _
  | succ n ih =>
    by_cases e : m = n + 1
    · subst e
      exact Nat.le_refl _
    · have := ih (by omega)
      show cwN m ≤ cwN n + (if fewN n then 1 else 0)
      split <;> omega
theorem cwN_top : cwN 4096 = 79 := by decide +kernel
theorem cwF_up {z : Int} : cwF z ≤ cwF (z + 1) := by
  unfold cwF
  have := cwN_mono (m := z.toNat) (n := (z + 1).toNat) (by omega)
  omega
theorem cwF_hit {x : Int32} (h0 : 0 ≤ x.toInt) (h1 : x.toInt ≤ 4095) (hf : pcI x ≤ 2) : cwF x.toInt + 1 = cwF (x.toInt + 1) ∧ cwF (x.toInt + 1) ≤ 79 := by
  have h := few_of h0 hf
  have hc := clampZ h0
  have e1 : x.toInt.toNat = x.toNatClampNeg := by omega
  have e2 : (x.toInt + 1).toNat = x.toNatClampNeg + 1 := by omega
  unfold cwF
  rw [e1, e2]
  have h2 : cwN (x.toNatClampNeg + 1) = cwN x.toNatClampNeg + 1 := by
    show cwN x.toNatClampNeg + (if fewN x.toNatClampNeg then 1 else 0) = _
    rw [show fewN x.toNatClampNeg = true from h]
    rfl
  have h3 := cwN_mono (m := x.toNatClampNeg + 1) (n := 4096) (by omega)
  rw [cwN_top] at h3
  omega
theorem lv_osw0 {d z : Int} : Op.lookupswitch.offset [] d z = d := rfl
/-! the parser's counts, and the text that it writes -/
def bitF (s k : Int32) : Int32 := (s >>> (k &&& 31)) &&& 1
theorem bitF_eq {s k x y : Int32} (ey : y = x &&& 1) (ex : x = s >>> (k &&& 31)) : (bitF s k).toInt = y.toInt := by rw [ey, ex]; rfl
theorem bit_tr {x y k : Int32} (e : x = y) (h : (bitF x k).toInt = 1) : (bitF y k).toInt = 1 := by rw [← e]; exact h
def isB (e : Int) : Bool := decide (e = 1 ∨ e = 2 ∨ (4 ≤ e ∧ e ≤ 6))
def isQ (e : Int) : Bool := decide (e = 3 ∨ e = 7)
def cF (f : Int → Bool) (g : Nat → Int32) : Nat → Int
  | 0 => 0
  | n + 1 => cF f g n + (if f (g n).toInt then 1 else 0)
def cPZ (g : Nat → Int32) (z : Int) : Int := cF isB g z.toNat
def cQZ (g : Nat → Int32) (z : Int) : Int := cF isQ g z.toNat
theorem cF_pos (f : Int → Bool) (g : Nat → Int32) : ∀ n, 0 ≤ cF f g n
  | 0 => Int.le_refl _
  | n + 1 => by
    have := cF_pos f g n
    unfold cF
    split <;> omega
theorem cF_cong {f : Int → Bool} {g g' : Nat → Int32} : ∀ {n : Nat}, (∀ i, i < n → g' i = g i) → cF f g' n = cF f g n
  | 0, _ => rfl
  | n + 1, h => by
    unfold cF
    rw [cF_cong (n := n) (fun i hi => h i (by omega)), h n (by omega)]
theorem cPZ_pos (g : Nat → Int32) (z : Int) : 0 ≤ cPZ g z := cF_pos _ _ _
theorem upd_lt {g : Nat → Int32} {k i : Nat} {x : Int32} (h : i ≠ k) : upd g k x i = g i := pk_un h
theorem cF_push {f : Int → Bool} {g g' : Nat → Int32} {p x : Int32} {z : Int} (h : g' = upd g p.toNatClampNeg x) (hp : 0 ≤ p.toInt) (hz : z = p.toInt + 1) : cF f g' z.toNat = cF f g p.toInt.toNat + (if f x.toInt then 1 else 0) := by
  have hc := clampZ hp
  have e1 : z.toNat = p.toNatClampNeg + 1 := by omega
  have e2 : p.toInt.toNat = p.toNatClampNeg := by omega
  rw [e1, e2]
  show cF f g' p.toNatClampNeg + (if f (g' p.toNatClampNeg).toInt then 1 else 0) = _
  rw [cF_cong (g := g) (g' := g') (fun i hi => by rw [h]; exact upd_lt (by omega)), h, pk_us]
theorem push_0 {g g' : Nat → Int32} {p x : Int32} {z : Int} (h : g' = upd g p.toNatClampNeg x) (hp : 0 ≤ p.toInt) (hz : z = p.toInt + 1) (hx : x.toInt = 3 ∨ x.toInt = 7) : cPZ g' z = cPZ g p.toInt ∧ cQZ g' z = cQZ g p.toInt + 1 := by
  unfold cPZ cQZ
  rw [cF_push h hp hz, cF_push h hp hz]
  rcases hx with hx | hx <;> rw [hx] <;> simp [isB, isQ]
theorem push_8 {g g' : Nat → Int32} {p x : Int32} {z : Int} (h : g' = upd g p.toNatClampNeg x) (hp : 0 ≤ p.toInt) (hz : z = p.toInt + 1) (hx : x.toInt = 8) : cPZ g' z = cPZ g p.toInt ∧ cQZ g' z = cQZ g p.toInt := by
  unfold cPZ cQZ
  rw [cF_push h hp hz, cF_push h hp hz, hx]
  simp [isB, isQ]
theorem push_1 {g g' : Nat → Int32} {p x : Int32} {z : Int} (h : g' = upd g p.toNatClampNeg x) (hp : 0 ≤ p.toInt) (hz : z = p.toInt + 1) (hx : x.toInt = 1 ∨ x.toInt = 2 ∨ (4 ≤ x.toInt ∧ x.toInt ≤ 6)) : cPZ g' z = cPZ g p.toInt + 1 ∧ cQZ g' z = cQZ g p.toInt := by
  have h1 : isB x.toInt = true := decide_eq_true hx
  have h2 : isQ x.toInt = false := decide_eq_false (by omega)
  unfold cPZ cQZ
  rw [cF_push h hp hz, cF_push h hp hz, h1, h2]
  simp
theorem c_z0 (g : Nat → Int32) : cPZ g 0 = 0 ∧ cQZ g 0 = 0 := ⟨rfl, rfl⟩
theorem c_pop {g : Nat → Int32} {z : Int} {y x : Int32} (hy : y.toInt = z - 1) (h1 : 1 ≤ z) (ex : x = g y.toNatClampNeg) : ((x.toInt = 1 ∨ x.toInt = 2 ∨ (4 ≤ x.toInt ∧ x.toInt ≤ 6)) → cPZ g z = cPZ g (z - 1) + 1 ∧ cQZ g z = cQZ g (z - 1)) ∧ ((x.toInt = 3 ∨ x.toInt = 7) → cPZ g z = cPZ g (z - 1) ∧ cQZ g z = cQZ g (z - 1) + 1) ∧ (x.toInt = 8 → cPZ g z = cPZ g (z - 1) ∧ cQZ g z = cQZ g (z - 1)) := by
  have hc := clampZ (x := y) (by omega)
  have e1 : z.toNat = y.toNatClampNeg + 1 := by omega
  have e2 : (z - 1).toNat = y.toNatClampNeg := by omega
  unfold cPZ cQZ
  rw [e1, e2]
  have h3 : ∀ f : Int → Bool, cF f g (y.toNatClampNeg + 1) = cF f g y.toNatClampNeg + (if f x.toInt then 1 else 0) := fun f => by rw [ex]; rfl
  rw [h3, h3]
  refine ⟨fun q => ?_, fun q => ?_, fun q => ?_⟩
  · rw [show isB x.toInt = true from decide_eq_true q, show isQ x.toInt = false from decide_eq_false (by omega)]
    simp
  · rw [show isB x.toInt = false from decide_eq_false (by omega), show isQ x.toInt = true from decide_eq_true q]
    simp
  · rw [show isB x.toInt = false from decide_eq_false (by omega), show isQ x.toInt = false from decide_eq_false (by omega)]
    simp
/-- what stands on the pile: kinds 1 to 8, 8 alone at the bottom; the sign of not, and those of two sides -/
def SGp (g s : Nat → Int32) (z : Int) : Prop := (1 ≤ z → (g 0).toInt = 8) ∧ ∀ i : Nat, (i : Int) < z → (1 ≤ (g i).toInt ∧ (g i).toInt ≤ 8) ∧ (1 ≤ i → (g i).toInt ≤ 7) ∧ ((g i).toInt = 3 → (s i).toInt = 126) ∧ ((g i).toInt = 1 ∨ (g i).toInt = 2 ∨ (4 ≤ (g i).toInt ∧ (g i).toInt ≤ 6) → (37 ≤ (s i).toInt ∧ (s i).toInt ≤ 62) ∨ (s i).toInt = 124)
theorem SG_sub {g s : Nat → Int32} {z w : Int} (h : SGp g s z) (hw : w ≤ z) : SGp g s w := ⟨fun q => h.1 (by omega), fun i hi => h.2 i (by omega)⟩
theorem SG_at {g s : Nat → Int32} {z : Int} {y x : Int32} (h : SGp g s z) (h0 : 0 ≤ y.toInt) (h1 : y.toInt < z) (ex : x = g y.toNatClampNeg) : (1 ≤ x.toInt ∧ x.toInt ≤ 8) ∧ (y.toInt = 0 → x.toInt = 8) ∧ (1 ≤ y.toInt → x.toInt ≤ 7) := by
  have hc := clampZ h0
  have h2 := h.2 y.toNatClampNeg (by omega)
  rw [ex]
  refine ⟨h2.1, fun q => ?_, fun q => h2.2.1 (by omega)⟩
  have e : y.toNatClampNeg = 0 := by omega
  rw [e]
  exact h.1 (by omega)
theorem SG_sign {g s : Nat → Int32} {z : Int} {y x v : Int32} (h : SGp g s z) (h0 : 0 ≤ y.toInt) (h1 : y.toInt < z) (ex : x = g y.toNatClampNeg) (ev : v = s y.toNatClampNeg) : (x.toInt = 3 → v.toInt = 126) ∧ (x.toInt = 1 ∨ x.toInt = 2 ∨ (4 ≤ x.toInt ∧ x.toInt ≤ 6) → (37 ≤ v.toInt ∧ v.toInt ≤ 62) ∨ v.toInt = 124) := by
  have hc := clampZ h0
  have h2 := h.2 y.toNatClampNeg (by omega)
  rw [ex, ev]
  exact h2.2.2
theorem SG_push {g g' s s' : Nat → Int32} {p x v : Int32} {z : Int} (h : SGp g s p.toInt) (hg : g' = upd g p.toNatClampNeg x) (hs : s' = upd s p.toNatClampNeg v) (hp : 0 ≤ p.toInt) (hz : z = p.toInt + 1) (h8 : p.toInt = 0 → x.toInt = 8) (hx : 1 ≤ x.toInt ∧ x.toInt ≤ 8) (hx7 : 1 ≤ p.toInt → x.toInt ≤ 7) (h3 : x.toInt = 3 → v.toInt = 126) (hb : x.toInt = 1 ∨ x.toInt = 2 ∨ (4 ≤ x.toInt ∧ x.toInt ≤ 6) → (37 ≤ v.toInt ∧ v.toInt ≤ 62) ∨ v.toInt = 124) : SGp g' s' z := by
  have hc := clampZ hp
  refine ⟨fun q => ?_, fun i hi => ?_⟩
  · by_cases e : p.toNatClampNeg = 0
    · rw [hg, e, pk_us]
      exact h8 (by omega)
    · rw [hg, upd_lt (by omega)]
      exact h.1 (by omega)
  · by_cases e : i = p.toNatClampNeg
    · subst e
      rw [hg, hs, pk_us, pk_us]
      exact ⟨hx, fun q => hx7 (by omega), h3, hb⟩
    · rw [hg, hs, upd_lt e, upd_lt e]
      exact h.2 i (by omega)
theorem SG_nil (g s : Nat → Int32) : SGp g s 0 := ⟨fun q => by omega, fun i hi => by omega⟩
def dpw (c : Int) : Int := if c = 126 then 0 else if 97 ≤ c ∧ c ≤ 122 then 1 else -1
def dpt (cd : Nat → Int32) (a : Nat) : Nat → Int
  | 0 => 0
  | n + 1 => dpt cd a n + dpw (cd (a + n)).toInt
def dpZ (cd : Nat → Int32) (a : Int32) (z : Int) : Int := dpt cd a.toNatClampNeg (z - a.toInt).toNat
def stp (c d : Int) : Prop := (c = 126 ∧ 1 ≤ d) ∨ (97 ≤ c ∧ c ≤ 122 ∧ d ≤ 59) ∨ (¬ c = 126 ∧ ¬ (97 ≤ c ∧ c ≤ 122) ∧ 2 ≤ d)
def okcZ (cd : Nat → Int32) (a : Int32) (z : Int) : Prop := ∀ j : Nat, (j : Int) < z - a.toInt → stp (cd (a.toNatClampNeg + j)).toInt (dpt cd a.toNatClampNeg j)
theorem dpt_cong {cd cd' : Nat → Int32} {a : Nat} : ∀ {n : Nat}, (∀ i, i < n → cd' (a + i) = cd (a + i)) → dpt cd' a n = dpt cd a n
  | 0, _ => rfl
  | n + 1, h => by
    unfold dpt
    rw [dpt_cong (n := n) (fun i hi => h i (by omega)), h n (by omega)]
theorem dpZ_0 {cd : Nat → Int32} {a : Int32} {z : Int} (h : z = a.toInt) : dpZ cd a z = 0 := by
  unfold dpZ
  rw [show (z - a.toInt).toNat = 0 by omega]
  rfl
theorem okcZ_0 {cd : Nat → Int32} {a : Int32} {z : Int} (h : z = a.toInt) : okcZ cd a z := fun j hj => by omega
theorem dpZ_push {cd cd' : Nat → Int32} {a k x : Int32} {z : Int} (h : cd' = upd cd k.toNatClampNeg x) (ha : 0 ≤ a.toInt) (hk : a.toInt ≤ k.toInt) (hz : z = k.toInt + 1) : (x.toInt = 126 → dpZ cd' a z = dpZ cd a k.toInt) ∧ ((97 ≤ x.toInt ∧ x.toInt ≤ 122) → dpZ cd' a z = dpZ cd a k.toInt + 1) ∧ (¬ x.toInt = 126 → (x.toInt < 97 ∨ 122 < x.toInt) → dpZ cd' a z = dpZ cd a k.toInt - 1) := by
  have h1 := clampZ ha
  have h2 := clampZ (x := k) (by omega)
  have e1 : (z - a.toInt).toNat = (k.toInt - a.toInt).toNat + 1 := by omega
  have e2 : a.toNatClampNeg + (k.toInt - a.toInt).toNat = k.toNatClampNeg := by omega
  have e3 : dpZ cd' a z = dpZ cd a k.toInt + dpw x.toInt := by
    unfold dpZ
    rw [e1]
    show dpt cd' a.toNatClampNeg _ + dpw (cd' (a.toNatClampNeg + _)).toInt = _
    rw [e2, dpt_cong (cd := cd) (fun i hi => by rw [h]; exact upd_lt (by omega)), h, pk_us]
  rw [e3]
  unfold dpw
  refine ⟨fun q => ?_, fun q => ?_, fun q r => ?_⟩
  · rw [if_pos q]
    omega
  · rw [if_neg (by omega), if_pos q]
  · rw [if_neg q, if_neg (by omega)]
    omega
theorem okcZ_push {cd cd' : Nat → Int32} {a k x : Int32} {z : Int} (hO : okcZ cd a k.toInt) (h : cd' = upd cd k.toNatClampNeg x) (ha : 0 ≤ a.toInt) (hk : a.toInt ≤ k.toInt) (hz : z = k.toInt + 1) (hs : (x.toInt = 126 ∧ 1 ≤ dpZ cd a k.toInt) ∨ (97 ≤ x.toInt ∧ x.toInt ≤ 122 ∧ dpZ cd a k.toInt ≤ 59) ∨ (¬ x.toInt = 126 ∧ ¬ (97 ≤ x.toInt ∧ x.toInt ≤ 122) ∧ 2 ≤ dpZ cd a k.toInt)) : okcZ cd' a z := by
  have h1 := clampZ ha
  have h2 := clampZ (x := k) (by omega)
  intro j hj
  rw [dpt_cong (cd := cd) (cd' := cd') (fun i hi => by rw [h]; exact upd_lt (by omega))]
  by_cases e : a.toNatClampNeg + j = k.toNatClampNeg
  · rw [h, e, pk_us]
    have e2 : j = (k.toInt - a.toInt).toNat := by omega
    rw [e2]
    exact hs
  · rw [h, upd_lt e]
    exact hO j (by omega)
def okR (cd : Nat → Int32) (x y : Int32) (b : Int) : Prop := 0 ≤ b ∧ b ≤ 1 ∧ 560 * b ≤ x.toInt ∧ x.toInt ≤ 1119 ∧ y.toInt ≤ 560 * b + 560 ∧ okcZ cd x y.toInt
def CVp (td rf rt cd : Nat → Int32) (b : Int32) : Prop := (bitF (td b.toNatClampNeg) 0).toInt = 1 → okR cd (rf b.toNatClampNeg) (rt b.toNatClampNeg) b.toInt
theorem okR_rng {cd : Nat → Int32} {x y : Int32} {b : Int} (h : okR cd x y b) : 0 ≤ x.toInt ∧ x.toInt ≤ 1119 ∧ y.toInt ≤ 1120 := by
  obtain ⟨h0, h1, h2, h3, h4, -⟩ := h
  omega
theorem okR_step {cd : Nat → Int32} {a y : Int32} {b : Int} {k c : Int32} (h : okR cd a y b) (h1 : a.toInt ≤ k.toInt) (h2 : k.toInt < y.toInt) (ec : c = cd k.toNatClampNeg) : (c.toInt = 126 ∧ 1 ≤ dpZ cd a k.toInt ∧ dpZ cd a (k.toInt + 1) = dpZ cd a k.toInt) ∨ (97 ≤ c.toInt ∧ c.toInt ≤ 122 ∧ dpZ cd a k.toInt ≤ 59 ∧ dpZ cd a (k.toInt + 1) = dpZ cd a k.toInt + 1) ∨ (¬ c.toInt = 126 ∧ (c.toInt < 97 ∨ 122 < c.toInt) ∧ 2 ≤ dpZ cd a k.toInt ∧ dpZ cd a (k.toInt + 1) = dpZ cd a k.toInt - 1) := by
  obtain ⟨q0, q1, q2, q3, q4, q5⟩ := h
  have e1 := clampZ (x := a) (by omega)
  have e2 := clampZ (x := k) (by omega)
  have e3 := q5 (k.toInt - a.toInt).toNat (by omega)
  have e4 : a.toNatClampNeg + (k.toInt - a.toInt).toNat = k.toNatClampNeg := by omega
  have e5 : (k.toInt + 1 - a.toInt).toNat = (k.toInt - a.toInt).toNat + 1 := by omega
  have e6 : dpZ cd a (k.toInt + 1) = dpZ cd a k.toInt + dpw c.toInt := by
    unfold dpZ
    rw [e5]
    show dpt cd a.toNatClampNeg _ + dpw (cd (a.toNatClampNeg + _)).toInt = _
    rw [e4, ← ec]
  rw [e4, ← ec] at e3
  have e7 : dpt cd a.toNatClampNeg (k.toInt - a.toInt).toNat = dpZ cd a k.toInt := rfl
  rw [e7] at e3
  rw [e6]
  unfold dpw
  rcases e3 with ⟨r1, r2⟩ | ⟨r1, r2, r3⟩ | ⟨r1, r2, r3⟩
  · rw [if_pos r1]
    omega
  · rw [if_neg (by omega), if_pos ⟨r1, r2⟩]
    omega
  · rw [if_neg r1, if_neg r2]
    omega
def FrC (cd cd' : Nat → Int32) (b : Int32) : Prop := ∀ j : Nat, ((j : Int) < 560 * b.toInt ∨ 560 * b.toInt + 560 ≤ (j : Int)) → cd' j = cd j
theorem FrC_rf (cd : Nat → Int32) (b : Int32) : FrC cd cd b := fun _ _ => rfl
theorem FrC_up {cd cd1 cd2 : Nat → Int32} {b k x : Int32} (h : FrC cd cd1 b) (e : cd2 = upd cd1 k.toNatClampNeg x) (h0 : 0 ≤ b.toInt) (h1 : 560 * b.toInt ≤ k.toInt) (h2 : k.toInt < 560 * b.toInt + 560) : FrC cd cd2 b := fun j hj => by
  have hc := clampZ (x := k) (by omega)
  rw [e, upd_lt (by omega)]
  exact h j hj
theorem FrC_tr {cd cd1 cd2 : Nat → Int32} {b : Int32} (h : FrC cd cd1 b) (h2 : FrC cd1 cd2 b) : FrC cd cd2 b := fun j hj => (h2 j hj).trans (h j hj)
theorem SG_at2 {g s : Nat → Int32} {z : Int} {y x : Int32} (h : SGp g s z) (ex : x = g y.toNatClampNeg) (h0 : 0 ≤ y.toInt) (h1 : y.toInt < z) : (1 ≤ x.toInt ∧ x.toInt ≤ 8) ∧ (y.toInt = 0 → x.toInt = 8) ∧ (1 ≤ y.toInt → x.toInt ≤ 7) := SG_at h h0 h1 ex
theorem SG_sign2 {g s : Nat → Int32} {z : Int} {y x v : Int32} (h : SGp g s z) (ev : v = s y.toNatClampNeg) (ex : x = g y.toNatClampNeg) (h0 : 0 ≤ y.toInt) (h1 : y.toInt < z) : (x.toInt = 3 → v.toInt = 126) ∧ (x.toInt = 1 ∨ x.toInt = 2 ∨ (4 ≤ x.toInt ∧ x.toInt ≤ 6) → (37 ≤ v.toInt ∧ v.toInt ≤ 62) ∨ v.toInt = 124) := SG_sign h h0 h1 ex ev
def elZ (g : Nat → Int32) (z : Int) : Int := (g z.toNat).toInt
theorem elz {g : Nat → Int32} {x y : Int32} {z : Int} (ex : x = g y.toNatClampNeg) (hy : y.toInt = z) (h0 : 0 ≤ z) : x.toInt = elZ g z := by
  have hc := clampZ (x := y) (by omega)
  unfold elZ
  rw [ex, show z.toNat = y.toNatClampNeg by omega]
theorem c_pop2 {g : Nat → Int32} {p q x : Int32} (ex : x = g q.toNatClampNeg) (h : p.toInt = q.toInt + 1) (h0 : 0 ≤ q.toInt) : ((x.toInt = 1 ∨ x.toInt = 2 ∨ (4 ≤ x.toInt ∧ x.toInt ≤ 6)) → cPZ g p.toInt = cPZ g q.toInt + 1 ∧ cQZ g p.toInt = cQZ g q.toInt) ∧ ((x.toInt = 3 ∨ x.toInt = 7) → cPZ g p.toInt = cPZ g q.toInt ∧ cQZ g p.toInt = cQZ g q.toInt + 1) ∧ (x.toInt = 8 → cPZ g p.toInt = cPZ g q.toInt ∧ cQZ g p.toInt = cQZ g q.toInt) := by
  have h1 := c_pop (z := p.toInt) (y := q) (by omega) (by omega) ex
  rw [show p.toInt - 1 = q.toInt by omega] at h1
  exact h1
theorem cQZ_pos (g : Nat → Int32) (z : Int) : 0 ≤ cQZ g z := cF_pos _ _ _
theorem c_zl (g : Nat → Int32) : cPZ g (0 : Int32).toInt = 0 ∧ cQZ g (0 : Int32).toInt = 0 := by rw [tl_0]; exact c_z0 g
theorem SG_nl (g s : Nat → Int32) : SGp g s (0 : Int32).toInt := by rw [tl_0]; exact SG_nil g s
def Fr1 (g g' : Nat → Int32) (b : Int32) : Prop := ∀ j : Nat, j ≠ b.toNatClampNeg → g' j = g j
theorem Fr1_up {g g' : Nat → Int32} {b x : Int32} (e : g' = upd g b.toNatClampNeg x) : Fr1 g g' b := fun j hj => by rw [e]; exact upd_lt hj
theorem Fr1_rf (g : Nat → Int32) (b : Int32) : Fr1 g g b := fun _ _ => rfl
theorem Fr1_tr {g g1 g2 : Nat → Int32} {b : Int32} (h : Fr1 g g1 b) (h2 : Fr1 g1 g2 b) : Fr1 g g2 b := fun j hj => (h2 j hj).trans (h j hj)
theorem bitx {x y k : Int32} (e : x = y) : (bitF x k).toInt = (bitF y k).toInt := by rw [e]
theorem or_lem (x y : Int32) (hy : bitF y 0 = 0) : bitF (x ||| y) 0 = bitF x 0 := by
  have e0 : ∀ z : Int32, bitF z 0 = z &&& 1 := by
    intro z
    unfold bitF
    congr 1
    apply Int32.toBitVec_inj.mp
    rw [Int32.toBitVec_shiftRight]
    simp
  rw [e0] at hy ⊢
  rw [e0]
  have hy2 := congrArg Int32.toBitVec hy
  rw [Int32.toBitVec_and] at hy2
  apply Int32.toBitVec_inj.mp
  rw [Int32.toBitVec_and, Int32.toBitVec_and, Int32.toBitVec_or]
  apply BitVec.eq_of_getLsbD_eq
  intro i hi
  have h := congrArg (fun v : BitVec 32 => v.getLsbD i) hy2
  simp only [BitVec.getLsbD_and, BitVec.getLsbD_or] at h ⊢
  have h0 : BitVec.getLsbD (Int32.toBitVec 0) i = false := BitVec.getLsbD_zero
  rw [h0] at h
  revert h
  generalize x.toBitVec.getLsbD i = a
  generalize y.toBitVec.getLsbD i = b
  generalize (Int32.toBitVec 1).getLsbD i = c
  cases a <;> cases b <;> cases c <;> simp
theorem once_bit {g g' : Nat → Int32} {b v x y : Int32} (e : g' = upd g b.toNatClampNeg v) (ev : v = x ||| y) (ex : x = g b.toNatClampNeg) (hy : bitF y 0 = 0) : (bitF (g' b.toNatClampNeg) 0).toInt = (bitF (g b.toNatClampNeg) 0).toInt := by
  rw [e, pk_us, ev, or_lem x y hy, ex]
theorem once_one {g g' : Nat → Int32} {b v x : Int32} (e : g' = upd g b.toNatClampNeg v) (ev : v = x ||| 1) : (bitF (g' b.toNatClampNeg) 0).toInt = 1 := by
  have e0 : ∀ z : Int32, bitF z 0 = z &&& 1 := by
    intro z
    unfold bitF
    congr 1
    apply Int32.toBitVec_inj.mp
    rw [Int32.toBitVec_shiftRight]
    simp
  have e1 : (x ||| 1) &&& 1 = 1 := by
    apply Int32.toBitVec_inj.mp
    rw [Int32.toBitVec_and, Int32.toBitVec_or]
    apply BitVec.eq_of_getLsbD_eq
    intro i hi
    simp only [BitVec.getLsbD_and, BitVec.getLsbD_or]
    cases (BitVec.getLsbD x.toBitVec i) <;> cases (BitVec.getLsbD (Int32.toBitVec 1) i) <;> rfl
  rw [e, pk_us, ev, e0, e1]
  decide
def PV (td rf rt cd : Nat → Int32) (co b : Int32) : Prop := ((bitF (td b.toNatClampNeg) 0).toInt = 1 → okR cd (rf b.toNatClampNeg) (rt b.toNatClampNeg) b.toInt) ∧ (¬ (bitF (td b.toNatClampNeg) 0).toInt = 1 → co.toInt = 560 * b.toInt)
theorem PV_bit {td td' rf rt cd : Nat → Int32} {co b : Int32} (h : PV td rf rt cd co b) (e : (bitF (td' b.toNatClampNeg) 0).toInt = (bitF (td b.toNatClampNeg) 0).toInt) : PV td' rf rt cd co b := ⟨fun q => h.1 (by omega), fun q => h.2 (by omega)⟩
theorem CV_fr {td td' rf rf' rt rt' cd cd' : Nat → Int32} {bk rb : Int32} (h : CVp td rf rt cd bk) (hc : FrC cd cd' rb) (h1 : Fr1 td td' rb) (h2 : Fr1 rf rf' rb) (h3 : Fr1 rt rt' rb) (hb : 0 ≤ bk.toInt ∧ bk.toInt ≤ 1) (hr : rb.toInt = 1 - bk.toInt) : CVp td' rf' rt' cd' bk := by
  have k1 := clampZ (x := bk) (by omega)
  have k2 := clampZ (x := rb) (by omega)
  have hne : bk.toNatClampNeg ≠ rb.toNatClampNeg := by omega
  unfold CVp
  rw [h1 _ hne, h2 _ hne, h3 _ hne]
  intro q
  obtain ⟨q0, q1, q2, q3, q4, q5⟩ := h q
  refine ⟨q0, q1, q2, q3, q4, ?_⟩
  have k3 := clampZ (x := rf bk.toNatClampNeg) (by omega)
  intro j hj
  have e : ∀ i : Nat, i ≤ j → cd' ((rf bk.toNatClampNeg).toNatClampNeg + i) = cd ((rf bk.toNatClampNeg).toNatClampNeg + i) := fun i hi => hc _ (by omega)
  rw [e j (Nat.le_refl _), dpt_cong (cd := cd) (fun i hi => e i (by omega))]
  exact q5 j hj
theorem sw_0_4 (x : Int32) : (x.toInt < 0 ∨ 4 < x.toInt) ∨ x = 0 ∨ x = 1 ∨ x = 2 ∨ x = 3 ∨ x = 4 := by
  simp only [i_eq, show (0 : Int32).toInt = 0 from by decide, show (1 : Int32).toInt = 1 from by decide, show (2 : Int32).toInt = 2 from by decide, show (3 : Int32).toInt = 3 from by decide, show (4 : Int32).toInt = 4 from by decide]
  omega
theorem sw_0_7 (x : Int32) : (x.toInt < 0 ∨ 7 < x.toInt) ∨ x = 0 ∨ x = 1 ∨ x = 2 ∨ x = 3 ∨ x = 4 ∨ x = 5 ∨ x = 6 ∨ x = 7 := by
  simp only [i_eq, show (0 : Int32).toInt = 0 from by decide, show (1 : Int32).toInt = 1 from by decide, show (2 : Int32).toInt = 2 from by decide, show (3 : Int32).toInt = 3 from by decide, show (4 : Int32).toInt = 4 from by decide, show (5 : Int32).toInt = 5 from by decide, show (6 : Int32).toInt = 6 from by decide, show (7 : Int32).toInt = 7 from by decide]
  omega
theorem sw_0_14 (x : Int32) : (x.toInt < 0 ∨ 14 < x.toInt) ∨ x = 0 ∨ x = 1 ∨ x = 2 ∨ x = 3 ∨ x = 4 ∨ x = 5 ∨ x = 6 ∨ x = 7 ∨ x = 8 ∨ x = 9 ∨ x = 10 ∨ x = 11 ∨ x = 12 ∨ x = 13 ∨ x = 14 := by
  simp only [i_eq, show (0 : Int32).toInt = 0 from by decide, show (1 : Int32).toInt = 1 from by decide, show (2 : Int32).toInt = 2 from by decide, show (3 : Int32).toInt = 3 from by decide, show (4 : Int32).toInt = 4 from by decide, show (5 : Int32).toInt = 5 from by decide, show (6 : Int32).toInt = 6 from by decide, show (7 : Int32).toInt = 7 from by decide, show (8 : Int32).toInt = 8 from by decide, show (9 : Int32).toInt = 9 from by decide, show (10 : Int32).toInt = 10 from by decide, show (11 : Int32).toInt = 11 from by decide, show (12 : Int32).toInt = 12 from by decide, show (13 : Int32).toInt = 13 from by decide, show (14 : Int32).toInt = 14 from by decide]
  omega
theorem sp_0_2 {x : Int32} (h : 0 ≤ x.toInt ∧ x.toInt ≤ 2) : x = 0 ∨ x = 1 ∨ x = 2 := by
  simp only [i_eq, show (0 : Int32).toInt = 0 from by decide, show (1 : Int32).toInt = 1 from by decide, show (2 : Int32).toInt = 2 from by decide]
  omega

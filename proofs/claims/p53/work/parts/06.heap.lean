/-! a typed heap: the cells by index, what each may hold -/
abbrev NLc : Nat := 185
def isSuit (t : Nat) : Prop := t = 27 ∨ t = 38 ∨ t = 49
def isState (t : Nat) : Prop := t = 7 ∨ ∃ k : Nat, k < 44 ∧ t = 60 + 2 * k
def wl (ad : Nat → Nat) (f : Nat → va_E) : va_W := (List.range NLc).map (fun i => (ad i, f i))
theorem wl_get {ad : Nat → Nat} {f : Nat → va_E} {i : Nat} (h : i < NLc) : (wl ad f)[i]? = some (ad i, f i) := by
  have h2 : i < 185 := h
  simp [wl, h2]
theorem wl_at {ad : Nat → Nat} {f : Nat → va_E} {i : Nat} {c : va_E} (h : i < NLc) (e : f i = c) : (wl ad f)[i]? = some (ad i, c) := by rw [wl_get h, e]
theorem wl_none {ad : Nat → Nat} {f : Nat → va_E} {i : Nat} (h : ¬ i < NLc) : (wl ad f)[i]? = none := by
  have h2 : ¬ i < 185 := h
  simp [wl]; omega
theorem wl_set {ad : Nat → Nat} {f : Nat → va_E} {i : Nat} {c : va_E} (h : i < NLc) : (wl ad f).set i (ad i, c) = wl ad (va_up f i c) := by
  apply List.ext_getElem?
  intro j
  by_cases hj : j < NLc
  · rw [wl_get hj, List.getElem?_set]
    by_cases hi : i = j
    · subst hi
      have h2 : i < 185 := h
      simp [wl, h2, va_up]
    · rw [if_neg hi, wl_get hj]
      simp [va_up, Ne.symm hi]
  · rw [wl_none hj, List.getElem?_set]
    have hi : ¬ i = j := fun q => hj (q ▸ h)
    rw [if_neg hi, wl_none hj]
theorem wl_inv {ad : Nat → Nat} {f : Nat → va_E} {i : Nat} {q : Nat × va_E} (h : (wl ad f)[i]? = some q) : i < NLc ∧ q = (ad i, f i) := by
  by_cases hi : i < NLc
  · rw [wl_get hi] at h
    exact ⟨hi, (Option.some.inj h).symm⟩
  · rw [wl_none hi] at h
    cases h
theorem wl_D {ad : Nat → Nat} {f g : Nat → va_E} {A : Nat → Prop} (h : va_D A (wl ad f)) : va_D A (wl ad g) := by
  refine ⟨fun i j p q hi hj e => ?_, fun k q hk => ?_⟩
  · obtain ⟨h1, rfl⟩ := wl_inv hi
    obtain ⟨h2, rfl⟩ := wl_inv hj
    exact h.1 i j _ _ (wl_get h1) (wl_get h2) e
  · obtain ⟨h1, rfl⟩ := wl_inv hk
    exact h.2 k (ad k, f k) (wl_get h1)
def okI (cy : Nat → ClassId) (n : Nat) (e : va_E) : Prop := ∃ g : Nat → Int32, e = .inl (cy 0, n, .inl g)
def okIr (cy : Nat → ClassId) (n : Nat) (lo hi : Int) (md r : Nat) (e : va_E) : Prop := ∃ g : Nat → Int32, e = .inl (cy 0, n, .inl g) ∧ ∀ k, k % md = r → lo ≤ (g k).toInt ∧ (g k).toInt ≤ hi
def okIp (cy : Nat → ClassId) (n : Nat) (g : Nat → Int32) (e : va_E) : Prop := e = .inl (cy 0, n, .inl g)
def okIpr (cy : Nat → ClassId) (n : Nat) (lo hi : Int) (md r : Nat) (g : Nat → Int32) (e : va_E) : Prop := e = .inl (cy 0, n, .inl g) ∧ ∀ k, k % md = r → lo ≤ (g k).toInt ∧ (g k).toInt ≤ hi
def okBp (cy : Nat → ClassId) (n : Nat) (g : Nat → Int32) (e : va_E) : Prop := e = .inl (cy 1, n, .inl g)
def okB (cy : Nat → ClassId) (n : Nat) (e : va_E) : Prop := ∃ g : Nat → Int32, e = .inl (cy 1, n, .inl g)
def okJ (cy : Nat → ClassId) (n : Nat) (e : va_E) : Prop := ∃ g : Nat → Int64, e = .inl (cy 2, n, .inr (.inl g))
def okZ (cy : Nat → ClassId) (n : Nat) (e : va_E) : Prop := ∃ g : Nat → Int32, e = .inl (cy 3, n, .inl g)
def okS (ad : Nat → Nat) (cy : Nat → ClassId) (n b : Nat) (e : va_E) : Prop := ∃ g : Nat → Option Nat, e = .inl (cy 4, n, .inr (.inr (.inr (.inr g)))) ∧ ∀ k, k < n → g k = some (ad (b + 2 * k))
def okX8 (ad : Nat → Nat) (tx : Int32) (t : Nat) (e : va_E) : Prop := ∃ (t1 : Nat) (x5 : Int32) (x9 : Int32), e = .inr (8, [.ref (ad 1), .ref (ad t1), .ref (ad 5), .ref (ad 7), .ref (ad 9), .int x5, .ref (ad 10), .ref (ad 17), .ref (ad 18), .int x9, .ref (ad 19), .ref (ad 24), .int tx]) ∧ isSuit t1 ∧ (0 ≤ x9.toInt ∧ x9.toInt ≤ 10)
def okX3 (ad : Nat → Nat) (rby : Int32) (rnx : Int32) (t : Nat) (e : va_E) : Prop := ∃ (x0 : Int32) (x1 : Int32) (t4 : Nat) (x7 : Int32) (x9 : Int32) (x10 : Int32) (x11 : Int32) (y12 : Int64), e = .inr (3, [.int x0, .int x1, .int rby, .ref (ad 2), .ref (ad t4), .ref (ad 3), .ref (ad 4), .int x7, .int rnx, .int x9, .int x10, .int x11, .long y12]) ∧ (0 ≤ rby.toInt ∧ rby.toInt ≤ 1600) ∧ isSuit t4 ∧ (0 ≤ rnx.toInt ∧ rnx.toInt ≤ 1600)
def okX0 (ad : Nat → Nat) (t : Nat) (e : va_E) : Prop := ∃ (x1 : Int32) (x2 : Int32) (x3 : Int32), e = .inr (0, [.ref (ad 6), .int x1, .int x2, .int x3]) ∧ (0 ≤ x1.toInt ∧ x1.toInt ≤ 40)
def okX4 (ad : Nat → Nat) (t : Nat) (e : va_E) : Prop := ∃ (x1 : Int32) (x2 : Int32) (x3 : Int32) (x4 : Int32), e = .inr (4, [.ref (ad (t + 1)), .int x1, .int x2, .int x3, .int x4]) ∧ (0 ≤ x1.toInt ∧ x1.toInt ≤ 4095)
def okX2 (ad : Nat → Nat) (t : Nat) (e : va_E) : Prop := ∃ (x0 : Int32) (t4 : Nat) (x5 : Int32) (x9 : Int32), e = .inr (2, [.int x0, .ref (ad 11), .ref (ad 12), .ref (ad 13), .ref (ad t4), .int x5, .ref (ad 14), .ref (ad 15), .ref (ad 16), .int x9]) ∧ isSuit t4
def okX7 (ad : Nat → Nat) (t : Nat) (e : va_E) : Prop := ∃ (x0 : Int32), e = .inr (7, [.int x0, .ref (ad 20), .ref (ad 21), .ref (ad 22), .ref (ad 23)]) ∧ (0 ≤ x0.toInt ∧ x0.toInt ≤ 30)
def okX6 (ad : Nat → Nat) (t : Nat) (e : va_E) : Prop := ∃ (x0 : Int32), e = .inr (6, [.int x0, .ref (ad 25), .ref (ad 26)]) ∧ (0 ≤ x0.toInt ∧ x0.toInt ≤ 79)
def okX9 (ad : Nat → Nat) (m_taped : Int32) (m_size : Int32) (m_faultKind : Int32) (m_faultPlace : Int32) (m_at : Int32) (m_end : Int32) (m_token : Int32) (m_number : Int32) (m_name : Int64) (m_bank : Int32) (m_rb : Int32) (m_codes : Int32) (m_within : Int32) (m_piled : Int32) (m_unitsInRule : Int32) (m_askStrand : Int32) (m_askTied : Int32) (m_thoughtClaim : Int32) (m_thoughtNeed : Int32) (m_thoughtAll : Int32) (m_acts : Int32) (m_undone : Int32) (m_laid : Int32) (m_firstMove : Int32) (m_seens : Int32) (m_time : Int32) (m_waysNow : Int32) (m_fitting : Int32) (t : Nat) (e : va_E) : Prop := e = .inr (9, [.ref (ad 149), .ref (ad 150), .int m_taped, .int m_size, .int m_faultKind, .int m_faultPlace, .int m_at, .int m_end, .int m_token, .int m_number, .long m_name, .ref (ad 151), .ref (ad 152), .ref (ad 153), .ref (ad 154), .ref (ad 155), .ref (ad 156), .ref (ad 157), .ref (ad 158), .ref (ad 159), .ref (ad 160), .ref (ad 161), .ref (ad 162), .ref (ad 163), .ref (ad 164), .ref (ad 165), .ref (ad 166), .ref (ad 167), .ref (ad 168), .int m_bank, .int m_rb, .int m_codes, .int m_within, .int m_piled, .int m_unitsInRule, .int m_askStrand, .int m_askTied, .ref (ad 169), .ref (ad 170), .int m_thoughtClaim, .int m_thoughtNeed, .int m_thoughtAll, .ref (ad 171), .ref (ad 172), .ref (ad 173), .int m_acts, .int m_undone, .ref (ad 174), .int m_laid, .int m_firstMove, .ref (ad 175), .ref (ad 176), .ref (ad 177), .ref (ad 178), .ref (ad 179), .ref (ad 180), .ref (ad 181), .ref (ad 182), .int m_seens, .int m_time, .int m_waysNow, .int m_fitting, .ref (ad 183), .ref (ad 184)]) ∧ (0 ≤ m_taped.toInt ∧ m_taped.toInt ≤ 1600) ∧ (0 ≤ m_size.toInt ∧ m_size.toInt ≤ 1600) ∧ (0 ≤ m_faultKind.toInt ∧ m_faultKind.toInt ≤ 5) ∧ (0 ≤ m_at.toInt ∧ m_at.toInt ≤ 1600) ∧ (0 ≤ m_end.toInt ∧ m_end.toInt ≤ 1601) ∧ (0 ≤ m_token.toInt ∧ m_token.toInt ≤ 5) ∧ (0 ≤ m_bank.toInt ∧ m_bank.toInt ≤ 1) ∧ (0 ≤ m_rb.toInt ∧ m_rb.toInt ≤ 1) ∧ (0 ≤ m_codes.toInt ∧ m_codes.toInt ≤ 1120) ∧ (0 ≤ m_piled.toInt ∧ m_piled.toInt ≤ 90) ∧ (0 ≤ m_askStrand.toInt ∧ m_askStrand.toInt ≤ 11) ∧ (0 ≤ m_acts.toInt ∧ m_acts.toInt ≤ 40) ∧ (0 ≤ m_laid.toInt ∧ m_laid.toInt ≤ 10) ∧ (0 ≤ m_seens.toInt ∧ m_seens.toInt ≤ 30) ∧ (0 ≤ m_waysNow.toInt ∧ m_waysNow.toInt ≤ 79)
def okX5 (ad : Nat → Nat) (t : Nat) (e : va_E) : Prop := ∃ (x0 : Int32) (x1 : Int32) (x2 : Int32) (x3 : Int32) (x4 : Int32), e = .inr (5, [.int x0, .int x1, .int x2, .int x3, .int x4, .ref (ad (t + 1)), .ref (ad (t + 2)), .ref (ad (t + 3)), .ref (ad (t + 4)), .ref (ad (t + 5)), .ref (ad (t + 6)), .ref (ad (t + 7))]) ∧ (0 ≤ x0.toInt ∧ x0.toInt ≤ 10) ∧ (0 ≤ x2.toInt ∧ x2.toInt ≤ 12)
def okX1 (ad : Nat → Nat) (t : Nat) (e : va_E) : Prop := ∃ (x1 : Int32) (x2 : Int32) (x5 : Int32), e = .inr (1, [.ref (ad (t + 8)), .int x1, .int x2, .ref (ad (t + 9)), .ref (ad (t + 10)), .int x5]) ∧ (0 ≤ x1.toInt ∧ x1.toInt ≤ 269) ∧ (0 ≤ x5.toInt ∧ x5.toInt ≤ 30)
def OKx (ad : Nat → Nat) (cy : Nat → ClassId) (tx : Int32) (rby : Int32) (rnx : Int32) (i : Nat) (e : va_E) : Prop := match i with
  | 0 => okX8 ad tx 0 e
  | 1 => okX3 ad rby rnx 1 e
  | 2 => okB cy 1600 e
  | 3 => okJ cy 10 e
  | 4 => okJ cy 14 e
  | 5 => okX0 ad 5 e
  | 6 => okS ad cy 41 60 e
  | 7 => okX4 ad 7 e
  | 8 => okI cy 12 e
  | 9 => okS ad cy 3 142 e
  | 10 => okX2 ad 10 e
  | 11 => okI cy 12 e
  | 12 => okI cy 10 e
  | 13 => okI cy 10 e
  | 14 => okI cy 12 e
  | 15 => okI cy 10 e
  | 16 => okI cy 1200 e
  | 17 => okI cy 144 e
  | 18 => okI cy 10 e
  | 19 => okX7 ad 19 e
  | 20 => okI cy 30 e
  | 21 => okZ cy 30 e
  | 22 => okI cy 30 e
  | 23 => okI cy 30 e
  | 24 => okX6 ad 24 e
  | 25 => okI cy 79 e
  | 26 => okI cy 79 e
  | 27 => okX5 ad 27 e
  | 28 => okI cy 10 e
  | 29 => okI cy 10 e
  | 30 => okI cy 10 e
  | 31 => okIr cy 12 (0) (9) 1 0 e
  | 32 => okIr cy 12 (0) (9) 1 0 e
  | 33 => okI cy 12 e
  | 34 => okX1 ad 27 e
  | 35 => okI cy 269 e
  | 36 => okI cy 14 e
  | 37 => okI cy 30 e
  | 38 => okX5 ad 38 e
  | 39 => okI cy 10 e
  | 40 => okI cy 10 e
  | 41 => okI cy 10 e
  | 42 => okIr cy 12 (0) (9) 1 0 e
  | 43 => okIr cy 12 (0) (9) 1 0 e
  | 44 => okI cy 12 e
  | 45 => okX1 ad 38 e
  | 46 => okI cy 269 e
  | 47 => okI cy 14 e
  | 48 => okI cy 30 e
  | 49 => okX5 ad 49 e
  | 50 => okI cy 10 e
  | 51 => okI cy 10 e
  | 52 => okI cy 10 e
  | 53 => okIr cy 12 (0) (9) 1 0 e
  | 54 => okIr cy 12 (0) (9) 1 0 e
  | 55 => okI cy 12 e
  | 56 => okX1 ad 49 e
  | 57 => okI cy 269 e
  | 58 => okI cy 14 e
  | 59 => okI cy 30 e
  | _ => (if i < 60 then True else (if i % 2 = 0 then okX4 ad i e else okI cy 12 e))
def OKm (ad : Nat → Nat) (cy : Nat → ClassId) (c_text : Nat → Int32) (m_taped : Int32) (m_size : Int32) (m_faultKind : Int32) (m_faultPlace : Int32) (m_at : Int32) (m_end : Int32) (m_token : Int32) (m_number : Int32) (m_name : Int64) (c_points : Nat → Int32) (c_strands : Nat → Int32) (c_units : Nat → Int32) (c_told : Nat → Int32) (c_ruleFrom : Nat → Int32) (c_ruleTo : Nat → Int32) (c_code : Nat → Int32) (c_eWhat : Nat → Int32) (c_eSign : Nat → Int32) (m_bank : Int32) (m_rb : Int32) (m_codes : Int32) (m_within : Int32) (m_piled : Int32) (m_unitsInRule : Int32) (m_askStrand : Int32) (m_askTied : Int32) (m_thoughtClaim : Int32) (m_thoughtNeed : Int32) (m_thoughtAll : Int32) (c_roundOf : Nat → Int32) (m_acts : Int32) (m_undone : Int32) (m_laid : Int32) (m_firstMove : Int32) (m_seens : Int32) (m_time : Int32) (m_waysNow : Int32) (m_fitting : Int32) (i : Nat) (e : va_E) : Prop := match i with
  | 148 => okX9 ad m_taped m_size m_faultKind m_faultPlace m_at m_end m_token m_number m_name m_bank m_rb m_codes m_within m_piled m_unitsInRule m_askStrand m_askTied m_thoughtClaim m_thoughtNeed m_thoughtAll m_acts m_undone m_laid m_firstMove m_seens m_time m_waysNow m_fitting 148 e
  | 149 => okB cy 1620 e
  | 150 => okBp cy 1600 c_text e
  | 151 => okIpr cy 2 (0) (10) 1 0 c_points e
  | 152 => okIpr cy 2 (0) (12) 1 0 c_strands e
  | 153 => okIp cy 2 c_units e
  | 154 => okI cy 2 e
  | 155 => okI cy 2 e
  | 156 => okIp cy 2 c_told e
  | 157 => okI cy 20 e
  | 158 => okIr cy 24 (0) (9) 1 0 e
  | 159 => okIr cy 24 (0) (9) 1 0 e
  | 160 => okI cy 24 e
  | 161 => okIp cy 2 c_ruleFrom e
  | 162 => okIp cy 2 c_ruleTo e
  | 163 => okJ cy 20 e
  | 164 => okIp cy 1120 c_code e
  | 165 => okI cy 1120 e
  | 166 => okIp cy 90 c_eWhat e
  | 167 => okIp cy 90 c_eSign e
  | 168 => okI cy 60 e
  | 169 => okIr cy 16 (0) (4095) 16 1 e
  | 170 => okIr cy 16 (0) (4095) 16 1 e
  | 171 => okI cy 12 e
  | 172 => okIp cy 10 c_roundOf e
  | 173 => okIr cy 656 (0) (4095) 16 1 e
  | 174 => okI cy 10 e
  | 175 => okI cy 288 e
  | 176 => okI cy 79 e
  | 177 => okI cy 79 e
  | 178 => okI cy 30 e
  | 179 => okI cy 30 e
  | 180 => okI cy 30 e
  | 181 => okI cy 30 e
  | 182 => okZ cy 79 e
  | 183 => okIr cy 48 (0) (4095) 16 1 e
  | 184 => okZ cy 3 e
  | _ => True
def TYx (ad : Nat → Nat) (cy : Nat → ClassId) (fr : Nat → va_E) (tx : Int32) (rby : Int32) (rnx : Int32) (f : Nat → va_E) : Prop := (∀ i, i < 148 → OKx ad cy tx rby rnx i (f i)) ∧ ∀ i, 148 ≤ i → f i = fr i
def TYm (ad : Nat → Nat) (cy : Nat → ClassId) (fr : Nat → va_E) (c_text : Nat → Int32) (m_taped : Int32) (m_size : Int32) (m_faultKind : Int32) (m_faultPlace : Int32) (m_at : Int32) (m_end : Int32) (m_token : Int32) (m_number : Int32) (m_name : Int64) (c_points : Nat → Int32) (c_strands : Nat → Int32) (c_units : Nat → Int32) (c_told : Nat → Int32) (c_ruleFrom : Nat → Int32) (c_ruleTo : Nat → Int32) (c_code : Nat → Int32) (c_eWhat : Nat → Int32) (c_eSign : Nat → Int32) (m_bank : Int32) (m_rb : Int32) (m_codes : Int32) (m_within : Int32) (m_piled : Int32) (m_unitsInRule : Int32) (m_askStrand : Int32) (m_askTied : Int32) (m_thoughtClaim : Int32) (m_thoughtNeed : Int32) (m_thoughtAll : Int32) (c_roundOf : Nat → Int32) (m_acts : Int32) (m_undone : Int32) (m_laid : Int32) (m_firstMove : Int32) (m_seens : Int32) (m_time : Int32) (m_waysNow : Int32) (m_fitting : Int32) (f : Nat → va_E) : Prop := (∀ i, 148 ≤ i → OKm ad cy c_text m_taped m_size m_faultKind m_faultPlace m_at m_end m_token m_number m_name c_points c_strands c_units c_told c_ruleFrom c_ruleTo c_code c_eWhat c_eSign m_bank m_rb m_codes m_within m_piled m_unitsInRule m_askStrand m_askTied m_thoughtClaim m_thoughtNeed m_thoughtAll c_roundOf m_acts m_undone m_laid m_firstMove m_seens m_time m_waysNow m_fitting i (f i)) ∧ ∀ i, i < 148 → f i = fr i
theorem TYx.up {ad : Nat → Nat} {cy : Nat → ClassId} {fr : Nat → va_E} {tx : Int32} {rby : Int32} {rnx : Int32} {f : Nat → va_E} {i : Nat} {e : va_E} (h : TYx ad cy fr tx rby rnx f) (hi : i < 148) (ho : OKx ad cy tx rby rnx i e) : TYx ad cy fr tx rby rnx (va_up f i e) := by
  refine ⟨fun j hj => ?_, fun j hj => ?_⟩
  · by_cases q : j = i
    · subst q
      simpa [va_up] using ho
    · rw [va_up_ne _ _ q]
      exact h.1 j hj
  · rw [va_up_ne _ _ (by omega)]
    exact h.2 j hj
theorem TYm.up {ad : Nat → Nat} {cy : Nat → ClassId} {fr : Nat → va_E} {c_text : Nat → Int32} {m_taped : Int32} {m_size : Int32} {m_faultKind : Int32} {m_faultPlace : Int32} {m_at : Int32} {m_end : Int32} {m_token : Int32} {m_number : Int32} {m_name : Int64} {c_points : Nat → Int32} {c_strands : Nat → Int32} {c_units : Nat → Int32} {c_told : Nat → Int32} {c_ruleFrom : Nat → Int32} {c_ruleTo : Nat → Int32} {c_code : Nat → Int32} {c_eWhat : Nat → Int32} {c_eSign : Nat → Int32} {m_bank : Int32} {m_rb : Int32} {m_codes : Int32} {m_within : Int32} {m_piled : Int32} {m_unitsInRule : Int32} {m_askStrand : Int32} {m_askTied : Int32} {m_thoughtClaim : Int32} {m_thoughtNeed : Int32} {m_thoughtAll : Int32} {c_roundOf : Nat → Int32} {m_acts : Int32} {m_undone : Int32} {m_laid : Int32} {m_firstMove : Int32} {m_seens : Int32} {m_time : Int32} {m_waysNow : Int32} {m_fitting : Int32} {f : Nat → va_E} {i : Nat} {e : va_E} (h : TYm ad cy fr c_text m_taped m_size m_faultKind m_faultPlace m_at m_end m_token m_number m_name c_points c_strands c_units c_told c_ruleFrom c_ruleTo c_code c_eWhat c_eSign m_bank m_rb m_codes m_within m_piled m_unitsInRule m_askStrand m_askTied m_thoughtClaim m_thoughtNeed m_thoughtAll c_roundOf m_acts m_undone m_laid m_firstMove m_seens m_time m_waysNow m_fitting f) (hi : 148 ≤ i) (ho : OKm ad cy c_text m_taped m_size m_faultKind m_faultPlace m_at m_end m_token m_number m_name c_points c_strands c_units c_told c_ruleFrom c_ruleTo c_code c_eWhat c_eSign m_bank m_rb m_codes m_within m_piled m_unitsInRule m_askStrand m_askTied m_thoughtClaim m_thoughtNeed m_thoughtAll c_roundOf m_acts m_undone m_laid m_firstMove m_seens m_time m_waysNow m_fitting i e) : TYm ad cy fr c_text m_taped m_size m_faultKind m_faultPlace m_at m_end m_token m_number m_name c_points c_strands c_units c_told c_ruleFrom c_ruleTo c_code c_eWhat c_eSign m_bank m_rb m_codes m_within m_piled m_unitsInRule m_askStrand m_askTied m_thoughtClaim m_thoughtNeed m_thoughtAll c_roundOf m_acts m_undone m_laid m_firstMove m_seens m_time m_waysNow m_fitting (va_up f i e) := by
  refine ⟨fun j hj => ?_, fun j hj => ?_⟩
  · by_cases q : j = i
    · subst q
      simpa [va_up] using ho
    · rw [va_up_ne _ _ q]
      exact h.1 j hj
  · rw [va_up_ne _ _ (by omega)]
    exact h.2 j hj
theorem TYx.p0 {ad : Nat → Nat} {cy : Nat → ClassId} {fr : Nat → va_E} {tx : Int32} {rby : Int32} {rnx : Int32} {tx' : Int32} {f : Nat → va_E} {e : va_E} (h : TYx ad cy fr tx rby rnx f) (ho : OKx ad cy tx' rby rnx 0 e) : TYx ad cy fr tx' rby rnx (va_up f 0 e) := by
  refine ⟨fun j hj => ?_, fun j hj => ?_⟩
  · by_cases q : j = 0
    · subst q
      simpa [va_up] using ho
    · rw [va_up_ne _ _ q]
      have h1 := h.1 j hj
      unfold OKx at h1 ⊢
      split at h1 <;> first | exact h1 | exact absurd rfl q
  · rw [va_up_ne _ _ (by omega)]
    exact h.2 j hj
theorem TYx.p1 {ad : Nat → Nat} {cy : Nat → ClassId} {fr : Nat → va_E} {tx : Int32} {rby : Int32} {rnx : Int32} {rby' : Int32} {rnx' : Int32} {f : Nat → va_E} {e : va_E} (h : TYx ad cy fr tx rby rnx f) (ho : OKx ad cy tx rby' rnx' 1 e) : TYx ad cy fr tx rby' rnx' (va_up f 1 e) := by
  refine ⟨fun j hj => ?_, fun j hj => ?_⟩
  · by_cases q : j = 1
    · subst q
      simpa [va_up] using ho
    · rw [va_up_ne _ _ q]
      have h1 := h.1 j hj
      unfold OKx at h1 ⊢
      split at h1 <;> first | exact h1 | exact absurd rfl q
  · rw [va_up_ne _ _ (by omega)]
    exact h.2 j hj
theorem TYm.p148 {ad : Nat → Nat} {cy : Nat → ClassId} {fr : Nat → va_E} {c_text : Nat → Int32} {m_taped : Int32} {m_size : Int32} {m_faultKind : Int32} {m_faultPlace : Int32} {m_at : Int32} {m_end : Int32} {m_token : Int32} {m_number : Int32} {m_name : Int64} {c_points : Nat → Int32} {c_strands : Nat → Int32} {c_units : Nat → Int32} {c_told : Nat → Int32} {c_ruleFrom : Nat → Int32} {c_ruleTo : Nat → Int32} {c_code : Nat → Int32} {c_eWhat : Nat → Int32} {c_eSign : Nat → Int32} {m_bank : Int32} {m_rb : Int32} {m_codes : Int32} {m_within : Int32} {m_piled : Int32} {m_unitsInRule : Int32} {m_askStrand : Int32} {m_askTied : Int32} {m_thoughtClaim : Int32} {m_thoughtNeed : Int32} {m_thoughtAll : Int32} {c_roundOf : Nat → Int32} {m_acts : Int32} {m_undone : Int32} {m_laid : Int32} {m_firstMove : Int32} {m_seens : Int32} {m_time : Int32} {m_waysNow : Int32} {m_fitting : Int32} {m_taped' : Int32} {m_size' : Int32} {m_faultKind' : Int32} {m_faultPlace' : Int32} {m_at' : Int32} {m_end' : Int32} {m_token' : Int32} {m_number' : Int32} {m_name' : Int64} {m_bank' : Int32} {m_rb' : Int32} {m_codes' : Int32} {m_within' : Int32} {m_piled' : Int32} {m_unitsInRule' : Int32} {m_askStrand' : Int32} {m_askTied' : Int32} {m_thoughtClaim' : Int32} {m_thoughtNeed' : Int32} {m_thoughtAll' : Int32} {m_acts' : Int32} {m_undone' : Int32} {m_laid' : Int32} {m_firstMove' : Int32} {m_seens' : Int32} {m_time' : Int32} {m_waysNow' : Int32} {m_fitting' : Int32} {f : Nat → va_E} {e : va_E} (h : TYm ad cy fr c_text m_taped m_size m_faultKind m_faultPlace m_at m_end m_token m_number m_name c_points c_strands c_units c_told c_ruleFrom c_ruleTo c_code c_eWhat c_eSign m_bank m_rb m_codes m_within m_piled m_unitsInRule m_askStrand m_askTied m_thoughtClaim m_thoughtNeed m_thoughtAll c_roundOf m_acts m_undone m_laid m_firstMove m_seens m_time m_waysNow m_fitting f) (ho : OKm ad cy c_text m_taped' m_size' m_faultKind' m_faultPlace' m_at' m_end' m_token' m_number' m_name' c_points c_strands c_units c_told c_ruleFrom c_ruleTo c_code c_eWhat c_eSign m_bank' m_rb' m_codes' m_within' m_piled' m_unitsInRule' m_askStrand' m_askTied' m_thoughtClaim' m_thoughtNeed' m_thoughtAll' c_roundOf m_acts' m_undone' m_laid' m_firstMove' m_seens' m_time' m_waysNow' m_fitting' 148 e) : TYm ad cy fr c_text m_taped' m_size' m_faultKind' m_faultPlace' m_at' m_end' m_token' m_number' m_name' c_points c_strands c_units c_told c_ruleFrom c_ruleTo c_code c_eWhat c_eSign m_bank' m_rb' m_codes' m_within' m_piled' m_unitsInRule' m_askStrand' m_askTied' m_thoughtClaim' m_thoughtNeed' m_thoughtAll' c_roundOf m_acts' m_undone' m_laid' m_firstMove' m_seens' m_time' m_waysNow' m_fitting' (va_up f 148 e) := by
  refine ⟨fun j hj => ?_, fun j hj => ?_⟩
  · by_cases q : j = 148
    · subst q
      simpa [va_up] using ho
    · rw [va_up_ne _ _ q]
      have h1 := h.1 j hj
      unfold OKm at h1 ⊢
      split at h1 <;> first | exact h1 | exact absurd rfl q
  · rw [va_up_ne _ _ (by omega)]
    exact h.2 j hj
theorem TYm.p150 {ad : Nat → Nat} {cy : Nat → ClassId} {fr : Nat → va_E} {c_text : Nat → Int32} {m_taped : Int32} {m_size : Int32} {m_faultKind : Int32} {m_faultPlace : Int32} {m_at : Int32} {m_end : Int32} {m_token : Int32} {m_number : Int32} {m_name : Int64} {c_points : Nat → Int32} {c_strands : Nat → Int32} {c_units : Nat → Int32} {c_told : Nat → Int32} {c_ruleFrom : Nat → Int32} {c_ruleTo : Nat → Int32} {c_code : Nat → Int32} {c_eWhat : Nat → Int32} {c_eSign : Nat → Int32} {m_bank : Int32} {m_rb : Int32} {m_codes : Int32} {m_within : Int32} {m_piled : Int32} {m_unitsInRule : Int32} {m_askStrand : Int32} {m_askTied : Int32} {m_thoughtClaim : Int32} {m_thoughtNeed : Int32} {m_thoughtAll : Int32} {c_roundOf : Nat → Int32} {m_acts : Int32} {m_undone : Int32} {m_laid : Int32} {m_firstMove : Int32} {m_seens : Int32} {m_time : Int32} {m_waysNow : Int32} {m_fitting : Int32} {c_text' : Nat → Int32} {f : Nat → va_E} {e : va_E} (h : TYm ad cy fr c_text m_taped m_size m_faultKind m_faultPlace m_at m_end m_token m_number m_name c_points c_strands c_units c_told c_ruleFrom c_ruleTo c_code c_eWhat c_eSign m_bank m_rb m_codes m_within m_piled m_unitsInRule m_askStrand m_askTied m_thoughtClaim m_thoughtNeed m_thoughtAll c_roundOf m_acts m_undone m_laid m_firstMove m_seens m_time m_waysNow m_fitting f) (ho : OKm ad cy c_text' m_taped m_size m_faultKind m_faultPlace m_at m_end m_token m_number m_name c_points c_strands c_units c_told c_ruleFrom c_ruleTo c_code c_eWhat c_eSign m_bank m_rb m_codes m_within m_piled m_unitsInRule m_askStrand m_askTied m_thoughtClaim m_thoughtNeed m_thoughtAll c_roundOf m_acts m_undone m_laid m_firstMove m_seens m_time m_waysNow m_fitting 150 e) : TYm ad cy fr c_text' m_taped m_size m_faultKind m_faultPlace m_at m_end m_token m_number m_name c_points c_strands c_units c_told c_ruleFrom c_ruleTo c_code c_eWhat c_eSign m_bank m_rb m_codes m_within m_piled m_unitsInRule m_askStrand m_askTied m_thoughtClaim m_thoughtNeed m_thoughtAll c_roundOf m_acts m_undone m_laid m_firstMove m_seens m_time m_waysNow m_fitting (va_up f 150 e) := by
  refine ⟨fun j hj => ?_, fun j hj => ?_⟩
  · by_cases q : j = 150
    · subst q
      simpa [va_up] using ho
    · rw [va_up_ne _ _ q]
      have h1 := h.1 j hj
      unfold OKm at h1 ⊢
      split at h1 <;> first | exact h1 | exact absurd rfl q
  · rw [va_up_ne _ _ (by omega)]
    exact h.2 j hj
theorem TYm.p172 {ad : Nat → Nat} {cy : Nat → ClassId} {fr : Nat → va_E} {c_text : Nat → Int32} {m_taped : Int32} {m_size : Int32} {m_faultKind : Int32} {m_faultPlace : Int32} {m_at : Int32} {m_end : Int32} {m_token : Int32} {m_number : Int32} {m_name : Int64} {c_points : Nat → Int32} {c_strands : Nat → Int32} {c_units : Nat → Int32} {c_told : Nat → Int32} {c_ruleFrom : Nat → Int32} {c_ruleTo : Nat → Int32} {c_code : Nat → Int32} {c_eWhat : Nat → Int32} {c_eSign : Nat → Int32} {m_bank : Int32} {m_rb : Int32} {m_codes : Int32} {m_within : Int32} {m_piled : Int32} {m_unitsInRule : Int32} {m_askStrand : Int32} {m_askTied : Int32} {m_thoughtClaim : Int32} {m_thoughtNeed : Int32} {m_thoughtAll : Int32} {c_roundOf : Nat → Int32} {m_acts : Int32} {m_undone : Int32} {m_laid : Int32} {m_firstMove : Int32} {m_seens : Int32} {m_time : Int32} {m_waysNow : Int32} {m_fitting : Int32} {c_roundOf' : Nat → Int32} {f : Nat → va_E} {e : va_E} (h : TYm ad cy fr c_text m_taped m_size m_faultKind m_faultPlace m_at m_end m_token m_number m_name c_points c_strands c_units c_told c_ruleFrom c_ruleTo c_code c_eWhat c_eSign m_bank m_rb m_codes m_within m_piled m_unitsInRule m_askStrand m_askTied m_thoughtClaim m_thoughtNeed m_thoughtAll c_roundOf m_acts m_undone m_laid m_firstMove m_seens m_time m_waysNow m_fitting f) (ho : OKm ad cy c_text m_taped m_size m_faultKind m_faultPlace m_at m_end m_token m_number m_name c_points c_strands c_units c_told c_ruleFrom c_ruleTo c_code c_eWhat c_eSign m_bank m_rb m_codes m_within m_piled m_unitsInRule m_askStrand m_askTied m_thoughtClaim m_thoughtNeed m_thoughtAll c_roundOf' m_acts m_undone m_laid m_firstMove m_seens m_time m_waysNow m_fitting 172 e) : TYm ad cy fr c_text m_taped m_size m_faultKind m_faultPlace m_at m_end m_token m_number m_name c_points c_strands c_units c_told c_ruleFrom c_ruleTo c_code c_eWhat c_eSign m_bank m_rb m_codes m_within m_piled m_unitsInRule m_askStrand m_askTied m_thoughtClaim m_thoughtNeed m_thoughtAll c_roundOf' m_acts m_undone m_laid m_firstMove m_seens m_time m_waysNow m_fitting (va_up f 172 e) := by
  refine ⟨fun j hj => ?_, fun j hj => ?_⟩
  · by_cases q : j = 172
    · subst q
      simpa [va_up] using ho
    · rw [va_up_ne _ _ q]
      have h1 := h.1 j hj
      unfold OKm at h1 ⊢
      split at h1 <;> first | exact h1 | exact absurd rfl q
  · rw [va_up_ne _ _ (by omega)]
    exact h.2 j hj
theorem TYm.p151 {ad : Nat → Nat} {cy : Nat → ClassId} {fr : Nat → va_E} {c_text : Nat → Int32} {m_taped : Int32} {m_size : Int32} {m_faultKind : Int32} {m_faultPlace : Int32} {m_at : Int32} {m_end : Int32} {m_token : Int32} {m_number : Int32} {m_name : Int64} {c_points : Nat → Int32} {c_strands : Nat → Int32} {c_units : Nat → Int32} {c_told : Nat → Int32} {c_ruleFrom : Nat → Int32} {c_ruleTo : Nat → Int32} {c_code : Nat → Int32} {c_eWhat : Nat → Int32} {c_eSign : Nat → Int32} {m_bank : Int32} {m_rb : Int32} {m_codes : Int32} {m_within : Int32} {m_piled : Int32} {m_unitsInRule : Int32} {m_askStrand : Int32} {m_askTied : Int32} {m_thoughtClaim : Int32} {m_thoughtNeed : Int32} {m_thoughtAll : Int32} {c_roundOf : Nat → Int32} {m_acts : Int32} {m_undone : Int32} {m_laid : Int32} {m_firstMove : Int32} {m_seens : Int32} {m_time : Int32} {m_waysNow : Int32} {m_fitting : Int32} {c_points' : Nat → Int32} {f : Nat → va_E} {e : va_E} (h : TYm ad cy fr c_text m_taped m_size m_faultKind m_faultPlace m_at m_end m_token m_number m_name c_points c_strands c_units c_told c_ruleFrom c_ruleTo c_code c_eWhat c_eSign m_bank m_rb m_codes m_within m_piled m_unitsInRule m_askStrand m_askTied m_thoughtClaim m_thoughtNeed m_thoughtAll c_roundOf m_acts m_undone m_laid m_firstMove m_seens m_time m_waysNow m_fitting f) (ho : OKm ad cy c_text m_taped m_size m_faultKind m_faultPlace m_at m_end m_token m_number m_name c_points' c_strands c_units c_told c_ruleFrom c_ruleTo c_code c_eWhat c_eSign m_bank m_rb m_codes m_within m_piled m_unitsInRule m_askStrand m_askTied m_thoughtClaim m_thoughtNeed m_thoughtAll c_roundOf m_acts m_undone m_laid m_firstMove m_seens m_time m_waysNow m_fitting 151 e) : TYm ad cy fr c_text m_taped m_size m_faultKind m_faultPlace m_at m_end m_token m_number m_name c_points' c_strands c_units c_told c_ruleFrom c_ruleTo c_code c_eWhat c_eSign m_bank m_rb m_codes m_within m_piled m_unitsInRule m_askStrand m_askTied m_thoughtClaim m_thoughtNeed m_thoughtAll c_roundOf m_acts m_undone m_laid m_firstMove m_seens m_time m_waysNow m_fitting (va_up f 151 e) := by
  refine ⟨fun j hj => ?_, fun j hj => ?_⟩
  · by_cases q : j = 151
    · subst q
      simpa [va_up] using ho
    · rw [va_up_ne _ _ q]
      have h1 := h.1 j hj
      unfold OKm at h1 ⊢
      split at h1 <;> first | exact h1 | exact absurd rfl q
  · rw [va_up_ne _ _ (by omega)]
    exact h.2 j hj
theorem TYm.p152 {ad : Nat → Nat} {cy : Nat → ClassId} {fr : Nat → va_E} {c_text : Nat → Int32} {m_taped : Int32} {m_size : Int32} {m_faultKind : Int32} {m_faultPlace : Int32} {m_at : Int32} {m_end : Int32} {m_token : Int32} {m_number : Int32} {m_name : Int64} {c_points : Nat → Int32} {c_strands : Nat → Int32} {c_units : Nat → Int32} {c_told : Nat → Int32} {c_ruleFrom : Nat → Int32} {c_ruleTo : Nat → Int32} {c_code : Nat → Int32} {c_eWhat : Nat → Int32} {c_eSign : Nat → Int32} {m_bank : Int32} {m_rb : Int32} {m_codes : Int32} {m_within : Int32} {m_piled : Int32} {m_unitsInRule : Int32} {m_askStrand : Int32} {m_askTied : Int32} {m_thoughtClaim : Int32} {m_thoughtNeed : Int32} {m_thoughtAll : Int32} {c_roundOf : Nat → Int32} {m_acts : Int32} {m_undone : Int32} {m_laid : Int32} {m_firstMove : Int32} {m_seens : Int32} {m_time : Int32} {m_waysNow : Int32} {m_fitting : Int32} {c_strands' : Nat → Int32} {f : Nat → va_E} {e : va_E} (h : TYm ad cy fr c_text m_taped m_size m_faultKind m_faultPlace m_at m_end m_token m_number m_name c_points c_strands c_units c_told c_ruleFrom c_ruleTo c_code c_eWhat c_eSign m_bank m_rb m_codes m_within m_piled m_unitsInRule m_askStrand m_askTied m_thoughtClaim m_thoughtNeed m_thoughtAll c_roundOf m_acts m_undone m_laid m_firstMove m_seens m_time m_waysNow m_fitting f) (ho : OKm ad cy c_text m_taped m_size m_faultKind m_faultPlace m_at m_end m_token m_number m_name c_points c_strands' c_units c_told c_ruleFrom c_ruleTo c_code c_eWhat c_eSign m_bank m_rb m_codes m_within m_piled m_unitsInRule m_askStrand m_askTied m_thoughtClaim m_thoughtNeed m_thoughtAll c_roundOf m_acts m_undone m_laid m_firstMove m_seens m_time m_waysNow m_fitting 152 e) : TYm ad cy fr c_text m_taped m_size m_faultKind m_faultPlace m_at m_end m_token m_number m_name c_points c_strands' c_units c_told c_ruleFrom c_ruleTo c_code c_eWhat c_eSign m_bank m_rb m_codes m_within m_piled m_unitsInRule m_askStrand m_askTied m_thoughtClaim m_thoughtNeed m_thoughtAll c_roundOf m_acts m_undone m_laid m_firstMove m_seens m_time m_waysNow m_fitting (va_up f 152 e) := by
  refine ⟨fun j hj => ?_, fun j hj => ?_⟩
  · by_cases q : j = 152
    · subst q
      simpa [va_up] using ho
    · rw [va_up_ne _ _ q]
      have h1 := h.1 j hj
      unfold OKm at h1 ⊢
      split at h1 <;> first | exact h1 | exact absurd rfl q
  · rw [va_up_ne _ _ (by omega)]
    exact h.2 j hj
theorem TYm.p156 {ad : Nat → Nat} {cy : Nat → ClassId} {fr : Nat → va_E} {c_text : Nat → Int32} {m_taped : Int32} {m_size : Int32} {m_faultKind : Int32} {m_faultPlace : Int32} {m_at : Int32} {m_end : Int32} {m_token : Int32} {m_number : Int32} {m_name : Int64} {c_points : Nat → Int32} {c_strands : Nat → Int32} {c_units : Nat → Int32} {c_told : Nat → Int32} {c_ruleFrom : Nat → Int32} {c_ruleTo : Nat → Int32} {c_code : Nat → Int32} {c_eWhat : Nat → Int32} {c_eSign : Nat → Int32} {m_bank : Int32} {m_rb : Int32} {m_codes : Int32} {m_within : Int32} {m_piled : Int32} {m_unitsInRule : Int32} {m_askStrand : Int32} {m_askTied : Int32} {m_thoughtClaim : Int32} {m_thoughtNeed : Int32} {m_thoughtAll : Int32} {c_roundOf : Nat → Int32} {m_acts : Int32} {m_undone : Int32} {m_laid : Int32} {m_firstMove : Int32} {m_seens : Int32} {m_time : Int32} {m_waysNow : Int32} {m_fitting : Int32} {c_told' : Nat → Int32} {f : Nat → va_E} {e : va_E} (h : TYm ad cy fr c_text m_taped m_size m_faultKind m_faultPlace m_at m_end m_token m_number m_name c_points c_strands c_units c_told c_ruleFrom c_ruleTo c_code c_eWhat c_eSign m_bank m_rb m_codes m_within m_piled m_unitsInRule m_askStrand m_askTied m_thoughtClaim m_thoughtNeed m_thoughtAll c_roundOf m_acts m_undone m_laid m_firstMove m_seens m_time m_waysNow m_fitting f) (ho : OKm ad cy c_text m_taped m_size m_faultKind m_faultPlace m_at m_end m_token m_number m_name c_points c_strands c_units c_told' c_ruleFrom c_ruleTo c_code c_eWhat c_eSign m_bank m_rb m_codes m_within m_piled m_unitsInRule m_askStrand m_askTied m_thoughtClaim m_thoughtNeed m_thoughtAll c_roundOf m_acts m_undone m_laid m_firstMove m_seens m_time m_waysNow m_fitting 156 e) : TYm ad cy fr c_text m_taped m_size m_faultKind m_faultPlace m_at m_end m_token m_number m_name c_points c_strands c_units c_told' c_ruleFrom c_ruleTo c_code c_eWhat c_eSign m_bank m_rb m_codes m_within m_piled m_unitsInRule m_askStrand m_askTied m_thoughtClaim m_thoughtNeed m_thoughtAll c_roundOf m_acts m_undone m_laid m_firstMove m_seens m_time m_waysNow m_fitting (va_up f 156 e) := by
  refine ⟨fun j hj => ?_, fun j hj => ?_⟩
  · by_cases q : j = 156
    · subst q
      simpa [va_up] using ho
    · rw [va_up_ne _ _ q]
      have h1 := h.1 j hj
      unfold OKm at h1 ⊢
      split at h1 <;> first | exact h1 | exact absurd rfl q
  · rw [va_up_ne _ _ (by omega)]
    exact h.2 j hj
theorem TYm.p161 {ad : Nat → Nat} {cy : Nat → ClassId} {fr : Nat → va_E} {c_text : Nat → Int32} {m_taped : Int32} {m_size : Int32} {m_faultKind : Int32} {m_faultPlace : Int32} {m_at : Int32} {m_end : Int32} {m_token : Int32} {m_number : Int32} {m_name : Int64} {c_points : Nat → Int32} {c_strands : Nat → Int32} {c_units : Nat → Int32} {c_told : Nat → Int32} {c_ruleFrom : Nat → Int32} {c_ruleTo : Nat → Int32} {c_code : Nat → Int32} {c_eWhat : Nat → Int32} {c_eSign : Nat → Int32} {m_bank : Int32} {m_rb : Int32} {m_codes : Int32} {m_within : Int32} {m_piled : Int32} {m_unitsInRule : Int32} {m_askStrand : Int32} {m_askTied : Int32} {m_thoughtClaim : Int32} {m_thoughtNeed : Int32} {m_thoughtAll : Int32} {c_roundOf : Nat → Int32} {m_acts : Int32} {m_undone : Int32} {m_laid : Int32} {m_firstMove : Int32} {m_seens : Int32} {m_time : Int32} {m_waysNow : Int32} {m_fitting : Int32} {c_ruleFrom' : Nat → Int32} {f : Nat → va_E} {e : va_E} (h : TYm ad cy fr c_text m_taped m_size m_faultKind m_faultPlace m_at m_end m_token m_number m_name c_points c_strands c_units c_told c_ruleFrom c_ruleTo c_code c_eWhat c_eSign m_bank m_rb m_codes m_within m_piled m_unitsInRule m_askStrand m_askTied m_thoughtClaim m_thoughtNeed m_thoughtAll c_roundOf m_acts m_undone m_laid m_firstMove m_seens m_time m_waysNow m_fitting f) (ho : OKm ad cy c_text m_taped m_size m_faultKind m_faultPlace m_at m_end m_token m_number m_name c_points c_strands c_units c_told c_ruleFrom' c_ruleTo c_code c_eWhat c_eSign m_bank m_rb m_codes m_within m_piled m_unitsInRule m_askStrand m_askTied m_thoughtClaim m_thoughtNeed m_thoughtAll c_roundOf m_acts m_undone m_laid m_firstMove m_seens m_time m_waysNow m_fitting 161 e) : TYm ad cy fr c_text m_taped m_size m_faultKind m_faultPlace m_at m_end m_token m_number m_name c_points c_strands c_units c_told c_ruleFrom' c_ruleTo c_code c_eWhat c_eSign m_bank m_rb m_codes m_within m_piled m_unitsInRule m_askStrand m_askTied m_thoughtClaim m_thoughtNeed m_thoughtAll c_roundOf m_acts m_undone m_laid m_firstMove m_seens m_time m_waysNow m_fitting (va_up f 161 e) := by
  refine ⟨fun j hj => ?_, fun j hj => ?_⟩
  · by_cases q : j = 161
    · subst q
      simpa [va_up] using ho
    · rw [va_up_ne _ _ q]
      have h1 := h.1 j hj
      unfold OKm at h1 ⊢
      split at h1 <;> first | exact h1 | exact absurd rfl q
  · rw [va_up_ne _ _ (by omega)]
    exact h.2 j hj
theorem TYm.p162 {ad : Nat → Nat} {cy : Nat → ClassId} {fr : Nat → va_E} {c_text : Nat → Int32} {m_taped : Int32} {m_size : Int32} {m_faultKind : Int32} {m_faultPlace : Int32} {m_at : Int32} {m_end : Int32} {m_token : Int32} {m_number : Int32} {m_name : Int64} {c_points : Nat → Int32} {c_strands : Nat → Int32} {c_units : Nat → Int32} {c_told : Nat → Int32} {c_ruleFrom : Nat → Int32} {c_ruleTo : Nat → Int32} {c_code : Nat → Int32} {c_eWhat : Nat → Int32} {c_eSign : Nat → Int32} {m_bank : Int32} {m_rb : Int32} {m_codes : Int32} {m_within : Int32} {m_piled : Int32} {m_unitsInRule : Int32} {m_askStrand : Int32} {m_askTied : Int32} {m_thoughtClaim : Int32} {m_thoughtNeed : Int32} {m_thoughtAll : Int32} {c_roundOf : Nat → Int32} {m_acts : Int32} {m_undone : Int32} {m_laid : Int32} {m_firstMove : Int32} {m_seens : Int32} {m_time : Int32} {m_waysNow : Int32} {m_fitting : Int32} {c_ruleTo' : Nat → Int32} {f : Nat → va_E} {e : va_E} (h : TYm ad cy fr c_text m_taped m_size m_faultKind m_faultPlace m_at m_end m_token m_number m_name c_points c_strands c_units c_told c_ruleFrom c_ruleTo c_code c_eWhat c_eSign m_bank m_rb m_codes m_within m_piled m_unitsInRule m_askStrand m_askTied m_thoughtClaim m_thoughtNeed m_thoughtAll c_roundOf m_acts m_undone m_laid m_firstMove m_seens m_time m_waysNow m_fitting f) (ho : OKm ad cy c_text m_taped m_size m_faultKind m_faultPlace m_at m_end m_token m_number m_name c_points c_strands c_units c_told c_ruleFrom c_ruleTo' c_code c_eWhat c_eSign m_bank m_rb m_codes m_within m_piled m_unitsInRule m_askStrand m_askTied m_thoughtClaim m_thoughtNeed m_thoughtAll c_roundOf m_acts m_undone m_laid m_firstMove m_seens m_time m_waysNow m_fitting 162 e) : TYm ad cy fr c_text m_taped m_size m_faultKind m_faultPlace m_at m_end m_token m_number m_name c_points c_strands c_units c_told c_ruleFrom c_ruleTo' c_code c_eWhat c_eSign m_bank m_rb m_codes m_within m_piled m_unitsInRule m_askStrand m_askTied m_thoughtClaim m_thoughtNeed m_thoughtAll c_roundOf m_acts m_undone m_laid m_firstMove m_seens m_time m_waysNow m_fitting (va_up f 162 e) := by
  refine ⟨fun j hj => ?_, fun j hj => ?_⟩
  · by_cases q : j = 162
    · subst q
      simpa [va_up] using ho
    · rw [va_up_ne _ _ q]
      have h1 := h.1 j hj
      unfold OKm at h1 ⊢
      split at h1 <;> first | exact h1 | exact absurd rfl q
  · rw [va_up_ne _ _ (by omega)]
    exact h.2 j hj
theorem TYm.p164 {ad : Nat → Nat} {cy : Nat → ClassId} {fr : Nat → va_E} {c_text : Nat → Int32} {m_taped : Int32} {m_size : Int32} {m_faultKind : Int32} {m_faultPlace : Int32} {m_at : Int32} {m_end : Int32} {m_token : Int32} {m_number : Int32} {m_name : Int64} {c_points : Nat → Int32} {c_strands : Nat → Int32} {c_units : Nat → Int32} {c_told : Nat → Int32} {c_ruleFrom : Nat → Int32} {c_ruleTo : Nat → Int32} {c_code : Nat → Int32} {c_eWhat : Nat → Int32} {c_eSign : Nat → Int32} {m_bank : Int32} {m_rb : Int32} {m_codes : Int32} {m_within : Int32} {m_piled : Int32} {m_unitsInRule : Int32} {m_askStrand : Int32} {m_askTied : Int32} {m_thoughtClaim : Int32} {m_thoughtNeed : Int32} {m_thoughtAll : Int32} {c_roundOf : Nat → Int32} {m_acts : Int32} {m_undone : Int32} {m_laid : Int32} {m_firstMove : Int32} {m_seens : Int32} {m_time : Int32} {m_waysNow : Int32} {m_fitting : Int32} {c_code' : Nat → Int32} {f : Nat → va_E} {e : va_E} (h : TYm ad cy fr c_text m_taped m_size m_faultKind m_faultPlace m_at m_end m_token m_number m_name c_points c_strands c_units c_told c_ruleFrom c_ruleTo c_code c_eWhat c_eSign m_bank m_rb m_codes m_within m_piled m_unitsInRule m_askStrand m_askTied m_thoughtClaim m_thoughtNeed m_thoughtAll c_roundOf m_acts m_undone m_laid m_firstMove m_seens m_time m_waysNow m_fitting f) (ho : OKm ad cy c_text m_taped m_size m_faultKind m_faultPlace m_at m_end m_token m_number m_name c_points c_strands c_units c_told c_ruleFrom c_ruleTo c_code' c_eWhat c_eSign m_bank m_rb m_codes m_within m_piled m_unitsInRule m_askStrand m_askTied m_thoughtClaim m_thoughtNeed m_thoughtAll c_roundOf m_acts m_undone m_laid m_firstMove m_seens m_time m_waysNow m_fitting 164 e) : TYm ad cy fr c_text m_taped m_size m_faultKind m_faultPlace m_at m_end m_token m_number m_name c_points c_strands c_units c_told c_ruleFrom c_ruleTo c_code' c_eWhat c_eSign m_bank m_rb m_codes m_within m_piled m_unitsInRule m_askStrand m_askTied m_thoughtClaim m_thoughtNeed m_thoughtAll c_roundOf m_acts m_undone m_laid m_firstMove m_seens m_time m_waysNow m_fitting (va_up f 164 e) := by
  refine ⟨fun j hj => ?_, fun j hj => ?_⟩
  · by_cases q : j = 164
    · subst q
      simpa [va_up] using ho
    · rw [va_up_ne _ _ q]
      have h1 := h.1 j hj
      unfold OKm at h1 ⊢
      split at h1 <;> first | exact h1 | exact absurd rfl q
  · rw [va_up_ne _ _ (by omega)]
    exact h.2 j hj
theorem TYm.p166 {ad : Nat → Nat} {cy : Nat → ClassId} {fr : Nat → va_E} {c_text : Nat → Int32} {m_taped : Int32} {m_size : Int32} {m_faultKind : Int32} {m_faultPlace : Int32} {m_at : Int32} {m_end : Int32} {m_token : Int32} {m_number : Int32} {m_name : Int64} {c_points : Nat → Int32} {c_strands : Nat → Int32} {c_units : Nat → Int32} {c_told : Nat → Int32} {c_ruleFrom : Nat → Int32} {c_ruleTo : Nat → Int32} {c_code : Nat → Int32} {c_eWhat : Nat → Int32} {c_eSign : Nat → Int32} {m_bank : Int32} {m_rb : Int32} {m_codes : Int32} {m_within : Int32} {m_piled : Int32} {m_unitsInRule : Int32} {m_askStrand : Int32} {m_askTied : Int32} {m_thoughtClaim : Int32} {m_thoughtNeed : Int32} {m_thoughtAll : Int32} {c_roundOf : Nat → Int32} {m_acts : Int32} {m_undone : Int32} {m_laid : Int32} {m_firstMove : Int32} {m_seens : Int32} {m_time : Int32} {m_waysNow : Int32} {m_fitting : Int32} {c_eWhat' : Nat → Int32} {f : Nat → va_E} {e : va_E} (h : TYm ad cy fr c_text m_taped m_size m_faultKind m_faultPlace m_at m_end m_token m_number m_name c_points c_strands c_units c_told c_ruleFrom c_ruleTo c_code c_eWhat c_eSign m_bank m_rb m_codes m_within m_piled m_unitsInRule m_askStrand m_askTied m_thoughtClaim m_thoughtNeed m_thoughtAll c_roundOf m_acts m_undone m_laid m_firstMove m_seens m_time m_waysNow m_fitting f) (ho : OKm ad cy c_text m_taped m_size m_faultKind m_faultPlace m_at m_end m_token m_number m_name c_points c_strands c_units c_told c_ruleFrom c_ruleTo c_code c_eWhat' c_eSign m_bank m_rb m_codes m_within m_piled m_unitsInRule m_askStrand m_askTied m_thoughtClaim m_thoughtNeed m_thoughtAll c_roundOf m_acts m_undone m_laid m_firstMove m_seens m_time m_waysNow m_fitting 166 e) : TYm ad cy fr c_text m_taped m_size m_faultKind m_faultPlace m_at m_end m_token m_number m_name c_points c_strands c_units c_told c_ruleFrom c_ruleTo c_code c_eWhat' c_eSign m_bank m_rb m_codes m_within m_piled m_unitsInRule m_askStrand m_askTied m_thoughtClaim m_thoughtNeed m_thoughtAll c_roundOf m_acts m_undone m_laid m_firstMove m_seens m_time m_waysNow m_fitting (va_up f 166 e) := by
  refine ⟨fun j hj => ?_, fun j hj => ?_⟩
  · by_cases q : j = 166
    · subst q
      simpa [va_up] using ho
    · rw [va_up_ne _ _ q]
      have h1 := h.1 j hj
      unfold OKm at h1 ⊢
      split at h1 <;> first | exact h1 | exact absurd rfl q
  · rw [va_up_ne _ _ (by omega)]
    exact h.2 j hj
theorem TYm.p167 {ad : Nat → Nat} {cy : Nat → ClassId} {fr : Nat → va_E} {c_text : Nat → Int32} {m_taped : Int32} {m_size : Int32} {m_faultKind : Int32} {m_faultPlace : Int32} {m_at : Int32} {m_end : Int32} {m_token : Int32} {m_number : Int32} {m_name : Int64} {c_points : Nat → Int32} {c_strands : Nat → Int32} {c_units : Nat → Int32} {c_told : Nat → Int32} {c_ruleFrom : Nat → Int32} {c_ruleTo : Nat → Int32} {c_code : Nat → Int32} {c_eWhat : Nat → Int32} {c_eSign : Nat → Int32} {m_bank : Int32} {m_rb : Int32} {m_codes : Int32} {m_within : Int32} {m_piled : Int32} {m_unitsInRule : Int32} {m_askStrand : Int32} {m_askTied : Int32} {m_thoughtClaim : Int32} {m_thoughtNeed : Int32} {m_thoughtAll : Int32} {c_roundOf : Nat → Int32} {m_acts : Int32} {m_undone : Int32} {m_laid : Int32} {m_firstMove : Int32} {m_seens : Int32} {m_time : Int32} {m_waysNow : Int32} {m_fitting : Int32} {c_eSign' : Nat → Int32} {f : Nat → va_E} {e : va_E} (h : TYm ad cy fr c_text m_taped m_size m_faultKind m_faultPlace m_at m_end m_token m_number m_name c_points c_strands c_units c_told c_ruleFrom c_ruleTo c_code c_eWhat c_eSign m_bank m_rb m_codes m_within m_piled m_unitsInRule m_askStrand m_askTied m_thoughtClaim m_thoughtNeed m_thoughtAll c_roundOf m_acts m_undone m_laid m_firstMove m_seens m_time m_waysNow m_fitting f) (ho : OKm ad cy c_text m_taped m_size m_faultKind m_faultPlace m_at m_end m_token m_number m_name c_points c_strands c_units c_told c_ruleFrom c_ruleTo c_code c_eWhat c_eSign' m_bank m_rb m_codes m_within m_piled m_unitsInRule m_askStrand m_askTied m_thoughtClaim m_thoughtNeed m_thoughtAll c_roundOf m_acts m_undone m_laid m_firstMove m_seens m_time m_waysNow m_fitting 167 e) : TYm ad cy fr c_text m_taped m_size m_faultKind m_faultPlace m_at m_end m_token m_number m_name c_points c_strands c_units c_told c_ruleFrom c_ruleTo c_code c_eWhat c_eSign' m_bank m_rb m_codes m_within m_piled m_unitsInRule m_askStrand m_askTied m_thoughtClaim m_thoughtNeed m_thoughtAll c_roundOf m_acts m_undone m_laid m_firstMove m_seens m_time m_waysNow m_fitting (va_up f 167 e) := by
  refine ⟨fun j hj => ?_, fun j hj => ?_⟩
  · by_cases q : j = 167
    · subst q
      simpa [va_up] using ho
    · rw [va_up_ne _ _ q]
      have h1 := h.1 j hj
      unfold OKm at h1 ⊢
      split at h1 <;> first | exact h1 | exact absurd rfl q
  · rw [va_up_ne _ _ (by omega)]
    exact h.2 j hj
theorem TYm.p153 {ad : Nat → Nat} {cy : Nat → ClassId} {fr : Nat → va_E} {c_text : Nat → Int32} {m_taped : Int32} {m_size : Int32} {m_faultKind : Int32} {m_faultPlace : Int32} {m_at : Int32} {m_end : Int32} {m_token : Int32} {m_number : Int32} {m_name : Int64} {c_points : Nat → Int32} {c_strands : Nat → Int32} {c_units : Nat → Int32} {c_told : Nat → Int32} {c_ruleFrom : Nat → Int32} {c_ruleTo : Nat → Int32} {c_code : Nat → Int32} {c_eWhat : Nat → Int32} {c_eSign : Nat → Int32} {m_bank : Int32} {m_rb : Int32} {m_codes : Int32} {m_within : Int32} {m_piled : Int32} {m_unitsInRule : Int32} {m_askStrand : Int32} {m_askTied : Int32} {m_thoughtClaim : Int32} {m_thoughtNeed : Int32} {m_thoughtAll : Int32} {c_roundOf : Nat → Int32} {m_acts : Int32} {m_undone : Int32} {m_laid : Int32} {m_firstMove : Int32} {m_seens : Int32} {m_time : Int32} {m_waysNow : Int32} {m_fitting : Int32} {c_units' : Nat → Int32} {f : Nat → va_E} {e : va_E} (h : TYm ad cy fr c_text m_taped m_size m_faultKind m_faultPlace m_at m_end m_token m_number m_name c_points c_strands c_units c_told c_ruleFrom c_ruleTo c_code c_eWhat c_eSign m_bank m_rb m_codes m_within m_piled m_unitsInRule m_askStrand m_askTied m_thoughtClaim m_thoughtNeed m_thoughtAll c_roundOf m_acts m_undone m_laid m_firstMove m_seens m_time m_waysNow m_fitting f) (ho : OKm ad cy c_text m_taped m_size m_faultKind m_faultPlace m_at m_end m_token m_number m_name c_points c_strands c_units' c_told c_ruleFrom c_ruleTo c_code c_eWhat c_eSign m_bank m_rb m_codes m_within m_piled m_unitsInRule m_askStrand m_askTied m_thoughtClaim m_thoughtNeed m_thoughtAll c_roundOf m_acts m_undone m_laid m_firstMove m_seens m_time m_waysNow m_fitting 153 e) : TYm ad cy fr c_text m_taped m_size m_faultKind m_faultPlace m_at m_end m_token m_number m_name c_points c_strands c_units' c_told c_ruleFrom c_ruleTo c_code c_eWhat c_eSign m_bank m_rb m_codes m_within m_piled m_unitsInRule m_askStrand m_askTied m_thoughtClaim m_thoughtNeed m_thoughtAll c_roundOf m_acts m_undone m_laid m_firstMove m_seens m_time m_waysNow m_fitting (va_up f 153 e) := by
  refine ⟨fun j hj => ?_, fun j hj => ?_⟩
  · by_cases q : j = 153
    · subst q
      simpa [va_up] using ho
    · rw [va_up_ne _ _ q]
      have h1 := h.1 j hj
      unfold OKm at h1 ⊢
      split at h1 <;> first | exact h1 | exact absurd rfl q
  · rw [va_up_ne _ _ (by omega)]
    exact h.2 j hj
theorem ty_suit {ad : Nat → Nat} {cy : Nat → ClassId} {fr : Nat → va_E} {tx : Int32} {rby : Int32} {rnx : Int32} {f : Nat → va_E} {t : Nat} (h : TYx ad cy fr tx rby rnx f) (ht : isSuit t) : okX5 ad t (f t) := by
  rcases ht with rfl | rfl | rfl
  · exact h.1 27 (by decide)
  · exact h.1 38 (by decide)
  · exact h.1 49 (by decide)
theorem ok_suit {ad : Nat → Nat} {cy : Nat → ClassId} {tx : Int32} {rby : Int32} {rnx : Int32} {e : va_E} {t : Nat} (ht : isSuit t) (h : okX5 ad t e) : OKx ad cy tx rby rnx t e := by
  rcases ht with rfl | rfl | rfl <;> exact h
theorem ty_suit1 {ad : Nat → Nat} {cy : Nat → ClassId} {fr : Nat → va_E} {tx : Int32} {rby : Int32} {rnx : Int32} {f : Nat → va_E} {t : Nat} (h : TYx ad cy fr tx rby rnx f) (ht : isSuit t) : okI cy 10 (f (t + 1)) := by
  rcases ht with rfl | rfl | rfl
  · exact h.1 28 (by decide)
  · exact h.1 39 (by decide)
  · exact h.1 50 (by decide)
theorem ok_suit1 {ad : Nat → Nat} {cy : Nat → ClassId} {tx : Int32} {rby : Int32} {rnx : Int32} {e : va_E} {t : Nat} (ht : isSuit t) (h : okI cy 10 e) : OKx ad cy tx rby rnx (t + 1) e := by
  rcases ht with rfl | rfl | rfl <;> exact h
theorem ty_suit2 {ad : Nat → Nat} {cy : Nat → ClassId} {fr : Nat → va_E} {tx : Int32} {rby : Int32} {rnx : Int32} {f : Nat → va_E} {t : Nat} (h : TYx ad cy fr tx rby rnx f) (ht : isSuit t) : okI cy 10 (f (t + 2)) := by
  rcases ht with rfl | rfl | rfl
  · exact h.1 29 (by decide)
  · exact h.1 40 (by decide)
  · exact h.1 51 (by decide)
theorem ok_suit2 {ad : Nat → Nat} {cy : Nat → ClassId} {tx : Int32} {rby : Int32} {rnx : Int32} {e : va_E} {t : Nat} (ht : isSuit t) (h : okI cy 10 e) : OKx ad cy tx rby rnx (t + 2) e := by
  rcases ht with rfl | rfl | rfl <;> exact h
theorem ty_suit3 {ad : Nat → Nat} {cy : Nat → ClassId} {fr : Nat → va_E} {tx : Int32} {rby : Int32} {rnx : Int32} {f : Nat → va_E} {t : Nat} (h : TYx ad cy fr tx rby rnx f) (ht : isSuit t) : okI cy 10 (f (t + 3)) := by
  rcases ht with rfl | rfl | rfl
  · exact h.1 30 (by decide)
  · exact h.1 41 (by decide)
  · exact h.1 52 (by decide)
theorem ok_suit3 {ad : Nat → Nat} {cy : Nat → ClassId} {tx : Int32} {rby : Int32} {rnx : Int32} {e : va_E} {t : Nat} (ht : isSuit t) (h : okI cy 10 e) : OKx ad cy tx rby rnx (t + 3) e := by
  rcases ht with rfl | rfl | rfl <;> exact h
theorem ty_suit4 {ad : Nat → Nat} {cy : Nat → ClassId} {fr : Nat → va_E} {tx : Int32} {rby : Int32} {rnx : Int32} {f : Nat → va_E} {t : Nat} (h : TYx ad cy fr tx rby rnx f) (ht : isSuit t) : okIr cy 12 (0) (9) 1 0 (f (t + 4)) := by
  rcases ht with rfl | rfl | rfl
  · exact h.1 31 (by decide)
  · exact h.1 42 (by decide)
  · exact h.1 53 (by decide)
theorem ok_suit4 {ad : Nat → Nat} {cy : Nat → ClassId} {tx : Int32} {rby : Int32} {rnx : Int32} {e : va_E} {t : Nat} (ht : isSuit t) (h : okIr cy 12 (0) (9) 1 0 e) : OKx ad cy tx rby rnx (t + 4) e := by
  rcases ht with rfl | rfl | rfl <;> exact h
theorem ty_suit5 {ad : Nat → Nat} {cy : Nat → ClassId} {fr : Nat → va_E} {tx : Int32} {rby : Int32} {rnx : Int32} {f : Nat → va_E} {t : Nat} (h : TYx ad cy fr tx rby rnx f) (ht : isSuit t) : okIr cy 12 (0) (9) 1 0 (f (t + 5)) := by
  rcases ht with rfl | rfl | rfl
  · exact h.1 32 (by decide)
  · exact h.1 43 (by decide)
  · exact h.1 54 (by decide)
theorem ok_suit5 {ad : Nat → Nat} {cy : Nat → ClassId} {tx : Int32} {rby : Int32} {rnx : Int32} {e : va_E} {t : Nat} (ht : isSuit t) (h : okIr cy 12 (0) (9) 1 0 e) : OKx ad cy tx rby rnx (t + 5) e := by
  rcases ht with rfl | rfl | rfl <;> exact h
theorem ty_suit6 {ad : Nat → Nat} {cy : Nat → ClassId} {fr : Nat → va_E} {tx : Int32} {rby : Int32} {rnx : Int32} {f : Nat → va_E} {t : Nat} (h : TYx ad cy fr tx rby rnx f) (ht : isSuit t) : okI cy 12 (f (t + 6)) := by
  rcases ht with rfl | rfl | rfl
  · exact h.1 33 (by decide)
  · exact h.1 44 (by decide)
  · exact h.1 55 (by decide)
theorem ok_suit6 {ad : Nat → Nat} {cy : Nat → ClassId} {tx : Int32} {rby : Int32} {rnx : Int32} {e : va_E} {t : Nat} (ht : isSuit t) (h : okI cy 12 e) : OKx ad cy tx rby rnx (t + 6) e := by
  rcases ht with rfl | rfl | rfl <;> exact h
theorem ty_suit7 {ad : Nat → Nat} {cy : Nat → ClassId} {fr : Nat → va_E} {tx : Int32} {rby : Int32} {rnx : Int32} {f : Nat → va_E} {t : Nat} (h : TYx ad cy fr tx rby rnx f) (ht : isSuit t) : okX1 ad t (f (t + 7)) := by
  rcases ht with rfl | rfl | rfl
  · exact h.1 34 (by decide)
  · exact h.1 45 (by decide)
  · exact h.1 56 (by decide)
theorem ok_suit7 {ad : Nat → Nat} {cy : Nat → ClassId} {tx : Int32} {rby : Int32} {rnx : Int32} {e : va_E} {t : Nat} (ht : isSuit t) (h : okX1 ad t e) : OKx ad cy tx rby rnx (t + 7) e := by
  rcases ht with rfl | rfl | rfl <;> exact h
theorem ty_suit8 {ad : Nat → Nat} {cy : Nat → ClassId} {fr : Nat → va_E} {tx : Int32} {rby : Int32} {rnx : Int32} {f : Nat → va_E} {t : Nat} (h : TYx ad cy fr tx rby rnx f) (ht : isSuit t) : okI cy 269 (f (t + 8)) := by
  rcases ht with rfl | rfl | rfl
  · exact h.1 35 (by decide)
  · exact h.1 46 (by decide)
  · exact h.1 57 (by decide)
theorem ok_suit8 {ad : Nat → Nat} {cy : Nat → ClassId} {tx : Int32} {rby : Int32} {rnx : Int32} {e : va_E} {t : Nat} (ht : isSuit t) (h : okI cy 269 e) : OKx ad cy tx rby rnx (t + 8) e := by
  rcases ht with rfl | rfl | rfl <;> exact h
theorem ty_suit9 {ad : Nat → Nat} {cy : Nat → ClassId} {fr : Nat → va_E} {tx : Int32} {rby : Int32} {rnx : Int32} {f : Nat → va_E} {t : Nat} (h : TYx ad cy fr tx rby rnx f) (ht : isSuit t) : okI cy 14 (f (t + 9)) := by
  rcases ht with rfl | rfl | rfl
  · exact h.1 36 (by decide)
  · exact h.1 47 (by decide)
  · exact h.1 58 (by decide)
theorem ok_suit9 {ad : Nat → Nat} {cy : Nat → ClassId} {tx : Int32} {rby : Int32} {rnx : Int32} {e : va_E} {t : Nat} (ht : isSuit t) (h : okI cy 14 e) : OKx ad cy tx rby rnx (t + 9) e := by
  rcases ht with rfl | rfl | rfl <;> exact h
theorem ty_suit10 {ad : Nat → Nat} {cy : Nat → ClassId} {fr : Nat → va_E} {tx : Int32} {rby : Int32} {rnx : Int32} {f : Nat → va_E} {t : Nat} (h : TYx ad cy fr tx rby rnx f) (ht : isSuit t) : okI cy 30 (f (t + 10)) := by
  rcases ht with rfl | rfl | rfl
  · exact h.1 37 (by decide)
  · exact h.1 48 (by decide)
  · exact h.1 59 (by decide)
theorem ok_suit10 {ad : Nat → Nat} {cy : Nat → ClassId} {tx : Int32} {rby : Int32} {rnx : Int32} {e : va_E} {t : Nat} (ht : isSuit t) (h : okI cy 30 e) : OKx ad cy tx rby rnx (t + 10) e := by
  rcases ht with rfl | rfl | rfl <;> exact h
theorem ty_state {ad : Nat → Nat} {cy : Nat → ClassId} {fr : Nat → va_E} {tx : Int32} {rby : Int32} {rnx : Int32} {f : Nat → va_E} {t : Nat} (h : TYx ad cy fr tx rby rnx f) (ht : isState t) : okX4 ad t (f t) := by
  rcases ht with rfl | ⟨k, hk, rfl⟩
  · exact h.1 7 (by decide)
  have h1 := h.1 (60 + 2 * k) (by omega)
  unfold OKx at h1
  split at h1 <;> first | omega | skip
  rw [if_neg (by omega), if_pos (by omega)] at h1
  exact h1
theorem ok_state {ad : Nat → Nat} {cy : Nat → ClassId} {tx : Int32} {rby : Int32} {rnx : Int32} {e : va_E} {t : Nat} (ht : isState t) (h : okX4 ad t e) : OKx ad cy tx rby rnx t e := by
  rcases ht with rfl | ⟨k, hk, rfl⟩
  · exact h
  unfold OKx
  split <;> first | omega | skip
  rw [if_neg (by omega), if_pos (by omega)]
  exact h
theorem ty_strow {ad : Nat → Nat} {cy : Nat → ClassId} {fr : Nat → va_E} {tx : Int32} {rby : Int32} {rnx : Int32} {f : Nat → va_E} {t : Nat} (h : TYx ad cy fr tx rby rnx f) (ht : isState t) : okI cy 12 (f (t + 1)) := by
  rcases ht with rfl | ⟨k, hk, rfl⟩
  · exact h.1 8 (by decide)
  have h1 := h.1 (60 + 2 * k + 1) (by omega)
  unfold OKx at h1
  split at h1 <;> first | omega | skip
  rw [if_neg (by omega), if_neg (by omega)] at h1
  exact h1
theorem ok_strow {ad : Nat → Nat} {cy : Nat → ClassId} {tx : Int32} {rby : Int32} {rnx : Int32} {e : va_E} {t : Nat} (ht : isState t) (h : okI cy 12 e) : OKx ad cy tx rby rnx (t + 1) e := by
  rcases ht with rfl | ⟨k, hk, rfl⟩
  · exact h
  unfold OKx
  split <;> first | omega | skip
  rw [if_neg (by omega), if_neg (by omega)]
  exact h
theorem x_suit {t k : Nat} (h : isSuit t) (hk : k ≤ 10) : t + k < 148 := by rcases h with rfl | rfl | rfl <;> omega
theorem x_suit0 {t : Nat} (h : isSuit t) : t < 148 := x_suit (k := 0) h (by decide)
theorem x_state {t k : Nat} (h : isState t) (hk : k ≤ 1) : t + k < 148 := by rcases h with rfl | ⟨k, hk, rfl⟩ <;> omega
theorem x_state0 {t : Nat} (h : isState t) : t < 148 := x_state (k := 0) h (by decide)
theorem x_lt {i : Nat} (h : i < 148) : i < NLc := Nat.lt_trans h (by decide)
theorem m_lt {i : Nat} (h : i < 185) : i < NLc := h

/-! contracts over the typed heap -/
def PreT (B0 : Nat) (adK adV : Nat → Nat) (D : va_G) (cy : Nat → ClassId) (ad : Nat → Nat) (f : Nat → va_E) (sz : Nat) (U : State) : Prop := U.heap.size = sz ∧ va_P D vwCl (wl ad f) U.heap ∧ va_K D vwCl (tyL cy) U ∧ va_D (fun q => B0 ≤ q) (wl ad f) ∧ EN B0 adK adV U
theorem PreT.blind {av : List Value} {B0 : Nat} {adK adV : Nat → Nat} {D : va_G} {cy : Nat → ClassId} {ad : Nat → Nat} {f : Nat → va_E} {sz : Nat} : FrameBlind (va_Pc av (PreT B0 adK adV D cy ad f sz)) := fun a U g mk q => by
  obtain ⟨q0, q1, qP, qK, qD, qE⟩ := q
  exact ⟨q0, q1, qP, va_K.moved (u := U) (U := U.calling g mk a) (Vm.Alike.refl U.vm) qK, qD, qE.calling⟩
abbrev PstT (D : va_G) (ad : Nat → Nat) (f : Nat → va_E) (t : State) : Prop := va_P D vwCl (wl ad f) t.heap
theorem stU {D : va_G} {ad : Nat → Nat} {f : Nat → va_E} {A : Nat → Prop} {H : Heap} {i : Nat} {c : va_E} {T : (Nat → va_E) → Prop} (h : i < NLc) (hT : T (va_up f i c)) (hP : va_P D vwCl ((wl ad f).set i (ad i, c)) H) (hD : va_D A ((wl ad f).set i (ad i, c))) : ∃ f' : Nat → va_E, T f' ∧ va_P D vwCl (wl ad f') H ∧ va_D A (wl ad f') ∧ f' i = c ∧ ∀ j, j ≠ i → f' j = f j := by
  rw [wl_set h] at hP hD
  exact ⟨_, hT, hP, hD, by simp [va_up], fun j hj => va_up_ne _ _ hj⟩
def TtI (l : Launch) (y : MethodName) (wy : List Cond) (fr lo : Nat) (av : List Value) (B0 : Nat) (adK adV : Nat → Nat) (D : va_G) (cy : Nat → ClassId) (ad : Nat → Nat) (f : Nat → va_E) (sz : Nat) (post : Int32 → (Nat → va_E) → Prop) : Prop := Met l y wy (rmO fr lo 0 0) (va_Pc av (PreT B0 adK adV D cy ad f sz)) (va_Qi post (fun g t => PstT D ad g t) (va_A (wl ad f) sz)) 0 0 (va_A (wl ad f) sz)
theorem TtI.of {l : Launch} {y : MethodName} {wy wy' : List Cond} {fr lo : Nat} {av : List Value} {B0 : Nat} {adK adV : Nat → Nat} {D : va_G} {cy : Nat → ClassId} {ad : Nat → Nat} {f : Nat → va_E} {sz : Nat} {post : Int32 → (Nat → va_E) → Prop} {cc : ByteArray} {maxL : Nat} {ty : FieldType} {own : String} (hy : plainName y.cls = true) (hw : wy = .code y cc maxL (some ty) :: wy') (hlen : (lg_sl av).length ≤ maxL) (ho : y.cls = own)
    (body : ∀ (p : Program) (e : Env) (s : State) (m : MethodId) (below : List Frame) (meth : Method) (c : Code) (A : Nat → Prop) (ls : Array Slot), p.tables.exec = Jvm.exec → c.code = cc → meth.sig.returnType = some ty → c.maxLocals = maxL → (∀ w ∈ wy, w.before av.toArray s = true) → s.vm.findClass own = some m.cls → meth.locks = false → va_K D vwCl (tyL cy) s → EN B0 adK adV s → va_P D vwCl (wl ad f) s.heap → va_D A (wl ad f) → va_S A s.heap s.heap [] → (∀ q, s.heap.size ≤ q → A q) → (∀ q, A q → B0 ≤ q) → lv_has ls maxL (lv_args 0 av) →
      W p l e (rmO fr lo 0 0) s m av.toArray below meth c s.heap [] 0 0 (MQ below (va_Qi post (fun g t => PstT D ad g t) A) av.toArray s 0 0 A) (F0 m 0 ls [])) : TtI l y wy fr lo av B0 adK adV D cy ad f sz post := by
  refine Met.ofW (cc := cc) (maxL := maxL) (ret := some ty) hy hw ?_
  intro p e s m args below meth c s₁ B hml hv
  obtain ⟨rfl, hsz, hP, hK, hD0, hE⟩ := hv
  have hts := atoms_spec (ws := wy) B.pre
  have hown : s.vm.findClass y.cls = some m.cls := findClass_of_methodNamed B.named
  subst hsz
  have hD := hD0.self (sz := s.heap.size)
  have hAB0 : ∀ q, va_A (wl ad f) s.heap.size q → B0 ≤ q := by
    intro q hq
    rcases hq with ⟨k, x, hx⟩ | hq
    · exact hD0.2 k _ hx
    · exact Nat.le_trans hE.1 hq
  generalize hAe : va_A (wl ad f) s.heap.size = A at hD hAB0 ⊢
  have hA : ∀ q : Nat, s.heap.size ≤ q → A q := fun q h => by rw [← hAe]; exact Or.inr h
  rw [lg_entry_eq]
  exact body p e s m below meth c A _ B.exec B.bytes B.returns hml hts (by rw [← ho]; exact hown) B.notSynchronized hK hE hP hD va_S.rf hA hAB0 (lv_entry av hlen)
def TtL (l : Launch) (y : MethodName) (wy : List Cond) (fr lo : Nat) (av : List Value) (B0 : Nat) (adK adV : Nat → Nat) (D : va_G) (cy : Nat → ClassId) (ad : Nat → Nat) (f : Nat → va_E) (sz : Nat) (post : Int64 → (Nat → va_E) → Prop) : Prop := Met l y wy (rmO fr lo 0 0) (va_Pc av (PreT B0 adK adV D cy ad f sz)) (va_Ql post (fun g t => PstT D ad g t) (va_A (wl ad f) sz)) 0 0 (va_A (wl ad f) sz)
theorem TtL.of {l : Launch} {y : MethodName} {wy wy' : List Cond} {fr lo : Nat} {av : List Value} {B0 : Nat} {adK adV : Nat → Nat} {D : va_G} {cy : Nat → ClassId} {ad : Nat → Nat} {f : Nat → va_E} {sz : Nat} {post : Int64 → (Nat → va_E) → Prop} {cc : ByteArray} {maxL : Nat} {ty : FieldType} {own : String} (hy : plainName y.cls = true) (hw : wy = .code y cc maxL (some ty) :: wy') (hlen : (lg_sl av).length ≤ maxL) (ho : y.cls = own)
    (body : ∀ (p : Program) (e : Env) (s : State) (m : MethodId) (below : List Frame) (meth : Method) (c : Code) (A : Nat → Prop) (ls : Array Slot), p.tables.exec = Jvm.exec → c.code = cc → meth.sig.returnType = some ty → c.maxLocals = maxL → (∀ w ∈ wy, w.before av.toArray s = true) → s.vm.findClass own = some m.cls → meth.locks = false → va_K D vwCl (tyL cy) s → EN B0 adK adV s → va_P D vwCl (wl ad f) s.heap → va_D A (wl ad f) → va_S A s.heap s.heap [] → (∀ q, s.heap.size ≤ q → A q) → (∀ q, A q → B0 ≤ q) → lv_has ls maxL (lv_args 0 av) →
      W p l e (rmO fr lo 0 0) s m av.toArray below meth c s.heap [] 0 0 (MQ below (va_Ql post (fun g t => PstT D ad g t) A) av.toArray s 0 0 A) (F0 m 0 ls [])) : TtL l y wy fr lo av B0 adK adV D cy ad f sz post := by
  refine Met.ofW (cc := cc) (maxL := maxL) (ret := some ty) hy hw ?_
  intro p e s m args below meth c s₁ B hml hv
  obtain ⟨rfl, hsz, hP, hK, hD0, hE⟩ := hv
  have hts := atoms_spec (ws := wy) B.pre
  have hown : s.vm.findClass y.cls = some m.cls := findClass_of_methodNamed B.named
  subst hsz
  have hD := hD0.self (sz := s.heap.size)
  have hAB0 : ∀ q, va_A (wl ad f) s.heap.size q → B0 ≤ q := by
    intro q hq
    rcases hq with ⟨k, x, hx⟩ | hq
    · exact hD0.2 k _ hx
    · exact Nat.le_trans hE.1 hq
  generalize hAe : va_A (wl ad f) s.heap.size = A at hD hAB0 ⊢
  have hA : ∀ q : Nat, s.heap.size ≤ q → A q := fun q h => by rw [← hAe]; exact Or.inr h
  rw [lg_entry_eq]
  exact body p e s m below meth c A _ B.exec B.bytes B.returns hml hts (by rw [← ho]; exact hown) B.notSynchronized hK hE hP hD va_S.rf hA hAB0 (lv_entry av hlen)
def TtV (l : Launch) (y : MethodName) (wy : List Cond) (fr lo : Nat) (av : List Value) (B0 : Nat) (adK adV : Nat → Nat) (D : va_G) (cy : Nat → ClassId) (ad : Nat → Nat) (f : Nat → va_E) (sz : Nat) (post : (Nat → va_E) → Prop) : Prop := Met l y wy (rmO fr lo 0 0) (va_Pc av (PreT B0 adK adV D cy ad f sz)) (va_Qv post (fun g t => PstT D ad g t) (va_A (wl ad f) sz)) 0 0 (va_A (wl ad f) sz)
theorem TtV.of {l : Launch} {y : MethodName} {wy wy' : List Cond} {fr lo : Nat} {av : List Value} {B0 : Nat} {adK adV : Nat → Nat} {D : va_G} {cy : Nat → ClassId} {ad : Nat → Nat} {f : Nat → va_E} {sz : Nat} {post : (Nat → va_E) → Prop} {cc : ByteArray} {maxL : Nat} {own : String} (hy : plainName y.cls = true) (hw : wy = .code y cc maxL (none) :: wy') (hlen : (lg_sl av).length ≤ maxL) (ho : y.cls = own)
    (body : ∀ (p : Program) (e : Env) (s : State) (m : MethodId) (below : List Frame) (meth : Method) (c : Code) (A : Nat → Prop) (ls : Array Slot), p.tables.exec = Jvm.exec → c.code = cc → meth.sig.returnType = none → c.maxLocals = maxL → (∀ w ∈ wy, w.before av.toArray s = true) → s.vm.findClass own = some m.cls → meth.locks = false → va_K D vwCl (tyL cy) s → EN B0 adK adV s → va_P D vwCl (wl ad f) s.heap → va_D A (wl ad f) → va_S A s.heap s.heap [] → (∀ q, s.heap.size ≤ q → A q) → (∀ q, A q → B0 ≤ q) → lv_has ls maxL (lv_args 0 av) →
      W p l e (rmO fr lo 0 0) s m av.toArray below meth c s.heap [] 0 0 (MQ below (va_Qv post (fun g t => PstT D ad g t) A) av.toArray s 0 0 A) (F0 m 0 ls [])) : TtV l y wy fr lo av B0 adK adV D cy ad f sz post := by
  refine Met.ofW (cc := cc) (maxL := maxL) (ret := none) hy hw ?_
  intro p e s m args below meth c s₁ B hml hv
  obtain ⟨rfl, hsz, hP, hK, hD0, hE⟩ := hv
  have hts := atoms_spec (ws := wy) B.pre
  have hown : s.vm.findClass y.cls = some m.cls := findClass_of_methodNamed B.named
  subst hsz
  have hD := hD0.self (sz := s.heap.size)
  have hAB0 : ∀ q, va_A (wl ad f) s.heap.size q → B0 ≤ q := by
    intro q hq
    rcases hq with ⟨k, x, hx⟩ | hq
    · exact hD0.2 k _ hx
    · exact Nat.le_trans hE.1 hq
  generalize hAe : va_A (wl ad f) s.heap.size = A at hD hAB0 ⊢
  have hA : ∀ q : Nat, s.heap.size ≤ q → A q := fun q h => by rw [← hAe]; exact Or.inr h
  rw [lg_entry_eq]
  exact body p e s m below meth c A _ B.exec B.bytes B.returns hml hts (by rw [← ho]; exact hown) B.notSynchronized hK hE hP hD va_S.rf hA hAB0 (lv_entry av hlen)
def TtR (l : Launch) (y : MethodName) (wy : List Cond) (fr lo : Nat) (av : List Value) (B0 : Nat) (adK adV : Nat → Nat) (D : va_G) (cy : Nat → ClassId) (ad : Nat → Nat) (f : Nat → va_E) (sz : Nat) (post : (Nat → va_E) → Prop) (rf : Nat → (Nat → va_E) → Prop) : Prop := Met l y wy (rmO fr lo 0 0) (va_Pc av (PreT B0 adK adV D cy ad f sz)) (va_Qr post (fun g ra t => rf ra g ∧ PstT D ad g t) (va_A (wl ad f) sz)) 0 0 (va_A (wl ad f) sz)
theorem TtR.of {l : Launch} {y : MethodName} {wy wy' : List Cond} {fr lo : Nat} {av : List Value} {B0 : Nat} {adK adV : Nat → Nat} {D : va_G} {cy : Nat → ClassId} {ad : Nat → Nat} {f : Nat → va_E} {sz : Nat} {post : (Nat → va_E) → Prop} {rf : Nat → (Nat → va_E) → Prop} {cc : ByteArray} {maxL : Nat} {ty : FieldType} {own : String} (hy : plainName y.cls = true) (hw : wy = .code y cc maxL (some ty) :: wy') (hlen : (lg_sl av).length ≤ maxL) (ho : y.cls = own)
    (body : ∀ (p : Program) (e : Env) (s : State) (m : MethodId) (below : List Frame) (meth : Method) (c : Code) (A : Nat → Prop) (ls : Array Slot), p.tables.exec = Jvm.exec → c.code = cc → meth.sig.returnType = some ty → c.maxLocals = maxL → (∀ w ∈ wy, w.before av.toArray s = true) → s.vm.findClass own = some m.cls → meth.locks = false → va_K D vwCl (tyL cy) s → EN B0 adK adV s → va_P D vwCl (wl ad f) s.heap → va_D A (wl ad f) → va_S A s.heap s.heap [] → (∀ q, s.heap.size ≤ q → A q) → (∀ q, A q → B0 ≤ q) → lv_has ls maxL (lv_args 0 av) →
      W p l e (rmO fr lo 0 0) s m av.toArray below meth c s.heap [] 0 0 (MQ below (va_Qr post (fun g ra t => rf ra g ∧ PstT D ad g t) A) av.toArray s 0 0 A) (F0 m 0 ls [])) : TtR l y wy fr lo av B0 adK adV D cy ad f sz post rf := by
  refine Met.ofW (cc := cc) (maxL := maxL) (ret := some ty) hy hw ?_
  intro p e s m args below meth c s₁ B hml hv
  obtain ⟨rfl, hsz, hP, hK, hD0, hE⟩ := hv
  have hts := atoms_spec (ws := wy) B.pre
  have hown : s.vm.findClass y.cls = some m.cls := findClass_of_methodNamed B.named
  subst hsz
  have hD := hD0.self (sz := s.heap.size)
  have hAB0 : ∀ q, va_A (wl ad f) s.heap.size q → B0 ≤ q := by
    intro q hq
    rcases hq with ⟨k, x, hx⟩ | hq
    · exact hD0.2 k _ hx
    · exact Nat.le_trans hE.1 hq
  generalize hAe : va_A (wl ad f) s.heap.size = A at hD hAB0 ⊢
  have hA : ∀ q : Nat, s.heap.size ≤ q → A q := fun q h => by rw [← hAe]; exact Or.inr h
  rw [lg_entry_eq]
  exact body p e s m below meth c A _ B.exec B.bytes B.returns hml hts (by rw [← ho]; exact hown) B.notSynchronized hK hE hP hD va_S.rf hA hAB0 (lv_entry av hlen)
section TENDS
variable {p : Program} {l : Launch} {e : Env} {R : Room} {s : State} {m : MethodId} {args : Array Value} {below : List Frame} {meth : Method} {c : Code} {H : Heap} {locs : List Loc} {cells slots : Nat} {Q : State → Prop} {D : va_G} {ad : Nat → Nat} {f : Nat → va_E} {A : Nat → Prop} {cc : ByteArray} {pc : Nat} {ls : Array Slot}
theorem tI {post : Int32 → (Nat → va_E) → Prop} {v : Int32} {ty : FieldType} (hx : p.tables.exec = Jvm.exec) (hb : c.code = cc) (hr : meth.sig.returnType = some ty) (hlk : meth.locks = false) (hnr : narrow ty (.int v) = .int v) (hP : va_P D vwCl (wl ad f) H) (hS : va_S A s.heap H locs) (hp : post v f) (hdg : decode cc pc = .ok (.ireturn, 1)) : W p l e R s m args below meth c H locs cells slots (MQ below (va_Qi post (fun g t => PstT D ad g t) A) args s cells slots A) (F0 m pc ls [.int v]) :=
  W.zret (v := v) hx hb hr hnr (fun t ht _ => ⟨⟨v, f, rfl, hp, by show va_P D vwCl (wl ad f) t.heap; rw [ht]; exact hP⟩, hS.F ht⟩) hS.2.2 hdg hlk
theorem tL {post : Int64 → (Nat → va_E) → Prop} {v : Int64} (hx : p.tables.exec = Jvm.exec) (hb : c.code = cc) (hr : meth.sig.returnType = some .long) (hlk : meth.locks = false) (hP : va_P D vwCl (wl ad f) H) (hS : va_S A s.heap H locs) (hp : post v f) (hdg : decode cc pc = .ok (.lreturn, 1)) : W p l e R s m args below meth c H locs cells slots (MQ below (va_Ql post (fun g t => PstT D ad g t) A) args s cells slots A) (F0 m pc ls [.long v]) :=
  W.lret (v := v) hx hb hr (fun t ht _ => ⟨⟨v, f, rfl, hp, by show va_P D vwCl (wl ad f) t.heap; rw [ht]; exact hP⟩, hS.F ht⟩) hS.2.2 hdg hlk
theorem tV {post : (Nat → va_E) → Prop} (hx : p.tables.exec = Jvm.exec) (hb : c.code = cc) (hr : meth.sig.returnType = none) (hlk : meth.locks = false) (hP : va_P D vwCl (wl ad f) H) (hS : va_S A s.heap H locs) (hp : post f) (hdg : decode cc pc = .ok (.return_, 1)) : W p l e R s m args below meth c H locs cells slots (MQ below (va_Qv post (fun g t => PstT D ad g t) A) args s cells slots A) (F0 m pc ls []) :=
  W.vret hx hb hr (fun t ht _ => ⟨⟨f, rfl, hp, by show va_P D vwCl (wl ad f) t.heap; rw [ht]; exact hP⟩, hS.F ht⟩) hS.2.2 hdg hlk
theorem tR {post : (Nat → va_E) → Prop} {rf : Nat → (Nat → va_E) → Prop} {a : Nat} {cn : String} (hx : p.tables.exec = Jvm.exec) (hb : c.code = cc) (hr : meth.sig.returnType = some (.object cn)) (hlk : meth.locks = false) (hP : va_P D vwCl (wl ad f) H) (hS : va_S A s.heap H locs) (hp : post f) (ha : rf a f) (hdg : decode cc pc = .ok (.areturn, 1)) : W p l e R s m args below meth c H locs cells slots (MQ below (va_Qr post (fun g ra t => rf ra g ∧ PstT D ad g t) A) args s cells slots A) (F0 m pc ls [.ref a]) :=
  W.aret (v := .ref a) hx hb hr (Or.inl ⟨cn, rfl⟩) (Or.inr ⟨a, rfl⟩) (fun t ht _ => ⟨⟨f, a, rfl, hp, ha, by show va_P D vwCl (wl ad f) t.heap; rw [ht]; exact hP⟩, hS.F ht⟩) hS.2.2 hdg hlk
theorem lvcmp {rest : List Value} (hx : p.tables.exec = Jvm.exec) (hb : c.code = cc) {x y : Int64} (hdg : decode cc pc = .ok (.lcmp, 1)) (k : ∀ v : Int32, ((-1 ≤ v.toInt ∧ v.toInt ≤ 1) ∧ (v.toInt = 0 ↔ x.toInt = y.toInt)) → W p l e R s m args below meth c H locs cells slots Q (F0 m (pc + 1) ls (.int v :: rest))) : W p l e R s m args below meth c H locs cells slots Q (F0 m pc ls (.long y :: .long x :: rest)) := W.lcmp hx hb hdg (k _ (cmpF x y))
end TENDS
section TCALLS
variable {p : Program} {l : Launch} {e : Env} {R : Room} {s : State} {m : MethodId} {args : Array Value} {below : List Frame} {meth : Method} {c : Code} {H : Heap} {locs : List Loc} {cells slots : Nat} {Q : State → Prop} {B0 : Nat} {adK adV : Nat → Nat} {D : va_G} {cy : Nat → ClassId} {ad : Nat → Nat} {f : Nat → va_E} {A : Nat → Prop} {cc bytes : ByteArray} {pc index maxL n nL fr lo i : Nat} {ls : Array Slot} {y : MethodName} {wy Ts : List Cond} {own C host : String} {ret : Option FieldType} {As st rest : List Value}
theorem tVI {post : Int32 → (Nat → va_E) → Prop} (F : CallFix p m c cc nL s args Ts own) (hK : va_K D vwCl (tyL cy) s) (hE : EN B0 adK adV s) (hP : va_P D vwCl (wl ad f) H) (hD : va_D A (wl ad f)) (hS : va_S A s.heap H locs) (hA : ∀ q, s.heap.size ≤ q → A q) (hAB : ∀ q, A q → B0 ≤ q) (hM : TtI l y wy fr lo (.ref (ad i) :: As) B0 adK adV D cy ad f H.size post) (cw : CallW R s args own C index y bytes maxL ret wy (rmO fr lo 0 0) 0 0 n) (hi : i < NLc) (ci : Nat) {fs : List Value} {tn : u_T × Nat} (hq : f i = .inr (ci, fs)) (hc : vwCl[ci]? = some (C, tn)) (hn : As.length = n) (hsz : ls.size = nL) (hst : st = As.reverse ++ .ref (ad i) :: rest) (hW : (rest.map fun v => v.category).sum ≤ 8) (hdg : decode cc pc = .ok (.invokevirtual index, 3)) (hf : cells + 0 ≤ R.cells ∧ slots + 0 ≤ R.slots)
    (kk : ∀ (r : Int32) (g : Nat → va_E) (H1 : Heap) (locs1 : List Loc), post r g → va_P D vwCl (wl ad g) H1 → va_D A (wl ad g) → va_S A s.heap H1 locs1 → W p l e R s m args below meth c H1 locs1 cells slots Q (F0 m (pc + 3) ls (.int r :: rest))) : W p l e R s m args below meth c H locs cells slots Q (F0 m pc ls st) := by
  have hFc : ∀ q, va_A (wl ad f) H.size q → A q := by
    intro q hq
    rcases hq with ⟨k, x, hx⟩ | hq
    · exact hD.2 k _ hx
    · exact hA q (Nat.le_trans hS.1 hq)
  refine va_calli (va_runV (As := As) (rest := rest) F hM cw ⟨PreT.blind, va_recv hK hP hc (wl_at hi hq), fun U hU hW => ⟨rfl, by rw [hU], by rw [hU]; exact hP, va_K.moved hW.alike hK, hD.weaken (fun _ _ _ h => hAB _ h), hE.step hW (by rw [hU]; exact hS.1) (fun q h1 h2 => by rw [hU]; exact hS.2.1 q h1 (fun z => h2 (hAB q z)))⟩⟩ rfl hn hsz hst (lv_room hW) hdg hf) hS (fun q _ h => hFc q h) hFc (fun r g t H1 locs1 ht hvm hw hB hz1 hk1 hS1 => ?_)
  have hP1 : va_P D vwCl (wl ad g) t.heap := hB
  rw [ht] at hP1
  exact kk r g H1 locs1 hw hP1 (wl_D hD) hS1
theorem tSI {post : Int32 → (Nat → va_E) → Prop} (F : CallFix p m c cc nL s args Ts own) (hK : va_K D vwCl (tyL cy) s) (hE : EN B0 adK adV s) (hP : va_P D vwCl (wl ad f) H) (hD : va_D A (wl ad f)) (hS : va_S A s.heap H locs) (hA : ∀ q, s.heap.size ≤ q → A q) (hAB : ∀ q, A q → B0 ≤ q) (hM : TtI l y wy fr lo As B0 adK adV D cy ad f H.size post) (cw : CallB R s args own index y bytes maxL ret wy (rmO fr lo 0 0) 0 0 n ∧ (Cond.static y).before args s = true) (hn : As.length = n) (hsz : ls.size = nL) (hst : st = As.reverse ++ rest) (hW : (rest.map fun v => v.category).sum ≤ 8) (hdg : decode cc pc = .ok (.invokestatic index, 3)) (hf : cells + 0 ≤ R.cells ∧ slots + 0 ≤ R.slots)
    (kk : ∀ (r : Int32) (g : Nat → va_E) (H1 : Heap) (locs1 : List Loc), post r g → va_P D vwCl (wl ad g) H1 → va_D A (wl ad g) → va_S A s.heap H1 locs1 → W p l e R s m args below meth c H1 locs1 cells slots Q (F0 m (pc + 3) ls (.int r :: rest))) : W p l e R s m args below meth c H locs cells slots Q (F0 m pc ls st) := by
  have hFc : ∀ q, va_A (wl ad f) H.size q → A q := by
    intro q hq
    rcases hq with ⟨k, x, hx⟩ | hq
    · exact hD.2 k _ hx
    · exact hA q (Nat.le_trans hS.1 hq)
  refine va_calli (va_runS (As := As) (rest := rest) F hM cw ⟨PreT.blind, fun U hU hW => ⟨rfl, by rw [hU], by rw [hU]; exact hP, va_K.moved hW.alike hK, hD.weaken (fun _ _ _ h => hAB _ h), hE.step hW (by rw [hU]; exact hS.1) (fun q h1 h2 => by rw [hU]; exact hS.2.1 q h1 (fun z => h2 (hAB q z)))⟩⟩ rfl hn hsz hst (lv_room hW) hdg hf) hS (fun q _ h => hFc q h) hFc (fun r g t H1 locs1 ht hvm hw hB hz1 hk1 hS1 => ?_)
  have hP1 : va_P D vwCl (wl ad g) t.heap := hB
  rw [ht] at hP1
  exact kk r g H1 locs1 hw hP1 (wl_D hD) hS1
theorem tNI {post : Int32 → (Nat → va_E) → Prop} (F : CallFix p m c cc nL s args Ts own) (hK : va_K D vwCl (tyL cy) s) (hE : EN B0 adK adV s) (hP : va_P D vwCl (wl ad f) H) (hD : va_D A (wl ad f)) (hS : va_S A s.heap H locs) (hA : ∀ q, s.heap.size ≤ q → A q) (hAB : ∀ q, A q → B0 ≤ q) (hM : TtI l y wy fr lo As B0 adK adV D cy ad f H.size post) (cw : va_CN R s args own index y host bytes maxL ret wy (rmO fr lo 0 0) 0 0 n ∧ (Cond.static y).before args s = true ∧ True) (hn : As.length = n) (hsz : ls.size = nL) (hst : st = As.reverse ++ rest) (hW : (rest.map fun v => v.category).sum ≤ 8) (hdg : decode cc pc = .ok (.invokestatic index, 3)) (hf : cells + 0 ≤ R.cells ∧ slots + 0 ≤ R.slots)
    (kk : ∀ (r : Int32) (g : Nat → va_E) (H1 : Heap) (locs1 : List Loc), post r g → va_P D vwCl (wl ad g) H1 → va_D A (wl ad g) → va_S A s.heap H1 locs1 → W p l e R s m args below meth c H1 locs1 cells slots Q (F0 m (pc + 3) ls (.int r :: rest))) : W p l e R s m args below meth c H locs cells slots Q (F0 m pc ls st) := by
  have hFc : ∀ q, va_A (wl ad f) H.size q → A q := by
    intro q hq
    rcases hq with ⟨k, x, hx⟩ | hq
    · exact hD.2 k _ hx
    · exact hA q (Nat.le_trans hS.1 hq)
  refine va_calli (va_runSN (As := As) (rest := rest) F hM cw ⟨PreT.blind, fun U hU hW => ⟨rfl, by rw [hU], by rw [hU]; exact hP, va_K.moved hW.alike hK, hD.weaken (fun _ _ _ h => hAB _ h), hE.step hW (by rw [hU]; exact hS.1) (fun q h1 h2 => by rw [hU]; exact hS.2.1 q h1 (fun z => h2 (hAB q z)))⟩⟩ rfl hn hsz hst (lv_room hW) hdg hf) hS (fun q _ h => hFc q h) hFc (fun r g t H1 locs1 ht hvm hw hB hz1 hk1 hS1 => ?_)
  have hP1 : va_P D vwCl (wl ad g) t.heap := hB
  rw [ht] at hP1
  exact kk r g H1 locs1 hw hP1 (wl_D hD) hS1
theorem tVL {post : Int64 → (Nat → va_E) → Prop} (F : CallFix p m c cc nL s args Ts own) (hK : va_K D vwCl (tyL cy) s) (hE : EN B0 adK adV s) (hP : va_P D vwCl (wl ad f) H) (hD : va_D A (wl ad f)) (hS : va_S A s.heap H locs) (hA : ∀ q, s.heap.size ≤ q → A q) (hAB : ∀ q, A q → B0 ≤ q) (hM : TtL l y wy fr lo (.ref (ad i) :: As) B0 adK adV D cy ad f H.size post) (cw : CallW R s args own C index y bytes maxL ret wy (rmO fr lo 0 0) 0 0 n) (hi : i < NLc) (ci : Nat) {fs : List Value} {tn : u_T × Nat} (hq : f i = .inr (ci, fs)) (hc : vwCl[ci]? = some (C, tn)) (hn : As.length = n) (hsz : ls.size = nL) (hst : st = As.reverse ++ .ref (ad i) :: rest) (hW : (rest.map fun v => v.category).sum ≤ 8) (hdg : decode cc pc = .ok (.invokevirtual index, 3)) (hf : cells + 0 ≤ R.cells ∧ slots + 0 ≤ R.slots)
    (kk : ∀ (r : Int64) (g : Nat → va_E) (H1 : Heap) (locs1 : List Loc), post r g → va_P D vwCl (wl ad g) H1 → va_D A (wl ad g) → va_S A s.heap H1 locs1 → W p l e R s m args below meth c H1 locs1 cells slots Q (F0 m (pc + 3) ls (.long r :: rest))) : W p l e R s m args below meth c H locs cells slots Q (F0 m pc ls st) := by
  have hFc : ∀ q, va_A (wl ad f) H.size q → A q := by
    intro q hq
    rcases hq with ⟨k, x, hx⟩ | hq
    · exact hD.2 k _ hx
    · exact hA q (Nat.le_trans hS.1 hq)
  refine va_calll (va_runV (As := As) (rest := rest) F hM cw ⟨PreT.blind, va_recv hK hP hc (wl_at hi hq), fun U hU hW => ⟨rfl, by rw [hU], by rw [hU]; exact hP, va_K.moved hW.alike hK, hD.weaken (fun _ _ _ h => hAB _ h), hE.step hW (by rw [hU]; exact hS.1) (fun q h1 h2 => by rw [hU]; exact hS.2.1 q h1 (fun z => h2 (hAB q z)))⟩⟩ rfl hn hsz hst (lv_room hW) hdg hf) hS (fun q _ h => hFc q h) hFc (fun r g t H1 locs1 ht hvm hw hB hz1 hk1 hS1 => ?_)
  have hP1 : va_P D vwCl (wl ad g) t.heap := hB
  rw [ht] at hP1
  exact kk r g H1 locs1 hw hP1 (wl_D hD) hS1
theorem tSL {post : Int64 → (Nat → va_E) → Prop} (F : CallFix p m c cc nL s args Ts own) (hK : va_K D vwCl (tyL cy) s) (hE : EN B0 adK adV s) (hP : va_P D vwCl (wl ad f) H) (hD : va_D A (wl ad f)) (hS : va_S A s.heap H locs) (hA : ∀ q, s.heap.size ≤ q → A q) (hAB : ∀ q, A q → B0 ≤ q) (hM : TtL l y wy fr lo As B0 adK adV D cy ad f H.size post) (cw : CallB R s args own index y bytes maxL ret wy (rmO fr lo 0 0) 0 0 n ∧ (Cond.static y).before args s = true) (hn : As.length = n) (hsz : ls.size = nL) (hst : st = As.reverse ++ rest) (hW : (rest.map fun v => v.category).sum ≤ 8) (hdg : decode cc pc = .ok (.invokestatic index, 3)) (hf : cells + 0 ≤ R.cells ∧ slots + 0 ≤ R.slots)
    (kk : ∀ (r : Int64) (g : Nat → va_E) (H1 : Heap) (locs1 : List Loc), post r g → va_P D vwCl (wl ad g) H1 → va_D A (wl ad g) → va_S A s.heap H1 locs1 → W p l e R s m args below meth c H1 locs1 cells slots Q (F0 m (pc + 3) ls (.long r :: rest))) : W p l e R s m args below meth c H locs cells slots Q (F0 m pc ls st) := by
  have hFc : ∀ q, va_A (wl ad f) H.size q → A q := by
    intro q hq
    rcases hq with ⟨k, x, hx⟩ | hq
    · exact hD.2 k _ hx
    · exact hA q (Nat.le_trans hS.1 hq)
  refine va_calll (va_runS (As := As) (rest := rest) F hM cw ⟨PreT.blind, fun U hU hW => ⟨rfl, by rw [hU], by rw [hU]; exact hP, va_K.moved hW.alike hK, hD.weaken (fun _ _ _ h => hAB _ h), hE.step hW (by rw [hU]; exact hS.1) (fun q h1 h2 => by rw [hU]; exact hS.2.1 q h1 (fun z => h2 (hAB q z)))⟩⟩ rfl hn hsz hst (lv_room hW) hdg hf) hS (fun q _ h => hFc q h) hFc (fun r g t H1 locs1 ht hvm hw hB hz1 hk1 hS1 => ?_)
  have hP1 : va_P D vwCl (wl ad g) t.heap := hB
  rw [ht] at hP1
  exact kk r g H1 locs1 hw hP1 (wl_D hD) hS1
theorem tVV {post : (Nat → va_E) → Prop} (F : CallFix p m c cc nL s args Ts own) (hK : va_K D vwCl (tyL cy) s) (hE : EN B0 adK adV s) (hP : va_P D vwCl (wl ad f) H) (hD : va_D A (wl ad f)) (hS : va_S A s.heap H locs) (hA : ∀ q, s.heap.size ≤ q → A q) (hAB : ∀ q, A q → B0 ≤ q) (hM : TtV l y wy fr lo (.ref (ad i) :: As) B0 adK adV D cy ad f H.size post) (cw : CallW R s args own C index y bytes maxL ret wy (rmO fr lo 0 0) 0 0 n) (hi : i < NLc) (ci : Nat) {fs : List Value} {tn : u_T × Nat} (hq : f i = .inr (ci, fs)) (hc : vwCl[ci]? = some (C, tn)) (hn : As.length = n) (hsz : ls.size = nL) (hst : st = As.reverse ++ .ref (ad i) :: rest) (hW : (rest.map fun v => v.category).sum ≤ 8) (hdg : decode cc pc = .ok (.invokevirtual index, 3)) (hf : cells + 0 ≤ R.cells ∧ slots + 0 ≤ R.slots)
    (kk : ∀ (g : Nat → va_E) (H1 : Heap) (locs1 : List Loc), post g → va_P D vwCl (wl ad g) H1 → va_D A (wl ad g) → va_S A s.heap H1 locs1 → W p l e R s m args below meth c H1 locs1 cells slots Q (F0 m (pc + 3) ls rest)) : W p l e R s m args below meth c H locs cells slots Q (F0 m pc ls st) := by
  have hFc : ∀ q, va_A (wl ad f) H.size q → A q := by
    intro q hq
    rcases hq with ⟨k, x, hx⟩ | hq
    · exact hD.2 k _ hx
    · exact hA q (Nat.le_trans hS.1 hq)
  refine va_callv (va_runV (As := As) (rest := rest) F hM cw ⟨PreT.blind, va_recv hK hP hc (wl_at hi hq), fun U hU hW => ⟨rfl, by rw [hU], by rw [hU]; exact hP, va_K.moved hW.alike hK, hD.weaken (fun _ _ _ h => hAB _ h), hE.step hW (by rw [hU]; exact hS.1) (fun q h1 h2 => by rw [hU]; exact hS.2.1 q h1 (fun z => h2 (hAB q z)))⟩⟩ rfl hn hsz hst (lv_room hW) hdg hf) hS (fun q _ h => hFc q h) hFc (fun g t H1 locs1 ht hvm hw hB hz1 hk1 hS1 => ?_)
  have hP1 : va_P D vwCl (wl ad g) t.heap := hB
  rw [ht] at hP1
  exact kk g H1 locs1 hw hP1 (wl_D hD) hS1
theorem tSV {post : (Nat → va_E) → Prop} (F : CallFix p m c cc nL s args Ts own) (hK : va_K D vwCl (tyL cy) s) (hE : EN B0 adK adV s) (hP : va_P D vwCl (wl ad f) H) (hD : va_D A (wl ad f)) (hS : va_S A s.heap H locs) (hA : ∀ q, s.heap.size ≤ q → A q) (hAB : ∀ q, A q → B0 ≤ q) (hM : TtV l y wy fr lo As B0 adK adV D cy ad f H.size post) (cw : CallB R s args own index y bytes maxL ret wy (rmO fr lo 0 0) 0 0 n ∧ (Cond.static y).before args s = true) (hn : As.length = n) (hsz : ls.size = nL) (hst : st = As.reverse ++ rest) (hW : (rest.map fun v => v.category).sum ≤ 8) (hdg : decode cc pc = .ok (.invokestatic index, 3)) (hf : cells + 0 ≤ R.cells ∧ slots + 0 ≤ R.slots)
    (kk : ∀ (g : Nat → va_E) (H1 : Heap) (locs1 : List Loc), post g → va_P D vwCl (wl ad g) H1 → va_D A (wl ad g) → va_S A s.heap H1 locs1 → W p l e R s m args below meth c H1 locs1 cells slots Q (F0 m (pc + 3) ls rest)) : W p l e R s m args below meth c H locs cells slots Q (F0 m pc ls st) := by
  have hFc : ∀ q, va_A (wl ad f) H.size q → A q := by
    intro q hq
    rcases hq with ⟨k, x, hx⟩ | hq
    · exact hD.2 k _ hx
    · exact hA q (Nat.le_trans hS.1 hq)
  refine va_callv (va_runS (As := As) (rest := rest) F hM cw ⟨PreT.blind, fun U hU hW => ⟨rfl, by rw [hU], by rw [hU]; exact hP, va_K.moved hW.alike hK, hD.weaken (fun _ _ _ h => hAB _ h), hE.step hW (by rw [hU]; exact hS.1) (fun q h1 h2 => by rw [hU]; exact hS.2.1 q h1 (fun z => h2 (hAB q z)))⟩⟩ rfl hn hsz hst (lv_room hW) hdg hf) hS (fun q _ h => hFc q h) hFc (fun g t H1 locs1 ht hvm hw hB hz1 hk1 hS1 => ?_)
  have hP1 : va_P D vwCl (wl ad g) t.heap := hB
  rw [ht] at hP1
  exact kk g H1 locs1 hw hP1 (wl_D hD) hS1
theorem tVR {post : (Nat → va_E) → Prop} {rf : Nat → (Nat → va_E) → Prop} (F : CallFix p m c cc nL s args Ts own) (hK : va_K D vwCl (tyL cy) s) (hE : EN B0 adK adV s) (hP : va_P D vwCl (wl ad f) H) (hD : va_D A (wl ad f)) (hS : va_S A s.heap H locs) (hA : ∀ q, s.heap.size ≤ q → A q) (hAB : ∀ q, A q → B0 ≤ q) (hM : TtR l y wy fr lo (.ref (ad i) :: As) B0 adK adV D cy ad f H.size post rf) (cw : CallW R s args own C index y bytes maxL ret wy (rmO fr lo 0 0) 0 0 n) (hi : i < NLc) (ci : Nat) {fs : List Value} {tn : u_T × Nat} (hq : f i = .inr (ci, fs)) (hc : vwCl[ci]? = some (C, tn)) (hn : As.length = n) (hsz : ls.size = nL) (hst : st = As.reverse ++ .ref (ad i) :: rest) (hW : (rest.map fun v => v.category).sum ≤ 8) (hdg : decode cc pc = .ok (.invokevirtual index, 3)) (hf : cells + 0 ≤ R.cells ∧ slots + 0 ≤ R.slots)
    (kk : ∀ (ra : Nat) (g : Nat → va_E) (H1 : Heap) (locs1 : List Loc), post g → rf ra g → va_P D vwCl (wl ad g) H1 → va_D A (wl ad g) → va_S A s.heap H1 locs1 → W p l e R s m args below meth c H1 locs1 cells slots Q (F0 m (pc + 3) ls (.ref ra :: rest))) : W p l e R s m args below meth c H locs cells slots Q (F0 m pc ls st) := by
  have hFc : ∀ q, va_A (wl ad f) H.size q → A q := by
    intro q hq
    rcases hq with ⟨k, x, hx⟩ | hq
    · exact hD.2 k _ hx
    · exact hA q (Nat.le_trans hS.1 hq)
  refine va_callr (va_runV (As := As) (rest := rest) F hM cw ⟨PreT.blind, va_recv hK hP hc (wl_at hi hq), fun U hU hW => ⟨rfl, by rw [hU], by rw [hU]; exact hP, va_K.moved hW.alike hK, hD.weaken (fun _ _ _ h => hAB _ h), hE.step hW (by rw [hU]; exact hS.1) (fun q h1 h2 => by rw [hU]; exact hS.2.1 q h1 (fun z => h2 (hAB q z)))⟩⟩ rfl hn hsz hst (lv_room hW) hdg hf) hS (fun q _ h => hFc q h) hFc (fun g ra t H1 locs1 ht hvm hw hB hz1 hk1 hS1 => ?_)
  obtain ⟨hr1, hP1⟩ := hB
  have hP1 : va_P D vwCl (wl ad g) t.heap := hP1
  rw [ht] at hP1
  exact kk ra g H1 locs1 hw hr1 hP1 (wl_D hD) hS1
theorem tSR {post : (Nat → va_E) → Prop} {rf : Nat → (Nat → va_E) → Prop} (F : CallFix p m c cc nL s args Ts own) (hK : va_K D vwCl (tyL cy) s) (hE : EN B0 adK adV s) (hP : va_P D vwCl (wl ad f) H) (hD : va_D A (wl ad f)) (hS : va_S A s.heap H locs) (hA : ∀ q, s.heap.size ≤ q → A q) (hAB : ∀ q, A q → B0 ≤ q) (hM : TtR l y wy fr lo As B0 adK adV D cy ad f H.size post rf) (cw : CallB R s args own index y bytes maxL ret wy (rmO fr lo 0 0) 0 0 n ∧ (Cond.static y).before args s = true) (hn : As.length = n) (hsz : ls.size = nL) (hst : st = As.reverse ++ rest) (hW : (rest.map fun v => v.category).sum ≤ 8) (hdg : decode cc pc = .ok (.invokestatic index, 3)) (hf : cells + 0 ≤ R.cells ∧ slots + 0 ≤ R.slots)
    (kk : ∀ (ra : Nat) (g : Nat → va_E) (H1 : Heap) (locs1 : List Loc), post g → rf ra g → va_P D vwCl (wl ad g) H1 → va_D A (wl ad g) → va_S A s.heap H1 locs1 → W p l e R s m args below meth c H1 locs1 cells slots Q (F0 m (pc + 3) ls (.ref ra :: rest))) : W p l e R s m args below meth c H locs cells slots Q (F0 m pc ls st) := by
  have hFc : ∀ q, va_A (wl ad f) H.size q → A q := by
    intro q hq
    rcases hq with ⟨k, x, hx⟩ | hq
    · exact hD.2 k _ hx
    · exact hA q (Nat.le_trans hS.1 hq)
  refine va_callr (va_runS (As := As) (rest := rest) F hM cw ⟨PreT.blind, fun U hU hW => ⟨rfl, by rw [hU], by rw [hU]; exact hP, va_K.moved hW.alike hK, hD.weaken (fun _ _ _ h => hAB _ h), hE.step hW (by rw [hU]; exact hS.1) (fun q h1 h2 => by rw [hU]; exact hS.2.1 q h1 (fun z => h2 (hAB q z)))⟩⟩ rfl hn hsz hst (lv_room hW) hdg hf) hS (fun q _ h => hFc q h) hFc (fun g ra t H1 locs1 ht hvm hw hB hz1 hk1 hS1 => ?_)
  obtain ⟨hr1, hP1⟩ := hB
  have hP1 : va_P D vwCl (wl ad g) t.heap := hP1
  rw [ht] at hP1
  exact kk ra g H1 locs1 hw hr1 hP1 (wl_D hD) hS1
end TCALLS

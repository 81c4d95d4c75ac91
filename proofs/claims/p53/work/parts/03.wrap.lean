/-! what every contract here stands on: array classes, the shape of a contract, its start, its end, calls -/
def tyL (cy : Nat → ClassId) : List (ClassId × FieldType) := [(cy 0, .int), (cy 1, .byte), (cy 2, .long), (cy 3, .boolean), (cy 4, .object RX4)]
def zI : Nat → Int32 := fun _ => 0
def zJ : Nat → Int64 := fun _ => 0
def nR : Nat → Option Nat := fun _ => none
theorem zI_upd (k : Nat) : upd zI k 0 = zI := by funext j; simp [upd, zI]
theorem zI_cpy (a b n : Nat) : va_cpy zI zI a b n = zI := by funext j; simp [va_cpy, zI]
theorem vin {i : Int32} {n : Nat} (h : (decide (¬ i < 0) && decide (i.toNatClampNeg < n)) = true) : vp_in i n := by
  simp only [Bool.and_eq_true, decide_eq_true_eq] at h
  intro q
  rcases q with q | q
  · exact h.1 q
  · omega
theorem pick_fm {α : Type} {f : Nat → Option α} : ∀ {is : List Nat} {w : List α}, is.map f = w.map some → is.filterMap f = w
  | [], [], _ => rfl
  | [], _ :: _, h => by simp at h
  | _ :: _, [], h => by simp at h
  | i :: is, x :: w, h => by
    simp only [List.map_cons, List.cons.injEq] at h
    rw [List.filterMap_cons, h.1]
    simp only [pick_fm h.2]
theorem P_pick {D : va_G} {ws w : va_W} {H : Heap} (h : va_P D vwCl ws H) (is : List Nat) (hs : is.map (fun i => ws[i]?) = w.map some) : va_P D vwCl w H := h.sub is (pick_fm hs)
def PreW (D : va_G) (cy : Nat → ClassId) (WS : va_W) (sz : Nat) (U : State) : Prop := U.heap.size = sz ∧ va_P D vwCl WS U.heap ∧ va_K D vwCl (tyL cy) U ∧ va_D (fun _ => True) WS
theorem PreW.blind {av : List Value} {D : va_G} {cy : Nat → ClassId} {WS : va_W} {sz : Nat} : FrameBlind (va_Pc av (PreW D cy WS sz)) := fun a U g mk q => by
  obtain ⟨q0, q1, qP, qK, qD⟩ := q
  exact ⟨q0, q1, qP, va_K.moved (u := U) (U := U.calling g mk a) (Vm.Alike.refl U.vm) qK, qD⟩
abbrev PstW (D : va_G) (A : Nat → Prop) (w : va_W) (t : State) : Prop := va_P D vwCl w t.heap ∧ va_D A w
abbrev rmO (fr lo mc ms : Nat) : Room := { frames := fr, cells := mc, slots := ms, locals := lo }
def CtI {S : Type} (l : Launch) (y : MethodName) (wy : List Cond) (fr lo : Nat) (av : List Value) (D : va_G) (cy : Nat → ClassId) (WS : va_W) (sz mc ms : Nat) (post : Int32 → S → Prop) (WS' : S → va_W) : Prop := Met l y wy (rmO fr lo mc ms) (va_Pc av (PreW D cy WS sz)) (va_Qi post (fun u t => PstW D (va_A WS sz) (WS' u) t) (va_A WS sz)) mc ms (va_A WS sz)
theorem CtI.of {S : Type} {l : Launch} {y : MethodName} {wy wy' : List Cond} {fr lo : Nat} {av : List Value} {D : va_G} {cy : Nat → ClassId} {WS : va_W} {sz mc ms : Nat} {post : Int32 → S → Prop} {WS' : S → va_W} {cc : ByteArray} {maxL : Nat} {ty : FieldType} {own : String} (hy : plainName y.cls = true) (hw : wy = .code y cc maxL (some ty) :: wy') (hlen : (lg_sl av).length ≤ maxL) (ho : y.cls = own)
    (body : ∀ (p : Program) (e : Env) (s : State) (m : MethodId) (below : List Frame) (meth : Method) (c : Code) (A : Nat → Prop) (ls : Array Slot), p.tables.exec = Jvm.exec → c.code = cc → meth.sig.returnType = some ty → c.maxLocals = maxL → (∀ w ∈ wy, w.before av.toArray s = true) → s.vm.findClass own = some m.cls → meth.locks = false → va_K D vwCl (tyL cy) s → va_P D vwCl WS s.heap → va_D A WS → va_S A s.heap s.heap [] → (∀ q, s.heap.size ≤ q → A q) → lv_has ls maxL (lv_args 0 av) →
      W p l e (rmO fr lo mc ms) s m av.toArray below meth c s.heap [] 0 0 (MQ below (va_Qi post (fun u t => PstW D A (WS' u) t) A) av.toArray s mc ms A) (F0 m 0 ls [])) : CtI l y wy fr lo av D cy WS sz mc ms post WS' := by
  refine Met.ofW (cc := cc) (maxL := maxL) (ret := some ty) hy hw ?_
  intro p e s m args below meth c s₁ B hml hv
  obtain ⟨rfl, hsz, hP, hK, hD0⟩ := hv
  have hts := atoms_spec (ws := wy) B.pre
  have hown : s.vm.findClass y.cls = some m.cls := findClass_of_methodNamed B.named
  subst hsz
  have hD := hD0.self (sz := s.heap.size)
  generalize hAe : va_A WS s.heap.size = A at hD ⊢
  have hA : ∀ q : Nat, s.heap.size ≤ q → A q := fun q h => by rw [← hAe]; exact Or.inr h
  rw [lg_entry_eq]
  exact body p e s m below meth c A _ B.exec B.bytes B.returns hml hts (by rw [← ho]; exact hown) B.notSynchronized hK hP hD va_S.rf hA (lv_entry av hlen)
def CtV {S : Type} (l : Launch) (y : MethodName) (wy : List Cond) (fr lo : Nat) (av : List Value) (D : va_G) (cy : Nat → ClassId) (WS : va_W) (sz mc ms : Nat) (post : S → Prop) (WS' : S → va_W) : Prop := Met l y wy (rmO fr lo mc ms) (va_Pc av (PreW D cy WS sz)) (va_Qv post (fun u t => PstW D (va_A WS sz) (WS' u) t) (va_A WS sz)) mc ms (va_A WS sz)
theorem CtV.of {S : Type} {l : Launch} {y : MethodName} {wy wy' : List Cond} {fr lo : Nat} {av : List Value} {D : va_G} {cy : Nat → ClassId} {WS : va_W} {sz mc ms : Nat} {post : S → Prop} {WS' : S → va_W} {cc : ByteArray} {maxL : Nat}  {own : String} (hy : plainName y.cls = true) (hw : wy = .code y cc maxL (none) :: wy') (hlen : (lg_sl av).length ≤ maxL) (ho : y.cls = own)
    (body : ∀ (p : Program) (e : Env) (s : State) (m : MethodId) (below : List Frame) (meth : Method) (c : Code) (A : Nat → Prop) (ls : Array Slot), p.tables.exec = Jvm.exec → c.code = cc → meth.sig.returnType = none → c.maxLocals = maxL → (∀ w ∈ wy, w.before av.toArray s = true) → s.vm.findClass own = some m.cls → meth.locks = false → va_K D vwCl (tyL cy) s → va_P D vwCl WS s.heap → va_D A WS → va_S A s.heap s.heap [] → (∀ q, s.heap.size ≤ q → A q) → lv_has ls maxL (lv_args 0 av) →
      W p l e (rmO fr lo mc ms) s m av.toArray below meth c s.heap [] 0 0 (MQ below (va_Qv post (fun u t => PstW D A (WS' u) t) A) av.toArray s mc ms A) (F0 m 0 ls [])) : CtV l y wy fr lo av D cy WS sz mc ms post WS' := by
  refine Met.ofW (cc := cc) (maxL := maxL) (ret := none) hy hw ?_
  intro p e s m args below meth c s₁ B hml hv
  obtain ⟨rfl, hsz, hP, hK, hD0⟩ := hv
  have hts := atoms_spec (ws := wy) B.pre
  have hown : s.vm.findClass y.cls = some m.cls := findClass_of_methodNamed B.named
  subst hsz
  have hD := hD0.self (sz := s.heap.size)
  generalize hAe : va_A WS s.heap.size = A at hD ⊢
  have hA : ∀ q : Nat, s.heap.size ≤ q → A q := fun q h => by rw [← hAe]; exact Or.inr h
  rw [lg_entry_eq]
  exact body p e s m below meth c A _ B.exec B.bytes B.returns hml hts (by rw [← ho]; exact hown) B.notSynchronized hK hP hD va_S.rf hA (lv_entry av hlen)
def CtR {S : Type} (l : Launch) (y : MethodName) (wy : List Cond) (fr lo : Nat) (av : List Value) (D : va_G) (cy : Nat → ClassId) (WS : va_W) (sz mc ms : Nat) (post : S → Prop) (WS' : S → va_W) (rf : S → Nat) : Prop := Met l y wy (rmO fr lo mc ms) (va_Pc av (PreW D cy WS sz)) (va_Qr post (fun u ra t => ra = rf u ∧ PstW D (va_A WS sz) (WS' u) t) (va_A WS sz)) mc ms (va_A WS sz)
theorem CtR.of {S : Type} {l : Launch} {y : MethodName} {wy wy' : List Cond} {fr lo : Nat} {av : List Value} {D : va_G} {cy : Nat → ClassId} {WS : va_W} {sz mc ms : Nat} {post : S → Prop} {WS' : S → va_W} {rf : S → Nat} {cc : ByteArray} {maxL : Nat} {ty : FieldType} {own : String} (hy : plainName y.cls = true) (hw : wy = .code y cc maxL (some ty) :: wy') (hlen : (lg_sl av).length ≤ maxL) (ho : y.cls = own)
    (body : ∀ (p : Program) (e : Env) (s : State) (m : MethodId) (below : List Frame) (meth : Method) (c : Code) (A : Nat → Prop) (ls : Array Slot), p.tables.exec = Jvm.exec → c.code = cc → meth.sig.returnType = some ty → c.maxLocals = maxL → (∀ w ∈ wy, w.before av.toArray s = true) → s.vm.findClass own = some m.cls → meth.locks = false → va_K D vwCl (tyL cy) s → va_P D vwCl WS s.heap → va_D A WS → va_S A s.heap s.heap [] → (∀ q, s.heap.size ≤ q → A q) → lv_has ls maxL (lv_args 0 av) →
      W p l e (rmO fr lo mc ms) s m av.toArray below meth c s.heap [] 0 0 (MQ below (va_Qr post (fun u ra t => ra = rf u ∧ PstW D A (WS' u) t) A) av.toArray s mc ms A) (F0 m 0 ls [])) : CtR l y wy fr lo av D cy WS sz mc ms post WS' rf := by
  refine Met.ofW (cc := cc) (maxL := maxL) (ret := some ty) hy hw ?_
  intro p e s m args below meth c s₁ B hml hv
  obtain ⟨rfl, hsz, hP, hK, hD0⟩ := hv
  have hts := atoms_spec (ws := wy) B.pre
  have hown : s.vm.findClass y.cls = some m.cls := findClass_of_methodNamed B.named
  subst hsz
  have hD := hD0.self (sz := s.heap.size)
  generalize hAe : va_A WS s.heap.size = A at hD ⊢
  have hA : ∀ q : Nat, s.heap.size ≤ q → A q := fun q h => by rw [← hAe]; exact Or.inr h
  rw [lg_entry_eq]
  exact body p e s m below meth c A _ B.exec B.bytes B.returns hml hts (by rw [← ho]; exact hown) B.notSynchronized hK hP hD va_S.rf hA (lv_entry av hlen)
section ENDS
variable {p : Program} {l : Launch} {e : Env} {R : Room} {s : State} {m : MethodId} {args : Array Value} {below : List Frame} {meth : Method} {c : Code} {H : Heap} {locs : List Loc} {cells slots : Nat} {Q : State → Prop} {S : Type} {D : va_G} {A : Nat → Prop} {ws : va_W} {WS' : S → va_W} {cc : ByteArray} {pc : Nat} {ls : Array Slot}
theorem rtI {post : Int32 → S → Prop} {v : Int32} {ty : FieldType} (hx : p.tables.exec = Jvm.exec) (hb : c.code = cc) (hr : meth.sig.returnType = some ty) (hlk : meth.locks = false) (hnr : narrow ty (.int v) = .int v) (hP : va_P D vwCl ws H) (hD : va_D A ws) (hS : va_S A s.heap H locs) (u : S) (is : List Nat) (hn : va_nd is = true) (hs : is.map (fun i => ws[i]?) = (WS' u).map some) (hp : post v u) (hdg : decode cc pc = .ok (.ireturn, 1)) : W p l e R s m args below meth c H locs cells slots (MQ below (va_Qi post (fun u t => PstW D A (WS' u) t) A) args s cells slots A) (F0 m pc ls [.int v]) :=
  W.zret (v := v) hx hb hr hnr (fun t ht _ => ⟨⟨v, u, rfl, hp, by rw [ht]; exact P_pick hP is hs, hD.sub is hn hs⟩, hS.F ht⟩) hS.2.2 hdg hlk
theorem rtV {post : S → Prop} (hx : p.tables.exec = Jvm.exec) (hb : c.code = cc) (hr : meth.sig.returnType = none) (hlk : meth.locks = false) (hP : va_P D vwCl ws H) (hD : va_D A ws) (hS : va_S A s.heap H locs) (u : S) (is : List Nat) (hn : va_nd is = true) (hs : is.map (fun i => ws[i]?) = (WS' u).map some) (hp : post u) (hdg : decode cc pc = .ok (.return_, 1)) : W p l e R s m args below meth c H locs cells slots (MQ below (va_Qv post (fun u t => PstW D A (WS' u) t) A) args s cells slots A) (F0 m pc ls []) :=
  W.vret hx hb hr (fun t ht _ => ⟨⟨u, rfl, hp, by rw [ht]; exact P_pick hP is hs, hD.sub is hn hs⟩, hS.F ht⟩) hS.2.2 hdg hlk
theorem rtR {post : S → Prop} {rf : S → Nat} {a : Nat} {cn : String} (hx : p.tables.exec = Jvm.exec) (hb : c.code = cc) (hr : meth.sig.returnType = some (.object cn)) (hlk : meth.locks = false) (hP : va_P D vwCl ws H) (hD : va_D A ws) (hS : va_S A s.heap H locs) (u : S) (is : List Nat) (hn : va_nd is = true) (hs : is.map (fun i => ws[i]?) = (WS' u).map some) (hp : post u) (ha : a = rf u) (hdg : decode cc pc = .ok (.areturn, 1)) : W p l e R s m args below meth c H locs cells slots (MQ below (va_Qr post (fun u ra t => ra = rf u ∧ PstW D A (WS' u) t) A) args s cells slots A) (F0 m pc ls [.ref a]) :=
  W.aret (v := .ref a) hx hb hr (Or.inl ⟨cn, rfl⟩) (Or.inr ⟨a, rfl⟩) (fun t ht _ => ⟨⟨u, a, rfl, hp, ha, by rw [ht]; exact P_pick hP is hs, hD.sub is hn hs⟩, hS.F ht⟩) hS.2.2 hdg hlk
theorem tpi {x v : Int32} {st : List Value} (h : x = v) (k : W p l e R s m args below meth c H locs cells slots Q (F0 m pc ls (.int v :: st))) : W p l e R s m args below meth c H locs cells slots Q (F0 m pc ls (.int x :: st)) := h ▸ k
theorem tpr {x : Option Nat} {v : Nat} {st : List Value} (h : x = some v) (k : W p l e R s m args below meth c H locs cells slots Q (F0 m pc ls (.ref v :: st))) : W p l e R s m args below meth c H locs cells slots Q (F0 m pc ls (va_rf x :: st)) := h ▸ k
end ENDS
section CALLS
variable {p : Program} {l : Launch} {e : Env} {R : Room} {s : State} {m : MethodId} {args : Array Value} {below : List Frame} {meth : Method} {c : Code} {H : Heap} {locs : List Loc} {cells slots : Nat} {Q : State → Prop} {S : Type} {D : va_G} {cy : Nat → ClassId} {A : Nat → Prop} {ws wc wr : va_W} {WS' : S → va_W} {cc bytes : ByteArray} {pc index maxL n nL fr lo mc ms c2 s2 b : Nat} {ls : Array Slot} {y : MethodName} {wy Ts : List Cond} {own C : String} {ret : Option FieldType} {As st rest : List Value}
theorem clVI {post : Int32 → S → Prop} (F : CallFix p m c cc nL s args Ts own) (hK : va_K D vwCl (tyL cy) s) (hP : va_P D vwCl ws H) (hD : va_D A ws) (hS : va_S A s.heap H locs) (hA : ∀ q, s.heap.size ≤ q → A q) (hM : CtI l y wy fr lo (.ref b :: As) D cy wc H.size mc ms post WS') (cw : CallW R s args own C index y bytes maxL ret wy (rmO fr lo mc ms) mc ms n) (q0 ci : Nat) {fs : List Value} {tn : u_T × Nat} (hq : ws[q0]? = some (b, .inr (ci, fs))) (hc : vwCl[ci]? = some (C, tn))
    (isC isR : List Nat) (hC : isC.map (fun i => ws[i]?) = wc.map some) (hR : isR.map (fun i => ws[i]?) = wr.map some) (hnC : va_nd isC = true) (hnR : va_nd isR = true) (hdis : ∀ i ∈ isR, i ∉ isC) (hn : As.length = n) (hsz : ls.size = nL) (hst : st = As.reverse ++ .ref b :: rest) (hW : (rest.map fun v => v.category).sum ≤ 8) (hdg : decode cc pc = .ok (.invokevirtual index, 3)) (hf : cells + mc ≤ R.cells ∧ slots + ms ≤ R.slots) (hc2 : cells + mc = c2) (hs2 : slots + ms = s2)
    (kk : ∀ (r : Int32) (u : S) (H1 : Heap) (locs1 : List Loc), post r u → va_P D vwCl (wr ++ WS' u) H1 → va_D A (wr ++ WS' u) → va_S A s.heap H1 locs1 → W p l e R s m args below meth c H1 locs1 c2 s2 Q (F0 m (pc + 3) ls (.int r :: rest))) : W p l e R s m args below meth c H locs cells slots Q (F0 m pc ls st) := by
  subst hc2; subst hs2
  have hFc := va_free (wc := wc) hD hS hA isC hC
  refine va_calli (va_runV (As := As) (rest := rest) F hM cw ⟨PreW.blind, va_recv hK hP hc hq, fun U hU hW => ⟨rfl, by rw [hU], by rw [hU]; exact P_pick hP isC hC, va_K.moved hW.alike hK, (hD.sub isC hnC hC).weaken (fun _ _ _ _ => trivial)⟩⟩ rfl hn hsz hst (lv_room hW) hdg hf) hS (fun q _ h => hFc q h) hFc (fun r u t H1 locs1 ht hvm hw hB hz1 hk1 hS1 => ?_)
  obtain ⟨hP1, hD1⟩ := hB
  rw [ht] at hP1
  obtain ⟨hP2, hD2⟩ := va_join hP hD isC isR hC hR hnR hdis hk1 hFc hP1 hD1
  exact kk r u H1 locs1 hw hP2 hD2 hS1
theorem clSI {post : Int32 → S → Prop} (F : CallFix p m c cc nL s args Ts own) (hK : va_K D vwCl (tyL cy) s) (hP : va_P D vwCl ws H) (hD : va_D A ws) (hS : va_S A s.heap H locs) (hA : ∀ q, s.heap.size ≤ q → A q) (hM : CtI l y wy fr lo As D cy wc H.size mc ms post WS') (cw : CallB R s args own index y bytes maxL ret wy (rmO fr lo mc ms) mc ms n ∧ (Cond.static y).before args s = true)
    (isC isR : List Nat) (hC : isC.map (fun i => ws[i]?) = wc.map some) (hR : isR.map (fun i => ws[i]?) = wr.map some) (hnC : va_nd isC = true) (hnR : va_nd isR = true) (hdis : ∀ i ∈ isR, i ∉ isC) (hn : As.length = n) (hsz : ls.size = nL) (hst : st = As.reverse ++ rest) (hW : (rest.map fun v => v.category).sum ≤ 8) (hdg : decode cc pc = .ok (.invokestatic index, 3)) (hf : cells + mc ≤ R.cells ∧ slots + ms ≤ R.slots) (hc2 : cells + mc = c2) (hs2 : slots + ms = s2)
    (kk : ∀ (r : Int32) (u : S) (H1 : Heap) (locs1 : List Loc), post r u → va_P D vwCl (wr ++ WS' u) H1 → va_D A (wr ++ WS' u) → va_S A s.heap H1 locs1 → W p l e R s m args below meth c H1 locs1 c2 s2 Q (F0 m (pc + 3) ls (.int r :: rest))) : W p l e R s m args below meth c H locs cells slots Q (F0 m pc ls st) := by
  subst hc2; subst hs2
  have hFc := va_free (wc := wc) hD hS hA isC hC
  refine va_calli (va_runS (As := As) (rest := rest) F hM cw ⟨PreW.blind, fun U hU hW => ⟨rfl, by rw [hU], by rw [hU]; exact P_pick hP isC hC, va_K.moved hW.alike hK, (hD.sub isC hnC hC).weaken (fun _ _ _ _ => trivial)⟩⟩ rfl hn hsz hst (lv_room hW) hdg hf) hS (fun q _ h => hFc q h) hFc (fun r u t H1 locs1 ht hvm hw hB hz1 hk1 hS1 => ?_)
  obtain ⟨hP1, hD1⟩ := hB
  rw [ht] at hP1
  obtain ⟨hP2, hD2⟩ := va_join hP hD isC isR hC hR hnR hdis hk1 hFc hP1 hD1
  exact kk r u H1 locs1 hw hP2 hD2 hS1
theorem clVV {post : S → Prop} (F : CallFix p m c cc nL s args Ts own) (hK : va_K D vwCl (tyL cy) s) (hP : va_P D vwCl ws H) (hD : va_D A ws) (hS : va_S A s.heap H locs) (hA : ∀ q, s.heap.size ≤ q → A q) (hM : CtV l y wy fr lo (.ref b :: As) D cy wc H.size mc ms post WS') (cw : CallW R s args own C index y bytes maxL ret wy (rmO fr lo mc ms) mc ms n) (q0 ci : Nat) {fs : List Value} {tn : u_T × Nat} (hq : ws[q0]? = some (b, .inr (ci, fs))) (hc : vwCl[ci]? = some (C, tn))
    (isC isR : List Nat) (hC : isC.map (fun i => ws[i]?) = wc.map some) (hR : isR.map (fun i => ws[i]?) = wr.map some) (hnC : va_nd isC = true) (hnR : va_nd isR = true) (hdis : ∀ i ∈ isR, i ∉ isC) (hn : As.length = n) (hsz : ls.size = nL) (hst : st = As.reverse ++ .ref b :: rest) (hW : (rest.map fun v => v.category).sum ≤ 8) (hdg : decode cc pc = .ok (.invokevirtual index, 3)) (hf : cells + mc ≤ R.cells ∧ slots + ms ≤ R.slots) (hc2 : cells + mc = c2) (hs2 : slots + ms = s2)
    (kk : ∀ (u : S) (H1 : Heap) (locs1 : List Loc), post u → va_P D vwCl (wr ++ WS' u) H1 → va_D A (wr ++ WS' u) → va_S A s.heap H1 locs1 → W p l e R s m args below meth c H1 locs1 c2 s2 Q (F0 m (pc + 3) ls rest)) : W p l e R s m args below meth c H locs cells slots Q (F0 m pc ls st) := by
  subst hc2; subst hs2
  have hFc := va_free (wc := wc) hD hS hA isC hC
  refine va_callv (va_runV (As := As) (rest := rest) F hM cw ⟨PreW.blind, va_recv hK hP hc hq, fun U hU hW => ⟨rfl, by rw [hU], by rw [hU]; exact P_pick hP isC hC, va_K.moved hW.alike hK, (hD.sub isC hnC hC).weaken (fun _ _ _ _ => trivial)⟩⟩ rfl hn hsz hst (lv_room hW) hdg hf) hS (fun q _ h => hFc q h) hFc (fun u t H1 locs1 ht hvm hw hB hz1 hk1 hS1 => ?_)
  obtain ⟨hP1, hD1⟩ := hB
  rw [ht] at hP1
  obtain ⟨hP2, hD2⟩ := va_join hP hD isC isR hC hR hnR hdis hk1 hFc hP1 hD1
  exact kk u H1 locs1 hw hP2 hD2 hS1
theorem clSV {post : S → Prop} (F : CallFix p m c cc nL s args Ts own) (hK : va_K D vwCl (tyL cy) s) (hP : va_P D vwCl ws H) (hD : va_D A ws) (hS : va_S A s.heap H locs) (hA : ∀ q, s.heap.size ≤ q → A q) (hM : CtV l y wy fr lo As D cy wc H.size mc ms post WS') (cw : CallB R s args own index y bytes maxL ret wy (rmO fr lo mc ms) mc ms n ∧ (Cond.static y).before args s = true)
    (isC isR : List Nat) (hC : isC.map (fun i => ws[i]?) = wc.map some) (hR : isR.map (fun i => ws[i]?) = wr.map some) (hnC : va_nd isC = true) (hnR : va_nd isR = true) (hdis : ∀ i ∈ isR, i ∉ isC) (hn : As.length = n) (hsz : ls.size = nL) (hst : st = As.reverse ++ rest) (hW : (rest.map fun v => v.category).sum ≤ 8) (hdg : decode cc pc = .ok (.invokestatic index, 3)) (hf : cells + mc ≤ R.cells ∧ slots + ms ≤ R.slots) (hc2 : cells + mc = c2) (hs2 : slots + ms = s2)
    (kk : ∀ (u : S) (H1 : Heap) (locs1 : List Loc), post u → va_P D vwCl (wr ++ WS' u) H1 → va_D A (wr ++ WS' u) → va_S A s.heap H1 locs1 → W p l e R s m args below meth c H1 locs1 c2 s2 Q (F0 m (pc + 3) ls rest)) : W p l e R s m args below meth c H locs cells slots Q (F0 m pc ls st) := by
  subst hc2; subst hs2
  have hFc := va_free (wc := wc) hD hS hA isC hC
  refine va_callv (va_runS (As := As) (rest := rest) F hM cw ⟨PreW.blind, fun U hU hW => ⟨rfl, by rw [hU], by rw [hU]; exact P_pick hP isC hC, va_K.moved hW.alike hK, (hD.sub isC hnC hC).weaken (fun _ _ _ _ => trivial)⟩⟩ rfl hn hsz hst (lv_room hW) hdg hf) hS (fun q _ h => hFc q h) hFc (fun u t H1 locs1 ht hvm hw hB hz1 hk1 hS1 => ?_)
  obtain ⟨hP1, hD1⟩ := hB
  rw [ht] at hP1
  obtain ⟨hP2, hD2⟩ := va_join hP hD isC isR hC hR hnR hdis hk1 hFc hP1 hD1
  exact kk u H1 locs1 hw hP2 hD2 hS1
theorem clVR {post : S → Prop} {rf : S → Nat} (F : CallFix p m c cc nL s args Ts own) (hK : va_K D vwCl (tyL cy) s) (hP : va_P D vwCl ws H) (hD : va_D A ws) (hS : va_S A s.heap H locs) (hA : ∀ q, s.heap.size ≤ q → A q) (hM : CtR l y wy fr lo (.ref b :: As) D cy wc H.size mc ms post WS' rf) (cw : CallW R s args own C index y bytes maxL ret wy (rmO fr lo mc ms) mc ms n) (q0 ci : Nat) {fs : List Value} {tn : u_T × Nat} (hq : ws[q0]? = some (b, .inr (ci, fs))) (hc : vwCl[ci]? = some (C, tn))
    (isC isR : List Nat) (hC : isC.map (fun i => ws[i]?) = wc.map some) (hR : isR.map (fun i => ws[i]?) = wr.map some) (hnC : va_nd isC = true) (hnR : va_nd isR = true) (hdis : ∀ i ∈ isR, i ∉ isC) (hn : As.length = n) (hsz : ls.size = nL) (hst : st = As.reverse ++ .ref b :: rest) (hW : (rest.map fun v => v.category).sum ≤ 8) (hdg : decode cc pc = .ok (.invokevirtual index, 3)) (hf : cells + mc ≤ R.cells ∧ slots + ms ≤ R.slots) (hc2 : cells + mc = c2) (hs2 : slots + ms = s2)
    (kk : ∀ (u : S) (H1 : Heap) (locs1 : List Loc), post u → va_P D vwCl (wr ++ WS' u) H1 → va_D A (wr ++ WS' u) → va_S A s.heap H1 locs1 → W p l e R s m args below meth c H1 locs1 c2 s2 Q (F0 m (pc + 3) ls (.ref (rf u) :: rest))) : W p l e R s m args below meth c H locs cells slots Q (F0 m pc ls st) := by
  subst hc2; subst hs2
  have hFc := va_free (wc := wc) hD hS hA isC hC
  refine va_callr (va_runV (As := As) (rest := rest) F hM cw ⟨PreW.blind, va_recv hK hP hc hq, fun U hU hW => ⟨rfl, by rw [hU], by rw [hU]; exact P_pick hP isC hC, va_K.moved hW.alike hK, (hD.sub isC hnC hC).weaken (fun _ _ _ _ => trivial)⟩⟩ rfl hn hsz hst (lv_room hW) hdg hf) hS (fun q _ h => hFc q h) hFc (fun u ra t H1 locs1 ht hvm hw hB hz1 hk1 hS1 => ?_)
  obtain ⟨rfl, hP1, hD1⟩ := hB
  rw [ht] at hP1
  obtain ⟨hP2, hD2⟩ := va_join hP hD isC isR hC hR hnR hdis hk1 hFc hP1 hD1
  exact kk u H1 locs1 hw hP2 hD2 hS1
theorem clSR {post : S → Prop} {rf : S → Nat} (F : CallFix p m c cc nL s args Ts own) (hK : va_K D vwCl (tyL cy) s) (hP : va_P D vwCl ws H) (hD : va_D A ws) (hS : va_S A s.heap H locs) (hA : ∀ q, s.heap.size ≤ q → A q) (hM : CtR l y wy fr lo As D cy wc H.size mc ms post WS' rf) (cw : CallB R s args own index y bytes maxL ret wy (rmO fr lo mc ms) mc ms n ∧ (Cond.static y).before args s = true)
    (isC isR : List Nat) (hC : isC.map (fun i => ws[i]?) = wc.map some) (hR : isR.map (fun i => ws[i]?) = wr.map some) (hnC : va_nd isC = true) (hnR : va_nd isR = true) (hdis : ∀ i ∈ isR, i ∉ isC) (hn : As.length = n) (hsz : ls.size = nL) (hst : st = As.reverse ++ rest) (hW : (rest.map fun v => v.category).sum ≤ 8) (hdg : decode cc pc = .ok (.invokestatic index, 3)) (hf : cells + mc ≤ R.cells ∧ slots + ms ≤ R.slots) (hc2 : cells + mc = c2) (hs2 : slots + ms = s2)
    (kk : ∀ (u : S) (H1 : Heap) (locs1 : List Loc), post u → va_P D vwCl (wr ++ WS' u) H1 → va_D A (wr ++ WS' u) → va_S A s.heap H1 locs1 → W p l e R s m args below meth c H1 locs1 c2 s2 Q (F0 m (pc + 3) ls (.ref (rf u) :: rest))) : W p l e R s m args below meth c H locs cells slots Q (F0 m pc ls st) := by
  subst hc2; subst hs2
  have hFc := va_free (wc := wc) hD hS hA isC hC
  refine va_callr (va_runS (As := As) (rest := rest) F hM cw ⟨PreW.blind, fun U hU hW => ⟨rfl, by rw [hU], by rw [hU]; exact P_pick hP isC hC, va_K.moved hW.alike hK, (hD.sub isC hnC hC).weaken (fun _ _ _ _ => trivial)⟩⟩ rfl hn hsz hst (lv_room hW) hdg hf) hS (fun q _ h => hFc q h) hFc (fun u ra t H1 locs1 ht hvm hw hB hz1 hk1 hS1 => ?_)
  obtain ⟨rfl, hP1, hD1⟩ := hB
  rw [ht] at hP1
  obtain ⟨hP2, hD2⟩ := va_join hP hD isC isR hC hR hnR hdis hk1 hFc hP1 hD1
  exact kk u H1 locs1 hw hP2 hD2 hS1
end CALLS

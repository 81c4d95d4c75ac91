/-! constructors: what is taken as known, the shape of a contract, calls -/
abbrev SU : Type := (Nat → Nat) × (Nat → Nat → Option Nat)
def PreC (B0 : Nat) (adK adV : Nat → Nat) (D : va_G) (cy : Nat → ClassId) (WS : va_W) (sz : Nat) (U : State) : Prop := U.heap.size = sz ∧ va_P D vwCl WS U.heap ∧ va_K D vwCl (tyL cy) U ∧ va_D (fun q => B0 ≤ q) WS ∧ EN B0 adK adV U
theorem PreC.blind {av : List Value} {B0 : Nat} {adK adV : Nat → Nat} {D : va_G} {cy : Nat → ClassId} {WS : va_W} {sz : Nat} : FrameBlind (va_Pc av (PreC B0 adK adV D cy WS sz)) := fun a U g mk q => by
  obtain ⟨q0, q1, qP, qK, qD, qE⟩ := q
  exact ⟨q0, q1, qP, va_K.moved (u := U) (U := U.calling g mk a) (Vm.Alike.refl U.vm) qK, qD, qE.calling⟩
def CtC (l : Launch) (y : MethodName) (wy : List Cond) (fr lo : Nat) (av : List Value) (B0 : Nat) (adK adV : Nat → Nat) (D : va_G) (cy : Nat → ClassId) (WS : va_W) (sz mc ms : Nat) (post : SU → Prop) (WS' : SU → va_W) : Prop := Met l y wy (rmO fr lo mc ms) (va_Pc av (PreC B0 adK adV D cy WS sz)) (va_Qv post (fun u t => PstW D (va_A WS sz) (WS' u) t) (va_A WS sz)) mc ms (va_A WS sz)
theorem CtC.of {l : Launch} {y : MethodName} {wy wy' : List Cond} {fr lo : Nat} {av : List Value} {B0 : Nat} {adK adV : Nat → Nat} {D : va_G} {cy : Nat → ClassId} {WS : va_W} {sz mc ms : Nat} {post : SU → Prop} {WS' : SU → va_W} {cc : ByteArray} {maxL : Nat} {own : String} (hy : plainName y.cls = true) (hw : wy = .code y cc maxL none :: wy') (hlen : (lg_sl av).length ≤ maxL) (ho : y.cls = own) (hyn : y.name = "<init>")
    (body : ∀ (p : Program) (e : Env) (s : State) (m : MethodId) (below : List Frame) (meth : Method) (c : Code) (A : Nat → Prop) (ls : Array Slot), p.tables.exec = Jvm.exec → c.code = cc → meth.sig.returnType = none → c.maxLocals = maxL → (∀ w ∈ wy, w.before av.toArray s = true) → s.vm.findClass own = some m.cls → meth.locks = false → meth.name = "<init>" → va_K D vwCl (tyL cy) s → EN B0 adK adV s → va_P D vwCl WS s.heap → va_D A WS → va_S A s.heap s.heap [] → (∀ q, s.heap.size ≤ q → A q) → (∀ q, A q → B0 ≤ q) → lv_has ls maxL (lv_args 0 av) →
      W p l e (rmO fr lo mc ms) s m av.toArray below meth c s.heap [] 0 0 (MQ below (va_Qv post (fun u t => PstW D A (WS' u) t) A) av.toArray s mc ms A) (F0 m 0 ls [])) : CtC l y wy fr lo av B0 adK adV D cy WS sz mc ms post WS' := by
  refine Met.ofW (cc := cc) (maxL := maxL) (ret := none) hy hw ?_
  intro p e s m args below meth c s₁ B hml hv
  obtain ⟨rfl, hsz, hP, hK, hD0, hE⟩ := hv
  have hts := atoms_spec (ws := wy) B.pre
  have hown : s.vm.findClass y.cls = some m.cls := findClass_of_methodNamed B.named
  have hnm : meth.name = y.name := (name_of_methodNamed B.named B.method).1
  subst hsz
  have hD := hD0.self (sz := s.heap.size)
  have hAB0 : ∀ q, va_A WS s.heap.size q → B0 ≤ q := by
    intro q hq
    rcases hq with ⟨k, x, hx⟩ | hq
    · exact hD0.2 k _ hx
    · exact Nat.le_trans hE.1 hq
  generalize hAe : va_A WS s.heap.size = A at hD hAB0 ⊢
  have hA : ∀ q : Nat, s.heap.size ≤ q → A q := fun q h => by rw [← hAe]; exact Or.inr h
  rw [lg_entry_eq]
  exact body p e s m below meth c A _ B.exec B.bytes B.returns hml hts (by rw [← ho]; exact hown) B.notSynchronized (hnm.trans hyn) hK hE hP hD va_S.rf hA hAB0 (lv_entry av hlen)
theorem ra_i {U : State} {c1 c2 : ClassId} (h1 : va_RA U c1 .int) (h2 : va_RA U c2 .int) : c1 = c2 := Option.some.inj (Eq.trans (Eq.symm h1) h2)
theorem ra_b {U : State} {c1 c2 : ClassId} (h1 : va_RA U c1 .byte) (h2 : va_RA U c2 .byte) : c1 = c2 := Option.some.inj (Eq.trans (Eq.symm h1) h2)
theorem ra_j {U : State} {c1 c2 : ClassId} (h1 : va_RA U c1 .long) (h2 : va_RA U c2 .long) : c1 = c2 := Option.some.inj (Eq.trans (Eq.symm h1) h2)
theorem ra_z {U : State} {c1 c2 : ClassId} (h1 : va_RA U c1 .boolean) (h2 : va_RA U c2 .boolean) : c1 = c2 := Option.some.inj (Eq.trans (Eq.symm h1) h2)
theorem ra_o {U : State} {c1 c2 : ClassId} {C : String} (h1 : va_RA U c1 (.object C)) (h2 : va_RA U c2 (.object C)) : c1 = c2 := by
  obtain ⟨_, _, _, _, _, e1⟩ := h1
  obtain ⟨_, _, _, _, _, e2⟩ := h2
  exact Option.some.inj (Eq.trans (Eq.symm e1) e2)
theorem vk_recv2 {adK adV : Nat → Nat} {s : State} {H : Heap} (h : SE adK adV nA s H) : ∃ cell : Cell, H[adK 0]? = some cell ∧ cell.vm.isStatics = false ∧ s.vm.findClass RJ0 = some cell.cls := by
  obtain ⟨cell, h1, h2, h3, -⟩ := (h.1.1 0 (by decide)).1
  exact ⟨cell, h1, h2, h3⟩
theorem up_s {f : Nat → Option Nat} {k : Nat} {v : Option Nat} : va_up f k v k = v := by simp [va_up]
theorem up_n {f : Nat → Option Nat} {k j : Nat} {v : Option Nat} (h : j ≠ k) : va_up f k v j = f j := by simp [va_up, h]
section CC
variable {p : Program} {l : Launch} {e : Env} {R : Room} {s : State} {m : MethodId} {args : Array Value} {below : List Frame} {meth : Method} {c : Code} {H : Heap} {locs : List Loc} {cells slots : Nat} {Q : State → Prop} {D : va_G} {cy : Nat → ClassId} {A : Nat → Prop} {ws wc wr : va_W} {WS' : SU → va_W} {post : SU → Prop} {B0 : Nat} {adK adV : Nat → Nat} {cc bytes : ByteArray} {pc index maxL nL fr lo mc ms c2 s2 b : Nat} {ls : Array Slot} {y : MethodName} {wy Ts : List Cond} {own host : String} {st rest : List Value}
theorem nwA (hx : p.tables.exec = Jvm.exec) (hb : c.code = cc) {atype : ArrayType} (harr : (Cond.arrayClass (newarray.typeOf atype)).before args s = true) {ty : FieldType} (hty : newarray.typeOf atype = ty) (t0 : Nat) {cyt : ClassId} (ht : (tyL cy)[t0]? = some (cyt, ty)) (hu : ∀ {U : State} {c1 c2 : ClassId}, va_RA U c1 ty → va_RA U c2 ty → c1 = c2) (hK : va_K D vwCl (tyL cy) s) (hP : va_P D vwCl ws H) (hD : va_D A ws) (hS : va_S A s.heap H locs) (hA : ∀ q, s.heap.size ≤ q → A q)
    {n : Int32} {N' : Nat} {a0 : vp_A} (ha : ∀ cA : ClassId, vp_cell cA a0 = arrV cA N' (fun _ => defaultValue ty)) (hn : ¬ n < 0) (hN : n.toNatClampNeg = N') (hbytes : N' * componentBytes ty ≤ 536870912) (hcells : cells + 1 ≤ R.cells) (hslots : slots + N' ≤ R.slots) (hdg : decode cc pc = .ok (.newarray atype, 2)) (hc2 : cells + 1 = c2) (hs2 : slots + N' = s2)
    (kk : ∀ (q : Nat) (H1 : Heap), va_P D vwCl (ws ++ [(q, .inl (cyt, a0))]) H1 → va_D A (ws ++ [(q, .inl (cyt, a0))]) → va_S A s.heap H1 locs → W p l e R s m args below meth c H1 locs c2 s2 Q (F0 m (pc + 2) ls (.ref q :: rest))) : W p l e R s m args below meth c H locs cells slots Q (F0 m pc ls (.int n :: rest)) := by
  subst hc2; subst hs2
  refine va_newa hx hb harr hty hK hP hD hS hA ha hn hN hbytes hcells hslots hdg (fun q cA H1 hK1 hP1 hD1 hS1 => ?_)
  have e1 := (hK.2 t0 _ ht).2
  have e2 := (hK1.2 5 (cA, ty) rfl).2
  obtain rfl : cyt = cA := hu e1 e2
  exact kk q H1 hP1 hD1 hS1
theorem nwQ (hx : p.tables.exec = Jvm.exec) (hb : c.code = cc) (hown : s.vm.findClass own = some m.cls) (hcl : (Cond.classLink own index RX4).before args s = true) (hov : va_AO RX4 s) (hK : va_K D vwCl (tyL cy) s) (hP : va_P D vwCl ws H) (hD : va_D A ws) (hS : va_S A s.heap H locs) (hA : ∀ q, s.heap.size ≤ q → A q)
    {n : Int32} {N' : Nat} (hn : ¬ n < 0) (hN : n.toNatClampNeg = N') (hbytes : N' * 4 ≤ 536870912) (hcells : cells + 1 ≤ R.cells) (hslots : slots + N' ≤ R.slots) (hdg : decode cc pc = .ok (.anewarray index, 3)) (hc2 : cells + 1 = c2) (hs2 : slots + N' = s2)
    (kk : ∀ (q : Nat) (H1 : Heap), va_P D vwCl (ws ++ [(q, .inl (cy 4, N', .inr (.inr (.inr (.inr nR)))))]) H1 → va_D A (ws ++ [(q, .inl (cy 4, N', .inr (.inr (.inr (.inr nR)))))]) → va_S A s.heap H1 locs → W p l e R s m args below meth c H1 locs c2 s2 Q (F0 m (pc + 3) ls (.ref q :: rest))) : W p l e R s m args below meth c H locs cells slots Q (F0 m pc ls (.int n :: rest)) := by
  subst hc2; subst hs2
  refine va_newq hx hb hown hcl hov hK hP hD hS hA hn hN hbytes hcells hslots hdg (fun q cA H1 hK1 hP1 hD1 hS1 => ?_)
  have e1 := (hK.2 4 (cy 4, .object RX4) rfl).2
  have e2 := (hK1.2 5 (cA, .object RX4) rfl).2
  have e3 : cA = cy 4 := ra_o e2 e1
  rw [e3] at hP1 hD1
  exact kk q H1 hP1 hD1 hS1
theorem clCN (F : CallFix p m c cc nL s args Ts own) (hK : va_K D vwCl (tyL cy) s) (hE : EN B0 adK adV s) (hP : va_P D vwCl ws H) (hD : va_D A ws) (hS : va_S A s.heap H locs) (hA : ∀ q, s.heap.size ≤ q → A q) (hAB : ∀ q, A q → B0 ≤ q) (hM : CtC l y wy fr lo [.ref b] B0 adK adV D cy wc H.size mc ms post WS') (cw : va_CN R s args own index y host bytes maxL none wy (rmO fr lo mc ms) mc ms 0 ∧ y.name = "<init>" ∧ (Cond.instanceMethod y).before args s = true)
    (isC isR : List Nat) (hC : isC.map (fun i => ws[i]?) = wc.map some) (hR : isR.map (fun i => ws[i]?) = wr.map some) (hnC : va_nd isC = true) (hnR : va_nd isR = true) (hdis : ∀ i ∈ isR, i ∉ isC) (hsz : ls.size = nL) (hst : st = .ref b :: rest) (hW : (rest.map fun v => v.category).sum ≤ 8) (hdg : decode cc pc = .ok (.invokespecial index, 3)) (hf : cells + mc ≤ R.cells ∧ slots + ms ≤ R.slots) (hc2 : cells + mc = c2) (hs2 : slots + ms = s2)
    (kk : ∀ (u : SU) (H1 : Heap) (locs1 : List Loc), post u → va_P D vwCl (wr ++ WS' u) H1 → va_D A (wr ++ WS' u) → va_S A s.heap H1 locs1 → W p l e R s m args below meth c H1 locs1 c2 s2 Q (F0 m (pc + 3) ls rest)) : W p l e R s m args below meth c H locs cells slots Q (F0 m pc ls st) := by
  subst hc2; subst hs2
  have hFc := va_free (wc := wc) hD hS hA isC hC
  refine va_callv (va_runIN (As := []) (rest := rest) F hM cw ⟨PreC.blind, fun U hU hW => ⟨rfl, by rw [hU], by rw [hU]; exact P_pick hP isC hC, va_K.moved hW.alike hK, (hD.sub isC hnC hC).weaken (fun _ _ _ h => hAB _ h), hE.step hW (by rw [hU]; exact hS.1) (fun q h1 h2 => by rw [hU]; exact hS.2.1 q h1 (fun z => h2 (hAB q z)))⟩⟩ rfl rfl hsz hst (lv_room hW) hdg hf) hS (fun q _ h => hFc q h) hFc (fun u t H1 locs1 ht hvm hw hB hz1 hk1 hS1 => ?_)
  obtain ⟨hP1, hD1⟩ := hB
  rw [ht] at hP1
  obtain ⟨hP2, hD2⟩ := va_join hP hD isC isR hC hR hnR hdis hk1 hFc hP1 hD1
  exact kk u H1 locs1 hw hP2 hD2 hS1
theorem clCI (F : CallFix p m c cc nL s args Ts own) (hK : va_K D vwCl (tyL cy) s) (hE : EN B0 adK adV s) (hP : va_P D vwCl ws H) (hD : va_D A ws) (hS : va_S A s.heap H locs) (hA : ∀ q, s.heap.size ≤ q → A q) (hAB : ∀ q, A q → B0 ≤ q) (hM : CtC l y wy fr lo [.ref b] B0 adK adV D cy wc H.size mc ms post WS') (cw : CallB R s args own index y bytes maxL none wy (rmO fr lo mc ms) mc ms 0 ∧ y.name = "<init>" ∧ (Cond.instanceMethod y).before args s = true)
    (isC isR : List Nat) (hC : isC.map (fun i => ws[i]?) = wc.map some) (hR : isR.map (fun i => ws[i]?) = wr.map some) (hnC : va_nd isC = true) (hnR : va_nd isR = true) (hdis : ∀ i ∈ isR, i ∉ isC) (hsz : ls.size = nL) (hst : st = .ref b :: rest) (hW : (rest.map fun v => v.category).sum ≤ 8) (hdg : decode cc pc = .ok (.invokespecial index, 3)) (hf : cells + mc ≤ R.cells ∧ slots + ms ≤ R.slots) (hc2 : cells + mc = c2) (hs2 : slots + ms = s2)
    (kk : ∀ (u : SU) (H1 : Heap) (locs1 : List Loc), post u → va_P D vwCl (wr ++ WS' u) H1 → va_D A (wr ++ WS' u) → va_S A s.heap H1 locs1 → W p l e R s m args below meth c H1 locs1 c2 s2 Q (F0 m (pc + 3) ls rest)) : W p l e R s m args below meth c H locs cells slots Q (F0 m pc ls st) := by
  subst hc2; subst hs2
  have hFc := va_free (wc := wc) hD hS hA isC hC
  refine va_callv (va_runI (As := []) (rest := rest) F hM cw ⟨PreC.blind, fun U hU hW => ⟨rfl, by rw [hU], by rw [hU]; exact P_pick hP isC hC, va_K.moved hW.alike hK, (hD.sub isC hnC hC).weaken (fun _ _ _ h => hAB _ h), hE.step hW (by rw [hU]; exact hS.1) (fun q h1 h2 => by rw [hU]; exact hS.2.1 q h1 (fun z => h2 (hAB q z)))⟩⟩ rfl rfl hsz hst (lv_room hW) hdg hf) hS (fun q _ h => hFc q h) hFc (fun u t H1 locs1 ht hvm hw hB hz1 hk1 hS1 => ?_)
  obtain ⟨hP1, hD1⟩ := hB
  rw [ht] at hP1
  obtain ⟨hP2, hD2⟩ := va_join hP hD isC isR hC hR hnR hdis hk1 hFc hP1 hD1
  exact kk u H1 locs1 hw hP2 hD2 hS1
end CC

/-! the text of the words: String's own methods on it -/
def txW : String := "fact    claim   needs   strand  strong  bears   fray    draw    or      and     not     grounds burden  day     "
def byW : List Int32 := [102, 97, 99, 116, 32, 32, 32, 32, 99, 108, 97, 105, 109, 32, 32, 32, 110, 101, 101, 100, 115, 32, 32, 32, 115, 116, 114, 97, 110, 100, 32, 32, 115, 116, 114, 111, 110, 103, 32, 32, 98, 101, 97, 114, 115, 32, 32, 32, 102, 114, 97, 121, 32, 32, 32, 32, 100, 114, 97, 119, 32, 32, 32, 32, 111, 114, 32, 32, 32, 32, 32, 32, 97, 110, 100, 32, 32, 32, 32, 32, 110, 111, 116, 32, 32, 32, 32, 32, 103, 114, 111, 117, 110, 100, 115, 32, 98, 117, 114, 100, 101, 110, 32, 32, 100, 97, 121, 32, 32, 32, 32, 32]
def SE (adK adV : Nat → Nat) (A : Nat → Prop) (U : State) (H : Heap) : Prop := vk_S 1 [112] [byW] adK adV A U H ∧ va_Z "java/lang/String" "COMPACT_STRINGS" "Z" (.int 1) A U H ∧ va_Zq "jdk/internal/util/Preconditions" "SIOOBE_FORMATTER" "Ljava/util/function/BiFunction;" A U H
theorem SE.moved {adK adV : Nat → Nat} {A : Nat → Prop} {u U : State} {H : Heap} (hvm : u.vm.Alike U.vm) (h : SE adK adV A u H) : SE adK adV A U H := ⟨h.1.moved hvm, h.2.1.moved hvm, h.2.2.moved hvm⟩
theorem SE.kept {adK adV : Nat → Nat} {A : Nat → Prop} {U : State} {H H1 : Heap} (h : SE adK adV A U H) (hq : ∀ a : Nat, a < H.size → ¬ A a → H1[a]? = H[a]?) : SE adK adV A U H1 := ⟨h.1.kept hq, h.2.1.kept hq, h.2.2.kept hq⟩
theorem SE.narrow {adK adV : Nat → Nat} {A B : Nat → Prop} {U : State} {H : Heap} (h : SE adK adV A U H) (hAB : ∀ q, B q → A q) : SE adK adV B U H := ⟨h.1.narrow hAB, h.2.1.narrow hAB, h.2.2.narrow hAB⟩
abbrev nA : Nat → Prop := fun _ => False
def EE (adK adV : Nat → Nat) (U : State) : Prop := SE adK adV nA U U.heap
theorem EE.blind {av : List Value} {adK adV : Nat → Nat} : FrameBlind (va_Pc av (EE adK adV)) := fun a U g mk q => ⟨q.1, SE.moved (u := U) (U := U.calling g mk a) (Vm.Alike.refl U.vm) q.2⟩
def CtE (l : Launch) (y : MethodName) (wy : List Cond) (fr lo : Nat) (av : List Value) (adK adV : Nat → Nat) (post : Int32 → Prop) : Prop := Met l y wy (rmO fr lo 0 0) (va_Pc av (EE adK adV)) (va_Qi (fun r (_ : Unit) => post r) (fun _ _ => True) nA) 0 0 nA
def CtEv (l : Launch) (y : MethodName) (wy : List Cond) (fr lo : Nat) (av : List Value) (adK adV : Nat → Nat) : Prop := Met l y wy (rmO fr lo 0 0) (va_Pc av (EE adK adV)) (va_Qv (fun (_ : Unit) => True) (fun _ _ => True) nA) 0 0 nA
theorem CtE.of {l : Launch} {y : MethodName} {wy wy' : List Cond} {fr lo : Nat} {av : List Value} {adK adV : Nat → Nat} {cc : ByteArray} {maxL : Nat} {ty : FieldType} {post : Int32 → Prop} {own : String} (hy : plainName y.cls = true) (hw : wy = .code y cc maxL (some ty) :: wy') (hlen : (lg_sl av).length ≤ maxL) (ho : y.cls = own)
    (body : ∀ (p : Program) (e : Env) (s : State) (m : MethodId) (below : List Frame) (meth : Method) (c : Code) (ls : Array Slot), p.tables.exec = Jvm.exec → c.code = cc → meth.sig.returnType = some ty → c.maxLocals = maxL → (∀ w ∈ wy, w.before av.toArray s = true) → s.vm.findClass own = some m.cls → meth.locks = false → SE adK adV nA s s.heap → lv_has ls maxL (lv_args 0 av) →
      W p l e (rmO fr lo 0 0) s m av.toArray below meth c s.heap [] 0 0 (MQ below (va_Qi (fun r (_ : Unit) => post r) (fun _ _ => True) nA) av.toArray s 0 0 nA) (F0 m 0 ls [])) : CtE l y wy fr lo av adK adV post := by
  refine Met.ofW (cc := cc) (maxL := maxL) (ret := some ty) hy hw ?_
  intro p e s m args below meth c s₁ B hml hv
  obtain ⟨rfl, hE⟩ := hv
  have hts := atoms_spec (ws := wy) B.pre
  have hown : s.vm.findClass y.cls = some m.cls := findClass_of_methodNamed B.named
  rw [lg_entry_eq]
  exact body p e s m below meth c _ B.exec B.bytes B.returns hml hts (by rw [← ho]; exact hown) B.notSynchronized hE (lv_entry av hlen)
theorem CtEv.of {l : Launch} {y : MethodName} {wy wy' : List Cond} {fr lo : Nat} {av : List Value} {adK adV : Nat → Nat} {cc : ByteArray} {maxL : Nat}  {own : String} (hy : plainName y.cls = true) (hw : wy = .code y cc maxL (none) :: wy') (hlen : (lg_sl av).length ≤ maxL) (ho : y.cls = own)
    (body : ∀ (p : Program) (e : Env) (s : State) (m : MethodId) (below : List Frame) (meth : Method) (c : Code) (ls : Array Slot), p.tables.exec = Jvm.exec → c.code = cc → meth.sig.returnType = none → c.maxLocals = maxL → (∀ w ∈ wy, w.before av.toArray s = true) → s.vm.findClass own = some m.cls → meth.locks = false → SE adK adV nA s s.heap → lv_has ls maxL (lv_args 0 av) →
      W p l e (rmO fr lo 0 0) s m av.toArray below meth c s.heap [] 0 0 (MQ below (va_Qv (fun (_ : Unit) => True) (fun _ _ => True) nA) av.toArray s 0 0 nA) (F0 m 0 ls [])) : CtEv l y wy fr lo av adK adV := by
  refine Met.ofW (cc := cc) (maxL := maxL) (ret := none) hy hw ?_
  intro p e s m args below meth c s₁ B hml hv
  obtain ⟨rfl, hE⟩ := hv
  have hts := atoms_spec (ws := wy) B.pre
  have hown : s.vm.findClass y.cls = some m.cls := findClass_of_methodNamed B.named
  rw [lg_entry_eq]
  exact body p e s m below meth c _ B.exec B.bytes B.returns hml hts (by rw [← ho]; exact hown) B.notSynchronized hE (lv_entry av hlen)
section SGE
variable {p : Program} {l : Launch} {e : Env} {R : Room} {s : State} {m : MethodId} {args : Array Value} {below : List Frame} {meth : Method} {c : Code} {H : Heap} {locs : List Loc} {cells slots : Nat} {Q : State → Prop} {cc : ByteArray} {pc : Nat} {ls : Array Slot}
theorem rtE {post : Int32 → Prop} {v : Int32} {ty : FieldType} (hx : p.tables.exec = Jvm.exec) (hb : c.code = cc) (hr : meth.sig.returnType = some ty) (hlk : meth.locks = false) (hnr : narrow ty (.int v) = .int v) (hS : va_S nA s.heap H locs) (hp : post v) (hdg : decode cc pc = .ok (.ireturn, 1)) : W p l e R s m args below meth c H locs cells slots (MQ below (va_Qi (fun r (_ : Unit) => post r) (fun _ _ => True) nA) args s cells slots nA) (F0 m pc ls [.int v]) :=
  W.zret (v := v) hx hb hr hnr (fun t ht _ => ⟨⟨v, (), rfl, hp, trivial⟩, hS.F ht⟩) hS.2.2 hdg hlk
theorem rtEv (hx : p.tables.exec = Jvm.exec) (hb : c.code = cc) (hr : meth.sig.returnType = none) (hlk : meth.locks = false) (hS : va_S nA s.heap H locs) (hdg : decode cc pc = .ok (.return_, 1)) : W p l e R s m args below meth c H locs cells slots (MQ below (va_Qv (fun (_ : Unit) => True) (fun _ _ => True) nA) args s cells slots nA) (F0 m pc ls []) :=
  W.vret hx hb hr (fun t ht _ => ⟨⟨(), rfl, trivial, trivial⟩, hS.F ht⟩) hS.2.2 hdg hlk
end SGE
section SGC
variable {p : Program} {l : Launch} {e : Env} {R : Room} {s : State} {m : MethodId} {args : Array Value} {below : List Frame} {meth : Method} {c : Code} {H : Heap} {locs : List Loc} {cells slots : Nat} {Q : State → Prop} {A : Nat → Prop} {cc bytes : ByteArray} {pc index maxL n nL fr lo b : Nat} {ls : Array Slot} {y : MethodName} {wy Ts : List Cond} {own C : String} {ret : Option FieldType} {As st rest : List Value} {adK adV : Nat → Nat}
theorem clEV {post : Int32 → Prop} (F : CallFix p m c cc nL s args Ts own) (hS : va_S A s.heap H locs) (hE : SE adK adV nA s H) (hM : CtE l y wy fr lo (.ref b :: As) adK adV post) (cw : CallW R s args own C index y bytes maxL ret wy (rmO fr lo 0 0) 0 0 n) (hrv : ∃ cell : Cell, H[b]? = some cell ∧ cell.vm.isStatics = false ∧ s.vm.findClass C = some cell.cls) (hn : As.length = n) (hsz : ls.size = nL) (hst : st = As.reverse ++ .ref b :: rest) (hW : (rest.map fun v => v.category).sum ≤ 8) (hdg : decode cc pc = .ok (.invokevirtual index, 3)) (hf : cells + 0 ≤ R.cells ∧ slots + 0 ≤ R.slots)
    (kk : ∀ (r : Int32) (H1 : Heap) (locs1 : List Loc), post r → H.size ≤ H1.size → (∀ q : Nat, q < H.size → H1[q]? = H[q]?) → va_S A s.heap H1 locs1 → W p l e R s m args below meth c H1 locs1 cells slots Q (F0 m (pc + 3) ls (.int r :: rest))) : W p l e R s m args below meth c H locs cells slots Q (F0 m pc ls st) := by
  refine va_calli (va_runV (As := As) (rest := rest) F hM cw ⟨EE.blind, hrv, fun U hU hW => ⟨rfl, by show SE adK adV nA U U.heap; rw [hU]; exact hE.moved hW.alike⟩⟩ rfl hn hsz hst (lv_room hW) hdg hf) hS (fun q _ h => h.elim) (fun q h => h.elim) (fun r u t H1 locs1 ht hvm hw hB hz1 hk1 hS1 => ?_)
  exact kk r H1 locs1 hw hz1 (fun q h => hk1 q h (fun z => z)) hS1
theorem clES {post : Int32 → Prop} (F : CallFix p m c cc nL s args Ts own) (hS : va_S A s.heap H locs) (hE : SE adK adV nA s H) (hM : CtE l y wy fr lo As adK adV post) (cw : CallB R s args own index y bytes maxL ret wy (rmO fr lo 0 0) 0 0 n ∧ (Cond.static y).before args s = true) (hn : As.length = n) (hsz : ls.size = nL) (hst : st = As.reverse ++ rest) (hW : (rest.map fun v => v.category).sum ≤ 8) (hdg : decode cc pc = .ok (.invokestatic index, 3)) (hf : cells + 0 ≤ R.cells ∧ slots + 0 ≤ R.slots)
    (kk : ∀ (r : Int32) (H1 : Heap) (locs1 : List Loc), post r → H.size ≤ H1.size → (∀ q : Nat, q < H.size → H1[q]? = H[q]?) → va_S A s.heap H1 locs1 → W p l e R s m args below meth c H1 locs1 cells slots Q (F0 m (pc + 3) ls (.int r :: rest))) : W p l e R s m args below meth c H locs cells slots Q (F0 m pc ls st) := by
  refine va_calli (va_runS (As := As) (rest := rest) F hM cw ⟨EE.blind, fun U hU hW => ⟨rfl, by show SE adK adV nA U U.heap; rw [hU]; exact hE.moved hW.alike⟩⟩ rfl hn hsz hst (lv_room hW) hdg hf) hS (fun q _ h => h.elim) (fun q h => h.elim) (fun r u t H1 locs1 ht hvm hw hB hz1 hk1 hS1 => ?_)
  exact kk r H1 locs1 hw hz1 (fun q h => hk1 q h (fun z => z)) hS1
theorem clESv (F : CallFix p m c cc nL s args Ts own) (hS : va_S A s.heap H locs) (hE : SE adK adV nA s H) (hM : CtEv l y wy fr lo As adK adV) (cw : CallB R s args own index y bytes maxL ret wy (rmO fr lo 0 0) 0 0 n ∧ (Cond.static y).before args s = true) (hn : As.length = n) (hsz : ls.size = nL) (hst : st = As.reverse ++ rest) (hW : (rest.map fun v => v.category).sum ≤ 8) (hdg : decode cc pc = .ok (.invokestatic index, 3)) (hf : cells + 0 ≤ R.cells ∧ slots + 0 ≤ R.slots)
    (kk : ∀ (H1 : Heap) (locs1 : List Loc), H.size ≤ H1.size → (∀ q : Nat, q < H.size → H1[q]? = H[q]?) → va_S A s.heap H1 locs1 → W p l e R s m args below meth c H1 locs1 cells slots Q (F0 m (pc + 3) ls rest)) : W p l e R s m args below meth c H locs cells slots Q (F0 m pc ls st) := by
  refine va_callv (va_runS (As := As) (rest := rest) F hM cw ⟨EE.blind, fun U hU hW => ⟨rfl, by show SE adK adV nA U U.heap; rw [hU]; exact hE.moved hW.alike⟩⟩ rfl hn hsz hst (lv_room hW) hdg hf) hS (fun q _ h => h.elim) (fun q h => h.elim) (fun u t H1 locs1 ht hvm hw hB hz1 hk1 hS1 => ?_)
  exact kk H1 locs1 hz1 (fun q h => hk1 q h (fun z => z)) hS1
end SGC
set_option maxHeartbeats 4000000 in
set_option maxRecDepth 100000 in
theorem sg_coder (l : Launch) (adK adV : Nat → Nat) : CtE l yJ0_coder_7d493 wsJ0_coder_7d493 0 0 [.ref (adK 0)] adK adV (fun r => r = 0) := by
  refine CtE.of (cc := cJ0_coder_7d493) (maxL := 1) (ty := .byte) (own := RJ0) (by decide) rfl (Nat.le_of_ble_eq_true rfl) rfl ?_
  intro p e s m below meth c ls hx hb hr hml hts hown hlk hE hl
  have hl : lv_has ls 1 [(0, .ref (adK 0))] := hl
  have hS : va_S nA s.heap s.heap [] := va_S.rf
  refine va_gets (v := .int 1) hx hb hE.2.1 hS hown (hts (.fieldLink RJ0 38 "java/lang/String" "COMPACT_STRINGS" "Z") (List.mem_of_getElem? (i := 1) (by decide +kernel))) (fun _ h => h) dJ0_coder_7d493_0 ?_
  refine lv_if_eq (tgt := 13) hx hb dJ0_coder_7d493_3 (by decide) (fun c => absurd c (by decide)) (fun _ => ?_)
  refine lv_aload_n hx hb dJ0_coder_7d493_6 rfl (lv_at hl 0 rfl) ?_
  refine vk_getf (v := .int 0) hx hb (hE.1.1 0 (by decide)).2.1 hS hown (hts (.fieldLink RJ0 15 "java/lang/String" "coder" "B") (List.mem_of_getElem? (i := 2) (by decide +kernel))) (fun _ h => h) dJ0_coder_7d493_7 ?_
  refine lv_goto (tgt := 14) hx hb dJ0_coder_7d493_10 (by decide) ?_
  exact rtE hx hb hr hlk rfl hS rfl dJ0_coder_7d493_14
set_option maxHeartbeats 4000000 in
set_option maxRecDepth 100000 in
theorem sg_isLatin1 (l : Launch) (adK adV : Nat → Nat) : CtE l yJ0_isLatin1_aae02 wsJ0_isLatin1_aae02 0 0 [.ref (adK 0)] adK adV (fun r => r = 1) := by
  refine CtE.of (cc := cJ0_isLatin1_aae02) (maxL := 1) (ty := .boolean) (own := RJ0) (by decide) rfl (Nat.le_of_ble_eq_true rfl) rfl ?_
  intro p e s m below meth c ls hx hb hr hml hts hown hlk hE hl
  have hl : lv_has ls 1 [(0, .ref (adK 0))] := hl
  have hS : va_S nA s.heap s.heap [] := va_S.rf
  refine va_gets (v := .int 1) hx hb hE.2.1 hS hown (hts (.fieldLink RJ0 38 "java/lang/String" "COMPACT_STRINGS" "Z") (List.mem_of_getElem? (i := 1) (by decide +kernel))) (fun _ h => h) dJ0_isLatin1_aae02_0 ?_
  refine lv_if_eq (tgt := 17) hx hb dJ0_isLatin1_aae02_3 (by decide) (fun c => absurd c (by decide)) (fun _ => ?_)
  refine lv_aload_n hx hb dJ0_isLatin1_aae02_6 rfl (lv_at hl 0 rfl) ?_
  refine vk_getf (v := .int 0) hx hb (hE.1.1 0 (by decide)).2.1 hS hown (hts (.fieldLink RJ0 15 "java/lang/String" "coder" "B") (List.mem_of_getElem? (i := 2) (by decide +kernel))) (fun _ h => h) dJ0_isLatin1_aae02_7 ?_
  refine lv_if_ne (tgt := 17) hx hb dJ0_isLatin1_aae02_10 (by decide) (fun c => absurd rfl c) (fun _ => ?_)
  refine lv_iconst (v := 1) hx hb dJ0_isLatin1_aae02_13 (by decide) ?_
  refine lv_goto (tgt := 18) hx hb dJ0_isLatin1_aae02_14 (by decide) ?_
  exact rtE hx hb hr hlk rfl hS rfl dJ0_isLatin1_aae02_18
set_option maxHeartbeats 4000000 in
set_option maxRecDepth 100000 in
theorem sg_length (l : Launch) (adK adV : Nat → Nat) : CtE l yJ0_length_8abf5 wsJ0_length_8abf5 1 20 [.ref (adK 0)] adK adV (fun r => r = 112) := by
  refine CtE.of (cc := cJ0_length_8abf5) (maxL := 1) (ty := .int) (own := RJ0) (by decide) rfl (Nat.le_of_ble_eq_true rfl) rfl ?_
  intro p e s m below meth c ls hx hb hr hml hts hown hlk hE hl
  have hl : lv_has ls 1 [(0, .ref (adK 0))] := hl
  have hS : va_S nA s.heap s.heap [] := va_S.rf
  refine lv_aload_n hx hb dJ0_length_8abf5_0 rfl (lv_at hl 0 rfl) ?_
  refine vk_getf (v := .ref (adV 0)) hx hb (hE.1.1 0 (by decide)).2.2.1 hS hown (hts (.fieldLink RJ0 9 "java/lang/String" "value" "[B") (List.mem_of_getElem? (i := 1) (by decide +kernel))) (fun _ h => h) dJ0_length_8abf5_1 ?_
  refine va_tlen (v := 112) hx hb (hE.1.1 0 (by decide)).2.2.2 hS (by decide) dJ0_length_8abf5_4 ?_
  refine lv_aload_n hx hb dJ0_length_8abf5_5 rfl (lv_at hl 0 rfl) ?_
  refine clEV (As := []) (rest := [.int 112]) ⟨hx, hb, hml, hown, hts⟩ hS hE (sg_coder l adK adV) (cwV 0 hts gJ0_length_8abf5_J0_coder_7d493 rfl rfl rfl (by decide +kernel) ⟨Nat.le_of_ble_eq_true rfl, Nat.le_of_ble_eq_true rfl⟩) (vk_recv hE.1 (by decide) hS) rfl hl.1 rfl (by decide) dJ0_length_8abf5_6 ⟨Nat.le_of_ble_eq_true rfl, Nat.le_of_ble_eq_true rfl⟩ (fun r H1 locs1 hw hz hk hS => ?_)
  obtain rfl : r = 0 := hw
  refine lv_ishr hx hb dJ0_length_8abf5_9 (tpi (v := 112) (by decide) ?_)
  exact rtE hx hb hr hlk rfl hS rfl dJ0_length_8abf5_10
set_option maxHeartbeats 4000000 in
set_option maxRecDepth 100000 in
theorem sg_ckPN (l : Launch) (adK adV : Nat → Nat) (i n : Int32) (h0 : ¬ i < 0) (h1 : i < n) : CtE l yJ3_checkIndex_8e157 wsJ3_checkIndex_8e157 0 0 [.int i, .int n, .null] adK adV (fun r => r = i) := by
  refine CtE.of (cc := cJ3_checkIndex_8e157) (maxL := 3) (ty := .int) (own := RJ3) (by decide) rfl (Nat.le_of_ble_eq_true rfl) rfl ?_
  intro p e s m below meth c ls hx hb hr hml hts hown hlk hE hl
  have hl : lv_has ls 3 [(0, .int i), (1, .int n), (2, .null)] := hl
  have hS : va_S nA s.heap s.heap [] := va_S.rf
  refine lv_iload_n hx hb dJ3_checkIndex_8e157_0 rfl (lv_at hl 0 rfl) ?_
  refine lv_if_lt (tgt := 9) hx hb dJ3_checkIndex_8e157_1 (by decide) (fun c => absurd c h0) (fun _ => ?_)
  refine lv_iload_n hx hb dJ3_checkIndex_8e157_4 rfl (lv_at hl 0 rfl) ?_
  refine lv_iload_n hx hb dJ3_checkIndex_8e157_5 rfl (lv_at hl 1 rfl) ?_
  refine lv_icmp_lt (tgt := 16) hx hb dJ3_checkIndex_8e157_6 (by decide) (fun _ => ?_) (fun c => absurd h1 c)
  refine lv_iload_n hx hb dJ3_checkIndex_8e157_16 rfl (lv_at hl 0 rfl) ?_
  exact rtE hx hb hr hlk rfl hS rfl dJ3_checkIndex_8e157_17
set_option maxHeartbeats 4000000 in
set_option maxRecDepth 100000 in
theorem sg_ckPR (l : Launch) (adK adV : Nat → Nat) (i n : Int32) (t : Nat) (h0 : ¬ i < 0) (h1 : i < n) : CtE l yJ3_checkIndex_8e157 wsJ3_checkIndex_8e157 0 0 [.int i, .int n, .ref t] adK adV (fun r => r = i) := by
  refine CtE.of (cc := cJ3_checkIndex_8e157) (maxL := 3) (ty := .int) (own := RJ3) (by decide) rfl (Nat.le_of_ble_eq_true rfl) rfl ?_
  intro p e s m below meth c ls hx hb hr hml hts hown hlk hE hl
  have hl : lv_has ls 3 [(0, .int i), (1, .int n), (2, .ref t)] := hl
  have hS : va_S nA s.heap s.heap [] := va_S.rf
  refine lv_iload_n hx hb dJ3_checkIndex_8e157_0 rfl (lv_at hl 0 rfl) ?_
  refine lv_if_lt (tgt := 9) hx hb dJ3_checkIndex_8e157_1 (by decide) (fun c => absurd c h0) (fun _ => ?_)
  refine lv_iload_n hx hb dJ3_checkIndex_8e157_4 rfl (lv_at hl 0 rfl) ?_
  refine lv_iload_n hx hb dJ3_checkIndex_8e157_5 rfl (lv_at hl 1 rfl) ?_
  refine lv_icmp_lt (tgt := 16) hx hb dJ3_checkIndex_8e157_6 (by decide) (fun _ => ?_) (fun c => absurd h1 c)
  refine lv_iload_n hx hb dJ3_checkIndex_8e157_16 rfl (lv_at hl 0 rfl) ?_
  exact rtE hx hb hr hlk rfl hS rfl dJ3_checkIndex_8e157_17
set_option maxHeartbeats 4000000 in
set_option maxRecDepth 100000 in
theorem sg_ck (l : Launch) (adK adV : Nat → Nat) (i n : Int32) (h0 : ¬ i < 0) (h1 : i < n) : CtEv l yJ0_checkIndex_df160 wsJ0_checkIndex_df160 1 22 [.int i, .int n] adK adV := by
  refine CtEv.of (cc := cJ0_checkIndex_df160) (maxL := 2) (own := RJ0) (by decide) rfl (Nat.le_of_ble_eq_true rfl) rfl ?_
  intro p e s m below meth c ls hx hb hr hml hts hown hlk hE hl
  have hl : lv_has ls 2 [(0, .int i), (1, .int n)] := hl
  have hS : va_S nA s.heap s.heap [] := va_S.rf
  refine lv_iload_n hx hb dJ0_checkIndex_df160_0 rfl (lv_at hl 0 rfl) ?_
  refine lv_iload_n hx hb dJ0_checkIndex_df160_1 rfl (lv_at hl 1 rfl) ?_
  rcases hE.2.2 with hz | ⟨t, hz⟩
  · refine va_gets (v := .null) hx hb hz hS hown (hts (.fieldLink RJ0 1053 "jdk/internal/util/Preconditions" "SIOOBE_FORMATTER" "Ljava/util/function/BiFunction;") (List.mem_of_getElem? (i := 1) (by decide +kernel))) (fun _ h => h) dJ0_checkIndex_df160_2 ?_
    refine clES (As := [.int i, .int n, .null]) (rest := []) ⟨hx, hb, hml, hown, hts⟩ hS hE (sg_ckPN l adK adV i n h0 h1) (va_cwS 3 hts gJ0_checkIndex_df160_J3_checkIndex_8e157 rfl rfl rfl (by decide +kernel) ⟨Nat.le_of_ble_eq_true rfl, Nat.le_of_ble_eq_true rfl⟩) rfl hl.1 rfl (by decide) dJ0_checkIndex_df160_5 ⟨Nat.le_of_ble_eq_true rfl, Nat.le_of_ble_eq_true rfl⟩ (fun r H1 locs1 hw hz hk hS => ?_)
    refine lv_pop hx hb dJ0_checkIndex_df160_8 rfl ?_
    exact rtEv hx hb hr hlk hS dJ0_checkIndex_df160_9
  · refine va_gets (v := .ref t) hx hb hz hS hown (hts (.fieldLink RJ0 1053 "jdk/internal/util/Preconditions" "SIOOBE_FORMATTER" "Ljava/util/function/BiFunction;") (List.mem_of_getElem? (i := 1) (by decide +kernel))) (fun _ h => h) dJ0_checkIndex_df160_2 ?_
    refine clES (As := [.int i, .int n, .ref t]) (rest := []) ⟨hx, hb, hml, hown, hts⟩ hS hE (sg_ckPR l adK adV i n t h0 h1) (va_cwS 3 hts gJ0_checkIndex_df160_J3_checkIndex_8e157 rfl rfl rfl (by decide +kernel) ⟨Nat.le_of_ble_eq_true rfl, Nat.le_of_ble_eq_true rfl⟩) rfl hl.1 rfl (by decide) dJ0_checkIndex_df160_5 ⟨Nat.le_of_ble_eq_true rfl, Nat.le_of_ble_eq_true rfl⟩ (fun r H1 locs1 hw hz hk hS => ?_)
    refine lv_pop hx hb dJ0_checkIndex_df160_8 rfl ?_
    exact rtEv hx hb hr hlk hS dJ0_checkIndex_df160_9
set_option maxHeartbeats 4000000 in
set_option maxRecDepth 100000 in
theorem sg_charL (l : Launch) (adK adV : Nat → Nat) (i : Int32) (h0 : ¬ i < 0) (h1 : i < 112) (h2 : vp_in i 112) : CtE l yJ1_charAt_3b067 wsJ1_charAt_3b067 2 43 [.ref (adV 0), .int i] adK adV (fun r => narrow .char (.int r) = .int r) := by
  refine CtE.of (cc := cJ1_charAt_3b067) (maxL := 2) (ty := .char) (own := RJ1) (by decide) rfl (Nat.le_of_ble_eq_true rfl) rfl ?_
  intro p e s m below meth c ls hx hb hr hml hts hown hlk hE hl
  have hl : lv_has ls 2 [(0, .ref (adV 0)), (1, .int i)] := hl
  have hS : va_S nA s.heap s.heap [] := va_S.rf
  refine lv_iload_n hx hb dJ1_charAt_3b067_0 rfl (lv_at hl 1 rfl) ?_
  refine lv_aload_n hx hb dJ1_charAt_3b067_1 rfl (lv_at hl 0 rfl) ?_
  refine va_tlen (v := 112) hx hb (hE.1.1 0 (by decide)).2.2.2 hS (by decide) dJ1_charAt_3b067_2 ?_
  refine clESv (As := [.int i, .int 112]) (rest := []) ⟨hx, hb, hml, hown, hts⟩ hS hE (sg_ck l adK adV i 112 h0 h1) (va_cwS 2 hts gJ1_charAt_3b067_J0_checkIndex_df160 rfl rfl rfl (by decide +kernel) ⟨Nat.le_of_ble_eq_true rfl, Nat.le_of_ble_eq_true rfl⟩) rfl hl.1 rfl (by decide) dJ1_charAt_3b067_3 ⟨Nat.le_of_ble_eq_true rfl, Nat.le_of_ble_eq_true rfl⟩ (fun H1 locs1 hz hk hS => ?_)
  refine lv_aload_n hx hb dJ1_charAt_3b067_6 rfl (lv_at hl 0 rfl) ?_
  refine lv_iload_n hx hb dJ1_charAt_3b067_7 rfl (lv_at hl 1 rfl) ?_
  refine va_tb hx hb (hE.1.1 0 (by decide)).2.2.2 hS h2 rfl dJ1_charAt_3b067_8 ?_
  refine lv_sipush (v := 255) hx hb dJ1_charAt_3b067_9 (by decide) ?_
  refine lv_iand hx hb dJ1_charAt_3b067_12 ?_
  refine lv_i2c hx hb dJ1_charAt_3b067_13 rfl ?_
  exact rtE hx hb hr hlk (pk_nc _) hS (pk_nc _) dJ1_charAt_3b067_14
set_option maxHeartbeats 4000000 in
set_option maxRecDepth 100000 in
theorem sg_charAt (l : Launch) (adK adV : Nat → Nat) (i : Int32) (h0 : ¬ i < 0) (h1 : i < 112) (h2 : vp_in i 112) : CtE l yJ0_charAt_5068e wsJ0_charAt_5068e 3 64 [.ref (adK 0), .int i] adK adV (fun r => narrow .char (.int r) = .int r) := by
  refine CtE.of (cc := cJ0_charAt_5068e) (maxL := 2) (ty := .char) (own := RJ0) (by decide) rfl (Nat.le_of_ble_eq_true rfl) rfl ?_
  intro p e s m below meth c ls hx hb hr hml hts hown hlk hE hl
  have hl : lv_has ls 2 [(0, .ref (adK 0)), (1, .int i)] := hl
  have hS : va_S nA s.heap s.heap [] := va_S.rf
  refine lv_aload_n hx hb dJ0_charAt_5068e_0 rfl (lv_at hl 0 rfl) ?_
  refine clEV (As := []) (rest := []) ⟨hx, hb, hml, hown, hts⟩ hS hE (sg_isLatin1 l adK adV) (cwV 0 hts gJ0_charAt_5068e_J0_isLatin1_aae02 rfl rfl rfl (by decide +kernel) ⟨Nat.le_of_ble_eq_true rfl, Nat.le_of_ble_eq_true rfl⟩) (vk_recv hE.1 (by decide) hS) rfl hl.1 rfl (by decide) dJ0_charAt_5068e_1 ⟨Nat.le_of_ble_eq_true rfl, Nat.le_of_ble_eq_true rfl⟩ (fun r H1 locs1 hw hz hk hS => ?_)
  obtain rfl : r = 1 := hw
  refine lv_if_eq (tgt := 16) hx hb dJ0_charAt_5068e_4 (by decide) (fun c => absurd c (by decide)) (fun _ => ?_)
  refine lv_aload_n hx hb dJ0_charAt_5068e_7 rfl (lv_at hl 0 rfl) ?_
  refine vk_getf (v := .ref (adV 0)) hx hb (hE.1.1 0 (by decide)).2.2.1 hS hown (hts (.fieldLink RJ0 9 "java/lang/String" "value" "[B") (List.mem_of_getElem? (i := 1) (by decide +kernel))) (fun _ h => h) dJ0_charAt_5068e_8 ?_
  refine lv_iload_n hx hb dJ0_charAt_5068e_11 rfl (lv_at hl 1 rfl) ?_
  have hE1 : SE adK adV nA s H1 := hE.kept (fun q h _ => hk q h)
  refine clES (As := [.ref (adV 0), .int i]) (rest := []) ⟨hx, hb, hml, hown, hts⟩ hS hE1 (sg_charL l adK adV i h0 h1 h2) (va_cwS 2 hts gJ0_charAt_5068e_J1_charAt_3b067 rfl rfl rfl (by decide +kernel) ⟨Nat.le_of_ble_eq_true rfl, Nat.le_of_ble_eq_true rfl⟩) rfl hl.1 rfl (by decide) dJ0_charAt_5068e_12 ⟨Nat.le_of_ble_eq_true rfl, Nat.le_of_ble_eq_true rfl⟩ (fun r H2 locs2 hw hz hk hS => ?_)
  exact rtE hx hb hr hlk hw hS hw dJ0_charAt_5068e_15

/-! ===== the walk's own frame: the tables' bundle, the worlds, heads and ends of methods ===== -/
section SFrame
abbrev E_A : String := "java/lang/IllegalArgumentException"
abbrev E_S : String := "java/lang/IllegalStateException"
abbrev E_I : String := "java/lang/IndexOutOfBoundsException"
/-- classes' numbers and slots; int[]; Entry[]; long[]; where the Strings lie -/
abbrev sD : Type := va_G × ClassId × ClassId × ClassId × (Nat → Nat)
abbrev sTys (D : sD) : List (ClassId × FieldType) := [(D.2.1, .int), (D.2.2.1, .object RX2)]
def sN (U : State) : Prop := va_AO RX2 U ∧ va_Nw (.methodLinkNest RX3 22 yX2_init RX3) U ∧ va_Nw (.methodLinkNest RX3 25 yX0_init RX3) U ∧ va_Nw (.methodLinkNest RX2 15 yX3_openAngleOf RX3) U ∧ va_Nw (.methodLinkNest RX2 23 yX3_rowOf RX3) U
def sT (D : sD) (U : State) : Prop := vk_R RX3 180 "an argument is out of range" (D.2.2.2.2 0) U ∧ vk_R RX3 58 "the log is full" (D.2.2.2.2 1) U ∧ vk_R RX3 66 "the minute is not later than the latest one" (D.2.2.2.2 2) U ∧ vk_R RX3 98 "there is no such hour" (D.2.2.2.2 3) U ∧ vk_R RX3 183 "there is no such entry" (D.2.2.2.2 4) U ∧ vk_R RX3 185 "there is no such row" (D.2.2.2.2 5) U ∧ vk_R RX3 187 "there is no such column" (D.2.2.2.2 6) U
def sC (U : State) : Prop := va_Nc E_S E_A U ∧ va_Nc E_A E_I U ∧ va_Nw (.castable E_A E_A) U ∧ va_Nw (.castable E_S E_S) U ∧ va_Nw (.castable E_I E_I) U ∧ va_Nw (.declares (Bundle.initS "java/lang/RuntimeException")) U ∧ va_Nw (.declares (Bundle.initS "java/lang/Exception")) U ∧ va_Nw (.declares (Bundle.initS Bundle.tN)) U
def sK (D : sD) (U : State) : Prop := va_K D.1 vwCl (sTys D) U ∧ sN U ∧ sT D U ∧ sC U
theorem sN.warm {s U : State} (hW : s.WarmedH U.vm) (h : sN s) : sN U := ⟨va_AO.moved hW.alike h.1, va_Nw.warmM hW h.2.1, va_Nw.warmM hW h.2.2.1, va_Nw.warmM hW h.2.2.2.1, va_Nw.warmM hW h.2.2.2.2⟩
theorem sT.warm {D : sD} {s U : State} (hW : s.WarmedH U.vm) (h : sT D s) : sT D U := ⟨vk_R.warm hW h.1, vk_R.warm hW h.2.1, vk_R.warm hW h.2.2.1, vk_R.warm hW h.2.2.2.1, vk_R.warm hW h.2.2.2.2.1, vk_R.warm hW h.2.2.2.2.2.1, vk_R.warm hW h.2.2.2.2.2.2⟩
theorem sC.warm {s U : State} (hW : s.WarmedH U.vm) (h : sC s) : sC U := ⟨va_Nc.moved hW.alike h.1, va_Nc.moved hW.alike h.2.1, va_Nw.warmC hW h.2.2.1, va_Nw.warmC hW h.2.2.2.1, va_Nw.warmC hW h.2.2.2.2.1, va_Nw.warmD hW h.2.2.2.2.2.1, va_Nw.warmD hW h.2.2.2.2.2.2.1, va_Nw.warmD hW h.2.2.2.2.2.2.2⟩
theorem sK.warm {D : sD} {s U : State} (hW : s.WarmedH U.vm) (h : sK D s) : sK D U := ⟨va_K.moved hW.alike h.1, sN.warm hW h.2.1, sT.warm hW h.2.2.1, sC.warm hW h.2.2.2⟩
/-- the two statics of Throwable -/
def sZ (B : Nat) (U : State) (H : Heap) : Prop := vx_Zq Bundle.tN "UNASSIGNED_STACK" Bundle.steD (fun q => B ≤ q) U H ∧ vx_Zq Bundle.tN "SUPPRESSED_SENTINEL" Bundle.listD (fun q => B ≤ q) U H
theorem sZ.moved {B : Nat} {u U : State} {H : Heap} (hvm : u.vm.Alike U.vm) (h : sZ B u H) : sZ B U H := ⟨vx_Zq.moved hvm h.1, vx_Zq.moved hvm h.2⟩
theorem sZ.kept {B : Nat} {U : State} {H H1 : Heap} (h : sZ B U H) (hq : ∀ a : Nat, a < H.size → ¬ B ≤ a → H1[a]? = H[a]?) : sZ B U H1 := ⟨h.1.kept hq, h.2.kept hq⟩
/-- the world ws in the heap H, over the tables of s; B: where the law's own cells begin -/
def sJ (D : sD) (B : Nat) (ws : va_W) (s : State) (H : Heap) : Prop := va_P D.1 vwCl ws H ∧ va_D (fun q => B ≤ q) ws ∧ B ≤ H.size ∧ sK D s ∧ sZ B s H
theorem sJ.at {D : sD} {B : Nat} {ws : va_W} {s U : State} {H : Heap} (h : sJ D B ws s H) (hW : s.WarmedH U.vm) (hU : U.heap = H) : sJ D B ws U U.heap := by
  rw [hU]
  exact ⟨h.1, h.2.1, h.2.2.1, h.2.2.2.1.warm hW, h.2.2.2.2.moved hW.alike⟩
def sP (D : sD) (B : Nat) (ws : va_W) (av : List Value) : Array Value → State → Prop := va_Pc av (fun U => sJ D B ws U U.heap)
/-- the same, the heap's size told -/
def sPz (D : sD) (B : Nat) (ws : va_W) (sz : Nat) (av : List Value) : Array Value → State → Prop := va_Pc av (fun U => U.heap.size = sz ∧ sJ D B ws U U.heap)
theorem sP_blind {D : sD} {B : Nat} {ws : va_W} {av : List Value} : FrameBlind (sP D B ws av) := fun a U g mk h => ⟨h.1, h.2.at (s := U) (U := U.calling g mk a) (State.WarmedH.refl U) rfl⟩
theorem sPz_blind {D : sD} {B : Nat} {ws : va_W} {sz : Nat} {av : List Value} : FrameBlind (sPz D B ws sz av) := fun a U g mk h => ⟨h.1, h.2.1, h.2.2.at (s := U) (U := U.calling g mk a) (State.WarmedH.refl U) rfl⟩
theorem sN_blind {av : List Value} : FrameBlind (va_Pc av (fun _ => True)) := fun _ _ _ _ h => ⟨h.1, trivial⟩
theorem sPS {D : sD} {B : Nat} {ws : va_W} {As : List Value} {s : State} {H : Heap} (hJ : sJ D B ws s H) : PreS s H (sP D B ws As) As := ⟨sP_blind, fun _ hU hW => ⟨rfl, hJ.at hW hU⟩⟩
theorem sPSz {D : sD} {B : Nat} {ws : va_W} {As : List Value} {s : State} {H : Heap} (hJ : sJ D B ws s H) : PreS s H (sPz D B ws H.size As) As := ⟨sPz_blind, fun _ hU hW => ⟨rfl, by rw [hU], hJ.at hW hU⟩⟩
theorem sPS0 {As : List Value} {s : State} {H : Heap} : PreS s H (va_Pc As (fun _ => True)) As := ⟨sN_blind, fun _ _ _ => ⟨rfl, trivial⟩⟩
theorem sPV {D : sD} {B : Nat} {ws : va_W} {b : Nat} {As : List Value} {s : State} {H : Heap} (hJ : sJ D B ws s H) {q0 ci : Nat} {q : vw_C} {fs : List Value} (hc : vwCl[ci]? = some q) (he : ws[q0]? = some (b, .inr (ci, fs))) : PreV s H q.1 b (sP D B ws (.ref b :: As)) As :=
  ⟨sP_blind, va_recv hJ.2.2.2.1.1 hJ.1 hc he, fun _ hU hW => ⟨rfl, hJ.at hW hU⟩⟩
theorem sPVz {D : sD} {B : Nat} {ws : va_W} {b : Nat} {As : List Value} {s : State} {H : Heap} (hJ : sJ D B ws s H) {q0 ci : Nat} {q : vw_C} {fs : List Value} (hc : vwCl[ci]? = some q) (he : ws[q0]? = some (b, .inr (ci, fs))) : PreV s H q.1 b (sPz D B ws H.size (.ref b :: As)) As :=
  ⟨sPz_blind, va_recv hJ.2.2.2.1.1 hJ.1 hc he, fun _ hU hW => ⟨rfl, by rw [hU], hJ.at hW hU⟩⟩
/-- a world at a heap that has only grown -/
theorem sJ.grown {D : sD} {B : Nat} {ws : va_W} {s : State} {H H1 : Heap} (h : sJ D B ws s H) (h1 : H.size ≤ H1.size) (h2 : ∀ q : Nat, q < H.size → H1[q]? = H[q]?) : sJ D B ws s H1 :=
  ⟨h.1.kept (fun k q hk => h2 q.1 ((h.1 k q hk).lt)), h.2.1, Nat.le_trans h.2.2.1 h1, h.2.2.2.1, h.2.2.2.2.kept (fun a ha _ => h2 a ha)⟩
/-- the head of a method that doesn't throw -/
theorem s_head {l : Launch} {y : MethodName} {ws ws' : List Cond} {rm : Room} {av : List Value} {B : State → Prop} {Qc : Array Value → State → Outcome → State → Prop} {mc ms : Nat} {free : Addr → Prop} {cc : ByteArray} {maxL : Nat} {ret : Option FieldType}
    (hy : plainName y.cls = true) (hw : ws = Cond.code y cc maxL ret :: ws') (hn : (lg_sl av).length ≤ maxL)
    (body : ∀ (p : Program) (e : Env) (s : State) (m : MethodId) (below : List Frame) (meth : Method) (c : Code), p.tables.exec = Jvm.exec → c.code = cc → meth.sig.returnType = ret → meth.locks = false → c.maxLocals = maxL → s.vm.findClass y.cls = some m.cls → meth.name = y.name → (∀ w ∈ ws, w.before av.toArray s = true) → B s →
      ∀ ls : Array Slot, lv_has ls maxL (lv_args 0 av) → W p l e rm s m av.toArray below meth c s.heap [] 0 0 (MQ below Qc av.toArray s mc ms free) (F0 m 0 ls [])) : Met l y ws rm (va_Pc av B) Qc mc ms free := by
  refine Met.ofW (cc := cc) (maxL := maxL) (ret := ret) hy hw ?_
  intro p e s m args below meth c s₁ B9 hml hP
  obtain ⟨rfl, hB⟩ := hP
  rw [lg_entry_eq]
  exact body p e s m below meth c B9.exec B9.bytes B9.returns B9.notSynchronized hml (findClass_of_methodNamed B9.named) (name_of_methodNamed B9.named B9.method).1 (atoms_spec (ws := ws) B9.pre) hB _ (lv_entry av hn)
/-- .. and of one that may throw, without handlers -/
theorem s_headX {l : Launch} {y : MethodName} {ws ws' : List Cond} {rm : Room} {av : List Value} {B : State → Prop} {Qc : Array Value → State → Outcome → State → Prop} {XC : String → State → State → Prop} {mc ms : Nat} {free : Addr → Prop} {cc : ByteArray} {maxL : Nat} {ret : Option FieldType}
    (hy : plainName y.cls = true) (hw : ws = Cond.code y cc maxL ret :: ws') (hn : (lg_sl av).length ≤ maxL)
    (body : ∀ (p : Program) (e : Env) (s : State) (m : MethodId) (below : List Frame) (meth : Method) (c : Code), p.tables.exec = Jvm.exec → c.code = cc → meth.sig.returnType = ret → meth.locks = false → c.maxLocals = maxL → s.vm.findClass y.cls = some m.cls → (∀ x ∈ c.exceptionTable.toList, False) → (∀ w ∈ ws, w.before av.toArray s = true) → B s →
      ∀ ls : Array Slot, lv_has ls maxL (lv_args 0 av) → W p l e rm s m av.toArray below meth c s.heap [] 0 0 (vx_MQ below Qc XC av.toArray s mc ms free) (F0 m 0 ls [])) : vx_Met l y ws rm (va_Pc av B) Qc XC mc ms free := by
  refine vx_ofW (cc := cc) (maxL := maxL) (ret := ret) hy hw ?_
  intro p e s m args below meth c s₁ B9 hml hno hP
  obtain ⟨rfl, hB⟩ := hP
  rw [lg_entry_eq]
  exact body p e s m below meth c B9.exec B9.bytes B9.returns B9.notSynchronized hml (findClass_of_methodNamed B9.named) hno (atoms_spec (ws := ws) B9.pre) hB _ (lv_entry av hn)
/-- what a method that throws leaves: a heap that has only grown, and a class of exception of px -/
def sX (px : String → Prop) : String → State → State → Prop := fun E st t => px E ∧ st.heap.size ≤ t.heap.size ∧ ∀ q : Nat, q < st.heap.size → t.heap[q]? = st.heap[q]?
section Rows
variable {p : Program} {l : Launch} {e : Env} {R : Room} {s : State} {m : MethodId} {args : Array Value} {below : List Frame} {meth : Method} {c : Code} {H : Heap} {locs : List Loc} {cells slots : Nat} {Q : State → Prop}
variable {y : MethodName} {bytes cc : ByteArray} {maxL nL mc ms n index pc : Nat} {ret : Option FieldType} {ws : List Cond} {rm : Room} {Pc : Array Value → State → Prop} {Qc : Array Value → State → Outcome → State → Prop} {XC : String → State → State → Prop} {free : Addr → Prop} {Ts : List Cond} {own C host : String} {b : Addr} {As rest st : List Value} {ls : Array Slot} {px px' : String → Prop}
/-- ends of methods that change nothing -/
theorem s_iret (hx : p.tables.exec = Jvm.exec) (hb : c.code = cc) (hr : meth.sig.returnType = some .int) (hlk : meth.locks = false) {v w : Int32} (hdg : decode cc pc = .ok (.ireturn, 1)) (hv : v = w) : W p l e R s m args below meth c s.heap [] 0 0 (MQ below (vp_Si (fun r => r = w)) args s 0 0 (fun _ => False)) (F0 m pc ls [.int v]) :=
  W.iret hx hb hr (fun t ht _ => ⟨v, rfl, hv, ht⟩) (fun _ h => by cases h) hdg hlk
theorem s_zret (hx : p.tables.exec = Jvm.exec) (hb : c.code = cc) (hr : meth.sig.returnType = some .boolean) (hlk : meth.locks = false) {v w : Int32} (hdg : decode cc pc = .ok (.ireturn, 1)) (hn : v = 0 ∨ v = 1) (hv : v = w) : W p l e R s m args below meth c s.heap [] 0 0 (MQ below (vp_Si (fun r => r = w)) args s 0 0 (fun _ => False)) (F0 m pc ls [.int v]) :=
  W.zret hx hb hr (by rcases hn with rfl | rfl <;> rfl) (fun t ht _ => ⟨v, rfl, hv, ht⟩) (fun _ h => by cases h) hdg hlk
theorem s_lret (hx : p.tables.exec = Jvm.exec) (hb : c.code = cc) (hr : meth.sig.returnType = some .long) (hlk : meth.locks = false) {v w : Int64} (hdg : decode cc pc = .ok (.lreturn, 1)) (hv : v = w) : W p l e R s m args below meth c s.heap [] 0 0 (MQ below (vp_Sl (fun r => r = w)) args s 0 0 (fun _ => False)) (F0 m pc ls [.long v]) :=
  W.lret hx hb hr (fun t ht _ => ⟨v, rfl, hv, ht⟩) (fun _ h => by cases h) hdg hlk
/-- calls of methods that change nothing and answer v -/
theorem s_ciV (S : CallFix p m c cc nL s args Ts own) {v : Int32} (hM : Met l y ws rm Pc (vp_Si (fun r => r = v)) 0 0 (fun _ => False)) (cw : CallW R s args own C index y bytes maxL ret ws rm 0 0 n) (hp : PreV s H C b Pc As) (hn : As.length = n) (hsize : ls.size = nL) (hstack : st = As.reverse ++ .ref b :: rest) (hW : (rest.map fun v => v.category).sum ≤ 8) (hdg : decode cc pc = .ok (.invokevirtual index, 3)) (hf : cells ≤ R.cells ∧ slots ≤ R.slots)
    (kk : W p l e R s m args below meth c H locs cells slots Q (F0 m (pc + 3) ls (.int v :: rest))) : W p l e R s m args below meth c H locs cells slots Q (F0 m pc ls st) :=
  vp_callSi (W.runV S hM cw hp rfl hn hsize hstack (lv_room hW) hdg hf) (fun r hr => by rw [hr]; exact kk)
theorem s_clV (S : CallFix p m c cc nL s args Ts own) {v : Int64} (hM : Met l y ws rm Pc (vp_Sl (fun r => r = v)) 0 0 (fun _ => False)) (cw : CallW R s args own C index y bytes maxL ret ws rm 0 0 n) (hp : PreV s H C b Pc As) (hn : As.length = n) (hsize : ls.size = nL) (hstack : st = As.reverse ++ .ref b :: rest) (hW : (rest.map fun v => v.category).sum ≤ 8) (hdg : decode cc pc = .ok (.invokevirtual index, 3)) (hf : cells ≤ R.cells ∧ slots ≤ R.slots)
    (kk : W p l e R s m args below meth c H locs cells slots Q (F0 m (pc + 3) ls (.long v :: rest))) : W p l e R s m args below meth c H locs cells slots Q (F0 m pc ls st) :=
  vp_callSl (W.runV S hM cw hp rfl hn hsize hstack (lv_room hW) hdg hf) (fun r hr => by rw [hr]; exact kk)
theorem s_ciS (S : CallFix p m c cc nL s args Ts own) {v : Int32} (hM : Met l y ws rm Pc (vp_Si (fun r => r = v)) 0 0 (fun _ => False)) (cw : CallB R s args own index y bytes maxL ret ws rm 0 0 n ∧ (Cond.static y).before args s = true) (hp : PreS s H Pc As) (hn : As.length = n) (hsize : ls.size = nL) (hstack : st = As.reverse ++ rest) (hW : (rest.map fun v => v.category).sum ≤ 8) (hdg : decode cc pc = .ok (.invokestatic index, 3)) (hf : cells ≤ R.cells ∧ slots ≤ R.slots)
    (kk : W p l e R s m args below meth c H locs cells slots Q (F0 m (pc + 3) ls (.int v :: rest))) : W p l e R s m args below meth c H locs cells slots Q (F0 m pc ls st) :=
  vp_callSi (va_runS S hM cw hp rfl hn hsize hstack (lv_room hW) hdg hf).run (fun r hr => by rw [hr]; exact kk)
theorem s_clS (S : CallFix p m c cc nL s args Ts own) {v : Int64} (hM : Met l y ws rm Pc (vp_Sl (fun r => r = v)) 0 0 (fun _ => False)) (cw : CallB R s args own index y bytes maxL ret ws rm 0 0 n ∧ (Cond.static y).before args s = true) (hp : PreS s H Pc As) (hn : As.length = n) (hsize : ls.size = nL) (hstack : st = As.reverse ++ rest) (hW : (rest.map fun v => v.category).sum ≤ 8) (hdg : decode cc pc = .ok (.invokestatic index, 3)) (hf : cells ≤ R.cells ∧ slots ≤ R.slots)
    (kk : W p l e R s m args below meth c H locs cells slots Q (F0 m (pc + 3) ls (.long v :: rest))) : W p l e R s m args below meth c H locs cells slots Q (F0 m pc ls st) :=
  vp_callSl (va_runS S hM cw hp rfl hn hsize hstack (lv_room hW) hdg hf).run (fun r hr => by rw [hr]; exact kk)
theorem s_ciN (S : CallFix p m c cc nL s args Ts own) {v : Int32} (hM : Met l y ws rm Pc (vp_Si (fun r => r = v)) 0 0 (fun _ => False)) (cw : va_CN R s args own index y host bytes maxL ret ws rm 0 0 n ∧ (Cond.static y).before args s = true ∧ True) (hp : PreS s H Pc As) (hn : As.length = n) (hsize : ls.size = nL) (hstack : st = As.reverse ++ rest) (hW : (rest.map fun v => v.category).sum ≤ 8) (hdg : decode cc pc = .ok (.invokestatic index, 3)) (hf : cells ≤ R.cells ∧ slots ≤ R.slots)
    (kk : W p l e R s m args below meth c H locs cells slots Q (F0 m (pc + 3) ls (.int v :: rest))) : W p l e R s m args below meth c H locs cells slots Q (F0 m pc ls st) :=
  vp_callSi (va_runSN S hM cw hp rfl hn hsize hstack (lv_room hW) hdg hf).run (fun r hr => by rw [hr]; exact kk)
end Rows
end SFrame

/-! ===== rows for methods that write their world, and for those that throw ===== -/
section SRows
variable {p : Program} {l : Launch} {e : Env} {R : Room} {s : State} {m : MethodId} {args : Array Value} {below : List Frame} {meth : Method} {c : Code} {H : Heap} {locs : List Loc} {cells slots : Nat} {Q : State → Prop}
variable {y : MethodName} {bytes cc : ByteArray} {maxL nL mc ms mc' ms' n n9 index pc : Nat} {ret : Option FieldType} {ws : List Cond} {rm : Room} {Pc : Array Value → State → Prop} {Qc : Array Value → State → Outcome → State → Prop} {XC : String → State → State → Prop} {free : Addr → Prop} {Ts : List Cond} {own C : String} {b : Addr} {As rest st : List Value} {ls : Array Slot} {px px' : String → Prop} {ok : Prop}
variable {D : sD} {B : Nat} {ad : Nat → Nat} {wd wd' : va_W}
theorem s_notrace (hfl : l.flags = flags0) : l.stackTraces = false := by
  unfold Launch.stackTraces
  rw [hfl]
  decide +kernel
/-- ends of methods that write their world -/
theorem s_mret (hx : p.tables.exec = Jvm.exec) (hb : c.code = cc) (hr : meth.sig.returnType = none) (hlk : meth.locks = false) (hdg : decode cc pc = .ok (.return_, 1)) (hS : sS D B n ad wd s H locs) : W p l e R s m args below meth c H locs 0 0 (MQ below (va_Qv (S := Unit) (fun _ => True) (fun _ t => va_P D.1 vwCl wd t.heap) (rA n ad s.heap.size)) args s 0 0 (rA n ad s.heap.size)) (F0 m pc ls []) :=
  W.vret hx hb hr (fun t ht _ => ⟨⟨(), rfl, trivial, (show va_P D.1 vwCl wd t.heap by rw [ht]; exact hS.1.1)⟩, hS.2.1.F ht⟩) hS.frees hdg hlk
theorem s_miret (hx : p.tables.exec = Jvm.exec) (hb : c.code = cc) (hr : meth.sig.returnType = some .int) (hlk : meth.locks = false) {v w : Int32} (hdg : decode cc pc = .ok (.ireturn, 1)) (hv : v = w) (hS : sS D B n ad wd s H locs) : W p l e R s m args below meth c H locs 0 0 (MQ below (va_Qi (S := Unit) (fun rr _ => rr = w) (fun _ t => va_P D.1 vwCl wd t.heap) (rA n ad s.heap.size)) args s 0 0 (rA n ad s.heap.size)) (F0 m pc ls [.int v]) :=
  W.iret hx hb hr (fun t ht _ => ⟨⟨v, (), rfl, hv, (show va_P D.1 vwCl wd t.heap by rw [ht]; exact hS.1.1)⟩, hS.2.1.F ht⟩) hS.frees hdg hlk
theorem s_mzret (hx : p.tables.exec = Jvm.exec) (hb : c.code = cc) (hr : meth.sig.returnType = some .boolean) (hlk : meth.locks = false) {v w : Int32} (hdg : decode cc pc = .ok (.ireturn, 1)) (hn : v = 0 ∨ v = 1) (hv : v = w) (hS : sS D B n ad wd s H locs) : W p l e R s m args below meth c H locs 0 0 (MQ below (va_Qi (S := Unit) (fun rr _ => rr = w) (fun _ t => va_P D.1 vwCl wd t.heap) (rA n ad s.heap.size)) args s 0 0 (rA n ad s.heap.size)) (F0 m pc ls [.int v]) :=
  W.zret hx hb hr (by rcases hn with rfl | rfl <;> rfl) (fun t ht _ => ⟨⟨v, (), rfl, hv, (show va_P D.1 vwCl wd t.heap by rw [ht]; exact hS.1.1)⟩, hS.2.1.F ht⟩) hS.frees hdg hlk
theorem rA_call {sz sz' : Nat} (h : sz ≤ sz') {q : Nat} (hq : q < sz') (hr : rA n ad sz' q) : rA n ad sz q := by
  rcases hr with hr | hr
  · exact Or.inl hr
  · omega
theorem rA_mono {sz sz' : Nat} (h : sz ≤ sz') {q : Nat} (hr : rA n ad sz' q) : rA n ad sz q := by
  rcases hr with hr | hr
  · exact Or.inl hr
  · exact Or.inr (Nat.le_trans h hr)
/-- calls of methods that write the world -/
theorem s_mvV (S : CallFix p m c cc nL s args Ts own) (hM : Met l y ws rm (sPz D B wd H.size (.ref b :: As)) (va_Qv (S := Unit) (fun _ => True) (fun _ t => va_P D.1 vwCl wd' t.heap) (rA n9 ad H.size)) 0 0 (rA n9 ad H.size)) (cw : CallW R s args own C index y bytes maxL ret ws rm 0 0 n) (hp : PreV s H C b (sPz D B wd H.size (.ref b :: As)) As) (hS : sS D B n9 ad wd s H locs) (ha : adr n9 ad wd) (ha' : adr n9 ad wd') (hn : As.length = n) (hsize : ls.size = nL) (hstack : st = As.reverse ++ .ref b :: rest) (hW : (rest.map fun v => v.category).sum ≤ 8) (hdg : decode cc pc = .ok (.invokevirtual index, 3)) (hf : cells ≤ R.cells ∧ slots ≤ R.slots)
    (kk : ∀ (H1 : Heap) (locs1 : List Loc), sS D B n9 ad wd' s H1 locs1 → W p l e R s m args below meth c H1 locs1 cells slots Q (F0 m (pc + 3) ls rest)) : W p l e R s m args below meth c H locs cells slots Q (F0 m pc ls st) := by
  refine va_callv (va_runV S hM cw hp rfl hn hsize hstack (lv_room hW) hdg hf) hS.2.1 (fun q hq h => rA_call hS.2.1.1 hq h) (fun q h => rA_mono hS.2.1.1 h) (fun u t H1 locs1 ht hvm hw hB hz hk hS1 => ?_)
  rw [ht] at hB
  exact kk H1 locs1 (hS.next hB (ha.D ha' hS.2.2.1 (fun k hk => Or.inl ⟨k, hk, rfl⟩)) hS1)
theorem s_miV (S : CallFix p m c cc nL s args Ts own) {v : Int32} (hM : Met l y ws rm (sPz D B wd H.size (.ref b :: As)) (va_Qi (S := Unit) (fun rr _ => rr = v) (fun _ t => va_P D.1 vwCl wd' t.heap) (rA n9 ad H.size)) 0 0 (rA n9 ad H.size)) (cw : CallW R s args own C index y bytes maxL ret ws rm 0 0 n) (hp : PreV s H C b (sPz D B wd H.size (.ref b :: As)) As) (hS : sS D B n9 ad wd s H locs) (ha : adr n9 ad wd) (ha' : adr n9 ad wd') (hn : As.length = n) (hsize : ls.size = nL) (hstack : st = As.reverse ++ .ref b :: rest) (hW : (rest.map fun v => v.category).sum ≤ 8) (hdg : decode cc pc = .ok (.invokevirtual index, 3)) (hf : cells ≤ R.cells ∧ slots ≤ R.slots)
    (kk : ∀ (H1 : Heap) (locs1 : List Loc), sS D B n9 ad wd' s H1 locs1 → W p l e R s m args below meth c H1 locs1 cells slots Q (F0 m (pc + 3) ls (.int v :: rest))) : W p l e R s m args below meth c H locs cells slots Q (F0 m pc ls st) := by
  refine va_calli (va_runV S hM cw hp rfl hn hsize hstack (lv_room hW) hdg hf) hS.2.1 (fun q hq h => rA_call hS.2.1.1 hq h) (fun q h => rA_mono hS.2.1.1 h) (fun r u t H1 locs1 ht hvm hw hB hz hk hS1 => ?_)
  rw [ht] at hB
  rw [hw]
  exact kk H1 locs1 (hS.next hB (ha.D ha' hS.2.2.1 (fun k hk => Or.inl ⟨k, hk, rfl⟩)) hS1)
/-- ends of methods that may throw -/
theorem s_xret (hx : p.tables.exec = Jvm.exec) (hb : c.code = cc) (hr : meth.sig.returnType = none) (hlk : meth.locks = false) (hdg : decode cc pc = .ok (.return_, 1)) (hok : ok) (hc : cells ≤ mc) (hs : slots ≤ ms) : W p l e R s m args below meth c s.heap [] cells slots (vx_MQ below (va_Sv (fun _ => ok)) XC args s mc ms (fun _ => False)) (F0 m pc ls []) :=
  W.widen hc hs (vx_ret (W.vret hx hb hr (fun t ht _ => ⟨rfl, hok, ht⟩) (fun _ h => by cases h) hdg hlk))
theorem s_xiret (hx : p.tables.exec = Jvm.exec) (hb : c.code = cc) (hr : meth.sig.returnType = some .int) (hlk : meth.locks = false) {v w : Int32} (hdg : decode cc pc = .ok (.ireturn, 1)) (hok : ok) (hv : v = w) (hc : cells ≤ mc) (hs : slots ≤ ms) : W p l e R s m args below meth c s.heap [] cells slots (vx_MQ below (vp_Si (fun rr => ok ∧ rr = w)) XC args s mc ms (fun _ => False)) (F0 m pc ls [.int v]) :=
  W.widen hc hs (vx_ret (W.iret hx hb hr (fun t ht _ => ⟨v, rfl, ⟨hok, hv⟩, ht⟩) (fun _ h => by cases h) hdg hlk))
theorem s_xmret (hx : p.tables.exec = Jvm.exec) (hb : c.code = cc) (hr : meth.sig.returnType = some .int) (hlk : meth.locks = false) {v w : Int32} (hdg : decode cc pc = .ok (.ireturn, 1)) (hok : ok) (hv : v = w) (hS : sS D B n ad wd s H locs) (hc : cells ≤ mc) (hs : slots ≤ ms) : W p l e R s m args below meth c H locs cells slots (vx_MQ below (va_Qi (S := Unit) (fun rr _ => ok ∧ rr = w) (fun _ t => va_P D.1 vwCl wd t.heap) (rA n ad s.heap.size)) XC args s mc ms (rA n ad s.heap.size)) (F0 m pc ls [.int v]) :=
  W.widen hc hs (vx_ret (W.iret hx hb hr (fun t ht _ => ⟨⟨v, (), rfl, ⟨hok, hv⟩, (show va_P D.1 vwCl wd t.heap by rw [ht]; exact hS.1.1)⟩, hS.2.1.F ht⟩) hS.frees hdg hlk))
/-- throw new E("text"), nothing made or written before -/
theorem s_throw {cls text : String} {names : List String} {ik is ic sa : Nat} (hx : p.tables.exec = Jvm.exec) (hb : c.code = cc) (hfl : l.flags = flags0) (hown : s.vm.findClass own = some m.cls) (hcls : Bundle.fit cls = true) (hnames : ∀ n ∈ names, Bundle.fit n = true)
    (hk : (Cond.classLink own ik cls).before args s = true) (hini : (Cond.initialized cls).before args s = true) (hstr : vk_R own is text sa s) (hgw : ∀ w ∈ (vx_atS own ic cls names).filter goodWord, w.before args s = true) (hnw : ∀ w ∈ (vx_atS own ic cls names).filter (fun w => !goodWord w), w ∈ [Cond.castable cls cls, .declares (Bundle.initS "java/lang/RuntimeException"), .declares (Bundle.initS "java/lang/Exception"), .declares (Bundle.initS Bundle.tN)])
    (hgood : ∀ w ∈ Cond.classLink own ik cls :: Cond.initialized cls :: vx_atS own ic cls names, vx_ot w = true) (hcast : va_Nw (.castable cls cls) s) (hC : sC s) (hZ : sZ B s s.heap) (hsize : ls.size = c.maxLocals)
    (d0 : decode cc pc = .ok (.new ik, 3)) (d3 : decode cc (pc + 3) = .ok (.dup, 1)) (d4 : decode cc (pc + 4) = .ok (.ldc is, 2)) (d6 : decode cc (pc + 6) = .ok (.invokespecial ic, 3)) (d9 : decode cc (pc + 9) = .ok (.athrow, 1))
    (hno : ∀ x ∈ c.exceptionTable.toList, False) (hRf : names.length + 3 < R.frames) (hRl : (rest.map fun v => v.category).sum + (13 * (names.length + 1) + 43) ≤ R.locals) (hlk : meth.locks = false) (hpx : px cls) (hRc : cells + 1 ≤ R.cells ∧ slots + 6 ≤ R.slots) (hm : cells + 1 ≤ mc ∧ slots + 6 ≤ ms) :
    W p l e R s m args below meth c s.heap [] cells slots (vx_MQ below Qc (sX px) args s mc ms free) (F0 m pc ls rest) :=
  vx_throwS hx hb (s_notrace hfl) hown hcls hnames hk hini hstr (vx_hat hgw hnw (vx_c (va_Nw.use rfl hcast) (vx_c (va_Nw.use rfl hC.2.2.2.2.2.1) (vx_c (va_Nw.use rfl hC.2.2.2.2.2.2.1) (vx_c (va_Nw.use rfl hC.2.2.2.2.2.2.2) vx_n))))) hgood hZ.1 hZ.2 va_S.rf hsize d0 d3 d4 d6 d9 (fun x hx9 => (hno x hx9).elim) hRf hRl hRc.1 hRc.2 hlk (fun t _ h1 h2 => ⟨hpx, h1, h2⟩) (fun _ h => by cases h) hm.1 hm.2
theorem s_xout {E : String} {ce : Cell} {q : Addr} {T' : State} (hno : ∀ x ∈ c.exceptionTable.toList, False) (hlk : meth.locks = false) (hcell : T'.heap[q]? = some ce) (hv : ce.vm = .none) (hcl : s.vm.findClass E = some ce.cls) (hpx : px' E) (hz : s.heap.size ≤ T'.heap.size) (hk : ∀ q : Nat, q < s.heap.size → T'.heap[q]? = s.heap[q]?) (hc : cells ≤ mc') (hs : slots ≤ ms') :
    vx_W p l e R s m args below meth c T'.heap [] cells slots (vx_MQ below Qc (sX px') args s mc' ms' free) (F0 m pc ls rest) q :=
  vx_out (fun x hx9 => (hno x hx9).elim) hlk hcell hv hcl (fun t ht _ => ⟨hpx, by rw [ht]; exact hz, fun q9 h9 => by rw [ht]; exact hk q9 h9⟩) (fun _ h => by cases h) hc hs
/-- calls of methods that may throw, out of one that has made and written nothing -/
theorem s_xvR (hr : vx_Run p l e R s m args below meth c s.heap [] cells slots mc ms (F0 m pc ls st) rest (va_Sv (fun _ => ok) As.toArray) (sX px) (fun _ => False)) (hno : ∀ x ∈ c.exceptionTable.toList, False) (hlk : meth.locks = false) (hpx : ∀ E, px E → px' E) (hc : cells + mc ≤ mc') (hs : slots + ms ≤ ms')
    (kk : ok → W p l e R s m args below meth c s.heap [] (cells + mc) (slots + ms) (vx_MQ below Qc (sX px') args s mc' ms' free) (F0 m (pc + 3) ls rest)) : W p l e R s m args below meth c s.heap [] cells slots (vx_MQ below Qc (sX px') args s mc' ms' free) (F0 m pc ls st) := by
  intro T hT X
  rcases hr T hT X with ⟨v, st₀, t, T', L, h0, X', hL, e1, e2, ⟨hv, hok, hh⟩, st9⟩ | ⟨q, st₀, t, T', L, E, ce, h0, X', hL, e1, e2, ⟨hE, hz, hk⟩, hce, hcv, hcl, st9⟩
  · cases hv
    obtain ⟨t2, a1, b1⟩ := kk hok T' (by rw [e1, hh, h0]) (Stand.forget (locs := []) X' (fun q h => (hL q h).elim))
    exact ⟨t2, st9 t2 a1, b1⟩
  · obtain ⟨t2, a1, b1⟩ := s_xout (pc := pc) (ls := ls) (rest := rest) (px' := px') (Qc := Qc) (free := free) hno hlk (by rw [e1]; exact hce) hcv hcl (hpx E hE) (by rw [e1, ← h0]; exact hz) (fun q9 h9 => by rw [e1, ← h0]; exact hk q9 (by rw [h0]; exact h9)) hc hs T' rfl (Stand.forget (locs := []) X' (fun q h => (hL q h).elim))
    exact ⟨t2, st9.trans a1, b1⟩
theorem s_xvS (S : CallFix p m c cc nL s args Ts own) (hM : vx_Met l y ws rm Pc (va_Sv (fun _ => ok)) (sX px) mc ms (fun _ => False)) (cw : CallB R s args own index y bytes maxL ret ws rm mc ms n ∧ (Cond.static y).before args s = true) (hp : PreS s s.heap Pc As) (hn : As.length = n) (hsize : ls.size = nL) (hstack : st = As.reverse ++ rest) (hW : (rest.map fun v => v.category).sum ≤ 8) (hdg : decode cc pc = .ok (.invokestatic index, 3)) (hf : cells + mc ≤ R.cells ∧ slots + ms ≤ R.slots) (hno : ∀ x ∈ c.exceptionTable.toList, False) (hlk : meth.locks = false) (hpx : ∀ E, px E → px' E) (hc : cells + mc ≤ mc') (hs : slots + ms ≤ ms')
    (kk : ok → W p l e R s m args below meth c s.heap [] (cells + mc) (slots + ms) (vx_MQ below Qc (sX px') args s mc' ms' free) (F0 m (pc + 3) ls rest)) : W p l e R s m args below meth c s.heap [] cells slots (vx_MQ below Qc (sX px') args s mc' ms' free) (F0 m pc ls st) :=
  s_xvR (As := As) (vx_runS S hM cw hp rfl hn hsize hstack (lv_room hW) hdg hf) hno hlk hpx hc hs kk
theorem s_xvV (S : CallFix p m c cc nL s args Ts own) (hM : vx_Met l y ws rm Pc (va_Sv (fun _ => ok)) (sX px) mc ms (fun _ => False)) (cw : CallW R s args own C index y bytes maxL ret ws rm mc ms n) (hp : PreV s s.heap C b Pc As) (hn : As.length = n) (hsize : ls.size = nL) (hstack : st = As.reverse ++ .ref b :: rest) (hW : (rest.map fun v => v.category).sum ≤ 8) (hdg : decode cc pc = .ok (.invokevirtual index, 3)) (hf : cells + mc ≤ R.cells ∧ slots + ms ≤ R.slots) (hno : ∀ x ∈ c.exceptionTable.toList, False) (hlk : meth.locks = false) (hpx : ∀ E, px E → px' E) (hc : cells + mc ≤ mc') (hs : slots + ms ≤ ms')
    (kk : ok → W p l e R s m args below meth c s.heap [] (cells + mc) (slots + ms) (vx_MQ below Qc (sX px') args s mc' ms' free) (F0 m (pc + 3) ls rest)) : W p l e R s m args below meth c s.heap [] cells slots (vx_MQ below Qc (sX px') args s mc' ms' free) (F0 m pc ls st) :=
  s_xvR (As := .ref b :: As) (vx_runV S hM cw hp rfl hn hsize hstack (lv_room hW) hdg hf) hno hlk hpx hc hs kk
end SRows

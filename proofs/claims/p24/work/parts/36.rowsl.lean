/-! ===== worlds side by side; heads of the law's helpers ===== -/
section SRowsL
theorem CW_len (D : sD) (ad : Nat → Nat) (κ : sQ) : (CW D ad κ).length = 68 := rfl
theorem va_P_left {D : va_G} {cl : List vw_C} {a b : va_W} {H : Heap} (h : va_P D cl (a ++ b) H) : va_P D cl a H := fun k q hk => h k q (by rw [List.getElem?_append_left (List.getElem?_eq_some_iff.mp hk).1]; exact hk)
theorem va_D_left {A : Nat → Prop} {a b : va_W} (h : va_D A (a ++ b)) : va_D A a := by
  have key : ∀ (k : Nat) (q : Nat × va_E), a[k]? = some q → (a ++ b)[k]? = some q := fun k q hk => by rw [List.getElem?_append_left (List.getElem?_eq_some_iff.mp hk).1]; exact hk
  exact ⟨fun i j p q hi hj e => h.1 i j p q (key i p hi) (key j q hj) e, fun k q hk => h.2 k q (key k q hk)⟩
theorem va_D_map {A : Nat → Prop} {ws ws' : va_W} (e : ws'.map (·.1) = ws.map (·.1)) (h : va_D A ws) : va_D A ws' := by
  have key : ∀ (k : Nat) (q : Nat × va_E), ws'[k]? = some q → ∃ q', ws[k]? = some q' ∧ q'.1 = q.1 := by
    intro k q hk
    have h1 : (ws'.map (·.1))[k]? = some q.1 := by rw [List.getElem?_map, hk]; rfl
    rw [e, List.getElem?_map] at h1
    cases hw : ws[k]? with
    | none => rw [hw] at h1; cases h1
    | some q' => rw [hw] at h1; exact ⟨q', rfl, Option.some.inj h1⟩
  refine ⟨fun i j p q hi hj e2 => ?_, fun k q hk => ?_⟩
  · obtain ⟨p', hp, ep⟩ := key i p hi
    obtain ⟨q', hq, eq⟩ := key j q hj
    exact h.1 i j p' q' hp hq (by rw [ep, eq]; exact e2)
  · obtain ⟨q', hq, eq⟩ := key k q hk
    rw [← eq]
    exact h.2 k q' hq
theorem adr.len {n : Nat} {ad : Nat → Nat} {ws : va_W} (h : adr n ad ws) : ws.length = n := by
  have := congrArg List.length h
  simpa using this
/-- what lies apart of a part of the world isn't what that part's callee may write -/
theorem apart {A : Nat → Prop} {D : va_G} {cl : List vw_C} {a b : va_W} {H : Heap} {n : Nat} {ad : Nat → Nat} (hP : va_P D cl (a ++ b) H) (hD : va_D A (a ++ b)) (ha : adr n ad a) (k : Nat) (q : Nat × va_E) (hk : b[k]? = some q) : ¬ rA n ad H.size q.1 := by
  have hk' : (a ++ b)[a.length + k]? = some q := by rw [List.getElem?_append_right (by omega), Nat.add_sub_cancel_left]; exact hk
  intro hr
  rcases hr with ⟨i, hi, e⟩ | hr
  · obtain ⟨p, hp, ep⟩ := ha.at hi
    have hp' : (a ++ b)[i]? = some p := by rw [List.getElem?_append_left (List.getElem?_eq_some_iff.mp hp).1]; exact hp
    have := hD.1 i (a.length + k) p q hp' hk' (by rw [ep]; exact e.symm)
    have := ha.len
    omega
  · have := (hP _ q hk').lt
    omega
theorem sJ.left {D : sD} {B : Nat} {a b : va_W} {s : State} {H : Heap} (h : sJ D B (a ++ b) s H) : sJ D B a s H := ⟨va_P_left h.1, va_D_left h.2.1, h.2.2⟩
theorem sJ.swap {D : sD} {B : Nat} {a b : va_W} {s : State} {H : Heap} (h : sJ D B (a ++ b) s H) : sJ D B (b ++ a) s H := ⟨va_P.swap (a := []) (b := a) (c := b) h.1, va_D.swap (a := []) (b := a) (c := b) h.2.1, h.2.2⟩
theorem sJ.joinL {D : sD} {B n : Nat} {ad : Nat → Nat} {a a' b : va_W} {s : State} {H H1 : Heap} (h : sJ D B (a ++ b) s H) (ha : adr n ad a) (ha' : adr n ad a') (hP : va_P D.1 vwCl a' H1) (hz : H.size ≤ H1.size) (hk : ∀ q : Nat, q < H.size → ¬ rA n ad H.size q → H1[q]? = H[q]?) : sJ D B (a' ++ b) s H1 := by
  obtain ⟨k1, k2, k3, k4, k5⟩ := h
  refine ⟨hP.app ?_, va_D_map (by rw [List.map_append, List.map_append, ha, ha']) k2, Nat.le_trans k3 hz, k4, k5.kept (fun q h1 h2 => hk q h1 (fun hr => ?_))⟩
  · have hb : va_P D.1 vwCl b H := va_P_left (va_P.swap (a := []) (b := a) (c := b) k1)
    exact hb.kept (fun k q hk9 => hk q.1 ((hb k q hk9).lt) (apart k1 k2 ha k q hk9))
  · rcases hr with ⟨i, hi, rfl⟩ | hr
    · obtain ⟨p, hp, ep⟩ := ha.at hi
      exact h2 (by rw [← ep]; exact (va_D_left k2).2 i p hp)
    · omega
/-- the head of a helper: it has handlers, and nothing leaves it -/
theorem s_headH {l : Launch} {y : MethodName} {ws ws' : List Cond} {rm : Room} {av : List Value} {B : State → Prop} {Qc : Array Value → State → Outcome → State → Prop} {mc ms : Nat} {free : Addr → Prop} {cc : ByteArray} {maxL : Nat} {ret : Option FieldType} {hh : List (Nat × Nat × Nat × Nat)}
    (hy : plainName y.cls = true) (hw : ws = Cond.codeWith y cc maxL ret hh :: ws') (hn : (lg_sl av).length ≤ maxL)
    (body : ∀ (p : Program) (e : Env) (s : State) (m : MethodId) (below : List Frame) (meth : Method) (c : Code), p.tables.exec = Jvm.exec → c.code = cc → meth.sig.returnType = ret → meth.locks = false → c.maxLocals = maxL → s.vm.findClass y.cls = some m.cls → c.exceptionTable.toList = tableOf hh → (∀ w ∈ ws, w.before av.toArray s = true) → B s →
      ∀ ls : Array Slot, lv_has ls maxL (lv_args 0 av) → W p l e rm s m av.toArray below meth c s.heap [] 0 0 (vx_MQ below Qc (fun _ _ _ => False) av.toArray s mc ms free) (F0 m 0 ls [])) : vx_Met l y ws rm (va_Pc av B) Qc (fun _ _ _ => False) mc ms free := by
  refine vx_ofWH (cc := cc) (maxL := maxL) (ret := ret) (hh := hh) hy hw ?_
  intro p e s m args below meth c s₁ B9 hml hP
  obtain ⟨rfl, hB⟩ := hP
  rw [lg_entry_eq]
  have hat := atoms_spec (ws := ws) B9.pre
  exact body p e s m below meth c B9.exec B9.bytes B9.returns B9.notSynchronized hml (findClass_of_methodNamed B9.named) (vx_table (x := y) B9 (hat _ (by rw [hw]; exact List.mem_cons_self))) hat hB _ (lv_entry av hn)
end SRowsL

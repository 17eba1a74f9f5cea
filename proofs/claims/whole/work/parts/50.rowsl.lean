/-! ===== the law's helpers: rows ===== -/
section SRowsL
def OW (D : sD) (ad : Nat → Nat) (κ : sQ) (f : Nat → Int64) : va_W := CW D ad κ ++ [(ad 68, .inl (D.2.2.2.1, 1, .inr (.inl f)))]
theorem OW_adr (D : sD) (ad : Nat → Nat) (κ : sQ) (f : Nat → Int64) : adr 69 ad (OW D ad κ f) := rfl
theorem CW_len (D : sD) (ad : Nat → Nat) (κ : sQ) : (CW D ad κ).length = 68 := rfl
theorem OW_o (D : sD) (ad : Nat → Nat) (κ : sQ) (f : Nat → Int64) : (OW D ad κ f)[68]? = some (ad 68, .inl (D.2.2.2.1, 1, .inr (.inl f))) := by
  unfold OW
  rw [List.getElem?_append_right (by rw [CW_len]; omega), CW_len]
  rfl
theorem OW_set (D : sD) (ad : Nat → Nat) (κ : sQ) (f g : Nat → Int64) : (OW D ad κ f).set 68 (ad 68, .inl (D.2.2.2.1, 1, .inr (.inl g))) = OW D ad κ g := by
  unfold OW
  rw [List.set_append, if_neg (by rw [CW_len]; omega), CW_len]
  rfl
theorem va_P_left {D : va_G} {cl : List vw_C} {a b : va_W} {H : Heap} (h : va_P D cl (a ++ b) H) : va_P D cl a H := fun k q hk => h k q (by rw [List.getElem?_append_left (List.getElem?_eq_some_iff.mp hk).1]; exact hk)
theorem va_D_left {A : Nat → Prop} {a b : va_W} (h : va_D A (a ++ b)) : va_D A a := by
  have key : ∀ (k : Nat) (q : Nat × va_E), a[k]? = some q → (a ++ b)[k]? = some q := fun k q hk => by rw [List.getElem?_append_left (List.getElem?_eq_some_iff.mp hk).1]; exact hk
  exact ⟨fun i j p q hi hj e => h.1 i j p q (key i p hi) (key j q hj) e, fun k q hk => h.2 k q (key k q hk)⟩
theorem va_D_map {A : Nat → Prop} {ws ws' : va_W} (e : ws'.map (·.1) = ws.map (·.1)) (h : va_D A ws) : va_D A ws' := by
  have key : ∀ (k : Nat) (q : Nat × va_E), ws'[k]? = some q → ∃ q', ws[k]? = some q' ∧ q'.1 = q.1 := by
    intro k q hk
    have h1 : (ws'.map (·.1))[k]? = some q.1 := by rw [List.getElem?_map, hk]; rfl
    rw [e, List.getElem?_map] at h1
    cases hw : ws[k]? with
    | none => rw [hw] at h1; cases h1
    | some q' => rw [hw] at h1; exact ⟨q', rfl, Option.some.inj h1⟩
  refine ⟨fun i j p q hi hj e2 => ?_, fun k q hk => ?_⟩
  · obtain ⟨p', hp, ep⟩ := key i p hi
    obtain ⟨q', hq, eq⟩ := key j q hj
    exact h.1 i j p' q' hp hq (by rw [ep, eq]; exact e2)
  · obtain ⟨q', hq, eq⟩ := key k q hk
    rw [← eq]
    exact h.2 k q' hq
theorem adr.len {n : Nat} {ad : Nat → Nat} {ws : va_W} (h : adr n ad ws) : ws.length = n := by
  have := congrArg List.length h
  simpa using this
/-- what lies apart of a part of the world isn't what that part's callee may write -/
theorem apart {A : Nat → Prop} {D : va_G} {cl : List vw_C} {a b : va_W} {H : Heap} {n : Nat} {ad : Nat → Nat} (hP : va_P D cl (a ++ b) H) (hD : va_D A (a ++ b)) (ha : adr n ad a) (k : Nat) (q : Nat × va_E) (hk : b[k]? = some q) : ¬ rA n ad H.size q.1 := by
  have hk' : (a ++ b)[a.length + k]? = some q := by rw [List.getElem?_append_right (by omega), Nat.add_sub_cancel_left]; exact hk
  intro hr
  rcases hr with ⟨i, hi, e⟩ | hr
  · obtain ⟨p, hp, ep⟩ := ha.at hi
    have hp' : (a ++ b)[i]? = some p := by rw [List.getElem?_append_left (List.getElem?_eq_some_iff.mp hp).1]; exact hp
    have := hD.1 i (a.length + k) p q hp' hk' (by rw [ep]; exact e.symm)
    have := ha.len
    omega
  · have := (hP _ q hk').lt
    omega
theorem sJ.left {D : sD} {B : Nat} {a b : va_W} {s : State} {H : Heap} (h : sJ D B (a ++ b) s H) : sJ D B a s H := ⟨va_P_left h.1, va_D_left h.2.1, h.2.2⟩
theorem sJ.swap {D : sD} {B : Nat} {a b : va_W} {s : State} {H : Heap} (h : sJ D B (a ++ b) s H) : sJ D B (b ++ a) s H := ⟨va_P.swap (a := []) (b := a) (c := b) h.1, va_D.swap (a := []) (b := a) (c := b) h.2.1, h.2.2⟩
theorem sJ.joinL {D : sD} {B n : Nat} {ad : Nat → Nat} {a a' b : va_W} {s : State} {H H1 : Heap} (h : sJ D B (a ++ b) s H) (ha : adr n ad a) (ha' : adr n ad a') (hP : va_P D.1 vwCl a' H1) (hz : H.size ≤ H1.size) (hk : ∀ q : Nat, q < H.size → ¬ rA n ad H.size q → H1[q]? = H[q]?) : sJ D B (a' ++ b) s H1 := by
  obtain ⟨k1, k2, k3, k4, k5⟩ := h
  refine ⟨hP.app ?_, va_D_map (by rw [List.map_append, List.map_append, ha, ha']) k2, Nat.le_trans k3 hz, k4, k5.kept (fun q h1 h2 => hk q h1 (fun hr => ?_))⟩
  · have hb : va_P D.1 vwCl b H := va_P_left (va_P.swap (a := []) (b := a) (c := b) k1)
    exact hb.kept (fun k q hk9 => hk q.1 ((hb k q hk9).lt) (apart k1 k2 ha k q hk9))
  · rcases hr with ⟨i, hi, rfl⟩ | hr
    · obtain ⟨p, hp, ep⟩ := ha.at hi
      exact h2 (by rw [← ep]; exact (va_D_left k2).2 i p hp)
    · omega
theorem rA_69 {ad : Nat → Nat} {sz q : Nat} (h : rA 68 ad sz q) : rA 69 ad sz q := by
  rcases h with ⟨i, hi, e⟩ | h
  · exact Or.inl ⟨i, by omega, e⟩
  · exact Or.inr h
/-- the head of a helper: it has handlers, and nothing leaves it -/
theorem s_headH {l : Launch} {y : MethodName} {ws ws' : List Cond} {rm : Room} {av : List Value} {B : State → Prop} {Qc : Array Value → State → Outcome → State → Prop} {mc ms : Nat} {free : Addr → Prop} {cc : ByteArray} {maxL : Nat} {ret : Option FieldType} {hh : List (Nat × Nat × Nat × Nat)}
    (hy : plainName y.cls = true) (hw : ws = Cond.codeWith y cc maxL ret hh :: ws') (hn : (lg_sl av).length ≤ maxL)
    (body : ∀ (p : Program) (e : Env) (s : State) (m : MethodId) (below : List Frame) (meth : Method) (c : Code), p.tables.exec = Jvm.exec → c.code = cc → meth.sig.returnType = ret → meth.locks = false → c.maxLocals = maxL → s.vm.findClass y.cls = some m.cls → c.exceptionTable.toList = tableOf hh → (∀ w ∈ ws, w.before av.toArray s = true) → B s →
      ∀ ls : Array Slot, lv_has ls maxL (lv_args 0 av) → W p l e rm s m av.toArray below meth c s.heap [] 0 0 (vx_MQ below Qc (fun _ _ _ => False) av.toArray s mc ms free) (F0 m 0 ls [])) : vx_Met l y ws rm (va_Pc av B) Qc (fun _ _ _ => False) mc ms free := by
  refine vx_ofWH (cc := cc) (maxL := maxL) (ret := ret) (hh := hh) hy hw ?_
  intro p e s m args below meth c s₁ B9 hml hP
  obtain ⟨rfl, hB⟩ := hP
  rw [lg_entry_eq]
  have hat := atoms_spec (ws := ws) B9.pre
  exact body p e s m below meth c B9.exec B9.bytes B9.returns B9.notSynchronized hml (findClass_of_methodNamed B9.named) (vx_table (x := y) B9 (hat _ (by rw [hw]; exact List.mem_cons_self))) hat hB _ (lv_entry av hn)
section Rows
variable {p : Program} {l : Launch} {e : Env} {R : Room} {s : State} {m : MethodId} {args : Array Value} {below : List Frame} {meth : Method} {c : Code} {H : Heap} {locs : List Loc} {cells slots mc ms mc' ms' : Nat} {Q : State → Prop}
variable {cc : ByteArray} {pc : Nat} {ls : Array Slot} {rest st : List Value} {D : sD} {B : Nat} {ad : Nat → Nat} {κ κ' : sQ} {f : Nat → Int64} {a : Array Value} {ok : Prop} {V : Int32} {px : String → Prop}
/-- a call that only reads, seen as one that writes nothing -/
theorem s_hp (hJ : sJ D B (OW D ad κ f) s s.heap) (hr : vx_Run p l e R s m args below meth c s.heap [] cells slots mc ms (F0 m pc ls st) rest (vp_Si (fun rr => ok ∧ rr = V) a) (sX px) (fun _ => False)) : vx_Run p l e R s m args below meth c s.heap [] cells slots mc ms (F0 m pc ls st) rest (va_Qi (S := Unit) (fun rr _ => ok ∧ rr = V) (fun _ t => va_P D.1 vwCl (CW D ad κ) t.heap) (rA 68 ad s.heap.size) a) (sX px) (rA 68 ad s.heap.size) := by
  intro T hT X
  rcases hr T hT X with ⟨v, st₀, t, T', L, h0, X', hL, e1, e2, ⟨r, hv, hp, hh⟩, st9⟩ | ⟨q, st₀, t, T', L, E, ce, h0, X', hL, e1, e2, hX, hce, hcv, hcl, st9⟩
  · refine Or.inl ⟨v, st₀, t, T', L, h0, X', fun q h => (hL q h).elim, e1, e2, ⟨⟨r, (), hv, hp, ?_⟩, ?_, ?_⟩, st9⟩
    · show va_P D.1 vwCl (CW D ad κ) t.heap
      rw [hh, h0]
      exact va_P_left hJ.1
    · rw [hh]
      exact Nat.le_refl _
    · intro q _ _
      rw [hh]
  · exact Or.inr ⟨q, st₀, t, T', L, E, ce, h0, X', fun q h => (hL q h).elim, e1, e2, hX, hce, hcv, hcl, st9⟩
theorem s_hm (hS : sS D B 69 ad (OW D ad κ f) s s.heap []) (hr : vx_Run p l e R s m args below meth c s.heap [] cells slots mc ms (F0 m pc ls st) rest (va_Qi (S := Unit) (fun rr _ => ok ∧ rr = V) (fun _ t => va_P D.1 vwCl (CW D ad κ') t.heap) (rA 68 ad s.heap.size) a) (sX px) (rA 68 ad s.heap.size))
    (kx : ∀ (E : String) (ce : Cell) (q9 : Addr) (H1 : Heap) (locs1 : List Loc), px E → sS D B 69 ad (OW D ad κ f) s H1 locs1 → H1[q9]? = some ce → ce.vm = .none → s.vm.findClass E = some ce.cls → vx_W p l e R s m args below meth c H1 locs1 (cells + mc) (slots + ms) Q (F0 m pc ls rest) q9)
    (kk : ∀ (H1 : Heap) (locs1 : List Loc), ok → sS D B 69 ad (OW D ad κ' f) s H1 locs1 → W p l e R s m args below meth c H1 locs1 (cells + mc) (slots + ms) Q (F0 m (pc + 3) ls (.int V :: rest))) : W p l e R s m args below meth c s.heap [] cells slots Q (F0 m pc ls st) := by
  intro T hT X
  rcases hr T hT X with ⟨v, st₀, t, T', L, h0, X', hL, e1, e2, ⟨⟨r, u, hv, ⟨hok, hV⟩, hP⟩, hz, hk⟩, st9⟩ | ⟨q, st₀, t, T', L, E, ce, h0, X', hL, e1, e2, ⟨hE, hz, hk⟩, hce, hcv, hcl, st9⟩
  · cases hv
    subst hV
    rw [h0] at hz hk
    have hJ := sJ.joinL (H1 := T'.heap) (show sJ D B (CW D ad κ ++ _) s s.heap from hS.1) (CW_adr D ad κ) (CW_adr D ad κ') (by rw [e1]; exact hP) (by rw [e1]; exact hz) (fun q h1 h2 => by rw [e1]; exact hk q h1 h2)
    obtain ⟨t2, a1, b1⟩ := kk T'.heap L hok (hS.next hJ.1 ((OW_adr D ad κ f).D (OW_adr D ad κ' f) hS.2.2.1 (fun k hk => Or.inl ⟨k, hk, rfl⟩)) ⟨by rw [e1]; exact hz, fun q h1 h2 => by rw [e1]; exact hk q h1 (fun q9 => h2 (rA_69 q9)), fun q hq => rA_69 (hL q hq)⟩) T' rfl X'
    exact ⟨t2, st9 t2 a1, b1⟩
  · rw [h0] at hz hk
    obtain ⟨t2, a1, b1⟩ := kx E ce q T'.heap L hE (hS.next (hS.1.1.kept (fun k x hx => by rw [e1]; exact hk x.1 ((hS.1.1 k x hx).lt))) hS.2.2.1 ⟨by rw [e1]; exact hz, fun q h1 _ => by rw [e1]; exact hk q h1, fun q hq => rA_69 (hL q hq)⟩) (by rw [e1]; exact hce) hcv hcl T' rfl X'
    exact ⟨t2, st9.trans a1, b1⟩
theorem s_ho (hx : p.tables.exec = Jvm.exec) (hb : c.code = cc) (hS : sS D B 69 ad (OW D ad κ f) s H locs) {x : Int64} (hdg : decode cc pc = .ok (.lastore, 1)) (kk : ∀ (H1 : Heap) (locs1 : List Loc) (g : Nat → Int64), g 0 = x → sS D B 69 ad (OW D ad κ g) s H1 locs1 → W p l e R s m args below meth c H1 locs1 cells slots Q (F0 m (pc + 1) ls rest)) : W p l e R s m args below meth c H locs cells slots Q (F0 m pc ls (.long x :: .int 0 :: .ref (ad 68) :: rest)) := by
  refine va_last (D := D.1) (cl := vwCl) (tys := sTys D) hx hb hS.1.2.2.2.1.1 hS.1.1 hS.2.2.1 hS.2.1 68 2 (OW_o D ad κ f) rfl (fun q => q.elim (by decide +kernel) (by decide +kernel)) hdg (fun H1 locs1 q1 q2 q3 => ?_)
  rw [OW_set] at q1 q2
  exact kk H1 locs1 _ (by simp [vp_updL]) (hS.next q1 q2 q3)
theorem s_hret (hx : p.tables.exec = Jvm.exec) (hb : c.code = cc) (hr : meth.sig.returnType = some .int) (hlk : meth.locks = false) {v w : Int32} {x : Int64} (hdg : decode cc pc = .ok (.ireturn, 1)) (hv : v = w) (hok : ok → f 0 = x) (hκ : κ = κ') (hS : sS D B 69 ad (OW D ad κ f) s H locs) (hc : cells ≤ mc) (hs : slots ≤ ms) : W p l e R s m args below meth c H locs cells slots (vx_MQ below (va_Qi (S := Nat → Int64) (fun rr g => rr = w ∧ (ok → g 0 = x)) (fun g t => va_P D.1 vwCl (OW D ad κ' g) t.heap) (rA 69 ad s.heap.size)) (fun _ _ _ => False) args s mc ms (rA 69 ad s.heap.size)) (F0 m pc ls [.int v]) :=
  W.widen hc hs (vx_ret (W.iret hx hb hr (fun t ht _ => ⟨⟨v, f, rfl, ⟨hv, hok⟩, (show va_P D.1 vwCl (OW D ad κ' f) t.heap by rw [ht, ← hκ]; exact hS.1.1)⟩, hS.2.1.F ht⟩) hS.frees hdg hlk))
end Rows
end SRowsL

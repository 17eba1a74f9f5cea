/-! ===== the law's methods: their bundle, calls, ends ===== -/
section SRowsP
def oV (c : Prop) [Decidable c] (v e : Int32) : Int32 := if c then v else e
theorem oV_t {c : Prop} [Decidable c] {v e : Int32} (h : c) : oV c v e = v := if_pos h
theorem oV_f {c : Prop} [Decidable c] {v e : Int32} (h : ¬ c) : oV c v e = e := if_neg h
def oL (a b : Prop) [Decidable a] [Decidable b] (v e1 e2 : Int32) : Int32 := if a then (if b then v else e2) else e1
theorem oL_t {a b : Prop} [Decidable a] [Decidable b] {v e1 e2 : Int32} (h : a) (h2 : b) : oL a b v e1 e2 = v := by rw [oL, if_pos h, if_pos h2]
theorem oL_a {a b : Prop} [Decidable a] [Decidable b] {v e1 e2 : Int32} (h : ¬ a) : oL a b v e1 e2 = e1 := by rw [oL, if_neg h]
theorem oL_b {a b : Prop} [Decidable a] [Decidable b] {v e1 e2 : Int32} (h : a) (h2 : ¬ b) : oL a b v e1 e2 = e2 := by rw [oL, if_pos h, if_neg h2]
theorem rA_0 {ad : Nat → Nat} {sz q : Nat} (h : rA 0 ad sz q) : sz ≤ q := by
  rcases h with ⟨i, hi, -⟩ | h
  · omega
  · exact h
theorem va_S_next {A A1 : Nat → Prop} {H0 H H1 : Heap} {locs L : List Loc} (hS : va_S A H0 H locs) (hz : H.size ≤ H1.size) (hk : ∀ q : Nat, q < H.size → ¬ A1 q → H1[q]? = H[q]?) (hA : ∀ q, A1 q → A q) (hL : ∀ q ∈ L, A1 q.base) : va_S A H0 H1 (locs ++ L) :=
  ⟨Nat.le_trans hS.1 hz, fun q h1 h2 => (hk q (Nat.lt_of_lt_of_le h1 hS.1) (fun h => h2 (hA q h))).trans (hS.2.1 q h1 h2), fun q hq => (List.mem_append.mp hq).elim (hS.2.2 q) (fun h => hA _ (hL q h))⟩
/-- the world ws, and what may be written since the start -/
def rS (D : sD) (B : Nat) (A : Nat → Prop) (ws : va_W) (s : State) (H : Heap) (locs : List Loc) : Prop := sJ D B ws s H ∧ va_S A s.heap H locs ∧ ∀ q, s.heap.size ≤ q → A q
theorem rS.start {D : sD} {B n : Nat} {ad : Nat → Nat} {ws : va_W} {s : State} (hJ : sJ D B ws s s.heap) : rS D B (rA n ad s.heap.size) ws s s.heap [] := ⟨hJ, va_S.rf, fun _ h => Or.inr h⟩
theorem sJ.nil {D : sD} {B : Nat} {a : va_W} {s : State} {H : Heap} (h : sJ D B a s H) : sJ D B (a ++ []) s H := by
  rw [List.append_nil]
  exact h
theorem rS.grown {D : sD} {B : Nat} {A A1 : Nat → Prop} {ws : va_W} {s : State} {H H1 : Heap} {locs L : List Loc} (h : rS D B A ws s H locs) (hz : H.size ≤ H1.size) (hk : ∀ q : Nat, q < H.size → H1[q]? = H[q]?) (h1 : ∀ q, A1 q → A q) (hL : ∀ q ∈ L, A1 q.base) : rS D B A ws s H1 (locs ++ L) :=
  ⟨h.1.grown hz hk, va_S_next h.2.1 hz (fun q h1 _ => hk q h1) h1 hL, h.2.2⟩
section Rows
variable {p : Program} {l : Launch} {e : Env} {R : Room} {s : State} {m : MethodId} {args : Array Value} {below : List Frame} {meth : Method} {c : Code} {H : Heap} {locs : List Loc} {cells slots mc ms mc' ms' : Nat} {Q : State → Prop}
variable {cc : ByteArray} {pc : Nat} {ls : Array Slot} {rest st : List Value} {D : sD} {B : Nat} {ad : Nat → Nat} {κ κ' : sQ} {a : Array Value} {ok : Prop} {V w : Int32} {px : String → Prop} {A : Nat → Prop} {ws wd b : va_W}
/-- a call that only reads -/
theorem l_rd (hr : vx_Run p l e R s m args below meth c H locs cells slots mc ms (F0 m pc ls st) rest (va_Qi (S := Unit) (fun rr _ => rr = V) (fun _ _ => True) (rA 0 ad H.size) a) (fun _ _ _ => False) (rA 0 ad H.size)) (hS : rS D B A ws s H locs) (hw : V = w)
    (kk : ∀ (H1 : Heap) (locs1 : List Loc), rS D B A ws s H1 locs1 → W p l e R s m args below meth c H1 locs1 (cells + mc) (slots + ms) Q (F0 m (pc + 3) ls (.int w :: rest))) : W p l e R s m args below meth c H locs cells slots Q (F0 m pc ls st) := by
  intro T hT X
  rcases hr T hT X with ⟨v, st₀, t, T', L, h0, X', hL, e1, e2, ⟨⟨r, u, hv, hr9, -⟩, hz, hk⟩, st9⟩ | ⟨q, st₀, t, T', L, E, ce, h0, X', hL, e1, e2, hX, -⟩
  · cases hv
    rw [h0, ← e1] at hz hk
    have hw9 : r = w := hr9.trans hw
    subst hw9
    obtain ⟨t2, a1, b1⟩ := kk T'.heap (locs ++ L) (hS.grown hz (fun q h1 => hk q h1 (fun h => by have := rA_0 h; omega)) (fun q h => hS.2.2 q (Nat.le_trans hS.2.1.1 (rA_0 h))) hL) T' rfl X'
    exact ⟨t2, st9 t2 a1, b1⟩
  · exact hX.elim
/-- a call that writes the object's world -/
theorem l_mt (hr : vx_Run p l e R s m args below meth c H locs cells slots mc ms (F0 m pc ls st) rest (va_Qi (S := Unit) (fun rr _ => rr = V) (fun _ t => va_P D.1 vwCl (CW D ad κ') t.heap) (rA 68 ad H.size) a) (fun _ _ _ => False) (rA 68 ad H.size)) (hS : rS D B A (CW D ad κ ++ b) s H locs) (hA : ∀ k, k < 68 → A (ad k)) (hw : V = w)
    (kk : ∀ (H1 : Heap) (locs1 : List Loc), rS D B A (CW D ad κ' ++ b) s H1 locs1 → W p l e R s m args below meth c H1 locs1 (cells + mc) (slots + ms) Q (F0 m (pc + 3) ls (.int w :: rest))) : W p l e R s m args below meth c H locs cells slots Q (F0 m pc ls st) := by
  intro T hT X
  rcases hr T hT X with ⟨v, st₀, t, T', L, h0, X', hL, e1, e2, ⟨⟨r, u, hv, hr9, hP⟩, hz, hk⟩, st9⟩ | ⟨q, st₀, t, T', L, E, ce, h0, X', hL, e1, e2, hX, -⟩
  · cases hv
    rw [h0, ← e1] at hz hk
    have hP : va_P D.1 vwCl (CW D ad κ') T'.heap := by rw [e1]; exact hP
    have hw9 : r = w := hr9.trans hw
    subst hw9
    have hA9 : ∀ q, rA 68 ad H.size q → A q := fun q h => by
      rcases h with ⟨i, hi, rfl⟩ | h
      · exact hA i hi
      · exact hS.2.2 q (Nat.le_trans hS.2.1.1 h)
    obtain ⟨t2, a1, b1⟩ := kk T'.heap (locs ++ L) ⟨hS.1.joinL (CW_adr D ad κ) (CW_adr D ad κ') hP hz hk, va_S_next hS.2.1 hz hk hA9 hL, hS.2.2⟩ T' rfl X'
    exact ⟨t2, st9 t2 a1, b1⟩
  · exact hX.elim
/-- a helper's call of a method that only reads -/
theorem l_hp (hr : vx_Run p l e R s m args below meth c s.heap [] cells slots mc ms (F0 m pc ls st) rest (vp_Si (fun rr => ok ∧ rr = V) a) (sX px) (fun _ => False)) (hS : rS D B (rA 0 ad s.heap.size) ws s s.heap [])
    (kx : ∀ (E : String) (ce : Cell) (q9 : Addr) (H1 : Heap) (locs1 : List Loc), px E → rS D B (rA 0 ad s.heap.size) ws s H1 locs1 → H1[q9]? = some ce → ce.vm = .none → s.vm.findClass E = some ce.cls → vx_W p l e R s m args below meth c H1 locs1 (cells + mc) (slots + ms) Q (F0 m pc ls rest) q9)
    (kk : ∀ (H1 : Heap) (locs1 : List Loc), ok → rS D B (rA 0 ad s.heap.size) ws s H1 locs1 → W p l e R s m args below meth c H1 locs1 (cells + mc) (slots + ms) Q (F0 m (pc + 3) ls (.int V :: rest))) : W p l e R s m args below meth c s.heap [] cells slots Q (F0 m pc ls st) := by
  intro T hT X
  rcases hr T hT X with ⟨v, st₀, t, T', L, h0, X', hL, e1, e2, ⟨r, hv, ⟨hok, hV⟩, hh⟩, st9⟩ | ⟨q, st₀, t, T', L, E, ce, h0, X', hL, e1, e2, ⟨hE, hz, hk⟩, hce, hcv, hcl, st9⟩
  · cases hv
    subst hV
    have e3 : T'.heap = s.heap := by rw [e1, hh, h0]
    obtain ⟨t2, a1, b1⟩ := kk T'.heap [] hok (by rw [e3]; exact hS) T' rfl (Stand.forget (locs := []) X' (fun q h => (hL q h).elim))
    exact ⟨t2, st9 t2 a1, b1⟩
  · rw [h0, ← e1] at hz hk
    obtain ⟨t2, a1, b1⟩ := kx E ce q T'.heap [] hE (hS.grown (L := []) hz hk (A1 := fun _ => False) (fun q h => h.elim) (fun q h => by cases h)) (by rw [e1]; exact hce) hcv hcl T' rfl (Stand.forget (locs := []) X' (fun q h => (hL q h).elim))
    exact ⟨t2, st9.trans a1, b1⟩
/-- a helper's call of a method that writes -/
theorem l_hm (hr : vx_Run p l e R s m args below meth c s.heap [] cells slots mc ms (F0 m pc ls st) rest (va_Qi (S := Unit) (fun rr _ => ok ∧ rr = V) (fun _ t => va_P D.1 vwCl (CW D ad κ') t.heap) (rA 68 ad s.heap.size) a) (sX px) (rA 68 ad s.heap.size)) (hS : rS D B (rA 68 ad s.heap.size) (CW D ad κ ++ b) s s.heap [])
    (kx : ∀ (E : String) (ce : Cell) (q9 : Addr) (H1 : Heap) (locs1 : List Loc), px E → rS D B (rA 68 ad s.heap.size) (CW D ad κ ++ b) s H1 locs1 → H1[q9]? = some ce → ce.vm = .none → s.vm.findClass E = some ce.cls → vx_W p l e R s m args below meth c H1 locs1 (cells + mc) (slots + ms) Q (F0 m pc ls rest) q9)
    (kk : ∀ (H1 : Heap) (locs1 : List Loc), ok → rS D B (rA 68 ad s.heap.size) (CW D ad κ' ++ b) s H1 locs1 → W p l e R s m args below meth c H1 locs1 (cells + mc) (slots + ms) Q (F0 m (pc + 3) ls (.int V :: rest))) : W p l e R s m args below meth c s.heap [] cells slots Q (F0 m pc ls st) := by
  intro T hT X
  rcases hr T hT X with ⟨v, st₀, t, T', L, h0, X', hL, e1, e2, ⟨⟨r, u, hv, ⟨hok, hV⟩, hP⟩, hz, hk⟩, st9⟩ | ⟨q, st₀, t, T', L, E, ce, h0, X', hL, e1, e2, ⟨hE, hz, hk⟩, hce, hcv, hcl, st9⟩
  · cases hv
    subst hV
    rw [h0, ← e1] at hz hk
    obtain ⟨t2, a1, b1⟩ := kk T'.heap ([] ++ L) hok ⟨hS.1.joinL (CW_adr D ad κ) (CW_adr D ad κ') (by rw [e1]; exact hP) hz hk, va_S_next hS.2.1 hz hk (fun q h => h) hL, hS.2.2⟩ T' rfl X'
    exact ⟨t2, st9 t2 a1, b1⟩
  · rw [h0, ← e1] at hz hk
    obtain ⟨t2, a1, b1⟩ := kx E ce q T'.heap ([] ++ L) hE (hS.grown hz hk (fun q h => h) hL) (by rw [e1]; exact hce) hcv hcl T' rfl X'
    exact ⟨t2, st9.trans a1, b1⟩
/-- ends -/
theorem l_rret (hx : p.tables.exec = Jvm.exec) (hb : c.code = cc) (hr : meth.sig.returnType = some .int) (hlk : meth.locks = false) {v : Int32} (hdg : decode cc pc = .ok (.ireturn, 1)) (hv : v = w) (hS : rS D B (rA 0 ad s.heap.size) ws s H locs) (hc : cells ≤ mc) (hs : slots ≤ ms) : W p l e R s m args below meth c H locs cells slots (vx_MQ below (va_Qi (S := Unit) (fun rr _ => rr = w) (fun _ _ => True) (rA 0 ad s.heap.size)) (fun _ _ _ => False) args s mc ms (rA 0 ad s.heap.size)) (F0 m pc ls [.int v]) :=
  W.widen hc hs (vx_ret (W.iret hx hb hr (fun t ht _ => ⟨⟨v, (), rfl, hv, trivial⟩, hS.2.1.F ht⟩) hS.2.1.2.2 hdg hlk))
theorem l_rzret (hx : p.tables.exec = Jvm.exec) (hb : c.code = cc) (hr : meth.sig.returnType = some .boolean) (hlk : meth.locks = false) {v : Int32} (hdg : decode cc pc = .ok (.ireturn, 1)) (hn : v = 0 ∨ v = 1) (hv : v = w) (hS : rS D B (rA 0 ad s.heap.size) ws s H locs) (hc : cells ≤ mc) (hs : slots ≤ ms) : W p l e R s m args below meth c H locs cells slots (vx_MQ below (va_Qi (S := Unit) (fun rr _ => rr = w) (fun _ _ => True) (rA 0 ad s.heap.size)) (fun _ _ _ => False) args s mc ms (rA 0 ad s.heap.size)) (F0 m pc ls [.int v]) :=
  W.widen hc hs (vx_ret (W.zret hx hb hr (by rcases hn with rfl | rfl <;> rfl) (fun t ht _ => ⟨⟨v, (), rfl, hv, trivial⟩, hS.2.1.F ht⟩) hS.2.1.2.2 hdg hlk))
theorem l_mret (hx : p.tables.exec = Jvm.exec) (hb : c.code = cc) (hr : meth.sig.returnType = some .int) (hlk : meth.locks = false) {v : Int32} (hdg : decode cc pc = .ok (.ireturn, 1)) (hv : v = w) (hκ : κ = κ') (hS : rS D B (rA 68 ad s.heap.size) (CW D ad κ ++ b) s H locs) (hc : cells ≤ mc) (hs : slots ≤ ms) : W p l e R s m args below meth c H locs cells slots (vx_MQ below (va_Qi (S := Unit) (fun rr _ => rr = w) (fun _ t => va_P D.1 vwCl (CW D ad κ') t.heap) (rA 68 ad s.heap.size)) (fun _ _ _ => False) args s mc ms (rA 68 ad s.heap.size)) (F0 m pc ls [.int v]) :=
  W.widen hc hs (vx_ret (W.iret hx hb hr (fun t ht _ => ⟨⟨v, (), rfl, hv, (show va_P D.1 vwCl (CW D ad κ') t.heap by rw [ht, ← hκ]; exact va_P_left hS.1.1)⟩, hS.2.1.F ht⟩) hS.2.1.2.2 hdg hlk))
theorem l_mzret (hx : p.tables.exec = Jvm.exec) (hb : c.code = cc) (hr : meth.sig.returnType = some .boolean) (hlk : meth.locks = false) {v : Int32} (hdg : decode cc pc = .ok (.ireturn, 1)) (hn : v = 0 ∨ v = 1) (hv : v = w) (hκ : κ = κ') (hS : rS D B (rA 68 ad s.heap.size) (CW D ad κ ++ b) s H locs) (hc : cells ≤ mc) (hs : slots ≤ ms) : W p l e R s m args below meth c H locs cells slots (vx_MQ below (va_Qi (S := Unit) (fun rr _ => rr = w) (fun _ t => va_P D.1 vwCl (CW D ad κ') t.heap) (rA 68 ad s.heap.size)) (fun _ _ _ => False) args s mc ms (rA 68 ad s.heap.size)) (F0 m pc ls [.int v]) :=
  W.widen hc hs (vx_ret (W.zret hx hb hr (by rcases hn with rfl | rfl <;> rfl) (fun t ht _ => ⟨⟨v, (), rfl, hv, (show va_P D.1 vwCl (CW D ad κ') t.heap by rw [ht, ← hκ]; exact va_P_left hS.1.1)⟩, hS.2.1.F ht⟩) hS.2.1.2.2 hdg hlk))
end Rows
end SRowsP

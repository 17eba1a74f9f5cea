/-! ===== the law's own rows ===== -/
section SRowsM
theorem rE_z {c : Prop} [Decidable c] (h : rE c = 0) : c := by
  unfold rE at h
  by_cases q : c
  · exact q
  · rw [if_neg q] at h
    exact absurd h (by decide +kernel)
theorem rL_z {a b : Prop} [Decidable a] [Decidable b] (h : rL a b = 0) : a ∧ b := by
  unfold rL at h
  by_cases q : a
  · rw [if_pos q] at h
    by_cases r : b
    · exact ⟨q, r⟩
    · rw [if_neg r] at h
      exact absurd h (by decide +kernel)
  · rw [if_neg q] at h
    exact absurd h (by decide +kernel)
theorem rE_cg {c d : Prop} [Decidable c] [Decidable d] (h : c ↔ d) : rE c = rE d := by
  unfold rE
  by_cases q : c
  · rw [if_pos q, if_pos (h.mp q)]
  · rw [if_neg q, if_neg (fun z => q (h.mpr z))]
theorem rL_cg {a b a' b' : Prop} [Decidable a] [Decidable b] [Decidable a'] [Decidable b'] (h : a ↔ a') (h2 : b ↔ b') : rL a b = rL a' b' := by
  unfold rL
  by_cases q : a
  · by_cases r : b
    · rw [if_pos q, if_pos (h.mp q), if_pos r, if_pos (h2.mp r)]
    · rw [if_pos q, if_pos (h.mp q), if_neg r, if_neg (fun z => r (h2.mpr z))]
  · rw [if_neg q, if_neg (fun z => q (h.mpr z))]
theorem cmp_0 {x y : Int64} (h : x = y) : lg_cmp x y = 0 := cmp_eq.mpr h
theorem rA_B {D : sD} {B n : Nat} {ad : Nat → Nat} {a b : va_W} {s : State} {H : Heap} (hJ : sJ D B (a ++ b) s H) (ha : adr n ad a) {q : Nat} (h : rA n ad H.size q) : B ≤ q := by
  rcases h with ⟨i, hi, rfl⟩ | h
  · obtain ⟨p, hp, ep⟩ := ha.at hi
    rw [← ep]
    exact (va_D_left hJ.2.1).2 i p hp
  · exact Nat.le_trans hJ.2.2.1 h
section Rows
variable {p : Program} {l : Launch} {e : Env} {R : Room} {s : State} {m : MethodId} {args : Array Value} {below : List Frame} {meth : Method} {c : Code} {H H0 : Heap} {locs : List Loc} {cells slots mc ms : Nat} {Q : State → Prop}
variable {cc : ByteArray} {pc : Nat} {ls : Array Slot} {rest st : List Value} {D : sD} {B : Nat} {ad md : Nat → Nat} {κ κ' τ τ' : sQ} {f : Nat → Int64} {a : Array Value} {ok : Prop} {V : Int64} {v w rf rf' : Int32}
theorem va_S_next {A A1 : Nat → Prop} {H1 : Heap} {L : List Loc} (hS : va_S A H0 H locs) (hz : H.size ≤ H1.size) (hk : ∀ q : Nat, q < H.size → ¬ A1 q → H1[q]? = H[q]?) (hA : ∀ q, A1 q → A q) (hL : ∀ q ∈ L, A1 q.base) : va_S A H0 H1 (locs ++ L) :=
  ⟨Nat.le_trans hS.1 hz, fun q h1 h2 => (hk q (Nat.lt_of_lt_of_le h1 hS.1) (fun h => h2 (hA q h))).trans (hS.2.1 q h1 h2), fun q hq => (List.mem_append.mp hq).elim (hS.2.2 q) (fun h => hA _ (hL q h))⟩
theorem l_help (hr : vx_Run p l e R s m args below meth c H locs cells slots mc ms (F0 m pc ls st) rest (va_Qi (S := Nat → Int64) (fun rr g => rr = w ∧ (ok → g 0 = V)) (fun g t => va_P D.1 vwCl (OW D ad κ' g) t.heap) (rA 69 ad H.size) a) (fun _ _ _ => False) (rA 69 ad H.size)) (hJ : sJ D B (OW D ad κ f ++ MW D md rf τ) s H) (hS : va_S (fun q : Nat => B ≤ q) H0 H locs)
    (kk : ∀ (r : Int32) (g : Nat → Int64) (H1 : Heap) (locs1 : List Loc), r = w → (ok → g 0 = V) → sJ D B (OW D ad κ' g ++ MW D md rf τ) s H1 → va_S (fun q : Nat => B ≤ q) H0 H1 locs1 → W p l e R s m args below meth c H1 locs1 (cells + mc) (slots + ms) Q (F0 m (pc + 3) ls (.int r :: rest))) : W p l e R s m args below meth c H locs cells slots Q (F0 m pc ls st) := by
  intro T hT X
  rcases hr T hT X with ⟨v, st₀, t, T', L, h0, X', hL, e1, e2, ⟨⟨r, g, hv, ⟨hw, hok⟩, hP⟩, hz, hk⟩, st9⟩ | ⟨q, st₀, t, T', L, E, ce, h0, X', hL, e1, e2, hX, -⟩
  · cases hv
    rw [h0, ← e1] at hz hk
    rw [← e1] at hP
    obtain ⟨t2, a1, b1⟩ := kk r g T'.heap (locs ++ L) hw hok (hJ.joinL (OW_adr D ad κ f) (OW_adr D ad κ' g) hP hz hk) (va_S_next hS hz hk (fun q h => rA_B hJ (OW_adr D ad κ f) h) hL) T' rfl X'
    exact ⟨t2, st9 t2 a1, b1⟩
  · exact hX.elim
theorem l_model (hr : va_Run p l e R s m args below meth c H locs cells slots 0 0 (F0 m pc ls st) rest (va_Qi (S := Unit) (fun rr _ => rr = v) (fun _ t => va_P D.1 vwCl (MW D md rf' τ') t.heap) (rA 8 md H.size) a) (rA 8 md H.size)) (hJ : sJ D B (OW D ad κ f ++ MW D md rf τ) s H) (hS : va_S (fun q : Nat => B ≤ q) H0 H locs)
    (kk : ∀ (r : Int32) (H1 : Heap) (locs1 : List Loc), r = v → sJ D B (OW D ad κ f ++ MW D md rf' τ') s H1 → va_S (fun q : Nat => B ≤ q) H0 H1 locs1 → W p l e R s m args below meth c H1 locs1 cells slots Q (F0 m (pc + 3) ls (.int r :: rest))) : W p l e R s m args below meth c H locs cells slots Q (F0 m pc ls st) := by
  intro T hT X
  obtain ⟨v9, st₀, t, T', L, h0, X', hL, e1, e2, ⟨⟨r, u, hv, hw, hP⟩, hz, hk⟩, st9⟩ := hr T hT X
  cases hv
  rw [h0, ← e1] at hz hk
  have hP : va_P D.1 vwCl (MW D md rf' τ') T'.heap := by rw [e1]; exact hP
  obtain ⟨t2, a1, b1⟩ := kk r T'.heap (locs ++ L) hw (hJ.swap.joinL (MW_adr D md rf τ) (MW_adr D md rf' τ') hP hz hk).swap (va_S_next hS hz hk (fun q h => rA_B hJ.swap (MW_adr D md rf τ) h) hL) T' rfl X'
  exact ⟨t2, st9 t2 a1, b1⟩
/-- an int of the script -/
theorem l_arg {b L i k nL : Nat} {xs : Nat → Int32} {A : Nat → Prop} {lv : List (Nat × Value)} {n : Int} (hx : p.tables.exec = Jvm.exec) (hb : c.code = cc) (hX : va_X b L xs s H0) (hbl : b < H0.size) (hbA : ¬ A b) (hS : va_S A H0 H locs) (hl : lv_has ls nL lv) (q0 q4 : Nat) (h0 : lv[q0]? = some (0, .ref b)) (h4 : lv[q4]? = some (4, .int (nI i))) (hv : Int32.ofInt n = nI k) (hk : i + k < L) (hL : L < 2 ^ 31)
    (d0 : decode cc pc = .ok (.aload_n 0, 1)) (d1 : decode cc (pc + 1) = .ok (.iload 4, 2)) (d2 : decode cc (pc + 1 + 2) = .ok (.iconst n, 1)) (d3 : decode cc (pc + 1 + 2 + 1) = .ok (.iadd, 1)) (d4 : decode cc (pc + 1 + 2 + 1 + 1) = .ok (.iaload, 1))
    (kk : W p l e R s m args below meth c H locs cells slots Q (F0 m (pc + 1 + 2 + 1 + 1 + 1) ls (.int (xs (i + k)) :: rest))) : W p l e R s m args below meth c H locs cells slots Q (F0 m pc ls rest) := by
  refine lv_aload_n hx hb d0 rfl (lv_at hl q0 h0) ?_
  refine lv_iload hx hb d1 (lv_at hl q4 h4) ?_
  refine lv_iconst hx hb d2 hv ?_
  refine lv_iadd hx hb d3 ?_
  rw [nI_add]
  refine va_sld hx hb hX hbl hbA hS (vp_in_nI hk hL) d4 ?_
  rw [nI_clamp (by omega)]
  exact kk
/-- out[0] -/
theorem l_out (hx : p.tables.exec = Jvm.exec) (hb : c.code = cc) (hJ : sJ D B (OW D ad κ f ++ MW D md rf τ) s H) (hdg : decode cc pc = .ok (.laload, 1)) (kk : W p l e R s m args below meth c H locs cells slots Q (F0 m (pc + 1) ls (.long (f 0) :: rest))) : W p l e R s m args below meth c H locs cells slots Q (F0 m pc ls (.int 0 :: .ref (ad 68) :: rest)) :=
  va_lald (D := D.1) (cl := vwCl) (tys := sTys D) hx hb hJ.2.2.2.1.1 hJ.left.1 68 2 (OW_o D ad κ f) rfl (fun q => q.elim (by decide +kernel) (by decide +kernel)) hdg kk
end Rows
theorem log_b {κ τ : sQ} {n : Nat} {x : Int32} (h : sRel κ τ n) : (n < 60 ∧ (n = 0 ∨ κ 4 (n - 1) < x)) ↔ (n < 60 ∧ (n = 0 ∨ τ 1 (n - 1) < x)) := by
  by_cases hn : n = 0
  · exact ⟨fun q => ⟨q.1, Or.inl hn⟩, fun q => ⟨q.1, Or.inl hn⟩⟩
  · rw [(rel_E h (n - 1) (by omega)).1]
theorem if_rel {c d : Prop} [Decidable c] [Decidable d] {κ κ' τ τ' : sQ} {n n' : Nat} (hcd : c ↔ d) (h0 : sRel κ τ n) (h1 : c → sRel κ' τ' n') : ∃ n9, sRel (if c then κ' else κ) (if d then τ' else τ) n9 := by
  by_cases q : c
  · rw [if_pos q, if_pos (hcd.mp q)]
    exact ⟨n', h1 q⟩
  · rw [if_neg q, if_neg (fun z => q (hcd.mpr z))]
    exact ⟨n, h0⟩
/-- what the law goes on with, behind an operation -/
def lgN (p : Program) (l : Launch) (e : Env) (s : State) (m : MethodId) (below : List Frame) (meth : Method) (c : Code) (b : Nat) (D : sD) (ad md : Nat → Nat) (i C S : Nat) : Prop := ∀ (κ τ : sQ) (f : Nat → Int64) (rf : Int32) (n : Nat) (H : Heap) (locs : List Loc) (ls : Array Slot), sJ D s.heap.size (OW D ad κ f ++ MW D md rf τ) s H → va_S (fun q : Nat => s.heap.size ≤ q) s.heap H locs → sRel κ τ n → lv_has ls 7 [(0, .ref b), (1, .ref (ad 0)), (2, .ref (md 0)), (3, .ref (ad 68)), (4, .int (nI i))] → W p l e room_1 s m #[Value.ref b] below meth c H locs (C + 6) (S + 36) (lw_Z below #[Value.ref b] s) (F0 m 1343 ls [])
end SRowsM

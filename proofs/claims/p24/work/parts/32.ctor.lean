/-! ===== constructors ===== -/
section SCtor
/-- a new object's state: the factor 1000, all else 0 -/
def κ0 : sQ := fun a i => if a = 0 ∧ i = 1 then 1000 else 0
def sPc (D : sD) (ws : va_W) (sz : Nat) (av : List Value) : Array Value → State → Prop := va_Pc av (fun U => U.heap.size = sz ∧ va_P D.1 vwCl ws U.heap ∧ va_D (fun _ => True) ws ∧ sK D U)
theorem sPc_blind {D : sD} {ws : va_W} {sz : Nat} {av : List Value} : FrameBlind (sPc D ws sz av) := fun a U g mk h => ⟨h.1, h.2.1, h.2.2.1, h.2.2.2.1, h.2.2.2.2.warm (s := U) (U := U.calling g mk a) (State.WarmedH.refl U)⟩
theorem sPSc {D : sD} {ws : va_W} {As : List Value} {A : Nat → Prop} {s : State} {H : Heap} (hP : va_P D.1 vwCl ws H) (hD : va_D A ws) (hK : sK D s) : PreS s H (sPc D ws H.size As) As := ⟨sPc_blind, fun U hU hW => ⟨rfl, by rw [hU], by rw [hU]; exact hP, hD.weaken (fun _ _ _ _ => trivial), hK.warm hW⟩⟩
def snF (i : Nat) : Nat → Int32 := fun j => if j < i ∨ (180 ≤ j ∧ j < 180 + i) then snT j else 0
def snG (i : Nat) : Nat → Int32 := fun j => if j < 360 + i then snT j else 0
theorem snF_0 : (fun _ => (0 : Int32)) = snF 0 := by
  funext j
  unfold snF
  rw [if_neg (by omega)]
theorem snF_G : snF 180 = snG 0 := by
  funext j
  unfold snF snG
  by_cases h : j < 360
  · rw [if_pos (by omega), if_pos (by omega)]
  · rw [if_neg (by omega), if_neg (by omega)]
theorem sn_ne2 : ∀ j, j < 180 → ¬ 40500 - nI j * (180 - nI j) = (0 : Int32) := by decide +kernel
theorem sn_v : ∀ j, j < 180 → 4000 * (nI j * (180 - nI j)) / (40500 - nI j * (180 - nI j)) = snT j ∧ -(4000 * (nI j * (180 - nI j)) / (40500 - nI j * (180 - nI j))) = snT (180 + j) := by decide +kernel
theorem snF_s (j : Nat) (h : j < 180) : upd (upd (snF j) j (4000 * (nI j * (180 - nI j)) / (40500 - nI j * (180 - nI j)))) (180 + j) (-(4000 * (nI j * (180 - nI j)) / (40500 - nI j * (180 - nI j)))) = snF (j + 1) := by
  rw [(sn_v j h).1, (show -snT j = snT (180 + j) by rw [← (sn_v j h).1]; exact (sn_v j h).2)]
  funext x
  unfold upd snF
  by_cases h1 : x = 180 + j
  · subst h1
    rw [if_pos rfl, if_pos (by omega)]
  · rw [if_neg h1]
    by_cases h2 : x = j
    · subst h2
      rw [if_pos rfl, if_pos (by omega)]
    · rw [if_neg h2]
      by_cases h3 : x < j ∨ (180 ≤ x ∧ x < 180 + j)
      · rw [if_pos h3, if_pos (by omega)]
      · rw [if_neg h3, if_neg (by omega)]
theorem snT_360 (k : Nat) : snT (360 + k) = snT k := by
  unfold snT
  rw [show (360 + k) % 360 = k % 360 by omega]
theorem snG_s (k : Nat) (h : k < 90) : upd (snG k) (360 + k) (snG k k) = snG (k + 1) := by
  funext x
  unfold upd snG
  by_cases h1 : x = 360 + k
  · subst h1
    rw [if_pos rfl, if_pos (by omega), if_pos (by omega), snT_360]
  · rw [if_neg h1]
    by_cases h3 : x < 360 + k
    · rw [if_pos h3, if_pos (by omega)]
    · rw [if_neg h3, if_neg (by omega)]
theorem snG_e (j : Nat) (h : j < 450) : snG 90 j = snT j := by
  unfold snG
  rw [if_pos (by omega)]
theorem arrV_ext {cA : ClassId} {n : Nat} {f g : Nat → Value} (h : ∀ j, j < n → f j = g j) : arrV cA n f = arrV cA n g := by
  unfold arrV
  congr 2
  funext j
  exact h j.val j.isLt
theorem arr_ext {D : va_G} {cl : List vw_C} {ws : va_W} {H : Heap} {k a n : Nat} {cA : ClassId} {f g : Nat → Int32} (hP : va_P D cl ws H) (hk : ws[k]? = some (a, .inl (cA, n, .inl f))) (h : ∀ j, j < n → f j = g j) : va_P D cl (ws.set k (a, .inl (cA, n, .inl g))) H := by
  intro i q hq
  by_cases hi : i = k
  · subst hi
    rw [List.getElem?_set_self (List.getElem?_eq_some_iff.mp hk).1] at hq
    cases hq
    have h1 := hP i _ hk
    show H[a]? = some (vp_cell cA (n, .inl g))
    rw [vp_cell_i, ← arrV_ext (f := fun j => Value.int (f j)) (fun j hj => by rw [h j hj]), ← vp_cell_i]
    exact h1
  · rw [List.getElem?_set_ne (Ne.symm hi)] at hq
    exact hP i q hq
theorem def_X0 : ∀ j, j < 1 → defaultValue (tyX0 j) = vp_V [.null] j := by
  intro j hj
  rw [show j = 0 by omega]
  rfl
theorem def_X1 : ∀ j, j < 1 → defaultValue (tyX1 j) = vp_V [.null] j := by
  intro j hj
  rw [show j = 0 by omega]
  rfl
theorem def_X2 : ∀ j, j < 9 → defaultValue (tyX2 j) = vp_V [.int 0, .int 0, .int 0, .int 0, .int 0, .int 0, .int 0, .int 0, .int 0] j := by
  intro j hj
  rcases (show j = 0 ∨ j = 1 ∨ j = 2 ∨ j = 3 ∨ j = 4 ∨ j = 5 ∨ j = 6 ∨ j = 7 ∨ j = 8 by omega) with rfl | rfl | rfl | rfl | rfl | rfl | rfl | rfl | rfl <;> rfl
section Rows
variable {p : Program} {l : Launch} {e : Env} {R : Room} {s : State} {m : MethodId} {args : Array Value} {below : List Frame} {meth : Method} {c : Code} {H : Heap} {locs : List Loc} {cells slots : Nat} {Q : State → Prop}
variable {cc : ByteArray} {pc : Nat} {ls : Array Slot} {rest : List Value} {D : sD} {A : Nat → Prop} {ws : va_W} {H0 : Heap} {a n k : Nat} {f : Nat → Int32}
theorem s_newI (hx : p.tables.exec = Jvm.exec) (hb : c.code = cc) (harr : (Cond.arrayClass .int).before args s = true) (hK : sK D s) (hP : va_P D.1 vwCl ws H) (hD : va_D A ws) (hS : va_S A H0 H locs) (hA : ∀ q, H0.size ≤ q → A q) {x : Int32} {N : Nat} (hxn : x = nI N) (hN : N < 1000) (hcells : cells + 1 ≤ R.cells) (hslots : slots + N ≤ R.slots) (hdg : decode cc pc = .ok (.newarray .int, 2))
    (kk : ∀ (q : Nat) (H1 : Heap), va_P D.1 vwCl (ws ++ [(q, .inl (D.2.1, N, .inl (fun _ => 0)))]) H1 → va_D A (ws ++ [(q, .inl (D.2.1, N, .inl (fun _ => 0)))]) → va_S A H0 H1 locs → W p l e R s m args below meth c H1 locs (cells + 1) (slots + N) Q (F0 m (pc + 2) ls (.ref q :: rest))) : W p l e R s m args below meth c H locs cells slots Q (F0 m pc ls (.int x :: rest)) := by
  subst hxn
  refine va_newa (D := D.1) (cl := vwCl) (tys := sTys D) (atype := .int) (ty := .int) (a0 := (N, .inl (fun _ => 0))) (N' := N) hx hb harr rfl hK.1 hP hD hS hA (fun cA => rfl) (nI_pos (by omega)) (nI_clamp (by omega)) (by show N * 4 ≤ _; omega) hcells hslots hdg (fun q cA H1 hK1 hP1 hD1 hS1 => ?_)
  have h1 := (hK1.2 2 (cA, .int) rfl).2
  have h2 := (hK.1.2 0 (D.2.1, .int) rfl).2
  have e1 : cA = D.2.1 := Option.some.inj (Eq.trans (Eq.symm h1) h2)
  subst e1
  exact kk q H1 hP1 hD1 hS1
theorem s_ald (hx : p.tables.exec = Jvm.exec) (hb : c.code = cc) (hK : sK D s) (hP : va_P D.1 vwCl ws H) (q0 : Nat) (ha : ws[q0]? = some (a, .inl (D.2.1, n, .inl f))) {x : Int32} (hxk : x = nI k) (hk : k < n) (hn : n < 1000) (hdg : decode cc pc = .ok (.iaload, 1)) (kk : W p l e R s m args below meth c H locs cells slots Q (F0 m (pc + 1) ls (.int (f k) :: rest))) : W p l e R s m args below meth c H locs cells slots Q (F0 m pc ls (.int x :: .ref a :: rest)) := by
  subst hxk
  refine va_iald (D := D.1) (cl := vwCl) hx hb hK.1 hP q0 0 ha rfl (vp_in_nI hk (by omega)) hdg ?_
  rw [nI_clamp (by omega)]
  exact kk
theorem s_ast (hx : p.tables.exec = Jvm.exec) (hb : c.code = cc) (hK : sK D s) (hP : va_P D.1 vwCl ws H) (hD : va_D A ws) (hS : va_S A H0 H locs) (q0 : Nat) (ha : ws[q0]? = some (a, .inl (D.2.1, n, .inl f))) {x v : Int32} (hxk : x = nI k) (hk : k < n) (hn : n < 1000) (hdg : decode cc pc = .ok (.iastore, 1)) (kk : ∀ (H1 : Heap) (locs1 : List Loc), va_P D.1 vwCl (ws.set q0 (a, .inl (D.2.1, n, .inl (upd f k v)))) H1 → va_D A (ws.set q0 (a, .inl (D.2.1, n, .inl (upd f k v)))) → va_S A H0 H1 locs1 → W p l e R s m args below meth c H1 locs1 cells slots Q (F0 m (pc + 1) ls rest)) : W p l e R s m args below meth c H locs cells slots Q (F0 m pc ls (.int v :: .int x :: .ref a :: rest)) := by
  subst hxk
  refine va_iast (D := D.1) (cl := vwCl) hx hb hK.1 hP hD hS q0 0 ha rfl (vp_in_nI hk (by omega)) hdg (fun H1 locs1 q1 q2 q3 => ?_)
  rw [nI_clamp (by omega)] at q1 q2
  exact kk H1 locs1 q1 q2 q3
end Rows
/-- Entry(): nothing -/
theorem c_X2_init (l : Launch) (h0 : Nat) : Met l yX2_init wsX2_init ({ frames := 1, cells := 0, slots := 0, locals := 12 } : Room) (va_Pc ([.ref h0] : List Value) (fun _ => True)) (va_Sv (fun _ => True)) 0 0 (fun _ => False) := by
  refine s_head (cc := cX2_init) (maxL := 1) (ret := none) (by decide +kernel) rfl (Nat.le_of_ble_eq_true rfl) ?_
  intro p e s m below meth c hx hb hr hlk hml hown hnm hts hB0 ls hl
  have hown : s.vm.findClass RX2 = some m.cls := hown
  have hl : lv_has ls 1 [(0, .ref h0)] := hl
  refine lv_aload_n hx hb dX2_init_0 rfl (lv_at hl 0 rfl) ?_
  refine W.objInit hx hb hown (hts (.methodLink RX2 3 objectInit) (by decide +kernel)) (hts (.instanceMethod objectInit) (by decide +kernel)) (hts _ (List.mem_of_getElem? (i := 3) rfl)) rfl (by rw [hml]; exact hl.1) rfl dX2_init_1 (Nat.le_of_ble_eq_true rfl) (Nat.le_of_ble_eq_true rfl) ?_
  refine W.eq (g2 := F0 m 4 ls []) rfl ?_
  exact W.vret hx hb hr (fun t ht _ => ⟨rfl, trivial, ht⟩) (fun _ h => by cases h) dX2_init_4 hlk
theorem hdI_X0_init : yX0_init.cls ≠ "java/lang/invoke/MethodHandle" ∧ yX0_init.cls ≠ "java/lang/invoke/VarHandle" ∧ (parseMethodDescriptor yX0_init.desc).map (fun d => d.parameters.length) = some 0 := by decide +kernel
theorem hdI_X1_init : yX1_init.cls ≠ "java/lang/invoke/MethodHandle" ∧ yX1_init.cls ≠ "java/lang/invoke/VarHandle" ∧ (parseMethodDescriptor yX1_init.desc).map (fun d => d.parameters.length) = some 0 := by decide +kernel
theorem hdI_X2_init : yX2_init.cls ≠ "java/lang/invoke/MethodHandle" ∧ yX2_init.cls ≠ "java/lang/invoke/VarHandle" ∧ (parseMethodDescriptor yX2_init.desc).map (fun d => d.parameters.length) = some 0 := by decide +kernel
theorem hdI_X3_init : yX3_init.cls ≠ "java/lang/invoke/MethodHandle" ∧ yX3_init.cls ≠ "java/lang/invoke/VarHandle" ∧ (parseMethodDescriptor yX3_init.desc).map (fun d => d.parameters.length) = some 0 := by decide +kernel
set_option maxRecDepth 100000 in
set_option maxHeartbeats 4000000 in
theorem c_X0_init (l : Launch) (D : sD) (h0 sz : Nat) : Met l yX0_init wsX0_init ({ frames := 1, cells := 1, slots := 190, locals := 12 } : Room) (sPc D [(h0, .inr (0, [.null]))] sz ([.ref h0] : List Value)) (va_Qv (S := Nat) (fun _ => True) (fun u t => va_P D.1 vwCl [(h0, .inr (0, [.ref u])), (u, .inl (D.2.1, 190, .inl (fun _ => 0)))] t.heap ∧ va_D (va_A [(h0, .inr (0, [.null]))] sz) [(h0, .inr (0, [.ref u])), (u, .inl (D.2.1, 190, .inl (fun _ => 0)))]) (va_A [(h0, .inr (0, [.null]))] sz)) 1 190 (va_A [(h0, .inr (0, [.null]))] sz) := by
  refine s_head (cc := cX0_init) (maxL := 1) (ret := none) (by decide +kernel) rfl (Nat.le_of_ble_eq_true rfl) ?_
  intro p e s m below meth c hx hb hr hlk hml hown hnm hts hB0 ls hl
  obtain ⟨hsz, hP, hD0, hK⟩ := hB0
  subst hsz
  have hown : s.vm.findClass RX0 = some m.cls := hown
  have hin2 : meth.name = "<init>" := hnm
  have hD := hD0.self (sz := s.heap.size)
  generalize hAe : va_A [(h0, .inr (0, [.null]))] s.heap.size = A at hD ⊢
  have hA : ∀ q : Nat, s.heap.size ≤ q → A q := fun q h => by rw [← hAe]; exact Or.inr h
  have hS : va_S A s.heap s.heap [] := va_S.rf
  have hl : lv_has ls 1 [(0, .ref h0)] := hl
  have karr : (Cond.arrayClass .int).before ([.ref h0] : List Value).toArray s = true := hts _ (by decide +kernel)
  have k9 : (Cond.fieldLink RX0 9 "SailLog$BestSpeeds" "fields" "[I").before ([.ref h0] : List Value).toArray s = true := hts _ (by decide +kernel)
  have i0 : ∀ w ∈ wsX00, w ∈ wsX0_init := by decide +kernel
  refine lv_aload_n hx hb dX0_init_0 rfl (lv_at hl 0 rfl) ?_
  refine W.objInit hx hb hown (hts (.methodLink RX0 3 objectInit) (by decide +kernel)) (hts (.instanceMethod objectInit) (by decide +kernel)) (hts _ (List.mem_of_getElem? (i := 3) rfl)) rfl (by rw [hml]; exact hl.1) rfl dX0_init_1 (Nat.le_of_ble_eq_true rfl) (Nat.le_of_ble_eq_true rfl) ?_
  refine W.eq (g2 := F0 m 4 ls []) rfl ?_
  refine lv_aload_n hx hb dX0_init_4 rfl (lv_at hl 0 rfl) ?_
  refine lv_sipush (v := 190) hx hb dX0_init_5 (by decide +kernel) ?_
  refine s_newI (N := 190) hx hb karr hK hP hD hS hA rfl (by omega) (Nat.le_of_ble_eq_true rfl) (Nat.le_of_ble_eq_true rfl) dX0_init_8 (fun q8 H hP hD hS => ?_)
  have hP : va_P D.1 vwCl [(h0, .inr (0, [.null])), (q8, .inl (D.2.1, 190, .inl (fun _ => 0)))] H := hP
  have hD : va_D A [(h0, .inr (0, [.null])), (q8, .inl (D.2.1, 190, .inl (fun _ => 0)))] := hD
  refine W.widen (k := 1) (n := 190) (by omega) (by omega) ?_
  refine va_putF (D := D.1) (cl := vwCl) (ci := 0) (v := .ref q8) (ty := (.array .int)) (C := RX0) (T := TX0) (N := 1) hx hb hts i0 tyX0 tyX0_ok nmX0 hown hK.1 hP hD hS 0 rfl rfl 0 (by decide) k9 (fun _ h9 => h9) rfl hin2 rfl (by decide +kernel) rfl rfl (Nat.le_of_ble_eq_true rfl) dX0_init_10 (fun H locs hP hD hS => ?_)
  have hP : va_P D.1 vwCl [(h0, .inr (0, [.ref q8])), (q8, .inl (D.2.1, 190, .inl (fun _ => 0)))] H := hP
  have hD : va_D A [(h0, .inr (0, [.ref q8])), (q8, .inl (D.2.1, 190, .inl (fun _ => 0)))] := hD
  refine W.widen (k := 1) (n := 190) (by omega) (by omega) ?_
  exact W.vret hx hb hr (fun t ht hW => ⟨⟨q8, rfl, trivial, (show va_P D.1 vwCl _ t.heap by rw [ht]; exact hP), hD⟩, hS.F ht⟩) hS.2.2 dX0_init_13 hlk
set_option maxRecDepth 100000 in
set_option maxHeartbeats 4000000 in
theorem c_X1_init (l : Launch) (D : sD) (h0 sz : Nat) : Met l yX1_init wsX1_init ({ frames := 1, cells := 1, slots := 450, locals := 12 } : Room) (sPc D [(h0, .inr (1, [.null]))] sz ([.ref h0] : List Value)) (va_Qv (S := Nat) (fun _ => True) (fun u t => va_P D.1 vwCl [(h0, .inr (1, [.ref u])), (u, .inl (D.2.1, 450, .inl snT))] t.heap ∧ va_D (va_A [(h0, .inr (1, [.null]))] sz) [(h0, .inr (1, [.ref u])), (u, .inl (D.2.1, 450, .inl snT))]) (va_A [(h0, .inr (1, [.null]))] sz)) 1 450 (va_A [(h0, .inr (1, [.null]))] sz) := by
  refine s_head (cc := cX1_init) (maxL := 4) (ret := none) (by decide +kernel) rfl (Nat.le_of_ble_eq_true rfl) ?_
  intro p e s m below meth c hx hb hr hlk hml hown hnm hts hB0 ls hl
  obtain ⟨hsz, hP, hD0, hK⟩ := hB0
  subst hsz
  have hown : s.vm.findClass RX1 = some m.cls := hown
  have hin2 : meth.name = "<init>" := hnm
  have hD := hD0.self (sz := s.heap.size)
  generalize hAe : va_A [(h0, .inr (1, [.null]))] s.heap.size = A at hD ⊢
  have hA : ∀ q : Nat, s.heap.size ≤ q → A q := fun q h => by rw [← hAe]; exact Or.inr h
  have hS : va_S A s.heap s.heap [] := va_S.rf
  have hl : lv_has ls 4 [(0, .ref h0)] := hl
  have karr : (Cond.arrayClass .int).before ([.ref h0] : List Value).toArray s = true := hts _ (by decide +kernel)
  have k9 : (Cond.fieldLink RX1 9 "SailLog$Circle" "sines" "[I").before ([.ref h0] : List Value).toArray s = true := hts _ (by decide +kernel)
  have i1 : ∀ w ∈ wsX10, w ∈ wsX1_init := by decide +kernel
  have k15 : (Cond.constant RX1 15 (40500)).before ([.ref h0] : List Value).toArray s = true := hts _ (by decide +kernel)
  refine lv_aload_n hx hb dX1_init_0 rfl (lv_at hl 0 rfl) ?_
  refine W.objInit hx hb hown (hts (.methodLink RX1 3 objectInit) (by decide +kernel)) (hts (.instanceMethod objectInit) (by decide +kernel)) (hts _ (List.mem_of_getElem? (i := 3) rfl)) rfl (by rw [hml]; exact hl.1) rfl dX1_init_1 (Nat.le_of_ble_eq_true rfl) (Nat.le_of_ble_eq_true rfl) ?_
  refine W.eq (g2 := F0 m 4 ls []) rfl ?_
  refine lv_aload_n hx hb dX1_init_4 rfl (lv_at hl 0 rfl) ?_
  refine lv_sipush (v := 450) hx hb dX1_init_5 (by decide +kernel) ?_
  refine s_newI (N := 450) hx hb karr hK hP hD hS hA rfl (by omega) (Nat.le_of_ble_eq_true rfl) (Nat.le_of_ble_eq_true rfl) dX1_init_8 (fun q8 H hP hD hS => ?_)
  have hP : va_P D.1 vwCl [(h0, .inr (1, [.null])), (q8, .inl (D.2.1, 450, .inl (fun _ => 0)))] H := hP
  have hD : va_D A [(h0, .inr (1, [.null])), (q8, .inl (D.2.1, 450, .inl (fun _ => 0)))] := hD
  refine W.widen (k := 1) (n := 450) (by omega) (by omega) ?_
  refine va_putF (D := D.1) (cl := vwCl) (ci := 1) (v := .ref q8) (ty := (.array .int)) (C := RX1) (T := TX1) (N := 1) hx hb hts i1 tyX1 tyX1_ok nmX1 hown hK.1 hP hD hS 0 rfl rfl 0 (by decide) k9 (fun _ h9 => h9) rfl hin2 rfl (by decide +kernel) rfl rfl (Nat.le_of_ble_eq_true rfl) dX1_init_10 (fun H locs hP hD hS => ?_)
  have hP : va_P D.1 vwCl [(h0, .inr (1, [.ref q8])), (q8, .inl (D.2.1, 450, .inl (fun _ => 0)))] H := hP
  have hD : va_D A [(h0, .inr (1, [.ref q8])), (q8, .inl (D.2.1, 450, .inl (fun _ => 0)))] := hD
  refine lv_iconst (v := 0) hx hb dX1_init_13 (by decide +kernel) ?_
  rw [show (fun _ => (0 : Int32)) = snF 0 from snF_0] at hP hD
  refine lv_istore_n (lv' := [(1, .int 0), (0, .ref h0)]) hx hb dX1_init_14 rfl hl (by decide) rfl (fun ls hl => ?_)
  have loop15 : ∀ (fuel : Nat) (j : Nat) (hj : j ≤ 180) (hfu : 181 ≤ j + fuel) (H : Heap) (locs : List Loc) (hP : va_P D.1 vwCl [(h0, .inr (1, [.ref q8])), (q8, .inl (D.2.1, 450, .inl (snF j)))] H) (hD : va_D A [(h0, .inr (1, [.ref q8])), (q8, .inl (D.2.1, 450, .inl (snF j)))]) (hS : va_S A s.heap H locs) (ls : Array Slot), lv_has ls 4 [(0, .ref h0), (1, .int (nI j))] → W p l e ({ frames := 1, cells := 1, slots := 450, locals := 12 } : Room) s m ([.ref h0] : List Value).toArray below meth c H locs 1 450 (MQ below (va_Qv (S := Nat) (fun _ => True) (fun u t => va_P D.1 vwCl [(h0, .inr (1, [.ref u])), (u, .inl (D.2.1, 450, .inl snT))] t.heap ∧ va_D A [(h0, .inr (1, [.ref u])), (u, .inl (D.2.1, 450, .inl snT))]) A) ([.ref h0] : List Value).toArray s 1 450 A) (F0 m 15 ls []) := by
    intro fuel
    induction fuel with
    | zero => intro j hj hfu H locs hP hD hS ls hl; exact absurd (hfu) (by omega)
    | succ fuel ih15 =>
      intro j hj hfu H locs hP hD hS ls hl
      refine lv_iload_n hx hb dX1_init_15 rfl (lv_at hl 1 rfl) ?_
      refine lv_sipush (v := 180) hx hb dX1_init_16 (by decide +kernel) ?_
      refine lv_icmp_ge (tgt := 66) hx hb dX1_init_19 (by decide) (fun c19 => ?_) (fun c19 => ?_)
      ·
        have hj180 : j = 180 := by have := (nI_leI (a := 180) (b := j) (by omega) (by omega)).mp c19; omega
        subst hj180
        rw [show snF 180 = snG 0 from snF_G] at hP hD
        refine lv_iconst (v := 0) hx hb dX1_init_66 (by decide +kernel) ?_
        refine lv_istore_n (lv' := [(1, .int 0), (0, .ref h0)]) hx hb dX1_init_67 rfl hl (by decide) rfl (fun ls hl => ?_)
        have loop68 : ∀ (fuel : Nat) (k : Nat) (hk : k ≤ 90) (hfu2 : 91 ≤ k + fuel) (H : Heap) (locs : List Loc) (hP : va_P D.1 vwCl [(h0, .inr (1, [.ref q8])), (q8, .inl (D.2.1, 450, .inl (snG k)))] H) (hD : va_D A [(h0, .inr (1, [.ref q8])), (q8, .inl (D.2.1, 450, .inl (snG k)))]) (hS : va_S A s.heap H locs) (ls : Array Slot), lv_has ls 4 [(0, .ref h0), (1, .int (nI k))] → W p l e ({ frames := 1, cells := 1, slots := 450, locals := 12 } : Room) s m ([.ref h0] : List Value).toArray below meth c H locs 1 450 (MQ below (va_Qv (S := Nat) (fun _ => True) (fun u t => va_P D.1 vwCl [(h0, .inr (1, [.ref u])), (u, .inl (D.2.1, 450, .inl snT))] t.heap ∧ va_D A [(h0, .inr (1, [.ref u])), (u, .inl (D.2.1, 450, .inl snT))]) A) ([.ref h0] : List Value).toArray s 1 450 A) (F0 m 68 ls []) := by
          intro fuel
          induction fuel with
          | zero => intro k hk hfu2 H locs hP hD hS ls hl; exact absurd (hfu2) (by omega)
          | succ fuel ih68 =>
            intro k hk hfu2 H locs hP hD hS ls hl
            refine lv_iload_n hx hb dX1_init_68 rfl (lv_at hl 1 rfl) ?_
            refine lv_bipush (v := 90) hx hb dX1_init_69 (by decide +kernel) ?_
            refine lv_icmp_ge (tgt := 96) hx hb dX1_init_71 (by decide) (fun c71 => ?_) (fun c71 => ?_)
            ·
              have hk90 : k = 90 := by have := (nI_leI (a := 90) (b := k) (by omega) (by omega)).mp c71; omega
              subst hk90
              have hP := arr_ext (k := 1) hP rfl (g := snT) snG_e
              have hD := hD.set (p := 1) (e := .inl (D.2.1, 450, .inl snT)) rfl
              refine W.widen (k := 1) (n := 450) (by omega) (by omega) ?_
              exact W.vret hx hb hr (fun t ht hW => ⟨⟨q8, rfl, trivial, (show va_P D.1 vwCl _ t.heap by rw [ht]; exact hP), hD⟩, hS.F ht⟩) hS.2.2 dX1_init_96 hlk
            ·
              have hk2 : k < 90 := by have := mt (nI_leI (a := 90) (b := k) (by omega) (by omega)).mpr c71; omega
              refine lv_aload_n hx hb dX1_init_74 rfl (lv_at hl 0 rfl) ?_
              refine va_get (D := D.1) (cl := vwCl) (ci := 1) (v := .ref q8) (C := RX1) (T := TX1) (N := 1) hx hb hts i1 hown hK.1 hP 0 rfl rfl 0 (by decide) k9 (fun _ h9 => h9) rfl dX1_init_75 ?_
              refine lv_iload_n hx hb dX1_init_78 rfl (lv_at hl 1 rfl) ?_
              refine lv_sipush (v := 360) hx hb dX1_init_79 (by decide +kernel) ?_
              refine lv_iadd hx hb dX1_init_82 ?_
              refine lv_aload_n hx hb dX1_init_83 rfl (lv_at hl 0 rfl) ?_
              refine va_get (D := D.1) (cl := vwCl) (ci := 1) (v := .ref q8) (C := RX1) (T := TX1) (N := 1) hx hb hts i1 hown hK.1 hP 0 rfl rfl 0 (by decide) k9 (fun _ h9 => h9) rfl dX1_init_84 ?_
              refine lv_iload_n hx hb dX1_init_87 rfl (lv_at hl 1 rfl) ?_
              refine s_ald (k := k) (n := 450) hx hb hK hP 1 rfl (rfl) (by omega) (by omega) dX1_init_88 ?_
              refine s_ast (k := 360 + k) (n := 450) hx hb hK hP hD hS 1 rfl (by rw [show nI k + 360 = nI (k + 360) from nI_add k 360, Nat.add_comm]) (by omega) (by omega) dX1_init_89 (fun H locs hP hD hS => ?_)
              have hP : va_P D.1 vwCl [(h0, .inr (1, [.ref q8])), (q8, .inl (D.2.1, 450, .inl (upd (snG k) (360 + k) ((snG k) k))))] H := hP
              have hD : va_D A [(h0, .inr (1, [.ref q8])), (q8, .inl (D.2.1, 450, .inl (upd (snG k) (360 + k) ((snG k) k))))] := hD
              rw [show upd (snG k) (360 + k) ((snG k) k) = snG (k + 1) from snG_s k hk2] at hP hD
              refine lv_iinc (v := nI (k + 1)) (lv' := [(1, .int (nI (k + 1))), (0, .ref h0)]) hx hb dX1_init_90 hl (k := 1) rfl (nI_1 k) (by decide) rfl (fun ls hl => ?_)
              refine lv_goto (tgt := 68) hx hb dX1_init_93 (by decide) ?_
              exact ih68 (k + 1) (by omega) (by omega) _ _ hP hD hS _ (lv_sub hl [1, 0] rfl)
        exact loop68 91 0 (by omega) (by omega) _ _ hP hD hS _ (lv_sub hl [1, 0] rfl)
      ·
        have hj2 : j < 180 := by have := mt (nI_leI (a := 180) (b := j) (by omega) (by omega)).mpr c19; omega
        refine lv_iload_n hx hb dX1_init_22 rfl (lv_at hl 1 rfl) ?_
        refine lv_sipush (v := 180) hx hb dX1_init_23 (by decide +kernel) ?_
        refine lv_iload_n hx hb dX1_init_26 rfl (lv_at hl 1 rfl) ?_
        refine lv_isub hx hb dX1_init_27 ?_
        refine lv_imul hx hb dX1_init_28 ?_
        refine lv_istore_n (lv' := [(2, .int ((nI j) * (180 - (nI j)))), (0, .ref h0), (1, .int (nI j))]) hx hb dX1_init_29 rfl hl (by decide) rfl (fun ls hl => ?_)
        refine lv_sipush (v := 4000) hx hb dX1_init_30 (by decide +kernel) ?_
        refine lv_iload_n hx hb dX1_init_33 rfl (lv_at hl 0 rfl) ?_
        refine lv_imul hx hb dX1_init_34 ?_
        refine lv_ldc (own := RX1) hx hb hown k15 dX1_init_35 ?_
        refine lv_iload_n hx hb dX1_init_37 rfl (lv_at hl 0 rfl) ?_
        refine lv_isub hx hb dX1_init_38 ?_
        refine lv_idiv hx hb dX1_init_39 (sn_ne2 j hj2) ?_
        refine lv_istore_n (lv' := [(3, .int ((4000 * ((nI j) * (180 - (nI j)))) / (40500 - ((nI j) * (180 - (nI j)))))), (2, .int ((nI j) * (180 - (nI j)))), (0, .ref h0), (1, .int (nI j))]) hx hb dX1_init_40 rfl hl (by decide) rfl (fun ls hl => ?_)
        refine lv_aload_n hx hb dX1_init_41 rfl (lv_at hl 2 rfl) ?_
        refine va_get (D := D.1) (cl := vwCl) (ci := 1) (v := .ref q8) (C := RX1) (T := TX1) (N := 1) hx hb hts i1 hown hK.1 hP 0 rfl rfl 0 (by decide) k9 (fun _ h9 => h9) rfl dX1_init_42 ?_
        refine lv_iload_n hx hb dX1_init_45 rfl (lv_at hl 3 rfl) ?_
        refine lv_iload_n hx hb dX1_init_46 rfl (lv_at hl 0 rfl) ?_
        refine s_ast (k := j) (n := 450) hx hb hK hP hD hS 1 rfl (rfl) (by omega) (by omega) dX1_init_47 (fun H locs hP hD hS => ?_)
        have hP : va_P D.1 vwCl [(h0, .inr (1, [.ref q8])), (q8, .inl (D.2.1, 450, .inl (upd (snF j) j ((4000 * ((nI j) * (180 - (nI j)))) / (40500 - ((nI j) * (180 - (nI j))))))))] H := hP
        have hD : va_D A [(h0, .inr (1, [.ref q8])), (q8, .inl (D.2.1, 450, .inl (upd (snF j) j ((4000 * ((nI j) * (180 - (nI j)))) / (40500 - ((nI j) * (180 - (nI j))))))))] := hD
        refine lv_aload_n hx hb dX1_init_48 rfl (lv_at hl 2 rfl) ?_
        refine va_get (D := D.1) (cl := vwCl) (ci := 1) (v := .ref q8) (C := RX1) (T := TX1) (N := 1) hx hb hts i1 hown hK.1 hP 0 rfl rfl 0 (by decide) k9 (fun _ h9 => h9) rfl dX1_init_49 ?_
        refine lv_iload_n hx hb dX1_init_52 rfl (lv_at hl 3 rfl) ?_
        refine lv_sipush (v := 180) hx hb dX1_init_53 (by decide +kernel) ?_
        refine lv_iadd hx hb dX1_init_56 ?_
        refine lv_iload_n hx hb dX1_init_57 rfl (lv_at hl 0 rfl) ?_
        refine lv_ineg hx hb dX1_init_58 ?_
        refine s_ast (k := 180 + j) (n := 450) hx hb hK hP hD hS 1 rfl (by rw [show nI j + 180 = nI (j + 180) from nI_add j 180, Nat.add_comm]) (by omega) (by omega) dX1_init_59 (fun H locs hP hD hS => ?_)
        have hP : va_P D.1 vwCl [(h0, .inr (1, [.ref q8])), (q8, .inl (D.2.1, 450, .inl (upd (upd (snF j) j ((4000 * ((nI j) * (180 - (nI j)))) / (40500 - ((nI j) * (180 - (nI j)))))) (180 + j) (-((4000 * ((nI j) * (180 - (nI j)))) / (40500 - ((nI j) * (180 - (nI j)))))))))] H := hP
        have hD : va_D A [(h0, .inr (1, [.ref q8])), (q8, .inl (D.2.1, 450, .inl (upd (upd (snF j) j ((4000 * ((nI j) * (180 - (nI j)))) / (40500 - ((nI j) * (180 - (nI j)))))) (180 + j) (-((4000 * ((nI j) * (180 - (nI j)))) / (40500 - ((nI j) * (180 - (nI j)))))))))] := hD
        rw [show upd (upd (snF j) j ((4000 * ((nI j) * (180 - (nI j)))) / (40500 - ((nI j) * (180 - (nI j)))))) (180 + j) (-((4000 * ((nI j) * (180 - (nI j)))) / (40500 - ((nI j) * (180 - (nI j)))))) = snF (j + 1) from snF_s j hj2] at hP hD
        refine lv_iinc (v := nI (j + 1)) (lv' := [(1, .int (nI (j + 1))), (3, .int ((4000 * ((nI j) * (180 - (nI j)))) / (40500 - ((nI j) * (180 - (nI j)))))), (2, .int ((nI j) * (180 - (nI j)))), (0, .ref h0)]) hx hb dX1_init_60 hl (k := 3) rfl (nI_1 j) (by decide) rfl (fun ls hl => ?_)
        refine lv_goto (tgt := 15) hx hb dX1_init_63 (by decide) ?_
        exact ih15 (j + 1) (by omega) (by omega) _ _ hP hD hS _ (lv_sub hl [3, 0] rfl)
  exact loop15 181 0 (by omega) (by omega) _ _ hP hD hS _ (lv_sub hl [1, 0] rfl)
end SCtor

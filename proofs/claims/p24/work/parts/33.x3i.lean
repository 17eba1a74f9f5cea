/-! ===== the class's own constructor ===== -/
section SCtor3
def sFk (en : Nat → Nat) (k : Nat) : Nat → Option Nat := fun j => if j < k then some (en j) else none
def sPool (en : Nat → Nat) (k : Nat) : va_W := (List.range k).map (fun i => (en i, .inr (2, [.int 0, .int 0, .int 0, .int 0, .int 0, .int 0, .int 0, .int 0, .int 0])))
theorem sPool_s (en : Nat → Nat) (k q : Nat) : sPool en k ++ ([(q, .inr (2, [.int 0, .int 0, .int 0, .int 0, .int 0, .int 0, .int 0, .int 0, .int 0]))] : va_W) = sPool (va_up en k q) (k + 1) := by
  unfold sPool
  rw [List.range_succ, List.map_append]
  congr 1
  · apply List.map_congr_left
    intro i hi
    rw [va_up_ne en q (by have := List.mem_range.mp hi; omega)]
  · simp [va_up_self]
theorem sFk_s (en : Nat → Nat) (k q : Nat) : va_up (sFk en k) k (some q) = sFk (va_up en k q) (k + 1) := by
  funext j
  unfold sFk
  by_cases h : j = k
  · subst h
    rw [va_up_self, if_pos (by omega), va_up_self]
  · rw [va_up_ne _ _ h, va_up_ne _ _ h]
    by_cases h2 : j < k
    · rw [if_pos h2, if_pos (by omega)]
    · rw [if_neg h2, if_neg (by omega)]
theorem sFk_0 (en : Nat → Nat) : (fun _ => none) = sFk en 0 := by
  funext j
  unfold sFk
  rw [if_neg (by omega)]
theorem sPool_step (w0 w1 w2 : Nat × va_E) (a : Nat) (cA : ClassId) (en : Nat → Nat) (k q : Nat) : ((([w0, w1, w2, (a, .inl (cA, 60, .inr (.inr (.inr (.inr (sFk en k))))))] : va_W) ++ sPool en k) ++ ([(q, .inr (2, [.int 0, .int 0, .int 0, .int 0, .int 0, .int 0, .int 0, .int 0, .int 0]))] : va_W)).set 3 ((a, .inl (cA, 60, .inr (.inr (.inr (.inr (va_up (sFk en k) k (some q))))))) : Nat × va_E) = ([w0, w1, w2, (a, .inl (cA, 60, .inr (.inr (.inr (.inr (sFk (va_up en k q) (k + 1)))))))] : va_W) ++ sPool (va_up en k q) (k + 1) := by
  rw [List.append_assoc, sPool_s, sFk_s]
  rfl
theorem sPool_at (w0 w1 w2 w3 : Nat × va_E) (en : Nat → Nat) (k : Nat) (w : Nat × va_E) : (([w0, w1, w2, w3] ++ sPool en k) ++ [w])[4 + k]? = some w := by
  have h : ([w0, w1, w2, w3] ++ sPool en k).length = 4 + k := by simp [sPool]; omega
  rw [List.getElem?_append_right (by omega), h, Nat.sub_self]
  rfl
theorem arr_extq {D : va_G} {cl : List vw_C} {ws : va_W} {H : Heap} {k a n : Nat} {cA : ClassId} {f g : Nat → Option Nat} (hP : va_P D cl ws H) (hk : ws[k]? = some (a, .inl (cA, n, .inr (.inr (.inr (.inr f)))))) (h : ∀ j, j < n → f j = g j) : va_P D cl (ws.set k (a, .inl (cA, n, .inr (.inr (.inr (.inr g)))))) H := by
  intro i q hq
  by_cases hi : i = k
  · subst hi
    rw [List.getElem?_set_self (List.getElem?_eq_some_iff.mp hk).1] at hq
    cases hq
    have h1 := hP i _ hk
    show H[a]? = some (vp_cell cA (n, .inr (.inr (.inr (.inr g)))))
    rw [vp_cell_q, ← arrV_ext (f := fun j => va_rf (f j)) (fun j hj => by rw [h j hj]), ← vp_cell_q]
    exact h1
  · rw [List.getElem?_set_ne (Ne.symm hi)] at hq
    exact hP i q hq
def sU (x0 x1 x2 x3 x4 x5 x6 x7 : Nat) (en : Nat → Nat) : Nat → Nat := fun k => if k < 8 then [x0, x1, x2, x3, x4, x5, x6, x7].getD k 0 else en (k - 8)
theorem CW_new (D : sD) (x0 x1 x2 x3 x4 x5 x6 x7 : Nat) (en : Nat → Nat) : CW D (sU x0 x1 x2 x3 x4 x5 x6 x7 en) κ0 = [(x0, .inr (3, [.ref x1, .ref x3, .ref x4, .ref x6, .ref x7, .int 0, .int 1000, .int 0, .int 0])), (x1, .inr (1, [.ref x2])), (x2, .inl (D.2.1, 450, .inl snT)), (x3, .inl (D.2.2.1, 60, .inr (.inr (.inr (.inr (fun k => some (en k))))))), (x4, .inr (0, [.ref x5])), (x5, .inl (D.2.1, 190, .inl (fun _ => 0))), (x6, .inl (D.2.1, 24, .inl (fun _ => 0))), (x7, .inl (D.2.1, 24, .inl (fun _ => 0)))] ++ sPool en 60 := by
  have h : ∀ i, sU x0 x1 x2 x3 x4 x5 x6 x7 en (8 + i) = en i := by
    intro i
    unfold sU
    rw [if_neg (by omega), Nat.add_sub_cancel_left]
  unfold CW CW8 CWe sPool
  simp only [h]
  rfl
section Rows
variable {p : Program} {l : Launch} {e : Env} {R : Room} {s : State} {m : MethodId} {args : Array Value} {below : List Frame} {meth : Method} {c : Code} {H : Heap} {locs : List Loc} {cells slots : Nat} {Q : State → Prop}
variable {y : MethodName} {bytes cc : ByteArray} {maxL nL n index pc : Nat} {ws : List Cond} {rm : Room} {Pc : Array Value → State → Prop} {Ts : List Cond} {own host : String} {b : Addr} {As rest st : List Value} {ls : Array Slot}
theorem s_cvI (S : CallFix p m c cc nL s args Ts own) (hM : Met l y ws rm Pc (va_Sv (fun _ => True)) 0 0 (fun _ => False)) (cw : va_CN R s args own index y host bytes maxL none ws rm 0 0 n ∧ y.name = "<init>" ∧ (Cond.instanceMethod y).before args s = true) (hp : PreS s H Pc (.ref b :: As)) (hn : As.length = n) (hsize : ls.size = nL) (hstack : st = As.reverse ++ .ref b :: rest) (hW : (rest.map fun v => v.category).sum ≤ 8) (hdg : decode cc pc = .ok (.invokespecial index, 3)) (hf : cells ≤ R.cells ∧ slots ≤ R.slots)
    (kk : W p l e R s m args below meth c H locs cells slots Q (F0 m (pc + 3) ls rest)) : W p l e R s m args below meth c H locs cells slots Q (F0 m pc ls st) :=
  va_csv (va_runIN S hM cw hp rfl hn hsize hstack (lv_room hW) hdg hf).run (fun _ => kk)
end Rows
set_option maxRecDepth 100000 in
set_option maxHeartbeats 4000000 in
theorem c_X3_init (l : Launch) (D : sD) (h0 sz : Nat) : Met l yX3_init wsX3_init ({ frames := 2, cells := 67, slots := 1290, locals := 35 } : Room) (sPc D [(h0, .inr (3, [.null, .null, .null, .null, .null, .int 0, .int 0, .int 0, .int 0]))] sz ([.ref h0] : List Value)) (va_Qv (S := (Nat → Nat)) (fun _ => True) (fun u t => u 0 = h0 ∧ va_P D.1 vwCl (CW D u κ0) t.heap ∧ va_D (va_A [(h0, .inr (3, [.null, .null, .null, .null, .null, .int 0, .int 0, .int 0, .int 0]))] sz) (CW D u κ0)) (va_A [(h0, .inr (3, [.null, .null, .null, .null, .null, .int 0, .int 0, .int 0, .int 0]))] sz)) 67 1290 (va_A [(h0, .inr (3, [.null, .null, .null, .null, .null, .int 0, .int 0, .int 0, .int 0]))] sz) := by
  refine s_head (cc := cX3_init) (maxL := 2) (ret := none) (by decide +kernel) rfl (Nat.le_of_ble_eq_true rfl) ?_
  intro p e s m below meth c hx hb hr hlk hml hown hnm hts hB0 ls hl
  obtain ⟨hsz, hP, hD0, hK⟩ := hB0
  subst hsz
  have hown : s.vm.findClass RX3 = some m.cls := hown
  have hin2 : meth.name = "<init>" := hnm
  have hD := hD0.self (sz := s.heap.size)
  generalize hAe : va_A [(h0, .inr (3, [.null, .null, .null, .null, .null, .int 0, .int 0, .int 0, .int 0]))] s.heap.size = A at hD ⊢
  have hA : ∀ q : Nat, s.heap.size ≤ q → A q := fun q h => by rw [← hAe]; exact Or.inr h
  have hS : va_S A s.heap s.heap [] := va_S.rf
  have hl : lv_has ls 2 [(0, .ref h0)] := hl
  have i1 : ∀ w ∈ wsX10, w ∈ wsX3_init := by decide +kernel
  have k12 : (Cond.fieldLink RX3 12 "SailLog" "circle" "LSailLog$Circle;").before ([.ref h0] : List Value).toArray s = true := hts _ (by decide +kernel)
  have i3 : ∀ w ∈ wsX30, w ∈ wsX3_init := by decide +kernel
  have k18 : (Cond.fieldLink RX3 18 "SailLog" "logged" "[LSailLog$Entry;").before ([.ref h0] : List Value).toArray s = true := hts _ (by decide +kernel)
  have i0 : ∀ w ∈ wsX00, w ∈ wsX3_init := by decide +kernel
  have k26 : (Cond.fieldLink RX3 26 "SailLog" "bestSpeeds" "LSailLog$BestSpeeds;").before ([.ref h0] : List Value).toArray s = true := hts _ (by decide +kernel)
  have karr : (Cond.arrayClass .int).before ([.ref h0] : List Value).toArray s = true := hts _ (by decide +kernel)
  have k30 : (Cond.fieldLink RX3 30 "SailLog" "tideDirections" "[I").before ([.ref h0] : List Value).toArray s = true := hts _ (by decide +kernel)
  have k34 : (Cond.fieldLink RX3 34 "SailLog" "tideDrifts" "[I").before ([.ref h0] : List Value).toArray s = true := hts _ (by decide +kernel)
  have k37 : (Cond.fieldLink RX3 37 "SailLog" "factor" "I").before ([.ref h0] : List Value).toArray s = true := hts _ (by decide +kernel)
  have i2 : ∀ w ∈ wsX20, w ∈ wsX3_init := by decide +kernel
  refine lv_aload_n hx hb dX3_init_0 rfl (lv_at hl 0 rfl) ?_
  refine W.objInit hx hb hown (hts (.methodLink RX3 3 objectInit) (by decide +kernel)) (hts (.instanceMethod objectInit) (by decide +kernel)) (hts _ (List.mem_of_getElem? (i := 3) rfl)) rfl (by rw [hml]; exact hl.1) rfl dX3_init_1 (Nat.le_of_ble_eq_true rfl) (Nat.le_of_ble_eq_true rfl) ?_
  refine W.eq (g2 := F0 m 4 ls []) rfl ?_
  refine lv_aload_n hx hb dX3_init_4 rfl (lv_at hl 0 rfl) ?_
  refine va_new (D := D.1) (cl := vwCl) (ci := 1) (fs := [.null]) (C := RX1) (T := TX1) (N := 1) hx hb hts i1 tyX1 tyX1_ok hown (hts (.classLink RX3 9 RX1) (by decide +kernel)) (hts (.instantiable RX1 1) (by decide +kernel)) (hts (.initialized RX1) (by decide +kernel)) hK.1 hP hD hS hA rfl (def_X1) (Nat.le_of_ble_eq_true rfl) (Nat.le_of_ble_eq_true rfl) dX3_init_5 (fun q5 H hP hD hS => ?_)
  have hP : va_P D.1 vwCl [(h0, .inr (3, [.null, .null, .null, .null, .null, .int 0, .int 0, .int 0, .int 0])), (q5, .inr (1, [.null]))] H := hP
  have hD : va_D A [(h0, .inr (3, [.null, .null, .null, .null, .null, .int 0, .int 0, .int 0, .int 0])), (q5, .inr (1, [.null]))] := hD
  refine W.widen (k := 1) (n := 1) (by omega) (by omega) ?_
  refine lv_dup hx hb dX3_init_8 rfl ?_
  have hPc := hP.sub (ws' := [(q5, .inr (1, [.null]))]) [1] rfl
  have hDc := hD.sub (ws' := [(q5, .inr (1, [.null]))]) [1] (by decide) rfl
  have hFc := va_free (wc := [(q5, .inr (1, [.null]))]) hD hS hA [1] rfl
  refine va_callv (va_runI (As := []) (rest := [.ref q5, .ref h0]) ⟨hx, hb, hml, hown, hts⟩ (c_X1_init l D q5 H.size) (cwI 0 hts gX3_init_X1_init rfl rfl rfl (hts (.initialized RX1) (by decide +kernel)) (hts (.methodLink RX3 11 yX1_init) (by decide +kernel)) (hts (.instanceMethod yX1_init) (by decide +kernel)) rfl hdI_X1_init ⟨Nat.le_of_ble_eq_true rfl, Nat.le_of_ble_eq_true rfl⟩) (sPSc hPc hDc hK) rfl rfl hl.1 rfl (Nat.le_of_ble_eq_true rfl) dX3_init_9 ⟨Nat.le_of_ble_eq_true rfl, Nat.le_of_ble_eq_true rfl⟩) hS (fun q _ h => hFc q h) hFc (fun u t H1 locs ht hvm hw hB hz1 hk1 hS => ?_)
  obtain ⟨hP1, hD1⟩ := hB
  rw [ht] at hP1
  obtain ⟨z9, rfl⟩ : ∃ z, z = u := ⟨_, rfl⟩
  obtain ⟨hP, hD⟩ := va_join (wr := [(h0, .inr (3, [.null, .null, .null, .null, .null, .int 0, .int 0, .int 0, .int 0]))]) (w1 := [(q5, .inr (1, [.ref z9])), (z9, .inl (D.2.1, 450, .inl snT))]) hP hD [1] [0] rfl rfl (by decide) (by decide) hk1 hFc hP1 hD1
  generalize H1 = H at hP hS ⊢
  have hP : va_P D.1 vwCl [(h0, .inr (3, [.null, .null, .null, .null, .null, .int 0, .int 0, .int 0, .int 0])), (q5, .inr (1, [.ref z9])), (z9, .inl (D.2.1, 450, .inl snT))] H := hP
  have hD : va_D A [(h0, .inr (3, [.null, .null, .null, .null, .null, .int 0, .int 0, .int 0, .int 0])), (q5, .inr (1, [.ref z9])), (z9, .inl (D.2.1, 450, .inl snT))] := hD
  refine W.widen (k := 2) (n := 451) (by omega) (by omega) ?_
  refine va_putF (D := D.1) (cl := vwCl) (ci := 3) (v := .ref q5) (ty := (.object "SailLog$Circle")) (C := RX3) (T := TX3) (N := 9) hx hb hts i3 tyX3 tyX3_ok nmX3 hown hK.1 hP hD hS 0 rfl rfl 0 (by decide) k12 (fun _ h9 => h9) rfl hin2 rfl (by decide +kernel) rfl rfl (Nat.le_of_ble_eq_true rfl) dX3_init_12 (fun H locs hP hD hS => ?_)
  have hP : va_P D.1 vwCl [(h0, .inr (3, [.ref q5, .null, .null, .null, .null, .int 0, .int 0, .int 0, .int 0])), (q5, .inr (1, [.ref z9])), (z9, .inl (D.2.1, 450, .inl snT))] H := hP
  have hD : va_D A [(h0, .inr (3, [.ref q5, .null, .null, .null, .null, .int 0, .int 0, .int 0, .int 0])), (q5, .inr (1, [.ref z9])), (z9, .inl (D.2.1, 450, .inl snT))] := hD
  refine lv_aload_n hx hb dX3_init_15 rfl (lv_at hl 0 rfl) ?_
  refine lv_bipush (v := 60) hx hb dX3_init_16 (by decide +kernel) ?_
  refine va_newq (D := D.1) (cl := vwCl) (tys := sTys D) (C := RX2) (n := 60) (N' := 60) hx hb hown (hts (.classLink RX3 16 RX2) (by decide +kernel)) hK.2.1.1 hK.1 hP hD hS hA (by decide) rfl (by omega) (Nat.le_of_ble_eq_true rfl) (Nat.le_of_ble_eq_true rfl) dX3_init_18 (fun q18 cA H hK1 hP hD hS => ?_)
  have ecA : cA = D.2.2.1 := Option.some.inj ((va_nmO (hK1.2 2 (cA, .object RX2) rfl).2 rfl).symm.trans (va_nmO (hK.1.2 1 (D.2.2.1, .object RX2) rfl).2 rfl))
  subst ecA
  have hP : va_P D.1 vwCl [(h0, .inr (3, [.ref q5, .null, .null, .null, .null, .int 0, .int 0, .int 0, .int 0])), (q5, .inr (1, [.ref z9])), (z9, .inl (D.2.1, 450, .inl snT)), (q18, .inl (D.2.2.1, 60, .inr (.inr (.inr (.inr (fun _ => none))))))] H := hP
  have hD : va_D A [(h0, .inr (3, [.ref q5, .null, .null, .null, .null, .int 0, .int 0, .int 0, .int 0])), (q5, .inr (1, [.ref z9])), (z9, .inl (D.2.1, 450, .inl snT)), (q18, .inl (D.2.2.1, 60, .inr (.inr (.inr (.inr (fun _ => none))))))] := hD
  refine W.widen (k := 3) (n := 511) (by omega) (by omega) ?_
  refine va_putF (D := D.1) (cl := vwCl) (ci := 3) (v := .ref q18) (ty := (.array (.object "SailLog$Entry"))) (C := RX3) (T := TX3) (N := 9) hx hb hts i3 tyX3 tyX3_ok nmX3 hown hK.1 hP hD hS 0 rfl rfl 1 (by decide) k18 (fun _ h9 => h9) rfl hin2 rfl (by decide +kernel) rfl rfl (Nat.le_of_ble_eq_true rfl) dX3_init_21 (fun H locs hP hD hS => ?_)
  have hP : va_P D.1 vwCl [(h0, .inr (3, [.ref q5, .ref q18, .null, .null, .null, .int 0, .int 0, .int 0, .int 0])), (q5, .inr (1, [.ref z9])), (z9, .inl (D.2.1, 450, .inl snT)), (q18, .inl (D.2.2.1, 60, .inr (.inr (.inr (.inr (fun _ => none))))))] H := hP
  have hD : va_D A [(h0, .inr (3, [.ref q5, .ref q18, .null, .null, .null, .int 0, .int 0, .int 0, .int 0])), (q5, .inr (1, [.ref z9])), (z9, .inl (D.2.1, 450, .inl snT)), (q18, .inl (D.2.2.1, 60, .inr (.inr (.inr (.inr (fun _ => none))))))] := hD
  refine lv_iconst (v := 0) hx hb dX3_init_24 (by decide +kernel) ?_
  rw [sFk_0 (fun _ => 0)] at hP hD
  refine lv_istore_n (lv' := [(1, .int 0), (0, .ref h0)]) hx hb dX3_init_25 rfl hl (by decide) rfl (fun ls hl => ?_)
  have loop26 : ∀ (fuel k : Nat) (en : Nat → Nat) (hk : k ≤ 60) (hfu : 61 ≤ k + fuel) (H : Heap) (locs : List Loc) (hP : va_P D.1 vwCl ([(h0, .inr (3, [.ref q5, .ref q18, .null, .null, .null, .int 0, .int 0, .int 0, .int 0])), (q5, .inr (1, [.ref z9])), (z9, .inl (D.2.1, 450, .inl snT)), (q18, .inl (D.2.2.1, 60, .inr (.inr (.inr (.inr (sFk en k))))))] ++ sPool en k) H) (hD : va_D A ([(h0, .inr (3, [.ref q5, .ref q18, .null, .null, .null, .int 0, .int 0, .int 0, .int 0])), (q5, .inr (1, [.ref z9])), (z9, .inl (D.2.1, 450, .inl snT)), (q18, .inl (D.2.2.1, 60, .inr (.inr (.inr (.inr (sFk en k))))))] ++ sPool en k)) (hS : va_S A s.heap H locs) (ls : Array Slot), lv_has ls 2 [(0, .ref h0), (1, .int (nI k))] → W p l e ({ frames := 2, cells := 67, slots := 1290, locals := 35 } : Room) s m ([.ref h0] : List Value).toArray below meth c H locs (3 + k) (511 + 9 * k) (MQ below (va_Qv (S := (Nat → Nat)) (fun _ => True) (fun u t => u 0 = h0 ∧ va_P D.1 vwCl (CW D u κ0) t.heap ∧ va_D A (CW D u κ0)) A) ([.ref h0] : List Value).toArray s 67 1290 A) (F0 m 26 ls []) := by
    intro fuel
    induction fuel with
    | zero => intro k en hk hfu H locs hP hD hS ls hl; exact absurd hfu (by omega)
    | succ fuel ih =>
      intro k en hk hfu H locs hP hD hS ls hl
      refine lv_iload_n hx hb dX3_init_26 rfl (lv_at hl 1 rfl) ?_
      refine lv_bipush (v := 60) hx hb dX3_init_27 (by decide +kernel) ?_
      refine lv_icmp_ge (tgt := 51) hx hb dX3_init_29 (by decide) (fun c29 => ?_) (fun c29 => ?_)
      ·
        have hk60 : k = 60 := by have := (nI_leI (a := 60) (b := k) (by omega) (by omega)).mp c29; omega
        subst hk60
        refine W.widen (k := 63) (n := 1051) (by omega) (by omega) ?_
        refine lv_aload_n hx hb dX3_init_51 rfl (lv_at hl 0 rfl) ?_
        refine va_new (D := D.1) (cl := vwCl) (ci := 0) (fs := [.null]) (C := RX0) (T := TX0) (N := 1) hx hb hts i0 tyX0 tyX0_ok hown (hts (.classLink RX3 23 RX0) (by decide +kernel)) (hts (.instantiable RX0 1) (by decide +kernel)) (hts (.initialized RX0) (by decide +kernel)) hK.1 hP hD hS hA rfl (def_X0) (Nat.le_of_ble_eq_true rfl) (Nat.le_of_ble_eq_true rfl) dX3_init_52 (fun q52 H hP hD hS => ?_)
        have hP := va_P.swap (a := [(h0, .inr (3, [.ref q5, .ref q18, .null, .null, .null, .int 0, .int 0, .int 0, .int 0])), (q5, .inr (1, [.ref z9])), (z9, .inl (D.2.1, 450, .inl snT)), (q18, .inl (D.2.2.1, 60, .inr (.inr (.inr (.inr (sFk en 60))))))]) (b := (sPool en 60)) (c := [(q52, .inr (0, [.null]))]) hP
        have hD := va_D.swap (a := [(h0, .inr (3, [.ref q5, .ref q18, .null, .null, .null, .int 0, .int 0, .int 0, .int 0])), (q5, .inr (1, [.ref z9])), (z9, .inl (D.2.1, 450, .inl snT)), (q18, .inl (D.2.2.1, 60, .inr (.inr (.inr (.inr (sFk en 60))))))]) (b := (sPool en 60)) (c := [(q52, .inr (0, [.null]))]) hD
        have hP : va_P D.1 vwCl ([(h0, .inr (3, [.ref q5, .ref q18, .null, .null, .null, .int 0, .int 0, .int 0, .int 0])), (q5, .inr (1, [.ref z9])), (z9, .inl (D.2.1, 450, .inl snT)), (q18, .inl (D.2.2.1, 60, .inr (.inr (.inr (.inr (sFk en 60)))))), (q52, .inr (0, [.null]))] ++ (sPool en 60)) H := hP
        have hD : va_D A ([(h0, .inr (3, [.ref q5, .ref q18, .null, .null, .null, .int 0, .int 0, .int 0, .int 0])), (q5, .inr (1, [.ref z9])), (z9, .inl (D.2.1, 450, .inl snT)), (q18, .inl (D.2.2.1, 60, .inr (.inr (.inr (.inr (sFk en 60)))))), (q52, .inr (0, [.null]))] ++ (sPool en 60)) := hD
        refine W.widen (k := 64) (n := 1052) (by omega) (by omega) ?_
        refine lv_dup hx hb dX3_init_55 rfl ?_
        have hPc := hP.sub (ws' := [(q52, .inr (0, [.null]))]) [4] rfl
        have hDc := hD.sub (ws' := [(q52, .inr (0, [.null]))]) [4] (by decide) rfl
        have hFc := va_free (wc := [(q52, .inr (0, [.null]))]) hD hS hA [4] rfl
        refine va_callv (va_runIN (As := []) (rest := [.ref q52, .ref h0]) ⟨hx, hb, hml, hown, hts⟩ (c_X0_init l D q52 H.size) ⟨va_cnB (host := RX3) 0 hts gX3_init_X0_init_n25 rfl rfl rfl (hK.2.1.2.2.1) (hts (.initialized RX0) (by decide +kernel)) hdI_X0_init ⟨Nat.le_of_ble_eq_true rfl, Nat.le_of_ble_eq_true rfl⟩, rfl, (hts (.instanceMethod yX0_init) (by decide +kernel))⟩ (sPSc hPc hDc hK) rfl rfl hl.1 rfl (Nat.le_of_ble_eq_true rfl) dX3_init_56 ⟨Nat.le_of_ble_eq_true rfl, Nat.le_of_ble_eq_true rfl⟩) hS (fun q _ h => hFc q h) hFc (fun u t H1 locs ht hvm hw hB hz1 hk1 hS => ?_)
        obtain ⟨hP1, hD1⟩ := hB
        rw [ht] at hP1
        obtain ⟨z56, rfl⟩ : ∃ z, z = u := ⟨_, rfl⟩
        obtain ⟨hP, hD⟩ := va_joinQ (X := [(h0, .inr (3, [.ref q5, .ref q18, .null, .null, .null, .int 0, .int 0, .int 0, .int 0])), (q5, .inr (1, [.ref z9])), (z9, .inl (D.2.1, 450, .inl snT)), (q18, .inl (D.2.2.1, 60, .inr (.inr (.inr (.inr (sFk en 60)))))), (q52, .inr (0, [.null]))]) (pl := (sPool en 60)) (wr := [(h0, .inr (3, [.ref q5, .ref q18, .null, .null, .null, .int 0, .int 0, .int 0, .int 0])), (q5, .inr (1, [.ref z9])), (z9, .inl (D.2.1, 450, .inl snT)), (q18, .inl (D.2.2.1, 60, .inr (.inr (.inr (.inr (sFk en 60))))))]) (w1 := [(q52, .inr (0, [.ref z56])), (z56, .inl (D.2.1, 190, .inl (fun _ => 0)))]) hP hD [4] [0, 1, 2, 3] rfl rfl (by decide) (by decide) hk1 hFc hP1 hD1
        generalize H1 = H at hP hS ⊢
        have hP : va_P D.1 vwCl ([(h0, .inr (3, [.ref q5, .ref q18, .null, .null, .null, .int 0, .int 0, .int 0, .int 0])), (q5, .inr (1, [.ref z9])), (z9, .inl (D.2.1, 450, .inl snT)), (q18, .inl (D.2.2.1, 60, .inr (.inr (.inr (.inr (sFk en 60)))))), (q52, .inr (0, [.ref z56])), (z56, .inl (D.2.1, 190, .inl (fun _ => 0)))] ++ (sPool en 60)) H := hP
        have hD : va_D A ([(h0, .inr (3, [.ref q5, .ref q18, .null, .null, .null, .int 0, .int 0, .int 0, .int 0])), (q5, .inr (1, [.ref z9])), (z9, .inl (D.2.1, 450, .inl snT)), (q18, .inl (D.2.2.1, 60, .inr (.inr (.inr (.inr (sFk en 60)))))), (q52, .inr (0, [.ref z56])), (z56, .inl (D.2.1, 190, .inl (fun _ => 0)))] ++ (sPool en 60)) := hD
        refine W.widen (k := 65) (n := 1242) (by omega) (by omega) ?_
        refine va_putF (D := D.1) (cl := vwCl) (ci := 3) (v := .ref q52) (ty := (.object "SailLog$BestSpeeds")) (C := RX3) (T := TX3) (N := 9) hx hb hts i3 tyX3 tyX3_ok nmX3 hown hK.1 hP hD hS 0 rfl rfl 2 (by decide) k26 (fun _ h9 => h9) rfl hin2 rfl (by decide +kernel) rfl rfl (Nat.le_of_ble_eq_true rfl) dX3_init_59 (fun H locs hP hD hS => ?_)
        have hP : va_P D.1 vwCl ([(h0, .inr (3, [.ref q5, .ref q18, .ref q52, .null, .null, .int 0, .int 0, .int 0, .int 0])), (q5, .inr (1, [.ref z9])), (z9, .inl (D.2.1, 450, .inl snT)), (q18, .inl (D.2.2.1, 60, .inr (.inr (.inr (.inr (sFk en 60)))))), (q52, .inr (0, [.ref z56])), (z56, .inl (D.2.1, 190, .inl (fun _ => 0)))] ++ (sPool en 60)) H := hP
        have hD : va_D A ([(h0, .inr (3, [.ref q5, .ref q18, .ref q52, .null, .null, .int 0, .int 0, .int 0, .int 0])), (q5, .inr (1, [.ref z9])), (z9, .inl (D.2.1, 450, .inl snT)), (q18, .inl (D.2.2.1, 60, .inr (.inr (.inr (.inr (sFk en 60)))))), (q52, .inr (0, [.ref z56])), (z56, .inl (D.2.1, 190, .inl (fun _ => 0)))] ++ (sPool en 60)) := hD
        refine lv_aload_n hx hb dX3_init_62 rfl (lv_at hl 0 rfl) ?_
        refine lv_bipush (v := 24) hx hb dX3_init_63 (by decide +kernel) ?_
        refine s_newI (N := 24) hx hb karr hK hP hD hS hA rfl (by omega) (Nat.le_of_ble_eq_true rfl) (Nat.le_of_ble_eq_true rfl) dX3_init_65 (fun q65 H hP hD hS => ?_)
        have hP := va_P.swap (a := [(h0, .inr (3, [.ref q5, .ref q18, .ref q52, .null, .null, .int 0, .int 0, .int 0, .int 0])), (q5, .inr (1, [.ref z9])), (z9, .inl (D.2.1, 450, .inl snT)), (q18, .inl (D.2.2.1, 60, .inr (.inr (.inr (.inr (sFk en 60)))))), (q52, .inr (0, [.ref z56])), (z56, .inl (D.2.1, 190, .inl (fun _ => 0)))]) (b := (sPool en 60)) (c := [(q65, .inl (D.2.1, 24, .inl (fun _ => 0)))]) hP
        have hD := va_D.swap (a := [(h0, .inr (3, [.ref q5, .ref q18, .ref q52, .null, .null, .int 0, .int 0, .int 0, .int 0])), (q5, .inr (1, [.ref z9])), (z9, .inl (D.2.1, 450, .inl snT)), (q18, .inl (D.2.2.1, 60, .inr (.inr (.inr (.inr (sFk en 60)))))), (q52, .inr (0, [.ref z56])), (z56, .inl (D.2.1, 190, .inl (fun _ => 0)))]) (b := (sPool en 60)) (c := [(q65, .inl (D.2.1, 24, .inl (fun _ => 0)))]) hD
        have hP : va_P D.1 vwCl ([(h0, .inr (3, [.ref q5, .ref q18, .ref q52, .null, .null, .int 0, .int 0, .int 0, .int 0])), (q5, .inr (1, [.ref z9])), (z9, .inl (D.2.1, 450, .inl snT)), (q18, .inl (D.2.2.1, 60, .inr (.inr (.inr (.inr (sFk en 60)))))), (q52, .inr (0, [.ref z56])), (z56, .inl (D.2.1, 190, .inl (fun _ => 0))), (q65, .inl (D.2.1, 24, .inl (fun _ => 0)))] ++ (sPool en 60)) H := hP
        have hD : va_D A ([(h0, .inr (3, [.ref q5, .ref q18, .ref q52, .null, .null, .int 0, .int 0, .int 0, .int 0])), (q5, .inr (1, [.ref z9])), (z9, .inl (D.2.1, 450, .inl snT)), (q18, .inl (D.2.2.1, 60, .inr (.inr (.inr (.inr (sFk en 60)))))), (q52, .inr (0, [.ref z56])), (z56, .inl (D.2.1, 190, .inl (fun _ => 0))), (q65, .inl (D.2.1, 24, .inl (fun _ => 0)))] ++ (sPool en 60)) := hD
        refine W.widen (k := 66) (n := 1266) (by omega) (by omega) ?_
        refine va_putF (D := D.1) (cl := vwCl) (ci := 3) (v := .ref q65) (ty := (.array .int)) (C := RX3) (T := TX3) (N := 9) hx hb hts i3 tyX3 tyX3_ok nmX3 hown hK.1 hP hD hS 0 rfl rfl 3 (by decide) k30 (fun _ h9 => h9) rfl hin2 rfl (by decide +kernel) rfl rfl (Nat.le_of_ble_eq_true rfl) dX3_init_67 (fun H locs hP hD hS => ?_)
        have hP : va_P D.1 vwCl ([(h0, .inr (3, [.ref q5, .ref q18, .ref q52, .ref q65, .null, .int 0, .int 0, .int 0, .int 0])), (q5, .inr (1, [.ref z9])), (z9, .inl (D.2.1, 450, .inl snT)), (q18, .inl (D.2.2.1, 60, .inr (.inr (.inr (.inr (sFk en 60)))))), (q52, .inr (0, [.ref z56])), (z56, .inl (D.2.1, 190, .inl (fun _ => 0))), (q65, .inl (D.2.1, 24, .inl (fun _ => 0)))] ++ (sPool en 60)) H := hP
        have hD : va_D A ([(h0, .inr (3, [.ref q5, .ref q18, .ref q52, .ref q65, .null, .int 0, .int 0, .int 0, .int 0])), (q5, .inr (1, [.ref z9])), (z9, .inl (D.2.1, 450, .inl snT)), (q18, .inl (D.2.2.1, 60, .inr (.inr (.inr (.inr (sFk en 60)))))), (q52, .inr (0, [.ref z56])), (z56, .inl (D.2.1, 190, .inl (fun _ => 0))), (q65, .inl (D.2.1, 24, .inl (fun _ => 0)))] ++ (sPool en 60)) := hD
        refine lv_aload_n hx hb dX3_init_70 rfl (lv_at hl 0 rfl) ?_
        refine lv_bipush (v := 24) hx hb dX3_init_71 (by decide +kernel) ?_
        refine s_newI (N := 24) hx hb karr hK hP hD hS hA rfl (by omega) (Nat.le_of_ble_eq_true rfl) (Nat.le_of_ble_eq_true rfl) dX3_init_73 (fun q73 H hP hD hS => ?_)
        have hP := va_P.swap (a := [(h0, .inr (3, [.ref q5, .ref q18, .ref q52, .ref q65, .null, .int 0, .int 0, .int 0, .int 0])), (q5, .inr (1, [.ref z9])), (z9, .inl (D.2.1, 450, .inl snT)), (q18, .inl (D.2.2.1, 60, .inr (.inr (.inr (.inr (sFk en 60)))))), (q52, .inr (0, [.ref z56])), (z56, .inl (D.2.1, 190, .inl (fun _ => 0))), (q65, .inl (D.2.1, 24, .inl (fun _ => 0)))]) (b := (sPool en 60)) (c := [(q73, .inl (D.2.1, 24, .inl (fun _ => 0)))]) hP
        have hD := va_D.swap (a := [(h0, .inr (3, [.ref q5, .ref q18, .ref q52, .ref q65, .null, .int 0, .int 0, .int 0, .int 0])), (q5, .inr (1, [.ref z9])), (z9, .inl (D.2.1, 450, .inl snT)), (q18, .inl (D.2.2.1, 60, .inr (.inr (.inr (.inr (sFk en 60)))))), (q52, .inr (0, [.ref z56])), (z56, .inl (D.2.1, 190, .inl (fun _ => 0))), (q65, .inl (D.2.1, 24, .inl (fun _ => 0)))]) (b := (sPool en 60)) (c := [(q73, .inl (D.2.1, 24, .inl (fun _ => 0)))]) hD
        have hP : va_P D.1 vwCl ([(h0, .inr (3, [.ref q5, .ref q18, .ref q52, .ref q65, .null, .int 0, .int 0, .int 0, .int 0])), (q5, .inr (1, [.ref z9])), (z9, .inl (D.2.1, 450, .inl snT)), (q18, .inl (D.2.2.1, 60, .inr (.inr (.inr (.inr (sFk en 60)))))), (q52, .inr (0, [.ref z56])), (z56, .inl (D.2.1, 190, .inl (fun _ => 0))), (q65, .inl (D.2.1, 24, .inl (fun _ => 0))), (q73, .inl (D.2.1, 24, .inl (fun _ => 0)))] ++ (sPool en 60)) H := hP
        have hD : va_D A ([(h0, .inr (3, [.ref q5, .ref q18, .ref q52, .ref q65, .null, .int 0, .int 0, .int 0, .int 0])), (q5, .inr (1, [.ref z9])), (z9, .inl (D.2.1, 450, .inl snT)), (q18, .inl (D.2.2.1, 60, .inr (.inr (.inr (.inr (sFk en 60)))))), (q52, .inr (0, [.ref z56])), (z56, .inl (D.2.1, 190, .inl (fun _ => 0))), (q65, .inl (D.2.1, 24, .inl (fun _ => 0))), (q73, .inl (D.2.1, 24, .inl (fun _ => 0)))] ++ (sPool en 60)) := hD
        refine W.widen (k := 67) (n := 1290) (by omega) (by omega) ?_
        refine va_putF (D := D.1) (cl := vwCl) (ci := 3) (v := .ref q73) (ty := (.array .int)) (C := RX3) (T := TX3) (N := 9) hx hb hts i3 tyX3 tyX3_ok nmX3 hown hK.1 hP hD hS 0 rfl rfl 4 (by decide) k34 (fun _ h9 => h9) rfl hin2 rfl (by decide +kernel) rfl rfl (Nat.le_of_ble_eq_true rfl) dX3_init_75 (fun H locs hP hD hS => ?_)
        have hP : va_P D.1 vwCl ([(h0, .inr (3, [.ref q5, .ref q18, .ref q52, .ref q65, .ref q73, .int 0, .int 0, .int 0, .int 0])), (q5, .inr (1, [.ref z9])), (z9, .inl (D.2.1, 450, .inl snT)), (q18, .inl (D.2.2.1, 60, .inr (.inr (.inr (.inr (sFk en 60)))))), (q52, .inr (0, [.ref z56])), (z56, .inl (D.2.1, 190, .inl (fun _ => 0))), (q65, .inl (D.2.1, 24, .inl (fun _ => 0))), (q73, .inl (D.2.1, 24, .inl (fun _ => 0)))] ++ (sPool en 60)) H := hP
        have hD : va_D A ([(h0, .inr (3, [.ref q5, .ref q18, .ref q52, .ref q65, .ref q73, .int 0, .int 0, .int 0, .int 0])), (q5, .inr (1, [.ref z9])), (z9, .inl (D.2.1, 450, .inl snT)), (q18, .inl (D.2.2.1, 60, .inr (.inr (.inr (.inr (sFk en 60)))))), (q52, .inr (0, [.ref z56])), (z56, .inl (D.2.1, 190, .inl (fun _ => 0))), (q65, .inl (D.2.1, 24, .inl (fun _ => 0))), (q73, .inl (D.2.1, 24, .inl (fun _ => 0)))] ++ (sPool en 60)) := hD
        refine lv_aload_n hx hb dX3_init_78 rfl (lv_at hl 0 rfl) ?_
        refine lv_sipush (v := 1000) hx hb dX3_init_79 (by decide +kernel) ?_
        refine va_put (D := D.1) (cl := vwCl) (ci := 3) (v := .int 1000) (ty := .int) (C := RX3) (T := TX3) (N := 9) hx hb hts i3 tyX3 tyX3_ok nmX3 hown hK.1 hP hD hS 0 rfl rfl 6 (by decide) k37 (fun _ h9 => h9) rfl (by decide +kernel) rfl rfl (Nat.le_of_ble_eq_true rfl) dX3_init_82 (fun H locs hP hD hS => ?_)
        have hP : va_P D.1 vwCl ([(h0, .inr (3, [.ref q5, .ref q18, .ref q52, .ref q65, .ref q73, .int 0, .int 1000, .int 0, .int 0])), (q5, .inr (1, [.ref z9])), (z9, .inl (D.2.1, 450, .inl snT)), (q18, .inl (D.2.2.1, 60, .inr (.inr (.inr (.inr (sFk en 60)))))), (q52, .inr (0, [.ref z56])), (z56, .inl (D.2.1, 190, .inl (fun _ => 0))), (q65, .inl (D.2.1, 24, .inl (fun _ => 0))), (q73, .inl (D.2.1, 24, .inl (fun _ => 0)))] ++ (sPool en 60)) H := hP
        have hD : va_D A ([(h0, .inr (3, [.ref q5, .ref q18, .ref q52, .ref q65, .ref q73, .int 0, .int 1000, .int 0, .int 0])), (q5, .inr (1, [.ref z9])), (z9, .inl (D.2.1, 450, .inl snT)), (q18, .inl (D.2.2.1, 60, .inr (.inr (.inr (.inr (sFk en 60)))))), (q52, .inr (0, [.ref z56])), (z56, .inl (D.2.1, 190, .inl (fun _ => 0))), (q65, .inl (D.2.1, 24, .inl (fun _ => 0))), (q73, .inl (D.2.1, 24, .inl (fun _ => 0)))] ++ (sPool en 60)) := hD
        have hP := arr_extq (k := 3) hP rfl (g := fun k => some (en k)) (fun j hj => by unfold sFk; rw [if_pos hj])
        have hD := hD.set (p := 3) (e := .inl (D.2.2.1, 60, .inr (.inr (.inr (.inr (fun k => some (en k))))))) rfl
        have hP : va_P D.1 vwCl (CW D (sU h0 q5 z9 q18 q52 z56 q65 q73 en) κ0) H := by rw [CW_new]; exact hP
        have hD : va_D A (CW D (sU h0 q5 z9 q18 q52 z56 q65 q73 en) κ0) := by rw [CW_new]; exact hD
        refine W.widen (k := 67) (n := 1290) (by omega) (by omega) ?_
        exact W.vret hx hb hr (fun t ht hW => ⟨⟨(sU h0 q5 z9 q18 q52 z56 q65 q73 en), rfl, trivial, rfl, (show va_P D.1 vwCl _ t.heap by rw [ht]; exact hP), hD⟩, hS.F ht⟩) hS.2.2 dX3_init_85 hlk
      ·
        have hk2 : k < 60 := by have := mt (nI_leI (a := 60) (b := k) (by omega) (by omega)).mpr c29; omega
        refine lv_aload_n hx hb dX3_init_32 rfl (lv_at hl 0 rfl) ?_
        refine va_get (D := D.1) (cl := vwCl) (ci := 3) (v := .ref q18) (C := RX3) (T := TX3) (N := 9) hx hb hts i3 hown hK.1 hP 0 rfl rfl 1 (by decide) k18 (fun _ h9 => h9) rfl dX3_init_33 ?_
        refine lv_iload_n hx hb dX3_init_36 rfl (lv_at hl 1 rfl) ?_
        refine va_new (D := D.1) (cl := vwCl) (ci := 2) (fs := [.int 0, .int 0, .int 0, .int 0, .int 0, .int 0, .int 0, .int 0, .int 0]) (C := RX2) (T := TX2) (N := 9) hx hb hts i2 tyX2 tyX2_ok hown (hts (.classLink RX3 16 RX2) (by decide +kernel)) (hts (.instantiable RX2 9) (by decide +kernel)) (hts (.initialized RX2) (by decide +kernel)) hK.1 hP hD hS hA rfl def_X2 (by show 3 + k + 1 ≤ 67; omega) (by show 511 + 9 * k + 9 ≤ 1290; omega) dX3_init_37 (fun q37 H hP hD hS => ?_)
        refine lv_dup hx hb dX3_init_40 rfl ?_
        refine s_cvI (As := []) (rest := [.ref q37, .int (nI k), .ref q18]) ⟨hx, hb, hml, hown, hts⟩ (c_X2_init l q37) ⟨va_cnB (host := RX3) 0 hts gX3_init_X2_init_n22 rfl rfl rfl (hK.2.1.2.1) (hts (.initialized RX2) (by decide +kernel)) hdI_X2_init ⟨Nat.le_of_ble_eq_true rfl, Nat.le_of_ble_eq_true rfl⟩, rfl, (hts (.instanceMethod yX2_init) (by decide +kernel))⟩ (sPS0 (As := [.ref q37])) rfl hl.1 rfl (Nat.le_of_ble_eq_true rfl) dX3_init_41 ⟨by show 3 + k + 1 ≤ 67; omega, by show 511 + 9 * k + 9 ≤ 1290; omega⟩ ?_
        refine va_astq (D := D.1) (cl := vwCl) (tys := sTys D) hx hb hK.1 hP hD hS 3 1 (4 + k) 2 rfl rfl (sPool_at _ _ _ _ en k (q37, _)) rfl (vp_in_nI hk2 (by omega)) dX3_init_44 (fun H locs hP hD hS => ?_)
        rw [nI_clamp (by omega), sPool_step] at hP hD
        refine lv_iinc (v := nI (k + 1)) (lv' := [(1, .int (nI (k + 1))), (0, .ref h0)]) hx hb dX3_init_45 hl (k := 1) rfl (nI_1 k) (by decide) rfl (fun ls hl => ?_)
        refine lv_goto (tgt := 26) hx hb dX3_init_48 (by decide) ?_
        refine W.widen (k := 3 + (k + 1)) (n := 511 + 9 * (k + 1)) (by omega) (by omega) ?_
        exact ih (k + 1) (va_up en k q37) (by omega) (by omega) H locs hP hD hS _ (lv_sub hl [1, 0] rfl)
  exact loop26 61 0 (fun _ => 0) (by omega) (by omega) _ _ hP hD hS _ (lv_sub hl [1, 0] rfl)
end SCtor3

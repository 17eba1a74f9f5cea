/-! ===== the law's cases ===== -/
section SHd
theorem hdS_L_log : yL_log.cls ≠ "java/lang/invoke/MethodHandle" ∧ yL_log.cls ≠ "java/lang/invoke/VarHandle" ∧ (parseMethodDescriptor yL_log.desc).map (fun d => d.parameters.length) = some 7 := by decide +kernel
theorem hdS_L_setFaults : yL_setFaults.cls ≠ "java/lang/invoke/MethodHandle" ∧ yL_setFaults.cls ≠ "java/lang/invoke/VarHandle" ∧ (parseMethodDescriptor yL_setFaults.desc).map (fun d => d.parameters.length) = some 5 := by decide +kernel
theorem hdS_L_setTide : yL_setTide.cls ≠ "java/lang/invoke/MethodHandle" ∧ yL_setTide.cls ≠ "java/lang/invoke/VarHandle" ∧ (parseMethodDescriptor yL_setTide.desc).map (fun d => d.parameters.length) = some 5 := by decide +kernel
theorem hdS_L_speed : yL_speed.cls ≠ "java/lang/invoke/MethodHandle" ∧ yL_speed.cls ≠ "java/lang/invoke/VarHandle" ∧ (parseMethodDescriptor yL_speed.desc).map (fun d => d.parameters.length) = some 3 := by decide +kernel
theorem hdS_L_strength : yL_strength.cls ≠ "java/lang/invoke/MethodHandle" ∧ yL_strength.cls ≠ "java/lang/invoke/VarHandle" ∧ (parseMethodDescriptor yL_strength.desc).map (fun d => d.parameters.length) = some 3 := by decide +kernel
theorem hdS_L_angle : yL_angle.cls ≠ "java/lang/invoke/MethodHandle" ∧ yL_angle.cls ≠ "java/lang/invoke/VarHandle" ∧ (parseMethodDescriptor yL_angle.desc).map (fun d => d.parameters.length) = some 3 := by decide +kernel
theorem hdS_L_from : yL_from.cls ≠ "java/lang/invoke/MethodHandle" ∧ yL_from.cls ≠ "java/lang/invoke/VarHandle" ∧ (parseMethodDescriptor yL_from.desc).map (fun d => d.parameters.length) = some 3 := by decide +kernel
theorem hdS_L_side : yL_side.cls ≠ "java/lang/invoke/MethodHandle" ∧ yL_side.cls ≠ "java/lang/invoke/VarHandle" ∧ (parseMethodDescriptor yL_side.desc).map (fun d => d.parameters.length) = some 3 := by decide +kernel
theorem hdS_L_best : yL_best.cls ≠ "java/lang/invoke/MethodHandle" ∧ yL_best.cls ≠ "java/lang/invoke/VarHandle" ∧ (parseMethodDescriptor yL_best.desc).map (fun d => d.parameters.length) = some 4 := by decide +kernel
theorem hdS_L_bestByLog : yL_bestByLog.cls ≠ "java/lang/invoke/MethodHandle" ∧ yL_bestByLog.cls ≠ "java/lang/invoke/VarHandle" ∧ (parseMethodDescriptor yL_bestByLog.desc).map (fun d => d.parameters.length) = some 4 := by decide +kernel
theorem hdS_L_bestUp : yL_bestUp.cls ≠ "java/lang/invoke/MethodHandle" ∧ yL_bestUp.cls ≠ "java/lang/invoke/VarHandle" ∧ (parseMethodDescriptor yL_bestUp.desc).map (fun d => d.parameters.length) = some 3 := by decide +kernel
theorem hdS_L_bestDown : yL_bestDown.cls ≠ "java/lang/invoke/MethodHandle" ∧ yL_bestDown.cls ≠ "java/lang/invoke/VarHandle" ∧ (parseMethodDescriptor yL_bestDown.desc).map (fun d => d.parameters.length) = some 3 := by decide +kernel
theorem hdS_L_bestCourse : yL_bestCourse.cls ≠ "java/lang/invoke/MethodHandle" ∧ yL_bestCourse.cls ≠ "java/lang/invoke/VarHandle" ∧ (parseMethodDescriptor yL_bestCourse.desc).map (fun d => d.parameters.length) = some 5 := by decide +kernel
theorem hdS_L_turn : yL_turn.cls ≠ "java/lang/invoke/MethodHandle" ∧ yL_turn.cls ≠ "java/lang/invoke/VarHandle" ∧ (parseMethodDescriptor yL_turn.desc).map (fun d => d.parameters.length) = some 3 := by decide +kernel
theorem hdS_L_cost : yL_cost.cls ≠ "java/lang/invoke/MethodHandle" ∧ yL_cost.cls ≠ "java/lang/invoke/VarHandle" ∧ (parseMethodDescriptor yL_cost.desc).map (fun d => d.parameters.length) = some 3 := by decide +kernel
theorem hdS_L_costs : yL_costs.cls ≠ "java/lang/invoke/MethodHandle" ∧ yL_costs.cls ≠ "java/lang/invoke/VarHandle" ∧ (parseMethodDescriptor yL_costs.desc).map (fun d => d.parameters.length) = some 3 := by decide +kernel
theorem hdS_L_east : yL_east.cls ≠ "java/lang/invoke/MethodHandle" ∧ yL_east.cls ≠ "java/lang/invoke/VarHandle" ∧ (parseMethodDescriptor yL_east.desc).map (fun d => d.parameters.length) = some 3 := by decide +kernel
theorem hdS_L_north : yL_north.cls ≠ "java/lang/invoke/MethodHandle" ∧ yL_north.cls ≠ "java/lang/invoke/VarHandle" ∧ (parseMethodDescriptor yL_north.desc).map (fun d => d.parameters.length) = some 3 := by decide +kernel
end SHd
section SCases
variable {p : Program} {l : Launch} {e : Env} {s : State} {m : MethodId} {below : List Frame} {meth : Method} {c : Code} {b L i n C S : Nat} {xs : Nat → Int32} {D : sD} {ad md : Nat → Nat} {κ τ : sQ} {f : Nat → Int64} {rf : Int32} {H : Heap} {locs : List Loc} {ls : Array Slot}
set_option maxRecDepth 100000 in
set_option maxHeartbeats 4000000 in
theorem lc_log (hflags : l.flags = flags0) (hL : L ≤ 3072) (C0 : lw_At p s m meth c b L xs) (hi : i + 6 ≤ L) (hC : C ≤ 10000) (hSl : S ≤ 100000) (hN : lgN p l e s m below meth c b D ad md i C S) (hJ : sJ D s.heap.size (OW D ad κ f ++ MW D md rf τ) s H) (hS : va_S (fun q : Nat => s.heap.size ≤ q) s.heap H locs) (hR : sRel κ τ n) (hl : lv_has ls 7 [(0, .ref b), (1, .ref (ad 0)), (2, .ref (md 0)), (3, .ref (ad 68)), (4, .int (nI i))]) : W p l e room_1 s m #[Value.ref b] below meth c H locs C S (lw_Z below #[Value.ref b] s) (F0 m 140 ls []) := by
  obtain ⟨hx, hb, hr, hml, hown, hts0, hX, hbl, hlk, hgv⟩ := C0
  have hts : ∀ w ∈ wsL_law, w.before #[Value.ref b] s = true := fun w h => hts0 w (wsL_law_in w h)
  have hown : s.vm.findClass RL = some m.cls := hown
  have hbA : ¬ (fun q : Nat => s.heap.size ≤ q) b := Nat.not_le.mpr hbl
  refine lv_aload_n hx hb dL_law_140 rfl (lv_at hl 1 rfl) ?_
  refine l_arg (b := b) (L := L) (i := i) (k := 1) (xs := xs) hx hb hX hbl hbA hS hl 0 4 rfl rfl (by decide +kernel) (by omega) (by omega) dL_law_141 dL_law_142 dL_law_144 dL_law_145 dL_law_146 ?_
  refine l_arg (b := b) (L := L) (i := i) (k := 2) (xs := xs) hx hb hX hbl hbA hS hl 0 4 rfl rfl (by decide +kernel) (by omega) (by omega) dL_law_147 dL_law_148 dL_law_150 dL_law_151 dL_law_152 ?_
  refine l_arg (b := b) (L := L) (i := i) (k := 3) (xs := xs) hx hb hX hbl hbA hS hl 0 4 rfl rfl (by decide +kernel) (by omega) (by omega) dL_law_153 dL_law_154 dL_law_156 dL_law_157 dL_law_158 ?_
  refine l_arg (b := b) (L := L) (i := i) (k := 4) (xs := xs) hx hb hX hbl hbA hS hl 0 4 rfl rfl (by decide +kernel) (by omega) (by omega) dL_law_159 dL_law_160 dL_law_162 dL_law_163 dL_law_164 ?_
  refine l_arg (b := b) (L := L) (i := i) (k := 5) (xs := xs) hx hb hX hbl hbA hS hl 0 4 rfl rfl (by decide +kernel) (by omega) (by omega) dL_law_165 dL_law_166 dL_law_168 dL_law_169 dL_law_170 ?_
  refine lv_aload_n hx hb dL_law_171 rfl (lv_at hl 3 rfl) ?_
  refine l_help (vx_runSX (hh := [(0, 16, 19, 13), (0, 16, 23, 15)]) (As := [.ref (ad 0), .int (xs (i + 1)), .int (xs (i + 2)), .int (xs (i + 3)), .int (xs (i + 4)), .int (xs (i + 5)), .ref (ad 68)]) (rest := []) ⟨hx, hb, hml, hown, hts⟩ (h_log l hflags D s.heap.size ad κ f H.size (xs (i + 1)) (xs (i + 2)) (xs (i + 3)) (xs (i + 4)) (xs (i + 5)) n hR.1.2.1 hR.1.1 (rel_fa hR)) (vx_cwSW 7 hts gL_law_L_log rfl rfl rfl hdS_L_log ⟨Nat.le_of_ble_eq_true rfl, Nat.le_of_ble_eq_true rfl⟩) (sPSz hJ.left) rfl rfl hl.1 rfl (lv_room (Nat.le_of_ble_eq_true rfl)) dL_law_172 ⟨(by show C + 6 ≤ 601024; omega), (by show S + 36 ≤ 7293034; omega)⟩) hJ hS (fun k9 g H locs hk hg hJ hS => ?_)
  refine lv_istore (lv' := [(5, .int k9), (0, .ref b), (1, .ref (ad 0)), (2, .ref (md 0)), (3, .ref (ad 68)), (4, .int (nI i))]) hx hb dL_law_175 hl (by decide) rfl (fun ls hl => ?_)
  refine lv_aload_n hx hb dL_law_177 rfl (lv_at hl 3 rfl) ?_
  refine l_arg (b := b) (L := L) (i := i) (k := 1) (xs := xs) hx hb hX hbl hbA hS hl 1 5 rfl rfl (by decide +kernel) (by omega) (by omega) dL_law_178 dL_law_179 dL_law_181 dL_law_182 dL_law_183 ?_
  refine l_arg (b := b) (L := L) (i := i) (k := 2) (xs := xs) hx hb hX hbl hbA hS hl 1 5 rfl rfl (by decide +kernel) (by omega) (by omega) dL_law_184 dL_law_185 dL_law_187 dL_law_188 dL_law_189 ?_
  refine l_arg (b := b) (L := L) (i := i) (k := 3) (xs := xs) hx hb hX hbl hbA hS hl 1 5 rfl rfl (by decide +kernel) (by omega) (by omega) dL_law_190 dL_law_191 dL_law_193 dL_law_194 dL_law_195 ?_
  refine l_arg (b := b) (L := L) (i := i) (k := 4) (xs := xs) hx hb hX hbl hbA hS hl 1 5 rfl rfl (by decide +kernel) (by omega) (by omega) dL_law_196 dL_law_197 dL_law_199 dL_law_200 dL_law_201 ?_
  refine l_arg (b := b) (L := L) (i := i) (k := 5) (xs := xs) hx hb hX hbl hbA hS hl 1 5 rfl rfl (by decide +kernel) (by omega) (by omega) dL_law_202 dL_law_203 dL_law_205 dL_law_206 dL_law_207 ?_
  refine l_model (va_runV (As := [.int (xs (i + 1)), .int (xs (i + 2)), .int (xs (i + 3)), .int (xs (i + 4)), .int (xs (i + 5))]) (rest := []) ⟨hx, hb, hml, hown, hts⟩ (c_X4_log l D s.heap.size md rf τ H.size (xs (i + 1)) (xs (i + 2)) (xs (i + 3)) (xs (i + 4)) (xs (i + 5)) n hR.1.2.2.1 hR.1.1) (cwV 5 hts gL_law_X4_log rfl rfl rfl hdV_X4_log ⟨Nat.le_of_ble_eq_true rfl, Nat.le_of_ble_eq_true rfl⟩) (sPVz hJ.swap.left (ci := 4) (q0 := 0) rfl rfl) rfl rfl hl.1 rfl (lv_room (Nat.le_of_ble_eq_true rfl)) dL_law_208 ⟨(by show C + 6 + 0 ≤ 601024; omega), (by show S + 36 + 0 ≤ 7293034; omega)⟩) hJ hS (fun v9 H locs hv hJ hS => ?_)
  refine lv_istore (lv' := [(6, .int v9), (5, .int k9), (0, .ref b), (1, .ref (ad 0)), (2, .ref (md 0)), (3, .ref (ad 68)), (4, .int (nI i))]) hx hb dL_law_211 hl (by decide) rfl (fun ls hl => ?_)
  refine lv_aload_n hx hb dL_law_213 rfl (lv_at hl 4 rfl) ?_
  refine s_ciV (As := []) (rest := []) ⟨hx, hb, hml, hown, hts⟩ (c_X4_thrown l D s.heap.size md _ _) (cwV 0 hts gL_law_X4_thrown rfl rfl rfl hdV_X4_thrown ⟨Nat.le_of_ble_eq_true rfl, Nat.le_of_ble_eq_true rfl⟩) (sPV hJ.swap.left (ci := 4) (q0 := 0) rfl rfl) rfl hl.1 rfl (Nat.le_of_ble_eq_true rfl) dL_law_214 ⟨(by show C + 6 ≤ 601024; omega), (by show S + 36 ≤ 7293034; omega)⟩ ?_
  refine lv_iload hx hb dL_law_217 (lv_at hl 1 rfl) ?_
  refine lv_icmp_eq (tgt := 224) hx hb dL_law_219 (by decide) (fun c1 => ?_) (fun c1 => ?_)
  ·
    obtain ⟨n9, hR9⟩ := if_rel (c := (((0 ≤ (xs (i + 1)) ∧ (xs (i + 1)) ≤ 1439) ∧ (0 ≤ (xs (i + 2)) ∧ (xs (i + 2)) ≤ 300) ∧ (0 ≤ (xs (i + 3)) ∧ (xs (i + 3)) ≤ 359) ∧ (0 ≤ (xs (i + 4)) ∧ (xs (i + 4)) ≤ 600) ∧ (0 ≤ (xs (i + 5)) ∧ (xs (i + 5)) ≤ 359)) ∧ (n < 60 ∧ (n = 0 ∨ κ 4 (n - 1) < (xs (i + 1)))))) (d := (((0 ≤ (xs (i + 1)) ∧ (xs (i + 1)) ≤ 1439) ∧ (0 ≤ (xs (i + 2)) ∧ (xs (i + 2)) ≤ 300) ∧ (0 ≤ (xs (i + 3)) ∧ (xs (i + 3)) ≤ 359) ∧ (0 ≤ (xs (i + 4)) ∧ (xs (i + 4)) ≤ 600) ∧ (0 ≤ (xs (i + 5)) ∧ (xs (i + 5)) ≤ 359)) ∧ (n < 60 ∧ (n = 0 ∨ τ 1 (n - 1) < (xs (i + 1)))))) (and_congr Iff.rfl (log_b hR)) hR (fun hok => sRel_log (x1 := xs (i + 1)) (x2 := xs (i + 2)) (x3 := xs (i + 3)) (x4 := xs (i + 4)) (x5 := xs (i + 5)) hR hok.2.1 hok.1.1 hok.1.2.1 hok.1.2.2.2.1)
    refine lv_iload hx hb dL_law_224 (lv_at hl 1 rfl) ?_
    refine lv_if_ne (tgt := 241) hx hb dL_law_226 (by decide) (fun c2 => ?_) (fun c2 => ?_)
    ·
      refine lv_goto (tgt := 1343) hx hb dL_law_241 (by decide) ?_
      refine W.widen (k := C + 6) (n := S + 36) (by omega) (by omega) ?_
      exact hN _ _ g _ n9 H locs ls hJ hS hR9 (lv_sub hl [2, 3, 4, 5, 6] rfl)
    ·
      have hok := rL_z (hk.symm.trans c2)
      refine lv_aload_n hx hb dL_law_229 rfl (lv_at hl 5 rfl) ?_
      refine lv_iconst (v := 0) hx hb dL_law_230 (by decide +kernel) ?_
      refine l_out hx hb hJ dL_law_231 ?_
      refine lv_iload hx hb dL_law_232 (lv_at hl 0 rfl) ?_
      refine lv_i2l hx hb dL_law_234 rfl ?_
      refine W.lcmp hx hb dL_law_235 ?_
      refine lv_if_eq (tgt := 241) hx hb dL_law_236 (by decide) (fun c3 => ?_) (fun c3 => ?_)
      ·
        refine lv_goto (tgt := 1343) hx hb dL_law_241 (by decide) ?_
        refine W.widen (k := C + 6) (n := S + 36) (by omega) (by omega) ?_
        exact hN _ _ g _ n9 H locs ls hJ hS hR9 (lv_sub hl [2, 3, 4, 5, 6] rfl)
      ·
        exact absurd (cmp_0 (by rw [hg hok, hv, if_pos ⟨hok.1, (log_b hR).mp hok.2⟩])) c3
  ·
    exact absurd (by rw [hk]; exact rL_cg Iff.rfl (log_b hR).symm) c1
set_option maxRecDepth 100000 in
set_option maxHeartbeats 4000000 in
theorem lc_setFaults (hflags : l.flags = flags0) (hL : L ≤ 3072) (C0 : lw_At p s m meth c b L xs) (hi : i + 6 ≤ L) (hC : C ≤ 10000) (hSl : S ≤ 100000) (hN : lgN p l e s m below meth c b D ad md i C S) (hJ : sJ D s.heap.size (OW D ad κ f ++ MW D md rf τ) s H) (hS : va_S (fun q : Nat => s.heap.size ≤ q) s.heap H locs) (hR : sRel κ τ n) (hl : lv_has ls 7 [(0, .ref b), (1, .ref (ad 0)), (2, .ref (md 0)), (3, .ref (ad 68)), (4, .int (nI i))]) : W p l e room_1 s m #[Value.ref b] below meth c H locs C S (lw_Z below #[Value.ref b] s) (F0 m 244 ls []) := by
  obtain ⟨hx, hb, hr, hml, hown, hts0, hX, hbl, hlk, hgv⟩ := C0
  have hts : ∀ w ∈ wsL_law, w.before #[Value.ref b] s = true := fun w h => hts0 w (wsL_law_in w h)
  have hown : s.vm.findClass RL = some m.cls := hown
  have hbA : ¬ (fun q : Nat => s.heap.size ≤ q) b := Nat.not_le.mpr hbl
  refine lv_aload_n hx hb dL_law_244 rfl (lv_at hl 1 rfl) ?_
  refine l_arg (b := b) (L := L) (i := i) (k := 1) (xs := xs) hx hb hX hbl hbA hS hl 0 4 rfl rfl (by decide +kernel) (by omega) (by omega) dL_law_245 dL_law_246 dL_law_248 dL_law_249 dL_law_250 ?_
  refine l_arg (b := b) (L := L) (i := i) (k := 2) (xs := xs) hx hb hX hbl hbA hS hl 0 4 rfl rfl (by decide +kernel) (by omega) (by omega) dL_law_251 dL_law_252 dL_law_254 dL_law_255 dL_law_256 ?_
  refine l_arg (b := b) (L := L) (i := i) (k := 3) (xs := xs) hx hb hX hbl hbA hS hl 0 4 rfl rfl (by decide +kernel) (by omega) (by omega) dL_law_257 dL_law_258 dL_law_260 dL_law_261 dL_law_262 ?_
  refine lv_aload_n hx hb dL_law_263 rfl (lv_at hl 3 rfl) ?_
  refine l_help (vx_runSX (hh := [(0, 12, 15, 13)]) (As := [.ref (ad 0), .int (xs (i + 1)), .int (xs (i + 2)), .int (xs (i + 3)), .ref (ad 68)]) (rest := []) ⟨hx, hb, hml, hown, hts⟩ (h_setFaults l hflags D s.heap.size ad κ f H.size (xs (i + 1)) (xs (i + 2)) (xs (i + 3)) n hR.1.2.1 hR.1.1 (rel_kOk hR)) (vx_cwSW 5 hts gL_law_L_setFaults rfl rfl rfl hdS_L_setFaults ⟨Nat.le_of_ble_eq_true rfl, Nat.le_of_ble_eq_true rfl⟩) (sPSz hJ.left) rfl rfl hl.1 rfl (lv_room (Nat.le_of_ble_eq_true rfl)) dL_law_264 ⟨(by show C + 3 ≤ 601024; omega), (by show S + 18 ≤ 7293034; omega)⟩) hJ hS (fun k9 g H locs hk hg hJ hS => ?_)
  refine lv_istore (lv' := [(5, .int k9), (0, .ref b), (1, .ref (ad 0)), (2, .ref (md 0)), (3, .ref (ad 68)), (4, .int (nI i))]) hx hb dL_law_267 hl (by decide) rfl (fun ls hl => ?_)
  refine lv_aload_n hx hb dL_law_269 rfl (lv_at hl 3 rfl) ?_
  refine l_arg (b := b) (L := L) (i := i) (k := 1) (xs := xs) hx hb hX hbl hbA hS hl 1 5 rfl rfl (by decide +kernel) (by omega) (by omega) dL_law_270 dL_law_271 dL_law_273 dL_law_274 dL_law_275 ?_
  refine l_arg (b := b) (L := L) (i := i) (k := 2) (xs := xs) hx hb hX hbl hbA hS hl 1 5 rfl rfl (by decide +kernel) (by omega) (by omega) dL_law_276 dL_law_277 dL_law_279 dL_law_280 dL_law_281 ?_
  refine l_arg (b := b) (L := L) (i := i) (k := 3) (xs := xs) hx hb hX hbl hbA hS hl 1 5 rfl rfl (by decide +kernel) (by omega) (by omega) dL_law_282 dL_law_283 dL_law_285 dL_law_286 dL_law_287 ?_
  refine l_model (va_runV (As := [.int (xs (i + 1)), .int (xs (i + 2)), .int (xs (i + 3))]) (rest := []) ⟨hx, hb, hml, hown, hts⟩ (c_X4_setFaults l D s.heap.size md rf τ H.size (xs (i + 1)) (xs (i + 2)) (xs (i + 3))) (cwV 3 hts gL_law_X4_setFaults rfl rfl rfl hdV_X4_setFaults ⟨Nat.le_of_ble_eq_true rfl, Nat.le_of_ble_eq_true rfl⟩) (sPVz hJ.swap.left (ci := 4) (q0 := 0) rfl rfl) rfl rfl hl.1 rfl (lv_room (Nat.le_of_ble_eq_true rfl)) dL_law_288 ⟨(by show C + 3 + 0 ≤ 601024; omega), (by show S + 18 + 0 ≤ 7293034; omega)⟩) hJ hS (fun v9 H locs hv hJ hS => ?_)
  refine lv_istore (lv' := [(6, .int v9), (5, .int k9), (0, .ref b), (1, .ref (ad 0)), (2, .ref (md 0)), (3, .ref (ad 68)), (4, .int (nI i))]) hx hb dL_law_291 hl (by decide) rfl (fun ls hl => ?_)
  refine lv_aload_n hx hb dL_law_293 rfl (lv_at hl 4 rfl) ?_
  refine s_ciV (As := []) (rest := []) ⟨hx, hb, hml, hown, hts⟩ (c_X4_thrown l D s.heap.size md _ _) (cwV 0 hts gL_law_X4_thrown rfl rfl rfl hdV_X4_thrown ⟨Nat.le_of_ble_eq_true rfl, Nat.le_of_ble_eq_true rfl⟩) (sPV hJ.swap.left (ci := 4) (q0 := 0) rfl rfl) rfl hl.1 rfl (Nat.le_of_ble_eq_true rfl) dL_law_294 ⟨(by show C + 3 ≤ 601024; omega), (by show S + 18 ≤ 7293034; omega)⟩ ?_
  refine lv_iload hx hb dL_law_297 (lv_at hl 1 rfl) ?_
  refine lv_icmp_eq (tgt := 304) hx hb dL_law_299 (by decide) (fun c1 => ?_) (fun c1 => ?_)
  ·
    obtain ⟨n9, hR9⟩ := if_rel (c := ((500 ≤ (xs (i + 1)) ∧ (xs (i + 1)) ≤ 1500) ∧ ((-20) ≤ (xs (i + 2)) ∧ (xs (i + 2)) ≤ 20) ∧ ((-20) ≤ (xs (i + 3)) ∧ (xs (i + 3)) ≤ 20))) (d := ((500 ≤ (xs (i + 1)) ∧ (xs (i + 1)) ≤ 1500) ∧ ((-20) ≤ (xs (i + 2)) ∧ (xs (i + 2)) ≤ 20) ∧ ((-20) ≤ (xs (i + 3)) ∧ (xs (i + 3)) ≤ 20))) Iff.rfl hR (fun hok => sRel_faults (f := xs (i + 1)) (c := xs (i + 2)) (v := xs (i + 3)) hR hok.1)
    refine lv_iload hx hb dL_law_304 (lv_at hl 1 rfl) ?_
    refine lv_if_ne (tgt := 321) hx hb dL_law_306 (by decide) (fun c2 => ?_) (fun c2 => ?_)
    ·
      refine lv_goto (tgt := 1343) hx hb dL_law_321 (by decide) ?_
      refine W.widen (k := C + 6) (n := S + 36) (by omega) (by omega) ?_
      exact hN _ _ g _ n9 H locs ls hJ hS hR9 (lv_sub hl [2, 3, 4, 5, 6] rfl)
    ·
      have hok := rE_z (hk.symm.trans c2)
      refine lv_aload_n hx hb dL_law_309 rfl (lv_at hl 5 rfl) ?_
      refine lv_iconst (v := 0) hx hb dL_law_310 (by decide +kernel) ?_
      refine l_out hx hb hJ dL_law_311 ?_
      refine lv_iload hx hb dL_law_312 (lv_at hl 0 rfl) ?_
      refine lv_i2l hx hb dL_law_314 rfl ?_
      refine W.lcmp hx hb dL_law_315 ?_
      refine lv_if_eq (tgt := 321) hx hb dL_law_316 (by decide) (fun c3 => ?_) (fun c3 => ?_)
      ·
        refine lv_goto (tgt := 1343) hx hb dL_law_321 (by decide) ?_
        refine W.widen (k := C + 6) (n := S + 36) (by omega) (by omega) ?_
        exact hN _ _ g _ n9 H locs ls hJ hS hR9 (lv_sub hl [2, 3, 4, 5, 6] rfl)
      ·
        exact absurd (cmp_0 (by rw [hg hok, hv, if_pos hok, hR.1.2.2.2.1])) c3
  ·
    exact absurd (by rw [hk]) c1
set_option maxRecDepth 100000 in
set_option maxHeartbeats 4000000 in
theorem lc_setTide (hflags : l.flags = flags0) (hL : L ≤ 3072) (C0 : lw_At p s m meth c b L xs) (hi : i + 6 ≤ L) (hC : C ≤ 10000) (hSl : S ≤ 100000) (hN : lgN p l e s m below meth c b D ad md i C S) (hJ : sJ D s.heap.size (OW D ad κ f ++ MW D md rf τ) s H) (hS : va_S (fun q : Nat => s.heap.size ≤ q) s.heap H locs) (hR : sRel κ τ n) (hl : lv_has ls 7 [(0, .ref b), (1, .ref (ad 0)), (2, .ref (md 0)), (3, .ref (ad 68)), (4, .int (nI i))]) : W p l e room_1 s m #[Value.ref b] below meth c H locs C S (lw_Z below #[Value.ref b] s) (F0 m 324 ls []) := by
  obtain ⟨hx, hb, hr, hml, hown, hts0, hX, hbl, hlk, hgv⟩ := C0
  have hts : ∀ w ∈ wsL_law, w.before #[Value.ref b] s = true := fun w h => hts0 w (wsL_law_in w h)
  have hown : s.vm.findClass RL = some m.cls := hown
  have hbA : ¬ (fun q : Nat => s.heap.size ≤ q) b := Nat.not_le.mpr hbl
  refine lv_aload_n hx hb dL_law_324 rfl (lv_at hl 1 rfl) ?_
  refine l_arg (b := b) (L := L) (i := i) (k := 1) (xs := xs) hx hb hX hbl hbA hS hl 0 4 rfl rfl (by decide +kernel) (by omega) (by omega) dL_law_325 dL_law_326 dL_law_328 dL_law_329 dL_law_330 ?_
  refine l_arg (b := b) (L := L) (i := i) (k := 2) (xs := xs) hx hb hX hbl hbA hS hl 0 4 rfl rfl (by decide +kernel) (by omega) (by omega) dL_law_331 dL_law_332 dL_law_334 dL_law_335 dL_law_336 ?_
  refine l_arg (b := b) (L := L) (i := i) (k := 3) (xs := xs) hx hb hX hbl hbA hS hl 0 4 rfl rfl (by decide +kernel) (by omega) (by omega) dL_law_337 dL_law_338 dL_law_340 dL_law_341 dL_law_342 ?_
  refine lv_aload_n hx hb dL_law_343 rfl (lv_at hl 3 rfl) ?_
  refine l_help (vx_runSX (hh := [(0, 12, 15, 24), (0, 12, 19, 13)]) (As := [.ref (ad 0), .int (xs (i + 1)), .int (xs (i + 2)), .int (xs (i + 3)), .ref (ad 68)]) (rest := []) ⟨hx, hb, hml, hown, hts⟩ (h_setTide l hflags D s.heap.size ad κ f H.size (xs (i + 1)) (xs (i + 2)) (xs (i + 3))) (vx_cwSW 5 hts gL_law_L_setTide rfl rfl rfl hdS_L_setTide ⟨Nat.le_of_ble_eq_true rfl, Nat.le_of_ble_eq_true rfl⟩) (sPSz hJ.left) rfl rfl hl.1 rfl (lv_room (Nat.le_of_ble_eq_true rfl)) dL_law_344 ⟨(by show C + 3 ≤ 601024; omega), (by show S + 18 ≤ 7293034; omega)⟩) hJ hS (fun k9 g H locs hk hg hJ hS => ?_)
  refine lv_istore (lv' := [(5, .int k9), (0, .ref b), (1, .ref (ad 0)), (2, .ref (md 0)), (3, .ref (ad 68)), (4, .int (nI i))]) hx hb dL_law_347 hl (by decide) rfl (fun ls hl => ?_)
  refine lv_aload_n hx hb dL_law_349 rfl (lv_at hl 3 rfl) ?_
  refine l_arg (b := b) (L := L) (i := i) (k := 1) (xs := xs) hx hb hX hbl hbA hS hl 1 5 rfl rfl (by decide +kernel) (by omega) (by omega) dL_law_350 dL_law_351 dL_law_353 dL_law_354 dL_law_355 ?_
  refine l_arg (b := b) (L := L) (i := i) (k := 2) (xs := xs) hx hb hX hbl hbA hS hl 1 5 rfl rfl (by decide +kernel) (by omega) (by omega) dL_law_356 dL_law_357 dL_law_359 dL_law_360 dL_law_361 ?_
  refine l_arg (b := b) (L := L) (i := i) (k := 3) (xs := xs) hx hb hX hbl hbA hS hl 1 5 rfl rfl (by decide +kernel) (by omega) (by omega) dL_law_362 dL_law_363 dL_law_365 dL_law_366 dL_law_367 ?_
  refine l_model (va_runV (As := [.int (xs (i + 1)), .int (xs (i + 2)), .int (xs (i + 3))]) (rest := []) ⟨hx, hb, hml, hown, hts⟩ (c_X4_setTide l D s.heap.size md rf τ H.size (xs (i + 1)) (xs (i + 2)) (xs (i + 3))) (cwV 3 hts gL_law_X4_setTide rfl rfl rfl hdV_X4_setTide ⟨Nat.le_of_ble_eq_true rfl, Nat.le_of_ble_eq_true rfl⟩) (sPVz hJ.swap.left (ci := 4) (q0 := 0) rfl rfl) rfl rfl hl.1 rfl (lv_room (Nat.le_of_ble_eq_true rfl)) dL_law_368 ⟨(by show C + 3 + 0 ≤ 601024; omega), (by show S + 18 + 0 ≤ 7293034; omega)⟩) hJ hS (fun v9 H locs hv hJ hS => ?_)
  refine lv_istore (lv' := [(6, .int v9), (5, .int k9), (0, .ref b), (1, .ref (ad 0)), (2, .ref (md 0)), (3, .ref (ad 68)), (4, .int (nI i))]) hx hb dL_law_371 hl (by decide) rfl (fun ls hl => ?_)
  refine lv_aload_n hx hb dL_law_373 rfl (lv_at hl 4 rfl) ?_
  refine s_ciV (As := []) (rest := []) ⟨hx, hb, hml, hown, hts⟩ (c_X4_thrown l D s.heap.size md _ _) (cwV 0 hts gL_law_X4_thrown rfl rfl rfl hdV_X4_thrown ⟨Nat.le_of_ble_eq_true rfl, Nat.le_of_ble_eq_true rfl⟩) (sPV hJ.swap.left (ci := 4) (q0 := 0) rfl rfl) rfl hl.1 rfl (Nat.le_of_ble_eq_true rfl) dL_law_374 ⟨(by show C + 3 ≤ 601024; omega), (by show S + 18 ≤ 7293034; omega)⟩ ?_
  refine lv_iload hx hb dL_law_377 (lv_at hl 1 rfl) ?_
  refine lv_icmp_eq (tgt := 384) hx hb dL_law_379 (by decide) (fun c1 => ?_) (fun c1 => ?_)
  ·
    obtain ⟨n9, hR9⟩ := if_rel (c := ((0 ≤ (xs (i + 1)) ∧ (xs (i + 1)) ≤ 23) ∧ (0 ≤ (xs (i + 2)) ∧ (xs (i + 2)) ≤ 359) ∧ (0 ≤ (xs (i + 3)) ∧ (xs (i + 3)) ≤ 100))) (d := ((0 ≤ (xs (i + 1)) ∧ (xs (i + 1)) ≤ 23) ∧ (0 ≤ (xs (i + 2)) ∧ (xs (i + 2)) ≤ 359) ∧ (0 ≤ (xs (i + 3)) ∧ (xs (i + 3)) ≤ 100))) Iff.rfl hR (fun hok => sRel_tide (x := iN (xs (i + 1))) (d := xs (i + 2)) (r := xs (i + 3)) hR hok.2.2)
    refine lv_iload hx hb dL_law_384 (lv_at hl 1 rfl) ?_
    refine lv_if_ne (tgt := 401) hx hb dL_law_386 (by decide) (fun c2 => ?_) (fun c2 => ?_)
    ·
      refine lv_goto (tgt := 1343) hx hb dL_law_401 (by decide) ?_
      refine W.widen (k := C + 6) (n := S + 36) (by omega) (by omega) ?_
      exact hN _ _ g _ n9 H locs ls hJ hS hR9 (lv_sub hl [2, 3, 4, 5, 6] rfl)
    ·
      have hok := rL_z (hk.symm.trans c2)
      refine lv_aload_n hx hb dL_law_389 rfl (lv_at hl 5 rfl) ?_
      refine lv_iconst (v := 0) hx hb dL_law_390 (by decide +kernel) ?_
      refine l_out hx hb hJ dL_law_391 ?_
      refine lv_iload hx hb dL_law_392 (lv_at hl 0 rfl) ?_
      refine lv_i2l hx hb dL_law_394 rfl ?_
      refine W.lcmp hx hb dL_law_395 ?_
      refine lv_if_eq (tgt := 401) hx hb dL_law_396 (by decide) (fun c3 => ?_) (fun c3 => ?_)
      ·
        refine lv_goto (tgt := 1343) hx hb dL_law_401 (by decide) ?_
        refine W.widen (k := C + 6) (n := S + 36) (by omega) (by omega) ?_
        exact hN _ _ g _ n9 H locs ls hJ hS hR9 (lv_sub hl [2, 3, 4, 5, 6] rfl)
      ·
        exact absurd (cmp_0 (by rw [hg hok, hv, if_pos hok, (hR.2.1 _ (rng_ok 23 (by decide +kernel) (by omega) hok.1).2).2.1])) c3
  ·
    exact absurd (by rw [hk]) c1
end SCases

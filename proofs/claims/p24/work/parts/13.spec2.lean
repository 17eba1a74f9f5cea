/-! ===== rows that the walks' ends ask for ===== -/
section SSpec2
/-- the head of a method of a class that isn't plainly named (java/lang/Math), from its entry -/
theorem s_headF {l : Launch} {y : MethodName} {ws ws' : List Cond} {rm : Room} {av : List Value} {B : State → Prop} {Qc : Array Value → State → Outcome → State → Prop} {mc ms : Nat} {free : Addr → Prop} {cc : ByteArray} {maxL : Nat} {ret : Option FieldType}
    (hy : plainFor y = true) (hw : ws = Cond.code y cc maxL ret :: ws') (hn : (lg_sl av).length ≤ maxL)
    (body : ∀ (p : Program) (e : Env) (s : State) (m : MethodId) (below : List Frame) (meth : Method) (c : Code), p.tables.exec = Jvm.exec → c.code = cc → meth.sig.returnType = ret → meth.locks = false → c.maxLocals = maxL → s.vm.findClass y.cls = some m.cls → meth.name = y.name → (∀ w ∈ ws, w.before av.toArray s = true) → B s →
      ∀ ls : Array Slot, lv_has ls maxL (lv_args 0 av) → W p l e rm s m av.toArray below meth c s.heap [] 0 0 (MQ below Qc av.toArray s mc ms free) (F0 m 0 ls [])) : Met l y ws rm (va_Pc av B) Qc mc ms free := by
  refine MetFree.of_bodySF (code := cc) (maxLocals := maxL) (ret := ret) hy ?_ ?_
  · intro args s m h hn
    obtain ⟨meth, c, h1, h2, h3, h4, h5, h6, -, -⟩ := Cond.code_spec hn (atoms_spec (ws := ws) h _ (by rw [hw]; exact List.mem_cons_self))
    exact ⟨meth, c, h1, h2, h3, h4, h5, h6⟩
  · intro p e s m args below meth c s₁ B9 hml hP _
    have hh0 : s₁.heap = s.heap := by rw [B9.state]; rfl
    obtain ⟨rfl, hB⟩ := hP
    have K := body p e s m below meth c B9.exec B9.bytes B9.returns B9.notSynchronized hml (findClass_of_methodNamed B9.named) (name_of_methodNamed B9.named B9.method).1 (atoms_spec (ws := ws) B9.pre) hB _ (lv_entry av hn)
    rw [← lg_entry_eq] at K
    obtain ⟨t, a1, o, b1, b2, b3⟩ := K s₁ hh0 (Stand.of_body B9)
    exact ⟨t, o, a1, b1, b2, b3⟩
theorem fm_a {x : Int32} (h : 0 ≤ x ^^^ 360) : x - x / 360 * 360 = t360 x := by
  have h1 := (xor_sign x 360 (by decide +kernel)).mp h
  refine t360_pos (fun h2 => ?_)
  have e := irem_int x 360
  rw [i32_le, Int32.toInt_zero] at h1
  rw [i32_lt, Int32.toInt_zero, e, Int.tmod_eq_emod_of_nonneg h1, show (360 : Int32).toInt = 360 from by decide +kernel] at h2
  omega
theorem fm_b {x : Int32} (h : ¬ 0 ≤ x ^^^ 360) (h2 : x - x / 360 * 360 = 0) : x - x / 360 * 360 = t360 x := t360_pos (by rw [h2]; decide +kernel)
theorem fm_c {x : Int32} (h : ¬ 0 ≤ x ^^^ 360) (h2 : ¬ x - x / 360 * 360 = 0) : x - x / 360 * 360 + 360 = t360 x := by
  refine t360_neg ?_
  have h1 : ¬ 0 ≤ x := fun q => h ((xor_sign x 360 (by decide +kernel)).mpr q)
  have e := irem_int x 360
  have h3 : ¬ (x - x / 360 * 360).toInt = 0 := fun q => h2 (i32_ext (by rw [q, Int32.toInt_zero]))
  rw [i32_le, Int32.toInt_zero] at h1
  rw [i32_lt, Int32.toInt_zero]
  rw [e] at h3 ⊢
  rw [show (360 : Int32).toInt = 360 from by decide +kernel] at h3 ⊢
  have e1 := Int.mul_tdiv_add_tmod x.toInt 360
  have e2 := tmod_bounds (a := x.toInt) (M := 360) (by omega)
  have e3 : x.toInt.tmod 360 ≤ 0 := by
    have e4 : (-(-x.toInt)).tmod 360 = -((-x.toInt).tmod 360) := Int.neg_tmod _ _
    rw [Int.neg_neg, Int.tmod_eq_emod_of_nonneg (a := -x.toInt) (by omega)] at e4
    omega
  omega
theorem cmp_le {x y : Int64} : lg_cmp x y ≤ 0 ↔ x ≤ y := by
  unfold lg_cmp
  by_cases h : x > y
  · rw [if_pos h]
    refine ⟨fun q => absurd q (by decide +kernel), fun q => ?_⟩
    rw [i64_le] at q
    have h' := i64_lt.mp h
    omega
  · rw [if_neg h]
    have h2 : x ≤ y := by
      rw [i64_le]
      have h' : ¬ y.toInt < x.toInt := fun q => h (i64_lt.mpr q)
      omega
    refine ⟨fun _ => h2, fun _ => ?_⟩
    split <;> decide +kernel
theorem cmp_lt {x y : Int64} : lg_cmp x y < 0 ↔ x < y := by
  unfold lg_cmp
  by_cases h : x > y
  · rw [if_pos h]
    refine ⟨fun q => absurd q (by decide +kernel), fun q => ?_⟩
    have h' := i64_lt.mp h
    rw [i64_lt] at q
    omega
  · rw [if_neg h]
    have h' : ¬ y.toInt < x.toInt := fun q => h (i64_lt.mpr q)
    by_cases e : x = y
    · rw [if_pos e]
      refine ⟨fun q => absurd q (by decide +kernel), fun q => ?_⟩
      rw [i64_lt, e] at q
      omega
    · rw [if_neg e]
      refine ⟨fun _ => ?_, fun _ => by decide +kernel⟩
      rw [i64_lt]
      have e' : ¬ x.toInt = y.toInt := fun q => e (i64_ext q)
      omega
theorem cmp_ge {x y : Int64} : 0 ≤ lg_cmp x y ↔ y ≤ x := by
  have h := cmp_lt (x := x) (y := y)
  rw [i32_lt, Int32.toInt_zero, i64_lt] at h
  rw [i32_le, Int32.toInt_zero, i64_le]
  omega
theorem cmp_gt {x y : Int64} : 0 < lg_cmp x y ↔ y < x := by
  have h := cmp_le (x := x) (y := y)
  rw [i32_le, Int32.toInt_zero, i64_le] at h
  rw [i32_lt, Int32.toInt_zero, i64_lt]
  omega
theorem cmp_eq {x y : Int64} : lg_cmp x y = 0 ↔ x = y := by
  have h := cmp_le (x := x) (y := y)
  have h2 := cmp_lt (x := x) (y := y)
  rw [i32_le, Int32.toInt_zero, i64_le] at h
  rw [i32_lt, Int32.toInt_zero, i64_lt] at h2
  refine ⟨fun q => i64_ext ?_, fun q => i32_ext ?_⟩
  · rw [q, Int32.toInt_zero] at h h2
    omega
  · rw [Int32.toInt_zero]
    subst q
    omega
def qtr (ah ac : Int64) : Int32 := if ac < 0 then (if 0 ≤ ah then 3 else 2) else (if ah < 0 then 1 else 0)
theorem qtr_0 {ah ac : Int64} (h : ¬ ac < 0) (h2 : ¬ ah < 0) : 0 = qtr ah ac := by rw [qtr, if_neg h, if_neg h2]
theorem qtr_1 {ah ac : Int64} (h : ¬ ac < 0) (h2 : ah < 0) : 1 = qtr ah ac := by rw [qtr, if_neg h, if_pos h2]
theorem qtr_2 {ah ac : Int64} (h : ac < 0) (h2 : ¬ 0 ≤ ah) : 2 = qtr ah ac := by rw [qtr, if_pos h, if_neg h2]
theorem qtr_3 {ah ac : Int64} (h : ac < 0) (h2 : 0 ≤ ah) : 3 = qtr ah ac := by rw [qtr, if_pos h, if_pos h2]
theorem nlt {x y : Int32} (h : ¬ x < y) : y ≤ x := by rw [i32_lt] at h; rw [i32_le]; omega
theorem nle {x y : Int32} (h : ¬ x ≤ y) : y < x := by rw [i32_le] at h; rw [i32_lt]; omega
theorem isw_a {v lo hi : Int32} (h : v < lo) : 0 = bI (lo ≤ v ∧ v ≤ hi) := (bI_f (fun q => by have := q.1; rw [i32_le] at this; rw [i32_lt] at h; omega)).symm
theorem isw_b {v lo hi : Int32} (h : hi < v) : 0 = bI (lo ≤ v ∧ v ≤ hi) := (bI_f (fun q => by have := q.2; rw [i32_le] at this; rw [i32_lt] at h; omega)).symm
theorem isw_c {v lo hi : Int32} (h : ¬ v < lo) (h2 : ¬ hi < v) : 1 = bI (lo ≤ v ∧ v ≤ hi) := (bI_t ⟨nlt h, nlt h2⟩).symm
theorem sd_a {x : Int32} (h : x = 0) : 0 = sdI x := by rw [sdI, if_pos (Or.inl h)]
theorem sd_b {x : Int32} (h : x = 180) : 0 = sdI x := by rw [sdI, if_pos (Or.inr h)]
theorem sd_c {x : Int32} (h : ¬ x = 0) (h1 : ¬ x = 180) (h2 : ¬ 180 ≤ x) : 1 = sdI x := by rw [sdI, if_neg (fun q => q.elim h h1), if_pos (nle h2)]
theorem sd_d {x : Int32} (h : ¬ x = 0) (h1 : ¬ x = 180) (h2 : 180 ≤ x) : 2 = sdI x := by
  rw [sdI, if_neg (fun q => q.elim h h1), if_neg]
  rw [i32_le] at h2
  rw [i32_lt]
  omega
end SSpec2

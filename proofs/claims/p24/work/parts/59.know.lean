/-! ===== what is known at the law's entry ===== -/
section SKnow
theorem k_nc {s : State} {b : Nat} {C T : String} (hgv : (Jvm.Cond.and given_1 narrow_1).before #[Value.ref b] s = true) (h : Cond.not (.castable C T) ∈ flatC (Jvm.Cond.and given_1 narrow_1)) : va_Nc C T s := va_Nc.of (flat_of_before _ hgv _ h)
theorem k_str {s : State} {b k : Nat} {tx : String} (hts : ∀ w ∈ lw_tbl, w.before #[Value.ref b] s = true) (hgv : (Jvm.Cond.and given_1 narrow_1).before #[Value.ref b] s = true) (h1 : Cond.stringRef RX3 k tx ∈ lw_tbl) (h2 : Cond.exactly (.string RX3 k) "java/lang/String" ∈ flatC (Jvm.Cond.and given_1 narrow_1)) : ∃ a : Nat, vk_R RX3 k tx a s := by
  have e : (Cond.exactly (.string RX3 k) "java/lang/String").before #[Value.ref b] s = true := flat_of_before _ hgv _ h2
  obtain ⟨a, c, cell, k9, ha, -⟩ := Cond.exactly_spec e
  exact ⟨a, vk_R.of (hts _ h1) ha⟩
theorem k_arr {s : State} {b : Nat} {ty : FieldType} (h : (Cond.arrayClass ty).before #[Value.ref b] s = true) (hr : ∀ cA : ClassId, s.vm.findClass ("[" ++ ty.toString) = some cA → va_RA s cA ty) (hne : ∀ C, ty ≠ .object C) : ∃ cA : ClassId, ArrOfT s cA ty ∧ va_RA s cA ty := by
  obtain ⟨cA, kA, comp, f1, f2, f3⟩ := Cond.arrayClass_spec h
  exact ⟨cA, fun N z => ⟨(fun k h => by cases h), kA, f2, comp, f3⟩, hr cA f1⟩
theorem k_K {s : State} {b : Nat} (hts : ∀ w ∈ lw_tbl, w.before #[Value.ref b] s = true) (hgv : (Jvm.Cond.and given_1 narrow_1).before #[Value.ref b] s = true) : ∃ D : sD, sK D s := by
  obtain ⟨c0, i0, h0⟩ := u_known (C := RX0) (T := TX0) (N := 1) (n := 1) hts inX0 (hts (.instantiable RX0 1) (by decide +kernel))
  obtain ⟨c1, i1, h1⟩ := u_known (C := RX1) (T := TX1) (N := 1) (n := 1) hts inX1 (hts (.instantiable RX1 1) (by decide +kernel))
  obtain ⟨c2, i2, h2⟩ := u_known (C := RX2) (T := TX2) (N := 9) (n := 9) hts inX2 (hts (.instantiable RX2 9) (by decide +kernel))
  obtain ⟨c3, i3, h3⟩ := u_known (C := RX3) (T := TX3) (N := 9) (n := 9) hts inX3 (hts (.instantiable RX3 9) (by decide +kernel))
  obtain ⟨dC, dI, hcl⟩ : ∃ (dC : Nat → ClassId) (dI : Nat → Nat → Nat), ∀ (k : Nat) (q : vw_C), vwCl[k]? = some q → u_Kn s q.1 q.2.1 q.2.2 (dC k) (dI k) := by
    refine ⟨fun k => if k = 0 then c0 else if k = 1 then c1 else if k = 2 then c2 else c3, fun k => if k = 0 then i0 else if k = 1 then i1 else if k = 2 then i2 else i3, ?_⟩
    intro k q hq
    match k, hq with
    | 0, hq => cases hq; exact h0
    | 1, hq => cases hq; exact h1
    | 2, hq => cases hq; exact h2
    | 3, hq => cases hq; exact h3
    | k + 4, hq => simp [vwCl] at hq
  obtain ⟨cI, aI, rI⟩ := k_arr (ty := .int) (hts (.arrayClass .int) (by decide +kernel)) (fun _ h => h) (fun C h => by cases h)
  obtain ⟨comp, cE, kE, f1, -, f2, f3, f4⟩ := Cond.arrayOver_spec (hts (.arrayOver (.object RX2)) (by decide +kernel))
  have aE : ArrOfT s cE (.object RX2) := fun N z => ⟨(fun k h => by cases h), kE, f2, comp, f3⟩
  have rE : va_RA s cE (.object RX2) := ⟨kE, comp, f2, f3, f1, f4⟩
  obtain ⟨s0, z0⟩ := k_str (k := 180) (tx := "an argument is out of range") hts hgv (by decide +kernel) (by decide +kernel)
  obtain ⟨s1, z1⟩ := k_str (k := 58) (tx := "the log is full") hts hgv (by decide +kernel) (by decide +kernel)
  obtain ⟨s2, z2⟩ := k_str (k := 66) (tx := "the minute is not later than the latest one") hts hgv (by decide +kernel) (by decide +kernel)
  obtain ⟨s3, z3⟩ := k_str (k := 98) (tx := "there is no such hour") hts hgv (by decide +kernel) (by decide +kernel)
  obtain ⟨s4, z4⟩ := k_str (k := 183) (tx := "there is no such entry") hts hgv (by decide +kernel) (by decide +kernel)
  obtain ⟨s5, z5⟩ := k_str (k := 185) (tx := "there is no such row") hts hgv (by decide +kernel) (by decide +kernel)
  obtain ⟨s6, z6⟩ := k_str (k := 187) (tx := "there is no such column") hts hgv (by decide +kernel) (by decide +kernel)
  refine ⟨((dC, dI), cI, cE, cI, fun k => [s0, s1, s2, s3, s4, s5, s6].getD k 0), ⟨hcl, ?_⟩, ⟨va_AO.of (hts (.arrayOver (.object RX2)) (by decide +kernel)), va_Nw.of rfl (hts (.methodLinkNest RX3 22 yX2_init RX3) (by decide +kernel)), va_Nw.of rfl (hts (.methodLinkNest RX3 25 yX0_init RX3) (by decide +kernel)), va_Nw.of rfl (hts (.methodLinkNest RX2 15 yX3_openAngleOf RX3) (by decide +kernel)), va_Nw.of rfl (hts (.methodLinkNest RX2 23 yX3_rowOf RX3) (by decide +kernel))⟩, ⟨z0, z1, z2, z3, z4, z5, z6⟩, ⟨k_nc hgv (by decide +kernel), k_nc hgv (by decide +kernel), va_Nw.of rfl (hts (.castable E_A E_A) (by decide +kernel)), va_Nw.of rfl (hts (.castable E_S E_S) (by decide +kernel)), va_Nw.of rfl (hts (.castable E_I E_I) (by decide +kernel)), va_Nw.of rfl (hts (.declares (Bundle.initS "java/lang/RuntimeException")) (by decide +kernel)), va_Nw.of rfl (hts (.declares (Bundle.initS "java/lang/Exception")) (by decide +kernel)), va_Nw.of rfl (hts (.declares (Bundle.initS Bundle.tN)) (by decide +kernel))⟩⟩
  intro k q hq
  match k, hq with
  | 0, hq => cases hq; exact ⟨aI, rI⟩
  | 1, hq => cases hq; exact ⟨aE, rE⟩
  | k + 2, hq => simp [sTys] at hq
theorem k_Z {s : State} {b : Nat} (hts : ∀ w ∈ lw_tbl, w.before #[Value.ref b] s = true) (hgv : (Jvm.Cond.and given_1 narrow_1).before #[Value.ref b] s = true) : sZ s.heap.size s s.heap :=
  ⟨vx_Zqof (hts (.laysStatic Bundle.tN "UNASSIGNED_STACK" Bundle.steD) (by decide +kernel)) (hts (.initialized Bundle.tN) (by decide +kernel)) (flat_of_before _ hgv (.isRef (.static Bundle.tN "UNASSIGNED_STACK" Bundle.steD)) (by decide +kernel)) (fun a ha => Nat.not_le.mpr ha), vx_Zqof (hts (.laysStatic Bundle.tN "SUPPRESSED_SENTINEL" Bundle.listD) (by decide +kernel)) (hts (.initialized Bundle.tN) (by decide +kernel)) (flat_of_before _ hgv (.isRef (.static Bundle.tN "SUPPRESSED_SENTINEL" Bundle.listD)) (by decide +kernel)) (fun a ha => Nat.not_le.mpr ha)⟩
end SKnow

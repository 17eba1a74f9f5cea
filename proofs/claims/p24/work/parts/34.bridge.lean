/-! ===== the class's state and the reference's: what goes with what ===== -/
section SBridge
theorem fmx_cg {sp ws wa sp' ws' wa' : Nat → Int32} {r c : Int32} : ∀ n, (∀ i, i < n → sp i = sp' i ∧ ws i = ws' i ∧ wa i = wa' i) → fmx sp ws wa r c n = fmx sp' ws' wa' r c n := by
  intro n
  induction n with
  | zero => intro _; rfl
  | succ n ih =>
    intro h
    obtain ⟨h1, h2, h3⟩ := h n (by omega)
    rw [fmx, fmx, ih (fun i hi => h i (by omega)), h1, h2, h3]
theorem kind_cg {wa wa' : Nat → Int32} {n i : Nat} (h : ∀ i, i < n → wa i = wa' i) (hi : i < n) : kindF wa i = kindF wa' i := by
  rw [kindF, kindF, h i hi, h (i - 1) (by omega)]
theorem slow_cg {mi sp mi' sp' : Nat → Int32} {b : Int32} {i n : Nat} (h : ∀ i, i < n → mi i = mi' i ∧ sp i = sp' i) : ∀ j, i + j ≤ n → slowS mi sp b i j = slowS mi' sp' b i j := by
  intro j
  induction j with
  | zero => intro _; rfl
  | succ j ih =>
    intro hj
    rw [slowS, slowS, ih (by omega), (h (i + j) (by omega)).1, (h (i + j) (by omega)).2, (h (i + j - 1) (by omega)).1]
theorem loss_cg {wa mi sp wa' mi' sp' : Nat → Int32} {n i : Nat} (h : ∀ i, i < n → wa i = wa' i ∧ mi i = mi' i ∧ sp i = sp' i) (hi : i < n) : lossF wa mi sp n i = lossF wa' mi' sp' n i := by
  have he : i + (endF n i - i) ≤ n := by unfold endF; split <;> omega
  rw [lossF, lossF, kind_cg (fun j hj => (h j hj).1) hi, (h (i - 1) (by omega)).2.2, slow_cg (fun j hj => (h j hj).2) _ he]
theorem cost_cg {wa mi sp wa' mi' sp' : Nat → Int32} {n : Nat} {k : Int32} (h : ∀ i, i < n → wa i = wa' i ∧ mi i = mi' i ∧ sp i = sp' i) : ∀ j, j ≤ n → costF wa mi sp n k j = costF wa' mi' sp' n k j := by
  intro j
  induction j with
  | zero => intro _; rfl
  | succ j ih =>
    intro hj
    rw [costF, costF, ih (by omega), kind_cg (fun j hj => (h j hj).1) (show j < n by omega), loss_cg h (show j < n by omega)]
theorem way_cg {mi sp hd di dr mi' sp' hd' di' dr' : Nat → Int32} {t : Int32} {n : Nat} (h : ∀ i, i < n → mi i = mi' i ∧ sp i = sp' i ∧ hd i = hd' i) (hm : ∀ i, i < n → hN (mi i) < 24) (ht : ∀ j, j < 24 → di j = di' j ∧ dr j = dr' j) : ∀ k, k < n → wayS mi sp hd di dr t k = wayS mi' sp' hd' di' dr' t k := by
  intro k
  induction k with
  | zero => intro _; rfl
  | succ k ih =>
    intro hk
    have e := ht _ (hm k (by omega))
    rw [wayS, wayS, ih (by omega), e.1, e.2, (h k (by omega)).1, (h k (by omega)).2.1, (h k (by omega)).2.2, (h (k + 1) hk).1]
theorem sm_cg {wa wa' : Nat → Int32} {sd : Int32} : ∀ n, (∀ i, i < n → wa i = wa' i) → smO wa sd n = smO wa' sd n := by
  intro n
  induction n with
  | zero => intro _; rfl
  | succ n ih =>
    intro h
    rw [smO, smO, ih (fun i hi => h i (by omega)), h n (by omega)]
theorem ct_cg {wa wa' : Nat → Int32} {sd : Int32} : ∀ n, (∀ i, i < n → wa i = wa' i) → ctO wa sd n = ctO wa' sd n := by
  intro n
  induction n with
  | zero => intro _; rfl
  | succ n ih =>
    intro h
    rw [ctO, ctO, ih (fun i hi => h i (by omega)), h n (by omega)]
theorem vn_cg {wa wa' : Nat → Int32} {n : Nat} (h : ∀ i, i < n → wa i = wa' i) : vnF wa n = vnF wa' n := by
  rw [vnF, vnF, meanF, meanF, meanF, meanF, sm_cg n h, sm_cg n h, ct_cg n h, ct_cg n h]
theorem upB_cg {g g' : Nat → Int32} {lo : Nat} : ∀ j, (∀ i, i < j → g (lo + i) = g' (lo + i)) → upB g lo j = upB g' lo j := by
  intro j
  induction j with
  | zero => intro _; rfl
  | succ j ih =>
    intro h
    rw [upB, upB, ih (fun i hi => h i (by omega)), h j (by omega)]
/-! the relation -/
def rel0 (κ τ : sQ) (n : Nat) : Prop := n ≤ 60 ∧ κ 0 0 = nI n ∧ τ 0 0 = nI n ∧ κ 0 1 = τ 0 1 ∧ κ 0 2 = τ 0 2 ∧ κ 0 3 = τ 0 3 ∧ (500 ≤ τ 0 1 ∧ τ 0 1 ≤ 1500)
def relT (κ τ : sQ) : Prop := ∀ h, h < 24 → κ 2 h = τ 6 h ∧ κ 3 h = τ 7 h ∧ (0 ≤ τ 7 h ∧ τ 7 h ≤ 100)
def relE (κ τ : sQ) (n : Nat) : Prop := ∀ i, i < n → κ 4 i = τ 1 i ∧ κ 5 i = τ 2 i ∧ κ 6 i = τ 3 i ∧ κ 7 i = τ 4 i ∧ κ 8 i = τ 5 i
def relR (κ τ : sQ) (n : Nat) : Prop := ∀ i, i < n → κ 9 i = tSp τ i ∧ κ 10 i = tHd τ i ∧ κ 11 i = tWs τ i ∧ κ 12 i = tWa τ i
def relO (τ : sQ) (n : Nat) : Prop := ∀ i, i < n → (∃ k, k < 1440 ∧ τ 1 i = nI k) ∧ (0 ≤ τ 2 i ∧ τ 2 i ≤ 300) ∧ (0 ≤ τ 4 i ∧ τ 4 i ≤ 600)
def relB (κ : sQ) (n : Nat) : Prop := ∀ r c, r < 19 → c < 10 → κ 1 (r * 10 + c) = fmx (κ 9) (κ 11) (κ 12) (nI r) (nI c) n
def sRel (κ τ : sQ) (n : Nat) : Prop := rel0 κ τ n ∧ relT κ τ ∧ relE κ τ n ∧ relR κ τ n ∧ relO τ n ∧ relB κ n
theorem sRel_0 : sRel κ0 κ0 0 := by
  refine ⟨⟨by omega, rfl, rfl, rfl, rfl, rfl, by decide +kernel⟩, fun h _ => ⟨rfl, rfl, ?_⟩, fun i hi => absurd hi (by omega), fun i hi => absurd hi (by omega), fun i hi => absurd hi (by omega), fun r c _ _ => rfl⟩
  show (0 : Int32) ≤ 0 ∧ (0 : Int32) ≤ 100
  decide +kernel
/-- the table's next entry -/
theorem relB_s {μ : sQ} {j : Nat} (hB : relB μ j) (hk : kOk μ j) : relB (kL (kR μ j) j) (j + 1) := by
  intro r c hr hc
  obtain ⟨e1, l1⟩ := kR_row μ j
  obtain ⟨e2, l2⟩ := kR_col hk
  rw [fmx, ← fmx_cg (sp := kR μ j 9) (ws := kR μ j 11) (wa := kR μ j 12) j (fun i _ => ⟨(kL_ne _ _ _ (by omega)).symm, (kL_ne _ _ _ (by omega)).symm, (kL_ne _ _ _ (by omega)).symm⟩), fmx_cg (sp := kR μ j 9) (sp' := μ 9) (ws' := μ 11) (wa' := μ 12) j (fun i hi => ⟨kR_ne _ _ (by omega), kR_ne _ _ (by omega), kR_ne _ _ (by omega)⟩), kL_ne _ _ _ (show 9 ≠ 1 by omega), kL_ne _ _ _ (show 11 ≠ 1 by omega), kL_ne _ _ _ (show 12 ≠ 1 by omega), e1, e2, ← hB r c hr hc]
  show kset (kR μ j) 1 (rN (kR μ j 12 j) * 10 + cN (kR μ j 11 j)) _ 1 (r * 10 + c) = _
  by_cases h : rN (kR μ j 12 j) = r ∧ cN (kR μ j 11 j) = c
  · obtain ⟨q1, q2⟩ := h
    rw [q1, q2, kset_self, if_pos (show nI r = nI r ∧ nI c = nI c from ⟨rfl, rfl⟩), kR_lo _ _ _ (by omega)]
  · rw [kset_ne _ _ (by omega), kR_lo _ _ _ (by omega), if_neg]
    intro q
    have q1 := (nI_eq (by omega) (by omega)).mp q.1
    have q2 := (nI_eq (by omega) (by omega)).mp q.2
    exact h ⟨q1, q2⟩
theorem relR_v {κ τ : sQ} {i : Nat} (h0 : κ 0 1 = τ 0 1 ∧ κ 0 2 = τ 0 2 ∧ κ 0 3 = τ 0 3) (hE : κ 4 i = τ 1 i ∧ κ 5 i = τ 2 i ∧ κ 6 i = τ 3 i ∧ κ 7 i = τ 4 i ∧ κ 8 i = τ 5 i) : kSp κ i = tSp τ i ∧ t360 (κ 6 i + κ 0 2) = tHd τ i ∧ wWs (kAh κ i) (kAc κ i) = tWs τ i ∧ ANG (kAh κ i) (kAc κ i) = tWa τ i := by
  obtain ⟨h1, h2, h3⟩ := h0
  obtain ⟨-, e2, e3, e4, e5⟩ := hE
  have a1 : kSp κ i = tSp τ i := by unfold kSp tSp; rw [e2, h1]
  have a2 : kAh κ i = tAh τ i := by unfold kAh tAh; rw [a1, e4, e5, h3]
  have a3 : kAc κ i = tAc τ i := by unfold kAc tAc; rw [e4, e5, h3]
  refine ⟨a1, ?_, ?_, ?_⟩
  · unfold tHd; rw [e3, h2]
  · unfold tWs; rw [a2, a3]
  · unfold tWa; rw [a2, a3]
theorem kLR_v (μ : sQ) (j : Nat) : kL (kR μ j) j 9 j = kSp μ j ∧ kL (kR μ j) j 10 j = t360 (μ 6 j + μ 0 2) ∧ kL (kR μ j) j 11 j = wWs (kAh μ j) (kAc μ j) ∧ kL (kR μ j) j 12 j = ANG (kAh μ j) (kAc μ j) := ⟨by rw [kL_ne _ _ _ (by omega), kR_9], by rw [kL_ne _ _ _ (by omega), kR_10], by rw [kL_ne _ _ _ (by omega), kR_11], by rw [kL_ne _ _ _ (by omega), kR_12]⟩
theorem kLR_lo (μ : sQ) (j : Nat) {a : Nat} (x : Nat) (h : a < 9) (h1 : a ≠ 1) : kL (kR μ j) j a x = μ a x := by rw [kL_ne _ _ _ h1, kR_lo _ _ _ h]
theorem kLR_ne (μ : sQ) {j x : Nat} (a : Nat) (h : x ≠ j) (h1 : a ≠ 1) : kL (kR μ j) j a x = μ a x := by rw [kL_ne _ _ _ h1, kR_ne _ _ h]
/-- all entries reckoned anew -/
theorem relR_all {κ τ : sQ} {n : Nat} (h0 : κ 0 1 = τ 0 1 ∧ κ 0 2 = τ 0 2 ∧ κ 0 3 = τ 0 3) (hE : relE κ τ n) (hk : ∀ i, i < n → kOk κ i) : ∀ j, j ≤ n → relR (kAll κ j) τ j ∧ relB (kAll κ j) j := by
  intro j
  induction j with
  | zero =>
    intro _
    refine ⟨fun i hi => absurd hi (by omega), fun r c hr hc => ?_⟩
    show (if 1 = 1 ∧ r * 10 + c < 190 then (0 : Int32) else κ 1 (r * 10 + c)) = 0
    rw [if_pos ⟨rfl, by omega⟩]
  | succ j ih =>
    intro hj
    obtain ⟨i1, i2⟩ := ih (by omega)
    refine ⟨fun i hi => ?_, relB_s i2 (kAll_ok j (hk j (by omega)))⟩
    show kL (kR (kAll κ j) j) j 9 i = _ ∧ kL (kR (kAll κ j) j) j 10 i = _ ∧ kL (kR (kAll κ j) j) j 11 i = _ ∧ kL (kR (kAll κ j) j) j 12 i = _
    by_cases h : i = j
    · subst h
      obtain ⟨v1, v2, v3, v4⟩ := kLR_v (kAll κ i) i
      rw [v1, v2, v3, v4]
      have lo : ∀ a x, a < 9 → a ≠ 1 → kAll κ i a x = κ a x := kAll_lo κ i
      obtain ⟨e1, e2, e3, e4, e5⟩ := hE i (by omega)
      refine relR_v ⟨?_, ?_, ?_⟩ ⟨?_, ?_, ?_, ?_, ?_⟩
      all_goals rw [lo _ _ (by omega) (by omega)]
      · exact h0.1
      · exact h0.2.1
      · exact h0.2.2
      · exact e1
      · exact e2
      · exact e3
      · exact e4
      · exact e5
    · rw [kLR_ne _ _ h (by omega), kLR_ne _ _ h (by omega), kLR_ne _ _ h (by omega), kLR_ne _ _ h (by omega)]
      exact i1 i (by omega)
theorem sRel_faults {κ τ : sQ} {n : Nat} {f c v : Int32} (h : sRel κ τ n) (hf : 500 ≤ f ∧ f ≤ 1500) : sRel (kAll (kF κ f c v) n) (tF τ f c v) n := by
  obtain ⟨⟨n60, k0, t0, -⟩, hT, hE, -, hO, -⟩ := h
  have lo : ∀ a x, a < 9 → a ≠ 1 → kAll (kF κ f c v) n a x = kF κ f c v a x := kAll_lo _ n
  have kn : ∀ a x, a ≠ 0 → kF κ f c v a x = κ a x := fun a x ha => by unfold kF; rw [kset_ne _ _ (by omega), kset_ne _ _ (by omega), kset_ne _ _ (by omega)]
  have tn : ∀ a x, a ≠ 0 → tF τ f c v a x = τ a x := fun a x ha => by unfold tF; rw [kset_ne _ _ (by omega), kset_ne _ _ (by omega), kset_ne _ _ (by omega)]
  have kz : kF κ f c v 0 0 = κ 0 0 ∧ kF κ f c v 0 1 = f ∧ kF κ f c v 0 2 = c ∧ kF κ f c v 0 3 = v := ⟨by simp [kF, kset], by simp [kF, kset], by simp [kF, kset], by simp [kF, kset]⟩
  have tz : tF τ f c v 0 0 = τ 0 0 ∧ tF τ f c v 0 1 = f ∧ tF τ f c v 0 2 = c ∧ tF τ f c v 0 3 = v := ⟨by simp [tF, kset], by simp [tF, kset], by simp [tF, kset], by simp [tF, kset]⟩
  have hE' : relE (kF κ f c v) (tF τ f c v) n := fun i hi => by
    rw [kn 4 i (by omega), kn 5 i (by omega), kn 6 i (by omega), kn 7 i (by omega), kn 8 i (by omega), tn 1 i (by omega), tn 2 i (by omega), tn 3 i (by omega), tn 4 i (by omega), tn 5 i (by omega)]
    exact hE i hi
  have hk : ∀ i, i < n → kOk (kF κ f c v) i := fun i hi => by
    obtain ⟨-, e2, -, e4, -⟩ := hE i hi
    obtain ⟨-, o2, o4⟩ := hO i hi
    refine ⟨?_, ?_, ?_⟩
    · rw [kn 5 i (by omega), e2]; exact o2
    · rw [kn 7 i (by omega), e4]; exact o4
    · rw [kz.2.1]; exact hf
  obtain ⟨r1, r2⟩ := relR_all ⟨kz.2.1.trans tz.2.1.symm, kz.2.2.1.trans tz.2.2.1.symm, kz.2.2.2.trans tz.2.2.2.symm⟩ hE' hk n (Nat.le_refl _)
  refine ⟨⟨n60, ?_, ?_, ?_, ?_, ?_, ?_⟩, fun h hh => ?_, fun i hi => ?_, r1, fun i hi => ?_, r2⟩
  · rw [lo 0 0 (by omega) (by omega), kz.1]; exact k0
  · rw [tz.1]; exact t0
  · rw [lo 0 1 (by omega) (by omega), kz.2.1, tz.2.1]
  · rw [lo 0 2 (by omega) (by omega), kz.2.2.1, tz.2.2.1]
  · rw [lo 0 3 (by omega) (by omega), kz.2.2.2, tz.2.2.2]
  · rw [tz.2.1]; exact hf
  · rw [lo 2 h (by omega) (by omega), lo 3 h (by omega) (by omega), kn 2 h (by omega), kn 3 h (by omega), tn 6 h (by omega), tn 7 h (by omega)]
    exact hT h hh
  · rw [lo 4 i (by omega) (by omega), lo 5 i (by omega) (by omega), lo 6 i (by omega) (by omega), lo 7 i (by omega) (by omega), lo 8 i (by omega) (by omega)]
    exact hE' i hi
  · rw [tn 1 i (by omega), tn 2 i (by omega), tn 4 i (by omega)]
    exact hO i hi
theorem sRel_tide {κ τ : sQ} {n : Nat} {x : Nat} {d r : Int32} (h : sRel κ τ n) (hr : 0 ≤ r ∧ r ≤ 100) : sRel (kset (kset κ 2 x d) 3 x r) (kset (kset τ 6 x d) 7 x r) n := by
  obtain ⟨h0, hT, hE, hR, hO, hB⟩ := h
  have kn : ∀ a y, a ≠ 2 → a ≠ 3 → kset (kset κ 2 x d) 3 x r a y = κ a y := fun a y h1 h2 => by rw [kset_ne _ _ (by omega), kset_ne _ _ (by omega)]
  have tn : ∀ a y, a ≠ 6 → a ≠ 7 → kset (kset τ 6 x d) 7 x r a y = τ a y := fun a y h1 h2 => by rw [kset_ne _ _ (by omega), kset_ne _ _ (by omega)]
  have tS : ∀ i, tSp (kset (kset τ 6 x d) 7 x r) i = tSp τ i := fun i => by unfold tSp; rw [tn 2 i (by omega) (by omega), tn 0 1 (by omega) (by omega)]
  refine ⟨?_, fun h hh => ?_, fun i hi => ?_, fun i hi => ?_, fun i hi => ?_, fun r2 c2 h1 h2 => ?_⟩
  · unfold rel0
    rw [kn 0 0 (by omega) (by omega), kn 0 1 (by omega) (by omega), kn 0 2 (by omega) (by omega), kn 0 3 (by omega) (by omega), tn 0 0 (by omega) (by omega), tn 0 1 (by omega) (by omega), tn 0 2 (by omega) (by omega), tn 0 3 (by omega) (by omega)]
    exact h0
  · by_cases e : h = x
    · subst e
      refine ⟨?_, ?_, ?_⟩
      · rw [kset_ne _ _ (by omega), kset_self, kset_ne _ _ (by omega), kset_self]
      · rw [kset_self, kset_self]
      · rw [kset_self]; exact hr
    · rw [kset_ne _ _ (by omega), kset_ne _ _ (by omega), kset_ne _ _ (by omega), kset_ne _ _ (by omega), kset_ne _ _ (by omega), kset_ne _ _ (by omega), kset_ne _ _ (by omega), kset_ne _ _ (by omega)]
      exact hT h hh
  · rw [kn 4 i (by omega) (by omega), kn 5 i (by omega) (by omega), kn 6 i (by omega) (by omega), kn 7 i (by omega) (by omega), kn 8 i (by omega) (by omega), tn 1 i (by omega) (by omega), tn 2 i (by omega) (by omega), tn 3 i (by omega) (by omega), tn 4 i (by omega) (by omega), tn 5 i (by omega) (by omega)]
    exact hE i hi
  · have tA : tAh (kset (kset τ 6 x d) 7 x r) i = tAh τ i := by unfold tAh; rw [tS, tn 4 i (by omega) (by omega), tn 5 i (by omega) (by omega), tn 0 3 (by omega) (by omega)]
    have tC : tAc (kset (kset τ 6 x d) 7 x r) i = tAc τ i := by unfold tAc; rw [tn 4 i (by omega) (by omega), tn 5 i (by omega) (by omega), tn 0 3 (by omega) (by omega)]
    rw [kn 9 i (by omega) (by omega), kn 10 i (by omega) (by omega), kn 11 i (by omega) (by omega), kn 12 i (by omega) (by omega), tS]
    unfold tHd tWs tWa
    rw [tA, tC, tn 3 i (by omega) (by omega), tn 0 2 (by omega) (by omega)]
    exact hR i hi
  · rw [tn 1 i (by omega) (by omega), tn 2 i (by omega) (by omega), tn 4 i (by omega) (by omega)]
    exact hO i hi
  · rw [kn 1 _ (by omega) (by omega), hB r2 c2 h1 h2]
    exact fmx_cg n (fun i _ => ⟨(kn 9 i (by omega) (by omega)).symm, (kn 11 i (by omega) (by omega)).symm, (kn 12 i (by omega) (by omega)).symm⟩)
theorem tLog_v (τ : sQ) (n : Nat) (x1 x2 x3 x4 x5 : Int32) : tLog τ n x1 x2 x3 x4 x5 0 0 = nI (n + 1) ∧ tLog τ n x1 x2 x3 x4 x5 1 n = x1 ∧ tLog τ n x1 x2 x3 x4 x5 2 n = x2 ∧ tLog τ n x1 x2 x3 x4 x5 3 n = x3 ∧ tLog τ n x1 x2 x3 x4 x5 4 n = x4 ∧ tLog τ n x1 x2 x3 x4 x5 5 n = x5 := by simp [tLog, kset]
theorem tLog_z (τ : sQ) (n : Nat) (x1 x2 x3 x4 x5 : Int32) {j : Nat} (h : j ≠ 0) : tLog τ n x1 x2 x3 x4 x5 0 j = τ 0 j := by
  unfold tLog
  rw [kset_ne _ _ (by omega), kset_ne _ _ (by omega), kset_ne _ _ (by omega), kset_ne _ _ (by omega), kset_ne _ _ (by omega), kset_ne _ _ (by omega)]
theorem tLog_hi (τ : sQ) (n : Nat) (x1 x2 x3 x4 x5 : Int32) {a : Nat} (y : Nat) (h : 5 < a) : tLog τ n x1 x2 x3 x4 x5 a y = τ a y := by
  unfold tLog
  rw [kset_ne _ _ (by omega), kset_ne _ _ (by omega), kset_ne _ _ (by omega), kset_ne _ _ (by omega), kset_ne _ _ (by omega), kset_ne _ _ (by omega)]
theorem tLog_ne (τ : sQ) {n : Nat} (x1 x2 x3 x4 x5 : Int32) {a y : Nat} (h0 : a ≠ 0) (h : y ≠ n) : tLog τ n x1 x2 x3 x4 x5 a y = τ a y := by
  unfold tLog
  rw [kset_ne _ _ (by omega), kset_ne _ _ (by omega), kset_ne _ _ (by omega), kset_ne _ _ (by omega), kset_ne _ _ (by omega), kset_ne _ _ (by omega)]
theorem kT_v (κ : sQ) (n : Nat) (x1 x2 x3 x4 x5 : Int32) : kT κ n x1 x2 x3 x4 x5 4 n = x1 ∧ kT κ n x1 x2 x3 x4 x5 5 n = x2 ∧ kT κ n x1 x2 x3 x4 x5 6 n = x3 ∧ kT κ n x1 x2 x3 x4 x5 7 n = x4 ∧ kT κ n x1 x2 x3 x4 x5 8 n = x5 := by simp [kT, kset]
theorem relE_log {κ τ : sQ} {n : Nat} {x1 x2 x3 x4 x5 : Int32} (hE : relE κ τ n) : relE (kT κ n x1 x2 x3 x4 x5) (tLog τ n x1 x2 x3 x4 x5) (n + 1) := by
  intro i hi
  by_cases e : i = n
  · subst e
    obtain ⟨-, t1, t2, t3, t4, t5⟩ := tLog_v τ i x1 x2 x3 x4 x5
    obtain ⟨k1, k2, k3, k4, k5⟩ := kT_v κ i x1 x2 x3 x4 x5
    rw [t1, t2, t3, t4, t5, k1, k2, k3, k4, k5]
    exact ⟨rfl, rfl, rfl, rfl, rfl⟩
  · rw [kT_ne _ _ _ _ _ _ _ e, kT_ne _ _ _ _ _ _ _ e, kT_ne _ _ _ _ _ _ _ e, kT_ne _ _ _ _ _ _ _ e, kT_ne _ _ _ _ _ _ _ e, tLog_ne _ _ _ _ _ _ (by omega) e, tLog_ne _ _ _ _ _ _ (by omega) e, tLog_ne _ _ _ _ _ _ (by omega) e, tLog_ne _ _ _ _ _ _ (by omega) e, tLog_ne _ _ _ _ _ _ (by omega) e]
    exact hE i (by omega)
theorem sRel_log {κ τ : sQ} {n : Nat} {x1 x2 x3 x4 x5 : Int32} (h : sRel κ τ n) (hn : n < 60) (h1 : 0 ≤ x1 ∧ x1 ≤ 1439) (h2 : 0 ≤ x2 ∧ x2 ≤ 300) (h4 : 0 ≤ x4 ∧ x4 ≤ 600) : sRel (kLog κ n x1 x2 x3 x4 x5) (tLog τ n x1 x2 x3 x4 x5) (n + 1) := by
  obtain ⟨⟨-, k0, t0, f1, f2, f3, hf⟩, hT, hE, hR, hO, hB⟩ := h
  have hE' := relE_log (x1 := x1) (x2 := x2) (x3 := x3) (x4 := x4) (x5 := x5) hE
  have lz : ∀ a x, ¬ (a = 0 ∧ x = 0) → kLog κ n x1 x2 x3 x4 x5 a x = kL (kR (kT κ n x1 x2 x3 x4 x5) n) n a x := fun a x q => by unfold kLog; rw [kset_ne _ _ q]
  have kz : ∀ j, kT κ n x1 x2 x3 x4 x5 0 j = κ 0 j := fun j => kT_hi _ _ _ _ _ _ _ _ (by omega)
  have hB0 : relB (kT κ n x1 x2 x3 x4 x5) n := fun r c hr hc => by
    rw [kT_hi _ _ _ _ _ _ _ _ (by omega), hB r c hr hc]
    exact fmx_cg n (fun i _ => ⟨(kT_hi _ _ _ _ _ _ _ _ (by omega)).symm, (kT_hi _ _ _ _ _ _ _ _ (by omega)).symm, (kT_hi _ _ _ _ _ _ _ _ (by omega)).symm⟩)
  have hB1 := relB_s hB0 (kT_ok (x1 := x1) (x3 := x3) (x5 := x5) h2 h4 (by rw [f1]; exact hf))
  have tS : ∀ i, i < n → tSp (tLog τ n x1 x2 x3 x4 x5) i = tSp τ i := fun i hi => by unfold tSp; rw [tLog_ne _ _ _ _ _ _ (by omega) (by omega), tLog_z _ _ _ _ _ _ _ (by omega)]
  refine ⟨⟨by omega, by unfold kLog; exact kset_self _ _ _ _, (tLog_v τ n x1 x2 x3 x4 x5).1, ?_, ?_, ?_, ?_⟩, fun q hq => ?_, fun i hi => ?_, fun i hi => ?_, fun i hi => ?_, fun r c hr hc => ?_⟩
  · rw [lz _ _ (by omega), kLR_lo _ _ _ (by omega) (by omega), kz, tLog_z _ _ _ _ _ _ _ (by omega)]; exact f1
  · rw [lz _ _ (by omega), kLR_lo _ _ _ (by omega) (by omega), kz, tLog_z _ _ _ _ _ _ _ (by omega)]; exact f2
  · rw [lz _ _ (by omega), kLR_lo _ _ _ (by omega) (by omega), kz, tLog_z _ _ _ _ _ _ _ (by omega)]; exact f3
  · rw [tLog_z _ _ _ _ _ _ _ (by omega)]; exact hf
  · rw [lz _ _ (by omega), lz _ _ (by omega), kLR_lo _ _ _ (by omega) (by omega), kLR_lo _ _ _ (by omega) (by omega), kT_hi _ _ _ _ _ _ _ _ (by omega), kT_hi _ _ _ _ _ _ _ _ (by omega), tLog_hi _ _ _ _ _ _ _ _ (by omega), tLog_hi _ _ _ _ _ _ _ _ (by omega)]
    exact hT q hq
  · rw [lz _ _ (by omega), lz _ _ (by omega), lz _ _ (by omega), lz _ _ (by omega), lz _ _ (by omega), kLR_lo _ _ _ (by omega) (by omega), kLR_lo _ _ _ (by omega) (by omega), kLR_lo _ _ _ (by omega) (by omega), kLR_lo _ _ _ (by omega) (by omega), kLR_lo _ _ _ (by omega) (by omega)]
    exact hE' i hi
  · rw [lz _ _ (by omega), lz _ _ (by omega), lz _ _ (by omega), lz _ _ (by omega)]
    by_cases e : i = n
    · subst e
      obtain ⟨v1, v2, v3, v4⟩ := kLR_v (kT κ i x1 x2 x3 x4 x5) i
      rw [v1, v2, v3, v4]
      exact relR_v ⟨by rw [kz, tLog_z _ _ _ _ _ _ _ (by omega)]; exact f1, by rw [kz, tLog_z _ _ _ _ _ _ _ (by omega)]; exact f2, by rw [kz, tLog_z _ _ _ _ _ _ _ (by omega)]; exact f3⟩ (hE' i (by omega))
    · have hi' : i < n := by omega
      have tA : tAh (tLog τ n x1 x2 x3 x4 x5) i = tAh τ i := by unfold tAh; rw [tS i hi', tLog_ne _ _ _ _ _ _ (by omega) e, tLog_ne _ _ _ _ _ _ (by omega) e, tLog_z _ _ _ _ _ _ _ (by omega)]
      have tC : tAc (tLog τ n x1 x2 x3 x4 x5) i = tAc τ i := by unfold tAc; rw [tLog_ne _ _ _ _ _ _ (by omega) e, tLog_ne _ _ _ _ _ _ (by omega) e, tLog_z _ _ _ _ _ _ _ (by omega)]
      rw [kLR_ne _ _ e (by omega), kLR_ne _ _ e (by omega), kLR_ne _ _ e (by omega), kLR_ne _ _ e (by omega), kT_hi _ _ _ _ _ _ _ _ (by omega), kT_hi _ _ _ _ _ _ _ _ (by omega), kT_hi _ _ _ _ _ _ _ _ (by omega), kT_hi _ _ _ _ _ _ _ _ (by omega), tS i hi']
      unfold tHd tWs tWa
      rw [tA, tC, tLog_ne _ _ _ _ _ _ (by omega) e, tLog_z _ _ _ _ _ _ _ (by omega)]
      exact hR i hi'
  · by_cases e : i = n
    · subst e
      obtain ⟨-, t1, t2, t3, t4, t5⟩ := tLog_v τ i x1 x2 x3 x4 x5
      rw [t1, t2, t4]
      obtain ⟨q1, q2⟩ := rng_ok 1439 (by decide +kernel) (by omega) h1
      exact ⟨⟨iN x1, q2, q1⟩, h2, h4⟩
    · rw [tLog_ne _ _ _ _ _ _ (by omega) e, tLog_ne _ _ _ _ _ _ (by omega) e, tLog_ne _ _ _ _ _ _ (by omega) e]
      exact hO i (by omega)
  · rw [lz _ _ (by omega), hB1 r c hr hc]
    exact fmx_cg (n + 1) (fun i _ => ⟨(lz _ _ (by omega)).symm, (lz _ _ (by omega)).symm, (lz _ _ (by omega)).symm⟩)
end SBridge

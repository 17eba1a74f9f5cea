/-! ===== the wind as it is, and what log, setFaults and setTide make of the state ===== -/
section SSpec6
theorem cs_b (z : Int32) : -1000 ≤ (cs z).toInt ∧ (cs z).toInt ≤ 1000 := by
  rw [← cs_t]
  exact cI_b (k360_lt z)
theorem sn_b (z : Int32) : -1000 ≤ (sn z).toInt ∧ (sn z).toInt ≤ 1000 := by
  rw [← sn_t]
  exact sI_b (k360_lt z)
def wSp (told fa : Int32) : Int32 := told * fa / 1000
def wAh (st an sp va : Int32) : Int64 := st.toInt64 * (cs (an + va)).toInt64 - 1000 * sp.toInt64
def wAc (st an va : Int32) : Int64 := st.toInt64 * (sn (an + va)).toInt64
def wWs (a b : Int64) : Int32 := (RT (a * a + b * b) / 1000).toInt32
theorem rng_int {x : Int32} {a b : Int32} {n m : Int} (ha : a.toInt = n) (hb : b.toInt = m) (h : a ≤ x ∧ x ≤ b) : n ≤ x.toInt ∧ x.toInt ≤ m := by
  obtain ⟨h1, h2⟩ := h
  rw [i32_le] at h1 h2
  omega
theorem wSp_b {told fa : Int32} (h1 : 0 ≤ told ∧ told ≤ 300) (h2 : 500 ≤ fa ∧ fa ≤ 1500) : 0 ≤ (wSp told fa).toInt ∧ (wSp told fa).toInt ≤ 450 := by
  have a1 := rng_int (n := 0) (m := 300) (by decide +kernel) (by decide +kernel) h1
  have a2 := rng_int (n := 500) (m := 1500) (by decide +kernel) (by decide +kernel) h2
  have b1 : 0 ≤ told.toInt * fa.toInt := Int.mul_nonneg a1.1 (by omega)
  have b2 : told.toInt * fa.toInt ≤ 300 * 1500 := Int.mul_le_mul a1.2 a2.2 (by omega) (by omega)
  have e1 : (told * fa).toInt = told.toInt * fa.toInt := i32_mul (by omega) (by omega)
  have e2 : (1000 : Int32).toInt = 1000 := by decide +kernel
  unfold wSp
  rw [div_int (by rw [e1]; omega) (by rw [e2]; omega), e1, e2]
  omega
theorem mul_bd2 {X c M N : Int} (hX : -M ≤ X ∧ X ≤ M) (hc : -N ≤ c ∧ c ≤ N) (hM : 0 ≤ M) (hN : 0 ≤ N) : -(M * N) ≤ X * c ∧ X * c ≤ M * N := by
  have h1 : X.natAbs ≤ M.natAbs := by omega
  have h2 : c.natAbs ≤ N.natAbs := by omega
  have h3 : (X * c).natAbs ≤ M.natAbs * N.natAbs := by rw [Int.natAbs_mul]; exact Nat.mul_le_mul h1 h2
  have h4 : ((M.natAbs * N.natAbs : Nat) : Int) = M * N := by rw [Int.natCast_mul, Int.natAbs_of_nonneg hM, Int.natAbs_of_nonneg hN]
  omega
theorem wAc_int {st : Int32} (an va : Int32) (h : 0 ≤ st ∧ st ≤ 600) : (wAc st an va).toInt = st.toInt * (sn (an + va)).toInt ∧ -600000 ≤ (wAc st an va).toInt ∧ (wAc st an va).toInt ≤ 600000 := by
  have a1 := rng_int (n := 0) (m := 600) (by decide +kernel) (by decide +kernel) h
  have b := sn_b (an + va)
  have m := mul_bd2 (X := st.toInt) (M := 600) (N := 1000) (by omega) b (by omega) (by omega)
  have e : (wAc st an va).toInt = st.toInt * (sn (an + va)).toInt := by
    unfold wAc
    rw [i64_mul (by rw [i64_w, i64_w]; omega) (by rw [i64_w, i64_w]; omega), i64_w, i64_w]
  rw [e]
  omega
theorem wAh_b {st sp : Int32} (an va : Int32) (h : 0 ≤ st ∧ st ≤ 600) (h2 : 0 ≤ sp.toInt ∧ sp.toInt ≤ 450) : -1050000 ≤ (wAh st an sp va).toInt ∧ (wAh st an sp va).toInt ≤ 1050000 := by
  have a1 := rng_int (n := 0) (m := 600) (by decide +kernel) (by decide +kernel) h
  have b := cs_b (an + va)
  have m := mul_bd2 (X := st.toInt) (M := 600) (N := 1000) (by omega) b (by omega) (by omega)
  have e0 : (1000 : Int64).toInt = 1000 := by decide +kernel
  have e : (st.toInt64 * (cs (an + va)).toInt64).toInt = st.toInt * (cs (an + va)).toInt := by
    rw [i64_mul (by rw [i64_w, i64_w]; omega) (by rw [i64_w, i64_w]; omega), i64_w, i64_w]
  have e2 : (1000 * sp.toInt64).toInt = 1000 * sp.toInt := by
    rw [i64_mul (by rw [i64_w, e0]; omega) (by rw [i64_w, e0]; omega), i64_w, e0]
  unfold wAh
  rw [i64_sub (by rw [e, e2]; omega) (by rw [e, e2]; omega), e, e2]
  omega
theorem sq_nn (x : Int) : 0 ≤ x * x := by
  rcases Int.le_total 0 x with h | h
  · exact Int.mul_nonneg h h
  · have := Int.mul_nonneg (show 0 ≤ -x by omega) (show 0 ≤ -x by omega)
    rw [Int.neg_mul_neg] at this
    exact this
theorem sq_int {a b : Int64} (ha : -1050000 ≤ a.toInt ∧ a.toInt ≤ 1050000) (hb : -600000 ≤ b.toInt ∧ b.toInt ≤ 600000) : 0 ≤ (a * a + b * b).toInt ∧ (a * a + b * b).toInt < 2 ^ 42 := by
  have m1 := mul_bd2 (M := 1050000) (N := 1050000) (by omega) ha (by omega) (by omega)
  have m2 := mul_bd2 (M := 600000) (N := 600000) (by omega) hb (by omega) (by omega)
  have p1 : 0 ≤ a.toInt * a.toInt := sq_nn _
  have p2 : 0 ≤ b.toInt * b.toInt := sq_nn _
  have e1 : (a * a).toInt = a.toInt * a.toInt := i64_mul (by omega) (by omega)
  have e2 : (b * b).toInt = b.toInt * b.toInt := i64_mul (by omega) (by omega)
  rw [i64_add (by rw [e1, e2]; omega) (by rw [e1, e2]; omega), e1, e2]
  omega
theorem wWs_nn {a b : Int64} (ha : -1050000 ≤ a.toInt ∧ a.toInt ≤ 1050000) (hb : -600000 ≤ b.toInt ∧ b.toInt ≤ 600000) : 0 ≤ (wWs a b).toInt := by
  obtain ⟨h1, h2⟩ := sq_int ha hb
  obtain ⟨k, hk, e, -, -⟩ := RT_spec h1 h2
  unfold wWs
  rw [e, show (1000 : Int64) = lN 1000 from by decide +kernel, pk_lDiv (by omega) (by omega) (by omega), lN_i, nI_toInt (by omega)]
  omega
/-- one entry reckoned anew -/
def kSp (κ : sQ) (i : Nat) : Int32 := wSp (κ 5 i) (κ 0 1)
def kAh (κ : sQ) (i : Nat) : Int64 := wAh (κ 7 i) (κ 8 i) (kSp κ i) (κ 0 3)
def kAc (κ : sQ) (i : Nat) : Int64 := wAc (κ 7 i) (κ 8 i) (κ 0 3)
def kR (κ : sQ) (i : Nat) : sQ := kset (kset (kset (kset κ 9 i (kSp κ i)) 10 i (t360 (κ 6 i + κ 0 2))) 11 i (wWs (kAh κ i) (kAc κ i))) 12 i (ANG (kAh κ i) (kAc κ i))
theorem kR_12 (κ : sQ) (i : Nat) : kR κ i 12 i = ANG (kAh κ i) (kAc κ i) := by simp [kR, kset]
theorem kR_11 (κ : sQ) (i : Nat) : kR κ i 11 i = wWs (kAh κ i) (kAc κ i) := by simp [kR, kset]
theorem kR_10 (κ : sQ) (i : Nat) : kR κ i 10 i = t360 (κ 6 i + κ 0 2) := by simp [kR, kset]
theorem kR_9 (κ : sQ) (i : Nat) : kR κ i 9 i = kSp κ i := by simp [kR, kset]
theorem kR_lo (κ : sQ) (i : Nat) {a : Nat} (x : Nat) (h : a < 9) : kR κ i a x = κ a x := by
  unfold kR
  rw [kset_ne _ _ (by omega), kset_ne _ _ (by omega), kset_ne _ _ (by omega), kset_ne _ _ (by omega)]
theorem kR_ne (κ : sQ) {i x : Nat} (a : Nat) (h : x ≠ i) : kR κ i a x = κ a x := by
  unfold kR
  rw [kset_ne _ _ (by omega), kset_ne _ _ (by omega), kset_ne _ _ (by omega), kset_ne _ _ (by omega)]
def cN (w : Int32) : Nat := (colI w).toNatClampNeg
theorem rN_k {x : Int32} (h : ∃ k, k < 360 ∧ x = nI k) : rowI x = nI (rN x) ∧ rN x < 19 := by
  obtain ⟨k, hk, rfl⟩ := h
  obtain ⟨j, hj, e⟩ := rowI_lt k hk
  unfold rN
  rw [e, nI_clamp (by omega)]
  exact ⟨rfl, hj⟩
theorem cN_k {w : Int32} (h : 0 ≤ w.toInt) : colI w = nI (cN w) ∧ cN w < 10 := by
  obtain ⟨j, hj, e⟩ := colI_lt h
  unfold cN
  rw [e, nI_clamp (by omega)]
  exact ⟨rfl, hj⟩
/-- the ranges of one entry, and of the factor, that reckon asks for -/
def kOk (κ : sQ) (i : Nat) : Prop := (0 ≤ κ 5 i ∧ κ 5 i ≤ 300) ∧ (0 ≤ κ 7 i ∧ κ 7 i ≤ 600) ∧ (500 ≤ κ 0 1 ∧ κ 0 1 ≤ 1500)
theorem kAh_b {κ : sQ} {i : Nat} (h : kOk κ i) : -1050000 ≤ (kAh κ i).toInt ∧ (kAh κ i).toInt ≤ 1050000 := wAh_b _ _ h.2.1 (wSp_b h.1 h.2.2)
theorem kAc_b {κ : sQ} {i : Nat} (h : kOk κ i) : -600000 ≤ (kAc κ i).toInt ∧ (kAc κ i).toInt ≤ 600000 := (wAc_int _ _ h.2.1).2
theorem kR_row (κ : sQ) (i : Nat) : rowI (kR κ i 12 i) = nI (rN (kR κ i 12 i)) ∧ rN (kR κ i 12 i) < 19 := rN_k (by rw [kR_12]; exact ANG_lt _ _)
theorem kR_col {κ : sQ} {i : Nat} (h : kOk κ i) : colI (kR κ i 11 i) = nI (cN (kR κ i 11 i)) ∧ cN (kR κ i 11 i) < 10 := cN_k (by rw [kR_11]; exact wWs_nn (kAh_b h) (kAc_b h))
/-- the table learns an entry -/
def kL (κ : sQ) (i : Nat) : sQ := kset κ 1 (rN (κ 12 i) * 10 + cN (κ 11 i)) (if κ 1 (rN (κ 12 i) * 10 + cN (κ 11 i)) < κ 9 i then κ 9 i else κ 1 (rN (κ 12 i) * 10 + cN (κ 11 i)))
theorem kL_ne (κ : sQ) (i : Nat) {a : Nat} (x : Nat) (h : a ≠ 1) : kL κ i a x = κ a x := by
  unfold kL
  rw [kset_ne _ _ (by omega)]
def kAll (κ : sQ) : Nat → sQ
  | 0 => kfill κ 1 190
  | i + 1 => kL (kR (kAll κ i) i) i
theorem kAll_lo (κ : sQ) : ∀ (j a x : Nat), a < 9 → a ≠ 1 → kAll κ j a x = κ a x := by
  intro j
  induction j with
  | zero =>
    intro a x h1 h2
    show (if a = 1 ∧ x < 190 then 0 else κ a x) = κ a x
    rw [if_neg (by omega)]
  | succ j ih =>
    intro a x h1 h2
    show kL (kR (kAll κ j) j) j a x = κ a x
    rw [kL_ne _ _ _ h2, kR_lo _ _ _ h1, ih a x h1 h2]
theorem kAll_ok {κ : sQ} {i : Nat} (j : Nat) (h : kOk κ i) : kOk (kAll κ j) i := by
  unfold kOk
  rw [kAll_lo κ j 5 i (by omega) (by omega), kAll_lo κ j 7 i (by omega) (by omega), kAll_lo κ j 0 1 (by omega) (by omega)]
  exact h
def kF (κ : sQ) (f c v : Int32) : sQ := kset (kset (kset κ 0 1 f) 0 2 c) 0 3 v
/-- the told values of a new entry -/
def kT (κ : sQ) (n : Nat) (x1 x2 x3 x4 x5 : Int32) : sQ := kset (kset (kset (kset (kset κ 4 n x1) 5 n x2) 6 n x3) 7 n x4) 8 n x5
def kLog (κ : sQ) (n : Nat) (x1 x2 x3 x4 x5 : Int32) : sQ := kset (kL (kR (kT κ n x1 x2 x3 x4 x5) n) n) 0 0 (nI (n + 1))
theorem kT_hi (κ : sQ) (n : Nat) (x1 x2 x3 x4 x5 : Int32) {a : Nat} (x : Nat) (h : a < 4 ∨ 8 < a) : kT κ n x1 x2 x3 x4 x5 a x = κ a x := by
  unfold kT
  rw [kset_ne _ _ (by omega), kset_ne _ _ (by omega), kset_ne _ _ (by omega), kset_ne _ _ (by omega), kset_ne _ _ (by omega)]
theorem kT_ne (κ : sQ) {n : Nat} (x1 x2 x3 x4 x5 : Int32) (a : Nat) {x : Nat} (h : x ≠ n) : kT κ n x1 x2 x3 x4 x5 a x = κ a x := by
  unfold kT
  rw [kset_ne _ _ (by omega), kset_ne _ _ (by omega), kset_ne _ _ (by omega), kset_ne _ _ (by omega), kset_ne _ _ (by omega)]
theorem kT_ok {κ : sQ} {n : Nat} {x1 x2 x3 x4 x5 : Int32} (h2 : 0 ≤ x2 ∧ x2 ≤ 300) (h4 : 0 ≤ x4 ∧ x4 ≤ 600) (hf : 500 ≤ κ 0 1 ∧ κ 0 1 ≤ 1500) : kOk (kT κ n x1 x2 x3 x4 x5) n := by
  refine ⟨?_, ?_, ?_⟩
  · rw [show kT κ n x1 x2 x3 x4 x5 5 n = x2 by simp [kT, kset]]; exact h2
  · rw [show kT κ n x1 x2 x3 x4 x5 7 n = x4 by simp [kT, kset]]; exact h4
  · rw [kT_hi κ n x1 x2 x3 x4 x5 1 (by omega)]; exact hf
theorem kLog_00 (κ : sQ) (n : Nat) (x1 x2 x3 x4 x5 : Int32) : kL (kR (kT κ n x1 x2 x3 x4 x5) n) n 0 0 = κ 0 0 := by
  rw [kL_ne _ _ _ (by omega), kR_lo _ _ _ (by omega), kT_hi _ _ _ _ _ _ _ _ (by omega)]
end SSpec6

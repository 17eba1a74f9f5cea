/-! ===== the reference's own words ===== -/
section SSpec7
def rE (c : Prop) [Decidable c] : Int32 := if c then 0 else 1
def rL (a b : Prop) [Decidable a] [Decidable b] : Int32 := if a then (if b then 0 else 2) else 1
theorem rE_0 {c : Prop} [Decidable c] : rE c = 0 ↔ c := by unfold rE; split <;> simp [*]
theorem rL_0 {a b : Prop} [Decidable a] [Decidable b] : rL a b = 0 ↔ a ∧ b := by
  unfold rL
  split
  · split <;> simp [*]
  · simp [*]
theorem rL_a {a b : Prop} [Decidable a] [Decidable b] (h : ¬ a) : 1 = rL a b := (if_neg h).symm
theorem rL_b {a b : Prop} [Decidable a] [Decidable b] (h : a) (h2 : b) : 0 = rL a b := by rw [rL, if_pos h, if_pos h2]
theorem rL_c {a b : Prop} [Decidable a] [Decidable b] (h : a) (h2 : ¬ b) : 2 = rL a b := by rw [rL, if_pos h, if_neg h2]
theorem rE_a {c : Prop} [Decidable c] (h : c) : 0 = rE c := (if_pos h).symm
theorem rE_b {c : Prop} [Decidable c] (h : ¬ c) : 1 = rE c := (if_neg h).symm
theorem rw_f {T : Int32 → Int32} {rw sp z : Int32} (h : rw = -1 ∨ sp = T rw) (e : rowI (t360 z) = rw) : sp = T (rowI (t360 z)) := by
  rcases h with h | h
  · exfalso
    obtain ⟨e2, h2⟩ := rN_ok z
    rw [h, e2] at e
    have := congrArg Int32.toInt e
    rw [nI_toInt (by omega), show (-1 : Int32).toInt = -1 from by decide +kernel] at this
    omega
  · rw [e]
    exact h
def tSp (κ : sQ) (i : Nat) : Int32 := wSp (κ 2 i) (κ 0 1)
def tHd (κ : sQ) (i : Nat) : Int32 := t360 (κ 3 i + κ 0 2)
def tAh (κ : sQ) (i : Nat) : Int64 := wAh (κ 4 i) (κ 5 i) (tSp κ i) (κ 0 3)
def tAc (κ : sQ) (i : Nat) : Int64 := wAc (κ 4 i) (κ 5 i) (κ 0 3)
def tWs (κ : sQ) (i : Nat) : Int32 := wWs (tAh κ i) (tAc κ i)
def tWa (κ : sQ) (i : Nat) : Int32 := ANG (tAh κ i) (tAc κ i)
def tOk (κ : sQ) (i : Nat) : Prop := (0 ≤ κ 2 i ∧ κ 2 i ≤ 300) ∧ (0 ≤ κ 4 i ∧ κ 4 i ≤ 600) ∧ (500 ≤ κ 0 1 ∧ κ 0 1 ≤ 1500)
theorem tAh_b {κ : sQ} {i : Nat} (h : tOk κ i) : -1050000 ≤ (tAh κ i).toInt ∧ (tAh κ i).toInt ≤ 1050000 := wAh_b _ _ h.2.1 (wSp_b h.1 h.2.2)
theorem tAc_b {κ : sQ} {i : Nat} (h : tOk κ i) : -600000 ≤ (tAc κ i).toInt ∧ (tAc κ i).toInt ≤ 600000 := (wAc_int _ _ h.2.1).2
theorem tSq {κ : sQ} {i : Nat} (h : tOk κ i) : 0 ≤ (tAh κ i * tAh κ i + tAc κ i * tAc κ i).toInt ∧ (tAh κ i * tAh κ i + tAc κ i * tAc κ i).toInt < 2 ^ 42 := sq_int (tAh_b h) (tAc_b h)
theorem mB_y {a b : Int64} {j bst : Nat} {mo rr : Int64} (hj : 1 ≤ j) (h : mB a b (j - 1) = bst) (hm : mo = rch a b bst) (hr : rr = rch a b j) (hc : ¬ rr ≤ mo) : mB a b (j + 1 - 1) = j := by
  obtain ⟨q, rfl⟩ : ∃ q, j = q + 1 := ⟨j - 1, by omega⟩
  rw [show q + 1 + 1 - 1 = q + 1 by omega, mB]
  rw [show q + 1 - 1 = q by omega] at h
  rw [h, ← hm, ← hr, if_pos]
  rw [i64_le] at hc
  rw [i64_lt]
  omega
theorem mB_n {a b : Int64} {j bst : Nat} {mo rr : Int64} (hj : 1 ≤ j) (h : mB a b (j - 1) = bst) (hm : mo = rch a b bst) (hr : rr = rch a b j) (hc : rr ≤ mo) : mB a b (j + 1 - 1) = bst := by
  obtain ⟨q, rfl⟩ : ∃ q, j = q + 1 := ⟨j - 1, by omega⟩
  rw [show q + 1 + 1 - 1 = q + 1 by omega, mB]
  rw [show q + 1 - 1 = q by omega] at h
  rw [h, ← hm, ← hr, if_neg]
  rw [i64_le] at hc
  rw [i64_lt]
  omega
theorem sn_w {x d : Int32} (hd : d = x - x / 180 * 180) (h : ¬ 180 ≤ x) : 4000 * (d * (180 - d)) / (40500 - d * (180 - d)) = sW x := by rw [sW, if_pos (nle h), hd]
theorem sn_wn {x d : Int32} (hd : d = x - x / 180 * 180) (h : 180 ≤ x) : -(4000 * (d * (180 - d)) / (40500 - d * (180 - d))) = sW x := by
  rw [sW, if_neg, hd]
  rw [i32_le] at h
  rw [i32_lt]
  omega
theorem sn_ne : ∀ k, k < 360 → ¬ 40500 - (nI k - nI k / 180 * 180) * (180 - (nI k - nI k / 180 * 180)) = (0 : Int32) := by decide +kernel
theorem opn_a {a : Int32} (h : ¬ 360 - a ≤ a) : a = opn a := by rw [opn, if_pos (nle h)]
theorem opn_b {a : Int32} (h : 360 - a ≤ a) : 360 - a = opn a := by
  rw [opn, if_neg]
  rw [i32_le] at h
  rw [i32_lt]
  omega
theorem side_k : ∀ k, k < 360 → (nI k - nI k / 180 * 180 = 0 → 0 = sdI (nI k)) ∧ (¬ nI k - nI k / 180 * 180 = 0 → ¬ 180 ≤ nI k → 1 = sdI (nI k)) ∧ (¬ nI k - nI k / 180 * 180 = 0 → 180 ≤ nI k → 2 = sdI (nI k)) := by decide +kernel
theorem side_x {x : Int32} (h : ∃ k, k < 360 ∧ x = nI k) : (x - x / 180 * 180 = 0 → 0 = sdI x) ∧ (¬ x - x / 180 * 180 = 0 → ¬ 180 ≤ x → 1 = sdI x) ∧ (¬ x - x / 180 * 180 = 0 → 180 ≤ x → 2 = sdI x) := by
  obtain ⟨k, hk, rfl⟩ := h
  exact side_k k hk
theorem mid_a {x : Int32} (h : x = 18) : 180 = midI x := by rw [h]; decide +kernel
theorem mid_k : ∀ r, r < 19 → ¬ nI r = 18 → 10 * nI r + 5 = midI (nI r) := by decide +kernel
theorem col_a {w : Int32} (h : 10 ≤ w / 40) : 9 = colI w := by
  rw [colI, if_neg]
  rw [i32_le] at h
  rw [i32_lt]
  omega
theorem col_b {w : Int32} (h : ¬ 10 ≤ w / 40) : w / 40 = colI w := by rw [colI, if_pos (nle h)]
theorem fmx_keep {sp ws wa : Nat → Int32} {r c g : Int32} {j : Nat} (h : fmx sp ws wa r c j = g) (h2 : sp j ≤ g) : fmx sp ws wa r c (j + 1) = g := by
  rw [fmx, h]
  split
  · rw [if_neg]
    rw [i32_le] at h2
    rw [i32_lt]
    omega
  · rfl
theorem fmx_new {sp ws wa : Nat → Int32} {r c g : Int32} {j : Nat} (h : fmx sp ws wa r c j = g) (h1 : rowI (wa j) = r ∧ colI (ws j) = c) (h2 : ¬ sp j ≤ g) : fmx sp ws wa r c (j + 1) = sp j := by rw [fmx, h, if_pos h1, if_pos (nle h2)]
/-- the first of the least below 0, and it -/
def dnB (g : Nat → Int32) (lo : Nat) : Nat → Int32 × Int32
  | 0 => (-1, 0)
  | j + 1 => if g (lo + j) < (dnB g lo j).2 then (nI (lo + j), g (lo + j)) else dnB g lo j
theorem dnB_yes {g : Nat → Int32} {lo j : Nat} {b m v : Int32} (h : dnB g lo j = (b, m)) (hv : v = g (lo + j)) (hl : ¬ m ≤ v) : dnB g lo (j + 1) = (nI (lo + j), v) := by
  rw [dnB, h, if_pos (by rw [← hv]; exact nle hl), ← hv]
theorem dnB_no {g : Nat → Int32} {lo j : Nat} {b m v : Int32} (h : dnB g lo j = (b, m)) (hv : v = g (lo + j)) (hl : m ≤ v) : dnB g lo (j + 1) = (b, m) := by
  rw [dnB, h, if_neg]
  rw [← hv]
  show ¬ v < m
  rw [i32_le] at hl
  rw [i32_lt]
  omega
theorem slow_m {mi sp : Nat → Int32} {b v : Int32} {i j : Nat} (hs : slowS mi sp b i j = v) (h : b - sp (i + j) ≤ 0) : slowS mi sp b i (j + 1) = v + 0 := by
  rw [slowS, hs]
  congr 1
  by_cases h2 : b - sp (i + j) < 0
  · rw [if_pos h2, Int32.zero_mul]
  · rw [if_neg h2, show b - sp (i + j) = 0 from i32_ext (by rw [i32_le] at h; rw [i32_lt] at h2; omega), Int32.zero_mul]
theorem slow_p {mi sp : Nat → Int32} {b v : Int32} {i j : Nat} (hs : slowS mi sp b i j = v) (h : ¬ b - sp (i + j) ≤ 0) : slowS mi sp b i (j + 1) = v + (b - sp (i + j)) * (mi (i + j) - mi (i + j - 1)) := by
  rw [slowS, hs, if_neg]
  rw [i32_le] at h
  rw [i32_lt]
  omega
theorem loss_y {wa mi sp : Nat → Int32} {n i : Nat} (h : ¬ kindF wa i = 0) : slowS mi sp (sp (i - 1)) i (endF n i - i) = lossF wa mi sp n i := by rw [lossF, if_neg h]
theorem cost_y2 {wa mi sp : Nat → Int32} {n i : Nat} {k v : Int32} (h : costF wa mi sp n k i = v) (h2 : kindF wa i = k) (hk : ¬ k = 0) : costF wa mi sp n k (i + 1) = v + slowS mi sp (sp (i - 1)) i (endF n i - i) := by rw [costF, if_pos h2, h, loss_y (by rw [h2]; exact hk)]
theorem cost_n2 {wa mi sp : Nat → Int32} {n i : Nat} {k v : Int32} (h : costF wa mi sp n k i = v) (h2 : ¬ kindF wa i = k) : costF wa mi sp n k (i + 1) = v + 0 := by rw [costF, if_neg h2, h, Int32.add_zero]
theorem cost_1 {wa mi sp : Nat → Int32} {n : Nat} {k : Int32} (hk : ¬ k = 0) : costF wa mi sp n k 1 = 0 := by
  rw [costF, if_neg (fun q => hk (q.symm.trans (kind_0 (wa := wa) rfl).symm))]
  rfl
theorem cost_e {wa mi sp : Nat → Int32} {n j : Nat} {k : Int32} (hk : ¬ k = 0) (h : n ≤ j) (hj : j ≤ n ∨ (j = 1 ∧ n = 0)) : costF wa mi sp n k j = costF wa mi sp n k n := by
  rcases hj with h2 | ⟨h2, h3⟩
  · rw [show j = n by omega]
  · rw [h2, h3, cost_1 hk]
    rfl
def wD (x : Int64) : Int64 := if x < 0 then -((5999 - x) / 6000) else x / 6000
theorem wD_a {x : Int64} (h : x < 0) : -((5999 - x) / 6000) = wD x := by rw [wD, if_pos h]
theorem wD_b {x : Int64} (h : ¬ x < 0) : x / 6000 = wD x := by rw [wD, if_neg h]
/-- a side's sums as the reference adds them -/
theorem sm_c {wa : Nat → Int32} {sd v a : Int32} {i : Nat} (h : smO wa sd i = v) (ha : a = if sdI (wa i) = sd then opn (wa i) else 0) : smO wa sd (i + 1) = v + a := by
  rw [smO, h, ha]
  split
  · rfl
  · rw [Int32.add_zero]
theorem ct_c {wa : Nat → Int32} {sd v a : Int32} {i : Nat} (h : nI (ctO wa sd i) = v) (ha : a = if sdI (wa i) = sd then 1 else 0) : nI (ctO wa sd (i + 1)) = v + a := by
  rw [ctO, ha, ← h]
  split
  · exact (nI_1 _).symm
  · rw [Int32.add_zero]
def h2M (t : Int32) : Int32 := if t < 0 then -((1 - t) / 2) else t / 2
def vnM (wa : Nat → Int32) (n : Nat) : Int32 := if nI (ctO wa 2 n) = 0 ∨ nI (ctO wa 1 n) = 0 then -1000 else h2M (smO wa 2 n / nI (ctO wa 2 n) - smO wa 1 n / nI (ctO wa 1 n))
def tF (κ : sQ) (f c v : Int32) : sQ := kset (kset (kset κ 0 1 f) 0 2 c) 0 3 v
def tLog (κ : sQ) (n : Nat) (x1 x2 x3 x4 x5 : Int32) : sQ := kset (kset (kset (kset (kset (kset κ 1 n x1) 2 n x2) 3 n x3) 4 n x4) 5 n x5) 0 0 (nI (n + 1))
theorem root_mid {a b : Nat} (ha : a ≤ 4000000) (hb : b ≤ 4000000) : (lN a + lN b + 1) / 2 = lN ((a + b + 1) / 2) := by
  rw [lN_add, lN_1, show (2 : Int64) = lN 2 from by decide +kernel]
  exact pk_lDiv (by omega) (by omega) (by omega)
theorem root_lo {sq : Int64} {k q : Nat} (h5 : sq.toInt < ((k + 1) * (k + 1) : Nat)) (hq : q ≤ 4000000) (h : ¬ sq < lN q * lN q) : q ≤ k := by
  rcases Nat.lt_or_ge k q with g | g
  · exfalso
    apply h
    have := Nat.mul_le_mul (show k + 1 ≤ q from g) (show k + 1 ≤ q from g)
    have hm := Nat.mul_le_mul hq hq
    rw [lN_mul, i64_lt, lN_I (by omega)]
    omega
  · exact g
theorem root_hi {sq : Int64} {k q : Nat} (h4 : ((k * k : Nat) : Int) ≤ sq.toInt) (hq : q ≤ 4000000) (h : sq < lN q * lN q) : k < q := by
  rcases Nat.lt_or_ge k q with g | g
  · exact g
  · exfalso
    have := Nat.mul_le_mul g g
    have hm := Nat.mul_le_mul hq hq
    rw [lN_mul, i64_lt, lN_I (by omega)] at h
    omega
end SSpec7

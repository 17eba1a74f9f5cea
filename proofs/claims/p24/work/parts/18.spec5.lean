/-! ===== table, turns, places, means: as sums and searches over the entries ===== -/
section SSpec5
def iN (x : Int32) : Nat := x.toNatClampNeg
theorem iN_n {k : Nat} (h : k < 2 ^ 31) : iN (nI k) = k := nI_clamp h
theorem sub1_int {n : Nat} (hn : n ≤ 60) : (nI n - 1).toInt = (n : Int) - 1 := by
  rw [i32_sub (by rw [nI_toInt (by omega), show (1 : Int32).toInt = 1 from by decide +kernel]; omega) (by rw [nI_toInt (by omega), show (1 : Int32).toInt = 1 from by decide +kernel]; omega), nI_toInt (by omega), show (1 : Int32).toInt = 1 from by decide +kernel]
/-- an argument that passed the check is an entry's number -/
theorem ent_ok {x c : Int32} {n : Nat} (h : 0 ≤ x ∧ x ≤ c - 1) (hc : c = nI n) (hn : n ≤ 60) : x = nI (iN x) ∧ iN x < n := by
  obtain ⟨h1, h2⟩ := h
  rw [hc] at h2
  rw [i32_le, Int32.toInt_zero] at h1
  rw [i32_le, sub1_int hn] at h2
  obtain ⟨k, hk, rfl⟩ := i32_nat (x := x) (n := n) h1 (by omega) (by omega)
  rw [iN_n (by omega)]
  exact ⟨rfl, hk⟩
theorem rng_ok {x : Int32} (m : Nat) {M : Int32} (hM : M = nI m) (hm : m < 2 ^ 30) (h : 0 ≤ x ∧ x ≤ M) : x = nI (iN x) ∧ iN x < m + 1 := by
  obtain ⟨h1, h2⟩ := h
  rw [hM] at h2
  rw [i32_le, Int32.toInt_zero] at h1
  rw [i32_le, nI_toInt (by omega)] at h2
  obtain ⟨k, hk, rfl⟩ := i32_nat (x := x) (n := m + 1) h1 (by omega) (by omega)
  rw [iN_n (by omega)]
  exact ⟨rfl, hk⟩
theorem nI_pre {i : Nat} (h : 1 ≤ i) : nI i - 1 = nI (i - 1) := by
  cases i with
  | zero => omega
  | succ i => exact nI_pred i
/-- the greatest true speed of the first entries in a field -/
def fmx (sp ws wa : Nat → Int32) (r c : Int32) : Nat → Int32
  | 0 => 0
  | n + 1 => if rowI (wa n) = r ∧ colI (ws n) = c then (if fmx sp ws wa r c n < sp n then sp n else fmx sp ws wa r c n) else fmx sp ws wa r c n
theorem fmx_no {sp ws wa : Nat → Int32} {r c g : Int32} {j : Nat} (h : fmx sp ws wa r c j = g) (hn : ¬ (rowI (wa j) = r ∧ colI (ws j) = c)) : fmx sp ws wa r c (j + 1) = g := by rw [fmx, if_neg hn, h]
theorem fmx_yes {sp ws wa : Nat → Int32} {r c g : Int32} {j : Nat} (h : fmx sp ws wa r c j = g) (h1 : rowI (wa j) = r) (h2 : colI (ws j) = c) : fmx sp ws wa r c (j + 1) = if g < sp j then sp j else g := by rw [fmx, if_pos ⟨h1, h2⟩, h]
/-- the first of the greatest above 0, and it -/
def upB (g : Nat → Int32) (lo : Nat) : Nat → Int32 × Int32
  | 0 => (-1, 0)
  | j + 1 => if (upB g lo j).2 < g (lo + j) then (nI (lo + j), g (lo + j)) else upB g lo j
theorem upB_yes {g : Nat → Int32} {lo j : Nat} {b m v : Int32} (h : upB g lo j = (b, m)) (hv : v = g (lo + j)) (hl : ¬ v ≤ m) : upB g lo (j + 1) = (nI (lo + j), v) := by
  rw [upB, h, if_pos (by rw [← hv]; exact nle hl), ← hv]
theorem upB_no {g : Nat → Int32} {lo j : Nat} {b m v : Int32} (h : upB g lo j = (b, m)) (hv : v = g (lo + j)) (hl : v ≤ m) : upB g lo (j + 1) = (b, m) := by
  rw [upB, h, if_neg]
  rw [← hv]
  show ¬ m < v
  rw [i32_le] at hl
  rw [i32_lt]
  omega
def rN (x : Int32) : Nat := (rowI x).toNatClampNeg
theorem rN_ok (z : Int32) : rowI (t360 z) = nI (rN (t360 z)) ∧ rN (t360 z) < 19 := by
  obtain ⟨j, hj, e⟩ := rowI_lt (k360 z) (k360_lt z)
  unfold rN
  rw [show t360 z = nI (k360 z) from rfl, e, nI_clamp (by omega)]
  exact ⟨rfl, hj⟩
/-- what kind of turn an entry is -/
def kindF (wa : Nat → Int32) (i : Nat) : Int32 := if i = 0 then 0 else if sdI (wa i) = 0 ∨ sdI (wa (i - 1)) = 0 ∨ sdI (wa i) = sdI (wa (i - 1)) then 0 else if opn (wa (i - 1)) + opn (wa i) < 180 then 1 else 2
theorem kind_0 {wa : Nat → Int32} {i : Nat} (h : i = 0) : 0 = kindF wa i := by rw [kindF, if_pos h]
theorem kind_n {wa : Nat → Int32} {i : Nat} (h : ¬ i = 0) (h2 : sdI (wa i) = 0 ∨ sdI (wa (i - 1)) = 0 ∨ sdI (wa i) = sdI (wa (i - 1))) : 0 = kindF wa i := by rw [kindF, if_neg h, if_pos h2]
theorem kind_t {wa : Nat → Int32} {i : Nat} (h : ¬ i = 0) (h1 : ¬ sdI (wa i) = 0) (h2 : ¬ sdI (wa (i - 1)) = 0) (h3 : ¬ sdI (wa i) = sdI (wa (i - 1))) (h4 : ¬ 180 ≤ opn (wa (i - 1)) + opn (wa i)) : 1 = kindF wa i := by
  rw [kindF, if_neg h, if_neg (fun q => q.elim h1 (fun q => q.elim h2 h3)), if_pos (nle h4)]
theorem kind_g {wa : Nat → Int32} {i : Nat} (h : ¬ i = 0) (h1 : ¬ sdI (wa i) = 0) (h2 : ¬ sdI (wa (i - 1)) = 0) (h3 : ¬ sdI (wa i) = sdI (wa (i - 1))) (h4 : 180 ≤ opn (wa (i - 1)) + opn (wa i)) : 2 = kindF wa i := by
  rw [kindF, if_neg h, if_neg (fun q => q.elim h1 (fun q => q.elim h2 h3)), if_neg]
  rw [i32_le] at h4
  rw [i32_lt]
  omega
theorem kind_pos {wa : Nat → Int32} {i : Nat} (h : ¬ kindF wa i = 0) : 1 ≤ i := by
  cases i with
  | zero => exact absurd (kind_0 rfl).symm h
  | succ i => omega
theorem nI_z {i : Nat} (h : i < 2 ^ 31) : nI i = 0 ↔ i = 0 := by
  rw [show (0 : Int32) = nI 0 from by decide +kernel]
  exact nI_eq h (by omega)
/-- what is lost in the entries from i on -/
def slowS (mi sp : Nat → Int32) (b : Int32) (i : Nat) : Nat → Int32
  | 0 => 0
  | j + 1 => slowS mi sp b i j + (if b - sp (i + j) < 0 then 0 else b - sp (i + j)) * (mi (i + j) - mi (i + j - 1))
def endF (n i : Nat) : Nat := if n < i + 3 then n else i + 3
theorem end_min {n i : Nat} (hn : n ≤ 60) (hi : i ≤ 60) : (if nI n < nI i + 3 then nI n else nI i + 3) = nI (endF n i) := by
  rw [show nI i + 3 = nI (i + 3) from by rw [show (3 : Int32) = nI 3 from by decide +kernel, nI_add]]
  unfold endF
  by_cases h : n < i + 3
  · rw [if_pos ((nI_ltI (by omega) (by omega)).mpr h), if_pos h]
  · rw [if_neg (mt (nI_ltI (by omega) (by omega)).mp h), if_neg h]
def lossF (wa mi sp : Nat → Int32) (n i : Nat) : Int32 := if kindF wa i = 0 then 0 else slowS mi sp (sp (i - 1)) i (endF n i - i)
theorem loss_0 {wa mi sp : Nat → Int32} {n i : Nat} (h : kindF wa i = 0) : 0 = lossF wa mi sp n i := by rw [lossF, if_pos h]
theorem loss_n {wa mi sp : Nat → Int32} {n i j : Nat} {v : Int32} (h : ¬ kindF wa i = 0) (hs : slowS mi sp (sp (i - 1)) i j = v) (hj : i + j = endF n i) : v = lossF wa mi sp n i := by
  rw [lossF, if_neg h, ← hs, show endF n i - i = j by omega]
theorem slow_s {mi sp : Nat → Int32} {b v : Int32} {i j : Nat} (hs : slowS mi sp b i j = v) : slowS mi sp b i (j + 1) = v + (if b - sp (i + j) < 0 then 0 else b - sp (i + j)) * (mi (i + j) - mi (i + j - 1)) := by rw [slowS, hs]
def costF (wa mi sp : Nat → Int32) (n : Nat) (k : Int32) : Nat → Int32
  | 0 => 0
  | i + 1 => if kindF wa i = k then costF wa mi sp n k i + lossF wa mi sp n i else costF wa mi sp n k i
theorem cost_y {wa mi sp : Nat → Int32} {n i : Nat} {k v : Int32} (h : costF wa mi sp n k i = v) (h2 : kindF wa i = k) : costF wa mi sp n k (i + 1) = v + lossF wa mi sp n i := by rw [costF, if_pos h2, h]
theorem cost_n {wa mi sp : Nat → Int32} {n i : Nat} {k v : Int32} (h : costF wa mi sp n k i = v) (h2 : ¬ kindF wa i = k) : costF wa mi sp n k (i + 1) = v := by rw [costF, if_neg h2, h]
/-- the ways up to an entry -/
def hN (m : Int32) : Nat := (m / 60).toNatClampNeg
def wayS (mi sp hd di dr : Nat → Int32) (t : Int32) : Nat → Int64
  | 0 => 0
  | k + 1 => wayS mi sp hd di dr t k + ((sp k).toInt64 * (sn (hd k + t)).toInt64 + (dr (hN (mi k))).toInt64 * (sn (di (hN (mi k)) + t)).toInt64) * (mi (k + 1) - mi k).toInt64
theorem way_s {mi sp hd di dr : Nat → Int32} {t : Int32} {k : Nat} {v : Int64} (h : wayS mi sp hd di dr t k = v) : wayS mi sp hd di dr t (k + 1) = v + ((sp k).toInt64 * (sn (hd k + t)).toInt64 + (dr (hN (mi k))).toInt64 * (sn (di (hN (mi k)) + t)).toInt64) * (mi (k + 1) - mi k).toInt64 := by rw [wayS, h]
theorem hN_ok {m : Int32} (h : ∃ k, k < 1440 ∧ m = nI k) : m / 60 = nI (hN m) ∧ hN m < 24 := by
  obtain ⟨k, hk, rfl⟩ := h
  have e : nI k / 60 = nI (k / 60) := by
    rw [show (60 : Int32) = nI 60 from by decide +kernel]
    exact pk_div (by omega) (by omega) (by omega)
  unfold hN
  rw [e, nI_clamp (by omega)]
  exact ⟨rfl, by omega⟩
def fd6 (x : Int64) : Int64 := if 0 ≤ x then x / 6000 else if x / 6000 * 6000 = x then x / 6000 else x / 6000 - 1
theorem fd6_a {x : Int64} (h : 0 ≤ x ^^^ 6000) : x / 6000 = fd6 x := by rw [fd6, if_pos ((xorL_sign x 6000 (by decide +kernel)).mp h)]
theorem fd6_b {x : Int64} (h : ¬ 0 ≤ x ^^^ 6000) (h2 : x / 6000 * 6000 = x) : x / 6000 = fd6 x := by rw [fd6, if_neg (mt (xorL_sign x 6000 (by decide +kernel)).mpr h), if_pos h2]
theorem fd6_c {x : Int64} (h : ¬ 0 ≤ x ^^^ 6000) (h2 : ¬ x / 6000 * 6000 = x) : x / 6000 - 1 = fd6 x := by rw [fd6, if_neg (mt (xorL_sign x 6000 (by decide +kernel)).mpr h), if_neg h2]
def fd2 (x : Int32) : Int32 := if 0 ≤ x then x / 2 else if x / 2 * 2 = x then x / 2 else x / 2 - 1
theorem fd2_a {x : Int32} (h : 0 ≤ x ^^^ 2) : x / 2 = fd2 x := by rw [fd2, if_pos ((xor_sign x 2 (by decide +kernel)).mp h)]
theorem fd2_b {x : Int32} (h : ¬ 0 ≤ x ^^^ 2) (h2 : x / 2 * 2 = x) : x / 2 = fd2 x := by rw [fd2, if_neg (mt (xor_sign x 2 (by decide +kernel)).mpr h), if_pos h2]
theorem fd2_c {x : Int32} (h : ¬ 0 ≤ x ^^^ 2) (h2 : ¬ x / 2 * 2 = x) : x / 2 - 1 = fd2 x := by rw [fd2, if_neg (mt (xor_sign x 2 (by decide +kernel)).mpr h), if_neg h2]
/-- open angles of a side: sum and number -/
def smO (wa : Nat → Int32) (sd : Int32) : Nat → Int32
  | 0 => 0
  | i + 1 => if sdI (wa i) = sd then smO wa sd i + opn (wa i) else smO wa sd i
def ctO (wa : Nat → Int32) (sd : Int32) : Nat → Nat
  | 0 => 0
  | i + 1 => if sdI (wa i) = sd then ctO wa sd i + 1 else ctO wa sd i
theorem sm_y {wa : Nat → Int32} {sd v : Int32} {i : Nat} (h : smO wa sd i = v) (h2 : sdI (wa i) = sd) : smO wa sd (i + 1) = v + opn (wa i) := by rw [smO, if_pos h2, h]
theorem sm_n {wa : Nat → Int32} {sd v : Int32} {i : Nat} (h : smO wa sd i = v) (h2 : ¬ sdI (wa i) = sd) : smO wa sd (i + 1) = v := by rw [smO, if_neg h2, h]
theorem ct_y {wa : Nat → Int32} {sd : Int32} {i v : Nat} (h : ctO wa sd i = v) (h2 : sdI (wa i) = sd) : ctO wa sd (i + 1) = v + 1 := by rw [ctO, if_pos h2, h]
theorem ct_n {wa : Nat → Int32} {sd : Int32} {i v : Nat} (h : ctO wa sd i = v) (h2 : ¬ sdI (wa i) = sd) : ctO wa sd (i + 1) = v := by rw [ctO, if_neg h2, h]
theorem ct_le (wa : Nat → Int32) (sd : Int32) : ∀ i, ctO wa sd i ≤ i := by
  intro i
  induction i with
  | zero => exact Nat.le_refl _
  | succ i ih =>
    rw [ctO]
    split
    · omega
    · omega
def meanF (wa : Nat → Int32) (sd : Int32) (n : Nat) : Int32 := if ctO wa sd n = 0 then -1 else smO wa sd n / nI (ctO wa sd n)
def vnF (wa : Nat → Int32) (n : Nat) : Int32 := if meanF wa 2 n = -1 ∨ meanF wa 1 n = -1 then -1000 else fd2 (meanF wa 2 n - meanF wa 1 n)
end SSpec5

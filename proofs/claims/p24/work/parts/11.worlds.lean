section SWorlds
abbrev sQ : Type := Nat → Nat → Int32
def kset (κ : sQ) (a i : Nat) (v : Int32) : sQ := fun x y => if x = a ∧ y = i then v else κ x y
theorem kset_self (κ : sQ) (a i : Nat) (v : Int32) : kset κ a i v a i = v := by simp [kset]
theorem kset_ne (κ : sQ) {a i x y : Nat} (v : Int32) (h : ¬ (x = a ∧ y = i)) : kset κ a i v x y = κ x y := by simp [kset, h]
def kfill (κ : sQ) (a n : Nat) : sQ := fun x y => if x = a ∧ y < n then 0 else κ x y
theorem kfill_0 (κ : sQ) (a : Nat) : kfill κ a 0 = κ := by funext x y; simp [kfill]
theorem kfill_s (κ : sQ) (a n : Nat) : kset (kfill κ a n) a n 0 = kfill κ a (n + 1) := by
  funext x y
  unfold kset kfill
  by_cases hx : x = a
  · by_cases hy : y = n
    · rw [if_pos ⟨hx, hy⟩, if_pos ⟨hx, by omega⟩]
    · rw [if_neg (fun q => hy q.2)]
      by_cases hn : y < n
      · rw [if_pos ⟨hx, hn⟩, if_pos ⟨hx, by omega⟩]
      · rw [if_neg (fun q => hn q.2), if_neg (fun q => by have := q.2; omega)]
  · rw [if_neg (fun q => hx q.1), if_neg (fun q => hx q.1), if_neg (fun q => hx q.1)]
theorem kset_row (κ : sQ) (a i : Nat) (v : Int32) : upd (κ a) i v = kset κ a i v a := by funext j; simp [upd, kset]
/-- sines of whole degrees, of an angle within the circle, as int arithmetic has it -/
def sW (w : Int32) : Int32 := if w < 180 then 4000 * ((w - w / 180 * 180) * (180 - (w - w / 180 * 180))) / (40500 - (w - w / 180 * 180) * (180 - (w - w / 180 * 180))) else -(4000 * ((w - w / 180 * 180) * (180 - (w - w / 180 * 180))) / (40500 - (w - w / 180 * 180) * (180 - (w - w / 180 * 180))))
/-- the table of sines: a circle and a quarter -/
def snT (i : Nat) : Int32 := sW (nI (i % 360))
abbrev EN (κ : sQ) (i : Nat) : va_E := .inr (2, [.int (κ 4 i), .int (κ 5 i), .int (κ 6 i), .int (κ 7 i), .int (κ 8 i), .int (κ 9 i), .int (κ 10 i), .int (κ 11 i), .int (κ 12 i)])
def CW8 (D : sD) (ad : Nat → Nat) (κ : sQ) : va_W := [(ad 0, .inr (3, [.ref (ad 1), .ref (ad 3), .ref (ad 4), .ref (ad 6), .ref (ad 7), .int (κ 0 0), .int (κ 0 1), .int (κ 0 2), .int (κ 0 3)])), (ad 1, .inr (1, [.ref (ad 2)])), (ad 2, .inl (D.2.1, 450, .inl snT)), (ad 3, .inl (D.2.2.1, 60, .inr (.inr (.inr (.inr (fun k => some (ad (8 + k)))))))), (ad 4, .inr (0, [.ref (ad 5)])), (ad 5, .inl (D.2.1, 190, .inl (κ 1))), (ad 6, .inl (D.2.1, 24, .inl (κ 2))), (ad 7, .inl (D.2.1, 24, .inl (κ 3)))]
def CWe (ad : Nat → Nat) (κ : sQ) : va_W := (List.range 60).map (fun i => (ad (8 + i), EN κ i))
def CW (D : sD) (ad : Nat → Nat) (κ : sQ) : va_W := CW8 D ad κ ++ CWe ad κ
theorem CW_e (D : sD) (ad : Nat → Nat) (κ : sQ) {i : Nat} (hi : i < 60) : (CW D ad κ)[8 + i]? = some (ad (8 + i), EN κ i) := by
  unfold CW
  rw [List.getElem?_append_right (by show 8 ≤ 8 + i; omega)]
  show (CWe ad κ)[8 + i - 8]? = _
  rw [Nat.add_sub_cancel_left]
  simp [CWe, hi]
theorem CW_set_e (D : sD) (ad : Nat → Nat) (κ κ' : sQ) {i : Nat} (h8 : CW8 D ad κ' = CW8 D ad κ) (hne : ∀ j, j < 60 → j ≠ i → EN κ' j = EN κ j) : (CW D ad κ).set (8 + i) (ad (8 + i), EN κ' i) = CW D ad κ' := by
  unfold CW
  rw [h8, List.set_append, if_neg (by show ¬ (8 + i < 8); omega)]
  congr 1
  show (CWe ad κ).set (8 + i - 8) _ = _
  rw [Nat.add_sub_cancel_left]
  apply List.ext_getElem?
  intro j
  by_cases hj : j < 60
  · by_cases hji : j = i
    · subst hji
      rw [List.getElem?_set_self (by simp [CWe]; exact hj)]
      simp [CWe, hj]
    · rw [List.getElem?_set_ne (Ne.symm hji)]
      simp only [CWe, List.getElem?_map, List.getElem?_range hj, Option.map_some, hne j hj hji]
  · rw [List.getElem?_eq_none (by simp [CWe]; omega), List.getElem?_eq_none (by simp [CWe]; omega)]
def adr (n : Nat) (ad : Nat → Nat) (ws : va_W) : Prop := ws.map (·.1) = (List.range n).map ad
theorem CW_adr (D : sD) (ad : Nat → Nat) (κ : sQ) : adr 68 ad (CW D ad κ) := rfl
theorem adr.in {n : Nat} {ad : Nat → Nat} {ws : va_W} (h : adr n ad ws) {k : Nat} {p : Nat × va_E} (hk : ws[k]? = some p) : k < n ∧ p.1 = ad k := by
  have h1 : (ws.map (·.1))[k]? = some p.1 := by rw [List.getElem?_map, hk]; rfl
  rw [h, List.getElem?_map] at h1
  by_cases hn : k < n
  · rw [List.getElem?_range hn] at h1
    exact ⟨hn, (Option.some.inj h1).symm⟩
  · rw [List.getElem?_eq_none (by simp; omega)] at h1
    cases h1
theorem adr.at {n : Nat} {ad : Nat → Nat} {ws : va_W} (h : adr n ad ws) {k : Nat} (hk : k < n) : ∃ p, ws[k]? = some p ∧ p.1 = ad k := by
  have h1 : (ws.map (·.1))[k]? = some (ad k) := by rw [h, List.getElem?_map, List.getElem?_range hk]; rfl
  rw [List.getElem?_map] at h1
  cases hw : ws[k]? with
  | none => rw [hw] at h1; cases h1
  | some p => rw [hw] at h1; exact ⟨p, rfl, Option.some.inj h1⟩
/-- addresses that are apart stay so, whatever their cells come to hold -/
theorem adr.D {n : Nat} {ad : Nat → Nat} {ws ws' : va_W} {A A' : Nat → Prop} (h : adr n ad ws) (h' : adr n ad ws') (hD : va_D A ws) (hA : ∀ k, k < n → A' (ad k)) : va_D A' ws' := by
  refine ⟨fun i j p q hi hj e => ?_, fun k q hk => ?_⟩
  · obtain ⟨li, ei⟩ := h'.in hi
    obtain ⟨lj, ej⟩ := h'.in hj
    obtain ⟨p2, hp2, ep2⟩ := h.at li
    obtain ⟨q2, hq2, eq2⟩ := h.at lj
    exact hD.1 i j p2 q2 hp2 hq2 (by rw [ep2, eq2, ← ei, ← ej]; exact e)
  · obtain ⟨lk, ek⟩ := h'.in hk
    rw [ek]
    exact hA k lk
/-- what a method may write: its world's cells, and what it makes -/
def rA (n : Nat) (ad : Nat → Nat) (sz : Nat) : Nat → Prop := fun q => (∃ i, i < n ∧ q = ad i) ∨ sz ≤ q
def sS (D : sD) (B n : Nat) (ad : Nat → Nat) (ws : va_W) (s : State) (H : Heap) (locs : List Loc) : Prop := sJ D B ws s H ∧ va_S (rA n ad s.heap.size) s.heap H locs ∧ va_D (rA n ad s.heap.size) ws ∧ sZ B s s.heap ∧ ∀ q, rA n ad s.heap.size q → B ≤ q
theorem sS.start {D : sD} {B n : Nat} {ad : Nat → Nat} {ws : va_W} {s : State} (hJ : sJ D B ws s s.heap) (ha : adr n ad ws) : sS D B n ad ws s s.heap [] := by
  refine ⟨hJ, va_S.rf, ha.D ha hJ.2.1 (fun k hk => Or.inl ⟨k, hk, rfl⟩), hJ.2.2.2.2, fun q hq => ?_⟩
  rcases hq with ⟨i, hi, rfl⟩ | hq
  · obtain ⟨p, hp, ep⟩ := ha.at hi
    rw [← ep]
    exact hJ.2.1.2 i p hp
  · exact Nat.le_trans hJ.2.2.1 hq
theorem sS.next {D : sD} {B n : Nat} {ad : Nat → Nat} {ws ws' : va_W} {s : State} {H H1 : Heap} {locs locs1 : List Loc} (h : sS D B n ad ws s H locs) (hP : va_P D.1 vwCl ws' H1) (hD : va_D (rA n ad s.heap.size) ws') (hS : va_S (rA n ad s.heap.size) s.heap H1 locs1) : sS D B n ad ws' s H1 locs1 := by
  obtain ⟨⟨-, -, -, k4, -⟩, -, -, z, f⟩ := h
  exact ⟨⟨hP, hD.weaken (fun _ q _ hq => f q.1 hq), Nat.le_trans (f _ (Or.inr (Nat.le_refl _))) hS.1, k4, z.kept (fun a h1 h2 => hS.2.1 a h1 (fun q => h2 (f a q)))⟩, hS, hD, z, f⟩
theorem sS.frees {D : sD} {B n : Nat} {ad : Nat → Nat} {ws : va_W} {s : State} {H : Heap} {locs : List Loc} (h : sS D B n ad ws s H locs) : ∀ q ∈ locs, rA n ad s.heap.size q.base := h.2.1.2.2
section Rows
variable {p : Program} {l : Launch} {e : Env} {R : Room} {s : State} {m : MethodId} {args : Array Value} {below : List Frame} {meth : Method} {c : Code} {H : Heap} {locs : List Loc} {cells slots : Nat} {Q : State → Prop}
variable {cc : ByteArray} {pc index nn : Nat} {ls : Array Slot} {rest : List Value} {Ts : List Cond} {own : String} {D : sD} {B : Nat} {ad : Nat → Nat} {κ : sQ} {rf : Int32}
theorem g3_0 (hx : p.tables.exec = Jvm.exec) (hb : c.code = cc) (hts : ∀ w ∈ Ts, w.before args s = true) (hin : ∀ w ∈ wsX30, w ∈ Ts) (hown : s.vm.findClass own = some m.cls) (hJ : sJ D B (CW D ad κ) s H) (hlink : (Cond.fieldLink own index "SailLog" "circle" "LSailLog$Circle;").before args s = true) (hdg : decode cc pc = .ok (.getfield index, 3)) (kk : W p l e R s m args below meth c H locs cells slots Q (F0 m (pc + 3) ls (.ref (ad 1) :: rest))) : W p l e R s m args below meth c H locs cells slots Q (F0 m pc ls (.ref (ad 0) :: rest)) :=
  va_get (D := D.1) (cl := vwCl) (ci := 3) (C := RX3) (T := TX3) (N := 9) hx hb hts hin hown hJ.2.2.2.1.1 hJ.1 0 rfl rfl 0 (by decide) hlink (fun _ h9 => h9) rfl hdg kk
theorem g3_1 (hx : p.tables.exec = Jvm.exec) (hb : c.code = cc) (hts : ∀ w ∈ Ts, w.before args s = true) (hin : ∀ w ∈ wsX30, w ∈ Ts) (hown : s.vm.findClass own = some m.cls) (hJ : sJ D B (CW D ad κ) s H) (hlink : (Cond.fieldLink own index "SailLog" "logged" "[LSailLog$Entry;").before args s = true) (hdg : decode cc pc = .ok (.getfield index, 3)) (kk : W p l e R s m args below meth c H locs cells slots Q (F0 m (pc + 3) ls (.ref (ad 3) :: rest))) : W p l e R s m args below meth c H locs cells slots Q (F0 m pc ls (.ref (ad 0) :: rest)) :=
  va_get (D := D.1) (cl := vwCl) (ci := 3) (C := RX3) (T := TX3) (N := 9) hx hb hts hin hown hJ.2.2.2.1.1 hJ.1 0 rfl rfl 1 (by decide) hlink (fun _ h9 => h9) rfl hdg kk
theorem g3_2 (hx : p.tables.exec = Jvm.exec) (hb : c.code = cc) (hts : ∀ w ∈ Ts, w.before args s = true) (hin : ∀ w ∈ wsX30, w ∈ Ts) (hown : s.vm.findClass own = some m.cls) (hJ : sJ D B (CW D ad κ) s H) (hlink : (Cond.fieldLink own index "SailLog" "bestSpeeds" "LSailLog$BestSpeeds;").before args s = true) (hdg : decode cc pc = .ok (.getfield index, 3)) (kk : W p l e R s m args below meth c H locs cells slots Q (F0 m (pc + 3) ls (.ref (ad 4) :: rest))) : W p l e R s m args below meth c H locs cells slots Q (F0 m pc ls (.ref (ad 0) :: rest)) :=
  va_get (D := D.1) (cl := vwCl) (ci := 3) (C := RX3) (T := TX3) (N := 9) hx hb hts hin hown hJ.2.2.2.1.1 hJ.1 0 rfl rfl 2 (by decide) hlink (fun _ h9 => h9) rfl hdg kk
theorem g3_3 (hx : p.tables.exec = Jvm.exec) (hb : c.code = cc) (hts : ∀ w ∈ Ts, w.before args s = true) (hin : ∀ w ∈ wsX30, w ∈ Ts) (hown : s.vm.findClass own = some m.cls) (hJ : sJ D B (CW D ad κ) s H) (hlink : (Cond.fieldLink own index "SailLog" "tideDirections" "[I").before args s = true) (hdg : decode cc pc = .ok (.getfield index, 3)) (kk : W p l e R s m args below meth c H locs cells slots Q (F0 m (pc + 3) ls (.ref (ad 6) :: rest))) : W p l e R s m args below meth c H locs cells slots Q (F0 m pc ls (.ref (ad 0) :: rest)) :=
  va_get (D := D.1) (cl := vwCl) (ci := 3) (C := RX3) (T := TX3) (N := 9) hx hb hts hin hown hJ.2.2.2.1.1 hJ.1 0 rfl rfl 3 (by decide) hlink (fun _ h9 => h9) rfl hdg kk
theorem g3_4 (hx : p.tables.exec = Jvm.exec) (hb : c.code = cc) (hts : ∀ w ∈ Ts, w.before args s = true) (hin : ∀ w ∈ wsX30, w ∈ Ts) (hown : s.vm.findClass own = some m.cls) (hJ : sJ D B (CW D ad κ) s H) (hlink : (Cond.fieldLink own index "SailLog" "tideDrifts" "[I").before args s = true) (hdg : decode cc pc = .ok (.getfield index, 3)) (kk : W p l e R s m args below meth c H locs cells slots Q (F0 m (pc + 3) ls (.ref (ad 7) :: rest))) : W p l e R s m args below meth c H locs cells slots Q (F0 m pc ls (.ref (ad 0) :: rest)) :=
  va_get (D := D.1) (cl := vwCl) (ci := 3) (C := RX3) (T := TX3) (N := 9) hx hb hts hin hown hJ.2.2.2.1.1 hJ.1 0 rfl rfl 4 (by decide) hlink (fun _ h9 => h9) rfl hdg kk
theorem g3_5 (hx : p.tables.exec = Jvm.exec) (hb : c.code = cc) (hts : ∀ w ∈ Ts, w.before args s = true) (hin : ∀ w ∈ wsX30, w ∈ Ts) (hown : s.vm.findClass own = some m.cls) (hJ : sJ D B (CW D ad κ) s H) (hlink : (Cond.fieldLink own index "SailLog" "count" "I").before args s = true) (hdg : decode cc pc = .ok (.getfield index, 3)) (kk : W p l e R s m args below meth c H locs cells slots Q (F0 m (pc + 3) ls (.int (κ 0 0) :: rest))) : W p l e R s m args below meth c H locs cells slots Q (F0 m pc ls (.ref (ad 0) :: rest)) :=
  va_get (D := D.1) (cl := vwCl) (ci := 3) (C := RX3) (T := TX3) (N := 9) hx hb hts hin hown hJ.2.2.2.1.1 hJ.1 0 rfl rfl 5 (by decide) hlink (fun _ h9 => h9) rfl hdg kk
theorem g3_6 (hx : p.tables.exec = Jvm.exec) (hb : c.code = cc) (hts : ∀ w ∈ Ts, w.before args s = true) (hin : ∀ w ∈ wsX30, w ∈ Ts) (hown : s.vm.findClass own = some m.cls) (hJ : sJ D B (CW D ad κ) s H) (hlink : (Cond.fieldLink own index "SailLog" "factor" "I").before args s = true) (hdg : decode cc pc = .ok (.getfield index, 3)) (kk : W p l e R s m args below meth c H locs cells slots Q (F0 m (pc + 3) ls (.int (κ 0 1) :: rest))) : W p l e R s m args below meth c H locs cells slots Q (F0 m pc ls (.ref (ad 0) :: rest)) :=
  va_get (D := D.1) (cl := vwCl) (ci := 3) (C := RX3) (T := TX3) (N := 9) hx hb hts hin hown hJ.2.2.2.1.1 hJ.1 0 rfl rfl 6 (by decide) hlink (fun _ h9 => h9) rfl hdg kk
theorem g3_7 (hx : p.tables.exec = Jvm.exec) (hb : c.code = cc) (hts : ∀ w ∈ Ts, w.before args s = true) (hin : ∀ w ∈ wsX30, w ∈ Ts) (hown : s.vm.findClass own = some m.cls) (hJ : sJ D B (CW D ad κ) s H) (hlink : (Cond.fieldLink own index "SailLog" "compass" "I").before args s = true) (hdg : decode cc pc = .ok (.getfield index, 3)) (kk : W p l e R s m args below meth c H locs cells slots Q (F0 m (pc + 3) ls (.int (κ 0 2) :: rest))) : W p l e R s m args below meth c H locs cells slots Q (F0 m pc ls (.ref (ad 0) :: rest)) :=
  va_get (D := D.1) (cl := vwCl) (ci := 3) (C := RX3) (T := TX3) (N := 9) hx hb hts hin hown hJ.2.2.2.1.1 hJ.1 0 rfl rfl 7 (by decide) hlink (fun _ h9 => h9) rfl hdg kk
theorem g3_8 (hx : p.tables.exec = Jvm.exec) (hb : c.code = cc) (hts : ∀ w ∈ Ts, w.before args s = true) (hin : ∀ w ∈ wsX30, w ∈ Ts) (hown : s.vm.findClass own = some m.cls) (hJ : sJ D B (CW D ad κ) s H) (hlink : (Cond.fieldLink own index "SailLog" "vane" "I").before args s = true) (hdg : decode cc pc = .ok (.getfield index, 3)) (kk : W p l e R s m args below meth c H locs cells slots Q (F0 m (pc + 3) ls (.int (κ 0 3) :: rest))) : W p l e R s m args below meth c H locs cells slots Q (F0 m pc ls (.ref (ad 0) :: rest)) :=
  va_get (D := D.1) (cl := vwCl) (ci := 3) (C := RX3) (T := TX3) (N := 9) hx hb hts hin hown hJ.2.2.2.1.1 hJ.1 0 rfl rfl 8 (by decide) hlink (fun _ h9 => h9) rfl hdg kk
theorem g1_0 (hx : p.tables.exec = Jvm.exec) (hb : c.code = cc) (hts : ∀ w ∈ Ts, w.before args s = true) (hin : ∀ w ∈ wsX10, w ∈ Ts) (hown : s.vm.findClass own = some m.cls) (hJ : sJ D B (CW D ad κ) s H) (hlink : (Cond.fieldLink own index "SailLog$Circle" "sines" "[I").before args s = true) (hdg : decode cc pc = .ok (.getfield index, 3)) (kk : W p l e R s m args below meth c H locs cells slots Q (F0 m (pc + 3) ls (.ref (ad 2) :: rest))) : W p l e R s m args below meth c H locs cells slots Q (F0 m pc ls (.ref (ad 1) :: rest)) :=
  va_get (D := D.1) (cl := vwCl) (ci := 1) (C := RX1) (T := TX1) (N := 1) hx hb hts hin hown hJ.2.2.2.1.1 hJ.1 1 rfl rfl 0 (by decide) hlink (fun _ h9 => h9) rfl hdg kk
theorem g0_0 (hx : p.tables.exec = Jvm.exec) (hb : c.code = cc) (hts : ∀ w ∈ Ts, w.before args s = true) (hin : ∀ w ∈ wsX00, w ∈ Ts) (hown : s.vm.findClass own = some m.cls) (hJ : sJ D B (CW D ad κ) s H) (hlink : (Cond.fieldLink own index "SailLog$BestSpeeds" "fields" "[I").before args s = true) (hdg : decode cc pc = .ok (.getfield index, 3)) (kk : W p l e R s m args below meth c H locs cells slots Q (F0 m (pc + 3) ls (.ref (ad 5) :: rest))) : W p l e R s m args below meth c H locs cells slots Q (F0 m pc ls (.ref (ad 4) :: rest)) :=
  va_get (D := D.1) (cl := vwCl) (ci := 0) (C := RX0) (T := TX0) (N := 1) hx hb hts hin hown hJ.2.2.2.1.1 hJ.1 4 rfl rfl 0 (by decide) hlink (fun _ h9 => h9) rfl hdg kk
theorem g2_0 {i : Nat} (hi : i < 60) (hx : p.tables.exec = Jvm.exec) (hb : c.code = cc) (hts : ∀ w ∈ Ts, w.before args s = true) (hin : ∀ w ∈ wsX20, w ∈ Ts) (hown : s.vm.findClass own = some m.cls) (hJ : sJ D B (CW D ad κ) s H) (hlink : (Cond.fieldLink own index "SailLog$Entry" "minute" "I").before args s = true) (hdg : decode cc pc = .ok (.getfield index, 3)) (kk : W p l e R s m args below meth c H locs cells slots Q (F0 m (pc + 3) ls (.int (κ 4 i) :: rest))) : W p l e R s m args below meth c H locs cells slots Q (F0 m pc ls (.ref (ad (8 + i)) :: rest)) :=
  va_get (D := D.1) (cl := vwCl) (ci := 2) (C := RX2) (T := TX2) (N := 9) hx hb hts hin hown hJ.2.2.2.1.1 hJ.1 (8 + i) (CW_e D ad κ hi) rfl 0 (by decide) hlink (fun _ h9 => h9) rfl hdg kk
theorem g2_1 {i : Nat} (hi : i < 60) (hx : p.tables.exec = Jvm.exec) (hb : c.code = cc) (hts : ∀ w ∈ Ts, w.before args s = true) (hin : ∀ w ∈ wsX20, w ∈ Ts) (hown : s.vm.findClass own = some m.cls) (hJ : sJ D B (CW D ad κ) s H) (hlink : (Cond.fieldLink own index "SailLog$Entry" "toldSpeed" "I").before args s = true) (hdg : decode cc pc = .ok (.getfield index, 3)) (kk : W p l e R s m args below meth c H locs cells slots Q (F0 m (pc + 3) ls (.int (κ 5 i) :: rest))) : W p l e R s m args below meth c H locs cells slots Q (F0 m pc ls (.ref (ad (8 + i)) :: rest)) :=
  va_get (D := D.1) (cl := vwCl) (ci := 2) (C := RX2) (T := TX2) (N := 9) hx hb hts hin hown hJ.2.2.2.1.1 hJ.1 (8 + i) (CW_e D ad κ hi) rfl 1 (by decide) hlink (fun _ h9 => h9) rfl hdg kk
theorem g2_2 {i : Nat} (hi : i < 60) (hx : p.tables.exec = Jvm.exec) (hb : c.code = cc) (hts : ∀ w ∈ Ts, w.before args s = true) (hin : ∀ w ∈ wsX20, w ∈ Ts) (hown : s.vm.findClass own = some m.cls) (hJ : sJ D B (CW D ad κ) s H) (hlink : (Cond.fieldLink own index "SailLog$Entry" "toldHeading" "I").before args s = true) (hdg : decode cc pc = .ok (.getfield index, 3)) (kk : W p l e R s m args below meth c H locs cells slots Q (F0 m (pc + 3) ls (.int (κ 6 i) :: rest))) : W p l e R s m args below meth c H locs cells slots Q (F0 m pc ls (.ref (ad (8 + i)) :: rest)) :=
  va_get (D := D.1) (cl := vwCl) (ci := 2) (C := RX2) (T := TX2) (N := 9) hx hb hts hin hown hJ.2.2.2.1.1 hJ.1 (8 + i) (CW_e D ad κ hi) rfl 2 (by decide) hlink (fun _ h9 => h9) rfl hdg kk
theorem g2_3 {i : Nat} (hi : i < 60) (hx : p.tables.exec = Jvm.exec) (hb : c.code = cc) (hts : ∀ w ∈ Ts, w.before args s = true) (hin : ∀ w ∈ wsX20, w ∈ Ts) (hown : s.vm.findClass own = some m.cls) (hJ : sJ D B (CW D ad κ) s H) (hlink : (Cond.fieldLink own index "SailLog$Entry" "toldStrength" "I").before args s = true) (hdg : decode cc pc = .ok (.getfield index, 3)) (kk : W p l e R s m args below meth c H locs cells slots Q (F0 m (pc + 3) ls (.int (κ 7 i) :: rest))) : W p l e R s m args below meth c H locs cells slots Q (F0 m pc ls (.ref (ad (8 + i)) :: rest)) :=
  va_get (D := D.1) (cl := vwCl) (ci := 2) (C := RX2) (T := TX2) (N := 9) hx hb hts hin hown hJ.2.2.2.1.1 hJ.1 (8 + i) (CW_e D ad κ hi) rfl 3 (by decide) hlink (fun _ h9 => h9) rfl hdg kk
theorem g2_4 {i : Nat} (hi : i < 60) (hx : p.tables.exec = Jvm.exec) (hb : c.code = cc) (hts : ∀ w ∈ Ts, w.before args s = true) (hin : ∀ w ∈ wsX20, w ∈ Ts) (hown : s.vm.findClass own = some m.cls) (hJ : sJ D B (CW D ad κ) s H) (hlink : (Cond.fieldLink own index "SailLog$Entry" "toldAngle" "I").before args s = true) (hdg : decode cc pc = .ok (.getfield index, 3)) (kk : W p l e R s m args below meth c H locs cells slots Q (F0 m (pc + 3) ls (.int (κ 8 i) :: rest))) : W p l e R s m args below meth c H locs cells slots Q (F0 m pc ls (.ref (ad (8 + i)) :: rest)) :=
  va_get (D := D.1) (cl := vwCl) (ci := 2) (C := RX2) (T := TX2) (N := 9) hx hb hts hin hown hJ.2.2.2.1.1 hJ.1 (8 + i) (CW_e D ad κ hi) rfl 4 (by decide) hlink (fun _ h9 => h9) rfl hdg kk
theorem g2_5 {i : Nat} (hi : i < 60) (hx : p.tables.exec = Jvm.exec) (hb : c.code = cc) (hts : ∀ w ∈ Ts, w.before args s = true) (hin : ∀ w ∈ wsX20, w ∈ Ts) (hown : s.vm.findClass own = some m.cls) (hJ : sJ D B (CW D ad κ) s H) (hlink : (Cond.fieldLink own index "SailLog$Entry" "trueSpeed" "I").before args s = true) (hdg : decode cc pc = .ok (.getfield index, 3)) (kk : W p l e R s m args below meth c H locs cells slots Q (F0 m (pc + 3) ls (.int (κ 9 i) :: rest))) : W p l e R s m args below meth c H locs cells slots Q (F0 m pc ls (.ref (ad (8 + i)) :: rest)) :=
  va_get (D := D.1) (cl := vwCl) (ci := 2) (C := RX2) (T := TX2) (N := 9) hx hb hts hin hown hJ.2.2.2.1.1 hJ.1 (8 + i) (CW_e D ad κ hi) rfl 5 (by decide) hlink (fun _ h9 => h9) rfl hdg kk
theorem g2_6 {i : Nat} (hi : i < 60) (hx : p.tables.exec = Jvm.exec) (hb : c.code = cc) (hts : ∀ w ∈ Ts, w.before args s = true) (hin : ∀ w ∈ wsX20, w ∈ Ts) (hown : s.vm.findClass own = some m.cls) (hJ : sJ D B (CW D ad κ) s H) (hlink : (Cond.fieldLink own index "SailLog$Entry" "trueHeading" "I").before args s = true) (hdg : decode cc pc = .ok (.getfield index, 3)) (kk : W p l e R s m args below meth c H locs cells slots Q (F0 m (pc + 3) ls (.int (κ 10 i) :: rest))) : W p l e R s m args below meth c H locs cells slots Q (F0 m pc ls (.ref (ad (8 + i)) :: rest)) :=
  va_get (D := D.1) (cl := vwCl) (ci := 2) (C := RX2) (T := TX2) (N := 9) hx hb hts hin hown hJ.2.2.2.1.1 hJ.1 (8 + i) (CW_e D ad κ hi) rfl 6 (by decide) hlink (fun _ h9 => h9) rfl hdg kk
theorem g2_7 {i : Nat} (hi : i < 60) (hx : p.tables.exec = Jvm.exec) (hb : c.code = cc) (hts : ∀ w ∈ Ts, w.before args s = true) (hin : ∀ w ∈ wsX20, w ∈ Ts) (hown : s.vm.findClass own = some m.cls) (hJ : sJ D B (CW D ad κ) s H) (hlink : (Cond.fieldLink own index "SailLog$Entry" "windStrength" "I").before args s = true) (hdg : decode cc pc = .ok (.getfield index, 3)) (kk : W p l e R s m args below meth c H locs cells slots Q (F0 m (pc + 3) ls (.int (κ 11 i) :: rest))) : W p l e R s m args below meth c H locs cells slots Q (F0 m pc ls (.ref (ad (8 + i)) :: rest)) :=
  va_get (D := D.1) (cl := vwCl) (ci := 2) (C := RX2) (T := TX2) (N := 9) hx hb hts hin hown hJ.2.2.2.1.1 hJ.1 (8 + i) (CW_e D ad κ hi) rfl 7 (by decide) hlink (fun _ h9 => h9) rfl hdg kk
theorem g2_8 {i : Nat} (hi : i < 60) (hx : p.tables.exec = Jvm.exec) (hb : c.code = cc) (hts : ∀ w ∈ Ts, w.before args s = true) (hin : ∀ w ∈ wsX20, w ∈ Ts) (hown : s.vm.findClass own = some m.cls) (hJ : sJ D B (CW D ad κ) s H) (hlink : (Cond.fieldLink own index "SailLog$Entry" "windAngle" "I").before args s = true) (hdg : decode cc pc = .ok (.getfield index, 3)) (kk : W p l e R s m args below meth c H locs cells slots Q (F0 m (pc + 3) ls (.int (κ 12 i) :: rest))) : W p l e R s m args below meth c H locs cells slots Q (F0 m pc ls (.ref (ad (8 + i)) :: rest)) :=
  va_get (D := D.1) (cl := vwCl) (ci := 2) (C := RX2) (T := TX2) (N := 9) hx hb hts hin hown hJ.2.2.2.1.1 hJ.1 (8 + i) (CW_e D ad κ hi) rfl 8 (by decide) hlink (fun _ h9 => h9) rfl hdg kk
theorem p3_5 (hx : p.tables.exec = Jvm.exec) (hb : c.code = cc) (hts : ∀ w ∈ Ts, w.before args s = true) (hin : ∀ w ∈ wsX30, w ∈ Ts) (hown : s.vm.findClass own = some m.cls) (hS : sS D B 68 ad (CW D ad κ) s H locs) (hlink : (Cond.fieldLink own index "SailLog" "count" "I").before args s = true) {v : Int32} (hdg : decode cc pc = .ok (.putfield index, 3)) (kk : ∀ (H1 : Heap) (locs1 : List Loc), sS D B 68 ad (CW D ad (kset κ 0 0 v)) s H1 locs1 → W p l e R s m args below meth c H1 locs1 cells slots Q (F0 m (pc + 3) ls rest)) : W p l e R s m args below meth c H locs cells slots Q (F0 m pc ls (.int v :: .ref (ad 0) :: rest)) :=
  va_put (D := D.1) (cl := vwCl) (ci := 3) (v := .int v) (ty := .int) (C := RX3) (T := TX3) (N := 9) hx hb hts hin tyX3 tyX3_ok nmX3 hown hS.1.2.2.2.1.1 hS.1.1 hS.2.2.1 hS.2.1 0 rfl rfl 5 (by decide) hlink (fun _ h9 => h9) rfl (by decide +kernel) rfl rfl (Nat.le_of_ble_eq_true rfl) hdg (fun H1 locs1 q1 q2 q3 => kk H1 locs1 (hS.next (ws' := CW D ad (kset κ 0 0 v)) q1 q2 q3))
theorem p3_6 (hx : p.tables.exec = Jvm.exec) (hb : c.code = cc) (hts : ∀ w ∈ Ts, w.before args s = true) (hin : ∀ w ∈ wsX30, w ∈ Ts) (hown : s.vm.findClass own = some m.cls) (hS : sS D B 68 ad (CW D ad κ) s H locs) (hlink : (Cond.fieldLink own index "SailLog" "factor" "I").before args s = true) {v : Int32} (hdg : decode cc pc = .ok (.putfield index, 3)) (kk : ∀ (H1 : Heap) (locs1 : List Loc), sS D B 68 ad (CW D ad (kset κ 0 1 v)) s H1 locs1 → W p l e R s m args below meth c H1 locs1 cells slots Q (F0 m (pc + 3) ls rest)) : W p l e R s m args below meth c H locs cells slots Q (F0 m pc ls (.int v :: .ref (ad 0) :: rest)) :=
  va_put (D := D.1) (cl := vwCl) (ci := 3) (v := .int v) (ty := .int) (C := RX3) (T := TX3) (N := 9) hx hb hts hin tyX3 tyX3_ok nmX3 hown hS.1.2.2.2.1.1 hS.1.1 hS.2.2.1 hS.2.1 0 rfl rfl 6 (by decide) hlink (fun _ h9 => h9) rfl (by decide +kernel) rfl rfl (Nat.le_of_ble_eq_true rfl) hdg (fun H1 locs1 q1 q2 q3 => kk H1 locs1 (hS.next (ws' := CW D ad (kset κ 0 1 v)) q1 q2 q3))
theorem p3_7 (hx : p.tables.exec = Jvm.exec) (hb : c.code = cc) (hts : ∀ w ∈ Ts, w.before args s = true) (hin : ∀ w ∈ wsX30, w ∈ Ts) (hown : s.vm.findClass own = some m.cls) (hS : sS D B 68 ad (CW D ad κ) s H locs) (hlink : (Cond.fieldLink own index "SailLog" "compass" "I").before args s = true) {v : Int32} (hdg : decode cc pc = .ok (.putfield index, 3)) (kk : ∀ (H1 : Heap) (locs1 : List Loc), sS D B 68 ad (CW D ad (kset κ 0 2 v)) s H1 locs1 → W p l e R s m args below meth c H1 locs1 cells slots Q (F0 m (pc + 3) ls rest)) : W p l e R s m args below meth c H locs cells slots Q (F0 m pc ls (.int v :: .ref (ad 0) :: rest)) :=
  va_put (D := D.1) (cl := vwCl) (ci := 3) (v := .int v) (ty := .int) (C := RX3) (T := TX3) (N := 9) hx hb hts hin tyX3 tyX3_ok nmX3 hown hS.1.2.2.2.1.1 hS.1.1 hS.2.2.1 hS.2.1 0 rfl rfl 7 (by decide) hlink (fun _ h9 => h9) rfl (by decide +kernel) rfl rfl (Nat.le_of_ble_eq_true rfl) hdg (fun H1 locs1 q1 q2 q3 => kk H1 locs1 (hS.next (ws' := CW D ad (kset κ 0 2 v)) q1 q2 q3))
theorem p3_8 (hx : p.tables.exec = Jvm.exec) (hb : c.code = cc) (hts : ∀ w ∈ Ts, w.before args s = true) (hin : ∀ w ∈ wsX30, w ∈ Ts) (hown : s.vm.findClass own = some m.cls) (hS : sS D B 68 ad (CW D ad κ) s H locs) (hlink : (Cond.fieldLink own index "SailLog" "vane" "I").before args s = true) {v : Int32} (hdg : decode cc pc = .ok (.putfield index, 3)) (kk : ∀ (H1 : Heap) (locs1 : List Loc), sS D B 68 ad (CW D ad (kset κ 0 3 v)) s H1 locs1 → W p l e R s m args below meth c H1 locs1 cells slots Q (F0 m (pc + 3) ls rest)) : W p l e R s m args below meth c H locs cells slots Q (F0 m pc ls (.int v :: .ref (ad 0) :: rest)) :=
  va_put (D := D.1) (cl := vwCl) (ci := 3) (v := .int v) (ty := .int) (C := RX3) (T := TX3) (N := 9) hx hb hts hin tyX3 tyX3_ok nmX3 hown hS.1.2.2.2.1.1 hS.1.1 hS.2.2.1 hS.2.1 0 rfl rfl 8 (by decide) hlink (fun _ h9 => h9) rfl (by decide +kernel) rfl rfl (Nat.le_of_ble_eq_true rfl) hdg (fun H1 locs1 q1 q2 q3 => kk H1 locs1 (hS.next (ws' := CW D ad (kset κ 0 3 v)) q1 q2 q3))
theorem p2_0 {i : Nat} (hi : i < 60) (hx : p.tables.exec = Jvm.exec) (hb : c.code = cc) (hts : ∀ w ∈ Ts, w.before args s = true) (hin : ∀ w ∈ wsX20, w ∈ Ts) (hown : s.vm.findClass own = some m.cls) (hS : sS D B 68 ad (CW D ad κ) s H locs) (hlink : (Cond.fieldLink own index "SailLog$Entry" "minute" "I").before args s = true) {v : Int32} (hdg : decode cc pc = .ok (.putfield index, 3)) (kk : ∀ (H1 : Heap) (locs1 : List Loc), sS D B 68 ad (CW D ad (kset κ 4 i v)) s H1 locs1 → W p l e R s m args below meth c H1 locs1 cells slots Q (F0 m (pc + 3) ls rest)) : W p l e R s m args below meth c H locs cells slots Q (F0 m pc ls (.int v :: .ref (ad (8 + i)) :: rest)) := by
  have hw : (CW D ad κ).set (8 + i) (ad (8 + i), EN (kset κ 4 i v) i) = CW D ad (kset κ 4 i v) := CW_set_e D ad κ (kset κ 4 i v) rfl (fun j _ hj => by simp [EN, kset, hj])
  have he : EN (kset κ 4 i v) i = .inr (2, ([.int (κ 4 i), .int (κ 5 i), .int (κ 6 i), .int (κ 7 i), .int (κ 8 i), .int (κ 9 i), .int (κ 10 i), .int (κ 11 i), .int (κ 12 i)] : List Value).set 0 (.int v)) := by simp [EN, kset]
  refine va_put (D := D.1) (cl := vwCl) (ci := 2) (v := .int v) (ty := .int) (C := RX2) (T := TX2) (N := 9) hx hb hts hin tyX2 tyX2_ok nmX2 hown hS.1.2.2.2.1.1 hS.1.1 hS.2.2.1 hS.2.1 (8 + i) (CW_e D ad κ hi) rfl 0 (by decide) hlink (fun _ h9 => h9) rfl (by decide +kernel) rfl rfl (Nat.le_of_ble_eq_true rfl) hdg (fun H1 locs1 q1 q2 q3 => kk H1 locs1 ?_)
  rw [← he, hw] at q1 q2
  exact hS.next q1 q2 q3
theorem p2_1 {i : Nat} (hi : i < 60) (hx : p.tables.exec = Jvm.exec) (hb : c.code = cc) (hts : ∀ w ∈ Ts, w.before args s = true) (hin : ∀ w ∈ wsX20, w ∈ Ts) (hown : s.vm.findClass own = some m.cls) (hS : sS D B 68 ad (CW D ad κ) s H locs) (hlink : (Cond.fieldLink own index "SailLog$Entry" "toldSpeed" "I").before args s = true) {v : Int32} (hdg : decode cc pc = .ok (.putfield index, 3)) (kk : ∀ (H1 : Heap) (locs1 : List Loc), sS D B 68 ad (CW D ad (kset κ 5 i v)) s H1 locs1 → W p l e R s m args below meth c H1 locs1 cells slots Q (F0 m (pc + 3) ls rest)) : W p l e R s m args below meth c H locs cells slots Q (F0 m pc ls (.int v :: .ref (ad (8 + i)) :: rest)) := by
  have hw : (CW D ad κ).set (8 + i) (ad (8 + i), EN (kset κ 5 i v) i) = CW D ad (kset κ 5 i v) := CW_set_e D ad κ (kset κ 5 i v) rfl (fun j _ hj => by simp [EN, kset, hj])
  have he : EN (kset κ 5 i v) i = .inr (2, ([.int (κ 4 i), .int (κ 5 i), .int (κ 6 i), .int (κ 7 i), .int (κ 8 i), .int (κ 9 i), .int (κ 10 i), .int (κ 11 i), .int (κ 12 i)] : List Value).set 1 (.int v)) := by simp [EN, kset]
  refine va_put (D := D.1) (cl := vwCl) (ci := 2) (v := .int v) (ty := .int) (C := RX2) (T := TX2) (N := 9) hx hb hts hin tyX2 tyX2_ok nmX2 hown hS.1.2.2.2.1.1 hS.1.1 hS.2.2.1 hS.2.1 (8 + i) (CW_e D ad κ hi) rfl 1 (by decide) hlink (fun _ h9 => h9) rfl (by decide +kernel) rfl rfl (Nat.le_of_ble_eq_true rfl) hdg (fun H1 locs1 q1 q2 q3 => kk H1 locs1 ?_)
  rw [← he, hw] at q1 q2
  exact hS.next q1 q2 q3
theorem p2_2 {i : Nat} (hi : i < 60) (hx : p.tables.exec = Jvm.exec) (hb : c.code = cc) (hts : ∀ w ∈ Ts, w.before args s = true) (hin : ∀ w ∈ wsX20, w ∈ Ts) (hown : s.vm.findClass own = some m.cls) (hS : sS D B 68 ad (CW D ad κ) s H locs) (hlink : (Cond.fieldLink own index "SailLog$Entry" "toldHeading" "I").before args s = true) {v : Int32} (hdg : decode cc pc = .ok (.putfield index, 3)) (kk : ∀ (H1 : Heap) (locs1 : List Loc), sS D B 68 ad (CW D ad (kset κ 6 i v)) s H1 locs1 → W p l e R s m args below meth c H1 locs1 cells slots Q (F0 m (pc + 3) ls rest)) : W p l e R s m args below meth c H locs cells slots Q (F0 m pc ls (.int v :: .ref (ad (8 + i)) :: rest)) := by
  have hw : (CW D ad κ).set (8 + i) (ad (8 + i), EN (kset κ 6 i v) i) = CW D ad (kset κ 6 i v) := CW_set_e D ad κ (kset κ 6 i v) rfl (fun j _ hj => by simp [EN, kset, hj])
  have he : EN (kset κ 6 i v) i = .inr (2, ([.int (κ 4 i), .int (κ 5 i), .int (κ 6 i), .int (κ 7 i), .int (κ 8 i), .int (κ 9 i), .int (κ 10 i), .int (κ 11 i), .int (κ 12 i)] : List Value).set 2 (.int v)) := by simp [EN, kset]
  refine va_put (D := D.1) (cl := vwCl) (ci := 2) (v := .int v) (ty := .int) (C := RX2) (T := TX2) (N := 9) hx hb hts hin tyX2 tyX2_ok nmX2 hown hS.1.2.2.2.1.1 hS.1.1 hS.2.2.1 hS.2.1 (8 + i) (CW_e D ad κ hi) rfl 2 (by decide) hlink (fun _ h9 => h9) rfl (by decide +kernel) rfl rfl (Nat.le_of_ble_eq_true rfl) hdg (fun H1 locs1 q1 q2 q3 => kk H1 locs1 ?_)
  rw [← he, hw] at q1 q2
  exact hS.next q1 q2 q3
theorem p2_3 {i : Nat} (hi : i < 60) (hx : p.tables.exec = Jvm.exec) (hb : c.code = cc) (hts : ∀ w ∈ Ts, w.before args s = true) (hin : ∀ w ∈ wsX20, w ∈ Ts) (hown : s.vm.findClass own = some m.cls) (hS : sS D B 68 ad (CW D ad κ) s H locs) (hlink : (Cond.fieldLink own index "SailLog$Entry" "toldStrength" "I").before args s = true) {v : Int32} (hdg : decode cc pc = .ok (.putfield index, 3)) (kk : ∀ (H1 : Heap) (locs1 : List Loc), sS D B 68 ad (CW D ad (kset κ 7 i v)) s H1 locs1 → W p l e R s m args below meth c H1 locs1 cells slots Q (F0 m (pc + 3) ls rest)) : W p l e R s m args below meth c H locs cells slots Q (F0 m pc ls (.int v :: .ref (ad (8 + i)) :: rest)) := by
  have hw : (CW D ad κ).set (8 + i) (ad (8 + i), EN (kset κ 7 i v) i) = CW D ad (kset κ 7 i v) := CW_set_e D ad κ (kset κ 7 i v) rfl (fun j _ hj => by simp [EN, kset, hj])
  have he : EN (kset κ 7 i v) i = .inr (2, ([.int (κ 4 i), .int (κ 5 i), .int (κ 6 i), .int (κ 7 i), .int (κ 8 i), .int (κ 9 i), .int (κ 10 i), .int (κ 11 i), .int (κ 12 i)] : List Value).set 3 (.int v)) := by simp [EN, kset]
  refine va_put (D := D.1) (cl := vwCl) (ci := 2) (v := .int v) (ty := .int) (C := RX2) (T := TX2) (N := 9) hx hb hts hin tyX2 tyX2_ok nmX2 hown hS.1.2.2.2.1.1 hS.1.1 hS.2.2.1 hS.2.1 (8 + i) (CW_e D ad κ hi) rfl 3 (by decide) hlink (fun _ h9 => h9) rfl (by decide +kernel) rfl rfl (Nat.le_of_ble_eq_true rfl) hdg (fun H1 locs1 q1 q2 q3 => kk H1 locs1 ?_)
  rw [← he, hw] at q1 q2
  exact hS.next q1 q2 q3
theorem p2_4 {i : Nat} (hi : i < 60) (hx : p.tables.exec = Jvm.exec) (hb : c.code = cc) (hts : ∀ w ∈ Ts, w.before args s = true) (hin : ∀ w ∈ wsX20, w ∈ Ts) (hown : s.vm.findClass own = some m.cls) (hS : sS D B 68 ad (CW D ad κ) s H locs) (hlink : (Cond.fieldLink own index "SailLog$Entry" "toldAngle" "I").before args s = true) {v : Int32} (hdg : decode cc pc = .ok (.putfield index, 3)) (kk : ∀ (H1 : Heap) (locs1 : List Loc), sS D B 68 ad (CW D ad (kset κ 8 i v)) s H1 locs1 → W p l e R s m args below meth c H1 locs1 cells slots Q (F0 m (pc + 3) ls rest)) : W p l e R s m args below meth c H locs cells slots Q (F0 m pc ls (.int v :: .ref (ad (8 + i)) :: rest)) := by
  have hw : (CW D ad κ).set (8 + i) (ad (8 + i), EN (kset κ 8 i v) i) = CW D ad (kset κ 8 i v) := CW_set_e D ad κ (kset κ 8 i v) rfl (fun j _ hj => by simp [EN, kset, hj])
  have he : EN (kset κ 8 i v) i = .inr (2, ([.int (κ 4 i), .int (κ 5 i), .int (κ 6 i), .int (κ 7 i), .int (κ 8 i), .int (κ 9 i), .int (κ 10 i), .int (κ 11 i), .int (κ 12 i)] : List Value).set 4 (.int v)) := by simp [EN, kset]
  refine va_put (D := D.1) (cl := vwCl) (ci := 2) (v := .int v) (ty := .int) (C := RX2) (T := TX2) (N := 9) hx hb hts hin tyX2 tyX2_ok nmX2 hown hS.1.2.2.2.1.1 hS.1.1 hS.2.2.1 hS.2.1 (8 + i) (CW_e D ad κ hi) rfl 4 (by decide) hlink (fun _ h9 => h9) rfl (by decide +kernel) rfl rfl (Nat.le_of_ble_eq_true rfl) hdg (fun H1 locs1 q1 q2 q3 => kk H1 locs1 ?_)
  rw [← he, hw] at q1 q2
  exact hS.next q1 q2 q3
theorem p2_5 {i : Nat} (hi : i < 60) (hx : p.tables.exec = Jvm.exec) (hb : c.code = cc) (hts : ∀ w ∈ Ts, w.before args s = true) (hin : ∀ w ∈ wsX20, w ∈ Ts) (hown : s.vm.findClass own = some m.cls) (hS : sS D B 68 ad (CW D ad κ) s H locs) (hlink : (Cond.fieldLink own index "SailLog$Entry" "trueSpeed" "I").before args s = true) {v : Int32} (hdg : decode cc pc = .ok (.putfield index, 3)) (kk : ∀ (H1 : Heap) (locs1 : List Loc), sS D B 68 ad (CW D ad (kset κ 9 i v)) s H1 locs1 → W p l e R s m args below meth c H1 locs1 cells slots Q (F0 m (pc + 3) ls rest)) : W p l e R s m args below meth c H locs cells slots Q (F0 m pc ls (.int v :: .ref (ad (8 + i)) :: rest)) := by
  have hw : (CW D ad κ).set (8 + i) (ad (8 + i), EN (kset κ 9 i v) i) = CW D ad (kset κ 9 i v) := CW_set_e D ad κ (kset κ 9 i v) rfl (fun j _ hj => by simp [EN, kset, hj])
  have he : EN (kset κ 9 i v) i = .inr (2, ([.int (κ 4 i), .int (κ 5 i), .int (κ 6 i), .int (κ 7 i), .int (κ 8 i), .int (κ 9 i), .int (κ 10 i), .int (κ 11 i), .int (κ 12 i)] : List Value).set 5 (.int v)) := by simp [EN, kset]
  refine va_put (D := D.1) (cl := vwCl) (ci := 2) (v := .int v) (ty := .int) (C := RX2) (T := TX2) (N := 9) hx hb hts hin tyX2 tyX2_ok nmX2 hown hS.1.2.2.2.1.1 hS.1.1 hS.2.2.1 hS.2.1 (8 + i) (CW_e D ad κ hi) rfl 5 (by decide) hlink (fun _ h9 => h9) rfl (by decide +kernel) rfl rfl (Nat.le_of_ble_eq_true rfl) hdg (fun H1 locs1 q1 q2 q3 => kk H1 locs1 ?_)
  rw [← he, hw] at q1 q2
  exact hS.next q1 q2 q3
theorem p2_6 {i : Nat} (hi : i < 60) (hx : p.tables.exec = Jvm.exec) (hb : c.code = cc) (hts : ∀ w ∈ Ts, w.before args s = true) (hin : ∀ w ∈ wsX20, w ∈ Ts) (hown : s.vm.findClass own = some m.cls) (hS : sS D B 68 ad (CW D ad κ) s H locs) (hlink : (Cond.fieldLink own index "SailLog$Entry" "trueHeading" "I").before args s = true) {v : Int32} (hdg : decode cc pc = .ok (.putfield index, 3)) (kk : ∀ (H1 : Heap) (locs1 : List Loc), sS D B 68 ad (CW D ad (kset κ 10 i v)) s H1 locs1 → W p l e R s m args below meth c H1 locs1 cells slots Q (F0 m (pc + 3) ls rest)) : W p l e R s m args below meth c H locs cells slots Q (F0 m pc ls (.int v :: .ref (ad (8 + i)) :: rest)) := by
  have hw : (CW D ad κ).set (8 + i) (ad (8 + i), EN (kset κ 10 i v) i) = CW D ad (kset κ 10 i v) := CW_set_e D ad κ (kset κ 10 i v) rfl (fun j _ hj => by simp [EN, kset, hj])
  have he : EN (kset κ 10 i v) i = .inr (2, ([.int (κ 4 i), .int (κ 5 i), .int (κ 6 i), .int (κ 7 i), .int (κ 8 i), .int (κ 9 i), .int (κ 10 i), .int (κ 11 i), .int (κ 12 i)] : List Value).set 6 (.int v)) := by simp [EN, kset]
  refine va_put (D := D.1) (cl := vwCl) (ci := 2) (v := .int v) (ty := .int) (C := RX2) (T := TX2) (N := 9) hx hb hts hin tyX2 tyX2_ok nmX2 hown hS.1.2.2.2.1.1 hS.1.1 hS.2.2.1 hS.2.1 (8 + i) (CW_e D ad κ hi) rfl 6 (by decide) hlink (fun _ h9 => h9) rfl (by decide +kernel) rfl rfl (Nat.le_of_ble_eq_true rfl) hdg (fun H1 locs1 q1 q2 q3 => kk H1 locs1 ?_)
  rw [← he, hw] at q1 q2
  exact hS.next q1 q2 q3
theorem p2_7 {i : Nat} (hi : i < 60) (hx : p.tables.exec = Jvm.exec) (hb : c.code = cc) (hts : ∀ w ∈ Ts, w.before args s = true) (hin : ∀ w ∈ wsX20, w ∈ Ts) (hown : s.vm.findClass own = some m.cls) (hS : sS D B 68 ad (CW D ad κ) s H locs) (hlink : (Cond.fieldLink own index "SailLog$Entry" "windStrength" "I").before args s = true) {v : Int32} (hdg : decode cc pc = .ok (.putfield index, 3)) (kk : ∀ (H1 : Heap) (locs1 : List Loc), sS D B 68 ad (CW D ad (kset κ 11 i v)) s H1 locs1 → W p l e R s m args below meth c H1 locs1 cells slots Q (F0 m (pc + 3) ls rest)) : W p l e R s m args below meth c H locs cells slots Q (F0 m pc ls (.int v :: .ref (ad (8 + i)) :: rest)) := by
  have hw : (CW D ad κ).set (8 + i) (ad (8 + i), EN (kset κ 11 i v) i) = CW D ad (kset κ 11 i v) := CW_set_e D ad κ (kset κ 11 i v) rfl (fun j _ hj => by simp [EN, kset, hj])
  have he : EN (kset κ 11 i v) i = .inr (2, ([.int (κ 4 i), .int (κ 5 i), .int (κ 6 i), .int (κ 7 i), .int (κ 8 i), .int (κ 9 i), .int (κ 10 i), .int (κ 11 i), .int (κ 12 i)] : List Value).set 7 (.int v)) := by simp [EN, kset]
  refine va_put (D := D.1) (cl := vwCl) (ci := 2) (v := .int v) (ty := .int) (C := RX2) (T := TX2) (N := 9) hx hb hts hin tyX2 tyX2_ok nmX2 hown hS.1.2.2.2.1.1 hS.1.1 hS.2.2.1 hS.2.1 (8 + i) (CW_e D ad κ hi) rfl 7 (by decide) hlink (fun _ h9 => h9) rfl (by decide +kernel) rfl rfl (Nat.le_of_ble_eq_true rfl) hdg (fun H1 locs1 q1 q2 q3 => kk H1 locs1 ?_)
  rw [← he, hw] at q1 q2
  exact hS.next q1 q2 q3
theorem p2_8 {i : Nat} (hi : i < 60) (hx : p.tables.exec = Jvm.exec) (hb : c.code = cc) (hts : ∀ w ∈ Ts, w.before args s = true) (hin : ∀ w ∈ wsX20, w ∈ Ts) (hown : s.vm.findClass own = some m.cls) (hS : sS D B 68 ad (CW D ad κ) s H locs) (hlink : (Cond.fieldLink own index "SailLog$Entry" "windAngle" "I").before args s = true) {v : Int32} (hdg : decode cc pc = .ok (.putfield index, 3)) (kk : ∀ (H1 : Heap) (locs1 : List Loc), sS D B 68 ad (CW D ad (kset κ 12 i v)) s H1 locs1 → W p l e R s m args below meth c H1 locs1 cells slots Q (F0 m (pc + 3) ls rest)) : W p l e R s m args below meth c H locs cells slots Q (F0 m pc ls (.int v :: .ref (ad (8 + i)) :: rest)) := by
  have hw : (CW D ad κ).set (8 + i) (ad (8 + i), EN (kset κ 12 i v) i) = CW D ad (kset κ 12 i v) := CW_set_e D ad κ (kset κ 12 i v) rfl (fun j _ hj => by simp [EN, kset, hj])
  have he : EN (kset κ 12 i v) i = .inr (2, ([.int (κ 4 i), .int (κ 5 i), .int (κ 6 i), .int (κ 7 i), .int (κ 8 i), .int (κ 9 i), .int (κ 10 i), .int (κ 11 i), .int (κ 12 i)] : List Value).set 8 (.int v)) := by simp [EN, kset]
  refine va_put (D := D.1) (cl := vwCl) (ci := 2) (v := .int v) (ty := .int) (C := RX2) (T := TX2) (N := 9) hx hb hts hin tyX2 tyX2_ok nmX2 hown hS.1.2.2.2.1.1 hS.1.1 hS.2.2.1 hS.2.1 (8 + i) (CW_e D ad κ hi) rfl 8 (by decide) hlink (fun _ h9 => h9) rfl (by decide +kernel) rfl rfl (Nat.le_of_ble_eq_true rfl) hdg (fun H1 locs1 q1 q2 q3 => kk H1 locs1 ?_)
  rw [← he, hw] at q1 q2
  exact hS.next q1 q2 q3
theorem a_sin (hx : p.tables.exec = Jvm.exec) (hb : c.code = cc) (hJ : sJ D B (CW D ad κ) s H) {x : Int32} {k : Nat} (hxk : x = nI k) (hk : k < 450) (hdg : decode cc pc = .ok (.iaload, 1)) (kk : W p l e R s m args below meth c H locs cells slots Q (F0 m (pc + 1) ls (.int (snT k) :: rest))) : W p l e R s m args below meth c H locs cells slots Q (F0 m pc ls (.int x :: .ref (ad 2) :: rest)) := by
  subst hxk
  refine va_iald (D := D.1) (cl := vwCl) hx hb hJ.2.2.2.1.1 hJ.1 2 0 rfl rfl (vp_in_nI hk (by omega)) hdg ?_
  rw [nI_clamp (by omega)]
  exact kk
theorem a_tab (hx : p.tables.exec = Jvm.exec) (hb : c.code = cc) (hJ : sJ D B (CW D ad κ) s H) {x : Int32} {k : Nat} (hxk : x = nI k) (hk : k < 190) (hdg : decode cc pc = .ok (.iaload, 1)) (kk : W p l e R s m args below meth c H locs cells slots Q (F0 m (pc + 1) ls (.int (κ 1 k) :: rest))) : W p l e R s m args below meth c H locs cells slots Q (F0 m pc ls (.int x :: .ref (ad 5) :: rest)) := by
  subst hxk
  refine va_iald (D := D.1) (cl := vwCl) hx hb hJ.2.2.2.1.1 hJ.1 5 0 rfl rfl (vp_in_nI hk (by omega)) hdg ?_
  rw [nI_clamp (by omega)]
  exact kk
theorem a_dir (hx : p.tables.exec = Jvm.exec) (hb : c.code = cc) (hJ : sJ D B (CW D ad κ) s H) {x : Int32} {k : Nat} (hxk : x = nI k) (hk : k < 24) (hdg : decode cc pc = .ok (.iaload, 1)) (kk : W p l e R s m args below meth c H locs cells slots Q (F0 m (pc + 1) ls (.int (κ 2 k) :: rest))) : W p l e R s m args below meth c H locs cells slots Q (F0 m pc ls (.int x :: .ref (ad 6) :: rest)) := by
  subst hxk
  refine va_iald (D := D.1) (cl := vwCl) hx hb hJ.2.2.2.1.1 hJ.1 6 0 rfl rfl (vp_in_nI hk (by omega)) hdg ?_
  rw [nI_clamp (by omega)]
  exact kk
theorem a_dri (hx : p.tables.exec = Jvm.exec) (hb : c.code = cc) (hJ : sJ D B (CW D ad κ) s H) {x : Int32} {k : Nat} (hxk : x = nI k) (hk : k < 24) (hdg : decode cc pc = .ok (.iaload, 1)) (kk : W p l e R s m args below meth c H locs cells slots Q (F0 m (pc + 1) ls (.int (κ 3 k) :: rest))) : W p l e R s m args below meth c H locs cells slots Q (F0 m pc ls (.int x :: .ref (ad 7) :: rest)) := by
  subst hxk
  refine va_iald (D := D.1) (cl := vwCl) hx hb hJ.2.2.2.1.1 hJ.1 7 0 rfl rfl (vp_in_nI hk (by omega)) hdg ?_
  rw [nI_clamp (by omega)]
  exact kk
theorem a_log (hx : p.tables.exec = Jvm.exec) (hb : c.code = cc) (hJ : sJ D B (CW D ad κ) s H) {x : Int32} {k : Nat} (hxk : x = nI k) (hk : k < 60) (hdg : decode cc pc = .ok (.aaload, 1)) (kk : W p l e R s m args below meth c H locs cells slots Q (F0 m (pc + 1) ls (.ref (ad (8 + k)) :: rest))) : W p l e R s m args below meth c H locs cells slots Q (F0 m pc ls (.int x :: .ref (ad 3) :: rest)) := by
  subst hxk
  refine va_aldq (D := D.1) (cl := vwCl) (C := RX2) hx hb hJ.2.2.2.1.1 hJ.1 3 1 rfl rfl (vp_in_nI hk (by omega)) hdg ?_
  rw [nI_clamp (by omega)]
  exact kk
theorem a_len (hx : p.tables.exec = Jvm.exec) (hb : c.code = cc) (hJ : sJ D B (CW D ad κ) s H) (hdg : decode cc pc = .ok (.arraylength, 1)) (kk : W p l e R s m args below meth c H locs cells slots Q (F0 m (pc + 1) ls (.int 190 :: rest))) : W p l e R s m args below meth c H locs cells slots Q (F0 m pc ls (.ref (ad 5) :: rest)) :=
  va_alen (D := D.1) (cl := vwCl) hx hb hJ.2.2.2.1.1 hJ.1 5 0 rfl rfl (show Int32.ofNat 190 = 190 from by decide +kernel) hdg kk
theorem t_tab (hx : p.tables.exec = Jvm.exec) (hb : c.code = cc) (hS : sS D B 68 ad (CW D ad κ) s H locs) {x v : Int32} {k : Nat} (hxk : x = nI k) (hk : k < 190) (hdg : decode cc pc = .ok (.iastore, 1)) (kk : ∀ (H1 : Heap) (locs1 : List Loc), sS D B 68 ad (CW D ad (kset κ 1 k v)) s H1 locs1 → W p l e R s m args below meth c H1 locs1 cells slots Q (F0 m (pc + 1) ls rest)) : W p l e R s m args below meth c H locs cells slots Q (F0 m pc ls (.int v :: .int x :: .ref (ad 5) :: rest)) := by
  subst hxk
  refine va_iast (D := D.1) (cl := vwCl) hx hb hS.1.2.2.2.1.1 hS.1.1 hS.2.2.1 hS.2.1 5 0 rfl rfl (vp_in_nI hk (by omega)) hdg (fun H1 locs1 q1 q2 q3 => kk H1 locs1 ?_)
  rw [nI_clamp (by omega), kset_row] at q1 q2
  exact hS.next (ws' := CW D ad (kset κ 1 k v)) q1 q2 q3
theorem t_dir (hx : p.tables.exec = Jvm.exec) (hb : c.code = cc) (hS : sS D B 68 ad (CW D ad κ) s H locs) {x v : Int32} {k : Nat} (hxk : x = nI k) (hk : k < 24) (hdg : decode cc pc = .ok (.iastore, 1)) (kk : ∀ (H1 : Heap) (locs1 : List Loc), sS D B 68 ad (CW D ad (kset κ 2 k v)) s H1 locs1 → W p l e R s m args below meth c H1 locs1 cells slots Q (F0 m (pc + 1) ls rest)) : W p l e R s m args below meth c H locs cells slots Q (F0 m pc ls (.int v :: .int x :: .ref (ad 6) :: rest)) := by
  subst hxk
  refine va_iast (D := D.1) (cl := vwCl) hx hb hS.1.2.2.2.1.1 hS.1.1 hS.2.2.1 hS.2.1 6 0 rfl rfl (vp_in_nI hk (by omega)) hdg (fun H1 locs1 q1 q2 q3 => kk H1 locs1 ?_)
  rw [nI_clamp (by omega), kset_row] at q1 q2
  exact hS.next (ws' := CW D ad (kset κ 2 k v)) q1 q2 q3
theorem t_dri (hx : p.tables.exec = Jvm.exec) (hb : c.code = cc) (hS : sS D B 68 ad (CW D ad κ) s H locs) {x v : Int32} {k : Nat} (hxk : x = nI k) (hk : k < 24) (hdg : decode cc pc = .ok (.iastore, 1)) (kk : ∀ (H1 : Heap) (locs1 : List Loc), sS D B 68 ad (CW D ad (kset κ 3 k v)) s H1 locs1 → W p l e R s m args below meth c H1 locs1 cells slots Q (F0 m (pc + 1) ls rest)) : W p l e R s m args below meth c H locs cells slots Q (F0 m pc ls (.int v :: .int x :: .ref (ad 7) :: rest)) := by
  subst hxk
  refine va_iast (D := D.1) (cl := vwCl) hx hb hS.1.2.2.2.1.1 hS.1.1 hS.2.2.1 hS.2.1 7 0 rfl rfl (vp_in_nI hk (by omega)) hdg (fun H1 locs1 q1 q2 q3 => kk H1 locs1 ?_)
  rw [nI_clamp (by omega), kset_row] at q1 q2
  exact hS.next (ws' := CW D ad (kset κ 3 k v)) q1 q2 q3
end Rows
end SWorlds

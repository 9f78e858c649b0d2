/-! ===== the world at the law's entry ===== -/
theorem arr_of {U : State} {args : Array Value} {ty : FieldType} (h : (Cond.arrayClass ty).before args U = true) : ∃ c, ArrOfT U c ty ∧ U.vm.findClass ("[" ++ ty.toString) = some c := by
  obtain ⟨c, k, comp, h1, h2, h3⟩ := Cond.arrayClass_spec (first := U) (o := none) (idx := []) h
  exact ⟨c, fun n z => ⟨(fun k e => by cases e), k, h2, comp, h3⟩, h1⟩
theorem arr_ov {U : State} {args : Array Value} {C : String} (h : (Cond.arrayOver (.object C)).before args U = true) : ∃ c, ArrOfT U c (.object C) ∧ va_RA U c (.object C) := by
  obtain ⟨comp, c, k, h1, -, h2, h3, h4⟩ := Cond.arrayOver_spec (first := U) (o := none) (idx := []) h
  exact ⟨c, fun n z => ⟨(fun k e => by cases e), k, h2, comp, h3⟩, k, comp, h2, h3, h1, h4⟩
theorem Wd_sub {w : Cond} (h : w ∈ Wd) : w ∈ lw_tbl := (List.mem_filter.mp h).1
set_option maxRecDepth 100000 in
set_option maxHeartbeats 4000000 in
theorem law_env {s : State} {args : Array Value} (l : Launch) (b : Nat) (hts : ∀ w, w ∈ lw_tbl → w.before args s = true) (hgv : (Jvm.Cond.and given_1 narrow_1).before args s = true) : ∃ G : GT, G.2.2.2.1 = s.heap.size ∧ G.2.2.2.2 = l ∧ G.2.2.1 10 = b ∧ EnvW G s := by
  have htW : ∀ w, w ∈ Wd → w.before args s = true := fun w hw => hts w (Wd_sub hw)
  have hs := flat_of_before _ hgv
  have hA : ∀ a : Nat, a < s.heap.size → ¬ (fun q : Nat => s.heap.size ≤ q) a := fun a h z => Nat.not_le.mpr h z
  obtain ⟨-, in0, -⟩ := ci_0
  obtain ⟨c0, s0, k0⟩ := u_known (C := RX0) (T := TX0) (N := 6) (n := 6) htW in0 (htW _ ib_RX0)
  obtain ⟨-, in1, -⟩ := ci_1
  obtain ⟨c1, s1, k1⟩ := u_known (C := RX1) (T := TX1) (N := 5) (n := 5) htW in1 (htW _ ib_RX1)
  obtain ⟨-, in2, -⟩ := ci_2
  obtain ⟨c2, s2, k2⟩ := u_known (C := RX2) (T := TX2) (N := 3) (n := 3) htW in2 (htW _ ib_RX2)
  obtain ⟨-, in3, -⟩ := ci_3
  obtain ⟨c3, s3, k3⟩ := u_known (C := RX3) (T := TX3) (N := 7) (n := 7) htW in3 (htW _ ib_RX3)
  obtain ⟨-, in4, -⟩ := ci_4
  obtain ⟨c4, s4, k4⟩ := u_known (C := RX4) (T := TX4) (N := 12) (n := 12) htW in4 (htW _ ib_RX4)
  obtain ⟨-, in5, -⟩ := ci_5
  obtain ⟨c5, s5, k5⟩ := u_known (C := RX5) (T := TX5) (N := 32) (n := 32) htW in5 (htW _ ib_RX5)
  obtain ⟨a0, x0, y0⟩ := arr_of (htW _ ac_int)
  obtain ⟨a1, x1, y1⟩ := arr_of (htW _ ac_boolean)
  obtain ⟨a2, x2, y2⟩ := arr_ov (C := RX3) (hts _ (List.mem_of_getElem? (i := 106) (by decide +kernel)))
  obtain ⟨t0, e0, T0⟩ := va_Tof (s := s) (args := args) (tm := .static "SpringFarms" "RATE_AT_FIRST" "[I") (ty := .int) (N := 3) (f := fun j => vi ((stl 0).getD j 0)) (A := fun q : Nat => s.heap.size ≤ q) (by decide) (hs _ (by decide +kernel)) (va_eqt (z := Int32.ofNat 3) (hs _ (by decide +kernel))) (fun j hj => by
    rcases (by omega : j = 0 ∨ j = 1 ∨ j = 2) with rfl | rfl | rfl
    · exact va_eqt (z := Int32.ofInt ((stl 0).getD 0 0)) (hs _ (by decide +kernel))
    · exact va_eqt (z := Int32.ofInt ((stl 0).getD 1 0)) (hs _ (by decide +kernel))
    · exact va_eqt (z := Int32.ofInt ((stl 0).getD 2 0)) (hs _ (by decide +kernel))) hA
  have Z0 := va_Zof (A := fun q : Nat => s.heap.size ≤ q) (hts _ (List.mem_of_getElem? (i := 65) (by decide +kernel))) (htW _ ini_SpringFarms) e0 hA
  obtain ⟨t1, e1, T1⟩ := va_Tof (s := s) (args := args) (tm := .static "SpringFarms" "FACT_AT_FIRST" "[I") (ty := .int) (N := 7) (f := fun j => vi ((stl 1).getD j 0)) (A := fun q : Nat => s.heap.size ≤ q) (by decide) (hs _ (by decide +kernel)) (va_eqt (z := Int32.ofNat 7) (hs _ (by decide +kernel))) (fun j hj => by
    rcases (by omega : j = 0 ∨ j = 1 ∨ j = 2 ∨ j = 3 ∨ j = 4 ∨ j = 5 ∨ j = 6) with rfl | rfl | rfl | rfl | rfl | rfl | rfl
    · exact va_eqt (z := Int32.ofInt ((stl 1).getD 0 0)) (hs _ (by decide +kernel))
    · exact va_eqt (z := Int32.ofInt ((stl 1).getD 1 0)) (hs _ (by decide +kernel))
    · exact va_eqt (z := Int32.ofInt ((stl 1).getD 2 0)) (hs _ (by decide +kernel))
    · exact va_eqt (z := Int32.ofInt ((stl 1).getD 3 0)) (hs _ (by decide +kernel))
    · exact va_eqt (z := Int32.ofInt ((stl 1).getD 4 0)) (hs _ (by decide +kernel))
    · exact va_eqt (z := Int32.ofInt ((stl 1).getD 5 0)) (hs _ (by decide +kernel))
    · exact va_eqt (z := Int32.ofInt ((stl 1).getD 6 0)) (hs _ (by decide +kernel))) hA
  have Z1 := va_Zof (A := fun q : Nat => s.heap.size ≤ q) (hts _ (List.mem_of_getElem? (i := 74) (by decide +kernel))) (htW _ ini_SpringFarms) e1 hA
  obtain ⟨t2, e2, T2⟩ := va_Tof (s := s) (args := args) (tm := .static "SpringFarms" "FACT_MOST" "[I") (ty := .int) (N := 7) (f := fun j => vi ((stl 2).getD j 0)) (A := fun q : Nat => s.heap.size ≤ q) (by decide) (hs _ (by decide +kernel)) (va_eqt (z := Int32.ofNat 7) (hs _ (by decide +kernel))) (fun j hj => by
    rcases (by omega : j = 0 ∨ j = 1 ∨ j = 2 ∨ j = 3 ∨ j = 4 ∨ j = 5 ∨ j = 6) with rfl | rfl | rfl | rfl | rfl | rfl | rfl
    · exact va_eqt (z := Int32.ofInt ((stl 2).getD 0 0)) (hs _ (by decide +kernel))
    · exact va_eqt (z := Int32.ofInt ((stl 2).getD 1 0)) (hs _ (by decide +kernel))
    · exact va_eqt (z := Int32.ofInt ((stl 2).getD 2 0)) (hs _ (by decide +kernel))
    · exact va_eqt (z := Int32.ofInt ((stl 2).getD 3 0)) (hs _ (by decide +kernel))
    · exact va_eqt (z := Int32.ofInt ((stl 2).getD 4 0)) (hs _ (by decide +kernel))
    · exact va_eqt (z := Int32.ofInt ((stl 2).getD 5 0)) (hs _ (by decide +kernel))
    · exact va_eqt (z := Int32.ofInt ((stl 2).getD 6 0)) (hs _ (by decide +kernel))) hA
  have Z2 := va_Zof (A := fun q : Nat => s.heap.size ≤ q) (hts _ (List.mem_of_getElem? (i := 243) (by decide +kernel))) (htW _ ini_SpringFarms) e2 hA
  obtain ⟨t3, e3, T3⟩ := va_Tof (s := s) (args := args) (tm := .static "SpringFarms" "RATE_MOST" "[I") (ty := .int) (N := 3) (f := fun j => vi ((stl 3).getD j 0)) (A := fun q : Nat => s.heap.size ≤ q) (by decide) (hs _ (by decide +kernel)) (va_eqt (z := Int32.ofNat 3) (hs _ (by decide +kernel))) (fun j hj => by
    rcases (by omega : j = 0 ∨ j = 1 ∨ j = 2) with rfl | rfl | rfl
    · exact va_eqt (z := Int32.ofInt ((stl 3).getD 0 0)) (hs _ (by decide +kernel))
    · exact va_eqt (z := Int32.ofInt ((stl 3).getD 1 0)) (hs _ (by decide +kernel))
    · exact va_eqt (z := Int32.ofInt ((stl 3).getD 2 0)) (hs _ (by decide +kernel))) hA
  have Z3 := va_Zof (A := fun q : Nat => s.heap.size ≤ q) (hts _ (List.mem_of_getElem? (i := 257) (by decide +kernel))) (htW _ ini_SpringFarms) e3 hA
  obtain ⟨t4, e4, T4⟩ := va_Tof (s := s) (args := args) (tm := .static "SpringFarms" "FACT_BEHIND" "[I") (ty := .int) (N := 4) (f := fun j => vi ((stl 4).getD j 0)) (A := fun q : Nat => s.heap.size ≤ q) (by decide) (hs _ (by decide +kernel)) (va_eqt (z := Int32.ofNat 4) (hs _ (by decide +kernel))) (fun j hj => by
    rcases (by omega : j = 0 ∨ j = 1 ∨ j = 2 ∨ j = 3) with rfl | rfl | rfl | rfl
    · exact va_eqt (z := Int32.ofInt ((stl 4).getD 0 0)) (hs _ (by decide +kernel))
    · exact va_eqt (z := Int32.ofInt ((stl 4).getD 1 0)) (hs _ (by decide +kernel))
    · exact va_eqt (z := Int32.ofInt ((stl 4).getD 2 0)) (hs _ (by decide +kernel))
    · exact va_eqt (z := Int32.ofInt ((stl 4).getD 3 0)) (hs _ (by decide +kernel))) hA
  have Z4 := va_Zof (A := fun q : Nat => s.heap.size ≤ q) (hts _ (List.mem_of_getElem? (i := 357) (by decide +kernel))) (htW _ ini_SpringFarms) e4 hA
  refine ⟨((fun k => if k = 0 then c0 else if k = 1 then c1 else if k = 2 then c2 else if k = 3 then c3 else if k = 4 then c4 else c5, fun k => if k = 0 then s0 else if k = 1 then s1 else if k = 2 then s2 else if k = 3 then s3 else if k = 4 then s4 else s5), (fun k => if k = 0 then a0 else if k = 1 then a1 else a2), (fun k => if k = 0 then t0 else if k = 1 then t1 else if k = 2 then t2 else if k = 3 then t3 else if k = 4 then t4 else b), s.heap.size, l), rfl, rfl, rfl, ⟨?_, ?_⟩, ?_, ?_, ?_⟩
  · intro k q hq
    match k, hq with
    | 0, hq => cases hq; exact k0
    | 1, hq => cases hq; exact k1
    | 2, hq => cases hq; exact k2
    | 3, hq => cases hq; exact k3
    | 4, hq => cases hq; exact k4
    | 5, hq => cases hq; exact k5
    | k + 6, hq => simp [classes] at hq
  · intro k q hq
    match k, hq with
    | 0, hq => cases hq; exact ⟨x0, y0⟩
    | 1, hq => cases hq; exact ⟨x1, y1⟩
    | 2, hq => cases hq; exact ⟨x2, y2⟩
    | k + 3, hq => simp at hq
  · intro k hk
    rcases (by omega : k = 0 ∨ k = 1 ∨ k = 2 ∨ k = 3 ∨ k = 4) with rfl | rfl | rfl | rfl | rfl
    · exact ⟨Z0, T0⟩
    · exact ⟨Z1, T1⟩
    · exact ⟨Z2, T2⟩
    · exact ⟨Z3, T3⟩
    · exact ⟨Z4, T4⟩
  · intro w hw
    simp only [nests, List.mem_cons, List.not_mem_nil, or_false] at hw
    rcases hw with rfl | rfl | rfl | rfl | rfl | rfl | rfl
    · exact va_Nw.of rfl (hts _ (List.mem_of_getElem? (i := 64) (by decide +kernel)))
    · exact va_Nw.of rfl (hts _ (List.mem_of_getElem? (i := 73) (by decide +kernel)))
    · exact va_Nw.of rfl (hts _ (List.mem_of_getElem? (i := 317) (by decide +kernel)))
    · exact va_Nw.of rfl (hts _ (List.mem_of_getElem? (i := 109) (by decide +kernel)))
    · exact va_Nw.of rfl (hts _ (List.mem_of_getElem? (i := 130) (by decide +kernel)))
    · exact va_Nw.of rfl (hts _ (List.mem_of_getElem? (i := 157) (by decide +kernel)))
    · exact va_Nw.of rfl (hts _ (List.mem_of_getElem? (i := 164) (by decide +kernel)))
  · exact va_AO.of (hts _ (List.mem_of_getElem? (i := 106) (by decide +kernel)))
/-- the walk from the entry, out of the end that the law asks -/
theorem lw_main {G : GT} {p : Program} {e : Env} {s : State} {m : MethodId} {args : Array Value} {below : List Frame} {meth : Method} {c : Code} {Q : State → Prop} {L : Nat} {xs : Nat → Int32} (hL : L ≤ 3072) (hx : p.tables.exec = Jvm.exec) (hb : c.code = cL_law) (hml : c.maxLocals = 4) (hown : s.vm.findClass RL = some m.cls) (hts : ∀ w, w ∈ lw_tbl → w.before args s = true) (hX : va_X (G.2.2.1 10) L xs s s.heap) (hbl : G.2.2.1 10 < s.heap.size) (hG : G.2.2.2.1 = s.heap.size) (hE : EnvW G s)
    (hfin : ∀ (H : Heap) (locs : List Loc) (ls : Array Slot), (∀ q ∈ locs, s.heap.size ≤ q.base) → W p G.2.2.2.2 e room_1 s m args below meth c H locs 600000 7302250 Q (F0 m 1030 ls [.int 1])) :
    W p G.2.2.2.2 e room_1 s m args below meth c s.heap [] 0 0 Q (entryFrame m ([Value.ref (G.2.2.1 10)] : List Value).toArray 4) := by
  rw [lg_entry_eq]
  have hA : ∀ q : Nat, s.heap.size ≤ q → Ab G q := fun q h => by show G.2.2.2.1 ≤ q; rw [hG]; exact h
  have hok : OkW G RL cL_law (p, e, s, m, args, below, meth, c, Q, 4, (fun i => G.2.2.1 (i - 70)), []) := ⟨hx, hb, hml, hown, fun w hw => hts w (Wd_sub hw), hE, hA⟩
  have hSX : SX G (p, e, s, m, args, below, meth, c, Q, 4, (fun i => G.2.2.1 (i - 70)), []) L xs := ⟨hX, hbl, fun z => by have z : G.2.2.2.1 ≤ G.2.2.1 10 := z; omega, hL⟩
  refine lw_begin (G := G) hSX hL ?_ hok (fun i => G.2.2.1 (i - 70)) s.heap [] _ ⟨⟨fun k q h => by simp [wl] at h, ⟨fun i j p q h => by simp [wl] at h, fun k q h => by simp [wl] at h⟩, fun k => ?_, fun i h => (nomatch h), fun i h => (nomatch h)⟩, va_S.rf, LocW.entry (As := [.ref 80]) (Nat.le_of_ble_eq_true rfl), ?_, fun v hv => (nomatch hv), fun _ _ => rfl, fun _ h => h⟩
  · intro L1 K1 N1 I1 ok al H locs ls st
    exact hfin H locs ls (fun q hq => by have z : G.2.2.2.1 ≤ q.base := st.2.1.2.2 q hq; omega)
  · show G.2.2.1 (70 + k - 70) = G.2.2.1 k
    rw [Nat.add_sub_cancel_left]
  · intro i v hv
    match i, hv with
    | 0, hv => cases hv; exact Or.inr (by decide)
    | 1, hv => cases hv
    | 2, hv => cases hv
    | 3, hv => cases hv
    | i + 4, hv => cases hv

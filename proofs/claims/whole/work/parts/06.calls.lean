/-! ===== contracts and calls ===== -/
abbrev MT : Type := MethodName × ByteArray × Nat
abbrev UT : Type := List Nat × NN × MM × (Nat → Nat)
def agW (al : Nat → Nat) (K : List Nat) (u : UT) : Prop := (∀ i, i ∈ K → i ∈ u.1) ∧ ∀ i, (i ∈ K ∨ 70 ≤ i) → u.2.2.2 i = al i
abbrev PcW (G : GT) (al : Nat → Nat) (As : List Value) (K : List Nat) (N : NN) (I : MM) : Array Value → State → Prop := va_Pc (As.map (gm al)) (fun U => EnvW G U ∧ (∀ q : Nat, U.heap.size ≤ q → Ab G q) ∧ RepW G al K N I U.heap)
abbrev BhW (G : GT) : UT → State → Prop := fun u t => RepW G u.2.2.2 u.1 u.2.1 u.2.2.1 t.heap
abbrev QiW (G : GT) (al : Nat → Nat) (K : List Nat) (Q : Int → List Nat → NN → MM → Prop) : Array Value → State → Outcome → State → Prop := va_Qi (fun (r : Int32) (u : UT) => (∃ z : Int, r = Int32.ofInt z ∧ Q z u.1 u.2.1 u.2.2.1) ∧ agW al K u) (BhW G) (Ab G)
abbrev QlW (G : GT) (al : Nat → Nat) (K : List Nat) (Q : Int → List Nat → NN → MM → Prop) : Array Value → State → Outcome → State → Prop := va_Ql (fun (r : Int64) (u : UT) => (∃ z : Int, r = Int64.ofInt z ∧ Q z u.1 u.2.1 u.2.2.1) ∧ agW al K u) (BhW G) (Ab G)
abbrev QvW (G : GT) (al : Nat → Nat) (K : List Nat) (Q : List Nat → NN → MM → Prop) : Array Value → State → Outcome → State → Prop := va_Qv (fun (u : UT) => Q u.1 u.2.1 u.2.2.1 ∧ agW al K u) (BhW G) (Ab G)
def RmW (fr lo mc ms : Nat) : Room := { frames := fr, cells := mc, slots := ms, locals := lo }
/-- a method's contract: the world as it stands, the answer and the world behind it -/
def SpI (G : GT) (m : MT) (ty : FieldType) (fr lo mc ms : Nat) (As : List Value) (K : List Nat) (N : NN) (I : MM) (Q : Int → List Nat → NN → MM → Prop) : Prop := ∀ al, okS K As → Met G.2.2.2.2 m.1 (Cond.code m.1 m.2.1 m.2.2 (some ty) :: Wd) (RmW fr lo mc ms) (PcW G al As K N I) (QiW G al K Q) mc ms (Ab G)
def SpL (G : GT) (m : MT) (ty : FieldType) (fr lo mc ms : Nat) (As : List Value) (K : List Nat) (N : NN) (I : MM) (Q : Int → List Nat → NN → MM → Prop) : Prop := ∀ al, okS K As → Met G.2.2.2.2 m.1 (Cond.code m.1 m.2.1 m.2.2 (some ty) :: Wd) (RmW fr lo mc ms) (PcW G al As K N I) (QlW G al K Q) mc ms (Ab G)
def SpV (G : GT) (m : MT) (fr lo mc ms : Nat) (As : List Value) (K : List Nat) (N : NN) (I : MM) (Q : List Nat → NN → MM → Prop) : Prop := ∀ al, okS K As → Met G.2.2.2.2 m.1 (Cond.code m.1 m.2.1 m.2.2 none :: Wd) (RmW fr lo mc ms) (PcW G al As K N I) (QvW G al K Q) mc ms (Ab G)
theorem Wd_good : ∀ w, w ∈ Wd → goodWord w = true := fun w hw => (List.mem_filter.mp hw).2
theorem Wd_in {w : Cond} (ws : List Cond) (i : Nat) (h : lw_tbl[i]? = some w) (hg : goodWord w = true) : w ∈ Wd := List.mem_filter.mpr ⟨List.mem_of_getElem? h, hg⟩
theorem GoodIn.Wd {w : Cond} (h : w ∈ Wd) : GoodIn Wd (w :: Wd) := fun v hv => by
  rcases List.mem_cons.mp hv with rfl | hv
  · exact ⟨h, good_of_word (Wd_good _ h)⟩
  · exact ⟨hv, good_of_word (Wd_good _ hv)⟩
theorem RepW.blind {G : GT} {al : Nat → Nat} {As : List Value} {K : List Nat} {N : NN} {I : MM} : FrameBlind (PcW G al As K N I) := fun a U g mk q => ⟨q.1, EnvW.moved (u := U) (U := U.calling g mk a) (State.WarmedH.refl U) (Nat.le_refl _) (fun _ _ _ => rfl) q.2.1, q.2.2.1, q.2.2.2⟩
/-- what the tables must say of a method that is called -/
def VW (m : MT) (ret : Option FieldType) (n : Nat) : Prop := Cond.initialized m.1.cls ∈ Wd ∧ Cond.code m.1 m.2.1 m.2.2 ret ∈ Wd ∧ m.1.cls ≠ "java/lang/invoke/MethodHandle" ∧ m.1.cls ≠ "java/lang/invoke/VarHandle" ∧ (parseMethodDescriptor m.1.desc).map (fun d => d.parameters.length) = some n
def VVW (m : MT) : Prop := Cond.instanceMethod m.1 ∈ Wd ∧ Cond.selects m.1.cls m.1 m.1 ∈ Wd ∧ ∃ ci T Nn, classes[ci]? = some (m.1.cls, T, Nn) ∧ ci < 6
section FR
variable {G : GT} {own : String} {cc : ByteArray} {R : Room} {Fx : FxT} {pc : Nat} {L : List (Option Value)} {S : List Value} {K : List Nat} {N : NN} {I : MM} {cs ss : Nat}

theorem StW.behind {a0 : Nat → Nat} {K0 : List Nat} {nL : Nat} {s : State} {al : Nat → Nat} {H H1 : Heap} {locs locs1 : List Loc} {ls : Array Slot} {S0 S' : List Value} {u : UT} (h : StW G a0 K0 nL s al H locs ls L S0 K N I) (hag : agW al K u) (hR : RepW G u.2.2.2 u.1 u.2.1 u.2.2.1 H1) (hS : va_S (Ab G) s.heap H1 locs1) (hS' : okS K S0 → okS K S') : StW G a0 K0 nL s u.2.2.2 H1 locs1 ls L S' u.1 u.2.1 u.2.2.1 ∧ S'.map (gm u.2.2.2) = S'.map (gm al) := by
  have h5 := hS' h.2.2.2.2.1
  exact ⟨⟨hR, hS, h.2.2.1.agree hag.2 h.2.2.2.1, h.2.2.2.1.mono hag.1, h5.mono hag.1, fun j hj => by rw [hag.2 j (hj.imp (fun z => h.2.2.2.2.2.2 j z) id)]; exact h.2.2.2.2.2.1 j hj, fun j hj => hag.1 j (h.2.2.2.2.2.2 j hj)⟩, gmS_agree hag.2 h5⟩
theorem PcW.at {al : Nat → Nat} {s : State} {H : Heap} {locs : List Loc} {As : List Value} (hE : EnvW G s) (hA : ∀ q : Nat, s.heap.size ≤ q → Ab G q) (hS : va_S (Ab G) s.heap H locs) (hR : RepW G al K N I H) : ∀ U : State, U.heap = H → s.WarmedH U.vm → PcW G al As K N I (As.map (gm al)).toArray U := fun U hU hW => ⟨rfl, EnvW.moved hW (by rw [hU]; exact hS.1) (fun a h1 h2 => by rw [hU]; exact hS.2.1 a h1 h2) hE, fun q hq => hA q (Nat.le_trans (by rw [← hU] at hS; exact hS.1) hq), by rw [hU]; exact hR⟩
theorem x_cVI0 {x : Nat} {mt : MT} {ty : FieldType} {fr lo mc ms : Nat} {i : Nat} {Q : Int → List Nat → NN → MM → Prop} (hd : decode cc pc = .ok (.invokevirtual x, 3)) (hl : Cond.methodLink own x mt.1 ∈ Wd) (hv : VW mt (some ty) 0) (hvv : VVW mt) (hk : (classes[kd i]?).map (fun q => q.1) = some mt.1.cls) (sp : SpI G mt ty fr lo mc ms [.ref i] K N I Q) (hR : fr + 1 ≤ R.frames ∧ 8 + (mt.2.2 + 11) + lo ≤ R.locals ∧ cs + mc ≤ R.cells ∧ ss + ms ≤ R.slots ∧ (S.map fun v => v.category).sum ≤ 8) (kk : ∀ z K1 N1 I1, Q z K1 N1 I1 → (∀ i, i ∈ K → i ∈ K1) → XX G own cc R Fx (pc + 3) L (vi z :: S) K1 N1 I1 (cs + mc) (ss + ms)) : XX G own cc R Fx pc L (.ref i :: S) K N I cs ss := by
  obtain ⟨p, e, s, m, args, below, meth, c, Q, nL, a0, K0⟩ := Fx
  intro ok al H locs ls st
  obtain ⟨hx, hb, hml, hown, hts, hE, hA⟩ := id ok
  have okN : okS K [] := fun w hw => nomatch hw
  have hoA : okS K [.ref i] := by
    have q := st.2.2.2.2.1
    exact (okN).cons q.head
  obtain ⟨ci, T, Nn, hc, h6⟩ := hvv.2.2
  have recv : ∃ cellB : Cell, H[al i]? = some cellB ∧ cellB.vm.isStatics = false ∧ s.vm.findClass mt.1.cls = some cellB.cls := by
    cases hq : classes[kd i]? with
    | none => rw [hq] at hk; cases hk
    | some r =>
      rw [hq] at hk
      have hkd : kd i < 6 := (List.getElem?_eq_some_iff.mp hq).1
      obtain ⟨q0, hq0⟩ := List.getElem?_of_mem ((okS.head (fun w hw => hoA w hw : okS K [.ref i])).mem (by omega))
      have z := va_recv hE.1 st.1.1 hq (by rw [wl_at hq0, ent_obj rfl hkd])
      have hk2 : r.1 = mt.1.cls := Option.some.inj hk
      rw [hk2] at z
      exact z
  refine va_calli (va_runV (As := []) (rest := S.map (gm al)) (C := mt.1.cls) (b := al i) ⟨hx, hb, hml, hown, hts⟩ (sp al hoA) ⟨callB_of 0 hts (GoodIn.Wd hv.2.1) rfl rfl rfl (hts _ hv.1) (hts _ hl) hv.2.2 ⟨hR.1, hR.2.1⟩, hts _ hvv.1, hts _ hvv.2.1⟩ ⟨RepW.blind, recv, fun U hU hW => PcW.at (As := [.ref i]) hE hA st.2.1 st.1 U hU hW⟩ rfl rfl st.2.2.1.1 rfl (lv_room (by rw [cat_gm]; exact hR.2.2.2.2)) hd ⟨hR.2.2.1, hR.2.2.2.1⟩) st.2.1 (fun q _ h => h) (fun q h => h) (fun r u t H1 locs1 ht hvm hp hB hz1 hk1 hS1 => ?_)
  obtain ⟨⟨z, rfl, hq⟩, hag⟩ := hp
  have hB : RepW G u.2.2.2 u.1 u.2.1 u.2.2.1 H1 := ht ▸ hB
  obtain ⟨r1, r2⟩ := st.behind (S' := vi z :: S) hag hB hS1 (fun q => (q.tail).cons trivial)
  have k1 := kk z u.1 u.2.1 u.2.2.1 hq hag.1 ok u.2.2.2 H1 locs1 ls r1
  rw [r2] at k1
  exact k1
theorem x_cVI1 {x : Nat} {mt : MT} {ty : FieldType} {fr lo mc ms : Nat} {i : Nat} {v1 : Value} {Q : Int → List Nat → NN → MM → Prop} (hd : decode cc pc = .ok (.invokevirtual x, 3)) (hl : Cond.methodLink own x mt.1 ∈ Wd) (hv : VW mt (some ty) 1) (hvv : VVW mt) (hk : (classes[kd i]?).map (fun q => q.1) = some mt.1.cls) (sp : SpI G mt ty fr lo mc ms [.ref i, v1] K N I Q) (hR : fr + 1 ≤ R.frames ∧ 8 + (mt.2.2 + 11) + lo ≤ R.locals ∧ cs + mc ≤ R.cells ∧ ss + ms ≤ R.slots ∧ (S.map fun v => v.category).sum ≤ 8) (kk : ∀ z K1 N1 I1, Q z K1 N1 I1 → (∀ i, i ∈ K → i ∈ K1) → XX G own cc R Fx (pc + 3) L (vi z :: S) K1 N1 I1 (cs + mc) (ss + ms)) : XX G own cc R Fx pc L (v1 :: .ref i :: S) K N I cs ss := by
  obtain ⟨p, e, s, m, args, below, meth, c, Q, nL, a0, K0⟩ := Fx
  intro ok al H locs ls st
  obtain ⟨hx, hb, hml, hown, hts, hE, hA⟩ := id ok
  have okN : okS K [] := fun w hw => nomatch hw
  have hoA : okS K [.ref i, v1] := by
    have q := st.2.2.2.2.1
    exact ((okN).cons q.head).cons q.tail.head
  obtain ⟨ci, T, Nn, hc, h6⟩ := hvv.2.2
  have recv : ∃ cellB : Cell, H[al i]? = some cellB ∧ cellB.vm.isStatics = false ∧ s.vm.findClass mt.1.cls = some cellB.cls := by
    cases hq : classes[kd i]? with
    | none => rw [hq] at hk; cases hk
    | some r =>
      rw [hq] at hk
      have hkd : kd i < 6 := (List.getElem?_eq_some_iff.mp hq).1
      obtain ⟨q0, hq0⟩ := List.getElem?_of_mem ((okS.head (fun w hw => hoA w hw : okS K [.ref i, v1])).mem (by omega))
      have z := va_recv hE.1 st.1.1 hq (by rw [wl_at hq0, ent_obj rfl hkd])
      have hk2 : r.1 = mt.1.cls := Option.some.inj hk
      rw [hk2] at z
      exact z
  refine va_calli (va_runV (As := [gm al v1]) (rest := S.map (gm al)) (C := mt.1.cls) (b := al i) ⟨hx, hb, hml, hown, hts⟩ (sp al hoA) ⟨callB_of 1 hts (GoodIn.Wd hv.2.1) rfl rfl rfl (hts _ hv.1) (hts _ hl) hv.2.2 ⟨hR.1, hR.2.1⟩, hts _ hvv.1, hts _ hvv.2.1⟩ ⟨RepW.blind, recv, fun U hU hW => PcW.at (As := [.ref i, v1]) hE hA st.2.1 st.1 U hU hW⟩ rfl rfl st.2.2.1.1 rfl (lv_room (by rw [cat_gm]; exact hR.2.2.2.2)) hd ⟨hR.2.2.1, hR.2.2.2.1⟩) st.2.1 (fun q _ h => h) (fun q h => h) (fun r u t H1 locs1 ht hvm hp hB hz1 hk1 hS1 => ?_)
  obtain ⟨⟨z, rfl, hq⟩, hag⟩ := hp
  have hB : RepW G u.2.2.2 u.1 u.2.1 u.2.2.1 H1 := ht ▸ hB
  obtain ⟨r1, r2⟩ := st.behind (S' := vi z :: S) hag hB hS1 (fun q => (q.tail.tail).cons trivial)
  have k1 := kk z u.1 u.2.1 u.2.2.1 hq hag.1 ok u.2.2.2 H1 locs1 ls r1
  rw [r2] at k1
  exact k1
theorem x_cVI2 {x : Nat} {mt : MT} {ty : FieldType} {fr lo mc ms : Nat} {i : Nat} {v1 v2 : Value} {Q : Int → List Nat → NN → MM → Prop} (hd : decode cc pc = .ok (.invokevirtual x, 3)) (hl : Cond.methodLink own x mt.1 ∈ Wd) (hv : VW mt (some ty) 2) (hvv : VVW mt) (hk : (classes[kd i]?).map (fun q => q.1) = some mt.1.cls) (sp : SpI G mt ty fr lo mc ms [.ref i, v1, v2] K N I Q) (hR : fr + 1 ≤ R.frames ∧ 8 + (mt.2.2 + 11) + lo ≤ R.locals ∧ cs + mc ≤ R.cells ∧ ss + ms ≤ R.slots ∧ (S.map fun v => v.category).sum ≤ 8) (kk : ∀ z K1 N1 I1, Q z K1 N1 I1 → (∀ i, i ∈ K → i ∈ K1) → XX G own cc R Fx (pc + 3) L (vi z :: S) K1 N1 I1 (cs + mc) (ss + ms)) : XX G own cc R Fx pc L (v2 :: v1 :: .ref i :: S) K N I cs ss := by
  obtain ⟨p, e, s, m, args, below, meth, c, Q, nL, a0, K0⟩ := Fx
  intro ok al H locs ls st
  obtain ⟨hx, hb, hml, hown, hts, hE, hA⟩ := id ok
  have okN : okS K [] := fun w hw => nomatch hw
  have hoA : okS K [.ref i, v1, v2] := by
    have q := st.2.2.2.2.1
    exact (((okN).cons q.head).cons q.tail.head).cons q.tail.tail.head
  obtain ⟨ci, T, Nn, hc, h6⟩ := hvv.2.2
  have recv : ∃ cellB : Cell, H[al i]? = some cellB ∧ cellB.vm.isStatics = false ∧ s.vm.findClass mt.1.cls = some cellB.cls := by
    cases hq : classes[kd i]? with
    | none => rw [hq] at hk; cases hk
    | some r =>
      rw [hq] at hk
      have hkd : kd i < 6 := (List.getElem?_eq_some_iff.mp hq).1
      obtain ⟨q0, hq0⟩ := List.getElem?_of_mem ((okS.head (fun w hw => hoA w hw : okS K [.ref i, v1, v2])).mem (by omega))
      have z := va_recv hE.1 st.1.1 hq (by rw [wl_at hq0, ent_obj rfl hkd])
      have hk2 : r.1 = mt.1.cls := Option.some.inj hk
      rw [hk2] at z
      exact z
  refine va_calli (va_runV (As := [gm al v1, gm al v2]) (rest := S.map (gm al)) (C := mt.1.cls) (b := al i) ⟨hx, hb, hml, hown, hts⟩ (sp al hoA) ⟨callB_of 2 hts (GoodIn.Wd hv.2.1) rfl rfl rfl (hts _ hv.1) (hts _ hl) hv.2.2 ⟨hR.1, hR.2.1⟩, hts _ hvv.1, hts _ hvv.2.1⟩ ⟨RepW.blind, recv, fun U hU hW => PcW.at (As := [.ref i, v1, v2]) hE hA st.2.1 st.1 U hU hW⟩ rfl rfl st.2.2.1.1 rfl (lv_room (by rw [cat_gm]; exact hR.2.2.2.2)) hd ⟨hR.2.2.1, hR.2.2.2.1⟩) st.2.1 (fun q _ h => h) (fun q h => h) (fun r u t H1 locs1 ht hvm hp hB hz1 hk1 hS1 => ?_)
  obtain ⟨⟨z, rfl, hq⟩, hag⟩ := hp
  have hB : RepW G u.2.2.2 u.1 u.2.1 u.2.2.1 H1 := ht ▸ hB
  obtain ⟨r1, r2⟩ := st.behind (S' := vi z :: S) hag hB hS1 (fun q => (q.tail.tail.tail).cons trivial)
  have k1 := kk z u.1 u.2.1 u.2.2.1 hq hag.1 ok u.2.2.2 H1 locs1 ls r1
  rw [r2] at k1
  exact k1
theorem x_cVI3 {x : Nat} {mt : MT} {ty : FieldType} {fr lo mc ms : Nat} {i : Nat} {v1 v2 v3 : Value} {Q : Int → List Nat → NN → MM → Prop} (hd : decode cc pc = .ok (.invokevirtual x, 3)) (hl : Cond.methodLink own x mt.1 ∈ Wd) (hv : VW mt (some ty) 3) (hvv : VVW mt) (hk : (classes[kd i]?).map (fun q => q.1) = some mt.1.cls) (sp : SpI G mt ty fr lo mc ms [.ref i, v1, v2, v3] K N I Q) (hR : fr + 1 ≤ R.frames ∧ 8 + (mt.2.2 + 11) + lo ≤ R.locals ∧ cs + mc ≤ R.cells ∧ ss + ms ≤ R.slots ∧ (S.map fun v => v.category).sum ≤ 8) (kk : ∀ z K1 N1 I1, Q z K1 N1 I1 → (∀ i, i ∈ K → i ∈ K1) → XX G own cc R Fx (pc + 3) L (vi z :: S) K1 N1 I1 (cs + mc) (ss + ms)) : XX G own cc R Fx pc L (v3 :: v2 :: v1 :: .ref i :: S) K N I cs ss := by
  obtain ⟨p, e, s, m, args, below, meth, c, Q, nL, a0, K0⟩ := Fx
  intro ok al H locs ls st
  obtain ⟨hx, hb, hml, hown, hts, hE, hA⟩ := id ok
  have okN : okS K [] := fun w hw => nomatch hw
  have hoA : okS K [.ref i, v1, v2, v3] := by
    have q := st.2.2.2.2.1
    exact ((((okN).cons q.head).cons q.tail.head).cons q.tail.tail.head).cons q.tail.tail.tail.head
  obtain ⟨ci, T, Nn, hc, h6⟩ := hvv.2.2
  have recv : ∃ cellB : Cell, H[al i]? = some cellB ∧ cellB.vm.isStatics = false ∧ s.vm.findClass mt.1.cls = some cellB.cls := by
    cases hq : classes[kd i]? with
    | none => rw [hq] at hk; cases hk
    | some r =>
      rw [hq] at hk
      have hkd : kd i < 6 := (List.getElem?_eq_some_iff.mp hq).1
      obtain ⟨q0, hq0⟩ := List.getElem?_of_mem ((okS.head (fun w hw => hoA w hw : okS K [.ref i, v1, v2, v3])).mem (by omega))
      have z := va_recv hE.1 st.1.1 hq (by rw [wl_at hq0, ent_obj rfl hkd])
      have hk2 : r.1 = mt.1.cls := Option.some.inj hk
      rw [hk2] at z
      exact z
  refine va_calli (va_runV (As := [gm al v1, gm al v2, gm al v3]) (rest := S.map (gm al)) (C := mt.1.cls) (b := al i) ⟨hx, hb, hml, hown, hts⟩ (sp al hoA) ⟨callB_of 3 hts (GoodIn.Wd hv.2.1) rfl rfl rfl (hts _ hv.1) (hts _ hl) hv.2.2 ⟨hR.1, hR.2.1⟩, hts _ hvv.1, hts _ hvv.2.1⟩ ⟨RepW.blind, recv, fun U hU hW => PcW.at (As := [.ref i, v1, v2, v3]) hE hA st.2.1 st.1 U hU hW⟩ rfl rfl st.2.2.1.1 rfl (lv_room (by rw [cat_gm]; exact hR.2.2.2.2)) hd ⟨hR.2.2.1, hR.2.2.2.1⟩) st.2.1 (fun q _ h => h) (fun q h => h) (fun r u t H1 locs1 ht hvm hp hB hz1 hk1 hS1 => ?_)
  obtain ⟨⟨z, rfl, hq⟩, hag⟩ := hp
  have hB : RepW G u.2.2.2 u.1 u.2.1 u.2.2.1 H1 := ht ▸ hB
  obtain ⟨r1, r2⟩ := st.behind (S' := vi z :: S) hag hB hS1 (fun q => (q.tail.tail.tail.tail).cons trivial)
  have k1 := kk z u.1 u.2.1 u.2.2.1 hq hag.1 ok u.2.2.2 H1 locs1 ls r1
  rw [r2] at k1
  exact k1
theorem x_cVI4 {x : Nat} {mt : MT} {ty : FieldType} {fr lo mc ms : Nat} {i : Nat} {v1 v2 v3 v4 : Value} {Q : Int → List Nat → NN → MM → Prop} (hd : decode cc pc = .ok (.invokevirtual x, 3)) (hl : Cond.methodLink own x mt.1 ∈ Wd) (hv : VW mt (some ty) 4) (hvv : VVW mt) (hk : (classes[kd i]?).map (fun q => q.1) = some mt.1.cls) (sp : SpI G mt ty fr lo mc ms [.ref i, v1, v2, v3, v4] K N I Q) (hR : fr + 1 ≤ R.frames ∧ 8 + (mt.2.2 + 11) + lo ≤ R.locals ∧ cs + mc ≤ R.cells ∧ ss + ms ≤ R.slots ∧ (S.map fun v => v.category).sum ≤ 8) (kk : ∀ z K1 N1 I1, Q z K1 N1 I1 → (∀ i, i ∈ K → i ∈ K1) → XX G own cc R Fx (pc + 3) L (vi z :: S) K1 N1 I1 (cs + mc) (ss + ms)) : XX G own cc R Fx pc L (v4 :: v3 :: v2 :: v1 :: .ref i :: S) K N I cs ss := by
  obtain ⟨p, e, s, m, args, below, meth, c, Q, nL, a0, K0⟩ := Fx
  intro ok al H locs ls st
  obtain ⟨hx, hb, hml, hown, hts, hE, hA⟩ := id ok
  have okN : okS K [] := fun w hw => nomatch hw
  have hoA : okS K [.ref i, v1, v2, v3, v4] := by
    have q := st.2.2.2.2.1
    exact (((((okN).cons q.head).cons q.tail.head).cons q.tail.tail.head).cons q.tail.tail.tail.head).cons q.tail.tail.tail.tail.head
  obtain ⟨ci, T, Nn, hc, h6⟩ := hvv.2.2
  have recv : ∃ cellB : Cell, H[al i]? = some cellB ∧ cellB.vm.isStatics = false ∧ s.vm.findClass mt.1.cls = some cellB.cls := by
    cases hq : classes[kd i]? with
    | none => rw [hq] at hk; cases hk
    | some r =>
      rw [hq] at hk
      have hkd : kd i < 6 := (List.getElem?_eq_some_iff.mp hq).1
      obtain ⟨q0, hq0⟩ := List.getElem?_of_mem ((okS.head (fun w hw => hoA w hw : okS K [.ref i, v1, v2, v3, v4])).mem (by omega))
      have z := va_recv hE.1 st.1.1 hq (by rw [wl_at hq0, ent_obj rfl hkd])
      have hk2 : r.1 = mt.1.cls := Option.some.inj hk
      rw [hk2] at z
      exact z
  refine va_calli (va_runV (As := [gm al v1, gm al v2, gm al v3, gm al v4]) (rest := S.map (gm al)) (C := mt.1.cls) (b := al i) ⟨hx, hb, hml, hown, hts⟩ (sp al hoA) ⟨callB_of 4 hts (GoodIn.Wd hv.2.1) rfl rfl rfl (hts _ hv.1) (hts _ hl) hv.2.2 ⟨hR.1, hR.2.1⟩, hts _ hvv.1, hts _ hvv.2.1⟩ ⟨RepW.blind, recv, fun U hU hW => PcW.at (As := [.ref i, v1, v2, v3, v4]) hE hA st.2.1 st.1 U hU hW⟩ rfl rfl st.2.2.1.1 rfl (lv_room (by rw [cat_gm]; exact hR.2.2.2.2)) hd ⟨hR.2.2.1, hR.2.2.2.1⟩) st.2.1 (fun q _ h => h) (fun q h => h) (fun r u t H1 locs1 ht hvm hp hB hz1 hk1 hS1 => ?_)
  obtain ⟨⟨z, rfl, hq⟩, hag⟩ := hp
  have hB : RepW G u.2.2.2 u.1 u.2.1 u.2.2.1 H1 := ht ▸ hB
  obtain ⟨r1, r2⟩ := st.behind (S' := vi z :: S) hag hB hS1 (fun q => (q.tail.tail.tail.tail.tail).cons trivial)
  have k1 := kk z u.1 u.2.1 u.2.2.1 hq hag.1 ok u.2.2.2 H1 locs1 ls r1
  rw [r2] at k1
  exact k1
theorem x_cVI5 {x : Nat} {mt : MT} {ty : FieldType} {fr lo mc ms : Nat} {i : Nat} {v1 v2 v3 v4 v5 : Value} {Q : Int → List Nat → NN → MM → Prop} (hd : decode cc pc = .ok (.invokevirtual x, 3)) (hl : Cond.methodLink own x mt.1 ∈ Wd) (hv : VW mt (some ty) 5) (hvv : VVW mt) (hk : (classes[kd i]?).map (fun q => q.1) = some mt.1.cls) (sp : SpI G mt ty fr lo mc ms [.ref i, v1, v2, v3, v4, v5] K N I Q) (hR : fr + 1 ≤ R.frames ∧ 8 + (mt.2.2 + 11) + lo ≤ R.locals ∧ cs + mc ≤ R.cells ∧ ss + ms ≤ R.slots ∧ (S.map fun v => v.category).sum ≤ 8) (kk : ∀ z K1 N1 I1, Q z K1 N1 I1 → (∀ i, i ∈ K → i ∈ K1) → XX G own cc R Fx (pc + 3) L (vi z :: S) K1 N1 I1 (cs + mc) (ss + ms)) : XX G own cc R Fx pc L (v5 :: v4 :: v3 :: v2 :: v1 :: .ref i :: S) K N I cs ss := by
  obtain ⟨p, e, s, m, args, below, meth, c, Q, nL, a0, K0⟩ := Fx
  intro ok al H locs ls st
  obtain ⟨hx, hb, hml, hown, hts, hE, hA⟩ := id ok
  have okN : okS K [] := fun w hw => nomatch hw
  have hoA : okS K [.ref i, v1, v2, v3, v4, v5] := by
    have q := st.2.2.2.2.1
    exact ((((((okN).cons q.head).cons q.tail.head).cons q.tail.tail.head).cons q.tail.tail.tail.head).cons q.tail.tail.tail.tail.head).cons q.tail.tail.tail.tail.tail.head
  obtain ⟨ci, T, Nn, hc, h6⟩ := hvv.2.2
  have recv : ∃ cellB : Cell, H[al i]? = some cellB ∧ cellB.vm.isStatics = false ∧ s.vm.findClass mt.1.cls = some cellB.cls := by
    cases hq : classes[kd i]? with
    | none => rw [hq] at hk; cases hk
    | some r =>
      rw [hq] at hk
      have hkd : kd i < 6 := (List.getElem?_eq_some_iff.mp hq).1
      obtain ⟨q0, hq0⟩ := List.getElem?_of_mem ((okS.head (fun w hw => hoA w hw : okS K [.ref i, v1, v2, v3, v4, v5])).mem (by omega))
      have z := va_recv hE.1 st.1.1 hq (by rw [wl_at hq0, ent_obj rfl hkd])
      have hk2 : r.1 = mt.1.cls := Option.some.inj hk
      rw [hk2] at z
      exact z
  refine va_calli (va_runV (As := [gm al v1, gm al v2, gm al v3, gm al v4, gm al v5]) (rest := S.map (gm al)) (C := mt.1.cls) (b := al i) ⟨hx, hb, hml, hown, hts⟩ (sp al hoA) ⟨callB_of 5 hts (GoodIn.Wd hv.2.1) rfl rfl rfl (hts _ hv.1) (hts _ hl) hv.2.2 ⟨hR.1, hR.2.1⟩, hts _ hvv.1, hts _ hvv.2.1⟩ ⟨RepW.blind, recv, fun U hU hW => PcW.at (As := [.ref i, v1, v2, v3, v4, v5]) hE hA st.2.1 st.1 U hU hW⟩ rfl rfl st.2.2.1.1 rfl (lv_room (by rw [cat_gm]; exact hR.2.2.2.2)) hd ⟨hR.2.2.1, hR.2.2.2.1⟩) st.2.1 (fun q _ h => h) (fun q h => h) (fun r u t H1 locs1 ht hvm hp hB hz1 hk1 hS1 => ?_)
  obtain ⟨⟨z, rfl, hq⟩, hag⟩ := hp
  have hB : RepW G u.2.2.2 u.1 u.2.1 u.2.2.1 H1 := ht ▸ hB
  obtain ⟨r1, r2⟩ := st.behind (S' := vi z :: S) hag hB hS1 (fun q => (q.tail.tail.tail.tail.tail.tail).cons trivial)
  have k1 := kk z u.1 u.2.1 u.2.2.1 hq hag.1 ok u.2.2.2 H1 locs1 ls r1
  rw [r2] at k1
  exact k1
theorem x_cVL0 {x : Nat} {mt : MT} {ty : FieldType} {fr lo mc ms : Nat} {i : Nat} {Q : Int → List Nat → NN → MM → Prop} (hd : decode cc pc = .ok (.invokevirtual x, 3)) (hl : Cond.methodLink own x mt.1 ∈ Wd) (hv : VW mt (some ty) 0) (hvv : VVW mt) (hk : (classes[kd i]?).map (fun q => q.1) = some mt.1.cls) (sp : SpL G mt ty fr lo mc ms [.ref i] K N I Q) (hR : fr + 1 ≤ R.frames ∧ 8 + (mt.2.2 + 11) + lo ≤ R.locals ∧ cs + mc ≤ R.cells ∧ ss + ms ≤ R.slots ∧ (S.map fun v => v.category).sum ≤ 8) (kk : ∀ z K1 N1 I1, Q z K1 N1 I1 → (∀ i, i ∈ K → i ∈ K1) → XX G own cc R Fx (pc + 3) L (vl z :: S) K1 N1 I1 (cs + mc) (ss + ms)) : XX G own cc R Fx pc L (.ref i :: S) K N I cs ss := by
  obtain ⟨p, e, s, m, args, below, meth, c, Q, nL, a0, K0⟩ := Fx
  intro ok al H locs ls st
  obtain ⟨hx, hb, hml, hown, hts, hE, hA⟩ := id ok
  have okN : okS K [] := fun w hw => nomatch hw
  have hoA : okS K [.ref i] := by
    have q := st.2.2.2.2.1
    exact (okN).cons q.head
  obtain ⟨ci, T, Nn, hc, h6⟩ := hvv.2.2
  have recv : ∃ cellB : Cell, H[al i]? = some cellB ∧ cellB.vm.isStatics = false ∧ s.vm.findClass mt.1.cls = some cellB.cls := by
    cases hq : classes[kd i]? with
    | none => rw [hq] at hk; cases hk
    | some r =>
      rw [hq] at hk
      have hkd : kd i < 6 := (List.getElem?_eq_some_iff.mp hq).1
      obtain ⟨q0, hq0⟩ := List.getElem?_of_mem ((okS.head (fun w hw => hoA w hw : okS K [.ref i])).mem (by omega))
      have z := va_recv hE.1 st.1.1 hq (by rw [wl_at hq0, ent_obj rfl hkd])
      have hk2 : r.1 = mt.1.cls := Option.some.inj hk
      rw [hk2] at z
      exact z
  refine va_calll (va_runV (As := []) (rest := S.map (gm al)) (C := mt.1.cls) (b := al i) ⟨hx, hb, hml, hown, hts⟩ (sp al hoA) ⟨callB_of 0 hts (GoodIn.Wd hv.2.1) rfl rfl rfl (hts _ hv.1) (hts _ hl) hv.2.2 ⟨hR.1, hR.2.1⟩, hts _ hvv.1, hts _ hvv.2.1⟩ ⟨RepW.blind, recv, fun U hU hW => PcW.at (As := [.ref i]) hE hA st.2.1 st.1 U hU hW⟩ rfl rfl st.2.2.1.1 rfl (lv_room (by rw [cat_gm]; exact hR.2.2.2.2)) hd ⟨hR.2.2.1, hR.2.2.2.1⟩) st.2.1 (fun q _ h => h) (fun q h => h) (fun r u t H1 locs1 ht hvm hp hB hz1 hk1 hS1 => ?_)
  obtain ⟨⟨z, rfl, hq⟩, hag⟩ := hp
  have hB : RepW G u.2.2.2 u.1 u.2.1 u.2.2.1 H1 := ht ▸ hB
  obtain ⟨r1, r2⟩ := st.behind (S' := vl z :: S) hag hB hS1 (fun q => (q.tail).cons trivial)
  have k1 := kk z u.1 u.2.1 u.2.2.1 hq hag.1 ok u.2.2.2 H1 locs1 ls r1
  rw [r2] at k1
  exact k1
theorem x_cVL1 {x : Nat} {mt : MT} {ty : FieldType} {fr lo mc ms : Nat} {i : Nat} {v1 : Value} {Q : Int → List Nat → NN → MM → Prop} (hd : decode cc pc = .ok (.invokevirtual x, 3)) (hl : Cond.methodLink own x mt.1 ∈ Wd) (hv : VW mt (some ty) 1) (hvv : VVW mt) (hk : (classes[kd i]?).map (fun q => q.1) = some mt.1.cls) (sp : SpL G mt ty fr lo mc ms [.ref i, v1] K N I Q) (hR : fr + 1 ≤ R.frames ∧ 8 + (mt.2.2 + 11) + lo ≤ R.locals ∧ cs + mc ≤ R.cells ∧ ss + ms ≤ R.slots ∧ (S.map fun v => v.category).sum ≤ 8) (kk : ∀ z K1 N1 I1, Q z K1 N1 I1 → (∀ i, i ∈ K → i ∈ K1) → XX G own cc R Fx (pc + 3) L (vl z :: S) K1 N1 I1 (cs + mc) (ss + ms)) : XX G own cc R Fx pc L (v1 :: .ref i :: S) K N I cs ss := by
  obtain ⟨p, e, s, m, args, below, meth, c, Q, nL, a0, K0⟩ := Fx
  intro ok al H locs ls st
  obtain ⟨hx, hb, hml, hown, hts, hE, hA⟩ := id ok
  have okN : okS K [] := fun w hw => nomatch hw
  have hoA : okS K [.ref i, v1] := by
    have q := st.2.2.2.2.1
    exact ((okN).cons q.head).cons q.tail.head
  obtain ⟨ci, T, Nn, hc, h6⟩ := hvv.2.2
  have recv : ∃ cellB : Cell, H[al i]? = some cellB ∧ cellB.vm.isStatics = false ∧ s.vm.findClass mt.1.cls = some cellB.cls := by
    cases hq : classes[kd i]? with
    | none => rw [hq] at hk; cases hk
    | some r =>
      rw [hq] at hk
      have hkd : kd i < 6 := (List.getElem?_eq_some_iff.mp hq).1
      obtain ⟨q0, hq0⟩ := List.getElem?_of_mem ((okS.head (fun w hw => hoA w hw : okS K [.ref i, v1])).mem (by omega))
      have z := va_recv hE.1 st.1.1 hq (by rw [wl_at hq0, ent_obj rfl hkd])
      have hk2 : r.1 = mt.1.cls := Option.some.inj hk
      rw [hk2] at z
      exact z
  refine va_calll (va_runV (As := [gm al v1]) (rest := S.map (gm al)) (C := mt.1.cls) (b := al i) ⟨hx, hb, hml, hown, hts⟩ (sp al hoA) ⟨callB_of 1 hts (GoodIn.Wd hv.2.1) rfl rfl rfl (hts _ hv.1) (hts _ hl) hv.2.2 ⟨hR.1, hR.2.1⟩, hts _ hvv.1, hts _ hvv.2.1⟩ ⟨RepW.blind, recv, fun U hU hW => PcW.at (As := [.ref i, v1]) hE hA st.2.1 st.1 U hU hW⟩ rfl rfl st.2.2.1.1 rfl (lv_room (by rw [cat_gm]; exact hR.2.2.2.2)) hd ⟨hR.2.2.1, hR.2.2.2.1⟩) st.2.1 (fun q _ h => h) (fun q h => h) (fun r u t H1 locs1 ht hvm hp hB hz1 hk1 hS1 => ?_)
  obtain ⟨⟨z, rfl, hq⟩, hag⟩ := hp
  have hB : RepW G u.2.2.2 u.1 u.2.1 u.2.2.1 H1 := ht ▸ hB
  obtain ⟨r1, r2⟩ := st.behind (S' := vl z :: S) hag hB hS1 (fun q => (q.tail.tail).cons trivial)
  have k1 := kk z u.1 u.2.1 u.2.2.1 hq hag.1 ok u.2.2.2 H1 locs1 ls r1
  rw [r2] at k1
  exact k1
theorem x_cVL2 {x : Nat} {mt : MT} {ty : FieldType} {fr lo mc ms : Nat} {i : Nat} {v1 v2 : Value} {Q : Int → List Nat → NN → MM → Prop} (hd : decode cc pc = .ok (.invokevirtual x, 3)) (hl : Cond.methodLink own x mt.1 ∈ Wd) (hv : VW mt (some ty) 2) (hvv : VVW mt) (hk : (classes[kd i]?).map (fun q => q.1) = some mt.1.cls) (sp : SpL G mt ty fr lo mc ms [.ref i, v1, v2] K N I Q) (hR : fr + 1 ≤ R.frames ∧ 8 + (mt.2.2 + 11) + lo ≤ R.locals ∧ cs + mc ≤ R.cells ∧ ss + ms ≤ R.slots ∧ (S.map fun v => v.category).sum ≤ 8) (kk : ∀ z K1 N1 I1, Q z K1 N1 I1 → (∀ i, i ∈ K → i ∈ K1) → XX G own cc R Fx (pc + 3) L (vl z :: S) K1 N1 I1 (cs + mc) (ss + ms)) : XX G own cc R Fx pc L (v2 :: v1 :: .ref i :: S) K N I cs ss := by
  obtain ⟨p, e, s, m, args, below, meth, c, Q, nL, a0, K0⟩ := Fx
  intro ok al H locs ls st
  obtain ⟨hx, hb, hml, hown, hts, hE, hA⟩ := id ok
  have okN : okS K [] := fun w hw => nomatch hw
  have hoA : okS K [.ref i, v1, v2] := by
    have q := st.2.2.2.2.1
    exact (((okN).cons q.head).cons q.tail.head).cons q.tail.tail.head
  obtain ⟨ci, T, Nn, hc, h6⟩ := hvv.2.2
  have recv : ∃ cellB : Cell, H[al i]? = some cellB ∧ cellB.vm.isStatics = false ∧ s.vm.findClass mt.1.cls = some cellB.cls := by
    cases hq : classes[kd i]? with
    | none => rw [hq] at hk; cases hk
    | some r =>
      rw [hq] at hk
      have hkd : kd i < 6 := (List.getElem?_eq_some_iff.mp hq).1
      obtain ⟨q0, hq0⟩ := List.getElem?_of_mem ((okS.head (fun w hw => hoA w hw : okS K [.ref i, v1, v2])).mem (by omega))
      have z := va_recv hE.1 st.1.1 hq (by rw [wl_at hq0, ent_obj rfl hkd])
      have hk2 : r.1 = mt.1.cls := Option.some.inj hk
      rw [hk2] at z
      exact z
  refine va_calll (va_runV (As := [gm al v1, gm al v2]) (rest := S.map (gm al)) (C := mt.1.cls) (b := al i) ⟨hx, hb, hml, hown, hts⟩ (sp al hoA) ⟨callB_of 2 hts (GoodIn.Wd hv.2.1) rfl rfl rfl (hts _ hv.1) (hts _ hl) hv.2.2 ⟨hR.1, hR.2.1⟩, hts _ hvv.1, hts _ hvv.2.1⟩ ⟨RepW.blind, recv, fun U hU hW => PcW.at (As := [.ref i, v1, v2]) hE hA st.2.1 st.1 U hU hW⟩ rfl rfl st.2.2.1.1 rfl (lv_room (by rw [cat_gm]; exact hR.2.2.2.2)) hd ⟨hR.2.2.1, hR.2.2.2.1⟩) st.2.1 (fun q _ h => h) (fun q h => h) (fun r u t H1 locs1 ht hvm hp hB hz1 hk1 hS1 => ?_)
  obtain ⟨⟨z, rfl, hq⟩, hag⟩ := hp
  have hB : RepW G u.2.2.2 u.1 u.2.1 u.2.2.1 H1 := ht ▸ hB
  obtain ⟨r1, r2⟩ := st.behind (S' := vl z :: S) hag hB hS1 (fun q => (q.tail.tail.tail).cons trivial)
  have k1 := kk z u.1 u.2.1 u.2.2.1 hq hag.1 ok u.2.2.2 H1 locs1 ls r1
  rw [r2] at k1
  exact k1
theorem x_cVL3 {x : Nat} {mt : MT} {ty : FieldType} {fr lo mc ms : Nat} {i : Nat} {v1 v2 v3 : Value} {Q : Int → List Nat → NN → MM → Prop} (hd : decode cc pc = .ok (.invokevirtual x, 3)) (hl : Cond.methodLink own x mt.1 ∈ Wd) (hv : VW mt (some ty) 3) (hvv : VVW mt) (hk : (classes[kd i]?).map (fun q => q.1) = some mt.1.cls) (sp : SpL G mt ty fr lo mc ms [.ref i, v1, v2, v3] K N I Q) (hR : fr + 1 ≤ R.frames ∧ 8 + (mt.2.2 + 11) + lo ≤ R.locals ∧ cs + mc ≤ R.cells ∧ ss + ms ≤ R.slots ∧ (S.map fun v => v.category).sum ≤ 8) (kk : ∀ z K1 N1 I1, Q z K1 N1 I1 → (∀ i, i ∈ K → i ∈ K1) → XX G own cc R Fx (pc + 3) L (vl z :: S) K1 N1 I1 (cs + mc) (ss + ms)) : XX G own cc R Fx pc L (v3 :: v2 :: v1 :: .ref i :: S) K N I cs ss := by
  obtain ⟨p, e, s, m, args, below, meth, c, Q, nL, a0, K0⟩ := Fx
  intro ok al H locs ls st
  obtain ⟨hx, hb, hml, hown, hts, hE, hA⟩ := id ok
  have okN : okS K [] := fun w hw => nomatch hw
  have hoA : okS K [.ref i, v1, v2, v3] := by
    have q := st.2.2.2.2.1
    exact ((((okN).cons q.head).cons q.tail.head).cons q.tail.tail.head).cons q.tail.tail.tail.head
  obtain ⟨ci, T, Nn, hc, h6⟩ := hvv.2.2
  have recv : ∃ cellB : Cell, H[al i]? = some cellB ∧ cellB.vm.isStatics = false ∧ s.vm.findClass mt.1.cls = some cellB.cls := by
    cases hq : classes[kd i]? with
    | none => rw [hq] at hk; cases hk
    | some r =>
      rw [hq] at hk
      have hkd : kd i < 6 := (List.getElem?_eq_some_iff.mp hq).1
      obtain ⟨q0, hq0⟩ := List.getElem?_of_mem ((okS.head (fun w hw => hoA w hw : okS K [.ref i, v1, v2, v3])).mem (by omega))
      have z := va_recv hE.1 st.1.1 hq (by rw [wl_at hq0, ent_obj rfl hkd])
      have hk2 : r.1 = mt.1.cls := Option.some.inj hk
      rw [hk2] at z
      exact z
  refine va_calll (va_runV (As := [gm al v1, gm al v2, gm al v3]) (rest := S.map (gm al)) (C := mt.1.cls) (b := al i) ⟨hx, hb, hml, hown, hts⟩ (sp al hoA) ⟨callB_of 3 hts (GoodIn.Wd hv.2.1) rfl rfl rfl (hts _ hv.1) (hts _ hl) hv.2.2 ⟨hR.1, hR.2.1⟩, hts _ hvv.1, hts _ hvv.2.1⟩ ⟨RepW.blind, recv, fun U hU hW => PcW.at (As := [.ref i, v1, v2, v3]) hE hA st.2.1 st.1 U hU hW⟩ rfl rfl st.2.2.1.1 rfl (lv_room (by rw [cat_gm]; exact hR.2.2.2.2)) hd ⟨hR.2.2.1, hR.2.2.2.1⟩) st.2.1 (fun q _ h => h) (fun q h => h) (fun r u t H1 locs1 ht hvm hp hB hz1 hk1 hS1 => ?_)
  obtain ⟨⟨z, rfl, hq⟩, hag⟩ := hp
  have hB : RepW G u.2.2.2 u.1 u.2.1 u.2.2.1 H1 := ht ▸ hB
  obtain ⟨r1, r2⟩ := st.behind (S' := vl z :: S) hag hB hS1 (fun q => (q.tail.tail.tail.tail).cons trivial)
  have k1 := kk z u.1 u.2.1 u.2.2.1 hq hag.1 ok u.2.2.2 H1 locs1 ls r1
  rw [r2] at k1
  exact k1
theorem x_cVL4 {x : Nat} {mt : MT} {ty : FieldType} {fr lo mc ms : Nat} {i : Nat} {v1 v2 v3 v4 : Value} {Q : Int → List Nat → NN → MM → Prop} (hd : decode cc pc = .ok (.invokevirtual x, 3)) (hl : Cond.methodLink own x mt.1 ∈ Wd) (hv : VW mt (some ty) 4) (hvv : VVW mt) (hk : (classes[kd i]?).map (fun q => q.1) = some mt.1.cls) (sp : SpL G mt ty fr lo mc ms [.ref i, v1, v2, v3, v4] K N I Q) (hR : fr + 1 ≤ R.frames ∧ 8 + (mt.2.2 + 11) + lo ≤ R.locals ∧ cs + mc ≤ R.cells ∧ ss + ms ≤ R.slots ∧ (S.map fun v => v.category).sum ≤ 8) (kk : ∀ z K1 N1 I1, Q z K1 N1 I1 → (∀ i, i ∈ K → i ∈ K1) → XX G own cc R Fx (pc + 3) L (vl z :: S) K1 N1 I1 (cs + mc) (ss + ms)) : XX G own cc R Fx pc L (v4 :: v3 :: v2 :: v1 :: .ref i :: S) K N I cs ss := by
  obtain ⟨p, e, s, m, args, below, meth, c, Q, nL, a0, K0⟩ := Fx
  intro ok al H locs ls st
  obtain ⟨hx, hb, hml, hown, hts, hE, hA⟩ := id ok
  have okN : okS K [] := fun w hw => nomatch hw
  have hoA : okS K [.ref i, v1, v2, v3, v4] := by
    have q := st.2.2.2.2.1
    exact (((((okN).cons q.head).cons q.tail.head).cons q.tail.tail.head).cons q.tail.tail.tail.head).cons q.tail.tail.tail.tail.head
  obtain ⟨ci, T, Nn, hc, h6⟩ := hvv.2.2
  have recv : ∃ cellB : Cell, H[al i]? = some cellB ∧ cellB.vm.isStatics = false ∧ s.vm.findClass mt.1.cls = some cellB.cls := by
    cases hq : classes[kd i]? with
    | none => rw [hq] at hk; cases hk
    | some r =>
      rw [hq] at hk
      have hkd : kd i < 6 := (List.getElem?_eq_some_iff.mp hq).1
      obtain ⟨q0, hq0⟩ := List.getElem?_of_mem ((okS.head (fun w hw => hoA w hw : okS K [.ref i, v1, v2, v3, v4])).mem (by omega))
      have z := va_recv hE.1 st.1.1 hq (by rw [wl_at hq0, ent_obj rfl hkd])
      have hk2 : r.1 = mt.1.cls := Option.some.inj hk
      rw [hk2] at z
      exact z
  refine va_calll (va_runV (As := [gm al v1, gm al v2, gm al v3, gm al v4]) (rest := S.map (gm al)) (C := mt.1.cls) (b := al i) ⟨hx, hb, hml, hown, hts⟩ (sp al hoA) ⟨callB_of 4 hts (GoodIn.Wd hv.2.1) rfl rfl rfl (hts _ hv.1) (hts _ hl) hv.2.2 ⟨hR.1, hR.2.1⟩, hts _ hvv.1, hts _ hvv.2.1⟩ ⟨RepW.blind, recv, fun U hU hW => PcW.at (As := [.ref i, v1, v2, v3, v4]) hE hA st.2.1 st.1 U hU hW⟩ rfl rfl st.2.2.1.1 rfl (lv_room (by rw [cat_gm]; exact hR.2.2.2.2)) hd ⟨hR.2.2.1, hR.2.2.2.1⟩) st.2.1 (fun q _ h => h) (fun q h => h) (fun r u t H1 locs1 ht hvm hp hB hz1 hk1 hS1 => ?_)
  obtain ⟨⟨z, rfl, hq⟩, hag⟩ := hp
  have hB : RepW G u.2.2.2 u.1 u.2.1 u.2.2.1 H1 := ht ▸ hB
  obtain ⟨r1, r2⟩ := st.behind (S' := vl z :: S) hag hB hS1 (fun q => (q.tail.tail.tail.tail.tail).cons trivial)
  have k1 := kk z u.1 u.2.1 u.2.2.1 hq hag.1 ok u.2.2.2 H1 locs1 ls r1
  rw [r2] at k1
  exact k1
theorem x_cVL5 {x : Nat} {mt : MT} {ty : FieldType} {fr lo mc ms : Nat} {i : Nat} {v1 v2 v3 v4 v5 : Value} {Q : Int → List Nat → NN → MM → Prop} (hd : decode cc pc = .ok (.invokevirtual x, 3)) (hl : Cond.methodLink own x mt.1 ∈ Wd) (hv : VW mt (some ty) 5) (hvv : VVW mt) (hk : (classes[kd i]?).map (fun q => q.1) = some mt.1.cls) (sp : SpL G mt ty fr lo mc ms [.ref i, v1, v2, v3, v4, v5] K N I Q) (hR : fr + 1 ≤ R.frames ∧ 8 + (mt.2.2 + 11) + lo ≤ R.locals ∧ cs + mc ≤ R.cells ∧ ss + ms ≤ R.slots ∧ (S.map fun v => v.category).sum ≤ 8) (kk : ∀ z K1 N1 I1, Q z K1 N1 I1 → (∀ i, i ∈ K → i ∈ K1) → XX G own cc R Fx (pc + 3) L (vl z :: S) K1 N1 I1 (cs + mc) (ss + ms)) : XX G own cc R Fx pc L (v5 :: v4 :: v3 :: v2 :: v1 :: .ref i :: S) K N I cs ss := by
  obtain ⟨p, e, s, m, args, below, meth, c, Q, nL, a0, K0⟩ := Fx
  intro ok al H locs ls st
  obtain ⟨hx, hb, hml, hown, hts, hE, hA⟩ := id ok
  have okN : okS K [] := fun w hw => nomatch hw
  have hoA : okS K [.ref i, v1, v2, v3, v4, v5] := by
    have q := st.2.2.2.2.1
    exact ((((((okN).cons q.head).cons q.tail.head).cons q.tail.tail.head).cons q.tail.tail.tail.head).cons q.tail.tail.tail.tail.head).cons q.tail.tail.tail.tail.tail.head
  obtain ⟨ci, T, Nn, hc, h6⟩ := hvv.2.2
  have recv : ∃ cellB : Cell, H[al i]? = some cellB ∧ cellB.vm.isStatics = false ∧ s.vm.findClass mt.1.cls = some cellB.cls := by
    cases hq : classes[kd i]? with
    | none => rw [hq] at hk; cases hk
    | some r =>
      rw [hq] at hk
      have hkd : kd i < 6 := (List.getElem?_eq_some_iff.mp hq).1
      obtain ⟨q0, hq0⟩ := List.getElem?_of_mem ((okS.head (fun w hw => hoA w hw : okS K [.ref i, v1, v2, v3, v4, v5])).mem (by omega))
      have z := va_recv hE.1 st.1.1 hq (by rw [wl_at hq0, ent_obj rfl hkd])
      have hk2 : r.1 = mt.1.cls := Option.some.inj hk
      rw [hk2] at z
      exact z
  refine va_calll (va_runV (As := [gm al v1, gm al v2, gm al v3, gm al v4, gm al v5]) (rest := S.map (gm al)) (C := mt.1.cls) (b := al i) ⟨hx, hb, hml, hown, hts⟩ (sp al hoA) ⟨callB_of 5 hts (GoodIn.Wd hv.2.1) rfl rfl rfl (hts _ hv.1) (hts _ hl) hv.2.2 ⟨hR.1, hR.2.1⟩, hts _ hvv.1, hts _ hvv.2.1⟩ ⟨RepW.blind, recv, fun U hU hW => PcW.at (As := [.ref i, v1, v2, v3, v4, v5]) hE hA st.2.1 st.1 U hU hW⟩ rfl rfl st.2.2.1.1 rfl (lv_room (by rw [cat_gm]; exact hR.2.2.2.2)) hd ⟨hR.2.2.1, hR.2.2.2.1⟩) st.2.1 (fun q _ h => h) (fun q h => h) (fun r u t H1 locs1 ht hvm hp hB hz1 hk1 hS1 => ?_)
  obtain ⟨⟨z, rfl, hq⟩, hag⟩ := hp
  have hB : RepW G u.2.2.2 u.1 u.2.1 u.2.2.1 H1 := ht ▸ hB
  obtain ⟨r1, r2⟩ := st.behind (S' := vl z :: S) hag hB hS1 (fun q => (q.tail.tail.tail.tail.tail.tail).cons trivial)
  have k1 := kk z u.1 u.2.1 u.2.2.1 hq hag.1 ok u.2.2.2 H1 locs1 ls r1
  rw [r2] at k1
  exact k1
theorem x_cVV0 {x : Nat} {mt : MT} {fr lo mc ms : Nat} {i : Nat} {Q : List Nat → NN → MM → Prop} (hd : decode cc pc = .ok (.invokevirtual x, 3)) (hl : Cond.methodLink own x mt.1 ∈ Wd) (hv : VW mt none 0) (hvv : VVW mt) (hk : (classes[kd i]?).map (fun q => q.1) = some mt.1.cls) (sp : SpV G mt fr lo mc ms [.ref i] K N I Q) (hR : fr + 1 ≤ R.frames ∧ 8 + (mt.2.2 + 11) + lo ≤ R.locals ∧ cs + mc ≤ R.cells ∧ ss + ms ≤ R.slots ∧ (S.map fun v => v.category).sum ≤ 8) (kk : ∀ K1 N1 I1, Q K1 N1 I1 → (∀ i, i ∈ K → i ∈ K1) → XX G own cc R Fx (pc + 3) L S K1 N1 I1 (cs + mc) (ss + ms)) : XX G own cc R Fx pc L (.ref i :: S) K N I cs ss := by
  obtain ⟨p, e, s, m, args, below, meth, c, Q, nL, a0, K0⟩ := Fx
  intro ok al H locs ls st
  obtain ⟨hx, hb, hml, hown, hts, hE, hA⟩ := id ok
  have okN : okS K [] := fun w hw => nomatch hw
  have hoA : okS K [.ref i] := by
    have q := st.2.2.2.2.1
    exact (okN).cons q.head
  obtain ⟨ci, T, Nn, hc, h6⟩ := hvv.2.2
  have recv : ∃ cellB : Cell, H[al i]? = some cellB ∧ cellB.vm.isStatics = false ∧ s.vm.findClass mt.1.cls = some cellB.cls := by
    cases hq : classes[kd i]? with
    | none => rw [hq] at hk; cases hk
    | some r =>
      rw [hq] at hk
      have hkd : kd i < 6 := (List.getElem?_eq_some_iff.mp hq).1
      obtain ⟨q0, hq0⟩ := List.getElem?_of_mem ((okS.head (fun w hw => hoA w hw : okS K [.ref i])).mem (by omega))
      have z := va_recv hE.1 st.1.1 hq (by rw [wl_at hq0, ent_obj rfl hkd])
      have hk2 : r.1 = mt.1.cls := Option.some.inj hk
      rw [hk2] at z
      exact z
  refine va_callv (va_runV (As := []) (rest := S.map (gm al)) (C := mt.1.cls) (b := al i) ⟨hx, hb, hml, hown, hts⟩ (sp al hoA) ⟨callB_of 0 hts (GoodIn.Wd hv.2.1) rfl rfl rfl (hts _ hv.1) (hts _ hl) hv.2.2 ⟨hR.1, hR.2.1⟩, hts _ hvv.1, hts _ hvv.2.1⟩ ⟨RepW.blind, recv, fun U hU hW => PcW.at (As := [.ref i]) hE hA st.2.1 st.1 U hU hW⟩ rfl rfl st.2.2.1.1 rfl (lv_room (by rw [cat_gm]; exact hR.2.2.2.2)) hd ⟨hR.2.2.1, hR.2.2.2.1⟩) st.2.1 (fun q _ h => h) (fun q h => h) (fun u t H1 locs1 ht hvm hp hB hz1 hk1 hS1 => ?_)
  obtain ⟨hq, hag⟩ := hp
  have hB : RepW G u.2.2.2 u.1 u.2.1 u.2.2.1 H1 := ht ▸ hB
  obtain ⟨r1, r2⟩ := st.behind hag hB hS1 (fun q => q.tail)
  have k1 := kk u.1 u.2.1 u.2.2.1 hq hag.1 ok u.2.2.2 H1 locs1 ls r1
  rw [r2] at k1
  exact k1
theorem x_cVV1 {x : Nat} {mt : MT} {fr lo mc ms : Nat} {i : Nat} {v1 : Value} {Q : List Nat → NN → MM → Prop} (hd : decode cc pc = .ok (.invokevirtual x, 3)) (hl : Cond.methodLink own x mt.1 ∈ Wd) (hv : VW mt none 1) (hvv : VVW mt) (hk : (classes[kd i]?).map (fun q => q.1) = some mt.1.cls) (sp : SpV G mt fr lo mc ms [.ref i, v1] K N I Q) (hR : fr + 1 ≤ R.frames ∧ 8 + (mt.2.2 + 11) + lo ≤ R.locals ∧ cs + mc ≤ R.cells ∧ ss + ms ≤ R.slots ∧ (S.map fun v => v.category).sum ≤ 8) (kk : ∀ K1 N1 I1, Q K1 N1 I1 → (∀ i, i ∈ K → i ∈ K1) → XX G own cc R Fx (pc + 3) L S K1 N1 I1 (cs + mc) (ss + ms)) : XX G own cc R Fx pc L (v1 :: .ref i :: S) K N I cs ss := by
  obtain ⟨p, e, s, m, args, below, meth, c, Q, nL, a0, K0⟩ := Fx
  intro ok al H locs ls st
  obtain ⟨hx, hb, hml, hown, hts, hE, hA⟩ := id ok
  have okN : okS K [] := fun w hw => nomatch hw
  have hoA : okS K [.ref i, v1] := by
    have q := st.2.2.2.2.1
    exact ((okN).cons q.head).cons q.tail.head
  obtain ⟨ci, T, Nn, hc, h6⟩ := hvv.2.2
  have recv : ∃ cellB : Cell, H[al i]? = some cellB ∧ cellB.vm.isStatics = false ∧ s.vm.findClass mt.1.cls = some cellB.cls := by
    cases hq : classes[kd i]? with
    | none => rw [hq] at hk; cases hk
    | some r =>
      rw [hq] at hk
      have hkd : kd i < 6 := (List.getElem?_eq_some_iff.mp hq).1
      obtain ⟨q0, hq0⟩ := List.getElem?_of_mem ((okS.head (fun w hw => hoA w hw : okS K [.ref i, v1])).mem (by omega))
      have z := va_recv hE.1 st.1.1 hq (by rw [wl_at hq0, ent_obj rfl hkd])
      have hk2 : r.1 = mt.1.cls := Option.some.inj hk
      rw [hk2] at z
      exact z
  refine va_callv (va_runV (As := [gm al v1]) (rest := S.map (gm al)) (C := mt.1.cls) (b := al i) ⟨hx, hb, hml, hown, hts⟩ (sp al hoA) ⟨callB_of 1 hts (GoodIn.Wd hv.2.1) rfl rfl rfl (hts _ hv.1) (hts _ hl) hv.2.2 ⟨hR.1, hR.2.1⟩, hts _ hvv.1, hts _ hvv.2.1⟩ ⟨RepW.blind, recv, fun U hU hW => PcW.at (As := [.ref i, v1]) hE hA st.2.1 st.1 U hU hW⟩ rfl rfl st.2.2.1.1 rfl (lv_room (by rw [cat_gm]; exact hR.2.2.2.2)) hd ⟨hR.2.2.1, hR.2.2.2.1⟩) st.2.1 (fun q _ h => h) (fun q h => h) (fun u t H1 locs1 ht hvm hp hB hz1 hk1 hS1 => ?_)
  obtain ⟨hq, hag⟩ := hp
  have hB : RepW G u.2.2.2 u.1 u.2.1 u.2.2.1 H1 := ht ▸ hB
  obtain ⟨r1, r2⟩ := st.behind hag hB hS1 (fun q => q.tail.tail)
  have k1 := kk u.1 u.2.1 u.2.2.1 hq hag.1 ok u.2.2.2 H1 locs1 ls r1
  rw [r2] at k1
  exact k1
theorem x_cVV2 {x : Nat} {mt : MT} {fr lo mc ms : Nat} {i : Nat} {v1 v2 : Value} {Q : List Nat → NN → MM → Prop} (hd : decode cc pc = .ok (.invokevirtual x, 3)) (hl : Cond.methodLink own x mt.1 ∈ Wd) (hv : VW mt none 2) (hvv : VVW mt) (hk : (classes[kd i]?).map (fun q => q.1) = some mt.1.cls) (sp : SpV G mt fr lo mc ms [.ref i, v1, v2] K N I Q) (hR : fr + 1 ≤ R.frames ∧ 8 + (mt.2.2 + 11) + lo ≤ R.locals ∧ cs + mc ≤ R.cells ∧ ss + ms ≤ R.slots ∧ (S.map fun v => v.category).sum ≤ 8) (kk : ∀ K1 N1 I1, Q K1 N1 I1 → (∀ i, i ∈ K → i ∈ K1) → XX G own cc R Fx (pc + 3) L S K1 N1 I1 (cs + mc) (ss + ms)) : XX G own cc R Fx pc L (v2 :: v1 :: .ref i :: S) K N I cs ss := by
  obtain ⟨p, e, s, m, args, below, meth, c, Q, nL, a0, K0⟩ := Fx
  intro ok al H locs ls st
  obtain ⟨hx, hb, hml, hown, hts, hE, hA⟩ := id ok
  have okN : okS K [] := fun w hw => nomatch hw
  have hoA : okS K [.ref i, v1, v2] := by
    have q := st.2.2.2.2.1
    exact (((okN).cons q.head).cons q.tail.head).cons q.tail.tail.head
  obtain ⟨ci, T, Nn, hc, h6⟩ := hvv.2.2
  have recv : ∃ cellB : Cell, H[al i]? = some cellB ∧ cellB.vm.isStatics = false ∧ s.vm.findClass mt.1.cls = some cellB.cls := by
    cases hq : classes[kd i]? with
    | none => rw [hq] at hk; cases hk
    | some r =>
      rw [hq] at hk
      have hkd : kd i < 6 := (List.getElem?_eq_some_iff.mp hq).1
      obtain ⟨q0, hq0⟩ := List.getElem?_of_mem ((okS.head (fun w hw => hoA w hw : okS K [.ref i, v1, v2])).mem (by omega))
      have z := va_recv hE.1 st.1.1 hq (by rw [wl_at hq0, ent_obj rfl hkd])
      have hk2 : r.1 = mt.1.cls := Option.some.inj hk
      rw [hk2] at z
      exact z
  refine va_callv (va_runV (As := [gm al v1, gm al v2]) (rest := S.map (gm al)) (C := mt.1.cls) (b := al i) ⟨hx, hb, hml, hown, hts⟩ (sp al hoA) ⟨callB_of 2 hts (GoodIn.Wd hv.2.1) rfl rfl rfl (hts _ hv.1) (hts _ hl) hv.2.2 ⟨hR.1, hR.2.1⟩, hts _ hvv.1, hts _ hvv.2.1⟩ ⟨RepW.blind, recv, fun U hU hW => PcW.at (As := [.ref i, v1, v2]) hE hA st.2.1 st.1 U hU hW⟩ rfl rfl st.2.2.1.1 rfl (lv_room (by rw [cat_gm]; exact hR.2.2.2.2)) hd ⟨hR.2.2.1, hR.2.2.2.1⟩) st.2.1 (fun q _ h => h) (fun q h => h) (fun u t H1 locs1 ht hvm hp hB hz1 hk1 hS1 => ?_)
  obtain ⟨hq, hag⟩ := hp
  have hB : RepW G u.2.2.2 u.1 u.2.1 u.2.2.1 H1 := ht ▸ hB
  obtain ⟨r1, r2⟩ := st.behind hag hB hS1 (fun q => q.tail.tail.tail)
  have k1 := kk u.1 u.2.1 u.2.2.1 hq hag.1 ok u.2.2.2 H1 locs1 ls r1
  rw [r2] at k1
  exact k1
theorem x_cVV3 {x : Nat} {mt : MT} {fr lo mc ms : Nat} {i : Nat} {v1 v2 v3 : Value} {Q : List Nat → NN → MM → Prop} (hd : decode cc pc = .ok (.invokevirtual x, 3)) (hl : Cond.methodLink own x mt.1 ∈ Wd) (hv : VW mt none 3) (hvv : VVW mt) (hk : (classes[kd i]?).map (fun q => q.1) = some mt.1.cls) (sp : SpV G mt fr lo mc ms [.ref i, v1, v2, v3] K N I Q) (hR : fr + 1 ≤ R.frames ∧ 8 + (mt.2.2 + 11) + lo ≤ R.locals ∧ cs + mc ≤ R.cells ∧ ss + ms ≤ R.slots ∧ (S.map fun v => v.category).sum ≤ 8) (kk : ∀ K1 N1 I1, Q K1 N1 I1 → (∀ i, i ∈ K → i ∈ K1) → XX G own cc R Fx (pc + 3) L S K1 N1 I1 (cs + mc) (ss + ms)) : XX G own cc R Fx pc L (v3 :: v2 :: v1 :: .ref i :: S) K N I cs ss := by
  obtain ⟨p, e, s, m, args, below, meth, c, Q, nL, a0, K0⟩ := Fx
  intro ok al H locs ls st
  obtain ⟨hx, hb, hml, hown, hts, hE, hA⟩ := id ok
  have okN : okS K [] := fun w hw => nomatch hw
  have hoA : okS K [.ref i, v1, v2, v3] := by
    have q := st.2.2.2.2.1
    exact ((((okN).cons q.head).cons q.tail.head).cons q.tail.tail.head).cons q.tail.tail.tail.head
  obtain ⟨ci, T, Nn, hc, h6⟩ := hvv.2.2
  have recv : ∃ cellB : Cell, H[al i]? = some cellB ∧ cellB.vm.isStatics = false ∧ s.vm.findClass mt.1.cls = some cellB.cls := by
    cases hq : classes[kd i]? with
    | none => rw [hq] at hk; cases hk
    | some r =>
      rw [hq] at hk
      have hkd : kd i < 6 := (List.getElem?_eq_some_iff.mp hq).1
      obtain ⟨q0, hq0⟩ := List.getElem?_of_mem ((okS.head (fun w hw => hoA w hw : okS K [.ref i, v1, v2, v3])).mem (by omega))
      have z := va_recv hE.1 st.1.1 hq (by rw [wl_at hq0, ent_obj rfl hkd])
      have hk2 : r.1 = mt.1.cls := Option.some.inj hk
      rw [hk2] at z
      exact z
  refine va_callv (va_runV (As := [gm al v1, gm al v2, gm al v3]) (rest := S.map (gm al)) (C := mt.1.cls) (b := al i) ⟨hx, hb, hml, hown, hts⟩ (sp al hoA) ⟨callB_of 3 hts (GoodIn.Wd hv.2.1) rfl rfl rfl (hts _ hv.1) (hts _ hl) hv.2.2 ⟨hR.1, hR.2.1⟩, hts _ hvv.1, hts _ hvv.2.1⟩ ⟨RepW.blind, recv, fun U hU hW => PcW.at (As := [.ref i, v1, v2, v3]) hE hA st.2.1 st.1 U hU hW⟩ rfl rfl st.2.2.1.1 rfl (lv_room (by rw [cat_gm]; exact hR.2.2.2.2)) hd ⟨hR.2.2.1, hR.2.2.2.1⟩) st.2.1 (fun q _ h => h) (fun q h => h) (fun u t H1 locs1 ht hvm hp hB hz1 hk1 hS1 => ?_)
  obtain ⟨hq, hag⟩ := hp
  have hB : RepW G u.2.2.2 u.1 u.2.1 u.2.2.1 H1 := ht ▸ hB
  obtain ⟨r1, r2⟩ := st.behind hag hB hS1 (fun q => q.tail.tail.tail.tail)
  have k1 := kk u.1 u.2.1 u.2.2.1 hq hag.1 ok u.2.2.2 H1 locs1 ls r1
  rw [r2] at k1
  exact k1
theorem x_cVV4 {x : Nat} {mt : MT} {fr lo mc ms : Nat} {i : Nat} {v1 v2 v3 v4 : Value} {Q : List Nat → NN → MM → Prop} (hd : decode cc pc = .ok (.invokevirtual x, 3)) (hl : Cond.methodLink own x mt.1 ∈ Wd) (hv : VW mt none 4) (hvv : VVW mt) (hk : (classes[kd i]?).map (fun q => q.1) = some mt.1.cls) (sp : SpV G mt fr lo mc ms [.ref i, v1, v2, v3, v4] K N I Q) (hR : fr + 1 ≤ R.frames ∧ 8 + (mt.2.2 + 11) + lo ≤ R.locals ∧ cs + mc ≤ R.cells ∧ ss + ms ≤ R.slots ∧ (S.map fun v => v.category).sum ≤ 8) (kk : ∀ K1 N1 I1, Q K1 N1 I1 → (∀ i, i ∈ K → i ∈ K1) → XX G own cc R Fx (pc + 3) L S K1 N1 I1 (cs + mc) (ss + ms)) : XX G own cc R Fx pc L (v4 :: v3 :: v2 :: v1 :: .ref i :: S) K N I cs ss := by
  obtain ⟨p, e, s, m, args, below, meth, c, Q, nL, a0, K0⟩ := Fx
  intro ok al H locs ls st
  obtain ⟨hx, hb, hml, hown, hts, hE, hA⟩ := id ok
  have okN : okS K [] := fun w hw => nomatch hw
  have hoA : okS K [.ref i, v1, v2, v3, v4] := by
    have q := st.2.2.2.2.1
    exact (((((okN).cons q.head).cons q.tail.head).cons q.tail.tail.head).cons q.tail.tail.tail.head).cons q.tail.tail.tail.tail.head
  obtain ⟨ci, T, Nn, hc, h6⟩ := hvv.2.2
  have recv : ∃ cellB : Cell, H[al i]? = some cellB ∧ cellB.vm.isStatics = false ∧ s.vm.findClass mt.1.cls = some cellB.cls := by
    cases hq : classes[kd i]? with
    | none => rw [hq] at hk; cases hk
    | some r =>
      rw [hq] at hk
      have hkd : kd i < 6 := (List.getElem?_eq_some_iff.mp hq).1
      obtain ⟨q0, hq0⟩ := List.getElem?_of_mem ((okS.head (fun w hw => hoA w hw : okS K [.ref i, v1, v2, v3, v4])).mem (by omega))
      have z := va_recv hE.1 st.1.1 hq (by rw [wl_at hq0, ent_obj rfl hkd])
      have hk2 : r.1 = mt.1.cls := Option.some.inj hk
      rw [hk2] at z
      exact z
  refine va_callv (va_runV (As := [gm al v1, gm al v2, gm al v3, gm al v4]) (rest := S.map (gm al)) (C := mt.1.cls) (b := al i) ⟨hx, hb, hml, hown, hts⟩ (sp al hoA) ⟨callB_of 4 hts (GoodIn.Wd hv.2.1) rfl rfl rfl (hts _ hv.1) (hts _ hl) hv.2.2 ⟨hR.1, hR.2.1⟩, hts _ hvv.1, hts _ hvv.2.1⟩ ⟨RepW.blind, recv, fun U hU hW => PcW.at (As := [.ref i, v1, v2, v3, v4]) hE hA st.2.1 st.1 U hU hW⟩ rfl rfl st.2.2.1.1 rfl (lv_room (by rw [cat_gm]; exact hR.2.2.2.2)) hd ⟨hR.2.2.1, hR.2.2.2.1⟩) st.2.1 (fun q _ h => h) (fun q h => h) (fun u t H1 locs1 ht hvm hp hB hz1 hk1 hS1 => ?_)
  obtain ⟨hq, hag⟩ := hp
  have hB : RepW G u.2.2.2 u.1 u.2.1 u.2.2.1 H1 := ht ▸ hB
  obtain ⟨r1, r2⟩ := st.behind hag hB hS1 (fun q => q.tail.tail.tail.tail.tail)
  have k1 := kk u.1 u.2.1 u.2.2.1 hq hag.1 ok u.2.2.2 H1 locs1 ls r1
  rw [r2] at k1
  exact k1
theorem x_cVV5 {x : Nat} {mt : MT} {fr lo mc ms : Nat} {i : Nat} {v1 v2 v3 v4 v5 : Value} {Q : List Nat → NN → MM → Prop} (hd : decode cc pc = .ok (.invokevirtual x, 3)) (hl : Cond.methodLink own x mt.1 ∈ Wd) (hv : VW mt none 5) (hvv : VVW mt) (hk : (classes[kd i]?).map (fun q => q.1) = some mt.1.cls) (sp : SpV G mt fr lo mc ms [.ref i, v1, v2, v3, v4, v5] K N I Q) (hR : fr + 1 ≤ R.frames ∧ 8 + (mt.2.2 + 11) + lo ≤ R.locals ∧ cs + mc ≤ R.cells ∧ ss + ms ≤ R.slots ∧ (S.map fun v => v.category).sum ≤ 8) (kk : ∀ K1 N1 I1, Q K1 N1 I1 → (∀ i, i ∈ K → i ∈ K1) → XX G own cc R Fx (pc + 3) L S K1 N1 I1 (cs + mc) (ss + ms)) : XX G own cc R Fx pc L (v5 :: v4 :: v3 :: v2 :: v1 :: .ref i :: S) K N I cs ss := by
  obtain ⟨p, e, s, m, args, below, meth, c, Q, nL, a0, K0⟩ := Fx
  intro ok al H locs ls st
  obtain ⟨hx, hb, hml, hown, hts, hE, hA⟩ := id ok
  have okN : okS K [] := fun w hw => nomatch hw
  have hoA : okS K [.ref i, v1, v2, v3, v4, v5] := by
    have q := st.2.2.2.2.1
    exact ((((((okN).cons q.head).cons q.tail.head).cons q.tail.tail.head).cons q.tail.tail.tail.head).cons q.tail.tail.tail.tail.head).cons q.tail.tail.tail.tail.tail.head
  obtain ⟨ci, T, Nn, hc, h6⟩ := hvv.2.2
  have recv : ∃ cellB : Cell, H[al i]? = some cellB ∧ cellB.vm.isStatics = false ∧ s.vm.findClass mt.1.cls = some cellB.cls := by
    cases hq : classes[kd i]? with
    | none => rw [hq] at hk; cases hk
    | some r =>
      rw [hq] at hk
      have hkd : kd i < 6 := (List.getElem?_eq_some_iff.mp hq).1
      obtain ⟨q0, hq0⟩ := List.getElem?_of_mem ((okS.head (fun w hw => hoA w hw : okS K [.ref i, v1, v2, v3, v4, v5])).mem (by omega))
      have z := va_recv hE.1 st.1.1 hq (by rw [wl_at hq0, ent_obj rfl hkd])
      have hk2 : r.1 = mt.1.cls := Option.some.inj hk
      rw [hk2] at z
      exact z
  refine va_callv (va_runV (As := [gm al v1, gm al v2, gm al v3, gm al v4, gm al v5]) (rest := S.map (gm al)) (C := mt.1.cls) (b := al i) ⟨hx, hb, hml, hown, hts⟩ (sp al hoA) ⟨callB_of 5 hts (GoodIn.Wd hv.2.1) rfl rfl rfl (hts _ hv.1) (hts _ hl) hv.2.2 ⟨hR.1, hR.2.1⟩, hts _ hvv.1, hts _ hvv.2.1⟩ ⟨RepW.blind, recv, fun U hU hW => PcW.at (As := [.ref i, v1, v2, v3, v4, v5]) hE hA st.2.1 st.1 U hU hW⟩ rfl rfl st.2.2.1.1 rfl (lv_room (by rw [cat_gm]; exact hR.2.2.2.2)) hd ⟨hR.2.2.1, hR.2.2.2.1⟩) st.2.1 (fun q _ h => h) (fun q h => h) (fun u t H1 locs1 ht hvm hp hB hz1 hk1 hS1 => ?_)
  obtain ⟨hq, hag⟩ := hp
  have hB : RepW G u.2.2.2 u.1 u.2.1 u.2.2.1 H1 := ht ▸ hB
  obtain ⟨r1, r2⟩ := st.behind hag hB hS1 (fun q => q.tail.tail.tail.tail.tail.tail)
  have k1 := kk u.1 u.2.1 u.2.2.1 hq hag.1 ok u.2.2.2 H1 locs1 ls r1
  rw [r2] at k1
  exact k1
theorem x_cSI1 {x : Nat} {mt : MT} {ty : FieldType} {fr lo mc ms : Nat} {v1 : Value} {Q : Int → List Nat → NN → MM → Prop} (hd : decode cc pc = .ok (.invokestatic x, 3)) (hl : Cond.methodLink own x mt.1 ∈ Wd) (hv : VW mt (some ty) 1) (hvv : Cond.static mt.1 ∈ Wd) (sp : SpI G mt ty fr lo mc ms [v1] K N I Q) (hR : fr + 1 ≤ R.frames ∧ 8 + (mt.2.2 + 11) + lo ≤ R.locals ∧ cs + mc ≤ R.cells ∧ ss + ms ≤ R.slots ∧ (S.map fun v => v.category).sum ≤ 8) (kk : ∀ z K1 N1 I1, Q z K1 N1 I1 → (∀ i, i ∈ K → i ∈ K1) → XX G own cc R Fx (pc + 3) L (vi z :: S) K1 N1 I1 (cs + mc) (ss + ms)) : XX G own cc R Fx pc L (v1 :: S) K N I cs ss := by
  obtain ⟨p, e, s, m, args, below, meth, c, Q, nL, a0, K0⟩ := Fx
  intro ok al H locs ls st
  obtain ⟨hx, hb, hml, hown, hts, hE, hA⟩ := id ok
  have okN : okS K [] := fun w hw => nomatch hw
  have hoA : okS K [v1] := by
    have q := st.2.2.2.2.1
    exact (okN).cons q.head
  refine va_calli (va_runS (As := [gm al v1]) (rest := S.map (gm al)) ⟨hx, hb, hml, hown, hts⟩ (sp al hoA) ⟨callB_of 1 hts (GoodIn.Wd hv.2.1) rfl rfl rfl (hts _ hv.1) (hts _ hl) hv.2.2 ⟨hR.1, hR.2.1⟩, hts _ hvv⟩ ⟨RepW.blind, fun U hU hW => PcW.at (As := [v1]) hE hA st.2.1 st.1 U hU hW⟩ rfl rfl st.2.2.1.1 rfl (lv_room (by rw [cat_gm]; exact hR.2.2.2.2)) hd ⟨hR.2.2.1, hR.2.2.2.1⟩) st.2.1 (fun q _ h => h) (fun q h => h) (fun r u t H1 locs1 ht hvm hp hB hz1 hk1 hS1 => ?_)
  obtain ⟨⟨z, rfl, hq⟩, hag⟩ := hp
  have hB : RepW G u.2.2.2 u.1 u.2.1 u.2.2.1 H1 := ht ▸ hB
  obtain ⟨r1, r2⟩ := st.behind (S' := vi z :: S) hag hB hS1 (fun q => (q.tail).cons trivial)
  have k1 := kk z u.1 u.2.1 u.2.2.1 hq hag.1 ok u.2.2.2 H1 locs1 ls r1
  rw [r2] at k1
  exact k1
theorem x_cSI2 {x : Nat} {mt : MT} {ty : FieldType} {fr lo mc ms : Nat} {v1 v2 : Value} {Q : Int → List Nat → NN → MM → Prop} (hd : decode cc pc = .ok (.invokestatic x, 3)) (hl : Cond.methodLink own x mt.1 ∈ Wd) (hv : VW mt (some ty) 2) (hvv : Cond.static mt.1 ∈ Wd) (sp : SpI G mt ty fr lo mc ms [v1, v2] K N I Q) (hR : fr + 1 ≤ R.frames ∧ 8 + (mt.2.2 + 11) + lo ≤ R.locals ∧ cs + mc ≤ R.cells ∧ ss + ms ≤ R.slots ∧ (S.map fun v => v.category).sum ≤ 8) (kk : ∀ z K1 N1 I1, Q z K1 N1 I1 → (∀ i, i ∈ K → i ∈ K1) → XX G own cc R Fx (pc + 3) L (vi z :: S) K1 N1 I1 (cs + mc) (ss + ms)) : XX G own cc R Fx pc L (v2 :: v1 :: S) K N I cs ss := by
  obtain ⟨p, e, s, m, args, below, meth, c, Q, nL, a0, K0⟩ := Fx
  intro ok al H locs ls st
  obtain ⟨hx, hb, hml, hown, hts, hE, hA⟩ := id ok
  have okN : okS K [] := fun w hw => nomatch hw
  have hoA : okS K [v1, v2] := by
    have q := st.2.2.2.2.1
    exact ((okN).cons q.head).cons q.tail.head
  refine va_calli (va_runS (As := [gm al v1, gm al v2]) (rest := S.map (gm al)) ⟨hx, hb, hml, hown, hts⟩ (sp al hoA) ⟨callB_of 2 hts (GoodIn.Wd hv.2.1) rfl rfl rfl (hts _ hv.1) (hts _ hl) hv.2.2 ⟨hR.1, hR.2.1⟩, hts _ hvv⟩ ⟨RepW.blind, fun U hU hW => PcW.at (As := [v1, v2]) hE hA st.2.1 st.1 U hU hW⟩ rfl rfl st.2.2.1.1 rfl (lv_room (by rw [cat_gm]; exact hR.2.2.2.2)) hd ⟨hR.2.2.1, hR.2.2.2.1⟩) st.2.1 (fun q _ h => h) (fun q h => h) (fun r u t H1 locs1 ht hvm hp hB hz1 hk1 hS1 => ?_)
  obtain ⟨⟨z, rfl, hq⟩, hag⟩ := hp
  have hB : RepW G u.2.2.2 u.1 u.2.1 u.2.2.1 H1 := ht ▸ hB
  obtain ⟨r1, r2⟩ := st.behind (S' := vi z :: S) hag hB hS1 (fun q => (q.tail.tail).cons trivial)
  have k1 := kk z u.1 u.2.1 u.2.2.1 hq hag.1 ok u.2.2.2 H1 locs1 ls r1
  rw [r2] at k1
  exact k1
theorem x_cSI3 {x : Nat} {mt : MT} {ty : FieldType} {fr lo mc ms : Nat} {v1 v2 v3 : Value} {Q : Int → List Nat → NN → MM → Prop} (hd : decode cc pc = .ok (.invokestatic x, 3)) (hl : Cond.methodLink own x mt.1 ∈ Wd) (hv : VW mt (some ty) 3) (hvv : Cond.static mt.1 ∈ Wd) (sp : SpI G mt ty fr lo mc ms [v1, v2, v3] K N I Q) (hR : fr + 1 ≤ R.frames ∧ 8 + (mt.2.2 + 11) + lo ≤ R.locals ∧ cs + mc ≤ R.cells ∧ ss + ms ≤ R.slots ∧ (S.map fun v => v.category).sum ≤ 8) (kk : ∀ z K1 N1 I1, Q z K1 N1 I1 → (∀ i, i ∈ K → i ∈ K1) → XX G own cc R Fx (pc + 3) L (vi z :: S) K1 N1 I1 (cs + mc) (ss + ms)) : XX G own cc R Fx pc L (v3 :: v2 :: v1 :: S) K N I cs ss := by
  obtain ⟨p, e, s, m, args, below, meth, c, Q, nL, a0, K0⟩ := Fx
  intro ok al H locs ls st
  obtain ⟨hx, hb, hml, hown, hts, hE, hA⟩ := id ok
  have okN : okS K [] := fun w hw => nomatch hw
  have hoA : okS K [v1, v2, v3] := by
    have q := st.2.2.2.2.1
    exact (((okN).cons q.head).cons q.tail.head).cons q.tail.tail.head
  refine va_calli (va_runS (As := [gm al v1, gm al v2, gm al v3]) (rest := S.map (gm al)) ⟨hx, hb, hml, hown, hts⟩ (sp al hoA) ⟨callB_of 3 hts (GoodIn.Wd hv.2.1) rfl rfl rfl (hts _ hv.1) (hts _ hl) hv.2.2 ⟨hR.1, hR.2.1⟩, hts _ hvv⟩ ⟨RepW.blind, fun U hU hW => PcW.at (As := [v1, v2, v3]) hE hA st.2.1 st.1 U hU hW⟩ rfl rfl st.2.2.1.1 rfl (lv_room (by rw [cat_gm]; exact hR.2.2.2.2)) hd ⟨hR.2.2.1, hR.2.2.2.1⟩) st.2.1 (fun q _ h => h) (fun q h => h) (fun r u t H1 locs1 ht hvm hp hB hz1 hk1 hS1 => ?_)
  obtain ⟨⟨z, rfl, hq⟩, hag⟩ := hp
  have hB : RepW G u.2.2.2 u.1 u.2.1 u.2.2.1 H1 := ht ▸ hB
  obtain ⟨r1, r2⟩ := st.behind (S' := vi z :: S) hag hB hS1 (fun q => (q.tail.tail.tail).cons trivial)
  have k1 := kk z u.1 u.2.1 u.2.2.1 hq hag.1 ok u.2.2.2 H1 locs1 ls r1
  rw [r2] at k1
  exact k1
theorem x_cSI4 {x : Nat} {mt : MT} {ty : FieldType} {fr lo mc ms : Nat} {v1 v2 v3 v4 : Value} {Q : Int → List Nat → NN → MM → Prop} (hd : decode cc pc = .ok (.invokestatic x, 3)) (hl : Cond.methodLink own x mt.1 ∈ Wd) (hv : VW mt (some ty) 4) (hvv : Cond.static mt.1 ∈ Wd) (sp : SpI G mt ty fr lo mc ms [v1, v2, v3, v4] K N I Q) (hR : fr + 1 ≤ R.frames ∧ 8 + (mt.2.2 + 11) + lo ≤ R.locals ∧ cs + mc ≤ R.cells ∧ ss + ms ≤ R.slots ∧ (S.map fun v => v.category).sum ≤ 8) (kk : ∀ z K1 N1 I1, Q z K1 N1 I1 → (∀ i, i ∈ K → i ∈ K1) → XX G own cc R Fx (pc + 3) L (vi z :: S) K1 N1 I1 (cs + mc) (ss + ms)) : XX G own cc R Fx pc L (v4 :: v3 :: v2 :: v1 :: S) K N I cs ss := by
  obtain ⟨p, e, s, m, args, below, meth, c, Q, nL, a0, K0⟩ := Fx
  intro ok al H locs ls st
  obtain ⟨hx, hb, hml, hown, hts, hE, hA⟩ := id ok
  have okN : okS K [] := fun w hw => nomatch hw
  have hoA : okS K [v1, v2, v3, v4] := by
    have q := st.2.2.2.2.1
    exact ((((okN).cons q.head).cons q.tail.head).cons q.tail.tail.head).cons q.tail.tail.tail.head
  refine va_calli (va_runS (As := [gm al v1, gm al v2, gm al v3, gm al v4]) (rest := S.map (gm al)) ⟨hx, hb, hml, hown, hts⟩ (sp al hoA) ⟨callB_of 4 hts (GoodIn.Wd hv.2.1) rfl rfl rfl (hts _ hv.1) (hts _ hl) hv.2.2 ⟨hR.1, hR.2.1⟩, hts _ hvv⟩ ⟨RepW.blind, fun U hU hW => PcW.at (As := [v1, v2, v3, v4]) hE hA st.2.1 st.1 U hU hW⟩ rfl rfl st.2.2.1.1 rfl (lv_room (by rw [cat_gm]; exact hR.2.2.2.2)) hd ⟨hR.2.2.1, hR.2.2.2.1⟩) st.2.1 (fun q _ h => h) (fun q h => h) (fun r u t H1 locs1 ht hvm hp hB hz1 hk1 hS1 => ?_)
  obtain ⟨⟨z, rfl, hq⟩, hag⟩ := hp
  have hB : RepW G u.2.2.2 u.1 u.2.1 u.2.2.1 H1 := ht ▸ hB
  obtain ⟨r1, r2⟩ := st.behind (S' := vi z :: S) hag hB hS1 (fun q => (q.tail.tail.tail.tail).cons trivial)
  have k1 := kk z u.1 u.2.1 u.2.2.1 hq hag.1 ok u.2.2.2 H1 locs1 ls r1
  rw [r2] at k1
  exact k1
theorem x_cSI5 {x : Nat} {mt : MT} {ty : FieldType} {fr lo mc ms : Nat} {v1 v2 v3 v4 v5 : Value} {Q : Int → List Nat → NN → MM → Prop} (hd : decode cc pc = .ok (.invokestatic x, 3)) (hl : Cond.methodLink own x mt.1 ∈ Wd) (hv : VW mt (some ty) 5) (hvv : Cond.static mt.1 ∈ Wd) (sp : SpI G mt ty fr lo mc ms [v1, v2, v3, v4, v5] K N I Q) (hR : fr + 1 ≤ R.frames ∧ 8 + (mt.2.2 + 11) + lo ≤ R.locals ∧ cs + mc ≤ R.cells ∧ ss + ms ≤ R.slots ∧ (S.map fun v => v.category).sum ≤ 8) (kk : ∀ z K1 N1 I1, Q z K1 N1 I1 → (∀ i, i ∈ K → i ∈ K1) → XX G own cc R Fx (pc + 3) L (vi z :: S) K1 N1 I1 (cs + mc) (ss + ms)) : XX G own cc R Fx pc L (v5 :: v4 :: v3 :: v2 :: v1 :: S) K N I cs ss := by
  obtain ⟨p, e, s, m, args, below, meth, c, Q, nL, a0, K0⟩ := Fx
  intro ok al H locs ls st
  obtain ⟨hx, hb, hml, hown, hts, hE, hA⟩ := id ok
  have okN : okS K [] := fun w hw => nomatch hw
  have hoA : okS K [v1, v2, v3, v4, v5] := by
    have q := st.2.2.2.2.1
    exact (((((okN).cons q.head).cons q.tail.head).cons q.tail.tail.head).cons q.tail.tail.tail.head).cons q.tail.tail.tail.tail.head
  refine va_calli (va_runS (As := [gm al v1, gm al v2, gm al v3, gm al v4, gm al v5]) (rest := S.map (gm al)) ⟨hx, hb, hml, hown, hts⟩ (sp al hoA) ⟨callB_of 5 hts (GoodIn.Wd hv.2.1) rfl rfl rfl (hts _ hv.1) (hts _ hl) hv.2.2 ⟨hR.1, hR.2.1⟩, hts _ hvv⟩ ⟨RepW.blind, fun U hU hW => PcW.at (As := [v1, v2, v3, v4, v5]) hE hA st.2.1 st.1 U hU hW⟩ rfl rfl st.2.2.1.1 rfl (lv_room (by rw [cat_gm]; exact hR.2.2.2.2)) hd ⟨hR.2.2.1, hR.2.2.2.1⟩) st.2.1 (fun q _ h => h) (fun q h => h) (fun r u t H1 locs1 ht hvm hp hB hz1 hk1 hS1 => ?_)
  obtain ⟨⟨z, rfl, hq⟩, hag⟩ := hp
  have hB : RepW G u.2.2.2 u.1 u.2.1 u.2.2.1 H1 := ht ▸ hB
  obtain ⟨r1, r2⟩ := st.behind (S' := vi z :: S) hag hB hS1 (fun q => (q.tail.tail.tail.tail.tail).cons trivial)
  have k1 := kk z u.1 u.2.1 u.2.2.1 hq hag.1 ok u.2.2.2 H1 locs1 ls r1
  rw [r2] at k1
  exact k1
theorem x_cSL1 {x : Nat} {mt : MT} {ty : FieldType} {fr lo mc ms : Nat} {v1 : Value} {Q : Int → List Nat → NN → MM → Prop} (hd : decode cc pc = .ok (.invokestatic x, 3)) (hl : Cond.methodLink own x mt.1 ∈ Wd) (hv : VW mt (some ty) 1) (hvv : Cond.static mt.1 ∈ Wd) (sp : SpL G mt ty fr lo mc ms [v1] K N I Q) (hR : fr + 1 ≤ R.frames ∧ 8 + (mt.2.2 + 11) + lo ≤ R.locals ∧ cs + mc ≤ R.cells ∧ ss + ms ≤ R.slots ∧ (S.map fun v => v.category).sum ≤ 8) (kk : ∀ z K1 N1 I1, Q z K1 N1 I1 → (∀ i, i ∈ K → i ∈ K1) → XX G own cc R Fx (pc + 3) L (vl z :: S) K1 N1 I1 (cs + mc) (ss + ms)) : XX G own cc R Fx pc L (v1 :: S) K N I cs ss := by
  obtain ⟨p, e, s, m, args, below, meth, c, Q, nL, a0, K0⟩ := Fx
  intro ok al H locs ls st
  obtain ⟨hx, hb, hml, hown, hts, hE, hA⟩ := id ok
  have okN : okS K [] := fun w hw => nomatch hw
  have hoA : okS K [v1] := by
    have q := st.2.2.2.2.1
    exact (okN).cons q.head
  refine va_calll (va_runS (As := [gm al v1]) (rest := S.map (gm al)) ⟨hx, hb, hml, hown, hts⟩ (sp al hoA) ⟨callB_of 1 hts (GoodIn.Wd hv.2.1) rfl rfl rfl (hts _ hv.1) (hts _ hl) hv.2.2 ⟨hR.1, hR.2.1⟩, hts _ hvv⟩ ⟨RepW.blind, fun U hU hW => PcW.at (As := [v1]) hE hA st.2.1 st.1 U hU hW⟩ rfl rfl st.2.2.1.1 rfl (lv_room (by rw [cat_gm]; exact hR.2.2.2.2)) hd ⟨hR.2.2.1, hR.2.2.2.1⟩) st.2.1 (fun q _ h => h) (fun q h => h) (fun r u t H1 locs1 ht hvm hp hB hz1 hk1 hS1 => ?_)
  obtain ⟨⟨z, rfl, hq⟩, hag⟩ := hp
  have hB : RepW G u.2.2.2 u.1 u.2.1 u.2.2.1 H1 := ht ▸ hB
  obtain ⟨r1, r2⟩ := st.behind (S' := vl z :: S) hag hB hS1 (fun q => (q.tail).cons trivial)
  have k1 := kk z u.1 u.2.1 u.2.2.1 hq hag.1 ok u.2.2.2 H1 locs1 ls r1
  rw [r2] at k1
  exact k1
theorem x_cSL2 {x : Nat} {mt : MT} {ty : FieldType} {fr lo mc ms : Nat} {v1 v2 : Value} {Q : Int → List Nat → NN → MM → Prop} (hd : decode cc pc = .ok (.invokestatic x, 3)) (hl : Cond.methodLink own x mt.1 ∈ Wd) (hv : VW mt (some ty) 2) (hvv : Cond.static mt.1 ∈ Wd) (sp : SpL G mt ty fr lo mc ms [v1, v2] K N I Q) (hR : fr + 1 ≤ R.frames ∧ 8 + (mt.2.2 + 11) + lo ≤ R.locals ∧ cs + mc ≤ R.cells ∧ ss + ms ≤ R.slots ∧ (S.map fun v => v.category).sum ≤ 8) (kk : ∀ z K1 N1 I1, Q z K1 N1 I1 → (∀ i, i ∈ K → i ∈ K1) → XX G own cc R Fx (pc + 3) L (vl z :: S) K1 N1 I1 (cs + mc) (ss + ms)) : XX G own cc R Fx pc L (v2 :: v1 :: S) K N I cs ss := by
  obtain ⟨p, e, s, m, args, below, meth, c, Q, nL, a0, K0⟩ := Fx
  intro ok al H locs ls st
  obtain ⟨hx, hb, hml, hown, hts, hE, hA⟩ := id ok
  have okN : okS K [] := fun w hw => nomatch hw
  have hoA : okS K [v1, v2] := by
    have q := st.2.2.2.2.1
    exact ((okN).cons q.head).cons q.tail.head
  refine va_calll (va_runS (As := [gm al v1, gm al v2]) (rest := S.map (gm al)) ⟨hx, hb, hml, hown, hts⟩ (sp al hoA) ⟨callB_of 2 hts (GoodIn.Wd hv.2.1) rfl rfl rfl (hts _ hv.1) (hts _ hl) hv.2.2 ⟨hR.1, hR.2.1⟩, hts _ hvv⟩ ⟨RepW.blind, fun U hU hW => PcW.at (As := [v1, v2]) hE hA st.2.1 st.1 U hU hW⟩ rfl rfl st.2.2.1.1 rfl (lv_room (by rw [cat_gm]; exact hR.2.2.2.2)) hd ⟨hR.2.2.1, hR.2.2.2.1⟩) st.2.1 (fun q _ h => h) (fun q h => h) (fun r u t H1 locs1 ht hvm hp hB hz1 hk1 hS1 => ?_)
  obtain ⟨⟨z, rfl, hq⟩, hag⟩ := hp
  have hB : RepW G u.2.2.2 u.1 u.2.1 u.2.2.1 H1 := ht ▸ hB
  obtain ⟨r1, r2⟩ := st.behind (S' := vl z :: S) hag hB hS1 (fun q => (q.tail.tail).cons trivial)
  have k1 := kk z u.1 u.2.1 u.2.2.1 hq hag.1 ok u.2.2.2 H1 locs1 ls r1
  rw [r2] at k1
  exact k1
theorem x_cSL3 {x : Nat} {mt : MT} {ty : FieldType} {fr lo mc ms : Nat} {v1 v2 v3 : Value} {Q : Int → List Nat → NN → MM → Prop} (hd : decode cc pc = .ok (.invokestatic x, 3)) (hl : Cond.methodLink own x mt.1 ∈ Wd) (hv : VW mt (some ty) 3) (hvv : Cond.static mt.1 ∈ Wd) (sp : SpL G mt ty fr lo mc ms [v1, v2, v3] K N I Q) (hR : fr + 1 ≤ R.frames ∧ 8 + (mt.2.2 + 11) + lo ≤ R.locals ∧ cs + mc ≤ R.cells ∧ ss + ms ≤ R.slots ∧ (S.map fun v => v.category).sum ≤ 8) (kk : ∀ z K1 N1 I1, Q z K1 N1 I1 → (∀ i, i ∈ K → i ∈ K1) → XX G own cc R Fx (pc + 3) L (vl z :: S) K1 N1 I1 (cs + mc) (ss + ms)) : XX G own cc R Fx pc L (v3 :: v2 :: v1 :: S) K N I cs ss := by
  obtain ⟨p, e, s, m, args, below, meth, c, Q, nL, a0, K0⟩ := Fx
  intro ok al H locs ls st
  obtain ⟨hx, hb, hml, hown, hts, hE, hA⟩ := id ok
  have okN : okS K [] := fun w hw => nomatch hw
  have hoA : okS K [v1, v2, v3] := by
    have q := st.2.2.2.2.1
    exact (((okN).cons q.head).cons q.tail.head).cons q.tail.tail.head
  refine va_calll (va_runS (As := [gm al v1, gm al v2, gm al v3]) (rest := S.map (gm al)) ⟨hx, hb, hml, hown, hts⟩ (sp al hoA) ⟨callB_of 3 hts (GoodIn.Wd hv.2.1) rfl rfl rfl (hts _ hv.1) (hts _ hl) hv.2.2 ⟨hR.1, hR.2.1⟩, hts _ hvv⟩ ⟨RepW.blind, fun U hU hW => PcW.at (As := [v1, v2, v3]) hE hA st.2.1 st.1 U hU hW⟩ rfl rfl st.2.2.1.1 rfl (lv_room (by rw [cat_gm]; exact hR.2.2.2.2)) hd ⟨hR.2.2.1, hR.2.2.2.1⟩) st.2.1 (fun q _ h => h) (fun q h => h) (fun r u t H1 locs1 ht hvm hp hB hz1 hk1 hS1 => ?_)
  obtain ⟨⟨z, rfl, hq⟩, hag⟩ := hp
  have hB : RepW G u.2.2.2 u.1 u.2.1 u.2.2.1 H1 := ht ▸ hB
  obtain ⟨r1, r2⟩ := st.behind (S' := vl z :: S) hag hB hS1 (fun q => (q.tail.tail.tail).cons trivial)
  have k1 := kk z u.1 u.2.1 u.2.2.1 hq hag.1 ok u.2.2.2 H1 locs1 ls r1
  rw [r2] at k1
  exact k1
theorem x_cSL4 {x : Nat} {mt : MT} {ty : FieldType} {fr lo mc ms : Nat} {v1 v2 v3 v4 : Value} {Q : Int → List Nat → NN → MM → Prop} (hd : decode cc pc = .ok (.invokestatic x, 3)) (hl : Cond.methodLink own x mt.1 ∈ Wd) (hv : VW mt (some ty) 4) (hvv : Cond.static mt.1 ∈ Wd) (sp : SpL G mt ty fr lo mc ms [v1, v2, v3, v4] K N I Q) (hR : fr + 1 ≤ R.frames ∧ 8 + (mt.2.2 + 11) + lo ≤ R.locals ∧ cs + mc ≤ R.cells ∧ ss + ms ≤ R.slots ∧ (S.map fun v => v.category).sum ≤ 8) (kk : ∀ z K1 N1 I1, Q z K1 N1 I1 → (∀ i, i ∈ K → i ∈ K1) → XX G own cc R Fx (pc + 3) L (vl z :: S) K1 N1 I1 (cs + mc) (ss + ms)) : XX G own cc R Fx pc L (v4 :: v3 :: v2 :: v1 :: S) K N I cs ss := by
  obtain ⟨p, e, s, m, args, below, meth, c, Q, nL, a0, K0⟩ := Fx
  intro ok al H locs ls st
  obtain ⟨hx, hb, hml, hown, hts, hE, hA⟩ := id ok
  have okN : okS K [] := fun w hw => nomatch hw
  have hoA : okS K [v1, v2, v3, v4] := by
    have q := st.2.2.2.2.1
    exact ((((okN).cons q.head).cons q.tail.head).cons q.tail.tail.head).cons q.tail.tail.tail.head
  refine va_calll (va_runS (As := [gm al v1, gm al v2, gm al v3, gm al v4]) (rest := S.map (gm al)) ⟨hx, hb, hml, hown, hts⟩ (sp al hoA) ⟨callB_of 4 hts (GoodIn.Wd hv.2.1) rfl rfl rfl (hts _ hv.1) (hts _ hl) hv.2.2 ⟨hR.1, hR.2.1⟩, hts _ hvv⟩ ⟨RepW.blind, fun U hU hW => PcW.at (As := [v1, v2, v3, v4]) hE hA st.2.1 st.1 U hU hW⟩ rfl rfl st.2.2.1.1 rfl (lv_room (by rw [cat_gm]; exact hR.2.2.2.2)) hd ⟨hR.2.2.1, hR.2.2.2.1⟩) st.2.1 (fun q _ h => h) (fun q h => h) (fun r u t H1 locs1 ht hvm hp hB hz1 hk1 hS1 => ?_)
  obtain ⟨⟨z, rfl, hq⟩, hag⟩ := hp
  have hB : RepW G u.2.2.2 u.1 u.2.1 u.2.2.1 H1 := ht ▸ hB
  obtain ⟨r1, r2⟩ := st.behind (S' := vl z :: S) hag hB hS1 (fun q => (q.tail.tail.tail.tail).cons trivial)
  have k1 := kk z u.1 u.2.1 u.2.2.1 hq hag.1 ok u.2.2.2 H1 locs1 ls r1
  rw [r2] at k1
  exact k1
theorem x_cSL5 {x : Nat} {mt : MT} {ty : FieldType} {fr lo mc ms : Nat} {v1 v2 v3 v4 v5 : Value} {Q : Int → List Nat → NN → MM → Prop} (hd : decode cc pc = .ok (.invokestatic x, 3)) (hl : Cond.methodLink own x mt.1 ∈ Wd) (hv : VW mt (some ty) 5) (hvv : Cond.static mt.1 ∈ Wd) (sp : SpL G mt ty fr lo mc ms [v1, v2, v3, v4, v5] K N I Q) (hR : fr + 1 ≤ R.frames ∧ 8 + (mt.2.2 + 11) + lo ≤ R.locals ∧ cs + mc ≤ R.cells ∧ ss + ms ≤ R.slots ∧ (S.map fun v => v.category).sum ≤ 8) (kk : ∀ z K1 N1 I1, Q z K1 N1 I1 → (∀ i, i ∈ K → i ∈ K1) → XX G own cc R Fx (pc + 3) L (vl z :: S) K1 N1 I1 (cs + mc) (ss + ms)) : XX G own cc R Fx pc L (v5 :: v4 :: v3 :: v2 :: v1 :: S) K N I cs ss := by
  obtain ⟨p, e, s, m, args, below, meth, c, Q, nL, a0, K0⟩ := Fx
  intro ok al H locs ls st
  obtain ⟨hx, hb, hml, hown, hts, hE, hA⟩ := id ok
  have okN : okS K [] := fun w hw => nomatch hw
  have hoA : okS K [v1, v2, v3, v4, v5] := by
    have q := st.2.2.2.2.1
    exact (((((okN).cons q.head).cons q.tail.head).cons q.tail.tail.head).cons q.tail.tail.tail.head).cons q.tail.tail.tail.tail.head
  refine va_calll (va_runS (As := [gm al v1, gm al v2, gm al v3, gm al v4, gm al v5]) (rest := S.map (gm al)) ⟨hx, hb, hml, hown, hts⟩ (sp al hoA) ⟨callB_of 5 hts (GoodIn.Wd hv.2.1) rfl rfl rfl (hts _ hv.1) (hts _ hl) hv.2.2 ⟨hR.1, hR.2.1⟩, hts _ hvv⟩ ⟨RepW.blind, fun U hU hW => PcW.at (As := [v1, v2, v3, v4, v5]) hE hA st.2.1 st.1 U hU hW⟩ rfl rfl st.2.2.1.1 rfl (lv_room (by rw [cat_gm]; exact hR.2.2.2.2)) hd ⟨hR.2.2.1, hR.2.2.2.1⟩) st.2.1 (fun q _ h => h) (fun q h => h) (fun r u t H1 locs1 ht hvm hp hB hz1 hk1 hS1 => ?_)
  obtain ⟨⟨z, rfl, hq⟩, hag⟩ := hp
  have hB : RepW G u.2.2.2 u.1 u.2.1 u.2.2.1 H1 := ht ▸ hB
  obtain ⟨r1, r2⟩ := st.behind (S' := vl z :: S) hag hB hS1 (fun q => (q.tail.tail.tail.tail.tail).cons trivial)
  have k1 := kk z u.1 u.2.1 u.2.2.1 hq hag.1 ok u.2.2.2 H1 locs1 ls r1
  rw [r2] at k1
  exact k1
theorem x_cSV1 {x : Nat} {mt : MT} {fr lo mc ms : Nat} {v1 : Value} {Q : List Nat → NN → MM → Prop} (hd : decode cc pc = .ok (.invokestatic x, 3)) (hl : Cond.methodLink own x mt.1 ∈ Wd) (hv : VW mt none 1) (hvv : Cond.static mt.1 ∈ Wd) (sp : SpV G mt fr lo mc ms [v1] K N I Q) (hR : fr + 1 ≤ R.frames ∧ 8 + (mt.2.2 + 11) + lo ≤ R.locals ∧ cs + mc ≤ R.cells ∧ ss + ms ≤ R.slots ∧ (S.map fun v => v.category).sum ≤ 8) (kk : ∀ K1 N1 I1, Q K1 N1 I1 → (∀ i, i ∈ K → i ∈ K1) → XX G own cc R Fx (pc + 3) L S K1 N1 I1 (cs + mc) (ss + ms)) : XX G own cc R Fx pc L (v1 :: S) K N I cs ss := by
  obtain ⟨p, e, s, m, args, below, meth, c, Q, nL, a0, K0⟩ := Fx
  intro ok al H locs ls st
  obtain ⟨hx, hb, hml, hown, hts, hE, hA⟩ := id ok
  have okN : okS K [] := fun w hw => nomatch hw
  have hoA : okS K [v1] := by
    have q := st.2.2.2.2.1
    exact (okN).cons q.head
  refine va_callv (va_runS (As := [gm al v1]) (rest := S.map (gm al)) ⟨hx, hb, hml, hown, hts⟩ (sp al hoA) ⟨callB_of 1 hts (GoodIn.Wd hv.2.1) rfl rfl rfl (hts _ hv.1) (hts _ hl) hv.2.2 ⟨hR.1, hR.2.1⟩, hts _ hvv⟩ ⟨RepW.blind, fun U hU hW => PcW.at (As := [v1]) hE hA st.2.1 st.1 U hU hW⟩ rfl rfl st.2.2.1.1 rfl (lv_room (by rw [cat_gm]; exact hR.2.2.2.2)) hd ⟨hR.2.2.1, hR.2.2.2.1⟩) st.2.1 (fun q _ h => h) (fun q h => h) (fun u t H1 locs1 ht hvm hp hB hz1 hk1 hS1 => ?_)
  obtain ⟨hq, hag⟩ := hp
  have hB : RepW G u.2.2.2 u.1 u.2.1 u.2.2.1 H1 := ht ▸ hB
  obtain ⟨r1, r2⟩ := st.behind hag hB hS1 (fun q => q.tail)
  have k1 := kk u.1 u.2.1 u.2.2.1 hq hag.1 ok u.2.2.2 H1 locs1 ls r1
  rw [r2] at k1
  exact k1
theorem x_cSV2 {x : Nat} {mt : MT} {fr lo mc ms : Nat} {v1 v2 : Value} {Q : List Nat → NN → MM → Prop} (hd : decode cc pc = .ok (.invokestatic x, 3)) (hl : Cond.methodLink own x mt.1 ∈ Wd) (hv : VW mt none 2) (hvv : Cond.static mt.1 ∈ Wd) (sp : SpV G mt fr lo mc ms [v1, v2] K N I Q) (hR : fr + 1 ≤ R.frames ∧ 8 + (mt.2.2 + 11) + lo ≤ R.locals ∧ cs + mc ≤ R.cells ∧ ss + ms ≤ R.slots ∧ (S.map fun v => v.category).sum ≤ 8) (kk : ∀ K1 N1 I1, Q K1 N1 I1 → (∀ i, i ∈ K → i ∈ K1) → XX G own cc R Fx (pc + 3) L S K1 N1 I1 (cs + mc) (ss + ms)) : XX G own cc R Fx pc L (v2 :: v1 :: S) K N I cs ss := by
  obtain ⟨p, e, s, m, args, below, meth, c, Q, nL, a0, K0⟩ := Fx
  intro ok al H locs ls st
  obtain ⟨hx, hb, hml, hown, hts, hE, hA⟩ := id ok
  have okN : okS K [] := fun w hw => nomatch hw
  have hoA : okS K [v1, v2] := by
    have q := st.2.2.2.2.1
    exact ((okN).cons q.head).cons q.tail.head
  refine va_callv (va_runS (As := [gm al v1, gm al v2]) (rest := S.map (gm al)) ⟨hx, hb, hml, hown, hts⟩ (sp al hoA) ⟨callB_of 2 hts (GoodIn.Wd hv.2.1) rfl rfl rfl (hts _ hv.1) (hts _ hl) hv.2.2 ⟨hR.1, hR.2.1⟩, hts _ hvv⟩ ⟨RepW.blind, fun U hU hW => PcW.at (As := [v1, v2]) hE hA st.2.1 st.1 U hU hW⟩ rfl rfl st.2.2.1.1 rfl (lv_room (by rw [cat_gm]; exact hR.2.2.2.2)) hd ⟨hR.2.2.1, hR.2.2.2.1⟩) st.2.1 (fun q _ h => h) (fun q h => h) (fun u t H1 locs1 ht hvm hp hB hz1 hk1 hS1 => ?_)
  obtain ⟨hq, hag⟩ := hp
  have hB : RepW G u.2.2.2 u.1 u.2.1 u.2.2.1 H1 := ht ▸ hB
  obtain ⟨r1, r2⟩ := st.behind hag hB hS1 (fun q => q.tail.tail)
  have k1 := kk u.1 u.2.1 u.2.2.1 hq hag.1 ok u.2.2.2 H1 locs1 ls r1
  rw [r2] at k1
  exact k1
theorem x_cSV3 {x : Nat} {mt : MT} {fr lo mc ms : Nat} {v1 v2 v3 : Value} {Q : List Nat → NN → MM → Prop} (hd : decode cc pc = .ok (.invokestatic x, 3)) (hl : Cond.methodLink own x mt.1 ∈ Wd) (hv : VW mt none 3) (hvv : Cond.static mt.1 ∈ Wd) (sp : SpV G mt fr lo mc ms [v1, v2, v3] K N I Q) (hR : fr + 1 ≤ R.frames ∧ 8 + (mt.2.2 + 11) + lo ≤ R.locals ∧ cs + mc ≤ R.cells ∧ ss + ms ≤ R.slots ∧ (S.map fun v => v.category).sum ≤ 8) (kk : ∀ K1 N1 I1, Q K1 N1 I1 → (∀ i, i ∈ K → i ∈ K1) → XX G own cc R Fx (pc + 3) L S K1 N1 I1 (cs + mc) (ss + ms)) : XX G own cc R Fx pc L (v3 :: v2 :: v1 :: S) K N I cs ss := by
  obtain ⟨p, e, s, m, args, below, meth, c, Q, nL, a0, K0⟩ := Fx
  intro ok al H locs ls st
  obtain ⟨hx, hb, hml, hown, hts, hE, hA⟩ := id ok
  have okN : okS K [] := fun w hw => nomatch hw
  have hoA : okS K [v1, v2, v3] := by
    have q := st.2.2.2.2.1
    exact (((okN).cons q.head).cons q.tail.head).cons q.tail.tail.head
  refine va_callv (va_runS (As := [gm al v1, gm al v2, gm al v3]) (rest := S.map (gm al)) ⟨hx, hb, hml, hown, hts⟩ (sp al hoA) ⟨callB_of 3 hts (GoodIn.Wd hv.2.1) rfl rfl rfl (hts _ hv.1) (hts _ hl) hv.2.2 ⟨hR.1, hR.2.1⟩, hts _ hvv⟩ ⟨RepW.blind, fun U hU hW => PcW.at (As := [v1, v2, v3]) hE hA st.2.1 st.1 U hU hW⟩ rfl rfl st.2.2.1.1 rfl (lv_room (by rw [cat_gm]; exact hR.2.2.2.2)) hd ⟨hR.2.2.1, hR.2.2.2.1⟩) st.2.1 (fun q _ h => h) (fun q h => h) (fun u t H1 locs1 ht hvm hp hB hz1 hk1 hS1 => ?_)
  obtain ⟨hq, hag⟩ := hp
  have hB : RepW G u.2.2.2 u.1 u.2.1 u.2.2.1 H1 := ht ▸ hB
  obtain ⟨r1, r2⟩ := st.behind hag hB hS1 (fun q => q.tail.tail.tail)
  have k1 := kk u.1 u.2.1 u.2.2.1 hq hag.1 ok u.2.2.2 H1 locs1 ls r1
  rw [r2] at k1
  exact k1
theorem x_cSV4 {x : Nat} {mt : MT} {fr lo mc ms : Nat} {v1 v2 v3 v4 : Value} {Q : List Nat → NN → MM → Prop} (hd : decode cc pc = .ok (.invokestatic x, 3)) (hl : Cond.methodLink own x mt.1 ∈ Wd) (hv : VW mt none 4) (hvv : Cond.static mt.1 ∈ Wd) (sp : SpV G mt fr lo mc ms [v1, v2, v3, v4] K N I Q) (hR : fr + 1 ≤ R.frames ∧ 8 + (mt.2.2 + 11) + lo ≤ R.locals ∧ cs + mc ≤ R.cells ∧ ss + ms ≤ R.slots ∧ (S.map fun v => v.category).sum ≤ 8) (kk : ∀ K1 N1 I1, Q K1 N1 I1 → (∀ i, i ∈ K → i ∈ K1) → XX G own cc R Fx (pc + 3) L S K1 N1 I1 (cs + mc) (ss + ms)) : XX G own cc R Fx pc L (v4 :: v3 :: v2 :: v1 :: S) K N I cs ss := by
  obtain ⟨p, e, s, m, args, below, meth, c, Q, nL, a0, K0⟩ := Fx
  intro ok al H locs ls st
  obtain ⟨hx, hb, hml, hown, hts, hE, hA⟩ := id ok
  have okN : okS K [] := fun w hw => nomatch hw
  have hoA : okS K [v1, v2, v3, v4] := by
    have q := st.2.2.2.2.1
    exact ((((okN).cons q.head).cons q.tail.head).cons q.tail.tail.head).cons q.tail.tail.tail.head
  refine va_callv (va_runS (As := [gm al v1, gm al v2, gm al v3, gm al v4]) (rest := S.map (gm al)) ⟨hx, hb, hml, hown, hts⟩ (sp al hoA) ⟨callB_of 4 hts (GoodIn.Wd hv.2.1) rfl rfl rfl (hts _ hv.1) (hts _ hl) hv.2.2 ⟨hR.1, hR.2.1⟩, hts _ hvv⟩ ⟨RepW.blind, fun U hU hW => PcW.at (As := [v1, v2, v3, v4]) hE hA st.2.1 st.1 U hU hW⟩ rfl rfl st.2.2.1.1 rfl (lv_room (by rw [cat_gm]; exact hR.2.2.2.2)) hd ⟨hR.2.2.1, hR.2.2.2.1⟩) st.2.1 (fun q _ h => h) (fun q h => h) (fun u t H1 locs1 ht hvm hp hB hz1 hk1 hS1 => ?_)
  obtain ⟨hq, hag⟩ := hp
  have hB : RepW G u.2.2.2 u.1 u.2.1 u.2.2.1 H1 := ht ▸ hB
  obtain ⟨r1, r2⟩ := st.behind hag hB hS1 (fun q => q.tail.tail.tail.tail)
  have k1 := kk u.1 u.2.1 u.2.2.1 hq hag.1 ok u.2.2.2 H1 locs1 ls r1
  rw [r2] at k1
  exact k1
theorem x_cSV5 {x : Nat} {mt : MT} {fr lo mc ms : Nat} {v1 v2 v3 v4 v5 : Value} {Q : List Nat → NN → MM → Prop} (hd : decode cc pc = .ok (.invokestatic x, 3)) (hl : Cond.methodLink own x mt.1 ∈ Wd) (hv : VW mt none 5) (hvv : Cond.static mt.1 ∈ Wd) (sp : SpV G mt fr lo mc ms [v1, v2, v3, v4, v5] K N I Q) (hR : fr + 1 ≤ R.frames ∧ 8 + (mt.2.2 + 11) + lo ≤ R.locals ∧ cs + mc ≤ R.cells ∧ ss + ms ≤ R.slots ∧ (S.map fun v => v.category).sum ≤ 8) (kk : ∀ K1 N1 I1, Q K1 N1 I1 → (∀ i, i ∈ K → i ∈ K1) → XX G own cc R Fx (pc + 3) L S K1 N1 I1 (cs + mc) (ss + ms)) : XX G own cc R Fx pc L (v5 :: v4 :: v3 :: v2 :: v1 :: S) K N I cs ss := by
  obtain ⟨p, e, s, m, args, below, meth, c, Q, nL, a0, K0⟩ := Fx
  intro ok al H locs ls st
  obtain ⟨hx, hb, hml, hown, hts, hE, hA⟩ := id ok
  have okN : okS K [] := fun w hw => nomatch hw
  have hoA : okS K [v1, v2, v3, v4, v5] := by
    have q := st.2.2.2.2.1
    exact (((((okN).cons q.head).cons q.tail.head).cons q.tail.tail.head).cons q.tail.tail.tail.head).cons q.tail.tail.tail.tail.head
  refine va_callv (va_runS (As := [gm al v1, gm al v2, gm al v3, gm al v4, gm al v5]) (rest := S.map (gm al)) ⟨hx, hb, hml, hown, hts⟩ (sp al hoA) ⟨callB_of 5 hts (GoodIn.Wd hv.2.1) rfl rfl rfl (hts _ hv.1) (hts _ hl) hv.2.2 ⟨hR.1, hR.2.1⟩, hts _ hvv⟩ ⟨RepW.blind, fun U hU hW => PcW.at (As := [v1, v2, v3, v4, v5]) hE hA st.2.1 st.1 U hU hW⟩ rfl rfl st.2.2.1.1 rfl (lv_room (by rw [cat_gm]; exact hR.2.2.2.2)) hd ⟨hR.2.2.1, hR.2.2.2.1⟩) st.2.1 (fun q _ h => h) (fun q h => h) (fun u t H1 locs1 ht hvm hp hB hz1 hk1 hS1 => ?_)
  obtain ⟨hq, hag⟩ := hp
  have hB : RepW G u.2.2.2 u.1 u.2.1 u.2.2.1 H1 := ht ▸ hB
  obtain ⟨r1, r2⟩ := st.behind hag hB hS1 (fun q => q.tail.tail.tail.tail.tail)
  have k1 := kk u.1 u.2.1 u.2.2.1 hq hag.1 ok u.2.2.2 H1 locs1 ls r1
  rw [r2] at k1
  exact k1
theorem x_cIV0 {x : Nat} {mt : MT} {fr lo mc ms : Nat} {i : Nat} {Q : List Nat → NN → MM → Prop} (hd : decode cc pc = .ok (.invokespecial x, 3)) (hl : Cond.methodLink own x mt.1 ∈ Wd) (hv : VW mt none 0) (hvv : Cond.instanceMethod mt.1 ∈ Wd) (hnm : mt.1.name = "<init>") (sp : SpV G mt fr lo mc ms [.ref i] K N I Q) (hR : fr + 1 ≤ R.frames ∧ 8 + (mt.2.2 + 11) + lo ≤ R.locals ∧ cs + mc ≤ R.cells ∧ ss + ms ≤ R.slots ∧ (S.map fun v => v.category).sum ≤ 8) (kk : ∀ K1 N1 I1, Q K1 N1 I1 → (∀ i, i ∈ K → i ∈ K1) → XX G own cc R Fx (pc + 3) L S K1 N1 I1 (cs + mc) (ss + ms)) : XX G own cc R Fx pc L (.ref i :: S) K N I cs ss := by
  obtain ⟨p, e, s, m, args, below, meth, c, Q, nL, a0, K0⟩ := Fx
  intro ok al H locs ls st
  obtain ⟨hx, hb, hml, hown, hts, hE, hA⟩ := id ok
  have okN : okS K [] := fun w hw => nomatch hw
  have hoA : okS K [.ref i] := by
    have q := st.2.2.2.2.1
    exact (okN).cons q.head
  refine va_callv (va_runI (As := []) (rest := S.map (gm al)) (b := al i) ⟨hx, hb, hml, hown, hts⟩ (sp al hoA) ⟨callB_of 0 hts (GoodIn.Wd hv.2.1) rfl rfl rfl (hts _ hv.1) (hts _ hl) hv.2.2 ⟨hR.1, hR.2.1⟩, hnm, hts _ hvv⟩ ⟨RepW.blind, fun U hU hW => PcW.at (As := [.ref i]) hE hA st.2.1 st.1 U hU hW⟩ rfl rfl st.2.2.1.1 rfl (lv_room (by rw [cat_gm]; exact hR.2.2.2.2)) hd ⟨hR.2.2.1, hR.2.2.2.1⟩) st.2.1 (fun q _ h => h) (fun q h => h) (fun u t H1 locs1 ht hvm hp hB hz1 hk1 hS1 => ?_)
  obtain ⟨hq, hag⟩ := hp
  have hB : RepW G u.2.2.2 u.1 u.2.1 u.2.2.1 H1 := ht ▸ hB
  obtain ⟨r1, r2⟩ := st.behind hag hB hS1 (fun q => q.tail)
  have k1 := kk u.1 u.2.1 u.2.2.1 hq hag.1 ok u.2.2.2 H1 locs1 ls r1
  rw [r2] at k1
  exact k1
theorem x_cIN {x i : Nat} {mt : MT} {fr lo mc ms : Nat} {Q : List Nat → NN → MM → Prop} (hd : decode cc pc = .ok (.invokespecial x, 3)) (hl : Cond.methodLinkNest own x mt.1 RX4 ∈ nests) (hv : VW mt none 0) (hvv : Cond.instanceMethod mt.1 ∈ Wd) (hnm : mt.1.name = "<init>") (sp : SpV G mt fr lo mc ms [.ref i] K N I Q) (hR : fr + 1 ≤ R.frames ∧ 8 + (mt.2.2 + 11) + lo ≤ R.locals ∧ cs + mc ≤ R.cells ∧ ss + ms ≤ R.slots ∧ (S.map fun v => v.category).sum ≤ 8) (kk : ∀ K1 N1 I1, Q K1 N1 I1 → (∀ i, i ∈ K → i ∈ K1) → XX G own cc R Fx (pc + 3) L S K1 N1 I1 (cs + mc) (ss + ms)) : XX G own cc R Fx pc L (.ref i :: S) K N I cs ss := by
  obtain ⟨p, e, s, m, args, below, meth, c, Q, nL, a0, K0⟩ := Fx
  intro ok al H locs ls st
  obtain ⟨hx, hb, hml, hown, hts, hE, hA⟩ := id ok
  have okN : okS K [] := fun w hw => nomatch hw
  have hoA : okS K [.ref i] := okN.cons st.2.2.2.2.1.head
  refine va_callv (va_runIN (As := []) (rest := S.map (gm al)) (b := al i) ⟨hx, hb, hml, hown, hts⟩ (sp al hoA) ⟨va_cnB 0 hts (GoodIn.Wd hv.2.1) rfl rfl rfl (hE.2.2.1 _ hl) (hts _ hv.1) hv.2.2 ⟨hR.1, hR.2.1⟩, hnm, hts _ hvv⟩ ⟨RepW.blind, fun U hU hW => PcW.at (As := [.ref i]) hE hA st.2.1 st.1 U hU hW⟩ rfl rfl st.2.2.1.1 rfl (lv_room (by rw [cat_gm]; exact hR.2.2.2.2)) hd ⟨hR.2.2.1, hR.2.2.2.1⟩) st.2.1 (fun q _ h => h) (fun q h => h) (fun u t H1 locs1 ht hvm hp hB hz1 hk1 hS1 => ?_)
  obtain ⟨hq, hag⟩ := hp
  have hB : RepW G u.2.2.2 u.1 u.2.1 u.2.2.1 H1 := ht ▸ hB
  obtain ⟨r1, r2⟩ := st.behind hag hB hS1 (fun q => q.tail)
  have k1 := kk u.1 u.2.1 u.2.2.1 hq hag.1 ok u.2.2.2 H1 locs1 ls r1
  rw [r2] at k1
  exact k1
end FR
/-- a method's locals as it begins -/
def entL (As : List Value) : List (Option Value) := As.flatMap (fun v => if v.category = 2 then [some v, none] else [some v])
theorem entL_at (al : Nat → Nat) : ∀ (As : List Value) (r : List (Option Value)) (q : List Slot), (∀ (i : Nat) (v : Value), r[i]? = some (some v) → q[i]? = some (Slot.val (gm al v))) → ∀ (i : Nat) (v : Value), (entL As ++ r)[i]? = some (some v) → (lg_sl (As.map (gm al)) ++ q)[i]? = some (Slot.val (gm al v))
  | [], r, q, h, i, v, hv => h i v hv
  | a :: As, r, q, h, i, v, hv => by
    have ih := entL_at al As r q h
    by_cases hc : a.category = 2
    · have e1 : entL (a :: As) ++ r = some a :: none :: (entL As ++ r) := by simp [entL, hc]
      have e2 : lg_sl ((a :: As).map (gm al)) ++ q = Slot.val (gm al a) :: Slot.second :: (lg_sl (As.map (gm al)) ++ q) := by simp [lg_sl, gm_cat, hc]
      rw [e1] at hv
      rw [e2]
      match i, hv with
      | 0, hv => cases hv; rfl
      | 1, hv => cases hv
      | i + 2, hv => exact ih i v hv
    · have e1 : entL (a :: As) ++ r = some a :: (entL As ++ r) := by simp [entL, hc]
      have e2 : lg_sl ((a :: As).map (gm al)) ++ q = Slot.val (gm al a) :: (lg_sl (As.map (gm al)) ++ q) := by simp [lg_sl, gm_cat, hc]
      rw [e1] at hv
      rw [e2]
      match i, hv with
      | 0, hv => cases hv; rfl
      | i + 1, hv => exact ih i v hv
theorem entL_len (al : Nat → Nat) : ∀ As : List Value, (lg_sl (As.map (gm al))).length = (entL As).length
  | [] => rfl
  | a :: As => by
    have ih := entL_len al As
    by_cases hc : a.category = 2
    · simp [lg_sl, entL, gm_cat, hc] at ih ⊢; omega
    · simp [lg_sl, entL, gm_cat, hc] at ih ⊢; omega
theorem entL_ok {K : List Nat} : ∀ (As : List Value) (n : Nat), okS K As → okL K (entL As ++ List.replicate n none)
  | [], n, h => fun i v hv => by
    have := List.mem_of_getElem? hv
    simp [entL] at this
  | a :: As, n, h => fun i v hv => by
    have ih := entL_ok As n h.tail
    by_cases hc : a.category = 2
    · have e1 : entL (a :: As) ++ List.replicate n none = some a :: none :: (entL As ++ List.replicate n none) := by simp [entL, hc]
      rw [e1] at hv
      match i, hv with
      | 0, hv => cases hv; exact h.head
      | 1, hv => cases hv
      | i + 2, hv => exact ih i v hv
    · have e1 : entL (a :: As) ++ List.replicate n none = some a :: (entL As ++ List.replicate n none) := by simp [entL, hc]
      rw [e1] at hv
      match i, hv with
      | 0, hv => cases hv; exact h.head
      | i + 1, hv => exact ih i v hv
theorem LocW.entry {al : Nat → Nat} {As : List Value} {n : Nat} (h : (entL As).length ≤ n) : LocW al n ((lg_sl (As.map (gm al)) ++ List.replicate (n - (lg_sl (As.map (gm al))).length) Slot.unset).toArray) (entL As ++ List.replicate (n - (entL As).length) none) := by
  have hl := lv_entry (As.map (gm al)) (n := n) (by rw [entL_len]; exact h)
  refine ⟨hl.1, hl.2.1, by simp; omega, fun i v hv => ?_⟩
  have := entL_at al As (List.replicate (n - (entL As).length) none) (List.replicate (n - (lg_sl (As.map (gm al))).length) Slot.unset) (fun i v hv => by
    have := List.mem_of_getElem? hv
    simp at this) i v hv
  simpa using this

theorem SpI.of {G : GT} {mt : MT} {ty : FieldType} {fr lo mc ms : Nat} {As : List Value} {K : List Nat} {N : NN} {I : MM} {Q : Int → List Nat → NN → MM → Prop} {own : String} {cc : ByteArray} {L : List (Option Value)} (hy : plainName mt.1.cls = true) (ho : mt.1.cls = own) (hc : mt.2.1 = cc) (hlen : (entL As).length ≤ mt.2.2) (hL : entL As ++ List.replicate (mt.2.2 - (entL As).length) none = L)
    (body : ∀ Fx : FxT, Fx.2.2.2.2.2.2.1.name = mt.1.name → (∀ pc L z K1 N1 I1, decode cc pc = .ok (.ireturn, 1) → narrow ty (vi z) = vi z → Q z K1 N1 I1 → XX G own cc (RmW fr lo mc ms) Fx pc L [vi z] K1 N1 I1 mc ms) → XX G own cc (RmW fr lo mc ms) Fx 0 L [] K N I 0 0) : SpI G mt ty fr lo mc ms As K N I Q := by
  intro al hoA
  subst ho; subst hc; subst hL
  refine Met.ofW (cc := mt.2.1) (maxL := mt.2.2) (ret := (some ty)) hy rfl ?_
  intro p e s m args below meth c s₁ B hml hv
  obtain ⟨rfl, hE, hA, hR⟩ := hv
  have hx := B.exec
  have hr := B.returns
  have hts := atoms_spec (ws := Cond.code mt.1 mt.2.1 mt.2.2 (some ty) :: Wd) B.pre
  have hown : s.vm.findClass mt.1.cls = some m.cls := findClass_of_methodNamed B.named
  have hlocks := B.notSynchronized
  have hnm : meth.name = mt.1.name := (name_of_methodNamed B.named B.method).1
  rw [lg_entry_eq]
  have hok : OkW G mt.1.cls mt.2.1 (p, e, s, m, (As.map (gm al)).toArray, below, meth, c, MQ below (QiW G al K Q) (As.map (gm al)).toArray s mc ms (Ab G), mt.2.2, al, K) := ⟨hx, B.bytes, hml, hown, fun w hw => hts w (List.mem_cons_of_mem _ hw), hE, hA⟩
  refine body (p, e, s, m, (As.map (gm al)).toArray, below, meth, c, MQ below (QiW G al K Q) (As.map (gm al)).toArray s mc ms (Ab G), mt.2.2, al, K) hnm ?_ hok al s.heap [] _ ⟨hR, va_S.rf, LocW.entry hlen, entL_ok As _ hoA, fun v hv => (nomatch hv), fun _ _ => rfl, fun _ h => h⟩
  · clear hok
    intro pc L z K1 N1 I1 hd hn hq ok al1 H locs ls st
    exact W.zret hx ok.2.1 hr hn (fun t ht hW => ⟨⟨Int32.ofInt z, (K1, N1, I1, al1), rfl, ⟨⟨z, rfl, hq⟩, st.2.2.2.2.2.2, st.2.2.2.2.2.1⟩, by show RepW G al1 K1 N1 I1 t.heap; rw [ht]; exact st.1⟩, st.2.1.F ht⟩) st.2.1.2.2 hd hlocks
theorem SpL.of {G : GT} {mt : MT} {fr lo mc ms : Nat} {As : List Value} {K : List Nat} {N : NN} {I : MM} {Q : Int → List Nat → NN → MM → Prop} {own : String} {cc : ByteArray} {L : List (Option Value)} (hy : plainName mt.1.cls = true) (ho : mt.1.cls = own) (hc : mt.2.1 = cc) (hlen : (entL As).length ≤ mt.2.2) (hL : entL As ++ List.replicate (mt.2.2 - (entL As).length) none = L)
    (body : ∀ Fx : FxT, Fx.2.2.2.2.2.2.1.name = mt.1.name → (∀ pc L z K1 N1 I1, decode cc pc = .ok (.lreturn, 1) → Q z K1 N1 I1 → XX G own cc (RmW fr lo mc ms) Fx pc L [vl z] K1 N1 I1 mc ms) → XX G own cc (RmW fr lo mc ms) Fx 0 L [] K N I 0 0) : SpL G mt .long fr lo mc ms As K N I Q := by
  intro al hoA
  subst ho; subst hc; subst hL
  refine Met.ofW (cc := mt.2.1) (maxL := mt.2.2) (ret := (some .long)) hy rfl ?_
  intro p e s m args below meth c s₁ B hml hv
  obtain ⟨rfl, hE, hA, hR⟩ := hv
  have hx := B.exec
  have hr := B.returns
  have hts := atoms_spec (ws := Cond.code mt.1 mt.2.1 mt.2.2 (some .long) :: Wd) B.pre
  have hown : s.vm.findClass mt.1.cls = some m.cls := findClass_of_methodNamed B.named
  have hlocks := B.notSynchronized
  have hnm : meth.name = mt.1.name := (name_of_methodNamed B.named B.method).1
  rw [lg_entry_eq]
  have hok : OkW G mt.1.cls mt.2.1 (p, e, s, m, (As.map (gm al)).toArray, below, meth, c, MQ below (QlW G al K Q) (As.map (gm al)).toArray s mc ms (Ab G), mt.2.2, al, K) := ⟨hx, B.bytes, hml, hown, fun w hw => hts w (List.mem_cons_of_mem _ hw), hE, hA⟩
  refine body (p, e, s, m, (As.map (gm al)).toArray, below, meth, c, MQ below (QlW G al K Q) (As.map (gm al)).toArray s mc ms (Ab G), mt.2.2, al, K) hnm ?_ hok al s.heap [] _ ⟨hR, va_S.rf, LocW.entry hlen, entL_ok As _ hoA, fun v hv => (nomatch hv), fun _ _ => rfl, fun _ h => h⟩
  · clear hok
    intro pc L z K1 N1 I1 hd hq ok al1 H locs ls st
    exact W.lret hx ok.2.1 hr (fun t ht hW => ⟨⟨Int64.ofInt z, (K1, N1, I1, al1), rfl, ⟨⟨z, rfl, hq⟩, st.2.2.2.2.2.2, st.2.2.2.2.2.1⟩, by show RepW G al1 K1 N1 I1 t.heap; rw [ht]; exact st.1⟩, st.2.1.F ht⟩) st.2.1.2.2 hd hlocks
theorem SpV.of {G : GT} {mt : MT} {fr lo mc ms : Nat} {As : List Value} {K : List Nat} {N : NN} {I : MM} {Q : List Nat → NN → MM → Prop} {own : String} {cc : ByteArray} {L : List (Option Value)} (hy : plainName mt.1.cls = true) (ho : mt.1.cls = own) (hc : mt.2.1 = cc) (hlen : (entL As).length ≤ mt.2.2) (hL : entL As ++ List.replicate (mt.2.2 - (entL As).length) none = L)
    (body : ∀ Fx : FxT, Fx.2.2.2.2.2.2.1.name = mt.1.name → (∀ pc L K1 N1 I1, decode cc pc = .ok (.return_, 1) → Q K1 N1 I1 → XX G own cc (RmW fr lo mc ms) Fx pc L [] K1 N1 I1 mc ms) → XX G own cc (RmW fr lo mc ms) Fx 0 L [] K N I 0 0) : SpV G mt fr lo mc ms As K N I Q := by
  intro al hoA
  subst ho; subst hc; subst hL
  refine Met.ofW (cc := mt.2.1) (maxL := mt.2.2) (ret := none) hy rfl ?_
  intro p e s m args below meth c s₁ B hml hv
  obtain ⟨rfl, hE, hA, hR⟩ := hv
  have hx := B.exec
  have hr := B.returns
  have hts := atoms_spec (ws := Cond.code mt.1 mt.2.1 mt.2.2 none :: Wd) B.pre
  have hown : s.vm.findClass mt.1.cls = some m.cls := findClass_of_methodNamed B.named
  have hlocks := B.notSynchronized
  have hnm : meth.name = mt.1.name := (name_of_methodNamed B.named B.method).1
  rw [lg_entry_eq]
  have hok : OkW G mt.1.cls mt.2.1 (p, e, s, m, (As.map (gm al)).toArray, below, meth, c, MQ below (QvW G al K Q) (As.map (gm al)).toArray s mc ms (Ab G), mt.2.2, al, K) := ⟨hx, B.bytes, hml, hown, fun w hw => hts w (List.mem_cons_of_mem _ hw), hE, hA⟩
  refine body (p, e, s, m, (As.map (gm al)).toArray, below, meth, c, MQ below (QvW G al K Q) (As.map (gm al)).toArray s mc ms (Ab G), mt.2.2, al, K) hnm ?_ hok al s.heap [] _ ⟨hR, va_S.rf, LocW.entry hlen, entL_ok As _ hoA, fun v hv => (nomatch hv), fun _ _ => rfl, fun _ h => h⟩
  · clear hok
    intro pc L K1 N1 I1 hd hq ok al1 H locs ls st
    exact W.vret hx ok.2.1 hr (fun t ht hW => ⟨⟨(K1, N1, I1, al1), rfl, ⟨hq, st.2.2.2.2.2.2, st.2.2.2.2.2.1⟩, by show RepW G al1 K1 N1 I1 t.heap; rw [ht]; exact st.1⟩, st.2.1.F ht⟩) st.2.1.2.2 hd hlocks

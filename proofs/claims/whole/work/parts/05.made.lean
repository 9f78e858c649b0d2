/-! ===== statics, what is made, calls, contracts ===== -/
theorem gm_agree {K : List Nat} {al al' : Nat → Nat} (ha : ∀ j, (j ∈ K ∨ 70 ≤ j) → al' j = al j) {v : Value} (h : okv K v) : gm al' v = gm al v := by
  cases v <;> first | rfl | (show Value.ref (al' _) = Value.ref (al _); rw [ha _ h])
theorem gmS_agree {K : List Nat} {al al' : Nat → Nat} (ha : ∀ j, (j ∈ K ∨ 70 ≤ j) → al' j = al j) {S : List Value} (h : okS K S) : S.map (gm al') = S.map (gm al) := List.map_congr_left fun v hv => gm_agree ha (h v hv)
theorem LocW.agree {K : List Nat} {al al' : Nat → Nat} {nL : Nat} {ls : Array Slot} {L : List (Option Value)} (ha : ∀ j, (j ∈ K ∨ 70 ≤ j) → al' j = al j) (h : LocW al nL ls L) (hl : okL K L) : LocW al' nL ls L := ⟨h.1, h.2.1, h.2.2.1, fun i v hv => by rw [gm_agree ha (hl i v hv)]; exact h.2.2.2 i v hv⟩
theorem okv.mono {K K' : List Nat} (hK : ∀ i, i ∈ K → i ∈ K') {v : Value} (h : okv K v) : okv K' v := by
  cases v with
  | ref i => exact h.elim (fun z => Or.inl (hK i z)) Or.inr
  | _ => trivial
theorem okS.mono {K K' : List Nat} (hK : ∀ i, i ∈ K → i ∈ K') {S : List Value} (h : okS K S) : okS K' S := fun v hv => (h v hv).mono hK
theorem okL.mono {K K' : List Nat} (hK : ∀ i, i ∈ K → i ∈ K') {L : List (Option Value)} (h : okL K L) : okL K' L := fun i v hv => (h i v hv).mono hK
theorem cat_gm {al : Nat → Nat} {S : List Value} : ((S.map (gm al)).map fun v => v.category).sum = (S.map fun v => v.category).sum := by
  rw [List.map_map]; congr 1; apply List.map_congr_left; intro v _; exact gm_cat al v
/-- a cell made: everything that stood stays -/
theorem wl_new {G : GT} {al : Nat → Nat} {K : List Nat} {N : NN} {I : MM} {H : Heap} {i q : Nat} (h : RepW G al K N I H) (hi : i ∉ K) : wl G.2.1 (fun j => if j = i then q else al j) (K ++ [i]) (nwN N i) (nwI I i) = wl G.2.1 al K N I ++ [(q, ent G.2.1 (fun j => if j = i then q else al j) (nwN N i) (nwI I i) i)] := by
  simp only [wl, List.map_append, List.map_cons, List.map_nil, if_true]
  congr 1
  apply List.map_congr_left
  intro j hj
  have hji : j ≠ i := fun e => hi (e ▸ hj)
  rw [if_neg hji]
  congr 1
  have e1 : ia (nwI I i) j = ia I j := by funext b; simp [ia, nwI, hji]
  have hc := h.2.2.2.2 j hj
  have e2 : rq (fun j => if j = i then q else al j) (nwN N i) j = rq al N j := by
    funext b
    have e0 : nwN N i j b = N j b := by simp [nwN, hji]
    simp only [rq, e0]
    cases ht : tg j b with
    | none => rfl
    | some t =>
      cases hn : N j b with
      | true => rfl
      | false =>
        have htK := hc b t ht hn
        have : t ≠ i := fun e => hi (e ▸ htK)
        simp [this]
  have e3 : sv (fun j => if j = i then q else al j) (nwN N i) (nwI I i) j = sv al N I j := by
    funext b
    have e0 : nwN N i j b = N j b := by simp [nwN, hji]
    have e4 : nwI I i j b = I j b := by simp [nwI, hji]
    simp only [sv, e0, e4]
    cases ht : tg j b with
    | none => rfl
    | some t =>
      cases hn : N j b with
      | true => rfl
      | false =>
        have htK := hc b t ht hn
        have : t ≠ i := fun e => hi (e ▸ htK)
        simp [this]
  unfold ent
  rw [e1, e2, e3]
theorem StW.made {G : GT} {a0 : Nat → Nat} {K0 : List Nat} {nL : Nat} {s : State} {al : Nat → Nat} {H H1 : Heap} {locs : List Loc} {ls : Array Slot} {L : List (Option Value)} {S S' : List Value} {K : List Nat} {N : NN} {I : MM} {i q : Nat} (h : StW G a0 K0 nL s al H locs ls L S K N I) (hi : i ∉ K) (h70 : i < 70) (hS' : okS K S → okS K S')
    (h1 : va_P G.1 classes (wl G.2.1 al K N I ++ [(q, ent G.2.1 (fun j => if j = i then q else al j) (nwN N i) (nwI I i) i)]) H1) (h2 : va_D (Ab G) (wl G.2.1 al K N I ++ [(q, ent G.2.1 (fun j => if j = i then q else al j) (nwN N i) (nwI I i) i)])) (h3 : va_S (Ab G) s.heap H1 locs) :
    StW G a0 K0 nL s (fun j => if j = i then q else al j) H1 locs ls L (.ref i :: S') (K ++ [i]) (nwN N i) (nwI I i) ∧ S'.map (gm (fun j => if j = i then q else al j)) = S'.map (gm al) := by
  have ha : ∀ j, (j ∈ K ∨ 70 ≤ j) → (fun j => if j = i then q else al j) j = al j := fun j hj => by
    have : j ≠ i := by
      rcases hj with hj | hj
      · exact fun e => hi (e ▸ hj)
      · omega
    simp [this]
  have hKK : ∀ j, j ∈ K → j ∈ K ++ [i] := fun j hj => List.mem_append_left _ hj
  have hS2 := hS' h.2.2.2.2.1
  have e := wl_new (q := q) h.1 hi
  refine ⟨⟨⟨e ▸ h1, e ▸ h2, fun k => by rw [ha _ (Or.inr (by omega))]; exact h.1.2.2.1 k, fun j hj => ?_, fun j hj k t ht hn => ?_⟩, h3, h.2.2.1.agree ha h.2.2.2.1, h.2.2.2.1.mono hKK, (hS2.mono hKK).cons (Or.inl (by simp)), fun j hj => ?_, fun j hj => hKK j (h.2.2.2.2.2.2 j hj)⟩, gmS_agree ha hS2⟩
  · rcases List.mem_append.mp hj with hj | hj
    · exact h.1.2.2.2.1 j hj
    · rw [List.mem_singleton.mp hj]; exact h70
  · rcases List.mem_append.mp hj with hj | hj
    · have hji : j ≠ i := fun e => hi (e ▸ hj)
      exact hKK t (h.1.2.2.2.2 j hj k t ht (by simpa [nwN, hji] using hn))
    · rw [List.mem_singleton.mp hj] at hn ht
      simp [nwN, ht] at hn
  · rw [ha j (hj.imp (fun z => h.2.2.2.2.2.2 j z) id)]
    exact h.2.2.2.2.2.1 j hj
section FR
variable {G : GT} {own : String} {cc : ByteArray} {R : Room} {Fx : FxT} {pc : Nat} {L : List (Option Value)} {S : List Value} {K : List Nat} {N : NN} {I : MM} {cs ss : Nat}

theorem x_gets {x i k : Nat} (hd : decode cc pc = .ok (.getstatic x, 3)) (hl : Cond.fieldLink own x RX4 (stn k) "[I" ∈ Wd) (hk : k < 5) (hi : 70 + k = i) (h : XX G own cc R Fx (pc + 3) L (.ref i :: S) K N I cs ss) : XX G own cc R Fx pc L S K N I cs ss := by
  obtain ⟨p, e, s, m, args, below, meth, c, Q, nL, a0, K0⟩ := Fx
  intro ok al H locs ls st
  obtain ⟨hx, hb, hml, hown, hts, hE, hA⟩ := id ok
  subst hi
  have k1 := h ok al H locs ls (st.to (fun q => q.cons (Or.inr (Nat.le_add_right 70 k))))
  exact va_gets hx hb (hE.2.1 k hk).1 st.2.1 hown (hts _ hl) (fun _ z => z) hd (by rw [← st.1.2.2.1 k]; exact k1)
theorem x_getsN {x i k : Nat} (hd : decode cc pc = .ok (.getstatic x, 3)) (hl : Cond.fieldLinkNest own x RX4 (stn k) "[I" RX4 ∈ nests) (hk : k < 5) (hi : 70 + k = i) (h : XX G own cc R Fx (pc + 3) L (.ref i :: S) K N I cs ss) : XX G own cc R Fx pc L S K N I cs ss := by
  obtain ⟨p, e, s, m, args, below, meth, c, Q, nL, a0, K0⟩ := Fx
  intro ok al H locs ls st
  obtain ⟨hx, hb, hml, hown, hts, hE, hA⟩ := id ok
  subst hi
  have k1 := h ok al H locs ls (st.to (fun q => q.cons (Or.inr (Nat.le_add_right 70 k))))
  exact va_getsN hx hb (hE.2.1 k hk).1 st.2.1 hown (va_Nw.use rfl (hE.2.2.1 _ hl)) (fun _ z => z) hd (by rw [← st.1.2.2.1 k]; exact k1)
theorem x_sald {i k : Nat} {z : Int} (j : Nat) (hd : decode cc pc = .ok (.iaload, 1)) (hk : k < 5) (hi : 70 + k = i) (hz : z = (j : Int)) (hj : j < (stl k).length) (h : XX G own cc R Fx (pc + 1) L (vi ((stl k).getD j 0) :: S) K N I cs ss) : XX G own cc R Fx pc L (vi z :: .ref i :: S) K N I cs ss := by
  obtain ⟨p, e, s, m, args, below, meth, c, Q, nL, a0, K0⟩ := Fx
  intro ok al H locs ls st
  obtain ⟨hx, hb, hml, hown, hts, hE, hA⟩ := id ok
  subst hz; subst hi
  have l5 : (stl k).length < 8 := by
    rcases (by omega : k = 0 ∨ k = 1 ∨ k = 2 ∨ k = 3 ∨ k = 4) with rfl | rfl | rfl | rfl | rfl <;> decide
  have k1 := h ok al H locs ls (st.to (fun q => q.tail.tail.cons trivial))
  have e : (F0 m pc ls (List.map (gm al) (vi j :: .ref (70 + k) :: S))) = F0 m pc ls (.int (Int32.ofInt j) :: .ref (G.2.2.1 k) :: S.map (gm al)) := by rw [← st.1.2.2.1 k]; rfl
  rw [e]
  refine va_ti hx hb (hE.2.1 k hk).2 st.2.1 (oi_in hj (by omega)) rfl hd ?_
  rw [oi_clamp (by omega)]
  exact k1
theorem x_slen {i k : Nat} (hd : decode cc pc = .ok (.arraylength, 1)) (hk : k < 5) (hi : 70 + k = i) (h : XX G own cc R Fx (pc + 1) L (vi (stl k).length :: S) K N I cs ss) : XX G own cc R Fx pc L (.ref i :: S) K N I cs ss := by
  obtain ⟨p, e, s, m, args, below, meth, c, Q, nL, a0, K0⟩ := Fx
  intro ok al H locs ls st
  obtain ⟨hx, hb, hml, hown, hts, hE, hA⟩ := id ok
  subst hi
  have k1 := h ok al H locs ls (st.to (fun q => q.tail.cons trivial))
  have e : (F0 m pc ls (List.map (gm al) (.ref (70 + k) :: S))) = F0 m pc ls (.ref (G.2.2.1 k) :: S.map (gm al)) := by rw [← st.1.2.2.1 k]; rfl
  rw [e]
  exact va_tlen hx hb (hE.2.1 k hk).2 st.2.1 Int32.ofInt_eq_ofNat.symm hd k1
theorem x_objInit {x i : Nat} (hd : decode cc pc = .ok (.invokespecial x, 3)) (hl : Cond.methodLink own x objectInit ∈ Wd) (hn1 : Cond.instanceMethod objectInit ∈ Wd) (hn2 : Cond.code objectInit ⟨#[0xb1]⟩ 1 none ∈ Wd) (hR : 1 ≤ R.frames ∧ (S.map fun v => v.category).sum + 12 ≤ R.locals) (h : XX G own cc R Fx (pc + 3) L S K N I cs ss) : XX G own cc R Fx pc L (.ref i :: S) K N I cs ss := by
  obtain ⟨p, e, s, m, args, below, meth, c, Q, nL, a0, K0⟩ := Fx
  intro ok al H locs ls st
  obtain ⟨hx, hb, hml, hown, hts, hE, hA⟩ := id ok
  have k1 := h ok al H locs ls (st.to (fun q => q.tail))
  exact W.objInit hx hb hown (hts _ hl) (hts _ hn1) (hts _ hn2) rfl (by rw [hml]; exact st.2.2.1.1) rfl hd hR.1 (by show 2 * 0 + _ + 12 ≤ _; rw [cat_gm]; omega) k1
theorem oi_max {a b : Int} (ha : inr a) (hz : inr b) : (if Int32.ofInt a < Int32.ofInt b then Int32.ofInt b else Int32.ofInt a) = Int32.ofInt (max a b) := by
  by_cases q : a < b
  · rw [if_pos ((oi_lt ha hz).mpr q)]; congr 1; omega
  · rw [if_neg (fun z => q ((oi_lt ha hz).mp z))]; congr 1; omega
theorem oi_min {a b : Int} (ha : inr a) (hz : inr b) : (if Int32.ofInt b < Int32.ofInt a then Int32.ofInt b else Int32.ofInt a) = Int32.ofInt (min a b) := by
  by_cases q : b < a
  · rw [if_pos ((oi_lt hz ha).mpr q)]; congr 1; omega
  · rw [if_neg (fun z => q ((oi_lt hz ha).mp z))]; congr 1; omega
theorem x_max {x : Nat} {a b : Int} (hd : decode cc pc = .ok (.invokestatic x, 3)) (hl : Cond.methodLink own x Lib.Math.max.name ∈ Wd) (hn1 : Cond.static Lib.Math.max.name ∈ Wd) (hn2 : Cond.initialized "java/lang/Math" ∈ Wd) (hn3 : Cond.code Lib.Math.max.name Lib.Math.max.code 2 (some .int) ∈ Wd) (ha : inr a) (hz : inr b) (hR : 1 ≤ R.frames ∧ (S.map fun v => v.category).sum + 13 ≤ R.locals ∧ cs ≤ R.cells ∧ ss ≤ R.slots) (h : XX G own cc R Fx (pc + 3) L (vi (max a b) :: S) K N I cs ss) : XX G own cc R Fx pc L (vi b :: vi a :: S) K N I cs ss := by
  obtain ⟨p, e, s, m, args, below, meth, c, Q, nL, a0, K0⟩ := Fx
  intro ok al H locs ls st
  obtain ⟨hx, hb, hml, hown, hts, hE, hA⟩ := id ok
  have k1 := h ok al H locs ls (st.to (fun q => q.tail.tail.cons trivial))
  exact va_mmax hx hb (hml.trans st.2.2.1.1.symm) hown (hts _ hl) (hts _ hn1) (hts _ hn2) (hts _ hn3) hR.1 (by rw [cat_gm]; exact hR.2.1) hR.2.2.1 hR.2.2.2 hd (by rw [oi_max ha hz]; exact k1)
theorem x_min {x : Nat} {a b : Int} (hd : decode cc pc = .ok (.invokestatic x, 3)) (hl : Cond.methodLink own x Lib.Math.min.name ∈ Wd) (hn1 : Cond.static Lib.Math.min.name ∈ Wd) (hn2 : Cond.initialized "java/lang/Math" ∈ Wd) (hn3 : Cond.code Lib.Math.min.name Lib.Math.min.code 2 (some .int) ∈ Wd) (ha : inr a) (hz : inr b) (hR : 1 ≤ R.frames ∧ (S.map fun v => v.category).sum + 13 ≤ R.locals ∧ cs ≤ R.cells ∧ ss ≤ R.slots) (h : XX G own cc R Fx (pc + 3) L (vi (min a b) :: S) K N I cs ss) : XX G own cc R Fx pc L (vi b :: vi a :: S) K N I cs ss := by
  obtain ⟨p, e, s, m, args, below, meth, c, Q, nL, a0, K0⟩ := Fx
  intro ok al H locs ls st
  obtain ⟨hx, hb, hml, hown, hts, hE, hA⟩ := id ok
  have k1 := h ok al H locs ls (st.to (fun q => q.tail.tail.cons trivial))
  exact va_mmin hx hb (hml.trans st.2.2.1.1.symm) hown (hts _ hl) (hts _ hn1) (hts _ hn2) (hts _ hn3) hR.1 (by rw [cat_gm]; exact hR.2.1) hR.2.2.1 hR.2.2.2 hd (by rw [oi_min ha hz]; exact k1)
theorem x_acpyS {x i j k : Nat} {zs zd zn : Int} (sp dp n : Nat) (hd : decode cc pc = .ok (.invokestatic x, 3)) (hl : Cond.methodLink own x arraycopyName ∈ Wd) (hn1 : Cond.native arraycopyName ∈ Wd) (hn2 : Cond.static arraycopyName ∈ Wd) (hn3 : Cond.initialized "java/lang/System" ∈ Wd) (hk : k < 5) (hi : 70 + k = i) (hj : kd j = 10) (e1 : zs = (sp : Int)) (e2 : zd = (dp : Int)) (e3 : zn = (n : Int)) (b1 : sp + n ≤ (stl k).length) (b2 : dp + n ≤ ln j) (hR : 1 ≤ R.frames ∧ (S.map fun v => v.category).sum + (nativeFrameWords "java/lang/System" "arraycopy" 5 + 11) ≤ R.locals) (h : XX G own cc R Fx (pc + 3) L S K N (fun a b => if a = j ∧ dp ≤ b ∧ b < dp + n then (stl k).getD (sp + (b - dp)) 0 else I a b) cs ss) : XX G own cc R Fx pc L (vi zn :: vi zd :: .ref j :: vi zs :: .ref i :: S) K N I cs ss := by
  obtain ⟨p, e, s, m, args, below, meth, c, Q, nL, a0, K0⟩ := Fx
  intro ok al H locs ls st
  obtain ⟨hx, hb, hml, hown, hts, hE, hA⟩ := id ok
  subst e1; subst e2; subst e3; subst hi
  have l5 : (stl k).length < 8 := by
    rcases (by omega : k = 0 ∨ k = 1 ∨ k = 2 ∨ k = 3 ∨ k = 4) with rfl | rfl | rfl | rfl | rfl <;> decide
  have hjK : j ∈ K := st.2.2.2.2.1.tail.tail.head.mem (by omega)
  have l2 := ln_lt j
  obtain ⟨q1, hq1⟩ := List.getElem?_of_mem hjK
  have nz : ∀ a : Nat, a < 1000 → ¬ Int32.ofInt (a : Int) < 0 := fun a ha q => by
    rw [← oi_0, oi_lt (by unfold inr; omega) inr0] at q; omega
  have ti : ∀ a : Nat, a < 1000 → (Int32.ofInt (a : Int)).toInt = (a : Int) := fun a ha => oi_toInt (by unfold inr; omega)
  have es : (F0 m pc ls (List.map (gm al) (vi n :: vi dp :: .ref j :: vi sp :: .ref (70 + k) :: S))) = F0 m pc ls (.int (Int32.ofInt n) :: .int (Int32.ofInt dp) :: .ref (al j) :: .int (Int32.ofInt sp) :: .ref (G.2.2.1 k) :: S.map (gm al)) := by rw [← st.1.2.2.1 k]; rfl
  rw [es]
  obtain ⟨cell, c1, c2, c3, c4, c5, c6, c7⟩ := (hE.2.1 k hk).2
  have hc0 : H[G.2.2.1 k]? = some cell := by rw [st.2.1.2.1 _ (Array.getElem?_eq_some_iff.mp c1).1 c7]; exact c1
  have ha1 : (wl G.2.1 al K N I)[q1]? = some (al j, .inl (G.2.1 0, ln j, .inl (ia I j))) := by rw [wl_at hq1, ent_int hj]
  have hc1 : H[al j]? = some (vp_cell (G.2.1 0) (ln j, .inl (ia I j))) := st.1.1 q1 _ ha1
  obtain ⟨hs6, k0, hk0, cm0, hkk0⟩ := c2
  obtain ⟨-, k1, hk1, cm1, hkk1⟩ := (hE.1.2 0 _ rfl).1 (ln j) (fun b => .int (ia I j b))
  intro T hT X
  obtain ⟨vm', X', step⟩ := X.arraycopy hx hown (hts _ hl) (hts _ hn1) (hts _ hn2) (hts _ hn3) (src := G.2.2.1 k) (dst := al j) (cs := cell) (cd := vp_cell (G.2.1 0) (ln j, .inl (ia I j))) (srcPos := Int32.ofInt sp) (destPos := Int32.ofInt dp) (n := Int32.ofInt n) (by rw [hT]; exact hc0) (by rw [hT]; exact hc1)
    hs6 (fun _ h => by cases h) c3 (fun h => by cases h) hk0 hk1 hkk0 hkk1 (by simp [refKind]) (nz sp (by omega)) (nz dp (by omega)) (nz n (by omega))
    (by rw [ti sp (by omega), ti n (by omega)]; omega)
    (by rw [ti dp (by omega), ti n (by omega)]; show ¬ _ > ((arrV (G.2.1 0) (ln j) (fun b => .int (ia I j b))).slots.size : Int); rw [arrV_size]; omega)
    (fun vm₁ _ a ha => by
      rw [oi_clamp (by omega)] at ha
      have e : cell.slots.getD ((Int32.ofInt (sp : Int)).toNatClampNeg + a) .null = vi ((stl k).getD (sp + a) 0) := by
        rw [oi_clamp (by omega), Array.getD_eq_getD_getElem?, c6 _ (by omega)]
        rfl
      rw [e]
      exact ⟨rfl, trivial⟩)
    (g := F0 m pc ls (.int (Int32.ofInt n) :: .int (Int32.ofInt dp) :: .ref (al j) :: .int (Int32.ofInt sp) :: .ref (G.2.2.1 k) :: S.map (gm al))) rfl (by rw [hml]; exact st.2.2.1.1) (rest := S.map (gm al)) rfl (by rw [hb]; exact hd) hR.1 (by show 2 * 0 + _ + _ ≤ _; rw [cat_gm]; omega)
  have e1 : copied cell (vp_cell (G.2.1 0) (ln j, .inl (ia I j))) (Int32.ofInt sp) (Int32.ofInt dp) (Int32.ofInt n) = vp_cell (G.2.1 0) (ln j, .inl (va_cpy (fun b => Int32.ofInt ((stl k).getD b 0)) (ia I j) (Int32.ofInt (sp : Int)).toNatClampNeg (Int32.ofInt (dp : Int)).toNatClampNeg (Int32.ofInt (n : Int)).toNatClampNeg)) := va_copiedX (fun z => .int z) cell (G.2.1 0) (fun b => Int32.ofInt ((stl k).getD b 0)) (ia I j) c6 (by rw [oi_clamp (by omega), oi_clamp (by omega)]; exact b1)
  rw [e1, oi_clamp (by omega), oi_clamp (by omega), oi_clamp (by omega)] at X' step
  generalize hI' : (fun a b => if a = j ∧ dp ≤ b ∧ b < dp + n then (stl k).getD (sp + (b - dp)) 0 else I a b : MM) = I' at h
  have e2 : va_cpy (fun b => Int32.ofInt ((stl k).getD b 0)) (ia I j) sp dp n = ia I' j := by
    funext b
    rw [← hI']
    by_cases e : dp ≤ b ∧ b < dp + n <;> simp [ia, va_cpy, e]
  rw [e2] at X' step
  have hl' : al j < H.size := (Array.getElem?_eq_some_iff.mp hc1).1
  have hheap : ((T.setVm vm').setCell (al j) (vp_cell (G.2.1 0) (ln j, .inl (ia I' j)))).heap = H.setIfInBounds (al j) (vp_cell (G.2.1 0) (ln j, .inl (ia I' j))) := by rw [← hT]; rfl
  have oq : ∀ q : Nat, q ≠ al j → (H.setIfInBounds (al j) (vp_cell (G.2.1 0) (ln j, .inl (ia I' j))))[q]? = H[q]? := fun q hq => by simp [Array.getElem?_setIfInBounds, Ne.symm hq]
  have e3 : (wl G.2.1 al K N I).set q1 (al j, .inl (G.2.1 0, ln j, .inl (ia I' j))) = wl G.2.1 al K N I' := wl_set st.1.2.1 hq1 (by rw [ent_int hj]) (fun a ha => ent_congr (fun b => by rw [← hI']; simp [ha]) (fun b => rfl))
  have hAj : Ab G (al j) := st.1.2.1.2 q1 _ ha1
  have g1 := st.1.1.set st.1.2.1 ha1 (e := .inl (G.2.1 0, ln j, .inl (ia I' j))) (show (H.setIfInBounds (al j) _)[al j]? = some _ by simp [Array.getElem?_setIfInBounds, hl']) oq
  have g2 := st.1.2.1.set ha1 (e := .inl (G.2.1 0, ln j, .inl (ia I' j)))
  rw [e3] at g1 g2
  obtain ⟨t, a1, b1⟩ := h ok al _ _ ls ⟨st.1.put g1 g2 st.1.2.2.2.2, ⟨by simp; exact st.2.1.1, fun q g1 g2 => by
      rw [oq q (fun e => g2 (by rw [e]; exact hAj))]
      exact st.2.1.2.1 q g1 g2, fun q hq => by
      rcases List.mem_append.mp hq with h | h
      · exact st.2.1.2.2 q h
      · obtain ⟨z, -, hz⟩ := List.mem_map.mp h
        rw [← hz]
        exact hAj⟩, st.2.2.1, st.2.2.2.1, st.2.2.2.2.1.tail.tail.tail.tail.tail, st.2.2.2.2.2⟩ _ hheap X'
  exact ⟨t, step t a1, b1⟩
theorem x_new {x i ci : Nat} {C : String} {T : u_T} {Nn : Nat} {ty : Nat → FieldType} (hd : decode cc pc = .ok (.new x, 3)) (hci : CI ci C T Nn ty) (hl : Cond.classLink own x C ∈ Wd) (hn1 : Cond.instantiable C Nn ∈ Wd) (hn2 : Cond.initialized C ∈ Wd) (hk : kd i = ci) (hiK : i ∉ K) (h70 : i < 70) (hdv : ∀ j, j < Nn → defaultValue (ty j) = if (tg i j).isSome = true then .null else vi 0) (hR : cs + 1 ≤ R.cells ∧ ss + Nn ≤ R.slots) (h : XX G own cc R Fx (pc + 3) L (.ref i :: S) (K ++ [i]) (nwN N i) (nwI I i) (cs + 1) (ss + Nn)) : XX G own cc R Fx pc L S K N I cs ss := by
  obtain ⟨p, e, s, m, args, below, meth, c, Q, nL, a0, K0⟩ := Fx
  intro ok al H locs ls st
  obtain ⟨hx, hb, hml, hown, hts, hE, hA⟩ := id ok
  obtain ⟨hc, hin, hln, h6, hnm, hty⟩ := hci
  refine va_new (fs := (List.range (ln i)).map (sv (fun j => if j = i then 0 else al j) (nwN N i) (nwI I i) i)) hx hb hts hin ty hty hown (hts _ hl) (hts _ hn1) (hts _ hn2) hE.1 st.1.1 st.1.2.1 st.2.1 hA hc (fun j hj => ?_) hR.1 hR.2 hd (fun q H1 g1 g2 g3 => ?_)
  · rw [hdv j hj]
    show _ = ((List.range (ln i)).map _).getD j Value.null
    rw [hln i hk, List.getD_eq_getElem?_getD, fs_get hj]
    cases ht : tg i j <;> simp [sv, nwN, nwI, ht]
  · have e : ent G.2.1 (fun j => if j = i then q else al j) (nwN N i) (nwI I i) i = .inr (ci, (List.range (ln i)).map (sv (fun j => if j = i then 0 else al j) (nwN N i) (nwI I i) i)) := by
      rw [ent_obj hk h6]
      congr 2
      apply List.map_congr_left
      intro b _
      cases ht : tg i b <;> simp [sv, nwN, nwI, ht]
    rw [← e] at g1 g2
    obtain ⟨r1, r2⟩ := st.made hiK h70 (fun z => z) g1 g2 g3
    have k1 := h ok _ H1 locs ls r1
    simp only [List.map_cons, r2, gm, if_true] at k1
    exact k1
theorem x_newa {i : Nat} {z : Int} (n : Nat) (hd : decode cc pc = .ok (.newarray .int, 2)) (hw : Cond.arrayClass .int ∈ Wd) (hz : z = (n : Int)) (hk : kd i = 10) (hn : ln i = n) (hiK : i ∉ K) (h70 : i < 70) (hR : cs + 1 ≤ R.cells ∧ ss + n ≤ R.slots) (h : XX G own cc R Fx (pc + 2) L (.ref i :: S) (K ++ [i]) (nwN N i) (nwI I i) (cs + 1) (ss + n)) : XX G own cc R Fx pc L (vi z :: S) K N I cs ss := by
  obtain ⟨p, e, s, m, args, below, meth, c, Q, nL, a0, K0⟩ := Fx
  intro ok al H locs ls st
  obtain ⟨hx, hb, hml, hown, hts, hE, hA⟩ := id ok
  subst hz
  have l2 := ln_lt i
  refine va_newa (atype := .int) (ty := .int) (a0 := (n, .inl (fun _ => 0))) hx hb (hts _ hw) rfl hE.1 st.1.1 st.1.2.1 st.2.1 hA (fun _ => rfl) (fun q => by rw [← oi_0, oi_lt (by unfold inr; omega) inr0] at q; omega) (oi_clamp (by omega)) (by show n * 4 ≤ _; omega) hR.1 hR.2 hd (fun q c1 H1 g0 g1 g2 g3 => ?_)
  have ec : c1 = G.2.1 0 := by
    have z1 := (g0.2 3 _ rfl).2
    have z2 := (g0.2 0 _ rfl).2
    exact Option.some.inj (z1.symm.trans z2)
  subst ec
  have e : ent G.2.1 (fun j => if j = i then q else al j) (nwN N i) (nwI I i) i = .inl (G.2.1 0, n, .inl (fun _ => 0)) := by
    rw [ent_int hk, hn]
    congr 4
    funext b
    simp [ia, nwI]
  rw [← e] at g1 g2
  obtain ⟨r1, r2⟩ := st.made (S' := S) hiK h70 (fun z => z.tail) g1 g2 g3
  have k1 := h ok _ H1 locs ls r1
  simp only [List.map_cons, r2, gm, if_true] at k1
  exact k1
theorem x_newz {i : Nat} {z : Int} (n : Nat) (hd : decode cc pc = .ok (.newarray .boolean, 2)) (hw : Cond.arrayClass .boolean ∈ Wd) (hz : z = (n : Int)) (hk : kd i = 11) (hn : ln i = n) (hiK : i ∉ K) (h70 : i < 70) (hR : cs + 1 ≤ R.cells ∧ ss + n ≤ R.slots) (h : XX G own cc R Fx (pc + 2) L (.ref i :: S) (K ++ [i]) (nwN N i) (nwI I i) (cs + 1) (ss + n)) : XX G own cc R Fx pc L (vi z :: S) K N I cs ss := by
  obtain ⟨p, e, s, m, args, below, meth, c, Q, nL, a0, K0⟩ := Fx
  intro ok al H locs ls st
  obtain ⟨hx, hb, hml, hown, hts, hE, hA⟩ := id ok
  subst hz
  have l2 := ln_lt i
  refine va_newa (atype := .boolean) (ty := .boolean) (a0 := (n, .inl (fun _ => 0))) hx hb (hts _ hw) rfl hE.1 st.1.1 st.1.2.1 st.2.1 hA (fun _ => rfl) (fun q => by rw [← oi_0, oi_lt (by unfold inr; omega) inr0] at q; omega) (oi_clamp (by omega)) (by show n * 1 ≤ _; omega) hR.1 hR.2 hd (fun q c1 H1 g0 g1 g2 g3 => ?_)
  have ec : c1 = G.2.1 1 := by
    have z1 := (g0.2 3 _ rfl).2
    have z2 := (g0.2 1 _ rfl).2
    exact Option.some.inj (z1.symm.trans z2)
  subst ec
  have e : ent G.2.1 (fun j => if j = i then q else al j) (nwN N i) (nwI I i) i = .inl (G.2.1 1, n, .inl (fun _ => 0)) := by
    rw [ent_boo hk, hn]
    congr 4
    funext b
    simp [ia, nwI]
  rw [← e] at g1 g2
  obtain ⟨r1, r2⟩ := st.made (S' := S) hiK h70 (fun z => z.tail) g1 g2 g3
  have k1 := h ok _ H1 locs ls r1
  simp only [List.map_cons, r2, gm, if_true] at k1
  exact k1
theorem x_newq {x i : Nat} {z : Int} (n : Nat) (hd : decode cc pc = .ok (.anewarray x, 3)) (hw : Cond.classLink own x RX3 ∈ Wd) (hz : z = (n : Int)) (hk : kd i = 12) (hn : ln i = n) (hiK : i ∉ K) (h70 : i < 70) (hR : cs + 1 ≤ R.cells ∧ ss + n ≤ R.slots) (h : XX G own cc R Fx (pc + 3) L (.ref i :: S) (K ++ [i]) (nwN N i) (nwI I i) (cs + 1) (ss + n)) : XX G own cc R Fx pc L (vi z :: S) K N I cs ss := by
  obtain ⟨p, e, s, m, args, below, meth, c, Q, nL, a0, K0⟩ := Fx
  intro ok al H locs ls st
  obtain ⟨hx, hb, hml, hown, hts, hE, hA⟩ := id ok
  subst hz
  have l2 := ln_lt i
  refine va_newq hx hb hown (hts _ hw) hE.2.2.2 hE.1 st.1.1 st.1.2.1 st.2.1 hA (fun q => by rw [← oi_0, oi_lt (by unfold inr; omega) inr0] at q; omega) (oi_clamp (by omega)) (by omega) hR.1 hR.2 hd (fun q c1 H1 g0 g1 g2 g3 => ?_)
  have ec : c1 = G.2.1 2 := by
    obtain ⟨_, _, -, -, -, z1⟩ := (g0.2 3 _ rfl).2
    obtain ⟨_, _, -, -, -, z2⟩ := (g0.2 2 _ rfl).2
    exact Option.some.inj (z1.symm.trans z2)
  subst ec
  have e : ent G.2.1 (fun j => if j = i then q else al j) (nwN N i) (nwI I i) i = .inl (G.2.1 2, n, .inr (.inr (.inr (.inr (fun _ => none))))) := by
    rw [ent_row hk, hn]
    congr 7
    funext b
    cases ht : tg i b <;> simp [rq, nwN, ht]
  rw [← e] at g1 g2
  obtain ⟨r1, r2⟩ := st.made (S' := S) hiK h70 (fun z => z.tail) g1 g2 g3
  have k1 := h ok _ H1 locs ls r1
  simp only [List.map_cons, r2, gm, if_true] at k1
  exact k1
end FR

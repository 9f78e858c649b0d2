/-! ===== the heap: fields, arrays, what is made ===== -/
theorem wl_at {cA : Nat → ClassId} {al : Nat → Nat} {K : List Nat} {N : NN} {I : MM} {q0 i : Nat} (h : K[q0]? = some i) : (wl cA al K N I)[q0]? = some (al i, ent cA al N I i) := by simp [wl, h]
theorem wl_of {cA : Nat → ClassId} {al : Nat → Nat} {K : List Nat} {N : NN} {I : MM} {q0 : Nat} {x : Nat × va_E} (h : (wl cA al K N I)[q0]? = some x) : ∃ i, K[q0]? = some i ∧ x = (al i, ent cA al N I i) := by
  rw [wl, List.getElem?_map] at h
  cases hk : K[q0]? with
  | none => rw [hk] at h; cases h
  | some i => rw [hk] at h; cases h; exact ⟨i, rfl, rfl⟩
theorem wl_set {A : Nat → Prop} {cA : Nat → ClassId} {al : Nat → Nat} {K : List Nat} {N N' : NN} {I I' : MM} {q0 i : Nat} {e' : va_E} (hD : va_D A (wl cA al K N I)) (hq : K[q0]? = some i) (he : ent cA al N' I' i = e') (ho : ∀ j, j ≠ i → ent cA al N' I' j = ent cA al N I j) : (wl cA al K N I).set q0 (al i, e') = wl cA al K N' I' := by
  apply List.ext_getElem?
  intro n
  by_cases e : q0 = n
  · subst e
    rw [List.getElem?_set_self (by simpa [wl] using (List.getElem?_eq_some_iff.mp hq).1), wl_at hq, he]
  · rw [List.getElem?_set_ne e]
    cases hn : K[n]? with
    | none => simp [wl, hn]
    | some j =>
      rw [wl_at hn, wl_at hn, ho j (fun z => ?_)]
      subst z
      exact e (hD.1 q0 n _ _ (wl_at hq) (wl_at hn) rfl)
theorem ent_obj {cA : Nat → ClassId} {al : Nat → Nat} {N : NN} {I : MM} {i ci : Nat} (h : kd i = ci) (h6 : ci < 6) : ent cA al N I i = .inr (ci, (List.range (ln i)).map (sv al N I i)) := by
  subst h
  unfold ent
  rw [if_neg (by omega), if_neg (by omega), if_neg (by omega)]
theorem ent_int {cA : Nat → ClassId} {al : Nat → Nat} {N : NN} {I : MM} {i : Nat} (h : kd i = 10) : ent cA al N I i = .inl (cA 0, ln i, .inl (ia I i)) := by unfold ent; rw [if_pos h]
theorem ent_boo {cA : Nat → ClassId} {al : Nat → Nat} {N : NN} {I : MM} {i : Nat} (h : kd i = 11) : ent cA al N I i = .inl (cA 1, ln i, .inl (ia I i)) := by unfold ent; rw [if_neg (by omega), if_pos h]
theorem ent_row {cA : Nat → ClassId} {al : Nat → Nat} {N : NN} {I : MM} {i : Nat} (h : kd i = 12) : ent cA al N I i = .inl (cA 2, ln i, .inr (.inr (.inr (.inr (rq al N i))))) := by unfold ent; rw [if_neg (by omega), if_neg (by omega), if_pos h]
theorem fs_get {α : Type} {n k : Nat} {f : Nat → α} (hk : k < n) : ((List.range n).map f)[k]? = some (f k) := by simp [hk]
theorem fs_set {α : Type} {n k : Nat} {f g : Nat → α} {v : α} (hg : g k = v) (ho : ∀ j, j ≠ k → g j = f j) : ((List.range n).map f).set k v = (List.range n).map g := by
  apply List.ext_getElem?
  intro m
  by_cases e : k = m
  · subst e
    by_cases hk : k < n
    · rw [List.getElem?_set_self (by simpa using hk), fs_get hk, hg]
    · simp [hk]
  · rw [List.getElem?_set_ne e]
    by_cases hk : m < n
    · rw [fs_get hk, fs_get hk, ho m (Ne.symm e)]
    · simp [hk]
theorem up_s {I : MM} {i k : Nat} {v : Int} : up I i k v i k = v := by simp [up]
theorem up_n1 {I : MM} {i k a b : Nat} {v : Int} (h : a ≠ i) : up I i k v a b = I a b := by simp [up, h]
theorem up_n2 {I : MM} {i k a b : Nat} {v : Int} (h : b ≠ k) : up I i k v a b = I a b := by simp [up, h]
theorem ent_congr {cA : Nat → ClassId} {al : Nat → Nat} {N N' : NN} {I I' : MM} {j : Nat} (hI : ∀ b, I' j b = I j b) (hN : ∀ b, N' j b = N j b) : ent cA al N' I' j = ent cA al N I j := by
  have h1 : ia I' j = ia I j := by funext b; simp [ia, hI]
  have h2 : rq al N' j = rq al N j := by funext b; simp [rq, hN]
  have h3 : sv al N' I' j = sv al N I j := by funext b; simp [sv, hN, hI]
  unfold ent
  rw [h1, h2, h3]
theorem RepW.put {G : GT} {al : Nat → Nat} {K : List Nat} {N N' : NN} {I I' : MM} {H H1 : Heap} (h : RepW G al K N I H) (h1 : va_P G.1 classes (wl G.2.1 al K N' I') H1) (h2 : va_D (Ab G) (wl G.2.1 al K N' I')) (hc : ∀ i, i ∈ K → ∀ k j, tg i k = some j → N' i k = false → j ∈ K) : RepW G al K N' I' H1 := ⟨h1, h2, h.2.2.1, h.2.2.2.1, hc⟩
/-- what a class's objects are: its place, name, fields, how many; its words stand in the tables -/
def CI (ci : Nat) (C : String) (T : u_T) (Nn : Nat) (ty : Nat → FieldType) : Prop := classes[ci]? = some (C, T, Nn) ∧ (∀ w ∈ u_ws C T Nn, w ∈ Wd) ∧ (∀ i, kd i = ci → ln i = Nn) ∧ ci < 6 ∧ (∀ a, a < Nn → ∀ b, b < Nn → a ≠ b → (T a).2.1 ≠ (T b).2.1) ∧ (∀ k, k < Nn → parseFieldDescriptor (T k).2.2.1 = some (ty k))
/-- a field's entry in the pool -/
def GF (own : String) (x ci k : Nat) : Prop := ∃ C T Nn ty, CI ci C T Nn ty ∧ k < Nn ∧ Cond.fieldLink own x (T k).1 (T k).2.1 (T k).2.2.1 ∈ Wd
def PI (own : String) (x ci k : Nat) : Prop := ∃ C T Nn ty, CI ci C T Nn ty ∧ k < Nn ∧ Cond.fieldLink own x (T k).1 (T k).2.1 (T k).2.2.1 ∈ Wd ∧ (T k).2.2.2 = false ∧ parseFieldDescriptor (T k).2.2.1 = some .int
def PZ (own : String) (x ci k : Nat) : Prop := ∃ C T Nn ty, CI ci C T Nn ty ∧ k < Nn ∧ Cond.fieldLink own x (T k).1 (T k).2.1 (T k).2.2.1 ∈ Wd ∧ (T k).2.2.2 = false ∧ parseFieldDescriptor (T k).2.2.1 = some .boolean
def PR (own : String) (x ci k : Nat) : Prop := ∃ C T Nn ty t, CI ci C T Nn ty ∧ k < Nn ∧ Cond.fieldLink own x (T k).1 (T k).2.1 (T k).2.2.1 ∈ Wd ∧ (T k).2.2.2 = true ∧ (T k).1 = own ∧ parseFieldDescriptor (T k).2.2.1 = some t ∧ ∀ a : Nat, narrow t (.ref a) = .ref a ∧ fits t (.ref a) = true
theorem kd_small {i ci : Nat} (h : kd i = ci) (h6 : ci < 6) : kd i ≠ 99 := by omega
section FR
variable {G : GT} {own : String} {cc : ByteArray} {R : Room} {Fx : FxT} {pc : Nat} {L : List (Option Value)} {S : List Value} {K : List Nat} {N : NN} {I : MM} {cs ss : Nat}

theorem x_getI {x i ci k : Nat} (hd : decode cc pc = .ok (.getfield x, 3)) (hf : GF own x ci k) (hk : kd i = ci) (ht : tg i k = none) (h : XX G own cc R Fx (pc + 3) L (vi (I i k) :: S) K N I cs ss) : XX G own cc R Fx pc L (.ref i :: S) K N I cs ss := by
  obtain ⟨p, e, s, m, args, below, meth, c, Q, nL, a0, K0⟩ := Fx
  intro ok al H locs ls st
  obtain ⟨hx, hb, hml, hown, hts, hE, hA⟩ := id ok
  obtain ⟨C, T, Nn, ty, ⟨hc, hin, hln, h6, -, -⟩, hkn, hl⟩ := hf
  have hi : i ∈ K := st.2.2.2.2.1.head.mem (kd_small hk h6)
  obtain ⟨q0, hq⟩ := List.getElem?_of_mem hi
  have k1 := h ok al H locs ls (st.to (fun q => q.tail.cons trivial))
  exact va_get hx hb hts hin hown hE.1 st.1.1 q0 (by rw [wl_at hq, ent_obj hk h6]) hc k hkn (hts _ hl) (fun _ z => z) (v := vi (I i k)) (by rw [hln i hk, fs_get hkn]; simp [sv, ht]) hd k1
theorem x_getR {x i ci k j : Nat} (hd : decode cc pc = .ok (.getfield x, 3)) (hf : GF own x ci k) (hk : kd i = ci) (ht : tg i k = some j) (hn : N i k = false) (h : XX G own cc R Fx (pc + 3) L (.ref j :: S) K N I cs ss) : XX G own cc R Fx pc L (.ref i :: S) K N I cs ss := by
  obtain ⟨p, e, s, m, args, below, meth, c, Q, nL, a0, K0⟩ := Fx
  intro ok al H locs ls st
  obtain ⟨hx, hb, hml, hown, hts, hE, hA⟩ := id ok
  obtain ⟨C, T, Nn, ty, ⟨hc, hin, hln, h6, -, -⟩, hkn, hl⟩ := hf
  have hi : i ∈ K := st.2.2.2.2.1.head.mem (kd_small hk h6)
  obtain ⟨q0, hq⟩ := List.getElem?_of_mem hi
  have k1 := h ok al H locs ls (st.to (fun q => q.tail.cons (Or.inl (st.1.2.2.2.2 i hi k j ht hn))))
  exact va_get hx hb hts hin hown hE.1 st.1.1 q0 (by rw [wl_at hq, ent_obj hk h6]) hc k hkn (hts _ hl) (fun _ z => z) (v := .ref (al j)) (by rw [hln i hk, fs_get hkn]; simp [sv, ht, hn]) hd k1
theorem x_putI {x i ci k : Nat} {z : Int} (hd : decode cc pc = .ok (.putfield x, 3)) (hf : PI own x ci k) (hk : kd i = ci) (ht : tg i k = none) (h : XX G own cc R Fx (pc + 3) L S K N (up I i k z) cs ss) : XX G own cc R Fx pc L (vi z :: .ref i :: S) K N I cs ss := by
  obtain ⟨p, e, s, m, args, below, meth, c, Q, nL, a0, K0⟩ := Fx
  intro ok al H locs ls st
  obtain ⟨hx, hb, hml, hown, hts, hE, hA⟩ := id ok
  obtain ⟨C, T, Nn, ty, ⟨hc, hin, hln, h6, hnm, hty⟩, hkn, hl, hfin, hpd⟩ := hf
  have hi : i ∈ K := st.2.2.2.2.1.tail.head.mem (kd_small hk h6)
  obtain ⟨q0, hq⟩ := List.getElem?_of_mem hi
  refine va_put hx hb hts hin ty hty hnm hown hE.1 st.1.1 st.1.2.1 st.2.1 q0 (by rw [wl_at hq, ent_obj hk h6]) hc k hkn (hts _ hl) (fun _ z => z) hfin hpd rfl rfl (by simp [hln i hk, hkn]) hd (fun H1 locs1 g1 g2 g3 => ?_)
  have e : (wl G.2.1 al K N I).set q0 (al i, .inr (ci, ((List.range (ln i)).map (sv al N I i)).set k (vi z))) = wl G.2.1 al K N (up I i k z) := wl_set st.1.2.1 hq (by rw [ent_obj hk h6, fs_set (g := sv al N (up I i k z) i) (by simp [sv, ht, up_s]) (fun j hj => by simp [sv, up_n2 hj])]) (fun j hj => ent_congr (fun b => up_n1 hj) (fun b => rfl))
  exact h ok al H1 locs1 ls ⟨st.1.put (e ▸ g1) (e ▸ g2) st.1.2.2.2.2, g3, st.2.2.1, st.2.2.2.1, st.2.2.2.2.1.tail.tail, st.2.2.2.2.2⟩
theorem x_putZ {x i ci k : Nat} {z : Int} (hd : decode cc pc = .ok (.putfield x, 3)) (hf : PZ own x ci k) (hz : z = 0 ∨ z = 1) (hk : kd i = ci) (ht : tg i k = none) (h : XX G own cc R Fx (pc + 3) L S K N (up I i k z) cs ss) : XX G own cc R Fx pc L (vi z :: .ref i :: S) K N I cs ss := by
  obtain ⟨p, e, s, m, args, below, meth, c, Q, nL, a0, K0⟩ := Fx
  intro ok al H locs ls st
  obtain ⟨hx, hb, hml, hown, hts, hE, hA⟩ := id ok
  obtain ⟨C, T, Nn, ty, ⟨hc, hin, hln, h6, hnm, hty⟩, hkn, hl, hfin, hpd⟩ := hf
  have hi : i ∈ K := st.2.2.2.2.1.tail.head.mem (kd_small hk h6)
  obtain ⟨q0, hq⟩ := List.getElem?_of_mem hi
  refine va_put hx hb hts hin ty hty hnm hown hE.1 st.1.1 st.1.2.1 st.2.1 q0 (by rw [wl_at hq, ent_obj hk h6]) hc k hkn (hts _ hl) (fun _ z => z) hfin hpd (by rcases hz with rfl | rfl <;> rfl) (by rcases hz with rfl | rfl <;> rfl) (by simp [hln i hk, hkn]) hd (fun H1 locs1 g1 g2 g3 => ?_)
  have e : (wl G.2.1 al K N I).set q0 (al i, .inr (ci, ((List.range (ln i)).map (sv al N I i)).set k (vi z))) = wl G.2.1 al K N (up I i k z) := wl_set st.1.2.1 hq (by rw [ent_obj hk h6, fs_set (g := sv al N (up I i k z) i) (by simp [sv, ht, up_s]) (fun j hj => by simp [sv, up_n2 hj])]) (fun j hj => ent_congr (fun b => up_n1 hj) (fun b => rfl))
  exact h ok al H1 locs1 ls ⟨st.1.put (e ▸ g1) (e ▸ g2) st.1.2.2.2.2, g3, st.2.2.1, st.2.2.2.1, st.2.2.2.2.1.tail.tail, st.2.2.2.2.2⟩
theorem x_putR {x i ci k j : Nat} (hd : decode cc pc = .ok (.putfield x, 3)) (hf : PR own x ci k) (hini : Fx.2.2.2.2.2.2.1.name = "<init>") (hk : kd i = ci) (ht : tg i k = some j) (hj : kd j ≠ 99) (h : XX G own cc R Fx (pc + 3) L S K (upN N i k) I cs ss) : XX G own cc R Fx pc L (.ref j :: .ref i :: S) K N I cs ss := by
  obtain ⟨p, e, s, m, args, below, meth, c, Q, nL, a0, K0⟩ := Fx
  intro ok al H locs ls st
  obtain ⟨hx, hb, hml, hown, hts, hE, hA⟩ := id ok
  obtain ⟨C, T, Nn, ty, t, ⟨hc, hin, hln, h6, hnm, hty⟩, hkn, hl, hfin, hdc, hpd, hnf⟩ := hf
  have hi : i ∈ K := st.2.2.2.2.1.tail.head.mem (kd_small hk h6)
  have hjK : j ∈ K := st.2.2.2.2.1.head.mem hj
  obtain ⟨q0, hq⟩ := List.getElem?_of_mem hi
  refine va_putF hx hb hts hin ty hty hnm hown hE.1 st.1.1 st.1.2.1 st.2.1 q0 (by rw [wl_at hq, ent_obj hk h6]) hc k hkn (hts _ hl) (fun _ z => z) hfin hini hdc hpd (hnf _).1 (hnf _).2 (by simp [hln i hk, hkn]) hd (fun H1 locs1 g1 g2 g3 => ?_)
  have e : (wl G.2.1 al K N I).set q0 (al i, .inr (ci, ((List.range (ln i)).map (sv al N I i)).set k (.ref (al j)))) = wl G.2.1 al K (upN N i k) I := wl_set st.1.2.1 hq (by rw [ent_obj hk h6, fs_set (g := sv al (upN N i k) I i) (by simp [sv, ht, upN]) (fun a ha => by simp [sv, upN, ha])]) (fun a ha => ent_congr (fun b => rfl) (fun b => by simp [upN, ha]))
  refine h ok al H1 locs1 ls ⟨st.1.put (e ▸ g1) (e ▸ g2) (fun a ha b t hab hn => ?_), g3, st.2.2.1, st.2.2.2.1, st.2.2.2.2.1.tail.tail, st.2.2.2.2.2⟩
  by_cases q : a = i ∧ b = k
  · obtain ⟨rfl, rfl⟩ := q
    rw [ht] at hab
    cases hab
    exact hjK
  · exact st.1.2.2.2.2 a ha b t hab (by simpa [upN, q] using hn)
theorem x_iald {i : Nat} {z : Int} (j : Nat) (hd : decode cc pc = .ok (.iaload, 1)) (hk : kd i = 10) (hz : z = (j : Int)) (hj : j < ln i) (h : XX G own cc R Fx (pc + 1) L (vi (I i j) :: S) K N I cs ss) : XX G own cc R Fx pc L (vi z :: .ref i :: S) K N I cs ss := by
  obtain ⟨p, e, s, m, args, below, meth, c, Q, nL, a0, K0⟩ := Fx
  intro ok al H locs ls st
  obtain ⟨hx, hb, hml, hown, hts, hE, hA⟩ := id ok
  subst hz
  have hi : i ∈ K := st.2.2.2.2.1.tail.head.mem (by omega)
  have hj3 := ln_lt i
  obtain ⟨q0, hq⟩ := List.getElem?_of_mem hi
  have k1 := h ok al H locs ls (st.to (fun q => q.tail.tail.cons trivial))
  refine va_iald hx hb hE.1 st.1.1 q0 0 (by rw [wl_at hq, ent_int hk]) rfl (oi_in hj (by omega)) hd ?_
  rw [oi_clamp (by omega)]
  exact k1
theorem x_bald {i : Nat} {z : Int} (j : Nat) (hd : decode cc pc = .ok (.baload, 1)) (hk : kd i = 11) (hz : z = (j : Int)) (hj : j < ln i) (h : XX G own cc R Fx (pc + 1) L (vi (I i j) :: S) K N I cs ss) : XX G own cc R Fx pc L (vi z :: .ref i :: S) K N I cs ss := by
  obtain ⟨p, e, s, m, args, below, meth, c, Q, nL, a0, K0⟩ := Fx
  intro ok al H locs ls st
  obtain ⟨hx, hb, hml, hown, hts, hE, hA⟩ := id ok
  subst hz
  have hi : i ∈ K := st.2.2.2.2.1.tail.head.mem (by omega)
  have hj3 := ln_lt i
  obtain ⟨q0, hq⟩ := List.getElem?_of_mem hi
  have k1 := h ok al H locs ls (st.to (fun q => q.tail.tail.cons trivial))
  refine va_zald hx hb hE.1 st.1.1 q0 1 (by rw [wl_at hq, ent_boo hk]) rfl (oi_in hj (by omega)) hd ?_
  rw [oi_clamp (by omega)]
  exact k1
theorem ia_up {i k : Nat} {z : Int} : ia (up I i k z) i = upd (ia I i) k (Int32.ofInt z) := by
  funext b
  by_cases e : b = k <;> simp [ia, upd, up, e]
theorem x_iast {i : Nat} {z v : Int} (j : Nat) (hd : decode cc pc = .ok (.iastore, 1)) (hk : kd i = 10) (hz : z = (j : Int)) (hj : j < ln i) (h : XX G own cc R Fx (pc + 1) L S K N (up I i j v) cs ss) : XX G own cc R Fx pc L (vi v :: vi z :: .ref i :: S) K N I cs ss := by
  obtain ⟨p, e, s, m, args, below, meth, c, Q, nL, a0, K0⟩ := Fx
  intro ok al H locs ls st
  obtain ⟨hx, hb, hml, hown, hts, hE, hA⟩ := id ok
  subst hz
  have hi : i ∈ K := st.2.2.2.2.1.tail.tail.head.mem (by omega)
  have hj3 := ln_lt i
  obtain ⟨q0, hq⟩ := List.getElem?_of_mem hi
  refine va_iast hx hb hE.1 st.1.1 st.1.2.1 st.2.1 q0 0 (by rw [wl_at hq, ent_int hk]) rfl (oi_in hj (by omega)) hd (fun H1 locs1 g1 g2 g3 => ?_)
  rw [oi_clamp (by omega)] at g1 g2
  have e : (wl G.2.1 al K N I).set q0 (al i, .inl (G.2.1 0, ln i, .inl (upd (ia I i) j (Int32.ofInt v)))) = wl G.2.1 al K N (up I i j v) := wl_set st.1.2.1 hq (by rw [ent_int hk, ia_up]) (fun j hj => ent_congr (fun b => up_n1 hj) (fun b => rfl))
  exact h ok al H1 locs1 ls ⟨st.1.put (e ▸ g1) (e ▸ g2) st.1.2.2.2.2, g3, st.2.2.1, st.2.2.2.1, st.2.2.2.2.1.tail.tail.tail, st.2.2.2.2.2⟩
theorem x_alen {i : Nat} (hd : decode cc pc = .ok (.arraylength, 1)) (hk : kd i = 10) (h : XX G own cc R Fx (pc + 1) L (vi (ln i) :: S) K N I cs ss) : XX G own cc R Fx pc L (.ref i :: S) K N I cs ss := by
  obtain ⟨p, e, s, m, args, below, meth, c, Q, nL, a0, K0⟩ := Fx
  intro ok al H locs ls st
  obtain ⟨hx, hb, hml, hown, hts, hE, hA⟩ := id ok
  have hi : i ∈ K := st.2.2.2.2.1.head.mem (by omega)
  obtain ⟨q0, hq⟩ := List.getElem?_of_mem hi
  have k1 := h ok al H locs ls (st.to (fun q => q.tail.cons trivial))
  exact va_alen (x := (ln i, .inl (ia I i))) hx hb hE.1 st.1.1 q0 0 (by rw [wl_at hq, ent_int hk]) rfl Int32.ofInt_eq_ofNat.symm hd k1
theorem x_aaldR {i t : Nat} {z : Int} (j : Nat) (hd : decode cc pc = .ok (.aaload, 1)) (hk : kd i = 12) (hz : z = (j : Int)) (hj : j < ln i) (ht : tg i j = some t) (hn : N i j = false) (h : XX G own cc R Fx (pc + 1) L (.ref t :: S) K N I cs ss) : XX G own cc R Fx pc L (vi z :: .ref i :: S) K N I cs ss := by
  obtain ⟨p, e, s, m, args, below, meth, c, Q, nL, a0, K0⟩ := Fx
  intro ok al H locs ls st
  obtain ⟨hx, hb, hml, hown, hts, hE, hA⟩ := id ok
  subst hz
  have hi : i ∈ K := st.2.2.2.2.1.tail.head.mem (by omega)
  have hj3 := ln_lt i
  obtain ⟨q0, hq⟩ := List.getElem?_of_mem hi
  have k1 := h ok al H locs ls (st.to (fun q => q.tail.tail.cons (Or.inl (st.1.2.2.2.2 i hi j t ht hn))))
  refine va_aldq hx hb hE.1 st.1.1 q0 2 (by rw [wl_at hq, ent_row hk]) rfl (oi_in hj (by omega)) hd ?_
  rw [oi_clamp (by omega)]
  have e : va_rf (rq al N i j) = .ref (al t) := by simp [rq, ht, hn, va_rf]
  rw [e]
  exact k1
theorem x_aaldN {i t : Nat} {z : Int} (j : Nat) (hd : decode cc pc = .ok (.aaload, 1)) (hk : kd i = 12) (hz : z = (j : Int)) (hj : j < ln i) (ht : tg i j = some t) (hn : N i j = true) (h : XX G own cc R Fx (pc + 1) L (.null :: S) K N I cs ss) : XX G own cc R Fx pc L (vi z :: .ref i :: S) K N I cs ss := by
  obtain ⟨p, e, s, m, args, below, meth, c, Q, nL, a0, K0⟩ := Fx
  intro ok al H locs ls st
  obtain ⟨hx, hb, hml, hown, hts, hE, hA⟩ := id ok
  subst hz
  have hi : i ∈ K := st.2.2.2.2.1.tail.head.mem (by omega)
  have hj3 := ln_lt i
  obtain ⟨q0, hq⟩ := List.getElem?_of_mem hi
  have k1 := h ok al H locs ls (st.to (fun q => q.tail.tail.cons trivial))
  refine va_aldq hx hb hE.1 st.1.1 q0 2 (by rw [wl_at hq, ent_row hk]) rfl (oi_in hj (by omega)) hd ?_
  rw [oi_clamp (by omega)]
  have e : va_rf (rq al N i j) = .null := by simp [rq, ht, hn, va_rf]
  rw [e]
  exact k1
theorem x_aast {i t : Nat} {z : Int} (j : Nat) (hd : decode cc pc = .ok (.aastore, 1)) (hk : kd i = 12) (hz : z = (j : Int)) (hj : j < ln i) (ht : tg i j = some t) (hkt : kd t = 3) (h : XX G own cc R Fx (pc + 1) L S K (upN N i j) I cs ss) : XX G own cc R Fx pc L (.ref t :: vi z :: .ref i :: S) K N I cs ss := by
  obtain ⟨p, e, s, m, args, below, meth, c, Q, nL, a0, K0⟩ := Fx
  intro ok al H locs ls st
  obtain ⟨hx, hb, hml, hown, hts, hE, hA⟩ := id ok
  subst hz
  have hi : i ∈ K := st.2.2.2.2.1.tail.tail.head.mem (by omega)
  have htK : t ∈ K := st.2.2.2.2.1.head.mem (by omega)
  have hj3 := ln_lt i
  obtain ⟨q0, hq⟩ := List.getElem?_of_mem hi
  obtain ⟨q1, hq1⟩ := List.getElem?_of_mem htK
  refine va_astq hx hb hE.1 st.1.1 st.1.2.1 st.2.1 q0 2 q1 3 (r := (RX3, TX3, 7)) (by rw [wl_at hq, ent_row hk]) rfl (by rw [wl_at hq1, ent_obj hkt (by decide)]) rfl (oi_in hj (by omega)) hd (fun H1 locs1 g1 g2 g3 => ?_)
  rw [oi_clamp (by omega)] at g1 g2
  have e : (wl G.2.1 al K N I).set q0 (al i, .inl (G.2.1 2, ln i, .inr (.inr (.inr (.inr (va_up (rq al N i) j (some (al t)))))))) = wl G.2.1 al K (upN N i j) I := wl_set st.1.2.1 hq (by
    have e1 : rq al (upN N i j) i = va_up (rq al N i) j (some (al t)) := by
      funext b
      by_cases e : b = j
      · subst e; simp [rq, va_up, upN, ht]
      · simp [rq, va_up, upN, e]
    rw [ent_row hk, e1]) (fun j hj => ent_congr (fun b => rfl) (fun b => by simp [upN, hj]))
  refine h ok al H1 locs1 ls ⟨st.1.put (e ▸ g1) (e ▸ g2) (fun a ha b t' hab hn => ?_), g3, st.2.2.1, st.2.2.2.1, st.2.2.2.2.1.tail.tail.tail, st.2.2.2.2.2⟩
  by_cases q : a = i ∧ b = j
  · obtain ⟨rfl, rfl⟩ := q
    rw [ht] at hab
    cases hab
    exact htK
  · exact st.1.2.2.2.2 a ha b t' hab (by simpa [upN, q] using hn)
theorem ia_cp {i sp j dp n : Nat} : ia (cpI I i sp j dp n) j = va_cpy (ia I i) (ia I j) sp dp n := by
  funext b
  by_cases e : dp ≤ b ∧ b < dp + n <;> simp [ia, va_cpy, cpI, e]
theorem x_acpy {x i j : Nat} {zs zd zn : Int} (sp dp n : Nat) (hd : decode cc pc = .ok (.invokestatic x, 3)) (hl : Cond.methodLink own x arraycopyName ∈ Wd) (hn1 : Cond.native arraycopyName ∈ Wd) (hn2 : Cond.static arraycopyName ∈ Wd) (hn3 : Cond.initialized "java/lang/System" ∈ Wd) (hi : kd i = 10) (hj : kd j = 10) (e1 : zs = (sp : Int)) (e2 : zd = (dp : Int)) (e3 : zn = (n : Int)) (b1 : sp + n ≤ ln i) (b2 : dp + n ≤ ln j) (hR : 1 ≤ R.frames ∧ (S.map fun v => v.category).sum + (nativeFrameWords "java/lang/System" "arraycopy" 5 + 11) ≤ R.locals) (h : XX G own cc R Fx (pc + 3) L S K N (cpI I i sp j dp n) cs ss) : XX G own cc R Fx pc L (vi zn :: vi zd :: .ref j :: vi zs :: .ref i :: S) K N I cs ss := by
  obtain ⟨p, e, s, m, args, below, meth, c, Q, nL, a0, K0⟩ := Fx
  intro ok al H locs ls st
  obtain ⟨hx, hb, hml, hown, hts, hE, hA⟩ := id ok
  subst e1; subst e2; subst e3
  have hiK : i ∈ K := st.2.2.2.2.1.tail.tail.tail.tail.head.mem (by omega)
  have hjK : j ∈ K := st.2.2.2.2.1.tail.tail.head.mem (by omega)
  have l1 := ln_lt i
  have l2 := ln_lt j
  obtain ⟨q0, hq⟩ := List.getElem?_of_mem hiK
  obtain ⟨q1, hq1⟩ := List.getElem?_of_mem hjK
  have nz : ∀ a : Nat, a < 1000 → ¬ Int32.ofInt (a : Int) < 0 := fun a ha q => by
    rw [← oi_0, oi_lt (by unfold inr; omega) inr0] at q; omega
  have hsum : ((S.map (gm al)).map fun v => v.category).sum = (S.map fun v => v.category).sum := by rw [List.map_map]; congr 1; apply List.map_congr_left; intro v _; exact gm_cat al v
  refine va_copyi hx hb (hml.trans st.2.2.1.1.symm) hown (hts _ hl) (hts _ hn1) (hts _ hn2) (hts _ hn3) hE.1 st.1.1 st.1.2.1 st.2.1 q0 q1 0 0 (ty := .int) (by rw [wl_at hq, ent_int hi]) (by rw [wl_at hq1, ent_int hj]) rfl rfl rfl (nz sp (by omega)) (nz dp (by omega)) (nz n (by omega)) (by rw [oi_clamp (by omega), oi_clamp (by omega)]; exact b1) (by rw [oi_clamp (by omega), oi_clamp (by omega)]; exact b2) (fun _ _ => rfl) hR.1 (by rw [hsum]; exact hR.2) hd (fun H1 locs1 g1 g2 g3 => ?_)
  rw [oi_clamp (by omega), oi_clamp (by omega), oi_clamp (by omega)] at g1 g2
  have e : (wl G.2.1 al K N I).set q1 (al j, .inl (G.2.1 0, ln j, .inl (va_cpy (ia I i) (ia I j) sp dp n))) = wl G.2.1 al K N (cpI I i sp j dp n) := wl_set st.1.2.1 hq1 (by rw [ent_int hj, ia_cp]) (fun a ha => ent_congr (fun b => by simp [cpI, ha]) (fun b => rfl))
  exact h ok al H1 locs1 ls ⟨st.1.put (e ▸ g1) (e ▸ g2) st.1.2.2.2.2, g3, st.2.2.1, st.2.2.2.1, st.2.2.2.2.1.tail.tail.tail.tail.tail, st.2.2.2.2.2⟩
end FR

/-! ===== the one world of this claim: cells by number; a memory of whole numbers; contracts over it ===== -/
def vi (z : Int) : Value := .int (Int32.ofInt z)
def vl (z : Int) : Value := .long (Int64.ofInt z)
def inr (z : Int) : Prop := -2147483648 ≤ z ∧ z ≤ 2147483647
def inl (z : Int) : Prop := -9223372036854775808 ≤ z ∧ z ≤ 9223372036854775807
def gm (al : Nat → Nat) (v : Value) : Value := match v with
  | .ref i => .ref (al i)
  | v => v
abbrev classes : List vw_C := [(RX0, TX0, 6), (RX1, TX1, 5), (RX2, TX2, 3), (RX3, TX3, 7), (RX4, TX4, 12), (RX5, TX5, 32)]
abbrev MM : Type := Nat → Nat → Int
abbrev NN : Type := Nat → Nat → Bool
-- what a cell is: 0..5 an object of that class, 10 an int array, 11 a boolean array, 12 an array of rows
def kdl : List Nat := [4, 3,10,10,10,10, 3,10,10,10,10, 12, 2,10,10, 2,10,10, 1,10,10,10, 0, 3,10,10,10,10, 2,10,10, 10, 10,10,10,10, 3,10,10,10,10, 3,10,10,10,10, 99,99,99,99, 5, 10,10,10,10,10,10,10,10,10,10,10,10,10,10,10, 11]
def kd (i : Nat) : Nat := kdl.getD i 99
def lnl : List Nat := [12, 7,63,3,8,8, 7,63,3,8,8, 2, 3,9,9, 3,9,9, 5,60,60,60, 6, 7,63,3,8,8, 3,9,9, 9, 90,3,375,450, 7,63,3,8,8, 7,63,3,8,8, 0,0,0,0, 32, 63,8,8,60,60,60,9,9,63,9,9,9,90,9,200, 2]
def ln (i : Nat) : Nat := lnl.getD i 0
def tg4 (k : Nat) : Option Nat := match k with
  | 0 => some 1 | 1 => some 6 | 2 => some 11 | 3 => some 12 | 4 => some 15 | 5 => some 18 | 6 => some 22 | 7 => some 32 | 8 => some 33 | 9 => some 34 | 10 => some 35 | _ => none
def tg5 (k : Nat) : Option Nat := match k with
  | 1 => some 51 | 6 => some 52 | 7 => some 53 | 9 => some 54 | 11 => some 55 | 12 => some 56 | 14 => some 57 | 15 => some 58 | 17 => some 59 | 22 => some 60 | 23 => some 61 | 24 => some 62 | 25 => some 63 | 26 => some 64 | 28 => some 65 | 29 => some 66 | _ => none
/-- the one cell that a slot of references may hold -/
def tg (i k : Nat) : Option Nat := match kd i with
  | 0 => (match k with | 0 => some 23 | 1 => some 28 | 2 => some 31 | _ => none)
  | 1 => (match k with | 0 => some 19 | 2 => some 20 | 3 => some 21 | _ => none)
  | 2 => (match k with | 0 => some (i + 1) | 1 => some (i + 2) | _ => none)
  | 3 => (match k with | 3 => some (i + 1) | 4 => some (i + 2) | 5 => some (i + 3) | 6 => some (i + 4) | _ => none)
  | 4 => tg4 k
  | 5 => tg5 k
  | 12 => (match k with | 0 => some 36 | 1 => some 41 | _ => none)
  | _ => none
-- the static arrays, cells 70 to 74, and what they hold; 80 is the script
def stn : Nat → String := fun k => match k with | 0 => "RATE_AT_FIRST" | 1 => "FACT_AT_FIRST" | 2 => "FACT_MOST" | 3 => "RATE_MOST" | _ => "FACT_BEHIND"
def stl : Nat → List Int := fun k => match k with | 0 => [20, 10, 5] | 1 => [0, 1, 5, 0, 0, 0, 0] | 2 => [50, 9, 99, 1, 1, 9, 999] | 3 => [99, 50, 50] | _ => [6, 0, 1, 4]
def up (I : MM) (i k : Nat) (v : Int) : MM := fun a b => if a = i ∧ b = k then v else I a b
def upN (N : NN) (i k : Nat) : NN := fun a b => if a = i ∧ b = k then false else N a b
def cpI (I : MM) (i sp j dp n : Nat) : MM := fun a b => if a = j ∧ dp ≤ b ∧ b < dp + n then I i (sp + (b - dp)) else I a b
def nwI (I : MM) (i : Nat) : MM := fun a b => if a = i then 0 else I a b
def nwN (N : NN) (i : Nat) : NN := fun a b => if a = i then (tg i b).isSome else N a b
def sv (al : Nat → Nat) (N : NN) (I : MM) (i k : Nat) : Value := match tg i k with
  | some j => if N i k = true then .null else .ref (al j)
  | none => vi (I i k)
def rq (al : Nat → Nat) (N : NN) (i : Nat) : Nat → Option Nat := fun k => match tg i k with
  | some j => if N i k = true then none else some (al j)
  | none => none
def ia (I : MM) (i : Nat) : Nat → Int32 := fun j => Int32.ofInt (I i j)
def ent (cA : Nat → ClassId) (al : Nat → Nat) (N : NN) (I : MM) (i : Nat) : va_E :=
  if kd i = 10 then .inl (cA 0, ln i, .inl (ia I i)) else if kd i = 11 then .inl (cA 1, ln i, .inl (ia I i)) else if kd i = 12 then .inl (cA 2, ln i, .inr (.inr (.inr (.inr (rq al N i))))) else .inr (kd i, (List.range (ln i)).map (sv al N I i))
def wl (cA : Nat → ClassId) (al : Nat → Nat) (K : List Nat) (N : NN) (I : MM) : va_W := K.map (fun i => (al i, ent cA al N I i))
abbrev tysL (cA : Nat → ClassId) : List (ClassId × FieldType) := [(cA 0, .int), (cA 1, .boolean), (cA 2, .object RX3)]
/-- what a whole run keeps: the classes' numbers and slots, the arrays' classes, where the static arrays and the script lie, where the world begins, the launch -/
abbrev GT : Type := va_G × (Nat → ClassId) × (Nat → Nat) × Nat × Launch
abbrev Ab (G : GT) : Nat → Prop := fun q => G.2.2.2.1 ≤ q
def RepW (G : GT) (al : Nat → Nat) (K : List Nat) (N : NN) (I : MM) (H : Heap) : Prop :=
  va_P G.1 classes (wl G.2.1 al K N I) H ∧ va_D (Ab G) (wl G.2.1 al K N I) ∧ (∀ k, al (70 + k) = G.2.2.1 k) ∧ (∀ i, i ∈ K → i < 70) ∧ ∀ i, i ∈ K → ∀ k j, tg i k = some j → N i k = false → j ∈ K
def Wd : List Cond := lw_tbl.filter goodWord
def nests : List Cond := [.fieldLinkNest RX3 24 RX4 "RATE_AT_FIRST" "[I" RX4, .fieldLinkNest RX3 47 RX4 "FACT_AT_FIRST" "[I" RX4, .fieldLinkNest RX3 67 RX4 "FACT_MOST" "[I" RX4, .methodLinkNest RX4 25 yX2_init RX4, .methodLinkNest RX4 35 yX1_init RX4, .methodLinkNest RX4 42 yX0_init RX4, .methodLinkNest RX0 20 yX2_init RX4]
def EnvW (G : GT) (U : State) : Prop := va_K G.1 classes (tysL G.2.1) U ∧ (∀ k, k < 5 → va_Z RX4 (stn k) "[I" (.ref (G.2.2.1 k)) (Ab G) U U.heap ∧ va_T .int (G.2.2.1 k) (stl k).length (fun j => vi ((stl k).getD j 0)) (Ab G) U U.heap) ∧ (∀ w, w ∈ nests → va_Nw w U) ∧ va_AO RX3 U
theorem EnvW.moved {G : GT} {u U : State} (hW : u.WarmedH U.vm) (hz : u.heap.size ≤ U.heap.size) (hq : ∀ a : Nat, a < u.heap.size → ¬ Ab G a → U.heap[a]? = u.heap[a]?) (h : EnvW G u) : EnvW G U := by
  obtain ⟨h1, h2, h3, h4⟩ := h
  refine ⟨h1.moved hW.alike, fun k hk => ⟨((h2 k hk).1.moved hW.alike).kept hq, ((h2 k hk).2.moved hW.alike).kept hq⟩, fun w hw => ?_, ?_⟩
  · have hz := h3 w hw
    simp only [nests, List.mem_cons, List.not_mem_nil, or_false] at hw
    rcases hw with rfl | rfl | rfl | rfl | rfl | rfl | rfl
    · exact va_Nw.warmF hW hz
    · exact va_Nw.warmF hW hz
    · exact va_Nw.warmF hW hz
    · exact va_Nw.warmM hW hz
    · exact va_Nw.warmM hW hz
    · exact va_Nw.warmM hW hz
    · exact va_Nw.warmM hW hz
  · exact va_AO.moved hW.alike h4
-- ==== FRAMES ====
def LocW (al : Nat → Nat) (nL : Nat) (ls : Array Slot) (L : List (Option Value)) : Prop := ls.size = nL ∧ lv_wf ls ∧ L.length ≤ nL ∧ ∀ (i : Nat) (v : Value), L[i]? = some (some v) → ls[i]? = some (.val (gm al v))
def okv (K : List Nat) (v : Value) : Prop := match v with
  | .ref i => i ∈ K ∨ 70 ≤ i
  | _ => True
def okS (K : List Nat) (S : List Value) : Prop := ∀ v, v ∈ S → okv K v
def okL (K : List Nat) (L : List (Option Value)) : Prop := ∀ (i : Nat) (v : Value), L[i]? = some (some v) → okv K v
abbrev FxT : Type := Program × Env × State × MethodId × Array Value × List Frame × Method × Code × (State → Prop) × Nat × (Nat → Nat) × List Nat
def OkW (G : GT) (own : String) (cc : ByteArray) (Fx : FxT) : Prop := match Fx with
  | (p, e, s, m, args, below, meth, c, Q, nL, a0, K0) => p.tables.exec = Jvm.exec ∧ c.code = cc ∧ c.maxLocals = nL ∧ s.vm.findClass own = some m.cls ∧ (∀ w, w ∈ Wd → w.before args s = true) ∧ EnvW G s ∧ (∀ q : Nat, s.heap.size ≤ q → Ab G q)
def StW (G : GT) (a0 : Nat → Nat) (K0 : List Nat) (nL : Nat) (s : State) (al : Nat → Nat) (H : Heap) (locs : List Loc) (ls : Array Slot) (L : List (Option Value)) (S : List Value) (K : List Nat) (N : NN) (I : MM) : Prop :=
  RepW G al K N I H ∧ va_S (Ab G) s.heap H locs ∧ LocW al nL ls L ∧ okL K L ∧ okS K S ∧ (∀ i, (i ∈ K0 ∨ 70 ≤ i) → al i = a0 i) ∧ ∀ i, i ∈ K0 → i ∈ K
def XX (G : GT) (own : String) (cc : ByteArray) (R : Room) (Fx : FxT) (pc : Nat) (L : List (Option Value)) (S : List Value) (K : List Nat) (N : NN) (I : MM) (cs ss : Nat) : Prop := match Fx with
  | (p, e, s, m, args, below, meth, c, Q, nL, a0, K0) => OkW G own cc Fx → ∀ (al : Nat → Nat) (H : Heap) (locs : List Loc) (ls : Array Slot), StW G a0 K0 nL s al H locs ls L S K N I → W p G.2.2.2.2 e R s m args below meth c H locs cs ss Q (F0 m pc ls (S.map (gm al)))
theorem okS.cons {K : List Nat} {S : List Value} {v : Value} (h : okS K S) (hv : okv K v) : okS K (v :: S) := fun w hw => by
  rcases List.mem_cons.mp hw with rfl | hw
  · exact hv
  · exact h w hw
theorem okS.tail {K : List Nat} {S : List Value} {v : Value} (h : okS K (v :: S)) : okS K S := fun w hw => h w (List.mem_cons_of_mem _ hw)
theorem okS.head {K : List Nat} {S : List Value} {v : Value} (h : okS K (v :: S)) : okv K v := h v List.mem_cons_self
theorem StW.to {G : GT} {a0 : Nat → Nat} {K0 : List Nat} {nL : Nat} {s : State} {al : Nat → Nat} {H : Heap} {locs : List Loc} {ls : Array Slot} {L : List (Option Value)} {S S' : List Value} {K : List Nat} {N : NN} {I : MM} (h : StW G a0 K0 nL s al H locs ls L S K N I) (f : okS K S → okS K S') : StW G a0 K0 nL s al H locs ls L S' K N I := ⟨h.1, h.2.1, h.2.2.1, h.2.2.2.1, f h.2.2.2.2.1, h.2.2.2.2.2⟩
theorem oi_toInt {z : Int} (h : inr z) : (Int32.ofInt z).toInt = z := Int32.toInt_ofInt_of_le h.1 (by unfold inr at h; omega)
theorem ol_toInt {z : Int} (h : inl z) : (Int64.ofInt z).toInt = z := Int64.toInt_ofInt_of_le h.1 (by unfold inl at h; omega)
theorem oi_lt {a b : Int} (ha : inr a) (hb : inr b) : Int32.ofInt a < Int32.ofInt b ↔ a < b := by rw [Int32.lt_iff_toInt_lt, oi_toInt ha, oi_toInt hb]
theorem oi_le {a b : Int} (ha : inr a) (hb : inr b) : Int32.ofInt a ≤ Int32.ofInt b ↔ a ≤ b := by rw [Int32.le_iff_toInt_le, oi_toInt ha, oi_toInt hb]
theorem oi_eq {a b : Int} (ha : inr a) (hb : inr b) : Int32.ofInt a = Int32.ofInt b ↔ a = b := by rw [← Int32.toInt_inj, oi_toInt ha, oi_toInt hb]
theorem oi_0 : Int32.ofInt 0 = 0 := rfl
theorem inr0 : inr 0 := by unfold inr; omega
theorem oi_clamp {j : Nat} (h : j < 2147483648) : (Int32.ofInt (j : Int)).toNatClampNeg = j := by
  have h2 : inr (j : Int) := by unfold inr; omega
  show (Int32.ofInt (j : Int)).toInt.toNat = j
  rw [oi_toInt h2]; rfl
theorem oi_in {j n : Nat} (h : j < n) (hn : j < 2147483648) : vp_in (Int32.ofInt (j : Int)) n := by
  intro q
  rcases q with q | q
  · rw [← oi_0, oi_lt (by unfold inr; omega) inr0] at q; omega
  · rw [oi_clamp hn] at q; omega
theorem ln_lt (i : Nat) : ln i < 500 := by
  by_cases h : i < 67
  · exact (by decide : ∀ k, k < 67 → ln k < 500) i h
  · show lnl.getD i 0 < 500
    rw [List.getD_eq_getElem?_getD, List.getElem?_eq_none (by have : lnl.length = 67 := rfl; omega)]
    decide
theorem kd_big {i : Nat} (h : 67 ≤ i) : kd i = 99 := by
  show kdl.getD i 99 = 99
  rw [List.getD_eq_getElem?_getD, List.getElem?_eq_none (by have : kdl.length = 67 := rfl; omega)]
  rfl
theorem okv.mem {K : List Nat} {i : Nat} (h : okv K (.ref i)) (hk : kd i ≠ 99) : i ∈ K := by
  rcases h with h | h
  · exact h
  · exact absurd (kd_big (Nat.le_trans (by decide) (show 70 ≤ i from h))) hk
section FR
variable {G : GT} {own : String} {cc : ByteArray} {R : Room} {Fx : FxT} {pc : Nat} {L : List (Option Value)} {S : List Value} {K : List Nat} {N : NN} {I : MM} {cs ss : Nat}

theorem x_iconst {n : Int} (hd : decode cc pc = .ok (.iconst n, 1)) (h : XX G own cc R Fx (pc + 1) L (vi n :: S) K N I cs ss) : XX G own cc R Fx pc L (S) K N I cs ss := by
  obtain ⟨p, e, s, m, args, below, meth, c, Q, nL, a0, K0⟩ := Fx
  intro ok al H locs ls st
  obtain ⟨hx, hb, hml, hown, hts, hE, hA⟩ := id ok
  have k := h ok al H locs ls (st.to (fun q => q.cons trivial))
  exact lv_iconst hx hb hd rfl k
theorem x_bipush {n : Int} (hd : decode cc pc = .ok (.bipush n, 2)) (hn : -128 ≤ n ∧ n ≤ 127) (h : XX G own cc R Fx (pc + 2) L (vi n :: S) K N I cs ss) : XX G own cc R Fx pc L (S) K N I cs ss := by
  obtain ⟨p, e, s, m, args, below, meth, c, Q, nL, a0, K0⟩ := Fx
  intro ok al H locs ls st
  obtain ⟨hx, hb, hml, hown, hts, hE, hA⟩ := id ok
  have k := h ok al H locs ls (st.to (fun q => q.cons trivial))
  exact lv_bipush hx hb hd (by rw [← Int8.ofInt_toInt (Int8.ofInt n)] ; rw [Int8.toInt_ofInt_of_le (by omega) (by omega)]; exact Int32.toInt_inj.mp (by rw [Int8.toInt_toInt32, Int8.toInt_ofInt_of_le (by omega) (by omega), oi_toInt (by unfold inr; omega)])) k
theorem x_sipush {n : Int} (hd : decode cc pc = .ok (.sipush n, 3)) (hn : -32768 ≤ n ∧ n ≤ 32767) (h : XX G own cc R Fx (pc + 3) L (vi n :: S) K N I cs ss) : XX G own cc R Fx pc L (S) K N I cs ss := by
  obtain ⟨p, e, s, m, args, below, meth, c, Q, nL, a0, K0⟩ := Fx
  intro ok al H locs ls st
  obtain ⟨hx, hb, hml, hown, hts, hE, hA⟩ := id ok
  have k := h ok al H locs ls (st.to (fun q => q.cons trivial))
  exact lv_sipush hx hb hd (Int32.toInt_inj.mp (by rw [Int16.toInt_toInt32, Int16.toInt_ofInt_of_le (by omega) (by omega), oi_toInt (by unfold inr; omega)])) k
theorem x_lconst0  (hd : decode cc pc = .ok (.lconst 0, 1)) (h : XX G own cc R Fx (pc + 1) L (vl 0 :: S) K N I cs ss) : XX G own cc R Fx pc L (S) K N I cs ss := by
  obtain ⟨p, e, s, m, args, below, meth, c, Q, nL, a0, K0⟩ := Fx
  intro ok al H locs ls st
  obtain ⟨hx, hb, hml, hown, hts, hE, hA⟩ := id ok
  have k := h ok al H locs ls (st.to (fun q => q.cons trivial))
  exact lv_lconst hx hb hd rfl k
theorem x_lconst1  (hd : decode cc pc = .ok (.lconst 1, 1)) (h : XX G own cc R Fx (pc + 1) L (vl 1 :: S) K N I cs ss) : XX G own cc R Fx pc L (S) K N I cs ss := by
  obtain ⟨p, e, s, m, args, below, meth, c, Q, nL, a0, K0⟩ := Fx
  intro ok al H locs ls st
  obtain ⟨hx, hb, hml, hown, hts, hE, hA⟩ := id ok
  have k := h ok al H locs ls (st.to (fun q => q.cons trivial))
  exact lv_lconst hx hb hd rfl k
theorem x_ldc {n : Int} {x : Nat} (hd : decode cc pc = .ok (.ldc x, 2)) (hw : Cond.constant own x (Int32.ofInt n) ∈ Wd) (h : XX G own cc R Fx (pc + 2) L (vi n :: S) K N I cs ss) : XX G own cc R Fx pc L (S) K N I cs ss := by
  obtain ⟨p, e, s, m, args, below, meth, c, Q, nL, a0, K0⟩ := Fx
  intro ok al H locs ls st
  obtain ⟨hx, hb, hml, hown, hts, hE, hA⟩ := id ok
  have k := h ok al H locs ls (st.to (fun q => q.cons trivial))
  exact lv_ldc hx hb hown (hts _ hw) hd k
theorem x_ldc2 {n : Int} {x : Nat} (hd : decode cc pc = .ok (.ldc2_w x, 3)) (hw : Cond.constantLong own x (Int64.ofInt n) ∈ Wd) (h : XX G own cc R Fx (pc + 3) L (vl n :: S) K N I cs ss) : XX G own cc R Fx pc L (S) K N I cs ss := by
  obtain ⟨p, e, s, m, args, below, meth, c, Q, nL, a0, K0⟩ := Fx
  intro ok al H locs ls st
  obtain ⟨hx, hb, hml, hown, hts, hE, hA⟩ := id ok
  have k := h ok al H locs ls (st.to (fun q => q.cons trivial))
  exact lv_ldc2 hx hb hown (hts _ hw) hd k
theorem x_iload_n {i : Fin 4} {z : Int} (hd : decode cc pc = .ok (.iload_n i, 1)) (hl : L[(i : Nat)]? = some (some (vi z))) (h : XX G own cc R Fx (pc + 1) L (vi z :: S) K N I cs ss) : XX G own cc R Fx pc L (S) K N I cs ss := by
  obtain ⟨p, e, s, m, args, below, meth, c, Q, nL, a0, K0⟩ := Fx
  intro ok al H locs ls st
  obtain ⟨hx, hb, hml, hown, hts, hE, hA⟩ := id ok
  have k := h ok al H locs ls (st.to (fun q => q.cons (st.2.2.2.1 _ _ hl)))
  exact lv_iload_n hx hb hd rfl (st.2.2.1.2.2.2 _ _ hl) k
theorem x_iload {i : Nat} {z : Int} (hd : decode cc pc = .ok (.iload i, 2)) (hl : L[(i : Nat)]? = some (some (vi z))) (h : XX G own cc R Fx (pc + 2) L (vi z :: S) K N I cs ss) : XX G own cc R Fx pc L (S) K N I cs ss := by
  obtain ⟨p, e, s, m, args, below, meth, c, Q, nL, a0, K0⟩ := Fx
  intro ok al H locs ls st
  obtain ⟨hx, hb, hml, hown, hts, hE, hA⟩ := id ok
  have k := h ok al H locs ls (st.to (fun q => q.cons (st.2.2.2.1 _ _ hl)))
  exact lv_iload hx hb hd (st.2.2.1.2.2.2 _ _ hl) k
theorem x_lload_n {i : Fin 4} {z : Int} (hd : decode cc pc = .ok (.lload_n i, 1)) (hl : L[(i : Nat)]? = some (some (vl z))) (h : XX G own cc R Fx (pc + 1) L (vl z :: S) K N I cs ss) : XX G own cc R Fx pc L (S) K N I cs ss := by
  obtain ⟨p, e, s, m, args, below, meth, c, Q, nL, a0, K0⟩ := Fx
  intro ok al H locs ls st
  obtain ⟨hx, hb, hml, hown, hts, hE, hA⟩ := id ok
  have k := h ok al H locs ls (st.to (fun q => q.cons (st.2.2.2.1 _ _ hl)))
  exact lv_lload_n hx hb hd rfl (st.2.2.1.2.2.2 _ _ hl) k
theorem x_lload {i : Nat} {z : Int} (hd : decode cc pc = .ok (.lload i, 2)) (hl : L[(i : Nat)]? = some (some (vl z))) (h : XX G own cc R Fx (pc + 2) L (vl z :: S) K N I cs ss) : XX G own cc R Fx pc L (S) K N I cs ss := by
  obtain ⟨p, e, s, m, args, below, meth, c, Q, nL, a0, K0⟩ := Fx
  intro ok al H locs ls st
  obtain ⟨hx, hb, hml, hown, hts, hE, hA⟩ := id ok
  have k := h ok al H locs ls (st.to (fun q => q.cons (st.2.2.2.1 _ _ hl)))
  exact lv_lload hx hb hd (st.2.2.1.2.2.2 _ _ hl) k
theorem x_aload_n {i : Fin 4} {z : Nat} (hd : decode cc pc = .ok (.aload_n i, 1)) (hl : L[(i : Nat)]? = some (some (.ref z))) (h : XX G own cc R Fx (pc + 1) L (.ref z :: S) K N I cs ss) : XX G own cc R Fx pc L (S) K N I cs ss := by
  obtain ⟨p, e, s, m, args, below, meth, c, Q, nL, a0, K0⟩ := Fx
  intro ok al H locs ls st
  obtain ⟨hx, hb, hml, hown, hts, hE, hA⟩ := id ok
  have k := h ok al H locs ls (st.to (fun q => q.cons (st.2.2.2.1 _ _ hl)))
  exact lv_aload_n hx hb hd rfl (st.2.2.1.2.2.2 _ _ hl) k
theorem x_aload {i : Nat} {z : Nat} (hd : decode cc pc = .ok (.aload i, 2)) (hl : L[(i : Nat)]? = some (some (.ref z))) (h : XX G own cc R Fx (pc + 2) L (.ref z :: S) K N I cs ss) : XX G own cc R Fx pc L (S) K N I cs ss := by
  obtain ⟨p, e, s, m, args, below, meth, c, Q, nL, a0, K0⟩ := Fx
  intro ok al H locs ls st
  obtain ⟨hx, hb, hml, hown, hts, hE, hA⟩ := id ok
  have k := h ok al H locs ls (st.to (fun q => q.cons (st.2.2.2.1 _ _ hl)))
  exact lv_aload hx hb hd (st.2.2.1.2.2.2 _ _ hl) k
theorem x_aload_nN {i : Fin 4} (hd : decode cc pc = .ok (.aload_n i, 1)) (hl : L[(i : Nat)]? = some (some .null)) (h : XX G own cc R Fx (pc + 1) L (.null :: S) K N I cs ss) : XX G own cc R Fx pc L (S) K N I cs ss := by
  obtain ⟨p, e, s, m, args, below, meth, c, Q, nL, a0, K0⟩ := Fx
  intro ok al H locs ls st
  obtain ⟨hx, hb, hml, hown, hts, hE, hA⟩ := id ok
  have k := h ok al H locs ls (st.to (fun q => q.cons trivial))
  exact lv_aload_nN hx hb hd rfl (st.2.2.1.2.2.2 _ _ hl) k
theorem x_iadd {a b : Int} (hd : decode cc pc = .ok (.iadd, 1)) (h : XX G own cc R Fx (pc + 1) L (vi (a + b) :: S) K N I cs ss) : XX G own cc R Fx pc L (vi b :: vi a :: S) K N I cs ss := by
  obtain ⟨p, e, s, m, args, below, meth, c, Q, nL, a0, K0⟩ := Fx
  intro ok al H locs ls st
  obtain ⟨hx, hb, hml, hown, hts, hE, hA⟩ := id ok
  have k := h ok al H locs ls (st.to (fun q => q.tail.tail.cons trivial))
  exact lv_iadd hx hb hd (by rw [← Int32.ofInt_add]; exact k)
theorem x_isub {a b : Int} (hd : decode cc pc = .ok (.isub, 1)) (h : XX G own cc R Fx (pc + 1) L (vi (a - b) :: S) K N I cs ss) : XX G own cc R Fx pc L (vi b :: vi a :: S) K N I cs ss := by
  obtain ⟨p, e, s, m, args, below, meth, c, Q, nL, a0, K0⟩ := Fx
  intro ok al H locs ls st
  obtain ⟨hx, hb, hml, hown, hts, hE, hA⟩ := id ok
  have k := h ok al H locs ls (st.to (fun q => q.tail.tail.cons trivial))
  exact lv_isub hx hb hd (by rw [← Int32.ofInt_sub]; exact k)
theorem x_imul {a b : Int} (hd : decode cc pc = .ok (.imul, 1)) (h : XX G own cc R Fx (pc + 1) L (vi (a * b) :: S) K N I cs ss) : XX G own cc R Fx pc L (vi b :: vi a :: S) K N I cs ss := by
  obtain ⟨p, e, s, m, args, below, meth, c, Q, nL, a0, K0⟩ := Fx
  intro ok al H locs ls st
  obtain ⟨hx, hb, hml, hown, hts, hE, hA⟩ := id ok
  have k := h ok al H locs ls (st.to (fun q => q.tail.tail.cons trivial))
  exact lv_imul hx hb hd (by rw [← Int32.ofInt_mul]; exact k)
theorem x_ladd {a b : Int} (hd : decode cc pc = .ok (.ladd, 1)) (h : XX G own cc R Fx (pc + 1) L (vl (a + b) :: S) K N I cs ss) : XX G own cc R Fx pc L (vl b :: vl a :: S) K N I cs ss := by
  obtain ⟨p, e, s, m, args, below, meth, c, Q, nL, a0, K0⟩ := Fx
  intro ok al H locs ls st
  obtain ⟨hx, hb, hml, hown, hts, hE, hA⟩ := id ok
  have k := h ok al H locs ls (st.to (fun q => q.tail.tail.cons trivial))
  exact lv_ladd hx hb hd (by rw [← Int64.ofInt_add]; exact k)
theorem x_lmul {a b : Int} (hd : decode cc pc = .ok (.lmul, 1)) (h : XX G own cc R Fx (pc + 1) L (vl (a * b) :: S) K N I cs ss) : XX G own cc R Fx pc L (vl b :: vl a :: S) K N I cs ss := by
  obtain ⟨p, e, s, m, args, below, meth, c, Q, nL, a0, K0⟩ := Fx
  intro ok al H locs ls st
  obtain ⟨hx, hb, hml, hown, hts, hE, hA⟩ := id ok
  have k := h ok al H locs ls (st.to (fun q => q.tail.tail.cons trivial))
  exact lv_lmul hx hb hd (by rw [← Int64.ofInt_mul]; exact k)
theorem oi_ne0 {b : Int} (hb : inr b) (h : b ≠ 0) : ¬ Int32.ofInt b = 0 := by rw [← oi_0, oi_eq hb inr0]; exact h
theorem ol_eq {a b : Int} (ha : inl a) (hb : inl b) : Int64.ofInt a = Int64.ofInt b ↔ a = b := by rw [← Int64.toInt_inj, ol_toInt ha, ol_toInt hb]
theorem ol_ne0 {b : Int} (hb : inl b) (h : b ≠ 0) : ¬ Int64.ofInt b = 0 := by rw [show (0 : Int64) = Int64.ofInt 0 from rfl, ol_eq hb (by unfold inl; omega)]; exact h
theorem oi_div {a b : Int} (ha : 0 ≤ a ∧ inr a) (hb : 0 < b ∧ inr b) : Int32.ofInt a / Int32.ofInt b = Int32.ofInt (a / b) := by
  have hq : inr (a / b) := by
    have h1 : 0 ≤ a / b := Int.ediv_nonneg ha.1 (Int.le_of_lt hb.1)
    have h2 : a / b ≤ a := Int.ediv_le_self b ha.1
    have := ha.2; unfold inr at *; omega
  apply Int32.toInt_inj.mp
  rw [Int32.toInt_div_of_ne_right _ _ (by rw [show (-1 : Int32) = Int32.ofInt (-1) from rfl, Ne, oi_eq hb.2 (by unfold inr; omega)]; omega), oi_toInt ha.2, oi_toInt hb.2, oi_toInt hq, Int.tdiv_eq_ediv_of_nonneg ha.1]
theorem ol_div {a b : Int} (ha : 0 ≤ a ∧ inl a) (hb : 0 < b ∧ inl b) : Int64.ofInt a / Int64.ofInt b = Int64.ofInt (a / b) := by
  have hq : inl (a / b) := by
    have h1 : 0 ≤ a / b := Int.ediv_nonneg ha.1 (Int.le_of_lt hb.1)
    have h2 : a / b ≤ a := Int.ediv_le_self b ha.1
    have := ha.2; unfold inl at *; omega
  apply Int64.toInt_inj.mp
  rw [Int64.toInt_div_of_ne_right _ _ (by rw [show (-1 : Int64) = Int64.ofInt (-1) from rfl, Ne, ol_eq hb.2 (by unfold inl; omega)]; omega), ol_toInt ha.2, ol_toInt hb.2, ol_toInt hq, Int.tdiv_eq_ediv_of_nonneg ha.1]
theorem oi_rem {a b : Int} (ha : 0 ≤ a ∧ inr a) (hb : 0 < b ∧ inr b) : Int32.ofInt a - Int32.ofInt a / Int32.ofInt b * Int32.ofInt b = Int32.ofInt (a % b) := by
  rw [oi_div ha hb, ← Int32.ofInt_mul, ← Int32.ofInt_sub]
  congr 1
  rw [Int.emod_def, Int.mul_comm b]
theorem ol_rem {a b : Int} (ha : 0 ≤ a ∧ inl a) (hb : 0 < b ∧ inl b) : Int64.ofInt a - Int64.ofInt a / Int64.ofInt b * Int64.ofInt b = Int64.ofInt (a % b) := by
  rw [ol_div ha hb, ← Int64.ofInt_mul, ← Int64.ofInt_sub]
  congr 1
  rw [Int.emod_def, Int.mul_comm b]
theorem x_idiv {a b : Int} (hd : decode cc pc = .ok (.idiv, 1)) (ha : 0 ≤ a ∧ inr a) (hz : 0 < b ∧ inr b) (h : XX G own cc R Fx (pc + 1) L (vi (a / b) :: S) K N I cs ss) : XX G own cc R Fx pc L (vi b :: vi a :: S) K N I cs ss := by
  obtain ⟨p, e, s, m, args, below, meth, c, Q, nL, a0, K0⟩ := Fx
  intro ok al H locs ls st
  obtain ⟨hx, hb, hml, hown, hts, hE, hA⟩ := id ok
  have k := h ok al H locs ls (st.to (fun q => q.tail.tail.cons trivial))
  exact lv_idiv hx hb hd (oi_ne0 hz.2 (by omega)) (by rw [oi_div ha hz]; exact k)
theorem x_irem {a b : Int} (hd : decode cc pc = .ok (.irem, 1)) (ha : 0 ≤ a ∧ inr a) (hz : 0 < b ∧ inr b) (h : XX G own cc R Fx (pc + 1) L (vi (a % b) :: S) K N I cs ss) : XX G own cc R Fx pc L (vi b :: vi a :: S) K N I cs ss := by
  obtain ⟨p, e, s, m, args, below, meth, c, Q, nL, a0, K0⟩ := Fx
  intro ok al H locs ls st
  obtain ⟨hx, hb, hml, hown, hts, hE, hA⟩ := id ok
  have k := h ok al H locs ls (st.to (fun q => q.tail.tail.cons trivial))
  exact lv_irem hx hb hd (oi_ne0 hz.2 (by omega)) (by rw [oi_rem ha hz]; exact k)
theorem x_ldiv {a b : Int} (hd : decode cc pc = .ok (.ldiv, 1)) (ha : 0 ≤ a ∧ inl a) (hz : 0 < b ∧ inl b) (h : XX G own cc R Fx (pc + 1) L (vl (a / b) :: S) K N I cs ss) : XX G own cc R Fx pc L (vl b :: vl a :: S) K N I cs ss := by
  obtain ⟨p, e, s, m, args, below, meth, c, Q, nL, a0, K0⟩ := Fx
  intro ok al H locs ls st
  obtain ⟨hx, hb, hml, hown, hts, hE, hA⟩ := id ok
  have k := h ok al H locs ls (st.to (fun q => q.tail.tail.cons trivial))
  exact lv_ldiv hx hb hd (ol_ne0 hz.2 (by omega)) (by rw [ol_div ha hz]; exact k)
theorem x_lrem {a b : Int} (hd : decode cc pc = .ok (.lrem, 1)) (ha : 0 ≤ a ∧ inl a) (hz : 0 < b ∧ inl b) (h : XX G own cc R Fx (pc + 1) L (vl (a % b) :: S) K N I cs ss) : XX G own cc R Fx pc L (vl b :: vl a :: S) K N I cs ss := by
  obtain ⟨p, e, s, m, args, below, meth, c, Q, nL, a0, K0⟩ := Fx
  intro ok al H locs ls st
  obtain ⟨hx, hb, hml, hown, hts, hE, hA⟩ := id ok
  have k := h ok al H locs ls (st.to (fun q => q.tail.tail.cons trivial))
  exact lv_lrem hx hb hd (ol_ne0 hz.2 (by omega)) (by rw [ol_rem ha hz]; exact k)
theorem x_i2l {a : Int} (hd : decode cc pc = .ok (.i2l, 1)) (ha : inr a) (h : XX G own cc R Fx (pc + 1) L (vl a :: S) K N I cs ss) : XX G own cc R Fx pc L (vi a :: S) K N I cs ss := by
  obtain ⟨p, e, s, m, args, below, meth, c, Q, nL, a0, K0⟩ := Fx
  intro ok al H locs ls st
  obtain ⟨hx, hb, hml, hown, hts, hE, hA⟩ := id ok
  have k := h ok al H locs ls (st.to (fun q => q.tail.cons trivial))
  exact lv_i2l hx hb hd (Int64.toInt_inj.mp (by rw [Int32.toInt_toInt64, oi_toInt ha, ol_toInt (by unfold inr at ha; unfold inl; omega)])) k
theorem x_l2i {a : Int} (hd : decode cc pc = .ok (.l2i, 1)) (h : XX G own cc R Fx (pc + 1) L (vi a :: S) K N I cs ss) : XX G own cc R Fx pc L (vl a :: S) K N I cs ss := by
  obtain ⟨p, e, s, m, args, below, meth, c, Q, nL, a0, K0⟩ := Fx
  intro ok al H locs ls st
  obtain ⟨hx, hb, hml, hown, hts, hE, hA⟩ := id ok
  have k := h ok al H locs ls (st.to (fun q => q.tail.cons trivial))
  exact lv_l2i hx hb hd (Int64.toInt32_ofInt) k
theorem x_dupR {i : Nat} (hd : decode cc pc = .ok (.dup, 1)) (h : XX G own cc R Fx (pc + 1) L (.ref i :: .ref i :: S) K N I cs ss) : XX G own cc R Fx pc L (.ref i :: S) K N I cs ss := by
  obtain ⟨p, e, s, m, args, below, meth, c, Q, nL, a0, K0⟩ := Fx
  intro ok al H locs ls st
  obtain ⟨hx, hb, hml, hown, hts, hE, hA⟩ := id ok
  have k := h ok al H locs ls (st.to (fun q => q.cons q.head))
  exact lv_dup hx hb hd rfl k
theorem x_dupI {a : Int} (hd : decode cc pc = .ok (.dup, 1)) (h : XX G own cc R Fx (pc + 1) L (vi a :: vi a :: S) K N I cs ss) : XX G own cc R Fx pc L (vi a :: S) K N I cs ss := by
  obtain ⟨p, e, s, m, args, below, meth, c, Q, nL, a0, K0⟩ := Fx
  intro ok al H locs ls st
  obtain ⟨hx, hb, hml, hown, hts, hE, hA⟩ := id ok
  have k := h ok al H locs ls (st.to (fun q => q.cons q.head))
  exact lv_dup hx hb hd rfl k
theorem x_dup2 {i : Nat} {a : Int} (hd : decode cc pc = .ok (.dup2, 1)) (h : XX G own cc R Fx (pc + 1) L (vi a :: .ref i :: vi a :: .ref i :: S) K N I cs ss) : XX G own cc R Fx pc L (vi a :: .ref i :: S) K N I cs ss := by
  obtain ⟨p, e, s, m, args, below, meth, c, Q, nL, a0, K0⟩ := Fx
  intro ok al H locs ls st
  obtain ⟨hx, hb, hml, hown, hts, hE, hA⟩ := id ok
  have k := h ok al H locs ls (st.to (fun q => (q.cons q.tail.head).cons trivial))
  exact lv_dup2_11 hx hb hd rfl rfl k
theorem x_iand {a b : Int} (v : Int) (hd : decode cc pc = .ok (.iand, 1)) (hv : Int32.ofInt a &&& Int32.ofInt b = Int32.ofInt v) (h : XX G own cc R Fx (pc + 1) L (vi v :: S) K N I cs ss) : XX G own cc R Fx pc L (vi b :: vi a :: S) K N I cs ss := by
  obtain ⟨p, e, s, m, args, below, meth, c, Q, nL, a0, K0⟩ := Fx
  intro ok al H locs ls st
  obtain ⟨hx, hb, hml, hown, hts, hE, hA⟩ := id ok
  have k := h ok al H locs ls (st.to (fun q => q.tail.tail.cons trivial))
  exact lv_iand hx hb hd (by rw [hv]; exact k)
theorem x_ior {a b : Int} (v : Int) (hd : decode cc pc = .ok (.ior, 1)) (hv : Int32.ofInt a ||| Int32.ofInt b = Int32.ofInt v) (h : XX G own cc R Fx (pc + 1) L (vi v :: S) K N I cs ss) : XX G own cc R Fx pc L (vi b :: vi a :: S) K N I cs ss := by
  obtain ⟨p, e, s, m, args, below, meth, c, Q, nL, a0, K0⟩ := Fx
  intro ok al H locs ls st
  obtain ⟨hx, hb, hml, hown, hts, hE, hA⟩ := id ok
  have k := h ok al H locs ls (st.to (fun q => q.tail.tail.cons trivial))
  exact lv_ior hx hb hd (by rw [hv]; exact k)
theorem x_ixor {a b : Int} (v : Int) (hd : decode cc pc = .ok (.ixor, 1)) (hv : Int32.ofInt a ^^^ Int32.ofInt b = Int32.ofInt v) (h : XX G own cc R Fx (pc + 1) L (vi v :: S) K N I cs ss) : XX G own cc R Fx pc L (vi b :: vi a :: S) K N I cs ss := by
  obtain ⟨p, e, s, m, args, below, meth, c, Q, nL, a0, K0⟩ := Fx
  intro ok al H locs ls st
  obtain ⟨hx, hb, hml, hown, hts, hE, hA⟩ := id ok
  have k := h ok al H locs ls (st.to (fun q => q.tail.tail.cons trivial))
  exact lv_ixor hx hb hd (by rw [hv]; exact k)
theorem x_ishl {a b : Int} (v : Int) (hd : decode cc pc = .ok (.ishl, 1)) (hv : Int32.ofInt a <<< (Int32.ofInt b &&& 31) = Int32.ofInt v) (h : XX G own cc R Fx (pc + 1) L (vi v :: S) K N I cs ss) : XX G own cc R Fx pc L (vi b :: vi a :: S) K N I cs ss := by
  obtain ⟨p, e, s, m, args, below, meth, c, Q, nL, a0, K0⟩ := Fx
  intro ok al H locs ls st
  obtain ⟨hx, hb, hml, hown, hts, hE, hA⟩ := id ok
  have k := h ok al H locs ls (st.to (fun q => q.tail.tail.cons trivial))
  exact lv_ishl hx hb hd (by rw [hv]; exact k)
theorem x_ishr {a b : Int} (v : Int) (hd : decode cc pc = .ok (.ishr, 1)) (hv : Int32.ofInt a >>> (Int32.ofInt b &&& 31) = Int32.ofInt v) (h : XX G own cc R Fx (pc + 1) L (vi v :: S) K N I cs ss) : XX G own cc R Fx pc L (vi b :: vi a :: S) K N I cs ss := by
  obtain ⟨p, e, s, m, args, below, meth, c, Q, nL, a0, K0⟩ := Fx
  intro ok al H locs ls st
  obtain ⟨hx, hb, hml, hown, hts, hE, hA⟩ := id ok
  have k := h ok al H locs ls (st.to (fun q => q.tail.tail.cons trivial))
  exact lv_ishr hx hb hd (by rw [hv]; exact k)
theorem ol_lt {a b : Int} (ha : inl a) (hb : inl b) : Int64.ofInt a < Int64.ofInt b ↔ a < b := by rw [Int64.lt_iff_toInt_lt, ol_toInt ha, ol_toInt hb]
theorem x_lcmp {a b : Int} (hd : decode cc pc = .ok (.lcmp, 1)) (ha : inl a) (hz : inl b) (h : XX G own cc R Fx (pc + 1) L (vi (if a < b then -1 else if a = b then 0 else 1) :: S) K N I cs ss) : XX G own cc R Fx pc L (vl b :: vl a :: S) K N I cs ss := by
  obtain ⟨p, e, s, m, args, below, meth, c, Q, nL, a0, K0⟩ := Fx
  intro ok al H locs ls st
  obtain ⟨hx, hb, hml, hown, hts, hE, hA⟩ := id ok
  have k := h ok al H locs ls (st.to (fun q => q.tail.tail.cons trivial))
  exact W.lcmp hx hb hd (by
    have e : lg_cmp (Int64.ofInt a) (Int64.ofInt b) = Int32.ofInt (if a < b then -1 else if a = b then 0 else 1) := by
      simp only [lg_cmp, ol_lt ha hz, ol_lt hz ha, ol_eq ha hz]
      by_cases h1 : a < b
      · have h2 : ¬ b < a := by omega
        have h3 : ¬ a = b := by omega
        simp [h1, h2, h3]; try rfl
      · by_cases h2 : b < a
        · have h3 : ¬ a = b := by omega
          simp [h1, h2, h3]; try rfl
        · have h3 : a = b := by omega
          subst h3
          simp; try rfl
    rw [e]; exact k)
theorem x_icmp_eq {a b : Int} {off : Int} (tgt : Nat) (hd : decode cc pc = .ok (.if_icmp .eq off, 3)) (ht : (pc : Int) + off = (tgt : Int)) (ha : inr a) (hz : inr b) (kt : a = b → XX G own cc R Fx tgt L S K N I cs ss) (kf : ¬ a = b → XX G own cc R Fx (pc + 3) L S K N I cs ss) : XX G own cc R Fx pc L (vi b :: vi a :: S) K N I cs ss := by
  obtain ⟨p, e, s, m, args, below, meth, c, Q, nL, a0, K0⟩ := Fx
  intro ok al H locs ls st
  obtain ⟨hx, hb, hml, hown, hts, hE, hA⟩ := id ok
  have lv := oi_eq ha hz
  exact lv_icmp_eq hx hb hd ht (fun q => kt (lv.mp q) ok al H locs ls (st.to (fun q => q.tail.tail))) (fun q => kf (fun z => q (lv.mpr z)) ok al H locs ls (st.to (fun q => q.tail.tail)))
theorem x_if_eq {a : Int} {off : Int} (tgt : Nat) (hd : decode cc pc = .ok (.ifCond .eq off, 3)) (ht : (pc : Int) + off = (tgt : Int)) (ha : inr a) (kt : a = 0 → XX G own cc R Fx tgt L S K N I cs ss) (kf : ¬ a = 0 → XX G own cc R Fx (pc + 3) L S K N I cs ss) : XX G own cc R Fx pc L (vi a :: S) K N I cs ss := by
  obtain ⟨p, e, s, m, args, below, meth, c, Q, nL, a0, K0⟩ := Fx
  intro ok al H locs ls st
  obtain ⟨hx, hb, hml, hown, hts, hE, hA⟩ := id ok
  have lv : Int32.ofInt a = 0 ↔ a = 0 := oi_eq ha inr0
  exact lv_if_eq hx hb hd ht (fun q => kt (lv.mp q) ok al H locs ls (st.to (fun q => q.tail))) (fun q => kf (fun z => q (lv.mpr z)) ok al H locs ls (st.to (fun q => q.tail)))
theorem x_icmp_ne {a b : Int} {off : Int} (tgt : Nat) (hd : decode cc pc = .ok (.if_icmp .ne off, 3)) (ht : (pc : Int) + off = (tgt : Int)) (ha : inr a) (hz : inr b) (kt : ¬ a = b → XX G own cc R Fx tgt L S K N I cs ss) (kf : a = b → XX G own cc R Fx (pc + 3) L S K N I cs ss) : XX G own cc R Fx pc L (vi b :: vi a :: S) K N I cs ss := by
  obtain ⟨p, e, s, m, args, below, meth, c, Q, nL, a0, K0⟩ := Fx
  intro ok al H locs ls st
  obtain ⟨hx, hb, hml, hown, hts, hE, hA⟩ := id ok
  have lv := oi_eq ha hz
  exact lv_icmp_ne hx hb hd ht (fun q => kt (fun z => q (lv.mpr z)) ok al H locs ls (st.to (fun q => q.tail.tail))) (fun q => kf (lv.mp q) ok al H locs ls (st.to (fun q => q.tail.tail)))
theorem x_if_ne {a : Int} {off : Int} (tgt : Nat) (hd : decode cc pc = .ok (.ifCond .ne off, 3)) (ht : (pc : Int) + off = (tgt : Int)) (ha : inr a) (kt : ¬ a = 0 → XX G own cc R Fx tgt L S K N I cs ss) (kf : a = 0 → XX G own cc R Fx (pc + 3) L S K N I cs ss) : XX G own cc R Fx pc L (vi a :: S) K N I cs ss := by
  obtain ⟨p, e, s, m, args, below, meth, c, Q, nL, a0, K0⟩ := Fx
  intro ok al H locs ls st
  obtain ⟨hx, hb, hml, hown, hts, hE, hA⟩ := id ok
  have lv : Int32.ofInt a = 0 ↔ a = 0 := oi_eq ha inr0
  exact lv_if_ne hx hb hd ht (fun q => kt (fun z => q (lv.mpr z)) ok al H locs ls (st.to (fun q => q.tail))) (fun q => kf (lv.mp q) ok al H locs ls (st.to (fun q => q.tail)))
theorem x_icmp_lt {a b : Int} {off : Int} (tgt : Nat) (hd : decode cc pc = .ok (.if_icmp .lt off, 3)) (ht : (pc : Int) + off = (tgt : Int)) (ha : inr a) (hz : inr b) (kt : a < b → XX G own cc R Fx tgt L S K N I cs ss) (kf : b ≤ a → XX G own cc R Fx (pc + 3) L S K N I cs ss) : XX G own cc R Fx pc L (vi b :: vi a :: S) K N I cs ss := by
  obtain ⟨p, e, s, m, args, below, meth, c, Q, nL, a0, K0⟩ := Fx
  intro ok al H locs ls st
  obtain ⟨hx, hb, hml, hown, hts, hE, hA⟩ := id ok
  have lv := oi_lt ha hz
  exact lv_icmp_lt hx hb hd ht (fun q => kt (lv.mp q) ok al H locs ls (st.to (fun q => q.tail.tail))) (fun q => kf (Int.not_lt.mp (fun z => q (lv.mpr z))) ok al H locs ls (st.to (fun q => q.tail.tail)))
theorem x_if_lt {a : Int} {off : Int} (tgt : Nat) (hd : decode cc pc = .ok (.ifCond .lt off, 3)) (ht : (pc : Int) + off = (tgt : Int)) (ha : inr a) (kt : a < 0 → XX G own cc R Fx tgt L S K N I cs ss) (kf : 0 ≤ a → XX G own cc R Fx (pc + 3) L S K N I cs ss) : XX G own cc R Fx pc L (vi a :: S) K N I cs ss := by
  obtain ⟨p, e, s, m, args, below, meth, c, Q, nL, a0, K0⟩ := Fx
  intro ok al H locs ls st
  obtain ⟨hx, hb, hml, hown, hts, hE, hA⟩ := id ok
  have lv : Int32.ofInt a < 0 ↔ a < 0 := oi_lt ha inr0
  exact lv_if_lt hx hb hd ht (fun q => kt (lv.mp q) ok al H locs ls (st.to (fun q => q.tail))) (fun q => kf (Int.not_lt.mp (fun z => q (lv.mpr z))) ok al H locs ls (st.to (fun q => q.tail)))
theorem x_icmp_ge {a b : Int} {off : Int} (tgt : Nat) (hd : decode cc pc = .ok (.if_icmp .ge off, 3)) (ht : (pc : Int) + off = (tgt : Int)) (ha : inr a) (hz : inr b) (kt : b ≤ a → XX G own cc R Fx tgt L S K N I cs ss) (kf : a < b → XX G own cc R Fx (pc + 3) L S K N I cs ss) : XX G own cc R Fx pc L (vi b :: vi a :: S) K N I cs ss := by
  obtain ⟨p, e, s, m, args, below, meth, c, Q, nL, a0, K0⟩ := Fx
  intro ok al H locs ls st
  obtain ⟨hx, hb, hml, hown, hts, hE, hA⟩ := id ok
  have lv := oi_le hz ha
  exact lv_icmp_ge hx hb hd ht (fun q => kt (lv.mp q) ok al H locs ls (st.to (fun q => q.tail.tail))) (fun q => kf (Int.not_le.mp (fun z => q (lv.mpr z))) ok al H locs ls (st.to (fun q => q.tail.tail)))
theorem x_if_ge {a : Int} {off : Int} (tgt : Nat) (hd : decode cc pc = .ok (.ifCond .ge off, 3)) (ht : (pc : Int) + off = (tgt : Int)) (ha : inr a) (kt : 0 ≤ a → XX G own cc R Fx tgt L S K N I cs ss) (kf : a < 0 → XX G own cc R Fx (pc + 3) L S K N I cs ss) : XX G own cc R Fx pc L (vi a :: S) K N I cs ss := by
  obtain ⟨p, e, s, m, args, below, meth, c, Q, nL, a0, K0⟩ := Fx
  intro ok al H locs ls st
  obtain ⟨hx, hb, hml, hown, hts, hE, hA⟩ := id ok
  have lv : (0 : Int32) ≤ Int32.ofInt a ↔ 0 ≤ a := oi_le inr0 ha
  exact lv_if_ge hx hb hd ht (fun q => kt (lv.mp q) ok al H locs ls (st.to (fun q => q.tail))) (fun q => kf (Int.not_le.mp (fun z => q (lv.mpr z))) ok al H locs ls (st.to (fun q => q.tail)))
theorem x_icmp_gt {a b : Int} {off : Int} (tgt : Nat) (hd : decode cc pc = .ok (.if_icmp .gt off, 3)) (ht : (pc : Int) + off = (tgt : Int)) (ha : inr a) (hz : inr b) (kt : b < a → XX G own cc R Fx tgt L S K N I cs ss) (kf : a ≤ b → XX G own cc R Fx (pc + 3) L S K N I cs ss) : XX G own cc R Fx pc L (vi b :: vi a :: S) K N I cs ss := by
  obtain ⟨p, e, s, m, args, below, meth, c, Q, nL, a0, K0⟩ := Fx
  intro ok al H locs ls st
  obtain ⟨hx, hb, hml, hown, hts, hE, hA⟩ := id ok
  have lv := oi_lt hz ha
  exact lv_icmp_gt hx hb hd ht (fun q => kt (lv.mp q) ok al H locs ls (st.to (fun q => q.tail.tail))) (fun q => kf (Int.not_lt.mp (fun z => q (lv.mpr z))) ok al H locs ls (st.to (fun q => q.tail.tail)))
theorem x_if_gt {a : Int} {off : Int} (tgt : Nat) (hd : decode cc pc = .ok (.ifCond .gt off, 3)) (ht : (pc : Int) + off = (tgt : Int)) (ha : inr a) (kt : 0 < a → XX G own cc R Fx tgt L S K N I cs ss) (kf : a ≤ 0 → XX G own cc R Fx (pc + 3) L S K N I cs ss) : XX G own cc R Fx pc L (vi a :: S) K N I cs ss := by
  obtain ⟨p, e, s, m, args, below, meth, c, Q, nL, a0, K0⟩ := Fx
  intro ok al H locs ls st
  obtain ⟨hx, hb, hml, hown, hts, hE, hA⟩ := id ok
  have lv : (0 : Int32) < Int32.ofInt a ↔ 0 < a := oi_lt inr0 ha
  exact lv_if_gt hx hb hd ht (fun q => kt (lv.mp q) ok al H locs ls (st.to (fun q => q.tail))) (fun q => kf (Int.not_lt.mp (fun z => q (lv.mpr z))) ok al H locs ls (st.to (fun q => q.tail)))
theorem x_icmp_le {a b : Int} {off : Int} (tgt : Nat) (hd : decode cc pc = .ok (.if_icmp .le off, 3)) (ht : (pc : Int) + off = (tgt : Int)) (ha : inr a) (hz : inr b) (kt : a ≤ b → XX G own cc R Fx tgt L S K N I cs ss) (kf : b < a → XX G own cc R Fx (pc + 3) L S K N I cs ss) : XX G own cc R Fx pc L (vi b :: vi a :: S) K N I cs ss := by
  obtain ⟨p, e, s, m, args, below, meth, c, Q, nL, a0, K0⟩ := Fx
  intro ok al H locs ls st
  obtain ⟨hx, hb, hml, hown, hts, hE, hA⟩ := id ok
  have lv := oi_le ha hz
  exact lv_icmp_le hx hb hd ht (fun q => kt (lv.mp q) ok al H locs ls (st.to (fun q => q.tail.tail))) (fun q => kf (Int.not_le.mp (fun z => q (lv.mpr z))) ok al H locs ls (st.to (fun q => q.tail.tail)))
theorem x_if_le {a : Int} {off : Int} (tgt : Nat) (hd : decode cc pc = .ok (.ifCond .le off, 3)) (ht : (pc : Int) + off = (tgt : Int)) (ha : inr a) (kt : a ≤ 0 → XX G own cc R Fx tgt L S K N I cs ss) (kf : 0 < a → XX G own cc R Fx (pc + 3) L S K N I cs ss) : XX G own cc R Fx pc L (vi a :: S) K N I cs ss := by
  obtain ⟨p, e, s, m, args, below, meth, c, Q, nL, a0, K0⟩ := Fx
  intro ok al H locs ls st
  obtain ⟨hx, hb, hml, hown, hts, hE, hA⟩ := id ok
  have lv : Int32.ofInt a ≤ 0 ↔ a ≤ 0 := oi_le ha inr0
  exact lv_if_le hx hb hd ht (fun q => kt (lv.mp q) ok al H locs ls (st.to (fun q => q.tail))) (fun q => kf (Int.not_le.mp (fun z => q (lv.mpr z))) ok al H locs ls (st.to (fun q => q.tail)))
theorem x_goto {off : Int} (tgt : Nat) (hd : decode cc pc = .ok (.goto off, 3)) (ht : (pc : Int) + off = (tgt : Int)) (h : XX G own cc R Fx tgt L S K N I cs ss) : XX G own cc R Fx pc L S K N I cs ss := by
  obtain ⟨p, e, s, m, args, below, meth, c, Q, nL, a0, K0⟩ := Fx
  intro ok al H locs ls st
  obtain ⟨hx, hb, hml, hown, hts, hE, hA⟩ := id ok
  exact lv_goto hx hb hd ht (h ok al H locs ls st)
theorem x_nonnullR {i : Nat} {off : Int} (tgt : Nat) (hd : decode cc pc = .ok (.ifnonnull off, 3)) (ht : (pc : Int) + off = (tgt : Int)) (h : XX G own cc R Fx tgt L S K N I cs ss) : XX G own cc R Fx pc L (.ref i :: S) K N I cs ss := by
  obtain ⟨p, e, s, m, args, below, meth, c, Q, nL, a0, K0⟩ := Fx
  intro ok al H locs ls st
  obtain ⟨hx, hb, hml, hown, hts, hE, hA⟩ := id ok
  exact lv_ifnonnull hx hb hd ht (h ok al H locs ls (st.to (fun q => q.tail)))
theorem x_nonnullN {off : Int} (hd : decode cc pc = .ok (.ifnonnull off, 3)) (h : XX G own cc R Fx (pc + 3) L S K N I cs ss) : XX G own cc R Fx pc L (.null :: S) K N I cs ss := by
  obtain ⟨p, e, s, m, args, below, meth, c, Q, nL, a0, K0⟩ := Fx
  intro ok al H locs ls st
  obtain ⟨hx, hb, hml, hown, hts, hE, hA⟩ := id ok
  exact lv_ifnonnullN hx hb hd (h ok al H locs ls (st.to (fun q => q.tail)))
theorem x_tabOut {dflt lo hi : Int} {offs : Array Int} {len : Nat} {a : Int} (tgt : Nat) (hd : decode cc pc = .ok (.tableswitch dflt lo hi offs, len)) (ha : inr a) (hz : a < lo ∨ hi < a) (ht : (pc : Int) + dflt = (tgt : Int)) (h : XX G own cc R Fx tgt L S K N I cs ss) : XX G own cc R Fx pc L (vi a :: S) K N I cs ss := by
  obtain ⟨p, e, s, m, args, below, meth, c, Q, nL, a0, K0⟩ := Fx
  intro ok al H locs ls st
  obtain ⟨hx, hb, hml, hown, hts, hE, hA⟩ := id ok
  exact lv_tableOut hx hb hd (by rw [oi_toInt ha]; exact hz) ht (h ok al H locs ls (st.to (fun q => q.tail)))
theorem x_tabIn {dflt lo hi : Int} {offs : Array Int} {len : Nat} {a off : Int} (tgt : Nat) (hd : decode cc pc = .ok (.tableswitch dflt lo hi offs, len)) (ha : inr a) (hz : lo ≤ a ∧ a ≤ hi) (ho : offs[(a - lo).toNat]? = some off) (ht : (pc : Int) + off = (tgt : Int)) (h : XX G own cc R Fx tgt L S K N I cs ss) : XX G own cc R Fx pc L (vi a :: S) K N I cs ss := by
  obtain ⟨p, e, s, m, args, below, meth, c, Q, nL, a0, K0⟩ := Fx
  intro ok al H locs ls st
  obtain ⟨hx, hb, hml, hown, hts, hE, hA⟩ := id ok
  exact lv_tableIn hx hb hd (by rw [oi_toInt ha]; omega) (by rw [oi_toInt ha]; omega) (by rw [oi_toInt ha]; exact ho) ht (h ok al H locs ls (st.to (fun q => q.tail)))
theorem x_lookup {dflt : Int} {ps : Array (Int × Int)} {len : Nat} {a off : Int} (tgt : Nat) (hd : decode cc pc = .ok (.lookupswitch dflt ps, len)) (ha : inr a) (hp : (ps.toList.zip (ps.toList.drop 1)).all (fun (a, next) => a.1 < next.1) = true) (ho : Op.lookupswitch.offset ps.toList dflt a = off) (ht : (pc : Int) + off = (tgt : Int)) (h : XX G own cc R Fx tgt L S K N I cs ss) : XX G own cc R Fx pc L (vi a :: S) K N I cs ss := by
  obtain ⟨p, e, s, m, args, below, meth, c, Q, nL, a0, K0⟩ := Fx
  intro ok al H locs ls st
  obtain ⟨hx, hb, hml, hown, hts, hE, hA⟩ := id ok
  exact lv_lookup hx hb hd hp (by rw [oi_toInt ha]; exact ho) ht (h ok al H locs ls (st.to (fun q => q.tail)))
theorem x_widen {k n : Nat} (h1 : cs ≤ k) (h2 : ss ≤ n) (h : XX G own cc R Fx pc L S K N I k n) : XX G own cc R Fx pc L S K N I cs ss := by
  obtain ⟨p, e, s, m, args, below, meth, c, Q, nL, a0, K0⟩ := Fx
  intro ok al H locs ls st
  exact W.widen h1 h2 (h ok al H locs ls st)
end FR

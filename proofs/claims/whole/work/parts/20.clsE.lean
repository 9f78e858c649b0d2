/-! ===== SpringFarms: what is heard ===== -/
def sgB (T sf st : Nat → Int) : Nat → Bool
  | 0 => true
  | j + 1 => sgB T sf st j && decide (T (sf j).toNat = st j)
theorem sgB_no {T sf st : Nat → Int} {f : Nat} (h : sgB T sf st f = false) : ∀ d, sgB T sf st (f + d) = false
  | 0 => h
  | d + 1 => by
    have := sgB_no h d
    show (sgB T sf st (f + d) && _) = _
    rw [this]; rfl
/-- the sights of a world -/
def SG (I : MM) (n s : Nat) : Prop := I 1 2 = (s : Int) ∧ s ≤ 8 ∧ ∀ j, j < s → (0 ≤ I 4 j ∧ I 4 j < n) ∧ (0 ≤ I 5 j ∧ I 5 j ≤ 9)
def FD (J : MM) (fl : List Int) : Prop := J 0 11 = (fl.length : Int) ∧ ∀ j, j < fl.length → J 35 j = fl.getD j 0
def foA (fl : List Int) (i : Int) : Int := if i = -1 then (fl.length : Int) else if 0 ≤ i ∧ i < fl.length then fl.getD i.toNat 0 else -6
theorem FD.add {J : MM} {fl : List Int} {a : Int} (h : FD J fl) : FD (up (up J 35 fl.length a) 0 11 (fl.length + 1)) (fl ++ [a]) := by
  refine ⟨by rw [up_s]; simp, fun j hj => ?_⟩
  rw [up_n1 (by omega)]
  simp only [List.length_append, List.length_cons, List.length_nil] at hj
  by_cases e : j = fl.length
  · subst e
    rw [up_s]; simp
  · rw [up_n2 e, h.2 j (by omega)]
    simp only [List.getD_eq_getElem?_getD]
    rw [List.getElem?_append_left (by omega)]
theorem FD.kp {I J : MM} {fl : List Int} (h : FD I fl) (h1 : J 0 11 = I 0 11) (h2 : ∀ j, J 35 j = I 35 j) : FD J fl := ⟨h1.trans h.1, fun j hj => (h2 j).trans (h.2 j hj)⟩
def clL (P : Nat → Bool) (V : Nat → Int) : Nat → List Int
  | 0 => []
  | k + 1 => clL P V k ++ (if P k = true then [V k] else [])
def clA (L : Nat → List Int) : Nat → List Int
  | 0 => []
  | f + 1 => clA L f ++ L f
theorem clL_len {P : Nat → Bool} {V : Nat → Int} : ∀ k, (clL P V k).length ≤ k
  | 0 => Nat.le_refl _
  | k + 1 => by
    have := clL_len (P := P) (V := V) k
    simp only [clL, List.length_append]
    split <;> simp <;> omega
theorem clL_end {P : Nat → Bool} {V : Nat → Int} {k : Nat} (h : ∀ j, k ≤ j → P j = false) : ∀ d, clL P V (k + d) = clL P V k
  | 0 => rfl
  | d + 1 => by
    show clL P V (k + d) ++ (if P (k + d) = true then [V (k + d)] else []) = _
    rw [h (k + d) (by omega), clL_end h d]; simp
theorem clA_len {L : Nat → List Int} {c : Nat} (h : ∀ f, (L f).length ≤ c) : ∀ f, (clA L f).length ≤ c * f
  | 0 => Nat.le_refl _
  | f + 1 => by
    have := clA_len h f
    have h2 := h f
    simp only [clA, List.length_append, Nat.mul_add, Nat.mul_one]
    omega
def tyAdd (t T : Nat → Int) (n : Nat) : Nat → Int := fun j => if j / 10 < n ∧ T (j / 10) = ((j % 10 : Nat) : Int) then t j + 1 else t j
def tcL (P : Nat → Bool) (T : Nat → Nat → Int) (n : Nat) : Nat → (Nat → Int) → Nat → Int
  | 0, t => t
  | k + 1, t => if P k = true then tyAdd (tcL P T n k t) (T k) n else tcL P T n k t
def tcA (P : Nat → Nat → Bool) (T : Nat → Nat → Nat → Int) (n : Nat) : Nat → Nat → Int
  | 0 => fun _ => 0
  | f + 1 => tcL (P f) (T f) n 9 (tcA P T n f)
theorem tcL_end {P : Nat → Bool} {T : Nat → Nat → Int} {n k : Nat} {t : Nat → Int} (h : ∀ j, k ≤ j → P j = false) : ∀ d, tcL P T n (k + d) t = tcL P T n k t
  | 0 => rfl
  | d + 1 => by
    show (if P (k + d) = true then _ else _) = _
    rw [h (k + d) (by omega), if_neg (by decide)]; exact tcL_end h d
theorem tyAdd_b {t T : Nat → Int} {n j : Nat} : t j ≤ tyAdd t T n j ∧ tyAdd t T n j ≤ t j + 1 := by unfold tyAdd; split <;> omega
theorem tcL_b {P : Nat → Bool} {T : Nat → Nat → Int} {n : Nat} {t : Nat → Int} {j : Nat} : ∀ k : Nat, t j ≤ tcL P T n k t j ∧ tcL P T n k t j ≤ t j + k
  | 0 => by simp [tcL]
  | k + 1 => by
    have := tcL_b (P := P) (T := T) (n := n) (t := t) (j := j) k
    have h2 := tyAdd_b (t := tcL P T n k t) (T := T k) (n := n) (j := j)
    simp only [tcL]
    split <;> omega
theorem tcA_b {P : Nat → Nat → Bool} {T : Nat → Nat → Nat → Int} {n j : Nat} : ∀ f : Nat, 0 ≤ tcA P T n f j ∧ tcA P T n f j ≤ 9 * (f : Int)
  | 0 => by simp [tcA]
  | f + 1 => by
    have := tcA_b (P := P) (T := T) (n := n) (j := j) f
    have h2 := tcL_b (P := P f) (T := T f) (n := n) (t := tcA P T n f) (j := j) 9
    simp only [tcA]
    omega
def mxT (t : Nat → Int) (f : Nat) : Nat → Int
  | 0 => 0
  | v + 1 => max (mxT t f v) (t (10 * f + v))
def bsA (M : Nat → Int) : Nat → Nat
  | 0 => 0
  | f + 1 => if M f < M (bsA M f) then f else bsA M f
-- what leaks fit, and what each would take
def lkP (F : Nat → Nat → Int) (l0 : Int) (sf st : Nat → Int) (s f k : Nat) : Bool := decide (F f 5 + ((k + 1 : Nat) : Int) ≤ 9) && sgB (tok (setF F f 5 (F f 5 + ((k + 1 : Nat) : Int))) 0 l0) sf st s
def lkT (F : Nat → Nat → Int) (l0 : Int) (f k : Nat) : Nat → Int := tok (setF F f 5 (F f 5 + ((k + 1 : Nat) : Int))) 0 l0
def lkA (F : Nat → Nat → Int) (l0 : Int) (sf st : Nat → Int) (s n : Nat) : List Int := clA (fun f => clL (lkP F l0 sf st s f) (fun k => 10 * (f : Int) + ((k + 1 : Nat) : Int)) 9) n
def lkY (F : Nat → Nat → Int) (l0 : Int) (sf st : Nat → Int) (s n m : Nat) : Nat → Int := tcA (lkP F l0 sf st s) (lkT F l0) n m
def boA (F : Nat → Nat → Int) (l0 : Int) (sf st : Nat → Int) (s n : Nat) : List Int := clA (fun f => clL (fun h => sgB (tok (setF F f 0 (h : Int)) 0 l0) sf st s) (fun h => 100 * (f : Int) + (h : Int)) (F f 0).toNat) n
def liA (F : Nat → Nat → Int) (l0 : Int) (sf st : Nat → Int) (s n : Nat) (w : Int) : Int := if (lkA F l0 sf st s n).length = 0 then -6 else if w = 0 then ((bsA (fun f => mxT (lkY F l0 sf st s n n) f 10) n : Nat) : Int) else mxT (lkY F l0 sf st s n n) (bsA (fun f => mxT (lkY F l0 sf st s n n) f 10) n) 10
theorem bsA_lt {M : Nat → Int} : ∀ f, 1 ≤ f → bsA M f < f
  | 1, _ => by simp [bsA]
  | f + 2, _ => by
    have := bsA_lt (M := M) (f + 1) (by omega)
    show (if M (f + 1) < M (bsA M (f + 1)) then f + 1 else bsA M (f + 1)) < f + 2
    split <;> omega
theorem setF_id {F : Nat → Nat → Int} {f k : Nat} {v : Int} : setF (setF F f k v) f k (F f k) = F := by
  funext g j; unfold setF
  by_cases h : g = f ∧ j = k
  · rw [if_pos h, h.1, h.2]
  · rw [if_neg h, if_neg h]
section FR
variable {G : GT} {K : List Nat} {N : NN} {I : MM} {n : Nat}
theorem sp_note (hN : NS N) {c : Nat} (hc : I 0 11 = (c : Int)) (hl : c < 450) {a : Int} : SpV G mX4_note 0 0 0 0 [.ref 0, vi a] K N I (qV K N (up (up I 35 c a) 0 11 (c + 1))) := by
  refine SpV.of (own := RX4) (cc := cX4_note) (L := [some (.ref 0), some (vi a)]) (by decide) rfl rfl (Nat.le_of_ble_eq_true rfl) rfl (fun Fx hnm hret => ?_)
  refine x_aload_n dX4_note_0 rfl ?_
  refine x_getI dX4_note_1 gf_RX4_190 rfl rfl ?_
  refine x_aload_n dX4_note_4 rfl ?_
  refine x_getR (j := 35) dX4_note_5 gf_RX4_57 rfl rfl (hN _ _ (by decide)) ?_
  refine x_alen dX4_note_8 rfl ?_
  refine x_eqV (b := 450) rfl ?_
  refine x_icmp_ge 32 dX4_note_9 (by decide) (by rw [hc]; unfold inr; omega) (by show inr 450; unfold inr; omega) (fun h_9 => ?_) (fun h_9 => ?_)
  · exfalso; rw [hc] at h_9; have h9 : (450 : Int) ≤ c := h_9; omega
  · refine x_aload_n dX4_note_12 rfl ?_
    refine x_getR (j := 35) dX4_note_13 gf_RX4_57 rfl rfl (hN _ _ (by decide)) ?_
    refine x_aload_n dX4_note_16 rfl ?_
    refine x_getI dX4_note_17 gf_RX4_190 rfl rfl ?_
    refine x_iload_n dX4_note_20 rfl ?_
    refine x_iast (c) dX4_note_21 rfl hc (show _ < 450 by omega) ?_
    refine x_aload_n dX4_note_22 rfl ?_
    refine x_dupR dX4_note_23 ?_
    refine x_getI dX4_note_24 gf_RX4_190 rfl rfl ?_
    refine x_iconst dX4_note_27 ?_
    refine x_iadd dX4_note_28 ?_
    refine x_putI dX4_note_29 pf_RX4_190 rfl rfl ?_
    refine hret _ _ _ _ _ dX4_note_32 ?_
    exact ⟨rfl, rfl, by rw [up_n1 (by omega), hc]⟩
theorem sp_foundAt (hN : NS N) {fl : List Int} (hF : FD I fl) (hl : fl.length ≤ 450) {i : Int} (hi : inr i) : SpI G mX4_foundAt .int 0 0 0 0 [.ref 0, vi i] K N I (qI K N I (foA fl i)) := by
  refine SpI.of (own := RX4) (cc := cX4_foundAt) (L := [some (.ref 0), some (vi i)]) (by decide) rfl rfl (Nat.le_of_ble_eq_true rfl) rfl (fun Fx hnm hret => ?_)
  refine x_iload_n dX4_foundAt_0 rfl ?_
  refine x_iconst dX4_foundAt_1 ?_
  refine x_icmp_ne 10 dX4_foundAt_2 (by decide) hi (by unfold inr; omega) (fun h_2 => ?_) (fun h_2 => ?_)
  · refine x_iload_n dX4_foundAt_10 rfl ?_
    refine x_if_lt 31 dX4_foundAt_11 (by decide) hi (fun h_11 => ?_) (fun h_11 => ?_)
    · refine x_bipush dX4_foundAt_31 (by decide) ?_
      refine hret _ _ _ _ _ _ dX4_foundAt_33 rfl ?_
      refine ⟨rfl, rfl, rfl, ?_⟩
      unfold foA
      try rw [hF.1] at h_19
      (repeat (first | rw [if_pos (by omega)] | rw [if_neg (by omega)])) <;> first | rfl | exact hF.1
    · refine x_iload_n dX4_foundAt_14 rfl ?_
      refine x_aload_n dX4_foundAt_15 rfl ?_
      refine x_getI dX4_foundAt_16 gf_RX4_190 rfl rfl ?_
      refine x_icmp_ge 31 dX4_foundAt_19 (by decide) hi (by rw [hF.1]; unfold inr; omega) (fun h_19 => ?_) (fun h_19 => ?_)
      · refine x_bipush dX4_foundAt_31 (by decide) ?_
        refine hret _ _ _ _ _ _ dX4_foundAt_33 rfl ?_
        refine ⟨rfl, rfl, rfl, ?_⟩
        unfold foA
        try rw [hF.1] at h_19
        (repeat (first | rw [if_pos (by omega)] | rw [if_neg (by omega)])) <;> first | rfl | exact hF.1
      · rw [hF.1] at h_19
        obtain ⟨j, rfl⟩ := toN h_11
        refine x_aload_n dX4_foundAt_22 rfl ?_
        refine x_getR (j := 35) dX4_foundAt_23 gf_RX4_57 rfl rfl (hN _ _ (by decide)) ?_
        refine x_iload_n dX4_foundAt_26 rfl ?_
        refine x_iald (j) dX4_foundAt_27 rfl (by omega) (show _ < 450 by omega) ?_
        rw [hF.2 j (by omega)]
        refine x_goto 33 dX4_foundAt_28 (by decide) ?_
        refine hret _ _ _ _ _ _ dX4_foundAt_33 rfl ?_
        refine ⟨rfl, rfl, rfl, ?_⟩
        unfold foA
        try rw [hF.1] at h_19
        (repeat (first | rw [if_pos (by omega)] | rw [if_neg (by omega)])) <;> first | rfl | exact hF.1
  · refine x_aload_n dX4_foundAt_5 rfl ?_
    refine x_getI dX4_foundAt_6 gf_RX4_190 rfl rfl ?_
    refine hret _ _ _ _ _ _ dX4_foundAt_9 rfl ?_
    refine ⟨rfl, rfl, rfl, ?_⟩
    unfold foA
    try rw [hF.1] at h_19
    (repeat (first | rw [if_pos (by omega)] | rw [if_neg (by omega)])) <;> first | rfl | exact hF.1
theorem sp_fitsIf (hN : NS N) {J0 : MM} {s : Nat} (hB : RB I 1 n) (hG : SG I n s) (hT : TrF I J0 n (fa I 1) (l0R I 1 0)) (f k : Nat) {zf zk v : Int} (hf : zf = (f : Int)) (hk : zk = (k : Int)) (hl : f < n ∧ k < 7) (hv : okF k v) : SpI G mX4_fitsIf .boolean 3 69 0 0 [.ref 0, vi zf, vi zk, vi v] K N J0 (pI K N (fun z J => z = (if sgB (tok (setF (fa I 1) f k v) 0 (l0R I 1 0)) (I 4) (I 5) s = true then 1 else 0) ∧ TrF I J n (fa I 1) (l0R I 1 0) ∧ (∀ g, g < n → J 16 g = tok (setF (fa I 1) f k v) 0 (l0R I 1 0) g) ∧ (∀ a j, (a = 0 ∨ 18 ≤ a) → J a j = J0 a j))) := by
  refine SpI.of (own := RX4) (cc := cX4_fitsIf) (L := [some (.ref 0), some (vi zf), some (vi zk), some (vi v), none]) (by decide) rfl rfl (Nat.le_of_ble_eq_true rfl) rfl (fun Fx hnm hret => ?_)
  have hn9 := hB.2.2.1
  have hT1 := hT.put (f := f) (k := k) (v := v) (by omega) hv
  have hT2 := hT1.fw
  obtain ⟨J, hJ⟩ : ∃ J, J = up (fwJ (up J0 7 (7 * f + k) v) 6 15 0 n) 7 (7 * f + k) (fa I 1 f k) := ⟨_, rfl⟩
  have hT3 : TrF I J n (fa I 1) (l0R I 1 0) := by
    have := hT2.put (f := f) (k := k) (v := fa I 1 f k) (by omega) (okF_at hB hl.1 hl.2)
    rw [setF_id, ← hJ] at this
    exact this
  have hT16 : ∀ g, g < n → J 16 g = tok (setF (fa I 1) f k v) 0 (l0R I 1 0) g := fun g hg => by
    rw [hJ, up_n1 (by omega), show fwJ _ 6 15 0 n 16 g = _ from fw_t hg, hT1.2.2.1, hT1.2.2.2]
  have hJ0 : ∀ a j, (a = 0 ∨ 18 ≤ a) → J a j = J0 a j := fun a j ha => by
    rw [hJ, up_n1 (by omega), fw_o (by omega), up_n1 (by omega)]
  have hJs : J 1 2 = (s : Int) := (hT3.1 1 2 (by unfold pcl; omega)).trans hG.1
  have hJ4 : ∀ j, J 4 j = I 4 j := fun j => hT3.1 4 j (by unfold pcl; omega)
  have hJ5 : ∀ j, J 5 j = I 5 j := fun j => hT3.1 5 j (by unfold pcl; omega)
  have hs8 := hG.2.1
  have bT : ∀ g, g < n → inr (J 16 g) := fun g hg => by
    have h := tok_b (kn := 0) hT1.2.1 hg
    rw [hT1.2.2.1, hT1.2.2.2] at h
    rw [hT16 g hg]; unfold inr; omega
  have lp : ∀ (m : Nat) (j : Nat) (z : Int), j ≤ s → s < j + m → z = (j : Int) → sgB (tok (setF (fa I 1) f k v) 0 (l0R I 1 0)) (I 4) (I 5) j = true → XX G RX4 cX4_fitsIf (RmW 3 69 0 0) Fx 43 [some (.ref 0), some (vi zf), some (vi zk), some (vi v), some (vi z)] [] K N J 0 0 := by
    intro m
    induction m with
    | zero => intros; exfalso; omega
    | succ m ih =>
      intro j z h0 h1 h2 h3
      have bG : j < s → _ := hG.2.2 j
      refine x_iload dX4_fitsIf_43 rfl ?_
      refine x_aload_n dX4_fitsIf_45 rfl ?_
      refine x_getR (j := 1) dX4_fitsIf_46 gf_RX4_10 rfl rfl (hN _ _ (by decide)) ?_
      refine x_getI dX4_fitsIf_49 gf_RX4_177 rfl rfl ?_
      rw [hJs]
      refine x_icmp_ge 94 dX4_fitsIf_52 (by decide) (by unfold inr; omega) (by unfold inr; omega) (fun h_52 => ?_) (fun h_52 => ?_)
      · refine x_iconst dX4_fitsIf_94 ?_
        refine hret _ _ _ _ _ _ dX4_fitsIf_95 rfl ?_
        obtain rfl : j = s := by omega
        exact ⟨rfl, rfl, by rw [if_pos h3], hT3, hT16, hJ0⟩
      · refine x_aload_n dX4_fitsIf_55 rfl ?_
        refine x_getR (j := 15) dX4_fitsIf_56 gf_RX4_30 rfl rfl (hN _ _ (by decide)) ?_
        refine x_getR (j := 16) dX4_fitsIf_59 gf_RX4_139 rfl rfl (hN _ _ (by decide)) ?_
        refine x_aload_n dX4_fitsIf_62 rfl ?_
        refine x_getR (j := 1) dX4_fitsIf_63 gf_RX4_10 rfl rfl (hN _ _ (by decide)) ?_
        refine x_getR (j := 4) dX4_fitsIf_66 gf_RX4_248 rfl rfl (hN _ _ (by decide)) ?_
        refine x_iload dX4_fitsIf_69 rfl ?_
        refine x_iald (j) dX4_fitsIf_71 rfl h2 (show _ < 8 by omega) ?_
        rw [hJ4]
        obtain ⟨i, hi⟩ := toN (bG (by omega)).1.1
        have hin := (bG (by omega)).1.2
        refine x_iald (i) dX4_fitsIf_72 rfl hi (show _ < 9 by omega) ?_
        refine x_aload_n dX4_fitsIf_73 rfl ?_
        refine x_getR (j := 1) dX4_fitsIf_74 gf_RX4_10 rfl rfl (hN _ _ (by decide)) ?_
        refine x_getR (j := 5) dX4_fitsIf_77 gf_RX4_251 rfl rfl (hN _ _ (by decide)) ?_
        refine x_iload dX4_fitsIf_80 rfl ?_
        refine x_iald (j) dX4_fitsIf_82 rfl h2 (show _ < 8 by omega) ?_
        rw [hJ5]
        refine x_icmp_eq 88 dX4_fitsIf_83 (by decide) (bT i (by omega)) (by have := bG (by omega); unfold inr; omega) (fun h_83 => ?_) (fun h_83 => ?_)
        · refine x_inc4 dX4_fitsIf_88 ?_
          refine x_goto 43 dX4_fitsIf_91 (by decide) ?_
          refine ih (j + 1) _ (by omega) (by omega) (by omega) ?_
          show (sgB _ (I 4) (I 5) j && decide (tok _ 0 _ (I 4 j).toNat = I 5 j)) = true
          rw [hT16 i (by omega)] at h_83
          rw [h3, hi]
          simpa using h_83
        · refine x_iconst dX4_fitsIf_86 ?_
          refine hret _ _ _ _ _ _ dX4_fitsIf_87 rfl ?_
          rw [hT16 i (by omega)] at h_83
          have e : sgB (tok (setF (fa I 1) f k v) 0 (l0R I 1 0)) (I 4) (I 5) (j + 1) = false := by
            show (sgB _ (I 4) (I 5) j && decide (tok _ 0 _ (I 4 j).toNat = I 5 j)) = false
            rw [h3, hi]
            simpa using h_83
          obtain ⟨q, hq⟩ : ∃ q, s = (j + 1) + q := ⟨s - (j + 1), by omega⟩
          have e2 := sgB_no e q
          rw [← hq] at e2
          exact ⟨rfl, rfl, by rw [if_neg (by rw [e2]; decide)], hT3, hT16, hJ0⟩
  refine x_aload_n dX4_fitsIf_0 rfl ?_
  refine x_getR (j := 6) dX4_fitsIf_1 gf_RX4_16 rfl rfl (hN _ _ (by decide)) ?_
  refine x_iload_n dX4_fitsIf_4 rfl ?_
  refine x_iload_n dX4_fitsIf_5 rfl ?_
  refine x_iload_n dX4_fitsIf_6 rfl ?_
  refine xf_VV3 dX4_fitsIf_7 ml_RX4_83 vw_X3_put vv_X3_put rfl (sp_put (b := 6) rfl hN f k hf hk (by omega)) ⟨Nat.le_of_ble_eq_true rfl, Nat.le_of_ble_eq_true rfl, Nat.le_of_ble_eq_true rfl, Nat.le_of_ble_eq_true rfl, Nat.le_of_ble_eq_true rfl⟩ ?_
  refine x_aload_n dX4_fitsIf_10 rfl ?_
  refine x_getR (j := 15) dX4_fitsIf_11 gf_RX4_30 rfl rfl (hN _ _ (by decide)) ?_
  refine x_aload_n dX4_fitsIf_14 rfl ?_
  refine x_getR (j := 6) dX4_fitsIf_15 gf_RX4_16 rfl rfl (hN _ _ (by decide)) ?_
  refine x_iconst dX4_fitsIf_18 ?_
  refine xf_VV2 dX4_fitsIf_19 ml_RX4_135 vw_X2_flow vv_X2_flow rfl (sp_flow (b := 6) (c := 15) rfl rfl hN hT1.2.1 (by unfold inr; omega)) ⟨Nat.le_of_ble_eq_true rfl, Nat.le_of_ble_eq_true rfl, Nat.le_of_ble_eq_true rfl, Nat.le_of_ble_eq_true rfl, Nat.le_of_ble_eq_true rfl⟩ ?_
  refine x_aload_n dX4_fitsIf_22 rfl ?_
  refine x_getR (j := 6) dX4_fitsIf_23 gf_RX4_16 rfl rfl (hN _ _ (by decide)) ?_
  refine x_iload_n dX4_fitsIf_26 rfl ?_
  refine x_iload_n dX4_fitsIf_27 rfl ?_
  refine x_aload_n dX4_fitsIf_28 rfl ?_
  refine x_getR (j := 1) dX4_fitsIf_29 gf_RX4_10 rfl rfl (hN _ _ (by decide)) ?_
  refine x_iload_n dX4_fitsIf_32 rfl ?_
  refine x_iload_n dX4_fitsIf_33 rfl ?_
  refine xf_VI2 dX4_fitsIf_34 ml_RX4_79 vw_X3_fact vv_X3_fact rfl (sp_fact (b := 1) rfl hN f k hf hk (by omega)) ⟨Nat.le_of_ble_eq_true rfl, Nat.le_of_ble_eq_true rfl, Nat.le_of_ble_eq_true rfl, Nat.le_of_ble_eq_true rfl, Nat.le_of_ble_eq_true rfl⟩ ?_
  rw [show fa (fwJ (up J0 7 (7 * f + k) v) 6 15 0 n) 1 = fa I 1 from fa_eq (fun j => hT2.1 2 j (by unfold pcl; omega))]
  refine xf_VV3 dX4_fitsIf_37 ml_RX4_83 vw_X3_put vv_X3_put rfl (sp_put (b := 6) rfl hN f k hf hk (by omega)) ⟨Nat.le_of_ble_eq_true rfl, Nat.le_of_ble_eq_true rfl, Nat.le_of_ble_eq_true rfl, Nat.le_of_ble_eq_true rfl, Nat.le_of_ble_eq_true rfl⟩ ?_
  refine x_iconst dX4_fitsIf_40 ?_
  refine x_ist4 dX4_fitsIf_41 ?_
  rw [show up (fwJ (up J0 (6 + 1) (7 * f + k) v) 6 15 0 n) (6 + 1) (7 * f + k) (fa I 1 f k) = J from hJ.symm]
  exact lp (s + 1) 0 _ (by omega) (by omega) rfl rfl
def tyJ (J : MM) (T : Nat → Int) (n : Nat) : MM := fun a j => if a = 32 then tyAdd (J 32) T n j else J a j
theorem tyJ_st {J : MM} {T : Nat → Int} {g i : Nat} (hi : T g = (i : Int)) (h9 : i ≤ 9) : up (tyJ J T g) 32 (10 * g + i) (tyJ J T g 32 (10 * g + i) + 1) = tyJ J T (g + 1) := by
  funext a j
  simp only [up, tyJ]
  by_cases h1 : a = 32
  · subst h1
    simp only [true_and, if_true]
    unfold tyAdd
    by_cases h2 : j = 10 * g + i
    · subst h2
      have e1 : (10 * g + i) / 10 = g := by omega
      have e2 : (10 * g + i) % 10 = i := by omega
      rw [e1, e2]
      rw [if_pos rfl, if_neg (by omega), if_pos ⟨by omega, hi⟩]
    · rw [if_neg h2]
      by_cases h3 : j / 10 < g ∧ T (j / 10) = ((j % 10 : Nat) : Int)
      · rw [if_pos h3, if_pos ⟨by omega, h3.2⟩]
      · rw [if_neg h3, if_neg]
        rintro ⟨q1, q2⟩
        by_cases e : j / 10 = g
        · rw [e, hi] at q2
          have : (i : Int) = ((j % 10 : Nat) : Int) := q2
          omega
        · exact h3 ⟨by omega, q2⟩
  · simp [h1]
theorem sp_tallyTaken (hN : NS N) {T : Nat → Int} (hn : I 1 0 = (n : Int)) (hn9 : n ≤ 9) (hT : ∀ g, g < n → I 16 g = T g ∧ 0 ≤ T g ∧ T g ≤ 9) : SpV G mX4_tallyTaken 0 0 0 0 [.ref 0] K N I (qV K N (tyJ I T n)) := by
  refine SpV.of (own := RX4) (cc := cX4_tallyTaken) (L := [some (.ref 0), none]) (by decide) rfl rfl (Nat.le_of_ble_eq_true rfl) rfl (fun Fx hnm hret => ?_)
  have lp : ∀ (m : Nat) (g : Nat) (z : Int) (J : MM), g ≤ n → n < g + m → z = (g : Int) → J = tyJ I T g → XX G RX4 cX4_tallyTaken (RmW 0 0 0 0) Fx 2 [some (.ref 0), some (vi z)] [] K N J 0 0 := by
    intro m
    induction m with
    | zero => intros; exfalso; omega
    | succ m ih =>
      intro g z J h0 h1 h2 h3
      have hJ0 : J 1 0 = (n : Int) := by rw [h3]; exact hn
      have hJT : J 16 g = I 16 g := by rw [h3]; rfl
      have bT : g < n → _ := hT g
      refine x_iload_n dX4_tallyTaken_2 rfl ?_
      refine x_aload_n dX4_tallyTaken_3 rfl ?_
      refine x_getR (j := 1) dX4_tallyTaken_4 gf_RX4_10 rfl rfl (hN _ _ (by decide)) ?_
      refine x_getI dX4_tallyTaken_7 gf_RX4_60 rfl rfl ?_
      rw [hJ0]
      refine x_icmp_ge 42 dX4_tallyTaken_10 (by decide) (by unfold inr; omega) (by unfold inr; omega) (fun h_10 => ?_) (fun h_10 => ?_)
      · refine hret _ _ _ _ _ dX4_tallyTaken_42 ?_
        obtain rfl : g = n := by omega
        exact ⟨rfl, rfl, h3⟩
      · refine x_aload_n dX4_tallyTaken_13 rfl ?_
        refine x_getR (j := 32) dX4_tallyTaken_14 gf_RX4_47 rfl rfl (hN _ _ (by decide)) ?_
        refine x_iload_n dX4_tallyTaken_17 rfl ?_
        refine x_bipush dX4_tallyTaken_18 (by decide) ?_
        refine x_imul dX4_tallyTaken_20 ?_
        refine x_aload_n dX4_tallyTaken_21 rfl ?_
        refine x_getR (j := 15) dX4_tallyTaken_22 gf_RX4_30 rfl rfl (hN _ _ (by decide)) ?_
        refine x_getR (j := 16) dX4_tallyTaken_25 gf_RX4_139 rfl rfl (hN _ _ (by decide)) ?_
        refine x_iload_n dX4_tallyTaken_28 rfl ?_
        refine x_iald (g) dX4_tallyTaken_29 rfl h2 (show _ < 9 by omega) ?_
        obtain ⟨i, hi⟩ := toN (bT (by omega)).2.1
        have bT2 := (bT (by omega)).2.2
        rw [hJT, (bT (by omega)).1, hi]
        refine x_iadd dX4_tallyTaken_30 ?_
        refine x_dup2 dX4_tallyTaken_31 ?_
        refine x_iald (10 * g + i) dX4_tallyTaken_32 rfl (by omega) (show _ < 90 by omega) ?_
        refine x_iconst dX4_tallyTaken_33 ?_
        refine x_iadd dX4_tallyTaken_34 ?_
        refine x_iast (10 * g + i) dX4_tallyTaken_35 rfl (by omega) (show _ < 90 by omega) ?_
        refine x_inc1 dX4_tallyTaken_36 ?_
        refine x_goto 2 dX4_tallyTaken_39 (by decide) ?_
        exact ih (g + 1) _ _ (by omega) (by omega) (by omega) (by rw [h3]; exact tyJ_st hi (by omega))
  refine x_iconst dX4_tallyTaken_0 ?_
  refine x_ist1 dX4_tallyTaken_1 ?_
  exact lp (n + 1) 0 _ _ (by omega) (by omega) rfl (by funext a j; simp only [tyJ, tyAdd]; by_cases h : a = 32 <;> simp [h])
theorem sp_mostLeft (hN : NS N) {t : Nat → Int} (ht : ∀ j, j < 90 → I 32 j = t j ∧ 0 ≤ t j ∧ t j ≤ 1000) (f : Nat) {zf : Int} (hf : zf = (f : Int)) (hl : f < 9) : SpI G mX4_mostLeft .int 1 21 0 0 [.ref 0, vi zf] K N I (qI K N I (mxT t f 10)) := by
  refine SpI.of (own := RX4) (cc := cX4_mostLeft) (L := [some (.ref 0), some (vi zf), none, none]) (by decide) rfl rfl (Nat.le_of_ble_eq_true rfl) rfl (fun Fx hnm hret => ?_)
  have lp : ∀ (m : Nat) (g : Nat) (z l : Int), g ≤ 10 → 10 < g + m → z = (g : Int) → l = mxT t f g → 0 ≤ l ∧ l ≤ 1000 → XX G RX4 cX4_mostLeft (RmW 1 21 0 0) Fx 4 [some (.ref 0), some (vi zf), some (vi l), some (vi z)] [] K N I 0 0 := by
    intro m
    induction m with
    | zero => intros; exfalso; omega
    | succ m ih =>
      intro g z l h0 h1 h2 h3 h4
      have bT : g < 10 → _ := fun hg => ht (10 * f + g) (by omega)
      refine x_iload_n dX4_mostLeft_4 rfl ?_
      refine x_bipush dX4_mostLeft_5 (by decide) ?_
      refine x_icmp_ge 32 dX4_mostLeft_7 (by decide) (by unfold inr; omega) (by unfold inr; omega) (fun h_7 => ?_) (fun h_7 => ?_)
      · refine x_iload_n dX4_mostLeft_32 rfl ?_
        refine hret _ _ _ _ _ _ dX4_mostLeft_33 rfl ?_
        obtain rfl : g = 10 := by omega
        exact ⟨rfl, rfl, rfl, h3⟩
      · refine x_iload_n dX4_mostLeft_10 rfl ?_
        refine x_aload_n dX4_mostLeft_11 rfl ?_
        refine x_getR (j := 32) dX4_mostLeft_12 gf_RX4_47 rfl rfl (hN _ _ (by decide)) ?_
        refine x_iload_n dX4_mostLeft_15 rfl ?_
        refine x_bipush dX4_mostLeft_16 (by decide) ?_
        refine x_imul dX4_mostLeft_18 ?_
        refine x_iload_n dX4_mostLeft_19 rfl ?_
        refine x_iadd dX4_mostLeft_20 ?_
        refine x_iald (10 * f + g) dX4_mostLeft_21 rfl (by omega) (show _ < 90 by omega) ?_
        have bT2 := bT (by omega)
        rw [bT2.1]
        refine x_max dX4_mostLeft_22 ml_RX4_155 st_mmax ini_java_lang_Math cd_mmax (by unfold inr; omega) (by unfold inr; omega) ⟨Nat.le_of_ble_eq_true rfl, Nat.le_of_ble_eq_true rfl, Nat.le_of_ble_eq_true rfl, Nat.le_of_ble_eq_true rfl⟩ ?_
        refine x_ist2 dX4_mostLeft_25 ?_
        refine x_inc3 dX4_mostLeft_26 ?_
        refine x_goto 4 dX4_mostLeft_29 (by decide) ?_
        exact ih (g + 1) _ _ (by omega) (by omega) (by omega) (by rw [h3]; rfl) (by omega)
  refine x_iconst dX4_mostLeft_0 ?_
  refine x_ist2 dX4_mostLeft_1 ?_
  refine x_iconst dX4_mostLeft_2 ?_
  refine x_ist3 dX4_mostLeft_3 ?_
  exact lp 11 0 _ _ (by omega) (by omega) rfl rfl (by omega)
end FR

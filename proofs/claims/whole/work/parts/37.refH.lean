/-! ===== the reference: where to listen next ===== -/
def tcQ (P : Nat → Nat → Bool) (T : Nat → Nat → Nat → Int) (n : Nat) : Nat → Nat → Int
  | 0 => fun _ => 0
  | k + 1 => if P (k / 9) (k % 9) = true then tyAdd (tcQ P T n k) (T (k / 9) (k % 9)) n else tcQ P T n k
def clQ (P : Nat → Nat → Bool) (V : Nat → Nat → Int) : Nat → List Int
  | 0 => []
  | k + 1 => clQ P V k ++ (if P (k / 9) (k % 9) = true then [V (k / 9) (k % 9)] else [])
theorem tcQ_A {P : Nat → Nat → Bool} {T : Nat → Nat → Nat → Int} {n : Nat} : ∀ f, (∀ j, j ≤ 9 → tcQ P T n (9 * f + j) = tcL (P f) (T f) n j (tcA P T n f))
  | 0, 0, _ => rfl
  | f + 1, 0, _ => tcQ_A f 9 (Nat.le_refl _)
  | f, j + 1, h => by
    have ih := tcQ_A (P := P) (T := T) (n := n) f j (by omega)
    have e1 : (9 * f + j) / 9 = f := by omega
    have e2 : (9 * f + j) % 9 = j := by omega
    show (if P ((9 * f + j) / 9) ((9 * f + j) % 9) = true then tyAdd (tcQ P T n (9 * f + j)) (T ((9 * f + j) / 9) ((9 * f + j) % 9)) n else tcQ P T n (9 * f + j)) = (if P f j = true then tyAdd (tcL (P f) (T f) n j (tcA P T n f)) (T f j) n else tcL (P f) (T f) n j (tcA P T n f))
    rw [e1, e2, ih]
  termination_by f j => (f, j)
theorem clQ_A {P : Nat → Nat → Bool} {V : Nat → Nat → Int} : ∀ f, (∀ j, j ≤ 9 → clQ P V (9 * f + j) = clA (fun f => clL (P f) (V f) 9) f ++ clL (P f) (V f) j)
  | 0, 0, _ => rfl
  | f + 1, 0, _ => by
    show clQ P V (9 * (f + 1)) = clA _ (f + 1) ++ []
    rw [List.append_nil]
    exact clQ_A f 9 (Nat.le_refl _)
  | f, j + 1, h => by
    have ih := clQ_A (P := P) (V := V) f j (by omega)
    have e1 : (9 * f + j) / 9 = f := by omega
    have e2 : (9 * f + j) % 9 = j := by omega
    show clQ P V (9 * f + j) ++ (if P ((9 * f + j) / 9) ((9 * f + j) % 9) = true then [V ((9 * f + j) / 9) ((9 * f + j) % 9)] else []) = _ ++ (clL (P f) (V f) j ++ (if P f j = true then [V f j] else []))
    rw [e1, e2, ih, List.append_assoc]
  termination_by f j => (f, j)
theorem clQ_len {P : Nat → Nat → Bool} {V : Nat → Nat → Int} : ∀ k, (clQ P V k).length ≤ k
  | 0 => Nat.le_refl _
  | k + 1 => by
    have := clQ_len (P := P) (V := V) k
    simp only [clQ, List.length_append]
    split <;> simp <;> omega
theorem tcQ_b {P : Nat → Nat → Bool} {T : Nat → Nat → Nat → Int} {n j : Nat} : ∀ k : Nat, 0 ≤ tcQ P T n k j ∧ tcQ P T n k j ≤ k
  | 0 => by simp [tcQ]
  | k + 1 => by
    have := tcQ_b (P := P) (T := T) (n := n) (j := j) k
    have h2 := tyAdd_b (t := tcQ P T n k) (T := T (k / 9) (k % 9)) (n := n) (j := j)
    simp only [tcQ]
    split <;> omega
theorem ty_st {t T : Nat → Int} {g i j : Nat} (hi : T g = (i : Int)) (h9 : i ≤ 9) : tyAdd t T (g + 1) j = if j = 10 * g + i then tyAdd t T g j + 1 else tyAdd t T g j := by
  unfold tyAdd
  by_cases h2 : j = 10 * g + i
  · subst h2
    rw [show (10 * g + i) / 10 = g by omega, show (10 * g + i) % 10 = i by omega]
    rw [if_pos ⟨by omega, hi⟩, if_pos rfl, if_neg (by omega)]
  · rw [if_neg h2]
    by_cases h3 : j / 10 < g ∧ T (j / 10) = ((j % 10 : Nat) : Int)
    · rw [if_pos h3, if_pos ⟨by omega, h3.2⟩]
    · rw [if_neg h3, if_neg]
      rintro ⟨q1, q2⟩
      by_cases e : j / 10 = g
      · rw [e, hi] at q2
        have : (i : Int) = ((j % 10 : Nat) : Int) := q2
        omega
      · exact h3 ⟨by omega, q2⟩
theorem lk_b {I : MM} {n s f k g : Nat} (hB : RM I n) (hf : f < n) (h : lkP (fm I) (l0M I 0) (I 52) (I 53) s f k = true) (hg : g < n) : 0 ≤ lkT (fm I) (l0M I 0) f k g ∧ lkT (fm I) (l0M I 0) f k g ≤ 9 := by
  have hn9 := hB.2.2.1
  have bF := hB.2.2.2.1 f hf
  unfold lkP at h
  rw [Bool.and_eq_true, decide_eq_true_iff] at h
  have hb := (hB.put (f := f) (k := 5) (v := fm I f 5 + ((k + 1 : Nat) : Int)) (by omega) (by unfold okF; omega)).tokb (kn := 0) hg
  rw [fm_put (by omega), l0M_eq (I := I) (up_n1 (by omega)) (up_n1 (by omega)) (up_n1 (by omega))] at hb
  exact hb
section FR
variable {G : GT} {K : List Nat} {N : NN} {I : MM} {n : Nat}
theorem sp_mostLeftAt (hN : NS N) {t : Nat → Int} (ht : ∀ j, j < 90 → I 63 j = t j ∧ 0 ≤ t j ∧ t j ≤ 1000) (f : Nat) {zf : Int} (hf : zf = (f : Int)) (hl : f < 9) : SpI G mX5_mostLeftAt .int 0 0 0 0 [.ref 50, vi zf] K N I (qI K N I (mxT t f 10)) := by
  refine SpI.of (own := RX5) (cc := cX5_mostLeftAt) (L := [some (.ref 50), some (vi zf), none, none]) (by decide) rfl rfl (Nat.le_of_ble_eq_true rfl) rfl (fun Fx hnm hret => ?_)
  have lp : ∀ (m : Nat) (g : Nat) (z l : Int), g ≤ 10 → 10 < g + m → z = (g : Int) → l = mxT t f g → 0 ≤ l ∧ l ≤ 1000 → XX G RX5 cX5_mostLeftAt (RmW 0 0 0 0) Fx 4 [some (.ref 50), some (vi zf), some (vi l), some (vi z)] [] K N I 0 0 := by
    intro m
    induction m with
    | zero => intros; exfalso; omega
    | succ m ih =>
      intro g z l h0 h1 h2 h3 h4
      have bT : g < 10 → _ := fun hg => ht (10 * f + g) (by omega)
      have e : mxT t f (g + 1) = max (mxT t f g) (t (10 * f + g)) := rfl
      refine x_iload_n dX5_mostLeftAt_4 rfl ?_
      refine x_bipush dX5_mostLeftAt_5 (by decide) ?_
      refine x_icmp_ge 47 dX5_mostLeftAt_7 (by decide) (by unfold inr; omega) (by unfold inr; omega) (fun h_7 => ?_) (fun h_7 => ?_)
      · refine x_iload_n dX5_mostLeftAt_47 rfl ?_
        refine hret _ _ _ _ _ _ dX5_mostLeftAt_48 rfl ?_
        obtain rfl : g = 10 := by omega
        exact ⟨rfl, rfl, rfl, h3⟩
      · refine x_aload_n dX5_mostLeftAt_10 rfl ?_
        refine x_getR (j := 63) dX5_mostLeftAt_11 gf_RX5_46 rfl rfl (hN _ _ (by decide)) ?_
        refine x_bipush dX5_mostLeftAt_14 (by decide) ?_
        refine x_iload_n dX5_mostLeftAt_16 rfl ?_
        refine x_imul dX5_mostLeftAt_17 ?_
        refine x_iload_n dX5_mostLeftAt_18 rfl ?_
        refine x_iadd dX5_mostLeftAt_19 ?_
        refine x_iald (10 * f + g) dX5_mostLeftAt_20 rfl (by omega) (show _ < 90 by omega) ?_
        have bT2 := bT (by omega)
        rw [bT2.1]
        refine x_iload_n dX5_mostLeftAt_21 rfl ?_
        refine x_icmp_le 39 dX5_mostLeftAt_22 (by decide) (by unfold inr; omega) (by unfold inr; omega) (fun h_22 => ?_) (fun h_22 => ?_)
        · refine x_iload_n dX5_mostLeftAt_39 rfl ?_
          refine x_ist2 dX5_mostLeftAt_40 ?_
          refine x_inc3 dX5_mostLeftAt_41 ?_
          refine x_goto 4 dX5_mostLeftAt_44 (by decide) ?_
          exact ih (g + 1) _ _ (by omega) (by omega) (by omega) (by rw [e, ← h3]; omega) (by omega)
        · refine x_aload_n dX5_mostLeftAt_25 rfl ?_
          refine x_getR (j := 63) dX5_mostLeftAt_26 gf_RX5_46 rfl rfl (hN _ _ (by decide)) ?_
          refine x_bipush dX5_mostLeftAt_29 (by decide) ?_
          refine x_iload_n dX5_mostLeftAt_31 rfl ?_
          refine x_imul dX5_mostLeftAt_32 ?_
          refine x_iload_n dX5_mostLeftAt_33 rfl ?_
          refine x_iadd dX5_mostLeftAt_34 ?_
          refine x_iald (10 * f + g) dX5_mostLeftAt_35 rfl (by omega) (show _ < 90 by omega) ?_
          rw [bT2.1]
          refine x_goto 40 dX5_mostLeftAt_36 (by decide) ?_
          refine x_ist2 dX5_mostLeftAt_40 ?_
          refine x_inc3 dX5_mostLeftAt_41 ?_
          refine x_goto 4 dX5_mostLeftAt_44 (by decide) ?_
          exact ih (g + 1) _ _ (by omega) (by omega) (by omega) (by rw [e, ← h3]; omega) (by omega)
  refine x_iconst dX5_mostLeftAt_0 ?_
  refine x_ist2 dX5_mostLeftAt_1 ?_
  refine x_iconst dX5_mostLeftAt_2 ?_
  refine x_ist3 dX5_mostLeftAt_3 ?_
  exact lp 11 0 _ _ (by omega) (by omega) rfl rfl (by omega)
theorem sp_mlisten (hN : NS N) (hB : RM I n) {s : Nat} (hG : SM I n s) {w : Int} (hw : inr w) : SpI G mX5_listen .int 5 114 0 0 [.ref 50, vi w] K N I (pI K N (fun z J => z = (if 0 ≤ w ∧ w ≤ 1 then liA (fm I) (l0M I 0) (I 52) (I 53) s n w else -2) ∧ kpM I J)) := by
  refine SpI.of (own := RX5) (cc := cX5_listen) (L := [some (.ref 50), some (vi w), none, none, none]) (by decide) rfl rfl (Nat.le_of_ble_eq_true rfl) rfl (fun Fx hnm hret => ?_)
  have hn9 := hB.2.2.1
  have hn1 := hB.2.1
  obtain ⟨P, hP⟩ : ∃ P, P = lkP (fm I) (l0M I 0) (I 52) (I 53) s := ⟨_, rfl⟩
  obtain ⟨T, hT⟩ : ∃ T, T = lkT (fm I) (l0M I 0) := ⟨_, rfl⟩
  obtain ⟨V, hV⟩ : ∃ V : Nat → Nat → Int, V = fun (f k : Nat) => 10 * (f : Int) + ((k + 1 : Nat) : Int) := ⟨_, rfl⟩
  obtain ⟨t, ht⟩ : ∃ t, t = lkY (fm I) (l0M I 0) (I 52) (I 53) s n n := ⟨_, rfl⟩
  have htq : tcQ P T n (9 * n) = t := by
    rw [ht, show 9 * n = 9 * n + 0 from rfl, tcQ_A n 0 (by omega), hP, hT]; rfl
  have hlq : (clQ P V (9 * n)).length = (lkA (fm I) (l0M I 0) (I 52) (I 53) s n).length := by
    rw [show 9 * n = 9 * n + 0 from rfl, clQ_A n 0 (by omega), show clL (P n) (V n) 0 = [] from rfl, List.append_nil, hP, hV]; rfl
  have htb : ∀ j, 0 ≤ t j ∧ t j ≤ 1000 := fun j => by
    have := tcQ_b (P := P) (T := T) (n := n) (j := j) (9 * n)
    rw [← htq]; omega
  have hMb : ∀ f v, 0 ≤ mxT t f v ∧ mxT t f v ≤ 1000 := fun f v => by
    induction v with
    | zero => simp [mxT]
    | succ v ih => have := htb (10 * f + v); simp only [mxT]; omega
  have lp3 : ∀ (m : Nat) (g : Nat) (z y c : Int) (J : MM), 1 ≤ g → g ≤ n → n < g + m → z = (g : Int) → y = ((bsA (fun f => mxT t f 10) g : Nat) : Int) → (0 ≤ w ∧ w ≤ 1) → kpM I J → (lkA (fm I) (l0M I 0) (I 52) (I 53) s n).length ≠ 0 → (∀ j, j < 90 → J 63 j = t j) → XX G RX5 cX5_listen (RmW 5 114 0 0) Fx 127 [some (.ref 50), some (vi w), some (vi c), some (vi y), some (vi z)] [] K N J 0 0 := by
    intro m
    induction m with
    | zero => intros; exfalso; omega
    | succ m ih =>
      intro g z y c J hg1 h0 h1 h2 h3 hw1 h4 hne h5
      have hJ0 := (h4.RM hB).1
      have hbs := bsA_lt (M := fun f => mxT t f 10) g hg1
      have hb1 := hMb g 10
      have hb2 := hMb (bsA (fun f => mxT t f 10) g) 10
      refine x_iload dX5_listen_127 rfl ?_
      refine x_aload_n dX5_listen_129 rfl ?_
      refine x_getI dX5_listen_130 gf_RX5_73 rfl rfl ?_
      rw [hJ0]
      refine x_icmp_ge 163 dX5_listen_133 (by decide) (by unfold inr; omega) (by unfold inr; omega) (fun h_133 => ?_) (fun h_133 => ?_)
      · refine x_iload_n dX5_listen_163 rfl ?_
        refine x_if_ne 171 dX5_listen_164 (by decide) (by unfold inr; omega) (fun h_164 => ?_) (fun h_164 => ?_)
        · refine x_aload_n dX5_listen_171 rfl ?_
          refine x_iload_n dX5_listen_172 rfl ?_
          refine xf_VI1 dX5_listen_173 ml_RX5_204 vw_X5_mostLeftAt vv_X5_mostLeftAt rfl (sp_mostLeftAt hN (fun j hj => ⟨h5 j hj, htb j⟩) (bsA (fun f => mxT t f 10) g) h3 (by omega)) ⟨Nat.le_of_ble_eq_true rfl, Nat.le_of_ble_eq_true rfl, Nat.le_of_ble_eq_true rfl, Nat.le_of_ble_eq_true rfl, Nat.le_of_ble_eq_true rfl⟩ ?_
          refine hret _ _ _ _ _ _ dX5_listen_176 rfl ?_
          obtain rfl : g = n := by omega
          refine ⟨rfl, rfl, ?_, h4⟩
          rw [if_pos hw1]
          unfold liA
          rw [if_neg hne, ← ht]
          first
          | rw [if_pos (by omega)]; exact h3
          | rw [if_neg (by omega)]
        · refine x_iload_n dX5_listen_167 rfl ?_
          refine x_goto 176 dX5_listen_168 (by decide) ?_
          refine hret _ _ _ _ _ _ dX5_listen_176 rfl ?_
          obtain rfl : g = n := by omega
          refine ⟨rfl, rfl, ?_, h4⟩
          rw [if_pos hw1]
          unfold liA
          rw [if_neg hne, ← ht]
          first
          | rw [if_pos (by omega)]; exact h3
          | rw [if_neg (by omega)]
      · refine x_aload_n dX5_listen_136 rfl ?_
        refine x_iload dX5_listen_137 rfl ?_
        refine xf_VI1 dX5_listen_139 ml_RX5_204 vw_X5_mostLeftAt vv_X5_mostLeftAt rfl (sp_mostLeftAt hN (fun j hj => ⟨h5 j hj, htb j⟩) g h2 (by omega)) ⟨Nat.le_of_ble_eq_true rfl, Nat.le_of_ble_eq_true rfl, Nat.le_of_ble_eq_true rfl, Nat.le_of_ble_eq_true rfl, Nat.le_of_ble_eq_true rfl⟩ ?_
        refine x_aload_n dX5_listen_142 rfl ?_
        refine x_iload_n dX5_listen_143 rfl ?_
        refine xf_VI1 dX5_listen_144 ml_RX5_204 vw_X5_mostLeftAt vv_X5_mostLeftAt rfl (sp_mostLeftAt hN (fun j hj => ⟨h5 j hj, htb j⟩) (bsA (fun f => mxT t f 10) g) h3 (by omega)) ⟨Nat.le_of_ble_eq_true rfl, Nat.le_of_ble_eq_true rfl, Nat.le_of_ble_eq_true rfl, Nat.le_of_ble_eq_true rfl, Nat.le_of_ble_eq_true rfl⟩ ?_
        refine x_icmp_ge 155 dX5_listen_147 (by decide) (by unfold inr; omega) (by unfold inr; omega) (fun h_147 => ?_) (fun h_147 => ?_)
        · refine x_iload_n dX5_listen_155 rfl ?_
          refine x_ist3 dX5_listen_156 ?_
          refine x_inc4 dX5_listen_157 ?_
          refine x_goto 127 dX5_listen_160 (by decide) ?_
          have e : bsA (fun f => mxT t f 10) (g + 1) = (if mxT t g 10 < mxT t (bsA (fun f => mxT t f 10) g) 10 then g else bsA (fun f => mxT t f 10) g) := rfl
          refine ih (g + 1) _ _ _ _ (by omega) (by omega) (by omega) (by omega) ?_ hw1 h4 hne h5
          rw [e]
          first
          | rw [if_pos (by omega)]; exact h2
          | rw [if_neg (by omega)]; exact h3
        · refine x_iload dX5_listen_150 rfl ?_
          refine x_goto 156 dX5_listen_152 (by decide) ?_
          refine x_ist3 dX5_listen_156 ?_
          refine x_inc4 dX5_listen_157 ?_
          refine x_goto 127 dX5_listen_160 (by decide) ?_
          have e : bsA (fun f => mxT t f 10) (g + 1) = (if mxT t g 10 < mxT t (bsA (fun f => mxT t f 10) g) 10 then g else bsA (fun f => mxT t f 10) g) := rfl
          refine ih (g + 1) _ _ _ _ (by omega) (by omega) (by omega) (by omega) ?_ hw1 h4 hne h5
          rw [e]
          first
          | rw [if_pos (by omega)]; exact h2
          | rw [if_neg (by omega)]; exact h3
  have lp2 : ∀ (m : Nat) (k : Nat) (z c : Int) (J : MM), k ≤ 9 * n → 9 * n < k + m → z = (k : Int) → c = ((clQ P V k).length : Int) → (0 ≤ w ∧ w ≤ 1) → kpM I J → (∀ j, j < 90 → J 63 j = tcQ P T n k j) → XX G RX5 cX5_listen (RmW 5 114 0 0) Fx 38 [some (.ref 50), some (vi w), some (vi c), some (vi z), none] [] K N J 0 0 := by
    intro m
    induction m with
    | zero => intros; exfalso; omega
    | succ m ih =>
      intro k z c J h0 h1 h2 h3 hw1 h4 h5
      have hBJ := h4.RM hB
      have hJ0 := hBJ.1
      have hcl := clQ_len (P := P) (V := V) k
      have hkd : k / 9 ≤ n := by omega
      have hs1 : tcQ P T n (k + 1) = if P (k / 9) (k % 9) = true then tyAdd (tcQ P T n k) (T (k / 9) (k % 9)) n else tcQ P T n k := rfl
      have hs2 : clQ P V (k + 1) = clQ P V k ++ (if P (k / 9) (k % 9) = true then [V (k / 9) (k % 9)] else []) := rfl
      have hqb := fun j => tcQ_b (P := P) (T := T) (n := n) (j := j) k
      refine x_iload_n dX5_listen_38 rfl ?_
      refine x_bipush dX5_listen_39 (by decide) ?_
      refine x_aload_n dX5_listen_41 rfl ?_
      refine x_getI dX5_listen_42 gf_RX5_73 rfl rfl ?_
      rw [hJ0]
      refine x_imul dX5_listen_45 ?_
      refine x_icmp_ge 115 dX5_listen_46 (by decide) (by unfold inr; omega) (by unfold inr; omega) (fun h_46 => ?_) (fun h_46 => ?_)
      · obtain rfl : k = 9 * n := by omega
        refine x_iload_n dX5_listen_115 rfl ?_
        refine x_if_ne 122 dX5_listen_116 (by decide) (by unfold inr; omega) (fun h_116 => ?_) (fun h_116 => ?_)
        · refine x_iconst dX5_listen_122 ?_
          refine x_ist3 dX5_listen_123 ?_
          refine x_iconst dX5_listen_124 ?_
          refine x_ist4 dX5_listen_125 ?_
          rw [hlq] at h3
          refine lp3 n 1 _ _ _ _ (by omega) (by omega) (by omega) rfl (by simp [bsA]) hw1 h4 (by omega) (fun j hj => ?_)
          rw [h5 j hj, htq]
        · refine x_bipush dX5_listen_119 (by decide) ?_
          refine hret _ _ _ _ _ _ dX5_listen_121 rfl ?_
          refine ⟨rfl, rfl, ?_, h4⟩
          rw [hlq] at h3
          rw [if_pos hw1]
          unfold liA
          rw [if_pos (by omega)]
      · refine x_aload_n dX5_listen_49 rfl ?_
        refine x_iload_n dX5_listen_50 rfl ?_
        refine x_bipush dX5_listen_51 (by decide) ?_
        refine x_idiv dX5_listen_53 (by unfold inr; omega) (by unfold inr; omega) ?_
        refine x_iconst dX5_listen_54 ?_
        refine x_iload_n dX5_listen_55 rfl ?_
        refine x_bipush dX5_listen_56 (by decide) ?_
        refine x_irem dX5_listen_58 (by unfold inr; omega) (by unfold inr; omega) ?_
        refine x_iadd dX5_listen_59 ?_
        refine xp_VI2 dX5_listen_60 ml_RX5_200 vw_X5_leaksBy vv_X5_leaksBy rfl (sp_leaksBy hN hBJ (h4.SM hG) (k / 9) (k % 9) (by omega) (by omega) (by omega) (by omega)) ⟨Nat.le_of_ble_eq_true rfl, Nat.le_of_ble_eq_true rfl, Nat.le_of_ble_eq_true rfl, Nat.le_of_ble_eq_true rfl, Nat.le_of_ble_eq_true rfl⟩ (fun z1 I1 hq => ?_)
        obtain ⟨hz, hk2, hT57, hk63⟩ := hq
        rw [h4.fm, h4.l0, h4.s52, h4.s53, ← hP] at hz hT57
        rw [← hT] at hT57
        rw [hz]
        refine x_if_eq 109 dX5_listen_63 (by decide) (by unfold inr; split <;> omega) (fun h_63 => ?_) (fun h_63 => ?_)
        · replace h_63 := b0 h_63
          refine x_inc3 dX5_listen_109 ?_
          refine x_goto 38 dX5_listen_112 (by decide) ?_
          rw [if_neg h_63] at hs1 hs2
          rw [List.append_nil] at hs2
          refine ih (k + 1) _ _ _ (by omega) (by omega) (by omega) (by rw [hs2]; exact h3) hw1 (h4.tr hk2) (fun j hj => ?_)
          rw [hk63 63 j (by omega), hs1]; exact h5 j hj
        · replace h_63 := b1 h_63
          refine x_inc2 dX5_listen_66 ?_
          refine x_iconst dX5_listen_69 ?_
          refine x_ist4 dX5_listen_70 ?_
          rw [if_pos h_63] at hs1 hs2
          have hl1 : (clQ P V (k + 1)).length = (clQ P V k).length + 1 := by rw [hs2]; simp
          have hTb : ∀ g, g < n → 0 ≤ T (k / 9) (k % 9) g ∧ T (k / 9) (k % 9) g ≤ 9 := fun g hg => by
            rw [hP] at h_63
            rw [hT]; exact lk_b hB (by omega) h_63 hg
          have h57 := hT57 h_63
          have lp : ∀ (m2 : Nat) (g : Nat) (y : Int) (J : MM), g ≤ n → n < g + m2 → y = (g : Int) → kpM I J → (∀ b, J 57 b = I1 57 b) → (∀ j, j < 90 → J 63 j = tyAdd (tcQ P T n k) (T (k / 9) (k % 9)) g j) → XX G RX5 cX5_listen (RmW 5 114 0 0) Fx 72 [some (.ref 50), some (vi w), some (vi (c + 1)), some (vi z), some (vi y)] [] K N J 0 0 := by
            intro m2
            induction m2 with
            | zero => intros; exfalso; omega
            | succ m2 ih2 =>
              intro g y J g0 g1 g2 g3 g4 g5
              have hJ0 := (g3.RM hB).1
              refine x_iload dX5_listen_72 rfl ?_
              refine x_aload_n dX5_listen_74 rfl ?_
              refine x_getI dX5_listen_75 gf_RX5_73 rfl rfl ?_
              rw [hJ0]
              refine x_icmp_ge 109 dX5_listen_78 (by decide) (by unfold inr; omega) (by unfold inr; omega) (fun h_78 => ?_) (fun h_78 => ?_)
              · refine x_inc3 dX5_listen_109 ?_
                refine x_goto 38 dX5_listen_112 (by decide) ?_
                obtain rfl : g = n := by omega
                refine x_dr4 (ih (k + 1) _ _ _ (by omega) (by omega) (by omega) (by omega) hw1 g3 (fun j hj => ?_))
                rw [hs1]; exact g5 j hj
              · refine x_aload_n dX5_listen_81 rfl ?_
                refine x_getR (j := 63) dX5_listen_82 gf_RX5_46 rfl rfl (hN _ _ (by decide)) ?_
                refine x_bipush dX5_listen_85 (by decide) ?_
                refine x_iload dX5_listen_87 rfl ?_
                refine x_imul dX5_listen_89 ?_
                refine x_aload_n dX5_listen_90 rfl ?_
                refine x_getR (j := 57) dX5_listen_91 gf_RX5_28 rfl rfl (hN _ _ (by decide)) ?_
                refine x_iload dX5_listen_94 rfl ?_
                refine x_iald (g) dX5_listen_96 rfl g2 (show _ < 9 by omega) ?_
                have tb := hTb g (by omega)
                obtain ⟨i, hi⟩ := toN tb.1
                rw [g4, h57 g (by omega), hi]
                refine x_iadd dX5_listen_97 ?_
                refine x_dup2 dX5_listen_98 ?_
                refine x_iald (10 * g + i) dX5_listen_99 rfl (by omega) (show _ < 90 by omega) ?_
                rw [g5 _ (by omega)]
                refine x_iconst dX5_listen_100 ?_
                refine x_iadd dX5_listen_101 ?_
                refine x_iast (10 * g + i) dX5_listen_102 rfl (by omega) (show _ < 90 by omega) ?_
                refine x_inc4 dX5_listen_103 ?_
                refine x_goto 72 dX5_listen_106 (by decide) ?_
                refine ih2 (g + 1) _ _ (by omega) (by omega) (by omega) (g3.upc (by omega)) (fun b => by rw [up_n1 (by omega)]; exact g4 b) (fun j hj => ?_)
                rw [ty_st hi (by omega)]
                by_cases e : j = 10 * g + i
                · rw [if_pos e, e, up_s]
                · rw [if_neg e, up_n2 e]; exact g5 j hj
          refine lp (n + 1) 0 _ _ (by omega) (by omega) rfl (h4.tr hk2) (fun _ => rfl) (fun j hj => ?_)
          rw [hk63 63 j (by omega), h5 j hj]
          unfold tyAdd
          rw [if_neg (by omega)]
  have lp : ∀ (m : Nat) (g : Nat) (z : Int) (J : MM), g ≤ 90 → 90 < g + m → z = (g : Int) → (0 ≤ w ∧ w ≤ 1) → kpM I J → (∀ j, j < g → J 63 j = 0) → XX G RX5 cX5_listen (RmW 5 114 0 0) Fx 15 [some (.ref 50), some (vi w), some (vi z), none, none] [] K N J 0 0 := by
    intro m
    induction m with
    | zero => intros; exfalso; omega
    | succ m ih =>
      intro g z J h0 h1 h2 hw1 h3 h4
      refine x_iload_n dX5_listen_15 rfl ?_
      refine x_bipush dX5_listen_16 (by decide) ?_
      refine x_icmp_ge 34 dX5_listen_18 (by decide) (by unfold inr; omega) (by unfold inr; omega) (fun h_18 => ?_) (fun h_18 => ?_)
      · refine x_iconst dX5_listen_34 ?_
        refine x_ist2 dX5_listen_35 ?_
        refine x_iconst dX5_listen_36 ?_
        refine x_ist3 dX5_listen_37 ?_
        exact lp2 (9 * n + 1) 0 _ _ _ (by omega) (by omega) rfl rfl hw1 h3 (fun j hj => h4 j (by omega))
      · refine x_aload_n dX5_listen_21 rfl ?_
        refine x_getR (j := 63) dX5_listen_22 gf_RX5_46 rfl rfl (hN _ _ (by decide)) ?_
        refine x_iload_n dX5_listen_25 rfl ?_
        refine x_iconst dX5_listen_26 ?_
        refine x_iast (g) dX5_listen_27 rfl h2 (show _ < 90 by omega) ?_
        refine x_inc2 dX5_listen_28 ?_
        refine x_goto 15 dX5_listen_31 (by decide) ?_
        refine ih (g + 1) _ _ (by omega) (by omega) (by omega) hw1 (h3.upc (by omega)) (fun j hj => ?_)
        by_cases e : j = g
        · rw [e, up_s]
        · rw [up_n2 e]; exact h4 j (by omega)
  refine x_iload_n dX5_listen_0 rfl ?_
  refine x_i2l dX5_listen_1 hw ?_
  refine x_lconst0 dX5_listen_2 ?_
  refine x_lconst1 dX5_listen_3 ?_
  refine xf_SI3 dX5_listen_4 ml_RX5_86 vw_X5_in st_X5_in (sp_in (by unfold inl; unfold inr at hw; omega) (by unfold inl; omega) (by unfold inl; omega)) ⟨Nat.le_of_ble_eq_true rfl, Nat.le_of_ble_eq_true rfl, Nat.le_of_ble_eq_true rfl, Nat.le_of_ble_eq_true rfl, Nat.le_of_ble_eq_true rfl⟩ ?_
  refine x_if_ne 13 dX5_listen_7 (by decide) (by unfold inr; split <;> omega) (fun h_7 => ?_) (fun h_7 => ?_)
  · replace h_7 := b1 h_7
    refine x_iconst dX5_listen_13 ?_
    refine x_ist2 dX5_listen_14 ?_
    exact lp 91 0 _ _ (by omega) (by omega) rfl h_7 kpM.rf (fun j hj => absurd hj (Nat.not_lt_zero j))
  · replace h_7 := b0 h_7
    refine x_bipush dX5_listen_10 (by decide) ?_
    refine hret _ _ _ _ _ _ dX5_listen_12 rfl ?_
    refine ⟨rfl, rfl, ?_, kpM.rf⟩
    (repeat (first | rw [if_pos (by omega)] | rw [if_neg (by omega)]))
end FR

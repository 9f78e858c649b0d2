/-! ===== constructors of the class ===== -/
theorem nmem {i j : Nat} {K : List Nat} (h : i ∉ K) (hne : i ≠ j) : i ∉ K ++ [j] := fun z => by
  rcases List.mem_append.mp z with z | z
  · exact h z
  · exact hne (List.mem_singleton.mp z)
theorem tg_Ro {b k : Nat} (h : kd b = 3) (hk : k ≠ 3 ∧ k ≠ 4 ∧ k ≠ 5 ∧ k ≠ 6) : tg b k = none := by
  unfold tg; rw [h]
  show (match k with | 3 => some (b + 1) | 4 => some (b + 2) | 5 => some (b + 3) | 6 => some (b + 4) | _ => none) = none
  split <;> first | rfl | omega
theorem tg_Ho {b k : Nat} (h : kd b = 2) (hk : k ≠ 0 ∧ k ≠ 1) : tg b k = none := by
  unfold tg; rw [h]
  show (match k with | 0 => some (b + 1) | 1 => some (b + 2) | _ => none) = none
  split <;> first | rfl | omega
theorem tg_A {i : Nat} (h : kd i = 10) (k : Nat) : tg i k = none := by
  unfold tg; rw [h]; rfl
def rowN (N : NN) (b : Nat) : NN := upN (nwN (upN (nwN (upN (nwN (upN (nwN N (b + 1)) b 3) (b + 2)) b 4) (b + 3)) b 5) (b + 4)) b 6
def hrN (N : NN) (c : Nat) : NN := upN (nwN (upN (nwN N (c + 1)) c 0) (c + 2)) c 1
theorem rowN_b {N : NN} {b : Nat} (hb : kd b = 3) (h : ∀ k, N b k = (tg b k).isSome) (k : Nat) : rowN N b b k = false := by
  by_cases h6 : k = 6
  · simp [rowN, upN, nwN, h6]
  · by_cases h5 : k = 5
    · simp [rowN, upN, nwN, h5]
    · by_cases h4 : k = 4
      · simp [rowN, upN, nwN, h4]
      · by_cases h3 : k = 3
        · simp [rowN, upN, nwN, h3]
        · have e : rowN N b b k = N b k := by simp [rowN, upN, nwN, h6, h5, h4, h3]
          rw [e, h, tg_Ro hb ⟨h3, h4, h5, h6⟩]; rfl
theorem rowN_a {N : NN} {b i j : Nat} (hb : kd b = 3) (h1 : b + 1 ≤ i) (h2 : i ≤ b + 4) : rowN N b i j = false := by
  have hk : kd i = 10 := by
    rcases (by omega : i = b + 1 ∨ i = b + 2 ∨ i = b + 3 ∨ i = b + 4) with rfl | rfl | rfl | rfl
    · exact kd_R1 hb
    · exact kd_R2 hb
    · exact kd_R3 hb
    · exact kd_R4 hb
  have gi : ¬ (i = b) := by omega
  simp only [rowN, upN, nwN, tg_A (kd_R1 hb), tg_A (kd_R2 hb), tg_A (kd_R3 hb), tg_A (kd_R4 hb), gi, false_and, if_false, Option.isSome_none]
  (repeat' split) <;> first | rfl | omega
theorem rowN_o {N : NN} {b i j : Nat} (h : i < b ∨ b + 4 < i) : rowN N b i j = N i j := by
  have g0 : ¬ (i = b) := by omega
  have g1 : ¬ (i = b + 1) := by omega
  have g2 : ¬ (i = b + 2) := by omega
  have g3 : ¬ (i = b + 3) := by omega
  have g4 : ¬ (i = b + 4) := by omega
  simp only [rowN, upN, nwN, g0, g1, g2, g3, g4, false_and, if_false]
theorem hrN_b {N : NN} {c : Nat} (hc : kd c = 2) (h : ∀ k, N c k = (tg c k).isSome) (k : Nat) : hrN N c c k = false := by
  by_cases h1 : k = 1
  · simp [hrN, upN, nwN, h1]
  · by_cases h0 : k = 0
    · simp [hrN, upN, nwN, h0]
    · have e : hrN N c c k = N c k := by simp [hrN, upN, nwN, h1, h0]
      rw [e, h, tg_Ho hc ⟨h0, h1⟩]; rfl
theorem hrN_a {N : NN} {c i j : Nat} (hc : kd c = 2) (h1 : c + 1 ≤ i) (h2 : i ≤ c + 2) : hrN N c i j = false := by
  have hk : kd i = 10 := by
    rcases (by omega : i = c + 1 ∨ i = c + 2) with rfl | rfl
    · exact kd_H1 hc
    · exact kd_H2 hc
  have gi : ¬ (i = c) := by omega
  simp only [hrN, upN, nwN, tg_A (kd_H1 hc), tg_A (kd_H2 hc), gi, false_and, if_false, Option.isSome_none]
  (repeat' split) <;> first | rfl | omega
theorem hrN_o {N : NN} {c i j : Nat} (h : i < c ∨ c + 2 < i) : hrN N c i j = N i j := by
  have g0 : ¬ (i = c) := by omega
  have g1 : ¬ (i = c + 1) := by omega
  have g2 : ¬ (i = c + 2) := by omega
  simp only [hrN, upN, nwN, g0, g1, g2, false_and, if_false]
def dyN (N : NN) : NN := upN (nwN (upN (nwN (upN (nwN N 19) 18 0) 20) 18 2) 21) 18 3
theorem dyN_b {N : NN} (h : ∀ k, N 18 k = (tg 18 k).isSome) {i j : Nat} (h1 : 18 ≤ i) (h2 : i ≤ 21) : dyN N i j = false := by
  rcases (by omega : i = 18 ∨ i = 19 ∨ i = 20 ∨ i = 21) with rfl | rfl | rfl | rfl
  · by_cases h3 : j = 3
    · simp [dyN, upN, nwN, h3]
    · by_cases h2 : j = 2
      · simp [dyN, upN, nwN, h2]
      · by_cases h0 : j = 0
        · simp [dyN, upN, nwN, h0]
        · have e : dyN N 18 j = N 18 j := by simp [dyN, upN, nwN, h3, h2, h0]
          rw [e, h]
          show (match j with | 0 => some 19 | 2 => some 20 | 3 => some 21 | _ => none).isSome = false
          split <;> first | rfl | omega
  · simp [dyN, upN, nwN, tg_A (i := 19) rfl]
  · simp [dyN, upN, nwN, tg_A (i := 20) rfl]
  · simp [dyN, upN, nwN, tg_A (i := 21) rfl]
theorem dyN_o {N : NN} {i j : Nat} (h : i < 18 ∨ 21 < i) : dyN N i j = N i j := by
  have g0 : ¬ (i = 18) := by omega
  have g1 : ¬ (i = 19) := by omega
  have g2 : ¬ (i = 20) := by omega
  have g3 : ¬ (i = 21) := by omega
  simp only [dyN, upN, nwN, g0, g1, g2, g3, false_and, if_false]
section FR
variable {G : GT} {K : List Nat} {N : NN} {I : MM} {b c n : Nat}
theorem sp_beginW (hb : kd b = 3) (hN0 : ∀ k, N b k = false) {n : Int} : SpV G mX3_begin 1 26 0 0 [.ref b, vi n] K N I (qV K N (beJ I b n)) := by
  refine SpV.of (own := RX3) (cc := cX3_begin) (L := [some (.ref b), some (vi n), none]) (by decide) rfl rfl (Nat.le_of_ble_eq_true rfl) rfl (fun Fx hnm hret => ?_)
  have lp : ∀ (m : Nat) (f : Nat) (z : Int) (J : MM), f ≤ 9 → 9 < f + m → z = (f : Int) → J = beS I b n f → XX G RX3 cX3_begin (RmW 1 26 0 0) Fx 17 [some (.ref b), some (vi n), some (vi z)] [] K N J 0 0 := by
    intro m
    induction m with
    | zero => intros; exfalso; omega
    | succ m ih =>
      intro f z J h0 h1 h2 h3
      refine x_iload_n dX3_begin_17 rfl ?_
      refine x_bipush dX3_begin_18 (by decide) ?_
      refine x_icmp_ge 46 dX3_begin_20 (by decide) (by unfold inr; omega) (by unfold inr; omega) (fun h_20 => ?_) (fun h_20 => ?_)
      · refine hret _ _ _ _ _ dX3_begin_46 ?_
        obtain rfl : f = 9 := by omega
        exact ⟨rfl, rfl, h3⟩
      · refine x_getsN (k := 1) dX3_begin_23 (by decide +kernel) (by decide) rfl ?_
        refine x_iconst dX3_begin_26 ?_
        refine x_aload_n dX3_begin_27 rfl ?_
        refine x_getR dX3_begin_28 gf_RX3_9 hb (tg_R3 hb) (hN0 _) ?_
        refine x_iload_n dX3_begin_31 rfl ?_
        refine x_bipush dX3_begin_32 (by decide) ?_
        refine x_imul dX3_begin_34 ?_
        refine x_bipush dX3_begin_35 (by decide) ?_
        refine x_acpyS (k := 1) (0) (7 * f) (7) dX3_begin_37 ml_RX3_27 na_acpy st_acpy ini_java_lang_System (by decide) rfl (kd_R1 hb) (by omega) (by omega) (by omega) (by decide) (by rw [ln_R1 hb]; omega) ⟨Nat.le_of_ble_eq_true rfl, Nat.le_of_ble_eq_true rfl⟩ ?_
        refine x_inc2 dX3_begin_40 ?_
        refine x_goto 17 dX3_begin_43 (by decide) ?_
        exact ih (f + 1) _ _ (by omega) (by omega) (by omega) (by rw [h3]; exact beS_st)
  refine x_aload_n dX3_begin_0 rfl ?_
  refine x_iload_n dX3_begin_1 rfl ?_
  refine x_putI dX3_begin_2 pf_RX3_37 hb (tg_R0 hb) ?_
  refine x_aload_n dX3_begin_5 rfl ?_
  refine x_iconst dX3_begin_6 ?_
  refine x_putI dX3_begin_7 pf_RX3_41 hb (tg_R1 hb) ?_
  refine x_aload_n dX3_begin_10 rfl ?_
  refine x_iconst dX3_begin_11 ?_
  refine x_putI dX3_begin_12 pf_RX3_44 hb (tg_R2 hb) ?_
  refine x_iconst dX3_begin_15 ?_
  refine x_ist2 dX3_begin_16 ?_
  exact lp 10 0 _ _ (by omega) (by omega) rfl (by
    funext a k
    simp only [up, beS]
    by_cases h1 : a = b
    · subst h1
      rcases (by omega : k = 0 ∨ k = 1 ∨ k = 2 ∨ 2 < k) with rfl | rfl | rfl | h
      · simp
      · simp
      · simp
      · have g0 : k ≠ 0 := by omega
        have g1 : k ≠ 1 := by omega
        have g2 : k ≠ 2 := by omega
        simp [g0, g1, g2]
    · simp [h1])
/-- what a new row is -/
def rwQ (b : Nat) (K : List Nat) (N : NN) (I : MM) : List Nat → NN → MM → Prop := fun K1 N1 I1 => K1 = K ++ [b + 1] ++ [b + 2] ++ [b + 3] ++ [b + 4] ∧ (∀ i j, b ≤ i → i ≤ b + 4 → N1 i j = false) ∧ (∀ i j, i < b ∨ b + 4 < i → N1 i j = N i j) ∧ (∀ a k, a < b ∨ b + 4 < a → I1 a k = I a k) ∧ (I1 b 0 = 9 ∧ I1 b 1 = 0 ∧ I1 b 2 = 0) ∧ (∀ k, k < 63 → I1 (b + 1) k = fst7 (k % 7)) ∧ I1 (b + 2) 0 = 20 ∧ I1 (b + 2) 1 = 10 ∧ I1 (b + 2) 2 = 5 ∧ ∀ k, I1 (b + 3) k = 0 ∧ I1 (b + 4) k = 0
def hrQ (c : Nat) (K : List Nat) (N : NN) (I : MM) : List Nat → NN → MM → Prop := fun K1 N1 I1 => K1 = K ++ [c + 1] ++ [c + 2] ∧ (∀ i j, c ≤ i → i ≤ c + 2 → N1 i j = false) ∧ (∀ i j, i < c ∨ c + 2 < i → N1 i j = N i j) ∧ (∀ a k, a < c + 1 ∨ c + 2 < a → I1 a k = I a k)
theorem sp_rowInit (hb : kd b = 3) (hNb : ∀ k, N b k = (tg b k).isSome) (hK1 : b + 1 ∉ K) (hK2 : b + 2 ∉ K) (hK3 : b + 3 ∉ K) (hK4 : b + 4 ∉ K) : SpV G mX3_init 2 48 4 82 [.ref b] K N I (rwQ b K N I) := by
  refine SpV.of (own := RX3) (cc := cX3_init) (L := [some (.ref b)]) (by decide) rfl rfl (Nat.le_of_ble_eq_true rfl) rfl (fun Fx hnm hret => ?_)
  have hini : Fx.2.2.2.2.2.2.1.name = "<init>" := hnm
  refine x_aload_n dX3_init_0 rfl ?_
  refine x_objInit dX3_init_1 ml_RX3_3 in_obj cd_obj ⟨Nat.le_of_ble_eq_true rfl, Nat.le_of_ble_eq_true rfl⟩ ?_
  refine x_aload_n dX3_init_4 rfl ?_
  refine x_bipush dX3_init_5 (by decide) ?_
  refine x_newa (i := (b + 1)) 63 dX3_init_7 ac_int (by omega) (kd_R1 hb) (ln_R1 hb) hK1 (by have := row_of hb; omega) ⟨Nat.le_of_ble_eq_true rfl, Nat.le_of_ble_eq_true rfl⟩ ?_
  refine x_putR dX3_init_9 pf_RX3_9 hini hb (tg_R3 hb) (by rw [kd_R1 hb]; decide) ?_
  refine x_aload_n dX3_init_12 rfl ?_
  refine x_iconst dX3_init_13 ?_
  refine x_newa (i := (b + 2)) 3 dX3_init_14 ac_int (by omega) (kd_R2 hb) (ln_R2 hb) (nmem (hK2) (by omega)) (by have := row_of hb; omega) ⟨Nat.le_of_ble_eq_true rfl, Nat.le_of_ble_eq_true rfl⟩ ?_
  refine x_putR dX3_init_16 pf_RX3_15 hini hb (tg_R4 hb) (by rw [kd_R2 hb]; decide) ?_
  refine x_aload_n dX3_init_19 rfl ?_
  refine x_bipush dX3_init_20 (by decide) ?_
  refine x_newa (i := (b + 3)) 8 dX3_init_22 ac_int (by omega) (kd_R3 hb) (ln_R3 hb) (nmem (nmem (hK3) (by omega)) (by omega)) (by have := row_of hb; omega) ⟨Nat.le_of_ble_eq_true rfl, Nat.le_of_ble_eq_true rfl⟩ ?_
  refine x_putR dX3_init_24 pf_RX3_18 hini hb (tg_R5 hb) (by rw [kd_R3 hb]; decide) ?_
  refine x_aload_n dX3_init_27 rfl ?_
  refine x_bipush dX3_init_28 (by decide) ?_
  refine x_newa (i := (b + 4)) 8 dX3_init_30 ac_int (by omega) (kd_R4 hb) (ln_R4 hb) (nmem (nmem (nmem (hK4) (by omega)) (by omega)) (by omega)) (by have := row_of hb; omega) ⟨Nat.le_of_ble_eq_true rfl, Nat.le_of_ble_eq_true rfl⟩ ?_
  refine x_putR dX3_init_32 pf_RX3_21 hini hb (tg_R6 hb) (by rw [kd_R4 hb]; decide) ?_
  refine x_getsN (k := 0) dX3_init_35 (by decide +kernel) (by decide) rfl ?_
  refine x_iconst dX3_init_38 ?_
  refine x_aload_n dX3_init_39 rfl ?_
  refine x_getR dX3_init_40 gf_RX3_15 hb (tg_R4 hb) (by simp [upN, nwN]) ?_
  refine x_iconst dX3_init_43 ?_
  refine x_iconst dX3_init_44 ?_
  refine x_acpyS (k := 0) (0) (0) (3) dX3_init_45 ml_RX3_27 na_acpy st_acpy ini_java_lang_System (by decide) rfl (kd_R2 hb) (by omega) (by omega) (by omega) (by decide) (by rw [ln_R2 hb]; omega) ⟨Nat.le_of_ble_eq_true rfl, Nat.le_of_ble_eq_true rfl⟩ ?_
  refine x_aload_n dX3_init_48 rfl ?_
  refine x_bipush dX3_init_49 (by decide) ?_
  refine xf_VV1 dX3_init_51 ml_RX3_33 vw_X3_begin vv_X3_begin (by rw [hb]; rfl) (sp_beginW hb (rowN_b hb hNb)) ⟨Nat.le_of_ble_eq_true rfl, Nat.le_of_ble_eq_true rfl, Nat.le_of_ble_eq_true rfl, Nat.le_of_ble_eq_true rfl, Nat.le_of_ble_eq_true rfl⟩ ?_
  refine hret _ _ _ _ _ dX3_init_54 ?_
  refine ⟨rfl, ?_, fun i j h => rowN_o h, ?_, ⟨?_, ?_, ?_⟩, ?_, ?_, ?_, ?_, fun k => ⟨?_, ?_⟩⟩
  · intro i j h1 h2
    rcases (by omega : i = b ∨ b + 1 ≤ i) with h3 | h3
    · rw [h3]; exact rowN_b hb hNb j
    · exact rowN_a hb h3 h2
  · intro a k h
    simp only [beJ, nwI]
    (repeat rw [if_neg (by omega)])
  · unfold beJ; rw [if_pos ⟨rfl, rfl⟩]
  · unfold beJ; rw [if_neg (by omega), if_pos ⟨rfl, Or.inl rfl⟩]
  · unfold beJ; rw [if_neg (by omega), if_pos ⟨rfl, Or.inr rfl⟩]
  · intro k hk
    unfold beJ; rw [if_neg (by omega), if_neg (by omega), if_pos ⟨rfl, hk⟩]
  · unfold beJ; rw [if_neg (by omega), if_neg (by omega), if_neg (by omega)]; exact (if_pos ⟨rfl, by omega, by omega⟩).trans rfl
  · unfold beJ; rw [if_neg (by omega), if_neg (by omega), if_neg (by omega)]; exact (if_pos ⟨rfl, by omega, by omega⟩).trans rfl
  · unfold beJ; rw [if_neg (by omega), if_neg (by omega), if_neg (by omega)]; exact (if_pos ⟨rfl, by omega, by omega⟩).trans rfl
  · simp only [beJ, nwI]
    (repeat (first | rw [if_neg (by omega)] | rw [if_pos trivial] | rw [if_pos (by omega)]))
  · simp only [beJ, nwI]
    (repeat (first | rw [if_neg (by omega)] | rw [if_pos trivial] | rw [if_pos (by omega)]))
theorem sp_hourInit (hc : kd c = 2) (hNb : ∀ k, N c k = (tg c k).isSome) (hK1 : c + 1 ∉ K) (hK2 : c + 2 ∉ K) : SpV G mX2_init 1 20 2 18 [.ref c] K N I (hrQ c K N I) := by
  refine SpV.of (own := RX2) (cc := cX2_init) (L := [some (.ref c)]) (by decide) rfl rfl (Nat.le_of_ble_eq_true rfl) rfl (fun Fx hnm hret => ?_)
  have hini : Fx.2.2.2.2.2.2.1.name = "<init>" := hnm
  refine x_aload_n dX2_init_0 rfl ?_
  refine x_objInit dX2_init_1 ml_RX2_3 in_obj cd_obj ⟨Nat.le_of_ble_eq_true rfl, Nat.le_of_ble_eq_true rfl⟩ ?_
  refine x_aload_n dX2_init_4 rfl ?_
  refine x_bipush dX2_init_5 (by decide) ?_
  refine x_newa (i := (c + 1)) 9 dX2_init_7 ac_int (by omega) (kd_H1 hc) (ln_H1 hc) hK1 (by have := hour_of hc; omega) ⟨Nat.le_of_ble_eq_true rfl, Nat.le_of_ble_eq_true rfl⟩ ?_
  refine x_putR dX2_init_9 pf_RX2_9 hini hc (tg_H0 hc) (by rw [kd_H1 hc]; decide) ?_
  refine x_aload_n dX2_init_12 rfl ?_
  refine x_bipush dX2_init_13 (by decide) ?_
  refine x_newa (i := (c + 2)) 9 dX2_init_15 ac_int (by omega) (kd_H2 hc) (ln_H2 hc) (nmem (hK2) (by omega)) (by have := hour_of hc; omega) ⟨Nat.le_of_ble_eq_true rfl, Nat.le_of_ble_eq_true rfl⟩ ?_
  refine x_putR dX2_init_17 pf_RX2_15 hini hc (tg_H1 hc) (by rw [kd_H2 hc]; decide) ?_
  refine hret _ _ _ _ _ dX2_init_20 ?_
  refine ⟨rfl, ?_, fun i j h => hrN_o h, ?_⟩
  · intro i j h1 h2
    rcases (by omega : i = c ∨ c + 1 ≤ i) with h3 | h3
    · rw [h3]; exact hrN_b hc hNb j
    · exact hrN_a hc h3 h2
  · intro a k h
    simp only [nwI]
    (repeat rw [if_neg (by omega)])
def dyQ (K : List Nat) (N : NN) (I : MM) : List Nat → NN → MM → Prop := fun K1 N1 I1 => K1 = K ++ [19] ++ [20] ++ [21] ∧ (∀ i j, 18 ≤ i → i ≤ 21 → N1 i j = false) ∧ (∀ i j, i < 18 ∨ 21 < i → N1 i j = N i j) ∧ (∀ a k, a < 19 ∨ 21 < a → I1 a k = I a k) ∧ ∀ k, I1 19 k = 0
def cuQ (K : List Nat) (N : NN) (I : MM) : List Nat → NN → MM → Prop := fun K1 N1 I1 => K1 = K ++ [23] ++ [24] ++ [25] ++ [26] ++ [27] ++ [28] ++ [29] ++ [30] ++ [31] ∧ (∀ i j, 22 ≤ i → i ≤ 31 → N1 i j = false) ∧ (∀ i j, i < 22 ∨ 31 < i → N1 i j = N i j) ∧ (∀ a k, a < 23 ∨ 31 < a → I1 a k = I a k)
theorem sp_dayInit (hNb : ∀ k, N 18 k = (tg 18 k).isSome) (hK : ∀ i, 19 ≤ i → i ≤ 21 → i ∉ K) : SpV G mX1_init 1 20 3 180 [.ref 18] K N I (dyQ K N I) := by
  refine SpV.of (own := RX1) (cc := cX1_init) (L := [some (.ref 18)]) (by decide) rfl rfl (Nat.le_of_ble_eq_true rfl) rfl (fun Fx hnm hret => ?_)
  have hini : Fx.2.2.2.2.2.2.1.name = "<init>" := hnm
  refine x_aload_n dX1_init_0 rfl ?_
  refine x_objInit dX1_init_1 ml_RX1_3 in_obj cd_obj ⟨Nat.le_of_ble_eq_true rfl, Nat.le_of_ble_eq_true rfl⟩ ?_
  refine x_aload_n dX1_init_4 rfl ?_
  refine x_bipush dX1_init_5 (by decide) ?_
  refine x_newa (i := 19) 60 dX1_init_7 ac_int (by omega) rfl rfl (hK 19 (by omega) (by omega)) (by decide) ⟨Nat.le_of_ble_eq_true rfl, Nat.le_of_ble_eq_true rfl⟩ ?_
  refine x_putR dX1_init_9 pf_RX1_9 hini rfl rfl (by decide) ?_
  refine x_aload_n dX1_init_12 rfl ?_
  refine x_bipush dX1_init_13 (by decide) ?_
  refine x_newa (i := 20) 60 dX1_init_15 ac_int (by omega) rfl rfl (nmem ((hK 20 (by omega) (by omega))) (by omega)) (by decide) ⟨Nat.le_of_ble_eq_true rfl, Nat.le_of_ble_eq_true rfl⟩ ?_
  refine x_putR dX1_init_17 pf_RX1_15 hini rfl rfl (by decide) ?_
  refine x_aload_n dX1_init_20 rfl ?_
  refine x_bipush dX1_init_21 (by decide) ?_
  refine x_newa (i := 21) 60 dX1_init_23 ac_int (by omega) rfl rfl (nmem (nmem ((hK 21 (by omega) (by omega))) (by omega)) (by omega)) (by decide) ⟨Nat.le_of_ble_eq_true rfl, Nat.le_of_ble_eq_true rfl⟩ ?_
  refine x_putR dX1_init_25 pf_RX1_18 hini rfl rfl (by decide) ?_
  refine hret _ _ _ _ _ dX1_init_28 ?_
  refine ⟨rfl, fun i j h1 h2 => dyN_b hNb h1 h2, fun i j h => dyN_o h, ?_, fun k => ?_⟩
  · intro a k h
    simp only [nwI]
    (repeat rw [if_neg (by omega)])
  · simp only [nwI]
    (repeat (first | rw [if_neg (by omega)] | rw [if_pos trivial] | rw [if_pos (by omega)]))
theorem sp_courseInit (hNb : ∀ k, N 22 k = (tg 22 k).isSome) (hK : ∀ i, 23 ≤ i → i ≤ 31 → i ∉ K) : SpV G mX0_init 3 68 9 119 [.ref 22] K N I (cuQ K N I) := by
  refine SpV.of (own := RX0) (cc := cX0_init) (L := [some (.ref 22)]) (by decide) rfl rfl (Nat.le_of_ble_eq_true rfl) rfl (fun Fx hnm hret => ?_)
  have hini : Fx.2.2.2.2.2.2.1.name = "<init>" := hnm
  refine x_aload_n dX0_init_0 rfl ?_
  refine x_objInit dX0_init_1 ml_RX0_3 in_obj cd_obj ⟨Nat.le_of_ble_eq_true rfl, Nat.le_of_ble_eq_true rfl⟩ ?_
  refine x_aload_n dX0_init_4 rfl ?_
  refine x_new (i := 23) dX0_init_5 ci_3 cl_RX0_9 ib_RX3 ini_SpringFarms_Row rfl (hK 23 (by omega) (by omega)) (by decide) (by decide) ⟨Nat.le_of_ble_eq_true rfl, Nat.le_of_ble_eq_true rfl⟩ ?_
  refine x_dupR dX0_init_8 ?_
  refine x_cIV0 dX0_init_9 ml_RX0_11 vw_X3_init in_X3_init rfl (sp_rowInit (b := 23) rfl (fun k => by simp [nwN]) (nmem ((hK 24 (by omega) (by omega))) (by omega)) (nmem ((hK 25 (by omega) (by omega))) (by omega)) (nmem ((hK 26 (by omega) (by omega))) (by omega)) (nmem ((hK 27 (by omega) (by omega))) (by omega))) ⟨Nat.le_of_ble_eq_true rfl, Nat.le_of_ble_eq_true rfl, Nat.le_of_ble_eq_true rfl, Nat.le_of_ble_eq_true rfl, Nat.le_of_ble_eq_true rfl⟩ (fun K1 N1 I1 hq hK1 => ?_)
  obtain ⟨rfl, a1, a2, a3, -, -, -⟩ := hq
  refine x_putR dX0_init_12 pf_RX0_12 hini rfl rfl (by decide) ?_
  refine x_aload_n dX0_init_15 rfl ?_
  refine x_new (i := 28) dX0_init_16 ci_2 cl_RX0_18 ib_RX2 ini_SpringFarms_Hour rfl (nmem (nmem (nmem (nmem (nmem ((hK 28 (by omega) (by omega))) (by omega)) (by omega)) (by omega)) (by omega)) (by omega)) (by decide) (by decide) ⟨Nat.le_of_ble_eq_true rfl, Nat.le_of_ble_eq_true rfl⟩ ?_
  refine x_dupR dX0_init_19 ?_
  refine x_cIN dX0_init_20 (by decide +kernel) vw_X2_init in_X2_init rfl (sp_hourInit (c := 28) rfl (fun k => by simp [nwN]) (nmem (nmem (nmem (nmem (nmem (nmem ((hK 29 (by omega) (by omega))) (by omega)) (by omega)) (by omega)) (by omega)) (by omega)) (by omega)) (nmem (nmem (nmem (nmem (nmem (nmem ((hK 30 (by omega) (by omega))) (by omega)) (by omega)) (by omega)) (by omega)) (by omega)) (by omega))) ⟨Nat.le_of_ble_eq_true rfl, Nat.le_of_ble_eq_true rfl, Nat.le_of_ble_eq_true rfl, Nat.le_of_ble_eq_true rfl, Nat.le_of_ble_eq_true rfl⟩ (fun K1 N1 I1 hq hK1 => ?_)
  obtain ⟨rfl, c1, c2, c3⟩ := hq
  refine x_putR dX0_init_23 pf_RX0_21 hini rfl rfl (by decide) ?_
  refine x_aload_n dX0_init_26 rfl ?_
  refine x_bipush dX0_init_27 (by decide) ?_
  refine x_newa (i := 31) 9 dX0_init_29 ac_int (by omega) rfl rfl (nmem (nmem (nmem (nmem (nmem (nmem (nmem (nmem ((hK 31 (by omega) (by omega))) (by omega)) (by omega)) (by omega)) (by omega)) (by omega)) (by omega)) (by omega)) (by omega)) (by decide) ⟨Nat.le_of_ble_eq_true rfl, Nat.le_of_ble_eq_true rfl⟩ ?_
  refine x_putR dX0_init_31 pf_RX0_25 hini rfl rfl (by decide) ?_
  refine hret _ _ _ _ _ dX0_init_34 ?_
  refine ⟨rfl, fun i j h1 h2 => ?_, fun i j h => ?_, fun a k h => ?_⟩
  · by_cases e : i = 31
    · subst e
      simp [upN, nwN, tg_A (i := 31) rfl]
    · by_cases e2 : i = 22
      · subst e2
        by_cases e3 : j = 2
        · simp [upN, e3]
        · by_cases e4 : j = 1
          · simp [upN, nwN, e4]
          · have q1 : upN (nwN (upN N1 22 1) 31) 22 2 22 j = N1 22 j := by simp [upN, nwN, e3, e4]
            rw [q1, c2 _ _ (by omega)]
            by_cases e5 : j = 0
            · simp [upN, nwN, e5]
            · rename_i N9 _ _
              have q2 : nwN (upN N9 22 0) 28 22 j = N9 22 j := by simp [upN, nwN, e5]
              rw [q2, a2 _ _ (by omega)]
              have q3 : nwN N 23 22 j = N 22 j := by simp [nwN]
              rw [q3, hNb]
              show (match j with | 0 => some 23 | 1 => some 28 | 2 => some 31 | _ => none).isSome = false
              split <;> first | rfl | omega
      · simp only [upN, nwN]
        rw [if_neg (fun z => e2 z.1), if_neg e, if_neg (fun z => e2 z.1)]
        by_cases e3 : 28 ≤ i
        · exact c1 i j e3 (by omega)
        · rw [c2 i j (by omega)]
          simp only [upN, nwN]
          rw [if_neg (by omega), if_neg (by omega)]
          exact a1 i j (by omega) (by omega)
  · simp only [upN, nwN]
    (repeat rw [if_neg (by omega)])
    rw [c2 _ _ (by omega)]
    simp only [upN, nwN]
    (repeat rw [if_neg (by omega)])
    rw [a2 _ _ (by omega)]
    simp only [nwN]
    rw [if_neg (by omega)]
  · simp only [nwI]
    rw [if_neg (by omega), c3 _ _ (by omega)]
    simp only [nwI]
    rw [if_neg (by omega), a3 _ _ (by omega)]
    simp only [nwI]
    rw [if_neg (by omega)]
end FR

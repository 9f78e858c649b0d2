/-! ===== SpringFarms: constructor, images ===== -/
/-- a class as it is made -/
def sfQ (I : MM) : List Nat → NN → MM → Prop := fun K1 N1 I1 => (∀ i, i ∈ K1 ↔ i ≤ 35) ∧ NS N1 ∧ (N1 11 0 = true ∧ N1 11 1 = true) ∧ (I1 1 0 = 9 ∧ I1 1 1 = 0 ∧ I1 1 2 = 0) ∧ (∀ k, k < 63 → I1 2 k = fst7 (k % 7)) ∧ (I1 3 0 = 20 ∧ I1 3 1 = 10 ∧ I1 3 2 = 5) ∧ I1 18 1 = 0 ∧ (∀ k, I1 4 k = 0 ∧ I1 5 k = 0) ∧ ∀ k, I1 19 k = 0
theorem tg_4o {k : Nat} (h : 11 ≤ k) : tg 0 k = none := by
  show tg4 k = none
  unfold tg4; split <;> first | rfl | omega
theorem x_ast2N {G : GT} {own : String} {cc : ByteArray} {R : Room} {Fx : FxT} {pc : Nat} {l0 l1 l2 : Option Value} {r : List (Option Value)} {S : List Value} {K : List Nat} {N : NN} {I : MM} {cs ss : Nat} (hd : decode cc pc = .ok (.astore_n 2, 1)) (h : XX G own cc R Fx (pc + 1) (l0 :: l1 :: some .null :: r) S K N I cs ss) (hp : pvk (l0 :: l1 :: l2 :: r) 2 = true := by rfl) : XX G own cc R Fx pc (l0 :: l1 :: l2 :: r) (.null :: S) K N I cs ss := by
  obtain ⟨p, e, s, m, args, below, meth, c, Q, nL, a0, K0⟩ := Fx
  intro ok al H locs ls st
  obtain ⟨hx, hb, hml, hown, hts, hE, hA⟩ := id ok
  exact lv_astore_nN (i := 2) hx hb hd rfl st.2.2.1.has (Nat.lt_of_lt_of_le (show 2 < (l0 :: l1 :: l2 :: r).length by simp) st.2.2.1.2.2.1) rfl (fun ls' hl' => h ok al H locs ls' (st.tl (st.2.2.1.set1 (L := l0 :: l1 :: l2 :: r) (i := 2) (by simp) hp hl') (fun a b => b.set (i := 2) a)))
def stP (N : NN) (m : Nat) : Prop := (∀ i k, i ≠ 0 → i ≠ 11 → N i k = false) ∧ ∀ k, N 0 k = (if k < m then false else (tg 0 k).isSome)
def imP (N : NN) : Prop := N 11 0 = true ∧ N 11 1 = true
theorem stP.up {N : NN} {m : Nat} (h1 : ∀ i k, i ≠ 0 → i ≠ 11 → N i k = false) (h2 : ∀ k, N 0 k = (if k < m then false else (tg 0 k).isSome)) : stP (upN N 0 m) (m + 1) := by
  refine ⟨fun i k g1 g2 => ?_, fun k => ?_⟩
  · unfold upN; rw [if_neg (by omega)]; exact h1 i k g1 g2
  · unfold upN
    by_cases e : k = m
    · rw [if_pos ⟨rfl, e⟩, if_pos (by omega)]
    · rw [if_neg (fun z => e z.2), h2]
      by_cases q : k < m
      · rw [if_pos q, if_pos (by omega)]
      · rw [if_neg q, if_neg (by omega)]
theorem stP.mk {N N1 : NN} {m b e : Nat} (h : stP N m) (hb : 0 < b) (g1 : ∀ i j, b ≤ i → i ≤ e → N1 i j = false) (g2 : ∀ i j, i < b ∨ e < i → N1 i j = nwN N b i j) (hbe : b ≤ e) : stP (upN N1 0 m) (m + 1) := by
  refine stP.up (fun i k q1 q2 => ?_) (fun k => ?_)
  · by_cases z : b ≤ i ∧ i ≤ e
    · exact g1 i k z.1 z.2
    · rw [g2 i k (by omega)]; unfold nwN; rw [if_neg (by omega)]; exact h.1 i k q1 q2
  · rw [g2 0 k (by omega)]; unfold nwN; rw [if_neg (by omega)]; exact h.2 k
theorem stP.arr {N : NN} {m b : Nat} (h : stP N m) (hb : 0 < b) (hk : kd b = 10 ∨ b = 11) : stP (upN (nwN N b) 0 m) (m + 1) := by
  refine stP.up (fun i k q1 q2 => ?_) (fun k => ?_)
  · unfold nwN
    by_cases z : i = b
    · rw [if_pos z]
      rcases hk with hk | hk
      · rw [tg_A hk]; rfl
      · omega
    · rw [if_neg z]; exact h.1 i k q1 q2
  · unfold nwN; rw [if_neg (by omega)]; exact h.2 k
theorem imP.mk {N N1 : NN} {m b e : Nat} (h : imP N) (hb : 11 < b) (g2 : ∀ i j, i < b ∨ e < i → N1 i j = nwN N b i j) : imP (upN N1 0 m) := by
  unfold imP upN at *
  rw [if_neg (by omega), if_neg (by omega), g2 _ _ (by omega), g2 _ _ (by omega)]
  unfold nwN
  rw [if_neg (by omega), if_neg (by omega)]
  exact h
theorem imP.arr {N : NN} {m b : Nat} (h : imP N) (hb : 11 < b) : imP (upN (nwN N b) 0 m) := by
  unfold imP upN nwN at *
  rw [if_neg (by omega), if_neg (by omega), if_neg (by omega), if_neg (by omega)]
  exact h
section FR
variable {G : GT} {K : List Nat} {N : NN} {I : MM} {b c n : Nat}
theorem sp_sfInit (hN0 : ∀ j, N 0 j = (tg 0 j).isSome) (hN : ∀ i j, i ≠ 0 → N i j = false) : SpV G mX4_init 4 88 35 1450 [.ref 0] [0] N I (sfQ I) := by
  refine SpV.of (own := RX4) (cc := cX4_init) (L := [some (.ref 0)]) (by decide) rfl rfl (Nat.le_of_ble_eq_true rfl) rfl (fun Fx hnm hret => ?_)
  have hini : Fx.2.2.2.2.2.2.1.name = "<init>" := hnm
  refine x_aload_n dX4_init_0 rfl ?_
  refine x_objInit dX4_init_1 ml_RX4_1 in_obj cd_obj ⟨Nat.le_of_ble_eq_true rfl, Nat.le_of_ble_eq_true rfl⟩ ?_
  refine x_aload_n dX4_init_4 rfl ?_
  refine x_new (i := 1) dX4_init_5 ci_3 cl_RX4_7 ib_RX3 ini_SpringFarms_Row rfl (by decide) (by decide) (by decide) ⟨Nat.le_of_ble_eq_true rfl, Nat.le_of_ble_eq_true rfl⟩ ?_
  refine x_dupR dX4_init_8 ?_
  refine x_cIV0 dX4_init_9 ml_RX4_9 vw_X3_init in_X3_init rfl (sp_rowInit (b := 1) rfl (fun k => by simp [nwN]) (by decide) (by decide) (by decide) (by decide)) ⟨Nat.le_of_ble_eq_true rfl, Nat.le_of_ble_eq_true rfl, Nat.le_of_ble_eq_true rfl, Nat.le_of_ble_eq_true rfl, Nat.le_of_ble_eq_true rfl⟩ (fun K1 N1 I1 hq hK1 => ?_)
  obtain ⟨e1, a1, a2, a3, a4, a5, a6⟩ := hq
  subst e1
  revert N1 I1
  intro NA IA a1 a2 a3 a4 a5 a6
  refine x_putR dX4_init_12 pf_RX4_10 hini rfl rfl (by decide) ?_
  refine x_aload_n dX4_init_15 rfl ?_
  refine x_new (i := 6) dX4_init_16 ci_3 cl_RX4_7 ib_RX3 ini_SpringFarms_Row rfl (by decide) (by decide) (by decide) ⟨Nat.le_of_ble_eq_true rfl, Nat.le_of_ble_eq_true rfl⟩ ?_
  refine x_dupR dX4_init_19 ?_
  refine x_cIV0 dX4_init_20 ml_RX4_9 vw_X3_init in_X3_init rfl (sp_rowInit (b := 6) rfl (fun k => by simp [nwN]) (by decide) (by decide) (by decide) (by decide)) ⟨Nat.le_of_ble_eq_true rfl, Nat.le_of_ble_eq_true rfl, Nat.le_of_ble_eq_true rfl, Nat.le_of_ble_eq_true rfl, Nat.le_of_ble_eq_true rfl⟩ (fun K1 N1 I1 hq hK1 => ?_)
  obtain ⟨e1, b1, b2, b3, -, -, -⟩ := hq
  subst e1
  revert N1 I1
  intro NB IB b1 b2 b3
  refine x_putR dX4_init_23 pf_RX4_16 hini rfl rfl (by decide) ?_
  refine x_aload_n dX4_init_26 rfl ?_
  refine x_iconst dX4_init_27 ?_
  refine x_newq (i := 11) 2 dX4_init_28 cl_RX4_7 (by omega) rfl rfl (by decide) (by decide) ⟨Nat.le_of_ble_eq_true rfl, Nat.le_of_ble_eq_true rfl⟩ ?_
  refine x_putR dX4_init_31 pf_RX4_19 hini rfl rfl (by decide) ?_
  refine x_aload_n dX4_init_34 rfl ?_
  refine x_new (i := 12) dX4_init_35 ci_2 cl_RX4_23 ib_RX2 ini_SpringFarms_Hour rfl (by decide) (by decide) (by decide) ⟨Nat.le_of_ble_eq_true rfl, Nat.le_of_ble_eq_true rfl⟩ ?_
  refine x_dupR dX4_init_38 ?_
  refine x_cIN dX4_init_39 (by decide +kernel) vw_X2_init in_X2_init rfl (sp_hourInit (c := 12) rfl (fun k => by simp [nwN]) (by decide) (by decide)) ⟨Nat.le_of_ble_eq_true rfl, Nat.le_of_ble_eq_true rfl, Nat.le_of_ble_eq_true rfl, Nat.le_of_ble_eq_true rfl, Nat.le_of_ble_eq_true rfl⟩ (fun K1 N1 I1 hq hK1 => ?_)
  obtain ⟨e1, c1, c2, c3⟩ := hq
  subst e1
  revert N1 I1
  intro NC IC c1 c2 c3
  refine x_putR dX4_init_42 pf_RX4_26 hini rfl rfl (by decide) ?_
  refine x_aload_n dX4_init_45 rfl ?_
  refine x_new (i := 15) dX4_init_46 ci_2 cl_RX4_23 ib_RX2 ini_SpringFarms_Hour rfl (by decide) (by decide) (by decide) ⟨Nat.le_of_ble_eq_true rfl, Nat.le_of_ble_eq_true rfl⟩ ?_
  refine x_dupR dX4_init_49 ?_
  refine x_cIN dX4_init_50 (by decide +kernel) vw_X2_init in_X2_init rfl (sp_hourInit (c := 15) rfl (fun k => by simp [nwN]) (by decide) (by decide)) ⟨Nat.le_of_ble_eq_true rfl, Nat.le_of_ble_eq_true rfl, Nat.le_of_ble_eq_true rfl, Nat.le_of_ble_eq_true rfl, Nat.le_of_ble_eq_true rfl⟩ (fun K1 N1 I1 hq hK1 => ?_)
  obtain ⟨e1, d1, d2, d3⟩ := hq
  subst e1
  revert N1 I1
  intro ND ID d1 d2 d3
  refine x_putR dX4_init_53 pf_RX4_30 hini rfl rfl (by decide) ?_
  refine x_aload_n dX4_init_56 rfl ?_
  refine x_new (i := 18) dX4_init_57 ci_1 cl_RX4_33 ib_RX1 ini_SpringFarms_Day rfl (by decide) (by decide) (by decide) ⟨Nat.le_of_ble_eq_true rfl, Nat.le_of_ble_eq_true rfl⟩ ?_
  refine x_dupR dX4_init_60 ?_
  refine x_cIN dX4_init_61 (by decide +kernel) vw_X1_init in_X1_init rfl (sp_dayInit (fun k => by simp [nwN]) (fun i h1 h2 z => by
      simp only [List.mem_append, List.mem_cons, List.mem_singleton, List.not_mem_nil, or_false] at z
      omega)) ⟨Nat.le_of_ble_eq_true rfl, Nat.le_of_ble_eq_true rfl, Nat.le_of_ble_eq_true rfl, Nat.le_of_ble_eq_true rfl, Nat.le_of_ble_eq_true rfl⟩ (fun K1 N1 I1 hq hK1 => ?_)
  obtain ⟨e1, e2, e3, e4, e5⟩ := hq
  subst e1
  revert N1 I1
  intro NE IE e2 e3 e4 e5
  refine x_putR dX4_init_64 pf_RX4_36 hini rfl rfl (by decide) ?_
  refine x_aload_n dX4_init_67 rfl ?_
  refine x_new (i := 22) dX4_init_68 ci_0 cl_RX4_40 ib_RX0 ini_SpringFarms_Course rfl (by decide) (by decide) (by decide) ⟨Nat.le_of_ble_eq_true rfl, Nat.le_of_ble_eq_true rfl⟩ ?_
  refine x_dupR dX4_init_71 ?_
  refine x_cIN dX4_init_72 (by decide +kernel) vw_X0_init in_X0_init rfl (sp_courseInit (fun k => by simp [nwN]) (fun i h1 h2 z => by
      simp only [List.mem_append, List.mem_cons, List.mem_singleton, List.not_mem_nil, or_false] at z
      omega)) ⟨Nat.le_of_ble_eq_true rfl, Nat.le_of_ble_eq_true rfl, Nat.le_of_ble_eq_true rfl, Nat.le_of_ble_eq_true rfl, Nat.le_of_ble_eq_true rfl⟩ (fun K1 N1 I1 hq hK1 => ?_)
  obtain ⟨e1, f1, f2, f3⟩ := hq
  subst e1
  revert N1 I1
  intro NF IF f1 f2 f3
  refine x_putR dX4_init_75 pf_RX4_43 hini rfl rfl (by decide) ?_
  refine x_aload_n dX4_init_78 rfl ?_
  refine x_bipush dX4_init_79 (by decide) ?_
  refine x_newa (i := 32) 90 dX4_init_81 ac_int (by omega) rfl rfl (by decide) (by decide) ⟨Nat.le_of_ble_eq_true rfl, Nat.le_of_ble_eq_true rfl⟩ ?_
  refine x_putR dX4_init_83 pf_RX4_47 hini rfl rfl (by decide) ?_
  refine x_aload_n dX4_init_86 rfl ?_
  refine x_iconst dX4_init_87 ?_
  refine x_newa (i := 33) 3 dX4_init_88 ac_int (by omega) rfl rfl (by decide) (by decide) ⟨Nat.le_of_ble_eq_true rfl, Nat.le_of_ble_eq_true rfl⟩ ?_
  refine x_putR dX4_init_90 pf_RX4_51 hini rfl rfl (by decide) ?_
  refine x_aload_n dX4_init_93 rfl ?_
  refine x_sipush dX4_init_94 (by decide) ?_
  refine x_newa (i := 34) 375 dX4_init_97 ac_int (by omega) rfl rfl (by decide) (by decide) ⟨Nat.le_of_ble_eq_true rfl, Nat.le_of_ble_eq_true rfl⟩ ?_
  refine x_putR dX4_init_99 pf_RX4_54 hini rfl rfl (by decide) ?_
  refine x_aload_n dX4_init_102 rfl ?_
  refine x_sipush dX4_init_103 (by decide) ?_
  refine x_newa (i := 35) 450 dX4_init_106 ac_int (by omega) rfl rfl (by decide) (by decide) ⟨Nat.le_of_ble_eq_true rfl, Nat.le_of_ble_eq_true rfl⟩ ?_
  refine x_putR dX4_init_108 pf_RX4_57 hini rfl rfl (by decide) ?_
  refine hret _ _ _ _ _ dX4_init_111 ?_
  have s0 : stP N 0 := ⟨fun i k q _ => hN i k q, fun k => by rw [hN0, if_neg (by omega)]⟩
  have s1 := s0.mk (e := 1 + 4) (by decide) a1 a2 (by decide)
  have s2 := s1.mk (e := 6 + 4) (by decide) b1 b2 (by decide)
  have s3 := s2.arr (b := 11) (by decide) (Or.inr rfl)
  have s4 := s3.mk (e := 12 + 2) (by decide) c1 c2 (by decide)
  have s5 := s4.mk (e := 15 + 2) (by decide) d1 d2 (by decide)
  have s6 := s5.mk (e := 21) (by decide) e2 e3 (by decide)
  have s7 := s6.mk (e := 31) (by decide) f1 f2 (by decide)
  have s8 := (((s7.arr (b := 32) (by decide) (Or.inl rfl)).arr (b := 33) (by decide) (Or.inl rfl)).arr (b := 34) (by decide) (Or.inl rfl)).arr (b := 35) (by decide) (Or.inl rfl)
  have i3 : imP (upN (nwN (upN NB 0 1) 11) 0 2) := ⟨rfl, rfl⟩
  have i8 := (((((((i3.mk (m := 3) (by decide) c2).mk (m := 4) (by decide) d2).mk (m := 5) (by decide) e3).mk (m := 6) (by decide) f2).arr (m := 7) (b := 32) (by decide)).arr (m := 8) (b := 33) (by decide)).arr (m := 9) (b := 34) (by decide)).arr (m := 10) (b := 35) (by decide)
  have hch : ∀ a k, a < 6 → nwI (nwI (nwI (nwI IF 32) 33) 34) 35 a k = IA a k := by
    intro a k h
    simp only [nwI]
    rw [if_neg (by omega), if_neg (by omega), if_neg (by omega), if_neg (by omega), f3 _ _ (by omega)]
    simp only [nwI]
    rw [if_neg (by omega), e4 _ _ (by omega)]
    simp only [nwI]
    rw [if_neg (by omega), d3 _ _ (by omega)]
    simp only [nwI]
    rw [if_neg (by omega), c3 _ _ (by omega)]
    simp only [nwI]
    rw [if_neg (by omega), if_neg (by omega), b3 _ _ (by omega)]
    simp only [nwI]
    rw [if_neg (by omega)]
  refine ⟨fun i => ?_, fun i k hi => ?_, i8, ⟨?_, ?_, ?_⟩, fun k hk => ?_, ⟨?_, ?_, ?_⟩, ?_, fun k => ⟨?_, ?_⟩, fun k => ?_⟩
  · simp only [List.mem_append, List.mem_cons, List.mem_singleton, List.not_mem_nil, or_false]
    omega
  · by_cases e : i = 0
    · subst e
      have q := s8.2 k
      rw [q]
      by_cases z : k < 11
      · rw [if_pos z]
      · rw [if_neg z, tg_4o (by omega)]; rfl
    · exact s8.1 i k e hi
  · rw [hch _ _ (by omega)]; exact a4.1
  · rw [hch _ _ (by omega)]; exact a4.2.1
  · rw [hch _ _ (by omega)]; exact a4.2.2
  · rw [hch _ _ (by omega)]; exact a5 k hk
  · rw [hch _ _ (by omega)]; exact a6.1
  · rw [hch _ _ (by omega)]; exact a6.2.1
  · rw [hch _ _ (by omega)]; exact a6.2.2.1
  · simp only [nwI]
    rw [if_neg (by omega), if_neg (by omega), if_neg (by omega), if_neg (by omega), f3 _ _ (by omega)]
    simp only [nwI]
    rw [if_neg (by omega), e4 _ _ (by omega)]
    simp only [nwI, if_true]
  · rw [hch _ _ (by omega)]; exact (a6.2.2.2 k).1
  · rw [hch _ _ (by omega)]; exact (a6.2.2.2 k).2
  · simp only [nwI]
    rw [if_neg (by omega), if_neg (by omega), if_neg (by omega), if_neg (by omega), f3 _ _ (by omega)]
    simp only [nwI]
    rw [if_neg (by omega), e5]
/-- images that are not kept have no cells -/
def KN (K : List Nat) (N : NN) : Prop := ∀ j, j < 2 → N 11 j = true → ∀ i, 36 + 5 * j ≤ i → i ≤ 40 + 5 * j → i ∉ K
def imQ (K : List Nat) (N : NN) (I : MM) (j : Nat) : List Nat → NN → MM → Prop := fun K1 N1 J => NS N1 ∧ (∀ j2, N1 11 j2 = (if j2 = j then false else N 11 j2)) ∧ KN K1 N1 ∧ (∀ i, i < 36 ∨ 46 ≤ i → (i ∈ K1 ↔ i ∈ K)) ∧ ∃ I2 : MM, (∀ a k, a < 36 + 5 * j ∨ 40 + 5 * j < a → I2 a k = I a k) ∧ J = cpR I2 1 (36 + 5 * j)
theorem sp_image (hN : NS N) (hKN : KN K N) {n : Int} (hn0 : inr n) : SpI G mX4_image .int 3 68 5 89 [.ref 0, vi n] K N I (fun z K1 N1 J => (¬ (0 ≤ n ∧ n ≤ 1) ∧ z = -2 ∧ K1 = K ∧ N1 = N ∧ J = I) ∨ ∃ j : Nat, j < 2 ∧ n = (j : Int) ∧ z = 1 ∧ imQ K N I j K1 N1 J) := by
  refine SpI.of (own := RX4) (cc := cX4_image) (L := [some (.ref 0), some (vi n), none]) (by decide) rfl rfl (Nat.le_of_ble_eq_true rfl) rfl (fun Fx hnm hret => ?_)
  refine x_iload_n dX4_image_0 rfl ?_
  refine x_iconst dX4_image_1 ?_
  refine xf_SI2 dX4_image_2 ml_RX4_72 vw_X4_within st_X4_within (sp_within hn0 (by unfold inr; omega)) ⟨Nat.le_of_ble_eq_true rfl, Nat.le_of_ble_eq_true rfl, Nat.le_of_ble_eq_true rfl, Nat.le_of_ble_eq_true rfl, Nat.le_of_ble_eq_true rfl⟩ ?_
  refine x_if_ne 11 dX4_image_5 (by decide) (by unfold inr; split <;> omega) (fun h_5 => ?_) (fun h_5 => ?_)
  · replace h_5 := b1 h_5
    rcases (by omega : n = 0 ∨ n = 1) with rfl | rfl
    · by_cases hn : N 11 0 = true
      · refine x_aload_n dX4_image_11 rfl ?_
        refine x_getR (j := 11) dX4_image_12 gf_RX4_19 rfl rfl (hN _ _ (by decide)) ?_
        refine x_iload_n dX4_image_15 rfl ?_
        refine x_aaldN (0) dX4_image_16 rfl (by omega) (show _ < 2 by omega) rfl hn ?_
        refine x_ast2N dX4_image_17 ?_
        refine x_aload_nN dX4_image_18 rfl ?_
        refine x_nonnullN dX4_image_19 ?_
        refine x_new (i := 36) dX4_image_22 ci_3 cl_RX4_7 ib_RX3 ini_SpringFarms_Row rfl (hKN 0 (by decide) hn 36 (by omega) (by omega)) (by decide) (by decide) ⟨Nat.le_of_ble_eq_true rfl, Nat.le_of_ble_eq_true rfl⟩ ?_
        refine x_dupR dX4_image_25 ?_
        refine x_cIV0 dX4_image_26 ml_RX4_9 vw_X3_init in_X3_init rfl (sp_rowInit (b := 36) rfl (fun k => by simp [nwN]) (nmem (hKN 0 (by decide) hn (36 + 1) (by omega) (by omega)) (by decide)) (nmem (hKN 0 (by decide) hn (36 + 2) (by omega) (by omega)) (by decide)) (nmem (hKN 0 (by decide) hn (36 + 3) (by omega) (by omega)) (by decide)) (nmem (hKN 0 (by decide) hn (36 + 4) (by omega) (by omega)) (by decide))) ⟨Nat.le_of_ble_eq_true rfl, Nat.le_of_ble_eq_true rfl, Nat.le_of_ble_eq_true rfl, Nat.le_of_ble_eq_true rfl, Nat.le_of_ble_eq_true rfl⟩ (fun K1 N1 I1 hq hK1 => ?_)
        obtain ⟨e1, a1, a2, a3, -, -, -⟩ := hq
        subst e1
        revert N1 I1
        intro NA IA a1 a2 a3
        refine x_ast2 dX4_image_29 ?_
        refine x_aload_n dX4_image_30 rfl ?_
        refine x_getR (j := 11) dX4_image_31 gf_RX4_19 rfl rfl (by rw [a2 0 2 (by omega)]; unfold nwN; rw [if_neg (by omega)]; exact hN _ _ (by decide)) ?_
        refine x_iload_n dX4_image_34 rfl ?_
        refine x_aload_n dX4_image_35 rfl ?_
        refine x_aast (0) dX4_image_36 rfl (by omega) (show _ < 2 by omega) rfl rfl ?_
        have hNS : NS (upN NA 11 0) := fun i k hi => by
          unfold upN
          rw [if_neg (fun z => hi z.1)]
          by_cases z : 36 ≤ i ∧ i ≤ 36 + 4
          · exact a1 i k z.1 z.2
          · rw [a2 i k (by omega)]; unfold nwN; rw [if_neg (by omega)]; exact hN i k hi
        have h11 : ∀ j2, upN NA 11 0 11 j2 = (if j2 = 0 then false else N 11 j2) := fun j2 => by
          unfold upN
          by_cases z : j2 = 0
          · rw [if_pos ⟨rfl, z⟩, if_pos z]
          · rw [if_neg (fun q => z q.2), if_neg z, a2 _ _ (by omega)]; unfold nwN; rw [if_neg (by omega)]
        refine x_aload_n dX4_image_37 rfl ?_
        refine x_aload_n dX4_image_38 rfl ?_
        refine x_getR (j := 1) dX4_image_39 gf_RX4_10 rfl rfl (hNS _ _ (by decide)) ?_
        refine xf_VV1 dX4_image_42 ml_RX4_125 vw_X3_copy vv_X3_copy rfl (sp_copy (s := 1) (d := 36) rfl rfl (by decide) hNS) ⟨Nat.le_of_ble_eq_true rfl, Nat.le_of_ble_eq_true rfl, Nat.le_of_ble_eq_true rfl, Nat.le_of_ble_eq_true rfl, Nat.le_of_ble_eq_true rfl⟩ ?_
        refine x_iconst dX4_image_45 ?_
        refine hret _ _ _ _ _ _ dX4_image_46 rfl ?_
        refine Or.inr ⟨0, by decide, rfl, rfl, hNS, h11, fun j2 hj2 g i q1 q2 => ?_, fun i hi => ?_, IA, fun a k q => ?_, rfl⟩
        · rw [h11] at g
          by_cases z : j2 = 0
          · rw [if_pos z] at g; exact absurd g (by decide)
          · rw [if_neg z] at g
            have q3 := hKN j2 hj2 g i q1 q2
            intro q4
            simp only [List.mem_append, List.mem_singleton] at q4
            rcases q4 with ((((q4 | q4) | q4) | q4) | q4) | q4
            · exact q3 q4
            all_goals omega
        · simp only [List.mem_append, List.mem_singleton]
          refine ⟨fun z => ?_, fun z => Or.inl (Or.inl (Or.inl (Or.inl (Or.inl z))))⟩
          rcases z with ((((z | z) | z) | z) | z) | z
          · exact z
          all_goals omega
        · rw [a3 a k (by omega)]; unfold nwI; rw [if_neg (by omega)]
      · rw [Bool.not_eq_true] at hn
        refine x_aload_n dX4_image_11 rfl ?_
        refine x_getR (j := 11) dX4_image_12 gf_RX4_19 rfl rfl (hN _ _ (by decide)) ?_
        refine x_iload_n dX4_image_15 rfl ?_
        refine x_aaldR (0) dX4_image_16 rfl (by omega) (show _ < 2 by omega) rfl hn ?_
        refine x_ast2 dX4_image_17 ?_
        refine x_aload_n dX4_image_18 rfl ?_
        refine x_nonnullR 37 dX4_image_19 (by decide) ?_
        refine x_aload_n dX4_image_37 rfl ?_
        refine x_aload_n dX4_image_38 rfl ?_
        refine x_getR (j := 1) dX4_image_39 gf_RX4_10 rfl rfl (hN _ _ (by decide)) ?_
        refine xf_VV1 dX4_image_42 ml_RX4_125 vw_X3_copy vv_X3_copy rfl (sp_copy (s := 1) (d := 36) rfl rfl (by decide) hN) ⟨Nat.le_of_ble_eq_true rfl, Nat.le_of_ble_eq_true rfl, Nat.le_of_ble_eq_true rfl, Nat.le_of_ble_eq_true rfl, Nat.le_of_ble_eq_true rfl⟩ ?_
        refine x_widen (k := 5) (n := 89) (by decide) (by decide) ?_
        refine x_iconst dX4_image_45 ?_
        refine hret _ _ _ _ _ _ dX4_image_46 rfl ?_
        refine Or.inr ⟨0, by decide, rfl, rfl, hN, fun j2 => ?_, hKN, fun i hi => Iff.rfl, I, fun a k q => rfl, rfl⟩
        by_cases z : j2 = 0
        · rw [if_pos z, z]; exact hn
        · rw [if_neg z]
    · by_cases hn : N 11 1 = true
      · refine x_aload_n dX4_image_11 rfl ?_
        refine x_getR (j := 11) dX4_image_12 gf_RX4_19 rfl rfl (hN _ _ (by decide)) ?_
        refine x_iload_n dX4_image_15 rfl ?_
        refine x_aaldN (1) dX4_image_16 rfl (by omega) (show _ < 2 by omega) rfl hn ?_
        refine x_ast2N dX4_image_17 ?_
        refine x_aload_nN dX4_image_18 rfl ?_
        refine x_nonnullN dX4_image_19 ?_
        refine x_new (i := 41) dX4_image_22 ci_3 cl_RX4_7 ib_RX3 ini_SpringFarms_Row rfl (hKN 1 (by decide) hn 41 (by omega) (by omega)) (by decide) (by decide) ⟨Nat.le_of_ble_eq_true rfl, Nat.le_of_ble_eq_true rfl⟩ ?_
        refine x_dupR dX4_image_25 ?_
        refine x_cIV0 dX4_image_26 ml_RX4_9 vw_X3_init in_X3_init rfl (sp_rowInit (b := 41) rfl (fun k => by simp [nwN]) (nmem (hKN 1 (by decide) hn (41 + 1) (by omega) (by omega)) (by decide)) (nmem (hKN 1 (by decide) hn (41 + 2) (by omega) (by omega)) (by decide)) (nmem (hKN 1 (by decide) hn (41 + 3) (by omega) (by omega)) (by decide)) (nmem (hKN 1 (by decide) hn (41 + 4) (by omega) (by omega)) (by decide))) ⟨Nat.le_of_ble_eq_true rfl, Nat.le_of_ble_eq_true rfl, Nat.le_of_ble_eq_true rfl, Nat.le_of_ble_eq_true rfl, Nat.le_of_ble_eq_true rfl⟩ (fun K1 N1 I1 hq hK1 => ?_)
        obtain ⟨e1, a1, a2, a3, -, -, -⟩ := hq
        subst e1
        revert N1 I1
        intro NA IA a1 a2 a3
        refine x_ast2 dX4_image_29 ?_
        refine x_aload_n dX4_image_30 rfl ?_
        refine x_getR (j := 11) dX4_image_31 gf_RX4_19 rfl rfl (by rw [a2 0 2 (by omega)]; unfold nwN; rw [if_neg (by omega)]; exact hN _ _ (by decide)) ?_
        refine x_iload_n dX4_image_34 rfl ?_
        refine x_aload_n dX4_image_35 rfl ?_
        refine x_aast (1) dX4_image_36 rfl (by omega) (show _ < 2 by omega) rfl rfl ?_
        have hNS : NS (upN NA 11 1) := fun i k hi => by
          unfold upN
          rw [if_neg (fun z => hi z.1)]
          by_cases z : 41 ≤ i ∧ i ≤ 41 + 4
          · exact a1 i k z.1 z.2
          · rw [a2 i k (by omega)]; unfold nwN; rw [if_neg (by omega)]; exact hN i k hi
        have h11 : ∀ j2, upN NA 11 1 11 j2 = (if j2 = 1 then false else N 11 j2) := fun j2 => by
          unfold upN
          by_cases z : j2 = 1
          · rw [if_pos ⟨rfl, z⟩, if_pos z]
          · rw [if_neg (fun q => z q.2), if_neg z, a2 _ _ (by omega)]; unfold nwN; rw [if_neg (by omega)]
        refine x_aload_n dX4_image_37 rfl ?_
        refine x_aload_n dX4_image_38 rfl ?_
        refine x_getR (j := 1) dX4_image_39 gf_RX4_10 rfl rfl (hNS _ _ (by decide)) ?_
        refine xf_VV1 dX4_image_42 ml_RX4_125 vw_X3_copy vv_X3_copy rfl (sp_copy (s := 1) (d := 41) rfl rfl (by decide) hNS) ⟨Nat.le_of_ble_eq_true rfl, Nat.le_of_ble_eq_true rfl, Nat.le_of_ble_eq_true rfl, Nat.le_of_ble_eq_true rfl, Nat.le_of_ble_eq_true rfl⟩ ?_
        refine x_iconst dX4_image_45 ?_
        refine hret _ _ _ _ _ _ dX4_image_46 rfl ?_
        refine Or.inr ⟨1, by decide, rfl, rfl, hNS, h11, fun j2 hj2 g i q1 q2 => ?_, fun i hi => ?_, IA, fun a k q => ?_, rfl⟩
        · rw [h11] at g
          by_cases z : j2 = 1
          · rw [if_pos z] at g; exact absurd g (by decide)
          · rw [if_neg z] at g
            have q3 := hKN j2 hj2 g i q1 q2
            intro q4
            simp only [List.mem_append, List.mem_singleton] at q4
            rcases q4 with ((((q4 | q4) | q4) | q4) | q4) | q4
            · exact q3 q4
            all_goals omega
        · simp only [List.mem_append, List.mem_singleton]
          refine ⟨fun z => ?_, fun z => Or.inl (Or.inl (Or.inl (Or.inl (Or.inl z))))⟩
          rcases z with ((((z | z) | z) | z) | z) | z
          · exact z
          all_goals omega
        · rw [a3 a k (by omega)]; unfold nwI; rw [if_neg (by omega)]
      · rw [Bool.not_eq_true] at hn
        refine x_aload_n dX4_image_11 rfl ?_
        refine x_getR (j := 11) dX4_image_12 gf_RX4_19 rfl rfl (hN _ _ (by decide)) ?_
        refine x_iload_n dX4_image_15 rfl ?_
        refine x_aaldR (1) dX4_image_16 rfl (by omega) (show _ < 2 by omega) rfl hn ?_
        refine x_ast2 dX4_image_17 ?_
        refine x_aload_n dX4_image_18 rfl ?_
        refine x_nonnullR 37 dX4_image_19 (by decide) ?_
        refine x_aload_n dX4_image_37 rfl ?_
        refine x_aload_n dX4_image_38 rfl ?_
        refine x_getR (j := 1) dX4_image_39 gf_RX4_10 rfl rfl (hN _ _ (by decide)) ?_
        refine xf_VV1 dX4_image_42 ml_RX4_125 vw_X3_copy vv_X3_copy rfl (sp_copy (s := 1) (d := 41) rfl rfl (by decide) hN) ⟨Nat.le_of_ble_eq_true rfl, Nat.le_of_ble_eq_true rfl, Nat.le_of_ble_eq_true rfl, Nat.le_of_ble_eq_true rfl, Nat.le_of_ble_eq_true rfl⟩ ?_
        refine x_widen (k := 5) (n := 89) (by decide) (by decide) ?_
        refine x_iconst dX4_image_45 ?_
        refine hret _ _ _ _ _ _ dX4_image_46 rfl ?_
        refine Or.inr ⟨1, by decide, rfl, rfl, hN, fun j2 => ?_, hKN, fun i hi => Iff.rfl, I, fun a k q => rfl, rfl⟩
        by_cases z : j2 = 1
        · rw [if_pos z, z]; exact hn
        · rw [if_neg z]
  · replace h_5 := b0 h_5
    refine x_widen (k := 5) (n := 89) (by decide) (by decide) ?_
    refine x_bipush dX4_image_8 (by decide) ?_
    refine hret _ _ _ _ _ _ dX4_image_10 rfl ?_
    exact Or.inl ⟨h_5, rfl, rfl, rfl, rfl⟩
theorem sp_restore (hN : NS N) {n : Int} (hn0 : inr n) : SpI G mX4_restore .int 2 47 0 0 [.ref 0, vi n] K N I (pI K N (fun z J => (¬ (0 ≤ n ∧ n ≤ 1) ∧ z = -2 ∧ J = I) ∨ (∃ j : Nat, j < 2 ∧ n = (j : Int) ∧ N 11 j = true ∧ z = -3 ∧ J = I) ∨ ∃ j : Nat, j < 2 ∧ n = (j : Int) ∧ N 11 j = false ∧ z = 1 ∧ J = cpR I (36 + 5 * j) 1)) := by
  refine SpI.of (own := RX4) (cc := cX4_restore) (L := [some (.ref 0), some (vi n), none]) (by decide) rfl rfl (Nat.le_of_ble_eq_true rfl) rfl (fun Fx hnm hret => ?_)
  refine x_iload_n dX4_restore_0 rfl ?_
  refine x_iconst dX4_restore_1 ?_
  refine xf_SI2 dX4_restore_2 ml_RX4_72 vw_X4_within st_X4_within (sp_within hn0 (by unfold inr; omega)) ⟨Nat.le_of_ble_eq_true rfl, Nat.le_of_ble_eq_true rfl, Nat.le_of_ble_eq_true rfl, Nat.le_of_ble_eq_true rfl, Nat.le_of_ble_eq_true rfl⟩ ?_
  refine x_if_ne 11 dX4_restore_5 (by decide) (by unfold inr; split <;> omega) (fun h_5 => ?_) (fun h_5 => ?_)
  · replace h_5 := b1 h_5
    rcases (by omega : n = 0 ∨ n = 1) with rfl | rfl
    · by_cases hn : N 11 0 = true
      · refine x_aload_n dX4_restore_11 rfl ?_
        refine x_getR (j := 11) dX4_restore_12 gf_RX4_19 rfl rfl (hN _ _ (by decide)) ?_
        refine x_iload_n dX4_restore_15 rfl ?_
        refine x_aaldN (0) dX4_restore_16 rfl (by omega) (show _ < 2 by omega) rfl hn ?_
        refine x_ast2N dX4_restore_17 ?_
        refine x_aload_nN dX4_restore_18 rfl ?_
        refine x_nonnullN dX4_restore_19 ?_
        refine x_bipush dX4_restore_22 (by decide) ?_
        refine hret _ _ _ _ _ _ dX4_restore_24 rfl ?_
        exact ⟨rfl, rfl, Or.inr (Or.inl ⟨0, by decide, rfl, hn, rfl, rfl⟩)⟩
      · rw [Bool.not_eq_true] at hn
        refine x_aload_n dX4_restore_11 rfl ?_
        refine x_getR (j := 11) dX4_restore_12 gf_RX4_19 rfl rfl (hN _ _ (by decide)) ?_
        refine x_iload_n dX4_restore_15 rfl ?_
        refine x_aaldR (0) dX4_restore_16 rfl (by omega) (show _ < 2 by omega) rfl hn ?_
        refine x_ast2 dX4_restore_17 ?_
        refine x_aload_n dX4_restore_18 rfl ?_
        refine x_nonnullR 25 dX4_restore_19 (by decide) ?_
        refine x_aload_n dX4_restore_25 rfl ?_
        refine x_getR (j := 1) dX4_restore_26 gf_RX4_10 rfl rfl (hN _ _ (by decide)) ?_
        refine x_aload_n dX4_restore_29 rfl ?_
        refine xf_VV1 dX4_restore_30 ml_RX4_125 vw_X3_copy vv_X3_copy rfl (sp_copy (s := 36) (d := 1) rfl rfl (by decide) hN) ⟨Nat.le_of_ble_eq_true rfl, Nat.le_of_ble_eq_true rfl, Nat.le_of_ble_eq_true rfl, Nat.le_of_ble_eq_true rfl, Nat.le_of_ble_eq_true rfl⟩ ?_
        refine x_iconst dX4_restore_33 ?_
        refine hret _ _ _ _ _ _ dX4_restore_34 rfl ?_
        exact ⟨rfl, rfl, Or.inr (Or.inr ⟨0, by decide, rfl, hn, rfl, rfl⟩)⟩
    · by_cases hn : N 11 1 = true
      · refine x_aload_n dX4_restore_11 rfl ?_
        refine x_getR (j := 11) dX4_restore_12 gf_RX4_19 rfl rfl (hN _ _ (by decide)) ?_
        refine x_iload_n dX4_restore_15 rfl ?_
        refine x_aaldN (1) dX4_restore_16 rfl (by omega) (show _ < 2 by omega) rfl hn ?_
        refine x_ast2N dX4_restore_17 ?_
        refine x_aload_nN dX4_restore_18 rfl ?_
        refine x_nonnullN dX4_restore_19 ?_
        refine x_bipush dX4_restore_22 (by decide) ?_
        refine hret _ _ _ _ _ _ dX4_restore_24 rfl ?_
        exact ⟨rfl, rfl, Or.inr (Or.inl ⟨1, by decide, rfl, hn, rfl, rfl⟩)⟩
      · rw [Bool.not_eq_true] at hn
        refine x_aload_n dX4_restore_11 rfl ?_
        refine x_getR (j := 11) dX4_restore_12 gf_RX4_19 rfl rfl (hN _ _ (by decide)) ?_
        refine x_iload_n dX4_restore_15 rfl ?_
        refine x_aaldR (1) dX4_restore_16 rfl (by omega) (show _ < 2 by omega) rfl hn ?_
        refine x_ast2 dX4_restore_17 ?_
        refine x_aload_n dX4_restore_18 rfl ?_
        refine x_nonnullR 25 dX4_restore_19 (by decide) ?_
        refine x_aload_n dX4_restore_25 rfl ?_
        refine x_getR (j := 1) dX4_restore_26 gf_RX4_10 rfl rfl (hN _ _ (by decide)) ?_
        refine x_aload_n dX4_restore_29 rfl ?_
        refine xf_VV1 dX4_restore_30 ml_RX4_125 vw_X3_copy vv_X3_copy rfl (sp_copy (s := 41) (d := 1) rfl rfl (by decide) hN) ⟨Nat.le_of_ble_eq_true rfl, Nat.le_of_ble_eq_true rfl, Nat.le_of_ble_eq_true rfl, Nat.le_of_ble_eq_true rfl, Nat.le_of_ble_eq_true rfl⟩ ?_
        refine x_iconst dX4_restore_33 ?_
        refine hret _ _ _ _ _ _ dX4_restore_34 rfl ?_
        exact ⟨rfl, rfl, Or.inr (Or.inr ⟨1, by decide, rfl, hn, rfl, rfl⟩)⟩
  · replace h_5 := b0 h_5
    refine x_bipush dX4_restore_8 (by decide) ?_
    refine hret _ _ _ _ _ _ dX4_restore_10 rfl ?_
    exact ⟨rfl, rfl, Or.inl ⟨h_5, rfl, rfl⟩⟩
end FR

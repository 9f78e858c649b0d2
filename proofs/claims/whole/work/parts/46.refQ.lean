/-! ===== the reference: its constructor ===== -/
def stM (N : NN) (m : Nat) : Prop := (∀ i k, i ≠ 50 → i ≠ 11 → N i k = false) ∧ ∀ k, N 50 k = (if k < m then false else (tg 50 k).isSome)
theorem tg_5o {k : Nat} (h : 30 ≤ k) : tg 50 k = none := by
  show tg5 k = none
  unfold tg5; split <;> first | rfl | omega
theorem tgz {b k : Nat} (hb : 51 ≤ b ∧ b ≤ 66) : tg b k = none := by
  rcases (by omega : b = 51 ∨ b = 52 ∨ b = 53 ∨ b = 54 ∨ b = 55 ∨ b = 56 ∨ b = 57 ∨ b = 58 ∨ b = 59 ∨ b = 60 ∨ b = 61 ∨ b = 62 ∨ b = 63 ∨ b = 64 ∨ b = 65 ∨ b = 66) with rfl | rfl | rfl | rfl | rfl | rfl | rfl | rfl | rfl | rfl | rfl | rfl | rfl | rfl | rfl | rfl <;> rfl
theorem stM.arr {N : NN} {m s b : Nat} (h : stM N m) (hms : m ≤ s) (hb : 51 ≤ b ∧ b ≤ 66) (hg : ∀ k, m ≤ k → k < s → tg 50 k = none) : stM (upN (nwN N b) 50 s) (s + 1) := by
  refine ⟨fun i k q1 q2 => ?_, fun k => ?_⟩
  · unfold upN nwN
    rw [if_neg (fun z => q1 z.1)]
    by_cases z : i = b
    · rw [if_pos z, tgz hb]; rfl
    · rw [if_neg z]; exact h.1 i k q1 q2
  · unfold upN nwN
    by_cases z : k = s
    · rw [if_pos ⟨rfl, z⟩, if_pos (by omega)]
    · rw [if_neg (fun y => z y.2), if_neg (by omega), h.2 k]
      by_cases y : k < m
      · rw [if_pos y, if_pos (by omega)]
      · rw [if_neg y]
        by_cases x : k < s + 1
        · rw [if_pos x, hg k (by omega) (by omega)]; rfl
        · rw [if_neg x]
theorem stM.e11 {N : NN} {b s : Nat} {k : Nat} (hb : 51 ≤ b) : upN (nwN N b) 50 s 11 k = N 11 k := by
  unfold upN nwN; rw [if_neg (by omega), if_neg (by omega)]
/-- a reference as it is made -/
def rfQ (K : List Nat) (N : NN) (I : MM) : List Nat → NN → MM → Prop := fun K1 N1 I1 => (∀ i, i ∈ K1 ↔ i ∈ K ∨ (51 ≤ i ∧ i ≤ 66)) ∧ NS N1 ∧ (∀ k, N1 11 k = N 11 k) ∧ (∀ a b, a < 50 ∨ 66 < a → I1 a b = I a b) ∧ (I1 50 0 = 9 ∧ I1 50 2 = 20 ∧ I1 50 3 = 10 ∧ I1 50 4 = 5 ∧ I1 50 5 = 0 ∧ I1 50 8 = 0 ∧ I1 50 10 = 0) ∧ (∀ k, k < 63 → I1 51 k = fst7 (k / 9)) ∧ (∀ k, I1 54 k = 0) ∧ (∀ k, I1 66 k = 0) ∧ ∀ k, I1 52 k = 0 ∧ I1 53 k = 0
section FR
variable {G : GT} {K : List Nat} {N : NN} {I : MM} {b c n : Nat}
theorem sp_rfInit (hN0 : ∀ j, N 50 j = (tg 50 j).isSome) (hN : ∀ i j, i ≠ 50 → i ≠ 11 → N i j = false) (hK : ∀ i, 51 ≤ i → i ≤ 66 → i ∉ K) (hI0 : ∀ k, I 50 k = 0) : SpV G mX5_init 2 44 16 668 [.ref 50] K N I (rfQ K N I) := by
  refine SpV.of (own := RX5) (cc := cX5_init) (L := [some (.ref 50)]) (by decide) rfl rfl (Nat.le_of_ble_eq_true rfl) rfl (fun Fx hnm hret => ?_)
  have hini : Fx.2.2.2.2.2.2.1.name = "<init>" := hnm
  refine x_aload_n dX5_init_0 rfl ?_
  refine x_objInit dX5_init_1 ml_RX5_1 in_obj cd_obj ⟨Nat.le_of_ble_eq_true rfl, Nat.le_of_ble_eq_true rfl⟩ ?_
  refine x_aload_n dX5_init_4 rfl ?_
  refine x_bipush dX5_init_5 (by decide) ?_
  refine x_newa (i := 51) 63 dX5_init_7 ac_int (by omega) rfl rfl (by simp [hK 51 (by decide) (by decide)]) (by decide) ⟨Nat.le_of_ble_eq_true rfl, Nat.le_of_ble_eq_true rfl⟩ ?_
  refine x_putR dX5_init_9 pf_RX5_7 hini rfl rfl (by decide) ?_
  refine x_aload_n dX5_init_12 rfl ?_
  refine x_bipush dX5_init_13 (by decide) ?_
  refine x_newa (i := 52) 8 dX5_init_15 ac_int (by omega) rfl rfl (by simp [hK 52 (by decide) (by decide)]) (by decide) ⟨Nat.le_of_ble_eq_true rfl, Nat.le_of_ble_eq_true rfl⟩ ?_
  refine x_putR dX5_init_17 pf_RX5_13 hini rfl rfl (by decide) ?_
  refine x_aload_n dX5_init_20 rfl ?_
  refine x_bipush dX5_init_21 (by decide) ?_
  refine x_newa (i := 53) 8 dX5_init_23 ac_int (by omega) rfl rfl (by simp [hK 53 (by decide) (by decide)]) (by decide) ⟨Nat.le_of_ble_eq_true rfl, Nat.le_of_ble_eq_true rfl⟩ ?_
  refine x_putR dX5_init_25 pf_RX5_16 hini rfl rfl (by decide) ?_
  refine x_aload_n dX5_init_28 rfl ?_
  refine x_bipush dX5_init_29 (by decide) ?_
  refine x_newa (i := 54) 60 dX5_init_31 ac_int (by omega) rfl rfl (by simp [hK 54 (by decide) (by decide)]) (by decide) ⟨Nat.le_of_ble_eq_true rfl, Nat.le_of_ble_eq_true rfl⟩ ?_
  refine x_putR dX5_init_33 pf_RX5_19 hini rfl rfl (by decide) ?_
  refine x_aload_n dX5_init_36 rfl ?_
  refine x_bipush dX5_init_37 (by decide) ?_
  refine x_newa (i := 55) 60 dX5_init_39 ac_int (by omega) rfl rfl (by simp [hK 55 (by decide) (by decide)]) (by decide) ⟨Nat.le_of_ble_eq_true rfl, Nat.le_of_ble_eq_true rfl⟩ ?_
  refine x_putR dX5_init_41 pf_RX5_22 hini rfl rfl (by decide) ?_
  refine x_aload_n dX5_init_44 rfl ?_
  refine x_bipush dX5_init_45 (by decide) ?_
  refine x_newa (i := 56) 60 dX5_init_47 ac_int (by omega) rfl rfl (by simp [hK 56 (by decide) (by decide)]) (by decide) ⟨Nat.le_of_ble_eq_true rfl, Nat.le_of_ble_eq_true rfl⟩ ?_
  refine x_putR dX5_init_49 pf_RX5_25 hini rfl rfl (by decide) ?_
  refine x_aload_n dX5_init_52 rfl ?_
  refine x_bipush dX5_init_53 (by decide) ?_
  refine x_newa (i := 57) 9 dX5_init_55 ac_int (by omega) rfl rfl (by simp [hK 57 (by decide) (by decide)]) (by decide) ⟨Nat.le_of_ble_eq_true rfl, Nat.le_of_ble_eq_true rfl⟩ ?_
  refine x_putR dX5_init_57 pf_RX5_28 hini rfl rfl (by decide) ?_
  refine x_aload_n dX5_init_60 rfl ?_
  refine x_bipush dX5_init_61 (by decide) ?_
  refine x_newa (i := 58) 9 dX5_init_63 ac_int (by omega) rfl rfl (by simp [hK 58 (by decide) (by decide)]) (by decide) ⟨Nat.le_of_ble_eq_true rfl, Nat.le_of_ble_eq_true rfl⟩ ?_
  refine x_putR dX5_init_65 pf_RX5_31 hini rfl rfl (by decide) ?_
  refine x_aload_n dX5_init_68 rfl ?_
  refine x_bipush dX5_init_69 (by decide) ?_
  refine x_newa (i := 59) 63 dX5_init_71 ac_int (by omega) rfl rfl (by simp [hK 59 (by decide) (by decide)]) (by decide) ⟨Nat.le_of_ble_eq_true rfl, Nat.le_of_ble_eq_true rfl⟩ ?_
  refine x_putR dX5_init_73 pf_RX5_34 hini rfl rfl (by decide) ?_
  refine x_aload_n dX5_init_76 rfl ?_
  refine x_bipush dX5_init_77 (by decide) ?_
  refine x_newa (i := 60) 9 dX5_init_79 ac_int (by omega) rfl rfl (by simp [hK 60 (by decide) (by decide)]) (by decide) ⟨Nat.le_of_ble_eq_true rfl, Nat.le_of_ble_eq_true rfl⟩ ?_
  refine x_putR dX5_init_81 pf_RX5_37 hini rfl rfl (by decide) ?_
  refine x_aload_n dX5_init_84 rfl ?_
  refine x_bipush dX5_init_85 (by decide) ?_
  refine x_newa (i := 61) 9 dX5_init_87 ac_int (by omega) rfl rfl (by simp [hK 61 (by decide) (by decide)]) (by decide) ⟨Nat.le_of_ble_eq_true rfl, Nat.le_of_ble_eq_true rfl⟩ ?_
  refine x_putR dX5_init_89 pf_RX5_40 hini rfl rfl (by decide) ?_
  refine x_aload_n dX5_init_92 rfl ?_
  refine x_bipush dX5_init_93 (by decide) ?_
  refine x_newa (i := 62) 9 dX5_init_95 ac_int (by omega) rfl rfl (by simp [hK 62 (by decide) (by decide)]) (by decide) ⟨Nat.le_of_ble_eq_true rfl, Nat.le_of_ble_eq_true rfl⟩ ?_
  refine x_putR dX5_init_97 pf_RX5_43 hini rfl rfl (by decide) ?_
  refine x_aload_n dX5_init_100 rfl ?_
  refine x_bipush dX5_init_101 (by decide) ?_
  refine x_newa (i := 63) 90 dX5_init_103 ac_int (by omega) rfl rfl (by simp [hK 63 (by decide) (by decide)]) (by decide) ⟨Nat.le_of_ble_eq_true rfl, Nat.le_of_ble_eq_true rfl⟩ ?_
  refine x_putR dX5_init_105 pf_RX5_46 hini rfl rfl (by decide) ?_
  refine x_aload_n dX5_init_108 rfl ?_
  refine x_bipush dX5_init_109 (by decide) ?_
  refine x_newa (i := 64) 9 dX5_init_111 ac_int (by omega) rfl rfl (by simp [hK 64 (by decide) (by decide)]) (by decide) ⟨Nat.le_of_ble_eq_true rfl, Nat.le_of_ble_eq_true rfl⟩ ?_
  refine x_putR dX5_init_113 pf_RX5_49 hini rfl rfl (by decide) ?_
  refine x_aload_n dX5_init_116 rfl ?_
  refine x_sipush dX5_init_117 (by decide) ?_
  refine x_newa (i := 65) 200 dX5_init_120 ac_int (by omega) rfl rfl (by simp [hK 65 (by decide) (by decide)]) (by decide) ⟨Nat.le_of_ble_eq_true rfl, Nat.le_of_ble_eq_true rfl⟩ ?_
  refine x_putR dX5_init_122 pf_RX5_52 hini rfl rfl (by decide) ?_
  refine x_aload_n dX5_init_125 rfl ?_
  refine x_iconst dX5_init_126 ?_
  refine x_newz (i := 66) 2 dX5_init_127 ac_boolean (by omega) rfl rfl (by simp [hK 66 (by decide) (by decide)]) (by decide) ⟨Nat.le_of_ble_eq_true rfl, Nat.le_of_ble_eq_true rfl⟩ ?_
  refine x_putR dX5_init_129 pf_RX5_55 hini rfl rfl (by decide) ?_
  refine x_aload_n dX5_init_132 rfl ?_
  refine x_bipush dX5_init_133 (by decide) ?_
  refine x_putI dX5_init_135 pf_RX5_59 rfl rfl ?_
  refine x_aload_n dX5_init_138 rfl ?_
  refine x_iconst dX5_init_139 ?_
  refine x_putI dX5_init_140 pf_RX5_63 rfl rfl ?_
  refine x_aload_n dX5_init_143 rfl ?_
  refine x_bipush dX5_init_144 (by decide) ?_
  refine x_putI dX5_init_146 pf_RX5_66 rfl rfl ?_
  have s0 : stM N 0 := ⟨fun i k q1 q2 => hN i k q1 q2, fun k => by rw [hN0, if_neg (by omega)]⟩
  have s1 := s0.arr (b := 51) (s := 1) (by decide) (by decide) (fun k q1 q2 => by
    rcases (by omega : k = 0) with rfl <;> rfl)
  have s2 := s1.arr (b := 52) (s := 6) (by decide) (by decide) (fun k q1 q2 => by
    rcases (by omega : k = 2 ∨ k = 3 ∨ k = 4 ∨ k = 5) with rfl | rfl | rfl | rfl <;> rfl)
  have s3 := s2.arr (b := 53) (s := 7) (by decide) (by decide) (fun k q1 q2 => by omega)
  have s4 := s3.arr (b := 54) (s := 9) (by decide) (by decide) (fun k q1 q2 => by
    rcases (by omega : k = 8) with rfl <;> rfl)
  have s5 := s4.arr (b := 55) (s := 11) (by decide) (by decide) (fun k q1 q2 => by
    rcases (by omega : k = 10) with rfl <;> rfl)
  have s6 := s5.arr (b := 56) (s := 12) (by decide) (by decide) (fun k q1 q2 => by omega)
  have s7 := s6.arr (b := 57) (s := 14) (by decide) (by decide) (fun k q1 q2 => by
    rcases (by omega : k = 13) with rfl <;> rfl)
  have s8 := s7.arr (b := 58) (s := 15) (by decide) (by decide) (fun k q1 q2 => by omega)
  have s9 := s8.arr (b := 59) (s := 17) (by decide) (by decide) (fun k q1 q2 => by
    rcases (by omega : k = 16) with rfl <;> rfl)
  have s10 := s9.arr (b := 60) (s := 22) (by decide) (by decide) (fun k q1 q2 => by
    rcases (by omega : k = 18 ∨ k = 19 ∨ k = 20 ∨ k = 21) with rfl | rfl | rfl | rfl <;> rfl)
  have s11 := s10.arr (b := 61) (s := 23) (by decide) (by decide) (fun k q1 q2 => by omega)
  have s12 := s11.arr (b := 62) (s := 24) (by decide) (by decide) (fun k q1 q2 => by omega)
  have s13 := s12.arr (b := 63) (s := 25) (by decide) (by decide) (fun k q1 q2 => by omega)
  have s14 := s13.arr (b := 64) (s := 26) (by decide) (by decide) (fun k q1 q2 => by omega)
  have s15 := s14.arr (b := 65) (s := 28) (by decide) (by decide) (fun k q1 q2 => by
    rcases (by omega : k = 27) with rfl <;> rfl)
  have s16 := s15.arr (b := 66) (s := 29) (by decide) (by decide) (fun k q1 q2 => by omega)
  obtain ⟨NZ, hNZ⟩ : ∃ NZ, NZ = (upN (nwN (upN (nwN (upN (nwN (upN (nwN (upN (nwN (upN (nwN (upN (nwN (upN (nwN (upN (nwN (upN (nwN (upN (nwN (upN (nwN (upN (nwN (upN (nwN (upN (nwN (upN (nwN N 51) 50 1) 52) 50 6) 53) 50 7) 54) 50 9) 55) 50 11) 56) 50 12) 57) 50 14) 58) 50 15) 59) 50 17) 60) 50 22) 61) 50 23) 62) 50 24) 63) 50 25) 64) 50 26) 65) 50 28) 66) 50 29) := ⟨_, rfl⟩
  rw [← hNZ] at s16
  have hNSZ : NS NZ := fun i k hi => by
    by_cases z : i = 50
    · rw [z, s16.2 k]
      by_cases y : k < 30
      · rw [if_pos y]
      · rw [if_neg y, tg_5o (by omega)]; rfl
    · exact s16.1 i k z hi
  have h11 : ∀ k, NZ 11 k = N 11 k := fun k => by
    rw [hNZ]
    rw [stM.e11 (by decide)]
    rw [stM.e11 (by decide)]
    rw [stM.e11 (by decide)]
    rw [stM.e11 (by decide)]
    rw [stM.e11 (by decide)]
    rw [stM.e11 (by decide)]
    rw [stM.e11 (by decide)]
    rw [stM.e11 (by decide)]
    rw [stM.e11 (by decide)]
    rw [stM.e11 (by decide)]
    rw [stM.e11 (by decide)]
    rw [stM.e11 (by decide)]
    rw [stM.e11 (by decide)]
    rw [stM.e11 (by decide)]
    rw [stM.e11 (by decide)]
    rw [stM.e11 (by decide)]
  rw [← hNZ]
  refine x_aload_n dX5_init_149 rfl ?_
  refine x_bipush dX5_init_150 (by decide) ?_
  refine xf_VV1 dX5_init_152 ml_RX5_69 vw_X5_begin vv_X5_begin rfl (sp_mbegin hNSZ) ⟨Nat.le_of_ble_eq_true rfl, Nat.le_of_ble_eq_true rfl, Nat.le_of_ble_eq_true rfl, Nat.le_of_ble_eq_true rfl, Nat.le_of_ble_eq_true rfl⟩ ?_
  refine hret _ _ _ _ _ dX5_init_155 ?_
  refine ⟨fun i => ?_, hNSZ, h11, fun a b q => ?_, ⟨?_, ?_, ?_, ?_, ?_, ?_, ?_⟩, fun k hk => ?_, fun k => ?_, fun k => ?_, fun k => ⟨?_, ?_⟩⟩
  · simp only [List.mem_append, List.mem_singleton]
    constructor
    · intro z
      rcases z with (((((((((((((((z | z) | z) | z) | z) | z) | z) | z) | z) | z) | z) | z) | z) | z) | z) | z) | z
      · exact Or.inl z
      all_goals (right; omega)
    · intro z
      rcases z with z | z
      · simp [z]
      · rcases (by omega : i = 51 ∨ i = 52 ∨ i = 53 ∨ i = 54 ∨ i = 55 ∨ i = 56 ∨ i = 57 ∨ i = 58 ∨ i = 59 ∨ i = 60 ∨ i = 61 ∨ i = 62 ∨ i = 63 ∨ i = 64 ∨ i = 65 ∨ i = 66) with rfl | rfl | rfl | rfl | rfl | rfl | rfl | rfl | rfl | rfl | rfl | rfl | rfl | rfl | rfl | rfl <;> simp
  · unfold bmS
    rw [if_neg (by omega), if_neg (by omega), if_neg (by omega)]
    simp only [up, nwI]
    rw [if_neg (by omega), if_neg (by omega), if_neg (by omega)]
    (repeat rw [if_neg (by omega)])
  · rfl
  · rfl
  · rfl
  · rfl
  · rfl
  · rfl
  · exact hI0 10
  · unfold bmS
    rw [if_neg (by omega), if_neg (by omega), if_pos ⟨rfl, hk⟩]
  · rfl
  · rfl
  · rfl
  · rfl
end FR

/-! ===== the reference: what is taken, told, robbed; hours, springs, heights, dry years ===== -/
theorem hrA_ok {F : FT} {l0 m : Int} {n : Nat} (hO : okD F n 1000000) (hm : 1 ≤ m ∧ m ≤ 24) : ∀ f, f ≤ n → (-6 ≤ hrA F (tok F 0 l0) f) ∧ ((0 ≤ hrA F (tok F 0 l0) f ∧ hrA F (tok F 0 l0) f ≤ m) ↔ okAll F l0 m f = true)
  | 0, _ => by simp [hrA, okAll]; omega
  | f + 1, hf => by
    obtain ⟨i1, ih⟩ := hrA_ok (l0 := l0) hO hm f (by omega)
    have ht := hO.tokb (kn := 0) (l := l0) (show f < n by omega)
    have hb := hO f (by omega)
    have hl : 0 ≤ lackF F f := by unfold lackF; omega
    show (-6 ≤ (if hrA F (tok F 0 l0) f < 0 then hrA F (tok F 0 l0) f else if 0 < lackF F f then (if tok F 0 l0 f ≤ 0 then -6 else max (hrA F (tok F 0 l0) f) ((lackF F f + tok F 0 l0 f - 1) / tok F 0 l0 f)) else hrA F (tok F 0 l0) f)) ∧ _
    rw [show okAll F l0 m (f + 1) = (okAll F l0 m f && decide (lackF F f ≤ m * tok F 0 l0 f)) from rfl, Bool.and_eq_true, ← ih, decide_eq_true_iff]
    show _ ∧ ((0 ≤ (if hrA F (tok F 0 l0) f < 0 then hrA F (tok F 0 l0) f else if 0 < lackF F f then (if tok F 0 l0 f ≤ 0 then -6 else max (hrA F (tok F 0 l0) f) ((lackF F f + tok F 0 l0 f - 1) / tok F 0 l0 f)) else hrA F (tok F 0 l0) f) ∧ (if hrA F (tok F 0 l0) f < 0 then hrA F (tok F 0 l0) f else if 0 < lackF F f then (if tok F 0 l0 f ≤ 0 then -6 else max (hrA F (tok F 0 l0) f) ((lackF F f + tok F 0 l0 f - 1) / tok F 0 l0 f)) else hrA F (tok F 0 l0) f) ≤ m) ↔ _)
    by_cases h1 : hrA F (tok F 0 l0) f < 0
    · rw [if_pos h1]; omega
    · rw [if_neg h1]
      by_cases h2 : 0 < lackF F f
      · rw [if_pos h2]
        by_cases h3 : tok F 0 l0 f ≤ 0
        · have h4 : tok F 0 l0 f = 0 := by omega
          rw [if_pos h3, h4, Int.mul_zero]; omega
        · rw [if_neg h3]
          have h4 : (lackF F f + tok F 0 l0 f - 1) / tok F 0 l0 f ≤ m ↔ lackF F f ≤ m * tok F 0 l0 f := by
            rw [← Int.lt_add_one_iff, Int.ediv_lt_iff_lt_mul (by omega), Int.add_mul]
            omega
          have h5 : 0 ≤ (lackF F f + tok F 0 l0 f - 1) / tok F 0 l0 f := Int.ediv_nonneg (by omega) (by omega)
          rw [← h4]; omega
      · rw [if_neg h2]
        have h3 : 0 ≤ m * tok F 0 l0 f := Int.mul_nonneg (by omega) ht.1
        omega
theorem or_zero : ∀ x : Nat, x < 1024 → Int32.ofInt (x : Int) ||| Int32.ofInt 0 = Int32.ofInt ((x : Nat) : Int) := by decide +kernel
theorem pow_le9 {f : Nat} (h : f < 10) : 2 ^ f ≤ 512 := Nat.le_trans (Nat.pow_le_pow_right (by decide) (show f ≤ 9 by omega)) (by decide)
section FR
variable {G : GT} {K : List Nat} {N : NN} {I : MM} {n : Nat}
theorem sp_mtakes (hN : NS N) (hB : RM I n) {f k : Int} (hf : inr f) (hk : inr k) : SpI G mX5_takes .int 3 69 0 0 [.ref 50, vi f, vi k] K N I (pI K N (fun z J => z = (if ¬ (0 ≤ f ∧ f < n) then -1 else if ¬ (0 ≤ k ∧ k ≤ 1) then -2 else if k = 0 then tok (fm I) 0 (l0M I 0) f.toNat else sto (fm I) 0 (l0M I 0) f.toNat) ∧ kpM I J)) := by
  refine SpI.of (own := RX5) (cc := cX5_takes) (L := [some (.ref 50), some (vi f), some (vi k)]) (by decide) rfl rfl (Nat.le_of_ble_eq_true rfl) rfl (fun Fx hnm hret => ?_)
  have hn9 := hB.2.2.1
  refine x_aload_n dX5_takes_0 rfl ?_
  refine x_iload_n dX5_takes_1 rfl ?_
  refine xf_VI1 dX5_takes_2 ml_RX5_92 vw_X5_isFarm vv_X5_isFarm rfl (sp_isFarm hB.1 hn9 hf) ⟨Nat.le_of_ble_eq_true rfl, Nat.le_of_ble_eq_true rfl, Nat.le_of_ble_eq_true rfl, Nat.le_of_ble_eq_true rfl, Nat.le_of_ble_eq_true rfl⟩ ?_
  refine x_if_ne 10 dX5_takes_5 (by decide) (by unfold inr; split <;> omega) (fun h_5 => ?_) (fun h_5 => ?_)
  · replace h_5 := b1 h_5
    refine x_iload_n dX5_takes_10 rfl ?_
    refine x_i2l dX5_takes_11 hk ?_
    refine x_lconst0 dX5_takes_12 ?_
    refine x_lconst1 dX5_takes_13 ?_
    refine xf_SI3 dX5_takes_14 ml_RX5_86 vw_X5_in st_X5_in (sp_in (by unfold inl; unfold inr at hk; omega) (by unfold inl; omega) (by unfold inl; omega)) ⟨Nat.le_of_ble_eq_true rfl, Nat.le_of_ble_eq_true rfl, Nat.le_of_ble_eq_true rfl, Nat.le_of_ble_eq_true rfl, Nat.le_of_ble_eq_true rfl⟩ ?_
    refine x_if_ne 23 dX5_takes_17 (by decide) (by unfold inr; split <;> omega) (fun h_17 => ?_) (fun h_17 => ?_)
    · replace h_17 := b1 h_17
      refine x_aload_n dX5_takes_23 rfl ?_
      refine x_iconst dX5_takes_24 ?_
      refine xf_VV1 dX5_takes_25 ml_RX5_131 vw_X5_flow vv_X5_flow rfl (sp_mflow hN hB (by unfold inr; omega)) ⟨Nat.le_of_ble_eq_true rfl, Nat.le_of_ble_eq_true rfl, Nat.le_of_ble_eq_true rfl, Nat.le_of_ble_eq_true rfl, Nat.le_of_ble_eq_true rfl⟩ ?_
      refine x_iload_n dX5_takes_28 rfl ?_
      refine x_if_ne 41 dX5_takes_29 (by decide) hk (fun h_29 => ?_) (fun h_29 => ?_)
      · refine x_aload_n dX5_takes_41 rfl ?_
        refine x_getR (j := 58) dX5_takes_42 gf_RX5_31 rfl rfl (hN _ _ (by decide)) ?_
        refine x_iload_n dX5_takes_45 rfl ?_
        refine x_iald (f.toNat) dX5_takes_46 rfl (by omega) (show _ < 9 by omega) ?_
        rw [fmJ_s (by omega)]
        refine hret _ _ _ _ _ _ dX5_takes_47 rfl ?_
        refine ⟨rfl, rfl, ?_, ?_⟩
        · (repeat (first | rw [if_pos (by omega)] | rw [if_neg (by omega)]))
        · first | exact kpM.rf | exact kpM.rf.fl
      · refine x_aload_n dX5_takes_32 rfl ?_
        refine x_getR (j := 57) dX5_takes_33 gf_RX5_28 rfl rfl (hN _ _ (by decide)) ?_
        refine x_iload_n dX5_takes_36 rfl ?_
        refine x_iald (f.toNat) dX5_takes_37 rfl (by omega) (show _ < 9 by omega) ?_
        rw [fmJ_t (by omega)]
        refine x_goto 47 dX5_takes_38 (by decide) ?_
        refine hret _ _ _ _ _ _ dX5_takes_47 rfl ?_
        refine ⟨rfl, rfl, ?_, ?_⟩
        · (repeat (first | rw [if_pos (by omega)] | rw [if_neg (by omega)]))
        · first | exact kpM.rf | exact kpM.rf.fl
    · replace h_17 := b0 h_17
      refine x_bipush dX5_takes_20 (by decide) ?_
      refine hret _ _ _ _ _ _ dX5_takes_22 rfl ?_
      refine ⟨rfl, rfl, ?_, ?_⟩
      · (repeat (first | rw [if_pos (by omega)] | rw [if_neg (by omega)]))
      · first | exact kpM.rf | exact kpM.rf.fl
  · replace h_5 := b0 h_5
    refine x_iconst dX5_takes_8 ?_
    refine hret _ _ _ _ _ _ dX5_takes_9 rfl ?_
    refine ⟨rfl, rfl, ?_, ?_⟩
    · (repeat (first | rw [if_pos (by omega)] | rw [if_neg (by omega)]))
    · first | exact kpM.rf | exact kpM.rf.fl
theorem sp_mtold (hN : NS N) (hB : RM I n) {len : Nat} (hl : I 50 10 = (len : Int)) {k : Int} (hk : inr k) : SpI G mX5_told .int 2 46 0 0 [.ref 50, vi k] K N I (qI K N I (toA (fm I) n len (I 50 2) (I 50 3) (I 50 4) (I 50 5) (I 50 8) k)) := by
  refine SpI.of (own := RX5) (cc := cX5_told) (L := [some (.ref 50), some (vi k), none]) (by decide) rfl rfl (Nat.le_of_ble_eq_true rfl) rfl (fun Fx hnm hret => ?_)
  have hn9 := hB.2.2.1
  refine x_iload_n dX5_told_0 rfl ?_
  refine x_i2l dX5_told_1 hk ?_
  refine x_ldc2 dX5_told_2 ct_RX5_227 ?_
  refine x_ldc2 dX5_told_5 ct_RX5_104 ?_
  refine xf_SI3 dX5_told_8 ml_RX5_86 vw_X5_in st_X5_in (sp_in (by unfold inl; unfold inr at hk; omega) (by unfold inl; omega) (by unfold inl; omega)) ⟨Nat.le_of_ble_eq_true rfl, Nat.le_of_ble_eq_true rfl, Nat.le_of_ble_eq_true rfl, Nat.le_of_ble_eq_true rfl, Nat.le_of_ble_eq_true rfl⟩ ?_
  refine x_if_eq 57 dX5_told_11 (by decide) (by unfold inr; split <;> omega) (fun h_11 => ?_) (fun h_11 => ?_)
  · replace h_11 := b0 h_11
    refine x_iload_n dX5_told_57 rfl ?_
    rcases (show (k < 0 ∨ 6 < k) ∨ k = 0 ∨ k = 1 ∨ k = 2 ∨ k = 3 ∨ k = 4 ∨ k = 5 ∨ k = 6 by omega) with h_58 | h_58 | h_58 | h_58 | h_58 | h_58 | h_58 | h_58
    · refine x_tabOut 135 dX5_told_58 hk h_58 (by decide) ?_
      refine x_bipush dX5_told_135 (by decide) ?_
      refine hret _ _ _ _ _ _ dX5_told_137 rfl ?_
      refine ⟨rfl, rfl, rfl, ?_⟩
      unfold toA
      (repeat (first | rw [if_pos (by omega)] | rw [if_neg (by omega)])) <;> first | rfl | omega
    · refine x_tabIn 100 dX5_told_58 hk (by omega) (by rw [h_58]; rfl) (by decide) ?_
      refine x_aload_n dX5_told_100 rfl ?_
      refine x_getI dX5_told_101 gf_RX5_112 rfl rfl ?_
      rw [hl]
      refine hret _ _ _ _ _ _ dX5_told_104 rfl ?_
      refine ⟨rfl, rfl, rfl, ?_⟩
      unfold toA
      (repeat (first | rw [if_pos (by omega)] | rw [if_neg (by omega)])) <;> first | rfl | omega
    · refine x_tabIn 105 dX5_told_58 hk (by omega) (by rw [h_58]; rfl) (by decide) ?_
      refine x_aload_n dX5_told_105 rfl ?_
      refine x_getI dX5_told_106 gf_RX5_73 rfl rfl ?_
      rw [hB.1]
      refine hret _ _ _ _ _ _ dX5_told_109 rfl ?_
      refine ⟨rfl, rfl, rfl, ?_⟩
      unfold toA
      (repeat (first | rw [if_pos (by omega)] | rw [if_neg (by omega)])) <;> first | rfl | omega
    · refine x_tabIn 110 dX5_told_58 hk (by omega) (by rw [h_58]; rfl) (by decide) ?_
      refine x_aload_n dX5_told_110 rfl ?_
      refine x_getI dX5_told_111 gf_RX5_66 rfl rfl ?_
      refine hret _ _ _ _ _ _ dX5_told_114 rfl ?_
      refine ⟨rfl, rfl, rfl, ?_⟩
      unfold toA
      (repeat (first | rw [if_pos (by omega)] | rw [if_neg (by omega)])) <;> first | rfl | omega
    · refine x_tabIn 115 dX5_told_58 hk (by omega) (by rw [h_58]; rfl) (by decide) ?_
      refine x_aload_n dX5_told_115 rfl ?_
      refine x_getI dX5_told_116 gf_RX5_59 rfl rfl ?_
      refine hret _ _ _ _ _ _ dX5_told_119 rfl ?_
      refine ⟨rfl, rfl, rfl, ?_⟩
      unfold toA
      (repeat (first | rw [if_pos (by omega)] | rw [if_neg (by omega)])) <;> first | rfl | omega
    · refine x_tabIn 120 dX5_told_58 hk (by omega) (by rw [h_58]; rfl) (by decide) ?_
      refine x_aload_n dX5_told_120 rfl ?_
      refine x_getI dX5_told_121 gf_RX5_63 rfl rfl ?_
      refine hret _ _ _ _ _ _ dX5_told_124 rfl ?_
      refine ⟨rfl, rfl, rfl, ?_⟩
      unfold toA
      (repeat (first | rw [if_pos (by omega)] | rw [if_neg (by omega)])) <;> first | rfl | omega
    · refine x_tabIn 125 dX5_told_58 hk (by omega) (by rw [h_58]; rfl) (by decide) ?_
      refine x_aload_n dX5_told_125 rfl ?_
      refine x_getI dX5_told_126 gf_RX5_76 rfl rfl ?_
      refine hret _ _ _ _ _ _ dX5_told_129 rfl ?_
      refine ⟨rfl, rfl, rfl, ?_⟩
      unfold toA
      (repeat (first | rw [if_pos (by omega)] | rw [if_neg (by omega)])) <;> first | rfl | omega
    · refine x_tabIn 130 dX5_told_58 hk (by omega) (by rw [h_58]; rfl) (by decide) ?_
      refine x_aload_n dX5_told_130 rfl ?_
      refine x_getI dX5_told_131 gf_RX5_79 rfl rfl ?_
      refine hret _ _ _ _ _ _ dX5_told_134 rfl ?_
      refine ⟨rfl, rfl, rfl, ?_⟩
      unfold toA
      (repeat (first | rw [if_pos (by omega)] | rw [if_neg (by omega)])) <;> first | rfl | omega
  · replace h_11 := b1 h_11
    refine x_iload_n dX5_told_14 rfl ?_
    refine x_bipush dX5_told_15 (by decide) ?_
    refine x_idiv dX5_told_17 (by unfold inr at *; omega) (by unfold inr; omega) ?_
    refine x_iconst dX5_told_18 ?_
    refine x_isub dX5_told_19 ?_
    refine x_ist2 dX5_told_20 ?_
    refine x_aload_n dX5_told_21 rfl ?_
    refine x_iload_n dX5_told_22 rfl ?_
    refine xf_VI1 dX5_told_23 ml_RX5_92 vw_X5_isFarm vv_X5_isFarm rfl (sp_isFarm hB.1 hn9 (by unfold inr; omega)) ⟨Nat.le_of_ble_eq_true rfl, Nat.le_of_ble_eq_true rfl, Nat.le_of_ble_eq_true rfl, Nat.le_of_ble_eq_true rfl, Nat.le_of_ble_eq_true rfl⟩ ?_
    refine x_if_eq 54 dX5_told_26 (by decide) (by unfold inr; split <;> omega) (fun h_26 => ?_) (fun h_26 => ?_)
    · replace h_26 := b0 h_26
      refine x_bipush dX5_told_54 (by decide) ?_
      refine hret _ _ _ _ _ _ dX5_told_56 rfl ?_
      refine ⟨rfl, rfl, rfl, ?_⟩
      unfold toA
      (repeat (first | rw [if_pos (by omega)] | rw [if_neg (by omega)])) <;> first | rfl | omega
    · replace h_26 := b1 h_26
      refine x_iload_n dX5_told_29 rfl ?_
      refine x_bipush dX5_told_30 (by decide) ?_
      refine x_irem dX5_told_32 (by unfold inr at *; omega) (by unfold inr; omega) ?_
      refine x_bipush dX5_told_33 (by decide) ?_
      refine x_icmp_ge 54 dX5_told_35 (by decide) (by unfold inr; omega) (by unfold inr; omega) (fun h_35 => ?_) (fun h_35 => ?_)
      · refine x_bipush dX5_told_54 (by decide) ?_
        refine hret _ _ _ _ _ _ dX5_told_56 rfl ?_
        refine ⟨rfl, rfl, rfl, ?_⟩
        unfold toA
        (repeat (first | rw [if_pos (by omega)] | rw [if_neg (by omega)])) <;> first | rfl | omega
      · refine x_aload_n dX5_told_38 rfl ?_
        refine x_getR (j := 51) dX5_told_39 gf_RX5_7 rfl rfl (hN _ _ (by decide)) ?_
        refine x_iload_n dX5_told_42 rfl ?_
        refine x_bipush dX5_told_43 (by decide) ?_
        refine x_irem dX5_told_45 (by unfold inr; omega) (by unfold inr; omega) ?_
        refine x_iload_n dX5_told_46 rfl ?_
        refine xf_SI2 dX5_told_47 ml_RX5_82 vw_X5_at st_X5_at (sp_at) ⟨Nat.le_of_ble_eq_true rfl, Nat.le_of_ble_eq_true rfl, Nat.le_of_ble_eq_true rfl, Nat.le_of_ble_eq_true rfl, Nat.le_of_ble_eq_true rfl⟩ ?_
        refine x_iald (9 * (k % 10).toNat + (k / 10 - 1).toNat) dX5_told_50 rfl (by omega) (show _ < 63 by omega) ?_
        rw [show I 51 (9 * (k % 10).toNat + (k / 10 - 1).toNat) = fm I (k / 10 - 1).toNat (k % 10).toNat from (fm_at (by omega)).symm]
        refine x_goto 56 dX5_told_51 (by decide) ?_
        refine hret _ _ _ _ _ _ dX5_told_56 rfl ?_
        refine ⟨rfl, rfl, rfl, ?_⟩
        unfold toA
        (repeat (first | rw [if_pos (by omega)] | rw [if_neg (by omega)])) <;> first | rfl | omega
theorem sp_mtakesIf (hN : NS N) (hB : RM I n) {f k : Int} (hf : inr f) (hk : inr k) : SpI G mX5_takesIf .int 3 69 0 0 [.ref 50, vi f, vi k] K N I (pI K N (fun z J => z = (if (0 ≤ f ∧ f < n) ∧ (0 ≤ k ∧ k < n) then tok (setF (fm I) k.toNat 4 (1 - fm I k.toNat 4)) 0 (l0M I 0) f.toNat else -1) ∧ kpM I J)) := by
  refine SpI.of (own := RX5) (cc := cX5_takesIf) (L := [some (.ref 50), some (vi f), some (vi k)]) (by decide) rfl rfl (Nat.le_of_ble_eq_true rfl) rfl (fun Fx hnm hret => ?_)
  have hn9 := hB.2.2.1
  refine x_aload_n dX5_takesIf_0 rfl ?_
  refine x_iload_n dX5_takesIf_1 rfl ?_
  refine xf_VI1 dX5_takesIf_2 ml_RX5_92 vw_X5_isFarm vv_X5_isFarm rfl (sp_isFarm hB.1 hn9 hf) ⟨Nat.le_of_ble_eq_true rfl, Nat.le_of_ble_eq_true rfl, Nat.le_of_ble_eq_true rfl, Nat.le_of_ble_eq_true rfl, Nat.le_of_ble_eq_true rfl⟩ ?_
  refine x_if_eq 16 dX5_takesIf_5 (by decide) (by unfold inr; split <;> omega) (fun h_5 => ?_) (fun h_5 => ?_)
  · replace h_5 := b0 h_5
    refine x_iconst dX5_takesIf_16 ?_
    refine hret _ _ _ _ _ _ dX5_takesIf_17 rfl ?_
    refine ⟨rfl, rfl, ?_, ?_⟩
    · (repeat (first | rw [if_pos (by omega)] | rw [if_neg (by omega)])) <;> rfl
    · first
      | exact kpM.rf
      | exact hX.fl.back (fm_at (by omega))
  · replace h_5 := b1 h_5
    refine x_aload_n dX5_takesIf_8 rfl ?_
    refine x_iload_n dX5_takesIf_9 rfl ?_
    refine xf_VI1 dX5_takesIf_10 ml_RX5_92 vw_X5_isFarm vv_X5_isFarm rfl (sp_isFarm hB.1 hn9 hk) ⟨Nat.le_of_ble_eq_true rfl, Nat.le_of_ble_eq_true rfl, Nat.le_of_ble_eq_true rfl, Nat.le_of_ble_eq_true rfl, Nat.le_of_ble_eq_true rfl⟩ ?_
    refine x_if_ne 18 dX5_takesIf_13 (by decide) (by unfold inr; split <;> omega) (fun h_13 => ?_) (fun h_13 => ?_)
    · replace h_13 := b1 h_13
      obtain ⟨j, rfl⟩ := toN (show 0 ≤ k by omega)
      have bj := hB.2.2.2.1 j (by omega)
      refine x_aload_n dX5_takesIf_18 rfl ?_
      refine x_getR (j := 51) dX5_takesIf_19 gf_RX5_7 rfl rfl (hN _ _ (by decide)) ?_
      refine x_iconst dX5_takesIf_22 ?_
      refine x_iload_n dX5_takesIf_23 rfl ?_
      refine xf_SI2 dX5_takesIf_24 ml_RX5_82 vw_X5_at st_X5_at (sp_at) ⟨Nat.le_of_ble_eq_true rfl, Nat.le_of_ble_eq_true rfl, Nat.le_of_ble_eq_true rfl, Nat.le_of_ble_eq_true rfl, Nat.le_of_ble_eq_true rfl⟩ ?_
      refine x_dup2 dX5_takesIf_27 ?_
      refine x_iald (9 * 4 + j) dX5_takesIf_28 rfl (by omega) (show _ < 63 by omega) ?_
      rw [show I 51 (9 * 4 + j) = fm I j 4 from (fm_at (by omega)).symm]
      refine x_iconst dX5_takesIf_29 ?_
      refine x_ixor (1 - fm I j 4) dX5_takesIf_30 (xor1 (by omega)) ?_
      refine x_iast (9 * 4 + j) dX5_takesIf_31 rfl (by omega) (show _ < 63 by omega) ?_
      have hX : kpX 51 (9 * 4 + j) I (up I 51 (9 * 4 + j) (1 - fm I j 4)) := (kpM.rf.X).hole
      have hB2 := hX.RM hB (by omega) up_s (by unfold okF; omega)
      have hF2 := hX.fm (by omega) up_s
      refine x_aload_n dX5_takesIf_32 rfl ?_
      refine x_iconst dX5_takesIf_33 ?_
      refine xf_VV1 dX5_takesIf_34 ml_RX5_131 vw_X5_flow vv_X5_flow rfl (sp_mflow hN hB2 (by unfold inr; omega)) ⟨Nat.le_of_ble_eq_true rfl, Nat.le_of_ble_eq_true rfl, Nat.le_of_ble_eq_true rfl, Nat.le_of_ble_eq_true rfl, Nat.le_of_ble_eq_true rfl⟩ ?_
      refine x_aload_n dX5_takesIf_37 rfl ?_
      refine x_getR (j := 51) dX5_takesIf_38 gf_RX5_7 rfl rfl (hN _ _ (by decide)) ?_
      refine x_iconst dX5_takesIf_41 ?_
      refine x_iload_n dX5_takesIf_42 rfl ?_
      refine xf_SI2 dX5_takesIf_43 ml_RX5_82 vw_X5_at st_X5_at (sp_at) ⟨Nat.le_of_ble_eq_true rfl, Nat.le_of_ble_eq_true rfl, Nat.le_of_ble_eq_true rfl, Nat.le_of_ble_eq_true rfl, Nat.le_of_ble_eq_true rfl⟩ ?_
      refine x_dup2 dX5_takesIf_46 ?_
      refine x_iald (9 * 4 + j) dX5_takesIf_47 rfl (by omega) (show _ < 63 by omega) ?_
      rw [fmJ_o (by omega) (by omega), up_s]
      refine x_iconst dX5_takesIf_48 ?_
      refine x_ixor (fm I j 4) dX5_takesIf_49 (by rw [xor1 (by omega)]; congr 1; omega) ?_
      refine x_iast (9 * 4 + j) dX5_takesIf_50 rfl (by omega) (show _ < 63 by omega) ?_
      refine x_aload_n dX5_takesIf_51 rfl ?_
      refine x_getR (j := 57) dX5_takesIf_52 gf_RX5_28 rfl rfl (hN _ _ (by decide)) ?_
      refine x_iload_n dX5_takesIf_55 rfl ?_
      refine x_iald (f.toNat) dX5_takesIf_56 rfl (by omega) (show _ < 9 by omega) ?_
      rw [up_n1 (by omega), fmJ_t (by omega), hF2, hX.l0]
      refine hret _ _ _ _ _ _ dX5_takesIf_57 rfl ?_
      refine ⟨rfl, rfl, ?_, ?_⟩
      · (repeat (first | rw [if_pos (by omega)] | rw [if_neg (by omega)])) <;> rfl
      · first
        | exact kpM.rf
        | exact hX.fl.back (fm_at (by omega))
    · replace h_13 := b0 h_13
      refine x_iconst dX5_takesIf_16 ?_
      refine hret _ _ _ _ _ _ dX5_takesIf_17 rfl ?_
      refine ⟨rfl, rfl, ?_, ?_⟩
      · (repeat (first | rw [if_pos (by omega)] | rw [if_neg (by omega)])) <;> rfl
      · first
        | exact kpM.rf
        | exact hX.fl.back (fm_at (by omega))
theorem sp_mlayNow (hN : NS N) (hB : RM I n) : SpV G mX5_layNow 3 69 0 0 [.ref 50] K N I (pV K N (fun J => kpM I J ∧ ∀ g, g < n → J 61 g = tok (fm I) 0 (l0M I 0) g)) := by
  refine SpV.of (own := RX5) (cc := cX5_layNow) (L := [some (.ref 50), none]) (by decide) rfl rfl (Nat.le_of_ble_eq_true rfl) rfl (fun Fx hnm hret => ?_)
  have hn9 := hB.2.2.1
  have lp : ∀ (m : Nat) (f : Nat) (z : Int) (J : MM), f ≤ n → n < f + m → z = (f : Int) → kpM I J → (∀ g, g < n → J 57 g = tok (fm I) 0 (l0M I 0) g) → (∀ g, g < f → J 61 g = tok (fm I) 0 (l0M I 0) g) → XX G RX5 cX5_layNow (RmW 3 69 0 0) Fx 7 [some (.ref 50), some (vi z)] [] K N J 0 0 := by
    intro m
    induction m with
    | zero => intros; exfalso; omega
    | succ m ih =>
      intro f z J h0 h1 h2 h3 h4 h5
      have hJ0 : J 50 0 = (n : Int) := (h3 50 0 (by unfold pcm; omega)).trans hB.1
      refine x_iload_n dX5_layNow_7 rfl ?_
      refine x_aload_n dX5_layNow_8 rfl ?_
      refine x_getI dX5_layNow_9 gf_RX5_73 rfl rfl ?_
      rw [hJ0]
      refine x_icmp_ge 33 dX5_layNow_12 (by decide) (by unfold inr; omega) (by unfold inr; omega) (fun h_12 => ?_) (fun h_12 => ?_)
      · refine hret _ _ _ _ _ dX5_layNow_33 ?_
        obtain rfl : f = n := by omega
        exact ⟨rfl, rfl, h3, h5⟩
      · refine x_aload_n dX5_layNow_15 rfl ?_
        refine x_getR (j := 61) dX5_layNow_16 gf_RX5_40 rfl rfl (hN _ _ (by decide)) ?_
        refine x_iload_n dX5_layNow_19 rfl ?_
        refine x_aload_n dX5_layNow_20 rfl ?_
        refine x_getR (j := 57) dX5_layNow_21 gf_RX5_28 rfl rfl (hN _ _ (by decide)) ?_
        refine x_iload_n dX5_layNow_24 rfl ?_
        refine x_iald (f) dX5_layNow_25 rfl (by omega) (show _ < 9 by omega) ?_
        rw [h4 f (by omega)]
        refine x_iast (f) dX5_layNow_26 rfl (by omega) (show _ < 9 by omega) ?_
        refine x_inc1 dX5_layNow_27 ?_
        refine x_goto 7 dX5_layNow_30 (by decide) ?_
        refine ih (f + 1) _ _ (by omega) (by omega) (by omega) (h3.upc (by omega)) (fun g hg => by rw [up_n1 (by omega)]; exact h4 g hg) (fun g hg => ?_)
        by_cases e : g = f
        · rw [e, up_s]
        · rw [up_n2 e]; exact h5 g (by omega)
  refine x_aload_n dX5_layNow_0 rfl ?_
  refine x_iconst dX5_layNow_1 ?_
  refine xf_VV1 dX5_layNow_2 ml_RX5_131 vw_X5_flow vv_X5_flow rfl (sp_mflow hN hB (by unfold inr; omega)) ⟨Nat.le_of_ble_eq_true rfl, Nat.le_of_ble_eq_true rfl, Nat.le_of_ble_eq_true rfl, Nat.le_of_ble_eq_true rfl, Nat.le_of_ble_eq_true rfl⟩ ?_
  refine x_iconst dX5_layNow_5 ?_
  refine x_ist1 dX5_layNow_6 ?_
  exact lp (n + 1) 0 _ _ (by omega) (by omega) rfl kpM.rf.fl (fun g hg => fmJ_t hg) (fun g hg => absurd hg (Nat.not_lt_zero g))
theorem sp_mrobbed (hN : NS N) (hB : RM I n) {f : Int} (hf : inr f) : SpI G mX5_robbed .int 4 90 0 0 [.ref 50, vi f] K N I (pI K N (fun z J => z = (if 0 ≤ f ∧ f < n then (orB (tok (fm I) 0 (l0M I 0)) (tok (setF (fm I) f.toNat 4 1) 0 (l0M I 0)) n : Int) else -1) ∧ kpM I J)) := by
  refine SpI.of (own := RX5) (cc := cX5_robbed) (L := [some (.ref 50), some (vi f), none, none, none]) (by decide) rfl rfl (Nat.le_of_ble_eq_true rfl) rfl (fun Fx hnm hret => ?_)
  have hn9 := hB.2.2.1
  refine x_aload_n dX5_robbed_0 rfl ?_
  refine x_iload_n dX5_robbed_1 rfl ?_
  refine xf_VI1 dX5_robbed_2 ml_RX5_92 vw_X5_isFarm vv_X5_isFarm rfl (sp_isFarm hB.1 hn9 hf) ⟨Nat.le_of_ble_eq_true rfl, Nat.le_of_ble_eq_true rfl, Nat.le_of_ble_eq_true rfl, Nat.le_of_ble_eq_true rfl, Nat.le_of_ble_eq_true rfl⟩ ?_
  refine x_if_ne 10 dX5_robbed_5 (by decide) (by unfold inr; split <;> omega) (fun h_5 => ?_) (fun h_5 => ?_)
  · replace h_5 := b1 h_5
    obtain ⟨i, rfl⟩ := toN (show 0 ≤ f by omega)
    refine x_aload_n dX5_robbed_10 rfl ?_
    refine xp_VV0 dX5_robbed_11 ml_RX5_173 vw_X5_layNow vv_X5_layNow rfl (sp_mlayNow hN hB) ⟨Nat.le_of_ble_eq_true rfl, Nat.le_of_ble_eq_true rfl, Nat.le_of_ble_eq_true rfl, Nat.le_of_ble_eq_true rfl, Nat.le_of_ble_eq_true rfl⟩ (fun I1 hq => ?_)
    obtain ⟨hk1, hnw⟩ := hq
    have hB1 := hk1.RM hB
    refine x_aload_n dX5_robbed_14 rfl ?_
    refine x_getR (j := 51) dX5_robbed_15 gf_RX5_7 rfl rfl (hN _ _ (by decide)) ?_
    refine x_iconst dX5_robbed_18 ?_
    refine x_iload_n dX5_robbed_19 rfl ?_
    refine xf_SI2 dX5_robbed_20 ml_RX5_82 vw_X5_at st_X5_at (sp_at) ⟨Nat.le_of_ble_eq_true rfl, Nat.le_of_ble_eq_true rfl, Nat.le_of_ble_eq_true rfl, Nat.le_of_ble_eq_true rfl, Nat.le_of_ble_eq_true rfl⟩ ?_
    refine x_iald (9 * 4 + i) dX5_robbed_23 rfl (by omega) (show _ < 63 by omega) ?_
    rw [hk1 51 (9 * 4 + i) (by unfold pcm; omega)]
    refine x_ist2 dX5_robbed_24 ?_
    refine x_aload_n dX5_robbed_25 rfl ?_
    refine x_getR (j := 51) dX5_robbed_26 gf_RX5_7 rfl rfl (hN _ _ (by decide)) ?_
    refine x_iconst dX5_robbed_29 ?_
    refine x_iload_n dX5_robbed_30 rfl ?_
    refine xf_SI2 dX5_robbed_31 ml_RX5_82 vw_X5_at st_X5_at (sp_at) ⟨Nat.le_of_ble_eq_true rfl, Nat.le_of_ble_eq_true rfl, Nat.le_of_ble_eq_true rfl, Nat.le_of_ble_eq_true rfl, Nat.le_of_ble_eq_true rfl⟩ ?_
    refine x_iconst dX5_robbed_34 ?_
    refine x_iast (9 * 4 + i) dX5_robbed_35 rfl (by omega) (show _ < 63 by omega) ?_
    have hX : kpX 51 (9 * 4 + i) I (up I1 51 (9 * 4 + i) 1) := hk1.X.hole
    have hB2 := hX.RM hB (by omega) up_s (by unfold okF; omega)
    have hF2 := hX.fm (by omega) up_s
    refine x_aload_n dX5_robbed_36 rfl ?_
    refine x_iconst dX5_robbed_37 ?_
    refine xf_VV1 dX5_robbed_38 ml_RX5_131 vw_X5_flow vv_X5_flow rfl (sp_mflow hN hB2 (by unfold inr; omega)) ⟨Nat.le_of_ble_eq_true rfl, Nat.le_of_ble_eq_true rfl, Nat.le_of_ble_eq_true rfl, Nat.le_of_ble_eq_true rfl, Nat.le_of_ble_eq_true rfl⟩ ?_
    refine x_aload_n dX5_robbed_41 rfl ?_
    refine x_getR (j := 51) dX5_robbed_42 gf_RX5_7 rfl rfl (hN _ _ (by decide)) ?_
    refine x_iconst dX5_robbed_45 ?_
    refine x_iload_n dX5_robbed_46 rfl ?_
    refine xf_SI2 dX5_robbed_47 ml_RX5_82 vw_X5_at st_X5_at (sp_at) ⟨Nat.le_of_ble_eq_true rfl, Nat.le_of_ble_eq_true rfl, Nat.le_of_ble_eq_true rfl, Nat.le_of_ble_eq_true rfl, Nat.le_of_ble_eq_true rfl⟩ ?_
    refine x_iload_n dX5_robbed_50 rfl ?_
    refine x_iast (9 * 4 + i) dX5_robbed_51 rfl (by omega) (show _ < 63 by omega) ?_
    refine x_iconst dX5_robbed_52 ?_
    refine x_ist3 dX5_robbed_53 ?_
    refine x_iconst dX5_robbed_54 ?_
    refine x_ist4 dX5_robbed_55 ?_
    have hk := (hX.fl (n := n) (kn := 0)).back rfl
    generalize hJ : up (fmJ (up I1 51 (9 * 4 + i) 1) 0 n) 51 (9 * 4 + i) (I 51 (9 * 4 + i)) = J
    rw [hJ] at hk
    have hJ0 : J 50 0 = (n : Int) := (hk 50 0 (by unfold pcm; omega)).trans hB.1
    have hA : ∀ g, g < n → J 61 g = tok (fm I) 0 (l0M I 0) g := fun g hg => by
      rw [← hJ, up_n1 (by omega), fmJ_o (by omega) (by omega), up_n1 (by omega)]; exact hnw g hg
    have hT : ∀ g, g < n → J 57 g = tok (setF (fm I) i 4 1) 0 (l0M I 0) g := fun g hg => by
      rw [← hJ, up_n1 (by omega), fmJ_t hg, hF2, hX.l0]
    have bA : ∀ g, g < n → inr (J 61 g) := fun g hg => by rw [hA g hg]; have := hB.tokb (kn := 0) hg; unfold inr; omega
    have bT : ∀ g, g < n → inr (J 57 g) := fun g hg => by
      have h := hB2.tokb (kn := 0) hg
      rw [hF2, hX.l0] at h
      rw [hT g hg]; unfold inr; omega
    have lp : ∀ (m : Nat) (g : Nat) (z : Int), g ≤ n → n < g + m → z = (g : Int) → XX G RX5 cX5_robbed (RmW 4 90 0 0) Fx 57 [some (.ref 50), some (vi i), some (vi (I 51 (9 * 4 + i))), some (vi (orB (tok (fm I) 0 (l0M I 0)) (tok (setF (fm I) i 4 1) 0 (l0M I 0)) g : Nat)), some (vi z)] [] K N J 0 0 := by
      intro m
      induction m with
      | zero => intros; exfalso; omega
      | succ m ih =>
        intro g z h0 h1 h2
        have hx := orB_lt (A := tok (fm I) 0 (l0M I 0)) (B := tok (setF (fm I) i 4 1) 0 (l0M I 0)) g
        refine x_iload dX5_robbed_57 rfl ?_
        refine x_aload_n dX5_robbed_59 rfl ?_
        refine x_getI dX5_robbed_60 gf_RX5_73 rfl rfl ?_
        rw [hJ0]
        refine x_icmp_ge 100 dX5_robbed_63 (by decide) (by unfold inr; omega) (by unfold inr; omega) (fun h_63 => ?_) (fun h_63 => ?_)
        · refine x_iload_n dX5_robbed_100 rfl ?_
          refine hret _ _ _ _ _ _ dX5_robbed_101 rfl ?_
          obtain rfl : g = n := by omega
          refine ⟨rfl, rfl, ?_, hk⟩
          rw [if_pos (by omega)]; rfl
        · refine x_iload_n dX5_robbed_66 rfl ?_
          refine x_aload_n dX5_robbed_67 rfl ?_
          refine x_getR (j := 57) dX5_robbed_68 gf_RX5_28 rfl rfl (hN _ _ (by decide)) ?_
          refine x_iload dX5_robbed_71 rfl ?_
          refine x_iald (g) dX5_robbed_73 rfl h2 (show _ < 9 by omega) ?_
          refine x_aload_n dX5_robbed_74 rfl ?_
          refine x_getR (j := 61) dX5_robbed_75 gf_RX5_40 rfl rfl (hN _ _ (by decide)) ?_
          refine x_iload dX5_robbed_78 rfl ?_
          refine x_iald (g) dX5_robbed_80 rfl h2 (show _ < 9 by omega) ?_
          refine x_icmp_le 91 dX5_robbed_81 (by decide) (bT g (by omega)) (bA g (by omega)) (fun h_81 => ?_) (fun h_81 => ?_)
          · refine x_iconst dX5_robbed_91 ?_
            (first | refine x_ior ((_ + 2 ^ g : Nat) : Int) dX5_robbed_92 (or_bit g (by omega) _ (by have := pow_le (show g < 9 by omega); omega) hx) ?_ | refine x_ior ((_ : Nat) : Int) dX5_robbed_92 (or_zero _ (by have := pow_le9 (show g < 10 by omega); omega)) ?_)
            refine x_ist3 dX5_robbed_93 ?_
            refine x_inc4 dX5_robbed_94 ?_
            refine x_goto 57 dX5_robbed_97 (by decide) ?_
            rw [hA g (by omega), hT g (by omega)] at h_81
            first
            | rw [orB_t h_81]
            | rw [orB_f h_81]
            exact ih (g + 1) _ (by omega) (by omega) (by omega)
          · refine x_iconst dX5_robbed_84 ?_
            refine x_iload dX5_robbed_85 rfl ?_
            refine x_ishl ((2 ^ g : Nat) : Int) dX5_robbed_87 (by rw [h2]; exact shl_bit g (by omega)) ?_
            refine x_goto 92 dX5_robbed_88 (by decide) ?_
            (first | refine x_ior ((_ + 2 ^ g : Nat) : Int) dX5_robbed_92 (or_bit g (by omega) _ (by have := pow_le (show g < 9 by omega); omega) hx) ?_ | refine x_ior ((_ : Nat) : Int) dX5_robbed_92 (or_zero _ (by have := pow_le9 (show g < 10 by omega); omega)) ?_)
            refine x_ist3 dX5_robbed_93 ?_
            refine x_inc4 dX5_robbed_94 ?_
            refine x_goto 57 dX5_robbed_97 (by decide) ?_
            rw [hA g (by omega), hT g (by omega)] at h_81
            first
            | rw [orB_t h_81]
            | rw [orB_f h_81]
            exact ih (g + 1) _ (by omega) (by omega) (by omega)
    exact lp (n + 1) 0 _ (by omega) (by omega) rfl
  · replace h_5 := b0 h_5
    refine x_iconst dX5_robbed_8 ?_
    refine hret _ _ _ _ _ _ dX5_robbed_9 rfl ?_
    refine ⟨rfl, rfl, ?_, kpM.rf⟩
    (repeat (first | rw [if_pos (by omega)] | rw [if_neg (by omega)]))
end FR

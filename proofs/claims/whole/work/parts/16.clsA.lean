/-! ===== SpringFarms: farms, facts, signs, what is taken ===== -/
def gmst (k : Int) : Int := if k = 0 then 50 else if k = 1 then 9 else if k = 2 then 99 else if k = 3 then 1 else if k = 4 then 1 else if k = 5 then 9 else 999
def rmst (k : Int) : Int := if k = 0 then 99 else 50
theorem stl2 : ∀ k : Nat, k < 7 → (stl 2).getD k 0 = gmst k := by decide
theorem stl3 : ∀ k : Nat, k < 3 → (stl 3).getD k 0 = rmst k := by decide
theorem gmst_b (k : Int) : 1 ≤ gmst k ∧ gmst k ≤ 999 := by unfold gmst; (repeat split) <;> omega
theorem rmst_b (k : Int) : 50 ≤ rmst k ∧ rmst k ≤ 99 := by unfold rmst; (repeat split) <;> omega
theorem toN {z : Int} (h : 0 ≤ z) : ∃ n : Nat, z = (n : Int) := ⟨z.toNat, (Int.toNat_of_nonneg h).symm⟩
section FR
variable {G : GT} {K : List Nat} {N : NN} {I : MM} {n : Nat}
theorem sp_within {v b : Int} (hv : inr v) (hb : inr b) : SpI G mX4_within .boolean 0 0 0 0 [vi v, vi b] K N I (qI K N I (if 0 ≤ v ∧ v ≤ b then 1 else 0)) := by
  refine SpI.of (own := RX4) (cc := cX4_within) (L := [some (vi v), some (vi b)]) (by decide) rfl rfl (Nat.le_of_ble_eq_true rfl) rfl (fun Fx hnm hret => ?_)
  refine x_iload_n dX4_within_0 rfl ?_
  refine x_if_lt 13 dX4_within_1 (by decide) hv (fun h_1 => ?_) (fun h_1 => ?_)
  · refine x_iconst dX4_within_13 ?_
    refine hret _ _ _ _ _ _ dX4_within_14 rfl ?_
    exact ⟨rfl, rfl, rfl, by omega⟩
  · refine x_iload_n dX4_within_4 rfl ?_
    refine x_iload_n dX4_within_5 rfl ?_
    refine x_icmp_gt 13 dX4_within_6 (by decide) hv hb (fun h_6 => ?_) (fun h_6 => ?_)
    · refine x_iconst dX4_within_13 ?_
      refine hret _ _ _ _ _ _ dX4_within_14 rfl ?_
      exact ⟨rfl, rfl, rfl, by omega⟩
    · refine x_iconst dX4_within_9 ?_
      refine x_goto 14 dX4_within_10 (by decide) ?_
      refine hret _ _ _ _ _ _ dX4_within_14 rfl ?_
      exact ⟨rfl, rfl, rfl, by omega⟩
theorem sp_isHours {v : Int} (hv : inr v) : SpI G mX4_isHours .boolean 0 0 0 0 [vi v] K N I (qI K N I (if 1 ≤ v ∧ v ≤ 24 then 1 else 0)) := by
  refine SpI.of (own := RX4) (cc := cX4_isHours) (L := [some (vi v)]) (by decide) rfl rfl (Nat.le_of_ble_eq_true rfl) rfl (fun Fx hnm hret => ?_)
  refine x_iload_n dX4_isHours_0 rfl ?_
  refine x_iconst dX4_isHours_1 ?_
  refine x_icmp_lt 15 dX4_isHours_2 (by decide) hv (by unfold inr; omega) (fun h_2 => ?_) (fun h_2 => ?_)
  · refine x_iconst dX4_isHours_15 ?_
    refine hret _ _ _ _ _ _ dX4_isHours_16 rfl ?_
    exact ⟨rfl, rfl, rfl, by omega⟩
  · refine x_iload_n dX4_isHours_5 rfl ?_
    refine x_bipush dX4_isHours_6 (by decide) ?_
    refine x_icmp_gt 15 dX4_isHours_8 (by decide) hv (by unfold inr; omega) (fun h_8 => ?_) (fun h_8 => ?_)
    · refine x_iconst dX4_isHours_15 ?_
      refine hret _ _ _ _ _ _ dX4_isHours_16 rfl ?_
      exact ⟨rfl, rfl, rfl, by omega⟩
    · refine x_iconst dX4_isHours_11 ?_
      refine x_goto 16 dX4_isHours_12 (by decide) ?_
      refine hret _ _ _ _ _ _ dX4_isHours_16 rfl ?_
      exact ⟨rfl, rfl, rfl, by omega⟩
theorem sp_add (hN : NS N) {d : Nat} (hd : I 18 1 = (d : Int)) (hl : d < 60) {s : Int} : SpV G mX1_add 0 0 0 0 [.ref 18, vi s] K N I (qV K N (up (up I 19 d s) 18 1 (d + 1))) := by
  refine SpV.of (own := RX1) (cc := cX1_add) (L := [some (.ref 18), some (vi s)]) (by decide) rfl rfl (Nat.le_of_ble_eq_true rfl) rfl (fun Fx hnm hret => ?_)
  refine x_aload_n dX1_add_0 rfl ?_
  refine x_getR (j := 19) dX1_add_1 gf_RX1_9 rfl rfl (hN _ _ (by decide)) ?_
  refine x_aload_n dX1_add_4 rfl ?_
  refine x_getI dX1_add_5 gf_RX1_21 rfl rfl ?_
  refine x_iload_n dX1_add_8 rfl ?_
  refine x_iast (d) dX1_add_9 rfl hd (show _ < 60 by omega) ?_
  refine x_aload_n dX1_add_10 rfl ?_
  refine x_dupR dX1_add_11 ?_
  refine x_getI dX1_add_12 gf_RX1_21 rfl rfl ?_
  refine x_iconst dX1_add_15 ?_
  refine x_iadd dX1_add_16 ?_
  refine x_putI dX1_add_17 pf_RX1_21 rfl rfl ?_
  refine hret _ _ _ _ _ dX1_add_20 ?_
  exact ⟨rfl, rfl, by rw [up_n1 (by omega), hd]⟩
theorem sp_farms (hN : NS N) {z : Int} (hz : inr z) : SpI G mX4_farms .int 2 48 0 0 [.ref 0, vi z] K N I (qI K N (if 1 ≤ z ∧ z ≤ 9 then beJ I 1 z else I) (if 1 ≤ z ∧ z ≤ 9 then I 1 0 else -2)) := by
  refine SpI.of (own := RX4) (cc := cX4_farms) (L := [some (.ref 0), some (vi z), none]) (by decide) rfl rfl (Nat.le_of_ble_eq_true rfl) rfl (fun Fx hnm hret => ?_)
  refine x_iload_n dX4_farms_0 rfl ?_
  refine x_iconst dX4_farms_1 ?_
  refine x_icmp_lt 11 dX4_farms_2 (by decide) hz (by unfold inr; omega) (fun h_2 => ?_) (fun h_2 => ?_)
  · refine x_bipush dX4_farms_11 (by decide) ?_
    refine hret _ _ _ _ _ _ dX4_farms_13 rfl ?_
    refine ⟨rfl, rfl, ?_, ?_⟩ <;> (repeat (first | rw [if_pos (by omega)] | rw [if_neg (by omega)])) <;> first | rfl | omega
  · refine x_iload_n dX4_farms_5 rfl ?_
    refine x_bipush dX4_farms_6 (by decide) ?_
    refine x_icmp_le 14 dX4_farms_8 (by decide) hz (by unfold inr; omega) (fun h_8 => ?_) (fun h_8 => ?_)
    · refine x_aload_n dX4_farms_14 rfl ?_
      refine x_getR (j := 1) dX4_farms_15 gf_RX4_10 rfl rfl (hN _ _ (by decide)) ?_
      refine x_getI dX4_farms_18 gf_RX4_60 rfl rfl ?_
      refine x_ist2 dX4_farms_21 ?_
      refine x_aload_n dX4_farms_22 rfl ?_
      refine x_getR (j := 1) dX4_farms_23 gf_RX4_10 rfl rfl (hN _ _ (by decide)) ?_
      refine x_iload_n dX4_farms_26 rfl ?_
      refine xf_VV1 dX4_farms_27 ml_RX4_64 vw_X3_begin vv_X3_begin rfl (sp_begin (b := 1) rfl hN) ⟨Nat.le_of_ble_eq_true rfl, Nat.le_of_ble_eq_true rfl, Nat.le_of_ble_eq_true rfl, Nat.le_of_ble_eq_true rfl, Nat.le_of_ble_eq_true rfl⟩ ?_
      refine x_iload_n dX4_farms_30 rfl ?_
      refine hret _ _ _ _ _ _ dX4_farms_31 rfl ?_
      refine ⟨rfl, rfl, ?_, ?_⟩ <;> (repeat (first | rw [if_pos (by omega)] | rw [if_neg (by omega)])) <;> first | rfl | omega
    · refine x_bipush dX4_farms_11 (by decide) ?_
      refine hret _ _ _ _ _ _ dX4_farms_13 rfl ?_
      refine ⟨rfl, rfl, ?_, ?_⟩ <;> (repeat (first | rw [if_pos (by omega)] | rw [if_neg (by omega)])) <;> first | rfl | omega
theorem sp_farm (hN : NS N) (hB : RB I 1 n) {f k v : Int} (hf : inr f) (hk : inr k) (hv : inr v) : SpI G mX4_farm .int 1 23 0 0 [.ref 0, vi f, vi k, vi v] K N I (qI K N (if (0 ≤ f ∧ f < n) ∧ (0 ≤ k ∧ k ≤ 6) ∧ (0 ≤ v ∧ v ≤ gmst k) then up I 2 (7 * f.toNat + k.toNat) v else I) (if ¬ (0 ≤ f ∧ f < n) then -1 else if (0 ≤ k ∧ k ≤ 6) ∧ (0 ≤ v ∧ v ≤ gmst k) then fa I 1 f.toNat k.toNat else -2)) := by
  refine SpI.of (own := RX4) (cc := cX4_farm) (L := [some (.ref 0), some (vi f), some (vi k), some (vi v), none]) (by decide) rfl rfl (Nat.le_of_ble_eq_true rfl) rfl (fun Fx hnm hret => ?_)
  have hn9 := hB.2.2.1
  have gb := gmst_b k
  refine x_aload_n dX4_farm_0 rfl ?_
  refine x_getR (j := 1) dX4_farm_1 gf_RX4_10 rfl rfl (hN _ _ (by decide)) ?_
  refine x_iload_n dX4_farm_4 rfl ?_
  refine xf_VI1 dX4_farm_5 ml_RX4_68 vw_X3_has vv_X3_has rfl (sp_has (b := 1) rfl hN hf (by rw [hB.1]; unfold inr; omega)) ⟨Nat.le_of_ble_eq_true rfl, Nat.le_of_ble_eq_true rfl, Nat.le_of_ble_eq_true rfl, Nat.le_of_ble_eq_true rfl, Nat.le_of_ble_eq_true rfl⟩ ?_
  rw [hB.1]
  refine x_if_ne 13 dX4_farm_8 (by decide) (by unfold inr; split <;> omega) (fun h_8 => ?_) (fun h_8 => ?_)
  · replace h_8 := b1 h_8
    refine x_iload_n dX4_farm_13 rfl ?_
    refine x_bipush dX4_farm_14 (by decide) ?_
    refine xf_SI2 dX4_farm_16 ml_RX4_72 vw_X4_within st_X4_within (sp_within hk (by unfold inr; omega)) ⟨Nat.le_of_ble_eq_true rfl, Nat.le_of_ble_eq_true rfl, Nat.le_of_ble_eq_true rfl, Nat.le_of_ble_eq_true rfl, Nat.le_of_ble_eq_true rfl⟩ ?_
    refine x_if_eq 34 dX4_farm_19 (by decide) (by unfold inr; split <;> omega) (fun h_19 => ?_) (fun h_19 => ?_)
    · replace h_19 := b0 h_19
      refine x_bipush dX4_farm_34 (by decide) ?_
      refine hret _ _ _ _ _ _ dX4_farm_36 rfl ?_
      refine ⟨rfl, rfl, ?_, ?_⟩ <;> (repeat (first | rw [if_pos (by omega)] | rw [if_neg (by omega)])) <;> first | rfl | omega
    · replace h_19 := b1 h_19
      obtain ⟨i, rfl⟩ := toN h_8.1
      obtain ⟨j, rfl⟩ := toN h_19.1
      refine x_iload_n dX4_farm_22 rfl ?_
      refine x_gets (k := 2) dX4_farm_23 fl_RX4_76 (by decide) rfl ?_
      refine x_iload_n dX4_farm_26 rfl ?_
      refine x_sald (k := 2) (j) dX4_farm_27 (by decide) rfl (by omega) (show _ < 7 by omega) ?_
      rw [stl2 j (by omega)]
      refine xf_SI2 dX4_farm_28 ml_RX4_72 vw_X4_within st_X4_within (sp_within hv (by unfold inr; omega)) ⟨Nat.le_of_ble_eq_true rfl, Nat.le_of_ble_eq_true rfl, Nat.le_of_ble_eq_true rfl, Nat.le_of_ble_eq_true rfl, Nat.le_of_ble_eq_true rfl⟩ ?_
      refine x_if_ne 37 dX4_farm_31 (by decide) (by unfold inr; split <;> omega) (fun h_31 => ?_) (fun h_31 => ?_)
      · replace h_31 := b1 h_31
        refine x_aload_n dX4_farm_37 rfl ?_
        refine x_getR (j := 1) dX4_farm_38 gf_RX4_10 rfl rfl (hN _ _ (by decide)) ?_
        refine x_iload_n dX4_farm_41 rfl ?_
        refine x_iload_n dX4_farm_42 rfl ?_
        refine xf_VI2 dX4_farm_43 ml_RX4_79 vw_X3_fact vv_X3_fact rfl (sp_fact (b := 1) rfl hN i j rfl rfl (by omega)) ⟨Nat.le_of_ble_eq_true rfl, Nat.le_of_ble_eq_true rfl, Nat.le_of_ble_eq_true rfl, Nat.le_of_ble_eq_true rfl, Nat.le_of_ble_eq_true rfl⟩ ?_
        refine x_ist4 dX4_farm_46 ?_
        refine x_aload_n dX4_farm_48 rfl ?_
        refine x_getR (j := 1) dX4_farm_49 gf_RX4_10 rfl rfl (hN _ _ (by decide)) ?_
        refine x_iload_n dX4_farm_52 rfl ?_
        refine x_iload_n dX4_farm_53 rfl ?_
        refine x_iload_n dX4_farm_54 rfl ?_
        refine xf_VV3 dX4_farm_55 ml_RX4_83 vw_X3_put vv_X3_put rfl (sp_put (b := 1) rfl hN i j rfl rfl (by omega)) ⟨Nat.le_of_ble_eq_true rfl, Nat.le_of_ble_eq_true rfl, Nat.le_of_ble_eq_true rfl, Nat.le_of_ble_eq_true rfl, Nat.le_of_ble_eq_true rfl⟩ ?_
        refine x_iload dX4_farm_58 rfl ?_
        refine hret _ _ _ _ _ _ dX4_farm_60 rfl ?_
        refine ⟨rfl, rfl, ?_, ?_⟩ <;> (repeat (first | rw [if_pos (by omega)] | rw [if_neg (by omega)])) <;> first | rfl | omega
      · replace h_31 := b0 h_31
        refine x_bipush dX4_farm_34 (by decide) ?_
        refine hret _ _ _ _ _ _ dX4_farm_36 rfl ?_
        refine ⟨rfl, rfl, ?_, ?_⟩ <;> (repeat (first | rw [if_pos (by omega)] | rw [if_neg (by omega)])) <;> first | rfl | omega
  · replace h_8 := b0 h_8
    refine x_iconst dX4_farm_11 ?_
    refine hret _ _ _ _ _ _ dX4_farm_12 rfl ?_
    refine ⟨rfl, rfl, ?_, ?_⟩ <;> (repeat (first | rw [if_pos (by omega)] | rw [if_neg (by omega)])) <;> first | rfl | omega
theorem sp_set (hN : NS N) {k v : Int} (hk : inr k) (hv : inr v) : SpI G mX4_set .int 1 21 0 0 [.ref 0, vi k, vi v] K N I (qI K N (if (0 ≤ k ∧ k ≤ 2) ∧ (0 ≤ v ∧ v ≤ rmst k) then up I 3 k.toNat v else I) (if (0 ≤ k ∧ k ≤ 2) ∧ (0 ≤ v ∧ v ≤ rmst k) then I 3 k.toNat else -2)) := by
  refine SpI.of (own := RX4) (cc := cX4_set) (L := [some (.ref 0), some (vi k), some (vi v), none]) (by decide) rfl rfl (Nat.le_of_ble_eq_true rfl) rfl (fun Fx hnm hret => ?_)
  have gb := rmst_b k
  refine x_iload_n dX4_set_0 rfl ?_
  refine x_iconst dX4_set_1 ?_
  refine xf_SI2 dX4_set_2 ml_RX4_72 vw_X4_within st_X4_within (sp_within hk (by unfold inr; omega)) ⟨Nat.le_of_ble_eq_true rfl, Nat.le_of_ble_eq_true rfl, Nat.le_of_ble_eq_true rfl, Nat.le_of_ble_eq_true rfl, Nat.le_of_ble_eq_true rfl⟩ ?_
  refine x_if_eq 20 dX4_set_5 (by decide) (by unfold inr; split <;> omega) (fun h_5 => ?_) (fun h_5 => ?_)
  · replace h_5 := b0 h_5
    refine x_bipush dX4_set_20 (by decide) ?_
    refine hret _ _ _ _ _ _ dX4_set_22 rfl ?_
    refine ⟨rfl, rfl, ?_, ?_⟩ <;> (repeat (first | rw [if_pos (by omega)] | rw [if_neg (by omega)])) <;> first | rfl | omega
  · replace h_5 := b1 h_5
    obtain ⟨j, rfl⟩ := toN h_5.1
    refine x_iload_n dX4_set_8 rfl ?_
    refine x_gets (k := 3) dX4_set_9 fl_RX4_87 (by decide) rfl ?_
    refine x_iload_n dX4_set_12 rfl ?_
    refine x_sald (k := 3) (j) dX4_set_13 (by decide) rfl (by omega) (show _ < 3 by omega) ?_
    rw [stl3 j (by omega)]
    refine xf_SI2 dX4_set_14 ml_RX4_72 vw_X4_within st_X4_within (sp_within hv (by unfold inr; omega)) ⟨Nat.le_of_ble_eq_true rfl, Nat.le_of_ble_eq_true rfl, Nat.le_of_ble_eq_true rfl, Nat.le_of_ble_eq_true rfl, Nat.le_of_ble_eq_true rfl⟩ ?_
    refine x_if_ne 23 dX4_set_17 (by decide) (by unfold inr; split <;> omega) (fun h_17 => ?_) (fun h_17 => ?_)
    · replace h_17 := b1 h_17
      refine x_aload_n dX4_set_23 rfl ?_
      refine x_getR (j := 1) dX4_set_24 gf_RX4_10 rfl rfl (hN _ _ (by decide)) ?_
      refine x_getR (j := 3) dX4_set_27 gf_RX4_90 rfl rfl (hN _ _ (by decide)) ?_
      refine x_iload_n dX4_set_30 rfl ?_
      refine x_iald (j) dX4_set_31 rfl (by omega) (show _ < 3 by omega) ?_
      refine x_ist3 dX4_set_32 ?_
      refine x_aload_n dX4_set_33 rfl ?_
      refine x_getR (j := 1) dX4_set_34 gf_RX4_10 rfl rfl (hN _ _ (by decide)) ?_
      refine x_getR (j := 3) dX4_set_37 gf_RX4_90 rfl rfl (hN _ _ (by decide)) ?_
      refine x_iload_n dX4_set_40 rfl ?_
      refine x_iload_n dX4_set_41 rfl ?_
      refine x_iast (j) dX4_set_42 rfl (by omega) (show _ < 3 by omega) ?_
      refine x_iload_n dX4_set_43 rfl ?_
      refine hret _ _ _ _ _ _ dX4_set_44 rfl ?_
      refine ⟨rfl, rfl, ?_, ?_⟩ <;> (repeat (first | rw [if_pos (by omega)] | rw [if_neg (by omega)])) <;> first | rfl | omega
    · replace h_17 := b0 h_17
      refine x_bipush dX4_set_20 (by decide) ?_
      refine hret _ _ _ _ _ _ dX4_set_22 rfl ?_
      refine ⟨rfl, rfl, ?_, ?_⟩ <;> (repeat (first | rw [if_pos (by omega)] | rw [if_neg (by omega)])) <;> first | rfl | omega
theorem sp_say (hN : NS N) {d : Nat} (hd : I 18 1 = (d : Int)) (h60 : d ≤ 60) {s : Int} (hs : inr s) : SpI G mX4_say .int 1 21 0 0 [.ref 0, vi s] K N I (qI K N (if (33 ≤ s ∧ s ≤ 126) ∧ d < 60 then up (up I 19 d s) 18 1 (d + 1) else I) (if ¬ (33 ≤ s ∧ s ≤ 126) then -2 else if d < 60 then (d : Int) + 1 else -4)) := by
  refine SpI.of (own := RX4) (cc := cX4_say) (L := [some (.ref 0), some (vi s)]) (by decide) rfl rfl (Nat.le_of_ble_eq_true rfl) rfl (fun Fx hnm hret => ?_)
  refine x_iload_n dX4_say_0 rfl ?_
  refine x_bipush dX4_say_1 (by decide) ?_
  refine x_icmp_lt 12 dX4_say_3 (by decide) hs (by unfold inr; omega) (fun h_3 => ?_) (fun h_3 => ?_)
  · refine x_bipush dX4_say_12 (by decide) ?_
    refine hret _ _ _ _ _ _ dX4_say_14 rfl ?_
    refine ⟨rfl, rfl, ?_, ?_⟩ <;> (repeat (first | rw [if_pos (by omega)] | rw [if_neg (by omega)])) <;> first | rfl | omega
  · refine x_iload_n dX4_say_6 rfl ?_
    refine x_bipush dX4_say_7 (by decide) ?_
    refine x_icmp_le 15 dX4_say_9 (by decide) hs (by unfold inr; omega) (fun h_9 => ?_) (fun h_9 => ?_)
    · refine x_aload_n dX4_say_15 rfl ?_
      refine x_getR (j := 18) dX4_say_16 gf_RX4_36 rfl rfl (hN _ _ (by decide)) ?_
      refine x_getI dX4_say_19 gf_RX4_93 rfl rfl ?_
      refine x_bipush dX4_say_22 (by decide) ?_
      rw [hd]
      refine x_icmp_lt 30 dX4_say_24 (by decide) (by unfold inr; omega) (by unfold inr; omega) (fun h_24 => ?_) (fun h_24 => ?_)
      · refine x_aload_n dX4_say_30 rfl ?_
        refine x_getR (j := 18) dX4_say_31 gf_RX4_36 rfl rfl (hN _ _ (by decide)) ?_
        refine x_iload_n dX4_say_34 rfl ?_
        refine xf_VV1 dX4_say_35 ml_RX4_96 vw_X1_add vv_X1_add rfl (sp_add hN hd (by omega)) ⟨Nat.le_of_ble_eq_true rfl, Nat.le_of_ble_eq_true rfl, Nat.le_of_ble_eq_true rfl, Nat.le_of_ble_eq_true rfl, Nat.le_of_ble_eq_true rfl⟩ ?_
        refine x_aload_n dX4_say_38 rfl ?_
        refine x_getR (j := 18) dX4_say_39 gf_RX4_36 rfl rfl (hN _ _ (by decide)) ?_
        refine x_getI dX4_say_42 gf_RX4_93 rfl rfl ?_
        rw [up_s]
        refine hret _ _ _ _ _ _ dX4_say_45 rfl ?_
        refine ⟨rfl, rfl, ?_, ?_⟩ <;> (repeat (first | rw [if_pos (by omega)] | rw [if_neg (by omega)])) <;> first | rfl | omega
      · refine x_bipush dX4_say_27 (by decide) ?_
        refine hret _ _ _ _ _ _ dX4_say_29 rfl ?_
        refine ⟨rfl, rfl, ?_, ?_⟩ <;> (repeat (first | rw [if_pos (by omega)] | rw [if_neg (by omega)])) <;> first | rfl | omega
    · refine x_bipush dX4_say_12 (by decide) ?_
      refine hret _ _ _ _ _ _ dX4_say_14 rfl ?_
      refine ⟨rfl, rfl, ?_, ?_⟩ <;> (repeat (first | rw [if_pos (by omega)] | rw [if_neg (by omega)])) <;> first | rfl | omega
theorem sp_wipe (hN : NS N) : SpI G mX4_wipe .int 0 0 0 0 [.ref 0] K N I (qI K N (up I 18 1 0) (I 18 1)) := by
  refine SpI.of (own := RX4) (cc := cX4_wipe) (L := [some (.ref 0), none]) (by decide) rfl rfl (Nat.le_of_ble_eq_true rfl) rfl (fun Fx hnm hret => ?_)
  refine x_aload_n dX4_wipe_0 rfl ?_
  refine x_getR (j := 18) dX4_wipe_1 gf_RX4_36 rfl rfl (hN _ _ (by decide)) ?_
  refine x_getI dX4_wipe_4 gf_RX4_93 rfl rfl ?_
  refine x_ist1 dX4_wipe_7 ?_
  refine x_aload_n dX4_wipe_8 rfl ?_
  refine x_getR (j := 18) dX4_wipe_9 gf_RX4_36 rfl rfl (hN _ _ (by decide)) ?_
  refine x_iconst dX4_wipe_12 ?_
  refine x_putI dX4_wipe_13 pf_RX4_93 rfl rfl ?_
  refine x_iload_n dX4_wipe_16 rfl ?_
  refine hret _ _ _ _ _ _ dX4_wipe_17 rfl ?_
  exact ⟨rfl, rfl, rfl, rfl⟩
theorem sp_forget (hN : NS N) : SpI G mX4_forget .int 0 0 0 0 [.ref 0] K N I (qI K N (up I 1 2 0) (I 1 2)) := by
  refine SpI.of (own := RX4) (cc := cX4_forget) (L := [some (.ref 0), none]) (by decide) rfl rfl (Nat.le_of_ble_eq_true rfl) rfl (fun Fx hnm hret => ?_)
  refine x_aload_n dX4_forget_0 rfl ?_
  refine x_getR (j := 1) dX4_forget_1 gf_RX4_10 rfl rfl (hN _ _ (by decide)) ?_
  refine x_getI dX4_forget_4 gf_RX4_177 rfl rfl ?_
  refine x_ist1 dX4_forget_7 ?_
  refine x_aload_n dX4_forget_8 rfl ?_
  refine x_getR (j := 1) dX4_forget_9 gf_RX4_10 rfl rfl (hN _ _ (by decide)) ?_
  refine x_iconst dX4_forget_12 ?_
  refine x_putI dX4_forget_13 pf_RX4_177 rfl rfl ?_
  refine x_iload_n dX4_forget_16 rfl ?_
  refine hret _ _ _ _ _ _ dX4_forget_17 rfl ?_
  exact ⟨rfl, rfl, rfl, rfl⟩
theorem sp_seen (hN : NS N) (hB : RB I 1 n) {s : Nat} (hs : I 1 2 = (s : Int)) (h8 : s ≤ 8) {f t : Int} (hf : inr f) (ht : inr t) : SpI G mX4_seen .int 1 22 0 0 [.ref 0, vi f, vi t] K N I (qI K N (if (0 ≤ f ∧ f < n) ∧ (0 ≤ t ∧ t ≤ 9) ∧ s < 8 then up (up (up I 4 s f) 5 s t) 1 2 (s + 1) else I) (if ¬ (0 ≤ f ∧ f < n) then -1 else if ¬ (0 ≤ t ∧ t ≤ 9) then -2 else if s < 8 then (s : Int) + 1 else -4)) := by
  refine SpI.of (own := RX4) (cc := cX4_seen) (L := [some (.ref 0), some (vi f), some (vi t)]) (by decide) rfl rfl (Nat.le_of_ble_eq_true rfl) rfl (fun Fx hnm hret => ?_)
  have hn9 := hB.2.2.1
  refine x_aload_n dX4_seen_0 rfl ?_
  refine x_getR (j := 1) dX4_seen_1 gf_RX4_10 rfl rfl (hN _ _ (by decide)) ?_
  refine x_iload_n dX4_seen_4 rfl ?_
  refine xf_VI1 dX4_seen_5 ml_RX4_68 vw_X3_has vv_X3_has rfl (sp_has (b := 1) rfl hN hf (by rw [hB.1]; unfold inr; omega)) ⟨Nat.le_of_ble_eq_true rfl, Nat.le_of_ble_eq_true rfl, Nat.le_of_ble_eq_true rfl, Nat.le_of_ble_eq_true rfl, Nat.le_of_ble_eq_true rfl⟩ ?_
  rw [hB.1]
  refine x_if_ne 13 dX4_seen_8 (by decide) (by unfold inr; split <;> omega) (fun h_8 => ?_) (fun h_8 => ?_)
  · replace h_8 := b1 h_8
    refine x_iload_n dX4_seen_13 rfl ?_
    refine x_gets (k := 2) dX4_seen_14 fl_RX4_76 (by decide) rfl ?_
    refine x_iconst dX4_seen_17 ?_
    refine x_sald (k := 2) (1) dX4_seen_18 (by decide) rfl (by omega) (show _ < 7 by omega) ?_
    refine x_eqV (b := 9) rfl ?_
    refine xf_SI2 dX4_seen_19 ml_RX4_72 vw_X4_within st_X4_within (sp_within ht (by unfold inr; omega)) ⟨Nat.le_of_ble_eq_true rfl, Nat.le_of_ble_eq_true rfl, Nat.le_of_ble_eq_true rfl, Nat.le_of_ble_eq_true rfl, Nat.le_of_ble_eq_true rfl⟩ ?_
    refine x_if_ne 28 dX4_seen_22 (by decide) (by unfold inr; split <;> omega) (fun h_22 => ?_) (fun h_22 => ?_)
    · replace h_22 := b1 h_22
      refine x_aload_n dX4_seen_28 rfl ?_
      refine x_getR (j := 1) dX4_seen_29 gf_RX4_10 rfl rfl (hN _ _ (by decide)) ?_
      refine x_getI dX4_seen_32 gf_RX4_177 rfl rfl ?_
      refine x_bipush dX4_seen_35 (by decide) ?_
      rw [hs]
      refine x_icmp_lt 43 dX4_seen_37 (by decide) (by unfold inr; omega) (by unfold inr; omega) (fun h_37 => ?_) (fun h_37 => ?_)
      · refine x_aload_n dX4_seen_43 rfl ?_
        refine x_getR (j := 1) dX4_seen_44 gf_RX4_10 rfl rfl (hN _ _ (by decide)) ?_
        refine x_iload_n dX4_seen_47 rfl ?_
        refine x_iload_n dX4_seen_48 rfl ?_
        refine xf_VV2 dX4_seen_49 ml_RX4_180 vw_X3_see vv_X3_see rfl (sp_see (b := 1) rfl hN s hs (by omega)) ⟨Nat.le_of_ble_eq_true rfl, Nat.le_of_ble_eq_true rfl, Nat.le_of_ble_eq_true rfl, Nat.le_of_ble_eq_true rfl, Nat.le_of_ble_eq_true rfl⟩ ?_
        refine x_aload_n dX4_seen_52 rfl ?_
        refine x_getR (j := 1) dX4_seen_53 gf_RX4_10 rfl rfl (hN _ _ (by decide)) ?_
        refine x_getI dX4_seen_56 gf_RX4_177 rfl rfl ?_
        rw [up_s]
        refine hret _ _ _ _ _ _ dX4_seen_59 rfl ?_
        refine ⟨rfl, rfl, ?_, ?_⟩ <;> (repeat (first | rw [if_pos (by omega)] | rw [if_neg (by omega)])) <;> first | rfl | omega
      · refine x_bipush dX4_seen_40 (by decide) ?_
        refine hret _ _ _ _ _ _ dX4_seen_42 rfl ?_
        refine ⟨rfl, rfl, ?_, ?_⟩ <;> (repeat (first | rw [if_pos (by omega)] | rw [if_neg (by omega)])) <;> first | rfl | omega
    · replace h_22 := b0 h_22
      refine x_bipush dX4_seen_25 (by decide) ?_
      refine hret _ _ _ _ _ _ dX4_seen_27 rfl ?_
      refine ⟨rfl, rfl, ?_, ?_⟩ <;> (repeat (first | rw [if_pos (by omega)] | rw [if_neg (by omega)])) <;> first | rfl | omega
  · replace h_8 := b0 h_8
    refine x_iconst dX4_seen_11 ?_
    refine hret _ _ _ _ _ _ dX4_seen_12 rfl ?_
    refine ⟨rfl, rfl, ?_, ?_⟩ <;> (repeat (first | rw [if_pos (by omega)] | rw [if_neg (by omega)])) <;> first | rfl | omega
theorem sp_takes (hN : NS N) (hB : RB I 1 n) {f k : Int} (hf : inr f) (hk : inr k) : SpI G mX4_takes .int 3 69 0 0 [.ref 0, vi f, vi k] K N I (pI K N (fun z J => z = (if ¬ (0 ≤ f ∧ f < n) then -1 else if ¬ (0 ≤ k ∧ k ≤ 1) then -2 else if k = 0 then tok (fa I 1) 0 (l0R I 1 0) f.toNat else sto (fa I 1) 0 (l0R I 1 0) f.toNat) ∧ kpC I J)) := by
  refine SpI.of (own := RX4) (cc := cX4_takes) (L := [some (.ref 0), some (vi f), some (vi k)]) (by decide) rfl rfl (Nat.le_of_ble_eq_true rfl) rfl (fun Fx hnm hret => ?_)
  have hn9 := hB.2.2.1
  refine x_aload_n dX4_takes_0 rfl ?_
  refine x_getR (j := 1) dX4_takes_1 gf_RX4_10 rfl rfl (hN _ _ (by decide)) ?_
  refine x_iload_n dX4_takes_4 rfl ?_
  refine xf_VI1 dX4_takes_5 ml_RX4_68 vw_X3_has vv_X3_has rfl (sp_has (b := 1) rfl hN hf (by rw [hB.1]; unfold inr; omega)) ⟨Nat.le_of_ble_eq_true rfl, Nat.le_of_ble_eq_true rfl, Nat.le_of_ble_eq_true rfl, Nat.le_of_ble_eq_true rfl, Nat.le_of_ble_eq_true rfl⟩ ?_
  rw [hB.1]
  refine x_if_ne 13 dX4_takes_8 (by decide) (by unfold inr; split <;> omega) (fun h_8 => ?_) (fun h_8 => ?_)
  · replace h_8 := b1 h_8
    refine x_iload_n dX4_takes_13 rfl ?_
    refine x_iconst dX4_takes_14 ?_
    refine xf_SI2 dX4_takes_15 ml_RX4_72 vw_X4_within st_X4_within (sp_within hk (by unfold inr; omega)) ⟨Nat.le_of_ble_eq_true rfl, Nat.le_of_ble_eq_true rfl, Nat.le_of_ble_eq_true rfl, Nat.le_of_ble_eq_true rfl, Nat.le_of_ble_eq_true rfl⟩ ?_
    refine x_if_ne 24 dX4_takes_18 (by decide) (by unfold inr; split <;> omega) (fun h_18 => ?_) (fun h_18 => ?_)
    · replace h_18 := b1 h_18
      obtain ⟨i, rfl⟩ := toN h_8.1
      refine x_aload_n dX4_takes_24 rfl ?_
      refine x_getR (j := 12) dX4_takes_25 gf_RX4_26 rfl rfl (hN _ _ (by decide)) ?_
      refine x_aload_n dX4_takes_28 rfl ?_
      refine x_getR (j := 1) dX4_takes_29 gf_RX4_10 rfl rfl (hN _ _ (by decide)) ?_
      refine x_iconst dX4_takes_32 ?_
      refine xf_VV2 dX4_takes_33 ml_RX4_135 vw_X2_flow vv_X2_flow rfl (sp_flow (b := 1) (c := 12) rfl rfl hN hB (by unfold inr; omega)) ⟨Nat.le_of_ble_eq_true rfl, Nat.le_of_ble_eq_true rfl, Nat.le_of_ble_eq_true rfl, Nat.le_of_ble_eq_true rfl, Nat.le_of_ble_eq_true rfl⟩ ?_
      refine x_iload_n dX4_takes_36 rfl ?_
      refine x_if_ne 52 dX4_takes_37 (by decide) hk (fun h_37 => ?_) (fun h_37 => ?_)
      · refine x_aload_n dX4_takes_52 rfl ?_
        refine x_getR (j := 12) dX4_takes_53 gf_RX4_26 rfl rfl (hN _ _ (by decide)) ?_
        refine x_getR (j := 14) dX4_takes_56 gf_RX4_142 rfl rfl (hN _ _ (by decide)) ?_
        refine x_iload_n dX4_takes_59 rfl ?_
        refine x_iald (i) dX4_takes_60 rfl (by omega) (show _ < 9 by omega) ?_
        rw [show fwJ I 1 12 0 n 14 i = _ from fw_s (by omega)]
        refine hret _ _ _ _ _ _ dX4_takes_61 rfl ?_
        refine ⟨rfl, rfl, ?_, ?_⟩
        · (repeat (first | rw [if_pos (by omega)] | rw [if_neg (by omega)])) <;> rfl
        · first | exact kpC.rf | exact kpC.rf.fw (by omega)
      · refine x_aload_n dX4_takes_40 rfl ?_
        refine x_getR (j := 12) dX4_takes_41 gf_RX4_26 rfl rfl (hN _ _ (by decide)) ?_
        refine x_getR (j := 13) dX4_takes_44 gf_RX4_139 rfl rfl (hN _ _ (by decide)) ?_
        refine x_iload_n dX4_takes_47 rfl ?_
        refine x_iald (i) dX4_takes_48 rfl (by omega) (show _ < 9 by omega) ?_
        rw [show fwJ I 1 12 0 n 13 i = _ from fw_t (by omega)]
        refine x_goto 61 dX4_takes_49 (by decide) ?_
        refine hret _ _ _ _ _ _ dX4_takes_61 rfl ?_
        refine ⟨rfl, rfl, ?_, ?_⟩
        · (repeat (first | rw [if_pos (by omega)] | rw [if_neg (by omega)])) <;> rfl
        · first | exact kpC.rf | exact kpC.rf.fw (by omega)
    · replace h_18 := b0 h_18
      refine x_bipush dX4_takes_21 (by decide) ?_
      refine hret _ _ _ _ _ _ dX4_takes_23 rfl ?_
      refine ⟨rfl, rfl, ?_, ?_⟩
      · (repeat (first | rw [if_pos (by omega)] | rw [if_neg (by omega)])) <;> rfl
      · first | exact kpC.rf | exact kpC.rf.fw (by omega)
  · replace h_8 := b0 h_8
    refine x_iconst dX4_takes_11 ?_
    refine hret _ _ _ _ _ _ dX4_takes_12 rfl ?_
    refine ⟨rfl, rfl, ?_, ?_⟩
    · (repeat (first | rw [if_pos (by omega)] | rw [if_neg (by omega)])) <;> rfl
    · first | exact kpC.rf | exact kpC.rf.fw (by omega)
theorem sp_takesIf (hN : NS N) (hB : RB I 1 n) {f k : Int} (hf : inr f) (hk : inr k) : SpI G mX4_takesIf .int 3 69 0 0 [.ref 0, vi f, vi k] K N I (pI K N (fun z J => z = (if (0 ≤ f ∧ f < n) ∧ (0 ≤ k ∧ k < n) then tok (setF (fa I 1) k.toNat 4 (1 - fa I 1 k.toNat 4)) 0 (l0R I 1 0) f.toNat else -1) ∧ kpC I J)) := by
  refine SpI.of (own := RX4) (cc := cX4_takesIf) (L := [some (.ref 0), some (vi f), some (vi k)]) (by decide) rfl rfl (Nat.le_of_ble_eq_true rfl) rfl (fun Fx hnm hret => ?_)
  have hn9 := hB.2.2.1
  refine x_aload_n dX4_takesIf_0 rfl ?_
  refine x_getR (j := 1) dX4_takesIf_1 gf_RX4_10 rfl rfl (hN _ _ (by decide)) ?_
  refine x_iload_n dX4_takesIf_4 rfl ?_
  refine xf_VI1 dX4_takesIf_5 ml_RX4_68 vw_X3_has vv_X3_has rfl (sp_has (b := 1) rfl hN hf (by rw [hB.1]; unfold inr; omega)) ⟨Nat.le_of_ble_eq_true rfl, Nat.le_of_ble_eq_true rfl, Nat.le_of_ble_eq_true rfl, Nat.le_of_ble_eq_true rfl, Nat.le_of_ble_eq_true rfl⟩ ?_
  rw [hB.1]
  refine x_if_eq 22 dX4_takesIf_8 (by decide) (by unfold inr; split <;> omega) (fun h_8 => ?_) (fun h_8 => ?_)
  · replace h_8 := b0 h_8
    refine x_iconst dX4_takesIf_22 ?_
    refine hret _ _ _ _ _ _ dX4_takesIf_23 rfl ?_
    refine ⟨rfl, rfl, ?_, ?_⟩
    · (repeat (first | rw [if_pos (by omega)] | rw [if_neg (by omega)])) <;> rfl
    · first | exact kpC.rf | exact ((kpC.rf.cp (by omega)).upc (by omega)).fw (by omega)
  · replace h_8 := b1 h_8
    refine x_aload_n dX4_takesIf_11 rfl ?_
    refine x_getR (j := 1) dX4_takesIf_12 gf_RX4_10 rfl rfl (hN _ _ (by decide)) ?_
    refine x_iload_n dX4_takesIf_15 rfl ?_
    refine xf_VI1 dX4_takesIf_16 ml_RX4_68 vw_X3_has vv_X3_has rfl (sp_has (b := 1) rfl hN hk (by rw [hB.1]; unfold inr; omega)) ⟨Nat.le_of_ble_eq_true rfl, Nat.le_of_ble_eq_true rfl, Nat.le_of_ble_eq_true rfl, Nat.le_of_ble_eq_true rfl, Nat.le_of_ble_eq_true rfl⟩ ?_
    rw [hB.1]
    refine x_if_ne 24 dX4_takesIf_19 (by decide) (by unfold inr; split <;> omega) (fun h_19 => ?_) (fun h_19 => ?_)
    · replace h_19 := b1 h_19
      obtain ⟨i, rfl⟩ := toN h_8.1
      obtain ⟨j, rfl⟩ := toN h_19.1
      refine x_aload_n dX4_takesIf_24 rfl ?_
      refine x_getR (j := 6) dX4_takesIf_25 gf_RX4_16 rfl rfl (hN _ _ (by decide)) ?_
      refine x_aload_n dX4_takesIf_28 rfl ?_
      refine x_getR (j := 1) dX4_takesIf_29 gf_RX4_10 rfl rfl (hN _ _ (by decide)) ?_
      refine xf_VV1 dX4_takesIf_32 ml_RX4_125 vw_X3_copy vv_X3_copy rfl (sp_copy (s := 1) (d := 6) rfl rfl (by decide) hN) ⟨Nat.le_of_ble_eq_true rfl, Nat.le_of_ble_eq_true rfl, Nat.le_of_ble_eq_true rfl, Nat.le_of_ble_eq_true rfl, Nat.le_of_ble_eq_true rfl⟩ ?_
      refine x_aload_n dX4_takesIf_35 rfl ?_
      refine x_getR (j := 6) dX4_takesIf_36 gf_RX4_16 rfl rfl (hN _ _ (by decide)) ?_
      refine x_iload_n dX4_takesIf_39 rfl ?_
      refine xf_VV1 dX4_takesIf_40 ml_RX4_145 vw_X3_turnPlug vv_X3_turnPlug rfl (sp_turnPlug (b := 6) rfl hN j rfl (by omega)) ⟨Nat.le_of_ble_eq_true rfl, Nat.le_of_ble_eq_true rfl, Nat.le_of_ble_eq_true rfl, Nat.le_of_ble_eq_true rfl, Nat.le_of_ble_eq_true rfl⟩ ?_
      have hB2 : RB (up (cpR I 1 6) 7 (7 * j + 4) (1 - fa (cpR I 1 6) 6 j 4)) 6 n := hB.cp.put (b := 6) (by omega) (by
        have := hB.2.2.2.1 j (by omega)
        rw [fa_cp]
        unfold okF; omega)
      refine x_aload_n dX4_takesIf_43 rfl ?_
      refine x_getR (j := 15) dX4_takesIf_44 gf_RX4_30 rfl rfl (hN _ _ (by decide)) ?_
      refine x_aload_n dX4_takesIf_47 rfl ?_
      refine x_getR (j := 6) dX4_takesIf_48 gf_RX4_16 rfl rfl (hN _ _ (by decide)) ?_
      refine x_iconst dX4_takesIf_51 ?_
      refine xf_VV2 dX4_takesIf_52 ml_RX4_135 vw_X2_flow vv_X2_flow rfl (sp_flow (b := 6) (c := 15) rfl rfl hN hB2 (by unfold inr; omega)) ⟨Nat.le_of_ble_eq_true rfl, Nat.le_of_ble_eq_true rfl, Nat.le_of_ble_eq_true rfl, Nat.le_of_ble_eq_true rfl, Nat.le_of_ble_eq_true rfl⟩ ?_
      refine x_aload_n dX4_takesIf_55 rfl ?_
      refine x_getR (j := 15) dX4_takesIf_56 gf_RX4_30 rfl rfl (hN _ _ (by decide)) ?_
      refine x_getR (j := 16) dX4_takesIf_59 gf_RX4_139 rfl rfl (hN _ _ (by decide)) ?_
      refine x_iload_n dX4_takesIf_62 rfl ?_
      refine x_iald (i) dX4_takesIf_63 rfl (by omega) (show _ < 9 by omega) ?_
      rw [show fwJ _ 6 15 0 n 16 i = _ from fw_t (by omega), show fa (up (cpR I 1 6) 7 (7 * j + 4) (1 - fa (cpR I 1 6) 6 j 4)) 6 = _ from fa_put (b := 6) (by omega), fa_cp, l0_eq (I := cpR I 1 6) (fun _ => up_n1 (by omega)), l0_cp]
      refine hret _ _ _ _ _ _ dX4_takesIf_64 rfl ?_
      refine ⟨rfl, rfl, ?_, ?_⟩
      · (repeat (first | rw [if_pos (by omega)] | rw [if_neg (by omega)])) <;> rfl
      · first | exact kpC.rf | exact ((kpC.rf.cp (by omega)).upc (by omega)).fw (by omega)
    · replace h_19 := b0 h_19
      refine x_iconst dX4_takesIf_22 ?_
      refine hret _ _ _ _ _ _ dX4_takesIf_23 rfl ?_
      refine ⟨rfl, rfl, ?_, ?_⟩
      · (repeat (first | rw [if_pos (by omega)] | rw [if_neg (by omega)])) <;> rfl
      · first | exact kpC.rf | exact ((kpC.rf.cp (by omega)).upc (by omega)).fw (by omega)
end FR

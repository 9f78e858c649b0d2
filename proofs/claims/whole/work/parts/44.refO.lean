/-! ===== the reference: judge, behind, ditch, done, first ===== -/
theorem kep_k {I J : MM} (h : kpM I J) : kpM I (kepJ J) := fun a b q => by
  rw [show kepJ J a b = J a b from by unfold kepJ; rw [if_neg (by unfold pcm at q; omega), if_neg (by unfold pcm at q; omega)]]; exact h a b q
theorem kep_m {I J : MM} {n d k : Nat} (h : MPs I J n d k) : MPs I (kepJ J) n d k := by
  obtain ⟨h1, h2⟩ := h
  refine ⟨?_, fun j hj => ?_⟩
  · unfold kepJ; rw [if_neg (by omega), if_neg (by omega)]; exact h1
  · unfold kepJ; rw [if_neg (by omega), if_neg (by omega), if_neg (by omega), if_neg (by omega)]; exact h2 j hj
theorem bak_k {I J J2 : MM} (h : kpM I J) (h2 : kpD (kepJ J) J2) : kpM I (bakJ J2) := fun a b q1 => by
  have hk2 := kep_k h
  unfold bakJ
  by_cases y : a = 50 ∧ b = 5
  · rw [if_pos y, y.1, y.2, h2 50 18 (by omega) (by omega) (by omega) (by omega) (by omega)]
    unfold kepJ; rw [if_pos ⟨rfl, rfl⟩]; exact h 50 5 (by unfold pcm; omega)
  · rw [if_neg y]
    by_cases y2 : a = 51 ∧ b < 63
    · rw [if_pos y2, y2.1, h2 59 b (by omega) (by omega) (by omega) (by omega) (by omega)]
      unfold kepJ; rw [if_neg (by omega), if_pos ⟨rfl, y2.2⟩]; exact h 51 b (by unfold pcm; omega)
    · rw [if_neg y2, h2 a b y2 (by unfold pcm at q1; omega) (by unfold pcm at q1; omega) (by unfold pcm at q1; omega) (by unfold pcm at q1; omega)]; exact hk2 a b q1
theorem rm_c (z0 : Int) (k j : Nat) : (z0 ≠ -6 ∧ rmV z0 k j = -5 ∧ rvV z0 k j = -5) ∨ (z0 = -6 ∧ j = k ∧ rmV z0 k j = -6 ∧ rvV z0 k j = 0) ∨ (z0 = -6 ∧ j ≠ k ∧ rmV z0 k j = -3 ∧ rvV z0 k j = -3) := by
  unfold rmV rvV
  by_cases h : z0 = -6
  · rw [if_neg (show ¬ z0 ≠ -6 from fun y => y h), if_neg (show ¬ z0 ≠ -6 from fun y => y h)]
    by_cases h2 : j = k
    · rw [if_pos h2, if_pos h2]; exact Or.inr (Or.inl ⟨h, h2, rfl, rfl⟩)
    · rw [if_neg h2, if_neg h2]; exact Or.inr (Or.inr ⟨h, h2, rfl, rfl⟩)
  · rw [if_pos h, if_pos h]; exact Or.inl ⟨h, rfl, rfl⟩
theorem bhK_c {w : Int} (h : 0 ≤ w ∧ w ≤ 3) : (w = 0 ∧ bhK w.toNat = 6) ∨ (w = 1 ∧ bhK w.toNat = 0) ∨ (w = 2 ∧ bhK w.toNat = 1) ∨ (w = 3 ∧ bhK w.toNat = 4) := by
  rcases (by omega : w = 0 ∨ w = 1 ∨ w = 2 ∨ w = 3) with rfl | rfl | rfl | rfl
  · exact Or.inl ⟨rfl, rfl⟩
  · exact Or.inr (Or.inl ⟨rfl, rfl⟩)
  · exact Or.inr (Or.inr (Or.inl ⟨rfl, rfl⟩))
  · exact Or.inr (Or.inr (Or.inr ⟨rfl, rfl⟩))
def wmV (I : MM) (n d k j : Nat) : Int := whV (dmR I n d) (atV (I 54) d n) (fun i => (ftV (I 54) d n i).toNat) k j
def jmV (I : MM) (n d : Nat) (w : Int) (k : Nat) (z0 : Int) (j : Nat) : Int := if z0 ≠ -6 then -5 else if w = 0 then bpV k j else if w = 1 then wmV I n d k j else if j = k then (dmR I n d j).2.2.1 else -3
/-- what a day that is done leaves, in the reference -/
def mdP (I J : MM) (n : Nat) (s : DT) : Prop := fm J = s.1 ∧ J 50 5 = s.2.1 ∧ J 50 10 = 0 ∧ ∀ a b, pcm a b → ¬ (a = 51 ∧ b < 63) → ¬ (a = 50 ∧ (b = 5 ∨ b = 10)) → J a b = I a b
section FR
variable {G : GT} {K : List Nat} {N : NN} {I : MM} {n : Nat}
theorem sp_goDay2 (hN : NS N) (hB : RM I n) (hP : ∀ f, f < n → fm I f 6 ≤ 990000) {J : MM} {d k : Nat} (hk : kpM I J) (hPD : ∀ j, j < k → poV (I 54) d n j < d ∧ atV (I 54) d n j ≠ -1) (hk60 : k ≤ 60) (hM : MPs I J n d k) : SpV G mX5_goDay 4 91 0 0 [.ref 50] K N J (pV K N (fun J2 => ∃ j, LD (dmR I n d) (atV (I 54) d n) (fun i => (ftV (I 54) d n i).toNat) k j ∧ J2 50 19 = bpV k j ∧ J2 50 20 = wmV I n d k j ∧ MDt J2 n (dmR I n d j) ∧ kpD J J2)) := by
  have hB2 := hk.RM hB
  have hF2 := hk.fm
  have h5k : J 50 5 = I 50 5 := hk 50 5 (by unfold pcm; omega)
  have hR2 : daS (fm J) (J 50 5) (l0M J) n (atV (I 54) d n) (fun i => (ftV (I 54) d n i).toNat) = dmR I n d := by
    rw [hF2, h5k, show l0M J = l0M I from by funext kn; exact hk.l0]; rfl
  have hAb : ∀ j, j < k → 0 ≤ atV (I 54) d n j ∧ atV (I 54) d n j ≤ 7 := fun j hj => by
    have h1 := acV_b (c := I 54) (d := d) (n := n) (p := poV (I 54) d n j)
    have h2 := (hPD j hj).2
    unfold atV at h2 ⊢
    omega
  have hpt2 : ∀ j, j < k → J 55 j = mpV (atV (I 54) d n j) ∧ J 56 j = mfV (atV (I 54) d n j) ((ftV (I 54) d n j).toNat : Int) := fun j hj => by
    have h0 := frV_b (c := I 54) (p := poV (I 54) d n j) hB.2.1
    rw [show ((ftV (I 54) d n j).toNat : Int) = ftV (I 54) d n j from Int.toNat_of_nonneg h0.1]
    exact hM.2 j hj
  exact sp_goDay hN hB2 (fun f hf => by rw [hF2]; exact hP f hf) hk60 hM.1 hpt2 hAb (B := fun i => (ftV (I 54) d n i).toNat) (fun j => by have := frV_b (c := I 54) (p := poV (I 54) d n j) hB.2.1; show (frV (I 54) n (poV (I 54) d n j)).toNat < n; omega) hR2.symm

theorem sp_mjudge (hN : NS N) (hB : RM I n) (hP : ∀ f, f < n → fm I f 6 ≤ 990000) {d : Nat} (hPM : PM I d) {w : Int} (hw : inr w) : SpI G mX5_judge .int 6 133 0 0 [.ref 50, vi w] K N I (pI K N (fun z J => kpM I J ∧ ((¬ (0 ≤ w ∧ w ≤ 2) ∧ z = -2) ∨ ((0 ≤ w ∧ w ≤ 2) ∧ ∃ k z0 j, DM I n d k z0 j ∧ z = jmV I n d w k z0 j)))) := by
  refine SpI.of (own := RX5) (cc := cX5_judge) (L := [some (.ref 50), some (vi w), none]) (by decide) rfl rfl (Nat.le_of_ble_eq_true rfl) rfl (fun Fx hnm hret => ?_)
  refine x_iload_n dX5_judge_0 rfl ?_
  refine x_i2l dX5_judge_1 hw ?_
  refine x_lconst0 dX5_judge_2 ?_
  refine x_ldc2 dX5_judge_3 ct_RX5_102 ?_
  refine xf_SI3 dX5_judge_6 ml_RX5_86 vw_X5_in st_X5_in (sp_in (by unfold inl; unfold inr at hw; omega) (by unfold inl; omega) (by unfold inl; omega)) ⟨Nat.le_of_ble_eq_true rfl, Nat.le_of_ble_eq_true rfl, Nat.le_of_ble_eq_true rfl, Nat.le_of_ble_eq_true rfl, Nat.le_of_ble_eq_true rfl⟩ ?_
  refine x_if_ne 15 dX5_judge_9 (by decide) (by unfold inr; split <;> omega) (fun h_9 => ?_) (fun h_9 => ?_)
  · replace h_9 := b1 h_9
    refine x_aload_n dX5_judge_15 rfl ?_
    refine xp_VI0 dX5_judge_16 ml_RX5_168 vw_X5_refusal vv_X5_refusal rfl (sp_refusal hN hB hP hPM) ⟨Nat.le_of_ble_eq_true rfl, Nat.le_of_ble_eq_true rfl, Nat.le_of_ble_eq_true rfl, Nat.le_of_ble_eq_true rfl, Nat.le_of_ble_eq_true rfl⟩ (fun z1 I1 hq => ?_)
    obtain ⟨k, z0, j, hDM, hk60, hz, hk1, hR⟩ := hq
    have hc := rm_c z0 k j
    rw [← hz] at hc
    have hc1 : z1 = -5 ∨ z1 = -6 ∨ z1 = -3 := by omega
    refine x_ist2 dX5_judge_19 ?_
    refine x_iload_n dX5_judge_20 rfl ?_
    refine x_bipush dX5_judge_21 (by decide) ?_
    refine x_icmp_ne 29 dX5_judge_23 (by decide) (by unfold inr; omega) (by unfold inr; omega) (fun h_23 => ?_) (fun h_23 => ?_)
    · refine x_iload_n dX5_judge_29 rfl ?_
      refine x_if_ne 40 dX5_judge_30 (by decide) hw (fun h_30 => ?_) (fun h_30 => ?_)
      · refine x_iload_n dX5_judge_40 rfl ?_
        refine x_iconst dX5_judge_41 ?_
        refine x_icmp_ne 52 dX5_judge_42 (by decide) hw (by unfold inr; omega) (fun h_42 => ?_) (fun h_42 => ?_)
        · refine x_iload_n dX5_judge_52 rfl ?_
          refine x_bipush dX5_judge_53 (by decide) ?_
          refine x_icmp_ne 63 dX5_judge_55 (by decide) (by unfold inr; omega) (by unfold inr; omega) (fun h_55 => ?_) (fun h_55 => ?_)
          · refine x_aload_n dX5_judge_63 rfl ?_
            refine x_getI dX5_judge_64 gf_RX5_137 rfl rfl ?_
            rw [(hR (by omega)).2.2.2.1]
            refine hret _ _ _ _ _ _ dX5_judge_67 rfl ?_
            refine ⟨rfl, rfl, hk1, Or.inr ⟨by omega, k, z0, j, hDM, ?_⟩⟩
            unfold jmV
            rw [if_neg (by omega)]
            first
            | (rw [if_pos (by omega)]; done)
            | (rw [if_neg (by omega), if_pos (by omega)]; rfl)
            | (rw [if_neg (by omega), if_neg (by omega), if_pos (by omega)]; done)
            | (rw [if_neg (by omega), if_neg (by omega), if_neg (by omega)]; done)
          · refine x_bipush dX5_judge_58 (by decide) ?_
            refine x_goto 67 dX5_judge_60 (by decide) ?_
            refine hret _ _ _ _ _ _ dX5_judge_67 rfl ?_
            refine ⟨rfl, rfl, hk1, Or.inr ⟨by omega, k, z0, j, hDM, ?_⟩⟩
            unfold jmV
            rw [if_neg (by omega)]
            first
            | (rw [if_pos (by omega)]; done)
            | (rw [if_neg (by omega), if_pos (by omega)]; rfl)
            | (rw [if_neg (by omega), if_neg (by omega), if_pos (by omega)]; done)
            | (rw [if_neg (by omega), if_neg (by omega), if_neg (by omega)]; done)
        · refine x_aload_n dX5_judge_45 rfl ?_
          refine x_getI dX5_judge_46 gf_RX5_143 rfl rfl ?_
          rw [(hR (by omega)).2.1]
          refine x_goto 67 dX5_judge_49 (by decide) ?_
          refine hret _ _ _ _ _ _ dX5_judge_67 rfl ?_
          refine ⟨rfl, rfl, hk1, Or.inr ⟨by omega, k, z0, j, hDM, ?_⟩⟩
          unfold jmV
          rw [if_neg (by omega)]
          first
          | (rw [if_pos (by omega)]; done)
          | (rw [if_neg (by omega), if_pos (by omega)]; rfl)
          | (rw [if_neg (by omega), if_neg (by omega), if_pos (by omega)]; done)
          | (rw [if_neg (by omega), if_neg (by omega), if_neg (by omega)]; done)
      · refine x_aload_n dX5_judge_33 rfl ?_
        refine x_getI dX5_judge_34 gf_RX5_140 rfl rfl ?_
        rw [(hR (by omega)).1]
        refine x_goto 67 dX5_judge_37 (by decide) ?_
        refine hret _ _ _ _ _ _ dX5_judge_67 rfl ?_
        refine ⟨rfl, rfl, hk1, Or.inr ⟨by omega, k, z0, j, hDM, ?_⟩⟩
        unfold jmV
        rw [if_neg (by omega)]
        first
        | (rw [if_pos (by omega)]; done)
        | (rw [if_neg (by omega), if_pos (by omega)]; rfl)
        | (rw [if_neg (by omega), if_neg (by omega), if_pos (by omega)]; done)
        | (rw [if_neg (by omega), if_neg (by omega), if_neg (by omega)]; done)
    · refine x_bipush dX5_judge_26 (by decide) ?_
      refine hret _ _ _ _ _ _ dX5_judge_28 rfl ?_
      refine ⟨rfl, rfl, hk1, Or.inr ⟨by omega, k, z0, j, hDM, ?_⟩⟩
      unfold jmV
      rw [if_pos (by omega)]
  · replace h_9 := b0 h_9
    refine x_bipush dX5_judge_12 (by decide) ?_
    refine hret _ _ _ _ _ _ dX5_judge_14 rfl ?_
    refine ⟨rfl, rfl, kpM.rf, Or.inl ⟨by omega, rfl⟩⟩
theorem sp_mbehind (hN : NS N) (hB : RM I n) (hP : ∀ f, f < n → fm I f 6 ≤ 990000) {d : Nat} (hPM : PM I d) {f w : Int} (hf : inr f) (hw : inr w) : SpI G mX5_behind .int 6 133 0 0 [.ref 50, vi f, vi w] K N I (pI K N (fun z J => kpM I J ∧ ((¬ (0 ≤ f ∧ f < n) ∧ z = -1) ∨ ((0 ≤ f ∧ f < n) ∧ ¬ (0 ≤ w ∧ w ≤ 3) ∧ z = -2) ∨ ((0 ≤ f ∧ f < n) ∧ (0 ≤ w ∧ w ≤ 3) ∧ ∃ k z0 j, DM I n d k z0 j ∧ z = (if rvV z0 k j ≠ 0 then rvV z0 k j else (dmR I n d j).1 f.toNat (bhK w.toNat)))))) := by
  refine SpI.of (own := RX5) (cc := cX5_behind) (L := [some (.ref 50), some (vi f), some (vi w), none, none]) (by decide) rfl rfl (Nat.le_of_ble_eq_true rfl) rfl (fun Fx hnm hret => ?_)
  have hn9 := hB.2.2.1
  refine x_aload_n dX5_behind_0 rfl ?_
  refine x_iload_n dX5_behind_1 rfl ?_
  refine xf_VI1 dX5_behind_2 ml_RX5_92 vw_X5_isFarm vv_X5_isFarm rfl (sp_isFarm hB.1 hn9 hf) ⟨Nat.le_of_ble_eq_true rfl, Nat.le_of_ble_eq_true rfl, Nat.le_of_ble_eq_true rfl, Nat.le_of_ble_eq_true rfl, Nat.le_of_ble_eq_true rfl⟩ ?_
  refine x_if_ne 10 dX5_behind_5 (by decide) (by unfold inr; split <;> omega) (fun h_5 => ?_) (fun h_5 => ?_)
  · replace h_5 := b1 h_5
    refine x_iload_n dX5_behind_10 rfl ?_
    refine x_i2l dX5_behind_11 hw ?_
    refine x_lconst0 dX5_behind_12 ?_
    refine x_ldc2 dX5_behind_13 ct_RX5_171 ?_
    refine xf_SI3 dX5_behind_16 ml_RX5_86 vw_X5_in st_X5_in (sp_in (by unfold inl; unfold inr at hw; omega) (by unfold inl; omega) (by unfold inl; omega)) ⟨Nat.le_of_ble_eq_true rfl, Nat.le_of_ble_eq_true rfl, Nat.le_of_ble_eq_true rfl, Nat.le_of_ble_eq_true rfl, Nat.le_of_ble_eq_true rfl⟩ ?_
    refine x_if_ne 25 dX5_behind_19 (by decide) (by unfold inr; split <;> omega) (fun h_19 => ?_) (fun h_19 => ?_)
    · replace h_19 := b1 h_19
      refine x_aload_n dX5_behind_25 rfl ?_
      refine xp_VI0 dX5_behind_26 ml_RX5_168 vw_X5_refusal vv_X5_refusal rfl (sp_refusal hN hB hP hPM) ⟨Nat.le_of_ble_eq_true rfl, Nat.le_of_ble_eq_true rfl, Nat.le_of_ble_eq_true rfl, Nat.le_of_ble_eq_true rfl, Nat.le_of_ble_eq_true rfl⟩ (fun z1 I1 hq => ?_)
      obtain ⟨k, z0, j, hDM, hk60, hz, hk1, hR⟩ := hq
      have hc := rm_c z0 k j
      rw [← hz] at hc
      have hc1 : z1 = -5 ∨ z1 = -6 ∨ z1 = -3 := by omega
      refine x_ist3 dX5_behind_29 ?_
      refine x_iload_n dX5_behind_30 rfl ?_
      refine x_bipush dX5_behind_31 (by decide) ?_
      refine x_icmp_eq 38 dX5_behind_33 (by decide) (by unfold inr; omega) (by unfold inr; omega) (fun h_33 => ?_) (fun h_33 => ?_)
      · refine x_aload_n dX5_behind_38 rfl ?_
        refine xf_VV0 dX5_behind_39 ml_RX5_159 vw_X5_keepNow vv_X5_keepNow rfl (sp_keepNow hN) ⟨Nat.le_of_ble_eq_true rfl, Nat.le_of_ble_eq_true rfl, Nat.le_of_ble_eq_true rfl, Nat.le_of_ble_eq_true rfl, Nat.le_of_ble_eq_true rfl⟩ ?_
        refine x_aload_n dX5_behind_42 rfl ?_
        refine xp_VV0 dX5_behind_43 ml_RX5_162 vw_X5_goDay vv_X5_goDay rfl (sp_goDay2 hN hB hP (kep_k hk1) hDM.1.1 hk60 (kep_m (hR (by omega)).2.2.1)) ⟨Nat.le_of_ble_eq_true rfl, Nat.le_of_ble_eq_true rfl, Nat.le_of_ble_eq_true rfl, Nat.le_of_ble_eq_true rfl, Nat.le_of_ble_eq_true rfl⟩ (fun I2 hq => ?_)
        obtain ⟨j2, hL2, -, -, hD2, hkD⟩ := hq
        obtain rfl : j2 = j := hL2.uniq (hDM.2 (by omega))
        refine x_aload_n dX5_behind_46 rfl ?_
        refine x_getR (j := 51) dX5_behind_47 gf_RX5_7 rfl rfl (hN _ _ (by decide)) ?_
        refine x_iload_n dX5_behind_50 rfl ?_
        refine x_if_ne 59 dX5_behind_51 (by decide) hw (fun h_51 => ?_) (fun h_51 => ?_)
        · refine x_iload_n dX5_behind_59 rfl ?_
          refine x_iconst dX5_behind_60 ?_
          refine x_icmp_ne 68 dX5_behind_61 (by decide) hw (by unfold inr; omega) (fun h_61 => ?_) (fun h_61 => ?_)
          · refine x_iload_n dX5_behind_68 rfl ?_
            refine x_iconst dX5_behind_69 ?_
            refine x_icmp_ne 77 dX5_behind_70 (by decide) hw (by unfold inr; omega) (fun h_70 => ?_) (fun h_70 => ?_)
            · refine x_iconst dX5_behind_77 ?_
              obtain ⟨i, rfl⟩ := toN (show 0 ≤ f by omega)
              have hbc := bhK_c (w := w) (by omega)
              obtain ⟨kk, hkk⟩ : ∃ kk, kk = bhK w.toNat := ⟨_, rfl⟩
              rw [← hkk] at hbc
              refine x_iload_n dX5_behind_78 rfl ?_
              refine xf_SI2 dX5_behind_79 ml_RX5_82 vw_X5_at st_X5_at (sp_at) ⟨Nat.le_of_ble_eq_true rfl, Nat.le_of_ble_eq_true rfl, Nat.le_of_ble_eq_true rfl, Nat.le_of_ble_eq_true rfl, Nat.le_of_ble_eq_true rfl⟩ ?_
              refine x_iald (9 * kk + i) dX5_behind_82 rfl (by omega) (show _ < 63 by omega) ?_
              rw [show I2 51 (9 * kk + i) = fm I2 i kk from (fm_at (by omega)).symm]
              rw [hD2.1]
              refine x_ist4 dX5_behind_83 ?_
              refine x_aload_n dX5_behind_85 rfl ?_
              refine xf_VV0 dX5_behind_86 ml_RX5_165 vw_X5_putBack vv_X5_putBack rfl (sp_putBack hN) ⟨Nat.le_of_ble_eq_true rfl, Nat.le_of_ble_eq_true rfl, Nat.le_of_ble_eq_true rfl, Nat.le_of_ble_eq_true rfl, Nat.le_of_ble_eq_true rfl⟩ ?_
              refine x_iload dX5_behind_89 rfl ?_
              refine hret _ _ _ _ _ _ dX5_behind_91 rfl ?_
              refine ⟨rfl, rfl, bak_k hk1 hkD, Or.inr (Or.inr ⟨by omega, by omega, k, z0, j2, hDM, ?_⟩)⟩
              rw [if_neg (by omega), ← hkk]; rfl
            · refine x_iconst dX5_behind_73 ?_
              refine x_goto 78 dX5_behind_74 (by decide) ?_
              obtain ⟨i, rfl⟩ := toN (show 0 ≤ f by omega)
              have hbc := bhK_c (w := w) (by omega)
              obtain ⟨kk, hkk⟩ : ∃ kk, kk = bhK w.toNat := ⟨_, rfl⟩
              rw [← hkk] at hbc
              refine x_iload_n dX5_behind_78 rfl ?_
              refine xf_SI2 dX5_behind_79 ml_RX5_82 vw_X5_at st_X5_at (sp_at) ⟨Nat.le_of_ble_eq_true rfl, Nat.le_of_ble_eq_true rfl, Nat.le_of_ble_eq_true rfl, Nat.le_of_ble_eq_true rfl, Nat.le_of_ble_eq_true rfl⟩ ?_
              refine x_iald (9 * kk + i) dX5_behind_82 rfl (by omega) (show _ < 63 by omega) ?_
              rw [show I2 51 (9 * kk + i) = fm I2 i kk from (fm_at (by omega)).symm]
              rw [hD2.1]
              refine x_ist4 dX5_behind_83 ?_
              refine x_aload_n dX5_behind_85 rfl ?_
              refine xf_VV0 dX5_behind_86 ml_RX5_165 vw_X5_putBack vv_X5_putBack rfl (sp_putBack hN) ⟨Nat.le_of_ble_eq_true rfl, Nat.le_of_ble_eq_true rfl, Nat.le_of_ble_eq_true rfl, Nat.le_of_ble_eq_true rfl, Nat.le_of_ble_eq_true rfl⟩ ?_
              refine x_iload dX5_behind_89 rfl ?_
              refine hret _ _ _ _ _ _ dX5_behind_91 rfl ?_
              refine ⟨rfl, rfl, bak_k hk1 hkD, Or.inr (Or.inr ⟨by omega, by omega, k, z0, j2, hDM, ?_⟩)⟩
              rw [if_neg (by omega), ← hkk]; rfl
          · refine x_iconst dX5_behind_64 ?_
            refine x_goto 78 dX5_behind_65 (by decide) ?_
            obtain ⟨i, rfl⟩ := toN (show 0 ≤ f by omega)
            have hbc := bhK_c (w := w) (by omega)
            obtain ⟨kk, hkk⟩ : ∃ kk, kk = bhK w.toNat := ⟨_, rfl⟩
            rw [← hkk] at hbc
            refine x_iload_n dX5_behind_78 rfl ?_
            refine xf_SI2 dX5_behind_79 ml_RX5_82 vw_X5_at st_X5_at (sp_at) ⟨Nat.le_of_ble_eq_true rfl, Nat.le_of_ble_eq_true rfl, Nat.le_of_ble_eq_true rfl, Nat.le_of_ble_eq_true rfl, Nat.le_of_ble_eq_true rfl⟩ ?_
            refine x_iald (9 * kk + i) dX5_behind_82 rfl (by omega) (show _ < 63 by omega) ?_
            rw [show I2 51 (9 * kk + i) = fm I2 i kk from (fm_at (by omega)).symm]
            rw [hD2.1]
            refine x_ist4 dX5_behind_83 ?_
            refine x_aload_n dX5_behind_85 rfl ?_
            refine xf_VV0 dX5_behind_86 ml_RX5_165 vw_X5_putBack vv_X5_putBack rfl (sp_putBack hN) ⟨Nat.le_of_ble_eq_true rfl, Nat.le_of_ble_eq_true rfl, Nat.le_of_ble_eq_true rfl, Nat.le_of_ble_eq_true rfl, Nat.le_of_ble_eq_true rfl⟩ ?_
            refine x_iload dX5_behind_89 rfl ?_
            refine hret _ _ _ _ _ _ dX5_behind_91 rfl ?_
            refine ⟨rfl, rfl, bak_k hk1 hkD, Or.inr (Or.inr ⟨by omega, by omega, k, z0, j2, hDM, ?_⟩)⟩
            rw [if_neg (by omega), ← hkk]; rfl
        · refine x_bipush dX5_behind_54 (by decide) ?_
          refine x_goto 78 dX5_behind_56 (by decide) ?_
          obtain ⟨i, rfl⟩ := toN (show 0 ≤ f by omega)
          have hbc := bhK_c (w := w) (by omega)
          obtain ⟨kk, hkk⟩ : ∃ kk, kk = bhK w.toNat := ⟨_, rfl⟩
          rw [← hkk] at hbc
          refine x_iload_n dX5_behind_78 rfl ?_
          refine xf_SI2 dX5_behind_79 ml_RX5_82 vw_X5_at st_X5_at (sp_at) ⟨Nat.le_of_ble_eq_true rfl, Nat.le_of_ble_eq_true rfl, Nat.le_of_ble_eq_true rfl, Nat.le_of_ble_eq_true rfl, Nat.le_of_ble_eq_true rfl⟩ ?_
          refine x_iald (9 * kk + i) dX5_behind_82 rfl (by omega) (show _ < 63 by omega) ?_
          rw [show I2 51 (9 * kk + i) = fm I2 i kk from (fm_at (by omega)).symm]
          rw [hD2.1]
          refine x_ist4 dX5_behind_83 ?_
          refine x_aload_n dX5_behind_85 rfl ?_
          refine xf_VV0 dX5_behind_86 ml_RX5_165 vw_X5_putBack vv_X5_putBack rfl (sp_putBack hN) ⟨Nat.le_of_ble_eq_true rfl, Nat.le_of_ble_eq_true rfl, Nat.le_of_ble_eq_true rfl, Nat.le_of_ble_eq_true rfl, Nat.le_of_ble_eq_true rfl⟩ ?_
          refine x_iload dX5_behind_89 rfl ?_
          refine hret _ _ _ _ _ _ dX5_behind_91 rfl ?_
          refine ⟨rfl, rfl, bak_k hk1 hkD, Or.inr (Or.inr ⟨by omega, by omega, k, z0, j2, hDM, ?_⟩)⟩
          rw [if_neg (by omega), ← hkk]; rfl
      · refine x_iload_n dX5_behind_36 rfl ?_
        refine hret _ _ _ _ _ _ dX5_behind_37 rfl ?_
        refine ⟨rfl, rfl, hk1, Or.inr (Or.inr ⟨by omega, by omega, k, z0, j, hDM, ?_⟩)⟩
        rw [if_pos (by omega)]; omega
    · replace h_19 := b0 h_19
      refine x_bipush dX5_behind_22 (by decide) ?_
      refine hret _ _ _ _ _ _ dX5_behind_24 rfl ?_
      refine ⟨rfl, rfl, kpM.rf, Or.inr (Or.inl ⟨by omega, by omega, rfl⟩)⟩
  · replace h_5 := b0 h_5
    refine x_iconst dX5_behind_8 ?_
    refine hret _ _ _ _ _ _ dX5_behind_9 rfl ?_
    refine ⟨rfl, rfl, kpM.rf, Or.inl ⟨by omega, rfl⟩⟩
theorem sp_mditch (hN : NS N) (hB : RM I n) (hP : ∀ f, f < n → fm I f 6 ≤ 990000) {d : Nat} (hPM : PM I d) : SpI G mX5_ditch .int 6 133 0 0 [.ref 50] K N I (pI K N (fun z J => kpM I J ∧ ∃ k z0 j, DM I n d k z0 j ∧ z = (if rvV z0 k j ≠ 0 then rvV z0 k j else (dmR I n d j).2.1))) := by
  refine SpI.of (own := RX5) (cc := cX5_ditch) (L := [some (.ref 50), none, none]) (by decide) rfl rfl (Nat.le_of_ble_eq_true rfl) rfl (fun Fx hnm hret => ?_)
  refine x_aload_n dX5_ditch_0 rfl ?_
  refine xp_VI0 dX5_ditch_1 ml_RX5_168 vw_X5_refusal vv_X5_refusal rfl (sp_refusal hN hB hP hPM) ⟨Nat.le_of_ble_eq_true rfl, Nat.le_of_ble_eq_true rfl, Nat.le_of_ble_eq_true rfl, Nat.le_of_ble_eq_true rfl, Nat.le_of_ble_eq_true rfl⟩ (fun z1 I1 hq => ?_)
  obtain ⟨k, z0, j, hDM, hk60, hz, hk1, hR⟩ := hq
  have hc := rm_c z0 k j
  rw [← hz] at hc
  have hc1 : z1 = -5 ∨ z1 = -6 ∨ z1 = -3 := by omega
  refine x_ist1 dX5_ditch_4 ?_
  refine x_iload_n dX5_ditch_5 rfl ?_
  refine x_bipush dX5_ditch_6 (by decide) ?_
  refine x_icmp_eq 13 dX5_ditch_8 (by decide) (by unfold inr; omega) (by unfold inr; omega) (fun h_8 => ?_) (fun h_8 => ?_)
  · refine x_aload_n dX5_ditch_13 rfl ?_
    refine xf_VV0 dX5_ditch_14 ml_RX5_159 vw_X5_keepNow vv_X5_keepNow rfl (sp_keepNow hN) ⟨Nat.le_of_ble_eq_true rfl, Nat.le_of_ble_eq_true rfl, Nat.le_of_ble_eq_true rfl, Nat.le_of_ble_eq_true rfl, Nat.le_of_ble_eq_true rfl⟩ ?_
    refine x_aload_n dX5_ditch_17 rfl ?_
    refine xp_VV0 dX5_ditch_18 ml_RX5_162 vw_X5_goDay vv_X5_goDay rfl (sp_goDay2 hN hB hP (kep_k hk1) hDM.1.1 hk60 (kep_m (hR (by omega)).2.2.1)) ⟨Nat.le_of_ble_eq_true rfl, Nat.le_of_ble_eq_true rfl, Nat.le_of_ble_eq_true rfl, Nat.le_of_ble_eq_true rfl, Nat.le_of_ble_eq_true rfl⟩ (fun I2 hq => ?_)
    obtain ⟨j2, hL2, -, -, hD2, hkD⟩ := hq
    obtain rfl : j2 = j := hL2.uniq (hDM.2 (by omega))
    refine x_aload_n dX5_ditch_21 rfl ?_
    refine x_getI dX5_ditch_22 gf_RX5_76 rfl rfl ?_
    rw [hD2.2.1]
    refine x_ist2 dX5_ditch_25 ?_
    refine x_aload_n dX5_ditch_26 rfl ?_
    refine xf_VV0 dX5_ditch_27 ml_RX5_165 vw_X5_putBack vv_X5_putBack rfl (sp_putBack hN) ⟨Nat.le_of_ble_eq_true rfl, Nat.le_of_ble_eq_true rfl, Nat.le_of_ble_eq_true rfl, Nat.le_of_ble_eq_true rfl, Nat.le_of_ble_eq_true rfl⟩ ?_
    refine x_iload_n dX5_ditch_30 rfl ?_
    refine hret _ _ _ _ _ _ dX5_ditch_31 rfl ?_
    refine ⟨rfl, rfl, bak_k hk1 hkD, k, z0, j2, hDM, ?_⟩
    rw [if_neg (by omega)]
  · refine x_iload_n dX5_ditch_11 rfl ?_
    refine hret _ _ _ _ _ _ dX5_ditch_12 rfl ?_
    refine ⟨rfl, rfl, hk1, k, z0, j, hDM, ?_⟩
    rw [if_pos (by omega)]; omega
theorem sp_mfirst (hN : NS N) (hB : RM I n) (hP : ∀ f, f < n → fm I f 6 ≤ 990000) {d : Nat} (hPM : PM I d) {f : Int} (hf : inr f) : SpI G mX5_first .int 6 133 0 0 [.ref 50, vi f] K N I (pI K N (fun z J => kpM I J ∧ ((¬ (0 ≤ f ∧ f < n) ∧ z = -1) ∨ ((0 ≤ f ∧ f < n) ∧ ∃ k z0 j, DM I n d k z0 j ∧ z = (if rvV z0 k j ≠ 0 then rvV z0 k j else (dmR I n d j).2.2.2 f.toNat))))) := by
  refine SpI.of (own := RX5) (cc := cX5_first) (L := [some (.ref 50), some (vi f), none]) (by decide) rfl rfl (Nat.le_of_ble_eq_true rfl) rfl (fun Fx hnm hret => ?_)
  have hn9 := hB.2.2.1
  refine x_aload_n dX5_first_0 rfl ?_
  refine x_iload_n dX5_first_1 rfl ?_
  refine xf_VI1 dX5_first_2 ml_RX5_92 vw_X5_isFarm vv_X5_isFarm rfl (sp_isFarm hB.1 hn9 hf) ⟨Nat.le_of_ble_eq_true rfl, Nat.le_of_ble_eq_true rfl, Nat.le_of_ble_eq_true rfl, Nat.le_of_ble_eq_true rfl, Nat.le_of_ble_eq_true rfl⟩ ?_
  refine x_if_ne 10 dX5_first_5 (by decide) (by unfold inr; split <;> omega) (fun h_5 => ?_) (fun h_5 => ?_)
  · replace h_5 := b1 h_5
    refine x_aload_n dX5_first_10 rfl ?_
    refine xp_VI0 dX5_first_11 ml_RX5_168 vw_X5_refusal vv_X5_refusal rfl (sp_refusal hN hB hP hPM) ⟨Nat.le_of_ble_eq_true rfl, Nat.le_of_ble_eq_true rfl, Nat.le_of_ble_eq_true rfl, Nat.le_of_ble_eq_true rfl, Nat.le_of_ble_eq_true rfl⟩ (fun z1 I1 hq => ?_)
    obtain ⟨k, z0, j, hDM, hk60, hz, hk1, hR⟩ := hq
    have hc := rm_c z0 k j
    rw [← hz] at hc
    have hc1 : z1 = -5 ∨ z1 = -6 ∨ z1 = -3 := by omega
    refine x_ist2 dX5_first_14 ?_
    refine x_iload_n dX5_first_15 rfl ?_
    refine x_bipush dX5_first_16 (by decide) ?_
    refine x_icmp_eq 25 dX5_first_18 (by decide) (by unfold inr; omega) (by unfold inr; omega) (fun h_18 => ?_) (fun h_18 => ?_)
    · obtain ⟨i, rfl⟩ := toN (show 0 ≤ f by omega)
      refine x_aload_n dX5_first_25 rfl ?_
      refine x_getR (j := 60) dX5_first_26 gf_RX5_37 rfl rfl (hN _ _ (by decide)) ?_
      refine x_iload_n dX5_first_29 rfl ?_
      refine x_iald (i) dX5_first_30 rfl (by omega) (show _ < 9 by omega) ?_
      rw [(hR (by omega)).2.2.2.2 i (by omega)]
      refine hret _ _ _ _ _ _ dX5_first_31 rfl ?_
      refine ⟨rfl, rfl, hk1, Or.inr ⟨by omega, k, z0, j, hDM, ?_⟩⟩
      first
      | (rw [if_pos (by omega)]; omega)
      | (rw [if_neg (by omega)]; rfl)
    · refine x_iload_n dX5_first_21 rfl ?_
      refine x_goto 31 dX5_first_22 (by decide) ?_
      refine hret _ _ _ _ _ _ dX5_first_31 rfl ?_
      refine ⟨rfl, rfl, hk1, Or.inr ⟨by omega, k, z0, j, hDM, ?_⟩⟩
      first
      | (rw [if_pos (by omega)]; omega)
      | (rw [if_neg (by omega)]; rfl)
  · replace h_5 := b0 h_5
    refine x_iconst dX5_first_8 ?_
    refine hret _ _ _ _ _ _ dX5_first_9 rfl ?_
    refine ⟨rfl, rfl, kpM.rf, Or.inl ⟨by omega, rfl⟩⟩
theorem sp_mdone (hN : NS N) (hB : RM I n) (hP : ∀ f, f < n → fm I f 6 ≤ 990000) {d : Nat} (hPM : PM I d) : SpI G mX5_done .int 6 133 0 0 [.ref 50] K N I (pI K N (fun z J => ∃ k z0 j, DM I n d k z0 j ∧ z = (if rvV z0 k j ≠ 0 then rvV z0 k j else (k : Int)) ∧ (rvV z0 k j ≠ 0 → kpM I J) ∧ (rvV z0 k j = 0 → mdP I J n (dmR I n d j)))) := by
  refine SpI.of (own := RX5) (cc := cX5_done) (L := [some (.ref 50), none]) (by decide) rfl rfl (Nat.le_of_ble_eq_true rfl) rfl (fun Fx hnm hret => ?_)
  refine x_aload_n dX5_done_0 rfl ?_
  refine xp_VI0 dX5_done_1 ml_RX5_168 vw_X5_refusal vv_X5_refusal rfl (sp_refusal hN hB hP hPM) ⟨Nat.le_of_ble_eq_true rfl, Nat.le_of_ble_eq_true rfl, Nat.le_of_ble_eq_true rfl, Nat.le_of_ble_eq_true rfl, Nat.le_of_ble_eq_true rfl⟩ (fun z1 I1 hq => ?_)
  obtain ⟨k, z0, j, hDM, hk60, hz, hk1, hR⟩ := hq
  have hc := rm_c z0 k j
  rw [← hz] at hc
  have hc1 : z1 = -5 ∨ z1 = -6 ∨ z1 = -3 := by omega
  refine x_ist1 dX5_done_4 ?_
  refine x_iload_n dX5_done_5 rfl ?_
  refine x_bipush dX5_done_6 (by decide) ?_
  refine x_icmp_eq 13 dX5_done_8 (by decide) (by unfold inr; omega) (by unfold inr; omega) (fun h_8 => ?_) (fun h_8 => ?_)
  · refine x_aload_n dX5_done_13 rfl ?_
    refine xp_VV0 dX5_done_14 ml_RX5_162 vw_X5_goDay vv_X5_goDay rfl (sp_goDay2 hN hB hP hk1 hDM.1.1 hk60 (hR (by omega)).2.2.1) ⟨Nat.le_of_ble_eq_true rfl, Nat.le_of_ble_eq_true rfl, Nat.le_of_ble_eq_true rfl, Nat.le_of_ble_eq_true rfl, Nat.le_of_ble_eq_true rfl⟩ (fun I2 hq => ?_)
    obtain ⟨j2, hL2, -, -, hD2, hkD⟩ := hq
    obtain rfl : j2 = j := hL2.uniq (hDM.2 (by omega))
    refine x_aload_n dX5_done_17 rfl ?_
    refine x_iconst dX5_done_18 ?_
    refine x_putI dX5_done_19 pf_RX5_112 rfl rfl ?_
    refine x_aload_n dX5_done_22 rfl ?_
    refine x_getI dX5_done_23 gf_RX5_115 rfl rfl ?_
    rw [up_n2 (by omega), hkD 50 13 (by omega) (by omega) (by omega) (by omega) (by omega), (hR (by omega)).2.2.1.1]
    refine hret _ _ _ _ _ _ dX5_done_26 rfl ?_
    refine ⟨rfl, rfl, k, z0, j2, hDM, ?_, fun e => by exfalso; omega, fun _ => ⟨?_, ?_, up_s, fun a b q1 q2 q3 => ?_⟩⟩
    · rw [if_neg (by omega)]
    · rw [fm_eq (fun _ => up_n1 (by omega))]; exact hD2.1
    · rw [up_n2 (by omega)]; exact hD2.2.1
    · rw [up_n (by omega), hkD a b q2 (by unfold pcm at q1; omega) (by unfold pcm at q1; omega) (by unfold pcm at q1; omega) (by unfold pcm at q1; omega)]; exact hk1 a b q1
  · refine x_iload_n dX5_done_11 rfl ?_
    refine hret _ _ _ _ _ _ dX5_done_12 rfl ?_
    refine ⟨rfl, rfl, k, z0, j, hDM, ?_, fun _ => hk1, fun e => by exfalso; omega⟩
    rw [if_pos (by omega)]; omega
end FR

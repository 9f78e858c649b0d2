/-! ===== SpringFarms: narrow, told, years ===== -/
def nrA (F : Nat → Nat → Int) (l0 d : Int) (n : Nat) (f : Int) : Int := if nwB F d n = true then (if okAll (setP F n (nwF F d)) l0 d n = true then (if f = -1 then sumN (nwF F d) n else nwF F d f.toNat) else -6) else -6
theorem nwF_b {F : Nat → Nat → Int} {d : Int} {f : Nat} (hd : 1 ≤ d ∧ d ≤ 24) (h : 0 ≤ F f 2 ∧ F f 2 ≤ 99) (h2 : 0 ≤ F f 6) : 0 ≤ nwF F d f ∧ nwF F d f ≤ 200 := by
  unfold nwF lackF
  exact ⟨Int.ediv_nonneg (by omega) (by omega), Int.le_trans (Int.ediv_le_self d (by omega)) (by omega)⟩
def kdD (x : Int) : Int := if x = 0 then 2 else if x = 1 ∨ x = 2 then 3 else if x = 3 then 1 else 0
def yrX (s : Int) : Nat → Int
  | 0 => s
  | k + 1 => (75 * yrX s k + 74) % 65537
def yrK (s : Int) (k : Nat) : Int := kdD (yrX s (k + 1) % 10)
def yrP (F : Nat → Nat → Int) (l0 : Int → Int) (n : Nat) (s : Int) : Nat → Int
  | 0 => 0
  | k + 1 => yrP F l0 n s k + sumN (tok F (yrK s k) (l0 (yrK s k))) n
def yrL (F : Nat → Nat → Int) (l0 : Int → Int) (n : Nat) (s : Int) : Nat → Int
  | 0 => 0
  | k + 1 => yrL F l0 n s k + lva F (yrK s k) (l0 (yrK s k)) n
def yrE (F : Nat → Nat → Int) (l0 : Int → Int) (n : Nat) (s : Int) : Nat → Int
  | 0 => 0
  | k + 1 => yrE F l0 n s k + (if anyZ (tok F (yrK s k) (l0 (yrK s k))) n = 1 then 1 else 0)
theorem sumN_eq {a b : Nat → Int} : ∀ n : Nat, (∀ g, g < n → a g = b g) → sumN a n = sumN b n
  | 0, _ => rfl
  | n + 1, h => by
    have ih := sumN_eq n (fun g hg => h g (by omega))
    show sumN a n + a n = sumN b n + b n
    rw [ih, h n (by omega)]
theorem anyZ_eq {a b : Nat → Int} : ∀ n : Nat, (∀ g, g < n → a g = b g) → anyZ a n = anyZ b n
  | 0, _ => rfl
  | n + 1, h => by
    have ih := anyZ_eq n (fun g hg => h g (by omega))
    show (if anyZ a n = 1 ∨ a n = 0 then (1 : Int) else 0) = (if anyZ b n = 1 ∨ b n = 0 then (1 : Int) else 0)
    rw [ih, h n (by omega)]
theorem kdD_b (x : Int) : 0 ≤ kdD x ∧ kdD x ≤ 3 := by unfold kdD; (repeat split) <;> omega
def toA (F : Nat → Nat → Int) (n len : Nat) (r0 r1 r2 di si : Int) (k : Int) : Int := if k = 0 then len else if k = 1 then n else if k = 2 then r0 else if k = 3 then r1 else if k = 4 then r2 else if k = 5 then di else if k = 6 then si else if k < 10 then -2 else if (0 ≤ k / 10 - 1 ∧ k / 10 - 1 < n) ∧ k % 10 < 7 then F (k / 10 - 1).toNat (k % 10).toNat else -2
section FR
variable {G : GT} {K : List Nat} {N : NN} {I : MM} {n : Nat}
theorem sp_narrow (hN : NS N) (hB : RB I 1 n) {d f : Int} (hd : inr d) (hf : inr f) : SpI G mX4_narrow .int 4 91 0 0 [.ref 0, vi d, vi f] K N I (pI K N (fun z J => z = (if ¬ (f = -1 ∨ (0 ≤ f ∧ f < n)) then -1 else if 1 ≤ d ∧ d ≤ 24 then nrA (fa I 1) (l0R I 1 0) d n f else -2) ∧ kpC I J)) := by
  refine SpI.of (own := RX4) (cc := cX4_narrow) (L := [some (.ref 0), some (vi d), some (vi f), none, none, none]) (by decide) rfl rfl (Nat.le_of_ble_eq_true rfl) rfl (fun Fx hnm hret => ?_)
  have hn9 := hB.2.2.1
  have lp : ∀ (m g : Nat) (z l : Int) (J : MM), g ≤ n → n < g + m → z = (g : Int) → (f = -1 ∨ (0 ≤ f ∧ f < n)) → (1 ≤ d ∧ d ≤ 24) → l = sumN (nwF (fa I 1) d) g → nwB (fa I 1) d g = true → TrF I J n (setP (fa I 1) g (nwF (fa I 1) d)) (l0R I 1 0) → XX G RX4 cX4_narrow (RmW 4 91 0 0) Fx 44 [some (.ref 0), some (vi d), some (vi f), some (vi l), some (vi z), none] [] K N J 0 0 := by
    intro m
    induction m with
    | zero => intros; exfalso; omega
    | succ m ih =>
      intro g z l J h0 h1 h2 hf1 hd1 h3 h4 h5
      have hJ0 : J 1 0 = (n : Int) := (h5.1 1 0 (by unfold pcl; omega)).trans hB.1
      have hF : fa J 1 = fa I 1 := fa_eq (fun j => h5.1 2 j (by unfold pcl; omega))
      have bF : g < n → _ := hB.2.2.2.1 g
      refine x_iload dX4_narrow_44 rfl ?_
      refine x_aload_n dX4_narrow_46 rfl ?_
      refine x_getR (j := 1) dX4_narrow_47 gf_RX4_10 rfl rfl (hN _ _ (by decide)) ?_
      refine x_getI dX4_narrow_50 gf_RX4_60 rfl rfl ?_
      rw [hJ0]
      refine x_icmp_ge 109 dX4_narrow_53 (by decide) (by unfold inr; omega) (by unfold inr; omega) (fun h_53 => ?_) (fun h_53 => ?_)
      · obtain rfl : g = n := by omega
        refine x_aload_n dX4_narrow_109 rfl ?_
        refine x_iload_n dX4_narrow_110 rfl ?_
        refine xf_VI1 dX4_narrow_111 ml_RX4_163 vw_X4_allHaveIn vv_X4_allHaveIn rfl (sp_allHaveIn hN h5.2.1 hd1) ⟨Nat.le_of_ble_eq_true rfl, Nat.le_of_ble_eq_true rfl, Nat.le_of_ble_eq_true rfl, Nat.le_of_ble_eq_true rfl, Nat.le_of_ble_eq_true rfl⟩ ?_
        rw [h5.2.2.1, h5.2.2.2]
        refine x_if_ne 120 dX4_narrow_114 (by decide) (by unfold inr; split <;> omega) (fun h_114 => ?_) (fun h_114 => ?_)
        · replace h_114 := b1 h_114
          refine x_iload_n dX4_narrow_120 rfl ?_
          refine x_iconst dX4_narrow_121 ?_
          refine x_icmp_ne 129 dX4_narrow_122 (by decide) (by unfold inr; omega) (by unfold inr; omega) (fun h_122 => ?_) (fun h_122 => ?_)
          · obtain ⟨i, rfl⟩ := toN (show 0 ≤ f by omega)
            refine x_aload_n dX4_narrow_129 rfl ?_
            refine x_getR (j := 6) dX4_narrow_130 gf_RX4_16 rfl rfl (hN _ _ (by decide)) ?_
            refine x_iload_n dX4_narrow_133 rfl ?_
            refine x_iconst dX4_narrow_134 ?_
            refine xf_VI2 dX4_narrow_135 ml_RX4_79 vw_X3_fact vv_X3_fact rfl (sp_fact (b := 6) rfl hN i 1 rfl rfl (by omega)) ⟨Nat.le_of_ble_eq_true rfl, Nat.le_of_ble_eq_true rfl, Nat.le_of_ble_eq_true rfl, Nat.le_of_ble_eq_true rfl, Nat.le_of_ble_eq_true rfl⟩ ?_
            rw [show fa (fwJ J 6 15 0 g) 6 = fa J 6 from fa_eq (fun _ => fw_o (by omega)), h5.2.2.1, show setP (fa I 1) g (nwF (fa I 1) d) i 1 = nwF (fa I 1) d i from if_pos ⟨rfl, by omega⟩]
            refine hret _ _ _ _ _ _ dX4_narrow_138 rfl ?_
            refine ⟨rfl, rfl, ?_, h5.fw.1⟩
            rw [if_neg (by omega), if_pos hd1]
            unfold nrA
            rw [if_pos h4, if_pos h_114]
            first
            | (rw [if_pos h_122]; exact h3)
            | (rw [if_neg (by omega)]; rfl)
          · refine x_iload_n dX4_narrow_125 rfl ?_
            refine x_goto 138 dX4_narrow_126 (by decide) ?_
            refine hret _ _ _ _ _ _ dX4_narrow_138 rfl ?_
            refine ⟨rfl, rfl, ?_, h5.fw.1⟩
            rw [if_neg (by omega), if_pos hd1]
            unfold nrA
            rw [if_pos h4, if_pos h_114]
            first
            | (rw [if_pos h_122]; exact h3)
            | (rw [if_neg (by omega)]; rfl)
        · replace h_114 := b0 h_114
          refine x_bipush dX4_narrow_117 (by decide) ?_
          refine hret _ _ _ _ _ _ dX4_narrow_119 rfl ?_
          refine ⟨rfl, rfl, ?_, h5.fw.1⟩
          rw [if_neg (by omega), if_pos hd1]
          unfold nrA
          rw [if_pos h4, if_neg h_114]
      · refine x_aload_n dX4_narrow_56 rfl ?_
        refine x_getR (j := 1) dX4_narrow_57 gf_RX4_10 rfl rfl (hN _ _ (by decide)) ?_
        refine x_iload dX4_narrow_60 rfl ?_
        refine xf_VI1 dX4_narrow_62 ml_RX4_152 vw_X3_lack vv_X3_lack rfl (sp_lack (b := 1) rfl hN g h2 (by omega) (by rw [hF]; exact (bF (by omega)).2.2.1) (by rw [hF]; exact (bF (by omega)).2.2.2.2.2.2)) ⟨Nat.le_of_ble_eq_true rfl, Nat.le_of_ble_eq_true rfl, Nat.le_of_ble_eq_true rfl, Nat.le_of_ble_eq_true rfl, Nat.le_of_ble_eq_true rfl⟩ ?_
        rw [hF]
        refine x_iload_n dX4_narrow_65 rfl ?_
        refine x_iadd dX4_narrow_66 ?_
        refine x_iconst dX4_narrow_67 ?_
        refine x_isub dX4_narrow_68 ?_
        refine x_iload_n dX4_narrow_69 rfl ?_
        refine x_idiv dX4_narrow_70 (by have := bF (by omega); unfold inr; omega) (by unfold inr; omega) ?_
        have bF2 := bF (by omega)
        have nb := nwF_b hd1 bF2.2.2.1 bF2.2.2.2.2.2.2.1
        rw [show (max 0 (fa I 1 g 2 - fa I 1 g 6) + d - 1) / d = nwF (fa I 1) d g from rfl]
        obtain ⟨wd, hwd⟩ : ∃ wd, wd = nwF (fa I 1) d g := ⟨_, rfl⟩
        rw [← hwd] at nb ⊢
        refine x_ist5 dX4_narrow_71 ?_
        refine x_iload dX4_narrow_73 rfl ?_
        refine x_gets (k := 2) dX4_narrow_75 fl_RX4_76 (by decide) rfl ?_
        refine x_iconst dX4_narrow_78 ?_
        refine x_sald (k := 2) (1) dX4_narrow_79 (by decide) rfl (by omega) (show _ < 7 by omega) ?_
        refine x_eqV (b := 9) rfl ?_
        refine x_icmp_le 86 dX4_narrow_80 (by decide) (by unfold inr; omega) (by unfold inr; omega) (fun h_80 => ?_) (fun h_80 => ?_)
        · refine x_aload_n dX4_narrow_86 rfl ?_
          refine x_getR (j := 6) dX4_narrow_87 gf_RX4_16 rfl rfl (hN _ _ (by decide)) ?_
          refine x_iload dX4_narrow_90 rfl ?_
          refine x_iconst dX4_narrow_92 ?_
          refine x_iload dX4_narrow_93 rfl ?_
          refine xf_VV3 dX4_narrow_95 ml_RX4_83 vw_X3_put vv_X3_put rfl (sp_put (b := 6) rfl hN g 1 h2 rfl (by omega)) ⟨Nat.le_of_ble_eq_true rfl, Nat.le_of_ble_eq_true rfl, Nat.le_of_ble_eq_true rfl, Nat.le_of_ble_eq_true rfl, Nat.le_of_ble_eq_true rfl⟩ ?_
          refine x_iload_n dX4_narrow_98 rfl ?_
          refine x_iload dX4_narrow_99 rfl ?_
          refine x_iadd dX4_narrow_101 ?_
          refine x_ist3 dX4_narrow_102 ?_
          refine x_inc4 dX4_narrow_103 ?_
          refine x_goto 44 dX4_narrow_106 (by decide) ?_
          refine x_dr5 (ih (g + 1) _ _ _ (by omega) (by omega) (by omega) hf1 hd1 (by rw [h3, hwd]; rfl) ?_ ?_)
          · show (nwB (fa I 1) d g && decide (nwF (fa I 1) d g ≤ 9)) = true
            rw [h4, ← hwd, Bool.true_and, decide_eq_true_iff]; exact h_80
          · have h6 := h5.put (f := g) (k := 1) (v := wd) (by omega) (by unfold okF; omega)
            rw [hwd, setP_st] at h6
            rw [hwd]
            exact h6
        · refine x_bipush dX4_narrow_83 (by decide) ?_
          refine hret _ _ _ _ _ _ dX4_narrow_85 rfl ?_
          have e : nwB (fa I 1) d (g + 1) = false := by
            show (nwB (fa I 1) d g && decide (nwF (fa I 1) d g ≤ 9)) = false
            rw [h4, ← hwd, Bool.true_and, decide_eq_false_iff_not]; omega
          obtain ⟨q, hq⟩ : ∃ q, n = (g + 1) + q := ⟨n - (g + 1), by omega⟩
          have e2 := nwB_no e q
          rw [← hq] at e2
          refine ⟨rfl, rfl, ?_, h5.1⟩
          rw [if_neg (by omega), if_pos hd1]
          unfold nrA
          rw [if_neg (by rw [e2]; decide)]
  refine x_iload_n dX4_narrow_0 rfl ?_
  refine x_iconst dX4_narrow_1 ?_
  refine x_icmp_eq 18 dX4_narrow_2 (by decide) hf (by unfold inr; omega) (fun h_2 => ?_) (fun h_2 => ?_)
  · refine x_iload_n dX4_narrow_18 rfl ?_
    refine xf_SI1 dX4_narrow_19 ml_RX4_160 vw_X4_isHours st_X4_isHours (sp_isHours hd) ⟨Nat.le_of_ble_eq_true rfl, Nat.le_of_ble_eq_true rfl, Nat.le_of_ble_eq_true rfl, Nat.le_of_ble_eq_true rfl, Nat.le_of_ble_eq_true rfl⟩ ?_
    refine x_if_ne 28 dX4_narrow_22 (by decide) (by unfold inr; split <;> omega) (fun h_22 => ?_) (fun h_22 => ?_)
    · replace h_22 := b1 h_22
      refine x_aload_n dX4_narrow_28 rfl ?_
      refine x_getR (j := 6) dX4_narrow_29 gf_RX4_16 rfl rfl (hN _ _ (by decide)) ?_
      refine x_aload_n dX4_narrow_32 rfl ?_
      refine x_getR (j := 1) dX4_narrow_33 gf_RX4_10 rfl rfl (hN _ _ (by decide)) ?_
      refine xf_VV1 dX4_narrow_36 ml_RX4_125 vw_X3_copy vv_X3_copy rfl (sp_copy (s := 1) (d := 6) rfl rfl (by decide) hN) ⟨Nat.le_of_ble_eq_true rfl, Nat.le_of_ble_eq_true rfl, Nat.le_of_ble_eq_true rfl, Nat.le_of_ble_eq_true rfl, Nat.le_of_ble_eq_true rfl⟩ ?_
      refine x_iconst dX4_narrow_39 ?_
      refine x_ist3 dX4_narrow_40 ?_
      refine x_iconst dX4_narrow_41 ?_
      refine x_ist4 dX4_narrow_42 ?_
      exact lp (n + 1) 0 _ _ _ (by omega) (by omega) rfl (by omega) (by omega) rfl rfl (by rw [setP_0]; exact TrF.cp hB)
    · replace h_22 := b0 h_22
      refine x_bipush dX4_narrow_25 (by decide) ?_
      refine hret _ _ _ _ _ _ dX4_narrow_27 rfl ?_
      refine ⟨rfl, rfl, ?_, kpC.rf⟩
      (repeat (first | rw [if_pos (by omega)] | rw [if_neg (by omega)]))
  · refine x_aload_n dX4_narrow_5 rfl ?_
    refine x_getR (j := 1) dX4_narrow_6 gf_RX4_10 rfl rfl (hN _ _ (by decide)) ?_
    refine x_iload_n dX4_narrow_9 rfl ?_
    refine xf_VI1 dX4_narrow_10 ml_RX4_68 vw_X3_has vv_X3_has rfl (sp_has (b := 1) rfl hN hf (by rw [hB.1]; unfold inr; omega)) ⟨Nat.le_of_ble_eq_true rfl, Nat.le_of_ble_eq_true rfl, Nat.le_of_ble_eq_true rfl, Nat.le_of_ble_eq_true rfl, Nat.le_of_ble_eq_true rfl⟩ ?_
    rw [hB.1]
    refine x_if_ne 18 dX4_narrow_13 (by decide) (by unfold inr; split <;> omega) (fun h_13 => ?_) (fun h_13 => ?_)
    · replace h_13 := b1 h_13
      refine x_iload_n dX4_narrow_18 rfl ?_
      refine xf_SI1 dX4_narrow_19 ml_RX4_160 vw_X4_isHours st_X4_isHours (sp_isHours hd) ⟨Nat.le_of_ble_eq_true rfl, Nat.le_of_ble_eq_true rfl, Nat.le_of_ble_eq_true rfl, Nat.le_of_ble_eq_true rfl, Nat.le_of_ble_eq_true rfl⟩ ?_
      refine x_if_ne 28 dX4_narrow_22 (by decide) (by unfold inr; split <;> omega) (fun h_22 => ?_) (fun h_22 => ?_)
      · replace h_22 := b1 h_22
        refine x_aload_n dX4_narrow_28 rfl ?_
        refine x_getR (j := 6) dX4_narrow_29 gf_RX4_16 rfl rfl (hN _ _ (by decide)) ?_
        refine x_aload_n dX4_narrow_32 rfl ?_
        refine x_getR (j := 1) dX4_narrow_33 gf_RX4_10 rfl rfl (hN _ _ (by decide)) ?_
        refine xf_VV1 dX4_narrow_36 ml_RX4_125 vw_X3_copy vv_X3_copy rfl (sp_copy (s := 1) (d := 6) rfl rfl (by decide) hN) ⟨Nat.le_of_ble_eq_true rfl, Nat.le_of_ble_eq_true rfl, Nat.le_of_ble_eq_true rfl, Nat.le_of_ble_eq_true rfl, Nat.le_of_ble_eq_true rfl⟩ ?_
        refine x_iconst dX4_narrow_39 ?_
        refine x_ist3 dX4_narrow_40 ?_
        refine x_iconst dX4_narrow_41 ?_
        refine x_ist4 dX4_narrow_42 ?_
        exact lp (n + 1) 0 _ _ _ (by omega) (by omega) rfl (by omega) (by omega) rfl rfl (by rw [setP_0]; exact TrF.cp hB)
      · replace h_22 := b0 h_22
        refine x_bipush dX4_narrow_25 (by decide) ?_
        refine hret _ _ _ _ _ _ dX4_narrow_27 rfl ?_
        refine ⟨rfl, rfl, ?_, kpC.rf⟩
        (repeat (first | rw [if_pos (by omega)] | rw [if_neg (by omega)]))
    · replace h_13 := b0 h_13
      refine x_iconst dX4_narrow_16 ?_
      refine hret _ _ _ _ _ _ dX4_narrow_17 rfl ?_
      refine ⟨rfl, rfl, ?_, kpC.rf⟩
      (repeat (first | rw [if_pos (by omega)] | rw [if_neg (by omega)]))
theorem sp_toldOfFarm (hN : NS N) (hB : RB I 1 n) {k : Int} (hk : inr k) : SpI G mX4_toldOfFarm .int 1 22 0 0 [.ref 0, vi k] K N I (qI K N I (if k < 10 then -2 else if (0 ≤ k / 10 - 1 ∧ k / 10 - 1 < n) ∧ k % 10 < 7 then fa I 1 (k / 10 - 1).toNat (k % 10).toNat else -2)) := by
  refine SpI.of (own := RX4) (cc := cX4_toldOfFarm) (L := [some (.ref 0), some (vi k), none, none]) (by decide) rfl rfl (Nat.le_of_ble_eq_true rfl) rfl (fun Fx hnm hret => ?_)
  have hn9 := hB.2.2.1
  refine x_iload_n dX4_toldOfFarm_0 rfl ?_
  refine x_bipush dX4_toldOfFarm_1 (by decide) ?_
  refine x_icmp_ge 9 dX4_toldOfFarm_3 (by decide) hk (by unfold inr; omega) (fun h_3 => ?_) (fun h_3 => ?_)
  · refine x_iload_n dX4_toldOfFarm_9 rfl ?_
    refine x_bipush dX4_toldOfFarm_10 (by decide) ?_
    refine x_idiv dX4_toldOfFarm_12 ⟨by omega, hk⟩ (by unfold inr; omega) ?_
    refine x_iconst dX4_toldOfFarm_13 ?_
    refine x_isub dX4_toldOfFarm_14 ?_
    refine x_ist2 dX4_toldOfFarm_15 ?_
    refine x_iload_n dX4_toldOfFarm_16 rfl ?_
    refine x_bipush dX4_toldOfFarm_17 (by decide) ?_
    refine x_irem dX4_toldOfFarm_19 ⟨by omega, hk⟩ (by unfold inr; omega) ?_
    refine x_ist3 dX4_toldOfFarm_20 ?_
    refine x_aload_n dX4_toldOfFarm_21 rfl ?_
    refine x_getR (j := 1) dX4_toldOfFarm_22 gf_RX4_10 rfl rfl (hN _ _ (by decide)) ?_
    refine x_iload_n dX4_toldOfFarm_25 rfl ?_
    refine xf_VI1 dX4_toldOfFarm_26 ml_RX4_68 vw_X3_has vv_X3_has rfl (sp_has (b := 1) rfl hN (by unfold inr at *; omega) (by rw [hB.1]; unfold inr; omega)) ⟨Nat.le_of_ble_eq_true rfl, Nat.le_of_ble_eq_true rfl, Nat.le_of_ble_eq_true rfl, Nat.le_of_ble_eq_true rfl, Nat.le_of_ble_eq_true rfl⟩ ?_
    rw [hB.1]
    refine x_if_eq 50 dX4_toldOfFarm_29 (by decide) (by unfold inr; split <;> omega) (fun h_29 => ?_) (fun h_29 => ?_)
    · replace h_29 := b0 h_29
      refine x_bipush dX4_toldOfFarm_50 (by decide) ?_
      refine hret _ _ _ _ _ _ dX4_toldOfFarm_52 rfl ?_
      refine ⟨rfl, rfl, rfl, ?_⟩
      rw [if_neg (by omega)]
      first
      | (rw [if_pos (by omega), hi, hj]; rfl)
      | rw [if_neg (by omega)]
    · replace h_29 := b1 h_29
      refine x_iload_n dX4_toldOfFarm_32 rfl ?_
      refine x_bipush dX4_toldOfFarm_33 (by decide) ?_
      refine x_icmp_ge 50 dX4_toldOfFarm_35 (by decide) (by unfold inr; omega) (by unfold inr; omega) (fun h_35 => ?_) (fun h_35 => ?_)
      · refine x_bipush dX4_toldOfFarm_50 (by decide) ?_
        refine hret _ _ _ _ _ _ dX4_toldOfFarm_52 rfl ?_
        refine ⟨rfl, rfl, rfl, ?_⟩
        rw [if_neg (by omega)]
        first
        | (rw [if_pos (by omega), hi, hj]; rfl)
        | rw [if_neg (by omega)]
      · obtain ⟨i, hi⟩ := toN h_29.1
        obtain ⟨j, hj⟩ := toN (show 0 ≤ k % 10 by omega)
        refine x_aload_n dX4_toldOfFarm_38 rfl ?_
        refine x_getR (j := 1) dX4_toldOfFarm_39 gf_RX4_10 rfl rfl (hN _ _ (by decide)) ?_
        refine x_iload_n dX4_toldOfFarm_42 rfl ?_
        refine x_iload_n dX4_toldOfFarm_43 rfl ?_
        refine xf_VI2 dX4_toldOfFarm_44 ml_RX4_79 vw_X3_fact vv_X3_fact rfl (sp_fact (b := 1) rfl hN i j hi hj (by omega)) ⟨Nat.le_of_ble_eq_true rfl, Nat.le_of_ble_eq_true rfl, Nat.le_of_ble_eq_true rfl, Nat.le_of_ble_eq_true rfl, Nat.le_of_ble_eq_true rfl⟩ ?_
        refine x_goto 52 dX4_toldOfFarm_47 (by decide) ?_
        refine hret _ _ _ _ _ _ dX4_toldOfFarm_52 rfl ?_
        refine ⟨rfl, rfl, rfl, ?_⟩
        rw [if_neg (by omega)]
        first
        | (rw [if_pos (by omega), hi, hj]; rfl)
        | rw [if_neg (by omega)]
  · refine x_bipush dX4_toldOfFarm_6 (by decide) ?_
    refine hret _ _ _ _ _ _ dX4_toldOfFarm_8 rfl ?_
    refine ⟨rfl, rfl, rfl, ?_⟩
    rw [if_pos (by omega)]
theorem sp_told (hN : NS N) (hB : RB I 1 n) {len : Nat} (hl : I 18 1 = (len : Int)) {k : Int} (hk : inr k) : SpI G mX4_told .int 2 45 0 0 [.ref 0, vi k] K N I (qI K N I (toA (fa I 1) n len (I 3 0) (I 3 1) (I 3 2) (I 1 1) (I 1 2) k)) := by
  refine SpI.of (own := RX4) (cc := cX4_told) (L := [some (.ref 0), some (vi k)]) (by decide) rfl rfl (Nat.le_of_ble_eq_true rfl) rfl (fun Fx hnm hret => ?_)
  refine x_iload_n dX4_told_0 rfl ?_
  rcases (show (k < 0 ∨ 6 < k) ∨ k = 0 ∨ k = 1 ∨ k = 2 ∨ k = 3 ∨ k = 4 ∨ k = 5 ∨ k = 6 by omega) with h_1 | h_1 | h_1 | h_1 | h_1 | h_1 | h_1 | h_1
  · refine x_tabOut 106 dX4_told_1 hk h_1 (by decide) ?_
    refine x_aload_n dX4_told_106 rfl ?_
    refine x_iload_n dX4_told_107 rfl ?_
    refine xf_VI1 dX4_told_108 ml_RX4_245 vw_X4_toldOfFarm vv_X4_toldOfFarm rfl (sp_toldOfFarm hN hB hk) ⟨Nat.le_of_ble_eq_true rfl, Nat.le_of_ble_eq_true rfl, Nat.le_of_ble_eq_true rfl, Nat.le_of_ble_eq_true rfl, Nat.le_of_ble_eq_true rfl⟩ ?_
    refine hret _ _ _ _ _ _ dX4_told_111 rfl ?_
    refine ⟨rfl, rfl, rfl, ?_⟩
    unfold toA
    first
    | (rw [if_neg (show ¬ k = 0 by omega), if_neg (show ¬ k = 1 by omega), if_neg (show ¬ k = 2 by omega), if_neg (show ¬ k = 3 by omega), if_neg (show ¬ k = 4 by omega), if_neg (show ¬ k = 5 by omega), if_neg (show ¬ k = 6 by omega)]; done)
    | ((repeat (first | rw [if_pos (by omega)] | rw [if_neg (by omega)])) <;> first | rfl | exact hl | exact hB.1)
  · refine x_tabIn 44 dX4_told_1 hk (by omega) (by rw [h_1]; rfl) (by decide) ?_
    refine x_aload_n dX4_told_44 rfl ?_
    refine x_getR (j := 18) dX4_told_45 gf_RX4_36 rfl rfl (hN _ _ (by decide)) ?_
    refine x_getI dX4_told_48 gf_RX4_93 rfl rfl ?_
    refine hret _ _ _ _ _ _ dX4_told_51 rfl ?_
    refine ⟨rfl, rfl, rfl, ?_⟩
    unfold toA
    first
    | (rw [if_neg (show ¬ k = 0 by omega), if_neg (show ¬ k = 1 by omega), if_neg (show ¬ k = 2 by omega), if_neg (show ¬ k = 3 by omega), if_neg (show ¬ k = 4 by omega), if_neg (show ¬ k = 5 by omega), if_neg (show ¬ k = 6 by omega)]; done)
    | ((repeat (first | rw [if_pos (by omega)] | rw [if_neg (by omega)])) <;> first | rfl | exact hl | exact hB.1)
  · refine x_tabIn 52 dX4_told_1 hk (by omega) (by rw [h_1]; rfl) (by decide) ?_
    refine x_aload_n dX4_told_52 rfl ?_
    refine x_getR (j := 1) dX4_told_53 gf_RX4_10 rfl rfl (hN _ _ (by decide)) ?_
    refine x_getI dX4_told_56 gf_RX4_60 rfl rfl ?_
    refine hret _ _ _ _ _ _ dX4_told_59 rfl ?_
    refine ⟨rfl, rfl, rfl, ?_⟩
    unfold toA
    first
    | (rw [if_neg (show ¬ k = 0 by omega), if_neg (show ¬ k = 1 by omega), if_neg (show ¬ k = 2 by omega), if_neg (show ¬ k = 3 by omega), if_neg (show ¬ k = 4 by omega), if_neg (show ¬ k = 5 by omega), if_neg (show ¬ k = 6 by omega)]; done)
    | ((repeat (first | rw [if_pos (by omega)] | rw [if_neg (by omega)])) <;> first | rfl | exact hl | exact hB.1)
  · refine x_tabIn 60 dX4_told_1 hk (by omega) (by rw [h_1]; rfl) (by decide) ?_
    refine x_aload_n dX4_told_60 rfl ?_
    refine x_getR (j := 1) dX4_told_61 gf_RX4_10 rfl rfl (hN _ _ (by decide)) ?_
    refine x_getR (j := 3) dX4_told_64 gf_RX4_90 rfl rfl (hN _ _ (by decide)) ?_
    refine x_iconst dX4_told_67 ?_
    refine x_iald (0) dX4_told_68 rfl (by omega) (show _ < 3 by omega) ?_
    refine hret _ _ _ _ _ _ dX4_told_69 rfl ?_
    refine ⟨rfl, rfl, rfl, ?_⟩
    unfold toA
    first
    | (rw [if_neg (show ¬ k = 0 by omega), if_neg (show ¬ k = 1 by omega), if_neg (show ¬ k = 2 by omega), if_neg (show ¬ k = 3 by omega), if_neg (show ¬ k = 4 by omega), if_neg (show ¬ k = 5 by omega), if_neg (show ¬ k = 6 by omega)]; done)
    | ((repeat (first | rw [if_pos (by omega)] | rw [if_neg (by omega)])) <;> first | rfl | exact hl | exact hB.1)
  · refine x_tabIn 70 dX4_told_1 hk (by omega) (by rw [h_1]; rfl) (by decide) ?_
    refine x_aload_n dX4_told_70 rfl ?_
    refine x_getR (j := 1) dX4_told_71 gf_RX4_10 rfl rfl (hN _ _ (by decide)) ?_
    refine x_getR (j := 3) dX4_told_74 gf_RX4_90 rfl rfl (hN _ _ (by decide)) ?_
    refine x_iconst dX4_told_77 ?_
    refine x_iald (1) dX4_told_78 rfl (by omega) (show _ < 3 by omega) ?_
    refine hret _ _ _ _ _ _ dX4_told_79 rfl ?_
    refine ⟨rfl, rfl, rfl, ?_⟩
    unfold toA
    first
    | (rw [if_neg (show ¬ k = 0 by omega), if_neg (show ¬ k = 1 by omega), if_neg (show ¬ k = 2 by omega), if_neg (show ¬ k = 3 by omega), if_neg (show ¬ k = 4 by omega), if_neg (show ¬ k = 5 by omega), if_neg (show ¬ k = 6 by omega)]; done)
    | ((repeat (first | rw [if_pos (by omega)] | rw [if_neg (by omega)])) <;> first | rfl | exact hl | exact hB.1)
  · refine x_tabIn 80 dX4_told_1 hk (by omega) (by rw [h_1]; rfl) (by decide) ?_
    refine x_aload_n dX4_told_80 rfl ?_
    refine x_getR (j := 1) dX4_told_81 gf_RX4_10 rfl rfl (hN _ _ (by decide)) ?_
    refine x_getR (j := 3) dX4_told_84 gf_RX4_90 rfl rfl (hN _ _ (by decide)) ?_
    refine x_iconst dX4_told_87 ?_
    refine x_iald (2) dX4_told_88 rfl (by omega) (show _ < 3 by omega) ?_
    refine hret _ _ _ _ _ _ dX4_told_89 rfl ?_
    refine ⟨rfl, rfl, rfl, ?_⟩
    unfold toA
    first
    | (rw [if_neg (show ¬ k = 0 by omega), if_neg (show ¬ k = 1 by omega), if_neg (show ¬ k = 2 by omega), if_neg (show ¬ k = 3 by omega), if_neg (show ¬ k = 4 by omega), if_neg (show ¬ k = 5 by omega), if_neg (show ¬ k = 6 by omega)]; done)
    | ((repeat (first | rw [if_pos (by omega)] | rw [if_neg (by omega)])) <;> first | rfl | exact hl | exact hB.1)
  · refine x_tabIn 90 dX4_told_1 hk (by omega) (by rw [h_1]; rfl) (by decide) ?_
    refine x_aload_n dX4_told_90 rfl ?_
    refine x_getR (j := 1) dX4_told_91 gf_RX4_10 rfl rfl (hN _ _ (by decide)) ?_
    refine x_getI dX4_told_94 gf_RX4_122 rfl rfl ?_
    refine hret _ _ _ _ _ _ dX4_told_97 rfl ?_
    refine ⟨rfl, rfl, rfl, ?_⟩
    unfold toA
    first
    | (rw [if_neg (show ¬ k = 0 by omega), if_neg (show ¬ k = 1 by omega), if_neg (show ¬ k = 2 by omega), if_neg (show ¬ k = 3 by omega), if_neg (show ¬ k = 4 by omega), if_neg (show ¬ k = 5 by omega), if_neg (show ¬ k = 6 by omega)]; done)
    | ((repeat (first | rw [if_pos (by omega)] | rw [if_neg (by omega)])) <;> first | rfl | exact hl | exact hB.1)
  · refine x_tabIn 98 dX4_told_1 hk (by omega) (by rw [h_1]; rfl) (by decide) ?_
    refine x_aload_n dX4_told_98 rfl ?_
    refine x_getR (j := 1) dX4_told_99 gf_RX4_10 rfl rfl (hN _ _ (by decide)) ?_
    refine x_getI dX4_told_102 gf_RX4_177 rfl rfl ?_
    refine hret _ _ _ _ _ _ dX4_told_105 rfl ?_
    refine ⟨rfl, rfl, rfl, ?_⟩
    unfold toA
    first
    | (rw [if_neg (show ¬ k = 0 by omega), if_neg (show ¬ k = 1 by omega), if_neg (show ¬ k = 2 by omega), if_neg (show ¬ k = 3 by omega), if_neg (show ¬ k = 4 by omega), if_neg (show ¬ k = 5 by omega), if_neg (show ¬ k = 6 by omega)]; done)
    | ((repeat (first | rw [if_pos (by omega)] | rw [if_neg (by omega)])) <;> first | rfl | exact hl | exact hB.1)
theorem sp_kindOfDraw {x : Int} (hx : inr x) : SpI G mX4_kindOfDraw .int 0 0 0 0 [vi x] K N I (qI K N I (kdD x)) := by
  refine SpI.of (own := RX4) (cc := cX4_kindOfDraw) (L := [some (vi x)]) (by decide) rfl rfl (Nat.le_of_ble_eq_true rfl) rfl (fun Fx hnm hret => ?_)
  refine x_iload_n dX4_kindOfDraw_0 rfl ?_
  rcases (show (x < 0 ∨ 3 < x) ∨ x = 0 ∨ x = 1 ∨ x = 2 ∨ x = 3 by omega) with h_1 | h_1 | h_1 | h_1 | h_1
  · refine x_tabOut 38 dX4_kindOfDraw_1 hx h_1 (by decide) ?_
    refine x_iconst dX4_kindOfDraw_38 ?_
    refine hret _ _ _ _ _ _ dX4_kindOfDraw_39 rfl ?_
    refine ⟨rfl, rfl, rfl, ?_⟩
    unfold kdD
    (repeat (first | rw [if_pos (by omega)] | rw [if_neg (by omega)]))
  · refine x_tabIn 32 dX4_kindOfDraw_1 hx (by omega) (by rw [h_1]; rfl) (by decide) ?_
    refine x_iconst dX4_kindOfDraw_32 ?_
    refine hret _ _ _ _ _ _ dX4_kindOfDraw_33 rfl ?_
    refine ⟨rfl, rfl, rfl, ?_⟩
    unfold kdD
    (repeat (first | rw [if_pos (by omega)] | rw [if_neg (by omega)]))
  · refine x_tabIn 34 dX4_kindOfDraw_1 hx (by omega) (by rw [h_1]; rfl) (by decide) ?_
    refine x_iconst dX4_kindOfDraw_34 ?_
    refine hret _ _ _ _ _ _ dX4_kindOfDraw_35 rfl ?_
    refine ⟨rfl, rfl, rfl, ?_⟩
    unfold kdD
    (repeat (first | rw [if_pos (by omega)] | rw [if_neg (by omega)]))
  · refine x_tabIn 34 dX4_kindOfDraw_1 hx (by omega) (by rw [h_1]; rfl) (by decide) ?_
    refine x_iconst dX4_kindOfDraw_34 ?_
    refine hret _ _ _ _ _ _ dX4_kindOfDraw_35 rfl ?_
    refine ⟨rfl, rfl, rfl, ?_⟩
    unfold kdD
    (repeat (first | rw [if_pos (by omega)] | rw [if_neg (by omega)]))
  · refine x_tabIn 36 dX4_kindOfDraw_1 hx (by omega) (by rw [h_1]; rfl) (by decide) ?_
    refine x_iconst dX4_kindOfDraw_36 ?_
    refine hret _ _ _ _ _ _ dX4_kindOfDraw_37 rfl ?_
    refine ⟨rfl, rfl, rfl, ?_⟩
    unfold kdD
    (repeat (first | rw [if_pos (by omega)] | rw [if_neg (by omega)]))
theorem sp_year (hN : NS N) (hB : RB I 1 n) {s d k : Int} (hs : inr s) (hd : inr d) (hk : inr k) : SpI G mX4_year .int 3 69 0 0 [.ref 0, vi s, vi d, vi k] K N I (pI K N (fun z J => z = (if (0 ≤ s ∧ s ≤ 9999) ∧ (1 ≤ d ∧ d ≤ 99) ∧ (0 ≤ k ∧ k ≤ 2) then (if k = 0 then yrP (fa I 1) (l0R I 1) n s d.toNat else if k = 1 then yrL (fa I 1) (l0R I 1) n s d.toNat else yrE (fa I 1) (l0R I 1) n s d.toNat) else -2) ∧ kpC I J)) := by
  refine SpI.of (own := RX4) (cc := cX4_year) (L := [some (.ref 0), some (vi s), some (vi d), some (vi k), none, none, none, none, none]) (by decide) rfl rfl (Nat.le_of_ble_eq_true rfl) rfl (fun Fx hnm hret => ?_)
  have hn9 := hB.2.2.1
  have lp : ∀ (m g : Nat) (z p l e x : Int) (J : MM), (g : Int) ≤ d → d < g + m → z = (g : Int) → (0 ≤ s ∧ s ≤ 9999) → (1 ≤ d ∧ d ≤ 99) → (0 ≤ k ∧ k ≤ 2) → p = yrP (fa I 1) (l0R I 1) n s g → l = yrL (fa I 1) (l0R I 1) n s g → e = yrE (fa I 1) (l0R I 1) n s g → x = yrX s g → (0 ≤ x ∧ x < 65537) → kpC I J → XX G RX4 cX4_year (RmW 3 69 0 0) Fx 47 [some (.ref 0), some (vi s), some (vi d), some (vi k), some (vi p), some (vi l), some (vi e), some (vi x), some (vi z)] [] K N J 0 0 := by
    intro m
    induction m with
    | zero => intros; exfalso; omega
    | succ m ih =>
      intro g z p l e x J h0 h1 h2 q1 q2 q3 h3 h4 h5 h6 h7 h8
      have hJ0 : J 1 0 = (n : Int) := (h8 1 0 (by unfold pcl; omega)).trans hB.1
      have hBJ : RB J 1 n := hB.of (h8 1 0 (by unfold pcl; omega)) (fa_eq (fun j => h8 2 j (by unfold pcl; omega))) (fun j hj => h8 3 j (by unfold pcl; omega))
      have hF : fa J 1 = fa I 1 := fa_eq (fun j => h8 2 j (by unfold pcl; omega))
      have hL : l0R J 1 = l0R I 1 := by funext kn; exact l0_eq (fun j => h8 3 j (by unfold pcl; omega))
      refine x_iload dX4_year_47 rfl ?_
      refine x_iload_n dX4_year_49 rfl ?_
      refine x_icmp_ge 149 dX4_year_50 (by decide) (by unfold inr; omega) (by unfold inr; omega) (fun h_50 => ?_) (fun h_50 => ?_)
      · refine x_iload_n dX4_year_149 rfl ?_
        refine x_if_ne 156 dX4_year_150 (by decide) hk (fun h_150 => ?_) (fun h_150 => ?_)
        · refine x_iload_n dX4_year_156 rfl ?_
          refine x_iconst dX4_year_157 ?_
          refine x_icmp_ne 166 dX4_year_158 (by decide) hk (by unfold inr; omega) (fun h_158 => ?_) (fun h_158 => ?_)
          · refine x_iload dX4_year_166 rfl ?_
            refine hret _ _ _ _ _ _ dX4_year_168 rfl ?_
            obtain rfl : d = (g : Int) := by omega
            refine ⟨rfl, rfl, ?_, h8⟩
            rw [if_pos ⟨q1, q2, q3⟩]
            (repeat (first | rw [if_pos (by omega)] | rw [if_neg (by omega)]))
            first | exact h3 | exact h4 | exact h5
          · refine x_iload dX4_year_161 rfl ?_
            refine x_goto 168 dX4_year_163 (by decide) ?_
            refine hret _ _ _ _ _ _ dX4_year_168 rfl ?_
            obtain rfl : d = (g : Int) := by omega
            refine ⟨rfl, rfl, ?_, h8⟩
            rw [if_pos ⟨q1, q2, q3⟩]
            (repeat (first | rw [if_pos (by omega)] | rw [if_neg (by omega)]))
            first | exact h3 | exact h4 | exact h5
        · refine x_iload dX4_year_153 rfl ?_
          refine hret _ _ _ _ _ _ dX4_year_155 rfl ?_
          obtain rfl : d = (g : Int) := by omega
          refine ⟨rfl, rfl, ?_, h8⟩
          rw [if_pos ⟨q1, q2, q3⟩]
          (repeat (first | rw [if_pos (by omega)] | rw [if_neg (by omega)]))
          first | exact h3 | exact h4 | exact h5
      · refine x_bipush dX4_year_53 (by decide) ?_
        refine x_iload dX4_year_55 rfl ?_
        refine x_imul dX4_year_57 ?_
        refine x_bipush dX4_year_58 (by decide) ?_
        refine x_iadd dX4_year_60 ?_
        refine x_ldc dX4_year_61 ct_RX4_232 ?_
        refine x_irem dX4_year_63 (by unfold inr; omega) (by unfold inr; omega) ?_
        refine x_ist7 dX4_year_64 ?_
        refine x_aload_n dX4_year_66 rfl ?_
        refine x_getR (j := 15) dX4_year_67 gf_RX4_30 rfl rfl (hN _ _ (by decide)) ?_
        refine x_aload_n dX4_year_70 rfl ?_
        refine x_getR (j := 1) dX4_year_71 gf_RX4_10 rfl rfl (hN _ _ (by decide)) ?_
        refine x_iload dX4_year_74 rfl ?_
        refine x_bipush dX4_year_76 (by decide) ?_
        refine x_irem dX4_year_78 (by unfold inr; omega) (by unfold inr; omega) ?_
        refine xf_SI1 dX4_year_79 ml_RX4_233 vw_X4_kindOfDraw st_X4_kindOfDraw (sp_kindOfDraw (by unfold inr; omega)) ⟨Nat.le_of_ble_eq_true rfl, Nat.le_of_ble_eq_true rfl, Nat.le_of_ble_eq_true rfl, Nat.le_of_ble_eq_true rfl, Nat.le_of_ble_eq_true rfl⟩ ?_
        refine xf_VV2 dX4_year_82 ml_RX4_135 vw_X2_flow vv_X2_flow rfl (sp_flow (b := 1) (c := 15) rfl rfl hN hBJ (by have := kdD_b ((75 * x + 74) % 65537 % 10); unfold inr; omega)) ⟨Nat.le_of_ble_eq_true rfl, Nat.le_of_ble_eq_true rfl, Nat.le_of_ble_eq_true rfl, Nat.le_of_ble_eq_true rfl, Nat.le_of_ble_eq_true rfl⟩ ?_
        have ex : (75 * x + 74) % 65537 = yrX s (g + 1) := by rw [h6]; rfl
        rw [ex]
        rw [show kdD (yrX s (g + 1) % 10) = yrK s g from rfl]
        generalize hJ2 : fwJ J 1 15 (yrK s g) n = J2
        have hJn : J2 1 0 = (n : Int) := by rw [← hJ2, fw_o (by omega)]; exact hJ0
        have hT : ∀ a, a < n → J2 16 a = tok (fa I 1) (yrK s g) (l0R I 1 (yrK s g)) a := fun a ha => by
          rw [← hJ2, show fwJ J 1 15 (yrK s g) n 16 a = _ from fw_t ha, hF, hL]
        have hLv : J2 15 2 = lva (fa I 1) (yrK s g) (l0R I 1 (yrK s g)) n := by rw [← hJ2, fw_l, hF, hL]
        refine x_iload dX4_year_85 rfl ?_
        refine x_aload_n dX4_year_87 rfl ?_
        refine x_getR (j := 15) dX4_year_88 gf_RX4_30 rfl rfl (hN _ _ (by decide)) ?_
        refine x_aload_n dX4_year_91 rfl ?_
        refine x_getR (j := 1) dX4_year_92 gf_RX4_10 rfl rfl (hN _ _ (by decide)) ?_
        refine x_getI dX4_year_95 gf_RX4_60 rfl rfl ?_
        refine xf_VI1 dX4_year_98 ml_RX4_236 vw_X2_sum vv_X2_sum rfl (sp_sum (c := 15) rfl hN hJn hn9) ⟨Nat.le_of_ble_eq_true rfl, Nat.le_of_ble_eq_true rfl, Nat.le_of_ble_eq_true rfl, Nat.le_of_ble_eq_true rfl, Nat.le_of_ble_eq_true rfl⟩ ?_
        rw [sumN_eq (b := tok (fa I 1) (yrK s g) (l0R I 1 (yrK s g))) n hT]
        refine x_iadd dX4_year_101 ?_
        refine x_ist4 dX4_year_102 ?_
        refine x_iload dX4_year_104 rfl ?_
        refine x_aload_n dX4_year_106 rfl ?_
        refine x_getR (j := 15) dX4_year_107 gf_RX4_30 rfl rfl (hN _ _ (by decide)) ?_
        refine x_getI dX4_year_110 gf_RX4_239 rfl rfl ?_
        rw [hLv]
        refine x_iadd dX4_year_113 ?_
        refine x_ist5 dX4_year_114 ?_
        refine x_iload dX4_year_116 rfl ?_
        refine x_aload_n dX4_year_118 rfl ?_
        refine x_getR (j := 15) dX4_year_119 gf_RX4_30 rfl rfl (hN _ _ (by decide)) ?_
        refine x_aload_n dX4_year_122 rfl ?_
        refine x_getR (j := 1) dX4_year_123 gf_RX4_10 rfl rfl (hN _ _ (by decide)) ?_
        refine x_getI dX4_year_126 gf_RX4_60 rfl rfl ?_
        refine xf_VI1 dX4_year_129 ml_RX4_242 vw_X2_someTookNothing vv_X2_someTookNothing rfl (sp_some (c := 15) rfl hN hJn hn9 (fun a ha => by rw [hT a ha]; have := tok_b (kn := yrK s g) hB ha; unfold inr; omega)) ⟨Nat.le_of_ble_eq_true rfl, Nat.le_of_ble_eq_true rfl, Nat.le_of_ble_eq_true rfl, Nat.le_of_ble_eq_true rfl, Nat.le_of_ble_eq_true rfl⟩ ?_
        rw [anyZ_eq (b := tok (fa I 1) (yrK s g) (l0R I 1 (yrK s g))) n hT]
        refine x_if_eq 139 dX4_year_132 (by decide) (by unfold inr; split <;> omega) (fun h_132 => ?_) (fun h_132 => ?_)
        · replace h_132 := b0 h_132
          refine x_iconst dX4_year_139 ?_
          refine x_iadd dX4_year_140 ?_
          refine x_ist6 dX4_year_141 ?_
          refine x_inc8 dX4_year_143 ?_
          refine x_goto 47 dX4_year_146 (by decide) ?_
          refine ih (g + 1) _ _ _ _ _ _ (by omega) (by omega) (by omega) q1 q2 q3 (by rw [h3]; rfl) (by rw [h4]; rfl) ?_ rfl ?_ ?_
          · show _ = yrE (fa I 1) (l0R I 1) n s g + (if anyZ (tok (fa I 1) (yrK s g) (l0R I 1 (yrK s g))) n = 1 then 1 else 0)
            rw [h5]
            first
            | rw [if_pos h_132]
            | rw [if_neg h_132]
          · rw [← ex]; omega
          · rw [← hJ2]; exact h8.fw (by omega)
        · replace h_132 := b1 h_132
          refine x_iconst dX4_year_135 ?_
          refine x_goto 140 dX4_year_136 (by decide) ?_
          refine x_iadd dX4_year_140 ?_
          refine x_ist6 dX4_year_141 ?_
          refine x_inc8 dX4_year_143 ?_
          refine x_goto 47 dX4_year_146 (by decide) ?_
          refine ih (g + 1) _ _ _ _ _ _ (by omega) (by omega) (by omega) q1 q2 q3 (by rw [h3]; rfl) (by rw [h4]; rfl) ?_ rfl ?_ ?_
          · show _ = yrE (fa I 1) (l0R I 1) n s g + (if anyZ (tok (fa I 1) (yrK s g) (l0R I 1 (yrK s g))) n = 1 then 1 else 0)
            rw [h5]
            first
            | rw [if_pos h_132]
            | rw [if_neg h_132]
          · rw [← ex]; omega
          · rw [← hJ2]; exact h8.fw (by omega)
  refine x_iload_n dX4_year_0 rfl ?_
  refine x_sipush dX4_year_1 (by decide) ?_
  refine xf_SI2 dX4_year_4 ml_RX4_72 vw_X4_within st_X4_within (sp_within hs (by unfold inr; omega)) ⟨Nat.le_of_ble_eq_true rfl, Nat.le_of_ble_eq_true rfl, Nat.le_of_ble_eq_true rfl, Nat.le_of_ble_eq_true rfl, Nat.le_of_ble_eq_true rfl⟩ ?_
  refine x_if_eq 29 dX4_year_7 (by decide) (by unfold inr; split <;> omega) (fun h_7 => ?_) (fun h_7 => ?_)
  · replace h_7 := b0 h_7
    refine x_bipush dX4_year_29 (by decide) ?_
    refine hret _ _ _ _ _ _ dX4_year_31 rfl ?_
    refine ⟨rfl, rfl, ?_, kpC.rf⟩
    (repeat (first | rw [if_pos (by omega)] | rw [if_neg (by omega)]))
  · replace h_7 := b1 h_7
    refine x_iload_n dX4_year_10 rfl ?_
    refine x_iconst dX4_year_11 ?_
    refine x_icmp_lt 29 dX4_year_12 (by decide) hd (by unfold inr; omega) (fun h_12 => ?_) (fun h_12 => ?_)
    · refine x_bipush dX4_year_29 (by decide) ?_
      refine hret _ _ _ _ _ _ dX4_year_31 rfl ?_
      refine ⟨rfl, rfl, ?_, kpC.rf⟩
      (repeat (first | rw [if_pos (by omega)] | rw [if_neg (by omega)]))
    · refine x_iload_n dX4_year_15 rfl ?_
      refine x_bipush dX4_year_16 (by decide) ?_
      refine x_icmp_gt 29 dX4_year_18 (by decide) hd (by unfold inr; omega) (fun h_18 => ?_) (fun h_18 => ?_)
      · refine x_bipush dX4_year_29 (by decide) ?_
        refine hret _ _ _ _ _ _ dX4_year_31 rfl ?_
        refine ⟨rfl, rfl, ?_, kpC.rf⟩
        (repeat (first | rw [if_pos (by omega)] | rw [if_neg (by omega)]))
      · refine x_iload_n dX4_year_21 rfl ?_
        refine x_iconst dX4_year_22 ?_
        refine xf_SI2 dX4_year_23 ml_RX4_72 vw_X4_within st_X4_within (sp_within hk (by unfold inr; omega)) ⟨Nat.le_of_ble_eq_true rfl, Nat.le_of_ble_eq_true rfl, Nat.le_of_ble_eq_true rfl, Nat.le_of_ble_eq_true rfl, Nat.le_of_ble_eq_true rfl⟩ ?_
        refine x_if_ne 32 dX4_year_26 (by decide) (by unfold inr; split <;> omega) (fun h_26 => ?_) (fun h_26 => ?_)
        · replace h_26 := b1 h_26
          refine x_iconst dX4_year_32 ?_
          refine x_ist4 dX4_year_33 ?_
          refine x_iconst dX4_year_35 ?_
          refine x_ist5 dX4_year_36 ?_
          refine x_iconst dX4_year_38 ?_
          refine x_ist6 dX4_year_39 ?_
          refine x_iload_n dX4_year_41 rfl ?_
          refine x_ist7 dX4_year_42 ?_
          refine x_iconst dX4_year_44 ?_
          refine x_ist8 dX4_year_45 ?_
          exact lp 100 0 _ _ _ _ _ _ (by omega) (by omega) rfl (by omega) (by omega) (by omega) rfl rfl rfl rfl (by omega) kpC.rf
        · replace h_26 := b0 h_26
          refine x_bipush dX4_year_29 (by decide) ?_
          refine hret _ _ _ _ _ _ dX4_year_31 rfl ?_
          refine ⟨rfl, rfl, ?_, kpC.rf⟩
          (repeat (first | rw [if_pos (by omega)] | rw [if_neg (by omega)]))
end FR

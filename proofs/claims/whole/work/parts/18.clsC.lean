/-! ===== SpringFarms: spring, highest, dry, fair, narrow ===== -/
def TrC (I J : MM) (n : Nat) : Prop := kpC I J ∧ J 6 0 = (n : Int) ∧ fa J 6 = fa I 1 ∧ J 8 1 = I 3 1 ∧ J 8 2 = I 3 2
theorem TrC.cp {I : MM} {n : Nat} (h : RB I 1 n) : TrC I (cpR I 1 6) n := ⟨kpC.rf.cp (by omega), by rw [cp_0 (by omega)]; exact h.1, fa_cp, cp_2 (s := 1) (d := 6) (by omega), cp_2 (s := 1) (d := 6) (by omega)⟩
theorem l0_spr {J : MM} {s : Int} (hs : 0 ≤ s) : l0R (up J 8 0 s) 6 0 = s := by
  have : up J 8 0 s (6 + 2) 0 = s := up_s
  unfold l0R; rw [this, if_neg (by decide), if_neg (by decide)]; omega
theorem RB.spr {I J : MM} {n : Nat} {s : Int} (h : RB I 1 n) (ht : TrC I J n) (hs : 0 ≤ s ∧ s ≤ 99) : RB (up J 8 0 s) 6 n := by
  obtain ⟨a1, a2, a3, a4, a5, a6, a7⟩ := h
  obtain ⟨-, b2, b3, b4, b5⟩ := ht
  refine ⟨by rw [up_n1 (by omega)]; exact b2, a2, a3, ?_, ?_, ?_, ?_⟩
  · rw [show fa (up J 8 0 s) 6 = fa J 6 from fa_eq (fun _ => up_n1 (by omega)), b3]; exact a4
  · rw [show up J 8 0 s (6 + 2) 0 = s from up_s]; exact hs
  · rw [show up J 8 0 s (6 + 2) 1 = J 8 1 from up_n2 (by omega), b4]; exact a6
  · rw [show up J 8 0 s (6 + 2) 2 = J 8 2 from up_n2 (by omega), b5]; exact a7
theorem TrC.st {I J : MM} {n : Nat} {s : Int} (ht : TrC I J n) : TrC I (fwJ (up J 8 0 s) 6 15 0 n) n := by
  obtain ⟨b1, b2, b3, b4, b5⟩ := ht
  refine ⟨(b1.upc (by omega)).fw (by omega), ?_, ?_, ?_, ?_⟩
  · rw [fw_o (by omega), up_n1 (by omega)]; exact b2
  · rw [fa_eq (I := up J 8 0 s) (fun _ => fw_o (by omega)), fa_eq (I := J) (fun _ => up_n1 (by omega))]; exact b3
  · rw [fw_o (by omega), up_n2 (by omega)]; exact b4
  · rw [fw_o (by omega), up_n2 (by omega)]; exact b5
def setP (F : Nat → Nat → Int) (n : Nat) (v : Nat → Int) : Nat → Nat → Int := fun f j => if j = 1 ∧ f < n then v f else F f j
theorem setP_0 {F : Nat → Nat → Int} {v : Nat → Int} : setP F 0 v = F := by funext f j; simp [setP]
theorem setP_st {F : Nat → Nat → Int} {v : Nat → Int} {g : Nat} : setF (setP F g v) g 1 (v g) = setP F (g + 1) v := by
  funext f j
  unfold setF setP
  by_cases h1 : f = g ∧ j = 1
  · obtain ⟨rfl, rfl⟩ := h1; simp
  · rw [if_neg h1]
    by_cases h2 : j = 1 ∧ f < g
    · rw [if_pos h2, if_pos (by omega)]
    · rw [if_neg h2, if_neg (by omega)]
theorem setP_P {F : Nat → Nat → Int} {v u : Nat → Int} {n : Nat} : setP (setP F n u) n v = setP F n v := by
  funext f j; unfold setP; split <;> rfl
def fairB (F : Nat → Nat → Int) (l0 x : Int) : Nat → Bool
  | 0 => true
  | f + 1 => fairB F l0 x f && (decide (¬ F f 4 = 0) || decide (tok F 0 l0 f = x))
theorem fairB_no {F : Nat → Nat → Int} {l0 x : Int} {f : Nat} (h : fairB F l0 x f = false) : ∀ d, fairB F l0 x (f + d) = false
  | 0 => h
  | d + 1 => by
    have := fairB_no h d
    show (fairB F l0 x (f + d) && _) = _
    rw [this]; rfl
def nwF (F : Nat → Nat → Int) (m : Int) (f : Nat) : Int := (lackF F f + m - 1) / m
def nwB (F : Nat → Nat → Int) (m : Int) : Nat → Bool
  | 0 => true
  | f + 1 => nwB F m f && decide (nwF F m f ≤ 9)
theorem nwB_no {F : Nat → Nat → Int} {m : Int} {f : Nat} (h : nwB F m f = false) : ∀ d, nwB F m (f + d) = false
  | 0 => h
  | d + 1 => by
    have := nwB_no h d
    show (nwB F m (f + d) && _) = _
    rw [this]; rfl
/-- a row of the trial that keeps to its bounds, with these facts and this spring -/
def TrF (I J : MM) (n : Nat) (F : Nat → Nat → Int) (l0 : Int) : Prop := kpC I J ∧ RB J 6 n ∧ fa J 6 = F ∧ l0R J 6 0 = l0
theorem TrF.cp {I : MM} {n : Nat} (h : RB I 1 n) : TrF I (cpR I 1 6) n (fa I 1) (l0R I 1 0) := ⟨kpC.rf.cp (by omega), h.cp, fa_cp, l0_cp⟩
theorem TrF.put {I J : MM} {n f k : Nat} {F : Nat → Nat → Int} {l0 v : Int} (h : TrF I J n F l0) (hf : f < 9 ∧ k < 7) (hv : okF k v) : TrF I (up J 7 (7 * f + k) v) n (setF F f k v) l0 := by
  obtain ⟨b1, b2, b3, b4⟩ := h
  refine ⟨b1.upc (by omega), b2.put (b := 6) hf hv, ?_, ?_⟩
  · rw [show fa (up J 7 (7 * f + k) v) 6 = _ from fa_put (b := 6) hf, b3]
  · rw [l0_eq (I := J) (fun _ => up_n1 (by omega))]; exact b4
theorem TrF.fw {I J : MM} {n : Nat} {F : Nat → Nat → Int} {l0 : Int} (h : TrF I J n F l0) : TrF I (fwJ J 6 15 0 n) n F l0 := by
  obtain ⟨b1, b2, b3, b4⟩ := h
  exact ⟨b1.fw (by omega), b2.of (fw_o (by omega)) (fa_eq (fun _ => fw_o (by omega))) (fun _ _ => fw_o (by omega)), by rw [fa_eq (I := J) (fun _ => fw_o (by omega))]; exact b3, by rw [l0_eq (I := J) (fun _ => fw_o (by omega))]; exact b4⟩
section FR
variable {G : GT} {K : List Nat} {N : NN} {I : MM} {n : Nat}
theorem sp_spring (hN : NS N) (hB : RB I 1 n) {d : Int} (hd : inr d) : SpI G mX4_spring .int 4 91 0 0 [.ref 0, vi d] K N I (pI K N (fun z J => z = (if 1 ≤ d ∧ d ≤ 24 then lsF (fun s => okAll (fa I 1) s d n) 100 0 else -2) ∧ kpC I J)) := by
  refine SpI.of (own := RX4) (cc := cX4_spring) (L := [some (.ref 0), some (vi d), none]) (by decide) rfl rfl (Nat.le_of_ble_eq_true rfl) rfl (fun Fx hnm hret => ?_)
  have hn9 := hB.2.2.1
  refine x_iload_n dX4_spring_0 rfl ?_
  refine xf_SI1 dX4_spring_1 ml_RX4_160 vw_X4_isHours st_X4_isHours (sp_isHours hd) ⟨Nat.le_of_ble_eq_true rfl, Nat.le_of_ble_eq_true rfl, Nat.le_of_ble_eq_true rfl, Nat.le_of_ble_eq_true rfl, Nat.le_of_ble_eq_true rfl⟩ ?_
  refine x_if_ne 10 dX4_spring_4 (by decide) (by unfold inr; split <;> omega) (fun h_4 => ?_) (fun h_4 => ?_)
  · replace h_4 := b1 h_4
    refine x_aload_n dX4_spring_10 rfl ?_
    refine x_getR (j := 6) dX4_spring_11 gf_RX4_16 rfl rfl (hN _ _ (by decide)) ?_
    refine x_aload_n dX4_spring_14 rfl ?_
    refine x_getR (j := 1) dX4_spring_15 gf_RX4_10 rfl rfl (hN _ _ (by decide)) ?_
    refine xf_VV1 dX4_spring_18 ml_RX4_125 vw_X3_copy vv_X3_copy rfl (sp_copy (s := 1) (d := 6) rfl rfl (by decide) hN) ⟨Nat.le_of_ble_eq_true rfl, Nat.le_of_ble_eq_true rfl, Nat.le_of_ble_eq_true rfl, Nat.le_of_ble_eq_true rfl, Nat.le_of_ble_eq_true rfl⟩ ?_
    refine x_iconst dX4_spring_21 ?_
    refine x_ist2 dX4_spring_22 ?_
    have lp : ∀ (m s : Nat) (z : Int) (J : MM), s ≤ 100 → 100 < s + m → z = (s : Int) → TrC I J n → lsF (fun s => okAll (fa I 1) s d n) 100 0 = lsF (fun s => okAll (fa I 1) s d n) (100 - s) s → XX G RX4 cX4_spring (RmW 4 91 0 0) Fx 23 [some (.ref 0), some (vi d), some (vi z)] [] K N J 0 0 := by
      intro m
      induction m with
      | zero => intros; exfalso; omega
      | succ m ih =>
        intro s z J h0 h1 h2 h3 h4
        refine x_iload_n dX4_spring_23 rfl ?_
        refine x_gets (k := 3) dX4_spring_24 fl_RX4_87 (by decide) rfl ?_
        refine x_iconst dX4_spring_27 ?_
        refine x_sald (k := 3) (0) dX4_spring_28 (by decide) rfl (by omega) (show _ < 3 by omega) ?_
        refine x_eqV (b := 99) rfl ?_
        refine x_icmp_gt 58 dX4_spring_29 (by decide) (by unfold inr; omega) (by unfold inr; omega) (fun h_29 => ?_) (fun h_29 => ?_)
        · refine x_bipush dX4_spring_58 (by decide) ?_
          refine hret _ _ _ _ _ _ dX4_spring_60 rfl ?_
          refine ⟨rfl, rfl, ?_, h3.1⟩
          obtain rfl : s = 100 := by omega
          rw [if_pos h_4, h4]; rfl
        · refine x_aload_n dX4_spring_32 rfl ?_
          refine x_getR (j := 6) dX4_spring_33 gf_RX4_16 rfl rfl (hN _ _ (by decide)) ?_
          refine x_getR (j := 8) dX4_spring_36 gf_RX4_90 rfl rfl (hN _ _ (by decide)) ?_
          refine x_iconst dX4_spring_39 ?_
          refine x_iload_n dX4_spring_40 rfl ?_
          refine x_iast (0) dX4_spring_41 rfl (by omega) (show _ < 3 by omega) ?_
          refine x_aload_n dX4_spring_42 rfl ?_
          refine x_iload_n dX4_spring_43 rfl ?_
          refine xf_VI1 dX4_spring_44 ml_RX4_163 vw_X4_allHaveIn vv_X4_allHaveIn rfl (sp_allHaveIn hN (hB.spr h3 (by omega)) h_4) ⟨Nat.le_of_ble_eq_true rfl, Nat.le_of_ble_eq_true rfl, Nat.le_of_ble_eq_true rfl, Nat.le_of_ble_eq_true rfl, Nat.le_of_ble_eq_true rfl⟩ ?_
          rw [l0_spr (by omega), show fa (up J 8 0 z) 6 = fa I 1 from (fa_eq (fun _ => up_n1 (by omega))).trans h3.2.2.1]
          refine x_if_eq 52 dX4_spring_47 (by decide) (by unfold inr; split <;> omega) (fun h_47 => ?_) (fun h_47 => ?_)
          · replace h_47 := b0 h_47
            refine x_inc2 dX4_spring_52 ?_
            refine x_goto 23 dX4_spring_55 (by decide) ?_
            refine ih (s + 1) _ _ (by omega) (by omega) (by omega) h3.st ?_
            rw [h4, lsF_st (by omega), if_neg (by rw [← h2]; exact h_47)]
          · replace h_47 := b1 h_47
            refine x_iload_n dX4_spring_50 rfl ?_
            refine hret _ _ _ _ _ _ dX4_spring_51 rfl ?_
            refine ⟨rfl, rfl, ?_, h3.st.1⟩
            rw [if_pos h_4, h4, lsF_st (by omega), if_pos (by rw [← h2]; exact h_47)]; exact h2
    exact lp 101 0 _ _ (by omega) (by omega) rfl (TrC.cp hB) rfl
  · replace h_4 := b0 h_4
    refine x_bipush dX4_spring_7 (by decide) ?_
    refine hret _ _ _ _ _ _ dX4_spring_9 rfl ?_
    refine ⟨rfl, rfl, ?_, kpC.rf⟩
    (repeat (first | rw [if_pos (by omega)] | rw [if_neg (by omega)]))
theorem sp_highest (hN : NS N) (hB : RB I 1 n) {f d : Int} (hf : inr f) (hd : inr d) : SpI G mX4_highest .int 4 91 0 0 [.ref 0, vi f, vi d] K N I (pI K N (fun z J => z = (if ¬ (0 ≤ f ∧ f < n) then -1 else if 1 ≤ d ∧ d ≤ 24 then gsF (fun h => okAll (setF (fa I 1) f.toNat 0 h) (l0R I 1 0) d n) 51 else -2) ∧ kpC I J)) := by
  refine SpI.of (own := RX4) (cc := cX4_highest) (L := [some (.ref 0), some (vi f), some (vi d), none]) (by decide) rfl rfl (Nat.le_of_ble_eq_true rfl) rfl (fun Fx hnm hret => ?_)
  have hn9 := hB.2.2.1
  refine x_aload_n dX4_highest_0 rfl ?_
  refine x_getR (j := 1) dX4_highest_1 gf_RX4_10 rfl rfl (hN _ _ (by decide)) ?_
  refine x_iload_n dX4_highest_4 rfl ?_
  refine xf_VI1 dX4_highest_5 ml_RX4_68 vw_X3_has vv_X3_has rfl (sp_has (b := 1) rfl hN hf (by rw [hB.1]; unfold inr; omega)) ⟨Nat.le_of_ble_eq_true rfl, Nat.le_of_ble_eq_true rfl, Nat.le_of_ble_eq_true rfl, Nat.le_of_ble_eq_true rfl, Nat.le_of_ble_eq_true rfl⟩ ?_
  rw [hB.1]
  refine x_if_ne 13 dX4_highest_8 (by decide) (by unfold inr; split <;> omega) (fun h_8 => ?_) (fun h_8 => ?_)
  · replace h_8 := b1 h_8
    refine x_iload_n dX4_highest_13 rfl ?_
    refine xf_SI1 dX4_highest_14 ml_RX4_160 vw_X4_isHours st_X4_isHours (sp_isHours hd) ⟨Nat.le_of_ble_eq_true rfl, Nat.le_of_ble_eq_true rfl, Nat.le_of_ble_eq_true rfl, Nat.le_of_ble_eq_true rfl, Nat.le_of_ble_eq_true rfl⟩ ?_
    refine x_if_ne 23 dX4_highest_17 (by decide) (by unfold inr; split <;> omega) (fun h_17 => ?_) (fun h_17 => ?_)
    · replace h_17 := b1 h_17
      obtain ⟨i, rfl⟩ := toN h_8.1
      refine x_aload_n dX4_highest_23 rfl ?_
      refine x_getR (j := 6) dX4_highest_24 gf_RX4_16 rfl rfl (hN _ _ (by decide)) ?_
      refine x_aload_n dX4_highest_27 rfl ?_
      refine x_getR (j := 1) dX4_highest_28 gf_RX4_10 rfl rfl (hN _ _ (by decide)) ?_
      refine xf_VV1 dX4_highest_31 ml_RX4_125 vw_X3_copy vv_X3_copy rfl (sp_copy (s := 1) (d := 6) rfl rfl (by decide) hN) ⟨Nat.le_of_ble_eq_true rfl, Nat.le_of_ble_eq_true rfl, Nat.le_of_ble_eq_true rfl, Nat.le_of_ble_eq_true rfl, Nat.le_of_ble_eq_true rfl⟩ ?_
      refine x_gets (k := 2) dX4_highest_34 fl_RX4_76 (by decide) rfl ?_
      refine x_iconst dX4_highest_37 ?_
      refine x_sald (k := 2) (0) dX4_highest_38 (by decide) rfl (by omega) (show _ < 7 by omega) ?_
      refine x_eqV (b := 50) rfl ?_
      refine x_ist3 dX4_highest_39 ?_
      have lp : ∀ (k : Nat) (z : Int) (J : MM) (F : Nat → Nat → Int), k ≤ 51 → z = (k : Int) - 1 → TrF I J n F (l0R I 1 0) → (∀ h, setF F i 0 h = setF (fa I 1) i 0 h) → gsF (fun h => okAll (setF (fa I 1) i 0 h) (l0R I 1 0) d n) 51 = gsF (fun h => okAll (setF (fa I 1) i 0 h) (l0R I 1 0) d n) k → XX G RX4 cX4_highest (RmW 4 91 0 0) Fx 40 [some (.ref 0), some (vi i), some (vi d), some (vi z)] [] K N J 0 0 := by
        intro k
        induction k with
        | zero =>
          intro z J F h1 h2 h3 h4 h5
          refine x_iload_n dX4_highest_40 rfl ?_
          refine x_if_lt 70 dX4_highest_41 (by decide) (by unfold inr; omega) (fun h_41 => ?_) (fun h_41 => ?_)
          · refine x_bipush dX4_highest_70 (by decide) ?_
            refine hret _ _ _ _ _ _ dX4_highest_72 rfl ?_
            refine ⟨rfl, rfl, ?_, h3.1⟩
            rw [if_neg (by omega), if_pos h_17]
            exact h5.symm
          · exfalso; omega
        | succ k ih =>
          intro z J F h1 h2 h3 h4 h5
          refine x_iload_n dX4_highest_40 rfl ?_
          refine x_if_lt 70 dX4_highest_41 (by decide) (by unfold inr; omega) (fun h_41 => ?_) (fun h_41 => ?_)
          · exfalso; omega
          · refine x_aload_n dX4_highest_44 rfl ?_
            refine x_getR (j := 6) dX4_highest_45 gf_RX4_16 rfl rfl (hN _ _ (by decide)) ?_
            refine x_iload_n dX4_highest_48 rfl ?_
            refine x_iconst dX4_highest_49 ?_
            refine x_iload_n dX4_highest_50 rfl ?_
            refine xf_VV3 dX4_highest_51 ml_RX4_83 vw_X3_put vv_X3_put rfl (sp_put (b := 6) rfl hN i 0 rfl rfl (by omega)) ⟨Nat.le_of_ble_eq_true rfl, Nat.le_of_ble_eq_true rfl, Nat.le_of_ble_eq_true rfl, Nat.le_of_ble_eq_true rfl, Nat.le_of_ble_eq_true rfl⟩ ?_
            have h6 := h3.put (f := i) (k := 0) (v := z) (by omega) (by unfold okF; omega)
            rw [h4] at h6
            refine x_aload_n dX4_highest_54 rfl ?_
            refine x_iload_n dX4_highest_55 rfl ?_
            refine xf_VI1 dX4_highest_56 ml_RX4_163 vw_X4_allHaveIn vv_X4_allHaveIn rfl (sp_allHaveIn hN h6.2.1 h_17) ⟨Nat.le_of_ble_eq_true rfl, Nat.le_of_ble_eq_true rfl, Nat.le_of_ble_eq_true rfl, Nat.le_of_ble_eq_true rfl, Nat.le_of_ble_eq_true rfl⟩ ?_
            rw [h6.2.2.1, h6.2.2.2]
            refine x_if_eq 64 dX4_highest_59 (by decide) (by unfold inr; split <;> omega) (fun h_59 => ?_) (fun h_59 => ?_)
            · replace h_59 := b0 h_59
              refine x_inc3 dX4_highest_64 ?_
              refine x_goto 40 dX4_highest_67 (by decide) ?_
              refine ih _ _ _ (by omega) (by omega) h6.fw (fun h => setF_s) ?_
              rw [h5]
              show (if okAll (setF (fa I 1) i 0 (k : Int)) (l0R I 1 0) d n = true then _ else _) = _
              rw [if_neg (by rw [show (k : Int) = z by omega]; exact h_59)]
            · replace h_59 := b1 h_59
              refine x_iload_n dX4_highest_62 rfl ?_
              refine hret _ _ _ _ _ _ dX4_highest_63 rfl ?_
              refine ⟨rfl, rfl, ?_, h6.fw.1⟩
              rw [if_neg (by omega), if_pos h_17]
              refine Eq.trans ?_ h5.symm
              show z = (if okAll (setF (fa I 1) i 0 (k : Int)) (l0R I 1 0) d n = true then (k : Int) else _)
              rw [if_pos (by rw [show (k : Int) = z by omega]; exact h_59)]; omega
      exact lp 51 _ _ _ (by omega) (by omega) (TrF.cp hB) (fun h => rfl) rfl
    · replace h_17 := b0 h_17
      refine x_bipush dX4_highest_20 (by decide) ?_
      refine hret _ _ _ _ _ _ dX4_highest_22 rfl ?_
      refine ⟨rfl, rfl, ?_, kpC.rf⟩
      (repeat (first | rw [if_pos (by omega)] | rw [if_neg (by omega)]))
  · replace h_8 := b0 h_8
    refine x_iconst dX4_highest_11 ?_
    refine hret _ _ _ _ _ _ dX4_highest_12 rfl ?_
    refine ⟨rfl, rfl, ?_, kpC.rf⟩
    (repeat (first | rw [if_pos (by omega)] | rw [if_neg (by omega)]))
theorem sp_dry (hN : NS N) (hB : RB I 1 n) {d : Int} (hd : inr d) : SpI G mX4_dry .int 3 69 0 0 [.ref 0, vi d] K N I (pI K N (fun z J => z = (if 0 ≤ d ∧ d ≤ 99 then lsF (fun g => decide (tok (fa I 1) 0 (max 0 (I 3 0 - d)) g < tok (fa I 1) 0 (l0R I 1 0) g)) n 0 else -2) ∧ kpC I J)) := by
  refine SpI.of (own := RX4) (cc := cX4_dry) (L := [some (.ref 0), some (vi d), none]) (by decide) rfl rfl (Nat.le_of_ble_eq_true rfl) rfl (fun Fx hnm hret => ?_)
  have hn9 := hB.2.2.1
  have hs0 : 0 ≤ I 3 0 ∧ I 3 0 ≤ 99 := hB.2.2.2.2.1
  refine x_iload_n dX4_dry_0 rfl ?_
  refine x_gets (k := 3) dX4_dry_1 fl_RX4_87 (by decide) rfl ?_
  refine x_iconst dX4_dry_4 ?_
  refine x_sald (k := 3) (0) dX4_dry_5 (by decide) rfl (by omega) (show _ < 3 by omega) ?_
  refine x_eqV (b := 99) rfl ?_
  refine xf_SI2 dX4_dry_6 ml_RX4_72 vw_X4_within st_X4_within (sp_within hd (by unfold inr; omega)) ⟨Nat.le_of_ble_eq_true rfl, Nat.le_of_ble_eq_true rfl, Nat.le_of_ble_eq_true rfl, Nat.le_of_ble_eq_true rfl, Nat.le_of_ble_eq_true rfl⟩ ?_
  refine x_if_ne 15 dX4_dry_9 (by decide) (by unfold inr; split <;> omega) (fun h_9 => ?_) (fun h_9 => ?_)
  · replace h_9 := b1 h_9
    refine x_aload_n dX4_dry_15 rfl ?_
    refine x_getR (j := 12) dX4_dry_16 gf_RX4_26 rfl rfl (hN _ _ (by decide)) ?_
    refine x_aload_n dX4_dry_19 rfl ?_
    refine x_getR (j := 1) dX4_dry_20 gf_RX4_10 rfl rfl (hN _ _ (by decide)) ?_
    refine x_iconst dX4_dry_23 ?_
    refine xf_VV2 dX4_dry_24 ml_RX4_135 vw_X2_flow vv_X2_flow rfl (sp_flow (b := 1) (c := 12) rfl rfl hN hB (by unfold inr; omega)) ⟨Nat.le_of_ble_eq_true rfl, Nat.le_of_ble_eq_true rfl, Nat.le_of_ble_eq_true rfl, Nat.le_of_ble_eq_true rfl, Nat.le_of_ble_eq_true rfl⟩ ?_
    refine x_aload_n dX4_dry_27 rfl ?_
    refine x_getR (j := 6) dX4_dry_28 gf_RX4_16 rfl rfl (hN _ _ (by decide)) ?_
    refine x_aload_n dX4_dry_31 rfl ?_
    refine x_getR (j := 1) dX4_dry_32 gf_RX4_10 rfl rfl (hN _ _ (by decide)) ?_
    refine xf_VV1 dX4_dry_35 ml_RX4_125 vw_X3_copy vv_X3_copy rfl (sp_copy (s := 1) (d := 6) rfl rfl (by decide) hN) ⟨Nat.le_of_ble_eq_true rfl, Nat.le_of_ble_eq_true rfl, Nat.le_of_ble_eq_true rfl, Nat.le_of_ble_eq_true rfl, Nat.le_of_ble_eq_true rfl⟩ ?_
    refine x_aload_n dX4_dry_38 rfl ?_
    refine x_getR (j := 6) dX4_dry_39 gf_RX4_16 rfl rfl (hN _ _ (by decide)) ?_
    refine x_getR (j := 8) dX4_dry_42 gf_RX4_90 rfl rfl (hN _ _ (by decide)) ?_
    refine x_iconst dX4_dry_45 ?_
    refine x_iconst dX4_dry_46 ?_
    refine x_aload_n dX4_dry_47 rfl ?_
    refine x_getR (j := 1) dX4_dry_48 gf_RX4_10 rfl rfl (hN _ _ (by decide)) ?_
    refine x_getR (j := 3) dX4_dry_51 gf_RX4_90 rfl rfl (hN _ _ (by decide)) ?_
    refine x_iconst dX4_dry_54 ?_
    refine x_iald (0) dX4_dry_55 rfl (by omega) (show _ < 3 by omega) ?_
    refine x_iload_n dX4_dry_56 rfl ?_
    refine x_isub dX4_dry_57 ?_
    refine x_max dX4_dry_58 ml_RX4_155 st_mmax ini_java_lang_Math cd_mmax (by unfold inr; omega) (by rw [cp_o (by omega), fw_o (by omega)]; unfold inr; omega) ⟨Nat.le_of_ble_eq_true rfl, Nat.le_of_ble_eq_true rfl, Nat.le_of_ble_eq_true rfl, Nat.le_of_ble_eq_true rfl⟩ ?_
    refine x_iast (0) dX4_dry_61 rfl (by omega) (show _ < 3 by omega) ?_
    have hB1 : RB (fwJ I 1 12 0 n) 1 n := hB.of (fw_o (by omega)) (fa_eq (fun _ => fw_o (by omega))) (fun _ _ => fw_o (by omega))
    have hT := TrC.cp hB1
    have e0 : cpR (fwJ I 1 12 0 n) 1 6 3 0 = I 3 0 := by rw [cp_o (by omega), fw_o (by omega)]
    rw [e0]
    have hB2 := hB1.spr hT (s := max 0 (I 3 0 - d)) (by omega)
    refine x_aload_n dX4_dry_62 rfl ?_
    refine x_getR (j := 15) dX4_dry_63 gf_RX4_30 rfl rfl (hN _ _ (by decide)) ?_
    refine x_aload_n dX4_dry_66 rfl ?_
    refine x_getR (j := 6) dX4_dry_67 gf_RX4_16 rfl rfl (hN _ _ (by decide)) ?_
    refine x_iconst dX4_dry_70 ?_
    refine xf_VV2 dX4_dry_71 ml_RX4_135 vw_X2_flow vv_X2_flow rfl (sp_flow (b := 6) (c := 15) rfl rfl hN hB2 (by unfold inr; omega)) ⟨Nat.le_of_ble_eq_true rfl, Nat.le_of_ble_eq_true rfl, Nat.le_of_ble_eq_true rfl, Nat.le_of_ble_eq_true rfl, Nat.le_of_ble_eq_true rfl⟩ ?_
    refine x_iconst dX4_dry_74 ?_
    refine x_ist2 dX4_dry_75 ?_
    generalize hJ : fwJ (up (cpR (fwJ I 1 12 0 n) 1 6) 8 0 (max 0 (I 3 0 - d))) 6 15 0 n = J
    have hk : kpC I J := by rw [← hJ]; exact (((kpC.rf.fw (by omega)).cp (by omega)).upc (by omega)).fw (by omega)
    have hJ0 : J 1 0 = (n : Int) := (hk 1 0 (by unfold pcl; omega)).trans hB.1
    have hA : ∀ g, g < n → J 13 g = tok (fa I 1) 0 (l0R I 1 0) g := fun g hg => by
      rw [← hJ, fw_o (by omega), up_n1 (by omega), cp_o (by omega)]; exact fw_t hg
    have eF : fa (up (cpR (fwJ I 1 12 0 n) 1 6) 8 0 (max 0 (I 3 0 - d))) 6 = fa I 1 := by
      rw [fa_eq (I := cpR (fwJ I 1 12 0 n) 1 6) (fun _ => up_n1 (by omega)), fa_cp, fa_eq (I := I) (fun _ => fw_o (by omega))]
    have hT2 : ∀ g, g < n → J 16 g = tok (fa I 1) 0 (max 0 (I 3 0 - d)) g := fun g hg => by
      rw [← hJ, show fwJ _ 6 15 0 n 16 g = _ from fw_t hg, eF, l0_spr (by omega)]
    have bA : ∀ g, g < n → inr (J 13 g) := fun g hg => by rw [hA g hg]; have := tok_b (kn := 0) hB hg; unfold inr; omega
    have bT : ∀ g, g < n → inr (J 16 g) := fun g hg => by
      have h := tok_b (kn := 0) hB2 hg
      rw [eF, l0_spr (by omega)] at h
      rw [hT2 g hg]; unfold inr; omega
    have lp : ∀ (m : Nat) (g : Nat) (z : Int), g ≤ n → n < g + m → z = (g : Int) → lsF (fun g => decide (tok (fa I 1) 0 (max 0 (I 3 0 - d)) g < tok (fa I 1) 0 (l0R I 1 0) g)) n 0 = lsF (fun g => decide (tok (fa I 1) 0 (max 0 (I 3 0 - d)) g < tok (fa I 1) 0 (l0R I 1 0) g)) (n - g) g → XX G RX4 cX4_dry (RmW 3 69 0 0) Fx 76 [some (.ref 0), some (vi d), some (vi z)] [] K N J 0 0 := by
      intro m
      induction m with
      | zero => intros; exfalso; omega
      | succ m ih =>
        intro g z h0 h1 h2 h3
        refine x_iload_n dX4_dry_76 rfl ?_
        refine x_aload_n dX4_dry_77 rfl ?_
        refine x_getR (j := 1) dX4_dry_78 gf_RX4_10 rfl rfl (hN _ _ (by decide)) ?_
        refine x_getI dX4_dry_81 gf_RX4_60 rfl rfl ?_
        rw [hJ0]
        refine x_icmp_ge 116 dX4_dry_84 (by decide) (by unfold inr; omega) (by unfold inr; omega) (fun h_84 => ?_) (fun h_84 => ?_)
        · refine x_bipush dX4_dry_116 (by decide) ?_
          refine hret _ _ _ _ _ _ dX4_dry_118 rfl ?_
          obtain rfl : g = n := by omega
          refine ⟨rfl, rfl, ?_, hk⟩
          rw [if_pos h_9, h3, Nat.sub_self]; rfl
        · refine x_aload_n dX4_dry_87 rfl ?_
          refine x_getR (j := 15) dX4_dry_88 gf_RX4_30 rfl rfl (hN _ _ (by decide)) ?_
          refine x_getR (j := 16) dX4_dry_91 gf_RX4_139 rfl rfl (hN _ _ (by decide)) ?_
          refine x_iload_n dX4_dry_94 rfl ?_
          refine x_iald (g) dX4_dry_95 rfl h2 (show _ < 9 by omega) ?_
          refine x_aload_n dX4_dry_96 rfl ?_
          refine x_getR (j := 12) dX4_dry_97 gf_RX4_26 rfl rfl (hN _ _ (by decide)) ?_
          refine x_getR (j := 13) dX4_dry_100 gf_RX4_139 rfl rfl (hN _ _ (by decide)) ?_
          refine x_iload_n dX4_dry_103 rfl ?_
          refine x_iald (g) dX4_dry_104 rfl h2 (show _ < 9 by omega) ?_
          refine x_icmp_ge 110 dX4_dry_105 (by decide) (bT g (by omega)) (bA g (by omega)) (fun h_105 => ?_) (fun h_105 => ?_)
          · refine x_inc2 dX4_dry_110 ?_
            refine x_goto 76 dX4_dry_113 (by decide) ?_
            rw [hA g (by omega), hT2 g (by omega)] at h_105
            refine ih (g + 1) _ (by omega) (by omega) (by omega) ?_
            rw [h3, lsF_st (by omega), if_neg (by rw [decide_eq_true_iff]; omega)]
          · refine x_iload_n dX4_dry_108 rfl ?_
            refine hret _ _ _ _ _ _ dX4_dry_109 rfl ?_
            rw [hA g (by omega), hT2 g (by omega)] at h_105
            refine ⟨rfl, rfl, ?_, hk⟩
            rw [if_pos h_9, h3, lsF_st (by omega), if_pos (by rw [decide_eq_true_iff]; omega)]; exact h2
    exact lp (n + 1) 0 _ (by omega) (by omega) rfl rfl
  · replace h_9 := b0 h_9
    refine x_bipush dX4_dry_12 (by decide) ?_
    refine hret _ _ _ _ _ _ dX4_dry_14 rfl ?_
    refine ⟨rfl, rfl, ?_, kpC.rf⟩
    (repeat (first | rw [if_pos (by omega)] | rw [if_neg (by omega)]))
theorem sp_isFair (hN : NS N) {J0 : MM} {F : Nat → Nat → Int} {l0 : Int} (hT : TrF I J0 n F l0) {x : Int} (hx : 0 ≤ x ∧ x ≤ 9) : SpI G mX4_isFair .boolean 3 69 0 0 [.ref 0, vi x] K N J0 (pI K N (fun z J => z = (if fairB (setP F n (fun _ => x)) l0 x n = true then 1 else 0) ∧ TrF I J n (setP F n (fun _ => x)) l0)) := by
  refine SpI.of (own := RX4) (cc := cX4_isFair) (L := [some (.ref 0), some (vi x), none]) (by decide) rfl rfl (Nat.le_of_ble_eq_true rfl) rfl (fun Fx hnm hret => ?_)
  have hn9 := hT.2.1.2.2.1
  have lp2 : ∀ (m g : Nat) (z : Int) (J : MM), g ≤ n → n < g + m → z = (g : Int) → TrF I J n (setP F n (fun _ => x)) l0 → (∀ g, g < n → J 16 g = tok (setP F n (fun _ => x)) 0 l0 g) → fairB (setP F n (fun _ => x)) l0 x g = true → XX G RX4 cX4_isFair (RmW 3 69 0 0) Fx 43 [some (.ref 0), some (vi x), some (vi z)] [] K N J 0 0 := by
    intro m
    induction m with
    | zero => intros; exfalso; omega
    | succ m ih =>
      intro g z J h0 h1 h2 h3 h4 h5
      have hJ0 := h3.2.1.1
      have bF : g < n → _ := h3.2.1.2.2.2.1 g
      have bT : g < n → inr (J 16 g) := fun hg => by
        have h := tok_b (kn := 0) h3.2.1 hg
        rw [h3.2.2.1, h3.2.2.2] at h
        rw [h4 g hg]; unfold inr; omega
      refine x_iload_n dX4_isFair_43 rfl ?_
      refine x_aload_n dX4_isFair_44 rfl ?_
      refine x_getR (j := 6) dX4_isFair_45 gf_RX4_16 rfl rfl (hN _ _ (by decide)) ?_
      refine x_getI dX4_isFair_48 gf_RX4_60 rfl rfl ?_
      rw [hJ0]
      refine x_icmp_ge 87 dX4_isFair_51 (by decide) (by unfold inr; omega) (by unfold inr; omega) (fun h_51 => ?_) (fun h_51 => ?_)
      · refine x_iconst dX4_isFair_87 ?_
        refine hret _ _ _ _ _ _ dX4_isFair_88 rfl ?_
        obtain rfl : g = n := by omega
        exact ⟨rfl, rfl, by rw [if_pos h5], h3⟩
      · refine x_aload_n dX4_isFair_54 rfl ?_
        refine x_getR (j := 6) dX4_isFair_55 gf_RX4_16 rfl rfl (hN _ _ (by decide)) ?_
        refine x_iload_n dX4_isFair_58 rfl ?_
        refine x_iconst dX4_isFair_59 ?_
        refine xf_VI2 dX4_isFair_60 ml_RX4_79 vw_X3_fact vv_X3_fact rfl (sp_fact (b := 6) rfl hN g 4 h2 rfl (by omega)) ⟨Nat.le_of_ble_eq_true rfl, Nat.le_of_ble_eq_true rfl, Nat.le_of_ble_eq_true rfl, Nat.le_of_ble_eq_true rfl, Nat.le_of_ble_eq_true rfl⟩ ?_
        refine x_if_ne 81 dX4_isFair_63 (by decide) (by have := bF (by omega); unfold inr; omega) (fun h_63 => ?_) (fun h_63 => ?_)
        · refine x_inc2 dX4_isFair_81 ?_
          refine x_goto 43 dX4_isFair_84 (by decide) ?_
          refine ih (g + 1) _ _ (by omega) (by omega) (by omega) h3 h4 ?_
          show (fairB (setP F n (fun _ => x)) l0 x g && (decide (¬ setP F n (fun _ => x) g 4 = 0) || decide (tok (setP F n (fun _ => x)) 0 l0 g = x))) = true
          rw [h3.2.2.1] at h_63
          first
          | (rw [h4 g (by omega)] at h_76; simp [h5, h_76])
          | simp [h5, h_63]
        · refine x_aload_n dX4_isFair_66 rfl ?_
          refine x_getR (j := 15) dX4_isFair_67 gf_RX4_30 rfl rfl (hN _ _ (by decide)) ?_
          refine x_getR (j := 16) dX4_isFair_70 gf_RX4_139 rfl rfl (hN _ _ (by decide)) ?_
          refine x_iload_n dX4_isFair_73 rfl ?_
          refine x_iald (g) dX4_isFair_74 rfl h2 (show _ < 9 by omega) ?_
          refine x_iload_n dX4_isFair_75 rfl ?_
          refine x_icmp_eq 81 dX4_isFair_76 (by decide) (bT (by omega)) (by unfold inr; omega) (fun h_76 => ?_) (fun h_76 => ?_)
          · refine x_inc2 dX4_isFair_81 ?_
            refine x_goto 43 dX4_isFair_84 (by decide) ?_
            refine ih (g + 1) _ _ (by omega) (by omega) (by omega) h3 h4 ?_
            show (fairB (setP F n (fun _ => x)) l0 x g && (decide (¬ setP F n (fun _ => x) g 4 = 0) || decide (tok (setP F n (fun _ => x)) 0 l0 g = x))) = true
            rw [h3.2.2.1] at h_63
            first
            | (rw [h4 g (by omega)] at h_76; simp [h5, h_76])
            | simp [h5, h_63]
          · refine x_iconst dX4_isFair_79 ?_
            refine hret _ _ _ _ _ _ dX4_isFair_80 rfl ?_
            rw [h3.2.2.1] at h_63
            rw [h4 g (by omega)] at h_76
            have e : fairB (setP F n (fun _ => x)) l0 x (g + 1) = false := by
              show (fairB (setP F n (fun _ => x)) l0 x g && (decide (¬ setP F n (fun _ => x) g 4 = 0) || decide (tok (setP F n (fun _ => x)) 0 l0 g = x))) = false
              simp [h_63, h_76]
            obtain ⟨q, hq⟩ : ∃ q, n = (g + 1) + q := ⟨n - (g + 1), by omega⟩
            exact ⟨rfl, rfl, by rw [if_neg (by have e2 := fairB_no e q; rw [← hq] at e2; rw [e2]; decide)], h3⟩
  have lp : ∀ (m : Nat) (g : Nat) (z : Int) (J : MM), g ≤ n → n < g + m → z = (g : Int) → TrF I J n (setP F g (fun _ => x)) l0 → XX G RX4 cX4_isFair (RmW 3 69 0 0) Fx 2 [some (.ref 0), some (vi x), some (vi z)] [] K N J 0 0 := by
    intro m
    induction m with
    | zero => intros; exfalso; omega
    | succ m ih =>
      intro g z J h0 h1 h2 h3
      have hJ0 := h3.2.1.1
      refine x_iload_n dX4_isFair_2 rfl ?_
      refine x_aload_n dX4_isFair_3 rfl ?_
      refine x_getR (j := 6) dX4_isFair_4 gf_RX4_16 rfl rfl (hN _ _ (by decide)) ?_
      refine x_getI dX4_isFair_7 gf_RX4_60 rfl rfl ?_
      rw [hJ0]
      refine x_icmp_ge 29 dX4_isFair_10 (by decide) (by unfold inr; omega) (by unfold inr; omega) (fun h_10 => ?_) (fun h_10 => ?_)
      · obtain rfl : g = n := by omega
        refine x_aload_n dX4_isFair_29 rfl ?_
        refine x_getR (j := 15) dX4_isFair_30 gf_RX4_30 rfl rfl (hN _ _ (by decide)) ?_
        refine x_aload_n dX4_isFair_33 rfl ?_
        refine x_getR (j := 6) dX4_isFair_34 gf_RX4_16 rfl rfl (hN _ _ (by decide)) ?_
        refine x_iconst dX4_isFair_37 ?_
        refine xf_VV2 dX4_isFair_38 ml_RX4_135 vw_X2_flow vv_X2_flow rfl (sp_flow (b := 6) (c := 15) rfl rfl hN h3.2.1 (by unfold inr; omega)) ⟨Nat.le_of_ble_eq_true rfl, Nat.le_of_ble_eq_true rfl, Nat.le_of_ble_eq_true rfl, Nat.le_of_ble_eq_true rfl, Nat.le_of_ble_eq_true rfl⟩ ?_
        refine x_iconst dX4_isFair_41 ?_
        refine x_ist2 dX4_isFair_42 ?_
        refine lp2 (g + 1) 0 _ _ (by omega) (by omega) rfl h3.fw (fun a ha => ?_) rfl
        rw [show fwJ J 6 15 0 g 16 a = _ from fw_t ha, h3.2.2.1, h3.2.2.2]
      · refine x_aload_n dX4_isFair_13 rfl ?_
        refine x_getR (j := 6) dX4_isFair_14 gf_RX4_16 rfl rfl (hN _ _ (by decide)) ?_
        refine x_iload_n dX4_isFair_17 rfl ?_
        refine x_iconst dX4_isFair_18 ?_
        refine x_iload_n dX4_isFair_19 rfl ?_
        refine xf_VV3 dX4_isFair_20 ml_RX4_83 vw_X3_put vv_X3_put rfl (sp_put (b := 6) rfl hN g 1 h2 rfl (by omega)) ⟨Nat.le_of_ble_eq_true rfl, Nat.le_of_ble_eq_true rfl, Nat.le_of_ble_eq_true rfl, Nat.le_of_ble_eq_true rfl, Nat.le_of_ble_eq_true rfl⟩ ?_
        refine x_inc2 dX4_isFair_23 ?_
        refine x_goto 2 dX4_isFair_26 (by decide) ?_
        have h4 := h3.put (f := g) (k := 1) (v := x) (by omega) (by unfold okF; omega)
        rw [show setF (setP F g (fun _ => x)) g 1 x = _ from setP_st (v := fun _ => x)] at h4
        exact ih (g + 1) _ _ (by omega) (by omega) (by omega) h4
  refine x_iconst dX4_isFair_0 ?_
  refine x_ist2 dX4_isFair_1 ?_
  exact lp (n + 1) 0 _ _ (by omega) (by omega) rfl (by rw [setP_0]; exact hT)
theorem sp_fair (hN : NS N) (hB : RB I 1 n) : SpI G mX4_fair .int 4 91 0 0 [.ref 0] K N I (pI K N (fun z J => z = gs1 (fun x => fairB (setP (fa I 1) n (fun _ => (x : Int))) (l0R I 1 0) x n) 9 ∧ kpC I J)) := by
  refine SpI.of (own := RX4) (cc := cX4_fair) (L := [some (.ref 0), none]) (by decide) rfl rfl (Nat.le_of_ble_eq_true rfl) rfl (fun Fx hnm hret => ?_)
  have lp : ∀ (k : Nat) (z : Int) (J : MM) (F : Nat → Nat → Int), k ≤ 9 → z = (k : Int) → TrF I J n F (l0R I 1 0) → (∀ v : Nat → Int, setP F n v = setP (fa I 1) n v) → gs1 (fun x => fairB (setP (fa I 1) n (fun _ => (x : Int))) (l0R I 1 0) x n) 9 = gs1 (fun x => fairB (setP (fa I 1) n (fun _ => (x : Int))) (l0R I 1 0) x n) k → XX G RX4 cX4_fair (RmW 4 91 0 0) Fx 17 [some (.ref 0), some (vi z)] [] K N J 0 0 := by
    intro k
    induction k with
    | zero =>
      intro z J F h1 h2 h3 h4 h5
      refine x_iload_n dX4_fair_17 rfl ?_
      refine x_if_le 37 dX4_fair_18 (by decide) (by unfold inr; omega) (fun h_18 => ?_) (fun h_18 => ?_)
      · refine x_iconst dX4_fair_37 ?_
        refine hret _ _ _ _ _ _ dX4_fair_38 rfl ?_
        exact ⟨rfl, rfl, h5.symm, h3.1⟩
      · exfalso; omega
    | succ k ih =>
      intro z J F h1 h2 h3 h4 h5
      refine x_iload_n dX4_fair_17 rfl ?_
      refine x_if_le 37 dX4_fair_18 (by decide) (by unfold inr; omega) (fun h_18 => ?_) (fun h_18 => ?_)
      · exfalso; omega
      · refine x_aload_n dX4_fair_21 rfl ?_
        refine x_iload_n dX4_fair_22 rfl ?_
        refine xp_VI1 dX4_fair_23 ml_RX4_170 vw_X4_isFair vv_X4_isFair rfl (sp_isFair hN h3 (by omega)) ⟨Nat.le_of_ble_eq_true rfl, Nat.le_of_ble_eq_true rfl, Nat.le_of_ble_eq_true rfl, Nat.le_of_ble_eq_true rfl, Nat.le_of_ble_eq_true rfl⟩ (fun z1 I1 hq => ?_)
        obtain ⟨rfl, h6⟩ := hq
        rw [h4] at h6 ⊢
        rw [h2] at h6 ⊢
        refine x_if_eq 31 dX4_fair_26 (by decide) (by unfold inr; split <;> omega) (fun h_26 => ?_) (fun h_26 => ?_)
        · replace h_26 := b0 h_26
          refine x_inc1 dX4_fair_31 ?_
          refine x_goto 17 dX4_fair_34 (by decide) ?_
          refine ih _ _ _ (by omega) (by omega) h6 (fun v => setP_P) ?_
          rw [h5]
          show (if fairB (setP (fa I 1) n (fun _ => ((k + 1 : Nat) : Int))) (l0R I 1 0) ((k + 1 : Nat) : Int) n = true then _ else _) = _
          rw [if_neg h_26]
        · replace h_26 := b1 h_26
          refine x_iload_n dX4_fair_29 rfl ?_
          refine hret _ _ _ _ _ _ dX4_fair_30 rfl ?_
          refine ⟨rfl, rfl, Eq.trans ?_ h5.symm, h6.1⟩
          show _ = (if fairB (setP (fa I 1) n (fun _ => ((k + 1 : Nat) : Int))) (l0R I 1 0) ((k + 1 : Nat) : Int) n = true then ((k + 1 : Nat) : Int) else _)
          rw [if_pos h_26]
  refine x_aload_n dX4_fair_0 rfl ?_
  refine x_getR (j := 6) dX4_fair_1 gf_RX4_16 rfl rfl (hN _ _ (by decide)) ?_
  refine x_aload_n dX4_fair_4 rfl ?_
  refine x_getR (j := 1) dX4_fair_5 gf_RX4_10 rfl rfl (hN _ _ (by decide)) ?_
  refine xf_VV1 dX4_fair_8 ml_RX4_125 vw_X3_copy vv_X3_copy rfl (sp_copy (s := 1) (d := 6) rfl rfl (by decide) hN) ⟨Nat.le_of_ble_eq_true rfl, Nat.le_of_ble_eq_true rfl, Nat.le_of_ble_eq_true rfl, Nat.le_of_ble_eq_true rfl, Nat.le_of_ble_eq_true rfl⟩ ?_
  refine x_gets (k := 2) dX4_fair_11 fl_RX4_76 (by decide) rfl ?_
  refine x_iconst dX4_fair_14 ?_
  refine x_sald (k := 2) (1) dX4_fair_15 (by decide) rfl (by omega) (show _ < 7 by omega) ?_
  refine x_eqV (b := 9) rfl ?_
  refine x_ist1 dX4_fair_16 ?_
  exact lp 9 _ _ _ (by omega) rfl (TrF.cp hB) (fun v => rfl) rfl
end FR

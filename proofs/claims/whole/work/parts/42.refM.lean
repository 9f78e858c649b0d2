/-! ===== the reference: an hour passes, who has enough, a deed ===== -/
theorem ke_st {F : FT} {kn l0 : Int} {f : Nat} : setF (keF F kn l0 f) f 6 (F f 6 + tok F kn l0 f) = keF F kn l0 (f + 1) := by
  funext g j
  unfold setF keF
  by_cases h : g = f ∧ j = 6
  · rw [if_pos h, if_pos ⟨h.2, by omega⟩, h.1]
  · rw [if_neg h]
    by_cases h2 : j = 6 ∧ g < f
    · rw [if_pos h2, if_pos ⟨h2.1, by omega⟩]
    · rw [if_neg h2, if_neg (by omega)]
theorem ke_0 {F : FT} {kn l0 : Int} : keF F kn l0 0 = F := by
  funext g j; unfold keF; rw [if_neg (by omega)]
theorem setF_eq {F : FT} {f k : Nat} {v : Int} (h : v = F f k) : setF F f k v = F := by rw [h]; exact setF_same
theorem setF_n {F : FT} {f k j : Nat} {v : Int} (h : j ≠ k) : setF F f k v f j = F f j := if_neg (fun z => h z.2)
theorem xor0 {v : Int} (h : v = 0 ∨ v = 1) : Int32.ofInt v ^^^ Int32.ofInt 0 = Int32.ofInt v := by rcases h with rfl | rfl <;> decide
theorem ap3 {F : FT} {f : Nat} {a to w p : Int} (h : (a = 4 ∧ to = F f 0 ∧ w = F f 1 ∧ p = 1 - F f 4) ∨ (a = 5 ∧ to = F f 0 - 1 ∧ w = F f 1 ∧ p = F f 4) ∨ (a = 6 ∧ to = F f 0 + 1 ∧ w = F f 1 ∧ p = F f 4) ∨ (a = 7 ∧ to = F f 0 ∧ w = F f 1 + 1 ∧ p = F f 4)) : setF (setF (setF F f 0 to) f 1 w) f 4 p = apF F f a := by
  unfold apF
  rcases h with ⟨rfl, h1, h2, h3⟩ | ⟨rfl, h1, h2, h3⟩ | ⟨rfl, h1, h2, h3⟩ | ⟨rfl, h1, h2, h3⟩
  · rw [if_pos rfl, setF_eq h1, setF_eq h2, h3]
  · rw [if_neg (by decide), if_pos rfl]
    rw [setF_eq (F := setF F f 0 to) (k := 1) (h2.trans (setF_n (by decide)).symm), setF_eq (h3.trans (setF_n (by decide)).symm), h1]
  · rw [if_neg (by decide), if_neg (by decide), if_pos rfl]
    rw [setF_eq (F := setF F f 0 to) (k := 1) (h2.trans (setF_n (by decide)).symm), setF_eq (h3.trans (setF_n (by decide)).symm), h1]
  · rw [if_neg (by decide), if_neg (by decide), if_neg (by decide), if_pos rfl]
    rw [setF_eq h1, setF_eq (h3.trans (setF_n (by decide)).symm), h2]
section FR
variable {G : GT} {K : List Nat} {N : NN} {I : MM} {n : Nat}
theorem sp_passHour (hN : NS N) (hB : RM I n) {kn : Int} (hk : inr kn) : SpV G mX5_passHour 3 69 0 0 [.ref 50, vi kn] K N I (pV K N (fun J => fm J = keF (fm I) kn (l0M I kn) n ∧ J 50 5 = I 50 5 + lva (fm I) kn (l0M I kn) n ∧ ∀ a b, ¬ (a = 51 ∧ b < 63) → a ≠ 57 → a ≠ 58 → ¬ (a = 50 ∧ (b = 5 ∨ b = 16)) → J a b = I a b)) := by
  refine SpV.of (own := RX5) (cc := cX5_passHour) (L := [some (.ref 50), some (vi kn), none]) (by decide) rfl rfl (Nat.le_of_ble_eq_true rfl) rfl (fun Fx hnm hret => ?_)
  have hn9 := hB.2.2.1
  have lp : ∀ (m : Nat) (f : Nat) (z : Int) (J : MM), f ≤ n → n < f + m → z = (f : Int) → fm J = keF (fm I) kn (l0M I kn) f → (∀ a b, ¬ (a = 51 ∧ b < 63) → J a b = fmJ I kn n a b) → XX G RX5 cX5_passHour (RmW 3 69 0 0) Fx 7 [some (.ref 50), some (vi kn), some (vi z)] [] K N J 0 0 := by
    intro m
    induction m with
    | zero => intros; exfalso; omega
    | succ m ih =>
      intro f z J h0 h1 h2 h3 h4
      have hJ0 : J 50 0 = (n : Int) := by rw [h4 50 0 (by omega), fmJ_o (by omega) (by omega)]; exact hB.1
      have hk6 : keF (fm I) kn (l0M I kn) f f 6 = fm I f 6 := if_neg (by omega)
      refine x_iload_n dX5_passHour_7 rfl ?_
      refine x_aload_n dX5_passHour_8 rfl ?_
      refine x_getI dX5_passHour_9 gf_RX5_73 rfl rfl ?_
      rw [hJ0]
      refine x_icmp_ge 41 dX5_passHour_12 (by decide) (by unfold inr; omega) (by unfold inr; omega) (fun h_12 => ?_) (fun h_12 => ?_)
      · refine x_aload_n dX5_passHour_41 rfl ?_
        refine x_dupR dX5_passHour_42 ?_
        refine x_getI dX5_passHour_43 gf_RX5_76 rfl rfl ?_
        rw [h4 50 5 (by omega), fmJ_o (by omega) (by omega)]
        refine x_aload_n dX5_passHour_46 rfl ?_
        refine x_getI dX5_passHour_47 gf_RX5_128 rfl rfl ?_
        rw [h4 50 16 (by omega), fmJ_l]
        refine x_iadd dX5_passHour_50 ?_
        refine x_putI dX5_passHour_51 pf_RX5_76 rfl rfl ?_
        refine hret _ _ _ _ _ dX5_passHour_54 ?_
        obtain rfl : f = n := by omega
        refine ⟨rfl, rfl, ?_, up_s, fun a b q1 q2 q3 q4 => ?_⟩
        · rw [fm_eq (fun j => up_n1 (by omega))]; exact h3
        · rw [up_n (by omega), h4 a b q1, fmJ_o (by omega) (by omega)]
      · refine x_aload_n dX5_passHour_15 rfl ?_
        refine x_getR (j := 51) dX5_passHour_16 gf_RX5_7 rfl rfl (hN _ _ (by decide)) ?_
        refine x_bipush dX5_passHour_19 (by decide) ?_
        refine x_iload_n dX5_passHour_21 rfl ?_
        refine xf_SI2 dX5_passHour_22 ml_RX5_82 vw_X5_at st_X5_at (sp_at) ⟨Nat.le_of_ble_eq_true rfl, Nat.le_of_ble_eq_true rfl, Nat.le_of_ble_eq_true rfl, Nat.le_of_ble_eq_true rfl, Nat.le_of_ble_eq_true rfl⟩ ?_
        refine x_dup2 dX5_passHour_25 ?_
        refine x_iald (9 * 6 + f) dX5_passHour_26 rfl (by omega) (show _ < 63 by omega) ?_
        rw [show J 51 (9 * 6 + f) = fm J f 6 from (fm_at (by omega)).symm]
        rw [h3, hk6]
        refine x_aload_n dX5_passHour_27 rfl ?_
        refine x_getR (j := 57) dX5_passHour_28 gf_RX5_28 rfl rfl (hN _ _ (by decide)) ?_
        refine x_iload_n dX5_passHour_31 rfl ?_
        refine x_iald (f) dX5_passHour_32 rfl h2 (show _ < 9 by omega) ?_
        rw [h4 57 f (by omega), fmJ_t (by omega)]
        refine x_iadd dX5_passHour_33 ?_
        refine x_iast (9 * 6 + f) dX5_passHour_34 rfl (by omega) (show _ < 63 by omega) ?_
        refine x_inc2 dX5_passHour_35 ?_
        refine x_goto 7 dX5_passHour_38 (by decide) ?_
        refine ih (f + 1) _ _ (by omega) (by omega) (by omega) ?_ (fun a b z => ?_)
        · rw [fm_put (by omega), h3]; exact ke_st
        · rw [up_n (by omega)]; exact h4 a b z
  refine x_aload_n dX5_passHour_0 rfl ?_
  refine x_iload_n dX5_passHour_1 rfl ?_
  refine xf_VV1 dX5_passHour_2 ml_RX5_131 vw_X5_flow vv_X5_flow rfl (sp_mflow hN hB hk) ⟨Nat.le_of_ble_eq_true rfl, Nat.le_of_ble_eq_true rfl, Nat.le_of_ble_eq_true rfl, Nat.le_of_ble_eq_true rfl, Nat.le_of_ble_eq_true rfl⟩ ?_
  refine x_iconst dX5_passHour_5 ?_
  refine x_ist2 dX5_passHour_6 ?_
  refine lp (n + 1) 0 _ _ (by omega) (by omega) rfl ?_ (fun _ _ _ => rfl)
  rw [ke_0]; exact fm_eq (fun j => fmJ_o (by omega) (by omega))
theorem sp_lookWhoHas (hN : NS N) (hB : RM I n) (hE : ∀ f, f < n → (I 60 f = -6 ∨ 0 ≤ I 60 f) ∧ I 60 f ≤ 1000) : SpV G mX5_lookWhoHas 1 21 0 0 [.ref 50] K N I (pV K N (fun J => (∀ f, f < n → J 60 f = ntE (fm I) (I 50 21) (I 60) f) ∧ ∀ a b, a ≠ 60 → J a b = I a b)) := by
  refine SpV.of (own := RX5) (cc := cX5_lookWhoHas) (L := [some (.ref 50), none, none]) (by decide) rfl rfl (Nat.le_of_ble_eq_true rfl) rfl (fun Fx hnm hret => ?_)
  have hn9 := hB.2.2.1
  have lp : ∀ (m : Nat) (f : Nat) (z : Int) (J : MM), f ≤ n → n < f + m → z = (f : Int) → (∀ g, g < f → J 60 g = ntE (fm I) (I 50 21) (I 60) g) → (∀ g, f ≤ g → J 60 g = I 60 g) → (∀ a b, a ≠ 60 → J a b = I a b) → XX G RX5 cX5_lookWhoHas (RmW 1 21 0 0) Fx 2 [some (.ref 50), some (vi z), none] [] K N J 0 0 := by
    intro m
    induction m with
    | zero => intros; exfalso; omega
    | succ m ih =>
      intro f z J h0 h1 h2 h3 h4 h5
      have hJ0 : J 50 0 = (n : Int) := (h5 50 0 (by omega)).trans hB.1
      have hFJ : fm J = fm I := fm_eq (fun j => h5 51 j (by omega))
      have bF : f < n → _ := hB.2.2.2.1 f
      have bE : f < n → _ := hE f
      have hJf := h4 f (Nat.le_refl f)
      have hnt : ntE (fm I) (I 50 21) (I 60) f = if I 60 f = -6 ∧ fm I f 2 ≤ fm I f 6 then I 50 21 else I 60 f := rfl
      refine x_iload_n dX5_lookWhoHas_2 rfl ?_
      refine x_aload_n dX5_lookWhoHas_3 rfl ?_
      refine x_getI dX5_lookWhoHas_4 gf_RX5_73 rfl rfl ?_
      rw [hJ0]
      refine x_icmp_ge 78 dX5_lookWhoHas_7 (by decide) (by unfold inr; omega) (by unfold inr; omega) (fun h_7 => ?_) (fun h_7 => ?_)
      · refine hret _ _ _ _ _ dX5_lookWhoHas_78 ?_
        obtain rfl : f = n := by omega
        exact ⟨rfl, rfl, h3, h5⟩
      · refine x_aload_n dX5_lookWhoHas_10 rfl ?_
        refine x_getR (j := 51) dX5_lookWhoHas_11 gf_RX5_7 rfl rfl (hN _ _ (by decide)) ?_
        refine x_bipush dX5_lookWhoHas_14 (by decide) ?_
        refine x_iload_n dX5_lookWhoHas_16 rfl ?_
        refine xf_SI2 dX5_lookWhoHas_17 ml_RX5_82 vw_X5_at st_X5_at (sp_at) ⟨Nat.le_of_ble_eq_true rfl, Nat.le_of_ble_eq_true rfl, Nat.le_of_ble_eq_true rfl, Nat.le_of_ble_eq_true rfl, Nat.le_of_ble_eq_true rfl⟩ ?_
        refine x_iald (9 * 6 + f) dX5_lookWhoHas_20 rfl (by omega) (show _ < 63 by omega) ?_
        rw [show J 51 (9 * 6 + f) = fm J f 6 from (fm_at (by omega)).symm]
        rw [hFJ]
        refine x_aload_n dX5_lookWhoHas_21 rfl ?_
        refine x_getR (j := 51) dX5_lookWhoHas_22 gf_RX5_7 rfl rfl (hN _ _ (by decide)) ?_
        refine x_iconst dX5_lookWhoHas_25 ?_
        refine x_iload_n dX5_lookWhoHas_26 rfl ?_
        refine xf_SI2 dX5_lookWhoHas_27 ml_RX5_82 vw_X5_at st_X5_at (sp_at) ⟨Nat.le_of_ble_eq_true rfl, Nat.le_of_ble_eq_true rfl, Nat.le_of_ble_eq_true rfl, Nat.le_of_ble_eq_true rfl, Nat.le_of_ble_eq_true rfl⟩ ?_
        refine x_iald (9 * 2 + f) dX5_lookWhoHas_30 rfl (by omega) (show _ < 63 by omega) ?_
        rw [show J 51 (9 * 2 + f) = fm J f 2 from (fm_at (by omega)).symm]
        rw [hFJ]
        refine x_icmp_lt 38 dX5_lookWhoHas_31 (by decide) (by have := bF (by omega); unfold inr; omega) (by have := bF (by omega); unfold inr; omega) (fun h_31 => ?_) (fun h_31 => ?_)
        · refine x_iconst dX5_lookWhoHas_38 ?_
          refine x_ist2 dX5_lookWhoHas_39 ?_
          refine x_aload_n dX5_lookWhoHas_40 rfl ?_
          refine x_getR (j := 60) dX5_lookWhoHas_41 gf_RX5_37 rfl rfl (hN _ _ (by decide)) ?_
          refine x_iload_n dX5_lookWhoHas_44 rfl ?_
          refine x_iload_n dX5_lookWhoHas_45 rfl ?_
          refine x_if_eq 65 dX5_lookWhoHas_46 (by decide) (by unfold inr; omega) (fun h_46 => ?_) (fun h_46 => ?_)
          · refine x_aload_n dX5_lookWhoHas_65 rfl ?_
            refine x_getR (j := 60) dX5_lookWhoHas_66 gf_RX5_37 rfl rfl (hN _ _ (by decide)) ?_
            refine x_iload_n dX5_lookWhoHas_69 rfl ?_
            refine x_iald (f) dX5_lookWhoHas_70 rfl h2 (show _ < 9 by omega) ?_
            rw [hJf]
            refine x_iast (f) dX5_lookWhoHas_71 rfl h2 (show _ < 9 by omega) ?_
            refine x_inc1 dX5_lookWhoHas_72 ?_
            refine x_goto 2 dX5_lookWhoHas_75 (by decide) ?_
            first
            | (exfalso; omega)
            | (have bE2 := bE (by omega)
               refine x_dr2 (ih (f + 1) _ _ (by omega) (by omega) (by omega) (fun g hg => ?_) (fun g hg => ?_) (fun a b q => by rw [up_n1 q]; exact h5 a b q))
               · rcases (by omega : g < f ∨ g = f) with e | rfl
                 · rw [up_n2 (by omega)]; exact h3 g e
                 · rw [up_s, hnt]
                   first
                   | (rw [if_pos (by omega)]; done)
                   | (rw [if_neg (by omega)]; done)
               · rw [up_n2 (by omega)]; exact h4 g (by omega))
          · refine x_aload_n dX5_lookWhoHas_49 rfl ?_
            refine x_getR (j := 60) dX5_lookWhoHas_50 gf_RX5_37 rfl rfl (hN _ _ (by decide)) ?_
            refine x_iload_n dX5_lookWhoHas_53 rfl ?_
            refine x_iald (f) dX5_lookWhoHas_54 rfl h2 (show _ < 9 by omega) ?_
            rw [hJf]
            refine x_if_ge 65 dX5_lookWhoHas_55 (by decide) (by have := bE (by omega); unfold inr; omega) (fun h_55 => ?_) (fun h_55 => ?_)
            · refine x_aload_n dX5_lookWhoHas_65 rfl ?_
              refine x_getR (j := 60) dX5_lookWhoHas_66 gf_RX5_37 rfl rfl (hN _ _ (by decide)) ?_
              refine x_iload_n dX5_lookWhoHas_69 rfl ?_
              refine x_iald (f) dX5_lookWhoHas_70 rfl h2 (show _ < 9 by omega) ?_
              rw [hJf]
              refine x_iast (f) dX5_lookWhoHas_71 rfl h2 (show _ < 9 by omega) ?_
              refine x_inc1 dX5_lookWhoHas_72 ?_
              refine x_goto 2 dX5_lookWhoHas_75 (by decide) ?_
              first
              | (exfalso; omega)
              | (have bE2 := bE (by omega)
                 refine x_dr2 (ih (f + 1) _ _ (by omega) (by omega) (by omega) (fun g hg => ?_) (fun g hg => ?_) (fun a b q => by rw [up_n1 q]; exact h5 a b q))
                 · rcases (by omega : g < f ∨ g = f) with e | rfl
                   · rw [up_n2 (by omega)]; exact h3 g e
                   · rw [up_s, hnt]
                     first
                     | (rw [if_pos (by omega)]; done)
                     | (rw [if_neg (by omega)]; done)
                 · rw [up_n2 (by omega)]; exact h4 g (by omega))
            · refine x_aload_n dX5_lookWhoHas_58 rfl ?_
              refine x_getI dX5_lookWhoHas_59 gf_RX5_137 rfl rfl ?_
              rw [h5 50 21 (by omega)]
              refine x_goto 71 dX5_lookWhoHas_62 (by decide) ?_
              refine x_iast (f) dX5_lookWhoHas_71 rfl h2 (show _ < 9 by omega) ?_
              refine x_inc1 dX5_lookWhoHas_72 ?_
              refine x_goto 2 dX5_lookWhoHas_75 (by decide) ?_
              first
              | (exfalso; omega)
              | (have bE2 := bE (by omega)
                 refine x_dr2 (ih (f + 1) _ _ (by omega) (by omega) (by omega) (fun g hg => ?_) (fun g hg => ?_) (fun a b q => by rw [up_n1 q]; exact h5 a b q))
                 · rcases (by omega : g < f ∨ g = f) with e | rfl
                   · rw [up_n2 (by omega)]; exact h3 g e
                   · rw [up_s, hnt]
                     first
                     | (rw [if_pos (by omega)]; done)
                     | (rw [if_neg (by omega)]; done)
                 · rw [up_n2 (by omega)]; exact h4 g (by omega))
        · refine x_iconst dX5_lookWhoHas_34 ?_
          refine x_goto 39 dX5_lookWhoHas_35 (by decide) ?_
          refine x_ist2 dX5_lookWhoHas_39 ?_
          refine x_aload_n dX5_lookWhoHas_40 rfl ?_
          refine x_getR (j := 60) dX5_lookWhoHas_41 gf_RX5_37 rfl rfl (hN _ _ (by decide)) ?_
          refine x_iload_n dX5_lookWhoHas_44 rfl ?_
          refine x_iload_n dX5_lookWhoHas_45 rfl ?_
          refine x_if_eq 65 dX5_lookWhoHas_46 (by decide) (by unfold inr; omega) (fun h_46 => ?_) (fun h_46 => ?_)
          · refine x_aload_n dX5_lookWhoHas_65 rfl ?_
            refine x_getR (j := 60) dX5_lookWhoHas_66 gf_RX5_37 rfl rfl (hN _ _ (by decide)) ?_
            refine x_iload_n dX5_lookWhoHas_69 rfl ?_
            refine x_iald (f) dX5_lookWhoHas_70 rfl h2 (show _ < 9 by omega) ?_
            rw [hJf]
            refine x_iast (f) dX5_lookWhoHas_71 rfl h2 (show _ < 9 by omega) ?_
            refine x_inc1 dX5_lookWhoHas_72 ?_
            refine x_goto 2 dX5_lookWhoHas_75 (by decide) ?_
            first
            | (exfalso; omega)
            | (have bE2 := bE (by omega)
               refine x_dr2 (ih (f + 1) _ _ (by omega) (by omega) (by omega) (fun g hg => ?_) (fun g hg => ?_) (fun a b q => by rw [up_n1 q]; exact h5 a b q))
               · rcases (by omega : g < f ∨ g = f) with e | rfl
                 · rw [up_n2 (by omega)]; exact h3 g e
                 · rw [up_s, hnt]
                   first
                   | (rw [if_pos (by omega)]; done)
                   | (rw [if_neg (by omega)]; done)
               · rw [up_n2 (by omega)]; exact h4 g (by omega))
          · refine x_aload_n dX5_lookWhoHas_49 rfl ?_
            refine x_getR (j := 60) dX5_lookWhoHas_50 gf_RX5_37 rfl rfl (hN _ _ (by decide)) ?_
            refine x_iload_n dX5_lookWhoHas_53 rfl ?_
            refine x_iald (f) dX5_lookWhoHas_54 rfl h2 (show _ < 9 by omega) ?_
            rw [hJf]
            refine x_if_ge 65 dX5_lookWhoHas_55 (by decide) (by have := bE (by omega); unfold inr; omega) (fun h_55 => ?_) (fun h_55 => ?_)
            · refine x_aload_n dX5_lookWhoHas_65 rfl ?_
              refine x_getR (j := 60) dX5_lookWhoHas_66 gf_RX5_37 rfl rfl (hN _ _ (by decide)) ?_
              refine x_iload_n dX5_lookWhoHas_69 rfl ?_
              refine x_iald (f) dX5_lookWhoHas_70 rfl h2 (show _ < 9 by omega) ?_
              rw [hJf]
              refine x_iast (f) dX5_lookWhoHas_71 rfl h2 (show _ < 9 by omega) ?_
              refine x_inc1 dX5_lookWhoHas_72 ?_
              refine x_goto 2 dX5_lookWhoHas_75 (by decide) ?_
              first
              | (exfalso; omega)
              | (have bE2 := bE (by omega)
                 refine x_dr2 (ih (f + 1) _ _ (by omega) (by omega) (by omega) (fun g hg => ?_) (fun g hg => ?_) (fun a b q => by rw [up_n1 q]; exact h5 a b q))
                 · rcases (by omega : g < f ∨ g = f) with e | rfl
                   · rw [up_n2 (by omega)]; exact h3 g e
                   · rw [up_s, hnt]
                     first
                     | (rw [if_pos (by omega)]; done)
                     | (rw [if_neg (by omega)]; done)
                 · rw [up_n2 (by omega)]; exact h4 g (by omega))
            · refine x_aload_n dX5_lookWhoHas_58 rfl ?_
              refine x_getI dX5_lookWhoHas_59 gf_RX5_137 rfl rfl ?_
              rw [h5 50 21 (by omega)]
              refine x_goto 71 dX5_lookWhoHas_62 (by decide) ?_
              refine x_iast (f) dX5_lookWhoHas_71 rfl h2 (show _ < 9 by omega) ?_
              refine x_inc1 dX5_lookWhoHas_72 ?_
              refine x_goto 2 dX5_lookWhoHas_75 (by decide) ?_
              first
              | (exfalso; omega)
              | (have bE2 := bE (by omega)
                 refine x_dr2 (ih (f + 1) _ _ (by omega) (by omega) (by omega) (fun g hg => ?_) (fun g hg => ?_) (fun a b q => by rw [up_n1 q]; exact h5 a b q))
                 · rcases (by omega : g < f ∨ g = f) with e | rfl
                   · rw [up_n2 (by omega)]; exact h3 g e
                   · rw [up_s, hnt]
                     first
                     | (rw [if_pos (by omega)]; done)
                     | (rw [if_neg (by omega)]; done)
                 · rw [up_n2 (by omega)]; exact h4 g (by omega))
  refine x_iconst dX5_lookWhoHas_0 ?_
  refine x_ist1 dX5_lookWhoHas_1 ?_
  exact lp (n + 1) 0 _ _ (by omega) (by omega) rfl (fun g hg => absurd hg (Nat.not_lt_zero g)) (fun _ _ => rfl) (fun _ _ _ => rfl)
theorem sp_deed (hN : NS N) (hB : RM I n) (f : Nat) (hf : f < n) {zf a c : Int} (hz : zf = (f : Int)) (ha : 4 ≤ a ∧ a ≤ 7) (hc : c = mpV a) : SpI G mX5_deed .int 1 25 0 0 [.ref 50, vi zf, vi c] K N I (pI K N (fun z J => z = reF (fm I) f a ∧ fm J = (if reF (fm I) f a = 0 then apF (fm I) f a else fm I) ∧ ∀ x y, ¬ (x = 51 ∧ y < 63) → J x y = I x y)) := by
  refine SpI.of (own := RX5) (cc := cX5_deed) (L := [some (.ref 50), some (vi zf), some (vi c), none]) (by decide) rfl rfl (Nat.le_of_ble_eq_true rfl) rfl (fun Fx hnm hret => ?_)
  have hn9 := hB.2.2.1
  have bF := hB.2.2.2.1 f hf
  have hcs : (a = 4 ∧ c = 0) ∨ (a = 5 ∧ c = 60) ∨ (a = 6 ∧ c = 62) ∨ (a = 7 ∧ c = 119) := by
    rcases (by omega : a = 4 ∨ a = 5 ∨ a = 6 ∨ a = 7) with rfl | rfl | rfl | rfl
    · exact Or.inl ⟨rfl, hc⟩
    · exact Or.inr (Or.inl ⟨rfl, hc⟩)
    · exact Or.inr (Or.inr (Or.inl ⟨rfl, hc⟩))
    · exact Or.inr (Or.inr (Or.inr ⟨rfl, hc⟩))
  refine x_aload_n dX5_deed_0 rfl ?_
  refine x_getR (j := 51) dX5_deed_1 gf_RX5_7 rfl rfl (hN _ _ (by decide)) ?_
  refine x_iconst dX5_deed_4 ?_
  refine x_iload_n dX5_deed_5 rfl ?_
  refine xf_SI2 dX5_deed_6 ml_RX5_82 vw_X5_at st_X5_at (sp_at) ⟨Nat.le_of_ble_eq_true rfl, Nat.le_of_ble_eq_true rfl, Nat.le_of_ble_eq_true rfl, Nat.le_of_ble_eq_true rfl, Nat.le_of_ble_eq_true rfl⟩ ?_
  refine x_iald (9 * 0 + f) dX5_deed_9 rfl (by omega) (show _ < 63 by omega) ?_
  rw [show I 51 (9 * 0 + f) = fm I f 0 from (fm_at (by omega)).symm]
  refine x_iload_n dX5_deed_10 rfl ?_
  refine x_bipush dX5_deed_11 (by decide) ?_
  refine x_icmp_ne 20 dX5_deed_13 (by decide) (by unfold inr; omega) (by unfold inr; omega) (fun h_13 => ?_) (fun h_13 => ?_)
  · refine x_iload_n dX5_deed_20 rfl ?_
    refine x_bipush dX5_deed_21 (by decide) ?_
    refine x_icmp_ne 30 dX5_deed_23 (by decide) (by unfold inr; omega) (by unfold inr; omega) (fun h_23 => ?_) (fun h_23 => ?_)
    · refine x_iconst dX5_deed_30 ?_
      refine x_iadd dX5_deed_31 ?_
      refine x_ist3 dX5_deed_32 ?_
      refine x_iload_n dX5_deed_33 rfl ?_
      refine x_i2l dX5_deed_34 (by unfold inr; omega) ?_
      refine x_lconst0 dX5_deed_35 ?_
      refine x_ldc2 dX5_deed_36 ct_RX5_106 ?_
      refine xf_SI3 dX5_deed_39 ml_RX5_86 vw_X5_in st_X5_in (sp_in (by unfold inl; omega) (by unfold inl; omega) (by unfold inl; omega)) ⟨Nat.le_of_ble_eq_true rfl, Nat.le_of_ble_eq_true rfl, Nat.le_of_ble_eq_true rfl, Nat.le_of_ble_eq_true rfl, Nat.le_of_ble_eq_true rfl⟩ ?_
      refine x_if_ne 47 dX5_deed_42 (by decide) (by unfold inr; split <;> omega) (fun h_42 => ?_) (fun h_42 => ?_)
      · replace h_42 := b1 h_42
        refine x_iload_n dX5_deed_47 rfl ?_
        refine x_bipush dX5_deed_48 (by decide) ?_
        refine x_icmp_ne 70 dX5_deed_50 (by decide) (by unfold inr; omega) (by unfold inr; omega) (fun h_50 => ?_) (fun h_50 => ?_)
        · refine x_aload_n dX5_deed_70 rfl ?_
          refine x_getR (j := 51) dX5_deed_71 gf_RX5_7 rfl rfl (hN _ _ (by decide)) ?_
          refine x_iconst dX5_deed_74 ?_
          refine x_iload_n dX5_deed_75 rfl ?_
          refine xf_SI2 dX5_deed_76 ml_RX5_82 vw_X5_at st_X5_at (sp_at) ⟨Nat.le_of_ble_eq_true rfl, Nat.le_of_ble_eq_true rfl, Nat.le_of_ble_eq_true rfl, Nat.le_of_ble_eq_true rfl, Nat.le_of_ble_eq_true rfl⟩ ?_
          refine x_iload_n dX5_deed_79 rfl ?_
          refine x_iast (9 * 0 + f) dX5_deed_80 rfl (by omega) (show _ < 63 by omega) ?_
          refine x_aload_n dX5_deed_81 rfl ?_
          refine x_getR (j := 51) dX5_deed_82 gf_RX5_7 rfl rfl (hN _ _ (by decide)) ?_
          refine x_iconst dX5_deed_85 ?_
          refine x_iload_n dX5_deed_86 rfl ?_
          refine xf_SI2 dX5_deed_87 ml_RX5_82 vw_X5_at st_X5_at (sp_at) ⟨Nat.le_of_ble_eq_true rfl, Nat.le_of_ble_eq_true rfl, Nat.le_of_ble_eq_true rfl, Nat.le_of_ble_eq_true rfl, Nat.le_of_ble_eq_true rfl⟩ ?_
          refine x_dup2 dX5_deed_90 ?_
          refine x_iald (9 * 1 + f) dX5_deed_91 rfl (by omega) (show _ < 63 by omega) ?_
          rw [up_n2 (by omega)]
          rw [show I 51 (9 * 1 + f) = fm I f 1 from (fm_at (by omega)).symm]
          refine x_iload_n dX5_deed_92 rfl ?_
          refine x_bipush dX5_deed_93 (by decide) ?_
          refine x_icmp_ne 102 dX5_deed_95 (by decide) (by unfold inr; omega) (by unfold inr; omega) (fun h_95 => ?_) (fun h_95 => ?_)
          · refine x_iconst dX5_deed_102 ?_
            refine x_iadd dX5_deed_103 ?_
            refine x_iast (9 * 1 + f) dX5_deed_104 rfl (by omega) (show _ < 63 by omega) ?_
            refine x_aload_n dX5_deed_105 rfl ?_
            refine x_getR (j := 51) dX5_deed_106 gf_RX5_7 rfl rfl (hN _ _ (by decide)) ?_
            refine x_iconst dX5_deed_109 ?_
            refine x_iload_n dX5_deed_110 rfl ?_
            refine xf_SI2 dX5_deed_111 ml_RX5_82 vw_X5_at st_X5_at (sp_at) ⟨Nat.le_of_ble_eq_true rfl, Nat.le_of_ble_eq_true rfl, Nat.le_of_ble_eq_true rfl, Nat.le_of_ble_eq_true rfl, Nat.le_of_ble_eq_true rfl⟩ ?_
            refine x_dup2 dX5_deed_114 ?_
            refine x_iald (9 * 4 + f) dX5_deed_115 rfl (by omega) (show _ < 63 by omega) ?_
            rw [up_n2 (by omega), up_n2 (by omega)]
            rw [show I 51 (9 * 4 + f) = fm I f 4 from (fm_at (by omega)).symm]
            refine x_iload_n dX5_deed_116 rfl ?_
            refine x_if_ne 124 dX5_deed_117 (by decide) (by unfold inr; omega) (fun h_117 => ?_) (fun h_117 => ?_)
            · refine x_iconst dX5_deed_124 ?_
              (first | refine x_ixor (1 - fm I f 4) dX5_deed_125 (xor1 (by omega)) ?_ | refine x_ixor (fm I f 4) dX5_deed_125 (xor0 (by omega)) ?_)
              refine x_iast (9 * 4 + f) dX5_deed_126 rfl (by omega) (show _ < 63 by omega) ?_
              refine x_iconst dX5_deed_127 ?_
              refine hret _ _ _ _ _ _ dX5_deed_128 rfl ?_
              first
              | (exfalso; omega)
              | (have er : reF (fm I) f a = 0 := by
                   unfold reF
                   (repeat (first | rw [if_pos (by omega)] | rw [if_neg (by omega)]))
                 refine ⟨rfl, rfl, er.symm, ?_, fun x y q => by rw [up_n (by omega), up_n (by omega), up_n (by omega)]⟩
                 rw [er, if_pos rfl, fm_put (by omega), fm_put (by omega), fm_put (by omega)]
                 exact ap3 (by omega))
            · refine x_iconst dX5_deed_120 ?_
              refine x_goto 125 dX5_deed_121 (by decide) ?_
              (first | refine x_ixor (1 - fm I f 4) dX5_deed_125 (xor1 (by omega)) ?_ | refine x_ixor (fm I f 4) dX5_deed_125 (xor0 (by omega)) ?_)
              refine x_iast (9 * 4 + f) dX5_deed_126 rfl (by omega) (show _ < 63 by omega) ?_
              refine x_iconst dX5_deed_127 ?_
              refine hret _ _ _ _ _ _ dX5_deed_128 rfl ?_
              first
              | (exfalso; omega)
              | (have er : reF (fm I) f a = 0 := by
                   unfold reF
                   (repeat (first | rw [if_pos (by omega)] | rw [if_neg (by omega)]))
                 refine ⟨rfl, rfl, er.symm, ?_, fun x y q => by rw [up_n (by omega), up_n (by omega), up_n (by omega)]⟩
                 rw [er, if_pos rfl, fm_put (by omega), fm_put (by omega), fm_put (by omega)]
                 exact ap3 (by omega))
          · refine x_iconst dX5_deed_98 ?_
            refine x_goto 103 dX5_deed_99 (by decide) ?_
            refine x_iadd dX5_deed_103 ?_
            refine x_iast (9 * 1 + f) dX5_deed_104 rfl (by omega) (show _ < 63 by omega) ?_
            refine x_aload_n dX5_deed_105 rfl ?_
            refine x_getR (j := 51) dX5_deed_106 gf_RX5_7 rfl rfl (hN _ _ (by decide)) ?_
            refine x_iconst dX5_deed_109 ?_
            refine x_iload_n dX5_deed_110 rfl ?_
            refine xf_SI2 dX5_deed_111 ml_RX5_82 vw_X5_at st_X5_at (sp_at) ⟨Nat.le_of_ble_eq_true rfl, Nat.le_of_ble_eq_true rfl, Nat.le_of_ble_eq_true rfl, Nat.le_of_ble_eq_true rfl, Nat.le_of_ble_eq_true rfl⟩ ?_
            refine x_dup2 dX5_deed_114 ?_
            refine x_iald (9 * 4 + f) dX5_deed_115 rfl (by omega) (show _ < 63 by omega) ?_
            rw [up_n2 (by omega), up_n2 (by omega)]
            rw [show I 51 (9 * 4 + f) = fm I f 4 from (fm_at (by omega)).symm]
            refine x_iload_n dX5_deed_116 rfl ?_
            refine x_if_ne 124 dX5_deed_117 (by decide) (by unfold inr; omega) (fun h_117 => ?_) (fun h_117 => ?_)
            · refine x_iconst dX5_deed_124 ?_
              (first | refine x_ixor (1 - fm I f 4) dX5_deed_125 (xor1 (by omega)) ?_ | refine x_ixor (fm I f 4) dX5_deed_125 (xor0 (by omega)) ?_)
              refine x_iast (9 * 4 + f) dX5_deed_126 rfl (by omega) (show _ < 63 by omega) ?_
              refine x_iconst dX5_deed_127 ?_
              refine hret _ _ _ _ _ _ dX5_deed_128 rfl ?_
              first
              | (exfalso; omega)
              | (have er : reF (fm I) f a = 0 := by
                   unfold reF
                   (repeat (first | rw [if_pos (by omega)] | rw [if_neg (by omega)]))
                 refine ⟨rfl, rfl, er.symm, ?_, fun x y q => by rw [up_n (by omega), up_n (by omega), up_n (by omega)]⟩
                 rw [er, if_pos rfl, fm_put (by omega), fm_put (by omega), fm_put (by omega)]
                 exact ap3 (by omega))
            · refine x_iconst dX5_deed_120 ?_
              refine x_goto 125 dX5_deed_121 (by decide) ?_
              (first | refine x_ixor (1 - fm I f 4) dX5_deed_125 (xor1 (by omega)) ?_ | refine x_ixor (fm I f 4) dX5_deed_125 (xor0 (by omega)) ?_)
              refine x_iast (9 * 4 + f) dX5_deed_126 rfl (by omega) (show _ < 63 by omega) ?_
              refine x_iconst dX5_deed_127 ?_
              refine hret _ _ _ _ _ _ dX5_deed_128 rfl ?_
              first
              | (exfalso; omega)
              | (have er : reF (fm I) f a = 0 := by
                   unfold reF
                   (repeat (first | rw [if_pos (by omega)] | rw [if_neg (by omega)]))
                 refine ⟨rfl, rfl, er.symm, ?_, fun x y q => by rw [up_n (by omega), up_n (by omega), up_n (by omega)]⟩
                 rw [er, if_pos rfl, fm_put (by omega), fm_put (by omega), fm_put (by omega)]
                 exact ap3 (by omega))
        · refine x_aload_n dX5_deed_53 rfl ?_
          refine x_getR (j := 51) dX5_deed_54 gf_RX5_7 rfl rfl (hN _ _ (by decide)) ?_
          refine x_iconst dX5_deed_57 ?_
          refine x_iload_n dX5_deed_58 rfl ?_
          refine xf_SI2 dX5_deed_59 ml_RX5_82 vw_X5_at st_X5_at (sp_at) ⟨Nat.le_of_ble_eq_true rfl, Nat.le_of_ble_eq_true rfl, Nat.le_of_ble_eq_true rfl, Nat.le_of_ble_eq_true rfl, Nat.le_of_ble_eq_true rfl⟩ ?_
          refine x_iald (9 * 1 + f) dX5_deed_62 rfl (by omega) (show _ < 63 by omega) ?_
          rw [show I 51 (9 * 1 + f) = fm I f 1 from (fm_at (by omega)).symm]
          refine x_bipush dX5_deed_63 (by decide) ?_
          refine x_icmp_ne 70 dX5_deed_65 (by decide) (by unfold inr; omega) (by unfold inr; omega) (fun h_65 => ?_) (fun h_65 => ?_)
          · refine x_aload_n dX5_deed_70 rfl ?_
            refine x_getR (j := 51) dX5_deed_71 gf_RX5_7 rfl rfl (hN _ _ (by decide)) ?_
            refine x_iconst dX5_deed_74 ?_
            refine x_iload_n dX5_deed_75 rfl ?_
            refine xf_SI2 dX5_deed_76 ml_RX5_82 vw_X5_at st_X5_at (sp_at) ⟨Nat.le_of_ble_eq_true rfl, Nat.le_of_ble_eq_true rfl, Nat.le_of_ble_eq_true rfl, Nat.le_of_ble_eq_true rfl, Nat.le_of_ble_eq_true rfl⟩ ?_
            refine x_iload_n dX5_deed_79 rfl ?_
            refine x_iast (9 * 0 + f) dX5_deed_80 rfl (by omega) (show _ < 63 by omega) ?_
            refine x_aload_n dX5_deed_81 rfl ?_
            refine x_getR (j := 51) dX5_deed_82 gf_RX5_7 rfl rfl (hN _ _ (by decide)) ?_
            refine x_iconst dX5_deed_85 ?_
            refine x_iload_n dX5_deed_86 rfl ?_
            refine xf_SI2 dX5_deed_87 ml_RX5_82 vw_X5_at st_X5_at (sp_at) ⟨Nat.le_of_ble_eq_true rfl, Nat.le_of_ble_eq_true rfl, Nat.le_of_ble_eq_true rfl, Nat.le_of_ble_eq_true rfl, Nat.le_of_ble_eq_true rfl⟩ ?_
            refine x_dup2 dX5_deed_90 ?_
            refine x_iald (9 * 1 + f) dX5_deed_91 rfl (by omega) (show _ < 63 by omega) ?_
            rw [up_n2 (by omega)]
            rw [show I 51 (9 * 1 + f) = fm I f 1 from (fm_at (by omega)).symm]
            refine x_iload_n dX5_deed_92 rfl ?_
            refine x_bipush dX5_deed_93 (by decide) ?_
            refine x_icmp_ne 102 dX5_deed_95 (by decide) (by unfold inr; omega) (by unfold inr; omega) (fun h_95 => ?_) (fun h_95 => ?_)
            · refine x_iconst dX5_deed_102 ?_
              refine x_iadd dX5_deed_103 ?_
              refine x_iast (9 * 1 + f) dX5_deed_104 rfl (by omega) (show _ < 63 by omega) ?_
              refine x_aload_n dX5_deed_105 rfl ?_
              refine x_getR (j := 51) dX5_deed_106 gf_RX5_7 rfl rfl (hN _ _ (by decide)) ?_
              refine x_iconst dX5_deed_109 ?_
              refine x_iload_n dX5_deed_110 rfl ?_
              refine xf_SI2 dX5_deed_111 ml_RX5_82 vw_X5_at st_X5_at (sp_at) ⟨Nat.le_of_ble_eq_true rfl, Nat.le_of_ble_eq_true rfl, Nat.le_of_ble_eq_true rfl, Nat.le_of_ble_eq_true rfl, Nat.le_of_ble_eq_true rfl⟩ ?_
              refine x_dup2 dX5_deed_114 ?_
              refine x_iald (9 * 4 + f) dX5_deed_115 rfl (by omega) (show _ < 63 by omega) ?_
              rw [up_n2 (by omega), up_n2 (by omega)]
              rw [show I 51 (9 * 4 + f) = fm I f 4 from (fm_at (by omega)).symm]
              refine x_iload_n dX5_deed_116 rfl ?_
              refine x_if_ne 124 dX5_deed_117 (by decide) (by unfold inr; omega) (fun h_117 => ?_) (fun h_117 => ?_)
              · refine x_iconst dX5_deed_124 ?_
                (first | refine x_ixor (1 - fm I f 4) dX5_deed_125 (xor1 (by omega)) ?_ | refine x_ixor (fm I f 4) dX5_deed_125 (xor0 (by omega)) ?_)
                refine x_iast (9 * 4 + f) dX5_deed_126 rfl (by omega) (show _ < 63 by omega) ?_
                refine x_iconst dX5_deed_127 ?_
                refine hret _ _ _ _ _ _ dX5_deed_128 rfl ?_
                first
                | (exfalso; omega)
                | (have er : reF (fm I) f a = 0 := by
                     unfold reF
                     (repeat (first | rw [if_pos (by omega)] | rw [if_neg (by omega)]))
                   refine ⟨rfl, rfl, er.symm, ?_, fun x y q => by rw [up_n (by omega), up_n (by omega), up_n (by omega)]⟩
                   rw [er, if_pos rfl, fm_put (by omega), fm_put (by omega), fm_put (by omega)]
                   exact ap3 (by omega))
              · refine x_iconst dX5_deed_120 ?_
                refine x_goto 125 dX5_deed_121 (by decide) ?_
                (first | refine x_ixor (1 - fm I f 4) dX5_deed_125 (xor1 (by omega)) ?_ | refine x_ixor (fm I f 4) dX5_deed_125 (xor0 (by omega)) ?_)
                refine x_iast (9 * 4 + f) dX5_deed_126 rfl (by omega) (show _ < 63 by omega) ?_
                refine x_iconst dX5_deed_127 ?_
                refine hret _ _ _ _ _ _ dX5_deed_128 rfl ?_
                first
                | (exfalso; omega)
                | (have er : reF (fm I) f a = 0 := by
                     unfold reF
                     (repeat (first | rw [if_pos (by omega)] | rw [if_neg (by omega)]))
                   refine ⟨rfl, rfl, er.symm, ?_, fun x y q => by rw [up_n (by omega), up_n (by omega), up_n (by omega)]⟩
                   rw [er, if_pos rfl, fm_put (by omega), fm_put (by omega), fm_put (by omega)]
                   exact ap3 (by omega))
            · refine x_iconst dX5_deed_98 ?_
              refine x_goto 103 dX5_deed_99 (by decide) ?_
              refine x_iadd dX5_deed_103 ?_
              refine x_iast (9 * 1 + f) dX5_deed_104 rfl (by omega) (show _ < 63 by omega) ?_
              refine x_aload_n dX5_deed_105 rfl ?_
              refine x_getR (j := 51) dX5_deed_106 gf_RX5_7 rfl rfl (hN _ _ (by decide)) ?_
              refine x_iconst dX5_deed_109 ?_
              refine x_iload_n dX5_deed_110 rfl ?_
              refine xf_SI2 dX5_deed_111 ml_RX5_82 vw_X5_at st_X5_at (sp_at) ⟨Nat.le_of_ble_eq_true rfl, Nat.le_of_ble_eq_true rfl, Nat.le_of_ble_eq_true rfl, Nat.le_of_ble_eq_true rfl, Nat.le_of_ble_eq_true rfl⟩ ?_
              refine x_dup2 dX5_deed_114 ?_
              refine x_iald (9 * 4 + f) dX5_deed_115 rfl (by omega) (show _ < 63 by omega) ?_
              rw [up_n2 (by omega), up_n2 (by omega)]
              rw [show I 51 (9 * 4 + f) = fm I f 4 from (fm_at (by omega)).symm]
              refine x_iload_n dX5_deed_116 rfl ?_
              refine x_if_ne 124 dX5_deed_117 (by decide) (by unfold inr; omega) (fun h_117 => ?_) (fun h_117 => ?_)
              · refine x_iconst dX5_deed_124 ?_
                (first | refine x_ixor (1 - fm I f 4) dX5_deed_125 (xor1 (by omega)) ?_ | refine x_ixor (fm I f 4) dX5_deed_125 (xor0 (by omega)) ?_)
                refine x_iast (9 * 4 + f) dX5_deed_126 rfl (by omega) (show _ < 63 by omega) ?_
                refine x_iconst dX5_deed_127 ?_
                refine hret _ _ _ _ _ _ dX5_deed_128 rfl ?_
                first
                | (exfalso; omega)
                | (have er : reF (fm I) f a = 0 := by
                     unfold reF
                     (repeat (first | rw [if_pos (by omega)] | rw [if_neg (by omega)]))
                   refine ⟨rfl, rfl, er.symm, ?_, fun x y q => by rw [up_n (by omega), up_n (by omega), up_n (by omega)]⟩
                   rw [er, if_pos rfl, fm_put (by omega), fm_put (by omega), fm_put (by omega)]
                   exact ap3 (by omega))
              · refine x_iconst dX5_deed_120 ?_
                refine x_goto 125 dX5_deed_121 (by decide) ?_
                (first | refine x_ixor (1 - fm I f 4) dX5_deed_125 (xor1 (by omega)) ?_ | refine x_ixor (fm I f 4) dX5_deed_125 (xor0 (by omega)) ?_)
                refine x_iast (9 * 4 + f) dX5_deed_126 rfl (by omega) (show _ < 63 by omega) ?_
                refine x_iconst dX5_deed_127 ?_
                refine hret _ _ _ _ _ _ dX5_deed_128 rfl ?_
                first
                | (exfalso; omega)
                | (have er : reF (fm I) f a = 0 := by
                     unfold reF
                     (repeat (first | rw [if_pos (by omega)] | rw [if_neg (by omega)]))
                   refine ⟨rfl, rfl, er.symm, ?_, fun x y q => by rw [up_n (by omega), up_n (by omega), up_n (by omega)]⟩
                   rw [er, if_pos rfl, fm_put (by omega), fm_put (by omega), fm_put (by omega)]
                   exact ap3 (by omega))
          · refine x_iconst dX5_deed_68 ?_
            refine hret _ _ _ _ _ _ dX5_deed_69 rfl ?_
            first
            | (exfalso; omega)
            | (have er : reF (fm I) f a = 2 := by
                 unfold reF
                 (repeat (first | rw [if_pos (by omega)] | rw [if_neg (by omega)]))
               exact ⟨rfl, rfl, er.symm, by rw [er, if_neg (by decide)], fun _ _ _ => rfl⟩)
      · replace h_42 := b0 h_42
        refine x_iconst dX5_deed_45 ?_
        refine hret _ _ _ _ _ _ dX5_deed_46 rfl ?_
        first
        | (exfalso; omega)
        | (have er : reF (fm I) f a = 1 := by
             unfold reF
             (repeat (first | rw [if_pos (by omega)] | rw [if_neg (by omega)]))
           exact ⟨rfl, rfl, er.symm, by rw [er, if_neg (by decide)], fun _ _ _ => rfl⟩)
    · refine x_iconst dX5_deed_26 ?_
      refine x_goto 31 dX5_deed_27 (by decide) ?_
      refine x_iadd dX5_deed_31 ?_
      refine x_ist3 dX5_deed_32 ?_
      refine x_iload_n dX5_deed_33 rfl ?_
      refine x_i2l dX5_deed_34 (by unfold inr; omega) ?_
      refine x_lconst0 dX5_deed_35 ?_
      refine x_ldc2 dX5_deed_36 ct_RX5_106 ?_
      refine xf_SI3 dX5_deed_39 ml_RX5_86 vw_X5_in st_X5_in (sp_in (by unfold inl; omega) (by unfold inl; omega) (by unfold inl; omega)) ⟨Nat.le_of_ble_eq_true rfl, Nat.le_of_ble_eq_true rfl, Nat.le_of_ble_eq_true rfl, Nat.le_of_ble_eq_true rfl, Nat.le_of_ble_eq_true rfl⟩ ?_
      refine x_if_ne 47 dX5_deed_42 (by decide) (by unfold inr; split <;> omega) (fun h_42 => ?_) (fun h_42 => ?_)
      · replace h_42 := b1 h_42
        refine x_iload_n dX5_deed_47 rfl ?_
        refine x_bipush dX5_deed_48 (by decide) ?_
        refine x_icmp_ne 70 dX5_deed_50 (by decide) (by unfold inr; omega) (by unfold inr; omega) (fun h_50 => ?_) (fun h_50 => ?_)
        · refine x_aload_n dX5_deed_70 rfl ?_
          refine x_getR (j := 51) dX5_deed_71 gf_RX5_7 rfl rfl (hN _ _ (by decide)) ?_
          refine x_iconst dX5_deed_74 ?_
          refine x_iload_n dX5_deed_75 rfl ?_
          refine xf_SI2 dX5_deed_76 ml_RX5_82 vw_X5_at st_X5_at (sp_at) ⟨Nat.le_of_ble_eq_true rfl, Nat.le_of_ble_eq_true rfl, Nat.le_of_ble_eq_true rfl, Nat.le_of_ble_eq_true rfl, Nat.le_of_ble_eq_true rfl⟩ ?_
          refine x_iload_n dX5_deed_79 rfl ?_
          refine x_iast (9 * 0 + f) dX5_deed_80 rfl (by omega) (show _ < 63 by omega) ?_
          refine x_aload_n dX5_deed_81 rfl ?_
          refine x_getR (j := 51) dX5_deed_82 gf_RX5_7 rfl rfl (hN _ _ (by decide)) ?_
          refine x_iconst dX5_deed_85 ?_
          refine x_iload_n dX5_deed_86 rfl ?_
          refine xf_SI2 dX5_deed_87 ml_RX5_82 vw_X5_at st_X5_at (sp_at) ⟨Nat.le_of_ble_eq_true rfl, Nat.le_of_ble_eq_true rfl, Nat.le_of_ble_eq_true rfl, Nat.le_of_ble_eq_true rfl, Nat.le_of_ble_eq_true rfl⟩ ?_
          refine x_dup2 dX5_deed_90 ?_
          refine x_iald (9 * 1 + f) dX5_deed_91 rfl (by omega) (show _ < 63 by omega) ?_
          rw [up_n2 (by omega)]
          rw [show I 51 (9 * 1 + f) = fm I f 1 from (fm_at (by omega)).symm]
          refine x_iload_n dX5_deed_92 rfl ?_
          refine x_bipush dX5_deed_93 (by decide) ?_
          refine x_icmp_ne 102 dX5_deed_95 (by decide) (by unfold inr; omega) (by unfold inr; omega) (fun h_95 => ?_) (fun h_95 => ?_)
          · refine x_iconst dX5_deed_102 ?_
            refine x_iadd dX5_deed_103 ?_
            refine x_iast (9 * 1 + f) dX5_deed_104 rfl (by omega) (show _ < 63 by omega) ?_
            refine x_aload_n dX5_deed_105 rfl ?_
            refine x_getR (j := 51) dX5_deed_106 gf_RX5_7 rfl rfl (hN _ _ (by decide)) ?_
            refine x_iconst dX5_deed_109 ?_
            refine x_iload_n dX5_deed_110 rfl ?_
            refine xf_SI2 dX5_deed_111 ml_RX5_82 vw_X5_at st_X5_at (sp_at) ⟨Nat.le_of_ble_eq_true rfl, Nat.le_of_ble_eq_true rfl, Nat.le_of_ble_eq_true rfl, Nat.le_of_ble_eq_true rfl, Nat.le_of_ble_eq_true rfl⟩ ?_
            refine x_dup2 dX5_deed_114 ?_
            refine x_iald (9 * 4 + f) dX5_deed_115 rfl (by omega) (show _ < 63 by omega) ?_
            rw [up_n2 (by omega), up_n2 (by omega)]
            rw [show I 51 (9 * 4 + f) = fm I f 4 from (fm_at (by omega)).symm]
            refine x_iload_n dX5_deed_116 rfl ?_
            refine x_if_ne 124 dX5_deed_117 (by decide) (by unfold inr; omega) (fun h_117 => ?_) (fun h_117 => ?_)
            · refine x_iconst dX5_deed_124 ?_
              (first | refine x_ixor (1 - fm I f 4) dX5_deed_125 (xor1 (by omega)) ?_ | refine x_ixor (fm I f 4) dX5_deed_125 (xor0 (by omega)) ?_)
              refine x_iast (9 * 4 + f) dX5_deed_126 rfl (by omega) (show _ < 63 by omega) ?_
              refine x_iconst dX5_deed_127 ?_
              refine hret _ _ _ _ _ _ dX5_deed_128 rfl ?_
              first
              | (exfalso; omega)
              | (have er : reF (fm I) f a = 0 := by
                   unfold reF
                   (repeat (first | rw [if_pos (by omega)] | rw [if_neg (by omega)]))
                 refine ⟨rfl, rfl, er.symm, ?_, fun x y q => by rw [up_n (by omega), up_n (by omega), up_n (by omega)]⟩
                 rw [er, if_pos rfl, fm_put (by omega), fm_put (by omega), fm_put (by omega)]
                 exact ap3 (by omega))
            · refine x_iconst dX5_deed_120 ?_
              refine x_goto 125 dX5_deed_121 (by decide) ?_
              (first | refine x_ixor (1 - fm I f 4) dX5_deed_125 (xor1 (by omega)) ?_ | refine x_ixor (fm I f 4) dX5_deed_125 (xor0 (by omega)) ?_)
              refine x_iast (9 * 4 + f) dX5_deed_126 rfl (by omega) (show _ < 63 by omega) ?_
              refine x_iconst dX5_deed_127 ?_
              refine hret _ _ _ _ _ _ dX5_deed_128 rfl ?_
              first
              | (exfalso; omega)
              | (have er : reF (fm I) f a = 0 := by
                   unfold reF
                   (repeat (first | rw [if_pos (by omega)] | rw [if_neg (by omega)]))
                 refine ⟨rfl, rfl, er.symm, ?_, fun x y q => by rw [up_n (by omega), up_n (by omega), up_n (by omega)]⟩
                 rw [er, if_pos rfl, fm_put (by omega), fm_put (by omega), fm_put (by omega)]
                 exact ap3 (by omega))
          · refine x_iconst dX5_deed_98 ?_
            refine x_goto 103 dX5_deed_99 (by decide) ?_
            refine x_iadd dX5_deed_103 ?_
            refine x_iast (9 * 1 + f) dX5_deed_104 rfl (by omega) (show _ < 63 by omega) ?_
            refine x_aload_n dX5_deed_105 rfl ?_
            refine x_getR (j := 51) dX5_deed_106 gf_RX5_7 rfl rfl (hN _ _ (by decide)) ?_
            refine x_iconst dX5_deed_109 ?_
            refine x_iload_n dX5_deed_110 rfl ?_
            refine xf_SI2 dX5_deed_111 ml_RX5_82 vw_X5_at st_X5_at (sp_at) ⟨Nat.le_of_ble_eq_true rfl, Nat.le_of_ble_eq_true rfl, Nat.le_of_ble_eq_true rfl, Nat.le_of_ble_eq_true rfl, Nat.le_of_ble_eq_true rfl⟩ ?_
            refine x_dup2 dX5_deed_114 ?_
            refine x_iald (9 * 4 + f) dX5_deed_115 rfl (by omega) (show _ < 63 by omega) ?_
            rw [up_n2 (by omega), up_n2 (by omega)]
            rw [show I 51 (9 * 4 + f) = fm I f 4 from (fm_at (by omega)).symm]
            refine x_iload_n dX5_deed_116 rfl ?_
            refine x_if_ne 124 dX5_deed_117 (by decide) (by unfold inr; omega) (fun h_117 => ?_) (fun h_117 => ?_)
            · refine x_iconst dX5_deed_124 ?_
              (first | refine x_ixor (1 - fm I f 4) dX5_deed_125 (xor1 (by omega)) ?_ | refine x_ixor (fm I f 4) dX5_deed_125 (xor0 (by omega)) ?_)
              refine x_iast (9 * 4 + f) dX5_deed_126 rfl (by omega) (show _ < 63 by omega) ?_
              refine x_iconst dX5_deed_127 ?_
              refine hret _ _ _ _ _ _ dX5_deed_128 rfl ?_
              first
              | (exfalso; omega)
              | (have er : reF (fm I) f a = 0 := by
                   unfold reF
                   (repeat (first | rw [if_pos (by omega)] | rw [if_neg (by omega)]))
                 refine ⟨rfl, rfl, er.symm, ?_, fun x y q => by rw [up_n (by omega), up_n (by omega), up_n (by omega)]⟩
                 rw [er, if_pos rfl, fm_put (by omega), fm_put (by omega), fm_put (by omega)]
                 exact ap3 (by omega))
            · refine x_iconst dX5_deed_120 ?_
              refine x_goto 125 dX5_deed_121 (by decide) ?_
              (first | refine x_ixor (1 - fm I f 4) dX5_deed_125 (xor1 (by omega)) ?_ | refine x_ixor (fm I f 4) dX5_deed_125 (xor0 (by omega)) ?_)
              refine x_iast (9 * 4 + f) dX5_deed_126 rfl (by omega) (show _ < 63 by omega) ?_
              refine x_iconst dX5_deed_127 ?_
              refine hret _ _ _ _ _ _ dX5_deed_128 rfl ?_
              first
              | (exfalso; omega)
              | (have er : reF (fm I) f a = 0 := by
                   unfold reF
                   (repeat (first | rw [if_pos (by omega)] | rw [if_neg (by omega)]))
                 refine ⟨rfl, rfl, er.symm, ?_, fun x y q => by rw [up_n (by omega), up_n (by omega), up_n (by omega)]⟩
                 rw [er, if_pos rfl, fm_put (by omega), fm_put (by omega), fm_put (by omega)]
                 exact ap3 (by omega))
        · refine x_aload_n dX5_deed_53 rfl ?_
          refine x_getR (j := 51) dX5_deed_54 gf_RX5_7 rfl rfl (hN _ _ (by decide)) ?_
          refine x_iconst dX5_deed_57 ?_
          refine x_iload_n dX5_deed_58 rfl ?_
          refine xf_SI2 dX5_deed_59 ml_RX5_82 vw_X5_at st_X5_at (sp_at) ⟨Nat.le_of_ble_eq_true rfl, Nat.le_of_ble_eq_true rfl, Nat.le_of_ble_eq_true rfl, Nat.le_of_ble_eq_true rfl, Nat.le_of_ble_eq_true rfl⟩ ?_
          refine x_iald (9 * 1 + f) dX5_deed_62 rfl (by omega) (show _ < 63 by omega) ?_
          rw [show I 51 (9 * 1 + f) = fm I f 1 from (fm_at (by omega)).symm]
          refine x_bipush dX5_deed_63 (by decide) ?_
          refine x_icmp_ne 70 dX5_deed_65 (by decide) (by unfold inr; omega) (by unfold inr; omega) (fun h_65 => ?_) (fun h_65 => ?_)
          · refine x_aload_n dX5_deed_70 rfl ?_
            refine x_getR (j := 51) dX5_deed_71 gf_RX5_7 rfl rfl (hN _ _ (by decide)) ?_
            refine x_iconst dX5_deed_74 ?_
            refine x_iload_n dX5_deed_75 rfl ?_
            refine xf_SI2 dX5_deed_76 ml_RX5_82 vw_X5_at st_X5_at (sp_at) ⟨Nat.le_of_ble_eq_true rfl, Nat.le_of_ble_eq_true rfl, Nat.le_of_ble_eq_true rfl, Nat.le_of_ble_eq_true rfl, Nat.le_of_ble_eq_true rfl⟩ ?_
            refine x_iload_n dX5_deed_79 rfl ?_
            refine x_iast (9 * 0 + f) dX5_deed_80 rfl (by omega) (show _ < 63 by omega) ?_
            refine x_aload_n dX5_deed_81 rfl ?_
            refine x_getR (j := 51) dX5_deed_82 gf_RX5_7 rfl rfl (hN _ _ (by decide)) ?_
            refine x_iconst dX5_deed_85 ?_
            refine x_iload_n dX5_deed_86 rfl ?_
            refine xf_SI2 dX5_deed_87 ml_RX5_82 vw_X5_at st_X5_at (sp_at) ⟨Nat.le_of_ble_eq_true rfl, Nat.le_of_ble_eq_true rfl, Nat.le_of_ble_eq_true rfl, Nat.le_of_ble_eq_true rfl, Nat.le_of_ble_eq_true rfl⟩ ?_
            refine x_dup2 dX5_deed_90 ?_
            refine x_iald (9 * 1 + f) dX5_deed_91 rfl (by omega) (show _ < 63 by omega) ?_
            rw [up_n2 (by omega)]
            rw [show I 51 (9 * 1 + f) = fm I f 1 from (fm_at (by omega)).symm]
            refine x_iload_n dX5_deed_92 rfl ?_
            refine x_bipush dX5_deed_93 (by decide) ?_
            refine x_icmp_ne 102 dX5_deed_95 (by decide) (by unfold inr; omega) (by unfold inr; omega) (fun h_95 => ?_) (fun h_95 => ?_)
            · refine x_iconst dX5_deed_102 ?_
              refine x_iadd dX5_deed_103 ?_
              refine x_iast (9 * 1 + f) dX5_deed_104 rfl (by omega) (show _ < 63 by omega) ?_
              refine x_aload_n dX5_deed_105 rfl ?_
              refine x_getR (j := 51) dX5_deed_106 gf_RX5_7 rfl rfl (hN _ _ (by decide)) ?_
              refine x_iconst dX5_deed_109 ?_
              refine x_iload_n dX5_deed_110 rfl ?_
              refine xf_SI2 dX5_deed_111 ml_RX5_82 vw_X5_at st_X5_at (sp_at) ⟨Nat.le_of_ble_eq_true rfl, Nat.le_of_ble_eq_true rfl, Nat.le_of_ble_eq_true rfl, Nat.le_of_ble_eq_true rfl, Nat.le_of_ble_eq_true rfl⟩ ?_
              refine x_dup2 dX5_deed_114 ?_
              refine x_iald (9 * 4 + f) dX5_deed_115 rfl (by omega) (show _ < 63 by omega) ?_
              rw [up_n2 (by omega), up_n2 (by omega)]
              rw [show I 51 (9 * 4 + f) = fm I f 4 from (fm_at (by omega)).symm]
              refine x_iload_n dX5_deed_116 rfl ?_
              refine x_if_ne 124 dX5_deed_117 (by decide) (by unfold inr; omega) (fun h_117 => ?_) (fun h_117 => ?_)
              · refine x_iconst dX5_deed_124 ?_
                (first | refine x_ixor (1 - fm I f 4) dX5_deed_125 (xor1 (by omega)) ?_ | refine x_ixor (fm I f 4) dX5_deed_125 (xor0 (by omega)) ?_)
                refine x_iast (9 * 4 + f) dX5_deed_126 rfl (by omega) (show _ < 63 by omega) ?_
                refine x_iconst dX5_deed_127 ?_
                refine hret _ _ _ _ _ _ dX5_deed_128 rfl ?_
                first
                | (exfalso; omega)
                | (have er : reF (fm I) f a = 0 := by
                     unfold reF
                     (repeat (first | rw [if_pos (by omega)] | rw [if_neg (by omega)]))
                   refine ⟨rfl, rfl, er.symm, ?_, fun x y q => by rw [up_n (by omega), up_n (by omega), up_n (by omega)]⟩
                   rw [er, if_pos rfl, fm_put (by omega), fm_put (by omega), fm_put (by omega)]
                   exact ap3 (by omega))
              · refine x_iconst dX5_deed_120 ?_
                refine x_goto 125 dX5_deed_121 (by decide) ?_
                (first | refine x_ixor (1 - fm I f 4) dX5_deed_125 (xor1 (by omega)) ?_ | refine x_ixor (fm I f 4) dX5_deed_125 (xor0 (by omega)) ?_)
                refine x_iast (9 * 4 + f) dX5_deed_126 rfl (by omega) (show _ < 63 by omega) ?_
                refine x_iconst dX5_deed_127 ?_
                refine hret _ _ _ _ _ _ dX5_deed_128 rfl ?_
                first
                | (exfalso; omega)
                | (have er : reF (fm I) f a = 0 := by
                     unfold reF
                     (repeat (first | rw [if_pos (by omega)] | rw [if_neg (by omega)]))
                   refine ⟨rfl, rfl, er.symm, ?_, fun x y q => by rw [up_n (by omega), up_n (by omega), up_n (by omega)]⟩
                   rw [er, if_pos rfl, fm_put (by omega), fm_put (by omega), fm_put (by omega)]
                   exact ap3 (by omega))
            · refine x_iconst dX5_deed_98 ?_
              refine x_goto 103 dX5_deed_99 (by decide) ?_
              refine x_iadd dX5_deed_103 ?_
              refine x_iast (9 * 1 + f) dX5_deed_104 rfl (by omega) (show _ < 63 by omega) ?_
              refine x_aload_n dX5_deed_105 rfl ?_
              refine x_getR (j := 51) dX5_deed_106 gf_RX5_7 rfl rfl (hN _ _ (by decide)) ?_
              refine x_iconst dX5_deed_109 ?_
              refine x_iload_n dX5_deed_110 rfl ?_
              refine xf_SI2 dX5_deed_111 ml_RX5_82 vw_X5_at st_X5_at (sp_at) ⟨Nat.le_of_ble_eq_true rfl, Nat.le_of_ble_eq_true rfl, Nat.le_of_ble_eq_true rfl, Nat.le_of_ble_eq_true rfl, Nat.le_of_ble_eq_true rfl⟩ ?_
              refine x_dup2 dX5_deed_114 ?_
              refine x_iald (9 * 4 + f) dX5_deed_115 rfl (by omega) (show _ < 63 by omega) ?_
              rw [up_n2 (by omega), up_n2 (by omega)]
              rw [show I 51 (9 * 4 + f) = fm I f 4 from (fm_at (by omega)).symm]
              refine x_iload_n dX5_deed_116 rfl ?_
              refine x_if_ne 124 dX5_deed_117 (by decide) (by unfold inr; omega) (fun h_117 => ?_) (fun h_117 => ?_)
              · refine x_iconst dX5_deed_124 ?_
                (first | refine x_ixor (1 - fm I f 4) dX5_deed_125 (xor1 (by omega)) ?_ | refine x_ixor (fm I f 4) dX5_deed_125 (xor0 (by omega)) ?_)
                refine x_iast (9 * 4 + f) dX5_deed_126 rfl (by omega) (show _ < 63 by omega) ?_
                refine x_iconst dX5_deed_127 ?_
                refine hret _ _ _ _ _ _ dX5_deed_128 rfl ?_
                first
                | (exfalso; omega)
                | (have er : reF (fm I) f a = 0 := by
                     unfold reF
                     (repeat (first | rw [if_pos (by omega)] | rw [if_neg (by omega)]))
                   refine ⟨rfl, rfl, er.symm, ?_, fun x y q => by rw [up_n (by omega), up_n (by omega), up_n (by omega)]⟩
                   rw [er, if_pos rfl, fm_put (by omega), fm_put (by omega), fm_put (by omega)]
                   exact ap3 (by omega))
              · refine x_iconst dX5_deed_120 ?_
                refine x_goto 125 dX5_deed_121 (by decide) ?_
                (first | refine x_ixor (1 - fm I f 4) dX5_deed_125 (xor1 (by omega)) ?_ | refine x_ixor (fm I f 4) dX5_deed_125 (xor0 (by omega)) ?_)
                refine x_iast (9 * 4 + f) dX5_deed_126 rfl (by omega) (show _ < 63 by omega) ?_
                refine x_iconst dX5_deed_127 ?_
                refine hret _ _ _ _ _ _ dX5_deed_128 rfl ?_
                first
                | (exfalso; omega)
                | (have er : reF (fm I) f a = 0 := by
                     unfold reF
                     (repeat (first | rw [if_pos (by omega)] | rw [if_neg (by omega)]))
                   refine ⟨rfl, rfl, er.symm, ?_, fun x y q => by rw [up_n (by omega), up_n (by omega), up_n (by omega)]⟩
                   rw [er, if_pos rfl, fm_put (by omega), fm_put (by omega), fm_put (by omega)]
                   exact ap3 (by omega))
          · refine x_iconst dX5_deed_68 ?_
            refine hret _ _ _ _ _ _ dX5_deed_69 rfl ?_
            first
            | (exfalso; omega)
            | (have er : reF (fm I) f a = 2 := by
                 unfold reF
                 (repeat (first | rw [if_pos (by omega)] | rw [if_neg (by omega)]))
               exact ⟨rfl, rfl, er.symm, by rw [er, if_neg (by decide)], fun _ _ _ => rfl⟩)
      · replace h_42 := b0 h_42
        refine x_iconst dX5_deed_45 ?_
        refine hret _ _ _ _ _ _ dX5_deed_46 rfl ?_
        first
        | (exfalso; omega)
        | (have er : reF (fm I) f a = 1 := by
             unfold reF
             (repeat (first | rw [if_pos (by omega)] | rw [if_neg (by omega)]))
           exact ⟨rfl, rfl, er.symm, by rw [er, if_neg (by decide)], fun _ _ _ => rfl⟩)
  · refine x_iconst dX5_deed_16 ?_
    refine x_goto 31 dX5_deed_17 (by decide) ?_
    refine x_iadd dX5_deed_31 ?_
    refine x_ist3 dX5_deed_32 ?_
    refine x_iload_n dX5_deed_33 rfl ?_
    refine x_i2l dX5_deed_34 (by unfold inr; omega) ?_
    refine x_lconst0 dX5_deed_35 ?_
    refine x_ldc2 dX5_deed_36 ct_RX5_106 ?_
    refine xf_SI3 dX5_deed_39 ml_RX5_86 vw_X5_in st_X5_in (sp_in (by unfold inl; omega) (by unfold inl; omega) (by unfold inl; omega)) ⟨Nat.le_of_ble_eq_true rfl, Nat.le_of_ble_eq_true rfl, Nat.le_of_ble_eq_true rfl, Nat.le_of_ble_eq_true rfl, Nat.le_of_ble_eq_true rfl⟩ ?_
    refine x_if_ne 47 dX5_deed_42 (by decide) (by unfold inr; split <;> omega) (fun h_42 => ?_) (fun h_42 => ?_)
    · replace h_42 := b1 h_42
      refine x_iload_n dX5_deed_47 rfl ?_
      refine x_bipush dX5_deed_48 (by decide) ?_
      refine x_icmp_ne 70 dX5_deed_50 (by decide) (by unfold inr; omega) (by unfold inr; omega) (fun h_50 => ?_) (fun h_50 => ?_)
      · refine x_aload_n dX5_deed_70 rfl ?_
        refine x_getR (j := 51) dX5_deed_71 gf_RX5_7 rfl rfl (hN _ _ (by decide)) ?_
        refine x_iconst dX5_deed_74 ?_
        refine x_iload_n dX5_deed_75 rfl ?_
        refine xf_SI2 dX5_deed_76 ml_RX5_82 vw_X5_at st_X5_at (sp_at) ⟨Nat.le_of_ble_eq_true rfl, Nat.le_of_ble_eq_true rfl, Nat.le_of_ble_eq_true rfl, Nat.le_of_ble_eq_true rfl, Nat.le_of_ble_eq_true rfl⟩ ?_
        refine x_iload_n dX5_deed_79 rfl ?_
        refine x_iast (9 * 0 + f) dX5_deed_80 rfl (by omega) (show _ < 63 by omega) ?_
        refine x_aload_n dX5_deed_81 rfl ?_
        refine x_getR (j := 51) dX5_deed_82 gf_RX5_7 rfl rfl (hN _ _ (by decide)) ?_
        refine x_iconst dX5_deed_85 ?_
        refine x_iload_n dX5_deed_86 rfl ?_
        refine xf_SI2 dX5_deed_87 ml_RX5_82 vw_X5_at st_X5_at (sp_at) ⟨Nat.le_of_ble_eq_true rfl, Nat.le_of_ble_eq_true rfl, Nat.le_of_ble_eq_true rfl, Nat.le_of_ble_eq_true rfl, Nat.le_of_ble_eq_true rfl⟩ ?_
        refine x_dup2 dX5_deed_90 ?_
        refine x_iald (9 * 1 + f) dX5_deed_91 rfl (by omega) (show _ < 63 by omega) ?_
        rw [up_n2 (by omega)]
        rw [show I 51 (9 * 1 + f) = fm I f 1 from (fm_at (by omega)).symm]
        refine x_iload_n dX5_deed_92 rfl ?_
        refine x_bipush dX5_deed_93 (by decide) ?_
        refine x_icmp_ne 102 dX5_deed_95 (by decide) (by unfold inr; omega) (by unfold inr; omega) (fun h_95 => ?_) (fun h_95 => ?_)
        · refine x_iconst dX5_deed_102 ?_
          refine x_iadd dX5_deed_103 ?_
          refine x_iast (9 * 1 + f) dX5_deed_104 rfl (by omega) (show _ < 63 by omega) ?_
          refine x_aload_n dX5_deed_105 rfl ?_
          refine x_getR (j := 51) dX5_deed_106 gf_RX5_7 rfl rfl (hN _ _ (by decide)) ?_
          refine x_iconst dX5_deed_109 ?_
          refine x_iload_n dX5_deed_110 rfl ?_
          refine xf_SI2 dX5_deed_111 ml_RX5_82 vw_X5_at st_X5_at (sp_at) ⟨Nat.le_of_ble_eq_true rfl, Nat.le_of_ble_eq_true rfl, Nat.le_of_ble_eq_true rfl, Nat.le_of_ble_eq_true rfl, Nat.le_of_ble_eq_true rfl⟩ ?_
          refine x_dup2 dX5_deed_114 ?_
          refine x_iald (9 * 4 + f) dX5_deed_115 rfl (by omega) (show _ < 63 by omega) ?_
          rw [up_n2 (by omega), up_n2 (by omega)]
          rw [show I 51 (9 * 4 + f) = fm I f 4 from (fm_at (by omega)).symm]
          refine x_iload_n dX5_deed_116 rfl ?_
          refine x_if_ne 124 dX5_deed_117 (by decide) (by unfold inr; omega) (fun h_117 => ?_) (fun h_117 => ?_)
          · refine x_iconst dX5_deed_124 ?_
            (first | refine x_ixor (1 - fm I f 4) dX5_deed_125 (xor1 (by omega)) ?_ | refine x_ixor (fm I f 4) dX5_deed_125 (xor0 (by omega)) ?_)
            refine x_iast (9 * 4 + f) dX5_deed_126 rfl (by omega) (show _ < 63 by omega) ?_
            refine x_iconst dX5_deed_127 ?_
            refine hret _ _ _ _ _ _ dX5_deed_128 rfl ?_
            first
            | (exfalso; omega)
            | (have er : reF (fm I) f a = 0 := by
                 unfold reF
                 (repeat (first | rw [if_pos (by omega)] | rw [if_neg (by omega)]))
               refine ⟨rfl, rfl, er.symm, ?_, fun x y q => by rw [up_n (by omega), up_n (by omega), up_n (by omega)]⟩
               rw [er, if_pos rfl, fm_put (by omega), fm_put (by omega), fm_put (by omega)]
               exact ap3 (by omega))
          · refine x_iconst dX5_deed_120 ?_
            refine x_goto 125 dX5_deed_121 (by decide) ?_
            (first | refine x_ixor (1 - fm I f 4) dX5_deed_125 (xor1 (by omega)) ?_ | refine x_ixor (fm I f 4) dX5_deed_125 (xor0 (by omega)) ?_)
            refine x_iast (9 * 4 + f) dX5_deed_126 rfl (by omega) (show _ < 63 by omega) ?_
            refine x_iconst dX5_deed_127 ?_
            refine hret _ _ _ _ _ _ dX5_deed_128 rfl ?_
            first
            | (exfalso; omega)
            | (have er : reF (fm I) f a = 0 := by
                 unfold reF
                 (repeat (first | rw [if_pos (by omega)] | rw [if_neg (by omega)]))
               refine ⟨rfl, rfl, er.symm, ?_, fun x y q => by rw [up_n (by omega), up_n (by omega), up_n (by omega)]⟩
               rw [er, if_pos rfl, fm_put (by omega), fm_put (by omega), fm_put (by omega)]
               exact ap3 (by omega))
        · refine x_iconst dX5_deed_98 ?_
          refine x_goto 103 dX5_deed_99 (by decide) ?_
          refine x_iadd dX5_deed_103 ?_
          refine x_iast (9 * 1 + f) dX5_deed_104 rfl (by omega) (show _ < 63 by omega) ?_
          refine x_aload_n dX5_deed_105 rfl ?_
          refine x_getR (j := 51) dX5_deed_106 gf_RX5_7 rfl rfl (hN _ _ (by decide)) ?_
          refine x_iconst dX5_deed_109 ?_
          refine x_iload_n dX5_deed_110 rfl ?_
          refine xf_SI2 dX5_deed_111 ml_RX5_82 vw_X5_at st_X5_at (sp_at) ⟨Nat.le_of_ble_eq_true rfl, Nat.le_of_ble_eq_true rfl, Nat.le_of_ble_eq_true rfl, Nat.le_of_ble_eq_true rfl, Nat.le_of_ble_eq_true rfl⟩ ?_
          refine x_dup2 dX5_deed_114 ?_
          refine x_iald (9 * 4 + f) dX5_deed_115 rfl (by omega) (show _ < 63 by omega) ?_
          rw [up_n2 (by omega), up_n2 (by omega)]
          rw [show I 51 (9 * 4 + f) = fm I f 4 from (fm_at (by omega)).symm]
          refine x_iload_n dX5_deed_116 rfl ?_
          refine x_if_ne 124 dX5_deed_117 (by decide) (by unfold inr; omega) (fun h_117 => ?_) (fun h_117 => ?_)
          · refine x_iconst dX5_deed_124 ?_
            (first | refine x_ixor (1 - fm I f 4) dX5_deed_125 (xor1 (by omega)) ?_ | refine x_ixor (fm I f 4) dX5_deed_125 (xor0 (by omega)) ?_)
            refine x_iast (9 * 4 + f) dX5_deed_126 rfl (by omega) (show _ < 63 by omega) ?_
            refine x_iconst dX5_deed_127 ?_
            refine hret _ _ _ _ _ _ dX5_deed_128 rfl ?_
            first
            | (exfalso; omega)
            | (have er : reF (fm I) f a = 0 := by
                 unfold reF
                 (repeat (first | rw [if_pos (by omega)] | rw [if_neg (by omega)]))
               refine ⟨rfl, rfl, er.symm, ?_, fun x y q => by rw [up_n (by omega), up_n (by omega), up_n (by omega)]⟩
               rw [er, if_pos rfl, fm_put (by omega), fm_put (by omega), fm_put (by omega)]
               exact ap3 (by omega))
          · refine x_iconst dX5_deed_120 ?_
            refine x_goto 125 dX5_deed_121 (by decide) ?_
            (first | refine x_ixor (1 - fm I f 4) dX5_deed_125 (xor1 (by omega)) ?_ | refine x_ixor (fm I f 4) dX5_deed_125 (xor0 (by omega)) ?_)
            refine x_iast (9 * 4 + f) dX5_deed_126 rfl (by omega) (show _ < 63 by omega) ?_
            refine x_iconst dX5_deed_127 ?_
            refine hret _ _ _ _ _ _ dX5_deed_128 rfl ?_
            first
            | (exfalso; omega)
            | (have er : reF (fm I) f a = 0 := by
                 unfold reF
                 (repeat (first | rw [if_pos (by omega)] | rw [if_neg (by omega)]))
               refine ⟨rfl, rfl, er.symm, ?_, fun x y q => by rw [up_n (by omega), up_n (by omega), up_n (by omega)]⟩
               rw [er, if_pos rfl, fm_put (by omega), fm_put (by omega), fm_put (by omega)]
               exact ap3 (by omega))
      · refine x_aload_n dX5_deed_53 rfl ?_
        refine x_getR (j := 51) dX5_deed_54 gf_RX5_7 rfl rfl (hN _ _ (by decide)) ?_
        refine x_iconst dX5_deed_57 ?_
        refine x_iload_n dX5_deed_58 rfl ?_
        refine xf_SI2 dX5_deed_59 ml_RX5_82 vw_X5_at st_X5_at (sp_at) ⟨Nat.le_of_ble_eq_true rfl, Nat.le_of_ble_eq_true rfl, Nat.le_of_ble_eq_true rfl, Nat.le_of_ble_eq_true rfl, Nat.le_of_ble_eq_true rfl⟩ ?_
        refine x_iald (9 * 1 + f) dX5_deed_62 rfl (by omega) (show _ < 63 by omega) ?_
        rw [show I 51 (9 * 1 + f) = fm I f 1 from (fm_at (by omega)).symm]
        refine x_bipush dX5_deed_63 (by decide) ?_
        refine x_icmp_ne 70 dX5_deed_65 (by decide) (by unfold inr; omega) (by unfold inr; omega) (fun h_65 => ?_) (fun h_65 => ?_)
        · refine x_aload_n dX5_deed_70 rfl ?_
          refine x_getR (j := 51) dX5_deed_71 gf_RX5_7 rfl rfl (hN _ _ (by decide)) ?_
          refine x_iconst dX5_deed_74 ?_
          refine x_iload_n dX5_deed_75 rfl ?_
          refine xf_SI2 dX5_deed_76 ml_RX5_82 vw_X5_at st_X5_at (sp_at) ⟨Nat.le_of_ble_eq_true rfl, Nat.le_of_ble_eq_true rfl, Nat.le_of_ble_eq_true rfl, Nat.le_of_ble_eq_true rfl, Nat.le_of_ble_eq_true rfl⟩ ?_
          refine x_iload_n dX5_deed_79 rfl ?_
          refine x_iast (9 * 0 + f) dX5_deed_80 rfl (by omega) (show _ < 63 by omega) ?_
          refine x_aload_n dX5_deed_81 rfl ?_
          refine x_getR (j := 51) dX5_deed_82 gf_RX5_7 rfl rfl (hN _ _ (by decide)) ?_
          refine x_iconst dX5_deed_85 ?_
          refine x_iload_n dX5_deed_86 rfl ?_
          refine xf_SI2 dX5_deed_87 ml_RX5_82 vw_X5_at st_X5_at (sp_at) ⟨Nat.le_of_ble_eq_true rfl, Nat.le_of_ble_eq_true rfl, Nat.le_of_ble_eq_true rfl, Nat.le_of_ble_eq_true rfl, Nat.le_of_ble_eq_true rfl⟩ ?_
          refine x_dup2 dX5_deed_90 ?_
          refine x_iald (9 * 1 + f) dX5_deed_91 rfl (by omega) (show _ < 63 by omega) ?_
          rw [up_n2 (by omega)]
          rw [show I 51 (9 * 1 + f) = fm I f 1 from (fm_at (by omega)).symm]
          refine x_iload_n dX5_deed_92 rfl ?_
          refine x_bipush dX5_deed_93 (by decide) ?_
          refine x_icmp_ne 102 dX5_deed_95 (by decide) (by unfold inr; omega) (by unfold inr; omega) (fun h_95 => ?_) (fun h_95 => ?_)
          · refine x_iconst dX5_deed_102 ?_
            refine x_iadd dX5_deed_103 ?_
            refine x_iast (9 * 1 + f) dX5_deed_104 rfl (by omega) (show _ < 63 by omega) ?_
            refine x_aload_n dX5_deed_105 rfl ?_
            refine x_getR (j := 51) dX5_deed_106 gf_RX5_7 rfl rfl (hN _ _ (by decide)) ?_
            refine x_iconst dX5_deed_109 ?_
            refine x_iload_n dX5_deed_110 rfl ?_
            refine xf_SI2 dX5_deed_111 ml_RX5_82 vw_X5_at st_X5_at (sp_at) ⟨Nat.le_of_ble_eq_true rfl, Nat.le_of_ble_eq_true rfl, Nat.le_of_ble_eq_true rfl, Nat.le_of_ble_eq_true rfl, Nat.le_of_ble_eq_true rfl⟩ ?_
            refine x_dup2 dX5_deed_114 ?_
            refine x_iald (9 * 4 + f) dX5_deed_115 rfl (by omega) (show _ < 63 by omega) ?_
            rw [up_n2 (by omega), up_n2 (by omega)]
            rw [show I 51 (9 * 4 + f) = fm I f 4 from (fm_at (by omega)).symm]
            refine x_iload_n dX5_deed_116 rfl ?_
            refine x_if_ne 124 dX5_deed_117 (by decide) (by unfold inr; omega) (fun h_117 => ?_) (fun h_117 => ?_)
            · refine x_iconst dX5_deed_124 ?_
              (first | refine x_ixor (1 - fm I f 4) dX5_deed_125 (xor1 (by omega)) ?_ | refine x_ixor (fm I f 4) dX5_deed_125 (xor0 (by omega)) ?_)
              refine x_iast (9 * 4 + f) dX5_deed_126 rfl (by omega) (show _ < 63 by omega) ?_
              refine x_iconst dX5_deed_127 ?_
              refine hret _ _ _ _ _ _ dX5_deed_128 rfl ?_
              first
              | (exfalso; omega)
              | (have er : reF (fm I) f a = 0 := by
                   unfold reF
                   (repeat (first | rw [if_pos (by omega)] | rw [if_neg (by omega)]))
                 refine ⟨rfl, rfl, er.symm, ?_, fun x y q => by rw [up_n (by omega), up_n (by omega), up_n (by omega)]⟩
                 rw [er, if_pos rfl, fm_put (by omega), fm_put (by omega), fm_put (by omega)]
                 exact ap3 (by omega))
            · refine x_iconst dX5_deed_120 ?_
              refine x_goto 125 dX5_deed_121 (by decide) ?_
              (first | refine x_ixor (1 - fm I f 4) dX5_deed_125 (xor1 (by omega)) ?_ | refine x_ixor (fm I f 4) dX5_deed_125 (xor0 (by omega)) ?_)
              refine x_iast (9 * 4 + f) dX5_deed_126 rfl (by omega) (show _ < 63 by omega) ?_
              refine x_iconst dX5_deed_127 ?_
              refine hret _ _ _ _ _ _ dX5_deed_128 rfl ?_
              first
              | (exfalso; omega)
              | (have er : reF (fm I) f a = 0 := by
                   unfold reF
                   (repeat (first | rw [if_pos (by omega)] | rw [if_neg (by omega)]))
                 refine ⟨rfl, rfl, er.symm, ?_, fun x y q => by rw [up_n (by omega), up_n (by omega), up_n (by omega)]⟩
                 rw [er, if_pos rfl, fm_put (by omega), fm_put (by omega), fm_put (by omega)]
                 exact ap3 (by omega))
          · refine x_iconst dX5_deed_98 ?_
            refine x_goto 103 dX5_deed_99 (by decide) ?_
            refine x_iadd dX5_deed_103 ?_
            refine x_iast (9 * 1 + f) dX5_deed_104 rfl (by omega) (show _ < 63 by omega) ?_
            refine x_aload_n dX5_deed_105 rfl ?_
            refine x_getR (j := 51) dX5_deed_106 gf_RX5_7 rfl rfl (hN _ _ (by decide)) ?_
            refine x_iconst dX5_deed_109 ?_
            refine x_iload_n dX5_deed_110 rfl ?_
            refine xf_SI2 dX5_deed_111 ml_RX5_82 vw_X5_at st_X5_at (sp_at) ⟨Nat.le_of_ble_eq_true rfl, Nat.le_of_ble_eq_true rfl, Nat.le_of_ble_eq_true rfl, Nat.le_of_ble_eq_true rfl, Nat.le_of_ble_eq_true rfl⟩ ?_
            refine x_dup2 dX5_deed_114 ?_
            refine x_iald (9 * 4 + f) dX5_deed_115 rfl (by omega) (show _ < 63 by omega) ?_
            rw [up_n2 (by omega), up_n2 (by omega)]
            rw [show I 51 (9 * 4 + f) = fm I f 4 from (fm_at (by omega)).symm]
            refine x_iload_n dX5_deed_116 rfl ?_
            refine x_if_ne 124 dX5_deed_117 (by decide) (by unfold inr; omega) (fun h_117 => ?_) (fun h_117 => ?_)
            · refine x_iconst dX5_deed_124 ?_
              (first | refine x_ixor (1 - fm I f 4) dX5_deed_125 (xor1 (by omega)) ?_ | refine x_ixor (fm I f 4) dX5_deed_125 (xor0 (by omega)) ?_)
              refine x_iast (9 * 4 + f) dX5_deed_126 rfl (by omega) (show _ < 63 by omega) ?_
              refine x_iconst dX5_deed_127 ?_
              refine hret _ _ _ _ _ _ dX5_deed_128 rfl ?_
              first
              | (exfalso; omega)
              | (have er : reF (fm I) f a = 0 := by
                   unfold reF
                   (repeat (first | rw [if_pos (by omega)] | rw [if_neg (by omega)]))
                 refine ⟨rfl, rfl, er.symm, ?_, fun x y q => by rw [up_n (by omega), up_n (by omega), up_n (by omega)]⟩
                 rw [er, if_pos rfl, fm_put (by omega), fm_put (by omega), fm_put (by omega)]
                 exact ap3 (by omega))
            · refine x_iconst dX5_deed_120 ?_
              refine x_goto 125 dX5_deed_121 (by decide) ?_
              (first | refine x_ixor (1 - fm I f 4) dX5_deed_125 (xor1 (by omega)) ?_ | refine x_ixor (fm I f 4) dX5_deed_125 (xor0 (by omega)) ?_)
              refine x_iast (9 * 4 + f) dX5_deed_126 rfl (by omega) (show _ < 63 by omega) ?_
              refine x_iconst dX5_deed_127 ?_
              refine hret _ _ _ _ _ _ dX5_deed_128 rfl ?_
              first
              | (exfalso; omega)
              | (have er : reF (fm I) f a = 0 := by
                   unfold reF
                   (repeat (first | rw [if_pos (by omega)] | rw [if_neg (by omega)]))
                 refine ⟨rfl, rfl, er.symm, ?_, fun x y q => by rw [up_n (by omega), up_n (by omega), up_n (by omega)]⟩
                 rw [er, if_pos rfl, fm_put (by omega), fm_put (by omega), fm_put (by omega)]
                 exact ap3 (by omega))
        · refine x_iconst dX5_deed_68 ?_
          refine hret _ _ _ _ _ _ dX5_deed_69 rfl ?_
          first
          | (exfalso; omega)
          | (have er : reF (fm I) f a = 2 := by
               unfold reF
               (repeat (first | rw [if_pos (by omega)] | rw [if_neg (by omega)]))
             exact ⟨rfl, rfl, er.symm, by rw [er, if_neg (by decide)], fun _ _ _ => rfl⟩)
    · replace h_42 := b0 h_42
      refine x_iconst dX5_deed_45 ?_
      refine hret _ _ _ _ _ _ dX5_deed_46 rfl ?_
      first
      | (exfalso; omega)
      | (have er : reF (fm I) f a = 1 := by
           unfold reF
           (repeat (first | rw [if_pos (by omega)] | rw [if_neg (by omega)]))
         exact ⟨rfl, rfl, er.symm, by rw [er, if_neg (by decide)], fun _ _ _ => rfl⟩)
end FR

/-! ===== the reference: hours, springs, heights, dry years ===== -/
theorem hrA_le {F : FT} {l0 : Int} {n : Nat} (hO : okD F n 1000000) : ∀ f, f ≤ n → hrA F (tok F 0 l0) f ≤ 1000
  | 0, _ => by simp [hrA]
  | f + 1, hf => by
    have ih := hrA_le (l0 := l0) hO f (by omega)
    have ht := hO.tokb (kn := 0) (l := l0) (show f < n by omega)
    have hb := hO f (by omega)
    have hl : 0 ≤ lackF F f ∧ lackF F f ≤ 99 := by unfold lackF; omega
    show (if hrA F (tok F 0 l0) f < 0 then hrA F (tok F 0 l0) f else if 0 < lackF F f then (if tok F 0 l0 f ≤ 0 then -6 else max (hrA F (tok F 0 l0) f) ((lackF F f + tok F 0 l0 f - 1) / tok F 0 l0 f)) else hrA F (tok F 0 l0) f) ≤ 1000
    split
    · exact ih
    · split
      · split
        · omega
        · have : (lackF F f + tok F 0 l0 f - 1) / tok F 0 l0 f ≤ 1000 := Int.le_trans (Int.ediv_le_self _ (by omega)) (by omega)
          omega
      · exact ih
section FR
variable {G : GT} {K : List Nat} {N : NN} {I : MM} {n : Nat}
theorem sp_wanting (hN : NS N) (hB : RM I n) (f : Nat) (hf : f < n) {z : Int} (hz : z = (f : Int)) : SpI G mX5_wanting .int 1 21 0 0 [.ref 50, vi z] K N I (qI K N I (lackF (fm I) f)) := by
  refine SpI.of (own := RX5) (cc := cX5_wanting) (L := [some (.ref 50), some (vi z), none]) (by decide) rfl rfl (Nat.le_of_ble_eq_true rfl) rfl (fun Fx hnm hret => ?_)
  have hn9 := hB.2.2.1
  have bf := hB.2.2.2.1 f hf
  refine x_aload_n dX5_wanting_0 rfl ?_
  refine x_getR (j := 51) dX5_wanting_1 gf_RX5_7 rfl rfl (hN _ _ (by decide)) ?_
  refine x_iconst dX5_wanting_4 ?_
  refine x_iload_n dX5_wanting_5 rfl ?_
  refine xf_SI2 dX5_wanting_6 ml_RX5_82 vw_X5_at st_X5_at (sp_at) ⟨Nat.le_of_ble_eq_true rfl, Nat.le_of_ble_eq_true rfl, Nat.le_of_ble_eq_true rfl, Nat.le_of_ble_eq_true rfl, Nat.le_of_ble_eq_true rfl⟩ ?_
  refine x_iald (9 * 2 + f) dX5_wanting_9 rfl (by omega) (show _ < 63 by omega) ?_
  rw [show I 51 (9 * 2 + f) = fm I f 2 from (fm_at (by omega)).symm]
  refine x_aload_n dX5_wanting_10 rfl ?_
  refine x_getR (j := 51) dX5_wanting_11 gf_RX5_7 rfl rfl (hN _ _ (by decide)) ?_
  refine x_bipush dX5_wanting_14 (by decide) ?_
  refine x_iload_n dX5_wanting_16 rfl ?_
  refine xf_SI2 dX5_wanting_17 ml_RX5_82 vw_X5_at st_X5_at (sp_at) ⟨Nat.le_of_ble_eq_true rfl, Nat.le_of_ble_eq_true rfl, Nat.le_of_ble_eq_true rfl, Nat.le_of_ble_eq_true rfl, Nat.le_of_ble_eq_true rfl⟩ ?_
  refine x_iald (9 * 6 + f) dX5_wanting_20 rfl (by omega) (show _ < 63 by omega) ?_
  rw [show I 51 (9 * 6 + f) = fm I f 6 from (fm_at (by omega)).symm]
  refine x_isub dX5_wanting_21 ?_
  refine x_ist2 dX5_wanting_22 ?_
  refine x_iload_n dX5_wanting_23 rfl ?_
  refine x_if_le 31 dX5_wanting_24 (by decide) (by unfold inr; omega) (fun h_24 => ?_) (fun h_24 => ?_)
  · refine x_iconst dX5_wanting_31 ?_
    refine hret _ _ _ _ _ _ dX5_wanting_32 rfl ?_
    refine ⟨rfl, rfl, rfl, ?_⟩
    unfold lackF; omega
  · refine x_iload_n dX5_wanting_27 rfl ?_
    refine x_goto 32 dX5_wanting_28 (by decide) ?_
    refine hret _ _ _ _ _ _ dX5_wanting_32 rfl ?_
    refine ⟨rfl, rfl, rfl, ?_⟩
    unfold lackF; omega
theorem sp_hoursNow (hN : NS N) (hB : RM I n) : SpI G mX5_hoursNow .int 3 69 0 0 [.ref 50] K N I (qI K N (fmJ I 0 n) (hrA (fm I) (tok (fm I) 0 (l0M I 0)) n)) := by
  refine SpI.of (own := RX5) (cc := cX5_hoursNow) (L := [some (.ref 50), none, none, none, none]) (by decide) rfl rfl (Nat.le_of_ble_eq_true rfl) rfl (fun Fx hnm hret => ?_)
  have hn9 := hB.2.2.1
  obtain ⟨J, hJ⟩ : ∃ J, J = fmJ I 0 n := ⟨_, rfl⟩
  have hk : kpM I J := by rw [hJ]; exact kpM.rf.fl
  have hBJ := hk.RM hB
  have hJ0 := hBJ.1
  have hA : ∀ g, g < n → J 57 g = tok (fm I) 0 (l0M I 0) g := fun g hg => by rw [hJ]; exact fmJ_t hg
  have lp : ∀ (m : Nat) (g : Nat) (z l : Int), g ≤ n → n < g + m → z = (g : Int) → l = hrA (fm I) (tok (fm I) 0 (l0M I 0)) g → 0 ≤ l ∧ l ≤ 1000 → XX G RX5 cX5_hoursNow (RmW 3 69 0 0) Fx 9 [some (.ref 50), some (vi l), some (vi z), none, none] [] K N J 0 0 := by
    intro m
    induction m with
    | zero => intros; exfalso; omega
    | succ m ih =>
      intro g z l h0 h1 h2 h3 h4
      have bT : g < n → _ := fun hg => hB.tokb (kn := 0) hg
      have bF : g < n → _ := hB.2.2.2.1 g
      refine x_iload_n dX5_hoursNow_9 rfl ?_
      refine x_aload_n dX5_hoursNow_10 rfl ?_
      refine x_getI dX5_hoursNow_11 gf_RX5_73 rfl rfl ?_
      rw [hJ0]
      refine x_icmp_ge 85 dX5_hoursNow_14 (by decide) (by unfold inr; omega) (by unfold inr; omega) (fun h_14 => ?_) (fun h_14 => ?_)
      · refine x_iload_n dX5_hoursNow_85 rfl ?_
        refine hret _ _ _ _ _ _ dX5_hoursNow_86 rfl ?_
        obtain rfl : g = n := by omega
        exact ⟨rfl, rfl, hJ, h3⟩
      · refine x_aload_n dX5_hoursNow_17 rfl ?_
        refine x_iload_n dX5_hoursNow_18 rfl ?_
        refine xf_VI1 dX5_hoursNow_19 ml_RX5_176 vw_X5_wanting vv_X5_wanting rfl (sp_wanting hN hBJ g (by omega) h2) ⟨Nat.le_of_ble_eq_true rfl, Nat.le_of_ble_eq_true rfl, Nat.le_of_ble_eq_true rfl, Nat.le_of_ble_eq_true rfl, Nat.le_of_ble_eq_true rfl⟩ ?_
        rw [hk.fm]
        obtain ⟨a, ha⟩ : ∃ a, a = lackF (fm I) g := ⟨_, rfl⟩
        obtain ⟨t, ht⟩ : ∃ t, t = tok (fm I) 0 (l0M I 0) g := ⟨_, rfl⟩
        have bF2 := bF (by omega)
        have bT2 := bT (by omega)
        have hJt := hA g (by omega)
        have ba : 0 ≤ a ∧ a ≤ 99 := by rw [ha]; unfold lackF; omega
        rw [← ht] at bT2 hJt
        rw [← ha]
        refine x_ist3 dX5_hoursNow_22 ?_
        refine x_iload_n dX5_hoursNow_23 rfl ?_
        refine x_if_le 39 dX5_hoursNow_24 (by decide) (by unfold inr; omega) (fun h_24 => ?_) (fun h_24 => ?_)
        · refine x_iload_n dX5_hoursNow_39 rfl ?_
          refine x_if_ne 47 dX5_hoursNow_40 (by decide) (by unfold inr; omega) (fun h_40 => ?_) (fun h_40 => ?_)
          · refine x_iload_n dX5_hoursNow_47 rfl ?_
            refine x_aload_n dX5_hoursNow_48 rfl ?_
            refine x_getR (j := 57) dX5_hoursNow_49 gf_RX5_28 rfl rfl (hN _ _ (by decide)) ?_
            refine x_iload_n dX5_hoursNow_52 rfl ?_
            refine x_iald (g) dX5_hoursNow_53 rfl h2 (show _ < 9 by omega) ?_
            rw [hJt]
            refine x_iadd dX5_hoursNow_54 ?_
            refine x_iconst dX5_hoursNow_55 ?_
            refine x_isub dX5_hoursNow_56 ?_
            refine x_aload_n dX5_hoursNow_57 rfl ?_
            refine x_getR (j := 57) dX5_hoursNow_58 gf_RX5_28 rfl rfl (hN _ _ (by decide)) ?_
            refine x_iload_n dX5_hoursNow_61 rfl ?_
            refine x_iald (g) dX5_hoursNow_62 rfl h2 (show _ < 9 by omega) ?_
            rw [hJt]
            refine x_idiv dX5_hoursNow_63 (by unfold inr; omega) (by unfold inr; omega) ?_
            have dv : 0 ≤ (a + t - 1) / t ∧ (a + t - 1) / t ≤ 1000 := ⟨Int.ediv_nonneg (by omega) (by omega), Int.le_trans (Int.ediv_le_self t (by omega)) (by omega)⟩
            refine x_ist4 dX5_hoursNow_64 ?_
            refine x_iload dX5_hoursNow_66 rfl ?_
            refine x_iload_n dX5_hoursNow_68 rfl ?_
            refine x_icmp_le 77 dX5_hoursNow_69 (by decide) (by have := bF (by omega); (try have := dv); unfold inr; omega) (by unfold inr; omega) (fun h_69 => ?_) (fun h_69 => ?_)
            · refine x_iload_n dX5_hoursNow_77 rfl ?_
              refine x_ist1 dX5_hoursNow_78 ?_
              refine x_inc2 dX5_hoursNow_79 ?_
              refine x_goto 9 dX5_hoursNow_82 (by decide) ?_
              have e : hrA (fm I) (tok (fm I) 0 (l0M I 0)) (g + 1) = (if 0 < a then (if t ≤ 0 then -6 else max l ((a + t - 1) / t)) else l) := by
                show (if hrA (fm I) (tok (fm I) 0 (l0M I 0)) g < 0 then _ else _) = _
                rw [if_neg (by omega), ← h3, ← ha, ← ht]
              refine x_dr4 (x_dr3 (ih (g + 1) _ _ (by omega) (by omega) (by omega) ?_ ?_))
              · rw [e]
                first
                | (rw [if_neg (show ¬ 0 < a by omega)]; try omega)
                | (rw [if_pos (show 0 < a by omega), if_neg (show ¬ t ≤ 0 by omega)]; try omega)
              · omega
            · refine x_iload dX5_hoursNow_72 rfl ?_
              refine x_goto 78 dX5_hoursNow_74 (by decide) ?_
              refine x_ist1 dX5_hoursNow_78 ?_
              refine x_inc2 dX5_hoursNow_79 ?_
              refine x_goto 9 dX5_hoursNow_82 (by decide) ?_
              have e : hrA (fm I) (tok (fm I) 0 (l0M I 0)) (g + 1) = (if 0 < a then (if t ≤ 0 then -6 else max l ((a + t - 1) / t)) else l) := by
                show (if hrA (fm I) (tok (fm I) 0 (l0M I 0)) g < 0 then _ else _) = _
                rw [if_neg (by omega), ← h3, ← ha, ← ht]
              refine x_dr4 (x_dr3 (ih (g + 1) _ _ (by omega) (by omega) (by omega) ?_ ?_))
              · rw [e]
                first
                | (rw [if_neg (show ¬ 0 < a by omega)]; try omega)
                | (rw [if_pos (show 0 < a by omega), if_neg (show ¬ t ≤ 0 by omega)]; try omega)
              · omega
          · refine x_iconst dX5_hoursNow_43 ?_
            refine x_goto 64 dX5_hoursNow_44 (by decide) ?_
            refine x_ist4 dX5_hoursNow_64 ?_
            refine x_iload dX5_hoursNow_66 rfl ?_
            refine x_iload_n dX5_hoursNow_68 rfl ?_
            refine x_icmp_le 77 dX5_hoursNow_69 (by decide) (by have := bF (by omega); (try have := dv); unfold inr; omega) (by unfold inr; omega) (fun h_69 => ?_) (fun h_69 => ?_)
            · refine x_iload_n dX5_hoursNow_77 rfl ?_
              refine x_ist1 dX5_hoursNow_78 ?_
              refine x_inc2 dX5_hoursNow_79 ?_
              refine x_goto 9 dX5_hoursNow_82 (by decide) ?_
              have e : hrA (fm I) (tok (fm I) 0 (l0M I 0)) (g + 1) = (if 0 < a then (if t ≤ 0 then -6 else max l ((a + t - 1) / t)) else l) := by
                show (if hrA (fm I) (tok (fm I) 0 (l0M I 0)) g < 0 then _ else _) = _
                rw [if_neg (by omega), ← h3, ← ha, ← ht]
              refine x_dr4 (x_dr3 (ih (g + 1) _ _ (by omega) (by omega) (by omega) ?_ ?_))
              · rw [e]
                first
                | (rw [if_neg (show ¬ 0 < a by omega)]; try omega)
                | (rw [if_pos (show 0 < a by omega), if_neg (show ¬ t ≤ 0 by omega)]; try omega)
              · omega
            · refine x_iload dX5_hoursNow_72 rfl ?_
              refine x_goto 78 dX5_hoursNow_74 (by decide) ?_
              refine x_ist1 dX5_hoursNow_78 ?_
              refine x_inc2 dX5_hoursNow_79 ?_
              refine x_goto 9 dX5_hoursNow_82 (by decide) ?_
              have e : hrA (fm I) (tok (fm I) 0 (l0M I 0)) (g + 1) = (if 0 < a then (if t ≤ 0 then -6 else max l ((a + t - 1) / t)) else l) := by
                show (if hrA (fm I) (tok (fm I) 0 (l0M I 0)) g < 0 then _ else _) = _
                rw [if_neg (by omega), ← h3, ← ha, ← ht]
              refine x_dr4 (x_dr3 (ih (g + 1) _ _ (by omega) (by omega) (by omega) ?_ ?_))
              · rw [e]
                first
                | (rw [if_neg (show ¬ 0 < a by omega)]; try omega)
                | (rw [if_pos (show 0 < a by omega), if_neg (show ¬ t ≤ 0 by omega)]; try omega)
              · omega
        · refine x_aload_n dX5_hoursNow_27 rfl ?_
          refine x_getR (j := 57) dX5_hoursNow_28 gf_RX5_28 rfl rfl (hN _ _ (by decide)) ?_
          refine x_iload_n dX5_hoursNow_31 rfl ?_
          refine x_iald (g) dX5_hoursNow_32 rfl h2 (show _ < 9 by omega) ?_
          rw [hJt]
          refine x_if_ne 39 dX5_hoursNow_33 (by decide) (by unfold inr; omega) (fun h_33 => ?_) (fun h_33 => ?_)
          · refine x_iload_n dX5_hoursNow_39 rfl ?_
            refine x_if_ne 47 dX5_hoursNow_40 (by decide) (by unfold inr; omega) (fun h_40 => ?_) (fun h_40 => ?_)
            · refine x_iload_n dX5_hoursNow_47 rfl ?_
              refine x_aload_n dX5_hoursNow_48 rfl ?_
              refine x_getR (j := 57) dX5_hoursNow_49 gf_RX5_28 rfl rfl (hN _ _ (by decide)) ?_
              refine x_iload_n dX5_hoursNow_52 rfl ?_
              refine x_iald (g) dX5_hoursNow_53 rfl h2 (show _ < 9 by omega) ?_
              rw [hJt]
              refine x_iadd dX5_hoursNow_54 ?_
              refine x_iconst dX5_hoursNow_55 ?_
              refine x_isub dX5_hoursNow_56 ?_
              refine x_aload_n dX5_hoursNow_57 rfl ?_
              refine x_getR (j := 57) dX5_hoursNow_58 gf_RX5_28 rfl rfl (hN _ _ (by decide)) ?_
              refine x_iload_n dX5_hoursNow_61 rfl ?_
              refine x_iald (g) dX5_hoursNow_62 rfl h2 (show _ < 9 by omega) ?_
              rw [hJt]
              refine x_idiv dX5_hoursNow_63 (by unfold inr; omega) (by unfold inr; omega) ?_
              have dv : 0 ≤ (a + t - 1) / t ∧ (a + t - 1) / t ≤ 1000 := ⟨Int.ediv_nonneg (by omega) (by omega), Int.le_trans (Int.ediv_le_self t (by omega)) (by omega)⟩
              refine x_ist4 dX5_hoursNow_64 ?_
              refine x_iload dX5_hoursNow_66 rfl ?_
              refine x_iload_n dX5_hoursNow_68 rfl ?_
              refine x_icmp_le 77 dX5_hoursNow_69 (by decide) (by have := bF (by omega); (try have := dv); unfold inr; omega) (by unfold inr; omega) (fun h_69 => ?_) (fun h_69 => ?_)
              · refine x_iload_n dX5_hoursNow_77 rfl ?_
                refine x_ist1 dX5_hoursNow_78 ?_
                refine x_inc2 dX5_hoursNow_79 ?_
                refine x_goto 9 dX5_hoursNow_82 (by decide) ?_
                have e : hrA (fm I) (tok (fm I) 0 (l0M I 0)) (g + 1) = (if 0 < a then (if t ≤ 0 then -6 else max l ((a + t - 1) / t)) else l) := by
                  show (if hrA (fm I) (tok (fm I) 0 (l0M I 0)) g < 0 then _ else _) = _
                  rw [if_neg (by omega), ← h3, ← ha, ← ht]
                refine x_dr4 (x_dr3 (ih (g + 1) _ _ (by omega) (by omega) (by omega) ?_ ?_))
                · rw [e]
                  first
                  | (rw [if_neg (show ¬ 0 < a by omega)]; try omega)
                  | (rw [if_pos (show 0 < a by omega), if_neg (show ¬ t ≤ 0 by omega)]; try omega)
                · omega
              · refine x_iload dX5_hoursNow_72 rfl ?_
                refine x_goto 78 dX5_hoursNow_74 (by decide) ?_
                refine x_ist1 dX5_hoursNow_78 ?_
                refine x_inc2 dX5_hoursNow_79 ?_
                refine x_goto 9 dX5_hoursNow_82 (by decide) ?_
                have e : hrA (fm I) (tok (fm I) 0 (l0M I 0)) (g + 1) = (if 0 < a then (if t ≤ 0 then -6 else max l ((a + t - 1) / t)) else l) := by
                  show (if hrA (fm I) (tok (fm I) 0 (l0M I 0)) g < 0 then _ else _) = _
                  rw [if_neg (by omega), ← h3, ← ha, ← ht]
                refine x_dr4 (x_dr3 (ih (g + 1) _ _ (by omega) (by omega) (by omega) ?_ ?_))
                · rw [e]
                  first
                  | (rw [if_neg (show ¬ 0 < a by omega)]; try omega)
                  | (rw [if_pos (show 0 < a by omega), if_neg (show ¬ t ≤ 0 by omega)]; try omega)
                · omega
            · refine x_iconst dX5_hoursNow_43 ?_
              refine x_goto 64 dX5_hoursNow_44 (by decide) ?_
              refine x_ist4 dX5_hoursNow_64 ?_
              refine x_iload dX5_hoursNow_66 rfl ?_
              refine x_iload_n dX5_hoursNow_68 rfl ?_
              refine x_icmp_le 77 dX5_hoursNow_69 (by decide) (by have := bF (by omega); (try have := dv); unfold inr; omega) (by unfold inr; omega) (fun h_69 => ?_) (fun h_69 => ?_)
              · refine x_iload_n dX5_hoursNow_77 rfl ?_
                refine x_ist1 dX5_hoursNow_78 ?_
                refine x_inc2 dX5_hoursNow_79 ?_
                refine x_goto 9 dX5_hoursNow_82 (by decide) ?_
                have e : hrA (fm I) (tok (fm I) 0 (l0M I 0)) (g + 1) = (if 0 < a then (if t ≤ 0 then -6 else max l ((a + t - 1) / t)) else l) := by
                  show (if hrA (fm I) (tok (fm I) 0 (l0M I 0)) g < 0 then _ else _) = _
                  rw [if_neg (by omega), ← h3, ← ha, ← ht]
                refine x_dr4 (x_dr3 (ih (g + 1) _ _ (by omega) (by omega) (by omega) ?_ ?_))
                · rw [e]
                  first
                  | (rw [if_neg (show ¬ 0 < a by omega)]; try omega)
                  | (rw [if_pos (show 0 < a by omega), if_neg (show ¬ t ≤ 0 by omega)]; try omega)
                · omega
              · refine x_iload dX5_hoursNow_72 rfl ?_
                refine x_goto 78 dX5_hoursNow_74 (by decide) ?_
                refine x_ist1 dX5_hoursNow_78 ?_
                refine x_inc2 dX5_hoursNow_79 ?_
                refine x_goto 9 dX5_hoursNow_82 (by decide) ?_
                have e : hrA (fm I) (tok (fm I) 0 (l0M I 0)) (g + 1) = (if 0 < a then (if t ≤ 0 then -6 else max l ((a + t - 1) / t)) else l) := by
                  show (if hrA (fm I) (tok (fm I) 0 (l0M I 0)) g < 0 then _ else _) = _
                  rw [if_neg (by omega), ← h3, ← ha, ← ht]
                refine x_dr4 (x_dr3 (ih (g + 1) _ _ (by omega) (by omega) (by omega) ?_ ?_))
                · rw [e]
                  first
                  | (rw [if_neg (show ¬ 0 < a by omega)]; try omega)
                  | (rw [if_pos (show 0 < a by omega), if_neg (show ¬ t ≤ 0 by omega)]; try omega)
                · omega
          · refine x_bipush dX5_hoursNow_36 (by decide) ?_
            refine hret _ _ _ _ _ _ dX5_hoursNow_38 rfl ?_
            have e : hrA (fm I) (tok (fm I) 0 (l0M I 0)) (g + 1) = -6 := by
              show (if hrA (fm I) (tok (fm I) 0 (l0M I 0)) g < 0 then _ else _) = _
              rw [if_neg (by omega), ← ha, ← ht, if_pos (by omega), if_pos (by omega)]
            obtain ⟨q, rfl⟩ : ∃ q, n = (g + 1) + q := ⟨n - (g + 1), by omega⟩
            exact ⟨rfl, rfl, hJ, (hrA_neg e q).symm⟩
  refine x_aload_n dX5_hoursNow_0 rfl ?_
  refine x_iconst dX5_hoursNow_1 ?_
  refine xf_VV1 dX5_hoursNow_2 ml_RX5_131 vw_X5_flow vv_X5_flow rfl (sp_mflow hN hB (by unfold inr; omega)) ⟨Nat.le_of_ble_eq_true rfl, Nat.le_of_ble_eq_true rfl, Nat.le_of_ble_eq_true rfl, Nat.le_of_ble_eq_true rfl, Nat.le_of_ble_eq_true rfl⟩ ?_
  refine x_iconst dX5_hoursNow_5 ?_
  refine x_ist1 dX5_hoursNow_6 ?_
  refine x_iconst dX5_hoursNow_7 ?_
  refine x_ist2 dX5_hoursNow_8 ?_
  rw [← hJ]
  exact lp (n + 1) 0 _ _ (by omega) (by omega) rfl rfl (by omega)
theorem sp_mhours (hN : NS N) (hB : RM I n) : SpI G mX5_hours .int 4 93 0 0 [.ref 50] K N I (qI K N (fmJ I 0 n) (hrA (fm I) (tok (fm I) 0 (l0M I 0)) n)) := by
  refine SpI.of (own := RX5) (cc := cX5_hours) (L := [some (.ref 50)]) (by decide) rfl rfl (Nat.le_of_ble_eq_true rfl) rfl (fun Fx hnm hret => ?_)
  refine x_aload_n dX5_hours_0 rfl ?_
  refine xf_VI0 dX5_hours_1 ml_RX5_179 vw_X5_hoursNow vv_X5_hoursNow rfl (sp_hoursNow hN hB) ⟨Nat.le_of_ble_eq_true rfl, Nat.le_of_ble_eq_true rfl, Nat.le_of_ble_eq_true rfl, Nat.le_of_ble_eq_true rfl, Nat.le_of_ble_eq_true rfl⟩ ?_
  refine hret _ _ _ _ _ _ dX5_hours_4 rfl ?_
  exact ⟨rfl, rfl, rfl, rfl⟩
theorem sp_isEnough (hN : NS N) (hB : RM I n) {d : Int} (hd : 1 ≤ d ∧ d ≤ 24) : SpI G mX5_isEnoughIn .boolean 4 93 0 0 [.ref 50, vi d] K N I (qI K N (fmJ I 0 n) (if okAll (fm I) (l0M I 0) d n = true then 1 else 0)) := by
  refine SpI.of (own := RX5) (cc := cX5_isEnoughIn) (L := [some (.ref 50), some (vi d), none]) (by decide) rfl rfl (Nat.le_of_ble_eq_true rfl) rfl (fun Fx hnm hret => ?_)
  obtain ⟨q1, q2⟩ := hrA_ok (l0 := l0M I 0) hB.2.2.2.1 hd n (Nat.le_refl _)
  obtain ⟨x, hx⟩ : ∃ x, x = hrA (fm I) (tok (fm I) 0 (l0M I 0)) n := ⟨_, rfl⟩
  have q3 := hrA_le (l0 := l0M I 0) hB.2.2.2.1 n (Nat.le_refl _)
  rw [← hx] at q1 q2 q3
  refine x_aload_n dX5_isEnoughIn_0 rfl ?_
  refine xf_VI0 dX5_isEnoughIn_1 ml_RX5_179 vw_X5_hoursNow vv_X5_hoursNow rfl (sp_hoursNow hN hB) ⟨Nat.le_of_ble_eq_true rfl, Nat.le_of_ble_eq_true rfl, Nat.le_of_ble_eq_true rfl, Nat.le_of_ble_eq_true rfl, Nat.le_of_ble_eq_true rfl⟩ ?_
  rw [← hx]
  refine x_ist2 dX5_isEnoughIn_4 ?_
  refine x_iload_n dX5_isEnoughIn_5 rfl ?_
  refine x_if_lt 18 dX5_isEnoughIn_6 (by decide) (by unfold inr; omega) (fun h_6 => ?_) (fun h_6 => ?_)
  · refine x_iconst dX5_isEnoughIn_18 ?_
    refine hret _ _ _ _ _ _ dX5_isEnoughIn_19 rfl ?_
    refine ⟨rfl, rfl, rfl, ?_⟩
    first
    | rw [if_pos (q2.mp (by omega))]
    | rw [if_neg (fun z => by have := q2.mpr z; omega)]
  · refine x_iload_n dX5_isEnoughIn_9 rfl ?_
    refine x_iload_n dX5_isEnoughIn_10 rfl ?_
    refine x_icmp_gt 18 dX5_isEnoughIn_11 (by decide) (by unfold inr; omega) (by unfold inr; omega) (fun h_11 => ?_) (fun h_11 => ?_)
    · refine x_iconst dX5_isEnoughIn_18 ?_
      refine hret _ _ _ _ _ _ dX5_isEnoughIn_19 rfl ?_
      refine ⟨rfl, rfl, rfl, ?_⟩
      first
      | rw [if_pos (q2.mp (by omega))]
      | rw [if_neg (fun z => by have := q2.mpr z; omega)]
    · refine x_iconst dX5_isEnoughIn_14 ?_
      refine x_goto 19 dX5_isEnoughIn_15 (by decide) ?_
      refine hret _ _ _ _ _ _ dX5_isEnoughIn_19 rfl ?_
      refine ⟨rfl, rfl, rfl, ?_⟩
      first
      | rw [if_pos (q2.mp (by omega))]
      | rw [if_neg (fun z => by have := q2.mpr z; omega)]
theorem sp_isTerm {d : Int} (hd : inr d) : SpI G mX5_isTerm .boolean 1 25 0 0 [vi d] K N I (qI K N I (if 1 ≤ d ∧ d ≤ 24 then 1 else 0)) := by
  refine SpI.of (own := RX5) (cc := cX5_isTerm) (L := [some (vi d)]) (by decide) rfl rfl (Nat.le_of_ble_eq_true rfl) rfl (fun Fx hnm hret => ?_)
  refine x_iload_n dX5_isTerm_0 rfl ?_
  refine x_i2l dX5_isTerm_1 hd ?_
  refine x_lconst1 dX5_isTerm_2 ?_
  refine x_ldc2 dX5_isTerm_3 ct_RX5_182 ?_
  refine xf_SI3 dX5_isTerm_6 ml_RX5_86 vw_X5_in st_X5_in (sp_in (by unfold inl; unfold inr at hd; omega) (by unfold inl; omega) (by unfold inl; omega)) ⟨Nat.le_of_ble_eq_true rfl, Nat.le_of_ble_eq_true rfl, Nat.le_of_ble_eq_true rfl, Nat.le_of_ble_eq_true rfl, Nat.le_of_ble_eq_true rfl⟩ ?_
  refine hret _ _ _ _ _ _ dX5_isTerm_9 nbz ?_
  exact ⟨rfl, rfl, rfl, rfl⟩
theorem sp_mspring (hN : NS N) (hB : RM I n) {d : Int} (hd : inr d) : SpI G mX5_spring .int 5 115 0 0 [.ref 50, vi d] K N I (pI K N (fun z J => z = (if 1 ≤ d ∧ d ≤ 24 then lsF (fun s => okAll (fm I) s d n) 100 0 else -2) ∧ kpM I J)) := by
  refine SpI.of (own := RX5) (cc := cX5_spring) (L := [some (.ref 50), some (vi d), none, none, none]) (by decide) rfl rfl (Nat.le_of_ble_eq_true rfl) rfl (fun Fx hnm hret => ?_)
  have hn9 := hB.2.2.1
  refine x_iload_n dX5_spring_0 rfl ?_
  refine xf_SI1 dX5_spring_1 ml_RX5_184 vw_X5_isTerm st_X5_isTerm (sp_isTerm hd) ⟨Nat.le_of_ble_eq_true rfl, Nat.le_of_ble_eq_true rfl, Nat.le_of_ble_eq_true rfl, Nat.le_of_ble_eq_true rfl, Nat.le_of_ble_eq_true rfl⟩ ?_
  refine x_if_ne 10 dX5_spring_4 (by decide) (by unfold inr; split <;> omega) (fun h_4 => ?_) (fun h_4 => ?_)
  · replace h_4 := b1 h_4
    refine x_aload_n dX5_spring_10 rfl ?_
    refine x_getI dX5_spring_11 gf_RX5_66 rfl rfl ?_
    refine x_ist2 dX5_spring_14 ?_
    refine x_bipush dX5_spring_15 (by decide) ?_
    refine x_ist3 dX5_spring_17 ?_
    refine x_bipush dX5_spring_18 (by decide) ?_
    refine x_ist4 dX5_spring_20 ?_
    have lp : ∀ (k : Nat) (x y : Int) (J : MM), k ≤ 100 → y = (k : Int) - 1 → kpX 50 2 I J → x = lsF (fun s => okAll (fm I) s d n) (100 - k) k → XX G RX5 cX5_spring (RmW 5 115 0 0) Fx 22 [some (.ref 50), some (vi d), some (vi (I 50 2)), some (vi x), some (vi y)] [] K N J 0 0 := by
      intro k
      induction k with
      | zero =>
        intro x y J h1 h2 h3 h4
        refine x_iload dX5_spring_22 rfl ?_
        refine x_if_lt 54 dX5_spring_24 (by decide) (by unfold inr; omega) (fun h_24 => ?_) (fun h_24 => ?_)
        · refine x_aload_n dX5_spring_54 rfl ?_
          refine x_iload_n dX5_spring_55 rfl ?_
          refine x_putI dX5_spring_56 pf_RX5_66 rfl rfl ?_
          refine x_iload_n dX5_spring_59 rfl ?_
          refine hret _ _ _ _ _ _ dX5_spring_60 rfl ?_
          refine ⟨rfl, rfl, ?_, h3.back rfl⟩
          rw [if_pos h_4]; exact h4
        · exfalso; omega
      | succ k ih =>
        intro x y J h1 h2 h3 h4
        have hX : kpX 50 2 I (up J 50 2 y) := h3.hole
        have hF : fm (up J 50 2 y) = fm I := fm_eq (fun j => hX 51 j (by unfold pcm; omega) (by omega))
        have hB2 : RM (up J 50 2 y) n := by
          obtain ⟨a1, a2, a3, a4, a5, a6, a7⟩ := hB
          refine ⟨(hX 50 0 (by unfold pcm; omega) (by omega)).trans a1, a2, a3, by rw [hF]; exact a4, by rw [up_s]; omega, by rw [hX 50 3 (by unfold pcm; omega) (by omega)]; exact a6, by rw [hX 50 4 (by unfold pcm; omega) (by omega)]; exact a7⟩
        have hL : l0M (up J 50 2 y) 0 = y := by unfold l0M; rw [up_s, if_neg (by decide), if_neg (by decide)]; omega
        refine x_iload dX5_spring_22 rfl ?_
        refine x_if_lt 54 dX5_spring_24 (by decide) (by unfold inr; omega) (fun h_24 => ?_) (fun h_24 => ?_)
        · exfalso; omega
        · refine x_aload_n dX5_spring_27 rfl ?_
          refine x_iload dX5_spring_28 rfl ?_
          refine x_putI dX5_spring_30 pf_RX5_66 rfl rfl ?_
          refine x_aload_n dX5_spring_33 rfl ?_
          refine x_iload_n dX5_spring_34 rfl ?_
          refine xf_VI1 dX5_spring_35 ml_RX5_187 vw_X5_isEnoughIn vv_X5_isEnoughIn rfl (sp_isEnough hN hB2 h_4) ⟨Nat.le_of_ble_eq_true rfl, Nat.le_of_ble_eq_true rfl, Nat.le_of_ble_eq_true rfl, Nat.le_of_ble_eq_true rfl, Nat.le_of_ble_eq_true rfl⟩ ?_
          rw [hF, hL]
          refine x_if_eq 46 dX5_spring_38 (by decide) (by unfold inr; split <;> omega) (fun h_38 => ?_) (fun h_38 => ?_)
          · replace h_38 := b0 h_38
            refine x_iload_n dX5_spring_46 rfl ?_
            refine x_ist3 dX5_spring_47 ?_
            refine x_inc4 dX5_spring_48 ?_
            refine x_goto 22 dX5_spring_51 (by decide) ?_
            refine ih _ _ _ (by omega) (by omega) hX.fl ?_
            rw [lsF_st (by omega)]
            first
            | (rw [if_pos (by rw [← show y = (k : Int) by omega]; exact h_38)]; omega)
            | (rw [if_neg (by rw [← show y = (k : Int) by omega]; exact h_38)]; exact h4)
          · replace h_38 := b1 h_38
            refine x_iload dX5_spring_41 rfl ?_
            refine x_goto 47 dX5_spring_43 (by decide) ?_
            refine x_ist3 dX5_spring_47 ?_
            refine x_inc4 dX5_spring_48 ?_
            refine x_goto 22 dX5_spring_51 (by decide) ?_
            refine ih _ _ _ (by omega) (by omega) hX.fl ?_
            rw [lsF_st (by omega)]
            first
            | (rw [if_pos (by rw [← show y = (k : Int) by omega]; exact h_38)]; omega)
            | (rw [if_neg (by rw [← show y = (k : Int) by omega]; exact h_38)]; exact h4)
    exact lp 100 _ _ _ (by omega) (by omega) kpM.rf.X rfl
  · replace h_4 := b0 h_4
    refine x_bipush dX5_spring_7 (by decide) ?_
    refine hret _ _ _ _ _ _ dX5_spring_9 rfl ?_
    refine ⟨rfl, rfl, ?_, kpM.rf⟩
    (repeat (first | rw [if_pos (by omega)] | rw [if_neg (by omega)]))
theorem sp_mhighest (hN : NS N) (hB : RM I n) {f d : Int} (hf : inr f) (hd : inr d) : SpI G mX5_highest .int 5 115 0 0 [.ref 50, vi f, vi d] K N I (pI K N (fun z J => z = (if ¬ (0 ≤ f ∧ f < n) then -1 else if 1 ≤ d ∧ d ≤ 24 then gsF (fun h => okAll (setF (fm I) f.toNat 0 h) (l0M I 0) d n) 51 else -2) ∧ kpM I J)) := by
  refine SpI.of (own := RX5) (cc := cX5_highest) (L := [some (.ref 50), some (vi f), some (vi d), none, none, none]) (by decide) rfl rfl (Nat.le_of_ble_eq_true rfl) rfl (fun Fx hnm hret => ?_)
  have hn9 := hB.2.2.1
  refine x_aload_n dX5_highest_0 rfl ?_
  refine x_iload_n dX5_highest_1 rfl ?_
  refine xf_VI1 dX5_highest_2 ml_RX5_92 vw_X5_isFarm vv_X5_isFarm rfl (sp_isFarm hB.1 hn9 hf) ⟨Nat.le_of_ble_eq_true rfl, Nat.le_of_ble_eq_true rfl, Nat.le_of_ble_eq_true rfl, Nat.le_of_ble_eq_true rfl, Nat.le_of_ble_eq_true rfl⟩ ?_
  refine x_if_ne 10 dX5_highest_5 (by decide) (by unfold inr; split <;> omega) (fun h_5 => ?_) (fun h_5 => ?_)
  · replace h_5 := b1 h_5
    refine x_iload_n dX5_highest_10 rfl ?_
    refine xf_SI1 dX5_highest_11 ml_RX5_184 vw_X5_isTerm st_X5_isTerm (sp_isTerm hd) ⟨Nat.le_of_ble_eq_true rfl, Nat.le_of_ble_eq_true rfl, Nat.le_of_ble_eq_true rfl, Nat.le_of_ble_eq_true rfl, Nat.le_of_ble_eq_true rfl⟩ ?_
    refine x_if_ne 20 dX5_highest_14 (by decide) (by unfold inr; split <;> omega) (fun h_14 => ?_) (fun h_14 => ?_)
    · replace h_14 := b1 h_14
      obtain ⟨i, rfl⟩ := toN (show 0 ≤ f by omega)
      refine x_aload_n dX5_highest_20 rfl ?_
      refine x_getR (j := 51) dX5_highest_21 gf_RX5_7 rfl rfl (hN _ _ (by decide)) ?_
      refine x_iconst dX5_highest_24 ?_
      refine x_iload_n dX5_highest_25 rfl ?_
      refine xf_SI2 dX5_highest_26 ml_RX5_82 vw_X5_at st_X5_at (sp_at) ⟨Nat.le_of_ble_eq_true rfl, Nat.le_of_ble_eq_true rfl, Nat.le_of_ble_eq_true rfl, Nat.le_of_ble_eq_true rfl, Nat.le_of_ble_eq_true rfl⟩ ?_
      refine x_iald (9 * 0 + i) dX5_highest_29 rfl (by omega) (show _ < 63 by omega) ?_
      refine x_ist3 dX5_highest_30 ?_
      refine x_bipush dX5_highest_31 (by decide) ?_
      refine x_ist4 dX5_highest_33 ?_
      refine x_iconst dX5_highest_35 ?_
      refine x_ist5 dX5_highest_36 ?_
      have lp : ∀ (m : Nat) (k : Nat) (x y : Int) (J : MM), k ≤ 51 → 51 < k + m → y = (k : Int) → kpX 51 (9 * 0 + i) I J → x = gsF (fun h => okAll (setF (fm I) i 0 h) (l0M I 0) d n) k → XX G RX5 cX5_highest (RmW 5 115 0 0) Fx 38 [some (.ref 50), some (vi i), some (vi d), some (vi (I 51 (9 * 0 + i))), some (vi x), some (vi y)] [] K N J 0 0 := by
        intro m
        induction m with
        | zero => intros; exfalso; omega
        | succ m ih =>
          intro k x y J h0 h1 h2 h3 h4
          have hX : kpX 51 (9 * 0 + i) I (up J 51 (9 * 0 + i) y) := h3.hole
          have hF := hX.fm (by omega) up_s
          have hB2 : k < 51 → RM (up J 51 (9 * 0 + i) y) n := fun hk => hX.RM hB (by omega) up_s (by unfold okF; omega)
          refine x_iload dX5_highest_38 rfl ?_
          refine x_bipush dX5_highest_40 (by decide) ?_
          refine x_icmp_gt 80 dX5_highest_42 (by decide) (by unfold inr; omega) (by unfold inr; omega) (fun h_42 => ?_) (fun h_42 => ?_)
          · refine x_aload_n dX5_highest_80 rfl ?_
            refine x_getR (j := 51) dX5_highest_81 gf_RX5_7 rfl rfl (hN _ _ (by decide)) ?_
            refine x_iconst dX5_highest_84 ?_
            refine x_iload_n dX5_highest_85 rfl ?_
            refine xf_SI2 dX5_highest_86 ml_RX5_82 vw_X5_at st_X5_at (sp_at) ⟨Nat.le_of_ble_eq_true rfl, Nat.le_of_ble_eq_true rfl, Nat.le_of_ble_eq_true rfl, Nat.le_of_ble_eq_true rfl, Nat.le_of_ble_eq_true rfl⟩ ?_
            refine x_iload_n dX5_highest_89 rfl ?_
            refine x_iast (9 * 0 + i) dX5_highest_90 rfl (by omega) (show _ < 63 by omega) ?_
            refine x_iload dX5_highest_91 rfl ?_
            refine hret _ _ _ _ _ _ dX5_highest_93 rfl ?_
            obtain rfl : k = 51 := by omega
            refine ⟨rfl, rfl, ?_, h3.back rfl⟩
            rw [if_neg (by omega), if_pos h_14]; exact h4
          · refine x_aload_n dX5_highest_45 rfl ?_
            refine x_getR (j := 51) dX5_highest_46 gf_RX5_7 rfl rfl (hN _ _ (by decide)) ?_
            refine x_iconst dX5_highest_49 ?_
            refine x_iload_n dX5_highest_50 rfl ?_
            refine xf_SI2 dX5_highest_51 ml_RX5_82 vw_X5_at st_X5_at (sp_at) ⟨Nat.le_of_ble_eq_true rfl, Nat.le_of_ble_eq_true rfl, Nat.le_of_ble_eq_true rfl, Nat.le_of_ble_eq_true rfl, Nat.le_of_ble_eq_true rfl⟩ ?_
            refine x_iload dX5_highest_54 rfl ?_
            refine x_iast (9 * 0 + i) dX5_highest_56 rfl (by omega) (show _ < 63 by omega) ?_
            refine x_aload_n dX5_highest_57 rfl ?_
            refine x_iload_n dX5_highest_58 rfl ?_
            refine xf_VI1 dX5_highest_59 ml_RX5_187 vw_X5_isEnoughIn vv_X5_isEnoughIn rfl (sp_isEnough hN (hB2 (by omega)) h_14) ⟨Nat.le_of_ble_eq_true rfl, Nat.le_of_ble_eq_true rfl, Nat.le_of_ble_eq_true rfl, Nat.le_of_ble_eq_true rfl, Nat.le_of_ble_eq_true rfl⟩ ?_
            rw [hF, hX.l0]
            refine x_if_eq 70 dX5_highest_62 (by decide) (by unfold inr; split <;> omega) (fun h_62 => ?_) (fun h_62 => ?_)
            · replace h_62 := b0 h_62
              refine x_iload dX5_highest_70 rfl ?_
              refine x_ist4 dX5_highest_72 ?_
              refine x_inc5 dX5_highest_74 ?_
              refine x_goto 38 dX5_highest_77 (by decide) ?_
              refine ih (k + 1) _ _ _ (by omega) (by omega) (by omega) hX.fl ?_
              show _ = (if okAll (setF (fm I) i 0 (k : Int)) (l0M I 0) d n = true then (k : Int) else _)
              rw [h2] at h_62
              first
              | (rw [if_pos h_62]; exact h2)
              | (rw [if_neg h_62]; exact h4)
            · replace h_62 := b1 h_62
              refine x_iload dX5_highest_65 rfl ?_
              refine x_goto 72 dX5_highest_67 (by decide) ?_
              refine x_ist4 dX5_highest_72 ?_
              refine x_inc5 dX5_highest_74 ?_
              refine x_goto 38 dX5_highest_77 (by decide) ?_
              refine ih (k + 1) _ _ _ (by omega) (by omega) (by omega) hX.fl ?_
              show _ = (if okAll (setF (fm I) i 0 (k : Int)) (l0M I 0) d n = true then (k : Int) else _)
              rw [h2] at h_62
              first
              | (rw [if_pos h_62]; exact h2)
              | (rw [if_neg h_62]; exact h4)
      exact lp 52 0 _ _ _ (by omega) (by omega) rfl kpM.rf.X rfl
    · replace h_14 := b0 h_14
      refine x_bipush dX5_highest_17 (by decide) ?_
      refine hret _ _ _ _ _ _ dX5_highest_19 rfl ?_
      refine ⟨rfl, rfl, ?_, kpM.rf⟩
      (repeat (first | rw [if_pos (by omega)] | rw [if_neg (by omega)]))
  · replace h_5 := b0 h_5
    refine x_iconst dX5_highest_8 ?_
    refine hret _ _ _ _ _ _ dX5_highest_9 rfl ?_
    refine ⟨rfl, rfl, ?_, kpM.rf⟩
    (repeat (first | rw [if_pos (by omega)] | rw [if_neg (by omega)]))
theorem sp_mdry (hN : NS N) (hB : RM I n) {d : Int} (hd : inr d) : SpI G mX5_dry .int 4 90 0 0 [.ref 50, vi d] K N I (pI K N (fun z J => z = (if 0 ≤ d ∧ d ≤ 99 then lsF (fun g => decide (tok (fm I) 0 (max 0 (I 50 2 - d)) g < tok (fm I) 0 (l0M I 0) g)) n 0 else -2) ∧ kpM I J)) := by
  refine SpI.of (own := RX5) (cc := cX5_dry) (L := [some (.ref 50), some (vi d), none, none]) (by decide) rfl rfl (Nat.le_of_ble_eq_true rfl) rfl (fun Fx hnm hret => ?_)
  have hn9 := hB.2.2.1
  have hs0 : 0 ≤ I 50 2 ∧ I 50 2 ≤ 99 := hB.2.2.2.2.1
  have l43 : ∀ (v : Int) (J : MM), v = max 0 (I 50 2 - d) → (0 ≤ d ∧ d ≤ 99) → kpM I J → (∀ g, g < n → J 61 g = tok (fm I) 0 (l0M I 0) g) → XX G RX5 cX5_dry (RmW 4 90 0 0) Fx 43 [some (.ref 50), some (vi d), some (vi (I 50 2)), none] [vi v, .ref 50] K N J 0 0 := by
    intro v J hv hd9 hk1 hnw
    have hX : kpX 50 2 I (up J 50 2 v) := hk1.X.hole
    have hF : fm (up J 50 2 v) = fm I := fm_eq (fun j => hX 51 j (by unfold pcm; omega) (by omega))
    have hB2 : RM (up J 50 2 v) n := by
      obtain ⟨a1, a2, a3, a4, a5, a6, a7⟩ := hB
      refine ⟨(hX 50 0 (by unfold pcm; omega) (by omega)).trans a1, a2, a3, by rw [hF]; exact a4, by rw [up_s]; omega, by rw [hX 50 3 (by unfold pcm; omega) (by omega)]; exact a6, by rw [hX 50 4 (by unfold pcm; omega) (by omega)]; exact a7⟩
    have hL : l0M (up J 50 2 v) 0 = v := by unfold l0M; rw [up_s, if_neg (by decide), if_neg (by decide)]; omega
    refine x_putI dX5_dry_43 pf_RX5_66 rfl rfl ?_
    refine x_aload_n dX5_dry_46 rfl ?_
    refine x_iconst dX5_dry_47 ?_
    refine xf_VV1 dX5_dry_48 ml_RX5_131 vw_X5_flow vv_X5_flow rfl (sp_mflow hN hB2 (by unfold inr; omega)) ⟨Nat.le_of_ble_eq_true rfl, Nat.le_of_ble_eq_true rfl, Nat.le_of_ble_eq_true rfl, Nat.le_of_ble_eq_true rfl, Nat.le_of_ble_eq_true rfl⟩ ?_
    refine x_aload_n dX5_dry_51 rfl ?_
    refine x_iload_n dX5_dry_52 rfl ?_
    refine x_putI dX5_dry_53 pf_RX5_66 rfl rfl ?_
    refine x_iconst dX5_dry_56 ?_
    refine x_ist3 dX5_dry_57 ?_
    have hk := (hX.fl (n := n) (kn := 0)).back (v := I 50 2) rfl
    generalize hJ : up (fmJ (up J 50 2 v) 0 n) 50 2 (I 50 2) = J2
    rw [hJ] at hk
    have hJ0 : J2 50 0 = (n : Int) := (hk 50 0 (by unfold pcm; omega)).trans hB.1
    have hA : ∀ g, g < n → J2 61 g = tok (fm I) 0 (l0M I 0) g := fun g hg => by
      rw [← hJ, up_n1 (by omega), fmJ_o (by omega) (by omega), up_n1 (by omega)]; exact hnw g hg
    have hT : ∀ g, g < n → J2 57 g = tok (fm I) 0 v g := fun g hg => by
      rw [← hJ, up_n1 (by omega), fmJ_t hg, hF, hL]
    rw [hv] at hT
    have bA : ∀ g, g < n → inr (J2 61 g) := fun g hg => by rw [hA g hg]; have := hB.tokb (kn := 0) hg; unfold inr; omega
    have bT : ∀ g, g < n → inr (J2 57 g) := fun g hg => by
      have h := hB2.tokb (kn := 0) hg
      rw [hF, hL, hv] at h
      rw [hT g hg]; unfold inr; omega
    have lp : ∀ (m : Nat) (g : Nat) (z : Int), g ≤ n → n < g + m → z = (g : Int) → lsF (fun g => decide (tok (fm I) 0 (max 0 (I 50 2 - d)) g < tok (fm I) 0 (l0M I 0) g)) n 0 = lsF (fun g => decide (tok (fm I) 0 (max 0 (I 50 2 - d)) g < tok (fm I) 0 (l0M I 0) g)) (n - g) g → XX G RX5 cX5_dry (RmW 4 90 0 0) Fx 58 [some (.ref 50), some (vi d), some (vi (I 50 2)), some (vi z)] [] K N J2 0 0 := by
      intro m
      induction m with
      | zero => intros; exfalso; omega
      | succ m ih =>
        intro g z h0 h1 h2 h3
        refine x_iload_n dX5_dry_58 rfl ?_
        refine x_aload_n dX5_dry_59 rfl ?_
        refine x_getI dX5_dry_60 gf_RX5_73 rfl rfl ?_
        rw [hJ0]
        refine x_icmp_ge 89 dX5_dry_63 (by decide) (by unfold inr; omega) (by unfold inr; omega) (fun h_63 => ?_) (fun h_63 => ?_)
        · refine x_bipush dX5_dry_89 (by decide) ?_
          refine hret _ _ _ _ _ _ dX5_dry_91 rfl ?_
          obtain rfl : g = n := by omega
          refine ⟨rfl, rfl, ?_, hk⟩
          rw [if_pos hd9, h3, Nat.sub_self]; rfl
        · refine x_aload_n dX5_dry_66 rfl ?_
          refine x_getR (j := 57) dX5_dry_67 gf_RX5_28 rfl rfl (hN _ _ (by decide)) ?_
          refine x_iload_n dX5_dry_70 rfl ?_
          refine x_iald (g) dX5_dry_71 rfl h2 (show _ < 9 by omega) ?_
          refine x_aload_n dX5_dry_72 rfl ?_
          refine x_getR (j := 61) dX5_dry_73 gf_RX5_40 rfl rfl (hN _ _ (by decide)) ?_
          refine x_iload_n dX5_dry_76 rfl ?_
          refine x_iald (g) dX5_dry_77 rfl h2 (show _ < 9 by omega) ?_
          refine x_icmp_ge 83 dX5_dry_78 (by decide) (bT g (by omega)) (bA g (by omega)) (fun h_78 => ?_) (fun h_78 => ?_)
          · refine x_inc3 dX5_dry_83 ?_
            refine x_goto 58 dX5_dry_86 (by decide) ?_
            rw [hA g (by omega), hT g (by omega)] at h_78
            refine ih (g + 1) _ (by omega) (by omega) (by omega) ?_
            rw [h3, lsF_st (by omega), if_neg (by rw [decide_eq_true_iff]; omega)]
          · refine x_iload_n dX5_dry_81 rfl ?_
            refine hret _ _ _ _ _ _ dX5_dry_82 rfl ?_
            rw [hA g (by omega), hT g (by omega)] at h_78
            refine ⟨rfl, rfl, ?_, hk⟩
            rw [if_pos hd9, h3, lsF_st (by omega), if_pos (by rw [decide_eq_true_iff]; omega)]; exact h2
    exact lp (n + 1) 0 _ (by omega) (by omega) rfl rfl
  refine x_iload_n dX5_dry_0 rfl ?_
  refine x_i2l dX5_dry_1 hd ?_
  refine x_lconst0 dX5_dry_2 ?_
  refine x_ldc2 dX5_dry_3 ct_RX5_104 ?_
  refine xf_SI3 dX5_dry_6 ml_RX5_86 vw_X5_in st_X5_in (sp_in (by unfold inl; unfold inr at hd; omega) (by unfold inl; omega) (by unfold inl; omega)) ⟨Nat.le_of_ble_eq_true rfl, Nat.le_of_ble_eq_true rfl, Nat.le_of_ble_eq_true rfl, Nat.le_of_ble_eq_true rfl, Nat.le_of_ble_eq_true rfl⟩ ?_
  refine x_if_ne 15 dX5_dry_9 (by decide) (by unfold inr; split <;> omega) (fun h_9 => ?_) (fun h_9 => ?_)
  · replace h_9 := b1 h_9
    refine x_aload_n dX5_dry_15 rfl ?_
    refine xp_VV0 dX5_dry_16 ml_RX5_173 vw_X5_layNow vv_X5_layNow rfl (sp_mlayNow hN hB) ⟨Nat.le_of_ble_eq_true rfl, Nat.le_of_ble_eq_true rfl, Nat.le_of_ble_eq_true rfl, Nat.le_of_ble_eq_true rfl, Nat.le_of_ble_eq_true rfl⟩ (fun I1 hq => ?_)
    obtain ⟨hk1, hnw⟩ := hq
    have e2 : I1 50 2 = I 50 2 := hk1 50 2 (by unfold pcm; omega)
    refine x_aload_n dX5_dry_19 rfl ?_
    refine x_getI dX5_dry_20 gf_RX5_66 rfl rfl ?_
    rw [e2]
    refine x_ist2 dX5_dry_23 ?_
    refine x_aload_n dX5_dry_24 rfl ?_
    refine x_aload_n dX5_dry_25 rfl ?_
    refine x_getI dX5_dry_26 gf_RX5_66 rfl rfl ?_
    rw [e2]
    refine x_iload_n dX5_dry_29 rfl ?_
    refine x_icmp_le 42 dX5_dry_30 (by decide) (by unfold inr; omega) hd (fun h_30 => ?_) (fun h_30 => ?_)
    · refine x_iconst dX5_dry_42 ?_
      exact l43 _ _ (by omega) h_9 hk1 hnw
    · refine x_aload_n dX5_dry_33 rfl ?_
      refine x_getI dX5_dry_34 gf_RX5_66 rfl rfl ?_
      rw [e2]
      refine x_iload_n dX5_dry_37 rfl ?_
      refine x_isub dX5_dry_38 ?_
      refine x_goto 43 dX5_dry_39 (by decide) ?_
      exact l43 _ _ (by omega) h_9 hk1 hnw
  · replace h_9 := b0 h_9
    refine x_bipush dX5_dry_12 (by decide) ?_
    refine hret _ _ _ _ _ _ dX5_dry_14 rfl ?_
    refine ⟨rfl, rfl, ?_, kpM.rf⟩
    (repeat (first | rw [if_pos (by omega)] | rw [if_neg (by omega)]))
end FR

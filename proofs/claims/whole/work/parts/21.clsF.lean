/-! ===== SpringFarms: leak, borer, listen ===== -/
theorem TrF.cp2 {I J : MM} {n : Nat} (h : RB I 1 n) (hk : kpC I J) : TrF I (cpR J 1 6) n (fa I 1) (l0R I 1 0) := by
  have hB : RB J 1 n := h.of (hk 1 0 (by unfold pcl; omega)) (fa_eq (fun j => hk 2 j (by unfold pcl; omega))) (fun j _ => hk 3 j (by unfold pcl; omega))
  exact ⟨hk.cp (by omega), hB.cp, fa_cp.trans (fa_eq (fun j => hk 2 j (by unfold pcl; omega))), l0_cp.trans (l0_eq (fun j => hk 3 j (by unfold pcl; omega)))⟩
theorem TrF.of {I J J' : MM} {n : Nat} {F : Nat → Nat → Int} {l0 : Int} (h : TrF I J n F l0) (hk : kpC I J') (h6 : ∀ a k, 6 ≤ a → a ≤ 8 → J' a k = J a k) : TrF I J' n F l0 :=
  ⟨hk, h.2.1.of (h6 6 0 (by omega) (by omega)) (fa_eq (fun j => h6 7 j (by omega) (by omega))) (fun j _ => h6 8 j (by omega) (by omega)), (fa_eq (fun j => h6 7 j (by omega) (by omega))).trans h.2.2.1, (l0_eq (fun j => h6 8 j (by omega) (by omega))).trans h.2.2.2⟩
theorem tokF_b {I : MM} {n f k g : Nat} {v : Int} (h : RB I 1 n) (hf : f < 9 ∧ k < 7) (hv : okF k v) (hg : g < n) : 0 ≤ tok (setF (fa I 1) f k v) 0 (l0R I 1 0) g ∧ tok (setF (fa I 1) f k v) 0 (l0R I 1 0) g ≤ 9 := by
  have h2 := tok_b (kn := 0) (h.put (b := 1) hf hv) hg
  rw [show fa (up I (1 + 1) (7 * f + k) v) 1 = _ from fa_put (b := 1) hf, l0_eq (I := I) (fun _ => up_n1 (by omega))] at h2
  exact h2
theorem tyAdd_eq {t u T : Nat → Int} {n j : Nat} (h : t j = u j) : tyAdd t T n j = tyAdd u T n j := by unfold tyAdd; rw [h]
section FR
variable {G : GT} {K : List Nat} {N : NN} {I : MM} {n : Nat}
theorem sp_findLeaks (hN : NS N) {s : Nat} (hB : RB I 1 n) (hG : SG I n s) : SpV G mX4_findLeaks 4 93 0 0 [.ref 0] K N I (pV K N (fun J => kpC I J ∧ FD J (lkA (fa I 1) (l0R I 1 0) (I 4) (I 5) s n) ∧ ∀ j, j < 90 → J 32 j = lkY (fa I 1) (l0R I 1 0) (I 4) (I 5) s n n j)) := by
  refine SpV.of (own := RX4) (cc := cX4_findLeaks) (L := [some (.ref 0), none, none, none]) (by decide) rfl rfl (Nat.le_of_ble_eq_true rfl) rfl (fun Fx hnm hret => ?_)
  have hn9 := hB.2.2.1
  obtain ⟨F, hF⟩ : ∃ F, F = fa I 1 := ⟨_, rfl⟩
  obtain ⟨l0, hl0⟩ : ∃ l0, l0 = l0R I 1 0 := ⟨_, rfl⟩
  obtain ⟨P, hP⟩ : ∃ P, P = lkP F l0 (I 4) (I 5) s := ⟨_, rfl⟩
  obtain ⟨V, hV⟩ : ∃ V : Nat → Nat → Int, V = fun (f k : Nat) => 10 * (f : Int) + ((k + 1 : Nat) : Int) := ⟨_, rfl⟩
  have hLl : ∀ g, (clA (fun f => clL (P f) (V f) 9) g).length ≤ 9 * g := clA_len (fun f => clL_len 9)
  have lp2 : ∀ (m k g : Nat) (z y x : Int) (J : MM), k ≤ 9 → 9 < k + m → g < n → z = (g : Int) → y = ((k + 1 : Nat) : Int) → x = F g 5 → x + k ≤ 9 → TrF I J n F l0 → FD J (clA (fun f => clL (P f) (V f) 9) g ++ clL (P g) (V g) k) → (∀ j, j < 90 → J 32 j = tcL (P g) (lkT F l0 g) n k (tcA P (lkT F l0) n g) j) → (∀ (g' : Nat) (z : Int) (J : MM), g' = g + 1 → z = (g' : Int) → TrF I J n F l0 → FD J (clA (fun f => clL (P f) (V f) 9) g') → (∀ j, j < 90 → J 32 j = tcA P (lkT F l0) n g' j) → XX G RX4 cX4_findLeaks (RmW 4 93 0 0) Fx 42 [some (.ref 0), some (vi z), none, none] [] K N J 0 0) → XX G RX4 cX4_findLeaks (RmW 4 93 0 0) Fx 65 [some (.ref 0), some (vi z), some (vi x), some (vi y)] [] K N J 0 0 := by
    intro m
    induction m with
    | zero => intros; exfalso; omega
    | succ m ih =>
      intro k g z y x J h0 h1 hg h2 h3 h4 h5 h6 h7 h8 hout
      have bF := hB.2.2.2.1 g hg
      rw [← hF] at bF
      have hLk := hLl g
      have hLc : (clL (P g) (V g) k).length ≤ k := clL_len k
      refine x_iload_n dX4_findLeaks_65 rfl ?_
      refine x_iload_n dX4_findLeaks_66 rfl ?_
      refine x_iadd dX4_findLeaks_67 ?_
      refine x_gets (k := 2) dX4_findLeaks_68 fl_RX4_76 (by decide) rfl ?_
      refine x_iconst dX4_findLeaks_71 ?_
      refine x_sald (k := 2) (5) dX4_findLeaks_72 (by decide) rfl (by omega) (show _ < 7 by omega) ?_
      refine x_eqV (b := 9) rfl ?_
      refine x_icmp_gt 108 dX4_findLeaks_73 (by decide) (by unfold inr; omega) (by unfold inr; omega) (fun h_73 => ?_) (fun h_73 => ?_)
      · refine x_inc1 dX4_findLeaks_108 ?_
        refine x_goto 42 dX4_findLeaks_111 (by decide) ?_
        have hno : ∀ j, k ≤ j → P g j = false := fun j hj => by
          rw [hP]; unfold lkP; rw [decide_eq_false (by omega), Bool.false_and]
        obtain ⟨q, hq⟩ : ∃ q, 9 = k + q := ⟨9 - k, by omega⟩
        refine x_dr3 (x_dr2 (hout (g + 1) _ _ rfl (by omega) h6 ?_ ?_))
        · show FD J (clA (fun f => clL (P f) (V f) 9) g ++ clL (P g) (V g) 9)
          rw [show clL (P g) (V g) 9 = clL (P g) (V g) k from by rw [hq]; exact clL_end hno q]
          exact h7
        · intro j hj
          show J 32 j = tcL (P g) (lkT F l0 g) n 9 (tcA P (lkT F l0) n g) j
          rw [show tcL (P g) (lkT F l0 g) n 9 (tcA P (lkT F l0) n g) = tcL (P g) (lkT F l0 g) n k (tcA P (lkT F l0) n g) from by rw [hq]; exact tcL_end hno q]
          exact h8 j hj
      · refine x_aload_n dX4_findLeaks_76 rfl ?_
        refine x_iload_n dX4_findLeaks_77 rfl ?_
        refine x_iconst dX4_findLeaks_78 ?_
        refine x_iload_n dX4_findLeaks_79 rfl ?_
        refine x_iload_n dX4_findLeaks_80 rfl ?_
        refine x_iadd dX4_findLeaks_81 ?_
        have hok : okF 5 (x + y) := by unfold okF; omega
        refine xp_VI3 dX4_findLeaks_82 ml_RX4_193 vw_X4_fitsIf vv_X4_fitsIf rfl (sp_fitsIf hN hB hG (hF ▸ hl0 ▸ h6) g 5 h2 rfl (by omega) hok) ⟨Nat.le_of_ble_eq_true rfl, Nat.le_of_ble_eq_true rfl, Nat.le_of_ble_eq_true rfl, Nat.le_of_ble_eq_true rfl, Nat.le_of_ble_eq_true rfl⟩ (fun z1 I1 hq => ?_)
        obtain ⟨hz, h6', hT16, hk0⟩ := hq
        rw [← hF, ← hl0] at hz h6' hT16
        rw [hz]
        have hFD := h7.kp (hk0 0 11 (by omega)) (fun j => hk0 35 j (by omega))
        refine x_if_eq 102 dX4_findLeaks_85 (by decide) (by unfold inr; split <;> omega) (fun h_85 => ?_) (fun h_85 => ?_)
        · replace h_85 := b0 h_85
          refine x_inc3 dX4_findLeaks_102 ?_
          refine x_goto 65 dX4_findLeaks_105 (by decide) ?_
          have hPk : P g k = sgB (tok (setF F g 5 (x + y)) 0 l0) (I 4) (I 5) s := by
            rw [hP]; unfold lkP; rw [← h3, ← h4, decide_eq_true (by omega), Bool.true_and]
          first
          | (rw [← hPk] at h_85
             refine ih (k + 1) g z _ x _ (by omega) (by omega) hg h2 (by omega) h4 (by omega) ?_ ?_ ?_ hout
             · refine h6'.of ?_ (fun a b ha hb => ?_)
               · intro a b q
                 unfold tyJ
                 rw [if_neg (by unfold pcl at q; omega), up_n1 (by unfold pcl at q; omega), up_n1 (by unfold pcl at q; omega)]
                 exact h6'.1 a b q
               · unfold tyJ
                 rw [if_neg (by omega), up_n1 (by omega), up_n1 (by omega)]
             · have hA := FD.add (a := 10 * z + y) hFD
               rw [show clA (fun f => clL (P f) (V f) 9) g ++ clL (P g) (V g) (k + 1) = (clA (fun f => clL (P f) (V f) 9) g ++ clL (P g) (V g) k) ++ [10 * z + y] from by
                 show _ ++ (clL (P g) (V g) k ++ (if P g k = true then [V g k] else [])) = _
                 rw [if_pos h_85, ← List.append_assoc, hV, h2, h3]]
               exact hA.kp rfl (fun j => rfl)
             · intro j hj
               show tyAdd _ (lkT F l0 g k) n j = (if P g k = true then tyAdd _ (lkT F l0 g k) n else _) j
               rw [if_pos h_85]
               refine tyAdd_eq ?_
               rw [up_n1 (by omega), up_n1 (by omega), hk0 32 j (by omega)]
               exact h8 j hj)
          | (rw [← hPk] at h_85
             refine ih (k + 1) g z _ x _ (by omega) (by omega) hg h2 (by omega) h4 (by omega) h6' ?_ ?_ hout
             · rw [show clL (P g) (V g) (k + 1) = clL (P g) (V g) k from by
                 show clL (P g) (V g) k ++ (if P g k = true then [V g k] else []) = _
                 rw [if_neg h_85, List.append_nil]]
               exact hFD
             · intro j hj
               show I1 32 j = (if P g k = true then tyAdd _ (lkT F l0 g k) n else _) j
               rw [if_neg h_85, hk0 32 j (by omega)]
               exact h8 j hj)
        · replace h_85 := b1 h_85
          refine x_aload_n dX4_findLeaks_88 rfl ?_
          refine x_bipush dX4_findLeaks_89 (by decide) ?_
          refine x_iload_n dX4_findLeaks_91 rfl ?_
          refine x_imul dX4_findLeaks_92 ?_
          refine x_iload_n dX4_findLeaks_93 rfl ?_
          refine x_iadd dX4_findLeaks_94 ?_
          refine xf_VV1 dX4_findLeaks_95 ml_RX4_197 vw_X4_note vv_X4_note rfl (sp_note hN hFD.1 (by rw [List.length_append]; omega)) ⟨Nat.le_of_ble_eq_true rfl, Nat.le_of_ble_eq_true rfl, Nat.le_of_ble_eq_true rfl, Nat.le_of_ble_eq_true rfl, Nat.le_of_ble_eq_true rfl⟩ ?_
          have hn1 : (up (up I1 35 (clA (fun f => clL (P f) (V f) 9) g ++ clL (P g) (V g) k).length (10 * z + y)) 0 11 ((clA (fun f => clL (P f) (V f) 9) g ++ clL (P g) (V g) k).length + 1)) 1 0 = (n : Int) := by
            rw [up_n1 (by omega), up_n1 (by omega)]; exact (h6'.1 1 0 (by unfold pcl; omega)).trans hB.1
          have hTT : ∀ a, a < n → (up (up I1 35 (clA (fun f => clL (P f) (V f) 9) g ++ clL (P g) (V g) k).length (10 * z + y)) 0 11 ((clA (fun f => clL (P f) (V f) 9) g ++ clL (P g) (V g) k).length + 1)) 16 a = lkT F l0 g k a ∧ 0 ≤ lkT F l0 g k a ∧ lkT F l0 g k a ≤ 9 := fun a ha => by
            rw [up_n1 (by omega), up_n1 (by omega), hT16 a ha]
            have hb := tokF_b hB (f := g) (k := 5) (by omega) hok ha
            rw [← hF, ← hl0] at hb
            unfold lkT
            rw [← h3, ← h4]
            exact ⟨rfl, hb⟩
          refine x_aload_n dX4_findLeaks_98 rfl ?_
          refine xf_VV0 dX4_findLeaks_99 ml_RX4_254 vw_X4_tallyTaken vv_X4_tallyTaken rfl (sp_tallyTaken (T := lkT F l0 g k) hN hn1 hn9 hTT) ⟨Nat.le_of_ble_eq_true rfl, Nat.le_of_ble_eq_true rfl, Nat.le_of_ble_eq_true rfl, Nat.le_of_ble_eq_true rfl, Nat.le_of_ble_eq_true rfl⟩ ?_
          refine x_inc3 dX4_findLeaks_102 ?_
          refine x_goto 65 dX4_findLeaks_105 (by decide) ?_
          have hPk : P g k = sgB (tok (setF F g 5 (x + y)) 0 l0) (I 4) (I 5) s := by
            rw [hP]; unfold lkP; rw [← h3, ← h4, decide_eq_true (by omega), Bool.true_and]
          first
          | (rw [← hPk] at h_85
             refine ih (k + 1) g z _ x _ (by omega) (by omega) hg h2 (by omega) h4 (by omega) ?_ ?_ ?_ hout
             · refine h6'.of ?_ (fun a b ha hb => ?_)
               · intro a b q
                 unfold tyJ
                 rw [if_neg (by unfold pcl at q; omega), up_n1 (by unfold pcl at q; omega), up_n1 (by unfold pcl at q; omega)]
                 exact h6'.1 a b q
               · unfold tyJ
                 rw [if_neg (by omega), up_n1 (by omega), up_n1 (by omega)]
             · have hA := FD.add (a := 10 * z + y) hFD
               rw [show clA (fun f => clL (P f) (V f) 9) g ++ clL (P g) (V g) (k + 1) = (clA (fun f => clL (P f) (V f) 9) g ++ clL (P g) (V g) k) ++ [10 * z + y] from by
                 show _ ++ (clL (P g) (V g) k ++ (if P g k = true then [V g k] else [])) = _
                 rw [if_pos h_85, ← List.append_assoc, hV, h2, h3]]
               exact hA.kp rfl (fun j => rfl)
             · intro j hj
               show tyAdd _ (lkT F l0 g k) n j = (if P g k = true then tyAdd _ (lkT F l0 g k) n else _) j
               rw [if_pos h_85]
               refine tyAdd_eq ?_
               rw [up_n1 (by omega), up_n1 (by omega), hk0 32 j (by omega)]
               exact h8 j hj)
          | (rw [← hPk] at h_85
             refine ih (k + 1) g z _ x _ (by omega) (by omega) hg h2 (by omega) h4 (by omega) h6' ?_ ?_ hout
             · rw [show clL (P g) (V g) (k + 1) = clL (P g) (V g) k from by
                 show clL (P g) (V g) k ++ (if P g k = true then [V g k] else []) = _
                 rw [if_neg h_85, List.append_nil]]
               exact hFD
             · intro j hj
               show I1 32 j = (if P g k = true then tyAdd _ (lkT F l0 g k) n else _) j
               rw [if_neg h_85, hk0 32 j (by omega)]
               exact h8 j hj)
  have lp1 : ∀ (m g : Nat) (z : Int) (J : MM), g ≤ n → n < g + m → z = (g : Int) → TrF I J n F l0 → FD J (clA (fun f => clL (P f) (V f) 9) g) → (∀ j, j < 90 → J 32 j = tcA P (lkT F l0) n g j) → XX G RX4 cX4_findLeaks (RmW 4 93 0 0) Fx 42 [some (.ref 0), some (vi z), none, none] [] K N J 0 0 := by
    intro m
    induction m with
    | zero => intros; exfalso; omega
    | succ m ih =>
      intro g z J h0 h1 h2 h3 h4 h5
      have hJ0 : J 1 0 = (n : Int) := (h3.1 1 0 (by unfold pcl; omega)).trans hB.1
      have bF : g < n → _ := hB.2.2.2.1 g
      refine x_iload_n dX4_findLeaks_42 rfl ?_
      refine x_aload_n dX4_findLeaks_43 rfl ?_
      refine x_getR (j := 1) dX4_findLeaks_44 gf_RX4_10 rfl rfl (hN _ _ (by decide)) ?_
      refine x_getI dX4_findLeaks_47 gf_RX4_60 rfl rfl ?_
      rw [hJ0]
      refine x_icmp_ge 114 dX4_findLeaks_50 (by decide) (by unfold inr; omega) (by unfold inr; omega) (fun h_50 => ?_) (fun h_50 => ?_)
      · refine hret _ _ _ _ _ dX4_findLeaks_114 ?_
        obtain rfl : g = n := by omega
        refine ⟨rfl, rfl, h3.1, ?_, ?_⟩
        · unfold lkA; rw [← hF, ← hl0, ← hP]; rw [hV] at h4; exact h4
        · unfold lkY; rw [← hF, ← hl0, ← hP]; exact h5
      · refine x_aload_n dX4_findLeaks_53 rfl ?_
        refine x_getR (j := 1) dX4_findLeaks_54 gf_RX4_10 rfl rfl (hN _ _ (by decide)) ?_
        refine x_iload_n dX4_findLeaks_57 rfl ?_
        refine x_iconst dX4_findLeaks_58 ?_
        refine xf_VI2 dX4_findLeaks_59 ml_RX4_79 vw_X3_fact vv_X3_fact rfl (sp_fact (b := 1) rfl hN g 5 h2 rfl (by omega)) ⟨Nat.le_of_ble_eq_true rfl, Nat.le_of_ble_eq_true rfl, Nat.le_of_ble_eq_true rfl, Nat.le_of_ble_eq_true rfl, Nat.le_of_ble_eq_true rfl⟩ ?_
        rw [show fa J 1 = F from (fa_eq (fun j => h3.1 2 j (by unfold pcl; omega))).trans hF.symm]
        refine x_ist2 dX4_findLeaks_62 ?_
        refine x_iconst dX4_findLeaks_63 ?_
        refine x_ist3 dX4_findLeaks_64 ?_
        have bF2 := bF (by omega)
        rw [← hF] at bF2
        refine lp2 10 0 g _ _ _ _ (by omega) (by omega) (by omega) h2 rfl rfl (by omega) h3 ?_ h5 (fun g' z J e q1 q2 q3 q4 => ?_)
        · show FD J (_ ++ [])
          rw [List.append_nil]; exact h4
        · subst e
          exact ih (g + 1) _ _ (by omega) (by omega) q1 q2 q3 q4
  have lp0 : ∀ (m g : Nat) (z : Int) (J : MM), g ≤ 90 → 90 < g + m → z = (g : Int) → kpC I J → J 0 11 = 0 → (∀ j, j < g → J 32 j = 0) → XX G RX4 cX4_findLeaks (RmW 4 93 0 0) Fx 7 [some (.ref 0), some (vi z), none, none] [] K N J 0 0 := by
    intro m
    induction m with
    | zero => intros; exfalso; omega
    | succ m ih =>
      intro g z J h0 h1 h2 h3 h4 h5
      refine x_iload_n dX4_findLeaks_7 rfl ?_
      refine x_aload_n dX4_findLeaks_8 rfl ?_
      refine x_getR (j := 32) dX4_findLeaks_9 gf_RX4_47 rfl rfl (hN _ _ (by decide)) ?_
      refine x_alen dX4_findLeaks_12 rfl ?_
      refine x_eqV (b := 90) rfl ?_
      refine x_icmp_ge 29 dX4_findLeaks_13 (by decide) (by unfold inr; omega) (by unfold inr; omega) (fun h_13 => ?_) (fun h_13 => ?_)
      · refine x_aload_n dX4_findLeaks_29 rfl ?_
        refine x_getR (j := 6) dX4_findLeaks_30 gf_RX4_16 rfl rfl (hN _ _ (by decide)) ?_
        refine x_aload_n dX4_findLeaks_33 rfl ?_
        refine x_getR (j := 1) dX4_findLeaks_34 gf_RX4_10 rfl rfl (hN _ _ (by decide)) ?_
        refine xf_VV1 dX4_findLeaks_37 ml_RX4_125 vw_X3_copy vv_X3_copy rfl (sp_copy (s := 1) (d := 6) rfl rfl (by decide) hN) ⟨Nat.le_of_ble_eq_true rfl, Nat.le_of_ble_eq_true rfl, Nat.le_of_ble_eq_true rfl, Nat.le_of_ble_eq_true rfl, Nat.le_of_ble_eq_true rfl⟩ ?_
        refine x_iconst dX4_findLeaks_40 ?_
        refine x_ist1 dX4_findLeaks_41 ?_
        refine lp1 (n + 1) 0 _ _ (by omega) (by omega) rfl (hF ▸ hl0 ▸ TrF.cp2 hB h3) ?_ (fun j hj => ?_)
        · exact ⟨by rw [cp_o (by omega), h4]; rfl, fun j hj => absurd hj (Nat.not_lt_zero j)⟩
        · rw [cp_o (by omega)]; exact h5 j (by omega)
      · refine x_aload_n dX4_findLeaks_16 rfl ?_
        refine x_getR (j := 32) dX4_findLeaks_17 gf_RX4_47 rfl rfl (hN _ _ (by decide)) ?_
        refine x_iload_n dX4_findLeaks_20 rfl ?_
        refine x_iconst dX4_findLeaks_21 ?_
        refine x_iast (g) dX4_findLeaks_22 rfl h2 (show _ < 90 by omega) ?_
        refine x_inc1 dX4_findLeaks_23 ?_
        refine x_goto 7 dX4_findLeaks_26 (by decide) ?_
        refine ih (g + 1) _ _ (by omega) (by omega) (by omega) (h3.upc (by omega)) (by rw [up_n1 (by omega)]; exact h4) (fun j hj => ?_)
        by_cases e : j = g
        · subst e; exact up_s
        · rw [up_n2 e]; exact h5 j (by omega)
  refine x_aload_n dX4_findLeaks_0 rfl ?_
  refine x_iconst dX4_findLeaks_1 ?_
  refine x_putI dX4_findLeaks_2 pf_RX4_190 rfl rfl ?_
  refine x_iconst dX4_findLeaks_5 ?_
  refine x_ist1 dX4_findLeaks_6 ?_
  exact lp0 91 0 _ _ (by omega) (by omega) rfl (kpC.rf.upc (by omega)) up_s (fun j hj => absurd hj (Nat.not_lt_zero j))
theorem lkA_len {F : Nat → Nat → Int} {l0 : Int} {sf st : Nat → Int} {s n : Nat} (h : n ≤ 9) : (lkA F l0 sf st s n).length ≤ 81 := Nat.le_trans (clA_len (fun f => clL_len 9) n) (by omega)
theorem sp_leak (hN : NS N) {s : Nat} (hB : RB I 1 n) (hG : SG I n s) {i : Int} (hi : inr i) : SpI G mX4_leak .int 5 116 0 0 [.ref 0, vi i] K N I (pI K N (fun z J => z = foA (lkA (fa I 1) (l0R I 1 0) (I 4) (I 5) s n) i ∧ kpC I J)) := by
  refine SpI.of (own := RX4) (cc := cX4_leak) (L := [some (.ref 0), some (vi i)]) (by decide) rfl rfl (Nat.le_of_ble_eq_true rfl) rfl (fun Fx hnm hret => ?_)
  have hn9 := hB.2.2.1
  refine x_aload_n dX4_leak_0 rfl ?_
  refine xp_VV0 dX4_leak_1 ml_RX4_184 vw_X4_findLeaks vv_X4_findLeaks rfl (sp_findLeaks hN hB hG) ⟨Nat.le_of_ble_eq_true rfl, Nat.le_of_ble_eq_true rfl, Nat.le_of_ble_eq_true rfl, Nat.le_of_ble_eq_true rfl, Nat.le_of_ble_eq_true rfl⟩ (fun I1 hq => ?_)
  obtain ⟨hk, hFD, -⟩ := hq
  refine x_aload_n dX4_leak_4 rfl ?_
  refine x_iload_n dX4_leak_5 rfl ?_
  refine xf_VI1 dX4_leak_6 ml_RX4_187 vw_X4_foundAt vv_X4_foundAt rfl (sp_foundAt hN hFD (Nat.le_trans (lkA_len hn9) (by omega)) hi) ⟨Nat.le_of_ble_eq_true rfl, Nat.le_of_ble_eq_true rfl, Nat.le_of_ble_eq_true rfl, Nat.le_of_ble_eq_true rfl, Nat.le_of_ble_eq_true rfl⟩ ?_
  refine hret _ _ _ _ _ _ dX4_leak_9 rfl ?_
  exact ⟨rfl, rfl, rfl, hk⟩
theorem sp_listen (hN : NS N) {s : Nat} (hB : RB I 1 n) (hG : SG I n s) {w : Int} (hw : inr w) : SpI G mX4_listen .int 5 116 0 0 [.ref 0, vi w] K N I (pI K N (fun z J => z = (if 0 ≤ w ∧ w ≤ 1 then liA (fa I 1) (l0R I 1 0) (I 4) (I 5) s n w else -2) ∧ kpC I J)) := by
  refine SpI.of (own := RX4) (cc := cX4_listen) (L := [some (.ref 0), some (vi w), none, none]) (by decide) rfl rfl (Nat.le_of_ble_eq_true rfl) rfl (fun Fx hnm hret => ?_)
  have hn9 := hB.2.2.1
  obtain ⟨t, ht⟩ : ∃ t, t = lkY (fa I 1) (l0R I 1 0) (I 4) (I 5) s n n := ⟨_, rfl⟩
  have htb : ∀ j, 0 ≤ t j ∧ t j ≤ 1000 := fun j => by
    have := tcA_b (P := lkP (fa I 1) (l0R I 1 0) (I 4) (I 5) s) (T := lkT (fa I 1) (l0R I 1 0)) (n := n) (j := j) n
    rw [ht]; unfold lkY; omega
  have hMb : ∀ f v, 0 ≤ mxT t f v ∧ mxT t f v ≤ 1000 := fun f v => by
    induction v with
    | zero => simp [mxT]
    | succ v ih => have := htb (10 * f + v); simp only [mxT]; omega
  have lp : ∀ (m g : Nat) (z y : Int) (J : MM), 1 ≤ g → g ≤ n → n < g + m → z = (g : Int) → y = ((bsA (fun f => mxT t f 10) g : Nat) : Int) → (0 ≤ w ∧ w ≤ 1) → kpC I J → (lkA (fa I 1) (l0R I 1 0) (I 4) (I 5) s n).length ≠ 0 → (∀ j, j < 90 → J 32 j = t j) → XX G RX4 cX4_listen (RmW 5 116 0 0) Fx 29 [some (.ref 0), some (vi w), some (vi y), some (vi z)] [] K N J 0 0 := by
    intro m
    induction m with
    | zero => intros; exfalso; omega
    | succ m ih =>
      intro g z y J hg1 h0 h1 h2 h3 hw1 h4 hne h5
      have hJ0 : J 1 0 = (n : Int) := (h4 1 0 (by unfold pcl; omega)).trans hB.1
      have hbs := bsA_lt (M := fun f => mxT t f 10) g hg1
      have hb1 := hMb g 10
      have hb2 := hMb (bsA (fun f => mxT t f 10) g) 10
      refine x_iload_n dX4_listen_29 rfl ?_
      refine x_aload_n dX4_listen_30 rfl ?_
      refine x_getR (j := 1) dX4_listen_31 gf_RX4_10 rfl rfl (hN _ _ (by decide)) ?_
      refine x_getI dX4_listen_34 gf_RX4_60 rfl rfl ?_
      rw [hJ0]
      refine x_icmp_ge 61 dX4_listen_37 (by decide) (by unfold inr; omega) (by unfold inr; omega) (fun h_37 => ?_) (fun h_37 => ?_)
      · refine x_iload_n dX4_listen_61 rfl ?_
        refine x_if_ne 69 dX4_listen_62 (by decide) (by unfold inr; omega) (fun h_62 => ?_) (fun h_62 => ?_)
        · refine x_aload_n dX4_listen_69 rfl ?_
          refine x_iload_n dX4_listen_70 rfl ?_
          refine xf_VI1 dX4_listen_71 ml_RX4_200 vw_X4_mostLeft vv_X4_mostLeft rfl (sp_mostLeft hN (fun j hj => ⟨h5 j hj, htb j⟩) (bsA (fun f => mxT t f 10) g) h3 (by omega)) ⟨Nat.le_of_ble_eq_true rfl, Nat.le_of_ble_eq_true rfl, Nat.le_of_ble_eq_true rfl, Nat.le_of_ble_eq_true rfl, Nat.le_of_ble_eq_true rfl⟩ ?_
          refine hret _ _ _ _ _ _ dX4_listen_74 rfl ?_
          obtain rfl : g = n := by omega
          refine ⟨rfl, rfl, ?_, h4⟩
          rw [if_pos hw1]
          unfold liA
          rw [if_neg hne, ← ht]
          first
          | rw [if_pos h_62]; exact h3
          | rw [if_neg h_62]
        · refine x_iload_n dX4_listen_65 rfl ?_
          refine x_goto 74 dX4_listen_66 (by decide) ?_
          refine hret _ _ _ _ _ _ dX4_listen_74 rfl ?_
          obtain rfl : g = n := by omega
          refine ⟨rfl, rfl, ?_, h4⟩
          rw [if_pos hw1]
          unfold liA
          rw [if_neg hne, ← ht]
          first
          | rw [if_pos h_62]; exact h3
          | rw [if_neg h_62]
      · refine x_aload_n dX4_listen_40 rfl ?_
        refine x_iload_n dX4_listen_41 rfl ?_
        refine xf_VI1 dX4_listen_42 ml_RX4_200 vw_X4_mostLeft vv_X4_mostLeft rfl (sp_mostLeft hN (fun j hj => ⟨h5 j hj, htb j⟩) g h2 (by omega)) ⟨Nat.le_of_ble_eq_true rfl, Nat.le_of_ble_eq_true rfl, Nat.le_of_ble_eq_true rfl, Nat.le_of_ble_eq_true rfl, Nat.le_of_ble_eq_true rfl⟩ ?_
        refine x_aload_n dX4_listen_45 rfl ?_
        refine x_iload_n dX4_listen_46 rfl ?_
        refine xf_VI1 dX4_listen_47 ml_RX4_200 vw_X4_mostLeft vv_X4_mostLeft rfl (sp_mostLeft hN (fun j hj => ⟨h5 j hj, htb j⟩) (bsA (fun f => mxT t f 10) g) h3 (by omega)) ⟨Nat.le_of_ble_eq_true rfl, Nat.le_of_ble_eq_true rfl, Nat.le_of_ble_eq_true rfl, Nat.le_of_ble_eq_true rfl, Nat.le_of_ble_eq_true rfl⟩ ?_
        refine x_icmp_ge 55 dX4_listen_50 (by decide) (by unfold inr; omega) (by unfold inr; omega) (fun h_50 => ?_) (fun h_50 => ?_)
        · refine x_inc3 dX4_listen_55 ?_
          refine x_goto 29 dX4_listen_58 (by decide) ?_
          have e : bsA (fun f => mxT t f 10) (g + 1) = (if mxT t g 10 < mxT t (bsA (fun f => mxT t f 10) g) 10 then g else bsA (fun f => mxT t f 10) g) := rfl
          refine ih (g + 1) _ _ _ (by omega) (by omega) (by omega) (by omega) ?_ hw1 h4 hne h5
          rw [e]
          first
          | rw [if_pos h_50]; exact h2
          | rw [if_neg (by omega)]; exact h3
        · refine x_iload_n dX4_listen_53 rfl ?_
          refine x_ist2 dX4_listen_54 ?_
          refine x_inc3 dX4_listen_55 ?_
          refine x_goto 29 dX4_listen_58 (by decide) ?_
          have e : bsA (fun f => mxT t f 10) (g + 1) = (if mxT t g 10 < mxT t (bsA (fun f => mxT t f 10) g) 10 then g else bsA (fun f => mxT t f 10) g) := rfl
          refine ih (g + 1) _ _ _ (by omega) (by omega) (by omega) (by omega) ?_ hw1 h4 hne h5
          rw [e]
          first
          | rw [if_pos h_50]; exact h2
          | rw [if_neg (by omega)]; exact h3
  refine x_iload_n dX4_listen_0 rfl ?_
  refine x_iconst dX4_listen_1 ?_
  refine xf_SI2 dX4_listen_2 ml_RX4_72 vw_X4_within st_X4_within (sp_within hw (by unfold inr; omega)) ⟨Nat.le_of_ble_eq_true rfl, Nat.le_of_ble_eq_true rfl, Nat.le_of_ble_eq_true rfl, Nat.le_of_ble_eq_true rfl, Nat.le_of_ble_eq_true rfl⟩ ?_
  refine x_if_ne 11 dX4_listen_5 (by decide) (by unfold inr; split <;> omega) (fun h_5 => ?_) (fun h_5 => ?_)
  · replace h_5 := b1 h_5
    refine x_aload_n dX4_listen_11 rfl ?_
    refine xp_VV0 dX4_listen_12 ml_RX4_184 vw_X4_findLeaks vv_X4_findLeaks rfl (sp_findLeaks hN hB hG) ⟨Nat.le_of_ble_eq_true rfl, Nat.le_of_ble_eq_true rfl, Nat.le_of_ble_eq_true rfl, Nat.le_of_ble_eq_true rfl, Nat.le_of_ble_eq_true rfl⟩ (fun I1 hq => ?_)
    obtain ⟨hk, hFD, hty⟩ := hq
    have hlen := lkA_len (F := fa I 1) (l0 := l0R I 1 0) (sf := I 4) (st := I 5) (s := s) hn9
    refine x_aload_n dX4_listen_15 rfl ?_
    refine x_getI dX4_listen_16 gf_RX4_190 rfl rfl ?_
    rw [hFD.1]
    refine x_if_ne 25 dX4_listen_19 (by decide) (by unfold inr; omega) (fun h_19 => ?_) (fun h_19 => ?_)
    · refine x_iconst dX4_listen_25 ?_
      refine x_ist2 dX4_listen_26 ?_
      refine x_iconst dX4_listen_27 ?_
      refine x_ist3 dX4_listen_28 ?_
      exact lp (n + 1) 1 _ _ _ (by omega) (by have := hB.2.1; omega) (by omega) rfl (by simp [bsA]) h_5 hk (by omega) (fun j hj => by rw [ht]; exact hty j hj)
    · refine x_bipush dX4_listen_22 (by decide) ?_
      refine hret _ _ _ _ _ _ dX4_listen_24 rfl ?_
      refine ⟨rfl, rfl, ?_, hk⟩
      rw [if_pos h_5]
      unfold liA
      rw [if_pos (by omega)]
  · replace h_5 := b0 h_5
    refine x_bipush dX4_listen_8 (by decide) ?_
    refine hret _ _ _ _ _ _ dX4_listen_10 rfl ?_
    refine ⟨rfl, rfl, ?_, kpC.rf⟩
    rw [if_neg h_5]
theorem boA_len {I : MM} {n s : Nat} {l0 : Int} {sf st : Nat → Int} (h : RB I 1 n) : ∀ g, g ≤ n → (boA (fa I 1) l0 sf st s g).length ≤ 50 * g
  | 0, _ => Nat.le_refl _
  | g + 1, hg => by
    have ih := boA_len (l0 := l0) (sf := sf) (st := st) (s := s) h g (by omega)
    have h2 := clL_len (P := fun h => sgB (tok (setF (fa I 1) g 0 (h : Int)) 0 l0) sf st s) (V := fun h => 100 * (g : Int) + (h : Int)) (fa I 1 g 0).toNat
    have h3 := h.2.2.2.1 g (by omega)
    show (boA (fa I 1) l0 sf st s g ++ clL _ _ _).length ≤ _
    rw [List.length_append]
    omega
theorem sp_borer (hN : NS N) {s : Nat} (hB : RB I 1 n) (hG : SG I n s) {i : Int} (hi : inr i) : SpI G mX4_borer .int 4 93 0 0 [.ref 0, vi i] K N I (pI K N (fun z J => z = foA (boA (fa I 1) (l0R I 1 0) (I 4) (I 5) s n) i ∧ kpC I J)) := by
  refine SpI.of (own := RX4) (cc := cX4_borer) (L := [some (.ref 0), some (vi i), none, none]) (by decide) rfl rfl (Nat.le_of_ble_eq_true rfl) rfl (fun Fx hnm hret => ?_)
  have hn9 := hB.2.2.1
  obtain ⟨F, hF⟩ : ∃ F, F = fa I 1 := ⟨_, rfl⟩
  obtain ⟨l0, hl0⟩ : ∃ l0, l0 = l0R I 1 0 := ⟨_, rfl⟩
  obtain ⟨P, hP⟩ : ∃ P : Nat → Nat → Bool, P = fun (f h : Nat) => sgB (tok (setF F f 0 (h : Int)) 0 l0) (I 4) (I 5) s := ⟨_, rfl⟩
  have hbo : ∀ g, boA F l0 (I 4) (I 5) s g = clA (fun f => clL (P f) (fun h => 100 * (f : Int) + (h : Int)) (F f 0).toNat) g := fun g => by rw [hP]; rfl
  have hLl : ∀ g, g ≤ n → (boA F l0 (I 4) (I 5) s g).length ≤ 50 * g := fun g hg => by rw [hF]; exact boA_len hB g hg
  have lp2 : ∀ (m k g : Nat) (z y : Int) (J : MM), k ≤ 50 → 50 < k + m → g < n → z = (g : Int) → y = (k : Int) → (k : Int) ≤ F g 0 → TrF I J n F l0 → FD J (boA F l0 (I 4) (I 5) s g ++ clL (P g) (fun h => 100 * (g : Int) + (h : Int)) k) → (∀ (g' : Nat) (z : Int) (J : MM), g' = g + 1 → z = (g' : Int) → TrF I J n F l0 → FD J (boA F l0 (I 4) (I 5) s g') → XX G RX4 cX4_borer (RmW 4 93 0 0) Fx 18 [some (.ref 0), some (vi i), some (vi z), none] [] K N J 0 0) → XX G RX4 cX4_borer (RmW 4 93 0 0) Fx 31 [some (.ref 0), some (vi i), some (vi z), some (vi y)] [] K N J 0 0 := by
    intro m
    induction m with
    | zero => intros; exfalso; omega
    | succ m ih =>
      intro k g z y J h0 h1 hg h2 h3 h4 h6 h7 hout
      have bF := hB.2.2.2.1 g hg
      rw [← hF] at bF
      have hLk := hLl g (by omega)
      have hLc : (clL (P g) (fun h => 100 * (g : Int) + (h : Int)) k).length ≤ k := clL_len k
      refine x_iload_n dX4_borer_31 rfl ?_
      refine x_aload_n dX4_borer_32 rfl ?_
      refine x_getR (j := 1) dX4_borer_33 gf_RX4_10 rfl rfl (hN _ _ (by decide)) ?_
      refine x_iload_n dX4_borer_36 rfl ?_
      refine x_iconst dX4_borer_37 ?_
      refine xf_VI2 dX4_borer_38 ml_RX4_79 vw_X3_fact vv_X3_fact rfl (sp_fact (b := 1) rfl hN g 0 h2 rfl (by omega)) ⟨Nat.le_of_ble_eq_true rfl, Nat.le_of_ble_eq_true rfl, Nat.le_of_ble_eq_true rfl, Nat.le_of_ble_eq_true rfl, Nat.le_of_ble_eq_true rfl⟩ ?_
      rw [show fa J 1 = F from (fa_eq (fun j => h6.1 2 j (by unfold pcl; omega))).trans hF.symm]
      refine x_icmp_ge 70 dX4_borer_41 (by decide) (by unfold inr; omega) (by unfold inr; omega) (fun h_41 => ?_) (fun h_41 => ?_)
      · refine x_inc2 dX4_borer_70 ?_
        refine x_goto 18 dX4_borer_73 (by decide) ?_
        refine x_dr3 (hout (g + 1) _ _ rfl (by omega) h6 ?_)
        rw [hbo]
        show FD J (clA (fun f => clL (P f) (fun h => 100 * (f : Int) + (h : Int)) (F f 0).toNat) g ++ clL (P g) (fun h => 100 * (g : Int) + (h : Int)) (F g 0).toNat)
        rw [← hbo, show (F g 0).toNat = k by omega]
        exact h7
      · refine x_aload_n dX4_borer_44 rfl ?_
        refine x_iload_n dX4_borer_45 rfl ?_
        refine x_iconst dX4_borer_46 ?_
        refine x_iload_n dX4_borer_47 rfl ?_
        refine xp_VI3 dX4_borer_48 ml_RX4_193 vw_X4_fitsIf vv_X4_fitsIf rfl (sp_fitsIf hN hB hG (hF ▸ hl0 ▸ h6) g 0 h2 rfl (by omega) (by unfold okF; omega)) ⟨Nat.le_of_ble_eq_true rfl, Nat.le_of_ble_eq_true rfl, Nat.le_of_ble_eq_true rfl, Nat.le_of_ble_eq_true rfl, Nat.le_of_ble_eq_true rfl⟩ (fun z1 I1 hq => ?_)
        obtain ⟨hz, h6', -, hk0⟩ := hq
        rw [← hF, ← hl0] at hz h6'
        rw [hz]
        have hFD := h7.kp (hk0 0 11 (by omega)) (fun j => hk0 35 j (by omega))
        refine x_if_eq 64 dX4_borer_51 (by decide) (by unfold inr; split <;> omega) (fun h_51 => ?_) (fun h_51 => ?_)
        · replace h_51 := b0 h_51
          refine x_inc3 dX4_borer_64 ?_
          refine x_goto 31 dX4_borer_67 (by decide) ?_
          have hPk : P g k = sgB (tok (setF F g 0 y) 0 l0) (I 4) (I 5) s := by rw [hP, h3]
          first
          | (rw [← hPk] at h_51
             refine ih (k + 1) g z _ _ (by omega) (by omega) hg h2 (by omega) (by omega) ?_ ?_ hout
             · refine h6'.of ?_ (fun a b ha hb => ?_)
               · exact (h6'.1.upc (by omega)).upc (by omega)
               · rw [up_n1 (by omega), up_n1 (by omega)]
             · have hA := FD.add (a := 100 * z + y) hFD
               rw [show boA F l0 (I 4) (I 5) s g ++ clL (P g) (fun h => 100 * (g : Int) + (h : Int)) (k + 1) = (boA F l0 (I 4) (I 5) s g ++ clL (P g) (fun h => 100 * (g : Int) + (h : Int)) k) ++ [100 * z + y] from by
                 show _ ++ (clL (P g) _ k ++ (if P g k = true then [_] else [])) = _
                 rw [if_pos h_51, ← List.append_assoc, h2, h3]]
               exact hA)
          | (rw [← hPk] at h_51
             refine ih (k + 1) g z _ _ (by omega) (by omega) hg h2 (by omega) (by omega) h6' ?_ hout
             rw [show clL (P g) (fun h => 100 * (g : Int) + (h : Int)) (k + 1) = clL (P g) (fun h => 100 * (g : Int) + (h : Int)) k from by
               show clL (P g) _ k ++ (if P g k = true then [_] else []) = _
               rw [if_neg h_51, List.append_nil]]
             exact hFD)
        · replace h_51 := b1 h_51
          refine x_aload_n dX4_borer_54 rfl ?_
          refine x_bipush dX4_borer_55 (by decide) ?_
          refine x_iload_n dX4_borer_57 rfl ?_
          refine x_imul dX4_borer_58 ?_
          refine x_iload_n dX4_borer_59 rfl ?_
          refine x_iadd dX4_borer_60 ?_
          refine xf_VV1 dX4_borer_61 ml_RX4_197 vw_X4_note vv_X4_note rfl (sp_note hN hFD.1 (by rw [List.length_append]; omega)) ⟨Nat.le_of_ble_eq_true rfl, Nat.le_of_ble_eq_true rfl, Nat.le_of_ble_eq_true rfl, Nat.le_of_ble_eq_true rfl, Nat.le_of_ble_eq_true rfl⟩ ?_
          refine x_inc3 dX4_borer_64 ?_
          refine x_goto 31 dX4_borer_67 (by decide) ?_
          have hPk : P g k = sgB (tok (setF F g 0 y) 0 l0) (I 4) (I 5) s := by rw [hP, h3]
          first
          | (rw [← hPk] at h_51
             refine ih (k + 1) g z _ _ (by omega) (by omega) hg h2 (by omega) (by omega) ?_ ?_ hout
             · refine h6'.of ?_ (fun a b ha hb => ?_)
               · exact (h6'.1.upc (by omega)).upc (by omega)
               · rw [up_n1 (by omega), up_n1 (by omega)]
             · have hA := FD.add (a := 100 * z + y) hFD
               rw [show boA F l0 (I 4) (I 5) s g ++ clL (P g) (fun h => 100 * (g : Int) + (h : Int)) (k + 1) = (boA F l0 (I 4) (I 5) s g ++ clL (P g) (fun h => 100 * (g : Int) + (h : Int)) k) ++ [100 * z + y] from by
                 show _ ++ (clL (P g) _ k ++ (if P g k = true then [_] else [])) = _
                 rw [if_pos h_51, ← List.append_assoc, h2, h3]]
               exact hA)
          | (rw [← hPk] at h_51
             refine ih (k + 1) g z _ _ (by omega) (by omega) hg h2 (by omega) (by omega) h6' ?_ hout
             rw [show clL (P g) (fun h => 100 * (g : Int) + (h : Int)) (k + 1) = clL (P g) (fun h => 100 * (g : Int) + (h : Int)) k from by
               show clL (P g) _ k ++ (if P g k = true then [_] else []) = _
               rw [if_neg h_51, List.append_nil]]
             exact hFD)
  have lp1 : ∀ (m g : Nat) (z : Int) (J : MM), g ≤ n → n < g + m → z = (g : Int) → TrF I J n F l0 → FD J (boA F l0 (I 4) (I 5) s g) → XX G RX4 cX4_borer (RmW 4 93 0 0) Fx 18 [some (.ref 0), some (vi i), some (vi z), none] [] K N J 0 0 := by
    intro m
    induction m with
    | zero => intros; exfalso; omega
    | succ m ih =>
      intro g z J h0 h1 h2 h3 h4
      have hJ0 : J 1 0 = (n : Int) := (h3.1 1 0 (by unfold pcl; omega)).trans hB.1
      have bF : g < n → _ := hB.2.2.2.1 g
      have hLk := hLl g h0
      refine x_iload_n dX4_borer_18 rfl ?_
      refine x_aload_n dX4_borer_19 rfl ?_
      refine x_getR (j := 1) dX4_borer_20 gf_RX4_10 rfl rfl (hN _ _ (by decide)) ?_
      refine x_getI dX4_borer_23 gf_RX4_60 rfl rfl ?_
      rw [hJ0]
      refine x_icmp_ge 76 dX4_borer_26 (by decide) (by unfold inr; omega) (by unfold inr; omega) (fun h_26 => ?_) (fun h_26 => ?_)
      · refine x_aload_n dX4_borer_76 rfl ?_
        refine x_iload_n dX4_borer_77 rfl ?_
        refine xf_VI1 dX4_borer_78 ml_RX4_187 vw_X4_foundAt vv_X4_foundAt rfl (sp_foundAt hN h4 (by omega) hi) ⟨Nat.le_of_ble_eq_true rfl, Nat.le_of_ble_eq_true rfl, Nat.le_of_ble_eq_true rfl, Nat.le_of_ble_eq_true rfl, Nat.le_of_ble_eq_true rfl⟩ ?_
        refine hret _ _ _ _ _ _ dX4_borer_81 rfl ?_
        obtain rfl : g = n := by omega
        exact ⟨rfl, rfl, by rw [← hF, ← hl0], h3.1⟩
      · refine x_iconst dX4_borer_29 ?_
        refine x_ist3 dX4_borer_30 ?_
        have bF2 := bF (by omega)
        rw [← hF] at bF2
        refine lp2 51 0 g _ _ _ (by omega) (by omega) (by omega) h2 rfl (by omega) h3 ?_ (fun g' z J e q1 q2 q3 => ?_)
        · show FD J (_ ++ [])
          rw [List.append_nil]; exact h4
        · subst e
          exact ih (g + 1) _ _ (by omega) (by omega) q1 q2 q3
  refine x_aload_n dX4_borer_0 rfl ?_
  refine x_iconst dX4_borer_1 ?_
  refine x_putI dX4_borer_2 pf_RX4_190 rfl rfl ?_
  refine x_aload_n dX4_borer_5 rfl ?_
  refine x_getR (j := 6) dX4_borer_6 gf_RX4_16 rfl rfl (hN _ _ (by decide)) ?_
  refine x_aload_n dX4_borer_9 rfl ?_
  refine x_getR (j := 1) dX4_borer_10 gf_RX4_10 rfl rfl (hN _ _ (by decide)) ?_
  refine xf_VV1 dX4_borer_13 ml_RX4_125 vw_X3_copy vv_X3_copy rfl (sp_copy (s := 1) (d := 6) rfl rfl (by decide) hN) ⟨Nat.le_of_ble_eq_true rfl, Nat.le_of_ble_eq_true rfl, Nat.le_of_ble_eq_true rfl, Nat.le_of_ble_eq_true rfl, Nat.le_of_ble_eq_true rfl⟩ ?_
  refine x_iconst dX4_borer_16 ?_
  refine x_ist2 dX4_borer_17 ?_
  refine lp1 (n + 1) 0 _ _ (by omega) (by omega) rfl (hF ▸ hl0 ▸ TrF.cp2 hB (kpC.rf.upc (by omega))) ?_
  exact ⟨by rw [cp_o (by omega)]; exact up_s, fun j hj => absurd hj (Nat.not_lt_zero j)⟩
end FR

/-! ===== the reference: narrow widths, fair shares, where a new house must bore ===== -/
theorem setP_o {F : FT} {n f k : Nat} {v : Nat → Int} (h : k ≠ 1) : setP F n v f k = F f k := if_neg (fun z => h z.1)
theorem setP_1 {F : FT} {n f : Nat} {v : Nat → Int} (h : f < n) : setP F n v f 1 = v f := if_pos ⟨rfl, h⟩
theorem nr_st {F : FT} {l0 d : Int} {n f : Nat} {s : Int} (hd : 1 ≤ d ∧ d ≤ 24) (hO : okD F n 1000000) (hf : f < n) (hs : s = sto (setP F n (nwF F d)) 0 l0 f) : (0 ≤ nwF F d f ∧ nwF F d f ≤ 200) ∧ ((nwF F d f ≤ 0 ∨ (nwF F d f ≤ 9 ∧ F f 4 = 0 ∧ nwF F d f ≤ s - F f 0)) → tok (setP F n (nwF F d)) 0 l0 f = nwF F d f ∧ decide (lackF (setP F n (nwF F d)) f ≤ d * tok (setP F n (nwF F d)) 0 l0 f) = true) ∧ ((0 < nwF F d f ∧ (F f 4 ≠ 0 ∨ s - F f 0 < nwF F d f)) → decide (lackF (setP F n (nwF F d)) f ≤ d * tok (setP F n (nwF F d)) 0 l0 f) = false) := by
  have bF := hO f hf
  have b := nwF_b hd bF.2.2.1 bF.2.2.2.2.2.2.1
  have el : lackF (setP F n (nwF F d)) f = lackF F f := by unfold lackF; rw [setP_o (by decide), setP_o (by decide)]
  have hl : 0 ≤ lackF F f := by unfold lackF; omega
  have c : ∀ t, nwF F d f ≤ t ↔ lackF F f ≤ d * t := fun t => by
    unfold nwF
    rw [← Int.lt_add_one_iff, Int.ediv_lt_iff_lt_mul (by omega), Int.add_mul, Int.mul_comm t d]
    omega
  have et : tok (setP F n (nwF F d)) 0 l0 f = if F f 4 ≠ 0 then 0 else min (nwF F d f) (max 0 (s - F f 0)) := by
    rw [← tok_A]; unfold tkA
    rw [setP_o (by decide), setP_1 hf, setP_o (by decide), setP_o (by decide), ← hs]
    by_cases z : F f 4 = 0
    · rw [if_neg (by omega), if_neg (by omega)]
    · rw [if_pos (by omega), if_pos z]
  refine ⟨b, fun h => ?_, fun h => ?_⟩
  · have e : tok (setP F n (nwF F d)) 0 l0 f = nwF F d f := by rw [et]; split <;> omega
    refine ⟨e, ?_⟩
    rw [decide_eq_true_iff, e, el, ← c]; omega
  · rw [decide_eq_false_iff_not, el, ← c, et]
    split <;> omega
theorem nr_no {F : FT} {l0 d f : Int} {n g : Nat} (hg : g < n) (h : nwB F d (g + 1) = false ∨ okAll (setP F n (nwF F d)) l0 d (g + 1) = false) : nrA F l0 d n f = -6 := by
  obtain ⟨q, hq⟩ : ∃ q, n = (g + 1) + q := ⟨n - (g + 1), by omega⟩
  unfold nrA
  rcases h with h | h
  · have e := nwB_no h q
    rw [← hq] at e
    rw [if_neg (by rw [e]; decide)]
  · have e := okAll_no h q
    rw [← hq] at e
    rw [if_neg (show ¬ okAll _ l0 d n = true by rw [e]; decide)]
    split <;> rfl
theorem fb_st {F : FT} {l0 x : Int} {n f : Nat} {s : Int} (hx : 0 ≤ x) (hf : f < n) (hs : s = sto (setP F n (fun _ => x)) 0 l0 f) : (F f 4 ≠ 0 → tok (setP F n (fun _ => x)) 0 l0 f = 0) ∧ (F f 4 = 0 → (tok (setP F n (fun _ => x)) 0 l0 f = x ↔ (x = 0 ∨ x ≤ s - F f 0))) := by
  have et : tok (setP F n (fun _ => x)) 0 l0 f = if F f 4 ≠ 0 then 0 else min x (max 0 (s - F f 0)) := by
    rw [← tok_A]; unfold tkA
    rw [setP_o (by decide), setP_1 hf, setP_o (by decide), setP_o (by decide), ← hs]
    by_cases z : F f 4 = 0
    · rw [if_neg (by omega), if_neg (by omega)]
    · rw [if_pos (by omega), if_pos z]
  rw [et]
  refine ⟨fun h => if_pos h, fun h => ?_⟩
  rw [if_neg (by omega)]; omega
section FR
variable {G : GT} {K : List Nat} {N : NN} {I : MM} {n : Nat}
theorem sp_mnarrow (hN : NS N) (hB : RM I n) {d f : Int} (hd : inr d) (hf : inr f) : SpI G mX5_narrow .int 2 46 0 0 [.ref 50, vi d, vi f] K N I (pI K N (fun z J => z = (if ¬ (f = -1 ∨ (0 ≤ f ∧ f < n)) then -1 else if 1 ≤ d ∧ d ≤ 24 then nrA (fm I) (l0M I 0) d n f else -2) ∧ kpM I J)) := by
  refine SpI.of (own := RX5) (cc := cX5_narrow) (L := [some (.ref 50), some (vi d), some (vi f), none, none, none, none, none]) (by decide) rfl rfl (Nat.le_of_ble_eq_true rfl) rfl (fun Fx hnm hret => ?_)
  have hn9 := hB.2.2.1
  have hs0 : 0 ≤ I 50 2 ∧ I 50 2 ≤ 99 := hB.2.2.2.2.1
  have hl0 : l0M I 0 = I 50 2 := by unfold l0M; rw [if_neg (by decide), if_neg (by decide)]; omega
  obtain ⟨P, hP⟩ : ∃ P, P = setP (fm I) n (nwF (fm I) d) := ⟨_, rfl⟩
  have lp : ∀ (m : Nat) (g : Nat) (z l s : Int) (J : MM), g ≤ n → n < g + m → z = (g : Int) → (f = -1 ∨ (0 ≤ f ∧ f < n)) → (1 ≤ d ∧ d ≤ 24) → l = lva P 0 (l0M I 0) g → (0 ≤ l ∧ l ≤ 149) → s = sumN (nwF (fm I) d) g → nwB (fm I) d g = true → okAll P (l0M I 0) d g = true → kpM I J → (∀ i, i < g → J 62 i = nwF (fm I) d i) → XX G RX5 cX5_narrow (RmW 2 46 0 0) Fx 36 [some (.ref 50), some (vi d), some (vi f), some (vi l), some (vi s), some (vi z), none, none] [] K N J 0 0 := by
    intro m
    induction m with
    | zero => intros; exfalso; omega
    | succ m ih =>
      intro g z l s J h0 h1 h2 hf1 hd1 h3 h4 h5 h6 h7 h8 h9
      have hJ0 : J 50 0 = (n : Int) := (h8 50 0 (by unfold pcm; omega)).trans hB.1
      have hBJ := h8.RM hB
      have hFJ := h8.fm
      have bF : g < n → _ := hB.2.2.2.1 g
      have hst : g < n → max 0 (l - fm I g 5) = sto P 0 (l0M I 0) g := fun hg => by
        rw [h3, hP, sto_A, setP_o (by decide)]
      refine x_iload dX5_narrow_36 rfl ?_
      refine x_aload_n dX5_narrow_38 rfl ?_
      refine x_getI dX5_narrow_39 gf_RX5_73 rfl rfl ?_
      rw [hJ0]
      refine x_icmp_ge 178 dX5_narrow_42 (by decide) (by unfold inr; omega) (by unfold inr; omega) (fun h_42 => ?_) (fun h_42 => ?_)
      · obtain rfl : g = n := by omega
        refine x_iload_n dX5_narrow_178 rfl ?_
        refine x_iconst dX5_narrow_179 ?_
        refine x_icmp_ne 188 dX5_narrow_180 (by decide) (by unfold inr; omega) (by unfold inr; omega) (fun h_180 => ?_) (fun h_180 => ?_)
        · obtain ⟨i, rfl⟩ := toN (show 0 ≤ f by omega)
          refine x_aload_n dX5_narrow_188 rfl ?_
          refine x_getR (j := 62) dX5_narrow_189 gf_RX5_43 rfl rfl (hN _ _ (by decide)) ?_
          refine x_iload_n dX5_narrow_192 rfl ?_
          refine x_iald (i) dX5_narrow_193 rfl (by omega) (show _ < 9 by omega) ?_
          rw [h9 i (by omega)]
          refine hret _ _ _ _ _ _ dX5_narrow_194 rfl ?_
          refine ⟨rfl, rfl, ?_, h8⟩
          rw [if_neg (by omega), if_pos hd1]
          unfold nrA
          rw [if_pos h6, ← hP, if_pos h7]
          first
          | (rw [if_pos (by omega)]; exact h5)
          | (rw [if_neg (by omega)]; rfl)
        · refine x_iload dX5_narrow_183 rfl ?_
          refine x_goto 194 dX5_narrow_185 (by decide) ?_
          refine hret _ _ _ _ _ _ dX5_narrow_194 rfl ?_
          refine ⟨rfl, rfl, ?_, h8⟩
          rw [if_neg (by omega), if_pos hd1]
          unfold nrA
          rw [if_pos h6, ← hP, if_pos h7]
          first
          | (rw [if_pos (by omega)]; exact h5)
          | (rw [if_neg (by omega)]; rfl)
      · refine x_iload_n dX5_narrow_45 rfl ?_
        refine x_iload_n dX5_narrow_46 rfl ?_
        refine x_aload_n dX5_narrow_47 rfl ?_
        refine x_getR (j := 51) dX5_narrow_48 gf_RX5_7 rfl rfl (hN _ _ (by decide)) ?_
        refine x_iconst dX5_narrow_51 ?_
        refine x_iload dX5_narrow_52 rfl ?_
        refine xf_SI2 dX5_narrow_54 ml_RX5_82 vw_X5_at st_X5_at (sp_at) ⟨Nat.le_of_ble_eq_true rfl, Nat.le_of_ble_eq_true rfl, Nat.le_of_ble_eq_true rfl, Nat.le_of_ble_eq_true rfl, Nat.le_of_ble_eq_true rfl⟩ ?_
        refine x_iald (9 * 5 + g) dX5_narrow_57 rfl (by omega) (show _ < 63 by omega) ?_
        rw [show J 51 (9 * 5 + g) = fm J g 5 from (fm_at (by omega)).symm]
        rw [hFJ]
        refine x_icmp_ge 65 dX5_narrow_58 (by decide) (by have := bF (by omega); unfold inr; omega) (by have := bF (by omega); unfold inr; omega) (fun h_58 => ?_) (fun h_58 => ?_)
        · refine x_aload_n dX5_narrow_65 rfl ?_
          refine x_getR (j := 51) dX5_narrow_66 gf_RX5_7 rfl rfl (hN _ _ (by decide)) ?_
          refine x_iconst dX5_narrow_69 ?_
          refine x_iload dX5_narrow_70 rfl ?_
          refine xf_SI2 dX5_narrow_72 ml_RX5_82 vw_X5_at st_X5_at (sp_at) ⟨Nat.le_of_ble_eq_true rfl, Nat.le_of_ble_eq_true rfl, Nat.le_of_ble_eq_true rfl, Nat.le_of_ble_eq_true rfl, Nat.le_of_ble_eq_true rfl⟩ ?_
          refine x_iald (9 * 5 + g) dX5_narrow_75 rfl (by omega) (show _ < 63 by omega) ?_
          rw [show J 51 (9 * 5 + g) = fm J g 5 from (fm_at (by omega)).symm]
          rw [hFJ]
          refine x_isub dX5_narrow_76 ?_
          have bF2 := bF (by omega)
          first
          | refine x_eqV (b := max 0 (l - fm I g 5)) (by omega) ?_
          | skip
          rw [hst (by omega)]
          obtain ⟨st, hs⟩ : ∃ st, st = sto P 0 (l0M I 0) g := ⟨_, rfl⟩
          have hsb : 0 ≤ st ∧ st ≤ 149 := by rw [hs, ← hst (by omega)]; omega
          rw [← hs]
          obtain ⟨nb, ny, nn⟩ := nr_st (l0 := l0M I 0) (s := st) hd1 hB.2.2.2.1 (show g < n by omega) (by rw [← hP]; exact hs)
          rw [← hP] at ny nn
          refine x_ist3 dX5_narrow_77 ?_
          refine x_aload_n dX5_narrow_78 rfl ?_
          refine x_iload dX5_narrow_79 rfl ?_
          refine xf_VI1 dX5_narrow_81 ml_RX5_176 vw_X5_wanting vv_X5_wanting rfl (sp_wanting hN hBJ g (by omega) h2) ⟨Nat.le_of_ble_eq_true rfl, Nat.le_of_ble_eq_true rfl, Nat.le_of_ble_eq_true rfl, Nat.le_of_ble_eq_true rfl, Nat.le_of_ble_eq_true rfl⟩ ?_
          rw [hFJ]
          refine x_iload_n dX5_narrow_84 rfl ?_
          refine x_iadd dX5_narrow_85 ?_
          refine x_iconst dX5_narrow_86 ?_
          refine x_isub dX5_narrow_87 ?_
          refine x_iload_n dX5_narrow_88 rfl ?_
          refine x_idiv dX5_narrow_89 (by have := bF2; unfold lackF; unfold inr; omega) (by unfold inr; omega) ?_
          rw [show (lackF (fm I) g + d - 1) / d = nwF (fm I) d g from rfl]
          obtain ⟨x, hx⟩ : ∃ x, x = nwF (fm I) d g := ⟨_, rfl⟩
          rw [← hx] at nb ny nn ⊢
          refine x_ist6 dX5_narrow_90 ?_
          refine x_iload dX5_narrow_92 rfl ?_
          refine x_bipush dX5_narrow_94 (by decide) ?_
          refine x_icmp_gt 135 dX5_narrow_96 (by decide) (by unfold inr; omega) (by unfold inr; omega) (fun h_96 => ?_) (fun h_96 => ?_)
          · refine x_iconst dX5_narrow_135 ?_
            refine x_ist7 dX5_narrow_136 ?_
            refine x_iload dX5_narrow_138 rfl ?_
            refine x_if_le 151 dX5_narrow_140 (by decide) (by unfold inr; omega) (fun h_140 => ?_) (fun h_140 => ?_)
            · refine x_aload_n dX5_narrow_151 rfl ?_
              refine x_getR (j := 62) dX5_narrow_152 gf_RX5_43 rfl rfl (hN _ _ (by decide)) ?_
              refine x_iload dX5_narrow_155 rfl ?_
              refine x_iload dX5_narrow_157 rfl ?_
              refine x_iast (g) dX5_narrow_159 rfl h2 (show _ < 9 by omega) ?_
              refine x_iload_n dX5_narrow_160 rfl ?_
              refine x_iload dX5_narrow_161 rfl ?_
              refine x_isub dX5_narrow_163 ?_
              refine x_ist3 dX5_narrow_164 ?_
              refine x_iload dX5_narrow_165 rfl ?_
              refine x_iload dX5_narrow_167 rfl ?_
              refine x_iadd dX5_narrow_169 ?_
              refine x_ist4 dX5_narrow_170 ?_
              refine x_inc5 dX5_narrow_172 ?_
              refine x_goto 36 dX5_narrow_175 (by decide) ?_
              first
              | (exfalso; omega)
              | (obtain ⟨q1, q2⟩ := ny (by omega)
                 refine x_dr7 (x_dr6 (ih (g + 1) _ _ _ _ (by omega) (by omega) (by omega) hf1 hd1 (by rw [lva_A, ← hs, q1]) (by omega) (by rw [h5, hx]; rfl) ?_ ?_ (h8.upc (by omega)) (fun i hi => ?_)))
                 · show (nwB (fm I) d g && decide (nwF (fm I) d g ≤ 9)) = true
                   rw [h6, ← hx, Bool.true_and, decide_eq_true_iff]; omega
                 · show (okAll P (l0M I 0) d g && _) = true
                   rw [h7, q2]; rfl
                 · by_cases e : i = g
                   · rw [e, up_s]; exact hx
                   · rw [up_n2 e]; exact h9 i (by omega))
            · refine x_iload dX5_narrow_143 rfl ?_
              refine x_if_ne 151 dX5_narrow_145 (by decide) (by unfold inr; omega) (fun h_145 => ?_) (fun h_145 => ?_)
              · refine x_aload_n dX5_narrow_151 rfl ?_
                refine x_getR (j := 62) dX5_narrow_152 gf_RX5_43 rfl rfl (hN _ _ (by decide)) ?_
                refine x_iload dX5_narrow_155 rfl ?_
                refine x_iload dX5_narrow_157 rfl ?_
                refine x_iast (g) dX5_narrow_159 rfl h2 (show _ < 9 by omega) ?_
                refine x_iload_n dX5_narrow_160 rfl ?_
                refine x_iload dX5_narrow_161 rfl ?_
                refine x_isub dX5_narrow_163 ?_
                refine x_ist3 dX5_narrow_164 ?_
                refine x_iload dX5_narrow_165 rfl ?_
                refine x_iload dX5_narrow_167 rfl ?_
                refine x_iadd dX5_narrow_169 ?_
                refine x_ist4 dX5_narrow_170 ?_
                refine x_inc5 dX5_narrow_172 ?_
                refine x_goto 36 dX5_narrow_175 (by decide) ?_
                first
                | (exfalso; omega)
                | (obtain ⟨q1, q2⟩ := ny (by omega)
                   refine x_dr7 (x_dr6 (ih (g + 1) _ _ _ _ (by omega) (by omega) (by omega) hf1 hd1 (by rw [lva_A, ← hs, q1]) (by omega) (by rw [h5, hx]; rfl) ?_ ?_ (h8.upc (by omega)) (fun i hi => ?_)))
                   · show (nwB (fm I) d g && decide (nwF (fm I) d g ≤ 9)) = true
                     rw [h6, ← hx, Bool.true_and, decide_eq_true_iff]; omega
                   · show (okAll P (l0M I 0) d g && _) = true
                     rw [h7, q2]; rfl
                   · by_cases e : i = g
                     · rw [e, up_s]; exact hx
                     · rw [up_n2 e]; exact h9 i (by omega))
              · refine x_bipush dX5_narrow_148 (by decide) ?_
                refine hret _ _ _ _ _ _ dX5_narrow_150 rfl ?_
                first
                | (exfalso; omega)
                | (refine ⟨rfl, rfl, ?_, h8⟩
                   rw [if_neg (by omega), if_pos hd1]
                   refine (nr_no (g := g) (by omega) ?_).symm
                   by_cases x9 : x ≤ 9
                   · right
                     have q2 := nn (by omega)
                     rw [← hP]
                     show (okAll P (l0M I 0) d g && _) = false
                     rw [q2, Bool.and_false]
                   · left
                     show (nwB (fm I) d g && decide (nwF (fm I) d g ≤ 9)) = false
                     rw [← hx, decide_eq_false x9, Bool.and_false])
          · refine x_aload_n dX5_narrow_99 rfl ?_
            refine x_getR (j := 51) dX5_narrow_100 gf_RX5_7 rfl rfl (hN _ _ (by decide)) ?_
            refine x_iconst dX5_narrow_103 ?_
            refine x_iload dX5_narrow_104 rfl ?_
            refine xf_SI2 dX5_narrow_106 ml_RX5_82 vw_X5_at st_X5_at (sp_at) ⟨Nat.le_of_ble_eq_true rfl, Nat.le_of_ble_eq_true rfl, Nat.le_of_ble_eq_true rfl, Nat.le_of_ble_eq_true rfl, Nat.le_of_ble_eq_true rfl⟩ ?_
            refine x_iald (9 * 4 + g) dX5_narrow_109 rfl (by omega) (show _ < 63 by omega) ?_
            rw [show J 51 (9 * 4 + g) = fm J g 4 from (fm_at (by omega)).symm]
            rw [hFJ]
            refine x_if_ne 135 dX5_narrow_110 (by decide) (by unfold inr; omega) (fun h_110 => ?_) (fun h_110 => ?_)
            · refine x_iconst dX5_narrow_135 ?_
              refine x_ist7 dX5_narrow_136 ?_
              refine x_iload dX5_narrow_138 rfl ?_
              refine x_if_le 151 dX5_narrow_140 (by decide) (by unfold inr; omega) (fun h_140 => ?_) (fun h_140 => ?_)
              · refine x_aload_n dX5_narrow_151 rfl ?_
                refine x_getR (j := 62) dX5_narrow_152 gf_RX5_43 rfl rfl (hN _ _ (by decide)) ?_
                refine x_iload dX5_narrow_155 rfl ?_
                refine x_iload dX5_narrow_157 rfl ?_
                refine x_iast (g) dX5_narrow_159 rfl h2 (show _ < 9 by omega) ?_
                refine x_iload_n dX5_narrow_160 rfl ?_
                refine x_iload dX5_narrow_161 rfl ?_
                refine x_isub dX5_narrow_163 ?_
                refine x_ist3 dX5_narrow_164 ?_
                refine x_iload dX5_narrow_165 rfl ?_
                refine x_iload dX5_narrow_167 rfl ?_
                refine x_iadd dX5_narrow_169 ?_
                refine x_ist4 dX5_narrow_170 ?_
                refine x_inc5 dX5_narrow_172 ?_
                refine x_goto 36 dX5_narrow_175 (by decide) ?_
                first
                | (exfalso; omega)
                | (obtain ⟨q1, q2⟩ := ny (by omega)
                   refine x_dr7 (x_dr6 (ih (g + 1) _ _ _ _ (by omega) (by omega) (by omega) hf1 hd1 (by rw [lva_A, ← hs, q1]) (by omega) (by rw [h5, hx]; rfl) ?_ ?_ (h8.upc (by omega)) (fun i hi => ?_)))
                   · show (nwB (fm I) d g && decide (nwF (fm I) d g ≤ 9)) = true
                     rw [h6, ← hx, Bool.true_and, decide_eq_true_iff]; omega
                   · show (okAll P (l0M I 0) d g && _) = true
                     rw [h7, q2]; rfl
                   · by_cases e : i = g
                     · rw [e, up_s]; exact hx
                     · rw [up_n2 e]; exact h9 i (by omega))
              · refine x_iload dX5_narrow_143 rfl ?_
                refine x_if_ne 151 dX5_narrow_145 (by decide) (by unfold inr; omega) (fun h_145 => ?_) (fun h_145 => ?_)
                · refine x_aload_n dX5_narrow_151 rfl ?_
                  refine x_getR (j := 62) dX5_narrow_152 gf_RX5_43 rfl rfl (hN _ _ (by decide)) ?_
                  refine x_iload dX5_narrow_155 rfl ?_
                  refine x_iload dX5_narrow_157 rfl ?_
                  refine x_iast (g) dX5_narrow_159 rfl h2 (show _ < 9 by omega) ?_
                  refine x_iload_n dX5_narrow_160 rfl ?_
                  refine x_iload dX5_narrow_161 rfl ?_
                  refine x_isub dX5_narrow_163 ?_
                  refine x_ist3 dX5_narrow_164 ?_
                  refine x_iload dX5_narrow_165 rfl ?_
                  refine x_iload dX5_narrow_167 rfl ?_
                  refine x_iadd dX5_narrow_169 ?_
                  refine x_ist4 dX5_narrow_170 ?_
                  refine x_inc5 dX5_narrow_172 ?_
                  refine x_goto 36 dX5_narrow_175 (by decide) ?_
                  first
                  | (exfalso; omega)
                  | (obtain ⟨q1, q2⟩ := ny (by omega)
                     refine x_dr7 (x_dr6 (ih (g + 1) _ _ _ _ (by omega) (by omega) (by omega) hf1 hd1 (by rw [lva_A, ← hs, q1]) (by omega) (by rw [h5, hx]; rfl) ?_ ?_ (h8.upc (by omega)) (fun i hi => ?_)))
                     · show (nwB (fm I) d g && decide (nwF (fm I) d g ≤ 9)) = true
                       rw [h6, ← hx, Bool.true_and, decide_eq_true_iff]; omega
                     · show (okAll P (l0M I 0) d g && _) = true
                       rw [h7, q2]; rfl
                     · by_cases e : i = g
                       · rw [e, up_s]; exact hx
                       · rw [up_n2 e]; exact h9 i (by omega))
                · refine x_bipush dX5_narrow_148 (by decide) ?_
                  refine hret _ _ _ _ _ _ dX5_narrow_150 rfl ?_
                  first
                  | (exfalso; omega)
                  | (refine ⟨rfl, rfl, ?_, h8⟩
                     rw [if_neg (by omega), if_pos hd1]
                     refine (nr_no (g := g) (by omega) ?_).symm
                     by_cases x9 : x ≤ 9
                     · right
                       have q2 := nn (by omega)
                       rw [← hP]
                       show (okAll P (l0M I 0) d g && _) = false
                       rw [q2, Bool.and_false]
                     · left
                       show (nwB (fm I) d g && decide (nwF (fm I) d g ≤ 9)) = false
                       rw [← hx, decide_eq_false x9, Bool.and_false])
            · refine x_iload_n dX5_narrow_113 rfl ?_
              refine x_aload_n dX5_narrow_114 rfl ?_
              refine x_getR (j := 51) dX5_narrow_115 gf_RX5_7 rfl rfl (hN _ _ (by decide)) ?_
              refine x_iconst dX5_narrow_118 ?_
              refine x_iload dX5_narrow_119 rfl ?_
              refine xf_SI2 dX5_narrow_121 ml_RX5_82 vw_X5_at st_X5_at (sp_at) ⟨Nat.le_of_ble_eq_true rfl, Nat.le_of_ble_eq_true rfl, Nat.le_of_ble_eq_true rfl, Nat.le_of_ble_eq_true rfl, Nat.le_of_ble_eq_true rfl⟩ ?_
              refine x_iald (9 * 0 + g) dX5_narrow_124 rfl (by omega) (show _ < 63 by omega) ?_
              rw [show J 51 (9 * 0 + g) = fm J g 0 from (fm_at (by omega)).symm]
              rw [hFJ]
              refine x_isub dX5_narrow_125 ?_
              refine x_iload dX5_narrow_126 rfl ?_
              refine x_icmp_lt 135 dX5_narrow_128 (by decide) (by unfold inr; omega) (by unfold inr; omega) (fun h_128 => ?_) (fun h_128 => ?_)
              · refine x_iconst dX5_narrow_135 ?_
                refine x_ist7 dX5_narrow_136 ?_
                refine x_iload dX5_narrow_138 rfl ?_
                refine x_if_le 151 dX5_narrow_140 (by decide) (by unfold inr; omega) (fun h_140 => ?_) (fun h_140 => ?_)
                · refine x_aload_n dX5_narrow_151 rfl ?_
                  refine x_getR (j := 62) dX5_narrow_152 gf_RX5_43 rfl rfl (hN _ _ (by decide)) ?_
                  refine x_iload dX5_narrow_155 rfl ?_
                  refine x_iload dX5_narrow_157 rfl ?_
                  refine x_iast (g) dX5_narrow_159 rfl h2 (show _ < 9 by omega) ?_
                  refine x_iload_n dX5_narrow_160 rfl ?_
                  refine x_iload dX5_narrow_161 rfl ?_
                  refine x_isub dX5_narrow_163 ?_
                  refine x_ist3 dX5_narrow_164 ?_
                  refine x_iload dX5_narrow_165 rfl ?_
                  refine x_iload dX5_narrow_167 rfl ?_
                  refine x_iadd dX5_narrow_169 ?_
                  refine x_ist4 dX5_narrow_170 ?_
                  refine x_inc5 dX5_narrow_172 ?_
                  refine x_goto 36 dX5_narrow_175 (by decide) ?_
                  first
                  | (exfalso; omega)
                  | (obtain ⟨q1, q2⟩ := ny (by omega)
                     refine x_dr7 (x_dr6 (ih (g + 1) _ _ _ _ (by omega) (by omega) (by omega) hf1 hd1 (by rw [lva_A, ← hs, q1]) (by omega) (by rw [h5, hx]; rfl) ?_ ?_ (h8.upc (by omega)) (fun i hi => ?_)))
                     · show (nwB (fm I) d g && decide (nwF (fm I) d g ≤ 9)) = true
                       rw [h6, ← hx, Bool.true_and, decide_eq_true_iff]; omega
                     · show (okAll P (l0M I 0) d g && _) = true
                       rw [h7, q2]; rfl
                     · by_cases e : i = g
                       · rw [e, up_s]; exact hx
                       · rw [up_n2 e]; exact h9 i (by omega))
                · refine x_iload dX5_narrow_143 rfl ?_
                  refine x_if_ne 151 dX5_narrow_145 (by decide) (by unfold inr; omega) (fun h_145 => ?_) (fun h_145 => ?_)
                  · refine x_aload_n dX5_narrow_151 rfl ?_
                    refine x_getR (j := 62) dX5_narrow_152 gf_RX5_43 rfl rfl (hN _ _ (by decide)) ?_
                    refine x_iload dX5_narrow_155 rfl ?_
                    refine x_iload dX5_narrow_157 rfl ?_
                    refine x_iast (g) dX5_narrow_159 rfl h2 (show _ < 9 by omega) ?_
                    refine x_iload_n dX5_narrow_160 rfl ?_
                    refine x_iload dX5_narrow_161 rfl ?_
                    refine x_isub dX5_narrow_163 ?_
                    refine x_ist3 dX5_narrow_164 ?_
                    refine x_iload dX5_narrow_165 rfl ?_
                    refine x_iload dX5_narrow_167 rfl ?_
                    refine x_iadd dX5_narrow_169 ?_
                    refine x_ist4 dX5_narrow_170 ?_
                    refine x_inc5 dX5_narrow_172 ?_
                    refine x_goto 36 dX5_narrow_175 (by decide) ?_
                    first
                    | (exfalso; omega)
                    | (obtain ⟨q1, q2⟩ := ny (by omega)
                       refine x_dr7 (x_dr6 (ih (g + 1) _ _ _ _ (by omega) (by omega) (by omega) hf1 hd1 (by rw [lva_A, ← hs, q1]) (by omega) (by rw [h5, hx]; rfl) ?_ ?_ (h8.upc (by omega)) (fun i hi => ?_)))
                       · show (nwB (fm I) d g && decide (nwF (fm I) d g ≤ 9)) = true
                         rw [h6, ← hx, Bool.true_and, decide_eq_true_iff]; omega
                       · show (okAll P (l0M I 0) d g && _) = true
                         rw [h7, q2]; rfl
                       · by_cases e : i = g
                         · rw [e, up_s]; exact hx
                         · rw [up_n2 e]; exact h9 i (by omega))
                  · refine x_bipush dX5_narrow_148 (by decide) ?_
                    refine hret _ _ _ _ _ _ dX5_narrow_150 rfl ?_
                    first
                    | (exfalso; omega)
                    | (refine ⟨rfl, rfl, ?_, h8⟩
                       rw [if_neg (by omega), if_pos hd1]
                       refine (nr_no (g := g) (by omega) ?_).symm
                       by_cases x9 : x ≤ 9
                       · right
                         have q2 := nn (by omega)
                         rw [← hP]
                         show (okAll P (l0M I 0) d g && _) = false
                         rw [q2, Bool.and_false]
                       · left
                         show (nwB (fm I) d g && decide (nwF (fm I) d g ≤ 9)) = false
                         rw [← hx, decide_eq_false x9, Bool.and_false])
              · refine x_iconst dX5_narrow_131 ?_
                refine x_goto 136 dX5_narrow_132 (by decide) ?_
                refine x_ist7 dX5_narrow_136 ?_
                refine x_iload dX5_narrow_138 rfl ?_
                refine x_if_le 151 dX5_narrow_140 (by decide) (by unfold inr; omega) (fun h_140 => ?_) (fun h_140 => ?_)
                · refine x_aload_n dX5_narrow_151 rfl ?_
                  refine x_getR (j := 62) dX5_narrow_152 gf_RX5_43 rfl rfl (hN _ _ (by decide)) ?_
                  refine x_iload dX5_narrow_155 rfl ?_
                  refine x_iload dX5_narrow_157 rfl ?_
                  refine x_iast (g) dX5_narrow_159 rfl h2 (show _ < 9 by omega) ?_
                  refine x_iload_n dX5_narrow_160 rfl ?_
                  refine x_iload dX5_narrow_161 rfl ?_
                  refine x_isub dX5_narrow_163 ?_
                  refine x_ist3 dX5_narrow_164 ?_
                  refine x_iload dX5_narrow_165 rfl ?_
                  refine x_iload dX5_narrow_167 rfl ?_
                  refine x_iadd dX5_narrow_169 ?_
                  refine x_ist4 dX5_narrow_170 ?_
                  refine x_inc5 dX5_narrow_172 ?_
                  refine x_goto 36 dX5_narrow_175 (by decide) ?_
                  first
                  | (exfalso; omega)
                  | (obtain ⟨q1, q2⟩ := ny (by omega)
                     refine x_dr7 (x_dr6 (ih (g + 1) _ _ _ _ (by omega) (by omega) (by omega) hf1 hd1 (by rw [lva_A, ← hs, q1]) (by omega) (by rw [h5, hx]; rfl) ?_ ?_ (h8.upc (by omega)) (fun i hi => ?_)))
                     · show (nwB (fm I) d g && decide (nwF (fm I) d g ≤ 9)) = true
                       rw [h6, ← hx, Bool.true_and, decide_eq_true_iff]; omega
                     · show (okAll P (l0M I 0) d g && _) = true
                       rw [h7, q2]; rfl
                     · by_cases e : i = g
                       · rw [e, up_s]; exact hx
                       · rw [up_n2 e]; exact h9 i (by omega))
                · refine x_iload dX5_narrow_143 rfl ?_
                  refine x_if_ne 151 dX5_narrow_145 (by decide) (by unfold inr; omega) (fun h_145 => ?_) (fun h_145 => ?_)
                  · refine x_aload_n dX5_narrow_151 rfl ?_
                    refine x_getR (j := 62) dX5_narrow_152 gf_RX5_43 rfl rfl (hN _ _ (by decide)) ?_
                    refine x_iload dX5_narrow_155 rfl ?_
                    refine x_iload dX5_narrow_157 rfl ?_
                    refine x_iast (g) dX5_narrow_159 rfl h2 (show _ < 9 by omega) ?_
                    refine x_iload_n dX5_narrow_160 rfl ?_
                    refine x_iload dX5_narrow_161 rfl ?_
                    refine x_isub dX5_narrow_163 ?_
                    refine x_ist3 dX5_narrow_164 ?_
                    refine x_iload dX5_narrow_165 rfl ?_
                    refine x_iload dX5_narrow_167 rfl ?_
                    refine x_iadd dX5_narrow_169 ?_
                    refine x_ist4 dX5_narrow_170 ?_
                    refine x_inc5 dX5_narrow_172 ?_
                    refine x_goto 36 dX5_narrow_175 (by decide) ?_
                    first
                    | (exfalso; omega)
                    | (obtain ⟨q1, q2⟩ := ny (by omega)
                       refine x_dr7 (x_dr6 (ih (g + 1) _ _ _ _ (by omega) (by omega) (by omega) hf1 hd1 (by rw [lva_A, ← hs, q1]) (by omega) (by rw [h5, hx]; rfl) ?_ ?_ (h8.upc (by omega)) (fun i hi => ?_)))
                       · show (nwB (fm I) d g && decide (nwF (fm I) d g ≤ 9)) = true
                         rw [h6, ← hx, Bool.true_and, decide_eq_true_iff]; omega
                       · show (okAll P (l0M I 0) d g && _) = true
                         rw [h7, q2]; rfl
                       · by_cases e : i = g
                         · rw [e, up_s]; exact hx
                         · rw [up_n2 e]; exact h9 i (by omega))
                  · refine x_bipush dX5_narrow_148 (by decide) ?_
                    refine hret _ _ _ _ _ _ dX5_narrow_150 rfl ?_
                    first
                    | (exfalso; omega)
                    | (refine ⟨rfl, rfl, ?_, h8⟩
                       rw [if_neg (by omega), if_pos hd1]
                       refine (nr_no (g := g) (by omega) ?_).symm
                       by_cases x9 : x ≤ 9
                       · right
                         have q2 := nn (by omega)
                         rw [← hP]
                         show (okAll P (l0M I 0) d g && _) = false
                         rw [q2, Bool.and_false]
                       · left
                         show (nwB (fm I) d g && decide (nwF (fm I) d g ≤ 9)) = false
                         rw [← hx, decide_eq_false x9, Bool.and_false])
        · refine x_iload_n dX5_narrow_61 rfl ?_
          refine x_goto 76 dX5_narrow_62 (by decide) ?_
          refine x_isub dX5_narrow_76 ?_
          have bF2 := bF (by omega)
          first
          | refine x_eqV (b := max 0 (l - fm I g 5)) (by omega) ?_
          | skip
          rw [hst (by omega)]
          obtain ⟨st, hs⟩ : ∃ st, st = sto P 0 (l0M I 0) g := ⟨_, rfl⟩
          have hsb : 0 ≤ st ∧ st ≤ 149 := by rw [hs, ← hst (by omega)]; omega
          rw [← hs]
          obtain ⟨nb, ny, nn⟩ := nr_st (l0 := l0M I 0) (s := st) hd1 hB.2.2.2.1 (show g < n by omega) (by rw [← hP]; exact hs)
          rw [← hP] at ny nn
          refine x_ist3 dX5_narrow_77 ?_
          refine x_aload_n dX5_narrow_78 rfl ?_
          refine x_iload dX5_narrow_79 rfl ?_
          refine xf_VI1 dX5_narrow_81 ml_RX5_176 vw_X5_wanting vv_X5_wanting rfl (sp_wanting hN hBJ g (by omega) h2) ⟨Nat.le_of_ble_eq_true rfl, Nat.le_of_ble_eq_true rfl, Nat.le_of_ble_eq_true rfl, Nat.le_of_ble_eq_true rfl, Nat.le_of_ble_eq_true rfl⟩ ?_
          rw [hFJ]
          refine x_iload_n dX5_narrow_84 rfl ?_
          refine x_iadd dX5_narrow_85 ?_
          refine x_iconst dX5_narrow_86 ?_
          refine x_isub dX5_narrow_87 ?_
          refine x_iload_n dX5_narrow_88 rfl ?_
          refine x_idiv dX5_narrow_89 (by have := bF2; unfold lackF; unfold inr; omega) (by unfold inr; omega) ?_
          rw [show (lackF (fm I) g + d - 1) / d = nwF (fm I) d g from rfl]
          obtain ⟨x, hx⟩ : ∃ x, x = nwF (fm I) d g := ⟨_, rfl⟩
          rw [← hx] at nb ny nn ⊢
          refine x_ist6 dX5_narrow_90 ?_
          refine x_iload dX5_narrow_92 rfl ?_
          refine x_bipush dX5_narrow_94 (by decide) ?_
          refine x_icmp_gt 135 dX5_narrow_96 (by decide) (by unfold inr; omega) (by unfold inr; omega) (fun h_96 => ?_) (fun h_96 => ?_)
          · refine x_iconst dX5_narrow_135 ?_
            refine x_ist7 dX5_narrow_136 ?_
            refine x_iload dX5_narrow_138 rfl ?_
            refine x_if_le 151 dX5_narrow_140 (by decide) (by unfold inr; omega) (fun h_140 => ?_) (fun h_140 => ?_)
            · refine x_aload_n dX5_narrow_151 rfl ?_
              refine x_getR (j := 62) dX5_narrow_152 gf_RX5_43 rfl rfl (hN _ _ (by decide)) ?_
              refine x_iload dX5_narrow_155 rfl ?_
              refine x_iload dX5_narrow_157 rfl ?_
              refine x_iast (g) dX5_narrow_159 rfl h2 (show _ < 9 by omega) ?_
              refine x_iload_n dX5_narrow_160 rfl ?_
              refine x_iload dX5_narrow_161 rfl ?_
              refine x_isub dX5_narrow_163 ?_
              refine x_ist3 dX5_narrow_164 ?_
              refine x_iload dX5_narrow_165 rfl ?_
              refine x_iload dX5_narrow_167 rfl ?_
              refine x_iadd dX5_narrow_169 ?_
              refine x_ist4 dX5_narrow_170 ?_
              refine x_inc5 dX5_narrow_172 ?_
              refine x_goto 36 dX5_narrow_175 (by decide) ?_
              first
              | (exfalso; omega)
              | (obtain ⟨q1, q2⟩ := ny (by omega)
                 refine x_dr7 (x_dr6 (ih (g + 1) _ _ _ _ (by omega) (by omega) (by omega) hf1 hd1 (by rw [lva_A, ← hs, q1]) (by omega) (by rw [h5, hx]; rfl) ?_ ?_ (h8.upc (by omega)) (fun i hi => ?_)))
                 · show (nwB (fm I) d g && decide (nwF (fm I) d g ≤ 9)) = true
                   rw [h6, ← hx, Bool.true_and, decide_eq_true_iff]; omega
                 · show (okAll P (l0M I 0) d g && _) = true
                   rw [h7, q2]; rfl
                 · by_cases e : i = g
                   · rw [e, up_s]; exact hx
                   · rw [up_n2 e]; exact h9 i (by omega))
            · refine x_iload dX5_narrow_143 rfl ?_
              refine x_if_ne 151 dX5_narrow_145 (by decide) (by unfold inr; omega) (fun h_145 => ?_) (fun h_145 => ?_)
              · refine x_aload_n dX5_narrow_151 rfl ?_
                refine x_getR (j := 62) dX5_narrow_152 gf_RX5_43 rfl rfl (hN _ _ (by decide)) ?_
                refine x_iload dX5_narrow_155 rfl ?_
                refine x_iload dX5_narrow_157 rfl ?_
                refine x_iast (g) dX5_narrow_159 rfl h2 (show _ < 9 by omega) ?_
                refine x_iload_n dX5_narrow_160 rfl ?_
                refine x_iload dX5_narrow_161 rfl ?_
                refine x_isub dX5_narrow_163 ?_
                refine x_ist3 dX5_narrow_164 ?_
                refine x_iload dX5_narrow_165 rfl ?_
                refine x_iload dX5_narrow_167 rfl ?_
                refine x_iadd dX5_narrow_169 ?_
                refine x_ist4 dX5_narrow_170 ?_
                refine x_inc5 dX5_narrow_172 ?_
                refine x_goto 36 dX5_narrow_175 (by decide) ?_
                first
                | (exfalso; omega)
                | (obtain ⟨q1, q2⟩ := ny (by omega)
                   refine x_dr7 (x_dr6 (ih (g + 1) _ _ _ _ (by omega) (by omega) (by omega) hf1 hd1 (by rw [lva_A, ← hs, q1]) (by omega) (by rw [h5, hx]; rfl) ?_ ?_ (h8.upc (by omega)) (fun i hi => ?_)))
                   · show (nwB (fm I) d g && decide (nwF (fm I) d g ≤ 9)) = true
                     rw [h6, ← hx, Bool.true_and, decide_eq_true_iff]; omega
                   · show (okAll P (l0M I 0) d g && _) = true
                     rw [h7, q2]; rfl
                   · by_cases e : i = g
                     · rw [e, up_s]; exact hx
                     · rw [up_n2 e]; exact h9 i (by omega))
              · refine x_bipush dX5_narrow_148 (by decide) ?_
                refine hret _ _ _ _ _ _ dX5_narrow_150 rfl ?_
                first
                | (exfalso; omega)
                | (refine ⟨rfl, rfl, ?_, h8⟩
                   rw [if_neg (by omega), if_pos hd1]
                   refine (nr_no (g := g) (by omega) ?_).symm
                   by_cases x9 : x ≤ 9
                   · right
                     have q2 := nn (by omega)
                     rw [← hP]
                     show (okAll P (l0M I 0) d g && _) = false
                     rw [q2, Bool.and_false]
                   · left
                     show (nwB (fm I) d g && decide (nwF (fm I) d g ≤ 9)) = false
                     rw [← hx, decide_eq_false x9, Bool.and_false])
          · refine x_aload_n dX5_narrow_99 rfl ?_
            refine x_getR (j := 51) dX5_narrow_100 gf_RX5_7 rfl rfl (hN _ _ (by decide)) ?_
            refine x_iconst dX5_narrow_103 ?_
            refine x_iload dX5_narrow_104 rfl ?_
            refine xf_SI2 dX5_narrow_106 ml_RX5_82 vw_X5_at st_X5_at (sp_at) ⟨Nat.le_of_ble_eq_true rfl, Nat.le_of_ble_eq_true rfl, Nat.le_of_ble_eq_true rfl, Nat.le_of_ble_eq_true rfl, Nat.le_of_ble_eq_true rfl⟩ ?_
            refine x_iald (9 * 4 + g) dX5_narrow_109 rfl (by omega) (show _ < 63 by omega) ?_
            rw [show J 51 (9 * 4 + g) = fm J g 4 from (fm_at (by omega)).symm]
            rw [hFJ]
            refine x_if_ne 135 dX5_narrow_110 (by decide) (by unfold inr; omega) (fun h_110 => ?_) (fun h_110 => ?_)
            · refine x_iconst dX5_narrow_135 ?_
              refine x_ist7 dX5_narrow_136 ?_
              refine x_iload dX5_narrow_138 rfl ?_
              refine x_if_le 151 dX5_narrow_140 (by decide) (by unfold inr; omega) (fun h_140 => ?_) (fun h_140 => ?_)
              · refine x_aload_n dX5_narrow_151 rfl ?_
                refine x_getR (j := 62) dX5_narrow_152 gf_RX5_43 rfl rfl (hN _ _ (by decide)) ?_
                refine x_iload dX5_narrow_155 rfl ?_
                refine x_iload dX5_narrow_157 rfl ?_
                refine x_iast (g) dX5_narrow_159 rfl h2 (show _ < 9 by omega) ?_
                refine x_iload_n dX5_narrow_160 rfl ?_
                refine x_iload dX5_narrow_161 rfl ?_
                refine x_isub dX5_narrow_163 ?_
                refine x_ist3 dX5_narrow_164 ?_
                refine x_iload dX5_narrow_165 rfl ?_
                refine x_iload dX5_narrow_167 rfl ?_
                refine x_iadd dX5_narrow_169 ?_
                refine x_ist4 dX5_narrow_170 ?_
                refine x_inc5 dX5_narrow_172 ?_
                refine x_goto 36 dX5_narrow_175 (by decide) ?_
                first
                | (exfalso; omega)
                | (obtain ⟨q1, q2⟩ := ny (by omega)
                   refine x_dr7 (x_dr6 (ih (g + 1) _ _ _ _ (by omega) (by omega) (by omega) hf1 hd1 (by rw [lva_A, ← hs, q1]) (by omega) (by rw [h5, hx]; rfl) ?_ ?_ (h8.upc (by omega)) (fun i hi => ?_)))
                   · show (nwB (fm I) d g && decide (nwF (fm I) d g ≤ 9)) = true
                     rw [h6, ← hx, Bool.true_and, decide_eq_true_iff]; omega
                   · show (okAll P (l0M I 0) d g && _) = true
                     rw [h7, q2]; rfl
                   · by_cases e : i = g
                     · rw [e, up_s]; exact hx
                     · rw [up_n2 e]; exact h9 i (by omega))
              · refine x_iload dX5_narrow_143 rfl ?_
                refine x_if_ne 151 dX5_narrow_145 (by decide) (by unfold inr; omega) (fun h_145 => ?_) (fun h_145 => ?_)
                · refine x_aload_n dX5_narrow_151 rfl ?_
                  refine x_getR (j := 62) dX5_narrow_152 gf_RX5_43 rfl rfl (hN _ _ (by decide)) ?_
                  refine x_iload dX5_narrow_155 rfl ?_
                  refine x_iload dX5_narrow_157 rfl ?_
                  refine x_iast (g) dX5_narrow_159 rfl h2 (show _ < 9 by omega) ?_
                  refine x_iload_n dX5_narrow_160 rfl ?_
                  refine x_iload dX5_narrow_161 rfl ?_
                  refine x_isub dX5_narrow_163 ?_
                  refine x_ist3 dX5_narrow_164 ?_
                  refine x_iload dX5_narrow_165 rfl ?_
                  refine x_iload dX5_narrow_167 rfl ?_
                  refine x_iadd dX5_narrow_169 ?_
                  refine x_ist4 dX5_narrow_170 ?_
                  refine x_inc5 dX5_narrow_172 ?_
                  refine x_goto 36 dX5_narrow_175 (by decide) ?_
                  first
                  | (exfalso; omega)
                  | (obtain ⟨q1, q2⟩ := ny (by omega)
                     refine x_dr7 (x_dr6 (ih (g + 1) _ _ _ _ (by omega) (by omega) (by omega) hf1 hd1 (by rw [lva_A, ← hs, q1]) (by omega) (by rw [h5, hx]; rfl) ?_ ?_ (h8.upc (by omega)) (fun i hi => ?_)))
                     · show (nwB (fm I) d g && decide (nwF (fm I) d g ≤ 9)) = true
                       rw [h6, ← hx, Bool.true_and, decide_eq_true_iff]; omega
                     · show (okAll P (l0M I 0) d g && _) = true
                       rw [h7, q2]; rfl
                     · by_cases e : i = g
                       · rw [e, up_s]; exact hx
                       · rw [up_n2 e]; exact h9 i (by omega))
                · refine x_bipush dX5_narrow_148 (by decide) ?_
                  refine hret _ _ _ _ _ _ dX5_narrow_150 rfl ?_
                  first
                  | (exfalso; omega)
                  | (refine ⟨rfl, rfl, ?_, h8⟩
                     rw [if_neg (by omega), if_pos hd1]
                     refine (nr_no (g := g) (by omega) ?_).symm
                     by_cases x9 : x ≤ 9
                     · right
                       have q2 := nn (by omega)
                       rw [← hP]
                       show (okAll P (l0M I 0) d g && _) = false
                       rw [q2, Bool.and_false]
                     · left
                       show (nwB (fm I) d g && decide (nwF (fm I) d g ≤ 9)) = false
                       rw [← hx, decide_eq_false x9, Bool.and_false])
            · refine x_iload_n dX5_narrow_113 rfl ?_
              refine x_aload_n dX5_narrow_114 rfl ?_
              refine x_getR (j := 51) dX5_narrow_115 gf_RX5_7 rfl rfl (hN _ _ (by decide)) ?_
              refine x_iconst dX5_narrow_118 ?_
              refine x_iload dX5_narrow_119 rfl ?_
              refine xf_SI2 dX5_narrow_121 ml_RX5_82 vw_X5_at st_X5_at (sp_at) ⟨Nat.le_of_ble_eq_true rfl, Nat.le_of_ble_eq_true rfl, Nat.le_of_ble_eq_true rfl, Nat.le_of_ble_eq_true rfl, Nat.le_of_ble_eq_true rfl⟩ ?_
              refine x_iald (9 * 0 + g) dX5_narrow_124 rfl (by omega) (show _ < 63 by omega) ?_
              rw [show J 51 (9 * 0 + g) = fm J g 0 from (fm_at (by omega)).symm]
              rw [hFJ]
              refine x_isub dX5_narrow_125 ?_
              refine x_iload dX5_narrow_126 rfl ?_
              refine x_icmp_lt 135 dX5_narrow_128 (by decide) (by unfold inr; omega) (by unfold inr; omega) (fun h_128 => ?_) (fun h_128 => ?_)
              · refine x_iconst dX5_narrow_135 ?_
                refine x_ist7 dX5_narrow_136 ?_
                refine x_iload dX5_narrow_138 rfl ?_
                refine x_if_le 151 dX5_narrow_140 (by decide) (by unfold inr; omega) (fun h_140 => ?_) (fun h_140 => ?_)
                · refine x_aload_n dX5_narrow_151 rfl ?_
                  refine x_getR (j := 62) dX5_narrow_152 gf_RX5_43 rfl rfl (hN _ _ (by decide)) ?_
                  refine x_iload dX5_narrow_155 rfl ?_
                  refine x_iload dX5_narrow_157 rfl ?_
                  refine x_iast (g) dX5_narrow_159 rfl h2 (show _ < 9 by omega) ?_
                  refine x_iload_n dX5_narrow_160 rfl ?_
                  refine x_iload dX5_narrow_161 rfl ?_
                  refine x_isub dX5_narrow_163 ?_
                  refine x_ist3 dX5_narrow_164 ?_
                  refine x_iload dX5_narrow_165 rfl ?_
                  refine x_iload dX5_narrow_167 rfl ?_
                  refine x_iadd dX5_narrow_169 ?_
                  refine x_ist4 dX5_narrow_170 ?_
                  refine x_inc5 dX5_narrow_172 ?_
                  refine x_goto 36 dX5_narrow_175 (by decide) ?_
                  first
                  | (exfalso; omega)
                  | (obtain ⟨q1, q2⟩ := ny (by omega)
                     refine x_dr7 (x_dr6 (ih (g + 1) _ _ _ _ (by omega) (by omega) (by omega) hf1 hd1 (by rw [lva_A, ← hs, q1]) (by omega) (by rw [h5, hx]; rfl) ?_ ?_ (h8.upc (by omega)) (fun i hi => ?_)))
                     · show (nwB (fm I) d g && decide (nwF (fm I) d g ≤ 9)) = true
                       rw [h6, ← hx, Bool.true_and, decide_eq_true_iff]; omega
                     · show (okAll P (l0M I 0) d g && _) = true
                       rw [h7, q2]; rfl
                     · by_cases e : i = g
                       · rw [e, up_s]; exact hx
                       · rw [up_n2 e]; exact h9 i (by omega))
                · refine x_iload dX5_narrow_143 rfl ?_
                  refine x_if_ne 151 dX5_narrow_145 (by decide) (by unfold inr; omega) (fun h_145 => ?_) (fun h_145 => ?_)
                  · refine x_aload_n dX5_narrow_151 rfl ?_
                    refine x_getR (j := 62) dX5_narrow_152 gf_RX5_43 rfl rfl (hN _ _ (by decide)) ?_
                    refine x_iload dX5_narrow_155 rfl ?_
                    refine x_iload dX5_narrow_157 rfl ?_
                    refine x_iast (g) dX5_narrow_159 rfl h2 (show _ < 9 by omega) ?_
                    refine x_iload_n dX5_narrow_160 rfl ?_
                    refine x_iload dX5_narrow_161 rfl ?_
                    refine x_isub dX5_narrow_163 ?_
                    refine x_ist3 dX5_narrow_164 ?_
                    refine x_iload dX5_narrow_165 rfl ?_
                    refine x_iload dX5_narrow_167 rfl ?_
                    refine x_iadd dX5_narrow_169 ?_
                    refine x_ist4 dX5_narrow_170 ?_
                    refine x_inc5 dX5_narrow_172 ?_
                    refine x_goto 36 dX5_narrow_175 (by decide) ?_
                    first
                    | (exfalso; omega)
                    | (obtain ⟨q1, q2⟩ := ny (by omega)
                       refine x_dr7 (x_dr6 (ih (g + 1) _ _ _ _ (by omega) (by omega) (by omega) hf1 hd1 (by rw [lva_A, ← hs, q1]) (by omega) (by rw [h5, hx]; rfl) ?_ ?_ (h8.upc (by omega)) (fun i hi => ?_)))
                       · show (nwB (fm I) d g && decide (nwF (fm I) d g ≤ 9)) = true
                         rw [h6, ← hx, Bool.true_and, decide_eq_true_iff]; omega
                       · show (okAll P (l0M I 0) d g && _) = true
                         rw [h7, q2]; rfl
                       · by_cases e : i = g
                         · rw [e, up_s]; exact hx
                         · rw [up_n2 e]; exact h9 i (by omega))
                  · refine x_bipush dX5_narrow_148 (by decide) ?_
                    refine hret _ _ _ _ _ _ dX5_narrow_150 rfl ?_
                    first
                    | (exfalso; omega)
                    | (refine ⟨rfl, rfl, ?_, h8⟩
                       rw [if_neg (by omega), if_pos hd1]
                       refine (nr_no (g := g) (by omega) ?_).symm
                       by_cases x9 : x ≤ 9
                       · right
                         have q2 := nn (by omega)
                         rw [← hP]
                         show (okAll P (l0M I 0) d g && _) = false
                         rw [q2, Bool.and_false]
                       · left
                         show (nwB (fm I) d g && decide (nwF (fm I) d g ≤ 9)) = false
                         rw [← hx, decide_eq_false x9, Bool.and_false])
              · refine x_iconst dX5_narrow_131 ?_
                refine x_goto 136 dX5_narrow_132 (by decide) ?_
                refine x_ist7 dX5_narrow_136 ?_
                refine x_iload dX5_narrow_138 rfl ?_
                refine x_if_le 151 dX5_narrow_140 (by decide) (by unfold inr; omega) (fun h_140 => ?_) (fun h_140 => ?_)
                · refine x_aload_n dX5_narrow_151 rfl ?_
                  refine x_getR (j := 62) dX5_narrow_152 gf_RX5_43 rfl rfl (hN _ _ (by decide)) ?_
                  refine x_iload dX5_narrow_155 rfl ?_
                  refine x_iload dX5_narrow_157 rfl ?_
                  refine x_iast (g) dX5_narrow_159 rfl h2 (show _ < 9 by omega) ?_
                  refine x_iload_n dX5_narrow_160 rfl ?_
                  refine x_iload dX5_narrow_161 rfl ?_
                  refine x_isub dX5_narrow_163 ?_
                  refine x_ist3 dX5_narrow_164 ?_
                  refine x_iload dX5_narrow_165 rfl ?_
                  refine x_iload dX5_narrow_167 rfl ?_
                  refine x_iadd dX5_narrow_169 ?_
                  refine x_ist4 dX5_narrow_170 ?_
                  refine x_inc5 dX5_narrow_172 ?_
                  refine x_goto 36 dX5_narrow_175 (by decide) ?_
                  first
                  | (exfalso; omega)
                  | (obtain ⟨q1, q2⟩ := ny (by omega)
                     refine x_dr7 (x_dr6 (ih (g + 1) _ _ _ _ (by omega) (by omega) (by omega) hf1 hd1 (by rw [lva_A, ← hs, q1]) (by omega) (by rw [h5, hx]; rfl) ?_ ?_ (h8.upc (by omega)) (fun i hi => ?_)))
                     · show (nwB (fm I) d g && decide (nwF (fm I) d g ≤ 9)) = true
                       rw [h6, ← hx, Bool.true_and, decide_eq_true_iff]; omega
                     · show (okAll P (l0M I 0) d g && _) = true
                       rw [h7, q2]; rfl
                     · by_cases e : i = g
                       · rw [e, up_s]; exact hx
                       · rw [up_n2 e]; exact h9 i (by omega))
                · refine x_iload dX5_narrow_143 rfl ?_
                  refine x_if_ne 151 dX5_narrow_145 (by decide) (by unfold inr; omega) (fun h_145 => ?_) (fun h_145 => ?_)
                  · refine x_aload_n dX5_narrow_151 rfl ?_
                    refine x_getR (j := 62) dX5_narrow_152 gf_RX5_43 rfl rfl (hN _ _ (by decide)) ?_
                    refine x_iload dX5_narrow_155 rfl ?_
                    refine x_iload dX5_narrow_157 rfl ?_
                    refine x_iast (g) dX5_narrow_159 rfl h2 (show _ < 9 by omega) ?_
                    refine x_iload_n dX5_narrow_160 rfl ?_
                    refine x_iload dX5_narrow_161 rfl ?_
                    refine x_isub dX5_narrow_163 ?_
                    refine x_ist3 dX5_narrow_164 ?_
                    refine x_iload dX5_narrow_165 rfl ?_
                    refine x_iload dX5_narrow_167 rfl ?_
                    refine x_iadd dX5_narrow_169 ?_
                    refine x_ist4 dX5_narrow_170 ?_
                    refine x_inc5 dX5_narrow_172 ?_
                    refine x_goto 36 dX5_narrow_175 (by decide) ?_
                    first
                    | (exfalso; omega)
                    | (obtain ⟨q1, q2⟩ := ny (by omega)
                       refine x_dr7 (x_dr6 (ih (g + 1) _ _ _ _ (by omega) (by omega) (by omega) hf1 hd1 (by rw [lva_A, ← hs, q1]) (by omega) (by rw [h5, hx]; rfl) ?_ ?_ (h8.upc (by omega)) (fun i hi => ?_)))
                       · show (nwB (fm I) d g && decide (nwF (fm I) d g ≤ 9)) = true
                         rw [h6, ← hx, Bool.true_and, decide_eq_true_iff]; omega
                       · show (okAll P (l0M I 0) d g && _) = true
                         rw [h7, q2]; rfl
                       · by_cases e : i = g
                         · rw [e, up_s]; exact hx
                         · rw [up_n2 e]; exact h9 i (by omega))
                  · refine x_bipush dX5_narrow_148 (by decide) ?_
                    refine hret _ _ _ _ _ _ dX5_narrow_150 rfl ?_
                    first
                    | (exfalso; omega)
                    | (refine ⟨rfl, rfl, ?_, h8⟩
                       rw [if_neg (by omega), if_pos hd1]
                       refine (nr_no (g := g) (by omega) ?_).symm
                       by_cases x9 : x ≤ 9
                       · right
                         have q2 := nn (by omega)
                         rw [← hP]
                         show (okAll P (l0M I 0) d g && _) = false
                         rw [q2, Bool.and_false]
                       · left
                         show (nwB (fm I) d g && decide (nwF (fm I) d g ≤ 9)) = false
                         rw [← hx, decide_eq_false x9, Bool.and_false])
  refine x_iload_n dX5_narrow_0 rfl ?_
  refine x_iconst dX5_narrow_1 ?_
  refine x_icmp_eq 15 dX5_narrow_2 (by decide) hf (by unfold inr; omega) (fun h_2 => ?_) (fun h_2 => ?_)
  · refine x_iload_n dX5_narrow_15 rfl ?_
    refine xf_SI1 dX5_narrow_16 ml_RX5_184 vw_X5_isTerm st_X5_isTerm (sp_isTerm hd) ⟨Nat.le_of_ble_eq_true rfl, Nat.le_of_ble_eq_true rfl, Nat.le_of_ble_eq_true rfl, Nat.le_of_ble_eq_true rfl, Nat.le_of_ble_eq_true rfl⟩ ?_
    refine x_if_ne 25 dX5_narrow_19 (by decide) (by unfold inr; split <;> omega) (fun h_19 => ?_) (fun h_19 => ?_)
    · replace h_19 := b1 h_19
      refine x_aload_n dX5_narrow_25 rfl ?_
      refine x_getI dX5_narrow_26 gf_RX5_66 rfl rfl ?_
      refine x_ist3 dX5_narrow_29 ?_
      refine x_iconst dX5_narrow_30 ?_
      refine x_ist4 dX5_narrow_31 ?_
      refine x_iconst dX5_narrow_33 ?_
      refine x_ist5 dX5_narrow_34 ?_
      exact lp (n + 1) 0 _ _ _ _ (by omega) (by omega) rfl (by omega) (by omega) hl0.symm (by omega) rfl rfl rfl kpM.rf (fun i hi => absurd hi (Nat.not_lt_zero i))
    · replace h_19 := b0 h_19
      refine x_bipush dX5_narrow_22 (by decide) ?_
      refine hret _ _ _ _ _ _ dX5_narrow_24 rfl ?_
      refine ⟨rfl, rfl, ?_, kpM.rf⟩
      (repeat (first | rw [if_pos (by omega)] | rw [if_neg (by omega)]))
  · refine x_aload_n dX5_narrow_5 rfl ?_
    refine x_iload_n dX5_narrow_6 rfl ?_
    refine xf_VI1 dX5_narrow_7 ml_RX5_92 vw_X5_isFarm vv_X5_isFarm rfl (sp_isFarm hB.1 hn9 hf) ⟨Nat.le_of_ble_eq_true rfl, Nat.le_of_ble_eq_true rfl, Nat.le_of_ble_eq_true rfl, Nat.le_of_ble_eq_true rfl, Nat.le_of_ble_eq_true rfl⟩ ?_
    refine x_if_ne 15 dX5_narrow_10 (by decide) (by unfold inr; split <;> omega) (fun h_10 => ?_) (fun h_10 => ?_)
    · replace h_10 := b1 h_10
      refine x_iload_n dX5_narrow_15 rfl ?_
      refine xf_SI1 dX5_narrow_16 ml_RX5_184 vw_X5_isTerm st_X5_isTerm (sp_isTerm hd) ⟨Nat.le_of_ble_eq_true rfl, Nat.le_of_ble_eq_true rfl, Nat.le_of_ble_eq_true rfl, Nat.le_of_ble_eq_true rfl, Nat.le_of_ble_eq_true rfl⟩ ?_
      refine x_if_ne 25 dX5_narrow_19 (by decide) (by unfold inr; split <;> omega) (fun h_19 => ?_) (fun h_19 => ?_)
      · replace h_19 := b1 h_19
        refine x_aload_n dX5_narrow_25 rfl ?_
        refine x_getI dX5_narrow_26 gf_RX5_66 rfl rfl ?_
        refine x_ist3 dX5_narrow_29 ?_
        refine x_iconst dX5_narrow_30 ?_
        refine x_ist4 dX5_narrow_31 ?_
        refine x_iconst dX5_narrow_33 ?_
        refine x_ist5 dX5_narrow_34 ?_
        exact lp (n + 1) 0 _ _ _ _ (by omega) (by omega) rfl (by omega) (by omega) hl0.symm (by omega) rfl rfl rfl kpM.rf (fun i hi => absurd hi (Nat.not_lt_zero i))
      · replace h_19 := b0 h_19
        refine x_bipush dX5_narrow_22 (by decide) ?_
        refine hret _ _ _ _ _ _ dX5_narrow_24 rfl ?_
        refine ⟨rfl, rfl, ?_, kpM.rf⟩
        (repeat (first | rw [if_pos (by omega)] | rw [if_neg (by omega)]))
    · replace h_10 := b0 h_10
      refine x_iconst dX5_narrow_13 ?_
      refine hret _ _ _ _ _ _ dX5_narrow_14 rfl ?_
      refine ⟨rfl, rfl, ?_, kpM.rf⟩
      (repeat (first | rw [if_pos (by omega)] | rw [if_neg (by omega)]))
theorem sp_isFairBy (hN : NS N) (hB : RM I n) {x : Int} (hx : 0 ≤ x ∧ x ≤ 9) : SpI G mX5_isFairBy .boolean 1 21 0 0 [.ref 50, vi x] K N I (qI K N I (if fairB (setP (fm I) n (fun _ => x)) (l0M I 0) x n = true then 1 else 0)) := by
  refine SpI.of (own := RX5) (cc := cX5_isFairBy) (L := [some (.ref 50), some (vi x), none, none, none]) (by decide) rfl rfl (Nat.le_of_ble_eq_true rfl) rfl (fun Fx hnm hret => ?_)
  have hn9 := hB.2.2.1
  have hs0 : 0 ≤ I 50 2 ∧ I 50 2 ≤ 99 := hB.2.2.2.2.1
  have hl0 : l0M I 0 = I 50 2 := by unfold l0M; rw [if_neg (by decide), if_neg (by decide)]; omega
  obtain ⟨P, hP⟩ : ∃ P, P = setP (fm I) n (fun _ => x) := ⟨_, rfl⟩
  rw [← hP] at hret
  have lp : ∀ (m : Nat) (g : Nat) (z l a : Int), g ≤ n → n < g + m → z = (g : Int) → (fairB P (l0M I 0) x g = true → l = lva P 0 (l0M I 0) g) → (-9 ≤ l ∧ l ≤ 149) → a = (if fairB P (l0M I 0) x g = true then 1 else 0) → XX G RX5 cX5_isFairBy (RmW 1 21 0 0) Fx 10 [some (.ref 50), some (vi x), some (vi l), some (vi a), some (vi z)] [] K N I 0 0 := by
    intro m
    induction m with
    | zero => intros; exfalso; omega
    | succ m ih =>
      intro g z l a h0 h1 h2 h3 h4 h5
      have bF : g < n → _ := hB.2.2.2.1 g
      have hab : a = 0 ∨ a = 1 := by rw [h5]; split <;> omega
      refine x_iload dX5_isFairBy_10 rfl ?_
      refine x_aload_n dX5_isFairBy_12 rfl ?_
      refine x_getI dX5_isFairBy_13 gf_RX5_73 rfl rfl ?_
      rw [hB.1]
      refine x_icmp_ge 107 dX5_isFairBy_16 (by decide) (by unfold inr; omega) (by unfold inr; omega) (fun h_16 => ?_) (fun h_16 => ?_)
      · refine x_iload_n dX5_isFairBy_107 rfl ?_
        refine hret _ _ _ _ _ _ dX5_isFairBy_108 (show narrow .boolean (vi a) = vi a by rw [h5]; exact nbz) ?_
        obtain rfl : g = n := by omega
        exact ⟨rfl, rfl, rfl, h5⟩
      · refine x_iload_n dX5_isFairBy_19 rfl ?_
        refine x_iload_n dX5_isFairBy_20 rfl ?_
        refine x_aload_n dX5_isFairBy_21 rfl ?_
        refine x_getR (j := 51) dX5_isFairBy_22 gf_RX5_7 rfl rfl (hN _ _ (by decide)) ?_
        refine x_iconst dX5_isFairBy_25 ?_
        refine x_iload dX5_isFairBy_26 rfl ?_
        refine xf_SI2 dX5_isFairBy_28 ml_RX5_82 vw_X5_at st_X5_at (sp_at) ⟨Nat.le_of_ble_eq_true rfl, Nat.le_of_ble_eq_true rfl, Nat.le_of_ble_eq_true rfl, Nat.le_of_ble_eq_true rfl, Nat.le_of_ble_eq_true rfl⟩ ?_
        refine x_iald (9 * 5 + g) dX5_isFairBy_31 rfl (by omega) (show _ < 63 by omega) ?_
        rw [show I 51 (9 * 5 + g) = fm I g 5 from (fm_at (by omega)).symm]
        refine x_icmp_ge 39 dX5_isFairBy_32 (by decide) (by have := bF (by omega); unfold inr; omega) (by have := bF (by omega); unfold inr; omega) (fun h_32 => ?_) (fun h_32 => ?_)
        · refine x_aload_n dX5_isFairBy_39 rfl ?_
          refine x_getR (j := 51) dX5_isFairBy_40 gf_RX5_7 rfl rfl (hN _ _ (by decide)) ?_
          refine x_iconst dX5_isFairBy_43 ?_
          refine x_iload dX5_isFairBy_44 rfl ?_
          refine xf_SI2 dX5_isFairBy_46 ml_RX5_82 vw_X5_at st_X5_at (sp_at) ⟨Nat.le_of_ble_eq_true rfl, Nat.le_of_ble_eq_true rfl, Nat.le_of_ble_eq_true rfl, Nat.le_of_ble_eq_true rfl, Nat.le_of_ble_eq_true rfl⟩ ?_
          refine x_iald (9 * 5 + g) dX5_isFairBy_49 rfl (by omega) (show _ < 63 by omega) ?_
          rw [show I 51 (9 * 5 + g) = fm I g 5 from (fm_at (by omega)).symm]
          refine x_isub dX5_isFairBy_50 ?_
          have bF2 := bF (by omega)
          have hgn : g < n := by omega
          first
          | refine x_eqV (b := max 0 (l - fm I g 5)) (by omega) ?_
          | skip
          obtain ⟨st, hs⟩ : ∃ st, st = max 0 (l - fm I g 5) := ⟨_, rfl⟩
          have hst : fairB P (l0M I 0) x g = true → st = sto P 0 (l0M I 0) g := fun hg => by
            rw [hs, h3 hg, hP, sto_A, setP_o (by decide)]
          have hsb : 0 ≤ st ∧ st ≤ 149 := by rw [hs]; omega
          rw [← hs]
          have hfb := fun hg => fb_st (F := fm I) (l0 := l0M I 0) (x := x) (n := n) (f := g) (s := st) hx.1 hgn (by rw [← hP]; exact hst hg)
          rw [← hP] at hfb
          have hstep : fairB P (l0M I 0) x (g + 1) = (fairB P (l0M I 0) x g && (decide (¬ P g 4 = 0) || decide (tok P 0 (l0M I 0) g = x))) := rfl
          rw [show P g 4 = fm I g 4 by rw [hP]; exact setP_o (by decide)] at hstep
          refine x_ist2 dX5_isFairBy_51 ?_
          refine x_aload_n dX5_isFairBy_52 rfl ?_
          refine x_getR (j := 51) dX5_isFairBy_53 gf_RX5_7 rfl rfl (hN _ _ (by decide)) ?_
          refine x_iconst dX5_isFairBy_56 ?_
          refine x_iload dX5_isFairBy_57 rfl ?_
          refine xf_SI2 dX5_isFairBy_59 ml_RX5_82 vw_X5_at st_X5_at (sp_at) ⟨Nat.le_of_ble_eq_true rfl, Nat.le_of_ble_eq_true rfl, Nat.le_of_ble_eq_true rfl, Nat.le_of_ble_eq_true rfl, Nat.le_of_ble_eq_true rfl⟩ ?_
          refine x_iald (9 * 4 + g) dX5_isFairBy_62 rfl (by omega) (show _ < 63 by omega) ?_
          rw [show I 51 (9 * 4 + g) = fm I g 4 from (fm_at (by omega)).symm]
          refine x_if_ne 101 dX5_isFairBy_63 (by decide) (by unfold inr; omega) (fun h_63 => ?_) (fun h_63 => ?_)
          · refine x_inc4 dX5_isFairBy_101 ?_
            refine x_goto 10 dX5_isFairBy_104 (by decide) ?_
            by_cases hp : fairB P (l0M I 0) x g = true
            · rw [if_pos hp] at h5
              have hsg := hst hp
              obtain ⟨y1, y2⟩ := hfb hp
              have e : fairB P (l0M I 0) x (g + 1) = true ↔ (fm I g 4 ≠ 0 ∨ tok P 0 (l0M I 0) g = x) := by
                rw [hstep, hp, Bool.true_and, Bool.or_eq_true, decide_eq_true_iff, decide_eq_true_iff]
              refine ih (g + 1) _ _ _ (by omega) (by omega) (by omega) (fun hg => ?_) (by omega) ?_
              · rw [e] at hg
                rw [lva_A, ← hsg]
                omega
              · first
                | (rw [if_pos (by rw [e]; omega)]; done)
                | (rw [if_pos (by rw [e]; omega)]; omega)
                | (rw [if_neg (by rw [e]; omega)]; done)
                | (rw [if_neg (by rw [e]; omega)]; omega)
            · rw [if_neg hp] at h5
              have e : ¬ fairB P (l0M I 0) x (g + 1) = true := by
                rw [hstep, Bool.eq_false_iff.mpr hp, Bool.false_and]; decide
              first
              | (exfalso; omega)
              | (refine ih (g + 1) _ _ _ (by omega) (by omega) (by omega) (fun hg => absurd hg e) (by omega) ?_
                 rw [if_neg e]; try omega)
          · refine x_iload_n dX5_isFairBy_66 rfl ?_
            refine x_if_eq 95 dX5_isFairBy_67 (by decide) (by unfold inr; omega) (fun h_67 => ?_) (fun h_67 => ?_)
            · refine x_iconst dX5_isFairBy_95 ?_
              refine x_ist3 dX5_isFairBy_96 ?_
              refine x_iload_n dX5_isFairBy_97 rfl ?_
              refine x_iload_n dX5_isFairBy_98 rfl ?_
              refine x_isub dX5_isFairBy_99 ?_
              refine x_ist2 dX5_isFairBy_100 ?_
              refine x_inc4 dX5_isFairBy_101 ?_
              refine x_goto 10 dX5_isFairBy_104 (by decide) ?_
              by_cases hp : fairB P (l0M I 0) x g = true
              · rw [if_pos hp] at h5
                have hsg := hst hp
                obtain ⟨y1, y2⟩ := hfb hp
                have e : fairB P (l0M I 0) x (g + 1) = true ↔ (fm I g 4 ≠ 0 ∨ tok P 0 (l0M I 0) g = x) := by
                  rw [hstep, hp, Bool.true_and, Bool.or_eq_true, decide_eq_true_iff, decide_eq_true_iff]
                refine ih (g + 1) _ _ _ (by omega) (by omega) (by omega) (fun hg => ?_) (by omega) ?_
                · rw [e] at hg
                  rw [lva_A, ← hsg]
                  omega
                · first
                  | (rw [if_pos (by rw [e]; omega)]; done)
                  | (rw [if_pos (by rw [e]; omega)]; omega)
                  | (rw [if_neg (by rw [e]; omega)]; done)
                  | (rw [if_neg (by rw [e]; omega)]; omega)
              · rw [if_neg hp] at h5
                have e : ¬ fairB P (l0M I 0) x (g + 1) = true := by
                  rw [hstep, Bool.eq_false_iff.mpr hp, Bool.false_and]; decide
                first
                | (exfalso; omega)
                | (refine ih (g + 1) _ _ _ (by omega) (by omega) (by omega) (fun hg => absurd hg e) (by omega) ?_
                   rw [if_neg e]; try omega)
            · refine x_iload_n dX5_isFairBy_70 rfl ?_
              refine x_if_eq 91 dX5_isFairBy_71 (by decide) (by unfold inr; omega) (fun h_71 => ?_) (fun h_71 => ?_)
              · refine x_iconst dX5_isFairBy_91 ?_
                refine x_goto 96 dX5_isFairBy_92 (by decide) ?_
                refine x_ist3 dX5_isFairBy_96 ?_
                refine x_iload_n dX5_isFairBy_97 rfl ?_
                refine x_iload_n dX5_isFairBy_98 rfl ?_
                refine x_isub dX5_isFairBy_99 ?_
                refine x_ist2 dX5_isFairBy_100 ?_
                refine x_inc4 dX5_isFairBy_101 ?_
                refine x_goto 10 dX5_isFairBy_104 (by decide) ?_
                by_cases hp : fairB P (l0M I 0) x g = true
                · rw [if_pos hp] at h5
                  have hsg := hst hp
                  obtain ⟨y1, y2⟩ := hfb hp
                  have e : fairB P (l0M I 0) x (g + 1) = true ↔ (fm I g 4 ≠ 0 ∨ tok P 0 (l0M I 0) g = x) := by
                    rw [hstep, hp, Bool.true_and, Bool.or_eq_true, decide_eq_true_iff, decide_eq_true_iff]
                  refine ih (g + 1) _ _ _ (by omega) (by omega) (by omega) (fun hg => ?_) (by omega) ?_
                  · rw [e] at hg
                    rw [lva_A, ← hsg]
                    omega
                  · first
                    | (rw [if_pos (by rw [e]; omega)]; done)
                    | (rw [if_pos (by rw [e]; omega)]; omega)
                    | (rw [if_neg (by rw [e]; omega)]; done)
                    | (rw [if_neg (by rw [e]; omega)]; omega)
                · rw [if_neg hp] at h5
                  have e : ¬ fairB P (l0M I 0) x (g + 1) = true := by
                    rw [hstep, Bool.eq_false_iff.mpr hp, Bool.false_and]; decide
                  first
                  | (exfalso; omega)
                  | (refine ih (g + 1) _ _ _ (by omega) (by omega) (by omega) (fun hg => absurd hg e) (by omega) ?_
                     rw [if_neg e]; try omega)
              · refine x_iload_n dX5_isFairBy_74 rfl ?_
                refine x_aload_n dX5_isFairBy_75 rfl ?_
                refine x_getR (j := 51) dX5_isFairBy_76 gf_RX5_7 rfl rfl (hN _ _ (by decide)) ?_
                refine x_iconst dX5_isFairBy_79 ?_
                refine x_iload dX5_isFairBy_80 rfl ?_
                refine xf_SI2 dX5_isFairBy_82 ml_RX5_82 vw_X5_at st_X5_at (sp_at) ⟨Nat.le_of_ble_eq_true rfl, Nat.le_of_ble_eq_true rfl, Nat.le_of_ble_eq_true rfl, Nat.le_of_ble_eq_true rfl, Nat.le_of_ble_eq_true rfl⟩ ?_
                refine x_iald (9 * 0 + g) dX5_isFairBy_85 rfl (by omega) (show _ < 63 by omega) ?_
                rw [show I 51 (9 * 0 + g) = fm I g 0 from (fm_at (by omega)).symm]
                refine x_isub dX5_isFairBy_86 ?_
                refine x_iload_n dX5_isFairBy_87 rfl ?_
                refine x_icmp_lt 95 dX5_isFairBy_88 (by decide) (by unfold inr; omega) (by unfold inr; omega) (fun h_88 => ?_) (fun h_88 => ?_)
                · refine x_iconst dX5_isFairBy_95 ?_
                  refine x_ist3 dX5_isFairBy_96 ?_
                  refine x_iload_n dX5_isFairBy_97 rfl ?_
                  refine x_iload_n dX5_isFairBy_98 rfl ?_
                  refine x_isub dX5_isFairBy_99 ?_
                  refine x_ist2 dX5_isFairBy_100 ?_
                  refine x_inc4 dX5_isFairBy_101 ?_
                  refine x_goto 10 dX5_isFairBy_104 (by decide) ?_
                  by_cases hp : fairB P (l0M I 0) x g = true
                  · rw [if_pos hp] at h5
                    have hsg := hst hp
                    obtain ⟨y1, y2⟩ := hfb hp
                    have e : fairB P (l0M I 0) x (g + 1) = true ↔ (fm I g 4 ≠ 0 ∨ tok P 0 (l0M I 0) g = x) := by
                      rw [hstep, hp, Bool.true_and, Bool.or_eq_true, decide_eq_true_iff, decide_eq_true_iff]
                    refine ih (g + 1) _ _ _ (by omega) (by omega) (by omega) (fun hg => ?_) (by omega) ?_
                    · rw [e] at hg
                      rw [lva_A, ← hsg]
                      omega
                    · first
                      | (rw [if_pos (by rw [e]; omega)]; done)
                      | (rw [if_pos (by rw [e]; omega)]; omega)
                      | (rw [if_neg (by rw [e]; omega)]; done)
                      | (rw [if_neg (by rw [e]; omega)]; omega)
                  · rw [if_neg hp] at h5
                    have e : ¬ fairB P (l0M I 0) x (g + 1) = true := by
                      rw [hstep, Bool.eq_false_iff.mpr hp, Bool.false_and]; decide
                    first
                    | (exfalso; omega)
                    | (refine ih (g + 1) _ _ _ (by omega) (by omega) (by omega) (fun hg => absurd hg e) (by omega) ?_
                       rw [if_neg e]; try omega)
                · refine x_iconst dX5_isFairBy_91 ?_
                  refine x_goto 96 dX5_isFairBy_92 (by decide) ?_
                  refine x_ist3 dX5_isFairBy_96 ?_
                  refine x_iload_n dX5_isFairBy_97 rfl ?_
                  refine x_iload_n dX5_isFairBy_98 rfl ?_
                  refine x_isub dX5_isFairBy_99 ?_
                  refine x_ist2 dX5_isFairBy_100 ?_
                  refine x_inc4 dX5_isFairBy_101 ?_
                  refine x_goto 10 dX5_isFairBy_104 (by decide) ?_
                  by_cases hp : fairB P (l0M I 0) x g = true
                  · rw [if_pos hp] at h5
                    have hsg := hst hp
                    obtain ⟨y1, y2⟩ := hfb hp
                    have e : fairB P (l0M I 0) x (g + 1) = true ↔ (fm I g 4 ≠ 0 ∨ tok P 0 (l0M I 0) g = x) := by
                      rw [hstep, hp, Bool.true_and, Bool.or_eq_true, decide_eq_true_iff, decide_eq_true_iff]
                    refine ih (g + 1) _ _ _ (by omega) (by omega) (by omega) (fun hg => ?_) (by omega) ?_
                    · rw [e] at hg
                      rw [lva_A, ← hsg]
                      omega
                    · first
                      | (rw [if_pos (by rw [e]; omega)]; done)
                      | (rw [if_pos (by rw [e]; omega)]; omega)
                      | (rw [if_neg (by rw [e]; omega)]; done)
                      | (rw [if_neg (by rw [e]; omega)]; omega)
                  · rw [if_neg hp] at h5
                    have e : ¬ fairB P (l0M I 0) x (g + 1) = true := by
                      rw [hstep, Bool.eq_false_iff.mpr hp, Bool.false_and]; decide
                    first
                    | (exfalso; omega)
                    | (refine ih (g + 1) _ _ _ (by omega) (by omega) (by omega) (fun hg => absurd hg e) (by omega) ?_
                       rw [if_neg e]; try omega)
        · refine x_iload_n dX5_isFairBy_35 rfl ?_
          refine x_goto 50 dX5_isFairBy_36 (by decide) ?_
          refine x_isub dX5_isFairBy_50 ?_
          have bF2 := bF (by omega)
          have hgn : g < n := by omega
          first
          | refine x_eqV (b := max 0 (l - fm I g 5)) (by omega) ?_
          | skip
          obtain ⟨st, hs⟩ : ∃ st, st = max 0 (l - fm I g 5) := ⟨_, rfl⟩
          have hst : fairB P (l0M I 0) x g = true → st = sto P 0 (l0M I 0) g := fun hg => by
            rw [hs, h3 hg, hP, sto_A, setP_o (by decide)]
          have hsb : 0 ≤ st ∧ st ≤ 149 := by rw [hs]; omega
          rw [← hs]
          have hfb := fun hg => fb_st (F := fm I) (l0 := l0M I 0) (x := x) (n := n) (f := g) (s := st) hx.1 hgn (by rw [← hP]; exact hst hg)
          rw [← hP] at hfb
          have hstep : fairB P (l0M I 0) x (g + 1) = (fairB P (l0M I 0) x g && (decide (¬ P g 4 = 0) || decide (tok P 0 (l0M I 0) g = x))) := rfl
          rw [show P g 4 = fm I g 4 by rw [hP]; exact setP_o (by decide)] at hstep
          refine x_ist2 dX5_isFairBy_51 ?_
          refine x_aload_n dX5_isFairBy_52 rfl ?_
          refine x_getR (j := 51) dX5_isFairBy_53 gf_RX5_7 rfl rfl (hN _ _ (by decide)) ?_
          refine x_iconst dX5_isFairBy_56 ?_
          refine x_iload dX5_isFairBy_57 rfl ?_
          refine xf_SI2 dX5_isFairBy_59 ml_RX5_82 vw_X5_at st_X5_at (sp_at) ⟨Nat.le_of_ble_eq_true rfl, Nat.le_of_ble_eq_true rfl, Nat.le_of_ble_eq_true rfl, Nat.le_of_ble_eq_true rfl, Nat.le_of_ble_eq_true rfl⟩ ?_
          refine x_iald (9 * 4 + g) dX5_isFairBy_62 rfl (by omega) (show _ < 63 by omega) ?_
          rw [show I 51 (9 * 4 + g) = fm I g 4 from (fm_at (by omega)).symm]
          refine x_if_ne 101 dX5_isFairBy_63 (by decide) (by unfold inr; omega) (fun h_63 => ?_) (fun h_63 => ?_)
          · refine x_inc4 dX5_isFairBy_101 ?_
            refine x_goto 10 dX5_isFairBy_104 (by decide) ?_
            by_cases hp : fairB P (l0M I 0) x g = true
            · rw [if_pos hp] at h5
              have hsg := hst hp
              obtain ⟨y1, y2⟩ := hfb hp
              have e : fairB P (l0M I 0) x (g + 1) = true ↔ (fm I g 4 ≠ 0 ∨ tok P 0 (l0M I 0) g = x) := by
                rw [hstep, hp, Bool.true_and, Bool.or_eq_true, decide_eq_true_iff, decide_eq_true_iff]
              refine ih (g + 1) _ _ _ (by omega) (by omega) (by omega) (fun hg => ?_) (by omega) ?_
              · rw [e] at hg
                rw [lva_A, ← hsg]
                omega
              · first
                | (rw [if_pos (by rw [e]; omega)]; done)
                | (rw [if_pos (by rw [e]; omega)]; omega)
                | (rw [if_neg (by rw [e]; omega)]; done)
                | (rw [if_neg (by rw [e]; omega)]; omega)
            · rw [if_neg hp] at h5
              have e : ¬ fairB P (l0M I 0) x (g + 1) = true := by
                rw [hstep, Bool.eq_false_iff.mpr hp, Bool.false_and]; decide
              first
              | (exfalso; omega)
              | (refine ih (g + 1) _ _ _ (by omega) (by omega) (by omega) (fun hg => absurd hg e) (by omega) ?_
                 rw [if_neg e]; try omega)
          · refine x_iload_n dX5_isFairBy_66 rfl ?_
            refine x_if_eq 95 dX5_isFairBy_67 (by decide) (by unfold inr; omega) (fun h_67 => ?_) (fun h_67 => ?_)
            · refine x_iconst dX5_isFairBy_95 ?_
              refine x_ist3 dX5_isFairBy_96 ?_
              refine x_iload_n dX5_isFairBy_97 rfl ?_
              refine x_iload_n dX5_isFairBy_98 rfl ?_
              refine x_isub dX5_isFairBy_99 ?_
              refine x_ist2 dX5_isFairBy_100 ?_
              refine x_inc4 dX5_isFairBy_101 ?_
              refine x_goto 10 dX5_isFairBy_104 (by decide) ?_
              by_cases hp : fairB P (l0M I 0) x g = true
              · rw [if_pos hp] at h5
                have hsg := hst hp
                obtain ⟨y1, y2⟩ := hfb hp
                have e : fairB P (l0M I 0) x (g + 1) = true ↔ (fm I g 4 ≠ 0 ∨ tok P 0 (l0M I 0) g = x) := by
                  rw [hstep, hp, Bool.true_and, Bool.or_eq_true, decide_eq_true_iff, decide_eq_true_iff]
                refine ih (g + 1) _ _ _ (by omega) (by omega) (by omega) (fun hg => ?_) (by omega) ?_
                · rw [e] at hg
                  rw [lva_A, ← hsg]
                  omega
                · first
                  | (rw [if_pos (by rw [e]; omega)]; done)
                  | (rw [if_pos (by rw [e]; omega)]; omega)
                  | (rw [if_neg (by rw [e]; omega)]; done)
                  | (rw [if_neg (by rw [e]; omega)]; omega)
              · rw [if_neg hp] at h5
                have e : ¬ fairB P (l0M I 0) x (g + 1) = true := by
                  rw [hstep, Bool.eq_false_iff.mpr hp, Bool.false_and]; decide
                first
                | (exfalso; omega)
                | (refine ih (g + 1) _ _ _ (by omega) (by omega) (by omega) (fun hg => absurd hg e) (by omega) ?_
                   rw [if_neg e]; try omega)
            · refine x_iload_n dX5_isFairBy_70 rfl ?_
              refine x_if_eq 91 dX5_isFairBy_71 (by decide) (by unfold inr; omega) (fun h_71 => ?_) (fun h_71 => ?_)
              · refine x_iconst dX5_isFairBy_91 ?_
                refine x_goto 96 dX5_isFairBy_92 (by decide) ?_
                refine x_ist3 dX5_isFairBy_96 ?_
                refine x_iload_n dX5_isFairBy_97 rfl ?_
                refine x_iload_n dX5_isFairBy_98 rfl ?_
                refine x_isub dX5_isFairBy_99 ?_
                refine x_ist2 dX5_isFairBy_100 ?_
                refine x_inc4 dX5_isFairBy_101 ?_
                refine x_goto 10 dX5_isFairBy_104 (by decide) ?_
                by_cases hp : fairB P (l0M I 0) x g = true
                · rw [if_pos hp] at h5
                  have hsg := hst hp
                  obtain ⟨y1, y2⟩ := hfb hp
                  have e : fairB P (l0M I 0) x (g + 1) = true ↔ (fm I g 4 ≠ 0 ∨ tok P 0 (l0M I 0) g = x) := by
                    rw [hstep, hp, Bool.true_and, Bool.or_eq_true, decide_eq_true_iff, decide_eq_true_iff]
                  refine ih (g + 1) _ _ _ (by omega) (by omega) (by omega) (fun hg => ?_) (by omega) ?_
                  · rw [e] at hg
                    rw [lva_A, ← hsg]
                    omega
                  · first
                    | (rw [if_pos (by rw [e]; omega)]; done)
                    | (rw [if_pos (by rw [e]; omega)]; omega)
                    | (rw [if_neg (by rw [e]; omega)]; done)
                    | (rw [if_neg (by rw [e]; omega)]; omega)
                · rw [if_neg hp] at h5
                  have e : ¬ fairB P (l0M I 0) x (g + 1) = true := by
                    rw [hstep, Bool.eq_false_iff.mpr hp, Bool.false_and]; decide
                  first
                  | (exfalso; omega)
                  | (refine ih (g + 1) _ _ _ (by omega) (by omega) (by omega) (fun hg => absurd hg e) (by omega) ?_
                     rw [if_neg e]; try omega)
              · refine x_iload_n dX5_isFairBy_74 rfl ?_
                refine x_aload_n dX5_isFairBy_75 rfl ?_
                refine x_getR (j := 51) dX5_isFairBy_76 gf_RX5_7 rfl rfl (hN _ _ (by decide)) ?_
                refine x_iconst dX5_isFairBy_79 ?_
                refine x_iload dX5_isFairBy_80 rfl ?_
                refine xf_SI2 dX5_isFairBy_82 ml_RX5_82 vw_X5_at st_X5_at (sp_at) ⟨Nat.le_of_ble_eq_true rfl, Nat.le_of_ble_eq_true rfl, Nat.le_of_ble_eq_true rfl, Nat.le_of_ble_eq_true rfl, Nat.le_of_ble_eq_true rfl⟩ ?_
                refine x_iald (9 * 0 + g) dX5_isFairBy_85 rfl (by omega) (show _ < 63 by omega) ?_
                rw [show I 51 (9 * 0 + g) = fm I g 0 from (fm_at (by omega)).symm]
                refine x_isub dX5_isFairBy_86 ?_
                refine x_iload_n dX5_isFairBy_87 rfl ?_
                refine x_icmp_lt 95 dX5_isFairBy_88 (by decide) (by unfold inr; omega) (by unfold inr; omega) (fun h_88 => ?_) (fun h_88 => ?_)
                · refine x_iconst dX5_isFairBy_95 ?_
                  refine x_ist3 dX5_isFairBy_96 ?_
                  refine x_iload_n dX5_isFairBy_97 rfl ?_
                  refine x_iload_n dX5_isFairBy_98 rfl ?_
                  refine x_isub dX5_isFairBy_99 ?_
                  refine x_ist2 dX5_isFairBy_100 ?_
                  refine x_inc4 dX5_isFairBy_101 ?_
                  refine x_goto 10 dX5_isFairBy_104 (by decide) ?_
                  by_cases hp : fairB P (l0M I 0) x g = true
                  · rw [if_pos hp] at h5
                    have hsg := hst hp
                    obtain ⟨y1, y2⟩ := hfb hp
                    have e : fairB P (l0M I 0) x (g + 1) = true ↔ (fm I g 4 ≠ 0 ∨ tok P 0 (l0M I 0) g = x) := by
                      rw [hstep, hp, Bool.true_and, Bool.or_eq_true, decide_eq_true_iff, decide_eq_true_iff]
                    refine ih (g + 1) _ _ _ (by omega) (by omega) (by omega) (fun hg => ?_) (by omega) ?_
                    · rw [e] at hg
                      rw [lva_A, ← hsg]
                      omega
                    · first
                      | (rw [if_pos (by rw [e]; omega)]; done)
                      | (rw [if_pos (by rw [e]; omega)]; omega)
                      | (rw [if_neg (by rw [e]; omega)]; done)
                      | (rw [if_neg (by rw [e]; omega)]; omega)
                  · rw [if_neg hp] at h5
                    have e : ¬ fairB P (l0M I 0) x (g + 1) = true := by
                      rw [hstep, Bool.eq_false_iff.mpr hp, Bool.false_and]; decide
                    first
                    | (exfalso; omega)
                    | (refine ih (g + 1) _ _ _ (by omega) (by omega) (by omega) (fun hg => absurd hg e) (by omega) ?_
                       rw [if_neg e]; try omega)
                · refine x_iconst dX5_isFairBy_91 ?_
                  refine x_goto 96 dX5_isFairBy_92 (by decide) ?_
                  refine x_ist3 dX5_isFairBy_96 ?_
                  refine x_iload_n dX5_isFairBy_97 rfl ?_
                  refine x_iload_n dX5_isFairBy_98 rfl ?_
                  refine x_isub dX5_isFairBy_99 ?_
                  refine x_ist2 dX5_isFairBy_100 ?_
                  refine x_inc4 dX5_isFairBy_101 ?_
                  refine x_goto 10 dX5_isFairBy_104 (by decide) ?_
                  by_cases hp : fairB P (l0M I 0) x g = true
                  · rw [if_pos hp] at h5
                    have hsg := hst hp
                    obtain ⟨y1, y2⟩ := hfb hp
                    have e : fairB P (l0M I 0) x (g + 1) = true ↔ (fm I g 4 ≠ 0 ∨ tok P 0 (l0M I 0) g = x) := by
                      rw [hstep, hp, Bool.true_and, Bool.or_eq_true, decide_eq_true_iff, decide_eq_true_iff]
                    refine ih (g + 1) _ _ _ (by omega) (by omega) (by omega) (fun hg => ?_) (by omega) ?_
                    · rw [e] at hg
                      rw [lva_A, ← hsg]
                      omega
                    · first
                      | (rw [if_pos (by rw [e]; omega)]; done)
                      | (rw [if_pos (by rw [e]; omega)]; omega)
                      | (rw [if_neg (by rw [e]; omega)]; done)
                      | (rw [if_neg (by rw [e]; omega)]; omega)
                  · rw [if_neg hp] at h5
                    have e : ¬ fairB P (l0M I 0) x (g + 1) = true := by
                      rw [hstep, Bool.eq_false_iff.mpr hp, Bool.false_and]; decide
                    first
                    | (exfalso; omega)
                    | (refine ih (g + 1) _ _ _ (by omega) (by omega) (by omega) (fun hg => absurd hg e) (by omega) ?_
                       rw [if_neg e]; try omega)
  refine x_aload_n dX5_isFairBy_0 rfl ?_
  refine x_getI dX5_isFairBy_1 gf_RX5_66 rfl rfl ?_
  refine x_ist2 dX5_isFairBy_4 ?_
  refine x_iconst dX5_isFairBy_5 ?_
  refine x_ist3 dX5_isFairBy_6 ?_
  refine x_iconst dX5_isFairBy_7 ?_
  refine x_ist4 dX5_isFairBy_8 ?_
  exact lp (n + 1) 0 _ _ _ (by omega) (by omega) rfl (fun _ => hl0.symm) (by omega) rfl
theorem sp_mfair (hN : NS N) (hB : RM I n) : SpI G mX5_fair .int 2 45 0 0 [.ref 50] K N I (qI K N I (gs1 (fun x => fairB (setP (fm I) n (fun _ => (x : Int))) (l0M I 0) x n) 9)) := by
  refine SpI.of (own := RX5) (cc := cX5_fair) (L := [some (.ref 50), none, none]) (by decide) rfl rfl (Nat.le_of_ble_eq_true rfl) rfl (fun Fx hnm hret => ?_)
  have lp : ∀ (m : Nat) (g : Nat) (z l : Int), g ≤ 10 → 10 < g + m → z = (g : Int) → l = gs1 (fun x => fairB (setP (fm I) n (fun _ => (x : Int))) (l0M I 0) x n) (g - 1) → XX G RX5 cX5_fair (RmW 2 45 0 0) Fx 4 [some (.ref 50), some (vi l), some (vi z)] [] K N I 0 0 := by
    intro m
    induction m with
    | zero => intros; exfalso; omega
    | succ m ih =>
      intro g z l h0 h1 h2 h3
      refine x_iload_n dX5_fair_4 rfl ?_
      refine x_bipush dX5_fair_5 (by decide) ?_
      refine x_icmp_gt 30 dX5_fair_7 (by decide) (by unfold inr; omega) (by unfold inr; omega) (fun h_7 => ?_) (fun h_7 => ?_)
      · refine x_iload_n dX5_fair_30 rfl ?_
        refine hret _ _ _ _ _ _ dX5_fair_31 rfl ?_
        obtain rfl : g = 10 := by omega
        exact ⟨rfl, rfl, rfl, h3⟩
      · refine x_aload_n dX5_fair_10 rfl ?_
        refine x_iload_n dX5_fair_11 rfl ?_
        refine xf_VI1 dX5_fair_12 ml_RX5_193 vw_X5_isFairBy vv_X5_isFairBy rfl (sp_isFairBy hN hB (by omega)) ⟨Nat.le_of_ble_eq_true rfl, Nat.le_of_ble_eq_true rfl, Nat.le_of_ble_eq_true rfl, Nat.le_of_ble_eq_true rfl, Nat.le_of_ble_eq_true rfl⟩ ?_
        refine x_if_eq 22 dX5_fair_15 (by decide) (by unfold inr; split <;> omega) (fun h_15 => ?_) (fun h_15 => ?_)
        · replace h_15 := b0 h_15
          refine x_iload_n dX5_fair_22 rfl ?_
          refine x_ist1 dX5_fair_23 ?_
          refine x_inc2 dX5_fair_24 ?_
          refine x_goto 4 dX5_fair_27 (by decide) ?_
          refine ih (g + 1) _ _ (by omega) (by omega) (by omega) ?_
          cases g with
          | zero =>
            first
            | exact h2
            | exact h3
          | succ k =>
            show _ = (if fairB _ _ _ n = true then ((k + 1 : Nat) : Int) else gs1 _ k)
            rw [h2] at h_15
            first
            | (rw [if_pos h_15]; exact h2)
            | (rw [if_neg h_15]; exact h3)
        · replace h_15 := b1 h_15
          refine x_iload_n dX5_fair_18 rfl ?_
          refine x_goto 23 dX5_fair_19 (by decide) ?_
          refine x_ist1 dX5_fair_23 ?_
          refine x_inc2 dX5_fair_24 ?_
          refine x_goto 4 dX5_fair_27 (by decide) ?_
          refine ih (g + 1) _ _ (by omega) (by omega) (by omega) ?_
          cases g with
          | zero =>
            first
            | exact h2
            | exact h3
          | succ k =>
            show _ = (if fairB _ _ _ n = true then ((k + 1 : Nat) : Int) else gs1 _ k)
            rw [h2] at h_15
            first
            | (rw [if_pos h_15]; exact h2)
            | (rw [if_neg h_15]; exact h3)
  refine x_iconst dX5_fair_0 ?_
  refine x_ist1 dX5_fair_1 ?_
  refine x_iconst dX5_fair_2 ?_
  refine x_ist2 dX5_fair_3 ?_
  exact lp 11 0 _ _ (by omega) (by omega) rfl rfl
end FR

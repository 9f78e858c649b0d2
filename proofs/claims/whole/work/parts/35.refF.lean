/-! ===== the reference: where a new house must bore ===== -/
theorem okD_ins {F : FT} {n p : Nat} {h w : Int} (hO : okD F n 1000000) (hp : p ≤ n) (hh : 0 ≤ h ∧ h ≤ 50) (hw : 0 ≤ w ∧ w ≤ 9) : okD (insF F n p h w) (n + 1) 1000000 := by
  intro f hf
  unfold insF
  by_cases h1 : f < p
  · simp only [h1, if_true]; exact hO f (by omega)
  · by_cases h2 : f = p
    · subst h2
      simp [fst7]; omega
    · have h3 : f ≤ n := by omega
      simp only [h1, h2, h3, if_true, if_false]; exact hO (f - 1) (by omega)
theorem ins_o {F : FT} {n p g j k : Nat} {h w : Int} (hg : g < n) (hj : j = if g < p then g else g + 1) : insF F n p h w j k = F g k := by
  unfold insF
  by_cases h1 : g < p
  · rw [if_pos h1] at hj; subst hj; rw [if_pos h1]
  · rw [if_neg h1] at hj; subst hj
    rw [if_neg (by omega), if_neg (by omega), if_pos (by omega)]; rfl
theorem ins_st {F : FT} {n p g j : Nat} {h w l0 l : Int} (hg : g < n) (hj : j = if g < p then g else g + 1) (hl : l = lva (insF F n p h w) 0 l0 j) : tkA F 0 (max 0 (l - F g 5)) g = tok (insF F n p h w) 0 l0 j ∧ lva (insF F n p h w) 0 l0 (j + 1) = max 0 (l - F g 5) - tok (insF F n p h w) 0 l0 j := by
  have e : sto (insF F n p h w) 0 l0 j = max 0 (l - F g 5) := by rw [sto_A, ins_o hg hj, hl]
  refine ⟨?_, by rw [lva_A, e]⟩
  rw [← tok_A, e]
  unfold tkA
  rw [ins_o hg hj, ins_o hg hj, ins_o hg hj, ins_o hg hj]
theorem ins_p {F : FT} {n p : Nat} {h w l0 l : Int} (hl : l = lva (insF F n p h w) 0 l0 p) (h0 : 0 ≤ l) : tok (insF F n p h w) 0 l0 p = min w (max 0 (l - h)) ∧ lva (insF F n p h w) 0 l0 (p + 1) = l - min w (max 0 (l - h)) := by
  have q : ∀ k, insF F n p h w p k = (if k = 0 then h else if k = 1 then w else if k < 7 then fst7 k else 0) := fun k => by
    unfold insF; rw [if_neg (by omega), if_pos rfl]
  have e : sto (insF F n p h w) 0 l0 p = l := by
    rw [sto_A, q, ← hl, if_neg (by decide), if_neg (by decide), if_pos (by decide), show fst7 5 = 0 from rfl]; omega
  have e2 : tok (insF F n p h w) 0 l0 p = min w (max 0 (l - h)) := by
    rw [← tok_A, e]; unfold tkA
    rw [q, q, q, q, if_neg (show ¬ 4 = 0 by decide), if_neg (show ¬ 4 = 1 by decide), if_pos (show 4 < 7 by decide), if_pos rfl, if_neg (show ¬ 1 = 0 by decide), if_pos rfl, if_neg]
    rintro (z | ⟨z, -⟩)
    · exact z rfl
    · exact absurd z (by decide)
  exact ⟨e2, by rw [lva_A, e, e2]⟩
section FR
variable {G : GT} {K : List Nat} {N : NN} {I : MM} {n : Nat}
theorem sp_takesNew (hN : NS N) (hB : RM I n) {A : Nat → Int} (hA : ∀ g, g < n → I 61 g = A g ∧ 0 ≤ A g ∧ A g ≤ 9) (p : Nat) {zp h w : Int} (hz : zp = (p : Int)) (hp : p ≤ n) (hh : 0 ≤ h ∧ h ≤ 50) (hw : 0 ≤ w ∧ w ≤ 9) : SpI G mX5_takesNew .int 2 46 0 0 [.ref 50, vi zp, vi h, vi w] K N I (qI K N I (if tibB A (tok (insF (fm I) n p h w) 0 (l0M I 0)) p n = true then tok (insF (fm I) n p h w) 0 (l0M I 0) p else -6)) := by
  refine SpI.of (own := RX5) (cc := cX5_takesNew) (L := [some (.ref 50), some (vi zp), some (vi h), some (vi w), none, none, none, none, none]) (by decide) rfl rfl (Nat.le_of_ble_eq_true rfl) rfl (fun Fx hnm hret => ?_)
  have hn9 := hB.2.2.1
  have hs0 : 0 ≤ I 50 2 ∧ I 50 2 ≤ 99 := hB.2.2.2.2.1
  have hl0 : l0M I 0 = I 50 2 := by unfold l0M; rw [if_neg (by decide), if_neg (by decide)]; omega
  obtain ⟨Q, hQ⟩ : ∃ Q, Q = insF (fm I) n p h w := ⟨_, rfl⟩
  have hOQ : okD Q (n + 1) 1000000 := by rw [hQ]; exact okD_ins hB.2.2.2.1 hp hh hw
  have hlb : ∀ j, j ≤ n + 1 → 0 ≤ lva Q 0 (l0M I 0) j ∧ lva Q 0 (l0M I 0) j ≤ 149 := fun j hj => lva_b (hB.l0 0) j (fun g hg => by have := hOQ g (by omega); omega)
  have htb : ∀ j, j < n + 1 → 0 ≤ tok Q 0 (l0M I 0) j ∧ tok Q 0 (l0M I 0) j ≤ 9 := fun j hj => hOQ.tokb hj
  have htp := htb p (by omega)
  rw [← hQ] at hret
  have lp : ∀ (m : Nat) (g : Nat) (z l q a : Int), g ≤ n + 1 → n + 1 < g + m → z = (g : Int) → (g ≤ n → l = lva Q 0 (l0M I 0) (if g ≤ p then g else g + 1)) → q = (if g ≤ p then 0 else tok Q 0 (l0M I 0) p) → a = (if tibB A (tok Q 0 (l0M I 0)) p (min g n) = true then 1 else 0) → XX G RX5 cX5_takesNew (RmW 2 46 0 0) Fx 15 [some (.ref 50), some (vi zp), some (vi h), some (vi w), some (vi l), some (vi q), some (vi a), some (vi z), none] [] K N I 0 0 := by
    intro m
    induction m with
    | zero => intros; exfalso; omega
    | succ m ih =>
      intro g z l q a h0 h1 h2 h3 h4 h5
      have hab : a = 0 ∨ a = 1 := by rw [h5]; split <;> omega
      have l66 : g ≤ n → ∀ (l q : Int) (j : Nat), j = (if g < p then g else g + 1) → l = lva Q 0 (l0M I 0) j → q = (if g < p then 0 else tok Q 0 (l0M I 0) p) → XX G RX5 cX5_takesNew (RmW 2 46 0 0) Fx 66 [some (.ref 50), some (vi zp), some (vi h), some (vi w), some (vi l), some (vi q), some (vi a), some (vi z), none] [] K N I 0 0 := by
        intro hgn l q j hj hl hq
        have hlj : j ≤ n + 1 := by rw [hj]; split <;> omega
        have hb := hlb j hlj
        rw [← hl] at hb
        have bF : g < n → _ := hB.2.2.2.1 g
        have bA : g < n → _ := hA g
        have hjp : (g < p ∧ j = g) ∨ (p ≤ g ∧ j = g + 1) := by rw [hj]; split <;> omega
        refine x_iload dX5_takesNew_66 rfl ?_
        refine x_aload_n dX5_takesNew_68 rfl ?_
        refine x_getI dX5_takesNew_69 gf_RX5_73 rfl rfl ?_
        rw [hB.1]
        refine x_icmp_ge 154 dX5_takesNew_72 (by decide) (by unfold inr; omega) (by unfold inr; omega) (fun h_72 => ?_) (fun h_72 => ?_)
        · refine x_inc7 dX5_takesNew_154 ?_
          refine x_goto 15 dX5_takesNew_157 (by decide) ?_
          refine x_dr8 (ih (g + 1) _ _ _ _ (by omega) (by omega) (by omega) ?_ ?_ ?_)
          · first
            | (intro h9; exfalso; omega)
            | (intro h9
               rw [← e2]
               congr 1
               rcases hjp with ⟨y1, y2⟩ | ⟨y1, y2⟩
               · rw [if_pos (by omega)]; omega
               · rw [if_neg (by omega)]; omega)
          · rw [hq]
            by_cases y : g < p
            · rw [if_pos y, if_pos (by omega)]
            · rw [if_neg y, if_neg (by omega)]
          · first
            | (rw [h5, show min (g + 1) n = min g n by omega])
            | (rw [show min g n = g by omega] at h5
               rw [show min (g + 1) n = g + 1 by omega, hti]
               by_cases y : tibB A (tok Q 0 (l0M I 0)) p g = true
               · rw [if_pos y] at h5
                 rw [y, Bool.true_and]
                 first
                 | (exfalso; omega)
                 | (rw [if_pos (decide_eq_true (by omega))])
                 | (rw [if_neg (by rw [decide_eq_true_iff]; omega)])
               · rw [if_neg y] at h5
                 rw [Bool.eq_false_iff.mpr y, Bool.false_and]
                 first
                 | (rw [if_neg (by decide)]; done)
                 | (exfalso; omega))
        · refine x_iload dX5_takesNew_75 rfl ?_
          refine x_iload dX5_takesNew_77 rfl ?_
          refine x_aload_n dX5_takesNew_79 rfl ?_
          refine x_getR (j := 51) dX5_takesNew_80 gf_RX5_7 rfl rfl (hN _ _ (by decide)) ?_
          refine x_iconst dX5_takesNew_83 ?_
          refine x_iload dX5_takesNew_84 rfl ?_
          refine xf_SI2 dX5_takesNew_86 ml_RX5_82 vw_X5_at st_X5_at (sp_at) ⟨Nat.le_of_ble_eq_true rfl, Nat.le_of_ble_eq_true rfl, Nat.le_of_ble_eq_true rfl, Nat.le_of_ble_eq_true rfl, Nat.le_of_ble_eq_true rfl⟩ ?_
          refine x_iald (9 * 5 + g) dX5_takesNew_89 rfl (by omega) (show _ < 63 by omega) ?_
          rw [show I 51 (9 * 5 + g) = fm I g 5 from (fm_at (by omega)).symm]
          refine x_icmp_ge 98 dX5_takesNew_90 (by decide) (by have := bF (by omega); unfold inr; omega) (by have := bF (by omega); unfold inr; omega) (fun h_90 => ?_) (fun h_90 => ?_)
          · refine x_aload_n dX5_takesNew_98 rfl ?_
            refine x_getR (j := 51) dX5_takesNew_99 gf_RX5_7 rfl rfl (hN _ _ (by decide)) ?_
            refine x_iconst dX5_takesNew_102 ?_
            refine x_iload dX5_takesNew_103 rfl ?_
            refine xf_SI2 dX5_takesNew_105 ml_RX5_82 vw_X5_at st_X5_at (sp_at) ⟨Nat.le_of_ble_eq_true rfl, Nat.le_of_ble_eq_true rfl, Nat.le_of_ble_eq_true rfl, Nat.le_of_ble_eq_true rfl, Nat.le_of_ble_eq_true rfl⟩ ?_
            refine x_iald (9 * 5 + g) dX5_takesNew_108 rfl (by omega) (show _ < 63 by omega) ?_
            rw [show I 51 (9 * 5 + g) = fm I g 5 from (fm_at (by omega)).symm]
            refine x_isub dX5_takesNew_109 ?_
            have bF2 := bF (by omega)
            have bA2 := bA (by omega)
            have hgn2 : g < n := by omega
            first
            | refine x_eqV (b := max 0 (l - fm I g 5)) (by omega) ?_
            | skip
            obtain ⟨e1, e2⟩ := ins_st (F := fm I) (n := n) (p := p) (h := h) (w := w) (l0 := l0M I 0) (l := l) hgn2 hj (by rw [← hQ]; exact hl)
            rw [← hQ] at e1 e2
            obtain ⟨st, hs⟩ : ∃ st, st = max 0 (l - fm I g 5) := ⟨_, rfl⟩
            have hsb : 0 ≤ st ∧ st ≤ 149 := by rw [hs]; omega
            rw [← hs] at e1 e2 ⊢
            refine x_ist4 dX5_takesNew_110 ?_
            refine x_aload_n dX5_takesNew_112 rfl ?_
            refine x_iload dX5_takesNew_113 rfl ?_
            refine x_iload dX5_takesNew_115 rfl ?_
            refine x_iconst dX5_takesNew_117 ?_
            refine xf_VI3 dX5_takesNew_118 ml_RX5_124 vw_X5_takenAt vv_X5_takenAt rfl (sp_takenAt hN hB g (by omega) h2 (by omega) (by unfold inr; omega)) ⟨Nat.le_of_ble_eq_true rfl, Nat.le_of_ble_eq_true rfl, Nat.le_of_ble_eq_true rfl, Nat.le_of_ble_eq_true rfl, Nat.le_of_ble_eq_true rfl⟩ ?_
            rw [e1]
            obtain ⟨t, ht⟩ : ∃ t, t = tok Q 0 (l0M I 0) j := ⟨_, rfl⟩
            have tb := htb j (by omega)
            rw [← ht] at e1 e2 tb ⊢
            have hti : tibB A (tok Q 0 (l0M I 0)) p (g + 1) = (tibB A (tok Q 0 (l0M I 0)) p g && decide (A g ≤ t)) := by
              show (tibB A (tok Q 0 (l0M I 0)) p g && decide (A g ≤ tok Q 0 (l0M I 0) (if g < p then g else g + 1))) = _
              rw [← hj, ← ht]
            refine x_ist8 dX5_takesNew_121 ?_
            refine x_iload dX5_takesNew_123 rfl ?_
            refine x_if_eq 144 dX5_takesNew_125 (by decide) (by unfold inr; omega) (fun h_125 => ?_) (fun h_125 => ?_)
            · refine x_iconst dX5_takesNew_144 ?_
              refine x_ist6 dX5_takesNew_145 ?_
              refine x_iload dX5_takesNew_147 rfl ?_
              refine x_iload dX5_takesNew_149 rfl ?_
              refine x_isub dX5_takesNew_151 ?_
              refine x_ist4 dX5_takesNew_152 ?_
              refine x_inc7 dX5_takesNew_154 ?_
              refine x_goto 15 dX5_takesNew_157 (by decide) ?_
              refine x_dr8 (ih (g + 1) _ _ _ _ (by omega) (by omega) (by omega) ?_ ?_ ?_)
              · first
                | (intro h9; exfalso; omega)
                | (intro h9
                   rw [← e2]
                   congr 1
                   rcases hjp with ⟨y1, y2⟩ | ⟨y1, y2⟩
                   · rw [if_pos (by omega)]; omega
                   · rw [if_neg (by omega)]; omega)
              · rw [hq]
                by_cases y : g < p
                · rw [if_pos y, if_pos (by omega)]
                · rw [if_neg y, if_neg (by omega)]
              · first
                | (rw [h5, show min (g + 1) n = min g n by omega])
                | (rw [show min g n = g by omega] at h5
                   rw [show min (g + 1) n = g + 1 by omega, hti]
                   by_cases y : tibB A (tok Q 0 (l0M I 0)) p g = true
                   · rw [if_pos y] at h5
                     rw [y, Bool.true_and]
                     first
                     | (exfalso; omega)
                     | (rw [if_pos (decide_eq_true (by omega))])
                     | (rw [if_neg (by rw [decide_eq_true_iff]; omega)])
                   · rw [if_neg y] at h5
                     rw [Bool.eq_false_iff.mpr y, Bool.false_and]
                     first
                     | (rw [if_neg (by decide)]; done)
                     | (exfalso; omega))
            · refine x_iload dX5_takesNew_128 rfl ?_
              refine x_aload_n dX5_takesNew_130 rfl ?_
              refine x_getR (j := 61) dX5_takesNew_131 gf_RX5_40 rfl rfl (hN _ _ (by decide)) ?_
              refine x_iload dX5_takesNew_134 rfl ?_
              refine x_iald (g) dX5_takesNew_136 rfl h2 (show _ < 9 by omega) ?_
              rw [bA2.1]
              refine x_icmp_lt 144 dX5_takesNew_137 (by decide) (by unfold inr; omega) (by unfold inr; omega) (fun h_137 => ?_) (fun h_137 => ?_)
              · refine x_iconst dX5_takesNew_144 ?_
                refine x_ist6 dX5_takesNew_145 ?_
                refine x_iload dX5_takesNew_147 rfl ?_
                refine x_iload dX5_takesNew_149 rfl ?_
                refine x_isub dX5_takesNew_151 ?_
                refine x_ist4 dX5_takesNew_152 ?_
                refine x_inc7 dX5_takesNew_154 ?_
                refine x_goto 15 dX5_takesNew_157 (by decide) ?_
                refine x_dr8 (ih (g + 1) _ _ _ _ (by omega) (by omega) (by omega) ?_ ?_ ?_)
                · first
                  | (intro h9; exfalso; omega)
                  | (intro h9
                     rw [← e2]
                     congr 1
                     rcases hjp with ⟨y1, y2⟩ | ⟨y1, y2⟩
                     · rw [if_pos (by omega)]; omega
                     · rw [if_neg (by omega)]; omega)
                · rw [hq]
                  by_cases y : g < p
                  · rw [if_pos y, if_pos (by omega)]
                  · rw [if_neg y, if_neg (by omega)]
                · first
                  | (rw [h5, show min (g + 1) n = min g n by omega])
                  | (rw [show min g n = g by omega] at h5
                     rw [show min (g + 1) n = g + 1 by omega, hti]
                     by_cases y : tibB A (tok Q 0 (l0M I 0)) p g = true
                     · rw [if_pos y] at h5
                       rw [y, Bool.true_and]
                       first
                       | (exfalso; omega)
                       | (rw [if_pos (decide_eq_true (by omega))])
                       | (rw [if_neg (by rw [decide_eq_true_iff]; omega)])
                     · rw [if_neg y] at h5
                       rw [Bool.eq_false_iff.mpr y, Bool.false_and]
                       first
                       | (rw [if_neg (by decide)]; done)
                       | (exfalso; omega))
              · refine x_iconst dX5_takesNew_140 ?_
                refine x_goto 145 dX5_takesNew_141 (by decide) ?_
                refine x_ist6 dX5_takesNew_145 ?_
                refine x_iload dX5_takesNew_147 rfl ?_
                refine x_iload dX5_takesNew_149 rfl ?_
                refine x_isub dX5_takesNew_151 ?_
                refine x_ist4 dX5_takesNew_152 ?_
                refine x_inc7 dX5_takesNew_154 ?_
                refine x_goto 15 dX5_takesNew_157 (by decide) ?_
                refine x_dr8 (ih (g + 1) _ _ _ _ (by omega) (by omega) (by omega) ?_ ?_ ?_)
                · first
                  | (intro h9; exfalso; omega)
                  | (intro h9
                     rw [← e2]
                     congr 1
                     rcases hjp with ⟨y1, y2⟩ | ⟨y1, y2⟩
                     · rw [if_pos (by omega)]; omega
                     · rw [if_neg (by omega)]; omega)
                · rw [hq]
                  by_cases y : g < p
                  · rw [if_pos y, if_pos (by omega)]
                  · rw [if_neg y, if_neg (by omega)]
                · first
                  | (rw [h5, show min (g + 1) n = min g n by omega])
                  | (rw [show min g n = g by omega] at h5
                     rw [show min (g + 1) n = g + 1 by omega, hti]
                     by_cases y : tibB A (tok Q 0 (l0M I 0)) p g = true
                     · rw [if_pos y] at h5
                       rw [y, Bool.true_and]
                       first
                       | (exfalso; omega)
                       | (rw [if_pos (decide_eq_true (by omega))])
                       | (rw [if_neg (by rw [decide_eq_true_iff]; omega)])
                     · rw [if_neg y] at h5
                       rw [Bool.eq_false_iff.mpr y, Bool.false_and]
                       first
                       | (rw [if_neg (by decide)]; done)
                       | (exfalso; omega))
          · refine x_iload dX5_takesNew_93 rfl ?_
            refine x_goto 109 dX5_takesNew_95 (by decide) ?_
            refine x_isub dX5_takesNew_109 ?_
            have bF2 := bF (by omega)
            have bA2 := bA (by omega)
            have hgn2 : g < n := by omega
            first
            | refine x_eqV (b := max 0 (l - fm I g 5)) (by omega) ?_
            | skip
            obtain ⟨e1, e2⟩ := ins_st (F := fm I) (n := n) (p := p) (h := h) (w := w) (l0 := l0M I 0) (l := l) hgn2 hj (by rw [← hQ]; exact hl)
            rw [← hQ] at e1 e2
            obtain ⟨st, hs⟩ : ∃ st, st = max 0 (l - fm I g 5) := ⟨_, rfl⟩
            have hsb : 0 ≤ st ∧ st ≤ 149 := by rw [hs]; omega
            rw [← hs] at e1 e2 ⊢
            refine x_ist4 dX5_takesNew_110 ?_
            refine x_aload_n dX5_takesNew_112 rfl ?_
            refine x_iload dX5_takesNew_113 rfl ?_
            refine x_iload dX5_takesNew_115 rfl ?_
            refine x_iconst dX5_takesNew_117 ?_
            refine xf_VI3 dX5_takesNew_118 ml_RX5_124 vw_X5_takenAt vv_X5_takenAt rfl (sp_takenAt hN hB g (by omega) h2 (by omega) (by unfold inr; omega)) ⟨Nat.le_of_ble_eq_true rfl, Nat.le_of_ble_eq_true rfl, Nat.le_of_ble_eq_true rfl, Nat.le_of_ble_eq_true rfl, Nat.le_of_ble_eq_true rfl⟩ ?_
            rw [e1]
            obtain ⟨t, ht⟩ : ∃ t, t = tok Q 0 (l0M I 0) j := ⟨_, rfl⟩
            have tb := htb j (by omega)
            rw [← ht] at e1 e2 tb ⊢
            have hti : tibB A (tok Q 0 (l0M I 0)) p (g + 1) = (tibB A (tok Q 0 (l0M I 0)) p g && decide (A g ≤ t)) := by
              show (tibB A (tok Q 0 (l0M I 0)) p g && decide (A g ≤ tok Q 0 (l0M I 0) (if g < p then g else g + 1))) = _
              rw [← hj, ← ht]
            refine x_ist8 dX5_takesNew_121 ?_
            refine x_iload dX5_takesNew_123 rfl ?_
            refine x_if_eq 144 dX5_takesNew_125 (by decide) (by unfold inr; omega) (fun h_125 => ?_) (fun h_125 => ?_)
            · refine x_iconst dX5_takesNew_144 ?_
              refine x_ist6 dX5_takesNew_145 ?_
              refine x_iload dX5_takesNew_147 rfl ?_
              refine x_iload dX5_takesNew_149 rfl ?_
              refine x_isub dX5_takesNew_151 ?_
              refine x_ist4 dX5_takesNew_152 ?_
              refine x_inc7 dX5_takesNew_154 ?_
              refine x_goto 15 dX5_takesNew_157 (by decide) ?_
              refine x_dr8 (ih (g + 1) _ _ _ _ (by omega) (by omega) (by omega) ?_ ?_ ?_)
              · first
                | (intro h9; exfalso; omega)
                | (intro h9
                   rw [← e2]
                   congr 1
                   rcases hjp with ⟨y1, y2⟩ | ⟨y1, y2⟩
                   · rw [if_pos (by omega)]; omega
                   · rw [if_neg (by omega)]; omega)
              · rw [hq]
                by_cases y : g < p
                · rw [if_pos y, if_pos (by omega)]
                · rw [if_neg y, if_neg (by omega)]
              · first
                | (rw [h5, show min (g + 1) n = min g n by omega])
                | (rw [show min g n = g by omega] at h5
                   rw [show min (g + 1) n = g + 1 by omega, hti]
                   by_cases y : tibB A (tok Q 0 (l0M I 0)) p g = true
                   · rw [if_pos y] at h5
                     rw [y, Bool.true_and]
                     first
                     | (exfalso; omega)
                     | (rw [if_pos (decide_eq_true (by omega))])
                     | (rw [if_neg (by rw [decide_eq_true_iff]; omega)])
                   · rw [if_neg y] at h5
                     rw [Bool.eq_false_iff.mpr y, Bool.false_and]
                     first
                     | (rw [if_neg (by decide)]; done)
                     | (exfalso; omega))
            · refine x_iload dX5_takesNew_128 rfl ?_
              refine x_aload_n dX5_takesNew_130 rfl ?_
              refine x_getR (j := 61) dX5_takesNew_131 gf_RX5_40 rfl rfl (hN _ _ (by decide)) ?_
              refine x_iload dX5_takesNew_134 rfl ?_
              refine x_iald (g) dX5_takesNew_136 rfl h2 (show _ < 9 by omega) ?_
              rw [bA2.1]
              refine x_icmp_lt 144 dX5_takesNew_137 (by decide) (by unfold inr; omega) (by unfold inr; omega) (fun h_137 => ?_) (fun h_137 => ?_)
              · refine x_iconst dX5_takesNew_144 ?_
                refine x_ist6 dX5_takesNew_145 ?_
                refine x_iload dX5_takesNew_147 rfl ?_
                refine x_iload dX5_takesNew_149 rfl ?_
                refine x_isub dX5_takesNew_151 ?_
                refine x_ist4 dX5_takesNew_152 ?_
                refine x_inc7 dX5_takesNew_154 ?_
                refine x_goto 15 dX5_takesNew_157 (by decide) ?_
                refine x_dr8 (ih (g + 1) _ _ _ _ (by omega) (by omega) (by omega) ?_ ?_ ?_)
                · first
                  | (intro h9; exfalso; omega)
                  | (intro h9
                     rw [← e2]
                     congr 1
                     rcases hjp with ⟨y1, y2⟩ | ⟨y1, y2⟩
                     · rw [if_pos (by omega)]; omega
                     · rw [if_neg (by omega)]; omega)
                · rw [hq]
                  by_cases y : g < p
                  · rw [if_pos y, if_pos (by omega)]
                  · rw [if_neg y, if_neg (by omega)]
                · first
                  | (rw [h5, show min (g + 1) n = min g n by omega])
                  | (rw [show min g n = g by omega] at h5
                     rw [show min (g + 1) n = g + 1 by omega, hti]
                     by_cases y : tibB A (tok Q 0 (l0M I 0)) p g = true
                     · rw [if_pos y] at h5
                       rw [y, Bool.true_and]
                       first
                       | (exfalso; omega)
                       | (rw [if_pos (decide_eq_true (by omega))])
                       | (rw [if_neg (by rw [decide_eq_true_iff]; omega)])
                     · rw [if_neg y] at h5
                       rw [Bool.eq_false_iff.mpr y, Bool.false_and]
                       first
                       | (rw [if_neg (by decide)]; done)
                       | (exfalso; omega))
              · refine x_iconst dX5_takesNew_140 ?_
                refine x_goto 145 dX5_takesNew_141 (by decide) ?_
                refine x_ist6 dX5_takesNew_145 ?_
                refine x_iload dX5_takesNew_147 rfl ?_
                refine x_iload dX5_takesNew_149 rfl ?_
                refine x_isub dX5_takesNew_151 ?_
                refine x_ist4 dX5_takesNew_152 ?_
                refine x_inc7 dX5_takesNew_154 ?_
                refine x_goto 15 dX5_takesNew_157 (by decide) ?_
                refine x_dr8 (ih (g + 1) _ _ _ _ (by omega) (by omega) (by omega) ?_ ?_ ?_)
                · first
                  | (intro h9; exfalso; omega)
                  | (intro h9
                     rw [← e2]
                     congr 1
                     rcases hjp with ⟨y1, y2⟩ | ⟨y1, y2⟩
                     · rw [if_pos (by omega)]; omega
                     · rw [if_neg (by omega)]; omega)
                · rw [hq]
                  by_cases y : g < p
                  · rw [if_pos y, if_pos (by omega)]
                  · rw [if_neg y, if_neg (by omega)]
                · first
                  | (rw [h5, show min (g + 1) n = min g n by omega])
                  | (rw [show min g n = g by omega] at h5
                     rw [show min (g + 1) n = g + 1 by omega, hti]
                     by_cases y : tibB A (tok Q 0 (l0M I 0)) p g = true
                     · rw [if_pos y] at h5
                       rw [y, Bool.true_and]
                       first
                       | (exfalso; omega)
                       | (rw [if_pos (decide_eq_true (by omega))])
                       | (rw [if_neg (by rw [decide_eq_true_iff]; omega)])
                     · rw [if_neg y] at h5
                       rw [Bool.eq_false_iff.mpr y, Bool.false_and]
                       first
                       | (rw [if_neg (by decide)]; done)
                       | (exfalso; omega))
      refine x_iload dX5_takesNew_15 rfl ?_
      refine x_aload_n dX5_takesNew_17 rfl ?_
      refine x_getI dX5_takesNew_18 gf_RX5_73 rfl rfl ?_
      rw [hB.1]
      refine x_icmp_gt 160 dX5_takesNew_21 (by decide) (by unfold inr; omega) (by unfold inr; omega) (fun h_21 => ?_) (fun h_21 => ?_)
      · refine x_iload dX5_takesNew_160 rfl ?_
        refine x_if_eq 170 dX5_takesNew_162 (by decide) (by unfold inr; omega) (fun h_162 => ?_) (fun h_162 => ?_)
        · refine x_bipush dX5_takesNew_170 (by decide) ?_
          refine hret _ _ _ _ _ _ dX5_takesNew_172 rfl ?_
          obtain rfl : g = n + 1 := by omega
          rw [show min (n + 1) n = n by omega] at h5
          refine ⟨rfl, rfl, rfl, ?_⟩
          rw [if_neg (show ¬ n + 1 ≤ p by omega)] at h4
          by_cases y : tibB A (tok Q 0 (l0M I 0)) p n = true
          · rw [if_pos y] at h5 ⊢
            first
            | exact h4
            | (exfalso; omega)
          · rw [if_neg y] at h5
            first
            | (exfalso; omega)
            | (rw [if_neg y]; done)
        · refine x_iload dX5_takesNew_165 rfl ?_
          refine x_goto 172 dX5_takesNew_167 (by decide) ?_
          refine hret _ _ _ _ _ _ dX5_takesNew_172 rfl ?_
          obtain rfl : g = n + 1 := by omega
          rw [show min (n + 1) n = n by omega] at h5
          refine ⟨rfl, rfl, rfl, ?_⟩
          rw [if_neg (show ¬ n + 1 ≤ p by omega)] at h4
          by_cases y : tibB A (tok Q 0 (l0M I 0)) p n = true
          · rw [if_pos y] at h5 ⊢
            first
            | exact h4
            | (exfalso; omega)
          · rw [if_neg y] at h5
            first
            | (exfalso; omega)
            | (rw [if_neg y]; done)
      · refine x_iload dX5_takesNew_24 rfl ?_
        refine x_iload_n dX5_takesNew_26 rfl ?_
        refine x_icmp_ne 66 dX5_takesNew_27 (by decide) (by unfold inr; omega) (by unfold inr; omega) (fun h_27 => ?_) (fun h_27 => ?_)
        · first
          | (refine x_dr8 (l66 (by omega) _ _ (p + 1) (by rw [if_neg (by omega)]; omega) ?_ ?_)
             · rw [e2]; omega
             · rw [if_neg (by omega), e1]; omega)
          | (refine x_dr8 (l66 (by omega) _ _ _ rfl ?_ ?_)
             · rw [h3 (by omega)]
               congr 1
               by_cases y : g < p
               · rw [if_pos y, if_pos (by omega)]
               · rw [if_neg y, if_neg (by omega)]
             · rw [h4]
               by_cases y : g < p
               · rw [if_pos y, if_pos (by omega)]
               · rw [if_neg y, if_neg (by omega)])
        · refine x_iload dX5_takesNew_30 rfl ?_
          refine x_iload_n dX5_takesNew_32 rfl ?_
          have hl2 := h3 (by omega)
          rw [show g = p by omega, if_pos (Nat.le_refl _)] at hl2
          have hb2 := hlb p (by omega)
          rw [← hl2] at hb2
          obtain ⟨e1, e2⟩ := ins_p (F := fm I) (n := n) (p := p) (h := h) (w := w) (l0 := l0M I 0) (l := l) (by rw [← hQ]; exact hl2) hb2.1
          rw [← hQ] at e1 e2
          refine x_isub dX5_takesNew_33 ?_
          refine x_ist8 dX5_takesNew_34 ?_
          refine x_iload dX5_takesNew_36 rfl ?_
          refine x_if_gt 45 dX5_takesNew_38 (by decide) (by have := hb2; unfold inr; omega) (fun h_38 => ?_) (fun h_38 => ?_)
          · refine x_iload dX5_takesNew_45 rfl ?_
            refine x_iload_n dX5_takesNew_47 rfl ?_
            refine x_icmp_ge 56 dX5_takesNew_48 (by decide) (by have := hb2; unfold inr; omega) (by have := hb2; unfold inr; omega) (fun h_48 => ?_) (fun h_48 => ?_)
            · refine x_iload_n dX5_takesNew_56 rfl ?_
              refine x_ist5 dX5_takesNew_57 ?_
              refine x_iload dX5_takesNew_59 rfl ?_
              refine x_iload dX5_takesNew_61 rfl ?_
              refine x_isub dX5_takesNew_63 ?_
              refine x_ist4 dX5_takesNew_64 ?_
              first
              | (refine x_dr8 (l66 (by omega) _ _ (p + 1) (by rw [if_neg (by omega)]; omega) ?_ ?_)
                 · rw [e2]; omega
                 · rw [if_neg (by omega), e1]; omega)
              | (refine x_dr8 (l66 (by omega) _ _ _ rfl ?_ ?_)
                 · rw [h3 (by omega)]
                   congr 1
                   by_cases y : g < p
                   · rw [if_pos y, if_pos (by omega)]
                   · rw [if_neg y, if_neg (by omega)]
                 · rw [h4]
                   by_cases y : g < p
                   · rw [if_pos y, if_pos (by omega)]
                   · rw [if_neg y, if_neg (by omega)])
            · refine x_iload dX5_takesNew_51 rfl ?_
              refine x_goto 57 dX5_takesNew_53 (by decide) ?_
              refine x_ist5 dX5_takesNew_57 ?_
              refine x_iload dX5_takesNew_59 rfl ?_
              refine x_iload dX5_takesNew_61 rfl ?_
              refine x_isub dX5_takesNew_63 ?_
              refine x_ist4 dX5_takesNew_64 ?_
              first
              | (refine x_dr8 (l66 (by omega) _ _ (p + 1) (by rw [if_neg (by omega)]; omega) ?_ ?_)
                 · rw [e2]; omega
                 · rw [if_neg (by omega), e1]; omega)
              | (refine x_dr8 (l66 (by omega) _ _ _ rfl ?_ ?_)
                 · rw [h3 (by omega)]
                   congr 1
                   by_cases y : g < p
                   · rw [if_pos y, if_pos (by omega)]
                   · rw [if_neg y, if_neg (by omega)]
                 · rw [h4]
                   by_cases y : g < p
                   · rw [if_pos y, if_pos (by omega)]
                   · rw [if_neg y, if_neg (by omega)])
          · refine x_iconst dX5_takesNew_41 ?_
            refine x_goto 57 dX5_takesNew_42 (by decide) ?_
            refine x_ist5 dX5_takesNew_57 ?_
            refine x_iload dX5_takesNew_59 rfl ?_
            refine x_iload dX5_takesNew_61 rfl ?_
            refine x_isub dX5_takesNew_63 ?_
            refine x_ist4 dX5_takesNew_64 ?_
            first
            | (refine x_dr8 (l66 (by omega) _ _ (p + 1) (by rw [if_neg (by omega)]; omega) ?_ ?_)
               · rw [e2]; omega
               · rw [if_neg (by omega), e1]; omega)
            | (refine x_dr8 (l66 (by omega) _ _ _ rfl ?_ ?_)
               · rw [h3 (by omega)]
                 congr 1
                 by_cases y : g < p
                 · rw [if_pos y, if_pos (by omega)]
                 · rw [if_neg y, if_neg (by omega)]
               · rw [h4]
                 by_cases y : g < p
                 · rw [if_pos y, if_pos (by omega)]
                 · rw [if_neg y, if_neg (by omega)])
  refine x_aload_n dX5_takesNew_0 rfl ?_
  refine x_getI dX5_takesNew_1 gf_RX5_66 rfl rfl ?_
  refine x_ist4 dX5_takesNew_4 ?_
  refine x_iconst dX5_takesNew_6 ?_
  refine x_ist5 dX5_takesNew_7 ?_
  refine x_iconst dX5_takesNew_9 ?_
  refine x_ist6 dX5_takesNew_10 ?_
  refine x_iconst dX5_takesNew_12 ?_
  refine x_ist7 dX5_takesNew_13 ?_
  refine lp (n + 2) 0 _ _ _ _ (by omega) (by omega) rfl (fun _ => ?_) (by rw [if_pos (by omega)]) ?_
  · rw [if_pos (by omega)]; exact hl0.symm
  · rw [show min 0 n = 0 by omega]; rfl
theorem sp_mbored (hN : NS N) (hB : RM I n) {h w k : Int} (hh : inr h) (hw : inr w) (hk : inr k) : SpI G mX5_bored .int 4 90 0 0 [.ref 50, vi h, vi w, vi k] K N I (pI K N (fun z J => z = (if (0 ≤ h ∧ h ≤ 50) ∧ (0 ≤ w ∧ w ≤ 9) ∧ (0 ≤ k ∧ k ≤ 1) then (if n < 9 then boR (brA (boV (fm I) (l0M I 0) n h w) (n + 1)) k else -3) else -2) ∧ kpM I J)) := by
  refine SpI.of (own := RX5) (cc := cX5_bored) (L := [some (.ref 50), some (vi h), some (vi w), some (vi k), none, none, none, none]) (by decide) rfl rfl (Nat.le_of_ble_eq_true rfl) rfl (fun Fx hnm hret => ?_)
  have hn9 := hB.2.2.1
  have lp : ∀ (m : Nat) (p : Nat) (z b c : Int) (J : MM), p ≤ n + 1 → n + 1 < p + m → z = (p : Int) → n ≤ 8 → (0 ≤ h ∧ h ≤ 50) → (0 ≤ w ∧ w ≤ 9) → (0 ≤ k ∧ k ≤ 1) → (b, c) = brA (boV (fm I) (l0M I 0) n h w) p → (0 ≤ c ∧ c ≤ 9) → (b = -6 ∨ (0 ≤ b ∧ b ≤ 9)) → kpM I J → (∀ g, g < n → J 61 g = tok (fm I) 0 (l0M I 0) g) → XX G RX5 cX5_bored (RmW 4 90 0 0) Fx 63 [some (.ref 50), some (vi h), some (vi w), some (vi k), some (vi b), some (vi c), some (vi z), none] [] K N J 0 0 := by
    intro m
    induction m with
    | zero => intros; exfalso; omega
    | succ m ih =>
      intro p z b c J h0 h1 h2 h8 hh1 hw1 hk1 h3 h4 h5 h6 h7
      have hBJ := h6.RM hB
      have hJ0 := hBJ.1
      refine x_iload dX5_bored_63 rfl ?_
      refine x_aload_n dX5_bored_65 rfl ?_
      refine x_getI dX5_bored_66 gf_RX5_73 rfl rfl ?_
      rw [hJ0]
      refine x_icmp_gt 120 dX5_bored_69 (by decide) (by unfold inr; omega) (by unfold inr; omega) (fun h_69 => ?_) (fun h_69 => ?_)
      · refine x_iload dX5_bored_120 rfl ?_
        refine x_if_lt 129 dX5_bored_122 (by decide) (by unfold inr; omega) (fun h_122 => ?_) (fun h_122 => ?_)
        · refine x_iload dX5_bored_129 rfl ?_
          refine x_goto 136 dX5_bored_131 (by decide) ?_
          refine hret _ _ _ _ _ _ dX5_bored_136 rfl ?_
          obtain rfl : p = n + 1 := by omega
          refine ⟨rfl, rfl, ?_, h6⟩
          rw [if_pos ⟨hh1, hw1, hk1⟩, if_pos (by omega), ← h3]
          show _ = (if b = -6 then -6 else if k = 0 then b else c)
          first
          | (rw [if_pos (show b = -6 by omega)]; omega)
          | (rw [if_neg (show ¬ b = -6 by omega), if_pos (by omega)]; done)
          | (rw [if_neg (show ¬ b = -6 by omega), if_neg (by omega)]; done)
        · refine x_iload_n dX5_bored_125 rfl ?_
          refine x_if_ne 134 dX5_bored_126 (by decide) (by unfold inr; omega) (fun h_126 => ?_) (fun h_126 => ?_)
          · refine x_iload dX5_bored_134 rfl ?_
            refine hret _ _ _ _ _ _ dX5_bored_136 rfl ?_
            obtain rfl : p = n + 1 := by omega
            refine ⟨rfl, rfl, ?_, h6⟩
            rw [if_pos ⟨hh1, hw1, hk1⟩, if_pos (by omega), ← h3]
            show _ = (if b = -6 then -6 else if k = 0 then b else c)
            first
            | (rw [if_pos (show b = -6 by omega)]; omega)
            | (rw [if_neg (show ¬ b = -6 by omega), if_pos (by omega)]; done)
            | (rw [if_neg (show ¬ b = -6 by omega), if_neg (by omega)]; done)
          · refine x_iload dX5_bored_129 rfl ?_
            refine x_goto 136 dX5_bored_131 (by decide) ?_
            refine hret _ _ _ _ _ _ dX5_bored_136 rfl ?_
            obtain rfl : p = n + 1 := by omega
            refine ⟨rfl, rfl, ?_, h6⟩
            rw [if_pos ⟨hh1, hw1, hk1⟩, if_pos (by omega), ← h3]
            show _ = (if b = -6 then -6 else if k = 0 then b else c)
            first
            | (rw [if_pos (show b = -6 by omega)]; omega)
            | (rw [if_neg (show ¬ b = -6 by omega), if_pos (by omega)]; done)
            | (rw [if_neg (show ¬ b = -6 by omega), if_neg (by omega)]; done)
      · refine x_aload_n dX5_bored_72 rfl ?_
        refine x_iload dX5_bored_73 rfl ?_
        refine x_iload_n dX5_bored_75 rfl ?_
        refine x_iload_n dX5_bored_76 rfl ?_
        refine xf_VI3 dX5_bored_77 ml_RX5_190 vw_X5_takesNew vv_X5_takesNew rfl (sp_takesNew hN hBJ (A := tok (fm I) 0 (l0M I 0)) (fun g hg => ⟨h7 g hg, hB.tokb hg⟩) p h2 (by omega) hh1 hw1) ⟨Nat.le_of_ble_eq_true rfl, Nat.le_of_ble_eq_true rfl, Nat.le_of_ble_eq_true rfl, Nat.le_of_ble_eq_true rfl, Nat.le_of_ble_eq_true rfl⟩ ?_
        rw [h6.fm, h6.l0]
        have hvb := (okD_ins hB.2.2.2.1 (show p ≤ n by omega) hh1 hw1).tokb (kn := 0) (l := l0M I 0) (show p < n + 1 by omega)
        have hV : boV (fm I) (l0M I 0) n h w p = (if tibB (tok (fm I) 0 (l0M I 0)) (tok (insF (fm I) n p h w) 0 (l0M I 0)) p n = true then tok (insF (fm I) n p h w) 0 (l0M I 0) p else 0) := rfl
        obtain ⟨v, hv⟩ : ∃ v, v = (if tibB (tok (fm I) 0 (l0M I 0)) (tok (insF (fm I) n p h w) 0 (l0M I 0)) p n = true then tok (insF (fm I) n p h w) 0 (l0M I 0) p else -6) := ⟨_, rfl⟩
        rw [← hv]
        have hvv : (v = -6 ∧ boV (fm I) (l0M I 0) n h w p = 0) ∨ (0 ≤ v ∧ v ≤ 9 ∧ boV (fm I) (l0M I 0) n h w p = v) := by
          rw [hv, hV]
          split
          · exact Or.inr ⟨hvb.1, hvb.2, rfl⟩
          · exact Or.inl ⟨rfl, rfl⟩
        have e : brA (boV (fm I) (l0M I 0) n h w) (p + 1) = (if c < v then ((p : Int), v) else (b, c)) := by
          show (if (brA (boV (fm I) (l0M I 0) n h w) p).2 < boV (fm I) (l0M I 0) n h w p then ((p : Int), boV (fm I) (l0M I 0) n h w p) else brA (boV (fm I) (l0M I 0) n h w) p) = _
          rw [← h3]
          show (if c < boV (fm I) (l0M I 0) n h w p then ((p : Int), boV (fm I) (l0M I 0) n h w p) else (b, c)) = _
          rcases hvv with ⟨y1, y2⟩ | ⟨y1, y2, y3⟩
          · rw [y2, if_neg (by omega), if_neg (by omega)]
          · rw [y3]
        refine x_ist7 dX5_bored_80 ?_
        refine x_iload dX5_bored_82 rfl ?_
        refine x_iload dX5_bored_84 rfl ?_
        refine x_icmp_le 94 dX5_bored_86 (by decide) (by unfold inr; omega) (by unfold inr; omega) (fun h_86 => ?_) (fun h_86 => ?_)
        · refine x_iload dX5_bored_94 rfl ?_
          refine x_ist4 dX5_bored_96 ?_
          refine x_iload dX5_bored_98 rfl ?_
          refine x_iload dX5_bored_100 rfl ?_
          refine x_icmp_le 110 dX5_bored_102 (by decide) (by unfold inr; omega) (by unfold inr; omega) (fun h_102 => ?_) (fun h_102 => ?_)
          · refine x_iload dX5_bored_110 rfl ?_
            refine x_ist5 dX5_bored_112 ?_
            refine x_inc6 dX5_bored_114 ?_
            refine x_goto 63 dX5_bored_117 (by decide) ?_
            first
            | (exfalso; omega)
            | (refine x_dr7 (ih (p + 1) _ _ _ _ (by omega) (by omega) (by omega) h8 hh1 hw1 hk1 ?_ (by omega) (by omega) h6 h7)
               rw [e]
               first
               | (rw [if_pos (by omega), h2]; done)
               | (rw [if_neg (by omega)]; done))
          · refine x_iload dX5_bored_105 rfl ?_
            refine x_goto 112 dX5_bored_107 (by decide) ?_
            refine x_ist5 dX5_bored_112 ?_
            refine x_inc6 dX5_bored_114 ?_
            refine x_goto 63 dX5_bored_117 (by decide) ?_
            first
            | (exfalso; omega)
            | (refine x_dr7 (ih (p + 1) _ _ _ _ (by omega) (by omega) (by omega) h8 hh1 hw1 hk1 ?_ (by omega) (by omega) h6 h7)
               rw [e]
               first
               | (rw [if_pos (by omega), h2]; done)
               | (rw [if_neg (by omega)]; done))
        · refine x_iload dX5_bored_89 rfl ?_
          refine x_goto 96 dX5_bored_91 (by decide) ?_
          refine x_ist4 dX5_bored_96 ?_
          refine x_iload dX5_bored_98 rfl ?_
          refine x_iload dX5_bored_100 rfl ?_
          refine x_icmp_le 110 dX5_bored_102 (by decide) (by unfold inr; omega) (by unfold inr; omega) (fun h_102 => ?_) (fun h_102 => ?_)
          · refine x_iload dX5_bored_110 rfl ?_
            refine x_ist5 dX5_bored_112 ?_
            refine x_inc6 dX5_bored_114 ?_
            refine x_goto 63 dX5_bored_117 (by decide) ?_
            first
            | (exfalso; omega)
            | (refine x_dr7 (ih (p + 1) _ _ _ _ (by omega) (by omega) (by omega) h8 hh1 hw1 hk1 ?_ (by omega) (by omega) h6 h7)
               rw [e]
               first
               | (rw [if_pos (by omega), h2]; done)
               | (rw [if_neg (by omega)]; done))
          · refine x_iload dX5_bored_105 rfl ?_
            refine x_goto 112 dX5_bored_107 (by decide) ?_
            refine x_ist5 dX5_bored_112 ?_
            refine x_inc6 dX5_bored_114 ?_
            refine x_goto 63 dX5_bored_117 (by decide) ?_
            first
            | (exfalso; omega)
            | (refine x_dr7 (ih (p + 1) _ _ _ _ (by omega) (by omega) (by omega) h8 hh1 hw1 hk1 ?_ (by omega) (by omega) h6 h7)
               rw [e]
               first
               | (rw [if_pos (by omega), h2]; done)
               | (rw [if_neg (by omega)]; done))
  refine x_iload_n dX5_bored_0 rfl ?_
  refine x_i2l dX5_bored_1 hh ?_
  refine x_lconst0 dX5_bored_2 ?_
  refine x_ldc2 dX5_bored_3 ct_RX5_106 ?_
  refine xf_SI3 dX5_bored_6 ml_RX5_86 vw_X5_in st_X5_in (sp_in (by unfold inl; unfold inr at hh; omega) (by unfold inl; omega) (by unfold inl; omega)) ⟨Nat.le_of_ble_eq_true rfl, Nat.le_of_ble_eq_true rfl, Nat.le_of_ble_eq_true rfl, Nat.le_of_ble_eq_true rfl, Nat.le_of_ble_eq_true rfl⟩ ?_
  refine x_if_eq 34 dX5_bored_9 (by decide) (by unfold inr; split <;> omega) (fun h_9 => ?_) (fun h_9 => ?_)
  · replace h_9 := b0 h_9
    refine x_bipush dX5_bored_34 (by decide) ?_
    refine hret _ _ _ _ _ _ dX5_bored_36 rfl ?_
    refine ⟨rfl, rfl, ?_, kpM.rf⟩
    (repeat (first | rw [if_pos (by omega)] | rw [if_neg (by omega)]))
  · replace h_9 := b1 h_9
    refine x_iload_n dX5_bored_12 rfl ?_
    refine x_i2l dX5_bored_13 hw ?_
    refine x_lconst0 dX5_bored_14 ?_
    refine x_ldc2 dX5_bored_15 ct_RX5_90 ?_
    refine xf_SI3 dX5_bored_18 ml_RX5_86 vw_X5_in st_X5_in (sp_in (by unfold inl; unfold inr at hw; omega) (by unfold inl; omega) (by unfold inl; omega)) ⟨Nat.le_of_ble_eq_true rfl, Nat.le_of_ble_eq_true rfl, Nat.le_of_ble_eq_true rfl, Nat.le_of_ble_eq_true rfl, Nat.le_of_ble_eq_true rfl⟩ ?_
    refine x_if_eq 34 dX5_bored_21 (by decide) (by unfold inr; split <;> omega) (fun h_21 => ?_) (fun h_21 => ?_)
    · replace h_21 := b0 h_21
      refine x_bipush dX5_bored_34 (by decide) ?_
      refine hret _ _ _ _ _ _ dX5_bored_36 rfl ?_
      refine ⟨rfl, rfl, ?_, kpM.rf⟩
      (repeat (first | rw [if_pos (by omega)] | rw [if_neg (by omega)]))
    · replace h_21 := b1 h_21
      refine x_iload_n dX5_bored_24 rfl ?_
      refine x_i2l dX5_bored_25 hk ?_
      refine x_lconst0 dX5_bored_26 ?_
      refine x_lconst1 dX5_bored_27 ?_
      refine xf_SI3 dX5_bored_28 ml_RX5_86 vw_X5_in st_X5_in (sp_in (by unfold inl; unfold inr at hk; omega) (by unfold inl; omega) (by unfold inl; omega)) ⟨Nat.le_of_ble_eq_true rfl, Nat.le_of_ble_eq_true rfl, Nat.le_of_ble_eq_true rfl, Nat.le_of_ble_eq_true rfl, Nat.le_of_ble_eq_true rfl⟩ ?_
      refine x_if_ne 37 dX5_bored_31 (by decide) (by unfold inr; split <;> omega) (fun h_31 => ?_) (fun h_31 => ?_)
      · replace h_31 := b1 h_31
        refine x_aload_n dX5_bored_37 rfl ?_
        refine x_getI dX5_bored_38 gf_RX5_73 rfl rfl ?_
        rw [hB.1]
        refine x_bipush dX5_bored_41 (by decide) ?_
        refine x_icmp_ne 49 dX5_bored_43 (by decide) (by unfold inr; omega) (by unfold inr; omega) (fun h_43 => ?_) (fun h_43 => ?_)
        · refine x_aload_n dX5_bored_49 rfl ?_
          refine xp_VV0 dX5_bored_50 ml_RX5_173 vw_X5_layNow vv_X5_layNow rfl (sp_mlayNow hN hB) ⟨Nat.le_of_ble_eq_true rfl, Nat.le_of_ble_eq_true rfl, Nat.le_of_ble_eq_true rfl, Nat.le_of_ble_eq_true rfl, Nat.le_of_ble_eq_true rfl⟩ (fun I1 hq => ?_)
          obtain ⟨hk1, hnw⟩ := hq
          refine x_bipush dX5_bored_53 (by decide) ?_
          refine x_ist4 dX5_bored_55 ?_
          refine x_iconst dX5_bored_57 ?_
          refine x_ist5 dX5_bored_58 ?_
          refine x_iconst dX5_bored_60 ?_
          refine x_ist6 dX5_bored_61 ?_
          exact lp (n + 2) 0 _ _ _ _ (by omega) (by omega) rfl (by omega) (by omega) (by omega) (by omega) rfl (by omega) (by omega) hk1 hnw
        · refine x_bipush dX5_bored_46 (by decide) ?_
          refine hret _ _ _ _ _ _ dX5_bored_48 rfl ?_
          refine ⟨rfl, rfl, ?_, kpM.rf⟩
          (repeat (first | rw [if_pos (by omega)] | rw [if_neg (by omega)]))
      · replace h_31 := b0 h_31
        refine x_bipush dX5_bored_34 (by decide) ?_
        refine hret _ _ _ _ _ _ dX5_bored_36 rfl ?_
        refine ⟨rfl, rfl, ?_, kpM.rf⟩
        (repeat (first | rw [if_pos (by omega)] | rw [if_neg (by omega)]))
end FR

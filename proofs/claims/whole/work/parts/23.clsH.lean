/-! ===== SpringFarms: where a new house must bore ===== -/
def insF (F : Nat → Nat → Int) (n p : Nat) (h w : Int) : Nat → Nat → Int := fun f k => if f < p then F f k else if f = p then (if k = 0 then h else if k = 1 then w else if k < 7 then fst7 k else 0) else if f ≤ n then F (f - 1) k else F f k
def cwA (I : MM) (n p : Nat) : MM := fun a b => if a = 7 ∧ 7 * p ≤ b ∧ b < 7 * p + 7 then (stl 1).getD (0 + (b - 7 * p)) 0 else cpI (cpR I 1 6) 2 (7 * p) 7 (7 * p + 7) (7 * (n - p)) a b
def cwJ (I : MM) (n p : Nat) (h w : Int) : MM := up (up (up (cwA I n p) 7 (7 * p + 0) h) 7 (7 * p + 1) w) 6 0 ((n : Int) + 1)
theorem cwA_o {I : MM} {n p a k : Nat} (h : a ≠ 7) : cwA I n p a k = cpR I 1 6 a k := by
  unfold cwA; rw [if_neg (by omega)]; unfold cpI; rw [if_neg (by omega)]
theorem cw_o {I : MM} {n p a k : Nat} {h w : Int} (ha : a < 6 ∨ 10 < a) : cwJ I n p h w a k = I a k := by
  unfold cwJ; rw [up_n1 (by omega), up_n1 (by omega), up_n1 (by omega), cwA_o (by omega), cp_o (by omega)]
theorem cw_0 {I : MM} {n p : Nat} {h w : Int} : cwJ I n p h w 6 0 = (n : Int) + 1 := up_s
theorem cw_r {I : MM} {n p j : Nat} {h w : Int} (hj : j < 3) : cwJ I n p h w 8 j = I 3 j := by
  unfold cwJ; rw [up_n1 (by omega), up_n1 (by omega), up_n1 (by omega), cwA_o (by omega)]; exact cp_2 (s := 1) (d := 6) hj
theorem cp_1 {I : MM} {k : Nat} (h : k < 63) : cpR I 1 6 7 k = I 2 k := by unfold cpR; rw [if_neg (by omega), if_pos ⟨rfl, h⟩]
theorem stl1 : ∀ j, j < 7 → (stl 1).getD j 0 = fst7 j := by decide
theorem cw_f {I : MM} {n p : Nat} {h w : Int} (hp : p ≤ n) (hn : n ≤ 8) : fa (cwJ I n p h w) 6 = insF (fa I 1) n p h w := by
  funext f k
  unfold insF
  by_cases hc : f < 9 ∧ k < 7
  · rw [fa_at hc]
    show up (up (up (cwA I n p) 7 (7 * p + 0) h) 7 (7 * p + 1) w) 6 0 _ 7 (7 * f + k) = _
    rw [up_n1 (by omega)]
    by_cases h1 : f < p
    · rw [if_pos h1, up_n2 (by omega), up_n2 (by omega)]
      unfold cwA cpI
      rw [if_neg (by omega), if_neg (by omega), cp_1 (by omega), fa_at hc]
    · rw [if_neg h1]
      by_cases h2 : f = p
      · subst h2
        rw [if_pos rfl]
        rcases (by omega : k = 0 ∨ k = 1 ∨ 2 ≤ k) with rfl | rfl | h3
        · rw [up_n2 (by omega), up_s, if_pos rfl]
        · rw [up_s, if_neg (by decide), if_pos rfl]
        · rw [up_n2 (by omega), up_n2 (by omega), if_neg (by omega), if_neg (by omega), if_pos hc.2]
          unfold cwA
          rw [if_pos (by omega), show 0 + (7 * f + k - 7 * f) = k by omega]
          exact stl1 k hc.2
      · rw [if_neg h2, up_n2 (by omega), up_n2 (by omega)]
        unfold cwA cpI
        rw [if_neg (by omega)]
        by_cases h3 : f ≤ n
        · rw [if_pos h3, if_pos (by omega), cp_o (by omega), fa_at (by omega), show 7 * p + (7 * f + k - (7 * p + 7)) = 7 * (f - 1) + k by omega]
        · rw [if_neg h3, if_neg (by omega), cp_1 (by omega), fa_at hc]
  · have e : ∀ {X : MM} {b : Nat}, fa X b f k = 0 := by intro X b; unfold fa; rw [if_neg hc]
    rw [e]
    have hF : f ≤ n → fa I 1 (f - 1) k = 0 ∨ False := fun hf => by
      left; unfold fa; rw [if_neg (by omega)]
    split
    · rw [e]
    · split
      · rw [if_neg (by omega), if_neg (by omega), if_neg (by omega)]
      · split
        · rename_i q; rcases hF q with z | z
          · exact z.symm
          · exact z.elim
        · rw [e]
theorem RB.cw {I : MM} {n p : Nat} {h w : Int} (hB : RB I 1 n) (hp : p ≤ n) (hn : n ≤ 8) (hh : 0 ≤ h ∧ h ≤ 50) (hw : 0 ≤ w ∧ w ≤ 9) : RB (cwJ I n p h w) 6 (n + 1) := by
  obtain ⟨a1, a2, a3, a4, a5, a6, a7⟩ := hB
  refine ⟨by rw [cw_0]; omega, by omega, by omega, fun f hf => ?_, by rw [cw_r (by omega)]; exact a5, by rw [cw_r (by omega)]; exact a6, by rw [cw_r (by omega)]; exact a7⟩
  rw [cw_f hp hn]
  unfold insF
  by_cases h1 : f < p
  · simp only [h1, if_true]; exact a4 f (by omega)
  · by_cases h2 : f = p
    · subst h2
      simp [fst7]; omega
    · have h3 : f ≤ n := by omega
      simp only [h1, h2, h3, if_true, if_false]; exact a4 (f - 1) (by omega)
theorem l0_cw {I : MM} {n p : Nat} {h w kn : Int} : l0R (cwJ I n p h w) 6 kn = l0R I 1 kn := by
  unfold l0R; rw [cw_r (by omega), cw_r (by omega), cw_r (by omega)]
theorem kpC.cw {I J : MM} {n p : Nat} {h w : Int} (hk : kpC I J) : kpC I (cwJ J n p h w) := fun a k q => by
  rw [cw_o (by unfold pcl at q; omega)]; exact hk a k q
def tibB (A T : Nat → Int) (p : Nat) : Nat → Bool
  | 0 => true
  | f + 1 => tibB A T p f && decide (A f ≤ T (if f < p then f else f + 1))
theorem tibB_no {A T : Nat → Int} {p f : Nat} (h : tibB A T p f = false) : ∀ d, tibB A T p (f + d) = false
  | 0 => h
  | d + 1 => by
    have := tibB_no h d
    show (tibB A T p (f + d) && _) = _
    rw [this]; rfl
def tbV (A T : Nat → Int) (p n : Nat) : Int := if tibB A T p n = true then T p else 0
def brA (V : Nat → Int) : Nat → Int × Int
  | 0 => (-6, 0)
  | p + 1 => if (brA V p).2 < V p then ((p : Int), V p) else brA V p
def boV (F : Nat → Nat → Int) (l0 : Int) (n : Nat) (h w : Int) (p : Nat) : Int := tbV (tok F 0 l0) (tok (insF F n p h w) 0 l0) p n
def boR (r : Int × Int) (k : Int) : Int := if r.1 = -6 then -6 else if k = 0 then r.1 else r.2
section FR
variable {G : GT} {K : List Nat} {N : NN} {I : MM} {n : Nat}
theorem sp_copyWithNew (hN : NS N) (hn : I 1 0 = (n : Int)) (h8 : n ≤ 8) (p : Nat) {zp h w : Int} (hz : zp = (p : Int)) (hp : p ≤ n) : SpV G mX3_copyWithNew 2 47 0 0 [.ref 6, .ref 1, vi zp, vi h, vi w] K N I (qV K N (cwJ I n p h w)) := by
  refine SpV.of (own := RX3) (cc := cX3_copyWithNew) (L := [some (.ref 6), some (.ref 1), some (vi zp), some (vi h), some (vi w), none]) (by decide) rfl rfl (Nat.le_of_ble_eq_true rfl) rfl (fun Fx hnm hret => ?_)
  refine x_aload_n dX3_copyWithNew_0 rfl ?_
  refine x_aload_n dX3_copyWithNew_1 rfl ?_
  refine xf_VV1 dX3_copyWithNew_2 ml_RX3_63 vw_X3_copy vv_X3_copy rfl (sp_copy (s := 1) (d := 6) rfl rfl (by decide) hN) ⟨Nat.le_of_ble_eq_true rfl, Nat.le_of_ble_eq_true rfl, Nat.le_of_ble_eq_true rfl, Nat.le_of_ble_eq_true rfl, Nat.le_of_ble_eq_true rfl⟩ ?_
  refine x_iload_n dX3_copyWithNew_5 rfl ?_
  refine x_bipush dX3_copyWithNew_6 (by decide) ?_
  refine x_imul dX3_copyWithNew_8 ?_
  refine x_ist5 dX3_copyWithNew_9 ?_
  refine x_aload_n dX3_copyWithNew_11 rfl ?_
  refine x_getR (j := 2) dX3_copyWithNew_12 gf_RX3_9 rfl rfl (hN _ _ (by decide)) ?_
  refine x_iload dX3_copyWithNew_15 rfl ?_
  refine x_aload_n dX3_copyWithNew_17 rfl ?_
  refine x_getR (j := 7) dX3_copyWithNew_18 gf_RX3_9 rfl rfl (hN _ _ (by decide)) ?_
  refine x_iload dX3_copyWithNew_21 rfl ?_
  refine x_bipush dX3_copyWithNew_23 (by decide) ?_
  refine x_iadd dX3_copyWithNew_25 ?_
  refine x_aload_n dX3_copyWithNew_26 rfl ?_
  refine x_getI dX3_copyWithNew_27 gf_RX3_37 rfl rfl ?_
  rw [cp_o (by omega), hn]
  refine x_iload_n dX3_copyWithNew_30 rfl ?_
  refine x_isub dX3_copyWithNew_31 ?_
  refine x_bipush dX3_copyWithNew_32 (by decide) ?_
  refine x_imul dX3_copyWithNew_34 ?_
  refine x_acpy (7 * p) (7 * p + 7) (7 * (n - p)) dX3_copyWithNew_35 ml_RX3_27 na_acpy st_acpy ini_java_lang_System rfl rfl (by omega) (by omega) (by omega) (show _ ≤ 63 by omega) (show _ ≤ 63 by omega) ⟨Nat.le_of_ble_eq_true rfl, Nat.le_of_ble_eq_true rfl⟩ ?_
  refine x_getsN (k := 1) dX3_copyWithNew_38 (by decide +kernel) (by decide) rfl ?_
  refine x_iconst dX3_copyWithNew_41 ?_
  refine x_aload_n dX3_copyWithNew_42 rfl ?_
  refine x_getR (j := 7) dX3_copyWithNew_43 gf_RX3_9 rfl rfl (hN _ _ (by decide)) ?_
  refine x_iload dX3_copyWithNew_46 rfl ?_
  refine x_bipush dX3_copyWithNew_48 (by decide) ?_
  refine x_acpyS (k := 1) (0) (7 * p) (7) dX3_copyWithNew_50 ml_RX3_27 na_acpy st_acpy ini_java_lang_System (by decide) rfl rfl (by omega) (by omega) (by omega) (by decide) (show _ ≤ 63 by omega) ⟨Nat.le_of_ble_eq_true rfl, Nat.le_of_ble_eq_true rfl⟩ ?_
  refine x_aload_n dX3_copyWithNew_53 rfl ?_
  refine x_iload_n dX3_copyWithNew_54 rfl ?_
  refine x_iconst dX3_copyWithNew_55 ?_
  refine x_iload_n dX3_copyWithNew_56 rfl ?_
  refine xf_VV3 dX3_copyWithNew_57 ml_RX3_54 vw_X3_put vv_X3_put rfl (sp_put (b := 6) rfl hN p 0 hz rfl (by omega)) ⟨Nat.le_of_ble_eq_true rfl, Nat.le_of_ble_eq_true rfl, Nat.le_of_ble_eq_true rfl, Nat.le_of_ble_eq_true rfl, Nat.le_of_ble_eq_true rfl⟩ ?_
  refine x_aload_n dX3_copyWithNew_60 rfl ?_
  refine x_iload_n dX3_copyWithNew_61 rfl ?_
  refine x_iconst dX3_copyWithNew_62 ?_
  refine x_iload dX3_copyWithNew_63 rfl ?_
  refine xf_VV3 dX3_copyWithNew_65 ml_RX3_54 vw_X3_put vv_X3_put rfl (sp_put (b := 6) rfl hN p 1 hz rfl (by omega)) ⟨Nat.le_of_ble_eq_true rfl, Nat.le_of_ble_eq_true rfl, Nat.le_of_ble_eq_true rfl, Nat.le_of_ble_eq_true rfl, Nat.le_of_ble_eq_true rfl⟩ ?_
  rw [show (fun a b => if a = 7 ∧ 7 * p ≤ b ∧ b < 7 * p + 7 then (stl 1).getD (0 + (b - 7 * p)) 0 else cpI (cpR I 1 6) 2 (7 * p) 7 (7 * p + 7) (7 * (n - p)) a b : MM) = cwA I n p from rfl]
  refine x_aload_n dX3_copyWithNew_68 rfl ?_
  refine x_aload_n dX3_copyWithNew_69 rfl ?_
  refine x_getI dX3_copyWithNew_70 gf_RX3_37 rfl rfl ?_
  rw [up_n1 (by omega), up_n1 (by omega), cwA_o (by omega), cp_o (by omega), hn]
  refine x_iconst dX3_copyWithNew_73 ?_
  refine x_iadd dX3_copyWithNew_74 ?_
  refine x_putI dX3_copyWithNew_75 pf_RX3_37 rfl rfl ?_
  refine hret _ _ _ _ _ dX3_copyWithNew_78 ?_
  exact ⟨rfl, rfl, rfl⟩
theorem sp_takenIfBoredAt (hN : NS N) (hB : RB I 1 n) (h8 : n ≤ 8) {A : Nat → Int} (hA : ∀ g, g < n → I 13 g = A g ∧ 0 ≤ A g ∧ A g ≤ 9) (p : Nat) {zp h w : Int} (hz : zp = (p : Int)) (hp : p ≤ n) (hh : 0 ≤ h ∧ h ≤ 50) (hw : 0 ≤ w ∧ w ≤ 9) : SpI G mX4_takenIfBoredAt .int 3 72 0 0 [.ref 0, vi zp, vi h, vi w] K N I (pI K N (fun z J => (z = tbV A (tok (insF (fa I 1) n p h w) 0 (l0R I 1 0)) p n ∧ 0 ≤ z ∧ z ≤ 9) ∧ kpC I J ∧ ∀ g, J 13 g = I 13 g)) := by
  refine SpI.of (own := RX4) (cc := cX4_takenIfBoredAt) (L := [some (.ref 0), some (vi zp), some (vi h), some (vi w), none, none]) (by decide) rfl rfl (Nat.le_of_ble_eq_true rfl) rfl (fun Fx hnm hret => ?_)
  have hC := hB.cw hp h8 hh hw
  obtain ⟨T, hT0⟩ : ∃ T, T = tok (insF (fa I 1) n p h w) 0 (l0R I 1 0) := ⟨_, rfl⟩
  obtain ⟨J, hJ⟩ : ∃ J, J = fwJ (cwJ I n p h w) 6 15 0 (n + 1) := ⟨_, rfl⟩
  have hk : kpC I J := by rw [hJ]; exact kpC.rf.cw.fw (by omega)
  have h13 : ∀ g, J 13 g = I 13 g := fun g => by rw [hJ, fw_o (by omega), cw_o (by omega)]
  have hJ0 : J 1 0 = (n : Int) := (hk 1 0 (by unfold pcl; omega)).trans hB.1
  have hT : ∀ g, g < n + 1 → J 16 g = T g := fun g hg => by rw [hJ, show fwJ _ 6 15 0 (n + 1) 16 g = _ from fw_t hg, cw_f hp h8, l0_cw, hT0]
  have bT : ∀ g, g < n + 1 → 0 ≤ T g ∧ T g ≤ 9 := fun g hg => by
    have := tok_b (kn := 0) hC hg
    rw [cw_f hp h8, l0_cw, ← hT0] at this
    exact this
  have lp : ∀ (m : Nat) (g : Nat) (z : Int), g ≤ n → n < g + m → z = (g : Int) → tibB A T p g = true → XX G RX4 cX4_takenIfBoredAt (RmW 3 72 0 0) Fx 29 [some (.ref 0), some (vi zp), some (vi h), some (vi w), some (vi z), none] [] K N J 0 0 := by
    intro m
    induction m with
    | zero => intros; exfalso; omega
    | succ m ih =>
      intro g z h0 h1 h2 h3
      have bA : g < n → _ := hA g
      have bT1 := bT g (by omega)
      have bT2 : g < n → _ := fun hg => bT (g + 1) (by omega)
      refine x_iload dX4_takenIfBoredAt_29 rfl ?_
      refine x_aload_n dX4_takenIfBoredAt_31 rfl ?_
      refine x_getR (j := 1) dX4_takenIfBoredAt_32 gf_RX4_10 rfl rfl (hN _ _ (by decide)) ?_
      refine x_getI dX4_takenIfBoredAt_35 gf_RX4_60 rfl rfl ?_
      rw [hJ0]
      refine x_icmp_ge 89 dX4_takenIfBoredAt_38 (by decide) (by unfold inr; omega) (by unfold inr; omega) (fun h_38 => ?_) (fun h_38 => ?_)
      · refine x_aload_n dX4_takenIfBoredAt_89 rfl ?_
        refine x_getR (j := 15) dX4_takenIfBoredAt_90 gf_RX4_30 rfl rfl (hN _ _ (by decide)) ?_
        refine x_getR (j := 16) dX4_takenIfBoredAt_93 gf_RX4_139 rfl rfl (hN _ _ (by decide)) ?_
        refine x_iload_n dX4_takenIfBoredAt_96 rfl ?_
        refine x_iald (p) dX4_takenIfBoredAt_97 rfl (by omega) (show _ < 9 by omega) ?_
        rw [hT p (by omega)]
        refine hret _ _ _ _ _ _ dX4_takenIfBoredAt_98 rfl ?_
        obtain rfl : g = n := by omega
        refine ⟨rfl, rfl, ⟨?_, bT p (by omega)⟩, hk, h13⟩
        unfold tbV
        rw [← hT0, if_pos h3]
      · refine x_iload dX4_takenIfBoredAt_41 rfl ?_
        refine x_iload_n dX4_takenIfBoredAt_43 rfl ?_
        refine x_icmp_ge 52 dX4_takenIfBoredAt_44 (by decide) (by unfold inr; omega) (by unfold inr; omega) (fun h_44 => ?_) (fun h_44 => ?_)
        · refine x_iload dX4_takenIfBoredAt_52 rfl ?_
          refine x_iconst dX4_takenIfBoredAt_54 ?_
          refine x_iadd dX4_takenIfBoredAt_55 ?_
          refine x_ist5 dX4_takenIfBoredAt_56 ?_
          obtain ⟨ix, hix⟩ : ∃ ix : Nat, ix = (if g < p then g else g + 1) := ⟨_, rfl⟩
          first
          | rw [if_pos (show g < p by omega)] at hix
          | rw [if_neg (show ¬ g < p by omega)] at hix
          have bA2 := bA (by omega)
          have bT3 := bT2 (by omega)
          have bT4 := bT ix (by omega)
          refine x_aload_n dX4_takenIfBoredAt_58 rfl ?_
          refine x_getR (j := 15) dX4_takenIfBoredAt_59 gf_RX4_30 rfl rfl (hN _ _ (by decide)) ?_
          refine x_getR (j := 16) dX4_takenIfBoredAt_62 gf_RX4_139 rfl rfl (hN _ _ (by decide)) ?_
          refine x_iload dX4_takenIfBoredAt_65 rfl ?_
          refine x_iald (ix) dX4_takenIfBoredAt_67 rfl (by omega) (show _ < 9 by omega) ?_
          rw [hT ix (by omega)]
          refine x_aload_n dX4_takenIfBoredAt_68 rfl ?_
          refine x_getR (j := 12) dX4_takenIfBoredAt_69 gf_RX4_26 rfl rfl (hN _ _ (by decide)) ?_
          refine x_getR (j := 13) dX4_takenIfBoredAt_72 gf_RX4_139 rfl rfl (hN _ _ (by decide)) ?_
          refine x_iload dX4_takenIfBoredAt_75 rfl ?_
          refine x_iald (g) dX4_takenIfBoredAt_77 rfl h2 (show _ < 9 by omega) ?_
          rw [h13, bA2.1]
          refine x_icmp_ge 83 dX4_takenIfBoredAt_78 (by decide) (by unfold inr; omega) (by unfold inr; omega) (fun h_78 => ?_) (fun h_78 => ?_)
          · refine x_inc4 dX4_takenIfBoredAt_83 ?_
            refine x_goto 29 dX4_takenIfBoredAt_86 (by decide) ?_
            refine x_dr5 (ih (g + 1) _ (by omega) (by omega) (by omega) ?_)
            show (tibB A T p g && decide (A g ≤ T (if g < p then g else g + 1))) = true
            have hx : (if g < p then g else g + 1) = ix := by
              first
              | rw [if_pos (show g < p by omega)]; exact hix.symm
              | rw [if_neg (show ¬ g < p by omega)]; exact hix.symm
            rw [hx, h3, Bool.true_and, decide_eq_true_iff]; exact h_78
          · refine x_iconst dX4_takenIfBoredAt_81 ?_
            refine hret _ _ _ _ _ _ dX4_takenIfBoredAt_82 rfl ?_
            have e : tibB A T p (g + 1) = false := by
              show (tibB A T p g && decide (A g ≤ T (if g < p then g else g + 1))) = false
              have hx : (if g < p then g else g + 1) = ix := by
                first
                | rw [if_pos (show g < p by omega)]; exact hix.symm
                | rw [if_neg (show ¬ g < p by omega)]; exact hix.symm
              rw [hx, h3, Bool.true_and, decide_eq_false_iff_not]; omega
            obtain ⟨q, hq⟩ : ∃ q, n = (g + 1) + q := ⟨n - (g + 1), by omega⟩
            have e2 := tibB_no e q
            rw [← hq] at e2
            refine ⟨rfl, rfl, ⟨?_, by omega, by omega⟩, hk, h13⟩
            unfold tbV
            rw [← hT0, if_neg (by rw [e2]; decide)]
        · refine x_iload dX4_takenIfBoredAt_47 rfl ?_
          refine x_goto 56 dX4_takenIfBoredAt_49 (by decide) ?_
          refine x_ist5 dX4_takenIfBoredAt_56 ?_
          obtain ⟨ix, hix⟩ : ∃ ix : Nat, ix = (if g < p then g else g + 1) := ⟨_, rfl⟩
          first
          | rw [if_pos (show g < p by omega)] at hix
          | rw [if_neg (show ¬ g < p by omega)] at hix
          have bA2 := bA (by omega)
          have bT3 := bT2 (by omega)
          have bT4 := bT ix (by omega)
          refine x_aload_n dX4_takenIfBoredAt_58 rfl ?_
          refine x_getR (j := 15) dX4_takenIfBoredAt_59 gf_RX4_30 rfl rfl (hN _ _ (by decide)) ?_
          refine x_getR (j := 16) dX4_takenIfBoredAt_62 gf_RX4_139 rfl rfl (hN _ _ (by decide)) ?_
          refine x_iload dX4_takenIfBoredAt_65 rfl ?_
          refine x_iald (ix) dX4_takenIfBoredAt_67 rfl (by omega) (show _ < 9 by omega) ?_
          rw [hT ix (by omega)]
          refine x_aload_n dX4_takenIfBoredAt_68 rfl ?_
          refine x_getR (j := 12) dX4_takenIfBoredAt_69 gf_RX4_26 rfl rfl (hN _ _ (by decide)) ?_
          refine x_getR (j := 13) dX4_takenIfBoredAt_72 gf_RX4_139 rfl rfl (hN _ _ (by decide)) ?_
          refine x_iload dX4_takenIfBoredAt_75 rfl ?_
          refine x_iald (g) dX4_takenIfBoredAt_77 rfl h2 (show _ < 9 by omega) ?_
          rw [h13, bA2.1]
          refine x_icmp_ge 83 dX4_takenIfBoredAt_78 (by decide) (by unfold inr; omega) (by unfold inr; omega) (fun h_78 => ?_) (fun h_78 => ?_)
          · refine x_inc4 dX4_takenIfBoredAt_83 ?_
            refine x_goto 29 dX4_takenIfBoredAt_86 (by decide) ?_
            refine x_dr5 (ih (g + 1) _ (by omega) (by omega) (by omega) ?_)
            show (tibB A T p g && decide (A g ≤ T (if g < p then g else g + 1))) = true
            have hx : (if g < p then g else g + 1) = ix := by
              first
              | rw [if_pos (show g < p by omega)]; exact hix.symm
              | rw [if_neg (show ¬ g < p by omega)]; exact hix.symm
            rw [hx, h3, Bool.true_and, decide_eq_true_iff]; exact h_78
          · refine x_iconst dX4_takenIfBoredAt_81 ?_
            refine hret _ _ _ _ _ _ dX4_takenIfBoredAt_82 rfl ?_
            have e : tibB A T p (g + 1) = false := by
              show (tibB A T p g && decide (A g ≤ T (if g < p then g else g + 1))) = false
              have hx : (if g < p then g else g + 1) = ix := by
                first
                | rw [if_pos (show g < p by omega)]; exact hix.symm
                | rw [if_neg (show ¬ g < p by omega)]; exact hix.symm
              rw [hx, h3, Bool.true_and, decide_eq_false_iff_not]; omega
            obtain ⟨q, hq⟩ : ∃ q, n = (g + 1) + q := ⟨n - (g + 1), by omega⟩
            have e2 := tibB_no e q
            rw [← hq] at e2
            refine ⟨rfl, rfl, ⟨?_, by omega, by omega⟩, hk, h13⟩
            unfold tbV
            rw [← hT0, if_neg (by rw [e2]; decide)]
  refine x_aload_n dX4_takenIfBoredAt_0 rfl ?_
  refine x_getR (j := 6) dX4_takenIfBoredAt_1 gf_RX4_16 rfl rfl (hN _ _ (by decide)) ?_
  refine x_aload_n dX4_takenIfBoredAt_4 rfl ?_
  refine x_getR (j := 1) dX4_takenIfBoredAt_5 gf_RX4_10 rfl rfl (hN _ _ (by decide)) ?_
  refine x_iload_n dX4_takenIfBoredAt_8 rfl ?_
  refine x_iload_n dX4_takenIfBoredAt_9 rfl ?_
  refine x_iload_n dX4_takenIfBoredAt_10 rfl ?_
  refine xf_VV4 dX4_takenIfBoredAt_11 ml_RX4_173 vw_X3_copyWithNew vv_X3_copyWithNew rfl (sp_copyWithNew hN hB.1 h8 p hz hp) ⟨Nat.le_of_ble_eq_true rfl, Nat.le_of_ble_eq_true rfl, Nat.le_of_ble_eq_true rfl, Nat.le_of_ble_eq_true rfl, Nat.le_of_ble_eq_true rfl⟩ ?_
  refine x_aload_n dX4_takenIfBoredAt_14 rfl ?_
  refine x_getR (j := 15) dX4_takenIfBoredAt_15 gf_RX4_30 rfl rfl (hN _ _ (by decide)) ?_
  refine x_aload_n dX4_takenIfBoredAt_18 rfl ?_
  refine x_getR (j := 6) dX4_takenIfBoredAt_19 gf_RX4_16 rfl rfl (hN _ _ (by decide)) ?_
  refine x_iconst dX4_takenIfBoredAt_22 ?_
  refine xf_VV2 dX4_takenIfBoredAt_23 ml_RX4_135 vw_X2_flow vv_X2_flow rfl (sp_flow (b := 6) (c := 15) rfl rfl hN hC (by unfold inr; omega)) ⟨Nat.le_of_ble_eq_true rfl, Nat.le_of_ble_eq_true rfl, Nat.le_of_ble_eq_true rfl, Nat.le_of_ble_eq_true rfl, Nat.le_of_ble_eq_true rfl⟩ ?_
  refine x_iconst dX4_takenIfBoredAt_26 ?_
  refine x_ist4 dX4_takenIfBoredAt_27 ?_
  rw [← hJ]
  exact lp (n + 1) 0 _ (by omega) (by omega) rfl rfl
theorem sp_bored (hN : NS N) (hB : RB I 1 n) {h w k : Int} (hh : inr h) (hw : inr w) (hk : inr k) : SpI G mX4_bored .int 4 97 0 0 [.ref 0, vi h, vi w, vi k] K N I (pI K N (fun z J => z = (if (0 ≤ h ∧ h ≤ 50) ∧ (0 ≤ w ∧ w ≤ 9) ∧ (0 ≤ k ∧ k ≤ 1) then (if n < 9 then boR (brA (boV (fa I 1) (l0R I 1 0) n h w) (n + 1)) k else -3) else -2) ∧ kpC I J)) := by
  refine SpI.of (own := RX4) (cc := cX4_bored) (L := [some (.ref 0), some (vi h), some (vi w), some (vi k), none, none, none, none]) (by decide) rfl rfl (Nat.le_of_ble_eq_true rfl) rfl (fun Fx hnm hret => ?_)
  have hn9 := hB.2.2.1
  have lp : ∀ (m p : Nat) (z b c : Int) (J : MM), p ≤ n + 1 → n + 1 < p + m → z = (p : Int) → n ≤ 8 → (0 ≤ h ∧ h ≤ 50) → (0 ≤ w ∧ w ≤ 9) → (0 ≤ k ∧ k ≤ 1) → (b, c) = brA (boV (fa I 1) (l0R I 1 0) n h w) p → (0 ≤ c ∧ c ≤ 9) → (-6 ≤ b ∧ b ≤ 9) → kpC I J → (∀ g, g < n → J 13 g = tok (fa I 1) 0 (l0R I 1 0) g) → XX G RX4 cX4_bored (RmW 4 97 0 0) Fx 72 [some (.ref 0), some (vi h), some (vi w), some (vi k), some (vi b), some (vi c), some (vi z), none] [] K N J 0 0 := by
    intro m
    induction m with
    | zero => intros; exfalso; omega
    | succ m ih =>
      intro p z b c J h0 h1 h2 h8 hh1 hw1 hk1 h3 h4 h5 h6 h7
      have hJ0 : J 1 0 = (n : Int) := (h6 1 0 (by unfold pcl; omega)).trans hB.1
      have hBJ : RB J 1 n := hB.of (h6 1 0 (by unfold pcl; omega)) (fa_eq (fun j => h6 2 j (by unfold pcl; omega))) (fun j hj => h6 3 j (by unfold pcl; omega))
      have hF : fa J 1 = fa I 1 := fa_eq (fun j => h6 2 j (by unfold pcl; omega))
      have hL : l0R J 1 0 = l0R I 1 0 := l0_eq (fun j => h6 3 j (by unfold pcl; omega))
      refine x_iload dX4_bored_72 rfl ?_
      refine x_aload_n dX4_bored_74 rfl ?_
      refine x_getR (j := 1) dX4_bored_75 gf_RX4_10 rfl rfl (hN _ _ (by decide)) ?_
      refine x_getI dX4_bored_78 gf_RX4_60 rfl rfl ?_
      rw [hJ0]
      refine x_icmp_gt 115 dX4_bored_81 (by decide) (by unfold inr; omega) (by unfold inr; omega) (fun h_81 => ?_) (fun h_81 => ?_)
      · refine x_iload dX4_bored_115 rfl ?_
        refine x_bipush dX4_bored_117 (by decide) ?_
        refine x_icmp_ne 125 dX4_bored_119 (by decide) (by unfold inr; omega) (by unfold inr; omega) (fun h_119 => ?_) (fun h_119 => ?_)
        · refine x_iload_n dX4_bored_125 rfl ?_
          refine x_if_ne 134 dX4_bored_126 (by decide) (by unfold inr; omega) (fun h_126 => ?_) (fun h_126 => ?_)
          · refine x_iload dX4_bored_134 rfl ?_
            refine hret _ _ _ _ _ _ dX4_bored_136 rfl ?_
            obtain rfl : p = n + 1 := by omega
            refine ⟨rfl, rfl, ?_, h6⟩
            rw [if_pos ⟨hh1, hw1, hk1⟩, if_pos (by omega), ← h3]
            unfold boR
            first
            | rw [if_pos h_119]
            | (rw [if_neg h_119, if_pos h_126])
            | (rw [if_neg h_119, if_neg h_126])
          · refine x_iload dX4_bored_129 rfl ?_
            refine x_goto 136 dX4_bored_131 (by decide) ?_
            refine hret _ _ _ _ _ _ dX4_bored_136 rfl ?_
            obtain rfl : p = n + 1 := by omega
            refine ⟨rfl, rfl, ?_, h6⟩
            rw [if_pos ⟨hh1, hw1, hk1⟩, if_pos (by omega), ← h3]
            unfold boR
            first
            | rw [if_pos h_119]
            | (rw [if_neg h_119, if_pos h_126])
            | (rw [if_neg h_119, if_neg h_126])
        · refine x_bipush dX4_bored_122 (by decide) ?_
          refine hret _ _ _ _ _ _ dX4_bored_124 rfl ?_
          obtain rfl : p = n + 1 := by omega
          refine ⟨rfl, rfl, ?_, h6⟩
          rw [if_pos ⟨hh1, hw1, hk1⟩, if_pos (by omega), ← h3]
          unfold boR
          first
          | rw [if_pos h_119]
          | (rw [if_neg h_119, if_pos h_126])
          | (rw [if_neg h_119, if_neg h_126])
      · refine x_aload_n dX4_bored_84 rfl ?_
        refine x_iload dX4_bored_85 rfl ?_
        refine x_iload_n dX4_bored_87 rfl ?_
        refine x_iload_n dX4_bored_88 rfl ?_
        refine xp_VI3 dX4_bored_89 ml_RX4_166 vw_X4_takenIfBoredAt vv_X4_takenIfBoredAt rfl (sp_takenIfBoredAt hN hBJ h8 (A := tok (fa I 1) 0 (l0R I 1 0)) (fun g hg => ⟨h7 g hg, tok_b hB hg⟩) p h2 (by omega) hh1 hw1) ⟨Nat.le_of_ble_eq_true rfl, Nat.le_of_ble_eq_true rfl, Nat.le_of_ble_eq_true rfl, Nat.le_of_ble_eq_true rfl, Nat.le_of_ble_eq_true rfl⟩ (fun z1 I1 hq => ?_)
        obtain ⟨⟨hz, hzb⟩, hk2, h132⟩ := hq
        rw [hF, hL] at hz
        have hz : z1 = boV (fa I 1) (l0R I 1 0) n h w p := hz
        refine x_ist7 dX4_bored_92 ?_
        refine x_iload dX4_bored_94 rfl ?_
        refine x_iload dX4_bored_96 rfl ?_
        refine x_icmp_le 109 dX4_bored_98 (by decide) (by unfold inr; omega) (by unfold inr; omega) (fun h_98 => ?_) (fun h_98 => ?_)
        · refine x_inc6 dX4_bored_109 ?_
          refine x_goto 72 dX4_bored_112 (by decide) ?_
          have e : brA (boV (fa I 1) (l0R I 1 0) n h w) (p + 1) = (if c < z1 then ((p : Int), z1) else (b, c)) := by
            show (if (brA (boV (fa I 1) (l0R I 1 0) n h w) p).2 < boV (fa I 1) (l0R I 1 0) n h w p then ((p : Int), boV (fa I 1) (l0R I 1 0) n h w p) else brA (boV (fa I 1) (l0R I 1 0) n h w) p) = _
            rw [← h3, ← hz]
          refine x_dr7 (ih (p + 1) _ _ _ _ (by omega) (by omega) (by omega) h8 hh1 hw1 hk1 ?_ (by omega) (by omega) (h6.tr hk2) (fun g hg => by rw [h132]; exact h7 g hg))
          rw [e]
          first
          | (rw [if_pos h_98, h2])
          | (rw [if_neg (by omega)])
        · refine x_iload dX4_bored_101 rfl ?_
          refine x_ist5 dX4_bored_103 ?_
          refine x_iload dX4_bored_105 rfl ?_
          refine x_ist4 dX4_bored_107 ?_
          refine x_inc6 dX4_bored_109 ?_
          refine x_goto 72 dX4_bored_112 (by decide) ?_
          have e : brA (boV (fa I 1) (l0R I 1 0) n h w) (p + 1) = (if c < z1 then ((p : Int), z1) else (b, c)) := by
            show (if (brA (boV (fa I 1) (l0R I 1 0) n h w) p).2 < boV (fa I 1) (l0R I 1 0) n h w p then ((p : Int), boV (fa I 1) (l0R I 1 0) n h w p) else brA (boV (fa I 1) (l0R I 1 0) n h w) p) = _
            rw [← h3, ← hz]
          refine x_dr7 (ih (p + 1) _ _ _ _ (by omega) (by omega) (by omega) h8 hh1 hw1 hk1 ?_ (by omega) (by omega) (h6.tr hk2) (fun g hg => by rw [h132]; exact h7 g hg))
          rw [e]
          first
          | (rw [if_pos h_98, h2])
          | (rw [if_neg (by omega)])
  refine x_iload_n dX4_bored_0 rfl ?_
  refine x_gets (k := 2) dX4_bored_1 fl_RX4_76 (by decide) rfl ?_
  refine x_iconst dX4_bored_4 ?_
  refine x_sald (k := 2) (0) dX4_bored_5 (by decide) rfl (by omega) (show _ < 7 by omega) ?_
  refine x_eqV (b := 50) rfl ?_
  refine xf_SI2 dX4_bored_6 ml_RX4_72 vw_X4_within st_X4_within (sp_within hh (by unfold inr; omega)) ⟨Nat.le_of_ble_eq_true rfl, Nat.le_of_ble_eq_true rfl, Nat.le_of_ble_eq_true rfl, Nat.le_of_ble_eq_true rfl, Nat.le_of_ble_eq_true rfl⟩ ?_
  refine x_if_eq 32 dX4_bored_9 (by decide) (by unfold inr; split <;> omega) (fun h_9 => ?_) (fun h_9 => ?_)
  · replace h_9 := b0 h_9
    refine x_bipush dX4_bored_32 (by decide) ?_
    refine hret _ _ _ _ _ _ dX4_bored_34 rfl ?_
    refine ⟨rfl, rfl, ?_, kpC.rf⟩
    (repeat (first | rw [if_pos (by omega)] | rw [if_neg (by omega)]))
  · replace h_9 := b1 h_9
    refine x_iload_n dX4_bored_12 rfl ?_
    refine x_gets (k := 2) dX4_bored_13 fl_RX4_76 (by decide) rfl ?_
    refine x_iconst dX4_bored_16 ?_
    refine x_sald (k := 2) (1) dX4_bored_17 (by decide) rfl (by omega) (show _ < 7 by omega) ?_
    refine x_eqV (b := 9) rfl ?_
    refine xf_SI2 dX4_bored_18 ml_RX4_72 vw_X4_within st_X4_within (sp_within hw (by unfold inr; omega)) ⟨Nat.le_of_ble_eq_true rfl, Nat.le_of_ble_eq_true rfl, Nat.le_of_ble_eq_true rfl, Nat.le_of_ble_eq_true rfl, Nat.le_of_ble_eq_true rfl⟩ ?_
    refine x_if_eq 32 dX4_bored_21 (by decide) (by unfold inr; split <;> omega) (fun h_21 => ?_) (fun h_21 => ?_)
    · replace h_21 := b0 h_21
      refine x_bipush dX4_bored_32 (by decide) ?_
      refine hret _ _ _ _ _ _ dX4_bored_34 rfl ?_
      refine ⟨rfl, rfl, ?_, kpC.rf⟩
      (repeat (first | rw [if_pos (by omega)] | rw [if_neg (by omega)]))
    · replace h_21 := b1 h_21
      refine x_iload_n dX4_bored_24 rfl ?_
      refine x_iconst dX4_bored_25 ?_
      refine xf_SI2 dX4_bored_26 ml_RX4_72 vw_X4_within st_X4_within (sp_within hk (by unfold inr; omega)) ⟨Nat.le_of_ble_eq_true rfl, Nat.le_of_ble_eq_true rfl, Nat.le_of_ble_eq_true rfl, Nat.le_of_ble_eq_true rfl, Nat.le_of_ble_eq_true rfl⟩ ?_
      refine x_if_ne 35 dX4_bored_29 (by decide) (by unfold inr; split <;> omega) (fun h_29 => ?_) (fun h_29 => ?_)
      · replace h_29 := b1 h_29
        refine x_aload_n dX4_bored_35 rfl ?_
        refine x_getR (j := 1) dX4_bored_36 gf_RX4_10 rfl rfl (hN _ _ (by decide)) ?_
        refine x_getI dX4_bored_39 gf_RX4_60 rfl rfl ?_
        refine x_bipush dX4_bored_42 (by decide) ?_
        rw [hB.1]
        refine x_icmp_lt 50 dX4_bored_44 (by decide) (by unfold inr; omega) (by unfold inr; omega) (fun h_44 => ?_) (fun h_44 => ?_)
        · refine x_aload_n dX4_bored_50 rfl ?_
          refine x_getR (j := 12) dX4_bored_51 gf_RX4_26 rfl rfl (hN _ _ (by decide)) ?_
          refine x_aload_n dX4_bored_54 rfl ?_
          refine x_getR (j := 1) dX4_bored_55 gf_RX4_10 rfl rfl (hN _ _ (by decide)) ?_
          refine x_iconst dX4_bored_58 ?_
          refine xf_VV2 dX4_bored_59 ml_RX4_135 vw_X2_flow vv_X2_flow rfl (sp_flow (b := 1) (c := 12) rfl rfl hN hB (by unfold inr; omega)) ⟨Nat.le_of_ble_eq_true rfl, Nat.le_of_ble_eq_true rfl, Nat.le_of_ble_eq_true rfl, Nat.le_of_ble_eq_true rfl, Nat.le_of_ble_eq_true rfl⟩ ?_
          refine x_bipush dX4_bored_62 (by decide) ?_
          refine x_ist4 dX4_bored_64 ?_
          refine x_iconst dX4_bored_66 ?_
          refine x_ist5 dX4_bored_67 ?_
          refine x_iconst dX4_bored_69 ?_
          refine x_ist6 dX4_bored_70 ?_
          exact lp (n + 2) 0 _ _ _ _ (by omega) (by omega) rfl (by omega) (by omega) (by omega) (by omega) rfl (by omega) (by omega) (kpC.rf.fw (by omega)) (fun g hg => fw_t hg)
        · refine x_bipush dX4_bored_47 (by decide) ?_
          refine hret _ _ _ _ _ _ dX4_bored_49 rfl ?_
          refine ⟨rfl, rfl, ?_, kpC.rf⟩
          (repeat (first | rw [if_pos (by omega)] | rw [if_neg (by omega)]))
      · replace h_29 := b0 h_29
        refine x_bipush dX4_bored_32 (by decide) ?_
        refine hret _ _ _ _ _ _ dX4_bored_34 rfl ?_
        refine ⟨rfl, rfl, ?_, kpC.rf⟩
        (repeat (first | rw [if_pos (by omega)] | rw [if_neg (by omega)]))
end FR

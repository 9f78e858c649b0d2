/-! ===== SpringFarms: who robs, how many hours, the least spring, the highest hole, dry years ===== -/
def lackF (F : Nat → Nat → Int) (f : Nat) : Int := max 0 (F f 2 - F f 6)
def orB (A B : Nat → Int) : Nat → Nat
  | 0 => 0
  | f + 1 => if A f < B f then orB A B f + 2 ^ f else orB A B f
theorem orB_lt {A B : Nat → Int} : ∀ f, orB A B f < 2 ^ f
  | 0 => Nat.one_pos
  | f + 1 => by
    have := orB_lt (A := A) (B := B) f
    simp only [orB]
    split <;> omega
theorem orB_t {A B : Nat → Int} {f : Nat} (h : A f < B f) : orB A B f + 2 ^ f = orB A B (f + 1) := (if_pos h).symm
theorem orB_f {A B : Nat → Int} {f : Nat} (h : B f ≤ A f) : orB A B f = orB A B (f + 1) := (if_neg (Int.not_lt.mpr h)).symm
theorem or_bit : ∀ f : Nat, f < 9 → ∀ x : Nat, x < 512 → x < 2 ^ f → Int32.ofInt (x : Int) ||| Int32.ofInt ((2 ^ f : Nat) : Int) = Int32.ofInt ((x + 2 ^ f : Nat) : Int) := by decide +kernel
theorem shl_bit : ∀ f : Nat, f < 10 → Int32.ofInt 1 <<< (Int32.ofInt (f : Int) &&& 31) = Int32.ofInt ((2 ^ f : Nat) : Int) := by decide +kernel
theorem pow_le {f : Nat} (h : f < 9) : 2 ^ f ≤ 256 := Nat.le_trans (Nat.pow_le_pow_right (by decide) (show f ≤ 8 by omega)) (by decide)
def hrA (F : Nat → Nat → Int) (T : Nat → Int) : Nat → Int
  | 0 => 0
  | f + 1 => if hrA F T f < 0 then hrA F T f else if 0 < lackF F f then (if T f ≤ 0 then -6 else max (hrA F T f) ((lackF F f + T f - 1) / T f)) else hrA F T f
theorem hrA_neg {F : Nat → Nat → Int} {T : Nat → Int} {f : Nat} (h : hrA F T f = -6) : ∀ d, hrA F T (f + d) = -6
  | 0 => h
  | d + 1 => by
    have := hrA_neg h d
    show (if hrA F T (f + d) < 0 then _ else _) = _
    rw [if_pos (by omega)]; exact this
def okAll (F : Nat → Nat → Int) (l0 m : Int) : Nat → Bool
  | 0 => true
  | f + 1 => okAll F l0 m f && decide (lackF F f ≤ m * tok F 0 l0 f)
theorem okAll_no {F : Nat → Nat → Int} {l0 m : Int} {f : Nat} (h : okAll F l0 m f = false) : ∀ d, okAll F l0 m (f + d) = false
  | 0 => h
  | d + 1 => by
    have := okAll_no h d
    show (okAll F l0 m (f + d) && _) = _
    rw [this]; rfl
/-- the first place from i on, of k, that has the property; none -/
def lsF (P : Nat → Bool) : Nat → Nat → Int
  | 0, _ => -6
  | k + 1, i => if P i = true then (i : Int) else lsF P k (i + 1)
theorem lsF_st {P : Nat → Bool} {e i : Nat} (h : i < e) : lsF P (e - i) i = if P i = true then (i : Int) else lsF P (e - (i + 1)) (i + 1) := by
  obtain ⟨k, hk⟩ : ∃ k, e - i = k + 1 := ⟨e - i - 1, by omega⟩
  rw [hk, show e - (i + 1) = k by omega]; rfl
/-- the last place below k that has the property; none -/
def gsF (P : Nat → Bool) : Nat → Int
  | 0 => -6
  | k + 1 => if P k = true then (k : Int) else gsF P k
def gs1 (P : Nat → Bool) : Nat → Int
  | 0 => 0
  | k + 1 => if P (k + 1) = true then ((k + 1 : Nat) : Int) else gs1 P k
theorem setF_s {F : Nat → Nat → Int} {f k : Nat} {v x : Int} : setF (setF F f k x) f k v = setF F f k v := by
  funext g j; unfold setF; split <;> rfl
theorem mul_b {m t M T : Int} (h1 : 0 ≤ m) (h2 : m ≤ M) (h3 : 0 ≤ t) (h4 : t ≤ T) : 0 ≤ m * t ∧ m * t ≤ M * T := ⟨Int.mul_nonneg h1 h3, Int.mul_le_mul h2 h4 h3 (by omega)⟩
section FR
variable {G : GT} {K : List Nat} {N : NN} {I : MM} {n : Nat}
theorem sp_robbed (hN : NS N) (hB : RB I 1 n) {f : Int} (hf : inr f) : SpI G mX4_robbed .int 3 69 0 0 [.ref 0, vi f] K N I (pI K N (fun z J => z = (if 0 ≤ f ∧ f < n then (orB (tok (fa I 1) 0 (l0R I 1 0)) (tok (setF (fa I 1) f.toNat 4 1) 0 (l0R I 1 0)) n : Int) else -1) ∧ kpC I J)) := by
  refine SpI.of (own := RX4) (cc := cX4_robbed) (L := [some (.ref 0), some (vi f), none, none]) (by decide) rfl rfl (Nat.le_of_ble_eq_true rfl) rfl (fun Fx hnm hret => ?_)
  have hn9 := hB.2.2.1
  refine x_aload_n dX4_robbed_0 rfl ?_
  refine x_getR (j := 1) dX4_robbed_1 gf_RX4_10 rfl rfl (hN _ _ (by decide)) ?_
  refine x_iload_n dX4_robbed_4 rfl ?_
  refine xf_VI1 dX4_robbed_5 ml_RX4_68 vw_X3_has vv_X3_has rfl (sp_has (b := 1) rfl hN hf (by rw [hB.1]; unfold inr; omega)) ⟨Nat.le_of_ble_eq_true rfl, Nat.le_of_ble_eq_true rfl, Nat.le_of_ble_eq_true rfl, Nat.le_of_ble_eq_true rfl, Nat.le_of_ble_eq_true rfl⟩ ?_
  rw [hB.1]
  refine x_if_ne 13 dX4_robbed_8 (by decide) (by unfold inr; split <;> omega) (fun h_8 => ?_) (fun h_8 => ?_)
  · replace h_8 := b1 h_8
    obtain ⟨i, rfl⟩ := toN h_8.1
    refine x_aload_n dX4_robbed_13 rfl ?_
    refine x_getR (j := 12) dX4_robbed_14 gf_RX4_26 rfl rfl (hN _ _ (by decide)) ?_
    refine x_aload_n dX4_robbed_17 rfl ?_
    refine x_getR (j := 1) dX4_robbed_18 gf_RX4_10 rfl rfl (hN _ _ (by decide)) ?_
    refine x_iconst dX4_robbed_21 ?_
    refine xf_VV2 dX4_robbed_22 ml_RX4_135 vw_X2_flow vv_X2_flow rfl (sp_flow (b := 1) (c := 12) rfl rfl hN hB (by unfold inr; omega)) ⟨Nat.le_of_ble_eq_true rfl, Nat.le_of_ble_eq_true rfl, Nat.le_of_ble_eq_true rfl, Nat.le_of_ble_eq_true rfl, Nat.le_of_ble_eq_true rfl⟩ ?_
    refine x_aload_n dX4_robbed_25 rfl ?_
    refine x_getR (j := 6) dX4_robbed_26 gf_RX4_16 rfl rfl (hN _ _ (by decide)) ?_
    refine x_aload_n dX4_robbed_29 rfl ?_
    refine x_getR (j := 1) dX4_robbed_30 gf_RX4_10 rfl rfl (hN _ _ (by decide)) ?_
    refine xf_VV1 dX4_robbed_33 ml_RX4_125 vw_X3_copy vv_X3_copy rfl (sp_copy (s := 1) (d := 6) rfl rfl (by decide) hN) ⟨Nat.le_of_ble_eq_true rfl, Nat.le_of_ble_eq_true rfl, Nat.le_of_ble_eq_true rfl, Nat.le_of_ble_eq_true rfl, Nat.le_of_ble_eq_true rfl⟩ ?_
    refine x_aload_n dX4_robbed_36 rfl ?_
    refine x_getR (j := 6) dX4_robbed_37 gf_RX4_16 rfl rfl (hN _ _ (by decide)) ?_
    refine x_iload_n dX4_robbed_40 rfl ?_
    refine x_iconst dX4_robbed_41 ?_
    refine x_iconst dX4_robbed_42 ?_
    refine xf_VV3 dX4_robbed_43 ml_RX4_83 vw_X3_put vv_X3_put rfl (sp_put (b := 6) rfl hN i 4 rfl rfl (by omega)) ⟨Nat.le_of_ble_eq_true rfl, Nat.le_of_ble_eq_true rfl, Nat.le_of_ble_eq_true rfl, Nat.le_of_ble_eq_true rfl, Nat.le_of_ble_eq_true rfl⟩ ?_
    have hB1 : RB (fwJ I 1 12 0 n) 1 n := hB.of (fw_o (by omega)) (fa_eq (fun _ => fw_o (by omega))) (fun _ _ => fw_o (by omega))
    have hB2 : RB (up (cpR (fwJ I 1 12 0 n) 1 6) 7 (7 * i + 4) 1) 6 n := hB1.cp.put (b := 6) (by omega) (by unfold okF; omega)
    refine x_aload_n dX4_robbed_46 rfl ?_
    refine x_getR (j := 15) dX4_robbed_47 gf_RX4_30 rfl rfl (hN _ _ (by decide)) ?_
    refine x_aload_n dX4_robbed_50 rfl ?_
    refine x_getR (j := 6) dX4_robbed_51 gf_RX4_16 rfl rfl (hN _ _ (by decide)) ?_
    refine x_iconst dX4_robbed_54 ?_
    refine xf_VV2 dX4_robbed_55 ml_RX4_135 vw_X2_flow vv_X2_flow rfl (sp_flow (b := 6) (c := 15) rfl rfl hN hB2 (by unfold inr; omega)) ⟨Nat.le_of_ble_eq_true rfl, Nat.le_of_ble_eq_true rfl, Nat.le_of_ble_eq_true rfl, Nat.le_of_ble_eq_true rfl, Nat.le_of_ble_eq_true rfl⟩ ?_
    refine x_iconst dX4_robbed_58 ?_
    refine x_ist2 dX4_robbed_59 ?_
    refine x_iconst dX4_robbed_60 ?_
    refine x_ist3 dX4_robbed_61 ?_
    have eF : fa (up (cpR (fwJ I 1 12 0 n) 1 6) 7 (7 * i + 4) 1) 6 = setF (fa I 1) i 4 1 := by
      rw [show fa (up (cpR (fwJ I 1 12 0 n) 1 6) 7 (7 * i + 4) 1) 6 = _ from fa_put (b := 6) (by omega), fa_cp, fa_eq (I := I) (fun _ => fw_o (by omega))]
    have eL : l0R (up (cpR (fwJ I 1 12 0 n) 1 6) 7 (7 * i + 4) 1) 6 0 = l0R I 1 0 := by
      rw [l0_eq (I := cpR (fwJ I 1 12 0 n) 1 6) (fun _ => up_n1 (by omega)), l0_cp, l0_eq (I := I) (fun _ => fw_o (by omega))]
    generalize hJ : fwJ (up (cpR (fwJ I 1 12 0 n) 1 6) 7 (7 * i + 4) 1) 6 15 0 n = J
    have hk : kpC I J := by rw [← hJ]; exact (((kpC.rf.fw (by omega)).cp (by omega)).upc (by omega)).fw (by omega)
    have hJ0 : J 1 0 = (n : Int) := (hk 1 0 (by unfold pcl; omega)).trans hB.1
    have hA : ∀ g, g < n → J 13 g = tok (fa I 1) 0 (l0R I 1 0) g := fun g hg => by
      rw [← hJ, fw_o (by omega), up_n1 (by omega), cp_o (by omega)]; exact fw_t hg
    have hT : ∀ g, g < n → J 16 g = tok (setF (fa I 1) i 4 1) 0 (l0R I 1 0) g := fun g hg => by
      rw [← hJ, show fwJ _ 6 15 0 n 16 g = _ from fw_t hg, eF, eL]
    have bA : ∀ g, g < n → inr (J 13 g) := fun g hg => by rw [hA g hg]; have := tok_b (kn := 0) hB hg; unfold inr; omega
    have bT : ∀ g, g < n → inr (J 16 g) := fun g hg => by
      have h := tok_b (kn := 0) hB2 hg
      rw [eF, eL] at h
      rw [hT g hg]; unfold inr; omega
    have lp : ∀ (m : Nat) (g : Nat) (z : Int), g ≤ n → n < g + m → z = (g : Int) → XX G RX4 cX4_robbed (RmW 3 69 0 0) Fx 62 [some (.ref 0), some (vi i), some (vi (orB (tok (fa I 1) 0 (l0R I 1 0)) (tok (setF (fa I 1) i 4 1) 0 (l0R I 1 0)) g : Nat)), some (vi z)] [] K N J 0 0 := by
      intro m
      induction m with
      | zero => intros; exfalso; omega
      | succ m ih =>
        intro g z h0 h1 h2
        have hx := orB_lt (A := tok (fa I 1) 0 (l0R I 1 0)) (B := tok (setF (fa I 1) i 4 1) 0 (l0R I 1 0)) g
        refine x_iload_n dX4_robbed_62 rfl ?_
        refine x_aload_n dX4_robbed_63 rfl ?_
        refine x_getR (j := 1) dX4_robbed_64 gf_RX4_10 rfl rfl (hN _ _ (by decide)) ?_
        refine x_getI dX4_robbed_67 gf_RX4_60 rfl rfl ?_
        rw [hJ0]
        refine x_icmp_ge 106 dX4_robbed_70 (by decide) (by unfold inr; omega) (by unfold inr; omega) (fun h_70 => ?_) (fun h_70 => ?_)
        · refine x_iload_n dX4_robbed_106 rfl ?_
          refine hret _ _ _ _ _ _ dX4_robbed_107 rfl ?_
          obtain rfl : g = n := by omega
          refine ⟨rfl, rfl, ?_, hk⟩
          rw [if_pos (by omega)]; rfl
        · refine x_aload_n dX4_robbed_73 rfl ?_
          refine x_getR (j := 15) dX4_robbed_74 gf_RX4_30 rfl rfl (hN _ _ (by decide)) ?_
          refine x_getR (j := 16) dX4_robbed_77 gf_RX4_139 rfl rfl (hN _ _ (by decide)) ?_
          refine x_iload_n dX4_robbed_80 rfl ?_
          refine x_iald (g) dX4_robbed_81 rfl h2 (show _ < 9 by omega) ?_
          refine x_aload_n dX4_robbed_82 rfl ?_
          refine x_getR (j := 12) dX4_robbed_83 gf_RX4_26 rfl rfl (hN _ _ (by decide)) ?_
          refine x_getR (j := 13) dX4_robbed_86 gf_RX4_139 rfl rfl (hN _ _ (by decide)) ?_
          refine x_iload_n dX4_robbed_89 rfl ?_
          refine x_iald (g) dX4_robbed_90 rfl h2 (show _ < 9 by omega) ?_
          refine x_icmp_le 100 dX4_robbed_91 (by decide) (bT g (by omega)) (bA g (by omega)) (fun h_91 => ?_) (fun h_91 => ?_)
          · refine x_inc3 dX4_robbed_100 ?_
            refine x_goto 62 dX4_robbed_103 (by decide) ?_
            rw [hA g (by omega), hT g (by omega)] at h_91
            first
            | rw [orB_t h_91]
            | rw [orB_f h_91]
            exact ih (g + 1) _ (by omega) (by omega) (by omega)
          · refine x_iload_n dX4_robbed_94 rfl ?_
    
            refine x_iconst dX4_robbed_95 ?_
            refine x_iload_n dX4_robbed_96 rfl ?_
            refine x_ishl ((2 ^ g : Nat) : Int) dX4_robbed_97 (by rw [h2]; exact shl_bit g (by omega)) ?_
            refine x_ior ((_ + 2 ^ g : Nat) : Int) dX4_robbed_98 (or_bit g (by omega) _ (by have := pow_le (show g < 9 by omega); omega) hx) ?_
            refine x_ist2 dX4_robbed_99 ?_
            refine x_inc3 dX4_robbed_100 ?_
            refine x_goto 62 dX4_robbed_103 (by decide) ?_
            rw [hA g (by omega), hT g (by omega)] at h_91
            first
            | rw [orB_t h_91]
            | rw [orB_f h_91]
            exact ih (g + 1) _ (by omega) (by omega) (by omega)
    exact lp (n + 1) 0 _ (by omega) (by omega) rfl
  · replace h_8 := b0 h_8
    refine x_iconst dX4_robbed_11 ?_
    refine hret _ _ _ _ _ _ dX4_robbed_12 rfl ?_
    refine ⟨rfl, rfl, ?_, ?_⟩
    · (repeat (first | rw [if_pos (by omega)] | rw [if_neg (by omega)])) <;> rfl
    · exact kpC.rf
theorem sp_hours (hN : NS N) (hB : RB I 1 n) : SpI G mX4_hours .int 3 69 0 0 [.ref 0] K N I (pI K N (fun z J => z = hrA (fa I 1) (tok (fa I 1) 0 (l0R I 1 0)) n ∧ kpC I J)) := by
  refine SpI.of (own := RX4) (cc := cX4_hours) (L := [some (.ref 0), none, none, none, none]) (by decide) rfl rfl (Nat.le_of_ble_eq_true rfl) rfl (fun Fx hnm hret => ?_)
  have hn9 := hB.2.2.1
  obtain ⟨J, hJ⟩ : ∃ J, J = fwJ I 1 12 0 n := ⟨_, rfl⟩
  have hk : kpC I J := by rw [hJ]; exact kpC.rf.fw (by omega)
  have hJ0 : J 1 0 = (n : Int) := (hk 1 0 (by unfold pcl; omega)).trans hB.1
  have hF : fa J 1 = fa I 1 := fa_eq (fun j => hk 2 j (by unfold pcl; omega))
  have hA : ∀ g, g < n → J 13 g = tok (fa I 1) 0 (l0R I 1 0) g := fun g hg => by rw [hJ]; exact fw_t hg
  have lp : ∀ (m : Nat) (g : Nat) (z l : Int), g ≤ n → n < g + m → z = (g : Int) → l = hrA (fa I 1) (tok (fa I 1) 0 (l0R I 1 0)) g → 0 ≤ l ∧ l ≤ 1000 → XX G RX4 cX4_hours (RmW 3 69 0 0) Fx 16 [some (.ref 0), some (vi l), some (vi z), none, none] [] K N J 0 0 := by
    intro m
    induction m with
    | zero => intros; exfalso; omega
    | succ m ih =>
      intro g z l h0 h1 h2 h3 h4
      have bT : g < n → _ := fun hg => tok_b (kn := 0) hB hg
      have bF : g < n → _ := hB.2.2.2.1 g
      refine x_iload_n dX4_hours_16 rfl ?_
      refine x_aload_n dX4_hours_17 rfl ?_
      refine x_getR (j := 1) dX4_hours_18 gf_RX4_10 rfl rfl (hN _ _ (by decide)) ?_
      refine x_getI dX4_hours_21 gf_RX4_60 rfl rfl ?_
      rw [hJ0]
      refine x_icmp_ge 79 dX4_hours_24 (by decide) (by unfold inr; omega) (by unfold inr; omega) (fun h_24 => ?_) (fun h_24 => ?_)
      · refine x_iload_n dX4_hours_79 rfl ?_
        refine hret _ _ _ _ _ _ dX4_hours_80 rfl ?_
        obtain rfl : g = n := by omega
        exact ⟨rfl, rfl, h3, hk⟩
      · refine x_aload_n dX4_hours_27 rfl ?_
        refine x_getR (j := 1) dX4_hours_28 gf_RX4_10 rfl rfl (hN _ _ (by decide)) ?_
        refine x_iload_n dX4_hours_31 rfl ?_
        refine xf_VI1 dX4_hours_32 ml_RX4_152 vw_X3_lack vv_X3_lack rfl (sp_lack (b := 1) rfl hN g h2 (by omega) (by rw [hF]; exact (bF (by omega)).2.2.1) (by rw [hF]; exact (bF (by omega)).2.2.2.2.2.2)) ⟨Nat.le_of_ble_eq_true rfl, Nat.le_of_ble_eq_true rfl, Nat.le_of_ble_eq_true rfl, Nat.le_of_ble_eq_true rfl, Nat.le_of_ble_eq_true rfl⟩ ?_
        rw [hF]
        refine x_ist3 dX4_hours_35 ?_
        refine x_aload_n dX4_hours_36 rfl ?_
        refine x_getR (j := 12) dX4_hours_37 gf_RX4_26 rfl rfl (hN _ _ (by decide)) ?_
        refine x_getR (j := 13) dX4_hours_40 gf_RX4_139 rfl rfl (hN _ _ (by decide)) ?_
        refine x_iload_n dX4_hours_43 rfl ?_
        refine x_iald (g) dX4_hours_44 rfl h2 (show _ < 9 by omega) ?_
        rw [hA g (by omega)]
        refine x_ist4 dX4_hours_45 ?_
        obtain ⟨a, ha⟩ : ∃ a, a = max 0 (fa I 1 g 2 - fa I 1 g 6) := ⟨_, rfl⟩
        obtain ⟨t, ht⟩ : ∃ t, t = tok (fa I 1) 0 (l0R I 1 0) g := ⟨_, rfl⟩
        have bF2 := bF (by omega)
        have bT2 := bT (by omega)
        rw [← ht] at bT2
        rw [← ha, ← ht]
        refine x_iload_n dX4_hours_47 rfl ?_
        refine x_if_le 73 dX4_hours_48 (by decide) (by unfold inr; omega) (fun h_48 => ?_) (fun h_48 => ?_)
        · refine x_inc2 dX4_hours_73 ?_
          refine x_goto 16 dX4_hours_76 (by decide) ?_
          have e : hrA (fa I 1) (tok (fa I 1) 0 (l0R I 1 0)) (g + 1) = (if 0 < a then (if t ≤ 0 then -6 else max l ((a + t - 1) / t)) else l) := by
            show (if hrA (fa I 1) (tok (fa I 1) 0 (l0R I 1 0)) g < 0 then _ else _) = _
            rw [if_neg (by omega), ← h3]
            unfold lackF
            rw [← ha, ← ht]
          refine x_dr4 (x_dr3 (ih (g + 1) _ _ (by omega) (by omega) (by omega) ?_ ?_))
          · rw [e]
            first
            | rw [if_pos (by omega), if_neg (by omega)]
            | rw [if_neg (by omega)]
          · first
            | (have := dv; omega)
            | omega
        · refine x_iload dX4_hours_51 rfl ?_
          refine x_if_gt 59 dX4_hours_53 (by decide) (by unfold inr; omega) (fun h_53 => ?_) (fun h_53 => ?_)
          · refine x_iload_n dX4_hours_59 rfl ?_
            refine x_iload_n dX4_hours_60 rfl ?_
            refine x_iload dX4_hours_61 rfl ?_
            refine x_iadd dX4_hours_63 ?_
            refine x_iconst dX4_hours_64 ?_
            refine x_isub dX4_hours_65 ?_
            refine x_iload dX4_hours_66 rfl ?_
            refine x_idiv dX4_hours_68 (by unfold inr; omega) (by unfold inr; omega) ?_
            have dv : 0 ≤ (a + t - 1) / t ∧ (a + t - 1) / t ≤ 1000 := ⟨Int.ediv_nonneg (by omega) (by omega), Int.le_trans (Int.ediv_le_self t (by omega)) (by omega)⟩
            refine x_max dX4_hours_69 ml_RX4_155 st_mmax ini_java_lang_Math cd_mmax (by unfold inr; omega) (by have := dv; unfold inr; omega) ⟨Nat.le_of_ble_eq_true rfl, Nat.le_of_ble_eq_true rfl, Nat.le_of_ble_eq_true rfl, Nat.le_of_ble_eq_true rfl⟩ ?_
            refine x_ist1 dX4_hours_72 ?_
            refine x_inc2 dX4_hours_73 ?_
            refine x_goto 16 dX4_hours_76 (by decide) ?_
            have e : hrA (fa I 1) (tok (fa I 1) 0 (l0R I 1 0)) (g + 1) = (if 0 < a then (if t ≤ 0 then -6 else max l ((a + t - 1) / t)) else l) := by
              show (if hrA (fa I 1) (tok (fa I 1) 0 (l0R I 1 0)) g < 0 then _ else _) = _
              rw [if_neg (by omega), ← h3]
              unfold lackF
              rw [← ha, ← ht]
            refine x_dr4 (x_dr3 (ih (g + 1) _ _ (by omega) (by omega) (by omega) ?_ ?_))
            · rw [e]
              first
              | rw [if_pos (by omega), if_neg (by omega)]
              | rw [if_neg (by omega)]
            · first
              | (have := dv; omega)
              | omega
          · refine x_bipush dX4_hours_56 (by decide) ?_
            refine hret _ _ _ _ _ _ dX4_hours_58 rfl ?_
            have e : hrA (fa I 1) (tok (fa I 1) 0 (l0R I 1 0)) (g + 1) = -6 := by
              show (if hrA (fa I 1) (tok (fa I 1) 0 (l0R I 1 0)) g < 0 then _ else _) = _
              rw [if_neg (by omega)]
              unfold lackF
              rw [← ha, ← ht, if_pos (by omega), if_pos (by omega)]
            obtain ⟨q, rfl⟩ : ∃ q, n = (g + 1) + q := ⟨n - (g + 1), by omega⟩
            exact ⟨rfl, rfl, (hrA_neg e q).symm, hk⟩
  refine x_aload_n dX4_hours_0 rfl ?_
  refine x_getR (j := 12) dX4_hours_1 gf_RX4_26 rfl rfl (hN _ _ (by decide)) ?_
  refine x_aload_n dX4_hours_4 rfl ?_
  refine x_getR (j := 1) dX4_hours_5 gf_RX4_10 rfl rfl (hN _ _ (by decide)) ?_
  refine x_iconst dX4_hours_8 ?_
  refine xf_VV2 dX4_hours_9 ml_RX4_135 vw_X2_flow vv_X2_flow rfl (sp_flow (b := 1) (c := 12) rfl rfl hN hB (by unfold inr; omega)) ⟨Nat.le_of_ble_eq_true rfl, Nat.le_of_ble_eq_true rfl, Nat.le_of_ble_eq_true rfl, Nat.le_of_ble_eq_true rfl, Nat.le_of_ble_eq_true rfl⟩ ?_
  refine x_iconst dX4_hours_12 ?_
  refine x_ist1 dX4_hours_13 ?_
  refine x_iconst dX4_hours_14 ?_
  refine x_ist2 dX4_hours_15 ?_
  rw [← hJ]
  exact lp (n + 1) 0 _ _ (by omega) (by omega) rfl rfl (by omega)
theorem sp_allHaveIn (hN : NS N) (hB : RB I 6 n) {d : Int} (hd : 1 ≤ d ∧ d ≤ 24) : SpI G mX4_allHaveIn .boolean 3 69 0 0 [.ref 0, vi d] K N I (qI K N (fwJ I 6 15 0 n) (if okAll (fa I 6) (l0R I 6 0) d n = true then 1 else 0)) := by
  refine SpI.of (own := RX4) (cc := cX4_allHaveIn) (L := [some (.ref 0), some (vi d), none]) (by decide) rfl rfl (Nat.le_of_ble_eq_true rfl) rfl (fun Fx hnm hret => ?_)
  have hn9 := hB.2.2.1
  obtain ⟨J, hJ⟩ : ∃ J, J = fwJ I 6 15 0 n := ⟨_, rfl⟩
  have hJ0 : J 6 0 = (n : Int) := by rw [hJ, fw_o (by omega)]; exact hB.1
  have hF : fa J 6 = fa I 6 := fa_eq (fun j => by rw [hJ]; exact fw_o (by omega))
  have hA : ∀ g, g < n → J 16 g = tok (fa I 6) 0 (l0R I 6 0) g := fun g hg => by rw [hJ]; exact fw_t hg
  have lp : ∀ (m : Nat) (g : Nat) (z : Int), g ≤ n → n < g + m → z = (g : Int) → okAll (fa I 6) (l0R I 6 0) d g = true → XX G RX4 cX4_allHaveIn (RmW 3 69 0 0) Fx 14 [some (.ref 0), some (vi d), some (vi z)] [] K N J 0 0 := by
    intro m
    induction m with
    | zero => intros; exfalso; omega
    | succ m ih =>
      intro g z h0 h1 h2 h3
      have bT : g < n → _ := fun hg => tok_b (kn := 0) hB hg
      have bF : g < n → _ := hB.2.2.2.1 g
      refine x_iload_n dX4_allHaveIn_14 rfl ?_
      refine x_aload_n dX4_allHaveIn_15 rfl ?_
      refine x_getR (j := 6) dX4_allHaveIn_16 gf_RX4_16 rfl rfl (hN _ _ (by decide)) ?_
      refine x_getI dX4_allHaveIn_19 gf_RX4_60 rfl rfl ?_
      rw [hJ0]
      refine x_icmp_ge 55 dX4_allHaveIn_22 (by decide) (by unfold inr; omega) (by unfold inr; omega) (fun h_22 => ?_) (fun h_22 => ?_)
      · refine x_iconst dX4_allHaveIn_55 ?_
        refine hret _ _ _ _ _ _ dX4_allHaveIn_56 rfl ?_
        obtain rfl : g = n := by omega
        exact ⟨rfl, rfl, hJ, by rw [if_pos h3]⟩
      · refine x_iload_n dX4_allHaveIn_25 rfl ?_
        refine x_aload_n dX4_allHaveIn_26 rfl ?_
        refine x_getR (j := 15) dX4_allHaveIn_27 gf_RX4_30 rfl rfl (hN _ _ (by decide)) ?_
        refine x_getR (j := 16) dX4_allHaveIn_30 gf_RX4_139 rfl rfl (hN _ _ (by decide)) ?_
        refine x_iload_n dX4_allHaveIn_33 rfl ?_
        refine x_iald (g) dX4_allHaveIn_34 rfl h2 (show _ < 9 by omega) ?_
        rw [hA g (by omega)]
        refine x_imul dX4_allHaveIn_35 ?_
        refine x_aload_n dX4_allHaveIn_36 rfl ?_
        refine x_getR (j := 6) dX4_allHaveIn_37 gf_RX4_16 rfl rfl (hN _ _ (by decide)) ?_
        refine x_iload_n dX4_allHaveIn_40 rfl ?_
        refine xf_VI1 dX4_allHaveIn_41 ml_RX4_152 vw_X3_lack vv_X3_lack rfl (sp_lack (b := 6) rfl hN g h2 (by omega) (by rw [hF]; exact (bF (by omega)).2.2.1) (by rw [hF]; exact (bF (by omega)).2.2.2.2.2.2)) ⟨Nat.le_of_ble_eq_true rfl, Nat.le_of_ble_eq_true rfl, Nat.le_of_ble_eq_true rfl, Nat.le_of_ble_eq_true rfl, Nat.le_of_ble_eq_true rfl⟩ ?_
        rw [hF]
        refine x_icmp_ge 49 dX4_allHaveIn_44 (by decide) (by have := mul_b (by omega) hd.2 (bT (by omega)).1 (bT (by omega)).2; unfold inr; omega) (by have := bF (by omega); unfold inr; omega) (fun h_44 => ?_) (fun h_44 => ?_)
        · refine x_inc2 dX4_allHaveIn_49 ?_
          refine x_goto 14 dX4_allHaveIn_52 (by decide) ?_
          refine ih (g + 1) _ (by omega) (by omega) (by omega) ?_
          show (okAll (fa I 6) (l0R I 6 0) d g && decide (lackF (fa I 6) g ≤ _)) = true
          rw [h3, Bool.true_and, decide_eq_true_iff]
          exact h_44
        · refine x_iconst dX4_allHaveIn_47 ?_
          refine hret _ _ _ _ _ _ dX4_allHaveIn_48 rfl ?_
          have e : okAll (fa I 6) (l0R I 6 0) d (g + 1) = false := by
            show (okAll (fa I 6) (l0R I 6 0) d g && decide (lackF (fa I 6) g ≤ _)) = false
            rw [h3, Bool.true_and, decide_eq_false_iff_not]
            exact Int.not_le.mpr h_44
          obtain ⟨q, rfl⟩ : ∃ q, n = (g + 1) + q := ⟨n - (g + 1), by omega⟩
          exact ⟨rfl, rfl, hJ, by rw [if_neg (by rw [okAll_no e q]; decide)]⟩
  refine x_aload_n dX4_allHaveIn_0 rfl ?_
  refine x_getR (j := 15) dX4_allHaveIn_1 gf_RX4_30 rfl rfl (hN _ _ (by decide)) ?_
  refine x_aload_n dX4_allHaveIn_4 rfl ?_
  refine x_getR (j := 6) dX4_allHaveIn_5 gf_RX4_16 rfl rfl (hN _ _ (by decide)) ?_
  refine x_iconst dX4_allHaveIn_8 ?_
  refine xf_VV2 dX4_allHaveIn_9 ml_RX4_135 vw_X2_flow vv_X2_flow rfl (sp_flow (b := 6) (c := 15) rfl rfl hN hB (by unfold inr; omega)) ⟨Nat.le_of_ble_eq_true rfl, Nat.le_of_ble_eq_true rfl, Nat.le_of_ble_eq_true rfl, Nat.le_of_ble_eq_true rfl, Nat.le_of_ble_eq_true rfl⟩ ?_
  refine x_iconst dX4_allHaveIn_12 ?_
  refine x_ist2 dX4_allHaveIn_13 ?_
  rw [← hJ]
  exact lp (n + 1) 0 _ (by omega) (by omega) rfl rfl
end FR

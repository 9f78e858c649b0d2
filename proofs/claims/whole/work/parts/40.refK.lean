/-! ===== the reference: frost by chance, years by draws ===== -/
theorem or_1 {a : Int} (h : a = 0 ∨ a = 1) : Int32.ofInt a ||| Int32.ofInt 1 = Int32.ofInt 1 := by rcases h with rfl | rfl <;> decide
theorem or_0 {a : Int} (h : a = 0 ∨ a = 1) : Int32.ofInt a ||| Int32.ofInt 0 = Int32.ofInt a := by rcases h with rfl | rfl <;> decide
theorem anyZ_01 {a : Nat → Int} : ∀ n : Nat, anyZ a n = 0 ∨ anyZ a n = 1
  | 0 => Or.inl rfl
  | n + 1 => by
    show (if anyZ a n = 1 ∨ a n = 0 then (1 : Int) else 0) = 0 ∨ (if anyZ a n = 1 ∨ a n = 0 then (1 : Int) else 0) = 1
    split
    · exact Or.inr rfl
    · exact Or.inl rfl
section FR
variable {G : GT} {K : List Nat} {N : NN} {I : MM} {n : Nat}
theorem sp_mpower {b e : Int} (hb : inr b) (n : Nat) (he : e = (n : Int)) (hn : n < 1000) : SpL G mX5_power .long 0 0 0 0 [vi b, vi e] K N I (qI K N I (b ^ n)) := by
  refine SpL.of (own := RX5) (cc := cX5_power) (L := [some (vi b), some (vi e), none, none, none]) (by decide) rfl rfl (Nat.le_of_ble_eq_true rfl) rfl (fun Fx hnm hret => ?_)
  have lp : ∀ (m : Nat) (g : Nat) (z l : Int), g ≤ n → n < g + m → z = (g : Int) → l = b ^ g → XX G RX5 cX5_power (RmW 0 0 0 0) Fx 5 [some (vi b), some (vi e), some (vl l), none, some (vi z)] [] K N I 0 0 := by
    intro m
    induction m with
    | zero => intros; exfalso; omega
    | succ m ih =>
      intro g z l h0 h1 h2 h3
      refine x_iload dX5_power_5 rfl ?_
      refine x_iload_n dX5_power_7 rfl ?_
      refine x_icmp_ge 22 dX5_power_8 (by decide) (by unfold inr; omega) (by unfold inr; omega) (fun h_8 => ?_) (fun h_8 => ?_)
      · refine x_lload_n dX5_power_22 rfl ?_
        refine hret _ _ _ _ _ _ dX5_power_23 ?_
        obtain rfl : g = n := by omega
        exact ⟨rfl, rfl, rfl, h3⟩
      · refine x_lload_n dX5_power_11 rfl ?_
        refine x_iload_n dX5_power_12 rfl ?_
        refine x_i2l dX5_power_13 hb ?_
        refine x_lmul dX5_power_14 ?_
        refine x_lst2 dX5_power_15 ?_
        refine x_inc4 dX5_power_16 ?_
        refine x_goto 5 dX5_power_19 (by decide) ?_
        exact ih (g + 1) _ _ (by omega) (by omega) (by omega) (by rw [h3]; exact (Int.pow_succ b g).symm)
  refine x_lconst1 dX5_power_0 ?_
  refine x_lst2 dX5_power_1 ?_
  refine x_iconst dX5_power_2 ?_
  refine x_ist4 dX5_power_3 ?_
  exact lp (n + 1) 0 _ _ (by omega) (by omega) rfl (by simp)
theorem sp_lowest {a b p : Int} (U W : Nat) (ha : a = (U : Int)) (hb : b = (W : Int)) (hW : 0 < W) (hU : U < 2 ^ 62) (hW2 : W < 2 ^ 62) (hp : inr p) : SpL G mX5_lowest .long 0 0 0 0 [vl a, vl b, vi p] K N I (qI K N I ((if p = 0 then a else b) / (Nat.gcd U W : Int))) := by
  refine SpL.of (own := RX5) (cc := cX5_lowest) (L := [some (vl a), none, some (vl b), none, some (vi p), none, none, none, none, none, none]) (by decide) rfl rfl (Nat.le_of_ble_eq_true rfl) rfl (fun Fx hnm hret => ?_)
  have lp : ∀ (m : Nat) (h l : Nat) (zl zh : Int), h < 2 ^ 62 → h < m → zl = (l : Int) → zh = (h : Int) → 0 < l → l < 2 ^ 62 → Nat.gcd h l = Nat.gcd U W → XX G RX5 cX5_lowest (RmW 0 0 0 0) Fx 6 [some (vl a), none, some (vl b), none, some (vi p), some (vl zl), none, some (vl zh), none, none, none] [] K N I 0 0 := by
    intro m
    induction m with
    | zero => intros; exfalso; omega
    | succ m ih =>
      intro h l zl zh h0 h1 h2 h3 h4 h5 h6
      have lc := lc_b zh 0
      refine x_lload dX5_lowest_6 rfl ?_
      refine x_lconst0 dX5_lowest_8 ?_
      refine x_lcmp dX5_lowest_9 (by unfold inl; omega) (by unfold inl; omega) ?_
      refine x_if_eq 31 dX5_lowest_10 (by decide) (by unfold inr; split <;> (try split) <;> omega) (fun h_10 => ?_) (fun h_10 => ?_)
      · have hz : h = 0 := by
          rcases Nat.eq_zero_or_pos h with e | e
          · exact e
          · exfalso; have := lc.2.mpr (by omega); omega
        subst hz
        rw [Nat.gcd_zero_left] at h6
        refine x_iload dX5_lowest_31 rfl ?_
        refine x_if_ne 43 dX5_lowest_33 (by decide) hp (fun h_33 => ?_) (fun h_33 => ?_)
        · refine x_lload_n dX5_lowest_43 rfl ?_
          refine x_lload dX5_lowest_44 rfl ?_
          refine x_ldiv dX5_lowest_46 (by unfold inl; omega) (by unfold inl; omega) ?_
          refine hret _ _ _ _ _ _ dX5_lowest_47 ?_
          refine ⟨rfl, rfl, rfl, ?_⟩
          rw [← h6, h2]
          first
          | (rw [if_pos (by omega)]; done)
          | (rw [if_neg (by omega)]; done)
        · refine x_lload_n dX5_lowest_36 rfl ?_
          refine x_lload dX5_lowest_37 rfl ?_
          refine x_ldiv dX5_lowest_39 (by unfold inl; omega) (by unfold inl; omega) ?_
          refine x_goto 47 dX5_lowest_40 (by decide) ?_
          refine hret _ _ _ _ _ _ dX5_lowest_47 ?_
          refine ⟨rfl, rfl, rfl, ?_⟩
          rw [← h6, h2]
          first
          | (rw [if_pos (by omega)]; done)
          | (rw [if_neg (by omega)]; done)
      · have hh : 0 < h := by
          rcases Nat.eq_zero_or_pos h with e | e
          · exfalso
            rw [if_neg (by omega), if_pos (by omega)] at h_10
            exact absurd rfl h_10
          · exact e
        refine x_lload dX5_lowest_13 rfl ?_
        refine x_lload dX5_lowest_15 rfl ?_
        refine x_lrem dX5_lowest_17 (by unfold inl; omega) (by unfold inl; omega) ?_
        refine x_lst9 dX5_lowest_18 ?_
        refine x_lload dX5_lowest_20 rfl ?_
        refine x_lst5 dX5_lowest_22 ?_
        refine x_lload dX5_lowest_24 rfl ?_
        refine x_lst7 dX5_lowest_26 ?_
        refine x_goto 6 dX5_lowest_28 (by decide) ?_
        have e1 : zl % zh = ((l % h : Nat) : Int) := by rw [h2, h3]; rfl
        refine x_drl9 (ih (l % h) h _ _ (Nat.lt_trans (Nat.mod_lt l hh) h0) (Nat.lt_of_lt_of_le (Nat.mod_lt l hh) (by omega)) h3 e1 hh h0 ?_)
        rw [← h6, Nat.gcd_rec h l]
  refine x_lload_n dX5_lowest_0 rfl ?_
  refine x_lst5 dX5_lowest_1 ?_
  refine x_lload_n dX5_lowest_3 rfl ?_
  refine x_lst7 dX5_lowest_4 ?_
  exact lp (U + 1) U W _ _ hU (by omega) hb ha hW hW2 rfl
theorem sp_mfrost (hN : NS N) (hB : RM I n) {f v c d q : Int} (hf : inr f) (hv : inr v) (hc : inr c) (hd : inr d) (hq : inr q) : SpL G mX5_frost .long 3 69 0 0 [.ref 50, vi f, vi v, vi c, vi d, vi q] K N I (pI K N (fun z J => z = (if ¬ (0 ≤ f ∧ f < n) then -1000000000000000001 else if (0 ≤ v ∧ v ≤ 99) ∧ (0 ≤ c ∧ c ≤ 10) ∧ (0 ≤ d ∧ d ≤ 12) ∧ (0 ≤ q ∧ q ≤ 1) then frA v c d (tok (fm I) 0 (l0M I 0) f.toNat) (tok (fm I) 2 (l0M I 2) f.toNat) q else -1000000000000000002) ∧ kpM I J)) := by
  refine SpL.of (own := RX5) (cc := cX5_frost) (L := [some (.ref 50), some (vi f), some (vi v), some (vi c), some (vi d), some (vi q), none, none, none, none, none, none, none, none]) (by decide) rfl rfl (Nat.le_of_ble_eq_true rfl) rfl (fun Fx hnm hret => ?_)
  have hn9 := hB.2.2.1
  refine x_aload_n dX5_frost_0 rfl ?_
  refine x_iload_n dX5_frost_1 rfl ?_
  refine xf_VI1 dX5_frost_2 ml_RX5_92 vw_X5_isFarm vv_X5_isFarm rfl (sp_isFarm hB.1 hn9 hf) ⟨Nat.le_of_ble_eq_true rfl, Nat.le_of_ble_eq_true rfl, Nat.le_of_ble_eq_true rfl, Nat.le_of_ble_eq_true rfl, Nat.le_of_ble_eq_true rfl⟩ ?_
  refine x_if_ne 12 dX5_frost_5 (by decide) (by unfold inr; split <;> omega) (fun h_5 => ?_) (fun h_5 => ?_)
  · replace h_5 := b1 h_5
    refine x_iload_n dX5_frost_12 rfl ?_
    refine x_i2l dX5_frost_13 hv ?_
    refine x_lconst0 dX5_frost_14 ?_
    refine x_ldc2 dX5_frost_15 ct_RX5_104 ?_
    refine xf_SI3 dX5_frost_18 ml_RX5_86 vw_X5_in st_X5_in (sp_in (by unfold inl; unfold inr at hv; omega) (by unfold inl; omega) (by unfold inl; omega)) ⟨Nat.le_of_ble_eq_true rfl, Nat.le_of_ble_eq_true rfl, Nat.le_of_ble_eq_true rfl, Nat.le_of_ble_eq_true rfl, Nat.le_of_ble_eq_true rfl⟩ ?_
    refine x_if_eq 60 dX5_frost_21 (by decide) (by unfold inr; split <;> omega) (fun h_21 => ?_) (fun h_21 => ?_)
    · replace h_21 := b0 h_21
      refine x_ldc2 dX5_frost_60 ct_RX5_231 ?_
      refine hret _ _ _ _ _ _ dX5_frost_63 ?_
      refine ⟨rfl, rfl, ?_, kpM.rf⟩
      (repeat (first | rw [if_pos (by omega)] | rw [if_neg (by omega)]))
    · replace h_21 := b1 h_21
      refine x_iload_n dX5_frost_24 rfl ?_
      refine x_i2l dX5_frost_25 hc ?_
      refine x_lconst0 dX5_frost_26 ?_
      refine x_ldc2 dX5_frost_27 ct_RX5_227 ?_
      refine xf_SI3 dX5_frost_30 ml_RX5_86 vw_X5_in st_X5_in (sp_in (by unfold inl; unfold inr at hc; omega) (by unfold inl; omega) (by unfold inl; omega)) ⟨Nat.le_of_ble_eq_true rfl, Nat.le_of_ble_eq_true rfl, Nat.le_of_ble_eq_true rfl, Nat.le_of_ble_eq_true rfl, Nat.le_of_ble_eq_true rfl⟩ ?_
      refine x_if_eq 60 dX5_frost_33 (by decide) (by unfold inr; split <;> omega) (fun h_33 => ?_) (fun h_33 => ?_)
      · replace h_33 := b0 h_33
        refine x_ldc2 dX5_frost_60 ct_RX5_231 ?_
        refine hret _ _ _ _ _ _ dX5_frost_63 ?_
        refine ⟨rfl, rfl, ?_, kpM.rf⟩
        (repeat (first | rw [if_pos (by omega)] | rw [if_neg (by omega)]))
      · replace h_33 := b1 h_33
        refine x_iload dX5_frost_36 rfl ?_
        refine x_i2l dX5_frost_38 hd ?_
        refine x_lconst0 dX5_frost_39 ?_
        refine x_ldc2 dX5_frost_40 ct_RX5_229 ?_
        refine xf_SI3 dX5_frost_43 ml_RX5_86 vw_X5_in st_X5_in (sp_in (by unfold inl; unfold inr at hd; omega) (by unfold inl; omega) (by unfold inl; omega)) ⟨Nat.le_of_ble_eq_true rfl, Nat.le_of_ble_eq_true rfl, Nat.le_of_ble_eq_true rfl, Nat.le_of_ble_eq_true rfl, Nat.le_of_ble_eq_true rfl⟩ ?_
        refine x_if_eq 60 dX5_frost_46 (by decide) (by unfold inr; split <;> omega) (fun h_46 => ?_) (fun h_46 => ?_)
        · replace h_46 := b0 h_46
          refine x_ldc2 dX5_frost_60 ct_RX5_231 ?_
          refine hret _ _ _ _ _ _ dX5_frost_63 ?_
          refine ⟨rfl, rfl, ?_, kpM.rf⟩
          (repeat (first | rw [if_pos (by omega)] | rw [if_neg (by omega)]))
        · replace h_46 := b1 h_46
          refine x_iload dX5_frost_49 rfl ?_
          refine x_i2l dX5_frost_51 hq ?_
          refine x_lconst0 dX5_frost_52 ?_
          refine x_lconst1 dX5_frost_53 ?_
          refine xf_SI3 dX5_frost_54 ml_RX5_86 vw_X5_in st_X5_in (sp_in (by unfold inl; unfold inr at hq; omega) (by unfold inl; omega) (by unfold inl; omega)) ⟨Nat.le_of_ble_eq_true rfl, Nat.le_of_ble_eq_true rfl, Nat.le_of_ble_eq_true rfl, Nat.le_of_ble_eq_true rfl, Nat.le_of_ble_eq_true rfl⟩ ?_
          refine x_if_ne 64 dX5_frost_57 (by decide) (by unfold inr; split <;> omega) (fun h_57 => ?_) (fun h_57 => ?_)
          · replace h_57 := b1 h_57
            obtain ⟨i, rfl⟩ := toN (show 0 ≤ f by omega)
            obtain ⟨c, rfl⟩ := toN (show 0 ≤ c by omega)
            obtain ⟨d, rfl⟩ := toN (show 0 ≤ d by omega)
            refine x_aload_n dX5_frost_64 rfl ?_
            refine x_iconst dX5_frost_65 ?_
            refine xf_VV1 dX5_frost_66 ml_RX5_131 vw_X5_flow vv_X5_flow rfl (sp_mflow hN hB (by unfold inr; omega)) ⟨Nat.le_of_ble_eq_true rfl, Nat.le_of_ble_eq_true rfl, Nat.le_of_ble_eq_true rfl, Nat.le_of_ble_eq_true rfl, Nat.le_of_ble_eq_true rfl⟩ ?_
            have hk1 : kpM I (fmJ I 2 n) := kpM.rf.fl
            have hB1 := hk1.RM hB
            refine x_aload_n dX5_frost_69 rfl ?_
            refine x_getR (j := 57) dX5_frost_70 gf_RX5_28 rfl rfl (hN _ _ (by decide)) ?_
            refine x_iload_n dX5_frost_73 rfl ?_
            refine x_iald (i) dX5_frost_74 rfl (by omega) (show _ < 9 by omega) ?_
            rw [fmJ_t (by omega)]
            refine x_ist6 dX5_frost_75 ?_
            refine x_aload_n dX5_frost_77 rfl ?_
            refine x_iconst dX5_frost_78 ?_
            refine xf_VV1 dX5_frost_79 ml_RX5_131 vw_X5_flow vv_X5_flow rfl (sp_mflow hN hB1 (by unfold inr; omega)) ⟨Nat.le_of_ble_eq_true rfl, Nat.le_of_ble_eq_true rfl, Nat.le_of_ble_eq_true rfl, Nat.le_of_ble_eq_true rfl, Nat.le_of_ble_eq_true rfl⟩ ?_
            refine x_aload_n dX5_frost_82 rfl ?_
            refine x_getR (j := 57) dX5_frost_83 gf_RX5_28 rfl rfl (hN _ _ (by decide)) ?_
            refine x_iload_n dX5_frost_86 rfl ?_
            refine x_iald (i) dX5_frost_87 rfl (by omega) (show _ < 9 by omega) ?_
            rw [fmJ_t (by omega), hk1.fm, hk1.l0]
            refine x_ist7 dX5_frost_88 ?_
            refine x_lconst0 dX5_frost_90 ?_
            refine x_lst8 dX5_frost_91 ?_
            refine x_lconst1 dX5_frost_93 ?_
            refine x_lst10 dX5_frost_94 ?_
            refine x_iconst dX5_frost_96 ?_
            refine x_ist12 dX5_frost_97 ?_
            have bA := hB.tokb (kn := 0) (show i < n by omega)
            have bT := hB.tokb (kn := 2) (show i < n by omega)
            have hk : kpM I (fmJ (fmJ I 2 n) 0 n) := hk1.fl
            generalize hJ : fmJ (fmJ I 2 n) 0 n = J at hk ⊢
            rw [show ((i : Nat) : Int).toNat = i from rfl] at hret
            generalize tok (fm I) 0 (l0M I 0) i = a at *
            generalize tok (fm I) 2 (l0M I 2) i = b at *
            have lp : ∀ (m : Nat) (k : Nat) (z u y : Int), k ≤ d + 1 → d + 1 < k + m → z = (k : Int) → u = frS v c d a b k → y = wyF d k → XX G RX5 cX5_frost (RmW 3 69 0 0) Fx 99 [some (.ref 50), some (vi i), some (vi v), some (vi c), some (vi d), some (vi q), some (vi b), some (vi a), some (vl u), none, some (vl y), none, some (vi z), none] [] K N J 0 0 := by
              intro m
              induction m with
              | zero => intros; exfalso; omega
              | succ m ih =>
                intro k z u y h0 h1 h2 h3 h4
                have hw : k ≤ d → _ := fun hk => wy_all d (by omega) k (by omega)
                have hS := frS_b (v := v) (a := a) (b := b) (c := c) (m := d) (by omega) (by omega) k (by omega)
                refine x_iload dX5_frost_99 rfl ?_
                refine x_iload dX5_frost_101 rfl ?_
                refine x_icmp_gt 190 dX5_frost_103 (by decide) (by unfold inr; omega) (by unfold inr; omega) (fun h_103 => ?_) (fun h_103 => ?_)
                · obtain rfl : k = d + 1 := by omega
                  have hpw : 10 ^ d ≤ 10 ^ 12 := Nat.pow_le_pow_right (by decide) (by omega)
                  have hp : ((10 : Int) ^ d) = ((10 ^ d : Nat) : Int) := by rw [Int.natCast_pow]; rfl
                  refine x_lload dX5_frost_190 rfl ?_
                  refine x_bipush dX5_frost_192 (by decide) ?_
                  refine x_iload dX5_frost_194 rfl ?_
                  refine xf_SL2 dX5_frost_196 ml_RX5_233 vw_X5_power st_X5_power (sp_mpower (by unfold inr; omega) d rfl (by omega)) ⟨Nat.le_of_ble_eq_true rfl, Nat.le_of_ble_eq_true rfl, Nat.le_of_ble_eq_true rfl, Nat.le_of_ble_eq_true rfl, Nat.le_of_ble_eq_true rfl⟩ ?_
                  refine x_iload dX5_frost_199 rfl ?_
                  refine xf_SL3 dX5_frost_201 ml_RX5_237 vw_X5_lowest st_X5_lowest (sp_lowest u.toNat (10 ^ d) (by omega) (by rw [Int.natCast_pow]; rfl) (Nat.pow_pos (by decide)) (by omega) (by omega) hq) ⟨Nat.le_of_ble_eq_true rfl, Nat.le_of_ble_eq_true rfl, Nat.le_of_ble_eq_true rfl, Nat.le_of_ble_eq_true rfl, Nat.le_of_ble_eq_true rfl⟩ ?_
                  refine hret _ _ _ _ _ _ dX5_frost_204 ?_
                  refine ⟨rfl, rfl, ?_, hk⟩
                  refine Eq.trans ?_ ((if_neg (by omega)).trans (if_pos (by omega))).symm
                  unfold frA
                  rw [show (d : Int).toNat = d from rfl, ← h3]
                · have m1 := mul_b (m := z) (t := b) (M := 12) (by omega) (by omega) bT.1 bT.2
                  have m2 := mul_b (m := (d : Int) - z) (t := a) (M := 12) (by omega) (by omega) bA.1 bA.2
                  refine x_iload dX5_frost_106 rfl ?_
                  refine x_iload dX5_frost_108 rfl ?_
                  refine x_imul dX5_frost_110 ?_
                  refine x_iload dX5_frost_111 rfl ?_
                  refine x_iload dX5_frost_113 rfl ?_
                  refine x_isub dX5_frost_115 ?_
                  refine x_iload dX5_frost_116 rfl ?_
                  refine x_imul dX5_frost_118 ?_
                  refine x_iadd dX5_frost_119 ?_
                  refine x_iload_n dX5_frost_120 rfl ?_
                  refine x_icmp_lt 128 dX5_frost_121 (by decide) (by have := m1; have := m2; unfold inr; omega) (by unfold inr; omega) (fun h_121 => ?_) (fun h_121 => ?_)
                  · refine x_iconst dX5_frost_128 ?_
                    refine x_ist13 dX5_frost_129 ?_
                    refine x_lload dX5_frost_131 rfl ?_
                    refine x_iload dX5_frost_133 rfl ?_
                    refine x_if_eq 163 dX5_frost_135 (by decide) (by unfold inr; omega) (fun h_135 => ?_) (fun h_135 => ?_)
                    · refine x_lconst0 dX5_frost_163 ?_
                      refine x_ladd dX5_frost_164 ?_
                      refine x_lst8 dX5_frost_165 ?_
                      have hw2 := hw (by omega)
                      have m3 := mul_b (m := y) (t := (d : Int) - z) (M := 1000) (T := 12) (by rw [h4]; exact hw2.1) (by rw [h4]; exact hw2.2) (by omega) (by omega)
                      refine x_lload dX5_frost_167 rfl ?_
                      refine x_iload dX5_frost_169 rfl ?_
                      refine x_iload dX5_frost_171 rfl ?_
                      refine x_isub dX5_frost_173 ?_
                      refine x_i2l dX5_frost_174 (by unfold inr; omega) ?_
                      refine x_lmul dX5_frost_175 ?_
                      refine x_iload dX5_frost_176 rfl ?_
                      refine x_iconst dX5_frost_178 ?_
                      refine x_iadd dX5_frost_179 ?_
                      refine x_i2l dX5_frost_180 (by unfold inr; omega) ?_
                      refine x_ldiv dX5_frost_181 (by have := m3; unfold inl; omega) (by unfold inl; omega) ?_
                      refine x_lst10 dX5_frost_182 ?_
                      refine x_inc12 dX5_frost_184 ?_
                      refine x_goto 99 dX5_frost_187 (by decide) ?_
                      first
                      | (exfalso; omega)
                      | (refine x_dr13 (ih (k + 1) _ _ _ (by omega) (by omega) (by omega) ?_ ?_)
                         · show _ = (if v ≤ (k : Int) * b + ((d : Int) - k) * a then frS v c d a b k + wyF d k * (c : Int) ^ k * (10 - (c : Int)) ^ ((d : Int) - k).toNat else frS v c d a b k)
                           rw [h2] at h_121
                           first
                           | (rw [if_pos (by omega), h3, h4]; done)
                           | (rw [if_neg (by omega), h3, Int.add_zero]; done)
                         · show _ = wyF d k * ((d : Int) - k) / ((k : Int) + 1)
                           rw [h4, h2])
                    · refine x_lload dX5_frost_138 rfl ?_
                      refine x_iload_n dX5_frost_140 rfl ?_
                      refine x_iload dX5_frost_141 rfl ?_
                      refine xf_SL2 dX5_frost_143 ml_RX5_233 vw_X5_power st_X5_power (sp_mpower (by unfold inr; omega) k h2 (by omega)) ⟨Nat.le_of_ble_eq_true rfl, Nat.le_of_ble_eq_true rfl, Nat.le_of_ble_eq_true rfl, Nat.le_of_ble_eq_true rfl, Nat.le_of_ble_eq_true rfl⟩ ?_
                      refine x_lmul dX5_frost_146 ?_
                      refine x_bipush dX5_frost_147 (by decide) ?_
                      refine x_iload_n dX5_frost_149 rfl ?_
                      refine x_isub dX5_frost_150 ?_
                      refine x_iload dX5_frost_151 rfl ?_
                      refine x_iload dX5_frost_153 rfl ?_
                      refine x_isub dX5_frost_155 ?_
                      refine xf_SL2 dX5_frost_156 ml_RX5_233 vw_X5_power st_X5_power (sp_mpower (by unfold inr; omega) ((d : Int) - k).toNat (by omega) (by omega)) ⟨Nat.le_of_ble_eq_true rfl, Nat.le_of_ble_eq_true rfl, Nat.le_of_ble_eq_true rfl, Nat.le_of_ble_eq_true rfl, Nat.le_of_ble_eq_true rfl⟩ ?_
                      refine x_lmul dX5_frost_159 ?_
                      refine x_goto 164 dX5_frost_160 (by decide) ?_
                      refine x_ladd dX5_frost_164 ?_
                      refine x_lst8 dX5_frost_165 ?_
                      have hw2 := hw (by omega)
                      have m3 := mul_b (m := y) (t := (d : Int) - z) (M := 1000) (T := 12) (by rw [h4]; exact hw2.1) (by rw [h4]; exact hw2.2) (by omega) (by omega)
                      refine x_lload dX5_frost_167 rfl ?_
                      refine x_iload dX5_frost_169 rfl ?_
                      refine x_iload dX5_frost_171 rfl ?_
                      refine x_isub dX5_frost_173 ?_
                      refine x_i2l dX5_frost_174 (by unfold inr; omega) ?_
                      refine x_lmul dX5_frost_175 ?_
                      refine x_iload dX5_frost_176 rfl ?_
                      refine x_iconst dX5_frost_178 ?_
                      refine x_iadd dX5_frost_179 ?_
                      refine x_i2l dX5_frost_180 (by unfold inr; omega) ?_
                      refine x_ldiv dX5_frost_181 (by have := m3; unfold inl; omega) (by unfold inl; omega) ?_
                      refine x_lst10 dX5_frost_182 ?_
                      refine x_inc12 dX5_frost_184 ?_
                      refine x_goto 99 dX5_frost_187 (by decide) ?_
                      first
                      | (exfalso; omega)
                      | (refine x_dr13 (ih (k + 1) _ _ _ (by omega) (by omega) (by omega) ?_ ?_)
                         · show _ = (if v ≤ (k : Int) * b + ((d : Int) - k) * a then frS v c d a b k + wyF d k * (c : Int) ^ k * (10 - (c : Int)) ^ ((d : Int) - k).toNat else frS v c d a b k)
                           rw [h2] at h_121
                           first
                           | (rw [if_pos (by omega), h3, h4]; done)
                           | (rw [if_neg (by omega), h3, Int.add_zero]; done)
                         · show _ = wyF d k * ((d : Int) - k) / ((k : Int) + 1)
                           rw [h4, h2])
                  · refine x_iconst dX5_frost_124 ?_
                    refine x_goto 129 dX5_frost_125 (by decide) ?_
                    refine x_ist13 dX5_frost_129 ?_
                    refine x_lload dX5_frost_131 rfl ?_
                    refine x_iload dX5_frost_133 rfl ?_
                    refine x_if_eq 163 dX5_frost_135 (by decide) (by unfold inr; omega) (fun h_135 => ?_) (fun h_135 => ?_)
                    · refine x_lconst0 dX5_frost_163 ?_
                      refine x_ladd dX5_frost_164 ?_
                      refine x_lst8 dX5_frost_165 ?_
                      have hw2 := hw (by omega)
                      have m3 := mul_b (m := y) (t := (d : Int) - z) (M := 1000) (T := 12) (by rw [h4]; exact hw2.1) (by rw [h4]; exact hw2.2) (by omega) (by omega)
                      refine x_lload dX5_frost_167 rfl ?_
                      refine x_iload dX5_frost_169 rfl ?_
                      refine x_iload dX5_frost_171 rfl ?_
                      refine x_isub dX5_frost_173 ?_
                      refine x_i2l dX5_frost_174 (by unfold inr; omega) ?_
                      refine x_lmul dX5_frost_175 ?_
                      refine x_iload dX5_frost_176 rfl ?_
                      refine x_iconst dX5_frost_178 ?_
                      refine x_iadd dX5_frost_179 ?_
                      refine x_i2l dX5_frost_180 (by unfold inr; omega) ?_
                      refine x_ldiv dX5_frost_181 (by have := m3; unfold inl; omega) (by unfold inl; omega) ?_
                      refine x_lst10 dX5_frost_182 ?_
                      refine x_inc12 dX5_frost_184 ?_
                      refine x_goto 99 dX5_frost_187 (by decide) ?_
                      first
                      | (exfalso; omega)
                      | (refine x_dr13 (ih (k + 1) _ _ _ (by omega) (by omega) (by omega) ?_ ?_)
                         · show _ = (if v ≤ (k : Int) * b + ((d : Int) - k) * a then frS v c d a b k + wyF d k * (c : Int) ^ k * (10 - (c : Int)) ^ ((d : Int) - k).toNat else frS v c d a b k)
                           rw [h2] at h_121
                           first
                           | (rw [if_pos (by omega), h3, h4]; done)
                           | (rw [if_neg (by omega), h3, Int.add_zero]; done)
                         · show _ = wyF d k * ((d : Int) - k) / ((k : Int) + 1)
                           rw [h4, h2])
                    · refine x_lload dX5_frost_138 rfl ?_
                      refine x_iload_n dX5_frost_140 rfl ?_
                      refine x_iload dX5_frost_141 rfl ?_
                      refine xf_SL2 dX5_frost_143 ml_RX5_233 vw_X5_power st_X5_power (sp_mpower (by unfold inr; omega) k h2 (by omega)) ⟨Nat.le_of_ble_eq_true rfl, Nat.le_of_ble_eq_true rfl, Nat.le_of_ble_eq_true rfl, Nat.le_of_ble_eq_true rfl, Nat.le_of_ble_eq_true rfl⟩ ?_
                      refine x_lmul dX5_frost_146 ?_
                      refine x_bipush dX5_frost_147 (by decide) ?_
                      refine x_iload_n dX5_frost_149 rfl ?_
                      refine x_isub dX5_frost_150 ?_
                      refine x_iload dX5_frost_151 rfl ?_
                      refine x_iload dX5_frost_153 rfl ?_
                      refine x_isub dX5_frost_155 ?_
                      refine xf_SL2 dX5_frost_156 ml_RX5_233 vw_X5_power st_X5_power (sp_mpower (by unfold inr; omega) ((d : Int) - k).toNat (by omega) (by omega)) ⟨Nat.le_of_ble_eq_true rfl, Nat.le_of_ble_eq_true rfl, Nat.le_of_ble_eq_true rfl, Nat.le_of_ble_eq_true rfl, Nat.le_of_ble_eq_true rfl⟩ ?_
                      refine x_lmul dX5_frost_159 ?_
                      refine x_goto 164 dX5_frost_160 (by decide) ?_
                      refine x_ladd dX5_frost_164 ?_
                      refine x_lst8 dX5_frost_165 ?_
                      have hw2 := hw (by omega)
                      have m3 := mul_b (m := y) (t := (d : Int) - z) (M := 1000) (T := 12) (by rw [h4]; exact hw2.1) (by rw [h4]; exact hw2.2) (by omega) (by omega)
                      refine x_lload dX5_frost_167 rfl ?_
                      refine x_iload dX5_frost_169 rfl ?_
                      refine x_iload dX5_frost_171 rfl ?_
                      refine x_isub dX5_frost_173 ?_
                      refine x_i2l dX5_frost_174 (by unfold inr; omega) ?_
                      refine x_lmul dX5_frost_175 ?_
                      refine x_iload dX5_frost_176 rfl ?_
                      refine x_iconst dX5_frost_178 ?_
                      refine x_iadd dX5_frost_179 ?_
                      refine x_i2l dX5_frost_180 (by unfold inr; omega) ?_
                      refine x_ldiv dX5_frost_181 (by have := m3; unfold inl; omega) (by unfold inl; omega) ?_
                      refine x_lst10 dX5_frost_182 ?_
                      refine x_inc12 dX5_frost_184 ?_
                      refine x_goto 99 dX5_frost_187 (by decide) ?_
                      first
                      | (exfalso; omega)
                      | (refine x_dr13 (ih (k + 1) _ _ _ (by omega) (by omega) (by omega) ?_ ?_)
                         · show _ = (if v ≤ (k : Int) * b + ((d : Int) - k) * a then frS v c d a b k + wyF d k * (c : Int) ^ k * (10 - (c : Int)) ^ ((d : Int) - k).toNat else frS v c d a b k)
                           rw [h2] at h_121
                           first
                           | (rw [if_pos (by omega), h3, h4]; done)
                           | (rw [if_neg (by omega), h3, Int.add_zero]; done)
                         · show _ = wyF d k * ((d : Int) - k) / ((k : Int) + 1)
                           rw [h4, h2])
            exact lp (d + 2) 0 _ _ _ (by omega) (by omega) rfl rfl rfl
          · replace h_57 := b0 h_57
            refine x_ldc2 dX5_frost_60 ct_RX5_231 ?_
            refine hret _ _ _ _ _ _ dX5_frost_63 ?_
            refine ⟨rfl, rfl, ?_, kpM.rf⟩
            (repeat (first | rw [if_pos (by omega)] | rw [if_neg (by omega)]))
  · replace h_5 := b0 h_5
    refine x_ldc2 dX5_frost_8 ct_RX5_225 ?_
    refine hret _ _ _ _ _ _ dX5_frost_11 ?_
    refine ⟨rfl, rfl, ?_, kpM.rf⟩
    (repeat (first | rw [if_pos (by omega)] | rw [if_neg (by omega)]))
theorem sp_kindBy {x : Int} (hx : inr x) (h0 : 0 ≤ x) : SpI G mX5_kindBy .int 0 0 0 0 [vi x] K N I (qI K N I (kdD x)) := by
  refine SpI.of (own := RX5) (cc := cX5_kindBy) (L := [some (vi x)]) (by decide) rfl rfl (Nat.le_of_ble_eq_true rfl) rfl (fun Fx hnm hret => ?_)
  refine x_iload_n dX5_kindBy_0 rfl ?_
  refine x_if_ne 8 dX5_kindBy_1 (by decide) hx (fun h_1 => ?_) (fun h_1 => ?_)
  · refine x_iload_n dX5_kindBy_8 rfl ?_
    refine x_iconst dX5_kindBy_9 ?_
    refine x_icmp_ge 17 dX5_kindBy_10 (by decide) hx (by unfold inr; omega) (fun h_10 => ?_) (fun h_10 => ?_)
    · refine x_iload_n dX5_kindBy_17 rfl ?_
      refine x_iconst dX5_kindBy_18 ?_
      refine x_icmp_ne 26 dX5_kindBy_19 (by decide) hx (by unfold inr; omega) (fun h_19 => ?_) (fun h_19 => ?_)
      · refine x_iconst dX5_kindBy_26 ?_
        refine hret _ _ _ _ _ _ dX5_kindBy_27 rfl ?_
        refine ⟨rfl, rfl, rfl, ?_⟩
        unfold kdD
        (repeat (first | rw [if_pos (by omega)] | rw [if_neg (by omega)]))
      · refine x_iconst dX5_kindBy_22 ?_
        refine x_goto 27 dX5_kindBy_23 (by decide) ?_
        refine hret _ _ _ _ _ _ dX5_kindBy_27 rfl ?_
        refine ⟨rfl, rfl, rfl, ?_⟩
        unfold kdD
        (repeat (first | rw [if_pos (by omega)] | rw [if_neg (by omega)]))
    · refine x_iconst dX5_kindBy_13 ?_
      refine x_goto 27 dX5_kindBy_14 (by decide) ?_
      refine hret _ _ _ _ _ _ dX5_kindBy_27 rfl ?_
      refine ⟨rfl, rfl, rfl, ?_⟩
      unfold kdD
      (repeat (first | rw [if_pos (by omega)] | rw [if_neg (by omega)]))
  · refine x_iconst dX5_kindBy_4 ?_
    refine x_goto 27 dX5_kindBy_5 (by decide) ?_
    refine hret _ _ _ _ _ _ dX5_kindBy_27 rfl ?_
    refine ⟨rfl, rfl, rfl, ?_⟩
    unfold kdD
    (repeat (first | rw [if_pos (by omega)] | rw [if_neg (by omega)]))
theorem sp_myear (hN : NS N) (hB : RM I n) {s d k : Int} (hs : inr s) (hd : inr d) (hk : inr k) : SpI G mX5_year .int 3 69 0 0 [.ref 50, vi s, vi d, vi k] K N I (pI K N (fun z J => z = (if (0 ≤ s ∧ s ≤ 9999) ∧ (1 ≤ d ∧ d ≤ 99) ∧ (0 ≤ k ∧ k ≤ 2) then (if k = 0 then yrP (fm I) (l0M I) n s d.toNat else if k = 1 then yrL (fm I) (l0M I) n s d.toNat else yrE (fm I) (l0M I) n s d.toNat) else -2) ∧ kpM I J)) := by
  refine SpI.of (own := RX5) (cc := cX5_year) (L := [some (.ref 50), some (vi s), some (vi d), some (vi k), none, none, none, none, none, none, none]) (by decide) rfl rfl (Nat.le_of_ble_eq_true rfl) rfl (fun Fx hnm hret => ?_)
  have hn9 := hB.2.2.1
  have lp : ∀ (m : Nat) (g : Nat) (z x p l e : Int) (J : MM), (g : Int) ≤ d → d < g + m → z = (g : Int) → (0 ≤ s ∧ s ≤ 9999) → (1 ≤ d ∧ d ≤ 99) → (0 ≤ k ∧ k ≤ 2) → p = yrP (fm I) (l0M I) n s g → l = yrL (fm I) (l0M I) n s g → e = yrE (fm I) (l0M I) n s g → x = yrX s g → (0 ≤ x ∧ x < 65537) → kpM I J → XX G RX5 cX5_year (RmW 3 69 0 0) Fx 54 [some (.ref 50), some (vi s), some (vi d), some (vi k), some (vi x), some (vi p), some (vi l), some (vi e), some (vi z), none, none] [] K N J 0 0 := by
    intro m
    induction m with
    | zero => intros; exfalso; omega
    | succ m ih =>
      intro g z x p l e J h0 h1 h2 q1 q2 q3 h3 h4 h5 h6 h7 h8
      have hBJ := h8.RM hB
      refine x_iload dX5_year_54 rfl ?_
      refine x_iload_n dX5_year_56 rfl ?_
      refine x_icmp_ge 165 dX5_year_57 (by decide) (by unfold inr; omega) hd (fun h_57 => ?_) (fun h_57 => ?_)
      · refine x_iload_n dX5_year_165 rfl ?_
        refine x_if_ne 174 dX5_year_166 (by decide) hk (fun h_166 => ?_) (fun h_166 => ?_)
        · refine x_iload_n dX5_year_174 rfl ?_
          refine x_iconst dX5_year_175 ?_
          refine x_icmp_ne 184 dX5_year_176 (by decide) hk (by unfold inr; omega) (fun h_176 => ?_) (fun h_176 => ?_)
          · refine x_iload dX5_year_184 rfl ?_
            refine hret _ _ _ _ _ _ dX5_year_186 rfl ?_
            obtain rfl : d = (g : Int) := by omega
            refine ⟨rfl, rfl, ?_, h8⟩
            rw [if_pos ⟨q1, q2, q3⟩]
            (repeat (first | rw [if_pos (by omega)] | rw [if_neg (by omega)]))
            first | exact h3 | exact h4 | exact h5
          · refine x_iload dX5_year_179 rfl ?_
            refine x_goto 186 dX5_year_181 (by decide) ?_
            refine hret _ _ _ _ _ _ dX5_year_186 rfl ?_
            obtain rfl : d = (g : Int) := by omega
            refine ⟨rfl, rfl, ?_, h8⟩
            rw [if_pos ⟨q1, q2, q3⟩]
            (repeat (first | rw [if_pos (by omega)] | rw [if_neg (by omega)]))
            first | exact h3 | exact h4 | exact h5
        · refine x_iload dX5_year_169 rfl ?_
          refine x_goto 186 dX5_year_171 (by decide) ?_
          refine hret _ _ _ _ _ _ dX5_year_186 rfl ?_
          obtain rfl : d = (g : Int) := by omega
          refine ⟨rfl, rfl, ?_, h8⟩
          rw [if_pos ⟨q1, q2, q3⟩]
          (repeat (first | rw [if_pos (by omega)] | rw [if_neg (by omega)]))
          first | exact h3 | exact h4 | exact h5
      · refine x_ldc2 dX5_year_60 ct_RX5_243 ?_
        refine x_iload dX5_year_63 rfl ?_
        refine x_i2l dX5_year_65 (by unfold inr; omega) ?_
        refine x_lmul dX5_year_66 ?_
        refine x_ldc2 dX5_year_67 ct_RX5_245 ?_
        refine x_ladd dX5_year_70 ?_
        refine x_ldc2 dX5_year_71 ct_RX5_247 ?_
        refine x_lrem dX5_year_74 (by unfold inl; omega) (by unfold inl; omega) ?_
        refine x_l2i dX5_year_75 ?_
        refine x_ist4 dX5_year_76 ?_
        refine x_aload_n dX5_year_78 rfl ?_
        refine x_iload dX5_year_79 rfl ?_
        refine x_bipush dX5_year_81 (by decide) ?_
        refine x_irem dX5_year_83 (by unfold inr; omega) (by unfold inr; omega) ?_
        refine xf_SI1 dX5_year_84 ml_RX5_249 vw_X5_kindBy st_X5_kindBy (sp_kindBy (by unfold inr; omega) (by omega)) ⟨Nat.le_of_ble_eq_true rfl, Nat.le_of_ble_eq_true rfl, Nat.le_of_ble_eq_true rfl, Nat.le_of_ble_eq_true rfl, Nat.le_of_ble_eq_true rfl⟩ ?_
        refine xf_VV1 dX5_year_87 ml_RX5_131 vw_X5_flow vv_X5_flow rfl (sp_mflow hN hBJ (by have := kdD_b ((75 * x + 74) % 65537 % 10); unfold inr; omega)) ⟨Nat.le_of_ble_eq_true rfl, Nat.le_of_ble_eq_true rfl, Nat.le_of_ble_eq_true rfl, Nat.le_of_ble_eq_true rfl, Nat.le_of_ble_eq_true rfl⟩ ?_
        have ex : (75 * x + 74) % 65537 = yrX s (g + 1) := by rw [h6]; rfl
        rw [ex]
        rw [show kdD (yrX s (g + 1) % 10) = yrK s g from rfl]
        have hk2 : kpM I (fmJ J (yrK s g) n) := h8.fl
        have hBn := hk2.RM hB
        obtain ⟨T, hT0⟩ : ∃ T, T = tok (fm I) (yrK s g) (l0M I (yrK s g)) := ⟨_, rfl⟩
        have hT : ∀ a, a < n → fmJ J (yrK s g) n 57 a = T a := fun a ha => by rw [fmJ_t ha, h8.fm, h8.l0, hT0]
        have hTb : ∀ a, a < n → 0 ≤ T a ∧ T a ≤ 9 := fun a ha => by rw [hT0]; exact hB.tokb ha
        have hLv : fmJ J (yrK s g) n 50 16 = lva (fm I) (yrK s g) (l0M I (yrK s g)) n := by rw [fmJ_l, h8.fm, h8.l0]
        generalize fmJ J (yrK s g) n = J2 at *
        refine x_iconst dX5_year_90 ?_
        refine x_ist9 dX5_year_91 ?_
        refine x_iconst dX5_year_93 ?_
        refine x_ist10 dX5_year_94 ?_
        have lp : ∀ (m2 : Nat) (u : Nat) (y w a : Int), u ≤ n → n < u + m2 → y = (u : Int) → w = p + sumN T u → a = anyZ T u → XX G RX5 cX5_year (RmW 3 69 0 0) Fx 96 [some (.ref 50), some (vi s), some (vi d), some (vi k), some (vi (yrX s (g + 1))), some (vi w), some (vi l), some (vi e), some (vi z), some (vi a), some (vi y)] [] K N J2 0 0 := by
          intro m2
          induction m2 with
          | zero => intros; exfalso; omega
          | succ m2 ih2 =>
            intro u y w a g0 g1 g2 g3 g4
            have ha1 := anyZ_01 (a := T) u
            rw [← g4] at ha1
            have hz1 : anyZ T (u + 1) = (if anyZ T u = 1 ∨ T u = 0 then 1 else 0) := rfl
            have hs1 : sumN T (u + 1) = sumN T u + T u := rfl
            refine x_iload dX5_year_96 rfl ?_
            refine x_aload_n dX5_year_98 rfl ?_
            refine x_getI dX5_year_99 gf_RX5_73 rfl rfl ?_
            rw [hBn.1]
            refine x_icmp_ge 143 dX5_year_102 (by decide) (by unfold inr; omega) (by unfold inr; omega) (fun h_102 => ?_) (fun h_102 => ?_)
            · refine x_iload dX5_year_143 rfl ?_
              refine x_aload_n dX5_year_145 rfl ?_
              refine x_getI dX5_year_146 gf_RX5_128 rfl rfl ?_
              refine x_iadd dX5_year_149 ?_
              refine x_ist6 dX5_year_150 ?_
              refine x_iload dX5_year_152 rfl ?_
              refine x_iload dX5_year_154 rfl ?_
              refine x_iadd dX5_year_156 ?_
              refine x_ist7 dX5_year_157 ?_
              refine x_inc8 dX5_year_159 ?_
              refine x_goto 54 dX5_year_162 (by decide) ?_
              obtain rfl : u = n := by omega
              refine x_dr9 (x_dr10 (ih (g + 1) _ _ _ _ _ _ (by omega) (by omega) (by omega) q1 q2 q3 ?_ ?_ ?_ rfl ?_ hk2))
              · rw [g3, h3, hT0]; rfl
              · rw [hLv, h4]; rfl
              · show _ = yrE (fm I) (l0M I) u s g + (if anyZ (tok (fm I) (yrK s g) (l0M I (yrK s g))) u = 1 then 1 else 0)
                rw [h5, ← hT0, ← g4]
                rcases ha1 with e | e
                · rw [e, if_neg (by decide)]
                · rw [e, if_pos rfl]
              · rw [← ex]; omega
            · refine x_iload dX5_year_105 rfl ?_
              refine x_aload_n dX5_year_107 rfl ?_
              refine x_getR (j := 57) dX5_year_108 gf_RX5_28 rfl rfl (hN _ _ (by decide)) ?_
              refine x_iload dX5_year_111 rfl ?_
              refine x_iald (u) dX5_year_113 rfl g2 (show _ < 9 by omega) ?_
              rw [hT u (by omega)]
              have tb := hTb u (by omega)
              refine x_iadd dX5_year_114 ?_
              refine x_ist5 dX5_year_115 ?_
              refine x_iload dX5_year_117 rfl ?_
              refine x_aload_n dX5_year_119 rfl ?_
              refine x_getR (j := 57) dX5_year_120 gf_RX5_28 rfl rfl (hN _ _ (by decide)) ?_
              refine x_iload dX5_year_123 rfl ?_
              refine x_iald (u) dX5_year_125 rfl g2 (show _ < 9 by omega) ?_
              rw [hT u (by omega)]
              refine x_if_ne 133 dX5_year_126 (by decide) (by unfold inr; omega) (fun h_126 => ?_) (fun h_126 => ?_)
              · refine x_iconst dX5_year_133 ?_
                (first | refine x_ior 1 dX5_year_134 (or_1 ha1) ?_ | refine x_ior a dX5_year_134 (or_0 ha1) ?_)
                refine x_ist9 dX5_year_135 ?_
                refine x_inc10 dX5_year_137 ?_
                refine x_goto 96 dX5_year_140 (by decide) ?_
                first
                | (rw [if_pos (Or.inr (by omega))] at hz1
                   refine ih2 (u + 1) _ _ _ (by omega) (by omega) (by omega) ?_ hz1.symm
                   rw [g3, hs1]; omega)
                | (rw [show (if anyZ T u = 1 ∨ T u = 0 then (1 : Int) else 0) = a by rw [← g4]; rcases ha1 with e | e <;> rw [e] <;> first | (rw [if_neg (by omega)]; done) | (rw [if_pos (by omega)]; done)] at hz1
                   refine ih2 (u + 1) _ _ _ (by omega) (by omega) (by omega) ?_ hz1.symm
                   rw [g3, hs1]; omega)
              · refine x_iconst dX5_year_129 ?_
                refine x_goto 134 dX5_year_130 (by decide) ?_
                (first | refine x_ior 1 dX5_year_134 (or_1 ha1) ?_ | refine x_ior a dX5_year_134 (or_0 ha1) ?_)
                refine x_ist9 dX5_year_135 ?_
                refine x_inc10 dX5_year_137 ?_
                refine x_goto 96 dX5_year_140 (by decide) ?_
                first
                | (rw [if_pos (Or.inr (by omega))] at hz1
                   refine ih2 (u + 1) _ _ _ (by omega) (by omega) (by omega) ?_ hz1.symm
                   rw [g3, hs1]; omega)
                | (rw [show (if anyZ T u = 1 ∨ T u = 0 then (1 : Int) else 0) = a by rw [← g4]; rcases ha1 with e | e <;> rw [e] <;> first | (rw [if_neg (by omega)]; done) | (rw [if_pos (by omega)]; done)] at hz1
                   refine ih2 (u + 1) _ _ _ (by omega) (by omega) (by omega) ?_ hz1.symm
                   rw [g3, hs1]; omega)
        exact lp (n + 1) 0 _ _ _ (by omega) (by omega) rfl (by simp [sumN]) rfl
  refine x_iload_n dX5_year_0 rfl ?_
  refine x_i2l dX5_year_1 hs ?_
  refine x_lconst0 dX5_year_2 ?_
  refine x_ldc2 dX5_year_3 ct_RX5_241 ?_
  refine xf_SI3 dX5_year_6 ml_RX5_86 vw_X5_in st_X5_in (sp_in (by unfold inl; unfold inr at hs; omega) (by unfold inl; omega) (by unfold inl; omega)) ⟨Nat.le_of_ble_eq_true rfl, Nat.le_of_ble_eq_true rfl, Nat.le_of_ble_eq_true rfl, Nat.le_of_ble_eq_true rfl, Nat.le_of_ble_eq_true rfl⟩ ?_
  refine x_if_eq 36 dX5_year_9 (by decide) (by unfold inr; split <;> omega) (fun h_9 => ?_) (fun h_9 => ?_)
  · replace h_9 := b0 h_9
    refine x_bipush dX5_year_36 (by decide) ?_
    refine hret _ _ _ _ _ _ dX5_year_38 rfl ?_
    refine ⟨rfl, rfl, ?_, kpM.rf⟩
    (repeat (first | rw [if_pos (by omega)] | rw [if_neg (by omega)]))
  · replace h_9 := b1 h_9
    refine x_iload_n dX5_year_12 rfl ?_
    refine x_i2l dX5_year_13 hd ?_
    refine x_lconst1 dX5_year_14 ?_
    refine x_ldc2 dX5_year_15 ct_RX5_104 ?_
    refine xf_SI3 dX5_year_18 ml_RX5_86 vw_X5_in st_X5_in (sp_in (by unfold inl; unfold inr at hd; omega) (by unfold inl; omega) (by unfold inl; omega)) ⟨Nat.le_of_ble_eq_true rfl, Nat.le_of_ble_eq_true rfl, Nat.le_of_ble_eq_true rfl, Nat.le_of_ble_eq_true rfl, Nat.le_of_ble_eq_true rfl⟩ ?_
    refine x_if_eq 36 dX5_year_21 (by decide) (by unfold inr; split <;> omega) (fun h_21 => ?_) (fun h_21 => ?_)
    · replace h_21 := b0 h_21
      refine x_bipush dX5_year_36 (by decide) ?_
      refine hret _ _ _ _ _ _ dX5_year_38 rfl ?_
      refine ⟨rfl, rfl, ?_, kpM.rf⟩
      (repeat (first | rw [if_pos (by omega)] | rw [if_neg (by omega)]))
    · replace h_21 := b1 h_21
      refine x_iload_n dX5_year_24 rfl ?_
      refine x_i2l dX5_year_25 hk ?_
      refine x_lconst0 dX5_year_26 ?_
      refine x_ldc2 dX5_year_27 ct_RX5_102 ?_
      refine xf_SI3 dX5_year_30 ml_RX5_86 vw_X5_in st_X5_in (sp_in (by unfold inl; unfold inr at hk; omega) (by unfold inl; omega) (by unfold inl; omega)) ⟨Nat.le_of_ble_eq_true rfl, Nat.le_of_ble_eq_true rfl, Nat.le_of_ble_eq_true rfl, Nat.le_of_ble_eq_true rfl, Nat.le_of_ble_eq_true rfl⟩ ?_
      refine x_if_ne 39 dX5_year_33 (by decide) (by unfold inr; split <;> omega) (fun h_33 => ?_) (fun h_33 => ?_)
      · replace h_33 := b1 h_33
        refine x_iload_n dX5_year_39 rfl ?_
        refine x_ist4 dX5_year_40 ?_
        refine x_iconst dX5_year_42 ?_
        refine x_ist5 dX5_year_43 ?_
        refine x_iconst dX5_year_45 ?_
        refine x_ist6 dX5_year_46 ?_
        refine x_iconst dX5_year_48 ?_
        refine x_ist7 dX5_year_49 ?_
        refine x_iconst dX5_year_51 ?_
        refine x_ist8 dX5_year_52 ?_
        exact lp 100 0 _ _ _ _ _ _ (by omega) (by omega) rfl (by omega) (by omega) (by omega) rfl rfl rfl rfl (by omega) kpM.rf
      · replace h_33 := b0 h_33
        refine x_bipush dX5_year_36 (by decide) ?_
        refine hret _ _ _ _ _ _ dX5_year_38 rfl ?_
        refine ⟨rfl, rfl, ?_, kpM.rf⟩
        (repeat (first | rw [if_pos (by omega)] | rw [if_neg (by omega)]))
end FR

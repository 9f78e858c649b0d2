/-! ===== SpringFarms: frost by chance ===== -/
theorem x_drl9 {G : GT} {own : String} {cc : ByteArray} {R : Room} {Fx : FxT} {pc : Nat} {l0 l1 l2 l3 l4 l5 l6 l7 l8 l9 l10 : Option Value} {r : List (Option Value)} {S : List Value} {K : List Nat} {N : NN} {I : MM} {cs ss : Nat} (h : XX G own cc R Fx pc (l0 :: l1 :: l2 :: l3 :: l4 :: l5 :: l6 :: l7 :: l8 :: none :: l10 :: r) S K N I cs ss) : XX G own cc R Fx pc (l0 :: l1 :: l2 :: l3 :: l4 :: l5 :: l6 :: l7 :: l8 :: l9 :: l10 :: r) S K N I cs ss := x_drop (i := 9) h
theorem mlL : Cond.methodLink RX4 266 Lib.MathLoose.max_long.x ∈ Wd := Wd_in [] 527 (by decide +kernel) rfl
theorem st_mmaxL : Cond.static Lib.MathLoose.max_long.x ∈ Wd := Wd_in [] 528 (by decide +kernel) rfl
theorem cd_mmaxL : Cond.code Lib.MathLoose.max_long.x Lib.MathLoose.max_long.code 4 (some .long) ∈ Wd := Wd_in [] 529 (by decide +kernel) rfl
theorem x_maxL {G : GT} {own : String} {cc : ByteArray} {R : Room} {Fx : FxT} {pc : Nat} {L : List (Option Value)} {S : List Value} {K : List Nat} {N : NN} {I : MM} {cs ss : Nat} {x : Nat} {a b : Int} (hd : decode cc pc = .ok (.invokestatic x, 3)) (hl : Cond.methodLink own x Lib.MathLoose.max_long.x ∈ Wd) (hn1 : Cond.static Lib.MathLoose.max_long.x ∈ Wd) (hn2 : Cond.initialized "java/lang/Math" ∈ Wd) (hn3 : Cond.code Lib.MathLoose.max_long.x Lib.MathLoose.max_long.code 4 (some .long) ∈ Wd) (ha : inl a) (hz : inl b) (hR : 1 ≤ R.frames ∧ (S.map fun v => v.category).sum + 15 ≤ R.locals ∧ cs ≤ R.cells ∧ ss ≤ R.slots) (h : XX G own cc R Fx (pc + 3) L (vl (max a b) :: S) K N I cs ss) : XX G own cc R Fx pc L (vl b :: vl a :: S) K N I cs ss := by
  obtain ⟨p, e, s, m, args, below, meth, c, Q, nL, a0, K0⟩ := Fx
  intro ok al H locs ls st
  obtain ⟨hx, hb, hml, hown, hts, hE, hA⟩ := id ok
  have k1 := h ok al H locs ls (st.to (fun q => q.tail.tail.cons trivial))
  refine va_mmax_long hx hb (hml.trans st.2.2.1.1.symm) hown (hts _ hl) (hts _ hn1) (hts _ hn2) (hts _ hn3) hR.1 (by rw [cat_gm]; exact hR.2.1) hR.2.2.1 hR.2.2.2 hd ?_
  have e : (if Int64.ofInt b < Int64.ofInt a then Int64.ofInt a else Int64.ofInt b) = Int64.ofInt (max a b) := by
    by_cases q : b < a
    · rw [if_pos ((ol_lt hz ha).mpr q)]; congr 1; omega
    · rw [if_neg (fun z => q ((ol_lt hz ha).mp z))]; congr 1; omega
  rw [e]
  exact k1
def wyF (m : Int) : Nat → Int
  | 0 => 1
  | k + 1 => wyF m k * (m - k) / ((k : Int) + 1)
def frS (v c m a b : Int) : Nat → Int
  | 0 => 0
  | k + 1 => if v ≤ (k : Int) * b + (m - k) * a then frS v c m a b k + wyF m k * c ^ k * (10 - c) ^ (m - k).toNat else frS v c m a b k
def frA (v c m a b part : Int) : Int := (if part = 0 then frS v c m a b (m.toNat + 1) else 10 ^ m.toNat) / (Nat.gcd (frS v c m a b (m.toNat + 1)).toNat (10 ^ m.toNat) : Int)
theorem wy_all : ∀ m : Nat, m < 13 → ∀ k : Nat, k < m + 2 → 0 ≤ wyF (m : Int) k ∧ wyF (m : Int) k ≤ 1000 := by decide +kernel
theorem tm_all : ∀ c : Nat, c < 11 → ∀ m : Nat, m < 13 → ∀ k : Nat, k < m + 1 → 0 ≤ wyF (m : Int) k * (c : Int) ^ k * (10 - (c : Int)) ^ ((m : Int) - k).toNat ∧ wyF (m : Int) k * (c : Int) ^ k * (10 - (c : Int)) ^ ((m : Int) - k).toNat ≤ 1000000000000000 := by decide +kernel
theorem frS_b {v a b : Int} {c m : Nat} (hc : c < 11) (hm : m < 13) : ∀ k : Nat, k < m + 2 → 0 ≤ frS v c m a b k ∧ frS v c m a b k ≤ 1000000000000000 * (k : Int)
  | 0, _ => by simp [frS]
  | k + 1, hk => by
    have ih := frS_b (v := v) (a := a) (b := b) hc hm k (by omega)
    have ht := tm_all c hc m hm k (by omega)
    simp only [frS]
    split <;> omega
theorem gcd_st {h l U W k : Nat} (hh : 0 < h) (hl : 0 < l) (hP : h * l * 2 ^ (k - 1) ≤ U * W) (hk : k = 0 ∨ h < l) : (l % h) * h * 2 ^ (k + 1 - 1) ≤ U * W := by
  show (l % h) * h * 2 ^ k ≤ U * W
  cases k with
  | zero =>
    have h1 : (l % h) * h ≤ l * h := Nat.mul_le_mul_right h (Nat.mod_le l h)
    have h2 : h * l ≤ U * W := by simpa using hP
    rw [Nat.mul_comm l h] at h1
    simpa using Nat.le_trans h1 h2
  | succ k =>
    have hlt : h < l := by rcases hk with q | q; exact absurd q (by omega); exact q
    have h1 : 2 * (l % h) ≤ l := by
      have := Nat.div_add_mod l h
      have h3 := Nat.mod_lt l hh
      have h4 : 1 ≤ l / h := (Nat.le_div_iff_mul_le hh).mpr (by omega)
      have h5 : h * 1 ≤ h * (l / h) := Nat.mul_le_mul_left h h4
      omega
    have h2 : (l % h) * h * 2 ^ (k + 1) = (2 * (l % h)) * h * 2 ^ k := by rw [Nat.pow_succ]; simp only [Nat.mul_assoc, Nat.mul_comm, Nat.mul_left_comm]
    rw [h2]
    refine Nat.le_trans (Nat.mul_le_mul_right _ (Nat.mul_le_mul_right h h1)) ?_
    rw [Nat.mul_comm l h]
    simpa using hP
section FR
variable {G : GT} {K : List Nat} {N : NN} {I : MM} {n : Nat}
theorem sp_power {b e : Int} (hb : inr b) (n : Nat) (he : e = (n : Int)) (hn : n < 1000) : SpL G mX4_power .long 0 0 0 0 [vi b, vi e] K N I (qI K N I (b ^ n)) := by
  refine SpL.of (own := RX4) (cc := cX4_power) (L := [some (vi b), some (vi e), none, none, none]) (by decide) rfl rfl (Nat.le_of_ble_eq_true rfl) rfl (fun Fx hnm hret => ?_)
  have lp : ∀ (m : Nat) (g : Nat) (z l : Int), g ≤ n → n < g + m → z = (g : Int) → l = b ^ g → XX G RX4 cX4_power (RmW 0 0 0 0) Fx 5 [some (vi b), some (vi e), some (vl l), none, some (vi z)] [] K N I 0 0 := by
    intro m
    induction m with
    | zero => intros; exfalso; omega
    | succ m ih =>
      intro g z l h0 h1 h2 h3
      refine x_iload dX4_power_5 rfl ?_
      refine x_iload_n dX4_power_7 rfl ?_
      refine x_icmp_ge 22 dX4_power_8 (by decide) (by unfold inr; omega) (by unfold inr; omega) (fun h_8 => ?_) (fun h_8 => ?_)
      · refine x_lload_n dX4_power_22 rfl ?_
        refine hret _ _ _ _ _ _ dX4_power_23 ?_
        obtain rfl : g = n := by omega
        exact ⟨rfl, rfl, rfl, h3⟩
      · refine x_lload_n dX4_power_11 rfl ?_
        refine x_iload_n dX4_power_12 rfl ?_
        refine x_i2l dX4_power_13 hb ?_
        refine x_lmul dX4_power_14 ?_
        refine x_lst2 dX4_power_15 ?_
        refine x_inc4 dX4_power_16 ?_
        refine x_goto 5 dX4_power_19 (by decide) ?_
        exact ih (g + 1) _ _ (by omega) (by omega) (by omega) (by rw [h3]; exact (Int.pow_succ b g).symm)
  refine x_lconst1 dX4_power_0 ?_
  refine x_lst2 dX4_power_1 ?_
  refine x_iconst dX4_power_2 ?_
  refine x_ist4 dX4_power_3 ?_
  exact lp (n + 1) 0 _ _ (by omega) (by omega) rfl (by simp)
theorem sp_commonDivisor {a b : Int} (U W : Nat) (ha : a = (U : Int)) (hb : b = (W : Int)) (hW : 0 < W) (hUW : U * W < 2 ^ 94) (hU : U < 2 ^ 62) (hW2 : W < 2 ^ 62) : SpL G mX4_commonDivisor .long 1 21 0 0 [vl a, vl b] K N I (qI K N I (Nat.gcd U W : Int)) := by
  refine SpL.of (own := RX4) (cc := cX4_commonDivisor) (L := [some (vl a), none, some (vl b), none, none, none, none, none, none, none, none]) (by decide) rfl rfl (Nat.le_of_ble_eq_true rfl) rfl (fun Fx hnm hret => ?_)
  have lp : ∀ (m : Nat) (k h l : Nat) (z zh zl : Int), k ≤ 100 → 100 < k + m → z = (k : Int) → zh = (h : Int) → zl = (l : Int) → 0 < l → h < 2 ^ 62 → l < 2 ^ 62 → (k = 0 ∨ h < l) → h * l * 2 ^ (k - 1) ≤ U * W → Nat.gcd h l = Nat.gcd U W → XX G RX4 cX4_commonDivisor (RmW 1 21 0 0) Fx 9 [some (vl a), none, some (vl b), none, some (vl zh), none, some (vl zl), none, some (vi z), none, none] [] K N I 0 0 := by
    intro m
    induction m with
    | zero => intros; exfalso; omega
    | succ m ih =>
      intro k h l z zh zl h0 h1 h2 h3 h4 h5 h6 h7 h8 h9 h10
      refine x_iload dX4_commonDivisor_9 rfl ?_
      refine x_bipush dX4_commonDivisor_11 (by decide) ?_
      refine x_icmp_ge 44 dX4_commonDivisor_13 (by decide) (by unfold inr; omega) (by unfold inr; omega) (fun h_13 => ?_) (fun h_13 => ?_)
      · have hz : h = 0 := by
          first
          | (apply Decidable.byContradiction
             intro e
             rw [h3] at h_20
             rw [if_neg (by omega), if_neg (by omega)] at h_20
             omega)
          | (obtain rfl : k = 100 := by omega
             apply Decidable.byContradiction
             intro e
             have q1 : 1 ≤ h * l := Nat.mul_pos (Nat.pos_of_ne_zero e) h5
             have q2 : 1 * 2 ^ 99 ≤ h * l * 2 ^ (100 - 1) := Nat.mul_le_mul_right _ q1
             omega)
        subst hz
        rw [Nat.gcd_zero_left] at h10
        refine x_lconst1 dX4_commonDivisor_44 ?_
        refine x_lload dX4_commonDivisor_45 rfl ?_
        refine x_maxL dX4_commonDivisor_47 mlL st_mmaxL ini_java_lang_Math cd_mmaxL (by unfold inl; omega) (by unfold inl; omega) ⟨Nat.le_of_ble_eq_true rfl, Nat.le_of_ble_eq_true rfl, Nat.le_of_ble_eq_true rfl, Nat.le_of_ble_eq_true rfl⟩ ?_
        refine hret _ _ _ _ _ _ dX4_commonDivisor_50 ?_
        refine ⟨rfl, rfl, rfl, ?_⟩
        rw [← h10]; omega
      · refine x_lload dX4_commonDivisor_16 rfl ?_
        refine x_lconst0 dX4_commonDivisor_18 ?_
        refine x_lcmp dX4_commonDivisor_19 (by unfold inl; omega) (by unfold inl; omega) ?_
        refine x_if_le 44 dX4_commonDivisor_20 (by decide) (by unfold inr; split <;> (try split) <;> omega) (fun h_20 => ?_) (fun h_20 => ?_)
        · have hz : h = 0 := by
            first
            | (apply Decidable.byContradiction
               intro e
               rw [h3] at h_20
               rw [if_neg (by omega), if_neg (by omega)] at h_20
               omega)
            | (obtain rfl : k = 100 := by omega
               apply Decidable.byContradiction
               intro e
               have q1 : 1 ≤ h * l := Nat.mul_pos (Nat.pos_of_ne_zero e) h5
               have q2 : 1 * 2 ^ 99 ≤ h * l * 2 ^ (100 - 1) := Nat.mul_le_mul_right _ q1
               omega)
          subst hz
          rw [Nat.gcd_zero_left] at h10
          refine x_lconst1 dX4_commonDivisor_44 ?_
          refine x_lload dX4_commonDivisor_45 rfl ?_
          refine x_maxL dX4_commonDivisor_47 mlL st_mmaxL ini_java_lang_Math cd_mmaxL (by unfold inl; omega) (by unfold inl; omega) ⟨Nat.le_of_ble_eq_true rfl, Nat.le_of_ble_eq_true rfl, Nat.le_of_ble_eq_true rfl, Nat.le_of_ble_eq_true rfl⟩ ?_
          refine hret _ _ _ _ _ _ dX4_commonDivisor_50 ?_
          refine ⟨rfl, rfl, rfl, ?_⟩
          rw [← h10]; omega
        · have hh : 0 < h := by
            apply Nat.pos_of_ne_zero
            intro e
            rw [h3, e] at h_20
            simp at h_20
          refine x_lload dX4_commonDivisor_23 rfl ?_
          refine x_lload dX4_commonDivisor_25 rfl ?_
          refine x_lrem dX4_commonDivisor_27 (by unfold inl; omega) (by unfold inl; omega) ?_
          refine x_lst9 dX4_commonDivisor_28 ?_
          refine x_lload dX4_commonDivisor_30 rfl ?_
          refine x_lst6 dX4_commonDivisor_32 ?_
          refine x_lload dX4_commonDivisor_34 rfl ?_
          refine x_lst4 dX4_commonDivisor_36 ?_
          refine x_inc8 dX4_commonDivisor_38 ?_
          refine x_goto 9 dX4_commonDivisor_41 (by decide) ?_
          have e1 : zl % zh = ((l % h : Nat) : Int) := by rw [h3, h4]; rfl
          refine x_drl9 (ih (k + 1) (l % h) h _ _ _ (by omega) (by omega) (by omega) e1 h3 hh ?_ h6 (Or.inr (Nat.mod_lt l hh)) (gcd_st hh h5 h9 h8) ?_)
          · exact Nat.lt_of_le_of_lt (Nat.mod_le l h) h7
          · rw [← h10, Nat.gcd_rec h l]
  refine x_lload_n dX4_commonDivisor_0 rfl ?_
  refine x_lst4 dX4_commonDivisor_1 ?_
  refine x_lload_n dX4_commonDivisor_3 rfl ?_
  refine x_lst6 dX4_commonDivisor_4 ?_
  refine x_iconst dX4_commonDivisor_6 ?_
  refine x_ist8 dX4_commonDivisor_7 ?_
  exact lp 101 0 U W _ _ _ (by omega) (by omega) rfl ha hb hW hU hW2 (Or.inl rfl) (by simp) rfl
theorem sp_frost (hN : NS N) (hB : RB I 1 n) {f v c d q : Int} (hf : inr f) (hv : inr v) (hc : inr c) (hd : inr d) (hq : inr q) : SpL G mX4_frost .long 3 69 0 0 [.ref 0, vi f, vi v, vi c, vi d, vi q] K N I (pI K N (fun z J => z = (if ¬ (0 ≤ f ∧ f < n) then -1000000000000000001 else if (0 ≤ v ∧ v ≤ 99) ∧ (0 ≤ c ∧ c ≤ 10) ∧ (0 ≤ d ∧ d ≤ 12) ∧ (0 ≤ q ∧ q ≤ 1) then frA v c d (tok (fa I 1) 0 (l0R I 1 0) f.toNat) (tok (fa I 1) 2 (l0R I 1 2) f.toNat) q else -1000000000000000002) ∧ kpC I J)) := by
  refine SpL.of (own := RX4) (cc := cX4_frost) (L := [some (.ref 0), some (vi f), some (vi v), some (vi c), some (vi d), some (vi q), none, none, none, none, none, none, none, none]) (by decide) rfl rfl (Nat.le_of_ble_eq_true rfl) rfl (fun Fx hnm hret => ?_)
  have hn9 := hB.2.2.1
  refine x_aload_n dX4_frost_0 rfl ?_
  refine x_getR (j := 1) dX4_frost_1 gf_RX4_10 rfl rfl (hN _ _ (by decide)) ?_
  refine x_iload_n dX4_frost_4 rfl ?_
  refine xf_VI1 dX4_frost_5 ml_RX4_68 vw_X3_has vv_X3_has rfl (sp_has (b := 1) rfl hN hf (by rw [hB.1]; unfold inr; omega)) ⟨Nat.le_of_ble_eq_true rfl, Nat.le_of_ble_eq_true rfl, Nat.le_of_ble_eq_true rfl, Nat.le_of_ble_eq_true rfl, Nat.le_of_ble_eq_true rfl⟩ ?_
  rw [hB.1]
  refine x_if_ne 15 dX4_frost_8 (by decide) (by unfold inr; split <;> omega) (fun h_8 => ?_) (fun h_8 => ?_)
  · replace h_8 := b1 h_8
    refine x_iload_n dX4_frost_15 rfl ?_
    refine x_bipush dX4_frost_16 (by decide) ?_
    refine xf_SI2 dX4_frost_18 ml_RX4_72 vw_X4_within st_X4_within (sp_within hv (by unfold inr; omega)) ⟨Nat.le_of_ble_eq_true rfl, Nat.le_of_ble_eq_true rfl, Nat.le_of_ble_eq_true rfl, Nat.le_of_ble_eq_true rfl, Nat.le_of_ble_eq_true rfl⟩ ?_
    refine x_if_eq 52 dX4_frost_21 (by decide) (by unfold inr; split <;> omega) (fun h_21 => ?_) (fun h_21 => ?_)
    · replace h_21 := b0 h_21
      refine x_ldc2 dX4_frost_52 ct_RX4_222 ?_
      refine hret _ _ _ _ _ _ dX4_frost_55 ?_
      refine ⟨rfl, rfl, ?_, kpC.rf⟩
      (repeat (first | rw [if_pos (by omega)] | rw [if_neg (by omega)]))
    · replace h_21 := b1 h_21
      refine x_iload_n dX4_frost_24 rfl ?_
      refine x_bipush dX4_frost_25 (by decide) ?_
      refine xf_SI2 dX4_frost_27 ml_RX4_72 vw_X4_within st_X4_within (sp_within hc (by unfold inr; omega)) ⟨Nat.le_of_ble_eq_true rfl, Nat.le_of_ble_eq_true rfl, Nat.le_of_ble_eq_true rfl, Nat.le_of_ble_eq_true rfl, Nat.le_of_ble_eq_true rfl⟩ ?_
      refine x_if_eq 52 dX4_frost_30 (by decide) (by unfold inr; split <;> omega) (fun h_30 => ?_) (fun h_30 => ?_)
      · replace h_30 := b0 h_30
        refine x_ldc2 dX4_frost_52 ct_RX4_222 ?_
        refine hret _ _ _ _ _ _ dX4_frost_55 ?_
        refine ⟨rfl, rfl, ?_, kpC.rf⟩
        (repeat (first | rw [if_pos (by omega)] | rw [if_neg (by omega)]))
      · replace h_30 := b1 h_30
        refine x_iload dX4_frost_33 rfl ?_
        refine x_bipush dX4_frost_35 (by decide) ?_
        refine xf_SI2 dX4_frost_37 ml_RX4_72 vw_X4_within st_X4_within (sp_within hd (by unfold inr; omega)) ⟨Nat.le_of_ble_eq_true rfl, Nat.le_of_ble_eq_true rfl, Nat.le_of_ble_eq_true rfl, Nat.le_of_ble_eq_true rfl, Nat.le_of_ble_eq_true rfl⟩ ?_
        refine x_if_eq 52 dX4_frost_40 (by decide) (by unfold inr; split <;> omega) (fun h_40 => ?_) (fun h_40 => ?_)
        · replace h_40 := b0 h_40
          refine x_ldc2 dX4_frost_52 ct_RX4_222 ?_
          refine hret _ _ _ _ _ _ dX4_frost_55 ?_
          refine ⟨rfl, rfl, ?_, kpC.rf⟩
          (repeat (first | rw [if_pos (by omega)] | rw [if_neg (by omega)]))
        · replace h_40 := b1 h_40
          refine x_iload dX4_frost_43 rfl ?_
          refine x_iconst dX4_frost_45 ?_
          refine xf_SI2 dX4_frost_46 ml_RX4_72 vw_X4_within st_X4_within (sp_within hq (by unfold inr; omega)) ⟨Nat.le_of_ble_eq_true rfl, Nat.le_of_ble_eq_true rfl, Nat.le_of_ble_eq_true rfl, Nat.le_of_ble_eq_true rfl, Nat.le_of_ble_eq_true rfl⟩ ?_
          refine x_if_ne 56 dX4_frost_49 (by decide) (by unfold inr; split <;> omega) (fun h_49 => ?_) (fun h_49 => ?_)
          · replace h_49 := b1 h_49
            obtain ⟨i, rfl⟩ := toN h_8.1
            obtain ⟨c, rfl⟩ := toN h_30.1
            obtain ⟨d, rfl⟩ := toN h_40.1
            refine x_aload_n dX4_frost_56 rfl ?_
            refine x_getR (j := 12) dX4_frost_57 gf_RX4_26 rfl rfl (hN _ _ (by decide)) ?_
            refine x_aload_n dX4_frost_60 rfl ?_
            refine x_getR (j := 1) dX4_frost_61 gf_RX4_10 rfl rfl (hN _ _ (by decide)) ?_
            refine x_iconst dX4_frost_64 ?_
            refine xf_VV2 dX4_frost_65 ml_RX4_135 vw_X2_flow vv_X2_flow rfl (sp_flow (b := 1) (c := 12) rfl rfl hN hB (by unfold inr; omega)) ⟨Nat.le_of_ble_eq_true rfl, Nat.le_of_ble_eq_true rfl, Nat.le_of_ble_eq_true rfl, Nat.le_of_ble_eq_true rfl, Nat.le_of_ble_eq_true rfl⟩ ?_
            have hB1 : RB (fwJ I 1 12 0 n) 1 n := hB.of (fw_o (by omega)) (fa_eq (fun _ => fw_o (by omega))) (fun _ _ => fw_o (by omega))
            refine x_aload_n dX4_frost_68 rfl ?_
            refine x_getR (j := 15) dX4_frost_69 gf_RX4_30 rfl rfl (hN _ _ (by decide)) ?_
            refine x_aload_n dX4_frost_72 rfl ?_
            refine x_getR (j := 1) dX4_frost_73 gf_RX4_10 rfl rfl (hN _ _ (by decide)) ?_
            refine x_iconst dX4_frost_76 ?_
            refine xf_VV2 dX4_frost_77 ml_RX4_135 vw_X2_flow vv_X2_flow rfl (sp_flow (b := 1) (c := 15) rfl rfl hN hB1 (by unfold inr; omega)) ⟨Nat.le_of_ble_eq_true rfl, Nat.le_of_ble_eq_true rfl, Nat.le_of_ble_eq_true rfl, Nat.le_of_ble_eq_true rfl, Nat.le_of_ble_eq_true rfl⟩ ?_
            refine x_lconst0 dX4_frost_80 ?_
            refine x_lst6 dX4_frost_81 ?_
            refine x_lconst1 dX4_frost_83 ?_
            refine x_lst8 dX4_frost_84 ?_
            refine x_iconst dX4_frost_86 ?_
            refine x_ist10 dX4_frost_87 ?_
            generalize hJ : fwJ (fwJ I 1 12 0 n) 1 15 2 n = J
            have hk : kpC I J := by rw [← hJ]; exact (kpC.rf.fw (by omega)).fw (by omega)
            have hA : J 13 i = tok (fa I 1) 0 (l0R I 1 0) i := by rw [← hJ, fw_o (by omega)]; exact fw_t (by omega)
            have hT : J 16 i = tok (fa I 1) 2 (l0R I 1 2) i := by
              rw [← hJ, show fwJ (fwJ I 1 12 0 n) 1 15 2 n 16 i = _ from fw_t (by omega), fa_eq (I := I) (fun _ => fw_o (by omega)), l0_eq (I := I) (fun _ => fw_o (by omega))]
            have bA := tok_b (kn := 0) hB (show i < n by omega)
            have bT := tok_b (kn := 2) hB (show i < n by omega)
            rw [show ((i : Nat) : Int).toNat = i from rfl] at hret
            generalize tok (fa I 1) 0 (l0R I 1 0) i = a at *
            generalize tok (fa I 1) 2 (l0R I 1 2) i = b at *
            have lp : ∀ (m : Nat) (k : Nat) (z u y : Int), k ≤ d + 1 → d + 1 < k + m → z = (k : Int) → u = frS v c d a b k → y = wyF d k → XX G RX4 cX4_frost (RmW 3 69 0 0) Fx 89 [some (.ref 0), some (vi i), some (vi v), some (vi c), some (vi d), some (vi q), some (vl u), none, some (vl y), none, some (vi z), none, none, none] [] K N J 0 0 := by
              intro m
              induction m with
              | zero => intros; exfalso; omega
              | succ m ih =>
                intro k z u y h0 h1 h2 h3 h4
                have hw : k ≤ d → _ := fun hk => wy_all d (by omega) k (by omega)
                have hS := frS_b (v := v) (a := a) (b := b) (c := c) (m := d) (by omega) (by omega) k (by omega)
                refine x_iload dX4_frost_89 rfl ?_
                refine x_iload dX4_frost_91 rfl ?_
                refine x_icmp_gt 178 dX4_frost_93 (by decide) (by unfold inr; omega) (by unfold inr; omega) (fun h_93 => ?_) (fun h_93 => ?_)
                · obtain rfl : k = d + 1 := by omega
                  have hpw : 10 ^ d ≤ 10 ^ 12 := Nat.pow_le_pow_right (by decide) (by omega)
                  have hp : ((10 : Int) ^ d) = ((10 ^ d : Nat) : Int) := by rw [Int.natCast_pow]; rfl
                  have hp2 : 0 ≤ (10 : Int) ^ d ∧ (10 : Int) ^ d ≤ 1000000000000 := ⟨by rw [hp]; exact Int.natCast_nonneg _, by rw [hp]; exact Int.ofNat_le.mpr hpw⟩
                  have hUW : u.toNat * 10 ^ d < 2 ^ 94 := by
                    have q1 : u.toNat ≤ 13000000000000000 := by omega
                    have q2 := Nat.mul_le_mul q1 hpw
                    exact Nat.lt_of_le_of_lt q2 (by decide)
                  refine x_bipush dX4_frost_178 (by decide) ?_
                  refine x_iload dX4_frost_180 rfl ?_
                  refine xf_SL2 dX4_frost_182 ml_RX4_224 vw_X4_power st_X4_power (sp_power (by unfold inr; omega) d rfl (by omega)) ⟨Nat.le_of_ble_eq_true rfl, Nat.le_of_ble_eq_true rfl, Nat.le_of_ble_eq_true rfl, Nat.le_of_ble_eq_true rfl, Nat.le_of_ble_eq_true rfl⟩ ?_
                  refine x_lst10 dX4_frost_185 ?_
                  refine x_lload dX4_frost_187 rfl ?_
                  refine x_lload dX4_frost_189 rfl ?_
                  refine xf_SL2 dX4_frost_191 ml_RX4_228 vw_X4_commonDivisor st_X4_commonDivisor (sp_commonDivisor u.toNat (10 ^ d) (by omega) (by rw [Int.natCast_pow]; rfl) (Nat.pow_pos (by decide)) hUW (by omega) (by omega)) ⟨Nat.le_of_ble_eq_true rfl, Nat.le_of_ble_eq_true rfl, Nat.le_of_ble_eq_true rfl, Nat.le_of_ble_eq_true rfl, Nat.le_of_ble_eq_true rfl⟩ ?_
                  have hg : 0 < (Nat.gcd u.toNat (10 ^ d) : Int) ∧ (Nat.gcd u.toNat (10 ^ d) : Int) ≤ 1000000000000 := by
                    have q1 := Nat.gcd_pos_of_pos_right u.toNat (show 0 < 10 ^ d from Nat.pow_pos (by decide))
                    have q2 := Nat.gcd_le_right u.toNat (show 0 < 10 ^ d from Nat.pow_pos (by decide))
                    omega
                  refine x_lst12 dX4_frost_194 ?_
                  refine x_iload dX4_frost_196 rfl ?_
                  refine x_if_ne 206 dX4_frost_198 (by decide) hq (fun h_198 => ?_) (fun h_198 => ?_)
                  · refine x_lload dX4_frost_206 rfl ?_
                    refine x_lload dX4_frost_208 rfl ?_
                    refine x_ldiv dX4_frost_210 (by have := hp2; unfold inl; omega) (by have := hg; unfold inl; omega) ?_
                    refine hret _ _ _ _ _ _ dX4_frost_211 ?_
                    refine ⟨rfl, rfl, ?_, hk⟩
                    rw [if_neg (by omega), if_pos (by omega)]
                    unfold frA
                    rw [show (d : Int).toNat = d from rfl, ← h3]
                    first
                    | rw [if_pos h_198]
                    | rw [if_neg h_198]
                  · refine x_lload dX4_frost_201 rfl ?_
                    refine x_goto 208 dX4_frost_203 (by decide) ?_
                    refine x_lload dX4_frost_208 rfl ?_
                    refine x_ldiv dX4_frost_210 (by have := hp2; unfold inl; omega) (by have := hg; unfold inl; omega) ?_
                    refine hret _ _ _ _ _ _ dX4_frost_211 ?_
                    refine ⟨rfl, rfl, ?_, hk⟩
                    rw [if_neg (by omega), if_pos (by omega)]
                    unfold frA
                    rw [show (d : Int).toNat = d from rfl, ← h3]
                    first
                    | rw [if_pos h_198]
                    | rw [if_neg h_198]
                · have m1 := mul_b (m := z) (t := b) (M := 12) (by omega) (by omega) bT.1 bT.2
                  have m2 := mul_b (m := (d : Int) - z) (t := a) (M := 12) (by omega) (by omega) bA.1 bA.2
                  refine x_iload dX4_frost_96 rfl ?_
                  refine x_aload_n dX4_frost_98 rfl ?_
                  refine x_getR (j := 15) dX4_frost_99 gf_RX4_30 rfl rfl (hN _ _ (by decide)) ?_
                  refine x_getR (j := 16) dX4_frost_102 gf_RX4_139 rfl rfl (hN _ _ (by decide)) ?_
                  refine x_iload_n dX4_frost_105 rfl ?_
                  refine x_iald (i) dX4_frost_106 rfl (by omega) (show _ < 9 by omega) ?_
                  rw [hT]
                  refine x_imul dX4_frost_107 ?_
                  refine x_iload dX4_frost_108 rfl ?_
                  refine x_iload dX4_frost_110 rfl ?_
                  refine x_isub dX4_frost_112 ?_
                  refine x_aload_n dX4_frost_113 rfl ?_
                  refine x_getR (j := 12) dX4_frost_114 gf_RX4_26 rfl rfl (hN _ _ (by decide)) ?_
                  refine x_getR (j := 13) dX4_frost_117 gf_RX4_139 rfl rfl (hN _ _ (by decide)) ?_
                  refine x_iload_n dX4_frost_120 rfl ?_
                  refine x_iald (i) dX4_frost_121 rfl (by omega) (show _ < 9 by omega) ?_
                  rw [hA]
                  refine x_imul dX4_frost_122 ?_
                  refine x_iadd dX4_frost_123 ?_
                  refine x_iload_n dX4_frost_124 rfl ?_
                  refine x_icmp_lt 155 dX4_frost_125 (by decide) (by have := m1; have := m2; unfold inr; omega) (by unfold inr; omega) (fun h_125 => ?_) (fun h_125 => ?_)
                  · have hw2 := hw (by omega)
                    have m3 := mul_b (m := y) (t := (d : Int) - z) (M := 1000) (T := 12) (by rw [h4]; exact hw2.1) (by rw [h4]; exact hw2.2) (by omega) (by omega)
                    refine x_lload dX4_frost_155 rfl ?_
                    refine x_iload dX4_frost_157 rfl ?_
                    refine x_iload dX4_frost_159 rfl ?_
                    refine x_isub dX4_frost_161 ?_
                    refine x_i2l dX4_frost_162 (by unfold inr; omega) ?_
                    refine x_lmul dX4_frost_163 ?_
                    refine x_iload dX4_frost_164 rfl ?_
                    refine x_iconst dX4_frost_166 ?_
                    refine x_iadd dX4_frost_167 ?_
                    refine x_i2l dX4_frost_168 (by unfold inr; omega) ?_
                    refine x_ldiv dX4_frost_169 (by have := m3; unfold inl; omega) (by unfold inl; omega) ?_
                    refine x_lst8 dX4_frost_170 ?_
                    refine x_inc10 dX4_frost_172 ?_
                    refine x_goto 89 dX4_frost_175 (by decide) ?_
                    refine ih (k + 1) _ _ _ (by omega) (by omega) (by omega) ?_ ?_
                    · show _ = (if v ≤ (k : Int) * b + ((d : Int) - k) * a then frS v c d a b k + wyF d k * (c : Int) ^ k * (10 - (c : Int)) ^ ((d : Int) - k).toNat else frS v c d a b k)
                      rw [h2] at h_125
                      first
                      | (rw [if_pos h_125, h3, h4])
                      | (rw [if_neg (by omega), h3])
                    · show _ = wyF d k * ((d : Int) - k) / ((k : Int) + 1)
                      rw [h4, h2]
                  · refine x_lload dX4_frost_128 rfl ?_
                    refine x_lload dX4_frost_130 rfl ?_
                    refine x_iload_n dX4_frost_132 rfl ?_
                    refine x_iload dX4_frost_133 rfl ?_
                    refine xf_SL2 dX4_frost_135 ml_RX4_224 vw_X4_power st_X4_power (sp_power hc k h2 (by omega)) ⟨Nat.le_of_ble_eq_true rfl, Nat.le_of_ble_eq_true rfl, Nat.le_of_ble_eq_true rfl, Nat.le_of_ble_eq_true rfl, Nat.le_of_ble_eq_true rfl⟩ ?_
                    refine x_lmul dX4_frost_138 ?_
                    refine x_bipush dX4_frost_139 (by decide) ?_
                    refine x_iload_n dX4_frost_141 rfl ?_
                    refine x_isub dX4_frost_142 ?_
                    refine x_iload dX4_frost_143 rfl ?_
                    refine x_iload dX4_frost_145 rfl ?_
                    refine x_isub dX4_frost_147 ?_
                    refine xf_SL2 dX4_frost_148 ml_RX4_224 vw_X4_power st_X4_power (sp_power (by unfold inr; omega) ((d : Int) - k).toNat (by omega) (by omega)) ⟨Nat.le_of_ble_eq_true rfl, Nat.le_of_ble_eq_true rfl, Nat.le_of_ble_eq_true rfl, Nat.le_of_ble_eq_true rfl, Nat.le_of_ble_eq_true rfl⟩ ?_
                    refine x_lmul dX4_frost_151 ?_
                    refine x_ladd dX4_frost_152 ?_
                    refine x_lst6 dX4_frost_153 ?_
                    have hw2 := hw (by omega)
                    have m3 := mul_b (m := y) (t := (d : Int) - z) (M := 1000) (T := 12) (by rw [h4]; exact hw2.1) (by rw [h4]; exact hw2.2) (by omega) (by omega)
                    refine x_lload dX4_frost_155 rfl ?_
                    refine x_iload dX4_frost_157 rfl ?_
                    refine x_iload dX4_frost_159 rfl ?_
                    refine x_isub dX4_frost_161 ?_
                    refine x_i2l dX4_frost_162 (by unfold inr; omega) ?_
                    refine x_lmul dX4_frost_163 ?_
                    refine x_iload dX4_frost_164 rfl ?_
                    refine x_iconst dX4_frost_166 ?_
                    refine x_iadd dX4_frost_167 ?_
                    refine x_i2l dX4_frost_168 (by unfold inr; omega) ?_
                    refine x_ldiv dX4_frost_169 (by have := m3; unfold inl; omega) (by unfold inl; omega) ?_
                    refine x_lst8 dX4_frost_170 ?_
                    refine x_inc10 dX4_frost_172 ?_
                    refine x_goto 89 dX4_frost_175 (by decide) ?_
                    refine ih (k + 1) _ _ _ (by omega) (by omega) (by omega) ?_ ?_
                    · show _ = (if v ≤ (k : Int) * b + ((d : Int) - k) * a then frS v c d a b k + wyF d k * (c : Int) ^ k * (10 - (c : Int)) ^ ((d : Int) - k).toNat else frS v c d a b k)
                      rw [h2] at h_125
                      first
                      | (rw [if_pos h_125, h3, h4])
                      | (rw [if_neg (by omega), h3])
                    · show _ = wyF d k * ((d : Int) - k) / ((k : Int) + 1)
                      rw [h4, h2]
            exact lp (d + 2) 0 _ _ _ (by omega) (by omega) rfl rfl rfl
          · replace h_49 := b0 h_49
            refine x_ldc2 dX4_frost_52 ct_RX4_222 ?_
            refine hret _ _ _ _ _ _ dX4_frost_55 ?_
            refine ⟨rfl, rfl, ?_, kpC.rf⟩
            (repeat (first | rw [if_pos (by omega)] | rw [if_neg (by omega)]))
  · replace h_8 := b0 h_8
    refine x_ldc2 dX4_frost_11 ct_RX4_220 ?_
    refine hret _ _ _ _ _ _ dX4_frost_14 ?_
    refine ⟨rfl, rfl, ?_, kpC.rf⟩
    (repeat (first | rw [if_pos (by omega)] | rw [if_neg (by omega)]))
end FR

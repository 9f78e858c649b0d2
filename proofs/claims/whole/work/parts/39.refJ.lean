/-! ===== the reference: widths at rest ===== -/
def reS (fl : List Int) (i : Int) : Int := if 0 ≤ i ∧ i < fl.length then fl.getD i.toNat 0 else -6
theorem reS_0 {i : Int} : reS [] i = -6 := by
  unfold reS
  rw [if_neg]
  rintro ⟨a, b⟩
  simp at b
  omega
theorem reS_add {fl : List Int} {x i : Int} : reS (fl ++ [x]) i = if (fl.length : Int) = i then x else reS fl i := by
  unfold reS
  by_cases h : (fl.length : Int) = i
  · subst h
    rw [if_pos rfl, if_pos (by simp; omega)]
    simp
  · rw [if_neg h]
    by_cases h2 : 0 ≤ i ∧ i < fl.length
    · rw [if_pos h2, if_pos (by simp; omega)]
      simp only [List.getD_eq_getElem?_getD]
      rw [List.getElem?_append_left (by omega)]
    · rw [if_neg h2, if_neg (by simp; omega)]
theorem reS_fo {fl : List Int} {i : Int} : foA fl i = if i = -1 then (fl.length : Int) else reS fl i := by
  unfold foA reS
  by_cases h : i = -1
  · rw [if_pos h]
  · rw [if_neg h]
/-- the reference's numbers as they were, but for the facts -/
def kpY (I J : MM) : Prop := ∀ a k, pcm a k → ¬ (a = 51 ∧ k < 63) → J a k = I a k
theorem kpY.M {I J J2 : MM} (h : kpY I J) (h2 : kpM J J2) : kpY I J2 := fun a k q z => (h2 a k q).trans (h a k q z)
theorem kpY.l0 {I J : MM} (h : kpY I J) {kn : Int} : l0M J kn = l0M I kn := l0M_eq (h 50 2 (by unfold pcm; omega) (by omega)) (h 50 3 (by unfold pcm; omega) (by omega)) (h 50 4 (by unfold pcm; omega) (by omega))
theorem bak_kp {I J : MM} (h : kpY I J) (h9 : ∀ k, k < 63 → J 59 k = I 51 k) (h18 : J 50 18 = I 50 5) : kpM I (bakJ J) := fun a k q => by
  unfold bakJ
  by_cases z : a = 50 ∧ k = 5
  · rw [if_pos z, z.1, z.2]; exact h18
  · rw [if_neg z]
    by_cases y : a = 51 ∧ k < 63
    · rw [if_pos y, h9 k y.2, y.1]
    · rw [if_neg y]; exact h a k q y
theorem dv5 (r j : Nat) : r / 5 ^ (j + 1) = r / 5 ^ j / 5 := by rw [Nat.pow_succ, Nat.div_div_eq_div_mul]
section FR
variable {G : GT} {K : List Nat} {N : NN} {I : MM} {n : Nat}
theorem sp_layWidths (hN : NS N) (hB : RM I n) (q row : Nat) (hq4 : q < 4) (hr : row < 5 ^ q) {c : Nat → Nat} (hm : I 50 27 = (q : Int)) (hc : ∀ j, j < q → I 64 j = (c j : Int) ∧ c j < n) (hi : inj1 c q) {zr : Int} (hzr : zr = (row : Int)) : SpI G mX5_layWidths .int 1 21 0 0 [.ref 50, vi zr] K N I (pI K N (fun z J => z = asD row ∧ fm J = wfc (fm I) c (dg5 q row) q ∧ (∀ a k, ¬ (a = 51 ∧ k < 63) → J a k = I a k) ∧ RM J n)) := by
  refine SpI.of (own := RX5) (cc := cX5_layWidths) (L := [some (.ref 50), some (vi zr), none, none, none, none]) (by decide) rfl rfl (Nat.le_of_ble_eq_true rfl) rfl (fun Fx hnm hret => ?_)
  have hn9 := hB.2.2.1
  have h125 : 5 ^ q ≤ 125 := Nat.pow_le_pow_right (n := 5) (j := 3) (by decide) (by omega)
  have lp : ∀ (m : Nat) (j : Nat) (x t p y : Int) (J : MM), j ≤ q → q < j + m → y = (q : Int) - 1 - j → x = ((row / 5 ^ j : Nat) : Int) → t = tlD row j → p = (10 : Int) ^ j → (∀ a k, ¬ (a = 51 ∧ k < 63) → J a k = I a k) → RM J n → (∀ g x, (x ≠ 1 ∨ ∀ i, q ≤ i + j → i < q → c i ≠ g) → fm J g x = fm I g x) → (∀ i, q ≤ i + j → i < q → fm J (c i) 1 = dg5 q row i) → XX G RX5 cX5_layWidths (RmW 1 21 0 0) Fx 15 [some (.ref 50), some (vi zr), some (vi x), some (vi t), some (vi p), some (vi y)] [] K N J 0 0 := by
    intro m
    induction m with
    | zero => intros; exfalso; omega
    | succ m ih =>
      intro j x t p y J h0 h1 h2 h3 h4 h5 h6 h7 h8 h9
      have hxb : row / 5 ^ j ≤ row := Nat.div_le_self _ _
      have hx0 : 0 ≤ x ∧ x ≤ 125 := by
        have hx1 : row / 5 ^ j ≤ 125 := Nat.le_trans hxb (by omega)
        rw [h3]
        generalize row / 5 ^ j = d at hx1 ⊢
        omega
      obtain ⟨k, hk⟩ : ∃ k, k = q - 1 - j := ⟨_, rfl⟩
      have hJc : j < q → J 64 k = (c k : Int) := fun hj => (h6 64 k (by omega)).trans (hc k (by omega)).1
      have hcn : j < q → c k < n := fun hj => (hc k (by omega)).2
      refine x_iload dX5_layWidths_15 rfl ?_
      refine x_if_lt 65 dX5_layWidths_17 (by decide) (by unfold inr; omega) (fun h_17 => ?_) (fun h_17 => ?_)
      · refine x_iload_n dX5_layWidths_65 rfl ?_
        refine hret _ _ _ _ _ _ dX5_layWidths_66 rfl ?_
        obtain rfl : j = q := by omega
        refine ⟨rfl, rfl, ?_, ?_, h6, h7⟩
        · rw [h4]; exact tl_all j hq4 row hr
        · exact wfc_is hi (fun i hiq => h9 i (by omega) hiq) (fun g b z => h8 g b (by
            rcases z with z | z
            · exact Or.inl z
            · exact Or.inr (fun i _ q2 => z i q2)))
      · refine x_aload_n dX5_layWidths_20 rfl ?_
        refine x_getR (j := 51) dX5_layWidths_21 gf_RX5_7 rfl rfl (hN _ _ (by decide)) ?_
        refine x_iconst dX5_layWidths_24 ?_
        refine x_aload_n dX5_layWidths_25 rfl ?_
        refine x_getR (j := 64) dX5_layWidths_26 gf_RX5_49 rfl rfl (hN _ _ (by decide)) ?_
        refine x_iload dX5_layWidths_29 rfl ?_
        refine x_iald (k) dX5_layWidths_31 rfl (by omega) (show _ < 9 by omega) ?_
        have hjq : j < q := by omega
        have hck := hcn hjq
        rw [hJc hjq]
        refine xf_SI2 dX5_layWidths_32 ml_RX5_82 vw_X5_at st_X5_at (sp_at) ⟨Nat.le_of_ble_eq_true rfl, Nat.le_of_ble_eq_true rfl, Nat.le_of_ble_eq_true rfl, Nat.le_of_ble_eq_true rfl, Nat.le_of_ble_eq_true rfl⟩ ?_
        refine x_iload_n dX5_layWidths_35 rfl ?_
        refine x_iconst dX5_layWidths_36 ?_
        refine x_irem dX5_layWidths_37 (by unfold inr; omega) (by unfold inr; omega) ?_
        refine x_iast (9 * 1 + c k) dX5_layWidths_38 rfl (by omega) (show _ < 63 by omega) ?_
        refine x_iload_n dX5_layWidths_39 rfl ?_
        refine x_iload dX5_layWidths_40 rfl ?_
        refine x_iload_n dX5_layWidths_42 rfl ?_
        refine x_iconst dX5_layWidths_43 ?_
        refine x_irem dX5_layWidths_44 (by unfold inr; omega) (by unfold inr; omega) ?_
        refine x_imul dX5_layWidths_45 ?_
        refine x_iadd dX5_layWidths_46 ?_
        refine x_ist3 dX5_layWidths_47 ?_
        refine x_iload dX5_layWidths_48 rfl ?_
        refine x_bipush dX5_layWidths_50 (by decide) ?_
        refine x_imul dX5_layWidths_52 ?_
        refine x_ist4 dX5_layWidths_53 ?_
        refine x_iload_n dX5_layWidths_55 rfl ?_
        refine x_iconst dX5_layWidths_56 ?_
        refine x_idiv dX5_layWidths_57 (by unfold inr; omega) (by unfold inr; omega) ?_
        refine x_ist2 dX5_layWidths_58 ?_
        refine x_inc5 dX5_layWidths_59 ?_
        refine x_goto 15 dX5_layWidths_62 (by decide) ?_
        have hd : x % 5 = dg5 q row k := by rw [hk, dl_all q hq4 j hjq row hr, h3]; rfl
        have hdb := dg5_b (q := q) (row := row) (j := k)
        have hmn : kpX 51 (9 * 1 + c k) J (up J 51 (9 * 1 + c k) (x % 5)) := (kpM.rf.X).hole
        have hF2 := hmn.fm (f := c k) (k := 1) (by omega) up_s
        refine ih (j + 1) _ _ _ _ _ (by omega) (by omega) (by omega) ?_ ?_ ?_ (fun a b z => ?_) (hmn.RM h7 (by omega) up_s (by rw [hd]; unfold okF; omega)) (fun g b z => ?_) (fun i hi1 hi2 => ?_)
        · rw [h3, dv5]; rfl
        · show _ = tlD row j + (10 : Int) ^ j * ((row / 5 ^ j % 5 : Nat) : Int)
          rw [h4, h5, h3]; rfl
        · rw [h5]; exact (Int.pow_succ 10 j).symm
        · rw [up_n (by omega)]; exact h6 a b z
        · rw [hF2]
          unfold setF
          rw [if_neg]
          · refine h8 g b ?_
            rcases z with z | z
            · exact Or.inl z
            · exact Or.inr (fun i q1 q2 => z i (by omega) q2)
          · rintro ⟨y1, y2⟩
            rcases z with z | z
            · exact z y2
            · exact z k (by omega) (by omega) y1.symm
        · rw [hF2]
          unfold setF
          by_cases e : i = k
          · rw [if_pos ⟨by rw [e], rfl⟩, e, hd]
          · rw [if_neg (fun y => e (hi i hi2 k (by omega) y.1))]
            exact h9 i (by omega) hi2
  refine x_iload_n dX5_layWidths_0 rfl ?_
  refine x_ist2 dX5_layWidths_1 ?_
  refine x_iconst dX5_layWidths_2 ?_
  refine x_ist3 dX5_layWidths_3 ?_
  refine x_iconst dX5_layWidths_4 ?_
  refine x_ist4 dX5_layWidths_5 ?_
  refine x_aload_n dX5_layWidths_7 rfl ?_
  refine x_getI dX5_layWidths_8 gf_RX5_207 rfl rfl ?_
  rw [hm]
  refine x_iconst dX5_layWidths_11 ?_
  refine x_isub dX5_layWidths_12 ?_
  refine x_ist5 dX5_layWidths_13 ?_
  refine lp (q + 1) 0 _ _ _ _ _ (by omega) (by omega) (by omega) (by rw [hzr]; simp) rfl rfl (fun _ _ _ => rfl) hB (fun _ _ _ => rfl) (fun i q1 q2 => by exfalso; omega)
theorem sp_mrests (hN : NS N) (hB : RM I n) {s i : Int} (hs : inr s) (hi : inr i) : SpI G mX5_rests .int 5 116 0 0 [.ref 50, vi s, vi i] K N I (pI K N (fun z J => z = (if 0 < s ∧ s < ((2 ^ n : Nat) : Int) then reA (fm I) (l0M I 0) n s.toNat i else -2) ∧ kpM I J)) := by
  refine SpI.of (own := RX5) (cc := cX5_rests) (L := [some (.ref 50), some (vi s), some (vi i), none, none, none, none, none]) (by decide) rfl rfl (Nat.le_of_ble_eq_true rfl) rfl (fun Fx hnm hret => ?_)
  have hn9 := hB.2.2.1
  have h0n : 0 ≤ ((2 ^ n : Nat) : Int) := Int.natCast_nonneg _
  have h512 : 2 ^ n ≤ 512 := Nat.pow_le_pow_right (n := 2) (j := 9) (by decide) hn9
  refine x_iload_n dX5_rests_0 rfl ?_
  refine x_i2l dX5_rests_1 hs ?_
  refine x_lconst1 dX5_rests_2 ?_
  refine x_iconst dX5_rests_3 ?_
  refine x_aload_n dX5_rests_4 rfl ?_
  refine x_getI dX5_rests_5 gf_RX5_73 rfl rfl ?_
  rw [hB.1]
  refine x_ishl ((2 ^ n : Nat) : Int) dX5_rests_8 (shl_all n (by omega)) ?_
  refine x_iconst dX5_rests_9 ?_
  refine x_isub dX5_rests_10 ?_
  refine x_i2l dX5_rests_11 (by unfold inr; omega) ?_
  refine xf_SI3 dX5_rests_12 ml_RX5_86 vw_X5_in st_X5_in (sp_in (by unfold inl; unfold inr at hs; omega) (by unfold inl; omega) (by unfold inl; omega)) ⟨Nat.le_of_ble_eq_true rfl, Nat.le_of_ble_eq_true rfl, Nat.le_of_ble_eq_true rfl, Nat.le_of_ble_eq_true rfl, Nat.le_of_ble_eq_true rfl⟩ ?_
  refine x_if_ne 21 dX5_rests_15 (by decide) (by unfold inr; split <;> omega) (fun h_15 => ?_) (fun h_15 => ?_)
  · replace h_15 := b1 h_15
    obtain ⟨s, rfl⟩ := toN (show 0 ≤ s by omega)
    have hs5 : s < 512 := by omega
    have hol := onL_len (s := s) (k := n)
    have hbc : ((onL s 9).length : Int) = ((onL s n).length : Int) := by rw [on_all n (by omega) s (by omega)]
    refine x_iload_n dX5_rests_21 rfl ?_
    refine xf_SI1 dX5_rests_22 ml_RX5_213 vw_X5_ones st_X5_ones (sp_ones s hs5 rfl) ⟨Nat.le_of_ble_eq_true rfl, Nat.le_of_ble_eq_true rfl, Nat.le_of_ble_eq_true rfl, Nat.le_of_ble_eq_true rfl, Nat.le_of_ble_eq_true rfl⟩ ?_
    rw [hbc]
    refine x_iconst dX5_rests_25 ?_
    refine x_icmp_le 32 dX5_rests_26 (by decide) (by unfold inr; omega) (by unfold inr; omega) (fun h_26 => ?_) (fun h_26 => ?_)
    · refine x_aload_n dX5_rests_32 rfl ?_
      refine x_iload_n dX5_rests_33 rfl ?_
      refine xp_VV1 dX5_rests_34 ml_RX5_216 vw_X5_layMembers vv_X5_layMembers rfl (sp_layMembers hN hB.1 hn9 hs5 rfl) ⟨Nat.le_of_ble_eq_true rfl, Nat.le_of_ble_eq_true rfl, Nat.le_of_ble_eq_true rfl, Nat.le_of_ble_eq_true rfl, Nat.le_of_ble_eq_true rfl⟩ (fun I1 hq => ?_)
      obtain ⟨hm1, hc1, hk1⟩ := hq
      obtain ⟨q, hqe⟩ : ∃ q, q = (onL s n).length := ⟨_, rfl⟩
      obtain ⟨c, hce⟩ : ∃ c : Nat → Nat, c = fun j => (onL s n).getD j 0 := ⟨_, rfl⟩
      have hq4 : q < 4 := by omega
      have hq0 : 0 < q := by
        have := on0_all n (by omega) s (by omega) (by omega)
        omega
      have hinj : inj1 c q := by rw [hqe, hce]; exact onL_inj
      have hcb : ∀ j, j < q → c j < n := fun j hj => by rw [hce]; exact onL_g (by omega)
      have hc2 : ∀ j, j < q → I1 64 j = (c j : Int) := fun j hj => by rw [hce]; exact hc1 j (by omega)
      rw [← hqe] at hm1
      refine x_aload_n dX5_rests_37 rfl ?_
      refine xf_VV0 dX5_rests_38 ml_RX5_159 vw_X5_keepNow vv_X5_keepNow rfl (sp_keepNow hN) ⟨Nat.le_of_ble_eq_true rfl, Nat.le_of_ble_eq_true rfl, Nat.le_of_ble_eq_true rfl, Nat.le_of_ble_eq_true rfl, Nat.le_of_ble_eq_true rfl⟩ ?_
      refine x_aload_n dX5_rests_41 rfl ?_
      refine x_getI dX5_rests_42 gf_RX5_207 rfl rfl ?_
      rw [show kepJ I1 50 27 = (q : Int) from (if_neg (by omega)).trans ((if_neg (by omega)).trans hm1)]
      refine x_iconst dX5_rests_45 ?_
      refine x_icmp_ne 53 dX5_rests_46 (by decide) (by unfold inr; omega) (by unfold inr; omega) (fun h_46 => ?_) (fun h_46 => ?_)
      · refine x_aload_n dX5_rests_53 rfl ?_
        refine x_getI dX5_rests_54 gf_RX5_207 rfl rfl ?_
        rw [show kepJ I1 50 27 = (q : Int) from (if_neg (by omega)).trans ((if_neg (by omega)).trans hm1)]
        refine x_iconst dX5_rests_57 ?_
        refine x_icmp_ne 66 dX5_rests_58 (by decide) (by unfold inr; omega) (by unfold inr; omega) (fun h_58 => ?_) (fun h_58 => ?_)
        · refine x_bipush dX5_rests_66 (by decide) ?_
          refine x_ist3 dX5_rests_68 ?_
          refine x_iconst dX5_rests_69 ?_
          refine x_ist4 dX5_rests_70 ?_
          refine x_bipush dX5_rests_72 (by decide) ?_
          refine x_ist5 dX5_rests_74 ?_
          refine x_iconst dX5_rests_76 ?_
          refine x_ist6 dX5_rests_77 ?_
          have hs2 : 0 < (s : Int) ∧ (s : Int) < ((2 ^ n : Nat) : Int) := by omega
          obtain ⟨T, hT⟩ : ∃ T : Nat, T = 5 ^ q := ⟨_, rfl⟩
          have hTv : (125 : Int) = (T : Int) := by
            rw [hT]
            first
            | (rw [show q = 1 by omega]; rfl)
            | (rw [show q = 2 by omega]; rfl)
            | (rw [show q = 3 by omega]; rfl)
          rw [hTv]
          have h125 : T ≤ 125 := by rw [hT]; exact Nat.pow_le_pow_right (n := 5) (j := 3) (by decide) (by omega)
          obtain ⟨g, hg⟩ : ∃ g, g = gn5 (fm I) (l0M I 0) q c := ⟨_, rfl⟩
          have hY0 : kpY I (kepJ I1) := fun a b q1 q2 => by
            unfold kepJ
            rw [if_neg (by unfold pcm at q1; omega), if_neg (by unfold pcm at q1; omega)]
            exact hk1 a b (by unfold pcm at q1; omega) (by unfold pcm at q1; omega)
          have hF0 : fm (kepJ I1) = fm I := fm_eq (fun j => by
            unfold kepJ
            rw [if_neg (by omega), if_neg (by omega)]; exact hk1 51 j (by omega) (by omega))
          have hk0 : kpM I (kepJ I1) := fun a b q1 => by
            by_cases y : a = 51 ∧ b < 63
            · unfold kepJ
              rw [if_neg (by omega), if_neg (by omega)]; exact hk1 a b (by omega) (by omega)
            · exact hY0 a b q1 y
          have lp : ∀ (m : Nat) (r : Nat) (y u v : Int) (J : MM), r ≤ T → T < r + m → y = (r : Int) → u = ((reL g q r).length : Int) → v = reS (reL g q r) i → kpY I J → RM J n → (∀ k, k < 63 → J 59 k = I 51 k) → J 50 18 = I 50 5 → J 50 27 = (q : Int) → (∀ j, j < q → J 64 j = (c j : Int)) → (∀ d, wfc (fm J) c d q = wfc (fm I) c d q) → XX G RX5 cX5_rests (RmW 5 116 0 0) Fx 79 [some (.ref 50), some (vi (s : Int)), some (vi i), some (vi (T : Int)), some (vi u), some (vi v), some (vi y), none] [] K N J 0 0 := by
            intro m
            induction m with
            | zero => intros; exfalso; omega
            | succ m ih =>
              intro r y u v J h0 h1 h2 h3 h4 h5 h6 h7 h8 h9 h10 h11
              have hlen : (reL g q r).length ≤ r := clL_len r
              have hst : reL g q (r + 1) = reL g q r ++ (if decide (rsP g q r) = true then [asD r] else []) := rfl
              refine x_iload dX5_rests_79 rfl ?_
              refine x_iload_n dX5_rests_81 rfl ?_
              refine x_icmp_ge 124 dX5_rests_82 (by decide) (by unfold inr; omega) (by unfold inr; omega) (fun h_82 => ?_) (fun h_82 => ?_)
              · refine x_aload_n dX5_rests_124 rfl ?_
                refine xf_VV0 dX5_rests_125 ml_RX5_165 vw_X5_putBack vv_X5_putBack rfl (sp_putBack hN) ⟨Nat.le_of_ble_eq_true rfl, Nat.le_of_ble_eq_true rfl, Nat.le_of_ble_eq_true rfl, Nat.le_of_ble_eq_true rfl, Nat.le_of_ble_eq_true rfl⟩ ?_
                refine x_iload_n dX5_rests_128 rfl ?_
                refine x_iconst dX5_rests_129 ?_
                refine x_icmp_ne 138 dX5_rests_130 (by decide) hi (by unfold inr; omega) (fun h_130 => ?_) (fun h_130 => ?_)
                · refine x_iload dX5_rests_138 rfl ?_
                  refine hret _ _ _ _ _ _ dX5_rests_140 rfl ?_
                  obtain rfl : r = T := by omega
                  refine ⟨rfl, rfl, ?_, bak_kp h5 h7 h8⟩
                  rw [if_pos hs2]
                  show _ = reA (fm I) (l0M I 0) n s i
                  unfold reA
                  rw [← hqe, if_neg (by omega), ← hce, ← hg, ← hT, reS_fo]
                  first
                  | (rw [if_pos (by omega)]; exact h3)
                  | (rw [if_neg (by omega)]; exact h4)
                · refine x_iload dX5_rests_133 rfl ?_
                  refine x_goto 140 dX5_rests_135 (by decide) ?_
                  refine hret _ _ _ _ _ _ dX5_rests_140 rfl ?_
                  obtain rfl : r = T := by omega
                  refine ⟨rfl, rfl, ?_, bak_kp h5 h7 h8⟩
                  rw [if_pos hs2]
                  show _ = reA (fm I) (l0M I 0) n s i
                  unfold reA
                  rw [← hqe, if_neg (by omega), ← hce, ← hg, ← hT, reS_fo]
                  first
                  | (rw [if_pos (by omega)]; exact h3)
                  | (rw [if_neg (by omega)]; exact h4)
              · refine x_aload_n dX5_rests_85 rfl ?_
                refine x_iload dX5_rests_86 rfl ?_
                refine xp_VI1 dX5_rests_88 ml_RX5_219 vw_X5_layWidths vv_X5_layWidths rfl (sp_layWidths hN h6 q r hq4 (by omega) h9 (fun j hj => ⟨h10 j hj, hcb j hj⟩) hinj h2) ⟨Nat.le_of_ble_eq_true rfl, Nat.le_of_ble_eq_true rfl, Nat.le_of_ble_eq_true rfl, Nat.le_of_ble_eq_true rfl, Nat.le_of_ble_eq_true rfl⟩ (fun z2 I2 hq => ?_)
                obtain ⟨hz, hF2, hkw, hB2⟩ := hq
                rw [h11] at hF2
                have hl2 : l0M I2 0 = l0M I 0 := (l0M_eq (hkw 50 2 (by omega)) (hkw 50 3 (by omega)) (hkw 50 4 (by omega))).trans h5.l0
                refine x_ist7 dX5_rests_91 ?_
                refine x_aload_n dX5_rests_93 rfl ?_
                refine xp_VI0 dX5_rests_94 ml_RX5_222 vw_X5_isRest vv_X5_isRest rfl (sp_isRest hN hB2 q r hq4 (by omega) ((hkw 50 27 (by omega)).trans h9) (fun j hj => ⟨(hkw 64 j (by omega)).trans (h10 j hj), hcb j hj⟩) hinj hF2) ⟨Nat.le_of_ble_eq_true rfl, Nat.le_of_ble_eq_true rfl, Nat.le_of_ble_eq_true rfl, Nat.le_of_ble_eq_true rfl, Nat.le_of_ble_eq_true rfl⟩ (fun z3 I3 hq => ?_)
                obtain ⟨hz2, hk3⟩ := hq
                rw [hl2, ← hg] at hz2
                rw [hz2]
                refine x_if_eq 118 dX5_rests_97 (by decide) (by unfold inr; split <;> omega) (fun h_97 => ?_) (fun h_97 => ?_)
                · replace h_97 := b0 h_97
                  refine x_inc6 dX5_rests_118 ?_
                  refine x_goto 79 dX5_rests_121 (by decide) ?_
                  have hYn : kpY I I3 := fun a b q1 q2 => (hk3.1 a b q1).trans ((hkw a b (by omega)).trans (h5 a b q1 q2))
                  have hBn := hk3.1.RM hB2
                  have h7n : ∀ k, k < 63 → I3 59 k = I 51 k := fun k hk => (hk3.2.1 59 k (by omega)).trans ((hkw 59 k (by omega)).trans (h7 k hk))
                  have h8n : I3 50 18 = I 50 5 := (hk3.2.2 18 (by omega)).trans ((hkw 50 18 (by omega)).trans h8)
                  have h9n : I3 50 27 = (q : Int) := (hk3.2.2 27 (by omega)).trans ((hkw 50 27 (by omega)).trans h9)
                  have h10n : ∀ j, j < q → I3 64 j = (c j : Int) := fun j hj => (hk3.2.1 64 j (by omega)).trans ((hkw 64 j (by omega)).trans (h10 j hj))
                  have h11n : ∀ d, wfc (fm I3) c d q = wfc (fm I) c d q := fun d => by rw [hk3.1.fm, hF2, wfc_wfc]
                  first
                  | (rw [if_neg (show ¬ decide (rsP g q r) = true by rw [decide_eq_true_iff]; exact h_97), List.append_nil] at hst
                     refine x_dr7 (ih (r + 1) _ _ _ _ (by omega) (by omega) (by omega) (by rw [hst]; exact h3) (by rw [hst]; exact h4) hYn hBn h7n h8n h9n h10n h11n)
                     done)
                  | (rw [if_pos (show decide (rsP g q r) = true by rw [decide_eq_true_iff]; exact h_97)] at hst
                     refine x_dr7 (ih (r + 1) _ _ _ _ (by omega) (by omega) (by omega) (by rw [hst, List.length_append, h3]; rfl) ?_ hYn hBn h7n h8n h9n h10n h11n)
                     rw [hst, reS_add]
                     first
                     | (rw [if_pos (by omega)]; exact hz)
                     | (rw [if_neg (by omega)]; exact h4))
                · replace h_97 := b1 h_97
                  refine x_iload dX5_rests_100 rfl ?_
                  refine x_iload_n dX5_rests_102 rfl ?_
                  refine x_icmp_ne 111 dX5_rests_103 (by decide) (by unfold inr; omega) hi (fun h_103 => ?_) (fun h_103 => ?_)
                  · refine x_iload dX5_rests_111 rfl ?_
                    refine x_ist5 dX5_rests_113 ?_
                    refine x_inc4 dX5_rests_115 ?_
                    refine x_inc6 dX5_rests_118 ?_
                    refine x_goto 79 dX5_rests_121 (by decide) ?_
                    have hYn : kpY I I3 := fun a b q1 q2 => (hk3.1 a b q1).trans ((hkw a b (by omega)).trans (h5 a b q1 q2))
                    have hBn := hk3.1.RM hB2
                    have h7n : ∀ k, k < 63 → I3 59 k = I 51 k := fun k hk => (hk3.2.1 59 k (by omega)).trans ((hkw 59 k (by omega)).trans (h7 k hk))
                    have h8n : I3 50 18 = I 50 5 := (hk3.2.2 18 (by omega)).trans ((hkw 50 18 (by omega)).trans h8)
                    have h9n : I3 50 27 = (q : Int) := (hk3.2.2 27 (by omega)).trans ((hkw 50 27 (by omega)).trans h9)
                    have h10n : ∀ j, j < q → I3 64 j = (c j : Int) := fun j hj => (hk3.2.1 64 j (by omega)).trans ((hkw 64 j (by omega)).trans (h10 j hj))
                    have h11n : ∀ d, wfc (fm I3) c d q = wfc (fm I) c d q := fun d => by rw [hk3.1.fm, hF2, wfc_wfc]
                    first
                    | (rw [if_neg (show ¬ decide (rsP g q r) = true by rw [decide_eq_true_iff]; exact h_97), List.append_nil] at hst
                       refine x_dr7 (ih (r + 1) _ _ _ _ (by omega) (by omega) (by omega) (by rw [hst]; exact h3) (by rw [hst]; exact h4) hYn hBn h7n h8n h9n h10n h11n)
                       done)
                    | (rw [if_pos (show decide (rsP g q r) = true by rw [decide_eq_true_iff]; exact h_97)] at hst
                       refine x_dr7 (ih (r + 1) _ _ _ _ (by omega) (by omega) (by omega) (by rw [hst, List.length_append, h3]; rfl) ?_ hYn hBn h7n h8n h9n h10n h11n)
                       rw [hst, reS_add]
                       first
                       | (rw [if_pos (by omega)]; exact hz)
                       | (rw [if_neg (by omega)]; exact h4))
                  · refine x_iload dX5_rests_106 rfl ?_
                    refine x_goto 113 dX5_rests_108 (by decide) ?_
                    refine x_ist5 dX5_rests_113 ?_
                    refine x_inc4 dX5_rests_115 ?_
                    refine x_inc6 dX5_rests_118 ?_
                    refine x_goto 79 dX5_rests_121 (by decide) ?_
                    have hYn : kpY I I3 := fun a b q1 q2 => (hk3.1 a b q1).trans ((hkw a b (by omega)).trans (h5 a b q1 q2))
                    have hBn := hk3.1.RM hB2
                    have h7n : ∀ k, k < 63 → I3 59 k = I 51 k := fun k hk => (hk3.2.1 59 k (by omega)).trans ((hkw 59 k (by omega)).trans (h7 k hk))
                    have h8n : I3 50 18 = I 50 5 := (hk3.2.2 18 (by omega)).trans ((hkw 50 18 (by omega)).trans h8)
                    have h9n : I3 50 27 = (q : Int) := (hk3.2.2 27 (by omega)).trans ((hkw 50 27 (by omega)).trans h9)
                    have h10n : ∀ j, j < q → I3 64 j = (c j : Int) := fun j hj => (hk3.2.1 64 j (by omega)).trans ((hkw 64 j (by omega)).trans (h10 j hj))
                    have h11n : ∀ d, wfc (fm I3) c d q = wfc (fm I) c d q := fun d => by rw [hk3.1.fm, hF2, wfc_wfc]
                    first
                    | (rw [if_neg (show ¬ decide (rsP g q r) = true by rw [decide_eq_true_iff]; exact h_97), List.append_nil] at hst
                       refine x_dr7 (ih (r + 1) _ _ _ _ (by omega) (by omega) (by omega) (by rw [hst]; exact h3) (by rw [hst]; exact h4) hYn hBn h7n h8n h9n h10n h11n)
                       done)
                    | (rw [if_pos (show decide (rsP g q r) = true by rw [decide_eq_true_iff]; exact h_97)] at hst
                       refine x_dr7 (ih (r + 1) _ _ _ _ (by omega) (by omega) (by omega) (by rw [hst, List.length_append, h3]; rfl) ?_ hYn hBn h7n h8n h9n h10n h11n)
                       rw [hst, reS_add]
                       first
                       | (rw [if_pos (by omega)]; exact hz)
                       | (rw [if_neg (by omega)]; exact h4))
          exact lp (T + 1) 0 _ _ _ _ (by omega) (by omega) rfl rfl reS_0.symm hY0 (hk0.RM hB) (fun k hk => by
            unfold kepJ
            rw [if_neg (by omega), if_pos ⟨rfl, hk⟩]; exact hk1 51 k (by omega) (by omega)) (by
            unfold kepJ
            rw [if_pos ⟨rfl, rfl⟩]; exact hk1 50 5 (by omega) (by omega)) (by
            unfold kepJ
            rw [if_neg (by omega), if_neg (by omega)]; exact hm1) (fun j hj => by
            unfold kepJ
            rw [if_neg (by omega), if_neg (by omega)]; exact hc2 j hj) (fun d => by rw [hF0])
        · refine x_bipush dX5_rests_61 (by decide) ?_
          refine x_goto 68 dX5_rests_63 (by decide) ?_
          refine x_ist3 dX5_rests_68 ?_
          refine x_iconst dX5_rests_69 ?_
          refine x_ist4 dX5_rests_70 ?_
          refine x_bipush dX5_rests_72 (by decide) ?_
          refine x_ist5 dX5_rests_74 ?_
          refine x_iconst dX5_rests_76 ?_
          refine x_ist6 dX5_rests_77 ?_
          have hs2 : 0 < (s : Int) ∧ (s : Int) < ((2 ^ n : Nat) : Int) := by omega
          obtain ⟨T, hT⟩ : ∃ T : Nat, T = 5 ^ q := ⟨_, rfl⟩
          have hTv : (25 : Int) = (T : Int) := by
            rw [hT]
            first
            | (rw [show q = 1 by omega]; rfl)
            | (rw [show q = 2 by omega]; rfl)
            | (rw [show q = 3 by omega]; rfl)
          rw [hTv]
          have h125 : T ≤ 125 := by rw [hT]; exact Nat.pow_le_pow_right (n := 5) (j := 3) (by decide) (by omega)
          obtain ⟨g, hg⟩ : ∃ g, g = gn5 (fm I) (l0M I 0) q c := ⟨_, rfl⟩
          have hY0 : kpY I (kepJ I1) := fun a b q1 q2 => by
            unfold kepJ
            rw [if_neg (by unfold pcm at q1; omega), if_neg (by unfold pcm at q1; omega)]
            exact hk1 a b (by unfold pcm at q1; omega) (by unfold pcm at q1; omega)
          have hF0 : fm (kepJ I1) = fm I := fm_eq (fun j => by
            unfold kepJ
            rw [if_neg (by omega), if_neg (by omega)]; exact hk1 51 j (by omega) (by omega))
          have hk0 : kpM I (kepJ I1) := fun a b q1 => by
            by_cases y : a = 51 ∧ b < 63
            · unfold kepJ
              rw [if_neg (by omega), if_neg (by omega)]; exact hk1 a b (by omega) (by omega)
            · exact hY0 a b q1 y
          have lp : ∀ (m : Nat) (r : Nat) (y u v : Int) (J : MM), r ≤ T → T < r + m → y = (r : Int) → u = ((reL g q r).length : Int) → v = reS (reL g q r) i → kpY I J → RM J n → (∀ k, k < 63 → J 59 k = I 51 k) → J 50 18 = I 50 5 → J 50 27 = (q : Int) → (∀ j, j < q → J 64 j = (c j : Int)) → (∀ d, wfc (fm J) c d q = wfc (fm I) c d q) → XX G RX5 cX5_rests (RmW 5 116 0 0) Fx 79 [some (.ref 50), some (vi (s : Int)), some (vi i), some (vi (T : Int)), some (vi u), some (vi v), some (vi y), none] [] K N J 0 0 := by
            intro m
            induction m with
            | zero => intros; exfalso; omega
            | succ m ih =>
              intro r y u v J h0 h1 h2 h3 h4 h5 h6 h7 h8 h9 h10 h11
              have hlen : (reL g q r).length ≤ r := clL_len r
              have hst : reL g q (r + 1) = reL g q r ++ (if decide (rsP g q r) = true then [asD r] else []) := rfl
              refine x_iload dX5_rests_79 rfl ?_
              refine x_iload_n dX5_rests_81 rfl ?_
              refine x_icmp_ge 124 dX5_rests_82 (by decide) (by unfold inr; omega) (by unfold inr; omega) (fun h_82 => ?_) (fun h_82 => ?_)
              · refine x_aload_n dX5_rests_124 rfl ?_
                refine xf_VV0 dX5_rests_125 ml_RX5_165 vw_X5_putBack vv_X5_putBack rfl (sp_putBack hN) ⟨Nat.le_of_ble_eq_true rfl, Nat.le_of_ble_eq_true rfl, Nat.le_of_ble_eq_true rfl, Nat.le_of_ble_eq_true rfl, Nat.le_of_ble_eq_true rfl⟩ ?_
                refine x_iload_n dX5_rests_128 rfl ?_
                refine x_iconst dX5_rests_129 ?_
                refine x_icmp_ne 138 dX5_rests_130 (by decide) hi (by unfold inr; omega) (fun h_130 => ?_) (fun h_130 => ?_)
                · refine x_iload dX5_rests_138 rfl ?_
                  refine hret _ _ _ _ _ _ dX5_rests_140 rfl ?_
                  obtain rfl : r = T := by omega
                  refine ⟨rfl, rfl, ?_, bak_kp h5 h7 h8⟩
                  rw [if_pos hs2]
                  show _ = reA (fm I) (l0M I 0) n s i
                  unfold reA
                  rw [← hqe, if_neg (by omega), ← hce, ← hg, ← hT, reS_fo]
                  first
                  | (rw [if_pos (by omega)]; exact h3)
                  | (rw [if_neg (by omega)]; exact h4)
                · refine x_iload dX5_rests_133 rfl ?_
                  refine x_goto 140 dX5_rests_135 (by decide) ?_
                  refine hret _ _ _ _ _ _ dX5_rests_140 rfl ?_
                  obtain rfl : r = T := by omega
                  refine ⟨rfl, rfl, ?_, bak_kp h5 h7 h8⟩
                  rw [if_pos hs2]
                  show _ = reA (fm I) (l0M I 0) n s i
                  unfold reA
                  rw [← hqe, if_neg (by omega), ← hce, ← hg, ← hT, reS_fo]
                  first
                  | (rw [if_pos (by omega)]; exact h3)
                  | (rw [if_neg (by omega)]; exact h4)
              · refine x_aload_n dX5_rests_85 rfl ?_
                refine x_iload dX5_rests_86 rfl ?_
                refine xp_VI1 dX5_rests_88 ml_RX5_219 vw_X5_layWidths vv_X5_layWidths rfl (sp_layWidths hN h6 q r hq4 (by omega) h9 (fun j hj => ⟨h10 j hj, hcb j hj⟩) hinj h2) ⟨Nat.le_of_ble_eq_true rfl, Nat.le_of_ble_eq_true rfl, Nat.le_of_ble_eq_true rfl, Nat.le_of_ble_eq_true rfl, Nat.le_of_ble_eq_true rfl⟩ (fun z2 I2 hq => ?_)
                obtain ⟨hz, hF2, hkw, hB2⟩ := hq
                rw [h11] at hF2
                have hl2 : l0M I2 0 = l0M I 0 := (l0M_eq (hkw 50 2 (by omega)) (hkw 50 3 (by omega)) (hkw 50 4 (by omega))).trans h5.l0
                refine x_ist7 dX5_rests_91 ?_
                refine x_aload_n dX5_rests_93 rfl ?_
                refine xp_VI0 dX5_rests_94 ml_RX5_222 vw_X5_isRest vv_X5_isRest rfl (sp_isRest hN hB2 q r hq4 (by omega) ((hkw 50 27 (by omega)).trans h9) (fun j hj => ⟨(hkw 64 j (by omega)).trans (h10 j hj), hcb j hj⟩) hinj hF2) ⟨Nat.le_of_ble_eq_true rfl, Nat.le_of_ble_eq_true rfl, Nat.le_of_ble_eq_true rfl, Nat.le_of_ble_eq_true rfl, Nat.le_of_ble_eq_true rfl⟩ (fun z3 I3 hq => ?_)
                obtain ⟨hz2, hk3⟩ := hq
                rw [hl2, ← hg] at hz2
                rw [hz2]
                refine x_if_eq 118 dX5_rests_97 (by decide) (by unfold inr; split <;> omega) (fun h_97 => ?_) (fun h_97 => ?_)
                · replace h_97 := b0 h_97
                  refine x_inc6 dX5_rests_118 ?_
                  refine x_goto 79 dX5_rests_121 (by decide) ?_
                  have hYn : kpY I I3 := fun a b q1 q2 => (hk3.1 a b q1).trans ((hkw a b (by omega)).trans (h5 a b q1 q2))
                  have hBn := hk3.1.RM hB2
                  have h7n : ∀ k, k < 63 → I3 59 k = I 51 k := fun k hk => (hk3.2.1 59 k (by omega)).trans ((hkw 59 k (by omega)).trans (h7 k hk))
                  have h8n : I3 50 18 = I 50 5 := (hk3.2.2 18 (by omega)).trans ((hkw 50 18 (by omega)).trans h8)
                  have h9n : I3 50 27 = (q : Int) := (hk3.2.2 27 (by omega)).trans ((hkw 50 27 (by omega)).trans h9)
                  have h10n : ∀ j, j < q → I3 64 j = (c j : Int) := fun j hj => (hk3.2.1 64 j (by omega)).trans ((hkw 64 j (by omega)).trans (h10 j hj))
                  have h11n : ∀ d, wfc (fm I3) c d q = wfc (fm I) c d q := fun d => by rw [hk3.1.fm, hF2, wfc_wfc]
                  first
                  | (rw [if_neg (show ¬ decide (rsP g q r) = true by rw [decide_eq_true_iff]; exact h_97), List.append_nil] at hst
                     refine x_dr7 (ih (r + 1) _ _ _ _ (by omega) (by omega) (by omega) (by rw [hst]; exact h3) (by rw [hst]; exact h4) hYn hBn h7n h8n h9n h10n h11n)
                     done)
                  | (rw [if_pos (show decide (rsP g q r) = true by rw [decide_eq_true_iff]; exact h_97)] at hst
                     refine x_dr7 (ih (r + 1) _ _ _ _ (by omega) (by omega) (by omega) (by rw [hst, List.length_append, h3]; rfl) ?_ hYn hBn h7n h8n h9n h10n h11n)
                     rw [hst, reS_add]
                     first
                     | (rw [if_pos (by omega)]; exact hz)
                     | (rw [if_neg (by omega)]; exact h4))
                · replace h_97 := b1 h_97
                  refine x_iload dX5_rests_100 rfl ?_
                  refine x_iload_n dX5_rests_102 rfl ?_
                  refine x_icmp_ne 111 dX5_rests_103 (by decide) (by unfold inr; omega) hi (fun h_103 => ?_) (fun h_103 => ?_)
                  · refine x_iload dX5_rests_111 rfl ?_
                    refine x_ist5 dX5_rests_113 ?_
                    refine x_inc4 dX5_rests_115 ?_
                    refine x_inc6 dX5_rests_118 ?_
                    refine x_goto 79 dX5_rests_121 (by decide) ?_
                    have hYn : kpY I I3 := fun a b q1 q2 => (hk3.1 a b q1).trans ((hkw a b (by omega)).trans (h5 a b q1 q2))
                    have hBn := hk3.1.RM hB2
                    have h7n : ∀ k, k < 63 → I3 59 k = I 51 k := fun k hk => (hk3.2.1 59 k (by omega)).trans ((hkw 59 k (by omega)).trans (h7 k hk))
                    have h8n : I3 50 18 = I 50 5 := (hk3.2.2 18 (by omega)).trans ((hkw 50 18 (by omega)).trans h8)
                    have h9n : I3 50 27 = (q : Int) := (hk3.2.2 27 (by omega)).trans ((hkw 50 27 (by omega)).trans h9)
                    have h10n : ∀ j, j < q → I3 64 j = (c j : Int) := fun j hj => (hk3.2.1 64 j (by omega)).trans ((hkw 64 j (by omega)).trans (h10 j hj))
                    have h11n : ∀ d, wfc (fm I3) c d q = wfc (fm I) c d q := fun d => by rw [hk3.1.fm, hF2, wfc_wfc]
                    first
                    | (rw [if_neg (show ¬ decide (rsP g q r) = true by rw [decide_eq_true_iff]; exact h_97), List.append_nil] at hst
                       refine x_dr7 (ih (r + 1) _ _ _ _ (by omega) (by omega) (by omega) (by rw [hst]; exact h3) (by rw [hst]; exact h4) hYn hBn h7n h8n h9n h10n h11n)
                       done)
                    | (rw [if_pos (show decide (rsP g q r) = true by rw [decide_eq_true_iff]; exact h_97)] at hst
                       refine x_dr7 (ih (r + 1) _ _ _ _ (by omega) (by omega) (by omega) (by rw [hst, List.length_append, h3]; rfl) ?_ hYn hBn h7n h8n h9n h10n h11n)
                       rw [hst, reS_add]
                       first
                       | (rw [if_pos (by omega)]; exact hz)
                       | (rw [if_neg (by omega)]; exact h4))
                  · refine x_iload dX5_rests_106 rfl ?_
                    refine x_goto 113 dX5_rests_108 (by decide) ?_
                    refine x_ist5 dX5_rests_113 ?_
                    refine x_inc4 dX5_rests_115 ?_
                    refine x_inc6 dX5_rests_118 ?_
                    refine x_goto 79 dX5_rests_121 (by decide) ?_
                    have hYn : kpY I I3 := fun a b q1 q2 => (hk3.1 a b q1).trans ((hkw a b (by omega)).trans (h5 a b q1 q2))
                    have hBn := hk3.1.RM hB2
                    have h7n : ∀ k, k < 63 → I3 59 k = I 51 k := fun k hk => (hk3.2.1 59 k (by omega)).trans ((hkw 59 k (by omega)).trans (h7 k hk))
                    have h8n : I3 50 18 = I 50 5 := (hk3.2.2 18 (by omega)).trans ((hkw 50 18 (by omega)).trans h8)
                    have h9n : I3 50 27 = (q : Int) := (hk3.2.2 27 (by omega)).trans ((hkw 50 27 (by omega)).trans h9)
                    have h10n : ∀ j, j < q → I3 64 j = (c j : Int) := fun j hj => (hk3.2.1 64 j (by omega)).trans ((hkw 64 j (by omega)).trans (h10 j hj))
                    have h11n : ∀ d, wfc (fm I3) c d q = wfc (fm I) c d q := fun d => by rw [hk3.1.fm, hF2, wfc_wfc]
                    first
                    | (rw [if_neg (show ¬ decide (rsP g q r) = true by rw [decide_eq_true_iff]; exact h_97), List.append_nil] at hst
                       refine x_dr7 (ih (r + 1) _ _ _ _ (by omega) (by omega) (by omega) (by rw [hst]; exact h3) (by rw [hst]; exact h4) hYn hBn h7n h8n h9n h10n h11n)
                       done)
                    | (rw [if_pos (show decide (rsP g q r) = true by rw [decide_eq_true_iff]; exact h_97)] at hst
                       refine x_dr7 (ih (r + 1) _ _ _ _ (by omega) (by omega) (by omega) (by rw [hst, List.length_append, h3]; rfl) ?_ hYn hBn h7n h8n h9n h10n h11n)
                       rw [hst, reS_add]
                       first
                       | (rw [if_pos (by omega)]; exact hz)
                       | (rw [if_neg (by omega)]; exact h4))
          exact lp (T + 1) 0 _ _ _ _ (by omega) (by omega) rfl rfl reS_0.symm hY0 (hk0.RM hB) (fun k hk => by
            unfold kepJ
            rw [if_neg (by omega), if_pos ⟨rfl, hk⟩]; exact hk1 51 k (by omega) (by omega)) (by
            unfold kepJ
            rw [if_pos ⟨rfl, rfl⟩]; exact hk1 50 5 (by omega) (by omega)) (by
            unfold kepJ
            rw [if_neg (by omega), if_neg (by omega)]; exact hm1) (fun j hj => by
            unfold kepJ
            rw [if_neg (by omega), if_neg (by omega)]; exact hc2 j hj) (fun d => by rw [hF0])
      · refine x_iconst dX5_rests_49 ?_
        refine x_goto 68 dX5_rests_50 (by decide) ?_
        refine x_ist3 dX5_rests_68 ?_
        refine x_iconst dX5_rests_69 ?_
        refine x_ist4 dX5_rests_70 ?_
        refine x_bipush dX5_rests_72 (by decide) ?_
        refine x_ist5 dX5_rests_74 ?_
        refine x_iconst dX5_rests_76 ?_
        refine x_ist6 dX5_rests_77 ?_
        have hs2 : 0 < (s : Int) ∧ (s : Int) < ((2 ^ n : Nat) : Int) := by omega
        obtain ⟨T, hT⟩ : ∃ T : Nat, T = 5 ^ q := ⟨_, rfl⟩
        have hTv : (5 : Int) = (T : Int) := by
          rw [hT]
          first
          | (rw [show q = 1 by omega]; rfl)
          | (rw [show q = 2 by omega]; rfl)
          | (rw [show q = 3 by omega]; rfl)
        rw [hTv]
        have h125 : T ≤ 125 := by rw [hT]; exact Nat.pow_le_pow_right (n := 5) (j := 3) (by decide) (by omega)
        obtain ⟨g, hg⟩ : ∃ g, g = gn5 (fm I) (l0M I 0) q c := ⟨_, rfl⟩
        have hY0 : kpY I (kepJ I1) := fun a b q1 q2 => by
          unfold kepJ
          rw [if_neg (by unfold pcm at q1; omega), if_neg (by unfold pcm at q1; omega)]
          exact hk1 a b (by unfold pcm at q1; omega) (by unfold pcm at q1; omega)
        have hF0 : fm (kepJ I1) = fm I := fm_eq (fun j => by
          unfold kepJ
          rw [if_neg (by omega), if_neg (by omega)]; exact hk1 51 j (by omega) (by omega))
        have hk0 : kpM I (kepJ I1) := fun a b q1 => by
          by_cases y : a = 51 ∧ b < 63
          · unfold kepJ
            rw [if_neg (by omega), if_neg (by omega)]; exact hk1 a b (by omega) (by omega)
          · exact hY0 a b q1 y
        have lp : ∀ (m : Nat) (r : Nat) (y u v : Int) (J : MM), r ≤ T → T < r + m → y = (r : Int) → u = ((reL g q r).length : Int) → v = reS (reL g q r) i → kpY I J → RM J n → (∀ k, k < 63 → J 59 k = I 51 k) → J 50 18 = I 50 5 → J 50 27 = (q : Int) → (∀ j, j < q → J 64 j = (c j : Int)) → (∀ d, wfc (fm J) c d q = wfc (fm I) c d q) → XX G RX5 cX5_rests (RmW 5 116 0 0) Fx 79 [some (.ref 50), some (vi (s : Int)), some (vi i), some (vi (T : Int)), some (vi u), some (vi v), some (vi y), none] [] K N J 0 0 := by
          intro m
          induction m with
          | zero => intros; exfalso; omega
          | succ m ih =>
            intro r y u v J h0 h1 h2 h3 h4 h5 h6 h7 h8 h9 h10 h11
            have hlen : (reL g q r).length ≤ r := clL_len r
            have hst : reL g q (r + 1) = reL g q r ++ (if decide (rsP g q r) = true then [asD r] else []) := rfl
            refine x_iload dX5_rests_79 rfl ?_
            refine x_iload_n dX5_rests_81 rfl ?_
            refine x_icmp_ge 124 dX5_rests_82 (by decide) (by unfold inr; omega) (by unfold inr; omega) (fun h_82 => ?_) (fun h_82 => ?_)
            · refine x_aload_n dX5_rests_124 rfl ?_
              refine xf_VV0 dX5_rests_125 ml_RX5_165 vw_X5_putBack vv_X5_putBack rfl (sp_putBack hN) ⟨Nat.le_of_ble_eq_true rfl, Nat.le_of_ble_eq_true rfl, Nat.le_of_ble_eq_true rfl, Nat.le_of_ble_eq_true rfl, Nat.le_of_ble_eq_true rfl⟩ ?_
              refine x_iload_n dX5_rests_128 rfl ?_
              refine x_iconst dX5_rests_129 ?_
              refine x_icmp_ne 138 dX5_rests_130 (by decide) hi (by unfold inr; omega) (fun h_130 => ?_) (fun h_130 => ?_)
              · refine x_iload dX5_rests_138 rfl ?_
                refine hret _ _ _ _ _ _ dX5_rests_140 rfl ?_
                obtain rfl : r = T := by omega
                refine ⟨rfl, rfl, ?_, bak_kp h5 h7 h8⟩
                rw [if_pos hs2]
                show _ = reA (fm I) (l0M I 0) n s i
                unfold reA
                rw [← hqe, if_neg (by omega), ← hce, ← hg, ← hT, reS_fo]
                first
                | (rw [if_pos (by omega)]; exact h3)
                | (rw [if_neg (by omega)]; exact h4)
              · refine x_iload dX5_rests_133 rfl ?_
                refine x_goto 140 dX5_rests_135 (by decide) ?_
                refine hret _ _ _ _ _ _ dX5_rests_140 rfl ?_
                obtain rfl : r = T := by omega
                refine ⟨rfl, rfl, ?_, bak_kp h5 h7 h8⟩
                rw [if_pos hs2]
                show _ = reA (fm I) (l0M I 0) n s i
                unfold reA
                rw [← hqe, if_neg (by omega), ← hce, ← hg, ← hT, reS_fo]
                first
                | (rw [if_pos (by omega)]; exact h3)
                | (rw [if_neg (by omega)]; exact h4)
            · refine x_aload_n dX5_rests_85 rfl ?_
              refine x_iload dX5_rests_86 rfl ?_
              refine xp_VI1 dX5_rests_88 ml_RX5_219 vw_X5_layWidths vv_X5_layWidths rfl (sp_layWidths hN h6 q r hq4 (by omega) h9 (fun j hj => ⟨h10 j hj, hcb j hj⟩) hinj h2) ⟨Nat.le_of_ble_eq_true rfl, Nat.le_of_ble_eq_true rfl, Nat.le_of_ble_eq_true rfl, Nat.le_of_ble_eq_true rfl, Nat.le_of_ble_eq_true rfl⟩ (fun z2 I2 hq => ?_)
              obtain ⟨hz, hF2, hkw, hB2⟩ := hq
              rw [h11] at hF2
              have hl2 : l0M I2 0 = l0M I 0 := (l0M_eq (hkw 50 2 (by omega)) (hkw 50 3 (by omega)) (hkw 50 4 (by omega))).trans h5.l0
              refine x_ist7 dX5_rests_91 ?_
              refine x_aload_n dX5_rests_93 rfl ?_
              refine xp_VI0 dX5_rests_94 ml_RX5_222 vw_X5_isRest vv_X5_isRest rfl (sp_isRest hN hB2 q r hq4 (by omega) ((hkw 50 27 (by omega)).trans h9) (fun j hj => ⟨(hkw 64 j (by omega)).trans (h10 j hj), hcb j hj⟩) hinj hF2) ⟨Nat.le_of_ble_eq_true rfl, Nat.le_of_ble_eq_true rfl, Nat.le_of_ble_eq_true rfl, Nat.le_of_ble_eq_true rfl, Nat.le_of_ble_eq_true rfl⟩ (fun z3 I3 hq => ?_)
              obtain ⟨hz2, hk3⟩ := hq
              rw [hl2, ← hg] at hz2
              rw [hz2]
              refine x_if_eq 118 dX5_rests_97 (by decide) (by unfold inr; split <;> omega) (fun h_97 => ?_) (fun h_97 => ?_)
              · replace h_97 := b0 h_97
                refine x_inc6 dX5_rests_118 ?_
                refine x_goto 79 dX5_rests_121 (by decide) ?_
                have hYn : kpY I I3 := fun a b q1 q2 => (hk3.1 a b q1).trans ((hkw a b (by omega)).trans (h5 a b q1 q2))
                have hBn := hk3.1.RM hB2
                have h7n : ∀ k, k < 63 → I3 59 k = I 51 k := fun k hk => (hk3.2.1 59 k (by omega)).trans ((hkw 59 k (by omega)).trans (h7 k hk))
                have h8n : I3 50 18 = I 50 5 := (hk3.2.2 18 (by omega)).trans ((hkw 50 18 (by omega)).trans h8)
                have h9n : I3 50 27 = (q : Int) := (hk3.2.2 27 (by omega)).trans ((hkw 50 27 (by omega)).trans h9)
                have h10n : ∀ j, j < q → I3 64 j = (c j : Int) := fun j hj => (hk3.2.1 64 j (by omega)).trans ((hkw 64 j (by omega)).trans (h10 j hj))
                have h11n : ∀ d, wfc (fm I3) c d q = wfc (fm I) c d q := fun d => by rw [hk3.1.fm, hF2, wfc_wfc]
                first
                | (rw [if_neg (show ¬ decide (rsP g q r) = true by rw [decide_eq_true_iff]; exact h_97), List.append_nil] at hst
                   refine x_dr7 (ih (r + 1) _ _ _ _ (by omega) (by omega) (by omega) (by rw [hst]; exact h3) (by rw [hst]; exact h4) hYn hBn h7n h8n h9n h10n h11n)
                   done)
                | (rw [if_pos (show decide (rsP g q r) = true by rw [decide_eq_true_iff]; exact h_97)] at hst
                   refine x_dr7 (ih (r + 1) _ _ _ _ (by omega) (by omega) (by omega) (by rw [hst, List.length_append, h3]; rfl) ?_ hYn hBn h7n h8n h9n h10n h11n)
                   rw [hst, reS_add]
                   first
                   | (rw [if_pos (by omega)]; exact hz)
                   | (rw [if_neg (by omega)]; exact h4))
              · replace h_97 := b1 h_97
                refine x_iload dX5_rests_100 rfl ?_
                refine x_iload_n dX5_rests_102 rfl ?_
                refine x_icmp_ne 111 dX5_rests_103 (by decide) (by unfold inr; omega) hi (fun h_103 => ?_) (fun h_103 => ?_)
                · refine x_iload dX5_rests_111 rfl ?_
                  refine x_ist5 dX5_rests_113 ?_
                  refine x_inc4 dX5_rests_115 ?_
                  refine x_inc6 dX5_rests_118 ?_
                  refine x_goto 79 dX5_rests_121 (by decide) ?_
                  have hYn : kpY I I3 := fun a b q1 q2 => (hk3.1 a b q1).trans ((hkw a b (by omega)).trans (h5 a b q1 q2))
                  have hBn := hk3.1.RM hB2
                  have h7n : ∀ k, k < 63 → I3 59 k = I 51 k := fun k hk => (hk3.2.1 59 k (by omega)).trans ((hkw 59 k (by omega)).trans (h7 k hk))
                  have h8n : I3 50 18 = I 50 5 := (hk3.2.2 18 (by omega)).trans ((hkw 50 18 (by omega)).trans h8)
                  have h9n : I3 50 27 = (q : Int) := (hk3.2.2 27 (by omega)).trans ((hkw 50 27 (by omega)).trans h9)
                  have h10n : ∀ j, j < q → I3 64 j = (c j : Int) := fun j hj => (hk3.2.1 64 j (by omega)).trans ((hkw 64 j (by omega)).trans (h10 j hj))
                  have h11n : ∀ d, wfc (fm I3) c d q = wfc (fm I) c d q := fun d => by rw [hk3.1.fm, hF2, wfc_wfc]
                  first
                  | (rw [if_neg (show ¬ decide (rsP g q r) = true by rw [decide_eq_true_iff]; exact h_97), List.append_nil] at hst
                     refine x_dr7 (ih (r + 1) _ _ _ _ (by omega) (by omega) (by omega) (by rw [hst]; exact h3) (by rw [hst]; exact h4) hYn hBn h7n h8n h9n h10n h11n)
                     done)
                  | (rw [if_pos (show decide (rsP g q r) = true by rw [decide_eq_true_iff]; exact h_97)] at hst
                     refine x_dr7 (ih (r + 1) _ _ _ _ (by omega) (by omega) (by omega) (by rw [hst, List.length_append, h3]; rfl) ?_ hYn hBn h7n h8n h9n h10n h11n)
                     rw [hst, reS_add]
                     first
                     | (rw [if_pos (by omega)]; exact hz)
                     | (rw [if_neg (by omega)]; exact h4))
                · refine x_iload dX5_rests_106 rfl ?_
                  refine x_goto 113 dX5_rests_108 (by decide) ?_
                  refine x_ist5 dX5_rests_113 ?_
                  refine x_inc4 dX5_rests_115 ?_
                  refine x_inc6 dX5_rests_118 ?_
                  refine x_goto 79 dX5_rests_121 (by decide) ?_
                  have hYn : kpY I I3 := fun a b q1 q2 => (hk3.1 a b q1).trans ((hkw a b (by omega)).trans (h5 a b q1 q2))
                  have hBn := hk3.1.RM hB2
                  have h7n : ∀ k, k < 63 → I3 59 k = I 51 k := fun k hk => (hk3.2.1 59 k (by omega)).trans ((hkw 59 k (by omega)).trans (h7 k hk))
                  have h8n : I3 50 18 = I 50 5 := (hk3.2.2 18 (by omega)).trans ((hkw 50 18 (by omega)).trans h8)
                  have h9n : I3 50 27 = (q : Int) := (hk3.2.2 27 (by omega)).trans ((hkw 50 27 (by omega)).trans h9)
                  have h10n : ∀ j, j < q → I3 64 j = (c j : Int) := fun j hj => (hk3.2.1 64 j (by omega)).trans ((hkw 64 j (by omega)).trans (h10 j hj))
                  have h11n : ∀ d, wfc (fm I3) c d q = wfc (fm I) c d q := fun d => by rw [hk3.1.fm, hF2, wfc_wfc]
                  first
                  | (rw [if_neg (show ¬ decide (rsP g q r) = true by rw [decide_eq_true_iff]; exact h_97), List.append_nil] at hst
                     refine x_dr7 (ih (r + 1) _ _ _ _ (by omega) (by omega) (by omega) (by rw [hst]; exact h3) (by rw [hst]; exact h4) hYn hBn h7n h8n h9n h10n h11n)
                     done)
                  | (rw [if_pos (show decide (rsP g q r) = true by rw [decide_eq_true_iff]; exact h_97)] at hst
                     refine x_dr7 (ih (r + 1) _ _ _ _ (by omega) (by omega) (by omega) (by rw [hst, List.length_append, h3]; rfl) ?_ hYn hBn h7n h8n h9n h10n h11n)
                     rw [hst, reS_add]
                     first
                     | (rw [if_pos (by omega)]; exact hz)
                     | (rw [if_neg (by omega)]; exact h4))
        exact lp (T + 1) 0 _ _ _ _ (by omega) (by omega) rfl rfl reS_0.symm hY0 (hk0.RM hB) (fun k hk => by
          unfold kepJ
          rw [if_neg (by omega), if_pos ⟨rfl, hk⟩]; exact hk1 51 k (by omega) (by omega)) (by
          unfold kepJ
          rw [if_pos ⟨rfl, rfl⟩]; exact hk1 50 5 (by omega) (by omega)) (by
          unfold kepJ
          rw [if_neg (by omega), if_neg (by omega)]; exact hm1) (fun j hj => by
          unfold kepJ
          rw [if_neg (by omega), if_neg (by omega)]; exact hc2 j hj) (fun d => by rw [hF0])
    · refine x_bipush dX5_rests_29 (by decide) ?_
      refine hret _ _ _ _ _ _ dX5_rests_31 rfl ?_
      refine ⟨rfl, rfl, ?_, kpM.rf⟩
      first
      | rw [if_neg (by omega)]
      | (rw [if_pos (by omega), show ((s : Nat) : Int).toNat = s from rfl]; unfold reA; rw [if_pos (by omega)])
  · replace h_15 := b0 h_15
    refine x_bipush dX5_rests_18 (by decide) ?_
    refine hret _ _ _ _ _ _ dX5_rests_20 rfl ?_
    refine ⟨rfl, rfl, ?_, kpM.rf⟩
    first
    | rw [if_neg (by omega)]
    | (rw [if_pos (by omega), show ((s : Nat) : Int).toNat = s from rfl]; unfold reA; rw [if_pos (by omega)])
end FR

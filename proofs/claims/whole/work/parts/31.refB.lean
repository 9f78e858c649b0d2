/-! ===== the reference: signs, sights, flow, what is taken ===== -/
/-- the reference's numbers as they were, but one -/
def kpX (i j : Nat) (I J : MM) : Prop := ∀ a k, pcm a k → ¬ (a = i ∧ k = j) → J a k = I a k
theorem kpM.X {I J : MM} {i j : Nat} (h : kpM I J) : kpX i j I J := fun a k q _ => h a k q
theorem kpX.hole {I J : MM} {i j : Nat} {v : Int} (h : kpX i j I J) : kpX i j I (up J i j v) := fun a k q z => by
  unfold up; rw [if_neg z]; exact h a k q z
theorem kpX.upp {I J : MM} {i j a b : Nat} {v : Int} (h : kpX i j I J) (hi : ¬ pcm a b) : kpX i j I (up J a b v) := fun c k q z => by
  unfold up; rw [if_neg (by rintro ⟨rfl, rfl⟩; exact hi q)]; exact h c k q z
theorem kpX.upc {I J : MM} {i j a b : Nat} {v : Int} (h : kpX i j I J) (hi : 55 ≤ a ∧ a ≤ 64) : kpX i j I (up J a b v) := h.upp (by unfold pcm; omega)
theorem kpX.fl {I J : MM} {i j n : Nat} {kn : Int} (h : kpX i j I J) : kpX i j I (fmJ J kn n) := fun a k q z => by
  rw [fmJ_o (by unfold pcm at q; omega) (by unfold pcm at q; omega)]; exact h a k q z
theorem kpX.tr {I J J2 : MM} {i j : Nat} (h : kpX i j I J) (h2 : kpM J J2) : kpX i j I J2 := fun a k q z => (h2 a k q).trans (h a k q z)
theorem kpX.back {I J : MM} {i j : Nat} {v : Int} (h : kpX i j I J) (hv : v = I i j) : kpM I (up J i j v) := fun a k q => by
  unfold up
  by_cases z : a = i ∧ k = j
  · rw [if_pos z, hv, z.1, z.2]
  · rw [if_neg z]; exact h a k q z
theorem kpX.fm {I J : MM} {f k : Nat} {v : Int} (h : kpX 51 (9 * k + f) I J) (hf : f < 9 ∧ k < 7) (hv : J 51 (9 * k + f) = v) : fm J = setF (fm I) f k v := by
  rw [← fm_put hf]
  refine fm_eq (fun j => ?_)
  unfold up
  by_cases z : j = 9 * k + f
  · rw [if_pos ⟨rfl, z⟩, z]; exact hv
  · rw [if_neg (fun y => z y.2)]; exact h 51 j (by unfold pcm; omega) (fun y => z y.2)
theorem kpX.l0 {I J : MM} {j : Nat} {kn : Int} (h : kpX 51 j I J) : l0M J kn = l0M I kn := l0M_eq (h 50 2 (by unfold pcm; omega) (by omega)) (h 50 3 (by unfold pcm; omega) (by omega)) (h 50 4 (by unfold pcm; omega) (by omega))
theorem kpX.RM {I J : MM} {n f k : Nat} {v : Int} (h : kpX 51 (9 * k + f) I J) (hB : RM I n) (hf : f < 9 ∧ k < 7) (hv : J 51 (9 * k + f) = v) (ho : okF k v) : RM J n := (hB.put hf ho).of ((h 50 0 (by unfold pcm; omega) (by omega)).trans (up_n1 (by omega)).symm) ((h.fm hf hv).trans (fm_put hf).symm) ((h 50 2 (by unfold pcm; omega) (by omega)).trans (up_n1 (by omega)).symm) ((h 50 3 (by unfold pcm; omega) (by omega)).trans (up_n1 (by omega)).symm) ((h 50 4 (by unfold pcm; omega) (by omega)).trans (up_n1 (by omega)).symm)
theorem tok_A {F : FT} {kn l0 : Int} {f : Nat} : tkA F kn (sto F kn l0 f) f = tok F kn l0 f := rfl
theorem sto_A {F : FT} {kn l0 : Int} {f : Nat} : sto F kn l0 f = max 0 (lva F kn l0 f - F f 5) := rfl
theorem lva_A {F : FT} {kn l0 : Int} {f : Nat} : lva F kn l0 (f + 1) = sto F kn l0 f - tok F kn l0 f := rfl
theorem xor1 {v : Int} (h : v = 0 ∨ v = 1) : Int32.ofInt v ^^^ Int32.ofInt 1 = Int32.ofInt (1 - v) := by rcases h with rfl | rfl <;> decide
section FR
variable {G : GT} {K : List Nat} {N : NN} {I : MM} {n : Nat}
theorem sp_msay (hN : NS N) {d : Nat} (hd : I 50 10 = (d : Int)) (h60 : d ≤ 60) {s : Int} (hs : inr s) : SpI G mX5_say .int 1 25 0 0 [.ref 50, vi s] K N I (qI K N (if (33 ≤ s ∧ s ≤ 126) ∧ d < 60 then up (up I 54 d s) 50 10 (d + 1) else I) (if ¬ (33 ≤ s ∧ s ≤ 126) then -2 else if d < 60 then (d : Int) + 1 else -4)) := by
  refine SpI.of (own := RX5) (cc := cX5_say) (L := [some (.ref 50), some (vi s)]) (by decide) rfl rfl (Nat.le_of_ble_eq_true rfl) rfl (fun Fx hnm hret => ?_)
  refine x_iload_n dX5_say_0 rfl ?_
  refine x_i2l dX5_say_1 hs ?_
  refine x_ldc2 dX5_say_2 ct_RX5_108 ?_
  refine x_ldc2 dX5_say_5 ct_RX5_110 ?_
  refine xf_SI3 dX5_say_8 ml_RX5_86 vw_X5_in st_X5_in (sp_in (by unfold inl; unfold inr at hs; omega) (by unfold inl; omega) (by unfold inl; omega)) ⟨Nat.le_of_ble_eq_true rfl, Nat.le_of_ble_eq_true rfl, Nat.le_of_ble_eq_true rfl, Nat.le_of_ble_eq_true rfl, Nat.le_of_ble_eq_true rfl⟩ ?_
  refine x_if_ne 17 dX5_say_11 (by decide) (by unfold inr; split <;> omega) (fun h_11 => ?_) (fun h_11 => ?_)
  · replace h_11 := b1 h_11
    refine x_aload_n dX5_say_17 rfl ?_
    refine x_getI dX5_say_18 gf_RX5_112 rfl rfl ?_
    rw [hd]
    refine x_bipush dX5_say_21 (by decide) ?_
    refine x_icmp_ne 29 dX5_say_23 (by decide) (by unfold inr; omega) (by unfold inr; omega) (fun h_23 => ?_) (fun h_23 => ?_)
    · refine x_aload_n dX5_say_29 rfl ?_
      refine x_getR (j := 54) dX5_say_30 gf_RX5_19 rfl rfl (hN _ _ (by decide)) ?_
      refine x_aload_n dX5_say_33 rfl ?_
      refine x_getI dX5_say_34 gf_RX5_112 rfl rfl ?_
      rw [hd]
      refine x_iload_n dX5_say_37 rfl ?_
      refine x_iast (d) dX5_say_38 rfl (by omega) (show _ < 60 by omega) ?_
      refine x_aload_n dX5_say_39 rfl ?_
      refine x_dupR dX5_say_40 ?_
      refine x_getI dX5_say_41 gf_RX5_112 rfl rfl ?_
      rw [up_n1 (by omega), hd]
      refine x_iconst dX5_say_44 ?_
      refine x_iadd dX5_say_45 ?_
      refine x_putI dX5_say_46 pf_RX5_112 rfl rfl ?_
      refine x_aload_n dX5_say_49 rfl ?_
      refine x_getI dX5_say_50 gf_RX5_112 rfl rfl ?_
      rw [up_s]
      refine hret _ _ _ _ _ _ dX5_say_53 rfl ?_
      refine ⟨rfl, rfl, ?_, ?_⟩ <;> (repeat (first | rw [if_pos (by omega)] | rw [if_neg (by omega)])) <;> first | rfl | omega
    · refine x_bipush dX5_say_26 (by decide) ?_
      refine hret _ _ _ _ _ _ dX5_say_28 rfl ?_
      refine ⟨rfl, rfl, ?_, ?_⟩ <;> (repeat (first | rw [if_pos (by omega)] | rw [if_neg (by omega)])) <;> first | rfl | omega
  · replace h_11 := b0 h_11
    refine x_bipush dX5_say_14 (by decide) ?_
    refine hret _ _ _ _ _ _ dX5_say_16 rfl ?_
    refine ⟨rfl, rfl, ?_, ?_⟩ <;> (repeat (first | rw [if_pos (by omega)] | rw [if_neg (by omega)])) <;> first | rfl | omega
theorem sp_mwipe (hN : NS N) : SpI G mX5_wipe .int 0 0 0 0 [.ref 50] K N I (qI K N (up I 50 10 0) (I 50 10)) := by
  refine SpI.of (own := RX5) (cc := cX5_wipe) (L := [some (.ref 50), none]) (by decide) rfl rfl (Nat.le_of_ble_eq_true rfl) rfl (fun Fx hnm hret => ?_)
  refine x_aload_n dX5_wipe_0 rfl ?_
  refine x_getI dX5_wipe_1 gf_RX5_112 rfl rfl ?_
  refine x_ist1 dX5_wipe_4 ?_
  refine x_aload_n dX5_wipe_5 rfl ?_
  refine x_iconst dX5_wipe_6 ?_
  refine x_putI dX5_wipe_7 pf_RX5_112 rfl rfl ?_
  refine x_iload_n dX5_wipe_10 rfl ?_
  refine hret _ _ _ _ _ _ dX5_wipe_11 rfl ?_
  exact ⟨rfl, rfl, rfl, rfl⟩
theorem sp_mforget (hN : NS N) : SpI G mX5_forget .int 0 0 0 0 [.ref 50] K N I (qI K N (up I 50 8 0) (I 50 8)) := by
  refine SpI.of (own := RX5) (cc := cX5_forget) (L := [some (.ref 50), none]) (by decide) rfl rfl (Nat.le_of_ble_eq_true rfl) rfl (fun Fx hnm hret => ?_)
  refine x_aload_n dX5_forget_0 rfl ?_
  refine x_getI dX5_forget_1 gf_RX5_79 rfl rfl ?_
  refine x_ist1 dX5_forget_4 ?_
  refine x_aload_n dX5_forget_5 rfl ?_
  refine x_iconst dX5_forget_6 ?_
  refine x_putI dX5_forget_7 pf_RX5_79 rfl rfl ?_
  refine x_iload_n dX5_forget_10 rfl ?_
  refine hret _ _ _ _ _ _ dX5_forget_11 rfl ?_
  exact ⟨rfl, rfl, rfl, rfl⟩
theorem sp_mseen (hN : NS N) (hB : RM I n) {s : Nat} (hs : I 50 8 = (s : Int)) (h8 : s ≤ 8) {f t : Int} (hf : inr f) (ht : inr t) : SpI G mX5_seen .int 2 46 0 0 [.ref 50, vi f, vi t] K N I (qI K N (if (0 ≤ f ∧ f < n) ∧ (0 ≤ t ∧ t ≤ 9) ∧ s < 8 then up (up (up I 52 s f) 53 s t) 50 8 (s + 1) else I) (if ¬ (0 ≤ f ∧ f < n) then -1 else if ¬ (0 ≤ t ∧ t ≤ 9) then -2 else if s < 8 then (s : Int) + 1 else -4)) := by
  refine SpI.of (own := RX5) (cc := cX5_seen) (L := [some (.ref 50), some (vi f), some (vi t)]) (by decide) rfl rfl (Nat.le_of_ble_eq_true rfl) rfl (fun Fx hnm hret => ?_)
  have hn9 := hB.2.2.1
  refine x_aload_n dX5_seen_0 rfl ?_
  refine x_iload_n dX5_seen_1 rfl ?_
  refine xf_VI1 dX5_seen_2 ml_RX5_92 vw_X5_isFarm vv_X5_isFarm rfl (sp_isFarm hB.1 hn9 hf) ⟨Nat.le_of_ble_eq_true rfl, Nat.le_of_ble_eq_true rfl, Nat.le_of_ble_eq_true rfl, Nat.le_of_ble_eq_true rfl, Nat.le_of_ble_eq_true rfl⟩ ?_
  refine x_if_ne 10 dX5_seen_5 (by decide) (by unfold inr; split <;> omega) (fun h_5 => ?_) (fun h_5 => ?_)
  · replace h_5 := b1 h_5
    refine x_iload_n dX5_seen_10 rfl ?_
    refine x_i2l dX5_seen_11 ht ?_
    refine x_lconst0 dX5_seen_12 ?_
    refine x_ldc2 dX5_seen_13 ct_RX5_90 ?_
    refine xf_SI3 dX5_seen_16 ml_RX5_86 vw_X5_in st_X5_in (sp_in (by unfold inl; unfold inr at ht; omega) (by unfold inl; omega) (by unfold inl; omega)) ⟨Nat.le_of_ble_eq_true rfl, Nat.le_of_ble_eq_true rfl, Nat.le_of_ble_eq_true rfl, Nat.le_of_ble_eq_true rfl, Nat.le_of_ble_eq_true rfl⟩ ?_
    refine x_if_ne 25 dX5_seen_19 (by decide) (by unfold inr; split <;> omega) (fun h_19 => ?_) (fun h_19 => ?_)
    · replace h_19 := b1 h_19
      refine x_aload_n dX5_seen_25 rfl ?_
      refine x_getI dX5_seen_26 gf_RX5_79 rfl rfl ?_
      rw [hs]
      refine x_bipush dX5_seen_29 (by decide) ?_
      refine x_icmp_ne 37 dX5_seen_31 (by decide) (by unfold inr; omega) (by unfold inr; omega) (fun h_31 => ?_) (fun h_31 => ?_)
      · refine x_aload_n dX5_seen_37 rfl ?_
        refine x_getR (j := 52) dX5_seen_38 gf_RX5_13 rfl rfl (hN _ _ (by decide)) ?_
        refine x_aload_n dX5_seen_41 rfl ?_
        refine x_getI dX5_seen_42 gf_RX5_79 rfl rfl ?_
        rw [hs]
        refine x_iload_n dX5_seen_45 rfl ?_
        refine x_iast (s) dX5_seen_46 rfl (by omega) (show _ < 8 by omega) ?_
        refine x_aload_n dX5_seen_47 rfl ?_
        refine x_getR (j := 53) dX5_seen_48 gf_RX5_16 rfl rfl (hN _ _ (by decide)) ?_
        refine x_aload_n dX5_seen_51 rfl ?_
        refine x_getI dX5_seen_52 gf_RX5_79 rfl rfl ?_
        rw [up_n1 (by omega), hs]
        refine x_iload_n dX5_seen_55 rfl ?_
        refine x_iast (s) dX5_seen_56 rfl (by omega) (show _ < 8 by omega) ?_
        refine x_aload_n dX5_seen_57 rfl ?_
        refine x_dupR dX5_seen_58 ?_
        refine x_getI dX5_seen_59 gf_RX5_79 rfl rfl ?_
        rw [up_n1 (by omega), up_n1 (by omega), hs]
        refine x_iconst dX5_seen_62 ?_
        refine x_iadd dX5_seen_63 ?_
        refine x_putI dX5_seen_64 pf_RX5_79 rfl rfl ?_
        refine x_aload_n dX5_seen_67 rfl ?_
        refine x_getI dX5_seen_68 gf_RX5_79 rfl rfl ?_
        rw [up_s]
        refine hret _ _ _ _ _ _ dX5_seen_71 rfl ?_
        refine ⟨rfl, rfl, ?_, ?_⟩ <;> (repeat (first | rw [if_pos (by omega)] | rw [if_neg (by omega)])) <;> first | rfl | omega
      · refine x_bipush dX5_seen_34 (by decide) ?_
        refine hret _ _ _ _ _ _ dX5_seen_36 rfl ?_
        refine ⟨rfl, rfl, ?_, ?_⟩ <;> (repeat (first | rw [if_pos (by omega)] | rw [if_neg (by omega)])) <;> first | rfl | omega
    · replace h_19 := b0 h_19
      refine x_bipush dX5_seen_22 (by decide) ?_
      refine hret _ _ _ _ _ _ dX5_seen_24 rfl ?_
      refine ⟨rfl, rfl, ?_, ?_⟩ <;> (repeat (first | rw [if_pos (by omega)] | rw [if_neg (by omega)])) <;> first | rfl | omega
  · replace h_5 := b0 h_5
    refine x_iconst dX5_seen_8 ?_
    refine hret _ _ _ _ _ _ dX5_seen_9 rfl ?_
    refine ⟨rfl, rfl, ?_, ?_⟩ <;> (repeat (first | rw [if_pos (by omega)] | rw [if_neg (by omega)])) <;> first | rfl | omega
theorem sp_mflow (hN : NS N) (hB : RM I n) {kn : Int} (hk : inr kn) : SpV G mX5_flow 2 46 0 0 [.ref 50, vi kn] K N I (qV K N (fmJ I kn n)) := by
  refine SpV.of (own := RX5) (cc := cX5_flow) (L := [some (.ref 50), some (vi kn), none, none]) (by decide) rfl rfl (Nat.le_of_ble_eq_true rfl) rfl (fun Fx hnm hret => ?_)
  have hn9 := hB.2.2.1
  obtain ⟨-, -, -, -, b2, b3, b4⟩ := id hB
  have lp : ∀ (m : Nat) (f : Nat) (z l : Int) (J : MM), f ≤ n → n < f + m → z = (f : Int) → l = lva (fm I) kn (l0M I kn) f → J = fmS I kn f → XX G RX5 cX5_flow (RmW 2 46 0 0) Fx 45 [some (.ref 50), some (vi kn), some (vi l), some (vi z)] [] K N J 0 0 := by
    intro m
    induction m with
    | zero => intros; exfalso; omega
    | succ m ih =>
      intro f z l J h0 h1 h2 h3 h4
      have hk0 : kpM I J := by rw [h4]; exact fun a k q => fmS_o (by unfold pcm at q; omega)
      have hJ0 : J 50 0 = (n : Int) := (hk0 50 0 (by unfold pcm; omega)).trans hB.1
      have hBJ := hk0.RM hB
      have hbf : f < n → _ := hB.2.2.2.1 f
      have hlv := hB.lv kn f h0
      rw [← h3] at hlv
      have h5 : f < n → J 51 (9 * 5 + f) = fm I f 5 := fun hf => by rw [← hk0.fm, fm_at (by omega)]
      have hst : f < n → max 0 (l - fm I f 5) = sto (fm I) kn (l0M I kn) f := fun hf => by rw [h3]; rfl
      refine x_iload_n dX5_flow_45 rfl ?_
      refine x_aload_n dX5_flow_46 rfl ?_
      refine x_getI dX5_flow_47 gf_RX5_73 rfl rfl ?_
      rw [hJ0]
      refine x_icmp_ge 119 dX5_flow_50 (by decide) (by unfold inr; omega) (by unfold inr; omega) (fun h_50 => ?_) (fun h_50 => ?_)
      · refine x_aload_n dX5_flow_119 rfl ?_
        refine x_iload_n dX5_flow_120 rfl ?_
        refine x_putI dX5_flow_121 pf_RX5_128 rfl rfl ?_
        refine hret _ _ _ _ _ dX5_flow_124 ?_
        obtain rfl : f = n := by omega
        refine ⟨rfl, rfl, ?_⟩
        rw [h3, h4]
        funext a k
        unfold up fmJ
        rfl
      · refine x_iload_n dX5_flow_53 rfl ?_
        refine x_iload_n dX5_flow_54 rfl ?_
        refine x_aload_n dX5_flow_55 rfl ?_
        refine x_getR (j := 51) dX5_flow_56 gf_RX5_7 rfl rfl (hN _ _ (by decide)) ?_
        refine x_iconst dX5_flow_59 ?_
        refine x_iload_n dX5_flow_60 rfl ?_
        refine xf_SI2 dX5_flow_61 ml_RX5_82 vw_X5_at st_X5_at (sp_at) ⟨Nat.le_of_ble_eq_true rfl, Nat.le_of_ble_eq_true rfl, Nat.le_of_ble_eq_true rfl, Nat.le_of_ble_eq_true rfl, Nat.le_of_ble_eq_true rfl⟩ ?_
        refine x_iald (9 * 5 + f) dX5_flow_64 rfl (by omega) (show _ < 63 by omega) ?_
        rw [h5 (by omega)]
        refine x_icmp_ge 72 dX5_flow_65 (by decide) (by have := hbf (by omega); unfold inr; omega) (by have := hbf (by omega); unfold inr; omega) (fun h_65 => ?_) (fun h_65 => ?_)
        · refine x_aload_n dX5_flow_72 rfl ?_
          refine x_getR (j := 51) dX5_flow_73 gf_RX5_7 rfl rfl (hN _ _ (by decide)) ?_
          refine x_iconst dX5_flow_76 ?_
          refine x_iload_n dX5_flow_77 rfl ?_
          refine xf_SI2 dX5_flow_78 ml_RX5_82 vw_X5_at st_X5_at (sp_at) ⟨Nat.le_of_ble_eq_true rfl, Nat.le_of_ble_eq_true rfl, Nat.le_of_ble_eq_true rfl, Nat.le_of_ble_eq_true rfl, Nat.le_of_ble_eq_true rfl⟩ ?_
          refine x_iald (9 * 5 + f) dX5_flow_81 rfl (by omega) (show _ < 63 by omega) ?_
          rw [h5 (by omega)]
          refine x_isub dX5_flow_82 ?_
          have hbf2 := hbf (by omega)
          first
          | refine x_eqV (b := max 0 (l - fm I f 5)) (by omega) ?_
          | skip
          rw [hst (by omega)]
          have hso : 0 ≤ sto (fm I) kn (l0M I kn) f ∧ sto (fm I) kn (l0M I kn) f ≤ 149 := by rw [← hst (by omega)]; omega
          obtain ⟨so, hso2⟩ : ∃ so, so = sto (fm I) kn (l0M I kn) f := ⟨_, rfl⟩
          rw [← hso2] at hso ⊢
          have hBL : RM (up J 58 f so) n := (hk0.upc (by omega)).RM hB
          refine x_ist2 dX5_flow_83 ?_
          refine x_aload_n dX5_flow_84 rfl ?_
          refine x_getR (j := 58) dX5_flow_85 gf_RX5_31 rfl rfl (hN _ _ (by decide)) ?_
          refine x_iload_n dX5_flow_88 rfl ?_
          refine x_iload_n dX5_flow_89 rfl ?_
          refine x_iast (f) dX5_flow_90 rfl (by omega) (show _ < 9 by omega) ?_
          refine x_aload_n dX5_flow_91 rfl ?_
          refine x_getR (j := 57) dX5_flow_92 gf_RX5_28 rfl rfl (hN _ _ (by decide)) ?_
          refine x_iload_n dX5_flow_95 rfl ?_
          refine x_aload_n dX5_flow_96 rfl ?_
          refine x_iload_n dX5_flow_97 rfl ?_
          refine x_iload_n dX5_flow_98 rfl ?_
          refine x_iload_n dX5_flow_99 rfl ?_
          refine xf_VI3 dX5_flow_100 ml_RX5_124 vw_X5_takenAt vv_X5_takenAt rfl (sp_takenAt hN hBL f (by omega) h2 (by have := hbf (by omega); omega) hk) ⟨Nat.le_of_ble_eq_true rfl, Nat.le_of_ble_eq_true rfl, Nat.le_of_ble_eq_true rfl, Nat.le_of_ble_eq_true rfl, Nat.le_of_ble_eq_true rfl⟩ ?_
          rw [show tkA (fm (up J 58 f so)) kn so f = tok (fm I) kn (l0M I kn) f by rw [(hk0.upc (by omega)).fm, hso2]; rfl]
          refine x_iast (f) dX5_flow_103 rfl (by omega) (show _ < 9 by omega) ?_
          refine x_iload_n dX5_flow_104 rfl ?_
          refine x_aload_n dX5_flow_105 rfl ?_
          refine x_getR (j := 57) dX5_flow_106 gf_RX5_28 rfl rfl (hN _ _ (by decide)) ?_
          refine x_iload_n dX5_flow_109 rfl ?_
          refine x_iald (f) dX5_flow_110 rfl (by omega) (show _ < 9 by omega) ?_
          rw [up_s]
          refine x_isub dX5_flow_111 ?_
          refine x_ist2 dX5_flow_112 ?_
          refine x_inc3 dX5_flow_113 ?_
          refine x_goto 45 dX5_flow_116 (by decide) ?_
          refine ih (f + 1) _ _ _ (by omega) (by omega) (by omega) (by rw [lva_A, ← hso2]) ?_
          rw [h4]
          exact fmS_st hso2 rfl
        · refine x_iload_n dX5_flow_68 rfl ?_
          refine x_goto 82 dX5_flow_69 (by decide) ?_
          refine x_isub dX5_flow_82 ?_
          have hbf2 := hbf (by omega)
          first
          | refine x_eqV (b := max 0 (l - fm I f 5)) (by omega) ?_
          | skip
          rw [hst (by omega)]
          have hso : 0 ≤ sto (fm I) kn (l0M I kn) f ∧ sto (fm I) kn (l0M I kn) f ≤ 149 := by rw [← hst (by omega)]; omega
          obtain ⟨so, hso2⟩ : ∃ so, so = sto (fm I) kn (l0M I kn) f := ⟨_, rfl⟩
          rw [← hso2] at hso ⊢
          have hBL : RM (up J 58 f so) n := (hk0.upc (by omega)).RM hB
          refine x_ist2 dX5_flow_83 ?_
          refine x_aload_n dX5_flow_84 rfl ?_
          refine x_getR (j := 58) dX5_flow_85 gf_RX5_31 rfl rfl (hN _ _ (by decide)) ?_
          refine x_iload_n dX5_flow_88 rfl ?_
          refine x_iload_n dX5_flow_89 rfl ?_
          refine x_iast (f) dX5_flow_90 rfl (by omega) (show _ < 9 by omega) ?_
          refine x_aload_n dX5_flow_91 rfl ?_
          refine x_getR (j := 57) dX5_flow_92 gf_RX5_28 rfl rfl (hN _ _ (by decide)) ?_
          refine x_iload_n dX5_flow_95 rfl ?_
          refine x_aload_n dX5_flow_96 rfl ?_
          refine x_iload_n dX5_flow_97 rfl ?_
          refine x_iload_n dX5_flow_98 rfl ?_
          refine x_iload_n dX5_flow_99 rfl ?_
          refine xf_VI3 dX5_flow_100 ml_RX5_124 vw_X5_takenAt vv_X5_takenAt rfl (sp_takenAt hN hBL f (by omega) h2 (by have := hbf (by omega); omega) hk) ⟨Nat.le_of_ble_eq_true rfl, Nat.le_of_ble_eq_true rfl, Nat.le_of_ble_eq_true rfl, Nat.le_of_ble_eq_true rfl, Nat.le_of_ble_eq_true rfl⟩ ?_
          rw [show tkA (fm (up J 58 f so)) kn so f = tok (fm I) kn (l0M I kn) f by rw [(hk0.upc (by omega)).fm, hso2]; rfl]
          refine x_iast (f) dX5_flow_103 rfl (by omega) (show _ < 9 by omega) ?_
          refine x_iload_n dX5_flow_104 rfl ?_
          refine x_aload_n dX5_flow_105 rfl ?_
          refine x_getR (j := 57) dX5_flow_106 gf_RX5_28 rfl rfl (hN _ _ (by decide)) ?_
          refine x_iload_n dX5_flow_109 rfl ?_
          refine x_iald (f) dX5_flow_110 rfl (by omega) (show _ < 9 by omega) ?_
          rw [up_s]
          refine x_isub dX5_flow_111 ?_
          refine x_ist2 dX5_flow_112 ?_
          refine x_inc3 dX5_flow_113 ?_
          refine x_goto 45 dX5_flow_116 (by decide) ?_
          refine ih (f + 1) _ _ _ (by omega) (by omega) (by omega) (by rw [lva_A, ← hso2]) ?_
          rw [h4]
          exact fmS_st hso2 rfl
  have l43 : ∀ v : Int, v = l0M I kn → XX G RX5 cX5_flow (RmW 2 46 0 0) Fx 43 [some (.ref 50), some (vi kn), some (vi v), none] [] K N I 0 0 := by
    intro v hv
    refine x_iconst dX5_flow_43 ?_
    refine x_ist3 dX5_flow_44 ?_
    refine lp (n + 1) 0 _ _ _ (by omega) (by omega) rfl hv ?_
    funext a k
    unfold fmS
    rw [if_neg (by omega), if_neg (by omega)]
  refine x_aload_n dX5_flow_0 rfl ?_
  refine x_getI dX5_flow_1 gf_RX5_66 rfl rfl ?_
  refine x_iload_n dX5_flow_4 rfl ?_
  refine x_iconst dX5_flow_5 ?_
  refine x_icmp_ne 16 dX5_flow_6 (by decide) hk (by unfold inr; omega) (fun h_6 => ?_) (fun h_6 => ?_)
  · refine x_iconst dX5_flow_16 ?_
    refine x_iadd dX5_flow_17 ?_
    refine x_iload_n dX5_flow_18 rfl ?_
    refine x_iconst dX5_flow_19 ?_
    refine x_icmp_ne 30 dX5_flow_20 (by decide) hk (by unfold inr; omega) (fun h_20 => ?_) (fun h_20 => ?_)
    · refine x_iconst dX5_flow_30 ?_
      refine x_isub dX5_flow_31 ?_
      refine x_ist2 dX5_flow_32 ?_
      refine x_iload_n dX5_flow_33 rfl ?_
      refine x_if_ge 41 dX5_flow_34 (by decide) (by unfold inr; omega) (fun h_34 => ?_) (fun h_34 => ?_)
      · refine x_iload_n dX5_flow_41 rfl ?_
        refine x_ist2 dX5_flow_42 ?_
        refine l43 _ ?_
        unfold l0M
        first
        | (rw [if_pos (by omega), if_neg (by omega)]; omega)
        | (rw [if_neg (by omega), if_pos (by omega)]; omega)
        | (rw [if_neg (by omega), if_neg (by omega)]; omega)
        | (exfalso; omega)
      · refine x_iconst dX5_flow_37 ?_
        refine x_goto 42 dX5_flow_38 (by decide) ?_
        refine x_ist2 dX5_flow_42 ?_
        refine l43 _ ?_
        unfold l0M
        first
        | (rw [if_pos (by omega), if_neg (by omega)]; omega)
        | (rw [if_neg (by omega), if_pos (by omega)]; omega)
        | (rw [if_neg (by omega), if_neg (by omega)]; omega)
        | (exfalso; omega)
    · refine x_aload_n dX5_flow_23 rfl ?_
      refine x_getI dX5_flow_24 gf_RX5_63 rfl rfl ?_
      refine x_goto 31 dX5_flow_27 (by decide) ?_
      refine x_isub dX5_flow_31 ?_
      refine x_ist2 dX5_flow_32 ?_
      refine x_iload_n dX5_flow_33 rfl ?_
      refine x_if_ge 41 dX5_flow_34 (by decide) (by unfold inr; omega) (fun h_34 => ?_) (fun h_34 => ?_)
      · refine x_iload_n dX5_flow_41 rfl ?_
        refine x_ist2 dX5_flow_42 ?_
        refine l43 _ ?_
        unfold l0M
        first
        | (rw [if_pos (by omega), if_neg (by omega)]; omega)
        | (rw [if_neg (by omega), if_pos (by omega)]; omega)
        | (rw [if_neg (by omega), if_neg (by omega)]; omega)
        | (exfalso; omega)
      · refine x_iconst dX5_flow_37 ?_
        refine x_goto 42 dX5_flow_38 (by decide) ?_
        refine x_ist2 dX5_flow_42 ?_
        refine l43 _ ?_
        unfold l0M
        first
        | (rw [if_pos (by omega), if_neg (by omega)]; omega)
        | (rw [if_neg (by omega), if_pos (by omega)]; omega)
        | (rw [if_neg (by omega), if_neg (by omega)]; omega)
        | (exfalso; omega)
  · refine x_aload_n dX5_flow_9 rfl ?_
    refine x_getI dX5_flow_10 gf_RX5_59 rfl rfl ?_
    refine x_goto 17 dX5_flow_13 (by decide) ?_
    refine x_iadd dX5_flow_17 ?_
    refine x_iload_n dX5_flow_18 rfl ?_
    refine x_iconst dX5_flow_19 ?_
    refine x_icmp_ne 30 dX5_flow_20 (by decide) hk (by unfold inr; omega) (fun h_20 => ?_) (fun h_20 => ?_)
    · refine x_iconst dX5_flow_30 ?_
      refine x_isub dX5_flow_31 ?_
      refine x_ist2 dX5_flow_32 ?_
      refine x_iload_n dX5_flow_33 rfl ?_
      refine x_if_ge 41 dX5_flow_34 (by decide) (by unfold inr; omega) (fun h_34 => ?_) (fun h_34 => ?_)
      · refine x_iload_n dX5_flow_41 rfl ?_
        refine x_ist2 dX5_flow_42 ?_
        refine l43 _ ?_
        unfold l0M
        first
        | (rw [if_pos (by omega), if_neg (by omega)]; omega)
        | (rw [if_neg (by omega), if_pos (by omega)]; omega)
        | (rw [if_neg (by omega), if_neg (by omega)]; omega)
        | (exfalso; omega)
      · refine x_iconst dX5_flow_37 ?_
        refine x_goto 42 dX5_flow_38 (by decide) ?_
        refine x_ist2 dX5_flow_42 ?_
        refine l43 _ ?_
        unfold l0M
        first
        | (rw [if_pos (by omega), if_neg (by omega)]; omega)
        | (rw [if_neg (by omega), if_pos (by omega)]; omega)
        | (rw [if_neg (by omega), if_neg (by omega)]; omega)
        | (exfalso; omega)
    · refine x_aload_n dX5_flow_23 rfl ?_
      refine x_getI dX5_flow_24 gf_RX5_63 rfl rfl ?_
      refine x_goto 31 dX5_flow_27 (by decide) ?_
      refine x_isub dX5_flow_31 ?_
      refine x_ist2 dX5_flow_32 ?_
      refine x_iload_n dX5_flow_33 rfl ?_
      refine x_if_ge 41 dX5_flow_34 (by decide) (by unfold inr; omega) (fun h_34 => ?_) (fun h_34 => ?_)
      · refine x_iload_n dX5_flow_41 rfl ?_
        refine x_ist2 dX5_flow_42 ?_
        refine l43 _ ?_
        unfold l0M
        first
        | (rw [if_pos (by omega), if_neg (by omega)]; omega)
        | (rw [if_neg (by omega), if_pos (by omega)]; omega)
        | (rw [if_neg (by omega), if_neg (by omega)]; omega)
        | (exfalso; omega)
      · refine x_iconst dX5_flow_37 ?_
        refine x_goto 42 dX5_flow_38 (by decide) ?_
        refine x_ist2 dX5_flow_42 ?_
        refine l43 _ ?_
        unfold l0M
        first
        | (rw [if_pos (by omega), if_neg (by omega)]; omega)
        | (rw [if_neg (by omega), if_pos (by omega)]; omega)
        | (rw [if_neg (by omega), if_neg (by omega)]; omega)
        | (exfalso; omega)
end FR

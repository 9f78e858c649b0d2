/-! ===== SpringFarms: what is asked of a day ===== -/
/-- the day that is told: its parts, what the reading answers, where it ends -/
def daR (I : MM) (n d : Nat) : Nat → DT := daS (fa I 1) (I 1 1) (l0R I 1) n (atV (I 19) d n) (fun i => (ftV (I 19) d n i).toNat)
def DA (I : MM) (n d k : Nat) (z0 : Int) (j : Nat) : Prop := PD (I 19) d n k z0 ∧ (z0 = -6 → LD (daR I n d) (atV (I 19) d n) (fun i => (ftV (I 19) d n i).toNat) k j)
theorem DA.uniq {I : MM} {n d k k2 : Nat} {z z2 : Int} {j j2 : Nat} (h : DA I n d k z j) (h2 : DA I n d k2 z2 j2) : k = k2 ∧ z = z2 ∧ (z = -6 → j = j2) := by
  obtain ⟨rfl, rfl⟩ := h.1.uniq h2.1
  exact ⟨rfl, rfl, fun e => (h.2 e).uniq (h2.2 e)⟩
def rvV (z0 : Int) (k j : Nat) : Int := if z0 ≠ -6 then -5 else if j = k then 0 else -3
def rwV (I : MM) (n d k j : Nat) : Int := whV (daR I n d) (atV (I 19) d n) (fun i => (ftV (I 19) d n i).toNat) k j
def jgV (I : MM) (n d : Nat) (w : Int) (k : Nat) (z0 : Int) (j : Nat) : Int := if z0 ≠ -6 then -5 else if w = 0 then bpV k j else if w = 1 then rwV I n d k j else if j = k then (daR I n d j).2.2.1 else -3
def bhK (w : Nat) : Nat := [6, 0, 1, 4].getD w 0
theorem bhK_ok : ∀ w : Nat, w < 4 → (stl 4).getD w 0 = (bhK w : Int) ∧ bhK w < 7 := by decide
/-- what a day that is done leaves -/
def doP (I J : MM) (n : Nat) (s : DT) : Prop := fa J 1 = s.1 ∧ J 1 1 = s.2.1 ∧ J 1 0 = (n : Int) ∧ J 1 2 = I 1 2 ∧ (∀ k, k < 3 → J 3 k = I 3 k) ∧ (∀ k, k < 8 → J 4 k = I 4 k ∧ J 5 k = I 5 k) ∧ J 18 1 = 0 ∧ (∀ a k, a = 19 ∨ 36 ≤ a → J a k = I a k)
theorem cp_3 {I : MM} {s d k : Nat} (h : k < 8) : cpR I s d (d + 3) k = I (s + 3) k := by unfold cpR; rw [if_neg (by omega), if_neg (by omega), if_neg (by omega), if_pos ⟨rfl, h⟩]
theorem cp_4 {I : MM} {s d k : Nat} (h : k < 8) : cpR I s d (d + 4) k = I (s + 4) k := by unfold cpR; rw [if_neg (by omega), if_neg (by omega), if_neg (by omega), if_neg (by omega), if_pos ⟨rfl, h⟩]
section FR
variable {G : GT} {K : List Nat} {N : NN} {I J : MM} {n : Nat}
theorem sp_live (hN : NS N) (hB : RB I 1 n) (hP : ∀ f, f < n → fa I 1 f 6 ≤ 990000) {A : Nat → Int} {B : Nat → Nat} {k : Nat} (hk60 : k ≤ 60) (hk : I 18 4 = (k : Int)) (hA : ∀ j, j < k → I 20 j = A j ∧ I 21 j = (B j : Int)) (hAb : ∀ j, -1 ≤ A j ∧ A j ≤ 7) (hBb : ∀ j, B j < n) {S : Nat → DT} (hS : S = daS (fa I 1) (I 1 1) (l0R I 1) n A B) : SpV G mX0_live 4 91 0 0 [.ref 22, .ref 1, .ref 18] K N I (pV K N (fun J => ∃ j, LD S A B k j ∧ J 22 3 = bpV k j ∧ J 22 4 = whV S A B k j ∧ DSt I J n (S j) ∧ kpL I J)) := by
  refine SpV.of (own := RX0) (cc := cX0_live) (L := [some (.ref 22), some (.ref 1), some (.ref 18), none, none]) (by decide) rfl rfl (Nat.le_of_ble_eq_true rfl) rfl (fun Fx hnm hret => ?_)
  have hn9 := hB.2.2.1
  have hO0 := hB.okD hP
  have hSb : ∀ j, (∀ i, i < j → reF (S i).1 (B i) (A i) = 0) → okD (S j).1 n (990000 + 9 * (j : Int)) ∧ (0 ≤ (S j).2.2.1 ∧ (S j).2.2.1 ≤ (j : Int)) ∧ ∀ f, -6 ≤ (S j).2.2.2 f ∧ (S j).2.2.2 f ≤ (j : Int) := by
    rw [hS]
    exact daS_b (d0 := I 1 1) (l0 := l0R I 1) (A := A) (B := B) hO0 hBb
  have lpB : ∀ (m : Nat) (j : Nat) (x : Int) (J : MM), j ≤ k → k < j + m → x = (j : Int) → (∀ i, i < j → reF (S i).1 (B i) (A i) = 0) → DSt I J n (S j) → kpL I J → J 22 3 = -6 → J 22 4 = -6 → XX G RX0 cX0_live (RmW 4 91 0 0) Fx 53 [some (.ref 22), some (.ref 1), some (.ref 18), some (vi x), none] [] K N J 0 0 := by
    intro m
    induction m with
    | zero => intros; exfalso; omega
    | succ m ih =>
      intro j x J h0 h1 h2 h3 h4 h5 h6 h7
      obtain ⟨b1, b2, b3⟩ := hSb j h3
      have b4 := b1.mono (show (990000 : Int) + 9 * (j : Int) ≤ 999990 by omega)
      have hkJ : J 18 4 = (k : Int) := (h5 18 4 (by omega)).trans hk
      have hAj : j < k → J 20 j = A j ∧ J 21 j = (B j : Int) := fun hj => ⟨(h5 20 j (by omega)).trans (hA j hj).1, (h5 21 j (by omega)).trans (hA j hj).2⟩
      have hAb2 := hAb j
      have b5 := b1 (B j) (hBb j)
      have hre : reaR J 23 (B j) (A j) = reF (S j).1 (B j) (A j) := by unfold reaR reF; rw [h4.1]
      have hrb := reF_b (F := (S j).1) (f := B j) (a := A j)
      have hBn := hBb j
      refine x_iload_n dX0_live_53 rfl ?_
      refine x_aload_n dX0_live_54 rfl ?_
      refine x_getI dX0_live_55 gf_RX0_46 rfl rfl ?_
      rw [hkJ]
      refine x_icmp_ge 121 dX0_live_58 (by decide) (by unfold inr; omega) (by unfold inr; omega) (fun h_58 => ?_) (fun h_58 => ?_)
      · refine hret _ _ _ _ _ dX0_live_121 ?_
        obtain rfl : j = k := by omega
        refine ⟨rfl, rfl, j, ⟨h0, h3, Or.inl rfl⟩, ?_, ?_, h4, h5⟩
        · unfold bpV; rw [if_pos rfl]; exact h6
        · unfold whV; rw [if_pos rfl]; exact h7
      · refine x_aload_n dX0_live_61 rfl ?_
        refine x_getR (j := 23) dX0_live_62 gf_RX0_12 rfl rfl (hN _ _ (by decide)) ?_
        refine x_aload_n dX0_live_65 rfl ?_
        refine x_getR (j := 20) dX0_live_66 gf_RX0_51 rfl rfl (hN _ _ (by decide)) ?_
        refine x_iload_n dX0_live_69 rfl ?_
        refine x_iald (j) dX0_live_70 rfl (by omega) (show _ < 60 by omega) ?_
        rw [(hAj (by omega)).1]
        refine x_aload_n dX0_live_71 rfl ?_
        refine x_getR (j := 21) dX0_live_72 gf_RX0_54 rfl rfl (hN _ _ (by decide)) ?_
        refine x_iload_n dX0_live_75 rfl ?_
        refine x_iald (j) dX0_live_76 rfl (by omega) (show _ < 60 by omega) ?_
        rw [(hAj (by omega)).2]
        refine xf_VI2 dX0_live_77 ml_RX0_57 vw_X3_reasonAgainst vv_X3_reasonAgainst rfl (sp_reason (b := 23) rfl hN (B j) rfl (by omega) (by unfold inr; omega) (by rw [h4.1]; unfold inr; omega) (by rw [h4.1]; unfold inr; omega)) ⟨Nat.le_of_ble_eq_true rfl, Nat.le_of_ble_eq_true rfl, Nat.le_of_ble_eq_true rfl, Nat.le_of_ble_eq_true rfl, Nat.le_of_ble_eq_true rfl⟩ ?_
        rw [hre]
        refine x_ist4 dX0_live_80 ?_
        refine x_iload dX0_live_82 rfl ?_
        refine x_if_eq 99 dX0_live_84 (by decide) (by unfold inr; omega) (fun h_84 => ?_) (fun h_84 => ?_)
        · refine x_aload_n dX0_live_99 rfl ?_
          refine x_aload_n dX0_live_100 rfl ?_
          refine x_getR (j := 20) dX0_live_101 gf_RX0_51 rfl rfl (hN _ _ (by decide)) ?_
          refine x_iload_n dX0_live_104 rfl ?_
          refine x_iald (j) dX0_live_105 rfl (by omega) (show _ < 60 by omega) ?_
          rw [(hAj (by omega)).1]
          refine x_aload_n dX0_live_106 rfl ?_
          refine x_getR (j := 21) dX0_live_107 gf_RX0_54 rfl rfl (hN _ _ (by decide)) ?_
          refine x_iload_n dX0_live_110 rfl ?_
          refine x_iald (j) dX0_live_111 rfl (by omega) (show _ < 60 by omega) ?_
          rw [(hAj (by omega)).2]
          refine xp_VV2 dX0_live_112 ml_RX0_61 vw_X0_pass vv_X0_pass rfl (sp_pass hN hB h4 h5 b4 (by omega) (fun f hf => by have := b3 f; omega) (by unfold inr; omega) (B j) hBn rfl) ⟨Nat.le_of_ble_eq_true rfl, Nat.le_of_ble_eq_true rfl, Nat.le_of_ble_eq_true rfl, Nat.le_of_ble_eq_true rfl, Nat.le_of_ble_eq_true rfl⟩ (fun I1 hq => ?_)
          obtain ⟨q1, q2, q3, q4⟩ := hq
          refine x_inc3 dX0_live_115 ?_
          refine x_goto 53 dX0_live_118 (by decide) ?_
          refine x_dr4 (ih (j + 1) _ _ (by omega) (by omega) (by omega) ?_ ?_ q2 (q3.trans h6) (q4.trans h7))
          · intro i hi
            rcases (by omega : i < j ∨ i = j) with z | rfl
            · exact h3 i z
            · exact h_84
          · rw [hS] at q1 ⊢
            exact q1
        · refine x_aload_n dX0_live_87 rfl ?_
          refine x_iload_n dX0_live_88 rfl ?_
          refine x_putI dX0_live_89 pf_RX0_33 rfl rfl ?_
          refine x_aload_n dX0_live_92 rfl ?_
          refine x_iload dX0_live_93 rfl ?_
          refine x_putI dX0_live_95 pf_RX0_37 rfl rfl ?_
          refine hret _ _ _ _ _ dX0_live_98 ?_
          refine ⟨rfl, rfl, j, ⟨h0, h3, Or.inr ⟨by omega, h_84⟩⟩, ?_, ?_, ?_, ?_⟩
          · rw [up_n2 (by omega), up_s]; unfold bpV; rw [if_neg (by omega)]; exact h2
          · rw [up_s]; unfold whV; rw [if_neg (by omega)]
          · obtain ⟨s1, s2, s3, s4, s5, s6, s7, s8⟩ := h4
            refine ⟨?_, ?_, ?_, ?_, ?_, ?_, ?_, ?_⟩
            · rw [fa_eq (I := J) (fun _ => (up_n1 (by omega)).trans (up_n1 (by omega)))]; exact s1
            · rw [up_n1 (by omega), up_n1 (by omega)]; exact s2
            · rw [up_n2 (by omega), up_n2 (by omega)]; exact s3
            · intro g hg; rw [up_n1 (by omega), up_n1 (by omega)]; exact s4 g hg
            · rw [up_n1 (by omega), up_n1 (by omega)]; exact s5
            · rw [up_n1 (by omega), up_n1 (by omega)]; exact s6
            · intro g hg; rw [up_n1 (by omega), up_n1 (by omega)]; exact s7 g hg
            · intro g hg; rw [up_n1 (by omega), up_n1 (by omega), up_n1 (by omega), up_n1 (by omega)]; exact s8 g hg
          · intro a b q; rw [up_n1 (by omega), up_n1 (by omega)]; exact h5 a b q
  have lpA : ∀ (m : Nat) (f : Nat) (x : Int) (J : MM), f ≤ 9 → 9 < f + m → x = (f : Int) → fa J 23 = fa I 1 → (∀ k, k < 3 → J 23 k = I 1 k) → J 22 5 = 0 → (∀ k, k < 3 → J 25 k = I 3 k) → (∀ k, k < 8 → J 26 k = I 4 k ∧ J 27 k = I 5 k) → (∀ g, g < f → J 31 g = -6) → kpL I J → J 22 3 = -6 → J 22 4 = -6 → XX G RX0 cX0_live (RmW 4 91 0 0) Fx 27 [some (.ref 22), some (.ref 1), some (.ref 18), some (vi x), none] [] K N J 0 0 := by
    intro m
    induction m with
    | zero => intros; exfalso; omega
    | succ m ih =>
      intro f x J h0 h1 h2 h3 h4 h5 h6 h7 h8 h9 h10 h11
      refine x_iload_n dX0_live_27 rfl ?_
      refine x_bipush dX0_live_28 (by decide) ?_
      refine x_icmp_ge 47 dX0_live_30 (by decide) (by unfold inr; omega) (by unfold inr; omega) (fun h_30 => ?_) (fun h_30 => ?_)
      · have hBJ : RB J 23 n := okD.RB hB (hO0.mono (by omega)) h3 ((h4 0 (by omega)).trans hB.1) h6
        refine x_aload_n dX0_live_47 rfl ?_
        refine xf_VV0 dX0_live_48 ml_RX0_43 vw_X0_noteEnough vv_X0_noteEnough rfl (sp_noteEnough hN hBJ (fun g hg => by rw [h8 g (by omega)]; unfold inr; omega)) ⟨Nat.le_of_ble_eq_true rfl, Nat.le_of_ble_eq_true rfl, Nat.le_of_ble_eq_true rfl, Nat.le_of_ble_eq_true rfl, Nat.le_of_ble_eq_true rfl⟩ ?_
        refine x_iconst dX0_live_51 ?_
        refine x_ist3 dX0_live_52 ?_
        refine lpB (k + 1) 0 _ _ (by omega) (by omega) rfl (fun i hi => absurd hi (Nat.not_lt_zero i)) ?_ (fun a b q => (nt_o (by omega)).trans (h9 a b q)) ((nt_o (by omega)).trans h10) ((nt_o (by omega)).trans h11)
        rw [hS]
        refine ⟨(fa_eq (fun _ => nt_o (by omega))).trans h3, (nt_o (by omega)).trans (h4 1 (by omega)), (nt_o (by omega)).trans h5, fun g hg => ?_, (nt_o (by omega)).trans ((h4 0 (by omega)).trans hB.1), (nt_o (by omega)).trans (h4 2 (by omega)), fun k hk => (nt_o (by omega)).trans (h6 k hk), fun k hk => ⟨(nt_o (by omega)).trans (h7 k hk).1, (nt_o (by omega)).trans (h7 k hk).2⟩⟩
        exact nt_e (en := fun _ => -6) hg h3 h5 (h8 g (by omega))
      · refine x_aload_n dX0_live_33 rfl ?_
        refine x_getR (j := 31) dX0_live_34 gf_RX0_25 rfl rfl (hN _ _ (by decide)) ?_
        refine x_iload_n dX0_live_37 rfl ?_
        refine x_bipush dX0_live_38 (by decide) ?_
        refine x_iast (f) dX0_live_40 rfl (by omega) (show _ < 9 by omega) ?_
        refine x_inc3 dX0_live_41 ?_
        refine x_goto 27 dX0_live_44 (by decide) ?_
        refine ih (f + 1) _ _ (by omega) (by omega) (by omega) ((fa_eq (fun _ => up_n1 (by omega))).trans h3) (fun k hk => by rw [up_n1 (by omega)]; exact h4 k hk) (by rw [up_n1 (by omega)]; exact h5) (fun k hk => by rw [up_n1 (by omega)]; exact h6 k hk) (fun k hk => by rw [up_n1 (by omega), up_n1 (by omega)]; exact h7 k hk) (fun g hg => ?_) (fun a b q => by rw [up_n1 (by omega)]; exact h9 a b q) (by rw [up_n1 (by omega)]; exact h10) (by rw [up_n1 (by omega)]; exact h11)
        rcases (by omega : g < f ∨ g = f) with z | rfl
        · rw [up_n2 (by omega)]; exact h8 g z
        · exact up_s
  refine x_aload_n dX0_live_0 rfl ?_
  refine x_getR (j := 23) dX0_live_1 gf_RX0_12 rfl rfl (hN _ _ (by decide)) ?_
  refine x_aload_n dX0_live_4 rfl ?_
  refine xf_VV1 dX0_live_5 ml_RX0_29 vw_X3_copy vv_X3_copy rfl (sp_copy (s := 1) (d := 23) rfl rfl (by decide) hN) ⟨Nat.le_of_ble_eq_true rfl, Nat.le_of_ble_eq_true rfl, Nat.le_of_ble_eq_true rfl, Nat.le_of_ble_eq_true rfl, Nat.le_of_ble_eq_true rfl⟩ ?_
  refine x_aload_n dX0_live_8 rfl ?_
  refine x_bipush dX0_live_9 (by decide) ?_
  refine x_putI dX0_live_11 pf_RX0_33 rfl rfl ?_
  refine x_aload_n dX0_live_14 rfl ?_
  refine x_bipush dX0_live_15 (by decide) ?_
  refine x_putI dX0_live_17 pf_RX0_37 rfl rfl ?_
  refine x_aload_n dX0_live_20 rfl ?_
  refine x_iconst dX0_live_21 ?_
  refine x_putI dX0_live_22 pf_RX0_40 rfl rfl ?_
  refine x_iconst dX0_live_25 ?_
  refine x_ist3 dX0_live_26 ?_
  refine lpA 10 0 _ _ (by omega) (by omega) rfl ((fa_eq (fun _ => ?_)).trans fa_cp) (fun k hk => ?_) up_s (fun k hk => ?_) (fun k hk => ⟨?_, ?_⟩) (fun g hg => absurd hg (Nat.not_lt_zero g)) (fun a b q => ?_) ?_ ?_
  · rw [up_n1 (by omega), up_n1 (by omega), up_n1 (by omega)]
  · rw [up_n1 (by omega), up_n1 (by omega), up_n1 (by omega)]; exact cp_0 hk
  · rw [up_n1 (by omega), up_n1 (by omega), up_n1 (by omega)]; exact cp_2 (s := 1) (d := 23) hk
  · rw [up_n1 (by omega), up_n1 (by omega), up_n1 (by omega)]; exact cp_3 (s := 1) (d := 23) hk
  · rw [up_n1 (by omega), up_n1 (by omega), up_n1 (by omega)]; exact cp_4 (s := 1) (d := 23) hk
  · rw [up_n1 (by omega), up_n1 (by omega), up_n1 (by omega)]; exact cp_o (by omega)
  · rw [up_n2 (by omega), up_n2 (by omega), up_s]
  · rw [up_n2 (by omega), up_s]
theorem sp_liveDay (hN : NS N) (hB : RB I 1 n) (hP : ∀ f, f < n → fa I 1 f 6 ≤ 990000) {d : Nat} (hPB : PB I d) : SpI G mX4_liveDay .int 5 115 0 0 [.ref 0] K N I (pI K N (fun z J => ∃ k z0 j, DA I n d k z0 j ∧ k ≤ 60 ∧ z = rvV z0 k j ∧ kpC I J ∧ (z0 = -6 → J 22 3 = bpV k j ∧ J 22 4 = rwV I n d k j ∧ J 18 4 = (k : Int) ∧ DSt I J n (daR I n d j)))) := by
  refine SpI.of (own := RX4) (cc := cX4_liveDay) (L := [some (.ref 0)]) (by decide) rfl rfl (Nat.le_of_ble_eq_true rfl) rfl (fun Fx hnm hret => ?_)
  have hn1 := hB.2.1
  have hn9 := hB.2.2.1
  have hd := hPB.2.1
  refine x_aload_n dX4_liveDay_0 rfl ?_
  refine x_getR (j := 18) dX4_liveDay_1 gf_RX4_36 rfl rfl (hN _ _ (by decide)) ?_
  refine x_aload_n dX4_liveDay_4 rfl ?_
  refine x_getR (j := 1) dX4_liveDay_5 gf_RX4_10 rfl rfl (hN _ _ (by decide)) ?_
  refine x_getI dX4_liveDay_8 gf_RX4_60 rfl rfl ?_
  rw [hB.1]
  refine xp_VI1 dX4_liveDay_11 ml_RX4_99 vw_X1_read vv_X1_read rfl (sp_read hN hPB hn1 hn9 rfl) ⟨Nat.le_of_ble_eq_true rfl, Nat.le_of_ble_eq_true rfl, Nat.le_of_ble_eq_true rfl, Nat.le_of_ble_eq_true rfl, Nat.le_of_ble_eq_true rfl⟩ (fun z1 I1 hq => ?_)
  obtain ⟨k, hPD, r1, r2, r3, r4⟩ := hq
  have hz1 : inr z1 := by
    rcases hPD.2 with q | q <;> (unfold inr; omega)
  have hk1 : kpC I I1 := fun a b q => r4 a b (by unfold pcl at q; omega) (by unfold pcl at q; omega) (by unfold pcl at q; omega)
  have hF1 : fa I1 1 = fa I 1 := fa_eq (fun _ => r4 _ _ (by omega) (by omega) (by omega))
  have hB1 : RB I1 1 n := hB.of (r4 _ _ (by omega) (by omega) (by omega)) hF1 (fun _ _ => r4 _ _ (by omega) (by omega) (by omega))
  have hL1 : l0R I1 1 = l0R I 1 := funext fun kn => l0_eq (fun _ => r4 _ _ (by omega) (by omega) (by omega))
  refine x_bipush dX4_liveDay_14 (by decide) ?_
  refine x_icmp_eq 22 dX4_liveDay_16 (by decide) hz1 (by unfold inr; omega) (fun h_16 => ?_) (fun h_16 => ?_)
  · refine x_aload_n dX4_liveDay_22 rfl ?_
    refine x_getR (j := 22) dX4_liveDay_23 gf_RX4_43 rfl rfl (hN _ _ (by decide)) ?_
    refine x_aload_n dX4_liveDay_26 rfl ?_
    refine x_getR (j := 1) dX4_liveDay_27 gf_RX4_10 rfl rfl (hN _ _ (by decide)) ?_
    refine x_aload_n dX4_liveDay_30 rfl ?_
    refine x_getR (j := 18) dX4_liveDay_31 gf_RX4_36 rfl rfl (hN _ _ (by decide)) ?_
    refine xp_VV2 dX4_liveDay_34 ml_RX4_148 vw_X0_live vv_X0_live rfl (sp_live hN hB1 (by rw [hF1]; exact hP) (A := atV (I 19) d n) (B := fun i => (ftV (I 19) d n i).toNat) r2 r1 (fun j hj => ⟨(r3 j hj).1, (r3 j hj).2.trans (Int.toNat_of_nonneg (frV_b hn1).1).symm⟩) (fun j => acV_b) (fun j => by have := frV_b (c := I 19) (p := poV (I 19) d n j) hn1; show (frV (I 19) n (poV (I 19) d n j)).toNat < n; omega) (S := daR I n d) (by rw [hF1, hL1, r4 1 1 (by omega) (by omega) (by omega)]; rfl)) ⟨Nat.le_of_ble_eq_true rfl, Nat.le_of_ble_eq_true rfl, Nat.le_of_ble_eq_true rfl, Nat.le_of_ble_eq_true rfl, Nat.le_of_ble_eq_true rfl⟩ (fun I1 hq => ?_)
    obtain ⟨j, g1, g2, g3, g4, g5⟩ := hq
    have hJb : -6 ≤ bpV k j ∧ bpV k j ≤ 60 := by
      have := g1.1
      unfold bpV; split <;> omega
    obtain ⟨s1, s2, s3, s4, s5, s6, s7, s8⟩ := g4
    refine x_aload_n dX4_liveDay_37 rfl ?_
    refine x_getR (j := 22) dX4_liveDay_38 gf_RX4_43 rfl rfl (hN _ _ (by decide)) ?_
    refine x_getI dX4_liveDay_41 gf_RX4_107 rfl rfl ?_
    rw [g2]
    refine x_bipush dX4_liveDay_44 (by decide) ?_
    refine x_icmp_ne 53 dX4_liveDay_46 (by decide) (by unfold inr; omega) (by unfold inr; omega) (fun h_46 => ?_) (fun h_46 => ?_)
    · refine x_bipush dX4_liveDay_53 (by decide) ?_
      refine hret _ _ _ _ _ _ dX4_liveDay_55 rfl ?_
      have hjk : j = k ∨ j ≠ k := by omega
      refine ⟨rfl, rfl, k, -6, j, ⟨h_16 ▸ hPD, fun _ => g1⟩, r2, ?_, hk1.tr (fun a b q => g5 a b (by unfold pcl at q; omega)), fun _ => ⟨g2, g3, (g5 18 4 (by omega)).trans r1, s1, s2, s3, s4, s5, ?_, ?_, ?_⟩⟩
      · unfold rvV bpV at *
        rw [if_neg (fun z => z rfl)]
        rcases hjk with e | e
        · first
          | (exfalso; rw [if_pos e] at h_46; omega)
          | rw [if_pos e]
        · first
          | (exfalso; rw [if_neg e] at h_46; omega)
          | rw [if_neg e]
      · rw [s6]; exact r4 _ _ (by omega) (by omega) (by omega)
      · intro x hx; rw [s7 x hx]; exact r4 _ _ (by omega) (by omega) (by omega)
      · intro x hx; exact ⟨(s8 x hx).1.trans (r4 _ _ (by omega) (by omega) (by omega)), (s8 x hx).2.trans (r4 _ _ (by omega) (by omega) (by omega))⟩
    · refine x_iconst dX4_liveDay_49 ?_
      refine x_goto 55 dX4_liveDay_50 (by decide) ?_
      refine hret _ _ _ _ _ _ dX4_liveDay_55 rfl ?_
      have hjk : j = k ∨ j ≠ k := by omega
      refine ⟨rfl, rfl, k, -6, j, ⟨h_16 ▸ hPD, fun _ => g1⟩, r2, ?_, hk1.tr (fun a b q => g5 a b (by unfold pcl at q; omega)), fun _ => ⟨g2, g3, (g5 18 4 (by omega)).trans r1, s1, s2, s3, s4, s5, ?_, ?_, ?_⟩⟩
      · unfold rvV bpV at *
        rw [if_neg (fun z => z rfl)]
        rcases hjk with e | e
        · first
          | (exfalso; rw [if_pos e] at h_46; omega)
          | rw [if_pos e]
        · first
          | (exfalso; rw [if_neg e] at h_46; omega)
          | rw [if_neg e]
      · rw [s6]; exact r4 _ _ (by omega) (by omega) (by omega)
      · intro x hx; rw [s7 x hx]; exact r4 _ _ (by omega) (by omega) (by omega)
      · intro x hx; exact ⟨(s8 x hx).1.trans (r4 _ _ (by omega) (by omega) (by omega)), (s8 x hx).2.trans (r4 _ _ (by omega) (by omega) (by omega))⟩
  · refine x_bipush dX4_liveDay_19 (by decide) ?_
    refine hret _ _ _ _ _ _ dX4_liveDay_21 rfl ?_
    exact ⟨rfl, rfl, k, z1, 0, ⟨hPD, fun e => absurd e h_16⟩, r2, by unfold rvV; rw [if_pos h_16], hk1, fun e => absurd e h_16⟩
theorem sp_fault (hN : NS N) (hB : RB I 1 n) {d : Nat} (hPB : PB I d) : SpI G mX4_fault .int 2 47 0 0 [.ref 0] K N I (pI K N (fun z J => (∃ k, PD (I 19) d n k z) ∧ kpC I J)) := by
  refine SpI.of (own := RX4) (cc := cX4_fault) (L := [some (.ref 0)]) (by decide) rfl rfl (Nat.le_of_ble_eq_true rfl) rfl (fun Fx hnm hret => ?_)
  have hn1 := hB.2.1
  have hn9 := hB.2.2.1
  refine x_aload_n dX4_fault_0 rfl ?_
  refine x_getR (j := 18) dX4_fault_1 gf_RX4_36 rfl rfl (hN _ _ (by decide)) ?_
  refine x_aload_n dX4_fault_4 rfl ?_
  refine x_getR (j := 1) dX4_fault_5 gf_RX4_10 rfl rfl (hN _ _ (by decide)) ?_
  refine x_getI dX4_fault_8 gf_RX4_60 rfl rfl ?_
  rw [hB.1]
  refine xp_VI1 dX4_fault_11 ml_RX4_99 vw_X1_read vv_X1_read rfl (sp_read hN hPB hn1 hn9 rfl) ⟨Nat.le_of_ble_eq_true rfl, Nat.le_of_ble_eq_true rfl, Nat.le_of_ble_eq_true rfl, Nat.le_of_ble_eq_true rfl, Nat.le_of_ble_eq_true rfl⟩ (fun z1 I1 hq => ?_)
  obtain ⟨k, hPD, r1, r2, r3, r4⟩ := hq
  refine hret _ _ _ _ _ _ dX4_fault_14 rfl ?_
  exact ⟨rfl, rfl, ⟨k, hPD⟩, fun a b q => r4 a b (by unfold pcl at q; omega) (by unfold pcl at q; omega) (by unfold pcl at q; omega)⟩
theorem sp_judge (hN : NS N) (hB : RB I 1 n) (hP : ∀ f, f < n → fa I 1 f 6 ≤ 990000) {d : Nat} (hPB : PB I d) {w : Int} (hw : inr w) : SpI G mX4_judge .int 6 135 0 0 [.ref 0, vi w] K N I (pI K N (fun z J => kpC I J ∧ ((¬ (0 ≤ w ∧ w ≤ 2) ∧ z = -2) ∨ ((0 ≤ w ∧ w ≤ 2) ∧ ∃ k z0 j, DA I n d k z0 j ∧ z = jgV I n d w k z0 j)))) := by
  refine SpI.of (own := RX4) (cc := cX4_judge) (L := [some (.ref 0), some (vi w), none]) (by decide) rfl rfl (Nat.le_of_ble_eq_true rfl) rfl (fun Fx hnm hret => ?_)
  refine x_iload_n dX4_judge_0 rfl ?_
  refine x_iconst dX4_judge_1 ?_
  refine xf_SI2 dX4_judge_2 ml_RX4_72 vw_X4_within st_X4_within (sp_within hw (by unfold inr; omega)) ⟨Nat.le_of_ble_eq_true rfl, Nat.le_of_ble_eq_true rfl, Nat.le_of_ble_eq_true rfl, Nat.le_of_ble_eq_true rfl, Nat.le_of_ble_eq_true rfl⟩ ?_
  refine x_if_ne 11 dX4_judge_5 (by decide) (by unfold inr; split <;> omega) (fun h_5 => ?_) (fun h_5 => ?_)
  · replace h_5 := b1 h_5
    refine x_aload_n dX4_judge_11 rfl ?_
    refine xp_VI0 dX4_judge_12 ml_RX4_103 vw_X4_liveDay vv_X4_liveDay rfl (sp_liveDay hN hB hP hPB) ⟨Nat.le_of_ble_eq_true rfl, Nat.le_of_ble_eq_true rfl, Nat.le_of_ble_eq_true rfl, Nat.le_of_ble_eq_true rfl, Nat.le_of_ble_eq_true rfl⟩ (fun z1 I1 hq => ?_)
    obtain ⟨k, z0, j, hD, hk60, hz, hk1, hJ⟩ := hq
    have hzb : -5 ≤ z1 ∧ z1 ≤ 0 := by rw [hz]; unfold rvV; (repeat' split) <;> omega
    have hz6 : z1 = 0 → z0 = -6 ∧ j = k := fun e => by
      rw [hz] at e
      unfold rvV at e
      by_cases q : z0 = -6
      · rw [if_neg (fun y => y q)] at e
        by_cases q2 : j = k
        · exact ⟨q, q2⟩
        · rw [if_neg q2] at e; exact absurd e (by decide)
      · rw [if_pos q] at e; exact absurd e (by decide)
    have hz5 : z1 ≠ -5 → z0 = -6 := fun e => by
      apply Decidable.byContradiction
      intro q
      exact e (by rw [hz]; unfold rvV; rw [if_pos q])
    refine x_ist2 dX4_judge_15 ?_
    refine x_iload_n dX4_judge_16 rfl ?_
    refine x_bipush dX4_judge_17 (by decide) ?_
    refine x_icmp_ne 25 dX4_judge_19 (by decide) (by unfold inr; omega) (by unfold inr; omega) (fun h_19 => ?_) (fun h_19 => ?_)
    · refine x_iload_n dX4_judge_25 rfl ?_
      refine x_if_ne 37 dX4_judge_26 (by decide) hw (fun h_26 => ?_) (fun h_26 => ?_)
      · refine x_iload_n dX4_judge_37 rfl ?_
        refine x_iconst dX4_judge_38 ?_
        refine x_icmp_ne 50 dX4_judge_39 (by decide) hw (by unfold inr; omega) (fun h_39 => ?_) (fun h_39 => ?_)
        · refine x_iload_n dX4_judge_50 rfl ?_
          refine x_bipush dX4_judge_51 (by decide) ?_
          refine x_icmp_ne 61 dX4_judge_53 (by decide) (by unfold inr; omega) (by unfold inr; omega) (fun h_53 => ?_) (fun h_53 => ?_)
          · refine x_aload_n dX4_judge_61 rfl ?_
            refine x_getR (j := 22) dX4_judge_62 gf_RX4_43 rfl rfl (hN _ _ (by decide)) ?_
            refine x_getI dX4_judge_65 gf_RX4_113 rfl rfl ?_
            refine hret _ _ _ _ _ _ dX4_judge_68 rfl ?_
            refine ⟨rfl, rfl, hk1, Or.inr ⟨h_5, k, z0, j, hD, ?_⟩⟩
            unfold jgV
            have e := hz5 h_19
            rw [if_neg (fun y => y e)]
            obtain ⟨g1, g2, g3, g4⟩ := hJ e
            rw [if_neg h_26, if_neg h_39]
            rw [hz] at h_53
            unfold rvV at h_53
            rw [if_neg (fun y => y e)] at h_53
            by_cases q : j = k
            · first
              | (exfalso; rw [if_pos q] at h_53; omega)
              | (rw [if_pos q]; exact g4.2.2.1)
            · first
              | (exfalso; rw [if_neg q] at h_53; omega)
              | rw [if_neg q]
          · refine x_bipush dX4_judge_56 (by decide) ?_
            refine x_goto 68 dX4_judge_58 (by decide) ?_
            refine hret _ _ _ _ _ _ dX4_judge_68 rfl ?_
            refine ⟨rfl, rfl, hk1, Or.inr ⟨h_5, k, z0, j, hD, ?_⟩⟩
            unfold jgV
            have e := hz5 h_19
            rw [if_neg (fun y => y e)]
            obtain ⟨g1, g2, g3, g4⟩ := hJ e
            rw [if_neg h_26, if_neg h_39]
            rw [hz] at h_53
            unfold rvV at h_53
            rw [if_neg (fun y => y e)] at h_53
            by_cases q : j = k
            · first
              | (exfalso; rw [if_pos q] at h_53; omega)
              | (rw [if_pos q]; exact g4.2.2.1)
            · first
              | (exfalso; rw [if_neg q] at h_53; omega)
              | rw [if_neg q]
        · refine x_aload_n dX4_judge_42 rfl ?_
          refine x_getR (j := 22) dX4_judge_43 gf_RX4_43 rfl rfl (hN _ _ (by decide)) ?_
          refine x_getI dX4_judge_46 gf_RX4_110 rfl rfl ?_
          refine hret _ _ _ _ _ _ dX4_judge_49 rfl ?_
          refine ⟨rfl, rfl, hk1, Or.inr ⟨h_5, k, z0, j, hD, ?_⟩⟩
          unfold jgV
          have e := hz5 h_19
          rw [if_neg (fun y => y e)]
          obtain ⟨g1, g2, g3, g4⟩ := hJ e
          rw [if_neg h_26, if_pos h_39]; exact g2
      · refine x_aload_n dX4_judge_29 rfl ?_
        refine x_getR (j := 22) dX4_judge_30 gf_RX4_43 rfl rfl (hN _ _ (by decide)) ?_
        refine x_getI dX4_judge_33 gf_RX4_107 rfl rfl ?_
        refine hret _ _ _ _ _ _ dX4_judge_36 rfl ?_
        refine ⟨rfl, rfl, hk1, Or.inr ⟨h_5, k, z0, j, hD, ?_⟩⟩
        unfold jgV
        have e := hz5 h_19
        rw [if_neg (fun y => y e)]
        obtain ⟨g1, g2, g3, g4⟩ := hJ e
        rw [if_pos h_26]; exact g1
    · refine x_bipush dX4_judge_22 (by decide) ?_
      refine hret _ _ _ _ _ _ dX4_judge_24 rfl ?_
      refine ⟨rfl, rfl, hk1, Or.inr ⟨h_5, k, z0, j, hD, ?_⟩⟩
      unfold jgV
      rw [if_pos]
      intro q
      rw [hz] at h_19
      unfold rvV at h_19
      rw [if_neg (fun y => y q)] at h_19
      split at h_19 <;> exact absurd h_19 (by decide)
  · replace h_5 := b0 h_5
    refine x_bipush dX4_judge_8 (by decide) ?_
    refine hret _ _ _ _ _ _ dX4_judge_10 rfl ?_
    exact ⟨rfl, rfl, kpC.rf, Or.inl ⟨h_5, rfl⟩⟩
theorem sp_behind (hN : NS N) (hB : RB I 1 n) (hP : ∀ f, f < n → fa I 1 f 6 ≤ 990000) {d : Nat} (hPB : PB I d) {f w : Int} (hf : inr f) (hw : inr w) : SpI G mX4_behind .int 6 135 0 0 [.ref 0, vi f, vi w] K N I (pI K N (fun z J => kpC I J ∧ ((¬ (0 ≤ f ∧ f < n) ∧ z = -1) ∨ ((0 ≤ f ∧ f < n) ∧ ¬ (0 ≤ w ∧ w ≤ 3) ∧ z = -2) ∨ ((0 ≤ f ∧ f < n) ∧ (0 ≤ w ∧ w ≤ 3) ∧ ∃ k z0 j, DA I n d k z0 j ∧ z = (if rvV z0 k j ≠ 0 then rvV z0 k j else (daR I n d j).1 f.toNat (bhK w.toNat)))))) := by
  refine SpI.of (own := RX4) (cc := cX4_behind) (L := [some (.ref 0), some (vi f), some (vi w), none]) (by decide) rfl rfl (Nat.le_of_ble_eq_true rfl) rfl (fun Fx hnm hret => ?_)
  have hn9 := hB.2.2.1
  refine x_aload_n dX4_behind_0 rfl ?_
  refine x_getR (j := 1) dX4_behind_1 gf_RX4_10 rfl rfl (hN _ _ (by decide)) ?_
  refine x_iload_n dX4_behind_4 rfl ?_
  refine xf_VI1 dX4_behind_5 ml_RX4_68 vw_X3_has vv_X3_has rfl (sp_has (b := 1) rfl hN hf (by rw [hB.1]; unfold inr; omega)) ⟨Nat.le_of_ble_eq_true rfl, Nat.le_of_ble_eq_true rfl, Nat.le_of_ble_eq_true rfl, Nat.le_of_ble_eq_true rfl, Nat.le_of_ble_eq_true rfl⟩ ?_
  rw [hB.1]
  refine x_if_ne 13 dX4_behind_8 (by decide) (by unfold inr; split <;> omega) (fun h_8 => ?_) (fun h_8 => ?_)
  · replace h_8 := b1 h_8
    refine x_iload_n dX4_behind_13 rfl ?_
    refine x_gets (k := 4) dX4_behind_14 fl_RX4_116 (by decide) rfl ?_
    refine x_slen (k := 4) dX4_behind_17 (by decide) rfl ?_
    refine x_eqV (b := 4) rfl ?_
    refine x_iconst dX4_behind_18 ?_
    refine x_isub dX4_behind_19 ?_
    refine xf_SI2 dX4_behind_20 ml_RX4_72 vw_X4_within st_X4_within (sp_within hw (by unfold inr; omega)) ⟨Nat.le_of_ble_eq_true rfl, Nat.le_of_ble_eq_true rfl, Nat.le_of_ble_eq_true rfl, Nat.le_of_ble_eq_true rfl, Nat.le_of_ble_eq_true rfl⟩ ?_
    refine x_if_ne 29 dX4_behind_23 (by decide) (by unfold inr; split <;> omega) (fun h_23 => ?_) (fun h_23 => ?_)
    · replace h_23 := b1 h_23
      refine x_aload_n dX4_behind_29 rfl ?_
      refine xp_VI0 dX4_behind_30 ml_RX4_103 vw_X4_liveDay vv_X4_liveDay rfl (sp_liveDay hN hB hP hPB) ⟨Nat.le_of_ble_eq_true rfl, Nat.le_of_ble_eq_true rfl, Nat.le_of_ble_eq_true rfl, Nat.le_of_ble_eq_true rfl, Nat.le_of_ble_eq_true rfl⟩ (fun z1 I1 hq => ?_)
      obtain ⟨k, z0, j, hD, hk60, hz, hk1, hJ⟩ := hq
      have hzb : -5 ≤ z1 ∧ z1 ≤ 0 := by rw [hz]; unfold rvV; (repeat' split) <;> omega
      have hz6 : z1 = 0 → z0 = -6 ∧ j = k := fun e => by
        rw [hz] at e
        unfold rvV at e
        by_cases q : z0 = -6
        · rw [if_neg (fun y => y q)] at e
          by_cases q2 : j = k
          · exact ⟨q, q2⟩
          · rw [if_neg q2] at e; exact absurd e (by decide)
        · rw [if_pos q] at e; exact absurd e (by decide)
      refine x_ist3 dX4_behind_33 ?_
      refine x_iload_n dX4_behind_34 rfl ?_
      refine x_if_eq 42 dX4_behind_35 (by decide) (by unfold inr; omega) (fun h_35 => ?_) (fun h_35 => ?_)
      · refine x_aload_n dX4_behind_42 rfl ?_
        refine x_getR (j := 22) dX4_behind_43 gf_RX4_43 rfl rfl (hN _ _ (by decide)) ?_
        refine x_getR (j := 23) dX4_behind_46 gf_RX4_119 rfl rfl (hN _ _ (by decide)) ?_
        refine x_iload_n dX4_behind_49 rfl ?_
        refine x_gets (k := 4) dX4_behind_50 fl_RX4_116 (by decide) rfl ?_
        refine x_iload_n dX4_behind_53 rfl ?_
        refine x_sald (k := 4) (w.toNat) dX4_behind_54 (by decide) rfl (by omega) (show _ < 4 by omega) ?_
        have hbk := bhK_ok w.toNat (by omega)
        refine x_eqV hbk.1 ?_
        refine xf_VI2 dX4_behind_55 ml_RX4_79 vw_X3_fact vv_X3_fact rfl (sp_fact (b := 23) rfl hN f.toNat (bhK w.toNat) (by omega) rfl (by omega)) ⟨Nat.le_of_ble_eq_true rfl, Nat.le_of_ble_eq_true rfl, Nat.le_of_ble_eq_true rfl, Nat.le_of_ble_eq_true rfl, Nat.le_of_ble_eq_true rfl⟩ ?_
        refine hret _ _ _ _ _ _ dX4_behind_58 rfl ?_
        refine ⟨rfl, rfl, hk1, Or.inr (Or.inr ⟨h_8, h_23, k, z0, j, hD, ?_⟩)⟩
        first
        | (rw [if_pos (by rw [← hz]; exact h_35)]; exact hz)
        | (rw [if_neg (by rw [← hz, h_35]; decide)]
           obtain ⟨g1, g2, g3, g4⟩ := hJ (hz6 h_35).1
           rw [g4.1])
      · refine x_iload_n dX4_behind_38 rfl ?_
        refine x_goto 58 dX4_behind_39 (by decide) ?_
        refine hret _ _ _ _ _ _ dX4_behind_58 rfl ?_
        refine ⟨rfl, rfl, hk1, Or.inr (Or.inr ⟨h_8, h_23, k, z0, j, hD, ?_⟩)⟩
        first
        | (rw [if_pos (by rw [← hz]; exact h_35)]; exact hz)
        | (rw [if_neg (by rw [← hz, h_35]; decide)]
           obtain ⟨g1, g2, g3, g4⟩ := hJ (hz6 h_35).1
           rw [g4.1])
    · replace h_23 := b0 h_23
      refine x_bipush dX4_behind_26 (by decide) ?_
      refine hret _ _ _ _ _ _ dX4_behind_28 rfl ?_
      exact ⟨rfl, rfl, kpC.rf, Or.inr (Or.inl ⟨h_8, h_23, rfl⟩)⟩
  · replace h_8 := b0 h_8
    refine x_iconst dX4_behind_11 ?_
    refine hret _ _ _ _ _ _ dX4_behind_12 rfl ?_
    exact ⟨rfl, rfl, kpC.rf, Or.inl ⟨h_8, rfl⟩⟩
theorem sp_ditch (hN : NS N) (hB : RB I 1 n) (hP : ∀ f, f < n → fa I 1 f 6 ≤ 990000) {d : Nat} (hPB : PB I d) : SpI G mX4_ditch .int 6 135 0 0 [.ref 0] K N I (pI K N (fun z J => kpC I J ∧ ∃ k z0 j, DA I n d k z0 j ∧ z = (if rvV z0 k j ≠ 0 then rvV z0 k j else (daR I n d j).2.1))) := by
  refine SpI.of (own := RX4) (cc := cX4_ditch) (L := [some (.ref 0), none]) (by decide) rfl rfl (Nat.le_of_ble_eq_true rfl) rfl (fun Fx hnm hret => ?_)
  refine x_aload_n dX4_ditch_0 rfl ?_
  refine xp_VI0 dX4_ditch_1 ml_RX4_103 vw_X4_liveDay vv_X4_liveDay rfl (sp_liveDay hN hB hP hPB) ⟨Nat.le_of_ble_eq_true rfl, Nat.le_of_ble_eq_true rfl, Nat.le_of_ble_eq_true rfl, Nat.le_of_ble_eq_true rfl, Nat.le_of_ble_eq_true rfl⟩ (fun z1 I1 hq => ?_)
  obtain ⟨k, z0, j, hD, hk60, hz, hk1, hJ⟩ := hq
  have hzb : -5 ≤ z1 ∧ z1 ≤ 0 := by rw [hz]; unfold rvV; (repeat' split) <;> omega
  have hz6 : z1 = 0 → z0 = -6 ∧ j = k := fun e => by
    rw [hz] at e
    unfold rvV at e
    by_cases q : z0 = -6
    · rw [if_neg (fun y => y q)] at e
      by_cases q2 : j = k
      · exact ⟨q, q2⟩
      · rw [if_neg q2] at e; exact absurd e (by decide)
    · rw [if_pos q] at e; exact absurd e (by decide)
  refine x_ist1 dX4_ditch_4 ?_
  refine x_iload_n dX4_ditch_5 rfl ?_
  refine x_if_eq 13 dX4_ditch_6 (by decide) (by unfold inr; omega) (fun h_6 => ?_) (fun h_6 => ?_)
  · refine x_aload_n dX4_ditch_13 rfl ?_
    refine x_getR (j := 22) dX4_ditch_14 gf_RX4_43 rfl rfl (hN _ _ (by decide)) ?_
    refine x_getR (j := 23) dX4_ditch_17 gf_RX4_119 rfl rfl (hN _ _ (by decide)) ?_
    refine x_getI dX4_ditch_20 gf_RX4_122 rfl rfl ?_
    refine hret _ _ _ _ _ _ dX4_ditch_23 rfl ?_
    refine ⟨rfl, rfl, hk1, k, z0, j, hD, ?_⟩
    first
    | (rw [if_pos (by rw [← hz]; exact h_6)]; exact hz)
    | (rw [if_neg (by rw [← hz, h_6]; decide)]
       obtain ⟨g1, g2, g3, g4⟩ := hJ (hz6 h_6).1
       exact g4.2.1)
  · refine x_iload_n dX4_ditch_9 rfl ?_
    refine x_goto 23 dX4_ditch_10 (by decide) ?_
    refine hret _ _ _ _ _ _ dX4_ditch_23 rfl ?_
    refine ⟨rfl, rfl, hk1, k, z0, j, hD, ?_⟩
    first
    | (rw [if_pos (by rw [← hz]; exact h_6)]; exact hz)
    | (rw [if_neg (by rw [← hz, h_6]; decide)]
       obtain ⟨g1, g2, g3, g4⟩ := hJ (hz6 h_6).1
       exact g4.2.1)
theorem sp_first (hN : NS N) (hB : RB I 1 n) (hP : ∀ f, f < n → fa I 1 f 6 ≤ 990000) {d : Nat} (hPB : PB I d) {f : Int} (hf : inr f) : SpI G mX4_first .int 6 135 0 0 [.ref 0, vi f] K N I (pI K N (fun z J => kpC I J ∧ ((¬ (0 ≤ f ∧ f < n) ∧ z = -1) ∨ ((0 ≤ f ∧ f < n) ∧ ∃ k z0 j, DA I n d k z0 j ∧ z = (if rvV z0 k j ≠ 0 then rvV z0 k j else (daR I n d j).2.2.2 f.toNat))))) := by
  refine SpI.of (own := RX4) (cc := cX4_first) (L := [some (.ref 0), some (vi f), none]) (by decide) rfl rfl (Nat.le_of_ble_eq_true rfl) rfl (fun Fx hnm hret => ?_)
  have hn9 := hB.2.2.1
  refine x_aload_n dX4_first_0 rfl ?_
  refine x_getR (j := 1) dX4_first_1 gf_RX4_10 rfl rfl (hN _ _ (by decide)) ?_
  refine x_iload_n dX4_first_4 rfl ?_
  refine xf_VI1 dX4_first_5 ml_RX4_68 vw_X3_has vv_X3_has rfl (sp_has (b := 1) rfl hN hf (by rw [hB.1]; unfold inr; omega)) ⟨Nat.le_of_ble_eq_true rfl, Nat.le_of_ble_eq_true rfl, Nat.le_of_ble_eq_true rfl, Nat.le_of_ble_eq_true rfl, Nat.le_of_ble_eq_true rfl⟩ ?_
  rw [hB.1]
  refine x_if_ne 13 dX4_first_8 (by decide) (by unfold inr; split <;> omega) (fun h_8 => ?_) (fun h_8 => ?_)
  · replace h_8 := b1 h_8
    refine x_aload_n dX4_first_13 rfl ?_
    refine xp_VI0 dX4_first_14 ml_RX4_103 vw_X4_liveDay vv_X4_liveDay rfl (sp_liveDay hN hB hP hPB) ⟨Nat.le_of_ble_eq_true rfl, Nat.le_of_ble_eq_true rfl, Nat.le_of_ble_eq_true rfl, Nat.le_of_ble_eq_true rfl, Nat.le_of_ble_eq_true rfl⟩ (fun z1 I1 hq => ?_)
    obtain ⟨k, z0, j, hD, hk60, hz, hk1, hJ⟩ := hq
    have hzb : -5 ≤ z1 ∧ z1 ≤ 0 := by rw [hz]; unfold rvV; (repeat' split) <;> omega
    have hz6 : z1 = 0 → z0 = -6 ∧ j = k := fun e => by
      rw [hz] at e
      unfold rvV at e
      by_cases q : z0 = -6
      · rw [if_neg (fun y => y q)] at e
        by_cases q2 : j = k
        · exact ⟨q, q2⟩
        · rw [if_neg q2] at e; exact absurd e (by decide)
      · rw [if_pos q] at e; exact absurd e (by decide)
    refine x_ist2 dX4_first_17 ?_
    refine x_iload_n dX4_first_18 rfl ?_
    refine x_if_eq 26 dX4_first_19 (by decide) (by unfold inr; omega) (fun h_19 => ?_) (fun h_19 => ?_)
    · refine x_aload_n dX4_first_26 rfl ?_
      refine x_getR (j := 22) dX4_first_27 gf_RX4_43 rfl rfl (hN _ _ (by decide)) ?_
      refine x_getR (j := 31) dX4_first_30 gf_RX4_132 rfl rfl (hN _ _ (by decide)) ?_
      refine x_iload_n dX4_first_33 rfl ?_
      refine x_iald (f.toNat) dX4_first_34 rfl (by omega) (show _ < 9 by omega) ?_
      refine hret _ _ _ _ _ _ dX4_first_35 rfl ?_
      refine ⟨rfl, rfl, hk1, Or.inr ⟨h_8, k, z0, j, hD, ?_⟩⟩
      first
      | (rw [if_pos (by rw [← hz]; exact h_19)]; exact hz)
      | (rw [if_neg (by rw [← hz, h_19]; decide)]
         obtain ⟨g1, g2, g3, g4⟩ := hJ (hz6 h_19).1
         exact g4.2.2.2.1 f.toNat (by omega))
    · refine x_iload_n dX4_first_22 rfl ?_
      refine x_goto 35 dX4_first_23 (by decide) ?_
      refine hret _ _ _ _ _ _ dX4_first_35 rfl ?_
      refine ⟨rfl, rfl, hk1, Or.inr ⟨h_8, k, z0, j, hD, ?_⟩⟩
      first
      | (rw [if_pos (by rw [← hz]; exact h_19)]; exact hz)
      | (rw [if_neg (by rw [← hz, h_19]; decide)]
         obtain ⟨g1, g2, g3, g4⟩ := hJ (hz6 h_19).1
         exact g4.2.2.2.1 f.toNat (by omega))
  · replace h_8 := b0 h_8
    refine x_iconst dX4_first_11 ?_
    refine hret _ _ _ _ _ _ dX4_first_12 rfl ?_
    exact ⟨rfl, rfl, kpC.rf, Or.inl ⟨h_8, rfl⟩⟩
theorem sp_done (hN : NS N) (hB : RB I 1 n) (hP : ∀ f, f < n → fa I 1 f 6 ≤ 990000) {d : Nat} (hPB : PB I d) : SpI G mX4_done .int 6 135 0 0 [.ref 0] K N I (pI K N (fun z J => ∃ k z0 j, DA I n d k z0 j ∧ z = (if rvV z0 k j ≠ 0 then rvV z0 k j else (k : Int)) ∧ (rvV z0 k j ≠ 0 → kpC I J) ∧ (rvV z0 k j = 0 → doP I J n (daR I n d j)))) := by
  refine SpI.of (own := RX4) (cc := cX4_done) (L := [some (.ref 0), none]) (by decide) rfl rfl (Nat.le_of_ble_eq_true rfl) rfl (fun Fx hnm hret => ?_)
  refine x_aload_n dX4_done_0 rfl ?_
  refine xp_VI0 dX4_done_1 ml_RX4_103 vw_X4_liveDay vv_X4_liveDay rfl (sp_liveDay hN hB hP hPB) ⟨Nat.le_of_ble_eq_true rfl, Nat.le_of_ble_eq_true rfl, Nat.le_of_ble_eq_true rfl, Nat.le_of_ble_eq_true rfl, Nat.le_of_ble_eq_true rfl⟩ (fun z1 I1 hq => ?_)
  obtain ⟨k, z0, j, hD, hk60, hz, hk1, hJ⟩ := hq
  have hzb : -5 ≤ z1 ∧ z1 ≤ 0 := by rw [hz]; unfold rvV; (repeat' split) <;> omega
  have hz6 : z1 = 0 → z0 = -6 ∧ j = k := fun e => by
    rw [hz] at e
    unfold rvV at e
    by_cases q : z0 = -6
    · rw [if_neg (fun y => y q)] at e
      by_cases q2 : j = k
      · exact ⟨q, q2⟩
      · rw [if_neg q2] at e; exact absurd e (by decide)
    · rw [if_pos q] at e; exact absurd e (by decide)
  refine x_ist1 dX4_done_4 ?_
  refine x_iload_n dX4_done_5 rfl ?_
  refine x_if_eq 11 dX4_done_6 (by decide) (by unfold inr; omega) (fun h_6 => ?_) (fun h_6 => ?_)
  · refine x_aload_n dX4_done_11 rfl ?_
    refine x_getR (j := 1) dX4_done_12 gf_RX4_10 rfl rfl (hN _ _ (by decide)) ?_
    refine x_aload_n dX4_done_15 rfl ?_
    refine x_getR (j := 22) dX4_done_16 gf_RX4_43 rfl rfl (hN _ _ (by decide)) ?_
    refine x_getR (j := 23) dX4_done_19 gf_RX4_119 rfl rfl (hN _ _ (by decide)) ?_
    refine xf_VV1 dX4_done_22 ml_RX4_125 vw_X3_copy vv_X3_copy rfl (sp_copy (s := 23) (d := 1) rfl rfl (by decide) hN) ⟨Nat.le_of_ble_eq_true rfl, Nat.le_of_ble_eq_true rfl, Nat.le_of_ble_eq_true rfl, Nat.le_of_ble_eq_true rfl, Nat.le_of_ble_eq_true rfl⟩ ?_
    refine x_aload_n dX4_done_25 rfl ?_
    refine x_getR (j := 18) dX4_done_26 gf_RX4_36 rfl rfl (hN _ _ (by decide)) ?_
    refine x_iconst dX4_done_29 ?_
    refine x_putI dX4_done_30 pf_RX4_93 rfl rfl ?_
    refine x_aload_n dX4_done_33 rfl ?_
    refine x_getR (j := 18) dX4_done_34 gf_RX4_36 rfl rfl (hN _ _ (by decide)) ?_
    refine x_getI dX4_done_37 gf_RX4_129 rfl rfl ?_
    refine hret _ _ _ _ _ _ dX4_done_40 rfl ?_
    obtain ⟨g1, g2, g3, g4, g5, g6, g7, g8, g9, g10, g11⟩ := hJ (hz6 h_6).1
    refine ⟨rfl, rfl, k, z0, j, hD, ?_, fun e => absurd (hz.symm.trans h_6) e, fun _ => ⟨?_, ?_, ?_, ?_, ?_, ?_, ?_, ?_⟩⟩
    · rw [if_neg (by rw [← hz, h_6]; decide), up_n2 (by omega), cp_o (by omega)]; exact g3
    · rw [fa_eq (I := cpR I1 23 1) (fun _ => up_n1 (by omega)), fa_cp]; exact g4
    · rw [up_n1 (by omega), cp_0 (by omega)]; exact g5
    · rw [up_n1 (by omega), cp_0 (by omega)]; exact g8
    · rw [up_n1 (by omega), cp_0 (by omega)]; exact g9
    · intro x hx; rw [up_n1 (by omega)]; exact (cp_2 (s := 23) (d := 1) hx).trans (g10 x hx)
    · intro x hx; rw [up_n1 (by omega), up_n1 (by omega)]; exact ⟨(cp_3 (s := 23) (d := 1) hx).trans (g11 x hx).1, (cp_4 (s := 23) (d := 1) hx).trans (g11 x hx).2⟩
    · exact up_s
    · intro x y q; rw [up_n1 (by omega), cp_o (by omega)]; exact hk1 x y (by unfold pcl; omega)
  · refine x_iload_n dX4_done_9 rfl ?_
    refine hret _ _ _ _ _ _ dX4_done_10 rfl ?_
    exact ⟨rfl, rfl, k, z0, j, hD, by rw [if_pos (by rw [← hz]; exact h_6)]; exact hz, fun _ => hk1, fun e => absurd (hz.trans e) h_6⟩
end FR

/-! ===== SpringFarms: what is asked of a day ===== -/
/-- the day that is told: its parts, what the reading answers, where it ends -/
def daR (I : MM) (n d : Nat) : Nat → DT := daS (fa I 1) (I 1 1) (l0R I 1) n (atV (I 19) d n) (fun i => (ftV (I 19) d n i).toNat)
def DA (I : MM) (n d k : Nat) (z0 : Int) (j : Nat) : Prop := PD (I 19) d n k z0 ∧ (z0 = -6 → LD (daR I n d) (atV (I 19) d n) (fun i => (ftV (I 19) d n i).toNat) k j)
theorem DA.uniq {I : MM} {n d k k2 : Nat} {z z2 : Int} {j j2 : Nat} (h : DA I n d k z j) (h2 : DA I n d k2 z2 j2) : k = k2 ∧ z = z2 ∧ (z = -6 → j = j2) := by
  obtain ⟨rfl, rfl⟩ := h.1.uniq h2.1
  exact ⟨rfl, rfl, fun e => (h.2 e).uniq (h2.2 e)⟩
def rvV (z0 : Int) (k j : Nat) : Int := if z0 ≠ -6 then -5 else if j = k then 0 else -3
def rwV (I : MM) (n d k j : Nat) : Int := whV (daR I n d) (atV (I 19) d n) (fun i => (ftV (I 19) d n i).toNat) k j
theorem cp_3 {I : MM} {s d k : Nat} (h : k < 8) : cpR I s d (d + 3) k = I (s + 3) k := by unfold cpR; rw [if_neg (by omega), if_neg (by omega), if_neg (by omega), if_pos ⟨rfl, h⟩]
theorem cp_4 {I : MM} {s d k : Nat} (h : k < 8) : cpR I s d (d + 4) k = I (s + 4) k := by unfold cpR; rw [if_neg (by omega), if_neg (by omega), if_neg (by omega), if_neg (by omega), if_pos ⟨rfl, h⟩]
section FR
variable {G : GT} {K : List Nat} {N : NN} {I J : MM} {n : Nat}
theorem sp_live (hN : NS N) (hB : RB I 1 n) (hP : ∀ f, f < n → fa I 1 f 6 ≤ 990000) {A : Nat → Int} {B : Nat → Nat} {k : Nat} (hk60 : k ≤ 60) (hk : I 18 4 = (k : Int)) (hA : ∀ j, j < k → I 20 j = A j ∧ I 21 j = (B j : Int)) (hAb : ∀ j, -1 ≤ A j ∧ A j ≤ 7) (hBb : ∀ j, B j < n) {S : Nat → DT} (hS : S = daS (fa I 1) (I 1 1) (l0R I 1) n A B) : SpV G mX0_live 4 91 0 0 [.ref 22, .ref 1, .ref 18] K N I (pV K N (fun J => ∃ j, LD S A B k j ∧ J 22 3 = bpV k j ∧ J 22 4 = whV S A B k j ∧ DSt I J n (S j) ∧ kpL I J)) := by
  refine SpV.of (own := RX0) (cc := cX0_live) (L := [some (.ref 22), some (.ref 1), some (.ref 18), none, none]) (by decide) rfl rfl (Nat.le_of_ble_eq_true rfl) rfl (fun Fx hnm hret => ?_)
  have hn9 := hB.2.2.1
  have hO0 := hB.okD hP
  have hSb : ∀ j, (∀ i, i < j → reF (S i).1 (B i) (A i) = 0) → _ := by
    rw [hS]
    exact daS_b (d0 := I 1 1) (l0 := l0R I 1) (A := A) (B := B) hO0 hBb
  rw [← hS] at hSb
  have lpB : ∀ (m : Nat) (j : Nat) (x : Int) (J : MM), j ≤ k → k < j + m → x = (j : Int) → (∀ i, i < j → reF (S i).1 (B i) (A i) = 0) → DSt I J n (S j) → kpL I J → J 22 3 = -6 → J 22 4 = -6 → XX G RX0 cX0_live (RmW 4 91 0 0) Fx 53 [some (.ref 22), some (.ref 1), some (.ref 18), some (vi x), none] [] K N J 0 0 := by
    intro m
    induction m with
    | zero => intros; exfalso; omega
    | succ m ih =>
      intro j x J h0 h1 h2 h3 h4 h5 h6 h7
      obtain ⟨b1, b2, b3⟩ := hSb j h3
      have b4 := b1.mono (show (990000 : Int) + 9 * (j : Int) ≤ 999990 by omega)
      have hkJ : J 18 4 = (k : Int) := (h5 18 4 (by omega)).trans hk
      have hAj : j < k → J 20 j = A j ∧ J 21 j = (B j : Int) := fun hj => ⟨(h5 20 j (by omega)).trans (hA j hj).1, (h5 21 j (by omega)).trans (hA j hj).2⟩
      have hAb2 := hAb j
      have b5 := b1 (B j) (hBb j)
      have hre : reaR J 23 (B j) (A j) = reF (S j).1 (B j) (A j) := by unfold reaR reF; rw [h4.1]
      have hrb := reF_b (F := (S j).1) (f := B j) (a := A j)
      have hBn := hBb j
      refine x_iload_n dX0_live_53 rfl ?_
      refine x_aload_n dX0_live_54 rfl ?_
      refine x_getI dX0_live_55 gf_RX0_46 rfl rfl ?_
      rw [hkJ]
      refine x_icmp_ge 121 dX0_live_58 (by decide) (by unfold inr; omega) (by unfold inr; omega) (fun h_58 => ?_) (fun h_58 => ?_)
      · refine hret _ _ _ _ _ dX0_live_121 ?_
        obtain rfl : j = k := by omega
        refine ⟨rfl, rfl, j, ⟨h0, h3, Or.inl rfl⟩, ?_, ?_, h4, h5⟩
        · unfold bpV; rw [if_pos rfl]; exact h6
        · unfold whV; rw [if_pos rfl]; exact h7
      · refine x_aload_n dX0_live_61 rfl ?_
        refine x_getR (j := 23) dX0_live_62 gf_RX0_12 rfl rfl (hN _ _ (by decide)) ?_
        refine x_aload_n dX0_live_65 rfl ?_
        refine x_getR (j := 20) dX0_live_66 gf_RX0_51 rfl rfl (hN _ _ (by decide)) ?_
        refine x_iload_n dX0_live_69 rfl ?_
        refine x_iald (j) dX0_live_70 rfl (by omega) (show _ < 60 by omega) ?_
        rw [(hAj (by omega)).1]
        refine x_aload_n dX0_live_71 rfl ?_
        refine x_getR (j := 21) dX0_live_72 gf_RX0_54 rfl rfl (hN _ _ (by decide)) ?_
        refine x_iload_n dX0_live_75 rfl ?_
        refine x_iald (j) dX0_live_76 rfl (by omega) (show _ < 60 by omega) ?_
        rw [(hAj (by omega)).2]
        refine xf_VI2 dX0_live_77 ml_RX0_57 vw_X3_reasonAgainst vv_X3_reasonAgainst rfl (sp_reason (b := 23) rfl hN (B j) rfl (by omega) (by unfold inr; omega) (by rw [h4.1]; unfold inr; omega) (by rw [h4.1]; unfold inr; omega)) ⟨Nat.le_of_ble_eq_true rfl, Nat.le_of_ble_eq_true rfl, Nat.le_of_ble_eq_true rfl, Nat.le_of_ble_eq_true rfl, Nat.le_of_ble_eq_true rfl⟩ ?_
        rw [hre]
        refine x_ist4 dX0_live_80 ?_
        refine x_iload dX0_live_82 rfl ?_
        refine x_if_eq 99 dX0_live_84 (by decide) (by unfold inr; omega) (fun h_84 => ?_) (fun h_84 => ?_)
        · refine x_aload_n dX0_live_99 rfl ?_
          refine x_aload_n dX0_live_100 rfl ?_
          refine x_getR (j := 20) dX0_live_101 gf_RX0_51 rfl rfl (hN _ _ (by decide)) ?_
          refine x_iload_n dX0_live_104 rfl ?_
          refine x_iald (j) dX0_live_105 rfl (by omega) (show _ < 60 by omega) ?_
          rw [(hAj (by omega)).1]
          refine x_aload_n dX0_live_106 rfl ?_
          refine x_getR (j := 21) dX0_live_107 gf_RX0_54 rfl rfl (hN _ _ (by decide)) ?_
          refine x_iload_n dX0_live_110 rfl ?_
          refine x_iald (j) dX0_live_111 rfl (by omega) (show _ < 60 by omega) ?_
          rw [(hAj (by omega)).2]
          refine xp_VV2 dX0_live_112 ml_RX0_61 vw_X0_pass vv_X0_pass rfl (sp_pass hN hB h4 h5 b4 (by omega) (fun f hf => by have := b3 f; omega) (by unfold inr; omega) (B j) hBn rfl) ⟨Nat.le_of_ble_eq_true rfl, Nat.le_of_ble_eq_true rfl, Nat.le_of_ble_eq_true rfl, Nat.le_of_ble_eq_true rfl, Nat.le_of_ble_eq_true rfl⟩ (fun I1 hq => ?_)
          obtain ⟨q1, q2, q3, q4⟩ := hq
          refine x_inc3 dX0_live_115 ?_
          refine x_goto 53 dX0_live_118 (by decide) ?_
          refine x_dr4 (ih (j + 1) _ _ (by omega) (by omega) (by omega) ?_ ?_ q2 (q3.trans h6) (q4.trans h7))
          · intro i hi
            rcases (by omega : i < j ∨ i = j) with z | rfl
            · exact h3 i z
            · exact h_84
          · rw [hS] at q1 ⊢
            exact q1
        · refine x_aload_n dX0_live_87 rfl ?_
          refine x_iload_n dX0_live_88 rfl ?_
          refine x_putI dX0_live_89 pf_RX0_33 rfl rfl ?_
          refine x_aload_n dX0_live_92 rfl ?_
          refine x_iload dX0_live_93 rfl ?_
          refine x_putI dX0_live_95 pf_RX0_37 rfl rfl ?_
          refine hret _ _ _ _ _ dX0_live_98 ?_
          refine ⟨rfl, rfl, j, ⟨h0, h3, Or.inr ⟨by omega, h_84⟩⟩, ?_, ?_, ?_, ?_⟩
          · rw [up_n2 (by omega), up_s]; unfold bpV; rw [if_neg (by omega)]; exact h2
          · rw [up_s]; unfold whV; rw [if_neg (by omega)]
          · obtain ⟨s1, s2, s3, s4, s5, s6, s7, s8⟩ := h4
            refine ⟨?_, ?_, ?_, ?_, ?_, ?_, ?_, ?_⟩
            · rw [fa_eq (I := J) (fun _ => (up_n1 (by omega)).trans (up_n1 (by omega)))]; exact s1
            · rw [up_n1 (by omega), up_n1 (by omega)]; exact s2
            · rw [up_n2 (by omega), up_n2 (by omega)]; exact s3
            · intro g hg; rw [up_n1 (by omega), up_n1 (by omega)]; exact s4 g hg
            · rw [up_n1 (by omega), up_n1 (by omega)]; exact s5
            · rw [up_n1 (by omega), up_n1 (by omega)]; exact s6
            · intro g hg; rw [up_n1 (by omega), up_n1 (by omega)]; exact s7 g hg
            · intro g hg; rw [up_n1 (by omega), up_n1 (by omega), up_n1 (by omega), up_n1 (by omega)]; exact s8 g hg
          · intro a b q; rw [up_n1 (by omega), up_n1 (by omega)]; exact h5 a b q
  have lpA : ∀ (m : Nat) (f : Nat) (x : Int) (J : MM), f ≤ 9 → 9 < f + m → x = (f : Int) → fa J 23 = fa I 1 → (∀ k, k < 3 → J 23 k = I 1 k) → J 22 5 = 0 → (∀ k, k < 3 → J 25 k = I 3 k) → (∀ k, k < 8 → J 26 k = I 4 k ∧ J 27 k = I 5 k) → (∀ g, g < f → J 31 g = -6) → kpL I J → J 22 3 = -6 → J 22 4 = -6 → XX G RX0 cX0_live (RmW 4 91 0 0) Fx 27 [some (.ref 22), some (.ref 1), some (.ref 18), some (vi x), none] [] K N J 0 0 := by
    intro m
    induction m with
    | zero => intros; exfalso; omega
    | succ m ih =>
      intro f x J h0 h1 h2 h3 h4 h5 h6 h7 h8 h9 h10 h11
      refine x_iload_n dX0_live_27 rfl ?_
      refine x_bipush dX0_live_28 (by decide) ?_
      refine x_icmp_ge 47 dX0_live_30 (by decide) (by unfold inr; omega) (by unfold inr; omega) (fun h_30 => ?_) (fun h_30 => ?_)
      · have hBJ : RB J 23 n := okD.RB hB (hO0.mono (by omega)) h3 ((h4 0 (by omega)).trans hB.1) h6
        refine x_aload_n dX0_live_47 rfl ?_
        refine xf_VV0 dX0_live_48 ml_RX0_43 vw_X0_noteEnough vv_X0_noteEnough rfl (sp_noteEnough hN hBJ (fun g hg => by rw [h8 g (by omega)]; unfold inr; omega)) ⟨Nat.le_of_ble_eq_true rfl, Nat.le_of_ble_eq_true rfl, Nat.le_of_ble_eq_true rfl, Nat.le_of_ble_eq_true rfl, Nat.le_of_ble_eq_true rfl⟩ ?_
        refine x_iconst dX0_live_51 ?_
        refine x_ist3 dX0_live_52 ?_
        refine lpB (k + 1) 0 _ _ (by omega) (by omega) rfl (fun i hi => absurd hi (Nat.not_lt_zero i)) ?_ (fun a b q => (nt_o (by omega)).trans (h9 a b q)) ((nt_o (by omega)).trans h10) ((nt_o (by omega)).trans h11)
        rw [hS]
        refine ⟨(fa_eq (fun _ => nt_o (by omega))).trans h3, (nt_o (by omega)).trans (h4 1 (by omega)), (nt_o (by omega)).trans h5, fun g hg => ?_, (nt_o (by omega)).trans ((h4 0 (by omega)).trans hB.1), (nt_o (by omega)).trans (h4 2 (by omega)), fun k hk => (nt_o (by omega)).trans (h6 k hk), fun k hk => ⟨(nt_o (by omega)).trans (h7 k hk).1, (nt_o (by omega)).trans (h7 k hk).2⟩⟩
        exact nt_e hg h3 h5 (h8 g (by omega))
      · refine x_aload_n dX0_live_33 rfl ?_
        refine x_getR (j := 31) dX0_live_34 gf_RX0_25 rfl rfl (hN _ _ (by decide)) ?_
        refine x_iload_n dX0_live_37 rfl ?_
        refine x_bipush dX0_live_38 (by decide) ?_
        refine x_iast (f) dX0_live_40 rfl (by omega) (show _ < 9 by omega) ?_
        refine x_inc3 dX0_live_41 ?_
        refine x_goto 27 dX0_live_44 (by decide) ?_
        refine ih (f + 1) _ _ (by omega) (by omega) (by omega) ((fa_eq (fun _ => up_n1 (by omega))).trans h3) (fun k hk => by rw [up_n1 (by omega)]; exact h4 k hk) (by rw [up_n1 (by omega)]; exact h5) (fun k hk => by rw [up_n1 (by omega)]; exact h6 k hk) (fun k hk => by rw [up_n1 (by omega), up_n1 (by omega)]; exact h7 k hk) (fun g hg => ?_) (fun a b q => by rw [up_n1 (by omega)]; exact h9 a b q) (by rw [up_n1 (by omega)]; exact h10) (by rw [up_n1 (by omega)]; exact h11)
        rcases (by omega : g < f ∨ g = f) with z | rfl
        · rw [up_n2 (by omega)]; exact h8 g z
        · exact up_s
  refine x_aload_n dX0_live_0 rfl ?_
  refine x_getR (j := 23) dX0_live_1 gf_RX0_12 rfl rfl (hN _ _ (by decide)) ?_
  refine x_aload_n dX0_live_4 rfl ?_
  refine xf_VV1 dX0_live_5 ml_RX0_29 vw_X3_copy vv_X3_copy rfl (sp_copy (s := 1) (d := 23) rfl rfl (by decide) hN) ⟨Nat.le_of_ble_eq_true rfl, Nat.le_of_ble_eq_true rfl, Nat.le_of_ble_eq_true rfl, Nat.le_of_ble_eq_true rfl, Nat.le_of_ble_eq_true rfl⟩ ?_
  refine x_aload_n dX0_live_8 rfl ?_
  refine x_bipush dX0_live_9 (by decide) ?_
  refine x_putI dX0_live_11 pf_RX0_33 rfl rfl ?_
  refine x_aload_n dX0_live_14 rfl ?_
  refine x_bipush dX0_live_15 (by decide) ?_
  refine x_putI dX0_live_17 pf_RX0_37 rfl rfl ?_
  refine x_aload_n dX0_live_20 rfl ?_
  refine x_iconst dX0_live_21 ?_
  refine x_putI dX0_live_22 pf_RX0_40 rfl rfl ?_
  refine x_iconst dX0_live_25 ?_
  refine x_ist3 dX0_live_26 ?_
  refine lpA 10 0 _ _ (by omega) (by omega) rfl ((fa_eq (fun _ => ?_)).trans fa_cp) (fun k hk => ?_) up_s (fun k hk => ?_) (fun k hk => ⟨?_, ?_⟩) (fun g hg => absurd hg (Nat.not_lt_zero g)) (fun a b q => ?_) ?_ ?_
  · rw [up_n1 (by omega), up_n1 (by omega), up_n1 (by omega)]
  · rw [up_n1 (by omega), up_n1 (by omega), up_n1 (by omega)]; exact cp_0 hk
  · rw [up_n1 (by omega), up_n1 (by omega), up_n1 (by omega)]; exact cp_2 (s := 1) (d := 23) hk
  · rw [up_n1 (by omega), up_n1 (by omega), up_n1 (by omega)]; exact cp_3 (s := 1) (d := 23) hk
  · rw [up_n1 (by omega), up_n1 (by omega), up_n1 (by omega)]; exact cp_4 (s := 1) (d := 23) hk
  · rw [up_n1 (by omega), up_n1 (by omega), up_n1 (by omega)]; exact cp_o (by omega)
  · rw [up_n2 (by omega), up_n2 (by omega), up_s]
  · rw [up_n2 (by omega), up_s]
end FR

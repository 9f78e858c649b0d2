/-! ===== the reference: a day lived ===== -/
theorem ntE_z {F : FT} {hc : Int} {en : Nat → Int} {f : Nat} (h0 : 0 ≤ hc) (h : en f = -6 ∨ 0 ≤ en f) : ntE F hc en f = -6 ∨ 0 ≤ ntE F hc en f := by unfold ntE; split <;> omega
theorem ntE_e {F : FT} {hc : Int} {en en' : Nat → Int} {f : Nat} (h : en f = en' f) : ntE F hc en f = ntE F hc en' f := by unfold ntE; rw [h]
theorem daS_e {F0 : FT} {d0 : Int} {l0 : Int → Int} {n : Nat} {A : Nat → Int} {B : Nat → Nat} : ∀ j, 0 ≤ (daS F0 d0 l0 n A B j).2.2.1 ∧ ∀ f, (daS F0 d0 l0 n A B j).2.2.2 f = -6 ∨ 0 ≤ (daS F0 d0 l0 n A B j).2.2.2 f
  | 0 => ⟨Int.le_refl _, fun f => by
    show ntE F0 0 (fun _ => -6) f = -6 ∨ 0 ≤ ntE F0 0 (fun _ => -6) f
    exact ntE_z (Int.le_refl _) (Or.inl rfl)⟩
  | j + 1 => by
    obtain ⟨a1, a2⟩ := daS_e (F0 := F0) (d0 := d0) (l0 := l0) (n := n) (A := A) (B := B) j
    show 0 ≤ (stD l0 n _ _ _).2.2.1 ∧ ∀ f, (stD l0 n _ _ _).2.2.2 f = -6 ∨ 0 ≤ (stD l0 n _ _ _).2.2.2 f
    unfold stD
    split
    · exact ⟨a1, a2⟩
    · refine ⟨?_, fun f => ntE_z ?_ (a2 f)⟩
      · show 0 ≤ (daS F0 d0 l0 n A B j).2.2.1 + 1; omega
      · omega
def MDt (J : MM) (n : Nat) (s : DT) : Prop := fm J = s.1 ∧ J 50 5 = s.2.1 ∧ J 50 21 = s.2.2.1 ∧ ∀ f, f < n → J 60 f = s.2.2.2 f
/-- what a day leaves alone -/
def kpD (I J : MM) : Prop := ∀ a b, ¬ (a = 51 ∧ b < 63) → a ≠ 57 → a ≠ 58 → a ≠ 60 → ¬ (a = 50 ∧ (b = 5 ∨ b = 16 ∨ b = 19 ∨ b = 20 ∨ b = 21)) → J a b = I a b
theorem kpD.l0 {I J : MM} (h : kpD I J) {kn : Int} : l0M J kn = l0M I kn := l0M_eq (h 50 2 (by omega) (by omega) (by omega) (by omega) (by omega)) (h 50 3 (by omega) (by omega) (by omega) (by omega) (by omega)) (h 50 4 (by omega) (by omega) (by omega) (by omega) (by omega))
theorem kpD.RM {I J : MM} {n : Nat} (h : kpD I J) (hB : RM I n) (hO : okD (fm J) n 1000000) : RM J n := by
  obtain ⟨a1, a2, a3, a4, a5, a6, a7⟩ := hB
  exact ⟨(h 50 0 (by omega) (by omega) (by omega) (by omega) (by omega)).trans a1, a2, a3, hO, by rw [h 50 2 (by omega) (by omega) (by omega) (by omega) (by omega)]; exact a5, by rw [h 50 3 (by omega) (by omega) (by omega) (by omega) (by omega)]; exact a6, by rw [h 50 4 (by omega) (by omega) (by omega) (by omega) (by omega)]; exact a7⟩
theorem RM.okP {I : MM} {n : Nat} {P : Int} (h : RM I n) (hP : ∀ f, f < n → fm I f 6 ≤ P) : okD (fm I) n P := fun f hf => by
  have h1 := h.2.2.2.1 f hf
  have h2 := hP f hf
  omega
section FR
variable {G : GT} {K : List Nat} {N : NN} {I : MM} {n : Nat}
theorem sp_goDay (hN : NS N) (hB : RM I n) (hP : ∀ f, f < n → fm I f 6 ≤ 990000) {A : Nat → Int} {B : Nat → Nat} {q : Nat} (hq60 : q ≤ 60) (hq : I 50 13 = (q : Int)) (hA : ∀ j, j < q → I 55 j = mpV (A j) ∧ I 56 j = mfV (A j) (B j)) (hAb : ∀ j, j < q → 0 ≤ A j ∧ A j ≤ 7) (hBb : ∀ j, B j < n) {S : Nat → DT} (hS : S = daS (fm I) (I 50 5) (l0M I) n A B) : SpV G mX5_goDay 4 91 0 0 [.ref 50] K N I (pV K N (fun J => ∃ j, LD S A B q j ∧ J 50 19 = bpV q j ∧ J 50 20 = whV S A B q j ∧ MDt J n (S j) ∧ kpD I J)) := by
  refine SpV.of (own := RX5) (cc := cX5_goDay) (L := [some (.ref 50), none, none]) (by decide) rfl rfl (Nat.le_of_ble_eq_true rfl) rfl (fun Fx hnm hret => ?_)
  have hn9 := hB.2.2.1
  have hOP := hB.okP hP
  have hsb : ∀ j, (∀ i, i < j → reF (S i).1 (B i) (A i) = 0) → okD (S j).1 n (990000 + 9 * (j : Int)) ∧ (0 ≤ (S j).2.2.1 ∧ (S j).2.2.1 ≤ (j : Int)) ∧ ∀ f, -6 ≤ (S j).2.2.2 f ∧ (S j).2.2.2 f ≤ (j : Int) := by rw [hS]; exact daS_b hOP hBb
  have hse : ∀ j, 0 ≤ (S j).2.2.1 ∧ ∀ f, (S j).2.2.2 f = -6 ∨ 0 ≤ (S j).2.2.2 f := by rw [hS]; exact daS_e
  have eS : ∀ j, S (j + 1) = stD (l0M I) n (S j) (A j) (B j) := fun j => by rw [hS]; rfl
  have eS0 : S 0 = (fm I, I 50 5, 0, ntE (fm I) 0 (fun _ => -6)) := by rw [hS]; rfl
  have l47x : ∀ (j : Nat) (z : Int) (J : MM), j < q → z = (j : Int) + 1 → J 50 19 = (j : Int) → LD S A B q j → J 50 20 = whV S A B q j → MDt J n (S j) → kpD I J → XX G RX5 cX5_goDay (RmW 4 91 0 0) Fx 47 [some (.ref 50), some (vi z), none] [] K N J 0 0 := by
    intro j z J h0 h1 h2 h3 h4 h5 h6
    have hJq : J 50 13 = (q : Int) := (h6 50 13 (by omega) (by omega) (by omega) (by omega) (by omega)).trans hq
    refine x_iload_n dX5_goDay_47 rfl ?_
    refine x_aload_n dX5_goDay_48 rfl ?_
    refine x_getI dX5_goDay_49 gf_RX5_115 rfl rfl ?_
    rw [hJq]
    refine x_icmp_ge 149 dX5_goDay_52 (by decide) (by unfold inr; omega) (by unfold inr; omega) (fun h_52 => ?_) (fun h_52 => ?_)
    · refine hret _ _ _ _ _ dX5_goDay_149 ?_
      exact ⟨rfl, rfl, j, h3, by rw [h2]; unfold bpV; rw [if_neg (by omega)], h4, h5, h6⟩
    · refine x_aload_n dX5_goDay_55 rfl ?_
      refine x_getI dX5_goDay_56 gf_RX5_140 rfl rfl ?_
      rw [h2]
      refine x_if_ge 149 dX5_goDay_59 (by decide) (by unfold inr; omega) (fun h_59 => ?_) (fun h_59 => ?_)
      · refine hret _ _ _ _ _ dX5_goDay_149 ?_
        exact ⟨rfl, rfl, j, h3, by rw [h2]; unfold bpV; rw [if_neg (by omega)], h4, h5, h6⟩
      · exfalso; omega
  have lp : ∀ (m : Nat) (j : Nat) (z : Int) (J : MM), j ≤ q → q < j + m → z = (j : Int) → (∀ i, i < j → reF (S i).1 (B i) (A i) = 0) → J 50 19 = -6 → J 50 20 = -6 → MDt J n (S j) → kpD I J → XX G RX5 cX5_goDay (RmW 4 91 0 0) Fx 47 [some (.ref 50), some (vi z), none] [] K N J 0 0 := by
    intro m
    induction m with
    | zero => intros; exfalso; omega
    | succ m ih =>
      intro j z J h0 h1 h2 h3 h4 h5 h6 h7
      have hJq : J 50 13 = (q : Int) := (h7 50 13 (by omega) (by omega) (by omega) (by omega) (by omega)).trans hq
      have hJ55 : J 55 j = I 55 j := h7 55 j (by omega) (by omega) (by omega) (by omega) (by omega)
      have hJ56 : J 56 j = I 56 j := h7 56 j (by omega) (by omega) (by omega) (by omega) (by omega)
      obtain ⟨o1, o2, o3⟩ := hsb j h3
      obtain ⟨e1, e2⟩ := hse j
      have hBJ : RM J n := h7.RM hB (by rw [h6.1]; exact o1.mono (by omega))
      have hl0 : ∀ kn, l0M J kn = l0M I kn := fun kn => h7.l0
      have hBj := hBb j
      have hAj : j < q → _ := hA j
      have hAjb : j < q → _ := hAb j
      have hmf : mfV (A j) (B j) = if A j ≤ 3 then -6 else (B j : Int) := rfl
      refine x_iload_n dX5_goDay_47 rfl ?_
      refine x_aload_n dX5_goDay_48 rfl ?_
      refine x_getI dX5_goDay_49 gf_RX5_115 rfl rfl ?_
      rw [hJq]
      refine x_icmp_ge 149 dX5_goDay_52 (by decide) (by unfold inr; omega) (by unfold inr; omega) (fun h_52 => ?_) (fun h_52 => ?_)
      · refine hret _ _ _ _ _ dX5_goDay_149 ?_
        obtain rfl : j = q := by omega
        exact ⟨rfl, rfl, j, ⟨Nat.le_refl _, h3, Or.inl rfl⟩, by rw [h4]; unfold bpV; rw [if_pos rfl], by rw [h5]; unfold whV; rw [if_pos rfl], h6, h7⟩
      · refine x_aload_n dX5_goDay_55 rfl ?_
        refine x_getI dX5_goDay_56 gf_RX5_140 rfl rfl ?_
        rw [h4]
        refine x_if_ge 149 dX5_goDay_59 (by decide) (by unfold inr; omega) (fun h_59 => ?_) (fun h_59 => ?_)
        · exfalso; omega
        · refine x_aload_n dX5_goDay_62 rfl ?_
          refine x_getR (j := 56) dX5_goDay_63 gf_RX5_25 rfl rfl (hN _ _ (by decide)) ?_
          refine x_iload_n dX5_goDay_66 rfl ?_
          refine x_iald (j) dX5_goDay_67 rfl h2 (show _ < 60 by omega) ?_
          rw [hJ56, (hAj (by omega)).2, hmf]
          have hAjb2 := hAjb (by omega)
          refine x_if_ge 98 dX5_goDay_68 (by decide) (by unfold inr; omega) (fun h_68 => ?_) (fun h_68 => ?_)
          · have hA4 : 4 ≤ A j := by omega
            refine x_aload_n dX5_goDay_98 rfl ?_
            refine x_aload_n dX5_goDay_99 rfl ?_
            refine x_getR (j := 56) dX5_goDay_100 gf_RX5_25 rfl rfl (hN _ _ (by decide)) ?_
            refine x_iload_n dX5_goDay_103 rfl ?_
            refine x_iald (j) dX5_goDay_104 rfl h2 (show _ < 60 by omega) ?_
            rw [hJ56, (hAj (by omega)).2, hmf, if_neg (by omega)]
            refine x_aload_n dX5_goDay_105 rfl ?_
            refine x_getR (j := 55) dX5_goDay_106 gf_RX5_22 rfl rfl (hN _ _ (by decide)) ?_
            refine x_iload_n dX5_goDay_109 rfl ?_
            refine x_iald (j) dX5_goDay_110 rfl h2 (show _ < 60 by omega) ?_
            rw [hJ55, (hAj (by omega)).1]
            refine xp_VI2 dX5_goDay_111 ml_RX5_152 vw_X5_deed vv_X5_deed rfl (sp_deed hN hBJ (B j) hBj rfl (show 4 ≤ A j ∧ A j ≤ 7 by omega) rfl) ⟨Nat.le_of_ble_eq_true rfl, Nat.le_of_ble_eq_true rfl, Nat.le_of_ble_eq_true rfl, Nat.le_of_ble_eq_true rfl, Nat.le_of_ble_eq_true rfl⟩ (fun z1 I1 hq => ?_)
            obtain ⟨hz, hF1, hk1⟩ := hq
            rw [h6.1] at hz hF1
            have hrb := reF_b (F := (S j).1) (f := B j) (a := A j)
            rw [← hz] at hF1 hrb
            refine x_ist2 dX5_goDay_114 ?_
            refine x_aload_n dX5_goDay_115 rfl ?_
            refine x_iload_n dX5_goDay_116 rfl ?_
            refine x_if_le 124 dX5_goDay_117 (by decide) (by unfold inr; omega) (fun h_117 => ?_) (fun h_117 => ?_)
            · refine x_bipush dX5_goDay_124 (by decide) ?_
              refine x_putI dX5_goDay_126 pf_RX5_140 rfl rfl ?_
              refine x_aload_n dX5_goDay_129 rfl ?_
              refine x_iload_n dX5_goDay_130 rfl ?_
              refine x_if_le 138 dX5_goDay_131 (by decide) (by unfold inr; omega) (fun h_131 => ?_) (fun h_131 => ?_)
              · refine x_bipush dX5_goDay_138 (by decide) ?_
                refine x_putI dX5_goDay_140 pf_RX5_143 rfl rfl ?_
                refine x_inc1 dX5_goDay_143 ?_
                refine x_goto 47 dX5_goDay_146 (by decide) ?_
                first
                | (exfalso; omega)
                | (have eSj := eS j
                   unfold stD at eSj
                   rw [if_neg (by omega)] at eSj
                   refine ih (j + 1) _ _ (by omega) (by omega) (by omega) (fun i hi => ?_) ?_ ?_ ?_ ?_
                   · rcases (by omega : i < j ∨ i = j) with e | rfl
                     · exact h3 i e
                     · unfold reF; rw [if_neg (by omega), if_neg (by omega), if_neg (by omega)]
                   · rw [hw2 50 19 (by omega), up_n2 (by omega), hk1 50 19 (by omega) (by omega) (by omega) (by omega)]; exact h4
                   · rw [hw2 50 20 (by omega), up_n2 (by omega), hk1 50 20 (by omega) (by omega) (by omega) (by omega)]; exact h5
                   · rw [eSj]
                     refine ⟨(fm_eq (fun k => hw2 51 k (by omega))).trans hFU, ?_, ?_, fun f hf => ?_⟩
                     · rw [hw2 50 5 (by omega), up_n2 (by omega), hd1, h6.2.1]
                     · rw [hw2 50 21 (by omega), up_s, hk1 50 21 (by omega) (by omega) (by omega) (by omega), h6.2.2.1]
                     · rw [hw1 f hf, hFU, up_s, hk1 50 21 (by omega) (by omega) (by omega) (by omega), h6.2.2.1]
                       exact ntE_e (h60U f hf)
                   · intro a b q1 q2 q3 q4 q5
                     rw [hw2 a b q4]; exact hkU a b q1 q2 q3 q4 q5)
                | (rw [if_neg (by omega)] at hF1
                   refine x_dr2 (l47x j _ _ (by omega) (by omega) ?_ ⟨by omega, h3, Or.inr ⟨by omega, by rw [← hz]; omega⟩⟩ ?_ ⟨?_, ?_, ?_, ?_⟩ ?_)
                   · rw [up_n2 (by omega), up_s]; omega
                   · rw [up_s]; unfold whV; rw [if_neg (by omega)]; exact hz
                   · rw [fm_eq (I := I1) (fun _ => by rw [up_n1 (by omega), up_n1 (by omega)])]; exact hF1
                   · rw [up_n2 (by omega), up_n2 (by omega), hk1 50 5 (by omega)]; exact h6.2.1
                   · rw [up_n2 (by omega), up_n2 (by omega), hk1 50 21 (by omega)]; exact h6.2.2.1
                   · intro f hf
                     rw [up_n1 (by omega), up_n1 (by omega), hk1 60 f (by omega)]; exact h6.2.2.2 f hf
                   · intro a b q1 q2 q3 q4 q5
                     rw [up_n (by omega), up_n (by omega), hk1 a b q1]; exact h7 a b q1 q2 q3 q4 q5)
                | (rw [if_pos (by omega)] at hF1
                   have eSj := eS j
                   unfold stD at eSj
                   rw [if_pos (by omega)] at eSj
                   refine x_dr2 (ih (j + 1) _ _ (by omega) (by omega) (by omega) (fun i hi => ?_) ?_ ?_ ?_ ?_)
                   · rcases (by omega : i < j ∨ i = j) with e | rfl
                     · exact h3 i e
                     · rw [← hz]; omega
                   · rw [up_n2 (by omega), up_s]
                   · rw [up_s]
                   · rw [eSj]
                     refine ⟨?_, ?_, ?_, fun f hf => ?_⟩
                     · rw [fm_eq (I := I1) (fun _ => by rw [up_n1 (by omega), up_n1 (by omega)])]; exact hF1
                     · rw [up_n2 (by omega), up_n2 (by omega), hk1 50 5 (by omega)]; exact h6.2.1
                     · rw [up_n2 (by omega), up_n2 (by omega), hk1 50 21 (by omega)]; exact h6.2.2.1
                     · rw [up_n1 (by omega), up_n1 (by omega), hk1 60 f (by omega)]; exact h6.2.2.2 f hf
                   · intro a b q1 q2 q3 q4 q5
                     rw [up_n (by omega), up_n (by omega), hk1 a b q1]; exact h7 a b q1 q2 q3 q4 q5)
              · refine x_iload_n dX5_goDay_134 rfl ?_
                refine x_goto 140 dX5_goDay_135 (by decide) ?_
                refine x_putI dX5_goDay_140 pf_RX5_143 rfl rfl ?_
                refine x_inc1 dX5_goDay_143 ?_
                refine x_goto 47 dX5_goDay_146 (by decide) ?_
                first
                | (exfalso; omega)
                | (have eSj := eS j
                   unfold stD at eSj
                   rw [if_neg (by omega)] at eSj
                   refine ih (j + 1) _ _ (by omega) (by omega) (by omega) (fun i hi => ?_) ?_ ?_ ?_ ?_
                   · rcases (by omega : i < j ∨ i = j) with e | rfl
                     · exact h3 i e
                     · unfold reF; rw [if_neg (by omega), if_neg (by omega), if_neg (by omega)]
                   · rw [hw2 50 19 (by omega), up_n2 (by omega), hk1 50 19 (by omega) (by omega) (by omega) (by omega)]; exact h4
                   · rw [hw2 50 20 (by omega), up_n2 (by omega), hk1 50 20 (by omega) (by omega) (by omega) (by omega)]; exact h5
                   · rw [eSj]
                     refine ⟨(fm_eq (fun k => hw2 51 k (by omega))).trans hFU, ?_, ?_, fun f hf => ?_⟩
                     · rw [hw2 50 5 (by omega), up_n2 (by omega), hd1, h6.2.1]
                     · rw [hw2 50 21 (by omega), up_s, hk1 50 21 (by omega) (by omega) (by omega) (by omega), h6.2.2.1]
                     · rw [hw1 f hf, hFU, up_s, hk1 50 21 (by omega) (by omega) (by omega) (by omega), h6.2.2.1]
                       exact ntE_e (h60U f hf)
                   · intro a b q1 q2 q3 q4 q5
                     rw [hw2 a b q4]; exact hkU a b q1 q2 q3 q4 q5)
                | (rw [if_neg (by omega)] at hF1
                   refine x_dr2 (l47x j _ _ (by omega) (by omega) ?_ ⟨by omega, h3, Or.inr ⟨by omega, by rw [← hz]; omega⟩⟩ ?_ ⟨?_, ?_, ?_, ?_⟩ ?_)
                   · rw [up_n2 (by omega), up_s]; omega
                   · rw [up_s]; unfold whV; rw [if_neg (by omega)]; exact hz
                   · rw [fm_eq (I := I1) (fun _ => by rw [up_n1 (by omega), up_n1 (by omega)])]; exact hF1
                   · rw [up_n2 (by omega), up_n2 (by omega), hk1 50 5 (by omega)]; exact h6.2.1
                   · rw [up_n2 (by omega), up_n2 (by omega), hk1 50 21 (by omega)]; exact h6.2.2.1
                   · intro f hf
                     rw [up_n1 (by omega), up_n1 (by omega), hk1 60 f (by omega)]; exact h6.2.2.2 f hf
                   · intro a b q1 q2 q3 q4 q5
                     rw [up_n (by omega), up_n (by omega), hk1 a b q1]; exact h7 a b q1 q2 q3 q4 q5)
                | (rw [if_pos (by omega)] at hF1
                   have eSj := eS j
                   unfold stD at eSj
                   rw [if_pos (by omega)] at eSj
                   refine x_dr2 (ih (j + 1) _ _ (by omega) (by omega) (by omega) (fun i hi => ?_) ?_ ?_ ?_ ?_)
                   · rcases (by omega : i < j ∨ i = j) with e | rfl
                     · exact h3 i e
                     · rw [← hz]; omega
                   · rw [up_n2 (by omega), up_s]
                   · rw [up_s]
                   · rw [eSj]
                     refine ⟨?_, ?_, ?_, fun f hf => ?_⟩
                     · rw [fm_eq (I := I1) (fun _ => by rw [up_n1 (by omega), up_n1 (by omega)])]; exact hF1
                     · rw [up_n2 (by omega), up_n2 (by omega), hk1 50 5 (by omega)]; exact h6.2.1
                     · rw [up_n2 (by omega), up_n2 (by omega), hk1 50 21 (by omega)]; exact h6.2.2.1
                     · rw [up_n1 (by omega), up_n1 (by omega), hk1 60 f (by omega)]; exact h6.2.2.2 f hf
                   · intro a b q1 q2 q3 q4 q5
                     rw [up_n (by omega), up_n (by omega), hk1 a b q1]; exact h7 a b q1 q2 q3 q4 q5)
            · refine x_iload_n dX5_goDay_120 rfl ?_
              refine x_goto 126 dX5_goDay_121 (by decide) ?_
              refine x_putI dX5_goDay_126 pf_RX5_140 rfl rfl ?_
              refine x_aload_n dX5_goDay_129 rfl ?_
              refine x_iload_n dX5_goDay_130 rfl ?_
              refine x_if_le 138 dX5_goDay_131 (by decide) (by unfold inr; omega) (fun h_131 => ?_) (fun h_131 => ?_)
              · refine x_bipush dX5_goDay_138 (by decide) ?_
                refine x_putI dX5_goDay_140 pf_RX5_143 rfl rfl ?_
                refine x_inc1 dX5_goDay_143 ?_
                refine x_goto 47 dX5_goDay_146 (by decide) ?_
                first
                | (exfalso; omega)
                | (have eSj := eS j
                   unfold stD at eSj
                   rw [if_neg (by omega)] at eSj
                   refine ih (j + 1) _ _ (by omega) (by omega) (by omega) (fun i hi => ?_) ?_ ?_ ?_ ?_
                   · rcases (by omega : i < j ∨ i = j) with e | rfl
                     · exact h3 i e
                     · unfold reF; rw [if_neg (by omega), if_neg (by omega), if_neg (by omega)]
                   · rw [hw2 50 19 (by omega), up_n2 (by omega), hk1 50 19 (by omega) (by omega) (by omega) (by omega)]; exact h4
                   · rw [hw2 50 20 (by omega), up_n2 (by omega), hk1 50 20 (by omega) (by omega) (by omega) (by omega)]; exact h5
                   · rw [eSj]
                     refine ⟨(fm_eq (fun k => hw2 51 k (by omega))).trans hFU, ?_, ?_, fun f hf => ?_⟩
                     · rw [hw2 50 5 (by omega), up_n2 (by omega), hd1, h6.2.1]
                     · rw [hw2 50 21 (by omega), up_s, hk1 50 21 (by omega) (by omega) (by omega) (by omega), h6.2.2.1]
                     · rw [hw1 f hf, hFU, up_s, hk1 50 21 (by omega) (by omega) (by omega) (by omega), h6.2.2.1]
                       exact ntE_e (h60U f hf)
                   · intro a b q1 q2 q3 q4 q5
                     rw [hw2 a b q4]; exact hkU a b q1 q2 q3 q4 q5)
                | (rw [if_neg (by omega)] at hF1
                   refine x_dr2 (l47x j _ _ (by omega) (by omega) ?_ ⟨by omega, h3, Or.inr ⟨by omega, by rw [← hz]; omega⟩⟩ ?_ ⟨?_, ?_, ?_, ?_⟩ ?_)
                   · rw [up_n2 (by omega), up_s]; omega
                   · rw [up_s]; unfold whV; rw [if_neg (by omega)]; exact hz
                   · rw [fm_eq (I := I1) (fun _ => by rw [up_n1 (by omega), up_n1 (by omega)])]; exact hF1
                   · rw [up_n2 (by omega), up_n2 (by omega), hk1 50 5 (by omega)]; exact h6.2.1
                   · rw [up_n2 (by omega), up_n2 (by omega), hk1 50 21 (by omega)]; exact h6.2.2.1
                   · intro f hf
                     rw [up_n1 (by omega), up_n1 (by omega), hk1 60 f (by omega)]; exact h6.2.2.2 f hf
                   · intro a b q1 q2 q3 q4 q5
                     rw [up_n (by omega), up_n (by omega), hk1 a b q1]; exact h7 a b q1 q2 q3 q4 q5)
                | (rw [if_pos (by omega)] at hF1
                   have eSj := eS j
                   unfold stD at eSj
                   rw [if_pos (by omega)] at eSj
                   refine x_dr2 (ih (j + 1) _ _ (by omega) (by omega) (by omega) (fun i hi => ?_) ?_ ?_ ?_ ?_)
                   · rcases (by omega : i < j ∨ i = j) with e | rfl
                     · exact h3 i e
                     · rw [← hz]; omega
                   · rw [up_n2 (by omega), up_s]
                   · rw [up_s]
                   · rw [eSj]
                     refine ⟨?_, ?_, ?_, fun f hf => ?_⟩
                     · rw [fm_eq (I := I1) (fun _ => by rw [up_n1 (by omega), up_n1 (by omega)])]; exact hF1
                     · rw [up_n2 (by omega), up_n2 (by omega), hk1 50 5 (by omega)]; exact h6.2.1
                     · rw [up_n2 (by omega), up_n2 (by omega), hk1 50 21 (by omega)]; exact h6.2.2.1
                     · rw [up_n1 (by omega), up_n1 (by omega), hk1 60 f (by omega)]; exact h6.2.2.2 f hf
                   · intro a b q1 q2 q3 q4 q5
                     rw [up_n (by omega), up_n (by omega), hk1 a b q1]; exact h7 a b q1 q2 q3 q4 q5)
              · refine x_iload_n dX5_goDay_134 rfl ?_
                refine x_goto 140 dX5_goDay_135 (by decide) ?_
                refine x_putI dX5_goDay_140 pf_RX5_143 rfl rfl ?_
                refine x_inc1 dX5_goDay_143 ?_
                refine x_goto 47 dX5_goDay_146 (by decide) ?_
                first
                | (exfalso; omega)
                | (have eSj := eS j
                   unfold stD at eSj
                   rw [if_neg (by omega)] at eSj
                   refine ih (j + 1) _ _ (by omega) (by omega) (by omega) (fun i hi => ?_) ?_ ?_ ?_ ?_
                   · rcases (by omega : i < j ∨ i = j) with e | rfl
                     · exact h3 i e
                     · unfold reF; rw [if_neg (by omega), if_neg (by omega), if_neg (by omega)]
                   · rw [hw2 50 19 (by omega), up_n2 (by omega), hk1 50 19 (by omega) (by omega) (by omega) (by omega)]; exact h4
                   · rw [hw2 50 20 (by omega), up_n2 (by omega), hk1 50 20 (by omega) (by omega) (by omega) (by omega)]; exact h5
                   · rw [eSj]
                     refine ⟨(fm_eq (fun k => hw2 51 k (by omega))).trans hFU, ?_, ?_, fun f hf => ?_⟩
                     · rw [hw2 50 5 (by omega), up_n2 (by omega), hd1, h6.2.1]
                     · rw [hw2 50 21 (by omega), up_s, hk1 50 21 (by omega) (by omega) (by omega) (by omega), h6.2.2.1]
                     · rw [hw1 f hf, hFU, up_s, hk1 50 21 (by omega) (by omega) (by omega) (by omega), h6.2.2.1]
                       exact ntE_e (h60U f hf)
                   · intro a b q1 q2 q3 q4 q5
                     rw [hw2 a b q4]; exact hkU a b q1 q2 q3 q4 q5)
                | (rw [if_neg (by omega)] at hF1
                   refine x_dr2 (l47x j _ _ (by omega) (by omega) ?_ ⟨by omega, h3, Or.inr ⟨by omega, by rw [← hz]; omega⟩⟩ ?_ ⟨?_, ?_, ?_, ?_⟩ ?_)
                   · rw [up_n2 (by omega), up_s]; omega
                   · rw [up_s]; unfold whV; rw [if_neg (by omega)]; exact hz
                   · rw [fm_eq (I := I1) (fun _ => by rw [up_n1 (by omega), up_n1 (by omega)])]; exact hF1
                   · rw [up_n2 (by omega), up_n2 (by omega), hk1 50 5 (by omega)]; exact h6.2.1
                   · rw [up_n2 (by omega), up_n2 (by omega), hk1 50 21 (by omega)]; exact h6.2.2.1
                   · intro f hf
                     rw [up_n1 (by omega), up_n1 (by omega), hk1 60 f (by omega)]; exact h6.2.2.2 f hf
                   · intro a b q1 q2 q3 q4 q5
                     rw [up_n (by omega), up_n (by omega), hk1 a b q1]; exact h7 a b q1 q2 q3 q4 q5)
                | (rw [if_pos (by omega)] at hF1
                   have eSj := eS j
                   unfold stD at eSj
                   rw [if_pos (by omega)] at eSj
                   refine x_dr2 (ih (j + 1) _ _ (by omega) (by omega) (by omega) (fun i hi => ?_) ?_ ?_ ?_ ?_)
                   · rcases (by omega : i < j ∨ i = j) with e | rfl
                     · exact h3 i e
                     · rw [← hz]; omega
                   · rw [up_n2 (by omega), up_s]
                   · rw [up_s]
                   · rw [eSj]
                     refine ⟨?_, ?_, ?_, fun f hf => ?_⟩
                     · rw [fm_eq (I := I1) (fun _ => by rw [up_n1 (by omega), up_n1 (by omega)])]; exact hF1
                     · rw [up_n2 (by omega), up_n2 (by omega), hk1 50 5 (by omega)]; exact h6.2.1
                     · rw [up_n2 (by omega), up_n2 (by omega), hk1 50 21 (by omega)]; exact h6.2.2.1
                     · rw [up_n1 (by omega), up_n1 (by omega), hk1 60 f (by omega)]; exact h6.2.2.2 f hf
                   · intro a b q1 q2 q3 q4 q5
                     rw [up_n (by omega), up_n (by omega), hk1 a b q1]; exact h7 a b q1 q2 q3 q4 q5)
          · have hA3 : A j ≤ 3 := by omega
            refine x_aload_n dX5_goDay_71 rfl ?_
            refine x_aload_n dX5_goDay_72 rfl ?_
            refine x_getR (j := 55) dX5_goDay_73 gf_RX5_22 rfl rfl (hN _ _ (by decide)) ?_
            refine x_iload_n dX5_goDay_76 rfl ?_
            refine x_iald (j) dX5_goDay_77 rfl h2 (show _ < 60 by omega) ?_
            rw [hJ55, (hAj (by omega)).1, show mpV (A j) = A j by unfold mpV; rw [if_neg (by omega), if_neg (by omega), if_neg (by omega), if_neg (by omega)]]
            refine xp_VV1 dX5_goDay_78 ml_RX5_149 vw_X5_passHour vv_X5_passHour rfl (sp_passHour hN hBJ (by unfold inr; omega)) ⟨Nat.le_of_ble_eq_true rfl, Nat.le_of_ble_eq_true rfl, Nat.le_of_ble_eq_true rfl, Nat.le_of_ble_eq_true rfl, Nat.le_of_ble_eq_true rfl⟩ (fun I1 hq => ?_)
            obtain ⟨hF1, hd1, hk1⟩ := hq
            rw [hl0, h6.1] at hF1 hd1
            have hkU : kpD I (up I1 50 21 (I1 50 21 + 1)) := fun a b q1 q2 q3 q4 q5 => by
              rw [up_n (by omega), hk1 a b q1 q2 q3 (by omega)]; exact h7 a b q1 q2 q3 q4 q5
            have hFU : fm (up I1 50 21 (I1 50 21 + 1)) = keF (S j).1 (A j) (l0M I (A j)) n := (fm_eq (fun _ => up_n1 (by omega))).trans hF1
            have hBU : RM (up I1 50 21 (I1 50 21 + 1)) n := hkU.RM hB (by rw [hFU]; exact o1.ke.mono (by omega))
            have h60U : ∀ f, f < n → (up I1 50 21 (I1 50 21 + 1)) 60 f = (S j).2.2.2 f := fun f hf => by
              rw [up_n1 (by omega), hk1 60 f (by omega) (by omega) (by omega) (by omega)]; exact h6.2.2.2 f hf
            refine x_aload_n dX5_goDay_81 rfl ?_
            refine x_dupR dX5_goDay_82 ?_
            refine x_getI dX5_goDay_83 gf_RX5_137 rfl rfl ?_
            refine x_iconst dX5_goDay_86 ?_
            refine x_iadd dX5_goDay_87 ?_
            refine x_putI dX5_goDay_88 pf_RX5_137 rfl rfl ?_
            refine x_aload_n dX5_goDay_91 rfl ?_
            refine xp_VV0 dX5_goDay_92 ml_RX5_146 vw_X5_lookWhoHas vv_X5_lookWhoHas rfl (sp_lookWhoHas hN hBU (fun f hf => ⟨by rw [h60U f hf]; exact e2 f, by rw [h60U f hf]; have := o3 f; omega⟩)) ⟨Nat.le_of_ble_eq_true rfl, Nat.le_of_ble_eq_true rfl, Nat.le_of_ble_eq_true rfl, Nat.le_of_ble_eq_true rfl, Nat.le_of_ble_eq_true rfl⟩ (fun I2 hq => ?_)
            obtain ⟨hw1, hw2⟩ := hq
            refine x_goto 143 dX5_goDay_95 (by decide) ?_
            refine x_inc1 dX5_goDay_143 ?_
            refine x_goto 47 dX5_goDay_146 (by decide) ?_
            first
            | (exfalso; omega)
            | (have eSj := eS j
               unfold stD at eSj
               rw [if_neg (by omega)] at eSj
               refine ih (j + 1) _ _ (by omega) (by omega) (by omega) (fun i hi => ?_) ?_ ?_ ?_ ?_
               · rcases (by omega : i < j ∨ i = j) with e | rfl
                 · exact h3 i e
                 · unfold reF; rw [if_neg (by omega), if_neg (by omega), if_neg (by omega)]
               · rw [hw2 50 19 (by omega), up_n2 (by omega), hk1 50 19 (by omega) (by omega) (by omega) (by omega)]; exact h4
               · rw [hw2 50 20 (by omega), up_n2 (by omega), hk1 50 20 (by omega) (by omega) (by omega) (by omega)]; exact h5
               · rw [eSj]
                 refine ⟨(fm_eq (fun k => hw2 51 k (by omega))).trans hFU, ?_, ?_, fun f hf => ?_⟩
                 · rw [hw2 50 5 (by omega), up_n2 (by omega), hd1, h6.2.1]
                 · rw [hw2 50 21 (by omega), up_s, hk1 50 21 (by omega) (by omega) (by omega) (by omega), h6.2.2.1]
                 · rw [hw1 f hf, hFU, up_s, hk1 50 21 (by omega) (by omega) (by omega) (by omega), h6.2.2.1]
                   exact ntE_e (h60U f hf)
               · intro a b q1 q2 q3 q4 q5
                 rw [hw2 a b q4]; exact hkU a b q1 q2 q3 q4 q5)
            | (rw [if_neg (by omega)] at hF1
               refine x_dr2 (l47x j _ _ (by omega) (by omega) ?_ ⟨by omega, h3, Or.inr ⟨by omega, by rw [← hz]; omega⟩⟩ ?_ ⟨?_, ?_, ?_, ?_⟩ ?_)
               · rw [up_n2 (by omega), up_s]; omega
               · rw [up_s]; unfold whV; rw [if_neg (by omega)]; exact hz
               · rw [fm_eq (I := I1) (fun _ => by rw [up_n1 (by omega), up_n1 (by omega)])]; exact hF1
               · rw [up_n2 (by omega), up_n2 (by omega), hk1 50 5 (by omega)]; exact h6.2.1
               · rw [up_n2 (by omega), up_n2 (by omega), hk1 50 21 (by omega)]; exact h6.2.2.1
               · intro f hf
                 rw [up_n1 (by omega), up_n1 (by omega), hk1 60 f (by omega)]; exact h6.2.2.2 f hf
               · intro a b q1 q2 q3 q4 q5
                 rw [up_n (by omega), up_n (by omega), hk1 a b q1]; exact h7 a b q1 q2 q3 q4 q5)
            | (rw [if_pos (by omega)] at hF1
               have eSj := eS j
               unfold stD at eSj
               rw [if_pos (by omega)] at eSj
               refine x_dr2 (ih (j + 1) _ _ (by omega) (by omega) (by omega) (fun i hi => ?_) ?_ ?_ ?_ ?_)
               · rcases (by omega : i < j ∨ i = j) with e | rfl
                 · exact h3 i e
                 · rw [← hz]; omega
               · rw [up_n2 (by omega), up_s]
               · rw [up_s]
               · rw [eSj]
                 refine ⟨?_, ?_, ?_, fun f hf => ?_⟩
                 · rw [fm_eq (I := I1) (fun _ => by rw [up_n1 (by omega), up_n1 (by omega)])]; exact hF1
                 · rw [up_n2 (by omega), up_n2 (by omega), hk1 50 5 (by omega)]; exact h6.2.1
                 · rw [up_n2 (by omega), up_n2 (by omega), hk1 50 21 (by omega)]; exact h6.2.2.1
                 · rw [up_n1 (by omega), up_n1 (by omega), hk1 60 f (by omega)]; exact h6.2.2.2 f hf
               · intro a b q1 q2 q3 q4 q5
                 rw [up_n (by omega), up_n (by omega), hk1 a b q1]; exact h7 a b q1 q2 q3 q4 q5)
  have lp2 : ∀ (m : Nat) (g : Nat) (z : Int) (J : MM), g ≤ n → n < g + m → z = (g : Int) → (∀ i, i < g → J 60 i = -6) → (∀ a b, a ≠ 60 → J a b = up (up (up I 50 19 (-6)) 50 20 (-6)) 50 21 0 a b) → XX G RX5 cX5_goDay (RmW 4 91 0 0) Fx 19 [some (.ref 50), some (vi z), none] [] K N J 0 0 := by
    intro m
    induction m with
    | zero => intros; exfalso; omega
    | succ m ih =>
      intro g z J h0 h1 h2 h3 h4
      have hkJ : kpD I J := fun a b q1 q2 q3 q4 q5 => by
        rw [h4 a b q4, up_n (by omega), up_n (by omega), up_n (by omega)]
      have hFJ : fm J = fm I := fm_eq (fun k => by rw [h4 51 k (by omega), up_n1 (by omega), up_n1 (by omega), up_n1 (by omega)])
      have hBJ : RM J n := hkJ.RM hB (by rw [hFJ]; exact hB.2.2.2.1)
      refine x_iload_n dX5_goDay_19 rfl ?_
      refine x_aload_n dX5_goDay_20 rfl ?_
      refine x_getI dX5_goDay_21 gf_RX5_73 rfl rfl ?_
      rw [hBJ.1]
      refine x_icmp_ge 41 dX5_goDay_24 (by decide) (by unfold inr; omega) (by unfold inr; omega) (fun h_24 => ?_) (fun h_24 => ?_)
      · refine x_aload_n dX5_goDay_41 rfl ?_
        refine xp_VV0 dX5_goDay_42 ml_RX5_146 vw_X5_lookWhoHas vv_X5_lookWhoHas rfl (sp_lookWhoHas hN hBJ (fun f hf => by rw [h3 f (by omega)]; omega)) ⟨Nat.le_of_ble_eq_true rfl, Nat.le_of_ble_eq_true rfl, Nat.le_of_ble_eq_true rfl, Nat.le_of_ble_eq_true rfl, Nat.le_of_ble_eq_true rfl⟩ (fun I1 hq => ?_)
        obtain ⟨hw1, hw2⟩ := hq
        refine x_iconst dX5_goDay_45 ?_
        refine x_ist1 dX5_goDay_46 ?_
        refine lp (q + 1) 0 _ _ (by omega) (by omega) rfl (fun i hi => absurd hi (Nat.not_lt_zero i)) ?_ ?_ ?_ (fun a b q1 q2 q3 q4 q5 => by rw [hw2 a b q4]; exact hkJ a b q1 q2 q3 q4 q5)
        · rw [hw2 50 19 (by omega), h4 50 19 (by omega), up_n2 (by omega), up_n2 (by omega), up_s]
        · rw [hw2 50 20 (by omega), h4 50 20 (by omega), up_n2 (by omega), up_s]
        · rw [eS0]
          refine ⟨(fm_eq (fun k => hw2 51 k (by omega))).trans hFJ, ?_, ?_, fun f hf => ?_⟩
          · rw [hw2 50 5 (by omega), h4 50 5 (by omega), up_n2 (by omega), up_n2 (by omega), up_n2 (by omega)]
          · rw [hw2 50 21 (by omega), h4 50 21 (by omega), up_s]
          · rw [hw1 f hf, hFJ, h4 50 21 (by omega), up_s]
            exact ntE_e (en' := fun _ => -6) (h3 f (by omega))
      · refine x_aload_n dX5_goDay_27 rfl ?_
        refine x_getR (j := 60) dX5_goDay_28 gf_RX5_37 rfl rfl (hN _ _ (by decide)) ?_
        refine x_iload_n dX5_goDay_31 rfl ?_
        refine x_bipush dX5_goDay_32 (by decide) ?_
        refine x_iast (g) dX5_goDay_34 rfl h2 (show _ < 9 by omega) ?_
        refine x_inc1 dX5_goDay_35 ?_
        refine x_goto 19 dX5_goDay_38 (by decide) ?_
        refine ih (g + 1) _ _ (by omega) (by omega) (by omega) (fun i hi => ?_) (fun a b q1 => by rw [up_n1 q1]; exact h4 a b q1)
        rcases (by omega : i < g ∨ i = g) with e | rfl
        · rw [up_n2 (by omega)]; exact h3 i e
        · exact up_s
  refine x_aload_n dX5_goDay_0 rfl ?_
  refine x_bipush dX5_goDay_1 (by decide) ?_
  refine x_putI dX5_goDay_3 pf_RX5_140 rfl rfl ?_
  refine x_aload_n dX5_goDay_6 rfl ?_
  refine x_bipush dX5_goDay_7 (by decide) ?_
  refine x_putI dX5_goDay_9 pf_RX5_143 rfl rfl ?_
  refine x_aload_n dX5_goDay_12 rfl ?_
  refine x_iconst dX5_goDay_13 ?_
  refine x_putI dX5_goDay_14 pf_RX5_137 rfl rfl ?_
  refine x_iconst dX5_goDay_17 ?_
  refine x_ist1 dX5_goDay_18 ?_
  exact lp2 (n + 1) 0 _ _ (by omega) (by omega) rfl (fun i hi => absurd hi (Nat.not_lt_zero i)) (fun _ _ _ => rfl)
def dmR (I : MM) (n d : Nat) : Nat → DT := daS (fm I) (I 50 5) (l0M I) n (atV (I 54) d n) (fun i => (ftV (I 54) d n i).toNat)
def DM (I : MM) (n d k : Nat) (z0 : Int) (j : Nat) : Prop := PD (I 54) d n k z0 ∧ (z0 = -6 → LD (dmR I n d) (atV (I 54) d n) (fun i => (ftV (I 54) d n i).toNat) k j)
def rmV (z0 : Int) (k j : Nat) : Int := if z0 ≠ -6 then -5 else if j = k then -6 else -3
def MPs (I J : MM) (n d k : Nat) : Prop := J 50 13 = (k : Int) ∧ ∀ j, j < k → J 55 j = mpV (atV (I 54) d n j) ∧ J 56 j = mfV (atV (I 54) d n j) (ftV (I 54) d n j)
theorem sp_refusal (hN : NS N) (hB : RM I n) (hP : ∀ f, f < n → fm I f 6 ≤ 990000) {d : Nat} (hPM : PM I d) : SpI G mX5_refusal .int 5 113 0 0 [.ref 50] K N I (pI K N (fun z J => ∃ k z0 j, DM I n d k z0 j ∧ k ≤ 60 ∧ z = rmV z0 k j ∧ kpM I J ∧ (z0 = -6 → J 50 19 = bpV k j ∧ J 50 20 = whV (dmR I n d) (atV (I 54) d n) (fun i => (ftV (I 54) d n i).toNat) k j ∧ MPs I J n d k ∧ J 50 21 = (dmR I n d j).2.2.1 ∧ ∀ f, f < n → J 60 f = (dmR I n d j).2.2.2 f))) := by
  refine SpI.of (own := RX5) (cc := cX5_refusal) (L := [some (.ref 50)]) (by decide) rfl rfl (Nat.le_of_ble_eq_true rfl) rfl (fun Fx hnm hret => ?_)
  have hn9 := hB.2.2.1
  refine x_aload_n dX5_refusal_0 rfl ?_
  refine xp_VI0 dX5_refusal_1 ml_RX5_155 vw_X5_fault vv_X5_fault rfl (sp_mfault hN hB hPM) ⟨Nat.le_of_ble_eq_true rfl, Nat.le_of_ble_eq_true rfl, Nat.le_of_ble_eq_true rfl, Nat.le_of_ble_eq_true rfl, Nat.le_of_ble_eq_true rfl⟩ (fun z1 I1 hq => ?_)
  obtain ⟨k, hPD, hk60, h13, hpt, hkF⟩ := hq
  have hk1 := hkF.M
  have hzz : z1 = -6 ∨ 0 ≤ z1 := by rcases hPD.2 with e | e <;> omega
  have hz1b : z1 ≤ 100 := by
    rcases hPD.2 with e | e
    · omega
    · have := hPM.2.1; omega
  refine x_if_lt 10 dX5_refusal_4 (by decide) (by unfold inr; omega) (fun h_4 => ?_) (fun h_4 => ?_)
  · refine x_aload_n dX5_refusal_10 rfl ?_
    refine xf_VV0 dX5_refusal_11 ml_RX5_159 vw_X5_keepNow vv_X5_keepNow rfl (sp_keepNow hN) ⟨Nat.le_of_ble_eq_true rfl, Nat.le_of_ble_eq_true rfl, Nat.le_of_ble_eq_true rfl, Nat.le_of_ble_eq_true rfl, Nat.le_of_ble_eq_true rfl⟩ ?_
    have hz6 : z1 = -6 := by omega
    have hk2 : kpM I (kepJ I1) := fun a b q1 => by
      rw [show kepJ I1 a b = I1 a b from by unfold kepJ; rw [if_neg (by unfold pcm at q1; omega), if_neg (by unfold pcm at q1; omega)]]; exact hk1 a b q1
    have hB2 := hk2.RM hB
    have hF2 := hk2.fm
    have h5k : kepJ I1 50 5 = I 50 5 := hk2 50 5 (by unfold pcm; omega)
    have hR2 : daS (fm (kepJ I1)) (kepJ I1 50 5) (l0M (kepJ I1)) n (atV (I 54) d n) (fun i => (ftV (I 54) d n i).toNat) = dmR I n d := by
      rw [hF2, h5k, show l0M (kepJ I1) = l0M I from by funext kn; exact hk2.l0]; rfl
    have h132 : kepJ I1 50 13 = (k : Int) := by
      unfold kepJ; rw [if_neg (by omega), if_neg (by omega)]; exact h13
    have hAb : ∀ j, j < k → 0 ≤ atV (I 54) d n j ∧ atV (I 54) d n j ≤ 7 := fun j hj => by
      have h1 := acV_b (c := I 54) (d := d) (n := n) (p := poV (I 54) d n j)
      have h2 := (hPD.1 j hj).2
      unfold atV at h2 ⊢
      omega
    have hpt2 : ∀ j, j < k → kepJ I1 55 j = mpV (atV (I 54) d n j) ∧ kepJ I1 56 j = mfV (atV (I 54) d n j) ((ftV (I 54) d n j).toNat : Int) := fun j hj => by
      have h0 := frV_b (c := I 54) (p := poV (I 54) d n j) hB.2.1
      rw [show ((ftV (I 54) d n j).toNat : Int) = ftV (I 54) d n j from Int.toNat_of_nonneg h0.1]
      unfold kepJ
      rw [if_neg (by omega), if_neg (by omega), if_neg (by omega), if_neg (by omega)]
      exact hpt j hj
    refine x_aload_n dX5_refusal_14 rfl ?_
    refine xp_VV0 dX5_refusal_15 ml_RX5_162 vw_X5_goDay vv_X5_goDay rfl (sp_goDay hN hB2 (fun f hf => by rw [hF2]; exact hP f hf) hk60 h132 hpt2 hAb (B := fun i => (ftV (I 54) d n i).toNat) (fun j => by have := frV_b (c := I 54) (p := poV (I 54) d n j) hB.2.1; show (frV (I 54) n (poV (I 54) d n j)).toNat < n; omega) rfl) ⟨Nat.le_of_ble_eq_true rfl, Nat.le_of_ble_eq_true rfl, Nat.le_of_ble_eq_true rfl, Nat.le_of_ble_eq_true rfl, Nat.le_of_ble_eq_true rfl⟩ (fun I2 hq => ?_)
    obtain ⟨j, hL, hb1, hb2, hD, hkD⟩ := hq
    rw [hR2] at hL hb2 hD
    refine x_aload_n dX5_refusal_18 rfl ?_
    refine xf_VV0 dX5_refusal_19 ml_RX5_165 vw_X5_putBack vv_X5_putBack rfl (sp_putBack hN) ⟨Nat.le_of_ble_eq_true rfl, Nat.le_of_ble_eq_true rfl, Nat.le_of_ble_eq_true rfl, Nat.le_of_ble_eq_true rfl, Nat.le_of_ble_eq_true rfl⟩ ?_
    refine x_aload_n dX5_refusal_22 rfl ?_
    refine x_getI dX5_refusal_23 gf_RX5_140 rfl rfl ?_
    rw [show bakJ I2 50 19 = I2 50 19 from (if_neg (by omega)).trans (if_neg (by omega)), hb1]
    refine x_if_lt 34 dX5_refusal_26 (by decide) (by unfold bpV; unfold inr; have := hL.1; split <;> omega) (fun h_26 => ?_) (fun h_26 => ?_)
    · refine x_bipush dX5_refusal_34 (by decide) ?_
      refine hret _ _ _ _ _ _ dX5_refusal_36 rfl ?_
      have h9 : ∀ b, b < 63 → I2 59 b = I 51 b := fun b hb => by
        rw [hkD 59 b (by omega) (by omega) (by omega) (by omega) (by omega)]
        unfold kepJ; rw [if_neg (by omega), if_pos ⟨rfl, hb⟩]; exact hk1 51 b (by unfold pcm; omega)
      have h18 : I2 50 18 = I 50 5 := by
        rw [hkD 50 18 (by omega) (by omega) (by omega) (by omega) (by omega)]
        unfold kepJ; rw [if_pos ⟨rfl, rfl⟩]; exact hk1 50 5 (by unfold pcm; omega)
      have hkB : kpM I (bakJ I2) := fun a b q1 => by
        unfold bakJ
        by_cases y : a = 50 ∧ b = 5
        · rw [if_pos y, y.1, y.2]; exact h18
        · rw [if_neg y]
          by_cases y2 : a = 51 ∧ b < 63
          · rw [if_pos y2, h9 b y2.2, y2.1]
          · rw [if_neg y2, hkD a b y2 (by unfold pcm at q1; omega) (by unfold pcm at q1; omega) (by unfold pcm at q1; omega) (by unfold pcm at q1; omega)]; exact hk2 a b q1
      have hbo : ∀ a b, ¬ (a = 50 ∧ b = 5) → a ≠ 51 → bakJ I2 a b = I2 a b := fun a b q1 q2 => (if_neg q1).trans (if_neg (fun y => q2 y.1))
      refine ⟨rfl, rfl, k, z1, j, ⟨hPD, fun _ => hL⟩, hk60, ?_, hkB, fun _ => ⟨(hbo 50 19 (by omega) (by omega)).trans hb1, (hbo 50 20 (by omega) (by omega)).trans hb2, ⟨?_, fun i hi => ⟨?_, ?_⟩⟩, (hbo 50 21 (by omega) (by omega)).trans hD.2.2.1, fun f hf => (hbo 60 f (by omega) (by omega)).trans (hD.2.2.2 f hf)⟩⟩
      · unfold bpV at h_26
        unfold rmV
        rw [if_neg (by omega)]
        by_cases y : j = k
        · rw [if_pos y] at h_26
          first
          | (exfalso; omega)
          | (rw [if_pos y]; done)
        · rw [if_neg y] at h_26
          first
          | (exfalso; omega)
          | (rw [if_neg y]; done)
      · rw [hbo 50 13 (by omega) (by omega), hkD 50 13 (by omega) (by omega) (by omega) (by omega) (by omega)]; exact h132
      · rw [hbo 55 i (by omega) (by omega), hkD 55 i (by omega) (by omega) (by omega) (by omega) (by omega)]
        unfold kepJ; rw [if_neg (by omega), if_neg (by omega)]; exact (hpt i hi).1
      · rw [hbo 56 i (by omega) (by omega), hkD 56 i (by omega) (by omega) (by omega) (by omega) (by omega)]
        unfold kepJ; rw [if_neg (by omega), if_neg (by omega)]; exact (hpt i hi).2
    · refine x_bipush dX5_refusal_29 (by decide) ?_
      refine x_goto 36 dX5_refusal_31 (by decide) ?_
      refine hret _ _ _ _ _ _ dX5_refusal_36 rfl ?_
      have h9 : ∀ b, b < 63 → I2 59 b = I 51 b := fun b hb => by
        rw [hkD 59 b (by omega) (by omega) (by omega) (by omega) (by omega)]
        unfold kepJ; rw [if_neg (by omega), if_pos ⟨rfl, hb⟩]; exact hk1 51 b (by unfold pcm; omega)
      have h18 : I2 50 18 = I 50 5 := by
        rw [hkD 50 18 (by omega) (by omega) (by omega) (by omega) (by omega)]
        unfold kepJ; rw [if_pos ⟨rfl, rfl⟩]; exact hk1 50 5 (by unfold pcm; omega)
      have hkB : kpM I (bakJ I2) := fun a b q1 => by
        unfold bakJ
        by_cases y : a = 50 ∧ b = 5
        · rw [if_pos y, y.1, y.2]; exact h18
        · rw [if_neg y]
          by_cases y2 : a = 51 ∧ b < 63
          · rw [if_pos y2, h9 b y2.2, y2.1]
          · rw [if_neg y2, hkD a b y2 (by unfold pcm at q1; omega) (by unfold pcm at q1; omega) (by unfold pcm at q1; omega) (by unfold pcm at q1; omega)]; exact hk2 a b q1
      have hbo : ∀ a b, ¬ (a = 50 ∧ b = 5) → a ≠ 51 → bakJ I2 a b = I2 a b := fun a b q1 q2 => (if_neg q1).trans (if_neg (fun y => q2 y.1))
      refine ⟨rfl, rfl, k, z1, j, ⟨hPD, fun _ => hL⟩, hk60, ?_, hkB, fun _ => ⟨(hbo 50 19 (by omega) (by omega)).trans hb1, (hbo 50 20 (by omega) (by omega)).trans hb2, ⟨?_, fun i hi => ⟨?_, ?_⟩⟩, (hbo 50 21 (by omega) (by omega)).trans hD.2.2.1, fun f hf => (hbo 60 f (by omega) (by omega)).trans (hD.2.2.2 f hf)⟩⟩
      · unfold bpV at h_26
        unfold rmV
        rw [if_neg (by omega)]
        by_cases y : j = k
        · rw [if_pos y] at h_26
          first
          | (exfalso; omega)
          | (rw [if_pos y]; done)
        · rw [if_neg y] at h_26
          first
          | (exfalso; omega)
          | (rw [if_neg y]; done)
      · rw [hbo 50 13 (by omega) (by omega), hkD 50 13 (by omega) (by omega) (by omega) (by omega) (by omega)]; exact h132
      · rw [hbo 55 i (by omega) (by omega), hkD 55 i (by omega) (by omega) (by omega) (by omega) (by omega)]
        unfold kepJ; rw [if_neg (by omega), if_neg (by omega)]; exact (hpt i hi).1
      · rw [hbo 56 i (by omega) (by omega), hkD 56 i (by omega) (by omega) (by omega) (by omega) (by omega)]
        unfold kepJ; rw [if_neg (by omega), if_neg (by omega)]; exact (hpt i hi).2
  · refine x_bipush dX5_refusal_7 (by decide) ?_
    refine hret _ _ _ _ _ _ dX5_refusal_9 rfl ?_
    refine ⟨rfl, rfl, k, z1, 0, ⟨hPD, fun e => by exfalso; omega⟩, hk60, ?_, hk1, fun e => by exfalso; omega⟩
    unfold rmV; rw [if_pos (by omega)]
end FR

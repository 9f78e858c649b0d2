/-! ===== the law: its loop, its beginning ===== -/
theorem rel_0 {I I1 I2 : MM} {K1 K2 : List Nat} {N1 N2 : NN} (h1 : sfQ I K1 N1 I1) (h2 : rfQ (K1 ++ [50]) (nwN N1 50) (nwI I1 50) K2 N2 I2) : Rel K2 N2 I2 9 0 0 999 := by
  obtain ⟨a1, a2, a3, a4, a5, a6, a7, a8, a9⟩ := h1
  obtain ⟨b1, b2, b3, b4, b5, b6, b7, b8, b9⟩ := h2
  have hc : ∀ a k, a < 50 → I2 a k = I1 a k := fun a k q => by
    rw [b4 a k (Or.inl q)]; unfold nwI; rw [if_neg (by omega)]
  have hm : fm I2 = fun f k => if f < 9 ∧ k < 7 then fst7 k else 0 := by
    funext f k
    unfold fm
    by_cases q : f < 9 ∧ k < 7
    · rw [if_pos q, if_pos q, b6 _ (by omega), show (9 * k + f) / 9 = k by omega]
    · rw [if_neg q, if_neg q]
  have hf : fa I2 1 = fun f k => if f < 9 ∧ k < 7 then fst7 k else 0 := by
    funext f k
    unfold fa
    by_cases q : f < 9 ∧ k < 7
    · rw [if_pos q, if_pos q, hc _ _ (by decide), a5 _ (by omega), show (7 * f + k) % 7 = k by omega]
    · rw [if_neg q, if_neg q]
  have n11 : ∀ k, k < 2 → N2 11 k = true := fun k hk => by
    rw [b3]; unfold nwN; rw [if_neg (by decide)]
    rcases (by omega : k = 0 ∨ k = 1) with rfl | rfl
    · exact a3.1
    · exact a3.2
  have hKN : KN K2 N2 := fun j hj _ i q1 q2 z => by
    rcases (b1 i).mp z with z | z
    · rcases List.mem_append.mp z with z | z
      · have := (a1 i).mp z; omega
      · have := List.mem_singleton.mp z; omega
    · omega
  refine Rel.lives ⟨b2, hKN⟩ (by decide) b5.1 ((hc 1 0 (by decide)).trans a4.1) (fst_b (by decide) (by decide) hm) (by decide) (by rw [b5.2.1, b5.2.2.1, b5.2.2.2.1]; decide) ⟨by rw [hf, hm], ?_, ?_, fun k hk => ⟨?_, ?_⟩, ⟨?_, ?_, ?_⟩, ?_⟩ ⟨?_, by decide, fun j hj => absurd hj (Nat.not_lt_zero j)⟩ ⟨⟨?_, by decide, fun j hj => absurd hj (Nat.not_lt_zero j)⟩, b5.2.2.2.2.2.2⟩ (fun j hj => Or.inl ⟨n11 j hj, b8 j⟩)
  · rw [hc 1 1 (by decide), a4.2.1, b5.2.2.2.2.1]
  · funext k
    rw [hc 19 k (by decide), a9, b7]
  · rw [hc 4 k (by decide), (a8 k).1, (b9 k).1]
  · rw [hc 5 k (by decide), (a8 k).2, (b9 k).2]
  · rw [hc 3 0 (by decide), a6.1, b5.2.1]
  · rw [hc 3 1 (by decide), a6.2.1, b5.2.2.1]
  · rw [hc 3 2 (by decide), a6.2.2, b5.2.2.2.1]
  · rw [hc 1 2 (by decide), a4.2.2, b5.2.2.2.2.2.1]
  · rw [hc 1 2 (by decide)]; exact a4.2.2
  · rw [hc 18 1 (by decide)]; exact a7

section FR
variable {G : GT}
theorem lw_loop {Fx : FxT} {Ln : Nat} {xs : Nat → Int32} (hX : SX G Fx Ln xs) (hLn : Ln ≤ 3072) (hfin : ∀ L K N I, XX G RL cL_law room_1 Fx 1030 L [vi 1] K N I 600000 7302250) : ∀ (m t : Nat) (K : List Nat) (N : NN) (I : MM) (n d s : Nat) (zi : Int), t ≤ 512 → 512 < t + m → zi = ((6 * t : Nat) : Int) → Rel K N I n d s (999 + 540 * (t : Int)) → XX G RL cL_law room_1 Fx 18 [some (.ref 80), some (.ref 0), some (.ref 50), some (vi zi)] [] K N I (60 + 5 * t) (2300 + 89 * t) := by
  intro m
  induction m with
  | zero => intros; exfalso; omega
  | succ m ih =>
    intro t K N I n d s zi h0 h1 h2 hR
    obtain ⟨i, hi⟩ : ∃ i, i = 6 * t := ⟨_, rfl⟩
    rw [← hi] at h2
    have l1023 : i + 6 ≤ Ln → ∀ K1 N1 I1 n1 d1 s1, Rel K1 N1 I1 n1 d1 s1 (999 + 540 * (t : Int) + 540) → XX G RL cL_law room_1 Fx 1023 [some (.ref 80), some (.ref 0), some (.ref 50), some (vi zi)] [] K1 N1 I1 (60 + 5 * t + 5) (2300 + 89 * t + 89) := by
      intro hlt K1 N1 I1 n1 d1 s1 h
      refine x_inc3 dL_law_1023 ?_
      refine x_goto 18 dL_law_1026 (by decide) ?_
      rw [show 60 + 5 * t + 5 = 60 + 5 * (t + 1) by omega, show 2300 + 89 * t + 89 = 2300 + 89 * (t + 1) by omega]
      exact ih (t + 1) K1 N1 I1 n1 d1 s1 _ (by omega) (by omega) (by omega) (h.mono (by omega))
    refine x_iload_n dL_law_18 rfl ?_
    refine x_aload_n dL_law_19 rfl ?_
    refine x_sclen dL_law_20 hX ?_
    refine x_bipush dL_law_21 (by decide) ?_
    refine x_isub dL_law_23 ?_
    refine x_icmp_gt 1029 dL_law_24 (by decide) (by unfold inr; omega) (by unfold inr; omega) (fun h_24 => ?_) (fun h_24 => ?_)
    · refine x_iconst dL_law_1029 ?_
      exact x_widen (k := 600000) (n := 7302250) (by omega) (by omega) (hfin _ _ _ _)
    · refine x_aload_n dL_law_27 rfl ?_
      refine x_iload_n dL_law_28 rfl ?_
      refine x_scld (i) dL_law_29 hX (by omega) (by omega) ?_
      refine x_bipush dL_law_30 (by decide) ?_
      refine x_iand _ dL_law_32 (Int32.ofInt_toInt _).symm ?_
      obtain ⟨w, hw⟩ : ∃ w, w = (Int32.ofInt (xs i).toInt &&& Int32.ofInt 31).toInt := ⟨_, rfl⟩
      have hwb : 0 ≤ w ∧ w ≤ 31 := by rw [hw]; exact and31 _
      rw [← hw]
      rcases (show (w < 0 ∨ 31 < w) ∨ w = 0 ∨ w = 1 ∨ w = 2 ∨ w = 3 ∨ w = 4 ∨ w = 5 ∨ w = 6 ∨ w = 7 ∨ w = 8 ∨ w = 9 ∨ w = 10 ∨ w = 11 ∨ w = 12 ∨ w = 13 ∨ w = 14 ∨ w = 15 ∨ w = 16 ∨ w = 17 ∨ w = 18 ∨ w = 19 ∨ w = 20 ∨ w = 21 ∨ w = 22 ∨ w = 23 ∨ w = 24 ∨ w = 25 ∨ w = 26 ∨ w = 27 ∨ w = 28 ∨ w = 29 ∨ w = 30 ∨ w = 31 by omega) with h_33 | h_33 | h_33 | h_33 | h_33 | h_33 | h_33 | h_33 | h_33 | h_33 | h_33 | h_33 | h_33 | h_33 | h_33 | h_33 | h_33 | h_33 | h_33 | h_33 | h_33 | h_33 | h_33 | h_33 | h_33 | h_33 | h_33 | h_33 | h_33 | h_33 | h_33 | h_33 | h_33
      · refine x_tabOut 1023 dL_law_33 (by unfold inr; omega) h_33 (by decide) ?_
        exfalso; omega
      · refine x_tabIn 176 dL_law_33 (by unfold inr; omega) (by omega) (by rw [h_33]; rfl) (by decide) ?_
        exact lw_c0 hX (i := i) (by omega) h2 (by omega) hR (by omega) (by omega) (l1023 (by omega))
      · refine x_tabIn 199 dL_law_33 (by unfold inr; omega) (by omega) (by rw [h_33]; rfl) (by decide) ?_
        exact lw_c1 hX (i := i) (by omega) h2 (by omega) hR (by omega) (by omega) (l1023 (by omega))
      · refine x_tabIn 242 dL_law_33 (by unfold inr; omega) (by omega) (by rw [h_33]; rfl) (by decide) ?_
        exact lw_c2 hX (i := i) (by omega) h2 (by omega) hR (by omega) (by omega) (l1023 (by omega))
      · refine x_tabIn 275 dL_law_33 (by unfold inr; omega) (by omega) (by rw [h_33]; rfl) (by decide) ?_
        exact lw_c3 hX (i := i) (by omega) h2 (by omega) hR (by omega) (by omega) (l1023 (by omega))
      · refine x_tabIn 298 dL_law_33 (by unfold inr; omega) (by omega) (by rw [h_33]; rfl) (by decide) ?_
        exact lw_c4 hX (i := i) (by omega) h2 (by omega) hR (by omega) (by omega) (l1023 (by omega))
      · refine x_tabIn 311 dL_law_33 (by unfold inr; omega) (by omega) (by rw [h_33]; rfl) (by decide) ?_
        exact lw_c5 hX (i := i) (by omega) h2 (by omega) hR (by omega) (by omega) (l1023 (by omega))
      · refine x_tabIn 324 dL_law_33 (by unfold inr; omega) (by omega) (by rw [h_33]; rfl) (by decide) ?_
        exact lw_c6 hX (i := i) (by omega) h2 (by omega) hR (by omega) (by omega) (l1023 (by omega))
      · refine x_tabIn 347 dL_law_33 (by unfold inr; omega) (by omega) (by rw [h_33]; rfl) (by decide) ?_
        exact lw_c7 hX (i := i) (by omega) h2 (by omega) hR (by omega) (by omega) (l1023 (by omega))
      · refine x_tabIn 380 dL_law_33 (by unfold inr; omega) (by omega) (by rw [h_33]; rfl) (by decide) ?_
        exact lw_c8 hX (i := i) (by omega) h2 (by omega) hR (by omega) (by omega) (l1023 (by omega))
      · refine x_tabIn 393 dL_law_33 (by unfold inr; omega) (by omega) (by rw [h_33]; rfl) (by decide) ?_
        exact lw_c9 hX (i := i) (by omega) h2 (by omega) hR (by omega) (by omega) (l1023 (by omega))
      · refine x_tabIn 406 dL_law_33 (by unfold inr; omega) (by omega) (by rw [h_33]; rfl) (by decide) ?_
        exact lw_c10 hX (i := i) (by omega) h2 (by omega) hR (by omega) (by omega) (l1023 (by omega))
      · refine x_tabIn 429 dL_law_33 (by unfold inr; omega) (by omega) (by rw [h_33]; rfl) (by decide) ?_
        exact lw_c11 hX (i := i) (by omega) h2 (by omega) hR (by omega) (by omega) (l1023 (by omega))
      · refine x_tabIn 462 dL_law_33 (by unfold inr; omega) (by omega) (by rw [h_33]; rfl) (by decide) ?_
        exact lw_c12 hX (i := i) (by omega) h2 (by omega) hR (by omega) (by omega) (l1023 (by omega))
      · refine x_tabIn 495 dL_law_33 (by unfold inr; omega) (by omega) (by rw [h_33]; rfl) (by decide) ?_
        exact lw_c13 hX (i := i) (by omega) h2 (by omega) hR (by omega) (by omega) (l1023 (by omega))
      · refine x_tabIn 518 dL_law_33 (by unfold inr; omega) (by omega) (by rw [h_33]; rfl) (by decide) ?_
        exact lw_c14 hX (i := i) (by omega) h2 (by omega) hR (by omega) (by omega) (l1023 (by omega))
      · refine x_tabIn 531 dL_law_33 (by unfold inr; omega) (by omega) (by rw [h_33]; rfl) (by decide) ?_
        exact lw_c15 hX (i := i) (by omega) h2 (by omega) hR (by omega) (by omega) (l1023 (by omega))
      · refine x_tabIn 554 dL_law_33 (by unfold inr; omega) (by omega) (by rw [h_33]; rfl) (by decide) ?_
        exact lw_c16 hX (i := i) (by omega) h2 (by omega) hR (by omega) (by omega) (l1023 (by omega))
      · refine x_tabIn 587 dL_law_33 (by unfold inr; omega) (by omega) (by rw [h_33]; rfl) (by decide) ?_
        exact lw_c17 hX (i := i) (by omega) h2 (by omega) hR (by omega) (by omega) (l1023 (by omega))
      · refine x_tabIn 620 dL_law_33 (by unfold inr; omega) (by omega) (by rw [h_33]; rfl) (by decide) ?_
        exact lw_c18 hX (i := i) (by omega) h2 (by omega) hR (by omega) (by omega) (l1023 (by omega))
      · refine x_tabIn 663 dL_law_33 (by unfold inr; omega) (by omega) (by rw [h_33]; rfl) (by decide) ?_
        exact lw_c19 hX (i := i) (by omega) h2 (by omega) hR (by omega) (by omega) (l1023 (by omega))
      · refine x_tabIn 676 dL_law_33 (by unfold inr; omega) (by omega) (by rw [h_33]; rfl) (by decide) ?_
        exact lw_c20 hX (i := i) (by omega) h2 (by omega) hR (by omega) (by omega) (l1023 (by omega))
      · refine x_tabIn 699 dL_law_33 (by unfold inr; omega) (by omega) (by rw [h_33]; rfl) (by decide) ?_
        exact lw_c21 hX (i := i) (by omega) h2 (by omega) hR (by omega) (by omega) (l1023 (by omega))
      · refine x_tabIn 732 dL_law_33 (by unfold inr; omega) (by omega) (by rw [h_33]; rfl) (by decide) ?_
        exact lw_c22 hX (i := i) (by omega) h2 (by omega) hR (by omega) (by omega) (l1023 (by omega))
      · refine x_tabIn 745 dL_law_33 (by unfold inr; omega) (by omega) (by rw [h_33]; rfl) (by decide) ?_
        exact lw_c23 hX (i := i) (by omega) h2 (by omega) hR (by omega) (by omega) (l1023 (by omega))
      · refine x_tabIn 768 dL_law_33 (by unfold inr; omega) (by omega) (by rw [h_33]; rfl) (by decide) ?_
        exact lw_c24 hX (i := i) (by omega) h2 (by omega) hR (by omega) (by omega) (l1023 (by omega))
      · refine x_tabIn 791 dL_law_33 (by unfold inr; omega) (by omega) (by rw [h_33]; rfl) (by decide) ?_
        exact lw_c25 hX (i := i) (by omega) h2 (by omega) hR (by omega) (by omega) (l1023 (by omega))
      · refine x_tabIn 814 dL_law_33 (by unfold inr; omega) (by omega) (by rw [h_33]; rfl) (by decide) ?_
        exact lw_c26 hX (i := i) (by omega) h2 (by omega) hR (by omega) (by omega) (l1023 (by omega))
      · refine x_tabIn 847 dL_law_33 (by unfold inr; omega) (by omega) (by rw [h_33]; rfl) (by decide) ?_
        exact lw_c27 hX (i := i) (by omega) h2 (by omega) hR (by omega) (by omega) (l1023 (by omega))
      · refine x_tabIn 911 dL_law_33 (by unfold inr; omega) (by omega) (by rw [h_33]; rfl) (by decide) ?_
        exact lw_c28 hX (i := i) (by omega) h2 (by omega) hR (by omega) (by omega) (l1023 (by omega))
      · refine x_tabIn 954 dL_law_33 (by unfold inr; omega) (by omega) (by rw [h_33]; rfl) (by decide) ?_
        exact lw_c29 hX (i := i) (by omega) h2 (by omega) hR (by omega) (by omega) (l1023 (by omega))
      · refine x_tabIn 977 dL_law_33 (by unfold inr; omega) (by omega) (by rw [h_33]; rfl) (by decide) ?_
        exact lw_c30 hX (i := i) (by omega) h2 (by omega) hR (by omega) (by omega) (l1023 (by omega))
      · refine x_tabIn 1000 dL_law_33 (by unfold inr; omega) (by omega) (by rw [h_33]; rfl) (by decide) ?_
        exact lw_c31 hX (i := i) (by omega) h2 (by omega) hR (by omega) (by omega) (l1023 (by omega))
theorem lw_begin {Fx : FxT} {Ln : Nat} {xs : Nat → Int32} (hX : SX G Fx Ln xs) (hLn : Ln ≤ 3072) (hfin : ∀ L K N I, XX G RL cL_law room_1 Fx 1030 L [vi 1] K N I 600000 7302250) : XX G RL cL_law room_1 Fx 0 [some (.ref 80), none, none, none] [] [] (fun _ _ => false) (fun _ _ => 0) 0 0 := by
  refine x_new (i := 0) dL_law_0 ci_4 cl_RL_7 ib_RX4 ini_SpringFarms rfl (by decide) (by decide) (by decide) ⟨Nat.le_of_ble_eq_true rfl, Nat.le_of_ble_eq_true rfl⟩ ?_
  refine x_dupR dL_law_3 ?_
  refine x_cIV0 dL_law_4 ml_RL_9 vw_X4_init in_X4_init rfl (sp_sfInit (N := nwN (fun _ _ => false) 0) (fun j => by simp [nwN]) (fun i j h => by simp [nwN, h])) ⟨Nat.le_of_ble_eq_true rfl, Nat.le_of_ble_eq_true rfl, Nat.le_of_ble_eq_true rfl, Nat.le_of_ble_eq_true rfl, Nat.le_of_ble_eq_true rfl⟩ (fun K1 N1 I1 hq hK1 => ?_)
  refine x_ast1 dL_law_7 ?_
  refine x_new (i := 50) dL_law_8 ci_5 cl_RL_10 ib_RX5 ini_SpringFarmsModel rfl (fun z => by have := (hq.1 50).mp z; omega) (by decide) (by decide) ⟨Nat.le_of_ble_eq_true rfl, Nat.le_of_ble_eq_true rfl⟩ ?_
  refine x_dupR dL_law_11 ?_
  refine x_cIV0 dL_law_12 ml_RL_12 vw_X5_init in_X5_init rfl (sp_rfInit (N := nwN N1 50) (I := nwI I1 50) (K := K1 ++ [50]) (fun j => by simp [nwN]) (fun i j h1 h2 => by unfold nwN; rw [if_neg h1]; exact hq.2.1 i j h2) (fun i h1 h2 z => by
      rcases List.mem_append.mp z with z | z
      · have := (hq.1 i).mp z; omega
      · have := List.mem_singleton.mp z; omega) (fun k => by simp [nwI])) ⟨Nat.le_of_ble_eq_true rfl, Nat.le_of_ble_eq_true rfl, Nat.le_of_ble_eq_true rfl, Nat.le_of_ble_eq_true rfl, Nat.le_of_ble_eq_true rfl⟩ (fun K2 N2 I2 hq2 hK2 => ?_)
  have hRel := rel_0 hq hq2
  refine x_ast2 dL_law_15 ?_
  refine x_iconst dL_law_16 ?_
  refine x_ist3 dL_law_17 ?_
  refine x_widen (k := 60 + 5 * 0) (n := 2300 + 89 * 0) (by decide) (by decide) ?_
  exact lw_loop hX hLn hfin 513 0 _ _ _ _ _ _ _ (by decide) (by decide) rfl hRel
end FR

/-! ===== the law: days, and calls that change it ===== -/
theorem cm_fm {I J : MM} (hm : ∀ a k, 36 ≤ a → J a k = I a k) : fm J = fm I := fm_eq (fun k => hm 51 k (by omega))
theorem cm_l0 {I J : MM} (hm : ∀ a k, 36 ≤ a → J a k = I a k) : l0M J = l0M I := by funext kn; exact l0M_eq (hm 50 2 (by omega)) (hm 50 3 (by omega)) (hm 50 4 (by omega))
theorem cm_RM {I J : MM} {n : Nat} (h : RM I n) (hm : ∀ a k, 36 ≤ a → J a k = I a k) : RM J n := h.of (hm 50 0 (by omega)) (cm_fm hm) (hm 50 2 (by omega)) (hm 50 3 (by omega)) (hm 50 4 (by omega))
theorem cm_dm {I J : MM} (hm : ∀ a k, 36 ≤ a → J a k = I a k) {n d : Nat} : dmR J n d = dmR I n d := by
  have e : J 54 = I 54 := by funext k; exact hm 54 k (by omega)
  unfold dmR; rw [cm_fm hm, cm_l0 hm, hm 50 5 (by omega), e]
theorem cm_DM {I J : MM} (hm : ∀ a k, 36 ≤ a → J a k = I a k) {n d k : Nat} {z0 : Int} {j : Nat} (hd : DM J n d k z0 j) : DM I n d k z0 j := by
  have e := cm_dm hm (n := n) (d := d)
  have e2 : J 54 = I 54 := by funext k; exact hm 54 k (by omega)
  refine ⟨by rw [← e2]; exact hd.1, fun z => ?_⟩
  rw [← e, ← e2]; exact hd.2 z
theorem PD_60 {c : Nat → Int} {d n k : Nat} {z : Int} (h : PD c d n k z) (hd : d ≤ 60) : k ≤ 60 := by
  rcases Nat.eq_zero_or_pos k with e | e
  · omega
  · have h1 := (h.1 (k - 1) (by omega)).1
    have h2 := poV_ge (c := c) (d := d) (n := n) (k - 1)
    omega
theorem dm_ok {K : List Nat} {N : NN} {I : MM} {n d s k j : Nat} {P z0 : Int} (h : Rel K N I n d s P) (hD : DM I n d k z0 j) (h6 : z0 = -6) : okD (dmR I n d j).1 n (P + 540) := by
  have hL := hD.2 h6
  have hk := PD_60 hD.1 h.PM.2.1
  have hb := (daS_b (d0 := I 50 5) (l0 := l0M I) (A := atV (I 54) d n) (B := fun i => (ftV (I 54) d n i).toNat) h.okP (fun i => by have := frV_b (c := I 54) (p := poV (I 54) d n i) h.2.1.2.1; show (frV (I 54) n (poV (I 54) d n i)).toNat < n; omega) j hL.2.1).1
  have hj := hL.1
  exact hb.mono (by omega)
section FR
variable {G : GT} {K : List Nat} {N : NN} {I : MM} {n d s : Nat}
theorem lw_c5 {Fx : FxT} {Ln : Nat} {xs : Nat → Int32} (hX : SX G Fx Ln xs) {i : Nat} (hi : i + 6 ≤ Ln) {zi : Int} (hzi : zi = (i : Int)) {P : Int} (hP : 999 ≤ P ∧ P ≤ 980000) (hR : Rel K N I n d s P) {cs ss : Nat} (hcs : cs + 5 ≤ 600000) (hss : ss + 89 ≤ 7302250) (kk : ∀ K1 N1 I1 n1 d1 s1, Rel K1 N1 I1 n1 d1 s1 (P + 540) → XX G RL cL_law room_1 Fx 1023 [some (.ref 80), some (.ref 0), some (.ref 50), some (vi zi)] [] K1 N1 I1 (cs + 5) (ss + 89)) : XX G RL cL_law room_1 Fx 311 [some (.ref 80), some (.ref 0), some (.ref 50), some (vi zi)] [] K N I cs ss := by
  have hN := hR.1.1
  have hB := hR.2.1
  have hM := hR.2.2.1
  have hc := hR.2.2.2.1
  have hG := hR.2.2.2.2.1
  have hPB := hR.2.2.2.2.2.1.1
  have hn9 := hB.2.2.1
  refine x_aload_n dL_law_311 rfl ?_
  refine xp_VI0 dL_law_312 ml_RL_37 vw_X4_fault vv_X4_fault rfl (sp_fault hN hB hPB) ⟨Nat.le_of_ble_eq_true rfl, Nat.le_of_ble_eq_true rfl, (show cs + 0 ≤ 600000 by omega), (show ss + 0 ≤ 7302250 by omega), Nat.le_of_ble_eq_true rfl⟩ (fun z1 I1 hq => ?_)
  obtain ⟨⟨k, hz⟩, hkC⟩ := hq
  rw [hc.2.2.1] at hz
  have hM1 := (hR.mid hkC).2.2.1
  have hP1 := (hR.mid hkC).PM
  refine x_aload_n dL_law_315 rfl ?_
  refine xp_VI0 dL_law_316 ml_RL_40 vw_X5_fault vv_X5_fault rfl (sp_mfault hN hM1 hP1) ⟨Nat.le_of_ble_eq_true rfl, Nat.le_of_ble_eq_true rfl, (show cs + 0 ≤ 600000 by omega), (show ss + 0 ≤ 7302250 by omega), Nat.le_of_ble_eq_true rfl⟩ (fun z2 I2 hq => ?_)
  obtain ⟨k2, hz2, -, -, -, hkF⟩ := hq
  rw [hkC.fn (a := 54) (by decide)] at hz2
  have hkM := hkF.M
  obtain rfl : z2 = z1 := (hz2.uniq hz).2
  refine x_icmp_eqS 1023 dL_law_319 (by decide) ?_
  refine x_widen (k := cs + 5) (n := ss + 89) (by omega) (by omega) (kk _ _ _ _ _ _ ((hR.both hkC hkM).mono (by omega)))
theorem lw_c6 {Fx : FxT} {Ln : Nat} {xs : Nat → Int32} (hX : SX G Fx Ln xs) {i : Nat} (hi : i + 6 ≤ Ln) {zi : Int} (hzi : zi = (i : Int)) {P : Int} (hP : 999 ≤ P ∧ P ≤ 980000) (hR : Rel K N I n d s P) {cs ss : Nat} (hcs : cs + 5 ≤ 600000) (hss : ss + 89 ≤ 7302250) (kk : ∀ K1 N1 I1 n1 d1 s1, Rel K1 N1 I1 n1 d1 s1 (P + 540) → XX G RL cL_law room_1 Fx 1023 [some (.ref 80), some (.ref 0), some (.ref 50), some (vi zi)] [] K1 N1 I1 (cs + 5) (ss + 89)) : XX G RL cL_law room_1 Fx 324 [some (.ref 80), some (.ref 0), some (.ref 50), some (vi zi)] [] K N I cs ss := by
  have hN := hR.1.1
  have hB := hR.2.1
  have hM := hR.2.2.1
  have hc := hR.2.2.2.1
  have hG := hR.2.2.2.2.1
  have hPB := hR.2.2.2.2.2.1.1
  have hn9 := hB.2.2.1
  refine x_aload_n dL_law_324 rfl ?_
  refine x_aload_n dL_law_325 rfl ?_
  refine x_iload_n dL_law_326 rfl ?_
  refine x_iconst dL_law_327 ?_
  refine x_iadd dL_law_328 ?_
  refine x_scld (i + 1) dL_law_329 hX (by omega) (by omega) ?_
  refine xp_VI1 dL_law_330 ml_RL_41 vw_X4_judge vv_X4_judge rfl (sp_judge hN hB (hR.PC (show P ≤ 990000 by omega)) hPB xs_inr) ⟨Nat.le_of_ble_eq_true rfl, Nat.le_of_ble_eq_true rfl, (show cs + 0 ≤ 600000 by omega), (show ss + 0 ≤ 7302250 by omega), Nat.le_of_ble_eq_true rfl⟩ (fun z1 I1 hq => ?_)
  obtain ⟨hkC, hz⟩ := hq
  have hM1 := (hR.mid hkC).2.2.1
  have hP1 := (hR.mid hkC).PM
  have hr1 := (hR.mid hkC).PR (show P ≤ 990000 by omega)
  refine x_aload_n dL_law_333 rfl ?_
  refine x_aload_n dL_law_334 rfl ?_
  refine x_iload_n dL_law_335 rfl ?_
  refine x_iconst dL_law_336 ?_
  refine x_iadd dL_law_337 ?_
  refine x_scld (i + 1) dL_law_338 hX (by omega) (by omega) ?_
  refine xp_VI1 dL_law_339 ml_RL_44 vw_X5_judge vv_X5_judge rfl (sp_mjudge hN hM1 hr1 hP1 xs_inr) ⟨Nat.le_of_ble_eq_true rfl, Nat.le_of_ble_eq_true rfl, (show cs + 0 ≤ 600000 by omega), (show ss + 0 ≤ 7302250 by omega), Nat.le_of_ble_eq_true rfl⟩ (fun z2 I2 hq => ?_)
  obtain ⟨hkM, hz2⟩ := hq
  have ez : z2 = z1 := by
    rcases hz with ⟨h1, e1⟩ | ⟨h1, k, z0, j, hD, e1⟩
    · rcases hz2 with ⟨h2, e2⟩ | ⟨h2, k2, z02, j2, hD2, e2⟩
      · rw [e1, e2]
      · exact absurd h2 h1
    · rcases hz2 with ⟨h2, e2⟩ | ⟨h2, k2, z02, j2, hD2, e2⟩
      · exact absurd h1 h2
      · rw [e1, e2, jg_jm hc, jm_k hkC]; exact jm_eq (DM.k hkC hD2) (DA.M hc hD).1
  subst ez
  refine x_icmp_eqS 1023 dL_law_342 (by decide) ?_
  refine x_widen (k := cs + 5) (n := ss + 89) (by omega) (by omega) (kk _ _ _ _ _ _ ((hR.both hkC hkM).mono (by omega)))
theorem lw_c7 {Fx : FxT} {Ln : Nat} {xs : Nat → Int32} (hX : SX G Fx Ln xs) {i : Nat} (hi : i + 6 ≤ Ln) {zi : Int} (hzi : zi = (i : Int)) {P : Int} (hP : 999 ≤ P ∧ P ≤ 980000) (hR : Rel K N I n d s P) {cs ss : Nat} (hcs : cs + 5 ≤ 600000) (hss : ss + 89 ≤ 7302250) (kk : ∀ K1 N1 I1 n1 d1 s1, Rel K1 N1 I1 n1 d1 s1 (P + 540) → XX G RL cL_law room_1 Fx 1023 [some (.ref 80), some (.ref 0), some (.ref 50), some (vi zi)] [] K1 N1 I1 (cs + 5) (ss + 89)) : XX G RL cL_law room_1 Fx 347 [some (.ref 80), some (.ref 0), some (.ref 50), some (vi zi)] [] K N I cs ss := by
  have hN := hR.1.1
  have hB := hR.2.1
  have hM := hR.2.2.1
  have hc := hR.2.2.2.1
  have hG := hR.2.2.2.2.1
  have hPB := hR.2.2.2.2.2.1.1
  have hn9 := hB.2.2.1
  refine x_aload_n dL_law_347 rfl ?_
  refine x_aload_n dL_law_348 rfl ?_
  refine x_iload_n dL_law_349 rfl ?_
  refine x_iconst dL_law_350 ?_
  refine x_iadd dL_law_351 ?_
  refine x_scld (i + 1) dL_law_352 hX (by omega) (by omega) ?_
  refine x_aload_n dL_law_353 rfl ?_
  refine x_iload_n dL_law_354 rfl ?_
  refine x_iconst dL_law_355 ?_
  refine x_iadd dL_law_356 ?_
  refine x_scld (i + 2) dL_law_357 hX (by omega) (by omega) ?_
  refine xp_VI2 dL_law_358 ml_RL_45 vw_X4_behind vv_X4_behind rfl (sp_behind hN hB (hR.PC (show P ≤ 990000 by omega)) hPB xs_inr xs_inr) ⟨Nat.le_of_ble_eq_true rfl, Nat.le_of_ble_eq_true rfl, (show cs + 0 ≤ 600000 by omega), (show ss + 0 ≤ 7302250 by omega), Nat.le_of_ble_eq_true rfl⟩ (fun z1 I1 hq => ?_)
  obtain ⟨hkC, hz⟩ := hq
  have hM1 := (hR.mid hkC).2.2.1
  have hP1 := (hR.mid hkC).PM
  have hr1 := (hR.mid hkC).PR (show P ≤ 990000 by omega)
  refine x_aload_n dL_law_361 rfl ?_
  refine x_aload_n dL_law_362 rfl ?_
  refine x_iload_n dL_law_363 rfl ?_
  refine x_iconst dL_law_364 ?_
  refine x_iadd dL_law_365 ?_
  refine x_scld (i + 1) dL_law_366 hX (by omega) (by omega) ?_
  refine x_aload_n dL_law_367 rfl ?_
  refine x_iload_n dL_law_368 rfl ?_
  refine x_iconst dL_law_369 ?_
  refine x_iadd dL_law_370 ?_
  refine x_scld (i + 2) dL_law_371 hX (by omega) (by omega) ?_
  refine xp_VI2 dL_law_372 ml_RL_48 vw_X5_behind vv_X5_behind rfl (sp_mbehind hN hM1 hr1 hP1 xs_inr xs_inr) ⟨Nat.le_of_ble_eq_true rfl, Nat.le_of_ble_eq_true rfl, (show cs + 0 ≤ 600000 by omega), (show ss + 0 ≤ 7302250 by omega), Nat.le_of_ble_eq_true rfl⟩ (fun z2 I2 hq => ?_)
  obtain ⟨hkM, hz2⟩ := hq
  have ez : z2 = z1 := by
    rcases hz with ⟨h1, e1⟩ | ⟨h1, g1, e1⟩ | ⟨h1, g1, k, z0, j, hD, e1⟩
    · rcases hz2 with ⟨h2, e2⟩ | ⟨h2, g2, e2⟩ | ⟨h2, g2, k2, z02, j2, hD2, e2⟩
      · rw [e1, e2]
      · exact absurd h2 h1
      · exact absurd h2 h1
    · rcases hz2 with ⟨h2, e2⟩ | ⟨h2, g2, e2⟩ | ⟨h2, g2, k2, z02, j2, hD2, e2⟩
      · exact absurd h1 h2
      · rw [e1, e2]
      · exact absurd g2 g1
    · rcases hz2 with ⟨h2, e2⟩ | ⟨h2, g2, e2⟩ | ⟨h2, g2, k2, z02, j2, hD2, e2⟩
      · exact absurd h1 h2
      · exact absurd g1 g2
      · rw [e1, e2, (DA.M hc hD).2, dm_k hkC]; exact rv_eq (X := fun _ j => (dmR I n d j).1 (xs (i + 1)).toInt.toNat (bhK (xs (i + 2)).toInt.toNat)) (DM.k hkC hD2) (DA.M hc hD).1
  subst ez
  refine x_icmp_eqS 1023 dL_law_375 (by decide) ?_
  refine x_widen (k := cs + 5) (n := ss + 89) (by omega) (by omega) (kk _ _ _ _ _ _ ((hR.both hkC hkM).mono (by omega)))
theorem lw_c8 {Fx : FxT} {Ln : Nat} {xs : Nat → Int32} (hX : SX G Fx Ln xs) {i : Nat} (hi : i + 6 ≤ Ln) {zi : Int} (hzi : zi = (i : Int)) {P : Int} (hP : 999 ≤ P ∧ P ≤ 980000) (hR : Rel K N I n d s P) {cs ss : Nat} (hcs : cs + 5 ≤ 600000) (hss : ss + 89 ≤ 7302250) (kk : ∀ K1 N1 I1 n1 d1 s1, Rel K1 N1 I1 n1 d1 s1 (P + 540) → XX G RL cL_law room_1 Fx 1023 [some (.ref 80), some (.ref 0), some (.ref 50), some (vi zi)] [] K1 N1 I1 (cs + 5) (ss + 89)) : XX G RL cL_law room_1 Fx 380 [some (.ref 80), some (.ref 0), some (.ref 50), some (vi zi)] [] K N I cs ss := by
  have hN := hR.1.1
  have hB := hR.2.1
  have hM := hR.2.2.1
  have hc := hR.2.2.2.1
  have hG := hR.2.2.2.2.1
  have hPB := hR.2.2.2.2.2.1.1
  have hn9 := hB.2.2.1
  refine x_aload_n dL_law_380 rfl ?_
  refine xp_VI0 dL_law_381 ml_RL_49 vw_X4_ditch vv_X4_ditch rfl (sp_ditch hN hB (hR.PC (show P ≤ 990000 by omega)) hPB) ⟨Nat.le_of_ble_eq_true rfl, Nat.le_of_ble_eq_true rfl, (show cs + 0 ≤ 600000 by omega), (show ss + 0 ≤ 7302250 by omega), Nat.le_of_ble_eq_true rfl⟩ (fun z1 I1 hq => ?_)
  obtain ⟨hkC, hz⟩ := hq
  have hM1 := (hR.mid hkC).2.2.1
  have hP1 := (hR.mid hkC).PM
  have hr1 := (hR.mid hkC).PR (show P ≤ 990000 by omega)
  refine x_aload_n dL_law_384 rfl ?_
  refine xp_VI0 dL_law_385 ml_RL_52 vw_X5_ditch vv_X5_ditch rfl (sp_mditch hN hM1 hr1 hP1) ⟨Nat.le_of_ble_eq_true rfl, Nat.le_of_ble_eq_true rfl, (show cs + 0 ≤ 600000 by omega), (show ss + 0 ≤ 7302250 by omega), Nat.le_of_ble_eq_true rfl⟩ (fun z2 I2 hq => ?_)
  obtain ⟨hkM, hz2⟩ := hq
  have ez : z2 = z1 := by
    obtain ⟨k, z0, j, hD, e1⟩ := hz
    obtain ⟨k2, z02, j2, hD2, e2⟩ := hz2
    rw [e1, e2, (DA.M hc hD).2, dm_k hkC]; exact rv_eq (X := fun _ j => (dmR I n d j).2.1) (DM.k hkC hD2) (DA.M hc hD).1
  subst ez
  refine x_icmp_eqS 1023 dL_law_388 (by decide) ?_
  refine x_widen (k := cs + 5) (n := ss + 89) (by omega) (by omega) (kk _ _ _ _ _ _ ((hR.both hkC hkM).mono (by omega)))
theorem lw_c10 {Fx : FxT} {Ln : Nat} {xs : Nat → Int32} (hX : SX G Fx Ln xs) {i : Nat} (hi : i + 6 ≤ Ln) {zi : Int} (hzi : zi = (i : Int)) {P : Int} (hP : 999 ≤ P ∧ P ≤ 980000) (hR : Rel K N I n d s P) {cs ss : Nat} (hcs : cs + 5 ≤ 600000) (hss : ss + 89 ≤ 7302250) (kk : ∀ K1 N1 I1 n1 d1 s1, Rel K1 N1 I1 n1 d1 s1 (P + 540) → XX G RL cL_law room_1 Fx 1023 [some (.ref 80), some (.ref 0), some (.ref 50), some (vi zi)] [] K1 N1 I1 (cs + 5) (ss + 89)) : XX G RL cL_law room_1 Fx 406 [some (.ref 80), some (.ref 0), some (.ref 50), some (vi zi)] [] K N I cs ss := by
  have hN := hR.1.1
  have hB := hR.2.1
  have hM := hR.2.2.1
  have hc := hR.2.2.2.1
  have hG := hR.2.2.2.2.1
  have hPB := hR.2.2.2.2.2.1.1
  have hn9 := hB.2.2.1
  refine x_aload_n dL_law_406 rfl ?_
  refine x_aload_n dL_law_407 rfl ?_
  refine x_iload_n dL_law_408 rfl ?_
  refine x_iconst dL_law_409 ?_
  refine x_iadd dL_law_410 ?_
  refine x_scld (i + 1) dL_law_411 hX (by omega) (by omega) ?_
  refine xp_VI1 dL_law_412 ml_RL_57 vw_X4_first vv_X4_first rfl (sp_first hN hB (hR.PC (show P ≤ 990000 by omega)) hPB xs_inr) ⟨Nat.le_of_ble_eq_true rfl, Nat.le_of_ble_eq_true rfl, (show cs + 0 ≤ 600000 by omega), (show ss + 0 ≤ 7302250 by omega), Nat.le_of_ble_eq_true rfl⟩ (fun z1 I1 hq => ?_)
  obtain ⟨hkC, hz⟩ := hq
  have hM1 := (hR.mid hkC).2.2.1
  have hP1 := (hR.mid hkC).PM
  have hr1 := (hR.mid hkC).PR (show P ≤ 990000 by omega)
  refine x_aload_n dL_law_415 rfl ?_
  refine x_aload_n dL_law_416 rfl ?_
  refine x_iload_n dL_law_417 rfl ?_
  refine x_iconst dL_law_418 ?_
  refine x_iadd dL_law_419 ?_
  refine x_scld (i + 1) dL_law_420 hX (by omega) (by omega) ?_
  refine xp_VI1 dL_law_421 ml_RL_60 vw_X5_first vv_X5_first rfl (sp_mfirst hN hM1 hr1 hP1 xs_inr) ⟨Nat.le_of_ble_eq_true rfl, Nat.le_of_ble_eq_true rfl, (show cs + 0 ≤ 600000 by omega), (show ss + 0 ≤ 7302250 by omega), Nat.le_of_ble_eq_true rfl⟩ (fun z2 I2 hq => ?_)
  obtain ⟨hkM, hz2⟩ := hq
  have ez : z2 = z1 := by
    rcases hz with ⟨h1, e1⟩ | ⟨h1, k, z0, j, hD, e1⟩
    · rcases hz2 with ⟨h2, e2⟩ | ⟨h2, k2, z02, j2, hD2, e2⟩
      · rw [e1, e2]
      · exact absurd h2 h1
    · rcases hz2 with ⟨h2, e2⟩ | ⟨h2, k2, z02, j2, hD2, e2⟩
      · exact absurd h1 h2
      · rw [e1, e2, (DA.M hc hD).2, dm_k hkC]; exact rv_eq (X := fun _ j => (dmR I n d j).2.2.2 (xs (i + 1)).toInt.toNat) (DM.k hkC hD2) (DA.M hc hD).1
  subst ez
  refine x_icmp_eqS 1023 dL_law_424 (by decide) ?_
  refine x_widen (k := cs + 5) (n := ss + 89) (by omega) (by omega) (kk _ _ _ _ _ _ ((hR.both hkC hkM).mono (by omega)))
theorem lw_c9 {Fx : FxT} {Ln : Nat} {xs : Nat → Int32} (hX : SX G Fx Ln xs) {i : Nat} (hi : i + 6 ≤ Ln) {zi : Int} (hzi : zi = (i : Int)) {P : Int} (hP : 999 ≤ P ∧ P ≤ 980000) (hR : Rel K N I n d s P) {cs ss : Nat} (hcs : cs + 5 ≤ 600000) (hss : ss + 89 ≤ 7302250) (kk : ∀ K1 N1 I1 n1 d1 s1, Rel K1 N1 I1 n1 d1 s1 (P + 540) → XX G RL cL_law room_1 Fx 1023 [some (.ref 80), some (.ref 0), some (.ref 50), some (vi zi)] [] K1 N1 I1 (cs + 5) (ss + 89)) : XX G RL cL_law room_1 Fx 393 [some (.ref 80), some (.ref 0), some (.ref 50), some (vi zi)] [] K N I cs ss := by
  have hN := hR.1.1
  have hB := hR.2.1
  have hM := hR.2.2.1
  have hc := hR.2.2.2.1
  have hG := hR.2.2.2.2.1
  have hPB := hR.2.2.2.2.2.1.1
  have hn9 := hB.2.2.1
  refine x_aload_n dL_law_393 rfl ?_
  refine xp_VI0 dL_law_394 ml_RL_53 vw_X4_done vv_X4_done rfl (sp_done hN hB (hR.PC (show P ≤ 990000 by omega)) hPB) ⟨Nat.le_of_ble_eq_true rfl, Nat.le_of_ble_eq_true rfl, (show cs + 0 ≤ 600000 by omega), (show ss + 0 ≤ 7302250 by omega), Nat.le_of_ble_eq_true rfl⟩ (fun z1 I1 hq => ?_)
  obtain ⟨k, z0, j, hD, hz, hk0, hk1⟩ := hq
  obtain ⟨hDM, hda⟩ := DA.M hc hD
  have hm : ∀ a b, 36 ≤ a → I1 a b = I a b := fun a b q => by
    by_cases y : rvV z0 k j = 0
    · exact (hk1 y).2.2.2.2.2.2.2 a b (Or.inr q)
    · exact (hk0 y).m a b q
  have hM1 := cm_RM hM hm
  have hr1 : ∀ f, f < n → fm I1 f 6 ≤ 990000 := fun f hf => by rw [cm_fm hm]; exact hR.PR (show P ≤ 990000 by omega) f hf
  have hP1 : PM I1 d := by
    have h0 := hR.PM
    exact ⟨(hm 50 10 (by decide)).trans h0.1, h0.2.1, fun j hj => by rw [hm 54 j (by decide)]; exact h0.2.2 j hj⟩
  refine x_aload_n dL_law_397 rfl ?_
  refine xp_VI0 dL_law_398 ml_RL_56 vw_X5_done vv_X5_done rfl (sp_mdone hN hM1 hr1 hP1) ⟨Nat.le_of_ble_eq_true rfl, Nat.le_of_ble_eq_true rfl, (show cs + 0 ≤ 600000 by omega), (show ss + 0 ≤ 7302250 by omega), Nat.le_of_ble_eq_true rfl⟩ (fun z2 I2 hq => ?_)
  obtain ⟨k2, z02, j2, hD2, hz2, hm0, hm1⟩ := hq
  have hD2' := cm_DM hm hD2
  have ez : z2 = z1 := by rw [hz, hz2]; exact rv_eq (X := fun k _ => (k : Int)) hD2' hDM
  subst ez
  have hRn : ∃ d', Rel K N I2 n d' s (P + 540) := by
    obtain ⟨rfl, rfl, e3⟩ := hDM.uniq hD2'
    by_cases z6 : z0 = -6
    · obtain rfl := e3 z6
      by_cases y : rvV z0 k j = 0
      · have h1 := hk1 y
        have h2 := hm1 y
        rw [hda] at h1
        rw [cm_dm hm] at h2
        exact ⟨0, hR.done (by omega) h1 h2 (dm_ok hR hDM z6)⟩
      · exact ⟨d, (hR.both (hk0 y) (hm0 y)).mono (by omega)⟩
    · have y : rvV z0 k j ≠ 0 := by unfold rvV; rw [if_pos z6]; decide
      have y2 : rvV z0 k j2 ≠ 0 := by unfold rvV; rw [if_pos z6]; decide
      exact ⟨d, (hR.both (hk0 y) (hm0 y2)).mono (by omega)⟩
  refine x_icmp_eqS 1023 dL_law_401 (by decide) ?_
  obtain ⟨d9, hRn⟩ := hRn
  refine x_widen (k := cs + 5) (n := ss + 89) (by omega) (by omega) (kk _ _ _ _ _ _ hRn)
theorem lw_c0 {Fx : FxT} {Ln : Nat} {xs : Nat → Int32} (hX : SX G Fx Ln xs) {i : Nat} (hi : i + 6 ≤ Ln) {zi : Int} (hzi : zi = (i : Int)) {P : Int} (hP : 999 ≤ P ∧ P ≤ 980000) (hR : Rel K N I n d s P) {cs ss : Nat} (hcs : cs + 5 ≤ 600000) (hss : ss + 89 ≤ 7302250) (kk : ∀ K1 N1 I1 n1 d1 s1, Rel K1 N1 I1 n1 d1 s1 (P + 540) → XX G RL cL_law room_1 Fx 1023 [some (.ref 80), some (.ref 0), some (.ref 50), some (vi zi)] [] K1 N1 I1 (cs + 5) (ss + 89)) : XX G RL cL_law room_1 Fx 176 [some (.ref 80), some (.ref 0), some (.ref 50), some (vi zi)] [] K N I cs ss := by
  have hN := hR.1.1
  have hB := hR.2.1
  have hM := hR.2.2.1
  have hc := hR.2.2.2.1
  have hG := hR.2.2.2.2.1
  have hPB := hR.2.2.2.2.2.1.1
  have hn9 := hB.2.2.1
  by_cases hq : 1 ≤ (xs (i + 1)).toInt ∧ (xs (i + 1)).toInt ≤ 9
  · refine x_aload_n dL_law_176 rfl ?_
    refine x_aload_n dL_law_177 rfl ?_
    refine x_iload_n dL_law_178 rfl ?_
    refine x_iconst dL_law_179 ?_
    refine x_iadd dL_law_180 ?_
    refine x_scld (i + 1) dL_law_181 hX (by omega) (by omega) ?_
    refine xf_VI1 dL_law_182 ml_RL_13 vw_X4_farms vv_X4_farms rfl (sp_farms hN xs_inr) ⟨Nat.le_of_ble_eq_true rfl, Nat.le_of_ble_eq_true rfl, (show cs + 0 ≤ 600000 by omega), (show ss + 0 ≤ 7302250 by omega), Nat.le_of_ble_eq_true rfl⟩ ?_
    rw [if_pos hq, if_pos hq, hB.1]
    refine x_aload_n dL_law_185 rfl ?_
    refine x_aload_n dL_law_186 rfl ?_
    refine x_iload_n dL_law_187 rfl ?_
    refine x_iconst dL_law_188 ?_
    refine x_iadd dL_law_189 ?_
    refine x_scld (i + 1) dL_law_190 hX (by omega) (by omega) ?_
    refine xf_VI1 dL_law_191 ml_RL_17 vw_X5_farms vv_X5_farms rfl (sp_mfarms hN xs_inr) ⟨Nat.le_of_ble_eq_true rfl, Nat.le_of_ble_eq_true rfl, (show cs + 0 ≤ 600000 by omega), (show ss + 0 ≤ 7302250 by omega), Nat.le_of_ble_eq_true rfl⟩ ?_
    rw [if_pos hq, if_pos hq, show beJ I 1 (xs (i + 1)).toInt 50 0 = (n : Int) from hM.1]
    refine x_icmp_eqS 1023 dL_law_194 (by decide) ?_
    refine x_widen (k := cs + 5) (n := ss + 89) (by omega) (by omega) (kk _ _ _ _ _ _ ((hR.farms (by omega) hq).mono (by omega)))
  · refine x_aload_n dL_law_176 rfl ?_
    refine x_aload_n dL_law_177 rfl ?_
    refine x_iload_n dL_law_178 rfl ?_
    refine x_iconst dL_law_179 ?_
    refine x_iadd dL_law_180 ?_
    refine x_scld (i + 1) dL_law_181 hX (by omega) (by omega) ?_
    refine xf_VI1 dL_law_182 ml_RL_13 vw_X4_farms vv_X4_farms rfl (sp_farms hN xs_inr) ⟨Nat.le_of_ble_eq_true rfl, Nat.le_of_ble_eq_true rfl, (show cs + 0 ≤ 600000 by omega), (show ss + 0 ≤ 7302250 by omega), Nat.le_of_ble_eq_true rfl⟩ ?_
    rw [if_neg hq, if_neg hq]
    refine x_aload_n dL_law_185 rfl ?_
    refine x_aload_n dL_law_186 rfl ?_
    refine x_iload_n dL_law_187 rfl ?_
    refine x_iconst dL_law_188 ?_
    refine x_iadd dL_law_189 ?_
    refine x_scld (i + 1) dL_law_190 hX (by omega) (by omega) ?_
    refine xf_VI1 dL_law_191 ml_RL_17 vw_X5_farms vv_X5_farms rfl (sp_mfarms hN xs_inr) ⟨Nat.le_of_ble_eq_true rfl, Nat.le_of_ble_eq_true rfl, (show cs + 0 ≤ 600000 by omega), (show ss + 0 ≤ 7302250 by omega), Nat.le_of_ble_eq_true rfl⟩ ?_
    rw [if_neg hq, if_neg hq]
    refine x_icmp_eqS 1023 dL_law_194 (by decide) ?_
    refine x_widen (k := cs + 5) (n := ss + 89) (by omega) (by omega) (kk _ _ _ _ _ _ (hR.mono (by omega)))
theorem lw_c1 {Fx : FxT} {Ln : Nat} {xs : Nat → Int32} (hX : SX G Fx Ln xs) {i : Nat} (hi : i + 6 ≤ Ln) {zi : Int} (hzi : zi = (i : Int)) {P : Int} (hP : 999 ≤ P ∧ P ≤ 980000) (hR : Rel K N I n d s P) {cs ss : Nat} (hcs : cs + 5 ≤ 600000) (hss : ss + 89 ≤ 7302250) (kk : ∀ K1 N1 I1 n1 d1 s1, Rel K1 N1 I1 n1 d1 s1 (P + 540) → XX G RL cL_law room_1 Fx 1023 [some (.ref 80), some (.ref 0), some (.ref 50), some (vi zi)] [] K1 N1 I1 (cs + 5) (ss + 89)) : XX G RL cL_law room_1 Fx 199 [some (.ref 80), some (.ref 0), some (.ref 50), some (vi zi)] [] K N I cs ss := by
  have hN := hR.1.1
  have hB := hR.2.1
  have hM := hR.2.2.1
  have hc := hR.2.2.2.1
  have hG := hR.2.2.2.2.1
  have hPB := hR.2.2.2.2.2.1.1
  have hn9 := hB.2.2.1
  by_cases hq : (0 ≤ (xs (i + 1)).toInt ∧ (xs (i + 1)).toInt < n) ∧ (0 ≤ (xs (i + 2)).toInt ∧ (xs (i + 2)).toInt ≤ 6) ∧ (0 ≤ (xs (i + 3)).toInt ∧ (xs (i + 3)).toInt ≤ gmst (xs (i + 2)).toInt)
  · refine x_aload_n dL_law_199 rfl ?_
    refine x_aload_n dL_law_200 rfl ?_
    refine x_iload_n dL_law_201 rfl ?_
    refine x_iconst dL_law_202 ?_
    refine x_iadd dL_law_203 ?_
    refine x_scld (i + 1) dL_law_204 hX (by omega) (by omega) ?_
    refine x_aload_n dL_law_205 rfl ?_
    refine x_iload_n dL_law_206 rfl ?_
    refine x_iconst dL_law_207 ?_
    refine x_iadd dL_law_208 ?_
    refine x_scld (i + 2) dL_law_209 hX (by omega) (by omega) ?_
    refine x_aload_n dL_law_210 rfl ?_
    refine x_iload_n dL_law_211 rfl ?_
    refine x_iconst dL_law_212 ?_
    refine x_iadd dL_law_213 ?_
    refine x_scld (i + 3) dL_law_214 hX (by omega) (by omega) ?_
    refine xf_VI3 dL_law_215 ml_RL_18 vw_X4_farm vv_X4_farm rfl (sp_farm hN hB xs_inr xs_inr xs_inr) ⟨Nat.le_of_ble_eq_true rfl, Nat.le_of_ble_eq_true rfl, (show cs + 0 ≤ 600000 by omega), (show ss + 0 ≤ 7302250 by omega), Nat.le_of_ble_eq_true rfl⟩ ?_
    rw [if_pos hq, if_neg (show ¬ ¬ (0 ≤ (xs (i + 1)).toInt ∧ (xs (i + 1)).toInt < n) from fun z => z hq.1), if_pos hq.2, hc.1]
    have hM1 : RM (up I 2 (7 * (xs (i + 1)).toInt.toNat + (xs (i + 2)).toInt.toNat) (xs (i + 3)).toInt) n := cm_RM hM (fun a k q => up_n1 (by omega))
    refine x_aload_n dL_law_218 rfl ?_
    refine x_aload_n dL_law_219 rfl ?_
    refine x_iload_n dL_law_220 rfl ?_
    refine x_iconst dL_law_221 ?_
    refine x_iadd dL_law_222 ?_
    refine x_scld (i + 1) dL_law_223 hX (by omega) (by omega) ?_
    refine x_aload_n dL_law_224 rfl ?_
    refine x_iload_n dL_law_225 rfl ?_
    refine x_iconst dL_law_226 ?_
    refine x_iadd dL_law_227 ?_
    refine x_scld (i + 2) dL_law_228 hX (by omega) (by omega) ?_
    refine x_aload_n dL_law_229 rfl ?_
    refine x_iload_n dL_law_230 rfl ?_
    refine x_iconst dL_law_231 ?_
    refine x_iadd dL_law_232 ?_
    refine x_scld (i + 3) dL_law_233 hX (by omega) (by omega) ?_
    refine xf_VI3 dL_law_234 ml_RL_22 vw_X5_farm vv_X5_farm rfl (sp_mfarm hN hM1 xs_inr xs_inr xs_inr) ⟨Nat.le_of_ble_eq_true rfl, Nat.le_of_ble_eq_true rfl, (show cs + 0 ≤ 600000 by omega), (show ss + 0 ≤ 7302250 by omega), Nat.le_of_ble_eq_true rfl⟩ ?_
    rw [if_pos hq, if_neg (show ¬ ¬ (0 ≤ (xs (i + 1)).toInt ∧ (xs (i + 1)).toInt < n) from fun z => z hq.1), if_pos hq.2, fm_eq (I := I) (fun _ => up_n1 (by decide))]
    have hk0 : (((xs (i + 2)).toInt.toNat : Nat) : Int) = (xs (i + 2)).toInt := Int.toNat_of_nonneg hq.2.1.1
    refine x_icmp_eqS 1023 dL_law_237 (by decide) ?_
    refine x_widen (k := cs + 5) (n := ss + 89) (by omega) (by omega) (kk _ _ _ _ _ _ ((hR.farm (by omega) (by omega) (by omega) (by rw [hk0]; exact hq.2.2)).mono (by omega)))
  · refine x_aload_n dL_law_199 rfl ?_
    refine x_aload_n dL_law_200 rfl ?_
    refine x_iload_n dL_law_201 rfl ?_
    refine x_iconst dL_law_202 ?_
    refine x_iadd dL_law_203 ?_
    refine x_scld (i + 1) dL_law_204 hX (by omega) (by omega) ?_
    refine x_aload_n dL_law_205 rfl ?_
    refine x_iload_n dL_law_206 rfl ?_
    refine x_iconst dL_law_207 ?_
    refine x_iadd dL_law_208 ?_
    refine x_scld (i + 2) dL_law_209 hX (by omega) (by omega) ?_
    refine x_aload_n dL_law_210 rfl ?_
    refine x_iload_n dL_law_211 rfl ?_
    refine x_iconst dL_law_212 ?_
    refine x_iadd dL_law_213 ?_
    refine x_scld (i + 3) dL_law_214 hX (by omega) (by omega) ?_
    refine xf_VI3 dL_law_215 ml_RL_18 vw_X4_farm vv_X4_farm rfl (sp_farm hN hB xs_inr xs_inr xs_inr) ⟨Nat.le_of_ble_eq_true rfl, Nat.le_of_ble_eq_true rfl, (show cs + 0 ≤ 600000 by omega), (show ss + 0 ≤ 7302250 by omega), Nat.le_of_ble_eq_true rfl⟩ ?_
    rw [if_neg hq, hc.1]
    refine x_aload_n dL_law_218 rfl ?_
    refine x_aload_n dL_law_219 rfl ?_
    refine x_iload_n dL_law_220 rfl ?_
    refine x_iconst dL_law_221 ?_
    refine x_iadd dL_law_222 ?_
    refine x_scld (i + 1) dL_law_223 hX (by omega) (by omega) ?_
    refine x_aload_n dL_law_224 rfl ?_
    refine x_iload_n dL_law_225 rfl ?_
    refine x_iconst dL_law_226 ?_
    refine x_iadd dL_law_227 ?_
    refine x_scld (i + 2) dL_law_228 hX (by omega) (by omega) ?_
    refine x_aload_n dL_law_229 rfl ?_
    refine x_iload_n dL_law_230 rfl ?_
    refine x_iconst dL_law_231 ?_
    refine x_iadd dL_law_232 ?_
    refine x_scld (i + 3) dL_law_233 hX (by omega) (by omega) ?_
    refine xf_VI3 dL_law_234 ml_RL_22 vw_X5_farm vv_X5_farm rfl (sp_mfarm hN hM xs_inr xs_inr xs_inr) ⟨Nat.le_of_ble_eq_true rfl, Nat.le_of_ble_eq_true rfl, (show cs + 0 ≤ 600000 by omega), (show ss + 0 ≤ 7302250 by omega), Nat.le_of_ble_eq_true rfl⟩ ?_
    rw [if_neg hq]
    refine x_icmp_eqS 1023 dL_law_237 (by decide) ?_
    refine x_widen (k := cs + 5) (n := ss + 89) (by omega) (by omega) (kk _ _ _ _ _ _ (hR.mono (by omega)))
theorem lw_c2 {Fx : FxT} {Ln : Nat} {xs : Nat → Int32} (hX : SX G Fx Ln xs) {i : Nat} (hi : i + 6 ≤ Ln) {zi : Int} (hzi : zi = (i : Int)) {P : Int} (hP : 999 ≤ P ∧ P ≤ 980000) (hR : Rel K N I n d s P) {cs ss : Nat} (hcs : cs + 5 ≤ 600000) (hss : ss + 89 ≤ 7302250) (kk : ∀ K1 N1 I1 n1 d1 s1, Rel K1 N1 I1 n1 d1 s1 (P + 540) → XX G RL cL_law room_1 Fx 1023 [some (.ref 80), some (.ref 0), some (.ref 50), some (vi zi)] [] K1 N1 I1 (cs + 5) (ss + 89)) : XX G RL cL_law room_1 Fx 242 [some (.ref 80), some (.ref 0), some (.ref 50), some (vi zi)] [] K N I cs ss := by
  have hN := hR.1.1
  have hB := hR.2.1
  have hM := hR.2.2.1
  have hc := hR.2.2.2.1
  have hG := hR.2.2.2.2.1
  have hPB := hR.2.2.2.2.2.1.1
  have hn9 := hB.2.2.1
  by_cases hq : (0 ≤ (xs (i + 1)).toInt ∧ (xs (i + 1)).toInt ≤ 2) ∧ (0 ≤ (xs (i + 2)).toInt ∧ (xs (i + 2)).toInt ≤ rmst (xs (i + 1)).toInt)
  · refine x_aload_n dL_law_242 rfl ?_
    refine x_aload_n dL_law_243 rfl ?_
    refine x_iload_n dL_law_244 rfl ?_
    refine x_iconst dL_law_245 ?_
    refine x_iadd dL_law_246 ?_
    refine x_scld (i + 1) dL_law_247 hX (by omega) (by omega) ?_
    refine x_aload_n dL_law_248 rfl ?_
    refine x_iload_n dL_law_249 rfl ?_
    refine x_iconst dL_law_250 ?_
    refine x_iadd dL_law_251 ?_
    refine x_scld (i + 2) dL_law_252 hX (by omega) (by omega) ?_
    refine xf_VI2 dL_law_253 ml_RL_23 vw_X4_set vv_X4_set rfl (sp_set hN xs_inr xs_inr) ⟨Nat.le_of_ble_eq_true rfl, Nat.le_of_ble_eq_true rfl, (show cs + 0 ≤ 600000 by omega), (show ss + 0 ≤ 7302250 by omega), Nat.le_of_ble_eq_true rfl⟩ ?_
    rw [if_pos hq, if_pos hq]
    refine x_aload_n dL_law_256 rfl ?_
    refine x_aload_n dL_law_257 rfl ?_
    refine x_iload_n dL_law_258 rfl ?_
    refine x_iconst dL_law_259 ?_
    refine x_iadd dL_law_260 ?_
    refine x_scld (i + 1) dL_law_261 hX (by omega) (by omega) ?_
    refine x_aload_n dL_law_262 rfl ?_
    refine x_iload_n dL_law_263 rfl ?_
    refine x_iconst dL_law_264 ?_
    refine x_iadd dL_law_265 ?_
    refine x_scld (i + 2) dL_law_266 hX (by omega) (by omega) ?_
    refine xp_VI2 dL_law_267 ml_RL_27 vw_X5_set vv_X5_set rfl (sp_mset hN xs_inr xs_inr) ⟨Nat.le_of_ble_eq_true rfl, Nat.le_of_ble_eq_true rfl, (show cs + 0 ≤ 600000 by omega), (show ss + 0 ≤ 7302250 by omega), Nat.le_of_ble_eq_true rfl⟩ (fun z2 I2 hq2 => ?_)
    obtain ⟨hz2, hmem⟩ := hq2
    rw [if_pos hq, up_n1 (by decide)] at hz2
    have hk0 : (((xs (i + 1)).toInt.toNat : Nat) : Int) = (xs (i + 1)).toInt := Int.toNat_of_nonneg hq.1.1
    have hk3 : (xs (i + 1)).toInt.toNat < 3 := by omega
    have hrt : I 3 (xs (i + 1)).toInt.toNat = I 50 (2 + (xs (i + 1)).toInt.toNat) := by
      generalize (xs (i + 1)).toInt.toNat = q at hk3
      rcases (by omega : q = 0 ∨ q = 1 ∨ q = 2) with rfl | rfl | rfl
      · exact hc.2.2.2.2.1.1
      · exact hc.2.2.2.2.1.2.1
      · exact hc.2.2.2.2.1.2.2
    rw [hz2, ← hrt]
    refine x_icmp_eqS 1023 dL_law_270 (by decide) ?_
    have hRn : Rel K N I2 n d s P := hR.set (k := (xs (i + 1)).toInt.toNat) (v := (xs (i + 2)).toInt) (by omega) hk3 (by rw [hk0]; exact hq.2) (fun a b => by
      rw [hmem]
      by_cases y : a = 50 ∧ b = 2 + (xs (i + 1)).toInt.toNat
      · rw [if_pos ⟨hq.1, hq.2, y⟩, if_pos y]
      · rw [if_neg (fun z => y z.2.2), if_neg y]; rfl)
    refine x_widen (k := cs + 5) (n := ss + 89) (by omega) (by omega) (kk _ _ _ _ _ _ (hRn.mono (by omega)))
  · refine x_aload_n dL_law_242 rfl ?_
    refine x_aload_n dL_law_243 rfl ?_
    refine x_iload_n dL_law_244 rfl ?_
    refine x_iconst dL_law_245 ?_
    refine x_iadd dL_law_246 ?_
    refine x_scld (i + 1) dL_law_247 hX (by omega) (by omega) ?_
    refine x_aload_n dL_law_248 rfl ?_
    refine x_iload_n dL_law_249 rfl ?_
    refine x_iconst dL_law_250 ?_
    refine x_iadd dL_law_251 ?_
    refine x_scld (i + 2) dL_law_252 hX (by omega) (by omega) ?_
    refine xf_VI2 dL_law_253 ml_RL_23 vw_X4_set vv_X4_set rfl (sp_set hN xs_inr xs_inr) ⟨Nat.le_of_ble_eq_true rfl, Nat.le_of_ble_eq_true rfl, (show cs + 0 ≤ 600000 by omega), (show ss + 0 ≤ 7302250 by omega), Nat.le_of_ble_eq_true rfl⟩ ?_
    rw [if_neg hq, if_neg hq]
    refine x_aload_n dL_law_256 rfl ?_
    refine x_aload_n dL_law_257 rfl ?_
    refine x_iload_n dL_law_258 rfl ?_
    refine x_iconst dL_law_259 ?_
    refine x_iadd dL_law_260 ?_
    refine x_scld (i + 1) dL_law_261 hX (by omega) (by omega) ?_
    refine x_aload_n dL_law_262 rfl ?_
    refine x_iload_n dL_law_263 rfl ?_
    refine x_iconst dL_law_264 ?_
    refine x_iadd dL_law_265 ?_
    refine x_scld (i + 2) dL_law_266 hX (by omega) (by omega) ?_
    refine xp_VI2 dL_law_267 ml_RL_27 vw_X5_set vv_X5_set rfl (sp_mset hN xs_inr xs_inr) ⟨Nat.le_of_ble_eq_true rfl, Nat.le_of_ble_eq_true rfl, (show cs + 0 ≤ 600000 by omega), (show ss + 0 ≤ 7302250 by omega), Nat.le_of_ble_eq_true rfl⟩ (fun z2 I2 hq2 => ?_)
    obtain ⟨hz2, hmem⟩ := hq2
    rw [if_neg hq] at hz2
    rw [hz2]
    refine x_icmp_eqS 1023 dL_law_270 (by decide) ?_
    have hRn : Rel K N I2 n d s P := hR.keep (fun a b _ => by rw [hmem, if_neg (fun z => hq ⟨z.1, z.2.1⟩)])
    refine x_widen (k := cs + 5) (n := ss + 89) (by omega) (by omega) (kk _ _ _ _ _ _ (hRn.mono (by omega)))
theorem lw_c3 {Fx : FxT} {Ln : Nat} {xs : Nat → Int32} (hX : SX G Fx Ln xs) {i : Nat} (hi : i + 6 ≤ Ln) {zi : Int} (hzi : zi = (i : Int)) {P : Int} (hP : 999 ≤ P ∧ P ≤ 980000) (hR : Rel K N I n d s P) {cs ss : Nat} (hcs : cs + 5 ≤ 600000) (hss : ss + 89 ≤ 7302250) (kk : ∀ K1 N1 I1 n1 d1 s1, Rel K1 N1 I1 n1 d1 s1 (P + 540) → XX G RL cL_law room_1 Fx 1023 [some (.ref 80), some (.ref 0), some (.ref 50), some (vi zi)] [] K1 N1 I1 (cs + 5) (ss + 89)) : XX G RL cL_law room_1 Fx 275 [some (.ref 80), some (.ref 0), some (.ref 50), some (vi zi)] [] K N I cs ss := by
  have hN := hR.1.1
  have hB := hR.2.1
  have hM := hR.2.2.1
  have hc := hR.2.2.2.1
  have hG := hR.2.2.2.2.1
  have hPB := hR.2.2.2.2.2.1.1
  have hn9 := hB.2.2.1
  by_cases hq : (33 ≤ (xs (i + 1)).toInt ∧ (xs (i + 1)).toInt ≤ 126) ∧ d < 60
  · refine x_aload_n dL_law_275 rfl ?_
    refine x_aload_n dL_law_276 rfl ?_
    refine x_iload_n dL_law_277 rfl ?_
    refine x_iconst dL_law_278 ?_
    refine x_iadd dL_law_279 ?_
    refine x_scld (i + 1) dL_law_280 hX (by omega) (by omega) ?_
    refine xf_VI1 dL_law_281 ml_RL_28 vw_X4_say vv_X4_say rfl (sp_say hN hPB.1 hPB.2.1 xs_inr) ⟨Nat.le_of_ble_eq_true rfl, Nat.le_of_ble_eq_true rfl, (show cs + 0 ≤ 600000 by omega), (show ss + 0 ≤ 7302250 by omega), Nat.le_of_ble_eq_true rfl⟩ ?_
    rw [if_pos hq]
    refine x_aload_n dL_law_284 rfl ?_
    refine x_aload_n dL_law_285 rfl ?_
    refine x_iload_n dL_law_286 rfl ?_
    refine x_iconst dL_law_287 ?_
    refine x_iadd dL_law_288 ?_
    refine x_scld (i + 1) dL_law_289 hX (by omega) (by omega) ?_
    refine xf_VI1 dL_law_290 ml_RL_31 vw_X5_say vv_X5_say rfl (sp_msay hN (show (up (up I 19 d (xs (i + 1)).toInt) 18 1 ((d : Int) + 1)) 50 10 = (d : Int) by rw [up_n1 (by decide), up_n1 (by decide)]; exact hR.PM.1) hPB.2.1 xs_inr) ⟨Nat.le_of_ble_eq_true rfl, Nat.le_of_ble_eq_true rfl, (show cs + 0 ≤ 600000 by omega), (show ss + 0 ≤ 7302250 by omega), Nat.le_of_ble_eq_true rfl⟩ ?_
    rw [if_pos hq]
    refine x_icmp_eqS 1023 dL_law_293 (by decide) ?_
    refine x_widen (k := cs + 5) (n := ss + 89) (by omega) (by omega) (kk _ _ _ _ _ _ ((hR.say (by omega) hq.2 hq.1).mono (by omega)))
  · refine x_aload_n dL_law_275 rfl ?_
    refine x_aload_n dL_law_276 rfl ?_
    refine x_iload_n dL_law_277 rfl ?_
    refine x_iconst dL_law_278 ?_
    refine x_iadd dL_law_279 ?_
    refine x_scld (i + 1) dL_law_280 hX (by omega) (by omega) ?_
    refine xf_VI1 dL_law_281 ml_RL_28 vw_X4_say vv_X4_say rfl (sp_say hN hPB.1 hPB.2.1 xs_inr) ⟨Nat.le_of_ble_eq_true rfl, Nat.le_of_ble_eq_true rfl, (show cs + 0 ≤ 600000 by omega), (show ss + 0 ≤ 7302250 by omega), Nat.le_of_ble_eq_true rfl⟩ ?_
    rw [if_neg hq]
    refine x_aload_n dL_law_284 rfl ?_
    refine x_aload_n dL_law_285 rfl ?_
    refine x_iload_n dL_law_286 rfl ?_
    refine x_iconst dL_law_287 ?_
    refine x_iadd dL_law_288 ?_
    refine x_scld (i + 1) dL_law_289 hX (by omega) (by omega) ?_
    refine xf_VI1 dL_law_290 ml_RL_31 vw_X5_say vv_X5_say rfl (sp_msay hN hR.PM.1 hPB.2.1 xs_inr) ⟨Nat.le_of_ble_eq_true rfl, Nat.le_of_ble_eq_true rfl, (show cs + 0 ≤ 600000 by omega), (show ss + 0 ≤ 7302250 by omega), Nat.le_of_ble_eq_true rfl⟩ ?_
    rw [if_neg hq]
    refine x_icmp_eqS 1023 dL_law_293 (by decide) ?_
    refine x_widen (k := cs + 5) (n := ss + 89) (by omega) (by omega) (kk _ _ _ _ _ _ (hR.mono (by omega)))
theorem lw_c4 {Fx : FxT} {Ln : Nat} {xs : Nat → Int32} (hX : SX G Fx Ln xs) {i : Nat} (hi : i + 6 ≤ Ln) {zi : Int} (hzi : zi = (i : Int)) {P : Int} (hP : 999 ≤ P ∧ P ≤ 980000) (hR : Rel K N I n d s P) {cs ss : Nat} (hcs : cs + 5 ≤ 600000) (hss : ss + 89 ≤ 7302250) (kk : ∀ K1 N1 I1 n1 d1 s1, Rel K1 N1 I1 n1 d1 s1 (P + 540) → XX G RL cL_law room_1 Fx 1023 [some (.ref 80), some (.ref 0), some (.ref 50), some (vi zi)] [] K1 N1 I1 (cs + 5) (ss + 89)) : XX G RL cL_law room_1 Fx 298 [some (.ref 80), some (.ref 0), some (.ref 50), some (vi zi)] [] K N I cs ss := by
  have hN := hR.1.1
  have hB := hR.2.1
  have hM := hR.2.2.1
  have hc := hR.2.2.2.1
  have hG := hR.2.2.2.2.1
  have hPB := hR.2.2.2.2.2.1.1
  have hn9 := hB.2.2.1
  refine x_aload_n dL_law_298 rfl ?_
  refine xf_VI0 dL_law_299 ml_RL_32 vw_X4_wipe vv_X4_wipe rfl (sp_wipe hN) ⟨Nat.le_of_ble_eq_true rfl, Nat.le_of_ble_eq_true rfl, (show cs + 0 ≤ 600000 by omega), (show ss + 0 ≤ 7302250 by omega), Nat.le_of_ble_eq_true rfl⟩ ?_
  rw [hPB.1]
  refine x_aload_n dL_law_302 rfl ?_
  refine xf_VI0 dL_law_303 ml_RL_36 vw_X5_wipe vv_X5_wipe rfl (sp_mwipe hN) ⟨Nat.le_of_ble_eq_true rfl, Nat.le_of_ble_eq_true rfl, (show cs + 0 ≤ 600000 by omega), (show ss + 0 ≤ 7302250 by omega), Nat.le_of_ble_eq_true rfl⟩ ?_
  rw [show up I 18 1 0 50 10 = (d : Int) from (up_n1 (by decide)).trans hR.PM.1]
  refine x_icmp_eqS 1023 dL_law_306 (by decide) ?_
  refine x_widen (k := cs + 5) (n := ss + 89) (by omega) (by omega) (kk _ _ _ _ _ _ ((hR.wipe (by omega)).mono (by omega)))
theorem lw_c22 {Fx : FxT} {Ln : Nat} {xs : Nat → Int32} (hX : SX G Fx Ln xs) {i : Nat} (hi : i + 6 ≤ Ln) {zi : Int} (hzi : zi = (i : Int)) {P : Int} (hP : 999 ≤ P ∧ P ≤ 980000) (hR : Rel K N I n d s P) {cs ss : Nat} (hcs : cs + 5 ≤ 600000) (hss : ss + 89 ≤ 7302250) (kk : ∀ K1 N1 I1 n1 d1 s1, Rel K1 N1 I1 n1 d1 s1 (P + 540) → XX G RL cL_law room_1 Fx 1023 [some (.ref 80), some (.ref 0), some (.ref 50), some (vi zi)] [] K1 N1 I1 (cs + 5) (ss + 89)) : XX G RL cL_law room_1 Fx 732 [some (.ref 80), some (.ref 0), some (.ref 50), some (vi zi)] [] K N I cs ss := by
  have hN := hR.1.1
  have hB := hR.2.1
  have hM := hR.2.2.1
  have hc := hR.2.2.2.1
  have hG := hR.2.2.2.2.1
  have hPB := hR.2.2.2.2.2.1.1
  have hn9 := hB.2.2.1
  refine x_aload_n dL_law_732 rfl ?_
  refine xf_VI0 dL_law_733 ml_RL_105 vw_X4_forget vv_X4_forget rfl (sp_forget hN) ⟨Nat.le_of_ble_eq_true rfl, Nat.le_of_ble_eq_true rfl, (show cs + 0 ≤ 600000 by omega), (show ss + 0 ≤ 7302250 by omega), Nat.le_of_ble_eq_true rfl⟩ ?_
  rw [hG.1]
  refine x_aload_n dL_law_736 rfl ?_
  refine xf_VI0 dL_law_737 ml_RL_108 vw_X5_forget vv_X5_forget rfl (sp_mforget hN) ⟨Nat.le_of_ble_eq_true rfl, Nat.le_of_ble_eq_true rfl, (show cs + 0 ≤ 600000 by omega), (show ss + 0 ≤ 7302250 by omega), Nat.le_of_ble_eq_true rfl⟩ ?_
  rw [show up I 1 2 0 50 8 = (s : Int) from (up_n1 (by decide)).trans hR.SM.1]
  refine x_icmp_eqS 1023 dL_law_740 (by decide) ?_
  refine x_widen (k := cs + 5) (n := ss + 89) (by omega) (by omega) (kk _ _ _ _ _ _ ((hR.forget (by omega)).mono (by omega)))
theorem lw_c21 {Fx : FxT} {Ln : Nat} {xs : Nat → Int32} (hX : SX G Fx Ln xs) {i : Nat} (hi : i + 6 ≤ Ln) {zi : Int} (hzi : zi = (i : Int)) {P : Int} (hP : 999 ≤ P ∧ P ≤ 980000) (hR : Rel K N I n d s P) {cs ss : Nat} (hcs : cs + 5 ≤ 600000) (hss : ss + 89 ≤ 7302250) (kk : ∀ K1 N1 I1 n1 d1 s1, Rel K1 N1 I1 n1 d1 s1 (P + 540) → XX G RL cL_law room_1 Fx 1023 [some (.ref 80), some (.ref 0), some (.ref 50), some (vi zi)] [] K1 N1 I1 (cs + 5) (ss + 89)) : XX G RL cL_law room_1 Fx 699 [some (.ref 80), some (.ref 0), some (.ref 50), some (vi zi)] [] K N I cs ss := by
  have hN := hR.1.1
  have hB := hR.2.1
  have hM := hR.2.2.1
  have hc := hR.2.2.2.1
  have hG := hR.2.2.2.2.1
  have hPB := hR.2.2.2.2.2.1.1
  have hn9 := hB.2.2.1
  by_cases hq : (0 ≤ (xs (i + 1)).toInt ∧ (xs (i + 1)).toInt < n) ∧ (0 ≤ (xs (i + 2)).toInt ∧ (xs (i + 2)).toInt ≤ 9) ∧ s < 8
  · refine x_aload_n dL_law_699 rfl ?_
    refine x_aload_n dL_law_700 rfl ?_
    refine x_iload_n dL_law_701 rfl ?_
    refine x_iconst dL_law_702 ?_
    refine x_iadd dL_law_703 ?_
    refine x_scld (i + 1) dL_law_704 hX (by omega) (by omega) ?_
    refine x_aload_n dL_law_705 rfl ?_
    refine x_iload_n dL_law_706 rfl ?_
    refine x_iconst dL_law_707 ?_
    refine x_iadd dL_law_708 ?_
    refine x_scld (i + 2) dL_law_709 hX (by omega) (by omega) ?_
    refine xf_VI2 dL_law_710 ml_RL_101 vw_X4_seen vv_X4_seen rfl (sp_seen hN hB hG.1 hG.2.1 xs_inr xs_inr) ⟨Nat.le_of_ble_eq_true rfl, Nat.le_of_ble_eq_true rfl, (show cs + 0 ≤ 600000 by omega), (show ss + 0 ≤ 7302250 by omega), Nat.le_of_ble_eq_true rfl⟩ ?_
    rw [if_pos hq]
    have hM1 : RM (up (up (up I 4 s (xs (i + 1)).toInt) 5 s (xs (i + 2)).toInt) 1 2 ((s : Int) + 1)) n := cm_RM hM (fun a k q => by rw [up_n1 (by omega), up_n1 (by omega), up_n1 (by omega)])
    refine x_aload_n dL_law_713 rfl ?_
    refine x_aload_n dL_law_714 rfl ?_
    refine x_iload_n dL_law_715 rfl ?_
    refine x_iconst dL_law_716 ?_
    refine x_iadd dL_law_717 ?_
    refine x_scld (i + 1) dL_law_718 hX (by omega) (by omega) ?_
    refine x_aload_n dL_law_719 rfl ?_
    refine x_iload_n dL_law_720 rfl ?_
    refine x_iconst dL_law_721 ?_
    refine x_iadd dL_law_722 ?_
    refine x_scld (i + 2) dL_law_723 hX (by omega) (by omega) ?_
    refine xf_VI2 dL_law_724 ml_RL_104 vw_X5_seen vv_X5_seen rfl (sp_mseen hN hM1 (show (up (up (up I 4 s (xs (i + 1)).toInt) 5 s (xs (i + 2)).toInt) 1 2 ((s : Int) + 1)) 50 8 = (s : Int) by rw [up_n1 (by decide), up_n1 (by decide), up_n1 (by decide)]; exact hR.SM.1) hG.2.1 xs_inr xs_inr) ⟨Nat.le_of_ble_eq_true rfl, Nat.le_of_ble_eq_true rfl, (show cs + 0 ≤ 600000 by omega), (show ss + 0 ≤ 7302250 by omega), Nat.le_of_ble_eq_true rfl⟩ ?_
    rw [if_pos hq]
    refine x_icmp_eqS 1023 dL_law_727 (by decide) ?_
    refine x_widen (k := cs + 5) (n := ss + 89) (by omega) (by omega) (kk _ _ _ _ _ _ ((hR.seen (by omega) hq.2.2 hq.1 hq.2.1).mono (by omega)))
  · refine x_aload_n dL_law_699 rfl ?_
    refine x_aload_n dL_law_700 rfl ?_
    refine x_iload_n dL_law_701 rfl ?_
    refine x_iconst dL_law_702 ?_
    refine x_iadd dL_law_703 ?_
    refine x_scld (i + 1) dL_law_704 hX (by omega) (by omega) ?_
    refine x_aload_n dL_law_705 rfl ?_
    refine x_iload_n dL_law_706 rfl ?_
    refine x_iconst dL_law_707 ?_
    refine x_iadd dL_law_708 ?_
    refine x_scld (i + 2) dL_law_709 hX (by omega) (by omega) ?_
    refine xf_VI2 dL_law_710 ml_RL_101 vw_X4_seen vv_X4_seen rfl (sp_seen hN hB hG.1 hG.2.1 xs_inr xs_inr) ⟨Nat.le_of_ble_eq_true rfl, Nat.le_of_ble_eq_true rfl, (show cs + 0 ≤ 600000 by omega), (show ss + 0 ≤ 7302250 by omega), Nat.le_of_ble_eq_true rfl⟩ ?_
    rw [if_neg hq]
    refine x_aload_n dL_law_713 rfl ?_
    refine x_aload_n dL_law_714 rfl ?_
    refine x_iload_n dL_law_715 rfl ?_
    refine x_iconst dL_law_716 ?_
    refine x_iadd dL_law_717 ?_
    refine x_scld (i + 1) dL_law_718 hX (by omega) (by omega) ?_
    refine x_aload_n dL_law_719 rfl ?_
    refine x_iload_n dL_law_720 rfl ?_
    refine x_iconst dL_law_721 ?_
    refine x_iadd dL_law_722 ?_
    refine x_scld (i + 2) dL_law_723 hX (by omega) (by omega) ?_
    refine xf_VI2 dL_law_724 ml_RL_104 vw_X5_seen vv_X5_seen rfl (sp_mseen hN hM hR.SM.1 hG.2.1 xs_inr xs_inr) ⟨Nat.le_of_ble_eq_true rfl, Nat.le_of_ble_eq_true rfl, (show cs + 0 ≤ 600000 by omega), (show ss + 0 ≤ 7302250 by omega), Nat.le_of_ble_eq_true rfl⟩ ?_
    rw [if_neg hq]
    refine x_icmp_eqS 1023 dL_law_727 (by decide) ?_
    refine x_widen (k := cs + 5) (n := ss + 89) (by omega) (by omega) (kk _ _ _ _ _ _ (hR.mono (by omega)))
theorem lw_c29 {Fx : FxT} {Ln : Nat} {xs : Nat → Int32} (hX : SX G Fx Ln xs) {i : Nat} (hi : i + 6 ≤ Ln) {zi : Int} (hzi : zi = (i : Int)) {P : Int} (hP : 999 ≤ P ∧ P ≤ 980000) (hR : Rel K N I n d s P) {cs ss : Nat} (hcs : cs + 5 ≤ 600000) (hss : ss + 89 ≤ 7302250) (kk : ∀ K1 N1 I1 n1 d1 s1, Rel K1 N1 I1 n1 d1 s1 (P + 540) → XX G RL cL_law room_1 Fx 1023 [some (.ref 80), some (.ref 0), some (.ref 50), some (vi zi)] [] K1 N1 I1 (cs + 5) (ss + 89)) : XX G RL cL_law room_1 Fx 954 [some (.ref 80), some (.ref 0), some (.ref 50), some (vi zi)] [] K N I cs ss := by
  have hN := hR.1.1
  have hB := hR.2.1
  have hM := hR.2.2.1
  have hc := hR.2.2.2.1
  have hG := hR.2.2.2.2.1
  have hPB := hR.2.2.2.2.2.1.1
  have hn9 := hB.2.2.1
  refine x_aload_n dL_law_954 rfl ?_
  refine x_aload_n dL_law_955 rfl ?_
  refine x_iload_n dL_law_956 rfl ?_
  refine x_iconst dL_law_957 ?_
  refine x_iadd dL_law_958 ?_
  refine x_scld (i + 1) dL_law_959 hX (by omega) (by omega) ?_
  refine x_cVI1 dL_law_960 ml_RL_134 vw_X4_image vv_X4_image rfl (sp_image hN hR.1.2 xs_inr) ⟨Nat.le_of_ble_eq_true rfl, Nat.le_of_ble_eq_true rfl, (show cs + 5 ≤ 600000 by omega), (show ss + 89 ≤ 7302250 by omega), Nat.le_of_ble_eq_true rfl⟩ (fun z1 K1 N1 I1 hq hK1 => ?_)
  have hN1 : NS N1 := by
    rcases hq with ⟨-, -, -, e, -⟩ | ⟨j, -, -, -, h⟩
    · rw [e]; exact hN
    · exact h.1
  refine x_aload_n dL_law_963 rfl ?_
  refine x_aload_n dL_law_964 rfl ?_
  refine x_iload_n dL_law_965 rfl ?_
  refine x_iconst dL_law_966 ?_
  refine x_iadd dL_law_967 ?_
  refine x_scld (i + 1) dL_law_968 hX (by omega) (by omega) ?_
  refine xp_VI1 dL_law_969 ml_RL_137 vw_X5_image vv_X5_image rfl (sp_mimage hN1 xs_inr) ⟨Nat.le_of_ble_eq_true rfl, Nat.le_of_ble_eq_true rfl, (show cs + 5 + 0 ≤ 600000 by omega), (show ss + 89 + 0 ≤ 7302250 by omega), Nat.le_of_ble_eq_true rfl⟩ (fun z2 I2 hq2 => ?_)
  have hfin : z2 = z1 ∧ Rel K1 N1 I2 n d s P := by
    rcases hq with ⟨h1, e1, rfl, rfl, rfl⟩ | ⟨j, hj, h1, e1, him⟩
    · rcases hq2 with ⟨h2, e2, rfl⟩ | ⟨h2, e2, h3⟩
      · exact ⟨by rw [e1, e2], hR⟩
      · exact absurd h2 h1
    · rcases hq2 with ⟨h2, e2, -⟩ | ⟨h2, e2, h3⟩
      · exfalso; omega
      · rw [show (xs (i + 1)).toInt.toNat = j by omega] at h3
        exact ⟨by rw [e1, e2], hR.image hj him h3⟩
  obtain ⟨ez, hRn⟩ := hfin
  subst ez
  refine x_icmp_eqS 1023 dL_law_972 (by decide) ?_
  exact kk _ _ _ _ _ _ (hRn.mono (by omega))
theorem lw_c30 {Fx : FxT} {Ln : Nat} {xs : Nat → Int32} (hX : SX G Fx Ln xs) {i : Nat} (hi : i + 6 ≤ Ln) {zi : Int} (hzi : zi = (i : Int)) {P : Int} (hP : 999 ≤ P ∧ P ≤ 980000) (hR : Rel K N I n d s P) {cs ss : Nat} (hcs : cs + 5 ≤ 600000) (hss : ss + 89 ≤ 7302250) (kk : ∀ K1 N1 I1 n1 d1 s1, Rel K1 N1 I1 n1 d1 s1 (P + 540) → XX G RL cL_law room_1 Fx 1023 [some (.ref 80), some (.ref 0), some (.ref 50), some (vi zi)] [] K1 N1 I1 (cs + 5) (ss + 89)) : XX G RL cL_law room_1 Fx 977 [some (.ref 80), some (.ref 0), some (.ref 50), some (vi zi)] [] K N I cs ss := by
  have hN := hR.1.1
  have hB := hR.2.1
  have hM := hR.2.2.1
  have hc := hR.2.2.2.1
  have hG := hR.2.2.2.2.1
  have hPB := hR.2.2.2.2.2.1.1
  have hn9 := hB.2.2.1
  refine x_aload_n dL_law_977 rfl ?_
  refine x_aload_n dL_law_978 rfl ?_
  refine x_iload_n dL_law_979 rfl ?_
  refine x_iconst dL_law_980 ?_
  refine x_iadd dL_law_981 ?_
  refine x_scld (i + 1) dL_law_982 hX (by omega) (by omega) ?_
  refine xp_VI1 dL_law_983 ml_RL_138 vw_X4_restore vv_X4_restore rfl (sp_restore hN xs_inr) ⟨Nat.le_of_ble_eq_true rfl, Nat.le_of_ble_eq_true rfl, (show cs + 0 ≤ 600000 by omega), (show ss + 0 ≤ 7302250 by omega), Nat.le_of_ble_eq_true rfl⟩ (fun z1 I1 hq => ?_)
  have hb1 : ∀ i, i < 2 → I1 66 i = 0 ∨ I1 66 i = 1 := fun i hi => by
    rcases hq with ⟨-, -, e⟩ | ⟨j, -, -, -, -, e⟩ | ⟨j, -, -, -, -, e⟩
    · rw [e]; exact hR.b66 i hi
    · rw [e]; exact hR.b66 i hi
    · rw [e, cp_o (by omega)]; exact hR.b66 i hi
  refine x_aload_n dL_law_986 rfl ?_
  refine x_aload_n dL_law_987 rfl ?_
  refine x_iload_n dL_law_988 rfl ?_
  refine x_iconst dL_law_989 ?_
  refine x_iadd dL_law_990 ?_
  refine x_scld (i + 1) dL_law_991 hX (by omega) (by omega) ?_
  refine xp_VI1 dL_law_992 ml_RL_141 vw_X5_restore vv_X5_restore rfl (sp_mrestore hN hb1 xs_inr) ⟨Nat.le_of_ble_eq_true rfl, Nat.le_of_ble_eq_true rfl, (show cs + 0 ≤ 600000 by omega), (show ss + 0 ≤ 7302250 by omega), Nat.le_of_ble_eq_true rfl⟩ (fun z2 I2 hq2 => ?_)
  have hfin : z2 = z1 ∧ ∃ n' s', Rel K N I2 n' d s' P := by
    rcases hq with ⟨h1, e1, rfl⟩ | ⟨j, hj, h1, hNj, e1, rfl⟩ | ⟨j, hj, h1, hNj, e1, rfl⟩
    · rcases hq2 with ⟨h2, e2, rfl⟩ | ⟨h2, -, e2, -⟩ | ⟨h2, -, e2, -⟩
      · exact ⟨by rw [e1, e2], n, s, hR⟩
      · exact absurd h2 h1
      · exact absurd h2 h1
    · have h66 : I1 66 j = 0 := by
        rcases hR.2.2.2.2.2.2.2 j hj with q | q
        · exact q.2
        · rw [q.1] at hNj; exact absurd hNj (by decide)
      rw [show (xs (i + 1)).toInt.toNat = j by omega] at hq2
      rcases hq2 with ⟨h2, e2, -⟩ | ⟨h2, -, e2, rfl⟩ | ⟨h2, g2, e2, -⟩
      · exfalso; omega
      · exact ⟨by rw [e1, e2], n, s, hR⟩
      · exfalso; omega
    · obtain ⟨h66, n', s', hIM⟩ : I 66 j = 1 ∧ ∃ n' s', IMe I j n' s' P := by
        rcases hR.2.2.2.2.2.2.2 j hj with q | q
        · rw [q.1] at hNj; exact absurd hNj (by decide)
        · exact q.2
      have h66' : cpR I (36 + 5 * j) 1 66 j = 1 := (cp_o (by omega)).trans h66
      rw [show (xs (i + 1)).toInt.toNat = j by omega] at hq2
      rcases hq2 with ⟨h2, e2, -⟩ | ⟨h2, g2, e2, -⟩ | ⟨h2, g2, e2, h3⟩
      · exfalso; omega
      · exfalso; omega
      · exact ⟨by rw [e1, e2], n', s', hR.restore (by omega) hIM hj h3⟩
  obtain ⟨ez, n9, s9, hRn⟩ := hfin
  subst ez
  refine x_icmp_eqS 1023 dL_law_995 (by decide) ?_
  refine x_widen (k := cs + 5) (n := ss + 89) (by omega) (by omega) (kk _ _ _ _ _ _ (hRn.mono (by omega)))
end FR

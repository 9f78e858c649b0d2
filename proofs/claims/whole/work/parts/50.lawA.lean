/-! ===== the law: the script, one answer against the other, and calls that only ask ===== -/
/-- the script, cell 80 -/
def SX (G : GT) (Fx : FxT) (Ln : Nat) (xs : Nat → Int32) : Prop := match Fx with
  | (p, e, s, m, args, below, meth, c, Q, nL, a0, K0) => va_X (G.2.2.1 10) Ln xs s s.heap ∧ G.2.2.1 10 < s.heap.size ∧ ¬ Ab G (G.2.2.1 10) ∧ Ln ≤ 3072
theorem xs_vi {x : Int32} : Value.int x = vi x.toInt := by unfold vi; rw [Int32.ofInt_toInt]
theorem xs_inr {x : Int32} : inr x.toInt := by
  have h1 := Int32.le_toInt x
  have h2 := Int32.toInt_lt x
  unfold inr
  omega
theorem and31 (x : Int32) : 0 ≤ (x &&& Int32.ofInt 31).toInt ∧ (x &&& Int32.ofInt 31).toInt ≤ 31 := by
  have h : (x &&& Int32.ofInt 31).toBitVec.toNat ≤ 31 := by
    rw [Int32.toBitVec_and, BitVec.toNat_and]; exact Nat.and_le_right
  rw [← Int32.toInt_toBitVec, BitVec.toInt_eq_toNat_cond]
  split <;> omega
section FR
variable {G : GT} {own : String} {cc : ByteArray} {R : Room} {Fx : FxT} {pc : Nat} {L : List (Option Value)} {S : List Value} {K : List Nat} {N : NN} {I : MM} {cs ss : Nat}
theorem x_scld {z : Int} {Ln : Nat} {xs : Nat → Int32} (j : Nat) (hd : decode cc pc = .ok (.iaload, 1)) (hX : SX G Fx Ln xs) (hz : z = (j : Int)) (hj : j < Ln) (h : XX G own cc R Fx (pc + 1) L (vi (xs j).toInt :: S) K N I cs ss) : XX G own cc R Fx pc L (vi z :: .ref 80 :: S) K N I cs ss := by
  obtain ⟨p, e, s, m, args, below, meth, c, Q, nL, a0, K0⟩ := Fx
  intro ok al H locs ls st
  obtain ⟨hx, hb, hml, hown, hts, hE, hA⟩ := id ok
  obtain ⟨h1, h2, h3, h4⟩ := hX
  subst hz
  have k1 := h ok al H locs ls (st.to (fun q => q.tail.tail.cons trivial))
  have e : (F0 m pc ls (List.map (gm al) (vi j :: .ref 80 :: S))) = F0 m pc ls (.int (Int32.ofInt j) :: .ref (G.2.2.1 10) :: S.map (gm al)) := by rw [← st.1.2.2.1 10]; rfl
  rw [e]
  refine va_sld hx hb h1 h2 h3 st.2.1 (oi_in hj (by omega)) hd ?_
  rw [oi_clamp (by omega), xs_vi]
  exact k1
theorem x_sclen {Ln : Nat} {xs : Nat → Int32} (hd : decode cc pc = .ok (.arraylength, 1)) (hX : SX G Fx Ln xs) (h : XX G own cc R Fx (pc + 1) L (vi Ln :: S) K N I cs ss) : XX G own cc R Fx pc L (.ref 80 :: S) K N I cs ss := by
  obtain ⟨p, e, s, m, args, below, meth, c, Q, nL, a0, K0⟩ := Fx
  intro ok al H locs ls st
  obtain ⟨hx, hb, hml, hown, hts, hE, hA⟩ := id ok
  obtain ⟨h1, h2, h3, h4⟩ := hX
  have k1 := h ok al H locs ls (st.to (fun q => q.tail.cons trivial))
  have e : (F0 m pc ls (List.map (gm al) (.ref 80 :: S))) = F0 m pc ls (.ref (G.2.2.1 10) :: S.map (gm al)) := by rw [← st.1.2.2.1 10]; rfl
  rw [e]
  exact va_slen hx hb h1 h2 h3 st.2.1 hd k1
theorem x_icmp_eqS {a : Int} {off : Int} (tgt : Nat) (hd : decode cc pc = .ok (.if_icmp .eq off, 3)) (ht : (pc : Int) + off = (tgt : Int)) (kt : XX G own cc R Fx tgt L S K N I cs ss) : XX G own cc R Fx pc L (vi a :: vi a :: S) K N I cs ss := by
  obtain ⟨p, e, s, m, args, below, meth, c, Q, nL, a0, K0⟩ := Fx
  intro ok al H locs ls st
  obtain ⟨hx, hb, hml, hown, hts, hE, hA⟩ := id ok
  exact lv_icmp_eq hx hb hd ht (fun q => kt ok al H locs ls (st.to (fun q => q.tail.tail))) (fun q => absurd rfl q)
theorem x_lcmpS {a : Int} (hd : decode cc pc = .ok (.lcmp, 1)) (h : XX G own cc R Fx (pc + 1) L (vi 0 :: S) K N I cs ss) : XX G own cc R Fx pc L (vl a :: vl a :: S) K N I cs ss := by
  obtain ⟨p, e, s, m, args, below, meth, c, Q, nL, a0, K0⟩ := Fx
  intro ok al H locs ls st
  obtain ⟨hx, hb, hml, hown, hts, hE, hA⟩ := id ok
  have k := h ok al H locs ls (st.to (fun q => q.tail.tail.cons trivial))
  refine W.lcmp hx hb hd ?_
  have e : lg_cmp (Int64.ofInt a) (Int64.ofInt a) = Int32.ofInt 0 := by
    unfold lg_cmp
    have n1 : ¬ Int64.ofInt a < Int64.ofInt a := fun z => by
      rw [Int64.lt_iff_toInt_lt] at z; omega
    first
    | (rw [if_neg n1, if_neg n1]; rfl)
    | simp [n1]
  rw [e]; exact k
end FR
section FR
variable {G : GT} {K : List Nat} {N : NN} {I : MM} {n d s : Nat}
theorem lw_c11 {Fx : FxT} {Ln : Nat} {xs : Nat → Int32} (hX : SX G Fx Ln xs) {i : Nat} (hi : i + 6 ≤ Ln) {zi : Int} (hzi : zi = (i : Int)) {P : Int} (hP : 999 ≤ P ∧ P ≤ 980000) (hR : Rel K N I n d s P) {cs ss : Nat} (hcs : cs + 5 ≤ 600000) (hss : ss + 89 ≤ 7302250) (kk : ∀ K1 N1 I1 n1 d1 s1, Rel K1 N1 I1 n1 d1 s1 (P + 540) → XX G RL cL_law room_1 Fx 1023 [some (.ref 80), some (.ref 0), some (.ref 50), some (vi zi)] [] K1 N1 I1 (cs + 5) (ss + 89)) : XX G RL cL_law room_1 Fx 429 [some (.ref 80), some (.ref 0), some (.ref 50), some (vi zi)] [] K N I cs ss := by
  have hN := hR.1.1
  have hB := hR.2.1
  have hM := hR.2.2.1
  have hc := hR.2.2.2.1
  have hG := hR.2.2.2.2.1
  have hPB := hR.2.2.2.2.2.1.1
  have hn9 := hB.2.2.1
  refine x_aload_n dL_law_429 rfl ?_
  refine x_aload_n dL_law_430 rfl ?_
  refine x_iload_n dL_law_431 rfl ?_
  refine x_iconst dL_law_432 ?_
  refine x_iadd dL_law_433 ?_
  refine x_scld (i + 1) dL_law_434 hX (by omega) (by omega) ?_
  refine x_aload_n dL_law_435 rfl ?_
  refine x_iload_n dL_law_436 rfl ?_
  refine x_iconst dL_law_437 ?_
  refine x_iadd dL_law_438 ?_
  refine x_scld (i + 2) dL_law_439 hX (by omega) (by omega) ?_
  refine xp_VI2 dL_law_440 ml_RL_61 vw_X4_takes vv_X4_takes rfl (sp_takes hN hB xs_inr xs_inr) ⟨Nat.le_of_ble_eq_true rfl, Nat.le_of_ble_eq_true rfl, (show cs + 0 ≤ 600000 by omega), (show ss + 0 ≤ 7302250 by omega), Nat.le_of_ble_eq_true rfl⟩ (fun z1 I1 hq => ?_)
  obtain ⟨hz, hkC⟩ := hq
  rw [hc.1, hc.l0] at hz
  have hM1 := (hR.mid hkC).2.2.1
  have hN1 := hN
  refine x_aload_n dL_law_443 rfl ?_
  refine x_aload_n dL_law_444 rfl ?_
  refine x_iload_n dL_law_445 rfl ?_
  refine x_iconst dL_law_446 ?_
  refine x_iadd dL_law_447 ?_
  refine x_scld (i + 1) dL_law_448 hX (by omega) (by omega) ?_
  refine x_aload_n dL_law_449 rfl ?_
  refine x_iload_n dL_law_450 rfl ?_
  refine x_iconst dL_law_451 ?_
  refine x_iadd dL_law_452 ?_
  refine x_scld (i + 2) dL_law_453 hX (by omega) (by omega) ?_
  refine xp_VI2 dL_law_454 ml_RL_64 vw_X5_takes vv_X5_takes rfl (sp_mtakes hN hM1 xs_inr xs_inr) ⟨Nat.le_of_ble_eq_true rfl, Nat.le_of_ble_eq_true rfl, (show cs + 0 ≤ 600000 by omega), (show ss + 0 ≤ 7302250 by omega), Nat.le_of_ble_eq_true rfl⟩ (fun z2 I2 hq => ?_)
  obtain ⟨hz2, hkM⟩ := hq
  rw [hkC.fm, hkC.l0M] at hz2
  obtain rfl : z2 = z1 := hz2.trans hz.symm
  refine x_icmp_eqS 1023 dL_law_457 (by decide) ?_
  refine x_widen (k := cs + 5) (n := ss + 89) (by omega) (by omega) (kk _ _ _ _ _ _ ((hR.both hkC hkM).mono (by omega)))
theorem lw_c12 {Fx : FxT} {Ln : Nat} {xs : Nat → Int32} (hX : SX G Fx Ln xs) {i : Nat} (hi : i + 6 ≤ Ln) {zi : Int} (hzi : zi = (i : Int)) {P : Int} (hP : 999 ≤ P ∧ P ≤ 980000) (hR : Rel K N I n d s P) {cs ss : Nat} (hcs : cs + 5 ≤ 600000) (hss : ss + 89 ≤ 7302250) (kk : ∀ K1 N1 I1 n1 d1 s1, Rel K1 N1 I1 n1 d1 s1 (P + 540) → XX G RL cL_law room_1 Fx 1023 [some (.ref 80), some (.ref 0), some (.ref 50), some (vi zi)] [] K1 N1 I1 (cs + 5) (ss + 89)) : XX G RL cL_law room_1 Fx 462 [some (.ref 80), some (.ref 0), some (.ref 50), some (vi zi)] [] K N I cs ss := by
  have hN := hR.1.1
  have hB := hR.2.1
  have hM := hR.2.2.1
  have hc := hR.2.2.2.1
  have hG := hR.2.2.2.2.1
  have hPB := hR.2.2.2.2.2.1.1
  have hn9 := hB.2.2.1
  refine x_aload_n dL_law_462 rfl ?_
  refine x_aload_n dL_law_463 rfl ?_
  refine x_iload_n dL_law_464 rfl ?_
  refine x_iconst dL_law_465 ?_
  refine x_iadd dL_law_466 ?_
  refine x_scld (i + 1) dL_law_467 hX (by omega) (by omega) ?_
  refine x_aload_n dL_law_468 rfl ?_
  refine x_iload_n dL_law_469 rfl ?_
  refine x_iconst dL_law_470 ?_
  refine x_iadd dL_law_471 ?_
  refine x_scld (i + 2) dL_law_472 hX (by omega) (by omega) ?_
  refine xp_VI2 dL_law_473 ml_RL_65 vw_X4_takesIf vv_X4_takesIf rfl (sp_takesIf hN hB xs_inr xs_inr) ⟨Nat.le_of_ble_eq_true rfl, Nat.le_of_ble_eq_true rfl, (show cs + 0 ≤ 600000 by omega), (show ss + 0 ≤ 7302250 by omega), Nat.le_of_ble_eq_true rfl⟩ (fun z1 I1 hq => ?_)
  obtain ⟨hz, hkC⟩ := hq
  rw [hc.1, hc.l0] at hz
  have hM1 := (hR.mid hkC).2.2.1
  have hN1 := hN
  refine x_aload_n dL_law_476 rfl ?_
  refine x_aload_n dL_law_477 rfl ?_
  refine x_iload_n dL_law_478 rfl ?_
  refine x_iconst dL_law_479 ?_
  refine x_iadd dL_law_480 ?_
  refine x_scld (i + 1) dL_law_481 hX (by omega) (by omega) ?_
  refine x_aload_n dL_law_482 rfl ?_
  refine x_iload_n dL_law_483 rfl ?_
  refine x_iconst dL_law_484 ?_
  refine x_iadd dL_law_485 ?_
  refine x_scld (i + 2) dL_law_486 hX (by omega) (by omega) ?_
  refine xp_VI2 dL_law_487 ml_RL_68 vw_X5_takesIf vv_X5_takesIf rfl (sp_mtakesIf hN hM1 xs_inr xs_inr) ⟨Nat.le_of_ble_eq_true rfl, Nat.le_of_ble_eq_true rfl, (show cs + 0 ≤ 600000 by omega), (show ss + 0 ≤ 7302250 by omega), Nat.le_of_ble_eq_true rfl⟩ (fun z2 I2 hq => ?_)
  obtain ⟨hz2, hkM⟩ := hq
  rw [hkC.fm, hkC.l0M] at hz2
  obtain rfl : z2 = z1 := hz2.trans hz.symm
  refine x_icmp_eqS 1023 dL_law_490 (by decide) ?_
  refine x_widen (k := cs + 5) (n := ss + 89) (by omega) (by omega) (kk _ _ _ _ _ _ ((hR.both hkC hkM).mono (by omega)))
theorem lw_c13 {Fx : FxT} {Ln : Nat} {xs : Nat → Int32} (hX : SX G Fx Ln xs) {i : Nat} (hi : i + 6 ≤ Ln) {zi : Int} (hzi : zi = (i : Int)) {P : Int} (hP : 999 ≤ P ∧ P ≤ 980000) (hR : Rel K N I n d s P) {cs ss : Nat} (hcs : cs + 5 ≤ 600000) (hss : ss + 89 ≤ 7302250) (kk : ∀ K1 N1 I1 n1 d1 s1, Rel K1 N1 I1 n1 d1 s1 (P + 540) → XX G RL cL_law room_1 Fx 1023 [some (.ref 80), some (.ref 0), some (.ref 50), some (vi zi)] [] K1 N1 I1 (cs + 5) (ss + 89)) : XX G RL cL_law room_1 Fx 495 [some (.ref 80), some (.ref 0), some (.ref 50), some (vi zi)] [] K N I cs ss := by
  have hN := hR.1.1
  have hB := hR.2.1
  have hM := hR.2.2.1
  have hc := hR.2.2.2.1
  have hG := hR.2.2.2.2.1
  have hPB := hR.2.2.2.2.2.1.1
  have hn9 := hB.2.2.1
  refine x_aload_n dL_law_495 rfl ?_
  refine x_aload_n dL_law_496 rfl ?_
  refine x_iload_n dL_law_497 rfl ?_
  refine x_iconst dL_law_498 ?_
  refine x_iadd dL_law_499 ?_
  refine x_scld (i + 1) dL_law_500 hX (by omega) (by omega) ?_
  refine xp_VI1 dL_law_501 ml_RL_69 vw_X4_robbed vv_X4_robbed rfl (sp_robbed hN hB xs_inr) ⟨Nat.le_of_ble_eq_true rfl, Nat.le_of_ble_eq_true rfl, (show cs + 0 ≤ 600000 by omega), (show ss + 0 ≤ 7302250 by omega), Nat.le_of_ble_eq_true rfl⟩ (fun z1 I1 hq => ?_)
  obtain ⟨hz, hkC⟩ := hq
  rw [hc.1, hc.l0] at hz
  have hM1 := (hR.mid hkC).2.2.1
  have hN1 := hN
  refine x_aload_n dL_law_504 rfl ?_
  refine x_aload_n dL_law_505 rfl ?_
  refine x_iload_n dL_law_506 rfl ?_
  refine x_iconst dL_law_507 ?_
  refine x_iadd dL_law_508 ?_
  refine x_scld (i + 1) dL_law_509 hX (by omega) (by omega) ?_
  refine xp_VI1 dL_law_510 ml_RL_72 vw_X5_robbed vv_X5_robbed rfl (sp_mrobbed hN hM1 xs_inr) ⟨Nat.le_of_ble_eq_true rfl, Nat.le_of_ble_eq_true rfl, (show cs + 0 ≤ 600000 by omega), (show ss + 0 ≤ 7302250 by omega), Nat.le_of_ble_eq_true rfl⟩ (fun z2 I2 hq => ?_)
  obtain ⟨hz2, hkM⟩ := hq
  rw [hkC.fm, hkC.l0M] at hz2
  obtain rfl : z2 = z1 := hz2.trans hz.symm
  refine x_icmp_eqS 1023 dL_law_513 (by decide) ?_
  refine x_widen (k := cs + 5) (n := ss + 89) (by omega) (by omega) (kk _ _ _ _ _ _ ((hR.both hkC hkM).mono (by omega)))
theorem lw_c15 {Fx : FxT} {Ln : Nat} {xs : Nat → Int32} (hX : SX G Fx Ln xs) {i : Nat} (hi : i + 6 ≤ Ln) {zi : Int} (hzi : zi = (i : Int)) {P : Int} (hP : 999 ≤ P ∧ P ≤ 980000) (hR : Rel K N I n d s P) {cs ss : Nat} (hcs : cs + 5 ≤ 600000) (hss : ss + 89 ≤ 7302250) (kk : ∀ K1 N1 I1 n1 d1 s1, Rel K1 N1 I1 n1 d1 s1 (P + 540) → XX G RL cL_law room_1 Fx 1023 [some (.ref 80), some (.ref 0), some (.ref 50), some (vi zi)] [] K1 N1 I1 (cs + 5) (ss + 89)) : XX G RL cL_law room_1 Fx 531 [some (.ref 80), some (.ref 0), some (.ref 50), some (vi zi)] [] K N I cs ss := by
  have hN := hR.1.1
  have hB := hR.2.1
  have hM := hR.2.2.1
  have hc := hR.2.2.2.1
  have hG := hR.2.2.2.2.1
  have hPB := hR.2.2.2.2.2.1.1
  have hn9 := hB.2.2.1
  refine x_aload_n dL_law_531 rfl ?_
  refine x_aload_n dL_law_532 rfl ?_
  refine x_iload_n dL_law_533 rfl ?_
  refine x_iconst dL_law_534 ?_
  refine x_iadd dL_law_535 ?_
  refine x_scld (i + 1) dL_law_536 hX (by omega) (by omega) ?_
  refine xp_VI1 dL_law_537 ml_RL_77 vw_X4_spring vv_X4_spring rfl (sp_spring hN hB xs_inr) ⟨Nat.le_of_ble_eq_true rfl, Nat.le_of_ble_eq_true rfl, (show cs + 0 ≤ 600000 by omega), (show ss + 0 ≤ 7302250 by omega), Nat.le_of_ble_eq_true rfl⟩ (fun z1 I1 hq => ?_)
  obtain ⟨hz, hkC⟩ := hq
  rw [hc.1] at hz
  have hM1 := (hR.mid hkC).2.2.1
  have hN1 := hN
  refine x_aload_n dL_law_540 rfl ?_
  refine x_aload_n dL_law_541 rfl ?_
  refine x_iload_n dL_law_542 rfl ?_
  refine x_iconst dL_law_543 ?_
  refine x_iadd dL_law_544 ?_
  refine x_scld (i + 1) dL_law_545 hX (by omega) (by omega) ?_
  refine xp_VI1 dL_law_546 ml_RL_80 vw_X5_spring vv_X5_spring rfl (sp_mspring hN hM1 xs_inr) ⟨Nat.le_of_ble_eq_true rfl, Nat.le_of_ble_eq_true rfl, (show cs + 0 ≤ 600000 by omega), (show ss + 0 ≤ 7302250 by omega), Nat.le_of_ble_eq_true rfl⟩ (fun z2 I2 hq => ?_)
  obtain ⟨hz2, hkM⟩ := hq
  rw [hkC.fm] at hz2
  obtain rfl : z2 = z1 := hz2.trans hz.symm
  refine x_icmp_eqS 1023 dL_law_549 (by decide) ?_
  refine x_widen (k := cs + 5) (n := ss + 89) (by omega) (by omega) (kk _ _ _ _ _ _ ((hR.both hkC hkM).mono (by omega)))
theorem lw_c16 {Fx : FxT} {Ln : Nat} {xs : Nat → Int32} (hX : SX G Fx Ln xs) {i : Nat} (hi : i + 6 ≤ Ln) {zi : Int} (hzi : zi = (i : Int)) {P : Int} (hP : 999 ≤ P ∧ P ≤ 980000) (hR : Rel K N I n d s P) {cs ss : Nat} (hcs : cs + 5 ≤ 600000) (hss : ss + 89 ≤ 7302250) (kk : ∀ K1 N1 I1 n1 d1 s1, Rel K1 N1 I1 n1 d1 s1 (P + 540) → XX G RL cL_law room_1 Fx 1023 [some (.ref 80), some (.ref 0), some (.ref 50), some (vi zi)] [] K1 N1 I1 (cs + 5) (ss + 89)) : XX G RL cL_law room_1 Fx 554 [some (.ref 80), some (.ref 0), some (.ref 50), some (vi zi)] [] K N I cs ss := by
  have hN := hR.1.1
  have hB := hR.2.1
  have hM := hR.2.2.1
  have hc := hR.2.2.2.1
  have hG := hR.2.2.2.2.1
  have hPB := hR.2.2.2.2.2.1.1
  have hn9 := hB.2.2.1
  refine x_aload_n dL_law_554 rfl ?_
  refine x_aload_n dL_law_555 rfl ?_
  refine x_iload_n dL_law_556 rfl ?_
  refine x_iconst dL_law_557 ?_
  refine x_iadd dL_law_558 ?_
  refine x_scld (i + 1) dL_law_559 hX (by omega) (by omega) ?_
  refine x_aload_n dL_law_560 rfl ?_
  refine x_iload_n dL_law_561 rfl ?_
  refine x_iconst dL_law_562 ?_
  refine x_iadd dL_law_563 ?_
  refine x_scld (i + 2) dL_law_564 hX (by omega) (by omega) ?_
  refine xp_VI2 dL_law_565 ml_RL_81 vw_X4_narrow vv_X4_narrow rfl (sp_narrow hN hB xs_inr xs_inr) ⟨Nat.le_of_ble_eq_true rfl, Nat.le_of_ble_eq_true rfl, (show cs + 0 ≤ 600000 by omega), (show ss + 0 ≤ 7302250 by omega), Nat.le_of_ble_eq_true rfl⟩ (fun z1 I1 hq => ?_)
  obtain ⟨hz, hkC⟩ := hq
  rw [hc.1, hc.l0] at hz
  have hM1 := (hR.mid hkC).2.2.1
  have hN1 := hN
  refine x_aload_n dL_law_568 rfl ?_
  refine x_aload_n dL_law_569 rfl ?_
  refine x_iload_n dL_law_570 rfl ?_
  refine x_iconst dL_law_571 ?_
  refine x_iadd dL_law_572 ?_
  refine x_scld (i + 1) dL_law_573 hX (by omega) (by omega) ?_
  refine x_aload_n dL_law_574 rfl ?_
  refine x_iload_n dL_law_575 rfl ?_
  refine x_iconst dL_law_576 ?_
  refine x_iadd dL_law_577 ?_
  refine x_scld (i + 2) dL_law_578 hX (by omega) (by omega) ?_
  refine xp_VI2 dL_law_579 ml_RL_84 vw_X5_narrow vv_X5_narrow rfl (sp_mnarrow hN hM1 xs_inr xs_inr) ⟨Nat.le_of_ble_eq_true rfl, Nat.le_of_ble_eq_true rfl, (show cs + 0 ≤ 600000 by omega), (show ss + 0 ≤ 7302250 by omega), Nat.le_of_ble_eq_true rfl⟩ (fun z2 I2 hq => ?_)
  obtain ⟨hz2, hkM⟩ := hq
  rw [hkC.fm, hkC.l0M] at hz2
  obtain rfl : z2 = z1 := hz2.trans hz.symm
  refine x_icmp_eqS 1023 dL_law_582 (by decide) ?_
  refine x_widen (k := cs + 5) (n := ss + 89) (by omega) (by omega) (kk _ _ _ _ _ _ ((hR.both hkC hkM).mono (by omega)))
theorem lw_c17 {Fx : FxT} {Ln : Nat} {xs : Nat → Int32} (hX : SX G Fx Ln xs) {i : Nat} (hi : i + 6 ≤ Ln) {zi : Int} (hzi : zi = (i : Int)) {P : Int} (hP : 999 ≤ P ∧ P ≤ 980000) (hR : Rel K N I n d s P) {cs ss : Nat} (hcs : cs + 5 ≤ 600000) (hss : ss + 89 ≤ 7302250) (kk : ∀ K1 N1 I1 n1 d1 s1, Rel K1 N1 I1 n1 d1 s1 (P + 540) → XX G RL cL_law room_1 Fx 1023 [some (.ref 80), some (.ref 0), some (.ref 50), some (vi zi)] [] K1 N1 I1 (cs + 5) (ss + 89)) : XX G RL cL_law room_1 Fx 587 [some (.ref 80), some (.ref 0), some (.ref 50), some (vi zi)] [] K N I cs ss := by
  have hN := hR.1.1
  have hB := hR.2.1
  have hM := hR.2.2.1
  have hc := hR.2.2.2.1
  have hG := hR.2.2.2.2.1
  have hPB := hR.2.2.2.2.2.1.1
  have hn9 := hB.2.2.1
  refine x_aload_n dL_law_587 rfl ?_
  refine x_aload_n dL_law_588 rfl ?_
  refine x_iload_n dL_law_589 rfl ?_
  refine x_iconst dL_law_590 ?_
  refine x_iadd dL_law_591 ?_
  refine x_scld (i + 1) dL_law_592 hX (by omega) (by omega) ?_
  refine x_aload_n dL_law_593 rfl ?_
  refine x_iload_n dL_law_594 rfl ?_
  refine x_iconst dL_law_595 ?_
  refine x_iadd dL_law_596 ?_
  refine x_scld (i + 2) dL_law_597 hX (by omega) (by omega) ?_
  refine xp_VI2 dL_law_598 ml_RL_85 vw_X4_highest vv_X4_highest rfl (sp_highest hN hB xs_inr xs_inr) ⟨Nat.le_of_ble_eq_true rfl, Nat.le_of_ble_eq_true rfl, (show cs + 0 ≤ 600000 by omega), (show ss + 0 ≤ 7302250 by omega), Nat.le_of_ble_eq_true rfl⟩ (fun z1 I1 hq => ?_)
  obtain ⟨hz, hkC⟩ := hq
  rw [hc.1, hc.l0] at hz
  have hM1 := (hR.mid hkC).2.2.1
  have hN1 := hN
  refine x_aload_n dL_law_601 rfl ?_
  refine x_aload_n dL_law_602 rfl ?_
  refine x_iload_n dL_law_603 rfl ?_
  refine x_iconst dL_law_604 ?_
  refine x_iadd dL_law_605 ?_
  refine x_scld (i + 1) dL_law_606 hX (by omega) (by omega) ?_
  refine x_aload_n dL_law_607 rfl ?_
  refine x_iload_n dL_law_608 rfl ?_
  refine x_iconst dL_law_609 ?_
  refine x_iadd dL_law_610 ?_
  refine x_scld (i + 2) dL_law_611 hX (by omega) (by omega) ?_
  refine xp_VI2 dL_law_612 ml_RL_88 vw_X5_highest vv_X5_highest rfl (sp_mhighest hN hM1 xs_inr xs_inr) ⟨Nat.le_of_ble_eq_true rfl, Nat.le_of_ble_eq_true rfl, (show cs + 0 ≤ 600000 by omega), (show ss + 0 ≤ 7302250 by omega), Nat.le_of_ble_eq_true rfl⟩ (fun z2 I2 hq => ?_)
  obtain ⟨hz2, hkM⟩ := hq
  rw [hkC.fm, hkC.l0M] at hz2
  obtain rfl : z2 = z1 := hz2.trans hz.symm
  refine x_icmp_eqS 1023 dL_law_615 (by decide) ?_
  refine x_widen (k := cs + 5) (n := ss + 89) (by omega) (by omega) (kk _ _ _ _ _ _ ((hR.both hkC hkM).mono (by omega)))
theorem lw_c18 {Fx : FxT} {Ln : Nat} {xs : Nat → Int32} (hX : SX G Fx Ln xs) {i : Nat} (hi : i + 6 ≤ Ln) {zi : Int} (hzi : zi = (i : Int)) {P : Int} (hP : 999 ≤ P ∧ P ≤ 980000) (hR : Rel K N I n d s P) {cs ss : Nat} (hcs : cs + 5 ≤ 600000) (hss : ss + 89 ≤ 7302250) (kk : ∀ K1 N1 I1 n1 d1 s1, Rel K1 N1 I1 n1 d1 s1 (P + 540) → XX G RL cL_law room_1 Fx 1023 [some (.ref 80), some (.ref 0), some (.ref 50), some (vi zi)] [] K1 N1 I1 (cs + 5) (ss + 89)) : XX G RL cL_law room_1 Fx 620 [some (.ref 80), some (.ref 0), some (.ref 50), some (vi zi)] [] K N I cs ss := by
  have hN := hR.1.1
  have hB := hR.2.1
  have hM := hR.2.2.1
  have hc := hR.2.2.2.1
  have hG := hR.2.2.2.2.1
  have hPB := hR.2.2.2.2.2.1.1
  have hn9 := hB.2.2.1
  refine x_aload_n dL_law_620 rfl ?_
  refine x_aload_n dL_law_621 rfl ?_
  refine x_iload_n dL_law_622 rfl ?_
  refine x_iconst dL_law_623 ?_
  refine x_iadd dL_law_624 ?_
  refine x_scld (i + 1) dL_law_625 hX (by omega) (by omega) ?_
  refine x_aload_n dL_law_626 rfl ?_
  refine x_iload_n dL_law_627 rfl ?_
  refine x_iconst dL_law_628 ?_
  refine x_iadd dL_law_629 ?_
  refine x_scld (i + 2) dL_law_630 hX (by omega) (by omega) ?_
  refine x_aload_n dL_law_631 rfl ?_
  refine x_iload_n dL_law_632 rfl ?_
  refine x_iconst dL_law_633 ?_
  refine x_iadd dL_law_634 ?_
  refine x_scld (i + 3) dL_law_635 hX (by omega) (by omega) ?_
  refine xp_VI3 dL_law_636 ml_RL_89 vw_X4_bored vv_X4_bored rfl (sp_bored hN hB xs_inr xs_inr xs_inr) ⟨Nat.le_of_ble_eq_true rfl, Nat.le_of_ble_eq_true rfl, (show cs + 0 ≤ 600000 by omega), (show ss + 0 ≤ 7302250 by omega), Nat.le_of_ble_eq_true rfl⟩ (fun z1 I1 hq => ?_)
  obtain ⟨hz, hkC⟩ := hq
  rw [hc.1, hc.l0] at hz
  have hM1 := (hR.mid hkC).2.2.1
  have hN1 := hN
  refine x_aload_n dL_law_639 rfl ?_
  refine x_aload_n dL_law_640 rfl ?_
  refine x_iload_n dL_law_641 rfl ?_
  refine x_iconst dL_law_642 ?_
  refine x_iadd dL_law_643 ?_
  refine x_scld (i + 1) dL_law_644 hX (by omega) (by omega) ?_
  refine x_aload_n dL_law_645 rfl ?_
  refine x_iload_n dL_law_646 rfl ?_
  refine x_iconst dL_law_647 ?_
  refine x_iadd dL_law_648 ?_
  refine x_scld (i + 2) dL_law_649 hX (by omega) (by omega) ?_
  refine x_aload_n dL_law_650 rfl ?_
  refine x_iload_n dL_law_651 rfl ?_
  refine x_iconst dL_law_652 ?_
  refine x_iadd dL_law_653 ?_
  refine x_scld (i + 3) dL_law_654 hX (by omega) (by omega) ?_
  refine xp_VI3 dL_law_655 ml_RL_92 vw_X5_bored vv_X5_bored rfl (sp_mbored hN hM1 xs_inr xs_inr xs_inr) ⟨Nat.le_of_ble_eq_true rfl, Nat.le_of_ble_eq_true rfl, (show cs + 0 ≤ 600000 by omega), (show ss + 0 ≤ 7302250 by omega), Nat.le_of_ble_eq_true rfl⟩ (fun z2 I2 hq => ?_)
  obtain ⟨hz2, hkM⟩ := hq
  rw [hkC.fm, hkC.l0M] at hz2
  obtain rfl : z2 = z1 := hz2.trans hz.symm
  refine x_icmp_eqS 1023 dL_law_658 (by decide) ?_
  refine x_widen (k := cs + 5) (n := ss + 89) (by omega) (by omega) (kk _ _ _ _ _ _ ((hR.both hkC hkM).mono (by omega)))
theorem lw_c20 {Fx : FxT} {Ln : Nat} {xs : Nat → Int32} (hX : SX G Fx Ln xs) {i : Nat} (hi : i + 6 ≤ Ln) {zi : Int} (hzi : zi = (i : Int)) {P : Int} (hP : 999 ≤ P ∧ P ≤ 980000) (hR : Rel K N I n d s P) {cs ss : Nat} (hcs : cs + 5 ≤ 600000) (hss : ss + 89 ≤ 7302250) (kk : ∀ K1 N1 I1 n1 d1 s1, Rel K1 N1 I1 n1 d1 s1 (P + 540) → XX G RL cL_law room_1 Fx 1023 [some (.ref 80), some (.ref 0), some (.ref 50), some (vi zi)] [] K1 N1 I1 (cs + 5) (ss + 89)) : XX G RL cL_law room_1 Fx 676 [some (.ref 80), some (.ref 0), some (.ref 50), some (vi zi)] [] K N I cs ss := by
  have hN := hR.1.1
  have hB := hR.2.1
  have hM := hR.2.2.1
  have hc := hR.2.2.2.1
  have hG := hR.2.2.2.2.1
  have hPB := hR.2.2.2.2.2.1.1
  have hn9 := hB.2.2.1
  refine x_aload_n dL_law_676 rfl ?_
  refine x_aload_n dL_law_677 rfl ?_
  refine x_iload_n dL_law_678 rfl ?_
  refine x_iconst dL_law_679 ?_
  refine x_iadd dL_law_680 ?_
  refine x_scld (i + 1) dL_law_681 hX (by omega) (by omega) ?_
  refine xp_VI1 dL_law_682 ml_RL_97 vw_X4_dry vv_X4_dry rfl (sp_dry hN hB xs_inr) ⟨Nat.le_of_ble_eq_true rfl, Nat.le_of_ble_eq_true rfl, (show cs + 0 ≤ 600000 by omega), (show ss + 0 ≤ 7302250 by omega), Nat.le_of_ble_eq_true rfl⟩ (fun z1 I1 hq => ?_)
  obtain ⟨hz, hkC⟩ := hq
  rw [hc.1, hc.l0, hc.2.2.2.2.1.1] at hz
  have hM1 := (hR.mid hkC).2.2.1
  have hN1 := hN
  refine x_aload_n dL_law_685 rfl ?_
  refine x_aload_n dL_law_686 rfl ?_
  refine x_iload_n dL_law_687 rfl ?_
  refine x_iconst dL_law_688 ?_
  refine x_iadd dL_law_689 ?_
  refine x_scld (i + 1) dL_law_690 hX (by omega) (by omega) ?_
  refine xp_VI1 dL_law_691 ml_RL_100 vw_X5_dry vv_X5_dry rfl (sp_mdry hN hM1 xs_inr) ⟨Nat.le_of_ble_eq_true rfl, Nat.le_of_ble_eq_true rfl, (show cs + 0 ≤ 600000 by omega), (show ss + 0 ≤ 7302250 by omega), Nat.le_of_ble_eq_true rfl⟩ (fun z2 I2 hq => ?_)
  obtain ⟨hz2, hkM⟩ := hq
  rw [hkC.fm, hkC.l0M, hkC.m 50 2 (by decide)] at hz2
  obtain rfl : z2 = z1 := hz2.trans hz.symm
  refine x_icmp_eqS 1023 dL_law_694 (by decide) ?_
  refine x_widen (k := cs + 5) (n := ss + 89) (by omega) (by omega) (kk _ _ _ _ _ _ ((hR.both hkC hkM).mono (by omega)))
theorem lw_c23 {Fx : FxT} {Ln : Nat} {xs : Nat → Int32} (hX : SX G Fx Ln xs) {i : Nat} (hi : i + 6 ≤ Ln) {zi : Int} (hzi : zi = (i : Int)) {P : Int} (hP : 999 ≤ P ∧ P ≤ 980000) (hR : Rel K N I n d s P) {cs ss : Nat} (hcs : cs + 5 ≤ 600000) (hss : ss + 89 ≤ 7302250) (kk : ∀ K1 N1 I1 n1 d1 s1, Rel K1 N1 I1 n1 d1 s1 (P + 540) → XX G RL cL_law room_1 Fx 1023 [some (.ref 80), some (.ref 0), some (.ref 50), some (vi zi)] [] K1 N1 I1 (cs + 5) (ss + 89)) : XX G RL cL_law room_1 Fx 745 [some (.ref 80), some (.ref 0), some (.ref 50), some (vi zi)] [] K N I cs ss := by
  have hN := hR.1.1
  have hB := hR.2.1
  have hM := hR.2.2.1
  have hc := hR.2.2.2.1
  have hG := hR.2.2.2.2.1
  have hPB := hR.2.2.2.2.2.1.1
  have hn9 := hB.2.2.1
  refine x_aload_n dL_law_745 rfl ?_
  refine x_aload_n dL_law_746 rfl ?_
  refine x_iload_n dL_law_747 rfl ?_
  refine x_iconst dL_law_748 ?_
  refine x_iadd dL_law_749 ?_
  refine x_scld (i + 1) dL_law_750 hX (by omega) (by omega) ?_
  refine xp_VI1 dL_law_751 ml_RL_109 vw_X4_leak vv_X4_leak rfl (sp_leak hN hB hG xs_inr) ⟨Nat.le_of_ble_eq_true rfl, Nat.le_of_ble_eq_true rfl, (show cs + 0 ≤ 600000 by omega), (show ss + 0 ≤ 7302250 by omega), Nat.le_of_ble_eq_true rfl⟩ (fun z1 I1 hq => ?_)
  obtain ⟨hz, hkC⟩ := hq
  rw [hc.1, hc.l0, lkA_c (hc.s hG)] at hz
  have hM1 := (hR.mid hkC).2.2.1
  have hS1 := (hR.mid hkC).SM
  refine x_aload_n dL_law_754 rfl ?_
  refine x_aload_n dL_law_755 rfl ?_
  refine x_iload_n dL_law_756 rfl ?_
  refine x_iconst dL_law_757 ?_
  refine x_iadd dL_law_758 ?_
  refine x_scld (i + 1) dL_law_759 hX (by omega) (by omega) ?_
  refine xp_VI1 dL_law_760 ml_RL_112 vw_X5_leak vv_X5_leak rfl (sp_mleak hN hM1 hS1 xs_inr) ⟨Nat.le_of_ble_eq_true rfl, Nat.le_of_ble_eq_true rfl, (show cs + 0 ≤ 600000 by omega), (show ss + 0 ≤ 7302250 by omega), Nat.le_of_ble_eq_true rfl⟩ (fun z2 I2 hq => ?_)
  obtain ⟨hz2, hkM⟩ := hq
  rw [hkC.fm, hkC.l0M, hkC.fn (a := 52) (by decide), hkC.fn (a := 53) (by decide)] at hz2
  obtain rfl : z2 = z1 := hz2.trans hz.symm
  refine x_icmp_eqS 1023 dL_law_763 (by decide) ?_
  refine x_widen (k := cs + 5) (n := ss + 89) (by omega) (by omega) (kk _ _ _ _ _ _ ((hR.both hkC hkM).mono (by omega)))
theorem lw_c24 {Fx : FxT} {Ln : Nat} {xs : Nat → Int32} (hX : SX G Fx Ln xs) {i : Nat} (hi : i + 6 ≤ Ln) {zi : Int} (hzi : zi = (i : Int)) {P : Int} (hP : 999 ≤ P ∧ P ≤ 980000) (hR : Rel K N I n d s P) {cs ss : Nat} (hcs : cs + 5 ≤ 600000) (hss : ss + 89 ≤ 7302250) (kk : ∀ K1 N1 I1 n1 d1 s1, Rel K1 N1 I1 n1 d1 s1 (P + 540) → XX G RL cL_law room_1 Fx 1023 [some (.ref 80), some (.ref 0), some (.ref 50), some (vi zi)] [] K1 N1 I1 (cs + 5) (ss + 89)) : XX G RL cL_law room_1 Fx 768 [some (.ref 80), some (.ref 0), some (.ref 50), some (vi zi)] [] K N I cs ss := by
  have hN := hR.1.1
  have hB := hR.2.1
  have hM := hR.2.2.1
  have hc := hR.2.2.2.1
  have hG := hR.2.2.2.2.1
  have hPB := hR.2.2.2.2.2.1.1
  have hn9 := hB.2.2.1
  refine x_aload_n dL_law_768 rfl ?_
  refine x_aload_n dL_law_769 rfl ?_
  refine x_iload_n dL_law_770 rfl ?_
  refine x_iconst dL_law_771 ?_
  refine x_iadd dL_law_772 ?_
  refine x_scld (i + 1) dL_law_773 hX (by omega) (by omega) ?_
  refine xp_VI1 dL_law_774 ml_RL_113 vw_X4_borer vv_X4_borer rfl (sp_borer hN hB hG xs_inr) ⟨Nat.le_of_ble_eq_true rfl, Nat.le_of_ble_eq_true rfl, (show cs + 0 ≤ 600000 by omega), (show ss + 0 ≤ 7302250 by omega), Nat.le_of_ble_eq_true rfl⟩ (fun z1 I1 hq => ?_)
  obtain ⟨hz, hkC⟩ := hq
  rw [hc.1, hc.l0, boA_c (hc.s hG)] at hz
  have hM1 := (hR.mid hkC).2.2.1
  have hS1 := (hR.mid hkC).SM
  refine x_aload_n dL_law_777 rfl ?_
  refine x_aload_n dL_law_778 rfl ?_
  refine x_iload_n dL_law_779 rfl ?_
  refine x_iconst dL_law_780 ?_
  refine x_iadd dL_law_781 ?_
  refine x_scld (i + 1) dL_law_782 hX (by omega) (by omega) ?_
  refine xp_VI1 dL_law_783 ml_RL_116 vw_X5_borer vv_X5_borer rfl (sp_mborer hN hM1 hS1 xs_inr) ⟨Nat.le_of_ble_eq_true rfl, Nat.le_of_ble_eq_true rfl, (show cs + 0 ≤ 600000 by omega), (show ss + 0 ≤ 7302250 by omega), Nat.le_of_ble_eq_true rfl⟩ (fun z2 I2 hq => ?_)
  obtain ⟨hz2, hkM⟩ := hq
  rw [hkC.fm, hkC.l0M, hkC.fn (a := 52) (by decide), hkC.fn (a := 53) (by decide)] at hz2
  obtain rfl : z2 = z1 := hz2.trans hz.symm
  refine x_icmp_eqS 1023 dL_law_786 (by decide) ?_
  refine x_widen (k := cs + 5) (n := ss + 89) (by omega) (by omega) (kk _ _ _ _ _ _ ((hR.both hkC hkM).mono (by omega)))
theorem lw_c25 {Fx : FxT} {Ln : Nat} {xs : Nat → Int32} (hX : SX G Fx Ln xs) {i : Nat} (hi : i + 6 ≤ Ln) {zi : Int} (hzi : zi = (i : Int)) {P : Int} (hP : 999 ≤ P ∧ P ≤ 980000) (hR : Rel K N I n d s P) {cs ss : Nat} (hcs : cs + 5 ≤ 600000) (hss : ss + 89 ≤ 7302250) (kk : ∀ K1 N1 I1 n1 d1 s1, Rel K1 N1 I1 n1 d1 s1 (P + 540) → XX G RL cL_law room_1 Fx 1023 [some (.ref 80), some (.ref 0), some (.ref 50), some (vi zi)] [] K1 N1 I1 (cs + 5) (ss + 89)) : XX G RL cL_law room_1 Fx 791 [some (.ref 80), some (.ref 0), some (.ref 50), some (vi zi)] [] K N I cs ss := by
  have hN := hR.1.1
  have hB := hR.2.1
  have hM := hR.2.2.1
  have hc := hR.2.2.2.1
  have hG := hR.2.2.2.2.1
  have hPB := hR.2.2.2.2.2.1.1
  have hn9 := hB.2.2.1
  refine x_aload_n dL_law_791 rfl ?_
  refine x_aload_n dL_law_792 rfl ?_
  refine x_iload_n dL_law_793 rfl ?_
  refine x_iconst dL_law_794 ?_
  refine x_iadd dL_law_795 ?_
  refine x_scld (i + 1) dL_law_796 hX (by omega) (by omega) ?_
  refine xp_VI1 dL_law_797 ml_RL_117 vw_X4_listen vv_X4_listen rfl (sp_listen hN hB hG xs_inr) ⟨Nat.le_of_ble_eq_true rfl, Nat.le_of_ble_eq_true rfl, (show cs + 0 ≤ 600000 by omega), (show ss + 0 ≤ 7302250 by omega), Nat.le_of_ble_eq_true rfl⟩ (fun z1 I1 hq => ?_)
  obtain ⟨hz, hkC⟩ := hq
  rw [hc.1, hc.l0, liA_c (hc.s hG)] at hz
  have hM1 := (hR.mid hkC).2.2.1
  have hS1 := (hR.mid hkC).SM
  refine x_aload_n dL_law_800 rfl ?_
  refine x_aload_n dL_law_801 rfl ?_
  refine x_iload_n dL_law_802 rfl ?_
  refine x_iconst dL_law_803 ?_
  refine x_iadd dL_law_804 ?_
  refine x_scld (i + 1) dL_law_805 hX (by omega) (by omega) ?_
  refine xp_VI1 dL_law_806 ml_RL_120 vw_X5_listen vv_X5_listen rfl (sp_mlisten hN hM1 hS1 xs_inr) ⟨Nat.le_of_ble_eq_true rfl, Nat.le_of_ble_eq_true rfl, (show cs + 0 ≤ 600000 by omega), (show ss + 0 ≤ 7302250 by omega), Nat.le_of_ble_eq_true rfl⟩ (fun z2 I2 hq => ?_)
  obtain ⟨hz2, hkM⟩ := hq
  rw [hkC.fm, hkC.l0M, hkC.fn (a := 52) (by decide), hkC.fn (a := 53) (by decide)] at hz2
  obtain rfl : z2 = z1 := hz2.trans hz.symm
  refine x_icmp_eqS 1023 dL_law_809 (by decide) ?_
  refine x_widen (k := cs + 5) (n := ss + 89) (by omega) (by omega) (kk _ _ _ _ _ _ ((hR.both hkC hkM).mono (by omega)))
theorem lw_c26 {Fx : FxT} {Ln : Nat} {xs : Nat → Int32} (hX : SX G Fx Ln xs) {i : Nat} (hi : i + 6 ≤ Ln) {zi : Int} (hzi : zi = (i : Int)) {P : Int} (hP : 999 ≤ P ∧ P ≤ 980000) (hR : Rel K N I n d s P) {cs ss : Nat} (hcs : cs + 5 ≤ 600000) (hss : ss + 89 ≤ 7302250) (kk : ∀ K1 N1 I1 n1 d1 s1, Rel K1 N1 I1 n1 d1 s1 (P + 540) → XX G RL cL_law room_1 Fx 1023 [some (.ref 80), some (.ref 0), some (.ref 50), some (vi zi)] [] K1 N1 I1 (cs + 5) (ss + 89)) : XX G RL cL_law room_1 Fx 814 [some (.ref 80), some (.ref 0), some (.ref 50), some (vi zi)] [] K N I cs ss := by
  have hN := hR.1.1
  have hB := hR.2.1
  have hM := hR.2.2.1
  have hc := hR.2.2.2.1
  have hG := hR.2.2.2.2.1
  have hPB := hR.2.2.2.2.2.1.1
  have hn9 := hB.2.2.1
  refine x_aload_n dL_law_814 rfl ?_
  refine x_aload_n dL_law_815 rfl ?_
  refine x_iload_n dL_law_816 rfl ?_
  refine x_iconst dL_law_817 ?_
  refine x_iadd dL_law_818 ?_
  refine x_scld (i + 1) dL_law_819 hX (by omega) (by omega) ?_
  refine x_aload_n dL_law_820 rfl ?_
  refine x_iload_n dL_law_821 rfl ?_
  refine x_iconst dL_law_822 ?_
  refine x_iadd dL_law_823 ?_
  refine x_scld (i + 2) dL_law_824 hX (by omega) (by omega) ?_
  refine xp_VI2 dL_law_825 ml_RL_121 vw_X4_rests vv_X4_rests rfl (sp_rests hN hB xs_inr xs_inr) ⟨Nat.le_of_ble_eq_true rfl, Nat.le_of_ble_eq_true rfl, (show cs + 0 ≤ 600000 by omega), (show ss + 0 ≤ 7302250 by omega), Nat.le_of_ble_eq_true rfl⟩ (fun z1 I1 hq => ?_)
  obtain ⟨hz, hkC⟩ := hq
  rw [hc.1, hc.l0] at hz
  have hM1 := (hR.mid hkC).2.2.1
  have hN1 := hN
  refine x_aload_n dL_law_828 rfl ?_
  refine x_aload_n dL_law_829 rfl ?_
  refine x_iload_n dL_law_830 rfl ?_
  refine x_iconst dL_law_831 ?_
  refine x_iadd dL_law_832 ?_
  refine x_scld (i + 1) dL_law_833 hX (by omega) (by omega) ?_
  refine x_aload_n dL_law_834 rfl ?_
  refine x_iload_n dL_law_835 rfl ?_
  refine x_iconst dL_law_836 ?_
  refine x_iadd dL_law_837 ?_
  refine x_scld (i + 2) dL_law_838 hX (by omega) (by omega) ?_
  refine xp_VI2 dL_law_839 ml_RL_124 vw_X5_rests vv_X5_rests rfl (sp_mrests hN hM1 xs_inr xs_inr) ⟨Nat.le_of_ble_eq_true rfl, Nat.le_of_ble_eq_true rfl, (show cs + 0 ≤ 600000 by omega), (show ss + 0 ≤ 7302250 by omega), Nat.le_of_ble_eq_true rfl⟩ (fun z2 I2 hq => ?_)
  obtain ⟨hz2, hkM⟩ := hq
  rw [hkC.fm, hkC.l0M] at hz2
  obtain rfl : z2 = z1 := hz2.trans hz.symm
  refine x_icmp_eqS 1023 dL_law_842 (by decide) ?_
  refine x_widen (k := cs + 5) (n := ss + 89) (by omega) (by omega) (kk _ _ _ _ _ _ ((hR.both hkC hkM).mono (by omega)))
theorem lw_c27 {Fx : FxT} {Ln : Nat} {xs : Nat → Int32} (hX : SX G Fx Ln xs) {i : Nat} (hi : i + 6 ≤ Ln) {zi : Int} (hzi : zi = (i : Int)) {P : Int} (hP : 999 ≤ P ∧ P ≤ 980000) (hR : Rel K N I n d s P) {cs ss : Nat} (hcs : cs + 5 ≤ 600000) (hss : ss + 89 ≤ 7302250) (kk : ∀ K1 N1 I1 n1 d1 s1, Rel K1 N1 I1 n1 d1 s1 (P + 540) → XX G RL cL_law room_1 Fx 1023 [some (.ref 80), some (.ref 0), some (.ref 50), some (vi zi)] [] K1 N1 I1 (cs + 5) (ss + 89)) : XX G RL cL_law room_1 Fx 847 [some (.ref 80), some (.ref 0), some (.ref 50), some (vi zi)] [] K N I cs ss := by
  have hN := hR.1.1
  have hB := hR.2.1
  have hM := hR.2.2.1
  have hc := hR.2.2.2.1
  have hG := hR.2.2.2.2.1
  have hPB := hR.2.2.2.2.2.1.1
  have hn9 := hB.2.2.1
  refine x_aload_n dL_law_847 rfl ?_
  refine x_aload_n dL_law_848 rfl ?_
  refine x_iload_n dL_law_849 rfl ?_
  refine x_iconst dL_law_850 ?_
  refine x_iadd dL_law_851 ?_
  refine x_scld (i + 1) dL_law_852 hX (by omega) (by omega) ?_
  refine x_aload_n dL_law_853 rfl ?_
  refine x_iload_n dL_law_854 rfl ?_
  refine x_iconst dL_law_855 ?_
  refine x_iadd dL_law_856 ?_
  refine x_scld (i + 2) dL_law_857 hX (by omega) (by omega) ?_
  refine x_aload_n dL_law_858 rfl ?_
  refine x_iload_n dL_law_859 rfl ?_
  refine x_iconst dL_law_860 ?_
  refine x_iadd dL_law_861 ?_
  refine x_scld (i + 3) dL_law_862 hX (by omega) (by omega) ?_
  refine x_aload_n dL_law_863 rfl ?_
  refine x_iload_n dL_law_864 rfl ?_
  refine x_iconst dL_law_865 ?_
  refine x_iadd dL_law_866 ?_
  refine x_scld (i + 4) dL_law_867 hX (by omega) (by omega) ?_
  refine x_aload_n dL_law_868 rfl ?_
  refine x_iload_n dL_law_869 rfl ?_
  refine x_iconst dL_law_870 ?_
  refine x_iadd dL_law_871 ?_
  refine x_scld (i + 5) dL_law_872 hX (by omega) (by omega) ?_
  refine xp_VL5 dL_law_873 ml_RL_125 vw_X4_frost vv_X4_frost rfl (sp_frost hN hB xs_inr xs_inr xs_inr xs_inr xs_inr) ⟨Nat.le_of_ble_eq_true rfl, Nat.le_of_ble_eq_true rfl, (show cs + 0 ≤ 600000 by omega), (show ss + 0 ≤ 7302250 by omega), Nat.le_of_ble_eq_true rfl⟩ (fun z1 I1 hq => ?_)
  obtain ⟨hz, hkC⟩ := hq
  rw [hc.1, hc.l0] at hz
  have hM1 := (hR.mid hkC).2.2.1
  have hN1 := hN
  refine x_aload_n dL_law_876 rfl ?_
  refine x_aload_n dL_law_877 rfl ?_
  refine x_iload_n dL_law_878 rfl ?_
  refine x_iconst dL_law_879 ?_
  refine x_iadd dL_law_880 ?_
  refine x_scld (i + 1) dL_law_881 hX (by omega) (by omega) ?_
  refine x_aload_n dL_law_882 rfl ?_
  refine x_iload_n dL_law_883 rfl ?_
  refine x_iconst dL_law_884 ?_
  refine x_iadd dL_law_885 ?_
  refine x_scld (i + 2) dL_law_886 hX (by omega) (by omega) ?_
  refine x_aload_n dL_law_887 rfl ?_
  refine x_iload_n dL_law_888 rfl ?_
  refine x_iconst dL_law_889 ?_
  refine x_iadd dL_law_890 ?_
  refine x_scld (i + 3) dL_law_891 hX (by omega) (by omega) ?_
  refine x_aload_n dL_law_892 rfl ?_
  refine x_iload_n dL_law_893 rfl ?_
  refine x_iconst dL_law_894 ?_
  refine x_iadd dL_law_895 ?_
  refine x_scld (i + 4) dL_law_896 hX (by omega) (by omega) ?_
  refine x_aload_n dL_law_897 rfl ?_
  refine x_iload_n dL_law_898 rfl ?_
  refine x_iconst dL_law_899 ?_
  refine x_iadd dL_law_900 ?_
  refine x_scld (i + 5) dL_law_901 hX (by omega) (by omega) ?_
  refine xp_VL5 dL_law_902 ml_RL_129 vw_X5_frost vv_X5_frost rfl (sp_mfrost hN hM1 xs_inr xs_inr xs_inr xs_inr xs_inr) ⟨Nat.le_of_ble_eq_true rfl, Nat.le_of_ble_eq_true rfl, (show cs + 0 ≤ 600000 by omega), (show ss + 0 ≤ 7302250 by omega), Nat.le_of_ble_eq_true rfl⟩ (fun z2 I2 hq => ?_)
  obtain ⟨hz2, hkM⟩ := hq
  rw [hkC.fm, hkC.l0M] at hz2
  obtain rfl : z2 = z1 := hz2.trans hz.symm
  refine x_lcmpS dL_law_905 ?_
  refine x_if_eq 1023 dL_law_906 (by decide) (by unfold inr; omega) (fun h_906 => ?_) (fun h_906 => ?_)
  · refine x_widen (k := cs + 5) (n := ss + 89) (by omega) (by omega) (kk _ _ _ _ _ _ ((hR.both hkC hkM).mono (by omega)))
  · exact absurd rfl h_906
theorem lw_c28 {Fx : FxT} {Ln : Nat} {xs : Nat → Int32} (hX : SX G Fx Ln xs) {i : Nat} (hi : i + 6 ≤ Ln) {zi : Int} (hzi : zi = (i : Int)) {P : Int} (hP : 999 ≤ P ∧ P ≤ 980000) (hR : Rel K N I n d s P) {cs ss : Nat} (hcs : cs + 5 ≤ 600000) (hss : ss + 89 ≤ 7302250) (kk : ∀ K1 N1 I1 n1 d1 s1, Rel K1 N1 I1 n1 d1 s1 (P + 540) → XX G RL cL_law room_1 Fx 1023 [some (.ref 80), some (.ref 0), some (.ref 50), some (vi zi)] [] K1 N1 I1 (cs + 5) (ss + 89)) : XX G RL cL_law room_1 Fx 911 [some (.ref 80), some (.ref 0), some (.ref 50), some (vi zi)] [] K N I cs ss := by
  have hN := hR.1.1
  have hB := hR.2.1
  have hM := hR.2.2.1
  have hc := hR.2.2.2.1
  have hG := hR.2.2.2.2.1
  have hPB := hR.2.2.2.2.2.1.1
  have hn9 := hB.2.2.1
  refine x_aload_n dL_law_911 rfl ?_
  refine x_aload_n dL_law_912 rfl ?_
  refine x_iload_n dL_law_913 rfl ?_
  refine x_iconst dL_law_914 ?_
  refine x_iadd dL_law_915 ?_
  refine x_scld (i + 1) dL_law_916 hX (by omega) (by omega) ?_
  refine x_aload_n dL_law_917 rfl ?_
  refine x_iload_n dL_law_918 rfl ?_
  refine x_iconst dL_law_919 ?_
  refine x_iadd dL_law_920 ?_
  refine x_scld (i + 2) dL_law_921 hX (by omega) (by omega) ?_
  refine x_aload_n dL_law_922 rfl ?_
  refine x_iload_n dL_law_923 rfl ?_
  refine x_iconst dL_law_924 ?_
  refine x_iadd dL_law_925 ?_
  refine x_scld (i + 3) dL_law_926 hX (by omega) (by omega) ?_
  refine xp_VI3 dL_law_927 ml_RL_130 vw_X4_year vv_X4_year rfl (sp_year hN hB xs_inr xs_inr xs_inr) ⟨Nat.le_of_ble_eq_true rfl, Nat.le_of_ble_eq_true rfl, (show cs + 0 ≤ 600000 by omega), (show ss + 0 ≤ 7302250 by omega), Nat.le_of_ble_eq_true rfl⟩ (fun z1 I1 hq => ?_)
  obtain ⟨hz, hkC⟩ := hq
  rw [hc.1, hc.l0] at hz
  have hM1 := (hR.mid hkC).2.2.1
  have hN1 := hN
  refine x_aload_n dL_law_930 rfl ?_
  refine x_aload_n dL_law_931 rfl ?_
  refine x_iload_n dL_law_932 rfl ?_
  refine x_iconst dL_law_933 ?_
  refine x_iadd dL_law_934 ?_
  refine x_scld (i + 1) dL_law_935 hX (by omega) (by omega) ?_
  refine x_aload_n dL_law_936 rfl ?_
  refine x_iload_n dL_law_937 rfl ?_
  refine x_iconst dL_law_938 ?_
  refine x_iadd dL_law_939 ?_
  refine x_scld (i + 2) dL_law_940 hX (by omega) (by omega) ?_
  refine x_aload_n dL_law_941 rfl ?_
  refine x_iload_n dL_law_942 rfl ?_
  refine x_iconst dL_law_943 ?_
  refine x_iadd dL_law_944 ?_
  refine x_scld (i + 3) dL_law_945 hX (by omega) (by omega) ?_
  refine xp_VI3 dL_law_946 ml_RL_133 vw_X5_year vv_X5_year rfl (sp_myear hN hM1 xs_inr xs_inr xs_inr) ⟨Nat.le_of_ble_eq_true rfl, Nat.le_of_ble_eq_true rfl, (show cs + 0 ≤ 600000 by omega), (show ss + 0 ≤ 7302250 by omega), Nat.le_of_ble_eq_true rfl⟩ (fun z2 I2 hq => ?_)
  obtain ⟨hz2, hkM⟩ := hq
  rw [hkC.fm, hkC.l0M] at hz2
  obtain rfl : z2 = z1 := hz2.trans hz.symm
  refine x_icmp_eqS 1023 dL_law_949 (by decide) ?_
  refine x_widen (k := cs + 5) (n := ss + 89) (by omega) (by omega) (kk _ _ _ _ _ _ ((hR.both hkC hkM).mono (by omega)))
theorem lw_c14 {Fx : FxT} {Ln : Nat} {xs : Nat → Int32} (hX : SX G Fx Ln xs) {i : Nat} (hi : i + 6 ≤ Ln) {zi : Int} (hzi : zi = (i : Int)) {P : Int} (hP : 999 ≤ P ∧ P ≤ 980000) (hR : Rel K N I n d s P) {cs ss : Nat} (hcs : cs + 5 ≤ 600000) (hss : ss + 89 ≤ 7302250) (kk : ∀ K1 N1 I1 n1 d1 s1, Rel K1 N1 I1 n1 d1 s1 (P + 540) → XX G RL cL_law room_1 Fx 1023 [some (.ref 80), some (.ref 0), some (.ref 50), some (vi zi)] [] K1 N1 I1 (cs + 5) (ss + 89)) : XX G RL cL_law room_1 Fx 518 [some (.ref 80), some (.ref 0), some (.ref 50), some (vi zi)] [] K N I cs ss := by
  have hN := hR.1.1
  have hB := hR.2.1
  have hM := hR.2.2.1
  have hc := hR.2.2.2.1
  have hG := hR.2.2.2.2.1
  have hPB := hR.2.2.2.2.2.1.1
  have hn9 := hB.2.2.1
  refine x_aload_n dL_law_518 rfl ?_
  refine xp_VI0 dL_law_519 ml_RL_73 vw_X4_hours vv_X4_hours rfl (sp_hours hN hB) ⟨Nat.le_of_ble_eq_true rfl, Nat.le_of_ble_eq_true rfl, (show cs + 0 ≤ 600000 by omega), (show ss + 0 ≤ 7302250 by omega), Nat.le_of_ble_eq_true rfl⟩ (fun z1 I1 hq => ?_)
  obtain ⟨hz, hkC⟩ := hq
  rw [hc.1, hc.l0] at hz
  have hM1 := (hR.mid hkC).2.2.1
  refine x_aload_n dL_law_522 rfl ?_
  refine xf_VI0 dL_law_523 ml_RL_76 vw_X5_hours vv_X5_hours rfl (sp_mhours hN hM1) ⟨Nat.le_of_ble_eq_true rfl, Nat.le_of_ble_eq_true rfl, (show cs + 0 ≤ 600000 by omega), (show ss + 0 ≤ 7302250 by omega), Nat.le_of_ble_eq_true rfl⟩ ?_
  rw [hkC.fm, hkC.l0M, ← hz]
  have hkM : kpM I1 (fmJ I1 0 n) := kpM.rf.fl
  refine x_icmp_eqS 1023 dL_law_526 (by decide) ?_
  refine x_widen (k := cs + 5) (n := ss + 89) (by omega) (by omega) (kk _ _ _ _ _ _ ((hR.both hkC hkM).mono (by omega)))
theorem lw_c19 {Fx : FxT} {Ln : Nat} {xs : Nat → Int32} (hX : SX G Fx Ln xs) {i : Nat} (hi : i + 6 ≤ Ln) {zi : Int} (hzi : zi = (i : Int)) {P : Int} (hP : 999 ≤ P ∧ P ≤ 980000) (hR : Rel K N I n d s P) {cs ss : Nat} (hcs : cs + 5 ≤ 600000) (hss : ss + 89 ≤ 7302250) (kk : ∀ K1 N1 I1 n1 d1 s1, Rel K1 N1 I1 n1 d1 s1 (P + 540) → XX G RL cL_law room_1 Fx 1023 [some (.ref 80), some (.ref 0), some (.ref 50), some (vi zi)] [] K1 N1 I1 (cs + 5) (ss + 89)) : XX G RL cL_law room_1 Fx 663 [some (.ref 80), some (.ref 0), some (.ref 50), some (vi zi)] [] K N I cs ss := by
  have hN := hR.1.1
  have hB := hR.2.1
  have hM := hR.2.2.1
  have hc := hR.2.2.2.1
  have hG := hR.2.2.2.2.1
  have hPB := hR.2.2.2.2.2.1.1
  have hn9 := hB.2.2.1
  refine x_aload_n dL_law_663 rfl ?_
  refine xp_VI0 dL_law_664 ml_RL_93 vw_X4_fair vv_X4_fair rfl (sp_fair hN hB) ⟨Nat.le_of_ble_eq_true rfl, Nat.le_of_ble_eq_true rfl, (show cs + 0 ≤ 600000 by omega), (show ss + 0 ≤ 7302250 by omega), Nat.le_of_ble_eq_true rfl⟩ (fun z1 I1 hq => ?_)
  obtain ⟨hz, hkC⟩ := hq
  rw [hc.1, hc.l0] at hz
  have hM1 := (hR.mid hkC).2.2.1
  refine x_aload_n dL_law_667 rfl ?_
  refine xf_VI0 dL_law_668 ml_RL_96 vw_X5_fair vv_X5_fair rfl (sp_mfair hN hM1) ⟨Nat.le_of_ble_eq_true rfl, Nat.le_of_ble_eq_true rfl, (show cs + 0 ≤ 600000 by omega), (show ss + 0 ≤ 7302250 by omega), Nat.le_of_ble_eq_true rfl⟩ ?_
  rw [hkC.fm, hkC.l0M, ← hz]
  have hkM : kpM I1 I1 := kpM.rf
  refine x_icmp_eqS 1023 dL_law_671 (by decide) ?_
  refine x_widen (k := cs + 5) (n := ss + 89) (by omega) (by omega) (kk _ _ _ _ _ _ ((hR.both hkC hkM).mono (by omega)))
theorem lw_c31 {Fx : FxT} {Ln : Nat} {xs : Nat → Int32} (hX : SX G Fx Ln xs) {i : Nat} (hi : i + 6 ≤ Ln) {zi : Int} (hzi : zi = (i : Int)) {P : Int} (hP : 999 ≤ P ∧ P ≤ 980000) (hR : Rel K N I n d s P) {cs ss : Nat} (hcs : cs + 5 ≤ 600000) (hss : ss + 89 ≤ 7302250) (kk : ∀ K1 N1 I1 n1 d1 s1, Rel K1 N1 I1 n1 d1 s1 (P + 540) → XX G RL cL_law room_1 Fx 1023 [some (.ref 80), some (.ref 0), some (.ref 50), some (vi zi)] [] K1 N1 I1 (cs + 5) (ss + 89)) : XX G RL cL_law room_1 Fx 1000 [some (.ref 80), some (.ref 0), some (.ref 50), some (vi zi)] [] K N I cs ss := by
  have hN := hR.1.1
  have hB := hR.2.1
  have hM := hR.2.2.1
  have hc := hR.2.2.2.1
  have hG := hR.2.2.2.2.1
  have hPB := hR.2.2.2.2.2.1.1
  have hn9 := hB.2.2.1
  refine x_aload_n dL_law_1000 rfl ?_
  refine x_aload_n dL_law_1001 rfl ?_
  refine x_iload_n dL_law_1002 rfl ?_
  refine x_iconst dL_law_1003 ?_
  refine x_iadd dL_law_1004 ?_
  refine x_scld (i + 1) dL_law_1005 hX (by omega) (by omega) ?_
  refine xf_VI1 dL_law_1006 ml_RL_142 vw_X4_told vv_X4_told rfl (sp_told hN hB hPB.1 xs_inr) ⟨Nat.le_of_ble_eq_true rfl, Nat.le_of_ble_eq_true rfl, (show cs + 0 ≤ 600000 by omega), (show ss + 0 ≤ 7302250 by omega), Nat.le_of_ble_eq_true rfl⟩ ?_
  rw [hc.1, hc.2.2.2.2.1.1, hc.2.2.2.2.1.2.1, hc.2.2.2.2.1.2.2, hc.2.1, hc.2.2.2.2.2]
  refine x_aload_n dL_law_1009 rfl ?_
  refine x_aload_n dL_law_1010 rfl ?_
  refine x_iload_n dL_law_1011 rfl ?_
  refine x_iconst dL_law_1012 ?_
  refine x_iadd dL_law_1013 ?_
  refine x_scld (i + 1) dL_law_1014 hX (by omega) (by omega) ?_
  refine xf_VI1 dL_law_1015 ml_RL_145 vw_X5_told vv_X5_told rfl (sp_mtold hN hM hR.PM.1 xs_inr) ⟨Nat.le_of_ble_eq_true rfl, Nat.le_of_ble_eq_true rfl, (show cs + 0 ≤ 600000 by omega), (show ss + 0 ≤ 7302250 by omega), Nat.le_of_ble_eq_true rfl⟩ ?_
  refine x_icmp_eqS 1023 dL_law_1018 (by decide) ?_
  refine x_widen (k := cs + 5) (n := ss + 89) (by omega) (by omega) (kk _ _ _ _ _ _ (hR.mono (by omega)))
end FR

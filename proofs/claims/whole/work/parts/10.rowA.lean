/-! ===== rows: what each method does ===== -/
theorem x_drop {G : GT} {own : String} {cc : ByteArray} {R : Room} {Fx : FxT} {pc i : Nat} {L : List (Option Value)} {S : List Value} {K : List Nat} {N : NN} {I : MM} {cs ss : Nat} (h : XX G own cc R Fx pc (L.set i none) S K N I cs ss) : XX G own cc R Fx pc L S K N I cs ss := by
  obtain ⟨p, e, s, m, args, below, meth, c, Q, nL, a0, K0⟩ := Fx
  intro ok al H locs ls st
  refine h ok al H locs ls ⟨st.1, st.2.1, ⟨st.2.2.1.1, st.2.2.1.2.1, by rw [List.length_set]; exact st.2.2.1.2.2.1, fun j v hj => ?_⟩, st.2.2.2.1.setN, st.2.2.2.2⟩
  by_cases e : i = j
  · subst e
    rw [List.getElem?_set] at hj
    simp at hj
  · rw [List.getElem?_set_ne e] at hj
    exact st.2.2.1.2.2.2 j v hj
theorem x_dr0 {G : GT} {own : String} {cc : ByteArray} {R : Room} {Fx : FxT} {pc : Nat} {l0 : Option Value} {r : List (Option Value)} {S : List Value} {K : List Nat} {N : NN} {I : MM} {cs ss : Nat} (h : XX G own cc R Fx pc (none :: r) S K N I cs ss) : XX G own cc R Fx pc (l0 :: r) S K N I cs ss := x_drop (i := 0) h
theorem x_dr1 {G : GT} {own : String} {cc : ByteArray} {R : Room} {Fx : FxT} {pc : Nat} {l0 l1 : Option Value} {r : List (Option Value)} {S : List Value} {K : List Nat} {N : NN} {I : MM} {cs ss : Nat} (h : XX G own cc R Fx pc (l0 :: none :: r) S K N I cs ss) : XX G own cc R Fx pc (l0 :: l1 :: r) S K N I cs ss := x_drop (i := 1) h
theorem x_dr2 {G : GT} {own : String} {cc : ByteArray} {R : Room} {Fx : FxT} {pc : Nat} {l0 l1 l2 : Option Value} {r : List (Option Value)} {S : List Value} {K : List Nat} {N : NN} {I : MM} {cs ss : Nat} (h : XX G own cc R Fx pc (l0 :: l1 :: none :: r) S K N I cs ss) : XX G own cc R Fx pc (l0 :: l1 :: l2 :: r) S K N I cs ss := x_drop (i := 2) h
theorem x_dr3 {G : GT} {own : String} {cc : ByteArray} {R : Room} {Fx : FxT} {pc : Nat} {l0 l1 l2 l3 : Option Value} {r : List (Option Value)} {S : List Value} {K : List Nat} {N : NN} {I : MM} {cs ss : Nat} (h : XX G own cc R Fx pc (l0 :: l1 :: l2 :: none :: r) S K N I cs ss) : XX G own cc R Fx pc (l0 :: l1 :: l2 :: l3 :: r) S K N I cs ss := x_drop (i := 3) h
theorem x_dr4 {G : GT} {own : String} {cc : ByteArray} {R : Room} {Fx : FxT} {pc : Nat} {l0 l1 l2 l3 l4 : Option Value} {r : List (Option Value)} {S : List Value} {K : List Nat} {N : NN} {I : MM} {cs ss : Nat} (h : XX G own cc R Fx pc (l0 :: l1 :: l2 :: l3 :: none :: r) S K N I cs ss) : XX G own cc R Fx pc (l0 :: l1 :: l2 :: l3 :: l4 :: r) S K N I cs ss := x_drop (i := 4) h
theorem x_dr5 {G : GT} {own : String} {cc : ByteArray} {R : Room} {Fx : FxT} {pc : Nat} {l0 l1 l2 l3 l4 l5 : Option Value} {r : List (Option Value)} {S : List Value} {K : List Nat} {N : NN} {I : MM} {cs ss : Nat} (h : XX G own cc R Fx pc (l0 :: l1 :: l2 :: l3 :: l4 :: none :: r) S K N I cs ss) : XX G own cc R Fx pc (l0 :: l1 :: l2 :: l3 :: l4 :: l5 :: r) S K N I cs ss := x_drop (i := 5) h
theorem x_dr6 {G : GT} {own : String} {cc : ByteArray} {R : Room} {Fx : FxT} {pc : Nat} {l0 l1 l2 l3 l4 l5 l6 : Option Value} {r : List (Option Value)} {S : List Value} {K : List Nat} {N : NN} {I : MM} {cs ss : Nat} (h : XX G own cc R Fx pc (l0 :: l1 :: l2 :: l3 :: l4 :: l5 :: none :: r) S K N I cs ss) : XX G own cc R Fx pc (l0 :: l1 :: l2 :: l3 :: l4 :: l5 :: l6 :: r) S K N I cs ss := x_drop (i := 6) h
theorem x_dr7 {G : GT} {own : String} {cc : ByteArray} {R : Room} {Fx : FxT} {pc : Nat} {l0 l1 l2 l3 l4 l5 l6 l7 : Option Value} {r : List (Option Value)} {S : List Value} {K : List Nat} {N : NN} {I : MM} {cs ss : Nat} (h : XX G own cc R Fx pc (l0 :: l1 :: l2 :: l3 :: l4 :: l5 :: l6 :: none :: r) S K N I cs ss) : XX G own cc R Fx pc (l0 :: l1 :: l2 :: l3 :: l4 :: l5 :: l6 :: l7 :: r) S K N I cs ss := x_drop (i := 7) h
theorem x_dr8 {G : GT} {own : String} {cc : ByteArray} {R : Room} {Fx : FxT} {pc : Nat} {l0 l1 l2 l3 l4 l5 l6 l7 l8 : Option Value} {r : List (Option Value)} {S : List Value} {K : List Nat} {N : NN} {I : MM} {cs ss : Nat} (h : XX G own cc R Fx pc (l0 :: l1 :: l2 :: l3 :: l4 :: l5 :: l6 :: l7 :: none :: r) S K N I cs ss) : XX G own cc R Fx pc (l0 :: l1 :: l2 :: l3 :: l4 :: l5 :: l6 :: l7 :: l8 :: r) S K N I cs ss := x_drop (i := 8) h
theorem x_dr9 {G : GT} {own : String} {cc : ByteArray} {R : Room} {Fx : FxT} {pc : Nat} {l0 l1 l2 l3 l4 l5 l6 l7 l8 l9 : Option Value} {r : List (Option Value)} {S : List Value} {K : List Nat} {N : NN} {I : MM} {cs ss : Nat} (h : XX G own cc R Fx pc (l0 :: l1 :: l2 :: l3 :: l4 :: l5 :: l6 :: l7 :: l8 :: none :: r) S K N I cs ss) : XX G own cc R Fx pc (l0 :: l1 :: l2 :: l3 :: l4 :: l5 :: l6 :: l7 :: l8 :: l9 :: r) S K N I cs ss := x_drop (i := 9) h
theorem x_dr10 {G : GT} {own : String} {cc : ByteArray} {R : Room} {Fx : FxT} {pc : Nat} {l0 l1 l2 l3 l4 l5 l6 l7 l8 l9 l10 : Option Value} {r : List (Option Value)} {S : List Value} {K : List Nat} {N : NN} {I : MM} {cs ss : Nat} (h : XX G own cc R Fx pc (l0 :: l1 :: l2 :: l3 :: l4 :: l5 :: l6 :: l7 :: l8 :: l9 :: none :: r) S K N I cs ss) : XX G own cc R Fx pc (l0 :: l1 :: l2 :: l3 :: l4 :: l5 :: l6 :: l7 :: l8 :: l9 :: l10 :: r) S K N I cs ss := x_drop (i := 10) h
theorem x_dr11 {G : GT} {own : String} {cc : ByteArray} {R : Room} {Fx : FxT} {pc : Nat} {l0 l1 l2 l3 l4 l5 l6 l7 l8 l9 l10 l11 : Option Value} {r : List (Option Value)} {S : List Value} {K : List Nat} {N : NN} {I : MM} {cs ss : Nat} (h : XX G own cc R Fx pc (l0 :: l1 :: l2 :: l3 :: l4 :: l5 :: l6 :: l7 :: l8 :: l9 :: l10 :: none :: r) S K N I cs ss) : XX G own cc R Fx pc (l0 :: l1 :: l2 :: l3 :: l4 :: l5 :: l6 :: l7 :: l8 :: l9 :: l10 :: l11 :: r) S K N I cs ss := x_drop (i := 11) h
theorem x_dr12 {G : GT} {own : String} {cc : ByteArray} {R : Room} {Fx : FxT} {pc : Nat} {l0 l1 l2 l3 l4 l5 l6 l7 l8 l9 l10 l11 l12 : Option Value} {r : List (Option Value)} {S : List Value} {K : List Nat} {N : NN} {I : MM} {cs ss : Nat} (h : XX G own cc R Fx pc (l0 :: l1 :: l2 :: l3 :: l4 :: l5 :: l6 :: l7 :: l8 :: l9 :: l10 :: l11 :: none :: r) S K N I cs ss) : XX G own cc R Fx pc (l0 :: l1 :: l2 :: l3 :: l4 :: l5 :: l6 :: l7 :: l8 :: l9 :: l10 :: l11 :: l12 :: r) S K N I cs ss := x_drop (i := 12) h
theorem x_dr13 {G : GT} {own : String} {cc : ByteArray} {R : Room} {Fx : FxT} {pc : Nat} {l0 l1 l2 l3 l4 l5 l6 l7 l8 l9 l10 l11 l12 l13 : Option Value} {r : List (Option Value)} {S : List Value} {K : List Nat} {N : NN} {I : MM} {cs ss : Nat} (h : XX G own cc R Fx pc (l0 :: l1 :: l2 :: l3 :: l4 :: l5 :: l6 :: l7 :: l8 :: l9 :: l10 :: l11 :: l12 :: none :: r) S K N I cs ss) : XX G own cc R Fx pc (l0 :: l1 :: l2 :: l3 :: l4 :: l5 :: l6 :: l7 :: l8 :: l9 :: l10 :: l11 :: l12 :: l13 :: r) S K N I cs ss := x_drop (i := 13) h
theorem x_dr14 {G : GT} {own : String} {cc : ByteArray} {R : Room} {Fx : FxT} {pc : Nat} {l0 l1 l2 l3 l4 l5 l6 l7 l8 l9 l10 l11 l12 l13 l14 : Option Value} {r : List (Option Value)} {S : List Value} {K : List Nat} {N : NN} {I : MM} {cs ss : Nat} (h : XX G own cc R Fx pc (l0 :: l1 :: l2 :: l3 :: l4 :: l5 :: l6 :: l7 :: l8 :: l9 :: l10 :: l11 :: l12 :: l13 :: none :: r) S K N I cs ss) : XX G own cc R Fx pc (l0 :: l1 :: l2 :: l3 :: l4 :: l5 :: l6 :: l7 :: l8 :: l9 :: l10 :: l11 :: l12 :: l13 :: l14 :: r) S K N I cs ss := x_drop (i := 14) h
theorem x_dr15 {G : GT} {own : String} {cc : ByteArray} {R : Room} {Fx : FxT} {pc : Nat} {l0 l1 l2 l3 l4 l5 l6 l7 l8 l9 l10 l11 l12 l13 l14 l15 : Option Value} {r : List (Option Value)} {S : List Value} {K : List Nat} {N : NN} {I : MM} {cs ss : Nat} (h : XX G own cc R Fx pc (l0 :: l1 :: l2 :: l3 :: l4 :: l5 :: l6 :: l7 :: l8 :: l9 :: l10 :: l11 :: l12 :: l13 :: l14 :: none :: r) S K N I cs ss) : XX G own cc R Fx pc (l0 :: l1 :: l2 :: l3 :: l4 :: l5 :: l6 :: l7 :: l8 :: l9 :: l10 :: l11 :: l12 :: l13 :: l14 :: l15 :: r) S K N I cs ss := x_drop (i := 15) h
def fa (I : MM) (b f k : Nat) : Int := if f < 9 ∧ k < 7 then I (b + 1) (7 * f + k) else 0
theorem fa_at {I : MM} {b f k : Nat} (h : f < 9 ∧ k < 7) : fa I b f k = I (b + 1) (7 * f + k) := if_pos h
theorem fa_congr {I J : MM} {b f k : Nat} (h : ∀ j, J (b + 1) j = I (b + 1) j) : fa J b f k = fa I b f k := by unfold fa; rw [h]
/-- what a row's numbers keep to -/
def RB (I : MM) (b n : Nat) : Prop := I b 0 = (n : Int) ∧ 1 ≤ n ∧ n ≤ 9 ∧ (∀ f, f < n → (0 ≤ fa I b f 0 ∧ fa I b f 0 ≤ 50) ∧ (0 ≤ fa I b f 1 ∧ fa I b f 1 ≤ 9) ∧ (0 ≤ fa I b f 2 ∧ fa I b f 2 ≤ 99) ∧ (0 ≤ fa I b f 3 ∧ fa I b f 3 ≤ 1) ∧ (0 ≤ fa I b f 4 ∧ fa I b f 4 ≤ 1) ∧ (0 ≤ fa I b f 5 ∧ fa I b f 5 ≤ 9) ∧ (0 ≤ fa I b f 6 ∧ fa I b f 6 ≤ 1000000)) ∧ (0 ≤ I (b + 2) 0 ∧ I (b + 2) 0 ≤ 99) ∧ (0 ≤ I (b + 2) 1 ∧ I (b + 2) 1 ≤ 50) ∧ (0 ≤ I (b + 2) 2 ∧ I (b + 2) 2 ≤ 50)
theorem x_eqI {G : GT} {own : String} {cc : ByteArray} {R : Room} {Fx : FxT} {pc : Nat} {L : List (Option Value)} {S : List Value} {K : List Nat} {N : NN} {I J : MM} {cs ss : Nat} (e : I = J) (h : XX G own cc R Fx pc L S K N J cs ss) : XX G own cc R Fx pc L S K N I cs ss := e ▸ h
theorem x_eqV {G : GT} {own : String} {cc : ByteArray} {R : Room} {Fx : FxT} {pc : Nat} {L : List (Option Value)} {S : List Value} {K : List Nat} {N : NN} {I : MM} {cs ss : Nat} {a b : Int} (e : a = b) (h : XX G own cc R Fx pc L (vi b :: S) K N I cs ss) : XX G own cc R Fx pc L (vi a :: S) K N I cs ss := e ▸ h
section FR
variable {G : GT} {K : List Nat} {N : NN} {I : MM} {b : Nat}
theorem sp_has (hb : kd b = 3) (hN : NS N) {z : Int} (hz : inr z) (hc : inr (I b 0)) : SpI G mX3_has .boolean 0 0 0 0 [.ref b, vi z] K N I (qI K N I (if 0 ≤ z ∧ z < I b 0 then 1 else 0)) := by
  refine SpI.of (own := RX3) (cc := cX3_has) (L := [some (.ref b), some (vi z)]) (by decide) rfl rfl (Nat.le_of_ble_eq_true rfl) rfl (fun Fx hnm hret => ?_)
  refine x_iload_n dX3_has_0 rfl ?_
  refine x_if_lt 16 dX3_has_1 (by decide) hz (fun h_1 => ?_) (fun h_1 => ?_)
  · refine x_iconst dX3_has_16 ?_
    refine hret _ _ _ _ _ _ dX3_has_17 rfl ?_
    exact ⟨rfl, rfl, rfl, by omega⟩
  · refine x_iload_n dX3_has_4 rfl ?_
    refine x_aload_n dX3_has_5 rfl ?_
    refine x_getI dX3_has_6 gf_RX3_37 hb (tg_R0 hb) ?_
    refine x_icmp_ge 16 dX3_has_9 (by decide) hz hc (fun h_9 => ?_) (fun h_9 => ?_)
    · refine x_iconst dX3_has_16 ?_
      refine hret _ _ _ _ _ _ dX3_has_17 rfl ?_
      exact ⟨rfl, rfl, rfl, by omega⟩
    · refine x_iconst dX3_has_12 ?_
      refine x_goto 17 dX3_has_13 (by decide) ?_
      refine hret _ _ _ _ _ _ dX3_has_17 rfl ?_
      exact ⟨rfl, rfl, rfl, by omega⟩
theorem sp_fact (hb : kd b = 3) (hN : NS N) (f k : Nat) {zf zk : Int} (hf : zf = (f : Int)) (hk : zk = (k : Int)) (hl : f < 9 ∧ k < 7) : SpI G mX3_fact .int 0 0 0 0 [.ref b, vi zf, vi zk] K N I (qI K N I (fa I b f k)) := by
  refine SpI.of (own := RX3) (cc := cX3_fact) (L := [some (.ref b), some (vi zf), some (vi zk)]) (by decide) rfl rfl (Nat.le_of_ble_eq_true rfl) rfl (fun Fx hnm hret => ?_)
  refine x_aload_n dX3_fact_0 rfl ?_
  refine x_getR dX3_fact_1 gf_RX3_9 hb (tg_R3 hb) (hN _ _ (ne11_R hb)) ?_
  refine x_iload_n dX3_fact_4 rfl ?_
  refine x_bipush dX3_fact_5 (by decide) ?_
  refine x_imul dX3_fact_7 ?_
  refine x_iload_n dX3_fact_8 rfl ?_
  refine x_iadd dX3_fact_9 ?_
  refine x_iald (7 * f + k) dX3_fact_10 (kd_R1 hb) (by omega) (by rw [ln_R1 hb]; omega) ?_
  refine hret _ _ _ _ _ _ dX3_fact_11 rfl ?_
  exact ⟨rfl, rfl, rfl, (fa_at hl).symm⟩
theorem sp_put (hb : kd b = 3) (hN : NS N) (f k : Nat) {zf zk v : Int} (hf : zf = (f : Int)) (hk : zk = (k : Int)) (hl : f < 9 ∧ k < 7) : SpV G mX3_put 0 0 0 0 [.ref b, vi zf, vi zk, vi v] K N I (qV K N (up I (b + 1) (7 * f + k) v)) := by
  refine SpV.of (own := RX3) (cc := cX3_put) (L := [some (.ref b), some (vi zf), some (vi zk), some (vi v)]) (by decide) rfl rfl (Nat.le_of_ble_eq_true rfl) rfl (fun Fx hnm hret => ?_)
  refine x_aload_n dX3_put_0 rfl ?_
  refine x_getR dX3_put_1 gf_RX3_9 hb (tg_R3 hb) (hN _ _ (ne11_R hb)) ?_
  refine x_iload_n dX3_put_4 rfl ?_
  refine x_bipush dX3_put_5 (by decide) ?_
  refine x_imul dX3_put_7 ?_
  refine x_iload_n dX3_put_8 rfl ?_
  refine x_iadd dX3_put_9 ?_
  refine x_iload_n dX3_put_10 rfl ?_
  refine x_iast (7 * f + k) dX3_put_11 (kd_R1 hb) (by omega) (by rw [ln_R1 hb]; omega) ?_
  refine hret _ _ _ _ _ dX3_put_12 ?_
  exact ⟨rfl, rfl, rfl⟩
theorem sp_turnPlug (hb : kd b = 3) (hN : NS N) (f : Nat) {zf : Int} (hf : zf = (f : Int)) (hl : f < 9) : SpV G mX3_turnPlug 1 23 0 0 [.ref b, vi zf] K N I (qV K N (up I (b + 1) (7 * f + 4) (1 - fa I b f 4))) := by
  refine SpV.of (own := RX3) (cc := cX3_turnPlug) (L := [some (.ref b), some (vi zf)]) (by decide) rfl rfl (Nat.le_of_ble_eq_true rfl) rfl (fun Fx hnm hret => ?_)
  refine x_aload_n dX3_turnPlug_0 rfl ?_
  refine x_iload_n dX3_turnPlug_1 rfl ?_
  refine x_iconst dX3_turnPlug_2 ?_
  refine x_iconst dX3_turnPlug_3 ?_
  refine x_aload_n dX3_turnPlug_4 rfl ?_
  refine x_iload_n dX3_turnPlug_5 rfl ?_
  refine x_iconst dX3_turnPlug_6 ?_
  refine xf_VI2 dX3_turnPlug_7 ml_RX3_50 vw_X3_fact vv_X3_fact (by rw [hb]; rfl) (sp_fact hb hN f 4 hf rfl (by omega)) ⟨Nat.le_of_ble_eq_true rfl, Nat.le_of_ble_eq_true rfl, Nat.le_of_ble_eq_true rfl, Nat.le_of_ble_eq_true rfl, Nat.le_of_ble_eq_true rfl⟩ ?_
  refine x_isub dX3_turnPlug_10 ?_
  refine xf_VV3 dX3_turnPlug_11 ml_RX3_54 vw_X3_put vv_X3_put (by rw [hb]; rfl) (sp_put hb hN f 4 hf rfl (by omega)) ⟨Nat.le_of_ble_eq_true rfl, Nat.le_of_ble_eq_true rfl, Nat.le_of_ble_eq_true rfl, Nat.le_of_ble_eq_true rfl, Nat.le_of_ble_eq_true rfl⟩ ?_
  refine hret _ _ _ _ _ dX3_turnPlug_14 ?_
  exact ⟨rfl, rfl, rfl⟩
theorem sp_lack (hb : kd b = 3) (hN : NS N) (f : Nat) {zf : Int} (hf : zf = (f : Int)) (hl : f < 9) (h1 : 0 ≤ fa I b f 2 ∧ fa I b f 2 ≤ 99) (h2 : 0 ≤ fa I b f 6 ∧ fa I b f 6 ≤ 1000000) : SpI G mX3_lack .int 1 22 0 0 [.ref b, vi zf] K N I (qI K N I (max 0 (fa I b f 2 - fa I b f 6))) := by
  refine SpI.of (own := RX3) (cc := cX3_lack) (L := [some (.ref b), some (vi zf)]) (by decide) rfl rfl (Nat.le_of_ble_eq_true rfl) rfl (fun Fx hnm hret => ?_)
  refine x_iconst dX3_lack_0 ?_
  refine x_aload_n dX3_lack_1 rfl ?_
  refine x_iload_n dX3_lack_2 rfl ?_
  refine x_iconst dX3_lack_3 ?_
  refine xf_VI2 dX3_lack_4 ml_RX3_50 vw_X3_fact vv_X3_fact (by rw [hb]; rfl) (sp_fact hb hN f 2 hf rfl (by omega)) ⟨Nat.le_of_ble_eq_true rfl, Nat.le_of_ble_eq_true rfl, Nat.le_of_ble_eq_true rfl, Nat.le_of_ble_eq_true rfl, Nat.le_of_ble_eq_true rfl⟩ ?_
  refine x_aload_n dX3_lack_7 rfl ?_
  refine x_iload_n dX3_lack_8 rfl ?_
  refine x_bipush dX3_lack_9 (by decide) ?_
  refine xf_VI2 dX3_lack_11 ml_RX3_50 vw_X3_fact vv_X3_fact (by rw [hb]; rfl) (sp_fact hb hN f 6 hf rfl (by omega)) ⟨Nat.le_of_ble_eq_true rfl, Nat.le_of_ble_eq_true rfl, Nat.le_of_ble_eq_true rfl, Nat.le_of_ble_eq_true rfl, Nat.le_of_ble_eq_true rfl⟩ ?_
  refine x_isub dX3_lack_14 ?_
  refine x_max dX3_lack_15 ml_RX3_58 st_mmax ini_java_lang_Math cd_mmax (by unfold inr; omega) (by unfold inr; omega) ⟨Nat.le_of_ble_eq_true rfl, Nat.le_of_ble_eq_true rfl, Nat.le_of_ble_eq_true rfl, Nat.le_of_ble_eq_true rfl⟩ ?_
  refine hret _ _ _ _ _ _ dX3_lack_18 rfl ?_
  exact ⟨rfl, rfl, rfl, rfl⟩
theorem sp_see (hb : kd b = 3) (hN : NS N) (s : Nat) {zf zt : Int} (hs : I b 2 = (s : Int)) (hl : s < 8) : SpV G mX3_see 0 0 0 0 [.ref b, vi zf, vi zt] K N I (qV K N (up (up (up I (b + 3) s zf) (b + 4) s zt) b 2 (s + 1))) := by
  refine SpV.of (own := RX3) (cc := cX3_see) (L := [some (.ref b), some (vi zf), some (vi zt)]) (by decide) rfl rfl (Nat.le_of_ble_eq_true rfl) rfl (fun Fx hnm hret => ?_)
  refine x_aload_n dX3_see_0 rfl ?_
  refine x_getR dX3_see_1 gf_RX3_18 hb (tg_R5 hb) (hN _ _ (ne11_R hb)) ?_
  refine x_aload_n dX3_see_4 rfl ?_
  refine x_getI dX3_see_5 gf_RX3_44 hb (tg_R2 hb) ?_
  refine x_iload_n dX3_see_8 rfl ?_
  refine x_iast (s) dX3_see_9 (kd_R3 hb) hs (by rw [ln_R3 hb]; omega) ?_
  refine x_aload_n dX3_see_10 rfl ?_
  refine x_getR dX3_see_11 gf_RX3_21 hb (tg_R6 hb) (hN _ _ (ne11_R hb)) ?_
  refine x_aload_n dX3_see_14 rfl ?_
  refine x_getI dX3_see_15 gf_RX3_44 hb (tg_R2 hb) ?_
  refine x_iload_n dX3_see_18 rfl ?_
  refine x_iast (s) dX3_see_19 (kd_R4 hb) (by rw [up_n1 (by omega)]; exact hs) (by rw [ln_R4 hb]; omega) ?_
  refine x_aload_n dX3_see_20 rfl ?_
  refine x_dupR dX3_see_21 ?_
  refine x_getI dX3_see_22 gf_RX3_44 hb (tg_R2 hb) ?_
  refine x_iconst dX3_see_25 ?_
  refine x_iadd dX3_see_26 ?_
  refine x_putI dX3_see_27 pf_RX3_44 hb (tg_R2 hb) ?_
  refine hret _ _ _ _ _ dX3_see_30 ?_
  exact ⟨rfl, rfl, by rw [up_n1 (by omega), up_n1 (by omega), hs]⟩
def l0R (I : MM) (b : Nat) (kn : Int) : Int := max 0 (I (b + 2) 0 + (if kn = 3 then I (b + 2) 1 else 0) - (if kn = 1 then I (b + 2) 2 else 0))
theorem sp_level (hb : kd b = 3) (hN : NS N) {kn : Int} (hk : inr kn) (h0 : 0 ≤ I (b + 2) 0 ∧ I (b + 2) 0 ≤ 99) (h1 : 0 ≤ I (b + 2) 1 ∧ I (b + 2) 1 ≤ 50) (h2 : 0 ≤ I (b + 2) 2 ∧ I (b + 2) 2 ≤ 50) : SpI G mX3_levelAtSpring .int 1 21 0 0 [.ref b, vi kn] K N I (qI K N I (l0R I b kn)) := by
  refine SpI.of (own := RX3) (cc := cX3_levelAtSpring) (L := [some (.ref b), some (vi kn), none]) (by decide) rfl rfl (Nat.le_of_ble_eq_true rfl) rfl (fun Fx hnm hret => ?_)
  refine x_aload_n dX3_levelAtSpring_0 rfl ?_
  refine x_getR dX3_levelAtSpring_1 gf_RX3_15 hb (tg_R4 hb) (hN _ _ (ne11_R hb)) ?_
  refine x_iconst dX3_levelAtSpring_4 ?_
  refine x_iald (0) dX3_levelAtSpring_5 (kd_R2 hb) (by omega) (by rw [ln_R2 hb]; omega) ?_
  refine x_ist2 dX3_levelAtSpring_6 ?_
  refine x_iload_n dX3_levelAtSpring_7 rfl ?_
  refine x_iconst dX3_levelAtSpring_8 ?_
  refine x_icmp_ne 21 dX3_levelAtSpring_9 (by decide) hk (by unfold inr; omega) (fun h_9 => ?_) (fun h_9 => ?_)
  · refine x_iload_n dX3_levelAtSpring_21 rfl ?_
    refine x_iconst dX3_levelAtSpring_22 ?_
    refine x_icmp_ne 35 dX3_levelAtSpring_23 (by decide) hk (by unfold inr; omega) (fun h_23 => ?_) (fun h_23 => ?_)
    · refine x_iconst dX3_levelAtSpring_35 ?_
      refine x_iload_n dX3_levelAtSpring_36 rfl ?_
      refine x_max dX3_levelAtSpring_37 ml_RX3_58 st_mmax ini_java_lang_Math cd_mmax (by unfold inr; omega) (by unfold inr; omega) ⟨Nat.le_of_ble_eq_true rfl, Nat.le_of_ble_eq_true rfl, Nat.le_of_ble_eq_true rfl, Nat.le_of_ble_eq_true rfl⟩ ?_
      refine hret _ _ _ _ _ _ dX3_levelAtSpring_40 rfl ?_
      exact ⟨rfl, rfl, rfl, by unfold l0R; (repeat split) <;> omega⟩
    · refine x_iload_n dX3_levelAtSpring_26 rfl ?_
      refine x_aload_n dX3_levelAtSpring_27 rfl ?_
      refine x_getR dX3_levelAtSpring_28 gf_RX3_15 hb (tg_R4 hb) (hN _ _ (ne11_R hb)) ?_
      refine x_iconst dX3_levelAtSpring_31 ?_
      refine x_iald (2) dX3_levelAtSpring_32 (kd_R2 hb) (by omega) (by rw [ln_R2 hb]; omega) ?_
      refine x_isub dX3_levelAtSpring_33 ?_
      refine x_ist2 dX3_levelAtSpring_34 ?_
      refine x_iconst dX3_levelAtSpring_35 ?_
      refine x_iload_n dX3_levelAtSpring_36 rfl ?_
      refine x_max dX3_levelAtSpring_37 ml_RX3_58 st_mmax ini_java_lang_Math cd_mmax (by unfold inr; omega) (by unfold inr; omega) ⟨Nat.le_of_ble_eq_true rfl, Nat.le_of_ble_eq_true rfl, Nat.le_of_ble_eq_true rfl, Nat.le_of_ble_eq_true rfl⟩ ?_
      refine hret _ _ _ _ _ _ dX3_levelAtSpring_40 rfl ?_
      exact ⟨rfl, rfl, rfl, by unfold l0R; (repeat split) <;> omega⟩
  · refine x_iload_n dX3_levelAtSpring_12 rfl ?_
    refine x_aload_n dX3_levelAtSpring_13 rfl ?_
    refine x_getR dX3_levelAtSpring_14 gf_RX3_15 hb (tg_R4 hb) (hN _ _ (ne11_R hb)) ?_
    refine x_iconst dX3_levelAtSpring_17 ?_
    refine x_iald (1) dX3_levelAtSpring_18 (kd_R2 hb) (by omega) (by rw [ln_R2 hb]; omega) ?_
    refine x_iadd dX3_levelAtSpring_19 ?_
    refine x_ist2 dX3_levelAtSpring_20 ?_
    refine x_iload_n dX3_levelAtSpring_21 rfl ?_
    refine x_iconst dX3_levelAtSpring_22 ?_
    refine x_icmp_ne 35 dX3_levelAtSpring_23 (by decide) hk (by unfold inr; omega) (fun h_23 => ?_) (fun h_23 => ?_)
    · refine x_iconst dX3_levelAtSpring_35 ?_
      refine x_iload_n dX3_levelAtSpring_36 rfl ?_
      refine x_max dX3_levelAtSpring_37 ml_RX3_58 st_mmax ini_java_lang_Math cd_mmax (by unfold inr; omega) (by unfold inr; omega) ⟨Nat.le_of_ble_eq_true rfl, Nat.le_of_ble_eq_true rfl, Nat.le_of_ble_eq_true rfl, Nat.le_of_ble_eq_true rfl⟩ ?_
      refine hret _ _ _ _ _ _ dX3_levelAtSpring_40 rfl ?_
      exact ⟨rfl, rfl, rfl, by unfold l0R; (repeat split) <;> omega⟩
    · refine x_iload_n dX3_levelAtSpring_26 rfl ?_
      refine x_aload_n dX3_levelAtSpring_27 rfl ?_
      refine x_getR dX3_levelAtSpring_28 gf_RX3_15 hb (tg_R4 hb) (hN _ _ (ne11_R hb)) ?_
      refine x_iconst dX3_levelAtSpring_31 ?_
      refine x_iald (2) dX3_levelAtSpring_32 (kd_R2 hb) (by omega) (by rw [ln_R2 hb]; omega) ?_
      refine x_isub dX3_levelAtSpring_33 ?_
      refine x_ist2 dX3_levelAtSpring_34 ?_
      refine x_iconst dX3_levelAtSpring_35 ?_
      refine x_iload_n dX3_levelAtSpring_36 rfl ?_
      refine x_max dX3_levelAtSpring_37 ml_RX3_58 st_mmax ini_java_lang_Math cd_mmax (by unfold inr; omega) (by unfold inr; omega) ⟨Nat.le_of_ble_eq_true rfl, Nat.le_of_ble_eq_true rfl, Nat.le_of_ble_eq_true rfl, Nat.le_of_ble_eq_true rfl⟩ ?_
      refine hret _ _ _ _ _ _ dX3_levelAtSpring_40 rfl ?_
      exact ⟨rfl, rfl, rfl, by unfold l0R; (repeat split) <;> omega⟩
theorem sp_takesNone (hb : kd b = 3) (hN : NS N) (f : Nat) {zf kn : Int} (hf : zf = (f : Int)) (hl : f < 9) (hk : inr kn) (h1 : 0 ≤ fa I b f 3 ∧ fa I b f 3 ≤ 1) (h2 : 0 ≤ fa I b f 4 ∧ fa I b f 4 ≤ 1) : SpI G mX3_takesNone .boolean 1 22 0 0 [.ref b, vi zf, vi kn] K N I (qI K N I (if fa I b f 4 ≠ 0 ∨ (kn = 2 ∧ fa I b f 3 ≠ 0) then 1 else 0)) := by
  refine SpI.of (own := RX3) (cc := cX3_takesNone) (L := [some (.ref b), some (vi zf), some (vi kn)]) (by decide) rfl rfl (Nat.le_of_ble_eq_true rfl) rfl (fun Fx hnm hret => ?_)
  refine x_aload_n dX3_takesNone_0 rfl ?_
  refine x_iload_n dX3_takesNone_1 rfl ?_
  refine x_iconst dX3_takesNone_2 ?_
  refine xf_VI2 dX3_takesNone_3 ml_RX3_50 vw_X3_fact vv_X3_fact (by rw [hb]; rfl) (sp_fact hb hN f 4 hf rfl (by omega)) ⟨Nat.le_of_ble_eq_true rfl, Nat.le_of_ble_eq_true rfl, Nat.le_of_ble_eq_true rfl, Nat.le_of_ble_eq_true rfl, Nat.le_of_ble_eq_true rfl⟩ ?_
  refine x_if_ne 23 dX3_takesNone_6 (by decide) (by unfold inr; omega) (fun h_6 => ?_) (fun h_6 => ?_)
  · refine x_iconst dX3_takesNone_23 ?_
    refine x_goto 28 dX3_takesNone_24 (by decide) ?_
    refine hret _ _ _ _ _ _ dX3_takesNone_28 rfl ?_
    exact ⟨rfl, rfl, rfl, by split <;> omega⟩
  · refine x_iload_n dX3_takesNone_9 rfl ?_
    refine x_iconst dX3_takesNone_10 ?_
    refine x_icmp_ne 27 dX3_takesNone_11 (by decide) hk (by unfold inr; omega) (fun h_11 => ?_) (fun h_11 => ?_)
    · refine x_iconst dX3_takesNone_27 ?_
      refine hret _ _ _ _ _ _ dX3_takesNone_28 rfl ?_
      exact ⟨rfl, rfl, rfl, by split <;> omega⟩
    · refine x_aload_n dX3_takesNone_14 rfl ?_
      refine x_iload_n dX3_takesNone_15 rfl ?_
      refine x_iconst dX3_takesNone_16 ?_
      refine xf_VI2 dX3_takesNone_17 ml_RX3_50 vw_X3_fact vv_X3_fact (by rw [hb]; rfl) (sp_fact hb hN f 3 hf rfl (by omega)) ⟨Nat.le_of_ble_eq_true rfl, Nat.le_of_ble_eq_true rfl, Nat.le_of_ble_eq_true rfl, Nat.le_of_ble_eq_true rfl, Nat.le_of_ble_eq_true rfl⟩ ?_
      refine x_if_eq 27 dX3_takesNone_20 (by decide) (by unfold inr; omega) (fun h_20 => ?_) (fun h_20 => ?_)
      · refine x_iconst dX3_takesNone_27 ?_
        refine hret _ _ _ _ _ _ dX3_takesNone_28 rfl ?_
        exact ⟨rfl, rfl, rfl, by split <;> omega⟩
      · refine x_iconst dX3_takesNone_23 ?_
        refine x_goto 28 dX3_takesNone_24 (by decide) ?_
        refine hret _ _ _ _ _ _ dX3_takesNone_28 rfl ?_
        exact ⟨rfl, rfl, rfl, by split <;> omega⟩
def reaR (I : MM) (b f : Nat) (a : Int) : Int := if a = 5 ∧ fa I b f 0 ≤ 0 then 1 else if a = 6 ∧ 50 ≤ fa I b f 0 then 1 else if a = 7 ∧ 9 ≤ fa I b f 1 then 2 else 0
theorem sp_reason (hb : kd b = 3) (hN : NS N) (f : Nat) {zf a : Int} (hf : zf = (f : Int)) (hl : f < 9) (hk : inr a) (h1 : inr (fa I b f 0)) (h2 : inr (fa I b f 1)) : SpI G mX3_reasonAgainst .int 1 22 0 0 [.ref b, vi a, vi zf] K N I (qI K N I (reaR I b f a)) := by
  refine SpI.of (own := RX3) (cc := cX3_reasonAgainst) (L := [some (.ref b), some (vi a), some (vi zf)]) (by decide) rfl rfl (Nat.le_of_ble_eq_true rfl) rfl (fun Fx hnm hret => ?_)
  refine x_iload_n dX3_reasonAgainst_0 rfl ?_
  refine x_iconst dX3_reasonAgainst_1 ?_
  refine x_icmp_ne 16 dX3_reasonAgainst_2 (by decide) hk (by unfold inr; omega) (fun h_2 => ?_) (fun h_2 => ?_)
  · refine x_iload_n dX3_reasonAgainst_16 rfl ?_
    refine x_bipush dX3_reasonAgainst_17 (by decide) ?_
    refine x_icmp_ne 38 dX3_reasonAgainst_19 (by decide) hk (by unfold inr; omega) (fun h_19 => ?_) (fun h_19 => ?_)
    · refine x_iload_n dX3_reasonAgainst_38 rfl ?_
      refine x_bipush dX3_reasonAgainst_39 (by decide) ?_
      refine x_icmp_ne 60 dX3_reasonAgainst_41 (by decide) hk (by unfold inr; omega) (fun h_41 => ?_) (fun h_41 => ?_)
      · refine x_iconst dX3_reasonAgainst_60 ?_
        refine hret _ _ _ _ _ _ dX3_reasonAgainst_61 rfl ?_
        exact ⟨rfl, rfl, rfl, by unfold reaR; (repeat split) <;> first | rfl | (simp at *; omega)⟩
      · refine x_aload_n dX3_reasonAgainst_44 rfl ?_
        refine x_iload_n dX3_reasonAgainst_45 rfl ?_
        refine x_iconst dX3_reasonAgainst_46 ?_
        refine xf_VI2 dX3_reasonAgainst_47 ml_RX3_50 vw_X3_fact vv_X3_fact (by rw [hb]; rfl) (sp_fact hb hN f 1 hf rfl (by omega)) ⟨Nat.le_of_ble_eq_true rfl, Nat.le_of_ble_eq_true rfl, Nat.le_of_ble_eq_true rfl, Nat.le_of_ble_eq_true rfl, Nat.le_of_ble_eq_true rfl⟩ ?_
        refine x_getsN (k := 2) dX3_reasonAgainst_50 (by decide +kernel) (by decide) rfl ?_
        refine x_iconst dX3_reasonAgainst_53 ?_
        refine x_sald (k := 2) (1) dX3_reasonAgainst_54 (by decide) rfl (by omega) (show _ < 7 by omega) ?_
        refine x_eqV (b := 9) rfl ?_
        refine x_icmp_lt 60 dX3_reasonAgainst_55 (by decide) h2 (by unfold inr; omega) (fun h_55 => ?_) (fun h_55 => ?_)
        · refine x_iconst dX3_reasonAgainst_60 ?_
          refine hret _ _ _ _ _ _ dX3_reasonAgainst_61 rfl ?_
          exact ⟨rfl, rfl, rfl, by unfold reaR; (repeat split) <;> first | rfl | (simp at *; omega)⟩
        · refine x_iconst dX3_reasonAgainst_58 ?_
          refine hret _ _ _ _ _ _ dX3_reasonAgainst_59 rfl ?_
          exact ⟨rfl, rfl, rfl, by unfold reaR; (repeat split) <;> first | rfl | (simp at *; omega)⟩
    · refine x_aload_n dX3_reasonAgainst_22 rfl ?_
      refine x_iload_n dX3_reasonAgainst_23 rfl ?_
      refine x_iconst dX3_reasonAgainst_24 ?_
      refine xf_VI2 dX3_reasonAgainst_25 ml_RX3_50 vw_X3_fact vv_X3_fact (by rw [hb]; rfl) (sp_fact hb hN f 0 hf rfl (by omega)) ⟨Nat.le_of_ble_eq_true rfl, Nat.le_of_ble_eq_true rfl, Nat.le_of_ble_eq_true rfl, Nat.le_of_ble_eq_true rfl, Nat.le_of_ble_eq_true rfl⟩ ?_
      refine x_getsN (k := 2) dX3_reasonAgainst_28 (by decide +kernel) (by decide) rfl ?_
      refine x_iconst dX3_reasonAgainst_31 ?_
      refine x_sald (k := 2) (0) dX3_reasonAgainst_32 (by decide) rfl (by omega) (show _ < 7 by omega) ?_
      refine x_eqV (b := 50) rfl ?_
      refine x_icmp_lt 38 dX3_reasonAgainst_33 (by decide) h1 (by unfold inr; omega) (fun h_33 => ?_) (fun h_33 => ?_)
      · refine x_iload_n dX3_reasonAgainst_38 rfl ?_
        refine x_bipush dX3_reasonAgainst_39 (by decide) ?_
        refine x_icmp_ne 60 dX3_reasonAgainst_41 (by decide) hk (by unfold inr; omega) (fun h_41 => ?_) (fun h_41 => ?_)
        · refine x_iconst dX3_reasonAgainst_60 ?_
          refine hret _ _ _ _ _ _ dX3_reasonAgainst_61 rfl ?_
          exact ⟨rfl, rfl, rfl, by unfold reaR; (repeat split) <;> first | rfl | (simp at *; omega)⟩
        · refine x_aload_n dX3_reasonAgainst_44 rfl ?_
          refine x_iload_n dX3_reasonAgainst_45 rfl ?_
          refine x_iconst dX3_reasonAgainst_46 ?_
          refine xf_VI2 dX3_reasonAgainst_47 ml_RX3_50 vw_X3_fact vv_X3_fact (by rw [hb]; rfl) (sp_fact hb hN f 1 hf rfl (by omega)) ⟨Nat.le_of_ble_eq_true rfl, Nat.le_of_ble_eq_true rfl, Nat.le_of_ble_eq_true rfl, Nat.le_of_ble_eq_true rfl, Nat.le_of_ble_eq_true rfl⟩ ?_
          refine x_getsN (k := 2) dX3_reasonAgainst_50 (by decide +kernel) (by decide) rfl ?_
          refine x_iconst dX3_reasonAgainst_53 ?_
          refine x_sald (k := 2) (1) dX3_reasonAgainst_54 (by decide) rfl (by omega) (show _ < 7 by omega) ?_
          refine x_eqV (b := 9) rfl ?_
          refine x_icmp_lt 60 dX3_reasonAgainst_55 (by decide) h2 (by unfold inr; omega) (fun h_55 => ?_) (fun h_55 => ?_)
          · refine x_iconst dX3_reasonAgainst_60 ?_
            refine hret _ _ _ _ _ _ dX3_reasonAgainst_61 rfl ?_
            exact ⟨rfl, rfl, rfl, by unfold reaR; (repeat split) <;> first | rfl | (simp at *; omega)⟩
          · refine x_iconst dX3_reasonAgainst_58 ?_
            refine hret _ _ _ _ _ _ dX3_reasonAgainst_59 rfl ?_
            exact ⟨rfl, rfl, rfl, by unfold reaR; (repeat split) <;> first | rfl | (simp at *; omega)⟩
      · refine x_iconst dX3_reasonAgainst_36 ?_
        refine hret _ _ _ _ _ _ dX3_reasonAgainst_37 rfl ?_
        exact ⟨rfl, rfl, rfl, by unfold reaR; (repeat split) <;> first | rfl | (simp at *; omega)⟩
  · refine x_aload_n dX3_reasonAgainst_5 rfl ?_
    refine x_iload_n dX3_reasonAgainst_6 rfl ?_
    refine x_iconst dX3_reasonAgainst_7 ?_
    refine xf_VI2 dX3_reasonAgainst_8 ml_RX3_50 vw_X3_fact vv_X3_fact (by rw [hb]; rfl) (sp_fact hb hN f 0 hf rfl (by omega)) ⟨Nat.le_of_ble_eq_true rfl, Nat.le_of_ble_eq_true rfl, Nat.le_of_ble_eq_true rfl, Nat.le_of_ble_eq_true rfl, Nat.le_of_ble_eq_true rfl⟩ ?_
    refine x_if_gt 16 dX3_reasonAgainst_11 (by decide) h1 (fun h_11 => ?_) (fun h_11 => ?_)
    · refine x_iload_n dX3_reasonAgainst_16 rfl ?_
      refine x_bipush dX3_reasonAgainst_17 (by decide) ?_
      refine x_icmp_ne 38 dX3_reasonAgainst_19 (by decide) hk (by unfold inr; omega) (fun h_19 => ?_) (fun h_19 => ?_)
      · refine x_iload_n dX3_reasonAgainst_38 rfl ?_
        refine x_bipush dX3_reasonAgainst_39 (by decide) ?_
        refine x_icmp_ne 60 dX3_reasonAgainst_41 (by decide) hk (by unfold inr; omega) (fun h_41 => ?_) (fun h_41 => ?_)
        · refine x_iconst dX3_reasonAgainst_60 ?_
          refine hret _ _ _ _ _ _ dX3_reasonAgainst_61 rfl ?_
          exact ⟨rfl, rfl, rfl, by unfold reaR; (repeat split) <;> first | rfl | (simp at *; omega)⟩
        · refine x_aload_n dX3_reasonAgainst_44 rfl ?_
          refine x_iload_n dX3_reasonAgainst_45 rfl ?_
          refine x_iconst dX3_reasonAgainst_46 ?_
          refine xf_VI2 dX3_reasonAgainst_47 ml_RX3_50 vw_X3_fact vv_X3_fact (by rw [hb]; rfl) (sp_fact hb hN f 1 hf rfl (by omega)) ⟨Nat.le_of_ble_eq_true rfl, Nat.le_of_ble_eq_true rfl, Nat.le_of_ble_eq_true rfl, Nat.le_of_ble_eq_true rfl, Nat.le_of_ble_eq_true rfl⟩ ?_
          refine x_getsN (k := 2) dX3_reasonAgainst_50 (by decide +kernel) (by decide) rfl ?_
          refine x_iconst dX3_reasonAgainst_53 ?_
          refine x_sald (k := 2) (1) dX3_reasonAgainst_54 (by decide) rfl (by omega) (show _ < 7 by omega) ?_
          refine x_eqV (b := 9) rfl ?_
          refine x_icmp_lt 60 dX3_reasonAgainst_55 (by decide) h2 (by unfold inr; omega) (fun h_55 => ?_) (fun h_55 => ?_)
          · refine x_iconst dX3_reasonAgainst_60 ?_
            refine hret _ _ _ _ _ _ dX3_reasonAgainst_61 rfl ?_
            exact ⟨rfl, rfl, rfl, by unfold reaR; (repeat split) <;> first | rfl | (simp at *; omega)⟩
          · refine x_iconst dX3_reasonAgainst_58 ?_
            refine hret _ _ _ _ _ _ dX3_reasonAgainst_59 rfl ?_
            exact ⟨rfl, rfl, rfl, by unfold reaR; (repeat split) <;> first | rfl | (simp at *; omega)⟩
      · refine x_aload_n dX3_reasonAgainst_22 rfl ?_
        refine x_iload_n dX3_reasonAgainst_23 rfl ?_
        refine x_iconst dX3_reasonAgainst_24 ?_
        refine xf_VI2 dX3_reasonAgainst_25 ml_RX3_50 vw_X3_fact vv_X3_fact (by rw [hb]; rfl) (sp_fact hb hN f 0 hf rfl (by omega)) ⟨Nat.le_of_ble_eq_true rfl, Nat.le_of_ble_eq_true rfl, Nat.le_of_ble_eq_true rfl, Nat.le_of_ble_eq_true rfl, Nat.le_of_ble_eq_true rfl⟩ ?_
        refine x_getsN (k := 2) dX3_reasonAgainst_28 (by decide +kernel) (by decide) rfl ?_
        refine x_iconst dX3_reasonAgainst_31 ?_
        refine x_sald (k := 2) (0) dX3_reasonAgainst_32 (by decide) rfl (by omega) (show _ < 7 by omega) ?_
        refine x_eqV (b := 50) rfl ?_
        refine x_icmp_lt 38 dX3_reasonAgainst_33 (by decide) h1 (by unfold inr; omega) (fun h_33 => ?_) (fun h_33 => ?_)
        · refine x_iload_n dX3_reasonAgainst_38 rfl ?_
          refine x_bipush dX3_reasonAgainst_39 (by decide) ?_
          refine x_icmp_ne 60 dX3_reasonAgainst_41 (by decide) hk (by unfold inr; omega) (fun h_41 => ?_) (fun h_41 => ?_)
          · refine x_iconst dX3_reasonAgainst_60 ?_
            refine hret _ _ _ _ _ _ dX3_reasonAgainst_61 rfl ?_
            exact ⟨rfl, rfl, rfl, by unfold reaR; (repeat split) <;> first | rfl | (simp at *; omega)⟩
          · refine x_aload_n dX3_reasonAgainst_44 rfl ?_
            refine x_iload_n dX3_reasonAgainst_45 rfl ?_
            refine x_iconst dX3_reasonAgainst_46 ?_
            refine xf_VI2 dX3_reasonAgainst_47 ml_RX3_50 vw_X3_fact vv_X3_fact (by rw [hb]; rfl) (sp_fact hb hN f 1 hf rfl (by omega)) ⟨Nat.le_of_ble_eq_true rfl, Nat.le_of_ble_eq_true rfl, Nat.le_of_ble_eq_true rfl, Nat.le_of_ble_eq_true rfl, Nat.le_of_ble_eq_true rfl⟩ ?_
            refine x_getsN (k := 2) dX3_reasonAgainst_50 (by decide +kernel) (by decide) rfl ?_
            refine x_iconst dX3_reasonAgainst_53 ?_
            refine x_sald (k := 2) (1) dX3_reasonAgainst_54 (by decide) rfl (by omega) (show _ < 7 by omega) ?_
            refine x_eqV (b := 9) rfl ?_
            refine x_icmp_lt 60 dX3_reasonAgainst_55 (by decide) h2 (by unfold inr; omega) (fun h_55 => ?_) (fun h_55 => ?_)
            · refine x_iconst dX3_reasonAgainst_60 ?_
              refine hret _ _ _ _ _ _ dX3_reasonAgainst_61 rfl ?_
              exact ⟨rfl, rfl, rfl, by unfold reaR; (repeat split) <;> first | rfl | (simp at *; omega)⟩
            · refine x_iconst dX3_reasonAgainst_58 ?_
              refine hret _ _ _ _ _ _ dX3_reasonAgainst_59 rfl ?_
              exact ⟨rfl, rfl, rfl, by unfold reaR; (repeat split) <;> first | rfl | (simp at *; omega)⟩
        · refine x_iconst dX3_reasonAgainst_36 ?_
          refine hret _ _ _ _ _ _ dX3_reasonAgainst_37 rfl ?_
          exact ⟨rfl, rfl, rfl, by unfold reaR; (repeat split) <;> first | rfl | (simp at *; omega)⟩
    · refine x_iconst dX3_reasonAgainst_14 ?_
      refine hret _ _ _ _ _ _ dX3_reasonAgainst_15 rfl ?_
      exact ⟨rfl, rfl, rfl, by unfold reaR; (repeat split) <;> first | rfl | (simp at *; omega)⟩
end FR

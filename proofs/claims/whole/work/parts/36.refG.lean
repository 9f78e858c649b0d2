/-! ===== the reference: leaks, who bored in the night ===== -/
/-- the reference's sights -/
def SM (I : MM) (n s : Nat) : Prop := I 50 8 = (s : Int) ∧ s ≤ 8 ∧ ∀ j, j < s → (0 ≤ I 52 j ∧ I 52 j < n) ∧ (0 ≤ I 53 j ∧ I 53 j ≤ 9)
theorem SM.of {I J : MM} {n s : Nat} (h : SM I n s) (h8 : J 50 8 = I 50 8) (h52 : ∀ j, J 52 j = I 52 j) (h53 : ∀ j, J 53 j = I 53 j) : SM J n s :=
  ⟨h8.trans h.1, h.2.1, fun j hj => by rw [h52, h53]; exact h.2.2 j hj⟩
theorem kpM.SM {I J : MM} {n s : Nat} (h : kpM I J) (hG : SM I n s) : SM J n s := hG.of (h 50 8 (by unfold pcm; omega)) (fun j => h 52 j (by unfold pcm; omega)) (fun j => h 53 j (by unfold pcm; omega))
theorem kpX.SM {I J : MM} {n s j : Nat} (h : kpX 51 j I J) (hG : SM I n s) : SM J n s := hG.of (h 50 8 (by unfold pcm; omega) (by omega)) (fun j => h 52 j (by unfold pcm; omega) (by omega)) (fun j => h 53 j (by unfold pcm; omega) (by omega))
theorem kpM.s52 {I J : MM} (h : kpM I J) : J 52 = I 52 := by funext j; exact h 52 j (by unfold pcm; omega)
theorem kpM.s53 {I J : MM} (h : kpM I J) : J 53 = I 53 := by funext j; exact h 53 j (by unfold pcm; omega)
theorem kpX.s52 {I J : MM} {i : Nat} (h : kpX 51 i I J) : J 52 = I 52 := by funext j; exact h 52 j (by unfold pcm; omega) (by omega)
theorem kpX.s53 {I J : MM} {i : Nat} (h : kpX 51 i I J) : J 53 = I 53 := by funext j; exact h 53 j (by unfold pcm; omega) (by omega)
theorem clL_pre {P : Nat → Bool} {V : Nat → Int} {k : Nat} : ∀ d, ∃ r, clL P V (k + d) = clL P V k ++ r
  | 0 => ⟨[], (List.append_nil _).symm⟩
  | d + 1 => by
    obtain ⟨r, hr⟩ := clL_pre (P := P) (V := V) (k := k) d
    exact ⟨r ++ (if P (k + d) = true then [V (k + d)] else []), by rw [← List.append_assoc, ← hr]; rfl⟩
theorem clA_pre {L : Nat → List Int} {f : Nat} : ∀ d, ∃ r, clA L (f + d) = clA L f ++ r
  | 0 => ⟨[], (List.append_nil _).symm⟩
  | d + 1 => by
    obtain ⟨r, hr⟩ := clA_pre (L := L) (f := f) d
    exact ⟨r ++ L (f + d), by rw [← List.append_assoc, ← hr]; rfl⟩
theorem foA_at {L fl r : List Int} {x i : Int} (h : L = (fl ++ [x]) ++ r) (hi : i = (fl.length : Int)) : foA L i = x := by
  unfold foA
  rw [if_neg (by omega), if_pos (by rw [h]; simp; omega), h, hi]
  simp
theorem foA_no {L : List Int} {i : Int} (h : ¬ (0 ≤ i ∧ i < L.length)) : foA L i = if i = -1 then (L.length : Int) else -6 := by
  unfold foA
  rw [if_neg h]
theorem cl_hit {L : Nat → List Int} {P : Nat → Bool} {V : Nat → Int} {n g k c : Nat} {i : Int} (hL : L g = clL P V c) (hg : g < n) (hk : k < c) (hP : P k = true) (hi : i = ((clA L g ++ clL P V k).length : Int)) : foA (clA L n) i = V k := by
  obtain ⟨d, hd⟩ : ∃ d, n = (g + 1) + d := ⟨n - (g + 1), by omega⟩
  obtain ⟨e, he⟩ : ∃ e, c = (k + 1) + e := ⟨c - (k + 1), by omega⟩
  obtain ⟨r1, h1⟩ := clA_pre (L := L) (f := g + 1) d
  obtain ⟨r2, h2⟩ := clL_pre (P := P) (V := V) (k := k + 1) e
  refine foA_at (fl := clA L g ++ clL P V k) (r := r2 ++ r1) ?_ hi
  rw [hd, h1, show clA L (g + 1) = clA L g ++ L g from rfl, hL, he, h2, show clL P V (k + 1) = clL P V k ++ (if P k = true then [V k] else []) from rfl, if_pos hP]
  simp only [List.append_assoc]
section FR
variable {G : GT} {K : List Nat} {N : NN} {I : MM} {n : Nat}
theorem sp_isHeardSo (hN : NS N) (hB : RM I n) {s : Nat} (hG : SM I n s) : SpI G mX5_isHeardSo .boolean 3 69 0 0 [.ref 50] K N I (qI K N (fmJ I 0 n) (if sgB (tok (fm I) 0 (l0M I 0)) (I 52) (I 53) s = true then 1 else 0)) := by
  refine SpI.of (own := RX5) (cc := cX5_isHeardSo) (L := [some (.ref 50), none, none]) (by decide) rfl rfl (Nat.le_of_ble_eq_true rfl) rfl (fun Fx hnm hret => ?_)
  have hn9 := hB.2.2.1
  have hs8 := hG.2.1
  obtain ⟨T, hT⟩ : ∃ T, T = tok (fm I) 0 (l0M I 0) := ⟨_, rfl⟩
  have hTb : ∀ g, g < n → 0 ≤ T g ∧ T g ≤ 9 := fun g hg => by rw [hT]; exact hB.tokb hg
  rw [← hT] at hret
  have lp : ∀ (m : Nat) (j : Nat) (z a : Int), j ≤ s → s < j + m → z = (j : Int) → a = (if sgB T (I 52) (I 53) j = true then 1 else 0) → XX G RX5 cX5_isHeardSo (RmW 3 69 0 0) Fx 9 [some (.ref 50), some (vi a), some (vi z)] [] K N (fmJ I 0 n) 0 0 := by
    intro m
    induction m with
    | zero => intros; exfalso; omega
    | succ m ih =>
      intro j z a h0 h1 h2 h3
      have hab : a = 0 ∨ a = 1 := by rw [h3]; split <;> omega
      have bG : j < s → _ := hG.2.2 j
      have hst : sgB T (I 52) (I 53) (j + 1) = (sgB T (I 52) (I 53) j && decide (T (I 52 j).toNat = I 53 j)) := rfl
      refine x_iload_n dX5_isHeardSo_9 rfl ?_
      refine x_aload_n dX5_isHeardSo_10 rfl ?_
      refine x_getI dX5_isHeardSo_11 gf_RX5_79 rfl rfl ?_
      rw [fmJ_o (by omega) (by omega), hG.1]
      refine x_icmp_ge 53 dX5_isHeardSo_14 (by decide) (by unfold inr; omega) (by unfold inr; omega) (fun h_14 => ?_) (fun h_14 => ?_)
      · refine x_iload_n dX5_isHeardSo_53 rfl ?_
        refine hret _ _ _ _ _ _ dX5_isHeardSo_54 (show narrow .boolean (vi a) = vi a by rw [h3]; exact nbz) ?_
        obtain rfl : j = s := by omega
        exact ⟨rfl, rfl, rfl, h3⟩
      · refine x_iload_n dX5_isHeardSo_17 rfl ?_
        refine x_if_eq 45 dX5_isHeardSo_18 (by decide) (by unfold inr; omega) (fun h_18 => ?_) (fun h_18 => ?_)
        · refine x_iconst dX5_isHeardSo_45 ?_
          refine x_ist1 dX5_isHeardSo_46 ?_
          refine x_inc2 dX5_isHeardSo_47 ?_
          refine x_goto 9 dX5_isHeardSo_50 (by decide) ?_
          refine ih (j + 1) _ _ (by omega) (by omega) (by omega) ?_
          rw [hst]
          by_cases y : sgB T (I 52) (I 53) j = true
          · rw [if_pos y] at h3
            rw [y, Bool.true_and]
            first
            | (exfalso; omega)
            | (rw [if_pos (decide_eq_true (by omega))])
            | (rw [if_neg (by rw [decide_eq_true_iff]; omega)])
          · rw [if_neg y] at h3
            rw [Bool.eq_false_iff.mpr y, Bool.false_and]
            first
            | (rw [if_neg (by decide)]; done)
            | (exfalso; omega)
        · refine x_aload_n dX5_isHeardSo_21 rfl ?_
          refine x_getR (j := 57) dX5_isHeardSo_22 gf_RX5_28 rfl rfl (hN _ _ (by decide)) ?_
          refine x_aload_n dX5_isHeardSo_25 rfl ?_
          refine x_getR (j := 52) dX5_isHeardSo_26 gf_RX5_13 rfl rfl (hN _ _ (by decide)) ?_
          refine x_iload_n dX5_isHeardSo_29 rfl ?_
          refine x_iald (j) dX5_isHeardSo_30 rfl h2 (show _ < 8 by omega) ?_
          rw [fmJ_o (by omega) (by omega)]
          have bG2 := bG (by omega)
          obtain ⟨i, hi⟩ := toN bG2.1.1
          rw [hi]
          rw [hi, show ((i : Nat) : Int).toNat = i from rfl] at hst
          refine x_iald (i) dX5_isHeardSo_31 rfl rfl (show _ < 9 by omega) ?_
          rw [fmJ_t (by omega), ← hT]
          refine x_aload_n dX5_isHeardSo_32 rfl ?_
          refine x_getR (j := 53) dX5_isHeardSo_33 gf_RX5_16 rfl rfl (hN _ _ (by decide)) ?_
          refine x_iload_n dX5_isHeardSo_36 rfl ?_
          refine x_iald (j) dX5_isHeardSo_37 rfl h2 (show _ < 8 by omega) ?_
          rw [fmJ_o (by omega) (by omega)]
          refine x_icmp_ne 45 dX5_isHeardSo_38 (by decide) (by have := hTb i (by omega); unfold inr; omega) (by unfold inr; omega) (fun h_38 => ?_) (fun h_38 => ?_)
          · refine x_iconst dX5_isHeardSo_45 ?_
            refine x_ist1 dX5_isHeardSo_46 ?_
            refine x_inc2 dX5_isHeardSo_47 ?_
            refine x_goto 9 dX5_isHeardSo_50 (by decide) ?_
            refine ih (j + 1) _ _ (by omega) (by omega) (by omega) ?_
            rw [hst]
            by_cases y : sgB T (I 52) (I 53) j = true
            · rw [if_pos y] at h3
              rw [y, Bool.true_and]
              first
              | (exfalso; omega)
              | (rw [if_pos (decide_eq_true (by omega))])
              | (rw [if_neg (by rw [decide_eq_true_iff]; omega)])
            · rw [if_neg y] at h3
              rw [Bool.eq_false_iff.mpr y, Bool.false_and]
              first
              | (rw [if_neg (by decide)]; done)
              | (exfalso; omega)
          · refine x_iconst dX5_isHeardSo_41 ?_
            refine x_goto 46 dX5_isHeardSo_42 (by decide) ?_
            refine x_ist1 dX5_isHeardSo_46 ?_
            refine x_inc2 dX5_isHeardSo_47 ?_
            refine x_goto 9 dX5_isHeardSo_50 (by decide) ?_
            refine ih (j + 1) _ _ (by omega) (by omega) (by omega) ?_
            rw [hst]
            by_cases y : sgB T (I 52) (I 53) j = true
            · rw [if_pos y] at h3
              rw [y, Bool.true_and]
              first
              | (exfalso; omega)
              | (rw [if_pos (decide_eq_true (by omega))])
              | (rw [if_neg (by rw [decide_eq_true_iff]; omega)])
            · rw [if_neg y] at h3
              rw [Bool.eq_false_iff.mpr y, Bool.false_and]
              first
              | (rw [if_neg (by decide)]; done)
              | (exfalso; omega)
  refine x_aload_n dX5_isHeardSo_0 rfl ?_
  refine x_iconst dX5_isHeardSo_1 ?_
  refine xf_VV1 dX5_isHeardSo_2 ml_RX5_131 vw_X5_flow vv_X5_flow rfl (sp_mflow hN hB (by unfold inr; omega)) ⟨Nat.le_of_ble_eq_true rfl, Nat.le_of_ble_eq_true rfl, Nat.le_of_ble_eq_true rfl, Nat.le_of_ble_eq_true rfl, Nat.le_of_ble_eq_true rfl⟩ ?_
  refine x_iconst dX5_isHeardSo_5 ?_
  refine x_ist1 dX5_isHeardSo_6 ?_
  refine x_iconst dX5_isHeardSo_7 ?_
  refine x_ist2 dX5_isHeardSo_8 ?_
  exact lp (s + 1) 0 _ _ (by omega) (by omega) rfl rfl
theorem sp_leaksBy (hN : NS N) (hB : RM I n) {s : Nat} (hG : SM I n s) (f k : Nat) (hfn : f < n) (hk9 : k < 9) {zf zk : Int} (hf : zf = (f : Int)) (hk : zk = ((k + 1 : Nat) : Int)) : SpI G mX5_leaksBy .boolean 4 91 0 0 [.ref 50, vi zf, vi zk] K N I (pI K N (fun z J => z = (if lkP (fm I) (l0M I 0) (I 52) (I 53) s f k = true then 1 else 0) ∧ kpM I J ∧ (lkP (fm I) (l0M I 0) (I 52) (I 53) s f k = true → ∀ g, g < n → J 57 g = lkT (fm I) (l0M I 0) f k g) ∧ (∀ a b, 59 ≤ a → J a b = I a b))) := by
  refine SpI.of (own := RX5) (cc := cX5_leaksBy) (L := [some (.ref 50), some (vi zf), some (vi zk), none]) (by decide) rfl rfl (Nat.le_of_ble_eq_true rfl) rfl (fun Fx hnm hret => ?_)
  have hn9 := hB.2.2.1
  have bF := hB.2.2.2.1 f hfn
  refine x_aload_n dX5_leaksBy_0 rfl ?_
  refine x_getR (j := 51) dX5_leaksBy_1 gf_RX5_7 rfl rfl (hN _ _ (by decide)) ?_
  refine x_iconst dX5_leaksBy_4 ?_
  refine x_iload_n dX5_leaksBy_5 rfl ?_
  refine xf_SI2 dX5_leaksBy_6 ml_RX5_82 vw_X5_at st_X5_at (sp_at) ⟨Nat.le_of_ble_eq_true rfl, Nat.le_of_ble_eq_true rfl, Nat.le_of_ble_eq_true rfl, Nat.le_of_ble_eq_true rfl, Nat.le_of_ble_eq_true rfl⟩ ?_
  refine x_iald (9 * 5 + f) dX5_leaksBy_9 rfl (by omega) (show _ < 63 by omega) ?_
  rw [show I 51 (9 * 5 + f) = fm I f 5 from (fm_at (by omega)).symm]
  refine x_iload_n dX5_leaksBy_10 rfl ?_
  refine x_iadd dX5_leaksBy_11 ?_
  refine x_bipush dX5_leaksBy_12 (by decide) ?_
  refine x_icmp_le 19 dX5_leaksBy_14 (by decide) (by unfold inr; omega) (by unfold inr; omega) (fun h_14 => ?_) (fun h_14 => ?_)
  · refine x_aload_n dX5_leaksBy_19 rfl ?_
    refine x_getR (j := 51) dX5_leaksBy_20 gf_RX5_7 rfl rfl (hN _ _ (by decide)) ?_
    refine x_iconst dX5_leaksBy_23 ?_
    refine x_iload_n dX5_leaksBy_24 rfl ?_
    refine xf_SI2 dX5_leaksBy_25 ml_RX5_82 vw_X5_at st_X5_at (sp_at) ⟨Nat.le_of_ble_eq_true rfl, Nat.le_of_ble_eq_true rfl, Nat.le_of_ble_eq_true rfl, Nat.le_of_ble_eq_true rfl, Nat.le_of_ble_eq_true rfl⟩ ?_
    refine x_dup2 dX5_leaksBy_28 ?_
    refine x_iald (9 * 5 + f) dX5_leaksBy_29 rfl (by omega) (show _ < 63 by omega) ?_
    rw [show I 51 (9 * 5 + f) = fm I f 5 from (fm_at (by omega)).symm]
    refine x_iload_n dX5_leaksBy_30 rfl ?_
    refine x_iadd dX5_leaksBy_31 ?_
    refine x_iast (9 * 5 + f) dX5_leaksBy_32 rfl (by omega) (show _ < 63 by omega) ?_
    have hX : kpX 51 (9 * 5 + f) I (up I 51 (9 * 5 + f) (fm I f 5 + zk)) := (kpM.rf.X).hole
    have hB2 := hX.RM hB (by omega) up_s (by unfold okF; omega)
    have hG2 := hX.SM hG
    have hF2 := hX.fm (by omega) up_s
    refine x_aload_n dX5_leaksBy_33 rfl ?_
    refine xf_VI0 dX5_leaksBy_34 ml_RX5_196 vw_X5_isHeardSo vv_X5_isHeardSo rfl (sp_isHeardSo hN hB2 hG2) ⟨Nat.le_of_ble_eq_true rfl, Nat.le_of_ble_eq_true rfl, Nat.le_of_ble_eq_true rfl, Nat.le_of_ble_eq_true rfl, Nat.le_of_ble_eq_true rfl⟩ ?_
    rw [hF2, hX.l0, hX.s52, hX.s53]
    refine x_ist3 dX5_leaksBy_37 ?_
    refine x_aload_n dX5_leaksBy_38 rfl ?_
    refine x_getR (j := 51) dX5_leaksBy_39 gf_RX5_7 rfl rfl (hN _ _ (by decide)) ?_
    refine x_iconst dX5_leaksBy_42 ?_
    refine x_iload_n dX5_leaksBy_43 rfl ?_
    refine xf_SI2 dX5_leaksBy_44 ml_RX5_82 vw_X5_at st_X5_at (sp_at) ⟨Nat.le_of_ble_eq_true rfl, Nat.le_of_ble_eq_true rfl, Nat.le_of_ble_eq_true rfl, Nat.le_of_ble_eq_true rfl, Nat.le_of_ble_eq_true rfl⟩ ?_
    refine x_dup2 dX5_leaksBy_47 ?_
    refine x_iald (9 * 5 + f) dX5_leaksBy_48 rfl (by omega) (show _ < 63 by omega) ?_
    rw [fmJ_o (by omega) (by omega), up_s]
    refine x_iload_n dX5_leaksBy_49 rfl ?_
    refine x_isub dX5_leaksBy_50 ?_
    refine x_eqV (b := fm I f 5) (by omega) ?_
    refine x_iast (9 * 5 + f) dX5_leaksBy_51 rfl (by omega) (show _ < 63 by omega) ?_
    refine x_iload_n dX5_leaksBy_52 rfl ?_
    refine hret _ _ _ _ _ _ dX5_leaksBy_53 nbz ?_
    have e : lkP (fm I) (l0M I 0) (I 52) (I 53) s f k = sgB (tok (setF (fm I) f 5 (fm I f 5 + zk)) 0 (l0M I 0)) (I 52) (I 53) s := by
      unfold lkP
      rw [decide_eq_true (by omega), Bool.true_and, hk]
    refine ⟨rfl, rfl, by rw [e], hX.fl.back (fm_at (by omega)), fun _ g hg => ?_, fun a b ha => ?_⟩
    · rw [up_n1 (by omega), fmJ_t hg, hF2, hX.l0]
      unfold lkT
      rw [← hk]
    · rw [up_n1 (by omega), fmJ_o (by omega) (by omega), up_n1 (by omega)]
  · refine x_iconst dX5_leaksBy_17 ?_
    refine hret _ _ _ _ _ _ dX5_leaksBy_18 rfl ?_
    refine ⟨rfl, rfl, ?_, kpM.rf, ?_, fun _ _ _ => rfl⟩
    · rw [if_neg]
      unfold lkP
      rw [decide_eq_false (by omega), Bool.false_and]; decide
    · intro z
      exfalso
      unfold lkP at z
      rw [decide_eq_false (by omega), Bool.false_and] at z
      exact absurd z (by decide)
theorem sp_mleak (hN : NS N) (hB : RM I n) {s : Nat} (hG : SM I n s) {i : Int} (hi : inr i) : SpI G mX5_leak .int 5 114 0 0 [.ref 50, vi i] K N I (pI K N (fun z J => z = foA (lkA (fm I) (l0M I 0) (I 52) (I 53) s n) i ∧ kpM I J)) := by
  refine SpI.of (own := RX5) (cc := cX5_leak) (L := [some (.ref 50), some (vi i), none, none, none]) (by decide) rfl rfl (Nat.le_of_ble_eq_true rfl) rfl (fun Fx hnm hret => ?_)
  have hn9 := hB.2.2.1
  obtain ⟨P, hP⟩ : ∃ P, P = lkP (fm I) (l0M I 0) (I 52) (I 53) s := ⟨_, rfl⟩
  obtain ⟨V, hV⟩ : ∃ V : Nat → Nat → Int, V = fun (f k : Nat) => 10 * (f : Int) + ((k + 1 : Nat) : Int) := ⟨_, rfl⟩
  obtain ⟨L, hL⟩ : ∃ L : Nat → List Int, L = fun f => clL (P f) (V f) 9 := ⟨_, rfl⟩
  have hLl : ∀ g, (clA L g).length ≤ 9 * g := clA_len (fun f => by rw [hL]; exact clL_len 9)
  have hA : lkA (fm I) (l0M I 0) (I 52) (I 53) s n = clA L n := by rw [hL, hV, hP]; rfl
  rw [hA] at hret
  have lp : ∀ (m : Nat) (g : Nat) (z c : Int) (J : MM), g ≤ n → n < g + m → z = (g : Int) → c = ((clA L g).length : Int) → ¬ (0 ≤ i ∧ i < ((clA L g).length : Int)) → kpM I J → XX G RX5 cX5_leak (RmW 5 114 0 0) Fx 4 [some (.ref 50), some (vi i), some (vi c), some (vi z), none] [] K N J 0 0 := by
    intro m
    induction m with
    | zero => intros; exfalso; omega
    | succ m ih =>
      intro g z c J h0 h1 h2 h3 h4 h5
      have hJ0 := (h5.RM hB).1
      have hLg := hLl g
      refine x_iload_n dX5_leak_4 rfl ?_
      refine x_aload_n dX5_leak_5 rfl ?_
      refine x_getI dX5_leak_6 gf_RX5_73 rfl rfl ?_
      rw [hJ0]
      refine x_icmp_ge 60 dX5_leak_9 (by decide) (by unfold inr; omega) (by unfold inr; omega) (fun h_9 => ?_) (fun h_9 => ?_)
      · obtain rfl : g = n := by omega
        refine x_iload_n dX5_leak_60 rfl ?_
        refine x_iconst dX5_leak_61 ?_
        refine x_icmp_ne 69 dX5_leak_62 (by decide) hi (by unfold inr; omega) (fun h_62 => ?_) (fun h_62 => ?_)
        · refine x_bipush dX5_leak_69 (by decide) ?_
          refine hret _ _ _ _ _ _ dX5_leak_71 rfl ?_
          refine ⟨rfl, rfl, ?_, h5⟩
          rw [foA_no h4]
          first
          | (rw [if_pos (by omega)]; exact h3)
          | (rw [if_neg (by omega)])
        · refine x_iload_n dX5_leak_65 rfl ?_
          refine x_goto 71 dX5_leak_66 (by decide) ?_
          refine hret _ _ _ _ _ _ dX5_leak_71 rfl ?_
          refine ⟨rfl, rfl, ?_, h5⟩
          rw [foA_no h4]
          first
          | (rw [if_pos (by omega)]; exact h3)
          | (rw [if_neg (by omega)])
      · refine x_iconst dX5_leak_12 ?_
        refine x_ist4 dX5_leak_13 ?_
        have lp : ∀ (m2 : Nat) (k : Nat) (y c : Int) (J : MM), k ≤ 9 → 9 < k + m2 → y = ((k + 1 : Nat) : Int) → c = ((clA L g ++ clL (P g) (V g) k).length : Int) → ¬ (0 ≤ i ∧ i < ((clA L g ++ clL (P g) (V g) k).length : Int)) → kpM I J → XX G RX5 cX5_leak (RmW 5 114 0 0) Fx 15 [some (.ref 50), some (vi i), some (vi c), some (vi z), some (vi y)] [] K N J 0 0 := by
          intro m2
          induction m2 with
          | zero => intros; exfalso; omega
          | succ m2 ih2 =>
            intro k y c J g0 g1 g2 g3 g4 g5
            have hBJ := h5.RM hB
            have hLk : (clL (P g) (V g) k).length ≤ k := clL_len k
            have hLs : (clA L g ++ clL (P g) (V g) k).length = (clA L g).length + (clL (P g) (V g) k).length := List.length_append
            have hst : clL (P g) (V g) (k + 1) = clL (P g) (V g) k ++ (if P g k = true then [V g k] else []) := rfl
            refine x_iload dX5_leak_15 rfl ?_
            refine x_bipush dX5_leak_17 (by decide) ?_
            refine x_icmp_gt 54 dX5_leak_19 (by decide) (by unfold inr; omega) (by unfold inr; omega) (fun h_19 => ?_) (fun h_19 => ?_)
            · refine x_inc3 dX5_leak_54 ?_
              refine x_goto 4 dX5_leak_57 (by decide) ?_
              obtain rfl : k = 9 := by omega
              have e : clA L (g + 1) = clA L g ++ clL (P g) (V g) 9 := by show clA L g ++ L g = _; rw [hL]
              refine x_dr4 (ih (g + 1) _ _ _ (by omega) (by omega) (by omega) ?_ ?_ g5)
              · rw [e]; exact g3
              · rw [e]; exact g4
            · refine x_aload_n dX5_leak_22 rfl ?_
              refine x_iload_n dX5_leak_23 rfl ?_
              refine x_iload dX5_leak_24 rfl ?_
              refine xp_VI2 dX5_leak_26 ml_RX5_200 vw_X5_leaksBy vv_X5_leaksBy rfl (sp_leaksBy hN (g5.RM hB) (g5.SM hG) g k (by omega) (by omega) h2 g2) ⟨Nat.le_of_ble_eq_true rfl, Nat.le_of_ble_eq_true rfl, Nat.le_of_ble_eq_true rfl, Nat.le_of_ble_eq_true rfl, Nat.le_of_ble_eq_true rfl⟩ (fun z1 I1 hq => ?_)
              obtain ⟨hz, hk2, -, -⟩ := hq
              rw [g5.fm, g5.l0, g5.s52, g5.s53, ← hP] at hz
              rw [hz]
              refine x_if_eq 48 dX5_leak_29 (by decide) (by unfold inr; split <;> omega) (fun h_29 => ?_) (fun h_29 => ?_)
              · replace h_29 := b0 h_29
                refine x_inc4 dX5_leak_48 ?_
                refine x_goto 15 dX5_leak_51 (by decide) ?_
                first
                | (rw [if_neg h_29, List.append_nil] at hst
                   refine ih2 (k + 1) _ _ _ (by omega) (by omega) (by omega) ?_ ?_ (g5.tr hk2)
                   · rw [hst]; exact g3
                   · rw [hst]; exact g4)
                | (rw [if_pos h_29] at hst
                   have hl1 : (clA L g ++ clL (P g) (V g) (k + 1)).length = (clA L g).length + (clL (P g) (V g) k).length + 1 := by rw [hst]; simp; omega
                   refine ih2 (k + 1) _ _ _ (by omega) (by omega) (by omega) ?_ ?_ (g5.tr hk2)
                   · rw [hl1]; omega
                   · rw [hl1]; omega)
              · replace h_29 := b1 h_29
                refine x_iload_n dX5_leak_32 rfl ?_
                refine x_iload_n dX5_leak_33 rfl ?_
                refine x_icmp_ne 45 dX5_leak_34 (by decide) (by unfold inr; omega) hi (fun h_34 => ?_) (fun h_34 => ?_)
                · refine x_inc2 dX5_leak_45 ?_
                  refine x_inc4 dX5_leak_48 ?_
                  refine x_goto 15 dX5_leak_51 (by decide) ?_
                  first
                  | (rw [if_neg h_29, List.append_nil] at hst
                     refine ih2 (k + 1) _ _ _ (by omega) (by omega) (by omega) ?_ ?_ (g5.tr hk2)
                     · rw [hst]; exact g3
                     · rw [hst]; exact g4)
                  | (rw [if_pos h_29] at hst
                     have hl1 : (clA L g ++ clL (P g) (V g) (k + 1)).length = (clA L g).length + (clL (P g) (V g) k).length + 1 := by rw [hst]; simp; omega
                     refine ih2 (k + 1) _ _ _ (by omega) (by omega) (by omega) ?_ ?_ (g5.tr hk2)
                     · rw [hl1]; omega
                     · rw [hl1]; omega)
                · refine x_bipush dX5_leak_37 (by decide) ?_
                  refine x_iload_n dX5_leak_39 rfl ?_
                  refine x_imul dX5_leak_40 ?_
                  refine x_iload dX5_leak_41 rfl ?_
                  refine x_iadd dX5_leak_43 ?_
                  refine hret _ _ _ _ _ _ dX5_leak_44 rfl ?_
                  refine ⟨rfl, rfl, ?_, g5.tr hk2⟩
                  rw [cl_hit (P := P g) (V := V g) (c := 9) (k := k) (g := g) (by rw [hL]) (by omega) (by omega) h_29 (by omega), hV]
                  show 10 * z + y = 10 * (g : Int) + ((k + 1 : Nat) : Int)
                  omega
        exact lp 10 0 _ _ _ (by omega) (by omega) rfl (by rw [show clL (P g) (V g) 0 = [] from rfl, List.append_nil]; exact h3) (by rw [show clL (P g) (V g) 0 = [] from rfl, List.append_nil]; exact h4) h5
  refine x_iconst dX5_leak_0 ?_
  refine x_ist2 dX5_leak_1 ?_
  refine x_iconst dX5_leak_2 ?_
  refine x_ist3 dX5_leak_3 ?_
  exact lp (n + 1) 0 _ _ _ (by omega) (by omega) rfl rfl (by show ¬ (0 ≤ i ∧ i < 0); omega) kpM.rf
theorem sp_mborer (hN : NS N) (hB : RM I n) {s : Nat} (hG : SM I n s) {i : Int} (hi : inr i) : SpI G mX5_borer .int 4 91 0 0 [.ref 50, vi i] K N I (pI K N (fun z J => z = foA (boA (fm I) (l0M I 0) (I 52) (I 53) s n) i ∧ kpM I J)) := by
  refine SpI.of (own := RX5) (cc := cX5_borer) (L := [some (.ref 50), some (vi i), none, none, none, none, none]) (by decide) rfl rfl (Nat.le_of_ble_eq_true rfl) rfl (fun Fx hnm hret => ?_)
  have hn9 := hB.2.2.1
  obtain ⟨P, hP⟩ : ∃ P : Nat → Nat → Bool, P = fun (f h : Nat) => sgB (tok (setF (fm I) f 0 (h : Int)) 0 (l0M I 0)) (I 52) (I 53) s := ⟨_, rfl⟩
  obtain ⟨V, hV⟩ : ∃ V : Nat → Nat → Int, V = fun (f h : Nat) => 100 * (f : Int) + (h : Int) := ⟨_, rfl⟩
  obtain ⟨L, hL⟩ : ∃ L : Nat → List Int, L = fun f => clL (P f) (V f) (fm I f 0).toNat := ⟨_, rfl⟩
  have hA : boA (fm I) (l0M I 0) (I 52) (I 53) s n = clA L n := by rw [hL, hV, hP]; rfl
  have hLl : ∀ g, g ≤ n → (clA L g).length ≤ 50 * g := fun g => by
    induction g with
    | zero => intro _; exact Nat.le_refl _
    | succ g ih =>
      intro hg
      have bF := hB.2.2.2.1 g (by omega)
      have h2 := clL_len (P := P g) (V := V g) (fm I g 0).toNat
      have h3 := ih (by omega)
      have e : (clA L (g + 1)).length = (clA L g).length + (clL (P g) (V g) (fm I g 0).toNat).length := by
        show (clA L g ++ L g).length = _
        rw [List.length_append, hL]
      omega
  rw [hA] at hret
  have lp : ∀ (m : Nat) (g : Nat) (z c : Int) (J : MM), g ≤ n → n < g + m → z = (g : Int) → c = ((clA L g).length : Int) → ¬ (0 ≤ i ∧ i < ((clA L g).length : Int)) → kpM I J → XX G RX5 cX5_borer (RmW 4 91 0 0) Fx 4 [some (.ref 50), some (vi i), some (vi c), some (vi z), none, none, none] [] K N J 0 0 := by
    intro m
    induction m with
    | zero => intros; exfalso; omega
    | succ m ih =>
      intro g z c J h0 h1 h2 h3 h4 h5
      have hJ0 := (h5.RM hB).1
      have hLg := hLl g h0
      have bF : g < n → _ := hB.2.2.2.1 g
      refine x_iload_n dX5_borer_4 rfl ?_
      refine x_aload_n dX5_borer_5 rfl ?_
      refine x_getI dX5_borer_6 gf_RX5_73 rfl rfl ?_
      rw [hJ0]
      refine x_icmp_ge 97 dX5_borer_9 (by decide) (by unfold inr; omega) (by unfold inr; omega) (fun h_9 => ?_) (fun h_9 => ?_)
      · obtain rfl : g = n := by omega
        refine x_iload_n dX5_borer_97 rfl ?_
        refine x_iconst dX5_borer_98 ?_
        refine x_icmp_ne 106 dX5_borer_99 (by decide) hi (by unfold inr; omega) (fun h_99 => ?_) (fun h_99 => ?_)
        · refine x_bipush dX5_borer_106 (by decide) ?_
          refine hret _ _ _ _ _ _ dX5_borer_108 rfl ?_
          refine ⟨rfl, rfl, ?_, h5⟩
          rw [foA_no h4]
          first
          | (rw [if_pos (by omega)]; exact h3)
          | (rw [if_neg (by omega)])
        · refine x_iload_n dX5_borer_102 rfl ?_
          refine x_goto 108 dX5_borer_103 (by decide) ?_
          refine hret _ _ _ _ _ _ dX5_borer_108 rfl ?_
          refine ⟨rfl, rfl, ?_, h5⟩
          rw [foA_no h4]
          first
          | (rw [if_pos (by omega)]; exact h3)
          | (rw [if_neg (by omega)])
      · refine x_aload_n dX5_borer_12 rfl ?_
        refine x_getR (j := 51) dX5_borer_13 gf_RX5_7 rfl rfl (hN _ _ (by decide)) ?_
        refine x_iconst dX5_borer_16 ?_
        refine x_iload_n dX5_borer_17 rfl ?_
        refine xf_SI2 dX5_borer_18 ml_RX5_82 vw_X5_at st_X5_at (sp_at) ⟨Nat.le_of_ble_eq_true rfl, Nat.le_of_ble_eq_true rfl, Nat.le_of_ble_eq_true rfl, Nat.le_of_ble_eq_true rfl, Nat.le_of_ble_eq_true rfl⟩ ?_
        refine x_iald (9 * 0 + g) dX5_borer_21 rfl (by omega) (show _ < 63 by omega) ?_
        rw [show J 51 (9 * 0 + g) = fm J g 0 from (fm_at (by omega)).symm]
        rw [h5.fm]
        have bF2 := bF (by omega)
        have hgn : g < n := by omega
        refine x_ist4 dX5_borer_22 ?_
        refine x_iconst dX5_borer_24 ?_
        refine x_ist5 dX5_borer_25 ?_
        have lp : ∀ (m2 : Nat) (k : Nat) (y c : Int) (J : MM), (k : Int) ≤ fm I g 0 → fm I g 0 < k + m2 → y = (k : Int) → c = ((clA L g ++ clL (P g) (V g) k).length : Int) → ¬ (0 ≤ i ∧ i < ((clA L g ++ clL (P g) (V g) k).length : Int)) → kpM I J → XX G RX5 cX5_borer (RmW 4 91 0 0) Fx 27 [some (.ref 50), some (vi i), some (vi c), some (vi z), some (vi (fm I g 0)), some (vi y), none] [] K N J 0 0 := by
          intro m2
          induction m2 with
          | zero => intros; exfalso; omega
          | succ m2 ih2 =>
            intro k y c J g0 g1 g2 g3 g4 g5
            have hLk : (clL (P g) (V g) k).length ≤ k := clL_len k
            have hLs : (clA L g ++ clL (P g) (V g) k).length = (clA L g).length + (clL (P g) (V g) k).length := List.length_append
            have hst : clL (P g) (V g) (k + 1) = clL (P g) (V g) k ++ (if P g k = true then [V g k] else []) := rfl
            have hX : kpX 51 (9 * 0 + g) I (up J 51 (9 * 0 + g) y) := g5.X.hole
            have hF2 := hX.fm (by omega) up_s
            have hB2 : y ≤ 50 → RM (up J 51 (9 * 0 + g) y) n := fun hy => hX.RM hB (by omega) up_s (by unfold okF; omega)
            have hG2 := hX.SM hG
            have hk2 := (hX.fl (n := n) (kn := 0)).back (v := fm I g 0) (fm_at (by omega))
            have hz : (if sgB (tok (setF (fm I) g 0 y) 0 (l0M I 0)) (I 52) (I 53) s = true then (1 : Int) else 0) = (if P g k = true then 1 else 0) := by rw [hP, g2]
            refine x_iload dX5_borer_27 rfl ?_
            refine x_iload dX5_borer_29 rfl ?_
            refine x_icmp_ge 91 dX5_borer_31 (by decide) (by unfold inr; omega) (by unfold inr; omega) (fun h_31 => ?_) (fun h_31 => ?_)
            · refine x_inc3 dX5_borer_91 ?_
              refine x_goto 4 dX5_borer_94 (by decide) ?_
              have e : clA L (g + 1) = clA L g ++ clL (P g) (V g) k := by show clA L g ++ L g = _; rw [hL, show k = (fm I g 0).toNat by omega]
              refine x_dr4 (x_dr5 (ih (g + 1) _ _ _ (by omega) (by omega) (by omega) ?_ ?_ g5))
              · rw [e]; exact g3
              · rw [e]; exact g4
            · refine x_aload_n dX5_borer_34 rfl ?_
              refine x_getR (j := 51) dX5_borer_35 gf_RX5_7 rfl rfl (hN _ _ (by decide)) ?_
              refine x_iconst dX5_borer_38 ?_
              refine x_iload_n dX5_borer_39 rfl ?_
              refine xf_SI2 dX5_borer_40 ml_RX5_82 vw_X5_at st_X5_at (sp_at) ⟨Nat.le_of_ble_eq_true rfl, Nat.le_of_ble_eq_true rfl, Nat.le_of_ble_eq_true rfl, Nat.le_of_ble_eq_true rfl, Nat.le_of_ble_eq_true rfl⟩ ?_
              refine x_iload dX5_borer_43 rfl ?_
              refine x_iast (9 * 0 + g) dX5_borer_45 rfl (by omega) (show _ < 63 by omega) ?_
              refine x_aload_n dX5_borer_46 rfl ?_
              refine xf_VI0 dX5_borer_47 ml_RX5_196 vw_X5_isHeardSo vv_X5_isHeardSo rfl (sp_isHeardSo hN (hB2 (by omega)) hG2) ⟨Nat.le_of_ble_eq_true rfl, Nat.le_of_ble_eq_true rfl, Nat.le_of_ble_eq_true rfl, Nat.le_of_ble_eq_true rfl, Nat.le_of_ble_eq_true rfl⟩ ?_
              rw [hF2, hX.l0, hX.s52, hX.s53, hz]
              refine x_ist6 dX5_borer_50 ?_
              refine x_aload_n dX5_borer_52 rfl ?_
              refine x_getR (j := 51) dX5_borer_53 gf_RX5_7 rfl rfl (hN _ _ (by decide)) ?_
              refine x_iconst dX5_borer_56 ?_
              refine x_iload_n dX5_borer_57 rfl ?_
              refine xf_SI2 dX5_borer_58 ml_RX5_82 vw_X5_at st_X5_at (sp_at) ⟨Nat.le_of_ble_eq_true rfl, Nat.le_of_ble_eq_true rfl, Nat.le_of_ble_eq_true rfl, Nat.le_of_ble_eq_true rfl, Nat.le_of_ble_eq_true rfl⟩ ?_
              refine x_iload dX5_borer_61 rfl ?_
              refine x_iast (9 * 0 + g) dX5_borer_63 rfl (by omega) (show _ < 63 by omega) ?_
              refine x_iload dX5_borer_64 rfl ?_
              refine x_if_eq 85 dX5_borer_66 (by decide) (by unfold inr; split <;> omega) (fun h_66 => ?_) (fun h_66 => ?_)
              · replace h_66 := b0 h_66
                refine x_inc5 dX5_borer_85 ?_
                refine x_goto 27 dX5_borer_88 (by decide) ?_
                first
                | (rw [if_neg h_66, List.append_nil] at hst
                   refine x_dr6 (ih2 (k + 1) _ _ _ (by omega) (by omega) (by omega) ?_ ?_ hk2)
                   · rw [hst]; exact g3
                   · rw [hst]; exact g4)
                | (rw [if_pos h_66] at hst
                   have hl1 : (clA L g ++ clL (P g) (V g) (k + 1)).length = (clA L g).length + (clL (P g) (V g) k).length + 1 := by rw [hst]; simp; omega
                   refine x_dr6 (ih2 (k + 1) _ _ _ (by omega) (by omega) (by omega) ?_ ?_ hk2)
                   · rw [hl1]; omega
                   · rw [hl1]; omega)
              · replace h_66 := b1 h_66
                refine x_iload_n dX5_borer_69 rfl ?_
                refine x_iload_n dX5_borer_70 rfl ?_
                refine x_icmp_ne 82 dX5_borer_71 (by decide) (by unfold inr; omega) hi (fun h_71 => ?_) (fun h_71 => ?_)
                · refine x_inc2 dX5_borer_82 ?_
                  refine x_inc5 dX5_borer_85 ?_
                  refine x_goto 27 dX5_borer_88 (by decide) ?_
                  first
                  | (rw [if_neg h_66, List.append_nil] at hst
                     refine x_dr6 (ih2 (k + 1) _ _ _ (by omega) (by omega) (by omega) ?_ ?_ hk2)
                     · rw [hst]; exact g3
                     · rw [hst]; exact g4)
                  | (rw [if_pos h_66] at hst
                     have hl1 : (clA L g ++ clL (P g) (V g) (k + 1)).length = (clA L g).length + (clL (P g) (V g) k).length + 1 := by rw [hst]; simp; omega
                     refine x_dr6 (ih2 (k + 1) _ _ _ (by omega) (by omega) (by omega) ?_ ?_ hk2)
                     · rw [hl1]; omega
                     · rw [hl1]; omega)
                · refine x_bipush dX5_borer_74 (by decide) ?_
                  refine x_iload_n dX5_borer_76 rfl ?_
                  refine x_imul dX5_borer_77 ?_
                  refine x_iload dX5_borer_78 rfl ?_
                  refine x_iadd dX5_borer_80 ?_
                  refine hret _ _ _ _ _ _ dX5_borer_81 rfl ?_
                  refine ⟨rfl, rfl, ?_, hk2⟩
                  rw [cl_hit (P := P g) (V := V g) (c := (fm I g 0).toNat) (k := k) (g := g) (by rw [hL]) (by omega) (by omega) h_66 (by omega), hV]
                  show 100 * z + y = 100 * (g : Int) + (k : Int)
                  omega
        exact lp 51 0 _ _ _ (by omega) (by omega) rfl (by rw [show clL (P g) (V g) 0 = [] from rfl, List.append_nil]; exact h3) (by rw [show clL (P g) (V g) 0 = [] from rfl, List.append_nil]; exact h4) h5
  refine x_iconst dX5_borer_0 ?_
  refine x_ist2 dX5_borer_1 ?_
  refine x_iconst dX5_borer_2 ?_
  refine x_ist3 dX5_borer_3 ?_
  exact lp (n + 1) 0 _ _ _ (by omega) (by omega) rfl rfl (by show ¬ (0 ≤ i ∧ i < 0); omega) kpM.rf
end FR
